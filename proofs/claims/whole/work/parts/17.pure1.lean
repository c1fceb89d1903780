/-! ===== loops, as functions ===== -/
/-- the first i < n with p i -/
def fst9 (p : Nat → Bool) : Nat → Option Nat
  | 0 => none
  | n + 1 => match fst9 p n with
    | some i => some i
    | none => if p n then some n else none
theorem fst9_miss {p : Nat → Bool} : ∀ {n : Nat}, (∀ j, j < n → p j = false) → fst9 p n = none
  | 0, _ => rfl
  | n + 1, h => by
    unfold fst9
    rw [fst9_miss (fun j hj => h j (by omega)), h n (by omega)]
    rfl
theorem fst9_hit {p : Nat → Bool} {i : Nat} (h1 : ∀ j, j < i → p j = false) (h2 : p i = true) : ∀ {n : Nat}, i < n → fst9 p n = some i
  | 0, h => absurd h (Nat.not_lt_zero _)
  | n + 1, h => by
    unfold fst9
    by_cases e : i = n
    · subst e
      rw [fst9_miss h1, h2]
      rfl
    · rw [fst9_hit h1 h2 (show i < n by omega)]
theorem fst9_ex {p : Nat → Bool} {j : Nat} (hj : p j = true) : ∀ {n : Nat}, j < n → fst9 p n ≠ none
  | 0, g => absurd g (Nat.not_lt_zero _)
  | n + 1, g => by
    unfold fst9
    cases e2 : fst9 p n with
    | some k => simp
    | none =>
      by_cases e3 : j = n
      · subst e3; simp [hj]
      · exact absurd e2 (fst9_ex hj (by omega))
theorem fst9_some {p : Nat → Bool} : ∀ {n i : Nat}, fst9 p n = some i → i < n ∧ p i = true ∧ ∀ j, j < i → p j = false
  | 0, _, g => by cases g
  | n + 1, i, g => by
    unfold fst9 at g
    cases e : fst9 p n with
    | some k =>
      rw [e] at g
      cases g
      obtain ⟨h1, h2, h3⟩ := fst9_some e
      exact ⟨by omega, h2, h3⟩
    | none =>
      rw [e] at g
      by_cases hp : p n = true
      · simp only [hp, if_true] at g
        cases g
        refine ⟨by omega, hp, fun j hj => ?_⟩
        cases hj2 : p j with
        | false => rfl
        | true => exact absurd e (fst9_ex hj2 hj)
      · simp only [hp] at g
        cases g
theorem fst9_none {p : Nat → Bool} {n : Nat} (h : fst9 p n = none) : ∀ j, j < n → p j = false := by
  induction n with
  | zero => intro j hj; omega
  | succ n ih =>
    unfold fst9 at h
    cases e : fst9 p n with
    | some k => rw [e] at h; cases h
    | none =>
      rw [e] at h
      intro j hj
      by_cases e2 : j = n
      · subst e2
        cases hp : p j with
        | false => rfl
        | true => rw [hp] at h; cases h
      · exact ih e j (by omega)
theorem fst9_cong {p q : Nat → Bool} : ∀ {n : Nat}, (∀ j, j < n → p j = q j) → fst9 p n = fst9 q n
  | 0, _ => rfl
  | n + 1, h => by
    unfold fst9
    rw [fst9_cong (fun j hj => h j (by omega)), h n (by omega)]
def any9 (p : Nat → Bool) (n : Nat) : Bool := (fst9 p n).isSome
theorem any9_miss {p : Nat → Bool} {n : Nat} (h : ∀ j, j < n → p j = false) : any9 p n = false := by rw [any9, fst9_miss h]; rfl
theorem any9_hit {p : Nat → Bool} {n i : Nat} (hi : i < n) (h : p i = true) : any9 p n = true := by
  unfold any9
  cases e : fst9 p n with
  | some k => rfl
  | none => rw [fst9_none e i hi] at h; cases h
theorem any9_false {p : Nat → Bool} {n : Nat} (h : any9 p n = false) : ∀ j, j < n → p j = false := by
  refine fst9_none ?_
  unfold any9 at h
  cases e : fst9 p n with
  | some k => rw [e] at h; cases h
  | none => rfl
theorem any9_true {p : Nat → Bool} {n : Nat} (h : any9 p n = true) : ∃ i, i < n ∧ p i = true := by
  unfold any9 at h
  cases e : fst9 p n with
  | some k => exact ⟨k, (fst9_some e).1, (fst9_some e).2.1⟩
  | none => rw [e] at h; cases h
theorem any9_cong {p q : Nat → Bool} {n : Nat} (h : ∀ j, j < n → p j = q j) : any9 p n = any9 q n := by rw [any9, any9, fst9_cong h]
def all9 (p : Nat → Bool) (n : Nat) : Bool := !(any9 (fun j => !p j) n)
theorem all9_hit {p : Nat → Bool} {n : Nat} (h : ∀ j, j < n → p j = true) : all9 p n = true := by
  unfold all9
  rw [any9_miss (fun j hj => by rw [h j hj]; rfl)]; rfl
theorem all9_miss {p : Nat → Bool} {n i : Nat} (hi : i < n) (h : p i = false) : all9 p n = false := by
  unfold all9
  rw [any9_hit hi (by rw [h]; rfl)]; rfl
theorem all9_cong {p q : Nat → Bool} {n : Nat} (h : ∀ j, j < n → p j = q j) : all9 p n = all9 q n := by
  unfold all9
  rw [any9_cong (fun j hj => by rw [h j hj])]
theorem all9_true {p : Nat → Bool} {n : Nat} (h : all9 p n = true) : ∀ j, j < n → p j = true := by
  intro j hj
  cases e : p j with
  | true => rfl
  | false => rw [all9_miss hj e] at h; cases h
theorem all9_false {p : Nat → Bool} {n : Nat} (h : all9 p n = false) : ∃ i, i < n ∧ p i = false := by
  unfold all9 at h
  obtain ⟨i, h1, h2⟩ := any9_true (show any9 (fun j => !p j) n = true by simpa using h)
  exact ⟨i, h1, by simpa using h2⟩
def cnt9 (p : Nat → Bool) : Nat → Nat
  | 0 => 0
  | n + 1 => cnt9 p n + (if p n then 1 else 0)
theorem cnt9_t {p : Nat → Bool} {n : Nat} (h : p n = true) : cnt9 p (n + 1) = cnt9 p n + 1 := by simp [cnt9, h]
theorem cnt9_f {p : Nat → Bool} {n : Nat} (h : p n = false) : cnt9 p (n + 1) = cnt9 p n := by simp [cnt9, h]
theorem cnt9_le (p : Nat → Bool) : ∀ n, cnt9 p n ≤ n
  | 0 => Nat.le_refl _
  | n + 1 => by
    have := cnt9_le p n
    unfold cnt9
    split <;> omega
theorem cnt9_cong {p q : Nat → Bool} : ∀ {n : Nat}, (∀ j, j < n → p j = q j) → cnt9 p n = cnt9 q n
  | 0, _ => rfl
  | n + 1, h => by
    unfold cnt9
    rw [cnt9_cong (fun j hj => h j (by omega)), h n (by omega)]
theorem cnt9_zero {p : Nat → Bool} {n : Nat} : cnt9 p n = 0 ↔ ∀ j, j < n → p j = false := by
  induction n with
  | zero => exact ⟨fun _ j hj => by omega, fun _ => rfl⟩
  | succ n ih =>
    unfold cnt9
    constructor
    · intro h j hj
      have h1 : cnt9 p n = 0 := by omega
      by_cases e : j = n
      · subst e
        cases hp : p j with
        | false => rfl
        | true => simp [hp] at h
      · exact ih.mp h1 j (by omega)
    · intro h
      rw [h n (by omega), ih.mpr (fun j hj => h j (by omega))]
      rfl
def sum9 (f : Nat → Nat) : Nat → Nat
  | 0 => 0
  | n + 1 => sum9 f n + f n
theorem sum9_le {f : Nat → Nat} {c : Nat} (h : ∀ j, f j ≤ c) : ∀ n, sum9 f n ≤ n * c
  | 0 => by simp [sum9]
  | n + 1 => by
    have h1 := sum9_le h n
    have h2 := h n
    rw [sum9, Nat.succ_mul]
    omega
theorem sum9_cong {f g : Nat → Nat} : ∀ {n : Nat}, (∀ j, j < n → f j = g j) → sum9 f n = sum9 g n
  | 0, _ => rfl
  | n + 1, h => by
    unfold sum9
    rw [sum9_cong (fun j hj => h j (by omega)), h n (by omega)]
/-- the greatest f j, j in a .. n - 1, 0 if there is none -/
def max9 (f : Nat → Nat) (a : Nat) : Nat → Nat
  | 0 => 0
  | n + 1 => if n < a then 0 else max (max9 f a n) (f n)
theorem max9_low {f : Nat → Nat} {a : Nat} : ∀ {n : Nat}, n ≤ a → max9 f a n = 0
  | 0, _ => rfl
  | n + 1, h => by
    unfold max9
    rw [if_pos (by omega)]
theorem max9_up {f : Nat → Nat} {a n : Nat} (h : a ≤ n) : max9 f a (n + 1) = max (max9 f a n) (f n) := by
  unfold max9
  rw [if_neg (by omega)]
  cases n <;> rfl
theorem max9_cong {f g : Nat → Nat} {a : Nat} : ∀ {n : Nat}, (∀ j, a ≤ j → j < n → f j = g j) → max9 f a n = max9 g a n
  | 0, _ => rfl
  | n + 1, h => by
    unfold max9
    by_cases e : n < a
    · rw [if_pos e, if_pos e]
    · rw [if_neg e, if_neg e, max9_cong (fun j h1 hj => h j h1 (by omega)), h n (by omega) (by omega)]
theorem max9_le {f : Nat → Nat} {a c : Nat} : ∀ {n : Nat}, (∀ j, a ≤ j → j < n → f j ≤ c) → max9 f a n ≤ c
  | 0, _ => Nat.zero_le _
  | n + 1, h => by
    unfold max9
    by_cases e : n < a
    · rw [if_pos e]; exact Nat.zero_le _
    · rw [if_neg e]
      exact Nat.max_le.mpr ⟨max9_le (fun j h1 hj => h j h1 (by omega)), h n (by omega) (by omega)⟩
/-- the places below i are g's -/
def low9 {α : Type} (g f : Nat → α) (i : Nat) : Nat → α := fun j => if j < i then g j else f j
theorem low9_0 {α : Type} (g f : Nat → α) : low9 g f 0 = f := by funext j; simp [low9]
theorem low9_s {α : Type} {g f : Nat → α} {i : Nat} {v : α} (h : v = g i) : up1 (low9 g f i) i v = low9 g f (i + 1) := by
  funext j
  unfold up1 low9
  by_cases e : j = i
  · subst e; simp [h]
  · have h1 : j < i + 1 ↔ j < i := by omega
    simp only [if_neg e, h1]
theorem low9_k {α : Type} {g f : Nat → α} {i : Nat} (h : f i = g i) : low9 g f i = low9 g f (i + 1) := by
  funext j
  unfold low9
  by_cases e : j = i
  · subst e; simp [h]
  · have h1 : j < i + 1 ↔ j < i := by omega
    simp only [h1]
theorem low9_at {α : Type} {g f : Nat → α} {i j : Nat} (h : i ≤ j) : low9 g f i j = f j := by simp [low9, Nat.not_lt.mpr h]
theorem low9_in {α : Type} {g f : Nat → α} {i j : Nat} (h : j < i) : low9 g f i j = g j := by simp [low9, h]
theorem up1_same {α : Type} {f : Nat → α} {i : Nat} {v : α} : up1 f i v i = v := by simp [up1]
theorem up1_ne {α : Type} {f : Nat → α} {i j : Nat} {v : α} (h : j ≠ i) : up1 f i v j = f j := by simp [up1, h]
