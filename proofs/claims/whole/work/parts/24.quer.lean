/-! ===== the weak invariant; what the class asks of itself ===== -/
def Wk (S : St) : Prop := (Bnd S) ∧ (rN S 43 0 ≤ 8) ∧ (rN S 44 0 ≤ 16) ∧ (rN S 46 0 ≤ rN S 44 0) ∧ (rN S 45 0 ≤ 16) ∧ (∀ j, rN S 10 j < 4) ∧ (∀ j, rN S 11 j ≤ 60) ∧ (∀ j, rN S 12 j ≤ 3) ∧ (∀ j, rN S 17 j ≤ 2) ∧ (∀ j, rN S 18 j < 6) ∧ (∀ s f, s < rN S 44 0 → rO S 16 s = some f → s < f ∧ f < rN S 44 0) ∧ (∀ p s, p < rN S 43 0 → rO S 9 p = some s → s < rN S 46 0) ∧ (∀ p, rO S 47 0 = some p → p < rN S 43 0) ∧ (∀ p, rO S 48 0 = some p → p < rN S 43 0) ∧ (∀ k, k < rN S 45 0 → rN S 28 k < rN S 46 0) ∧ (∀ j, rN S 25 j ≤ 3) ∧ (∀ j, rN S 26 j ≤ 120) ∧ (rN S 40 0 ≤ 122880) ∧ (rN S 50 0 ≤ 1536) ∧ (∀ s, s < rN S 44 0 → 1 ≤ rN S 12 s) ∧ (∀ s, s < rN S 46 0 → (rC S 22 s = 97 ∨ rC S 22 s = 119 ∨ rC S 22 s = 111) → rN S 25 s < rN S 12 s) ∧ (∀ s, s < rN S 44 0 → 1 ≤ rN S 11 s)
theorem Wk.b {S : St} (h : Wk S) : Bnd S := h.1
theorem Wk.n43 {S : St} (h : Wk S) : rN S 43 0 ≤ 8 := h.2.1
theorem Wk.n44 {S : St} (h : Wk S) : rN S 44 0 ≤ 16 := h.2.2.1
theorem Wk.n46 {S : St} (h : Wk S) : rN S 46 0 ≤ rN S 44 0 := h.2.2.2.1
theorem Wk.n45 {S : St} (h : Wk S) : rN S 45 0 ≤ 16 := h.2.2.2.2.1
theorem Wk.role {S : St} (h : Wk S) : ∀ j, rN S 10 j < 4 := h.2.2.2.2.2.1
theorem Wk.len {S : St} (h : Wk S) : ∀ j, rN S 11 j ≤ 60 := h.2.2.2.2.2.2.1
theorem Wk.lim {S : St} (h : Wk S) : ∀ j, rN S 12 j ≤ 3 := h.2.2.2.2.2.2.2.1
theorem Wk.cc {S : St} (h : Wk S) : ∀ j, rN S 17 j ≤ 2 := h.2.2.2.2.2.2.2.2.1
theorem Wk.sen {S : St} (h : Wk S) : ∀ j, rN S 18 j < 6 := h.2.2.2.2.2.2.2.2.2.1
theorem Wk.fb {S : St} (h : Wk S) : ∀ s f, s < rN S 44 0 → rO S 16 s = some f → s < f ∧ f < rN S 44 0 := h.2.2.2.2.2.2.2.2.2.2.1
theorem Wk.wk {S : St} (h : Wk S) : ∀ p s, p < rN S 43 0 → rO S 9 p = some s → s < rN S 46 0 := h.2.2.2.2.2.2.2.2.2.2.2.1
theorem Wk.fr {S : St} (h : Wk S) : ∀ p, rO S 47 0 = some p → p < rN S 43 0 := h.2.2.2.2.2.2.2.2.2.2.2.2.1
theorem Wk.to {S : St} (h : Wk S) : ∀ p, rO S 48 0 = some p → p < rN S 43 0 := h.2.2.2.2.2.2.2.2.2.2.2.2.2.1
theorem Wk.dn {S : St} (h : Wk S) : ∀ k, k < rN S 45 0 → rN S 28 k < rN S 46 0 := h.2.2.2.2.2.2.2.2.2.2.2.2.2.2.1
theorem Wk.tr {S : St} (h : Wk S) : ∀ j, rN S 25 j ≤ 3 := h.2.2.2.2.2.2.2.2.2.2.2.2.2.2.2.1
theorem Wk.wo {S : St} (h : Wk S) : ∀ j, rN S 26 j ≤ 120 := h.2.2.2.2.2.2.2.2.2.2.2.2.2.2.2.2.1
theorem Wk.cl {S : St} (h : Wk S) : rN S 40 0 ≤ 122880 := h.2.2.2.2.2.2.2.2.2.2.2.2.2.2.2.2.2.1
theorem Wk.en {S : St} (h : Wk S) : rN S 50 0 ≤ 1536 := h.2.2.2.2.2.2.2.2.2.2.2.2.2.2.2.2.2.2.1
theorem Wk.lm {S : St} (h : Wk S) : ∀ s, s < rN S 44 0 → 1 ≤ rN S 12 s := h.2.2.2.2.2.2.2.2.2.2.2.2.2.2.2.2.2.2.2.1
theorem Wk.tl {S : St} (h : Wk S) : ∀ s, s < rN S 46 0 → (rC S 22 s = 97 ∨ rC S 22 s = 119 ∨ rC S 22 s = 111) → rN S 25 s < rN S 12 s := h.2.2.2.2.2.2.2.2.2.2.2.2.2.2.2.2.2.2.2.2.1
theorem Wk.l1 {S : St} (h : Wk S) : ∀ s, s < rN S 44 0 → 1 ≤ rN S 11 s := h.2.2.2.2.2.2.2.2.2.2.2.2.2.2.2.2.2.2.2.2.2
theorem Wk.s21 {S : St} (h : Wk S) {f : Nat → Nat} (hf : ∀ j, f j < 1000000) : Wk (sN S 21 f) := ⟨h.b.sN 21 hf, h.n43, h.n44, h.n46, h.n45, h.role, h.len, h.lim, h.cc, h.sen, h.fb, h.wk, h.fr, h.to, h.dn, h.tr, h.wo, h.cl, h.en, h.lm, h.tl, h.l1⟩
def rdgB (x : Int32) : Bool := decide (¬ x < -999 ∧ ¬ nI 999 < x)
/-- the person p can begin a step now -/
def free9 (S : St) (p : Nat) : Bool := rB S 8 p && (!(rO S 9 p).isSome && !decide (rO S 47 0 = some p))
def man9 (S : St) (r : Int32) : Bool := any9 (fun p => free9 S p && hasBit (rI S 7 p) r) (rN S 43 0)
def paus9 (S : St) (r : Int32) : Bool := match rO S 47 0 with
  | none => false
  | some p => hasBit (rI S 7 p) r
def held9 (S : St) : Option Nat := match rO S 47 0 with
  | none => none
  | some p => rO S 9 p
theorem paus9_s {S : St} {p : Nat} {r : Int32} (h : rO S 47 0 = some p) : paus9 S r = hasBit (rI S 7 p) r := by unfold paus9; rw [h]
theorem paus9_n {S : St} {r : Int32} (h : rO S 47 0 = none) : paus9 S r = false := by unfold paus9; rw [h]
theorem held9_s {S : St} {p : Nat} (h : rO S 47 0 = some p) : held9 S = rO S 9 p := by unfold held9; rw [h]
theorem held9_n {S : St} (h : rO S 47 0 = none) : held9 S = none := by unfold held9; rw [h]
/-- settled, along the fallbacks -/
def stlF (n : Nat) (q : Nat → UInt16) (fb : Nat → Option Nat) : Nat → Option Nat → Bool
  | 0, _ => false
  | _ + 1, none => false
  | d + 1, some s => if s < n then (if q s = 102 then stlF n q fb d (fb s) else decide (q s = 100)) else false
def stl9 (S : St) : Nat → Option Nat → Bool := stlF (rN S 46 0) (rC S 22) (rO S 16)
theorem stl9_f {S : St} {d s : Nat} (h : s < rN S 46 0) (h2 : rC S 22 s = 102) : stl9 S (d + 1) (some s) = stl9 S d (rO S 16 s) := by
  unfold stl9
  rw [stlF, if_pos h, if_pos h2]
theorem stl9_d {S : St} {d s : Nat} (h : s < rN S 46 0) (h2 : ¬ rC S 22 s = 102) : stl9 S (d + 1) (some s) = decide (rC S 22 s = 100) := by
  unfold stl9
  rw [stlF, if_pos h, if_neg h2]
def set9 (S : St) (s : Nat) : Bool := stl9 S 16 (some s)
def ndN (S : St) (s i : Nat) : Nat := cnt9 (fun o => bit9 S s o) i
def stN (S : St) (s i : Nat) : Nat := cnt9 (fun o => bit9 S s o && set9 S o) i
def met9 (S : St) (s : Nat) : Bool := if rC S 13 s = 111 then decide (ndN S s s = 0 ∨ 0 < stN S s s) else decide (stN S s s = ndN S s s)
def rdy9 (S : St) (s : Nat) : Bool := rB S 41 0 && (decide (rC S 22 s = 119) && (met9 S s && guard9 S s))
def cntR (S : St) : Nat := cnt9 (rdy9 S) (rN S 44 0)
def alls9 (S : St) : Bool := all9 (fun s => decide (rC S 22 s = 111) || set9 S s) (rN S 46 0)
def anyA (S : St) : Bool := any9 (fun s => decide (rC S 22 s = 97)) (rN S 46 0)
def morF (g : Nat → Nat → Bool) (i : Nat) : Option Nat → Bool
  | none => true
  | some b => g b i
def bestF (g : Nat → Nat → Bool) (q : Nat → Bool) : Nat → Option Nat
  | 0 => none
  | i + 1 => if (morF g i (bestF g q i) && q i) = true then some i else bestF g q i
/-- the most urgent of the steps below i -/
def best9 (S : St) (p : Nat) : Nat → Option Nat := bestF (fun b i => decide (rst S b < rst S i)) (fun i => rdy9 S i && hasBit (rI S 7 p) (nI (rN S 10 i)))
def mor9 (S : St) : Nat → Option Nat → Bool := morF (fun b i => decide (rst S b < rst S i))
theorem best9_u (S : St) (p i : Nat) : best9 S p (i + 1) = if (mor9 S i (best9 S p i) && (rdy9 S i && hasBit (rI S 7 p) (nI (rN S 10 i)))) = true then some i else best9 S p i := rfl
theorem best9_lt {S : St} {p : Nat} : ∀ {i k : Nat}, best9 S p i = some k → k < i
  | 0, _, h => by cases h
  | i + 1, k, h => by
    rw [best9_u] at h
    split at h
    · cases h; omega
    · exact Nat.lt_succ_of_lt (best9_lt h)
theorem best9_t {S : St} {p i : Nat} (h1 : ∀ b, best9 S p i = some b → rst S b < rst S i) (h2 : rdy9 S i = true) (h3 : hasBit (rI S 7 p) (nI (rN S 10 i)) = true) : best9 S p (i + 1) = some i := by
  rw [best9_u, h2, h3, if_pos]
  cases e : best9 S p i with
  | none => rfl
  | some b => simp [mor9, morF, h1 b e]
theorem best9_f1 {S : St} {p i b : Nat} (h : best9 S p i = some b) (h1 : ¬ rst S b < rst S i) : best9 S p (i + 1) = best9 S p i := by
  rw [best9_u, if_neg]
  rw [h]
  simp [mor9, morF, h1]
theorem best9_f2 {S : St} {p i : Nat} (h : rdy9 S i = false ∨ hasBit (rI S 7 p) (nI (rN S 10 i)) = false) : best9 S p (i + 1) = best9 S p i := by
  rw [best9_u, if_neg]
  rcases h with h | h <;> simp [h]
def tko9 (S : St) (p q : Nat) : Bool := match rO S 9 p with
  | none => true
  | some s => hasBit (rI S 7 q) (nI (rN S 10 s))
def rev9 (S : St) (a : Nat) : Bool := all9 (fun k => decide (k < a) || rB S 14 (rN S 28 k)) (rN S 45 0)
theorem stl9_end {S : St} {d : Nat} {c : Option Nat} (h : inR (o2i c) (rN S 46 0) = false) (hn : rN S 46 0 < 2147483648) (hc : ∀ k, c = some k → k < 2147483648) : stl9 S d c = false := by
  cases d with
  | zero => rfl
  | succ d =>
    cases c with
    | none => rfl
    | some s =>
      have h2 : ¬ s < rN S 46 0 := by
        rw [show o2i (some s) = nI s from rfl, inR_nI hn (hc s rfl)] at h
        simpa using h
      unfold stl9
      rw [stlF, if_neg h2]
theorem inR_some {c : Option Nat} {n : Nat} (hn : n < 2147483648) (h : inR (o2i c) n = true) (hc : ∀ k, c = some k → k < 2147483648) : ∃ k, c = some k ∧ k < n := by
  cases c with
  | none => exact absurd h (by rw [show inR (o2i none) n = false from inR_f1 (show (-1 : Int32) < 0 by decide)]; decide)
  | some k =>
    rw [show o2i (some k) = nI k from rfl, inR_nI hn (hc k rfl)] at h
    exact ⟨k, rfl, by simpa using h⟩
theorem inR_none {c : Option Nat} {n : Nat} (hn : n < 2147483648) (h : inR (o2i c) n = false) (hc : ∀ k, c = some k → k < n) : c = none := by
  cases c with
  | none => rfl
  | some k =>
    have := hc k rfl
    rw [show o2i (some k) = nI k from rfl, inR_nI hn (by omega)] at h
    simp [this] at h
theorem held9_lt {S : St} (h : Wk S) {k : Nat} (e : held9 S = some k) : k < 16 := by
  cases e2 : rO S 47 0 with
  | none => rw [held9_n e2] at e; cases e
  | some p =>
    rw [held9_s e2] at e
    have h1 := h.wk p k (h.fr p e2) e
    have h2 := h.n46
    have h3 := h.n44
    omega
theorem nz9 {p : Prop} (h : p) : p := h
set_option maxRecDepth 20000 in
set_option maxHeartbeats 4000000 in
theorem c_X5_isRole (l : Launch) (D : va_G) (cy : Nat → ClassId) (ad : Nat → Nat) (S : St) (F : va_W) (x : Int32) : Ctr l D cy yX5_isRole (.code yX5_isRole cX5_isRole 1 (some FieldType.boolean)) ({ frames := 0, cells := 0, slots := 0, locals := 0 } : Room) [.int x] (wC ad cy S ++ F) (pI (b2i (inR x 4)) (wC ad cy S ++ F)) pNo := by
  refine Ctr.of (by decide) (Nat.le_of_ble_eq_true rfl) ?_
  intro M X hE hN hB9 hI9
  replace X : VX l D M cy cX5_isRole "Runbooker" (some FieldType.boolean) ({ frames := 0, cells := 0, slots := 0, locals := 0 } : Room) := X
  show V l D M 0 0 (wC ad cy S ++ F) [(0, .int x)] 0 []
  refine V.iload_n X dX5_isRole_0 rfl ?_
  refine V.if_lt (tgt := 13) X dX5_isRole_1 (by decide) id id (fun (hz1 : x < 0) => ?_) (fun (hz1 : ¬ x < 0) => ?_)
  · refine V.iconst (v := nI 0) X dX5_isRole_13 rfl ?_
    exact V.iret (v := b2i false) X hE rfl (nar_b _) (Nat.le_of_ble_eq_true rfl) (Nat.le_of_ble_eq_true rfl) (pB9 (by simp [inR, hz1]) rfl) dX5_isRole_14
  · refine V.iload_n X dX5_isRole_4 rfl ?_
    refine V.iconst (v := nI 4) X dX5_isRole_5 rfl ?_
    refine V.icmp_ge (tgt := 13) X dX5_isRole_6 (by decide) id id (fun (hz6 : nI 4 ≤ x) => ?_) (fun (hz6 : ¬ nI 4 ≤ x) => ?_)
    · refine V.iconst (v := nI 0) X dX5_isRole_13 rfl ?_
      exact V.iret (v := b2i false) X hE rfl (nar_b _) (Nat.le_of_ble_eq_true rfl) (Nat.le_of_ble_eq_true rfl) (pB9 (by simp [inR, hz1, hz6]) rfl) dX5_isRole_14
    · refine V.iconst (v := nI 1) X dX5_isRole_9 rfl ?_
      refine V.goto (tgt := 14) X dX5_isRole_10 (by decide) ?_
      exact V.iret (v := b2i true) X hE rfl (nar_b _) (Nat.le_of_ble_eq_true rfl) (Nat.le_of_ble_eq_true rfl) (pB9 (by simp [inR, hz1, hz6]) rfl) dX5_isRole_14
set_option maxRecDepth 20000 in
set_option maxHeartbeats 4000000 in
theorem c_X5_isReading (l : Launch) (D : va_G) (cy : Nat → ClassId) (ad : Nat → Nat) (S : St) (F : va_W) (x : Int32) : Ctr l D cy yX5_isReading (.code yX5_isReading cX5_isReading 1 (some FieldType.boolean)) ({ frames := 0, cells := 0, slots := 0, locals := 0 } : Room) [.int x] (wC ad cy S ++ F) (pI (b2i (rdgB x)) (wC ad cy S ++ F)) pNo := by
  refine Ctr.of (by decide) (Nat.le_of_ble_eq_true rfl) ?_
  intro M X hE hN hB9 hI9
  replace X : VX l D M cy cX5_isReading "Runbooker" (some FieldType.boolean) ({ frames := 0, cells := 0, slots := 0, locals := 0 } : Room) := X
  show V l D M 0 0 (wC ad cy S ++ F) [(0, .int x)] 0 []
  refine V.iload_n X dX5_isReading_0 rfl ?_
  refine V.sipush (v := -999) X dX5_isReading_1 (by decide) ?_
  refine V.icmp_lt (tgt := 18) X dX5_isReading_4 (by decide) id id (fun (hz4 : x < (-999)) => ?_) (fun (hz4 : ¬ x < (-999)) => ?_)
  · refine V.iconst (v := nI 0) X dX5_isReading_18 rfl ?_
    exact V.iret (v := b2i false) X hE rfl (nar_b _) (Nat.le_of_ble_eq_true rfl) (Nat.le_of_ble_eq_true rfl) (pB9 (by simp [rdgB, hz4]) rfl) dX5_isReading_19
  · refine V.iload_n X dX5_isReading_7 rfl ?_
    refine V.sipush (v := nI 999) X dX5_isReading_8 (by decide) ?_
    refine V.icmp_gt (tgt := 18) X dX5_isReading_11 (by decide) id id (fun (hz11 : nI 999 < x) => ?_) (fun (hz11 : ¬ nI 999 < x) => ?_)
    · refine V.iconst (v := nI 0) X dX5_isReading_18 rfl ?_
      exact V.iret (v := b2i false) X hE rfl (nar_b _) (Nat.le_of_ble_eq_true rfl) (Nat.le_of_ble_eq_true rfl) (pB9 (by simp [rdgB, hz4, hz11]) rfl) dX5_isReading_19
    · refine V.iconst (v := nI 1) X dX5_isReading_14 rfl ?_
      refine V.goto (tgt := 19) X dX5_isReading_15 (by decide) ?_
      exact V.iret (v := b2i true) X hE rfl (nar_b _) (Nat.le_of_ble_eq_true rfl) (Nat.le_of_ble_eq_true rfl) (pB9 (by simp [rdgB, hz4, hz11]) rfl) dX5_isReading_19
set_option maxRecDepth 20000 in
set_option maxHeartbeats 4000000 in
theorem c_X5_isFree (l : Launch) (D : va_G) (cy : Nat → ClassId) (ad : Nat → Nat) (S : St) (F : va_W) (p : Nat) (hW : Wk S) (hp : p < 8) : Ctr l D cy yX5_isFree (.code yX5_isFree cX5_isFree 2 (some FieldType.boolean)) ({ frames := 1, cells := 0, slots := 0, locals := 40 } : Room) [.ref (ad 0), .int (nI p)] (wC ad cy S ++ F) (pI (b2i (free9 S p)) (wC ad cy S ++ F)) pNo := by
  refine Ctr.of (by decide) (Nat.le_of_ble_eq_true rfl) ?_
  intro M X hE hN hB9 hI9
  replace X : VX l D M cy cX5_isFree "Runbooker" (some FieldType.boolean) ({ frames := 1, cells := 0, slots := 0, locals := 40 } : Room) := X
  show V l D M 0 0 (wC ad cy S ++ F) [(0, .ref (ad 0)), (1, .int (nI p))] 0 []
  have hB := hW.b
  have h43 := hW.n43
  have h44 := hW.n44
  have h46 := hW.n46
  have h45 := hW.n45
  have hcl := hW.cl
  have hen := hW.en
  refine V.aload_n X dX5_isFree_0 rfl ?_
  refine wC_gX5_10 X dX5_isFree_1 ?_
  refine wC_gX5_81 X dX5_isFree_4 ?_
  refine V.iload_n X dX5_isFree_7 rfl ?_
  refine wC_ld8 (i := p) X (by omega) dX5_isFree_8 ?_
  refine V.if_eq (tgt := 38) X dX5_isFree_9 (by decide) b2i_0 b2i_n0 (fun (hz9 : rB S 8 p = false) => ?_) (fun (hz9 : rB S 8 p = true) => ?_)
  · refine V.iconst (v := nI 0) X dX5_isFree_38 rfl ?_
    exact V.iret (v := b2i false) X hE rfl (nar_b _) (Nat.le_of_ble_eq_true rfl) (Nat.le_of_ble_eq_true rfl) (pB9 (by simp [free9, hz9]) rfl) dX5_isFree_39
  · refine V.aload_n X dX5_isFree_12 rfl ?_
    refine wC_gX5_10 X dX5_isFree_13 ?_
    refine V.iload_n X dX5_isFree_16 rfl ?_
    refine V.callV1 [.int (nI p)] X (c_X0_isBusy l D cy ad S F p hB (show p < 8 by omega)) mv_X0_isBusy gw_2_203 ⟨⟨(Nat.le_of_ble_eq_true rfl), (Nat.le_of_ble_eq_true rfl)⟩, (Nat.le_of_ble_eq_true rfl), (Nat.le_of_ble_eq_true rfl)⟩ (q0 := 1) (ci := 2) rfl rfl rfl (Nat.le_of_ble_eq_true rfl) dX5_isFree_17 ?_
    refine V.if_ne (tgt := 38) X dX5_isFree_20 (by decide) b2i_n0 b2i_0 (fun (hz20 : (rO S 9 p).isSome = true) => ?_) (fun (hz20 : (rO S 9 p).isSome = false) => ?_)
    · refine V.iconst (v := nI 0) X dX5_isFree_38 rfl ?_
      exact V.iret (v := b2i false) X hE rfl (nar_b _) (Nat.le_of_ble_eq_true rfl) (Nat.le_of_ble_eq_true rfl) (pB9 (by simp [free9, hz9, hz20]) rfl) dX5_isFree_39
    · refine V.aload_n X dX5_isFree_23 rfl ?_
      refine wC_gX5_33 X dX5_isFree_24 ?_
      refine V.iload_n X dX5_isFree_27 rfl ?_
      refine V.callV1 [.int (nI p)] X (c_X1_isFrom l D cy ad S F p hB (show p < 16 by omega)) mv_X1_isFrom gw_3_97 ⟨⟨(Nat.le_of_ble_eq_true rfl), (Nat.le_of_ble_eq_true rfl)⟩, (Nat.le_of_ble_eq_true rfl), (Nat.le_of_ble_eq_true rfl)⟩ (q0 := 4) (ci := 3) rfl rfl rfl (Nat.le_of_ble_eq_true rfl) dX5_isFree_28 ?_
      refine V.if_ne (tgt := 38) X dX5_isFree_31 (by decide) b2i_n0 b2i_0 (fun (hz31 : decide (rO S 47 0 = some p) = true) => ?_) (fun (hz31 : decide (rO S 47 0 = some p) = false) => ?_)
      · refine V.iconst (v := nI 0) X dX5_isFree_38 rfl ?_
        exact V.iret (v := b2i false) X hE rfl (nar_b _) (Nat.le_of_ble_eq_true rfl) (Nat.le_of_ble_eq_true rfl) (pB9 (by simp [free9, hz9, hz20, hz31]) rfl) dX5_isFree_39
      · refine V.iconst (v := nI 1) X dX5_isFree_34 rfl ?_
        refine V.goto (tgt := 39) X dX5_isFree_35 (by decide) ?_
        exact V.iret (v := b2i true) X hE rfl (nar_b _) (Nat.le_of_ble_eq_true rfl) (Nat.le_of_ble_eq_true rfl) (pB9 (by simp [free9, hz9, hz20, hz31]) rfl) dX5_isFree_39
set_option maxRecDepth 20000 in
set_option maxHeartbeats 4000000 in
theorem c_X5_isAnyoneFreeFor (l : Launch) (D : va_G) (cy : Nat → ClassId) (ad : Nat → Nat) (S : St) (F : va_W) (r : Int32) (hW : Wk S) : Ctr l D cy yX5_isAnyoneFreeFor (.code yX5_isAnyoneFreeFor cX5_isAnyoneFreeFor 3 (some FieldType.boolean)) ({ frames := 2, cells := 0, slots := 0, locals := 80 } : Room) [.ref (ad 0), .int r] (wC ad cy S ++ F) (pI (b2i (man9 S r)) (wC ad cy S ++ F)) pNo := by
  refine Ctr.of (by decide) (Nat.le_of_ble_eq_true rfl) ?_
  intro M X hE hN hB9 hI9
  replace X : VX l D M cy cX5_isAnyoneFreeFor "Runbooker" (some FieldType.boolean) ({ frames := 2, cells := 0, slots := 0, locals := 80 } : Room) := X
  show V l D M 0 0 (wC ad cy S ++ F) [(0, .ref (ad 0)), (1, .int r)] 0 []
  have hB := hW.b
  have h43 := hW.n43
  have h44 := hW.n44
  have h46 := hW.n46
  have h45 := hW.n45
  have hcl := hW.cl
  have hen := hW.en
  refine V.iconst (v := nI 0) X dX5_isAnyoneFreeFor_0 rfl ?_
  refine V.istore_n (L' := [(2, .int (nI 0)), (0, .ref (ad 0)), (1, .int r)]) X dX5_isAnyoneFreeFor_1 rfl hB9 (by decide) rfl ?_
  have loop2 : ∀ (d9 : Nat) (i : Nat), (rN S 43 0 - i) < d9 → (i ≤ rN S 43 0) → (∀ j, j < i → (free9 S j && hasBit (rI S 7 j) r) = false) → V l D M 0 0 (wC ad cy S ++ F) [(2, .int (nI i)), (0, .ref (ad 0)), (1, .int r)] 2 [] := by
    intro d9
    induction d9 with
    | zero => intro i h9; exact absurd h9 (Nat.not_lt_zero _)
    | succ d9 ih2 =>
      intro i hd9 hi hq
      refine V.iload_n X dX5_isAnyoneFreeFor_2 rfl ?_
      refine V.aload_n X dX5_isAnyoneFreeFor_3 rfl ?_
      refine wC_gX5_10 X dX5_isAnyoneFreeFor_4 ?_
      refine wC_gX5_55 X dX5_isAnyoneFreeFor_7 ?_
      refine V.icmp_ge (tgt := 41) X dX5_isAnyoneFreeFor_10 (by decide) (cN_le (hB.n 43 _) (by omega)) (cN_nle (hB.n 43 _) (by omega)) (fun (hz10 : rN S 43 0 ≤ i) => ?_) (fun (hz10 : i < rN S 43 0) => ?_)
      · refine V.iconst (v := nI 0) X dX5_isAnyoneFreeFor_41 rfl ?_
        exact V.iret (v := b2i false) X hE rfl (nar_b _) (Nat.le_of_ble_eq_true rfl) (Nat.le_of_ble_eq_true rfl) (pB9 (any9_miss (fun j hj => hq j (by omega))).symm rfl) dX5_isAnyoneFreeFor_42
      · refine V.aload_n X dX5_isAnyoneFreeFor_13 rfl ?_
        refine V.iload_n X dX5_isAnyoneFreeFor_14 rfl ?_
        refine V.callV1 [.int (nI i)] X (c_X5_isFree l D cy ad S F i hW (show i < 8 by omega)) mv_X5_isFree gw_3_93 ⟨⟨(Nat.le_of_ble_eq_true rfl), (Nat.le_of_ble_eq_true rfl)⟩, (Nat.le_of_ble_eq_true rfl), (Nat.le_of_ble_eq_true rfl)⟩ (q0 := 0) (ci := 7) rfl rfl rfl (Nat.le_of_ble_eq_true rfl) dX5_isAnyoneFreeFor_15 ?_
        refine V.if_eq (tgt := 35) X dX5_isAnyoneFreeFor_18 (by decide) b2i_0 b2i_n0 (fun (hz18 : free9 S i = false) => ?_) (fun (hz18 : free9 S i = true) => ?_)
        · refine V.iinc (v := nI (i + 1)) (L' := [(2, .int (nI (i + 1))), (0, .ref (ad 0)), (1, .int r)]) X dX5_isAnyoneFreeFor_35 rfl (nI_inc _) hB9 (by decide) rfl ?_
          refine V.goto (tgt := 2) X dX5_isAnyoneFreeFor_38 (by decide) ?_
          exact V.eqs rfl rfl (ih2 (i + 1) (by omega) (by omega) (lt_s hq (by simp [hz18])))
        · refine V.aload_n X dX5_isAnyoneFreeFor_21 rfl ?_
          refine wC_gX5_10 X dX5_isAnyoneFreeFor_22 ?_
          refine V.iload_n X dX5_isAnyoneFreeFor_25 rfl ?_
          refine V.iload_n X dX5_isAnyoneFreeFor_26 rfl ?_
          refine V.callV1 [.int (nI i), .int r] X (c_X0_isAble l D cy ad S F i r (show i < 8 by omega)) mv_X0_isAble gw_3_101 ⟨⟨(Nat.le_of_ble_eq_true rfl), (Nat.le_of_ble_eq_true rfl)⟩, (Nat.le_of_ble_eq_true rfl), (Nat.le_of_ble_eq_true rfl)⟩ (q0 := 1) (ci := 2) rfl rfl rfl (Nat.le_of_ble_eq_true rfl) dX5_isAnyoneFreeFor_27 ?_
          refine V.if_eq (tgt := 35) X dX5_isAnyoneFreeFor_30 (by decide) b2i_0 b2i_n0 (fun (hz30 : hasBit (rI S 7 i) r = false) => ?_) (fun (hz30 : hasBit (rI S 7 i) r = true) => ?_)
          · refine V.iinc (v := nI (i + 1)) (L' := [(2, .int (nI (i + 1))), (0, .ref (ad 0)), (1, .int r)]) X dX5_isAnyoneFreeFor_35 rfl (nI_inc _) hB9 (by decide) rfl ?_
            refine V.goto (tgt := 2) X dX5_isAnyoneFreeFor_38 (by decide) ?_
            exact V.eqs rfl rfl (ih2 (i + 1) (by omega) (by omega) (lt_s hq (by simp [hz18, hz30])))
          · refine V.iconst (v := nI 1) X dX5_isAnyoneFreeFor_33 rfl ?_
            exact V.iret (v := b2i true) X hE rfl (nar_b _) (Nat.le_of_ble_eq_true rfl) (Nat.le_of_ble_eq_true rfl) (pB9 (any9_hit (i := i) (by omega) (by simp [hz18, hz30])).symm rfl) dX5_isAnyoneFreeFor_34
  exact V.eqs rfl rfl (loop2 _ 0 (Nat.lt_succ_self _) (Nat.zero_le _) (fun j hj => absurd hj (Nat.not_lt_zero _)))
set_option maxRecDepth 20000 in
set_option maxHeartbeats 4000000 in
theorem c_X5_isRolePaused (l : Launch) (D : va_G) (cy : Nat → ClassId) (ad : Nat → Nat) (S : St) (F : va_W) (r : Int32) (hW : Wk S) : Ctr l D cy yX5_isRolePaused (.code yX5_isRolePaused cX5_isRolePaused 2 (some FieldType.boolean)) ({ frames := 1, cells := 0, slots := 0, locals := 40 } : Room) [.ref (ad 0), .int r] (wC ad cy S ++ F) (pI (b2i (paus9 S r)) (wC ad cy S ++ F)) pNo := by
  refine Ctr.of (by decide) (Nat.le_of_ble_eq_true rfl) ?_
  intro M X hE hN hB9 hI9
  replace X : VX l D M cy cX5_isRolePaused "Runbooker" (some FieldType.boolean) ({ frames := 1, cells := 0, slots := 0, locals := 40 } : Room) := X
  show V l D M 0 0 (wC ad cy S ++ F) [(0, .ref (ad 0)), (1, .int r)] 0 []
  have hB := hW.b
  have h43 := hW.n43
  have h44 := hW.n44
  have h46 := hW.n46
  have h45 := hW.n45
  have hcl := hW.cl
  have hen := hW.en
  have hW47 := hB.o 47 0
  refine V.aload_n X dX5_isRolePaused_0 rfl ?_
  refine wC_gX5_10 X dX5_isRolePaused_1 ?_
  refine V.aload_n X dX5_isRolePaused_4 rfl ?_
  refine wC_gX5_33 X dX5_isRolePaused_5 ?_
  refine wC_gX5_427 X dX5_isRolePaused_8 ?_
  refine V.callV1 [.int (o2i (rO S 47 0))] X (c_X0_has l D cy ad S F (o2i (rO S 47 0))) mv_X0_has gw_2_183 ⟨⟨(Nat.le_of_ble_eq_true rfl), (Nat.le_of_ble_eq_true rfl)⟩, (Nat.le_of_ble_eq_true rfl), (Nat.le_of_ble_eq_true rfl)⟩ (q0 := 1) (ci := 2) rfl rfl rfl (Nat.le_of_ble_eq_true rfl) dX5_isRolePaused_11 ?_
  refine V.if_eq (tgt := 39) X dX5_isRolePaused_14 (by decide) b2i_0 b2i_n0 (fun (hz14 : inR (o2i (rO S 47 0)) (rN S 43 0) = false) => ?_) (fun (hz14 : inR (o2i (rO S 47 0)) (rN S 43 0) = true) => ?_)
  · refine V.iconst (v := nI 0) X dX5_isRolePaused_39 rfl ?_
    exact V.iret (v := b2i false) X hE rfl (nar_b _) (Nat.le_of_ble_eq_true rfl) (Nat.le_of_ble_eq_true rfl) (pB9 (by rw [paus9_n (inR_none (by omega) hz14 hW.fr)]) rfl) dX5_isRolePaused_40
  · obtain ⟨p9, e9, hp9⟩ := inR_some (by omega) hz14 hW47
    refine V.aload_n X dX5_isRolePaused_17 rfl ?_
    refine wC_gX5_10 X dX5_isRolePaused_18 ?_
    refine V.aload_n X dX5_isRolePaused_21 rfl ?_
    refine wC_gX5_33 X dX5_isRolePaused_22 ?_
    refine wC_gX5_427 X dX5_isRolePaused_25 ?_
    refine V.top (congrArg o2i e9) ?_
    refine V.iload_n X dX5_isRolePaused_28 rfl ?_
    refine V.callV1 [.int (nI p9), .int r] X (c_X0_isAble l D cy ad S F p9 r (show p9 < 8 by omega)) mv_X0_isAble gw_3_101 ⟨⟨(Nat.le_of_ble_eq_true rfl), (Nat.le_of_ble_eq_true rfl)⟩, (Nat.le_of_ble_eq_true rfl), (Nat.le_of_ble_eq_true rfl)⟩ (q0 := 1) (ci := 2) rfl rfl rfl (Nat.le_of_ble_eq_true rfl) dX5_isRolePaused_29 ?_
    refine V.if_eq (tgt := 39) X dX5_isRolePaused_32 (by decide) b2i_0 b2i_n0 (fun (hz32 : hasBit (rI S 7 p9) r = false) => ?_) (fun (hz32 : hasBit (rI S 7 p9) r = true) => ?_)
    · refine V.iconst (v := nI 0) X dX5_isRolePaused_39 rfl ?_
      exact V.iret (v := b2i false) X hE rfl (nar_b _) (Nat.le_of_ble_eq_true rfl) (Nat.le_of_ble_eq_true rfl) (pB9 (by rw [paus9_s e9, hz32]) rfl) dX5_isRolePaused_40
    · refine V.iconst (v := nI 1) X dX5_isRolePaused_35 rfl ?_
      refine V.goto (tgt := 40) X dX5_isRolePaused_36 (by decide) ?_
      exact V.iret (v := b2i true) X hE rfl (nar_b _) (Nat.le_of_ble_eq_true rfl) (Nat.le_of_ble_eq_true rfl) (pB9 (by rw [paus9_s e9, hz32]) rfl) dX5_isRolePaused_40
set_option maxRecDepth 20000 in
set_option maxHeartbeats 4000000 in
theorem c_X5_stepHeldUp (l : Launch) (D : va_G) (cy : Nat → ClassId) (ad : Nat → Nat) (S : St) (F : va_W) (hW : Wk S) : Ctr l D cy yX5_stepHeldUp (.code yX5_stepHeldUp cX5_stepHeldUp 1 (some FieldType.int)) ({ frames := 1, cells := 0, slots := 0, locals := 40 } : Room) [.ref (ad 0)] (wC ad cy S ++ F) (pI (o2i (held9 S)) (wC ad cy S ++ F)) pNo := by
  refine Ctr.of (by decide) (Nat.le_of_ble_eq_true rfl) ?_
  intro M X hE hN hB9 hI9
  replace X : VX l D M cy cX5_stepHeldUp "Runbooker" (some FieldType.int) ({ frames := 1, cells := 0, slots := 0, locals := 40 } : Room) := X
  show V l D M 0 0 (wC ad cy S ++ F) [(0, .ref (ad 0))] 0 []
  have hB := hW.b
  have h43 := hW.n43
  have h44 := hW.n44
  have h46 := hW.n46
  have h45 := hW.n45
  have hcl := hW.cl
  have hen := hW.en
  have hW47 := hB.o 47 0
  refine V.aload_n X dX5_stepHeldUp_0 rfl ?_
  refine wC_gX5_10 X dX5_stepHeldUp_1 ?_
  refine V.aload_n X dX5_stepHeldUp_4 rfl ?_
  refine wC_gX5_33 X dX5_stepHeldUp_5 ?_
  refine wC_gX5_427 X dX5_stepHeldUp_8 ?_
  refine V.callV1 [.int (o2i (rO S 47 0))] X (c_X0_has l D cy ad S F (o2i (rO S 47 0))) mv_X0_has gw_2_183 ⟨⟨(Nat.le_of_ble_eq_true rfl), (Nat.le_of_ble_eq_true rfl)⟩, (Nat.le_of_ble_eq_true rfl), (Nat.le_of_ble_eq_true rfl)⟩ (q0 := 1) (ci := 2) rfl rfl rfl (Nat.le_of_ble_eq_true rfl) dX5_stepHeldUp_11 ?_
  refine V.if_eq (tgt := 35) X dX5_stepHeldUp_14 (by decide) b2i_0 b2i_n0 (fun (hz14 : inR (o2i (rO S 47 0)) (rN S 43 0) = false) => ?_) (fun (hz14 : inR (o2i (rO S 47 0)) (rN S 43 0) = true) => ?_)
  · refine V.iconst (v := o2i none) X dX5_stepHeldUp_35 rfl ?_
    exact V.iret (v := o2i none) X hE rfl rfl (Nat.le_of_ble_eq_true rfl) (Nat.le_of_ble_eq_true rfl) (pO9 (held9_n (inR_none (by omega) hz14 hW.fr)).symm rfl) dX5_stepHeldUp_36
  · obtain ⟨p9, e9, hp9⟩ := inR_some (by omega) hz14 hW47
    refine V.aload_n X dX5_stepHeldUp_17 rfl ?_
    refine wC_gX5_10 X dX5_stepHeldUp_18 ?_
    refine wC_gX5_200 X dX5_stepHeldUp_21 ?_
    refine V.aload_n X dX5_stepHeldUp_24 rfl ?_
    refine wC_gX5_33 X dX5_stepHeldUp_25 ?_
    refine wC_gX5_427 X dX5_stepHeldUp_28 ?_
    refine V.top (congrArg o2i e9) ?_
    refine wC_ld9 (i := p9) X (by omega) dX5_stepHeldUp_31 ?_
    refine V.goto (tgt := 36) X dX5_stepHeldUp_32 (by decide) ?_
    exact V.iret (v := o2i (rO S 9 p9)) X hE rfl rfl (Nat.le_of_ble_eq_true rfl) (Nat.le_of_ble_eq_true rfl) (pO9 (held9_s e9).symm rfl) dX5_stepHeldUp_36
set_option maxRecDepth 20000 in
set_option maxHeartbeats 4000000 in
theorem c_X5_isStepSettled (l : Launch) (D : va_G) (cy : Nat → ClassId) (ad : Nat → Nat) (S : St) (F : va_W) (s : Nat) (hW : Wk S) (hs : s < 16) : Ctr l D cy yX5_isStepSettled (.code yX5_isStepSettled cX5_isStepSettled 4 (some FieldType.boolean)) ({ frames := 1, cells := 0, slots := 0, locals := 40 } : Room) [.ref (ad 0), .int (nI s)] (wC ad cy S ++ F) (pI (b2i (set9 S s)) (wC ad cy S ++ F)) pNo := by
  refine Ctr.of (by decide) (Nat.le_of_ble_eq_true rfl) ?_
  intro M X hE hN hB9 hI9
  replace X : VX l D M cy cX5_isStepSettled "Runbooker" (some FieldType.boolean) ({ frames := 1, cells := 0, slots := 0, locals := 40 } : Room) := X
  show V l D M 0 0 (wC ad cy S ++ F) [(0, .ref (ad 0)), (1, .int (nI s))] 0 []
  have hB := hW.b
  have h43 := hW.n43
  have h44 := hW.n44
  have h46 := hW.n46
  have h45 := hW.n45
  have hcl := hW.cl
  have hen := hW.en
  refine V.iload_n X dX5_isStepSettled_0 rfl ?_
  refine V.istore_n (L' := [(2, .int (nI s)), (0, .ref (ad 0)), (1, .int (nI s))]) X dX5_isStepSettled_1 rfl hB9 (by decide) rfl ?_
  refine V.iconst (v := nI 0) X dX5_isStepSettled_2 rfl ?_
  refine V.istore_n (L' := [(3, .int (nI 0)), (2, .int (nI s)), (0, .ref (ad 0)), (1, .int (nI s))]) X dX5_isStepSettled_3 rfl hB9 (by decide) rfl ?_
  have loop4 : ∀ (d9 : Nat) (i : Nat) (cur : Option Nat), (16 - i) < d9 → (i ≤ 16) → (∀ k, cur = some k → k < 2147483648) → (set9 S s = stl9 S (16 - i) cur) → V l D M 0 0 (wC ad cy S ++ F) [(3, .int (nI i)), (2, .int (o2i cur)), (0, .ref (ad 0)), (1, .int (nI s))] 4 [] := by
    intro d9
    induction d9 with
    | zero => intro i cur h9; exact absurd h9 (Nat.not_lt_zero _)
    | succ d9 ih4 =>
      intro i cur hd9 hi hcb hq
      refine V.iload_n X dX5_isStepSettled_4 rfl ?_
      refine V.bipush (v := nI 16) X dX5_isStepSettled_5 (by decide) ?_
      refine V.icmp_ge (tgt := 71) X dX5_isStepSettled_7 (by decide) (cN_le (by decide) (by omega)) (cN_nle (by decide) (by omega)) (fun (hz7 : 16 ≤ i) => ?_) (fun (hz7 : i < 16) => ?_)
      · refine V.iconst (v := nI 0) X dX5_isStepSettled_71 rfl ?_
        exact V.iret (v := b2i false) X hE rfl (nar_b _) (Nat.le_of_ble_eq_true rfl) (Nat.le_of_ble_eq_true rfl) (pB9 (by rw [hq, show 16 - i = 0 by omega]; rfl) rfl) dX5_isStepSettled_72
      · refine V.aload_n X dX5_isStepSettled_10 rfl ?_
        refine wC_gX5_26 X dX5_isStepSettled_11 ?_
        refine V.iload_n X dX5_isStepSettled_14 rfl ?_
        refine V.callV1 [.int (o2i cur)] X (c_X4_has l D cy ad S F (o2i cur)) mv_X4_has gw_2_34 ⟨⟨(Nat.le_of_ble_eq_true rfl), (Nat.le_of_ble_eq_true rfl)⟩, (Nat.le_of_ble_eq_true rfl), (Nat.le_of_ble_eq_true rfl)⟩ (q0 := 3) (ci := 6) rfl rfl rfl (Nat.le_of_ble_eq_true rfl) dX5_isStepSettled_15 ?_
        refine V.if_eq (tgt := 71) X dX5_isStepSettled_18 (by decide) b2i_0 b2i_n0 (fun (hz18 : inR (o2i cur) (rN S 46 0) = false) => ?_) (fun (hz18 : inR (o2i cur) (rN S 46 0) = true) => ?_)
        · refine V.iconst (v := nI 0) X dX5_isStepSettled_71 rfl ?_
          exact V.iret (v := b2i false) X hE rfl (nar_b _) (Nat.le_of_ble_eq_true rfl) (Nat.le_of_ble_eq_true rfl) (pB9 (by rw [hq, stl9_end hz18 (by omega) hcb]) rfl) dX5_isStepSettled_72
        · obtain ⟨c, rfl, hc⟩ := inR_some (by omega) hz18 hcb
          refine V.aload_n X dX5_isStepSettled_21 rfl ?_
          refine wC_gX5_26 X dX5_isStepSettled_22 ?_
          refine wC_gX5_236 X dX5_isStepSettled_25 ?_
          refine V.iload_n X dX5_isStepSettled_28 rfl ?_
          refine wC_ld22 (i := c) X (by omega) dX5_isStepSettled_29 ?_
          refine V.bipush (v := nI 102) X dX5_isStepSettled_30 (by decide) ?_
          refine V.icmp_eq (tgt := 55) X dX5_isStepSettled_32 (by decide) (cC_eq (a := rC S 22 c) (b := 102)) (cC_ne (a := rC S 22 c) (b := 102)) (fun (hz32 : rC S 22 c = 102) => ?_) (fun (hz32 : ¬ rC S 22 c = 102) => ?_)
          · refine V.aload_n X dX5_isStepSettled_55 rfl ?_
            refine wC_gX5_19 X dX5_isStepSettled_56 ?_
            refine wC_gX5_143 X dX5_isStepSettled_59 ?_
            refine V.iload_n X dX5_isStepSettled_62 rfl ?_
            refine wC_ld16 (i := c) X (by omega) dX5_isStepSettled_63 ?_
            refine V.istore_n (L' := [(2, .int (o2i (rO S 16 c))), (3, .int (nI i)), (0, .ref (ad 0)), (1, .int (nI s))]) X dX5_isStepSettled_64 rfl hB9 (by decide) rfl ?_
            refine V.iinc (v := nI (i + 1)) (L' := [(3, .int (nI (i + 1))), (2, .int (o2i (rO S 16 c))), (0, .ref (ad 0)), (1, .int (nI s))]) X dX5_isStepSettled_65 rfl (nI_inc _) hB9 (by decide) rfl ?_
            refine V.goto (tgt := 4) X dX5_isStepSettled_68 (by decide) ?_
            exact V.eqs rfl rfl (ih4 (i + 1) (rO S 16 c) (by omega) (by omega) (hB.o 16 c) (by rw [hq, show 16 - i = (16 - (i + 1)) + 1 by omega]; rw [stl9_f hc hz32]))
          · refine V.aload_n X dX5_isStepSettled_35 rfl ?_
            refine wC_gX5_26 X dX5_isStepSettled_36 ?_
            refine wC_gX5_236 X dX5_isStepSettled_39 ?_
            refine V.iload_n X dX5_isStepSettled_42 rfl ?_
            refine wC_ld22 (i := c) X (by omega) dX5_isStepSettled_43 ?_
            refine V.bipush (v := nI 100) X dX5_isStepSettled_44 (by decide) ?_
            refine V.icmp_ne (tgt := 53) X dX5_isStepSettled_46 (by decide) (cC_ne (a := rC S 22 c) (b := 100)) (cC_eq (a := rC S 22 c) (b := 100)) (fun (hz46 : ¬ rC S 22 c = 100) => ?_) (fun (hz46 : rC S 22 c = 100) => ?_)
            · refine V.iconst (v := nI 0) X dX5_isStepSettled_53 rfl ?_
              exact V.iret (v := b2i false) X hE rfl (nar_b _) (Nat.le_of_ble_eq_true rfl) (Nat.le_of_ble_eq_true rfl) (pB9 (by rw [hq, show 16 - i = (16 - (i + 1)) + 1 by omega]; rw [stl9_d hc hz32]; simp [hz46]) rfl) dX5_isStepSettled_54
            · refine V.iconst (v := nI 1) X dX5_isStepSettled_49 rfl ?_
              refine V.goto (tgt := 54) X dX5_isStepSettled_50 (by decide) ?_
              exact V.iret (v := b2i true) X hE rfl (nar_b _) (Nat.le_of_ble_eq_true rfl) (Nat.le_of_ble_eq_true rfl) (pB9 (by rw [hq, show 16 - i = (16 - (i + 1)) + 1 by omega]; rw [stl9_d hc hz32]; simp [hz46]) rfl) dX5_isStepSettled_54
  exact V.eqs rfl rfl (loop4 _ 0 (some s) (Nat.lt_succ_self _) (Nat.zero_le _) (lt_some9 (by omega)) rfl)
set_option maxRecDepth 20000 in
set_option maxHeartbeats 4000000 in
theorem c_X5_areNeedsMet (l : Launch) (D : va_G) (cy : Nat → ClassId) (ad : Nat → Nat) (S : St) (F : va_W) (s : Nat) (hW : Wk S) (hs : s < 16) : Ctr l D cy yX5_areNeedsMet (.code yX5_areNeedsMet cX5_areNeedsMet 5 (some FieldType.boolean)) ({ frames := 2, cells := 0, slots := 0, locals := 80 } : Room) [.ref (ad 0), .int (nI s)] (wC ad cy S ++ F) (pI (b2i (met9 S s)) (wC ad cy S ++ F)) pNo := by
  refine Ctr.of (by decide) (Nat.le_of_ble_eq_true rfl) ?_
  intro M X hE hN hB9 hI9
  replace X : VX l D M cy cX5_areNeedsMet "Runbooker" (some FieldType.boolean) ({ frames := 2, cells := 0, slots := 0, locals := 80 } : Room) := X
  show V l D M 0 0 (wC ad cy S ++ F) [(0, .ref (ad 0)), (1, .int (nI s))] 0 []
  have hB := hW.b
  have h43 := hW.n43
  have h44 := hW.n44
  have h46 := hW.n46
  have h45 := hW.n45
  have hcl := hW.cl
  have hen := hW.en
  refine V.iconst (v := nI 0) X dX5_areNeedsMet_0 rfl ?_
  refine V.istore_n (L' := [(2, .int (nI 0)), (0, .ref (ad 0)), (1, .int (nI s))]) X dX5_areNeedsMet_1 rfl hB9 (by decide) rfl ?_
  refine V.iconst (v := nI 0) X dX5_areNeedsMet_2 rfl ?_
  refine V.istore_n (L' := [(3, .int (nI 0)), (2, .int (nI 0)), (0, .ref (ad 0)), (1, .int (nI s))]) X dX5_areNeedsMet_3 rfl hB9 (by decide) rfl ?_
  refine V.iconst (v := nI 0) X dX5_areNeedsMet_4 rfl ?_
  refine V.istore (L' := [(4, .int (nI 0)), (3, .int (nI 0)), (2, .int (nI 0)), (0, .ref (ad 0)), (1, .int (nI s))]) X dX5_areNeedsMet_5 hB9 (by decide) rfl ?_
  have loop7 : ∀ (d9 : Nat) (i : Nat), (s - i) < d9 → (i ≤ s) → V l D M 0 0 (wC ad cy S ++ F) [(4, .int (nI i)), (3, .int (nI (stN S s i))), (2, .int (nI (ndN S s i))), (0, .ref (ad 0)), (1, .int (nI s))] 7 [] := by
    intro d9
    induction d9 with
    | zero => intro i h9; exact absurd h9 (Nat.not_lt_zero _)
    | succ d9 ih7 =>
      intro i hd9 hi
      refine V.iload X dX5_areNeedsMet_7 rfl ?_
      refine V.iload_n X dX5_areNeedsMet_9 rfl ?_
      refine V.icmp_ge (tgt := 52) X dX5_areNeedsMet_10 (by decide) (cN_le (by omega) (by omega)) (cN_nle (by omega) (by omega)) (fun (hz10 : s ≤ i) => ?_) (fun (hz10 : i < s) => ?_)
      · refine V.aload_n X dX5_areNeedsMet_52 rfl ?_
        refine wC_gX5_19 X dX5_areNeedsMet_53 ?_
        refine wC_gX5_459 X dX5_areNeedsMet_56 ?_
        refine V.iload_n X dX5_areNeedsMet_59 rfl ?_
        refine wC_ld13 (i := s) X (by omega) dX5_areNeedsMet_60 ?_
        refine V.bipush (v := nI 111) X dX5_areNeedsMet_61 (by decide) ?_
        refine V.icmp_ne (tgt := 82) X dX5_areNeedsMet_63 (by decide) (cC_ne (a := rC S 13 s) (b := 111)) (cC_eq (a := rC S 13 s) (b := 111)) (fun (hz63 : ¬ rC S 13 s = 111) => ?_) (fun (hz63 : rC S 13 s = 111) => ?_)
        · refine V.iload_n X dX5_areNeedsMet_82 rfl ?_
          refine V.iload_n X dX5_areNeedsMet_83 rfl ?_
          refine V.icmp_ne (tgt := 91) X dX5_areNeedsMet_84 (by decide) cN_ne (cN_eq (by have := cnt9_le (fun o => bit9 S s o && set9 S o) i; unfold stN; omega) (by have := cnt9_le (fun o => bit9 S s o) i; unfold ndN; omega)) (fun (hz84 : ¬ stN S s i = ndN S s i) => ?_) (fun (hz84 : stN S s i = ndN S s i) => ?_)
          · refine V.iconst (v := nI 0) X dX5_areNeedsMet_91 rfl ?_
            exact V.iret (v := b2i false) X hE rfl (nar_b _) (Nat.le_of_ble_eq_true rfl) (Nat.le_of_ble_eq_true rfl) (pB9 (by have e9 : i = s := Nat.le_antisymm hi hz10; subst e9; simp [met9, hz63, nz9 hz84]) rfl) dX5_areNeedsMet_92
          · refine V.iconst (v := nI 1) X dX5_areNeedsMet_87 rfl ?_
            refine V.goto (tgt := 92) X dX5_areNeedsMet_88 (by decide) ?_
            exact V.iret (v := b2i true) X hE rfl (nar_b _) (Nat.le_of_ble_eq_true rfl) (Nat.le_of_ble_eq_true rfl) (pB9 (by have e9 : i = s := Nat.le_antisymm hi hz10; subst e9; simp [met9, hz63, nz9 hz84]) rfl) dX5_areNeedsMet_92
        · refine V.iload_n X dX5_areNeedsMet_66 rfl ?_
          refine V.if_eq (tgt := 74) X dX5_areNeedsMet_67 (by decide) (cN_eq (by have := cnt9_le (fun o => bit9 S s o) i; unfold ndN; omega) (by decide)) cN_ne (fun (hz67 : ndN S s i = 0) => ?_) (fun (hz67 : ¬ ndN S s i = 0) => ?_)
          · refine V.iconst (v := nI 1) X dX5_areNeedsMet_74 rfl ?_
            refine V.goto (tgt := 92) X dX5_areNeedsMet_75 (by decide) ?_
            exact V.iret (v := b2i true) X hE rfl (nar_b _) (Nat.le_of_ble_eq_true rfl) (Nat.le_of_ble_eq_true rfl) (pB9 (by have e9 : i = s := Nat.le_antisymm hi hz10; subst e9; simp [met9, hz63, nz9 hz67]) rfl) dX5_areNeedsMet_92
          · refine V.iload_n X dX5_areNeedsMet_70 rfl ?_
            refine V.if_le (tgt := 78) X dX5_areNeedsMet_71 (by decide) (cN_le (by have := cnt9_le (fun o => bit9 S s o && set9 S o) i; unfold stN; omega) (by decide)) (cN_nle (by have := cnt9_le (fun o => bit9 S s o && set9 S o) i; unfold stN; omega) (by decide)) (fun (hz71 : stN S s i ≤ 0) => ?_) (fun (hz71 : 0 < stN S s i) => ?_)
            · refine V.iconst (v := nI 0) X dX5_areNeedsMet_78 rfl ?_
              refine V.goto (tgt := 92) X dX5_areNeedsMet_79 (by decide) ?_
              exact V.iret (v := b2i false) X hE rfl (nar_b _) (Nat.le_of_ble_eq_true rfl) (Nat.le_of_ble_eq_true rfl) (pB9 (by have e9 : i = s := Nat.le_antisymm hi hz10; subst e9; simp [met9, hz63, nz9 hz67, nz9 hz71]) rfl) dX5_areNeedsMet_92
            · refine V.iconst (v := nI 1) X dX5_areNeedsMet_74 rfl ?_
              refine V.goto (tgt := 92) X dX5_areNeedsMet_75 (by decide) ?_
              exact V.iret (v := b2i true) X hE rfl (nar_b _) (Nat.le_of_ble_eq_true rfl) (Nat.le_of_ble_eq_true rfl) (pB9 (by have e9 : i = s := Nat.le_antisymm hi hz10; subst e9; simp [met9, hz63, nz9 hz67, nz9 hz71]) rfl) dX5_areNeedsMet_92
      · refine V.aload_n X dX5_areNeedsMet_13 rfl ?_
        refine wC_gX5_19 X dX5_areNeedsMet_14 ?_
        refine V.iload_n X dX5_areNeedsMet_17 rfl ?_
        refine V.iload X dX5_areNeedsMet_18 rfl ?_
        refine V.callV1 [.int (nI s), .int (nI i)] X (c_X3_doesNeed l D cy ad S F s i (show s < 16 by omega)) mv_X3_doesNeed gw_2_26 ⟨⟨(Nat.le_of_ble_eq_true rfl), (Nat.le_of_ble_eq_true rfl)⟩, (Nat.le_of_ble_eq_true rfl), (Nat.le_of_ble_eq_true rfl)⟩ (q0 := 2) (ci := 5) rfl rfl rfl (Nat.le_of_ble_eq_true rfl) dX5_areNeedsMet_20 ?_
        refine V.if_eq (tgt := 46) X dX5_areNeedsMet_23 (by decide) b2i_0 b2i_n0 (fun (hz23 : bit9 S s i = false) => ?_) (fun (hz23 : bit9 S s i = true) => ?_)
        · refine V.iinc (v := nI (i + 1)) (L' := [(4, .int (nI (i + 1))), (3, .int (nI (stN S s i))), (2, .int (nI (ndN S s i))), (0, .ref (ad 0)), (1, .int (nI s))]) X dX5_areNeedsMet_46 rfl (nI_inc _) hB9 (by decide) rfl ?_
          refine V.goto (tgt := 7) X dX5_areNeedsMet_49 (by decide) ?_
          exact V.eqs rfl (by rw [show ndN S s (i + 1) = ndN S s i from cnt9_f hz23, show stN S s (i + 1) = stN S s i from cnt9_f (by simp [hz23])]) (ih7 (i + 1) (by omega) (by omega))
        · refine V.iinc (v := nI (ndN S s i + 1)) (L' := [(2, .int (nI (ndN S s i + 1))), (4, .int (nI i)), (3, .int (nI (stN S s i))), (0, .ref (ad 0)), (1, .int (nI s))]) X dX5_areNeedsMet_26 rfl (nI_inc _) hB9 (by decide) rfl ?_
          refine V.iload_n X dX5_areNeedsMet_29 rfl ?_
          refine V.aload_n X dX5_areNeedsMet_30 rfl ?_
          refine V.iload X dX5_areNeedsMet_31 rfl ?_
          refine V.callV1 [.int (nI i)] X (c_X5_isStepSettled l D cy ad S F i hW (show i < 16 by omega)) mv_X5_isStepSettled gw_2_30 ⟨⟨(Nat.le_of_ble_eq_true rfl), (Nat.le_of_ble_eq_true rfl)⟩, (Nat.le_of_ble_eq_true rfl), (Nat.le_of_ble_eq_true rfl)⟩ (q0 := 0) (ci := 7) rfl rfl rfl (Nat.le_of_ble_eq_true rfl) dX5_areNeedsMet_33 ?_
          refine V.if_eq (tgt := 43) X dX5_areNeedsMet_36 (by decide) b2i_0 b2i_n0 (fun (hz36 : set9 S i = false) => ?_) (fun (hz36 : set9 S i = true) => ?_)
          · refine V.iconst (v := nI 0) X dX5_areNeedsMet_43 rfl ?_
            refine V.iadd (v := nI (stN S s i + 0)) X dX5_areNeedsMet_44 (nI_add _ _) ?_
            refine V.istore_n (L' := [(3, .int (nI (stN S s i + 0))), (2, .int (nI (ndN S s i + 1))), (4, .int (nI i)), (0, .ref (ad 0)), (1, .int (nI s))]) X dX5_areNeedsMet_45 rfl hB9 (by decide) rfl ?_
            refine V.iinc (v := nI (i + 1)) (L' := [(4, .int (nI (i + 1))), (3, .int (nI (stN S s i + 0))), (2, .int (nI (ndN S s i + 1))), (0, .ref (ad 0)), (1, .int (nI s))]) X dX5_areNeedsMet_46 rfl (nI_inc _) hB9 (by decide) rfl ?_
            refine V.goto (tgt := 7) X dX5_areNeedsMet_49 (by decide) ?_
            exact V.eqs rfl (by rw [show ndN S s (i + 1) = ndN S s i + 1 from cnt9_t hz23, show stN S s (i + 1) = stN S s i from cnt9_f (by simp [hz36])]; rfl) (ih7 (i + 1) (by omega) (by omega))
          · refine V.iconst (v := nI 1) X dX5_areNeedsMet_39 rfl ?_
            refine V.goto (tgt := 44) X dX5_areNeedsMet_40 (by decide) ?_
            refine V.iadd (v := nI (stN S s i + 1)) X dX5_areNeedsMet_44 (nI_add _ _) ?_
            refine V.istore_n (L' := [(3, .int (nI (stN S s i + 1))), (2, .int (nI (ndN S s i + 1))), (4, .int (nI i)), (0, .ref (ad 0)), (1, .int (nI s))]) X dX5_areNeedsMet_45 rfl hB9 (by decide) rfl ?_
            refine V.iinc (v := nI (i + 1)) (L' := [(4, .int (nI (i + 1))), (3, .int (nI (stN S s i + 1))), (2, .int (nI (ndN S s i + 1))), (0, .ref (ad 0)), (1, .int (nI s))]) X dX5_areNeedsMet_46 rfl (nI_inc _) hB9 (by decide) rfl ?_
            refine V.goto (tgt := 7) X dX5_areNeedsMet_49 (by decide) ?_
            exact V.eqs rfl (by rw [show ndN S s (i + 1) = ndN S s i + 1 from cnt9_t hz23, show stN S s (i + 1) = stN S s i + 1 from cnt9_t (by simp [hz23, hz36])]) (ih7 (i + 1) (by omega) (by omega))
  exact V.eqs rfl rfl (loop7 _ 0 (Nat.lt_succ_self _) (Nat.zero_le _))
set_option maxRecDepth 20000 in
set_option maxHeartbeats 4000000 in
theorem c_X5_isStepReady (l : Launch) (D : va_G) (cy : Nat → ClassId) (ad : Nat → Nat) (S : St) (F : va_W) (s : Nat) (hW : Wk S) (hs : s < 16) : Ctr l D cy yX5_isStepReady (.code yX5_isStepReady cX5_isStepReady 2 (some FieldType.boolean)) ({ frames := 3, cells := 0, slots := 0, locals := 120 } : Room) [.ref (ad 0), .int (nI s)] (wC ad cy S ++ F) (pI (b2i (rdy9 S s)) (wC ad cy S ++ F)) pNo := by
  refine Ctr.of (by decide) (Nat.le_of_ble_eq_true rfl) ?_
  intro M X hE hN hB9 hI9
  replace X : VX l D M cy cX5_isStepReady "Runbooker" (some FieldType.boolean) ({ frames := 3, cells := 0, slots := 0, locals := 120 } : Room) := X
  show V l D M 0 0 (wC ad cy S ++ F) [(0, .ref (ad 0)), (1, .int (nI s))] 0 []
  have hB := hW.b
  have h43 := hW.n43
  have h44 := hW.n44
  have h46 := hW.n46
  have h45 := hW.n45
  have hcl := hW.cl
  have hen := hW.en
  refine V.aload_n X dX5_isStepReady_0 rfl ?_
  refine wC_gX5_155 X dX5_isStepReady_1 ?_
  refine V.if_eq (tgt := 48) X dX5_isStepReady_4 (by decide) b2i_0 b2i_n0 (fun (hz4 : rB S 41 0 = false) => ?_) (fun (hz4 : rB S 41 0 = true) => ?_)
  · refine V.iconst (v := nI 0) X dX5_isStepReady_48 rfl ?_
    exact V.iret (v := b2i false) X hE rfl (nar_b _) (Nat.le_of_ble_eq_true rfl) (Nat.le_of_ble_eq_true rfl) (pB9 (by simp [rdy9, hz4]) rfl) dX5_isStepReady_49
  · refine V.aload_n X dX5_isStepReady_7 rfl ?_
    refine wC_gX5_26 X dX5_isStepReady_8 ?_
    refine wC_gX5_236 X dX5_isStepReady_11 ?_
    refine V.iload_n X dX5_isStepReady_14 rfl ?_
    refine wC_ld22 (i := s) X (by omega) dX5_isStepReady_15 ?_
    refine V.bipush (v := nI 119) X dX5_isStepReady_16 (by decide) ?_
    refine V.icmp_ne (tgt := 48) X dX5_isStepReady_18 (by decide) (cC_ne (a := rC S 22 s) (b := 119)) (cC_eq (a := rC S 22 s) (b := 119)) (fun (hz18 : ¬ rC S 22 s = 119) => ?_) (fun (hz18 : rC S 22 s = 119) => ?_)
    · refine V.iconst (v := nI 0) X dX5_isStepReady_48 rfl ?_
      exact V.iret (v := b2i false) X hE rfl (nar_b _) (Nat.le_of_ble_eq_true rfl) (Nat.le_of_ble_eq_true rfl) (pB9 (by simp [rdy9, hz4, hz18]) rfl) dX5_isStepReady_49
    · refine V.aload_n X dX5_isStepReady_21 rfl ?_
      refine V.iload_n X dX5_isStepReady_22 rfl ?_
      refine V.callV1 [.int (nI s)] X (c_X5_areNeedsMet l D cy ad S F s hW (show s < 16 by omega)) mv_X5_areNeedsMet gw_2_22 ⟨⟨(Nat.le_of_ble_eq_true rfl), (Nat.le_of_ble_eq_true rfl)⟩, (Nat.le_of_ble_eq_true rfl), (Nat.le_of_ble_eq_true rfl)⟩ (q0 := 0) (ci := 7) rfl rfl rfl (Nat.le_of_ble_eq_true rfl) dX5_isStepReady_23 ?_
      refine V.if_eq (tgt := 48) X dX5_isStepReady_26 (by decide) b2i_0 b2i_n0 (fun (hz26 : met9 S s = false) => ?_) (fun (hz26 : met9 S s = true) => ?_)
      · refine V.iconst (v := nI 0) X dX5_isStepReady_48 rfl ?_
        exact V.iret (v := b2i false) X hE rfl (nar_b _) (Nat.le_of_ble_eq_true rfl) (Nat.le_of_ble_eq_true rfl) (pB9 (by simp [rdy9, hz4, hz18, hz26]) rfl) dX5_isStepReady_49
      · refine V.aload_n X dX5_isStepReady_29 rfl ?_
        refine wC_gX5_19 X dX5_isStepReady_30 ?_
        refine V.iload_n X dX5_isStepReady_33 rfl ?_
        refine V.aload_n X dX5_isStepReady_34 rfl ?_
        refine wC_gX5_44 X dX5_isStepReady_35 ?_
        refine V.callV1 [.int (nI s), .ref (ad 6)] X (c_X3_isGuardMet l D cy ad S F s hB (show s < 16 by omega) (hW.cc _) (hW.sen)) mv_X3_isGuardMet gw_2_38 ⟨⟨(Nat.le_of_ble_eq_true rfl), (Nat.le_of_ble_eq_true rfl)⟩, (Nat.le_of_ble_eq_true rfl), (Nat.le_of_ble_eq_true rfl)⟩ (q0 := 2) (ci := 5) rfl rfl rfl (Nat.le_of_ble_eq_true rfl) dX5_isStepReady_38 ?_
        refine V.if_eq (tgt := 48) X dX5_isStepReady_41 (by decide) b2i_0 b2i_n0 (fun (hz41 : guard9 S s = false) => ?_) (fun (hz41 : guard9 S s = true) => ?_)
        · refine V.iconst (v := nI 0) X dX5_isStepReady_48 rfl ?_
          exact V.iret (v := b2i false) X hE rfl (nar_b _) (Nat.le_of_ble_eq_true rfl) (Nat.le_of_ble_eq_true rfl) (pB9 (by simp [rdy9, hz4, hz18, hz26, hz41]) rfl) dX5_isStepReady_49
        · refine V.iconst (v := nI 1) X dX5_isStepReady_44 rfl ?_
          refine V.goto (tgt := 49) X dX5_isStepReady_45 (by decide) ?_
          exact V.iret (v := b2i true) X hE rfl (nar_b _) (Nat.le_of_ble_eq_true rfl) (Nat.le_of_ble_eq_true rfl) (pB9 (by simp [rdy9, hz4, hz18, hz26, hz41]) rfl) dX5_isStepReady_49
set_option maxRecDepth 20000 in
set_option maxHeartbeats 4000000 in
theorem c_X5_countReady (l : Launch) (D : va_G) (cy : Nat → ClassId) (ad : Nat → Nat) (S : St) (F : va_W) (hW : Wk S) : Ctr l D cy yX5_countReady (.code yX5_countReady cX5_countReady 3 (some FieldType.int)) ({ frames := 4, cells := 0, slots := 0, locals := 160 } : Room) [.ref (ad 0)] (wC ad cy S ++ F) (pI (nI (cntR S)) (wC ad cy S ++ F)) pNo := by
  refine Ctr.of (by decide) (Nat.le_of_ble_eq_true rfl) ?_
  intro M X hE hN hB9 hI9
  replace X : VX l D M cy cX5_countReady "Runbooker" (some FieldType.int) ({ frames := 4, cells := 0, slots := 0, locals := 160 } : Room) := X
  show V l D M 0 0 (wC ad cy S ++ F) [(0, .ref (ad 0))] 0 []
  have hB := hW.b
  have h43 := hW.n43
  have h44 := hW.n44
  have h46 := hW.n46
  have h45 := hW.n45
  have hcl := hW.cl
  have hen := hW.en
  refine V.iconst (v := nI 0) X dX5_countReady_0 rfl ?_
  refine V.istore_n (L' := [(1, .int (nI 0)), (0, .ref (ad 0))]) X dX5_countReady_1 rfl hB9 (by decide) rfl ?_
  refine V.iconst (v := nI 0) X dX5_countReady_2 rfl ?_
  refine V.istore_n (L' := [(2, .int (nI 0)), (1, .int (nI 0)), (0, .ref (ad 0))]) X dX5_countReady_3 rfl hB9 (by decide) rfl ?_
  have loop4 : ∀ (d9 : Nat) (i : Nat), (rN S 44 0 - i) < d9 → (i ≤ rN S 44 0) → V l D M 0 0 (wC ad cy S ++ F) [(2, .int (nI i)), (1, .int (nI (cnt9 (rdy9 S) i))), (0, .ref (ad 0))] 4 [] := by
    intro d9
    induction d9 with
    | zero => intro i h9; exact absurd h9 (Nat.not_lt_zero _)
    | succ d9 ih4 =>
      intro i hd9 hi
      refine V.iload_n X dX5_countReady_4 rfl ?_
      refine V.aload_n X dX5_countReady_5 rfl ?_
      refine wC_gX5_19 X dX5_countReady_6 ?_
      refine wC_gX5_95 X dX5_countReady_9 ?_
      refine V.icmp_ge (tgt := 32) X dX5_countReady_12 (by decide) (cN_le (hB.n 44 _) (by omega)) (cN_nle (hB.n 44 _) (by omega)) (fun (hz12 : rN S 44 0 ≤ i) => ?_) (fun (hz12 : i < rN S 44 0) => ?_)
      · refine V.iload_n X dX5_countReady_32 rfl ?_
        exact V.iret (v := nI (cnt9 (rdy9 S) i)) X hE rfl rfl (Nat.le_of_ble_eq_true rfl) (Nat.le_of_ble_eq_true rfl) (pN9 (by rw [show i = rN S 44 0 from Nat.le_antisymm hi hz12]; rfl) rfl) dX5_countReady_33
      · refine V.aload_n X dX5_countReady_15 rfl ?_
        refine V.iload_n X dX5_countReady_16 rfl ?_
        refine V.callV1 [.int (nI i)] X (c_X5_isStepReady l D cy ad S F i hW (show i < 16 by omega)) mv_X5_isStepReady gw_2_18 ⟨⟨(Nat.le_of_ble_eq_true rfl), (Nat.le_of_ble_eq_true rfl)⟩, (Nat.le_of_ble_eq_true rfl), (Nat.le_of_ble_eq_true rfl)⟩ (q0 := 0) (ci := 7) rfl rfl rfl (Nat.le_of_ble_eq_true rfl) dX5_countReady_17 ?_
        refine V.if_eq (tgt := 26) X dX5_countReady_20 (by decide) b2i_0 b2i_n0 (fun (hz20 : rdy9 S i = false) => ?_) (fun (hz20 : rdy9 S i = true) => ?_)
        · refine V.iinc (v := nI (i + 1)) (L' := [(2, .int (nI (i + 1))), (1, .int (nI (cnt9 (rdy9 S) i))), (0, .ref (ad 0))]) X dX5_countReady_26 rfl (nI_inc _) hB9 (by decide) rfl ?_
          refine V.goto (tgt := 4) X dX5_countReady_29 (by decide) ?_
          exact V.eqs rfl (by rw [cnt9_f hz20]) (ih4 (i + 1) (by omega) (by omega))
        · refine V.iinc (v := nI (cnt9 (rdy9 S) i + 1)) (L' := [(1, .int (nI (cnt9 (rdy9 S) i + 1))), (2, .int (nI i)), (0, .ref (ad 0))]) X dX5_countReady_23 rfl (nI_inc _) hB9 (by decide) rfl ?_
          refine V.iinc (v := nI (i + 1)) (L' := [(2, .int (nI (i + 1))), (1, .int (nI (cnt9 (rdy9 S) i + 1))), (0, .ref (ad 0))]) X dX5_countReady_26 rfl (nI_inc _) hB9 (by decide) rfl ?_
          refine V.goto (tgt := 4) X dX5_countReady_29 (by decide) ?_
          exact V.eqs rfl (by rw [cnt9_t hz20]) (ih4 (i + 1) (by omega) (by omega))
  exact V.eqs rfl rfl (loop4 _ 0 (Nat.lt_succ_self _) (Nat.zero_le _))
set_option maxRecDepth 20000 in
set_option maxHeartbeats 4000000 in
theorem c_X5_areAllSettled (l : Launch) (D : va_G) (cy : Nat → ClassId) (ad : Nat → Nat) (S : St) (F : va_W) (hW : Wk S) : Ctr l D cy yX5_areAllSettled (.code yX5_areAllSettled cX5_areAllSettled 2 (some FieldType.boolean)) ({ frames := 2, cells := 0, slots := 0, locals := 80 } : Room) [.ref (ad 0)] (wC ad cy S ++ F) (pI (b2i (alls9 S)) (wC ad cy S ++ F)) pNo := by
  refine Ctr.of (by decide) (Nat.le_of_ble_eq_true rfl) ?_
  intro M X hE hN hB9 hI9
  replace X : VX l D M cy cX5_areAllSettled "Runbooker" (some FieldType.boolean) ({ frames := 2, cells := 0, slots := 0, locals := 80 } : Room) := X
  show V l D M 0 0 (wC ad cy S ++ F) [(0, .ref (ad 0))] 0 []
  have hB := hW.b
  have h43 := hW.n43
  have h44 := hW.n44
  have h46 := hW.n46
  have h45 := hW.n45
  have hcl := hW.cl
  have hen := hW.en
  refine V.iconst (v := nI 0) X dX5_areAllSettled_0 rfl ?_
  refine V.istore_n (L' := [(1, .int (nI 0)), (0, .ref (ad 0))]) X dX5_areAllSettled_1 rfl hB9 (by decide) rfl ?_
  have loop2 : ∀ (d9 : Nat) (i : Nat), (rN S 46 0 - i) < d9 → (i ≤ rN S 46 0) → (∀ j, j < i → (decide (rC S 22 j = 111) || set9 S j) = true) → V l D M 0 0 (wC ad cy S ++ F) [(1, .int (nI i)), (0, .ref (ad 0))] 2 [] := by
    intro d9
    induction d9 with
    | zero => intro i h9; exact absurd h9 (Nat.not_lt_zero _)
    | succ d9 ih2 =>
      intro i hd9 hi hq
      refine V.iload_n X dX5_areAllSettled_2 rfl ?_
      refine V.aload_n X dX5_areAllSettled_3 rfl ?_
      refine wC_gX5_26 X dX5_areAllSettled_4 ?_
      refine wC_gX5_430 X dX5_areAllSettled_7 ?_
      refine V.icmp_ge (tgt := 43) X dX5_areAllSettled_10 (by decide) (cN_le (hB.n 46 _) (by omega)) (cN_nle (hB.n 46 _) (by omega)) (fun (hz10 : rN S 46 0 ≤ i) => ?_) (fun (hz10 : i < rN S 46 0) => ?_)
      · refine V.iconst (v := nI 1) X dX5_areAllSettled_43 rfl ?_
        exact V.iret (v := b2i true) X hE rfl (nar_b _) (Nat.le_of_ble_eq_true rfl) (Nat.le_of_ble_eq_true rfl) (pB9 (all9_hit (fun j hj => hq j (by omega))).symm rfl) dX5_areAllSettled_44
      · refine V.aload_n X dX5_areAllSettled_13 rfl ?_
        refine wC_gX5_26 X dX5_areAllSettled_14 ?_
        refine wC_gX5_236 X dX5_areAllSettled_17 ?_
        refine V.iload_n X dX5_areAllSettled_20 rfl ?_
        refine wC_ld22 (i := i) X (by omega) dX5_areAllSettled_21 ?_
        refine V.bipush (v := nI 111) X dX5_areAllSettled_22 (by decide) ?_
        refine V.icmp_eq (tgt := 37) X dX5_areAllSettled_24 (by decide) (cC_eq (a := rC S 22 i) (b := 111)) (cC_ne (a := rC S 22 i) (b := 111)) (fun (hz24 : rC S 22 i = 111) => ?_) (fun (hz24 : ¬ rC S 22 i = 111) => ?_)
        · refine V.iinc (v := nI (i + 1)) (L' := [(1, .int (nI (i + 1))), (0, .ref (ad 0))]) X dX5_areAllSettled_37 rfl (nI_inc _) hB9 (by decide) rfl ?_
          refine V.goto (tgt := 2) X dX5_areAllSettled_40 (by decide) ?_
          exact V.eqs rfl rfl (ih2 (i + 1) (by omega) (by omega) (lt_s hq (by simp [hz24])))
        · refine V.aload_n X dX5_areAllSettled_27 rfl ?_
          refine V.iload_n X dX5_areAllSettled_28 rfl ?_
          refine V.callV1 [.int (nI i)] X (c_X5_isStepSettled l D cy ad S F i hW (show i < 16 by omega)) mv_X5_isStepSettled gw_2_30 ⟨⟨(Nat.le_of_ble_eq_true rfl), (Nat.le_of_ble_eq_true rfl)⟩, (Nat.le_of_ble_eq_true rfl), (Nat.le_of_ble_eq_true rfl)⟩ (q0 := 0) (ci := 7) rfl rfl rfl (Nat.le_of_ble_eq_true rfl) dX5_areAllSettled_29 ?_
          refine V.if_ne (tgt := 37) X dX5_areAllSettled_32 (by decide) b2i_n0 b2i_0 (fun (hz32 : set9 S i = true) => ?_) (fun (hz32 : set9 S i = false) => ?_)
          · refine V.iinc (v := nI (i + 1)) (L' := [(1, .int (nI (i + 1))), (0, .ref (ad 0))]) X dX5_areAllSettled_37 rfl (nI_inc _) hB9 (by decide) rfl ?_
            refine V.goto (tgt := 2) X dX5_areAllSettled_40 (by decide) ?_
            exact V.eqs rfl rfl (ih2 (i + 1) (by omega) (by omega) (lt_s hq (by simp [hz24, hz32])))
          · refine V.iconst (v := nI 0) X dX5_areAllSettled_35 rfl ?_
            exact V.iret (v := b2i false) X hE rfl (nar_b _) (Nat.le_of_ble_eq_true rfl) (Nat.le_of_ble_eq_true rfl) (pB9 (all9_miss (i := i) (by omega) (by simp [hz24, hz32])).symm rfl) dX5_areAllSettled_36
  exact V.eqs rfl rfl (loop2 _ 0 (Nat.lt_succ_self _) (Nat.zero_le _) (fun j hj => absurd hj (Nat.not_lt_zero _)))
set_option maxRecDepth 20000 in
set_option maxHeartbeats 4000000 in
theorem c_X5_mostUrgentFor (l : Launch) (D : va_G) (cy : Nat → ClassId) (ad : Nat → Nat) (S : St) (F : va_W) (p : Nat) (hW : Wk S) (hp : p < 8) : Ctr l D cy yX5_mostUrgentFor (.code yX5_mostUrgentFor cX5_mostUrgentFor 5 (some FieldType.int)) ({ frames := 4, cells := 0, slots := 0, locals := 160 } : Room) [.ref (ad 0), .int (nI p)] (wC ad cy S ++ F) (pI (o2i (best9 S p (rN S 44 0))) (wC ad cy (sN S 21 (low9 (rst S) (rN S 21) (rN S 44 0))) ++ F)) pNo := by
  refine Ctr.of (by decide) (Nat.le_of_ble_eq_true rfl) ?_
  intro M X hE hN hB9 hI9
  replace X : VX l D M cy cX5_mostUrgentFor "Runbooker" (some FieldType.int) ({ frames := 4, cells := 0, slots := 0, locals := 160 } : Room) := X
  show V l D M 0 0 (wC ad cy S ++ F) [(0, .ref (ad 0)), (1, .int (nI p))] 0 []
  have hB := hW.b
  have h43 := hW.n43
  have h44 := hW.n44
  have h46 := hW.n46
  have h45 := hW.n45
  have hcl := hW.cl
  have hen := hW.en
  refine V.aload_n X dX5_mostUrgentFor_0 rfl ?_
  refine wC_gX5_19 X dX5_mostUrgentFor_1 ?_
  refine V.callV0 [] X (c_X3_sweepRests l D cy ad S F hB (show (rN S 44 0) ≤ 16 by omega) (hW.len)) mv_X3_sweepRests gw_4_126 ⟨⟨(Nat.le_of_ble_eq_true rfl), (Nat.le_of_ble_eq_true rfl)⟩, (Nat.le_of_ble_eq_true rfl), (Nat.le_of_ble_eq_true rfl)⟩ (q0 := 2) (ci := 5) rfl rfl rfl (Nat.le_of_ble_eq_true rfl) dX5_mostUrgentFor_4 ?_
  refine V.iconst (v := o2i none) X dX5_mostUrgentFor_7 rfl ?_
  refine V.istore_n (L' := [(2, .int (o2i none)), (0, .ref (ad 0)), (1, .int (nI p))]) X dX5_mostUrgentFor_8 rfl hB9 (by decide) rfl ?_
  refine V.iconst (v := nI 0) X dX5_mostUrgentFor_9 rfl ?_
  refine V.istore_n (L' := [(3, .int (nI 0)), (2, .int (o2i none)), (0, .ref (ad 0)), (1, .int (nI p))]) X dX5_mostUrgentFor_10 rfl hB9 (by decide) rfl ?_
  have loop11 : ∀ (d9 : Nat) (i : Nat), (rN S 44 0 - i) < d9 → (i ≤ rN S 44 0) → V l D M 0 0 (wC ad cy (sN S 21 (low9 (rst S) (rN S 21) (rN S 44 0))) ++ F) [(3, .int (nI i)), (2, .int (o2i (best9 S p i))), (0, .ref (ad 0)), (1, .int (nI p))] 11 [] := by
    intro d9
    induction d9 with
    | zero => intro i h9; exact absurd h9 (Nat.not_lt_zero _)
    | succ d9 ih11 =>
      intro i hd9 hi
      refine V.iload_n X dX5_mostUrgentFor_11 rfl ?_
      refine V.aload_n X dX5_mostUrgentFor_12 rfl ?_
      refine wC_gX5_19 X dX5_mostUrgentFor_13 ?_
      refine wC_gX5_95 X dX5_mostUrgentFor_16 ?_
      refine V.icmp_ge (tgt := 96) X dX5_mostUrgentFor_19 (by decide) (cN_le (hB.n 44 _) (by omega)) (cN_nle (hB.n 44 _) (by omega)) (fun (hz19 : rN S 44 0 ≤ i) => ?_) (fun (hz19 : i < rN S 44 0) => ?_)
      · refine V.iload_n X dX5_mostUrgentFor_96 rfl ?_
        exact V.iret (v := o2i (best9 S p i)) X hE rfl rfl (Nat.le_of_ble_eq_true rfl) (Nat.le_of_ble_eq_true rfl) (pO9 (by rw [show i = rN S 44 0 from Nat.le_antisymm hi hz19]) rfl) dX5_mostUrgentFor_97
      · refine V.iload_n X dX5_mostUrgentFor_22 rfl ?_
        refine V.iconst (v := o2i none) X dX5_mostUrgentFor_23 rfl ?_
        refine V.icmp_eq (tgt := 48) X dX5_mostUrgentFor_24 (by decide) (cO_eq (a := best9 S p i) (b := none) (fun k e => by have := best9_lt e; omega) lt_none) (cO_ne (a := best9 S p i) (b := none)) (fun (hz24 : best9 S p i = none) => ?_) (fun (hz24 : ¬ best9 S p i = none) => ?_)
        · refine V.iconst (v := nI 1) X dX5_mostUrgentFor_48 rfl ?_
          refine V.goto (tgt := 53) X dX5_mostUrgentFor_49 (by decide) ?_
          refine V.istore (L' := [(4, .int (nI 1)), (3, .int (nI i)), (2, .int (o2i (best9 S p i))), (0, .ref (ad 0)), (1, .int (nI p))]) X dX5_mostUrgentFor_53 hB9 (by decide) rfl ?_
          refine V.iload X dX5_mostUrgentFor_55 rfl ?_
          refine V.if_eq (tgt := 90) X dX5_mostUrgentFor_57 (by decide) (cN_eq (by decide) (by decide)) cN_ne (fun (hz57 : 1 = 0) => ?_) (fun (hz57 : ¬ 1 = 0) => ?_)
          · exact absurd hz57 (by decide)
          · refine V.aload_n X dX5_mostUrgentFor_60 rfl ?_
            refine V.iload_n X dX5_mostUrgentFor_61 rfl ?_
            refine V.callV1 [.int (nI i)] X (c_X5_isStepReady l D cy ad (sN S 21 (low9 (rst S) (rN S 21) (rN S 44 0))) F i (Wk.s21 hW (fun j => low9_lt (fun j => Nat.lt_of_le_of_lt (rst_le hW.len j) (by decide)) (hB.1 21) j)) (show i < 16 by omega)) mv_X5_isStepReady gw_2_18 ⟨⟨(Nat.le_of_ble_eq_true rfl), (Nat.le_of_ble_eq_true rfl)⟩, (Nat.le_of_ble_eq_true rfl), (Nat.le_of_ble_eq_true rfl)⟩ (q0 := 0) (ci := 7) rfl rfl rfl (Nat.le_of_ble_eq_true rfl) dX5_mostUrgentFor_62 ?_
            refine V.if_eq (tgt := 90) X dX5_mostUrgentFor_65 (by decide) b2i_0 b2i_n0 (fun (hz65 : rdy9 (sN S 21 (low9 (rst S) (rN S 21) (rN S 44 0))) i = false) => ?_) (fun (hz65 : rdy9 (sN S 21 (low9 (rst S) (rN S 21) (rN S 44 0))) i = true) => ?_)
            · refine V.iinc (v := nI (i + 1)) (L' := [(3, .int (nI (i + 1))), (4, .int (nI 1)), (2, .int (o2i (best9 S p i))), (0, .ref (ad 0)), (1, .int (nI p))]) X dX5_mostUrgentFor_90 rfl (nI_inc _) hB9 (by decide) rfl ?_
              refine V.goto (tgt := 11) X dX5_mostUrgentFor_93 (by decide) ?_
              refine V.pick [0, 2, 3, 4] rfl ?_
              exact V.eqs rfl (by rw [best9_f2 (S := S) (.inl hz65)]; rfl) (ih11 (i + 1) (by omega) (by omega))
            · refine V.aload_n X dX5_mostUrgentFor_68 rfl ?_
              refine wC_gX5_10 X dX5_mostUrgentFor_69 ?_
              refine V.iload_n X dX5_mostUrgentFor_72 rfl ?_
              refine V.aload_n X dX5_mostUrgentFor_73 rfl ?_
              refine wC_gX5_19 X dX5_mostUrgentFor_74 ?_
              refine wC_gX5_178 X dX5_mostUrgentFor_77 ?_
              refine V.iload_n X dX5_mostUrgentFor_80 rfl ?_
              refine wC_ld10 (i := i) X (by omega) dX5_mostUrgentFor_81 ?_
              refine V.callV1 [.int (nI p), .int (nI (rN S 10 i))] X (c_X0_isAble l D cy ad (sN S 21 (low9 (rst S) (rN S 21) (rN S 44 0))) F p (nI (rN S 10 i)) (show p < 8 by omega)) mv_X0_isAble gw_3_101 ⟨⟨(Nat.le_of_ble_eq_true rfl), (Nat.le_of_ble_eq_true rfl)⟩, (Nat.le_of_ble_eq_true rfl), (Nat.le_of_ble_eq_true rfl)⟩ (q0 := 1) (ci := 2) rfl rfl rfl (Nat.le_of_ble_eq_true rfl) dX5_mostUrgentFor_82 ?_
              refine V.if_eq (tgt := 90) X dX5_mostUrgentFor_85 (by decide) b2i_0 b2i_n0 (fun (hz85 : hasBit (rI (sN S 21 (low9 (rst S) (rN S 21) (rN S 44 0))) 7 p) (nI (rN S 10 i)) = false) => ?_) (fun (hz85 : hasBit (rI (sN S 21 (low9 (rst S) (rN S 21) (rN S 44 0))) 7 p) (nI (rN S 10 i)) = true) => ?_)
              · refine V.iinc (v := nI (i + 1)) (L' := [(3, .int (nI (i + 1))), (4, .int (nI 1)), (2, .int (o2i (best9 S p i))), (0, .ref (ad 0)), (1, .int (nI p))]) X dX5_mostUrgentFor_90 rfl (nI_inc _) hB9 (by decide) rfl ?_
                refine V.goto (tgt := 11) X dX5_mostUrgentFor_93 (by decide) ?_
                refine V.pick [0, 2, 3, 4] rfl ?_
                exact V.eqs rfl (by rw [best9_f2 (S := S) (.inr hz85)]; rfl) (ih11 (i + 1) (by omega) (by omega))
              · refine V.iload_n X dX5_mostUrgentFor_88 rfl ?_
                refine V.istore_n (L' := [(2, .int (nI i)), (4, .int (nI 1)), (3, .int (nI i)), (0, .ref (ad 0)), (1, .int (nI p))]) X dX5_mostUrgentFor_89 rfl hB9 (by decide) rfl ?_
                refine V.iinc (v := nI (i + 1)) (L' := [(3, .int (nI (i + 1))), (2, .int (nI i)), (4, .int (nI 1)), (0, .ref (ad 0)), (1, .int (nI p))]) X dX5_mostUrgentFor_90 rfl (nI_inc _) hB9 (by decide) rfl ?_
                refine V.goto (tgt := 11) X dX5_mostUrgentFor_93 (by decide) ?_
                refine V.pick [0, 1, 3, 4] rfl ?_
                exact V.eqs rfl (by rw [best9_t (S := S) (fun b e => by rw [hz24] at e; cases e) hz65 hz85]; rfl) (ih11 (i + 1) (by omega) (by omega))
        · obtain ⟨b, eb⟩ : ∃ b, best9 S p i = some b := Option.ne_none_iff_exists'.mp hz24
          have hb9 := best9_lt eb
          have er9 : low9 (rst S) (rN S 21) (rN S 44 0) b = rst S b := low9_in (by omega)
          have ei9 : low9 (rst S) (rN S 21) (rN S 44 0) i = rst S i := low9_in (by omega)
          have hr1 := rst_le hW.len b
          have hr2 := rst_le hW.len i
          refine V.aload_n X dX5_mostUrgentFor_27 rfl ?_
          refine wC_gX5_19 X dX5_mostUrgentFor_28 ?_
          refine wC_gX5_327 X dX5_mostUrgentFor_31 ?_
          refine V.iload_n X dX5_mostUrgentFor_34 rfl ?_
          refine wC_ld21 (i := i) X (by omega) dX5_mostUrgentFor_35 ?_
          refine V.aload_n X dX5_mostUrgentFor_36 rfl ?_
          refine wC_gX5_19 X dX5_mostUrgentFor_37 ?_
          refine wC_gX5_327 X dX5_mostUrgentFor_40 ?_
          refine V.iload_n X dX5_mostUrgentFor_43 rfl ?_
          refine V.top (congrArg o2i eb) ?_
          refine wC_ld21 (i := b) X (by omega) dX5_mostUrgentFor_44 ?_
          refine V.icmp_le (tgt := 52) X dX5_mostUrgentFor_45 (by decide) (cN_le (show (low9 (rst S) (rN S 21) (rN S 44 0)) i < 2147483648 by omega) (show (low9 (rst S) (rN S 21) (rN S 44 0)) b < 2147483648 by omega)) (cN_nle (show (low9 (rst S) (rN S 21) (rN S 44 0)) i < 2147483648 by omega) (show (low9 (rst S) (rN S 21) (rN S 44 0)) b < 2147483648 by omega)) (fun (hz45 : (low9 (rst S) (rN S 21) (rN S 44 0)) i ≤ (low9 (rst S) (rN S 21) (rN S 44 0)) b) => ?_) (fun (hz45 : (low9 (rst S) (rN S 21) (rN S 44 0)) b < (low9 (rst S) (rN S 21) (rN S 44 0)) i) => ?_)
          · refine V.iconst (v := nI 0) X dX5_mostUrgentFor_52 rfl ?_
            refine V.istore (L' := [(4, .int (nI 0)), (3, .int (nI i)), (2, .int (o2i (best9 S p i))), (0, .ref (ad 0)), (1, .int (nI p))]) X dX5_mostUrgentFor_53 hB9 (by decide) rfl ?_
            refine V.iload X dX5_mostUrgentFor_55 rfl ?_
            refine V.if_eq (tgt := 90) X dX5_mostUrgentFor_57 (by decide) (cN_eq (by decide) (by decide)) cN_ne (fun (hz57 : 0 = 0) => ?_) (fun (hz57 : ¬ 0 = 0) => ?_)
            · refine V.iinc (v := nI (i + 1)) (L' := [(3, .int (nI (i + 1))), (4, .int (nI 0)), (2, .int (o2i (best9 S p i))), (0, .ref (ad 0)), (1, .int (nI p))]) X dX5_mostUrgentFor_90 rfl (nI_inc _) hB9 (by decide) rfl ?_
              refine V.goto (tgt := 11) X dX5_mostUrgentFor_93 (by decide) ?_
              refine V.pick [0, 2, 3, 4] rfl ?_
              exact V.eqs rfl (by rw [best9_f1 (S := S) eb (by omega)]; rfl) (ih11 (i + 1) (by omega) (by omega))
            · exact absurd hz57 (by decide)
          · refine V.iconst (v := nI 1) X dX5_mostUrgentFor_48 rfl ?_
            refine V.goto (tgt := 53) X dX5_mostUrgentFor_49 (by decide) ?_
            refine V.istore (L' := [(4, .int (nI 1)), (3, .int (nI i)), (2, .int (o2i (best9 S p i))), (0, .ref (ad 0)), (1, .int (nI p))]) X dX5_mostUrgentFor_53 hB9 (by decide) rfl ?_
            refine V.iload X dX5_mostUrgentFor_55 rfl ?_
            refine V.if_eq (tgt := 90) X dX5_mostUrgentFor_57 (by decide) (cN_eq (by decide) (by decide)) cN_ne (fun (hz57 : 1 = 0) => ?_) (fun (hz57 : ¬ 1 = 0) => ?_)
            · exact absurd hz57 (by decide)
            · refine V.aload_n X dX5_mostUrgentFor_60 rfl ?_
              refine V.iload_n X dX5_mostUrgentFor_61 rfl ?_
              refine V.callV1 [.int (nI i)] X (c_X5_isStepReady l D cy ad (sN S 21 (low9 (rst S) (rN S 21) (rN S 44 0))) F i (Wk.s21 hW (fun j => low9_lt (fun j => Nat.lt_of_le_of_lt (rst_le hW.len j) (by decide)) (hB.1 21) j)) (show i < 16 by omega)) mv_X5_isStepReady gw_2_18 ⟨⟨(Nat.le_of_ble_eq_true rfl), (Nat.le_of_ble_eq_true rfl)⟩, (Nat.le_of_ble_eq_true rfl), (Nat.le_of_ble_eq_true rfl)⟩ (q0 := 0) (ci := 7) rfl rfl rfl (Nat.le_of_ble_eq_true rfl) dX5_mostUrgentFor_62 ?_
              refine V.if_eq (tgt := 90) X dX5_mostUrgentFor_65 (by decide) b2i_0 b2i_n0 (fun (hz65 : rdy9 (sN S 21 (low9 (rst S) (rN S 21) (rN S 44 0))) i = false) => ?_) (fun (hz65 : rdy9 (sN S 21 (low9 (rst S) (rN S 21) (rN S 44 0))) i = true) => ?_)
              · refine V.iinc (v := nI (i + 1)) (L' := [(3, .int (nI (i + 1))), (4, .int (nI 1)), (2, .int (o2i (best9 S p i))), (0, .ref (ad 0)), (1, .int (nI p))]) X dX5_mostUrgentFor_90 rfl (nI_inc _) hB9 (by decide) rfl ?_
                refine V.goto (tgt := 11) X dX5_mostUrgentFor_93 (by decide) ?_
                refine V.pick [0, 2, 3, 4] rfl ?_
                exact V.eqs rfl (by rw [best9_f2 (S := S) (.inl hz65)]; rfl) (ih11 (i + 1) (by omega) (by omega))
              · refine V.aload_n X dX5_mostUrgentFor_68 rfl ?_
                refine wC_gX5_10 X dX5_mostUrgentFor_69 ?_
                refine V.iload_n X dX5_mostUrgentFor_72 rfl ?_
                refine V.aload_n X dX5_mostUrgentFor_73 rfl ?_
                refine wC_gX5_19 X dX5_mostUrgentFor_74 ?_
                refine wC_gX5_178 X dX5_mostUrgentFor_77 ?_
                refine V.iload_n X dX5_mostUrgentFor_80 rfl ?_
                refine wC_ld10 (i := i) X (by omega) dX5_mostUrgentFor_81 ?_
                refine V.callV1 [.int (nI p), .int (nI (rN S 10 i))] X (c_X0_isAble l D cy ad (sN S 21 (low9 (rst S) (rN S 21) (rN S 44 0))) F p (nI (rN S 10 i)) (show p < 8 by omega)) mv_X0_isAble gw_3_101 ⟨⟨(Nat.le_of_ble_eq_true rfl), (Nat.le_of_ble_eq_true rfl)⟩, (Nat.le_of_ble_eq_true rfl), (Nat.le_of_ble_eq_true rfl)⟩ (q0 := 1) (ci := 2) rfl rfl rfl (Nat.le_of_ble_eq_true rfl) dX5_mostUrgentFor_82 ?_
                refine V.if_eq (tgt := 90) X dX5_mostUrgentFor_85 (by decide) b2i_0 b2i_n0 (fun (hz85 : hasBit (rI (sN S 21 (low9 (rst S) (rN S 21) (rN S 44 0))) 7 p) (nI (rN S 10 i)) = false) => ?_) (fun (hz85 : hasBit (rI (sN S 21 (low9 (rst S) (rN S 21) (rN S 44 0))) 7 p) (nI (rN S 10 i)) = true) => ?_)
                · refine V.iinc (v := nI (i + 1)) (L' := [(3, .int (nI (i + 1))), (4, .int (nI 1)), (2, .int (o2i (best9 S p i))), (0, .ref (ad 0)), (1, .int (nI p))]) X dX5_mostUrgentFor_90 rfl (nI_inc _) hB9 (by decide) rfl ?_
                  refine V.goto (tgt := 11) X dX5_mostUrgentFor_93 (by decide) ?_
                  refine V.pick [0, 2, 3, 4] rfl ?_
                  exact V.eqs rfl (by rw [best9_f2 (S := S) (.inr hz85)]; rfl) (ih11 (i + 1) (by omega) (by omega))
                · refine V.iload_n X dX5_mostUrgentFor_88 rfl ?_
                  refine V.istore_n (L' := [(2, .int (nI i)), (4, .int (nI 1)), (3, .int (nI i)), (0, .ref (ad 0)), (1, .int (nI p))]) X dX5_mostUrgentFor_89 rfl hB9 (by decide) rfl ?_
                  refine V.iinc (v := nI (i + 1)) (L' := [(3, .int (nI (i + 1))), (2, .int (nI i)), (4, .int (nI 1)), (0, .ref (ad 0)), (1, .int (nI p))]) X dX5_mostUrgentFor_90 rfl (nI_inc _) hB9 (by decide) rfl ?_
                  refine V.goto (tgt := 11) X dX5_mostUrgentFor_93 (by decide) ?_
                  refine V.pick [0, 1, 3, 4] rfl ?_
                  exact V.eqs rfl (by rw [best9_t (S := S) (fun b2 e => by rw [eb] at e; cases e; omega) hz65 hz85]; rfl) (ih11 (i + 1) (by omega) (by omega))
  exact V.eqs rfl rfl (loop11 _ 0 (Nat.lt_succ_self _) (Nat.zero_le _))
set_option maxRecDepth 20000 in
set_option maxHeartbeats 4000000 in
theorem c_X5_canTakeOver (l : Launch) (D : va_G) (cy : Nat → ClassId) (ad : Nat → Nat) (S : St) (F : va_W) (p : Nat) (q : Nat) (hW : Wk S) (hp : p < rN S 43 0) (hq : q < rN S 43 0) : Ctr l D cy yX5_canTakeOver (.code yX5_canTakeOver cX5_canTakeOver 4 (some FieldType.boolean)) ({ frames := 1, cells := 0, slots := 0, locals := 40 } : Room) [.ref (ad 0), .int (nI p), .int (nI q)] (wC ad cy S ++ F) (pI (b2i (tko9 S p q)) (wC ad cy S ++ F)) pNo := by
  refine Ctr.of (by decide) (Nat.le_of_ble_eq_true rfl) ?_
  intro M X hE hN hB9 hI9
  replace X : VX l D M cy cX5_canTakeOver "Runbooker" (some FieldType.boolean) ({ frames := 1, cells := 0, slots := 0, locals := 40 } : Room) := X
  show V l D M 0 0 (wC ad cy S ++ F) [(0, .ref (ad 0)), (1, .int (nI p)), (2, .int (nI q))] 0 []
  have hB := hW.b
  have h43 := hW.n43
  have h44 := hW.n44
  have h46 := hW.n46
  have h45 := hW.n45
  have hcl := hW.cl
  have hen := hW.en
  refine V.aload_n X dX5_canTakeOver_0 rfl ?_
  refine wC_gX5_10 X dX5_canTakeOver_1 ?_
  refine wC_gX5_200 X dX5_canTakeOver_4 ?_
  refine V.iload_n X dX5_canTakeOver_7 rfl ?_
  refine wC_ld9 (i := p) X (by omega) dX5_canTakeOver_8 ?_
  refine V.istore_n (L' := [(3, .int (o2i (rO S 9 p))), (0, .ref (ad 0)), (1, .int (nI p)), (2, .int (nI q))]) X dX5_canTakeOver_9 rfl hB9 (by decide) rfl ?_
  refine V.aload_n X dX5_canTakeOver_10 rfl ?_
  refine wC_gX5_19 X dX5_canTakeOver_11 ?_
  refine V.iload_n X dX5_canTakeOver_14 rfl ?_
  refine V.callV1 [.int (o2i (rO S 9 p))] X (c_X3_has l D cy ad S F (o2i (rO S 9 p))) mv_X3_has gw_3_5 ⟨⟨(Nat.le_of_ble_eq_true rfl), (Nat.le_of_ble_eq_true rfl)⟩, (Nat.le_of_ble_eq_true rfl), (Nat.le_of_ble_eq_true rfl)⟩ (q0 := 2) (ci := 5) rfl rfl rfl (Nat.le_of_ble_eq_true rfl) dX5_canTakeOver_15 ?_
  refine V.if_eq (tgt := 41) X dX5_canTakeOver_18 (by decide) b2i_0 b2i_n0 (fun (hz18 : inR (o2i (rO S 9 p)) (rN S 44 0) = false) => ?_) (fun (hz18 : inR (o2i (rO S 9 p)) (rN S 44 0) = true) => ?_)
  · refine V.iconst (v := nI 1) X dX5_canTakeOver_41 rfl ?_
    refine V.goto (tgt := 46) X dX5_canTakeOver_42 (by decide) ?_
    exact V.iret (v := b2i true) X hE rfl (nar_b _) (Nat.le_of_ble_eq_true rfl) (Nat.le_of_ble_eq_true rfl) (pB9 (by unfold tko9; rw [inR_none (by omega) hz18 (fun k e => Nat.lt_of_lt_of_le (hW.wk p k hp e) h46)]) rfl) dX5_canTakeOver_46
  · obtain ⟨s9, e9, hs9⟩ := inR_some (by omega) hz18 (hB.o 9 p)
    rw [e9]
    refine V.aload_n X dX5_canTakeOver_21 rfl ?_
    refine wC_gX5_10 X dX5_canTakeOver_22 ?_
    refine V.iload_n X dX5_canTakeOver_25 rfl ?_
    refine V.aload_n X dX5_canTakeOver_26 rfl ?_
    refine wC_gX5_19 X dX5_canTakeOver_27 ?_
    refine wC_gX5_178 X dX5_canTakeOver_30 ?_
    refine V.iload_n X dX5_canTakeOver_33 rfl ?_
    refine wC_ld10 (i := s9) X (by omega) dX5_canTakeOver_34 ?_
    refine V.callV1 [.int (nI q), .int (nI (rN S 10 s9))] X (c_X0_isAble l D cy ad S F q (nI (rN S 10 s9)) (show q < 8 by omega)) mv_X0_isAble gw_3_101 ⟨⟨(Nat.le_of_ble_eq_true rfl), (Nat.le_of_ble_eq_true rfl)⟩, (Nat.le_of_ble_eq_true rfl), (Nat.le_of_ble_eq_true rfl)⟩ (q0 := 1) (ci := 2) rfl rfl rfl (Nat.le_of_ble_eq_true rfl) dX5_canTakeOver_35 ?_
    refine V.if_eq (tgt := 45) X dX5_canTakeOver_38 (by decide) b2i_0 b2i_n0 (fun (hz38 : hasBit (rI S 7 q) (nI (rN S 10 s9)) = false) => ?_) (fun (hz38 : hasBit (rI S 7 q) (nI (rN S 10 s9)) = true) => ?_)
    · refine V.iconst (v := nI 0) X dX5_canTakeOver_45 rfl ?_
      exact V.iret (v := b2i false) X hE rfl (nar_b _) (Nat.le_of_ble_eq_true rfl) (Nat.le_of_ble_eq_true rfl) (pB9 (by unfold tko9; rw [e9]; exact hz38.symm) rfl) dX5_canTakeOver_46
    · refine V.iconst (v := nI 1) X dX5_canTakeOver_41 rfl ?_
      refine V.goto (tgt := 46) X dX5_canTakeOver_42 (by decide) ?_
      exact V.iret (v := b2i true) X hE rfl (nar_b _) (Nat.le_of_ble_eq_true rfl) (Nat.le_of_ble_eq_true rfl) (pB9 (by unfold tko9; rw [e9]; exact hz38.symm) rfl) dX5_canTakeOver_46
set_option maxRecDepth 20000 in
set_option maxHeartbeats 4000000 in
theorem c_X5_areReversibleFrom (l : Launch) (D : va_G) (cy : Nat → ClassId) (ad : Nat → Nat) (S : St) (F : va_W) (a : Nat) (hW : Wk S) (ha : a ≤ rN S 45 0) : Ctr l D cy yX5_areReversibleFrom (.code yX5_areReversibleFrom cX5_areReversibleFrom 4 (some FieldType.boolean)) ({ frames := 1, cells := 0, slots := 0, locals := 40 } : Room) [.ref (ad 0), .int (nI a)] (wC ad cy S ++ F) (pI (b2i (rev9 S a)) (wC ad cy S ++ F)) pNo := by
  refine Ctr.of (by decide) (Nat.le_of_ble_eq_true rfl) ?_
  intro M X hE hN hB9 hI9
  replace X : VX l D M cy cX5_areReversibleFrom "Runbooker" (some FieldType.boolean) ({ frames := 1, cells := 0, slots := 0, locals := 40 } : Room) := X
  show V l D M 0 0 (wC ad cy S ++ F) [(0, .ref (ad 0)), (1, .int (nI a))] 0 []
  have hB := hW.b
  have h43 := hW.n43
  have h44 := hW.n44
  have h46 := hW.n46
  have h45 := hW.n45
  have hcl := hW.cl
  have hen := hW.en
  refine V.iload_n X dX5_areReversibleFrom_0 rfl ?_
  refine V.istore_n (L' := [(2, .int (nI a)), (0, .ref (ad 0)), (1, .int (nI a))]) X dX5_areReversibleFrom_1 rfl hB9 (by decide) rfl ?_
  have loop2 : ∀ (d9 : Nat) (i : Nat), (rN S 45 0 - i) < d9 → (i ≤ rN S 45 0) → (∀ j, j < i → (decide (j < a) || rB S 14 (rN S 28 j)) = true) → (a ≤ i) → V l D M 0 0 (wC ad cy S ++ F) [(2, .int (nI i)), (0, .ref (ad 0)), (1, .int (nI a))] 2 [] := by
    intro d9
    induction d9 with
    | zero => intro i h9; exact absurd h9 (Nat.not_lt_zero _)
    | succ d9 ih2 =>
      intro i hd9 hi hq hai
      refine V.iload_n X dX5_areReversibleFrom_2 rfl ?_
      refine V.aload_n X dX5_areReversibleFrom_3 rfl ?_
      refine wC_gX5_26 X dX5_areReversibleFrom_4 ?_
      refine wC_gX5_175 X dX5_areReversibleFrom_7 ?_
      refine V.icmp_ge (tgt := 54) X dX5_areReversibleFrom_10 (by decide) (cN_le (hB.n 45 _) (by omega)) (cN_nle (hB.n 45 _) (by omega)) (fun (hz10 : rN S 45 0 ≤ i) => ?_) (fun (hz10 : i < rN S 45 0) => ?_)
      · refine V.iconst (v := nI 1) X dX5_areReversibleFrom_54 rfl ?_
        exact V.iret (v := b2i true) X hE rfl (nar_b _) (Nat.le_of_ble_eq_true rfl) (Nat.le_of_ble_eq_true rfl) (pB9 (all9_hit (fun j hj => hq j (by omega))).symm rfl) dX5_areReversibleFrom_55
      · have hd9 : rN S 28 i < rN S 46 0 := hW.dn i (by omega)
        refine V.aload_n X dX5_areReversibleFrom_13 rfl ?_
        refine wC_gX5_26 X dX5_areReversibleFrom_14 ?_
        refine wC_gX5_453 X dX5_areReversibleFrom_17 ?_
        refine V.iload_n X dX5_areReversibleFrom_20 rfl ?_
        refine wC_ld28 (i := i) X (by omega) dX5_areReversibleFrom_21 ?_
        refine V.istore_n (L' := [(3, .int (nI (rN S 28 i))), (2, .int (nI i)), (0, .ref (ad 0)), (1, .int (nI a))]) X dX5_areReversibleFrom_22 rfl hB9 (by decide) rfl ?_
        refine V.aload_n X dX5_areReversibleFrom_23 rfl ?_
        refine wC_gX5_19 X dX5_areReversibleFrom_24 ?_
        refine V.iload_n X dX5_areReversibleFrom_27 rfl ?_
        refine V.callV1 [.int (nI (rN S 28 i))] X (c_X3_has l D cy ad S F (nI (rN S 28 i))) mv_X3_has gw_3_5 ⟨⟨(Nat.le_of_ble_eq_true rfl), (Nat.le_of_ble_eq_true rfl)⟩, (Nat.le_of_ble_eq_true rfl), (Nat.le_of_ble_eq_true rfl)⟩ (q0 := 2) (ci := 5) rfl rfl rfl (Nat.le_of_ble_eq_true rfl) dX5_areReversibleFrom_28 ?_
        refine V.if_eq (tgt := 48) X dX5_areReversibleFrom_31 (by decide) b2i_0 b2i_n0 (fun (hz31 : inR (nI (rN S 28 i)) (rN S 44 0) = false) => ?_) (fun (hz31 : inR (nI (rN S 28 i)) (rN S 44 0) = true) => ?_)
        · exact absurd hz31 (by rw [inR_nI (by omega) (by omega)]; simp; omega)
        · refine V.aload_n X dX5_areReversibleFrom_34 rfl ?_
          refine wC_gX5_19 X dX5_areReversibleFrom_35 ?_
          refine wC_gX5_456 X dX5_areReversibleFrom_38 ?_
          refine V.iload_n X dX5_areReversibleFrom_41 rfl ?_
          refine wC_ld14 (i := rN S 28 i) X (by omega) dX5_areReversibleFrom_42 ?_
          refine V.if_ne (tgt := 48) X dX5_areReversibleFrom_43 (by decide) b2i_n0 b2i_0 (fun (hz43 : rB S 14 (rN S 28 i) = true) => ?_) (fun (hz43 : rB S 14 (rN S 28 i) = false) => ?_)
          · refine V.iinc (v := nI (i + 1)) (L' := [(2, .int (nI (i + 1))), (3, .int (nI (rN S 28 i))), (0, .ref (ad 0)), (1, .int (nI a))]) X dX5_areReversibleFrom_48 rfl (nI_inc _) hB9 (by decide) rfl ?_
            refine V.goto (tgt := 2) X dX5_areReversibleFrom_51 (by decide) ?_
            refine V.pick [0, 2, 3] rfl ?_
            exact V.eqs rfl rfl (ih2 (i + 1) (by omega) (by omega) (lt_s hq (by simp [hz43])) (by omega))
          · refine V.iconst (v := nI 0) X dX5_areReversibleFrom_46 rfl ?_
            exact V.iret (v := b2i false) X hE rfl (nar_b _) (Nat.le_of_ble_eq_true rfl) (Nat.le_of_ble_eq_true rfl) (pB9 (all9_miss (i := i) (by omega) (by simp [hz43, Nat.not_lt.mpr hai])).symm rfl) dX5_areReversibleFrom_47
  exact V.eqs rfl rfl (loop2 _ a (Nat.lt_succ_self _) ha (fun j hj => by simp [hj]) (Nat.le_refl _))
