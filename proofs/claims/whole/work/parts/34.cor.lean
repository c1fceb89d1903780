/-! ===== the reference's states beside the class's ===== -/
/-- a state of the reference beside one of the class: all that both see is the same -/
def Cor (A B : St) : Prop := (rI A = rI B) ∧ (rN A = rN B) ∧ (rB A = rB B) ∧ (rL A = rL B) ∧ (rO A 16 = rO B 16) ∧ (rO A 30 = rO B 30) ∧ (rO A 31 = rO B 31) ∧ (rO A 47 = rO B 47) ∧ (rO A 48 = rO B 48) ∧ (rC A 13 = rC B 13) ∧ (rC A 19 = rC B 19) ∧ (rC A 29 = rC B 29)
theorem Cor.i {A B : St} (h : Cor A B) : rI A = rI B := h.1
theorem Cor.n {A B : St} (h : Cor A B) : rN A = rN B := h.2.1
theorem Cor.b {A B : St} (h : Cor A B) : rB A = rB B := h.2.2.1
theorem Cor.l {A B : St} (h : Cor A B) : rL A = rL B := h.2.2.2.1
theorem Cor.o16 {A B : St} (h : Cor A B) : rO A 16 = rO B 16 := h.2.2.2.2.1
theorem Cor.o30 {A B : St} (h : Cor A B) : rO A 30 = rO B 30 := h.2.2.2.2.2.1
theorem Cor.o31 {A B : St} (h : Cor A B) : rO A 31 = rO B 31 := h.2.2.2.2.2.2.1
theorem Cor.o47 {A B : St} (h : Cor A B) : rO A 47 = rO B 47 := h.2.2.2.2.2.2.2.1
theorem Cor.o48 {A B : St} (h : Cor A B) : rO A 48 = rO B 48 := h.2.2.2.2.2.2.2.2.1
theorem Cor.c13 {A B : St} (h : Cor A B) : rC A 13 = rC B 13 := h.2.2.2.2.2.2.2.2.2.1
theorem Cor.c19 {A B : St} (h : Cor A B) : rC A 19 = rC B 19 := h.2.2.2.2.2.2.2.2.2.2.1
theorem Cor.c29 {A B : St} (h : Cor A B) : rC A 29 = rC B 29 := h.2.2.2.2.2.2.2.2.2.2.2
theorem Cor.refl (A : St) : Cor A A := ⟨rfl, rfl, rfl, rfl, rfl, rfl, rfl, rfl, rfl, rfl, rfl, rfl⟩
theorem Cor.sN {A B : St} (h : Cor A B) {k : Nat} {f f2 : Nat → Nat} (e : f = f2) : Cor (sN A k f) (sN B k f2) := by
  subst e
  exact ⟨h.i, congrArg (fun g => rup g k f) h.n, h.b, h.l, h.o16, h.o30, h.o31, h.o47, h.o48, h.c13, h.c19, h.c29⟩
theorem Cor.sB {A B : St} (h : Cor A B) {k : Nat} {f f2 : Nat → Bool} (e : f = f2) : Cor (sB A k f) (sB B k f2) := by
  subst e
  exact ⟨h.i, h.n, congrArg (fun g => rup g k f) h.b, h.l, h.o16, h.o30, h.o31, h.o47, h.o48, h.c13, h.c19, h.c29⟩
theorem Cor.sI {A B : St} (h : Cor A B) {k : Nat} {f f2 : Nat → Int32} (e : f = f2) : Cor (sI A k f) (sI B k f2) := by
  subst e
  exact ⟨congrArg (fun g => rup g k f) h.i, h.n, h.b, h.l, h.o16, h.o30, h.o31, h.o47, h.o48, h.c13, h.c19, h.c29⟩
theorem Cor.sL {A B : St} (h : Cor A B) {k : Nat} {v v2 : Int64} (e : v = v2) : Cor (sL A k v) (sL B k v2) := by
  subst e
  exact ⟨h.i, h.n, h.b, congrArg (fun g => rup g k v) h.l, h.o16, h.o30, h.o31, h.o47, h.o48, h.c13, h.c19, h.c29⟩
theorem Cor.sO30 {A B : St} (h : Cor A B) {f f2 : Nat → Option Nat} (e : f = f2) : Cor (sO A 30 f) (sO B 30 f2) := by
  subst e
  exact ⟨h.i, h.n, h.b, h.l, h.o16, rfl, h.o31, h.o47, h.o48, h.c13, h.c19, h.c29⟩
theorem Cor.sO31 {A B : St} (h : Cor A B) {f f2 : Nat → Option Nat} (e : f = f2) : Cor (sO A 31 f) (sO B 31 f2) := by
  subst e
  exact ⟨h.i, h.n, h.b, h.l, h.o16, h.o30, rfl, h.o47, h.o48, h.c13, h.c19, h.c29⟩
theorem Cor.sO47 {A B : St} (h : Cor A B) {f f2 : Nat → Option Nat} (e : f = f2) : Cor (sO A 47 f) (sO B 47 f2) := by
  subst e
  exact ⟨h.i, h.n, h.b, h.l, h.o16, h.o30, h.o31, rfl, h.o48, h.c13, h.c19, h.c29⟩
theorem Cor.sO48 {A B : St} (h : Cor A B) {f f2 : Nat → Option Nat} (e : f = f2) : Cor (sO A 48 f) (sO B 48 f2) := by
  subst e
  exact ⟨h.i, h.n, h.b, h.l, h.o16, h.o30, h.o31, h.o47, rfl, h.c13, h.c19, h.c29⟩
theorem Cor.sO16 {A B : St} (h : Cor A B) {f f2 : Nat → Option Nat} (e : f = f2) : Cor (sO A 16 f) (sO B 16 f2) := by
  subst e
  exact ⟨h.i, h.n, h.b, h.l, rfl, h.o30, h.o31, h.o47, h.o48, h.c13, h.c19, h.c29⟩
theorem Cor.sC29 {A B : St} (h : Cor A B) {f f2 : Nat → UInt16} (e : f = f2) : Cor (sC A 29 f) (sC B 29 f2) := by
  subst e
  exact ⟨h.i, h.n, h.b, h.l, h.o16, h.o30, h.o31, h.o47, h.o48, h.c13, h.c19, rfl⟩
theorem Cor.l60 {A B : St} (h : Cor A B) (f : Nat → Option Nat) : Cor (sO A 60 f) B := h
theorem Cor.r9 {A B : St} (h : Cor A B) (f : Nat → Option Nat) : Cor A (sO B 9 f) := h
theorem Cor.l64 {A B : St} (h : Cor A B) (f : Nat → UInt16) : Cor (sC A 64 f) B := h
theorem Cor.r22 {A B : St} (h : Cor A B) (f : Nat → UInt16) : Cor A (sC B 22 f) := h
theorem Cor.lg {A B : St} (h : Cor A B) (sg : UInt16) (st pp : Option Nat) (mi : Nat) : Cor (lgw A sg st pp mi) (lgw B sg st pp mi) := by
  unfold lgw
  exact ((((h.sC29 (by rw [h.c29, h.n])).sO30 (by rw [h.o30, h.n])).sO31 (by rw [h.o31, h.n])).sN (by rw [h.n])).sN (by rw [h.n])
/-- the world of the reference, told by the class's state -/
def jn9 (A B : St) : St := sC (sO B 60 (rO A 60)) 64 (rC A 64)
theorem wM_cor {A B : St} (h : Cor A B) (am : Nat → Nat) (cy : Nat → ClassId) : wM am cy A = wM am cy (jn9 A B) := by
  unfold wM
  rw [h.i, h.n, h.b, h.l, h.o16, h.o30, h.o31, h.o47, h.o48, h.c13, h.c19, h.c29]
  rfl
/-- and the states of the steps agree -/
def CM (A B : St) : Prop := Cor A B ∧ (∀ s, s < rN B 46 0 → rC A 64 s = rC B 22 s) ∧ ∀ s, rN B 46 0 ≤ s → rC A 64 s ≠ 97 ∧ rC B 22 s ≠ 97
theorem CM.up {A B : St} (h : CM A B) {s : Nat} {q : UInt16} (hs : s < rN B 46 0) : CM (sC A 64 (up1 (rC A 64) s q)) (sC B 22 (up1 (rC B 22) s q)) := by
  refine ⟨(h.1.l64 _).r22 _, fun j hj => ?_, fun j hj => ?_⟩
  · show up1 (rC A 64) s q j = up1 (rC B 22) s q j
    by_cases e : j = s
    · subst e; rw [up1_same, up1_same]
    · rw [up1_ne e, up1_ne e]; exact h.2.1 j hj
  · show up1 (rC A 64) s q j ≠ 97 ∧ up1 (rC B 22) s q j ≠ 97
    have hj2 : rN B 46 0 ≤ j := hj
    rw [up1_ne (by omega), up1_ne (by omega)]
    exact h.2.2 j hj2
theorem CM.lg {A B : St} (h : CM A B) (sg : UInt16) (st pp : Option Nat) (mi : Nat) : CM (lgw A sg st pp mi) (lgw B sg st pp mi) := ⟨h.1.lg sg st pp mi, h.2.1, h.2.2⟩
theorem CM.r9 {A B : St} (h : CM A B) (f : Nat → Option Nat) : CM A (sO B 9 f) := ⟨h.1.r9 f, h.2.1, h.2.2⟩
theorem CM.sN25 {A B : St} (h : CM A B) {f f2 : Nat → Nat} (e : f = f2) : CM (sN A 25 f) (sN B 25 f2) := ⟨h.1.sN e, h.2.1, h.2.2⟩
theorem CM.cin {A B : St} (h : CM A B) (c : Option Nat) (hc : ∀ t, c = some t → t < rN B 46 0) : CM (mcin A c) (cin9 B c) := by
  cases c with
  | none => exact h
  | some t =>
    have ht := hc t rfl
    have e1 := h.2.1 t ht
    by_cases e : rC B 22 t = 111
    · rw [cin9_y ht e, mcin_y (e1.trans e), show rN A 40 0 = rN B 40 0 by rw [h.1.n]]
      exact (h.up ht).lg _ _ _ _
    · rw [cin9_n e, mcin_n (fun e2 => e (e1.symm.trans e2))]
      exact h
theorem CM.fail {A B : St} (h : CM A B) {s : Nat} (hs : s < rN B 46 0) (hf : ∀ t, rO B 16 s = some t → t < rN B 46 0) : CM (mfail A s) (fail9 B s) := by
  have hA : ∀ q, CM (mfA A s q) (failA B s q) := fun q => by
    unfold mfA failA
    exact ((h.r9 (relW B s (rN B 43 0))).sN25 (by show up1 (rN A 25) s (rN A 25 s + 1) = up1 (rN B 25) s (rN B 25 s + 1); rw [h.1.n])).up hs
  have e1 : rN A 40 0 = rN B 40 0 := by rw [h.1.n]
  unfold mfail fail9
  rw [h.1.n]
  split
  · exact (hA 119).lg _ _ _ _
  · rw [h.1.o16]
    refine CM.cin ?_ _ hf
    unfold mfB failB
    rw [e1]
    exact (hA 102).lg _ _ _ _
theorem fail9_97 {B : St} {s j : Nat} (h : rC (fail9 B s) 22 j = 97) : rC B 22 j = 97 := by
  have hA : ∀ q, q ≠ 97 → rC (failA B s q) 22 j = 97 → rC B 22 j = 97 := fun q hq e => by
    have e2 : up1 (rC B 22) s q j = 97 := e
    by_cases e3 : j = s
    · subst e3; rw [up1_same] at e2; exact absurd e2 hq
    · rw [up1_ne e3] at e2; exact e2
  unfold fail9 at h
  split at h
  · exact hA 119 (by decide) h
  · refine hA 102 (by decide) ?_
    show rC (failB B s) 22 j = 97
    revert h
    generalize failB B s = T
    cases rO B 16 s with
    | none => exact id
    | some t =>
      intro h
      by_cases e : t < rN T 46 0 ∧ rC T 22 t = 111
      · rw [cin9_y e.1 e.2] at h
        have e2 : up1 (rC T 22) t 119 j = 97 := h
        by_cases e3 : j = t
        · subst e3; rw [up1_same] at e2; exact absurd e2 (by decide)
        · rw [up1_ne e3] at e2; exact e2
      · rw [show cin9 T (some t) = T from if_neg e] at h; exact h
/-- the time outs run alike -/
theorem tm_cm {A B : St} (h : CM A B) (hw : ∀ s, s < rN B 46 0 → rC B 22 s = 97 → rN B 26 s ≤ 2 * rN B 11 s) (hf : ∀ s t, s < rN B 46 0 → rO B 16 s = some t → t < rN B 46 0) :
    ∀ i, i ≤ rN B 46 0 → CM (mtS A i) (tmS B i) ∧ mtN A i = tmN B i ∧ ∀ s, rC (tmS B i) 22 s = 97 → rC B 22 s = 97
  | 0, _ => ⟨h, rfl, fun _ h => h⟩
  | i + 1, hi => by
    obtain ⟨h1, h2, h3⟩ := tm_cm h hw hf i (by omega)
    have kb := tmS_kp B i
    have e46 : rN (tmS B i) 46 0 = rN B 46 0 := congrFun kb.n46 0
    have ht : isToM (mtS A i) i = isTo (tmS B i) i := by
      unfold isToM isTo
      rw [h1.2.1 i (by omega), h1.1.n]
      by_cases e : rC (tmS B i) 22 i = 97
      · have h4 := hw i (by omega) (h3 i e)
        rw [kb.n26, kb.n11]
        have h5 : (rN B 26 i = 2 * rN B 11 i) ↔ 2 * rN B 11 i ≤ rN B 26 i := by omega
        simp [h5]
      · simp [e]
    unfold mtS tmS mtN tmN
    rw [ht, h2]
    split
    · refine ⟨h1.fail (by omega) (fun t e => ?_), rfl, fun s e => h3 s (fail9_97 e)⟩
      rw [kb.o16] at e
      rw [e46]
      exact hf i t (by omega) e
    · exact ⟨h1, rfl, h3⟩
theorem mt_more {A : St} {n : Nat} (hn : ∀ s, n ≤ s → rC (mtS A n) 64 s ≠ 97) : ∀ d, mtS A (n + d) = mtS A n ∧ mtN A (n + d) = mtN A n
  | 0 => ⟨rfl, rfl⟩
  | d + 1 => by
    obtain ⟨h1, h2⟩ := mt_more hn d
    have e : ¬ isToM (mtS A (n + d)) (n + d) = true := by
      rw [h1]
      unfold isToM
      simp [hn (n + d) (by omega)]
    have e1 : mtS A (n + d + 1) = mtS A (n + d) := if_neg e
    have e2 : mtN A (n + d + 1) = mtN A (n + d) := if_neg e
    exact ⟨by rw [← h1]; exact e1, by rw [← h2]; exact e2⟩

