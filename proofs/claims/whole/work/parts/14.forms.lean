/-! ===== forms of contracts, conditions by their numbers ===== -/
def pI (r : Int32) (u : va_W) : Option Value → va_W → Prop := fun v w => v = some (.int r) ∧ w = u
def pU (u : va_W) : Option Value → va_W → Prop := fun v w => v = none ∧ w = u
/-- under a condition: else it throws -/
def pIx (c : Prop) (r : Int32) (u : va_W) : Option Value → va_W → Prop := fun v w => c ∧ v = some (.int r) ∧ w = u
def pUx (c : Prop) (u : va_W) : Option Value → va_W → Prop := fun v w => c ∧ v = none ∧ w = u
def pNo : String → va_W → Prop := fun _ _ => False
def pX (c : Prop) (E : String) (u : va_W) : String → va_W → Prop := fun E9 w => c ∧ E9 = E ∧ w = u
theorem pN9 {a b : Nat} {w u : va_W} (h : a = b) (hu : w = u) : pI (nI b) u (some (.int (nI a))) w := ⟨by rw [h], hu⟩
theorem pB9 {a b : Bool} {w u : va_W} (h : a = b) (hu : w = u) : pI (b2i b) u (some (.int (b2i a))) w := ⟨by rw [h], hu⟩
theorem pC9 {a b : UInt16} {w u : va_W} (h : a = b) (hu : w = u) : pI (c2i b) u (some (.int (c2i a))) w := ⟨by rw [h], hu⟩
theorem pO9 {a b : Option Nat} {w u : va_W} (h : a = b) (hu : w = u) : pI (o2i b) u (some (.int (o2i a))) w := ⟨by rw [h], hu⟩
theorem pI9 {a b : Int32} {w u : va_W} (h : a = b) (hu : w = u) : pI b u (some (.int a)) w := ⟨by rw [h], hu⟩
theorem pU9 {w u : va_W} (hu : w = u) : pU u none w := ⟨rfl, hu⟩
/-- x is one of 0 .. n - 1 -/
def inR (x : Int32) (n : Nat) : Bool := decide (¬ x < 0 ∧ ¬ nI n ≤ x)
theorem inR_t {x : Int32} {n : Nat} (h1 : ¬ x < 0) (h2 : ¬ nI n ≤ x) : inR x n = true := by simp [inR, h1, h2]
theorem inR_f1 {x : Int32} {n : Nat} (h1 : x < 0) : inR x n = false := by simp [inR, h1]
theorem inR_f2 {x : Int32} {n : Nat} (h2 : nI n ≤ x) : inR x n = false := by simp [inR, h2]
theorem inR_nI {j n : Nat} (hn : n < 2147483648) (hj : j < 2147483648) : inR (nI j) n = decide (j < n) := by
  have h1 : ¬ nI j < 0 := nI_pos hj
  exact decide_eq_decide.mpr ⟨fun h => Nat.not_le.mp fun e => h.2 ((nI_leI hn hj).mpr e), fun h => ⟨h1, fun e => absurd ((nI_leI hn hj).mp e) (Nat.not_le.mpr h)⟩⟩
theorem inR_of {x : Int32} {n : Nat} (h : inR x n = true) (hn : n < 2147483648) : ∃ j : Nat, j < n ∧ x = nI j := by
  simp only [inR, decide_eq_true_eq] at h
  rcases pk_ix x hn with h9 | h9 | h9
  · exact absurd h9 h.1
  · exact absurd h9 h.2
  · exact h9
theorem inR_o {x : Option Nat} {n : Nat} (hn : n < 2147483648) (hx : ∀ k, x = some k → k < n) : inR (o2i x) n = x.isSome := by
  cases x with
  | none => exact inR_f1 (by show (-1 : Int32) < 0; decide)
  | some k =>
    have := hx k rfl
    rw [show o2i (some k) = nI k from rfl, inR_nI hn (by omega)]
    simp [this]
-- conditions
theorem i32_nle {a b : Int32} : ¬ a ≤ b ↔ b < a := by rw [Int32.le_iff_toInt_le, Int32.lt_iff_toInt_lt]; omega
theorem i32_nlt {a b : Int32} : ¬ a < b ↔ b ≤ a := by rw [Int32.le_iff_toInt_le, Int32.lt_iff_toInt_lt]; omega
theorem cN_eq {a b : Nat} (ha : a < 2147483648) (hb : b < 2147483648) (h : nI a = nI b) : a = b := (nI_eq ha hb).mp h
theorem cN_ne {a b : Nat} (h : ¬ nI a = nI b) : ¬ a = b := fun e => h (by rw [e])
theorem cN_lt {a b : Nat} (ha : a < 2147483648) (hb : b < 2147483648) (h : nI a < nI b) : a < b := (nI_ltI ha hb).mp h
theorem cN_nlt {a b : Nat} (ha : a < 2147483648) (hb : b < 2147483648) (h : ¬ nI a < nI b) : b ≤ a := Nat.not_lt.mp fun e => h ((nI_ltI ha hb).mpr e)
theorem cN_le {a b : Nat} (ha : a < 2147483648) (hb : b < 2147483648) (h : nI a ≤ nI b) : a ≤ b := (nI_leI ha hb).mp h
theorem cN_nle {a b : Nat} (ha : a < 2147483648) (hb : b < 2147483648) (h : ¬ nI a ≤ nI b) : b < a := Nat.not_le.mp fun e => h ((nI_leI ha hb).mpr e)
theorem cC_eq {a b : UInt16} (h : c2i a = c2i b) : a = b := c2i_eq.mp h
theorem cC_ne {a b : UInt16} (h : ¬ c2i a = c2i b) : ¬ a = b := fun e => h (by rw [e])
theorem cO_eq {a b : Option Nat} (ha : ∀ k, a = some k → k < 2147483648) (hb : ∀ k, b = some k → k < 2147483648) (h : o2i a = o2i b) : a = b := (o2i_eq ha hb).mp h
theorem cO_ne {a b : Option Nat} (h : ¬ o2i a = o2i b) : ¬ a = b := fun e => h (by rw [e])
theorem bI {x : Int32} {n : Nat} (h : x = nI n) (hn : n < 2147483648) : x.toNatClampNeg = n := by rw [h]; exact nI_clamp hn
/-- all numbers of a state are small -/
def Bnd (S : St) : Prop := (∀ k j, rN S k j < 1000000) ∧ ∀ k j v, rO S k j = some v → v < 1000000
theorem Bnd.n {S : St} (h : Bnd S) (k j : Nat) : rN S k j < 2147483648 := Nat.lt_trans (h.1 k j) (by decide)
theorem Bnd.o {S : St} (h : Bnd S) (k j : Nat) : ∀ v, rO S k j = some v → v < 2147483648 := fun v e => Nat.lt_trans (h.2 k j v e) (by decide)
theorem rup_self {α : Type} (f : Nat → α) (k : Nat) (v : α) : rup f k v k = v := by
  have : Nat.beq k k = true := Nat.beq_refl k
  simp [rup, this]
theorem rup_ne {α : Type} (f : Nat → α) {k j : Nat} (v : α) (h : j ≠ k) : rup f k v j = f j := by
  have : Nat.beq j k = false := by
    cases e : Nat.beq j k
    · rfl
    · exact absurd (Nat.eq_of_beq_eq_true e) h
  simp [rup, this]
theorem Bnd.sI {S : St} (h : Bnd S) (k : Nat) (f : Nat → Int32) : Bnd (sI S k f) := h
theorem Bnd.sB {S : St} (h : Bnd S) (k : Nat) (f : Nat → Bool) : Bnd (sB S k f) := h
theorem Bnd.sC {S : St} (h : Bnd S) (k : Nat) (f : Nat → UInt16) : Bnd (sC S k f) := h
theorem Bnd.sL {S : St} (h : Bnd S) (k : Nat) (v : Int64) : Bnd (sL S k v) := h
theorem Bnd.sN {S : St} (h : Bnd S) (k : Nat) {f : Nat → Nat} (hf : ∀ j, f j < 1000000) : Bnd (sN S k f) := by
  refine ⟨fun a j => ?_, h.2⟩
  by_cases e : a = k
  · subst e
    show rup _ a f a j < 1000000
    rw [rup_self]; exact hf j
  · show rup _ k f a j < 1000000
    rw [rup_ne _ _ e]; exact h.1 a j
theorem Bnd.sO {S : St} (h : Bnd S) (k : Nat) {f : Nat → Option Nat} (hf : ∀ j v, f j = some v → v < 1000000) : Bnd (sO S k f) := by
  refine ⟨h.1, fun a j v e9 => ?_⟩
  by_cases e : a = k
  · subst e
    have e8 : rup _ a f a j = some v := e9
    rw [rup_self] at e8; exact hf j v e8
  · have e8 : rup _ k f a j = some v := e9
    rw [rup_ne _ _ e] at e8; exact h.2 a j v e8
theorem up1_lt {f : Nat → Nat} {B i v : Nat} (hf : ∀ j, f j < B) (hv : v < B) : ∀ j, up1 f i v j < B := by
  intro j
  unfold up1
  split
  · exact hv
  · exact hf j
theorem up1_o {f : Nat → Option Nat} {B i : Nat} {v : Option Nat} (hf : ∀ j w, f j = some w → w < B) (hv : ∀ w, v = some w → w < B) : ∀ j w, up1 f i v j = some w → w < B := by
  intro j w
  unfold up1
  split
  · exact hv w
  · exact hf j w
section VF
variable {l : Launch} {D : va_G} {M : VM} {cy : Nat → ClassId} {cc : ByteArray} {own : String} {ret : Option FieldType} {rm : Room} {k n : Nat} {Wd : va_W} {L : List (Nat × Value)} {pc : Nat} {st : List Value}
theorem V.eqs {Wd' : va_W} {L' : List (Nat × Value)} (hW : Wd = Wd') (hL : L = L') (kk : V l D M k n Wd' L' pc st) : V l D M k n Wd L pc st := by subst hW; subst hL; exact kk
theorem V.pick {L' : List (Nat × Value)} (ks : List Nat) (h : lv_pick L ks = L') (kk : V l D M k n Wd L' pc st) : V l D M k n Wd L pc st := by
  obtain ⟨p, e, R, s, m, args, below, meth, c, A, nL, Q⟩ := M
  intro H locs ls hP hD hS hL
  exact kk H locs ls hP hD hS (lv_sub hL ks h)
theorem V.top {x y : Int32} (h : x = y) (kk : V l D M k n Wd L pc (.int y :: st)) : V l D M k n Wd L pc (.int x :: st) := by subst h; exact kk
theorem V.callV1 {y : MethodName} {C : String} {bytes : ByteArray} {nLy index a : Nat} {rety : Option FieldType} {rmy : Room} (As : List Value) {r : Int32} {u : va_W} {q0 ci : Nat} {fs : List Value} {T : u_T} {N : Nat} {st0 : List Value}
    (X : VX l D M cy cc own ret rm) (h : Ctr l D cy y (.code y bytes nLy rety) rmy (.ref a :: As) Wd (pI r u) pNo) (mv : MV y C bytes nLy rety As.length) (hlink : Cond.methodLink own index y ∈ lwG) (hR : RoomIn rmy rm nLy k n)
    (hg : Wd[q0]? = some (a, .inr (ci, fs))) (hc : vwCl[ci]? = some (C, T, N)) (hst : st0 = As.reverse ++ .ref a :: st) (hcat : (st.map fun v => v.category).sum ≤ 8) (hd : decode cc pc = .ok (.invokevirtual index, 3))
    (kk : V l D M (k + rmy.cells) (n + rmy.slots) u L (pc + 3) (.int r :: st)) : V l D M k n Wd L pc st0 :=
  V.callV As X h mv hlink hR hg hc hst hcat hd (fun _ _ h => h.elim) (fun v w h => by obtain ⟨rfl, rfl⟩ := h; exact kk)
theorem V.callV0 {y : MethodName} {C : String} {bytes : ByteArray} {nLy index a : Nat} {rety : Option FieldType} {rmy : Room} (As : List Value) {u : va_W} {q0 ci : Nat} {fs : List Value} {T : u_T} {N : Nat} {st0 : List Value}
    (X : VX l D M cy cc own ret rm) (h : Ctr l D cy y (.code y bytes nLy rety) rmy (.ref a :: As) Wd (pU u) pNo) (mv : MV y C bytes nLy rety As.length) (hlink : Cond.methodLink own index y ∈ lwG) (hR : RoomIn rmy rm nLy k n)
    (hg : Wd[q0]? = some (a, .inr (ci, fs))) (hc : vwCl[ci]? = some (C, T, N)) (hst : st0 = As.reverse ++ .ref a :: st) (hcat : (st.map fun v => v.category).sum ≤ 8) (hd : decode cc pc = .ok (.invokevirtual index, 3))
    (kk : V l D M (k + rmy.cells) (n + rmy.slots) u L (pc + 3) st) : V l D M k n Wd L pc st0 :=
  V.callV As X h mv hlink hR hg hc hst hcat hd (fun _ _ h => h.elim) (fun v w h => by obtain ⟨rfl, rfl⟩ := h; exact kk)
theorem V.callS1 {y : MethodName} {bytes : ByteArray} {nLy index : Nat} {rety : Option FieldType} {rmy : Room} (As : List Value) {r : Int32} {u : va_W} {st0 : List Value}
    (X : VX l D M cy cc own ret rm) (h : Ctr l D cy y (.code y bytes nLy rety) rmy As Wd (pI r u) pNo) (mv : MS y bytes nLy rety As.length) (hlink : Cond.methodLink own index y ∈ lwG) (hR : RoomIn rmy rm nLy k n)
    (hst : st0 = As.reverse ++ st) (hcat : (st.map fun v => v.category).sum ≤ 8) (hd : decode cc pc = .ok (.invokestatic index, 3))
    (kk : V l D M (k + rmy.cells) (n + rmy.slots) u L (pc + 3) (.int r :: st)) : V l D M k n Wd L pc st0 :=
  V.callS As X h mv hlink hR hst hcat hd (fun _ _ h => h.elim) (fun v w h => by obtain ⟨rfl, rfl⟩ := h; exact kk)
/-- a call that may throw E: what is thrown goes on -/
theorem V.callVx1 {y : MethodName} {C : String} {bytes : ByteArray} {nLy index a : Nat} {rety : Option FieldType} {rmy : Room} (As : List Value) {c1 : Prop} {r : Int32} {u : va_W} {px' : String → va_W → Prop} {q0 ci : Nat} {fs : List Value} {T : u_T} {N : Nat} {st0 : List Value} {post : Option Value → va_W → Prop} {px : String → va_W → Prop}
    (X : VX l D M cy cc own ret rm) (E : EQ9 D M post px rm) (hN : VN M) (h : Ctr l D cy y (.code y bytes nLy rety) rmy (.ref a :: As) Wd (pIx c1 r u) px') (mv : MV y C bytes nLy rety As.length) (hlink : Cond.methodLink own index y ∈ lwG) (hR : RoomIn rmy rm nLy k n)
    (hg : Wd[q0]? = some (a, .inr (ci, fs))) (hc : vwCl[ci]? = some (C, T, N)) (hst : st0 = As.reverse ++ .ref a :: st) (hcat : (st.map fun v => v.category).sum ≤ 8) (hd : decode cc pc = .ok (.invokevirtual index, 3))
    (hpx : ∀ E9 w, px' E9 w → px E9 w)
    (kk : c1 → V l D M (k + rmy.cells) (n + rmy.slots) u L (pc + 3) (.int r :: st)) : V l D M k n Wd L pc st0 :=
  V.callV As X h mv hlink hR hg hc hst hcat hd (fun E9 w h9 => VT.out X E hN hR.2.1 hR.2.2 (hpx E9 w h9)) (fun v w h => by obtain ⟨h1, rfl, rfl⟩ := h; exact kk h1)
theorem V.callVx0 {y : MethodName} {C : String} {bytes : ByteArray} {nLy index a : Nat} {rety : Option FieldType} {rmy : Room} (As : List Value) {c1 : Prop} {u : va_W} {px' : String → va_W → Prop} {q0 ci : Nat} {fs : List Value} {T : u_T} {N : Nat} {st0 : List Value} {post : Option Value → va_W → Prop} {px : String → va_W → Prop}
    (X : VX l D M cy cc own ret rm) (E : EQ9 D M post px rm) (hN : VN M) (h : Ctr l D cy y (.code y bytes nLy rety) rmy (.ref a :: As) Wd (pUx c1 u) px') (mv : MV y C bytes nLy rety As.length) (hlink : Cond.methodLink own index y ∈ lwG) (hR : RoomIn rmy rm nLy k n)
    (hg : Wd[q0]? = some (a, .inr (ci, fs))) (hc : vwCl[ci]? = some (C, T, N)) (hst : st0 = As.reverse ++ .ref a :: st) (hcat : (st.map fun v => v.category).sum ≤ 8) (hd : decode cc pc = .ok (.invokevirtual index, 3))
    (hpx : ∀ E9 w, px' E9 w → px E9 w)
    (kk : c1 → V l D M (k + rmy.cells) (n + rmy.slots) u L (pc + 3) st) : V l D M k n Wd L pc st0 :=
  V.callV As X h mv hlink hR hg hc hst hcat hd (fun E9 w h9 => VT.out X E hN hR.2.1 hR.2.2 (hpx E9 w h9)) (fun v w h => by obtain ⟨h1, rfl, rfl⟩ := h; exact kk h1)
/-- Math.max -/
theorem V.mmax {index : Nat} {x y v : Int32} (X : VX l D M cy cc own ret rm) (hlink : Cond.methodLink own index Lib.Math.max.name ∈ lwG) (hstat : Cond.static Lib.Math.max.name ∈ lwG) (hini : Cond.initialized "java/lang/Math" ∈ lwG) (hcode : Cond.code Lib.Math.max.name Lib.Math.max.code 2 (some .int) ∈ lwG)
    (hf : 1 ≤ rm.frames) (hl : (st.map fun v => v.category).sum + 13 ≤ rm.locals) (hk : k ≤ rm.cells) (hs : n ≤ rm.slots) (hd : decode cc pc = .ok (.invokestatic index, 3)) (hv : (if x < y then y else x) = v) (kk : V l D M k n Wd L (pc + 3) (.int v :: st)) : V l D M k n Wd L pc (.int y :: .int x :: st) := by
  obtain ⟨p, e, R, s, m, args, below, meth, c, A, nL, Q⟩ := M
  obtain ⟨hx, hb, hml, ho, hts, hK, hA, hlk, hAm, htr, hrt, rfl⟩ := X
  intro H locs ls hP hD hS hL
  exact va_mmax hx hb (hml.trans hL.1.symm) ho (hts _ hlink) (hts _ hstat) (hts _ hini) (hts _ hcode) hf hl hk hs hd (by rw [hv]; exact kk H locs ls hP hD hS hL)
end VF
