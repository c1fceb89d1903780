/-! ===== every call keeps what the law's loop needs ===== -/
def OKs (S : St) (c : Nat) : Prop := Inv S ∧ Phi S ≤ 3 * c ∧ rN S 40 0 ≤ 240 * c
theorem OKs.rm {S : St} {c : Nat} (h : OKs S c) (hc : c < 512) : Rm S := ⟨by have := h.2.1; omega, by have := h.2.2; omega⟩
theorem OKs.of {S U : St} {c : Nat} (h : OKs S c) (hI : Inv U) (hP : Phi U ≤ Phi S + 3) (hc : rN U 40 0 ≤ rN S 40 0 + 240) : OKs U (c + 1) := ⟨hI, by have := h.2.1; omega, by have := h.2.2; omega⟩
theorem OKs.up {S : St} {c : Nat} (h : OKs S c) : OKs S (c + 1) := h.of h.1 (Nat.le_add_right _ _) (Nat.le_add_right _ _)
theorem OKs.n62 {S : St} {c k : Nat} (h : OKs S c) (hk : k < 1000000) : OKs (sN S 62 (fun _ => k)) c := ⟨h.1.s62 (fun _ => hk), h.2.1, h.2.2⟩
theorem OKs.n63 {S : St} {c : Nat} {f : Nat → Nat} (h : OKs S c) (hf : ∀ j, f j < 1000000) : OKs (sN S 63 f) c := ⟨h.1.s63 hf, h.2.1, h.2.2⟩
theorem OKs.n21 {S : St} {c : Nat} {f : Nat → Nat} (h : OKs S c) (hf : ∀ j, f j < 1000000) : OKs (sN S 21 f) c := ⟨h.1.s21 hf, h.2.1, h.2.2⟩
theorem OKs.bif {S U : St} {c k : Nat} (h : OKs S c) (hk : k < 1000000) (h0 : k = 0 → OKs U (c + 1)) : OKs (sN (bif Nat.beq k 0 then U else S) 62 (fun _ => k)) (c + 1) := by
  cases k with
  | zero => exact (h0 rfl).n62 hk
  | succ k => exact h.up.n62 hk
theorem if0 {c : Prop} [Decidable c] {a d : Nat} (h : (if c then a + 1 else d) = 0) : ¬ c ∧ d = 0 := by
  by_cases hc : c
  · rw [if_pos hc] at h; exact absurd h (Nat.succ_ne_zero _)
  · rw [if_neg hc] at h; exact ⟨hc, h⟩
theorem ifle {c : Prop} [Decidable c] {a b m : Nat} (ha : a ≤ m) (hb : b ≤ m) : (if c then a else b) ≤ m := by split <;> assumption
theorem bnf {b : Bool} (h : ¬ b = false) : b = true := by cases b <;> first | rfl | exact absurd rfl h
theorem bnt {b : Bool} (h : ¬ b = true) : b = false := by cases b <;> first | rfl | exact absurd rfl h
theorem inR_ix {x : Int32} {n : Nat} (h : inR x n = true) (hn : n < 2147483648) : ix x < n ∧ x = nI (ix x) := by
  obtain ⟨j, hj, rfl⟩ := inR_of h hn
  rw [ix_nI (by omega)]
  exact ⟨hj, rfl⟩
theorem btw_ix {x : Int32} {a b : Nat} (h : btw x (nI a) (nI b) = true) (ha : a < 2147483648) (hb : b < 2147483647) : a ≤ ix x ∧ ix x ≤ b := by
  obtain ⟨n, h1, h2, rfl⟩ := btw_nat h ha hb
  rw [ix_nI (by omega)]
  exact ⟨h1, h2⟩
section OK
variable {S : St} {c : Nat}
theorem OK_AP {x : Int32} (h : OKs S c) (hk : kAP S x = 0) : OKs (sAP S x) (c + 1) := by
  obtain ⟨-, hk⟩ := if0 hk
  obtain ⟨h2, -⟩ := if0 hk
  exact h.of (h.1.ap x (by omega)) (show Phi S ≤ Phi S + 3 from Nat.le_add_right _ _) (Nat.le_add_right _ _)
theorem OK_SD {x : Int32} {b : Bool} (h : OKs S c) (hk : kSD S x = 0) : OKs (sSD S x b) (c + 1) := by
  obtain ⟨-, hk⟩ := if0 hk
  obtain ⟨h2, -⟩ := if0 hk
  refine h.of (h.1.sd b ?_ ?_) (show Phi S ≤ Phi S + 3 from Nat.le_add_right _ _) (Nat.le_add_right _ _)
  · cases e : rO S 9 (ix x) with
    | none => rfl
    | some v => exact absurd (Or.inl (by rw [e]; rfl)) h2
  · intro e
    exact absurd (Or.inr (by simp [e])) h2
theorem OK_AS {ro le tr : Int32} {jn : UInt16} {rv : Bool} (h : OKs S c) (hk : kAS S ro le tr jn = 0) : OKs (sC (sAS S ro le tr jn rv) 64 (up1 (rC S 64) (rN S 44 0) 111)) (c + 1) := by
  obtain ⟨h1, hk⟩ := if0 hk
  obtain ⟨h2, hk⟩ := if0 hk
  obtain ⟨h3, hk⟩ := if0 hk
  obtain ⟨h4, -⟩ := if0 hk
  have a1 := (inR_ix (bnf (fun e => h1 (Or.inl e))) (by decide)).1
  have a2 := btw_ix (bnf (fun e => h1 (Or.inr e))) (by decide) (by decide)
  have a3 := btw_ix (bnf (fun e => h2 (Or.inl e))) (by decide) (by decide)
  refine h.of (h.1.as a1 a2.1 a2.2 a3.1 a3.2 (by omega) ?_ (bnt h3)) (show Phi S ≤ Phi S + 3 from Nat.le_add_right _ _) (Nat.le_add_right _ _)
  by_cases e : jn = 97
  · exact Or.inl e
  · exact Or.inr (Decidable.byContradiction (fun e2 => h2 (Or.inr ⟨e, e2⟩)))
theorem OK_ND {x y : Int32} (h : OKs S c) (hk : kND S x y = 0) : OKs (sND S x y) (c + 1) := by
  have h44 := h.1.w.n44
  obtain ⟨h1, hk⟩ := if0 hk
  obtain ⟨h2, hk⟩ := if0 hk
  have a2 := (inR_ix (bnf h2) (by omega)).1
  obtain ⟨n, hn, hv⟩ := vND_nb h.1 (x := x) (y := y) (by omega)
  exact h.of (h.1.nd hn hv) (show Phi S ≤ Phi S + 3 from Nat.le_add_right _ _) (Nat.le_add_right _ _)
theorem OK_CD {x se b : Int32} {sg : UInt16} (h : OKs S c) (hk : kCD S x se sg b = 0) : OKs (sCD S x se sg b) (c + 1) := by
  obtain ⟨h1, hk⟩ := if0 hk
  obtain ⟨h2, hk⟩ := if0 hk
  obtain ⟨h3, hk⟩ := if0 hk
  obtain ⟨h4, -⟩ := if0 hk
  have a1 := (inR_ix (bnf (fun e => h2 (Or.inl e))) (by decide)).1
  exact h.of (h.1.cd a1 (by omega)) (show Phi S ≤ Phi S + 3 from Nat.le_add_right _ _) (Nat.le_add_right _ _)
theorem OK_SF {x y : Int32} (h : OKs S c) (hk : kSF S x y = 0) : OKs (sSF S x y) (c + 1) := by
  have h44 := h.1.w.n44
  obtain ⟨h1, hk⟩ := if0 hk
  obtain ⟨h2, hk⟩ := if0 hk
  obtain ⟨h3, hk⟩ := if0 hk
  have a2 := (inR_ix (bnf h2) (by omega)).1
  refine h.of (h.1.sf (p := ix x) (q := ix y) (Nat.lt_of_not_le (fun e => h3 (Or.inl e))) a2 ?_) (show Phi S ≤ Phi S + 3 from Nat.le_add_right _ _) (Nat.le_add_right _ _)
  by_cases e : own9 S (ix y) = none
  · exact Or.inl e
  · exact Or.inr (Decidable.byContradiction (fun e2 => h3 (Or.inr ⟨e, e2⟩)))
theorem OK_SR {x r : Int32} (h : OKs S c) : OKs (sSR S x r) (c + 1) := h.of (h.1.sr _) (show Phi S ≤ Phi S + 3 from Nat.le_add_right _ _) (Nat.le_add_right _ _)
theorem OK_ST (h : OKs S c) (hk : kST S = 0) : OKs (sC (sB (sST S) 61 (fun _ => true)) 64 (low9 (rst22 S) (rC S 64) (rN S 44 0))) (c + 1) := by
  obtain ⟨h1, hk⟩ := if0 hk
  obtain ⟨h2, -⟩ := if0 hk
  have hr := bnt h1
  have hT := h.1.st hr (by omega)
  refine h.of hT ?_ (Nat.le_add_right _ _)
  have ha : actN (sC (sB (sST S) 61 (fun _ => true)) 64 (low9 (rst22 S) (rC S 64) (rN S 44 0))) = 0 := by
    refine noA_act (fun s hs e => ?_)
    obtain ⟨p, hp, e2⟩ := hT.aw s hs e
    have e3 : rO S 9 p = some s := (hT.wa p s hp).mpr ⟨hs, e, e2⟩
    obtain ⟨q1, q2, -⟩ := (h.1.wa p s hp).mp e3
    have := h.1.ar s q1 q2
    rw [hr] at this; cases this
  show 0 + 2 * actN (sC (sB (sST S) 61 (fun _ => true)) 64 (low9 (rst22 S) (rC S 64) (rN S 44 0))) + 0 + (if (rO S 47 0).isSome then 1 else 0) ≤ Phi S + 3
  rw [ha]
  split <;> omega
theorem OK_CL (h : OKs S c) (hk : kCL S = 0) : OKs (sB S 41 (fun _ => false)) (c + 1) := by
  obtain ⟨h1, hk⟩ := if0 hk
  obtain ⟨h2, -⟩ := if0 hk
  refine h.of (h.1.cl (bnt (fun e => h2 (Or.inl e))) ?_) (show Phi S ≤ Phi S + 3 from Nat.le_add_right _ _) (Nat.le_add_right _ _)
  cases e : rO S 47 0 with
  | none => rfl
  | some v => exact absurd (Or.inr (by rw [e]; rfl)) h2
theorem OK_BG {x y : Int32} (h : OKs S c) (hR : Rm S) (hk : kBG S x y = 0) : OKs (sC (sO (sBG S x y) 60 (up1 (rO S 60) (ix y) (some (ix x)))) 64 (up1 (rC S 64) (ix y) 97)) (c + 1) := by
  have h43 := h.1.w.n43
  have h44 := h.1.w.n44
  obtain ⟨h1, hk⟩ := if0 hk
  obtain ⟨h2, hk⟩ := if0 hk
  obtain ⟨h3, hk⟩ := if0 hk
  obtain ⟨h4, hk⟩ := if0 hk
  obtain ⟨h5, -⟩ := if0 hk
  have a1 := (inR_ix (bnf h1) (by omega)).1
  have a2 := (inR_ix (bnf h2) (by omega)).1
  have a3 := bnf h3
  have a4 := bnf (fun e => h4 (Or.inl e))
  have a5 := bnf (fun e => h5 (Or.inl e))
  simp only [free9, Bool.and_eq_true, Bool.not_eq_true', Option.isSome_eq_false_iff, Option.isNone_iff_eq_none] at a4
  simp only [rdy9, Bool.and_eq_true, decide_eq_true_eq] at a5
  have hen := Rm.en hR
  have hs46 : ix y < rN S 46 0 := by have := (h.1.run a3).1; omega
  refine h.of (h.1.bg a1 a2 a3 a4.1 a4.2.1 a5.2.1 (by omega)) ?_ (Nat.le_add_right _ _)
  have e : actN (sC (sO (sBG S x y) 60 (up1 (rO S 60) (ix y) (some (ix x)))) 64 (up1 (rC S 64) (ix y) 97)) = actN S + 1 := by
    refine (cnt9_flip (p := fun j => decide (up1 (rC S 22) (ix y) 97 j = 97)) (q := fun j => decide (rC S 22 j = 97)) hs46 ?_ ?_ ?_).symm
    · simp [up1]
    · simp [a5.2.1]
    · intro j hj; simp [up1, hj]
  show rN S 50 0 + 1 + 2 * actN _ + rN S 45 0 + (if (rO S 47 0).isSome then 1 else 0) ≤ Phi S + 3
  rw [e]
  unfold Phi; omega
theorem OK_FN {x : Int32} {b : Bool} (h : OKs S c) (hR : Rm S) (hk : kFN S x = 0) : OKs (sFX S x b) (c + 1) := by
  have h43 := h.1.w.n43
  obtain ⟨h1, hk⟩ := if0 hk
  have a1 := (inR_ix (bnf h1) (by omega)).1
  have hen := Rm.en hR
  cases e9 : rO S 9 (ix x) with
  | none => rw [e9] at hk; cases hk
  | some s =>
    have hw : wkOf S x = s := by unfold wkOf; rw [e9]; rfl
    obtain ⟨q1, q2, -⟩ := (h.1.wa (ix x) s a1).mp e9
    unfold sFX
    rw [hw]
    cases b with
    | true =>
      rw [if_pos rfl]
      have hap := actN_pos q1 q2
      refine h.of (h.1.dn q1 q2 (by omega)) ?_ (Nat.le_add_right _ _)
      have e : actN (sC (done9 S s) 64 (up1 (rC S 64) s 100)) + 1 = actN S := by
        refine cnt9_flip (p := fun j => decide (rC S 22 j = 97)) (q := fun j => decide (up1 (rC S 22) s 100 j = 97)) q1 ?_ ?_ ?_
        · simp [q2]
        · simp [up1]
        · intro j hj; simp [up1, hj]
      show rN S 50 0 + 1 + 2 * actN (sC (done9 S s) 64 (up1 (rC S 64) s 100)) + (rN S 45 0 + 1) + (if (rO S 47 0).isSome then 1 else 0) ≤ Phi S + 3
      unfold Phi; omega
    | false =>
      rw [if_neg (by decide)]
      obtain ⟨j1, -, j3, j4⟩ := h.1.fl q1 q2 hR.1
      exact h.of j1 (by omega) (by omega)
theorem OK_HO {x y : Int32} (h : OKs S c) (hR : Rm S) (hk : kHO S x y = 0) : OKs (sHO S x y) (c + 1) := by
  have h43 := h.1.w.n43
  obtain ⟨h1, hk⟩ := if0 hk
  obtain ⟨h2, hk⟩ := if0 hk
  obtain ⟨h3, hk⟩ := if0 hk
  obtain ⟨h4, hk⟩ := if0 hk
  obtain ⟨h5, hk⟩ := if0 hk
  obtain ⟨h6, -⟩ := if0 hk
  have a1 := (inR_ix (bnf h1) (by omega)).1
  have a2 := (inR_ix (bnf h2) (by omega)).1
  have hen := Rm.en hR
  refine h.of (h.1.ho a1 a2 h3 (bnf h4) (bnt (fun e => h6 (Or.inr (Or.inl e)))) (by omega)) ?_ (Nat.le_add_right _ _)
  show rN S 50 0 + 1 + 2 * actN S + rN S 45 0 + 1 ≤ Phi S + 3
  unfold Phi; omega
theorem OK_UD {x : Int32} (h : OKs S c) (hR : Rm S) (hk : kUD S x = 0) : OKs (xUD S (nUD S x)) (c + 1) := by
  obtain ⟨h1, hk⟩ := if0 hk
  obtain ⟨h2, hk⟩ := if0 hk
  obtain ⟨h3, hk⟩ := if0 hk
  obtain ⟨j1, j2, j3⟩ := h.1.ud (bnt (fun e => h3 (Or.inl e))) hR.1 (n := nUD S x) (Nat.sub_le _ _)
  exact h.of j1 (by omega) (by omega)
theorem OK_PS {x : Int32} (h : OKs S c) (hR : Rm S) (hk : kPS x = 0) : OKs (pmXI S (ix x)) (c + 1) := by
  obtain ⟨h1, -⟩ := if0 hk
  have a2 := btw_ix (bnf h1) (by decide) (by decide)
  obtain ⟨j1, j2, j3⟩ := pmXI_ok h.1 hR.1 hR.2 (ix x) a2.2
  exact h.of j1 (by omega) (by omega)
theorem kSR2_ix {x : Int32} (hI : Inv S) (hk : kSR2 S x = 0) : ix x < rN S 46 0 := by
  have h44 := hI.w.n44
  have h46 := hI.w.n46
  obtain ⟨h1, hk⟩ := if0 hk
  obtain ⟨h2, -⟩ := if0 hk
  exact (inR_ix (bnf h2) (by omega)).1
theorem ans_so {x : Int32} (hk : kSR2 S x = 0) : rC S 22 (ix x) = soM S x := by unfold soM; rw [if_pos hk]
theorem ans_to {x : Int32} (hk : kSR2 S x = 0) : rN S 25 (ix x) = toM S x := by unfold toM; rw [if_pos hk]
theorem ans_ro {x : Int32} (hk : kS1 S x = 0) : rst S (ix x) = roM S x := by unfold roM; rw [if_pos hk]
theorem ans_sl {x : Int32} (hI : Inv S) (hk : kSR2 S x = 0) : lgS S (ix x) = soM S x := (hI.lg _ (kSR2_ix hI hk)).trans (ans_so hk)
theorem ans_tl {x : Int32} (hI : Inv S) (hk : kSR2 S x = 0) : cntT S (ix x) (rN S 50 0) = toM S x := (hI.lt _ (kSR2_ix hI hk)).trans (ans_to hk)
end OK
