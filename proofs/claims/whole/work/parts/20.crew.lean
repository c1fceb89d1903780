/-! ===== Crew ===== -/
theorem lt_some9 {k : Nat} (h : k < 2147483648) : ∀ j, some k = some j → j < 2147483648 := by
  intro j e
  cases e
  exact h
theorem nI_inc (n : Nat) : nI n + Int32.ofInt 1 = nI (n + 1) := nI_1 n
theorem nI_dec {n : Nat} (h : 0 < n) : nI n + Int32.ofInt (-1) = nI (n - 1) := sb_m1 h
theorem mmaxN {a b : Nat} (ha : a < 2147483648) (hb : b < 2147483648) : (if nI a < nI b then nI b else nI a) = nI (max a b) := by
  by_cases h : a < b
  · rw [if_pos (nI_lt h hb), Nat.max_eq_right (Nat.le_of_lt h)]
  · rw [if_neg (nI_nlt (Nat.not_lt.mp h) ha), Nat.max_eq_left (Nat.not_lt.mp h)]
def hasBit (b r : Int32) : Bool := decide ((b >>> (r &&& 31)) &&& nI 1 = nI 1)
/-- the works without the step s -/
def relW (S : St) (s i : Nat) : Nat → Option Nat := fun p => if p < i ∧ rO S 9 p = some s then none else rO S 9 p
theorem relW_0 (S : St) (s : Nat) : relW S s 0 = rO S 9 := by
  funext p; simp [relW]
theorem relW_t {S : St} {s i : Nat} (h : relW S s i i = some s) : relW S s (i + 1) = up1 (relW S s i) i none := by
  have h9 : rO S 9 i = some s := by simpa [relW] using h
  funext p
  by_cases e : p = i
  · subst e; simp [relW, up1, h9]
  · simp only [relW, up1, if_neg e]
    have h8 : p < i + 1 ↔ p < i := by omega
    simp only [h8]
theorem relW_f {S : St} {s i : Nat} (h : ¬ relW S s i i = some s) : relW S s (i + 1) = relW S s i := by
  have h9 : ¬ rO S 9 i = some s := by simpa [relW] using h
  funext p
  by_cases e : p = i
  · subst e; simp [relW, h9]
  · simp only [relW]
    have h8 : p < i + 1 ↔ p < i := by omega
    simp only [h8]
theorem relW_bnd {S : St} {s i : Nat} (h : Bnd S) : Bnd (sO S 9 (relW S s i)) := by
  refine h.sO 9 (fun j v e => ?_)
  unfold relW at e
  split at e
  · cases e
  · exact h.2 9 j v e
set_option maxRecDepth 20000 in
set_option maxHeartbeats 4000000 in
/-- Crew.has -/
theorem c_X0_has (l : Launch) (D : va_G) (cy : Nat → ClassId) (ad : Nat → Nat) (S : St) (F : va_W) (x : Int32) : Ctr l D cy yX0_has (.code yX0_has cX0_has 2 (some FieldType.boolean)) ({ frames := 0, cells := 0, slots := 0, locals := 0 } : Room) [.ref (ad 1), .int x] (wC ad cy S ++ F) (pI (b2i (inR x (rN S 43 0))) (wC ad cy S ++ F)) pNo := by
  refine Ctr.of (by decide) (Nat.le_of_ble_eq_true rfl) ?_
  intro M X hE hN hB9 hI9
  replace X : VX l D M cy cX0_has "Runbooker$Crew" (some FieldType.boolean) ({ frames := 0, cells := 0, slots := 0, locals := 0 } : Room) := X
  show V l D M 0 0 (wC ad cy S ++ F) [(0, .ref (ad 1)), (1, .int x)] 0 []
  refine V.iload_n X dX0_has_0 rfl ?_
  refine V.if_lt (tgt := 16) X dX0_has_1 (by decide) id id (fun (hz1 : x < 0) => ?_) (fun (hz1 : ¬ x < 0) => ?_)
  · refine V.iconst (v := nI 0) X dX0_has_16 rfl ?_
    exact V.iret (v := b2i false) X hE rfl (nar_b _) (Nat.le_of_ble_eq_true rfl) (Nat.le_of_ble_eq_true rfl) (pB9 (by simp [inR, hz1]) rfl) dX0_has_17
  · refine V.iload_n X dX0_has_4 rfl ?_
    refine V.aload_n X dX0_has_5 rfl ?_
    refine wC_gX0_22 X dX0_has_6 ?_
    refine V.icmp_ge (tgt := 16) X dX0_has_9 (by decide) id id (fun (hz9 : nI (rN S 43 0) ≤ x) => ?_) (fun (hz9 : ¬ nI (rN S 43 0) ≤ x) => ?_)
    · refine V.iconst (v := nI 0) X dX0_has_16 rfl ?_
      exact V.iret (v := b2i false) X hE rfl (nar_b _) (Nat.le_of_ble_eq_true rfl) (Nat.le_of_ble_eq_true rfl) (pB9 (by simp [inR, hz1, hz9]) rfl) dX0_has_17
    · refine V.iconst (v := nI 1) X dX0_has_12 rfl ?_
      refine V.goto (tgt := 17) X dX0_has_13 (by decide) ?_
      exact V.iret (v := b2i true) X hE rfl (nar_b _) (Nat.le_of_ble_eq_true rfl) (Nat.le_of_ble_eq_true rfl) (pB9 (by simp [inR, hz1, hz9]) rfl) dX0_has_17
set_option maxRecDepth 20000 in
set_option maxHeartbeats 4000000 in
theorem c_X0_join (l : Launch) (D : va_G) (cy : Nat → ClassId) (ad : Nat → Nat) (S : St) (F : va_W) (x : Int32) (h8 : rN S 43 0 < 8) : Ctr l D cy yX0_join (.code yX0_join cX0_join 3 (some FieldType.int)) ({ frames := 0, cells := 0, slots := 0, locals := 0 } : Room) [.ref (ad 1), .int x] (wC ad cy S ++ F) (pI (nI (rN S 43 0)) (wC ad cy (sN (sO (sI S 7 (up1 (rI S 7) (rN S 43 0) x)) 9 (up1 (rO S 9) (rN S 43 0) none)) 43 (fun _ => rN S 43 0 + 1)) ++ F)) pNo := by
  refine Ctr.of (by decide) (Nat.le_of_ble_eq_true rfl) ?_
  intro M X hE hN hB9 hI9
  replace X : VX l D M cy cX0_join "Runbooker$Crew" (some FieldType.int) ({ frames := 0, cells := 0, slots := 0, locals := 0 } : Room) := X
  show V l D M 0 0 (wC ad cy S ++ F) [(0, .ref (ad 1)), (1, .int x)] 0 []
  refine V.aload_n X dX0_join_0 rfl ?_
  refine wC_gX0_22 X dX0_join_1 ?_
  refine V.istore_n (L' := [(2, .int (nI (rN S 43 0))), (0, .ref (ad 1)), (1, .int x)]) X dX0_join_4 rfl hB9 (by decide) rfl ?_
  refine V.aload_n X dX0_join_5 rfl ?_
  refine wC_gX0_9 X dX0_join_6 ?_
  refine V.iload_n X dX0_join_9 rfl ?_
  refine V.iload_n X dX0_join_10 rfl ?_
  refine wC_st7 (i := rN S 43 0) (v := x) (g := (rI S 7)) X (by omega) rfl dX0_join_11 ?_
  refine V.aload_n X dX0_join_12 rfl ?_
  refine wC_gX0_19 X dX0_join_13 ?_
  refine V.iload_n X dX0_join_16 rfl ?_
  refine V.iconst (v := o2i none) X dX0_join_17 rfl ?_
  refine wC_st9 (i := rN S 43 0) (v := none) (g := (rO S 9)) X (by omega) rfl dX0_join_18 ?_
  refine V.aload_n X dX0_join_19 rfl ?_
  refine V.dup X dX0_join_20 rfl ?_
  refine wC_gX0_22 X dX0_join_21 ?_
  refine V.iconst (v := nI 1) X dX0_join_24 rfl ?_
  refine V.iadd (v := nI (rN S 43 0 + 1)) X dX0_join_25 (nI_add _ _) ?_
  refine wC_pX0_22 (v := rN S 43 0 + 1) X dX0_join_26 ?_
  refine V.iload_n X dX0_join_29 rfl ?_
  exact V.iret (v := nI (rN S 43 0)) X hE rfl rfl (Nat.le_of_ble_eq_true rfl) (Nat.le_of_ble_eq_true rfl) (pN9 rfl rfl) dX0_join_30
set_option maxRecDepth 20000 in
set_option maxHeartbeats 4000000 in
theorem c_X0_isAble (l : Launch) (D : va_G) (cy : Nat → ClassId) (ad : Nat → Nat) (S : St) (F : va_W) (p : Nat) (r : Int32) (hp : p < 8) : Ctr l D cy yX0_isAble (.code yX0_isAble cX0_isAble 3 (some FieldType.boolean)) ({ frames := 0, cells := 0, slots := 0, locals := 0 } : Room) [.ref (ad 1), .int (nI p), .int r] (wC ad cy S ++ F) (pI (b2i (hasBit (rI S 7 p) r)) (wC ad cy S ++ F)) pNo := by
  refine Ctr.of (by decide) (Nat.le_of_ble_eq_true rfl) ?_
  intro M X hE hN hB9 hI9
  replace X : VX l D M cy cX0_isAble "Runbooker$Crew" (some FieldType.boolean) ({ frames := 0, cells := 0, slots := 0, locals := 0 } : Room) := X
  show V l D M 0 0 (wC ad cy S ++ F) [(0, .ref (ad 1)), (1, .int (nI p)), (2, .int r)] 0 []
  refine V.aload_n X dX0_isAble_0 rfl ?_
  refine wC_gX0_9 X dX0_isAble_1 ?_
  refine V.iload_n X dX0_isAble_4 rfl ?_
  refine wC_ld7 (i := p) X (by omega) dX0_isAble_5 ?_
  refine V.iload_n X dX0_isAble_6 rfl ?_
  refine V.ishr (v := (rI S 7 p) >>> (r &&& 31)) X dX0_isAble_7 rfl ?_
  refine V.iconst (v := nI 1) X dX0_isAble_8 rfl ?_
  refine V.iand (v := ((rI S 7 p) >>> (r &&& 31)) &&& (nI 1)) X dX0_isAble_9 rfl ?_
  refine V.iconst (v := nI 1) X dX0_isAble_10 rfl ?_
  refine V.icmp_ne (tgt := 18) X dX0_isAble_11 (by decide) id id (fun (hz11 : ¬ ((rI S 7 p) >>> (r &&& 31)) &&& (nI 1) = nI 1) => ?_) (fun (hz11 : ((rI S 7 p) >>> (r &&& 31)) &&& (nI 1) = nI 1) => ?_)
  · refine V.iconst (v := nI 0) X dX0_isAble_18 rfl ?_
    exact V.iret (v := b2i false) X hE rfl (nar_b _) (Nat.le_of_ble_eq_true rfl) (Nat.le_of_ble_eq_true rfl) (pB9 (by simp [hasBit, hz11]) rfl) dX0_isAble_19
  · refine V.iconst (v := nI 1) X dX0_isAble_14 rfl ?_
    refine V.goto (tgt := 19) X dX0_isAble_15 (by decide) ?_
    exact V.iret (v := b2i true) X hE rfl (nar_b _) (Nat.le_of_ble_eq_true rfl) (Nat.le_of_ble_eq_true rfl) (pB9 (by simp [hasBit, hz11]) rfl) dX0_isAble_19
set_option maxRecDepth 20000 in
set_option maxHeartbeats 4000000 in
theorem c_X0_isBusy (l : Launch) (D : va_G) (cy : Nat → ClassId) (ad : Nat → Nat) (S : St) (F : va_W) (p : Nat) (hB : Bnd S) (hp : p < 8) : Ctr l D cy yX0_isBusy (.code yX0_isBusy cX0_isBusy 2 (some FieldType.boolean)) ({ frames := 0, cells := 0, slots := 0, locals := 0 } : Room) [.ref (ad 1), .int (nI p)] (wC ad cy S ++ F) (pI (b2i ((rO S 9 p).isSome)) (wC ad cy S ++ F)) pNo := by
  refine Ctr.of (by decide) (Nat.le_of_ble_eq_true rfl) ?_
  intro M X hE hN hB9 hI9
  replace X : VX l D M cy cX0_isBusy "Runbooker$Crew" (some FieldType.boolean) ({ frames := 0, cells := 0, slots := 0, locals := 0 } : Room) := X
  show V l D M 0 0 (wC ad cy S ++ F) [(0, .ref (ad 1)), (1, .int (nI p))] 0 []
  refine V.aload_n X dX0_isBusy_0 rfl ?_
  refine wC_gX0_19 X dX0_isBusy_1 ?_
  refine V.iload_n X dX0_isBusy_4 rfl ?_
  refine wC_ld9 (i := p) X (by omega) dX0_isBusy_5 ?_
  refine V.iconst (v := o2i none) X dX0_isBusy_6 rfl ?_
  refine V.icmp_eq (tgt := 14) X dX0_isBusy_7 (by decide) (cO_eq (a := rO S 9 p) (b := none) (hB.o 9 _) lt_none) (cO_ne (a := rO S 9 p) (b := none)) (fun (hz7 : rO S 9 p = none) => ?_) (fun (hz7 : ¬ rO S 9 p = none) => ?_)
  · refine V.iconst (v := nI 0) X dX0_isBusy_14 rfl ?_
    exact V.iret (v := b2i false) X hE rfl (nar_b _) (Nat.le_of_ble_eq_true rfl) (Nat.le_of_ble_eq_true rfl) (pB9 (by simp [hz7]) rfl) dX0_isBusy_15
  · refine V.iconst (v := nI 1) X dX0_isBusy_10 rfl ?_
    refine V.goto (tgt := 15) X dX0_isBusy_11 (by decide) ?_
    exact V.iret (v := b2i true) X hE rfl (nar_b _) (Nat.le_of_ble_eq_true rfl) (Nat.le_of_ble_eq_true rfl) (pB9 (by simp [Option.isSome_iff_ne_none, hz7]) rfl) dX0_isBusy_15
set_option maxRecDepth 20000 in
set_option maxHeartbeats 4000000 in
theorem c_X0_release (l : Launch) (D : va_G) (cy : Nat → ClassId) (ad : Nat → Nat) (S : St) (F : va_W) (s : Nat) (hB : Bnd S) (hs : s < 16) (h8 : rN S 43 0 ≤ 8) : Ctr l D cy yX0_release (.code yX0_release cX0_release 3 none) ({ frames := 0, cells := 0, slots := 0, locals := 0 } : Room) [.ref (ad 1), .int (nI s)] (wC ad cy S ++ F) (pU (wC ad cy (sO S 9 (relW S s (rN S 43 0))) ++ F)) pNo := by
  refine Ctr.of (by decide) (Nat.le_of_ble_eq_true rfl) ?_
  intro M X hE hN hB9 hI9
  replace X : VX l D M cy cX0_release "Runbooker$Crew" none ({ frames := 0, cells := 0, slots := 0, locals := 0 } : Room) := X
  show V l D M 0 0 (wC ad cy S ++ F) [(0, .ref (ad 1)), (1, .int (nI s))] 0 []
  refine V.iconst (v := nI 0) X dX0_release_0 rfl ?_
  refine V.istore_n (L' := [(2, .int (nI 0)), (0, .ref (ad 1)), (1, .int (nI s))]) X dX0_release_1 rfl hB9 (by decide) rfl ?_
  have loop2 : ∀ (d9 : Nat) (i : Nat), (rN S 43 0 - i) < d9 → (i ≤ rN S 43 0) → V l D M 0 0 (wC ad cy (sO S 9 (relW S s i)) ++ F) [(2, .int (nI i)), (0, .ref (ad 1)), (1, .int (nI s))] 2 [] := by
    intro d9
    induction d9 with
    | zero => intro i h9; exact absurd h9 (Nat.not_lt_zero _)
    | succ d9 ih2 =>
      intro i hd9 hi
      have hB2 := relW_bnd (s := s) (i := i) hB
      refine V.iload_n X dX0_release_2 rfl ?_
      refine V.aload_n X dX0_release_3 rfl ?_
      refine wC_gX0_22 X dX0_release_4 ?_
      refine V.icmp_ge (tgt := 33) X dX0_release_7 (by decide) (cN_le (hB.n 43 _) (by omega)) (cN_nle (hB.n 43 _) (by omega)) (fun (hz7 : rN S 43 0 ≤ i) => ?_) (fun (hz7 : i < rN S 43 0) => ?_)
      · exact V.vret X hE rfl (Nat.le_of_ble_eq_true rfl) (Nat.le_of_ble_eq_true rfl) (pU9 (by rw [show i = rN S 43 0 from Nat.le_antisymm hi hz7])) dX0_release_33
      · refine V.aload_n X dX0_release_10 rfl ?_
        refine wC_gX0_19 X dX0_release_11 ?_
        refine V.iload_n X dX0_release_14 rfl ?_
        refine wC_ld9 (i := i) X (by omega) dX0_release_15 ?_
        refine V.iload_n X dX0_release_16 rfl ?_
        refine V.icmp_ne (tgt := 27) X dX0_release_17 (by decide) (cO_ne (a := (relW S s i) i) (b := some s)) (cO_eq (a := (relW S s i) i) (b := some s) (hB2.o 9 _) (lt_some9 (by omega))) (fun (hz17 : ¬ (relW S s i) i = some s) => ?_) (fun (hz17 : (relW S s i) i = some s) => ?_)
        · refine V.iinc (v := nI (i + 1)) (L' := [(2, .int (nI (i + 1))), (0, .ref (ad 1)), (1, .int (nI s))]) X dX0_release_27 rfl (nI_inc _) hB9 (by decide) rfl ?_
          refine V.goto (tgt := 2) X dX0_release_30 (by decide) ?_
          exact V.eqs (by rw [relW_f (S := S) (s := s) hz17]) rfl (ih2 (i + 1) (by omega) (by omega))
        · refine V.aload_n X dX0_release_20 rfl ?_
          refine wC_gX0_19 X dX0_release_21 ?_
          refine V.iload_n X dX0_release_24 rfl ?_
          refine V.iconst (v := o2i none) X dX0_release_25 rfl ?_
          refine wC_st9 (i := i) (v := none) (g := (relW S s i)) X (by omega) rfl dX0_release_26 ?_
          refine V.iinc (v := nI (i + 1)) (L' := [(2, .int (nI (i + 1))), (0, .ref (ad 1)), (1, .int (nI s))]) X dX0_release_27 rfl (nI_inc _) hB9 (by decide) rfl ?_
          refine V.goto (tgt := 2) X dX0_release_30 (by decide) ?_
          exact V.eqs (by rw [relW_t (S := S) (s := s) hz17]; rfl) rfl (ih2 (i + 1) (by omega) (by omega))
  exact V.eqs (by rw [relW_0]; rfl) rfl (loop2 _ 0 (Nat.lt_succ_self _) (Nat.zero_le _))
