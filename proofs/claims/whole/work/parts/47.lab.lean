/-! ===== labels ===== -/
theorem pm_wb {C F B : va_W} : ((C ++ F) ++ B).Perm (B ++ (C ++ F)) := List.perm_append_comm
theorem pm_zx {R B : va_W} {x z : Nat × va_E} : ((z :: x :: R) ++ B).Perm (x :: (B ++ z :: R)) := by
  have h2 : (x :: (B ++ z :: R)).Perm (z :: x :: (B ++ R)) := (List.Perm.cons _ List.perm_middle).trans (List.Perm.swap _ _ _)
  have h3 : ((z :: x :: R) ++ B).Perm (z :: x :: (B ++ R)) := List.Perm.cons _ (List.Perm.cons _ List.perm_append_comm)
  exact h3.trans h2.symm
/-- a step's label: how many letters, the letters -/
def lbN (S : St) (s : Nat) : Nat := 0 + dg s + 1 + dg (rN S 11 s) + 1
def lbT (S : St) (s : Nat) : Nat → Nat := up1 (apI (up1 (apI (fun _ => 0) 0 s) (0 + dg s) (65 + rN S 10 s)) (0 + dg s + 1) (rN S 11 s)) (0 + dg s + 1 + dg (rN S 11 s)) (rC S 13 s).toNat
def kLA (S : St) (x i : Int32) : Nat := if ins9 S x = false then 1 else if inR i (lbN S (ix x)) = false then 2 else 0
theorem jn_lt {S : St} (hI : Inv S) {s : Nat} (hs : s < rN S 44 0) : (rC S 13 s).toNat < 128 := by
  rcases hI.jn s hs with h | h <;> rw [h] <;> decide
theorem lbN_le (S : St) (s : Nat) : 4 ≤ lbN S s ∧ lbN S s ≤ 6 := by
  have h1 := dg_le s
  have h2 := dg_le (rN S 11 s)
  unfold lbN; omega
theorem lbT_lt {S : St} (hI : Inv S) {s : Nat} (hs : s < rN S 44 0) : ∀ j, lbT S s j < 128 := by
  have h1 := hI.w.role s
  have h2 := hI.w.len s
  have h3 := hI.w.n44
  unfold lbT
  exact up1_lt (apI_lt (up1_lt (apI_lt (fun _ => by decide) (by omega)) (by omega)) (by omega)) (jn_lt hI hs)
set_option maxRecDepth 20000 in
set_option maxHeartbeats 4000000 in
theorem c_X3_labelOf (l : Launch) (D : va_G) (cy : Nat → ClassId) (ad : Nat → Nat) (S : St) (F : va_W) (s : Nat) (hI : Inv S) (hs : s < rN S 44 0) : Ctr l D cy yX3_labelOf (.code yX3_labelOf cX3_labelOf 3 (some (FieldType.object "java/lang/StringBuilder"))) ({ frames := 5, cells := 2, slots := 20, locals := 300 } : Room) [.ref (ad 2), .int (nI s)] (wC ad cy S ++ F) (fun v9 w9 => ∃ q b : Nat, v9 = some (.ref q) ∧ w9 = wB cy q b (lbN S s) (lbT S s) ++ (wC ad cy S ++ F)) pNo := by
  refine Ctr.of (by decide) (Nat.le_of_ble_eq_true rfl) ?_
  intro M X hE hN hB9 hI9
  replace X : VX l D M cy cX3_labelOf "Runbooker$Plan" (some (FieldType.object "java/lang/StringBuilder")) ({ frames := 5, cells := 2, slots := 20, locals := 300 } : Room) := X
  show V l D M 0 0 (wC ad cy S ++ F) [(0, .ref (ad 2)), (1, .int (nI s))] 0 []
  have h44 := hI.w.n44
  have hro := hI.w.role s
  have hle := hI.w.len s
  have hjc := jn_lt hI hs
  have hd1 := dg_le s
  have hd2 := dg_le (rN S 11 s)
  refine V.new9 (C := RJ4) (T := TJ4) (N := 4) (ci := 1) tyJ4 (fs := [.null, .int 0, .int 0, .int 0]) X inJ4 tyJ4_ok gw_5_29 gw_5_30 gw_1_20 rfl (fun i hi => by rcases (show i = 0 ∨ i = 1 ∨ i = 2 ∨ i = 3 by omega) with rfl | rfl | rfl | rfl <;> rfl) (Nat.le_of_ble_eq_true rfl) (Nat.le_of_ble_eq_true rfl) dX3_labelOf_0 (fun q => ?_)
  refine V.perm (Wd' := (q, .inr (1, [.null, .int 0, .int 0, .int 0])) :: (wC ad cy S ++ F)) (List.perm_append_singleton _ (wC ad cy S ++ F)).symm ?_
  refine V.dup X dX3_labelOf_3 rfl ?_
  refine V.callI [] X (c_J4_init_da8c8 l D cy q (wC ad cy S ++ F)) ⟨gw_5_32, gw_1_20, gw_5_33, rfl, (by show _ ≠ _ ∧ _ ≠ _ ∧ _ = some (0 : Nat); decide +kernel)⟩ gw_5_31 ⟨⟨(Nat.le_of_ble_eq_true rfl), (Nat.le_of_ble_eq_true rfl)⟩, (Nat.le_of_ble_eq_true rfl), (Nat.le_of_ble_eq_true rfl)⟩ rfl (Nat.le_of_ble_eq_true rfl) dX3_labelOf_4 ?_
  rintro v9 u9 ⟨b, rfl, rfl⟩
  refine V.astore_n (L' := [(2, .ref q), (0, .ref (ad 2)), (1, .int (nI s))]) X dX3_labelOf_7 rfl hB9 (by decide) rfl ?_
  refine V.aload_n X dX3_labelOf_8 rfl ?_
  refine V.iload_n X dX3_labelOf_9 rfl ?_
  refine V.callV (C := "java/lang/StringBuilder") [.int (nI s)] X (c_J4_append_bf812 l D cy q b 0 s (fun _ => 0) (wC ad cy S ++ F) (by omega) (by omega)) ⟨gw_5_61, gw_5_62, gw_1_20, gw_5_63, (by show _ = _ ∧ _ ≠ _ ∧ _ ≠ _ ∧ _ = some (1 : Nat); decide +kernel)⟩ gw_5_60 ⟨⟨(Nat.le_of_ble_eq_true rfl), (Nat.le_of_ble_eq_true rfl)⟩, (Nat.le_of_ble_eq_true rfl), (Nat.le_of_ble_eq_true rfl)⟩ (q0 := 0) (ci := 1) rfl rfl rfl (Nat.le_of_ble_eq_true rfl) dX3_labelOf_10 (fun _ _ h9 => h9.elim) ?_
  rintro v9 u9 ⟨rfl, rfl⟩
  refine V.pop X dX3_labelOf_13 rfl ?_
  refine V.aload_n X dX3_labelOf_14 rfl ?_
  refine V.bipush (v := nI 65) X dX3_labelOf_15 (by decide) ?_
  refine V.aload_n X dX3_labelOf_17 rfl ?_
  refine V.getf (q0 := 4) (ci := 5) (j := 0) (C := RX3) (T := TX3) (N := 13) (ref := "Runbooker$Plan") (v := .ref (ad 10)) X rfl rfl (Nat.le_of_ble_eq_true rfl) gw_1_66 inX3 rfl rfl dX3_labelOf_18 ?_
  refine V.iload_n X dX3_labelOf_21 rfl ?_
  refine V.iald (q0 := 12) (N := 16) (f := fun j => nI (rN S 10 j)) (v := nI (rN S 10 s)) X rfl (vp_in_nI (show s < 16 by omega) (Nat.le_of_ble_eq_true rfl)) dX3_labelOf_22 (congrArg (fun j => nI (rN S 10 j)) (nI_clamp (by omega))) ?_
  refine V.iadd (v := nI (65 + rN S 10 s)) X dX3_labelOf_23 (nI_add _ _) ?_
  refine V.i2c (v := nI (65 + rN S 10 s)) X dX3_labelOf_24 (i2c_by _ (by omega)) ?_
  refine V.callV (C := "java/lang/StringBuilder") [.int (nI (65 + rN S 10 s))] X (c_J4_append_cf468 l D cy q b (0 + dg s) (65 + rN S 10 s) (apI (fun _ => 0) 0 s) (wC ad cy S ++ F) (by omega) (by omega)) ⟨gw_5_147, gw_5_148, gw_1_20, gw_5_149, (by show _ = _ ∧ _ ≠ _ ∧ _ ≠ _ ∧ _ = some (1 : Nat); decide +kernel)⟩ gw_5_146 ⟨⟨(Nat.le_of_ble_eq_true rfl), (Nat.le_of_ble_eq_true rfl)⟩, (Nat.le_of_ble_eq_true rfl), (Nat.le_of_ble_eq_true rfl)⟩ (q0 := 0) (ci := 1) rfl rfl rfl (Nat.le_of_ble_eq_true rfl) dX3_labelOf_25 (fun _ _ h9 => h9.elim) ?_
  rintro v9 u9 ⟨rfl, rfl⟩
  refine V.pop X dX3_labelOf_28 rfl ?_
  refine V.aload_n X dX3_labelOf_29 rfl ?_
  refine V.aload_n X dX3_labelOf_30 rfl ?_
  refine V.getf (q0 := 4) (ci := 5) (j := 1) (C := RX3) (T := TX3) (N := 13) (ref := "Runbooker$Plan") (v := .ref (ad 11)) X rfl rfl (Nat.le_of_ble_eq_true rfl) gw_1_68 inX3 rfl rfl dX3_labelOf_31 ?_
  refine V.iload_n X dX3_labelOf_34 rfl ?_
  refine V.iald (q0 := 13) (N := 16) (f := fun j => nI (rN S 11 j)) (v := nI (rN S 11 s)) X rfl (vp_in_nI (show s < 16 by omega) (Nat.le_of_ble_eq_true rfl)) dX3_labelOf_35 (congrArg (fun j => nI (rN S 11 j)) (nI_clamp (by omega))) ?_
  refine V.callV (C := "java/lang/StringBuilder") [.int (nI (rN S 11 s))] X (c_J4_append_bf812 l D cy q b (0 + dg s + 1) (rN S 11 s) (up1 (apI (fun _ => 0) 0 s) (0 + dg s) (65 + rN S 10 s)) (wC ad cy S ++ F) (by omega) (by omega)) ⟨gw_5_61, gw_5_62, gw_1_20, gw_5_63, (by show _ = _ ∧ _ ≠ _ ∧ _ ≠ _ ∧ _ = some (1 : Nat); decide +kernel)⟩ gw_5_60 ⟨⟨(Nat.le_of_ble_eq_true rfl), (Nat.le_of_ble_eq_true rfl)⟩, (Nat.le_of_ble_eq_true rfl), (Nat.le_of_ble_eq_true rfl)⟩ (q0 := 0) (ci := 1) rfl rfl rfl (Nat.le_of_ble_eq_true rfl) dX3_labelOf_36 (fun _ _ h9 => h9.elim) ?_
  rintro v9 u9 ⟨rfl, rfl⟩
  refine V.pop X dX3_labelOf_39 rfl ?_
  refine V.aload_n X dX3_labelOf_40 rfl ?_
  refine V.aload_n X dX3_labelOf_41 rfl ?_
  refine V.getf (q0 := 4) (ci := 5) (j := 3) (C := RX3) (T := TX3) (N := 13) (ref := "Runbooker$Plan") (v := .ref (ad 13)) X rfl rfl (Nat.le_of_ble_eq_true rfl) gw_1_72 inX3 rfl rfl dX3_labelOf_42 ?_
  refine V.iload_n X dX3_labelOf_45 rfl ?_
  refine V.cald (q0 := 15) (N := 16) (f := fun j => c2i (rC S 13 j)) (v := nI (rC S 13 s).toNat) X rfl (vp_in_nI (show s < 16 by omega) (Nat.le_of_ble_eq_true rfl)) dX3_labelOf_46 (congrArg (fun j => c2i (rC S 13 j)) (nI_clamp (by omega))) ?_
  refine V.callV (C := "java/lang/StringBuilder") [.int (nI ((rC S 13 s).toNat))] X (c_J4_append_cf468 l D cy q b (0 + dg s + 1 + dg (rN S 11 s)) ((rC S 13 s).toNat) (apI (up1 (apI (fun _ => 0) 0 s) (0 + dg s) (65 + rN S 10 s)) (0 + dg s + 1) (rN S 11 s)) (wC ad cy S ++ F) hjc (by omega)) ⟨gw_5_147, gw_5_148, gw_1_20, gw_5_149, (by show _ = _ ∧ _ ≠ _ ∧ _ ≠ _ ∧ _ = some (1 : Nat); decide +kernel)⟩ gw_5_146 ⟨⟨(Nat.le_of_ble_eq_true rfl), (Nat.le_of_ble_eq_true rfl)⟩, (Nat.le_of_ble_eq_true rfl), (Nat.le_of_ble_eq_true rfl)⟩ (q0 := 0) (ci := 1) rfl rfl rfl (Nat.le_of_ble_eq_true rfl) dX3_labelOf_47 (fun _ _ h9 => h9.elim) ?_
  rintro v9 u9 ⟨rfl, rfl⟩
  refine V.pop X dX3_labelOf_50 rfl ?_
  refine V.aload_n X dX3_labelOf_51 rfl ?_
  exact V.aret X hE rfl (Or.inl ⟨_, rfl⟩) (Or.inr ⟨_, rfl⟩) (Nat.le_of_ble_eq_true rfl) (Nat.le_of_ble_eq_true rfl) ⟨q, b, rfl, rfl⟩ dX3_labelOf_52
set_option maxRecDepth 20000 in
set_option maxHeartbeats 4000000 in
theorem c_X5_labelLength (l : Launch) (D : va_G) (cy : Nat → ClassId) (ad : Nat → Nat) (S : St) (F : va_W) (x : Int32) (hI : Inv S) : Ctr l D cy yX5_labelLength (.code yX5_labelLength cX5_labelLength 2 (some FieldType.int)) ({ frames := 12, cells := 8, slots := 60, locals := 500 } : Room) [.ref (ad 0), .int x] (wC ad cy S ++ F) (pIx (kS1 S x = 0) (nI (lbN S (ix x))) (wC ad cy S ++ F)) (pXk ["java/util/NoSuchElementException"] (kS1 S x) (wC ad cy S ++ F)) := by
  refine Ctr.of (by decide) (Nat.le_of_ble_eq_true rfl) ?_
  intro M X hE hN hB9 hI9
  replace X : VX l D M cy cX5_labelLength "Runbooker" (some FieldType.int) ({ frames := 12, cells := 8, slots := 60, locals := 500 } : Room) := X
  show V l D M 0 0 (wC ad cy S ++ F) [(0, .ref (ad 0)), (1, .int x)] 0 []
  have h44 := hI.w.n44
  refine V.aload_n X dX5_labelLength_0 rfl ?_
  refine V.iload_n X dX5_labelLength_1 rfl ?_
  refine V.callVx0 [.int x] X hE hN (c_X5_requireStep l D cy ad S F x) mv_X5_requireStep gw_3_1 ⟨⟨(Nat.le_of_ble_eq_true rfl), (Nat.le_of_ble_eq_true rfl)⟩, (Nat.le_of_ble_eq_true rfl), (Nat.le_of_ble_eq_true rfl)⟩ (q0 := 0) (ci := 7) rfl rfl rfl (Nat.le_of_ble_eq_true rfl) dX5_labelLength_2 (fun E9 w9 h9 => ⟨0, (by simp [kS1, h9.1]), (by rw [h9.2.1]; rfl), h9.2.2⟩) (fun hz2 => ?_)
  obtain ⟨p, hp, rfl⟩ := inR_of hz2 (by omega)
  have ep : ix (nI p) = p := ix_nI (by omega)
  have hl6 := lbN_le S p
  have hlt := lbT_lt hI hp
  refine V.aload_n X dX5_labelLength_5 rfl ?_
  refine V.getf (q0 := 0) (ci := 7) (j := 1) (C := RX5) (T := TX5) (N := 9) (ref := "Runbooker") (v := .ref (ad 2)) X rfl rfl (Nat.le_of_ble_eq_true rfl) gw_1_207 inX5 rfl rfl dX5_labelLength_6 ?_
  refine V.iload_n X dX5_labelLength_9 rfl ?_
  refine V.callV (C := "Runbooker$Plan") [.int (nI p)] X (c_X3_labelOf l D cy ad S F p hI hp) mv_X3_labelOf gw_5_25 ⟨⟨(Nat.le_of_ble_eq_true rfl), (Nat.le_of_ble_eq_true rfl)⟩, (Nat.le_of_ble_eq_true rfl), (Nat.le_of_ble_eq_true rfl)⟩ (q0 := 2) (ci := 5) rfl rfl rfl (Nat.le_of_ble_eq_true rfl) dX5_labelLength_10 (fun _ _ h9 => h9.elim) ?_
  rintro v9 u9 ⟨q, b, rfl, rfl⟩
  refine V.callV (C := "java/lang/StringBuilder") [] X (c_J4_length_8abf5 l D cy q b (lbN S p) (lbT S p) (wC ad cy S ++ F)) ⟨gw_5_188, gw_5_189, gw_1_20, gw_5_190, (by show _ = _ ∧ _ ≠ _ ∧ _ ≠ _ ∧ _ = some (0 : Nat); decide +kernel)⟩ gw_5_187 ⟨⟨(Nat.le_of_ble_eq_true rfl), (Nat.le_of_ble_eq_true rfl)⟩, (Nat.le_of_ble_eq_true rfl), (Nat.le_of_ble_eq_true rfl)⟩ (q0 := 0) (ci := 1) rfl rfl rfl (Nat.le_of_ble_eq_true rfl) dX5_labelLength_13 (fun _ _ h9 => h9.elim) ?_
  rintro v9 u9 ⟨rfl, rfl⟩
  refine V.perm (Wd' := (wC ad cy S ++ F) ++ wB cy q b (lbN S p) (lbT S p)) pm_wb ?_
  refine V.drop ?_
  exact V.iret (v := nI (lbN S p)) X hE rfl rfl (Nat.le_of_ble_eq_true rfl) (Nat.le_of_ble_eq_true rfl) ⟨(by simp [kS1, hz2]), (by rw [ep]), rfl⟩ dX5_labelLength_16
set_option maxRecDepth 20000 in
set_option maxHeartbeats 4000000 in
theorem c_X5_labelAt (l : Launch) (D : va_G) (cy : Nat → ClassId) (ad : Nat → Nat) (S : St) (F : va_W) (x i : Int32) (hI : Inv S) : Ctr l D cy yX5_labelAt (.code yX5_labelAt cX5_labelAt 4 (some FieldType.char)) ({ frames := 12, cells := 8, slots := 60, locals := 500 } : Room) [.ref (ad 0), .int x, .int i] (wC ad cy S ++ F) (pIx (kLA S x i = 0) (nI (lbT S (ix x) (ix i))) (wC ad cy S ++ F)) (pXk ["java/util/NoSuchElementException", "java/lang/IndexOutOfBoundsException"] (kLA S x i) (wC ad cy S ++ F)) := by
  refine Ctr.of (by decide) (Nat.le_of_ble_eq_true rfl) ?_
  intro M X hE hN hB9 hI9
  replace X : VX l D M cy cX5_labelAt "Runbooker" (some FieldType.char) ({ frames := 12, cells := 8, slots := 60, locals := 500 } : Room) := X
  show V l D M 0 0 (wC ad cy S ++ F) [(0, .ref (ad 0)), (1, .int x), (2, .int i)] 0 []
  have h44 := hI.w.n44
  refine V.aload_n X dX5_labelAt_0 rfl ?_
  refine V.iload_n X dX5_labelAt_1 rfl ?_
  refine V.callVx0 [.int x] X hE hN (c_X5_requireStep l D cy ad S F x) mv_X5_requireStep gw_3_1 ⟨⟨(Nat.le_of_ble_eq_true rfl), (Nat.le_of_ble_eq_true rfl)⟩, (Nat.le_of_ble_eq_true rfl), (Nat.le_of_ble_eq_true rfl)⟩ (q0 := 0) (ci := 7) rfl rfl rfl (Nat.le_of_ble_eq_true rfl) dX5_labelAt_2 (fun E9 w9 h9 => ⟨0, (by simp [kLA, h9.1]), (by rw [h9.2.1]; rfl), h9.2.2⟩) (fun hz2 => ?_)
  obtain ⟨p, hp, rfl⟩ := inR_of hz2 (by omega)
  have ep : ix (nI p) = p := ix_nI (by omega)
  have hl6 := lbN_le S p
  have hlt := lbT_lt hI hp
  refine V.aload_n X dX5_labelAt_5 rfl ?_
  refine V.getf (q0 := 0) (ci := 7) (j := 1) (C := RX5) (T := TX5) (N := 9) (ref := "Runbooker") (v := .ref (ad 2)) X rfl rfl (Nat.le_of_ble_eq_true rfl) gw_1_207 inX5 rfl rfl dX5_labelAt_6 ?_
  refine V.iload_n X dX5_labelAt_9 rfl ?_
  refine V.callV (C := "Runbooker$Plan") [.int (nI p)] X (c_X3_labelOf l D cy ad S F p hI hp) mv_X3_labelOf gw_5_25 ⟨⟨(Nat.le_of_ble_eq_true rfl), (Nat.le_of_ble_eq_true rfl)⟩, (Nat.le_of_ble_eq_true rfl), (Nat.le_of_ble_eq_true rfl)⟩ (q0 := 2) (ci := 5) rfl rfl rfl (Nat.le_of_ble_eq_true rfl) dX5_labelAt_10 (fun _ _ h9 => h9.elim) ?_
  rintro v9 u9 ⟨q, b, rfl, rfl⟩
  refine V.astore_n (L' := [(3, .ref q), (0, .ref (ad 0)), (1, .int (nI p)), (2, .int i)]) X dX5_labelAt_13 rfl hB9 (by decide) rfl ?_
  refine V.iload_n X dX5_labelAt_14 rfl ?_
  refine V.if_lt (tgt := 26) X dX5_labelAt_15 (by decide) id id (fun (hz15 : i < 0) => ?_) (fun (hz15 : ¬ i < 0) => ?_)
  · have hq := inR_f1 (n := lbN S p) hz15
    refine V.perm (Wd' := (wC ad cy S ++ F) ++ wB cy q b (lbN S p) (lbT S p)) pm_wb ?_
    refine V.drop ?_
    exact V.thIOB X hE hN gS_379 (.inr ⟨rfl, rfl⟩) dX5_labelAt_26 dX5_labelAt_29 dX5_labelAt_30 dX5_labelAt_33 dX5_labelAt_36 (Nat.le_of_ble_eq_true rfl) (Nat.le_of_ble_eq_true rfl) (Nat.le_of_ble_eq_true rfl) (Nat.le_of_ble_eq_true rfl) ⟨1, (by simp [kLA, hz2, ep, hq]), rfl, rfl⟩
  refine V.iload_n X dX5_labelAt_18 rfl ?_
  refine V.aload_n X dX5_labelAt_19 rfl ?_
  refine V.callV (C := "java/lang/StringBuilder") [] X (c_J4_length_8abf5 l D cy q b (lbN S p) (lbT S p) (wC ad cy S ++ F)) ⟨gw_5_188, gw_5_189, gw_1_20, gw_5_190, (by show _ = _ ∧ _ ≠ _ ∧ _ ≠ _ ∧ _ = some (0 : Nat); decide +kernel)⟩ gw_5_187 ⟨⟨(Nat.le_of_ble_eq_true rfl), (Nat.le_of_ble_eq_true rfl)⟩, (Nat.le_of_ble_eq_true rfl), (Nat.le_of_ble_eq_true rfl)⟩ (q0 := 0) (ci := 1) rfl rfl rfl (Nat.le_of_ble_eq_true rfl) dX5_labelAt_20 (fun _ _ h9 => h9.elim) ?_
  rintro v9 u9 ⟨rfl, rfl⟩
  refine V.icmp_lt (tgt := 37) X dX5_labelAt_23 (by decide) id id (fun (hz23 : i < nI (lbN S p)) => ?_) (fun (hz23 : ¬ i < nI (lbN S p)) => ?_)
  rotate_left
  · have hq := inR_f2 (n := lbN S p) (i32_nlt.mp hz23)
    refine V.perm (Wd' := (wC ad cy S ++ F) ++ wB cy q b (lbN S p) (lbT S p)) pm_wb ?_
    refine V.drop ?_
    exact V.thIOB X hE hN gS_379 (.inr ⟨rfl, rfl⟩) dX5_labelAt_26 dX5_labelAt_29 dX5_labelAt_30 dX5_labelAt_33 dX5_labelAt_36 (Nat.le_of_ble_eq_true rfl) (Nat.le_of_ble_eq_true rfl) (Nat.le_of_ble_eq_true rfl) (Nat.le_of_ble_eq_true rfl) ⟨1, (by simp [kLA, hz2, ep, hq]), rfl, rfl⟩
  have hq := inR_t (n := lbN S p) hz15 (i32_nle.mpr hz23)
  obtain ⟨j, hj, rfl⟩ := inR_of hq (by omega)
  have ej : ix (nI j) = j := ix_nI (by omega)
  refine V.aload_n X dX5_labelAt_37 rfl ?_
  refine V.iload_n X dX5_labelAt_38 rfl ?_
  refine V.callV (C := "java/lang/StringBuilder") [.int (nI j)] X (c_J4_charAt_5068e l D cy q b (lbN S p) (lbT S p) (wC ad cy S ++ F) j hj (by omega) hlt) ⟨gw_5_203, gw_5_204, gw_1_20, gw_5_205, (by show _ = _ ∧ _ ≠ _ ∧ _ ≠ _ ∧ _ = some (1 : Nat); decide +kernel)⟩ gw_5_202 ⟨⟨(Nat.le_of_ble_eq_true rfl), (Nat.le_of_ble_eq_true rfl)⟩, (Nat.le_of_ble_eq_true rfl), (Nat.le_of_ble_eq_true rfl)⟩ (q0 := 0) (ci := 1) rfl rfl rfl (Nat.le_of_ble_eq_true rfl) dX5_labelAt_39 (fun _ _ h9 => h9.elim) ?_
  rintro v9 u9 ⟨rfl, rfl⟩
  refine V.perm (Wd' := (wC ad cy S ++ F) ++ wB cy q b (lbN S p) (lbT S p)) pm_wb ?_
  refine V.drop ?_
  exact V.iret (v := nI (lbT S p j)) X hE rfl (nar_ch _ (hlt j)) (Nat.le_of_ble_eq_true rfl) (Nat.le_of_ble_eq_true rfl) ⟨(by simp [kLA, hz2, ep, hq]), (by rw [ep, ej]), rfl⟩ dX5_labelAt_42
set_option maxRecDepth 20000 in
set_option maxHeartbeats 4000000 in
theorem c_X6_label (l : Launch) (D : va_G) (cy : Nat → ClassId) (am : Nat → Nat) (S : St) (F : va_W) (s : Nat) (hI : Inv S) (hs : s < rN S 44 0) : Ctr l D cy yX6_label (.code yX6_label cX6_label 3 (some (FieldType.object "java/lang/String"))) ({ frames := 8, cells := 4, slots := 40, locals := 500 } : Room) [.ref (am 0), .int (nI s)] (wM am cy S ++ F) (fun v9 w9 => ∃ z a : Nat, v9 = some (.ref z) ∧ w9 = wS cy z a (lbN S s) (lbT S s) ++ (wM am cy S ++ F)) pNo := by
  refine Ctr.of (by decide) (Nat.le_of_ble_eq_true rfl) ?_
  intro M X hE hN hB9 hI9
  replace X : VX l D M cy cX6_label "RunbookerModel" (some (FieldType.object "java/lang/String")) ({ frames := 8, cells := 4, slots := 40, locals := 500 } : Room) := X
  show V l D M 0 0 (wM am cy S ++ F) [(0, .ref (am 0)), (1, .int (nI s))] 0 []
  have h44 := hI.w.n44
  have hro := hI.w.role s
  have hle := hI.w.len s
  have hjc := jn_lt hI hs
  have hd1 := dg_le s
  have hd2 := dg_le (rN S 11 s)
  have hlt : ∀ j, (up1 (apI (up1 (apI (fun _ => 0) 0 s) (0 + dg s) (65 + rN S 10 s)) (0 + dg s + 1) (rN S 11 s)) (0 + dg s + 1 + dg (rN S 11 s)) (rC S 13 s).toNat) j < 128 := lbT_lt hI hs
  refine V.new9 (C := RJ4) (T := TJ4) (N := 4) (ci := 1) tyJ4 (fs := [.null, .int 0, .int 0, .int 0]) X inJ4 tyJ4_ok gw_7_189 gw_5_30 gw_1_20 rfl (fun i hi => by rcases (show i = 0 ∨ i = 1 ∨ i = 2 ∨ i = 3 by omega) with rfl | rfl | rfl | rfl <;> rfl) (Nat.le_of_ble_eq_true rfl) (Nat.le_of_ble_eq_true rfl) dX6_label_0 (fun q => ?_)
  refine V.perm (Wd' := (q, .inr (1, [.null, .int 0, .int 0, .int 0])) :: (wM am cy S ++ F)) (List.perm_append_singleton _ (wM am cy S ++ F)).symm ?_
  refine V.dup X dX6_label_3 rfl ?_
  refine V.callI [] X (c_J4_init_da8c8 l D cy q (wM am cy S ++ F)) ⟨gw_5_32, gw_1_20, gw_5_33, rfl, (by show _ ≠ _ ∧ _ ≠ _ ∧ _ = some (0 : Nat); decide +kernel)⟩ gw_7_190 ⟨⟨(Nat.le_of_ble_eq_true rfl), (Nat.le_of_ble_eq_true rfl)⟩, (Nat.le_of_ble_eq_true rfl), (Nat.le_of_ble_eq_true rfl)⟩ rfl (Nat.le_of_ble_eq_true rfl) dX6_label_4 ?_
  rintro v9 u9 ⟨b, rfl, rfl⟩
  refine V.astore_n (L' := [(2, .ref q), (0, .ref (am 0)), (1, .int (nI s))]) X dX6_label_7 rfl hB9 (by decide) rfl ?_
  refine V.aload_n X dX6_label_8 rfl ?_
  refine V.iload_n X dX6_label_9 rfl ?_
  refine V.callV (C := "java/lang/StringBuilder") [.int (nI s)] X (c_J4_append_bf812 l D cy q b 0 s (fun _ => 0) (wM am cy S ++ F) (by omega) (by omega)) ⟨gw_5_61, gw_5_62, gw_1_20, gw_5_63, (by show _ = _ ∧ _ ≠ _ ∧ _ ≠ _ ∧ _ = some (1 : Nat); decide +kernel)⟩ gw_7_191 ⟨⟨(Nat.le_of_ble_eq_true rfl), (Nat.le_of_ble_eq_true rfl)⟩, (Nat.le_of_ble_eq_true rfl), (Nat.le_of_ble_eq_true rfl)⟩ (q0 := 0) (ci := 1) rfl rfl rfl (Nat.le_of_ble_eq_true rfl) dX6_label_10 (fun _ _ h9 => h9.elim) ?_
  rintro v9 u9 ⟨rfl, rfl⟩
  refine V.bipush (v := nI 65) X dX6_label_13 (by decide) ?_
  refine V.aload_n X dX6_label_15 rfl ?_
  refine V.getf (q0 := 2) (ci := 8) (j := 3) (C := RX6) (T := TX6) (N := 39) (ref := "RunbookerModel") (v := .ref (am 3)) X rfl rfl (Nat.le_of_ble_eq_true rfl) gw_6_6 inX6 rfl rfl dX6_label_16 ?_
  refine V.iload_n X dX6_label_19 rfl ?_
  refine V.iald (q0 := 5) (N := 16) (f := fun j => nI (rN S 10 j)) (v := nI (rN S 10 s)) X rfl (vp_in_nI (show s < 16 by omega) (Nat.le_of_ble_eq_true rfl)) dX6_label_20 (congrArg (fun j => nI (rN S 10 j)) (nI_clamp (by omega))) ?_
  refine V.iadd (v := nI (65 + rN S 10 s)) X dX6_label_21 (nI_add _ _) ?_
  refine V.i2c (v := nI (65 + rN S 10 s)) X dX6_label_22 (i2c_by _ (by omega)) ?_
  refine V.callV (C := "java/lang/StringBuilder") [.int (nI (65 + rN S 10 s))] X (c_J4_append_cf468 l D cy q b (0 + dg s) (65 + rN S 10 s) (apI (fun _ => 0) 0 s) (wM am cy S ++ F) (by omega) (by omega)) ⟨gw_5_147, gw_5_148, gw_1_20, gw_5_149, (by show _ = _ ∧ _ ≠ _ ∧ _ ≠ _ ∧ _ = some (1 : Nat); decide +kernel)⟩ gw_7_192 ⟨⟨(Nat.le_of_ble_eq_true rfl), (Nat.le_of_ble_eq_true rfl)⟩, (Nat.le_of_ble_eq_true rfl), (Nat.le_of_ble_eq_true rfl)⟩ (q0 := 0) (ci := 1) rfl rfl rfl (Nat.le_of_ble_eq_true rfl) dX6_label_23 (fun _ _ h9 => h9.elim) ?_
  rintro v9 u9 ⟨rfl, rfl⟩
  refine V.aload_n X dX6_label_26 rfl ?_
  refine V.getf (q0 := 2) (ci := 8) (j := 4) (C := RX6) (T := TX6) (N := 39) (ref := "RunbookerModel") (v := .ref (am 4)) X rfl rfl (Nat.le_of_ble_eq_true rfl) gw_6_7 inX6 rfl rfl dX6_label_27 ?_
  refine V.iload_n X dX6_label_30 rfl ?_
  refine V.iald (q0 := 6) (N := 16) (f := fun j => nI (rN S 11 j)) (v := nI (rN S 11 s)) X rfl (vp_in_nI (show s < 16 by omega) (Nat.le_of_ble_eq_true rfl)) dX6_label_31 (congrArg (fun j => nI (rN S 11 j)) (nI_clamp (by omega))) ?_
  refine V.callV (C := "java/lang/StringBuilder") [.int (nI (rN S 11 s))] X (c_J4_append_bf812 l D cy q b (0 + dg s + 1) (rN S 11 s) (up1 (apI (fun _ => 0) 0 s) (0 + dg s) (65 + rN S 10 s)) (wM am cy S ++ F) (by omega) (by omega)) ⟨gw_5_61, gw_5_62, gw_1_20, gw_5_63, (by show _ = _ ∧ _ ≠ _ ∧ _ ≠ _ ∧ _ = some (1 : Nat); decide +kernel)⟩ gw_7_191 ⟨⟨(Nat.le_of_ble_eq_true rfl), (Nat.le_of_ble_eq_true rfl)⟩, (Nat.le_of_ble_eq_true rfl), (Nat.le_of_ble_eq_true rfl)⟩ (q0 := 0) (ci := 1) rfl rfl rfl (Nat.le_of_ble_eq_true rfl) dX6_label_32 (fun _ _ h9 => h9.elim) ?_
  rintro v9 u9 ⟨rfl, rfl⟩
  refine V.aload_n X dX6_label_35 rfl ?_
  refine V.getf (q0 := 2) (ci := 8) (j := 12) (C := RX6) (T := TX6) (N := 39) (ref := "RunbookerModel") (v := .ref (am 12)) X rfl rfl (Nat.le_of_ble_eq_true rfl) gw_6_15 inX6 rfl rfl dX6_label_36 ?_
  refine V.iload_n X dX6_label_39 rfl ?_
  refine V.cald (q0 := 14) (N := 16) (f := fun j => c2i (rC S 13 j)) (v := nI (rC S 13 s).toNat) X rfl (vp_in_nI (show s < 16 by omega) (Nat.le_of_ble_eq_true rfl)) dX6_label_40 (congrArg (fun j => c2i (rC S 13 j)) (nI_clamp (by omega))) ?_
  refine V.callV (C := "java/lang/StringBuilder") [.int (nI ((rC S 13 s).toNat))] X (c_J4_append_cf468 l D cy q b (0 + dg s + 1 + dg (rN S 11 s)) ((rC S 13 s).toNat) (apI (up1 (apI (fun _ => 0) 0 s) (0 + dg s) (65 + rN S 10 s)) (0 + dg s + 1) (rN S 11 s)) (wM am cy S ++ F) hjc (by omega)) ⟨gw_5_147, gw_5_148, gw_1_20, gw_5_149, (by show _ = _ ∧ _ ≠ _ ∧ _ ≠ _ ∧ _ = some (1 : Nat); decide +kernel)⟩ gw_7_192 ⟨⟨(Nat.le_of_ble_eq_true rfl), (Nat.le_of_ble_eq_true rfl)⟩, (Nat.le_of_ble_eq_true rfl), (Nat.le_of_ble_eq_true rfl)⟩ (q0 := 0) (ci := 1) rfl rfl rfl (Nat.le_of_ble_eq_true rfl) dX6_label_41 (fun _ _ h9 => h9.elim) ?_
  rintro v9 u9 ⟨rfl, rfl⟩
  refine V.pop X dX6_label_44 rfl ?_
  refine V.aload_n X dX6_label_45 rfl ?_
  refine V.callV (C := "java/lang/StringBuilder") [] X (c_J4_toString_0e30d l D cy q b (0 + dg s + 1 + dg (rN S 11 s) + 1) (up1 (apI (up1 (apI (fun _ => 0) 0 s) (0 + dg s) (65 + rN S 10 s)) (0 + dg s + 1) (rN S 11 s)) (0 + dg s + 1 + dg (rN S 11 s)) (rC S 13 s).toNat) (wM am cy S ++ F) (by omega) hlt) mv_J4_toString_0e30d gw_7_193 ⟨⟨(Nat.le_of_ble_eq_true rfl), (Nat.le_of_ble_eq_true rfl)⟩, (Nat.le_of_ble_eq_true rfl), (Nat.le_of_ble_eq_true rfl)⟩ (q0 := 0) (ci := 1) rfl rfl rfl (Nat.le_of_ble_eq_true rfl) dX6_label_46 (fun _ _ h9 => h9.elim) ?_
  rintro v9 u9 ⟨z, a2, rfl, rfl⟩
  refine V.perm (Wd' := (wS cy z a2 (0 + dg s + 1 + dg (rN S 11 s) + 1) (up1 (apI (up1 (apI (fun _ => 0) 0 s) (0 + dg s) (65 + rN S 10 s)) (0 + dg s + 1) (rN S 11 s)) (0 + dg s + 1 + dg (rN S 11 s)) (rC S 13 s).toNat) ++ (wM am cy S ++ F)) ++ wB cy q b (0 + dg s + 1 + dg (rN S 11 s) + 1) (up1 (apI (up1 (apI (fun _ => 0) 0 s) (0 + dg s) (65 + rN S 10 s)) (0 + dg s + 1) (rN S 11 s)) (0 + dg s + 1 + dg (rN S 11 s)) (rC S 13 s).toNat)) pm_zx ?_
  refine V.drop ?_
  exact V.aret X hE rfl (Or.inl ⟨_, rfl⟩) (Or.inr ⟨_, rfl⟩) (Nat.le_of_ble_eq_true rfl) (Nat.le_of_ble_eq_true rfl) ⟨z, a2, rfl, rfl⟩ dX6_label_49
set_option maxRecDepth 20000 in
set_option maxHeartbeats 4000000 in
theorem c_X6_labelLength (l : Launch) (D : va_G) (cy : Nat → ClassId) (am : Nat → Nat) (S : St) (F : va_W) (x : Int32) (hI : Inv S) : Ctr l D cy yX6_labelLength (.code yX6_labelLength cX6_labelLength 2 (some FieldType.int)) ({ frames := 12, cells := 8, slots := 80, locals := 700 } : Room) [.ref (am 0), .int x] (wM am cy S ++ F) (pMx (kS1 S x) (nI (lbN S (ix x))) (fun k9 => wM am cy (sN S 62 (fun _ => k9)) ++ F)) pNo := by
  refine Ctr.of (by decide) (Nat.le_of_ble_eq_true rfl) ?_
  intro M X hE hN hB9 hI9
  replace X : VX l D M cy cX6_labelLength "RunbookerModel" (some FieldType.int) ({ frames := 12, cells := 8, slots := 80, locals := 700 } : Room) := X
  show V l D M 0 0 (wM am cy S ++ F) [(0, .ref (am 0)), (1, .int x)] 0 []
  have h44 := hI.w.n44
  have hI0 : Inv (sN S 62 (fun _ => 0)) := hI.s62 (fun _ => by decide)
  have hB0 := hI0.w.b
  refine V.aload_n X dX6_labelLength_0 rfl ?_
  refine V.iconst (v := nI 0) X dX6_labelLength_1 rfl ?_
  refine wM_pX6_97 (v := 0) X dX6_labelLength_2 ?_
  refine V.aload_n X dX6_labelLength_5 rfl ?_
  refine V.iload_n X dX6_labelLength_6 rfl ?_
  refine V.callV1 [.int x] X (c_X6_isStep l D cy am (sN S 62 (fun _ => 0)) F x hB0) mv_X6_isStep gw_6_160 ⟨⟨(Nat.le_of_ble_eq_true rfl), (Nat.le_of_ble_eq_true rfl)⟩, (Nat.le_of_ble_eq_true rfl), (Nat.le_of_ble_eq_true rfl)⟩ (q0 := 0) (ci := 8) rfl rfl rfl (Nat.le_of_ble_eq_true rfl) dX6_labelLength_7 ?_
  refine V.if_eq (tgt := 24) X dX6_labelLength_10 (by decide) b2i_0 b2i_n0 (fun (hz : inR x (rN S 44 0) = false) => ?_) (fun (hz : inR x (rN S 44 0) = true) => ?_)
  · skip
    refine V.aload_n X dX6_labelLength_24 rfl ?_
    refine V.iconst (v := nI 1) X dX6_labelLength_25 rfl ?_
    refine V.callV1 [.int (nI 1)] X (c_X6_fails l D cy am (sN S 62 (fun _ => 0)) F 1) mv_X6_fails gw_6_132 ⟨⟨(Nat.le_of_ble_eq_true rfl), (Nat.le_of_ble_eq_true rfl)⟩, (Nat.le_of_ble_eq_true rfl), (Nat.le_of_ble_eq_true rfl)⟩ (q0 := 0) (ci := 8) rfl rfl rfl (Nat.le_of_ble_eq_true rfl) dX6_labelLength_26 ?_
    exact V.iret (v := (nI 0)) X hE rfl rfl (Nat.le_of_ble_eq_true rfl) (Nat.le_of_ble_eq_true rfl) (pM9 (j := 1) (by simp [kS1, ins9, hz]) (fun h => absurd h (by decide)) rfl) dX6_labelLength_29
  · obtain ⟨p, hp, rfl⟩ := inR_of hz (by omega)
    have ep : ix (nI p) = p := ix_nI (by omega)
    have hl6 := lbN_le S p
    have hlt := lbT_lt hI hp
    refine V.aload_n X dX6_labelLength_13 rfl ?_
    refine V.iload_n X dX6_labelLength_14 rfl ?_
    refine V.callV (C := "RunbookerModel") [.int (nI p)] X (c_X6_label l D cy am (sN S 62 (fun _ => 0)) F p hI0 hp) mv_X6_label gw_7_185 ⟨⟨(Nat.le_of_ble_eq_true rfl), (Nat.le_of_ble_eq_true rfl)⟩, (Nat.le_of_ble_eq_true rfl), (Nat.le_of_ble_eq_true rfl)⟩ (q0 := 0) (ci := 8) rfl rfl rfl (Nat.le_of_ble_eq_true rfl) dX6_labelLength_15 (fun _ _ h9 => h9.elim) ?_
    rintro v9 u9 ⟨z1, a1, rfl, rfl⟩
    refine V.callV (C := "java/lang/String") [] X (c_J0_length_8abf5 l D cy z1 a1 (lbN S p) (lbT S p) (wM am cy (sN S 62 (fun _ => 0)) ++ F) (by omega)) mv_J0_length_8abf5 gw_8_49 ⟨⟨(Nat.le_of_ble_eq_true rfl), (Nat.le_of_ble_eq_true rfl)⟩, (Nat.le_of_ble_eq_true rfl), (Nat.le_of_ble_eq_true rfl)⟩ (q0 := 0) (ci := 0) rfl rfl rfl (Nat.le_of_ble_eq_true rfl) dX6_labelLength_18 (fun _ _ h9 => h9.elim) ?_
    rintro v9 u9 ⟨rfl, rfl⟩
    refine V.perm (Wd' := (wM am cy (sN S 62 (fun _ => 0)) ++ F) ++ wS cy z1 a1 (lbN S p) (lbT S p)) pm_wb ?_
    refine V.drop ?_
    refine V.goto (tgt := 29) X dX6_labelLength_21 (by decide) ?_
    exact V.iret (v := (nI (lbN S p))) X hE rfl rfl (Nat.le_of_ble_eq_true rfl) (Nat.le_of_ble_eq_true rfl) (pM9 (j := 0) (by simp [kS1, ins9, hz]) (fun _ => by rw [ep]) rfl) dX6_labelLength_29
set_option maxRecDepth 20000 in
set_option maxHeartbeats 4000000 in
theorem c_X6_labelAt (l : Launch) (D : va_G) (cy : Nat → ClassId) (am : Nat → Nat) (S : St) (F : va_W) (x i : Int32) (hI : Inv S) : Ctr l D cy yX6_labelAt (.code yX6_labelAt cX6_labelAt 3 (some FieldType.char)) ({ frames := 12, cells := 12, slots := 120, locals := 700 } : Room) [.ref (am 0), .int x, .int i] (wM am cy S ++ F) (pMx (kLA S x i) (nI (lbT S (ix x) (ix i))) (fun k9 => wM am cy (sN S 62 (fun _ => k9)) ++ F)) pNo := by
  refine Ctr.of (by decide) (Nat.le_of_ble_eq_true rfl) ?_
  intro M X hE hN hB9 hI9
  replace X : VX l D M cy cX6_labelAt "RunbookerModel" (some FieldType.char) ({ frames := 12, cells := 12, slots := 120, locals := 700 } : Room) := X
  show V l D M 0 0 (wM am cy S ++ F) [(0, .ref (am 0)), (1, .int x), (2, .int i)] 0 []
  have h44 := hI.w.n44
  have hI0 : Inv (sN S 62 (fun _ => 0)) := hI.s62 (fun _ => by decide)
  have hB0 := hI0.w.b
  refine V.aload_n X dX6_labelAt_0 rfl ?_
  refine V.iconst (v := nI 0) X dX6_labelAt_1 rfl ?_
  refine wM_pX6_97 (v := 0) X dX6_labelAt_2 ?_
  refine V.aload_n X dX6_labelAt_5 rfl ?_
  refine V.iload_n X dX6_labelAt_6 rfl ?_
  refine V.callV1 [.int x] X (c_X6_isStep l D cy am (sN S 62 (fun _ => 0)) F x hB0) mv_X6_isStep gw_6_160 ⟨⟨(Nat.le_of_ble_eq_true rfl), (Nat.le_of_ble_eq_true rfl)⟩, (Nat.le_of_ble_eq_true rfl), (Nat.le_of_ble_eq_true rfl)⟩ (q0 := 0) (ci := 8) rfl rfl rfl (Nat.le_of_ble_eq_true rfl) dX6_labelAt_7 ?_
  refine V.if_ne (tgt := 20) X dX6_labelAt_10 (by decide) b2i_n0 b2i_0 (fun (hz : inR x (rN S 44 0) = true) => ?_) (fun (hz : inR x (rN S 44 0) = false) => ?_)
  · obtain ⟨p, hp, rfl⟩ := inR_of hz (by omega)
    have ep : ix (nI p) = p := ix_nI (by omega)
    have hl6 := lbN_le S p
    have hlt := lbT_lt hI hp
    refine V.iload_n X dX6_labelAt_20 rfl ?_
    refine V.iconst (v := nI 0) X dX6_labelAt_21 rfl ?_
    refine V.aload_n X dX6_labelAt_22 rfl ?_
    refine V.iload_n X dX6_labelAt_23 rfl ?_
    refine V.callV (C := "RunbookerModel") [.int (nI p)] X (c_X6_label l D cy am (sN S 62 (fun _ => 0)) F p hI0 hp) mv_X6_label gw_7_185 ⟨⟨(Nat.le_of_ble_eq_true rfl), (Nat.le_of_ble_eq_true rfl)⟩, (Nat.le_of_ble_eq_true rfl), (Nat.le_of_ble_eq_true rfl)⟩ (q0 := 0) (ci := 8) rfl rfl rfl (Nat.le_of_ble_eq_true rfl) dX6_labelAt_24 (fun _ _ h9 => h9.elim) ?_
    rintro v9 u9 ⟨z1, a1, rfl, rfl⟩
    refine V.callV (C := "java/lang/String") [] X (c_J0_length_8abf5 l D cy z1 a1 (lbN S p) (lbT S p) (wM am cy (sN S 62 (fun _ => 0)) ++ F) (by omega)) mv_J0_length_8abf5 gw_8_49 ⟨⟨(Nat.le_of_ble_eq_true rfl), (Nat.le_of_ble_eq_true rfl)⟩, (Nat.le_of_ble_eq_true rfl), (Nat.le_of_ble_eq_true rfl)⟩ (q0 := 0) (ci := 0) rfl rfl rfl (Nat.le_of_ble_eq_true rfl) dX6_labelAt_27 (fun _ _ h9 => h9.elim) ?_
    rintro v9 u9 ⟨rfl, rfl⟩
    refine V.perm (Wd' := (wM am cy (sN S 62 (fun _ => 0)) ++ F) ++ wS cy z1 a1 (lbN S p) (lbT S p)) pm_wb ?_
    refine V.drop ?_
    refine V.iconst (v := nI 1) X dX6_labelAt_30 rfl ?_
    refine V.isub (v := o2i (pred9 (lbN S p))) X dX6_labelAt_31 (pred9_sub _) ?_
    refine V.callS1 [.int i, .int (nI 0), .int (o2i (pred9 (lbN S p)))] X (c_X6_isBetween l D cy am (sN S 62 (fun _ => 0)) F i (nI 0) (o2i (pred9 (lbN S p)))) ms_X6_isBetween gw_6_129 ⟨⟨(Nat.le_of_ble_eq_true rfl), (Nat.le_of_ble_eq_true rfl)⟩, (Nat.le_of_ble_eq_true rfl), (Nat.le_of_ble_eq_true rfl)⟩ rfl (Nat.le_of_ble_eq_true rfl) dX6_labelAt_32 ?_
    refine V.top (congrArg b2i (btw0 (x := i) (n := lbN S p) (by omega))) ?_
    refine V.if_eq (tgt := 50) X dX6_labelAt_35 (by decide) b2i_0 b2i_n0 (fun (hq : inR i (lbN S p) = false) => ?_) (fun (hq : inR i (lbN S p) = true) => ?_)
    · skip
      refine V.aload_n X dX6_labelAt_50 rfl ?_
      refine V.iconst (v := nI 2) X dX6_labelAt_51 rfl ?_
      refine V.callV1 [.int (nI 2)] X (c_X6_fails l D cy am (sN S 62 (fun _ => 0)) F 2) mv_X6_fails gw_6_132 ⟨⟨(Nat.le_of_ble_eq_true rfl), (Nat.le_of_ble_eq_true rfl)⟩, (Nat.le_of_ble_eq_true rfl), (Nat.le_of_ble_eq_true rfl)⟩ (q0 := 0) (ci := 8) rfl rfl rfl (Nat.le_of_ble_eq_true rfl) dX6_labelAt_52 ?_
      refine V.i2c (v := nI 0) X dX6_labelAt_55 (by decide) ?_
      exact V.iret (v := (nI 0)) X hE rfl rfl (Nat.le_of_ble_eq_true rfl) (Nat.le_of_ble_eq_true rfl) (pM9 (j := 2) (by simp [kLA, ins9, hz, hp, ep, hq]) (fun h => absurd h (by decide)) rfl) dX6_labelAt_56
    · obtain ⟨j, hj, rfl⟩ := inR_of hq (by omega)
      have ej : ix (nI j) = j := ix_nI (by omega)
      refine V.aload_n X dX6_labelAt_38 rfl ?_
      refine V.iload_n X dX6_labelAt_39 rfl ?_
      refine V.callV (C := "RunbookerModel") [.int (nI p)] X (c_X6_label l D cy am (sN S 62 (fun _ => 0)) F p hI0 hp) mv_X6_label gw_7_185 ⟨⟨(Nat.le_of_ble_eq_true rfl), (Nat.le_of_ble_eq_true rfl)⟩, (Nat.le_of_ble_eq_true rfl), (Nat.le_of_ble_eq_true rfl)⟩ (q0 := 0) (ci := 8) rfl rfl rfl (Nat.le_of_ble_eq_true rfl) dX6_labelAt_40 (fun _ _ h9 => h9.elim) ?_
      rintro v9 u9 ⟨z2, a2, rfl, rfl⟩
      refine V.iload_n X dX6_labelAt_43 rfl ?_
      refine V.callV (C := "java/lang/String") [.int (nI j)] X (c_J0_charAt_5068e l D cy z2 a2 (lbN S p) (lbT S p) (wM am cy (sN S 62 (fun _ => 0)) ++ F) j hj (by omega) hlt) mv_J0_charAt_5068e gw_8_54 ⟨⟨(Nat.le_of_ble_eq_true rfl), (Nat.le_of_ble_eq_true rfl)⟩, (Nat.le_of_ble_eq_true rfl), (Nat.le_of_ble_eq_true rfl)⟩ (q0 := 0) (ci := 0) rfl rfl rfl (Nat.le_of_ble_eq_true rfl) dX6_labelAt_44 (fun _ _ h9 => h9.elim) ?_
      rintro v9 u9 ⟨rfl, rfl⟩
      refine V.perm (Wd' := (wM am cy (sN S 62 (fun _ => 0)) ++ F) ++ wS cy z2 a2 (lbN S p) (lbT S p)) pm_wb ?_
      refine V.drop ?_
      refine V.goto (tgt := 56) X dX6_labelAt_47 (by decide) ?_
      exact V.iret (v := (nI (lbT S p j))) X hE rfl (nar_ch _ (hlt j)) (Nat.le_of_ble_eq_true rfl) (Nat.le_of_ble_eq_true rfl) (pM9 (j := 0) (by simp [kLA, ins9, hz, hp, ep, hq, ej]) (fun _ => by rw [ep, ej]) rfl) dX6_labelAt_56
  · skip
    refine V.aload_n X dX6_labelAt_13 rfl ?_
    refine V.iconst (v := nI 1) X dX6_labelAt_14 rfl ?_
    refine V.callV1 [.int (nI 1)] X (c_X6_fails l D cy am (sN S 62 (fun _ => 0)) F 1) mv_X6_fails gw_6_132 ⟨⟨(Nat.le_of_ble_eq_true rfl), (Nat.le_of_ble_eq_true rfl)⟩, (Nat.le_of_ble_eq_true rfl), (Nat.le_of_ble_eq_true rfl)⟩ (q0 := 0) (ci := 8) rfl rfl rfl (Nat.le_of_ble_eq_true rfl) dX6_labelAt_15 ?_
    refine V.i2c (v := nI 0) X dX6_labelAt_18 (by decide) ?_
    exact V.iret (v := (nI 0)) X hE rfl rfl (Nat.le_of_ble_eq_true rfl) (Nat.le_of_ble_eq_true rfl) (pM9 (j := 1) (by simp [kLA, ins9, hz]) (fun h => absurd h (by decide)) rfl) dX6_labelAt_19
