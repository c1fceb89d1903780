/-! ===== constructors ===== -/
set_option maxRecDepth 20000 in
set_option maxHeartbeats 400000 in
theorem c_X0_init (l : Launch) (D : va_G) (cy : Nat → ClassId) (a : Nat) (F : va_W) : Ctr l D cy yX0_init (.code yX0_init cX0_init 1 none) ({ frames := 2, cells := 3, slots := 24, locals := 60 } : Room) [.ref a] ((a, .inr (2, [.null, .null, .null, .int 0])) :: F) (fun v9 w9 => ∃ q0 q1 q2 : Nat, v9 = none ∧ w9 = (a, .inr (2, [.ref q0, .ref q1, .ref q2, .int 0])) :: (F ++ [(q0, .inl (cy 0, 8, .inl (fun _ => 0)))] ++ [(q1, .inl (cy 1, 8, .inl (fun _ => 0)))] ++ [(q2, .inl (cy 0, 8, .inl (fun _ => 0)))])) pNo := by
  refine Ctr.of (by decide) (Nat.le_of_ble_eq_true rfl) ?_
  intro M X hE hN hB9 hI9
  replace X : VX l D M cy cX0_init "Runbooker$Crew" none ({ frames := 2, cells := 3, slots := 24, locals := 60 } : Room) := X
  show V l D M 0 0 ((a, .inr (2, [.null, .null, .null, .int 0])) :: F) [(0, .ref a)] 0 []
  refine V.aload_n X dX0_init_0 rfl ?_
  refine V.objI X gw_1_41 gw_1_34 gw_1_35 (Nat.le_of_ble_eq_true rfl) (Nat.le_of_ble_eq_true rfl) dX0_init_1 ?_
  refine V.aload_n X dX0_init_4 rfl ?_
  refine V.bipush (v := nI 8) X dX0_init_5 (by decide) ?_
  refine V.newa9 (atype := .int) (ty := .int) (t0 := 0) (N' := 8) (a0 := (8, .inl (fun _ => 0))) (cA0 := cy 0) X gw_1_58 rfl rfl (fun _ => by intro h; cases h) (fun _ => rfl) (nI_pos (by decide)) (nI_clamp (by decide)) (Nat.le_of_ble_eq_true rfl) (Nat.le_of_ble_eq_true rfl) (Nat.le_of_ble_eq_true rfl) dX0_init_7 (fun q0 => ?_)
  refine V.eqs (Wd' := (a, .inr (2, [.null, .null, .null, .int 0])) :: (F ++ [(q0, .inl (cy 0, 8, .inl (fun _ => 0)))])) rfl rfl ?_
  refine V.putF (q0 := 0) (ci := 2) (j := 0) (C := RX0) (T := TX0) (N := 4) (ref := "Runbooker$Crew") (ty := (.array .int)) (ty0 := tyX0) (Wd' := (a, .inr (2, [.ref q0, .null, .null, .int 0])) :: (F ++ [(q0, .inl (cy 0, 8, .inl (fun _ => 0)))])) X (hI9 rfl) rfl rfl (Nat.le_of_ble_eq_true rfl) gw_1_42 inX0 rfl rfl tyX0_ok nmX0 rfl (by decide +kernel) rfl rfl (Nat.le_of_ble_eq_true rfl) dX0_init_9 rfl ?_
  refine V.aload_n X dX0_init_12 rfl ?_
  refine V.bipush (v := nI 8) X dX0_init_13 (by decide) ?_
  refine V.newa9 (atype := .boolean) (ty := .boolean) (t0 := 1) (N' := 8) (a0 := (8, .inl (fun _ => 0))) (cA0 := cy 1) X gw_1_59 rfl rfl (fun _ => by intro h; cases h) (fun _ => rfl) (nI_pos (by decide)) (nI_clamp (by decide)) (Nat.le_of_ble_eq_true rfl) (Nat.le_of_ble_eq_true rfl) (Nat.le_of_ble_eq_true rfl) dX0_init_15 (fun q1 => ?_)
  refine V.eqs (Wd' := (a, .inr (2, [.ref q0, .null, .null, .int 0])) :: (F ++ [(q0, .inl (cy 0, 8, .inl (fun _ => 0)))] ++ [(q1, .inl (cy 1, 8, .inl (fun _ => 0)))])) rfl rfl ?_
  refine V.putF (q0 := 0) (ci := 2) (j := 1) (C := RX0) (T := TX0) (N := 4) (ref := "Runbooker$Crew") (ty := (.array .boolean)) (ty0 := tyX0) (Wd' := (a, .inr (2, [.ref q0, .ref q1, .null, .int 0])) :: (F ++ [(q0, .inl (cy 0, 8, .inl (fun _ => 0)))] ++ [(q1, .inl (cy 1, 8, .inl (fun _ => 0)))])) X (hI9 rfl) rfl rfl (Nat.le_of_ble_eq_true rfl) gw_1_43 inX0 rfl rfl tyX0_ok nmX0 rfl (by decide +kernel) rfl rfl (Nat.le_of_ble_eq_true rfl) dX0_init_17 rfl ?_
  refine V.aload_n X dX0_init_20 rfl ?_
  refine V.bipush (v := nI 8) X dX0_init_21 (by decide) ?_
  refine V.newa9 (atype := .int) (ty := .int) (t0 := 0) (N' := 8) (a0 := (8, .inl (fun _ => 0))) (cA0 := cy 0) X gw_1_58 rfl rfl (fun _ => by intro h; cases h) (fun _ => rfl) (nI_pos (by decide)) (nI_clamp (by decide)) (Nat.le_of_ble_eq_true rfl) (Nat.le_of_ble_eq_true rfl) (Nat.le_of_ble_eq_true rfl) dX0_init_23 (fun q2 => ?_)
  refine V.eqs (Wd' := (a, .inr (2, [.ref q0, .ref q1, .null, .int 0])) :: (F ++ [(q0, .inl (cy 0, 8, .inl (fun _ => 0)))] ++ [(q1, .inl (cy 1, 8, .inl (fun _ => 0)))] ++ [(q2, .inl (cy 0, 8, .inl (fun _ => 0)))])) rfl rfl ?_
  refine V.putF (q0 := 0) (ci := 2) (j := 2) (C := RX0) (T := TX0) (N := 4) (ref := "Runbooker$Crew") (ty := (.array .int)) (ty0 := tyX0) (Wd' := (a, .inr (2, [.ref q0, .ref q1, .ref q2, .int 0])) :: (F ++ [(q0, .inl (cy 0, 8, .inl (fun _ => 0)))] ++ [(q1, .inl (cy 1, 8, .inl (fun _ => 0)))] ++ [(q2, .inl (cy 0, 8, .inl (fun _ => 0)))])) X (hI9 rfl) rfl rfl (Nat.le_of_ble_eq_true rfl) gw_1_45 inX0 rfl rfl tyX0_ok nmX0 rfl (by decide +kernel) rfl rfl (Nat.le_of_ble_eq_true rfl) dX0_init_25 rfl ?_
  exact V.vret X hE rfl (Nat.le_of_ble_eq_true rfl) (Nat.le_of_ble_eq_true rfl) ⟨q0, q1, q2, rfl, rfl⟩ dX0_init_28
set_option maxRecDepth 20000 in
set_option maxHeartbeats 400000 in
theorem c_X1_init (l : Launch) (D : va_G) (cy : Nat → ClassId) (a : Nat) (F : va_W) : Ctr l D cy yX1_init (.code yX1_init cX1_init 1 none) ({ frames := 2, cells := 0, slots := 0, locals := 60 } : Room) [.ref a] ((a, .inr (3, [.int 0, .int 0, .int 0])) :: F) (fun v9 w9 => v9 = none ∧ w9 = (a, .inr (3, [.int (o2i none), .int (o2i none), .int 0])) :: (F)) pNo := by
  refine Ctr.of (by decide) (Nat.le_of_ble_eq_true rfl) ?_
  intro M X hE hN hB9 hI9
  replace X : VX l D M cy cX1_init "Runbooker$Handover" none ({ frames := 2, cells := 0, slots := 0, locals := 60 } : Room) := X
  show V l D M 0 0 ((a, .inr (3, [.int 0, .int 0, .int 0])) :: F) [(0, .ref a)] 0 []
  refine V.aload_n X dX1_init_0 rfl ?_
  refine V.objI X gw_1_165 gw_1_34 gw_1_35 (Nat.le_of_ble_eq_true rfl) (Nat.le_of_ble_eq_true rfl) dX1_init_1 ?_
  refine V.aload_n X dX1_init_4 rfl ?_
  refine V.iconst (v := o2i none) X dX1_init_5 rfl ?_
  refine V.putf (q0 := 0) (ci := 3) (j := 0) (C := RX1) (T := TX1) (N := 3) (ref := "Runbooker$Handover") (ty := .int) (ty0 := tyX1) (Wd' := (a, .inr (3, [.int (o2i none), .int 0, .int 0])) :: (F)) X rfl rfl (Nat.le_of_ble_eq_true rfl) gw_1_166 inX1 rfl tyX1_ok nmX1 rfl (by decide +kernel) rfl rfl (Nat.le_of_ble_eq_true rfl) dX1_init_6 rfl ?_
  refine V.aload_n X dX1_init_9 rfl ?_
  refine V.iconst (v := o2i none) X dX1_init_10 rfl ?_
  refine V.putf (q0 := 0) (ci := 3) (j := 1) (C := RX1) (T := TX1) (N := 3) (ref := "Runbooker$Handover") (ty := .int) (ty0 := tyX1) (Wd' := (a, .inr (3, [.int (o2i none), .int (o2i none), .int 0])) :: (F)) X rfl rfl (Nat.le_of_ble_eq_true rfl) gw_1_168 inX1 rfl tyX1_ok nmX1 rfl (by decide +kernel) rfl rfl (Nat.le_of_ble_eq_true rfl) dX1_init_11 rfl ?_
  exact V.vret X hE rfl (Nat.le_of_ble_eq_true rfl) (Nat.le_of_ble_eq_true rfl) ⟨rfl, rfl⟩ dX1_init_14
