/-! ===== the start of the law ===== -/
theorem Wk00 : Wk S00 := by
  have nl : ∀ s : Nat, ¬ s < 0 := Nat.not_lt_zero
  refine ⟨⟨fun _ _ => by show (0 : Nat) < 1000000; decide, fun k j v h => ?_⟩, Nat.zero_le _, Nat.zero_le _, Nat.zero_le _, Nat.zero_le _, fun _ => by show (0 : Nat) < 4; decide, fun _ => Nat.zero_le _, fun _ => Nat.zero_le _, fun _ => Nat.zero_le _, fun _ => by show (0 : Nat) < 6; decide, fun s f h => absurd h (nl s), fun p s h => absurd h (nl p), (fun p h => by cases h), (fun p h => by cases h), fun k h => absurd h (nl k), fun _ => Nat.zero_le _, fun _ => Nat.zero_le _, Nat.zero_le _, Nat.zero_le _, fun s h => absurd h (nl s), fun s h => absurd h (nl s), fun s h => absurd h (nl s)⟩
  change (bif Nat.beq k 47 || Nat.beq k 48 then none else some 0) = some v at h
  cases hb : (Nat.beq k 47 || Nat.beq k 48) with
  | true => rw [hb] at h; cases h
  | false => rw [hb] at h; cases h; decide
theorem Inv00 : Inv S00 := by
  have nl : ∀ s : Nat, ¬ s < 0 := Nat.not_lt_zero
  exact ⟨Wk00, fun s h => absurd h (nl s), fun s h => (by show (0 : UInt16) ≠ 97; decide), fun s h => (by show (0 : UInt16) ≠ 97; decide), fun p s h => absurd h (nl p), fun s h => absurd h (nl s), fun s h => absurd h (nl s), (fun h => by cases h), fun p h => absurd h (nl p), (fun p h => by cases h), fun _ => rfl, fun s h => absurd h (nl s), rfl, fun k h => absurd h (nl k), fun j k _ h => absurd h (nl k), fun s h => absurd h (nl s), fun s h => absurd h (nl s), fun s h => absurd h (nl s), rfl, fun s t f h => absurd h (nl s), fun s => ⟨0, by decide, rfl⟩, fun s h => absurd h (nl s)⟩
theorem OK00 : OKs S00 0 := ⟨Inv00, Nat.le_refl 0, Nat.zero_le _⟩
set_option maxRecDepth 20000 in
set_option maxHeartbeats 4000000 in
theorem law_start (l : Launch) (D : va_G) (M : VM) (cy : Nat → ClassId) (b Ln : Nat) (xs : Nat → Int32) (X : VX l D M cy cL_law "RunbookerLaw" ret room_1) (hNc : VNc M) (hB9 : VB M 9) (hSc : VScr M b Ln xs) (hLn : Ln ≤ 3072)
    (hend : ∀ (k n : Nat) (Wd : va_W) (L : List (Nat × Value)), k ≤ 601024 → n ≤ 7293034 → V l D M k n Wd L 3016 []) : V l D M 0 0 [] [(0, .ref b)] 0 [] := by
  refine V.new9 (C := RX5) (T := TX5) (N := 9) (ci := 7) tyX5 (fs := [.null, .null, .null, .null, .null, .null, .int 0, .int 0, .long 0]) X inX5 tyX5_ok gw_1_28 gw_1_29 gw_1_1 rfl (fun i hi => by rcases (show i = 0 ∨ i = 1 ∨ i = 2 ∨ i = 3 ∨ i = 4 ∨ i = 5 ∨ i = 6 ∨ i = 7 ∨ i = 8 by omega) with rfl | rfl | rfl | rfl | rfl | rfl | rfl | rfl | rfl <;> rfl) (Nat.le_of_ble_eq_true rfl) (Nat.le_of_ble_eq_true rfl) dL_law_0 (fun x => ?_)
  refine V.dup X dL_law_3 rfl ?_
  refine V.callI [] X (c_X5_init l D cy x []) mc_X5_init gw_1_30 ⟨⟨(Nat.le_of_ble_eq_true rfl), (Nat.le_of_ble_eq_true rfl)⟩, (Nat.le_of_ble_eq_true rfl), (Nat.le_of_ble_eq_true rfl)⟩ rfl (Nat.le_of_ble_eq_true rfl) dL_law_4 ?_
  rintro v9 u9 ⟨ad, had, rfl, rfl⟩
  subst had
  refine V.astore_n (i := 1) (L' := [(1, .ref (ad 0)), (0, .ref b)]) X dL_law_7 rfl hB9 (by decide) rfl ?_
  refine V.new9 (C := RX6) (T := TX6) (N := 39) (ci := 8) tyX6 (fs := [.int 0, .null, .null, .null, .null, .null, .null, .null, .null, .null, .null, .null, .null, .null, .null, .null, .null, .int 0, .int 0, .int 0, .long 0, .null, .null, .null, .null, .null, .int 0, .int 0, .int 0, .int 0, .int 0, .int 0, .int 0, .null, .null, .null, .null, .int 0, .null]) X inX6 tyX6_ok gw_5_237 gw_5_238 gw_1_7 rfl (fun i hi => by rcases (show i = 0 ∨ i = 1 ∨ i = 2 ∨ i = 3 ∨ i = 4 ∨ i = 5 ∨ i = 6 ∨ i = 7 ∨ i = 8 ∨ i = 9 ∨ i = 10 ∨ i = 11 ∨ i = 12 ∨ i = 13 ∨ i = 14 ∨ i = 15 ∨ i = 16 ∨ i = 17 ∨ i = 18 ∨ i = 19 ∨ i = 20 ∨ i = 21 ∨ i = 22 ∨ i = 23 ∨ i = 24 ∨ i = 25 ∨ i = 26 ∨ i = 27 ∨ i = 28 ∨ i = 29 ∨ i = 30 ∨ i = 31 ∨ i = 32 ∨ i = 33 ∨ i = 34 ∨ i = 35 ∨ i = 36 ∨ i = 37 ∨ i = 38 by omega) with rfl | rfl | rfl | rfl | rfl | rfl | rfl | rfl | rfl | rfl | rfl | rfl | rfl | rfl | rfl | rfl | rfl | rfl | rfl | rfl | rfl | rfl | rfl | rfl | rfl | rfl | rfl | rfl | rfl | rfl | rfl | rfl | rfl | rfl | rfl | rfl | rfl | rfl | rfl <;> rfl) (Nat.le_of_ble_eq_true rfl) (Nat.le_of_ble_eq_true rfl) dL_law_8 (fun y => ?_)
  refine V.perm (Wd' := (y, .inr (8, [.int 0, .null, .null, .null, .null, .null, .null, .null, .null, .null, .null, .null, .null, .null, .null, .null, .null, .int 0, .int 0, .int 0, .long 0, .null, .null, .null, .null, .null, .int 0, .int 0, .int 0, .int 0, .int 0, .int 0, .int 0, .null, .null, .null, .null, .int 0, .null])) :: wC ad cy S00) (by rw [List.append_nil]; exact (List.perm_append_singleton _ _).symm) ?_
  refine V.dup X dL_law_11 rfl ?_
  refine V.callI [] X (c_X6_init l D cy y (wC ad cy S00)) mc_X6_init gw_5_239 ⟨⟨(Nat.le_of_ble_eq_true rfl), (Nat.le_of_ble_eq_true rfl)⟩, (Nat.le_of_ble_eq_true rfl), (Nat.le_of_ble_eq_true rfl)⟩ rfl (Nat.le_of_ble_eq_true rfl) dL_law_12 ?_
  rintro v9 u9 ⟨am, ham, rfl, rfl⟩
  subst ham
  refine V.astore_n (i := 2) (L' := [(2, .ref (am 0)), (1, .ref (ad 0)), (0, .ref b)]) X dL_law_15 rfl hB9 (by decide) rfl ?_
  refine V.iconst (v := nI 1) X dL_law_16 rfl ?_
  refine V.newa9 (atype := .long) (ty := .long) (t0 := 4) (N' := 1) (a0 := (1, .inr (.inl (fun _ => 0)))) (cA0 := cy 4) X gw_8_81 rfl rfl (fun _ => by intro h; cases h) (fun _ => rfl) (nI_pos (by decide)) (nI_clamp (by decide)) (Nat.le_of_ble_eq_true rfl) (Nat.le_of_ble_eq_true rfl) (Nat.le_of_ble_eq_true rfl) dL_law_17 (fun o => ?_)
  refine V.astore_n (i := 3) (L' := [(3, .ref o), (2, .ref (am 0)), (1, .ref (ad 0)), (0, .ref b)]) X dL_law_19 rfl hB9 (by decide) rfl ?_
  refine V.iconst (v := nI 1) X dL_law_20 rfl ?_
  refine V.newa9 (atype := .double) (ty := .double) (t0 := 5) (N' := 1) (a0 := (1, .inr (.inr (.inr (.inl (fun _ => 0)))))) (cA0 := cy 5) X gw_8_82 rfl rfl (fun _ => by intro h; cases h) (fun _ => rfl) (nI_pos (by decide)) (nI_clamp (by decide)) (Nat.le_of_ble_eq_true rfl) (Nat.le_of_ble_eq_true rfl) (Nat.le_of_ble_eq_true rfl) dL_law_21 (fun od => ?_)
  refine V.astore (i := 4) (L' := [(4, .ref od), (3, .ref o), (2, .ref (am 0)), (1, .ref (ad 0)), (0, .ref b)]) X dL_law_23 hB9 (by decide) rfl ?_
  refine V.iconst (v := nI 0) X dL_law_25 rfl ?_
  refine V.istore (L' := [(5, .int (nI 0)), (4, .ref od), (3, .ref o), (2, .ref (am 0)), (1, .ref (ad 0)), (0, .ref b)]) X dL_law_26 hB9 (by decide) rfl ?_
  refine V.perm (Wd' := wC ad cy S00 ++ cL9 cy o (fun _ => 0) :: cD9 cy od (fun _ => 0) :: wM am cy S00) (by rw [List.append_assoc, List.append_assoc]; exact pm_AB.symm) ?_
  refine V.pick [0, 5, 4, 3, 2, 1] rfl ?_
  exact law_loop l D M cy ad am o od b Ln xs X hNc hB9 hSc hLn hend 512 0 S00 _ _ _ _ rfl OK00 (Nat.le_of_ble_eq_true rfl) (Nat.le_of_ble_eq_true rfl)
