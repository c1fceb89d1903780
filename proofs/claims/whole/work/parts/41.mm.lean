/-! ===== the reference: the last faces; the class's pass ===== -/
theorem Inv.on {S : St} (h : Inv S) : ∀ p, rO S 47 0 = some p → ∃ q, rO S 48 0 = some q := fun p e => by
  obtain ⟨-, q, h1, -⟩ := h.h1 p e
  exact ⟨q, h1⟩
theorem Phi.e1 {S : St} (h : Phi S + 3 ≤ 1536) : rN S 50 0 + 2 * actN S + (if (rO S 47 0).isSome then 1 else 0) ≤ 1536 := by
  unfold Phi at h
  split <;> rename_i e <;> simp [e] at h <;> omega
theorem Inv.w120 {S : St} (h : Inv S) : ∀ s, s < rN S 46 0 → rC S 22 s = 97 → rN S 26 s < 120 := fun s hs e => by
  have h1 := h.wl s hs e
  have h2 := h.w.len s
  omega
set_option maxRecDepth 20000 in
set_option maxHeartbeats 4000000 in
theorem c_X5_pass (l : Launch) (D : va_G) (cy : Nat → ClassId) (ad : Nat → Nat) (S : St) (F : va_W) (x : Int32) (hI : Inv S) (hR : Rm S) : Ctr l D cy yX5_pass (.code yX5_pass cX5_pass 4 (some FieldType.int)) ({ frames := 14, cells := 8, slots := 48, locals := 500 } : Room) [.ref (ad 0), .int x] (wC ad cy S ++ F) (pIx (kPS x = 0) (nI (pmXT (sN S 62 (fun _ => 0)) (ix x))) (wC ad cy (pmXI (sN S 62 (fun _ => 0)) (ix x)) ++ F)) (pXk ["java/lang/IllegalArgumentException"] (kPS x) (wC ad cy S ++ F)) := by
  refine Ctr.of (by decide) (Nat.le_of_ble_eq_true rfl) ?_
  intro M X hE hN hB9 hI9
  replace X : VX l D M cy cX5_pass "Runbooker" (some FieldType.int) ({ frames := 14, cells := 8, slots := 48, locals := 500 } : Room) := X
  show V l D M 0 0 (wC ad cy S ++ F) [(0, .ref (ad 0)), (1, .int x)] 0 []
  have hW := hI.w
  have hB := hW.b
  have h43 := hW.n43
  have h44 := hW.n44
  have h46 := hW.n46
  have h45 := hW.n45
  have hcl := hW.cl
  have hen := hW.en
  have hI0 : Inv (sN S 62 (fun _ => 0)) := hI.s62 (fun _ => by decide)
  refine V.iload_n X dX5_pass_0 rfl ?_
  refine V.iconst (v := nI 1) X dX5_pass_1 rfl ?_
  refine V.icmp_lt (tgt := 12) X dX5_pass_2 (by decide) id id (fun (hz2 : x < nI 1) => ?_) (fun (hz2 : ¬ x < nI 1) => ?_)
  · have hb240 : btw x (nI 1) (nI 240) = false := by simp [btw, i32_nle.mpr hz2]
    exact V.thIAE X hE hN gS_269 (.inr ⟨rfl, rfl⟩) dX5_pass_12 dX5_pass_15 dX5_pass_16 dX5_pass_19 dX5_pass_22 (Nat.le_of_ble_eq_true rfl) (Nat.le_of_ble_eq_true rfl) (Nat.le_of_ble_eq_true rfl) (Nat.le_of_ble_eq_true rfl) ⟨0, (by simp [kPS, hb240]), rfl, rfl⟩
  · refine V.iload_n X dX5_pass_5 rfl ?_
    refine V.sipush (v := nI 240) X dX5_pass_6 (by decide) ?_
    refine V.icmp_le (tgt := 23) X dX5_pass_9 (by decide) id id (fun (hz9 : x ≤ nI 240) => ?_) (fun (hz9 : ¬ x ≤ nI 240) => ?_)
    · have hb240 : btw x (nI 1) (nI 240) = true := by simp [btw, i32_nlt.mp hz2, hz9]
      obtain ⟨n, hn1, hn2, rfl⟩ := btw_nat hb240 (by decide) (by decide)
      have en9 : ix (nI n) = n := ix_nI (by omega)
      refine V.iconst (v := nI 0) X dX5_pass_23 rfl ?_
      refine V.istore_n (L' := [(2, .int (nI 0)), (0, .ref (ad 0)), (1, .int (nI n))]) X dX5_pass_24 rfl hB9 (by decide) rfl ?_
      refine V.iconst (v := nI 0) X dX5_pass_25 rfl ?_
      refine V.istore_n (L' := [(3, .int (nI 0)), (2, .int (nI 0)), (0, .ref (ad 0)), (1, .int (nI n))]) X dX5_pass_26 rfl hB9 (by decide) rfl ?_
      have loop27 : ∀ (d9 : Nat) (i : Nat), (n - i) < d9 → (i ≤ n) → V l D M 0 0 (wC ad cy (pmXI (sN S 62 (fun _ => 0)) i) ++ F) [(3, .int (nI i)), (2, .int (nI (pmXT (sN S 62 (fun _ => 0)) i))), (0, .ref (ad 0)), (1, .int (nI n))] 27 [] := by
        intro d9
        induction d9 with
        | zero => intro i h9; exact absurd h9 (Nat.not_lt_zero _)
        | succ d9 ih27 =>
          intro i hd9 hi
          obtain ⟨hIi, hPi, hCi⟩ := pmXI_ok hI0 hR.1 hR.2 i (by omega)
          have hCi : rN (pmXI (sN S 62 (fun _ => 0)) i) 40 0 = rN S 40 0 + i := hCi
          have hR2 : rN S 40 0 + 240 ≤ 122880 := hR.2
          have hR1 : Phi S + 3 ≤ 1536 := hR.1
          have hPi2 : Phi (pmXI (sN S 62 (fun _ => 0)) i) ≤ Phi S := hPi
          have hxt := pmXT_le hI0 hR.1 hR.2 i (by omega)
          refine V.iload_n X dX5_pass_27 rfl ?_
          refine V.iload_n X dX5_pass_28 rfl ?_
          refine V.icmp_ge (tgt := 45) X dX5_pass_29 (by decide) (cN_le (by omega) (by omega)) (cN_nle (by omega) (by omega)) (fun (hz29 : n ≤ i) => ?_) (fun (hz29 : i < n) => ?_)
          · refine V.iload_n X dX5_pass_45 rfl ?_
            exact V.iret (v := nI (pmXT (sN S 62 (fun _ => 0)) i)) X hE rfl rfl (Nat.le_of_ble_eq_true rfl) (Nat.le_of_ble_eq_true rfl) ⟨(by simp [kPS, hb240, en9, hz29, (Nat.not_lt.mpr hz29)]), (congrArg (fun z => some (Value.int z)) (by rw [en9, show i = n by omega])), (by rw [en9, show i = n by omega])⟩ dX5_pass_46
          · refine V.iload_n X dX5_pass_32 rfl ?_
            refine V.aload_n X dX5_pass_33 rfl ?_
            refine V.callV1 [] X (c_X5_passMinute l D cy ad (pmXI (sN S 62 (fun _ => 0)) i) F hIi.w (by rw [hCi]; omega) hIi.w120 (Phi.e1 (by omega)) hIi.on) mv_X5_passMinute gw_3_215 ⟨⟨(Nat.le_of_ble_eq_true rfl), (Nat.le_of_ble_eq_true rfl)⟩, (Nat.le_of_ble_eq_true rfl), (Nat.le_of_ble_eq_true rfl)⟩ (q0 := 0) (ci := 7) rfl rfl rfl (Nat.le_of_ble_eq_true rfl) dX5_pass_34 ?_
            refine V.eqs (Wd' := wC ad cy (pmXI (sN S 62 (fun _ => 0)) (i + 1)) ++ F) rfl rfl ?_
            refine V.iadd (v := nI (pmXT (sN S 62 (fun _ => 0)) i + (pmN (pmXI (sN S 62 (fun _ => 0)) i)))) X dX5_pass_37 (nI_add _ _) ?_
            refine V.istore_n (L' := [(2, .int (nI (pmXT (sN S 62 (fun _ => 0)) i + (pmN (pmXI (sN S 62 (fun _ => 0)) i))))), (3, .int (nI i)), (0, .ref (ad 0)), (1, .int (nI n))]) X dX5_pass_38 rfl hB9 (by decide) rfl ?_
            refine V.iinc (v := nI (i + 1)) (L' := [(3, .int (nI (i + 1))), (2, .int (nI (pmXT (sN S 62 (fun _ => 0)) i + (pmN (pmXI (sN S 62 (fun _ => 0)) i))))), (0, .ref (ad 0)), (1, .int (nI n))]) X dX5_pass_39 rfl (nI_inc _) hB9 (by decide) rfl ?_
            refine V.goto (tgt := 27) X dX5_pass_42 (by decide) ?_
            exact V.eqs rfl rfl (ih27 (i + 1) (by omega) (by omega))
      exact V.eqs rfl rfl (loop27 _ 0 (Nat.lt_succ_self _) (Nat.zero_le _))
    · have hb240 : btw x (nI 1) (nI 240) = false := by simp [btw, hz9]
      exact V.thIAE X hE hN gS_269 (.inr ⟨rfl, rfl⟩) dX5_pass_12 dX5_pass_15 dX5_pass_16 dX5_pass_19 dX5_pass_22 (Nat.le_of_ble_eq_true rfl) (Nat.le_of_ble_eq_true rfl) (Nat.le_of_ble_eq_true rfl) (Nat.le_of_ble_eq_true rfl) ⟨0, (by simp [kPS, hb240]), rfl, rfl⟩
set_option maxRecDepth 20000 in
set_option maxHeartbeats 4000000 in
theorem c_X6_pass (l : Launch) (D : va_G) (cy : Nat → ClassId) (am : Nat → Nat) (S : St) (F : va_W) (x : Int32) (hI : Inv S) (hR : Rm S) : Ctr l D cy yX6_pass (.code yX6_pass cX6_pass 4 (some FieldType.int)) ({ frames := 12, cells := 0, slots := 0, locals := 400 } : Room) [.ref (am 0), .int x] (wM am cy S ++ F) (pMx (kPS x) (nI (pmXT (sN S 62 (fun _ => 0)) (ix x))) (fun k9 => wM am cy (sN (bif Nat.beq k9 0 then (pmXI (sN S 62 (fun _ => 0)) (ix x)) else S) 62 (fun _ => k9)) ++ F)) pNo := by
  refine Ctr.of (by decide) (Nat.le_of_ble_eq_true rfl) ?_
  intro M X hE hN hB9 hI9
  replace X : VX l D M cy cX6_pass "RunbookerModel" (some FieldType.int) ({ frames := 12, cells := 0, slots := 0, locals := 400 } : Room) := X
  show V l D M 0 0 (wM am cy S ++ F) [(0, .ref (am 0)), (1, .int x)] 0 []
  have hW := hI.w
  have hB := hW.b
  have h43 := hW.n43
  have h44 := hW.n44
  have h46 := hW.n46
  have h45 := hW.n45
  have hcl := hW.cl
  have hen := hW.en
  have hW0 : Wk (sN S 62 (fun _ => 0)) := hW.s62 (fun _ => by decide)
  have hcr : cntR S ≤ rN S 44 0 := cnt9_le _ _
  have hI0 : Inv (sN S 62 (fun _ => 0)) := hI.s62 (fun _ => by decide)
  have he3 := Rm.en hR
  refine V.aload_n X dX6_pass_0 rfl ?_
  refine V.iconst (v := nI 0) X dX6_pass_1 rfl ?_
  refine wM_pX6_97 (v := 0) X dX6_pass_2 ?_
  refine V.iload_n X dX6_pass_5 rfl ?_
  refine V.iconst (v := nI 1) X dX6_pass_6 rfl ?_
  refine V.sipush (v := nI 240) X dX6_pass_7 (by decide) ?_
  refine V.callS1 [.int x, .int (nI 1), .int (nI 240)] X (c_X6_isBetween l D cy am (sN S 62 (fun _ => 0)) F x (nI 1) (nI 240)) ms_X6_isBetween gw_6_129 ⟨⟨(Nat.le_of_ble_eq_true rfl), (Nat.le_of_ble_eq_true rfl)⟩, (Nat.le_of_ble_eq_true rfl), (Nat.le_of_ble_eq_true rfl)⟩ rfl (Nat.le_of_ble_eq_true rfl) dX6_pass_10 ?_
  refine V.if_ne (tgt := 22) X dX6_pass_13 (by decide) b2i_n0 b2i_0 (fun (hz13 : btw x (nI 1) (nI 240) = true) => ?_) (fun (hz13 : btw x (nI 1) (nI 240) = false) => ?_)
  · obtain ⟨n, hn1, hn2, rfl⟩ := btw_nat hz13 (by decide) (by decide)
    have en : ix (nI n) = n := ix_nI (by omega)
    refine V.iconst (v := nI 0) X dX6_pass_22 rfl ?_
    refine V.istore_n (L' := [(2, .int (nI 0)), (0, .ref (am 0)), (1, .int (nI n))]) X dX6_pass_23 rfl hB9 (by decide) rfl ?_
    refine V.iconst (v := nI 0) X dX6_pass_24 rfl ?_
    refine V.istore_n (L' := [(3, .int (nI 0)), (2, .int (nI 0)), (0, .ref (am 0)), (1, .int (nI n))]) X dX6_pass_25 rfl hB9 (by decide) rfl ?_
    have loop26 : ∀ (d9 : Nat) (i : Nat), (n - i) < d9 → (i ≤ n) → V l D M 0 0 (wM am cy (pmXI (sN S 62 (fun _ => 0)) i) ++ F) [(3, .int (nI i)), (2, .int (nI (pmXT (sN S 62 (fun _ => 0)) i))), (0, .ref (am 0)), (1, .int (nI n))] 26 [] := by
      intro d9
      induction d9 with
      | zero => intro i h9; exact absurd h9 (Nat.not_lt_zero _)
      | succ d9 ih26 =>
        intro i hd9 hi
        obtain ⟨hIi, hPi, hCi⟩ := pmXI_ok hI0 hR.1 hR.2 i (by omega)
        have hCi : rN (pmXI (sN S 62 (fun _ => 0)) i) 40 0 = rN S 40 0 + i := hCi
        have hR2 : rN S 40 0 + 240 ≤ 122880 := hR.2
        have hR1 : Phi S + 3 ≤ 1536 := hR.1
        have hPi2 : Phi (pmXI (sN S 62 (fun _ => 0)) i) ≤ Phi S := hPi
        have hxt := pmXT_le hI0 hR.1 hR.2 i (by omega)
        refine V.iload_n X dX6_pass_26 rfl ?_
        refine V.iload_n X dX6_pass_27 rfl ?_
        refine V.icmp_ge (tgt := 44) X dX6_pass_28 (by decide) (cN_le (by omega) (by omega)) (cN_nle (by omega) (by omega)) (fun (hz28 : n ≤ i) => ?_) (fun (hz28 : i < n) => ?_)
        · refine V.iload_n X dX6_pass_44 rfl ?_
          exact V.iret (v := nI (pmXT (sN S 62 (fun _ => 0)) i)) X hE rfl rfl (Nat.le_of_ble_eq_true rfl) (Nat.le_of_ble_eq_true rfl) (pM9 (j := 0) (by simp [kPS, hz13, en, hz28, (Nat.not_lt.mpr hz28)]) (fun h9 => (by rw [en, show i = n by omega])) (by rw [show i = n by omega, en]; exact congrArg (· ++ F) (wM_62 am cy (T := pmXI (sN S 62 (fun _ => 0)) n) (pmXI_62 _ _)))) dX6_pass_45
        · refine V.iload_n X dX6_pass_31 rfl ?_
          refine V.aload_n X dX6_pass_32 rfl ?_
          refine V.callV1 [] X (c_X6_minute l D cy am (pmXI (sN S 62 (fun _ => 0)) i) F hIi.w (by rw [hCi]; omega) (minute_ok hIi (by omega) (by omega)).2.2.2.2.2 hIi.on) mv_X6_minute gw_7_21 ⟨⟨(Nat.le_of_ble_eq_true rfl), (Nat.le_of_ble_eq_true rfl)⟩, (Nat.le_of_ble_eq_true rfl), (Nat.le_of_ble_eq_true rfl)⟩ (q0 := 0) (ci := 8) rfl rfl rfl (Nat.le_of_ble_eq_true rfl) dX6_pass_33 ?_
          obtain ⟨-, hcor, hmn, -, -, -⟩ := minute_ok hIi (by omega) (by omega)
          refine V.eqs (Wd' := wM am cy (pmXI (sN S 62 (fun _ => 0)) (i + 1)) ++ F) (by rw [wM_cor hcor]; rfl) rfl ?_
          refine V.top (congrArg nI hmn) ?_
          refine V.iadd (v := nI (pmXT (sN S 62 (fun _ => 0)) i + (pmN (pmXI (sN S 62 (fun _ => 0)) i)))) X dX6_pass_36 (nI_add _ _) ?_
          refine V.istore_n (L' := [(2, .int (nI (pmXT (sN S 62 (fun _ => 0)) i + (pmN (pmXI (sN S 62 (fun _ => 0)) i))))), (3, .int (nI i)), (0, .ref (am 0)), (1, .int (nI n))]) X dX6_pass_37 rfl hB9 (by decide) rfl ?_
          refine V.iinc (v := nI (i + 1)) (L' := [(3, .int (nI (i + 1))), (2, .int (nI (pmXT (sN S 62 (fun _ => 0)) i + (pmN (pmXI (sN S 62 (fun _ => 0)) i))))), (0, .ref (am 0)), (1, .int (nI n))]) X dX6_pass_38 rfl (nI_inc _) hB9 (by decide) rfl ?_
          refine V.goto (tgt := 26) X dX6_pass_41 (by decide) ?_
          exact V.eqs rfl rfl (ih26 (i + 1) (by omega) (by omega))
    exact V.eqs rfl rfl (loop26 _ 0 (Nat.lt_succ_self _) (Nat.zero_le _))
  · refine V.aload_n X dX6_pass_16 rfl ?_
    refine V.iconst (v := nI 1) X dX6_pass_17 rfl ?_
    refine V.callV1 [.int (nI 1)] X (c_X6_fails l D cy am (sN S 62 (fun _ => 0)) F 1) mv_X6_fails gw_6_132 ⟨⟨(Nat.le_of_ble_eq_true rfl), (Nat.le_of_ble_eq_true rfl)⟩, (Nat.le_of_ble_eq_true rfl), (Nat.le_of_ble_eq_true rfl)⟩ (q0 := 0) (ci := 8) rfl rfl rfl (Nat.le_of_ble_eq_true rfl) dX6_pass_18 ?_
    exact V.iret (v := nI 0) X hE rfl rfl (Nat.le_of_ble_eq_true rfl) (Nat.le_of_ble_eq_true rfl) (pM9 (j := 1) (by simp [kPS, hz13]) (fun h => absurd h (by decide)) rfl) dX6_pass_21
set_option maxRecDepth 20000 in
set_option maxHeartbeats 4000000 in
theorem c_X6_stateOf (l : Launch) (D : va_G) (cy : Nat → ClassId) (am : Nat → Nat) (S : St) (F : va_W) (x : Int32) (hI : Inv S) : Ctr l D cy yX6_stateOf (.code yX6_stateOf cX6_stateOf 2 (some FieldType.char)) ({ frames := 4, cells := 0, slots := 0, locals := 160 } : Room) [.ref (am 0), .int x] (wM am cy S ++ F) (pI (c2i (soM S x)) (wM am cy (sN S 62 (fun _ => kSR2 S x)) ++ F)) pNo := by
  refine Ctr.of (by decide) (Nat.le_of_ble_eq_true rfl) ?_
  intro M X hE hN hB9 hI9
  replace X : VX l D M cy cX6_stateOf "RunbookerModel" (some FieldType.char) ({ frames := 4, cells := 0, slots := 0, locals := 160 } : Room) := X
  show V l D M 0 0 (wM am cy S ++ F) [(0, .ref (am 0)), (1, .int x)] 0 []
  have hW := hI.w
  have hB := hW.b
  have h43 := hW.n43
  have h44 := hW.n44
  have h46 := hW.n46
  have h45 := hW.n45
  have hcl := hW.cl
  have hen := hW.en
  have hW0 : Wk (sN S 62 (fun _ => 0)) := hW.s62 (fun _ => by decide)
  have hcr : cntR S ≤ rN S 44 0 := cnt9_le _ _
  refine V.aload_n X dX6_stateOf_0 rfl ?_
  refine V.iload_n X dX6_stateOf_1 rfl ?_
  refine V.callV1 [.int x] X (c_X6_isUnknown l D cy am S F x hB) mv_X6_isUnknown gw_7_73 ⟨⟨(Nat.le_of_ble_eq_true rfl), (Nat.le_of_ble_eq_true rfl)⟩, (Nat.le_of_ble_eq_true rfl), (Nat.le_of_ble_eq_true rfl)⟩ (q0 := 0) (ci := 8) rfl rfl rfl (Nat.le_of_ble_eq_true rfl) dX6_stateOf_2 ?_
  refine V.if_eq (tgt := 12) X dX6_stateOf_5 (by decide) b2i_0 b2i_n0 (fun (hz5 : decide (0 < kUK S x) = false) => ?_) (fun (hz5 : decide (0 < kUK S x) = true) => ?_)
  · have hk0 : kUK S x = 0 := by have := of_decide_eq_false hz5; omega
    rw [hI.uk] at hk0
    have hin := kSR2_0 hk0
    obtain ⟨p, hp, rfl⟩ := inR_of hin (by omega)
    have ep : ix (nI p) = p := ix_nI (by omega)
    have e64 : rC S 64 p = rC S 22 p := hI.eq p hp
    refine V.aload_n X dX6_stateOf_12 rfl ?_
    refine wM_gX6_60 X dX6_stateOf_13 ?_
    refine V.iload_n X dX6_stateOf_16 rfl ?_
    refine wM_ld17 (i := p) X (by omega) dX6_stateOf_17 ?_
    refine V.top (congrArg c2i e64) ?_
    exact V.iret (v := c2i (rC S 22 p)) X hE rfl (nar_c _) (Nat.le_of_ble_eq_true rfl) (Nat.le_of_ble_eq_true rfl) (pC9 (by unfold soM; rw [if_pos hk0, ep]) (by rw [hI.uk])) dX6_stateOf_18
  · refine V.iconst (v := nI 0) X dX6_stateOf_8 rfl ?_
    refine V.goto (tgt := 18) X dX6_stateOf_9 (by decide) ?_
    exact V.iret (v := c2i 0) X hE rfl (nar_c _) (Nat.le_of_ble_eq_true rfl) (Nat.le_of_ble_eq_true rfl) (pC9 (by unfold soM; rw [if_neg (by rw [← hI.uk]; have := of_decide_eq_true hz5; omega)]) (by rw [hI.uk])) dX6_stateOf_18
set_option maxRecDepth 20000 in
set_option maxHeartbeats 4000000 in
theorem c_X6_triesOf (l : Launch) (D : va_G) (cy : Nat → ClassId) (am : Nat → Nat) (S : St) (F : va_W) (x : Int32) (hI : Inv S) : Ctr l D cy yX6_triesOf (.code yX6_triesOf cX6_triesOf 2 (some FieldType.int)) ({ frames := 4, cells := 0, slots := 0, locals := 160 } : Room) [.ref (am 0), .int x] (wM am cy S ++ F) (pI (nI (toM S x)) (wM am cy (sN S 62 (fun _ => kSR2 S x)) ++ F)) pNo := by
  refine Ctr.of (by decide) (Nat.le_of_ble_eq_true rfl) ?_
  intro M X hE hN hB9 hI9
  replace X : VX l D M cy cX6_triesOf "RunbookerModel" (some FieldType.int) ({ frames := 4, cells := 0, slots := 0, locals := 160 } : Room) := X
  show V l D M 0 0 (wM am cy S ++ F) [(0, .ref (am 0)), (1, .int x)] 0 []
  have hW := hI.w
  have hB := hW.b
  have h43 := hW.n43
  have h44 := hW.n44
  have h46 := hW.n46
  have h45 := hW.n45
  have hcl := hW.cl
  have hen := hW.en
  have hW0 : Wk (sN S 62 (fun _ => 0)) := hW.s62 (fun _ => by decide)
  have hcr : cntR S ≤ rN S 44 0 := cnt9_le _ _
  refine V.aload_n X dX6_triesOf_0 rfl ?_
  refine V.iload_n X dX6_triesOf_1 rfl ?_
  refine V.callV1 [.int x] X (c_X6_isUnknown l D cy am S F x hB) mv_X6_isUnknown gw_7_73 ⟨⟨(Nat.le_of_ble_eq_true rfl), (Nat.le_of_ble_eq_true rfl)⟩, (Nat.le_of_ble_eq_true rfl), (Nat.le_of_ble_eq_true rfl)⟩ (q0 := 0) (ci := 8) rfl rfl rfl (Nat.le_of_ble_eq_true rfl) dX6_triesOf_2 ?_
  refine V.if_eq (tgt := 12) X dX6_triesOf_5 (by decide) b2i_0 b2i_n0 (fun (hz5 : decide (0 < kUK S x) = false) => ?_) (fun (hz5 : decide (0 < kUK S x) = true) => ?_)
  · have hk0 : kUK S x = 0 := by have := of_decide_eq_false hz5; omega
    rw [hI.uk] at hk0
    have hin := kSR2_0 hk0
    obtain ⟨p, hp, rfl⟩ := inR_of hin (by omega)
    have ep : ix (nI p) = p := ix_nI (by omega)
    have e64 : rC S 64 p = rC S 22 p := hI.eq p hp
    refine V.aload_n X dX6_triesOf_12 rfl ?_
    refine wM_gX6_63 X dX6_triesOf_13 ?_
    refine V.iload_n X dX6_triesOf_16 rfl ?_
    refine wM_ld18 (i := p) X (by omega) dX6_triesOf_17 ?_
    exact V.iret (v := nI (rN S 25 p)) X hE rfl rfl (Nat.le_of_ble_eq_true rfl) (Nat.le_of_ble_eq_true rfl) (pN9 (by unfold toM; rw [if_pos hk0, ep]) (by rw [hI.uk])) dX6_triesOf_18
  · refine V.iconst (v := nI 0) X dX6_triesOf_8 rfl ?_
    refine V.goto (tgt := 18) X dX6_triesOf_9 (by decide) ?_
    exact V.iret (v := nI 0) X hE rfl rfl (Nat.le_of_ble_eq_true rfl) (Nat.le_of_ble_eq_true rfl) (pN9 (by unfold toM; rw [if_neg (by rw [← hI.uk]; have := of_decide_eq_true hz5; omega)]) (by rw [hI.uk])) dX6_triesOf_18
set_option maxRecDepth 20000 in
set_option maxHeartbeats 4000000 in
theorem c_X6_stateByLog (l : Launch) (D : va_G) (cy : Nat → ClassId) (am : Nat → Nat) (S : St) (F : va_W) (x : Int32) (hI : Inv S) : Ctr l D cy yX6_stateByLog (.code yX6_stateByLog cX6_stateByLog 2 (some FieldType.char)) ({ frames := 6, cells := 0, slots := 0, locals := 240 } : Room) [.ref (am 0), .int x] (wM am cy S ++ F) (pI (c2i (soM S x)) (wM am cy (sN S 62 (fun _ => kSR2 S x)) ++ F)) pNo := by
  refine Ctr.of (by decide) (Nat.le_of_ble_eq_true rfl) ?_
  intro M X hE hN hB9 hI9
  replace X : VX l D M cy cX6_stateByLog "RunbookerModel" (some FieldType.char) ({ frames := 6, cells := 0, slots := 0, locals := 240 } : Room) := X
  show V l D M 0 0 (wM am cy S ++ F) [(0, .ref (am 0)), (1, .int x)] 0 []
  have hW := hI.w
  have hB := hW.b
  have h43 := hW.n43
  have h44 := hW.n44
  have h46 := hW.n46
  have h45 := hW.n45
  have hcl := hW.cl
  have hen := hW.en
  have hW0 : Wk (sN S 62 (fun _ => 0)) := hW.s62 (fun _ => by decide)
  have hcr : cntR S ≤ rN S 44 0 := cnt9_le _ _
  refine V.aload_n X dX6_stateByLog_0 rfl ?_
  refine V.iload_n X dX6_stateByLog_1 rfl ?_
  refine V.callV1 [.int x] X (c_X6_stateOf l D cy am S F x hI) mv_X6_stateOf gw_7_175 ⟨⟨(Nat.le_of_ble_eq_true rfl), (Nat.le_of_ble_eq_true rfl)⟩, (Nat.le_of_ble_eq_true rfl), (Nat.le_of_ble_eq_true rfl)⟩ (q0 := 0) (ci := 8) rfl rfl rfl (Nat.le_of_ble_eq_true rfl) dX6_stateByLog_2 ?_
  exact V.iret (v := c2i (soM S x)) X hE rfl (nar_c _) (Nat.le_of_ble_eq_true rfl) (Nat.le_of_ble_eq_true rfl) (pC9 rfl rfl) dX6_stateByLog_5
set_option maxRecDepth 20000 in
set_option maxHeartbeats 4000000 in
theorem c_X6_triesByLog (l : Launch) (D : va_G) (cy : Nat → ClassId) (am : Nat → Nat) (S : St) (F : va_W) (x : Int32) (hI : Inv S) : Ctr l D cy yX6_triesByLog (.code yX6_triesByLog cX6_triesByLog 2 (some FieldType.int)) ({ frames := 6, cells := 0, slots := 0, locals := 240 } : Room) [.ref (am 0), .int x] (wM am cy S ++ F) (pI (nI (toM S x)) (wM am cy (sN S 62 (fun _ => kSR2 S x)) ++ F)) pNo := by
  refine Ctr.of (by decide) (Nat.le_of_ble_eq_true rfl) ?_
  intro M X hE hN hB9 hI9
  replace X : VX l D M cy cX6_triesByLog "RunbookerModel" (some FieldType.int) ({ frames := 6, cells := 0, slots := 0, locals := 240 } : Room) := X
  show V l D M 0 0 (wM am cy S ++ F) [(0, .ref (am 0)), (1, .int x)] 0 []
  have hW := hI.w
  have hB := hW.b
  have h43 := hW.n43
  have h44 := hW.n44
  have h46 := hW.n46
  have h45 := hW.n45
  have hcl := hW.cl
  have hen := hW.en
  have hW0 : Wk (sN S 62 (fun _ => 0)) := hW.s62 (fun _ => by decide)
  have hcr : cntR S ≤ rN S 44 0 := cnt9_le _ _
  refine V.aload_n X dX6_triesByLog_0 rfl ?_
  refine V.iload_n X dX6_triesByLog_1 rfl ?_
  refine V.callV1 [.int x] X (c_X6_triesOf l D cy am S F x hI) mv_X6_triesOf gw_7_180 ⟨⟨(Nat.le_of_ble_eq_true rfl), (Nat.le_of_ble_eq_true rfl)⟩, (Nat.le_of_ble_eq_true rfl), (Nat.le_of_ble_eq_true rfl)⟩ (q0 := 0) (ci := 8) rfl rfl rfl (Nat.le_of_ble_eq_true rfl) dX6_triesByLog_2 ?_
  exact V.iret (v := nI (toM S x)) X hE rfl rfl (Nat.le_of_ble_eq_true rfl) (Nat.le_of_ble_eq_true rfl) (pN9 rfl rfl) dX6_triesByLog_5
set_option maxRecDepth 20000 in
set_option maxHeartbeats 4000000 in
theorem c_X6_restOf (l : Launch) (D : va_G) (cy : Nat → ClassId) (am : Nat → Nat) (S : St) (F : va_W) (x : Int32) (hI : Inv S) : Ctr l D cy yX6_restOf (.code yX6_restOf cX6_restOf 2 (some FieldType.int)) ({ frames := 6, cells := 0, slots := 0, locals := 240 } : Room) [.ref (am 0), .int x] (wM am cy S ++ F) (pI (nI (roM S x)) (wM am cy (sN (sN S 62 (fun _ => kS1 S x)) 63 (low9 (rst S) (rN S 63) (rN S 44 0))) ++ F)) pNo := by
  refine Ctr.of (by decide) (Nat.le_of_ble_eq_true rfl) ?_
  intro M X hE hN hB9 hI9
  replace X : VX l D M cy cX6_restOf "RunbookerModel" (some FieldType.int) ({ frames := 6, cells := 0, slots := 0, locals := 240 } : Room) := X
  show V l D M 0 0 (wM am cy S ++ F) [(0, .ref (am 0)), (1, .int x)] 0 []
  have hW := hI.w
  have hB := hW.b
  have h43 := hW.n43
  have h44 := hW.n44
  have h46 := hW.n46
  have h45 := hW.n45
  have hcl := hW.cl
  have hen := hW.en
  have hW0 : Wk (sN S 62 (fun _ => 0)) := hW.s62 (fun _ => by decide)
  have hcr : cntR S ≤ rN S 44 0 := cnt9_le _ _
  refine V.aload_n X dX6_restOf_0 rfl ?_
  refine V.iconst (v := nI 0) X dX6_restOf_1 rfl ?_
  refine wM_pX6_97 (v := 0) X dX6_restOf_2 ?_
  refine V.aload_n X dX6_restOf_5 rfl ?_
  refine V.callV0 [] X (c_X6_sweeps l D cy am (sN S 62 (fun _ => 0)) F (hW0.b) (show (rN S 44 0) ≤ 16 by omega) (hW0.len)) mv_X6_sweeps gw_7_101 ⟨⟨(Nat.le_of_ble_eq_true rfl), (Nat.le_of_ble_eq_true rfl)⟩, (Nat.le_of_ble_eq_true rfl), (Nat.le_of_ble_eq_true rfl)⟩ (q0 := 0) (ci := 8) rfl rfl rfl (Nat.le_of_ble_eq_true rfl) dX6_restOf_6 ?_
  refine V.aload_n X dX6_restOf_9 rfl ?_
  refine V.iload_n X dX6_restOf_10 rfl ?_
  refine V.callV1 [.int x] X (c_X6_isStep l D cy am (sN (sN S 62 (fun _ => 0)) 63 (low9 (rst (sN S 62 (fun _ => 0))) (rN S 63) (rN S 44 0))) F x (hW0.b.sN 63 (low9_lt (fun j => Nat.lt_of_le_of_lt (rst_le hW.len j) (by decide)) (hB.1 63)))) mv_X6_isStep gw_6_160 ⟨⟨(Nat.le_of_ble_eq_true rfl), (Nat.le_of_ble_eq_true rfl)⟩, (Nat.le_of_ble_eq_true rfl), (Nat.le_of_ble_eq_true rfl)⟩ (q0 := 0) (ci := 8) rfl rfl rfl (Nat.le_of_ble_eq_true rfl) dX6_restOf_11 ?_
  refine V.if_eq (tgt := 26) X dX6_restOf_14 (by decide) b2i_0 b2i_n0 (fun (hz14 : inR x (rN S 44 0) = false) => ?_) (fun (hz14 : inR x (rN S 44 0) = true) => ?_)
  · refine V.aload_n X dX6_restOf_26 rfl ?_
    refine V.iconst (v := nI 1) X dX6_restOf_27 rfl ?_
    refine V.callV1 [.int (nI 1)] X (c_X6_fails l D cy am (sN (sN S 62 (fun _ => 0)) 63 (low9 (rst (sN S 62 (fun _ => 0))) (rN S 63) (rN S 44 0))) F 1) mv_X6_fails gw_6_132 ⟨⟨(Nat.le_of_ble_eq_true rfl), (Nat.le_of_ble_eq_true rfl)⟩, (Nat.le_of_ble_eq_true rfl), (Nat.le_of_ble_eq_true rfl)⟩ (q0 := 0) (ci := 8) rfl rfl rfl (Nat.le_of_ble_eq_true rfl) dX6_restOf_28 ?_
    exact V.iret (v := nI 0) X hE rfl rfl (Nat.le_of_ble_eq_true rfl) (Nat.le_of_ble_eq_true rfl) (pN9 (by unfold roM; rw [if_neg (show ¬ kS1 S x = 0 by simp [kS1, ins9, hz14])]) (by rw [show kS1 S x = 1 by simp [kS1, ins9, hz14]]; rfl)) dX6_restOf_31
  · obtain ⟨p, hp, rfl⟩ := inR_of hz14 (by omega)
    have ep : ix (nI p) = p := ix_nI (by omega)
    refine V.aload_n X dX6_restOf_17 rfl ?_
    refine wM_gX6_94 X dX6_restOf_18 ?_
    refine V.iload_n X dX6_restOf_21 rfl ?_
    refine wM_ld26 (i := p) X (by omega) dX6_restOf_22 ?_
    refine V.goto (tgt := 31) X dX6_restOf_23 (by decide) ?_
    exact V.iret (v := nI ((low9 (rst (sN S 62 (fun _ => 0))) (rN S 63) (rN S 44 0)) p)) X hE rfl rfl (Nat.le_of_ble_eq_true rfl) (Nat.le_of_ble_eq_true rfl) (pN9 (by unfold roM; rw [if_pos (show kS1 S (nI p) = 0 by simp [kS1, ins9, hz14]), ep, low9_in (by omega)]; rfl) (by rw [show kS1 S (nI p) = 0 by simp [kS1, ins9, hz14]]; rfl)) dX6_restOf_31
set_option maxRecDepth 20000 in
set_option maxHeartbeats 4000000 in
theorem c_X6_restBySweep (l : Launch) (D : va_G) (cy : Nat → ClassId) (am : Nat → Nat) (S : St) (F : va_W) (x : Int32) (hI : Inv S) : Ctr l D cy yX6_restBySweep (.code yX6_restBySweep cX6_restBySweep 2 (some FieldType.int)) ({ frames := 8, cells := 0, slots := 0, locals := 320 } : Room) [.ref (am 0), .int x] (wM am cy S ++ F) (pI (nI (roM S x)) (wM am cy (sN (sN S 62 (fun _ => kS1 S x)) 63 (low9 (rst S) (rN S 63) (rN S 44 0))) ++ F)) pNo := by
  refine Ctr.of (by decide) (Nat.le_of_ble_eq_true rfl) ?_
  intro M X hE hN hB9 hI9
  replace X : VX l D M cy cX6_restBySweep "RunbookerModel" (some FieldType.int) ({ frames := 8, cells := 0, slots := 0, locals := 320 } : Room) := X
  show V l D M 0 0 (wM am cy S ++ F) [(0, .ref (am 0)), (1, .int x)] 0 []
  have hW := hI.w
  have hB := hW.b
  have h43 := hW.n43
  have h44 := hW.n44
  have h46 := hW.n46
  have h45 := hW.n45
  have hcl := hW.cl
  have hen := hW.en
  have hW0 : Wk (sN S 62 (fun _ => 0)) := hW.s62 (fun _ => by decide)
  have hcr : cntR S ≤ rN S 44 0 := cnt9_le _ _
  refine V.aload_n X dX6_restBySweep_0 rfl ?_
  refine V.iload_n X dX6_restBySweep_1 rfl ?_
  refine V.callV1 [.int x] X (c_X6_restOf l D cy am S F x hI) mv_X6_restOf gw_7_114 ⟨⟨(Nat.le_of_ble_eq_true rfl), (Nat.le_of_ble_eq_true rfl)⟩, (Nat.le_of_ble_eq_true rfl), (Nat.le_of_ble_eq_true rfl)⟩ (q0 := 0) (ci := 8) rfl rfl rfl (Nat.le_of_ble_eq_true rfl) dX6_restBySweep_2 ?_
  exact V.iret (v := nI (roM S x)) X hE rfl rfl (Nat.le_of_ble_eq_true rfl) (Nat.le_of_ble_eq_true rfl) (pN9 rfl rfl) dX6_restBySweep_5
set_option maxRecDepth 20000 in
set_option maxHeartbeats 4000000 in
theorem c_X6_workedOn (l : Launch) (D : va_G) (cy : Nat → ClassId) (am : Nat → Nat) (S : St) (F : va_W) (x : Int32) (hI : Inv S) : Ctr l D cy yX6_workedOn (.code yX6_workedOn cX6_workedOn 2 (some FieldType.int)) ({ frames := 12, cells := 0, slots := 0, locals := 400 } : Room) [.ref (am 0), .int x] (wM am cy S ++ F) (pMx (kWO S x) (nI (rN S 26 (ix x))) (fun k9 => wM am cy (sN S 62 (fun _ => k9)) ++ F)) pNo := by
  refine Ctr.of (by decide) (Nat.le_of_ble_eq_true rfl) ?_
  intro M X hE hN hB9 hI9
  replace X : VX l D M cy cX6_workedOn "RunbookerModel" (some FieldType.int) ({ frames := 12, cells := 0, slots := 0, locals := 400 } : Room) := X
  show V l D M 0 0 (wM am cy S ++ F) [(0, .ref (am 0)), (1, .int x)] 0 []
  have hW := hI.w
  have hB := hW.b
  have h43 := hW.n43
  have h44 := hW.n44
  have h46 := hW.n46
  have h45 := hW.n45
  have hcl := hW.cl
  have hen := hW.en
  have hW0 : Wk (sN S 62 (fun _ => 0)) := hW.s62 (fun _ => by decide)
  have hcr : cntR S ≤ rN S 44 0 := cnt9_le _ _
  refine V.aload_n X dX6_workedOn_0 rfl ?_
  refine V.iconst (v := nI 0) X dX6_workedOn_1 rfl ?_
  refine wM_pX6_97 (v := 0) X dX6_workedOn_2 ?_
  refine V.aload_n X dX6_workedOn_5 rfl ?_
  refine V.iload_n X dX6_workedOn_6 rfl ?_
  refine V.callV1 [.int x] X (c_X6_isStep l D cy am (sN S 62 (fun _ => 0)) F x (hW0.b)) mv_X6_isStep gw_6_160 ⟨⟨(Nat.le_of_ble_eq_true rfl), (Nat.le_of_ble_eq_true rfl)⟩, (Nat.le_of_ble_eq_true rfl), (Nat.le_of_ble_eq_true rfl)⟩ (q0 := 0) (ci := 8) rfl rfl rfl (Nat.le_of_ble_eq_true rfl) dX6_workedOn_7 ?_
  refine V.if_ne (tgt := 19) X dX6_workedOn_10 (by decide) b2i_n0 b2i_0 (fun (hz10 : inR x (rN S 44 0) = true) => ?_) (fun (hz10 : inR x (rN S 44 0) = false) => ?_)
  · obtain ⟨p, hp, rfl⟩ := inR_of hz10 (by omega)
    have ep : ix (nI p) = p := ix_nI (by omega)
    refine V.aload_n X dX6_workedOn_19 rfl ?_
    refine wM_gX6_60 X dX6_workedOn_20 ?_
    refine V.iload_n X dX6_workedOn_23 rfl ?_
    refine wM_ld17 (i := p) X (by omega) dX6_workedOn_24 ?_
    refine V.bipush (v := nI 97) X dX6_workedOn_25 (by decide) ?_
    refine V.icmp_ne (tgt := 39) X dX6_workedOn_27 (by decide) (cC_ne (a := rC S 64 p) (b := 97)) (cC_eq (a := rC S 64 p) (b := 97)) (fun (hz27 : ¬ rC S 64 p = 97) => ?_) (fun (hz27 : rC S 64 p = 97) => ?_)
    · have h46 := hW.n46
      have h22 : ¬ rC S 22 p = 97 := fun e => by
        by_cases hc : p < rN S 46 0
        · exact hz27 ((hI.eq p hc).trans e)
        · exact hI.o22 p (by omega) e
      refine V.aload_n X dX6_workedOn_39 rfl ?_
      refine V.iconst (v := nI 2) X dX6_workedOn_40 rfl ?_
      refine V.callV1 [.int (nI 2)] X (c_X6_fails l D cy am (sN S 62 (fun _ => 0)) F 2) mv_X6_fails gw_6_132 ⟨⟨(Nat.le_of_ble_eq_true rfl), (Nat.le_of_ble_eq_true rfl)⟩, (Nat.le_of_ble_eq_true rfl), (Nat.le_of_ble_eq_true rfl)⟩ (q0 := 0) (ci := 8) rfl rfl rfl (Nat.le_of_ble_eq_true rfl) dX6_workedOn_41 ?_
      exact V.iret (v := nI 0) X hE rfl rfl (Nat.le_of_ble_eq_true rfl) (Nat.le_of_ble_eq_true rfl) (pM9 (j := 2) (by simp [kWO, ins9, hz10, hp, ep, h22]) (fun h => absurd h (by decide)) rfl) dX6_workedOn_44
    · have h46 := hW.n46
      have hp46 : p < rN S 46 0 := Nat.lt_of_not_le fun hc => hI.o64 p hc hz27
      have h22 : rC S 22 p = 97 := (hI.eq p hp46).symm.trans hz27
      refine V.aload_n X dX6_workedOn_30 rfl ?_
      refine wM_gX6_69 X dX6_workedOn_31 ?_
      refine V.iload_n X dX6_workedOn_34 rfl ?_
      refine wM_ld20 (i := p) X (by omega) dX6_workedOn_35 ?_
      refine V.goto (tgt := 44) X dX6_workedOn_36 (by decide) ?_
      exact V.iret (v := nI (rN S 26 p)) X hE rfl rfl (Nat.le_of_ble_eq_true rfl) (Nat.le_of_ble_eq_true rfl) (pM9 (j := 0) (by simp [kWO, ins9, hz10, hp, ep, h22]) (fun h9 => (by first | rfl | (simp only [ep]; done) | simp [hz10, hp, ep, h22])) (by first | (simp only [ep]; done) | (simp only [ep]; rfl) | rfl)) dX6_workedOn_44
  · refine V.aload_n X dX6_workedOn_13 rfl ?_
    refine V.iconst (v := nI 1) X dX6_workedOn_14 rfl ?_
    refine V.callV1 [.int (nI 1)] X (c_X6_fails l D cy am (sN S 62 (fun _ => 0)) F 1) mv_X6_fails gw_6_132 ⟨⟨(Nat.le_of_ble_eq_true rfl), (Nat.le_of_ble_eq_true rfl)⟩, (Nat.le_of_ble_eq_true rfl), (Nat.le_of_ble_eq_true rfl)⟩ (q0 := 0) (ci := 8) rfl rfl rfl (Nat.le_of_ble_eq_true rfl) dX6_workedOn_15 ?_
    exact V.iret (v := nI 0) X hE rfl rfl (Nat.le_of_ble_eq_true rfl) (Nat.le_of_ble_eq_true rfl) (pM9 (j := 1) (by simp [kWO, ins9, hz10]) (fun h => absurd h (by decide)) rfl) dX6_workedOn_18
set_option maxRecDepth 20000 in
set_option maxHeartbeats 4000000 in
theorem c_X6_nextStep (l : Launch) (D : va_G) (cy : Nat → ClassId) (am : Nat → Nat) (S : St) (F : va_W) (x : Int32) (hI : Inv S) : Ctr l D cy yX6_nextStep (.code yX6_nextStep cX6_nextStep 4 (some FieldType.int)) ({ frames := 12, cells := 0, slots := 0, locals := 400 } : Room) [.ref (am 0), .int x] (wM am cy S ++ F) (pMx (kNX S x) (o2i (best9 S (ix x) (rN S 44 0))) (fun k9 => wM am cy (sN (bif Nat.beq k9 1 then S else sN S 63 (low9 (rst S) (rN S 63) (rN S 44 0))) 62 (fun _ => k9)) ++ F)) pNo := by
  refine Ctr.of (by decide) (Nat.le_of_ble_eq_true rfl) ?_
  intro M X hE hN hB9 hI9
  replace X : VX l D M cy cX6_nextStep "RunbookerModel" (some FieldType.int) ({ frames := 12, cells := 0, slots := 0, locals := 400 } : Room) := X
  show V l D M 0 0 (wM am cy S ++ F) [(0, .ref (am 0)), (1, .int x)] 0 []
  have hW := hI.w
  have hB := hW.b
  have h43 := hW.n43
  have h44 := hW.n44
  have h46 := hW.n46
  have h45 := hW.n45
  have hcl := hW.cl
  have hen := hW.en
  have hW0 : Wk (sN S 62 (fun _ => 0)) := hW.s62 (fun _ => by decide)
  have hcr : cntR S ≤ rN S 44 0 := cnt9_le _ _
  have hW3 : Wk (sN (sN S 62 (fun _ => 0)) 63 (low9 (rst S) (rN S 63) (rN S 44 0))) := ((hI.s62 (fun _ => by decide)).s63 (low9_lt (fun j => Nat.lt_of_le_of_lt (rst_le hW.len j) (by decide)) (hB.1 63))).w
  refine V.aload_n X dX6_nextStep_0 rfl ?_
  refine V.iconst (v := nI 0) X dX6_nextStep_1 rfl ?_
  refine wM_pX6_97 (v := 0) X dX6_nextStep_2 ?_
  refine V.aload_n X dX6_nextStep_5 rfl ?_
  refine V.iload_n X dX6_nextStep_6 rfl ?_
  refine V.callV1 [.int x] X (c_X6_isPerson l D cy am (sN S 62 (fun _ => 0)) F x (hW0.b)) mv_X6_isPerson gw_6_140 ⟨⟨(Nat.le_of_ble_eq_true rfl), (Nat.le_of_ble_eq_true rfl)⟩, (Nat.le_of_ble_eq_true rfl), (Nat.le_of_ble_eq_true rfl)⟩ (q0 := 0) (ci := 8) rfl rfl rfl (Nat.le_of_ble_eq_true rfl) dX6_nextStep_7 ?_
  refine V.if_ne (tgt := 19) X dX6_nextStep_10 (by decide) b2i_n0 b2i_0 (fun (hz10 : inR x (rN S 43 0) = true) => ?_) (fun (hz10 : inR x (rN S 43 0) = false) => ?_)
  · obtain ⟨p, hp, rfl⟩ := inR_of hz10 (by omega)
    have ep : ix (nI p) = p := ix_nI (by omega)
    refine V.aload_n X dX6_nextStep_19 rfl ?_
    refine V.callV0 [] X (c_X6_sweeps l D cy am (sN S 62 (fun _ => 0)) F (hW0.b) (show (rN S 44 0) ≤ 16 by omega) (hW0.len)) mv_X6_sweeps gw_7_101 ⟨⟨(Nat.le_of_ble_eq_true rfl), (Nat.le_of_ble_eq_true rfl)⟩, (Nat.le_of_ble_eq_true rfl), (Nat.le_of_ble_eq_true rfl)⟩ (q0 := 0) (ci := 8) rfl rfl rfl (Nat.le_of_ble_eq_true rfl) dX6_nextStep_20 ?_
    refine V.iconst (v := o2i none) X dX6_nextStep_23 rfl ?_
    refine V.istore_n (L' := [(2, .int (o2i none)), (0, .ref (am 0)), (1, .int (nI p))]) X dX6_nextStep_24 rfl hB9 (by decide) rfl ?_
    refine V.iconst (v := nI 0) X dX6_nextStep_25 rfl ?_
    refine V.istore_n (L' := [(3, .int (nI 0)), (2, .int (o2i none)), (0, .ref (am 0)), (1, .int (nI p))]) X dX6_nextStep_26 rfl hB9 (by decide) rfl ?_
    have loop27 : ∀ (d9 : Nat) (i : Nat), (rN S 44 0 - i) < d9 → (i ≤ rN S 44 0) → V l D M 0 0 (wM am cy (sN (sN S 62 (fun _ => 0)) 63 (low9 (rst S) (rN S 63) (rN S 44 0))) ++ F) [(3, .int (nI i)), (2, .int (o2i (best9 S p i))), (0, .ref (am 0)), (1, .int (nI p))] 27 [] := by
      intro d9
      induction d9 with
      | zero => intro i h9; exact absurd h9 (Nat.not_lt_zero _)
      | succ d9 ih27 =>
        intro i hd9 hi
        refine V.iload_n X dX6_nextStep_27 rfl ?_
        refine V.aload_n X dX6_nextStep_28 rfl ?_
        refine wM_gX6_107 X dX6_nextStep_29 ?_
        refine V.icmp_ge (tgt := 89) X dX6_nextStep_32 (by decide) (cN_le (hB.n 44 _) (by omega)) (cN_nle (hB.n 44 _) (by omega)) (fun (hz32 : rN S 44 0 ≤ i) => ?_) (fun (hz32 : i < rN S 44 0) => ?_)
        · obtain rfl : i = rN S 44 0 := by omega
          refine V.iload_n X dX6_nextStep_89 rfl ?_
          refine V.iconst (v := o2i none) X dX6_nextStep_90 rfl ?_
          refine V.icmp_ne (tgt := 102) X dX6_nextStep_91 (by decide) (cO_ne (a := best9 S p (rN S 44 0)) (b := none)) (cO_eq (a := best9 S p (rN S 44 0)) (b := none) (fun k e => by have := best9_lt e; omega) lt_none) (fun (hz91 : ¬ best9 S p (rN S 44 0) = none) => ?_) (fun (hz91 : best9 S p (rN S 44 0) = none) => ?_)
          · refine V.iload_n X dX6_nextStep_102 rfl ?_
            exact V.iret (v := o2i (best9 S p (rN S 44 0))) X hE rfl rfl (Nat.le_of_ble_eq_true rfl) (Nat.le_of_ble_eq_true rfl) (pM9 (j := 0) (by simp [kNX, hz10, hp, ep, hz32, (Nat.not_lt.mpr hz32), hz91]) (fun h9 => (by first | rfl | (simp only [ep]; done) | simp [hz10, hp, ep, hz32, (Nat.not_lt.mpr hz32), hz91])) (by first | (simp only [ep]; done) | (simp only [ep]; rfl) | rfl)) dX6_nextStep_103
          · refine V.aload_n X dX6_nextStep_94 rfl ?_
            refine V.iconst (v := nI 2) X dX6_nextStep_95 rfl ?_
            refine V.callV1 [.int (nI 2)] X (c_X6_fails l D cy am (sN (sN S 62 (fun _ => 0)) 63 (low9 (rst S) (rN S 63) (rN S 44 0))) F 2) mv_X6_fails gw_6_132 ⟨⟨(Nat.le_of_ble_eq_true rfl), (Nat.le_of_ble_eq_true rfl)⟩, (Nat.le_of_ble_eq_true rfl), (Nat.le_of_ble_eq_true rfl)⟩ (q0 := 0) (ci := 8) rfl rfl rfl (Nat.le_of_ble_eq_true rfl) dX6_nextStep_96 ?_
            refine V.goto (tgt := 103) X dX6_nextStep_99 (by decide) ?_
            exact V.iret (v := o2i (some 0)) X hE rfl rfl (Nat.le_of_ble_eq_true rfl) (Nat.le_of_ble_eq_true rfl) (pM9 (j := 2) (by simp [kNX, hz10, hp, ep, hz32, (Nat.not_lt.mpr hz32), hz91]) (fun h => absurd h (by decide)) rfl) dX6_nextStep_103
        · refine V.aload_n X dX6_nextStep_35 rfl ?_
          refine V.iload_n X dX6_nextStep_36 rfl ?_
          refine V.callV1 [.int (nI i)] X (c_X6_isReadyNow l D cy am (sN (sN S 62 (fun _ => 0)) 63 (low9 (rst S) (rN S 63) (rN S 44 0))) F i hW3 (show i < (rN S 44 0) by omega)) mv_X6_isReadyNow gw_6_197 ⟨⟨(Nat.le_of_ble_eq_true rfl), (Nat.le_of_ble_eq_true rfl)⟩, (Nat.le_of_ble_eq_true rfl), (Nat.le_of_ble_eq_true rfl)⟩ (q0 := 0) (ci := 8) rfl rfl rfl (Nat.le_of_ble_eq_true rfl) dX6_nextStep_37 ?_
          refine V.top (congrArg b2i (hI.qrdy (s := i) (by omega))) ?_
          refine V.if_eq (tgt := 83) X dX6_nextStep_40 (by decide) b2i_0 b2i_n0 (fun (hz40 : rdy9 S i = false) => ?_) (fun (hz40 : rdy9 S i = true) => ?_)
          · refine V.iinc (v := nI (i + 1)) (L' := [(3, .int (nI (i + 1))), (2, .int (o2i (best9 S p i))), (0, .ref (am 0)), (1, .int (nI p))]) X dX6_nextStep_83 rfl (nI_inc _) hB9 (by decide) rfl ?_
            refine V.goto (tgt := 27) X dX6_nextStep_86 (by decide) ?_
            exact V.eqs rfl (by rw [best9_f2 (S := S) (.inl hz40)]) (ih27 (i + 1) (by omega) (by omega))
          · refine V.aload_n X dX6_nextStep_43 rfl ?_
            refine wM_gX6_9 X dX6_nextStep_44 ?_
            refine V.iload_n X dX6_nextStep_47 rfl ?_
            refine wM_ld1 (i := p) X (by omega) dX6_nextStep_48 ?_
            refine V.aload_n X dX6_nextStep_49 rfl ?_
            refine wM_gX6_16 X dX6_nextStep_50 ?_
            refine V.iload_n X dX6_nextStep_53 rfl ?_
            refine wM_ld3 (i := i) X (by omega) dX6_nextStep_54 ?_
            refine V.callS1 [.int (rI S 7 p), .int (nI (rN S 10 i))] X (c_X6_has l D cy am (sN (sN S 62 (fun _ => 0)) 63 (low9 (rst S) (rN S 63) (rN S 44 0))) F (rI S 7 p) (nI (rN S 10 i))) ms_X6_has gw_6_164 ⟨⟨(Nat.le_of_ble_eq_true rfl), (Nat.le_of_ble_eq_true rfl)⟩, (Nat.le_of_ble_eq_true rfl), (Nat.le_of_ble_eq_true rfl)⟩ rfl (Nat.le_of_ble_eq_true rfl) dX6_nextStep_55 ?_
            refine V.if_eq (tgt := 83) X dX6_nextStep_58 (by decide) b2i_0 b2i_n0 (fun (hz58 : hasBit (rI S 7 p) (nI (rN S 10 i)) = false) => ?_) (fun (hz58 : hasBit (rI S 7 p) (nI (rN S 10 i)) = true) => ?_)
            · refine V.iinc (v := nI (i + 1)) (L' := [(3, .int (nI (i + 1))), (2, .int (o2i (best9 S p i))), (0, .ref (am 0)), (1, .int (nI p))]) X dX6_nextStep_83 rfl (nI_inc _) hB9 (by decide) rfl ?_
              refine V.goto (tgt := 27) X dX6_nextStep_86 (by decide) ?_
              exact V.eqs rfl (by rw [best9_f2 (S := S) (.inr hz58)]) (ih27 (i + 1) (by omega) (by omega))
            · refine V.iload_n X dX6_nextStep_61 rfl ?_
              refine V.iconst (v := o2i none) X dX6_nextStep_62 rfl ?_
              refine V.icmp_eq (tgt := 81) X dX6_nextStep_63 (by decide) (cO_eq (a := best9 S p i) (b := none) (fun k e => by have := best9_lt e; omega) lt_none) (cO_ne (a := best9 S p i) (b := none)) (fun (hz63 : best9 S p i = none) => ?_) (fun (hz63 : ¬ best9 S p i = none) => ?_)
              · refine V.iload_n X dX6_nextStep_81 rfl ?_
                refine V.istore_n (L' := [(2, .int (nI i)), (3, .int (nI i)), (0, .ref (am 0)), (1, .int (nI p))]) X dX6_nextStep_82 rfl hB9 (by decide) rfl ?_
                refine V.iinc (v := nI (i + 1)) (L' := [(3, .int (nI (i + 1))), (2, .int (nI i)), (0, .ref (am 0)), (1, .int (nI p))]) X dX6_nextStep_83 rfl (nI_inc _) hB9 (by decide) rfl ?_
                refine V.goto (tgt := 27) X dX6_nextStep_86 (by decide) ?_
                exact V.eqs rfl (by rw [best9_t (S := S) (fun b e => by rw [hz63] at e; cases e) hz40 hz58]; rfl) (ih27 (i + 1) (by omega) (by omega))
              · obtain ⟨b, eb⟩ := Option.ne_none_iff_exists'.mp hz63
                have hb9 := best9_lt eb
                have er9 : low9 (rst S) (rN S 63) (rN S 44 0) b = rst S b := low9_in (by omega)
                have ei9 : low9 (rst S) (rN S 63) (rN S 44 0) i = rst S i := low9_in (by omega)
                have hr1 := rst_le hW.len b
                have hr2 := rst_le hW.len i
                refine V.aload_n X dX6_nextStep_66 rfl ?_
                refine wM_gX6_94 X dX6_nextStep_67 ?_
                refine V.iload_n X dX6_nextStep_70 rfl ?_
                refine wM_ld26 (i := i) X (by omega) dX6_nextStep_71 ?_
                refine V.aload_n X dX6_nextStep_72 rfl ?_
                refine wM_gX6_94 X dX6_nextStep_73 ?_
                refine V.iload_n X dX6_nextStep_76 rfl ?_
                refine V.top (congrArg o2i eb) ?_
                refine wM_ld26 (i := b) X (by omega) dX6_nextStep_77 ?_
                refine V.icmp_le (tgt := 83) X dX6_nextStep_78 (by decide) (cN_le (show (low9 (rst S) (rN S 63) (rN S 44 0)) i < 2147483648 by omega) (show (low9 (rst S) (rN S 63) (rN S 44 0)) b < 2147483648 by omega)) (cN_nle (show (low9 (rst S) (rN S 63) (rN S 44 0)) i < 2147483648 by omega) (show (low9 (rst S) (rN S 63) (rN S 44 0)) b < 2147483648 by omega)) (fun (hz78 : (low9 (rst S) (rN S 63) (rN S 44 0)) i ≤ (low9 (rst S) (rN S 63) (rN S 44 0)) b) => ?_) (fun (hz78 : (low9 (rst S) (rN S 63) (rN S 44 0)) b < (low9 (rst S) (rN S 63) (rN S 44 0)) i) => ?_)
                · refine V.iinc (v := nI (i + 1)) (L' := [(3, .int (nI (i + 1))), (2, .int (o2i (best9 S p i))), (0, .ref (am 0)), (1, .int (nI p))]) X dX6_nextStep_83 rfl (nI_inc _) hB9 (by decide) rfl ?_
                  refine V.goto (tgt := 27) X dX6_nextStep_86 (by decide) ?_
                  exact V.eqs rfl (by rw [best9_f1 (S := S) eb (by omega)]) (ih27 (i + 1) (by omega) (by omega))
                · refine V.iload_n X dX6_nextStep_81 rfl ?_
                  refine V.istore_n (L' := [(2, .int (nI i)), (3, .int (nI i)), (0, .ref (am 0)), (1, .int (nI p))]) X dX6_nextStep_82 rfl hB9 (by decide) rfl ?_
                  refine V.iinc (v := nI (i + 1)) (L' := [(3, .int (nI (i + 1))), (2, .int (nI i)), (0, .ref (am 0)), (1, .int (nI p))]) X dX6_nextStep_83 rfl (nI_inc _) hB9 (by decide) rfl ?_
                  refine V.goto (tgt := 27) X dX6_nextStep_86 (by decide) ?_
                  exact V.eqs rfl (by rw [best9_t (S := S) (fun b2 e => by rw [eb] at e; cases e; omega) hz40 hz58]; rfl) (ih27 (i + 1) (by omega) (by omega))
    exact V.eqs rfl rfl (loop27 _ 0 (Nat.lt_succ_self _) (Nat.zero_le _))
  · refine V.aload_n X dX6_nextStep_13 rfl ?_
    refine V.iconst (v := nI 1) X dX6_nextStep_14 rfl ?_
    refine V.callV1 [.int (nI 1)] X (c_X6_fails l D cy am (sN S 62 (fun _ => 0)) F 1) mv_X6_fails gw_6_132 ⟨⟨(Nat.le_of_ble_eq_true rfl), (Nat.le_of_ble_eq_true rfl)⟩, (Nat.le_of_ble_eq_true rfl), (Nat.le_of_ble_eq_true rfl)⟩ (q0 := 0) (ci := 8) rfl rfl rfl (Nat.le_of_ble_eq_true rfl) dX6_nextStep_15 ?_
    exact V.iret (v := o2i (some 0)) X hE rfl rfl (Nat.le_of_ble_eq_true rfl) (Nat.le_of_ble_eq_true rfl) (pM9 (j := 1) (by simp [kNX, hz10]) (fun h => absurd h (by decide)) rfl) dX6_nextStep_18
set_option maxRecDepth 20000 in
set_option maxHeartbeats 4000000 in
theorem c_X6_doneShare (l : Launch) (D : va_G) (cy : Nat → ClassId) (am : Nat → Nat) (S : St) (F : va_W) (hI : Inv S) : Ctr l D cy yX6_doneShare (.code yX6_doneShare cX6_doneShare 1 (some FieldType.float)) ({ frames := 4, cells := 0, slots := 0, locals := 160 } : Room) [.ref (am 0)] (wM am cy S ++ F) (fun v9 w9 => ∃ f9, v9 = some (.float f9) ∧ (kRN S = 0 → f9 = FP.fdiv (FP.i2f (nI (rN S 45 0))) (FP.i2f (nI (max 1 (rN S 46 0))))) ∧ w9 = wM am cy (sN S 62 (fun _ => kRN S)) ++ F) pNo := by
  refine Ctr.of (by decide) (Nat.le_of_ble_eq_true rfl) ?_
  intro M X hE hN hB9 hI9
  replace X : VX l D M cy cX6_doneShare "RunbookerModel" (some FieldType.float) ({ frames := 4, cells := 0, slots := 0, locals := 160 } : Room) := X
  show V l D M 0 0 (wM am cy S ++ F) [(0, .ref (am 0))] 0 []
  have hW := hI.w
  have hB := hW.b
  have h43 := hW.n43
  have h44 := hW.n44
  have h46 := hW.n46
  have h45 := hW.n45
  have hcl := hW.cl
  have hen := hW.en
  have hW0 : Wk (sN S 62 (fun _ => 0)) := hW.s62 (fun _ => by decide)
  have hcr : cntR S ≤ rN S 44 0 := cnt9_le _ _
  refine V.aload_n X dX6_doneShare_0 rfl ?_
  refine V.iconst (v := nI 0) X dX6_doneShare_1 rfl ?_
  refine wM_pX6_97 (v := 0) X dX6_doneShare_2 ?_
  refine V.aload_n X dX6_doneShare_5 rfl ?_
  refine wM_gX6_124 X dX6_doneShare_6 ?_
  refine V.if_ne (tgt := 19) X dX6_doneShare_9 (by decide) b2i_n0 b2i_0 (fun (hz9 : rB S 41 0 = true) => ?_) (fun (hz9 : rB S 41 0 = false) => ?_)
  · obtain ⟨hrn, hr1⟩ := hI.run hz9
    have hmx : max 1 (rN S 46 0) = rN S 44 0 := by omega
    refine V.aload_n X dX6_doneShare_19 rfl ?_
    refine wM_gX6_171 X dX6_doneShare_20 ?_
    refine V.i2f X dX6_doneShare_23 ?_
    refine V.aload_n X dX6_doneShare_24 rfl ?_
    refine wM_gX6_107 X dX6_doneShare_25 ?_
    refine V.i2f X dX6_doneShare_28 ?_
    refine V.fdiv X dX6_doneShare_29 (show FP.fdiv (FP.i2f (nI (rN S 45 0))) (FP.i2f (nI (rN S 44 0))) &&& 0x7fffffff ≤ 0x7f800000 by have h8 : FP.fdiv (FP.i2f (nI (rN S 45 0))) (FP.i2f (nI (max 1 (rN S 44 0)))) &&& 0x7fffffff ≤ 0x7f800000 := fd9_ok ⟨rN S 45 0, by omega⟩ ⟨rN S 44 0, by omega⟩; rw [show max 1 (rN S 44 0) = rN S 44 0 by omega] at h8; exact h8) ?_
    exact V.fret (v := FP.fdiv (FP.i2f (nI (rN S 45 0))) (FP.i2f (nI (rN S 44 0)))) X hE rfl (Nat.le_of_ble_eq_true rfl) (Nat.le_of_ble_eq_true rfl) ⟨_, rfl, (fun _ => (by rw [hmx])), (by rw [show kRN S = 0 by simp [kRN, hz9]])⟩ dX6_doneShare_30
  · refine V.aload_n X dX6_doneShare_12 rfl ?_
    refine V.iconst (v := nI 1) X dX6_doneShare_13 rfl ?_
    refine V.callV1 [.int (nI 1)] X (c_X6_fails l D cy am (sN S 62 (fun _ => 0)) F 1) mv_X6_fails gw_6_132 ⟨⟨(Nat.le_of_ble_eq_true rfl), (Nat.le_of_ble_eq_true rfl)⟩, (Nat.le_of_ble_eq_true rfl), (Nat.le_of_ble_eq_true rfl)⟩ (q0 := 0) (ci := 8) rfl rfl rfl (Nat.le_of_ble_eq_true rfl) dX6_doneShare_14 ?_
    refine V.i2f X dX6_doneShare_17 ?_
    exact V.fret (v := FP.i2f (nI 0)) X hE rfl (Nat.le_of_ble_eq_true rfl) (Nat.le_of_ble_eq_true rfl) ⟨_, rfl, (fun h9 => absurd h9 (by simp [kRN, hz9])), (by rw [show kRN S = 1 by simp [kRN, hz9]]; rfl)⟩ dX6_doneShare_18
set_option maxRecDepth 20000 in
set_option maxHeartbeats 4000000 in
theorem c_X6_meanTries (l : Launch) (D : va_G) (cy : Nat → ClassId) (am : Nat → Nat) (S : St) (F : va_W) (hI : Inv S) : Ctr l D cy yX6_meanTries (.code yX6_meanTries cX6_meanTries 3 (some FieldType.double)) ({ frames := 4, cells := 0, slots := 0, locals := 160 } : Room) [.ref (am 0)] (wM am cy S ++ F) (fun v9 w9 => ∃ f9, v9 = some (.double f9) ∧ (kRN S = 0 → f9 = FP.ddiv (FP.i2d (nI (sum9 (rN S 25) (rN S 46 0)))) (FP.i2d (nI (max 1 (rN S 46 0))))) ∧ w9 = wM am cy (sN S 62 (fun _ => kRN S)) ++ F) pNo := by
  refine Ctr.of (by decide) (Nat.le_of_ble_eq_true rfl) ?_
  intro M X hE hN hB9 hI9
  replace X : VX l D M cy cX6_meanTries "RunbookerModel" (some FieldType.double) ({ frames := 4, cells := 0, slots := 0, locals := 160 } : Room) := X
  show V l D M 0 0 (wM am cy S ++ F) [(0, .ref (am 0))] 0 []
  have hW := hI.w
  have hB := hW.b
  have h43 := hW.n43
  have h44 := hW.n44
  have h46 := hW.n46
  have h45 := hW.n45
  have hcl := hW.cl
  have hen := hW.en
  have hW0 : Wk (sN S 62 (fun _ => 0)) := hW.s62 (fun _ => by decide)
  have hcr : cntR S ≤ rN S 44 0 := cnt9_le _ _
  refine V.aload_n X dX6_meanTries_0 rfl ?_
  refine V.iconst (v := nI 0) X dX6_meanTries_1 rfl ?_
  refine wM_pX6_97 (v := 0) X dX6_meanTries_2 ?_
  refine V.aload_n X dX6_meanTries_5 rfl ?_
  refine wM_gX6_124 X dX6_meanTries_6 ?_
  refine V.if_ne (tgt := 19) X dX6_meanTries_9 (by decide) b2i_n0 b2i_0 (fun (hz9 : rB S 41 0 = true) => ?_) (fun (hz9 : rB S 41 0 = false) => ?_)
  · obtain ⟨hrn, hr1⟩ := hI.run hz9
    have hmx : max 1 (rN S 46 0) = rN S 44 0 := by omega
    refine V.iconst (v := nI 0) X dX6_meanTries_19 rfl ?_
    refine V.istore_n (L' := [(1, .int (nI 0)), (0, .ref (am 0))]) X dX6_meanTries_20 rfl hB9 (by decide) rfl ?_
    refine V.iconst (v := nI 0) X dX6_meanTries_21 rfl ?_
    refine V.istore_n (L' := [(2, .int (nI 0)), (1, .int (nI 0)), (0, .ref (am 0))]) X dX6_meanTries_22 rfl hB9 (by decide) rfl ?_
    have loop23 : ∀ (d9 : Nat) (i : Nat), (rN S 44 0 - i) < d9 → (i ≤ rN S 44 0) → V l D M 0 0 (wM am cy (sN S 62 (fun _ => 0)) ++ F) [(2, .int (nI i)), (1, .int (nI (sum9 (rN S 25) i))), (0, .ref (am 0))] 23 [] := by
      intro d9
      induction d9 with
      | zero => intro i h9; exact absurd h9 (Nat.not_lt_zero _)
      | succ d9 ih23 =>
        intro i hd9 hi
        refine V.iload_n X dX6_meanTries_23 rfl ?_
        refine V.aload_n X dX6_meanTries_24 rfl ?_
        refine wM_gX6_107 X dX6_meanTries_25 ?_
        refine V.icmp_ge (tgt := 46) X dX6_meanTries_28 (by decide) (cN_le (hB.n 44 _) (by omega)) (cN_nle (hB.n 44 _) (by omega)) (fun (hz28 : rN S 44 0 ≤ i) => ?_) (fun (hz28 : i < rN S 44 0) => ?_)
        · refine V.iload_n X dX6_meanTries_46 rfl ?_
          refine V.i2d X dX6_meanTries_47 ?_
          refine V.aload_n X dX6_meanTries_48 rfl ?_
          refine wM_gX6_107 X dX6_meanTries_49 ?_
          refine V.i2d X dX6_meanTries_52 ?_
          refine V.ddiv X dX6_meanTries_53 (show FP.ddiv (FP.i2d (nI (sum9 (rN S 25) i))) (FP.i2d (nI (rN S 44 0))) &&& 0x7fffffffffffffff ≤ 0x7ff0000000000000 by have h7 := sum9_le hW.tr i; have h8 : FP.ddiv (FP.i2d (nI (sum9 (rN S 25) i))) (FP.i2d (nI (max 1 (rN S 44 0)))) &&& 0x7fffffffffffffff ≤ 0x7ff0000000000000 := dd9_ok ⟨sum9 (rN S 25) i, by omega⟩ ⟨rN S 44 0, by omega⟩; rw [show max 1 (rN S 44 0) = rN S 44 0 by omega] at h8; exact h8) ?_
          exact V.dret (v := FP.ddiv (FP.i2d (nI (sum9 (rN S 25) i))) (FP.i2d (nI (rN S 44 0)))) X hE rfl (Nat.le_of_ble_eq_true rfl) (Nat.le_of_ble_eq_true rfl) ⟨_, rfl, (fun _ => (by rw [hmx, hrn, show i = rN S 44 0 by omega])), (by rw [show kRN S = 0 by simp [kRN, hz9]])⟩ dX6_meanTries_54
        · refine V.iload_n X dX6_meanTries_31 rfl ?_
          refine V.aload_n X dX6_meanTries_32 rfl ?_
          refine wM_gX6_63 X dX6_meanTries_33 ?_
          refine V.iload_n X dX6_meanTries_36 rfl ?_
          refine wM_ld18 (i := i) X (by omega) dX6_meanTries_37 ?_
          refine V.iadd (v := nI (sum9 (rN S 25) i + (rN S 25 i))) X dX6_meanTries_38 (nI_add _ _) ?_
          refine V.istore_n (L' := [(1, .int (nI (sum9 (rN S 25) i + (rN S 25 i)))), (2, .int (nI i)), (0, .ref (am 0))]) X dX6_meanTries_39 rfl hB9 (by decide) rfl ?_
          refine V.iinc (v := nI (i + 1)) (L' := [(2, .int (nI (i + 1))), (1, .int (nI (sum9 (rN S 25) i + (rN S 25 i)))), (0, .ref (am 0))]) X dX6_meanTries_40 rfl (nI_inc _) hB9 (by decide) rfl ?_
          refine V.goto (tgt := 23) X dX6_meanTries_43 (by decide) ?_
          exact V.eqs rfl rfl (ih23 (i + 1) (by omega) (by omega))
    exact V.eqs rfl rfl (loop23 _ 0 (Nat.lt_succ_self _) (Nat.zero_le _))
  · refine V.aload_n X dX6_meanTries_12 rfl ?_
    refine V.iconst (v := nI 1) X dX6_meanTries_13 rfl ?_
    refine V.callV1 [.int (nI 1)] X (c_X6_fails l D cy am (sN S 62 (fun _ => 0)) F 1) mv_X6_fails gw_6_132 ⟨⟨(Nat.le_of_ble_eq_true rfl), (Nat.le_of_ble_eq_true rfl)⟩, (Nat.le_of_ble_eq_true rfl), (Nat.le_of_ble_eq_true rfl)⟩ (q0 := 0) (ci := 8) rfl rfl rfl (Nat.le_of_ble_eq_true rfl) dX6_meanTries_14 ?_
    refine V.i2d X dX6_meanTries_17 ?_
    exact V.dret (v := FP.i2d (nI 0)) X hE rfl (Nat.le_of_ble_eq_true rfl) (Nat.le_of_ble_eq_true rfl) ⟨_, rfl, (fun h9 => absurd h9 (by simp [kRN, hz9])), (by rw [show kRN S = 1 by simp [kRN, hz9]]; rfl)⟩ dX6_meanTries_18
set_option maxRecDepth 20000 in
set_option maxHeartbeats 4000000 in
theorem c_X6_workedMinutes (l : Launch) (D : va_G) (cy : Nat → ClassId) (am : Nat → Nat) (S : St) (F : va_W) : Ctr l D cy yX6_workedMinutes (.code yX6_workedMinutes cX6_workedMinutes 1 (some FieldType.long)) ({ frames := 4, cells := 0, slots := 0, locals := 160 } : Room) [.ref (am 0)] (wM am cy S ++ F) (fun v9 w9 => v9 = some (.long (rL S 42)) ∧ w9 = wM am cy (sN S 62 (fun _ => 0)) ++ F) pNo := by
  refine Ctr.of (by decide) (Nat.le_of_ble_eq_true rfl) ?_
  intro M X hE hN hB9 hI9
  replace X : VX l D M cy cX6_workedMinutes "RunbookerModel" (some FieldType.long) ({ frames := 4, cells := 0, slots := 0, locals := 160 } : Room) := X
  show V l D M 0 0 (wM am cy S ++ F) [(0, .ref (am 0))] 0 []
  refine V.aload_n X dX6_workedMinutes_0 rfl ?_
  refine V.iconst (v := nI 0) X dX6_workedMinutes_1 rfl ?_
  refine wM_pX6_97 (v := 0) X dX6_workedMinutes_2 ?_
  refine V.aload_n X dX6_workedMinutes_5 rfl ?_
  refine wM_gX6_199 X dX6_workedMinutes_6 ?_
  exact V.lret (v := rL S 42) X hE rfl (Nat.le_of_ble_eq_true rfl) (Nat.le_of_ble_eq_true rfl) ⟨rfl, rfl⟩ dX6_workedMinutes_9
set_option maxRecDepth 20000 in
set_option maxHeartbeats 4000000 in
theorem c_X6_thrown (l : Launch) (D : va_G) (cy : Nat → ClassId) (am : Nat → Nat) (S : St) (F : va_W) : Ctr l D cy yX6_thrown (.code yX6_thrown cX6_thrown 1 (some FieldType.int)) ({ frames := 0, cells := 0, slots := 0, locals := 0 } : Room) [.ref (am 0)] (wM am cy S ++ F) (pI (nI (rN S 62 0)) (wM am cy S ++ F)) pNo := by
  refine Ctr.of (by decide) (Nat.le_of_ble_eq_true rfl) ?_
  intro M X hE hN hB9 hI9
  replace X : VX l D M cy cX6_thrown "RunbookerModel" (some FieldType.int) ({ frames := 0, cells := 0, slots := 0, locals := 0 } : Room) := X
  show V l D M 0 0 (wM am cy S ++ F) [(0, .ref (am 0))] 0 []
  refine V.aload_n X dX6_thrown_0 rfl ?_
  refine wM_gX6_97 X dX6_thrown_1 ?_
  exact V.iret (v := nI (rN S 62 0)) X hE rfl rfl (Nat.le_of_ble_eq_true rfl) (Nat.le_of_ble_eq_true rfl) (pN9 rfl rfl) dX6_thrown_4
