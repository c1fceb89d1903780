/-! ===== the reference: the calls that change it ===== -/
theorem bif00 {α : Type} (a b : α) : (bif Nat.beq 0 0 then a else b) = a := rfl
set_option maxRecDepth 20000 in
set_option maxHeartbeats 4000000 in
theorem c_X6_addPerson (l : Launch) (D : va_G) (cy : Nat → ClassId) (am : Nat → Nat) (S : St) (F : va_W) (x : Int32) (hI : Inv S) : Ctr l D cy yX6_addPerson (.code yX6_addPerson cX6_addPerson 2 (some FieldType.int)) ({ frames := 12, cells := 0, slots := 0, locals := 400 } : Room) [.ref (am 0), .int x] (wM am cy S ++ F) (pMx (kAP S x) (nI (rN S 43 0)) (fun k9 => wM am cy (sN (bif Nat.beq k9 0 then (sAP S x) else S) 62 (fun _ => k9)) ++ F)) pNo := by
  refine Ctr.of (by decide) (Nat.le_of_ble_eq_true rfl) ?_
  intro M X hE hN hB9 hI9
  replace X : VX l D M cy cX6_addPerson "RunbookerModel" (some FieldType.int) ({ frames := 12, cells := 0, slots := 0, locals := 400 } : Room) := X
  show V l D M 0 0 (wM am cy S ++ F) [(0, .ref (am 0)), (1, .int x)] 0 []
  have hW := hI.w
  have hB := hW.b
  have h43 := hW.n43
  have h44 := hW.n44
  have h46 := hW.n46
  have h45 := hW.n45
  have hcl := hW.cl
  have hen := hW.en
  have hW0 : Wk (sN S 62 (fun _ => 0)) := hW.s62 (fun _ => by decide)
  have hcr : cntR S ≤ rN S 44 0 := cnt9_le _ _
  refine V.aload_n X dX6_addPerson_0 rfl ?_
  refine V.iconst (v := nI 0) X dX6_addPerson_1 rfl ?_
  refine wM_pX6_97 (v := 0) X dX6_addPerson_2 ?_
  refine V.iload_n X dX6_addPerson_5 rfl ?_
  refine V.iconst (v := nI 1) X dX6_addPerson_6 rfl ?_
  refine V.bipush (v := nI 15) X dX6_addPerson_7 (by decide) ?_
  refine V.callS1 [.int x, .int (nI 1), .int (nI 15)] X (c_X6_isBetween l D cy am (sN S 62 (fun _ => 0)) F x (nI 1) (nI 15)) ms_X6_isBetween gw_6_129 ⟨⟨(Nat.le_of_ble_eq_true rfl), (Nat.le_of_ble_eq_true rfl)⟩, (Nat.le_of_ble_eq_true rfl), (Nat.le_of_ble_eq_true rfl)⟩ rfl (Nat.le_of_ble_eq_true rfl) dX6_addPerson_9 ?_
  refine V.if_ne (tgt := 21) X dX6_addPerson_12 (by decide) b2i_n0 b2i_0 (fun (hz12 : btw x (nI 1) (nI 15) = true) => ?_) (fun (hz12 : btw x (nI 1) (nI 15) = false) => ?_)
  · refine V.aload_n X dX6_addPerson_21 rfl ?_
    refine wM_gX6_100 X dX6_addPerson_22 ?_
    refine V.bipush (v := nI 8) X dX6_addPerson_25 (by decide) ?_
    refine V.icmp_ne (tgt := 36) X dX6_addPerson_27 (by decide) cN_ne (cN_eq (hB.n 43 _) (by decide)) (fun (hz27 : ¬ rN S 43 0 = 8) => ?_) (fun (hz27 : rN S 43 0 = 8) => ?_)
    · have h9n : ¬ 8 ≤ rN S 43 0 := by omega
      refine V.aload_n X dX6_addPerson_36 rfl ?_
      refine wM_gX6_9 X dX6_addPerson_37 ?_
      refine V.aload_n X dX6_addPerson_40 rfl ?_
      refine wM_gX6_100 X dX6_addPerson_41 ?_
      refine V.iload_n X dX6_addPerson_44 rfl ?_
      refine wM_st1 (i := rN S 43 0) (v := x) (g := (rI S 7)) X (by omega) rfl dX6_addPerson_45 ?_
      refine V.aload_n X dX6_addPerson_46 rfl ?_
      refine V.dup X dX6_addPerson_47 rfl ?_
      refine wM_gX6_100 X dX6_addPerson_48 ?_
      refine V.iconst (v := nI 1) X dX6_addPerson_51 rfl ?_
      refine V.iadd (v := nI (rN S 43 0 + 1)) X dX6_addPerson_52 (nI_add _ _) ?_
      refine wM_pX6_100 (v := rN S 43 0 + 1) X dX6_addPerson_53 ?_
      refine V.aload_n X dX6_addPerson_56 rfl ?_
      refine wM_gX6_100 X dX6_addPerson_57 ?_
      refine V.iconst (v := nI 1) X dX6_addPerson_60 rfl ?_
      refine V.isub (v := nI ((rN S 43 0 + 1) - 1)) X dX6_addPerson_61 (pk_sub (show 1 ≤ rN S 43 0 + 1 by omega)) ?_
      exact V.iret (v := nI ((rN S 43 0 + 1) - 1)) X hE rfl rfl (Nat.le_of_ble_eq_true rfl) (Nat.le_of_ble_eq_true rfl) (pM9 (j := 0) (by simp [kAP, hz12, hz27, h9n]) (fun h9 => (by first | rfl | simp)) rfl) dX6_addPerson_62
    · have h9n : 8 ≤ rN S 43 0 := by omega
      refine V.aload_n X dX6_addPerson_30 rfl ?_
      refine V.iconst (v := nI 2) X dX6_addPerson_31 rfl ?_
      refine V.callV1 [.int (nI 2)] X (c_X6_fails l D cy am (sN S 62 (fun _ => 0)) F 2) mv_X6_fails gw_6_132 ⟨⟨(Nat.le_of_ble_eq_true rfl), (Nat.le_of_ble_eq_true rfl)⟩, (Nat.le_of_ble_eq_true rfl), (Nat.le_of_ble_eq_true rfl)⟩ (q0 := 0) (ci := 8) rfl rfl rfl (Nat.le_of_ble_eq_true rfl) dX6_addPerson_32 ?_
      exact V.iret (v := nI 0) X hE rfl rfl (Nat.le_of_ble_eq_true rfl) (Nat.le_of_ble_eq_true rfl) (pM9 (j := 2) (by simp [kAP, hz12, hz27, h9n]) (fun h => absurd h (by decide)) rfl) dX6_addPerson_35
  · refine V.aload_n X dX6_addPerson_15 rfl ?_
    refine V.iconst (v := nI 1) X dX6_addPerson_16 rfl ?_
    refine V.callV1 [.int (nI 1)] X (c_X6_fails l D cy am (sN S 62 (fun _ => 0)) F 1) mv_X6_fails gw_6_132 ⟨⟨(Nat.le_of_ble_eq_true rfl), (Nat.le_of_ble_eq_true rfl)⟩, (Nat.le_of_ble_eq_true rfl), (Nat.le_of_ble_eq_true rfl)⟩ (q0 := 0) (ci := 8) rfl rfl rfl (Nat.le_of_ble_eq_true rfl) dX6_addPerson_17 ?_
    exact V.iret (v := nI 0) X hE rfl rfl (Nat.le_of_ble_eq_true rfl) (Nat.le_of_ble_eq_true rfl) (pM9 (j := 1) (by simp [kAP, hz12]) (fun h => absurd h (by decide)) rfl) dX6_addPerson_20
set_option maxRecDepth 20000 in
set_option maxHeartbeats 4000000 in
theorem c_X6_setDuty (l : Launch) (D : va_G) (cy : Nat → ClassId) (am : Nat → Nat) (S : St) (F : va_W) (x : Int32) (b : Bool) (hI : Inv S) : Ctr l D cy yX6_setDuty (.code yX6_setDuty cX6_setDuty 4 (some FieldType.boolean)) ({ frames := 12, cells := 0, slots := 0, locals := 400 } : Room) [.ref (am 0), .int x, .int (b2i b)] (wM am cy S ++ F) (pMx (kSD S x) (b2i (rB S 8 (ix x))) (fun k9 => wM am cy (sN (bif Nat.beq k9 0 then (sSD S x b) else S) 62 (fun _ => k9)) ++ F)) pNo := by
  refine Ctr.of (by decide) (Nat.le_of_ble_eq_true rfl) ?_
  intro M X hE hN hB9 hI9
  replace X : VX l D M cy cX6_setDuty "RunbookerModel" (some FieldType.boolean) ({ frames := 12, cells := 0, slots := 0, locals := 400 } : Room) := X
  show V l D M 0 0 (wM am cy S ++ F) [(0, .ref (am 0)), (1, .int x), (2, .int (b2i b))] 0 []
  have hW := hI.w
  have hB := hW.b
  have h43 := hW.n43
  have h44 := hW.n44
  have h46 := hW.n46
  have h45 := hW.n45
  have hcl := hW.cl
  have hen := hW.en
  have hW0 : Wk (sN S 62 (fun _ => 0)) := hW.s62 (fun _ => by decide)
  have hcr : cntR S ≤ rN S 44 0 := cnt9_le _ _
  refine V.aload_n X dX6_setDuty_0 rfl ?_
  refine V.iconst (v := nI 0) X dX6_setDuty_1 rfl ?_
  refine wM_pX6_97 (v := 0) X dX6_setDuty_2 ?_
  refine V.aload_n X dX6_setDuty_5 rfl ?_
  refine V.iload_n X dX6_setDuty_6 rfl ?_
  refine V.callV1 [.int x] X (c_X6_isPerson l D cy am (sN S 62 (fun _ => 0)) F x (hW0.b)) mv_X6_isPerson gw_6_140 ⟨⟨(Nat.le_of_ble_eq_true rfl), (Nat.le_of_ble_eq_true rfl)⟩, (Nat.le_of_ble_eq_true rfl), (Nat.le_of_ble_eq_true rfl)⟩ (q0 := 0) (ci := 8) rfl rfl rfl (Nat.le_of_ble_eq_true rfl) dX6_setDuty_7 ?_
  refine V.if_ne (tgt := 19) X dX6_setDuty_10 (by decide) b2i_n0 b2i_0 (fun (hz10 : inR x (rN S 43 0) = true) => ?_) (fun (hz10 : inR x (rN S 43 0) = false) => ?_)
  · obtain ⟨p, hp, rfl⟩ := inR_of hz10 (by omega)
    have ep : ix (nI p) = p := ix_nI (by omega)
    refine V.aload_n X dX6_setDuty_19 rfl ?_
    refine V.iload_n X dX6_setDuty_20 rfl ?_
    refine V.callV1 [.int (o2i (some p))] X (c_X6_work l D cy am (sN S 62 (fun _ => 0)) F (some p) (hW0.b) (show (rN S 44 0) ≤ 16 by omega) (lt_some9 (by omega))) mv_X6_work gw_6_148 ⟨⟨(Nat.le_of_ble_eq_true rfl), (Nat.le_of_ble_eq_true rfl)⟩, (Nat.le_of_ble_eq_true rfl), (Nat.le_of_ble_eq_true rfl)⟩ (q0 := 0) (ci := 8) rfl rfl rfl (Nat.le_of_ble_eq_true rfl) dX6_setDuty_21 ?_
    refine V.top (congrArg o2i (hI.qwk (p := p) (by omega))) ?_
    refine V.iconst (v := o2i none) X dX6_setDuty_24 rfl ?_
    refine V.icmp_ne (tgt := 44) X dX6_setDuty_25 (by decide) (cO_ne (a := rO S 9 p) (b := none)) (cO_eq (a := rO S 9 p) (b := none) (hB.o 9 p) lt_none) (fun (hz25 : ¬ rO S 9 p = none) => ?_) (fun (hz25 : rO S 9 p = none) => ?_)
    · refine V.aload_n X dX6_setDuty_44 rfl ?_
      refine V.iconst (v := nI 2) X dX6_setDuty_45 rfl ?_
      refine V.callV1 [.int (nI 2)] X (c_X6_isWrong l D cy am (sN S 62 (fun _ => 0)) F 2) mv_X6_isWrong gw_6_144 ⟨⟨(Nat.le_of_ble_eq_true rfl), (Nat.le_of_ble_eq_true rfl)⟩, (Nat.le_of_ble_eq_true rfl), (Nat.le_of_ble_eq_true rfl)⟩ (q0 := 0) (ci := 8) rfl rfl rfl (Nat.le_of_ble_eq_true rfl) dX6_setDuty_46 ?_
      exact V.iret (v := b2i false) X hE rfl (nar_b _) (Nat.le_of_ble_eq_true rfl) (Nat.le_of_ble_eq_true rfl) (pM9 (j := 2) (by simp [kSD, Option.isSome_iff_ne_none, hz10, hp, ep, hz25]) (fun h => absurd h (by decide)) rfl) dX6_setDuty_49
    · refine V.iload_n X dX6_setDuty_28 rfl ?_
      refine V.aload_n X dX6_setDuty_29 rfl ?_
      refine wM_gX6_75 X dX6_setDuty_30 ?_
      refine V.icmp_eq (tgt := 44) X dX6_setDuty_33 (by decide) (cO_eq (a := some p) (b := rO S 47 0) (lt_some9 (by omega)) (hB.o 47 _)) (cO_ne (a := some p) (b := rO S 47 0)) (fun (hz33 : some p = rO S 47 0) => ?_) (fun (hz33 : ¬ some p = rO S 47 0) => ?_)
      · refine V.aload_n X dX6_setDuty_44 rfl ?_
        refine V.iconst (v := nI 2) X dX6_setDuty_45 rfl ?_
        refine V.callV1 [.int (nI 2)] X (c_X6_isWrong l D cy am (sN S 62 (fun _ => 0)) F 2) mv_X6_isWrong gw_6_144 ⟨⟨(Nat.le_of_ble_eq_true rfl), (Nat.le_of_ble_eq_true rfl)⟩, (Nat.le_of_ble_eq_true rfl), (Nat.le_of_ble_eq_true rfl)⟩ (q0 := 0) (ci := 8) rfl rfl rfl (Nat.le_of_ble_eq_true rfl) dX6_setDuty_46 ?_
        exact V.iret (v := b2i false) X hE rfl (nar_b _) (Nat.le_of_ble_eq_true rfl) (Nat.le_of_ble_eq_true rfl) (pM9 (j := 2) (by simp [kSD, Option.isSome_iff_ne_none, hz10, hp, ep, hz25, (Eq.symm hz33)]) (fun h => absurd h (by decide)) rfl) dX6_setDuty_49
      · refine V.iload_n X dX6_setDuty_36 rfl ?_
        refine V.aload_n X dX6_setDuty_37 rfl ?_
        refine wM_gX6_79 X dX6_setDuty_38 ?_
        refine V.icmp_ne (tgt := 50) X dX6_setDuty_41 (by decide) (cO_ne (a := some p) (b := rO S 48 0)) (cO_eq (a := some p) (b := rO S 48 0) (lt_some9 (by omega)) (hB.o 48 _)) (fun (hz41 : ¬ some p = rO S 48 0) => ?_) (fun (hz41 : some p = rO S 48 0) => ?_)
        · refine V.aload_n X dX6_setDuty_50 rfl ?_
          refine wM_gX6_50 X dX6_setDuty_51 ?_
          refine V.iload_n X dX6_setDuty_54 rfl ?_
          refine wM_ld14 (i := p) X (by omega) dX6_setDuty_55 ?_
          refine V.istore_n (L' := [(3, .int (b2i (rB S 8 p))), (0, .ref (am 0)), (1, .int (nI p)), (2, .int (b2i b))]) X dX6_setDuty_56 rfl hB9 (by decide) rfl ?_
          refine V.aload_n X dX6_setDuty_57 rfl ?_
          refine wM_gX6_50 X dX6_setDuty_58 ?_
          refine V.iload_n X dX6_setDuty_61 rfl ?_
          refine V.iload_n X dX6_setDuty_62 rfl ?_
          refine wM_st14 (i := p) (v := b) (g := (rB S 8)) X (by omega) rfl dX6_setDuty_63 ?_
          refine V.iload_n X dX6_setDuty_64 rfl ?_
          exact V.iret (v := b2i (rB S 8 p)) X hE rfl (nar_b _) (Nat.le_of_ble_eq_true rfl) (Nat.le_of_ble_eq_true rfl) (pM9 (j := 0) (by simp [kSD, Option.isSome_iff_ne_none, hz10, hp, ep, hz25, (Ne.symm hz33), (Ne.symm hz41)]) (fun h9 => (by first | rfl | (simp only [ep]; done) | simp [hz10, hp, ep, hz25, (Ne.symm hz33), (Ne.symm hz41)])) (by first | (simp only [sSD, ep]; done) | (simp only [sSD, ep]; rfl) | rfl)) dX6_setDuty_65
        · refine V.aload_n X dX6_setDuty_44 rfl ?_
          refine V.iconst (v := nI 2) X dX6_setDuty_45 rfl ?_
          refine V.callV1 [.int (nI 2)] X (c_X6_isWrong l D cy am (sN S 62 (fun _ => 0)) F 2) mv_X6_isWrong gw_6_144 ⟨⟨(Nat.le_of_ble_eq_true rfl), (Nat.le_of_ble_eq_true rfl)⟩, (Nat.le_of_ble_eq_true rfl), (Nat.le_of_ble_eq_true rfl)⟩ (q0 := 0) (ci := 8) rfl rfl rfl (Nat.le_of_ble_eq_true rfl) dX6_setDuty_46 ?_
          exact V.iret (v := b2i false) X hE rfl (nar_b _) (Nat.le_of_ble_eq_true rfl) (Nat.le_of_ble_eq_true rfl) (pM9 (j := 2) (by simp [kSD, Option.isSome_iff_ne_none, hz10, hp, ep, hz25, (Ne.symm hz33), (Eq.symm hz41)]) (fun h => absurd h (by decide)) rfl) dX6_setDuty_49
  · refine V.aload_n X dX6_setDuty_13 rfl ?_
    refine V.iconst (v := nI 1) X dX6_setDuty_14 rfl ?_
    refine V.callV1 [.int (nI 1)] X (c_X6_isWrong l D cy am (sN S 62 (fun _ => 0)) F 1) mv_X6_isWrong gw_6_144 ⟨⟨(Nat.le_of_ble_eq_true rfl), (Nat.le_of_ble_eq_true rfl)⟩, (Nat.le_of_ble_eq_true rfl), (Nat.le_of_ble_eq_true rfl)⟩ (q0 := 0) (ci := 8) rfl rfl rfl (Nat.le_of_ble_eq_true rfl) dX6_setDuty_15 ?_
    exact V.iret (v := b2i false) X hE rfl (nar_b _) (Nat.le_of_ble_eq_true rfl) (Nat.le_of_ble_eq_true rfl) (pM9 (j := 1) (by simp [kSD, Option.isSome_iff_ne_none, hz10]) (fun h => absurd h (by decide)) rfl) dX6_setDuty_18
set_option maxRecDepth 20000 in
set_option maxHeartbeats 4000000 in
theorem c_X6_addStep (l : Launch) (D : va_G) (cy : Nat → ClassId) (am : Nat → Nat) (S : St) (F : va_W) (ro : Int32) (le : Int32) (tr : Int32) (jn : UInt16) (rv : Bool) (hI : Inv S) : Ctr l D cy yX6_addStep (.code yX6_addStep cX6_addStep 6 (some FieldType.int)) ({ frames := 12, cells := 0, slots := 0, locals := 400 } : Room) [.ref (am 0), .int ro, .int le, .int tr, .int (c2i jn), .int (b2i rv)] (wM am cy S ++ F) (pMx (kAS S ro le tr jn) (nI (rN S 44 0)) (fun k9 => wM am cy (sN (bif Nat.beq k9 0 then (sC (sAS S ro le tr jn rv) 64 (up1 (rC S 64) (rN S 44 0) 111)) else S) 62 (fun _ => k9)) ++ F)) pNo := by
  refine Ctr.of (by decide) (Nat.le_of_ble_eq_true rfl) ?_
  intro M X hE hN hB9 hI9
  replace X : VX l D M cy cX6_addStep "RunbookerModel" (some FieldType.int) ({ frames := 12, cells := 0, slots := 0, locals := 400 } : Room) := X
  show V l D M 0 0 (wM am cy S ++ F) [(0, .ref (am 0)), (1, .int ro), (2, .int le), (3, .int tr), (4, .int (c2i jn)), (5, .int (b2i rv))] 0 []
  have hW := hI.w
  have hB := hW.b
  have h43 := hW.n43
  have h44 := hW.n44
  have h46 := hW.n46
  have h45 := hW.n45
  have hcl := hW.cl
  have hen := hW.en
  have hW0 : Wk (sN S 62 (fun _ => 0)) := hW.s62 (fun _ => by decide)
  have hcr : cntR S ≤ rN S 44 0 := cnt9_le _ _
  refine V.aload_n X dX6_addStep_0 rfl ?_
  refine V.iconst (v := nI 0) X dX6_addStep_1 rfl ?_
  refine wM_pX6_97 (v := 0) X dX6_addStep_2 ?_
  refine V.iload_n X dX6_addStep_5 rfl ?_
  refine V.iconst (v := nI 0) X dX6_addStep_6 rfl ?_
  refine V.iconst (v := nI 3) X dX6_addStep_7 rfl ?_
  refine V.callS1 [.int ro, .int (nI 0), .int (nI 3)] X (c_X6_isBetween l D cy am (sN S 62 (fun _ => 0)) F ro (nI 0) (nI 3)) ms_X6_isBetween gw_6_129 ⟨⟨(Nat.le_of_ble_eq_true rfl), (Nat.le_of_ble_eq_true rfl)⟩, (Nat.le_of_ble_eq_true rfl), (Nat.le_of_ble_eq_true rfl)⟩ rfl (Nat.le_of_ble_eq_true rfl) dX6_addStep_8 ?_
  refine V.top (congrArg b2i (btw3 ro)) ?_
  refine V.if_eq (tgt := 47) X dX6_addStep_11 (by decide) b2i_0 b2i_n0 (fun (hz11 : inR ro 4 = false) => ?_) (fun (hz11 : inR ro 4 = true) => ?_)
  · refine V.aload_n X dX6_addStep_47 rfl ?_
    refine V.iconst (v := nI 1) X dX6_addStep_48 rfl ?_
    refine V.callV1 [.int (nI 1)] X (c_X6_fails l D cy am (sN S 62 (fun _ => 0)) F 1) mv_X6_fails gw_6_132 ⟨⟨(Nat.le_of_ble_eq_true rfl), (Nat.le_of_ble_eq_true rfl)⟩, (Nat.le_of_ble_eq_true rfl), (Nat.le_of_ble_eq_true rfl)⟩ (q0 := 0) (ci := 8) rfl rfl rfl (Nat.le_of_ble_eq_true rfl) dX6_addStep_49 ?_
    exact V.iret (v := nI 0) X hE rfl rfl (Nat.le_of_ble_eq_true rfl) (Nat.le_of_ble_eq_true rfl) (pM9 (j := 1) (by simp [kAS, hz11]) (fun h => absurd h (by decide)) rfl) dX6_addStep_52
  · obtain ⟨p, hp, rfl⟩ := inR_of hz11 (by omega)
    have ep : ix (nI p) = p := ix_nI (by omega)
    refine V.iload_n X dX6_addStep_14 rfl ?_
    refine V.iconst (v := nI 1) X dX6_addStep_15 rfl ?_
    refine V.bipush (v := nI 60) X dX6_addStep_16 (by decide) ?_
    refine V.callS1 [.int le, .int (nI 1), .int (nI 60)] X (c_X6_isBetween l D cy am (sN S 62 (fun _ => 0)) F le (nI 1) (nI 60)) ms_X6_isBetween gw_6_129 ⟨⟨(Nat.le_of_ble_eq_true rfl), (Nat.le_of_ble_eq_true rfl)⟩, (Nat.le_of_ble_eq_true rfl), (Nat.le_of_ble_eq_true rfl)⟩ rfl (Nat.le_of_ble_eq_true rfl) dX6_addStep_18 ?_
    refine V.if_eq (tgt := 47) X dX6_addStep_21 (by decide) b2i_0 b2i_n0 (fun (hz21 : btw le (nI 1) (nI 60) = false) => ?_) (fun (hz21 : btw le (nI 1) (nI 60) = true) => ?_)
    · refine V.aload_n X dX6_addStep_47 rfl ?_
      refine V.iconst (v := nI 1) X dX6_addStep_48 rfl ?_
      refine V.callV1 [.int (nI 1)] X (c_X6_fails l D cy am (sN S 62 (fun _ => 0)) F 1) mv_X6_fails gw_6_132 ⟨⟨(Nat.le_of_ble_eq_true rfl), (Nat.le_of_ble_eq_true rfl)⟩, (Nat.le_of_ble_eq_true rfl), (Nat.le_of_ble_eq_true rfl)⟩ (q0 := 0) (ci := 8) rfl rfl rfl (Nat.le_of_ble_eq_true rfl) dX6_addStep_49 ?_
      exact V.iret (v := nI 0) X hE rfl rfl (Nat.le_of_ble_eq_true rfl) (Nat.le_of_ble_eq_true rfl) (pM9 (j := 1) (by simp [kAS, hz11, hp, ep, hz21]) (fun h => absurd h (by decide)) rfl) dX6_addStep_52
    · obtain ⟨q, hq1, hq2, rfl⟩ := btw_nat hz21 (by decide) (by decide)
      have eq : ix (nI q) = q := ix_nI (by omega)
      refine V.iload_n X dX6_addStep_24 rfl ?_
      refine V.iconst (v := nI 1) X dX6_addStep_25 rfl ?_
      refine V.iconst (v := nI 3) X dX6_addStep_26 rfl ?_
      refine V.callS1 [.int tr, .int (nI 1), .int (nI 3)] X (c_X6_isBetween l D cy am (sN S 62 (fun _ => 0)) F tr (nI 1) (nI 3)) ms_X6_isBetween gw_6_129 ⟨⟨(Nat.le_of_ble_eq_true rfl), (Nat.le_of_ble_eq_true rfl)⟩, (Nat.le_of_ble_eq_true rfl), (Nat.le_of_ble_eq_true rfl)⟩ rfl (Nat.le_of_ble_eq_true rfl) dX6_addStep_27 ?_
      refine V.if_eq (tgt := 47) X dX6_addStep_30 (by decide) b2i_0 b2i_n0 (fun (hz30 : btw tr (nI 1) (nI 3) = false) => ?_) (fun (hz30 : btw tr (nI 1) (nI 3) = true) => ?_)
      · refine V.aload_n X dX6_addStep_47 rfl ?_
        refine V.iconst (v := nI 1) X dX6_addStep_48 rfl ?_
        refine V.callV1 [.int (nI 1)] X (c_X6_fails l D cy am (sN S 62 (fun _ => 0)) F 1) mv_X6_fails gw_6_132 ⟨⟨(Nat.le_of_ble_eq_true rfl), (Nat.le_of_ble_eq_true rfl)⟩, (Nat.le_of_ble_eq_true rfl), (Nat.le_of_ble_eq_true rfl)⟩ (q0 := 0) (ci := 8) rfl rfl rfl (Nat.le_of_ble_eq_true rfl) dX6_addStep_49 ?_
        exact V.iret (v := nI 0) X hE rfl rfl (Nat.le_of_ble_eq_true rfl) (Nat.le_of_ble_eq_true rfl) (pM9 (j := 1) (by simp [kAS, hz11, hp, ep, hz21, eq, hz30]) (fun h => absurd h (by decide)) rfl) dX6_addStep_52
      · obtain ⟨r, hr1, hr2, rfl⟩ := btw_nat hz30 (by decide) (by decide)
        have er : ix (nI r) = r := ix_nI (by omega)
        refine V.iload X dX6_addStep_33 rfl ?_
        refine V.bipush (v := nI 97) X dX6_addStep_35 (by decide) ?_
        refine V.icmp_eq (tgt := 53) X dX6_addStep_37 (by decide) (cC_eq (a := jn) (b := 97)) (cC_ne (a := jn) (b := 97)) (fun (hz37 : jn = 97) => ?_) (fun (hz37 : ¬ jn = 97) => ?_)
        · refine V.aload_n X dX6_addStep_53 rfl ?_
          refine wM_gX6_124 X dX6_addStep_54 ?_
          refine V.if_ne (tgt := 69) X dX6_addStep_57 (by decide) b2i_n0 b2i_0 (fun (hz57 : rB S 41 0 = true) => ?_) (fun (hz57 : rB S 41 0 = false) => ?_)
          · refine V.aload_n X dX6_addStep_69 rfl ?_
            refine V.iconst (v := nI 2) X dX6_addStep_70 rfl ?_
            refine V.callV1 [.int (nI 2)] X (c_X6_fails l D cy am (sN S 62 (fun _ => 0)) F 2) mv_X6_fails gw_6_132 ⟨⟨(Nat.le_of_ble_eq_true rfl), (Nat.le_of_ble_eq_true rfl)⟩, (Nat.le_of_ble_eq_true rfl), (Nat.le_of_ble_eq_true rfl)⟩ (q0 := 0) (ci := 8) rfl rfl rfl (Nat.le_of_ble_eq_true rfl) dX6_addStep_71 ?_
            exact V.iret (v := nI 0) X hE rfl rfl (Nat.le_of_ble_eq_true rfl) (Nat.le_of_ble_eq_true rfl) (pM9 (j := 2) (by simp [kAS, hz11, hp, ep, hz21, eq, hz30, er, hz37, hz57]) (fun h => absurd h (by decide)) rfl) dX6_addStep_74
          · refine V.aload_n X dX6_addStep_60 rfl ?_
            refine wM_gX6_107 X dX6_addStep_61 ?_
            refine V.bipush (v := nI 16) X dX6_addStep_64 (by decide) ?_
            refine V.icmp_ne (tgt := 75) X dX6_addStep_66 (by decide) cN_ne (cN_eq (hB.n 44 _) (by decide)) (fun (hz66 : ¬ rN S 44 0 = 16) => ?_) (fun (hz66 : rN S 44 0 = 16) => ?_)
            · have h9n : ¬ 16 ≤ rN S 44 0 := by omega
              refine V.aload_n X dX6_addStep_75 rfl ?_
              refine wM_gX6_16 X dX6_addStep_76 ?_
              refine V.aload_n X dX6_addStep_79 rfl ?_
              refine wM_gX6_107 X dX6_addStep_80 ?_
              refine V.iload_n X dX6_addStep_83 rfl ?_
              refine wM_st3 (i := rN S 44 0) (v := p) (g := (rN S 10)) X (by omega) rfl dX6_addStep_84 ?_
              refine V.aload_n X dX6_addStep_85 rfl ?_
              refine wM_gX6_19 X dX6_addStep_86 ?_
              refine V.aload_n X dX6_addStep_89 rfl ?_
              refine wM_gX6_107 X dX6_addStep_90 ?_
              refine V.iload_n X dX6_addStep_93 rfl ?_
              refine wM_st4 (i := rN S 44 0) (v := q) (g := (rN S 11)) X (by omega) rfl dX6_addStep_94 ?_
              refine V.aload_n X dX6_addStep_95 rfl ?_
              refine wM_gX6_22 X dX6_addStep_96 ?_
              refine V.aload_n X dX6_addStep_99 rfl ?_
              refine wM_gX6_107 X dX6_addStep_100 ?_
              refine V.iload_n X dX6_addStep_103 rfl ?_
              refine wM_st5 (i := rN S 44 0) (v := r) (g := (rN S 12)) X (by omega) rfl dX6_addStep_104 ?_
              refine V.aload_n X dX6_addStep_105 rfl ?_
              refine wM_gX6_43 X dX6_addStep_106 ?_
              refine V.aload_n X dX6_addStep_109 rfl ?_
              refine wM_gX6_107 X dX6_addStep_110 ?_
              refine V.iload X dX6_addStep_113 rfl ?_
              refine wM_st12 (i := rN S 44 0) (v := jn) (g := (rC S 13)) X (by omega) rfl dX6_addStep_115 ?_
              refine V.aload_n X dX6_addStep_116 rfl ?_
              refine wM_gX6_54 X dX6_addStep_117 ?_
              refine V.aload_n X dX6_addStep_120 rfl ?_
              refine wM_gX6_107 X dX6_addStep_121 ?_
              refine V.iload X dX6_addStep_124 rfl ?_
              refine wM_st15 (i := rN S 44 0) (v := rv) (g := (rB S 14)) X (by omega) rfl dX6_addStep_126 ?_
              refine V.aload_n X dX6_addStep_127 rfl ?_
              refine wM_gX6_28 X dX6_addStep_128 ?_
              refine V.aload_n X dX6_addStep_131 rfl ?_
              refine wM_gX6_107 X dX6_addStep_132 ?_
              refine V.iconst (v := o2i none) X dX6_addStep_135 rfl ?_
              refine wM_st7 (i := rN S 44 0) (v := none) (g := (rO S 16)) X (by omega) rfl dX6_addStep_136 ?_
              refine V.aload_n X dX6_addStep_137 rfl ?_
              refine wM_gX6_60 X dX6_addStep_138 ?_
              refine V.aload_n X dX6_addStep_141 rfl ?_
              refine wM_gX6_107 X dX6_addStep_142 ?_
              refine V.bipush (v := nI 111) X dX6_addStep_145 (by decide) ?_
              refine wM_st17 (i := rN S 44 0) (v := 111) (g := (rC S 64)) X (by omega) rfl dX6_addStep_147 ?_
              refine V.aload_n X dX6_addStep_148 rfl ?_
              refine V.dup X dX6_addStep_149 rfl ?_
              refine wM_gX6_107 X dX6_addStep_150 ?_
              refine V.iconst (v := nI 1) X dX6_addStep_153 rfl ?_
              refine V.iadd (v := nI (rN S 44 0 + 1)) X dX6_addStep_154 (nI_add _ _) ?_
              refine wM_pX6_107 (v := rN S 44 0 + 1) X dX6_addStep_155 ?_
              refine V.aload_n X dX6_addStep_158 rfl ?_
              refine wM_gX6_107 X dX6_addStep_159 ?_
              refine V.iconst (v := nI 1) X dX6_addStep_162 rfl ?_
              refine V.isub (v := nI ((rN S 44 0 + 1) - 1)) X dX6_addStep_163 (pk_sub (show 1 ≤ rN S 44 0 + 1 by omega)) ?_
              exact V.iret (v := nI ((rN S 44 0 + 1) - 1)) X hE rfl rfl (Nat.le_of_ble_eq_true rfl) (Nat.le_of_ble_eq_true rfl) (pM9 (j := 0) (by simp [kAS, hz11, hp, ep, hz21, eq, hz30, er, hz37, hz57, hz66, h9n]) (fun h9 => (by first | rfl | simp)) (by first | (simp only [sAS, ep, eq, er]; done) | (simp only [sAS, ep, eq, er]; rfl) | rfl)) dX6_addStep_164
            · have h9n : 16 ≤ rN S 44 0 := by omega
              refine V.aload_n X dX6_addStep_69 rfl ?_
              refine V.iconst (v := nI 2) X dX6_addStep_70 rfl ?_
              refine V.callV1 [.int (nI 2)] X (c_X6_fails l D cy am (sN S 62 (fun _ => 0)) F 2) mv_X6_fails gw_6_132 ⟨⟨(Nat.le_of_ble_eq_true rfl), (Nat.le_of_ble_eq_true rfl)⟩, (Nat.le_of_ble_eq_true rfl), (Nat.le_of_ble_eq_true rfl)⟩ (q0 := 0) (ci := 8) rfl rfl rfl (Nat.le_of_ble_eq_true rfl) dX6_addStep_71 ?_
              exact V.iret (v := nI 0) X hE rfl rfl (Nat.le_of_ble_eq_true rfl) (Nat.le_of_ble_eq_true rfl) (pM9 (j := 2) (by simp [kAS, hz11, hp, ep, hz21, eq, hz30, er, hz37, hz57, hz66, h9n]) (fun h => absurd h (by decide)) rfl) dX6_addStep_74
        · refine V.iload X dX6_addStep_40 rfl ?_
          refine V.bipush (v := nI 111) X dX6_addStep_42 (by decide) ?_
          refine V.icmp_eq (tgt := 53) X dX6_addStep_44 (by decide) (cC_eq (a := jn) (b := 111)) (cC_ne (a := jn) (b := 111)) (fun (hz44 : jn = 111) => ?_) (fun (hz44 : ¬ jn = 111) => ?_)
          · refine V.aload_n X dX6_addStep_53 rfl ?_
            refine wM_gX6_124 X dX6_addStep_54 ?_
            refine V.if_ne (tgt := 69) X dX6_addStep_57 (by decide) b2i_n0 b2i_0 (fun (hz57 : rB S 41 0 = true) => ?_) (fun (hz57 : rB S 41 0 = false) => ?_)
            · refine V.aload_n X dX6_addStep_69 rfl ?_
              refine V.iconst (v := nI 2) X dX6_addStep_70 rfl ?_
              refine V.callV1 [.int (nI 2)] X (c_X6_fails l D cy am (sN S 62 (fun _ => 0)) F 2) mv_X6_fails gw_6_132 ⟨⟨(Nat.le_of_ble_eq_true rfl), (Nat.le_of_ble_eq_true rfl)⟩, (Nat.le_of_ble_eq_true rfl), (Nat.le_of_ble_eq_true rfl)⟩ (q0 := 0) (ci := 8) rfl rfl rfl (Nat.le_of_ble_eq_true rfl) dX6_addStep_71 ?_
              exact V.iret (v := nI 0) X hE rfl rfl (Nat.le_of_ble_eq_true rfl) (Nat.le_of_ble_eq_true rfl) (pM9 (j := 2) (by simp [kAS, hz11, hp, ep, hz21, eq, hz30, er, hz37, hz44, hz57]) (fun h => absurd h (by decide)) rfl) dX6_addStep_74
            · refine V.aload_n X dX6_addStep_60 rfl ?_
              refine wM_gX6_107 X dX6_addStep_61 ?_
              refine V.bipush (v := nI 16) X dX6_addStep_64 (by decide) ?_
              refine V.icmp_ne (tgt := 75) X dX6_addStep_66 (by decide) cN_ne (cN_eq (hB.n 44 _) (by decide)) (fun (hz66 : ¬ rN S 44 0 = 16) => ?_) (fun (hz66 : rN S 44 0 = 16) => ?_)
              · have h9n : ¬ 16 ≤ rN S 44 0 := by omega
                refine V.aload_n X dX6_addStep_75 rfl ?_
                refine wM_gX6_16 X dX6_addStep_76 ?_
                refine V.aload_n X dX6_addStep_79 rfl ?_
                refine wM_gX6_107 X dX6_addStep_80 ?_
                refine V.iload_n X dX6_addStep_83 rfl ?_
                refine wM_st3 (i := rN S 44 0) (v := p) (g := (rN S 10)) X (by omega) rfl dX6_addStep_84 ?_
                refine V.aload_n X dX6_addStep_85 rfl ?_
                refine wM_gX6_19 X dX6_addStep_86 ?_
                refine V.aload_n X dX6_addStep_89 rfl ?_
                refine wM_gX6_107 X dX6_addStep_90 ?_
                refine V.iload_n X dX6_addStep_93 rfl ?_
                refine wM_st4 (i := rN S 44 0) (v := q) (g := (rN S 11)) X (by omega) rfl dX6_addStep_94 ?_
                refine V.aload_n X dX6_addStep_95 rfl ?_
                refine wM_gX6_22 X dX6_addStep_96 ?_
                refine V.aload_n X dX6_addStep_99 rfl ?_
                refine wM_gX6_107 X dX6_addStep_100 ?_
                refine V.iload_n X dX6_addStep_103 rfl ?_
                refine wM_st5 (i := rN S 44 0) (v := r) (g := (rN S 12)) X (by omega) rfl dX6_addStep_104 ?_
                refine V.aload_n X dX6_addStep_105 rfl ?_
                refine wM_gX6_43 X dX6_addStep_106 ?_
                refine V.aload_n X dX6_addStep_109 rfl ?_
                refine wM_gX6_107 X dX6_addStep_110 ?_
                refine V.iload X dX6_addStep_113 rfl ?_
                refine wM_st12 (i := rN S 44 0) (v := jn) (g := (rC S 13)) X (by omega) rfl dX6_addStep_115 ?_
                refine V.aload_n X dX6_addStep_116 rfl ?_
                refine wM_gX6_54 X dX6_addStep_117 ?_
                refine V.aload_n X dX6_addStep_120 rfl ?_
                refine wM_gX6_107 X dX6_addStep_121 ?_
                refine V.iload X dX6_addStep_124 rfl ?_
                refine wM_st15 (i := rN S 44 0) (v := rv) (g := (rB S 14)) X (by omega) rfl dX6_addStep_126 ?_
                refine V.aload_n X dX6_addStep_127 rfl ?_
                refine wM_gX6_28 X dX6_addStep_128 ?_
                refine V.aload_n X dX6_addStep_131 rfl ?_
                refine wM_gX6_107 X dX6_addStep_132 ?_
                refine V.iconst (v := o2i none) X dX6_addStep_135 rfl ?_
                refine wM_st7 (i := rN S 44 0) (v := none) (g := (rO S 16)) X (by omega) rfl dX6_addStep_136 ?_
                refine V.aload_n X dX6_addStep_137 rfl ?_
                refine wM_gX6_60 X dX6_addStep_138 ?_
                refine V.aload_n X dX6_addStep_141 rfl ?_
                refine wM_gX6_107 X dX6_addStep_142 ?_
                refine V.bipush (v := nI 111) X dX6_addStep_145 (by decide) ?_
                refine wM_st17 (i := rN S 44 0) (v := 111) (g := (rC S 64)) X (by omega) rfl dX6_addStep_147 ?_
                refine V.aload_n X dX6_addStep_148 rfl ?_
                refine V.dup X dX6_addStep_149 rfl ?_
                refine wM_gX6_107 X dX6_addStep_150 ?_
                refine V.iconst (v := nI 1) X dX6_addStep_153 rfl ?_
                refine V.iadd (v := nI (rN S 44 0 + 1)) X dX6_addStep_154 (nI_add _ _) ?_
                refine wM_pX6_107 (v := rN S 44 0 + 1) X dX6_addStep_155 ?_
                refine V.aload_n X dX6_addStep_158 rfl ?_
                refine wM_gX6_107 X dX6_addStep_159 ?_
                refine V.iconst (v := nI 1) X dX6_addStep_162 rfl ?_
                refine V.isub (v := nI ((rN S 44 0 + 1) - 1)) X dX6_addStep_163 (pk_sub (show 1 ≤ rN S 44 0 + 1 by omega)) ?_
                exact V.iret (v := nI ((rN S 44 0 + 1) - 1)) X hE rfl rfl (Nat.le_of_ble_eq_true rfl) (Nat.le_of_ble_eq_true rfl) (pM9 (j := 0) (by simp [kAS, hz11, hp, ep, hz21, eq, hz30, er, hz37, hz44, hz57, hz66, h9n]) (fun h9 => (by first | rfl | simp)) (by first | (simp only [sAS, ep, eq, er]; done) | (simp only [sAS, ep, eq, er]; rfl) | rfl)) dX6_addStep_164
              · have h9n : 16 ≤ rN S 44 0 := by omega
                refine V.aload_n X dX6_addStep_69 rfl ?_
                refine V.iconst (v := nI 2) X dX6_addStep_70 rfl ?_
                refine V.callV1 [.int (nI 2)] X (c_X6_fails l D cy am (sN S 62 (fun _ => 0)) F 2) mv_X6_fails gw_6_132 ⟨⟨(Nat.le_of_ble_eq_true rfl), (Nat.le_of_ble_eq_true rfl)⟩, (Nat.le_of_ble_eq_true rfl), (Nat.le_of_ble_eq_true rfl)⟩ (q0 := 0) (ci := 8) rfl rfl rfl (Nat.le_of_ble_eq_true rfl) dX6_addStep_71 ?_
                exact V.iret (v := nI 0) X hE rfl rfl (Nat.le_of_ble_eq_true rfl) (Nat.le_of_ble_eq_true rfl) (pM9 (j := 2) (by simp [kAS, hz11, hp, ep, hz21, eq, hz30, er, hz37, hz44, hz57, hz66, h9n]) (fun h => absurd h (by decide)) rfl) dX6_addStep_74
          · refine V.aload_n X dX6_addStep_47 rfl ?_
            refine V.iconst (v := nI 1) X dX6_addStep_48 rfl ?_
            refine V.callV1 [.int (nI 1)] X (c_X6_fails l D cy am (sN S 62 (fun _ => 0)) F 1) mv_X6_fails gw_6_132 ⟨⟨(Nat.le_of_ble_eq_true rfl), (Nat.le_of_ble_eq_true rfl)⟩, (Nat.le_of_ble_eq_true rfl), (Nat.le_of_ble_eq_true rfl)⟩ (q0 := 0) (ci := 8) rfl rfl rfl (Nat.le_of_ble_eq_true rfl) dX6_addStep_49 ?_
            exact V.iret (v := nI 0) X hE rfl rfl (Nat.le_of_ble_eq_true rfl) (Nat.le_of_ble_eq_true rfl) (pM9 (j := 1) (by simp [kAS, hz11, hp, ep, hz21, eq, hz30, er, hz37, hz44]) (fun h => absurd h (by decide)) rfl) dX6_addStep_52
set_option maxRecDepth 20000 in
set_option maxHeartbeats 4000000 in
theorem c_X6_need (l : Launch) (D : va_G) (cy : Nat → ClassId) (am : Nat → Nat) (S : St) (F : va_W) (x : Int32) (y : Int32) (hI : Inv S) : Ctr l D cy yX6_need (.code yX6_need cX6_need 3 (some FieldType.int)) ({ frames := 12, cells := 0, slots := 0, locals := 400 } : Room) [.ref (am 0), .int x, .int y] (wM am cy S ++ F) (pMx (kND S x y) (nI (popc (vND S x y))) (fun k9 => wM am cy (sN (bif Nat.beq k9 0 then (sND S x y) else S) 62 (fun _ => k9)) ++ F)) pNo := by
  refine Ctr.of (by decide) (Nat.le_of_ble_eq_true rfl) ?_
  intro M X hE hN hB9 hI9
  replace X : VX l D M cy cX6_need "RunbookerModel" (some FieldType.int) ({ frames := 12, cells := 0, slots := 0, locals := 400 } : Room) := X
  show V l D M 0 0 (wM am cy S ++ F) [(0, .ref (am 0)), (1, .int x), (2, .int y)] 0 []
  have hW := hI.w
  have hB := hW.b
  have h43 := hW.n43
  have h44 := hW.n44
  have h46 := hW.n46
  have h45 := hW.n45
  have hcl := hW.cl
  have hen := hW.en
  have hW0 : Wk (sN S 62 (fun _ => 0)) := hW.s62 (fun _ => by decide)
  have hcr : cntR S ≤ rN S 44 0 := cnt9_le _ _
  refine V.aload_n X dX6_need_0 rfl ?_
  refine V.iconst (v := nI 0) X dX6_need_1 rfl ?_
  refine wM_pX6_97 (v := 0) X dX6_need_2 ?_
  refine V.aload_n X dX6_need_5 rfl ?_
  refine V.iload_n X dX6_need_6 rfl ?_
  refine V.callV1 [.int x] X (c_X6_isStep l D cy am (sN S 62 (fun _ => 0)) F x (hW0.b)) mv_X6_isStep gw_6_160 ⟨⟨(Nat.le_of_ble_eq_true rfl), (Nat.le_of_ble_eq_true rfl)⟩, (Nat.le_of_ble_eq_true rfl), (Nat.le_of_ble_eq_true rfl)⟩ (q0 := 0) (ci := 8) rfl rfl rfl (Nat.le_of_ble_eq_true rfl) dX6_need_7 ?_
  refine V.if_eq (tgt := 21) X dX6_need_10 (by decide) b2i_0 b2i_n0 (fun (hz10 : inR x (rN S 44 0) = false) => ?_) (fun (hz10 : inR x (rN S 44 0) = true) => ?_)
  · refine V.aload_n X dX6_need_21 rfl ?_
    refine V.iconst (v := nI 1) X dX6_need_22 rfl ?_
    refine V.callV1 [.int (nI 1)] X (c_X6_fails l D cy am (sN S 62 (fun _ => 0)) F 1) mv_X6_fails gw_6_132 ⟨⟨(Nat.le_of_ble_eq_true rfl), (Nat.le_of_ble_eq_true rfl)⟩, (Nat.le_of_ble_eq_true rfl), (Nat.le_of_ble_eq_true rfl)⟩ (q0 := 0) (ci := 8) rfl rfl rfl (Nat.le_of_ble_eq_true rfl) dX6_need_23 ?_
    exact V.iret (v := nI 0) X hE rfl rfl (Nat.le_of_ble_eq_true rfl) (Nat.le_of_ble_eq_true rfl) (pM9 (j := 1) (by simp [kND, ins9, bit9, hz10]) (fun h => absurd h (by decide)) rfl) dX6_need_26
  · obtain ⟨p, hp, rfl⟩ := inR_of hz10 (by omega)
    have ep : ix (nI p) = p := ix_nI (by omega)
    refine V.aload_n X dX6_need_13 rfl ?_
    refine V.iload_n X dX6_need_14 rfl ?_
    refine V.callV1 [.int y] X (c_X6_isStep l D cy am (sN S 62 (fun _ => 0)) F y (hW0.b)) mv_X6_isStep gw_6_160 ⟨⟨(Nat.le_of_ble_eq_true rfl), (Nat.le_of_ble_eq_true rfl)⟩, (Nat.le_of_ble_eq_true rfl), (Nat.le_of_ble_eq_true rfl)⟩ (q0 := 0) (ci := 8) rfl rfl rfl (Nat.le_of_ble_eq_true rfl) dX6_need_15 ?_
    refine V.if_ne (tgt := 27) X dX6_need_18 (by decide) b2i_n0 b2i_0 (fun (hz18 : inR y (rN S 44 0) = true) => ?_) (fun (hz18 : inR y (rN S 44 0) = false) => ?_)
    · obtain ⟨q, hq, rfl⟩ := inR_of hz18 (by omega)
      have eq : ix (nI q) = q := ix_nI (by omega)
      refine V.iload_n X dX6_need_27 rfl ?_
      refine V.iload_n X dX6_need_28 rfl ?_
      refine V.icmp_lt (tgt := 38) X dX6_need_29 (by decide) (cN_lt (by omega) (by omega)) (cN_nlt (by omega) (by omega)) (fun (hz29 : q < p) => ?_) (fun (hz29 : p ≤ q) => ?_)
      · refine V.aload_n X dX6_need_38 rfl ?_
        refine wM_gX6_124 X dX6_need_39 ?_
        refine V.if_ne (tgt := 58) X dX6_need_42 (by decide) b2i_n0 b2i_0 (fun (hz42 : rB S 41 0 = true) => ?_) (fun (hz42 : rB S 41 0 = false) => ?_)
        · refine V.aload_n X dX6_need_58 rfl ?_
          refine V.iconst (v := nI 3) X dX6_need_59 rfl ?_
          refine V.callV1 [.int (nI 3)] X (c_X6_fails l D cy am (sN S 62 (fun _ => 0)) F 3) mv_X6_fails gw_6_132 ⟨⟨(Nat.le_of_ble_eq_true rfl), (Nat.le_of_ble_eq_true rfl)⟩, (Nat.le_of_ble_eq_true rfl), (Nat.le_of_ble_eq_true rfl)⟩ (q0 := 0) (ci := 8) rfl rfl rfl (Nat.le_of_ble_eq_true rfl) dX6_need_60 ?_
          exact V.iret (v := nI 0) X hE rfl rfl (Nat.le_of_ble_eq_true rfl) (Nat.le_of_ble_eq_true rfl) (pM9 (j := 3) (by simp [kND, ins9, bit9, hz10, hp, ep, hz18, hq, eq, hz29, (Nat.not_le.mpr hz29), hz42]) (fun h => absurd h (by decide)) rfl) dX6_need_63
        · refine V.aload_n X dX6_need_45 rfl ?_
          refine wM_gX6_25 X dX6_need_46 ?_
          refine V.iload_n X dX6_need_49 rfl ?_
          refine wM_ld6 (i := p) X (by omega) dX6_need_50 ?_
          refine V.iload_n X dX6_need_51 rfl ?_
          refine V.callS1 [.int (rI S 15 p), .int (nI q)] X (c_X6_has l D cy am (sN S 62 (fun _ => 0)) F (rI S 15 p) (nI q)) ms_X6_has gw_6_164 ⟨⟨(Nat.le_of_ble_eq_true rfl), (Nat.le_of_ble_eq_true rfl)⟩, (Nat.le_of_ble_eq_true rfl), (Nat.le_of_ble_eq_true rfl)⟩ rfl (Nat.le_of_ble_eq_true rfl) dX6_need_52 ?_
          refine V.if_eq (tgt := 64) X dX6_need_55 (by decide) b2i_0 b2i_n0 (fun (hz55 : hasBit (rI S 15 p) (nI q) = false) => ?_) (fun (hz55 : hasBit (rI S 15 p) (nI q) = true) => ?_)
          · refine V.aload_n X dX6_need_64 rfl ?_
            refine wM_gX6_25 X dX6_need_65 ?_
            refine V.iload_n X dX6_need_68 rfl ?_
            refine V.dup2 X dX6_need_69 rfl rfl ?_
            refine wM_ld6 (i := p) X (by omega) dX6_need_70 ?_
            refine V.iconst (v := nI 1) X dX6_need_71 rfl ?_
            refine V.iload_n X dX6_need_72 rfl ?_
            refine V.ishl (v := (nI 1) <<< ((nI q) &&& 31)) X dX6_need_73 rfl ?_
            refine V.ior (v := (rI S 15 p) ||| ((nI 1) <<< ((nI q) &&& 31))) X dX6_need_74 rfl ?_
            refine wM_st6 (i := p) (v := (rI S 15 p) ||| ((nI 1) <<< ((nI q) &&& 31))) (g := (rI S 15)) X (by omega) rfl dX6_need_75 ?_
            refine V.aload_n X dX6_need_76 rfl ?_
            refine wM_gX6_25 X dX6_need_77 ?_
            refine V.iload_n X dX6_need_80 rfl ?_
            refine wM_ld6 (i := p) X (by omega) dX6_need_81 ?_
            refine V.top up1_same ?_
            refine V.callS1 [.int ((rI S 15 p) ||| ((nI 1) <<< ((nI q) &&& 31)))] X (c_X6_size l D cy am (sI (sN S 62 (fun _ => 0)) 15 (up1 (rI S 15) p ((rI S 15 p) ||| ((nI 1) <<< ((nI q) &&& 31))))) F ((rI S 15 p) ||| ((nI 1) <<< ((nI q) &&& 31)))) ms_X6_size gw_6_167 ⟨⟨(Nat.le_of_ble_eq_true rfl), (Nat.le_of_ble_eq_true rfl)⟩, (Nat.le_of_ble_eq_true rfl), (Nat.le_of_ble_eq_true rfl)⟩ rfl (Nat.le_of_ble_eq_true rfl) dX6_need_82 ?_
            exact V.iret (v := nI (popc ((rI S 15 p) ||| ((nI 1) <<< ((nI q) &&& 31))))) X hE rfl rfl (Nat.le_of_ble_eq_true rfl) (Nat.le_of_ble_eq_true rfl) (pM9 (j := 0) (by simp [kND, ins9, bit9, hz10, hp, ep, hz18, hq, eq, hz29, (Nat.not_le.mpr hz29), hz42, hz55]) (fun h9 => (by simp only [vND, ep, eq])) (by first | (simp only [sND, vND, ep, eq]; done) | (simp only [sND, vND, ep, eq]; rfl) | rfl)) dX6_need_85
          · refine V.aload_n X dX6_need_58 rfl ?_
            refine V.iconst (v := nI 3) X dX6_need_59 rfl ?_
            refine V.callV1 [.int (nI 3)] X (c_X6_fails l D cy am (sN S 62 (fun _ => 0)) F 3) mv_X6_fails gw_6_132 ⟨⟨(Nat.le_of_ble_eq_true rfl), (Nat.le_of_ble_eq_true rfl)⟩, (Nat.le_of_ble_eq_true rfl), (Nat.le_of_ble_eq_true rfl)⟩ (q0 := 0) (ci := 8) rfl rfl rfl (Nat.le_of_ble_eq_true rfl) dX6_need_60 ?_
            exact V.iret (v := nI 0) X hE rfl rfl (Nat.le_of_ble_eq_true rfl) (Nat.le_of_ble_eq_true rfl) (pM9 (j := 3) (by simp [kND, ins9, bit9, hz10, hp, ep, hz18, hq, eq, hz29, (Nat.not_le.mpr hz29), hz42, hz55]) (fun h => absurd h (by decide)) rfl) dX6_need_63
      · refine V.aload_n X dX6_need_32 rfl ?_
        refine V.iconst (v := nI 2) X dX6_need_33 rfl ?_
        refine V.callV1 [.int (nI 2)] X (c_X6_fails l D cy am (sN S 62 (fun _ => 0)) F 2) mv_X6_fails gw_6_132 ⟨⟨(Nat.le_of_ble_eq_true rfl), (Nat.le_of_ble_eq_true rfl)⟩, (Nat.le_of_ble_eq_true rfl), (Nat.le_of_ble_eq_true rfl)⟩ (q0 := 0) (ci := 8) rfl rfl rfl (Nat.le_of_ble_eq_true rfl) dX6_need_34 ?_
        exact V.iret (v := nI 0) X hE rfl rfl (Nat.le_of_ble_eq_true rfl) (Nat.le_of_ble_eq_true rfl) (pM9 (j := 2) (by simp [kND, ins9, bit9, hz10, hp, ep, hz18, hq, eq, hz29, (Nat.not_lt.mpr hz29)]) (fun h => absurd h (by decide)) rfl) dX6_need_37
    · refine V.aload_n X dX6_need_21 rfl ?_
      refine V.iconst (v := nI 1) X dX6_need_22 rfl ?_
      refine V.callV1 [.int (nI 1)] X (c_X6_fails l D cy am (sN S 62 (fun _ => 0)) F 1) mv_X6_fails gw_6_132 ⟨⟨(Nat.le_of_ble_eq_true rfl), (Nat.le_of_ble_eq_true rfl)⟩, (Nat.le_of_ble_eq_true rfl), (Nat.le_of_ble_eq_true rfl)⟩ (q0 := 0) (ci := 8) rfl rfl rfl (Nat.le_of_ble_eq_true rfl) dX6_need_23 ?_
      exact V.iret (v := nI 0) X hE rfl rfl (Nat.le_of_ble_eq_true rfl) (Nat.le_of_ble_eq_true rfl) (pM9 (j := 1) (by simp [kND, ins9, bit9, hz10, hp, ep, hz18]) (fun h => absurd h (by decide)) rfl) dX6_need_26
set_option maxRecDepth 20000 in
set_option maxHeartbeats 4000000 in
theorem c_X6_condition (l : Launch) (D : va_G) (cy : Nat → ClassId) (am : Nat → Nat) (S : St) (F : va_W) (x : Int32) (se : Int32) (sg : UInt16) (b : Int32) (hI : Inv S) : Ctr l D cy yX6_condition (.code yX6_condition cX6_condition 6 (some FieldType.int)) ({ frames := 12, cells := 0, slots := 0, locals := 400 } : Room) [.ref (am 0), .int x, .int se, .int (c2i sg), .int b] (wM am cy S ++ F) (pMx (kCD S x se sg b) (nI (rN S 17 (ix x) + 1)) (fun k9 => wM am cy (sN (bif Nat.beq k9 0 then (sCD S x se sg b) else S) 62 (fun _ => k9)) ++ F)) pNo := by
  refine Ctr.of (by decide) (Nat.le_of_ble_eq_true rfl) ?_
  intro M X hE hN hB9 hI9
  replace X : VX l D M cy cX6_condition "RunbookerModel" (some FieldType.int) ({ frames := 12, cells := 0, slots := 0, locals := 400 } : Room) := X
  show V l D M 0 0 (wM am cy S ++ F) [(0, .ref (am 0)), (1, .int x), (2, .int se), (3, .int (c2i sg)), (4, .int b)] 0 []
  have hW := hI.w
  have hB := hW.b
  have h43 := hW.n43
  have h44 := hW.n44
  have h46 := hW.n46
  have h45 := hW.n45
  have hcl := hW.cl
  have hen := hW.en
  have hW0 : Wk (sN S 62 (fun _ => 0)) := hW.s62 (fun _ => by decide)
  have hcr : cntR S ≤ rN S 44 0 := cnt9_le _ _
  have hcc := hW.cc
  refine V.aload_n X dX6_condition_0 rfl ?_
  refine V.iconst (v := nI 0) X dX6_condition_1 rfl ?_
  refine wM_pX6_97 (v := 0) X dX6_condition_2 ?_
  refine V.aload_n X dX6_condition_5 rfl ?_
  refine V.iload_n X dX6_condition_6 rfl ?_
  refine V.callV1 [.int x] X (c_X6_isStep l D cy am (sN S 62 (fun _ => 0)) F x (hW0.b)) mv_X6_isStep gw_6_160 ⟨⟨(Nat.le_of_ble_eq_true rfl), (Nat.le_of_ble_eq_true rfl)⟩, (Nat.le_of_ble_eq_true rfl), (Nat.le_of_ble_eq_true rfl)⟩ (q0 := 0) (ci := 8) rfl rfl rfl (Nat.le_of_ble_eq_true rfl) dX6_condition_7 ?_
  refine V.if_ne (tgt := 19) X dX6_condition_10 (by decide) b2i_n0 b2i_0 (fun (hz10 : inR x (rN S 44 0) = true) => ?_) (fun (hz10 : inR x (rN S 44 0) = false) => ?_)
  · obtain ⟨p, hp, rfl⟩ := inR_of hz10 (by omega)
    have ep : ix (nI p) = p := ix_nI (by omega)
    refine V.iload_n X dX6_condition_19 rfl ?_
    refine V.iconst (v := nI 0) X dX6_condition_20 rfl ?_
    refine V.iconst (v := nI 5) X dX6_condition_21 rfl ?_
    refine V.callS1 [.int se, .int (nI 0), .int (nI 5)] X (c_X6_isBetween l D cy am (sN S 62 (fun _ => 0)) F se (nI 0) (nI 5)) ms_X6_isBetween gw_6_129 ⟨⟨(Nat.le_of_ble_eq_true rfl), (Nat.le_of_ble_eq_true rfl)⟩, (Nat.le_of_ble_eq_true rfl), (Nat.le_of_ble_eq_true rfl)⟩ rfl (Nat.le_of_ble_eq_true rfl) dX6_condition_22 ?_
    refine V.top (congrArg b2i (btw5 se)) ?_
    refine V.if_eq (tgt := 60) X dX6_condition_25 (by decide) b2i_0 b2i_n0 (fun (hz25 : inR se 6 = false) => ?_) (fun (hz25 : inR se 6 = true) => ?_)
    · refine V.aload_n X dX6_condition_60 rfl ?_
      refine V.iconst (v := nI 2) X dX6_condition_61 rfl ?_
      refine V.callV1 [.int (nI 2)] X (c_X6_fails l D cy am (sN S 62 (fun _ => 0)) F 2) mv_X6_fails gw_6_132 ⟨⟨(Nat.le_of_ble_eq_true rfl), (Nat.le_of_ble_eq_true rfl)⟩, (Nat.le_of_ble_eq_true rfl), (Nat.le_of_ble_eq_true rfl)⟩ (q0 := 0) (ci := 8) rfl rfl rfl (Nat.le_of_ble_eq_true rfl) dX6_condition_62 ?_
      exact V.iret (v := nI 0) X hE rfl rfl (Nat.le_of_ble_eq_true rfl) (Nat.le_of_ble_eq_true rfl) (pM9 (j := 2) (by simp [kCD, ins9, hz10, hp, ep, hz25]) (fun h => absurd h (by decide)) rfl) dX6_condition_65
    · obtain ⟨q, hq, rfl⟩ := inR_of hz25 (by omega)
      have eq : ix (nI q) = q := ix_nI (by omega)
      refine V.iload_n X dX6_condition_28 rfl ?_
      refine V.bipush (v := nI 60) X dX6_condition_29 (by decide) ?_
      refine V.icmp_eq (tgt := 46) X dX6_condition_31 (by decide) (cC_eq (a := sg) (b := 60)) (cC_ne (a := sg) (b := 60)) (fun (hz31 : sg = 60) => ?_) (fun (hz31 : ¬ sg = 60) => ?_)
      · refine V.iload X dX6_condition_46 rfl ?_
        refine V.sipush (v := -999) X dX6_condition_48 (by decide) ?_
        refine V.sipush (v := nI 999) X dX6_condition_51 (by decide) ?_
        refine V.callS1 [.int b, .int (-999), .int (nI 999)] X (c_X6_isBetween l D cy am (sN S 62 (fun _ => 0)) F b (-999) (nI 999)) ms_X6_isBetween gw_6_129 ⟨⟨(Nat.le_of_ble_eq_true rfl), (Nat.le_of_ble_eq_true rfl)⟩, (Nat.le_of_ble_eq_true rfl), (Nat.le_of_ble_eq_true rfl)⟩ rfl (Nat.le_of_ble_eq_true rfl) dX6_condition_54 ?_
        refine V.top (congrArg b2i (btwR b)) ?_
        refine V.if_ne (tgt := 66) X dX6_condition_57 (by decide) b2i_n0 b2i_0 (fun (hz57 : rdgB b = true) => ?_) (fun (hz57 : rdgB b = false) => ?_)
        · refine V.aload_n X dX6_condition_66 rfl ?_
          refine wM_gX6_124 X dX6_condition_67 ?_
          refine V.if_ne (tgt := 83) X dX6_condition_70 (by decide) b2i_n0 b2i_0 (fun (hz70 : rB S 41 0 = true) => ?_) (fun (hz70 : rB S 41 0 = false) => ?_)
          · refine V.aload_n X dX6_condition_83 rfl ?_
            refine V.iconst (v := nI 3) X dX6_condition_84 rfl ?_
            refine V.callV1 [.int (nI 3)] X (c_X6_fails l D cy am (sN S 62 (fun _ => 0)) F 3) mv_X6_fails gw_6_132 ⟨⟨(Nat.le_of_ble_eq_true rfl), (Nat.le_of_ble_eq_true rfl)⟩, (Nat.le_of_ble_eq_true rfl), (Nat.le_of_ble_eq_true rfl)⟩ (q0 := 0) (ci := 8) rfl rfl rfl (Nat.le_of_ble_eq_true rfl) dX6_condition_85 ?_
            exact V.iret (v := nI 0) X hE rfl rfl (Nat.le_of_ble_eq_true rfl) (Nat.le_of_ble_eq_true rfl) (pM9 (j := 3) (by simp [kCD, ins9, hz10, hp, ep, hz25, hq, eq, hz31, hz57, hz70]) (fun h => absurd h (by decide)) rfl) dX6_condition_88
          · refine V.aload_n X dX6_condition_73 rfl ?_
            refine wM_gX6_31 X dX6_condition_74 ?_
            refine V.iload_n X dX6_condition_77 rfl ?_
            refine wM_ld8 (i := p) X (by omega) dX6_condition_78 ?_
            refine V.iconst (v := nI 2) X dX6_condition_79 rfl ?_
            refine V.icmp_ne (tgt := 89) X dX6_condition_80 (by decide) cN_ne (cN_eq (hB.n 17 _) (by decide)) (fun (hz80 : ¬ rN S 17 p = 2) => ?_) (fun (hz80 : rN S 17 p = 2) => ?_)
            · have hcp := hcc p
              have h9n : ¬ 2 ≤ rN S 17 p := by omega
              refine V.iconst (v := nI 2) X dX6_condition_89 rfl ?_
              refine V.iload_n X dX6_condition_90 rfl ?_
              refine V.imul (v := nI (2 * p)) X dX6_condition_91 (pk_mul _ _) ?_
              refine V.aload_n X dX6_condition_92 rfl ?_
              refine wM_gX6_31 X dX6_condition_93 ?_
              refine V.iload_n X dX6_condition_96 rfl ?_
              refine wM_ld8 (i := p) X (by omega) dX6_condition_97 ?_
              refine V.iadd (v := nI (2 * p + (rN S 17 p))) X dX6_condition_98 (nI_add _ _) ?_
              refine V.istore (L' := [(5, .int (nI (2 * p + (rN S 17 p)))), (0, .ref (am 0)), (1, .int (nI p)), (2, .int (nI q)), (3, .int (c2i sg)), (4, .int b)]) X dX6_condition_99 hB9 (by decide) rfl ?_
              refine V.aload_n X dX6_condition_101 rfl ?_
              refine wM_gX6_34 X dX6_condition_102 ?_
              refine V.iload X dX6_condition_105 rfl ?_
              refine V.iload_n X dX6_condition_107 rfl ?_
              refine wM_st9 (i := 2 * p + (rN S 17 p)) (v := q) (g := (rN S 18)) X (by omega) rfl dX6_condition_108 ?_
              refine V.aload_n X dX6_condition_109 rfl ?_
              refine wM_gX6_47 X dX6_condition_110 ?_
              refine V.iload X dX6_condition_113 rfl ?_
              refine V.iload_n X dX6_condition_115 rfl ?_
              refine wM_st13 (i := 2 * p + (rN S 17 p)) (v := sg) (g := (rC S 19)) X (by omega) rfl dX6_condition_116 ?_
              refine V.aload_n X dX6_condition_117 rfl ?_
              refine wM_gX6_37 X dX6_condition_118 ?_
              refine V.iload X dX6_condition_121 rfl ?_
              refine V.iload X dX6_condition_123 rfl ?_
              refine wM_st10 (i := 2 * p + (rN S 17 p)) (v := b) (g := (rI S 20)) X (by omega) rfl dX6_condition_125 ?_
              refine V.aload_n X dX6_condition_126 rfl ?_
              refine wM_gX6_31 X dX6_condition_127 ?_
              refine V.iload_n X dX6_condition_130 rfl ?_
              refine V.dup2 X dX6_condition_131 rfl rfl ?_
              refine wM_ld8 (i := p) X (by omega) dX6_condition_132 ?_
              refine V.iconst (v := nI 1) X dX6_condition_133 rfl ?_
              refine V.iadd (v := nI (rN S 17 p + 1)) X dX6_condition_134 (nI_add _ _) ?_
              refine wM_st8 (i := p) (v := rN S 17 p + 1) (g := (rN S 17)) X (by omega) rfl dX6_condition_135 ?_
              refine V.aload_n X dX6_condition_136 rfl ?_
              refine wM_gX6_31 X dX6_condition_137 ?_
              refine V.iload_n X dX6_condition_140 rfl ?_
              refine wM_ld8 (i := p) X (by omega) dX6_condition_141 ?_
              refine V.top (congrArg nI up1_same) ?_
              exact V.iret (v := nI (rN S 17 p + 1)) X hE rfl rfl (Nat.le_of_ble_eq_true rfl) (Nat.le_of_ble_eq_true rfl) (pM9 (j := 0) (by simp [kCD, ins9, hz10, hp, ep, hz25, hq, eq, hz31, hz57, hz70, hz80, h9n]) (fun h9 => (by first | rfl | (simp only [ep, eq]; done) | simp [hz10, hp, ep, hz25, hq, eq, hz31, hz57, hz70, hz80, h9n])) (by first | (simp only [sCD, Nat.mul_comm, ep, eq]; done) | (simp only [sCD, Nat.mul_comm, ep, eq]; rfl) | rfl)) dX6_condition_142
            · have hcp := hcc p
              have h9n : 2 ≤ rN S 17 p := by omega
              refine V.aload_n X dX6_condition_83 rfl ?_
              refine V.iconst (v := nI 3) X dX6_condition_84 rfl ?_
              refine V.callV1 [.int (nI 3)] X (c_X6_fails l D cy am (sN S 62 (fun _ => 0)) F 3) mv_X6_fails gw_6_132 ⟨⟨(Nat.le_of_ble_eq_true rfl), (Nat.le_of_ble_eq_true rfl)⟩, (Nat.le_of_ble_eq_true rfl), (Nat.le_of_ble_eq_true rfl)⟩ (q0 := 0) (ci := 8) rfl rfl rfl (Nat.le_of_ble_eq_true rfl) dX6_condition_85 ?_
              exact V.iret (v := nI 0) X hE rfl rfl (Nat.le_of_ble_eq_true rfl) (Nat.le_of_ble_eq_true rfl) (pM9 (j := 3) (by simp [kCD, ins9, hz10, hp, ep, hz25, hq, eq, hz31, hz57, hz70, hz80, h9n]) (fun h => absurd h (by decide)) rfl) dX6_condition_88
        · refine V.aload_n X dX6_condition_60 rfl ?_
          refine V.iconst (v := nI 2) X dX6_condition_61 rfl ?_
          refine V.callV1 [.int (nI 2)] X (c_X6_fails l D cy am (sN S 62 (fun _ => 0)) F 2) mv_X6_fails gw_6_132 ⟨⟨(Nat.le_of_ble_eq_true rfl), (Nat.le_of_ble_eq_true rfl)⟩, (Nat.le_of_ble_eq_true rfl), (Nat.le_of_ble_eq_true rfl)⟩ (q0 := 0) (ci := 8) rfl rfl rfl (Nat.le_of_ble_eq_true rfl) dX6_condition_62 ?_
          exact V.iret (v := nI 0) X hE rfl rfl (Nat.le_of_ble_eq_true rfl) (Nat.le_of_ble_eq_true rfl) (pM9 (j := 2) (by simp [kCD, ins9, hz10, hp, ep, hz25, hq, eq, hz31, hz57]) (fun h => absurd h (by decide)) rfl) dX6_condition_65
      · refine V.iload_n X dX6_condition_34 rfl ?_
        refine V.bipush (v := nI 62) X dX6_condition_35 (by decide) ?_
        refine V.icmp_eq (tgt := 46) X dX6_condition_37 (by decide) (cC_eq (a := sg) (b := 62)) (cC_ne (a := sg) (b := 62)) (fun (hz37 : sg = 62) => ?_) (fun (hz37 : ¬ sg = 62) => ?_)
        · refine V.iload X dX6_condition_46 rfl ?_
          refine V.sipush (v := -999) X dX6_condition_48 (by decide) ?_
          refine V.sipush (v := nI 999) X dX6_condition_51 (by decide) ?_
          refine V.callS1 [.int b, .int (-999), .int (nI 999)] X (c_X6_isBetween l D cy am (sN S 62 (fun _ => 0)) F b (-999) (nI 999)) ms_X6_isBetween gw_6_129 ⟨⟨(Nat.le_of_ble_eq_true rfl), (Nat.le_of_ble_eq_true rfl)⟩, (Nat.le_of_ble_eq_true rfl), (Nat.le_of_ble_eq_true rfl)⟩ rfl (Nat.le_of_ble_eq_true rfl) dX6_condition_54 ?_
          refine V.top (congrArg b2i (btwR b)) ?_
          refine V.if_ne (tgt := 66) X dX6_condition_57 (by decide) b2i_n0 b2i_0 (fun (hz57 : rdgB b = true) => ?_) (fun (hz57 : rdgB b = false) => ?_)
          · refine V.aload_n X dX6_condition_66 rfl ?_
            refine wM_gX6_124 X dX6_condition_67 ?_
            refine V.if_ne (tgt := 83) X dX6_condition_70 (by decide) b2i_n0 b2i_0 (fun (hz70 : rB S 41 0 = true) => ?_) (fun (hz70 : rB S 41 0 = false) => ?_)
            · refine V.aload_n X dX6_condition_83 rfl ?_
              refine V.iconst (v := nI 3) X dX6_condition_84 rfl ?_
              refine V.callV1 [.int (nI 3)] X (c_X6_fails l D cy am (sN S 62 (fun _ => 0)) F 3) mv_X6_fails gw_6_132 ⟨⟨(Nat.le_of_ble_eq_true rfl), (Nat.le_of_ble_eq_true rfl)⟩, (Nat.le_of_ble_eq_true rfl), (Nat.le_of_ble_eq_true rfl)⟩ (q0 := 0) (ci := 8) rfl rfl rfl (Nat.le_of_ble_eq_true rfl) dX6_condition_85 ?_
              exact V.iret (v := nI 0) X hE rfl rfl (Nat.le_of_ble_eq_true rfl) (Nat.le_of_ble_eq_true rfl) (pM9 (j := 3) (by simp [kCD, ins9, hz10, hp, ep, hz25, hq, eq, hz31, hz37, hz57, hz70]) (fun h => absurd h (by decide)) rfl) dX6_condition_88
            · refine V.aload_n X dX6_condition_73 rfl ?_
              refine wM_gX6_31 X dX6_condition_74 ?_
              refine V.iload_n X dX6_condition_77 rfl ?_
              refine wM_ld8 (i := p) X (by omega) dX6_condition_78 ?_
              refine V.iconst (v := nI 2) X dX6_condition_79 rfl ?_
              refine V.icmp_ne (tgt := 89) X dX6_condition_80 (by decide) cN_ne (cN_eq (hB.n 17 _) (by decide)) (fun (hz80 : ¬ rN S 17 p = 2) => ?_) (fun (hz80 : rN S 17 p = 2) => ?_)
              · have hcp := hcc p
                have h9n : ¬ 2 ≤ rN S 17 p := by omega
                refine V.iconst (v := nI 2) X dX6_condition_89 rfl ?_
                refine V.iload_n X dX6_condition_90 rfl ?_
                refine V.imul (v := nI (2 * p)) X dX6_condition_91 (pk_mul _ _) ?_
                refine V.aload_n X dX6_condition_92 rfl ?_
                refine wM_gX6_31 X dX6_condition_93 ?_
                refine V.iload_n X dX6_condition_96 rfl ?_
                refine wM_ld8 (i := p) X (by omega) dX6_condition_97 ?_
                refine V.iadd (v := nI (2 * p + (rN S 17 p))) X dX6_condition_98 (nI_add _ _) ?_
                refine V.istore (L' := [(5, .int (nI (2 * p + (rN S 17 p)))), (0, .ref (am 0)), (1, .int (nI p)), (2, .int (nI q)), (3, .int (c2i sg)), (4, .int b)]) X dX6_condition_99 hB9 (by decide) rfl ?_
                refine V.aload_n X dX6_condition_101 rfl ?_
                refine wM_gX6_34 X dX6_condition_102 ?_
                refine V.iload X dX6_condition_105 rfl ?_
                refine V.iload_n X dX6_condition_107 rfl ?_
                refine wM_st9 (i := 2 * p + (rN S 17 p)) (v := q) (g := (rN S 18)) X (by omega) rfl dX6_condition_108 ?_
                refine V.aload_n X dX6_condition_109 rfl ?_
                refine wM_gX6_47 X dX6_condition_110 ?_
                refine V.iload X dX6_condition_113 rfl ?_
                refine V.iload_n X dX6_condition_115 rfl ?_
                refine wM_st13 (i := 2 * p + (rN S 17 p)) (v := sg) (g := (rC S 19)) X (by omega) rfl dX6_condition_116 ?_
                refine V.aload_n X dX6_condition_117 rfl ?_
                refine wM_gX6_37 X dX6_condition_118 ?_
                refine V.iload X dX6_condition_121 rfl ?_
                refine V.iload X dX6_condition_123 rfl ?_
                refine wM_st10 (i := 2 * p + (rN S 17 p)) (v := b) (g := (rI S 20)) X (by omega) rfl dX6_condition_125 ?_
                refine V.aload_n X dX6_condition_126 rfl ?_
                refine wM_gX6_31 X dX6_condition_127 ?_
                refine V.iload_n X dX6_condition_130 rfl ?_
                refine V.dup2 X dX6_condition_131 rfl rfl ?_
                refine wM_ld8 (i := p) X (by omega) dX6_condition_132 ?_
                refine V.iconst (v := nI 1) X dX6_condition_133 rfl ?_
                refine V.iadd (v := nI (rN S 17 p + 1)) X dX6_condition_134 (nI_add _ _) ?_
                refine wM_st8 (i := p) (v := rN S 17 p + 1) (g := (rN S 17)) X (by omega) rfl dX6_condition_135 ?_
                refine V.aload_n X dX6_condition_136 rfl ?_
                refine wM_gX6_31 X dX6_condition_137 ?_
                refine V.iload_n X dX6_condition_140 rfl ?_
                refine wM_ld8 (i := p) X (by omega) dX6_condition_141 ?_
                refine V.top (congrArg nI up1_same) ?_
                exact V.iret (v := nI (rN S 17 p + 1)) X hE rfl rfl (Nat.le_of_ble_eq_true rfl) (Nat.le_of_ble_eq_true rfl) (pM9 (j := 0) (by simp [kCD, ins9, hz10, hp, ep, hz25, hq, eq, hz31, hz37, hz57, hz70, hz80, h9n]) (fun h9 => (by first | rfl | (simp only [ep, eq]; done) | simp [hz10, hp, ep, hz25, hq, eq, hz31, hz37, hz57, hz70, hz80, h9n])) (by first | (simp only [sCD, Nat.mul_comm, ep, eq]; done) | (simp only [sCD, Nat.mul_comm, ep, eq]; rfl) | rfl)) dX6_condition_142
              · have hcp := hcc p
                have h9n : 2 ≤ rN S 17 p := by omega
                refine V.aload_n X dX6_condition_83 rfl ?_
                refine V.iconst (v := nI 3) X dX6_condition_84 rfl ?_
                refine V.callV1 [.int (nI 3)] X (c_X6_fails l D cy am (sN S 62 (fun _ => 0)) F 3) mv_X6_fails gw_6_132 ⟨⟨(Nat.le_of_ble_eq_true rfl), (Nat.le_of_ble_eq_true rfl)⟩, (Nat.le_of_ble_eq_true rfl), (Nat.le_of_ble_eq_true rfl)⟩ (q0 := 0) (ci := 8) rfl rfl rfl (Nat.le_of_ble_eq_true rfl) dX6_condition_85 ?_
                exact V.iret (v := nI 0) X hE rfl rfl (Nat.le_of_ble_eq_true rfl) (Nat.le_of_ble_eq_true rfl) (pM9 (j := 3) (by simp [kCD, ins9, hz10, hp, ep, hz25, hq, eq, hz31, hz37, hz57, hz70, hz80, h9n]) (fun h => absurd h (by decide)) rfl) dX6_condition_88
          · refine V.aload_n X dX6_condition_60 rfl ?_
            refine V.iconst (v := nI 2) X dX6_condition_61 rfl ?_
            refine V.callV1 [.int (nI 2)] X (c_X6_fails l D cy am (sN S 62 (fun _ => 0)) F 2) mv_X6_fails gw_6_132 ⟨⟨(Nat.le_of_ble_eq_true rfl), (Nat.le_of_ble_eq_true rfl)⟩, (Nat.le_of_ble_eq_true rfl), (Nat.le_of_ble_eq_true rfl)⟩ (q0 := 0) (ci := 8) rfl rfl rfl (Nat.le_of_ble_eq_true rfl) dX6_condition_62 ?_
            exact V.iret (v := nI 0) X hE rfl rfl (Nat.le_of_ble_eq_true rfl) (Nat.le_of_ble_eq_true rfl) (pM9 (j := 2) (by simp [kCD, ins9, hz10, hp, ep, hz25, hq, eq, hz31, hz37, hz57]) (fun h => absurd h (by decide)) rfl) dX6_condition_65
        · refine V.iload_n X dX6_condition_40 rfl ?_
          refine V.bipush (v := nI 61) X dX6_condition_41 (by decide) ?_
          refine V.icmp_ne (tgt := 60) X dX6_condition_43 (by decide) (cC_ne (a := sg) (b := 61)) (cC_eq (a := sg) (b := 61)) (fun (hz43 : ¬ sg = 61) => ?_) (fun (hz43 : sg = 61) => ?_)
          · refine V.aload_n X dX6_condition_60 rfl ?_
            refine V.iconst (v := nI 2) X dX6_condition_61 rfl ?_
            refine V.callV1 [.int (nI 2)] X (c_X6_fails l D cy am (sN S 62 (fun _ => 0)) F 2) mv_X6_fails gw_6_132 ⟨⟨(Nat.le_of_ble_eq_true rfl), (Nat.le_of_ble_eq_true rfl)⟩, (Nat.le_of_ble_eq_true rfl), (Nat.le_of_ble_eq_true rfl)⟩ (q0 := 0) (ci := 8) rfl rfl rfl (Nat.le_of_ble_eq_true rfl) dX6_condition_62 ?_
            exact V.iret (v := nI 0) X hE rfl rfl (Nat.le_of_ble_eq_true rfl) (Nat.le_of_ble_eq_true rfl) (pM9 (j := 2) (by simp [kCD, ins9, hz10, hp, ep, hz25, hq, eq, hz31, hz37, hz43]) (fun h => absurd h (by decide)) rfl) dX6_condition_65
          · refine V.iload X dX6_condition_46 rfl ?_
            refine V.sipush (v := -999) X dX6_condition_48 (by decide) ?_
            refine V.sipush (v := nI 999) X dX6_condition_51 (by decide) ?_
            refine V.callS1 [.int b, .int (-999), .int (nI 999)] X (c_X6_isBetween l D cy am (sN S 62 (fun _ => 0)) F b (-999) (nI 999)) ms_X6_isBetween gw_6_129 ⟨⟨(Nat.le_of_ble_eq_true rfl), (Nat.le_of_ble_eq_true rfl)⟩, (Nat.le_of_ble_eq_true rfl), (Nat.le_of_ble_eq_true rfl)⟩ rfl (Nat.le_of_ble_eq_true rfl) dX6_condition_54 ?_
            refine V.top (congrArg b2i (btwR b)) ?_
            refine V.if_ne (tgt := 66) X dX6_condition_57 (by decide) b2i_n0 b2i_0 (fun (hz57 : rdgB b = true) => ?_) (fun (hz57 : rdgB b = false) => ?_)
            · refine V.aload_n X dX6_condition_66 rfl ?_
              refine wM_gX6_124 X dX6_condition_67 ?_
              refine V.if_ne (tgt := 83) X dX6_condition_70 (by decide) b2i_n0 b2i_0 (fun (hz70 : rB S 41 0 = true) => ?_) (fun (hz70 : rB S 41 0 = false) => ?_)
              · refine V.aload_n X dX6_condition_83 rfl ?_
                refine V.iconst (v := nI 3) X dX6_condition_84 rfl ?_
                refine V.callV1 [.int (nI 3)] X (c_X6_fails l D cy am (sN S 62 (fun _ => 0)) F 3) mv_X6_fails gw_6_132 ⟨⟨(Nat.le_of_ble_eq_true rfl), (Nat.le_of_ble_eq_true rfl)⟩, (Nat.le_of_ble_eq_true rfl), (Nat.le_of_ble_eq_true rfl)⟩ (q0 := 0) (ci := 8) rfl rfl rfl (Nat.le_of_ble_eq_true rfl) dX6_condition_85 ?_
                exact V.iret (v := nI 0) X hE rfl rfl (Nat.le_of_ble_eq_true rfl) (Nat.le_of_ble_eq_true rfl) (pM9 (j := 3) (by simp [kCD, ins9, hz10, hp, ep, hz25, hq, eq, hz31, hz37, hz43, hz57, hz70]) (fun h => absurd h (by decide)) rfl) dX6_condition_88
              · refine V.aload_n X dX6_condition_73 rfl ?_
                refine wM_gX6_31 X dX6_condition_74 ?_
                refine V.iload_n X dX6_condition_77 rfl ?_
                refine wM_ld8 (i := p) X (by omega) dX6_condition_78 ?_
                refine V.iconst (v := nI 2) X dX6_condition_79 rfl ?_
                refine V.icmp_ne (tgt := 89) X dX6_condition_80 (by decide) cN_ne (cN_eq (hB.n 17 _) (by decide)) (fun (hz80 : ¬ rN S 17 p = 2) => ?_) (fun (hz80 : rN S 17 p = 2) => ?_)
                · have hcp := hcc p
                  have h9n : ¬ 2 ≤ rN S 17 p := by omega
                  refine V.iconst (v := nI 2) X dX6_condition_89 rfl ?_
                  refine V.iload_n X dX6_condition_90 rfl ?_
                  refine V.imul (v := nI (2 * p)) X dX6_condition_91 (pk_mul _ _) ?_
                  refine V.aload_n X dX6_condition_92 rfl ?_
                  refine wM_gX6_31 X dX6_condition_93 ?_
                  refine V.iload_n X dX6_condition_96 rfl ?_
                  refine wM_ld8 (i := p) X (by omega) dX6_condition_97 ?_
                  refine V.iadd (v := nI (2 * p + (rN S 17 p))) X dX6_condition_98 (nI_add _ _) ?_
                  refine V.istore (L' := [(5, .int (nI (2 * p + (rN S 17 p)))), (0, .ref (am 0)), (1, .int (nI p)), (2, .int (nI q)), (3, .int (c2i sg)), (4, .int b)]) X dX6_condition_99 hB9 (by decide) rfl ?_
                  refine V.aload_n X dX6_condition_101 rfl ?_
                  refine wM_gX6_34 X dX6_condition_102 ?_
                  refine V.iload X dX6_condition_105 rfl ?_
                  refine V.iload_n X dX6_condition_107 rfl ?_
                  refine wM_st9 (i := 2 * p + (rN S 17 p)) (v := q) (g := (rN S 18)) X (by omega) rfl dX6_condition_108 ?_
                  refine V.aload_n X dX6_condition_109 rfl ?_
                  refine wM_gX6_47 X dX6_condition_110 ?_
                  refine V.iload X dX6_condition_113 rfl ?_
                  refine V.iload_n X dX6_condition_115 rfl ?_
                  refine wM_st13 (i := 2 * p + (rN S 17 p)) (v := sg) (g := (rC S 19)) X (by omega) rfl dX6_condition_116 ?_
                  refine V.aload_n X dX6_condition_117 rfl ?_
                  refine wM_gX6_37 X dX6_condition_118 ?_
                  refine V.iload X dX6_condition_121 rfl ?_
                  refine V.iload X dX6_condition_123 rfl ?_
                  refine wM_st10 (i := 2 * p + (rN S 17 p)) (v := b) (g := (rI S 20)) X (by omega) rfl dX6_condition_125 ?_
                  refine V.aload_n X dX6_condition_126 rfl ?_
                  refine wM_gX6_31 X dX6_condition_127 ?_
                  refine V.iload_n X dX6_condition_130 rfl ?_
                  refine V.dup2 X dX6_condition_131 rfl rfl ?_
                  refine wM_ld8 (i := p) X (by omega) dX6_condition_132 ?_
                  refine V.iconst (v := nI 1) X dX6_condition_133 rfl ?_
                  refine V.iadd (v := nI (rN S 17 p + 1)) X dX6_condition_134 (nI_add _ _) ?_
                  refine wM_st8 (i := p) (v := rN S 17 p + 1) (g := (rN S 17)) X (by omega) rfl dX6_condition_135 ?_
                  refine V.aload_n X dX6_condition_136 rfl ?_
                  refine wM_gX6_31 X dX6_condition_137 ?_
                  refine V.iload_n X dX6_condition_140 rfl ?_
                  refine wM_ld8 (i := p) X (by omega) dX6_condition_141 ?_
                  refine V.top (congrArg nI up1_same) ?_
                  exact V.iret (v := nI (rN S 17 p + 1)) X hE rfl rfl (Nat.le_of_ble_eq_true rfl) (Nat.le_of_ble_eq_true rfl) (pM9 (j := 0) (by simp [kCD, ins9, hz10, hp, ep, hz25, hq, eq, hz31, hz37, hz43, hz57, hz70, hz80, h9n]) (fun h9 => (by first | rfl | (simp only [ep, eq]; done) | simp [hz10, hp, ep, hz25, hq, eq, hz31, hz37, hz43, hz57, hz70, hz80, h9n])) (by first | (simp only [sCD, Nat.mul_comm, ep, eq]; done) | (simp only [sCD, Nat.mul_comm, ep, eq]; rfl) | rfl)) dX6_condition_142
                · have hcp := hcc p
                  have h9n : 2 ≤ rN S 17 p := by omega
                  refine V.aload_n X dX6_condition_83 rfl ?_
                  refine V.iconst (v := nI 3) X dX6_condition_84 rfl ?_
                  refine V.callV1 [.int (nI 3)] X (c_X6_fails l D cy am (sN S 62 (fun _ => 0)) F 3) mv_X6_fails gw_6_132 ⟨⟨(Nat.le_of_ble_eq_true rfl), (Nat.le_of_ble_eq_true rfl)⟩, (Nat.le_of_ble_eq_true rfl), (Nat.le_of_ble_eq_true rfl)⟩ (q0 := 0) (ci := 8) rfl rfl rfl (Nat.le_of_ble_eq_true rfl) dX6_condition_85 ?_
                  exact V.iret (v := nI 0) X hE rfl rfl (Nat.le_of_ble_eq_true rfl) (Nat.le_of_ble_eq_true rfl) (pM9 (j := 3) (by simp [kCD, ins9, hz10, hp, ep, hz25, hq, eq, hz31, hz37, hz43, hz57, hz70, hz80, h9n]) (fun h => absurd h (by decide)) rfl) dX6_condition_88
            · refine V.aload_n X dX6_condition_60 rfl ?_
              refine V.iconst (v := nI 2) X dX6_condition_61 rfl ?_
              refine V.callV1 [.int (nI 2)] X (c_X6_fails l D cy am (sN S 62 (fun _ => 0)) F 2) mv_X6_fails gw_6_132 ⟨⟨(Nat.le_of_ble_eq_true rfl), (Nat.le_of_ble_eq_true rfl)⟩, (Nat.le_of_ble_eq_true rfl), (Nat.le_of_ble_eq_true rfl)⟩ (q0 := 0) (ci := 8) rfl rfl rfl (Nat.le_of_ble_eq_true rfl) dX6_condition_62 ?_
              exact V.iret (v := nI 0) X hE rfl rfl (Nat.le_of_ble_eq_true rfl) (Nat.le_of_ble_eq_true rfl) (pM9 (j := 2) (by simp [kCD, ins9, hz10, hp, ep, hz25, hq, eq, hz31, hz37, hz43, hz57]) (fun h => absurd h (by decide)) rfl) dX6_condition_65
  · refine V.aload_n X dX6_condition_13 rfl ?_
    refine V.iconst (v := nI 1) X dX6_condition_14 rfl ?_
    refine V.callV1 [.int (nI 1)] X (c_X6_fails l D cy am (sN S 62 (fun _ => 0)) F 1) mv_X6_fails gw_6_132 ⟨⟨(Nat.le_of_ble_eq_true rfl), (Nat.le_of_ble_eq_true rfl)⟩, (Nat.le_of_ble_eq_true rfl), (Nat.le_of_ble_eq_true rfl)⟩ (q0 := 0) (ci := 8) rfl rfl rfl (Nat.le_of_ble_eq_true rfl) dX6_condition_15 ?_
    exact V.iret (v := nI 0) X hE rfl rfl (Nat.le_of_ble_eq_true rfl) (Nat.le_of_ble_eq_true rfl) (pM9 (j := 1) (by simp [kCD, ins9, hz10]) (fun h => absurd h (by decide)) rfl) dX6_condition_18
set_option maxRecDepth 20000 in
set_option maxHeartbeats 4000000 in
theorem c_X6_setFallback (l : Launch) (D : va_G) (cy : Nat → ClassId) (am : Nat → Nat) (S : St) (F : va_W) (x : Int32) (y : Int32) (hI : Inv S) : Ctr l D cy yX6_setFallback (.code yX6_setFallback cX6_setFallback 4 (some FieldType.int)) ({ frames := 12, cells := 0, slots := 0, locals := 400 } : Room) [.ref (am 0), .int x, .int y] (wM am cy S ++ F) (pMx (kSF S x y) (o2i (rO S 16 (ix x))) (fun k9 => wM am cy (sN (bif Nat.beq k9 0 then (sSF S x y) else S) 62 (fun _ => k9)) ++ F)) pNo := by
  refine Ctr.of (by decide) (Nat.le_of_ble_eq_true rfl) ?_
  intro M X hE hN hB9 hI9
  replace X : VX l D M cy cX6_setFallback "RunbookerModel" (some FieldType.int) ({ frames := 12, cells := 0, slots := 0, locals := 400 } : Room) := X
  show V l D M 0 0 (wM am cy S ++ F) [(0, .ref (am 0)), (1, .int x), (2, .int y)] 0 []
  have hW := hI.w
  have hB := hW.b
  have h43 := hW.n43
  have h44 := hW.n44
  have h46 := hW.n46
  have h45 := hW.n45
  have hcl := hW.cl
  have hen := hW.en
  have hW0 : Wk (sN S 62 (fun _ => 0)) := hW.s62 (fun _ => by decide)
  have hcr : cntR S ≤ rN S 44 0 := cnt9_le _ _
  refine V.aload_n X dX6_setFallback_0 rfl ?_
  refine V.iconst (v := nI 0) X dX6_setFallback_1 rfl ?_
  refine wM_pX6_97 (v := 0) X dX6_setFallback_2 ?_
  refine V.aload_n X dX6_setFallback_5 rfl ?_
  refine V.iload_n X dX6_setFallback_6 rfl ?_
  refine V.callV1 [.int x] X (c_X6_isStep l D cy am (sN S 62 (fun _ => 0)) F x (hW0.b)) mv_X6_isStep gw_6_160 ⟨⟨(Nat.le_of_ble_eq_true rfl), (Nat.le_of_ble_eq_true rfl)⟩, (Nat.le_of_ble_eq_true rfl), (Nat.le_of_ble_eq_true rfl)⟩ (q0 := 0) (ci := 8) rfl rfl rfl (Nat.le_of_ble_eq_true rfl) dX6_setFallback_7 ?_
  refine V.if_eq (tgt := 21) X dX6_setFallback_10 (by decide) b2i_0 b2i_n0 (fun (hz10 : inR x (rN S 44 0) = false) => ?_) (fun (hz10 : inR x (rN S 44 0) = true) => ?_)
  · refine V.aload_n X dX6_setFallback_21 rfl ?_
    refine V.iconst (v := nI 1) X dX6_setFallback_22 rfl ?_
    refine V.callV1 [.int (nI 1)] X (c_X6_fails l D cy am (sN S 62 (fun _ => 0)) F 1) mv_X6_fails gw_6_132 ⟨⟨(Nat.le_of_ble_eq_true rfl), (Nat.le_of_ble_eq_true rfl)⟩, (Nat.le_of_ble_eq_true rfl), (Nat.le_of_ble_eq_true rfl)⟩ (q0 := 0) (ci := 8) rfl rfl rfl (Nat.le_of_ble_eq_true rfl) dX6_setFallback_23 ?_
    exact V.iret (v := o2i (some 0)) X hE rfl rfl (Nat.le_of_ble_eq_true rfl) (Nat.le_of_ble_eq_true rfl) (pM9 (j := 1) (by simp [kSF, ins9, hz10]) (fun h => absurd h (by decide)) rfl) dX6_setFallback_26
  · obtain ⟨p, hp, rfl⟩ := inR_of hz10 (by omega)
    have ep : ix (nI p) = p := ix_nI (by omega)
    refine V.aload_n X dX6_setFallback_13 rfl ?_
    refine V.iload_n X dX6_setFallback_14 rfl ?_
    refine V.callV1 [.int y] X (c_X6_isStep l D cy am (sN S 62 (fun _ => 0)) F y (hW0.b)) mv_X6_isStep gw_6_160 ⟨⟨(Nat.le_of_ble_eq_true rfl), (Nat.le_of_ble_eq_true rfl)⟩, (Nat.le_of_ble_eq_true rfl), (Nat.le_of_ble_eq_true rfl)⟩ (q0 := 0) (ci := 8) rfl rfl rfl (Nat.le_of_ble_eq_true rfl) dX6_setFallback_15 ?_
    refine V.if_ne (tgt := 27) X dX6_setFallback_18 (by decide) b2i_n0 b2i_0 (fun (hz18 : inR y (rN S 44 0) = true) => ?_) (fun (hz18 : inR y (rN S 44 0) = false) => ?_)
    · obtain ⟨q, hq, rfl⟩ := inR_of hz18 (by omega)
      have eq : ix (nI q) = q := ix_nI (by omega)
      refine V.iload_n X dX6_setFallback_27 rfl ?_
      refine V.iload_n X dX6_setFallback_28 rfl ?_
      refine V.icmp_le (tgt := 50) X dX6_setFallback_29 (by decide) (cN_le (by omega) (by omega)) (cN_nle (by omega) (by omega)) (fun (hz29 : q ≤ p) => ?_) (fun (hz29 : p < q) => ?_)
      · refine V.aload_n X dX6_setFallback_50 rfl ?_
        refine V.iconst (v := nI 2) X dX6_setFallback_51 rfl ?_
        refine V.callV1 [.int (nI 2)] X (c_X6_fails l D cy am (sN S 62 (fun _ => 0)) F 2) mv_X6_fails gw_6_132 ⟨⟨(Nat.le_of_ble_eq_true rfl), (Nat.le_of_ble_eq_true rfl)⟩, (Nat.le_of_ble_eq_true rfl), (Nat.le_of_ble_eq_true rfl)⟩ (q0 := 0) (ci := 8) rfl rfl rfl (Nat.le_of_ble_eq_true rfl) dX6_setFallback_52 ?_
        exact V.iret (v := o2i (some 0)) X hE rfl rfl (Nat.le_of_ble_eq_true rfl) (Nat.le_of_ble_eq_true rfl) (pM9 (j := 2) (by simp [kSF, ins9, hz10, hp, ep, hz18, hq, eq, hz29, (Nat.not_lt.mpr hz29)]) (fun h => absurd h (by decide)) rfl) dX6_setFallback_55
      · refine V.aload_n X dX6_setFallback_32 rfl ?_
        refine wM_gX6_28 X dX6_setFallback_33 ?_
        refine V.iload_n X dX6_setFallback_36 rfl ?_
        refine wM_ld7 (i := p) X (by omega) dX6_setFallback_37 ?_
        refine V.iload_n X dX6_setFallback_38 rfl ?_
        refine V.icmp_eq (tgt := 56) X dX6_setFallback_39 (by decide) (cO_eq (a := rO S 16 p) (b := some q) (hB.o 16 _) (lt_some9 (by omega))) (cO_ne (a := rO S 16 p) (b := some q)) (fun (hz39 : rO S 16 p = some q) => ?_) (fun (hz39 : ¬ rO S 16 p = some q) => ?_)
        · have hown := own9_some hI hp hz39
          refine V.aload_n X dX6_setFallback_56 rfl ?_
          refine wM_gX6_124 X dX6_setFallback_57 ?_
          refine V.if_eq (tgt := 69) X dX6_setFallback_60 (by decide) b2i_0 b2i_n0 (fun (hz60 : rB S 41 0 = false) => ?_) (fun (hz60 : rB S 41 0 = true) => ?_)
          · refine V.aload_n X dX6_setFallback_69 rfl ?_
            refine wM_gX6_28 X dX6_setFallback_70 ?_
            refine V.iload_n X dX6_setFallback_73 rfl ?_
            refine wM_ld7 (i := p) X (by omega) dX6_setFallback_74 ?_
            refine V.istore_n (L' := [(3, .int (o2i (rO S 16 p))), (0, .ref (am 0)), (1, .int (nI p)), (2, .int (nI q))]) X dX6_setFallback_75 rfl hB9 (by decide) rfl ?_
            refine V.aload_n X dX6_setFallback_76 rfl ?_
            refine wM_gX6_28 X dX6_setFallback_77 ?_
            refine V.iload_n X dX6_setFallback_80 rfl ?_
            refine V.iload_n X dX6_setFallback_81 rfl ?_
            refine wM_st7 (i := p) (v := some q) (g := (rO S 16)) X (by omega) rfl dX6_setFallback_82 ?_
            refine V.iload_n X dX6_setFallback_83 rfl ?_
            exact V.iret (v := o2i (rO S 16 p)) X hE rfl rfl (Nat.le_of_ble_eq_true rfl) (Nat.le_of_ble_eq_true rfl) (pM9 (j := 0) (by simp [kSF, ins9, hz10, hp, ep, hz18, hq, eq, hz29, (Nat.not_le.mpr hz29), hz39, hown, hz60]) (fun h9 => (by first | rfl | (simp only [ep, eq]; done) | simp [hz10, hp, ep, hz18, hq, eq, hz29, (Nat.not_le.mpr hz29), hz39, hown, hz60])) (by first | (simp only [sSF, ep, eq]; done) | (simp only [sSF, ep, eq]; rfl) | rfl)) dX6_setFallback_84
          · refine V.aload_n X dX6_setFallback_63 rfl ?_
            refine V.iconst (v := nI 3) X dX6_setFallback_64 rfl ?_
            refine V.callV1 [.int (nI 3)] X (c_X6_fails l D cy am (sN S 62 (fun _ => 0)) F 3) mv_X6_fails gw_6_132 ⟨⟨(Nat.le_of_ble_eq_true rfl), (Nat.le_of_ble_eq_true rfl)⟩, (Nat.le_of_ble_eq_true rfl), (Nat.le_of_ble_eq_true rfl)⟩ (q0 := 0) (ci := 8) rfl rfl rfl (Nat.le_of_ble_eq_true rfl) dX6_setFallback_65 ?_
            exact V.iret (v := o2i (some 0)) X hE rfl rfl (Nat.le_of_ble_eq_true rfl) (Nat.le_of_ble_eq_true rfl) (pM9 (j := 3) (by simp [kSF, ins9, hz10, hp, ep, hz18, hq, eq, hz29, (Nat.not_le.mpr hz29), hz39, hown, hz60]) (fun h => absurd h (by decide)) rfl) dX6_setFallback_68
        · have hown := own9_ne hz39
          refine V.aload_n X dX6_setFallback_42 rfl ?_
          refine V.iload_n X dX6_setFallback_43 rfl ?_
          refine V.callV1 [.int (nI q)] X (c_X6_isFallback l D cy am (sN S 62 (fun _ => 0)) F q (hW0.b) (show (rN S 44 0) ≤ 16 by omega) (show q < 16 by omega)) mv_X6_isFallback gw_6_178 ⟨⟨(Nat.le_of_ble_eq_true rfl), (Nat.le_of_ble_eq_true rfl)⟩, (Nat.le_of_ble_eq_true rfl), (Nat.le_of_ble_eq_true rfl)⟩ (q0 := 0) (ci := 8) rfl rfl rfl (Nat.le_of_ble_eq_true rfl) dX6_setFallback_44 ?_
          refine V.if_eq (tgt := 56) X dX6_setFallback_47 (by decide) b2i_0 b2i_n0 (fun (hz47 : (own9 S q).isSome = false) => ?_) (fun (hz47 : (own9 S q).isSome = true) => ?_)
          · have hown2 : own9 S q = none := by simpa using hz47
            refine V.aload_n X dX6_setFallback_56 rfl ?_
            refine wM_gX6_124 X dX6_setFallback_57 ?_
            refine V.if_eq (tgt := 69) X dX6_setFallback_60 (by decide) b2i_0 b2i_n0 (fun (hz60 : rB S 41 0 = false) => ?_) (fun (hz60 : rB S 41 0 = true) => ?_)
            · refine V.aload_n X dX6_setFallback_69 rfl ?_
              refine wM_gX6_28 X dX6_setFallback_70 ?_
              refine V.iload_n X dX6_setFallback_73 rfl ?_
              refine wM_ld7 (i := p) X (by omega) dX6_setFallback_74 ?_
              refine V.istore_n (L' := [(3, .int (o2i (rO S 16 p))), (0, .ref (am 0)), (1, .int (nI p)), (2, .int (nI q))]) X dX6_setFallback_75 rfl hB9 (by decide) rfl ?_
              refine V.aload_n X dX6_setFallback_76 rfl ?_
              refine wM_gX6_28 X dX6_setFallback_77 ?_
              refine V.iload_n X dX6_setFallback_80 rfl ?_
              refine V.iload_n X dX6_setFallback_81 rfl ?_
              refine wM_st7 (i := p) (v := some q) (g := (rO S 16)) X (by omega) rfl dX6_setFallback_82 ?_
              refine V.iload_n X dX6_setFallback_83 rfl ?_
              exact V.iret (v := o2i (rO S 16 p)) X hE rfl rfl (Nat.le_of_ble_eq_true rfl) (Nat.le_of_ble_eq_true rfl) (pM9 (j := 0) (by simp [kSF, ins9, hz10, hp, ep, hz18, hq, eq, hz29, (Nat.not_le.mpr hz29), hz39, hown, hz47, hown2, hz60]) (fun h9 => (by first | rfl | (simp only [ep, eq]; done) | simp [hz10, hp, ep, hz18, hq, eq, hz29, (Nat.not_le.mpr hz29), hz39, hown, hz47, hown2, hz60])) (by first | (simp only [sSF, ep, eq]; done) | (simp only [sSF, ep, eq]; rfl) | rfl)) dX6_setFallback_84
            · refine V.aload_n X dX6_setFallback_63 rfl ?_
              refine V.iconst (v := nI 3) X dX6_setFallback_64 rfl ?_
              refine V.callV1 [.int (nI 3)] X (c_X6_fails l D cy am (sN S 62 (fun _ => 0)) F 3) mv_X6_fails gw_6_132 ⟨⟨(Nat.le_of_ble_eq_true rfl), (Nat.le_of_ble_eq_true rfl)⟩, (Nat.le_of_ble_eq_true rfl), (Nat.le_of_ble_eq_true rfl)⟩ (q0 := 0) (ci := 8) rfl rfl rfl (Nat.le_of_ble_eq_true rfl) dX6_setFallback_65 ?_
              exact V.iret (v := o2i (some 0)) X hE rfl rfl (Nat.le_of_ble_eq_true rfl) (Nat.le_of_ble_eq_true rfl) (pM9 (j := 3) (by simp [kSF, ins9, hz10, hp, ep, hz18, hq, eq, hz29, (Nat.not_le.mpr hz29), hz39, hown, hz47, hown2, hz60]) (fun h => absurd h (by decide)) rfl) dX6_setFallback_68
          · have hown2 : ¬ own9 S q = none := fun e => by rw [e] at hz47; cases hz47
            refine V.aload_n X dX6_setFallback_50 rfl ?_
            refine V.iconst (v := nI 2) X dX6_setFallback_51 rfl ?_
            refine V.callV1 [.int (nI 2)] X (c_X6_fails l D cy am (sN S 62 (fun _ => 0)) F 2) mv_X6_fails gw_6_132 ⟨⟨(Nat.le_of_ble_eq_true rfl), (Nat.le_of_ble_eq_true rfl)⟩, (Nat.le_of_ble_eq_true rfl), (Nat.le_of_ble_eq_true rfl)⟩ (q0 := 0) (ci := 8) rfl rfl rfl (Nat.le_of_ble_eq_true rfl) dX6_setFallback_52 ?_
            exact V.iret (v := o2i (some 0)) X hE rfl rfl (Nat.le_of_ble_eq_true rfl) (Nat.le_of_ble_eq_true rfl) (pM9 (j := 2) (by simp [kSF, ins9, hz10, hp, ep, hz18, hq, eq, hz29, (Nat.not_le.mpr hz29), hz39, hown, hz47, hown2]) (fun h => absurd h (by decide)) rfl) dX6_setFallback_55
    · refine V.aload_n X dX6_setFallback_21 rfl ?_
      refine V.iconst (v := nI 1) X dX6_setFallback_22 rfl ?_
      refine V.callV1 [.int (nI 1)] X (c_X6_fails l D cy am (sN S 62 (fun _ => 0)) F 1) mv_X6_fails gw_6_132 ⟨⟨(Nat.le_of_ble_eq_true rfl), (Nat.le_of_ble_eq_true rfl)⟩, (Nat.le_of_ble_eq_true rfl), (Nat.le_of_ble_eq_true rfl)⟩ (q0 := 0) (ci := 8) rfl rfl rfl (Nat.le_of_ble_eq_true rfl) dX6_setFallback_23 ?_
      exact V.iret (v := o2i (some 0)) X hE rfl rfl (Nat.le_of_ble_eq_true rfl) (Nat.le_of_ble_eq_true rfl) (pM9 (j := 1) (by simp [kSF, ins9, hz10, hp, ep, hz18]) (fun h => absurd h (by decide)) rfl) dX6_setFallback_26
set_option maxRecDepth 20000 in
set_option maxHeartbeats 4000000 in
theorem c_X6_setReading (l : Launch) (D : va_G) (cy : Nat → ClassId) (am : Nat → Nat) (S : St) (F : va_W) (x : Int32) (r : Int32) (hI : Inv S) : Ctr l D cy yX6_setReading (.code yX6_setReading cX6_setReading 4 (some FieldType.int)) ({ frames := 12, cells := 0, slots := 0, locals := 400 } : Room) [.ref (am 0), .int x, .int r] (wM am cy S ++ F) (pMx (kSR x r) (rI S 6 (ix x)) (fun k9 => wM am cy (sN (bif Nat.beq k9 0 then (sSR S x r) else S) 62 (fun _ => k9)) ++ F)) pNo := by
  refine Ctr.of (by decide) (Nat.le_of_ble_eq_true rfl) ?_
  intro M X hE hN hB9 hI9
  replace X : VX l D M cy cX6_setReading "RunbookerModel" (some FieldType.int) ({ frames := 12, cells := 0, slots := 0, locals := 400 } : Room) := X
  show V l D M 0 0 (wM am cy S ++ F) [(0, .ref (am 0)), (1, .int x), (2, .int r)] 0 []
  have hW := hI.w
  have hB := hW.b
  have h43 := hW.n43
  have h44 := hW.n44
  have h46 := hW.n46
  have h45 := hW.n45
  have hcl := hW.cl
  have hen := hW.en
  have hW0 : Wk (sN S 62 (fun _ => 0)) := hW.s62 (fun _ => by decide)
  have hcr : cntR S ≤ rN S 44 0 := cnt9_le _ _
  refine V.aload_n X dX6_setReading_0 rfl ?_
  refine V.iconst (v := nI 0) X dX6_setReading_1 rfl ?_
  refine wM_pX6_97 (v := 0) X dX6_setReading_2 ?_
  refine V.iload_n X dX6_setReading_5 rfl ?_
  refine V.callS1 [.int x] X (c_X6_isSensor l D cy am (sN S 62 (fun _ => 0)) F x) ms_X6_isSensor gw_6_186 ⟨⟨(Nat.le_of_ble_eq_true rfl), (Nat.le_of_ble_eq_true rfl)⟩, (Nat.le_of_ble_eq_true rfl), (Nat.le_of_ble_eq_true rfl)⟩ rfl (Nat.le_of_ble_eq_true rfl) dX6_setReading_6 ?_
  refine V.if_eq (tgt := 25) X dX6_setReading_9 (by decide) b2i_0 b2i_n0 (fun (hz9 : inR x 6 = false) => ?_) (fun (hz9 : inR x 6 = true) => ?_)
  · refine V.aload_n X dX6_setReading_25 rfl ?_
    refine V.iconst (v := nI 1) X dX6_setReading_26 rfl ?_
    refine V.callV1 [.int (nI 1)] X (c_X6_fails l D cy am (sN S 62 (fun _ => 0)) F 1) mv_X6_fails gw_6_132 ⟨⟨(Nat.le_of_ble_eq_true rfl), (Nat.le_of_ble_eq_true rfl)⟩, (Nat.le_of_ble_eq_true rfl), (Nat.le_of_ble_eq_true rfl)⟩ (q0 := 0) (ci := 8) rfl rfl rfl (Nat.le_of_ble_eq_true rfl) dX6_setReading_27 ?_
    exact V.iret (v := nI 0) X hE rfl rfl (Nat.le_of_ble_eq_true rfl) (Nat.le_of_ble_eq_true rfl) (pM9 (j := 1) (by simp [kSR, hz9]) (fun h => absurd h (by decide)) rfl) dX6_setReading_30
  · obtain ⟨p, hp, rfl⟩ := inR_of hz9 (by omega)
    have ep : ix (nI p) = p := ix_nI (by omega)
    refine V.iload_n X dX6_setReading_12 rfl ?_
    refine V.sipush (v := -999) X dX6_setReading_13 (by decide) ?_
    refine V.sipush (v := nI 999) X dX6_setReading_16 (by decide) ?_
    refine V.callS1 [.int r, .int (-999), .int (nI 999)] X (c_X6_isBetween l D cy am (sN S 62 (fun _ => 0)) F r (-999) (nI 999)) ms_X6_isBetween gw_6_129 ⟨⟨(Nat.le_of_ble_eq_true rfl), (Nat.le_of_ble_eq_true rfl)⟩, (Nat.le_of_ble_eq_true rfl), (Nat.le_of_ble_eq_true rfl)⟩ rfl (Nat.le_of_ble_eq_true rfl) dX6_setReading_19 ?_
    refine V.top (congrArg b2i (btwR r)) ?_
    refine V.if_ne (tgt := 31) X dX6_setReading_22 (by decide) b2i_n0 b2i_0 (fun (hz22 : rdgB r = true) => ?_) (fun (hz22 : rdgB r = false) => ?_)
    · refine V.aload_n X dX6_setReading_31 rfl ?_
      refine wM_gX6_13 X dX6_setReading_32 ?_
      refine V.iload_n X dX6_setReading_35 rfl ?_
      refine wM_ld2 (i := p) X (by omega) dX6_setReading_36 ?_
      refine V.istore_n (L' := [(3, .int (rI S 6 p)), (0, .ref (am 0)), (1, .int (nI p)), (2, .int r)]) X dX6_setReading_37 rfl hB9 (by decide) rfl ?_
      refine V.aload_n X dX6_setReading_38 rfl ?_
      refine wM_gX6_13 X dX6_setReading_39 ?_
      refine V.iload_n X dX6_setReading_42 rfl ?_
      refine V.iload_n X dX6_setReading_43 rfl ?_
      refine wM_st2 (i := p) (v := r) (g := (rI S 6)) X (by omega) rfl dX6_setReading_44 ?_
      refine V.iload_n X dX6_setReading_45 rfl ?_
      exact V.iret (v := rI S 6 p) X hE rfl rfl (Nat.le_of_ble_eq_true rfl) (Nat.le_of_ble_eq_true rfl) (pM9 (j := 0) (by simp [kSR, hz9, hp, ep, hz22]) (fun h9 => (by first | rfl | (simp only [ep]; done) | simp [hz9, hp, ep, hz22])) (by first | (simp only [sSR, ep]; done) | (simp only [sSR, ep]; rfl) | rfl)) dX6_setReading_46
    · refine V.aload_n X dX6_setReading_25 rfl ?_
      refine V.iconst (v := nI 1) X dX6_setReading_26 rfl ?_
      refine V.callV1 [.int (nI 1)] X (c_X6_fails l D cy am (sN S 62 (fun _ => 0)) F 1) mv_X6_fails gw_6_132 ⟨⟨(Nat.le_of_ble_eq_true rfl), (Nat.le_of_ble_eq_true rfl)⟩, (Nat.le_of_ble_eq_true rfl), (Nat.le_of_ble_eq_true rfl)⟩ (q0 := 0) (ci := 8) rfl rfl rfl (Nat.le_of_ble_eq_true rfl) dX6_setReading_27 ?_
      exact V.iret (v := nI 0) X hE rfl rfl (Nat.le_of_ble_eq_true rfl) (Nat.le_of_ble_eq_true rfl) (pM9 (j := 1) (by simp [kSR, hz9, hp, ep, hz22]) (fun h => absurd h (by decide)) rfl) dX6_setReading_30
set_option maxRecDepth 20000 in
set_option maxHeartbeats 4000000 in
theorem c_X6_close (l : Launch) (D : va_G) (cy : Nat → ClassId) (am : Nat → Nat) (S : St) (F : va_W) (hI : Inv S) : Ctr l D cy yX6_close (.code yX6_close cX6_close 1 (some FieldType.int)) ({ frames := 12, cells := 0, slots := 0, locals := 400 } : Room) [.ref (am 0)] (wM am cy S ++ F) (pMx (kCL S) (nI (rN S 45 0)) (fun k9 => wM am cy (sN (bif Nat.beq k9 0 then (sB S 41 (fun _ => false)) else S) 62 (fun _ => k9)) ++ F)) pNo := by
  refine Ctr.of (by decide) (Nat.le_of_ble_eq_true rfl) ?_
  intro M X hE hN hB9 hI9
  replace X : VX l D M cy cX6_close "RunbookerModel" (some FieldType.int) ({ frames := 12, cells := 0, slots := 0, locals := 400 } : Room) := X
  show V l D M 0 0 (wM am cy S ++ F) [(0, .ref (am 0))] 0 []
  have hW := hI.w
  have hB := hW.b
  have h43 := hW.n43
  have h44 := hW.n44
  have h46 := hW.n46
  have h45 := hW.n45
  have hcl := hW.cl
  have hen := hW.en
  have hW0 : Wk (sN S 62 (fun _ => 0)) := hW.s62 (fun _ => by decide)
  have hcr : cntR S ≤ rN S 44 0 := cnt9_le _ _
  refine V.aload_n X dX6_close_0 rfl ?_
  refine V.iconst (v := nI 0) X dX6_close_1 rfl ?_
  refine wM_pX6_97 (v := 0) X dX6_close_2 ?_
  refine V.aload_n X dX6_close_5 rfl ?_
  refine wM_gX6_124 X dX6_close_6 ?_
  refine V.if_eq (tgt := 29) X dX6_close_9 (by decide) b2i_0 b2i_n0 (fun (hz9 : rB S 41 0 = false) => ?_) (fun (hz9 : rB S 41 0 = true) => ?_)
  · refine V.aload_n X dX6_close_29 rfl ?_
    refine V.iconst (v := nI 1) X dX6_close_30 rfl ?_
    refine V.callV1 [.int (nI 1)] X (c_X6_fails l D cy am (sN S 62 (fun _ => 0)) F 1) mv_X6_fails gw_6_132 ⟨⟨(Nat.le_of_ble_eq_true rfl), (Nat.le_of_ble_eq_true rfl)⟩, (Nat.le_of_ble_eq_true rfl), (Nat.le_of_ble_eq_true rfl)⟩ (q0 := 0) (ci := 8) rfl rfl rfl (Nat.le_of_ble_eq_true rfl) dX6_close_31 ?_
    exact V.iret (v := nI 0) X hE rfl rfl (Nat.le_of_ble_eq_true rfl) (Nat.le_of_ble_eq_true rfl) (pM9 (j := 1) (by simp [kCL, anyA_act, Option.isSome_iff_ne_none, hz9]) (fun h => absurd h (by decide)) rfl) dX6_close_34
  · refine V.aload_n X dX6_close_12 rfl ?_
    refine V.bipush (v := nI 97) X dX6_close_13 (by decide) ?_
    refine V.callV1 [.int (c2i 97)] X (c_X6_many l D cy am (sN S 62 (fun _ => 0)) F 97 (hW0.b) (show (rN S 44 0) ≤ 16 by omega)) mv_X6_many gw_6_221 ⟨⟨(Nat.le_of_ble_eq_true rfl), (Nat.le_of_ble_eq_true rfl)⟩, (Nat.le_of_ble_eq_true rfl), (Nat.le_of_ble_eq_true rfl)⟩ (q0 := 0) (ci := 8) rfl rfl rfl (Nat.le_of_ble_eq_true rfl) dX6_close_15 ?_
    refine V.top (congrArg nI (hI.many hz9)) ?_
    refine V.if_gt (tgt := 29) X dX6_close_18 (by decide) (cN_lt (by decide) (by have := cnt9_le (fun s => decide (rC S 22 s = 97)) (rN S 46 0); unfold actN; omega)) (cN_nlt (by decide) (by have := cnt9_le (fun s => decide (rC S 22 s = 97)) (rN S 46 0); unfold actN; omega)) (fun (hz18 : 0 < actN S) => ?_) (fun (hz18 : actN S ≤ 0) => ?_)
    · refine V.aload_n X dX6_close_29 rfl ?_
      refine V.iconst (v := nI 1) X dX6_close_30 rfl ?_
      refine V.callV1 [.int (nI 1)] X (c_X6_fails l D cy am (sN S 62 (fun _ => 0)) F 1) mv_X6_fails gw_6_132 ⟨⟨(Nat.le_of_ble_eq_true rfl), (Nat.le_of_ble_eq_true rfl)⟩, (Nat.le_of_ble_eq_true rfl), (Nat.le_of_ble_eq_true rfl)⟩ (q0 := 0) (ci := 8) rfl rfl rfl (Nat.le_of_ble_eq_true rfl) dX6_close_31 ?_
      exact V.iret (v := nI 0) X hE rfl rfl (Nat.le_of_ble_eq_true rfl) (Nat.le_of_ble_eq_true rfl) (pM9 (j := 1) (by simp [kCL, anyA_act, Option.isSome_iff_ne_none, hz9, hz18, (Nat.not_le.mpr hz18)]) (fun h => absurd h (by decide)) rfl) dX6_close_34
    · refine V.aload_n X dX6_close_21 rfl ?_
      refine wM_gX6_75 X dX6_close_22 ?_
      refine V.iconst (v := o2i none) X dX6_close_25 rfl ?_
      refine V.icmp_eq (tgt := 35) X dX6_close_26 (by decide) (cO_eq (a := rO S 47 0) (b := none) (hB.o 47 _) lt_none) (cO_ne (a := rO S 47 0) (b := none)) (fun (hz26 : rO S 47 0 = none) => ?_) (fun (hz26 : ¬ rO S 47 0 = none) => ?_)
      · refine V.aload_n X dX6_close_35 rfl ?_
        refine V.iconst (v := nI 0) X dX6_close_36 rfl ?_
        refine wM_pX6_124 (v := false) X dX6_close_37 ?_
        refine V.aload_n X dX6_close_40 rfl ?_
        refine wM_gX6_171 X dX6_close_41 ?_
        exact V.iret (v := nI (rN S 45 0)) X hE rfl rfl (Nat.le_of_ble_eq_true rfl) (Nat.le_of_ble_eq_true rfl) (pM9 (j := 0) (by simp [kCL, anyA_act, Option.isSome_iff_ne_none, hz9, hz18, (Nat.not_lt.mpr hz18), hz26]) (fun h9 => (by first | rfl | simp [hz9, hz18, (Nat.not_lt.mpr hz18), hz26])) rfl) dX6_close_44
      · refine V.aload_n X dX6_close_29 rfl ?_
        refine V.iconst (v := nI 1) X dX6_close_30 rfl ?_
        refine V.callV1 [.int (nI 1)] X (c_X6_fails l D cy am (sN S 62 (fun _ => 0)) F 1) mv_X6_fails gw_6_132 ⟨⟨(Nat.le_of_ble_eq_true rfl), (Nat.le_of_ble_eq_true rfl)⟩, (Nat.le_of_ble_eq_true rfl), (Nat.le_of_ble_eq_true rfl)⟩ (q0 := 0) (ci := 8) rfl rfl rfl (Nat.le_of_ble_eq_true rfl) dX6_close_31 ?_
        exact V.iret (v := nI 0) X hE rfl rfl (Nat.le_of_ble_eq_true rfl) (Nat.le_of_ble_eq_true rfl) (pM9 (j := 1) (by simp [kCL, anyA_act, Option.isSome_iff_ne_none, hz9, hz18, (Nat.not_lt.mpr hz18), hz26]) (fun h => absurd h (by decide)) rfl) dX6_close_34
set_option maxRecDepth 20000 in
set_option maxHeartbeats 4000000 in
theorem c_X6_begin (l : Launch) (D : va_G) (cy : Nat → ClassId) (am : Nat → Nat) (S : St) (F : va_W) (x : Int32) (y : Int32) (hI : Inv S) (hR : Rm S) : Ctr l D cy yX6_begin (.code yX6_begin cX6_begin 4 (some FieldType.int)) ({ frames := 12, cells := 0, slots := 0, locals := 400 } : Room) [.ref (am 0), .int x, .int y] (wM am cy S ++ F) (pMx (kBG S x y) (nI (rN S 40 0 + 2 * rN S 11 (ix y))) (fun k9 => wM am cy (sN (bif Nat.beq k9 0 then (sC (sO (sBG S x y) 60 (up1 (rO S 60) (ix y) (some (ix x)))) 64 (up1 (rC S 64) (ix y) 97)) else S) 62 (fun _ => k9)) ++ F)) pNo := by
  refine Ctr.of (by decide) (Nat.le_of_ble_eq_true rfl) ?_
  intro M X hE hN hB9 hI9
  replace X : VX l D M cy cX6_begin "RunbookerModel" (some FieldType.int) ({ frames := 12, cells := 0, slots := 0, locals := 400 } : Room) := X
  show V l D M 0 0 (wM am cy S ++ F) [(0, .ref (am 0)), (1, .int x), (2, .int y)] 0 []
  have hW := hI.w
  have hB := hW.b
  have h43 := hW.n43
  have h44 := hW.n44
  have h46 := hW.n46
  have h45 := hW.n45
  have hcl := hW.cl
  have hen := hW.en
  have hW0 : Wk (sN S 62 (fun _ => 0)) := hW.s62 (fun _ => by decide)
  have hcr : cntR S ≤ rN S 44 0 := cnt9_le _ _
  have he3 := Rm.en hR
  refine V.aload_n X dX6_begin_0 rfl ?_
  refine V.iconst (v := nI 0) X dX6_begin_1 rfl ?_
  refine wM_pX6_97 (v := 0) X dX6_begin_2 ?_
  refine V.aload_n X dX6_begin_5 rfl ?_
  refine V.iload_n X dX6_begin_6 rfl ?_
  refine V.callV1 [.int x] X (c_X6_isPerson l D cy am (sN S 62 (fun _ => 0)) F x (hW0.b)) mv_X6_isPerson gw_6_140 ⟨⟨(Nat.le_of_ble_eq_true rfl), (Nat.le_of_ble_eq_true rfl)⟩, (Nat.le_of_ble_eq_true rfl), (Nat.le_of_ble_eq_true rfl)⟩ (q0 := 0) (ci := 8) rfl rfl rfl (Nat.le_of_ble_eq_true rfl) dX6_begin_7 ?_
  refine V.if_eq (tgt := 21) X dX6_begin_10 (by decide) b2i_0 b2i_n0 (fun (hz10 : inR x (rN S 43 0) = false) => ?_) (fun (hz10 : inR x (rN S 43 0) = true) => ?_)
  · refine V.aload_n X dX6_begin_21 rfl ?_
    refine V.iconst (v := nI 1) X dX6_begin_22 rfl ?_
    refine V.callV1 [.int (nI 1)] X (c_X6_fails l D cy am (sN S 62 (fun _ => 0)) F 1) mv_X6_fails gw_6_132 ⟨⟨(Nat.le_of_ble_eq_true rfl), (Nat.le_of_ble_eq_true rfl)⟩, (Nat.le_of_ble_eq_true rfl), (Nat.le_of_ble_eq_true rfl)⟩ (q0 := 0) (ci := 8) rfl rfl rfl (Nat.le_of_ble_eq_true rfl) dX6_begin_23 ?_
    exact V.iret (v := nI 0) X hE rfl rfl (Nat.le_of_ble_eq_true rfl) (Nat.le_of_ble_eq_true rfl) (pM9 (j := 1) (by simp [kBG, ins9, hz10]) (fun h => absurd h (by decide)) rfl) dX6_begin_26
  · obtain ⟨p, hp, rfl⟩ := inR_of hz10 (by omega)
    have ep : ix (nI p) = p := ix_nI (by omega)
    refine V.aload_n X dX6_begin_13 rfl ?_
    refine V.iload_n X dX6_begin_14 rfl ?_
    refine V.callV1 [.int y] X (c_X6_isStep l D cy am (sN S 62 (fun _ => 0)) F y (hW0.b)) mv_X6_isStep gw_6_160 ⟨⟨(Nat.le_of_ble_eq_true rfl), (Nat.le_of_ble_eq_true rfl)⟩, (Nat.le_of_ble_eq_true rfl), (Nat.le_of_ble_eq_true rfl)⟩ (q0 := 0) (ci := 8) rfl rfl rfl (Nat.le_of_ble_eq_true rfl) dX6_begin_15 ?_
    refine V.if_ne (tgt := 27) X dX6_begin_18 (by decide) b2i_n0 b2i_0 (fun (hz18 : inR y (rN S 44 0) = true) => ?_) (fun (hz18 : inR y (rN S 44 0) = false) => ?_)
    · obtain ⟨q, hq, rfl⟩ := inR_of hz18 (by omega)
      have eq : ix (nI q) = q := ix_nI (by omega)
      refine V.aload_n X dX6_begin_27 rfl ?_
      refine wM_gX6_124 X dX6_begin_28 ?_
      refine V.if_ne (tgt := 40) X dX6_begin_31 (by decide) b2i_n0 b2i_0 (fun (hz31 : rB S 41 0 = true) => ?_) (fun (hz31 : rB S 41 0 = false) => ?_)
      · refine V.aload_n X dX6_begin_40 rfl ?_
        refine V.iload_n X dX6_begin_41 rfl ?_
        refine V.callV1 [.int (nI p)] X (c_X6_isFree l D cy am (sN S 62 (fun _ => 0)) F p hW0 (show p < (rN S 43 0) by omega)) mv_X6_isFree gw_6_229 ⟨⟨(Nat.le_of_ble_eq_true rfl), (Nat.le_of_ble_eq_true rfl)⟩, (Nat.le_of_ble_eq_true rfl), (Nat.le_of_ble_eq_true rfl)⟩ (q0 := 0) (ci := 8) rfl rfl rfl (Nat.le_of_ble_eq_true rfl) dX6_begin_42 ?_
        refine V.top (congrArg b2i (hI.qfree (p := p) (by omega))) ?_
        refine V.if_eq (tgt := 87) X dX6_begin_45 (by decide) b2i_0 b2i_n0 (fun (hz45 : free9 S p = false) => ?_) (fun (hz45 : free9 S p = true) => ?_)
        · refine V.aload_n X dX6_begin_87 rfl ?_
          refine V.iconst (v := nI 3) X dX6_begin_88 rfl ?_
          refine V.callV1 [.int (nI 3)] X (c_X6_fails l D cy am (sN S 62 (fun _ => 0)) F 3) mv_X6_fails gw_6_132 ⟨⟨(Nat.le_of_ble_eq_true rfl), (Nat.le_of_ble_eq_true rfl)⟩, (Nat.le_of_ble_eq_true rfl), (Nat.le_of_ble_eq_true rfl)⟩ (q0 := 0) (ci := 8) rfl rfl rfl (Nat.le_of_ble_eq_true rfl) dX6_begin_89 ?_
          exact V.iret (v := nI 0) X hE rfl rfl (Nat.le_of_ble_eq_true rfl) (Nat.le_of_ble_eq_true rfl) (pM9 (j := 3) (by simp [kBG, ins9, hz10, hp, ep, hz18, hq, eq, hz31, hz45]) (fun h => absurd h (by decide)) rfl) dX6_begin_92
        · refine V.aload_n X dX6_begin_48 rfl ?_
          refine wM_gX6_9 X dX6_begin_49 ?_
          refine V.iload_n X dX6_begin_52 rfl ?_
          refine wM_ld1 (i := p) X (by omega) dX6_begin_53 ?_
          refine V.aload_n X dX6_begin_54 rfl ?_
          refine wM_gX6_16 X dX6_begin_55 ?_
          refine V.iload_n X dX6_begin_58 rfl ?_
          refine wM_ld3 (i := q) X (by omega) dX6_begin_59 ?_
          refine V.callS1 [.int (rI S 7 p), .int (nI (rN S 10 q))] X (c_X6_has l D cy am (sN S 62 (fun _ => 0)) F (rI S 7 p) (nI (rN S 10 q))) ms_X6_has gw_6_164 ⟨⟨(Nat.le_of_ble_eq_true rfl), (Nat.le_of_ble_eq_true rfl)⟩, (Nat.le_of_ble_eq_true rfl), (Nat.le_of_ble_eq_true rfl)⟩ rfl (Nat.le_of_ble_eq_true rfl) dX6_begin_60 ?_
          refine V.if_eq (tgt := 87) X dX6_begin_63 (by decide) b2i_0 b2i_n0 (fun (hz63 : hasBit (rI S 7 p) (nI (rN S 10 q)) = false) => ?_) (fun (hz63 : hasBit (rI S 7 p) (nI (rN S 10 q)) = true) => ?_)
          · refine V.aload_n X dX6_begin_87 rfl ?_
            refine V.iconst (v := nI 3) X dX6_begin_88 rfl ?_
            refine V.callV1 [.int (nI 3)] X (c_X6_fails l D cy am (sN S 62 (fun _ => 0)) F 3) mv_X6_fails gw_6_132 ⟨⟨(Nat.le_of_ble_eq_true rfl), (Nat.le_of_ble_eq_true rfl)⟩, (Nat.le_of_ble_eq_true rfl), (Nat.le_of_ble_eq_true rfl)⟩ (q0 := 0) (ci := 8) rfl rfl rfl (Nat.le_of_ble_eq_true rfl) dX6_begin_89 ?_
            exact V.iret (v := nI 0) X hE rfl rfl (Nat.le_of_ble_eq_true rfl) (Nat.le_of_ble_eq_true rfl) (pM9 (j := 3) (by simp [kBG, ins9, hz10, hp, ep, hz18, hq, eq, hz31, hz45, hz63]) (fun h => absurd h (by decide)) rfl) dX6_begin_92
          · refine V.aload_n X dX6_begin_66 rfl ?_
            refine V.iload_n X dX6_begin_67 rfl ?_
            refine V.callV1 [.int (nI q)] X (c_X6_isReadyNow l D cy am (sN S 62 (fun _ => 0)) F q hW0 (show q < (rN S 44 0) by omega)) mv_X6_isReadyNow gw_6_197 ⟨⟨(Nat.le_of_ble_eq_true rfl), (Nat.le_of_ble_eq_true rfl)⟩, (Nat.le_of_ble_eq_true rfl), (Nat.le_of_ble_eq_true rfl)⟩ (q0 := 0) (ci := 8) rfl rfl rfl (Nat.le_of_ble_eq_true rfl) dX6_begin_68 ?_
            refine V.top (congrArg b2i (hI.qrdy (s := q) (by omega))) ?_
            refine V.if_eq (tgt := 87) X dX6_begin_71 (by decide) b2i_0 b2i_n0 (fun (hz71 : rdy9 S q = false) => ?_) (fun (hz71 : rdy9 S q = true) => ?_)
            · refine V.aload_n X dX6_begin_87 rfl ?_
              refine V.iconst (v := nI 3) X dX6_begin_88 rfl ?_
              refine V.callV1 [.int (nI 3)] X (c_X6_fails l D cy am (sN S 62 (fun _ => 0)) F 3) mv_X6_fails gw_6_132 ⟨⟨(Nat.le_of_ble_eq_true rfl), (Nat.le_of_ble_eq_true rfl)⟩, (Nat.le_of_ble_eq_true rfl), (Nat.le_of_ble_eq_true rfl)⟩ (q0 := 0) (ci := 8) rfl rfl rfl (Nat.le_of_ble_eq_true rfl) dX6_begin_89 ?_
              exact V.iret (v := nI 0) X hE rfl rfl (Nat.le_of_ble_eq_true rfl) (Nat.le_of_ble_eq_true rfl) (pM9 (j := 3) (by simp [kBG, ins9, hz10, hp, ep, hz18, hq, eq, hz31, hz45, hz63, hz71]) (fun h => absurd h (by decide)) rfl) dX6_begin_92
            · refine V.aload_n X dX6_begin_74 rfl ?_
              refine V.aload_n X dX6_begin_75 rfl ?_
              refine wM_gX6_16 X dX6_begin_76 ?_
              refine V.iload_n X dX6_begin_79 rfl ?_
              refine wM_ld3 (i := q) X (by omega) dX6_begin_80 ?_
              refine V.callV1 [.int (nI (rN S 10 q))] X (c_X6_isPausedNow l D cy am (sN S 62 (fun _ => 0)) F (nI (rN S 10 q)) hW0) mv_X6_isPausedNow gw_6_233 ⟨⟨(Nat.le_of_ble_eq_true rfl), (Nat.le_of_ble_eq_true rfl)⟩, (Nat.le_of_ble_eq_true rfl), (Nat.le_of_ble_eq_true rfl)⟩ (q0 := 0) (ci := 8) rfl rfl rfl (Nat.le_of_ble_eq_true rfl) dX6_begin_81 ?_
              refine V.if_eq (tgt := 93) X dX6_begin_84 (by decide) b2i_0 b2i_n0 (fun (hz84 : paus9 S (nI (rN S 10 q)) = false) => ?_) (fun (hz84 : paus9 S (nI (rN S 10 q)) = true) => ?_)
              · refine V.aload_n X dX6_begin_93 rfl ?_
                refine wM_gX6_60 X dX6_begin_94 ?_
                refine V.iload_n X dX6_begin_97 rfl ?_
                refine V.bipush (v := nI 97) X dX6_begin_98 (by decide) ?_
                refine wM_st17 (i := q) (v := 97) (g := (rC S 64)) X (by omega) rfl dX6_begin_100 ?_
                refine V.aload_n X dX6_begin_101 rfl ?_
                refine wM_gX6_66 X dX6_begin_102 ?_
                refine V.iload_n X dX6_begin_105 rfl ?_
                refine V.iload_n X dX6_begin_106 rfl ?_
                refine wM_st19 (i := q) (v := some p) (g := (rO S 60)) X (by omega) rfl dX6_begin_107 ?_
                refine V.aload_n X dX6_begin_108 rfl ?_
                refine wM_gX6_69 X dX6_begin_109 ?_
                refine V.iload_n X dX6_begin_112 rfl ?_
                refine V.iconst (v := nI 0) X dX6_begin_113 rfl ?_
                refine wM_st20 (i := q) (v := 0) (g := (rN S 26)) X (by omega) rfl dX6_begin_114 ?_
                refine V.aload_n X dX6_begin_115 rfl ?_
                refine wM_gX6_57 X dX6_begin_116 ?_
                refine V.iload_n X dX6_begin_119 rfl ?_
                refine V.iconst (v := nI 1) X dX6_begin_120 rfl ?_
                refine wM_st16 (i := q) (v := true) (g := (rB S 24)) X (by omega) rfl dX6_begin_121 ?_
                refine V.iconst (v := nI 0) X dX6_begin_122 rfl ?_
                refine V.istore_n (L' := [(3, .int (nI 0)), (0, .ref (am 0)), (1, .int (nI p)), (2, .int (nI q))]) X dX6_begin_123 rfl hB9 (by decide) rfl ?_
                have loop124 : ∀ (d9 : Nat) (i : Nat), (6 - i) < d9 → (i ≤ 6) → V l D M 0 0 (wM am cy (sI (sB (sN (sO (sC (sN S 62 (fun _ => 0)) 64 (up1 (rC S 64) q 97)) 60 (up1 (rO S 60) q (some p))) 26 (up1 (rN S 26) q 0)) 24 (up1 (rB S 24) q true)) 27 (see9 S q i)) ++ F) [(3, .int (nI i)), (0, .ref (am 0)), (1, .int (nI p)), (2, .int (nI q))] 124 [] := by
                  intro d9
                  induction d9 with
                  | zero => intro i h9; exact absurd h9 (Nat.not_lt_zero _)
                  | succ d9 ih124 =>
                    intro i hd9 hi
                    refine V.iload_n X dX6_begin_124 rfl ?_
                    refine V.bipush (v := nI 6) X dX6_begin_125 (by decide) ?_
                    refine V.icmp_ge (tgt := 153) X dX6_begin_127 (by decide) (cN_le (by decide) (by omega)) (cN_nle (by decide) (by omega)) (fun (hz127 : 6 ≤ i) => ?_) (fun (hz127 : i < 6) => ?_)
                    · refine V.aload_n X dX6_begin_153 rfl ?_
                      refine V.bipush (v := nI 98) X dX6_begin_154 (by decide) ?_
                      refine V.iload_n X dX6_begin_156 rfl ?_
                      refine V.iload_n X dX6_begin_157 rfl ?_
                      refine V.callV0 [.int (c2i 98), .int (o2i (some q)), .int (o2i (some p))] X (c_X6_logs l D cy am (sI (sB (sN (sO (sC (sN S 62 (fun _ => 0)) 64 (up1 (rC S 64) q 97)) 60 (up1 (rO S 60) q (some p))) 26 (up1 (rN S 26) q 0)) 24 (up1 (rB S 24) q true)) 27 (see9 S q i)) F 98 (some q) (some p) ((((((hB.sN 62 (fun _ => show 0 < 1000000 by omega)).sC 64 _).sO 60 (up1_o (hB.2 60) (fun _ e9 => by cases e9; show p < 1000000; omega))).sN 26 (up1_lt (hB.1 26) (show 0 < 1000000 by omega))).sB 24 _).sI 27 _) (show (rN S 50 0) < 1536 by omega)) mv_X6_logs gw_6_237 ⟨⟨(Nat.le_of_ble_eq_true rfl), (Nat.le_of_ble_eq_true rfl)⟩, (Nat.le_of_ble_eq_true rfl), (Nat.le_of_ble_eq_true rfl)⟩ (q0 := 0) (ci := 8) rfl rfl rfl (Nat.le_of_ble_eq_true rfl) dX6_begin_158 ?_
                      refine V.aload_n X dX6_begin_161 rfl ?_
                      refine wM_gX6_147 X dX6_begin_162 ?_
                      refine V.iconst (v := nI 2) X dX6_begin_165 rfl ?_
                      refine V.aload_n X dX6_begin_166 rfl ?_
                      refine wM_gX6_19 X dX6_begin_167 ?_
                      refine V.iload_n X dX6_begin_170 rfl ?_
                      refine wM_ld4 (i := q) X (by omega) dX6_begin_171 ?_
                      refine V.imul (v := nI (2 * (rN S 11 q))) X dX6_begin_172 (pk_mul _ _) ?_
                      refine V.iadd (v := nI (rN S 40 0 + (2 * (rN S 11 q)))) X dX6_begin_173 (nI_add _ _) ?_
                      exact V.iret (v := nI (rN S 40 0 + (2 * (rN S 11 q)))) X hE rfl rfl (Nat.le_of_ble_eq_true rfl) (Nat.le_of_ble_eq_true rfl) (pM9 (j := 0) (by simp [kBG, ins9, hz10, hp, ep, hz18, hq, eq, hz31, hz45, hz63, hz71, hz84, hz127, (Nat.not_lt.mpr hz127)]) (fun h9 => (by first | rfl | (simp only [ep, eq]; done) | simp [hz10, hp, ep, hz18, hq, eq, hz31, hz45, hz63, hz71, hz84, hz127, (Nat.not_lt.mpr hz127)])) (by rw [show i = 6 by omega]; simp only [sBG, ep, eq]; rfl)) dX6_begin_174
                    · refine V.aload_n X dX6_begin_130 rfl ?_
                      refine wM_gX6_40 X dX6_begin_131 ?_
                      refine V.bipush (v := nI 6) X dX6_begin_134 (by decide) ?_
                      refine V.iload_n X dX6_begin_136 rfl ?_
                      refine V.imul (v := nI (6 * q)) X dX6_begin_137 (pk_mul _ _) ?_
                      refine V.iload_n X dX6_begin_138 rfl ?_
                      refine V.iadd (v := nI (6 * q + i)) X dX6_begin_139 (nI_add _ _) ?_
                      refine V.aload_n X dX6_begin_140 rfl ?_
                      refine wM_gX6_13 X dX6_begin_141 ?_
                      refine V.iload_n X dX6_begin_144 rfl ?_
                      refine wM_ld2 (i := i) X (by omega) dX6_begin_145 ?_
                      refine wM_st11 (i := 6 * q + i) (v := rI S 6 i) (g := (see9 S q i)) X (by omega) rfl dX6_begin_146 ?_
                      refine V.iinc (v := nI (i + 1)) (L' := [(3, .int (nI (i + 1))), (0, .ref (am 0)), (1, .int (nI p)), (2, .int (nI q))]) X dX6_begin_147 rfl (nI_inc _) hB9 (by decide) rfl ?_
                      refine V.goto (tgt := 124) X dX6_begin_150 (by decide) ?_
                      exact V.eqs (by rw [Nat.mul_comm 6 q, ← see9_s]; rfl) rfl (ih124 (i + 1) (by omega) (by omega))
                exact V.eqs (by rw [see9_0]; rfl) rfl (loop124 _ 0 (Nat.lt_succ_self _) (Nat.zero_le _))
              · refine V.aload_n X dX6_begin_87 rfl ?_
                refine V.iconst (v := nI 3) X dX6_begin_88 rfl ?_
                refine V.callV1 [.int (nI 3)] X (c_X6_fails l D cy am (sN S 62 (fun _ => 0)) F 3) mv_X6_fails gw_6_132 ⟨⟨(Nat.le_of_ble_eq_true rfl), (Nat.le_of_ble_eq_true rfl)⟩, (Nat.le_of_ble_eq_true rfl), (Nat.le_of_ble_eq_true rfl)⟩ (q0 := 0) (ci := 8) rfl rfl rfl (Nat.le_of_ble_eq_true rfl) dX6_begin_89 ?_
                exact V.iret (v := nI 0) X hE rfl rfl (Nat.le_of_ble_eq_true rfl) (Nat.le_of_ble_eq_true rfl) (pM9 (j := 3) (by simp [kBG, ins9, hz10, hp, ep, hz18, hq, eq, hz31, hz45, hz63, hz71, hz84]) (fun h => absurd h (by decide)) rfl) dX6_begin_92
      · refine V.aload_n X dX6_begin_34 rfl ?_
        refine V.iconst (v := nI 2) X dX6_begin_35 rfl ?_
        refine V.callV1 [.int (nI 2)] X (c_X6_fails l D cy am (sN S 62 (fun _ => 0)) F 2) mv_X6_fails gw_6_132 ⟨⟨(Nat.le_of_ble_eq_true rfl), (Nat.le_of_ble_eq_true rfl)⟩, (Nat.le_of_ble_eq_true rfl), (Nat.le_of_ble_eq_true rfl)⟩ (q0 := 0) (ci := 8) rfl rfl rfl (Nat.le_of_ble_eq_true rfl) dX6_begin_36 ?_
        exact V.iret (v := nI 0) X hE rfl rfl (Nat.le_of_ble_eq_true rfl) (Nat.le_of_ble_eq_true rfl) (pM9 (j := 2) (by simp [kBG, ins9, hz10, hp, ep, hz18, hq, eq, hz31]) (fun h => absurd h (by decide)) rfl) dX6_begin_39
    · refine V.aload_n X dX6_begin_21 rfl ?_
      refine V.iconst (v := nI 1) X dX6_begin_22 rfl ?_
      refine V.callV1 [.int (nI 1)] X (c_X6_fails l D cy am (sN S 62 (fun _ => 0)) F 1) mv_X6_fails gw_6_132 ⟨⟨(Nat.le_of_ble_eq_true rfl), (Nat.le_of_ble_eq_true rfl)⟩, (Nat.le_of_ble_eq_true rfl), (Nat.le_of_ble_eq_true rfl)⟩ (q0 := 0) (ci := 8) rfl rfl rfl (Nat.le_of_ble_eq_true rfl) dX6_begin_23 ?_
      exact V.iret (v := nI 0) X hE rfl rfl (Nat.le_of_ble_eq_true rfl) (Nat.le_of_ble_eq_true rfl) (pM9 (j := 1) (by simp [kBG, ins9, hz10, hp, ep, hz18]) (fun h => absurd h (by decide)) rfl) dX6_begin_26
set_option maxRecDepth 20000 in
set_option maxHeartbeats 4000000 in
theorem c_X6_handOver (l : Launch) (D : va_G) (cy : Nat → ClassId) (am : Nat → Nat) (S : St) (F : va_W) (x : Int32) (y : Int32) (hI : Inv S) (hR : Rm S) : Ctr l D cy yX6_handOver (.code yX6_handOver cX6_handOver 3 (some FieldType.int)) ({ frames := 12, cells := 0, slots := 0, locals := 400 } : Room) [.ref (am 0), .int x, .int y] (wM am cy S ++ F) (pMx (kHO S x y) (nI (rN S 40 0 + 10)) (fun k9 => wM am cy (sN (bif Nat.beq k9 0 then (sHO S x y) else S) 62 (fun _ => k9)) ++ F)) pNo := by
  refine Ctr.of (by decide) (Nat.le_of_ble_eq_true rfl) ?_
  intro M X hE hN hB9 hI9
  replace X : VX l D M cy cX6_handOver "RunbookerModel" (some FieldType.int) ({ frames := 12, cells := 0, slots := 0, locals := 400 } : Room) := X
  show V l D M 0 0 (wM am cy S ++ F) [(0, .ref (am 0)), (1, .int x), (2, .int y)] 0 []
  have hW := hI.w
  have hB := hW.b
  have h43 := hW.n43
  have h44 := hW.n44
  have h46 := hW.n46
  have h45 := hW.n45
  have hcl := hW.cl
  have hen := hW.en
  have hW0 : Wk (sN S 62 (fun _ => 0)) := hW.s62 (fun _ => by decide)
  have hcr : cntR S ≤ rN S 44 0 := cnt9_le _ _
  have he3 := Rm.en hR
  refine V.aload_n X dX6_handOver_0 rfl ?_
  refine V.iconst (v := nI 0) X dX6_handOver_1 rfl ?_
  refine wM_pX6_97 (v := 0) X dX6_handOver_2 ?_
  refine V.aload_n X dX6_handOver_5 rfl ?_
  refine V.iload_n X dX6_handOver_6 rfl ?_
  refine V.callV1 [.int x] X (c_X6_isPerson l D cy am (sN S 62 (fun _ => 0)) F x (hW0.b)) mv_X6_isPerson gw_6_140 ⟨⟨(Nat.le_of_ble_eq_true rfl), (Nat.le_of_ble_eq_true rfl)⟩, (Nat.le_of_ble_eq_true rfl), (Nat.le_of_ble_eq_true rfl)⟩ (q0 := 0) (ci := 8) rfl rfl rfl (Nat.le_of_ble_eq_true rfl) dX6_handOver_7 ?_
  refine V.if_eq (tgt := 21) X dX6_handOver_10 (by decide) b2i_0 b2i_n0 (fun (hz10 : inR x (rN S 43 0) = false) => ?_) (fun (hz10 : inR x (rN S 43 0) = true) => ?_)
  · refine V.aload_n X dX6_handOver_21 rfl ?_
    refine V.iconst (v := nI 1) X dX6_handOver_22 rfl ?_
    refine V.callV1 [.int (nI 1)] X (c_X6_fails l D cy am (sN S 62 (fun _ => 0)) F 1) mv_X6_fails gw_6_132 ⟨⟨(Nat.le_of_ble_eq_true rfl), (Nat.le_of_ble_eq_true rfl)⟩, (Nat.le_of_ble_eq_true rfl), (Nat.le_of_ble_eq_true rfl)⟩ (q0 := 0) (ci := 8) rfl rfl rfl (Nat.le_of_ble_eq_true rfl) dX6_handOver_23 ?_
    exact V.iret (v := nI 0) X hE rfl rfl (Nat.le_of_ble_eq_true rfl) (Nat.le_of_ble_eq_true rfl) (pM9 (j := 1) (by simp [kHO, Option.isSome_iff_ne_none, tko9, hz10]) (fun h => absurd h (by decide)) rfl) dX6_handOver_26
  · obtain ⟨p, hp, rfl⟩ := inR_of hz10 (by omega)
    have ep : ix (nI p) = p := ix_nI (by omega)
    refine V.aload_n X dX6_handOver_13 rfl ?_
    refine V.iload_n X dX6_handOver_14 rfl ?_
    refine V.callV1 [.int y] X (c_X6_isPerson l D cy am (sN S 62 (fun _ => 0)) F y (hW0.b)) mv_X6_isPerson gw_6_140 ⟨⟨(Nat.le_of_ble_eq_true rfl), (Nat.le_of_ble_eq_true rfl)⟩, (Nat.le_of_ble_eq_true rfl), (Nat.le_of_ble_eq_true rfl)⟩ (q0 := 0) (ci := 8) rfl rfl rfl (Nat.le_of_ble_eq_true rfl) dX6_handOver_15 ?_
    refine V.if_ne (tgt := 27) X dX6_handOver_18 (by decide) b2i_n0 b2i_0 (fun (hz18 : inR y (rN S 43 0) = true) => ?_) (fun (hz18 : inR y (rN S 43 0) = false) => ?_)
    · obtain ⟨q, hq, rfl⟩ := inR_of hz18 (by omega)
      have eq : ix (nI q) = q := ix_nI (by omega)
      refine V.iload_n X dX6_handOver_27 rfl ?_
      refine V.iload_n X dX6_handOver_28 rfl ?_
      refine V.icmp_ne (tgt := 38) X dX6_handOver_29 (by decide) cN_ne (cN_eq (by omega) (by omega)) (fun (hz29 : ¬ p = q) => ?_) (fun (hz29 : p = q) => ?_)
      · refine V.aload_n X dX6_handOver_38 rfl ?_
        refine wM_gX6_124 X dX6_handOver_39 ?_
        refine V.if_eq (tgt := 53) X dX6_handOver_42 (by decide) b2i_0 b2i_n0 (fun (hz42 : rB S 41 0 = false) => ?_) (fun (hz42 : rB S 41 0 = true) => ?_)
        · refine V.aload_n X dX6_handOver_53 rfl ?_
          refine V.iconst (v := nI 3) X dX6_handOver_54 rfl ?_
          refine V.callV1 [.int (nI 3)] X (c_X6_fails l D cy am (sN S 62 (fun _ => 0)) F 3) mv_X6_fails gw_6_132 ⟨⟨(Nat.le_of_ble_eq_true rfl), (Nat.le_of_ble_eq_true rfl)⟩, (Nat.le_of_ble_eq_true rfl), (Nat.le_of_ble_eq_true rfl)⟩ (q0 := 0) (ci := 8) rfl rfl rfl (Nat.le_of_ble_eq_true rfl) dX6_handOver_55 ?_
          exact V.iret (v := nI 0) X hE rfl rfl (Nat.le_of_ble_eq_true rfl) (Nat.le_of_ble_eq_true rfl) (pM9 (j := 3) (by simp [kHO, Option.isSome_iff_ne_none, tko9, hz10, hp, ep, hz18, hq, eq, hz29, hz42]) (fun h => absurd h (by decide)) rfl) dX6_handOver_58
        · refine V.aload_n X dX6_handOver_45 rfl ?_
          refine wM_gX6_75 X dX6_handOver_46 ?_
          refine V.iconst (v := o2i none) X dX6_handOver_49 rfl ?_
          refine V.icmp_eq (tgt := 59) X dX6_handOver_50 (by decide) (cO_eq (a := rO S 47 0) (b := none) (hB.o 47 _) lt_none) (cO_ne (a := rO S 47 0) (b := none)) (fun (hz50 : rO S 47 0 = none) => ?_) (fun (hz50 : ¬ rO S 47 0 = none) => ?_)
          · refine V.aload_n X dX6_handOver_59 rfl ?_
            refine wM_gX6_50 X dX6_handOver_60 ?_
            refine V.iload_n X dX6_handOver_63 rfl ?_
            refine wM_ld14 (i := p) X (by omega) dX6_handOver_64 ?_
            refine V.if_eq (tgt := 108) X dX6_handOver_65 (by decide) b2i_0 b2i_n0 (fun (hz65 : rB S 8 p = false) => ?_) (fun (hz65 : rB S 8 p = true) => ?_)
            · refine V.aload_n X dX6_handOver_108 rfl ?_
              refine V.iconst (v := nI 4) X dX6_handOver_109 rfl ?_
              refine V.callV1 [.int (nI 4)] X (c_X6_fails l D cy am (sN S 62 (fun _ => 0)) F 4) mv_X6_fails gw_6_132 ⟨⟨(Nat.le_of_ble_eq_true rfl), (Nat.le_of_ble_eq_true rfl)⟩, (Nat.le_of_ble_eq_true rfl), (Nat.le_of_ble_eq_true rfl)⟩ (q0 := 0) (ci := 8) rfl rfl rfl (Nat.le_of_ble_eq_true rfl) dX6_handOver_110 ?_
              exact V.iret (v := nI 0) X hE rfl rfl (Nat.le_of_ble_eq_true rfl) (Nat.le_of_ble_eq_true rfl) (pM9 (j := 4) (by simp [kHO, Option.isSome_iff_ne_none, tko9, hz10, hp, ep, hz18, hq, eq, hz29, hz42, hz50, hz65]) (fun h => absurd h (by decide)) rfl) dX6_handOver_113
            · refine V.aload_n X dX6_handOver_68 rfl ?_
              refine wM_gX6_50 X dX6_handOver_69 ?_
              refine V.iload_n X dX6_handOver_72 rfl ?_
              refine wM_ld14 (i := q) X (by omega) dX6_handOver_73 ?_
              refine V.if_ne (tgt := 108) X dX6_handOver_74 (by decide) b2i_n0 b2i_0 (fun (hz74 : rB S 8 q = true) => ?_) (fun (hz74 : rB S 8 q = false) => ?_)
              · refine V.aload_n X dX6_handOver_108 rfl ?_
                refine V.iconst (v := nI 4) X dX6_handOver_109 rfl ?_
                refine V.callV1 [.int (nI 4)] X (c_X6_fails l D cy am (sN S 62 (fun _ => 0)) F 4) mv_X6_fails gw_6_132 ⟨⟨(Nat.le_of_ble_eq_true rfl), (Nat.le_of_ble_eq_true rfl)⟩, (Nat.le_of_ble_eq_true rfl), (Nat.le_of_ble_eq_true rfl)⟩ (q0 := 0) (ci := 8) rfl rfl rfl (Nat.le_of_ble_eq_true rfl) dX6_handOver_110 ?_
                exact V.iret (v := nI 0) X hE rfl rfl (Nat.le_of_ble_eq_true rfl) (Nat.le_of_ble_eq_true rfl) (pM9 (j := 4) (by simp [kHO, Option.isSome_iff_ne_none, tko9, hz10, hp, ep, hz18, hq, eq, hz29, hz42, hz50, hz65, hz74]) (fun h => absurd h (by decide)) rfl) dX6_handOver_113
              · refine V.aload_n X dX6_handOver_77 rfl ?_
                refine V.iload_n X dX6_handOver_78 rfl ?_
                refine V.callV1 [.int (o2i (some p))] X (c_X6_work l D cy am (sN S 62 (fun _ => 0)) F (some p) (hW0.b) (show (rN S 44 0) ≤ 16 by omega) (lt_some9 (by omega))) mv_X6_work gw_6_148 ⟨⟨(Nat.le_of_ble_eq_true rfl), (Nat.le_of_ble_eq_true rfl)⟩, (Nat.le_of_ble_eq_true rfl), (Nat.le_of_ble_eq_true rfl)⟩ (q0 := 0) (ci := 8) rfl rfl rfl (Nat.le_of_ble_eq_true rfl) dX6_handOver_79 ?_
                refine V.top (congrArg o2i (hI.qwk (p := p) (by omega))) ?_
                refine V.iconst (v := o2i none) X dX6_handOver_82 rfl ?_
                refine V.icmp_eq (tgt := 114) X dX6_handOver_83 (by decide) (cO_eq (a := rO S 9 p) (b := none) (hB.o 9 p) lt_none) (cO_ne (a := rO S 9 p) (b := none)) (fun (hz83 : rO S 9 p = none) => ?_) (fun (hz83 : ¬ rO S 9 p = none) => ?_)
                · refine V.aload_n X dX6_handOver_114 rfl ?_
                  refine V.iload_n X dX6_handOver_115 rfl ?_
                  refine wM_pX6_75 (v := some p) X dX6_handOver_116 ?_
                  refine V.aload_n X dX6_handOver_119 rfl ?_
                  refine V.iload_n X dX6_handOver_120 rfl ?_
                  refine wM_pX6_79 (v := some q) X dX6_handOver_121 ?_
                  refine V.aload_n X dX6_handOver_124 rfl ?_
                  refine V.aload_n X dX6_handOver_125 rfl ?_
                  refine wM_gX6_147 X dX6_handOver_126 ?_
                  refine V.bipush (v := nI 10) X dX6_handOver_129 (by decide) ?_
                  refine V.iadd (v := nI (rN S 40 0 + 10)) X dX6_handOver_131 (nI_add _ _) ?_
                  refine wM_pX6_196 (v := rN S 40 0 + 10) X dX6_handOver_132 ?_
                  refine V.aload_n X dX6_handOver_135 rfl ?_
                  refine V.bipush (v := nI 104) X dX6_handOver_136 (by decide) ?_
                  refine V.iconst (v := o2i none) X dX6_handOver_138 rfl ?_
                  refine V.iload_n X dX6_handOver_139 rfl ?_
                  refine V.callV0 [.int (c2i 104), .int (o2i none), .int (o2i (some p))] X (c_X6_logs l D cy am (sN (sO (sO (sN S 62 (fun _ => 0)) 47 (fun _ => some p)) 48 (fun _ => some q)) 49 (fun _ => rN S 40 0 + 10)) F 104 none (some p) ((((hB.sN 62 (fun _ => show 0 < 1000000 by omega)).sO 47 (fun _ _ e9 => by cases e9; show p < 1000000; omega)).sO 48 (fun _ _ e9 => by cases e9; show q < 1000000; omega)).sN 49 (fun _ => show rN S 40 0 + 10 < 1000000 by omega)) (show (rN S 50 0) < 1536 by omega)) mv_X6_logs gw_6_237 ⟨⟨(Nat.le_of_ble_eq_true rfl), (Nat.le_of_ble_eq_true rfl)⟩, (Nat.le_of_ble_eq_true rfl), (Nat.le_of_ble_eq_true rfl)⟩ (q0 := 0) (ci := 8) rfl rfl rfl (Nat.le_of_ble_eq_true rfl) dX6_handOver_140 ?_
                  refine V.aload_n X dX6_handOver_143 rfl ?_
                  refine wM_gX6_196 X dX6_handOver_144 ?_
                  exact V.iret (v := nI (rN S 40 0 + 10)) X hE rfl rfl (Nat.le_of_ble_eq_true rfl) (Nat.le_of_ble_eq_true rfl) (pM9 (j := 0) (by simp [kHO, Option.isSome_iff_ne_none, tko9, hz10, hp, ep, hz18, hq, eq, hz29, hz42, hz50, hz65, hz74, hz83]) (fun h9 => (by first | rfl | (simp only [ep, eq]; done) | simp [hz10, hp, ep, hz18, hq, eq, hz29, hz42, hz50, hz65, hz74, hz83])) (by first | (simp only [sHO, ep, eq]; done) | (simp only [sHO, ep, eq]; rfl) | rfl)) dX6_handOver_147
                · obtain ⟨s9, e9⟩ := Option.ne_none_iff_exists'.mp hz83
                  have hs9 := hW.wk p s9 hp e9
                  refine V.aload_n X dX6_handOver_86 rfl ?_
                  refine wM_gX6_9 X dX6_handOver_87 ?_
                  refine V.iload_n X dX6_handOver_90 rfl ?_
                  refine wM_ld1 (i := q) X (by omega) dX6_handOver_91 ?_
                  refine V.aload_n X dX6_handOver_92 rfl ?_
                  refine wM_gX6_16 X dX6_handOver_93 ?_
                  refine V.aload_n X dX6_handOver_96 rfl ?_
                  refine V.iload_n X dX6_handOver_97 rfl ?_
                  refine V.callV1 [.int (o2i (some p))] X (c_X6_work l D cy am (sN S 62 (fun _ => 0)) F (some p) (hW0.b) (show (rN S 44 0) ≤ 16 by omega) (lt_some9 (by omega))) mv_X6_work gw_6_148 ⟨⟨(Nat.le_of_ble_eq_true rfl), (Nat.le_of_ble_eq_true rfl)⟩, (Nat.le_of_ble_eq_true rfl), (Nat.le_of_ble_eq_true rfl)⟩ (q0 := 0) (ci := 8) rfl rfl rfl (Nat.le_of_ble_eq_true rfl) dX6_handOver_98 ?_
                  refine V.top (congrArg o2i (hI.qwk (p := p) (by omega))) ?_
                  refine V.top (congrArg o2i e9) ?_
                  refine wM_ld3 (i := s9) X (by omega) dX6_handOver_101 ?_
                  refine V.callS1 [.int (rI S 7 q), .int (nI (rN S 10 s9))] X (c_X6_has l D cy am (sN S 62 (fun _ => 0)) F (rI S 7 q) (nI (rN S 10 s9))) ms_X6_has gw_6_164 ⟨⟨(Nat.le_of_ble_eq_true rfl), (Nat.le_of_ble_eq_true rfl)⟩, (Nat.le_of_ble_eq_true rfl), (Nat.le_of_ble_eq_true rfl)⟩ rfl (Nat.le_of_ble_eq_true rfl) dX6_handOver_102 ?_
                  refine V.if_ne (tgt := 114) X dX6_handOver_105 (by decide) b2i_n0 b2i_0 (fun (hz105 : hasBit (rI S 7 q) (nI (rN S 10 s9)) = true) => ?_) (fun (hz105 : hasBit (rI S 7 q) (nI (rN S 10 s9)) = false) => ?_)
                  · refine V.aload_n X dX6_handOver_114 rfl ?_
                    refine V.iload_n X dX6_handOver_115 rfl ?_
                    refine wM_pX6_75 (v := some p) X dX6_handOver_116 ?_
                    refine V.aload_n X dX6_handOver_119 rfl ?_
                    refine V.iload_n X dX6_handOver_120 rfl ?_
                    refine wM_pX6_79 (v := some q) X dX6_handOver_121 ?_
                    refine V.aload_n X dX6_handOver_124 rfl ?_
                    refine V.aload_n X dX6_handOver_125 rfl ?_
                    refine wM_gX6_147 X dX6_handOver_126 ?_
                    refine V.bipush (v := nI 10) X dX6_handOver_129 (by decide) ?_
                    refine V.iadd (v := nI (rN S 40 0 + 10)) X dX6_handOver_131 (nI_add _ _) ?_
                    refine wM_pX6_196 (v := rN S 40 0 + 10) X dX6_handOver_132 ?_
                    refine V.aload_n X dX6_handOver_135 rfl ?_
                    refine V.bipush (v := nI 104) X dX6_handOver_136 (by decide) ?_
                    refine V.iconst (v := o2i none) X dX6_handOver_138 rfl ?_
                    refine V.iload_n X dX6_handOver_139 rfl ?_
                    refine V.callV0 [.int (c2i 104), .int (o2i none), .int (o2i (some p))] X (c_X6_logs l D cy am (sN (sO (sO (sN S 62 (fun _ => 0)) 47 (fun _ => some p)) 48 (fun _ => some q)) 49 (fun _ => rN S 40 0 + 10)) F 104 none (some p) ((((hB.sN 62 (fun _ => show 0 < 1000000 by omega)).sO 47 (fun _ _ e9 => by cases e9; show p < 1000000; omega)).sO 48 (fun _ _ e9 => by cases e9; show q < 1000000; omega)).sN 49 (fun _ => show rN S 40 0 + 10 < 1000000 by omega)) (show (rN S 50 0) < 1536 by omega)) mv_X6_logs gw_6_237 ⟨⟨(Nat.le_of_ble_eq_true rfl), (Nat.le_of_ble_eq_true rfl)⟩, (Nat.le_of_ble_eq_true rfl), (Nat.le_of_ble_eq_true rfl)⟩ (q0 := 0) (ci := 8) rfl rfl rfl (Nat.le_of_ble_eq_true rfl) dX6_handOver_140 ?_
                    refine V.aload_n X dX6_handOver_143 rfl ?_
                    refine wM_gX6_196 X dX6_handOver_144 ?_
                    exact V.iret (v := nI (rN S 40 0 + 10)) X hE rfl rfl (Nat.le_of_ble_eq_true rfl) (Nat.le_of_ble_eq_true rfl) (pM9 (j := 0) (by simp [kHO, Option.isSome_iff_ne_none, tko9, hz10, hp, ep, hz18, hq, eq, hz29, hz42, hz50, hz65, hz74, e9, hz105]) (fun h9 => (by first | rfl | (simp only [ep, eq]; done) | simp [hz10, hp, ep, hz18, hq, eq, hz29, hz42, hz50, hz65, hz74, e9, hz105])) (by first | (simp only [sHO, ep, eq]; done) | (simp only [sHO, ep, eq]; rfl) | rfl)) dX6_handOver_147
                  · refine V.aload_n X dX6_handOver_108 rfl ?_
                    refine V.iconst (v := nI 4) X dX6_handOver_109 rfl ?_
                    refine V.callV1 [.int (nI 4)] X (c_X6_fails l D cy am (sN S 62 (fun _ => 0)) F 4) mv_X6_fails gw_6_132 ⟨⟨(Nat.le_of_ble_eq_true rfl), (Nat.le_of_ble_eq_true rfl)⟩, (Nat.le_of_ble_eq_true rfl), (Nat.le_of_ble_eq_true rfl)⟩ (q0 := 0) (ci := 8) rfl rfl rfl (Nat.le_of_ble_eq_true rfl) dX6_handOver_110 ?_
                    exact V.iret (v := nI 0) X hE rfl rfl (Nat.le_of_ble_eq_true rfl) (Nat.le_of_ble_eq_true rfl) (pM9 (j := 4) (by simp [kHO, Option.isSome_iff_ne_none, tko9, hz10, hp, ep, hz18, hq, eq, hz29, hz42, hz50, hz65, hz74, e9, hz105]) (fun h => absurd h (by decide)) rfl) dX6_handOver_113
          · refine V.aload_n X dX6_handOver_53 rfl ?_
            refine V.iconst (v := nI 3) X dX6_handOver_54 rfl ?_
            refine V.callV1 [.int (nI 3)] X (c_X6_fails l D cy am (sN S 62 (fun _ => 0)) F 3) mv_X6_fails gw_6_132 ⟨⟨(Nat.le_of_ble_eq_true rfl), (Nat.le_of_ble_eq_true rfl)⟩, (Nat.le_of_ble_eq_true rfl), (Nat.le_of_ble_eq_true rfl)⟩ (q0 := 0) (ci := 8) rfl rfl rfl (Nat.le_of_ble_eq_true rfl) dX6_handOver_55 ?_
            exact V.iret (v := nI 0) X hE rfl rfl (Nat.le_of_ble_eq_true rfl) (Nat.le_of_ble_eq_true rfl) (pM9 (j := 3) (by simp [kHO, Option.isSome_iff_ne_none, tko9, hz10, hp, ep, hz18, hq, eq, hz29, hz42, hz50]) (fun h => absurd h (by decide)) rfl) dX6_handOver_58
      · refine V.aload_n X dX6_handOver_32 rfl ?_
        refine V.iconst (v := nI 2) X dX6_handOver_33 rfl ?_
        refine V.callV1 [.int (nI 2)] X (c_X6_fails l D cy am (sN S 62 (fun _ => 0)) F 2) mv_X6_fails gw_6_132 ⟨⟨(Nat.le_of_ble_eq_true rfl), (Nat.le_of_ble_eq_true rfl)⟩, (Nat.le_of_ble_eq_true rfl), (Nat.le_of_ble_eq_true rfl)⟩ (q0 := 0) (ci := 8) rfl rfl rfl (Nat.le_of_ble_eq_true rfl) dX6_handOver_34 ?_
        exact V.iret (v := nI 0) X hE rfl rfl (Nat.le_of_ble_eq_true rfl) (Nat.le_of_ble_eq_true rfl) (pM9 (j := 2) (by simp [kHO, Option.isSome_iff_ne_none, tko9, hz10, hp, ep, hz18, hq, eq, hz29]) (fun h => absurd h (by decide)) rfl) dX6_handOver_37
    · refine V.aload_n X dX6_handOver_21 rfl ?_
      refine V.iconst (v := nI 1) X dX6_handOver_22 rfl ?_
      refine V.callV1 [.int (nI 1)] X (c_X6_fails l D cy am (sN S 62 (fun _ => 0)) F 1) mv_X6_fails gw_6_132 ⟨⟨(Nat.le_of_ble_eq_true rfl), (Nat.le_of_ble_eq_true rfl)⟩, (Nat.le_of_ble_eq_true rfl), (Nat.le_of_ble_eq_true rfl)⟩ (q0 := 0) (ci := 8) rfl rfl rfl (Nat.le_of_ble_eq_true rfl) dX6_handOver_23 ?_
      exact V.iret (v := nI 0) X hE rfl rfl (Nat.le_of_ble_eq_true rfl) (Nat.le_of_ble_eq_true rfl) (pM9 (j := 1) (by simp [kHO, Option.isSome_iff_ne_none, tko9, hz10, hp, ep, hz18]) (fun h => absurd h (by decide)) rfl) dX6_handOver_26
