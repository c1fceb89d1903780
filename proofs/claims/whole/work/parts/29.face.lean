/-! ===== more faces ===== -/
theorem Rm.en {S : St} (h : Rm S) : rN S 50 0 + 2 * actN S + rN S 45 0 + 3 ≤ 1536 := by
  have := h.1
  unfold Phi at this
  omega
theorem cnt9_lt {p q : Nat → Bool} (hpq : ∀ j, p j = true → q j = false) : ∀ n, cnt9 p n + cnt9 q n ≤ n
  | 0 => Nat.le_refl _
  | n + 1 => by
    have := cnt9_lt hpq n
    have h2 := hpq n
    unfold cnt9
    cases e : p n with
    | true => rw [h2 e]; simp; omega
    | false => cases q n <;> simp <;> omega
theorem Inv.dlt {S : St} (h : Inv S) {s : Nat} (hs : s < rN S 46 0) (ha : rC S 22 s = 97) : rN S 45 0 < rN S 46 0 := by
  have h1 := cnt9_lt (p := fun s => decide (rC S 22 s = 97)) (q := fun s => decide (rC S 22 s = 100)) (fun j hj => by simp at hj; simp [hj]) (rN S 46 0)
  have h2 := actN_pos hs ha
  have h3 := h.dc
  unfold actN at h2
  omega
theorem Wk.st {S : St} (h : Wk S) : Wk (sST S) := ⟨((prS_bnd h.b h.n44 _).sN 50 (fun _ => by omega)).sB 41 _, h.n43, h.n44, Nat.le_refl _, Nat.zero_le _, h.role, h.len, h.lim, h.cc, h.sen, h.fb, fun p s h1 h2 => Nat.lt_of_lt_of_le (h.wk p s h1 h2) h.n46, h.fr, h.to, fun k hk => absurd hk (Nat.not_lt_zero _), fun j => by show low9 (fun _ => 0) (rN S 25) (rN S 44 0) j ≤ 3; unfold low9; split; exact Nat.zero_le _; exact h.tr j, h.wo, h.cl, Nat.zero_le _, h.lm, fun s hs _ => by show low9 (fun _ => 0) (rN S 25) (rN S 44 0) s < rN S 12 s; rw [low9_in (show s < rN S 44 0 from hs)]; exact h.lm s hs, h.l1⟩
set_option maxRecDepth 20000 in
set_option maxHeartbeats 4000000 in
theorem c_X5_condition (l : Launch) (D : va_G) (cy : Nat → ClassId) (ad : Nat → Nat) (S : St) (F : va_W) (x : Int32) (se : Int32) (sg : UInt16) (b : Int32) (hI : Inv S) : Ctr l D cy yX5_condition (.code yX5_condition cX5_condition 5 (some FieldType.int)) ({ frames := 12, cells := 8, slots := 48, locals := 400 } : Room) [.ref (ad 0), .int x, .int se, .int (c2i sg), .int b] (wC ad cy S ++ F) (pIx (kCD S x se sg b = 0) (nI (rN S 17 (ix x) + 1)) (wC ad cy (sCD S x se sg b) ++ F)) (pXk ["java/util/NoSuchElementException", "java/lang/IllegalArgumentException", "java/lang/IllegalStateException"] (kCD S x se sg b) (wC ad cy S ++ F)) := by
  refine Ctr.of (by decide) (Nat.le_of_ble_eq_true rfl) ?_
  intro M X hE hN hB9 hI9
  replace X : VX l D M cy cX5_condition "Runbooker" (some FieldType.int) ({ frames := 12, cells := 8, slots := 48, locals := 400 } : Room) := X
  show V l D M 0 0 (wC ad cy S ++ F) [(0, .ref (ad 0)), (1, .int x), (2, .int se), (3, .int (c2i sg)), (4, .int b)] 0 []
  have hW := hI.w
  have hB := hW.b
  have h43 := hW.n43
  have h44 := hW.n44
  have h46 := hW.n46
  have h45 := hW.n45
  have hcl := hW.cl
  have hen := hW.en
  refine V.aload_n X dX5_condition_0 rfl ?_
  refine V.iload_n X dX5_condition_1 rfl ?_
  refine V.callVx0 [.int x] X hE hN (c_X5_requireStep l D cy ad S F x) mv_X5_requireStep gw_3_1 ⟨⟨(Nat.le_of_ble_eq_true rfl), (Nat.le_of_ble_eq_true rfl)⟩, (Nat.le_of_ble_eq_true rfl), (Nat.le_of_ble_eq_true rfl)⟩ (q0 := 0) (ci := 7) rfl rfl rfl (Nat.le_of_ble_eq_true rfl) dX5_condition_2 (fun E9 w9 h9 => ⟨0, (by simp [kCD, h9.1]), (by rw [h9.2.1]; rfl), h9.2.2⟩) (fun hz2 => ?_)
  obtain ⟨p, hp, rfl⟩ := inR_of hz2 (by omega)
  have ep : ix (nI p) = p := ix_nI (by omega)
  refine V.iload_n X dX5_condition_5 rfl ?_
  refine V.callS1 [.int se] X (c_X5_isSensor l D cy ad S F se) ms_X5_isSensor gw_3_25 ⟨⟨(Nat.le_of_ble_eq_true rfl), (Nat.le_of_ble_eq_true rfl)⟩, (Nat.le_of_ble_eq_true rfl), (Nat.le_of_ble_eq_true rfl)⟩ rfl (Nat.le_of_ble_eq_true rfl) dX5_condition_6 ?_
  refine V.if_eq (tgt := 38) X dX5_condition_9 (by decide) b2i_0 b2i_n0 (fun (hz9 : inR se 6 = false) => ?_) (fun (hz9 : inR se 6 = true) => ?_)
  · exact V.thIAE X hE hN gS_127 (.inl ⟨rfl, rfl⟩) dX5_condition_38 dX5_condition_41 dX5_condition_42 dX5_condition_44 dX5_condition_47 (Nat.le_of_ble_eq_true rfl) (Nat.le_of_ble_eq_true rfl) (Nat.le_of_ble_eq_true rfl) (Nat.le_of_ble_eq_true rfl) ⟨1, (by simp [kCD, hz2, hp, ep, hz9]), rfl, rfl⟩
  · obtain ⟨q, hq, rfl⟩ := inR_of hz9 (by omega)
    have eq : ix (nI q) = q := ix_nI (by omega)
    refine V.iload X dX5_condition_12 rfl ?_
    refine V.callS1 [.int b] X (c_X5_isReading l D cy ad S F b) ms_X5_isReading gw_3_26 ⟨⟨(Nat.le_of_ble_eq_true rfl), (Nat.le_of_ble_eq_true rfl)⟩, (Nat.le_of_ble_eq_true rfl), (Nat.le_of_ble_eq_true rfl)⟩ rfl (Nat.le_of_ble_eq_true rfl) dX5_condition_14 ?_
    refine V.if_eq (tgt := 38) X dX5_condition_17 (by decide) b2i_0 b2i_n0 (fun (hz17 : rdgB b = false) => ?_) (fun (hz17 : rdgB b = true) => ?_)
    · exact V.thIAE X hE hN gS_127 (.inl ⟨rfl, rfl⟩) dX5_condition_38 dX5_condition_41 dX5_condition_42 dX5_condition_44 dX5_condition_47 (Nat.le_of_ble_eq_true rfl) (Nat.le_of_ble_eq_true rfl) (Nat.le_of_ble_eq_true rfl) (Nat.le_of_ble_eq_true rfl) ⟨1, (by simp [kCD, hz2, hp, ep, hz9, hq, eq, hz17]), rfl, rfl⟩
    · refine V.iload_n X dX5_condition_20 rfl ?_
      refine V.bipush (v := nI 60) X dX5_condition_21 (by decide) ?_
      refine V.icmp_eq (tgt := 48) X dX5_condition_23 (by decide) (cC_eq (a := sg) (b := 60)) (cC_ne (a := sg) (b := 60)) (fun (hz23 : sg = 60) => ?_) (fun (hz23 : ¬ sg = 60) => ?_)
      · refine V.aload_n X dX5_condition_48 rfl ?_
        refine V.callVx0 [] X hE hN (c_X5_requireNoRun l D cy ad S F ) mv_X5_requireNoRun gw_2_224 ⟨⟨(Nat.le_of_ble_eq_true rfl), (Nat.le_of_ble_eq_true rfl)⟩, (Nat.le_of_ble_eq_true rfl), (Nat.le_of_ble_eq_true rfl)⟩ (q0 := 0) (ci := 7) rfl rfl rfl (Nat.le_of_ble_eq_true rfl) dX5_condition_49 (fun E9 w9 h9 => ⟨2, (by simp [kCD, hz2, hp, ep, hz9, hq, eq, hz17, hz23, h9.1]), (by rw [h9.2.1]; rfl), h9.2.2⟩) (fun hz49 => ?_)
        refine V.aload_n X dX5_condition_52 rfl ?_
        refine wC_gX5_19 X dX5_condition_53 ?_
        refine wC_gX5_129 X dX5_condition_56 ?_
        refine V.iload_n X dX5_condition_59 rfl ?_
        refine wC_ld17 (i := p) X (by omega) dX5_condition_60 ?_
        refine V.iconst (v := nI 2) X dX5_condition_61 rfl ?_
        refine V.icmp_lt (tgt := 75) X dX5_condition_62 (by decide) (cN_lt (hB.n 17 _) (by decide)) (cN_nlt (hB.n 17 _) (by decide)) (fun (hz62 : rN S 17 p < 2) => ?_) (fun (hz62 : 2 ≤ rN S 17 p) => ?_)
        · refine V.aload_n X dX5_condition_75 rfl ?_
          refine wC_gX5_19 X dX5_condition_76 ?_
          refine V.iload_n X dX5_condition_79 rfl ?_
          refine V.iload_n X dX5_condition_80 rfl ?_
          refine V.iload_n X dX5_condition_81 rfl ?_
          refine V.iload X dX5_condition_82 rfl ?_
          refine V.callV1 [.int (nI p), .int (nI q), .int (c2i sg), .int b] X (c_X3_addCondition l D cy ad S F p q sg b (show p < 16 by omega) (show (rN S 17 p) < 2 by omega)) mv_X3_addCondition gw_3_31 ⟨⟨(Nat.le_of_ble_eq_true rfl), (Nat.le_of_ble_eq_true rfl)⟩, (Nat.le_of_ble_eq_true rfl), (Nat.le_of_ble_eq_true rfl)⟩ (q0 := 2) (ci := 5) rfl rfl rfl (Nat.le_of_ble_eq_true rfl) dX5_condition_84 ?_
          exact V.iret (v := nI (rN S 17 p + 1)) X hE rfl rfl (Nat.le_of_ble_eq_true rfl) (Nat.le_of_ble_eq_true rfl) ⟨(by simp [kCD, hz2, hp, ep, hz9, hq, eq, hz17, hz23, hz49, hz62, (Nat.not_le.mpr hz62)]), (congrArg (fun z => some (Value.int z)) (by first | rfl | (simp only [ep, eq]; done) | simp [hz2, hp, ep, hz9, hq, eq, hz17, hz23, hz49, hz62, (Nat.not_le.mpr hz62)])), (by first | (simp only [sCD, ep, eq]; done) | (simp only [sCD, ep, eq]; rfl) | rfl)⟩ dX5_condition_87
        · exact V.thISE X hE hN gS_132 (.inl ⟨rfl, rfl⟩) dX5_condition_65 dX5_condition_68 dX5_condition_69 dX5_condition_71 dX5_condition_74 (Nat.le_of_ble_eq_true rfl) (Nat.le_of_ble_eq_true rfl) (Nat.le_of_ble_eq_true rfl) (Nat.le_of_ble_eq_true rfl) ⟨2, (by simp [kCD, hz2, hp, ep, hz9, hq, eq, hz17, hz23, hz49, hz62, (Nat.not_lt.mpr hz62)]), rfl, rfl⟩
      · refine V.iload_n X dX5_condition_26 rfl ?_
        refine V.bipush (v := nI 62) X dX5_condition_27 (by decide) ?_
        refine V.icmp_eq (tgt := 48) X dX5_condition_29 (by decide) (cC_eq (a := sg) (b := 62)) (cC_ne (a := sg) (b := 62)) (fun (hz29 : sg = 62) => ?_) (fun (hz29 : ¬ sg = 62) => ?_)
        · refine V.aload_n X dX5_condition_48 rfl ?_
          refine V.callVx0 [] X hE hN (c_X5_requireNoRun l D cy ad S F ) mv_X5_requireNoRun gw_2_224 ⟨⟨(Nat.le_of_ble_eq_true rfl), (Nat.le_of_ble_eq_true rfl)⟩, (Nat.le_of_ble_eq_true rfl), (Nat.le_of_ble_eq_true rfl)⟩ (q0 := 0) (ci := 7) rfl rfl rfl (Nat.le_of_ble_eq_true rfl) dX5_condition_49 (fun E9 w9 h9 => ⟨2, (by simp [kCD, hz2, hp, ep, hz9, hq, eq, hz17, hz23, hz29, h9.1]), (by rw [h9.2.1]; rfl), h9.2.2⟩) (fun hz49 => ?_)
          refine V.aload_n X dX5_condition_52 rfl ?_
          refine wC_gX5_19 X dX5_condition_53 ?_
          refine wC_gX5_129 X dX5_condition_56 ?_
          refine V.iload_n X dX5_condition_59 rfl ?_
          refine wC_ld17 (i := p) X (by omega) dX5_condition_60 ?_
          refine V.iconst (v := nI 2) X dX5_condition_61 rfl ?_
          refine V.icmp_lt (tgt := 75) X dX5_condition_62 (by decide) (cN_lt (hB.n 17 _) (by decide)) (cN_nlt (hB.n 17 _) (by decide)) (fun (hz62 : rN S 17 p < 2) => ?_) (fun (hz62 : 2 ≤ rN S 17 p) => ?_)
          · refine V.aload_n X dX5_condition_75 rfl ?_
            refine wC_gX5_19 X dX5_condition_76 ?_
            refine V.iload_n X dX5_condition_79 rfl ?_
            refine V.iload_n X dX5_condition_80 rfl ?_
            refine V.iload_n X dX5_condition_81 rfl ?_
            refine V.iload X dX5_condition_82 rfl ?_
            refine V.callV1 [.int (nI p), .int (nI q), .int (c2i sg), .int b] X (c_X3_addCondition l D cy ad S F p q sg b (show p < 16 by omega) (show (rN S 17 p) < 2 by omega)) mv_X3_addCondition gw_3_31 ⟨⟨(Nat.le_of_ble_eq_true rfl), (Nat.le_of_ble_eq_true rfl)⟩, (Nat.le_of_ble_eq_true rfl), (Nat.le_of_ble_eq_true rfl)⟩ (q0 := 2) (ci := 5) rfl rfl rfl (Nat.le_of_ble_eq_true rfl) dX5_condition_84 ?_
            exact V.iret (v := nI (rN S 17 p + 1)) X hE rfl rfl (Nat.le_of_ble_eq_true rfl) (Nat.le_of_ble_eq_true rfl) ⟨(by simp [kCD, hz2, hp, ep, hz9, hq, eq, hz17, hz23, hz29, hz49, hz62, (Nat.not_le.mpr hz62)]), (congrArg (fun z => some (Value.int z)) (by first | rfl | (simp only [ep, eq]; done) | simp [hz2, hp, ep, hz9, hq, eq, hz17, hz23, hz29, hz49, hz62, (Nat.not_le.mpr hz62)])), (by first | (simp only [sCD, ep, eq]; done) | (simp only [sCD, ep, eq]; rfl) | rfl)⟩ dX5_condition_87
          · exact V.thISE X hE hN gS_132 (.inl ⟨rfl, rfl⟩) dX5_condition_65 dX5_condition_68 dX5_condition_69 dX5_condition_71 dX5_condition_74 (Nat.le_of_ble_eq_true rfl) (Nat.le_of_ble_eq_true rfl) (Nat.le_of_ble_eq_true rfl) (Nat.le_of_ble_eq_true rfl) ⟨2, (by simp [kCD, hz2, hp, ep, hz9, hq, eq, hz17, hz23, hz29, hz49, hz62, (Nat.not_lt.mpr hz62)]), rfl, rfl⟩
        · refine V.iload_n X dX5_condition_32 rfl ?_
          refine V.bipush (v := nI 61) X dX5_condition_33 (by decide) ?_
          refine V.icmp_eq (tgt := 48) X dX5_condition_35 (by decide) (cC_eq (a := sg) (b := 61)) (cC_ne (a := sg) (b := 61)) (fun (hz35 : sg = 61) => ?_) (fun (hz35 : ¬ sg = 61) => ?_)
          · refine V.aload_n X dX5_condition_48 rfl ?_
            refine V.callVx0 [] X hE hN (c_X5_requireNoRun l D cy ad S F ) mv_X5_requireNoRun gw_2_224 ⟨⟨(Nat.le_of_ble_eq_true rfl), (Nat.le_of_ble_eq_true rfl)⟩, (Nat.le_of_ble_eq_true rfl), (Nat.le_of_ble_eq_true rfl)⟩ (q0 := 0) (ci := 7) rfl rfl rfl (Nat.le_of_ble_eq_true rfl) dX5_condition_49 (fun E9 w9 h9 => ⟨2, (by simp [kCD, hz2, hp, ep, hz9, hq, eq, hz17, hz23, hz29, hz35, h9.1]), (by rw [h9.2.1]; rfl), h9.2.2⟩) (fun hz49 => ?_)
            refine V.aload_n X dX5_condition_52 rfl ?_
            refine wC_gX5_19 X dX5_condition_53 ?_
            refine wC_gX5_129 X dX5_condition_56 ?_
            refine V.iload_n X dX5_condition_59 rfl ?_
            refine wC_ld17 (i := p) X (by omega) dX5_condition_60 ?_
            refine V.iconst (v := nI 2) X dX5_condition_61 rfl ?_
            refine V.icmp_lt (tgt := 75) X dX5_condition_62 (by decide) (cN_lt (hB.n 17 _) (by decide)) (cN_nlt (hB.n 17 _) (by decide)) (fun (hz62 : rN S 17 p < 2) => ?_) (fun (hz62 : 2 ≤ rN S 17 p) => ?_)
            · refine V.aload_n X dX5_condition_75 rfl ?_
              refine wC_gX5_19 X dX5_condition_76 ?_
              refine V.iload_n X dX5_condition_79 rfl ?_
              refine V.iload_n X dX5_condition_80 rfl ?_
              refine V.iload_n X dX5_condition_81 rfl ?_
              refine V.iload X dX5_condition_82 rfl ?_
              refine V.callV1 [.int (nI p), .int (nI q), .int (c2i sg), .int b] X (c_X3_addCondition l D cy ad S F p q sg b (show p < 16 by omega) (show (rN S 17 p) < 2 by omega)) mv_X3_addCondition gw_3_31 ⟨⟨(Nat.le_of_ble_eq_true rfl), (Nat.le_of_ble_eq_true rfl)⟩, (Nat.le_of_ble_eq_true rfl), (Nat.le_of_ble_eq_true rfl)⟩ (q0 := 2) (ci := 5) rfl rfl rfl (Nat.le_of_ble_eq_true rfl) dX5_condition_84 ?_
              exact V.iret (v := nI (rN S 17 p + 1)) X hE rfl rfl (Nat.le_of_ble_eq_true rfl) (Nat.le_of_ble_eq_true rfl) ⟨(by simp [kCD, hz2, hp, ep, hz9, hq, eq, hz17, hz23, hz29, hz35, hz49, hz62, (Nat.not_le.mpr hz62)]), (congrArg (fun z => some (Value.int z)) (by first | rfl | (simp only [ep, eq]; done) | simp [hz2, hp, ep, hz9, hq, eq, hz17, hz23, hz29, hz35, hz49, hz62, (Nat.not_le.mpr hz62)])), (by first | (simp only [sCD, ep, eq]; done) | (simp only [sCD, ep, eq]; rfl) | rfl)⟩ dX5_condition_87
            · exact V.thISE X hE hN gS_132 (.inl ⟨rfl, rfl⟩) dX5_condition_65 dX5_condition_68 dX5_condition_69 dX5_condition_71 dX5_condition_74 (Nat.le_of_ble_eq_true rfl) (Nat.le_of_ble_eq_true rfl) (Nat.le_of_ble_eq_true rfl) (Nat.le_of_ble_eq_true rfl) ⟨2, (by simp [kCD, hz2, hp, ep, hz9, hq, eq, hz17, hz23, hz29, hz35, hz49, hz62, (Nat.not_lt.mpr hz62)]), rfl, rfl⟩
          · exact V.thIAE X hE hN gS_127 (.inl ⟨rfl, rfl⟩) dX5_condition_38 dX5_condition_41 dX5_condition_42 dX5_condition_44 dX5_condition_47 (Nat.le_of_ble_eq_true rfl) (Nat.le_of_ble_eq_true rfl) (Nat.le_of_ble_eq_true rfl) (Nat.le_of_ble_eq_true rfl) ⟨1, (by simp [kCD, hz2, hp, ep, hz9, hq, eq, hz17, hz23, hz29, hz35]), rfl, rfl⟩
set_option maxRecDepth 20000 in
set_option maxHeartbeats 4000000 in
theorem c_X5_setFallback (l : Launch) (D : va_G) (cy : Nat → ClassId) (ad : Nat → Nat) (S : St) (F : va_W) (x : Int32) (y : Int32) (hI : Inv S) : Ctr l D cy yX5_setFallback (.code yX5_setFallback cX5_setFallback 5 (some FieldType.int)) ({ frames := 12, cells := 8, slots := 48, locals := 400 } : Room) [.ref (ad 0), .int x, .int y] (wC ad cy S ++ F) (pIx (kSF S x y = 0) (o2i (rO S 16 (ix x))) (wC ad cy (sSF S x y) ++ F)) (pXk ["java/util/NoSuchElementException", "java/lang/IllegalArgumentException", "java/lang/IllegalStateException"] (kSF S x y) (wC ad cy S ++ F)) := by
  refine Ctr.of (by decide) (Nat.le_of_ble_eq_true rfl) ?_
  intro M X hE hN hB9 hI9
  replace X : VX l D M cy cX5_setFallback "Runbooker" (some FieldType.int) ({ frames := 12, cells := 8, slots := 48, locals := 400 } : Room) := X
  show V l D M 0 0 (wC ad cy S ++ F) [(0, .ref (ad 0)), (1, .int x), (2, .int y)] 0 []
  have hW := hI.w
  have hB := hW.b
  have h43 := hW.n43
  have h44 := hW.n44
  have h46 := hW.n46
  have h45 := hW.n45
  have hcl := hW.cl
  have hen := hW.en
  refine V.aload_n X dX5_setFallback_0 rfl ?_
  refine V.iload_n X dX5_setFallback_1 rfl ?_
  refine V.callVx0 [.int x] X hE hN (c_X5_requireStep l D cy ad S F x) mv_X5_requireStep gw_3_1 ⟨⟨(Nat.le_of_ble_eq_true rfl), (Nat.le_of_ble_eq_true rfl)⟩, (Nat.le_of_ble_eq_true rfl), (Nat.le_of_ble_eq_true rfl)⟩ (q0 := 0) (ci := 7) rfl rfl rfl (Nat.le_of_ble_eq_true rfl) dX5_setFallback_2 (fun E9 w9 h9 => ⟨0, (by simp [kSF, own9, h9.1]), (by rw [h9.2.1]; rfl), h9.2.2⟩) (fun hz2 => ?_)
  obtain ⟨p, hp, rfl⟩ := inR_of hz2 (by omega)
  have ep : ix (nI p) = p := ix_nI (by omega)
  refine V.aload_n X dX5_setFallback_5 rfl ?_
  refine V.iload_n X dX5_setFallback_6 rfl ?_
  refine V.callVx0 [.int y] X hE hN (c_X5_requireStep l D cy ad S F y) mv_X5_requireStep gw_3_1 ⟨⟨(Nat.le_of_ble_eq_true rfl), (Nat.le_of_ble_eq_true rfl)⟩, (Nat.le_of_ble_eq_true rfl), (Nat.le_of_ble_eq_true rfl)⟩ (q0 := 0) (ci := 7) rfl rfl rfl (Nat.le_of_ble_eq_true rfl) dX5_setFallback_7 (fun E9 w9 h9 => ⟨0, (by simp [kSF, own9, hz2, hp, ep, h9.1]), (by rw [h9.2.1]; rfl), h9.2.2⟩) (fun hz7 => ?_)
  obtain ⟨q, hq, rfl⟩ := inR_of hz7 (by omega)
  have eq : ix (nI q) = q := ix_nI (by omega)
  refine V.aload_n X dX5_setFallback_10 rfl ?_
  refine wC_gX5_19 X dX5_setFallback_11 ?_
  refine V.iload_n X dX5_setFallback_14 rfl ?_
  refine V.callV1 [.int (nI q)] X (c_X3_ownerOfFallback l D cy ad S F q hB (show q < 16 by omega) (show (rN S 44 0) ≤ 16 by omega)) mv_X3_ownerOfFallback gw_3_42 ⟨⟨(Nat.le_of_ble_eq_true rfl), (Nat.le_of_ble_eq_true rfl)⟩, (Nat.le_of_ble_eq_true rfl), (Nat.le_of_ble_eq_true rfl)⟩ (q0 := 2) (ci := 5) rfl rfl rfl (Nat.le_of_ble_eq_true rfl) dX5_setFallback_15 ?_
  refine V.istore_n (L' := [(3, .int (o2i (fst9 (fun s => decide (rO S 16 s = some q)) (rN S 44 0)))), (0, .ref (ad 0)), (1, .int (nI p)), (2, .int (nI q))]) X dX5_setFallback_18 rfl hB9 (by decide) rfl ?_
  refine V.iload_n X dX5_setFallback_19 rfl ?_
  refine V.iload_n X dX5_setFallback_20 rfl ?_
  refine V.icmp_le (tgt := 34) X dX5_setFallback_21 (by decide) (cN_le (by omega) (by omega)) (cN_nle (by omega) (by omega)) (fun (hz21 : q ≤ p) => ?_) (fun (hz21 : p < q) => ?_)
  · exact V.thIAE X hE hN gS_141 (.inl ⟨rfl, rfl⟩) dX5_setFallback_34 dX5_setFallback_37 dX5_setFallback_38 dX5_setFallback_40 dX5_setFallback_43 (Nat.le_of_ble_eq_true rfl) (Nat.le_of_ble_eq_true rfl) (Nat.le_of_ble_eq_true rfl) (Nat.le_of_ble_eq_true rfl) ⟨1, (by simp [kSF, own9, hz2, hp, ep, hz7, hq, eq, hz21, (Nat.not_lt.mpr hz21)]), rfl, rfl⟩
  · refine V.iload_n X dX5_setFallback_24 rfl ?_
    refine V.iconst (v := o2i none) X dX5_setFallback_25 rfl ?_
    refine V.icmp_eq (tgt := 44) X dX5_setFallback_26 (by decide) (cO_eq (a := fst9 (fun s => decide (rO S 16 s = some q)) (rN S 44 0)) (b := none) (fun k e => Nat.lt_of_lt_of_le (Nat.lt_of_lt_of_le (fst9_some e).1 (by assumption)) (by decide)) lt_none) (cO_ne (a := fst9 (fun s => decide (rO S 16 s = some q)) (rN S 44 0)) (b := none)) (fun (hz26 : fst9 (fun s => decide (rO S 16 s = some q)) (rN S 44 0) = none) => ?_) (fun (hz26 : ¬ fst9 (fun s => decide (rO S 16 s = some q)) (rN S 44 0) = none) => ?_)
    · refine V.aload_n X dX5_setFallback_44 rfl ?_
      refine V.callVx0 [] X hE hN (c_X5_requireNoRun l D cy ad S F ) mv_X5_requireNoRun gw_2_224 ⟨⟨(Nat.le_of_ble_eq_true rfl), (Nat.le_of_ble_eq_true rfl)⟩, (Nat.le_of_ble_eq_true rfl), (Nat.le_of_ble_eq_true rfl)⟩ (q0 := 0) (ci := 7) rfl rfl rfl (Nat.le_of_ble_eq_true rfl) dX5_setFallback_45 (fun E9 w9 h9 => ⟨2, (by simp [kSF, own9, hz2, hp, ep, hz7, hq, eq, hz21, (Nat.not_le.mpr hz21), hz26, h9.1]), (by rw [h9.2.1]; rfl), h9.2.2⟩) (fun hz45 => ?_)
      refine V.aload_n X dX5_setFallback_48 rfl ?_
      refine wC_gX5_19 X dX5_setFallback_49 ?_
      refine wC_gX5_143 X dX5_setFallback_52 ?_
      refine V.iload_n X dX5_setFallback_55 rfl ?_
      refine wC_ld16 (i := p) X (by omega) dX5_setFallback_56 ?_
      refine V.istore (L' := [(4, .int (o2i (rO S 16 p))), (3, .int (o2i (fst9 (fun s => decide (rO S 16 s = some q)) (rN S 44 0)))), (0, .ref (ad 0)), (1, .int (nI p)), (2, .int (nI q))]) X dX5_setFallback_57 hB9 (by decide) rfl ?_
      refine V.aload_n X dX5_setFallback_59 rfl ?_
      refine wC_gX5_19 X dX5_setFallback_60 ?_
      refine wC_gX5_143 X dX5_setFallback_63 ?_
      refine V.iload_n X dX5_setFallback_66 rfl ?_
      refine V.iload_n X dX5_setFallback_67 rfl ?_
      refine wC_st16 (i := p) (v := some q) (g := (rO S 16)) X (by omega) rfl dX5_setFallback_68 ?_
      refine V.iload X dX5_setFallback_69 rfl ?_
      exact V.iret (v := o2i (rO S 16 p)) X hE rfl rfl (Nat.le_of_ble_eq_true rfl) (Nat.le_of_ble_eq_true rfl) ⟨(by simp [kSF, own9, hz2, hp, ep, hz7, hq, eq, hz21, (Nat.not_le.mpr hz21), hz26, hz45]), (congrArg (fun z => some (Value.int z)) (by first | rfl | (simp only [ep, eq]; done) | simp [hz2, hp, ep, hz7, hq, eq, hz21, (Nat.not_le.mpr hz21), hz26, hz45])), (by first | (simp only [sSF, ep, eq]; done) | (simp only [sSF, ep, eq]; rfl) | rfl)⟩ dX5_setFallback_71
    · refine V.iload_n X dX5_setFallback_29 rfl ?_
      refine V.iload_n X dX5_setFallback_30 rfl ?_
      refine V.icmp_eq (tgt := 44) X dX5_setFallback_31 (by decide) (cO_eq (a := fst9 (fun s => decide (rO S 16 s = some q)) (rN S 44 0)) (b := some p) (fun k e => Nat.lt_of_lt_of_le (Nat.lt_of_lt_of_le (fst9_some e).1 (by assumption)) (by decide)) (lt_some9 (by omega))) (cO_ne (a := fst9 (fun s => decide (rO S 16 s = some q)) (rN S 44 0)) (b := some p)) (fun (hz31 : fst9 (fun s => decide (rO S 16 s = some q)) (rN S 44 0) = some p) => ?_) (fun (hz31 : ¬ fst9 (fun s => decide (rO S 16 s = some q)) (rN S 44 0) = some p) => ?_)
      · refine V.aload_n X dX5_setFallback_44 rfl ?_
        refine V.callVx0 [] X hE hN (c_X5_requireNoRun l D cy ad S F ) mv_X5_requireNoRun gw_2_224 ⟨⟨(Nat.le_of_ble_eq_true rfl), (Nat.le_of_ble_eq_true rfl)⟩, (Nat.le_of_ble_eq_true rfl), (Nat.le_of_ble_eq_true rfl)⟩ (q0 := 0) (ci := 7) rfl rfl rfl (Nat.le_of_ble_eq_true rfl) dX5_setFallback_45 (fun E9 w9 h9 => ⟨2, (by simp [kSF, own9, hz2, hp, ep, hz7, hq, eq, hz21, (Nat.not_le.mpr hz21), hz26, hz31, h9.1]), (by rw [h9.2.1]; rfl), h9.2.2⟩) (fun hz45 => ?_)
        refine V.aload_n X dX5_setFallback_48 rfl ?_
        refine wC_gX5_19 X dX5_setFallback_49 ?_
        refine wC_gX5_143 X dX5_setFallback_52 ?_
        refine V.iload_n X dX5_setFallback_55 rfl ?_
        refine wC_ld16 (i := p) X (by omega) dX5_setFallback_56 ?_
        refine V.istore (L' := [(4, .int (o2i (rO S 16 p))), (3, .int (o2i (fst9 (fun s => decide (rO S 16 s = some q)) (rN S 44 0)))), (0, .ref (ad 0)), (1, .int (nI p)), (2, .int (nI q))]) X dX5_setFallback_57 hB9 (by decide) rfl ?_
        refine V.aload_n X dX5_setFallback_59 rfl ?_
        refine wC_gX5_19 X dX5_setFallback_60 ?_
        refine wC_gX5_143 X dX5_setFallback_63 ?_
        refine V.iload_n X dX5_setFallback_66 rfl ?_
        refine V.iload_n X dX5_setFallback_67 rfl ?_
        refine wC_st16 (i := p) (v := some q) (g := (rO S 16)) X (by omega) rfl dX5_setFallback_68 ?_
        refine V.iload X dX5_setFallback_69 rfl ?_
        exact V.iret (v := o2i (rO S 16 p)) X hE rfl rfl (Nat.le_of_ble_eq_true rfl) (Nat.le_of_ble_eq_true rfl) ⟨(by simp [kSF, own9, hz2, hp, ep, hz7, hq, eq, hz21, (Nat.not_le.mpr hz21), hz26, hz31, hz45]), (congrArg (fun z => some (Value.int z)) (by first | rfl | (simp only [ep, eq]; done) | simp [hz2, hp, ep, hz7, hq, eq, hz21, (Nat.not_le.mpr hz21), hz26, hz31, hz45])), (by first | (simp only [sSF, ep, eq]; done) | (simp only [sSF, ep, eq]; rfl) | rfl)⟩ dX5_setFallback_71
      · exact V.thIAE X hE hN gS_141 (.inl ⟨rfl, rfl⟩) dX5_setFallback_34 dX5_setFallback_37 dX5_setFallback_38 dX5_setFallback_40 dX5_setFallback_43 (Nat.le_of_ble_eq_true rfl) (Nat.le_of_ble_eq_true rfl) (Nat.le_of_ble_eq_true rfl) (Nat.le_of_ble_eq_true rfl) ⟨1, (by simp [kSF, own9, hz2, hp, ep, hz7, hq, eq, hz21, (Nat.not_le.mpr hz21), hz26, hz31]), rfl, rfl⟩
set_option maxRecDepth 20000 in
set_option maxHeartbeats 4000000 in
theorem c_X5_setReading (l : Launch) (D : va_G) (cy : Nat → ClassId) (ad : Nat → Nat) (S : St) (F : va_W) (x : Int32) (r : Int32) (hI : Inv S) : Ctr l D cy yX5_setReading (.code yX5_setReading cX5_setReading 4 (some FieldType.int)) ({ frames := 12, cells := 8, slots := 48, locals := 400 } : Room) [.ref (ad 0), .int x, .int r] (wC ad cy S ++ F) (pIx (kSR x r = 0) (rI S 6 (ix x)) (wC ad cy (sSR S x r) ++ F)) (pXk ["java/lang/IllegalArgumentException"] (kSR x r) (wC ad cy S ++ F)) := by
  refine Ctr.of (by decide) (Nat.le_of_ble_eq_true rfl) ?_
  intro M X hE hN hB9 hI9
  replace X : VX l D M cy cX5_setReading "Runbooker" (some FieldType.int) ({ frames := 12, cells := 8, slots := 48, locals := 400 } : Room) := X
  show V l D M 0 0 (wC ad cy S ++ F) [(0, .ref (ad 0)), (1, .int x), (2, .int r)] 0 []
  have hW := hI.w
  have hB := hW.b
  have h43 := hW.n43
  have h44 := hW.n44
  have h46 := hW.n46
  have h45 := hW.n45
  have hcl := hW.cl
  have hen := hW.en
  refine V.iload_n X dX5_setReading_0 rfl ?_
  refine V.callS1 [.int x] X (c_X5_isSensor l D cy ad S F x) ms_X5_isSensor gw_3_25 ⟨⟨(Nat.le_of_ble_eq_true rfl), (Nat.le_of_ble_eq_true rfl)⟩, (Nat.le_of_ble_eq_true rfl), (Nat.le_of_ble_eq_true rfl)⟩ rfl (Nat.le_of_ble_eq_true rfl) dX5_setReading_1 ?_
  refine V.if_eq (tgt := 14) X dX5_setReading_4 (by decide) b2i_0 b2i_n0 (fun (hz4 : inR x 6 = false) => ?_) (fun (hz4 : inR x 6 = true) => ?_)
  · exact V.thIAE X hE hN gS_146 (.inl ⟨rfl, rfl⟩) dX5_setReading_14 dX5_setReading_17 dX5_setReading_18 dX5_setReading_20 dX5_setReading_23 (Nat.le_of_ble_eq_true rfl) (Nat.le_of_ble_eq_true rfl) (Nat.le_of_ble_eq_true rfl) (Nat.le_of_ble_eq_true rfl) ⟨0, (by simp [kSR, hz4]), rfl, rfl⟩
  · obtain ⟨p, hp, rfl⟩ := inR_of hz4 (by omega)
    have ep : ix (nI p) = p := ix_nI (by omega)
    refine V.iload_n X dX5_setReading_7 rfl ?_
    refine V.callS1 [.int r] X (c_X5_isReading l D cy ad S F r) ms_X5_isReading gw_3_26 ⟨⟨(Nat.le_of_ble_eq_true rfl), (Nat.le_of_ble_eq_true rfl)⟩, (Nat.le_of_ble_eq_true rfl), (Nat.le_of_ble_eq_true rfl)⟩ rfl (Nat.le_of_ble_eq_true rfl) dX5_setReading_8 ?_
    refine V.if_ne (tgt := 24) X dX5_setReading_11 (by decide) b2i_n0 b2i_0 (fun (hz11 : rdgB r = true) => ?_) (fun (hz11 : rdgB r = false) => ?_)
    · refine V.aload_n X dX5_setReading_24 rfl ?_
      refine wC_gX5_44 X dX5_setReading_25 ?_
      refine V.iload_n X dX5_setReading_28 rfl ?_
      refine wC_ld6 (i := p) X (by omega) dX5_setReading_29 ?_
      refine V.istore_n (L' := [(3, .int (rI S 6 p)), (0, .ref (ad 0)), (1, .int (nI p)), (2, .int r)]) X dX5_setReading_30 rfl hB9 (by decide) rfl ?_
      refine V.aload_n X dX5_setReading_31 rfl ?_
      refine wC_gX5_44 X dX5_setReading_32 ?_
      refine V.iload_n X dX5_setReading_35 rfl ?_
      refine V.iload_n X dX5_setReading_36 rfl ?_
      refine wC_st6 (i := p) (v := r) (g := (rI S 6)) X (by omega) rfl dX5_setReading_37 ?_
      refine V.iload_n X dX5_setReading_38 rfl ?_
      exact V.iret (v := rI S 6 p) X hE rfl rfl (Nat.le_of_ble_eq_true rfl) (Nat.le_of_ble_eq_true rfl) ⟨(by simp [kSR, hz4, hp, ep, hz11]), (congrArg (fun z => some (Value.int z)) (by first | rfl | (simp only [ep]; done) | simp [hz4, hp, ep, hz11])), (by first | (simp only [sSR, ep]; done) | (simp only [sSR, ep]; rfl) | rfl)⟩ dX5_setReading_39
    · exact V.thIAE X hE hN gS_146 (.inl ⟨rfl, rfl⟩) dX5_setReading_14 dX5_setReading_17 dX5_setReading_18 dX5_setReading_20 dX5_setReading_23 (Nat.le_of_ble_eq_true rfl) (Nat.le_of_ble_eq_true rfl) (Nat.le_of_ble_eq_true rfl) (Nat.le_of_ble_eq_true rfl) ⟨0, (by simp [kSR, hz4, hp, ep, hz11]), rfl, rfl⟩
set_option maxRecDepth 20000 in
set_option maxHeartbeats 4000000 in
theorem c_X5_start (l : Launch) (D : va_G) (cy : Nat → ClassId) (ad : Nat → Nat) (S : St) (F : va_W) (hI : Inv S) : Ctr l D cy yX5_start (.code yX5_start cX5_start 1 (some FieldType.int)) ({ frames := 12, cells := 8, slots := 48, locals := 400 } : Room) [.ref (ad 0)] (wC ad cy S ++ F) (pIx (kST S = 0) (nI (cntR (sST S))) (wC ad cy (sST S) ++ F)) (pXk ["java/lang/IllegalStateException"] (kST S) (wC ad cy S ++ F)) := by
  refine Ctr.of (by decide) (Nat.le_of_ble_eq_true rfl) ?_
  intro M X hE hN hB9 hI9
  replace X : VX l D M cy cX5_start "Runbooker" (some FieldType.int) ({ frames := 12, cells := 8, slots := 48, locals := 400 } : Room) := X
  show V l D M 0 0 (wC ad cy S ++ F) [(0, .ref (ad 0))] 0 []
  have hW := hI.w
  have hB := hW.b
  have h43 := hW.n43
  have h44 := hW.n44
  have h46 := hW.n46
  have h45 := hW.n45
  have hcl := hW.cl
  have hen := hW.en
  have hW2 := hW.st
  refine V.aload_n X dX5_start_0 rfl ?_
  refine V.callVx0 [] X hE hN (c_X5_requireNoRun l D cy ad S F ) mv_X5_requireNoRun gw_2_224 ⟨⟨(Nat.le_of_ble_eq_true rfl), (Nat.le_of_ble_eq_true rfl)⟩, (Nat.le_of_ble_eq_true rfl), (Nat.le_of_ble_eq_true rfl)⟩ (q0 := 0) (ci := 7) rfl rfl rfl (Nat.le_of_ble_eq_true rfl) dX5_start_1 (fun E9 w9 h9 => ⟨0, (by simp [kST, h9.1]), (by rw [h9.2.1]; rfl), h9.2.2⟩) (fun hz1 => ?_)
  refine V.aload_n X dX5_start_4 rfl ?_
  refine wC_gX5_19 X dX5_start_5 ?_
  refine wC_gX5_95 X dX5_start_8 ?_
  refine V.if_ne (tgt := 24) X dX5_start_11 (by decide) cN_ne (cN_eq (hB.n 44 _) (by decide)) (fun (hz11 : ¬ rN S 44 0 = 0) => ?_) (fun (hz11 : rN S 44 0 = 0) => ?_)
  · refine V.aload_n X dX5_start_24 rfl ?_
    refine wC_gX5_26 X dX5_start_25 ?_
    refine V.aload_n X dX5_start_28 rfl ?_
    refine wC_gX5_19 X dX5_start_29 ?_
    refine V.callV0 [.ref (ad 2)] X (c_X4_reset l D cy ad S F hB (show (rN S 44 0) ≤ 16 by omega)) mv_X4_reset gw_3_63 ⟨⟨(Nat.le_of_ble_eq_true rfl), (Nat.le_of_ble_eq_true rfl)⟩, (Nat.le_of_ble_eq_true rfl), (Nat.le_of_ble_eq_true rfl)⟩ (q0 := 3) (ci := 6) rfl rfl rfl (Nat.le_of_ble_eq_true rfl) dX5_start_32 ?_
    refine V.aload_n X dX5_start_35 rfl ?_
    refine wC_gX5_40 X dX5_start_36 ?_
    refine V.iconst (v := nI 0) X dX5_start_39 rfl ?_
    refine wC_pX5_154 (v := 0) X dX5_start_40 ?_
    refine V.aload_n X dX5_start_43 rfl ?_
    refine V.iconst (v := nI 1) X dX5_start_44 rfl ?_
    refine wC_pX5_155 (v := true) X dX5_start_45 ?_
    refine V.eqs (Wd' := wC ad cy (sST S) ++ F) rfl rfl ?_
    refine V.aload_n X dX5_start_48 rfl ?_
    refine V.callV1 [] X (c_X5_countReady l D cy ad (sST S) F hW2) mv_X5_countReady gw_2_14 ⟨⟨(Nat.le_of_ble_eq_true rfl), (Nat.le_of_ble_eq_true rfl)⟩, (Nat.le_of_ble_eq_true rfl), (Nat.le_of_ble_eq_true rfl)⟩ (q0 := 0) (ci := 7) rfl rfl rfl (Nat.le_of_ble_eq_true rfl) dX5_start_49 ?_
    exact V.iret (v := nI (cntR (sST S))) X hE rfl rfl (Nat.le_of_ble_eq_true rfl) (Nat.le_of_ble_eq_true rfl) ⟨(by simp [kST, hz1, hz11]), (congrArg (fun z => some (Value.int z)) (by first | rfl | simp [hz1, hz11])), rfl⟩ dX5_start_52
  · exact V.thISE X hE hN gS_148 (.inl ⟨rfl, rfl⟩) dX5_start_14 dX5_start_17 dX5_start_18 dX5_start_20 dX5_start_23 (Nat.le_of_ble_eq_true rfl) (Nat.le_of_ble_eq_true rfl) (Nat.le_of_ble_eq_true rfl) (Nat.le_of_ble_eq_true rfl) ⟨0, (by simp [kST, hz1, hz11]), rfl, rfl⟩
set_option maxRecDepth 20000 in
set_option maxHeartbeats 4000000 in
theorem c_X5_close (l : Launch) (D : va_G) (cy : Nat → ClassId) (ad : Nat → Nat) (S : St) (F : va_W) (hI : Inv S) : Ctr l D cy yX5_close (.code yX5_close cX5_close 1 (some FieldType.int)) ({ frames := 12, cells := 8, slots := 48, locals := 400 } : Room) [.ref (ad 0)] (wC ad cy S ++ F) (pIx (kCL S = 0) (nI (rN S 45 0)) (wC ad cy (sB S 41 (fun _ => false)) ++ F)) (pXk ["java/lang/IllegalStateException"] (kCL S) (wC ad cy S ++ F)) := by
  refine Ctr.of (by decide) (Nat.le_of_ble_eq_true rfl) ?_
  intro M X hE hN hB9 hI9
  replace X : VX l D M cy cX5_close "Runbooker" (some FieldType.int) ({ frames := 12, cells := 8, slots := 48, locals := 400 } : Room) := X
  show V l D M 0 0 (wC ad cy S ++ F) [(0, .ref (ad 0))] 0 []
  have hW := hI.w
  have hB := hW.b
  have h43 := hW.n43
  have h44 := hW.n44
  have h46 := hW.n46
  have h45 := hW.n45
  have hcl := hW.cl
  have hen := hW.en
  refine V.aload_n X dX5_close_0 rfl ?_
  refine V.callVx0 [] X hE hN (c_X5_requireRun l D cy ad S F ) mv_X5_requireRun gw_3_75 ⟨⟨(Nat.le_of_ble_eq_true rfl), (Nat.le_of_ble_eq_true rfl)⟩, (Nat.le_of_ble_eq_true rfl), (Nat.le_of_ble_eq_true rfl)⟩ (q0 := 0) (ci := 7) rfl rfl rfl (Nat.le_of_ble_eq_true rfl) dX5_close_1 (fun E9 w9 h9 => ⟨0, (by simp [kCL, anyA, h9.1]), (by rw [h9.2.1]; rfl), h9.2.2⟩) (fun hz1 => ?_)
  refine V.aload_n X dX5_close_4 rfl ?_
  refine wC_gX5_26 X dX5_close_5 ?_
  refine V.callV1 [] X (c_X4_isAnyActive l D cy ad S F hB (show (rN S 46 0) ≤ 16 by omega)) mv_X4_isAnyActive gw_2_60 ⟨⟨(Nat.le_of_ble_eq_true rfl), (Nat.le_of_ble_eq_true rfl)⟩, (Nat.le_of_ble_eq_true rfl), (Nat.le_of_ble_eq_true rfl)⟩ (q0 := 3) (ci := 6) rfl rfl rfl (Nat.le_of_ble_eq_true rfl) dX5_close_8 ?_
  refine V.if_ne (tgt := 24) X dX5_close_11 (by decide) b2i_n0 b2i_0 (fun (hz11 : any9 (fun s => decide (rC S 22 s = 97)) (rN S 46 0) = true) => ?_) (fun (hz11 : any9 (fun s => decide (rC S 22 s = 97)) (rN S 46 0) = false) => ?_)
  · exact V.thISE X hE hN gS_173 (.inl ⟨rfl, rfl⟩) dX5_close_24 dX5_close_27 dX5_close_28 dX5_close_30 dX5_close_33 (Nat.le_of_ble_eq_true rfl) (Nat.le_of_ble_eq_true rfl) (Nat.le_of_ble_eq_true rfl) (Nat.le_of_ble_eq_true rfl) ⟨0, (by simp [kCL, anyA, hz1, hz11]), rfl, rfl⟩
  · refine V.aload_n X dX5_close_14 rfl ?_
    refine wC_gX5_33 X dX5_close_15 ?_
    refine V.callV1 [] X (c_X1_isOn l D cy ad S F hB) mv_X1_isOn gw_3_80 ⟨⟨(Nat.le_of_ble_eq_true rfl), (Nat.le_of_ble_eq_true rfl)⟩, (Nat.le_of_ble_eq_true rfl), (Nat.le_of_ble_eq_true rfl)⟩ (q0 := 4) (ci := 3) rfl rfl rfl (Nat.le_of_ble_eq_true rfl) dX5_close_18 ?_
    refine V.if_eq (tgt := 34) X dX5_close_21 (by decide) b2i_0 b2i_n0 (fun (hz21 : (rO S 47 0).isSome = false) => ?_) (fun (hz21 : (rO S 47 0).isSome = true) => ?_)
    · refine V.aload_n X dX5_close_34 rfl ?_
      refine V.iconst (v := nI 0) X dX5_close_35 rfl ?_
      refine wC_pX5_155 (v := false) X dX5_close_36 ?_
      refine V.aload_n X dX5_close_39 rfl ?_
      refine wC_gX5_26 X dX5_close_40 ?_
      refine wC_gX5_175 X dX5_close_43 ?_
      exact V.iret (v := nI (rN S 45 0)) X hE rfl rfl (Nat.le_of_ble_eq_true rfl) (Nat.le_of_ble_eq_true rfl) ⟨(by simp [kCL, anyA, hz1, hz11, hz21]), (congrArg (fun z => some (Value.int z)) (by first | rfl | simp [hz1, hz11, hz21])), rfl⟩ dX5_close_46
    · exact V.thISE X hE hN gS_173 (.inl ⟨rfl, rfl⟩) dX5_close_24 dX5_close_27 dX5_close_28 dX5_close_30 dX5_close_33 (Nat.le_of_ble_eq_true rfl) (Nat.le_of_ble_eq_true rfl) (Nat.le_of_ble_eq_true rfl) (Nat.le_of_ble_eq_true rfl) ⟨0, (by simp [kCL, anyA, hz1, hz11, hz21]), rfl, rfl⟩
set_option maxRecDepth 20000 in
set_option maxHeartbeats 4000000 in
theorem c_X5_begin (l : Launch) (D : va_G) (cy : Nat → ClassId) (ad : Nat → Nat) (S : St) (F : va_W) (x : Int32) (y : Int32) (hI : Inv S) (hR : Rm S) : Ctr l D cy yX5_begin (.code yX5_begin cX5_begin 4 (some FieldType.int)) ({ frames := 12, cells := 8, slots := 48, locals := 400 } : Room) [.ref (ad 0), .int x, .int y] (wC ad cy S ++ F) (pIx (kBG S x y = 0) (nI (rN S 40 0 + 2 * rN S 11 (ix y))) (wC ad cy (sBG S x y) ++ F)) (pXk ["java/util/NoSuchElementException", "java/lang/IllegalStateException", "java/lang/UnsupportedOperationException"] (kBG S x y) (wC ad cy S ++ F)) := by
  refine Ctr.of (by decide) (Nat.le_of_ble_eq_true rfl) ?_
  intro M X hE hN hB9 hI9
  replace X : VX l D M cy cX5_begin "Runbooker" (some FieldType.int) ({ frames := 12, cells := 8, slots := 48, locals := 400 } : Room) := X
  show V l D M 0 0 (wC ad cy S ++ F) [(0, .ref (ad 0)), (1, .int x), (2, .int y)] 0 []
  have hW := hI.w
  have hB := hW.b
  have h43 := hW.n43
  have h44 := hW.n44
  have h46 := hW.n46
  have h45 := hW.n45
  have hcl := hW.cl
  have hen := hW.en
  have he3 := Rm.en hR
  refine V.aload_n X dX5_begin_0 rfl ?_
  refine V.iload_n X dX5_begin_1 rfl ?_
  refine V.callVx0 [.int x] X hE hN (c_X5_requirePerson l D cy ad S F x) mv_X5_requirePerson gw_2_179 ⟨⟨(Nat.le_of_ble_eq_true rfl), (Nat.le_of_ble_eq_true rfl)⟩, (Nat.le_of_ble_eq_true rfl), (Nat.le_of_ble_eq_true rfl)⟩ (q0 := 0) (ci := 7) rfl rfl rfl (Nat.le_of_ble_eq_true rfl) dX5_begin_2 (fun E9 w9 h9 => ⟨0, (by simp [kBG, h9.1]), (by rw [h9.2.1]; rfl), h9.2.2⟩) (fun hz2 => ?_)
  obtain ⟨p, hp, rfl⟩ := inR_of hz2 (by omega)
  have ep : ix (nI p) = p := ix_nI (by omega)
  refine V.aload_n X dX5_begin_5 rfl ?_
  refine V.iload_n X dX5_begin_6 rfl ?_
  refine V.callVx0 [.int y] X hE hN (c_X5_requireStep l D cy ad S F y) mv_X5_requireStep gw_3_1 ⟨⟨(Nat.le_of_ble_eq_true rfl), (Nat.le_of_ble_eq_true rfl)⟩, (Nat.le_of_ble_eq_true rfl), (Nat.le_of_ble_eq_true rfl)⟩ (q0 := 0) (ci := 7) rfl rfl rfl (Nat.le_of_ble_eq_true rfl) dX5_begin_7 (fun E9 w9 h9 => ⟨0, (by simp [kBG, hz2, hp, ep, h9.1]), (by rw [h9.2.1]; rfl), h9.2.2⟩) (fun hz7 => ?_)
  obtain ⟨q, hq, rfl⟩ := inR_of hz7 (by omega)
  have eq : ix (nI q) = q := ix_nI (by omega)
  refine V.aload_n X dX5_begin_10 rfl ?_
  refine V.callVx0 [] X hE hN (c_X5_requireRun l D cy ad S F ) mv_X5_requireRun gw_3_75 ⟨⟨(Nat.le_of_ble_eq_true rfl), (Nat.le_of_ble_eq_true rfl)⟩, (Nat.le_of_ble_eq_true rfl), (Nat.le_of_ble_eq_true rfl)⟩ (q0 := 0) (ci := 7) rfl rfl rfl (Nat.le_of_ble_eq_true rfl) dX5_begin_11 (fun E9 w9 h9 => ⟨1, (by simp [kBG, hz2, hp, ep, hz7, hq, eq, h9.1]), (by rw [h9.2.1]; rfl), h9.2.2⟩) (fun hz11 => ?_)
  refine V.aload_n X dX5_begin_14 rfl ?_
  refine wC_gX5_19 X dX5_begin_15 ?_
  refine wC_gX5_178 X dX5_begin_18 ?_
  refine V.iload_n X dX5_begin_21 rfl ?_
  refine wC_ld10 (i := q) X (by omega) dX5_begin_22 ?_
  refine V.istore_n (L' := [(3, .int (nI (rN S 10 q))), (0, .ref (ad 0)), (1, .int (nI p)), (2, .int (nI q))]) X dX5_begin_23 rfl hB9 (by decide) rfl ?_
  refine V.aload_n X dX5_begin_24 rfl ?_
  refine V.iload_n X dX5_begin_25 rfl ?_
  refine V.callV1 [.int (nI p)] X (c_X5_isFree l D cy ad S F p hW (show p < 8 by omega)) mv_X5_isFree gw_3_93 ⟨⟨(Nat.le_of_ble_eq_true rfl), (Nat.le_of_ble_eq_true rfl)⟩, (Nat.le_of_ble_eq_true rfl), (Nat.le_of_ble_eq_true rfl)⟩ (q0 := 0) (ci := 7) rfl rfl rfl (Nat.le_of_ble_eq_true rfl) dX5_begin_26 ?_
  refine V.if_eq (tgt := 44) X dX5_begin_29 (by decide) b2i_0 b2i_n0 (fun (hz29 : free9 S p = false) => ?_) (fun (hz29 : free9 S p = true) => ?_)
  · exact V.thUOE X hE hN gS_189 (.inl ⟨rfl, rfl⟩) dX5_begin_44 dX5_begin_47 dX5_begin_48 dX5_begin_50 dX5_begin_53 (Nat.le_of_ble_eq_true rfl) (Nat.le_of_ble_eq_true rfl) (Nat.le_of_ble_eq_true rfl) (Nat.le_of_ble_eq_true rfl) ⟨2, (by simp [kBG, hz2, hp, ep, hz7, hq, eq, hz11, hz29]), rfl, rfl⟩
  · refine V.aload_n X dX5_begin_32 rfl ?_
    refine wC_gX5_10 X dX5_begin_33 ?_
    refine V.iload_n X dX5_begin_36 rfl ?_
    refine V.iload_n X dX5_begin_37 rfl ?_
    refine V.callV1 [.int (nI p), .int (nI (rN S 10 q))] X (c_X0_isAble l D cy ad S F p (nI (rN S 10 q)) (show p < 8 by omega)) mv_X0_isAble gw_3_101 ⟨⟨(Nat.le_of_ble_eq_true rfl), (Nat.le_of_ble_eq_true rfl)⟩, (Nat.le_of_ble_eq_true rfl), (Nat.le_of_ble_eq_true rfl)⟩ (q0 := 1) (ci := 2) rfl rfl rfl (Nat.le_of_ble_eq_true rfl) dX5_begin_38 ?_
    refine V.if_ne (tgt := 54) X dX5_begin_41 (by decide) b2i_n0 b2i_0 (fun (hz41 : hasBit (rI S 7 p) (nI (rN S 10 q)) = true) => ?_) (fun (hz41 : hasBit (rI S 7 p) (nI (rN S 10 q)) = false) => ?_)
    · refine V.aload_n X dX5_begin_54 rfl ?_
      refine V.iload_n X dX5_begin_55 rfl ?_
      refine V.callV1 [.int (nI q)] X (c_X5_isStepReady l D cy ad S F q hW (show q < 16 by omega)) mv_X5_isStepReady gw_2_18 ⟨⟨(Nat.le_of_ble_eq_true rfl), (Nat.le_of_ble_eq_true rfl)⟩, (Nat.le_of_ble_eq_true rfl), (Nat.le_of_ble_eq_true rfl)⟩ (q0 := 0) (ci := 7) rfl rfl rfl (Nat.le_of_ble_eq_true rfl) dX5_begin_56 ?_
      refine V.if_eq (tgt := 70) X dX5_begin_59 (by decide) b2i_0 b2i_n0 (fun (hz59 : rdy9 S q = false) => ?_) (fun (hz59 : rdy9 S q = true) => ?_)
      · exact V.thUOE X hE hN gS_198 (.inl ⟨rfl, rfl⟩) dX5_begin_70 dX5_begin_73 dX5_begin_74 dX5_begin_76 dX5_begin_79 (Nat.le_of_ble_eq_true rfl) (Nat.le_of_ble_eq_true rfl) (Nat.le_of_ble_eq_true rfl) (Nat.le_of_ble_eq_true rfl) ⟨2, (by simp [kBG, hz2, hp, ep, hz7, hq, eq, hz11, hz29, hz41, hz59]), rfl, rfl⟩
      · refine V.aload_n X dX5_begin_62 rfl ?_
        refine V.iload_n X dX5_begin_63 rfl ?_
        refine V.callV1 [.int (nI (rN S 10 q))] X (c_X5_isRolePaused l D cy ad S F (nI (rN S 10 q)) hW) mv_X5_isRolePaused gw_3_121 ⟨⟨(Nat.le_of_ble_eq_true rfl), (Nat.le_of_ble_eq_true rfl)⟩, (Nat.le_of_ble_eq_true rfl), (Nat.le_of_ble_eq_true rfl)⟩ (q0 := 0) (ci := 7) rfl rfl rfl (Nat.le_of_ble_eq_true rfl) dX5_begin_64 ?_
        refine V.if_eq (tgt := 80) X dX5_begin_67 (by decide) b2i_0 b2i_n0 (fun (hz67 : paus9 S (nI (rN S 10 q)) = false) => ?_) (fun (hz67 : paus9 S (nI (rN S 10 q)) = true) => ?_)
        · refine V.aload_n X dX5_begin_80 rfl ?_
          refine wC_gX5_10 X dX5_begin_81 ?_
          refine wC_gX5_200 X dX5_begin_84 ?_
          refine V.iload_n X dX5_begin_87 rfl ?_
          refine V.iload_n X dX5_begin_88 rfl ?_
          refine wC_st9 (i := p) (v := some q) (g := (rO S 9)) X (by omega) rfl dX5_begin_89 ?_
          refine V.aload_n X dX5_begin_90 rfl ?_
          refine wC_gX5_26 X dX5_begin_91 ?_
          refine V.iload_n X dX5_begin_94 rfl ?_
          refine V.aload_n X dX5_begin_95 rfl ?_
          refine wC_gX5_44 X dX5_begin_96 ?_
          refine V.callV0 [.int (nI q), .ref (ad 6)] X (c_X4_activate l D cy ad (sO S 9 (up1 (rO S 9) p (some q))) F q (show q < 16 by omega)) mv_X4_activate gw_3_126 ⟨⟨(Nat.le_of_ble_eq_true rfl), (Nat.le_of_ble_eq_true rfl)⟩, (Nat.le_of_ble_eq_true rfl), (Nat.le_of_ble_eq_true rfl)⟩ (q0 := 3) (ci := 6) rfl rfl rfl (Nat.le_of_ble_eq_true rfl) dX5_begin_99 ?_
          refine V.aload_n X dX5_begin_102 rfl ?_
          refine wC_gX5_40 X dX5_begin_103 ?_
          refine V.bipush (v := nI 98) X dX5_begin_106 (by decide) ?_
          refine V.iload_n X dX5_begin_108 rfl ?_
          refine V.iload_n X dX5_begin_109 rfl ?_
          refine V.aload_n X dX5_begin_110 rfl ?_
          refine wC_gX5_207 X dX5_begin_111 ?_
          refine V.callV0 [.int (c2i 98), .int (o2i (some q)), .int (o2i (some p)), .int (nI (rN S 40 0))] X (c_X2_write l D cy ad (sI (sB (sN (sC (sO S 9 (up1 (rO S 9) p (some q))) 22 (up1 (rC S 22) q 97)) 26 (up1 (rN S 26) q 0)) 24 (up1 (rB S 24) q true)) 27 (see9 (sO S 9 (up1 (rO S 9) p (some q))) q 6)) F 98 (some q) (some p) (rN S 40 0) (((((hB.sO 9 (up1_o (hB.2 9) (fun _ e9 => by cases e9; show q < 1000000; omega))).sC 22 _).sN 26 (up1_lt (hB.1 26) (show 0 < 1000000 by omega))).sB 24 _).sI 27 _) (show (rN S 50 0) < 1536 by omega)) mv_X2_write gw_3_130 ⟨⟨(Nat.le_of_ble_eq_true rfl), (Nat.le_of_ble_eq_true rfl)⟩, (Nat.le_of_ble_eq_true rfl), (Nat.le_of_ble_eq_true rfl)⟩ (q0 := 5) (ci := 4) rfl rfl rfl (Nat.le_of_ble_eq_true rfl) dX5_begin_114 ?_
          refine V.aload_n X dX5_begin_117 rfl ?_
          refine wC_gX5_207 X dX5_begin_118 ?_
          refine V.iconst (v := nI 2) X dX5_begin_121 rfl ?_
          refine V.aload_n X dX5_begin_122 rfl ?_
          refine wC_gX5_19 X dX5_begin_123 ?_
          refine wC_gX5_214 X dX5_begin_126 ?_
          refine V.iload_n X dX5_begin_129 rfl ?_
          refine wC_ld11 (i := q) X (by omega) dX5_begin_130 ?_
          refine V.imul (v := nI (2 * (rN S 11 q))) X dX5_begin_131 (pk_mul _ _) ?_
          refine V.iadd (v := nI (rN S 40 0 + (2 * (rN S 11 q)))) X dX5_begin_132 (nI_add _ _) ?_
          exact V.iret (v := nI (rN S 40 0 + (2 * (rN S 11 q)))) X hE rfl rfl (Nat.le_of_ble_eq_true rfl) (Nat.le_of_ble_eq_true rfl) ⟨(by simp [kBG, hz2, hp, ep, hz7, hq, eq, hz11, hz29, hz41, hz59, hz67]), (congrArg (fun z => some (Value.int z)) (by first | rfl | (simp only [ep, eq]; done) | simp [hz2, hp, ep, hz7, hq, eq, hz11, hz29, hz41, hz59, hz67])), (by first | (simp only [sBG, ep, eq]; done) | (simp only [sBG, ep, eq]; rfl) | rfl)⟩ dX5_begin_133
        · exact V.thUOE X hE hN gS_198 (.inl ⟨rfl, rfl⟩) dX5_begin_70 dX5_begin_73 dX5_begin_74 dX5_begin_76 dX5_begin_79 (Nat.le_of_ble_eq_true rfl) (Nat.le_of_ble_eq_true rfl) (Nat.le_of_ble_eq_true rfl) (Nat.le_of_ble_eq_true rfl) ⟨2, (by simp [kBG, hz2, hp, ep, hz7, hq, eq, hz11, hz29, hz41, hz59, hz67]), rfl, rfl⟩
    · exact V.thUOE X hE hN gS_189 (.inl ⟨rfl, rfl⟩) dX5_begin_44 dX5_begin_47 dX5_begin_48 dX5_begin_50 dX5_begin_53 (Nat.le_of_ble_eq_true rfl) (Nat.le_of_ble_eq_true rfl) (Nat.le_of_ble_eq_true rfl) (Nat.le_of_ble_eq_true rfl) ⟨2, (by simp [kBG, hz2, hp, ep, hz7, hq, eq, hz11, hz29, hz41]), rfl, rfl⟩
set_option maxRecDepth 20000 in
set_option maxHeartbeats 4000000 in
theorem c_X5_finish (l : Launch) (D : va_G) (cy : Nat → ClassId) (ad : Nat → Nat) (S : St) (F : va_W) (x : Int32) (b : Bool) (hI : Inv S) (hR : Rm S) : Ctr l D cy yX5_finish (.code yX5_finish cX5_finish 4 (some FieldType.char)) ({ frames := 12, cells := 8, slots := 48, locals := 400 } : Room) [.ref (ad 0), .int x, .int (b2i b)] (wC ad cy S ++ F) (pIx (kFN S x = 0) (c2i (rC (sFN S x b) 22 (wkOf S x))) (wC ad cy (sFN S x b) ++ F)) (pXk ["java/util/NoSuchElementException", "java/lang/IllegalStateException", "java/lang/UnsupportedOperationException"] (kFN S x) (wC ad cy S ++ F)) := by
  refine Ctr.of (by decide) (Nat.le_of_ble_eq_true rfl) ?_
  intro M X hE hN hB9 hI9
  replace X : VX l D M cy cX5_finish "Runbooker" (some FieldType.char) ({ frames := 12, cells := 8, slots := 48, locals := 400 } : Room) := X
  show V l D M 0 0 (wC ad cy S ++ F) [(0, .ref (ad 0)), (1, .int x), (2, .int (b2i b))] 0 []
  have hW := hI.w
  have hB := hW.b
  have h43 := hW.n43
  have h44 := hW.n44
  have h46 := hW.n46
  have h45 := hW.n45
  have hcl := hW.cl
  have hen := hW.en
  have he3 := Rm.en hR
  refine V.aload_n X dX5_finish_0 rfl ?_
  refine V.iload_n X dX5_finish_1 rfl ?_
  refine V.callVx0 [.int x] X hE hN (c_X5_requirePerson l D cy ad S F x) mv_X5_requirePerson gw_2_179 ⟨⟨(Nat.le_of_ble_eq_true rfl), (Nat.le_of_ble_eq_true rfl)⟩, (Nat.le_of_ble_eq_true rfl), (Nat.le_of_ble_eq_true rfl)⟩ (q0 := 0) (ci := 7) rfl rfl rfl (Nat.le_of_ble_eq_true rfl) dX5_finish_2 (fun E9 w9 h9 => ⟨0, (by simp [kFN, h9.1]), (by rw [h9.2.1]; rfl), h9.2.2⟩) (fun hz2 => ?_)
  obtain ⟨p, hp, rfl⟩ := inR_of hz2 (by omega)
  have ep : ix (nI p) = p := ix_nI (by omega)
  refine V.aload_n X dX5_finish_5 rfl ?_
  refine wC_gX5_10 X dX5_finish_6 ?_
  refine wC_gX5_200 X dX5_finish_9 ?_
  refine V.iload_n X dX5_finish_12 rfl ?_
  refine wC_ld9 (i := p) X (by omega) dX5_finish_13 ?_
  refine V.istore_n (L' := [(3, .int (o2i (rO S 9 p))), (0, .ref (ad 0)), (1, .int (nI p)), (2, .int (b2i b))]) X dX5_finish_14 rfl hB9 (by decide) rfl ?_
  refine V.aload_n X dX5_finish_15 rfl ?_
  refine wC_gX5_19 X dX5_finish_16 ?_
  refine V.iload_n X dX5_finish_19 rfl ?_
  refine V.callV1 [.int (o2i (rO S 9 p))] X (c_X3_has l D cy ad S F (o2i (rO S 9 p))) mv_X3_has gw_3_5 ⟨⟨(Nat.le_of_ble_eq_true rfl), (Nat.le_of_ble_eq_true rfl)⟩, (Nat.le_of_ble_eq_true rfl), (Nat.le_of_ble_eq_true rfl)⟩ (q0 := 2) (ci := 5) rfl rfl rfl (Nat.le_of_ble_eq_true rfl) dX5_finish_20 ?_
  refine V.if_ne (tgt := 36) X dX5_finish_23 (by decide) b2i_n0 b2i_0 (fun (hz23 : inR (o2i (rO S 9 p)) (rN S 44 0) = true) => ?_) (fun (hz23 : inR (o2i (rO S 9 p)) (rN S 44 0) = false) => ?_)
  · obtain ⟨s9, e9, hs9⟩ := inR_some (by omega) hz23 (hB.o 9 p)
    obtain ⟨hs46, ha97, hwk⟩ := (hI.wa p s9 hp).mp e9
    have hdl := hI.dlt hs46 ha97
    have hap := actN_pos hs46 ha97
    rw [e9]
    refine V.aload_n X dX5_finish_36 rfl ?_
    refine wC_gX5_26 X dX5_finish_37 ?_
    refine wC_gX5_222 X dX5_finish_40 ?_
    refine V.iload_n X dX5_finish_43 rfl ?_
    refine wC_ld26 (i := s9) X (by omega) dX5_finish_44 ?_
    refine V.aload_n X dX5_finish_45 rfl ?_
    refine wC_gX5_19 X dX5_finish_46 ?_
    refine wC_gX5_214 X dX5_finish_49 ?_
    refine V.iload_n X dX5_finish_52 rfl ?_
    refine wC_ld11 (i := s9) X (by omega) dX5_finish_53 ?_
    refine V.icmp_lt (tgt := 68) X dX5_finish_54 (by decide) (cN_lt (hB.n 26 _) (hB.n 11 _)) (cN_nlt (hB.n 26 _) (hB.n 11 _)) (fun (hz54 : rN S 26 s9 < rN S 11 s9) => ?_) (fun (hz54 : rN S 11 s9 ≤ rN S 26 s9) => ?_)
    · exact V.thUOE X hE hN gS_228 (.inl ⟨rfl, rfl⟩) dX5_finish_68 dX5_finish_71 dX5_finish_72 dX5_finish_74 dX5_finish_77 (Nat.le_of_ble_eq_true rfl) (Nat.le_of_ble_eq_true rfl) (Nat.le_of_ble_eq_true rfl) (Nat.le_of_ble_eq_true rfl) ⟨2, (by simp [kFN, hz2, hp, ep, e9, hz54, (Nat.not_le.mpr hz54)]), rfl, rfl⟩
    · refine V.aload_n X dX5_finish_57 rfl ?_
      refine wC_gX5_33 X dX5_finish_58 ?_
      refine V.iload_n X dX5_finish_61 rfl ?_
      refine V.callV1 [.int (nI p)] X (c_X1_isFrom l D cy ad S F p hB (show p < 16 by omega)) mv_X1_isFrom gw_3_97 ⟨⟨(Nat.le_of_ble_eq_true rfl), (Nat.le_of_ble_eq_true rfl)⟩, (Nat.le_of_ble_eq_true rfl), (Nat.le_of_ble_eq_true rfl)⟩ (q0 := 4) (ci := 3) rfl rfl rfl (Nat.le_of_ble_eq_true rfl) dX5_finish_62 ?_
      refine V.if_eq (tgt := 78) X dX5_finish_65 (by decide) b2i_0 b2i_n0 (fun (hz65 : decide (rO S 47 0 = some p) = false) => ?_) (fun (hz65 : decide (rO S 47 0 = some p) = true) => ?_)
      · refine V.iload_n X dX5_finish_78 rfl ?_
        refine V.if_eq (tgt := 90) X dX5_finish_79 (by decide) b2i_0 b2i_n0 (fun (hz79 : b = false) => ?_) (fun (hz79 : b = true) => ?_)
        · refine V.aload_n X dX5_finish_90 rfl ?_
          refine V.iload_n X dX5_finish_91 rfl ?_
          refine V.callV0 [.int (nI s9)] X (c_X5_failTry l D cy ad S F s9 hW (show s9 < (rN S 46 0) by omega) (show (rN S 50 0) + 2 ≤ 1536 by omega)) mv_X5_failTry gw_3_155 ⟨⟨(Nat.le_of_ble_eq_true rfl), (Nat.le_of_ble_eq_true rfl)⟩, (Nat.le_of_ble_eq_true rfl), (Nat.le_of_ble_eq_true rfl)⟩ (q0 := 0) (ci := 7) rfl rfl rfl (Nat.le_of_ble_eq_true rfl) dX5_finish_92 ?_
          refine V.aload_n X dX5_finish_95 rfl ?_
          refine wC_gX5_26 X dX5_finish_96 ?_
          refine wC_gX5_236 X dX5_finish_99 ?_
          refine V.iload_n X dX5_finish_102 rfl ?_
          refine wC_ld22 (i := s9) X (by omega) dX5_finish_103 ?_
          exact V.iret (v := c2i (rC (fail9 S s9) 22 s9)) X hE rfl (nar_c _) (Nat.le_of_ble_eq_true rfl) (Nat.le_of_ble_eq_true rfl) ⟨(by simp [kFN, hz2, hp, ep, e9, hz54, (Nat.not_lt.mpr hz54), hz65, (of_decide_eq_false hz65), hz79]), (congrArg (fun z => some (Value.int z)) (by simp [sFN, wkOf, ep, e9, hz79])), (by simp [sFN, wkOf, ep, e9, hz79])⟩ dX5_finish_104
        · refine V.aload_n X dX5_finish_82 rfl ?_
          refine V.iload_n X dX5_finish_83 rfl ?_
          refine V.callV0 [.int (nI s9)] X (c_X5_completeStep l D cy ad S F s9 hW (show s9 < 16 by omega) (show (rN S 45 0) < 16 by omega) (show (rN S 50 0) < 1536 by omega)) mv_X5_completeStep gw_3_143 ⟨⟨(Nat.le_of_ble_eq_true rfl), (Nat.le_of_ble_eq_true rfl)⟩, (Nat.le_of_ble_eq_true rfl), (Nat.le_of_ble_eq_true rfl)⟩ (q0 := 0) (ci := 7) rfl rfl rfl (Nat.le_of_ble_eq_true rfl) dX5_finish_84 ?_
          refine V.goto (tgt := 95) X dX5_finish_87 (by decide) ?_
          refine V.aload_n X dX5_finish_95 rfl ?_
          refine wC_gX5_26 X dX5_finish_96 ?_
          refine wC_gX5_236 X dX5_finish_99 ?_
          refine V.iload_n X dX5_finish_102 rfl ?_
          refine wC_ld22 (i := s9) X (by omega) dX5_finish_103 ?_
          exact V.iret (v := c2i (rC (done9 S s9) 22 s9)) X hE rfl (nar_c _) (Nat.le_of_ble_eq_true rfl) (Nat.le_of_ble_eq_true rfl) ⟨(by simp [kFN, hz2, hp, ep, e9, hz54, (Nat.not_lt.mpr hz54), hz65, (of_decide_eq_false hz65), hz79]), (congrArg (fun z => some (Value.int z)) (by simp [sFN, wkOf, ep, e9, hz79])), (by simp [sFN, wkOf, ep, e9, hz79])⟩ dX5_finish_104
      · exact V.thUOE X hE hN gS_228 (.inl ⟨rfl, rfl⟩) dX5_finish_68 dX5_finish_71 dX5_finish_72 dX5_finish_74 dX5_finish_77 (Nat.le_of_ble_eq_true rfl) (Nat.le_of_ble_eq_true rfl) (Nat.le_of_ble_eq_true rfl) (Nat.le_of_ble_eq_true rfl) ⟨2, (by simp [kFN, hz2, hp, ep, e9, hz54, (Nat.not_lt.mpr hz54), hz65, (of_decide_eq_true hz65)]), rfl, rfl⟩
  · have e9 := inR_none (by omega) hz23 (fun k e => Nat.lt_of_lt_of_le (hW.wk p k hp e) h46)
    exact V.thISE X hE hN gS_220 (.inl ⟨rfl, rfl⟩) dX5_finish_26 dX5_finish_29 dX5_finish_30 dX5_finish_32 dX5_finish_35 (Nat.le_of_ble_eq_true rfl) (Nat.le_of_ble_eq_true rfl) (Nat.le_of_ble_eq_true rfl) (Nat.le_of_ble_eq_true rfl) ⟨1, (by simp [kFN, hz2, hp, ep, e9]), rfl, rfl⟩
set_option maxRecDepth 20000 in
set_option maxHeartbeats 4000000 in
theorem c_X5_handOver (l : Launch) (D : va_G) (cy : Nat → ClassId) (ad : Nat → Nat) (S : St) (F : va_W) (x : Int32) (y : Int32) (hI : Inv S) (hR : Rm S) : Ctr l D cy yX5_handOver (.code yX5_handOver cX5_handOver 3 (some FieldType.int)) ({ frames := 12, cells := 8, slots := 48, locals := 400 } : Room) [.ref (ad 0), .int x, .int y] (wC ad cy S ++ F) (pIx (kHO S x y = 0) (nI (rN S 40 0 + 10)) (wC ad cy (sHO S x y) ++ F)) (pXk ["java/util/NoSuchElementException", "java/lang/IllegalArgumentException", "java/lang/IllegalStateException", "java/lang/UnsupportedOperationException"] (kHO S x y) (wC ad cy S ++ F)) := by
  refine Ctr.of (by decide) (Nat.le_of_ble_eq_true rfl) ?_
  intro M X hE hN hB9 hI9
  replace X : VX l D M cy cX5_handOver "Runbooker" (some FieldType.int) ({ frames := 12, cells := 8, slots := 48, locals := 400 } : Room) := X
  show V l D M 0 0 (wC ad cy S ++ F) [(0, .ref (ad 0)), (1, .int x), (2, .int y)] 0 []
  have hW := hI.w
  have hB := hW.b
  have h43 := hW.n43
  have h44 := hW.n44
  have h46 := hW.n46
  have h45 := hW.n45
  have hcl := hW.cl
  have hen := hW.en
  have he3 := Rm.en hR
  refine V.aload_n X dX5_handOver_0 rfl ?_
  refine V.iload_n X dX5_handOver_1 rfl ?_
  refine V.callVx0 [.int x] X hE hN (c_X5_requirePerson l D cy ad S F x) mv_X5_requirePerson gw_2_179 ⟨⟨(Nat.le_of_ble_eq_true rfl), (Nat.le_of_ble_eq_true rfl)⟩, (Nat.le_of_ble_eq_true rfl), (Nat.le_of_ble_eq_true rfl)⟩ (q0 := 0) (ci := 7) rfl rfl rfl (Nat.le_of_ble_eq_true rfl) dX5_handOver_2 (fun E9 w9 h9 => ⟨0, (by simp [kHO, h9.1]), (by rw [h9.2.1]; rfl), h9.2.2⟩) (fun hz2 => ?_)
  obtain ⟨p, hp, rfl⟩ := inR_of hz2 (by omega)
  have ep : ix (nI p) = p := ix_nI (by omega)
  refine V.aload_n X dX5_handOver_5 rfl ?_
  refine V.iload_n X dX5_handOver_6 rfl ?_
  refine V.callVx0 [.int y] X hE hN (c_X5_requirePerson l D cy ad S F y) mv_X5_requirePerson gw_2_179 ⟨⟨(Nat.le_of_ble_eq_true rfl), (Nat.le_of_ble_eq_true rfl)⟩, (Nat.le_of_ble_eq_true rfl), (Nat.le_of_ble_eq_true rfl)⟩ (q0 := 0) (ci := 7) rfl rfl rfl (Nat.le_of_ble_eq_true rfl) dX5_handOver_7 (fun E9 w9 h9 => ⟨0, (by simp [kHO, hz2, hp, ep, h9.1]), (by rw [h9.2.1]; rfl), h9.2.2⟩) (fun hz7 => ?_)
  obtain ⟨q, hq, rfl⟩ := inR_of hz7 (by omega)
  have eq : ix (nI q) = q := ix_nI (by omega)
  refine V.iload_n X dX5_handOver_10 rfl ?_
  refine V.iload_n X dX5_handOver_11 rfl ?_
  refine V.icmp_ne (tgt := 25) X dX5_handOver_12 (by decide) cN_ne (cN_eq (by omega) (by omega)) (fun (hz12 : ¬ p = q) => ?_) (fun (hz12 : p = q) => ?_)
  · refine V.aload_n X dX5_handOver_25 rfl ?_
    refine V.callVx0 [] X hE hN (c_X5_requireRun l D cy ad S F ) mv_X5_requireRun gw_3_75 ⟨⟨(Nat.le_of_ble_eq_true rfl), (Nat.le_of_ble_eq_true rfl)⟩, (Nat.le_of_ble_eq_true rfl), (Nat.le_of_ble_eq_true rfl)⟩ (q0 := 0) (ci := 7) rfl rfl rfl (Nat.le_of_ble_eq_true rfl) dX5_handOver_26 (fun E9 w9 h9 => ⟨2, (by simp [kHO, hz2, hp, ep, hz7, hq, eq, hz12, h9.1]), (by rw [h9.2.1]; rfl), h9.2.2⟩) (fun hz26 => ?_)
    refine V.aload_n X dX5_handOver_29 rfl ?_
    refine wC_gX5_33 X dX5_handOver_30 ?_
    refine V.callV1 [] X (c_X1_isOn l D cy ad S F hB) mv_X1_isOn gw_3_80 ⟨⟨(Nat.le_of_ble_eq_true rfl), (Nat.le_of_ble_eq_true rfl)⟩, (Nat.le_of_ble_eq_true rfl), (Nat.le_of_ble_eq_true rfl)⟩ (q0 := 4) (ci := 3) rfl rfl rfl (Nat.le_of_ble_eq_true rfl) dX5_handOver_33 ?_
    refine V.if_eq (tgt := 49) X dX5_handOver_36 (by decide) b2i_0 b2i_n0 (fun (hz36 : (rO S 47 0).isSome = false) => ?_) (fun (hz36 : (rO S 47 0).isSome = true) => ?_)
    · refine V.aload_n X dX5_handOver_49 rfl ?_
      refine wC_gX5_10 X dX5_handOver_50 ?_
      refine wC_gX5_81 X dX5_handOver_53 ?_
      refine V.iload_n X dX5_handOver_56 rfl ?_
      refine wC_ld8 (i := p) X (by omega) dX5_handOver_57 ?_
      refine V.if_eq (tgt := 82) X dX5_handOver_58 (by decide) b2i_0 b2i_n0 (fun (hz58 : rB S 8 p = false) => ?_) (fun (hz58 : rB S 8 p = true) => ?_)
      · exact V.thUOE X hE hN gS_247 (.inl ⟨rfl, rfl⟩) dX5_handOver_82 dX5_handOver_85 dX5_handOver_86 dX5_handOver_88 dX5_handOver_91 (Nat.le_of_ble_eq_true rfl) (Nat.le_of_ble_eq_true rfl) (Nat.le_of_ble_eq_true rfl) (Nat.le_of_ble_eq_true rfl) ⟨3, (by simp [kHO, hz2, hp, ep, hz7, hq, eq, hz12, hz26, hz36, hz58]), rfl, rfl⟩
      · refine V.aload_n X dX5_handOver_61 rfl ?_
        refine wC_gX5_10 X dX5_handOver_62 ?_
        refine wC_gX5_81 X dX5_handOver_65 ?_
        refine V.iload_n X dX5_handOver_68 rfl ?_
        refine wC_ld8 (i := q) X (by omega) dX5_handOver_69 ?_
        refine V.if_ne (tgt := 82) X dX5_handOver_70 (by decide) b2i_n0 b2i_0 (fun (hz70 : rB S 8 q = true) => ?_) (fun (hz70 : rB S 8 q = false) => ?_)
        · exact V.thUOE X hE hN gS_247 (.inl ⟨rfl, rfl⟩) dX5_handOver_82 dX5_handOver_85 dX5_handOver_86 dX5_handOver_88 dX5_handOver_91 (Nat.le_of_ble_eq_true rfl) (Nat.le_of_ble_eq_true rfl) (Nat.le_of_ble_eq_true rfl) (Nat.le_of_ble_eq_true rfl) ⟨3, (by simp [kHO, hz2, hp, ep, hz7, hq, eq, hz12, hz26, hz36, hz58, hz70]), rfl, rfl⟩
        · refine V.aload_n X dX5_handOver_73 rfl ?_
          refine V.iload_n X dX5_handOver_74 rfl ?_
          refine V.iload_n X dX5_handOver_75 rfl ?_
          refine V.callV1 [.int (nI p), .int (nI q)] X (c_X5_canTakeOver l D cy ad S F p q hW (show p < (rN S 43 0) by omega) (show q < (rN S 43 0) by omega)) mv_X5_canTakeOver gw_3_172 ⟨⟨(Nat.le_of_ble_eq_true rfl), (Nat.le_of_ble_eq_true rfl)⟩, (Nat.le_of_ble_eq_true rfl), (Nat.le_of_ble_eq_true rfl)⟩ (q0 := 0) (ci := 7) rfl rfl rfl (Nat.le_of_ble_eq_true rfl) dX5_handOver_76 ?_
          refine V.if_ne (tgt := 92) X dX5_handOver_79 (by decide) b2i_n0 b2i_0 (fun (hz79 : tko9 S p q = true) => ?_) (fun (hz79 : tko9 S p q = false) => ?_)
          · refine V.aload_n X dX5_handOver_92 rfl ?_
            refine wC_gX5_33 X dX5_handOver_93 ?_
            refine V.iload_n X dX5_handOver_96 rfl ?_
            refine V.iload_n X dX5_handOver_97 rfl ?_
            refine V.aload_n X dX5_handOver_98 rfl ?_
            refine wC_gX5_207 X dX5_handOver_99 ?_
            refine V.bipush (v := nI 10) X dX5_handOver_102 (by decide) ?_
            refine V.iadd (v := nI (rN S 40 0 + 10)) X dX5_handOver_104 (nI_add _ _) ?_
            refine V.callV0 [.int (nI p), .int (nI q), .int (nI (rN S 40 0 + 10))] X (c_X1_open l D cy ad S F p q (rN S 40 0 + 10)) mv_X1_open gw_3_177 ⟨⟨(Nat.le_of_ble_eq_true rfl), (Nat.le_of_ble_eq_true rfl)⟩, (Nat.le_of_ble_eq_true rfl), (Nat.le_of_ble_eq_true rfl)⟩ (q0 := 4) (ci := 3) rfl rfl rfl (Nat.le_of_ble_eq_true rfl) dX5_handOver_105 ?_
            refine V.aload_n X dX5_handOver_108 rfl ?_
            refine wC_gX5_40 X dX5_handOver_109 ?_
            refine V.bipush (v := nI 104) X dX5_handOver_112 (by decide) ?_
            refine V.iconst (v := o2i none) X dX5_handOver_114 rfl ?_
            refine V.iload_n X dX5_handOver_115 rfl ?_
            refine V.aload_n X dX5_handOver_116 rfl ?_
            refine wC_gX5_207 X dX5_handOver_117 ?_
            refine V.callV0 [.int (c2i 104), .int (o2i none), .int (o2i (some p)), .int (nI (rN S 40 0))] X (c_X2_write l D cy ad (sN (sO (sO S 47 (fun _ => some p)) 48 (fun _ => some q)) 49 (fun _ => (rN S 40 0 + 10))) F 104 none (some p) (rN S 40 0) (((hB.sO 47 (fun _ _ e9 => by cases e9; show p < 1000000; omega)).sO 48 (fun _ _ e9 => by cases e9; show q < 1000000; omega)).sN 49 (fun _ => show (rN S 40 0 + 10) < 1000000 by omega)) (show (rN S 50 0) < 1536 by omega)) mv_X2_write gw_3_130 ⟨⟨(Nat.le_of_ble_eq_true rfl), (Nat.le_of_ble_eq_true rfl)⟩, (Nat.le_of_ble_eq_true rfl), (Nat.le_of_ble_eq_true rfl)⟩ (q0 := 5) (ci := 4) rfl rfl rfl (Nat.le_of_ble_eq_true rfl) dX5_handOver_120 ?_
            refine V.aload_n X dX5_handOver_123 rfl ?_
            refine wC_gX5_33 X dX5_handOver_124 ?_
            refine wC_gX5_253 X dX5_handOver_127 ?_
            exact V.iret (v := nI (rN S 40 0 + 10)) X hE rfl rfl (Nat.le_of_ble_eq_true rfl) (Nat.le_of_ble_eq_true rfl) ⟨(by simp [kHO, hz2, hp, ep, hz7, hq, eq, hz12, hz26, hz36, hz58, hz70, hz79]), (congrArg (fun z => some (Value.int z)) (by first | rfl | (simp only [ep, eq]; done) | simp [hz2, hp, ep, hz7, hq, eq, hz12, hz26, hz36, hz58, hz70, hz79])), (by first | (simp only [sHO, ep, eq]; done) | (simp only [sHO, ep, eq]; rfl) | rfl)⟩ dX5_handOver_130
          · exact V.thUOE X hE hN gS_247 (.inl ⟨rfl, rfl⟩) dX5_handOver_82 dX5_handOver_85 dX5_handOver_86 dX5_handOver_88 dX5_handOver_91 (Nat.le_of_ble_eq_true rfl) (Nat.le_of_ble_eq_true rfl) (Nat.le_of_ble_eq_true rfl) (Nat.le_of_ble_eq_true rfl) ⟨3, (by simp [kHO, hz2, hp, ep, hz7, hq, eq, hz12, hz26, hz36, hz58, hz70, hz79]), rfl, rfl⟩
    · exact V.thISE X hE hN gS_242 (.inl ⟨rfl, rfl⟩) dX5_handOver_39 dX5_handOver_42 dX5_handOver_43 dX5_handOver_45 dX5_handOver_48 (Nat.le_of_ble_eq_true rfl) (Nat.le_of_ble_eq_true rfl) (Nat.le_of_ble_eq_true rfl) (Nat.le_of_ble_eq_true rfl) ⟨2, (by simp [kHO, hz2, hp, ep, hz7, hq, eq, hz12, hz26, hz36]), rfl, rfl⟩
  · exact V.thIAE X hE hN gS_240 (.inl ⟨rfl, rfl⟩) dX5_handOver_15 dX5_handOver_18 dX5_handOver_19 dX5_handOver_21 dX5_handOver_24 (Nat.le_of_ble_eq_true rfl) (Nat.le_of_ble_eq_true rfl) (Nat.le_of_ble_eq_true rfl) (Nat.le_of_ble_eq_true rfl) ⟨1, (by simp [kHO, hz2, hp, ep, hz7, hq, eq, hz12]), rfl, rfl⟩
set_option maxRecDepth 20000 in
set_option maxHeartbeats 4000000 in
theorem c_X5_isOnDuty (l : Launch) (D : va_G) (cy : Nat → ClassId) (ad : Nat → Nat) (S : St) (F : va_W) (x : Int32) (hI : Inv S) : Ctr l D cy yX5_isOnDuty (.code yX5_isOnDuty cX5_isOnDuty 2 (some FieldType.boolean)) ({ frames := 12, cells := 8, slots := 48, locals := 400 } : Room) [.ref (ad 0), .int x] (wC ad cy S ++ F) (pIx (kP1 S x = 0) (b2i (rB S 8 (ix x))) (wC ad cy S ++ F)) (pXk ["java/util/NoSuchElementException"] (kP1 S x) (wC ad cy S ++ F)) := by
  refine Ctr.of (by decide) (Nat.le_of_ble_eq_true rfl) ?_
  intro M X hE hN hB9 hI9
  replace X : VX l D M cy cX5_isOnDuty "Runbooker" (some FieldType.boolean) ({ frames := 12, cells := 8, slots := 48, locals := 400 } : Room) := X
  show V l D M 0 0 (wC ad cy S ++ F) [(0, .ref (ad 0)), (1, .int x)] 0 []
  have hW := hI.w
  have hB := hW.b
  have h43 := hW.n43
  have h44 := hW.n44
  have h46 := hW.n46
  have h45 := hW.n45
  have hcl := hW.cl
  have hen := hW.en
  refine V.aload_n X dX5_isOnDuty_0 rfl ?_
  refine V.iload_n X dX5_isOnDuty_1 rfl ?_
  refine V.callVx0 [.int x] X hE hN (c_X5_requirePerson l D cy ad S F x) mv_X5_requirePerson gw_2_179 ⟨⟨(Nat.le_of_ble_eq_true rfl), (Nat.le_of_ble_eq_true rfl)⟩, (Nat.le_of_ble_eq_true rfl), (Nat.le_of_ble_eq_true rfl)⟩ (q0 := 0) (ci := 7) rfl rfl rfl (Nat.le_of_ble_eq_true rfl) dX5_isOnDuty_2 (fun E9 w9 h9 => ⟨0, (by simp [kP1, h9.1]), (by rw [h9.2.1]; rfl), h9.2.2⟩) (fun hz2 => ?_)
  obtain ⟨p, hp, rfl⟩ := inR_of hz2 (by omega)
  have ep : ix (nI p) = p := ix_nI (by omega)
  refine V.aload_n X dX5_isOnDuty_5 rfl ?_
  refine wC_gX5_10 X dX5_isOnDuty_6 ?_
  refine wC_gX5_81 X dX5_isOnDuty_9 ?_
  refine V.iload_n X dX5_isOnDuty_12 rfl ?_
  refine wC_ld8 (i := p) X (by omega) dX5_isOnDuty_13 ?_
  exact V.iret (v := b2i (rB S 8 p)) X hE rfl (nar_b _) (Nat.le_of_ble_eq_true rfl) (Nat.le_of_ble_eq_true rfl) ⟨(by simp [kP1, hz2, hp, ep]), (congrArg (fun z => some (Value.int z)) (by first | rfl | (simp only [ep]; done) | simp [hz2, hp, ep])), (by first | (simp only [ep]; done) | (simp only [ep]; rfl) | rfl)⟩ dX5_isOnDuty_14
set_option maxRecDepth 20000 in
set_option maxHeartbeats 4000000 in
theorem c_X5_hasRole (l : Launch) (D : va_G) (cy : Nat → ClassId) (ad : Nat → Nat) (S : St) (F : va_W) (x : Int32) (y : Int32) (hI : Inv S) : Ctr l D cy yX5_hasRole (.code yX5_hasRole cX5_hasRole 3 (some FieldType.boolean)) ({ frames := 12, cells := 8, slots := 48, locals := 400 } : Room) [.ref (ad 0), .int x, .int y] (wC ad cy S ++ F) (pIx (kHR S x y = 0) (b2i (hasBit (rI S 7 (ix x)) y)) (wC ad cy S ++ F)) (pXk ["java/util/NoSuchElementException", "java/lang/IllegalArgumentException"] (kHR S x y) (wC ad cy S ++ F)) := by
  refine Ctr.of (by decide) (Nat.le_of_ble_eq_true rfl) ?_
  intro M X hE hN hB9 hI9
  replace X : VX l D M cy cX5_hasRole "Runbooker" (some FieldType.boolean) ({ frames := 12, cells := 8, slots := 48, locals := 400 } : Room) := X
  show V l D M 0 0 (wC ad cy S ++ F) [(0, .ref (ad 0)), (1, .int x), (2, .int y)] 0 []
  have hW := hI.w
  have hB := hW.b
  have h43 := hW.n43
  have h44 := hW.n44
  have h46 := hW.n46
  have h45 := hW.n45
  have hcl := hW.cl
  have hen := hW.en
  refine V.aload_n X dX5_hasRole_0 rfl ?_
  refine V.iload_n X dX5_hasRole_1 rfl ?_
  refine V.callVx0 [.int x] X hE hN (c_X5_requirePerson l D cy ad S F x) mv_X5_requirePerson gw_2_179 ⟨⟨(Nat.le_of_ble_eq_true rfl), (Nat.le_of_ble_eq_true rfl)⟩, (Nat.le_of_ble_eq_true rfl), (Nat.le_of_ble_eq_true rfl)⟩ (q0 := 0) (ci := 7) rfl rfl rfl (Nat.le_of_ble_eq_true rfl) dX5_hasRole_2 (fun E9 w9 h9 => ⟨0, (by simp [kHR, h9.1]), (by rw [h9.2.1]; rfl), h9.2.2⟩) (fun hz2 => ?_)
  obtain ⟨p, hp, rfl⟩ := inR_of hz2 (by omega)
  have ep : ix (nI p) = p := ix_nI (by omega)
  refine V.aload_n X dX5_hasRole_5 rfl ?_
  refine V.iload_n X dX5_hasRole_6 rfl ?_
  refine V.callVx0 [.int y] X hE hN (c_X5_requireRole l D cy ad S F y) mv_X5_requireRole gw_4_18 ⟨⟨(Nat.le_of_ble_eq_true rfl), (Nat.le_of_ble_eq_true rfl)⟩, (Nat.le_of_ble_eq_true rfl), (Nat.le_of_ble_eq_true rfl)⟩ (q0 := 0) (ci := 7) rfl rfl rfl (Nat.le_of_ble_eq_true rfl) dX5_hasRole_7 (fun E9 w9 h9 => ⟨1, (by simp [kHR, hz2, hp, ep, h9.1]), (by rw [h9.2.1]; rfl), h9.2.2⟩) (fun hz7 => ?_)
  refine V.aload_n X dX5_hasRole_10 rfl ?_
  refine wC_gX5_10 X dX5_hasRole_11 ?_
  refine V.iload_n X dX5_hasRole_14 rfl ?_
  refine V.iload_n X dX5_hasRole_15 rfl ?_
  refine V.callV1 [.int (nI p), .int y] X (c_X0_isAble l D cy ad S F p y (show p < 8 by omega)) mv_X0_isAble gw_3_101 ⟨⟨(Nat.le_of_ble_eq_true rfl), (Nat.le_of_ble_eq_true rfl)⟩, (Nat.le_of_ble_eq_true rfl), (Nat.le_of_ble_eq_true rfl)⟩ (q0 := 1) (ci := 2) rfl rfl rfl (Nat.le_of_ble_eq_true rfl) dX5_hasRole_16 ?_
  exact V.iret (v := b2i (hasBit (rI S 7 p) y)) X hE rfl (nar_b _) (Nat.le_of_ble_eq_true rfl) (Nat.le_of_ble_eq_true rfl) ⟨(by simp [kHR, hz2, hp, ep, hz7]), (congrArg (fun z => some (Value.int z)) (by first | rfl | (simp only [ep]; done) | simp [hz2, hp, ep, hz7])), (by first | (simp only [ep]; done) | (simp only [ep]; rfl) | rfl)⟩ dX5_hasRole_19
set_option maxRecDepth 20000 in
set_option maxHeartbeats 4000000 in
theorem c_X5_workOf (l : Launch) (D : va_G) (cy : Nat → ClassId) (ad : Nat → Nat) (S : St) (F : va_W) (x : Int32) (hI : Inv S) : Ctr l D cy yX5_workOf (.code yX5_workOf cX5_workOf 2 (some FieldType.int)) ({ frames := 12, cells := 8, slots := 48, locals := 400 } : Room) [.ref (ad 0), .int x] (wC ad cy S ++ F) (pIx (kP1 S x = 0) (o2i (rO S 9 (ix x))) (wC ad cy S ++ F)) (pXk ["java/util/NoSuchElementException"] (kP1 S x) (wC ad cy S ++ F)) := by
  refine Ctr.of (by decide) (Nat.le_of_ble_eq_true rfl) ?_
  intro M X hE hN hB9 hI9
  replace X : VX l D M cy cX5_workOf "Runbooker" (some FieldType.int) ({ frames := 12, cells := 8, slots := 48, locals := 400 } : Room) := X
  show V l D M 0 0 (wC ad cy S ++ F) [(0, .ref (ad 0)), (1, .int x)] 0 []
  have hW := hI.w
  have hB := hW.b
  have h43 := hW.n43
  have h44 := hW.n44
  have h46 := hW.n46
  have h45 := hW.n45
  have hcl := hW.cl
  have hen := hW.en
  refine V.aload_n X dX5_workOf_0 rfl ?_
  refine V.iload_n X dX5_workOf_1 rfl ?_
  refine V.callVx0 [.int x] X hE hN (c_X5_requirePerson l D cy ad S F x) mv_X5_requirePerson gw_2_179 ⟨⟨(Nat.le_of_ble_eq_true rfl), (Nat.le_of_ble_eq_true rfl)⟩, (Nat.le_of_ble_eq_true rfl), (Nat.le_of_ble_eq_true rfl)⟩ (q0 := 0) (ci := 7) rfl rfl rfl (Nat.le_of_ble_eq_true rfl) dX5_workOf_2 (fun E9 w9 h9 => ⟨0, (by simp [kP1, h9.1]), (by rw [h9.2.1]; rfl), h9.2.2⟩) (fun hz2 => ?_)
  obtain ⟨p, hp, rfl⟩ := inR_of hz2 (by omega)
  have ep : ix (nI p) = p := ix_nI (by omega)
  refine V.aload_n X dX5_workOf_5 rfl ?_
  refine wC_gX5_10 X dX5_workOf_6 ?_
  refine wC_gX5_200 X dX5_workOf_9 ?_
  refine V.iload_n X dX5_workOf_12 rfl ?_
  refine wC_ld9 (i := p) X (by omega) dX5_workOf_13 ?_
  exact V.iret (v := o2i (rO S 9 p)) X hE rfl rfl (Nat.le_of_ble_eq_true rfl) (Nat.le_of_ble_eq_true rfl) ⟨(by simp [kP1, hz2, hp, ep]), (congrArg (fun z => some (Value.int z)) (by first | rfl | (simp only [ep]; done) | simp [hz2, hp, ep])), (by first | (simp only [ep]; done) | (simp only [ep]; rfl) | rfl)⟩ dX5_workOf_14
set_option maxRecDepth 20000 in
set_option maxHeartbeats 4000000 in
theorem c_X5_readingOf (l : Launch) (D : va_G) (cy : Nat → ClassId) (ad : Nat → Nat) (S : St) (F : va_W) (x : Int32) (hI : Inv S) : Ctr l D cy yX5_readingOf (.code yX5_readingOf cX5_readingOf 2 (some FieldType.int)) ({ frames := 12, cells := 8, slots := 48, locals := 400 } : Room) [.ref (ad 0), .int x] (wC ad cy S ++ F) (pIx (kRO x = 0) (rI S 6 (ix x)) (wC ad cy S ++ F)) (pXk ["java/lang/IllegalArgumentException"] (kRO x) (wC ad cy S ++ F)) := by
  refine Ctr.of (by decide) (Nat.le_of_ble_eq_true rfl) ?_
  intro M X hE hN hB9 hI9
  replace X : VX l D M cy cX5_readingOf "Runbooker" (some FieldType.int) ({ frames := 12, cells := 8, slots := 48, locals := 400 } : Room) := X
  show V l D M 0 0 (wC ad cy S ++ F) [(0, .ref (ad 0)), (1, .int x)] 0 []
  have hW := hI.w
  have hB := hW.b
  have h43 := hW.n43
  have h44 := hW.n44
  have h46 := hW.n46
  have h45 := hW.n45
  have hcl := hW.cl
  have hen := hW.en
  refine V.iload_n X dX5_readingOf_0 rfl ?_
  refine V.callS1 [.int x] X (c_X5_isSensor l D cy ad S F x) ms_X5_isSensor gw_3_25 ⟨⟨(Nat.le_of_ble_eq_true rfl), (Nat.le_of_ble_eq_true rfl)⟩, (Nat.le_of_ble_eq_true rfl), (Nat.le_of_ble_eq_true rfl)⟩ rfl (Nat.le_of_ble_eq_true rfl) dX5_readingOf_1 ?_
  refine V.if_ne (tgt := 18) X dX5_readingOf_4 (by decide) b2i_n0 b2i_0 (fun (hz4 : inR x 6 = true) => ?_) (fun (hz4 : inR x 6 = false) => ?_)
  · obtain ⟨p, hp, rfl⟩ := inR_of hz4 (by omega)
    have ep : ix (nI p) = p := ix_nI (by omega)
    refine V.aload_n X dX5_readingOf_18 rfl ?_
    refine wC_gX5_44 X dX5_readingOf_19 ?_
    refine V.iload_n X dX5_readingOf_22 rfl ?_
    refine wC_ld6 (i := p) X (by omega) dX5_readingOf_23 ?_
    exact V.iret (v := rI S 6 p) X hE rfl rfl (Nat.le_of_ble_eq_true rfl) (Nat.le_of_ble_eq_true rfl) ⟨(by simp [kRO, hz4, hp, ep]), (congrArg (fun z => some (Value.int z)) (by first | rfl | (simp only [ep]; done) | simp [hz4, hp, ep])), (by first | (simp only [ep]; done) | (simp only [ep]; rfl) | rfl)⟩ dX5_readingOf_24
  · exact V.thIAE X hE hN gS_277 (.inr ⟨rfl, rfl⟩) dX5_readingOf_7 dX5_readingOf_10 dX5_readingOf_11 dX5_readingOf_14 dX5_readingOf_17 (Nat.le_of_ble_eq_true rfl) (Nat.le_of_ble_eq_true rfl) (Nat.le_of_ble_eq_true rfl) (Nat.le_of_ble_eq_true rfl) ⟨0, (by simp [kRO, hz4]), rfl, rfl⟩
set_option maxRecDepth 20000 in
set_option maxHeartbeats 4000000 in
theorem c_X5_doesGuardHold (l : Launch) (D : va_G) (cy : Nat → ClassId) (ad : Nat → Nat) (S : St) (F : va_W) (x : Int32) (hI : Inv S) : Ctr l D cy yX5_doesGuardHold (.code yX5_doesGuardHold cX5_doesGuardHold 2 (some FieldType.boolean)) ({ frames := 12, cells := 8, slots := 48, locals := 400 } : Room) [.ref (ad 0), .int x] (wC ad cy S ++ F) (pIx (kS1 S x = 0) (b2i (guard9 S (ix x))) (wC ad cy S ++ F)) (pXk ["java/util/NoSuchElementException"] (kS1 S x) (wC ad cy S ++ F)) := by
  refine Ctr.of (by decide) (Nat.le_of_ble_eq_true rfl) ?_
  intro M X hE hN hB9 hI9
  replace X : VX l D M cy cX5_doesGuardHold "Runbooker" (some FieldType.boolean) ({ frames := 12, cells := 8, slots := 48, locals := 400 } : Room) := X
  show V l D M 0 0 (wC ad cy S ++ F) [(0, .ref (ad 0)), (1, .int x)] 0 []
  have hW := hI.w
  have hB := hW.b
  have h43 := hW.n43
  have h44 := hW.n44
  have h46 := hW.n46
  have h45 := hW.n45
  have hcl := hW.cl
  have hen := hW.en
  refine V.aload_n X dX5_doesGuardHold_0 rfl ?_
  refine V.iload_n X dX5_doesGuardHold_1 rfl ?_
  refine V.callVx0 [.int x] X hE hN (c_X5_requireStep l D cy ad S F x) mv_X5_requireStep gw_3_1 ⟨⟨(Nat.le_of_ble_eq_true rfl), (Nat.le_of_ble_eq_true rfl)⟩, (Nat.le_of_ble_eq_true rfl), (Nat.le_of_ble_eq_true rfl)⟩ (q0 := 0) (ci := 7) rfl rfl rfl (Nat.le_of_ble_eq_true rfl) dX5_doesGuardHold_2 (fun E9 w9 h9 => ⟨0, (by simp [kS1, h9.1]), (by rw [h9.2.1]; rfl), h9.2.2⟩) (fun hz2 => ?_)
  obtain ⟨p, hp, rfl⟩ := inR_of hz2 (by omega)
  have ep : ix (nI p) = p := ix_nI (by omega)
  refine V.aload_n X dX5_doesGuardHold_5 rfl ?_
  refine wC_gX5_19 X dX5_doesGuardHold_6 ?_
  refine V.iload_n X dX5_doesGuardHold_9 rfl ?_
  refine V.aload_n X dX5_doesGuardHold_10 rfl ?_
  refine wC_gX5_44 X dX5_doesGuardHold_11 ?_
  refine V.callV1 [.int (nI p), .ref (ad 6)] X (c_X3_isGuardMet l D cy ad S F p hB (show p < 16 by omega) (hW.cc _) (hW.sen)) mv_X3_isGuardMet gw_2_38 ⟨⟨(Nat.le_of_ble_eq_true rfl), (Nat.le_of_ble_eq_true rfl)⟩, (Nat.le_of_ble_eq_true rfl), (Nat.le_of_ble_eq_true rfl)⟩ (q0 := 2) (ci := 5) rfl rfl rfl (Nat.le_of_ble_eq_true rfl) dX5_doesGuardHold_14 ?_
  exact V.iret (v := b2i (guard9 S p)) X hE rfl (nar_b _) (Nat.le_of_ble_eq_true rfl) (Nat.le_of_ble_eq_true rfl) ⟨(by simp [kS1, hz2, hp, ep]), (congrArg (fun z => some (Value.int z)) (by first | rfl | (simp only [ep]; done) | simp [hz2, hp, ep])), (by first | (simp only [ep]; done) | (simp only [ep]; rfl) | rfl)⟩ dX5_doesGuardHold_17
set_option maxRecDepth 20000 in
set_option maxHeartbeats 4000000 in
theorem c_X5_guardReading (l : Launch) (D : va_G) (cy : Nat → ClassId) (ad : Nat → Nat) (S : St) (F : va_W) (x : Int32) (y : Int32) (hI : Inv S) : Ctr l D cy yX5_guardReading (.code yX5_guardReading cX5_guardReading 3 (some FieldType.int)) ({ frames := 12, cells := 8, slots := 48, locals := 400 } : Room) [.ref (ad 0), .int x, .int y] (wC ad cy S ++ F) (pIx (kGR S x y = 0) (rI S 27 (ix x * 6 + rN S 18 (ix x * 2 + ix y))) (wC ad cy S ++ F)) (pXk ["java/util/NoSuchElementException", "java/lang/IndexOutOfBoundsException", "java/lang/IllegalStateException"] (kGR S x y) (wC ad cy S ++ F)) := by
  refine Ctr.of (by decide) (Nat.le_of_ble_eq_true rfl) ?_
  intro M X hE hN hB9 hI9
  replace X : VX l D M cy cX5_guardReading "Runbooker" (some FieldType.int) ({ frames := 12, cells := 8, slots := 48, locals := 400 } : Room) := X
  show V l D M 0 0 (wC ad cy S ++ F) [(0, .ref (ad 0)), (1, .int x), (2, .int y)] 0 []
  have hW := hI.w
  have hB := hW.b
  have h43 := hW.n43
  have h44 := hW.n44
  have h46 := hW.n46
  have h45 := hW.n45
  have hcl := hW.cl
  have hen := hW.en
  refine V.aload_n X dX5_guardReading_0 rfl ?_
  refine V.iload_n X dX5_guardReading_1 rfl ?_
  refine V.callVx0 [.int x] X hE hN (c_X5_requireStep l D cy ad S F x) mv_X5_requireStep gw_3_1 ⟨⟨(Nat.le_of_ble_eq_true rfl), (Nat.le_of_ble_eq_true rfl)⟩, (Nat.le_of_ble_eq_true rfl), (Nat.le_of_ble_eq_true rfl)⟩ (q0 := 0) (ci := 7) rfl rfl rfl (Nat.le_of_ble_eq_true rfl) dX5_guardReading_2 (fun E9 w9 h9 => ⟨0, (by simp [kGR, h9.1]), (by rw [h9.2.1]; rfl), h9.2.2⟩) (fun hz2 => ?_)
  obtain ⟨p, hp, rfl⟩ := inR_of hz2 (by omega)
  have ep : ix (nI p) = p := ix_nI (by omega)
  refine V.iload_n X dX5_guardReading_5 rfl ?_
  refine V.if_lt (tgt := 22) X dX5_guardReading_6 (by decide) id id (fun (hz6 : y < 0) => ?_) (fun (hz6 : ¬ y < 0) => ?_)
  · have hiy : inR y (rN S 17 p) = false := by simp [inR, hz6]
    exact V.thIOB X hE hN gS_285 (.inr ⟨rfl, rfl⟩) dX5_guardReading_22 dX5_guardReading_25 dX5_guardReading_26 dX5_guardReading_29 dX5_guardReading_32 (Nat.le_of_ble_eq_true rfl) (Nat.le_of_ble_eq_true rfl) (Nat.le_of_ble_eq_true rfl) (Nat.le_of_ble_eq_true rfl) ⟨1, (by simp [kGR, hz2, hp, ep, hiy]), rfl, rfl⟩
  · refine V.iload_n X dX5_guardReading_9 rfl ?_
    refine V.aload_n X dX5_guardReading_10 rfl ?_
    refine wC_gX5_19 X dX5_guardReading_11 ?_
    refine wC_gX5_129 X dX5_guardReading_14 ?_
    refine V.iload_n X dX5_guardReading_17 rfl ?_
    refine wC_ld17 (i := p) X (by omega) dX5_guardReading_18 ?_
    refine V.icmp_lt (tgt := 33) X dX5_guardReading_19 (by decide) id id (fun (hz19 : y < nI (rN S 17 p)) => ?_) (fun (hz19 : ¬ y < nI (rN S 17 p)) => ?_)
    · have hcc := hW.cc p
      have hiy : inR y (rN S 17 p) = true := by simp [inR, hz6, i32_nle.mpr hz19]
      obtain ⟨q, hq, rfl⟩ := inR_of hiy (by omega)
      have eq : ix (nI q) = q := ix_nI (by omega)
      refine V.aload_n X dX5_guardReading_33 rfl ?_
      refine wC_gX5_26 X dX5_guardReading_34 ?_
      refine wC_gX5_288 X dX5_guardReading_37 ?_
      refine V.iload_n X dX5_guardReading_40 rfl ?_
      refine wC_ld24 (i := p) X (by omega) dX5_guardReading_41 ?_
      refine V.if_ne (tgt := 56) X dX5_guardReading_42 (by decide) b2i_n0 b2i_0 (fun (hz42 : rB S 24 p = true) => ?_) (fun (hz42 : rB S 24 p = false) => ?_)
      · refine V.aload_n X dX5_guardReading_56 rfl ?_
        refine wC_gX5_26 X dX5_guardReading_57 ?_
        refine V.iload_n X dX5_guardReading_60 rfl ?_
        refine V.aload_n X dX5_guardReading_61 rfl ?_
        refine wC_gX5_19 X dX5_guardReading_62 ?_
        refine V.iload_n X dX5_guardReading_65 rfl ?_
        refine V.iload_n X dX5_guardReading_66 rfl ?_
        refine V.callV1 [.int (nI p), .int (nI q)] X (c_X3_sensorOf l D cy ad S F p q (show p < 16 by omega) (by have := hW.cc p; omega)) mv_X3_sensorOf gw_4_70 ⟨⟨(Nat.le_of_ble_eq_true rfl), (Nat.le_of_ble_eq_true rfl)⟩, (Nat.le_of_ble_eq_true rfl), (Nat.le_of_ble_eq_true rfl)⟩ (q0 := 2) (ci := 5) rfl rfl rfl (Nat.le_of_ble_eq_true rfl) dX5_guardReading_67 ?_
        refine V.callV1 [.int (nI p), .int (nI (rN S 18 (p * 2 + q)))] X (c_X4_seenReading l D cy ad S F p (rN S 18 (p * 2 + q)) (show p < 16 by omega) (hW.sen _)) mv_X4_seenReading gw_4_74 ⟨⟨(Nat.le_of_ble_eq_true rfl), (Nat.le_of_ble_eq_true rfl)⟩, (Nat.le_of_ble_eq_true rfl), (Nat.le_of_ble_eq_true rfl)⟩ (q0 := 3) (ci := 6) rfl rfl rfl (Nat.le_of_ble_eq_true rfl) dX5_guardReading_70 ?_
        exact V.iret (v := rI S 27 (p * 6 + (rN S 18 (p * 2 + q)))) X hE rfl rfl (Nat.le_of_ble_eq_true rfl) (Nat.le_of_ble_eq_true rfl) ⟨(by simp [kGR, hz2, hp, ep, hiy, hq, eq, hz42]), (congrArg (fun z => some (Value.int z)) (by first | rfl | (simp only [ep, eq]; done) | simp [hz2, hp, ep, hiy, hq, eq, hz42])), (by first | (simp only [ep, eq]; done) | (simp only [ep, eq]; rfl) | rfl)⟩ dX5_guardReading_73
      · exact V.thISE X hE hN gS_291 (.inr ⟨rfl, rfl⟩) dX5_guardReading_45 dX5_guardReading_48 dX5_guardReading_49 dX5_guardReading_52 dX5_guardReading_55 (Nat.le_of_ble_eq_true rfl) (Nat.le_of_ble_eq_true rfl) (Nat.le_of_ble_eq_true rfl) (Nat.le_of_ble_eq_true rfl) ⟨2, (by simp [kGR, hz2, hp, ep, hiy, hq, eq, hz42]), rfl, rfl⟩
    · have hiy : inR y (rN S 17 p) = false := by simp [inR, hz19]
      exact V.thIOB X hE hN gS_285 (.inr ⟨rfl, rfl⟩) dX5_guardReading_22 dX5_guardReading_25 dX5_guardReading_26 dX5_guardReading_29 dX5_guardReading_32 (Nat.le_of_ble_eq_true rfl) (Nat.le_of_ble_eq_true rfl) (Nat.le_of_ble_eq_true rfl) (Nat.le_of_ble_eq_true rfl) ⟨1, (by simp [kGR, hz2, hp, ep, hiy]), rfl, rfl⟩
set_option maxRecDepth 20000 in
set_option maxHeartbeats 4000000 in
theorem c_X5_stateOf (l : Launch) (D : va_G) (cy : Nat → ClassId) (ad : Nat → Nat) (S : St) (F : va_W) (x : Int32) (hI : Inv S) : Ctr l D cy yX5_stateOf (.code yX5_stateOf cX5_stateOf 2 (some FieldType.char)) ({ frames := 12, cells := 8, slots := 48, locals := 400 } : Room) [.ref (ad 0), .int x] (wC ad cy S ++ F) (pIx (kSR2 S x = 0) (c2i (rC S 22 (ix x))) (wC ad cy S ++ F)) (pXk ["java/util/NoSuchElementException", "java/lang/IllegalStateException"] (kSR2 S x) (wC ad cy S ++ F)) := by
  refine Ctr.of (by decide) (Nat.le_of_ble_eq_true rfl) ?_
  intro M X hE hN hB9 hI9
  replace X : VX l D M cy cX5_stateOf "Runbooker" (some FieldType.char) ({ frames := 12, cells := 8, slots := 48, locals := 400 } : Room) := X
  show V l D M 0 0 (wC ad cy S ++ F) [(0, .ref (ad 0)), (1, .int x)] 0 []
  have hW := hI.w
  have hB := hW.b
  have h43 := hW.n43
  have h44 := hW.n44
  have h46 := hW.n46
  have h45 := hW.n45
  have hcl := hW.cl
  have hen := hW.en
  refine V.aload_n X dX5_stateOf_0 rfl ?_
  refine V.iload_n X dX5_stateOf_1 rfl ?_
  refine V.callVx0 [.int x] X hE hN (c_X5_requireStepOfRun l D cy ad S F x) mv_X5_requireStepOfRun gw_4_85 ⟨⟨(Nat.le_of_ble_eq_true rfl), (Nat.le_of_ble_eq_true rfl)⟩, (Nat.le_of_ble_eq_true rfl), (Nat.le_of_ble_eq_true rfl)⟩ (q0 := 0) (ci := 7) rfl rfl rfl (Nat.le_of_ble_eq_true rfl) dX5_stateOf_2 (fun E9 w9 h9 => by rcases h9 with h9 | h9; exact ⟨0, (by simp [kSR2, h9.1]), (by rw [h9.2.1]; rfl), h9.2.2⟩; exact ⟨1, (by simp [kSR2, h9.1]), (by rw [h9.2.1]; rfl), h9.2.2⟩) (fun hz2 => ?_)
  obtain ⟨p, hp, rfl⟩ := inR_of hz2.2 (by omega)
  have ep : ix (nI p) = p := ix_nI (by omega)
  refine V.aload_n X dX5_stateOf_5 rfl ?_
  refine wC_gX5_26 X dX5_stateOf_6 ?_
  refine wC_gX5_236 X dX5_stateOf_9 ?_
  refine V.iload_n X dX5_stateOf_12 rfl ?_
  refine wC_ld22 (i := p) X (by omega) dX5_stateOf_13 ?_
  exact V.iret (v := c2i (rC S 22 p)) X hE rfl (nar_c _) (Nat.le_of_ble_eq_true rfl) (Nat.le_of_ble_eq_true rfl) ⟨(by simp [kSR2, hz2, hp, ep]), (congrArg (fun z => some (Value.int z)) (by first | rfl | (simp only [ep]; done) | simp [hz2, hp, ep])), (by first | (simp only [ep]; done) | (simp only [ep]; rfl) | rfl)⟩ dX5_stateOf_14
set_option maxRecDepth 20000 in
set_option maxHeartbeats 4000000 in
theorem c_X5_triesOf (l : Launch) (D : va_G) (cy : Nat → ClassId) (ad : Nat → Nat) (S : St) (F : va_W) (x : Int32) (hI : Inv S) : Ctr l D cy yX5_triesOf (.code yX5_triesOf cX5_triesOf 2 (some FieldType.int)) ({ frames := 12, cells := 8, slots := 48, locals := 400 } : Room) [.ref (ad 0), .int x] (wC ad cy S ++ F) (pIx (kSR2 S x = 0) (nI (rN S 25 (ix x))) (wC ad cy S ++ F)) (pXk ["java/util/NoSuchElementException", "java/lang/IllegalStateException"] (kSR2 S x) (wC ad cy S ++ F)) := by
  refine Ctr.of (by decide) (Nat.le_of_ble_eq_true rfl) ?_
  intro M X hE hN hB9 hI9
  replace X : VX l D M cy cX5_triesOf "Runbooker" (some FieldType.int) ({ frames := 12, cells := 8, slots := 48, locals := 400 } : Room) := X
  show V l D M 0 0 (wC ad cy S ++ F) [(0, .ref (ad 0)), (1, .int x)] 0 []
  have hW := hI.w
  have hB := hW.b
  have h43 := hW.n43
  have h44 := hW.n44
  have h46 := hW.n46
  have h45 := hW.n45
  have hcl := hW.cl
  have hen := hW.en
  refine V.aload_n X dX5_triesOf_0 rfl ?_
  refine V.iload_n X dX5_triesOf_1 rfl ?_
  refine V.callVx0 [.int x] X hE hN (c_X5_requireStepOfRun l D cy ad S F x) mv_X5_requireStepOfRun gw_4_85 ⟨⟨(Nat.le_of_ble_eq_true rfl), (Nat.le_of_ble_eq_true rfl)⟩, (Nat.le_of_ble_eq_true rfl), (Nat.le_of_ble_eq_true rfl)⟩ (q0 := 0) (ci := 7) rfl rfl rfl (Nat.le_of_ble_eq_true rfl) dX5_triesOf_2 (fun E9 w9 h9 => by rcases h9 with h9 | h9; exact ⟨0, (by simp [kSR2, h9.1]), (by rw [h9.2.1]; rfl), h9.2.2⟩; exact ⟨1, (by simp [kSR2, h9.1]), (by rw [h9.2.1]; rfl), h9.2.2⟩) (fun hz2 => ?_)
  obtain ⟨p, hp, rfl⟩ := inR_of hz2.2 (by omega)
  have ep : ix (nI p) = p := ix_nI (by omega)
  refine V.aload_n X dX5_triesOf_5 rfl ?_
  refine wC_gX5_26 X dX5_triesOf_6 ?_
  refine wC_gX5_303 X dX5_triesOf_9 ?_
  refine V.iload_n X dX5_triesOf_12 rfl ?_
  refine wC_ld25 (i := p) X (by omega) dX5_triesOf_13 ?_
  exact V.iret (v := nI (rN S 25 p)) X hE rfl rfl (Nat.le_of_ble_eq_true rfl) (Nat.le_of_ble_eq_true rfl) ⟨(by simp [kSR2, hz2, hp, ep]), (congrArg (fun z => some (Value.int z)) (by first | rfl | (simp only [ep]; done) | simp [hz2, hp, ep])), (by first | (simp only [ep]; done) | (simp only [ep]; rfl) | rfl)⟩ dX5_triesOf_14
set_option maxRecDepth 20000 in
set_option maxHeartbeats 4000000 in
theorem c_X5_isReady (l : Launch) (D : va_G) (cy : Nat → ClassId) (ad : Nat → Nat) (S : St) (F : va_W) (x : Int32) (hI : Inv S) : Ctr l D cy yX5_isReady (.code yX5_isReady cX5_isReady 2 (some FieldType.boolean)) ({ frames := 12, cells := 8, slots := 48, locals := 400 } : Room) [.ref (ad 0), .int x] (wC ad cy S ++ F) (pIx (kS1 S x = 0) (b2i (rdy9 S (ix x))) (wC ad cy S ++ F)) (pXk ["java/util/NoSuchElementException"] (kS1 S x) (wC ad cy S ++ F)) := by
  refine Ctr.of (by decide) (Nat.le_of_ble_eq_true rfl) ?_
  intro M X hE hN hB9 hI9
  replace X : VX l D M cy cX5_isReady "Runbooker" (some FieldType.boolean) ({ frames := 12, cells := 8, slots := 48, locals := 400 } : Room) := X
  show V l D M 0 0 (wC ad cy S ++ F) [(0, .ref (ad 0)), (1, .int x)] 0 []
  have hW := hI.w
  have hB := hW.b
  have h43 := hW.n43
  have h44 := hW.n44
  have h46 := hW.n46
  have h45 := hW.n45
  have hcl := hW.cl
  have hen := hW.en
  refine V.aload_n X dX5_isReady_0 rfl ?_
  refine V.iload_n X dX5_isReady_1 rfl ?_
  refine V.callVx0 [.int x] X hE hN (c_X5_requireStep l D cy ad S F x) mv_X5_requireStep gw_3_1 ⟨⟨(Nat.le_of_ble_eq_true rfl), (Nat.le_of_ble_eq_true rfl)⟩, (Nat.le_of_ble_eq_true rfl), (Nat.le_of_ble_eq_true rfl)⟩ (q0 := 0) (ci := 7) rfl rfl rfl (Nat.le_of_ble_eq_true rfl) dX5_isReady_2 (fun E9 w9 h9 => ⟨0, (by simp [kS1, h9.1]), (by rw [h9.2.1]; rfl), h9.2.2⟩) (fun hz2 => ?_)
  obtain ⟨p, hp, rfl⟩ := inR_of hz2 (by omega)
  have ep : ix (nI p) = p := ix_nI (by omega)
  refine V.aload_n X dX5_isReady_5 rfl ?_
  refine V.iload_n X dX5_isReady_6 rfl ?_
  refine V.callV1 [.int (nI p)] X (c_X5_isStepReady l D cy ad S F p hW (show p < 16 by omega)) mv_X5_isStepReady gw_2_18 ⟨⟨(Nat.le_of_ble_eq_true rfl), (Nat.le_of_ble_eq_true rfl)⟩, (Nat.le_of_ble_eq_true rfl), (Nat.le_of_ble_eq_true rfl)⟩ (q0 := 0) (ci := 7) rfl rfl rfl (Nat.le_of_ble_eq_true rfl) dX5_isReady_7 ?_
  exact V.iret (v := b2i (rdy9 S p)) X hE rfl (nar_b _) (Nat.le_of_ble_eq_true rfl) (Nat.le_of_ble_eq_true rfl) ⟨(by simp [kS1, hz2, hp, ep]), (congrArg (fun z => some (Value.int z)) (by first | rfl | (simp only [ep]; done) | simp [hz2, hp, ep])), (by first | (simp only [ep]; done) | (simp only [ep]; rfl) | rfl)⟩ dX5_isReady_10
set_option maxRecDepth 20000 in
set_option maxHeartbeats 4000000 in
theorem c_X5_whyNot (l : Launch) (D : va_G) (cy : Nat → ClassId) (ad : Nat → Nat) (S : St) (F : va_W) (x : Int32) (hI : Inv S) : Ctr l D cy yX5_whyNot (.code yX5_whyNot cX5_whyNot 2 (some FieldType.char)) ({ frames := 12, cells := 8, slots := 48, locals := 400 } : Room) [.ref (ad 0), .int x] (wC ad cy S ++ F) (pIx (kS1 S x = 0) (c2i (why9 S (ix x))) (wC ad cy S ++ F)) (pXk ["java/util/NoSuchElementException"] (kS1 S x) (wC ad cy S ++ F)) := by
  refine Ctr.of (by decide) (Nat.le_of_ble_eq_true rfl) ?_
  intro M X hE hN hB9 hI9
  replace X : VX l D M cy cX5_whyNot "Runbooker" (some FieldType.char) ({ frames := 12, cells := 8, slots := 48, locals := 400 } : Room) := X
  show V l D M 0 0 (wC ad cy S ++ F) [(0, .ref (ad 0)), (1, .int x)] 0 []
  have hW := hI.w
  have hB := hW.b
  have h43 := hW.n43
  have h44 := hW.n44
  have h46 := hW.n46
  have h45 := hW.n45
  have hcl := hW.cl
  have hen := hW.en
  refine V.aload_n X dX5_whyNot_0 rfl ?_
  refine V.iload_n X dX5_whyNot_1 rfl ?_
  refine V.callVx0 [.int x] X hE hN (c_X5_requireStep l D cy ad S F x) mv_X5_requireStep gw_3_1 ⟨⟨(Nat.le_of_ble_eq_true rfl), (Nat.le_of_ble_eq_true rfl)⟩, (Nat.le_of_ble_eq_true rfl), (Nat.le_of_ble_eq_true rfl)⟩ (q0 := 0) (ci := 7) rfl rfl rfl (Nat.le_of_ble_eq_true rfl) dX5_whyNot_2 (fun E9 w9 h9 => ⟨0, (by simp [kS1, h9.1]), (by rw [h9.2.1]; rfl), h9.2.2⟩) (fun hz2 => ?_)
  obtain ⟨p, hp, rfl⟩ := inR_of hz2 (by omega)
  have ep : ix (nI p) = p := ix_nI (by omega)
  refine V.aload_n X dX5_whyNot_5 rfl ?_
  refine wC_gX5_155 X dX5_whyNot_6 ?_
  refine V.if_ne (tgt := 15) X dX5_whyNot_9 (by decide) b2i_n0 b2i_0 (fun (hz9 : rB S 41 0 = true) => ?_) (fun (hz9 : rB S 41 0 = false) => ?_)
  · refine V.aload_n X dX5_whyNot_15 rfl ?_
    refine wC_gX5_26 X dX5_whyNot_16 ?_
    refine wC_gX5_236 X dX5_whyNot_19 ?_
    refine V.iload_n X dX5_whyNot_22 rfl ?_
    refine wC_ld22 (i := p) X (by omega) dX5_whyNot_23 ?_
    refine V.bipush (v := nI 119) X dX5_whyNot_24 (by decide) ?_
    refine V.icmp_eq (tgt := 32) X dX5_whyNot_26 (by decide) (cC_eq (a := rC S 22 p) (b := 119)) (cC_ne (a := rC S 22 p) (b := 119)) (fun (hz26 : rC S 22 p = 119) => ?_) (fun (hz26 : ¬ rC S 22 p = 119) => ?_)
    · refine V.aload_n X dX5_whyNot_32 rfl ?_
      refine V.iload_n X dX5_whyNot_33 rfl ?_
      refine V.callV1 [.int (nI p)] X (c_X5_areNeedsMet l D cy ad S F p hW (show p < 16 by omega)) mv_X5_areNeedsMet gw_2_22 ⟨⟨(Nat.le_of_ble_eq_true rfl), (Nat.le_of_ble_eq_true rfl)⟩, (Nat.le_of_ble_eq_true rfl), (Nat.le_of_ble_eq_true rfl)⟩ (q0 := 0) (ci := 7) rfl rfl rfl (Nat.le_of_ble_eq_true rfl) dX5_whyNot_34 ?_
      refine V.if_ne (tgt := 43) X dX5_whyNot_37 (by decide) b2i_n0 b2i_0 (fun (hz37 : met9 S p = true) => ?_) (fun (hz37 : met9 S p = false) => ?_)
      · refine V.aload_n X dX5_whyNot_43 rfl ?_
        refine wC_gX5_19 X dX5_whyNot_44 ?_
        refine V.iload_n X dX5_whyNot_47 rfl ?_
        refine V.aload_n X dX5_whyNot_48 rfl ?_
        refine wC_gX5_44 X dX5_whyNot_49 ?_
        refine V.callV1 [.int (nI p), .ref (ad 6)] X (c_X3_isGuardMet l D cy ad S F p hB (show p < 16 by omega) (hW.cc _) (hW.sen)) mv_X3_isGuardMet gw_2_38 ⟨⟨(Nat.le_of_ble_eq_true rfl), (Nat.le_of_ble_eq_true rfl)⟩, (Nat.le_of_ble_eq_true rfl), (Nat.le_of_ble_eq_true rfl)⟩ (q0 := 2) (ci := 5) rfl rfl rfl (Nat.le_of_ble_eq_true rfl) dX5_whyNot_52 ?_
        refine V.if_ne (tgt := 61) X dX5_whyNot_55 (by decide) b2i_n0 b2i_0 (fun (hz55 : guard9 S p = true) => ?_) (fun (hz55 : guard9 S p = false) => ?_)
        · refine V.aload_n X dX5_whyNot_61 rfl ?_
          refine V.aload_n X dX5_whyNot_62 rfl ?_
          refine wC_gX5_19 X dX5_whyNot_63 ?_
          refine wC_gX5_178 X dX5_whyNot_66 ?_
          refine V.iload_n X dX5_whyNot_69 rfl ?_
          refine wC_ld10 (i := p) X (by omega) dX5_whyNot_70 ?_
          refine V.callV1 [.int (nI (rN S 10 p))] X (c_X5_isRolePaused l D cy ad S F (nI (rN S 10 p)) hW) mv_X5_isRolePaused gw_3_121 ⟨⟨(Nat.le_of_ble_eq_true rfl), (Nat.le_of_ble_eq_true rfl)⟩, (Nat.le_of_ble_eq_true rfl), (Nat.le_of_ble_eq_true rfl)⟩ (q0 := 0) (ci := 7) rfl rfl rfl (Nat.le_of_ble_eq_true rfl) dX5_whyNot_71 ?_
          refine V.if_eq (tgt := 80) X dX5_whyNot_74 (by decide) b2i_0 b2i_n0 (fun (hz74 : paus9 S (nI (rN S 10 p)) = false) => ?_) (fun (hz74 : paus9 S (nI (rN S 10 p)) = true) => ?_)
          · refine V.aload_n X dX5_whyNot_80 rfl ?_
            refine V.aload_n X dX5_whyNot_81 rfl ?_
            refine wC_gX5_19 X dX5_whyNot_82 ?_
            refine wC_gX5_178 X dX5_whyNot_85 ?_
            refine V.iload_n X dX5_whyNot_88 rfl ?_
            refine wC_ld10 (i := p) X (by omega) dX5_whyNot_89 ?_
            refine V.callV1 [.int (nI (rN S 10 p))] X (c_X5_isAnyoneFreeFor l D cy ad S F (nI (rN S 10 p)) hW) mv_X5_isAnyoneFreeFor gw_4_111 ⟨⟨(Nat.le_of_ble_eq_true rfl), (Nat.le_of_ble_eq_true rfl)⟩, (Nat.le_of_ble_eq_true rfl), (Nat.le_of_ble_eq_true rfl)⟩ (q0 := 0) (ci := 7) rfl rfl rfl (Nat.le_of_ble_eq_true rfl) dX5_whyNot_90 ?_
            refine V.if_eq (tgt := 101) X dX5_whyNot_93 (by decide) b2i_0 b2i_n0 (fun (hz93 : man9 S (nI (rN S 10 p)) = false) => ?_) (fun (hz93 : man9 S (nI (rN S 10 p)) = true) => ?_)
            · refine V.bipush (v := nI 114) X dX5_whyNot_101 (by decide) ?_
              exact V.iret (v := c2i 114) X hE rfl (nar_c _) (Nat.le_of_ble_eq_true rfl) (Nat.le_of_ble_eq_true rfl) ⟨(by simp [kS1, hz2, hp, ep, hz9, hz26, hz37, hz55, hz74, hz93]), (congrArg (fun z => some (Value.int z)) (by first | rfl | (simp only [why9, ep]; done) | simp [why9, hz2, hp, ep, hz9, hz26, hz37, hz55, hz74, hz93])), (by first | (simp only [ep]; done) | (simp only [ep]; rfl) | rfl)⟩ dX5_whyNot_103
            · refine V.bipush (v := nI 45) X dX5_whyNot_96 (by decide) ?_
              refine V.goto (tgt := 103) X dX5_whyNot_98 (by decide) ?_
              exact V.iret (v := c2i 45) X hE rfl (nar_c _) (Nat.le_of_ble_eq_true rfl) (Nat.le_of_ble_eq_true rfl) ⟨(by simp [kS1, hz2, hp, ep, hz9, hz26, hz37, hz55, hz74, hz93]), (congrArg (fun z => some (Value.int z)) (by first | rfl | (simp only [why9, ep]; done) | simp [why9, hz2, hp, ep, hz9, hz26, hz37, hz55, hz74, hz93])), (by first | (simp only [ep]; done) | (simp only [ep]; rfl) | rfl)⟩ dX5_whyNot_103
          · refine V.bipush (v := nI 112) X dX5_whyNot_77 (by decide) ?_
            exact V.iret (v := c2i 112) X hE rfl (nar_c _) (Nat.le_of_ble_eq_true rfl) (Nat.le_of_ble_eq_true rfl) ⟨(by simp [kS1, hz2, hp, ep, hz9, hz26, hz37, hz55, hz74]), (congrArg (fun z => some (Value.int z)) (by first | rfl | (simp only [why9, ep]; done) | simp [why9, hz2, hp, ep, hz9, hz26, hz37, hz55, hz74])), (by first | (simp only [ep]; done) | (simp only [ep]; rfl) | rfl)⟩ dX5_whyNot_79
        · refine V.bipush (v := nI 103) X dX5_whyNot_58 (by decide) ?_
          exact V.iret (v := c2i 103) X hE rfl (nar_c _) (Nat.le_of_ble_eq_true rfl) (Nat.le_of_ble_eq_true rfl) ⟨(by simp [kS1, hz2, hp, ep, hz9, hz26, hz37, hz55]), (congrArg (fun z => some (Value.int z)) (by first | rfl | (simp only [why9, ep]; done) | simp [why9, hz2, hp, ep, hz9, hz26, hz37, hz55])), (by first | (simp only [ep]; done) | (simp only [ep]; rfl) | rfl)⟩ dX5_whyNot_60
      · refine V.bipush (v := nI 110) X dX5_whyNot_40 (by decide) ?_
        exact V.iret (v := c2i 110) X hE rfl (nar_c _) (Nat.le_of_ble_eq_true rfl) (Nat.le_of_ble_eq_true rfl) ⟨(by simp [kS1, hz2, hp, ep, hz9, hz26, hz37]), (congrArg (fun z => some (Value.int z)) (by first | rfl | (simp only [why9, ep]; done) | simp [why9, hz2, hp, ep, hz9, hz26, hz37])), (by first | (simp only [ep]; done) | (simp only [ep]; rfl) | rfl)⟩ dX5_whyNot_42
    · refine V.bipush (v := nI 120) X dX5_whyNot_29 (by decide) ?_
      exact V.iret (v := c2i 120) X hE rfl (nar_c _) (Nat.le_of_ble_eq_true rfl) (Nat.le_of_ble_eq_true rfl) ⟨(by simp [kS1, hz2, hp, ep, hz9, hz26]), (congrArg (fun z => some (Value.int z)) (by first | rfl | (simp only [why9, ep]; done) | simp [why9, hz2, hp, ep, hz9, hz26])), (by first | (simp only [ep]; done) | (simp only [ep]; rfl) | rfl)⟩ dX5_whyNot_31
  · refine V.bipush (v := nI 115) X dX5_whyNot_12 (by decide) ?_
    exact V.iret (v := c2i 115) X hE rfl (nar_c _) (Nat.le_of_ble_eq_true rfl) (Nat.le_of_ble_eq_true rfl) ⟨(by simp [kS1, hz2, hp, ep, hz9]), (congrArg (fun z => some (Value.int z)) (by first | rfl | (simp only [why9, ep]; done) | simp [why9, hz2, hp, ep, hz9])), (by first | (simp only [ep]; done) | (simp only [ep]; rfl) | rfl)⟩ dX5_whyNot_14
set_option maxRecDepth 20000 in
set_option maxHeartbeats 4000000 in
theorem c_X5_isSettled (l : Launch) (D : va_G) (cy : Nat → ClassId) (ad : Nat → Nat) (S : St) (F : va_W) (x : Int32) (hI : Inv S) : Ctr l D cy yX5_isSettled (.code yX5_isSettled cX5_isSettled 2 (some FieldType.boolean)) ({ frames := 12, cells := 8, slots := 48, locals := 400 } : Room) [.ref (ad 0), .int x] (wC ad cy S ++ F) (pIx (kS1 S x = 0) (b2i (rB S 41 0 && set9 S (ix x))) (wC ad cy S ++ F)) (pXk ["java/util/NoSuchElementException"] (kS1 S x) (wC ad cy S ++ F)) := by
  refine Ctr.of (by decide) (Nat.le_of_ble_eq_true rfl) ?_
  intro M X hE hN hB9 hI9
  replace X : VX l D M cy cX5_isSettled "Runbooker" (some FieldType.boolean) ({ frames := 12, cells := 8, slots := 48, locals := 400 } : Room) := X
  show V l D M 0 0 (wC ad cy S ++ F) [(0, .ref (ad 0)), (1, .int x)] 0 []
  have hW := hI.w
  have hB := hW.b
  have h43 := hW.n43
  have h44 := hW.n44
  have h46 := hW.n46
  have h45 := hW.n45
  have hcl := hW.cl
  have hen := hW.en
  refine V.aload_n X dX5_isSettled_0 rfl ?_
  refine V.iload_n X dX5_isSettled_1 rfl ?_
  refine V.callVx0 [.int x] X hE hN (c_X5_requireStep l D cy ad S F x) mv_X5_requireStep gw_3_1 ⟨⟨(Nat.le_of_ble_eq_true rfl), (Nat.le_of_ble_eq_true rfl)⟩, (Nat.le_of_ble_eq_true rfl), (Nat.le_of_ble_eq_true rfl)⟩ (q0 := 0) (ci := 7) rfl rfl rfl (Nat.le_of_ble_eq_true rfl) dX5_isSettled_2 (fun E9 w9 h9 => ⟨0, (by simp [kS1, h9.1]), (by rw [h9.2.1]; rfl), h9.2.2⟩) (fun hz2 => ?_)
  obtain ⟨p, hp, rfl⟩ := inR_of hz2 (by omega)
  have ep : ix (nI p) = p := ix_nI (by omega)
  refine V.aload_n X dX5_isSettled_5 rfl ?_
  refine wC_gX5_155 X dX5_isSettled_6 ?_
  refine V.if_eq (tgt := 24) X dX5_isSettled_9 (by decide) b2i_0 b2i_n0 (fun (hz9 : rB S 41 0 = false) => ?_) (fun (hz9 : rB S 41 0 = true) => ?_)
  · refine V.iconst (v := nI 0) X dX5_isSettled_24 rfl ?_
    exact V.iret (v := b2i false) X hE rfl (nar_b _) (Nat.le_of_ble_eq_true rfl) (Nat.le_of_ble_eq_true rfl) ⟨(by simp [kS1, hz2, hp, ep, hz9]), (congrArg (fun z => some (Value.int z)) (by first | rfl | (simp only [ep]; done) | simp [hz2, hp, ep, hz9])), (by first | (simp only [ep]; done) | (simp only [ep]; rfl) | rfl)⟩ dX5_isSettled_25
  · refine V.aload_n X dX5_isSettled_12 rfl ?_
    refine V.iload_n X dX5_isSettled_13 rfl ?_
    refine V.callV1 [.int (nI p)] X (c_X5_isStepSettled l D cy ad S F p hW (show p < 16 by omega)) mv_X5_isStepSettled gw_2_30 ⟨⟨(Nat.le_of_ble_eq_true rfl), (Nat.le_of_ble_eq_true rfl)⟩, (Nat.le_of_ble_eq_true rfl), (Nat.le_of_ble_eq_true rfl)⟩ (q0 := 0) (ci := 7) rfl rfl rfl (Nat.le_of_ble_eq_true rfl) dX5_isSettled_14 ?_
    refine V.if_eq (tgt := 24) X dX5_isSettled_17 (by decide) b2i_0 b2i_n0 (fun (hz17 : set9 S p = false) => ?_) (fun (hz17 : set9 S p = true) => ?_)
    · refine V.iconst (v := nI 0) X dX5_isSettled_24 rfl ?_
      exact V.iret (v := b2i false) X hE rfl (nar_b _) (Nat.le_of_ble_eq_true rfl) (Nat.le_of_ble_eq_true rfl) ⟨(by simp [kS1, hz2, hp, ep, hz9, hz17]), (congrArg (fun z => some (Value.int z)) (by first | rfl | (simp only [ep]; done) | simp [hz2, hp, ep, hz9, hz17])), (by first | (simp only [ep]; done) | (simp only [ep]; rfl) | rfl)⟩ dX5_isSettled_25
    · refine V.iconst (v := nI 1) X dX5_isSettled_20 rfl ?_
      refine V.goto (tgt := 25) X dX5_isSettled_21 (by decide) ?_
      exact V.iret (v := b2i true) X hE rfl (nar_b _) (Nat.le_of_ble_eq_true rfl) (Nat.le_of_ble_eq_true rfl) ⟨(by simp [kS1, hz2, hp, ep, hz9, hz17]), (congrArg (fun z => some (Value.int z)) (by first | rfl | (simp only [ep]; done) | simp [hz2, hp, ep, hz9, hz17])), (by first | (simp only [ep]; done) | (simp only [ep]; rfl) | rfl)⟩ dX5_isSettled_25
set_option maxRecDepth 20000 in
set_option maxHeartbeats 4000000 in
theorem c_X5_handoverEnd (l : Launch) (D : va_G) (cy : Nat → ClassId) (ad : Nat → Nat) (S : St) (F : va_W) (hI : Inv S) : Ctr l D cy yX5_handoverEnd (.code yX5_handoverEnd cX5_handoverEnd 1 (some FieldType.int)) ({ frames := 12, cells := 8, slots := 48, locals := 400 } : Room) [.ref (ad 0)] (wC ad cy S ++ F) (pIx (kHE S = 0) (nI (rN S 49 0)) (wC ad cy S ++ F)) (pXk ["java/lang/IllegalStateException"] (kHE S) (wC ad cy S ++ F)) := by
  refine Ctr.of (by decide) (Nat.le_of_ble_eq_true rfl) ?_
  intro M X hE hN hB9 hI9
  replace X : VX l D M cy cX5_handoverEnd "Runbooker" (some FieldType.int) ({ frames := 12, cells := 8, slots := 48, locals := 400 } : Room) := X
  show V l D M 0 0 (wC ad cy S ++ F) [(0, .ref (ad 0))] 0 []
  have hW := hI.w
  have hB := hW.b
  have h43 := hW.n43
  have h44 := hW.n44
  have h46 := hW.n46
  have h45 := hW.n45
  have hcl := hW.cl
  have hen := hW.en
  refine V.aload_n X dX5_handoverEnd_0 rfl ?_
  refine wC_gX5_33 X dX5_handoverEnd_1 ?_
  refine V.callV1 [] X (c_X1_isOn l D cy ad S F hB) mv_X1_isOn gw_3_80 ⟨⟨(Nat.le_of_ble_eq_true rfl), (Nat.le_of_ble_eq_true rfl)⟩, (Nat.le_of_ble_eq_true rfl), (Nat.le_of_ble_eq_true rfl)⟩ (q0 := 4) (ci := 3) rfl rfl rfl (Nat.le_of_ble_eq_true rfl) dX5_handoverEnd_4 ?_
  refine V.if_ne (tgt := 21) X dX5_handoverEnd_7 (by decide) b2i_n0 b2i_0 (fun (hz7 : (rO S 47 0).isSome = true) => ?_) (fun (hz7 : (rO S 47 0).isSome = false) => ?_)
  · refine V.aload_n X dX5_handoverEnd_21 rfl ?_
    refine wC_gX5_33 X dX5_handoverEnd_22 ?_
    refine wC_gX5_253 X dX5_handoverEnd_25 ?_
    exact V.iret (v := nI (rN S 49 0)) X hE rfl rfl (Nat.le_of_ble_eq_true rfl) (Nat.le_of_ble_eq_true rfl) ⟨(by simp [kHE, hz7]), (congrArg (fun z => some (Value.int z)) (by first | rfl | simp [hz7])), rfl⟩ dX5_handoverEnd_28
  · exact V.thISE X hE hN gS_336 (.inr ⟨rfl, rfl⟩) dX5_handoverEnd_10 dX5_handoverEnd_13 dX5_handoverEnd_14 dX5_handoverEnd_17 dX5_handoverEnd_20 (Nat.le_of_ble_eq_true rfl) (Nat.le_of_ble_eq_true rfl) (Nat.le_of_ble_eq_true rfl) (Nat.le_of_ble_eq_true rfl) ⟨0, (by simp [kHE, hz7]), rfl, rfl⟩
set_option maxRecDepth 20000 in
set_option maxHeartbeats 4000000 in
theorem c_X5_isPaused (l : Launch) (D : va_G) (cy : Nat → ClassId) (ad : Nat → Nat) (S : St) (F : va_W) (y : Int32) (hI : Inv S) : Ctr l D cy yX5_isPaused (.code yX5_isPaused cX5_isPaused 2 (some FieldType.boolean)) ({ frames := 12, cells := 8, slots := 48, locals := 400 } : Room) [.ref (ad 0), .int y] (wC ad cy S ++ F) (pIx (kR1 y = 0) (b2i (paus9 S y)) (wC ad cy S ++ F)) (pXk ["java/lang/IllegalArgumentException"] (kR1 y) (wC ad cy S ++ F)) := by
  refine Ctr.of (by decide) (Nat.le_of_ble_eq_true rfl) ?_
  intro M X hE hN hB9 hI9
  replace X : VX l D M cy cX5_isPaused "Runbooker" (some FieldType.boolean) ({ frames := 12, cells := 8, slots := 48, locals := 400 } : Room) := X
  show V l D M 0 0 (wC ad cy S ++ F) [(0, .ref (ad 0)), (1, .int y)] 0 []
  have hW := hI.w
  have hB := hW.b
  have h43 := hW.n43
  have h44 := hW.n44
  have h46 := hW.n46
  have h45 := hW.n45
  have hcl := hW.cl
  have hen := hW.en
  refine V.aload_n X dX5_isPaused_0 rfl ?_
  refine V.iload_n X dX5_isPaused_1 rfl ?_
  refine V.callVx0 [.int y] X hE hN (c_X5_requireRole l D cy ad S F y) mv_X5_requireRole gw_4_18 ⟨⟨(Nat.le_of_ble_eq_true rfl), (Nat.le_of_ble_eq_true rfl)⟩, (Nat.le_of_ble_eq_true rfl), (Nat.le_of_ble_eq_true rfl)⟩ (q0 := 0) (ci := 7) rfl rfl rfl (Nat.le_of_ble_eq_true rfl) dX5_isPaused_2 (fun E9 w9 h9 => ⟨0, (by simp [kR1, h9.1]), (by rw [h9.2.1]; rfl), h9.2.2⟩) (fun hz2 => ?_)
  refine V.aload_n X dX5_isPaused_5 rfl ?_
  refine V.iload_n X dX5_isPaused_6 rfl ?_
  refine V.callV1 [.int y] X (c_X5_isRolePaused l D cy ad S F y hW) mv_X5_isRolePaused gw_3_121 ⟨⟨(Nat.le_of_ble_eq_true rfl), (Nat.le_of_ble_eq_true rfl)⟩, (Nat.le_of_ble_eq_true rfl), (Nat.le_of_ble_eq_true rfl)⟩ (q0 := 0) (ci := 7) rfl rfl rfl (Nat.le_of_ble_eq_true rfl) dX5_isPaused_7 ?_
  exact V.iret (v := b2i (paus9 S y)) X hE rfl (nar_b _) (Nat.le_of_ble_eq_true rfl) (Nat.le_of_ble_eq_true rfl) ⟨(by simp [kR1, hz2]), (congrArg (fun z => some (Value.int z)) (by first | rfl | simp [hz2])), rfl⟩ dX5_isPaused_10
set_option maxRecDepth 20000 in
set_option maxHeartbeats 4000000 in
theorem c_X5_workedOn (l : Launch) (D : va_G) (cy : Nat → ClassId) (ad : Nat → Nat) (S : St) (F : va_W) (x : Int32) (hI : Inv S) : Ctr l D cy yX5_workedOn (.code yX5_workedOn cX5_workedOn 2 (some FieldType.int)) ({ frames := 12, cells := 8, slots := 48, locals := 400 } : Room) [.ref (ad 0), .int x] (wC ad cy S ++ F) (pIx (kWO S x = 0) (nI (rN S 26 (ix x))) (wC ad cy S ++ F)) (pXk ["java/util/NoSuchElementException", "java/lang/IllegalStateException"] (kWO S x) (wC ad cy S ++ F)) := by
  refine Ctr.of (by decide) (Nat.le_of_ble_eq_true rfl) ?_
  intro M X hE hN hB9 hI9
  replace X : VX l D M cy cX5_workedOn "Runbooker" (some FieldType.int) ({ frames := 12, cells := 8, slots := 48, locals := 400 } : Room) := X
  show V l D M 0 0 (wC ad cy S ++ F) [(0, .ref (ad 0)), (1, .int x)] 0 []
  have hW := hI.w
  have hB := hW.b
  have h43 := hW.n43
  have h44 := hW.n44
  have h46 := hW.n46
  have h45 := hW.n45
  have hcl := hW.cl
  have hen := hW.en
  refine V.aload_n X dX5_workedOn_0 rfl ?_
  refine V.iload_n X dX5_workedOn_1 rfl ?_
  refine V.callVx0 [.int x] X hE hN (c_X5_requireStep l D cy ad S F x) mv_X5_requireStep gw_3_1 ⟨⟨(Nat.le_of_ble_eq_true rfl), (Nat.le_of_ble_eq_true rfl)⟩, (Nat.le_of_ble_eq_true rfl), (Nat.le_of_ble_eq_true rfl)⟩ (q0 := 0) (ci := 7) rfl rfl rfl (Nat.le_of_ble_eq_true rfl) dX5_workedOn_2 (fun E9 w9 h9 => ⟨0, (by simp [kWO, h9.1]), (by rw [h9.2.1]; rfl), h9.2.2⟩) (fun hz2 => ?_)
  obtain ⟨p, hp, rfl⟩ := inR_of hz2 (by omega)
  have ep : ix (nI p) = p := ix_nI (by omega)
  refine V.aload_n X dX5_workedOn_5 rfl ?_
  refine wC_gX5_26 X dX5_workedOn_6 ?_
  refine wC_gX5_236 X dX5_workedOn_9 ?_
  refine V.iload_n X dX5_workedOn_12 rfl ?_
  refine wC_ld22 (i := p) X (by omega) dX5_workedOn_13 ?_
  refine V.bipush (v := nI 97) X dX5_workedOn_14 (by decide) ?_
  refine V.icmp_eq (tgt := 30) X dX5_workedOn_16 (by decide) (cC_eq (a := rC S 22 p) (b := 97)) (cC_ne (a := rC S 22 p) (b := 97)) (fun (hz16 : rC S 22 p = 97) => ?_) (fun (hz16 : ¬ rC S 22 p = 97) => ?_)
  · refine V.aload_n X dX5_workedOn_30 rfl ?_
    refine wC_gX5_26 X dX5_workedOn_31 ?_
    refine wC_gX5_222 X dX5_workedOn_34 ?_
    refine V.iload_n X dX5_workedOn_37 rfl ?_
    refine wC_ld26 (i := p) X (by omega) dX5_workedOn_38 ?_
    exact V.iret (v := nI (rN S 26 p)) X hE rfl rfl (Nat.le_of_ble_eq_true rfl) (Nat.le_of_ble_eq_true rfl) ⟨(by simp [kWO, hz2, hp, ep, hz16]), (congrArg (fun z => some (Value.int z)) (by first | rfl | (simp only [ep]; done) | simp [hz2, hp, ep, hz16])), (by first | (simp only [ep]; done) | (simp only [ep]; rfl) | rfl)⟩ dX5_workedOn_39
  · exact V.thISE X hE hN gS_338 (.inr ⟨rfl, rfl⟩) dX5_workedOn_19 dX5_workedOn_22 dX5_workedOn_23 dX5_workedOn_26 dX5_workedOn_29 (Nat.le_of_ble_eq_true rfl) (Nat.le_of_ble_eq_true rfl) (Nat.le_of_ble_eq_true rfl) (Nat.le_of_ble_eq_true rfl) ⟨1, (by simp [kWO, hz2, hp, ep, hz16]), rfl, rfl⟩
set_option maxRecDepth 20000 in
set_option maxHeartbeats 4000000 in
theorem c_X5_lastDone (l : Launch) (D : va_G) (cy : Nat → ClassId) (ad : Nat → Nat) (S : St) (F : va_W) (hI : Inv S) : Ctr l D cy yX5_lastDone (.code yX5_lastDone cX5_lastDone 2 (some FieldType.int)) ({ frames := 12, cells := 8, slots := 48, locals := 400 } : Room) [.ref (ad 0)] (wC ad cy S ++ F) (pIx (kLD S = 0) (o2i (ltd9 S)) (wC ad cy S ++ F)) (pXk ["java/lang/IllegalStateException"] (kLD S) (wC ad cy S ++ F)) := by
  refine Ctr.of (by decide) (Nat.le_of_ble_eq_true rfl) ?_
  intro M X hE hN hB9 hI9
  replace X : VX l D M cy cX5_lastDone "Runbooker" (some FieldType.int) ({ frames := 12, cells := 8, slots := 48, locals := 400 } : Room) := X
  show V l D M 0 0 (wC ad cy S ++ F) [(0, .ref (ad 0))] 0 []
  have hW := hI.w
  have hB := hW.b
  have h43 := hW.n43
  have h44 := hW.n44
  have h46 := hW.n46
  have h45 := hW.n45
  have hcl := hW.cl
  have hen := hW.en
  refine V.aload_n X dX5_lastDone_0 rfl ?_
  refine V.callVx0 [] X hE hN (c_X5_requireRun l D cy ad S F ) mv_X5_requireRun gw_3_75 ⟨⟨(Nat.le_of_ble_eq_true rfl), (Nat.le_of_ble_eq_true rfl)⟩, (Nat.le_of_ble_eq_true rfl), (Nat.le_of_ble_eq_true rfl)⟩ (q0 := 0) (ci := 7) rfl rfl rfl (Nat.le_of_ble_eq_true rfl) dX5_lastDone_1 (fun E9 w9 h9 => ⟨0, (by simp [kLD, h9.1]), (by rw [h9.2.1]; rfl), h9.2.2⟩) (fun hz1 => ?_)
  refine V.aload_n X dX5_lastDone_4 rfl ?_
  refine wC_gX5_26 X dX5_lastDone_5 ?_
  refine V.callV1 [] X (c_X4_latestDone l D cy ad S F hB (show (rN S 45 0) ≤ 16 by omega)) mv_X4_latestDone gw_4_194 ⟨⟨(Nat.le_of_ble_eq_true rfl), (Nat.le_of_ble_eq_true rfl)⟩, (Nat.le_of_ble_eq_true rfl), (Nat.le_of_ble_eq_true rfl)⟩ (q0 := 3) (ci := 6) rfl rfl rfl (Nat.le_of_ble_eq_true rfl) dX5_lastDone_8 ?_
  refine V.istore_n (L' := [(1, .int (o2i (ltd9 S))), (0, .ref (ad 0))]) X dX5_lastDone_11 rfl hB9 (by decide) rfl ?_
  refine V.iload_n X dX5_lastDone_12 rfl ?_
  refine V.iconst (v := o2i none) X dX5_lastDone_13 rfl ?_
  refine V.icmp_ne (tgt := 28) X dX5_lastDone_14 (by decide) (cO_ne (a := ltd9 S) (b := none)) (cO_eq (a := ltd9 S) (b := none) (fun k e => ltd9_lt hB e) lt_none) (fun (hz14 : ¬ ltd9 S = none) => ?_) (fun (hz14 : ltd9 S = none) => ?_)
  · refine V.iload_n X dX5_lastDone_28 rfl ?_
    exact V.iret (v := o2i (ltd9 S)) X hE rfl rfl (Nat.le_of_ble_eq_true rfl) (Nat.le_of_ble_eq_true rfl) ⟨(by simp [kLD, hz1, hz14]), (congrArg (fun z => some (Value.int z)) (by first | rfl | simp [hz1, hz14])), rfl⟩ dX5_lastDone_29
  · exact V.thISE X hE hN gS_343 (.inr ⟨rfl, rfl⟩) dX5_lastDone_17 dX5_lastDone_20 dX5_lastDone_21 dX5_lastDone_24 dX5_lastDone_27 (Nat.le_of_ble_eq_true rfl) (Nat.le_of_ble_eq_true rfl) (Nat.le_of_ble_eq_true rfl) (Nat.le_of_ble_eq_true rfl) ⟨0, (by simp [kLD, hz1, hz14]), rfl, rfl⟩
set_option maxRecDepth 20000 in
set_option maxHeartbeats 4000000 in
theorem c_X5_signAt (l : Launch) (D : va_G) (cy : Nat → ClassId) (ad : Nat → Nat) (S : St) (F : va_W) (x : Int32) (hI : Inv S) : Ctr l D cy yX5_signAt (.code yX5_signAt cX5_signAt 2 (some FieldType.char)) ({ frames := 12, cells := 8, slots := 48, locals := 400 } : Room) [.ref (ad 0), .int x] (wC ad cy S ++ F) (pIx (kE1 S x = 0) (c2i (rC S 29 (ix x))) (wC ad cy S ++ F)) (pXk ["java/util/NoSuchElementException"] (kE1 S x) (wC ad cy S ++ F)) := by
  refine Ctr.of (by decide) (Nat.le_of_ble_eq_true rfl) ?_
  intro M X hE hN hB9 hI9
  replace X : VX l D M cy cX5_signAt "Runbooker" (some FieldType.char) ({ frames := 12, cells := 8, slots := 48, locals := 400 } : Room) := X
  show V l D M 0 0 (wC ad cy S ++ F) [(0, .ref (ad 0)), (1, .int x)] 0 []
  have hW := hI.w
  have hB := hW.b
  have h43 := hW.n43
  have h44 := hW.n44
  have h46 := hW.n46
  have h45 := hW.n45
  have hcl := hW.cl
  have hen := hW.en
  refine V.aload_n X dX5_signAt_0 rfl ?_
  refine V.iload_n X dX5_signAt_1 rfl ?_
  refine V.callVx0 [.int x] X hE hN (c_X5_requireEntry l D cy ad S F x) mv_X5_requireEntry gw_4_203 ⟨⟨(Nat.le_of_ble_eq_true rfl), (Nat.le_of_ble_eq_true rfl)⟩, (Nat.le_of_ble_eq_true rfl), (Nat.le_of_ble_eq_true rfl)⟩ (q0 := 0) (ci := 7) rfl rfl rfl (Nat.le_of_ble_eq_true rfl) dX5_signAt_2 (fun E9 w9 h9 => ⟨0, (by simp [kE1, h9.1]), (by rw [h9.2.1]; rfl), h9.2.2⟩) (fun hz2 => ?_)
  obtain ⟨p, hp, rfl⟩ := inR_of hz2 (by omega)
  have ep : ix (nI p) = p := ix_nI (by omega)
  refine V.aload_n X dX5_signAt_5 rfl ?_
  refine wC_gX5_40 X dX5_signAt_6 ?_
  refine wC_gX5_348 X dX5_signAt_9 ?_
  refine V.iload_n X dX5_signAt_12 rfl ?_
  refine wC_ld29 (i := p) X (by omega) dX5_signAt_13 ?_
  exact V.iret (v := c2i (rC S 29 p)) X hE rfl (nar_c _) (Nat.le_of_ble_eq_true rfl) (Nat.le_of_ble_eq_true rfl) ⟨(by simp [kE1, hz2, hp, ep]), (congrArg (fun z => some (Value.int z)) (by first | rfl | (simp only [ep]; done) | simp [hz2, hp, ep])), (by first | (simp only [ep]; done) | (simp only [ep]; rfl) | rfl)⟩ dX5_signAt_14
set_option maxRecDepth 20000 in
set_option maxHeartbeats 4000000 in
theorem c_X5_stepAt (l : Launch) (D : va_G) (cy : Nat → ClassId) (ad : Nat → Nat) (S : St) (F : va_W) (x : Int32) (hI : Inv S) : Ctr l D cy yX5_stepAt (.code yX5_stepAt cX5_stepAt 2 (some FieldType.int)) ({ frames := 12, cells := 8, slots := 48, locals := 400 } : Room) [.ref (ad 0), .int x] (wC ad cy S ++ F) (pIx (kE1 S x = 0) (o2i (rO S 30 (ix x))) (wC ad cy S ++ F)) (pXk ["java/util/NoSuchElementException"] (kE1 S x) (wC ad cy S ++ F)) := by
  refine Ctr.of (by decide) (Nat.le_of_ble_eq_true rfl) ?_
  intro M X hE hN hB9 hI9
  replace X : VX l D M cy cX5_stepAt "Runbooker" (some FieldType.int) ({ frames := 12, cells := 8, slots := 48, locals := 400 } : Room) := X
  show V l D M 0 0 (wC ad cy S ++ F) [(0, .ref (ad 0)), (1, .int x)] 0 []
  have hW := hI.w
  have hB := hW.b
  have h43 := hW.n43
  have h44 := hW.n44
  have h46 := hW.n46
  have h45 := hW.n45
  have hcl := hW.cl
  have hen := hW.en
  refine V.aload_n X dX5_stepAt_0 rfl ?_
  refine V.iload_n X dX5_stepAt_1 rfl ?_
  refine V.callVx0 [.int x] X hE hN (c_X5_requireEntry l D cy ad S F x) mv_X5_requireEntry gw_4_203 ⟨⟨(Nat.le_of_ble_eq_true rfl), (Nat.le_of_ble_eq_true rfl)⟩, (Nat.le_of_ble_eq_true rfl), (Nat.le_of_ble_eq_true rfl)⟩ (q0 := 0) (ci := 7) rfl rfl rfl (Nat.le_of_ble_eq_true rfl) dX5_stepAt_2 (fun E9 w9 h9 => ⟨0, (by simp [kE1, h9.1]), (by rw [h9.2.1]; rfl), h9.2.2⟩) (fun hz2 => ?_)
  obtain ⟨p, hp, rfl⟩ := inR_of hz2 (by omega)
  have ep : ix (nI p) = p := ix_nI (by omega)
  refine V.aload_n X dX5_stepAt_5 rfl ?_
  refine wC_gX5_40 X dX5_stepAt_6 ?_
  refine wC_gX5_351 X dX5_stepAt_9 ?_
  refine V.iload_n X dX5_stepAt_12 rfl ?_
  refine wC_ld30 (i := p) X (by omega) dX5_stepAt_13 ?_
  exact V.iret (v := o2i (rO S 30 p)) X hE rfl rfl (Nat.le_of_ble_eq_true rfl) (Nat.le_of_ble_eq_true rfl) ⟨(by simp [kE1, hz2, hp, ep]), (congrArg (fun z => some (Value.int z)) (by first | rfl | (simp only [ep]; done) | simp [hz2, hp, ep])), (by first | (simp only [ep]; done) | (simp only [ep]; rfl) | rfl)⟩ dX5_stepAt_14
set_option maxRecDepth 20000 in
set_option maxHeartbeats 4000000 in
theorem c_X5_personAt (l : Launch) (D : va_G) (cy : Nat → ClassId) (ad : Nat → Nat) (S : St) (F : va_W) (x : Int32) (hI : Inv S) : Ctr l D cy yX5_personAt (.code yX5_personAt cX5_personAt 2 (some FieldType.int)) ({ frames := 12, cells := 8, slots := 48, locals := 400 } : Room) [.ref (ad 0), .int x] (wC ad cy S ++ F) (pIx (kE1 S x = 0) (o2i (rO S 31 (ix x))) (wC ad cy S ++ F)) (pXk ["java/util/NoSuchElementException"] (kE1 S x) (wC ad cy S ++ F)) := by
  refine Ctr.of (by decide) (Nat.le_of_ble_eq_true rfl) ?_
  intro M X hE hN hB9 hI9
  replace X : VX l D M cy cX5_personAt "Runbooker" (some FieldType.int) ({ frames := 12, cells := 8, slots := 48, locals := 400 } : Room) := X
  show V l D M 0 0 (wC ad cy S ++ F) [(0, .ref (ad 0)), (1, .int x)] 0 []
  have hW := hI.w
  have hB := hW.b
  have h43 := hW.n43
  have h44 := hW.n44
  have h46 := hW.n46
  have h45 := hW.n45
  have hcl := hW.cl
  have hen := hW.en
  refine V.aload_n X dX5_personAt_0 rfl ?_
  refine V.iload_n X dX5_personAt_1 rfl ?_
  refine V.callVx0 [.int x] X hE hN (c_X5_requireEntry l D cy ad S F x) mv_X5_requireEntry gw_4_203 ⟨⟨(Nat.le_of_ble_eq_true rfl), (Nat.le_of_ble_eq_true rfl)⟩, (Nat.le_of_ble_eq_true rfl), (Nat.le_of_ble_eq_true rfl)⟩ (q0 := 0) (ci := 7) rfl rfl rfl (Nat.le_of_ble_eq_true rfl) dX5_personAt_2 (fun E9 w9 h9 => ⟨0, (by simp [kE1, h9.1]), (by rw [h9.2.1]; rfl), h9.2.2⟩) (fun hz2 => ?_)
  obtain ⟨p, hp, rfl⟩ := inR_of hz2 (by omega)
  have ep : ix (nI p) = p := ix_nI (by omega)
  refine V.aload_n X dX5_personAt_5 rfl ?_
  refine wC_gX5_40 X dX5_personAt_6 ?_
  refine wC_gX5_354 X dX5_personAt_9 ?_
  refine V.iload_n X dX5_personAt_12 rfl ?_
  refine wC_ld31 (i := p) X (by omega) dX5_personAt_13 ?_
  exact V.iret (v := o2i (rO S 31 p)) X hE rfl rfl (Nat.le_of_ble_eq_true rfl) (Nat.le_of_ble_eq_true rfl) ⟨(by simp [kE1, hz2, hp, ep]), (congrArg (fun z => some (Value.int z)) (by first | rfl | (simp only [ep]; done) | simp [hz2, hp, ep])), (by first | (simp only [ep]; done) | (simp only [ep]; rfl) | rfl)⟩ dX5_personAt_14
set_option maxRecDepth 20000 in
set_option maxHeartbeats 4000000 in
theorem c_X5_minuteAt (l : Launch) (D : va_G) (cy : Nat → ClassId) (ad : Nat → Nat) (S : St) (F : va_W) (x : Int32) (hI : Inv S) : Ctr l D cy yX5_minuteAt (.code yX5_minuteAt cX5_minuteAt 2 (some FieldType.int)) ({ frames := 12, cells := 8, slots := 48, locals := 400 } : Room) [.ref (ad 0), .int x] (wC ad cy S ++ F) (pIx (kE1 S x = 0) (nI (rN S 32 (ix x))) (wC ad cy S ++ F)) (pXk ["java/util/NoSuchElementException"] (kE1 S x) (wC ad cy S ++ F)) := by
  refine Ctr.of (by decide) (Nat.le_of_ble_eq_true rfl) ?_
  intro M X hE hN hB9 hI9
  replace X : VX l D M cy cX5_minuteAt "Runbooker" (some FieldType.int) ({ frames := 12, cells := 8, slots := 48, locals := 400 } : Room) := X
  show V l D M 0 0 (wC ad cy S ++ F) [(0, .ref (ad 0)), (1, .int x)] 0 []
  have hW := hI.w
  have hB := hW.b
  have h43 := hW.n43
  have h44 := hW.n44
  have h46 := hW.n46
  have h45 := hW.n45
  have hcl := hW.cl
  have hen := hW.en
  refine V.aload_n X dX5_minuteAt_0 rfl ?_
  refine V.iload_n X dX5_minuteAt_1 rfl ?_
  refine V.callVx0 [.int x] X hE hN (c_X5_requireEntry l D cy ad S F x) mv_X5_requireEntry gw_4_203 ⟨⟨(Nat.le_of_ble_eq_true rfl), (Nat.le_of_ble_eq_true rfl)⟩, (Nat.le_of_ble_eq_true rfl), (Nat.le_of_ble_eq_true rfl)⟩ (q0 := 0) (ci := 7) rfl rfl rfl (Nat.le_of_ble_eq_true rfl) dX5_minuteAt_2 (fun E9 w9 h9 => ⟨0, (by simp [kE1, h9.1]), (by rw [h9.2.1]; rfl), h9.2.2⟩) (fun hz2 => ?_)
  obtain ⟨p, hp, rfl⟩ := inR_of hz2 (by omega)
  have ep : ix (nI p) = p := ix_nI (by omega)
  refine V.aload_n X dX5_minuteAt_5 rfl ?_
  refine wC_gX5_40 X dX5_minuteAt_6 ?_
  refine wC_gX5_357 X dX5_minuteAt_9 ?_
  refine V.iload_n X dX5_minuteAt_12 rfl ?_
  refine wC_ld32 (i := p) X (by omega) dX5_minuteAt_13 ?_
  exact V.iret (v := nI (rN S 32 p)) X hE rfl rfl (Nat.le_of_ble_eq_true rfl) (Nat.le_of_ble_eq_true rfl) ⟨(by simp [kE1, hz2, hp, ep]), (congrArg (fun z => some (Value.int z)) (by first | rfl | (simp only [ep]; done) | simp [hz2, hp, ep])), (by first | (simp only [ep]; done) | (simp only [ep]; rfl) | rfl)⟩ dX5_minuteAt_14
set_option maxRecDepth 20000 in
set_option maxHeartbeats 4000000 in
theorem c_X5_stateByLog (l : Launch) (D : va_G) (cy : Nat → ClassId) (ad : Nat → Nat) (S : St) (F : va_W) (x : Int32) (hI : Inv S) : Ctr l D cy yX5_stateByLog (.code yX5_stateByLog cX5_stateByLog 2 (some FieldType.char)) ({ frames := 12, cells := 8, slots := 48, locals := 400 } : Room) [.ref (ad 0), .int x] (wC ad cy S ++ F) (pIx (kSR2 S x = 0) (c2i (lgS S (ix x))) (wC ad cy S ++ F)) (pXk ["java/util/NoSuchElementException", "java/lang/IllegalStateException"] (kSR2 S x) (wC ad cy S ++ F)) := by
  refine Ctr.of (by decide) (Nat.le_of_ble_eq_true rfl) ?_
  intro M X hE hN hB9 hI9
  replace X : VX l D M cy cX5_stateByLog "Runbooker" (some FieldType.char) ({ frames := 12, cells := 8, slots := 48, locals := 400 } : Room) := X
  show V l D M 0 0 (wC ad cy S ++ F) [(0, .ref (ad 0)), (1, .int x)] 0 []
  have hW := hI.w
  have hB := hW.b
  have h43 := hW.n43
  have h44 := hW.n44
  have h46 := hW.n46
  have h45 := hW.n45
  have hcl := hW.cl
  have hen := hW.en
  refine V.aload_n X dX5_stateByLog_0 rfl ?_
  refine V.iload_n X dX5_stateByLog_1 rfl ?_
  refine V.callVx0 [.int x] X hE hN (c_X5_requireStepOfRun l D cy ad S F x) mv_X5_requireStepOfRun gw_4_85 ⟨⟨(Nat.le_of_ble_eq_true rfl), (Nat.le_of_ble_eq_true rfl)⟩, (Nat.le_of_ble_eq_true rfl), (Nat.le_of_ble_eq_true rfl)⟩ (q0 := 0) (ci := 7) rfl rfl rfl (Nat.le_of_ble_eq_true rfl) dX5_stateByLog_2 (fun E9 w9 h9 => by rcases h9 with h9 | h9; exact ⟨0, (by simp [kSR2, h9.1]), (by rw [h9.2.1]; rfl), h9.2.2⟩; exact ⟨1, (by simp [kSR2, h9.1]), (by rw [h9.2.1]; rfl), h9.2.2⟩) (fun hz2 => ?_)
  obtain ⟨p, hp, rfl⟩ := inR_of hz2.2 (by omega)
  have ep : ix (nI p) = p := ix_nI (by omega)
  refine V.aload_n X dX5_stateByLog_5 rfl ?_
  refine wC_gX5_40 X dX5_stateByLog_6 ?_
  refine V.iload_n X dX5_stateByLog_9 rfl ?_
  refine V.aload_n X dX5_stateByLog_10 rfl ?_
  refine wC_gX5_26 X dX5_stateByLog_11 ?_
  refine wC_gX5_360 X dX5_stateByLog_14 ?_
  refine V.iload_n X dX5_stateByLog_17 rfl ?_
  refine wC_ld23 (i := p) X (by omega) dX5_stateByLog_18 ?_
  refine V.if_eq (tgt := 27) X dX5_stateByLog_19 (by decide) b2i_0 b2i_n0 (fun (hz19 : rB S 23 p = false) => ?_) (fun (hz19 : rB S 23 p = true) => ?_)
  · refine V.bipush (v := nI 119) X dX5_stateByLog_27 (by decide) ?_
    refine V.callV1 [.int (nI p), .int (c2i 119)] X (c_X2_lastState l D cy ad S F p 119 hB (show p < 16 by omega) (show (rN S 50 0) ≤ 1536 by omega)) mv_X2_lastState gw_5_0 ⟨⟨(Nat.le_of_ble_eq_true rfl), (Nat.le_of_ble_eq_true rfl)⟩, (Nat.le_of_ble_eq_true rfl), (Nat.le_of_ble_eq_true rfl)⟩ (q0 := 5) (ci := 4) rfl rfl rfl (Nat.le_of_ble_eq_true rfl) dX5_stateByLog_29 ?_
    exact V.iret (v := c2i (lastS S p 119 (rN S 50 0))) X hE rfl (nar_c _) (Nat.le_of_ble_eq_true rfl) (Nat.le_of_ble_eq_true rfl) ⟨(by simp [kSR2, hz2, hp, ep, hz19]), (congrArg (fun z => some (Value.int z)) (by first | rfl | (simp only [lgS, ep]; done) | simp [lgS, hz2, hp, ep, hz19])), (by first | (simp only [ep]; done) | (simp only [ep]; rfl) | rfl)⟩ dX5_stateByLog_32
  · refine V.bipush (v := nI 111) X dX5_stateByLog_22 (by decide) ?_
    refine V.goto (tgt := 29) X dX5_stateByLog_24 (by decide) ?_
    refine V.callV1 [.int (nI p), .int (c2i 111)] X (c_X2_lastState l D cy ad S F p 111 hB (show p < 16 by omega) (show (rN S 50 0) ≤ 1536 by omega)) mv_X2_lastState gw_5_0 ⟨⟨(Nat.le_of_ble_eq_true rfl), (Nat.le_of_ble_eq_true rfl)⟩, (Nat.le_of_ble_eq_true rfl), (Nat.le_of_ble_eq_true rfl)⟩ (q0 := 5) (ci := 4) rfl rfl rfl (Nat.le_of_ble_eq_true rfl) dX5_stateByLog_29 ?_
    exact V.iret (v := c2i (lastS S p 111 (rN S 50 0))) X hE rfl (nar_c _) (Nat.le_of_ble_eq_true rfl) (Nat.le_of_ble_eq_true rfl) ⟨(by simp [kSR2, hz2, hp, ep, hz19]), (congrArg (fun z => some (Value.int z)) (by first | rfl | (simp only [lgS, ep]; done) | simp [lgS, hz2, hp, ep, hz19])), (by first | (simp only [ep]; done) | (simp only [ep]; rfl) | rfl)⟩ dX5_stateByLog_32
set_option maxRecDepth 20000 in
set_option maxHeartbeats 4000000 in
theorem c_X5_triesByLog (l : Launch) (D : va_G) (cy : Nat → ClassId) (ad : Nat → Nat) (S : St) (F : va_W) (x : Int32) (hI : Inv S) : Ctr l D cy yX5_triesByLog (.code yX5_triesByLog cX5_triesByLog 2 (some FieldType.int)) ({ frames := 12, cells := 8, slots := 48, locals := 400 } : Room) [.ref (ad 0), .int x] (wC ad cy S ++ F) (pIx (kSR2 S x = 0) (nI (cntT S (ix x) (rN S 50 0))) (wC ad cy S ++ F)) (pXk ["java/util/NoSuchElementException", "java/lang/IllegalStateException"] (kSR2 S x) (wC ad cy S ++ F)) := by
  refine Ctr.of (by decide) (Nat.le_of_ble_eq_true rfl) ?_
  intro M X hE hN hB9 hI9
  replace X : VX l D M cy cX5_triesByLog "Runbooker" (some FieldType.int) ({ frames := 12, cells := 8, slots := 48, locals := 400 } : Room) := X
  show V l D M 0 0 (wC ad cy S ++ F) [(0, .ref (ad 0)), (1, .int x)] 0 []
  have hW := hI.w
  have hB := hW.b
  have h43 := hW.n43
  have h44 := hW.n44
  have h46 := hW.n46
  have h45 := hW.n45
  have hcl := hW.cl
  have hen := hW.en
  refine V.aload_n X dX5_triesByLog_0 rfl ?_
  refine V.iload_n X dX5_triesByLog_1 rfl ?_
  refine V.callVx0 [.int x] X hE hN (c_X5_requireStepOfRun l D cy ad S F x) mv_X5_requireStepOfRun gw_4_85 ⟨⟨(Nat.le_of_ble_eq_true rfl), (Nat.le_of_ble_eq_true rfl)⟩, (Nat.le_of_ble_eq_true rfl), (Nat.le_of_ble_eq_true rfl)⟩ (q0 := 0) (ci := 7) rfl rfl rfl (Nat.le_of_ble_eq_true rfl) dX5_triesByLog_2 (fun E9 w9 h9 => by rcases h9 with h9 | h9; exact ⟨0, (by simp [kSR2, h9.1]), (by rw [h9.2.1]; rfl), h9.2.2⟩; exact ⟨1, (by simp [kSR2, h9.1]), (by rw [h9.2.1]; rfl), h9.2.2⟩) (fun hz2 => ?_)
  obtain ⟨p, hp, rfl⟩ := inR_of hz2.2 (by omega)
  have ep : ix (nI p) = p := ix_nI (by omega)
  refine V.aload_n X dX5_triesByLog_5 rfl ?_
  refine wC_gX5_40 X dX5_triesByLog_6 ?_
  refine V.iload_n X dX5_triesByLog_9 rfl ?_
  refine V.callV1 [.int (nI p)] X (c_X2_countTries l D cy ad S F p hB (show p < 16 by omega) (show (rN S 50 0) ≤ 1536 by omega)) mv_X2_countTries gw_5_14 ⟨⟨(Nat.le_of_ble_eq_true rfl), (Nat.le_of_ble_eq_true rfl)⟩, (Nat.le_of_ble_eq_true rfl), (Nat.le_of_ble_eq_true rfl)⟩ (q0 := 5) (ci := 4) rfl rfl rfl (Nat.le_of_ble_eq_true rfl) dX5_triesByLog_10 ?_
  exact V.iret (v := nI (cntT S p (rN S 50 0))) X hE rfl rfl (Nat.le_of_ble_eq_true rfl) (Nat.le_of_ble_eq_true rfl) ⟨(by simp [kSR2, hz2, hp, ep]), (congrArg (fun z => some (Value.int z)) (by first | rfl | (simp only [ep]; done) | simp [hz2, hp, ep])), (by first | (simp only [ep]; done) | (simp only [ep]; rfl) | rfl)⟩ dX5_triesByLog_13
set_option maxRecDepth 20000 in
set_option maxHeartbeats 4000000 in
theorem c_X5_people (l : Launch) (D : va_G) (cy : Nat → ClassId) (ad : Nat → Nat) (S : St) (F : va_W) (hI : Inv S) : Ctr l D cy yX5_people (.code yX5_people cX5_people 1 (some FieldType.int)) ({ frames := 8, cells := 0, slots := 0, locals := 240 } : Room) [.ref (ad 0)] (wC ad cy S ++ F) (pI (nI (rN S 43 0)) (wC ad cy S ++ F)) pNo := by
  refine Ctr.of (by decide) (Nat.le_of_ble_eq_true rfl) ?_
  intro M X hE hN hB9 hI9
  replace X : VX l D M cy cX5_people "Runbooker" (some FieldType.int) ({ frames := 8, cells := 0, slots := 0, locals := 240 } : Room) := X
  show V l D M 0 0 (wC ad cy S ++ F) [(0, .ref (ad 0))] 0 []
  have hW := hI.w
  have hB := hW.b
  have h43 := hW.n43
  have h44 := hW.n44
  have h46 := hW.n46
  have h45 := hW.n45
  have hcl := hW.cl
  have hen := hW.en
  refine V.aload_n X dX5_people_0 rfl ?_
  refine wC_gX5_10 X dX5_people_1 ?_
  refine wC_gX5_55 X dX5_people_4 ?_
  exact V.iret (v := nI (rN S 43 0)) X hE rfl rfl (Nat.le_of_ble_eq_true rfl) (Nat.le_of_ble_eq_true rfl) (pN9 rfl rfl) dX5_people_7
set_option maxRecDepth 20000 in
set_option maxHeartbeats 4000000 in
theorem c_X5_steps (l : Launch) (D : va_G) (cy : Nat → ClassId) (ad : Nat → Nat) (S : St) (F : va_W) (hI : Inv S) : Ctr l D cy yX5_steps (.code yX5_steps cX5_steps 1 (some FieldType.int)) ({ frames := 8, cells := 0, slots := 0, locals := 240 } : Room) [.ref (ad 0)] (wC ad cy S ++ F) (pI (nI (rN S 44 0)) (wC ad cy S ++ F)) pNo := by
  refine Ctr.of (by decide) (Nat.le_of_ble_eq_true rfl) ?_
  intro M X hE hN hB9 hI9
  replace X : VX l D M cy cX5_steps "Runbooker" (some FieldType.int) ({ frames := 8, cells := 0, slots := 0, locals := 240 } : Room) := X
  show V l D M 0 0 (wC ad cy S ++ F) [(0, .ref (ad 0))] 0 []
  have hW := hI.w
  have hB := hW.b
  have h43 := hW.n43
  have h44 := hW.n44
  have h46 := hW.n46
  have h45 := hW.n45
  have hcl := hW.cl
  have hen := hW.en
  refine V.aload_n X dX5_steps_0 rfl ?_
  refine wC_gX5_19 X dX5_steps_1 ?_
  refine wC_gX5_95 X dX5_steps_4 ?_
  exact V.iret (v := nI (rN S 44 0)) X hE rfl rfl (Nat.le_of_ble_eq_true rfl) (Nat.le_of_ble_eq_true rfl) (pN9 rfl rfl) dX5_steps_7
set_option maxRecDepth 20000 in
set_option maxHeartbeats 4000000 in
theorem c_X5_clock (l : Launch) (D : va_G) (cy : Nat → ClassId) (ad : Nat → Nat) (S : St) (F : va_W) (hI : Inv S) : Ctr l D cy yX5_clock (.code yX5_clock cX5_clock 1 (some FieldType.int)) ({ frames := 8, cells := 0, slots := 0, locals := 240 } : Room) [.ref (ad 0)] (wC ad cy S ++ F) (pI (nI (rN S 40 0)) (wC ad cy S ++ F)) pNo := by
  refine Ctr.of (by decide) (Nat.le_of_ble_eq_true rfl) ?_
  intro M X hE hN hB9 hI9
  replace X : VX l D M cy cX5_clock "Runbooker" (some FieldType.int) ({ frames := 8, cells := 0, slots := 0, locals := 240 } : Room) := X
  show V l D M 0 0 (wC ad cy S ++ F) [(0, .ref (ad 0))] 0 []
  have hW := hI.w
  have hB := hW.b
  have h43 := hW.n43
  have h44 := hW.n44
  have h46 := hW.n46
  have h45 := hW.n45
  have hcl := hW.cl
  have hen := hW.en
  refine V.aload_n X dX5_clock_0 rfl ?_
  refine wC_gX5_207 X dX5_clock_1 ?_
  exact V.iret (v := nI (rN S 40 0)) X hE rfl rfl (Nat.le_of_ble_eq_true rfl) (Nat.le_of_ble_eq_true rfl) (pN9 rfl rfl) dX5_clock_4
set_option maxRecDepth 20000 in
set_option maxHeartbeats 4000000 in
theorem c_X5_isRunning (l : Launch) (D : va_G) (cy : Nat → ClassId) (ad : Nat → Nat) (S : St) (F : va_W) (hI : Inv S) : Ctr l D cy yX5_isRunning (.code yX5_isRunning cX5_isRunning 1 (some FieldType.boolean)) ({ frames := 8, cells := 0, slots := 0, locals := 240 } : Room) [.ref (ad 0)] (wC ad cy S ++ F) (pI (b2i (rB S 41 0)) (wC ad cy S ++ F)) pNo := by
  refine Ctr.of (by decide) (Nat.le_of_ble_eq_true rfl) ?_
  intro M X hE hN hB9 hI9
  replace X : VX l D M cy cX5_isRunning "Runbooker" (some FieldType.boolean) ({ frames := 8, cells := 0, slots := 0, locals := 240 } : Room) := X
  show V l D M 0 0 (wC ad cy S ++ F) [(0, .ref (ad 0))] 0 []
  have hW := hI.w
  have hB := hW.b
  have h43 := hW.n43
  have h44 := hW.n44
  have h46 := hW.n46
  have h45 := hW.n45
  have hcl := hW.cl
  have hen := hW.en
  refine V.aload_n X dX5_isRunning_0 rfl ?_
  refine wC_gX5_155 X dX5_isRunning_1 ?_
  exact V.iret (v := b2i (rB S 41 0)) X hE rfl (nar_b _) (Nat.le_of_ble_eq_true rfl) (Nat.le_of_ble_eq_true rfl) (pB9 rfl rfl) dX5_isRunning_4
set_option maxRecDepth 20000 in
set_option maxHeartbeats 4000000 in
theorem c_X5_ready (l : Launch) (D : va_G) (cy : Nat → ClassId) (ad : Nat → Nat) (S : St) (F : va_W) (hI : Inv S) : Ctr l D cy yX5_ready (.code yX5_ready cX5_ready 1 (some FieldType.int)) ({ frames := 8, cells := 0, slots := 0, locals := 240 } : Room) [.ref (ad 0)] (wC ad cy S ++ F) (pI (nI (cntR S)) (wC ad cy S ++ F)) pNo := by
  refine Ctr.of (by decide) (Nat.le_of_ble_eq_true rfl) ?_
  intro M X hE hN hB9 hI9
  replace X : VX l D M cy cX5_ready "Runbooker" (some FieldType.int) ({ frames := 8, cells := 0, slots := 0, locals := 240 } : Room) := X
  show V l D M 0 0 (wC ad cy S ++ F) [(0, .ref (ad 0))] 0 []
  have hW := hI.w
  have hB := hW.b
  have h43 := hW.n43
  have h44 := hW.n44
  have h46 := hW.n46
  have h45 := hW.n45
  have hcl := hW.cl
  have hen := hW.en
  refine V.aload_n X dX5_ready_0 rfl ?_
  refine V.callV1 [] X (c_X5_countReady l D cy ad S F hW) mv_X5_countReady gw_2_14 ⟨⟨(Nat.le_of_ble_eq_true rfl), (Nat.le_of_ble_eq_true rfl)⟩, (Nat.le_of_ble_eq_true rfl), (Nat.le_of_ble_eq_true rfl)⟩ (q0 := 0) (ci := 7) rfl rfl rfl (Nat.le_of_ble_eq_true rfl) dX5_ready_1 ?_
  exact V.iret (v := nI (cntR S)) X hE rfl rfl (Nat.le_of_ble_eq_true rfl) (Nat.le_of_ble_eq_true rfl) (pN9 rfl rfl) dX5_ready_4
set_option maxRecDepth 20000 in
set_option maxHeartbeats 4000000 in
theorem c_X5_isOver (l : Launch) (D : va_G) (cy : Nat → ClassId) (ad : Nat → Nat) (S : St) (F : va_W) (hI : Inv S) : Ctr l D cy yX5_isOver (.code yX5_isOver cX5_isOver 1 (some FieldType.boolean)) ({ frames := 8, cells := 0, slots := 0, locals := 240 } : Room) [.ref (ad 0)] (wC ad cy S ++ F) (pI (b2i (rB S 41 0 && alls9 S)) (wC ad cy S ++ F)) pNo := by
  refine Ctr.of (by decide) (Nat.le_of_ble_eq_true rfl) ?_
  intro M X hE hN hB9 hI9
  replace X : VX l D M cy cX5_isOver "Runbooker" (some FieldType.boolean) ({ frames := 8, cells := 0, slots := 0, locals := 240 } : Room) := X
  show V l D M 0 0 (wC ad cy S ++ F) [(0, .ref (ad 0))] 0 []
  have hW := hI.w
  have hB := hW.b
  have h43 := hW.n43
  have h44 := hW.n44
  have h46 := hW.n46
  have h45 := hW.n45
  have hcl := hW.cl
  have hen := hW.en
  refine V.aload_n X dX5_isOver_0 rfl ?_
  refine wC_gX5_155 X dX5_isOver_1 ?_
  refine V.if_eq (tgt := 18) X dX5_isOver_4 (by decide) b2i_0 b2i_n0 (fun (hz4 : rB S 41 0 = false) => ?_) (fun (hz4 : rB S 41 0 = true) => ?_)
  · refine V.iconst (v := nI 0) X dX5_isOver_18 rfl ?_
    exact V.iret (v := b2i false) X hE rfl (nar_b _) (Nat.le_of_ble_eq_true rfl) (Nat.le_of_ble_eq_true rfl) (pB9 (by simp [hz4]) rfl) dX5_isOver_19
  · refine V.aload_n X dX5_isOver_7 rfl ?_
    refine V.callV1 [] X (c_X5_areAllSettled l D cy ad S F hW) mv_X5_areAllSettled gw_2_52 ⟨⟨(Nat.le_of_ble_eq_true rfl), (Nat.le_of_ble_eq_true rfl)⟩, (Nat.le_of_ble_eq_true rfl), (Nat.le_of_ble_eq_true rfl)⟩ (q0 := 0) (ci := 7) rfl rfl rfl (Nat.le_of_ble_eq_true rfl) dX5_isOver_8 ?_
    refine V.if_eq (tgt := 18) X dX5_isOver_11 (by decide) b2i_0 b2i_n0 (fun (hz11 : alls9 S = false) => ?_) (fun (hz11 : alls9 S = true) => ?_)
    · refine V.iconst (v := nI 0) X dX5_isOver_18 rfl ?_
      exact V.iret (v := b2i false) X hE rfl (nar_b _) (Nat.le_of_ble_eq_true rfl) (Nat.le_of_ble_eq_true rfl) (pB9 (by simp [hz4, hz11]) rfl) dX5_isOver_19
    · refine V.iconst (v := nI 1) X dX5_isOver_14 rfl ?_
      refine V.goto (tgt := 19) X dX5_isOver_15 (by decide) ?_
      exact V.iret (v := b2i true) X hE rfl (nar_b _) (Nat.le_of_ble_eq_true rfl) (Nat.le_of_ble_eq_true rfl) (pB9 (by simp [hz4, hz11]) rfl) dX5_isOver_19
set_option maxRecDepth 20000 in
set_option maxHeartbeats 4000000 in
theorem c_X5_isStuck (l : Launch) (D : va_G) (cy : Nat → ClassId) (ad : Nat → Nat) (S : St) (F : va_W) (hI : Inv S) : Ctr l D cy yX5_isStuck (.code yX5_isStuck cX5_isStuck 1 (some FieldType.boolean)) ({ frames := 8, cells := 0, slots := 0, locals := 240 } : Room) [.ref (ad 0)] (wC ad cy S ++ F) (pI (b2i (stu9 S)) (wC ad cy S ++ F)) pNo := by
  refine Ctr.of (by decide) (Nat.le_of_ble_eq_true rfl) ?_
  intro M X hE hN hB9 hI9
  replace X : VX l D M cy cX5_isStuck "Runbooker" (some FieldType.boolean) ({ frames := 8, cells := 0, slots := 0, locals := 240 } : Room) := X
  show V l D M 0 0 (wC ad cy S ++ F) [(0, .ref (ad 0))] 0 []
  have hW := hI.w
  have hB := hW.b
  have h43 := hW.n43
  have h44 := hW.n44
  have h46 := hW.n46
  have h45 := hW.n45
  have hcl := hW.cl
  have hen := hW.en
  have hcr : cntR S ≤ rN S 44 0 := cnt9_le _ _
  refine V.aload_n X dX5_isStuck_0 rfl ?_
  refine wC_gX5_155 X dX5_isStuck_1 ?_
  refine V.if_eq (tgt := 35) X dX5_isStuck_4 (by decide) b2i_0 b2i_n0 (fun (hz4 : rB S 41 0 = false) => ?_) (fun (hz4 : rB S 41 0 = true) => ?_)
  · refine V.iconst (v := nI 0) X dX5_isStuck_35 rfl ?_
    exact V.iret (v := b2i false) X hE rfl (nar_b _) (Nat.le_of_ble_eq_true rfl) (Nat.le_of_ble_eq_true rfl) (pB9 (by simp [stu9, anyA, hz4]) rfl) dX5_isStuck_36
  · refine V.aload_n X dX5_isStuck_7 rfl ?_
    refine V.callV1 [] X (c_X5_areAllSettled l D cy ad S F hW) mv_X5_areAllSettled gw_2_52 ⟨⟨(Nat.le_of_ble_eq_true rfl), (Nat.le_of_ble_eq_true rfl)⟩, (Nat.le_of_ble_eq_true rfl), (Nat.le_of_ble_eq_true rfl)⟩ (q0 := 0) (ci := 7) rfl rfl rfl (Nat.le_of_ble_eq_true rfl) dX5_isStuck_8 ?_
    refine V.if_ne (tgt := 35) X dX5_isStuck_11 (by decide) b2i_n0 b2i_0 (fun (hz11 : alls9 S = true) => ?_) (fun (hz11 : alls9 S = false) => ?_)
    · refine V.iconst (v := nI 0) X dX5_isStuck_35 rfl ?_
      exact V.iret (v := b2i false) X hE rfl (nar_b _) (Nat.le_of_ble_eq_true rfl) (Nat.le_of_ble_eq_true rfl) (pB9 (by simp [stu9, anyA, hz4, hz11]) rfl) dX5_isStuck_36
    · refine V.aload_n X dX5_isStuck_14 rfl ?_
      refine wC_gX5_26 X dX5_isStuck_15 ?_
      refine V.callV1 [] X (c_X4_isAnyActive l D cy ad S F hB (show (rN S 46 0) ≤ 16 by omega)) mv_X4_isAnyActive gw_2_60 ⟨⟨(Nat.le_of_ble_eq_true rfl), (Nat.le_of_ble_eq_true rfl)⟩, (Nat.le_of_ble_eq_true rfl), (Nat.le_of_ble_eq_true rfl)⟩ (q0 := 3) (ci := 6) rfl rfl rfl (Nat.le_of_ble_eq_true rfl) dX5_isStuck_18 ?_
      refine V.if_ne (tgt := 35) X dX5_isStuck_21 (by decide) b2i_n0 b2i_0 (fun (hz21 : any9 (fun s => decide (rC S 22 s = 97)) (rN S 46 0) = true) => ?_) (fun (hz21 : any9 (fun s => decide (rC S 22 s = 97)) (rN S 46 0) = false) => ?_)
      · refine V.iconst (v := nI 0) X dX5_isStuck_35 rfl ?_
        exact V.iret (v := b2i false) X hE rfl (nar_b _) (Nat.le_of_ble_eq_true rfl) (Nat.le_of_ble_eq_true rfl) (pB9 (by simp [stu9, anyA, hz4, hz11, hz21]) rfl) dX5_isStuck_36
      · refine V.aload_n X dX5_isStuck_24 rfl ?_
        refine V.callV1 [] X (c_X5_countReady l D cy ad S F hW) mv_X5_countReady gw_2_14 ⟨⟨(Nat.le_of_ble_eq_true rfl), (Nat.le_of_ble_eq_true rfl)⟩, (Nat.le_of_ble_eq_true rfl), (Nat.le_of_ble_eq_true rfl)⟩ (q0 := 0) (ci := 7) rfl rfl rfl (Nat.le_of_ble_eq_true rfl) dX5_isStuck_25 ?_
        refine V.if_ne (tgt := 35) X dX5_isStuck_28 (by decide) cN_ne (cN_eq (by omega) (by decide)) (fun (hz28 : ¬ cntR S = 0) => ?_) (fun (hz28 : cntR S = 0) => ?_)
        · refine V.iconst (v := nI 0) X dX5_isStuck_35 rfl ?_
          exact V.iret (v := b2i false) X hE rfl (nar_b _) (Nat.le_of_ble_eq_true rfl) (Nat.le_of_ble_eq_true rfl) (pB9 (by simp [stu9, anyA, hz4, hz11, hz21, hz28]) rfl) dX5_isStuck_36
        · refine V.iconst (v := nI 1) X dX5_isStuck_31 rfl ?_
          refine V.goto (tgt := 36) X dX5_isStuck_32 (by decide) ?_
          exact V.iret (v := b2i true) X hE rfl (nar_b _) (Nat.le_of_ble_eq_true rfl) (Nat.le_of_ble_eq_true rfl) (pB9 (by simp [stu9, anyA, hz4, hz11, hz21, hz28]) rfl) dX5_isStuck_36
set_option maxRecDepth 20000 in
set_option maxHeartbeats 4000000 in
theorem c_X5_entries (l : Launch) (D : va_G) (cy : Nat → ClassId) (ad : Nat → Nat) (S : St) (F : va_W) (hI : Inv S) : Ctr l D cy yX5_entries (.code yX5_entries cX5_entries 1 (some FieldType.int)) ({ frames := 8, cells := 0, slots := 0, locals := 240 } : Room) [.ref (ad 0)] (wC ad cy S ++ F) (pI (nI (rN S 50 0)) (wC ad cy S ++ F)) pNo := by
  refine Ctr.of (by decide) (Nat.le_of_ble_eq_true rfl) ?_
  intro M X hE hN hB9 hI9
  replace X : VX l D M cy cX5_entries "Runbooker" (some FieldType.int) ({ frames := 8, cells := 0, slots := 0, locals := 240 } : Room) := X
  show V l D M 0 0 (wC ad cy S ++ F) [(0, .ref (ad 0))] 0 []
  have hW := hI.w
  have hB := hW.b
  have h43 := hW.n43
  have h44 := hW.n44
  have h46 := hW.n46
  have h45 := hW.n45
  have hcl := hW.cl
  have hen := hW.en
  refine V.aload_n X dX5_entries_0 rfl ?_
  refine wC_gX5_40 X dX5_entries_1 ?_
  refine wC_gX5_154 X dX5_entries_4 ?_
  exact V.iret (v := nI (rN S 50 0)) X hE rfl rfl (Nat.le_of_ble_eq_true rfl) (Nat.le_of_ble_eq_true rfl) (pN9 rfl rfl) dX5_entries_7
