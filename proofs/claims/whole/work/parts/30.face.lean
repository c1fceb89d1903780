/-! ===== undo, rests, shares ===== -/
theorem pred9_pos {n : Nat} (h : 0 < n) : o2i (pred9 n) = nI (n - 1) := by
  cases n with
  | zero => omega
  | succ j => rfl
theorem pred9_le {n a : Nat} (hn : n < 2147483648) (ha : a < 2147483648) (h : o2i (pred9 n) < nI a) : n ≤ a := by
  rcases Nat.eq_zero_or_pos n with e | e
  · omega
  · rw [pred9_pos e] at h
    have := (nI_ltI (by omega) ha).mp h
    omega
theorem pred9_ge {n a : Nat} (hn : n < 2147483648) (ha : a < 2147483648) (h : ¬ o2i (pred9 n) < nI a) : a < n := by
  rcases Nat.eq_zero_or_pos n with e | e
  · subst e
    exfalso
    apply h
    show (-1 : Int32) < nI a
    rw [Int32.lt_iff_toInt_lt, nI_toInt ha]
    have : (-1 : Int32).toInt = -1 := rfl
    omega
  · rw [pred9_pos e] at h
    have := mt (nI_ltI (by omega) ha).mpr h
    omega
theorem und1_bnd {T : St} (h : Bnd T) (he : rN T 50 0 < 1536) : Bnd (und1 T) := by
  unfold und1
  exact lgw_bnd (((h.sN 45 (fun _ => by have := h.1 45 0; omega)).sC 22 _).sN 25 (up1_lt (h.1 25) (by omega))) he (fun k e => by cases e; exact h.1 28 _) (fun _ e => by cases e) (h.1 40 0)
theorem undS_ok {S : St} (hB : Bnd S) (he : rN S 50 0 + rN S 45 0 ≤ 1536) : ∀ j, j ≤ rN S 45 0 → Bnd (undS S j) ∧ rN (undS S j) 45 0 = rN S 45 0 - j ∧ rN (undS S j) 50 0 = rN S 50 0 + j ∧ rN (undS S j) 28 = rN S 28 ∧ rN (undS S j) 46 0 = rN S 46 0 ∧ rN (undS S j) 40 0 = rN S 40 0
  | 0, _ => ⟨hB, rfl, rfl, rfl, rfl, rfl⟩
  | j + 1, hj => by
    obtain ⟨h1, h2, h3, h4, h5, h6⟩ := undS_ok hB he j (by omega)
    refine ⟨und1_bnd h1 (by omega), ?_, ?_, h4, h5, h6⟩
    · show rN (undS S j) 45 0 - 1 = _
      omega
    · show rN (undS S j) 50 0 + 1 = _
      omega
theorem plc9_lt {S : St} {s : Nat} (h : ∃ k, k < rN S 45 0 ∧ rN S 28 k = s) : plc9 S s < rN S 45 0 ∧ rN S 28 (plc9 S s) = s := by
  obtain ⟨k, hk, e⟩ := h
  unfold plc9
  cases e2 : fst9 (fun k => decide (rN S 28 k = s)) (rN S 45 0) with
  | none => exact absurd e2 (fst9_ex (j := k) (by simp [e]) hk)
  | some i =>
    obtain ⟨h1, h2, -⟩ := fst9_some e2
    exact ⟨h1, by simpa using h2⟩
theorem plc9_le (S : St) (s : Nat) : plc9 S s ≤ rN S 45 0 := by
  unfold plc9
  cases e2 : fst9 (fun k => decide (rN S 28 k = s)) (rN S 45 0) with
  | none => exact Nat.le_refl _
  | some i => exact Nat.le_of_lt (fst9_some e2).1
theorem fd9_ok : ∀ a : Fin 17, ∀ b : Fin 17, FP.fdiv (FP.i2f (nI a.val)) (FP.i2f (nI (max 1 b.val))) &&& 0x7fffffff ≤ 0x7f800000 := by decide +kernel
theorem dd9_ok : ∀ a : Fin 49, ∀ b : Fin 17, FP.ddiv (FP.i2d (nI a.val)) (FP.i2d (nI (max 1 b.val))) &&& 0x7fffffffffffffff ≤ 0x7ff0000000000000 := by decide +kernel
set_option maxRecDepth 20000 in
set_option maxHeartbeats 4000000 in
theorem c_X5_undo (l : Launch) (D : va_G) (cy : Nat → ClassId) (ad : Nat → Nat) (S : St) (F : va_W) (x : Int32) (hI : Inv S) (hR : Rm S) : Ctr l D cy yX5_undo (.code yX5_undo cX5_undo 5 (some FieldType.int)) ({ frames := 12, cells := 8, slots := 48, locals := 400 } : Room) [.ref (ad 0), .int x] (wC ad cy S ++ F) (pIx (kUD S x = 0) (nI (nUD S x)) (wC ad cy (undS S (nUD S x)) ++ F)) (pXk ["java/util/NoSuchElementException", "java/lang/IllegalStateException", "java/lang/UnsupportedOperationException"] (kUD S x) (wC ad cy S ++ F)) := by
  refine Ctr.of (by decide) (Nat.le_of_ble_eq_true rfl) ?_
  intro M X hE hN hB9 hI9
  replace X : VX l D M cy cX5_undo "Runbooker" (some FieldType.int) ({ frames := 12, cells := 8, slots := 48, locals := 400 } : Room) := X
  show V l D M 0 0 (wC ad cy S ++ F) [(0, .ref (ad 0)), (1, .int x)] 0 []
  have hW := hI.w
  have hB := hW.b
  have h43 := hW.n43
  have h44 := hW.n44
  have h46 := hW.n46
  have h45 := hW.n45
  have hcl := hW.cl
  have hen := hW.en
  have he3 := Rm.en hR
  refine V.aload_n X dX5_undo_0 rfl ?_
  refine V.iload_n X dX5_undo_1 rfl ?_
  refine V.callVx0 [.int x] X hE hN (c_X5_requireStep l D cy ad S F x) mv_X5_requireStep gw_3_1 ⟨⟨(Nat.le_of_ble_eq_true rfl), (Nat.le_of_ble_eq_true rfl)⟩, (Nat.le_of_ble_eq_true rfl), (Nat.le_of_ble_eq_true rfl)⟩ (q0 := 0) (ci := 7) rfl rfl rfl (Nat.le_of_ble_eq_true rfl) dX5_undo_2 (fun E9 w9 h9 => ⟨0, (by simp [kUD, anyA, h9.1]), (by rw [h9.2.1]; rfl), h9.2.2⟩) (fun hz2 => ?_)
  obtain ⟨p, hp, rfl⟩ := inR_of hz2 (by omega)
  have ep : ix (nI p) = p := ix_nI (by omega)
  refine V.aload_n X dX5_undo_5 rfl ?_
  refine V.callVx0 [] X hE hN (c_X5_requireRun l D cy ad S F ) mv_X5_requireRun gw_3_75 ⟨⟨(Nat.le_of_ble_eq_true rfl), (Nat.le_of_ble_eq_true rfl)⟩, (Nat.le_of_ble_eq_true rfl), (Nat.le_of_ble_eq_true rfl)⟩ (q0 := 0) (ci := 7) rfl rfl rfl (Nat.le_of_ble_eq_true rfl) dX5_undo_6 (fun E9 w9 h9 => ⟨1, (by simp [kUD, anyA, hz2, hp, ep, h9.1]), (by rw [h9.2.1]; rfl), h9.2.2⟩) (fun hz6 => ?_)
  refine V.aload_n X dX5_undo_9 rfl ?_
  refine wC_gX5_26 X dX5_undo_10 ?_
  refine V.callV1 [] X (c_X4_isAnyActive l D cy ad S F hB (show (rN S 46 0) ≤ 16 by omega)) mv_X4_isAnyActive gw_2_60 ⟨⟨(Nat.le_of_ble_eq_true rfl), (Nat.le_of_ble_eq_true rfl)⟩, (Nat.le_of_ble_eq_true rfl), (Nat.le_of_ble_eq_true rfl)⟩ (q0 := 3) (ci := 6) rfl rfl rfl (Nat.le_of_ble_eq_true rfl) dX5_undo_13 ?_
  refine V.if_ne (tgt := 33) X dX5_undo_16 (by decide) b2i_n0 b2i_0 (fun (hz16 : any9 (fun s => decide (rC S 22 s = 97)) (rN S 46 0) = true) => ?_) (fun (hz16 : any9 (fun s => decide (rC S 22 s = 97)) (rN S 46 0) = false) => ?_)
  · exact V.thISE X hE hN gS_256 (.inr ⟨rfl, rfl⟩) dX5_undo_33 dX5_undo_36 dX5_undo_37 dX5_undo_40 dX5_undo_43 (Nat.le_of_ble_eq_true rfl) (Nat.le_of_ble_eq_true rfl) (Nat.le_of_ble_eq_true rfl) (Nat.le_of_ble_eq_true rfl) ⟨1, (by simp [kUD, anyA, hz2, hp, ep, hz6, hz16]), rfl, rfl⟩
  · refine V.aload_n X dX5_undo_19 rfl ?_
    refine wC_gX5_26 X dX5_undo_20 ?_
    refine wC_gX5_236 X dX5_undo_23 ?_
    refine V.iload_n X dX5_undo_26 rfl ?_
    refine wC_ld22 (i := p) X (by omega) dX5_undo_27 ?_
    refine V.bipush (v := nI 100) X dX5_undo_28 (by decide) ?_
    refine V.icmp_eq (tgt := 44) X dX5_undo_30 (by decide) (cC_eq (a := rC S 22 p) (b := 100)) (cC_ne (a := rC S 22 p) (b := 100)) (fun (hz30 : rC S 22 p = 100) => ?_) (fun (hz30 : ¬ rC S 22 p = 100) => ?_)
    · have h4644 := (hI.run hz6).1
      have hpl := plc9_lt (hI.ds p (by omega) hz30)
      refine V.aload_n X dX5_undo_44 rfl ?_
      refine wC_gX5_26 X dX5_undo_45 ?_
      refine V.iload_n X dX5_undo_48 rfl ?_
      refine V.callV1 [.int (nI p)] X (c_X4_placeInDone l D cy ad S F p hB (show p < 16 by omega) (show (rN S 45 0) ≤ 16 by omega)) mv_X4_placeInDone gw_3_189 ⟨⟨(Nat.le_of_ble_eq_true rfl), (Nat.le_of_ble_eq_true rfl)⟩, (Nat.le_of_ble_eq_true rfl), (Nat.le_of_ble_eq_true rfl)⟩ (q0 := 3) (ci := 6) rfl rfl rfl (Nat.le_of_ble_eq_true rfl) dX5_undo_49 ?_
      refine V.istore_n (L' := [(2, .int (nI (plc9 S p))), (0, .ref (ad 0)), (1, .int (nI p))]) X dX5_undo_52 rfl hB9 (by decide) rfl ?_
      refine V.aload_n X dX5_undo_53 rfl ?_
      refine V.iload_n X dX5_undo_54 rfl ?_
      refine V.callV1 [.int (nI (plc9 S p))] X (c_X5_areReversibleFrom l D cy ad S F (plc9 S p) hW (show (plc9 S p) ≤ (rN S 45 0) by omega)) mv_X5_areReversibleFrom gw_3_193 ⟨⟨(Nat.le_of_ble_eq_true rfl), (Nat.le_of_ble_eq_true rfl)⟩, (Nat.le_of_ble_eq_true rfl), (Nat.le_of_ble_eq_true rfl)⟩ (q0 := 0) (ci := 7) rfl rfl rfl (Nat.le_of_ble_eq_true rfl) dX5_undo_55 ?_
      refine V.if_ne (tgt := 72) X dX5_undo_58 (by decide) b2i_n0 b2i_0 (fun (hz58 : rev9 S (plc9 S p) = true) => ?_) (fun (hz58 : rev9 S (plc9 S p) = false) => ?_)
      · refine V.iconst (v := nI 0) X dX5_undo_72 rfl ?_
        refine V.istore_n (L' := [(3, .int (nI 0)), (2, .int (nI (plc9 S p))), (0, .ref (ad 0)), (1, .int (nI p))]) X dX5_undo_73 rfl hB9 (by decide) rfl ?_
        refine V.aload_n X dX5_undo_74 rfl ?_
        refine wC_gX5_26 X dX5_undo_75 ?_
        refine wC_gX5_175 X dX5_undo_78 ?_
        refine V.iconst (v := nI 1) X dX5_undo_81 rfl ?_
        refine V.isub (v := o2i (pred9 (rN S 45 0))) X dX5_undo_82 (pred9_sub _) ?_
        refine V.istore (L' := [(4, .int (o2i (pred9 (rN S 45 0)))), (3, .int (nI 0)), (2, .int (nI (plc9 S p))), (0, .ref (ad 0)), (1, .int (nI p))]) X dX5_undo_83 hB9 (by decide) rfl ?_
        have loop85 : ∀ (d9 : Nat) (j : Nat), (rN S 45 0 - j) < d9 → (j ≤ rN S 45 0 - plc9 S p) → V l D M 2 12 (wC ad cy (undS S j) ++ F) [(4, .int (o2i (pred9 (rN S 45 0 - j)))), (3, .int (nI j)), (2, .int (nI (plc9 S p))), (0, .ref (ad 0)), (1, .int (nI p))] 85 [] := by
          intro d9
          induction d9 with
          | zero => intro j h9; exact absurd h9 (Nat.not_lt_zero _)
          | succ d9 ih85 =>
            intro j hd9 hj
            obtain ⟨hu1, hu2, hu3, hu4, hu5, hu6⟩ := undS_ok hB (by omega) j (by omega)
            have hu28 := hu1.1 28 (rN (undS S j) 45 0 - 1)
            refine V.iload X dX5_undo_85 rfl ?_
            refine V.iload_n X dX5_undo_87 rfl ?_
            refine V.icmp_lt (tgt := 121) X dX5_undo_88 (by decide) (pred9_le (by omega) (by omega)) (pred9_ge (by omega) (by omega)) (fun (hz88 : rN S 45 0 - j ≤ plc9 S p) => ?_) (fun (hz88 : plc9 S p < rN S 45 0 - j) => ?_)
            · refine V.iload_n X dX5_undo_121 rfl ?_
              exact V.iret (v := nI j) X hE rfl rfl (Nat.le_of_ble_eq_true rfl) (Nat.le_of_ble_eq_true rfl) ⟨(by simp [kUD, anyA, hz2, hp, ep, hz6, hz16, hz30, hz58, hz88]), (congrArg (fun z => some (Value.int z)) (by unfold nUD; rw [ep, show j = rN S 45 0 - plc9 S p by omega])), (by unfold nUD; rw [ep, show j = rN S 45 0 - plc9 S p by omega])⟩ dX5_undo_122
            · rw [pred9_pos (show 0 < rN S 45 0 - j by omega)]
              have h9d : rN (undS S j) 28 (rN (undS S j) 45 0 - 1) < rN (undS S j) 46 0 := by rw [hu4, hu5]; exact hW.dn _ (by omega)
              refine V.aload_n X dX5_undo_91 rfl ?_
              refine wC_gX5_40 X dX5_undo_92 ?_
              refine V.bipush (v := nI 117) X dX5_undo_95 (by decide) ?_
              refine V.aload_n X dX5_undo_97 rfl ?_
              refine wC_gX5_26 X dX5_undo_98 ?_
              refine V.callV1 [] X (c_X4_undoLatest l D cy ad (undS S j) F hu1 (show 0 < (rN (undS S j) 45 0) by omega) (show (rN (undS S j) 45 0) ≤ 16 by omega) (show (rN (undS S j) 46 0) ≤ 16 by omega) h9d) mv_X4_undoLatest gw_3_198 ⟨⟨(Nat.le_of_ble_eq_true rfl), (Nat.le_of_ble_eq_true rfl)⟩, (Nat.le_of_ble_eq_true rfl), (Nat.le_of_ble_eq_true rfl)⟩ (q0 := 3) (ci := 6) rfl rfl rfl (Nat.le_of_ble_eq_true rfl) dX5_undo_101 ?_
              refine V.iconst (v := o2i none) X dX5_undo_104 rfl ?_
              refine V.aload_n X dX5_undo_105 rfl ?_
              refine wC_gX5_207 X dX5_undo_106 ?_
              refine V.callV0 [.int (c2i 117), .int (o2i (some (rN (undS S j) 28 (rN (undS S j) 45 0 - 1)))), .int (o2i none), .int (nI (rN (undS S j) 40 0))] X (c_X2_write l D cy ad (sN (sC (sN (undS S j) 45 (fun _ => (rN (undS S j) 45 0) - 1)) 22 (up1 (rC (undS S j) 22) (rN (undS S j) 28 (rN (undS S j) 45 0 - 1)) 119)) 25 (up1 (rN (undS S j) 25) (rN (undS S j) 28 (rN (undS S j) 45 0 - 1)) 0)) F 117 (some (rN (undS S j) 28 (rN (undS S j) 45 0 - 1))) none (rN (undS S j) 40 0) (((hu1.sN 45 (fun _ => show (rN (undS S j) 45 0) - 1 < 1000000 by omega)).sC 22 _).sN 25 (up1_lt (hu1.1 25) (show 0 < 1000000 by omega))) (show (rN (undS S j) 50 0) < 1536 by omega)) mv_X2_write gw_3_130 ⟨⟨(Nat.le_of_ble_eq_true rfl), (Nat.le_of_ble_eq_true rfl)⟩, (Nat.le_of_ble_eq_true rfl), (Nat.le_of_ble_eq_true rfl)⟩ (q0 := 5) (ci := 4) rfl rfl rfl (Nat.le_of_ble_eq_true rfl) dX5_undo_109 ?_
              refine V.iinc (v := nI (j + 1)) (L' := [(3, .int (nI (j + 1))), (4, .int (nI (rN S 45 0 - j - 1))), (2, .int (nI (plc9 S p))), (0, .ref (ad 0)), (1, .int (nI p))]) X dX5_undo_112 rfl (nI_inc _) hB9 (by decide) rfl ?_
              refine V.iinc (v := o2i (pred9 (rN S 45 0 - j - 1))) (L' := [(4, .int (o2i (pred9 (rN S 45 0 - j - 1)))), (3, .int (nI (j + 1))), (2, .int (nI (plc9 S p))), (0, .ref (ad 0)), (1, .int (nI p))]) X dX5_undo_115 rfl (pred9_dec _) hB9 (by decide) rfl ?_
              refine V.goto (tgt := 85) X dX5_undo_118 (by decide) ?_
              exact V.eqs rfl (by rw [show rN S 45 0 - (j + 1) = rN S 45 0 - j - 1 by omega]) (ih85 (j + 1) (by omega) (by omega))
        exact V.eqs rfl rfl (loop85 _ 0 (Nat.lt_succ_self _) (Nat.zero_le _))
      · exact V.thUOE X hE hN gS_264 (.inr ⟨rfl, rfl⟩) dX5_undo_61 dX5_undo_64 dX5_undo_65 dX5_undo_68 dX5_undo_71 (Nat.le_of_ble_eq_true rfl) (Nat.le_of_ble_eq_true rfl) (Nat.le_of_ble_eq_true rfl) (Nat.le_of_ble_eq_true rfl) ⟨2, (by simp [kUD, anyA, hz2, hp, ep, hz6, hz16, hz30, hz58]), rfl, rfl⟩
    · exact V.thISE X hE hN gS_256 (.inr ⟨rfl, rfl⟩) dX5_undo_33 dX5_undo_36 dX5_undo_37 dX5_undo_40 dX5_undo_43 (Nat.le_of_ble_eq_true rfl) (Nat.le_of_ble_eq_true rfl) (Nat.le_of_ble_eq_true rfl) (Nat.le_of_ble_eq_true rfl) ⟨1, (by simp [kUD, anyA, hz2, hp, ep, hz6, hz16, hz30]), rfl, rfl⟩
set_option maxRecDepth 20000 in
set_option maxHeartbeats 4000000 in
theorem c_X5_nextStep (l : Launch) (D : va_G) (cy : Nat → ClassId) (ad : Nat → Nat) (S : St) (F : va_W) (x : Int32) (hI : Inv S) : Ctr l D cy yX5_nextStep (.code yX5_nextStep cX5_nextStep 3 (some FieldType.int)) ({ frames := 12, cells := 8, slots := 48, locals := 400 } : Room) [.ref (ad 0), .int x] (wC ad cy S ++ F) (fun v9 w9 => ∃ f : Nat → Nat, (∀ j, f j < 1000000) ∧ kNX S x = 0 ∧ v9 = some (.int (o2i (best9 S (ix x) (rN S 44 0)))) ∧ w9 = wC ad cy (sN S 21 f) ++ F) (fun E9 w9 => ∃ (f : Nat → Nat) (j : Nat), (∀ i, f i < 1000000) ∧ kNX S x = j + 1 ∧ ["java/util/NoSuchElementException", "java/lang/IllegalStateException"][j]? = some E9 ∧ w9 = wC ad cy (sN S 21 f) ++ F) := by
  refine Ctr.of (by decide) (Nat.le_of_ble_eq_true rfl) ?_
  intro M X hE hN hB9 hI9
  replace X : VX l D M cy cX5_nextStep "Runbooker" (some FieldType.int) ({ frames := 12, cells := 8, slots := 48, locals := 400 } : Room) := X
  show V l D M 0 0 (wC ad cy S ++ F) [(0, .ref (ad 0)), (1, .int x)] 0 []
  have hW := hI.w
  have hB := hW.b
  have h43 := hW.n43
  have h44 := hW.n44
  have h46 := hW.n46
  have h45 := hW.n45
  have hcl := hW.cl
  have hen := hW.en
  refine V.aload_n X dX5_nextStep_0 rfl ?_
  refine V.iload_n X dX5_nextStep_1 rfl ?_
  refine V.callVx0 [.int x] X hE hN (c_X5_requirePerson l D cy ad S F x) mv_X5_requirePerson gw_2_179 ⟨⟨(Nat.le_of_ble_eq_true rfl), (Nat.le_of_ble_eq_true rfl)⟩, (Nat.le_of_ble_eq_true rfl), (Nat.le_of_ble_eq_true rfl)⟩ (q0 := 0) (ci := 7) rfl rfl rfl (Nat.le_of_ble_eq_true rfl) dX5_nextStep_2 (fun E9 w9 h9 => ⟨rN S 21, 0, hB.1 21, (by simp [kNX, h9.1]), (by rw [h9.2.1]; rfl), h9.2.2⟩) (fun hz2 => ?_)
  obtain ⟨p, hp, rfl⟩ := inR_of hz2 (by omega)
  have ep : ix (nI p) = p := ix_nI (by omega)
  refine V.aload_n X dX5_nextStep_5 rfl ?_
  refine V.iload_n X dX5_nextStep_6 rfl ?_
  refine V.callV1 [.int (nI p)] X (c_X5_mostUrgentFor l D cy ad S F p hW (show p < 8 by omega)) mv_X5_mostUrgentFor gw_4_122 ⟨⟨(Nat.le_of_ble_eq_true rfl), (Nat.le_of_ble_eq_true rfl)⟩, (Nat.le_of_ble_eq_true rfl), (Nat.le_of_ble_eq_true rfl)⟩ (q0 := 0) (ci := 7) rfl rfl rfl (Nat.le_of_ble_eq_true rfl) dX5_nextStep_7 ?_
  refine V.istore_n (L' := [(2, .int (o2i (best9 S p (rN S 44 0)))), (0, .ref (ad 0)), (1, .int (nI p))]) X dX5_nextStep_10 rfl hB9 (by decide) rfl ?_
  refine V.iload_n X dX5_nextStep_11 rfl ?_
  refine V.iconst (v := o2i none) X dX5_nextStep_12 rfl ?_
  refine V.icmp_ne (tgt := 27) X dX5_nextStep_13 (by decide) (cO_ne (a := best9 S p (rN S 44 0)) (b := none)) (cO_eq (a := best9 S p (rN S 44 0)) (b := none) (fun k e => by have := best9_lt e; omega) lt_none) (fun (hz13 : ¬ best9 S p (rN S 44 0) = none) => ?_) (fun (hz13 : best9 S p (rN S 44 0) = none) => ?_)
  · refine V.iload_n X dX5_nextStep_27 rfl ?_
    exact V.iret (v := o2i (best9 S p (rN S 44 0))) X hE rfl rfl (Nat.le_of_ble_eq_true rfl) (Nat.le_of_ble_eq_true rfl) ⟨low9 (rst S) (rN S 21) (rN S 44 0), (low9_lt (fun j => Nat.lt_of_le_of_lt (rst_le hW.len j) (by decide)) (hB.1 21)), (by simp [kNX, hz2, hp, ep, hz13]), (by rw [ep]), rfl⟩ dX5_nextStep_28
  · exact V.thISE X hE hN gS_315 (.inr ⟨rfl, rfl⟩) dX5_nextStep_16 dX5_nextStep_19 dX5_nextStep_20 dX5_nextStep_23 dX5_nextStep_26 (Nat.le_of_ble_eq_true rfl) (Nat.le_of_ble_eq_true rfl) (Nat.le_of_ble_eq_true rfl) (Nat.le_of_ble_eq_true rfl) ⟨low9 (rst S) (rN S 21) (rN S 44 0), 1, (low9_lt (fun j => Nat.lt_of_le_of_lt (rst_le hW.len j) (by decide)) (hB.1 21)), (by simp [kNX, hz2, hp, ep, hz13]), rfl, rfl⟩
set_option maxRecDepth 20000 in
set_option maxHeartbeats 4000000 in
theorem c_X5_restBySweep (l : Launch) (D : va_G) (cy : Nat → ClassId) (ad : Nat → Nat) (S : St) (F : va_W) (x : Int32) (hI : Inv S) : Ctr l D cy yX5_restBySweep (.code yX5_restBySweep cX5_restBySweep 2 (some FieldType.int)) ({ frames := 12, cells := 8, slots := 48, locals := 400 } : Room) [.ref (ad 0), .int x] (wC ad cy S ++ F) (fun v9 w9 => ∃ f : Nat → Nat, (∀ j, f j < 1000000) ∧ kS1 S x = 0 ∧ v9 = some (.int (nI (rst S (ix x)))) ∧ w9 = wC ad cy (sN S 21 f) ++ F) (fun E9 w9 => ∃ (f : Nat → Nat) (j : Nat), (∀ i, f i < 1000000) ∧ kS1 S x = j + 1 ∧ ["java/util/NoSuchElementException"][j]? = some E9 ∧ w9 = wC ad cy (sN S 21 f) ++ F) := by
  refine Ctr.of (by decide) (Nat.le_of_ble_eq_true rfl) ?_
  intro M X hE hN hB9 hI9
  replace X : VX l D M cy cX5_restBySweep "Runbooker" (some FieldType.int) ({ frames := 12, cells := 8, slots := 48, locals := 400 } : Room) := X
  show V l D M 0 0 (wC ad cy S ++ F) [(0, .ref (ad 0)), (1, .int x)] 0 []
  have hW := hI.w
  have hB := hW.b
  have h43 := hW.n43
  have h44 := hW.n44
  have h46 := hW.n46
  have h45 := hW.n45
  have hcl := hW.cl
  have hen := hW.en
  refine V.aload_n X dX5_restBySweep_0 rfl ?_
  refine V.iload_n X dX5_restBySweep_1 rfl ?_
  refine V.callVx0 [.int x] X hE hN (c_X5_requireStep l D cy ad S F x) mv_X5_requireStep gw_3_1 ⟨⟨(Nat.le_of_ble_eq_true rfl), (Nat.le_of_ble_eq_true rfl)⟩, (Nat.le_of_ble_eq_true rfl), (Nat.le_of_ble_eq_true rfl)⟩ (q0 := 0) (ci := 7) rfl rfl rfl (Nat.le_of_ble_eq_true rfl) dX5_restBySweep_2 (fun E9 w9 h9 => ⟨rN S 21, 0, hB.1 21, (by simp [kS1, h9.1]), (by rw [h9.2.1]; rfl), h9.2.2⟩) (fun hz2 => ?_)
  obtain ⟨p, hp, rfl⟩ := inR_of hz2 (by omega)
  have ep : ix (nI p) = p := ix_nI (by omega)
  refine V.aload_n X dX5_restBySweep_5 rfl ?_
  refine wC_gX5_19 X dX5_restBySweep_6 ?_
  refine V.callV0 [] X (c_X3_sweepRests l D cy ad S F hB (show (rN S 44 0) ≤ 16 by omega) (hW.len)) mv_X3_sweepRests gw_4_126 ⟨⟨(Nat.le_of_ble_eq_true rfl), (Nat.le_of_ble_eq_true rfl)⟩, (Nat.le_of_ble_eq_true rfl), (Nat.le_of_ble_eq_true rfl)⟩ (q0 := 2) (ci := 5) rfl rfl rfl (Nat.le_of_ble_eq_true rfl) dX5_restBySweep_9 ?_
  refine V.aload_n X dX5_restBySweep_12 rfl ?_
  refine wC_gX5_19 X dX5_restBySweep_13 ?_
  refine wC_gX5_327 X dX5_restBySweep_16 ?_
  refine V.iload_n X dX5_restBySweep_19 rfl ?_
  refine wC_ld21 (i := p) X (by omega) dX5_restBySweep_20 ?_
  exact V.iret (v := nI ((low9 (rst S) (rN S 21) (rN S 44 0)) p)) X hE rfl rfl (Nat.le_of_ble_eq_true rfl) (Nat.le_of_ble_eq_true rfl) ⟨low9 (rst S) (rN S 21) (rN S 44 0), (low9_lt (fun j => Nat.lt_of_le_of_lt (rst_le hW.len j) (by decide)) (hB.1 21)), (by simp [kS1, hz2]), (by rw [ep, low9_in hp]), rfl⟩ dX5_restBySweep_21
set_option maxRecDepth 20000 in
set_option maxHeartbeats 4000000 in
theorem c_X5_restOf (l : Launch) (D : va_G) (cy : Nat → ClassId) (ad : Nat → Nat) (S : St) (F : va_W) (x : Int32) (hI : Inv S) : Ctr l D cy yX5_restOf (.code yX5_restOf cX5_restOf 2 (some FieldType.int)) ({ frames := 30, cells := 4, slots := 24, locals := 1600 } : Room) [.ref (ad 0), .int x] (wC ad cy S ++ F) (fun v9 w9 => ∃ f : Nat → Nat, (∀ j, f j < 1000000) ∧ kS1 S x = 0 ∧ v9 = some (.int (nI (rst S (ix x)))) ∧ w9 = wC ad cy (sN S 21 f) ++ F) (fun E9 w9 => ∃ (f : Nat → Nat) (j : Nat), (∀ i, f i < 1000000) ∧ kS1 S x = j + 1 ∧ ["java/util/NoSuchElementException"][j]? = some E9 ∧ w9 = wC ad cy (sN S 21 f) ++ F) := by
  refine Ctr.of (by decide) (Nat.le_of_ble_eq_true rfl) ?_
  intro M X hE hN hB9 hI9
  replace X : VX l D M cy cX5_restOf "Runbooker" (some FieldType.int) ({ frames := 30, cells := 4, slots := 24, locals := 1600 } : Room) := X
  show V l D M 0 0 (wC ad cy S ++ F) [(0, .ref (ad 0)), (1, .int x)] 0 []
  have hW := hI.w
  have hB := hW.b
  have h43 := hW.n43
  have h44 := hW.n44
  have h46 := hW.n46
  have h45 := hW.n45
  have hcl := hW.cl
  have hen := hW.en
  refine V.aload_n X dX5_restOf_0 rfl ?_
  refine V.iload_n X dX5_restOf_1 rfl ?_
  refine V.callVx0 [.int x] X hE hN (c_X5_requireStep l D cy ad S F x) mv_X5_requireStep gw_3_1 ⟨⟨(Nat.le_of_ble_eq_true rfl), (Nat.le_of_ble_eq_true rfl)⟩, (Nat.le_of_ble_eq_true rfl), (Nat.le_of_ble_eq_true rfl)⟩ (q0 := 0) (ci := 7) rfl rfl rfl (Nat.le_of_ble_eq_true rfl) dX5_restOf_2 (fun E9 w9 h9 => ⟨rN S 21, 0, hB.1 21, (by simp [kS1, h9.1]), (by rw [h9.2.1]; rfl), h9.2.2⟩) (fun hz2 => ?_)
  obtain ⟨p, hp, rfl⟩ := inR_of hz2 (by omega)
  have ep : ix (nI p) = p := ix_nI (by omega)
  refine V.aload_n X dX5_restOf_5 rfl ?_
  refine wC_gX5_19 X dX5_restOf_6 ?_
  refine V.callV0 [] X (c_X3_forgetRests l D cy ad S F hB (show (rN S 44 0) ≤ 16 by omega)) mv_X3_forgetRests gw_4_142 ⟨⟨(Nat.le_of_ble_eq_true rfl), (Nat.le_of_ble_eq_true rfl)⟩, (Nat.le_of_ble_eq_true rfl), (Nat.le_of_ble_eq_true rfl)⟩ (q0 := 2) (ci := 5) rfl rfl rfl (Nat.le_of_ble_eq_true rfl) dX5_restOf_9 ?_
  refine V.aload_n X dX5_restOf_12 rfl ?_
  refine wC_gX5_19 X dX5_restOf_13 ?_
  refine V.iload_n X dX5_restOf_16 rfl ?_
  refine V.iconst (v := nI 0) X dX5_restOf_17 rfl ?_
  have hf0 : ∀ j, low9 (fun _ => 0) (rN S 21) (rN S 44 0) j < 1000000 := low9_lt (fun _ => by omega) (hB.1 21)
  refine V.callS [.ref (ad 2), .int (nI p), .int (nI 0)] X (recR l D cy ad F 16 (sN S 21 (low9 (fun _ => 0) (rN S 21) (rN S 44 0))) p 0 (hB.sN 21 hf0) hW.len h44 hp (by show rN S 44 0 ≤ p + 16; omega) (Nat.zero_le _) (fun j hj => .inl (show low9 (fun _ => 0) (rN S 21) (rN S 44 0) j = 0 from low9_in hj))) ms_X5_recursiveRest gw_4_146 ⟨⟨(Nat.le_of_ble_eq_true rfl), (Nat.le_of_ble_eq_true rfl)⟩, (Nat.le_of_ble_eq_true rfl), (Nat.le_of_ble_eq_true rfl)⟩ rfl (Nat.le_of_ble_eq_true rfl) dX5_restOf_18 (fun _ _ h => h.elim) (fun v w hq => ?_)
  obtain ⟨f2, hf2a, hf2b, rfl, rfl⟩ := hq
  show V l D M _ _ (wC ad cy (sN S 21 f2) ++ F) [(0, .ref (ad 0)), (1, .int (nI p))] 21 [.int (nI (rst S p))]
  exact V.iret (v := nI (rst S p)) X hE rfl rfl (Nat.le_of_ble_eq_true rfl) (Nat.le_of_ble_eq_true rfl) ⟨f2, hf2a, (by simp [kS1, hz2]), (by rw [ep]), rfl⟩ dX5_restOf_21
set_option maxRecDepth 20000 in
set_option maxHeartbeats 4000000 in
theorem c_X5_doneShare (l : Launch) (D : va_G) (cy : Nat → ClassId) (ad : Nat → Nat) (S : St) (F : va_W) (hI : Inv S) : Ctr l D cy yX5_doneShare (.code yX5_doneShare cX5_doneShare 1 (some FieldType.float)) ({ frames := 12, cells := 8, slots := 48, locals := 400 } : Room) [.ref (ad 0)] (wC ad cy S ++ F) (fun v9 w9 => kRN S = 0 ∧ v9 = some (.float (FP.fdiv (FP.i2f (nI (rN S 45 0))) (FP.i2f (nI (max 1 (rN S 46 0)))))) ∧ w9 = wC ad cy S ++ F) (pXk ["java/lang/IllegalStateException"] (kRN S) (wC ad cy S ++ F)) := by
  refine Ctr.of (by decide) (Nat.le_of_ble_eq_true rfl) ?_
  intro M X hE hN hB9 hI9
  replace X : VX l D M cy cX5_doneShare "Runbooker" (some FieldType.float) ({ frames := 12, cells := 8, slots := 48, locals := 400 } : Room) := X
  show V l D M 0 0 (wC ad cy S ++ F) [(0, .ref (ad 0))] 0 []
  have hW := hI.w
  have hB := hW.b
  have h43 := hW.n43
  have h44 := hW.n44
  have h46 := hW.n46
  have h45 := hW.n45
  have hcl := hW.cl
  have hen := hW.en
  refine V.aload_n X dX5_doneShare_0 rfl ?_
  refine V.callVx0 [] X hE hN (c_X5_requireRun l D cy ad S F ) mv_X5_requireRun gw_3_75 ⟨⟨(Nat.le_of_ble_eq_true rfl), (Nat.le_of_ble_eq_true rfl)⟩, (Nat.le_of_ble_eq_true rfl), (Nat.le_of_ble_eq_true rfl)⟩ (q0 := 0) (ci := 7) rfl rfl rfl (Nat.le_of_ble_eq_true rfl) dX5_doneShare_1 (fun E9 w9 h9 => ⟨0, (by simp [kRN, h9.1]), (by rw [h9.2.1]; rfl), h9.2.2⟩) (fun hz1 => ?_)
  refine V.aload_n X dX5_doneShare_4 rfl ?_
  refine wC_gX5_26 X dX5_doneShare_5 ?_
  refine wC_gX5_175 X dX5_doneShare_8 ?_
  refine V.i2f X dX5_doneShare_11 ?_
  refine V.aload_n X dX5_doneShare_12 rfl ?_
  refine wC_gX5_26 X dX5_doneShare_13 ?_
  refine V.callV1 [] X (c_X4_divisor l D cy ad S F hB) mv_X4_divisor gw_5_221 ⟨⟨(Nat.le_of_ble_eq_true rfl), (Nat.le_of_ble_eq_true rfl)⟩, (Nat.le_of_ble_eq_true rfl), (Nat.le_of_ble_eq_true rfl)⟩ (q0 := 3) (ci := 6) rfl rfl rfl (Nat.le_of_ble_eq_true rfl) dX5_doneShare_16 ?_
  refine V.i2f X dX5_doneShare_19 ?_
  refine V.fdiv X dX5_doneShare_20 (fd9_ok ⟨rN S 45 0, by omega⟩ ⟨rN S 46 0, by omega⟩) ?_
  exact V.fret (v := FP.fdiv (FP.i2f (nI (rN S 45 0))) (FP.i2f (nI (max 1 (rN S 46 0))))) X hE rfl (Nat.le_of_ble_eq_true rfl) (Nat.le_of_ble_eq_true rfl) ⟨(by simp [kRN, hz1]), rfl, rfl⟩ dX5_doneShare_21
set_option maxRecDepth 20000 in
set_option maxHeartbeats 4000000 in
theorem c_X5_meanTries (l : Launch) (D : va_G) (cy : Nat → ClassId) (ad : Nat → Nat) (S : St) (F : va_W) (hI : Inv S) : Ctr l D cy yX5_meanTries (.code yX5_meanTries cX5_meanTries 1 (some FieldType.double)) ({ frames := 12, cells := 8, slots := 48, locals := 400 } : Room) [.ref (ad 0)] (wC ad cy S ++ F) (fun v9 w9 => kRN S = 0 ∧ v9 = some (.double (FP.ddiv (FP.i2d (nI (sum9 (rN S 25) (rN S 46 0)))) (FP.i2d (nI (max 1 (rN S 46 0)))))) ∧ w9 = wC ad cy S ++ F) (pXk ["java/lang/IllegalStateException"] (kRN S) (wC ad cy S ++ F)) := by
  refine Ctr.of (by decide) (Nat.le_of_ble_eq_true rfl) ?_
  intro M X hE hN hB9 hI9
  replace X : VX l D M cy cX5_meanTries "Runbooker" (some FieldType.double) ({ frames := 12, cells := 8, slots := 48, locals := 400 } : Room) := X
  show V l D M 0 0 (wC ad cy S ++ F) [(0, .ref (ad 0))] 0 []
  have hW := hI.w
  have hB := hW.b
  have h43 := hW.n43
  have h44 := hW.n44
  have h46 := hW.n46
  have h45 := hW.n45
  have hcl := hW.cl
  have hen := hW.en
  have hs9 := sum9_le hW.tr (rN S 46 0)
  refine V.aload_n X dX5_meanTries_0 rfl ?_
  refine V.callVx0 [] X hE hN (c_X5_requireRun l D cy ad S F ) mv_X5_requireRun gw_3_75 ⟨⟨(Nat.le_of_ble_eq_true rfl), (Nat.le_of_ble_eq_true rfl)⟩, (Nat.le_of_ble_eq_true rfl), (Nat.le_of_ble_eq_true rfl)⟩ (q0 := 0) (ci := 7) rfl rfl rfl (Nat.le_of_ble_eq_true rfl) dX5_meanTries_1 (fun E9 w9 h9 => ⟨0, (by simp [kRN, h9.1]), (by rw [h9.2.1]; rfl), h9.2.2⟩) (fun hz1 => ?_)
  refine V.aload_n X dX5_meanTries_4 rfl ?_
  refine wC_gX5_26 X dX5_meanTries_5 ?_
  refine V.callV1 [] X (c_X4_sumOfTries l D cy ad S F hB (show (rN S 46 0) ≤ 16 by omega) (hW.tr)) mv_X4_sumOfTries gw_5_233 ⟨⟨(Nat.le_of_ble_eq_true rfl), (Nat.le_of_ble_eq_true rfl)⟩, (Nat.le_of_ble_eq_true rfl), (Nat.le_of_ble_eq_true rfl)⟩ (q0 := 3) (ci := 6) rfl rfl rfl (Nat.le_of_ble_eq_true rfl) dX5_meanTries_8 ?_
  refine V.i2d X dX5_meanTries_11 ?_
  refine V.aload_n X dX5_meanTries_12 rfl ?_
  refine wC_gX5_26 X dX5_meanTries_13 ?_
  refine V.callV1 [] X (c_X4_divisor l D cy ad S F hB) mv_X4_divisor gw_5_221 ⟨⟨(Nat.le_of_ble_eq_true rfl), (Nat.le_of_ble_eq_true rfl)⟩, (Nat.le_of_ble_eq_true rfl), (Nat.le_of_ble_eq_true rfl)⟩ (q0 := 3) (ci := 6) rfl rfl rfl (Nat.le_of_ble_eq_true rfl) dX5_meanTries_16 ?_
  refine V.i2d X dX5_meanTries_19 ?_
  refine V.ddiv X dX5_meanTries_20 (dd9_ok ⟨sum9 (rN S 25) (rN S 46 0), by omega⟩ ⟨rN S 46 0, by omega⟩) ?_
  exact V.dret (v := FP.ddiv (FP.i2d (nI (sum9 (rN S 25) (rN S 46 0)))) (FP.i2d (nI (max 1 (rN S 46 0))))) X hE rfl (Nat.le_of_ble_eq_true rfl) (Nat.le_of_ble_eq_true rfl) ⟨(by simp [kRN, hz1]), rfl, rfl⟩ dX5_meanTries_21
set_option maxRecDepth 20000 in
set_option maxHeartbeats 4000000 in
theorem c_X5_workedMinutes (l : Launch) (D : va_G) (cy : Nat → ClassId) (ad : Nat → Nat) (S : St) (F : va_W) : Ctr l D cy yX5_workedMinutes (.code yX5_workedMinutes cX5_workedMinutes 1 (some FieldType.long)) ({ frames := 8, cells := 0, slots := 0, locals := 240 } : Room) [.ref (ad 0)] (wC ad cy S ++ F) (fun v9 w9 => v9 = some (.long (rL S 42)) ∧ w9 = wC ad cy S ++ F) pNo := by
  refine Ctr.of (by decide) (Nat.le_of_ble_eq_true rfl) ?_
  intro M X hE hN hB9 hI9
  replace X : VX l D M cy cX5_workedMinutes "Runbooker" (some FieldType.long) ({ frames := 8, cells := 0, slots := 0, locals := 240 } : Room) := X
  show V l D M 0 0 (wC ad cy S ++ F) [(0, .ref (ad 0))] 0 []
  refine V.aload_n X dX5_workedMinutes_0 rfl ?_
  refine wC_gX5_385 X dX5_workedMinutes_1 ?_
  exact V.lret (v := rL S 42) X hE rfl (Nat.le_of_ble_eq_true rfl) (Nat.le_of_ble_eq_true rfl) ⟨rfl, rfl⟩ dX5_workedMinutes_4
