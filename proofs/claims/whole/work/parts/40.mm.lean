/-! ===== the reference: the rest of its faces ===== -/
def soM (S : St) (x : Int32) : UInt16 := if kSR2 S x = 0 then rC S 22 (ix x) else 0
def toM (S : St) (x : Int32) : Nat := if kSR2 S x = 0 then rN S 25 (ix x) else 0
def roM (S : St) (x : Int32) : Nat := if kS1 S x = 0 then rst S (ix x) else 0
theorem cin9_62 (T : St) (c : Option Nat) : rN (cin9 T c) 62 = rN T 62 := by
  cases c with
  | none => rfl
  | some t =>
    by_cases e : t < rN T 46 0 ∧ rC T 22 t = 111
    · rw [cin9_y e.1 e.2]; rfl
    · rw [show cin9 T (some t) = T from if_neg e]
theorem fail9_62 (B : St) (s : Nat) : rN (fail9 B s) 62 = rN B 62 := by
  unfold fail9
  split
  · rfl
  · exact cin9_62 (failB B s) _
theorem tmS_62 (B : St) : ∀ i, rN (tmS B i) 62 = rN B 62
  | 0 => rfl
  | i + 1 => by
    unfold tmS
    split
    · exact (fail9_62 _ _).trans (tmS_62 B i)
    · exact tmS_62 B i
theorem hov9_62 (B : St) : rN (hov9 B) 62 = rN B 62 := by
  unfold hov9
  split <;> rfl
theorem pm9_62 (S : St) : rN (pm9 S) 62 = rN S 62 := by
  have h : rN (pmB S) 62 = rN S 62 := tmS_62 (pmA S) _
  unfold pm9
  split
  · rw [hov9_62, h]
  · exact h
theorem pmXI_62 (S : St) : ∀ i, rN (pmXI S i) 62 = rN S 62
  | 0 => rfl
  | i + 1 => by
    show rN (pm9 (pmXI S i)) 62 = _
    rw [pm9_62, pmXI_62 S i]
theorem undS_62 (S : St) : ∀ i, rN (undS S i) 62 = rN S 62
  | 0 => rfl
  | i + 1 => undS_62 S i
theorem wM_62 (am : Nat → Nat) (cy : Nat → ClassId) {T : St} {f : Nat → Nat} (h : rN T 62 = f) : wM am cy T = wM am cy (sN T 62 f) := by subst h; rfl
theorem muS_bnd {S : St} (hB : Bnd S) {m : Nat} (he : rN S 50 0 + m ≤ 1536) : ∀ j, j ≤ m → Bnd (muS S j) ∧ rN (muS S j) 50 0 = rN S 50 0 + j
  | 0, _ => ⟨hB, rfl⟩
  | j + 1, hj => by
    obtain ⟨h1, h2⟩ := muS_bnd hB he j (by omega)
    exact ⟨mu1_bnd h1 (by omega), by show rN (muS S j) 50 0 + 1 = _; omega⟩
def sFX (S : St) (x : Int32) (b : Bool) : St := if b = true then sC (done9 S (wkOf S x)) 64 (up1 (rC S 64) (wkOf S x) 100) else xfl S (wkOf S x)
theorem Rm.s62 {S : St} (h : Rm S) (f : Nat → Nat) : Rm (sN S 62 f) := h
def rvA (S : St) (a : Nat) : Bool := all9 (fun k => decide (k ≤ a) || rB S 14 (rN S 28 k)) (rN S 45 0)
theorem rvA_s {S : St} {a : Nat} (ha : a + 1 < rN S 45 0) : (rvA S (a + 1) && rB S 14 (rN S 28 (a + 1))) = rvA S a := by
  unfold rvA
  cases e : all9 (fun k => decide (k ≤ a) || rB S 14 (rN S 28 k)) (rN S 45 0) with
  | true =>
    have h := all9_true e
    have h1 := h (a + 1) ha
    rw [all9_hit (fun j hj => by
      have h2 := h j hj
      by_cases e2 : j ≤ a
      · simp [show j ≤ a + 1 by omega]
      · simp [e2] at h2; simp [h2])]
    simp [show ¬ a + 1 ≤ a by omega] at h1
    simp [h1]
  | false =>
    obtain ⟨i, hi, h1⟩ := all9_false e
    by_cases e2 : i = a + 1
    · subst e2
      simp at h1
      simp [h1]
    · rw [all9_miss (i := i) hi (by simp at h1; simp [h1]; omega)]
      rfl
theorem rvA_0 (S : St) : rvA S (rN S 45 0 - 1) = true := all9_hit (fun j hj => by simp; omega)
theorem rvA_e {S : St} {a : Nat} (ha : a < rN S 45 0) : (rvA S a && rB S 14 (rN S 28 a)) = rev9 S a := by
  unfold rvA rev9
  cases e : all9 (fun k => decide (k < a) || rB S 14 (rN S 28 k)) (rN S 45 0) with
  | true =>
    have h := all9_true e
    have h1 := h a ha
    rw [all9_hit (fun j hj => by
      have h2 := h j hj
      by_cases e2 : j < a
      · simp [show j ≤ a by omega]
      · simp [e2] at h2; simp [h2])]
    simpa using h1
  | false =>
    obtain ⟨i, hi, h1⟩ := all9_false e
    by_cases e2 : i = a
    · subst e2
      simp at h1
      simp [h1]
    · rw [all9_miss (i := i) hi (by simp at h1; simp [h1]; omega)]
      rfl
set_option maxRecDepth 20000 in
set_option maxHeartbeats 4000000 in
theorem c_X6_start (l : Launch) (D : va_G) (cy : Nat → ClassId) (am : Nat → Nat) (S : St) (F : va_W) (hI : Inv S) : Ctr l D cy yX6_start (.code yX6_start cX6_start 2 (some FieldType.int)) ({ frames := 12, cells := 0, slots := 0, locals := 400 } : Room) [.ref (am 0)] (wM am cy S ++ F) (pMx (kST S) (nI (cntR (sST S))) (fun k9 => wM am cy (sN (bif Nat.beq k9 0 then (sC (sB (sST S) 61 (fun _ => true)) 64 (low9 (rst22 S) (rC S 64) (rN S 44 0))) else S) 62 (fun _ => k9)) ++ F)) pNo := by
  refine Ctr.of (by decide) (Nat.le_of_ble_eq_true rfl) ?_
  intro M X hE hN hB9 hI9
  replace X : VX l D M cy cX6_start "RunbookerModel" (some FieldType.int) ({ frames := 12, cells := 0, slots := 0, locals := 400 } : Room) := X
  show V l D M 0 0 (wM am cy S ++ F) [(0, .ref (am 0))] 0 []
  have hW := hI.w
  have hB := hW.b
  have h43 := hW.n43
  have h44 := hW.n44
  have h46 := hW.n46
  have h45 := hW.n45
  have hcl := hW.cl
  have hen := hW.en
  have hW0 : Wk (sN S 62 (fun _ => 0)) := hW.s62 (fun _ => by decide)
  have hcr : cntR S ≤ rN S 44 0 := cnt9_le _ _
  refine V.aload_n X dX6_start_0 rfl ?_
  refine V.iconst (v := nI 0) X dX6_start_1 rfl ?_
  refine wM_pX6_97 (v := 0) X dX6_start_2 ?_
  refine V.aload_n X dX6_start_5 rfl ?_
  refine wM_gX6_124 X dX6_start_6 ?_
  refine V.if_ne (tgt := 19) X dX6_start_9 (by decide) b2i_n0 b2i_0 (fun (hz9 : rB S 41 0 = true) => ?_) (fun (hz9 : rB S 41 0 = false) => ?_)
  · refine V.aload_n X dX6_start_19 rfl ?_
    refine V.iconst (v := nI 1) X dX6_start_20 rfl ?_
    refine V.callV1 [.int (nI 1)] X (c_X6_fails l D cy am (sN S 62 (fun _ => 0)) F 1) mv_X6_fails gw_6_132 ⟨⟨(Nat.le_of_ble_eq_true rfl), (Nat.le_of_ble_eq_true rfl)⟩, (Nat.le_of_ble_eq_true rfl), (Nat.le_of_ble_eq_true rfl)⟩ (q0 := 0) (ci := 8) rfl rfl rfl (Nat.le_of_ble_eq_true rfl) dX6_start_21 ?_
    exact V.iret (v := nI 0) X hE rfl rfl (Nat.le_of_ble_eq_true rfl) (Nat.le_of_ble_eq_true rfl) (pM9 (j := 1) (by simp [kST, hz9]) (fun h => absurd h (by decide)) rfl) dX6_start_24
  · refine V.aload_n X dX6_start_12 rfl ?_
    refine wM_gX6_107 X dX6_start_13 ?_
    refine V.if_ne (tgt := 25) X dX6_start_16 (by decide) cN_ne (cN_eq (hB.n 44 _) (by decide)) (fun (hz16 : ¬ rN S 44 0 = 0) => ?_) (fun (hz16 : rN S 44 0 = 0) => ?_)
    · refine V.iconst (v := nI 0) X dX6_start_25 rfl ?_
      refine V.istore_n (L' := [(1, .int (nI 0)), (0, .ref (am 0))]) X dX6_start_26 rfl hB9 (by decide) rfl ?_
      have loop27 : ∀ (d9 : Nat) (i : Nat), (rN S 44 0 - i) < d9 → (i ≤ rN S 44 0) → V l D M 0 0 (wM am cy (sB (sN (sC (sN S 62 (fun _ => 0)) 64 (low9 (rst22 S) (rC S 64) i)) 25 (low9 (fun _ => 0) (rN S 25) i)) 24 (low9 (fun _ => false) (rB S 24) i)) ++ F) [(1, .int (nI i)), (0, .ref (am 0))] 27 [] := by
        intro d9
        induction d9 with
        | zero => intro i h9; exact absurd h9 (Nat.not_lt_zero _)
        | succ d9 ih27 =>
          intro i hd9 hi
          refine V.iload_n X dX6_start_27 rfl ?_
          refine V.aload_n X dX6_start_28 rfl ?_
          refine wM_gX6_107 X dX6_start_29 ?_
          refine V.icmp_ge (tgt := 76) X dX6_start_32 (by decide) (cN_le (hB.n 44 _) (by omega)) (cN_nle (hB.n 44 _) (by omega)) (fun (hz32 : rN S 44 0 ≤ i) => ?_) (fun (hz32 : i < rN S 44 0) => ?_)
          · refine V.aload_n X dX6_start_76 rfl ?_
            refine V.iconst (v := nI 1) X dX6_start_77 rfl ?_
            refine wM_pX6_124 (v := true) X dX6_start_78 ?_
            refine V.aload_n X dX6_start_81 rfl ?_
            refine V.iconst (v := nI 1) X dX6_start_82 rfl ?_
            refine wM_pX6_165 (v := true) X dX6_start_83 ?_
            refine V.aload_n X dX6_start_86 rfl ?_
            refine V.aload_n X dX6_start_87 rfl ?_
            refine wM_gX6_107 X dX6_start_88 ?_
            refine wM_pX6_168 (v := rN S 44 0) X dX6_start_91 ?_
            refine V.aload_n X dX6_start_94 rfl ?_
            refine V.iconst (v := nI 0) X dX6_start_95 rfl ?_
            refine wM_pX6_171 (v := 0) X dX6_start_96 ?_
            refine V.aload_n X dX6_start_99 rfl ?_
            refine V.iconst (v := nI 0) X dX6_start_100 rfl ?_
            refine wM_pX6_144 (v := 0) X dX6_start_101 ?_
            have hT := (hI.st hz9 (by omega)).s62 (f := fun _ => 0) (fun _ => by decide)
            refine V.eqs (Wd' := wM am cy (sN (sC (sB (sST S) 61 (fun _ => true)) 64 (low9 (rst22 S) (rC S 64) (rN S 44 0))) 62 (fun _ => 0)) ++ F) (by rw [show i = rN S 44 0 by omega]; rfl) rfl ?_
            refine V.aload_n X dX6_start_104 rfl ?_
            refine V.callV1 [] X (c_X6_readyMany l D cy am (sN (sC (sB (sST S) 61 (fun _ => true)) 64 (low9 (rst22 S) (rC S 64) (rN S 44 0))) 62 (fun _ => 0)) F hT.w) mv_X6_readyMany gw_6_193 ⟨⟨(Nat.le_of_ble_eq_true rfl), (Nat.le_of_ble_eq_true rfl)⟩, (Nat.le_of_ble_eq_true rfl), (Nat.le_of_ble_eq_true rfl)⟩ (q0 := 0) (ci := 8) rfl rfl rfl (Nat.le_of_ble_eq_true rfl) dX6_start_105 ?_
            refine V.top (y := nI (cntR (sST S))) (congrArg nI hT.qcnt) ?_
            exact V.iret (v := nI (cntR (sST S))) X hE rfl rfl (Nat.le_of_ble_eq_true rfl) (Nat.le_of_ble_eq_true rfl) (pM9 (j := 0) (by simp [kST, hz9, hz16, hz32, (Nat.not_lt.mpr hz32)]) (fun h9 => (by first | rfl | simp [hz9, hz16, hz32, (Nat.not_lt.mpr hz32)])) rfl) dX6_start_108
          · refine V.aload_n X dX6_start_35 rfl ?_
            refine wM_gX6_60 X dX6_start_36 ?_
            refine V.iload_n X dX6_start_39 rfl ?_
            refine V.aload_n X dX6_start_40 rfl ?_
            refine V.iload_n X dX6_start_41 rfl ?_
            refine V.callV1 [.int (nI i)] X (c_X6_isFallback l D cy am (sB (sN (sC (sN S 62 (fun _ => 0)) 64 (low9 (rst22 S) (rC S 64) i)) 25 (low9 (fun _ => 0) (rN S 25) i)) 24 (low9 (fun _ => false) (rB S 24) i)) F i ((((hB.sN 62 (fun _ => by decide)).sC 64 _).sN 25 (low9_lt (fun _ => by decide) (hB.1 25))).sB 24 _) (show (rN S 44 0) ≤ 16 by omega) (show i < 16 by omega)) mv_X6_isFallback gw_6_178 ⟨⟨(Nat.le_of_ble_eq_true rfl), (Nat.le_of_ble_eq_true rfl)⟩, (Nat.le_of_ble_eq_true rfl), (Nat.le_of_ble_eq_true rfl)⟩ (q0 := 0) (ci := 8) rfl rfl rfl (Nat.le_of_ble_eq_true rfl) dX6_start_42 ?_
            refine V.if_eq (tgt := 53) X dX6_start_45 (by decide) b2i_0 b2i_n0 (fun (hz45 : (own9 S i).isSome = false) => ?_) (fun (hz45 : (own9 S i).isSome = true) => ?_)
            · refine V.bipush (v := nI 119) X dX6_start_53 (by decide) ?_
              refine wM_st17 (i := i) (v := 119) (g := (low9 (rst22 S) (rC S 64) i)) X (by omega) rfl dX6_start_55 ?_
              refine V.aload_n X dX6_start_56 rfl ?_
              refine wM_gX6_63 X dX6_start_57 ?_
              refine V.iload_n X dX6_start_60 rfl ?_
              refine V.iconst (v := nI 0) X dX6_start_61 rfl ?_
              refine wM_st18 (i := i) (v := 0) (g := (low9 (fun _ => 0) (rN S 25) i)) X (by omega) rfl dX6_start_62 ?_
              refine V.aload_n X dX6_start_63 rfl ?_
              refine wM_gX6_57 X dX6_start_64 ?_
              refine V.iload_n X dX6_start_67 rfl ?_
              refine V.iconst (v := nI 0) X dX6_start_68 rfl ?_
              refine wM_st16 (i := i) (v := false) (g := (low9 (fun _ => false) (rB S 24) i)) X (by omega) rfl dX6_start_69 ?_
              refine V.iinc (v := nI (i + 1)) (L' := [(1, .int (nI (i + 1))), (0, .ref (am 0))]) X dX6_start_70 rfl (nI_inc _) hB9 (by decide) rfl ?_
              refine V.goto (tgt := 27) X dX6_start_73 (by decide) ?_
              have ho : offF S i = false := hz45
              exact V.eqs (by rw [← low9_s (g := rst22 S) (f := rC S 64) (i := i) (v := 119) (by simp [rst22, ho]), ← low9_s (g := fun _ => 0) (f := rN S 25) (i := i) (v := 0) rfl, ← low9_s (g := fun _ => false) (f := rB S 24) (i := i) (v := false) rfl]; rfl) rfl (ih27 (i + 1) (by omega) (by omega))
            · refine V.bipush (v := nI 111) X dX6_start_48 (by decide) ?_
              refine V.goto (tgt := 55) X dX6_start_50 (by decide) ?_
              refine wM_st17 (i := i) (v := 111) (g := (low9 (rst22 S) (rC S 64) i)) X (by omega) rfl dX6_start_55 ?_
              refine V.aload_n X dX6_start_56 rfl ?_
              refine wM_gX6_63 X dX6_start_57 ?_
              refine V.iload_n X dX6_start_60 rfl ?_
              refine V.iconst (v := nI 0) X dX6_start_61 rfl ?_
              refine wM_st18 (i := i) (v := 0) (g := (low9 (fun _ => 0) (rN S 25) i)) X (by omega) rfl dX6_start_62 ?_
              refine V.aload_n X dX6_start_63 rfl ?_
              refine wM_gX6_57 X dX6_start_64 ?_
              refine V.iload_n X dX6_start_67 rfl ?_
              refine V.iconst (v := nI 0) X dX6_start_68 rfl ?_
              refine wM_st16 (i := i) (v := false) (g := (low9 (fun _ => false) (rB S 24) i)) X (by omega) rfl dX6_start_69 ?_
              refine V.iinc (v := nI (i + 1)) (L' := [(1, .int (nI (i + 1))), (0, .ref (am 0))]) X dX6_start_70 rfl (nI_inc _) hB9 (by decide) rfl ?_
              refine V.goto (tgt := 27) X dX6_start_73 (by decide) ?_
              have ho : offF S i = true := hz45
              exact V.eqs (by rw [← low9_s (g := rst22 S) (f := rC S 64) (i := i) (v := 111) (by simp [rst22, ho]), ← low9_s (g := fun _ => 0) (f := rN S 25) (i := i) (v := 0) rfl, ← low9_s (g := fun _ => false) (f := rB S 24) (i := i) (v := false) rfl]; rfl) rfl (ih27 (i + 1) (by omega) (by omega))
      exact V.eqs (by rw [low9_0, low9_0, low9_0]; rfl) rfl (loop27 _ 0 (Nat.lt_succ_self _) (Nat.zero_le _))
    · refine V.aload_n X dX6_start_19 rfl ?_
      refine V.iconst (v := nI 1) X dX6_start_20 rfl ?_
      refine V.callV1 [.int (nI 1)] X (c_X6_fails l D cy am (sN S 62 (fun _ => 0)) F 1) mv_X6_fails gw_6_132 ⟨⟨(Nat.le_of_ble_eq_true rfl), (Nat.le_of_ble_eq_true rfl)⟩, (Nat.le_of_ble_eq_true rfl), (Nat.le_of_ble_eq_true rfl)⟩ (q0 := 0) (ci := 8) rfl rfl rfl (Nat.le_of_ble_eq_true rfl) dX6_start_21 ?_
      exact V.iret (v := nI 0) X hE rfl rfl (Nat.le_of_ble_eq_true rfl) (Nat.le_of_ble_eq_true rfl) (pM9 (j := 1) (by simp [kST, hz9, hz16]) (fun h => absurd h (by decide)) rfl) dX6_start_24
set_option maxRecDepth 20000 in
set_option maxHeartbeats 4000000 in
theorem c_X6_finish (l : Launch) (D : va_G) (cy : Nat → ClassId) (am : Nat → Nat) (S : St) (F : va_W) (x : Int32) (b : Bool) (hI : Inv S) (hR : Rm S) : Ctr l D cy yX6_finish (.code yX6_finish cX6_finish 4 (some FieldType.char)) ({ frames := 12, cells := 0, slots := 0, locals := 400 } : Room) [.ref (am 0), .int x, .int (b2i b)] (wM am cy S ++ F) (pMx (kFN S x) (c2i (rC (sFN (sN S 62 (fun _ => 0)) x b) 22 (wkOf (sN S 62 (fun _ => 0)) x))) (fun k9 => wM am cy (sN (bif Nat.beq k9 0 then (sFX (sN S 62 (fun _ => 0)) x b) else S) 62 (fun _ => k9)) ++ F)) pNo := by
  refine Ctr.of (by decide) (Nat.le_of_ble_eq_true rfl) ?_
  intro M X hE hN hB9 hI9
  replace X : VX l D M cy cX6_finish "RunbookerModel" (some FieldType.char) ({ frames := 12, cells := 0, slots := 0, locals := 400 } : Room) := X
  show V l D M 0 0 (wM am cy S ++ F) [(0, .ref (am 0)), (1, .int x), (2, .int (b2i b))] 0 []
  have hW := hI.w
  have hB := hW.b
  have h43 := hW.n43
  have h44 := hW.n44
  have h46 := hW.n46
  have h45 := hW.n45
  have hcl := hW.cl
  have hen := hW.en
  have hW0 : Wk (sN S 62 (fun _ => 0)) := hW.s62 (fun _ => by decide)
  have hcr : cntR S ≤ rN S 44 0 := cnt9_le _ _
  have hI0 : Inv (sN S 62 (fun _ => 0)) := hI.s62 (fun _ => by decide)
  have he3 := Rm.en hR
  refine V.aload_n X dX6_finish_0 rfl ?_
  refine V.iconst (v := nI 0) X dX6_finish_1 rfl ?_
  refine wM_pX6_97 (v := 0) X dX6_finish_2 ?_
  refine V.aload_n X dX6_finish_5 rfl ?_
  refine V.iload_n X dX6_finish_6 rfl ?_
  refine V.callV1 [.int x] X (c_X6_isPerson l D cy am (sN S 62 (fun _ => 0)) F x (hW0.b)) mv_X6_isPerson gw_6_140 ⟨⟨(Nat.le_of_ble_eq_true rfl), (Nat.le_of_ble_eq_true rfl)⟩, (Nat.le_of_ble_eq_true rfl), (Nat.le_of_ble_eq_true rfl)⟩ (q0 := 0) (ci := 8) rfl rfl rfl (Nat.le_of_ble_eq_true rfl) dX6_finish_7 ?_
  refine V.if_ne (tgt := 20) X dX6_finish_10 (by decide) b2i_n0 b2i_0 (fun (hz10 : inR x (rN S 43 0) = true) => ?_) (fun (hz10 : inR x (rN S 43 0) = false) => ?_)
  · obtain ⟨p, hp, rfl⟩ := inR_of hz10 (by omega)
    have ep : ix (nI p) = p := ix_nI (by omega)
    refine V.aload_n X dX6_finish_20 rfl ?_
    refine V.iload_n X dX6_finish_21 rfl ?_
    refine V.callV1 [.int (o2i (some p))] X (c_X6_work l D cy am (sN S 62 (fun _ => 0)) F (some p) (hW0.b) (show (rN S 44 0) ≤ 16 by omega) (lt_some9 (by omega))) mv_X6_work gw_6_148 ⟨⟨(Nat.le_of_ble_eq_true rfl), (Nat.le_of_ble_eq_true rfl)⟩, (Nat.le_of_ble_eq_true rfl), (Nat.le_of_ble_eq_true rfl)⟩ (q0 := 0) (ci := 8) rfl rfl rfl (Nat.le_of_ble_eq_true rfl) dX6_finish_22 ?_
    refine V.top (congrArg o2i (hI.qwk (p := p) (by omega))) ?_
    refine V.istore_n (L' := [(3, .int (o2i (rO S 9 p))), (0, .ref (am 0)), (1, .int (nI p)), (2, .int (b2i b))]) X dX6_finish_25 rfl hB9 (by decide) rfl ?_
    refine V.iload_n X dX6_finish_26 rfl ?_
    refine V.iconst (v := o2i none) X dX6_finish_27 rfl ?_
    refine V.icmp_ne (tgt := 38) X dX6_finish_28 (by decide) (cO_ne (a := rO S 9 p) (b := none)) (cO_eq (a := rO S 9 p) (b := none) (hB.o 9 p) lt_none) (fun (hz28 : ¬ rO S 9 p = none) => ?_) (fun (hz28 : rO S 9 p = none) => ?_)
    · obtain ⟨s9, e9⟩ := Option.ne_none_iff_exists'.mp hz28
      obtain ⟨hs46, ha97, hwk⟩ := (hI.wa p s9 hp).mp e9
      have hdl := hI.dlt hs46 ha97
      have hap := actN_pos hs46 ha97
      have hx25 := hW.tr s9
      have hw9 : wkOf (sN S 62 (fun _ => 0)) (nI p) = s9 := by show (rO S 9 (ix (nI p))).getD 0 = s9; rw [ep, e9]; rfl
      rw [e9]
      refine V.aload_n X dX6_finish_38 rfl ?_
      refine wM_gX6_69 X dX6_finish_39 ?_
      refine V.iload_n X dX6_finish_42 rfl ?_
      refine wM_ld20 (i := s9) X (by omega) dX6_finish_43 ?_
      refine V.aload_n X dX6_finish_44 rfl ?_
      refine wM_gX6_19 X dX6_finish_45 ?_
      refine V.iload_n X dX6_finish_48 rfl ?_
      refine wM_ld4 (i := s9) X (by omega) dX6_finish_49 ?_
      refine V.icmp_lt (tgt := 61) X dX6_finish_50 (by decide) (cN_lt (hB.n 26 _) (hB.n 11 _)) (cN_nlt (hB.n 26 _) (hB.n 11 _)) (fun (hz50 : rN S 26 s9 < rN S 11 s9) => ?_) (fun (hz50 : rN S 11 s9 ≤ rN S 26 s9) => ?_)
      · refine V.aload_n X dX6_finish_61 rfl ?_
        refine V.iconst (v := nI 3) X dX6_finish_62 rfl ?_
        refine V.callV1 [.int (nI 3)] X (c_X6_fails l D cy am (sN S 62 (fun _ => 0)) F 3) mv_X6_fails gw_6_132 ⟨⟨(Nat.le_of_ble_eq_true rfl), (Nat.le_of_ble_eq_true rfl)⟩, (Nat.le_of_ble_eq_true rfl), (Nat.le_of_ble_eq_true rfl)⟩ (q0 := 0) (ci := 8) rfl rfl rfl (Nat.le_of_ble_eq_true rfl) dX6_finish_63 ?_
        refine V.i2c (v := nI 0) X dX6_finish_66 (by decide) ?_
        exact V.iret (v := c2i 0) X hE rfl (nar_c _) (Nat.le_of_ble_eq_true rfl) (Nat.le_of_ble_eq_true rfl) (pM9 (j := 3) (by simp [kFN, hz10, hp, ep, e9, hz50, (Nat.not_le.mpr hz50)]) (fun h => absurd h (by decide)) rfl) dX6_finish_67
      · refine V.iload_n X dX6_finish_53 rfl ?_
        refine V.aload_n X dX6_finish_54 rfl ?_
        refine wM_gX6_75 X dX6_finish_55 ?_
        refine V.icmp_ne (tgt := 68) X dX6_finish_58 (by decide) (cO_ne (a := some p) (b := rO S 47 0)) (cO_eq (a := some p) (b := rO S 47 0) (lt_some9 (by omega)) (hB.o 47 _)) (fun (hz58 : ¬ some p = rO S 47 0) => ?_) (fun (hz58 : some p = rO S 47 0) => ?_)
        · refine V.iload_n X dX6_finish_68 rfl ?_
          refine V.if_eq (tgt := 111) X dX6_finish_69 (by decide) b2i_0 b2i_n0 (fun (hz69 : b = false) => ?_) (fun (hz69 : b = true) => ?_)
          · refine V.aload_n X dX6_finish_111 rfl ?_
            refine V.iload_n X dX6_finish_112 rfl ?_
            refine V.callV0 [.int (nI s9)] X (c_X6_triesFail l D cy am (sN S 62 (fun _ => 0)) F s9 (hW0.b) (show s9 < 16 by omega) (show (rN S 50 0) + 2 ≤ 1536 by omega) (fun t e => by have := hW.fb s9 t (by omega) e; omega) (show (rN S 25 s9) + 1 < 1000000 by omega)) mv_X6_triesFail gw_7_5 ⟨⟨(Nat.le_of_ble_eq_true rfl), (Nat.le_of_ble_eq_true rfl)⟩, (Nat.le_of_ble_eq_true rfl), (Nat.le_of_ble_eq_true rfl)⟩ (q0 := 0) (ci := 8) rfl rfl rfl (Nat.le_of_ble_eq_true rfl) dX6_finish_113 ?_
            obtain ⟨hf1, hf2, -, -⟩ := hI0.fl (s := s9) hs46 ha97 hR.1
            refine V.aload_n X dX6_finish_116 rfl ?_
            refine wM_gX6_60 X dX6_finish_117 ?_
            refine V.iload_n X dX6_finish_120 rfl ?_
            refine wM_ld17 (i := s9) X (by omega) dX6_finish_121 ?_
            exact V.iret (v := c2i (rC (mfail (sN S 62 (fun _ => 0)) s9) 64 s9)) X hE rfl (nar_c _) (Nat.le_of_ble_eq_true rfl) (Nat.le_of_ble_eq_true rfl) (pM9 (j := 0) (by simp [kFN, hz10, hp, ep, e9, hz50, (Nat.not_lt.mpr hz50), (Ne.symm hz58), hz69]) (fun h9 => (congrArg c2i (by unfold sFN; rw [hw9, if_neg (by rw [hz69]; decide)]; exact hf1.eq s9 (by show s9 < rN (fail9 (sN S 62 (fun _ => 0)) s9) 46 0; rw [fail9_46]; exact hs46)))) (by show _ = wM am cy (sN (sFX (sN S 62 (fun _ => 0)) (nI p) b) 62 (fun _ => 0)) ++ F; unfold sFX; rw [hw9, if_neg (by rw [hz69]; decide), wM_cor hf2]; exact congrArg (· ++ F) (wM_62 am cy (T := xfl (sN S 62 (fun _ => 0)) s9) (fail9_62 _ _)))) dX6_finish_122
          · refine V.aload_n X dX6_finish_72 rfl ?_
            refine wM_gX6_60 X dX6_finish_73 ?_
            refine V.iload_n X dX6_finish_76 rfl ?_
            refine V.bipush (v := nI 100) X dX6_finish_77 (by decide) ?_
            refine wM_st17 (i := s9) (v := 100) (g := (rC S 64)) X (by omega) rfl dX6_finish_79 ?_
            refine V.aload_n X dX6_finish_80 rfl ?_
            refine wM_gX6_72 X dX6_finish_81 ?_
            refine V.aload_n X dX6_finish_84 rfl ?_
            refine wM_gX6_171 X dX6_finish_85 ?_
            refine V.iload_n X dX6_finish_88 rfl ?_
            refine wM_st21 (i := rN S 45 0) (v := s9) (g := (rN S 28)) X (by omega) rfl dX6_finish_89 ?_
            refine V.aload_n X dX6_finish_90 rfl ?_
            refine V.dup X dX6_finish_91 rfl ?_
            refine wM_gX6_171 X dX6_finish_92 ?_
            refine V.iconst (v := nI 1) X dX6_finish_95 rfl ?_
            refine V.iadd (v := nI (rN S 45 0 + 1)) X dX6_finish_96 (nI_add _ _) ?_
            refine wM_pX6_171 (v := rN S 45 0 + 1) X dX6_finish_97 ?_
            refine V.aload_n X dX6_finish_100 rfl ?_
            refine V.bipush (v := nI 100) X dX6_finish_101 (by decide) ?_
            refine V.iload_n X dX6_finish_103 rfl ?_
            refine V.iconst (v := o2i none) X dX6_finish_104 rfl ?_
            refine V.callV0 [.int (c2i 100), .int (o2i (some s9)), .int (o2i none)] X (c_X6_logs l D cy am (sN (sN (sC (sN S 62 (fun _ => 0)) 64 (up1 (rC S 64) s9 100)) 28 (up1 (rN S 28) (rN S 45 0) s9)) 45 (fun _ => rN S 45 0 + 1)) F 100 (some s9) none ((((hB.sN 62 (fun _ => show 0 < 1000000 by omega)).sC 64 _).sN 28 (up1_lt (hB.1 28) (show s9 < 1000000 by omega))).sN 45 (fun _ => show rN S 45 0 + 1 < 1000000 by omega)) (show (rN S 50 0) < 1536 by omega)) mv_X6_logs gw_6_237 ⟨⟨(Nat.le_of_ble_eq_true rfl), (Nat.le_of_ble_eq_true rfl)⟩, (Nat.le_of_ble_eq_true rfl), (Nat.le_of_ble_eq_true rfl)⟩ (q0 := 0) (ci := 8) rfl rfl rfl (Nat.le_of_ble_eq_true rfl) dX6_finish_105 ?_
            refine V.goto (tgt := 116) X dX6_finish_108 (by decide) ?_
            refine V.aload_n X dX6_finish_116 rfl ?_
            refine wM_gX6_60 X dX6_finish_117 ?_
            refine V.iload_n X dX6_finish_120 rfl ?_
            refine wM_ld17 (i := s9) X (by omega) dX6_finish_121 ?_
            refine V.top (congrArg c2i up1_same) ?_
            exact V.iret (v := c2i 100) X hE rfl (nar_c _) (Nat.le_of_ble_eq_true rfl) (Nat.le_of_ble_eq_true rfl) (pM9 (j := 0) (by simp [kFN, hz10, hp, ep, e9, hz50, (Nat.not_lt.mpr hz50), (Ne.symm hz58), hz69]) (fun h9 => (congrArg c2i (by unfold sFN; rw [if_pos hz69, hw9]; exact (show (100 : UInt16) = up1 (rC S 22) s9 100 s9 from up1_same.symm)))) (by show _ = wM am cy (sN (sFX (sN S 62 (fun _ => 0)) (nI p) b) 62 (fun _ => 0)) ++ F; unfold sFX; rw [hw9, if_pos hz69]; rfl)) dX6_finish_122
        · refine V.aload_n X dX6_finish_61 rfl ?_
          refine V.iconst (v := nI 3) X dX6_finish_62 rfl ?_
          refine V.callV1 [.int (nI 3)] X (c_X6_fails l D cy am (sN S 62 (fun _ => 0)) F 3) mv_X6_fails gw_6_132 ⟨⟨(Nat.le_of_ble_eq_true rfl), (Nat.le_of_ble_eq_true rfl)⟩, (Nat.le_of_ble_eq_true rfl), (Nat.le_of_ble_eq_true rfl)⟩ (q0 := 0) (ci := 8) rfl rfl rfl (Nat.le_of_ble_eq_true rfl) dX6_finish_63 ?_
          refine V.i2c (v := nI 0) X dX6_finish_66 (by decide) ?_
          exact V.iret (v := c2i 0) X hE rfl (nar_c _) (Nat.le_of_ble_eq_true rfl) (Nat.le_of_ble_eq_true rfl) (pM9 (j := 3) (by simp [kFN, hz10, hp, ep, e9, hz50, (Nat.not_lt.mpr hz50), (Eq.symm hz58)]) (fun h => absurd h (by decide)) rfl) dX6_finish_67
    · refine V.aload_n X dX6_finish_31 rfl ?_
      refine V.iconst (v := nI 2) X dX6_finish_32 rfl ?_
      refine V.callV1 [.int (nI 2)] X (c_X6_fails l D cy am (sN S 62 (fun _ => 0)) F 2) mv_X6_fails gw_6_132 ⟨⟨(Nat.le_of_ble_eq_true rfl), (Nat.le_of_ble_eq_true rfl)⟩, (Nat.le_of_ble_eq_true rfl), (Nat.le_of_ble_eq_true rfl)⟩ (q0 := 0) (ci := 8) rfl rfl rfl (Nat.le_of_ble_eq_true rfl) dX6_finish_33 ?_
      refine V.i2c (v := nI 0) X dX6_finish_36 (by decide) ?_
      exact V.iret (v := c2i 0) X hE rfl (nar_c _) (Nat.le_of_ble_eq_true rfl) (Nat.le_of_ble_eq_true rfl) (pM9 (j := 2) (by simp [kFN, hz10, hp, ep, hz28]) (fun h => absurd h (by decide)) rfl) dX6_finish_37
  · refine V.aload_n X dX6_finish_13 rfl ?_
    refine V.iconst (v := nI 1) X dX6_finish_14 rfl ?_
    refine V.callV1 [.int (nI 1)] X (c_X6_fails l D cy am (sN S 62 (fun _ => 0)) F 1) mv_X6_fails gw_6_132 ⟨⟨(Nat.le_of_ble_eq_true rfl), (Nat.le_of_ble_eq_true rfl)⟩, (Nat.le_of_ble_eq_true rfl), (Nat.le_of_ble_eq_true rfl)⟩ (q0 := 0) (ci := 8) rfl rfl rfl (Nat.le_of_ble_eq_true rfl) dX6_finish_15 ?_
    refine V.i2c (v := nI 0) X dX6_finish_18 (by decide) ?_
    exact V.iret (v := c2i 0) X hE rfl (nar_c _) (Nat.le_of_ble_eq_true rfl) (Nat.le_of_ble_eq_true rfl) (pM9 (j := 1) (by simp [kFN, hz10]) (fun h => absurd h (by decide)) rfl) dX6_finish_19
set_option maxRecDepth 20000 in
set_option maxHeartbeats 4000000 in
theorem c_X6_undo (l : Launch) (D : va_G) (cy : Nat → ClassId) (am : Nat → Nat) (S : St) (F : va_W) (x : Int32) (hI : Inv S) (hR : Rm S) : Ctr l D cy yX6_undo (.code yX6_undo cX6_undo 6 (some FieldType.int)) ({ frames := 12, cells := 0, slots := 0, locals := 400 } : Room) [.ref (am 0), .int x] (wM am cy S ++ F) (pMx (kUD S x) (nI (nUD S x)) (fun k9 => wM am cy (sN (bif Nat.beq k9 0 then (xUD (sN S 62 (fun _ => 0)) (nUD S x)) else S) 62 (fun _ => k9)) ++ F)) pNo := by
  refine Ctr.of (by decide) (Nat.le_of_ble_eq_true rfl) ?_
  intro M X hE hN hB9 hI9
  replace X : VX l D M cy cX6_undo "RunbookerModel" (some FieldType.int) ({ frames := 12, cells := 0, slots := 0, locals := 400 } : Room) := X
  show V l D M 0 0 (wM am cy S ++ F) [(0, .ref (am 0)), (1, .int x)] 0 []
  have hW := hI.w
  have hB := hW.b
  have h43 := hW.n43
  have h44 := hW.n44
  have h46 := hW.n46
  have h45 := hW.n45
  have hcl := hW.cl
  have hen := hW.en
  have hW0 : Wk (sN S 62 (fun _ => 0)) := hW.s62 (fun _ => by decide)
  have hcr : cntR S ≤ rN S 44 0 := cnt9_le _ _
  have hI0 : Inv (sN S 62 (fun _ => 0)) := hI.s62 (fun _ => by decide)
  have he3 := Rm.en hR
  refine V.aload_n X dX6_undo_0 rfl ?_
  refine V.iconst (v := nI 0) X dX6_undo_1 rfl ?_
  refine wM_pX6_97 (v := 0) X dX6_undo_2 ?_
  refine V.aload_n X dX6_undo_5 rfl ?_
  refine V.iload_n X dX6_undo_6 rfl ?_
  refine V.callV1 [.int x] X (c_X6_isStep l D cy am (sN S 62 (fun _ => 0)) F x (hW0.b)) mv_X6_isStep gw_6_160 ⟨⟨(Nat.le_of_ble_eq_true rfl), (Nat.le_of_ble_eq_true rfl)⟩, (Nat.le_of_ble_eq_true rfl), (Nat.le_of_ble_eq_true rfl)⟩ (q0 := 0) (ci := 8) rfl rfl rfl (Nat.le_of_ble_eq_true rfl) dX6_undo_7 ?_
  refine V.if_ne (tgt := 19) X dX6_undo_10 (by decide) b2i_n0 b2i_0 (fun (hz10 : inR x (rN S 44 0) = true) => ?_) (fun (hz10 : inR x (rN S 44 0) = false) => ?_)
  · obtain ⟨p, hp, rfl⟩ := inR_of hz10 (by omega)
    have ep : ix (nI p) = p := ix_nI (by omega)
    refine V.aload_n X dX6_undo_19 rfl ?_
    refine wM_gX6_124 X dX6_undo_20 ?_
    refine V.if_eq (tgt := 46) X dX6_undo_23 (by decide) b2i_0 b2i_n0 (fun (hz23 : rB S 41 0 = false) => ?_) (fun (hz23 : rB S 41 0 = true) => ?_)
    · refine V.aload_n X dX6_undo_46 rfl ?_
      refine V.iconst (v := nI 2) X dX6_undo_47 rfl ?_
      refine V.callV1 [.int (nI 2)] X (c_X6_fails l D cy am (sN S 62 (fun _ => 0)) F 2) mv_X6_fails gw_6_132 ⟨⟨(Nat.le_of_ble_eq_true rfl), (Nat.le_of_ble_eq_true rfl)⟩, (Nat.le_of_ble_eq_true rfl), (Nat.le_of_ble_eq_true rfl)⟩ (q0 := 0) (ci := 8) rfl rfl rfl (Nat.le_of_ble_eq_true rfl) dX6_undo_48 ?_
      exact V.iret (v := nI 0) X hE rfl rfl (Nat.le_of_ble_eq_true rfl) (Nat.le_of_ble_eq_true rfl) (pM9 (j := 2) (by simp [kUD, ins9, anyA_act, hz10, hp, ep, hz23]) (fun h => absurd h (by decide)) rfl) dX6_undo_51
    · have h4644 := (hI.run hz23).1
      have hcm : rC S 64 p = rC S 22 p := hI.eq p (by omega)
      refine V.aload_n X dX6_undo_26 rfl ?_
      refine V.bipush (v := nI 97) X dX6_undo_27 (by decide) ?_
      refine V.callV1 [.int (c2i 97)] X (c_X6_many l D cy am (sN S 62 (fun _ => 0)) F 97 (hW0.b) (show (rN S 44 0) ≤ 16 by omega)) mv_X6_many gw_6_221 ⟨⟨(Nat.le_of_ble_eq_true rfl), (Nat.le_of_ble_eq_true rfl)⟩, (Nat.le_of_ble_eq_true rfl), (Nat.le_of_ble_eq_true rfl)⟩ (q0 := 0) (ci := 8) rfl rfl rfl (Nat.le_of_ble_eq_true rfl) dX6_undo_29 ?_
      refine V.top (congrArg nI (hI.many hz23)) ?_
      refine V.if_gt (tgt := 46) X dX6_undo_32 (by decide) (cN_lt (by decide) (by have := cnt9_le (fun s => decide (rC S 22 s = 97)) (rN S 46 0); unfold actN; omega)) (cN_nlt (by decide) (by have := cnt9_le (fun s => decide (rC S 22 s = 97)) (rN S 46 0); unfold actN; omega)) (fun (hz32 : 0 < actN S) => ?_) (fun (hz32 : actN S ≤ 0) => ?_)
      · refine V.aload_n X dX6_undo_46 rfl ?_
        refine V.iconst (v := nI 2) X dX6_undo_47 rfl ?_
        refine V.callV1 [.int (nI 2)] X (c_X6_fails l D cy am (sN S 62 (fun _ => 0)) F 2) mv_X6_fails gw_6_132 ⟨⟨(Nat.le_of_ble_eq_true rfl), (Nat.le_of_ble_eq_true rfl)⟩, (Nat.le_of_ble_eq_true rfl), (Nat.le_of_ble_eq_true rfl)⟩ (q0 := 0) (ci := 8) rfl rfl rfl (Nat.le_of_ble_eq_true rfl) dX6_undo_48 ?_
        exact V.iret (v := nI 0) X hE rfl rfl (Nat.le_of_ble_eq_true rfl) (Nat.le_of_ble_eq_true rfl) (pM9 (j := 2) (by simp [kUD, ins9, anyA_act, hz10, hp, ep, hz23, hz32, (Nat.not_le.mpr hz32)]) (fun h => absurd h (by decide)) rfl) dX6_undo_51
      · refine V.aload_n X dX6_undo_35 rfl ?_
        refine wM_gX6_60 X dX6_undo_36 ?_
        refine V.iload_n X dX6_undo_39 rfl ?_
        refine wM_ld17 (i := p) X (by omega) dX6_undo_40 ?_
        refine V.top (congrArg c2i hcm) ?_
        refine V.bipush (v := nI 100) X dX6_undo_41 (by decide) ?_
        refine V.icmp_eq (tgt := 52) X dX6_undo_43 (by decide) (cC_eq (a := rC S 22 p) (b := 100)) (cC_ne (a := rC S 22 p) (b := 100)) (fun (hz43 : rC S 22 p = 100) => ?_) (fun (hz43 : ¬ rC S 22 p = 100) => ?_)
        · have hana : anyA S = false := by rw [anyA_act]; simp; omega
          have hpl := plc9_lt (hI.ds p (by omega) hz43)
          have hud := und_ok hI0 hana hR.1
          refine V.aload_n X dX6_undo_52 rfl ?_
          refine wM_gX6_171 X dX6_undo_53 ?_
          refine V.iconst (v := nI 1) X dX6_undo_56 rfl ?_
          refine V.isub (v := nI ((rN S 45 0) - 1)) X dX6_undo_57 (pk_sub (show 1 ≤ rN S 45 0 by omega)) ?_
          refine V.istore_n (L' := [(2, .int (nI ((rN S 45 0) - 1))), (0, .ref (am 0)), (1, .int (nI p))]) X dX6_undo_58 rfl hB9 (by decide) rfl ?_
          refine V.iconst (v := nI 1) X dX6_undo_59 rfl ?_
          refine V.istore_n (L' := [(3, .int (nI 1)), (2, .int (nI ((rN S 45 0) - 1))), (0, .ref (am 0)), (1, .int (nI p))]) X dX6_undo_60 rfl hB9 (by decide) rfl ?_
          have loop61 : ∀ (d9 : Nat) (a : Nat), a < d9 → (plc9 S p ≤ a) → (a < rN S 45 0) → V l D M 0 0 (wM am cy (sN S 62 (fun _ => 0)) ++ F) [(3, .int (b2i (rvA S a))), (2, .int (nI a)), (0, .ref (am 0)), (1, .int (nI p))] 61 [] := by
            intro d9
            induction d9 with
            | zero => intro a h9; exact absurd h9 (Nat.not_lt_zero _)
            | succ d9 ih61 =>
              intro a hd9 ha1 ha2
              refine V.aload_n X dX6_undo_61 rfl ?_
              refine wM_gX6_72 X dX6_undo_62 ?_
              refine V.iload_n X dX6_undo_65 rfl ?_
              refine wM_ld21 (i := a) X (by omega) dX6_undo_66 ?_
              refine V.iload_n X dX6_undo_67 rfl ?_
              refine V.icmp_eq (tgt := 91) X dX6_undo_68 (by decide) (cN_eq (hB.n 28 _) (by omega)) cN_ne (fun (hz68 : rN S 28 a = p) => ?_) (fun (hz68 : ¬ rN S 28 a = p) => ?_)
              · have hpa : a = plc9 S p := by
                  rcases Nat.lt_trichotomy a (plc9 S p) with e | e | e
                  · omega
                  · exact e
                  · exact absurd (hz68.trans hpl.2.symm).symm (hI.di _ _ e (by omega))
                have hre := rvA_e (S := S) (a := a) (by omega)
                rw [hz68] at hre
                refine V.iload_n X dX6_undo_91 rfl ?_
                refine V.if_eq (tgt := 104) X dX6_undo_92 (by decide) b2i_0 b2i_n0 (fun (hz92 : rvA S a = false) => ?_) (fun (hz92 : rvA S a = true) => ?_)
                · have hrev : rev9 S (plc9 S p) = false := by rw [← hpa, ← hre]; simp [hz92]
                  refine V.aload_n X dX6_undo_104 rfl ?_
                  refine V.iconst (v := nI 3) X dX6_undo_105 rfl ?_
                  refine V.callV1 [.int (nI 3)] X (c_X6_fails l D cy am (sN S 62 (fun _ => 0)) F 3) mv_X6_fails gw_6_132 ⟨⟨(Nat.le_of_ble_eq_true rfl), (Nat.le_of_ble_eq_true rfl)⟩, (Nat.le_of_ble_eq_true rfl), (Nat.le_of_ble_eq_true rfl)⟩ (q0 := 0) (ci := 8) rfl rfl rfl (Nat.le_of_ble_eq_true rfl) dX6_undo_106 ?_
                  exact V.iret (v := nI 0) X hE rfl rfl (Nat.le_of_ble_eq_true rfl) (Nat.le_of_ble_eq_true rfl) (pM9 (j := 3) (by simp [kUD, ins9, anyA_act, hz10, hp, ep, hz23, hz32, (Nat.not_lt.mpr hz32), hz43, hz92, hrev]) (fun h => absurd h (by decide)) rfl) dX6_undo_109
                · refine V.aload_n X dX6_undo_95 rfl ?_
                  refine wM_gX6_54 X dX6_undo_96 ?_
                  refine V.iload_n X dX6_undo_99 rfl ?_
                  refine wM_ld15 (i := p) X (by omega) dX6_undo_100 ?_
                  refine V.if_ne (tgt := 110) X dX6_undo_101 (by decide) b2i_n0 b2i_0 (fun (hz101 : rB S 14 p = true) => ?_) (fun (hz101 : rB S 14 p = false) => ?_)
                  · have hrev : rev9 S (plc9 S p) = true := by rw [← hpa, ← hre]; simp [hz92, hz101]
                    refine V.aload_n X dX6_undo_110 rfl ?_
                    refine wM_gX6_171 X dX6_undo_111 ?_
                    refine V.iload_n X dX6_undo_114 rfl ?_
                    refine V.isub (v := nI ((rN S 45 0) - a)) X dX6_undo_115 (pk_sub (show a ≤ rN S 45 0 by omega)) ?_
                    refine V.istore (L' := [(4, .int (nI ((rN S 45 0) - a))), (3, .int (b2i (rvA S a))), (2, .int (nI a)), (0, .ref (am 0)), (1, .int (nI p))]) X dX6_undo_116 hB9 (by decide) rfl ?_
                    have loop118 : ∀ (d9 : Nat) (j : Nat), (rN S 45 0 - j) < d9 → (j ≤ rN S 45 0 - a) → V l D M 0 0 (wM am cy (muS (sN S 62 (fun _ => 0)) j) ++ F) [(4, .int (nI ((rN S 45 0) - a))), (3, .int (b2i (rvA S a))), (2, .int (nI a)), (0, .ref (am 0)), (1, .int (nI p))] 118 [] := by
                      intro d9
                      induction d9 with
                      | zero => intro j h9; exact absurd h9 (Nat.not_lt_zero _)
                      | succ d9 ih118 =>
                        intro j hd9 hj
                        obtain ⟨hu1, hu2, -, hu4, hu5, hu6, hu7, -, -⟩ := hud j (by show j ≤ rN S 45 0; omega)
                        have hu4 : rN (undS (sN S 62 (fun _ => 0)) j) 45 0 = rN S 45 0 - j := hu4
                        have hu5 : rN (undS (sN S 62 (fun _ => 0)) j) 50 0 = rN S 50 0 + j := hu5
                        have hn2 := hu2.n
                        obtain ⟨hbm, -⟩ := muS_bnd (S := sN S 62 (fun _ => 0)) (m := rN S 45 0) hW0.b (by show rN S 50 0 + rN S 45 0 ≤ 1536; omega) j (by omega)
                        have hm45 : rN (muS (sN S 62 (fun _ => 0)) j) 45 0 = rN S 45 0 - j := by rw [hn2]; exact hu4
                        have hm50 : rN (muS (sN S 62 (fun _ => 0)) j) 50 0 = rN S 50 0 + j := by rw [hn2]; exact hu5
                        refine V.aload_n X dX6_undo_118 rfl ?_
                        refine wM_gX6_171 X dX6_undo_119 ?_
                        refine V.iload_n X dX6_undo_122 rfl ?_
                        refine V.icmp_le (tgt := 176) X dX6_undo_123 (by decide) (cN_le (hbm.n 45 _) (by omega)) (cN_nle (hbm.n 45 _) (by omega)) (fun (hz123 : rN (muS (sN S 62 (fun _ => 0)) j) 45 0 ≤ a) => ?_) (fun (hz123 : a < rN (muS (sN S 62 (fun _ => 0)) j) 45 0) => ?_)
                        · refine V.iload X dX6_undo_176 rfl ?_
                          exact V.iret (v := nI ((rN S 45 0) - a)) X hE rfl rfl (Nat.le_of_ble_eq_true rfl) (Nat.le_of_ble_eq_true rfl) (pM9 (j := 0) (by simp [kUD, ins9, anyA_act, hz10, hp, ep, hz23, hz32, (Nat.not_lt.mpr hz32), hz43, hz92, hz101, hrev, hz123, (Nat.not_lt.mpr hz123)]) (fun h9 => (by unfold nUD; rw [ep, hpa])) (by rw [wM_cor hu2, show nUD S (nI p) = j by unfold nUD; rw [ep, ← hpa]; omega]; exact congrArg (· ++ F) (wM_62 am cy (T := xUD (sN S 62 (fun _ => 0)) j) (undS_62 _ _)))) dX6_undo_178
                        · have hu6b : rN (undS (sN S 62 (fun _ => 0)) j) 46 0 = rN S 46 0 := hu6
                          have hdl9 : rN (muS (sN S 62 (fun _ => 0)) j) 28 (rN (muS (sN S 62 (fun _ => 0)) j) 45 0 - 1) < 16 := by have h7 := hu1.w.dn (rN (undS (sN S 62 (fun _ => 0)) j) 45 0 - 1) (by omega); rw [hn2]; omega
                          refine V.aload_n X dX6_undo_126 rfl ?_
                          refine V.dup X dX6_undo_127 rfl ?_
                          refine wM_gX6_171 X dX6_undo_128 ?_
                          refine V.iconst (v := nI 1) X dX6_undo_131 rfl ?_
                          refine V.isub (v := nI ((rN (muS (sN S 62 (fun _ => 0)) j) 45 0) - 1)) X dX6_undo_132 (pk_sub (show 1 ≤ rN (muS (sN S 62 (fun _ => 0)) j) 45 0 by omega)) ?_
                          refine wM_pX6_171 (v := (rN (muS (sN S 62 (fun _ => 0)) j) 45 0) - 1) X dX6_undo_133 ?_
                          refine V.aload_n X dX6_undo_136 rfl ?_
                          refine wM_gX6_72 X dX6_undo_137 ?_
                          refine V.aload_n X dX6_undo_140 rfl ?_
                          refine wM_gX6_171 X dX6_undo_141 ?_
                          refine wM_ld21 (i := (rN (muS (sN S 62 (fun _ => 0)) j) 45 0) - 1) X (by omega) dX6_undo_144 ?_
                          refine V.istore (L' := [(5, .int (nI (rN (muS (sN S 62 (fun _ => 0)) j) 28 ((rN (muS (sN S 62 (fun _ => 0)) j) 45 0) - 1)))), (4, .int (nI ((rN S 45 0) - a))), (3, .int (b2i (rvA S a))), (2, .int (nI a)), (0, .ref (am 0)), (1, .int (nI p))]) X dX6_undo_145 hB9 (by decide) rfl ?_
                          refine V.aload_n X dX6_undo_147 rfl ?_
                          refine wM_gX6_60 X dX6_undo_148 ?_
                          refine V.iload X dX6_undo_151 rfl ?_
                          refine V.bipush (v := nI 119) X dX6_undo_153 (by decide) ?_
                          refine wM_st17 (i := rN (muS (sN S 62 (fun _ => 0)) j) 28 ((rN (muS (sN S 62 (fun _ => 0)) j) 45 0) - 1)) (v := 119) (g := (rC (muS (sN S 62 (fun _ => 0)) j) 64)) X (by omega) rfl dX6_undo_155 ?_
                          refine V.aload_n X dX6_undo_156 rfl ?_
                          refine wM_gX6_63 X dX6_undo_157 ?_
                          refine V.iload X dX6_undo_160 rfl ?_
                          refine V.iconst (v := nI 0) X dX6_undo_162 rfl ?_
                          refine wM_st18 (i := rN (muS (sN S 62 (fun _ => 0)) j) 28 ((rN (muS (sN S 62 (fun _ => 0)) j) 45 0) - 1)) (v := 0) (g := (rN (muS (sN S 62 (fun _ => 0)) j) 25)) X (by omega) rfl dX6_undo_163 ?_
                          refine V.aload_n X dX6_undo_164 rfl ?_
                          refine V.bipush (v := nI 117) X dX6_undo_165 (by decide) ?_
                          refine V.iload X dX6_undo_167 rfl ?_
                          refine V.iconst (v := o2i none) X dX6_undo_169 rfl ?_
                          refine V.callV0 [.int (c2i 117), .int (o2i (some (rN (muS (sN S 62 (fun _ => 0)) j) 28 ((rN (muS (sN S 62 (fun _ => 0)) j) 45 0) - 1)))), .int (o2i none)] X (c_X6_logs l D cy am (sN (sC (sN (muS (sN S 62 (fun _ => 0)) j) 45 (fun _ => (rN (muS (sN S 62 (fun _ => 0)) j) 45 0) - 1)) 64 (up1 (rC (muS (sN S 62 (fun _ => 0)) j) 64) (rN (muS (sN S 62 (fun _ => 0)) j) 28 ((rN (muS (sN S 62 (fun _ => 0)) j) 45 0) - 1)) 119)) 25 (up1 (rN (muS (sN S 62 (fun _ => 0)) j) 25) (rN (muS (sN S 62 (fun _ => 0)) j) 28 ((rN (muS (sN S 62 (fun _ => 0)) j) 45 0) - 1)) 0)) F 117 (some (rN (muS (sN S 62 (fun _ => 0)) j) 28 ((rN (muS (sN S 62 (fun _ => 0)) j) 45 0) - 1))) none (((hbm.sN 45 (fun _ => show (rN (muS (sN S 62 (fun _ => 0)) j) 45 0) - 1 < 1000000 by omega)).sC 64 _).sN 25 (up1_lt (hbm.1 25) (show 0 < 1000000 by omega))) (show (rN (muS (sN S 62 (fun _ => 0)) j) 50 0) < 1536 by omega)) mv_X6_logs gw_6_237 ⟨⟨(Nat.le_of_ble_eq_true rfl), (Nat.le_of_ble_eq_true rfl)⟩, (Nat.le_of_ble_eq_true rfl), (Nat.le_of_ble_eq_true rfl)⟩ (q0 := 0) (ci := 8) rfl rfl rfl (Nat.le_of_ble_eq_true rfl) dX6_undo_170 ?_
                          refine V.goto (tgt := 118) X dX6_undo_173 (by decide) ?_
                          refine V.pick [1, 2, 3, 4, 5] rfl ?_
                          exact V.eqs rfl rfl (ih118 (j + 1) (by omega) (by omega))
                    exact V.eqs rfl rfl (loop118 _ 0 (Nat.lt_succ_self _) (Nat.zero_le _))
                  · have hrev : rev9 S (plc9 S p) = false := by rw [← hpa, ← hre]; simp [hz92, hz101]
                    refine V.aload_n X dX6_undo_104 rfl ?_
                    refine V.iconst (v := nI 3) X dX6_undo_105 rfl ?_
                    refine V.callV1 [.int (nI 3)] X (c_X6_fails l D cy am (sN S 62 (fun _ => 0)) F 3) mv_X6_fails gw_6_132 ⟨⟨(Nat.le_of_ble_eq_true rfl), (Nat.le_of_ble_eq_true rfl)⟩, (Nat.le_of_ble_eq_true rfl), (Nat.le_of_ble_eq_true rfl)⟩ (q0 := 0) (ci := 8) rfl rfl rfl (Nat.le_of_ble_eq_true rfl) dX6_undo_106 ?_
                    exact V.iret (v := nI 0) X hE rfl rfl (Nat.le_of_ble_eq_true rfl) (Nat.le_of_ble_eq_true rfl) (pM9 (j := 3) (by simp [kUD, ins9, anyA_act, hz10, hp, ep, hz23, hz32, (Nat.not_lt.mpr hz32), hz43, hz92, hz101, hrev]) (fun h => absurd h (by decide)) rfl) dX6_undo_109
              · have hne : a ≠ plc9 S p := fun e => hz68 (by rw [e]; exact hpl.2)
                obtain ⟨c, rfl⟩ : ∃ c, a = c + 1 := ⟨a - 1, by omega⟩
                have hdc := hW.dn (c + 1) (by omega)
                refine V.iload_n X dX6_undo_71 rfl ?_
                refine V.aload_n X dX6_undo_72 rfl ?_
                refine wM_gX6_54 X dX6_undo_73 ?_
                refine V.aload_n X dX6_undo_76 rfl ?_
                refine wM_gX6_72 X dX6_undo_77 ?_
                refine V.iload_n X dX6_undo_80 rfl ?_
                refine wM_ld21 (i := c + 1) X (by omega) dX6_undo_81 ?_
                refine wM_ld15 (i := rN S 28 (c + 1)) X (by omega) dX6_undo_82 ?_
                refine V.iand (v := b2i (rvA S (c + 1) && rB S 14 (rN S 28 (c + 1)))) X dX6_undo_83 (b2i_and _ _) ?_
                refine V.istore_n (L' := [(3, .int (b2i (rvA S (c + 1) && rB S 14 (rN S 28 (c + 1))))), (2, .int (nI (c + 1))), (0, .ref (am 0)), (1, .int (nI p))]) X dX6_undo_84 rfl hB9 (by decide) rfl ?_
                refine V.iinc (v := nI c) (L' := [(2, .int (nI c)), (3, .int (b2i (rvA S (c + 1) && rB S 14 (rN S 28 (c + 1))))), (0, .ref (am 0)), (1, .int (nI p))]) X dX6_undo_85 rfl (nI_dec (show 0 < c + 1 by omega)) hB9 (by decide) rfl ?_
                refine V.goto (tgt := 61) X dX6_undo_88 (by decide) ?_
                refine V.pick [1, 0, 2, 3] rfl ?_
                exact V.eqs rfl (by rw [rvA_s ha2]; rfl) (ih61 c (by omega) (by omega) (by omega))
          exact V.eqs rfl (by rw [rvA_0]; rfl) (loop61 _ (rN S 45 0 - 1) (Nat.lt_succ_self _) (by omega) (by omega))
        · refine V.aload_n X dX6_undo_46 rfl ?_
          refine V.iconst (v := nI 2) X dX6_undo_47 rfl ?_
          refine V.callV1 [.int (nI 2)] X (c_X6_fails l D cy am (sN S 62 (fun _ => 0)) F 2) mv_X6_fails gw_6_132 ⟨⟨(Nat.le_of_ble_eq_true rfl), (Nat.le_of_ble_eq_true rfl)⟩, (Nat.le_of_ble_eq_true rfl), (Nat.le_of_ble_eq_true rfl)⟩ (q0 := 0) (ci := 8) rfl rfl rfl (Nat.le_of_ble_eq_true rfl) dX6_undo_48 ?_
          exact V.iret (v := nI 0) X hE rfl rfl (Nat.le_of_ble_eq_true rfl) (Nat.le_of_ble_eq_true rfl) (pM9 (j := 2) (by simp [kUD, ins9, anyA_act, hz10, hp, ep, hz23, hz32, (Nat.not_lt.mpr hz32), hz43]) (fun h => absurd h (by decide)) rfl) dX6_undo_51
  · refine V.aload_n X dX6_undo_13 rfl ?_
    refine V.iconst (v := nI 1) X dX6_undo_14 rfl ?_
    refine V.callV1 [.int (nI 1)] X (c_X6_fails l D cy am (sN S 62 (fun _ => 0)) F 1) mv_X6_fails gw_6_132 ⟨⟨(Nat.le_of_ble_eq_true rfl), (Nat.le_of_ble_eq_true rfl)⟩, (Nat.le_of_ble_eq_true rfl), (Nat.le_of_ble_eq_true rfl)⟩ (q0 := 0) (ci := 8) rfl rfl rfl (Nat.le_of_ble_eq_true rfl) dX6_undo_15 ?_
    exact V.iret (v := nI 0) X hE rfl rfl (Nat.le_of_ble_eq_true rfl) (Nat.le_of_ble_eq_true rfl) (pM9 (j := 1) (by simp [kUD, ins9, anyA_act, hz10]) (fun h => absurd h (by decide)) rfl) dX6_undo_18
