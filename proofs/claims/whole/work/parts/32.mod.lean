/-! ===== the reference: what changes ===== -/
theorem mcin_y {S : St} {t : Nat} (h : rC S 64 t = 111) : mcin S (some t) = lgw (sC S 64 (up1 (rC S 64) t 119)) 101 (some t) none (rN S 40 0) := if_pos h
theorem mcin_n {S : St} {t : Nat} (h : ¬ rC S 64 t = 111) : mcin S (some t) = S := if_neg h
def mho9 (S : St) : St := match rO S 47 0, rO S 48 0 with
  | some p, some q => mhov S p q
  | _, _ => S
theorem mho9_s {S : St} {p q : Nat} (h1 : rO S 47 0 = some p) (h2 : rO S 48 0 = some q) : mho9 S = mhov S p q := by unfold mho9; rw [h1, h2]
def actM (S : St) (s : Nat) : Bool := decide (rC S 64 s = 97) && !decide (rO S 60 s = rO S 47 0)
def wrkM (S : St) (s : Nat) : Nat := if actM S s then rN S 26 s + 1 else rN S 26 s
def mmI (S : St) (i : Nat) : St := sL (sN (sN S 40 (fun _ => rN S 40 0 + 1)) 26 (low9 (wrkM S) (rN S 26) i)) 42 (rL S 42 + (nI (cnt9 (actM S) i)).toInt64)
def mmA (S : St) : St := mmI S (rN S 44 0)
def isToM (T : St) (i : Nat) : Bool := decide (rC T 64 i = 97) && decide (rN T 26 i = 2 * rN T 11 i)
def mtS (S : St) : Nat → St
  | 0 => S
  | i + 1 => if isToM (mtS S i) i = true then mfail (mtS S i) i else mtS S i
def mtN (S : St) : Nat → Nat
  | 0 => 0
  | i + 1 => if isToM (mtS S i) i = true then mtN S i + 1 else mtN S i
theorem mtN_le (S : St) : ∀ i, mtN S i ≤ i
  | 0 => Nat.le_refl _
  | i + 1 => by
    have := mtN_le S i
    unfold mtN
    split <;> omega
def mmB (S : St) : St := mtS (mmA S) (rN S 44 0)
def mm9 (S : St) : St := if pmE S = true then mho9 (mmB S) else mmB S
def mmN (S : St) : Nat := mtN (mmA S) (rN S 44 0)
theorem mcin_kp (S : St) (c : Option Nat) : Kp S (mcin S c) := by
  cases c with
  | none => exact Kp.refl S
  | some t =>
    by_cases e : rC S 64 t = 111
    · rw [mcin_y e]; exact ⟨rfl, rfl, rfl, rfl, rfl, rfl, rfl, rfl, rfl, rfl, rfl, rfl, rfl, rfl, rfl, rfl, rfl, rfl, rfl, rfl, rfl, rfl, rfl⟩
    · rw [mcin_n e]; exact Kp.refl S
theorem mfail_kp (S : St) (s : Nat) : Kp S (mfail S s) := by
  unfold mfail
  split
  · exact ⟨rfl, rfl, rfl, rfl, rfl, rfl, rfl, rfl, rfl, rfl, rfl, rfl, rfl, rfl, rfl, rfl, rfl, rfl, rfl, rfl, rfl, rfl, rfl⟩
  · exact Kp.trans (T := mfB S s) ⟨rfl, rfl, rfl, rfl, rfl, rfl, rfl, rfl, rfl, rfl, rfl, rfl, rfl, rfl, rfl, rfl, rfl, rfl, rfl, rfl, rfl, rfl, rfl⟩ (mcin_kp _ _)
theorem mcin_x (S : St) (c : Option Nat) : rO (mcin S c) 60 = rO S 60 ∧ rO (mcin S c) 9 = rO S 9 ∧ rC (mcin S c) 22 = rC S 22 := by
  cases c with
  | none => exact ⟨rfl, rfl, rfl⟩
  | some t =>
    by_cases e : rC S 64 t = 111
    · rw [mcin_y e]; exact ⟨rfl, rfl, rfl⟩
    · rw [mcin_n e]; exact ⟨rfl, rfl, rfl⟩
theorem mfail_x (S : St) (s : Nat) : rO (mfail S s) 60 = rO S 60 ∧ rO (mfail S s) 9 = rO S 9 ∧ rC (mfail S s) 22 = rC S 22 := by
  unfold mfail
  split
  · exact ⟨rfl, rfl, rfl⟩
  · exact mcin_x (mfB S s) _
theorem mtS_kp (S : St) : ∀ i, Kp S (mtS S i)
  | 0 => Kp.refl S
  | i + 1 => by
    unfold mtS
    split
    · exact (mtS_kp S i).trans (mfail_kp _ _)
    · exact mtS_kp S i
theorem mtS_x (S : St) : ∀ i, rO (mtS S i) 60 = rO S 60 ∧ rO (mtS S i) 9 = rO S 9 ∧ rC (mtS S i) 22 = rC S 22
  | 0 => ⟨rfl, rfl, rfl⟩
  | i + 1 => by
    obtain ⟨h1, h2, h3⟩ := mtS_x S i
    unfold mtS
    split
    · obtain ⟨g1, g2, g3⟩ := mfail_x (mtS S i) i
      exact ⟨g1.trans h1, g2.trans h2, g3.trans h3⟩
    · exact ⟨h1, h2, h3⟩
theorem i64_s : ∀ c : Fin 17, (nI c.val).toInt64 + 1 = (nI (c.val + 1)).toInt64 := by decide +kernel
theorem mm_42 {x : Int64} {c : Nat} (h : c < 17) : x + (nI c).toInt64 + 1 = x + (nI (c + 1)).toInt64 := by
  rw [Int64.add_assoc, i64_s ⟨c, h⟩]
def kUK (S : St) (x : Int32) : Nat := if ins9 S x = false then 1 else if rB S 61 0 = false ∨ nI (rN S 46 0) ≤ x then 2 else 0
theorem mmB_47 (S : St) : rO (mmB S) 47 = rO S 47 := (mtS_kp (mmA S) _).o47
theorem mmB_48 (S : St) : rO (mmB S) 48 = rO S 48 := (mtS_kp (mmA S) _).o48
theorem mmB_49 (S : St) : rN (mmB S) 49 = rN S 49 := (mtS_kp (mmA S) _).n49
theorem mmB_44 (S : St) : rN (mmB S) 44 = rN S 44 := (mtS_kp (mmA S) _).n44
theorem mmB_40 (S : St) : rN (mmB S) 40 0 = rN S 40 0 + 1 := congrFun (mtS_kp (mmA S) _).n40 0
/-- what the minute of the reference needs of its middle states -/
def mmOK (S : St) : Prop := (∀ i, i ≤ rN S 44 0 → Bnd (mtS (mmA S) i) ∧ (i < rN S 44 0 → isToM (mtS (mmA S) i) i = true → rN (mtS (mmA S) i) 50 0 + 2 ≤ 1536 ∧ rN (mtS (mmA S) i) 25 i ≤ 3)) ∧ rN (mmB S) 50 0 < 1536
set_option maxRecDepth 20000 in
set_option maxHeartbeats 4000000 in
theorem c_X6_triesFail (l : Launch) (D : va_G) (cy : Nat → ClassId) (am : Nat → Nat) (S : St) (F : va_W) (s : Nat) (hB : Bnd S) (hs : s < 16) (he : rN S 50 0 + 2 ≤ 1536) (hfb : ∀ t, rO S 16 s = some t → t < 16) (hx9 : rN S 25 s + 1 < 1000000) : Ctr l D cy yX6_triesFail (.code yX6_triesFail cX6_triesFail 3 none) ({ frames := 1, cells := 0, slots := 0, locals := 60 } : Room) [.ref (am 0), .int (nI s)] (wM am cy S ++ F) (pU (wM am cy (mfail S s) ++ F)) pNo := by
  refine Ctr.of (by decide) (Nat.le_of_ble_eq_true rfl) ?_
  intro M X hE hN hB9 hI9
  replace X : VX l D M cy cX6_triesFail "RunbookerModel" none ({ frames := 1, cells := 0, slots := 0, locals := 60 } : Room) := X
  show V l D M 0 0 (wM am cy S ++ F) [(0, .ref (am 0)), (1, .int (nI s))] 0 []
  have htr := hB.1 25 s
  have hlm := hB.1 12 s
  have hcl := hB.1 40 0
  refine V.aload_n X dX6_triesFail_0 rfl ?_
  refine wM_gX6_63 X dX6_triesFail_1 ?_
  refine V.iload_n X dX6_triesFail_4 rfl ?_
  refine V.dup2 X dX6_triesFail_5 rfl rfl ?_
  refine wM_ld18 (i := s) X (by omega) dX6_triesFail_6 ?_
  refine V.iconst (v := nI 1) X dX6_triesFail_7 rfl ?_
  refine V.iadd (v := nI (rN S 25 s + 1)) X dX6_triesFail_8 (nI_add _ _) ?_
  refine wM_st18 (i := s) (v := rN S 25 s + 1) (g := (rN S 25)) X (by omega) rfl dX6_triesFail_9 ?_
  refine V.aload_n X dX6_triesFail_10 rfl ?_
  refine wM_gX6_60 X dX6_triesFail_11 ?_
  refine V.iload_n X dX6_triesFail_14 rfl ?_
  refine V.aload_n X dX6_triesFail_15 rfl ?_
  refine wM_gX6_63 X dX6_triesFail_16 ?_
  refine V.iload_n X dX6_triesFail_19 rfl ?_
  refine wM_ld18 (i := s) X (by omega) dX6_triesFail_20 ?_
  refine V.top (congrArg nI up1_same) ?_
  refine V.aload_n X dX6_triesFail_21 rfl ?_
  refine wM_gX6_22 X dX6_triesFail_22 ?_
  refine V.iload_n X dX6_triesFail_25 rfl ?_
  refine wM_ld5 (i := s) X (by omega) dX6_triesFail_26 ?_
  refine V.icmp_ge (tgt := 35) X dX6_triesFail_27 (by decide) (cN_le (hB.n 12 _) (by omega)) (cN_nle (hB.n 12 _) (by omega)) (fun (hz27 : rN S 12 s ≤ rN S 25 s + 1) => ?_) (fun (hz27 : rN S 25 s + 1 < rN S 12 s) => ?_)
  · refine V.bipush (v := nI 102) X dX6_triesFail_35 (by decide) ?_
    refine wM_st17 (i := s) (v := 102) (g := (rC S 64)) X (by omega) rfl dX6_triesFail_37 ?_
    refine V.aload_n X dX6_triesFail_38 rfl ?_
    refine V.aload_n X dX6_triesFail_39 rfl ?_
    refine wM_gX6_60 X dX6_triesFail_40 ?_
    refine V.iload_n X dX6_triesFail_43 rfl ?_
    refine wM_ld17 (i := s) X (by omega) dX6_triesFail_44 ?_
    refine V.top (congrArg c2i up1_same) ?_
    refine V.bipush (v := nI 119) X dX6_triesFail_45 (by decide) ?_
    refine V.icmp_ne (tgt := 55) X dX6_triesFail_47 (by decide) (cC_ne (a := 102) (b := 119)) (cC_eq (a := 102) (b := 119)) (fun (hz47 : ¬ 102 = 119) => ?_) (fun (hz47 : 102 = 119) => ?_)
    · refine V.bipush (v := nI 102) X dX6_triesFail_55 (by decide) ?_
      refine V.iload_n X dX6_triesFail_57 rfl ?_
      refine V.iconst (v := o2i none) X dX6_triesFail_58 rfl ?_
      refine V.callV0 [.int (c2i 102), .int (o2i (some s)), .int (o2i none)] X (c_X6_logs l D cy am (sC (sN S 25 (up1 (rN S 25) s (rN S 25 s + 1))) 64 (up1 (rC S 64) s 102)) F 102 (some s) none ((hB.sN 25 (up1_lt (hB.1 25) hx9)).sC 64 _) (show (rN S 50 0) < 1536 by omega)) mv_X6_logs gw_6_237 ⟨⟨(Nat.le_of_ble_eq_true rfl), (Nat.le_of_ble_eq_true rfl)⟩, (Nat.le_of_ble_eq_true rfl), (Nat.le_of_ble_eq_true rfl)⟩ (q0 := 0) (ci := 8) rfl rfl rfl (Nat.le_of_ble_eq_true rfl) dX6_triesFail_59 ?_
      refine V.aload_n X dX6_triesFail_62 rfl ?_
      refine wM_gX6_28 X dX6_triesFail_63 ?_
      refine V.iload_n X dX6_triesFail_66 rfl ?_
      refine wM_ld7 (i := s) X (by omega) dX6_triesFail_67 ?_
      refine V.istore_n (L' := [(2, .int (o2i (rO S 16 s))), (0, .ref (am 0)), (1, .int (nI s))]) X dX6_triesFail_68 rfl hB9 (by decide) rfl ?_
      refine V.aload_n X dX6_triesFail_69 rfl ?_
      refine wM_gX6_60 X dX6_triesFail_70 ?_
      refine V.iload_n X dX6_triesFail_73 rfl ?_
      refine wM_ld17 (i := s) X (by omega) dX6_triesFail_74 ?_
      refine V.top (congrArg c2i up1_same) ?_
      refine V.bipush (v := nI 119) X dX6_triesFail_75 (by decide) ?_
      refine V.icmp_eq (tgt := 96) X dX6_triesFail_77 (by decide) (cC_eq (a := 102) (b := 119)) (cC_ne (a := 102) (b := 119)) (fun (hz77 : 102 = 119) => ?_) (fun (hz77 : ¬ 102 = 119) => ?_)
      · exact absurd hz77 (by decide)
      · refine V.iload_n X dX6_triesFail_80 rfl ?_
        refine V.iconst (v := o2i none) X dX6_triesFail_81 rfl ?_
        refine V.icmp_eq (tgt := 96) X dX6_triesFail_82 (by decide) (cO_eq (a := rO S 16 s) (b := none) (hB.o 16 _) lt_none) (cO_ne (a := rO S 16 s) (b := none)) (fun (hz82 : rO S 16 s = none) => ?_) (fun (hz82 : ¬ rO S 16 s = none) => ?_)
        · exact V.vret X hE rfl (Nat.le_of_ble_eq_true rfl) (Nat.le_of_ble_eq_true rfl) (pU9 (by unfold mfail; rw [if_neg (show ¬ rN S 25 s + 1 < rN S 12 s by omega), hz82]; rfl)) dX6_triesFail_96
        · obtain ⟨t, e9⟩ := Option.ne_none_iff_exists'.mp hz82
          have ht := hfb t e9
          rw [e9]
          refine V.aload_n X dX6_triesFail_85 rfl ?_
          refine wM_gX6_60 X dX6_triesFail_86 ?_
          refine V.iload_n X dX6_triesFail_89 rfl ?_
          refine wM_ld17 (i := t) X (by omega) dX6_triesFail_90 ?_
          refine V.bipush (v := nI 111) X dX6_triesFail_91 (by decide) ?_
          refine V.icmp_eq (tgt := 97) X dX6_triesFail_93 (by decide) (cC_eq (a := (up1 (rC S 64) s 102) t) (b := 111)) (cC_ne (a := (up1 (rC S 64) s 102) t) (b := 111)) (fun (hz93 : (up1 (rC S 64) s 102) t = 111) => ?_) (fun (hz93 : ¬ (up1 (rC S 64) s 102) t = 111) => ?_)
          · refine V.aload_n X dX6_triesFail_97 rfl ?_
            refine wM_gX6_60 X dX6_triesFail_98 ?_
            refine V.iload_n X dX6_triesFail_101 rfl ?_
            refine V.bipush (v := nI 119) X dX6_triesFail_102 (by decide) ?_
            refine wM_st17 (i := t) (v := 119) (g := (up1 (rC S 64) s 102)) X (by omega) rfl dX6_triesFail_104 ?_
            refine V.aload_n X dX6_triesFail_105 rfl ?_
            refine V.bipush (v := nI 101) X dX6_triesFail_106 (by decide) ?_
            refine V.iload_n X dX6_triesFail_108 rfl ?_
            refine V.iconst (v := o2i none) X dX6_triesFail_109 rfl ?_
            refine V.callV0 [.int (c2i 101), .int (o2i (some t)), .int (o2i none)] X (c_X6_logs l D cy am (sC (lgw (sC (sN S 25 (up1 (rN S 25) s (rN S 25 s + 1))) 64 (up1 (rC S 64) s 102)) 102 (some s) none (rN S 40 0)) 64 (up1 (up1 (rC S 64) s 102) t 119)) F 101 (some t) none (lgw_bnd (((hB.sN 25 (up1_lt (hB.1 25) hx9)).sC 64 _)) (show rN S 50 0 < 1536 by omega) (fun k e => by cases e; omega) (fun k e => by cases e) hcl) (show (rN S 50 0 + 1) < 1536 by omega)) mv_X6_logs gw_6_237 ⟨⟨(Nat.le_of_ble_eq_true rfl), (Nat.le_of_ble_eq_true rfl)⟩, (Nat.le_of_ble_eq_true rfl), (Nat.le_of_ble_eq_true rfl)⟩ (q0 := 0) (ci := 8) rfl rfl rfl (Nat.le_of_ble_eq_true rfl) dX6_triesFail_110 ?_
            exact V.vret X hE rfl (Nat.le_of_ble_eq_true rfl) (Nat.le_of_ble_eq_true rfl) (pU9 (by unfold mfail; rw [if_neg (show ¬ rN S 25 s + 1 < rN S 12 s by omega), e9, mcin_y (S := mfB S s) hz93]; rfl)) dX6_triesFail_113
          · exact V.vret X hE rfl (Nat.le_of_ble_eq_true rfl) (Nat.le_of_ble_eq_true rfl) (pU9 (by unfold mfail; rw [if_neg (show ¬ rN S 25 s + 1 < rN S 12 s by omega), e9, mcin_n (S := mfB S s) hz93]; rfl)) dX6_triesFail_96
    · exact absurd hz47 (by decide)
  · refine V.bipush (v := nI 119) X dX6_triesFail_30 (by decide) ?_
    refine V.goto (tgt := 37) X dX6_triesFail_32 (by decide) ?_
    refine wM_st17 (i := s) (v := 119) (g := (rC S 64)) X (by omega) rfl dX6_triesFail_37 ?_
    refine V.aload_n X dX6_triesFail_38 rfl ?_
    refine V.aload_n X dX6_triesFail_39 rfl ?_
    refine wM_gX6_60 X dX6_triesFail_40 ?_
    refine V.iload_n X dX6_triesFail_43 rfl ?_
    refine wM_ld17 (i := s) X (by omega) dX6_triesFail_44 ?_
    refine V.top (congrArg c2i up1_same) ?_
    refine V.bipush (v := nI 119) X dX6_triesFail_45 (by decide) ?_
    refine V.icmp_ne (tgt := 55) X dX6_triesFail_47 (by decide) (cC_ne (a := 119) (b := 119)) (cC_eq (a := 119) (b := 119)) (fun (hz47 : ¬ 119 = 119) => ?_) (fun (hz47 : 119 = 119) => ?_)
    · exact absurd hz47 (by decide)
    · refine V.bipush (v := nI 109) X dX6_triesFail_50 (by decide) ?_
      refine V.goto (tgt := 57) X dX6_triesFail_52 (by decide) ?_
      refine V.iload_n X dX6_triesFail_57 rfl ?_
      refine V.iconst (v := o2i none) X dX6_triesFail_58 rfl ?_
      refine V.callV0 [.int (c2i 109), .int (o2i (some s)), .int (o2i none)] X (c_X6_logs l D cy am (sC (sN S 25 (up1 (rN S 25) s (rN S 25 s + 1))) 64 (up1 (rC S 64) s 119)) F 109 (some s) none ((hB.sN 25 (up1_lt (hB.1 25) hx9)).sC 64 _) (show (rN S 50 0) < 1536 by omega)) mv_X6_logs gw_6_237 ⟨⟨(Nat.le_of_ble_eq_true rfl), (Nat.le_of_ble_eq_true rfl)⟩, (Nat.le_of_ble_eq_true rfl), (Nat.le_of_ble_eq_true rfl)⟩ (q0 := 0) (ci := 8) rfl rfl rfl (Nat.le_of_ble_eq_true rfl) dX6_triesFail_59 ?_
      refine V.aload_n X dX6_triesFail_62 rfl ?_
      refine wM_gX6_28 X dX6_triesFail_63 ?_
      refine V.iload_n X dX6_triesFail_66 rfl ?_
      refine wM_ld7 (i := s) X (by omega) dX6_triesFail_67 ?_
      refine V.istore_n (L' := [(2, .int (o2i (rO S 16 s))), (0, .ref (am 0)), (1, .int (nI s))]) X dX6_triesFail_68 rfl hB9 (by decide) rfl ?_
      refine V.aload_n X dX6_triesFail_69 rfl ?_
      refine wM_gX6_60 X dX6_triesFail_70 ?_
      refine V.iload_n X dX6_triesFail_73 rfl ?_
      refine wM_ld17 (i := s) X (by omega) dX6_triesFail_74 ?_
      refine V.top (congrArg c2i up1_same) ?_
      refine V.bipush (v := nI 119) X dX6_triesFail_75 (by decide) ?_
      refine V.icmp_eq (tgt := 96) X dX6_triesFail_77 (by decide) (cC_eq (a := 119) (b := 119)) (cC_ne (a := 119) (b := 119)) (fun (hz77 : 119 = 119) => ?_) (fun (hz77 : ¬ 119 = 119) => ?_)
      · exact V.vret X hE rfl (Nat.le_of_ble_eq_true rfl) (Nat.le_of_ble_eq_true rfl) (pU9 (by unfold mfail; rw [if_pos hz27]; rfl)) dX6_triesFail_96
      · exact absurd hz77 (by decide)
set_option maxRecDepth 20000 in
set_option maxHeartbeats 4000000 in
theorem c_X6_handsOver (l : Launch) (D : va_G) (cy : Nat → ClassId) (am : Nat → Nat) (S : St) (F : va_W) (p : Nat) (q : Nat) (hB : Bnd S) (h44 : rN S 44 0 ≤ 16) (h47 : rO S 47 0 = some p) (h48 : rO S 48 0 = some q) (hp : p < 8) (hq : q < 8) (he : rN S 50 0 < 1536) : Ctr l D cy yX6_handsOver (.code yX6_handsOver cX6_handsOver 2 none) ({ frames := 1, cells := 0, slots := 0, locals := 60 } : Room) [.ref (am 0)] (wM am cy S ++ F) (pU (wM am cy (mhov S p q) ++ F)) pNo := by
  refine Ctr.of (by decide) (Nat.le_of_ble_eq_true rfl) ?_
  intro M X hE hN hB9 hI9
  replace X : VX l D M cy cX6_handsOver "RunbookerModel" none ({ frames := 1, cells := 0, slots := 0, locals := 60 } : Room) := X
  show V l D M 0 0 (wM am cy S ++ F) [(0, .ref (am 0))] 0 []
  have hcl := hB.1 40 0
  refine V.aload_n X dX6_handsOver_0 rfl ?_
  refine V.aload_n X dX6_handsOver_1 rfl ?_
  refine wM_gX6_75 X dX6_handsOver_2 ?_
  refine V.top (congrArg o2i h47) ?_
  refine V.callV1 [.int (o2i (some p))] X (c_X6_work l D cy am S F (some p) hB (show (rN S 44 0) ≤ 16 by omega) (lt_some9 (by omega))) mv_X6_work gw_6_148 ⟨⟨(Nat.le_of_ble_eq_true rfl), (Nat.le_of_ble_eq_true rfl)⟩, (Nat.le_of_ble_eq_true rfl), (Nat.le_of_ble_eq_true rfl)⟩ (q0 := 0) (ci := 8) rfl rfl rfl (Nat.le_of_ble_eq_true rfl) dX6_handsOver_5 ?_
  refine V.istore_n (L' := [(1, .int (o2i (wkM S (some p)))), (0, .ref (am 0))]) X dX6_handsOver_8 rfl hB9 (by decide) rfl ?_
  refine V.aload_n X dX6_handsOver_9 rfl ?_
  refine wM_gX6_50 X dX6_handsOver_10 ?_
  refine V.aload_n X dX6_handsOver_13 rfl ?_
  refine wM_gX6_75 X dX6_handsOver_14 ?_
  refine V.top (congrArg o2i h47) ?_
  refine V.iconst (v := nI 0) X dX6_handsOver_17 rfl ?_
  refine wM_st14 (i := p) (v := false) (g := (rB S 8)) X (by omega) rfl dX6_handsOver_18 ?_
  refine V.aload_n X dX6_handsOver_19 rfl ?_
  refine wM_gX6_50 X dX6_handsOver_20 ?_
  refine V.aload_n X dX6_handsOver_23 rfl ?_
  refine wM_gX6_79 X dX6_handsOver_24 ?_
  refine V.top (congrArg o2i h48) ?_
  refine V.iconst (v := nI 1) X dX6_handsOver_27 rfl ?_
  refine wM_st14 (i := q) (v := true) (g := (up1 (rB S 8) p false)) X (by omega) rfl dX6_handsOver_28 ?_
  refine V.iload_n X dX6_handsOver_29 rfl ?_
  refine V.iconst (v := o2i none) X dX6_handsOver_30 rfl ?_
  refine V.icmp_eq (tgt := 44) X dX6_handsOver_31 (by decide) (cO_eq (a := wkM S (some p)) (b := none) (fun k e => Nat.lt_of_lt_of_le (Nat.lt_of_lt_of_le (wkM_lt e).1 h44) (by decide)) lt_none) (cO_ne (a := wkM S (some p)) (b := none)) (fun (hz31 : wkM S (some p) = none) => ?_) (fun (hz31 : ¬ wkM S (some p) = none) => ?_)
  · refine V.aload_n X dX6_handsOver_44 rfl ?_
    refine V.bipush (v := nI 103) X dX6_handsOver_45 (by decide) ?_
    refine V.iload_n X dX6_handsOver_47 rfl ?_
    refine V.aload_n X dX6_handsOver_48 rfl ?_
    refine wM_gX6_79 X dX6_handsOver_49 ?_
    refine V.top (congrArg o2i h48) ?_
    refine V.callV0 [.int (c2i 103), .int (o2i (wkM S (some p))), .int (o2i (some q))] X (c_X6_logs l D cy am (sB (sB S 8 (up1 (rB S 8) p false)) 8 (up1 (up1 (rB S 8) p false) q true)) F 103 (wkM S (some p)) (some q) ((hB.sB 8 _).sB 8 _) (show (rN S 50 0) < 1536 by omega)) mv_X6_logs gw_6_237 ⟨⟨(Nat.le_of_ble_eq_true rfl), (Nat.le_of_ble_eq_true rfl)⟩, (Nat.le_of_ble_eq_true rfl), (Nat.le_of_ble_eq_true rfl)⟩ (q0 := 0) (ci := 8) rfl rfl rfl (Nat.le_of_ble_eq_true rfl) dX6_handsOver_52 ?_
    refine V.aload_n X dX6_handsOver_55 rfl ?_
    refine V.iconst (v := o2i none) X dX6_handsOver_56 rfl ?_
    refine wM_pX6_75 (v := none) X dX6_handsOver_57 ?_
    refine V.aload_n X dX6_handsOver_60 rfl ?_
    refine V.iconst (v := o2i none) X dX6_handsOver_61 rfl ?_
    refine wM_pX6_79 (v := none) X dX6_handsOver_62 ?_
    exact V.vret X hE rfl (Nat.le_of_ble_eq_true rfl) (Nat.le_of_ble_eq_true rfl) (pU9 (by unfold mhov; rw [hz31]; rfl)) dX6_handsOver_65
  · obtain ⟨t, e9⟩ := Option.ne_none_iff_exists'.mp hz31
    have ht := (wkM_lt e9).1
    rw [e9]
    refine V.aload_n X dX6_handsOver_34 rfl ?_
    refine wM_gX6_66 X dX6_handsOver_35 ?_
    refine V.iload_n X dX6_handsOver_38 rfl ?_
    refine V.aload_n X dX6_handsOver_39 rfl ?_
    refine wM_gX6_79 X dX6_handsOver_40 ?_
    refine V.top (congrArg o2i h48) ?_
    refine wM_st19 (i := t) (v := some q) (g := (rO S 60)) X (by omega) rfl dX6_handsOver_43 ?_
    refine V.aload_n X dX6_handsOver_44 rfl ?_
    refine V.bipush (v := nI 103) X dX6_handsOver_45 (by decide) ?_
    refine V.iload_n X dX6_handsOver_47 rfl ?_
    refine V.aload_n X dX6_handsOver_48 rfl ?_
    refine wM_gX6_79 X dX6_handsOver_49 ?_
    refine V.top (congrArg o2i h48) ?_
    refine V.callV0 [.int (c2i 103), .int (o2i (some t)), .int (o2i (some q))] X (c_X6_logs l D cy am (sO (sB (sB S 8 (up1 (rB S 8) p false)) 8 (up1 (up1 (rB S 8) p false) q true)) 60 (up1 (rO S 60) t (some q))) F 103 (some t) (some q) (((hB.sB 8 _).sB 8 _).sO 60 (up1_o (hB.2 60) (fun _ e9 => by cases e9; omega))) (show (rN S 50 0) < 1536 by omega)) mv_X6_logs gw_6_237 ⟨⟨(Nat.le_of_ble_eq_true rfl), (Nat.le_of_ble_eq_true rfl)⟩, (Nat.le_of_ble_eq_true rfl), (Nat.le_of_ble_eq_true rfl)⟩ (q0 := 0) (ci := 8) rfl rfl rfl (Nat.le_of_ble_eq_true rfl) dX6_handsOver_52 ?_
    refine V.aload_n X dX6_handsOver_55 rfl ?_
    refine V.iconst (v := o2i none) X dX6_handsOver_56 rfl ?_
    refine wM_pX6_75 (v := none) X dX6_handsOver_57 ?_
    refine V.aload_n X dX6_handsOver_60 rfl ?_
    refine V.iconst (v := o2i none) X dX6_handsOver_61 rfl ?_
    refine wM_pX6_79 (v := none) X dX6_handsOver_62 ?_
    exact V.vret X hE rfl (Nat.le_of_ble_eq_true rfl) (Nat.le_of_ble_eq_true rfl) (pU9 (by unfold mhov; rw [e9]; rfl)) dX6_handsOver_65
set_option maxRecDepth 20000 in
set_option maxHeartbeats 4000000 in
theorem c_X6_minute (l : Launch) (D : va_G) (cy : Nat → ClassId) (am : Nat → Nat) (S : St) (F : va_W) (hW : Wk S) (hc : rN S 40 0 + 1 ≤ 122880) (hm : mmOK S) (hh : ∀ p, rO S 47 0 = some p → ∃ q, rO S 48 0 = some q) : Ctr l D cy yX6_minute (.code yX6_minute cX6_minute 3 (some FieldType.int)) ({ frames := 2, cells := 0, slots := 0, locals := 100 } : Room) [.ref (am 0)] (wM am cy S ++ F) (pI (nI (mmN S)) (wM am cy (mm9 S) ++ F)) pNo := by
  refine Ctr.of (by decide) (Nat.le_of_ble_eq_true rfl) ?_
  intro M X hE hN hB9 hI9
  replace X : VX l D M cy cX6_minute "RunbookerModel" (some FieldType.int) ({ frames := 2, cells := 0, slots := 0, locals := 100 } : Room) := X
  show V l D M 0 0 (wM am cy S ++ F) [(0, .ref (am 0))] 0 []
  have hB := hW.b
  have h43 := hW.n43
  have h44 := hW.n44
  have h46 := hW.n46
  have h45 := hW.n45
  have hcl := hW.cl
  have hen := hW.en
  have hBB : Bnd (mmB S) := (hm.1 (rN S 44 0) (Nat.le_refl _)).1
  refine V.aload_n X dX6_minute_0 rfl ?_
  refine V.dup X dX6_minute_1 rfl ?_
  refine wM_gX6_147 X dX6_minute_2 ?_
  refine V.iconst (v := nI 1) X dX6_minute_5 rfl ?_
  refine V.iadd (v := nI (rN S 40 0 + 1)) X dX6_minute_6 (nI_add _ _) ?_
  refine wM_pX6_147 (v := rN S 40 0 + 1) X dX6_minute_7 ?_
  refine V.iconst (v := nI 0) X dX6_minute_10 rfl ?_
  refine V.istore_n (L' := [(1, .int (nI 0)), (0, .ref (am 0))]) X dX6_minute_11 rfl hB9 (by decide) rfl ?_
  refine V.iconst (v := nI 0) X dX6_minute_12 rfl ?_
  refine V.istore_n (L' := [(2, .int (nI 0)), (1, .int (nI 0)), (0, .ref (am 0))]) X dX6_minute_13 rfl hB9 (by decide) rfl ?_
  have loop14 : ∀ (d9 : Nat) (i : Nat), (rN S 44 0 - i) < d9 → (i ≤ rN S 44 0) → V l D M 0 0 (wM am cy (sL (sN (sN S 40 (fun _ => rN S 40 0 + 1)) 26 (low9 (wrkM S) (rN S 26) i)) 42 (rL S 42 + (nI (cnt9 (actM S) i)).toInt64)) ++ F) [(2, .int (nI i)), (1, .int (nI 0)), (0, .ref (am 0))] 14 [] := by
    intro d9
    induction d9 with
    | zero => intro i h9; exact absurd h9 (Nat.not_lt_zero _)
    | succ d9 ih14 =>
      intro i hd9 hi
      refine V.iload_n X dX6_minute_14 rfl ?_
      refine V.aload_n X dX6_minute_15 rfl ?_
      refine wM_gX6_107 X dX6_minute_16 ?_
      refine V.icmp_ge (tgt := 75) X dX6_minute_19 (by decide) (cN_le (hB.n 44 _) (by omega)) (cN_nle (hB.n 44 _) (by omega)) (fun (hz19 : rN S 44 0 ≤ i) => ?_) (fun (hz19 : i < rN S 44 0) => ?_)
      · refine V.iconst (v := nI 0) X dX6_minute_75 rfl ?_
        refine V.istore_n (L' := [(2, .int (nI 0)), (1, .int (nI 0)), (0, .ref (am 0))]) X dX6_minute_76 rfl hB9 (by decide) rfl ?_
        have loop77 : ∀ (d9 : Nat) (i : Nat), (rN S 44 0 - i) < d9 → (i ≤ rN S 44 0) → V l D M 0 0 (wM am cy (mtS (mmA S) i) ++ F) [(2, .int (nI i)), (1, .int (nI (mtN (mmA S) i))), (0, .ref (am 0))] 77 [] := by
          intro d9
          induction d9 with
          | zero => intro i h9; exact absurd h9 (Nat.not_lt_zero _)
          | succ d9 ih77 =>
            intro i hd9 hi
            obtain ⟨hB2, hT2⟩ := hm.1 i hi
            have hkp := mtS_kp (mmA S) i
            have e44 : rN (mtS (mmA S) i) 44 0 = rN S 44 0 := congrFun hkp.n44 0
            have hl2 : rN (mtS (mmA S) i) 11 i ≤ 60 := by rw [hkp.n11]; exact hW.len i
            refine V.iload_n X dX6_minute_77 rfl ?_
            refine V.aload_n X dX6_minute_78 rfl ?_
            refine wM_gX6_107 X dX6_minute_79 ?_
            refine V.icmp_ge (tgt := 130) X dX6_minute_82 (by decide) (cN_le (hB2.n 44 _) (by omega)) (cN_nle (hB2.n 44 _) (by omega)) (fun (hz82 : rN (mtS (mmA S) i) 44 0 ≤ i) => ?_) (fun (hz82 : i < rN (mtS (mmA S) i) 44 0) => ?_)
            · refine V.eqs (Wd' := wM am cy (mmB S) ++ F) (by rw [show i = rN S 44 0 by omega]; rfl) rfl ?_
              refine V.aload_n X dX6_minute_130 rfl ?_
              refine wM_gX6_75 X dX6_minute_131 ?_
              refine V.iconst (v := o2i none) X dX6_minute_134 rfl ?_
              refine V.icmp_eq (tgt := 153) X dX6_minute_135 (by decide) (cO_eq (a := rO (mmB S) 47 0) (b := none) (hBB.o 47 _) lt_none) (cO_ne (a := rO (mmB S) 47 0) (b := none)) (fun (hz135 : rO (mmB S) 47 0 = none) => ?_) (fun (hz135 : ¬ rO (mmB S) 47 0 = none) => ?_)
              · refine V.iload_n X dX6_minute_153 rfl ?_
                exact V.iret (v := nI (mtN (mmA S) i)) X hE rfl rfl (Nat.le_of_ble_eq_true rfl) (Nat.le_of_ble_eq_true rfl) (pN9 (by rw [show i = rN S 44 0 by omega]; rfl) (by rw [show mm9 S = mmB S from if_neg (by unfold pmE; rw [← mmB_47, hz135]; simp)])) dX6_minute_154
              · obtain ⟨p, h47⟩ := Option.ne_none_iff_exists'.mp hz135
                have h47s : rO S 47 0 = some p := by rw [← mmB_47]; exact h47
                obtain ⟨q, h48s⟩ := hh p h47s
                have h48 : rO (mmB S) 48 0 = some q := by rw [mmB_48]; exact h48s
                have hpp := hW.fr p h47s
                have hqq := hW.to q h48s
                refine V.aload_n X dX6_minute_138 rfl ?_
                refine wM_gX6_147 X dX6_minute_139 ?_
                refine V.aload_n X dX6_minute_142 rfl ?_
                refine wM_gX6_196 X dX6_minute_143 ?_
                refine V.icmp_ne (tgt := 153) X dX6_minute_146 (by decide) cN_ne (cN_eq (hBB.n 40 _) (hBB.n 49 _)) (fun (hz146 : ¬ rN (mmB S) 40 0 = rN (mmB S) 49 0) => ?_) (fun (hz146 : rN (mmB S) 40 0 = rN (mmB S) 49 0) => ?_)
                · refine V.iload_n X dX6_minute_153 rfl ?_
                  exact V.iret (v := nI (mtN (mmA S) i)) X hE rfl rfl (Nat.le_of_ble_eq_true rfl) (Nat.le_of_ble_eq_true rfl) (pN9 (by rw [show i = rN S 44 0 by omega]; rfl) (by rw [show mm9 S = mmB S from if_neg (by unfold pmE; rw [h47s, ← mmB_49, ← mmB_40]; simp [Ne.symm hz146])])) dX6_minute_154
                · refine V.aload_n X dX6_minute_149 rfl ?_
                  refine V.callV0 [] X (c_X6_handsOver l D cy am (mmB S) F p q hBB (by rw [mmB_44]; exact h44) h47 h48 (show p < 8 by omega) (show q < 8 by omega) hm.2) mv_X6_handsOver gw_7_25 ⟨⟨(Nat.le_of_ble_eq_true rfl), (Nat.le_of_ble_eq_true rfl)⟩, (Nat.le_of_ble_eq_true rfl), (Nat.le_of_ble_eq_true rfl)⟩ (q0 := 0) (ci := 8) rfl rfl rfl (Nat.le_of_ble_eq_true rfl) dX6_minute_150 ?_
                  refine V.iload_n X dX6_minute_153 rfl ?_
                  exact V.iret (v := nI (mtN (mmA S) i)) X hE rfl rfl (Nat.le_of_ble_eq_true rfl) (Nat.le_of_ble_eq_true rfl) (pN9 (by rw [show i = rN S 44 0 by omega]; rfl) (by rw [show mm9 S = mho9 (mmB S) from if_pos (by unfold pmE; rw [h47s, ← mmB_49, ← hz146, mmB_40]; simp), mho9_s h47 h48])) dX6_minute_154
            · refine V.aload_n X dX6_minute_85 rfl ?_
              refine wM_gX6_60 X dX6_minute_86 ?_
              refine V.iload_n X dX6_minute_89 rfl ?_
              refine wM_ld17 (i := i) X (by omega) dX6_minute_90 ?_
              refine V.bipush (v := nI 97) X dX6_minute_91 (by decide) ?_
              refine V.icmp_ne (tgt := 124) X dX6_minute_93 (by decide) (cC_ne (a := rC (mtS (mmA S) i) 64 i) (b := 97)) (cC_eq (a := rC (mtS (mmA S) i) 64 i) (b := 97)) (fun (hz93 : ¬ rC (mtS (mmA S) i) 64 i = 97) => ?_) (fun (hz93 : rC (mtS (mmA S) i) 64 i = 97) => ?_)
              · refine V.iinc (v := nI (i + 1)) (L' := [(2, .int (nI (i + 1))), (1, .int (nI (mtN (mmA S) i))), (0, .ref (am 0))]) X dX6_minute_124 rfl (nI_inc _) hB9 (by decide) rfl ?_
                refine V.goto (tgt := 77) X dX6_minute_127 (by decide) ?_
                have ht : ¬ isToM (mtS (mmA S) i) i = true := by simp [isToM, hz93]
                exact V.eqs (by rw [show mtS (mmA S) (i + 1) = mtS (mmA S) i from if_neg ht]) (by rw [show mtN (mmA S) (i + 1) = mtN (mmA S) i from if_neg ht]) (ih77 (i + 1) (by omega) (by omega))
              · refine V.aload_n X dX6_minute_96 rfl ?_
                refine wM_gX6_69 X dX6_minute_97 ?_
                refine V.iload_n X dX6_minute_100 rfl ?_
                refine wM_ld20 (i := i) X (by omega) dX6_minute_101 ?_
                refine V.iconst (v := nI 2) X dX6_minute_102 rfl ?_
                refine V.aload_n X dX6_minute_103 rfl ?_
                refine wM_gX6_19 X dX6_minute_104 ?_
                refine V.iload_n X dX6_minute_107 rfl ?_
                refine wM_ld4 (i := i) X (by omega) dX6_minute_108 ?_
                refine V.imul (v := nI (2 * (rN (mtS (mmA S) i) 11 i))) X dX6_minute_109 (pk_mul _ _) ?_
                refine V.icmp_eq (tgt := 116) X dX6_minute_110 (by decide) (cN_eq (hB2.n 26 _) (by omega)) cN_ne (fun (hz110 : rN (mtS (mmA S) i) 26 i = 2 * (rN (mtS (mmA S) i) 11 i)) => ?_) (fun (hz110 : ¬ rN (mtS (mmA S) i) 26 i = 2 * (rN (mtS (mmA S) i) 11 i)) => ?_)
                · obtain ⟨hT3, hT4⟩ := hT2 (by omega) (by simp [isToM, hz93, hz110])
                  refine V.aload_n X dX6_minute_116 rfl ?_
                  refine V.iload_n X dX6_minute_117 rfl ?_
                  refine V.callV0 [.int (nI i)] X (c_X6_triesFail l D cy am (mtS (mmA S) i) F i hB2 (show i < 16 by omega) (show (rN (mtS (mmA S) i) 50 0) + 2 ≤ 1536 by omega) (fun t e => by rw [hkp.o16] at e; have := hW.fb i t (by omega) e; omega) (show (rN (mtS (mmA S) i) 25 i) + 1 < 1000000 by omega)) mv_X6_triesFail gw_7_5 ⟨⟨(Nat.le_of_ble_eq_true rfl), (Nat.le_of_ble_eq_true rfl)⟩, (Nat.le_of_ble_eq_true rfl), (Nat.le_of_ble_eq_true rfl)⟩ (q0 := 0) (ci := 8) rfl rfl rfl (Nat.le_of_ble_eq_true rfl) dX6_minute_118 ?_
                  refine V.iinc (v := nI (mtN (mmA S) i + 1)) (L' := [(1, .int (nI (mtN (mmA S) i + 1))), (2, .int (nI i)), (0, .ref (am 0))]) X dX6_minute_121 rfl (nI_inc _) hB9 (by decide) rfl ?_
                  refine V.iinc (v := nI (i + 1)) (L' := [(2, .int (nI (i + 1))), (1, .int (nI (mtN (mmA S) i + 1))), (0, .ref (am 0))]) X dX6_minute_124 rfl (nI_inc _) hB9 (by decide) rfl ?_
                  refine V.goto (tgt := 77) X dX6_minute_127 (by decide) ?_
                  have ht : isToM (mtS (mmA S) i) i = true := by simp [isToM, hz93, hz110]
                  exact V.eqs (by rw [show mtS (mmA S) (i + 1) = mfail (mtS (mmA S) i) i from if_pos ht]) (by rw [show mtN (mmA S) (i + 1) = mtN (mmA S) i + 1 from if_pos ht]) (ih77 (i + 1) (by omega) (by omega))
                · refine V.goto (tgt := 124) X dX6_minute_113 (by decide) ?_
                  refine V.iinc (v := nI (i + 1)) (L' := [(2, .int (nI (i + 1))), (1, .int (nI (mtN (mmA S) i))), (0, .ref (am 0))]) X dX6_minute_124 rfl (nI_inc _) hB9 (by decide) rfl ?_
                  refine V.goto (tgt := 77) X dX6_minute_127 (by decide) ?_
                  have ht : ¬ isToM (mtS (mmA S) i) i = true := by simp [isToM, hz93, hz110]
                  exact V.eqs (by rw [show mtS (mmA S) (i + 1) = mtS (mmA S) i from if_neg ht]) (by rw [show mtN (mmA S) (i + 1) = mtN (mmA S) i from if_neg ht]) (ih77 (i + 1) (by omega) (by omega))
        exact V.eqs (by rw [show i = rN S 44 0 by omega]; rfl) rfl (loop77 _ 0 (Nat.lt_succ_self _) (Nat.zero_le _))
      · refine V.aload_n X dX6_minute_22 rfl ?_
        refine wM_gX6_60 X dX6_minute_23 ?_
        refine V.iload_n X dX6_minute_26 rfl ?_
        refine wM_ld17 (i := i) X (by omega) dX6_minute_27 ?_
        refine V.bipush (v := nI 97) X dX6_minute_28 (by decide) ?_
        refine V.icmp_ne (tgt := 69) X dX6_minute_30 (by decide) (cC_ne (a := rC S 64 i) (b := 97)) (cC_eq (a := rC S 64 i) (b := 97)) (fun (hz30 : ¬ rC S 64 i = 97) => ?_) (fun (hz30 : rC S 64 i = 97) => ?_)
        · refine V.iinc (v := nI (i + 1)) (L' := [(2, .int (nI (i + 1))), (1, .int (nI 0)), (0, .ref (am 0))]) X dX6_minute_69 rfl (nI_inc _) hB9 (by decide) rfl ?_
          refine V.goto (tgt := 14) X dX6_minute_72 (by decide) ?_
          have ha : actM S i = false := by simp [actM, hz30]
          exact V.eqs (by rw [cnt9_f ha, ← low9_k (g := wrkM S) (f := rN S 26) (i := i) (by simp [wrkM, ha])]) rfl (ih14 (i + 1) (by omega) (by omega))
        · refine V.aload_n X dX6_minute_33 rfl ?_
          refine wM_gX6_66 X dX6_minute_34 ?_
          refine V.iload_n X dX6_minute_37 rfl ?_
          refine wM_ld19 (i := i) X (by omega) dX6_minute_38 ?_
          refine V.aload_n X dX6_minute_39 rfl ?_
          refine wM_gX6_75 X dX6_minute_40 ?_
          refine V.icmp_ne (tgt := 49) X dX6_minute_43 (by decide) (cO_ne (a := rO S 60 i) (b := rO S 47 0)) (cO_eq (a := rO S 60 i) (b := rO S 47 0) (hB.o 60 _) (hB.o 47 _)) (fun (hz43 : ¬ rO S 60 i = rO S 47 0) => ?_) (fun (hz43 : rO S 60 i = rO S 47 0) => ?_)
          · refine V.aload_n X dX6_minute_49 rfl ?_
            refine wM_gX6_69 X dX6_minute_50 ?_
            refine V.iload_n X dX6_minute_53 rfl ?_
            refine V.dup2 X dX6_minute_54 rfl rfl ?_
            refine wM_ld20 (i := i) X (by omega) dX6_minute_55 ?_
            refine V.iconst (v := nI 1) X dX6_minute_56 rfl ?_
            refine V.iadd (v := nI ((low9 (wrkM S) (rN S 26) i) i + 1)) X dX6_minute_57 (nI_add _ _) ?_
            refine wM_st20 (i := i) (v := (low9 (wrkM S) (rN S 26) i) i + 1) (g := (low9 (wrkM S) (rN S 26) i)) X (by omega) rfl dX6_minute_58 ?_
            refine V.aload_n X dX6_minute_59 rfl ?_
            refine V.dup X dX6_minute_60 rfl ?_
            refine wM_gX6_199 X dX6_minute_61 ?_
            refine V.lconst (v := 1) X dX6_minute_64 rfl ?_
            refine V.ladd (v := (rL S 42 + (nI (cnt9 (actM S) i)).toInt64) + 1) X dX6_minute_65 rfl ?_
            refine wM_pX6_199 (v := (rL S 42 + (nI (cnt9 (actM S) i)).toInt64) + 1) X dX6_minute_66 ?_
            refine V.iinc (v := nI (i + 1)) (L' := [(2, .int (nI (i + 1))), (1, .int (nI 0)), (0, .ref (am 0))]) X dX6_minute_69 rfl (nI_inc _) hB9 (by decide) rfl ?_
            refine V.goto (tgt := 14) X dX6_minute_72 (by decide) ?_
            have ha : actM S i = true := by simp [actM, hz30, hz43]
            exact V.eqs (by rw [cnt9_t ha, ← mm_42 (by have := cnt9_le (actM S) i; omega), ← low9_s (g := wrkM S) (f := rN S 26) (i := i) (v := low9 (wrkM S) (rN S 26) i i + 1) (by rw [low9_at (Nat.le_refl _)]; simp [wrkM, ha])]; rfl) rfl (ih14 (i + 1) (by omega) (by omega))
          · refine V.goto (tgt := 69) X dX6_minute_46 (by decide) ?_
            refine V.iinc (v := nI (i + 1)) (L' := [(2, .int (nI (i + 1))), (1, .int (nI 0)), (0, .ref (am 0))]) X dX6_minute_69 rfl (nI_inc _) hB9 (by decide) rfl ?_
            refine V.goto (tgt := 14) X dX6_minute_72 (by decide) ?_
            have ha : actM S i = false := by simp [actM, hz30, hz43]
            exact V.eqs (by rw [cnt9_f ha, ← low9_k (g := wrkM S) (f := rN S 26) (i := i) (by simp [wrkM, ha])]) rfl (ih14 (i + 1) (by omega) (by omega))
  exact V.eqs (by rw [low9_0, show cnt9 (actM S) 0 = 0 from rfl, show (nI 0).toInt64 = 0 from rfl, Int64.add_zero]; rfl) rfl (loop14 _ 0 (Nat.lt_succ_self _) (Nat.zero_le _))
set_option maxRecDepth 20000 in
set_option maxHeartbeats 4000000 in
theorem c_X6_sweeps (l : Launch) (D : va_G) (cy : Nat → ClassId) (am : Nat → Nat) (S : St) (F : va_W) (hB : Bnd S) (hn : rN S 44 0 ≤ 16) (hl : ∀ j, rN S 11 j ≤ 60) : Ctr l D cy yX6_sweeps (.code yX6_sweeps cX6_sweeps 4 none) ({ frames := 1, cells := 0, slots := 0, locals := 40 } : Room) [.ref (am 0)] (wM am cy S ++ F) (pU (wM am cy (sN S 63 (low9 (rst S) (rN S 63) (rN S 44 0))) ++ F)) pNo := by
  refine Ctr.of (by decide) (Nat.le_of_ble_eq_true rfl) ?_
  intro M X hE hN hB9 hI9
  replace X : VX l D M cy cX6_sweeps "RunbookerModel" none ({ frames := 1, cells := 0, slots := 0, locals := 40 } : Room) := X
  show V l D M 0 0 (wM am cy S ++ F) [(0, .ref (am 0))] 0 []
  refine V.aload_n X dX6_sweeps_0 rfl ?_
  refine wM_gX6_107 X dX6_sweeps_1 ?_
  refine V.iconst (v := nI 1) X dX6_sweeps_4 rfl ?_
  refine V.isub (v := o2i (pred9 (rN S 44 0))) X dX6_sweeps_5 (pred9_sub _) ?_
  refine V.istore_n (L' := [(1, .int (o2i (pred9 (rN S 44 0)))), (0, .ref (am 0))]) X dX6_sweeps_6 rfl hB9 (by decide) rfl ?_
  have loop7 : ∀ (d9 : Nat) (i : Nat), i < d9 → (i ≤ rN S 44 0) → V l D M 0 0 (wM am cy (sN S 63 (hi9 (rst S) (rN S 63) i (rN S 44 0))) ++ F) [(1, .int (o2i (pred9 i))), (0, .ref (am 0))] 7 [] := by
    intro d9
    induction d9 with
    | zero => intro i h9; exact absurd h9 (Nat.not_lt_zero _)
    | succ d9 ih7 =>
      intro i hd9 hi
      refine V.iload_n X dX6_sweeps_7 rfl ?_
      refine V.if_lt (tgt := 79) X dX6_sweeps_8 (by decide) (pred9_lt (by omega)) pred9_nlt (fun (hz8 : i = 0) => ?_) (fun (hz8 : 0 < i) => ?_)
      · exact V.vret X hE rfl (Nat.le_of_ble_eq_true rfl) (Nat.le_of_ble_eq_true rfl) (pU9 (by rw [hz8, show hi9 (rst S) (rN S 63) 0 (rN S 44 0) = low9 (rst S) (rN S 63) (rN S 44 0) from by funext t; simp [hi9, low9]])) dX6_sweeps_79
      · obtain ⟨j, rfl⟩ : ∃ j, i = j + 1 := ⟨i - 1, by omega⟩
        show V l D M 0 0 (wM am cy (sN S 63 (hi9 (rst S) (rN S 63) (j + 1) (rN S 44 0))) ++ F) [(1, .int (nI j)), (0, .ref (am 0))] 11 []
        refine V.iconst (v := nI 0) X dX6_sweeps_11 rfl ?_
        refine V.istore_n (L' := [(2, .int (nI 0)), (1, .int (nI j)), (0, .ref (am 0))]) X dX6_sweeps_12 rfl hB9 (by decide) rfl ?_
        refine V.iload_n X dX6_sweeps_13 rfl ?_
        refine V.iconst (v := nI 1) X dX6_sweeps_14 rfl ?_
        refine V.iadd (v := nI (j + 1)) X dX6_sweeps_15 (nI_add _ _) ?_
        refine V.istore_n (L' := [(3, .int (nI (j + 1))), (2, .int (nI 0)), (1, .int (nI j)), (0, .ref (am 0))]) X dX6_sweeps_16 rfl hB9 (by decide) rfl ?_
        have loop17 : ∀ (d9 : Nat) (o : Nat), (rN S 44 0 - o) < d9 → (j + 1 ≤ o) → (o ≤ rN S 44 0) → V l D M 0 0 (wM am cy (sN S 63 (hi9 (rst S) (rN S 63) (j + 1) (rN S 44 0))) ++ F) [(3, .int (nI o)), (2, .int (nI (mx9 S j o))), (1, .int (nI j)), (0, .ref (am 0))] 17 [] := by
          intro d9
          induction d9 with
          | zero => intro o h9; exact absurd h9 (Nat.not_lt_zero _)
          | succ d9 ih17 =>
            intro o hd9 hjo ho
            refine V.iload_n X dX6_sweeps_17 rfl ?_
            refine V.aload_n X dX6_sweeps_18 rfl ?_
            refine wM_gX6_107 X dX6_sweeps_19 ?_
            refine V.icmp_ge (tgt := 59) X dX6_sweeps_22 (by decide) (cN_le (hB.n 44 _) (by omega)) (cN_nle (hB.n 44 _) (by omega)) (fun (hz22 : rN S 44 0 ≤ o) => ?_) (fun (hz22 : o < rN S 44 0) => ?_)
            · refine V.aload_n X dX6_sweeps_59 rfl ?_
              refine wM_gX6_94 X dX6_sweeps_60 ?_
              refine V.iload_n X dX6_sweeps_63 rfl ?_
              refine V.aload_n X dX6_sweeps_64 rfl ?_
              refine wM_gX6_19 X dX6_sweeps_65 ?_
              refine V.iload_n X dX6_sweeps_68 rfl ?_
              refine wM_ld4 (i := j) X (by omega) dX6_sweeps_69 ?_
              refine V.iload_n X dX6_sweeps_70 rfl ?_
              refine V.iadd (v := nI (rN S 11 j + (mx9 S j o))) X dX6_sweeps_71 (nI_add _ _) ?_
              refine wM_st26 (i := j) (v := rN S 11 j + (mx9 S j o)) (g := (hi9 (rst S) (rN S 63) (j + 1) (rN S 44 0))) X (by omega) rfl dX6_sweeps_72 ?_
              refine V.iinc (v := o2i (pred9 j)) (L' := [(1, .int (o2i (pred9 j))), (3, .int (nI o)), (2, .int (nI (mx9 S j o))), (0, .ref (am 0))]) X dX6_sweeps_73 rfl (pred9_dec j) hB9 (by decide) rfl ?_
              refine V.goto (tgt := 7) X dX6_sweeps_76 (by decide) ?_
              refine V.pick [0, 3] rfl ?_
              exact V.eqs (by rw [hi9_s (i := j) (n := rN S 44 0) ((rst_eq hn (by omega)).trans (by rw [show o = rN S 44 0 from Nat.le_antisymm ho hz22]; rfl)).symm (by omega)]; first | done | rfl) rfl (ih7 j (by omega) (by omega))
            · refine V.aload_n X dX6_sweeps_25 rfl ?_
              refine wM_gX6_25 X dX6_sweeps_26 ?_
              refine V.iload_n X dX6_sweeps_29 rfl ?_
              refine wM_ld6 (i := o) X (by omega) dX6_sweeps_30 ?_
              refine V.iload_n X dX6_sweeps_31 rfl ?_
              refine V.callS1 [.int (rI S 15 o), .int (nI j)] X (c_X6_has l D cy am (sN S 63 (hi9 (rst S) (rN S 63) (j + 1) (rN S 44 0))) F (rI S 15 o) (nI j)) ms_X6_has gw_6_164 ⟨⟨(Nat.le_of_ble_eq_true rfl), (Nat.le_of_ble_eq_true rfl)⟩, (Nat.le_of_ble_eq_true rfl), (Nat.le_of_ble_eq_true rfl)⟩ rfl (Nat.le_of_ble_eq_true rfl) dX6_sweeps_32 ?_
              refine V.if_eq (tgt := 51) X dX6_sweeps_35 (by decide) b2i_0 b2i_n0 (fun (hz35 : hasBit (rI S 15 o) (nI j) = false) => ?_) (fun (hz35 : hasBit (rI S 15 o) (nI j) = true) => ?_)
              · refine V.iload_n X dX6_sweeps_51 rfl ?_
                refine V.istore_n (L' := [(2, .int (nI (mx9 S j o))), (3, .int (nI o)), (1, .int (nI j)), (0, .ref (am 0))]) X dX6_sweeps_52 rfl hB9 (by decide) rfl ?_
                refine V.iinc (v := nI (o + 1)) (L' := [(3, .int (nI (o + 1))), (2, .int (nI (mx9 S j o))), (1, .int (nI j)), (0, .ref (am 0))]) X dX6_sweeps_53 rfl (nI_inc _) hB9 (by decide) rfl ?_
                refine V.goto (tgt := 17) X dX6_sweeps_56 (by decide) ?_
                exact V.eqs rfl (by rw [mx9_f hjo hz35]) (ih17 (o + 1) (by omega) (by omega) (by omega))
              · refine V.iload_n X dX6_sweeps_38 rfl ?_
                refine V.aload_n X dX6_sweeps_39 rfl ?_
                refine wM_gX6_94 X dX6_sweeps_40 ?_
                refine V.iload_n X dX6_sweeps_43 rfl ?_
                refine wM_ld26 (i := o) X (by omega) dX6_sweeps_44 ?_
                refine V.mmax (v := nI (max (mx9 S j o) ((hi9 (rst S) (rN S 63) (j + 1) (rN S 44 0)) o))) X gw_7_105 gw_4_132 gw_1_18 gw_4_133 (Nat.le_of_ble_eq_true rfl) (Nat.le_of_ble_eq_true rfl) (Nat.le_of_ble_eq_true rfl) (Nat.le_of_ble_eq_true rfl) dX6_sweeps_45 (mmaxN (a := mx9 S j o) (b := (hi9 (rst S) (rN S 63) (j + 1) (rN S 44 0)) o) (by have := mx9_le hl j o; omega) (show hi9 (rst S) (rN S 63) (j + 1) (rN S 44 0) o < 2147483648 by rw [hi9_in (by omega) (by omega)]; exact Nat.lt_of_le_of_lt (rst_le hl o) (by decide))) ?_
                refine V.goto (tgt := 52) X dX6_sweeps_48 (by decide) ?_
                refine V.istore_n (L' := [(2, .int (nI (max (mx9 S j o) ((hi9 (rst S) (rN S 63) (j + 1) (rN S 44 0)) o)))), (3, .int (nI o)), (1, .int (nI j)), (0, .ref (am 0))]) X dX6_sweeps_52 rfl hB9 (by decide) rfl ?_
                refine V.iinc (v := nI (o + 1)) (L' := [(3, .int (nI (o + 1))), (2, .int (nI (max (mx9 S j o) ((hi9 (rst S) (rN S 63) (j + 1) (rN S 44 0)) o)))), (1, .int (nI j)), (0, .ref (am 0))]) X dX6_sweeps_53 rfl (nI_inc _) hB9 (by decide) rfl ?_
                refine V.goto (tgt := 17) X dX6_sweeps_56 (by decide) ?_
                exact V.eqs rfl (by rw [mx9_t hjo hz35, hi9_in (by omega) (by omega)]) (ih17 (o + 1) (by omega) (by omega) (by omega))
        exact V.eqs rfl (by rw [mx9_0]) (loop17 _ (j + 1) (Nat.lt_succ_self _) (Nat.le_refl _) hi)
  exact V.eqs (by rw [hi9_n]; rfl) rfl (loop7 _ (rN S 44 0) (Nat.lt_succ_self _) (Nat.le_refl _))
set_option maxRecDepth 20000 in
set_option maxHeartbeats 4000000 in
theorem c_X6_isUnknown (l : Launch) (D : va_G) (cy : Nat → ClassId) (am : Nat → Nat) (S : St) (F : va_W) (x : Int32) (hB : Bnd S) : Ctr l D cy yX6_isUnknown (.code yX6_isUnknown cX6_isUnknown 2 (some FieldType.boolean)) ({ frames := 2, cells := 0, slots := 0, locals := 80 } : Room) [.ref (am 0), .int x] (wM am cy S ++ F) (pI (b2i (decide (0 < kUK S x))) (wM am cy (sN S 62 (fun _ => kUK S x)) ++ F)) pNo := by
  refine Ctr.of (by decide) (Nat.le_of_ble_eq_true rfl) ?_
  intro M X hE hN hB9 hI9
  replace X : VX l D M cy cX6_isUnknown "RunbookerModel" (some FieldType.boolean) ({ frames := 2, cells := 0, slots := 0, locals := 80 } : Room) := X
  show V l D M 0 0 (wM am cy S ++ F) [(0, .ref (am 0)), (1, .int x)] 0 []
  refine V.aload_n X dX6_isUnknown_0 rfl ?_
  refine V.aload_n X dX6_isUnknown_1 rfl ?_
  refine V.iload_n X dX6_isUnknown_2 rfl ?_
  refine V.callV1 [.int x] X (c_X6_isStep l D cy am S F x hB) mv_X6_isStep gw_6_160 ⟨⟨(Nat.le_of_ble_eq_true rfl), (Nat.le_of_ble_eq_true rfl)⟩, (Nat.le_of_ble_eq_true rfl), (Nat.le_of_ble_eq_true rfl)⟩ (q0 := 0) (ci := 8) rfl rfl rfl (Nat.le_of_ble_eq_true rfl) dX6_isUnknown_3 ?_
  refine V.if_ne (tgt := 13) X dX6_isUnknown_6 (by decide) b2i_n0 b2i_0 (fun (hz6 : inR x (rN S 44 0) = true) => ?_) (fun (hz6 : inR x (rN S 44 0) = false) => ?_)
  · refine V.aload_n X dX6_isUnknown_13 rfl ?_
    refine wM_gX6_165 X dX6_isUnknown_14 ?_
    refine V.if_eq (tgt := 28) X dX6_isUnknown_17 (by decide) b2i_0 b2i_n0 (fun (hz17 : rB S 61 0 = false) => ?_) (fun (hz17 : rB S 61 0 = true) => ?_)
    · refine V.iconst (v := nI 2) X dX6_isUnknown_28 rfl ?_
      refine V.goto (tgt := 33) X dX6_isUnknown_29 (by decide) ?_
      refine wM_pX6_97 (v := 2) X dX6_isUnknown_33 ?_
      refine V.aload_n X dX6_isUnknown_36 rfl ?_
      refine wM_gX6_97 X dX6_isUnknown_37 ?_
      refine V.if_le (tgt := 47) X dX6_isUnknown_40 (by decide) (cN_le (show 2 < 2147483648 by decide) (by decide)) (cN_nle (show 2 < 2147483648 by decide) (by decide)) (fun (hz40 : 2 ≤ 0) => ?_) (fun (hz40 : 0 < 2) => ?_)
      · exact absurd hz40 (by decide)
      · refine V.iconst (v := nI 1) X dX6_isUnknown_43 rfl ?_
        refine V.goto (tgt := 48) X dX6_isUnknown_44 (by decide) ?_
        exact V.iret (v := b2i true) X hE rfl (nar_b _) (Nat.le_of_ble_eq_true rfl) (Nat.le_of_ble_eq_true rfl) (pB9 (by rw [show kUK S x = 2 by simp [kUK, ins9, hz6, hz17, hz40, (Nat.not_le.mpr hz40)]]; rfl) (by rw [show kUK S x = 2 by simp [kUK, ins9, hz6, hz17, hz40, (Nat.not_le.mpr hz40)]])) dX6_isUnknown_48
    · refine V.iload_n X dX6_isUnknown_20 rfl ?_
      refine V.aload_n X dX6_isUnknown_21 rfl ?_
      refine wM_gX6_168 X dX6_isUnknown_22 ?_
      refine V.icmp_lt (tgt := 32) X dX6_isUnknown_25 (by decide) id id (fun (hz25 : x < nI (rN S 46 0)) => ?_) (fun (hz25 : ¬ x < nI (rN S 46 0)) => ?_)
      · refine V.iconst (v := nI 0) X dX6_isUnknown_32 rfl ?_
        refine wM_pX6_97 (v := 0) X dX6_isUnknown_33 ?_
        refine V.aload_n X dX6_isUnknown_36 rfl ?_
        refine wM_gX6_97 X dX6_isUnknown_37 ?_
        refine V.if_le (tgt := 47) X dX6_isUnknown_40 (by decide) (cN_le (show 0 < 2147483648 by decide) (by decide)) (cN_nle (show 0 < 2147483648 by decide) (by decide)) (fun (hz40 : 0 ≤ 0) => ?_) (fun (hz40 : 0 < 0) => ?_)
        · refine V.iconst (v := nI 0) X dX6_isUnknown_47 rfl ?_
          exact V.iret (v := b2i false) X hE rfl (nar_b _) (Nat.le_of_ble_eq_true rfl) (Nat.le_of_ble_eq_true rfl) (pB9 (by rw [show kUK S x = 0 by simp [kUK, ins9, hz6, hz17, hz25, (i32_nle.mpr hz25), hz40, (Nat.not_lt.mpr hz40)]]; rfl) (by rw [show kUK S x = 0 by simp [kUK, ins9, hz6, hz17, hz25, (i32_nle.mpr hz25), hz40, (Nat.not_lt.mpr hz40)]])) dX6_isUnknown_48
        · exact absurd hz40 (by decide)
      · refine V.iconst (v := nI 2) X dX6_isUnknown_28 rfl ?_
        refine V.goto (tgt := 33) X dX6_isUnknown_29 (by decide) ?_
        refine wM_pX6_97 (v := 2) X dX6_isUnknown_33 ?_
        refine V.aload_n X dX6_isUnknown_36 rfl ?_
        refine wM_gX6_97 X dX6_isUnknown_37 ?_
        refine V.if_le (tgt := 47) X dX6_isUnknown_40 (by decide) (cN_le (show 2 < 2147483648 by decide) (by decide)) (cN_nle (show 2 < 2147483648 by decide) (by decide)) (fun (hz40 : 2 ≤ 0) => ?_) (fun (hz40 : 0 < 2) => ?_)
        · exact absurd hz40 (by decide)
        · refine V.iconst (v := nI 1) X dX6_isUnknown_43 rfl ?_
          refine V.goto (tgt := 48) X dX6_isUnknown_44 (by decide) ?_
          exact V.iret (v := b2i true) X hE rfl (nar_b _) (Nat.le_of_ble_eq_true rfl) (Nat.le_of_ble_eq_true rfl) (pB9 (by rw [show kUK S x = 2 by simp [kUK, ins9, hz6, hz17, hz25, (i32_nlt.mp hz25), hz40, (Nat.not_le.mpr hz40)]]; rfl) (by rw [show kUK S x = 2 by simp [kUK, ins9, hz6, hz17, hz25, (i32_nlt.mp hz25), hz40, (Nat.not_le.mpr hz40)]])) dX6_isUnknown_48
  · refine V.iconst (v := nI 1) X dX6_isUnknown_9 rfl ?_
    refine V.goto (tgt := 33) X dX6_isUnknown_10 (by decide) ?_
    refine wM_pX6_97 (v := 1) X dX6_isUnknown_33 ?_
    refine V.aload_n X dX6_isUnknown_36 rfl ?_
    refine wM_gX6_97 X dX6_isUnknown_37 ?_
    refine V.if_le (tgt := 47) X dX6_isUnknown_40 (by decide) (cN_le (show 1 < 2147483648 by decide) (by decide)) (cN_nle (show 1 < 2147483648 by decide) (by decide)) (fun (hz40 : 1 ≤ 0) => ?_) (fun (hz40 : 0 < 1) => ?_)
    · exact absurd hz40 (by decide)
    · refine V.iconst (v := nI 1) X dX6_isUnknown_43 rfl ?_
      refine V.goto (tgt := 48) X dX6_isUnknown_44 (by decide) ?_
      exact V.iret (v := b2i true) X hE rfl (nar_b _) (Nat.le_of_ble_eq_true rfl) (Nat.le_of_ble_eq_true rfl) (pB9 (by rw [show kUK S x = 1 by simp [kUK, ins9, hz6, hz40, (Nat.not_le.mpr hz40)]]; rfl) (by rw [show kUK S x = 1 by simp [kUK, ins9, hz6, hz40, (Nat.not_le.mpr hz40)]])) dX6_isUnknown_48
