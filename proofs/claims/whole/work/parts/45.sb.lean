/-! ===== the JDK's text methods, on short texts ===== -/
set_option maxRecDepth 20000 in
set_option maxHeartbeats 4000000 in
theorem c_J5_isLatin1_aae02 (l : Launch) (D : va_G) (cy : Nat → ClassId) (q b n : Nat) (t : Nat → Nat) (F : va_W)  : Ctr l D cy yJ5_isLatin1_aae02 (.code yJ5_isLatin1_aae02 cJ5_isLatin1_aae02 1 (some FieldType.boolean)) ({ frames := 1, cells := 0, slots := 0, locals := 60 } : Room) [.ref q] (wB cy q b n t ++ F) (pI 1 (wB cy q b n t ++ F)) pNo := by
  refine Ctr.of (by decide) (Nat.le_of_ble_eq_true rfl) ?_
  intro M X hE hN hB9 hI9
  replace X : VX l D M cy cJ5_isLatin1_aae02 "java/lang/AbstractStringBuilder" (some FieldType.boolean) ({ frames := 1, cells := 0, slots := 0, locals := 60 } : Room) := X
  show V l D M 0 0 (wB cy q b n t ++ F) [(0, .ref q)] 0 []
  refine V.getCS X gw_5_38 dJ5_isLatin1_aae02_0 ?_
  refine V.if_eq (tgt := 17) X dJ5_isLatin1_aae02_3 (by decide) id id (fun hz => ?_) (fun hz => ?_)
  · exact absurd hz (by decide)
  refine V.aload_n X dJ5_isLatin1_aae02_6 rfl ?_
  refine V.getf (q0 := 0) (ci := 1) (j := 1) (C := RJ4) (T := TJ4) (N := 4) (ref := "java/lang/AbstractStringBuilder") (v := .int 0) X rfl rfl (Nat.le_of_ble_eq_true rfl) gw_5_48 inJ4 rfl rfl dJ5_isLatin1_aae02_7 ?_
  refine V.if_ne (tgt := 17) X dJ5_isLatin1_aae02_10 (by decide) id id (fun hz => ?_) (fun hz => ?_)
  · exact absurd hz (fun h => h rfl)
  refine V.iconst (v := nI 1) X dJ5_isLatin1_aae02_13 rfl ?_
  refine V.goto (tgt := 18) X dJ5_isLatin1_aae02_14 (by decide) ?_
  exact V.iret (v := (nI 1)) X hE rfl rfl (Nat.le_of_ble_eq_true rfl) (Nat.le_of_ble_eq_true rfl) ⟨rfl, rfl⟩ dJ5_isLatin1_aae02_18
set_option maxRecDepth 20000 in
set_option maxHeartbeats 4000000 in
theorem c_J5_ensureCapacityInternal_d00df (l : Launch) (D : va_G) (cy : Nat → ClassId) (q b n : Nat) (t : Nat → Nat) (F : va_W) (k9 : Nat) (hk9 : k9 ≤ 16) : Ctr l D cy yJ5_ensureCapacityInternal_d00df (.code yJ5_ensureCapacityInternal_d00df cJ5_ensureCapacityInternal_d00df 3 none) ({ frames := 1, cells := 0, slots := 0, locals := 60 } : Room) [.ref q, .int (nI k9)] (wB cy q b n t ++ F) (pU (wB cy q b n t ++ F)) pNo := by
  refine Ctr.of (by decide) (Nat.le_of_ble_eq_true rfl) ?_
  intro M X hE hN hB9 hI9
  replace X : VX l D M cy cJ5_ensureCapacityInternal_d00df "java/lang/AbstractStringBuilder" none ({ frames := 1, cells := 0, slots := 0, locals := 60 } : Room) := X
  show V l D M 0 0 (wB cy q b n t ++ F) [(0, .ref q), (1, .int (nI k9))] 0 []
  refine V.aload_n X dJ5_ensureCapacityInternal_d00df_0 rfl ?_
  refine V.getf (q0 := 0) (ci := 1) (j := 0) (C := RJ4) (T := TJ4) (N := 4) (ref := "java/lang/AbstractStringBuilder") (v := .ref b) X rfl rfl (Nat.le_of_ble_eq_true rfl) gw_5_47 inJ4 rfl rfl dJ5_ensureCapacityInternal_d00df_1 ?_
  refine V.alen (q0 := 1) (t0 := 3) (ty := .byte) (v := nI 16) X rfl rfl rfl dJ5_ensureCapacityInternal_d00df_4 ?_
  refine V.aload_n X dJ5_ensureCapacityInternal_d00df_5 rfl ?_
  refine V.getf (q0 := 0) (ci := 1) (j := 1) (C := RJ4) (T := TJ4) (N := 4) (ref := "java/lang/AbstractStringBuilder") (v := .int 0) X rfl rfl (Nat.le_of_ble_eq_true rfl) gw_5_48 inJ4 rfl rfl dJ5_ensureCapacityInternal_d00df_6 ?_
  refine V.ishr (v := nI 16) X dJ5_ensureCapacityInternal_d00df_9 (by decide) ?_
  refine V.istore_n (L' := [(2, .int (nI 16)), (0, .ref q), (1, .int (nI k9))]) X dJ5_ensureCapacityInternal_d00df_10 rfl hB9 (by decide) rfl ?_
  refine V.iload_n X dJ5_ensureCapacityInternal_d00df_11 rfl ?_
  refine V.iload_n X dJ5_ensureCapacityInternal_d00df_12 rfl ?_
  refine V.isub (v := nI k9 - nI 16) X dJ5_ensureCapacityInternal_d00df_13 rfl ?_
  refine V.if_le (tgt := 38) X dJ5_ensureCapacityInternal_d00df_14 (by decide) id id (fun hz => ?_) (fun hz => ?_)
  rotate_left
  · exact absurd (sub16 k9 (by omega)) hz
  exact V.vret X hE rfl (Nat.le_of_ble_eq_true rfl) (Nat.le_of_ble_eq_true rfl) ⟨rfl, rfl⟩ dJ5_ensureCapacityInternal_d00df_38
set_option maxRecDepth 20000 in
set_option maxHeartbeats 4000000 in
theorem c_J6_stringSize_0f7a4 (l : Launch) (D : va_G) (cy : Nat → ClassId) (v : Nat) (Wd : va_W) (hv : v < 100) : Ctr l D cy yJ6_stringSize_0f7a4 (.code yJ6_stringSize_0f7a4 cJ6_stringSize_0f7a4 4 (some FieldType.int)) ({ frames := 1, cells := 0, slots := 0, locals := 60 } : Room) [.int (nI v)] (Wd) (pI (nI (dg v)) Wd) pNo := by
  refine Ctr.of (by decide) (Nat.le_of_ble_eq_true rfl) ?_
  intro M X hE hN hB9 hI9
  replace X : VX l D M cy cJ6_stringSize_0f7a4 "java/lang/Integer" (some FieldType.int) ({ frames := 1, cells := 0, slots := 0, locals := 60 } : Room) := X
  show V l D M 0 0 (Wd) [(0, .int (nI v))] 0 []
  refine V.iconst (v := nI 1) X dJ6_stringSize_0f7a4_0 rfl ?_
  refine V.istore_n (L' := [(1, .int (nI 1)), (0, .int (nI v))]) X dJ6_stringSize_0f7a4_1 rfl hB9 (by decide) rfl ?_
  refine V.iload_n X dJ6_stringSize_0f7a4_2 rfl ?_
  refine V.if_lt (tgt := 11) X dJ6_stringSize_0f7a4_3 (by decide) id id (fun hz => ?_) (fun hz => ?_)
  · exact absurd hz (nI_pos (by omega))
  refine V.iconst (v := nI 0) X dJ6_stringSize_0f7a4_6 rfl ?_
  refine V.istore_n (L' := [(1, .int (nI 0)), (0, .int (nI v))]) X dJ6_stringSize_0f7a4_7 rfl hB9 (by decide) rfl ?_
  refine V.iload_n X dJ6_stringSize_0f7a4_8 rfl ?_
  refine V.ineg (v := -nI v) X dJ6_stringSize_0f7a4_9 rfl ?_
  refine V.istore_n (L' := [(0, .int (-nI v)), (1, .int (nI 0))]) X dJ6_stringSize_0f7a4_10 rfl hB9 (by decide) rfl ?_
  refine V.bipush (v := (-10)) X dJ6_stringSize_0f7a4_11 (by decide) ?_
  refine V.istore_n (L' := [(2, .int (-10)), (0, .int (-nI v)), (1, .int (nI 0))]) X dJ6_stringSize_0f7a4_13 rfl hB9 (by decide) rfl ?_
  refine V.iconst (v := nI 1) X dJ6_stringSize_0f7a4_14 rfl ?_
  refine V.istore_n (L' := [(3, .int (nI 1)), (2, .int (-10)), (0, .int (-nI v)), (1, .int (nI 0))]) X dJ6_stringSize_0f7a4_15 rfl hB9 (by decide) rfl ?_
  refine V.iload_n X dJ6_stringSize_0f7a4_16 rfl ?_
  refine V.bipush (v := nI 10) X dJ6_stringSize_0f7a4_17 (by decide) ?_
  refine V.icmp_ge (tgt := 42) X dJ6_stringSize_0f7a4_19 (by decide) id id (fun hz => ?_) (fun hz => ?_)
  · exact absurd hz (by decide)
  refine V.iload_n X dJ6_stringSize_0f7a4_22 rfl ?_
  refine V.iload_n X dJ6_stringSize_0f7a4_23 rfl ?_
  refine V.icmp_le (tgt := 31) X dJ6_stringSize_0f7a4_24 (by decide) id id (fun hz => ?_) (fun hz => ?_)
  · have h10 : ¬ v < 10 := fun h => ss_1 v h hz
    refine V.bipush (v := nI 10) X dJ6_stringSize_0f7a4_31 (by decide) ?_
    refine V.iload_n X dJ6_stringSize_0f7a4_33 rfl ?_
    refine V.imul (v := (-100)) X dJ6_stringSize_0f7a4_34 (by decide) ?_
    refine V.istore_n (L' := [(2, .int ((-100))), (3, .int (nI 1)), (0, .int (-nI v)), (1, .int (nI 0))]) X dJ6_stringSize_0f7a4_35 rfl hB9 (by decide) rfl ?_
    refine V.iinc (v := (nI 2)) (L' := [(3, .int (nI 2)), (2, .int ((-100))), (0, .int (-nI v)), (1, .int (nI 0))]) X dJ6_stringSize_0f7a4_36 rfl (by decide) hB9 (by decide) rfl ?_
    refine V.goto (tgt := 16) X dJ6_stringSize_0f7a4_39 (by decide) ?_
    refine V.iload_n X dJ6_stringSize_0f7a4_16 rfl ?_
    refine V.bipush (v := nI 10) X dJ6_stringSize_0f7a4_17 (by decide) ?_
    refine V.icmp_ge (tgt := 42) X dJ6_stringSize_0f7a4_19 (by decide) id id (fun hz => ?_) (fun hz => ?_)
    · exact absurd hz (by decide)
    refine V.iload_n X dJ6_stringSize_0f7a4_22 rfl ?_
    refine V.iload_n X dJ6_stringSize_0f7a4_23 rfl ?_
    refine V.icmp_le (tgt := 31) X dJ6_stringSize_0f7a4_24 (by decide) id id (fun hz => ?_) (fun hz => ?_)
    · exact absurd hz (ss_3 v hv)
    refine V.iload_n X dJ6_stringSize_0f7a4_27 rfl ?_
    refine V.iload_n X dJ6_stringSize_0f7a4_28 rfl ?_
    refine V.iadd (v := nI 2) X dJ6_stringSize_0f7a4_29 (by decide) ?_
    exact V.iret (v := (nI 2)) X hE rfl rfl (Nat.le_of_ble_eq_true rfl) (Nat.le_of_ble_eq_true rfl) ⟨by rw [dg_f h10], rfl⟩ dJ6_stringSize_0f7a4_30
  · have h10 : v < 10 := Decidable.byContradiction (fun h => hz (ss_2 v hv h))
    refine V.iload_n X dJ6_stringSize_0f7a4_27 rfl ?_
    refine V.iload_n X dJ6_stringSize_0f7a4_28 rfl ?_
    refine V.iadd (v := nI 1) X dJ6_stringSize_0f7a4_29 (by decide) ?_
    exact V.iret (v := (nI 1)) X hE rfl rfl (Nat.le_of_ble_eq_true rfl) (Nat.le_of_ble_eq_true rfl) ⟨by rw [dg_t h10], rfl⟩ dJ6_stringSize_0f7a4_30
set_option maxRecDepth 20000 in
set_option maxHeartbeats 4000000 in
theorem c_J6_getChars_ba4f3 (l : Launch) (D : va_G) (cy : Nat → ClassId) (q b c n v : Nat) (t : Nat → Nat) (F : va_W) (hv : v < 100) (hn : n + dg v ≤ 16) : Ctr l D cy yJ6_getChars_ba4f3 (.code yJ6_getChars_ba4f3 cJ6_getChars_ba4f3 7 (some FieldType.int)) ({ frames := 1, cells := 0, slots := 0, locals := 60 } : Room) [.int (nI v), .int (nI (n + dg v)), .ref b] (wB cy q b c t ++ F) (pI (nI n) (wB cy q b c (apI t n v) ++ F)) pNo := by
  refine Ctr.of (by decide) (Nat.le_of_ble_eq_true rfl) ?_
  intro M X hE hN hB9 hI9
  replace X : VX l D M cy cJ6_getChars_ba4f3 "java/lang/Integer" (some FieldType.int) ({ frames := 1, cells := 0, slots := 0, locals := 60 } : Room) := X
  show V l D M 0 0 (wB cy q b c t ++ F) [(0, .int (nI v)), (1, .int (nI (n + dg v))), (2, .ref b)] 0 []
  have hdg := dg_le v
  refine V.iload_n X dJ6_getChars_ba4f3_0 rfl ?_
  refine V.istore (L' := [(5, .int (nI (n + dg v))), (0, .int (nI v)), (1, .int (nI (n + dg v))), (2, .ref b)]) X dJ6_getChars_ba4f3_1 hB9 (by decide) rfl ?_
  refine V.iload_n X dJ6_getChars_ba4f3_3 rfl ?_
  refine V.if_ge (tgt := 11) X dJ6_getChars_ba4f3_4 (by decide) id id (fun hz => ?_) (fun hz => ?_)
  rotate_left
  · exact absurd (ge0 v hv) hz
  refine V.iconst (v := nI 0) X dJ6_getChars_ba4f3_11 rfl ?_
  refine V.istore (L' := [(6, .int (nI 0)), (5, .int (nI (n + dg v))), (0, .int (nI v)), (1, .int (nI (n + dg v))), (2, .ref b)]) X dJ6_getChars_ba4f3_12 hB9 (by decide) rfl ?_
  refine V.iload X dJ6_getChars_ba4f3_14 rfl ?_
  refine V.if_ne (tgt := 22) X dJ6_getChars_ba4f3_16 (by decide) id id (fun hz => ?_) (fun hz => ?_)
  · exact absurd hz (fun h => h rfl)
  refine V.iload_n X dJ6_getChars_ba4f3_19 rfl ?_
  refine V.ineg (v := -nI v) X dJ6_getChars_ba4f3_20 rfl ?_
  refine V.istore_n (L' := [(0, .int (-nI v)), (6, .int (nI 0)), (5, .int (nI (n + dg v))), (1, .int (nI (n + dg v))), (2, .ref b)]) X dJ6_getChars_ba4f3_21 rfl hB9 (by decide) rfl ?_
  refine V.iload_n X dJ6_getChars_ba4f3_22 rfl ?_
  refine V.bipush (v := (-100)) X dJ6_getChars_ba4f3_23 (by decide) ?_
  refine V.icmp_gt (tgt := 72) X dJ6_getChars_ba4f3_25 (by decide) id id (fun hz => ?_) (fun hz => ?_)
  rotate_left
  · exact absurd (gc_1 v hv) hz
  refine V.aload_n X dJ6_getChars_ba4f3_72 rfl ?_
  refine V.iinc (v := (nI (n + dg v - 1))) (L' := [(5, .int (nI (n + dg v - 1))), (0, .int (-nI v)), (6, .int (nI 0)), (1, .int (nI (n + dg v))), (2, .ref b)]) X dJ6_getChars_ba4f3_73 rfl (dec1 _ (by omega) (by omega)) hB9 (by decide) rfl ?_
  refine V.iload X dJ6_getChars_ba4f3_76 rfl ?_
  refine V.getD1 X gw_5_111 dJ6_getChars_ba4f3_78 (fun t1 hT1 => ?_)
  refine V.iload_n X dJ6_getChars_ba4f3_81 rfl ?_
  refine V.ineg (v := nI v) X dJ6_getChars_ba4f3_82 (neg2 _) ?_
  refine V.tabb (v := nI (48 + v % 10)) X hT1 (vp_in_nI hv (by decide)) (by show nI (48 + (nI v).toNatClampNeg % 10) = _; rw [nI_clamp (by omega)]) dJ6_getChars_ba4f3_83 ?_
  refine wB_st (i := n + dg v - 1) (c := 48 + v % 10) X (by omega) (by omega) dJ6_getChars_ba4f3_84 ?_
  refine V.iload_n X dJ6_getChars_ba4f3_85 rfl ?_
  refine V.bipush (v := (-9)) X dJ6_getChars_ba4f3_86 (by decide) ?_
  refine V.icmp_ge (tgt := 104) X dJ6_getChars_ba4f3_88 (by decide) id id (fun hz => ?_) (fun hz => ?_)
  · have h10 : v < 10 := Decidable.byContradiction (fun h => gc_3 v hv h hz)
    refine V.iload X dJ6_getChars_ba4f3_104 rfl ?_
    refine V.if_eq (tgt := 118) X dJ6_getChars_ba4f3_106 (by decide) id id (fun hz => ?_) (fun hz => ?_)
    rotate_left
    · exact absurd (by decide) hz
    refine V.iload X dJ6_getChars_ba4f3_118 rfl ?_
    exact V.iret (v := (nI (n + dg v - 1))) X hE rfl rfl (Nat.le_of_ble_eq_true rfl) (Nat.le_of_ble_eq_true rfl) ⟨by rw [dg_t h10]; rfl, by rw [dg_t h10]; unfold apI; rw [if_pos h10]; rfl⟩ dJ6_getChars_ba4f3_120
  · have h10 : ¬ v < 10 := fun h => hz (gc_2 v h)
    refine V.aload_n X dJ6_getChars_ba4f3_91 rfl ?_
    refine V.iinc (v := (nI (n + dg v - 1 - 1))) (L' := [(5, .int (nI (n + dg v - 1 - 1))), (0, .int (-nI v)), (6, .int (nI 0)), (1, .int (nI (n + dg v))), (2, .ref b)]) X dJ6_getChars_ba4f3_92 rfl (dec1 _ (by omega) (by have := dg_f h10; omega)) hB9 (by decide) rfl ?_
    refine V.iload X dJ6_getChars_ba4f3_95 rfl ?_
    refine V.getD2 X gw_5_113 dJ6_getChars_ba4f3_97 (fun t2 hT2 => ?_)
    refine V.iload_n X dJ6_getChars_ba4f3_100 rfl ?_
    refine V.ineg (v := nI v) X dJ6_getChars_ba4f3_101 (neg2 _) ?_
    refine V.tabb (v := nI (48 + v / 10)) X hT2 (vp_in_nI hv (by decide)) (by show nI (48 + (nI v).toNatClampNeg / 10) = _; rw [nI_clamp (by omega)]) dJ6_getChars_ba4f3_102 ?_
    refine wB_st (i := n + dg v - 1 - 1) (c := 48 + v / 10) X (by omega) (by omega) dJ6_getChars_ba4f3_103 ?_
    refine V.iload X dJ6_getChars_ba4f3_104 rfl ?_
    refine V.if_eq (tgt := 118) X dJ6_getChars_ba4f3_106 (by decide) id id (fun hz => ?_) (fun hz => ?_)
    rotate_left
    · exact absurd (by decide) hz
    refine V.iload X dJ6_getChars_ba4f3_118 rfl ?_
    exact V.iret (v := (nI (n + dg v - 1 - 1))) X hE rfl rfl (Nat.le_of_ble_eq_true rfl) (Nat.le_of_ble_eq_true rfl) ⟨by rw [dg_f h10]; rfl, by rw [dg_f h10]; unfold apI; rw [if_neg h10]; rfl⟩ dJ6_getChars_ba4f3_120
set_option maxRecDepth 20000 in
set_option maxHeartbeats 4000000 in
theorem c_J5_append_c97b9 (l : Launch) (D : va_G) (cy : Nat → ClassId) (q b n v : Nat) (t : Nat → Nat) (F : va_W) (hv : v < 100) (hn : n + dg v ≤ 16) : Ctr l D cy yJ5_append_c97b9 (.code yJ5_append_c97b9 cJ5_append_c97b9 4 (some (FieldType.object "java/lang/AbstractStringBuilder"))) ({ frames := 2, cells := 0, slots := 0, locals := 120 } : Room) [.ref q, .int (nI v)] (wB cy q b n t ++ F) (pV (.ref q) (wB cy q b (n + dg v) (apI t n v) ++ F)) pNo := by
  refine Ctr.of (by decide) (Nat.le_of_ble_eq_true rfl) ?_
  intro M X hE hN hB9 hI9
  replace X : VX l D M cy cJ5_append_c97b9 "java/lang/AbstractStringBuilder" (some (FieldType.object "java/lang/AbstractStringBuilder")) ({ frames := 2, cells := 0, slots := 0, locals := 120 } : Room) := X
  show V l D M 0 0 (wB cy q b n t ++ F) [(0, .ref q), (1, .int (nI v))] 0 []
  refine V.aload_n X dJ5_append_c97b9_0 rfl ?_
  refine V.getf (q0 := 0) (ci := 1) (j := 3) (C := RJ4) (T := TJ4) (N := 4) (ref := "java/lang/AbstractStringBuilder") (v := .int (nI n)) X rfl rfl (Nat.le_of_ble_eq_true rfl) gw_5_50 inJ4 rfl rfl dJ5_append_c97b9_1 ?_
  refine V.istore_n (L' := [(2, .int (nI n)), (0, .ref q), (1, .int (nI v))]) X dJ5_append_c97b9_4 rfl hB9 (by decide) rfl ?_
  refine V.iload_n X dJ5_append_c97b9_5 rfl ?_
  refine V.iload_n X dJ5_append_c97b9_6 rfl ?_
  refine V.callS [.int (nI v)] X (c_J6_stringSize_0f7a4 l D cy v (wB cy q b n t ++ F) hv) ⟨gw_5_68, gw_1_15, gw_5_69, (by show _ ≠ _ ∧ _ ≠ _ ∧ _ = some (1 : Nat); decide +kernel)⟩ gw_5_67 ⟨⟨(Nat.le_of_ble_eq_true rfl), (Nat.le_of_ble_eq_true rfl)⟩, (Nat.le_of_ble_eq_true rfl), (Nat.le_of_ble_eq_true rfl)⟩ rfl (Nat.le_of_ble_eq_true rfl) dJ5_append_c97b9_7 (fun _ _ h9 => h9.elim) ?_
  rintro v9 u9 ⟨rfl, rfl⟩
  refine V.iadd (v := nI (n + dg v)) X dJ5_append_c97b9_10 (nI_add n (dg v)) ?_
  refine V.istore_n (L' := [(3, .int (nI (n + dg v))), (2, .int (nI n)), (0, .ref q), (1, .int (nI v))]) X dJ5_append_c97b9_11 rfl hB9 (by decide) rfl ?_
  refine V.aload_n X dJ5_append_c97b9_12 rfl ?_
  refine V.iload_n X dJ5_append_c97b9_13 rfl ?_
  refine V.callU (C := "java/lang/StringBuilder") (x := yJ5_ensureCapacityInternal_d00df) [.int (nI (n + dg v))] X (c_J5_ensureCapacityInternal_d00df l D cy q b n t F (n + dg v) hn) gw_5_72 gw_8_85 gw_1_19 gw_5_73 gw_5_72 gw_5_73 (fun _ _ h9 => h9 _ gx_0) (by show _ ≠ _ ∧ _ ≠ _ ∧ _ = some (1 : Nat); decide +kernel) gw_5_70 ⟨⟨(Nat.le_of_ble_eq_true rfl), (Nat.le_of_ble_eq_true rfl)⟩, (Nat.le_of_ble_eq_true rfl), (Nat.le_of_ble_eq_true rfl)⟩ (q0 := 0) (ci := 1) rfl rfl rfl (Nat.le_of_ble_eq_true rfl) dJ5_append_c97b9_14 ?_
  rintro v9 u9 ⟨rfl, rfl⟩
  refine V.aload_n X dJ5_append_c97b9_17 rfl ?_
  refine V.callU (C := "java/lang/StringBuilder") (x := yJ5_isLatin1_aae02) [] X (c_J5_isLatin1_aae02 l D cy q b n t F) gw_5_104 gw_5_105 gw_1_19 gw_5_107 gw_5_104 gw_5_107 (fun _ _ h9 => h9 _ gw_5_106) (by show _ ≠ _ ∧ _ ≠ _ ∧ _ = some (0 : Nat); decide +kernel) gw_5_103 ⟨⟨(Nat.le_of_ble_eq_true rfl), (Nat.le_of_ble_eq_true rfl)⟩, (Nat.le_of_ble_eq_true rfl), (Nat.le_of_ble_eq_true rfl)⟩ (q0 := 0) (ci := 1) rfl rfl rfl (Nat.le_of_ble_eq_true rfl) dJ5_append_c97b9_18 ?_
  rintro v9 u9 ⟨rfl, rfl⟩
  refine V.if_eq (tgt := 37) X dJ5_append_c97b9_21 (by decide) id id (fun hz => ?_) (fun hz => ?_)
  · exact absurd hz (by decide)
  refine V.iload_n X dJ5_append_c97b9_24 rfl ?_
  refine V.iload_n X dJ5_append_c97b9_25 rfl ?_
  refine V.aload_n X dJ5_append_c97b9_26 rfl ?_
  refine V.getf (q0 := 0) (ci := 1) (j := 0) (C := RJ4) (T := TJ4) (N := 4) (ref := "java/lang/AbstractStringBuilder") (v := .ref b) X rfl rfl (Nat.le_of_ble_eq_true rfl) gw_5_47 inJ4 rfl rfl dJ5_append_c97b9_27 ?_
  refine V.callS [.int (nI v), .int (nI (n + dg v)), .ref b] X (c_J6_getChars_ba4f3 l D cy q b n n v t F hv hn) ⟨gw_5_109, gw_1_15, gw_5_110, (by show _ ≠ _ ∧ _ ≠ _ ∧ _ = some (3 : Nat); decide +kernel)⟩ gw_5_108 ⟨⟨(Nat.le_of_ble_eq_true rfl), (Nat.le_of_ble_eq_true rfl)⟩, (Nat.le_of_ble_eq_true rfl), (Nat.le_of_ble_eq_true rfl)⟩ rfl (Nat.le_of_ble_eq_true rfl) dJ5_append_c97b9_30 (fun _ _ h9 => h9.elim) ?_
  rintro v9 u9 ⟨rfl, rfl⟩
  refine V.pop X dJ5_append_c97b9_33 rfl ?_
  refine V.goto (tgt := 48) X dJ5_append_c97b9_34 (by decide) ?_
  refine V.aload_n X dJ5_append_c97b9_48 rfl ?_
  refine V.iload_n X dJ5_append_c97b9_49 rfl ?_
  refine V.putf (q0 := 0) (ci := 1) (j := 3) (C := RJ4) (T := TJ4) (N := 4) (ref := "java/lang/AbstractStringBuilder") (ty := .int) (ty0 := tyJ4) (Wd' := wB cy q b (n + dg v) (apI t n v) ++ F) X rfl rfl (Nat.le_of_ble_eq_true rfl) gw_5_50 inJ4 rfl tyJ4_ok nmJ4 rfl (by decide +kernel) rfl rfl (Nat.le_of_ble_eq_true rfl) dJ5_append_c97b9_50 rfl ?_
  refine V.aload_n X dJ5_append_c97b9_53 rfl ?_
  exact V.aret X hE rfl (Or.inl ⟨_, rfl⟩) (Or.inr ⟨_, rfl⟩) (Nat.le_of_ble_eq_true rfl) (Nat.le_of_ble_eq_true rfl) ⟨rfl, rfl⟩ dJ5_append_c97b9_54
set_option maxRecDepth 20000 in
set_option maxHeartbeats 4000000 in
theorem c_J4_append_bf812 (l : Launch) (D : va_G) (cy : Nat → ClassId) (q b n v : Nat) (t : Nat → Nat) (F : va_W) (hv : v < 100) (hn : n + dg v ≤ 16) : Ctr l D cy yJ4_append_bf812 (.code yJ4_append_bf812 cJ4_append_bf812 2 (some (FieldType.object "java/lang/StringBuilder"))) ({ frames := 3, cells := 0, slots := 0, locals := 180 } : Room) [.ref q, .int (nI v)] (wB cy q b n t ++ F) (pV (.ref q) (wB cy q b (n + dg v) (apI t n v) ++ F)) pNo := by
  refine Ctr.of (by decide) (Nat.le_of_ble_eq_true rfl) ?_
  intro M X hE hN hB9 hI9
  replace X : VX l D M cy cJ4_append_bf812 "java/lang/StringBuilder" (some (FieldType.object "java/lang/StringBuilder")) ({ frames := 3, cells := 0, slots := 0, locals := 180 } : Room) := X
  show V l D M 0 0 (wB cy q b n t ++ F) [(0, .ref q), (1, .int (nI v))] 0 []
  refine V.aload_n X dJ4_append_bf812_0 rfl ?_
  refine V.iload_n X dJ4_append_bf812_1 rfl ?_
  refine V.callSU (C := "java/lang/StringBuilder") [.int (nI v)] X (c_J5_append_c97b9 l D cy q b n v t F hv hn) gw_5_65 gw_8_84 gw_1_19 gw_5_66 gw_5_59 (by show _ ≠ _ ∧ _ = some (1 : Nat); decide +kernel) gw_5_64 ⟨⟨(Nat.le_of_ble_eq_true rfl), (Nat.le_of_ble_eq_true rfl)⟩, (Nat.le_of_ble_eq_true rfl), (Nat.le_of_ble_eq_true rfl)⟩ (q0 := 0) (ci := 1) rfl rfl rfl (Nat.le_of_ble_eq_true rfl) dJ4_append_bf812_2 ?_
  rintro v9 u9 ⟨rfl, rfl⟩
  refine V.pop X dJ4_append_bf812_5 rfl ?_
  refine V.aload_n X dJ4_append_bf812_6 rfl ?_
  exact V.aret X hE rfl (Or.inl ⟨_, rfl⟩) (Or.inr ⟨_, rfl⟩) (Nat.le_of_ble_eq_true rfl) (Nat.le_of_ble_eq_true rfl) ⟨rfl, rfl⟩ dJ4_append_bf812_7
set_option maxRecDepth 20000 in
set_option maxHeartbeats 4000000 in
theorem c_J1_canEncode_fc78d (l : Launch) (D : va_G) (cy : Nat → ClassId) (c : Nat) (Wd : va_W) (hc : c < 128) : Ctr l D cy yJ1_canEncode_fc78d (.code yJ1_canEncode_fc78d cJ1_canEncode_fc78d 1 (some FieldType.boolean)) ({ frames := 1, cells := 0, slots := 0, locals := 60 } : Room) [.int (nI c)] (Wd) (pI 1 Wd) pNo := by
  refine Ctr.of (by decide) (Nat.le_of_ble_eq_true rfl) ?_
  intro M X hE hN hB9 hI9
  replace X : VX l D M cy cJ1_canEncode_fc78d "java/lang/StringLatin1" (some FieldType.boolean) ({ frames := 1, cells := 0, slots := 0, locals := 60 } : Room) := X
  show V l D M 0 0 (Wd) [(0, .int (nI c))] 0 []
  refine V.iload_n X dJ1_canEncode_fc78d_0 rfl ?_
  refine V.sipush (v := nI 255) X dJ1_canEncode_fc78d_1 (by decide) ?_
  refine V.icmp_gt (tgt := 11) X dJ1_canEncode_fc78d_4 (by decide) id id (fun hz => ?_) (fun hz => ?_)
  · exact absurd hz (ce_1 c hc)
  refine V.iconst (v := nI 1) X dJ1_canEncode_fc78d_7 rfl ?_
  refine V.goto (tgt := 12) X dJ1_canEncode_fc78d_8 (by decide) ?_
  exact V.iret (v := (nI 1)) X hE rfl rfl (Nat.le_of_ble_eq_true rfl) (Nat.le_of_ble_eq_true rfl) ⟨rfl, rfl⟩ dJ1_canEncode_fc78d_12
set_option maxRecDepth 20000 in
set_option maxHeartbeats 4000000 in
theorem c_J5_append_3fe6f (l : Launch) (D : va_G) (cy : Nat → ClassId) (q b n c : Nat) (t : Nat → Nat) (F : va_W) (hc : c < 128) (hn : n + 1 ≤ 16) : Ctr l D cy yJ5_append_3fe6f (.code yJ5_append_3fe6f cJ5_append_3fe6f 2 (some (FieldType.object "java/lang/AbstractStringBuilder"))) ({ frames := 2, cells := 0, slots := 0, locals := 120 } : Room) [.ref q, .int (nI c)] (wB cy q b n t ++ F) (pV (.ref q) (wB cy q b (n + 1) (up1 t n c) ++ F)) pNo := by
  refine Ctr.of (by decide) (Nat.le_of_ble_eq_true rfl) ?_
  intro M X hE hN hB9 hI9
  replace X : VX l D M cy cJ5_append_3fe6f "java/lang/AbstractStringBuilder" (some (FieldType.object "java/lang/AbstractStringBuilder")) ({ frames := 2, cells := 0, slots := 0, locals := 120 } : Room) := X
  show V l D M 0 0 (wB cy q b n t ++ F) [(0, .ref q), (1, .int (nI c))] 0 []
  refine V.aload_n X dJ5_append_3fe6f_0 rfl ?_
  refine V.aload_n X dJ5_append_3fe6f_1 rfl ?_
  refine V.getf (q0 := 0) (ci := 1) (j := 3) (C := RJ4) (T := TJ4) (N := 4) (ref := "java/lang/AbstractStringBuilder") (v := .int (nI n)) X rfl rfl (Nat.le_of_ble_eq_true rfl) gw_5_50 inJ4 rfl rfl dJ5_append_3fe6f_2 ?_
  refine V.iconst (v := nI 1) X dJ5_append_3fe6f_5 rfl ?_
  refine V.iadd (v := nI (n + 1)) X dJ5_append_3fe6f_6 (nI_add n 1) ?_
  refine V.callU (C := "java/lang/StringBuilder") (x := yJ5_ensureCapacityInternal_d00df) [.int (nI (n + 1))] X (c_J5_ensureCapacityInternal_d00df l D cy q b n t F (n + 1) hn) gw_5_72 gw_8_85 gw_1_19 gw_5_73 gw_5_72 gw_5_73 (fun _ _ h9 => h9 _ gx_0) (by show _ ≠ _ ∧ _ ≠ _ ∧ _ = some (1 : Nat); decide +kernel) gw_5_70 ⟨⟨(Nat.le_of_ble_eq_true rfl), (Nat.le_of_ble_eq_true rfl)⟩, (Nat.le_of_ble_eq_true rfl), (Nat.le_of_ble_eq_true rfl)⟩ (q0 := 0) (ci := 1) rfl rfl rfl (Nat.le_of_ble_eq_true rfl) dJ5_append_3fe6f_7 ?_
  rintro v9 u9 ⟨rfl, rfl⟩
  refine V.aload_n X dJ5_append_3fe6f_10 rfl ?_
  refine V.callU (C := "java/lang/StringBuilder") (x := yJ5_isLatin1_aae02) [] X (c_J5_isLatin1_aae02 l D cy q b n t F) gw_5_104 gw_5_105 gw_1_19 gw_5_107 gw_5_104 gw_5_107 (fun _ _ h9 => h9 _ gw_5_106) (by show _ ≠ _ ∧ _ ≠ _ ∧ _ = some (0 : Nat); decide +kernel) gw_5_103 ⟨⟨(Nat.le_of_ble_eq_true rfl), (Nat.le_of_ble_eq_true rfl)⟩, (Nat.le_of_ble_eq_true rfl), (Nat.le_of_ble_eq_true rfl)⟩ (q0 := 0) (ci := 1) rfl rfl rfl (Nat.le_of_ble_eq_true rfl) dJ5_append_3fe6f_11 ?_
  rintro v9 u9 ⟨rfl, rfl⟩
  refine V.if_eq (tgt := 45) X dJ5_append_3fe6f_14 (by decide) id id (fun hz => ?_) (fun hz => ?_)
  · exact absurd hz (by decide)
  refine V.iload_n X dJ5_append_3fe6f_17 rfl ?_
  refine V.callS [.int (nI c)] X (c_J1_canEncode_fc78d l D cy c (wB cy q b n t ++ F) hc) ⟨gw_5_154, gw_1_27, gw_5_155, (by show _ ≠ _ ∧ _ ≠ _ ∧ _ = some (1 : Nat); decide +kernel)⟩ gw_5_153 ⟨⟨(Nat.le_of_ble_eq_true rfl), (Nat.le_of_ble_eq_true rfl)⟩, (Nat.le_of_ble_eq_true rfl), (Nat.le_of_ble_eq_true rfl)⟩ rfl (Nat.le_of_ble_eq_true rfl) dJ5_append_3fe6f_18 (fun _ _ h9 => h9.elim) ?_
  rintro v9 u9 ⟨rfl, rfl⟩
  refine V.if_eq (tgt := 45) X dJ5_append_3fe6f_21 (by decide) id id (fun hz => ?_) (fun hz => ?_)
  · exact absurd hz (by decide)
  refine V.aload_n X dJ5_append_3fe6f_24 rfl ?_
  refine V.getf (q0 := 0) (ci := 1) (j := 0) (C := RJ4) (T := TJ4) (N := 4) (ref := "java/lang/AbstractStringBuilder") (v := .ref b) X rfl rfl (Nat.le_of_ble_eq_true rfl) gw_5_47 inJ4 rfl rfl dJ5_append_3fe6f_25 ?_
  refine V.aload_n X dJ5_append_3fe6f_28 rfl ?_
  refine V.dup X dJ5_append_3fe6f_29 rfl ?_
  refine V.getf (q0 := 0) (ci := 1) (j := 3) (C := RJ4) (T := TJ4) (N := 4) (ref := "java/lang/AbstractStringBuilder") (v := .int (nI n)) X rfl rfl (Nat.le_of_ble_eq_true rfl) gw_5_50 inJ4 rfl rfl dJ5_append_3fe6f_30 ?_
  refine V.dup_x1 X dJ5_append_3fe6f_33 rfl rfl ?_
  refine V.iconst (v := nI 1) X dJ5_append_3fe6f_34 rfl ?_
  refine V.iadd (v := nI (n + 1)) X dJ5_append_3fe6f_35 (nI_add n 1) ?_
  refine V.putf (q0 := 0) (ci := 1) (j := 3) (C := RJ4) (T := TJ4) (N := 4) (ref := "java/lang/AbstractStringBuilder") (ty := .int) (ty0 := tyJ4) (Wd' := wB cy q b (n + 1) t ++ F) X rfl rfl (Nat.le_of_ble_eq_true rfl) gw_5_50 inJ4 rfl tyJ4_ok nmJ4 rfl (by decide +kernel) rfl rfl (Nat.le_of_ble_eq_true rfl) dJ5_append_3fe6f_36 rfl ?_
  refine V.iload_n X dJ5_append_3fe6f_39 rfl ?_
  refine V.i2b (v := nI c) X dJ5_append_3fe6f_40 (i2b_by c hc) ?_
  refine wB_st (i := n) (c := c) X (by omega) hc dJ5_append_3fe6f_41 ?_
  refine V.goto (tgt := 75) X dJ5_append_3fe6f_42 (by decide) ?_
  refine V.aload_n X dJ5_append_3fe6f_75 rfl ?_
  exact V.aret X hE rfl (Or.inl ⟨_, rfl⟩) (Or.inr ⟨_, rfl⟩) (Nat.le_of_ble_eq_true rfl) (Nat.le_of_ble_eq_true rfl) ⟨rfl, rfl⟩ dJ5_append_3fe6f_76
set_option maxRecDepth 20000 in
set_option maxHeartbeats 4000000 in
theorem c_J4_append_cf468 (l : Launch) (D : va_G) (cy : Nat → ClassId) (q b n c : Nat) (t : Nat → Nat) (F : va_W) (hc : c < 128) (hn : n + 1 ≤ 16) : Ctr l D cy yJ4_append_cf468 (.code yJ4_append_cf468 cJ4_append_cf468 2 (some (FieldType.object "java/lang/StringBuilder"))) ({ frames := 3, cells := 0, slots := 0, locals := 180 } : Room) [.ref q, .int (nI c)] (wB cy q b n t ++ F) (pV (.ref q) (wB cy q b (n + 1) (up1 t n c) ++ F)) pNo := by
  refine Ctr.of (by decide) (Nat.le_of_ble_eq_true rfl) ?_
  intro M X hE hN hB9 hI9
  replace X : VX l D M cy cJ4_append_cf468 "java/lang/StringBuilder" (some (FieldType.object "java/lang/StringBuilder")) ({ frames := 3, cells := 0, slots := 0, locals := 180 } : Room) := X
  show V l D M 0 0 (wB cy q b n t ++ F) [(0, .ref q), (1, .int (nI c))] 0 []
  refine V.aload_n X dJ4_append_cf468_0 rfl ?_
  refine V.iload_n X dJ4_append_cf468_1 rfl ?_
  refine V.callSU (C := "java/lang/StringBuilder") [.int (nI c)] X (c_J5_append_3fe6f l D cy q b n c t F hc hn) gw_5_151 gw_8_87 gw_1_19 gw_5_152 gw_5_59 (by show _ ≠ _ ∧ _ = some (1 : Nat); decide +kernel) gw_5_150 ⟨⟨(Nat.le_of_ble_eq_true rfl), (Nat.le_of_ble_eq_true rfl)⟩, (Nat.le_of_ble_eq_true rfl), (Nat.le_of_ble_eq_true rfl)⟩ (q0 := 0) (ci := 1) rfl rfl rfl (Nat.le_of_ble_eq_true rfl) dJ4_append_cf468_2 ?_
  rintro v9 u9 ⟨rfl, rfl⟩
  refine V.pop X dJ4_append_cf468_5 rfl ?_
  refine V.aload_n X dJ4_append_cf468_6 rfl ?_
  exact V.aret X hE rfl (Or.inl ⟨_, rfl⟩) (Or.inr ⟨_, rfl⟩) (Nat.le_of_ble_eq_true rfl) (Nat.le_of_ble_eq_true rfl) ⟨rfl, rfl⟩ dJ4_append_cf468_7
set_option maxRecDepth 20000 in
set_option maxHeartbeats 4000000 in
theorem c_J5_init_d00df (l : Launch) (D : va_G) (cy : Nat → ClassId) (q : Nat) (F : va_W)  : Ctr l D cy yJ5_init_d00df (.code yJ5_init_d00df cJ5_init_d00df 2 none) ({ frames := 2, cells := 1, slots := 16, locals := 120 } : Room) [.ref q, .int (nI 16)] ((q, .inr (1, [.null, .int 0, .int 0, .int 0])) :: F) (fun v9 w9 => ∃ b : Nat, v9 = none ∧ w9 = wB cy q b 0 (fun _ => 0) ++ F) pNo := by
  refine Ctr.of (by decide) (Nat.le_of_ble_eq_true rfl) ?_
  intro M X hE hN hB9 hI9
  replace X : VX l D M cy cJ5_init_d00df "java/lang/AbstractStringBuilder" none ({ frames := 2, cells := 1, slots := 16, locals := 120 } : Room) := X
  show V l D M 0 0 ((q, .inr (1, [.null, .int 0, .int 0, .int 0])) :: F) [(0, .ref q), (1, .int (nI 16))] 0 []
  refine V.aload_n X dJ5_init_d00df_0 rfl ?_
  refine V.objI X gw_5_37 gw_1_34 gw_1_35 (Nat.le_of_ble_eq_true rfl) (Nat.le_of_ble_eq_true rfl) dJ5_init_d00df_1 ?_
  refine V.getCS X gw_5_38 dJ5_init_d00df_4 ?_
  refine V.if_eq (tgt := 25) X dJ5_init_d00df_7 (by decide) id id (fun hz => ?_) (fun hz => ?_)
  · exact absurd hz (by decide)
  refine V.aload_n X dJ5_init_d00df_10 rfl ?_
  refine V.iload_n X dJ5_init_d00df_11 rfl ?_
  refine V.newa9 (atype := .byte) (ty := .byte) (t0 := 3) (N' := 16) (a0 := (16, .inl (fun _ => 0))) (cA0 := cy 3) X gw_2_150 rfl rfl (fun _ => by intro h; cases h) (fun _ => rfl) (nI_pos (by decide)) (nI_clamp (by decide)) (Nat.le_of_ble_eq_true rfl) (Nat.le_of_ble_eq_true rfl) (Nat.le_of_ble_eq_true rfl) dJ5_init_d00df_12 (fun b => ?_)
  refine V.perm (Wd' := (q, .inr (1, [.null, .int 0, .int 0, .int 0])) :: (b, .inl (cy 3, 16, .inl (fun _ => 0))) :: F) (List.Perm.cons _ (List.perm_append_singleton _ F).symm) ?_
  refine V.putf (q0 := 0) (ci := 1) (j := 0) (C := RJ4) (T := TJ4) (N := 4) (ref := "java/lang/AbstractStringBuilder") (ty := (.array .byte)) (ty0 := tyJ4) (Wd' := (q, .inr (1, [.ref b, .int 0, .int 0, .int 0])) :: (b, .inl (cy 3, 16, .inl (fun _ => 0))) :: F) X rfl rfl (Nat.le_of_ble_eq_true rfl) gw_5_47 inJ4 rfl tyJ4_ok nmJ4 rfl (by decide +kernel) rfl rfl (Nat.le_of_ble_eq_true rfl) dJ5_init_d00df_14 rfl ?_
  refine V.aload_n X dJ5_init_d00df_17 rfl ?_
  refine V.iconst (v := nI 0) X dJ5_init_d00df_18 rfl ?_
  refine V.putf (q0 := 0) (ci := 1) (j := 1) (C := RJ4) (T := TJ4) (N := 4) (ref := "java/lang/AbstractStringBuilder") (ty := .byte) (ty0 := tyJ4) (Wd' := (q, .inr (1, [.ref b, .int (nI 0), .int 0, .int 0])) :: (b, .inl (cy 3, 16, .inl (fun _ => 0))) :: F) X rfl rfl (Nat.le_of_ble_eq_true rfl) gw_5_48 inJ4 rfl tyJ4_ok nmJ4 rfl (by decide +kernel) rfl rfl (Nat.le_of_ble_eq_true rfl) dJ5_init_d00df_19 rfl ?_
  refine V.goto (tgt := 38) X dJ5_init_d00df_22 (by decide) ?_
  exact V.vret X hE rfl (Nat.le_of_ble_eq_true rfl) (Nat.le_of_ble_eq_true rfl) ⟨b, rfl, rfl⟩ dJ5_init_d00df_38
set_option maxRecDepth 20000 in
set_option maxHeartbeats 4000000 in
theorem c_J4_init_da8c8 (l : Launch) (D : va_G) (cy : Nat → ClassId) (q : Nat) (F : va_W)  : Ctr l D cy yJ4_init_da8c8 (.code yJ4_init_da8c8 cJ4_init_da8c8 1 none) ({ frames := 3, cells := 1, slots := 16, locals := 180 } : Room) [.ref q] ((q, .inr (1, [.null, .int 0, .int 0, .int 0])) :: F) (fun v9 w9 => ∃ b : Nat, v9 = none ∧ w9 = wB cy q b 0 (fun _ => 0) ++ F) pNo := by
  refine Ctr.of (by decide) (Nat.le_of_ble_eq_true rfl) ?_
  intro M X hE hN hB9 hI9
  replace X : VX l D M cy cJ4_init_da8c8 "java/lang/StringBuilder" none ({ frames := 3, cells := 1, slots := 16, locals := 180 } : Room) := X
  show V l D M 0 0 ((q, .inr (1, [.null, .int 0, .int 0, .int 0])) :: F) [(0, .ref q)] 0 []
  refine V.aload_n X dJ4_init_da8c8_0 rfl ?_
  refine V.bipush (v := nI 16) X dJ4_init_da8c8_1 (by decide) ?_
  refine V.callI [.int (nI 16)] X (c_J5_init_d00df l D cy q F) ⟨gw_5_35, gw_1_19, gw_5_36, rfl, (by show _ ≠ _ ∧ _ ≠ _ ∧ _ = some (1 : Nat); decide +kernel)⟩ gw_5_34 ⟨⟨(Nat.le_of_ble_eq_true rfl), (Nat.le_of_ble_eq_true rfl)⟩, (Nat.le_of_ble_eq_true rfl), (Nat.le_of_ble_eq_true rfl)⟩ rfl (Nat.le_of_ble_eq_true rfl) dJ4_init_da8c8_3 ?_
  rintro v9 u9 ⟨b, rfl, rfl⟩
  exact V.vret X hE rfl (Nat.le_of_ble_eq_true rfl) (Nat.le_of_ble_eq_true rfl) ⟨b, rfl, rfl⟩ dJ4_init_da8c8_6
set_option maxRecDepth 20000 in
set_option maxHeartbeats 4000000 in
theorem c_J5_length_8abf5 (l : Launch) (D : va_G) (cy : Nat → ClassId) (q b n : Nat) (t : Nat → Nat) (F : va_W)  : Ctr l D cy yJ5_length_8abf5 (.code yJ5_length_8abf5 cJ5_length_8abf5 1 (some FieldType.int)) ({ frames := 1, cells := 0, slots := 0, locals := 60 } : Room) [.ref q] (wB cy q b n t ++ F) (pI (nI n) (wB cy q b n t ++ F)) pNo := by
  refine Ctr.of (by decide) (Nat.le_of_ble_eq_true rfl) ?_
  intro M X hE hN hB9 hI9
  replace X : VX l D M cy cJ5_length_8abf5 "java/lang/AbstractStringBuilder" (some FieldType.int) ({ frames := 1, cells := 0, slots := 0, locals := 60 } : Room) := X
  show V l D M 0 0 (wB cy q b n t ++ F) [(0, .ref q)] 0 []
  refine V.aload_n X dJ5_length_8abf5_0 rfl ?_
  refine V.getf (q0 := 0) (ci := 1) (j := 3) (C := RJ4) (T := TJ4) (N := 4) (ref := "java/lang/AbstractStringBuilder") (v := .int (nI n)) X rfl rfl (Nat.le_of_ble_eq_true rfl) gw_5_50 inJ4 rfl rfl dJ5_length_8abf5_1 ?_
  exact V.iret (v := (nI n)) X hE rfl rfl (Nat.le_of_ble_eq_true rfl) (Nat.le_of_ble_eq_true rfl) ⟨rfl, rfl⟩ dJ5_length_8abf5_4
set_option maxRecDepth 20000 in
set_option maxHeartbeats 4000000 in
theorem c_J4_length_8abf5 (l : Launch) (D : va_G) (cy : Nat → ClassId) (q b n : Nat) (t : Nat → Nat) (F : va_W)  : Ctr l D cy yJ4_length_8abf5 (.code yJ4_length_8abf5 cJ4_length_8abf5 1 (some FieldType.int)) ({ frames := 2, cells := 0, slots := 0, locals := 120 } : Room) [.ref q] (wB cy q b n t ++ F) (pI (nI n) (wB cy q b n t ++ F)) pNo := by
  refine Ctr.of (by decide) (Nat.le_of_ble_eq_true rfl) ?_
  intro M X hE hN hB9 hI9
  replace X : VX l D M cy cJ4_length_8abf5 "java/lang/StringBuilder" (some FieldType.int) ({ frames := 2, cells := 0, slots := 0, locals := 120 } : Room) := X
  show V l D M 0 0 (wB cy q b n t ++ F) [(0, .ref q)] 0 []
  refine V.aload_n X dJ4_length_8abf5_0 rfl ?_
  refine V.callSU (C := "java/lang/StringBuilder") [] X (c_J5_length_8abf5 l D cy q b n t F) gw_5_192 gw_8_89 gw_1_19 gw_5_193 gw_5_59 (by show _ ≠ _ ∧ _ = some (0 : Nat); decide +kernel) gw_5_191 ⟨⟨(Nat.le_of_ble_eq_true rfl), (Nat.le_of_ble_eq_true rfl)⟩, (Nat.le_of_ble_eq_true rfl), (Nat.le_of_ble_eq_true rfl)⟩ (q0 := 0) (ci := 1) rfl rfl rfl (Nat.le_of_ble_eq_true rfl) dJ4_length_8abf5_1 ?_
  rintro v9 u9 ⟨rfl, rfl⟩
  exact V.iret (v := (nI n)) X hE rfl rfl (Nat.le_of_ble_eq_true rfl) (Nat.le_of_ble_eq_true rfl) ⟨rfl, rfl⟩ dJ4_length_8abf5_4
set_option maxRecDepth 20000 in
set_option maxHeartbeats 4000000 in
theorem c_J3_checkIndex_8e157n (l : Launch) (D : va_G) (cy : Nat → ClassId) (i n : Nat) (Wd : va_W) (hi : i < n) (hn : n ≤ 16) : Ctr l D cy yJ3_checkIndex_8e157 (.code yJ3_checkIndex_8e157 cJ3_checkIndex_8e157 3 (some FieldType.int)) ({ frames := 1, cells := 0, slots := 0, locals := 60 } : Room) [.int (nI i), .int (nI n), .null] (Wd) (pI (nI i) Wd) pNo := by
  refine Ctr.of (by decide) (Nat.le_of_ble_eq_true rfl) ?_
  intro M X hE hN hB9 hI9
  replace X : VX l D M cy cJ3_checkIndex_8e157 "jdk/internal/util/Preconditions" (some FieldType.int) ({ frames := 1, cells := 0, slots := 0, locals := 60 } : Room) := X
  show V l D M 0 0 (Wd) [(0, .int (nI i)), (1, .int (nI n)), (2, .null)] 0 []
  refine V.iload_n X dJ3_checkIndex_8e157_0 rfl ?_
  refine V.if_lt (tgt := 9) X dJ3_checkIndex_8e157_1 (by decide) id id (fun hz => ?_) (fun hz => ?_)
  · exact absurd hz (nI_pos (by omega))
  refine V.iload_n X dJ3_checkIndex_8e157_4 rfl ?_
  refine V.iload_n X dJ3_checkIndex_8e157_5 rfl ?_
  refine V.icmp_lt (tgt := 16) X dJ3_checkIndex_8e157_6 (by decide) id id (fun hz => ?_) (fun hz => ?_)
  rotate_left
  · exact absurd (nI_lt hi (by omega)) hz
  refine V.iload_n X dJ3_checkIndex_8e157_16 rfl ?_
  exact V.iret (v := (nI i)) X hE rfl rfl (Nat.le_of_ble_eq_true rfl) (Nat.le_of_ble_eq_true rfl) ⟨rfl, rfl⟩ dJ3_checkIndex_8e157_17
set_option maxRecDepth 20000 in
set_option maxHeartbeats 4000000 in
theorem c_J3_checkIndex_8e157s (l : Launch) (D : va_G) (cy : Nat → ClassId) (i n : Nat) (t9 : Nat) (Wd : va_W) (hi : i < n) (hn : n ≤ 16) : Ctr l D cy yJ3_checkIndex_8e157 (.code yJ3_checkIndex_8e157 cJ3_checkIndex_8e157 3 (some FieldType.int)) ({ frames := 1, cells := 0, slots := 0, locals := 60 } : Room) [.int (nI i), .int (nI n), .ref t9] (Wd) (pI (nI i) Wd) pNo := by
  refine Ctr.of (by decide) (Nat.le_of_ble_eq_true rfl) ?_
  intro M X hE hN hB9 hI9
  replace X : VX l D M cy cJ3_checkIndex_8e157 "jdk/internal/util/Preconditions" (some FieldType.int) ({ frames := 1, cells := 0, slots := 0, locals := 60 } : Room) := X
  show V l D M 0 0 (Wd) [(0, .int (nI i)), (1, .int (nI n)), (2, .ref t9)] 0 []
  refine V.iload_n X dJ3_checkIndex_8e157_0 rfl ?_
  refine V.if_lt (tgt := 9) X dJ3_checkIndex_8e157_1 (by decide) id id (fun hz => ?_) (fun hz => ?_)
  · exact absurd hz (nI_pos (by omega))
  refine V.iload_n X dJ3_checkIndex_8e157_4 rfl ?_
  refine V.iload_n X dJ3_checkIndex_8e157_5 rfl ?_
  refine V.icmp_lt (tgt := 16) X dJ3_checkIndex_8e157_6 (by decide) id id (fun hz => ?_) (fun hz => ?_)
  rotate_left
  · exact absurd (nI_lt hi (by omega)) hz
  refine V.iload_n X dJ3_checkIndex_8e157_16 rfl ?_
  exact V.iret (v := (nI i)) X hE rfl rfl (Nat.le_of_ble_eq_true rfl) (Nat.le_of_ble_eq_true rfl) ⟨rfl, rfl⟩ dJ3_checkIndex_8e157_17
set_option maxRecDepth 20000 in
set_option maxHeartbeats 4000000 in
theorem c_J0_checkIndex_df160 (l : Launch) (D : va_G) (cy : Nat → ClassId) (i n : Nat) (Wd : va_W) (hi : i < n) (hn : n ≤ 16) : Ctr l D cy yJ0_checkIndex_df160 (.code yJ0_checkIndex_df160 cJ0_checkIndex_df160 2 none) ({ frames := 2, cells := 0, slots := 0, locals := 120 } : Room) [.int (nI i), .int (nI n)] (Wd) (pU Wd) pNo := by
  refine Ctr.of (by decide) (Nat.le_of_ble_eq_true rfl) ?_
  intro M X hE hN hB9 hI9
  replace X : VX l D M cy cJ0_checkIndex_df160 "java/lang/String" none ({ frames := 2, cells := 0, slots := 0, locals := 120 } : Room) := X
  show V l D M 0 0 (Wd) [(0, .int (nI i)), (1, .int (nI n))] 0 []
  refine V.iload_n X dJ0_checkIndex_df160_0 rfl ?_
  refine V.iload_n X dJ0_checkIndex_df160_1 rfl ?_
  refine V.getFm X gw_5_127 dJ0_checkIndex_df160_2 (fun o => ?_)
  cases o with
  | none =>
    refine V.callS [.int (nI i), .int (nI n), .null] X (c_J3_checkIndex_8e157n l D cy i n Wd hi hn) ⟨gw_5_185, gw_1_26, gw_5_186, (by show _ ≠ _ ∧ _ ≠ _ ∧ _ = some (3 : Nat); decide +kernel)⟩ gw_5_184 ⟨⟨(Nat.le_of_ble_eq_true rfl), (Nat.le_of_ble_eq_true rfl)⟩, (Nat.le_of_ble_eq_true rfl), (Nat.le_of_ble_eq_true rfl)⟩ rfl (Nat.le_of_ble_eq_true rfl) dJ0_checkIndex_df160_5 (fun _ _ h9 => h9.elim) ?_
    rintro v9 u9 ⟨rfl, rfl⟩
    refine V.pop X dJ0_checkIndex_df160_8 rfl ?_
    exact V.vret X hE rfl (Nat.le_of_ble_eq_true rfl) (Nat.le_of_ble_eq_true rfl) ⟨rfl, rfl⟩ dJ0_checkIndex_df160_9
  | some t9 =>
    refine V.callS [.int (nI i), .int (nI n), .ref t9] X (c_J3_checkIndex_8e157s l D cy i n t9 Wd hi hn) ⟨gw_5_185, gw_1_26, gw_5_186, (by show _ ≠ _ ∧ _ ≠ _ ∧ _ = some (3 : Nat); decide +kernel)⟩ gw_5_184 ⟨⟨(Nat.le_of_ble_eq_true rfl), (Nat.le_of_ble_eq_true rfl)⟩, (Nat.le_of_ble_eq_true rfl), (Nat.le_of_ble_eq_true rfl)⟩ rfl (Nat.le_of_ble_eq_true rfl) dJ0_checkIndex_df160_5 (fun _ _ h9 => h9.elim) ?_
    rintro v9 u9 ⟨rfl, rfl⟩
    refine V.pop X dJ0_checkIndex_df160_8 rfl ?_
    exact V.vret X hE rfl (Nat.le_of_ble_eq_true rfl) (Nat.le_of_ble_eq_true rfl) ⟨rfl, rfl⟩ dJ0_checkIndex_df160_9
set_option maxRecDepth 20000 in
set_option maxHeartbeats 4000000 in
theorem c_J5_charAt_5068e (l : Launch) (D : va_G) (cy : Nat → ClassId) (q b n : Nat) (t : Nat → Nat) (F : va_W) (i : Nat) (hi : i < n) (hn : n ≤ 16) (ht : ∀ j, t j < 128) : Ctr l D cy yJ5_charAt_5068e (.code yJ5_charAt_5068e cJ5_charAt_5068e 5 (some FieldType.char)) ({ frames := 3, cells := 0, slots := 0, locals := 180 } : Room) [.ref q, .int (nI i)] (wB cy q b n t ++ F) (pI (nI (t i)) (wB cy q b n t ++ F)) pNo := by
  refine Ctr.of (by decide) (Nat.le_of_ble_eq_true rfl) ?_
  intro M X hE hN hB9 hI9
  replace X : VX l D M cy cJ5_charAt_5068e "java/lang/AbstractStringBuilder" (some FieldType.char) ({ frames := 3, cells := 0, slots := 0, locals := 180 } : Room) := X
  show V l D M 0 0 (wB cy q b n t ++ F) [(0, .ref q), (1, .int (nI i))] 0 []
  refine V.aload_n X dJ5_charAt_5068e_0 rfl ?_
  refine V.getf (q0 := 0) (ci := 1) (j := 1) (C := RJ4) (T := TJ4) (N := 4) (ref := "java/lang/AbstractStringBuilder") (v := .int 0) X rfl rfl (Nat.le_of_ble_eq_true rfl) gw_5_48 inJ4 rfl rfl dJ5_charAt_5068e_1 ?_
  refine V.istore_n (L' := [(2, .int 0), (0, .ref q), (1, .int (nI i))]) X dJ5_charAt_5068e_4 rfl hB9 (by decide) rfl ?_
  refine V.aload_n X dJ5_charAt_5068e_5 rfl ?_
  refine V.getf (q0 := 0) (ci := 1) (j := 0) (C := RJ4) (T := TJ4) (N := 4) (ref := "java/lang/AbstractStringBuilder") (v := .ref b) X rfl rfl (Nat.le_of_ble_eq_true rfl) gw_5_47 inJ4 rfl rfl dJ5_charAt_5068e_6 ?_
  refine V.astore_n (L' := [(3, .ref b), (2, .int 0), (0, .ref q), (1, .int (nI i))]) X dJ5_charAt_5068e_9 rfl hB9 (by decide) rfl ?_
  refine V.aload_n X dJ5_charAt_5068e_10 rfl ?_
  refine V.getf (q0 := 0) (ci := 1) (j := 3) (C := RJ4) (T := TJ4) (N := 4) (ref := "java/lang/AbstractStringBuilder") (v := .int (nI n)) X rfl rfl (Nat.le_of_ble_eq_true rfl) gw_5_50 inJ4 rfl rfl dJ5_charAt_5068e_11 ?_
  refine V.aload_n X dJ5_charAt_5068e_14 rfl ?_
  refine V.alen (q0 := 1) (t0 := 3) (ty := .byte) (v := nI 16) X rfl rfl rfl dJ5_charAt_5068e_15 ?_
  refine V.iload_n X dJ5_charAt_5068e_16 rfl ?_
  refine V.ishr (v := nI 16) X dJ5_charAt_5068e_17 (by decide) ?_
  refine V.mmin (v := nI n) X gw_5_209 gw_5_98 gw_1_18 gw_5_99 (Nat.le_of_ble_eq_true rfl) (Nat.le_of_ble_eq_true rfl) (Nat.le_of_ble_eq_true rfl) (Nat.le_of_ble_eq_true rfl) dJ5_charAt_5068e_18 (min_1 n (by omega)) ?_
  refine V.istore (L' := [(4, .int (nI n)), (3, .ref b), (2, .int 0), (0, .ref q), (1, .int (nI i))]) X dJ5_charAt_5068e_21 hB9 (by decide) rfl ?_
  refine V.iload_n X dJ5_charAt_5068e_23 rfl ?_
  refine V.iload X dJ5_charAt_5068e_24 rfl ?_
  refine V.callS [.int (nI i), .int (nI n)] X (c_J0_checkIndex_df160 l D cy i n (wB cy q b n t ++ F) hi hn) ⟨gw_5_182, gw_1_21, gw_5_183, (by show _ ≠ _ ∧ _ ≠ _ ∧ _ = some (2 : Nat); decide +kernel)⟩ gw_5_210 ⟨⟨(Nat.le_of_ble_eq_true rfl), (Nat.le_of_ble_eq_true rfl)⟩, (Nat.le_of_ble_eq_true rfl), (Nat.le_of_ble_eq_true rfl)⟩ rfl (Nat.le_of_ble_eq_true rfl) dJ5_charAt_5068e_26 (fun _ _ h9 => h9.elim) ?_
  rintro v9 u9 ⟨rfl, rfl⟩
  refine V.iload_n X dJ5_charAt_5068e_29 rfl ?_
  refine V.if_ne (tgt := 42) X dJ5_charAt_5068e_30 (by decide) id id (fun hz => ?_) (fun hz => ?_)
  · exact absurd hz (fun h => h rfl)
  refine V.aload_n X dJ5_charAt_5068e_33 rfl ?_
  refine V.iload_n X dJ5_charAt_5068e_34 rfl ?_
  refine wB_ld (i := i) X (by omega) dJ5_charAt_5068e_35 ?_
  refine V.sipush (v := nI 255) X dJ5_charAt_5068e_36 (by decide) ?_
  refine V.iand (v := nI (t i)) X dJ5_charAt_5068e_39 (and255 _ (ht i)) ?_
  refine V.i2c (v := nI (t i)) X dJ5_charAt_5068e_40 (i2c_by _ (ht i)) ?_
  exact V.iret (v := (nI (t i))) X hE rfl (nar_ch _ (ht i)) (Nat.le_of_ble_eq_true rfl) (Nat.le_of_ble_eq_true rfl) ⟨rfl, rfl⟩ dJ5_charAt_5068e_41
set_option maxRecDepth 20000 in
set_option maxHeartbeats 4000000 in
theorem c_J4_charAt_5068e (l : Launch) (D : va_G) (cy : Nat → ClassId) (q b n : Nat) (t : Nat → Nat) (F : va_W) (i : Nat) (hi : i < n) (hn : n ≤ 16) (ht : ∀ j, t j < 128) : Ctr l D cy yJ4_charAt_5068e (.code yJ4_charAt_5068e cJ4_charAt_5068e 2 (some FieldType.char)) ({ frames := 4, cells := 0, slots := 0, locals := 240 } : Room) [.ref q, .int (nI i)] (wB cy q b n t ++ F) (pI (nI (t i)) (wB cy q b n t ++ F)) pNo := by
  refine Ctr.of (by decide) (Nat.le_of_ble_eq_true rfl) ?_
  intro M X hE hN hB9 hI9
  replace X : VX l D M cy cJ4_charAt_5068e "java/lang/StringBuilder" (some FieldType.char) ({ frames := 4, cells := 0, slots := 0, locals := 240 } : Room) := X
  show V l D M 0 0 (wB cy q b n t ++ F) [(0, .ref q), (1, .int (nI i))] 0 []
  refine V.aload_n X dJ4_charAt_5068e_0 rfl ?_
  refine V.iload_n X dJ4_charAt_5068e_1 rfl ?_
  refine V.callSU (C := "java/lang/StringBuilder") [.int (nI i)] X (c_J5_charAt_5068e l D cy q b n t F i hi hn ht) gw_5_207 gw_8_90 gw_1_19 gw_5_208 gw_5_59 (by show _ ≠ _ ∧ _ = some (1 : Nat); decide +kernel) gw_5_206 ⟨⟨(Nat.le_of_ble_eq_true rfl), (Nat.le_of_ble_eq_true rfl)⟩, (Nat.le_of_ble_eq_true rfl), (Nat.le_of_ble_eq_true rfl)⟩ (q0 := 0) (ci := 1) rfl rfl rfl (Nat.le_of_ble_eq_true rfl) dJ4_charAt_5068e_2 ?_
  rintro v9 u9 ⟨rfl, rfl⟩
  exact V.iret (v := (nI (t i))) X hE rfl (nar_ch _ (ht i)) (Nat.le_of_ble_eq_true rfl) (Nat.le_of_ble_eq_true rfl) ⟨rfl, rfl⟩ dJ4_charAt_5068e_5
set_option maxRecDepth 20000 in
set_option maxHeartbeats 4000000 in
theorem c_J5_getValue_6d5f1 (l : Launch) (D : va_G) (cy : Nat → ClassId) (q b n : Nat) (t : Nat → Nat) (F : va_W)  : Ctr l D cy yJ5_getValue_6d5f1 (.code yJ5_getValue_6d5f1 cJ5_getValue_6d5f1 1 (some (FieldType.array FieldType.byte))) ({ frames := 1, cells := 0, slots := 0, locals := 60 } : Room) [.ref q] (wB cy q b n t ++ F) (pV (.ref b) (wB cy q b n t ++ F)) pNo := by
  refine Ctr.of (by decide) (Nat.le_of_ble_eq_true rfl) ?_
  intro M X hE hN hB9 hI9
  replace X : VX l D M cy cJ5_getValue_6d5f1 "java/lang/AbstractStringBuilder" (some (FieldType.array FieldType.byte)) ({ frames := 1, cells := 0, slots := 0, locals := 60 } : Room) := X
  show V l D M 0 0 (wB cy q b n t ++ F) [(0, .ref q)] 0 []
  refine V.aload_n X dJ5_getValue_6d5f1_0 rfl ?_
  refine V.getf (q0 := 0) (ci := 1) (j := 0) (C := RJ4) (T := TJ4) (N := 4) (ref := "java/lang/AbstractStringBuilder") (v := .ref b) X rfl rfl (Nat.le_of_ble_eq_true rfl) gw_5_47 inJ4 rfl rfl dJ5_getValue_6d5f1_1 ?_
  exact V.aret X hE rfl (Or.inr ⟨_, rfl⟩) (Or.inr ⟨_, rfl⟩) (Nat.le_of_ble_eq_true rfl) (Nat.le_of_ble_eq_true rfl) ⟨rfl, rfl⟩ dJ5_getValue_6d5f1_4
set_option maxRecDepth 20000 in
set_option maxHeartbeats 4000000 in
theorem c_J7_checkLength_df160 (l : Launch) (D : va_G) (cy : Nat → ClassId) (n : Nat) (Wd : va_W) (hn : n < 17) : Ctr l D cy yJ7_checkLength_df160 (.code yJ7_checkLength_df160 cJ7_checkLength_df160 2 none) ({ frames := 1, cells := 0, slots := 0, locals := 60 } : Room) [.int (nI 0), .int (nI n)] (Wd) (pU Wd) pNo := by
  refine Ctr.of (by decide) (Nat.le_of_ble_eq_true rfl) ?_
  intro M X hE hN hB9 hI9
  replace X : VX l D M cy cJ7_checkLength_df160 "java/util/Arrays" none ({ frames := 1, cells := 0, slots := 0, locals := 60 } : Room) := X
  show V l D M 0 0 (Wd) [(0, .int (nI 0)), (1, .int (nI n))] 0 []
  refine V.iload_n X dJ7_checkLength_df160_0 rfl ?_
  refine V.iload_n X dJ7_checkLength_df160_1 rfl ?_
  refine V.icmp_ge (tgt := 37) X dJ7_checkLength_df160_2 (by decide) id id (fun hz => ?_) (fun hz => ?_)
  rotate_left
  · exact absurd (le_0 n hn) hz
  exact V.vret X hE rfl (Nat.le_of_ble_eq_true rfl) (Nat.le_of_ble_eq_true rfl) ⟨rfl, rfl⟩ dJ7_checkLength_df160_37
set_option maxRecDepth 20000 in
set_option maxHeartbeats 4000000 in
theorem c_J7_copyOfRangeByte_39247 (l : Launch) (D : va_G) (cy : Nat → ClassId) (q b n : Nat) (t : Nat → Nat) (F : va_W) (hn : n < 16) (ht : ∀ j, t j < 128) : Ctr l D cy yJ7_copyOfRangeByte_39247 (.code yJ7_copyOfRangeByte_39247 cJ7_copyOfRangeByte_39247 5 (some (FieldType.array FieldType.byte))) ({ frames := 2, cells := 1, slots := 16, locals := 180 } : Room) [.ref b, .int (nI 0), .int (nI n)] (wB cy q b n t ++ F) (fun v9 w9 => ∃ a2 : Nat, v9 = some (.ref a2) ∧ w9 = (a2, .inl (cy 3, n, .inl (gS n t))) :: (wB cy q b n t ++ F)) pNo := by
  refine Ctr.of (by decide) (Nat.le_of_ble_eq_true rfl) ?_
  intro M X hE hN hB9 hI9
  replace X : VX l D M cy cJ7_copyOfRangeByte_39247 "java/util/Arrays" (some (FieldType.array FieldType.byte)) ({ frames := 2, cells := 1, slots := 16, locals := 180 } : Room) := X
  show V l D M 0 0 (wB cy q b n t ++ F) [(0, .ref b), (1, .int (nI 0)), (2, .int (nI n))] 0 []
  refine V.iload_n X dJ7_copyOfRangeByte_39247_0 rfl ?_
  refine V.iload_n X dJ7_copyOfRangeByte_39247_1 rfl ?_
  refine V.callS [.int (nI 0), .int (nI n)] X (c_J7_checkLength_df160 l D cy n (wB cy q b n t ++ F) (by omega)) ⟨gw_7_220, gw_1_24, gw_7_221, (by show _ ≠ _ ∧ _ ≠ _ ∧ _ = some (2 : Nat); decide +kernel)⟩ gw_7_219 ⟨⟨(Nat.le_of_ble_eq_true rfl), (Nat.le_of_ble_eq_true rfl)⟩, (Nat.le_of_ble_eq_true rfl), (Nat.le_of_ble_eq_true rfl)⟩ rfl (Nat.le_of_ble_eq_true rfl) dJ7_copyOfRangeByte_39247_2 (fun _ _ h9 => h9.elim) ?_
  rintro v9 u9 ⟨rfl, rfl⟩
  refine V.iload_n X dJ7_copyOfRangeByte_39247_5 rfl ?_
  refine V.iload_n X dJ7_copyOfRangeByte_39247_6 rfl ?_
  refine V.isub (v := nI n) X dJ7_copyOfRangeByte_39247_7 (sub_0 n (by omega)) ?_
  refine V.istore_n (L' := [(3, .int (nI n)), (0, .ref b), (1, .int (nI 0)), (2, .int (nI n))]) X dJ7_copyOfRangeByte_39247_8 rfl hB9 (by decide) rfl ?_
  refine V.iload_n X dJ7_copyOfRangeByte_39247_9 rfl ?_
  refine V.newa9 (atype := .byte) (ty := .byte) (t0 := 3) (N' := n) (a0 := (n, .inl (fun _ => 0))) (cA0 := cy 3) X gw_2_150 rfl rfl (fun _ => by intro h; cases h) (fun _ => rfl) (nI_pos (by omega)) (nI_clamp (by omega)) (by show n * 1 ≤ 536870912; omega) (Nat.le_of_ble_eq_true rfl) (show 0 + 0 + n ≤ 16 by omega) dJ7_copyOfRangeByte_39247_10 (fun a2 => ?_)
  refine V.widen (k2 := 1) (n2 := 16) (by decide) (show 0 + 0 + n ≤ 16 by omega) ?_
  refine V.perm (Wd' := (a2, .inl (cy 3, n, .inl (fun _ => 0))) :: (wB cy q b n t ++ F)) (List.perm_append_singleton _ (wB cy q b n t ++ F)).symm ?_
  refine V.astore (L' := [(4, .ref a2), (3, .int (nI n)), (0, .ref b), (1, .int (nI 0)), (2, .int (nI n))]) X dJ7_copyOfRangeByte_39247_12 hB9 (by decide) rfl ?_
  refine V.aload_n X dJ7_copyOfRangeByte_39247_14 rfl ?_
  refine V.iload_n X dJ7_copyOfRangeByte_39247_15 rfl ?_
  refine V.aload X dJ7_copyOfRangeByte_39247_16 rfl ?_
  refine V.iconst (v := nI 0) X dJ7_copyOfRangeByte_39247_18 rfl ?_
  refine V.aload_n X dJ7_copyOfRangeByte_39247_19 rfl ?_
  refine V.alen (q0 := 2) (t0 := 3) (ty := .byte) (v := nI 16) X rfl rfl rfl dJ7_copyOfRangeByte_39247_20 ?_
  refine V.iload_n X dJ7_copyOfRangeByte_39247_21 rfl ?_
  refine V.isub (v := nI 16) X dJ7_copyOfRangeByte_39247_22 (by decide) ?_
  refine V.iload_n X dJ7_copyOfRangeByte_39247_23 rfl ?_
  refine V.mmin (v := nI n) X gw_5_97 gw_5_98 gw_1_18 gw_5_99 (Nat.le_of_ble_eq_true rfl) (Nat.le_of_ble_eq_true rfl) (Nat.le_of_ble_eq_true rfl) (Nat.le_of_ble_eq_true rfl) dJ7_copyOfRangeByte_39247_24 (min_2 n (by omega)) ?_
  refine V.acopy (q0 := 2) (q1 := 0) (n0 := 16) (n1 := n) (Wd' := (a2, .inl (cy 3, n, .inl (gS n t))) :: (wB cy q b n t ++ F)) X gw_5_100 gw_5_102 gw_5_101 gw_1_25 rfl rfl (by decide) (by decide) (nI_pos (by omega)) (by rw [nI_clamp (show n < 2147483648 by omega), nI_clamp (show 0 < 2147483648 by decide)]; omega) (by rw [nI_clamp (show n < 2147483648 by omega), nI_clamp (show 0 < 2147483648 by decide)]; omega) (fun j _ => nar_b3 _ (ht _)) (Nat.le_of_ble_eq_true rfl) (Nat.le_of_ble_eq_true rfl) dJ7_copyOfRangeByte_39247_27 (by rw [cpy_gS t (by omega)]; rfl) ?_
  refine V.aload X dJ7_copyOfRangeByte_39247_30 rfl ?_
  exact V.aret X hE rfl (Or.inr ⟨_, rfl⟩) (Or.inr ⟨_, rfl⟩) (Nat.le_of_ble_eq_true rfl) (Nat.le_of_ble_eq_true rfl) ⟨a2, rfl, rfl⟩ dJ7_copyOfRangeByte_39247_32
set_option maxRecDepth 20000 in
set_option maxHeartbeats 4000000 in
theorem c_J7_copyOfRange_39247 (l : Launch) (D : va_G) (cy : Nat → ClassId) (q b n : Nat) (t : Nat → Nat) (F : va_W) (hn : n < 16) (ht : ∀ j, t j < 128) : Ctr l D cy yJ7_copyOfRange_39247 (.code yJ7_copyOfRange_39247 cJ7_copyOfRange_39247 3 (some (FieldType.array FieldType.byte))) ({ frames := 3, cells := 1, slots := 16, locals := 240 } : Room) [.ref b, .int (nI 0), .int (nI n)] (wB cy q b n t ++ F) (fun v9 w9 => ∃ a2 : Nat, v9 = some (.ref a2) ∧ w9 = (a2, .inl (cy 3, n, .inl (gS n t))) :: (wB cy q b n t ++ F)) pNo := by
  refine Ctr.of (by decide) (Nat.le_of_ble_eq_true rfl) ?_
  intro M X hE hN hB9 hI9
  replace X : VX l D M cy cJ7_copyOfRange_39247 "java/util/Arrays" (some (FieldType.array FieldType.byte)) ({ frames := 3, cells := 1, slots := 16, locals := 240 } : Room) := X
  show V l D M 0 0 (wB cy q b n t ++ F) [(0, .ref b), (1, .int (nI 0)), (2, .int (nI n))] 0 []
  refine V.iload_n X dJ7_copyOfRange_39247_0 rfl ?_
  refine V.if_ne (tgt := 10) X dJ7_copyOfRange_39247_1 (by decide) id id (fun hz => ?_) (fun hz => ?_)
  · exact absurd hz (fun h => h rfl)
  refine V.iload_n X dJ7_copyOfRange_39247_4 rfl ?_
  refine V.aload_n X dJ7_copyOfRange_39247_5 rfl ?_
  refine V.alen (q0 := 1) (t0 := 3) (ty := .byte) (v := nI 16) X rfl rfl rfl dJ7_copyOfRange_39247_6 ?_
  refine V.icmp_eq (tgt := 17) X dJ7_copyOfRange_39247_7 (by decide) id id (fun hz => ?_) (fun hz => ?_)
  · exact absurd hz (ne_16 n hn)
  refine V.aload_n X dJ7_copyOfRange_39247_10 rfl ?_
  refine V.iload_n X dJ7_copyOfRange_39247_11 rfl ?_
  refine V.iload_n X dJ7_copyOfRange_39247_12 rfl ?_
  refine V.callS [.ref b, .int (nI 0), .int (nI n)] X (c_J7_copyOfRangeByte_39247 l D cy q b n t F hn ht) ⟨gw_7_217, gw_1_24, gw_7_218, (by show _ ≠ _ ∧ _ ≠ _ ∧ _ = some (3 : Nat); decide +kernel)⟩ gw_7_216 ⟨⟨(Nat.le_of_ble_eq_true rfl), (Nat.le_of_ble_eq_true rfl)⟩, (Nat.le_of_ble_eq_true rfl), (Nat.le_of_ble_eq_true rfl)⟩ rfl (Nat.le_of_ble_eq_true rfl) dJ7_copyOfRange_39247_13 (fun _ _ h9 => h9.elim) ?_
  rintro v9 u9 ⟨a2, rfl, rfl⟩
  exact V.aret X hE rfl (Or.inr ⟨_, rfl⟩) (Or.inr ⟨_, rfl⟩) (Nat.le_of_ble_eq_true rfl) (Nat.le_of_ble_eq_true rfl) ⟨a2, rfl, rfl⟩ dJ7_copyOfRange_39247_16
set_option maxRecDepth 20000 in
set_option maxHeartbeats 4000000 in
theorem c_J0_init_db425 (l : Launch) (D : va_G) (cy : Nat → ClassId) (q b n z : Nat) (t : Nat → Nat) (F : va_W) (hn : n < 16) (ht : ∀ j, t j < 128) : Ctr l D cy yJ0_init_db425 (.code yJ0_init_db425 cJ0_init_db425 5 none) ({ frames := 4, cells := 1, slots := 16, locals := 300 } : Room) [.ref z, .ref q, .null] (wB cy q b n t ++ (((z, .inr (0, [.null, .int 0, .int 0, .int 0])) :: F))) (fun v9 w9 => ∃ a2 : Nat, v9 = none ∧ w9 = (a2, .inl (cy 3, n, .inl (gS n t))) :: (wB cy q b n t ++ ((z, .inr (0, [.ref a2, .int 0, .int 0, .int 0])) :: F))) pNo := by
  refine Ctr.of (by decide) (Nat.le_of_ble_eq_true rfl) ?_
  intro M X hE hN hB9 hI9
  replace X : VX l D M cy cJ0_init_db425 "java/lang/String" none ({ frames := 4, cells := 1, slots := 16, locals := 300 } : Room) := X
  show V l D M 0 0 (wB cy q b n t ++ (((z, .inr (0, [.null, .int 0, .int 0, .int 0])) :: F))) [(0, .ref z), (1, .ref q), (2, .null)] 0 []
  refine V.aload_n X dJ0_init_db425_0 rfl ?_
  refine V.objI X gw_7_205 gw_1_34 gw_1_35 (Nat.le_of_ble_eq_true rfl) (Nat.le_of_ble_eq_true rfl) dJ0_init_db425_1 ?_
  refine V.aload_n X dJ0_init_db425_4 rfl ?_
  refine V.callU (C := "java/lang/StringBuilder") (x := yJ5_getValue_6d5f1) [] X (c_J5_getValue_6d5f1 l D cy q b n t ((z, .inr (0, [.null, .int 0, .int 0, .int 0])) :: F)) gw_7_207 gw_7_208 gw_1_19 gw_7_210 gw_7_207 gw_7_210 (fun _ _ h9 => h9 _ gw_7_209) (by show _ ≠ _ ∧ _ ≠ _ ∧ _ = some (0 : Nat); decide +kernel) gw_7_206 ⟨⟨(Nat.le_of_ble_eq_true rfl), (Nat.le_of_ble_eq_true rfl)⟩, (Nat.le_of_ble_eq_true rfl), (Nat.le_of_ble_eq_true rfl)⟩ (q0 := 0) (ci := 1) rfl rfl rfl (Nat.le_of_ble_eq_true rfl) dJ0_init_db425_5 ?_
  rintro v9 u9 ⟨rfl, rfl⟩
  refine V.astore_n (L' := [(3, .ref b), (0, .ref z), (1, .ref q), (2, .null)]) X dJ0_init_db425_8 rfl hB9 (by decide) rfl ?_
  refine V.aload_n X dJ0_init_db425_9 rfl ?_
  refine V.callU (C := "java/lang/StringBuilder") (x := yJ5_length_8abf5) [] X (c_J4_length_8abf5 l D cy q b n t ((z, .inr (0, [.null, .int 0, .int 0, .int 0])) :: F)) gw_5_188 gw_8_89 gw_1_20 gw_5_190 gw_5_192 gw_5_193 (fun _ _ h9 => h9 _ gw_8_91) (by show _ ≠ _ ∧ _ ≠ _ ∧ _ = some (0 : Nat); decide +kernel) gw_7_211 ⟨⟨(Nat.le_of_ble_eq_true rfl), (Nat.le_of_ble_eq_true rfl)⟩, (Nat.le_of_ble_eq_true rfl), (Nat.le_of_ble_eq_true rfl)⟩ (q0 := 0) (ci := 1) rfl rfl rfl (Nat.le_of_ble_eq_true rfl) dJ0_init_db425_10 ?_
  rintro v9 u9 ⟨rfl, rfl⟩
  refine V.istore (L' := [(4, .int (nI n)), (3, .ref b), (0, .ref z), (1, .ref q), (2, .null)]) X dJ0_init_db425_13 hB9 (by decide) rfl ?_
  refine V.aload_n X dJ0_init_db425_15 rfl ?_
  refine V.callU (C := "java/lang/StringBuilder") (x := yJ5_isLatin1_aae02) [] X (c_J5_isLatin1_aae02 l D cy q b n t ((z, .inr (0, [.null, .int 0, .int 0, .int 0])) :: F)) gw_5_104 gw_5_105 gw_1_19 gw_5_107 gw_5_104 gw_5_107 (fun _ _ h9 => h9 _ gw_5_106) (by show _ ≠ _ ∧ _ ≠ _ ∧ _ = some (0 : Nat); decide +kernel) gw_7_212 ⟨⟨(Nat.le_of_ble_eq_true rfl), (Nat.le_of_ble_eq_true rfl)⟩, (Nat.le_of_ble_eq_true rfl), (Nat.le_of_ble_eq_true rfl)⟩ (q0 := 0) (ci := 1) rfl rfl rfl (Nat.le_of_ble_eq_true rfl) dJ0_init_db425_16 ?_
  rintro v9 u9 ⟨rfl, rfl⟩
  refine V.if_eq (tgt := 41) X dJ0_init_db425_19 (by decide) id id (fun hz => ?_) (fun hz => ?_)
  · exact absurd hz (by decide)
  refine V.aload_n X dJ0_init_db425_22 rfl ?_
  refine V.iconst (v := nI 0) X dJ0_init_db425_23 rfl ?_
  refine V.putF (q0 := 2) (ci := 0) (j := 1) (C := RJ0) (T := TJ0) (N := 4) (ref := "java/lang/String") (ty := .byte) (ty0 := tyJ0) (Wd' := wB cy q b n t ++ ((z, .inr (0, [.null, .int (nI 0), .int 0, .int 0])) :: F)) X (hI9 rfl) rfl rfl (Nat.le_of_ble_eq_true rfl) gw_8_39 inJ0 rfl rfl tyJ0_ok nmJ0 rfl (by decide +kernel) rfl rfl (Nat.le_of_ble_eq_true rfl) dJ0_init_db425_24 rfl ?_
  refine V.aload_n X dJ0_init_db425_27 rfl ?_
  refine V.aload_n X dJ0_init_db425_28 rfl ?_
  refine V.iconst (v := nI 0) X dJ0_init_db425_29 rfl ?_
  refine V.iload X dJ0_init_db425_30 rfl ?_
  refine V.callS [.ref b, .int (nI 0), .int (nI n)] X (c_J7_copyOfRange_39247 l D cy q b n t ((z, .inr (0, [.null, .int (nI 0), .int 0, .int 0])) :: F) hn ht) ⟨gw_7_214, gw_1_24, gw_7_215, (by show _ ≠ _ ∧ _ ≠ _ ∧ _ = some (3 : Nat); decide +kernel)⟩ gw_7_213 ⟨⟨(Nat.le_of_ble_eq_true rfl), (Nat.le_of_ble_eq_true rfl)⟩, (Nat.le_of_ble_eq_true rfl), (Nat.le_of_ble_eq_true rfl)⟩ rfl (Nat.le_of_ble_eq_true rfl) dJ0_init_db425_32 (fun _ _ h9 => h9.elim) ?_
  rintro v9 u9 ⟨a2, rfl, rfl⟩
  refine V.putF (q0 := 3) (ci := 0) (j := 0) (C := RJ0) (T := TJ0) (N := 4) (ref := "java/lang/String") (ty := (.array .byte)) (ty0 := tyJ0) (Wd' := (a2, .inl (cy 3, n, .inl (gS n t))) :: (wB cy q b n t ++ ((z, .inr (0, [.ref a2, .int (nI 0), .int 0, .int 0])) :: F))) X (hI9 rfl) rfl rfl (Nat.le_of_ble_eq_true rfl) gw_8_38 inJ0 rfl rfl tyJ0_ok nmJ0 rfl (by decide +kernel) rfl rfl (Nat.le_of_ble_eq_true rfl) dJ0_init_db425_35 rfl ?_
  refine V.goto (tgt := 97) X dJ0_init_db425_38 (by decide) ?_
  exact V.vret X hE rfl (Nat.le_of_ble_eq_true rfl) (Nat.le_of_ble_eq_true rfl) ⟨a2, rfl, rfl⟩ dJ0_init_db425_97
set_option maxRecDepth 20000 in
set_option maxHeartbeats 4000000 in
theorem c_J0_init_81219 (l : Launch) (D : va_G) (cy : Nat → ClassId) (q b n z : Nat) (t : Nat → Nat) (F : va_W) (hn : n < 16) (ht : ∀ j, t j < 128) : Ctr l D cy yJ0_init_81219 (.code yJ0_init_81219 cJ0_init_81219 2 none) ({ frames := 5, cells := 1, slots := 16, locals := 360 } : Room) [.ref z, .ref q] (wB cy q b n t ++ (((z, .inr (0, [.null, .int 0, .int 0, .int 0])) :: F))) (fun v9 w9 => ∃ a2 : Nat, v9 = none ∧ w9 = (a2, .inl (cy 3, n, .inl (gS n t))) :: (wB cy q b n t ++ ((z, .inr (0, [.ref a2, .int 0, .int 0, .int 0])) :: F))) pNo := by
  refine Ctr.of (by decide) (Nat.le_of_ble_eq_true rfl) ?_
  intro M X hE hN hB9 hI9
  replace X : VX l D M cy cJ0_init_81219 "java/lang/String" none ({ frames := 5, cells := 1, slots := 16, locals := 360 } : Room) := X
  show V l D M 0 0 (wB cy q b n t ++ (((z, .inr (0, [.null, .int 0, .int 0, .int 0])) :: F))) [(0, .ref z), (1, .ref q)] 0 []
  refine V.aload_n X dJ0_init_81219_0 rfl ?_
  refine V.aload_n X dJ0_init_81219_1 rfl ?_
  refine V.anull X dJ0_init_81219_2 ?_
  refine V.callI [.ref q, .null] X (c_J0_init_db425 l D cy q b n z t F hn ht) ⟨gw_7_203, gw_1_21, gw_7_204, rfl, (by show _ ≠ _ ∧ _ ≠ _ ∧ _ = some (2 : Nat); decide +kernel)⟩ gw_7_202 ⟨⟨(Nat.le_of_ble_eq_true rfl), (Nat.le_of_ble_eq_true rfl)⟩, (Nat.le_of_ble_eq_true rfl), (Nat.le_of_ble_eq_true rfl)⟩ rfl (Nat.le_of_ble_eq_true rfl) dJ0_init_81219_3 ?_
  rintro v9 u9 ⟨a2, rfl, rfl⟩
  exact V.vret X hE rfl (Nat.le_of_ble_eq_true rfl) (Nat.le_of_ble_eq_true rfl) ⟨a2, rfl, rfl⟩ dJ0_init_81219_6
set_option maxRecDepth 20000 in
set_option maxHeartbeats 4000000 in
theorem c_J4_toString_0e30d (l : Launch) (D : va_G) (cy : Nat → ClassId) (q b n : Nat) (t : Nat → Nat) (F : va_W) (hn : n < 16) (ht : ∀ j, t j < 128) : Ctr l D cy yJ4_toString_0e30d (.code yJ4_toString_0e30d cJ4_toString_0e30d 1 (some (FieldType.object "java/lang/String"))) ({ frames := 6, cells := 2, slots := 20, locals := 420 } : Room) [.ref q] (wB cy q b n t ++ F) (fun v9 w9 => ∃ z a2 : Nat, v9 = some (.ref z) ∧ w9 = (a2, .inl (cy 3, n, .inl (gS n t))) :: (wB cy q b n t ++ ((z, .inr (0, [.ref a2, .int 0, .int 0, .int 0])) :: F))) pNo := by
  refine Ctr.of (by decide) (Nat.le_of_ble_eq_true rfl) ?_
  intro M X hE hN hB9 hI9
  replace X : VX l D M cy cJ4_toString_0e30d "java/lang/StringBuilder" (some (FieldType.object "java/lang/String")) ({ frames := 6, cells := 2, slots := 20, locals := 420 } : Room) := X
  show V l D M 0 0 (wB cy q b n t ++ F) [(0, .ref q)] 0 []
  refine V.new9 (C := RJ0) (T := TJ0) (N := 4) (ci := 0) tyJ0 (fs := [.null, .int 0, .int 0, .int 0]) X inJ0 tyJ0_ok gw_7_197 gw_7_198 gw_1_21 rfl (fun i hi => by rcases (show i = 0 ∨ i = 1 ∨ i = 2 ∨ i = 3 by omega) with rfl | rfl | rfl | rfl <;> rfl) (Nat.le_of_ble_eq_true rfl) (Nat.le_of_ble_eq_true rfl) dJ4_toString_0e30d_0 (fun z => ?_)
  refine V.perm (Wd' := wB cy q b n t ++ (((z, .inr (0, [.null, .int 0, .int 0, .int 0])) :: F))) (List.Perm.append_left (wB cy q b n t) (List.perm_append_singleton _ F).symm) ?_
  refine V.dup X dJ4_toString_0e30d_3 rfl ?_
  refine V.aload_n X dJ4_toString_0e30d_4 rfl ?_
  refine V.callI [.ref q] X (c_J0_init_81219 l D cy q b n z t F hn ht) ⟨gw_7_200, gw_1_21, gw_7_201, rfl, (by show _ ≠ _ ∧ _ ≠ _ ∧ _ = some (1 : Nat); decide +kernel)⟩ gw_7_199 ⟨⟨(Nat.le_of_ble_eq_true rfl), (Nat.le_of_ble_eq_true rfl)⟩, (Nat.le_of_ble_eq_true rfl), (Nat.le_of_ble_eq_true rfl)⟩ rfl (Nat.le_of_ble_eq_true rfl) dJ4_toString_0e30d_5 ?_
  rintro v9 u9 ⟨a2, rfl, rfl⟩
  exact V.aret X hE rfl (Or.inl ⟨_, rfl⟩) (Or.inr ⟨_, rfl⟩) (Nat.le_of_ble_eq_true rfl) (Nat.le_of_ble_eq_true rfl) ⟨z, a2, rfl, rfl⟩ dJ4_toString_0e30d_8
set_option maxRecDepth 20000 in
set_option maxHeartbeats 4000000 in
theorem c_J0_coder_7d493 (l : Launch) (D : va_G) (cy : Nat → ClassId) (z a n : Nat) (t : Nat → Nat) (F : va_W)  : Ctr l D cy yJ0_coder_7d493 (.code yJ0_coder_7d493 cJ0_coder_7d493 1 (some FieldType.byte)) ({ frames := 1, cells := 0, slots := 0, locals := 60 } : Room) [.ref z] (wS cy z a n t ++ F) (pI 0 (wS cy z a n t ++ F)) pNo := by
  refine Ctr.of (by decide) (Nat.le_of_ble_eq_true rfl) ?_
  intro M X hE hN hB9 hI9
  replace X : VX l D M cy cJ0_coder_7d493 "java/lang/String" (some FieldType.byte) ({ frames := 1, cells := 0, slots := 0, locals := 60 } : Room) := X
  show V l D M 0 0 (wS cy z a n t ++ F) [(0, .ref z)] 0 []
  refine V.getCS X gw_8_9 dJ0_coder_7d493_0 ?_
  refine V.if_eq (tgt := 13) X dJ0_coder_7d493_3 (by decide) id id (fun hz => ?_) (fun hz => ?_)
  · exact absurd hz (by decide)
  refine V.aload_n X dJ0_coder_7d493_6 rfl ?_
  refine V.getf (q0 := 0) (ci := 0) (j := 1) (C := RJ0) (T := TJ0) (N := 4) (ref := "java/lang/String") (v := .int 0) X rfl rfl (Nat.le_of_ble_eq_true rfl) gw_8_39 inJ0 rfl rfl dJ0_coder_7d493_7 ?_
  refine V.goto (tgt := 14) X dJ0_coder_7d493_10 (by decide) ?_
  exact V.iret (v := 0) X hE rfl rfl (Nat.le_of_ble_eq_true rfl) (Nat.le_of_ble_eq_true rfl) ⟨rfl, rfl⟩ dJ0_coder_7d493_14
set_option maxRecDepth 20000 in
set_option maxHeartbeats 4000000 in
theorem c_J0_length_8abf5 (l : Launch) (D : va_G) (cy : Nat → ClassId) (z a n : Nat) (t : Nat → Nat) (F : va_W) (hn : n < 17) : Ctr l D cy yJ0_length_8abf5 (.code yJ0_length_8abf5 cJ0_length_8abf5 1 (some FieldType.int)) ({ frames := 2, cells := 0, slots := 0, locals := 120 } : Room) [.ref z] (wS cy z a n t ++ F) (pI (nI n) (wS cy z a n t ++ F)) pNo := by
  refine Ctr.of (by decide) (Nat.le_of_ble_eq_true rfl) ?_
  intro M X hE hN hB9 hI9
  replace X : VX l D M cy cJ0_length_8abf5 "java/lang/String" (some FieldType.int) ({ frames := 2, cells := 0, slots := 0, locals := 120 } : Room) := X
  show V l D M 0 0 (wS cy z a n t ++ F) [(0, .ref z)] 0 []
  refine V.aload_n X dJ0_length_8abf5_0 rfl ?_
  refine V.getf (q0 := 0) (ci := 0) (j := 0) (C := RJ0) (T := TJ0) (N := 4) (ref := "java/lang/String") (v := .ref a) X rfl rfl (Nat.le_of_ble_eq_true rfl) gw_8_38 inJ0 rfl rfl dJ0_length_8abf5_1 ?_
  refine V.alen (q0 := 1) (t0 := 3) (ty := .byte) (v := nI n) X rfl rfl rfl dJ0_length_8abf5_4 ?_
  refine V.aload_n X dJ0_length_8abf5_5 rfl ?_
  refine V.callV (C := "java/lang/String") [] X (c_J0_coder_7d493 l D cy z a n t F) ⟨gw_8_6, gw_8_7, gw_1_21, gw_8_8, (by show _ = _ ∧ _ ≠ _ ∧ _ ≠ _ ∧ _ = some (0 : Nat); decide +kernel)⟩ gw_8_5 ⟨⟨(Nat.le_of_ble_eq_true rfl), (Nat.le_of_ble_eq_true rfl)⟩, (Nat.le_of_ble_eq_true rfl), (Nat.le_of_ble_eq_true rfl)⟩ (q0 := 0) (ci := 0) rfl rfl rfl (Nat.le_of_ble_eq_true rfl) dJ0_length_8abf5_6 (fun _ _ h9 => h9.elim) ?_
  rintro v9 u9 ⟨rfl, rfl⟩
  refine V.ishr (v := nI n) X dJ0_length_8abf5_9 (shr_0 n hn) ?_
  exact V.iret (v := (nI n)) X hE rfl rfl (Nat.le_of_ble_eq_true rfl) (Nat.le_of_ble_eq_true rfl) ⟨rfl, rfl⟩ dJ0_length_8abf5_10
set_option maxRecDepth 20000 in
set_option maxHeartbeats 4000000 in
theorem c_J0_isLatin1_aae02 (l : Launch) (D : va_G) (cy : Nat → ClassId) (z a n : Nat) (t : Nat → Nat) (F : va_W)  : Ctr l D cy yJ0_isLatin1_aae02 (.code yJ0_isLatin1_aae02 cJ0_isLatin1_aae02 1 (some FieldType.boolean)) ({ frames := 1, cells := 0, slots := 0, locals := 60 } : Room) [.ref z] (wS cy z a n t ++ F) (pI 1 (wS cy z a n t ++ F)) pNo := by
  refine Ctr.of (by decide) (Nat.le_of_ble_eq_true rfl) ?_
  intro M X hE hN hB9 hI9
  replace X : VX l D M cy cJ0_isLatin1_aae02 "java/lang/String" (some FieldType.boolean) ({ frames := 1, cells := 0, slots := 0, locals := 60 } : Room) := X
  show V l D M 0 0 (wS cy z a n t ++ F) [(0, .ref z)] 0 []
  refine V.getCS X gw_8_9 dJ0_isLatin1_aae02_0 ?_
  refine V.if_eq (tgt := 17) X dJ0_isLatin1_aae02_3 (by decide) id id (fun hz => ?_) (fun hz => ?_)
  · exact absurd hz (by decide)
  refine V.aload_n X dJ0_isLatin1_aae02_6 rfl ?_
  refine V.getf (q0 := 0) (ci := 0) (j := 1) (C := RJ0) (T := TJ0) (N := 4) (ref := "java/lang/String") (v := .int 0) X rfl rfl (Nat.le_of_ble_eq_true rfl) gw_8_39 inJ0 rfl rfl dJ0_isLatin1_aae02_7 ?_
  refine V.if_ne (tgt := 17) X dJ0_isLatin1_aae02_10 (by decide) id id (fun hz => ?_) (fun hz => ?_)
  · exact absurd hz (fun h => h rfl)
  refine V.iconst (v := nI 1) X dJ0_isLatin1_aae02_13 rfl ?_
  refine V.goto (tgt := 18) X dJ0_isLatin1_aae02_14 (by decide) ?_
  exact V.iret (v := (nI 1)) X hE rfl rfl (Nat.le_of_ble_eq_true rfl) (Nat.le_of_ble_eq_true rfl) ⟨rfl, rfl⟩ dJ0_isLatin1_aae02_18
set_option maxRecDepth 20000 in
set_option maxHeartbeats 4000000 in
theorem c_J1_charAt_3b067 (l : Launch) (D : va_G) (cy : Nat → ClassId) (z a n : Nat) (t : Nat → Nat) (F : va_W) (i : Nat) (hi : i < n) (hn : n ≤ 16) (ht : ∀ j, t j < 128) : Ctr l D cy yJ1_charAt_3b067 (.code yJ1_charAt_3b067 cJ1_charAt_3b067 2 (some FieldType.char)) ({ frames := 3, cells := 0, slots := 0, locals := 180 } : Room) [.ref a, .int (nI i)] (wS cy z a n t ++ F) (pI (nI (t i)) (wS cy z a n t ++ F)) pNo := by
  refine Ctr.of (by decide) (Nat.le_of_ble_eq_true rfl) ?_
  intro M X hE hN hB9 hI9
  replace X : VX l D M cy cJ1_charAt_3b067 "java/lang/StringLatin1" (some FieldType.char) ({ frames := 3, cells := 0, slots := 0, locals := 180 } : Room) := X
  show V l D M 0 0 (wS cy z a n t ++ F) [(0, .ref a), (1, .int (nI i))] 0 []
  refine V.iload_n X dJ1_charAt_3b067_0 rfl ?_
  refine V.aload_n X dJ1_charAt_3b067_1 rfl ?_
  refine V.alen (q0 := 1) (t0 := 3) (ty := .byte) (v := nI n) X rfl rfl rfl dJ1_charAt_3b067_2 ?_
  refine V.callS [.int (nI i), .int (nI n)] X (c_J0_checkIndex_df160 l D cy i n (wS cy z a n t ++ F) hi hn) ⟨gw_5_182, gw_1_21, gw_5_183, (by show _ ≠ _ ∧ _ ≠ _ ∧ _ = some (2 : Nat); decide +kernel)⟩ gw_8_65 ⟨⟨(Nat.le_of_ble_eq_true rfl), (Nat.le_of_ble_eq_true rfl)⟩, (Nat.le_of_ble_eq_true rfl), (Nat.le_of_ble_eq_true rfl)⟩ rfl (Nat.le_of_ble_eq_true rfl) dJ1_charAt_3b067_3 (fun _ _ h9 => h9.elim) ?_
  rintro v9 u9 ⟨rfl, rfl⟩
  refine V.aload_n X dJ1_charAt_3b067_6 rfl ?_
  refine V.iload_n X dJ1_charAt_3b067_7 rfl ?_
  refine V.bald (q0 := 1) (N := n) (f := gS n t) (v := nI (t i)) X rfl (vp_in_nI hi (by omega)) dJ1_charAt_3b067_8 (by rw [nI_clamp (by omega), gS_lt hi]) ?_
  refine V.sipush (v := nI 255) X dJ1_charAt_3b067_9 (by decide) ?_
  refine V.iand (v := nI (t i)) X dJ1_charAt_3b067_12 (and255 _ (ht i)) ?_
  refine V.i2c (v := nI (t i)) X dJ1_charAt_3b067_13 (i2c_by _ (ht i)) ?_
  exact V.iret (v := (nI (t i))) X hE rfl (nar_ch _ (ht i)) (Nat.le_of_ble_eq_true rfl) (Nat.le_of_ble_eq_true rfl) ⟨rfl, rfl⟩ dJ1_charAt_3b067_14
set_option maxRecDepth 20000 in
set_option maxHeartbeats 4000000 in
theorem c_J0_charAt_5068e (l : Launch) (D : va_G) (cy : Nat → ClassId) (z a n : Nat) (t : Nat → Nat) (F : va_W) (i : Nat) (hi : i < n) (hn : n ≤ 16) (ht : ∀ j, t j < 128) : Ctr l D cy yJ0_charAt_5068e (.code yJ0_charAt_5068e cJ0_charAt_5068e 2 (some FieldType.char)) ({ frames := 4, cells := 0, slots := 0, locals := 240 } : Room) [.ref z, .int (nI i)] (wS cy z a n t ++ F) (pI (nI (t i)) (wS cy z a n t ++ F)) pNo := by
  refine Ctr.of (by decide) (Nat.le_of_ble_eq_true rfl) ?_
  intro M X hE hN hB9 hI9
  replace X : VX l D M cy cJ0_charAt_5068e "java/lang/String" (some FieldType.char) ({ frames := 4, cells := 0, slots := 0, locals := 240 } : Room) := X
  show V l D M 0 0 (wS cy z a n t ++ F) [(0, .ref z), (1, .int (nI i))] 0 []
  refine V.aload_n X dJ0_charAt_5068e_0 rfl ?_
  refine V.callV (C := "java/lang/String") [] X (c_J0_isLatin1_aae02 l D cy z a n t F) ⟨gw_8_59, gw_8_60, gw_1_21, gw_8_61, (by show _ = _ ∧ _ ≠ _ ∧ _ ≠ _ ∧ _ = some (0 : Nat); decide +kernel)⟩ gw_8_58 ⟨⟨(Nat.le_of_ble_eq_true rfl), (Nat.le_of_ble_eq_true rfl)⟩, (Nat.le_of_ble_eq_true rfl), (Nat.le_of_ble_eq_true rfl)⟩ (q0 := 0) (ci := 0) rfl rfl rfl (Nat.le_of_ble_eq_true rfl) dJ0_charAt_5068e_1 (fun _ _ h9 => h9.elim) ?_
  rintro v9 u9 ⟨rfl, rfl⟩
  refine V.if_eq (tgt := 16) X dJ0_charAt_5068e_4 (by decide) id id (fun hz => ?_) (fun hz => ?_)
  · exact absurd hz (by decide)
  refine V.aload_n X dJ0_charAt_5068e_7 rfl ?_
  refine V.getf (q0 := 0) (ci := 0) (j := 0) (C := RJ0) (T := TJ0) (N := 4) (ref := "java/lang/String") (v := .ref a) X rfl rfl (Nat.le_of_ble_eq_true rfl) gw_8_38 inJ0 rfl rfl dJ0_charAt_5068e_8 ?_
  refine V.iload_n X dJ0_charAt_5068e_11 rfl ?_
  refine V.callS [.ref a, .int (nI i)] X (c_J1_charAt_3b067 l D cy z a n t F i hi hn ht) ⟨gw_8_63, gw_1_27, gw_8_64, (by show _ ≠ _ ∧ _ ≠ _ ∧ _ = some (2 : Nat); decide +kernel)⟩ gw_8_62 ⟨⟨(Nat.le_of_ble_eq_true rfl), (Nat.le_of_ble_eq_true rfl)⟩, (Nat.le_of_ble_eq_true rfl), (Nat.le_of_ble_eq_true rfl)⟩ rfl (Nat.le_of_ble_eq_true rfl) dJ0_charAt_5068e_12 (fun _ _ h9 => h9.elim) ?_
  rintro v9 u9 ⟨rfl, rfl⟩
  exact V.iret (v := (nI (t i))) X hE rfl (nar_ch _ (ht i)) (Nat.le_of_ble_eq_true rfl) (Nat.le_of_ble_eq_true rfl) ⟨rfl, rfl⟩ dJ0_charAt_5068e_15
