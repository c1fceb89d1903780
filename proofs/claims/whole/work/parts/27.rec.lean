/-! ===== the rest of a step, by recursion ===== -/
def goodR (S : St) (f : Nat → Nat) : Prop := (∀ j, f j < 1000000) ∧ ∀ j, j < rN S 44 0 → f j = 0 ∨ f j = rst S j
theorem goodR.up {S : St} {f : Nat → Nat} (h : goodR S f) {s v : Nat} (hv : v = rst S s) (hb : v < 1000000) : goodR S (up1 f s v) := by
  refine ⟨up1_lt h.1 hb, fun j hj => ?_⟩
  by_cases e : j = s
  · subst e; rw [up1_same]; exact .inr hv
  · rw [up1_ne e]; exact h.2 j hj
def rmR (m : Nat) : Room := { frames := m + 1, cells := 0, slots := 0, locals := 60 * (m + 1) }
set_option maxRecDepth 20000 in
set_option maxHeartbeats 4000000 in
theorem recR (l : Launch) (D : va_G) (cy : Nat → ClassId) (ad : Nat → Nat) (F : va_W) : ∀ (m : Nat) (S : St) (s d : Nat) (hB : Bnd S) (hl : ∀ j, rN S 11 j ≤ 60) (hn : rN S 44 0 ≤ 16) (hs : s < rN S 44 0) (hm : rN S 44 0 ≤ s + m) (hd : d ≤ s) (hg : ∀ j, j < rN S 44 0 → rN S 21 j = 0 ∨ rN S 21 j = rst S j), Ctr l D cy yX5_recursiveRest (.code yX5_recursiveRest cX5_recursiveRest 5 (some FieldType.int)) (rmR m) [.ref (ad 2), .int (nI s), .int (nI d)] (wC ad cy S ++ F) (fun v w => ∃ f : Nat → Nat, (∀ j, f j < 1000000) ∧ (∀ j, j < rN S 44 0 → f j = 0 ∨ f j = rst S j) ∧ v = some (.int (nI (rst S s))) ∧ w = wC ad cy (sN S 21 f) ++ F) pNo := by
  intro m
  induction m with
  | zero => intro S s d hB hl hn hs hm; exact absurd hm (by omega)
  | succ m ihm =>
    intro S s d hB hl hn hs hm hd hg
    refine Ctr.of (by decide) (Nat.le_of_ble_eq_true rfl) ?_
    intro M X hE hN hB9 hI9
    replace X : VX l D M cy cX5_recursiveRest "Runbooker" (some FieldType.int) (rmR (m + 1)) := X
    show V l D M 0 0 (wC ad cy S ++ F) [(0, .ref (ad 2)), (1, .int (nI s)), (2, .int (nI d))] 0 []
    refine V.iload_n X dX5_recursiveRest_0 rfl ?_
    refine V.bipush (v := nI 16) X dX5_recursiveRest_1 (by decide) ?_
    refine V.icmp_lt (tgt := 8) X dX5_recursiveRest_3 (by decide) (cN_lt (by omega) (by decide)) (cN_nlt (by omega) (by decide)) (fun (hz3 : d < 16) => ?_) (fun (hz3 : 16 ≤ d) => ?_)
    · refine V.aload_n X dX5_recursiveRest_8 rfl ?_
      refine wC_gX5_327 X dX5_recursiveRest_9 ?_
      refine V.iload_n X dX5_recursiveRest_12 rfl ?_
      refine wC_ld21 (i := s) X (by omega) dX5_recursiveRest_13 ?_
      refine V.if_ne (tgt := 77) X dX5_recursiveRest_14 (by decide) cN_ne (cN_eq (hB.n 21 _) (by decide)) (fun (hz14 : ¬ rN S 21 s = 0) => ?_) (fun (hz14 : rN S 21 s = 0) => ?_)
      · refine V.aload_n X dX5_recursiveRest_77 rfl ?_
        refine wC_gX5_327 X dX5_recursiveRest_78 ?_
        refine V.iload_n X dX5_recursiveRest_81 rfl ?_
        refine wC_ld21 (i := s) X (by omega) dX5_recursiveRest_82 ?_
        exact V.iret (v := nI (rN S 21 s)) X hE rfl rfl (Nat.zero_le _) (Nat.zero_le _) ⟨rN S 21, hB.1 21, hg, (by rw [(hg s hs).resolve_left hz14]), rfl⟩ dX5_recursiveRest_83
      · refine V.iconst (v := nI 0) X dX5_recursiveRest_17 rfl ?_
        refine V.istore_n (L' := [(3, .int (nI 0)), (0, .ref (ad 2)), (1, .int (nI s)), (2, .int (nI d))]) X dX5_recursiveRest_18 rfl hB9 (by decide) rfl ?_
        refine V.iload_n X dX5_recursiveRest_19 rfl ?_
        refine V.iconst (v := nI 1) X dX5_recursiveRest_20 rfl ?_
        refine V.iadd (v := nI (s + 1)) X dX5_recursiveRest_21 (nI_add _ _) ?_
        refine V.istore (L' := [(4, .int (nI (s + 1))), (3, .int (nI 0)), (0, .ref (ad 2)), (1, .int (nI s)), (2, .int (nI d))]) X dX5_recursiveRest_22 hB9 (by decide) rfl ?_
        have loop24 : ∀ (d9 : Nat) (o : Nat) (f : Nat → Nat), (rN S 44 0 - o) < d9 → (s + 1 ≤ o) → (o ≤ rN S 44 0) → (goodR S f) → V l D M 0 0 (wC ad cy (sN S 21 f) ++ F) [(4, .int (nI o)), (3, .int (nI (mx9 S s o))), (0, .ref (ad 2)), (1, .int (nI s)), (2, .int (nI d))] 24 [] := by
          intro d9
          induction d9 with
          | zero => intro o f h9; exact absurd h9 (Nat.not_lt_zero _)
          | succ d9 ih24 =>
            intro o f hd9 hso ho hf
            refine V.iload X dX5_recursiveRest_24 rfl ?_
            refine V.aload_n X dX5_recursiveRest_26 rfl ?_
            refine wC_gX5_95 X dX5_recursiveRest_27 ?_
            refine V.icmp_ge (tgt := 63) X dX5_recursiveRest_30 (by decide) (cN_le (hB.n 44 _) (by omega)) (cN_nle (hB.n 44 _) (by omega)) (fun (hz30 : rN S 44 0 ≤ o) => ?_) (fun (hz30 : o < rN S 44 0) => ?_)
            · have hb9 : rN S 11 s + mx9 S s o < 1000000 := by have := mx9_le hl s o; have := hl s; omega
              have hv9 : rN S 11 s + mx9 S s o = rst S s := ((rst_eq hn hs).trans (by rw [show o = rN S 44 0 from Nat.le_antisymm ho hz30]; rfl)).symm
              refine V.aload_n X dX5_recursiveRest_63 rfl ?_
              refine wC_gX5_327 X dX5_recursiveRest_64 ?_
              refine V.iload_n X dX5_recursiveRest_67 rfl ?_
              refine V.aload_n X dX5_recursiveRest_68 rfl ?_
              refine wC_gX5_214 X dX5_recursiveRest_69 ?_
              refine V.iload_n X dX5_recursiveRest_72 rfl ?_
              refine wC_ld11 (i := s) X (by omega) dX5_recursiveRest_73 ?_
              refine V.iload_n X dX5_recursiveRest_74 rfl ?_
              refine V.iadd (v := nI (rN S 11 s + (mx9 S s o))) X dX5_recursiveRest_75 (nI_add _ _) ?_
              refine wC_st21 (i := s) (v := rN S 11 s + (mx9 S s o)) (g := f) X (by omega) rfl dX5_recursiveRest_76 ?_
              refine V.aload_n X dX5_recursiveRest_77 rfl ?_
              refine wC_gX5_327 X dX5_recursiveRest_78 ?_
              refine V.iload_n X dX5_recursiveRest_81 rfl ?_
              refine wC_ld21 (i := s) X (by omega) dX5_recursiveRest_82 ?_
              exact V.iret (v := nI ((up1 f s (rN S 11 s + (mx9 S s o))) s)) X hE rfl rfl (Nat.zero_le _) (Nat.zero_le _) ⟨up1 f s (rN S 11 s + mx9 S s o), (hf.up hv9 hb9).1, (hf.up hv9 hb9).2, (by rw [up1_same, hv9]), rfl⟩ dX5_recursiveRest_83
            · refine V.aload_n X dX5_recursiveRest_33 rfl ?_
              refine V.iload X dX5_recursiveRest_34 rfl ?_
              refine V.iload_n X dX5_recursiveRest_36 rfl ?_
              refine V.callV1 [.int (nI o), .int (nI s)] X (c_X3_doesNeed l D cy ad (sN S 21 f) F o s (show o < 16 by omega)) mv_X3_doesNeed gw_2_26 ⟨⟨(by show 0 + 1 ≤ m + 1 + 1; omega), (by show _ ≤ 60 * (m + 1 + 1); exact Nat.le_trans (Nat.le_of_ble_eq_true rfl : _ ≤ 60) (by omega))⟩, (Nat.zero_le _), (Nat.zero_le _)⟩ (q0 := 2) (ci := 5) rfl rfl rfl (Nat.le_of_ble_eq_true rfl) dX5_recursiveRest_37 ?_
              refine V.if_eq (tgt := 57) X dX5_recursiveRest_40 (by decide) b2i_0 b2i_n0 (fun (hz40 : bit9 S o s = false) => ?_) (fun (hz40 : bit9 S o s = true) => ?_)
              · refine V.iinc (v := nI (o + 1)) (L' := [(4, .int (nI (o + 1))), (3, .int (nI (mx9 S s o))), (0, .ref (ad 2)), (1, .int (nI s)), (2, .int (nI d))]) X dX5_recursiveRest_57 rfl (nI_inc _) hB9 (by decide) rfl ?_
                refine V.goto (tgt := 24) X dX5_recursiveRest_60 (by decide) ?_
                exact V.eqs rfl (by rw [mx9_f hso hz40]) (ih24 (o + 1) f (by omega) (by omega) (by omega) hf)
              · refine V.iload_n X dX5_recursiveRest_43 rfl ?_
                refine V.aload_n X dX5_recursiveRest_44 rfl ?_
                refine V.iload X dX5_recursiveRest_45 rfl ?_
                refine V.iload_n X dX5_recursiveRest_47 rfl ?_
                refine V.iconst (v := nI 1) X dX5_recursiveRest_48 rfl ?_
                refine V.iadd (v := nI (d + 1)) X dX5_recursiveRest_49 (nI_add _ _) ?_
                refine V.callS [.ref (ad 2), .int (nI o), .int (nI (d + 1))] X (ihm (sN S 21 f) o (d + 1) (hB.sN 21 hf.1) hl hn (by show o < rN S 44 0; omega) (by show rN S 44 0 ≤ o + m; omega) (by omega) hf.2) ms_X5_recursiveRest gw_4_146 ⟨⟨Nat.le_refl (m + 1 + 1), (by show 8 + (5 + 11) + 60 * (m + 1) ≤ 60 * (m + 1 + 1); omega)⟩, (Nat.zero_le _), (Nat.zero_le _)⟩ rfl (Nat.le_of_ble_eq_true rfl) dX5_recursiveRest_50 (fun _ _ h => h.elim) (fun v w hp => ?_)
                obtain ⟨f2, hf2a, hf2b, rfl, rfl⟩ := hp
                have hr9 := rst_le hl o
                show V l D M 0 0 (wC ad cy (sN S 21 f2) ++ F) [(4, .int (nI o)), (3, .int (nI (mx9 S s o))), (0, .ref (ad 2)), (1, .int (nI s)), (2, .int (nI d))] 53 [.int (nI (rst S o)), .int (nI (mx9 S s o))]
                refine V.mmax (v := nI (max (mx9 S s o) (rst S o))) X gw_4_149 gw_4_132 gw_1_18 gw_4_133 (by show 1 ≤ m + 1 + 1; omega) (by show _ ≤ 60 * (m + 1 + 1); exact Nat.le_trans (Nat.le_of_ble_eq_true rfl : _ ≤ 60) (by omega)) (Nat.zero_le _) (Nat.zero_le _) dX5_recursiveRest_53 (mmaxN (a := mx9 S s o) (b := rst S o) (by have := mx9_le hl s o; omega) (by omega)) ?_
                refine V.istore_n (L' := [(3, .int (nI (max (mx9 S s o) (rst S o)))), (4, .int (nI o)), (0, .ref (ad 2)), (1, .int (nI s)), (2, .int (nI d))]) X dX5_recursiveRest_56 rfl hB9 (by decide) rfl ?_
                refine V.iinc (v := nI (o + 1)) (L' := [(4, .int (nI (o + 1))), (3, .int (nI (max (mx9 S s o) (rst S o)))), (0, .ref (ad 2)), (1, .int (nI s)), (2, .int (nI d))]) X dX5_recursiveRest_57 rfl (nI_inc _) hB9 (by decide) rfl ?_
                refine V.goto (tgt := 24) X dX5_recursiveRest_60 (by decide) ?_
                exact V.eqs rfl (by rw [mx9_t hso hz40]) (ih24 (o + 1) f2 (by omega) (by omega) (by omega) ⟨hf2a, hf2b⟩)
        exact V.eqs rfl (by rw [mx9_0]) (loop24 _ (s + 1) (rN S 21) (Nat.lt_succ_self _) (Nat.le_refl _) hs ⟨hB.1 21, hg⟩)
    · exact absurd hz3 (by omega)
