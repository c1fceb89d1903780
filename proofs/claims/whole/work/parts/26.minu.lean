/-! ===== a minute ===== -/
def Kp (S T : St) : Prop := rN T 10 = rN S 10 ∧ rN T 11 = rN S 11 ∧ rN T 12 = rN S 12 ∧ rN T 17 = rN S 17 ∧ rN T 18 = rN S 18 ∧ rN T 26 = rN S 26 ∧ rN T 28 = rN S 28 ∧ rN T 40 = rN S 40 ∧ rN T 43 = rN S 43 ∧ rN T 44 = rN S 44 ∧ rN T 45 = rN S 45 ∧ rN T 46 = rN S 46 ∧ rN T 49 = rN S 49 ∧ rO T 16 = rO S 16 ∧ rO T 47 = rO S 47 ∧ rO T 48 = rO S 48 ∧ rB T 8 = rB S 8 ∧ rB T 14 = rB S 14 ∧ rB T 23 = rB S 23 ∧ rB T 24 = rB S 24 ∧ rB T 41 = rB S 41 ∧ rI T = rI S ∧ rL T = rL S
theorem Kp.n10 {S T : St} (h : Kp S T) : rN T 10 = rN S 10 := h.1
theorem Kp.n11 {S T : St} (h : Kp S T) : rN T 11 = rN S 11 := h.2.1
theorem Kp.n12 {S T : St} (h : Kp S T) : rN T 12 = rN S 12 := h.2.2.1
theorem Kp.n17 {S T : St} (h : Kp S T) : rN T 17 = rN S 17 := h.2.2.2.1
theorem Kp.n18 {S T : St} (h : Kp S T) : rN T 18 = rN S 18 := h.2.2.2.2.1
theorem Kp.n26 {S T : St} (h : Kp S T) : rN T 26 = rN S 26 := h.2.2.2.2.2.1
theorem Kp.n28 {S T : St} (h : Kp S T) : rN T 28 = rN S 28 := h.2.2.2.2.2.2.1
theorem Kp.n40 {S T : St} (h : Kp S T) : rN T 40 = rN S 40 := h.2.2.2.2.2.2.2.1
theorem Kp.n43 {S T : St} (h : Kp S T) : rN T 43 = rN S 43 := h.2.2.2.2.2.2.2.2.1
theorem Kp.n44 {S T : St} (h : Kp S T) : rN T 44 = rN S 44 := h.2.2.2.2.2.2.2.2.2.1
theorem Kp.n45 {S T : St} (h : Kp S T) : rN T 45 = rN S 45 := h.2.2.2.2.2.2.2.2.2.2.1
theorem Kp.n46 {S T : St} (h : Kp S T) : rN T 46 = rN S 46 := h.2.2.2.2.2.2.2.2.2.2.2.1
theorem Kp.n49 {S T : St} (h : Kp S T) : rN T 49 = rN S 49 := h.2.2.2.2.2.2.2.2.2.2.2.2.1
theorem Kp.o16 {S T : St} (h : Kp S T) : rO T 16 = rO S 16 := h.2.2.2.2.2.2.2.2.2.2.2.2.2.1
theorem Kp.o47 {S T : St} (h : Kp S T) : rO T 47 = rO S 47 := h.2.2.2.2.2.2.2.2.2.2.2.2.2.2.1
theorem Kp.o48 {S T : St} (h : Kp S T) : rO T 48 = rO S 48 := h.2.2.2.2.2.2.2.2.2.2.2.2.2.2.2.1
theorem Kp.b8 {S T : St} (h : Kp S T) : rB T 8 = rB S 8 := h.2.2.2.2.2.2.2.2.2.2.2.2.2.2.2.2.1
theorem Kp.b14 {S T : St} (h : Kp S T) : rB T 14 = rB S 14 := h.2.2.2.2.2.2.2.2.2.2.2.2.2.2.2.2.2.1
theorem Kp.b23 {S T : St} (h : Kp S T) : rB T 23 = rB S 23 := h.2.2.2.2.2.2.2.2.2.2.2.2.2.2.2.2.2.2.1
theorem Kp.b24 {S T : St} (h : Kp S T) : rB T 24 = rB S 24 := h.2.2.2.2.2.2.2.2.2.2.2.2.2.2.2.2.2.2.2.1
theorem Kp.b41 {S T : St} (h : Kp S T) : rB T 41 = rB S 41 := h.2.2.2.2.2.2.2.2.2.2.2.2.2.2.2.2.2.2.2.2.1
theorem Kp.i {S T : St} (h : Kp S T) : rI T = rI S := h.2.2.2.2.2.2.2.2.2.2.2.2.2.2.2.2.2.2.2.2.2.1
theorem Kp.l {S T : St} (h : Kp S T) : rL T = rL S := h.2.2.2.2.2.2.2.2.2.2.2.2.2.2.2.2.2.2.2.2.2.2
theorem Kp.refl (S : St) : Kp S S := ⟨rfl, rfl, rfl, rfl, rfl, rfl, rfl, rfl, rfl, rfl, rfl, rfl, rfl, rfl, rfl, rfl, rfl, rfl, rfl, rfl, rfl, rfl, rfl⟩
theorem Kp.trans {S T U : St} (h : Kp S T) (g : Kp T U) : Kp S U := ⟨g.n10.trans h.n10, g.n11.trans h.n11, g.n12.trans h.n12, g.n17.trans h.n17, g.n18.trans h.n18, g.n26.trans h.n26, g.n28.trans h.n28, g.n40.trans h.n40, g.n43.trans h.n43, g.n44.trans h.n44, g.n45.trans h.n45, g.n46.trans h.n46, g.n49.trans h.n49, g.o16.trans h.o16, g.o47.trans h.o47, g.o48.trans h.o48, g.b8.trans h.b8, g.b14.trans h.b14, g.b23.trans h.b23, g.b24.trans h.b24, g.b41.trans h.b41, g.i.trans h.i, g.l.trans h.l⟩

theorem cin9_kp (S : St) (c : Option Nat) : Kp S (cin9 S c) := by
  cases c with
  | none => exact Kp.refl S
  | some t =>
    by_cases e : t < rN S 46 0 ∧ rC S 22 t = 111
    · rw [cin9_y e.1 e.2]; exact ⟨rfl, rfl, rfl, rfl, rfl, rfl, rfl, rfl, rfl, rfl, rfl, rfl, rfl, rfl, rfl, rfl, rfl, rfl, rfl, rfl, rfl, rfl, rfl⟩
    · rw [show cin9 S (some t) = S from if_neg e]; exact Kp.refl S
theorem fail9_kp (S : St) (s : Nat) : Kp S (fail9 S s) := by
  unfold fail9
  split
  · exact ⟨rfl, rfl, rfl, rfl, rfl, rfl, rfl, rfl, rfl, rfl, rfl, rfl, rfl, rfl, rfl, rfl, rfl, rfl, rfl, rfl, rfl, rfl, rfl⟩
  · exact Kp.trans (T := failB S s) ⟨rfl, rfl, rfl, rfl, rfl, rfl, rfl, rfl, rfl, rfl, rfl, rfl, rfl, rfl, rfl, rfl, rfl, rfl, rfl, rfl, rfl, rfl, rfl⟩ (cin9_kp _ _)
theorem tmS_kp (S : St) : ∀ i, Kp S (tmS S i)
  | 0 => Kp.refl S
  | i + 1 => by
    unfold tmS
    split
    · exact (tmS_kp S i).trans (fail9_kp _ _)
    · exact tmS_kp S i
def pmA (S : St) : St := sL (sN (sN S 40 (fun _ => rN S 40 0 + 1)) 26 (low9 (wrkF S (held9 S)) (rN S 26) (rN S 46 0))) 42 (rL S 42 + (nI (cnt9 (actW S (held9 S)) (rN S 46 0))).toInt64)
def pmB (S : St) : St := tmS (pmA S) (rN S 46 0)
def pmE (S : St) : Bool := (rO S 47 0).isSome && decide (rN S 49 0 = rN S 40 0 + 1)
/-- a minute passes -/
def pm9 (S : St) : St := if pmE S = true then hov9 (pmB S) else pmB S
def pmN (S : St) : Nat := tmN (pmA S) (rN S 46 0)
theorem pmB_47 (S : St) : rO (pmB S) 47 = rO S 47 := (tmS_kp (pmA S) _).o47
theorem pmB_48 (S : St) : rO (pmB S) 48 = rO S 48 := (tmS_kp (pmA S) _).o48
theorem pmB_49 (S : St) : rN (pmB S) 49 = rN S 49 := (tmS_kp (pmA S) _).n49
theorem pmB_40 (S : St) : rN (pmB S) 40 0 = rN S 40 0 + 1 := congrFun (tmS_kp (pmA S) _).n40 0
theorem pmA_ok {S : St} (h : Wk S) (hc : rN S 40 0 + 1 ≤ 122880) (hw : ∀ s, s < rN S 46 0 → rC S 22 s = 97 → rN S 26 s < 120) : Wk (pmA S) := by
  have hb : ∀ j, low9 (wrkF S (held9 S)) (rN S 26) (rN S 46 0) j ≤ 120 := by
    intro j
    unfold low9
    split
    · next hj =>
      unfold wrkF
      split
      · next e =>
        have := hw j hj (by simp only [actW, Bool.and_eq_true, decide_eq_true_eq] at e; exact e.1)
        omega
      · exact h.wo j
    · exact h.wo j
  exact ⟨((h.b.sN 40 (fun _ => by omega)).sN 26 (fun j => Nat.lt_of_le_of_lt (hb j) (by decide))).sL 42 _, h.n43, h.n44, h.n46, h.n45, h.role, h.len, h.lim, h.cc, h.sen, h.fb, h.wk, h.fr, h.to, h.dn, h.tr, hb, hc, h.en, h.lm, h.tl, h.l1⟩
theorem pmB_ok {S : St} (h : Wk S) (hc : rN S 40 0 + 1 ≤ 122880) (hw : ∀ s, s < rN S 46 0 → rC S 22 s = 97 → rN S 26 s < 120) (he : rN S 50 0 + 2 * actN S ≤ 1536) : Wk (pmB S) ∧ rN (pmB S) 50 0 + 2 * actN (pmB S) ≤ rN S 50 0 + 2 * actN S :=
  have h1 := tmS_ok (pmA_ok h hc hw) he (rN S 46 0) (Nat.le_refl _)
  ⟨h1.1, h1.2.1⟩
theorem Wk.s40 {S : St} (h : Wk S) {c : Nat} (hc : c ≤ 122880) : Wk (sN S 40 (fun _ => c)) := ⟨h.b.sN 40 (fun _ => by omega), h.n43, h.n44, h.n46, h.n45, h.role, h.len, h.lim, h.cc, h.sen, h.fb, h.wk, h.fr, h.to, h.dn, h.tr, h.wo, hc, h.en, h.lm, h.tl, h.l1⟩
set_option maxRecDepth 20000 in
set_option maxHeartbeats 4000000 in
theorem c_X5_passMinute (l : Launch) (D : va_G) (cy : Nat → ClassId) (ad : Nat → Nat) (S : St) (F : va_W) (hW : Wk S) (hc : rN S 40 0 + 1 ≤ 122880) (hw : ∀ s, s < rN S 46 0 → rC S 22 s = 97 → rN S 26 s < 120) (he : rN S 50 0 + 2 * actN S + (if (rO S 47 0).isSome then 1 else 0) ≤ 1536) (hh : ∀ p, rO S 47 0 = some p → ∃ q, rO S 48 0 = some q) : Ctr l D cy yX5_passMinute (.code yX5_passMinute cX5_passMinute 2 (some FieldType.int)) ({ frames := 5, cells := 0, slots := 0, locals := 200 } : Room) [.ref (ad 0)] (wC ad cy S ++ F) (pI (nI (pmN S)) (wC ad cy (pm9 S) ++ F)) pNo := by
  refine Ctr.of (by decide) (Nat.le_of_ble_eq_true rfl) ?_
  intro M X hE hN hB9 hI9
  replace X : VX l D M cy cX5_passMinute "Runbooker" (some FieldType.int) ({ frames := 5, cells := 0, slots := 0, locals := 200 } : Room) := X
  show V l D M 0 0 (wC ad cy S ++ F) [(0, .ref (ad 0))] 0 []
  have hB := hW.b
  have h43 := hW.n43
  have h44 := hW.n44
  have h46 := hW.n46
  have h45 := hW.n45
  have hcl := hW.cl
  have hen := hW.en
  have he2 : rN S 50 0 + 2 * actN S ≤ 1536 := Nat.le_trans (Nat.le_add_right _ _) he
  have hWA := pmA_ok hW hc hw
  obtain ⟨hWB, heB⟩ := pmB_ok hW hc hw he2
  refine V.aload_n X dX5_passMinute_0 rfl ?_
  refine V.dup X dX5_passMinute_1 rfl ?_
  refine wC_gX5_207 X dX5_passMinute_2 ?_
  refine V.iconst (v := nI 1) X dX5_passMinute_5 rfl ?_
  refine V.iadd (v := nI (rN S 40 0 + 1)) X dX5_passMinute_6 (nI_add _ _) ?_
  refine wC_pX5_207 (v := rN S 40 0 + 1) X dX5_passMinute_7 ?_
  refine V.aload_n X dX5_passMinute_10 rfl ?_
  refine V.dup X dX5_passMinute_11 rfl ?_
  refine wC_gX5_385 X dX5_passMinute_12 ?_
  refine V.aload_n X dX5_passMinute_15 rfl ?_
  refine wC_gX5_26 X dX5_passMinute_16 ?_
  refine V.aload_n X dX5_passMinute_19 rfl ?_
  refine V.callV1 [] X (c_X5_stepHeldUp l D cy ad (sN S 40 (fun _ => rN S 40 0 + 1)) F (Wk.s40 hW (by omega))) mv_X5_stepHeldUp gw_3_219 ⟨⟨(Nat.le_of_ble_eq_true rfl), (Nat.le_of_ble_eq_true rfl)⟩, (Nat.le_of_ble_eq_true rfl), (Nat.le_of_ble_eq_true rfl)⟩ (q0 := 0) (ci := 7) rfl rfl rfl (Nat.le_of_ble_eq_true rfl) dX5_passMinute_20 ?_
  refine V.callV1 [.int (o2i (held9 S))] X (c_X4_workMinute l D cy ad (sN S 40 (fun _ => rN S 40 0 + 1)) F (held9 S) ((Wk.s40 hW (by omega)).b) (show (rN S 46 0) ≤ 16 by omega) (fun k e => Nat.lt_trans (held9_lt hW e) (by decide))) mv_X4_workMinute gw_3_223 ⟨⟨(Nat.le_of_ble_eq_true rfl), (Nat.le_of_ble_eq_true rfl)⟩, (Nat.le_of_ble_eq_true rfl), (Nat.le_of_ble_eq_true rfl)⟩ (q0 := 3) (ci := 6) rfl rfl rfl (Nat.le_of_ble_eq_true rfl) dX5_passMinute_23 ?_
  refine V.i2l (v := (nI (cnt9 (actW S (held9 S)) (rN S 46 0))).toInt64) X dX5_passMinute_26 rfl ?_
  refine V.ladd (v := (rL S 42) + ((nI (cnt9 (actW S (held9 S)) (rN S 46 0))).toInt64)) X dX5_passMinute_27 rfl ?_
  refine wC_pX5_385 (v := (rL S 42) + ((nI (cnt9 (actW S (held9 S)) (rN S 46 0))).toInt64)) X dX5_passMinute_28 ?_
  refine V.eqs (Wd' := wC ad cy (pmA S) ++ F) rfl rfl ?_
  refine V.aload_n X dX5_passMinute_31 rfl ?_
  refine V.callV1 [] X (c_X5_timeOutSteps l D cy ad (pmA S) F hWA he2) mv_X5_timeOutSteps gw_3_227 ⟨⟨(Nat.le_of_ble_eq_true rfl), (Nat.le_of_ble_eq_true rfl)⟩, (Nat.le_of_ble_eq_true rfl), (Nat.le_of_ble_eq_true rfl)⟩ (q0 := 0) (ci := 7) rfl rfl rfl (Nat.le_of_ble_eq_true rfl) dX5_passMinute_32 ?_
  refine V.eqs (Wd' := wC ad cy (pmB S) ++ F) rfl rfl ?_
  refine V.top (y := nI (pmN S)) rfl ?_
  refine V.istore_n (L' := [(1, .int (nI (pmN S))), (0, .ref (ad 0))]) X dX5_passMinute_35 rfl hB9 (by decide) rfl ?_
  refine V.aload_n X dX5_passMinute_36 rfl ?_
  refine wC_gX5_33 X dX5_passMinute_37 ?_
  refine V.callV1 [] X (c_X1_isOn l D cy ad (pmB S) F (hWB.b)) mv_X1_isOn gw_3_80 ⟨⟨(Nat.le_of_ble_eq_true rfl), (Nat.le_of_ble_eq_true rfl)⟩, (Nat.le_of_ble_eq_true rfl), (Nat.le_of_ble_eq_true rfl)⟩ (q0 := 4) (ci := 3) rfl rfl rfl (Nat.le_of_ble_eq_true rfl) dX5_passMinute_40 ?_
  refine V.if_eq (tgt := 64) X dX5_passMinute_43 (by decide) b2i_0 b2i_n0 (fun (hz43 : (rO (pmB S) 47 0).isSome = false) => ?_) (fun (hz43 : (rO (pmB S) 47 0).isSome = true) => ?_)
  · refine V.iload_n X dX5_passMinute_64 rfl ?_
    exact V.iret (v := nI (pmN S)) X hE rfl rfl (Nat.le_of_ble_eq_true rfl) (Nat.le_of_ble_eq_true rfl) (pN9 rfl (by rw [show pm9 S = pmB S from if_neg (by unfold pmE; rw [← pmB_47, hz43]; simp)])) dX5_passMinute_65
  · obtain ⟨p, h47⟩ := Option.isSome_iff_exists.mp hz43
    obtain ⟨q, h48⟩ := hh p (by rw [← pmB_47]; exact h47)
    rw [← pmB_48] at h48
    refine V.aload_n X dX5_passMinute_46 rfl ?_
    refine wC_gX5_33 X dX5_passMinute_47 ?_
    refine wC_gX5_253 X dX5_passMinute_50 ?_
    refine V.aload_n X dX5_passMinute_53 rfl ?_
    refine wC_gX5_207 X dX5_passMinute_54 ?_
    refine V.icmp_ne (tgt := 64) X dX5_passMinute_57 (by decide) cN_ne (cN_eq (hWB.b.n 49 _) (hWB.b.n 40 _)) (fun (hz57 : ¬ rN (pmB S) 49 0 = rN (pmB S) 40 0) => ?_) (fun (hz57 : rN (pmB S) 49 0 = rN (pmB S) 40 0) => ?_)
    · refine V.iload_n X dX5_passMinute_64 rfl ?_
      exact V.iret (v := nI (pmN S)) X hE rfl rfl (Nat.le_of_ble_eq_true rfl) (Nat.le_of_ble_eq_true rfl) (pN9 rfl (by rw [show pm9 S = pmB S from if_neg (by unfold pmE; rw [← pmB_47, h47, ← pmB_49, ← pmB_40]; simp [hz57])])) dX5_passMinute_65
    · refine V.aload_n X dX5_passMinute_60 rfl ?_
      refine V.callV0 [] X (c_X5_endHandover l D cy ad (pmB S) F p q hWB h47 h48 (by rw [if_pos (show (rO S 47 0).isSome = true by rw [← pmB_47]; exact hz43)] at he; omega)) mv_X5_endHandover gw_3_231 ⟨⟨(Nat.le_of_ble_eq_true rfl), (Nat.le_of_ble_eq_true rfl)⟩, (Nat.le_of_ble_eq_true rfl), (Nat.le_of_ble_eq_true rfl)⟩ (q0 := 0) (ci := 7) rfl rfl rfl (Nat.le_of_ble_eq_true rfl) dX5_passMinute_61 ?_
      refine V.iload_n X dX5_passMinute_64 rfl ?_
      exact V.iret (v := nI (pmN S)) X hE rfl rfl (Nat.le_of_ble_eq_true rfl) (Nat.le_of_ble_eq_true rfl) (pN9 rfl (by rw [show pm9 S = hov9 (pmB S) from if_pos (by unfold pmE; rw [← pmB_47, h47, ← pmB_49, hz57, pmB_40]; simp), hov9_s h47 h48])) dX5_passMinute_65
