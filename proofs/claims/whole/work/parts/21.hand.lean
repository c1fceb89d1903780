/-! ===== Handover, Journal ===== -/
def lgw (S : St) (sg : UInt16) (st pp : Option Nat) (mi : Nat) : St := sN (sN (sO (sO (sC S 29 (up1 (rC S 29) (rN S 50 0) sg)) 30 (up1 (rO S 30) (rN S 50 0) st)) 31 (up1 (rO S 31) (rN S 50 0) pp)) 32 (up1 (rN S 32) (rN S 50 0) mi)) 50 (fun _ => rN S 50 0 + 1)
def stAft (s g : UInt16) : UInt16 := if g = 98 then 97 else if g = 100 then 100 else if g = 102 then 102 else if g = 103 then s else 119
def lastF (st : Nat → Option Nat) (sg : Nat → UInt16) (s : Nat) (f : UInt16) : Nat → UInt16
  | 0 => f
  | e + 1 => if st e = some s then stAft (lastF st sg s f e) (sg e) else lastF st sg s f e
/-- the state of the step s behind the first e entries of the log -/
def lastS (S : St) (s : Nat) (f : UInt16) : Nat → UInt16 := lastF (rO S 30) (rC S 29) s f
theorem lastS_t {S : St} {s : Nat} {f : UInt16} {e : Nat} (h : rO S 30 e = some s) : lastS S s f (e + 1) = stAft (lastS S s f e) (rC S 29 e) := by
  unfold lastS
  rw [lastF, if_pos h]
theorem lastS_f {S : St} {s : Nat} {f : UInt16} {e : Nat} (h : ¬ rO S 30 e = some s) : lastS S s f (e + 1) = lastS S s f e := by
  unfold lastS
  rw [lastF, if_neg h]
def cntF (st : Nat → Option Nat) (sg : Nat → UInt16) (s : Nat) : Nat → Nat
  | 0 => 0
  | e + 1 => if st e = some s then (if sg e = 109 ∨ sg e = 102 then cntF st sg s e + 1 else if sg e = 117 then 0 else cntF st sg s e) else cntF st sg s e
def cntT (S : St) (s : Nat) : Nat → Nat := cntF (rO S 30) (rC S 29) s
theorem cntT_e (S : St) (s e : Nat) : cntT S s (e + 1) = if rO S 30 e = some s then (if rC S 29 e = 109 ∨ rC S 29 e = 102 then cntT S s e + 1 else if rC S 29 e = 117 then 0 else cntT S s e) else cntT S s e := rfl
theorem cntT_le (S : St) (s : Nat) : ∀ e, cntT S s e ≤ e
  | 0 => Nat.le_refl _
  | e + 1 => by
    have := cntT_le S s e
    rw [cntT_e]
    split
    · split
      · omega
      · split <;> omega
    · omega
set_option maxRecDepth 20000 in
set_option maxHeartbeats 4000000 in
theorem c_X1_isOn (l : Launch) (D : va_G) (cy : Nat → ClassId) (ad : Nat → Nat) (S : St) (F : va_W) (hB : Bnd S) : Ctr l D cy yX1_isOn (.code yX1_isOn cX1_isOn 1 (some FieldType.boolean)) ({ frames := 0, cells := 0, slots := 0, locals := 0 } : Room) [.ref (ad 4)] (wC ad cy S ++ F) (pI (b2i ((rO S 47 0).isSome)) (wC ad cy S ++ F)) pNo := by
  refine Ctr.of (by decide) (Nat.le_of_ble_eq_true rfl) ?_
  intro M X hE hN hB9 hI9
  replace X : VX l D M cy cX1_isOn "Runbooker$Handover" (some FieldType.boolean) ({ frames := 0, cells := 0, slots := 0, locals := 0 } : Room) := X
  show V l D M 0 0 (wC ad cy S ++ F) [(0, .ref (ad 4))] 0 []
  refine V.aload_n X dX1_isOn_0 rfl ?_
  refine wC_gX1_9 X dX1_isOn_1 ?_
  refine V.iconst (v := o2i none) X dX1_isOn_4 rfl ?_
  refine V.icmp_eq (tgt := 12) X dX1_isOn_5 (by decide) (cO_eq (a := rO S 47 0) (b := none) (hB.o 47 _) lt_none) (cO_ne (a := rO S 47 0) (b := none)) (fun (hz5 : rO S 47 0 = none) => ?_) (fun (hz5 : ¬ rO S 47 0 = none) => ?_)
  · refine V.iconst (v := nI 0) X dX1_isOn_12 rfl ?_
    exact V.iret (v := b2i false) X hE rfl (nar_b _) (Nat.le_of_ble_eq_true rfl) (Nat.le_of_ble_eq_true rfl) (pB9 (by simp [hz5]) rfl) dX1_isOn_13
  · refine V.iconst (v := nI 1) X dX1_isOn_8 rfl ?_
    refine V.goto (tgt := 13) X dX1_isOn_9 (by decide) ?_
    exact V.iret (v := b2i true) X hE rfl (nar_b _) (Nat.le_of_ble_eq_true rfl) (Nat.le_of_ble_eq_true rfl) (pB9 (by simp [Option.isSome_iff_ne_none, hz5]) rfl) dX1_isOn_13
set_option maxRecDepth 20000 in
set_option maxHeartbeats 4000000 in
theorem c_X1_isFrom (l : Launch) (D : va_G) (cy : Nat → ClassId) (ad : Nat → Nat) (S : St) (F : va_W) (p : Nat) (hB : Bnd S) (hp : p < 16) : Ctr l D cy yX1_isFrom (.code yX1_isFrom cX1_isFrom 2 (some FieldType.boolean)) ({ frames := 0, cells := 0, slots := 0, locals := 0 } : Room) [.ref (ad 4), .int (nI p)] (wC ad cy S ++ F) (pI (b2i (decide (rO S 47 0 = some p))) (wC ad cy S ++ F)) pNo := by
  refine Ctr.of (by decide) (Nat.le_of_ble_eq_true rfl) ?_
  intro M X hE hN hB9 hI9
  replace X : VX l D M cy cX1_isFrom "Runbooker$Handover" (some FieldType.boolean) ({ frames := 0, cells := 0, slots := 0, locals := 0 } : Room) := X
  show V l D M 0 0 (wC ad cy S ++ F) [(0, .ref (ad 4)), (1, .int (nI p))] 0 []
  refine V.aload_n X dX1_isFrom_0 rfl ?_
  refine wC_gX1_9 X dX1_isFrom_1 ?_
  refine V.iload_n X dX1_isFrom_4 rfl ?_
  refine V.icmp_ne (tgt := 12) X dX1_isFrom_5 (by decide) (cO_ne (a := rO S 47 0) (b := some p)) (cO_eq (a := rO S 47 0) (b := some p) (hB.o 47 _) (lt_some9 (by omega))) (fun (hz5 : ¬ rO S 47 0 = some p) => ?_) (fun (hz5 : rO S 47 0 = some p) => ?_)
  · refine V.iconst (v := nI 0) X dX1_isFrom_12 rfl ?_
    exact V.iret (v := b2i false) X hE rfl (nar_b _) (Nat.le_of_ble_eq_true rfl) (Nat.le_of_ble_eq_true rfl) (pB9 (by simp [hz5]) rfl) dX1_isFrom_13
  · refine V.iconst (v := nI 1) X dX1_isFrom_8 rfl ?_
    refine V.goto (tgt := 13) X dX1_isFrom_9 (by decide) ?_
    exact V.iret (v := b2i true) X hE rfl (nar_b _) (Nat.le_of_ble_eq_true rfl) (Nat.le_of_ble_eq_true rfl) (pB9 (by simp [hz5]) rfl) dX1_isFrom_13
set_option maxRecDepth 20000 in
set_option maxHeartbeats 4000000 in
theorem c_X1_involves (l : Launch) (D : va_G) (cy : Nat → ClassId) (ad : Nat → Nat) (S : St) (F : va_W) (p : Nat) (hB : Bnd S) (hp : p < 16) : Ctr l D cy yX1_involves (.code yX1_involves cX1_involves 2 (some FieldType.boolean)) ({ frames := 0, cells := 0, slots := 0, locals := 0 } : Room) [.ref (ad 4), .int (nI p)] (wC ad cy S ++ F) (pI (b2i (decide (rO S 47 0 = some p) || decide (rO S 48 0 = some p))) (wC ad cy S ++ F)) pNo := by
  refine Ctr.of (by decide) (Nat.le_of_ble_eq_true rfl) ?_
  intro M X hE hN hB9 hI9
  replace X : VX l D M cy cX1_involves "Runbooker$Handover" (some FieldType.boolean) ({ frames := 0, cells := 0, slots := 0, locals := 0 } : Room) := X
  show V l D M 0 0 (wC ad cy S ++ F) [(0, .ref (ad 4)), (1, .int (nI p))] 0 []
  refine V.aload_n X dX1_involves_0 rfl ?_
  refine wC_gX1_9 X dX1_involves_1 ?_
  refine V.iload_n X dX1_involves_4 rfl ?_
  refine V.icmp_eq (tgt := 16) X dX1_involves_5 (by decide) (cO_eq (a := rO S 47 0) (b := some p) (hB.o 47 _) (lt_some9 (by omega))) (cO_ne (a := rO S 47 0) (b := some p)) (fun (hz5 : rO S 47 0 = some p) => ?_) (fun (hz5 : ¬ rO S 47 0 = some p) => ?_)
  · refine V.iconst (v := nI 1) X dX1_involves_16 rfl ?_
    refine V.goto (tgt := 21) X dX1_involves_17 (by decide) ?_
    exact V.iret (v := b2i true) X hE rfl (nar_b _) (Nat.le_of_ble_eq_true rfl) (Nat.le_of_ble_eq_true rfl) (pB9 (by simp [hz5]) rfl) dX1_involves_21
  · refine V.aload_n X dX1_involves_8 rfl ?_
    refine wC_gX1_15 X dX1_involves_9 ?_
    refine V.iload_n X dX1_involves_12 rfl ?_
    refine V.icmp_ne (tgt := 20) X dX1_involves_13 (by decide) (cO_ne (a := rO S 48 0) (b := some p)) (cO_eq (a := rO S 48 0) (b := some p) (hB.o 48 _) (lt_some9 (by omega))) (fun (hz13 : ¬ rO S 48 0 = some p) => ?_) (fun (hz13 : rO S 48 0 = some p) => ?_)
    · refine V.iconst (v := nI 0) X dX1_involves_20 rfl ?_
      exact V.iret (v := b2i false) X hE rfl (nar_b _) (Nat.le_of_ble_eq_true rfl) (Nat.le_of_ble_eq_true rfl) (pB9 (by simp [hz5, hz13]) rfl) dX1_involves_21
    · refine V.iconst (v := nI 1) X dX1_involves_16 rfl ?_
      refine V.goto (tgt := 21) X dX1_involves_17 (by decide) ?_
      exact V.iret (v := b2i true) X hE rfl (nar_b _) (Nat.le_of_ble_eq_true rfl) (Nat.le_of_ble_eq_true rfl) (pB9 (by simp [hz5, hz13]) rfl) dX1_involves_21
set_option maxRecDepth 20000 in
set_option maxHeartbeats 4000000 in
theorem c_X1_open (l : Launch) (D : va_G) (cy : Nat → ClassId) (ad : Nat → Nat) (S : St) (F : va_W) (f : Nat) (t : Nat) (e : Nat) : Ctr l D cy yX1_open (.code yX1_open cX1_open 4 none) ({ frames := 0, cells := 0, slots := 0, locals := 0 } : Room) [.ref (ad 4), .int (nI f), .int (nI t), .int (nI e)] (wC ad cy S ++ F) (pU (wC ad cy (sN (sO (sO S 47 (fun _ => some f)) 48 (fun _ => some t)) 49 (fun _ => e)) ++ F)) pNo := by
  refine Ctr.of (by decide) (Nat.le_of_ble_eq_true rfl) ?_
  intro M X hE hN hB9 hI9
  replace X : VX l D M cy cX1_open "Runbooker$Handover" none ({ frames := 0, cells := 0, slots := 0, locals := 0 } : Room) := X
  show V l D M 0 0 (wC ad cy S ++ F) [(0, .ref (ad 4)), (1, .int (nI f)), (2, .int (nI t)), (3, .int (nI e))] 0 []
  refine V.aload_n X dX1_open_0 rfl ?_
  refine V.iload_n X dX1_open_1 rfl ?_
  refine wC_pX1_9 (v := some f) X dX1_open_2 ?_
  refine V.aload_n X dX1_open_5 rfl ?_
  refine V.iload_n X dX1_open_6 rfl ?_
  refine wC_pX1_15 (v := some t) X dX1_open_7 ?_
  refine V.aload_n X dX1_open_10 rfl ?_
  refine V.iload_n X dX1_open_11 rfl ?_
  refine wC_pX1_18 (v := e) X dX1_open_12 ?_
  exact V.vret X hE rfl (Nat.le_of_ble_eq_true rfl) (Nat.le_of_ble_eq_true rfl) (pU9 rfl) dX1_open_15
set_option maxRecDepth 20000 in
set_option maxHeartbeats 4000000 in
theorem c_X1_clear (l : Launch) (D : va_G) (cy : Nat → ClassId) (ad : Nat → Nat) (S : St) (F : va_W) : Ctr l D cy yX1_clear (.code yX1_clear cX1_clear 1 none) ({ frames := 0, cells := 0, slots := 0, locals := 0 } : Room) [.ref (ad 4)] (wC ad cy S ++ F) (pU (wC ad cy (sO (sO S 47 (fun _ => none)) 48 (fun _ => none)) ++ F)) pNo := by
  refine Ctr.of (by decide) (Nat.le_of_ble_eq_true rfl) ?_
  intro M X hE hN hB9 hI9
  replace X : VX l D M cy cX1_clear "Runbooker$Handover" none ({ frames := 0, cells := 0, slots := 0, locals := 0 } : Room) := X
  show V l D M 0 0 (wC ad cy S ++ F) [(0, .ref (ad 4))] 0 []
  refine V.aload_n X dX1_clear_0 rfl ?_
  refine V.iconst (v := o2i none) X dX1_clear_1 rfl ?_
  refine wC_pX1_9 (v := none) X dX1_clear_2 ?_
  refine V.aload_n X dX1_clear_5 rfl ?_
  refine V.iconst (v := o2i none) X dX1_clear_6 rfl ?_
  refine wC_pX1_15 (v := none) X dX1_clear_7 ?_
  exact V.vret X hE rfl (Nat.le_of_ble_eq_true rfl) (Nat.le_of_ble_eq_true rfl) (pU9 rfl) dX1_clear_10
set_option maxRecDepth 20000 in
set_option maxHeartbeats 4000000 in
theorem c_X2_has (l : Launch) (D : va_G) (cy : Nat → ClassId) (ad : Nat → Nat) (S : St) (F : va_W) (x : Int32) : Ctr l D cy yX2_has (.code yX2_has cX2_has 2 (some FieldType.boolean)) ({ frames := 0, cells := 0, slots := 0, locals := 0 } : Room) [.ref (ad 5), .int x] (wC ad cy S ++ F) (pI (b2i (inR x (rN S 50 0))) (wC ad cy S ++ F)) pNo := by
  refine Ctr.of (by decide) (Nat.le_of_ble_eq_true rfl) ?_
  intro M X hE hN hB9 hI9
  replace X : VX l D M cy cX2_has "Runbooker$Journal" (some FieldType.boolean) ({ frames := 0, cells := 0, slots := 0, locals := 0 } : Room) := X
  show V l D M 0 0 (wC ad cy S ++ F) [(0, .ref (ad 5)), (1, .int x)] 0 []
  refine V.iload_n X dX2_has_0 rfl ?_
  refine V.if_lt (tgt := 16) X dX2_has_1 (by decide) id id (fun (hz1 : x < 0) => ?_) (fun (hz1 : ¬ x < 0) => ?_)
  · refine V.iconst (v := nI 0) X dX2_has_16 rfl ?_
    exact V.iret (v := b2i false) X hE rfl (nar_b _) (Nat.le_of_ble_eq_true rfl) (Nat.le_of_ble_eq_true rfl) (pB9 (by simp [inR, hz1]) rfl) dX2_has_17
  · refine V.iload_n X dX2_has_4 rfl ?_
    refine V.aload_n X dX2_has_5 rfl ?_
    refine wC_gX2_25 X dX2_has_6 ?_
    refine V.icmp_ge (tgt := 16) X dX2_has_9 (by decide) id id (fun (hz9 : nI (rN S 50 0) ≤ x) => ?_) (fun (hz9 : ¬ nI (rN S 50 0) ≤ x) => ?_)
    · refine V.iconst (v := nI 0) X dX2_has_16 rfl ?_
      exact V.iret (v := b2i false) X hE rfl (nar_b _) (Nat.le_of_ble_eq_true rfl) (Nat.le_of_ble_eq_true rfl) (pB9 (by simp [inR, hz1, hz9]) rfl) dX2_has_17
    · refine V.iconst (v := nI 1) X dX2_has_12 rfl ?_
      refine V.goto (tgt := 17) X dX2_has_13 (by decide) ?_
      exact V.iret (v := b2i true) X hE rfl (nar_b _) (Nat.le_of_ble_eq_true rfl) (Nat.le_of_ble_eq_true rfl) (pB9 (by simp [inR, hz1, hz9]) rfl) dX2_has_17
set_option maxRecDepth 20000 in
set_option maxHeartbeats 4000000 in
theorem c_X2_write (l : Launch) (D : va_G) (cy : Nat → ClassId) (ad : Nat → Nat) (S : St) (F : va_W) (sg : UInt16) (st : Option Nat) (pp : Option Nat) (mi : Nat) (hB : Bnd S) (h9 : rN S 50 0 < 1536) : Ctr l D cy yX2_write (.code yX2_write cX2_write 5 none) ({ frames := 0, cells := 0, slots := 0, locals := 0 } : Room) [.ref (ad 5), .int (c2i sg), .int (o2i st), .int (o2i pp), .int (nI mi)] (wC ad cy S ++ F) (pU (wC ad cy (lgw S sg st pp mi) ++ F)) pNo := by
  refine Ctr.of (by decide) (Nat.le_of_ble_eq_true rfl) ?_
  intro M X hE hN hB9 hI9
  replace X : VX l D M cy cX2_write "Runbooker$Journal" none ({ frames := 0, cells := 0, slots := 0, locals := 0 } : Room) := X
  show V l D M 0 0 (wC ad cy S ++ F) [(0, .ref (ad 5)), (1, .int (c2i sg)), (2, .int (o2i st)), (3, .int (o2i pp)), (4, .int (nI mi))] 0 []
  refine V.aload_n X dX2_write_0 rfl ?_
  refine wC_gX2_25 X dX2_write_1 ?_
  refine V.sipush (v := nI 1536) X dX2_write_4 (by decide) ?_
  refine V.icmp_ge (tgt := 61) X dX2_write_7 (by decide) (cN_le (by decide) (hB.n 50 _)) (cN_nle (by decide) (hB.n 50 _)) (fun (hz7 : 1536 ≤ rN S 50 0) => ?_) (fun (hz7 : rN S 50 0 < 1536) => ?_)
  · exact absurd hz7 (by omega)
  · refine V.aload_n X dX2_write_10 rfl ?_
    refine wC_gX2_9 X dX2_write_11 ?_
    refine V.aload_n X dX2_write_14 rfl ?_
    refine wC_gX2_25 X dX2_write_15 ?_
    refine V.iload_n X dX2_write_18 rfl ?_
    refine wC_st29 (i := rN S 50 0) (v := sg) (g := (rC S 29)) X (by omega) rfl dX2_write_19 ?_
    refine V.aload_n X dX2_write_20 rfl ?_
    refine wC_gX2_15 X dX2_write_21 ?_
    refine V.aload_n X dX2_write_24 rfl ?_
    refine wC_gX2_25 X dX2_write_25 ?_
    refine V.iload_n X dX2_write_28 rfl ?_
    refine wC_st30 (i := rN S 50 0) (v := st) (g := (rO S 30)) X (by omega) rfl dX2_write_29 ?_
    refine V.aload_n X dX2_write_30 rfl ?_
    refine wC_gX2_19 X dX2_write_31 ?_
    refine V.aload_n X dX2_write_34 rfl ?_
    refine wC_gX2_25 X dX2_write_35 ?_
    refine V.iload_n X dX2_write_38 rfl ?_
    refine wC_st31 (i := rN S 50 0) (v := pp) (g := (rO S 31)) X (by omega) rfl dX2_write_39 ?_
    refine V.aload_n X dX2_write_40 rfl ?_
    refine wC_gX2_22 X dX2_write_41 ?_
    refine V.aload_n X dX2_write_44 rfl ?_
    refine wC_gX2_25 X dX2_write_45 ?_
    refine V.iload X dX2_write_48 rfl ?_
    refine wC_st32 (i := rN S 50 0) (v := mi) (g := (rN S 32)) X (by omega) rfl dX2_write_50 ?_
    refine V.aload_n X dX2_write_51 rfl ?_
    refine V.dup X dX2_write_52 rfl ?_
    refine wC_gX2_25 X dX2_write_53 ?_
    refine V.iconst (v := nI 1) X dX2_write_56 rfl ?_
    refine V.iadd (v := nI (rN S 50 0 + 1)) X dX2_write_57 (nI_add _ _) ?_
    refine wC_pX2_25 (v := rN S 50 0 + 1) X dX2_write_58 ?_
    exact V.vret X hE rfl (Nat.le_of_ble_eq_true rfl) (Nat.le_of_ble_eq_true rfl) (pU9 rfl) dX2_write_61
set_option maxRecDepth 20000 in
set_option maxHeartbeats 4000000 in
theorem c_X2_stateAfter (l : Launch) (D : va_G) (cy : Nat → ClassId) (ad : Nat → Nat) (S : St) (F : va_W) (a : UInt16) (g : UInt16) : Ctr l D cy yX2_stateAfter (.code yX2_stateAfter cX2_stateAfter 2 (some FieldType.char)) ({ frames := 0, cells := 0, slots := 0, locals := 0 } : Room) [.int (c2i a), .int (c2i g)] (wC ad cy S ++ F) (pI (c2i (stAft a g)) (wC ad cy S ++ F)) pNo := by
  refine Ctr.of (by decide) (Nat.le_of_ble_eq_true rfl) ?_
  intro M X hE hN hB9 hI9
  replace X : VX l D M cy cX2_stateAfter "Runbooker$Journal" (some FieldType.char) ({ frames := 0, cells := 0, slots := 0, locals := 0 } : Room) := X
  show V l D M 0 0 (wC ad cy S ++ F) [(0, .int (c2i a)), (1, .int (c2i g))] 0 []
  refine V.iload_n X dX2_stateAfter_0 rfl ?_
  refine V.bipush (v := nI 98) X dX2_stateAfter_1 (by decide) ?_
  refine V.icmp_ne (tgt := 9) X dX2_stateAfter_3 (by decide) (cC_ne (a := g) (b := 98)) (cC_eq (a := g) (b := 98)) (fun (hz3 : ¬ g = 98) => ?_) (fun (hz3 : g = 98) => ?_)
  · refine V.iload_n X dX2_stateAfter_9 rfl ?_
    refine V.bipush (v := nI 100) X dX2_stateAfter_10 (by decide) ?_
    refine V.icmp_ne (tgt := 18) X dX2_stateAfter_12 (by decide) (cC_ne (a := g) (b := 100)) (cC_eq (a := g) (b := 100)) (fun (hz12 : ¬ g = 100) => ?_) (fun (hz12 : g = 100) => ?_)
    · refine V.iload_n X dX2_stateAfter_18 rfl ?_
      refine V.bipush (v := nI 102) X dX2_stateAfter_19 (by decide) ?_
      refine V.icmp_ne (tgt := 27) X dX2_stateAfter_21 (by decide) (cC_ne (a := g) (b := 102)) (cC_eq (a := g) (b := 102)) (fun (hz21 : ¬ g = 102) => ?_) (fun (hz21 : g = 102) => ?_)
      · refine V.iload_n X dX2_stateAfter_27 rfl ?_
        refine V.bipush (v := nI 103) X dX2_stateAfter_28 (by decide) ?_
        refine V.icmp_ne (tgt := 37) X dX2_stateAfter_30 (by decide) (cC_ne (a := g) (b := 103)) (cC_eq (a := g) (b := 103)) (fun (hz30 : ¬ g = 103) => ?_) (fun (hz30 : g = 103) => ?_)
        · refine V.bipush (v := nI 119) X dX2_stateAfter_37 (by decide) ?_
          exact V.iret (v := c2i 119) X hE rfl (nar_c _) (Nat.le_of_ble_eq_true rfl) (Nat.le_of_ble_eq_true rfl) (pC9 (by simp [stAft, hz3, hz12, hz21, hz30]) rfl) dX2_stateAfter_39
        · refine V.iload_n X dX2_stateAfter_33 rfl ?_
          refine V.goto (tgt := 39) X dX2_stateAfter_34 (by decide) ?_
          exact V.iret (v := c2i a) X hE rfl (nar_c _) (Nat.le_of_ble_eq_true rfl) (Nat.le_of_ble_eq_true rfl) (pC9 (by simp [stAft, hz3, hz12, hz21, hz30]) rfl) dX2_stateAfter_39
      · refine V.bipush (v := nI 102) X dX2_stateAfter_24 (by decide) ?_
        exact V.iret (v := c2i 102) X hE rfl (nar_c _) (Nat.le_of_ble_eq_true rfl) (Nat.le_of_ble_eq_true rfl) (pC9 (by simp [stAft, hz3, hz12, hz21]) rfl) dX2_stateAfter_26
    · refine V.bipush (v := nI 100) X dX2_stateAfter_15 (by decide) ?_
      exact V.iret (v := c2i 100) X hE rfl (nar_c _) (Nat.le_of_ble_eq_true rfl) (Nat.le_of_ble_eq_true rfl) (pC9 (by simp [stAft, hz3, hz12]) rfl) dX2_stateAfter_17
  · refine V.bipush (v := nI 97) X dX2_stateAfter_6 (by decide) ?_
    exact V.iret (v := c2i 97) X hE rfl (nar_c _) (Nat.le_of_ble_eq_true rfl) (Nat.le_of_ble_eq_true rfl) (pC9 (by simp [stAft, hz3]) rfl) dX2_stateAfter_8
set_option maxRecDepth 20000 in
set_option maxHeartbeats 4000000 in
theorem c_X2_lastState (l : Launch) (D : va_G) (cy : Nat → ClassId) (ad : Nat → Nat) (S : St) (F : va_W) (s : Nat) (f : UInt16) (hB : Bnd S) (hs : s < 16) (h9 : rN S 50 0 ≤ 1536) : Ctr l D cy yX2_lastState (.code yX2_lastState cX2_lastState 5 (some FieldType.char)) ({ frames := 1, cells := 0, slots := 0, locals := 30 } : Room) [.ref (ad 5), .int (nI s), .int (c2i f)] (wC ad cy S ++ F) (pI (c2i (lastS S s f (rN S 50 0))) (wC ad cy S ++ F)) pNo := by
  refine Ctr.of (by decide) (Nat.le_of_ble_eq_true rfl) ?_
  intro M X hE hN hB9 hI9
  replace X : VX l D M cy cX2_lastState "Runbooker$Journal" (some FieldType.char) ({ frames := 1, cells := 0, slots := 0, locals := 30 } : Room) := X
  show V l D M 0 0 (wC ad cy S ++ F) [(0, .ref (ad 5)), (1, .int (nI s)), (2, .int (c2i f))] 0 []
  refine V.iload_n X dX2_lastState_0 rfl ?_
  refine V.istore_n (L' := [(3, .int (c2i f)), (0, .ref (ad 5)), (1, .int (nI s)), (2, .int (c2i f))]) X dX2_lastState_1 rfl hB9 (by decide) rfl ?_
  refine V.iconst (v := nI 0) X dX2_lastState_2 rfl ?_
  refine V.istore (L' := [(4, .int (nI 0)), (3, .int (c2i f)), (0, .ref (ad 5)), (1, .int (nI s)), (2, .int (c2i f))]) X dX2_lastState_3 hB9 (by decide) rfl ?_
  have loop5 : ∀ (d9 : Nat) (i : Nat), (rN S 50 0 - i) < d9 → (i ≤ rN S 50 0) → V l D M 0 0 (wC ad cy S ++ F) [(4, .int (nI i)), (3, .int (c2i (lastS S s f i))), (0, .ref (ad 5)), (1, .int (nI s)), (2, .int (c2i f))] 5 [] := by
    intro d9
    induction d9 with
    | zero => intro i h9; exact absurd h9 (Nat.not_lt_zero _)
    | succ d9 ih5 =>
      intro i hd9 hi
      refine V.iload X dX2_lastState_5 rfl ?_
      refine V.aload_n X dX2_lastState_7 rfl ?_
      refine wC_gX2_25 X dX2_lastState_8 ?_
      refine V.icmp_ge (tgt := 43) X dX2_lastState_11 (by decide) (cN_le (hB.n 50 _) (by omega)) (cN_nle (hB.n 50 _) (by omega)) (fun (hz11 : rN S 50 0 ≤ i) => ?_) (fun (hz11 : i < rN S 50 0) => ?_)
      · refine V.iload_n X dX2_lastState_43 rfl ?_
        exact V.iret (v := c2i (lastS S s f i)) X hE rfl (nar_c _) (Nat.le_of_ble_eq_true rfl) (Nat.le_of_ble_eq_true rfl) (pC9 (by rw [show i = rN S 50 0 from Nat.le_antisymm hi hz11]) rfl) dX2_lastState_44
      · refine V.aload_n X dX2_lastState_14 rfl ?_
        refine wC_gX2_15 X dX2_lastState_15 ?_
        refine V.iload X dX2_lastState_18 rfl ?_
        refine wC_ld30 (i := i) X (by omega) dX2_lastState_20 ?_
        refine V.iload_n X dX2_lastState_21 rfl ?_
        refine V.icmp_ne (tgt := 37) X dX2_lastState_22 (by decide) (cO_ne (a := rO S 30 i) (b := some s)) (cO_eq (a := rO S 30 i) (b := some s) (hB.o 30 _) (lt_some9 (by omega))) (fun (hz22 : ¬ rO S 30 i = some s) => ?_) (fun (hz22 : rO S 30 i = some s) => ?_)
        · refine V.iinc (v := nI (i + 1)) (L' := [(4, .int (nI (i + 1))), (3, .int (c2i (lastS S s f i))), (0, .ref (ad 5)), (1, .int (nI s)), (2, .int (c2i f))]) X dX2_lastState_37 rfl (nI_inc _) hB9 (by decide) rfl ?_
          refine V.goto (tgt := 5) X dX2_lastState_40 (by decide) ?_
          exact V.eqs rfl (by rw [lastS_f hz22]) (ih5 (i + 1) (by omega) (by omega))
        · refine V.iload_n X dX2_lastState_25 rfl ?_
          refine V.aload_n X dX2_lastState_26 rfl ?_
          refine wC_gX2_9 X dX2_lastState_27 ?_
          refine V.iload X dX2_lastState_30 rfl ?_
          refine wC_ld29 (i := i) X (by omega) dX2_lastState_32 ?_
          refine V.callS1 [.int (c2i (lastS S s f i)), .int (c2i (rC S 29 i))] X (c_X2_stateAfter l D cy ad S F (lastS S s f i) (rC S 29 i)) ms_X2_stateAfter gw_5_4 ⟨⟨(Nat.le_of_ble_eq_true rfl), (Nat.le_of_ble_eq_true rfl)⟩, (Nat.le_of_ble_eq_true rfl), (Nat.le_of_ble_eq_true rfl)⟩ rfl (Nat.le_of_ble_eq_true rfl) dX2_lastState_33 ?_
          refine V.istore_n (L' := [(3, .int (c2i (stAft (lastS S s f i) (rC S 29 i)))), (4, .int (nI i)), (0, .ref (ad 5)), (1, .int (nI s)), (2, .int (c2i f))]) X dX2_lastState_36 rfl hB9 (by decide) rfl ?_
          refine V.iinc (v := nI (i + 1)) (L' := [(4, .int (nI (i + 1))), (3, .int (c2i (stAft (lastS S s f i) (rC S 29 i)))), (0, .ref (ad 5)), (1, .int (nI s)), (2, .int (c2i f))]) X dX2_lastState_37 rfl (nI_inc _) hB9 (by decide) rfl ?_
          refine V.goto (tgt := 5) X dX2_lastState_40 (by decide) ?_
          exact V.eqs rfl (by rw [lastS_t hz22]) (ih5 (i + 1) (by omega) (by omega))
  exact V.eqs rfl rfl (loop5 _ 0 (Nat.lt_succ_self _) (Nat.zero_le _))
set_option maxRecDepth 20000 in
set_option maxHeartbeats 4000000 in
theorem c_X2_countTries (l : Launch) (D : va_G) (cy : Nat → ClassId) (ad : Nat → Nat) (S : St) (F : va_W) (s : Nat) (hB : Bnd S) (hs : s < 16) (h9 : rN S 50 0 ≤ 1536) : Ctr l D cy yX2_countTries (.code yX2_countTries cX2_countTries 4 (some FieldType.int)) ({ frames := 0, cells := 0, slots := 0, locals := 0 } : Room) [.ref (ad 5), .int (nI s)] (wC ad cy S ++ F) (pI (nI (cntT S s (rN S 50 0))) (wC ad cy S ++ F)) pNo := by
  refine Ctr.of (by decide) (Nat.le_of_ble_eq_true rfl) ?_
  intro M X hE hN hB9 hI9
  replace X : VX l D M cy cX2_countTries "Runbooker$Journal" (some FieldType.int) ({ frames := 0, cells := 0, slots := 0, locals := 0 } : Room) := X
  show V l D M 0 0 (wC ad cy S ++ F) [(0, .ref (ad 5)), (1, .int (nI s))] 0 []
  refine V.iconst (v := nI 0) X dX2_countTries_0 rfl ?_
  refine V.istore_n (L' := [(2, .int (nI 0)), (0, .ref (ad 5)), (1, .int (nI s))]) X dX2_countTries_1 rfl hB9 (by decide) rfl ?_
  refine V.iconst (v := nI 0) X dX2_countTries_2 rfl ?_
  refine V.istore_n (L' := [(3, .int (nI 0)), (2, .int (nI 0)), (0, .ref (ad 5)), (1, .int (nI s))]) X dX2_countTries_3 rfl hB9 (by decide) rfl ?_
  have loop4 : ∀ (d9 : Nat) (i : Nat), (rN S 50 0 - i) < d9 → (i ≤ rN S 50 0) → V l D M 0 0 (wC ad cy S ++ F) [(3, .int (nI i)), (2, .int (nI (cntT S s i))), (0, .ref (ad 5)), (1, .int (nI s))] 4 [] := by
    intro d9
    induction d9 with
    | zero => intro i h9; exact absurd h9 (Nat.not_lt_zero _)
    | succ d9 ih4 =>
      intro i hd9 hi
      refine V.iload_n X dX2_countTries_4 rfl ?_
      refine V.aload_n X dX2_countTries_5 rfl ?_
      refine wC_gX2_25 X dX2_countTries_6 ?_
      refine V.icmp_ge (tgt := 72) X dX2_countTries_9 (by decide) (cN_le (hB.n 50 _) (by omega)) (cN_nle (hB.n 50 _) (by omega)) (fun (hz9 : rN S 50 0 ≤ i) => ?_) (fun (hz9 : i < rN S 50 0) => ?_)
      · refine V.iload_n X dX2_countTries_72 rfl ?_
        exact V.iret (v := nI (cntT S s i)) X hE rfl rfl (Nat.le_of_ble_eq_true rfl) (Nat.le_of_ble_eq_true rfl) (pN9 (by rw [show i = rN S 50 0 from Nat.le_antisymm hi hz9]) rfl) dX2_countTries_73
      · refine V.aload_n X dX2_countTries_12 rfl ?_
        refine wC_gX2_15 X dX2_countTries_13 ?_
        refine V.iload_n X dX2_countTries_16 rfl ?_
        refine wC_ld30 (i := i) X (by omega) dX2_countTries_17 ?_
        refine V.iload_n X dX2_countTries_18 rfl ?_
        refine V.icmp_eq (tgt := 25) X dX2_countTries_19 (by decide) (cO_eq (a := rO S 30 i) (b := some s) (hB.o 30 _) (lt_some9 (by omega))) (cO_ne (a := rO S 30 i) (b := some s)) (fun (hz19 : rO S 30 i = some s) => ?_) (fun (hz19 : ¬ rO S 30 i = some s) => ?_)
        · refine V.aload_n X dX2_countTries_25 rfl ?_
          refine wC_gX2_9 X dX2_countTries_26 ?_
          refine V.iload_n X dX2_countTries_29 rfl ?_
          refine wC_ld29 (i := i) X (by omega) dX2_countTries_30 ?_
          refine V.bipush (v := nI 109) X dX2_countTries_31 (by decide) ?_
          refine V.icmp_eq (tgt := 47) X dX2_countTries_33 (by decide) (cC_eq (a := rC S 29 i) (b := 109)) (cC_ne (a := rC S 29 i) (b := 109)) (fun (hz33 : rC S 29 i = 109) => ?_) (fun (hz33 : ¬ rC S 29 i = 109) => ?_)
          · refine V.iinc (v := nI (cntT S s i + 1)) (L' := [(2, .int (nI (cntT S s i + 1))), (3, .int (nI i)), (0, .ref (ad 5)), (1, .int (nI s))]) X dX2_countTries_47 rfl (nI_inc _) hB9 (by decide) rfl ?_
            refine V.goto (tgt := 66) X dX2_countTries_50 (by decide) ?_
            refine V.iinc (v := nI (i + 1)) (L' := [(3, .int (nI (i + 1))), (2, .int (nI (cntT S s i + 1))), (0, .ref (ad 5)), (1, .int (nI s))]) X dX2_countTries_66 rfl (nI_inc _) hB9 (by decide) rfl ?_
            refine V.goto (tgt := 4) X dX2_countTries_69 (by decide) ?_
            exact V.eqs rfl (by rw [cntT_e]; simp [hz19, hz33]) (ih4 (i + 1) (by omega) (by omega))
          · refine V.aload_n X dX2_countTries_36 rfl ?_
            refine wC_gX2_9 X dX2_countTries_37 ?_
            refine V.iload_n X dX2_countTries_40 rfl ?_
            refine wC_ld29 (i := i) X (by omega) dX2_countTries_41 ?_
            refine V.bipush (v := nI 102) X dX2_countTries_42 (by decide) ?_
            refine V.icmp_ne (tgt := 53) X dX2_countTries_44 (by decide) (cC_ne (a := rC S 29 i) (b := 102)) (cC_eq (a := rC S 29 i) (b := 102)) (fun (hz44 : ¬ rC S 29 i = 102) => ?_) (fun (hz44 : rC S 29 i = 102) => ?_)
            · refine V.aload_n X dX2_countTries_53 rfl ?_
              refine wC_gX2_9 X dX2_countTries_54 ?_
              refine V.iload_n X dX2_countTries_57 rfl ?_
              refine wC_ld29 (i := i) X (by omega) dX2_countTries_58 ?_
              refine V.bipush (v := nI 117) X dX2_countTries_59 (by decide) ?_
              refine V.icmp_ne (tgt := 66) X dX2_countTries_61 (by decide) (cC_ne (a := rC S 29 i) (b := 117)) (cC_eq (a := rC S 29 i) (b := 117)) (fun (hz61 : ¬ rC S 29 i = 117) => ?_) (fun (hz61 : rC S 29 i = 117) => ?_)
              · refine V.iinc (v := nI (i + 1)) (L' := [(3, .int (nI (i + 1))), (2, .int (nI (cntT S s i))), (0, .ref (ad 5)), (1, .int (nI s))]) X dX2_countTries_66 rfl (nI_inc _) hB9 (by decide) rfl ?_
                refine V.goto (tgt := 4) X dX2_countTries_69 (by decide) ?_
                exact V.eqs rfl (by rw [cntT_e]; simp [hz19, hz33, hz44, hz61]) (ih4 (i + 1) (by omega) (by omega))
              · refine V.iconst (v := nI 0) X dX2_countTries_64 rfl ?_
                refine V.istore_n (L' := [(2, .int (nI 0)), (3, .int (nI i)), (0, .ref (ad 5)), (1, .int (nI s))]) X dX2_countTries_65 rfl hB9 (by decide) rfl ?_
                refine V.iinc (v := nI (i + 1)) (L' := [(3, .int (nI (i + 1))), (2, .int (nI 0)), (0, .ref (ad 5)), (1, .int (nI s))]) X dX2_countTries_66 rfl (nI_inc _) hB9 (by decide) rfl ?_
                refine V.goto (tgt := 4) X dX2_countTries_69 (by decide) ?_
                exact V.eqs rfl (by rw [cntT_e]; simp [hz19, hz33, hz44, hz61]) (ih4 (i + 1) (by omega) (by omega))
            · refine V.iinc (v := nI (cntT S s i + 1)) (L' := [(2, .int (nI (cntT S s i + 1))), (3, .int (nI i)), (0, .ref (ad 5)), (1, .int (nI s))]) X dX2_countTries_47 rfl (nI_inc _) hB9 (by decide) rfl ?_
              refine V.goto (tgt := 66) X dX2_countTries_50 (by decide) ?_
              refine V.iinc (v := nI (i + 1)) (L' := [(3, .int (nI (i + 1))), (2, .int (nI (cntT S s i + 1))), (0, .ref (ad 5)), (1, .int (nI s))]) X dX2_countTries_66 rfl (nI_inc _) hB9 (by decide) rfl ?_
              refine V.goto (tgt := 4) X dX2_countTries_69 (by decide) ?_
              exact V.eqs rfl (by rw [cntT_e]; simp [hz19, hz33, hz44]) (ih4 (i + 1) (by omega) (by omega))
        · refine V.goto (tgt := 66) X dX2_countTries_22 (by decide) ?_
          refine V.iinc (v := nI (i + 1)) (L' := [(3, .int (nI (i + 1))), (2, .int (nI (cntT S s i))), (0, .ref (ad 5)), (1, .int (nI s))]) X dX2_countTries_66 rfl (nI_inc _) hB9 (by decide) rfl ?_
          refine V.goto (tgt := 4) X dX2_countTries_69 (by decide) ?_
          exact V.eqs rfl (by rw [cntT_e]; simp [hz19]) (ih4 (i + 1) (by omega) (by omega))
  exact V.eqs rfl rfl (loop4 _ 0 (Nat.lt_succ_self _) (Nat.zero_le _))
