/-! ===== Progress ===== -/
/-- s is some step's fallback -/
def offF (S : St) (s : Nat) : Bool := (fst9 (fun t => decide (rO S 16 t = some s)) (rN S 44 0)).isSome
def rst22 (S : St) (s : Nat) : UInt16 := if offF S s then 111 else 119
def actW (S : St) (h : Option Nat) (s : Nat) : Bool := decide (rC S 22 s = 97) && !decide (some s = h)
def wrkF (S : St) (h : Option Nat) (s : Nat) : Nat := if actW S h s then rN S 26 s + 1 else rN S 26 s
def plc9 (S : St) (s : Nat) : Nat := (fst9 (fun k => decide (rN S 28 k = s)) (rN S 45 0)).getD (rN S 45 0)
def ltd9 (S : St) : Option Nat := if rN S 45 0 = 0 then none else some (rN S 28 (rN S 45 0 - 1))
def prS (S : St) (i : Nat) : St := sN (sC (sB (sB (sN (sN S 46 (fun _ => rN S 44 0)) 45 (fun _ => 0)) 23 (low9 (offF S) (rB S 23) i)) 24 (low9 (fun _ => false) (rB S 24) i)) 22 (low9 (rst22 S) (rC S 22) i)) 25 (low9 (fun _ => 0) (rN S 25) i)
theorem low9_lt {g f : Nat → Nat} {i B : Nat} (hg : ∀ j, g j < B) (hf : ∀ j, f j < B) : ∀ j, low9 g f i j < B := by
  intro j
  unfold low9
  split
  · exact hg j
  · exact hf j
theorem prS_bnd {S : St} (h : Bnd S) (hn : rN S 44 0 ≤ 16) (i : Nat) : Bnd (prS S i) := by
  unfold prS
  exact (((((h.sN 46 (fun _ => by omega)).sN 45 (fun _ => by omega)).sB 23 _).sB 24 _).sC 22 _).sN 25 (low9_lt (fun _ => by omega) (h.1 25))
/-- the six seen readings of a step are written -/
def see9 (S : St) (s i : Nat) : Nat → Int32 := fun j => if s * 6 ≤ j ∧ j < s * 6 + i then rI S 6 (j - s * 6) else rI S 27 j
theorem see9_0 (S : St) (s : Nat) : see9 S s 0 = rI S 27 := by
  funext j
  unfold see9
  rw [if_neg (by omega)]
theorem see9_s (S : St) (s i : Nat) : up1 (see9 S s i) (s * 6 + i) (rI S 6 i) = see9 S s (i + 1) := by
  funext j
  unfold up1 see9
  by_cases e : j = s * 6 + i
  · subst e
    rw [if_pos rfl, if_pos (by omega), show s * 6 + i - s * 6 = i by omega]
  · have h1 : (s * 6 ≤ j ∧ j < s * 6 + (i + 1)) ↔ (s * 6 ≤ j ∧ j < s * 6 + i) := by omega
    simp only [if_neg e, h1]
theorem ltd9_lt {S : St} (hB : Bnd S) {k : Nat} (e : ltd9 S = some k) : k < 2147483648 := by
  unfold ltd9 at e
  split at e
  · cases e
  · cases e
    exact hB.n 28 _
theorem ltd9_eq {S : St} (h0 : 0 < rN S 45 0) : ltd9 S = some (rN S 28 (rN S 45 0 - 1)) := by
  unfold ltd9
  rw [if_neg (show ¬ rN S 45 0 = 0 by omega)]
set_option maxRecDepth 20000 in
set_option maxHeartbeats 4000000 in
theorem c_X4_has (l : Launch) (D : va_G) (cy : Nat → ClassId) (ad : Nat → Nat) (S : St) (F : va_W) (x : Int32) : Ctr l D cy yX4_has (.code yX4_has cX4_has 2 (some FieldType.boolean)) ({ frames := 0, cells := 0, slots := 0, locals := 0 } : Room) [.ref (ad 3), .int x] (wC ad cy S ++ F) (pI (b2i (inR x (rN S 46 0))) (wC ad cy S ++ F)) pNo := by
  refine Ctr.of (by decide) (Nat.le_of_ble_eq_true rfl) ?_
  intro M X hE hN hB9 hI9
  replace X : VX l D M cy cX4_has "Runbooker$Progress" (some FieldType.boolean) ({ frames := 0, cells := 0, slots := 0, locals := 0 } : Room) := X
  show V l D M 0 0 (wC ad cy S ++ F) [(0, .ref (ad 3)), (1, .int x)] 0 []
  refine V.iload_n X dX4_has_0 rfl ?_
  refine V.if_lt (tgt := 16) X dX4_has_1 (by decide) id id (fun (hz1 : x < 0) => ?_) (fun (hz1 : ¬ x < 0) => ?_)
  · refine V.iconst (v := nI 0) X dX4_has_16 rfl ?_
    exact V.iret (v := b2i false) X hE rfl (nar_b _) (Nat.le_of_ble_eq_true rfl) (Nat.le_of_ble_eq_true rfl) (pB9 (by simp [inR, hz1]) rfl) dX4_has_17
  · refine V.iload_n X dX4_has_4 rfl ?_
    refine V.aload_n X dX4_has_5 rfl ?_
    refine wC_gX4_35 X dX4_has_6 ?_
    refine V.icmp_ge (tgt := 16) X dX4_has_9 (by decide) id id (fun (hz9 : nI (rN S 46 0) ≤ x) => ?_) (fun (hz9 : ¬ nI (rN S 46 0) ≤ x) => ?_)
    · refine V.iconst (v := nI 0) X dX4_has_16 rfl ?_
      exact V.iret (v := b2i false) X hE rfl (nar_b _) (Nat.le_of_ble_eq_true rfl) (Nat.le_of_ble_eq_true rfl) (pB9 (by simp [inR, hz1, hz9]) rfl) dX4_has_17
    · refine V.iconst (v := nI 1) X dX4_has_12 rfl ?_
      refine V.goto (tgt := 17) X dX4_has_13 (by decide) ?_
      exact V.iret (v := b2i true) X hE rfl (nar_b _) (Nat.le_of_ble_eq_true rfl) (Nat.le_of_ble_eq_true rfl) (pB9 (by simp [inR, hz1, hz9]) rfl) dX4_has_17
set_option maxRecDepth 20000 in
set_option maxHeartbeats 4000000 in
theorem c_X4_reset (l : Launch) (D : va_G) (cy : Nat → ClassId) (ad : Nat → Nat) (S : St) (F : va_W) (hB : Bnd S) (hn : rN S 44 0 ≤ 16) : Ctr l D cy yX4_reset (.code yX4_reset cX4_reset 3 none) ({ frames := 1, cells := 0, slots := 0, locals := 40 } : Room) [.ref (ad 3), .ref (ad 2)] (wC ad cy S ++ F) (pU (wC ad cy (prS S (rN S 44 0)) ++ F)) pNo := by
  refine Ctr.of (by decide) (Nat.le_of_ble_eq_true rfl) ?_
  intro M X hE hN hB9 hI9
  replace X : VX l D M cy cX4_reset "Runbooker$Progress" none ({ frames := 1, cells := 0, slots := 0, locals := 40 } : Room) := X
  show V l D M 0 0 (wC ad cy S ++ F) [(0, .ref (ad 3)), (1, .ref (ad 2))] 0 []
  refine V.aload_n X dX4_reset_0 rfl ?_
  refine V.aload_n X dX4_reset_1 rfl ?_
  refine wC_gX4_39 X dX4_reset_2 ?_
  refine wC_pX4_35 (v := rN S 44 0) X dX4_reset_5 ?_
  refine V.aload_n X dX4_reset_8 rfl ?_
  refine V.iconst (v := nI 0) X dX4_reset_9 rfl ?_
  refine wC_pX4_42 (v := 0) X dX4_reset_10 ?_
  refine V.iconst (v := nI 0) X dX4_reset_13 rfl ?_
  refine V.istore_n (L' := [(2, .int (nI 0)), (0, .ref (ad 3)), (1, .ref (ad 2))]) X dX4_reset_14 rfl hB9 (by decide) rfl ?_
  have loop15 : ∀ (d9 : Nat) (i : Nat), (rN S 44 0 - i) < d9 → (i ≤ rN S 44 0) → V l D M 0 0 (wC ad cy (sN (sC (sB (sB (sN (sN S 46 (fun _ => rN S 44 0)) 45 (fun _ => 0)) 23 (low9 (offF S) (rB S 23) i)) 24 (low9 (fun _ => false) (rB S 24) i)) 22 (low9 (rst22 S) (rC S 22) i)) 25 (low9 (fun _ => 0) (rN S 25) i)) ++ F) [(2, .int (nI i)), (0, .ref (ad 3)), (1, .ref (ad 2))] 15 [] := by
    intro d9
    induction d9 with
    | zero => intro i h9; exact absurd h9 (Nat.not_lt_zero _)
    | succ d9 ih15 =>
      intro i hd9 hi
      refine V.iload_n X dX4_reset_15 rfl ?_
      refine V.aload_n X dX4_reset_16 rfl ?_
      refine wC_gX4_35 X dX4_reset_17 ?_
      refine V.icmp_ge (tgt := 85) X dX4_reset_20 (by decide) (cN_le (show rN S 44 0 < 2147483648 by omega) (by omega)) (cN_nle (show rN S 44 0 < 2147483648 by omega) (by omega)) (fun (hz20 : rN S 44 0 ≤ i) => ?_) (fun (hz20 : i < rN S 44 0) => ?_)
      · exact V.vret X hE rfl (Nat.le_of_ble_eq_true rfl) (Nat.le_of_ble_eq_true rfl) (pU9 (by rw [show i = rN S 44 0 from Nat.le_antisymm hi hz20]; rfl)) dX4_reset_85
      · refine V.aload_n X dX4_reset_23 rfl ?_
        refine wC_gX4_15 X dX4_reset_24 ?_
        refine V.iload_n X dX4_reset_27 rfl ?_
        refine V.aload_n X dX4_reset_28 rfl ?_
        refine V.iload_n X dX4_reset_29 rfl ?_
        refine V.callV1 [.int (nI i)] X (c_X3_ownerOfFallback l D cy ad (sN (sC (sB (sB (sN (sN S 46 (fun _ => rN S 44 0)) 45 (fun _ => 0)) 23 (low9 (offF S) (rB S 23) i)) 24 (low9 (fun _ => false) (rB S 24) i)) 22 (low9 (rst22 S) (rC S 22) i)) 25 (low9 (fun _ => 0) (rN S 25) i)) F i (prS_bnd hB hn i) (show i < 16 by omega) (show (rN S 44 0) ≤ 16 by omega)) mv_X3_ownerOfFallback gw_3_67 ⟨⟨(Nat.le_of_ble_eq_true rfl), (Nat.le_of_ble_eq_true rfl)⟩, (Nat.le_of_ble_eq_true rfl), (Nat.le_of_ble_eq_true rfl)⟩ (q0 := 2) (ci := 5) rfl rfl rfl (Nat.le_of_ble_eq_true rfl) dX4_reset_30 ?_
        refine V.iconst (v := o2i none) X dX4_reset_33 rfl ?_
        refine V.icmp_eq (tgt := 41) X dX4_reset_34 (by decide) (cO_eq (a := fst9 (fun s => decide (rO S 16 s = some i)) (rN S 44 0)) (b := none) (fun k e => Nat.lt_of_lt_of_le (Nat.lt_of_lt_of_le (fst9_some e).1 (by assumption)) (by decide)) lt_none) (cO_ne (a := fst9 (fun s => decide (rO S 16 s = some i)) (rN S 44 0)) (b := none)) (fun (hz34 : fst9 (fun s => decide (rO S 16 s = some i)) (rN S 44 0) = none) => ?_) (fun (hz34 : ¬ fst9 (fun s => decide (rO S 16 s = some i)) (rN S 44 0) = none) => ?_)
        · refine V.iconst (v := nI 0) X dX4_reset_41 rfl ?_
          refine wC_st23 (i := i) (v := false) (g := (low9 (offF S) (rB S 23) i)) X (by omega) rfl dX4_reset_42 ?_
          refine V.aload_n X dX4_reset_43 rfl ?_
          refine wC_gX4_19 X dX4_reset_44 ?_
          refine V.iload_n X dX4_reset_47 rfl ?_
          refine V.iconst (v := nI 0) X dX4_reset_48 rfl ?_
          refine wC_st24 (i := i) (v := false) (g := (low9 (fun _ => false) (rB S 24) i)) X (by omega) rfl dX4_reset_49 ?_
          refine V.aload_n X dX4_reset_50 rfl ?_
          refine wC_gX4_9 X dX4_reset_51 ?_
          refine V.iload_n X dX4_reset_54 rfl ?_
          refine V.aload_n X dX4_reset_55 rfl ?_
          refine wC_gX4_15 X dX4_reset_56 ?_
          refine V.iload_n X dX4_reset_59 rfl ?_
          refine wC_ld23 (i := i) X (by omega) dX4_reset_60 ?_
          refine V.top (congrArg b2i up1_same) ?_
          refine V.if_eq (tgt := 69) X dX4_reset_61 (by decide) b2i_0 b2i_n0 (fun (hz61 : false = false) => ?_) (fun (hz61 : false = true) => ?_)
          · refine V.bipush (v := nI 119) X dX4_reset_69 (by decide) ?_
            refine wC_st22 (i := i) (v := 119) (g := (low9 (rst22 S) (rC S 22) i)) X (by omega) rfl dX4_reset_71 ?_
            refine V.aload_n X dX4_reset_72 rfl ?_
            refine wC_gX4_22 X dX4_reset_73 ?_
            refine V.iload_n X dX4_reset_76 rfl ?_
            refine V.iconst (v := nI 0) X dX4_reset_77 rfl ?_
            refine wC_st25 (i := i) (v := 0) (g := (low9 (fun _ => 0) (rN S 25) i)) X (by omega) rfl dX4_reset_78 ?_
            refine V.iinc (v := nI (i + 1)) (L' := [(2, .int (nI (i + 1))), (0, .ref (ad 3)), (1, .ref (ad 2))]) X dX4_reset_79 rfl (nI_inc _) hB9 (by decide) rfl ?_
            refine V.goto (tgt := 15) X dX4_reset_82 (by decide) ?_
            have ho : offF S i = false := by simp [offF, hz34]
            exact V.eqs (by rw [← low9_s (g := offF S) (f := rB S 23) (i := i) (v := false) ho.symm, ← low9_s (g := fun _ => false) (f := rB S 24) (i := i) (v := false) rfl, ← low9_s (g := rst22 S) (f := rC S 22) (i := i) (v := 119) (by simp [rst22, ho]), ← low9_s (g := fun _ => 0) (f := rN S 25) (i := i) (v := 0) rfl]; rfl) rfl (ih15 (i + 1) (by omega) (by omega))
          · exact absurd hz61 (by decide)
        · refine V.iconst (v := nI 1) X dX4_reset_37 rfl ?_
          refine V.goto (tgt := 42) X dX4_reset_38 (by decide) ?_
          refine wC_st23 (i := i) (v := true) (g := (low9 (offF S) (rB S 23) i)) X (by omega) rfl dX4_reset_42 ?_
          refine V.aload_n X dX4_reset_43 rfl ?_
          refine wC_gX4_19 X dX4_reset_44 ?_
          refine V.iload_n X dX4_reset_47 rfl ?_
          refine V.iconst (v := nI 0) X dX4_reset_48 rfl ?_
          refine wC_st24 (i := i) (v := false) (g := (low9 (fun _ => false) (rB S 24) i)) X (by omega) rfl dX4_reset_49 ?_
          refine V.aload_n X dX4_reset_50 rfl ?_
          refine wC_gX4_9 X dX4_reset_51 ?_
          refine V.iload_n X dX4_reset_54 rfl ?_
          refine V.aload_n X dX4_reset_55 rfl ?_
          refine wC_gX4_15 X dX4_reset_56 ?_
          refine V.iload_n X dX4_reset_59 rfl ?_
          refine wC_ld23 (i := i) X (by omega) dX4_reset_60 ?_
          refine V.top (congrArg b2i up1_same) ?_
          refine V.if_eq (tgt := 69) X dX4_reset_61 (by decide) b2i_0 b2i_n0 (fun (hz61 : true = false) => ?_) (fun (hz61 : true = true) => ?_)
          · exact absurd hz61 (by decide)
          · refine V.bipush (v := nI 111) X dX4_reset_64 (by decide) ?_
            refine V.goto (tgt := 71) X dX4_reset_66 (by decide) ?_
            refine wC_st22 (i := i) (v := 111) (g := (low9 (rst22 S) (rC S 22) i)) X (by omega) rfl dX4_reset_71 ?_
            refine V.aload_n X dX4_reset_72 rfl ?_
            refine wC_gX4_22 X dX4_reset_73 ?_
            refine V.iload_n X dX4_reset_76 rfl ?_
            refine V.iconst (v := nI 0) X dX4_reset_77 rfl ?_
            refine wC_st25 (i := i) (v := 0) (g := (low9 (fun _ => 0) (rN S 25) i)) X (by omega) rfl dX4_reset_78 ?_
            refine V.iinc (v := nI (i + 1)) (L' := [(2, .int (nI (i + 1))), (0, .ref (ad 3)), (1, .ref (ad 2))]) X dX4_reset_79 rfl (nI_inc _) hB9 (by decide) rfl ?_
            refine V.goto (tgt := 15) X dX4_reset_82 (by decide) ?_
            have ho : offF S i = true := by simp [offF, Option.isSome_iff_ne_none, hz34]
            exact V.eqs (by rw [← low9_s (g := offF S) (f := rB S 23) (i := i) (v := true) ho.symm, ← low9_s (g := fun _ => false) (f := rB S 24) (i := i) (v := false) rfl, ← low9_s (g := rst22 S) (f := rC S 22) (i := i) (v := 111) (by simp [rst22, ho]), ← low9_s (g := fun _ => 0) (f := rN S 25) (i := i) (v := 0) rfl]; rfl) rfl (ih15 (i + 1) (by omega) (by omega))
  exact V.eqs (by rw [low9_0, low9_0, low9_0, low9_0]; rfl) rfl (loop15 _ 0 (Nat.lt_succ_self _) (Nat.zero_le _))
set_option maxRecDepth 20000 in
set_option maxHeartbeats 4000000 in
theorem c_X4_activate (l : Launch) (D : va_G) (cy : Nat → ClassId) (ad : Nat → Nat) (S : St) (F : va_W) (s : Nat) (hs : s < 16) : Ctr l D cy yX4_activate (.code yX4_activate cX4_activate 4 none) ({ frames := 0, cells := 0, slots := 0, locals := 0 } : Room) [.ref (ad 3), .int (nI s), .ref (ad 6)] (wC ad cy S ++ F) (pU (wC ad cy (sI (sB (sN (sC S 22 (up1 (rC S 22) s 97)) 26 (up1 (rN S 26) s 0)) 24 (up1 (rB S 24) s true)) 27 (see9 S s 6)) ++ F)) pNo := by
  refine Ctr.of (by decide) (Nat.le_of_ble_eq_true rfl) ?_
  intro M X hE hN hB9 hI9
  replace X : VX l D M cy cX4_activate "Runbooker$Progress" none ({ frames := 0, cells := 0, slots := 0, locals := 0 } : Room) := X
  show V l D M 0 0 (wC ad cy S ++ F) [(0, .ref (ad 3)), (1, .int (nI s)), (2, .ref (ad 6))] 0 []
  refine V.aload_n X dX4_activate_0 rfl ?_
  refine wC_gX4_9 X dX4_activate_1 ?_
  refine V.iload_n X dX4_activate_4 rfl ?_
  refine V.bipush (v := nI 97) X dX4_activate_5 (by decide) ?_
  refine wC_st22 (i := s) (v := 97) (g := (rC S 22)) X (by omega) rfl dX4_activate_7 ?_
  refine V.aload_n X dX4_activate_8 rfl ?_
  refine wC_gX4_26 X dX4_activate_9 ?_
  refine V.iload_n X dX4_activate_12 rfl ?_
  refine V.iconst (v := nI 0) X dX4_activate_13 rfl ?_
  refine wC_st26 (i := s) (v := 0) (g := (rN S 26)) X (by omega) rfl dX4_activate_14 ?_
  refine V.aload_n X dX4_activate_15 rfl ?_
  refine wC_gX4_19 X dX4_activate_16 ?_
  refine V.iload_n X dX4_activate_19 rfl ?_
  refine V.iconst (v := nI 1) X dX4_activate_20 rfl ?_
  refine wC_st24 (i := s) (v := true) (g := (rB S 24)) X (by omega) rfl dX4_activate_21 ?_
  refine V.iconst (v := nI 0) X dX4_activate_22 rfl ?_
  refine V.istore_n (L' := [(3, .int (nI 0)), (0, .ref (ad 3)), (1, .int (nI s)), (2, .ref (ad 6))]) X dX4_activate_23 rfl hB9 (by decide) rfl ?_
  have loop24 : ∀ (d9 : Nat) (i : Nat), (6 - i) < d9 → (i ≤ 6) → V l D M 0 0 (wC ad cy (sI (sB (sN (sC S 22 (up1 (rC S 22) s 97)) 26 (up1 (rN S 26) s 0)) 24 (up1 (rB S 24) s true)) 27 (see9 S s i)) ++ F) [(3, .int (nI i)), (0, .ref (ad 3)), (1, .int (nI s)), (2, .ref (ad 6))] 24 [] := by
    intro d9
    induction d9 with
    | zero => intro i h9; exact absurd h9 (Nat.not_lt_zero _)
    | succ d9 ih24 =>
      intro i hd9 hi
      refine V.iload_n X dX4_activate_24 rfl ?_
      refine V.bipush (v := nI 6) X dX4_activate_25 (by decide) ?_
      refine V.icmp_ge (tgt := 50) X dX4_activate_27 (by decide) (cN_le (by decide) (by omega)) (cN_nle (by decide) (by omega)) (fun (hz27 : 6 ≤ i) => ?_) (fun (hz27 : i < 6) => ?_)
      · exact V.vret X hE rfl (Nat.le_of_ble_eq_true rfl) (Nat.le_of_ble_eq_true rfl) (pU9 (by rw [show i = 6 from Nat.le_antisymm hi hz27])) dX4_activate_50
      · refine V.aload_n X dX4_activate_30 rfl ?_
        refine wC_gX4_29 X dX4_activate_31 ?_
        refine V.iload_n X dX4_activate_34 rfl ?_
        refine V.bipush (v := nI 6) X dX4_activate_35 (by decide) ?_
        refine V.imul (v := nI (s * 6)) X dX4_activate_37 (pk_mul _ _) ?_
        refine V.iload_n X dX4_activate_38 rfl ?_
        refine V.iadd (v := nI (s * 6 + i)) X dX4_activate_39 (nI_add _ _) ?_
        refine V.aload_n X dX4_activate_40 rfl ?_
        refine V.iload_n X dX4_activate_41 rfl ?_
        refine wC_ld6 (i := i) X (by omega) dX4_activate_42 ?_
        refine wC_st27 (i := s * 6 + i) (v := rI S 6 i) (g := (see9 S s i)) X (by omega) rfl dX4_activate_43 ?_
        refine V.iinc (v := nI (i + 1)) (L' := [(3, .int (nI (i + 1))), (0, .ref (ad 3)), (1, .int (nI s)), (2, .ref (ad 6))]) X dX4_activate_44 rfl (nI_inc _) hB9 (by decide) rfl ?_
        refine V.goto (tgt := 24) X dX4_activate_47 (by decide) ?_
        exact V.eqs (by rw [← see9_s]; rfl) rfl (ih24 (i + 1) (by omega) (by omega))
  exact V.eqs (by rw [see9_0]; rfl) rfl (loop24 _ 0 (Nat.lt_succ_self _) (Nat.zero_le _))
set_option maxRecDepth 20000 in
set_option maxHeartbeats 4000000 in
theorem c_X4_seenReading (l : Launch) (D : va_G) (cy : Nat → ClassId) (ad : Nat → Nat) (S : St) (F : va_W) (s : Nat) (k : Nat) (hs : s < 16) (hk : k < 6) : Ctr l D cy yX4_seenReading (.code yX4_seenReading cX4_seenReading 3 (some FieldType.int)) ({ frames := 0, cells := 0, slots := 0, locals := 0 } : Room) [.ref (ad 3), .int (nI s), .int (nI k)] (wC ad cy S ++ F) (pI (rI S 27 (s * 6 + k)) (wC ad cy S ++ F)) pNo := by
  refine Ctr.of (by decide) (Nat.le_of_ble_eq_true rfl) ?_
  intro M X hE hN hB9 hI9
  replace X : VX l D M cy cX4_seenReading "Runbooker$Progress" (some FieldType.int) ({ frames := 0, cells := 0, slots := 0, locals := 0 } : Room) := X
  show V l D M 0 0 (wC ad cy S ++ F) [(0, .ref (ad 3)), (1, .int (nI s)), (2, .int (nI k))] 0 []
  refine V.aload_n X dX4_seenReading_0 rfl ?_
  refine wC_gX4_29 X dX4_seenReading_1 ?_
  refine V.iload_n X dX4_seenReading_4 rfl ?_
  refine V.bipush (v := nI 6) X dX4_seenReading_5 (by decide) ?_
  refine V.imul (v := nI (s * 6)) X dX4_seenReading_7 (pk_mul _ _) ?_
  refine V.iload_n X dX4_seenReading_8 rfl ?_
  refine V.iadd (v := nI (s * 6 + k)) X dX4_seenReading_9 (nI_add _ _) ?_
  refine wC_ld27 (i := s * 6 + k) X (by omega) dX4_seenReading_10 ?_
  exact V.iret (v := rI S 27 (s * 6 + k)) X hE rfl rfl (Nat.le_of_ble_eq_true rfl) (Nat.le_of_ble_eq_true rfl) (pI9 rfl rfl) dX4_seenReading_11
set_option maxRecDepth 20000 in
set_option maxHeartbeats 4000000 in
theorem c_X4_workMinute (l : Launch) (D : va_G) (cy : Nat → ClassId) (ad : Nat → Nat) (S : St) (F : va_W) (h : Option Nat) (hB : Bnd S) (hn : rN S 46 0 ≤ 16) (hh : ∀ k, h = some k → k < 2147483648) : Ctr l D cy yX4_workMinute (.code yX4_workMinute cX4_workMinute 4 (some FieldType.int)) ({ frames := 0, cells := 0, slots := 0, locals := 0 } : Room) [.ref (ad 3), .int (o2i h)] (wC ad cy S ++ F) (pI (nI (cnt9 (actW S h) (rN S 46 0))) (wC ad cy (sN S 26 (low9 (wrkF S h) (rN S 26) (rN S 46 0))) ++ F)) pNo := by
  refine Ctr.of (by decide) (Nat.le_of_ble_eq_true rfl) ?_
  intro M X hE hN hB9 hI9
  replace X : VX l D M cy cX4_workMinute "Runbooker$Progress" (some FieldType.int) ({ frames := 0, cells := 0, slots := 0, locals := 0 } : Room) := X
  show V l D M 0 0 (wC ad cy S ++ F) [(0, .ref (ad 3)), (1, .int (o2i h))] 0 []
  refine V.iconst (v := nI 0) X dX4_workMinute_0 rfl ?_
  refine V.istore_n (L' := [(2, .int (nI 0)), (0, .ref (ad 3)), (1, .int (o2i h))]) X dX4_workMinute_1 rfl hB9 (by decide) rfl ?_
  refine V.iconst (v := nI 0) X dX4_workMinute_2 rfl ?_
  refine V.istore_n (L' := [(3, .int (nI 0)), (2, .int (nI 0)), (0, .ref (ad 3)), (1, .int (o2i h))]) X dX4_workMinute_3 rfl hB9 (by decide) rfl ?_
  have loop4 : ∀ (d9 : Nat) (i : Nat), (rN S 46 0 - i) < d9 → (i ≤ rN S 46 0) → V l D M 0 0 (wC ad cy (sN S 26 (low9 (wrkF S h) (rN S 26) i)) ++ F) [(3, .int (nI i)), (2, .int (nI (cnt9 (actW S h) i))), (0, .ref (ad 3)), (1, .int (o2i h))] 4 [] := by
    intro d9
    induction d9 with
    | zero => intro i h9; exact absurd h9 (Nat.not_lt_zero _)
    | succ d9 ih4 =>
      intro i hd9 hi
      refine V.iload_n X dX4_workMinute_4 rfl ?_
      refine V.aload_n X dX4_workMinute_5 rfl ?_
      refine wC_gX4_35 X dX4_workMinute_6 ?_
      refine V.icmp_ge (tgt := 47) X dX4_workMinute_9 (by decide) (cN_le (hB.n 46 _) (by omega)) (cN_nle (hB.n 46 _) (by omega)) (fun (hz9 : rN S 46 0 ≤ i) => ?_) (fun (hz9 : i < rN S 46 0) => ?_)
      · refine V.iload_n X dX4_workMinute_47 rfl ?_
        exact V.iret (v := nI (cnt9 (actW S h) i)) X hE rfl rfl (Nat.le_of_ble_eq_true rfl) (Nat.le_of_ble_eq_true rfl) (pN9 (by rw [show i = rN S 46 0 from Nat.le_antisymm hi hz9]) (by rw [show i = rN S 46 0 from Nat.le_antisymm hi hz9])) dX4_workMinute_48
      · refine V.aload_n X dX4_workMinute_12 rfl ?_
        refine wC_gX4_9 X dX4_workMinute_13 ?_
        refine V.iload_n X dX4_workMinute_16 rfl ?_
        refine wC_ld22 (i := i) X (by omega) dX4_workMinute_17 ?_
        refine V.bipush (v := nI 97) X dX4_workMinute_18 (by decide) ?_
        refine V.icmp_ne (tgt := 41) X dX4_workMinute_20 (by decide) (cC_ne (a := rC S 22 i) (b := 97)) (cC_eq (a := rC S 22 i) (b := 97)) (fun (hz20 : ¬ rC S 22 i = 97) => ?_) (fun (hz20 : rC S 22 i = 97) => ?_)
        · refine V.iinc (v := nI (i + 1)) (L' := [(3, .int (nI (i + 1))), (2, .int (nI (cnt9 (actW S h) i))), (0, .ref (ad 3)), (1, .int (o2i h))]) X dX4_workMinute_41 rfl (nI_inc _) hB9 (by decide) rfl ?_
          refine V.goto (tgt := 4) X dX4_workMinute_44 (by decide) ?_
          have ha : actW S h i = false := by simp [actW, hz20]
          exact V.eqs (by rw [← low9_k (g := wrkF S h) (f := rN S 26) (i := i) (by simp [wrkF, ha])]) (by rw [cnt9_f ha]) (ih4 (i + 1) (by omega) (by omega))
        · refine V.iload_n X dX4_workMinute_23 rfl ?_
          refine V.iload_n X dX4_workMinute_24 rfl ?_
          refine V.icmp_eq (tgt := 41) X dX4_workMinute_25 (by decide) (cO_eq (a := some i) (b := h) (lt_some9 (by omega)) hh) (cO_ne (a := some i) (b := h)) (fun (hz25 : some i = h) => ?_) (fun (hz25 : ¬ some i = h) => ?_)
          · refine V.iinc (v := nI (i + 1)) (L' := [(3, .int (nI (i + 1))), (2, .int (nI (cnt9 (actW S h) i))), (0, .ref (ad 3)), (1, .int (o2i h))]) X dX4_workMinute_41 rfl (nI_inc _) hB9 (by decide) rfl ?_
            refine V.goto (tgt := 4) X dX4_workMinute_44 (by decide) ?_
            have ha : actW S h i = false := by simp [actW, hz20, hz25]
            exact V.eqs (by rw [← low9_k (g := wrkF S h) (f := rN S 26) (i := i) (by simp [wrkF, ha])]) (by rw [cnt9_f ha]) (ih4 (i + 1) (by omega) (by omega))
          · refine V.aload_n X dX4_workMinute_28 rfl ?_
            refine wC_gX4_26 X dX4_workMinute_29 ?_
            refine V.iload_n X dX4_workMinute_32 rfl ?_
            refine V.dup2 X dX4_workMinute_33 rfl rfl ?_
            refine wC_ld26 (i := i) X (by omega) dX4_workMinute_34 ?_
            refine V.iconst (v := nI 1) X dX4_workMinute_35 rfl ?_
            refine V.iadd (v := nI ((low9 (wrkF S h) (rN S 26) i) i + 1)) X dX4_workMinute_36 (nI_add _ _) ?_
            refine wC_st26 (i := i) (v := (low9 (wrkF S h) (rN S 26) i) i + 1) (g := (low9 (wrkF S h) (rN S 26) i)) X (by omega) rfl dX4_workMinute_37 ?_
            refine V.iinc (v := nI (cnt9 (actW S h) i + 1)) (L' := [(2, .int (nI (cnt9 (actW S h) i + 1))), (3, .int (nI i)), (0, .ref (ad 3)), (1, .int (o2i h))]) X dX4_workMinute_38 rfl (nI_inc _) hB9 (by decide) rfl ?_
            refine V.iinc (v := nI (i + 1)) (L' := [(3, .int (nI (i + 1))), (2, .int (nI (cnt9 (actW S h) i + 1))), (0, .ref (ad 3)), (1, .int (o2i h))]) X dX4_workMinute_41 rfl (nI_inc _) hB9 (by decide) rfl ?_
            refine V.goto (tgt := 4) X dX4_workMinute_44 (by decide) ?_
            have ha : actW S h i = true := by simp [actW, hz20, hz25]
            exact V.eqs (by rw [← low9_s (g := wrkF S h) (f := rN S 26) (i := i) (v := low9 (wrkF S h) (rN S 26) i i + 1) (by rw [low9_at (Nat.le_refl _)]; simp [wrkF, ha])]; rfl) (by rw [cnt9_t ha]) (ih4 (i + 1) (by omega) (by omega))
  exact V.eqs (by rw [low9_0]; rfl) rfl (loop4 _ 0 (Nat.lt_succ_self _) (Nat.zero_le _))
set_option maxRecDepth 20000 in
set_option maxHeartbeats 4000000 in
theorem c_X4_complete (l : Launch) (D : va_G) (cy : Nat → ClassId) (ad : Nat → Nat) (S : St) (F : va_W) (s : Nat) (hB : Bnd S) (hs : s < 16) (hd : rN S 45 0 < 16) : Ctr l D cy yX4_complete (.code yX4_complete cX4_complete 2 none) ({ frames := 0, cells := 0, slots := 0, locals := 0 } : Room) [.ref (ad 3), .int (nI s)] (wC ad cy S ++ F) (pU (wC ad cy (sN (sN (sC S 22 (up1 (rC S 22) s 100)) 28 (up1 (rN S 28) (rN S 45 0) s)) 45 (fun _ => rN S 45 0 + 1)) ++ F)) pNo := by
  refine Ctr.of (by decide) (Nat.le_of_ble_eq_true rfl) ?_
  intro M X hE hN hB9 hI9
  replace X : VX l D M cy cX4_complete "Runbooker$Progress" none ({ frames := 0, cells := 0, slots := 0, locals := 0 } : Room) := X
  show V l D M 0 0 (wC ad cy S ++ F) [(0, .ref (ad 3)), (1, .int (nI s))] 0 []
  refine V.aload_n X dX4_complete_0 rfl ?_
  refine wC_gX4_9 X dX4_complete_1 ?_
  refine V.iload_n X dX4_complete_4 rfl ?_
  refine V.bipush (v := nI 100) X dX4_complete_5 (by decide) ?_
  refine wC_st22 (i := s) (v := 100) (g := (rC S 22)) X (by omega) rfl dX4_complete_7 ?_
  refine V.aload_n X dX4_complete_8 rfl ?_
  refine wC_gX4_42 X dX4_complete_9 ?_
  refine V.bipush (v := nI 16) X dX4_complete_12 (by decide) ?_
  refine V.icmp_ge (tgt := 37) X dX4_complete_14 (by decide) (cN_le (by decide) (hB.n 45 _)) (cN_nle (by decide) (hB.n 45 _)) (fun (hz14 : 16 ≤ rN S 45 0) => ?_) (fun (hz14 : rN S 45 0 < 16) => ?_)
  · exact absurd hz14 (by omega)
  · refine V.aload_n X dX4_complete_17 rfl ?_
    refine wC_gX4_32 X dX4_complete_18 ?_
    refine V.aload_n X dX4_complete_21 rfl ?_
    refine wC_gX4_42 X dX4_complete_22 ?_
    refine V.iload_n X dX4_complete_25 rfl ?_
    refine wC_st28 (i := rN S 45 0) (v := s) (g := (rN S 28)) X (by omega) rfl dX4_complete_26 ?_
    refine V.aload_n X dX4_complete_27 rfl ?_
    refine V.dup X dX4_complete_28 rfl ?_
    refine wC_gX4_42 X dX4_complete_29 ?_
    refine V.iconst (v := nI 1) X dX4_complete_32 rfl ?_
    refine V.iadd (v := nI (rN S 45 0 + 1)) X dX4_complete_33 (nI_add _ _) ?_
    refine wC_pX4_42 (v := rN S 45 0 + 1) X dX4_complete_34 ?_
    exact V.vret X hE rfl (Nat.le_of_ble_eq_true rfl) (Nat.le_of_ble_eq_true rfl) (pU9 rfl) dX4_complete_37
set_option maxRecDepth 20000 in
set_option maxHeartbeats 4000000 in
theorem c_X4_placeInDone (l : Launch) (D : va_G) (cy : Nat → ClassId) (ad : Nat → Nat) (S : St) (F : va_W) (s : Nat) (hB : Bnd S) (hs : s < 16) (hd : rN S 45 0 ≤ 16) : Ctr l D cy yX4_placeInDone (.code yX4_placeInDone cX4_placeInDone 3 (some FieldType.int)) ({ frames := 0, cells := 0, slots := 0, locals := 0 } : Room) [.ref (ad 3), .int (nI s)] (wC ad cy S ++ F) (pI (nI (plc9 S s)) (wC ad cy S ++ F)) pNo := by
  refine Ctr.of (by decide) (Nat.le_of_ble_eq_true rfl) ?_
  intro M X hE hN hB9 hI9
  replace X : VX l D M cy cX4_placeInDone "Runbooker$Progress" (some FieldType.int) ({ frames := 0, cells := 0, slots := 0, locals := 0 } : Room) := X
  show V l D M 0 0 (wC ad cy S ++ F) [(0, .ref (ad 3)), (1, .int (nI s))] 0 []
  refine V.iconst (v := nI 0) X dX4_placeInDone_0 rfl ?_
  refine V.istore_n (L' := [(2, .int (nI 0)), (0, .ref (ad 3)), (1, .int (nI s))]) X dX4_placeInDone_1 rfl hB9 (by decide) rfl ?_
  have loop2 : ∀ (d9 : Nat) (i : Nat), (rN S 45 0 - i) < d9 → (i ≤ rN S 45 0) → (∀ j, j < i → decide (rN S 28 j = s) = false) → V l D M 0 0 (wC ad cy S ++ F) [(2, .int (nI i)), (0, .ref (ad 3)), (1, .int (nI s))] 2 [] := by
    intro d9
    induction d9 with
    | zero => intro i h9; exact absurd h9 (Nat.not_lt_zero _)
    | succ d9 ih2 =>
      intro i hd9 hi hq
      refine V.iload_n X dX4_placeInDone_2 rfl ?_
      refine V.aload_n X dX4_placeInDone_3 rfl ?_
      refine wC_gX4_42 X dX4_placeInDone_4 ?_
      refine V.icmp_ge (tgt := 28) X dX4_placeInDone_7 (by decide) (cN_le (hB.n 45 _) (by omega)) (cN_nle (hB.n 45 _) (by omega)) (fun (hz7 : rN S 45 0 ≤ i) => ?_) (fun (hz7 : i < rN S 45 0) => ?_)
      · refine V.aload_n X dX4_placeInDone_28 rfl ?_
        refine wC_gX4_42 X dX4_placeInDone_29 ?_
        exact V.iret (v := nI (rN S 45 0)) X hE rfl rfl (Nat.le_of_ble_eq_true rfl) (Nat.le_of_ble_eq_true rfl) (pN9 (by unfold plc9; rw [fst9_miss (fun j hj => hq j (by omega))]; rfl) rfl) dX4_placeInDone_32
      · refine V.aload_n X dX4_placeInDone_10 rfl ?_
        refine wC_gX4_32 X dX4_placeInDone_11 ?_
        refine V.iload_n X dX4_placeInDone_14 rfl ?_
        refine wC_ld28 (i := i) X (by omega) dX4_placeInDone_15 ?_
        refine V.iload_n X dX4_placeInDone_16 rfl ?_
        refine V.icmp_ne (tgt := 22) X dX4_placeInDone_17 (by decide) cN_ne (cN_eq (hB.n 28 _) (by omega)) (fun (hz17 : ¬ rN S 28 i = s) => ?_) (fun (hz17 : rN S 28 i = s) => ?_)
        · refine V.iinc (v := nI (i + 1)) (L' := [(2, .int (nI (i + 1))), (0, .ref (ad 3)), (1, .int (nI s))]) X dX4_placeInDone_22 rfl (nI_inc _) hB9 (by decide) rfl ?_
          refine V.goto (tgt := 2) X dX4_placeInDone_25 (by decide) ?_
          exact V.eqs rfl rfl (ih2 (i + 1) (by omega) (by omega) (lt_s hq (by simp [hz17])))
        · refine V.iload_n X dX4_placeInDone_20 rfl ?_
          exact V.iret (v := nI i) X hE rfl rfl (Nat.le_of_ble_eq_true rfl) (Nat.le_of_ble_eq_true rfl) (pN9 (by unfold plc9; rw [fst9_hit hq (by simp [hz17]) (show i < rN S 45 0 by omega)]; rfl) rfl) dX4_placeInDone_21
  exact V.eqs rfl rfl (loop2 _ 0 (Nat.lt_succ_self _) (Nat.zero_le _) (fun j hj => absurd hj (Nat.not_lt_zero _)))
set_option maxRecDepth 20000 in
set_option maxHeartbeats 4000000 in
theorem c_X4_latestDone (l : Launch) (D : va_G) (cy : Nat → ClassId) (ad : Nat → Nat) (S : St) (F : va_W) (hB : Bnd S) (hd : rN S 45 0 ≤ 16) : Ctr l D cy yX4_latestDone (.code yX4_latestDone cX4_latestDone 1 (some FieldType.int)) ({ frames := 0, cells := 0, slots := 0, locals := 0 } : Room) [.ref (ad 3)] (wC ad cy S ++ F) (pI (o2i (ltd9 S)) (wC ad cy S ++ F)) pNo := by
  refine Ctr.of (by decide) (Nat.le_of_ble_eq_true rfl) ?_
  intro M X hE hN hB9 hI9
  replace X : VX l D M cy cX4_latestDone "Runbooker$Progress" (some FieldType.int) ({ frames := 0, cells := 0, slots := 0, locals := 0 } : Room) := X
  show V l D M 0 0 (wC ad cy S ++ F) [(0, .ref (ad 3))] 0 []
  refine V.aload_n X dX4_latestDone_0 rfl ?_
  refine wC_gX4_42 X dX4_latestDone_1 ?_
  refine V.if_le (tgt := 21) X dX4_latestDone_4 (by decide) (cN_le (hB.n 45 _) (by decide)) (cN_nle (hB.n 45 _) (by decide)) (fun (hz4 : rN S 45 0 ≤ 0) => ?_) (fun (hz4 : 0 < rN S 45 0) => ?_)
  · refine V.iconst (v := o2i none) X dX4_latestDone_21 rfl ?_
    exact V.iret (v := o2i none) X hE rfl rfl (Nat.le_of_ble_eq_true rfl) (Nat.le_of_ble_eq_true rfl) (pO9 (by unfold ltd9; rw [if_pos (show rN S 45 0 = 0 by omega)]) rfl) dX4_latestDone_22
  · refine V.aload_n X dX4_latestDone_7 rfl ?_
    refine wC_gX4_32 X dX4_latestDone_8 ?_
    refine V.aload_n X dX4_latestDone_11 rfl ?_
    refine wC_gX4_42 X dX4_latestDone_12 ?_
    refine V.iconst (v := nI 1) X dX4_latestDone_15 rfl ?_
    refine V.isub (v := nI ((rN S 45 0) - 1)) X dX4_latestDone_16 (pk_sub (by omega)) ?_
    refine wC_ld28 (i := (rN S 45 0) - 1) X (by omega) dX4_latestDone_17 ?_
    refine V.goto (tgt := 22) X dX4_latestDone_18 (by decide) ?_
    exact V.iret (v := o2i (some (rN S 28 ((rN S 45 0) - 1)))) X hE rfl rfl (Nat.le_of_ble_eq_true rfl) (Nat.le_of_ble_eq_true rfl) (pO9 (by unfold ltd9; rw [if_neg (show ¬ rN S 45 0 = 0 by omega)]) rfl) dX4_latestDone_22
set_option maxRecDepth 20000 in
set_option maxHeartbeats 4000000 in
theorem c_X4_undoLatest (l : Launch) (D : va_G) (cy : Nat → ClassId) (ad : Nat → Nat) (S : St) (F : va_W) (hB : Bnd S) (h0 : 0 < rN S 45 0) (hd : rN S 45 0 ≤ 16) (hn : rN S 46 0 ≤ 16) (h9 : rN S 28 (rN S 45 0 - 1) < rN S 46 0) : Ctr l D cy yX4_undoLatest (.code yX4_undoLatest cX4_undoLatest 2 (some FieldType.int)) ({ frames := 1, cells := 0, slots := 0, locals := 40 } : Room) [.ref (ad 3)] (wC ad cy S ++ F) (pI (nI (rN S 28 (rN S 45 0 - 1))) (wC ad cy (sN (sC (sN S 45 (fun _ => rN S 45 0 - 1)) 22 (up1 (rC S 22) (rN S 28 (rN S 45 0 - 1)) 119)) 25 (up1 (rN S 25) (rN S 28 (rN S 45 0 - 1)) 0)) ++ F)) pNo := by
  refine Ctr.of (by decide) (Nat.le_of_ble_eq_true rfl) ?_
  intro M X hE hN hB9 hI9
  replace X : VX l D M cy cX4_undoLatest "Runbooker$Progress" (some FieldType.int) ({ frames := 1, cells := 0, slots := 0, locals := 40 } : Room) := X
  show V l D M 0 0 (wC ad cy S ++ F) [(0, .ref (ad 3))] 0 []
  refine V.aload_n X dX4_undoLatest_0 rfl ?_
  refine V.callV1 [] X (c_X4_latestDone l D cy ad S F hB (show (rN S 45 0) ≤ 16 by omega)) mv_X4_latestDone gw_3_202 ⟨⟨(Nat.le_of_ble_eq_true rfl), (Nat.le_of_ble_eq_true rfl)⟩, (Nat.le_of_ble_eq_true rfl), (Nat.le_of_ble_eq_true rfl)⟩ (q0 := 3) (ci := 6) rfl rfl rfl (Nat.le_of_ble_eq_true rfl) dX4_undoLatest_1 ?_
  refine V.top (congrArg o2i (ltd9_eq h0)) ?_
  refine V.istore_n (L' := [(1, .int (nI (rN S 28 (rN S 45 0 - 1)))), (0, .ref (ad 3))]) X dX4_undoLatest_4 rfl hB9 (by decide) rfl ?_
  refine V.aload_n X dX4_undoLatest_5 rfl ?_
  refine V.iload_n X dX4_undoLatest_6 rfl ?_
  refine V.callV1 [.int (nI (rN S 28 (rN S 45 0 - 1)))] X (c_X4_has l D cy ad S F (nI (rN S 28 (rN S 45 0 - 1)))) mv_X4_has gw_3_206 ⟨⟨(Nat.le_of_ble_eq_true rfl), (Nat.le_of_ble_eq_true rfl)⟩, (Nat.le_of_ble_eq_true rfl), (Nat.le_of_ble_eq_true rfl)⟩ (q0 := 3) (ci := 6) rfl rfl rfl (Nat.le_of_ble_eq_true rfl) dX4_undoLatest_7 ?_
  refine V.if_eq (tgt := 38) X dX4_undoLatest_10 (by decide) b2i_0 b2i_n0 (fun (hz10 : inR (nI (rN S 28 (rN S 45 0 - 1))) (rN S 46 0) = false) => ?_) (fun (hz10 : inR (nI (rN S 28 (rN S 45 0 - 1))) (rN S 46 0) = true) => ?_)
  · exact absurd hz10 (by rw [show inR (nI (rN S 28 (rN S 45 0 - 1))) (rN S 46 0) = true by rw [inR_nI (by omega) (by omega)]; simp [h9]]; decide)
  · refine V.aload_n X dX4_undoLatest_13 rfl ?_
    refine V.dup X dX4_undoLatest_14 rfl ?_
    refine wC_gX4_42 X dX4_undoLatest_15 ?_
    refine V.iconst (v := nI 1) X dX4_undoLatest_18 rfl ?_
    refine V.isub (v := nI ((rN S 45 0) - 1)) X dX4_undoLatest_19 (pk_sub (by omega)) ?_
    refine wC_pX4_42 (v := (rN S 45 0) - 1) X dX4_undoLatest_20 ?_
    refine V.aload_n X dX4_undoLatest_23 rfl ?_
    refine wC_gX4_9 X dX4_undoLatest_24 ?_
    refine V.iload_n X dX4_undoLatest_27 rfl ?_
    refine V.bipush (v := nI 119) X dX4_undoLatest_28 (by decide) ?_
    refine wC_st22 (i := rN S 28 (rN S 45 0 - 1)) (v := 119) (g := (rC S 22)) X (by omega) rfl dX4_undoLatest_30 ?_
    refine V.aload_n X dX4_undoLatest_31 rfl ?_
    refine wC_gX4_22 X dX4_undoLatest_32 ?_
    refine V.iload_n X dX4_undoLatest_35 rfl ?_
    refine V.iconst (v := nI 0) X dX4_undoLatest_36 rfl ?_
    refine wC_st25 (i := rN S 28 (rN S 45 0 - 1)) (v := 0) (g := (rN S 25)) X (by omega) rfl dX4_undoLatest_37 ?_
    refine V.iload_n X dX4_undoLatest_38 rfl ?_
    exact V.iret (v := nI (rN S 28 (rN S 45 0 - 1))) X hE rfl rfl (Nat.le_of_ble_eq_true rfl) (Nat.le_of_ble_eq_true rfl) (pN9 rfl rfl) dX4_undoLatest_39
set_option maxRecDepth 20000 in
set_option maxHeartbeats 4000000 in
theorem c_X4_isAnyActive (l : Launch) (D : va_G) (cy : Nat → ClassId) (ad : Nat → Nat) (S : St) (F : va_W) (hB : Bnd S) (hn : rN S 46 0 ≤ 16) : Ctr l D cy yX4_isAnyActive (.code yX4_isAnyActive cX4_isAnyActive 2 (some FieldType.boolean)) ({ frames := 0, cells := 0, slots := 0, locals := 0 } : Room) [.ref (ad 3)] (wC ad cy S ++ F) (pI (b2i (any9 (fun s => decide (rC S 22 s = 97)) (rN S 46 0))) (wC ad cy S ++ F)) pNo := by
  refine Ctr.of (by decide) (Nat.le_of_ble_eq_true rfl) ?_
  intro M X hE hN hB9 hI9
  replace X : VX l D M cy cX4_isAnyActive "Runbooker$Progress" (some FieldType.boolean) ({ frames := 0, cells := 0, slots := 0, locals := 0 } : Room) := X
  show V l D M 0 0 (wC ad cy S ++ F) [(0, .ref (ad 3))] 0 []
  refine V.iconst (v := nI 0) X dX4_isAnyActive_0 rfl ?_
  refine V.istore_n (L' := [(1, .int (nI 0)), (0, .ref (ad 3))]) X dX4_isAnyActive_1 rfl hB9 (by decide) rfl ?_
  have loop2 : ∀ (d9 : Nat) (i : Nat), (rN S 46 0 - i) < d9 → (i ≤ rN S 46 0) → (∀ j, j < i → decide (rC S 22 j = 97) = false) → V l D M 0 0 (wC ad cy S ++ F) [(1, .int (nI i)), (0, .ref (ad 3))] 2 [] := by
    intro d9
    induction d9 with
    | zero => intro i h9; exact absurd h9 (Nat.not_lt_zero _)
    | succ d9 ih2 =>
      intro i hd9 hi hq
      refine V.iload_n X dX4_isAnyActive_2 rfl ?_
      refine V.aload_n X dX4_isAnyActive_3 rfl ?_
      refine wC_gX4_35 X dX4_isAnyActive_4 ?_
      refine V.icmp_ge (tgt := 29) X dX4_isAnyActive_7 (by decide) (cN_le (hB.n 46 _) (by omega)) (cN_nle (hB.n 46 _) (by omega)) (fun (hz7 : rN S 46 0 ≤ i) => ?_) (fun (hz7 : i < rN S 46 0) => ?_)
      · refine V.iconst (v := nI 0) X dX4_isAnyActive_29 rfl ?_
        exact V.iret (v := b2i false) X hE rfl (nar_b _) (Nat.le_of_ble_eq_true rfl) (Nat.le_of_ble_eq_true rfl) (pB9 (any9_miss (fun j hj => hq j (by omega))).symm rfl) dX4_isAnyActive_30
      · refine V.aload_n X dX4_isAnyActive_10 rfl ?_
        refine wC_gX4_9 X dX4_isAnyActive_11 ?_
        refine V.iload_n X dX4_isAnyActive_14 rfl ?_
        refine wC_ld22 (i := i) X (by omega) dX4_isAnyActive_15 ?_
        refine V.bipush (v := nI 97) X dX4_isAnyActive_16 (by decide) ?_
        refine V.icmp_ne (tgt := 23) X dX4_isAnyActive_18 (by decide) (cC_ne (a := rC S 22 i) (b := 97)) (cC_eq (a := rC S 22 i) (b := 97)) (fun (hz18 : ¬ rC S 22 i = 97) => ?_) (fun (hz18 : rC S 22 i = 97) => ?_)
        · refine V.iinc (v := nI (i + 1)) (L' := [(1, .int (nI (i + 1))), (0, .ref (ad 3))]) X dX4_isAnyActive_23 rfl (nI_inc _) hB9 (by decide) rfl ?_
          refine V.goto (tgt := 2) X dX4_isAnyActive_26 (by decide) ?_
          exact V.eqs rfl rfl (ih2 (i + 1) (by omega) (by omega) (lt_s hq (by simp [hz18])))
        · refine V.iconst (v := nI 1) X dX4_isAnyActive_21 rfl ?_
          exact V.iret (v := b2i true) X hE rfl (nar_b _) (Nat.le_of_ble_eq_true rfl) (Nat.le_of_ble_eq_true rfl) (pB9 (any9_hit (i := i) (by omega) (by simp [hz18])).symm rfl) dX4_isAnyActive_22
  exact V.eqs rfl rfl (loop2 _ 0 (Nat.lt_succ_self _) (Nat.zero_le _) (fun j hj => absurd hj (Nat.not_lt_zero _)))
set_option maxRecDepth 20000 in
set_option maxHeartbeats 4000000 in
theorem c_X4_sumOfTries (l : Launch) (D : va_G) (cy : Nat → ClassId) (ad : Nat → Nat) (S : St) (F : va_W) (hB : Bnd S) (hn : rN S 46 0 ≤ 16) (ht : ∀ j, rN S 25 j ≤ 3) : Ctr l D cy yX4_sumOfTries (.code yX4_sumOfTries cX4_sumOfTries 3 (some FieldType.int)) ({ frames := 0, cells := 0, slots := 0, locals := 0 } : Room) [.ref (ad 3)] (wC ad cy S ++ F) (pI (nI (sum9 (rN S 25) (rN S 46 0))) (wC ad cy S ++ F)) pNo := by
  refine Ctr.of (by decide) (Nat.le_of_ble_eq_true rfl) ?_
  intro M X hE hN hB9 hI9
  replace X : VX l D M cy cX4_sumOfTries "Runbooker$Progress" (some FieldType.int) ({ frames := 0, cells := 0, slots := 0, locals := 0 } : Room) := X
  show V l D M 0 0 (wC ad cy S ++ F) [(0, .ref (ad 3))] 0 []
  refine V.iconst (v := nI 0) X dX4_sumOfTries_0 rfl ?_
  refine V.istore_n (L' := [(1, .int (nI 0)), (0, .ref (ad 3))]) X dX4_sumOfTries_1 rfl hB9 (by decide) rfl ?_
  refine V.iconst (v := nI 0) X dX4_sumOfTries_2 rfl ?_
  refine V.istore_n (L' := [(2, .int (nI 0)), (1, .int (nI 0)), (0, .ref (ad 3))]) X dX4_sumOfTries_3 rfl hB9 (by decide) rfl ?_
  have loop4 : ∀ (d9 : Nat) (i : Nat), (rN S 46 0 - i) < d9 → (i ≤ rN S 46 0) → V l D M 0 0 (wC ad cy S ++ F) [(2, .int (nI i)), (1, .int (nI (sum9 (rN S 25) i))), (0, .ref (ad 3))] 4 [] := by
    intro d9
    induction d9 with
    | zero => intro i h9; exact absurd h9 (Nat.not_lt_zero _)
    | succ d9 ih4 =>
      intro i hd9 hi
      refine V.iload_n X dX4_sumOfTries_4 rfl ?_
      refine V.aload_n X dX4_sumOfTries_5 rfl ?_
      refine wC_gX4_35 X dX4_sumOfTries_6 ?_
      refine V.icmp_ge (tgt := 27) X dX4_sumOfTries_9 (by decide) (cN_le (hB.n 46 _) (by omega)) (cN_nle (hB.n 46 _) (by omega)) (fun (hz9 : rN S 46 0 ≤ i) => ?_) (fun (hz9 : i < rN S 46 0) => ?_)
      · refine V.iload_n X dX4_sumOfTries_27 rfl ?_
        exact V.iret (v := nI (sum9 (rN S 25) i)) X hE rfl rfl (Nat.le_of_ble_eq_true rfl) (Nat.le_of_ble_eq_true rfl) (pN9 (by rw [show i = rN S 46 0 from Nat.le_antisymm hi hz9]) rfl) dX4_sumOfTries_28
      · refine V.iload_n X dX4_sumOfTries_12 rfl ?_
        refine V.aload_n X dX4_sumOfTries_13 rfl ?_
        refine wC_gX4_22 X dX4_sumOfTries_14 ?_
        refine V.iload_n X dX4_sumOfTries_17 rfl ?_
        refine wC_ld25 (i := i) X (by omega) dX4_sumOfTries_18 ?_
        refine V.iadd (v := nI (sum9 (rN S 25) i + (rN S 25 i))) X dX4_sumOfTries_19 (nI_add _ _) ?_
        refine V.istore_n (L' := [(1, .int (nI (sum9 (rN S 25) i + (rN S 25 i)))), (2, .int (nI i)), (0, .ref (ad 3))]) X dX4_sumOfTries_20 rfl hB9 (by decide) rfl ?_
        refine V.iinc (v := nI (i + 1)) (L' := [(2, .int (nI (i + 1))), (1, .int (nI (sum9 (rN S 25) i + (rN S 25 i)))), (0, .ref (ad 3))]) X dX4_sumOfTries_21 rfl (nI_inc _) hB9 (by decide) rfl ?_
        refine V.goto (tgt := 4) X dX4_sumOfTries_24 (by decide) ?_
        exact V.eqs rfl rfl (ih4 (i + 1) (by omega) (by omega))
  exact V.eqs rfl rfl (loop4 _ 0 (Nat.lt_succ_self _) (Nat.zero_le _))
set_option maxRecDepth 20000 in
set_option maxHeartbeats 4000000 in
theorem c_X4_divisor (l : Launch) (D : va_G) (cy : Nat → ClassId) (ad : Nat → Nat) (S : St) (F : va_W) (hB : Bnd S) : Ctr l D cy yX4_divisor (.code yX4_divisor cX4_divisor 1 (some FieldType.int)) ({ frames := 1, cells := 0, slots := 0, locals := 40 } : Room) [.ref (ad 3)] (wC ad cy S ++ F) (pI (nI (max 1 (rN S 46 0))) (wC ad cy S ++ F)) pNo := by
  refine Ctr.of (by decide) (Nat.le_of_ble_eq_true rfl) ?_
  intro M X hE hN hB9 hI9
  replace X : VX l D M cy cX4_divisor "Runbooker$Progress" (some FieldType.int) ({ frames := 1, cells := 0, slots := 0, locals := 40 } : Room) := X
  show V l D M 0 0 (wC ad cy S ++ F) [(0, .ref (ad 3))] 0 []
  refine V.iconst (v := nI 1) X dX4_divisor_0 rfl ?_
  refine V.aload_n X dX4_divisor_1 rfl ?_
  refine wC_gX4_35 X dX4_divisor_2 ?_
  refine V.mmax (v := nI (max 1 (rN S 46 0))) X gw_5_225 gw_4_132 gw_1_18 gw_4_133 (Nat.le_of_ble_eq_true rfl) (Nat.le_of_ble_eq_true rfl) (Nat.le_of_ble_eq_true rfl) (Nat.le_of_ble_eq_true rfl) dX4_divisor_5 (mmaxN (a := 1) (b := rN S 46 0) (by decide) (hB.n 46 _)) ?_
  exact V.iret (v := nI (max 1 (rN S 46 0))) X hE rfl rfl (Nat.le_of_ble_eq_true rfl) (Nat.le_of_ble_eq_true rfl) (pN9 rfl rfl) dX4_divisor_8
set_option maxRecDepth 20000 in
set_option maxHeartbeats 4000000 in
theorem c_X0_replace (l : Launch) (D : va_G) (cy : Nat → ClassId) (ad : Nat → Nat) (S : St) (F : va_W) (p : Nat) (q : Nat) (hB : Bnd S) (h8 : rN S 43 0 ≤ 8) (hp : p < rN S 43 0) (hq : q < rN S 43 0) : Ctr l D cy yX0_replace (.code yX0_replace cX0_replace 3 none) ({ frames := 1, cells := 0, slots := 0, locals := 40 } : Room) [.ref (ad 1), .int (nI p), .int (nI q)] (wC ad cy S ++ F) (pU (wC ad cy (sB (sO S 9 (up1 (up1 (rO S 9) q (rO S 9 p)) p none)) 8 (up1 (up1 (rB S 8) p false) q true)) ++ F)) pNo := by
  refine Ctr.of (by decide) (Nat.le_of_ble_eq_true rfl) ?_
  intro M X hE hN hB9 hI9
  replace X : VX l D M cy cX0_replace "Runbooker$Crew" none ({ frames := 1, cells := 0, slots := 0, locals := 40 } : Room) := X
  show V l D M 0 0 (wC ad cy S ++ F) [(0, .ref (ad 1)), (1, .int (nI p)), (2, .int (nI q))] 0 []
  refine V.aload_n X dX0_replace_0 rfl ?_
  refine V.iload_n X dX0_replace_1 rfl ?_
  refine V.callV1 [.int (nI p)] X (c_X0_has l D cy ad S F (nI p)) mv_X0_has gw_3_239 ⟨⟨(Nat.le_of_ble_eq_true rfl), (Nat.le_of_ble_eq_true rfl)⟩, (Nat.le_of_ble_eq_true rfl), (Nat.le_of_ble_eq_true rfl)⟩ (q0 := 1) (ci := 2) rfl rfl rfl (Nat.le_of_ble_eq_true rfl) dX0_replace_2 ?_
  refine V.if_eq (tgt := 49) X dX0_replace_5 (by decide) b2i_0 b2i_n0 (fun (hz5 : inR (nI p) (rN S 43 0) = false) => ?_) (fun (hz5 : inR (nI p) (rN S 43 0) = true) => ?_)
  · exact absurd hz5 (by rw [inR_nI (by omega) (by omega)]; simp [hp])
  · refine V.aload_n X dX0_replace_8 rfl ?_
    refine V.iload_n X dX0_replace_9 rfl ?_
    refine V.callV1 [.int (nI q)] X (c_X0_has l D cy ad S F (nI q)) mv_X0_has gw_3_239 ⟨⟨(Nat.le_of_ble_eq_true rfl), (Nat.le_of_ble_eq_true rfl)⟩, (Nat.le_of_ble_eq_true rfl), (Nat.le_of_ble_eq_true rfl)⟩ (q0 := 1) (ci := 2) rfl rfl rfl (Nat.le_of_ble_eq_true rfl) dX0_replace_10 ?_
    refine V.if_eq (tgt := 49) X dX0_replace_13 (by decide) b2i_0 b2i_n0 (fun (hz13 : inR (nI q) (rN S 43 0) = false) => ?_) (fun (hz13 : inR (nI q) (rN S 43 0) = true) => ?_)
    · exact absurd hz13 (by rw [inR_nI (by omega) (by omega)]; simp [hq])
    · refine V.aload_n X dX0_replace_16 rfl ?_
      refine wC_gX0_19 X dX0_replace_17 ?_
      refine V.iload_n X dX0_replace_20 rfl ?_
      refine V.aload_n X dX0_replace_21 rfl ?_
      refine wC_gX0_19 X dX0_replace_22 ?_
      refine V.iload_n X dX0_replace_25 rfl ?_
      refine wC_ld9 (i := p) X (by omega) dX0_replace_26 ?_
      refine wC_st9 (i := q) (v := rO S 9 p) (g := (rO S 9)) X (by omega) rfl dX0_replace_27 ?_
      refine V.aload_n X dX0_replace_28 rfl ?_
      refine wC_gX0_19 X dX0_replace_29 ?_
      refine V.iload_n X dX0_replace_32 rfl ?_
      refine V.iconst (v := o2i none) X dX0_replace_33 rfl ?_
      refine wC_st9 (i := p) (v := none) (g := (up1 (rO S 9) q (rO S 9 p))) X (by omega) rfl dX0_replace_34 ?_
      refine V.aload_n X dX0_replace_35 rfl ?_
      refine wC_gX0_15 X dX0_replace_36 ?_
      refine V.iload_n X dX0_replace_39 rfl ?_
      refine V.iconst (v := nI 0) X dX0_replace_40 rfl ?_
      refine wC_st8 (i := p) (v := false) (g := (rB S 8)) X (by omega) rfl dX0_replace_41 ?_
      refine V.aload_n X dX0_replace_42 rfl ?_
      refine wC_gX0_15 X dX0_replace_43 ?_
      refine V.iload_n X dX0_replace_46 rfl ?_
      refine V.iconst (v := nI 1) X dX0_replace_47 rfl ?_
      refine wC_st8 (i := q) (v := true) (g := (up1 (rB S 8) p false)) X (by omega) rfl dX0_replace_48 ?_
      exact V.vret X hE rfl (Nat.le_of_ble_eq_true rfl) (Nat.le_of_ble_eq_true rfl) (pU9 rfl) dX0_replace_49
