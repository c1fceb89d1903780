/-! ===== Plan ===== -/
def metB (r : Int32) (sg : UInt16) (b : Int32) : Bool := if sg = 60 then decide (r < b) else if sg = 62 then decide (b < r) else decide (r = b)
/-- the condition at a place holds now -/
def metS (S : St) (j : Nat) : Bool := metB (rI S 6 (rN S 18 j)) (rC S 19 j) (rI S 20 j)
def guard9 (S : St) (s : Nat) : Bool := all9 (fun k => metS S (s * 2 + k)) (rN S 17 s)
def pred9 : Nat → Option Nat
  | 0 => none
  | j + 1 => some j
theorem pred9_lt {i : Nat} (hi : i < 2147483648) (h : o2i (pred9 i) < 0) : i = 0 := by
  cases i with
  | zero => rfl
  | succ j => exact absurd h (nI_pos (by omega))
theorem pred9_nlt {i : Nat} (h : ¬ o2i (pred9 i) < 0) : 0 < i := by
  cases i with
  | zero => exact absurd (show (-1 : Int32) < 0 by decide) h
  | succ j => omega
theorem pred9_dec (j : Nat) : nI j + Int32.ofInt (-1) = o2i (pred9 j) := by
  cases j with
  | zero => rfl
  | succ j => exact pk_m1 j
theorem pred9_sub (j : Nat) : nI j - nI 1 = o2i (pred9 j) := by
  cases j with
  | zero => rfl
  | succ j => exact pk_sub (by omega)
def bit9 (S : St) (t s : Nat) : Bool := hasBit (rI S 15 t) (nI s)
def rstF (n : Nat) (ln : Nat → Nat) (bt : Nat → Nat → Bool) : Nat → Nat → Nat
  | 0, _ => 0
  | d + 1, s => ln s + max9 (fun t => if bt t s then rstF n ln bt d t else 0) (s + 1) n
def rstD (S : St) : Nat → Nat → Nat := rstF (rN S 44 0) (rN S 11) (bit9 S)
/-- the rest of a step -/
def rst (S : St) (s : Nat) : Nat := rstD S 17 s
theorem rstD_st {S : St} : ∀ (d s : Nat), s < rN S 44 0 → rN S 44 0 ≤ s + d → rstD S (d + 1) s = rstD S d s
  | 0, s, h1, h2 => by omega
  | d + 1, s, h1, h2 => by
    show rN S 11 s + max9 (fun t => if bit9 S t s then rstD S (d + 1) t else 0) (s + 1) (rN S 44 0) = rN S 11 s + max9 (fun t => if bit9 S t s then rstD S d t else 0) (s + 1) (rN S 44 0)
    rw [max9_cong (fun t h3 h4 => ?_)]
    show (if bit9 S t s then rstD S (d + 1) t else 0) = if bit9 S t s then rstD S d t else 0
    rw [rstD_st d t h4 (by omega)]
theorem rst_eq {S : St} (hn : rN S 44 0 ≤ 16) {s : Nat} (hs : s < rN S 44 0) : rst S s = rN S 11 s + max9 (fun t => if bit9 S t s then rst S t else 0) (s + 1) (rN S 44 0) := by
  show rN S 11 s + max9 (fun t => if bit9 S t s then rstD S 16 t else 0) (s + 1) (rN S 44 0) = _
  rw [max9_cong (fun t h3 h4 => ?_)]
  show (if bit9 S t s then rstD S 16 t else 0) = if bit9 S t s then rst S t else 0
  rw [show rst S t = rstD S 16 t from rstD_st 16 t h4 (by omega)]
theorem rstD_le {S : St} (hl : ∀ j, rN S 11 j ≤ 60) : ∀ d s, rstD S d s ≤ 60 * d
  | 0, s => Nat.zero_le _
  | d + 1, s => by
    have h1 := hl s
    have h2 : max9 (fun t => if bit9 S t s then rstD S d t else 0) (s + 1) (rN S 44 0) ≤ 60 * d := max9_le (fun t _ _ => by
      show (if bit9 S t s then rstD S d t else 0) ≤ 60 * d
      split
      · exact rstD_le hl d t
      · exact Nat.zero_le _)
    show rN S 11 s + max9 (fun t => if bit9 S t s then rstD S d t else 0) (s + 1) (rN S 44 0) ≤ 60 * (d + 1)
    omega
theorem rst_le {S : St} (hl : ∀ j, rN S 11 j ≤ 60) (s : Nat) : rst S s ≤ 1020 := rstD_le hl 17 s
/-- the places i .. n - 1 are g's -/
def hi9 (g f : Nat → Nat) (i n : Nat) : Nat → Nat := fun j => if i ≤ j ∧ j < n then g j else f j
theorem hi9_n (g f : Nat → Nat) (n : Nat) : hi9 g f n n = f := by
  funext j
  unfold hi9
  rw [if_neg (by omega)]
theorem hi9_in {g f : Nat → Nat} {i n j : Nat} (h1 : i ≤ j) (h2 : j < n) : hi9 g f i n j = g j := by
  unfold hi9
  rw [if_pos ⟨h1, h2⟩]
theorem hi9_s {g f : Nat → Nat} {i n v : Nat} (h : v = g i) (hi : i < n) : up1 (hi9 g f (i + 1) n) i v = hi9 g f i n := by
  funext j
  unfold up1 hi9
  by_cases e : j = i
  · subst e; rw [if_pos rfl, if_pos ⟨Nat.le_refl _, hi⟩]; exact h
  · have h1 : (i + 1 ≤ j ∧ j < n) ↔ (i ≤ j ∧ j < n) := by omega
    simp only [if_neg e, h1]
theorem hi9_lt {g f : Nat → Nat} {i n B : Nat} (hg : ∀ j, g j < B) (hf : ∀ j, f j < B) : ∀ j, hi9 g f i n j < B := by
  intro j
  unfold hi9
  split
  · exact hg j
  · exact hf j
/-- the greatest rest among the needing steps below o -/
def mx9 (S : St) (s o : Nat) : Nat := max9 (fun t => if bit9 S t s then rst S t else 0) (s + 1) o
theorem mx9_0 (S : St) (s : Nat) : mx9 S s (s + 1) = 0 := max9_low (Nat.le_refl _)
theorem mx9_t {S : St} {s o : Nat} (h : s + 1 ≤ o) (hb : bit9 S o s = true) : mx9 S s (o + 1) = max (mx9 S s o) (rst S o) := by
  unfold mx9
  rw [max9_up h]
  simp [hb]
theorem mx9_f {S : St} {s o : Nat} (h : s + 1 ≤ o) (hb : bit9 S o s = false) : mx9 S s (o + 1) = mx9 S s o := by
  unfold mx9
  rw [max9_up h]
  simp [hb]
theorem mx9_le {S : St} (hl : ∀ j, rN S 11 j ≤ 60) (s o : Nat) : mx9 S s o ≤ 1020 := max9_le (fun t _ _ => by
  show (if bit9 S t s then rst S t else 0) ≤ 1020
  split
  · exact rst_le hl t
  · exact Nat.zero_le _)
set_option maxRecDepth 20000 in
set_option maxHeartbeats 4000000 in
theorem c_X5_isSensor (l : Launch) (D : va_G) (cy : Nat → ClassId) (ad : Nat → Nat) (S : St) (F : va_W) (x : Int32) : Ctr l D cy yX5_isSensor (.code yX5_isSensor cX5_isSensor 1 (some FieldType.boolean)) ({ frames := 0, cells := 0, slots := 0, locals := 0 } : Room) [.int x] (wC ad cy S ++ F) (pI (b2i (inR x 6)) (wC ad cy S ++ F)) pNo := by
  refine Ctr.of (by decide) (Nat.le_of_ble_eq_true rfl) ?_
  intro M X hE hN hB9 hI9
  replace X : VX l D M cy cX5_isSensor "Runbooker" (some FieldType.boolean) ({ frames := 0, cells := 0, slots := 0, locals := 0 } : Room) := X
  show V l D M 0 0 (wC ad cy S ++ F) [(0, .int x)] 0 []
  refine V.iload_n X dX5_isSensor_0 rfl ?_
  refine V.if_lt (tgt := 14) X dX5_isSensor_1 (by decide) id id (fun (hz1 : x < 0) => ?_) (fun (hz1 : ¬ x < 0) => ?_)
  · refine V.iconst (v := nI 0) X dX5_isSensor_14 rfl ?_
    exact V.iret (v := b2i false) X hE rfl (nar_b _) (Nat.le_of_ble_eq_true rfl) (Nat.le_of_ble_eq_true rfl) (pB9 (by simp [inR, hz1]) rfl) dX5_isSensor_15
  · refine V.iload_n X dX5_isSensor_4 rfl ?_
    refine V.bipush (v := nI 6) X dX5_isSensor_5 (by decide) ?_
    refine V.icmp_ge (tgt := 14) X dX5_isSensor_7 (by decide) id id (fun (hz7 : nI 6 ≤ x) => ?_) (fun (hz7 : ¬ nI 6 ≤ x) => ?_)
    · refine V.iconst (v := nI 0) X dX5_isSensor_14 rfl ?_
      exact V.iret (v := b2i false) X hE rfl (nar_b _) (Nat.le_of_ble_eq_true rfl) (Nat.le_of_ble_eq_true rfl) (pB9 (by simp [inR, hz1, hz7]) rfl) dX5_isSensor_15
    · refine V.iconst (v := nI 1) X dX5_isSensor_10 rfl ?_
      refine V.goto (tgt := 15) X dX5_isSensor_11 (by decide) ?_
      exact V.iret (v := b2i true) X hE rfl (nar_b _) (Nat.le_of_ble_eq_true rfl) (Nat.le_of_ble_eq_true rfl) (pB9 (by simp [inR, hz1, hz7]) rfl) dX5_isSensor_15
set_option maxRecDepth 20000 in
set_option maxHeartbeats 4000000 in
theorem c_X3_has (l : Launch) (D : va_G) (cy : Nat → ClassId) (ad : Nat → Nat) (S : St) (F : va_W) (x : Int32) : Ctr l D cy yX3_has (.code yX3_has cX3_has 2 (some FieldType.boolean)) ({ frames := 0, cells := 0, slots := 0, locals := 0 } : Room) [.ref (ad 2), .int x] (wC ad cy S ++ F) (pI (b2i (inR x (rN S 44 0))) (wC ad cy S ++ F)) pNo := by
  refine Ctr.of (by decide) (Nat.le_of_ble_eq_true rfl) ?_
  intro M X hE hN hB9 hI9
  replace X : VX l D M cy cX3_has "Runbooker$Plan" (some FieldType.boolean) ({ frames := 0, cells := 0, slots := 0, locals := 0 } : Room) := X
  show V l D M 0 0 (wC ad cy S ++ F) [(0, .ref (ad 2)), (1, .int x)] 0 []
  refine V.iload_n X dX3_has_0 rfl ?_
  refine V.if_lt (tgt := 16) X dX3_has_1 (by decide) id id (fun (hz1 : x < 0) => ?_) (fun (hz1 : ¬ x < 0) => ?_)
  · refine V.iconst (v := nI 0) X dX3_has_16 rfl ?_
    exact V.iret (v := b2i false) X hE rfl (nar_b _) (Nat.le_of_ble_eq_true rfl) (Nat.le_of_ble_eq_true rfl) (pB9 (by simp [inR, hz1]) rfl) dX3_has_17
  · refine V.iload_n X dX3_has_4 rfl ?_
    refine V.aload_n X dX3_has_5 rfl ?_
    refine wC_gX3_50 X dX3_has_6 ?_
    refine V.icmp_ge (tgt := 16) X dX3_has_9 (by decide) id id (fun (hz9 : nI (rN S 44 0) ≤ x) => ?_) (fun (hz9 : ¬ nI (rN S 44 0) ≤ x) => ?_)
    · refine V.iconst (v := nI 0) X dX3_has_16 rfl ?_
      exact V.iret (v := b2i false) X hE rfl (nar_b _) (Nat.le_of_ble_eq_true rfl) (Nat.le_of_ble_eq_true rfl) (pB9 (by simp [inR, hz1, hz9]) rfl) dX3_has_17
    · refine V.iconst (v := nI 1) X dX3_has_12 rfl ?_
      refine V.goto (tgt := 17) X dX3_has_13 (by decide) ?_
      exact V.iret (v := b2i true) X hE rfl (nar_b _) (Nat.le_of_ble_eq_true rfl) (Nat.le_of_ble_eq_true rfl) (pB9 (by simp [inR, hz1, hz9]) rfl) dX3_has_17
set_option maxRecDepth 20000 in
set_option maxHeartbeats 4000000 in
theorem c_X3_append (l : Launch) (D : va_G) (cy : Nat → ClassId) (ad : Nat → Nat) (S : St) (F : va_W) (r : Nat) (ln : Nat) (tr : Nat) (jn : UInt16) (rv : Bool) (hn : rN S 44 0 < 16) : Ctr l D cy yX3_append (.code yX3_append cX3_append 7 (some FieldType.int)) ({ frames := 0, cells := 0, slots := 0, locals := 0 } : Room) [.ref (ad 2), .int (nI r), .int (nI ln), .int (nI tr), .int (c2i jn), .int (b2i rv)] (wC ad cy S ++ F) (pI (nI (rN S 44 0)) (wC ad cy (sN (sO (sB (sC (sN (sN (sN S 10 (up1 (rN S 10) (rN S 44 0) r)) 11 (up1 (rN S 11) (rN S 44 0) ln)) 12 (up1 (rN S 12) (rN S 44 0) tr)) 13 (up1 (rC S 13) (rN S 44 0) jn)) 14 (up1 (rB S 14) (rN S 44 0) rv)) 16 (up1 (rO S 16) (rN S 44 0) none)) 44 (fun _ => rN S 44 0 + 1)) ++ F)) pNo := by
  refine Ctr.of (by decide) (Nat.le_of_ble_eq_true rfl) ?_
  intro M X hE hN hB9 hI9
  replace X : VX l D M cy cX3_append "Runbooker$Plan" (some FieldType.int) ({ frames := 0, cells := 0, slots := 0, locals := 0 } : Room) := X
  show V l D M 0 0 (wC ad cy S ++ F) [(0, .ref (ad 2)), (1, .int (nI r)), (2, .int (nI ln)), (3, .int (nI tr)), (4, .int (c2i jn)), (5, .int (b2i rv))] 0 []
  refine V.aload_n X dX3_append_0 rfl ?_
  refine wC_gX3_50 X dX3_append_1 ?_
  refine V.istore (L' := [(6, .int (nI (rN S 44 0))), (0, .ref (ad 2)), (1, .int (nI r)), (2, .int (nI ln)), (3, .int (nI tr)), (4, .int (c2i jn)), (5, .int (b2i rv))]) X dX3_append_4 hB9 (by decide) rfl ?_
  refine V.aload_n X dX3_append_6 rfl ?_
  refine wC_gX3_9 X dX3_append_7 ?_
  refine V.iload X dX3_append_10 rfl ?_
  refine V.iload_n X dX3_append_12 rfl ?_
  refine wC_st10 (i := rN S 44 0) (v := r) (g := (rN S 10)) X (by omega) rfl dX3_append_13 ?_
  refine V.aload_n X dX3_append_14 rfl ?_
  refine wC_gX3_15 X dX3_append_15 ?_
  refine V.iload X dX3_append_18 rfl ?_
  refine V.iload_n X dX3_append_20 rfl ?_
  refine wC_st11 (i := rN S 44 0) (v := ln) (g := (rN S 11)) X (by omega) rfl dX3_append_21 ?_
  refine V.aload_n X dX3_append_22 rfl ?_
  refine wC_gX3_18 X dX3_append_23 ?_
  refine V.iload X dX3_append_26 rfl ?_
  refine V.iload_n X dX3_append_28 rfl ?_
  refine wC_st12 (i := rN S 44 0) (v := tr) (g := (rN S 12)) X (by omega) rfl dX3_append_29 ?_
  refine V.aload_n X dX3_append_30 rfl ?_
  refine wC_gX3_21 X dX3_append_31 ?_
  refine V.iload X dX3_append_34 rfl ?_
  refine V.iload X dX3_append_36 rfl ?_
  refine wC_st13 (i := rN S 44 0) (v := jn) (g := (rC S 13)) X (by omega) rfl dX3_append_38 ?_
  refine V.aload_n X dX3_append_39 rfl ?_
  refine wC_gX3_25 X dX3_append_40 ?_
  refine V.iload X dX3_append_43 rfl ?_
  refine V.iload X dX3_append_45 rfl ?_
  refine wC_st14 (i := rN S 44 0) (v := rv) (g := (rB S 14)) X (by omega) rfl dX3_append_47 ?_
  refine V.aload_n X dX3_append_48 rfl ?_
  refine wC_gX3_32 X dX3_append_49 ?_
  refine V.iload X dX3_append_52 rfl ?_
  refine V.iconst (v := o2i none) X dX3_append_54 rfl ?_
  refine wC_st16 (i := rN S 44 0) (v := none) (g := (rO S 16)) X (by omega) rfl dX3_append_55 ?_
  refine V.aload_n X dX3_append_56 rfl ?_
  refine V.dup X dX3_append_57 rfl ?_
  refine wC_gX3_50 X dX3_append_58 ?_
  refine V.iconst (v := nI 1) X dX3_append_61 rfl ?_
  refine V.iadd (v := nI (rN S 44 0 + 1)) X dX3_append_62 (nI_add _ _) ?_
  refine wC_pX3_50 (v := rN S 44 0 + 1) X dX3_append_63 ?_
  refine V.iload X dX3_append_66 rfl ?_
  exact V.iret (v := nI (rN S 44 0)) X hE rfl rfl (Nat.le_of_ble_eq_true rfl) (Nat.le_of_ble_eq_true rfl) (pN9 rfl rfl) dX3_append_68
set_option maxRecDepth 20000 in
set_option maxHeartbeats 4000000 in
theorem c_X3_doesNeed (l : Launch) (D : va_G) (cy : Nat → ClassId) (ad : Nat → Nat) (S : St) (F : va_W) (t : Nat) (s : Nat) (ht : t < 16) : Ctr l D cy yX3_doesNeed (.code yX3_doesNeed cX3_doesNeed 3 (some FieldType.boolean)) ({ frames := 0, cells := 0, slots := 0, locals := 0 } : Room) [.ref (ad 2), .int (nI t), .int (nI s)] (wC ad cy S ++ F) (pI (b2i (bit9 S t s)) (wC ad cy S ++ F)) pNo := by
  refine Ctr.of (by decide) (Nat.le_of_ble_eq_true rfl) ?_
  intro M X hE hN hB9 hI9
  replace X : VX l D M cy cX3_doesNeed "Runbooker$Plan" (some FieldType.boolean) ({ frames := 0, cells := 0, slots := 0, locals := 0 } : Room) := X
  show V l D M 0 0 (wC ad cy S ++ F) [(0, .ref (ad 2)), (1, .int (nI t)), (2, .int (nI s))] 0 []
  refine V.aload_n X dX3_doesNeed_0 rfl ?_
  refine wC_gX3_29 X dX3_doesNeed_1 ?_
  refine V.iload_n X dX3_doesNeed_4 rfl ?_
  refine wC_ld15 (i := t) X (by omega) dX3_doesNeed_5 ?_
  refine V.iload_n X dX3_doesNeed_6 rfl ?_
  refine V.ishr (v := (rI S 15 t) >>> ((nI s) &&& 31)) X dX3_doesNeed_7 rfl ?_
  refine V.iconst (v := nI 1) X dX3_doesNeed_8 rfl ?_
  refine V.iand (v := ((rI S 15 t) >>> ((nI s) &&& 31)) &&& (nI 1)) X dX3_doesNeed_9 rfl ?_
  refine V.iconst (v := nI 1) X dX3_doesNeed_10 rfl ?_
  refine V.icmp_ne (tgt := 18) X dX3_doesNeed_11 (by decide) id id (fun (hz11 : ¬ ((rI S 15 t) >>> ((nI s) &&& 31)) &&& (nI 1) = nI 1) => ?_) (fun (hz11 : ((rI S 15 t) >>> ((nI s) &&& 31)) &&& (nI 1) = nI 1) => ?_)
  · refine V.iconst (v := nI 0) X dX3_doesNeed_18 rfl ?_
    exact V.iret (v := b2i false) X hE rfl (nar_b _) (Nat.le_of_ble_eq_true rfl) (Nat.le_of_ble_eq_true rfl) (pB9 (by simp [bit9, hasBit, hz11]) rfl) dX3_doesNeed_19
  · refine V.iconst (v := nI 1) X dX3_doesNeed_14 rfl ?_
    refine V.goto (tgt := 19) X dX3_doesNeed_15 (by decide) ?_
    exact V.iret (v := b2i true) X hE rfl (nar_b _) (Nat.le_of_ble_eq_true rfl) (Nat.le_of_ble_eq_true rfl) (pB9 (by simp [bit9, hasBit, hz11]) rfl) dX3_doesNeed_19
set_option maxRecDepth 20000 in
set_option maxHeartbeats 4000000 in
theorem c_X3_ownerOfFallback (l : Launch) (D : va_G) (cy : Nat → ClassId) (ad : Nat → Nat) (S : St) (F : va_W) (f : Nat) (hB : Bnd S) (hf : f < 16) (hn : rN S 44 0 ≤ 16) : Ctr l D cy yX3_ownerOfFallback (.code yX3_ownerOfFallback cX3_ownerOfFallback 3 (some FieldType.int)) ({ frames := 0, cells := 0, slots := 0, locals := 0 } : Room) [.ref (ad 2), .int (nI f)] (wC ad cy S ++ F) (pI (o2i (fst9 (fun s => decide (rO S 16 s = some f)) (rN S 44 0))) (wC ad cy S ++ F)) pNo := by
  refine Ctr.of (by decide) (Nat.le_of_ble_eq_true rfl) ?_
  intro M X hE hN hB9 hI9
  replace X : VX l D M cy cX3_ownerOfFallback "Runbooker$Plan" (some FieldType.int) ({ frames := 0, cells := 0, slots := 0, locals := 0 } : Room) := X
  show V l D M 0 0 (wC ad cy S ++ F) [(0, .ref (ad 2)), (1, .int (nI f))] 0 []
  refine V.iconst (v := nI 0) X dX3_ownerOfFallback_0 rfl ?_
  refine V.istore_n (L' := [(2, .int (nI 0)), (0, .ref (ad 2)), (1, .int (nI f))]) X dX3_ownerOfFallback_1 rfl hB9 (by decide) rfl ?_
  have loop2 : ∀ (d9 : Nat) (i : Nat), (rN S 44 0 - i) < d9 → (i ≤ rN S 44 0) → (∀ j, j < i → decide (rO S 16 j = some f) = false) → V l D M 0 0 (wC ad cy S ++ F) [(2, .int (nI i)), (0, .ref (ad 2)), (1, .int (nI f))] 2 [] := by
    intro d9
    induction d9 with
    | zero => intro i h9; exact absurd h9 (Nat.not_lt_zero _)
    | succ d9 ih2 =>
      intro i hd9 hi hq
      refine V.iload_n X dX3_ownerOfFallback_2 rfl ?_
      refine V.aload_n X dX3_ownerOfFallback_3 rfl ?_
      refine wC_gX3_50 X dX3_ownerOfFallback_4 ?_
      refine V.icmp_ge (tgt := 28) X dX3_ownerOfFallback_7 (by decide) (cN_le (hB.n 44 _) (by omega)) (cN_nle (hB.n 44 _) (by omega)) (fun (hz7 : rN S 44 0 ≤ i) => ?_) (fun (hz7 : i < rN S 44 0) => ?_)
      · refine V.iconst (v := o2i none) X dX3_ownerOfFallback_28 rfl ?_
        exact V.iret (v := o2i none) X hE rfl rfl (Nat.le_of_ble_eq_true rfl) (Nat.le_of_ble_eq_true rfl) (pO9 (fst9_miss (fun j hj => hq j (by omega))).symm rfl) dX3_ownerOfFallback_29
      · refine V.aload_n X dX3_ownerOfFallback_10 rfl ?_
        refine wC_gX3_32 X dX3_ownerOfFallback_11 ?_
        refine V.iload_n X dX3_ownerOfFallback_14 rfl ?_
        refine wC_ld16 (i := i) X (by omega) dX3_ownerOfFallback_15 ?_
        refine V.iload_n X dX3_ownerOfFallback_16 rfl ?_
        refine V.icmp_ne (tgt := 22) X dX3_ownerOfFallback_17 (by decide) (cO_ne (a := rO S 16 i) (b := some f)) (cO_eq (a := rO S 16 i) (b := some f) (hB.o 16 _) (lt_some9 (by omega))) (fun (hz17 : ¬ rO S 16 i = some f) => ?_) (fun (hz17 : rO S 16 i = some f) => ?_)
        · refine V.iinc (v := nI (i + 1)) (L' := [(2, .int (nI (i + 1))), (0, .ref (ad 2)), (1, .int (nI f))]) X dX3_ownerOfFallback_22 rfl (nI_inc _) hB9 (by decide) rfl ?_
          refine V.goto (tgt := 2) X dX3_ownerOfFallback_25 (by decide) ?_
          exact V.eqs rfl rfl (ih2 (i + 1) (by omega) (by omega) (lt_s hq (by simp [hz17])))
        · refine V.iload_n X dX3_ownerOfFallback_20 rfl ?_
          exact V.iret (v := o2i (some i)) X hE rfl rfl (Nat.le_of_ble_eq_true rfl) (Nat.le_of_ble_eq_true rfl) (pO9 (fst9_hit hq (by simp [hz17]) (by omega)).symm rfl) dX3_ownerOfFallback_21
  exact V.eqs rfl rfl (loop2 _ 0 (Nat.lt_succ_self _) (Nat.zero_le _) (fun j hj => absurd hj (Nat.not_lt_zero _)))
set_option maxRecDepth 20000 in
set_option maxHeartbeats 4000000 in
theorem c_X3_addCondition (l : Launch) (D : va_G) (cy : Nat → ClassId) (ad : Nat → Nat) (S : St) (F : va_W) (s : Nat) (se : Nat) (sg : UInt16) (b : Int32) (hs : s < 16) (hc : rN S 17 s < 2) : Ctr l D cy yX3_addCondition (.code yX3_addCondition cX3_addCondition 6 (some FieldType.int)) ({ frames := 0, cells := 0, slots := 0, locals := 0 } : Room) [.ref (ad 2), .int (nI s), .int (nI se), .int (c2i sg), .int b] (wC ad cy S ++ F) (pI (nI (rN S 17 s + 1)) (wC ad cy (sN (sI (sC (sN S 18 (up1 (rN S 18) (s * 2 + rN S 17 s) se)) 19 (up1 (rC S 19) (s * 2 + rN S 17 s) sg)) 20 (up1 (rI S 20) (s * 2 + rN S 17 s) b)) 17 (up1 (rN S 17) s (rN S 17 s + 1))) ++ F)) pNo := by
  refine Ctr.of (by decide) (Nat.le_of_ble_eq_true rfl) ?_
  intro M X hE hN hB9 hI9
  replace X : VX l D M cy cX3_addCondition "Runbooker$Plan" (some FieldType.int) ({ frames := 0, cells := 0, slots := 0, locals := 0 } : Room) := X
  show V l D M 0 0 (wC ad cy S ++ F) [(0, .ref (ad 2)), (1, .int (nI s)), (2, .int (nI se)), (3, .int (c2i sg)), (4, .int b)] 0 []
  refine V.iload_n X dX3_addCondition_0 rfl ?_
  refine V.iconst (v := nI 2) X dX3_addCondition_1 rfl ?_
  refine V.imul (v := nI (s * 2)) X dX3_addCondition_2 (pk_mul _ _) ?_
  refine V.aload_n X dX3_addCondition_3 rfl ?_
  refine wC_gX3_35 X dX3_addCondition_4 ?_
  refine V.iload_n X dX3_addCondition_7 rfl ?_
  refine wC_ld17 (i := s) X (by omega) dX3_addCondition_8 ?_
  refine V.iadd (v := nI (s * 2 + (rN S 17 s))) X dX3_addCondition_9 (nI_add _ _) ?_
  refine V.istore (L' := [(5, .int (nI (s * 2 + (rN S 17 s)))), (0, .ref (ad 2)), (1, .int (nI s)), (2, .int (nI se)), (3, .int (c2i sg)), (4, .int b)]) X dX3_addCondition_10 hB9 (by decide) rfl ?_
  refine V.aload_n X dX3_addCondition_12 rfl ?_
  refine wC_gX3_38 X dX3_addCondition_13 ?_
  refine V.iload X dX3_addCondition_16 rfl ?_
  refine V.iload_n X dX3_addCondition_18 rfl ?_
  refine wC_st18 (i := s * 2 + (rN S 17 s)) (v := se) (g := (rN S 18)) X (by omega) rfl dX3_addCondition_19 ?_
  refine V.aload_n X dX3_addCondition_20 rfl ?_
  refine wC_gX3_41 X dX3_addCondition_21 ?_
  refine V.iload X dX3_addCondition_24 rfl ?_
  refine V.iload_n X dX3_addCondition_26 rfl ?_
  refine wC_st19 (i := s * 2 + (rN S 17 s)) (v := sg) (g := (rC S 19)) X (by omega) rfl dX3_addCondition_27 ?_
  refine V.aload_n X dX3_addCondition_28 rfl ?_
  refine wC_gX3_44 X dX3_addCondition_29 ?_
  refine V.iload X dX3_addCondition_32 rfl ?_
  refine V.iload X dX3_addCondition_34 rfl ?_
  refine wC_st20 (i := s * 2 + (rN S 17 s)) (v := b) (g := (rI S 20)) X (by omega) rfl dX3_addCondition_36 ?_
  refine V.aload_n X dX3_addCondition_37 rfl ?_
  refine wC_gX3_35 X dX3_addCondition_38 ?_
  refine V.iload_n X dX3_addCondition_41 rfl ?_
  refine V.dup2 X dX3_addCondition_42 rfl rfl ?_
  refine wC_ld17 (i := s) X (by omega) dX3_addCondition_43 ?_
  refine V.iconst (v := nI 1) X dX3_addCondition_44 rfl ?_
  refine V.iadd (v := nI (rN S 17 s + 1)) X dX3_addCondition_45 (nI_add _ _) ?_
  refine wC_st17 (i := s) (v := rN S 17 s + 1) (g := (rN S 17)) X (by omega) rfl dX3_addCondition_46 ?_
  refine V.aload_n X dX3_addCondition_47 rfl ?_
  refine wC_gX3_35 X dX3_addCondition_48 ?_
  refine V.iload_n X dX3_addCondition_51 rfl ?_
  refine wC_ld17 (i := s) X (by omega) dX3_addCondition_52 ?_
  exact V.iret (v := nI ((up1 (rN S 17) s (rN S 17 s + 1)) s)) X hE rfl rfl (Nat.le_of_ble_eq_true rfl) (Nat.le_of_ble_eq_true rfl) (pN9 (by rw [up1_same]) rfl) dX3_addCondition_53
set_option maxRecDepth 20000 in
set_option maxHeartbeats 4000000 in
theorem c_X3_sensorOf (l : Launch) (D : va_G) (cy : Nat → ClassId) (ad : Nat → Nat) (S : St) (F : va_W) (s : Nat) (k : Nat) (hs : s < 16) (hk : k < 2) : Ctr l D cy yX3_sensorOf (.code yX3_sensorOf cX3_sensorOf 3 (some FieldType.int)) ({ frames := 0, cells := 0, slots := 0, locals := 0 } : Room) [.ref (ad 2), .int (nI s), .int (nI k)] (wC ad cy S ++ F) (pI (nI (rN S 18 (s * 2 + k))) (wC ad cy S ++ F)) pNo := by
  refine Ctr.of (by decide) (Nat.le_of_ble_eq_true rfl) ?_
  intro M X hE hN hB9 hI9
  replace X : VX l D M cy cX3_sensorOf "Runbooker$Plan" (some FieldType.int) ({ frames := 0, cells := 0, slots := 0, locals := 0 } : Room) := X
  show V l D M 0 0 (wC ad cy S ++ F) [(0, .ref (ad 2)), (1, .int (nI s)), (2, .int (nI k))] 0 []
  refine V.aload_n X dX3_sensorOf_0 rfl ?_
  refine wC_gX3_38 X dX3_sensorOf_1 ?_
  refine V.iload_n X dX3_sensorOf_4 rfl ?_
  refine V.iconst (v := nI 2) X dX3_sensorOf_5 rfl ?_
  refine V.imul (v := nI (s * 2)) X dX3_sensorOf_6 (pk_mul _ _) ?_
  refine V.iload_n X dX3_sensorOf_7 rfl ?_
  refine V.iadd (v := nI (s * 2 + k)) X dX3_sensorOf_8 (nI_add _ _) ?_
  refine wC_ld18 (i := s * 2 + k) X (by omega) dX3_sensorOf_9 ?_
  exact V.iret (v := nI (rN S 18 (s * 2 + k))) X hE rfl rfl (Nat.le_of_ble_eq_true rfl) (Nat.le_of_ble_eq_true rfl) (pN9 rfl rfl) dX3_sensorOf_10
set_option maxRecDepth 20000 in
set_option maxHeartbeats 4000000 in
theorem c_X3_isMet (l : Launch) (D : va_G) (cy : Nat → ClassId) (ad : Nat → Nat) (S : St) (F : va_W) (r : Int32) (sg : UInt16) (b : Int32) : Ctr l D cy yX3_isMet (.code yX3_isMet cX3_isMet 3 (some FieldType.boolean)) ({ frames := 0, cells := 0, slots := 0, locals := 0 } : Room) [.int r, .int (c2i sg), .int b] (wC ad cy S ++ F) (pI (b2i (metB r sg b)) (wC ad cy S ++ F)) pNo := by
  refine Ctr.of (by decide) (Nat.le_of_ble_eq_true rfl) ?_
  intro M X hE hN hB9 hI9
  replace X : VX l D M cy cX3_isMet "Runbooker$Plan" (some FieldType.boolean) ({ frames := 0, cells := 0, slots := 0, locals := 0 } : Room) := X
  show V l D M 0 0 (wC ad cy S ++ F) [(0, .int r), (1, .int (c2i sg)), (2, .int b)] 0 []
  refine V.iload_n X dX3_isMet_0 rfl ?_
  refine V.bipush (v := nI 60) X dX3_isMet_1 (by decide) ?_
  refine V.icmp_ne (tgt := 17) X dX3_isMet_3 (by decide) (cC_ne (a := sg) (b := 60)) (cC_eq (a := sg) (b := 60)) (fun (hz3 : ¬ sg = 60) => ?_) (fun (hz3 : sg = 60) => ?_)
  · refine V.iload_n X dX3_isMet_17 rfl ?_
    refine V.bipush (v := nI 62) X dX3_isMet_18 (by decide) ?_
    refine V.icmp_ne (tgt := 36) X dX3_isMet_20 (by decide) (cC_ne (a := sg) (b := 62)) (cC_eq (a := sg) (b := 62)) (fun (hz20 : ¬ sg = 62) => ?_) (fun (hz20 : sg = 62) => ?_)
    · refine V.iload_n X dX3_isMet_36 rfl ?_
      refine V.iload_n X dX3_isMet_37 rfl ?_
      refine V.icmp_ne (tgt := 45) X dX3_isMet_38 (by decide) id id (fun (hz38 : ¬ r = b) => ?_) (fun (hz38 : r = b) => ?_)
      · refine V.iconst (v := nI 0) X dX3_isMet_45 rfl ?_
        exact V.iret (v := b2i false) X hE rfl (nar_b _) (Nat.le_of_ble_eq_true rfl) (Nat.le_of_ble_eq_true rfl) (pB9 (by simp [metB, hz3, hz20, hz38]) rfl) dX3_isMet_46
      · refine V.iconst (v := nI 1) X dX3_isMet_41 rfl ?_
        refine V.goto (tgt := 46) X dX3_isMet_42 (by decide) ?_
        exact V.iret (v := b2i true) X hE rfl (nar_b _) (Nat.le_of_ble_eq_true rfl) (Nat.le_of_ble_eq_true rfl) (pB9 (by simp [metB, hz3, hz20, hz38]) rfl) dX3_isMet_46
    · refine V.iload_n X dX3_isMet_23 rfl ?_
      refine V.iload_n X dX3_isMet_24 rfl ?_
      refine V.icmp_le (tgt := 32) X dX3_isMet_25 (by decide) id id (fun (hz25 : r ≤ b) => ?_) (fun (hz25 : ¬ r ≤ b) => ?_)
      · refine V.iconst (v := nI 0) X dX3_isMet_32 rfl ?_
        refine V.goto (tgt := 46) X dX3_isMet_33 (by decide) ?_
        exact V.iret (v := b2i false) X hE rfl (nar_b _) (Nat.le_of_ble_eq_true rfl) (Nat.le_of_ble_eq_true rfl) (pB9 (by simp [metB, hz3, hz20, hz25]) rfl) dX3_isMet_46
      · refine V.iconst (v := nI 1) X dX3_isMet_28 rfl ?_
        refine V.goto (tgt := 46) X dX3_isMet_29 (by decide) ?_
        exact V.iret (v := b2i true) X hE rfl (nar_b _) (Nat.le_of_ble_eq_true rfl) (Nat.le_of_ble_eq_true rfl) (pB9 (by simp [metB, hz3, hz20, i32_nle.mp hz25]) rfl) dX3_isMet_46
  · refine V.iload_n X dX3_isMet_6 rfl ?_
    refine V.iload_n X dX3_isMet_7 rfl ?_
    refine V.icmp_ge (tgt := 15) X dX3_isMet_8 (by decide) id id (fun (hz8 : b ≤ r) => ?_) (fun (hz8 : ¬ b ≤ r) => ?_)
    · refine V.iconst (v := nI 0) X dX3_isMet_15 rfl ?_
      exact V.iret (v := b2i false) X hE rfl (nar_b _) (Nat.le_of_ble_eq_true rfl) (Nat.le_of_ble_eq_true rfl) (pB9 (by simp [metB, hz3, hz8]) rfl) dX3_isMet_16
    · refine V.iconst (v := nI 1) X dX3_isMet_11 rfl ?_
      refine V.goto (tgt := 16) X dX3_isMet_12 (by decide) ?_
      exact V.iret (v := b2i true) X hE rfl (nar_b _) (Nat.le_of_ble_eq_true rfl) (Nat.le_of_ble_eq_true rfl) (pB9 (by simp [metB, hz3, i32_nle.mp hz8]) rfl) dX3_isMet_16
set_option maxRecDepth 20000 in
set_option maxHeartbeats 4000000 in
theorem c_X3_isGuardMet (l : Launch) (D : va_G) (cy : Nat → ClassId) (ad : Nat → Nat) (S : St) (F : va_W) (s : Nat) (hB : Bnd S) (hs : s < 16) (hc : rN S 17 s ≤ 2) (hse : ∀ j, rN S 18 j < 6) : Ctr l D cy yX3_isGuardMet (.code yX3_isGuardMet cX3_isGuardMet 6 (some FieldType.boolean)) ({ frames := 1, cells := 0, slots := 0, locals := 40 } : Room) [.ref (ad 2), .int (nI s), .ref (ad 6)] (wC ad cy S ++ F) (pI (b2i (guard9 S s)) (wC ad cy S ++ F)) pNo := by
  refine Ctr.of (by decide) (Nat.le_of_ble_eq_true rfl) ?_
  intro M X hE hN hB9 hI9
  replace X : VX l D M cy cX3_isGuardMet "Runbooker$Plan" (some FieldType.boolean) ({ frames := 1, cells := 0, slots := 0, locals := 40 } : Room) := X
  show V l D M 0 0 (wC ad cy S ++ F) [(0, .ref (ad 2)), (1, .int (nI s)), (2, .ref (ad 6))] 0 []
  refine V.iconst (v := nI 0) X dX3_isGuardMet_0 rfl ?_
  refine V.istore_n (L' := [(3, .int (nI 0)), (0, .ref (ad 2)), (1, .int (nI s)), (2, .ref (ad 6))]) X dX3_isGuardMet_1 rfl hB9 (by decide) rfl ?_
  have loop2 : ∀ (d9 : Nat) (i : Nat), (rN S 17 s - i) < d9 → (i ≤ rN S 17 s) → (∀ j, j < i → metS S (s * 2 + j) = true) → V l D M 0 0 (wC ad cy S ++ F) [(3, .int (nI i)), (0, .ref (ad 2)), (1, .int (nI s)), (2, .ref (ad 6))] 2 [] := by
    intro d9
    induction d9 with
    | zero => intro i h9; exact absurd h9 (Nat.not_lt_zero _)
    | succ d9 ih2 =>
      intro i hd9 hi hq
      refine V.iload_n X dX3_isGuardMet_2 rfl ?_
      refine V.aload_n X dX3_isGuardMet_3 rfl ?_
      refine wC_gX3_35 X dX3_isGuardMet_4 ?_
      refine V.iload_n X dX3_isGuardMet_7 rfl ?_
      refine wC_ld17 (i := s) X (by omega) dX3_isGuardMet_8 ?_
      refine V.icmp_ge (tgt := 68) X dX3_isGuardMet_9 (by decide) (cN_le (hB.n 17 _) (by omega)) (cN_nle (hB.n 17 _) (by omega)) (fun (hz9 : rN S 17 s ≤ i) => ?_) (fun (hz9 : i < rN S 17 s) => ?_)
      · refine V.iconst (v := nI 1) X dX3_isGuardMet_68 rfl ?_
        exact V.iret (v := b2i true) X hE rfl (nar_b _) (Nat.le_of_ble_eq_true rfl) (Nat.le_of_ble_eq_true rfl) (pB9 (all9_hit (fun j hj => hq j (by omega))).symm rfl) dX3_isGuardMet_69
      · refine V.iload_n X dX3_isGuardMet_12 rfl ?_
        refine V.iconst (v := nI 2) X dX3_isGuardMet_13 rfl ?_
        refine V.imul (v := nI (s * 2)) X dX3_isGuardMet_14 (pk_mul _ _) ?_
        refine V.iload_n X dX3_isGuardMet_15 rfl ?_
        refine V.iadd (v := nI (s * 2 + i)) X dX3_isGuardMet_16 (nI_add _ _) ?_
        refine V.istore (L' := [(4, .int (nI (s * 2 + i))), (3, .int (nI i)), (0, .ref (ad 2)), (1, .int (nI s)), (2, .ref (ad 6))]) X dX3_isGuardMet_17 hB9 (by decide) rfl ?_
        refine V.aload_n X dX3_isGuardMet_19 rfl ?_
        refine wC_gX3_38 X dX3_isGuardMet_20 ?_
        refine V.iload X dX3_isGuardMet_23 rfl ?_
        refine wC_ld18 (i := s * 2 + i) X (by omega) dX3_isGuardMet_25 ?_
        refine V.istore (L' := [(5, .int (nI (rN S 18 (s * 2 + i)))), (4, .int (nI (s * 2 + i))), (3, .int (nI i)), (0, .ref (ad 2)), (1, .int (nI s)), (2, .ref (ad 6))]) X dX3_isGuardMet_26 hB9 (by decide) rfl ?_
        refine V.iload X dX3_isGuardMet_28 rfl ?_
        refine V.callSN1 [.int (nI (rN S 18 (s * 2 + i)))] X (c_X5_isSensor l D cy ad S F (nI (rN S 18 (s * 2 + i)))) ms_X5_isSensor gn_2_42 ⟨⟨(Nat.le_of_ble_eq_true rfl), (Nat.le_of_ble_eq_true rfl)⟩, (Nat.le_of_ble_eq_true rfl), (Nat.le_of_ble_eq_true rfl)⟩ rfl (Nat.le_of_ble_eq_true rfl) dX3_isGuardMet_30 ?_
        refine V.if_eq (tgt := 62) X dX3_isGuardMet_33 (by decide) b2i_0 b2i_n0 (fun (hz33 : inR (nI (rN S 18 (s * 2 + i))) 6 = false) => ?_) (fun (hz33 : inR (nI (rN S 18 (s * 2 + i))) 6 = true) => ?_)
        · exact absurd hz33 (by rw [inR_nI (by decide) (hB.n 18 _)]; simp [hse])
        · refine V.aload_n X dX3_isGuardMet_36 rfl ?_
          refine V.iload X dX3_isGuardMet_37 rfl ?_
          refine wC_ld6 (i := rN S 18 (s * 2 + i)) X (hse _) dX3_isGuardMet_39 ?_
          refine V.aload_n X dX3_isGuardMet_40 rfl ?_
          refine wC_gX3_41 X dX3_isGuardMet_41 ?_
          refine V.iload X dX3_isGuardMet_44 rfl ?_
          refine wC_ld19 (i := s * 2 + i) X (by omega) dX3_isGuardMet_46 ?_
          refine V.aload_n X dX3_isGuardMet_47 rfl ?_
          refine wC_gX3_44 X dX3_isGuardMet_48 ?_
          refine V.iload X dX3_isGuardMet_51 rfl ?_
          refine wC_ld20 (i := s * 2 + i) X (by omega) dX3_isGuardMet_53 ?_
          refine V.callS1 [.int (rI S 6 (rN S 18 (s * 2 + i))), .int (c2i (rC S 19 (s * 2 + i))), .int (rI S 20 (s * 2 + i))] X (c_X3_isMet l D cy ad S F (rI S 6 (rN S 18 (s * 2 + i))) (rC S 19 (s * 2 + i)) (rI S 20 (s * 2 + i))) ms_X3_isMet gw_2_45 ⟨⟨(Nat.le_of_ble_eq_true rfl), (Nat.le_of_ble_eq_true rfl)⟩, (Nat.le_of_ble_eq_true rfl), (Nat.le_of_ble_eq_true rfl)⟩ rfl (Nat.le_of_ble_eq_true rfl) dX3_isGuardMet_54 ?_
          refine V.if_ne (tgt := 62) X dX3_isGuardMet_57 (by decide) b2i_n0 b2i_0 (fun (hz57 : metB (rI S 6 (rN S 18 (s * 2 + i))) (rC S 19 (s * 2 + i)) (rI S 20 (s * 2 + i)) = true) => ?_) (fun (hz57 : metB (rI S 6 (rN S 18 (s * 2 + i))) (rC S 19 (s * 2 + i)) (rI S 20 (s * 2 + i)) = false) => ?_)
          · refine V.iinc (v := nI (i + 1)) (L' := [(3, .int (nI (i + 1))), (5, .int (nI (rN S 18 (s * 2 + i)))), (4, .int (nI (s * 2 + i))), (0, .ref (ad 2)), (1, .int (nI s)), (2, .ref (ad 6))]) X dX3_isGuardMet_62 rfl (nI_inc _) hB9 (by decide) rfl ?_
            refine V.goto (tgt := 2) X dX3_isGuardMet_65 (by decide) ?_
            refine V.pick [0, 3, 4, 5] rfl ?_
            exact V.eqs rfl rfl (ih2 (i + 1) (by omega) (by omega) (lt_s hq hz57))
          · refine V.iconst (v := nI 0) X dX3_isGuardMet_60 rfl ?_
            exact V.iret (v := b2i false) X hE rfl (nar_b _) (Nat.le_of_ble_eq_true rfl) (Nat.le_of_ble_eq_true rfl) (pB9 (all9_miss (i := i) (by omega) hz57).symm rfl) dX3_isGuardMet_61
  exact V.eqs rfl rfl (loop2 _ 0 (Nat.lt_succ_self _) (Nat.zero_le _) (fun j hj => absurd hj (Nat.not_lt_zero _)))
set_option maxRecDepth 20000 in
set_option maxHeartbeats 4000000 in
theorem c_X3_forgetRests (l : Launch) (D : va_G) (cy : Nat → ClassId) (ad : Nat → Nat) (S : St) (F : va_W) (hB : Bnd S) (hn : rN S 44 0 ≤ 16) : Ctr l D cy yX3_forgetRests (.code yX3_forgetRests cX3_forgetRests 2 none) ({ frames := 0, cells := 0, slots := 0, locals := 0 } : Room) [.ref (ad 2)] (wC ad cy S ++ F) (pU (wC ad cy (sN S 21 (low9 (fun _ => 0) (rN S 21) (rN S 44 0))) ++ F)) pNo := by
  refine Ctr.of (by decide) (Nat.le_of_ble_eq_true rfl) ?_
  intro M X hE hN hB9 hI9
  replace X : VX l D M cy cX3_forgetRests "Runbooker$Plan" none ({ frames := 0, cells := 0, slots := 0, locals := 0 } : Room) := X
  show V l D M 0 0 (wC ad cy S ++ F) [(0, .ref (ad 2))] 0 []
  refine V.iconst (v := nI 0) X dX3_forgetRests_0 rfl ?_
  refine V.istore_n (L' := [(1, .int (nI 0)), (0, .ref (ad 2))]) X dX3_forgetRests_1 rfl hB9 (by decide) rfl ?_
  have loop2 : ∀ (d9 : Nat) (i : Nat), (rN S 44 0 - i) < d9 → (i ≤ rN S 44 0) → V l D M 0 0 (wC ad cy (sN S 21 (low9 (fun _ => 0) (rN S 21) i)) ++ F) [(1, .int (nI i)), (0, .ref (ad 2))] 2 [] := by
    intro d9
    induction d9 with
    | zero => intro i h9; exact absurd h9 (Nat.not_lt_zero _)
    | succ d9 ih2 =>
      intro i hd9 hi
      refine V.iload_n X dX3_forgetRests_2 rfl ?_
      refine V.aload_n X dX3_forgetRests_3 rfl ?_
      refine wC_gX3_50 X dX3_forgetRests_4 ?_
      refine V.icmp_ge (tgt := 23) X dX3_forgetRests_7 (by decide) (cN_le (hB.n 44 _) (by omega)) (cN_nle (hB.n 44 _) (by omega)) (fun (hz7 : rN S 44 0 ≤ i) => ?_) (fun (hz7 : i < rN S 44 0) => ?_)
      · exact V.vret X hE rfl (Nat.le_of_ble_eq_true rfl) (Nat.le_of_ble_eq_true rfl) (pU9 (by rw [show i = rN S 44 0 from Nat.le_antisymm hi hz7])) dX3_forgetRests_23
      · refine V.aload_n X dX3_forgetRests_10 rfl ?_
        refine wC_gX3_47 X dX3_forgetRests_11 ?_
        refine V.iload_n X dX3_forgetRests_14 rfl ?_
        refine V.iconst (v := nI 0) X dX3_forgetRests_15 rfl ?_
        refine wC_st21 (i := i) (v := 0) (g := (low9 (fun _ => 0) (rN S 21) i)) X (by omega) rfl dX3_forgetRests_16 ?_
        refine V.iinc (v := nI (i + 1)) (L' := [(1, .int (nI (i + 1))), (0, .ref (ad 2))]) X dX3_forgetRests_17 rfl (nI_inc _) hB9 (by decide) rfl ?_
        refine V.goto (tgt := 2) X dX3_forgetRests_20 (by decide) ?_
        exact V.eqs (by rw [← low9_s (i := i) rfl]; rfl) rfl (ih2 (i + 1) (by omega) (by omega))
  exact V.eqs (by rw [low9_0]; rfl) rfl (loop2 _ 0 (Nat.lt_succ_self _) (Nat.zero_le _))
set_option maxRecDepth 20000 in
set_option maxHeartbeats 4000000 in
theorem c_X3_sweepRests (l : Launch) (D : va_G) (cy : Nat → ClassId) (ad : Nat → Nat) (S : St) (F : va_W) (hB : Bnd S) (hn : rN S 44 0 ≤ 16) (hl : ∀ j, rN S 11 j ≤ 60) : Ctr l D cy yX3_sweepRests (.code yX3_sweepRests cX3_sweepRests 4 none) ({ frames := 1, cells := 0, slots := 0, locals := 40 } : Room) [.ref (ad 2)] (wC ad cy S ++ F) (pU (wC ad cy (sN S 21 (low9 (rst S) (rN S 21) (rN S 44 0))) ++ F)) pNo := by
  refine Ctr.of (by decide) (Nat.le_of_ble_eq_true rfl) ?_
  intro M X hE hN hB9 hI9
  replace X : VX l D M cy cX3_sweepRests "Runbooker$Plan" none ({ frames := 1, cells := 0, slots := 0, locals := 40 } : Room) := X
  show V l D M 0 0 (wC ad cy S ++ F) [(0, .ref (ad 2))] 0 []
  refine V.aload_n X dX3_sweepRests_0 rfl ?_
  refine wC_gX3_50 X dX3_sweepRests_1 ?_
  refine V.iconst (v := nI 1) X dX3_sweepRests_4 rfl ?_
  refine V.isub (v := o2i (pred9 (rN S 44 0))) X dX3_sweepRests_5 (pred9_sub _) ?_
  refine V.istore_n (L' := [(1, .int (o2i (pred9 (rN S 44 0)))), (0, .ref (ad 2))]) X dX3_sweepRests_6 rfl hB9 (by decide) rfl ?_
  have loop7 : ∀ (d9 : Nat) (i : Nat), i < d9 → (i ≤ rN S 44 0) → V l D M 0 0 (wC ad cy (sN S 21 (hi9 (rst S) (rN S 21) i (rN S 44 0))) ++ F) [(1, .int (o2i (pred9 i))), (0, .ref (ad 2))] 7 [] := by
    intro d9
    induction d9 with
    | zero => intro i h9; exact absurd h9 (Nat.not_lt_zero _)
    | succ d9 ih7 =>
      intro i hd9 hi
      refine V.iload_n X dX3_sweepRests_7 rfl ?_
      refine V.if_lt (tgt := 71) X dX3_sweepRests_8 (by decide) (pred9_lt (by omega)) pred9_nlt (fun (hz8 : i = 0) => ?_) (fun (hz8 : 0 < i) => ?_)
      · exact V.vret X hE rfl (Nat.le_of_ble_eq_true rfl) (Nat.le_of_ble_eq_true rfl) (pU9 (by rw [hz8, show hi9 (rst S) (rN S 21) 0 (rN S 44 0) = low9 (rst S) (rN S 21) (rN S 44 0) from by funext t; simp [hi9, low9]])) dX3_sweepRests_71
      · obtain ⟨j, rfl⟩ : ∃ j, i = j + 1 := ⟨i - 1, by omega⟩
        show V l D M 0 0 (wC ad cy (sN S 21 (hi9 (rst S) (rN S 21) (j + 1) (rN S 44 0))) ++ F) [(1, .int (nI j)), (0, .ref (ad 2))] 11 []
        refine V.iconst (v := nI 0) X dX3_sweepRests_11 rfl ?_
        refine V.istore_n (L' := [(2, .int (nI 0)), (1, .int (nI j)), (0, .ref (ad 2))]) X dX3_sweepRests_12 rfl hB9 (by decide) rfl ?_
        refine V.iload_n X dX3_sweepRests_13 rfl ?_
        refine V.iconst (v := nI 1) X dX3_sweepRests_14 rfl ?_
        refine V.iadd (v := nI (j + 1)) X dX3_sweepRests_15 (nI_add _ _) ?_
        refine V.istore_n (L' := [(3, .int (nI (j + 1))), (2, .int (nI 0)), (1, .int (nI j)), (0, .ref (ad 2))]) X dX3_sweepRests_16 rfl hB9 (by decide) rfl ?_
        have loop17 : ∀ (d9 : Nat) (o : Nat), (rN S 44 0 - o) < d9 → (j + 1 ≤ o) → (o ≤ rN S 44 0) → V l D M 0 0 (wC ad cy (sN S 21 (hi9 (rst S) (rN S 21) (j + 1) (rN S 44 0))) ++ F) [(3, .int (nI o)), (2, .int (nI (mx9 S j o))), (1, .int (nI j)), (0, .ref (ad 2))] 17 [] := by
          intro d9
          induction d9 with
          | zero => intro o h9; exact absurd h9 (Nat.not_lt_zero _)
          | succ d9 ih17 =>
            intro o hd9 hjo ho
            refine V.iload_n X dX3_sweepRests_17 rfl ?_
            refine V.aload_n X dX3_sweepRests_18 rfl ?_
            refine wC_gX3_50 X dX3_sweepRests_19 ?_
            refine V.icmp_ge (tgt := 51) X dX3_sweepRests_22 (by decide) (cN_le (hB.n 44 _) (by omega)) (cN_nle (hB.n 44 _) (by omega)) (fun (hz22 : rN S 44 0 ≤ o) => ?_) (fun (hz22 : o < rN S 44 0) => ?_)
            · refine V.aload_n X dX3_sweepRests_51 rfl ?_
              refine wC_gX3_47 X dX3_sweepRests_52 ?_
              refine V.iload_n X dX3_sweepRests_55 rfl ?_
              refine V.aload_n X dX3_sweepRests_56 rfl ?_
              refine wC_gX3_15 X dX3_sweepRests_57 ?_
              refine V.iload_n X dX3_sweepRests_60 rfl ?_
              refine wC_ld11 (i := j) X (by omega) dX3_sweepRests_61 ?_
              refine V.iload_n X dX3_sweepRests_62 rfl ?_
              refine V.iadd (v := nI (rN S 11 j + (mx9 S j o))) X dX3_sweepRests_63 (nI_add _ _) ?_
              refine wC_st21 (i := j) (v := rN S 11 j + (mx9 S j o)) (g := (hi9 (rst S) (rN S 21) (j + 1) (rN S 44 0))) X (by omega) rfl dX3_sweepRests_64 ?_
              refine V.iinc (v := o2i (pred9 j)) (L' := [(1, .int (o2i (pred9 j))), (3, .int (nI o)), (2, .int (nI (mx9 S j o))), (0, .ref (ad 2))]) X dX3_sweepRests_65 rfl (pred9_dec j) hB9 (by decide) rfl ?_
              refine V.goto (tgt := 7) X dX3_sweepRests_68 (by decide) ?_
              refine V.pick [0, 3] rfl ?_
              exact V.eqs (by rw [hi9_s (i := j) (n := rN S 44 0) ((rst_eq hn (by omega)).trans (by rw [show o = rN S 44 0 from Nat.le_antisymm ho hz22]; rfl)).symm (by omega)]; first | done | rfl) rfl (ih7 j (by omega) (by omega))
            · refine V.aload_n X dX3_sweepRests_25 rfl ?_
              refine V.iload_n X dX3_sweepRests_26 rfl ?_
              refine V.iload_n X dX3_sweepRests_27 rfl ?_
              refine V.callV1 [.int (nI o), .int (nI j)] X (c_X3_doesNeed l D cy ad (sN S 21 (hi9 (rst S) (rN S 21) (j + 1) (rN S 44 0))) F o j (show o < 16 by omega)) mv_X3_doesNeed gw_4_130 ⟨⟨(Nat.le_of_ble_eq_true rfl), (Nat.le_of_ble_eq_true rfl)⟩, (Nat.le_of_ble_eq_true rfl), (Nat.le_of_ble_eq_true rfl)⟩ (q0 := 2) (ci := 5) rfl rfl rfl (Nat.le_of_ble_eq_true rfl) dX3_sweepRests_28 ?_
              refine V.if_eq (tgt := 45) X dX3_sweepRests_31 (by decide) b2i_0 b2i_n0 (fun (hz31 : bit9 S o j = false) => ?_) (fun (hz31 : bit9 S o j = true) => ?_)
              · refine V.iinc (v := nI (o + 1)) (L' := [(3, .int (nI (o + 1))), (2, .int (nI (mx9 S j o))), (1, .int (nI j)), (0, .ref (ad 2))]) X dX3_sweepRests_45 rfl (nI_inc _) hB9 (by decide) rfl ?_
                refine V.goto (tgt := 17) X dX3_sweepRests_48 (by decide) ?_
                exact V.eqs rfl (by rw [mx9_f hjo hz31]) (ih17 (o + 1) (by omega) (by omega) (by omega))
              · refine V.iload_n X dX3_sweepRests_34 rfl ?_
                refine V.aload_n X dX3_sweepRests_35 rfl ?_
                refine wC_gX3_47 X dX3_sweepRests_36 ?_
                refine V.iload_n X dX3_sweepRests_39 rfl ?_
                refine wC_ld21 (i := o) X (by omega) dX3_sweepRests_40 ?_
                refine V.mmax (v := nI (max (mx9 S j o) ((hi9 (rst S) (rN S 21) (j + 1) (rN S 44 0)) o))) X gw_4_131 gw_4_132 gw_1_18 gw_4_133 (Nat.le_of_ble_eq_true rfl) (Nat.le_of_ble_eq_true rfl) (Nat.le_of_ble_eq_true rfl) (Nat.le_of_ble_eq_true rfl) dX3_sweepRests_41 (mmaxN (a := mx9 S j o) (b := (hi9 (rst S) (rN S 21) (j + 1) (rN S 44 0)) o) (by have := mx9_le hl j o; omega) (show hi9 (rst S) (rN S 21) (j + 1) (rN S 44 0) o < 2147483648 by rw [hi9_in (by omega) (by omega)]; exact Nat.lt_of_le_of_lt (rst_le hl o) (by decide))) ?_
                refine V.istore_n (L' := [(2, .int (nI (max (mx9 S j o) ((hi9 (rst S) (rN S 21) (j + 1) (rN S 44 0)) o)))), (3, .int (nI o)), (1, .int (nI j)), (0, .ref (ad 2))]) X dX3_sweepRests_44 rfl hB9 (by decide) rfl ?_
                refine V.iinc (v := nI (o + 1)) (L' := [(3, .int (nI (o + 1))), (2, .int (nI (max (mx9 S j o) ((hi9 (rst S) (rN S 21) (j + 1) (rN S 44 0)) o)))), (1, .int (nI j)), (0, .ref (ad 2))]) X dX3_sweepRests_45 rfl (nI_inc _) hB9 (by decide) rfl ?_
                refine V.goto (tgt := 17) X dX3_sweepRests_48 (by decide) ?_
                exact V.eqs rfl (by rw [mx9_t hjo hz31, hi9_in (by omega) (by omega)]) (ih17 (o + 1) (by omega) (by omega) (by omega))
        exact V.eqs rfl (by rw [mx9_0]) (loop17 _ (j + 1) (Nat.lt_succ_self _) (Nat.le_refl _) hi)
  exact V.eqs (by rw [hi9_n]; rfl) rfl (loop7 _ (rN S 44 0) (Nat.lt_succ_self _) (Nat.le_refl _))
