/-! ===== the reference: its own parts ===== -/
theorem btw0 {x : Int32} {n : Nat} (hn : n < 2147483648) : btw x (nI 0) (o2i (pred9 n)) = inR x n := by
  unfold btw inR
  have h1 : ((nI 0 : Int32) ≤ x) ↔ ¬ x < 0 := i32_nlt.symm
  have h2 : (x ≤ o2i (pred9 n)) ↔ ¬ nI n ≤ x := by
    rw [Int32.le_iff_toInt_le, Int32.le_iff_toInt_le, nI_toInt hn]
    cases n with
    | zero =>
      have h0 : (o2i (pred9 0)).toInt = -1 := rfl
      rw [h0]
      omega
    | succ j =>
      have h0 : (o2i (pred9 (j + 1))).toInt = j := nI_toInt (by omega)
      rw [h0]
      omega
  by_cases a : x < 0 <;> by_cases b : nI n ≤ x <;> simp [h1, h2, a, b]
theorem btw5 (x : Int32) : btw x (nI 0) (nI 5) = inR x 6 := btw0 (n := 6) (by decide)
theorem btw3 (x : Int32) : btw x (nI 0) (nI 3) = inR x 4 := btw0 (n := 4) (by decide)
def wkM (S : St) (c : Option Nat) : Option Nat := fst9 (fun s => decide (rC S 64 s = 97) && decide (rO S 60 s = c)) (rN S 44 0)
def setM (S : St) (s : Nat) : Bool := stlF (rN S 44 0) (rC S 64) (rO S 16) 16 (some s)
def stM (S : St) (s i : Nat) : Nat := cnt9 (fun o => bit9 S s o && setM S o) i
def metM (S : St) (s : Nat) : Bool := decide (ndN S s s = 0) || (if rC S 13 s = 97 then decide (stM S s s = ndN S s s) else decide (0 < stM S s s))
def rdyM (S : St) (s : Nat) : Bool := rB S 41 0 && (decide (rC S 64 s = 119) && (metM S s && guard9 S s))
def cntM (S : St) : Nat := cnt9 (rdyM S) (rN S 44 0)
def manyM (S : St) (c : UInt16) : Nat := cnt9 (fun s => decide (rC S 64 s = c)) (rN S 44 0)
def freeM (S : St) (p : Nat) : Bool := rB S 8 p && (decide (wkM S (some p) = none) && !decide (some p = rO S 47 0))
def manM (S : St) (r : Int32) : Bool := any9 (fun p => freeM S p && hasBit (rI S 7 p) r) (rN S 43 0)
def allM (S : St) : Bool := all9 (fun s => decide (rC S 64 s = 111) || setM S s) (rN S 44 0) && rB S 41 0
theorem stlF_f {n : Nat} {q : Nat → UInt16} {fb : Nat → Option Nat} {d s : Nat} (h : s < n) (h2 : q s = 102) : stlF n q fb (d + 1) (some s) = stlF n q fb d (fb s) := by
  rw [stlF, if_pos h, if_pos h2]
theorem stlF_d {n : Nat} {q : Nat → UInt16} {fb : Nat → Option Nat} {d s : Nat} (h : s < n) (h2 : ¬ q s = 102) : stlF n q fb (d + 1) (some s) = decide (q s = 100) := by
  rw [stlF, if_pos h, if_neg h2]
theorem stlF_n {n : Nat} {q : Nat → UInt16} {fb : Nat → Option Nat} {d : Nat} : stlF n q fb d none = false := by
  cases d <;> rfl
def mfA (S : St) (s : Nat) (q : UInt16) : St := sC (sN S 25 (up1 (rN S 25) s (rN S 25 s + 1))) 64 (up1 (rC S 64) s q)
def mcin (S : St) : Option Nat → St
  | none => S
  | some t => if rC S 64 t = 111 then lgw (sC S 64 (up1 (rC S 64) t 119)) 101 (some t) none (rN S 40 0) else S
def mfB (S : St) (s : Nat) : St := lgw (mfA S s 102) 102 (some s) none (rN S 40 0)
def mfail (S : St) (s : Nat) : St := if rN S 25 s + 1 < rN S 12 s then lgw (mfA S s 119) 109 (some s) none (rN S 40 0) else mcin (mfB S s) (rO S 16 s)
def mW (S : St) (q : Nat) : Option Nat → St
  | none => S
  | some s => sO S 60 (up1 (rO S 60) s (some q))
def mhov (S : St) (p q : Nat) : St := sO (sO (lgw (mW (sB S 8 (up1 (up1 (rB S 8) p false) q true)) q (wkM S (some p))) 103 (wkM S (some p)) (some q) (rN S 40 0)) 47 (fun _ => none)) 48 (fun _ => none)
theorem wkM_lt {S : St} {c : Option Nat} {k : Nat} (h : wkM S c = some k) : k < rN S 44 0 ∧ rC S 64 k = 97 ∧ rO S 60 k = c := by
  obtain ⟨h1, h2, -⟩ := fst9_some h
  simp only [Bool.and_eq_true, decide_eq_true_eq] at h2
  exact ⟨h1, h2.1, h2.2⟩
set_option maxRecDepth 20000 in
set_option maxHeartbeats 4000000 in
theorem c_X6_fails (l : Launch) (D : va_G) (cy : Nat → ClassId) (am : Nat → Nat) (S : St) (F : va_W) (k : Nat) : Ctr l D cy yX6_fails (.code yX6_fails cX6_fails 2 (some FieldType.int)) ({ frames := 0, cells := 0, slots := 0, locals := 0 } : Room) [.ref (am 0), .int (nI k)] (wM am cy S ++ F) (pI (nI 0) (wM am cy (sN S 62 (fun _ => k)) ++ F)) pNo := by
  refine Ctr.of (by decide) (Nat.le_of_ble_eq_true rfl) ?_
  intro M X hE hN hB9 hI9
  replace X : VX l D M cy cX6_fails "RunbookerModel" (some FieldType.int) ({ frames := 0, cells := 0, slots := 0, locals := 0 } : Room) := X
  show V l D M 0 0 (wM am cy S ++ F) [(0, .ref (am 0)), (1, .int (nI k))] 0 []
  refine V.aload_n X dX6_fails_0 rfl ?_
  refine V.iload_n X dX6_fails_1 rfl ?_
  refine wM_pX6_97 (v := k) X dX6_fails_2 ?_
  refine V.iconst (v := nI 0) X dX6_fails_5 rfl ?_
  exact V.iret (v := nI 0) X hE rfl rfl (Nat.le_of_ble_eq_true rfl) (Nat.le_of_ble_eq_true rfl) (pN9 rfl rfl) dX6_fails_6
set_option maxRecDepth 20000 in
set_option maxHeartbeats 4000000 in
theorem c_X6_isWrong (l : Launch) (D : va_G) (cy : Nat → ClassId) (am : Nat → Nat) (S : St) (F : va_W) (k : Nat) : Ctr l D cy yX6_isWrong (.code yX6_isWrong cX6_isWrong 2 (some FieldType.boolean)) ({ frames := 0, cells := 0, slots := 0, locals := 0 } : Room) [.ref (am 0), .int (nI k)] (wM am cy S ++ F) (pI (b2i false) (wM am cy (sN S 62 (fun _ => k)) ++ F)) pNo := by
  refine Ctr.of (by decide) (Nat.le_of_ble_eq_true rfl) ?_
  intro M X hE hN hB9 hI9
  replace X : VX l D M cy cX6_isWrong "RunbookerModel" (some FieldType.boolean) ({ frames := 0, cells := 0, slots := 0, locals := 0 } : Room) := X
  show V l D M 0 0 (wM am cy S ++ F) [(0, .ref (am 0)), (1, .int (nI k))] 0 []
  refine V.aload_n X dX6_isWrong_0 rfl ?_
  refine V.iload_n X dX6_isWrong_1 rfl ?_
  refine wM_pX6_97 (v := k) X dX6_isWrong_2 ?_
  refine V.iconst (v := nI 0) X dX6_isWrong_5 rfl ?_
  exact V.iret (v := b2i false) X hE rfl (nar_b _) (Nat.le_of_ble_eq_true rfl) (Nat.le_of_ble_eq_true rfl) (pB9 rfl rfl) dX6_isWrong_6
set_option maxRecDepth 20000 in
set_option maxHeartbeats 4000000 in
theorem c_X6_isBetween (l : Launch) (D : va_G) (cy : Nat → ClassId) (am : Nat → Nat) (S : St) (F : va_W) (v : Int32) (lo : Int32) (hi : Int32) : Ctr l D cy yX6_isBetween (.code yX6_isBetween cX6_isBetween 3 (some FieldType.boolean)) ({ frames := 0, cells := 0, slots := 0, locals := 0 } : Room) [.int v, .int lo, .int hi] (wM am cy S ++ F) (pI (b2i (btw v lo hi)) (wM am cy S ++ F)) pNo := by
  refine Ctr.of (by decide) (Nat.le_of_ble_eq_true rfl) ?_
  intro M X hE hN hB9 hI9
  replace X : VX l D M cy cX6_isBetween "RunbookerModel" (some FieldType.boolean) ({ frames := 0, cells := 0, slots := 0, locals := 0 } : Room) := X
  show V l D M 0 0 (wM am cy S ++ F) [(0, .int v), (1, .int lo), (2, .int hi)] 0 []
  refine V.iload_n X dX6_isBetween_0 rfl ?_
  refine V.iload_n X dX6_isBetween_1 rfl ?_
  refine V.icmp_gt (tgt := 14) X dX6_isBetween_2 (by decide) id id (fun (hz2 : v < lo) => ?_) (fun (hz2 : ¬ v < lo) => ?_)
  · refine V.iconst (v := nI 0) X dX6_isBetween_14 rfl ?_
    exact V.iret (v := b2i false) X hE rfl (nar_b _) (Nat.le_of_ble_eq_true rfl) (Nat.le_of_ble_eq_true rfl) (pB9 (by simp [btw, i32_nle.mpr hz2]) rfl) dX6_isBetween_15
  · refine V.iload_n X dX6_isBetween_5 rfl ?_
    refine V.iload_n X dX6_isBetween_6 rfl ?_
    refine V.icmp_gt (tgt := 14) X dX6_isBetween_7 (by decide) id id (fun (hz7 : hi < v) => ?_) (fun (hz7 : ¬ hi < v) => ?_)
    · refine V.iconst (v := nI 0) X dX6_isBetween_14 rfl ?_
      exact V.iret (v := b2i false) X hE rfl (nar_b _) (Nat.le_of_ble_eq_true rfl) (Nat.le_of_ble_eq_true rfl) (pB9 (by simp [btw, (i32_nlt.mp hz2), i32_nle.mpr hz7]) rfl) dX6_isBetween_15
    · refine V.iconst (v := nI 1) X dX6_isBetween_10 rfl ?_
      refine V.goto (tgt := 15) X dX6_isBetween_11 (by decide) ?_
      exact V.iret (v := b2i true) X hE rfl (nar_b _) (Nat.le_of_ble_eq_true rfl) (Nat.le_of_ble_eq_true rfl) (pB9 (by simp [btw, (i32_nlt.mp hz2), (i32_nlt.mp hz7)]) rfl) dX6_isBetween_15
set_option maxRecDepth 20000 in
set_option maxHeartbeats 4000000 in
theorem c_X6_has (l : Launch) (D : va_G) (cy : Nat → ClassId) (am : Nat → Nat) (S : St) (F : va_W) (b : Int32) (k : Int32) : Ctr l D cy yX6_has (.code yX6_has cX6_has 2 (some FieldType.boolean)) ({ frames := 0, cells := 0, slots := 0, locals := 0 } : Room) [.int b, .int k] (wM am cy S ++ F) (pI (b2i (hasBit b k)) (wM am cy S ++ F)) pNo := by
  refine Ctr.of (by decide) (Nat.le_of_ble_eq_true rfl) ?_
  intro M X hE hN hB9 hI9
  replace X : VX l D M cy cX6_has "RunbookerModel" (some FieldType.boolean) ({ frames := 0, cells := 0, slots := 0, locals := 0 } : Room) := X
  show V l D M 0 0 (wM am cy S ++ F) [(0, .int b), (1, .int k)] 0 []
  refine V.iload_n X dX6_has_0 rfl ?_
  refine V.iload_n X dX6_has_1 rfl ?_
  refine V.ishr (v := b >>> (k &&& 31)) X dX6_has_2 rfl ?_
  refine V.iconst (v := nI 1) X dX6_has_3 rfl ?_
  refine V.iand (v := (b >>> (k &&& 31)) &&& (nI 1)) X dX6_has_4 rfl ?_
  refine V.iconst (v := nI 1) X dX6_has_5 rfl ?_
  refine V.icmp_ne (tgt := 13) X dX6_has_6 (by decide) id id (fun (hz6 : ¬ (b >>> (k &&& 31)) &&& (nI 1) = nI 1) => ?_) (fun (hz6 : (b >>> (k &&& 31)) &&& (nI 1) = nI 1) => ?_)
  · refine V.iconst (v := nI 0) X dX6_has_13 rfl ?_
    exact V.iret (v := b2i false) X hE rfl (nar_b _) (Nat.le_of_ble_eq_true rfl) (Nat.le_of_ble_eq_true rfl) (pB9 (by simp [hasBit, hz6]) rfl) dX6_has_14
  · refine V.iconst (v := nI 1) X dX6_has_9 rfl ?_
    refine V.goto (tgt := 14) X dX6_has_10 (by decide) ?_
    exact V.iret (v := b2i true) X hE rfl (nar_b _) (Nat.le_of_ble_eq_true rfl) (Nat.le_of_ble_eq_true rfl) (pB9 (by simp [hasBit, hz6]) rfl) dX6_has_14
set_option maxRecDepth 20000 in
set_option maxHeartbeats 4000000 in
theorem c_X6_isPerson (l : Launch) (D : va_G) (cy : Nat → ClassId) (am : Nat → Nat) (S : St) (F : va_W) (x : Int32) (hB : Bnd S) : Ctr l D cy yX6_isPerson (.code yX6_isPerson cX6_isPerson 2 (some FieldType.boolean)) ({ frames := 1, cells := 0, slots := 0, locals := 40 } : Room) [.ref (am 0), .int x] (wM am cy S ++ F) (pI (b2i (inR x (rN S 43 0))) (wM am cy S ++ F)) pNo := by
  refine Ctr.of (by decide) (Nat.le_of_ble_eq_true rfl) ?_
  intro M X hE hN hB9 hI9
  replace X : VX l D M cy cX6_isPerson "RunbookerModel" (some FieldType.boolean) ({ frames := 1, cells := 0, slots := 0, locals := 40 } : Room) := X
  show V l D M 0 0 (wM am cy S ++ F) [(0, .ref (am 0)), (1, .int x)] 0 []
  refine V.iload_n X dX6_isPerson_0 rfl ?_
  refine V.iconst (v := nI 0) X dX6_isPerson_1 rfl ?_
  refine V.aload_n X dX6_isPerson_2 rfl ?_
  refine wM_gX6_100 X dX6_isPerson_3 ?_
  refine V.iconst (v := nI 1) X dX6_isPerson_6 rfl ?_
  refine V.isub (v := o2i (pred9 (rN S 43 0))) X dX6_isPerson_7 (pred9_sub _) ?_
  refine V.callS1 [.int x, .int (nI 0), .int (o2i (pred9 (rN S 43 0)))] X (c_X6_isBetween l D cy am S F x (nI 0) (o2i (pred9 (rN S 43 0)))) ms_X6_isBetween gw_6_129 ⟨⟨(Nat.le_of_ble_eq_true rfl), (Nat.le_of_ble_eq_true rfl)⟩, (Nat.le_of_ble_eq_true rfl), (Nat.le_of_ble_eq_true rfl)⟩ rfl (Nat.le_of_ble_eq_true rfl) dX6_isPerson_8 ?_
  exact V.iret (v := b2i (btw x (nI 0) (o2i (pred9 (rN S 43 0))))) X hE rfl (nar_b _) (Nat.le_of_ble_eq_true rfl) (Nat.le_of_ble_eq_true rfl) (pB9 (btw0 (hB.n 43 _)) rfl) dX6_isPerson_11
set_option maxRecDepth 20000 in
set_option maxHeartbeats 4000000 in
theorem c_X6_isStep (l : Launch) (D : va_G) (cy : Nat → ClassId) (am : Nat → Nat) (S : St) (F : va_W) (x : Int32) (hB : Bnd S) : Ctr l D cy yX6_isStep (.code yX6_isStep cX6_isStep 2 (some FieldType.boolean)) ({ frames := 1, cells := 0, slots := 0, locals := 40 } : Room) [.ref (am 0), .int x] (wM am cy S ++ F) (pI (b2i (inR x (rN S 44 0))) (wM am cy S ++ F)) pNo := by
  refine Ctr.of (by decide) (Nat.le_of_ble_eq_true rfl) ?_
  intro M X hE hN hB9 hI9
  replace X : VX l D M cy cX6_isStep "RunbookerModel" (some FieldType.boolean) ({ frames := 1, cells := 0, slots := 0, locals := 40 } : Room) := X
  show V l D M 0 0 (wM am cy S ++ F) [(0, .ref (am 0)), (1, .int x)] 0 []
  refine V.iload_n X dX6_isStep_0 rfl ?_
  refine V.iconst (v := nI 0) X dX6_isStep_1 rfl ?_
  refine V.aload_n X dX6_isStep_2 rfl ?_
  refine wM_gX6_107 X dX6_isStep_3 ?_
  refine V.iconst (v := nI 1) X dX6_isStep_6 rfl ?_
  refine V.isub (v := o2i (pred9 (rN S 44 0))) X dX6_isStep_7 (pred9_sub _) ?_
  refine V.callS1 [.int x, .int (nI 0), .int (o2i (pred9 (rN S 44 0)))] X (c_X6_isBetween l D cy am S F x (nI 0) (o2i (pred9 (rN S 44 0)))) ms_X6_isBetween gw_6_129 ⟨⟨(Nat.le_of_ble_eq_true rfl), (Nat.le_of_ble_eq_true rfl)⟩, (Nat.le_of_ble_eq_true rfl), (Nat.le_of_ble_eq_true rfl)⟩ rfl (Nat.le_of_ble_eq_true rfl) dX6_isStep_8 ?_
  exact V.iret (v := b2i (btw x (nI 0) (o2i (pred9 (rN S 44 0))))) X hE rfl (nar_b _) (Nat.le_of_ble_eq_true rfl) (Nat.le_of_ble_eq_true rfl) (pB9 (btw0 (hB.n 44 _)) rfl) dX6_isStep_11
set_option maxRecDepth 20000 in
set_option maxHeartbeats 4000000 in
theorem c_X6_isEntry (l : Launch) (D : va_G) (cy : Nat → ClassId) (am : Nat → Nat) (S : St) (F : va_W) (x : Int32) (hB : Bnd S) : Ctr l D cy yX6_isEntry (.code yX6_isEntry cX6_isEntry 2 (some FieldType.boolean)) ({ frames := 1, cells := 0, slots := 0, locals := 40 } : Room) [.ref (am 0), .int x] (wM am cy S ++ F) (pI (b2i (inR x (rN S 50 0))) (wM am cy S ++ F)) pNo := by
  refine Ctr.of (by decide) (Nat.le_of_ble_eq_true rfl) ?_
  intro M X hE hN hB9 hI9
  replace X : VX l D M cy cX6_isEntry "RunbookerModel" (some FieldType.boolean) ({ frames := 1, cells := 0, slots := 0, locals := 40 } : Room) := X
  show V l D M 0 0 (wM am cy S ++ F) [(0, .ref (am 0)), (1, .int x)] 0 []
  refine V.iload_n X dX6_isEntry_0 rfl ?_
  refine V.iconst (v := nI 0) X dX6_isEntry_1 rfl ?_
  refine V.aload_n X dX6_isEntry_2 rfl ?_
  refine wM_gX6_144 X dX6_isEntry_3 ?_
  refine V.iconst (v := nI 1) X dX6_isEntry_6 rfl ?_
  refine V.isub (v := o2i (pred9 (rN S 50 0))) X dX6_isEntry_7 (pred9_sub _) ?_
  refine V.callS1 [.int x, .int (nI 0), .int (o2i (pred9 (rN S 50 0)))] X (c_X6_isBetween l D cy am S F x (nI 0) (o2i (pred9 (rN S 50 0)))) ms_X6_isBetween gw_6_129 ⟨⟨(Nat.le_of_ble_eq_true rfl), (Nat.le_of_ble_eq_true rfl)⟩, (Nat.le_of_ble_eq_true rfl), (Nat.le_of_ble_eq_true rfl)⟩ rfl (Nat.le_of_ble_eq_true rfl) dX6_isEntry_8 ?_
  exact V.iret (v := b2i (btw x (nI 0) (o2i (pred9 (rN S 50 0))))) X hE rfl (nar_b _) (Nat.le_of_ble_eq_true rfl) (Nat.le_of_ble_eq_true rfl) (pB9 (btw0 (hB.n 50 _)) rfl) dX6_isEntry_11
set_option maxRecDepth 20000 in
set_option maxHeartbeats 4000000 in
theorem c_X6_isSensor (l : Launch) (D : va_G) (cy : Nat → ClassId) (am : Nat → Nat) (S : St) (F : va_W) (x : Int32) : Ctr l D cy yX6_isSensor (.code yX6_isSensor cX6_isSensor 1 (some FieldType.boolean)) ({ frames := 1, cells := 0, slots := 0, locals := 40 } : Room) [.int x] (wM am cy S ++ F) (pI (b2i (inR x 6)) (wM am cy S ++ F)) pNo := by
  refine Ctr.of (by decide) (Nat.le_of_ble_eq_true rfl) ?_
  intro M X hE hN hB9 hI9
  replace X : VX l D M cy cX6_isSensor "RunbookerModel" (some FieldType.boolean) ({ frames := 1, cells := 0, slots := 0, locals := 40 } : Room) := X
  show V l D M 0 0 (wM am cy S ++ F) [(0, .int x)] 0 []
  refine V.iload_n X dX6_isSensor_0 rfl ?_
  refine V.iconst (v := nI 0) X dX6_isSensor_1 rfl ?_
  refine V.iconst (v := nI 5) X dX6_isSensor_2 rfl ?_
  refine V.callS1 [.int x, .int (nI 0), .int (nI 5)] X (c_X6_isBetween l D cy am S F x (nI 0) (nI 5)) ms_X6_isBetween gw_6_129 ⟨⟨(Nat.le_of_ble_eq_true rfl), (Nat.le_of_ble_eq_true rfl)⟩, (Nat.le_of_ble_eq_true rfl), (Nat.le_of_ble_eq_true rfl)⟩ rfl (Nat.le_of_ble_eq_true rfl) dX6_isSensor_3 ?_
  exact V.iret (v := b2i (btw x (nI 0) (nI 5))) X hE rfl (nar_b _) (Nat.le_of_ble_eq_true rfl) (Nat.le_of_ble_eq_true rfl) (pB9 (btw5 x) rfl) dX6_isSensor_6
set_option maxRecDepth 20000 in
set_option maxHeartbeats 4000000 in
theorem c_X6_work (l : Launch) (D : va_G) (cy : Nat → ClassId) (am : Nat → Nat) (S : St) (F : va_W) (c : Option Nat) (hB : Bnd S) (hn : rN S 44 0 ≤ 16) (hc : ∀ k, c = some k → k < 2147483648) : Ctr l D cy yX6_work (.code yX6_work cX6_work 3 (some FieldType.int)) ({ frames := 0, cells := 0, slots := 0, locals := 0 } : Room) [.ref (am 0), .int (o2i c)] (wM am cy S ++ F) (pI (o2i (wkM S c)) (wM am cy S ++ F)) pNo := by
  refine Ctr.of (by decide) (Nat.le_of_ble_eq_true rfl) ?_
  intro M X hE hN hB9 hI9
  replace X : VX l D M cy cX6_work "RunbookerModel" (some FieldType.int) ({ frames := 0, cells := 0, slots := 0, locals := 0 } : Room) := X
  show V l D M 0 0 (wM am cy S ++ F) [(0, .ref (am 0)), (1, .int (o2i c))] 0 []
  refine V.iconst (v := nI 0) X dX6_work_0 rfl ?_
  refine V.istore_n (L' := [(2, .int (nI 0)), (0, .ref (am 0)), (1, .int (o2i c))]) X dX6_work_1 rfl hB9 (by decide) rfl ?_
  have loop2 : ∀ (d9 : Nat) (i : Nat), (rN S 44 0 - i) < d9 → (i ≤ rN S 44 0) → (∀ j, j < i → (decide (rC S 64 j = 97) && decide (rO S 60 j = c)) = false) → V l D M 0 0 (wM am cy S ++ F) [(2, .int (nI i)), (0, .ref (am 0)), (1, .int (o2i c))] 2 [] := by
    intro d9
    induction d9 with
    | zero => intro i h9; exact absurd h9 (Nat.not_lt_zero _)
    | succ d9 ih2 =>
      intro i hd9 hi hq
      refine V.iload_n X dX6_work_2 rfl ?_
      refine V.aload_n X dX6_work_3 rfl ?_
      refine wM_gX6_107 X dX6_work_4 ?_
      refine V.icmp_ge (tgt := 39) X dX6_work_7 (by decide) (cN_le (hB.n 44 _) (by omega)) (cN_nle (hB.n 44 _) (by omega)) (fun (hz7 : rN S 44 0 ≤ i) => ?_) (fun (hz7 : i < rN S 44 0) => ?_)
      · refine V.iconst (v := o2i none) X dX6_work_39 rfl ?_
        exact V.iret (v := o2i none) X hE rfl rfl (Nat.le_of_ble_eq_true rfl) (Nat.le_of_ble_eq_true rfl) (pO9 (fst9_miss (fun j hj => hq j (by omega))).symm rfl) dX6_work_40
      · refine V.aload_n X dX6_work_10 rfl ?_
        refine wM_gX6_60 X dX6_work_11 ?_
        refine V.iload_n X dX6_work_14 rfl ?_
        refine wM_ld17 (i := i) X (by omega) dX6_work_15 ?_
        refine V.bipush (v := nI 97) X dX6_work_16 (by decide) ?_
        refine V.icmp_ne (tgt := 33) X dX6_work_18 (by decide) (cC_ne (a := rC S 64 i) (b := 97)) (cC_eq (a := rC S 64 i) (b := 97)) (fun (hz18 : ¬ rC S 64 i = 97) => ?_) (fun (hz18 : rC S 64 i = 97) => ?_)
        · refine V.iinc (v := nI (i + 1)) (L' := [(2, .int (nI (i + 1))), (0, .ref (am 0)), (1, .int (o2i c))]) X dX6_work_33 rfl (nI_inc _) hB9 (by decide) rfl ?_
          refine V.goto (tgt := 2) X dX6_work_36 (by decide) ?_
          exact V.eqs rfl rfl (ih2 (i + 1) (by omega) (by omega) (lt_s hq (by simp [hz18])))
        · refine V.aload_n X dX6_work_21 rfl ?_
          refine wM_gX6_66 X dX6_work_22 ?_
          refine V.iload_n X dX6_work_25 rfl ?_
          refine wM_ld19 (i := i) X (by omega) dX6_work_26 ?_
          refine V.iload_n X dX6_work_27 rfl ?_
          refine V.icmp_ne (tgt := 33) X dX6_work_28 (by decide) (cO_ne (a := rO S 60 i) (b := c)) (cO_eq (a := rO S 60 i) (b := c) (hB.o 60 _) hc) (fun (hz28 : ¬ rO S 60 i = c) => ?_) (fun (hz28 : rO S 60 i = c) => ?_)
          · refine V.iinc (v := nI (i + 1)) (L' := [(2, .int (nI (i + 1))), (0, .ref (am 0)), (1, .int (o2i c))]) X dX6_work_33 rfl (nI_inc _) hB9 (by decide) rfl ?_
            refine V.goto (tgt := 2) X dX6_work_36 (by decide) ?_
            exact V.eqs rfl rfl (ih2 (i + 1) (by omega) (by omega) (lt_s hq (by simp [hz18, hz28])))
          · refine V.iload_n X dX6_work_31 rfl ?_
            exact V.iret (v := o2i (some i)) X hE rfl rfl (Nat.le_of_ble_eq_true rfl) (Nat.le_of_ble_eq_true rfl) (pO9 (fst9_hit hq (by simp [hz18, hz28]) (by omega)).symm rfl) dX6_work_32
  exact V.eqs rfl rfl (loop2 _ 0 (Nat.lt_succ_self _) (Nat.zero_le _) (fun j hj => absurd hj (Nat.not_lt_zero _)))
set_option maxRecDepth 20000 in
set_option maxHeartbeats 4000000 in
theorem c_X6_isFallback (l : Launch) (D : va_G) (cy : Nat → ClassId) (am : Nat → Nat) (S : St) (F : va_W) (f : Nat) (hB : Bnd S) (hn : rN S 44 0 ≤ 16) (hf : f < 16) : Ctr l D cy yX6_isFallback (.code yX6_isFallback cX6_isFallback 3 (some FieldType.boolean)) ({ frames := 0, cells := 0, slots := 0, locals := 0 } : Room) [.ref (am 0), .int (nI f)] (wM am cy S ++ F) (pI (b2i ((own9 S f).isSome)) (wM am cy S ++ F)) pNo := by
  refine Ctr.of (by decide) (Nat.le_of_ble_eq_true rfl) ?_
  intro M X hE hN hB9 hI9
  replace X : VX l D M cy cX6_isFallback "RunbookerModel" (some FieldType.boolean) ({ frames := 0, cells := 0, slots := 0, locals := 0 } : Room) := X
  show V l D M 0 0 (wM am cy S ++ F) [(0, .ref (am 0)), (1, .int (nI f))] 0 []
  refine V.iconst (v := nI 0) X dX6_isFallback_0 rfl ?_
  refine V.istore_n (L' := [(2, .int (nI 0)), (0, .ref (am 0)), (1, .int (nI f))]) X dX6_isFallback_1 rfl hB9 (by decide) rfl ?_
  have loop2 : ∀ (d9 : Nat) (i : Nat), (rN S 44 0 - i) < d9 → (i ≤ rN S 44 0) → (∀ j, j < i → decide (rO S 16 j = some f) = false) → V l D M 0 0 (wM am cy S ++ F) [(2, .int (nI i)), (0, .ref (am 0)), (1, .int (nI f))] 2 [] := by
    intro d9
    induction d9 with
    | zero => intro i h9; exact absurd h9 (Nat.not_lt_zero _)
    | succ d9 ih2 =>
      intro i hd9 hi hq
      refine V.iload_n X dX6_isFallback_2 rfl ?_
      refine V.aload_n X dX6_isFallback_3 rfl ?_
      refine wM_gX6_107 X dX6_isFallback_4 ?_
      refine V.icmp_ge (tgt := 28) X dX6_isFallback_7 (by decide) (cN_le (hB.n 44 _) (by omega)) (cN_nle (hB.n 44 _) (by omega)) (fun (hz7 : rN S 44 0 ≤ i) => ?_) (fun (hz7 : i < rN S 44 0) => ?_)
      · refine V.iconst (v := nI 0) X dX6_isFallback_28 rfl ?_
        exact V.iret (v := b2i false) X hE rfl (nar_b _) (Nat.le_of_ble_eq_true rfl) (Nat.le_of_ble_eq_true rfl) (pB9 (any9_miss (p := fun s => decide (rO S 16 s = some f)) (n := rN S 44 0) (fun j hj => hq j (by omega))).symm rfl) dX6_isFallback_29
      · refine V.aload_n X dX6_isFallback_10 rfl ?_
        refine wM_gX6_28 X dX6_isFallback_11 ?_
        refine V.iload_n X dX6_isFallback_14 rfl ?_
        refine wM_ld7 (i := i) X (by omega) dX6_isFallback_15 ?_
        refine V.iload_n X dX6_isFallback_16 rfl ?_
        refine V.icmp_ne (tgt := 22) X dX6_isFallback_17 (by decide) (cO_ne (a := rO S 16 i) (b := some f)) (cO_eq (a := rO S 16 i) (b := some f) (hB.o 16 _) (lt_some9 (by omega))) (fun (hz17 : ¬ rO S 16 i = some f) => ?_) (fun (hz17 : rO S 16 i = some f) => ?_)
        · refine V.iinc (v := nI (i + 1)) (L' := [(2, .int (nI (i + 1))), (0, .ref (am 0)), (1, .int (nI f))]) X dX6_isFallback_22 rfl (nI_inc _) hB9 (by decide) rfl ?_
          refine V.goto (tgt := 2) X dX6_isFallback_25 (by decide) ?_
          exact V.eqs rfl rfl (ih2 (i + 1) (by omega) (by omega) (lt_s hq (by simp [hz17])))
        · refine V.iconst (v := nI 1) X dX6_isFallback_20 rfl ?_
          exact V.iret (v := b2i true) X hE rfl (nar_b _) (Nat.le_of_ble_eq_true rfl) (Nat.le_of_ble_eq_true rfl) (pB9 (any9_hit (p := fun s => decide (rO S 16 s = some f)) (i := i) (show i < rN S 44 0 by omega) (by simp [hz17])).symm rfl) dX6_isFallback_21
  exact V.eqs rfl rfl (loop2 _ 0 (Nat.lt_succ_self _) (Nat.zero_le _) (fun j hj => absurd hj (Nat.not_lt_zero _)))
set_option maxRecDepth 20000 in
set_option maxHeartbeats 4000000 in
theorem c_X6_size (l : Launch) (D : va_G) (cy : Nat → ClassId) (am : Nat → Nat) (S : St) (F : va_W) (b : Int32) : Ctr l D cy yX6_size (.code yX6_size cX6_size 3 (some FieldType.int)) ({ frames := 1, cells := 0, slots := 0, locals := 40 } : Room) [.int b] (wM am cy S ++ F) (pI (nI (popc b)) (wM am cy S ++ F)) pNo := by
  refine Ctr.of (by decide) (Nat.le_of_ble_eq_true rfl) ?_
  intro M X hE hN hB9 hI9
  replace X : VX l D M cy cX6_size "RunbookerModel" (some FieldType.int) ({ frames := 1, cells := 0, slots := 0, locals := 40 } : Room) := X
  show V l D M 0 0 (wM am cy S ++ F) [(0, .int b)] 0 []
  refine V.iconst (v := nI 0) X dX6_size_0 rfl ?_
  refine V.istore_n (L' := [(1, .int (nI 0)), (0, .int b)]) X dX6_size_1 rfl hB9 (by decide) rfl ?_
  refine V.iconst (v := nI 0) X dX6_size_2 rfl ?_
  refine V.istore_n (L' := [(2, .int (nI 0)), (1, .int (nI 0)), (0, .int b)]) X dX6_size_3 rfl hB9 (by decide) rfl ?_
  have loop4 : ∀ (d9 : Nat) (i : Nat), (16 - i) < d9 → (i ≤ 16) → V l D M 0 0 (wM am cy S ++ F) [(2, .int (nI i)), (1, .int (nI (cnt9 (fun k => hasBit b (nI k)) i))), (0, .int b)] 4 [] := by
    intro d9
    induction d9 with
    | zero => intro i h9; exact absurd h9 (Nat.not_lt_zero _)
    | succ d9 ih4 =>
      intro i hd9 hi
      refine V.iload_n X dX6_size_4 rfl ?_
      refine V.bipush (v := nI 16) X dX6_size_5 (by decide) ?_
      refine V.icmp_ge (tgt := 32) X dX6_size_7 (by decide) (cN_le (by decide) (by omega)) (cN_nle (by decide) (by omega)) (fun (hz7 : 16 ≤ i) => ?_) (fun (hz7 : i < 16) => ?_)
      · refine V.iload_n X dX6_size_32 rfl ?_
        exact V.iret (v := nI (cnt9 (fun k => hasBit b (nI k)) i)) X hE rfl rfl (Nat.le_of_ble_eq_true rfl) (Nat.le_of_ble_eq_true rfl) (pN9 (by rw [show i = 16 from Nat.le_antisymm hi hz7]; rfl) rfl) dX6_size_33
      · refine V.iload_n X dX6_size_10 rfl ?_
        refine V.iload_n X dX6_size_11 rfl ?_
        refine V.iload_n X dX6_size_12 rfl ?_
        refine V.callS1 [.int b, .int (nI i)] X (c_X6_has l D cy am S F b (nI i)) ms_X6_has gw_6_164 ⟨⟨(Nat.le_of_ble_eq_true rfl), (Nat.le_of_ble_eq_true rfl)⟩, (Nat.le_of_ble_eq_true rfl), (Nat.le_of_ble_eq_true rfl)⟩ rfl (Nat.le_of_ble_eq_true rfl) dX6_size_13 ?_
        refine V.if_eq (tgt := 23) X dX6_size_16 (by decide) b2i_0 b2i_n0 (fun (hz16 : hasBit b (nI i) = false) => ?_) (fun (hz16 : hasBit b (nI i) = true) => ?_)
        · refine V.iconst (v := nI 0) X dX6_size_23 rfl ?_
          refine V.iadd (v := nI (cnt9 (fun k => hasBit b (nI k)) i + 0)) X dX6_size_24 (nI_add _ _) ?_
          refine V.istore_n (L' := [(1, .int (nI (cnt9 (fun k => hasBit b (nI k)) i + 0))), (2, .int (nI i)), (0, .int b)]) X dX6_size_25 rfl hB9 (by decide) rfl ?_
          refine V.iinc (v := nI (i + 1)) (L' := [(2, .int (nI (i + 1))), (1, .int (nI (cnt9 (fun k => hasBit b (nI k)) i + 0))), (0, .int b)]) X dX6_size_26 rfl (nI_inc _) hB9 (by decide) rfl ?_
          refine V.goto (tgt := 4) X dX6_size_29 (by decide) ?_
          exact V.eqs rfl (by rw [cnt9_f hz16]; rfl) (ih4 (i + 1) (by omega) (by omega))
        · refine V.iconst (v := nI 1) X dX6_size_19 rfl ?_
          refine V.goto (tgt := 24) X dX6_size_20 (by decide) ?_
          refine V.iadd (v := nI (cnt9 (fun k => hasBit b (nI k)) i + 1)) X dX6_size_24 (nI_add _ _) ?_
          refine V.istore_n (L' := [(1, .int (nI (cnt9 (fun k => hasBit b (nI k)) i + 1))), (2, .int (nI i)), (0, .int b)]) X dX6_size_25 rfl hB9 (by decide) rfl ?_
          refine V.iinc (v := nI (i + 1)) (L' := [(2, .int (nI (i + 1))), (1, .int (nI (cnt9 (fun k => hasBit b (nI k)) i + 1))), (0, .int b)]) X dX6_size_26 rfl (nI_inc _) hB9 (by decide) rfl ?_
          refine V.goto (tgt := 4) X dX6_size_29 (by decide) ?_
          exact V.eqs rfl (by rw [cnt9_t hz16]) (ih4 (i + 1) (by omega) (by omega))
  exact V.eqs rfl rfl (loop4 _ 0 (Nat.lt_succ_self _) (Nat.zero_le _))
set_option maxRecDepth 20000 in
set_option maxHeartbeats 4000000 in
theorem c_X6_logs (l : Launch) (D : va_G) (cy : Nat → ClassId) (am : Nat → Nat) (S : St) (F : va_W) (sg : UInt16) (st : Option Nat) (pp : Option Nat) (hB : Bnd S) (h9 : rN S 50 0 < 1536) : Ctr l D cy yX6_logs (.code yX6_logs cX6_logs 4 none) ({ frames := 0, cells := 0, slots := 0, locals := 0 } : Room) [.ref (am 0), .int (c2i sg), .int (o2i st), .int (o2i pp)] (wM am cy S ++ F) (pU (wM am cy (lgw S sg st pp (rN S 40 0)) ++ F)) pNo := by
  refine Ctr.of (by decide) (Nat.le_of_ble_eq_true rfl) ?_
  intro M X hE hN hB9 hI9
  replace X : VX l D M cy cX6_logs "RunbookerModel" none ({ frames := 0, cells := 0, slots := 0, locals := 0 } : Room) := X
  show V l D M 0 0 (wM am cy S ++ F) [(0, .ref (am 0)), (1, .int (c2i sg)), (2, .int (o2i st)), (3, .int (o2i pp))] 0 []
  refine V.aload_n X dX6_logs_0 rfl ?_
  refine wM_gX6_82 X dX6_logs_1 ?_
  refine V.aload_n X dX6_logs_4 rfl ?_
  refine wM_gX6_144 X dX6_logs_5 ?_
  refine V.iload_n X dX6_logs_8 rfl ?_
  refine wM_st22 (i := rN S 50 0) (v := sg) (g := (rC S 29)) X (by omega) rfl dX6_logs_9 ?_
  refine V.aload_n X dX6_logs_10 rfl ?_
  refine wM_gX6_85 X dX6_logs_11 ?_
  refine V.aload_n X dX6_logs_14 rfl ?_
  refine wM_gX6_144 X dX6_logs_15 ?_
  refine V.iload_n X dX6_logs_18 rfl ?_
  refine wM_st23 (i := rN S 50 0) (v := st) (g := (rO S 30)) X (by omega) rfl dX6_logs_19 ?_
  refine V.aload_n X dX6_logs_20 rfl ?_
  refine wM_gX6_88 X dX6_logs_21 ?_
  refine V.aload_n X dX6_logs_24 rfl ?_
  refine wM_gX6_144 X dX6_logs_25 ?_
  refine V.iload_n X dX6_logs_28 rfl ?_
  refine wM_st24 (i := rN S 50 0) (v := pp) (g := (rO S 31)) X (by omega) rfl dX6_logs_29 ?_
  refine V.aload_n X dX6_logs_30 rfl ?_
  refine wM_gX6_91 X dX6_logs_31 ?_
  refine V.aload_n X dX6_logs_34 rfl ?_
  refine wM_gX6_144 X dX6_logs_35 ?_
  refine V.aload_n X dX6_logs_38 rfl ?_
  refine wM_gX6_147 X dX6_logs_39 ?_
  refine wM_st25 (i := rN S 50 0) (v := rN S 40 0) (g := (rN S 32)) X (by omega) rfl dX6_logs_42 ?_
  refine V.aload_n X dX6_logs_43 rfl ?_
  refine V.dup X dX6_logs_44 rfl ?_
  refine wM_gX6_144 X dX6_logs_45 ?_
  refine V.iconst (v := nI 1) X dX6_logs_48 rfl ?_
  refine V.iadd (v := nI (rN S 50 0 + 1)) X dX6_logs_49 (nI_add _ _) ?_
  refine wM_pX6_144 (v := rN S 50 0 + 1) X dX6_logs_50 ?_
  exact V.vret X hE rfl (Nat.le_of_ble_eq_true rfl) (Nat.le_of_ble_eq_true rfl) (pU9 rfl) dX6_logs_53
set_option maxRecDepth 20000 in
set_option maxHeartbeats 4000000 in
theorem c_X6_isMet (l : Launch) (D : va_G) (cy : Nat → ClassId) (am : Nat → Nat) (S : St) (F : va_W) (a : Nat) (ha : a < 32) (hse : ∀ j, rN S 18 j < 6) : Ctr l D cy yX6_isMet (.code yX6_isMet cX6_isMet 3 (some FieldType.boolean)) ({ frames := 0, cells := 0, slots := 0, locals := 0 } : Room) [.ref (am 0), .int (nI a)] (wM am cy S ++ F) (pI (b2i (metS S a)) (wM am cy S ++ F)) pNo := by
  refine Ctr.of (by decide) (Nat.le_of_ble_eq_true rfl) ?_
  intro M X hE hN hB9 hI9
  replace X : VX l D M cy cX6_isMet "RunbookerModel" (some FieldType.boolean) ({ frames := 0, cells := 0, slots := 0, locals := 0 } : Room) := X
  show V l D M 0 0 (wM am cy S ++ F) [(0, .ref (am 0)), (1, .int (nI a))] 0 []
  refine V.aload_n X dX6_isMet_0 rfl ?_
  refine wM_gX6_13 X dX6_isMet_1 ?_
  refine V.aload_n X dX6_isMet_4 rfl ?_
  refine wM_gX6_34 X dX6_isMet_5 ?_
  refine V.iload_n X dX6_isMet_8 rfl ?_
  refine wM_ld9 (i := a) X (by omega) dX6_isMet_9 ?_
  refine wM_ld2 (i := rN S 18 a) X (hse _) dX6_isMet_10 ?_
  refine V.istore_n (L' := [(2, .int (rI S 6 (rN S 18 a))), (0, .ref (am 0)), (1, .int (nI a))]) X dX6_isMet_11 rfl hB9 (by decide) rfl ?_
  refine V.aload_n X dX6_isMet_12 rfl ?_
  refine wM_gX6_47 X dX6_isMet_13 ?_
  refine V.iload_n X dX6_isMet_16 rfl ?_
  refine wM_ld13 (i := a) X (by omega) dX6_isMet_17 ?_
  refine V.bipush (v := nI 60) X dX6_isMet_18 (by decide) ?_
  refine V.icmp_ne (tgt := 41) X dX6_isMet_20 (by decide) (cC_ne (a := rC S 19 a) (b := 60)) (cC_eq (a := rC S 19 a) (b := 60)) (fun (hz20 : ¬ rC S 19 a = 60) => ?_) (fun (hz20 : rC S 19 a = 60) => ?_)
  · refine V.aload_n X dX6_isMet_41 rfl ?_
    refine wM_gX6_47 X dX6_isMet_42 ?_
    refine V.iload_n X dX6_isMet_45 rfl ?_
    refine wM_ld13 (i := a) X (by omega) dX6_isMet_46 ?_
    refine V.bipush (v := nI 62) X dX6_isMet_47 (by decide) ?_
    refine V.icmp_ne (tgt := 70) X dX6_isMet_49 (by decide) (cC_ne (a := rC S 19 a) (b := 62)) (cC_eq (a := rC S 19 a) (b := 62)) (fun (hz49 : ¬ rC S 19 a = 62) => ?_) (fun (hz49 : rC S 19 a = 62) => ?_)
    · refine V.iload_n X dX6_isMet_70 rfl ?_
      refine V.aload_n X dX6_isMet_71 rfl ?_
      refine wM_gX6_37 X dX6_isMet_72 ?_
      refine V.iload_n X dX6_isMet_75 rfl ?_
      refine wM_ld10 (i := a) X (by omega) dX6_isMet_76 ?_
      refine V.icmp_ne (tgt := 84) X dX6_isMet_77 (by decide) id id (fun (hz77 : ¬ rI S 6 (rN S 18 a) = rI S 20 a) => ?_) (fun (hz77 : rI S 6 (rN S 18 a) = rI S 20 a) => ?_)
      · refine V.iconst (v := nI 0) X dX6_isMet_84 rfl ?_
        exact V.iret (v := b2i false) X hE rfl (nar_b _) (Nat.le_of_ble_eq_true rfl) (Nat.le_of_ble_eq_true rfl) (pB9 (by simp [metS, metB, hz20, hz49, hz77]) rfl) dX6_isMet_85
      · refine V.iconst (v := nI 1) X dX6_isMet_80 rfl ?_
        refine V.goto (tgt := 85) X dX6_isMet_81 (by decide) ?_
        exact V.iret (v := b2i true) X hE rfl (nar_b _) (Nat.le_of_ble_eq_true rfl) (Nat.le_of_ble_eq_true rfl) (pB9 (by simp [metS, metB, hz20, hz49, hz77]) rfl) dX6_isMet_85
    · refine V.iload_n X dX6_isMet_52 rfl ?_
      refine V.aload_n X dX6_isMet_53 rfl ?_
      refine wM_gX6_37 X dX6_isMet_54 ?_
      refine V.iload_n X dX6_isMet_57 rfl ?_
      refine wM_ld10 (i := a) X (by omega) dX6_isMet_58 ?_
      refine V.icmp_le (tgt := 66) X dX6_isMet_59 (by decide) id id (fun (hz59 : rI S 6 (rN S 18 a) ≤ rI S 20 a) => ?_) (fun (hz59 : ¬ rI S 6 (rN S 18 a) ≤ rI S 20 a) => ?_)
      · refine V.iconst (v := nI 0) X dX6_isMet_66 rfl ?_
        refine V.goto (tgt := 85) X dX6_isMet_67 (by decide) ?_
        exact V.iret (v := b2i false) X hE rfl (nar_b _) (Nat.le_of_ble_eq_true rfl) (Nat.le_of_ble_eq_true rfl) (pB9 (by simp [metS, metB, hz20, hz49, hz59, (i32_nlt.mpr hz59)]) rfl) dX6_isMet_85
      · refine V.iconst (v := nI 1) X dX6_isMet_62 rfl ?_
        refine V.goto (tgt := 85) X dX6_isMet_63 (by decide) ?_
        exact V.iret (v := b2i true) X hE rfl (nar_b _) (Nat.le_of_ble_eq_true rfl) (Nat.le_of_ble_eq_true rfl) (pB9 (by simp [metS, metB, hz20, hz49, hz59, (i32_nle.mp hz59)]) rfl) dX6_isMet_85
  · refine V.iload_n X dX6_isMet_23 rfl ?_
    refine V.aload_n X dX6_isMet_24 rfl ?_
    refine wM_gX6_37 X dX6_isMet_25 ?_
    refine V.iload_n X dX6_isMet_28 rfl ?_
    refine wM_ld10 (i := a) X (by omega) dX6_isMet_29 ?_
    refine V.icmp_ge (tgt := 37) X dX6_isMet_30 (by decide) id id (fun (hz30 : rI S 20 a ≤ rI S 6 (rN S 18 a)) => ?_) (fun (hz30 : ¬ rI S 20 a ≤ rI S 6 (rN S 18 a)) => ?_)
    · refine V.iconst (v := nI 0) X dX6_isMet_37 rfl ?_
      refine V.goto (tgt := 85) X dX6_isMet_38 (by decide) ?_
      exact V.iret (v := b2i false) X hE rfl (nar_b _) (Nat.le_of_ble_eq_true rfl) (Nat.le_of_ble_eq_true rfl) (pB9 (by simp [metS, metB, hz20, hz30, (i32_nlt.mpr hz30)]) rfl) dX6_isMet_85
    · refine V.iconst (v := nI 1) X dX6_isMet_33 rfl ?_
      refine V.goto (tgt := 85) X dX6_isMet_34 (by decide) ?_
      exact V.iret (v := b2i true) X hE rfl (nar_b _) (Nat.le_of_ble_eq_true rfl) (Nat.le_of_ble_eq_true rfl) (pB9 (by simp [metS, metB, hz20, hz30, (i32_nle.mp hz30)]) rfl) dX6_isMet_85
set_option maxRecDepth 20000 in
set_option maxHeartbeats 4000000 in
theorem c_X6_isGuarded (l : Launch) (D : va_G) (cy : Nat → ClassId) (am : Nat → Nat) (S : St) (F : va_W) (s : Nat) (hB : Bnd S) (hs : s < 16) (hc : rN S 17 s ≤ 2) (hse : ∀ j, rN S 18 j < 6) : Ctr l D cy yX6_isGuarded (.code yX6_isGuarded cX6_isGuarded 3 (some FieldType.boolean)) ({ frames := 1, cells := 0, slots := 0, locals := 40 } : Room) [.ref (am 0), .int (nI s)] (wM am cy S ++ F) (pI (b2i (guard9 S s)) (wM am cy S ++ F)) pNo := by
  refine Ctr.of (by decide) (Nat.le_of_ble_eq_true rfl) ?_
  intro M X hE hN hB9 hI9
  replace X : VX l D M cy cX6_isGuarded "RunbookerModel" (some FieldType.boolean) ({ frames := 1, cells := 0, slots := 0, locals := 40 } : Room) := X
  show V l D M 0 0 (wM am cy S ++ F) [(0, .ref (am 0)), (1, .int (nI s))] 0 []
  refine V.iconst (v := nI 0) X dX6_isGuarded_0 rfl ?_
  refine V.istore_n (L' := [(2, .int (nI 0)), (0, .ref (am 0)), (1, .int (nI s))]) X dX6_isGuarded_1 rfl hB9 (by decide) rfl ?_
  have loop2 : ∀ (d9 : Nat) (i : Nat), (rN S 17 s - i) < d9 → (i ≤ rN S 17 s) → (∀ j, j < i → metS S (s * 2 + j) = true) → V l D M 0 0 (wM am cy S ++ F) [(2, .int (nI i)), (0, .ref (am 0)), (1, .int (nI s))] 2 [] := by
    intro d9
    induction d9 with
    | zero => intro i h9; exact absurd h9 (Nat.not_lt_zero _)
    | succ d9 ih2 =>
      intro i hd9 hi hq
      refine V.iload_n X dX6_isGuarded_2 rfl ?_
      refine V.aload_n X dX6_isGuarded_3 rfl ?_
      refine wM_gX6_31 X dX6_isGuarded_4 ?_
      refine V.iload_n X dX6_isGuarded_7 rfl ?_
      refine wM_ld8 (i := s) X (by omega) dX6_isGuarded_8 ?_
      refine V.icmp_ge (tgt := 32) X dX6_isGuarded_9 (by decide) (cN_le (hB.n 17 _) (by omega)) (cN_nle (hB.n 17 _) (by omega)) (fun (hz9 : rN S 17 s ≤ i) => ?_) (fun (hz9 : i < rN S 17 s) => ?_)
      · refine V.iconst (v := nI 1) X dX6_isGuarded_32 rfl ?_
        exact V.iret (v := b2i true) X hE rfl (nar_b _) (Nat.le_of_ble_eq_true rfl) (Nat.le_of_ble_eq_true rfl) (pB9 (all9_hit (fun j hj => hq j (by omega))).symm rfl) dX6_isGuarded_33
      · refine V.aload_n X dX6_isGuarded_12 rfl ?_
        refine V.iconst (v := nI 2) X dX6_isGuarded_13 rfl ?_
        refine V.iload_n X dX6_isGuarded_14 rfl ?_
        refine V.imul (v := nI (2 * s)) X dX6_isGuarded_15 (pk_mul _ _) ?_
        refine V.iload_n X dX6_isGuarded_16 rfl ?_
        refine V.iadd (v := nI (2 * s + i)) X dX6_isGuarded_17 (nI_add _ _) ?_
        refine V.callV1 [.int (nI (2 * s + i))] X (c_X6_isMet l D cy am S F (2 * s + i) (show (2 * s + i) < 32 by omega) hse) mv_X6_isMet gw_6_213 ⟨⟨(Nat.le_of_ble_eq_true rfl), (Nat.le_of_ble_eq_true rfl)⟩, (Nat.le_of_ble_eq_true rfl), (Nat.le_of_ble_eq_true rfl)⟩ (q0 := 0) (ci := 8) rfl rfl rfl (Nat.le_of_ble_eq_true rfl) dX6_isGuarded_18 ?_
        refine V.if_ne (tgt := 26) X dX6_isGuarded_21 (by decide) b2i_n0 b2i_0 (fun (hz21 : metS S (2 * s + i) = true) => ?_) (fun (hz21 : metS S (2 * s + i) = false) => ?_)
        · refine V.iinc (v := nI (i + 1)) (L' := [(2, .int (nI (i + 1))), (0, .ref (am 0)), (1, .int (nI s))]) X dX6_isGuarded_26 rfl (nI_inc _) hB9 (by decide) rfl ?_
          refine V.goto (tgt := 2) X dX6_isGuarded_29 (by decide) ?_
          exact V.eqs rfl rfl (ih2 (i + 1) (by omega) (by omega) (lt_s hq (by rw [Nat.mul_comm]; exact hz21)))
        · refine V.iconst (v := nI 0) X dX6_isGuarded_24 rfl ?_
          exact V.iret (v := b2i false) X hE rfl (nar_b _) (Nat.le_of_ble_eq_true rfl) (Nat.le_of_ble_eq_true rfl) (pB9 (all9_miss (i := i) (by omega) (by rw [Nat.mul_comm]; exact hz21)).symm rfl) dX6_isGuarded_25
  exact V.eqs rfl rfl (loop2 _ 0 (Nat.lt_succ_self _) (Nat.zero_le _) (fun j hj => absurd hj (Nat.not_lt_zero _)))
set_option maxRecDepth 20000 in
set_option maxHeartbeats 4000000 in
theorem c_X6_isSettledNow (l : Launch) (D : va_G) (cy : Nat → ClassId) (am : Nat → Nat) (S : St) (F : va_W) (s : Nat) (hW : Wk S) (hs : s < rN S 44 0) : Ctr l D cy yX6_isSettledNow (.code yX6_isSettledNow cX6_isSettledNow 3 (some FieldType.boolean)) ({ frames := 0, cells := 0, slots := 0, locals := 0 } : Room) [.ref (am 0), .int (nI s)] (wM am cy S ++ F) (pI (b2i (setM S s)) (wM am cy S ++ F)) pNo := by
  refine Ctr.of (by decide) (Nat.le_of_ble_eq_true rfl) ?_
  intro M X hE hN hB9 hI9
  replace X : VX l D M cy cX6_isSettledNow "RunbookerModel" (some FieldType.boolean) ({ frames := 0, cells := 0, slots := 0, locals := 0 } : Room) := X
  show V l D M 0 0 (wM am cy S ++ F) [(0, .ref (am 0)), (1, .int (nI s))] 0 []
  have hB := hW.b
  have h43 := hW.n43
  have h44 := hW.n44
  have h46 := hW.n46
  have h45 := hW.n45
  have hcl := hW.cl
  have hen := hW.en
  refine V.iload_n X dX6_isSettledNow_0 rfl ?_
  refine V.istore_n (L' := [(2, .int (nI s)), (0, .ref (am 0)), (1, .int (nI s))]) X dX6_isSettledNow_1 rfl hB9 (by decide) rfl ?_
  have loop2 : ∀ (d9 : Nat) (i : Nat) (cur : Option Nat), (16 - i) < d9 → (i ≤ 16) → (∀ k, cur = some k → i ≤ k ∧ k < rN S 44 0) → (setM S s = stlF (rN S 44 0) (rC S 64) (rO S 16) (16 - i) cur) → V l D M 0 0 (wM am cy S ++ F) [(2, .int (o2i cur)), (0, .ref (am 0)), (1, .int (nI s))] 2 [] := by
    intro d9
    induction d9 with
    | zero => intro i cur h9; exact absurd h9 (Nat.not_lt_zero _)
    | succ d9 ih2 =>
      intro i cur hd9 hi hcb hq
      refine V.iload_n X dX6_isSettledNow_2 rfl ?_
      refine V.iconst (v := o2i none) X dX6_isSettledNow_3 rfl ?_
      refine V.icmp_eq (tgt := 28) X dX6_isSettledNow_4 (by decide) (cO_eq (a := cur) (b := none) (fun k e => by have := hcb k e; omega) lt_none) (cO_ne (a := cur) (b := none)) (fun (hz4 : cur = none) => ?_) (fun (hz4 : ¬ cur = none) => ?_)
      · refine V.iload_n X dX6_isSettledNow_28 rfl ?_
        refine V.iconst (v := o2i none) X dX6_isSettledNow_29 rfl ?_
        refine V.icmp_eq (tgt := 48) X dX6_isSettledNow_30 (by decide) (cO_eq (a := cur) (b := none) (fun k e => by have := hcb k e; omega) lt_none) (cO_ne (a := cur) (b := none)) (fun (hz30 : cur = none) => ?_) (fun (hz30 : ¬ cur = none) => ?_)
        · refine V.iconst (v := nI 0) X dX6_isSettledNow_48 rfl ?_
          exact V.iret (v := b2i false) X hE rfl (nar_b _) (Nat.le_of_ble_eq_true rfl) (Nat.le_of_ble_eq_true rfl) (pB9 (by rw [hq, hz4, stlF_n]) rfl) dX6_isSettledNow_49
        · exact absurd hz4 hz30
      · obtain ⟨c, rfl⟩ := Option.ne_none_iff_exists'.mp hz4
        obtain ⟨hc1, hc2⟩ := hcb c rfl
        refine V.aload_n X dX6_isSettledNow_7 rfl ?_
        refine wM_gX6_60 X dX6_isSettledNow_8 ?_
        refine V.iload_n X dX6_isSettledNow_11 rfl ?_
        refine wM_ld17 (i := c) X (by omega) dX6_isSettledNow_12 ?_
        refine V.bipush (v := nI 102) X dX6_isSettledNow_13 (by decide) ?_
        refine V.icmp_ne (tgt := 28) X dX6_isSettledNow_15 (by decide) (cC_ne (a := rC S 64 c) (b := 102)) (cC_eq (a := rC S 64 c) (b := 102)) (fun (hz15 : ¬ rC S 64 c = 102) => ?_) (fun (hz15 : rC S 64 c = 102) => ?_)
        · refine V.iload_n X dX6_isSettledNow_28 rfl ?_
          refine V.iconst (v := o2i none) X dX6_isSettledNow_29 rfl ?_
          refine V.icmp_eq (tgt := 48) X dX6_isSettledNow_30 (by decide) (cO_eq (a := some c) (b := none) (lt_some9 (by omega)) lt_none) (cO_ne (a := some c) (b := none)) (fun (hz30 : some c = none) => ?_) (fun (hz30 : ¬ some c = none) => ?_)
          · cases hz30
          · refine V.aload_n X dX6_isSettledNow_33 rfl ?_
            refine wM_gX6_60 X dX6_isSettledNow_34 ?_
            refine V.iload_n X dX6_isSettledNow_37 rfl ?_
            refine wM_ld17 (i := c) X (by omega) dX6_isSettledNow_38 ?_
            refine V.bipush (v := nI 100) X dX6_isSettledNow_39 (by decide) ?_
            refine V.icmp_ne (tgt := 48) X dX6_isSettledNow_41 (by decide) (cC_ne (a := rC S 64 c) (b := 100)) (cC_eq (a := rC S 64 c) (b := 100)) (fun (hz41 : ¬ rC S 64 c = 100) => ?_) (fun (hz41 : rC S 64 c = 100) => ?_)
            · refine V.iconst (v := nI 0) X dX6_isSettledNow_48 rfl ?_
              exact V.iret (v := b2i false) X hE rfl (nar_b _) (Nat.le_of_ble_eq_true rfl) (Nat.le_of_ble_eq_true rfl) (pB9 (by rw [hq, show 16 - i = (16 - (i + 1)) + 1 by omega, stlF_d hc2 hz15]; simp [hz41]) rfl) dX6_isSettledNow_49
            · refine V.iconst (v := nI 1) X dX6_isSettledNow_44 rfl ?_
              refine V.goto (tgt := 49) X dX6_isSettledNow_45 (by decide) ?_
              exact V.iret (v := b2i true) X hE rfl (nar_b _) (Nat.le_of_ble_eq_true rfl) (Nat.le_of_ble_eq_true rfl) (pB9 (by rw [hq, show 16 - i = (16 - (i + 1)) + 1 by omega, stlF_d hc2 hz15]; simp [hz41]) rfl) dX6_isSettledNow_49
        · refine V.aload_n X dX6_isSettledNow_18 rfl ?_
          refine wM_gX6_28 X dX6_isSettledNow_19 ?_
          refine V.iload_n X dX6_isSettledNow_22 rfl ?_
          refine wM_ld7 (i := c) X (by omega) dX6_isSettledNow_23 ?_
          refine V.istore_n (L' := [(2, .int (o2i (rO S 16 c))), (0, .ref (am 0)), (1, .int (nI s))]) X dX6_isSettledNow_24 rfl hB9 (by decide) rfl ?_
          refine V.goto (tgt := 2) X dX6_isSettledNow_25 (by decide) ?_
          exact V.eqs rfl rfl (ih2 (i + 1) (rO S 16 c) (by omega) (by omega) (fun k e => by have := hW.fb c k hc2 e; omega) (by rw [hq, show 16 - i = (16 - (i + 1)) + 1 by omega, stlF_f hc2 hz15]))
  exact V.eqs rfl rfl (loop2 _ 0 (some s) (Nat.lt_succ_self _) (Nat.zero_le _) (fun k e => by cases e; exact ⟨Nat.zero_le _, hs⟩) rfl)
set_option maxRecDepth 20000 in
set_option maxHeartbeats 4000000 in
theorem c_X6_areNeedsMet (l : Launch) (D : va_G) (cy : Nat → ClassId) (am : Nat → Nat) (S : St) (F : va_W) (s : Nat) (hW : Wk S) (hs : s < rN S 44 0) : Ctr l D cy yX6_areNeedsMet (.code yX6_areNeedsMet cX6_areNeedsMet 5 (some FieldType.boolean)) ({ frames := 1, cells := 0, slots := 0, locals := 60 } : Room) [.ref (am 0), .int (nI s)] (wM am cy S ++ F) (pI (b2i (metM S s)) (wM am cy S ++ F)) pNo := by
  refine Ctr.of (by decide) (Nat.le_of_ble_eq_true rfl) ?_
  intro M X hE hN hB9 hI9
  replace X : VX l D M cy cX6_areNeedsMet "RunbookerModel" (some FieldType.boolean) ({ frames := 1, cells := 0, slots := 0, locals := 60 } : Room) := X
  show V l D M 0 0 (wM am cy S ++ F) [(0, .ref (am 0)), (1, .int (nI s))] 0 []
  have hB := hW.b
  have h43 := hW.n43
  have h44 := hW.n44
  have h46 := hW.n46
  have h45 := hW.n45
  have hcl := hW.cl
  have hen := hW.en
  refine V.iconst (v := nI 0) X dX6_areNeedsMet_0 rfl ?_
  refine V.istore_n (L' := [(2, .int (nI 0)), (0, .ref (am 0)), (1, .int (nI s))]) X dX6_areNeedsMet_1 rfl hB9 (by decide) rfl ?_
  refine V.iconst (v := nI 0) X dX6_areNeedsMet_2 rfl ?_
  refine V.istore_n (L' := [(3, .int (nI 0)), (2, .int (nI 0)), (0, .ref (am 0)), (1, .int (nI s))]) X dX6_areNeedsMet_3 rfl hB9 (by decide) rfl ?_
  refine V.iconst (v := nI 0) X dX6_areNeedsMet_4 rfl ?_
  refine V.istore (L' := [(4, .int (nI 0)), (3, .int (nI 0)), (2, .int (nI 0)), (0, .ref (am 0)), (1, .int (nI s))]) X dX6_areNeedsMet_5 hB9 (by decide) rfl ?_
  have loop7 : ∀ (d9 : Nat) (i : Nat), (s - i) < d9 → (i ≤ s) → V l D M 0 0 (wM am cy S ++ F) [(4, .int (nI i)), (3, .int (nI (stM S s i))), (2, .int (nI (ndN S s i))), (0, .ref (am 0)), (1, .int (nI s))] 7 [] := by
    intro d9
    induction d9 with
    | zero => intro i h9; exact absurd h9 (Nat.not_lt_zero _)
    | succ d9 ih7 =>
      intro i hd9 hi
      refine V.iload X dX6_areNeedsMet_7 rfl ?_
      refine V.iload_n X dX6_areNeedsMet_9 rfl ?_
      refine V.icmp_ge (tgt := 56) X dX6_areNeedsMet_10 (by decide) (cN_le (by omega) (by omega)) (cN_nle (by omega) (by omega)) (fun (hz10 : s ≤ i) => ?_) (fun (hz10 : i < s) => ?_)
      · refine V.iload_n X dX6_areNeedsMet_56 rfl ?_
        refine V.if_eq (tgt := 83) X dX6_areNeedsMet_57 (by decide) (cN_eq (by have := cnt9_le (fun o => bit9 S s o) i; unfold ndN; omega) (by decide)) cN_ne (fun (hz57 : ndN S s i = 0) => ?_) (fun (hz57 : ¬ ndN S s i = 0) => ?_)
        · refine V.iconst (v := nI 1) X dX6_areNeedsMet_83 rfl ?_
          refine V.goto (tgt := 88) X dX6_areNeedsMet_84 (by decide) ?_
          exact V.iret (v := b2i true) X hE rfl (nar_b _) (Nat.le_of_ble_eq_true rfl) (Nat.le_of_ble_eq_true rfl) (pB9 (by have e9 : i = s := Nat.le_antisymm hi hz10; subst e9; simp [metM, hz57]) rfl) dX6_areNeedsMet_88
        · refine V.aload_n X dX6_areNeedsMet_60 rfl ?_
          refine wM_gX6_43 X dX6_areNeedsMet_61 ?_
          refine V.iload_n X dX6_areNeedsMet_64 rfl ?_
          refine wM_ld12 (i := s) X (by omega) dX6_areNeedsMet_65 ?_
          refine V.bipush (v := nI 97) X dX6_areNeedsMet_66 (by decide) ?_
          refine V.icmp_ne (tgt := 79) X dX6_areNeedsMet_68 (by decide) (cC_ne (a := rC S 13 s) (b := 97)) (cC_eq (a := rC S 13 s) (b := 97)) (fun (hz68 : ¬ rC S 13 s = 97) => ?_) (fun (hz68 : rC S 13 s = 97) => ?_)
          · refine V.iload_n X dX6_areNeedsMet_79 rfl ?_
            refine V.if_le (tgt := 87) X dX6_areNeedsMet_80 (by decide) (cN_le (by have := cnt9_le (fun o => bit9 S s o && setM S o) i; unfold stM; omega) (by decide)) (cN_nle (by have := cnt9_le (fun o => bit9 S s o && setM S o) i; unfold stM; omega) (by decide)) (fun (hz80 : stM S s i ≤ 0) => ?_) (fun (hz80 : 0 < stM S s i) => ?_)
            · refine V.iconst (v := nI 0) X dX6_areNeedsMet_87 rfl ?_
              exact V.iret (v := b2i false) X hE rfl (nar_b _) (Nat.le_of_ble_eq_true rfl) (Nat.le_of_ble_eq_true rfl) (pB9 (by have e9 : i = s := Nat.le_antisymm hi hz10; subst e9; simp [metM, hz57, hz68, hz80]) rfl) dX6_areNeedsMet_88
            · refine V.iconst (v := nI 1) X dX6_areNeedsMet_83 rfl ?_
              refine V.goto (tgt := 88) X dX6_areNeedsMet_84 (by decide) ?_
              exact V.iret (v := b2i true) X hE rfl (nar_b _) (Nat.le_of_ble_eq_true rfl) (Nat.le_of_ble_eq_true rfl) (pB9 (by have e9 : i = s := Nat.le_antisymm hi hz10; subst e9; simp [metM, hz57, hz68, hz80]) rfl) dX6_areNeedsMet_88
          · refine V.iload_n X dX6_areNeedsMet_71 rfl ?_
            refine V.iload_n X dX6_areNeedsMet_72 rfl ?_
            refine V.icmp_ne (tgt := 87) X dX6_areNeedsMet_73 (by decide) cN_ne (cN_eq (by have := cnt9_le (fun o => bit9 S s o && setM S o) i; unfold stM; omega) (by have := cnt9_le (fun o => bit9 S s o) i; unfold ndN; omega)) (fun (hz73 : ¬ stM S s i = ndN S s i) => ?_) (fun (hz73 : stM S s i = ndN S s i) => ?_)
            · refine V.iconst (v := nI 0) X dX6_areNeedsMet_87 rfl ?_
              exact V.iret (v := b2i false) X hE rfl (nar_b _) (Nat.le_of_ble_eq_true rfl) (Nat.le_of_ble_eq_true rfl) (pB9 (by have e9 : i = s := Nat.le_antisymm hi hz10; subst e9; simp [metM, hz57, hz68, hz73]) rfl) dX6_areNeedsMet_88
            · refine V.goto (tgt := 83) X dX6_areNeedsMet_76 (by decide) ?_
              refine V.iconst (v := nI 1) X dX6_areNeedsMet_83 rfl ?_
              refine V.goto (tgt := 88) X dX6_areNeedsMet_84 (by decide) ?_
              exact V.iret (v := b2i true) X hE rfl (nar_b _) (Nat.le_of_ble_eq_true rfl) (Nat.le_of_ble_eq_true rfl) (pB9 (by have e9 : i = s := Nat.le_antisymm hi hz10; subst e9; simp [metM, hz57, hz68, hz73]) rfl) dX6_areNeedsMet_88
      · refine V.aload_n X dX6_areNeedsMet_13 rfl ?_
        refine wM_gX6_25 X dX6_areNeedsMet_14 ?_
        refine V.iload_n X dX6_areNeedsMet_17 rfl ?_
        refine wM_ld6 (i := s) X (by omega) dX6_areNeedsMet_18 ?_
        refine V.iload X dX6_areNeedsMet_19 rfl ?_
        refine V.callS1 [.int (rI S 15 s), .int (nI i)] X (c_X6_has l D cy am S F (rI S 15 s) (nI i)) ms_X6_has gw_6_164 ⟨⟨(Nat.le_of_ble_eq_true rfl), (Nat.le_of_ble_eq_true rfl)⟩, (Nat.le_of_ble_eq_true rfl), (Nat.le_of_ble_eq_true rfl)⟩ rfl (Nat.le_of_ble_eq_true rfl) dX6_areNeedsMet_21 ?_
        refine V.if_ne (tgt := 30) X dX6_areNeedsMet_24 (by decide) b2i_n0 b2i_0 (fun (hz24 : hasBit (rI S 15 s) (nI i) = true) => ?_) (fun (hz24 : hasBit (rI S 15 s) (nI i) = false) => ?_)
        · refine V.iinc (v := nI (ndN S s i + 1)) (L' := [(2, .int (nI (ndN S s i + 1))), (4, .int (nI i)), (3, .int (nI (stM S s i))), (0, .ref (am 0)), (1, .int (nI s))]) X dX6_areNeedsMet_30 rfl (nI_inc _) hB9 (by decide) rfl ?_
          refine V.iload_n X dX6_areNeedsMet_33 rfl ?_
          refine V.aload_n X dX6_areNeedsMet_34 rfl ?_
          refine V.iload X dX6_areNeedsMet_35 rfl ?_
          refine V.callV1 [.int (nI i)] X (c_X6_isSettledNow l D cy am S F i hW (show i < (rN S 44 0) by omega)) mv_X6_isSettledNow gw_6_205 ⟨⟨(Nat.le_of_ble_eq_true rfl), (Nat.le_of_ble_eq_true rfl)⟩, (Nat.le_of_ble_eq_true rfl), (Nat.le_of_ble_eq_true rfl)⟩ (q0 := 0) (ci := 8) rfl rfl rfl (Nat.le_of_ble_eq_true rfl) dX6_areNeedsMet_37 ?_
          refine V.if_eq (tgt := 47) X dX6_areNeedsMet_40 (by decide) b2i_0 b2i_n0 (fun (hz40 : setM S i = false) => ?_) (fun (hz40 : setM S i = true) => ?_)
          · refine V.iconst (v := nI 0) X dX6_areNeedsMet_47 rfl ?_
            refine V.iadd (v := nI (stM S s i + 0)) X dX6_areNeedsMet_48 (nI_add _ _) ?_
            refine V.istore_n (L' := [(3, .int (nI (stM S s i + 0))), (2, .int (nI (ndN S s i + 1))), (4, .int (nI i)), (0, .ref (am 0)), (1, .int (nI s))]) X dX6_areNeedsMet_49 rfl hB9 (by decide) rfl ?_
            refine V.iinc (v := nI (i + 1)) (L' := [(4, .int (nI (i + 1))), (3, .int (nI (stM S s i + 0))), (2, .int (nI (ndN S s i + 1))), (0, .ref (am 0)), (1, .int (nI s))]) X dX6_areNeedsMet_50 rfl (nI_inc _) hB9 (by decide) rfl ?_
            refine V.goto (tgt := 7) X dX6_areNeedsMet_53 (by decide) ?_
            exact V.eqs rfl (by rw [show ndN S s (i + 1) = ndN S s i + 1 from cnt9_t hz24, show stM S s (i + 1) = stM S s i from cnt9_f (by simp [hz40])]; rfl) (ih7 (i + 1) (by omega) (by omega))
          · refine V.iconst (v := nI 1) X dX6_areNeedsMet_43 rfl ?_
            refine V.goto (tgt := 48) X dX6_areNeedsMet_44 (by decide) ?_
            refine V.iadd (v := nI (stM S s i + 1)) X dX6_areNeedsMet_48 (nI_add _ _) ?_
            refine V.istore_n (L' := [(3, .int (nI (stM S s i + 1))), (2, .int (nI (ndN S s i + 1))), (4, .int (nI i)), (0, .ref (am 0)), (1, .int (nI s))]) X dX6_areNeedsMet_49 rfl hB9 (by decide) rfl ?_
            refine V.iinc (v := nI (i + 1)) (L' := [(4, .int (nI (i + 1))), (3, .int (nI (stM S s i + 1))), (2, .int (nI (ndN S s i + 1))), (0, .ref (am 0)), (1, .int (nI s))]) X dX6_areNeedsMet_50 rfl (nI_inc _) hB9 (by decide) rfl ?_
            refine V.goto (tgt := 7) X dX6_areNeedsMet_53 (by decide) ?_
            exact V.eqs rfl (by rw [show ndN S s (i + 1) = ndN S s i + 1 from cnt9_t hz24, show stM S s (i + 1) = stM S s i + 1 from cnt9_t (by simp [show bit9 S s i = true from hz24, hz40])]) (ih7 (i + 1) (by omega) (by omega))
        · refine V.goto (tgt := 50) X dX6_areNeedsMet_27 (by decide) ?_
          refine V.iinc (v := nI (i + 1)) (L' := [(4, .int (nI (i + 1))), (3, .int (nI (stM S s i))), (2, .int (nI (ndN S s i))), (0, .ref (am 0)), (1, .int (nI s))]) X dX6_areNeedsMet_50 rfl (nI_inc _) hB9 (by decide) rfl ?_
          refine V.goto (tgt := 7) X dX6_areNeedsMet_53 (by decide) ?_
          exact V.eqs rfl (by rw [show ndN S s (i + 1) = ndN S s i from cnt9_f hz24, show stM S s (i + 1) = stM S s i from cnt9_f (by simp [show bit9 S s i = false from hz24])]) (ih7 (i + 1) (by omega) (by omega))
  exact V.eqs rfl rfl (loop7 _ 0 (Nat.lt_succ_self _) (Nat.zero_le _))
set_option maxRecDepth 20000 in
set_option maxHeartbeats 4000000 in
theorem c_X6_isReadyNow (l : Launch) (D : va_G) (cy : Nat → ClassId) (am : Nat → Nat) (S : St) (F : va_W) (s : Nat) (hW : Wk S) (hs : s < rN S 44 0) : Ctr l D cy yX6_isReadyNow (.code yX6_isReadyNow cX6_isReadyNow 2 (some FieldType.boolean)) ({ frames := 2, cells := 0, slots := 0, locals := 100 } : Room) [.ref (am 0), .int (nI s)] (wM am cy S ++ F) (pI (b2i (rdyM S s)) (wM am cy S ++ F)) pNo := by
  refine Ctr.of (by decide) (Nat.le_of_ble_eq_true rfl) ?_
  intro M X hE hN hB9 hI9
  replace X : VX l D M cy cX6_isReadyNow "RunbookerModel" (some FieldType.boolean) ({ frames := 2, cells := 0, slots := 0, locals := 100 } : Room) := X
  show V l D M 0 0 (wM am cy S ++ F) [(0, .ref (am 0)), (1, .int (nI s))] 0 []
  have hB := hW.b
  have h43 := hW.n43
  have h44 := hW.n44
  have h46 := hW.n46
  have h45 := hW.n45
  have hcl := hW.cl
  have hen := hW.en
  refine V.aload_n X dX6_isReadyNow_0 rfl ?_
  refine wM_gX6_124 X dX6_isReadyNow_1 ?_
  refine V.if_eq (tgt := 38) X dX6_isReadyNow_4 (by decide) b2i_0 b2i_n0 (fun (hz4 : rB S 41 0 = false) => ?_) (fun (hz4 : rB S 41 0 = true) => ?_)
  · refine V.iconst (v := nI 0) X dX6_isReadyNow_38 rfl ?_
    exact V.iret (v := b2i false) X hE rfl (nar_b _) (Nat.le_of_ble_eq_true rfl) (Nat.le_of_ble_eq_true rfl) (pB9 (by simp [rdyM, hz4]) rfl) dX6_isReadyNow_39
  · refine V.aload_n X dX6_isReadyNow_7 rfl ?_
    refine wM_gX6_60 X dX6_isReadyNow_8 ?_
    refine V.iload_n X dX6_isReadyNow_11 rfl ?_
    refine wM_ld17 (i := s) X (by omega) dX6_isReadyNow_12 ?_
    refine V.bipush (v := nI 119) X dX6_isReadyNow_13 (by decide) ?_
    refine V.icmp_ne (tgt := 38) X dX6_isReadyNow_15 (by decide) (cC_ne (a := rC S 64 s) (b := 119)) (cC_eq (a := rC S 64 s) (b := 119)) (fun (hz15 : ¬ rC S 64 s = 119) => ?_) (fun (hz15 : rC S 64 s = 119) => ?_)
    · refine V.iconst (v := nI 0) X dX6_isReadyNow_38 rfl ?_
      exact V.iret (v := b2i false) X hE rfl (nar_b _) (Nat.le_of_ble_eq_true rfl) (Nat.le_of_ble_eq_true rfl) (pB9 (by simp [rdyM, hz4, hz15]) rfl) dX6_isReadyNow_39
    · refine V.aload_n X dX6_isReadyNow_18 rfl ?_
      refine V.iload_n X dX6_isReadyNow_19 rfl ?_
      refine V.callV1 [.int (nI s)] X (c_X6_areNeedsMet l D cy am S F s hW (show s < (rN S 44 0) by omega)) mv_X6_areNeedsMet gw_6_201 ⟨⟨(Nat.le_of_ble_eq_true rfl), (Nat.le_of_ble_eq_true rfl)⟩, (Nat.le_of_ble_eq_true rfl), (Nat.le_of_ble_eq_true rfl)⟩ (q0 := 0) (ci := 8) rfl rfl rfl (Nat.le_of_ble_eq_true rfl) dX6_isReadyNow_20 ?_
      refine V.if_eq (tgt := 38) X dX6_isReadyNow_23 (by decide) b2i_0 b2i_n0 (fun (hz23 : metM S s = false) => ?_) (fun (hz23 : metM S s = true) => ?_)
      · refine V.iconst (v := nI 0) X dX6_isReadyNow_38 rfl ?_
        exact V.iret (v := b2i false) X hE rfl (nar_b _) (Nat.le_of_ble_eq_true rfl) (Nat.le_of_ble_eq_true rfl) (pB9 (by simp [rdyM, hz4, hz15, hz23]) rfl) dX6_isReadyNow_39
      · refine V.aload_n X dX6_isReadyNow_26 rfl ?_
        refine V.iload_n X dX6_isReadyNow_27 rfl ?_
        refine V.callV1 [.int (nI s)] X (c_X6_isGuarded l D cy am S F s hB (show s < 16 by omega) (hW.cc _) (hW.sen)) mv_X6_isGuarded gw_6_209 ⟨⟨(Nat.le_of_ble_eq_true rfl), (Nat.le_of_ble_eq_true rfl)⟩, (Nat.le_of_ble_eq_true rfl), (Nat.le_of_ble_eq_true rfl)⟩ (q0 := 0) (ci := 8) rfl rfl rfl (Nat.le_of_ble_eq_true rfl) dX6_isReadyNow_28 ?_
        refine V.if_eq (tgt := 38) X dX6_isReadyNow_31 (by decide) b2i_0 b2i_n0 (fun (hz31 : guard9 S s = false) => ?_) (fun (hz31 : guard9 S s = true) => ?_)
        · refine V.iconst (v := nI 0) X dX6_isReadyNow_38 rfl ?_
          exact V.iret (v := b2i false) X hE rfl (nar_b _) (Nat.le_of_ble_eq_true rfl) (Nat.le_of_ble_eq_true rfl) (pB9 (by simp [rdyM, hz4, hz15, hz23, hz31]) rfl) dX6_isReadyNow_39
        · refine V.iconst (v := nI 1) X dX6_isReadyNow_34 rfl ?_
          refine V.goto (tgt := 39) X dX6_isReadyNow_35 (by decide) ?_
          exact V.iret (v := b2i true) X hE rfl (nar_b _) (Nat.le_of_ble_eq_true rfl) (Nat.le_of_ble_eq_true rfl) (pB9 (by simp [rdyM, hz4, hz15, hz23, hz31]) rfl) dX6_isReadyNow_39
set_option maxRecDepth 20000 in
set_option maxHeartbeats 4000000 in
theorem c_X6_readyMany (l : Launch) (D : va_G) (cy : Nat → ClassId) (am : Nat → Nat) (S : St) (F : va_W) (hW : Wk S) : Ctr l D cy yX6_readyMany (.code yX6_readyMany cX6_readyMany 3 (some FieldType.int)) ({ frames := 3, cells := 0, slots := 0, locals := 140 } : Room) [.ref (am 0)] (wM am cy S ++ F) (pI (nI (cntM S)) (wM am cy S ++ F)) pNo := by
  refine Ctr.of (by decide) (Nat.le_of_ble_eq_true rfl) ?_
  intro M X hE hN hB9 hI9
  replace X : VX l D M cy cX6_readyMany "RunbookerModel" (some FieldType.int) ({ frames := 3, cells := 0, slots := 0, locals := 140 } : Room) := X
  show V l D M 0 0 (wM am cy S ++ F) [(0, .ref (am 0))] 0 []
  have hB := hW.b
  have h43 := hW.n43
  have h44 := hW.n44
  have h46 := hW.n46
  have h45 := hW.n45
  have hcl := hW.cl
  have hen := hW.en
  refine V.iconst (v := nI 0) X dX6_readyMany_0 rfl ?_
  refine V.istore_n (L' := [(1, .int (nI 0)), (0, .ref (am 0))]) X dX6_readyMany_1 rfl hB9 (by decide) rfl ?_
  refine V.iconst (v := nI 0) X dX6_readyMany_2 rfl ?_
  refine V.istore_n (L' := [(2, .int (nI 0)), (1, .int (nI 0)), (0, .ref (am 0))]) X dX6_readyMany_3 rfl hB9 (by decide) rfl ?_
  have loop4 : ∀ (d9 : Nat) (i : Nat), (rN S 44 0 - i) < d9 → (i ≤ rN S 44 0) → V l D M 0 0 (wM am cy S ++ F) [(2, .int (nI i)), (1, .int (nI (cnt9 (rdyM S) i))), (0, .ref (am 0))] 4 [] := by
    intro d9
    induction d9 with
    | zero => intro i h9; exact absurd h9 (Nat.not_lt_zero _)
    | succ d9 ih4 =>
      intro i hd9 hi
      refine V.iload_n X dX6_readyMany_4 rfl ?_
      refine V.aload_n X dX6_readyMany_5 rfl ?_
      refine wM_gX6_107 X dX6_readyMany_6 ?_
      refine V.icmp_ge (tgt := 34) X dX6_readyMany_9 (by decide) (cN_le (hB.n 44 _) (by omega)) (cN_nle (hB.n 44 _) (by omega)) (fun (hz9 : rN S 44 0 ≤ i) => ?_) (fun (hz9 : i < rN S 44 0) => ?_)
      · refine V.iload_n X dX6_readyMany_34 rfl ?_
        exact V.iret (v := nI (cnt9 (rdyM S) i)) X hE rfl rfl (Nat.le_of_ble_eq_true rfl) (Nat.le_of_ble_eq_true rfl) (pN9 (by rw [show i = rN S 44 0 from Nat.le_antisymm hi hz9]; rfl) rfl) dX6_readyMany_35
      · refine V.iload_n X dX6_readyMany_12 rfl ?_
        refine V.aload_n X dX6_readyMany_13 rfl ?_
        refine V.iload_n X dX6_readyMany_14 rfl ?_
        refine V.callV1 [.int (nI i)] X (c_X6_isReadyNow l D cy am S F i hW (show i < (rN S 44 0) by omega)) mv_X6_isReadyNow gw_6_197 ⟨⟨(Nat.le_of_ble_eq_true rfl), (Nat.le_of_ble_eq_true rfl)⟩, (Nat.le_of_ble_eq_true rfl), (Nat.le_of_ble_eq_true rfl)⟩ (q0 := 0) (ci := 8) rfl rfl rfl (Nat.le_of_ble_eq_true rfl) dX6_readyMany_15 ?_
        refine V.if_eq (tgt := 25) X dX6_readyMany_18 (by decide) b2i_0 b2i_n0 (fun (hz18 : rdyM S i = false) => ?_) (fun (hz18 : rdyM S i = true) => ?_)
        · refine V.iconst (v := nI 0) X dX6_readyMany_25 rfl ?_
          refine V.iadd (v := nI (cnt9 (rdyM S) i + 0)) X dX6_readyMany_26 (nI_add _ _) ?_
          refine V.istore_n (L' := [(1, .int (nI (cnt9 (rdyM S) i + 0))), (2, .int (nI i)), (0, .ref (am 0))]) X dX6_readyMany_27 rfl hB9 (by decide) rfl ?_
          refine V.iinc (v := nI (i + 1)) (L' := [(2, .int (nI (i + 1))), (1, .int (nI (cnt9 (rdyM S) i + 0))), (0, .ref (am 0))]) X dX6_readyMany_28 rfl (nI_inc _) hB9 (by decide) rfl ?_
          refine V.goto (tgt := 4) X dX6_readyMany_31 (by decide) ?_
          exact V.eqs rfl (by rw [cnt9_f hz18]; rfl) (ih4 (i + 1) (by omega) (by omega))
        · refine V.iconst (v := nI 1) X dX6_readyMany_21 rfl ?_
          refine V.goto (tgt := 26) X dX6_readyMany_22 (by decide) ?_
          refine V.iadd (v := nI (cnt9 (rdyM S) i + 1)) X dX6_readyMany_26 (nI_add _ _) ?_
          refine V.istore_n (L' := [(1, .int (nI (cnt9 (rdyM S) i + 1))), (2, .int (nI i)), (0, .ref (am 0))]) X dX6_readyMany_27 rfl hB9 (by decide) rfl ?_
          refine V.iinc (v := nI (i + 1)) (L' := [(2, .int (nI (i + 1))), (1, .int (nI (cnt9 (rdyM S) i + 1))), (0, .ref (am 0))]) X dX6_readyMany_28 rfl (nI_inc _) hB9 (by decide) rfl ?_
          refine V.goto (tgt := 4) X dX6_readyMany_31 (by decide) ?_
          exact V.eqs rfl (by rw [cnt9_t hz18]) (ih4 (i + 1) (by omega) (by omega))
  exact V.eqs rfl rfl (loop4 _ 0 (Nat.lt_succ_self _) (Nat.zero_le _))
set_option maxRecDepth 20000 in
set_option maxHeartbeats 4000000 in
theorem c_X6_many (l : Launch) (D : va_G) (cy : Nat → ClassId) (am : Nat → Nat) (S : St) (F : va_W) (c : UInt16) (hB : Bnd S) (hn : rN S 44 0 ≤ 16) : Ctr l D cy yX6_many (.code yX6_many cX6_many 4 (some FieldType.int)) ({ frames := 0, cells := 0, slots := 0, locals := 0 } : Room) [.ref (am 0), .int (c2i c)] (wM am cy S ++ F) (pI (nI (manyM S c)) (wM am cy S ++ F)) pNo := by
  refine Ctr.of (by decide) (Nat.le_of_ble_eq_true rfl) ?_
  intro M X hE hN hB9 hI9
  replace X : VX l D M cy cX6_many "RunbookerModel" (some FieldType.int) ({ frames := 0, cells := 0, slots := 0, locals := 0 } : Room) := X
  show V l D M 0 0 (wM am cy S ++ F) [(0, .ref (am 0)), (1, .int (c2i c))] 0 []
  refine V.iconst (v := nI 0) X dX6_many_0 rfl ?_
  refine V.istore_n (L' := [(2, .int (nI 0)), (0, .ref (am 0)), (1, .int (c2i c))]) X dX6_many_1 rfl hB9 (by decide) rfl ?_
  refine V.iconst (v := nI 0) X dX6_many_2 rfl ?_
  refine V.istore_n (L' := [(3, .int (nI 0)), (2, .int (nI 0)), (0, .ref (am 0)), (1, .int (c2i c))]) X dX6_many_3 rfl hB9 (by decide) rfl ?_
  have loop4 : ∀ (d9 : Nat) (i : Nat), (rN S 44 0 - i) < d9 → (i ≤ rN S 44 0) → V l D M 0 0 (wM am cy S ++ F) [(3, .int (nI i)), (2, .int (nI (cnt9 (fun s => decide (rC S 64 s = c)) i))), (0, .ref (am 0)), (1, .int (c2i c))] 4 [] := by
    intro d9
    induction d9 with
    | zero => intro i h9; exact absurd h9 (Nat.not_lt_zero _)
    | succ d9 ih4 =>
      intro i hd9 hi
      refine V.iload_n X dX6_many_4 rfl ?_
      refine V.aload_n X dX6_many_5 rfl ?_
      refine wM_gX6_107 X dX6_many_6 ?_
      refine V.icmp_ge (tgt := 36) X dX6_many_9 (by decide) (cN_le (hB.n 44 _) (by omega)) (cN_nle (hB.n 44 _) (by omega)) (fun (hz9 : rN S 44 0 ≤ i) => ?_) (fun (hz9 : i < rN S 44 0) => ?_)
      · refine V.iload_n X dX6_many_36 rfl ?_
        exact V.iret (v := nI (cnt9 (fun s => decide (rC S 64 s = c)) i)) X hE rfl rfl (Nat.le_of_ble_eq_true rfl) (Nat.le_of_ble_eq_true rfl) (pN9 (by rw [show i = rN S 44 0 from Nat.le_antisymm hi hz9]; rfl) rfl) dX6_many_37
      · refine V.iload_n X dX6_many_12 rfl ?_
        refine V.aload_n X dX6_many_13 rfl ?_
        refine wM_gX6_60 X dX6_many_14 ?_
        refine V.iload_n X dX6_many_17 rfl ?_
        refine wM_ld17 (i := i) X (by omega) dX6_many_18 ?_
        refine V.iload_n X dX6_many_19 rfl ?_
        refine V.icmp_ne (tgt := 27) X dX6_many_20 (by decide) (cC_ne (a := rC S 64 i) (b := c)) (cC_eq (a := rC S 64 i) (b := c)) (fun (hz20 : ¬ rC S 64 i = c) => ?_) (fun (hz20 : rC S 64 i = c) => ?_)
        · refine V.iconst (v := nI 0) X dX6_many_27 rfl ?_
          refine V.iadd (v := nI (cnt9 (fun s => decide (rC S 64 s = c)) i + 0)) X dX6_many_28 (nI_add _ _) ?_
          refine V.istore_n (L' := [(2, .int (nI (cnt9 (fun s => decide (rC S 64 s = c)) i + 0))), (3, .int (nI i)), (0, .ref (am 0)), (1, .int (c2i c))]) X dX6_many_29 rfl hB9 (by decide) rfl ?_
          refine V.iinc (v := nI (i + 1)) (L' := [(3, .int (nI (i + 1))), (2, .int (nI (cnt9 (fun s => decide (rC S 64 s = c)) i + 0))), (0, .ref (am 0)), (1, .int (c2i c))]) X dX6_many_30 rfl (nI_inc _) hB9 (by decide) rfl ?_
          refine V.goto (tgt := 4) X dX6_many_33 (by decide) ?_
          exact V.eqs rfl (by rw [cnt9_f (p := fun s => decide (rC S 64 s = c)) (by simp [hz20])]; rfl) (ih4 (i + 1) (by omega) (by omega))
        · refine V.iconst (v := nI 1) X dX6_many_23 rfl ?_
          refine V.goto (tgt := 28) X dX6_many_24 (by decide) ?_
          refine V.iadd (v := nI (cnt9 (fun s => decide (rC S 64 s = c)) i + 1)) X dX6_many_28 (nI_add _ _) ?_
          refine V.istore_n (L' := [(2, .int (nI (cnt9 (fun s => decide (rC S 64 s = c)) i + 1))), (3, .int (nI i)), (0, .ref (am 0)), (1, .int (c2i c))]) X dX6_many_29 rfl hB9 (by decide) rfl ?_
          refine V.iinc (v := nI (i + 1)) (L' := [(3, .int (nI (i + 1))), (2, .int (nI (cnt9 (fun s => decide (rC S 64 s = c)) i + 1))), (0, .ref (am 0)), (1, .int (c2i c))]) X dX6_many_30 rfl (nI_inc _) hB9 (by decide) rfl ?_
          refine V.goto (tgt := 4) X dX6_many_33 (by decide) ?_
          exact V.eqs rfl (by rw [cnt9_t (p := fun s => decide (rC S 64 s = c)) (by simp [hz20])]) (ih4 (i + 1) (by omega) (by omega))
  exact V.eqs rfl rfl (loop4 _ 0 (Nat.lt_succ_self _) (Nat.zero_le _))
set_option maxRecDepth 20000 in
set_option maxHeartbeats 4000000 in
theorem c_X6_isPausedNow (l : Launch) (D : va_G) (cy : Nat → ClassId) (am : Nat → Nat) (S : St) (F : va_W) (r : Int32) (hW : Wk S) : Ctr l D cy yX6_isPausedNow (.code yX6_isPausedNow cX6_isPausedNow 2 (some FieldType.boolean)) ({ frames := 1, cells := 0, slots := 0, locals := 40 } : Room) [.ref (am 0), .int r] (wM am cy S ++ F) (pI (b2i (paus9 S r)) (wM am cy S ++ F)) pNo := by
  refine Ctr.of (by decide) (Nat.le_of_ble_eq_true rfl) ?_
  intro M X hE hN hB9 hI9
  replace X : VX l D M cy cX6_isPausedNow "RunbookerModel" (some FieldType.boolean) ({ frames := 1, cells := 0, slots := 0, locals := 40 } : Room) := X
  show V l D M 0 0 (wM am cy S ++ F) [(0, .ref (am 0)), (1, .int r)] 0 []
  have hB := hW.b
  have h43 := hW.n43
  have h44 := hW.n44
  have h46 := hW.n46
  have h45 := hW.n45
  have hcl := hW.cl
  have hen := hW.en
  refine V.aload_n X dX6_isPausedNow_0 rfl ?_
  refine wM_gX6_75 X dX6_isPausedNow_1 ?_
  refine V.iconst (v := o2i none) X dX6_isPausedNow_4 rfl ?_
  refine V.icmp_eq (tgt := 28) X dX6_isPausedNow_5 (by decide) (cO_eq (a := rO S 47 0) (b := none) (hB.o 47 _) lt_none) (cO_ne (a := rO S 47 0) (b := none)) (fun (hz5 : rO S 47 0 = none) => ?_) (fun (hz5 : ¬ rO S 47 0 = none) => ?_)
  · refine V.iconst (v := nI 0) X dX6_isPausedNow_28 rfl ?_
    exact V.iret (v := b2i false) X hE rfl (nar_b _) (Nat.le_of_ble_eq_true rfl) (Nat.le_of_ble_eq_true rfl) (pB9 (by rw [paus9_n hz5]) rfl) dX6_isPausedNow_29
  · obtain ⟨p9, e9⟩ := Option.ne_none_iff_exists'.mp hz5
    have hp9 := hW.fr p9 e9
    refine V.aload_n X dX6_isPausedNow_8 rfl ?_
    refine wM_gX6_9 X dX6_isPausedNow_9 ?_
    refine V.aload_n X dX6_isPausedNow_12 rfl ?_
    refine wM_gX6_75 X dX6_isPausedNow_13 ?_
    refine V.top (congrArg o2i e9) ?_
    refine wM_ld1 (i := p9) X (by omega) dX6_isPausedNow_16 ?_
    refine V.iload_n X dX6_isPausedNow_17 rfl ?_
    refine V.callS1 [.int (rI S 7 p9), .int r] X (c_X6_has l D cy am S F (rI S 7 p9) r) ms_X6_has gw_6_164 ⟨⟨(Nat.le_of_ble_eq_true rfl), (Nat.le_of_ble_eq_true rfl)⟩, (Nat.le_of_ble_eq_true rfl), (Nat.le_of_ble_eq_true rfl)⟩ rfl (Nat.le_of_ble_eq_true rfl) dX6_isPausedNow_18 ?_
    refine V.if_eq (tgt := 28) X dX6_isPausedNow_21 (by decide) b2i_0 b2i_n0 (fun (hz21 : hasBit (rI S 7 p9) r = false) => ?_) (fun (hz21 : hasBit (rI S 7 p9) r = true) => ?_)
    · refine V.iconst (v := nI 0) X dX6_isPausedNow_28 rfl ?_
      exact V.iret (v := b2i false) X hE rfl (nar_b _) (Nat.le_of_ble_eq_true rfl) (Nat.le_of_ble_eq_true rfl) (pB9 (by rw [paus9_s e9, hz21]) rfl) dX6_isPausedNow_29
    · refine V.iconst (v := nI 1) X dX6_isPausedNow_24 rfl ?_
      refine V.goto (tgt := 29) X dX6_isPausedNow_25 (by decide) ?_
      exact V.iret (v := b2i true) X hE rfl (nar_b _) (Nat.le_of_ble_eq_true rfl) (Nat.le_of_ble_eq_true rfl) (pB9 (by rw [paus9_s e9, hz21]) rfl) dX6_isPausedNow_29
set_option maxRecDepth 20000 in
set_option maxHeartbeats 4000000 in
theorem c_X6_isFree (l : Launch) (D : va_G) (cy : Nat → ClassId) (am : Nat → Nat) (S : St) (F : va_W) (p : Nat) (hW : Wk S) (hp : p < rN S 43 0) : Ctr l D cy yX6_isFree (.code yX6_isFree cX6_isFree 2 (some FieldType.boolean)) ({ frames := 1, cells := 0, slots := 0, locals := 40 } : Room) [.ref (am 0), .int (nI p)] (wM am cy S ++ F) (pI (b2i (freeM S p)) (wM am cy S ++ F)) pNo := by
  refine Ctr.of (by decide) (Nat.le_of_ble_eq_true rfl) ?_
  intro M X hE hN hB9 hI9
  replace X : VX l D M cy cX6_isFree "RunbookerModel" (some FieldType.boolean) ({ frames := 1, cells := 0, slots := 0, locals := 40 } : Room) := X
  show V l D M 0 0 (wM am cy S ++ F) [(0, .ref (am 0)), (1, .int (nI p))] 0 []
  have hB := hW.b
  have h43 := hW.n43
  have h44 := hW.n44
  have h46 := hW.n46
  have h45 := hW.n45
  have hcl := hW.cl
  have hen := hW.en
  refine V.aload_n X dX6_isFree_0 rfl ?_
  refine wM_gX6_50 X dX6_isFree_1 ?_
  refine V.iload_n X dX6_isFree_4 rfl ?_
  refine wM_ld14 (i := p) X (by omega) dX6_isFree_5 ?_
  refine V.if_eq (tgt := 30) X dX6_isFree_6 (by decide) b2i_0 b2i_n0 (fun (hz6 : rB S 8 p = false) => ?_) (fun (hz6 : rB S 8 p = true) => ?_)
  · refine V.iconst (v := nI 0) X dX6_isFree_30 rfl ?_
    exact V.iret (v := b2i false) X hE rfl (nar_b _) (Nat.le_of_ble_eq_true rfl) (Nat.le_of_ble_eq_true rfl) (pB9 (by simp [freeM, hz6]) rfl) dX6_isFree_31
  · refine V.aload_n X dX6_isFree_9 rfl ?_
    refine V.iload_n X dX6_isFree_10 rfl ?_
    refine V.callV1 [.int (o2i (some p))] X (c_X6_work l D cy am S F (some p) hB (show (rN S 44 0) ≤ 16 by omega) (lt_some9 (by omega))) mv_X6_work gw_6_148 ⟨⟨(Nat.le_of_ble_eq_true rfl), (Nat.le_of_ble_eq_true rfl)⟩, (Nat.le_of_ble_eq_true rfl), (Nat.le_of_ble_eq_true rfl)⟩ (q0 := 0) (ci := 8) rfl rfl rfl (Nat.le_of_ble_eq_true rfl) dX6_isFree_11 ?_
    refine V.iconst (v := o2i none) X dX6_isFree_14 rfl ?_
    refine V.icmp_ne (tgt := 30) X dX6_isFree_15 (by decide) (cO_ne (a := wkM S (some p)) (b := none)) (cO_eq (a := wkM S (some p)) (b := none) (fun k e => Nat.lt_of_lt_of_le (Nat.lt_of_lt_of_le (wkM_lt e).1 h44) (by decide)) lt_none) (fun (hz15 : ¬ wkM S (some p) = none) => ?_) (fun (hz15 : wkM S (some p) = none) => ?_)
    · refine V.iconst (v := nI 0) X dX6_isFree_30 rfl ?_
      exact V.iret (v := b2i false) X hE rfl (nar_b _) (Nat.le_of_ble_eq_true rfl) (Nat.le_of_ble_eq_true rfl) (pB9 (by simp [freeM, hz6, hz15]) rfl) dX6_isFree_31
    · refine V.iload_n X dX6_isFree_18 rfl ?_
      refine V.aload_n X dX6_isFree_19 rfl ?_
      refine wM_gX6_75 X dX6_isFree_20 ?_
      refine V.icmp_eq (tgt := 30) X dX6_isFree_23 (by decide) (cO_eq (a := some p) (b := rO S 47 0) (lt_some9 (by omega)) (hB.o 47 _)) (cO_ne (a := some p) (b := rO S 47 0)) (fun (hz23 : some p = rO S 47 0) => ?_) (fun (hz23 : ¬ some p = rO S 47 0) => ?_)
      · refine V.iconst (v := nI 0) X dX6_isFree_30 rfl ?_
        exact V.iret (v := b2i false) X hE rfl (nar_b _) (Nat.le_of_ble_eq_true rfl) (Nat.le_of_ble_eq_true rfl) (pB9 (by simp [freeM, hz6, hz15, hz23]) rfl) dX6_isFree_31
      · refine V.iconst (v := nI 1) X dX6_isFree_26 rfl ?_
        refine V.goto (tgt := 31) X dX6_isFree_27 (by decide) ?_
        exact V.iret (v := b2i true) X hE rfl (nar_b _) (Nat.le_of_ble_eq_true rfl) (Nat.le_of_ble_eq_true rfl) (pB9 (by simp [freeM, hz6, hz15, hz23]) rfl) dX6_isFree_31
set_option maxRecDepth 20000 in
set_option maxHeartbeats 4000000 in
theorem c_X6_isManned (l : Launch) (D : va_G) (cy : Nat → ClassId) (am : Nat → Nat) (S : St) (F : va_W) (r : Int32) (hW : Wk S) : Ctr l D cy yX6_isManned (.code yX6_isManned cX6_isManned 3 (some FieldType.boolean)) ({ frames := 2, cells := 0, slots := 0, locals := 80 } : Room) [.ref (am 0), .int r] (wM am cy S ++ F) (pI (b2i (manM S r)) (wM am cy S ++ F)) pNo := by
  refine Ctr.of (by decide) (Nat.le_of_ble_eq_true rfl) ?_
  intro M X hE hN hB9 hI9
  replace X : VX l D M cy cX6_isManned "RunbookerModel" (some FieldType.boolean) ({ frames := 2, cells := 0, slots := 0, locals := 80 } : Room) := X
  show V l D M 0 0 (wM am cy S ++ F) [(0, .ref (am 0)), (1, .int r)] 0 []
  have hB := hW.b
  have h43 := hW.n43
  have h44 := hW.n44
  have h46 := hW.n46
  have h45 := hW.n45
  have hcl := hW.cl
  have hen := hW.en
  refine V.iconst (v := nI 0) X dX6_isManned_0 rfl ?_
  refine V.istore_n (L' := [(2, .int (nI 0)), (0, .ref (am 0)), (1, .int r)]) X dX6_isManned_1 rfl hB9 (by decide) rfl ?_
  have loop2 : ∀ (d9 : Nat) (i : Nat), (rN S 43 0 - i) < d9 → (i ≤ rN S 43 0) → (∀ j, j < i → (freeM S j && hasBit (rI S 7 j) r) = false) → V l D M 0 0 (wM am cy S ++ F) [(2, .int (nI i)), (0, .ref (am 0)), (1, .int r)] 2 [] := by
    intro d9
    induction d9 with
    | zero => intro i h9; exact absurd h9 (Nat.not_lt_zero _)
    | succ d9 ih2 =>
      intro i hd9 hi hq
      refine V.iload_n X dX6_isManned_2 rfl ?_
      refine V.aload_n X dX6_isManned_3 rfl ?_
      refine wM_gX6_100 X dX6_isManned_4 ?_
      refine V.icmp_ge (tgt := 39) X dX6_isManned_7 (by decide) (cN_le (hB.n 43 _) (by omega)) (cN_nle (hB.n 43 _) (by omega)) (fun (hz7 : rN S 43 0 ≤ i) => ?_) (fun (hz7 : i < rN S 43 0) => ?_)
      · refine V.iconst (v := nI 0) X dX6_isManned_39 rfl ?_
        exact V.iret (v := b2i false) X hE rfl (nar_b _) (Nat.le_of_ble_eq_true rfl) (Nat.le_of_ble_eq_true rfl) (pB9 (any9_miss (fun j hj => hq j (by omega))).symm rfl) dX6_isManned_40
      · refine V.aload_n X dX6_isManned_10 rfl ?_
        refine V.iload_n X dX6_isManned_11 rfl ?_
        refine V.callV1 [.int (nI i)] X (c_X6_isFree l D cy am S F i hW (show i < (rN S 43 0) by omega)) mv_X6_isFree gw_6_229 ⟨⟨(Nat.le_of_ble_eq_true rfl), (Nat.le_of_ble_eq_true rfl)⟩, (Nat.le_of_ble_eq_true rfl), (Nat.le_of_ble_eq_true rfl)⟩ (q0 := 0) (ci := 8) rfl rfl rfl (Nat.le_of_ble_eq_true rfl) dX6_isManned_12 ?_
        refine V.if_eq (tgt := 33) X dX6_isManned_15 (by decide) b2i_0 b2i_n0 (fun (hz15 : freeM S i = false) => ?_) (fun (hz15 : freeM S i = true) => ?_)
        · refine V.iinc (v := nI (i + 1)) (L' := [(2, .int (nI (i + 1))), (0, .ref (am 0)), (1, .int r)]) X dX6_isManned_33 rfl (nI_inc _) hB9 (by decide) rfl ?_
          refine V.goto (tgt := 2) X dX6_isManned_36 (by decide) ?_
          exact V.eqs rfl rfl (ih2 (i + 1) (by omega) (by omega) (lt_s hq (by simp [hz15])))
        · refine V.aload_n X dX6_isManned_18 rfl ?_
          refine wM_gX6_9 X dX6_isManned_19 ?_
          refine V.iload_n X dX6_isManned_22 rfl ?_
          refine wM_ld1 (i := i) X (by omega) dX6_isManned_23 ?_
          refine V.iload_n X dX6_isManned_24 rfl ?_
          refine V.callS1 [.int (rI S 7 i), .int r] X (c_X6_has l D cy am S F (rI S 7 i) r) ms_X6_has gw_6_164 ⟨⟨(Nat.le_of_ble_eq_true rfl), (Nat.le_of_ble_eq_true rfl)⟩, (Nat.le_of_ble_eq_true rfl), (Nat.le_of_ble_eq_true rfl)⟩ rfl (Nat.le_of_ble_eq_true rfl) dX6_isManned_25 ?_
          refine V.if_eq (tgt := 33) X dX6_isManned_28 (by decide) b2i_0 b2i_n0 (fun (hz28 : hasBit (rI S 7 i) r = false) => ?_) (fun (hz28 : hasBit (rI S 7 i) r = true) => ?_)
          · refine V.iinc (v := nI (i + 1)) (L' := [(2, .int (nI (i + 1))), (0, .ref (am 0)), (1, .int r)]) X dX6_isManned_33 rfl (nI_inc _) hB9 (by decide) rfl ?_
            refine V.goto (tgt := 2) X dX6_isManned_36 (by decide) ?_
            exact V.eqs rfl rfl (ih2 (i + 1) (by omega) (by omega) (lt_s hq (by simp [hz15, hz28])))
          · refine V.iconst (v := nI 1) X dX6_isManned_31 rfl ?_
            exact V.iret (v := b2i true) X hE rfl (nar_b _) (Nat.le_of_ble_eq_true rfl) (Nat.le_of_ble_eq_true rfl) (pB9 (any9_hit (i := i) (by omega) (by simp [hz15, hz28])).symm rfl) dX6_isManned_32
  exact V.eqs rfl rfl (loop2 _ 0 (Nat.lt_succ_self _) (Nat.zero_le _) (fun j hj => absurd hj (Nat.not_lt_zero _)))
set_option maxRecDepth 20000 in
set_option maxHeartbeats 4000000 in
theorem c_X6_isOverNow (l : Launch) (D : va_G) (cy : Nat → ClassId) (am : Nat → Nat) (S : St) (F : va_W) (hW : Wk S) : Ctr l D cy yX6_isOverNow (.code yX6_isOverNow cX6_isOverNow 2 (some FieldType.boolean)) ({ frames := 1, cells := 0, slots := 0, locals := 60 } : Room) [.ref (am 0)] (wM am cy S ++ F) (pI (b2i (allM S)) (wM am cy S ++ F)) pNo := by
  refine Ctr.of (by decide) (Nat.le_of_ble_eq_true rfl) ?_
  intro M X hE hN hB9 hI9
  replace X : VX l D M cy cX6_isOverNow "RunbookerModel" (some FieldType.boolean) ({ frames := 1, cells := 0, slots := 0, locals := 60 } : Room) := X
  show V l D M 0 0 (wM am cy S ++ F) [(0, .ref (am 0))] 0 []
  have hB := hW.b
  have h43 := hW.n43
  have h44 := hW.n44
  have h46 := hW.n46
  have h45 := hW.n45
  have hcl := hW.cl
  have hen := hW.en
  refine V.iconst (v := nI 0) X dX6_isOverNow_0 rfl ?_
  refine V.istore_n (L' := [(1, .int (nI 0)), (0, .ref (am 0))]) X dX6_isOverNow_1 rfl hB9 (by decide) rfl ?_
  have loop2 : ∀ (d9 : Nat) (i : Nat), (rN S 44 0 - i) < d9 → (i ≤ rN S 44 0) → (∀ j, j < i → (decide (rC S 64 j = 111) || setM S j) = true) → V l D M 0 0 (wM am cy S ++ F) [(1, .int (nI i)), (0, .ref (am 0))] 2 [] := by
    intro d9
    induction d9 with
    | zero => intro i h9; exact absurd h9 (Nat.not_lt_zero _)
    | succ d9 ih2 =>
      intro i hd9 hi hq
      refine V.iload_n X dX6_isOverNow_2 rfl ?_
      refine V.aload_n X dX6_isOverNow_3 rfl ?_
      refine wM_gX6_107 X dX6_isOverNow_4 ?_
      refine V.icmp_ge (tgt := 37) X dX6_isOverNow_7 (by decide) (cN_le (hB.n 44 _) (by omega)) (cN_nle (hB.n 44 _) (by omega)) (fun (hz7 : rN S 44 0 ≤ i) => ?_) (fun (hz7 : i < rN S 44 0) => ?_)
      · refine V.aload_n X dX6_isOverNow_37 rfl ?_
        refine wM_gX6_124 X dX6_isOverNow_38 ?_
        exact V.iret (v := b2i (rB S 41 0)) X hE rfl (nar_b _) (Nat.le_of_ble_eq_true rfl) (Nat.le_of_ble_eq_true rfl) (pB9 (by unfold allM; rw [all9_hit (fun j hj => hq j (by omega))]; rfl) rfl) dX6_isOverNow_41
      · refine V.aload_n X dX6_isOverNow_10 rfl ?_
        refine wM_gX6_60 X dX6_isOverNow_11 ?_
        refine V.iload_n X dX6_isOverNow_14 rfl ?_
        refine wM_ld17 (i := i) X (by omega) dX6_isOverNow_15 ?_
        refine V.bipush (v := nI 111) X dX6_isOverNow_16 (by decide) ?_
        refine V.icmp_eq (tgt := 31) X dX6_isOverNow_18 (by decide) (cC_eq (a := rC S 64 i) (b := 111)) (cC_ne (a := rC S 64 i) (b := 111)) (fun (hz18 : rC S 64 i = 111) => ?_) (fun (hz18 : ¬ rC S 64 i = 111) => ?_)
        · refine V.iinc (v := nI (i + 1)) (L' := [(1, .int (nI (i + 1))), (0, .ref (am 0))]) X dX6_isOverNow_31 rfl (nI_inc _) hB9 (by decide) rfl ?_
          refine V.goto (tgt := 2) X dX6_isOverNow_34 (by decide) ?_
          exact V.eqs rfl rfl (ih2 (i + 1) (by omega) (by omega) (lt_s hq (by simp [hz18])))
        · refine V.aload_n X dX6_isOverNow_21 rfl ?_
          refine V.iload_n X dX6_isOverNow_22 rfl ?_
          refine V.callV1 [.int (nI i)] X (c_X6_isSettledNow l D cy am S F i hW (show i < (rN S 44 0) by omega)) mv_X6_isSettledNow gw_6_205 ⟨⟨(Nat.le_of_ble_eq_true rfl), (Nat.le_of_ble_eq_true rfl)⟩, (Nat.le_of_ble_eq_true rfl), (Nat.le_of_ble_eq_true rfl)⟩ (q0 := 0) (ci := 8) rfl rfl rfl (Nat.le_of_ble_eq_true rfl) dX6_isOverNow_23 ?_
          refine V.if_ne (tgt := 31) X dX6_isOverNow_26 (by decide) b2i_n0 b2i_0 (fun (hz26 : setM S i = true) => ?_) (fun (hz26 : setM S i = false) => ?_)
          · refine V.iinc (v := nI (i + 1)) (L' := [(1, .int (nI (i + 1))), (0, .ref (am 0))]) X dX6_isOverNow_31 rfl (nI_inc _) hB9 (by decide) rfl ?_
            refine V.goto (tgt := 2) X dX6_isOverNow_34 (by decide) ?_
            exact V.eqs rfl rfl (ih2 (i + 1) (by omega) (by omega) (lt_s hq (by simp [hz18, hz26])))
          · refine V.iconst (v := nI 0) X dX6_isOverNow_29 rfl ?_
            exact V.iret (v := b2i false) X hE rfl (nar_b _) (Nat.le_of_ble_eq_true rfl) (Nat.le_of_ble_eq_true rfl) (pB9 (by unfold allM; rw [all9_miss (i := i) (by omega) (by simp [hz18, hz26])]; rfl) rfl) dX6_isOverNow_30
  exact V.eqs rfl rfl (loop2 _ 0 (Nat.lt_succ_self _) (Nat.zero_le _) (fun j hj => absurd hj (Nat.not_lt_zero _)))
