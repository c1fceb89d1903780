/-! ===== the reference and the class agree; the reference's faces ===== -/
theorem Inv.qwk {S : St} (h : Inv S) {p : Nat} (hp : p < rN S 43 0) : wkM S (some p) = rO S 9 p := by
  have h46 := h.w.n46
  have key : ∀ j, j < rN S 44 0 → (decide (rC S 64 j = 97) && decide (rO S 60 j = some p)) = true → rO S 9 p = some j := by
    intro j hj e
    simp only [Bool.and_eq_true, decide_eq_true_eq] at e
    have h1 : j < rN S 46 0 := Nat.lt_of_not_le fun hc => h.o64 j hc e.1
    exact (h.wa p j hp).mpr ⟨h1, by rw [← h.eq j h1]; exact e.1, e.2⟩
  cases e : rO S 9 p with
  | none =>
    refine fst9_miss (fun j hj => ?_)
    cases e2 : (decide (rC S 64 j = 97) && decide (rO S 60 j = some p)) with
    | false => rfl
    | true => rw [key j hj e2] at e; cases e
  | some t =>
    obtain ⟨h1, h2, h3⟩ := (h.wa p t hp).mp e
    refine fst9_hit (fun j hj => ?_) (by simp [h.eq t h1, h2, h3]) (by omega)
    cases e2 : (decide (rC S 64 j = 97) && decide (rO S 60 j = some p)) with
    | false => rfl
    | true =>
      have := key j (by omega) e2
      rw [e] at this
      cases this
      omega
theorem Inv.qfree {S : St} (h : Inv S) {p : Nat} (hp : p < rN S 43 0) : freeM S p = free9 S p := by
  unfold freeM free9
  rw [h.qwk hp]
  cases e : rO S 9 p with
  | none => simp [eq_comm]
  | some t => simp
theorem stlF_cong {n : Nat} {q q' : Nat → UInt16} {fb : Nat → Option Nat} (h : ∀ s, s < n → q s = q' s) : ∀ d c, stlF n q fb d c = stlF n q' fb d c
  | 0, _ => rfl
  | d + 1, none => rfl
  | d + 1, some s => by
    by_cases e : s < n
    · by_cases e2 : q s = 102
      · rw [stlF_f e e2, stlF_f e ((h s e).symm.trans e2), stlF_cong h d]
      · rw [stlF_d e e2, stlF_d e (fun e3 => e2 ((h s e).trans e3)), h s e]
    · rw [stlF, stlF, if_neg e, if_neg e]
theorem Inv.qset {S : St} (h : Inv S) (hr : rB S 41 0 = true) (s : Nat) : setM S s = set9 S s := by
  have h1 := (h.run hr).1
  show stlF (rN S 44 0) (rC S 64) (rO S 16) 16 (some s) = stlF (rN S 46 0) (rC S 22) (rO S 16) 16 (some s)
  rw [h1]
  exact stlF_cong (fun s hs => h.eq s (by omega)) _ _
theorem cnt9_and {p q : Nat → Bool} : ∀ n, cnt9 (fun o => p o && q o) n ≤ cnt9 p n
  | 0 => Nat.le_refl _
  | n + 1 => by
    have := cnt9_and (p := p) (q := q) n
    unfold cnt9
    cases p n <;> cases q n <;> simp <;> omega
theorem Inv.qmet {S : St} (h : Inv S) (hr : rB S 41 0 = true) {s : Nat} (hs : s < rN S 44 0) : metM S s = met9 S s := by
  have h1 : stM S s s = stN S s s := cnt9_cong (fun j hj => by show (bit9 S s j && setM S j) = (bit9 S s j && set9 S j); rw [h.qset hr])
  have h2 : stN S s s ≤ ndN S s s := cnt9_and _
  unfold metM met9
  rw [h1]
  rcases h.jn s hs with e | e
  · rw [e]
    by_cases h3 : ndN S s s = 0
    · simp [h3]; omega
    · simp [h3]
  · rw [e]
    by_cases h3 : ndN S s s = 0 <;> simp [h3]
theorem Inv.qrdy {S : St} (h : Inv S) {s : Nat} (hs : s < rN S 44 0) : rdyM S s = rdy9 S s := by
  unfold rdyM rdy9
  cases hr : rB S 41 0 with
  | false => rfl
  | true => rw [h.qmet hr hs, h.eq s (by rw [(h.run hr).1]; exact hs)]
theorem Inv.qcnt {S : St} (h : Inv S) : cntM S = cntR S := cnt9_cong (fun _ hj => h.qrdy hj)
theorem Inv.qman {S : St} (h : Inv S) (r : Int32) : manM S r = man9 S r := any9_cong (fun j hj => by rw [h.qfree hj])
theorem Inv.qall {S : St} (h : Inv S) : allM S = (rB S 41 0 && alls9 S) := by
  unfold allM
  cases hr : rB S 41 0 with
  | false => simp
  | true =>
    have h1 := (h.run hr).1
    rw [show alls9 S = all9 (fun s => decide (rC S 22 s = 111) || set9 S s) (rN S 46 0) from rfl, h1, all9_cong (fun j hj => by rw [h.qset hr, h.eq j (by omega)])]
    simp
theorem Inv.many {S : St} (h : Inv S) (hr : rB S 41 0 = true) : manyM S 97 = actN S := by
  unfold manyM actN
  rw [(h.run hr).1]
  exact cnt9_cong (fun j hj => by rw [h.eq j (by rw [(h.run hr).1]; exact hj)])
theorem anyA_act (S : St) : anyA S = decide (0 < actN S) := by
  unfold anyA actN
  cases e : any9 (fun s => decide (rC S 22 s = 97)) (rN S 46 0) with
  | true =>
    obtain ⟨i, h1, h2⟩ := any9_true e
    have := cnt9_pos (p := fun s => decide (rC S 22 s = 97)) h1 h2
    simp; omega
  | false =>
    have := cnt9_zero.mpr (any9_false e)
    simp [this]
theorem btwR (x : Int32) : btw x (-999) (nI 999) = rdgB x := by
  unfold btw rdgB
  have h1 : ((-999 : Int32) ≤ x) ↔ ¬ x < -999 := i32_nlt.symm
  have h2 : (x ≤ nI 999) ↔ ¬ nI 999 < x := i32_nlt.symm
  by_cases a : x < -999 <;> by_cases b : nI 999 < x <;> simp [h1, h2, a, b]
theorem Inv.uk {S : St} (h : Inv S) (x : Int32) : kUK S x = kSR2 S x := by
  unfold kUK kSR2 ins9
  have h44 := h.w.n44
  have h46 := h.w.n46
  cases e : inR x (rN S 44 0) with
  | false => simp
  | true =>
    obtain ⟨p, hp, rfl⟩ := inR_of e (by omega)
    rw [h.wr, inR_nI (by omega) (by omega)]
    have h1 : (nI (rN S 46 0) ≤ nI p) ↔ rN S 46 0 ≤ p := nI_leI (by omega) (by omega)
    by_cases e2 : p < rN S 46 0
    · have h2 : ¬ rN S 46 0 ≤ p := by omega
      have h3 : 0 < rN S 46 0 := by omega
      simp [h1, e2, h2, h3]
    · have h2 : rN S 46 0 ≤ p := by omega
      simp [h1, e2, h2]
theorem kSR2_0 {S : St} {x : Int32} (h : kSR2 S x = 0) : inR x (rN S 46 0) = true := by
  unfold kSR2 at h
  cases e : inR x (rN S 46 0) with
  | true => rfl
  | false =>
    rw [e] at h
    cases e2 : ins9 S x <;> simp [e2] at h
theorem own9_some {S : St} (h : Inv S) {s f : Nat} (hs : s < rN S 44 0) (e : rO S 16 s = some f) : own9 S f = some s := by
  refine fst9_hit (fun j hj => ?_) (by simp [e]) hs
  cases e2 : decide (rO S 16 j = some f) with
  | false => rfl
  | true =>
    have := h.fi j s f (by omega) hs (by simpa using e2) e
    omega
theorem own9_ne {S : St} {s f : Nat} (e : ¬ rO S 16 s = some f) : ¬ own9 S f = some s := fun h => e (by simpa using (fst9_some h).2.1)
def pMx (k : Nat) (r : Int32) (u : Nat → va_W) : Option Value → va_W → Prop := fun v w => ∃ r9, v = some (.int r9) ∧ (k = 0 → r9 = r) ∧ w = u k
theorem pM9 {k j : Nat} {r v : Int32} {u : Nat → va_W} {w : va_W} (hk : k = j) (hr : j = 0 → v = r) (hw : w = u j) : pMx k r u (some (.int v)) w := by
  subst hk
  exact ⟨v, rfl, hr, hw⟩
theorem b2i_and (a b : Bool) : b2i a &&& b2i b = b2i (a && b) := by cases a <;> cases b <;> rfl
theorem Wk.s62 {S : St} (h : Wk S) {f : Nat → Nat} (hf : ∀ j, f j < 1000000) : Wk (sN S 62 f) := ⟨h.b.sN 62 hf, h.n43, h.n44, h.n46, h.n45, h.role, h.len, h.lim, h.cc, h.sen, h.fb, h.wk, h.fr, h.to, h.dn, h.tr, h.wo, h.cl, h.en, h.lm, h.tl, h.l1⟩
set_option maxRecDepth 20000 in
set_option maxHeartbeats 4000000 in
theorem c_X6_people (l : Launch) (D : va_G) (cy : Nat → ClassId) (am : Nat → Nat) (S : St) (F : va_W) (hI : Inv S) : Ctr l D cy yX6_people (.code yX6_people cX6_people 1 (some FieldType.int)) ({ frames := 12, cells := 0, slots := 0, locals := 400 } : Room) [.ref (am 0)] (wM am cy S ++ F) (pMx (0) (nI (rN S 43 0)) (fun k9 => wM am cy (sN S 62 (fun _ => k9)) ++ F)) pNo := by
  refine Ctr.of (by decide) (Nat.le_of_ble_eq_true rfl) ?_
  intro M X hE hN hB9 hI9
  replace X : VX l D M cy cX6_people "RunbookerModel" (some FieldType.int) ({ frames := 12, cells := 0, slots := 0, locals := 400 } : Room) := X
  show V l D M 0 0 (wM am cy S ++ F) [(0, .ref (am 0))] 0 []
  have hW := hI.w
  have hB := hW.b
  have h43 := hW.n43
  have h44 := hW.n44
  have h46 := hW.n46
  have h45 := hW.n45
  have hcl := hW.cl
  have hen := hW.en
  have hW0 : Wk (sN S 62 (fun _ => 0)) := hW.s62 (fun _ => by decide)
  have hcr : cntR S ≤ rN S 44 0 := cnt9_le _ _
  refine V.aload_n X dX6_people_0 rfl ?_
  refine V.iconst (v := nI 0) X dX6_people_1 rfl ?_
  refine wM_pX6_97 (v := 0) X dX6_people_2 ?_
  refine V.aload_n X dX6_people_5 rfl ?_
  refine wM_gX6_100 X dX6_people_6 ?_
  exact V.iret (v := nI (rN S 43 0)) X hE rfl rfl (Nat.le_of_ble_eq_true rfl) (Nat.le_of_ble_eq_true rfl) (pM9 (j := 0) rfl (fun h9 => (by first | rfl | simp [])) rfl) dX6_people_9
set_option maxRecDepth 20000 in
set_option maxHeartbeats 4000000 in
theorem c_X6_steps (l : Launch) (D : va_G) (cy : Nat → ClassId) (am : Nat → Nat) (S : St) (F : va_W) (hI : Inv S) : Ctr l D cy yX6_steps (.code yX6_steps cX6_steps 1 (some FieldType.int)) ({ frames := 12, cells := 0, slots := 0, locals := 400 } : Room) [.ref (am 0)] (wM am cy S ++ F) (pMx (0) (nI (rN S 44 0)) (fun k9 => wM am cy (sN S 62 (fun _ => k9)) ++ F)) pNo := by
  refine Ctr.of (by decide) (Nat.le_of_ble_eq_true rfl) ?_
  intro M X hE hN hB9 hI9
  replace X : VX l D M cy cX6_steps "RunbookerModel" (some FieldType.int) ({ frames := 12, cells := 0, slots := 0, locals := 400 } : Room) := X
  show V l D M 0 0 (wM am cy S ++ F) [(0, .ref (am 0))] 0 []
  have hW := hI.w
  have hB := hW.b
  have h43 := hW.n43
  have h44 := hW.n44
  have h46 := hW.n46
  have h45 := hW.n45
  have hcl := hW.cl
  have hen := hW.en
  have hW0 : Wk (sN S 62 (fun _ => 0)) := hW.s62 (fun _ => by decide)
  have hcr : cntR S ≤ rN S 44 0 := cnt9_le _ _
  refine V.aload_n X dX6_steps_0 rfl ?_
  refine V.iconst (v := nI 0) X dX6_steps_1 rfl ?_
  refine wM_pX6_97 (v := 0) X dX6_steps_2 ?_
  refine V.aload_n X dX6_steps_5 rfl ?_
  refine wM_gX6_107 X dX6_steps_6 ?_
  exact V.iret (v := nI (rN S 44 0)) X hE rfl rfl (Nat.le_of_ble_eq_true rfl) (Nat.le_of_ble_eq_true rfl) (pM9 (j := 0) rfl (fun h9 => (by first | rfl | simp [])) rfl) dX6_steps_9
set_option maxRecDepth 20000 in
set_option maxHeartbeats 4000000 in
theorem c_X6_clock (l : Launch) (D : va_G) (cy : Nat → ClassId) (am : Nat → Nat) (S : St) (F : va_W) (hI : Inv S) : Ctr l D cy yX6_clock (.code yX6_clock cX6_clock 1 (some FieldType.int)) ({ frames := 12, cells := 0, slots := 0, locals := 400 } : Room) [.ref (am 0)] (wM am cy S ++ F) (pMx (0) (nI (rN S 40 0)) (fun k9 => wM am cy (sN S 62 (fun _ => k9)) ++ F)) pNo := by
  refine Ctr.of (by decide) (Nat.le_of_ble_eq_true rfl) ?_
  intro M X hE hN hB9 hI9
  replace X : VX l D M cy cX6_clock "RunbookerModel" (some FieldType.int) ({ frames := 12, cells := 0, slots := 0, locals := 400 } : Room) := X
  show V l D M 0 0 (wM am cy S ++ F) [(0, .ref (am 0))] 0 []
  have hW := hI.w
  have hB := hW.b
  have h43 := hW.n43
  have h44 := hW.n44
  have h46 := hW.n46
  have h45 := hW.n45
  have hcl := hW.cl
  have hen := hW.en
  have hW0 : Wk (sN S 62 (fun _ => 0)) := hW.s62 (fun _ => by decide)
  have hcr : cntR S ≤ rN S 44 0 := cnt9_le _ _
  refine V.aload_n X dX6_clock_0 rfl ?_
  refine V.iconst (v := nI 0) X dX6_clock_1 rfl ?_
  refine wM_pX6_97 (v := 0) X dX6_clock_2 ?_
  refine V.aload_n X dX6_clock_5 rfl ?_
  refine wM_gX6_147 X dX6_clock_6 ?_
  exact V.iret (v := nI (rN S 40 0)) X hE rfl rfl (Nat.le_of_ble_eq_true rfl) (Nat.le_of_ble_eq_true rfl) (pM9 (j := 0) rfl (fun h9 => (by first | rfl | simp [])) rfl) dX6_clock_9
set_option maxRecDepth 20000 in
set_option maxHeartbeats 4000000 in
theorem c_X6_entries (l : Launch) (D : va_G) (cy : Nat → ClassId) (am : Nat → Nat) (S : St) (F : va_W) (hI : Inv S) : Ctr l D cy yX6_entries (.code yX6_entries cX6_entries 1 (some FieldType.int)) ({ frames := 12, cells := 0, slots := 0, locals := 400 } : Room) [.ref (am 0)] (wM am cy S ++ F) (pMx (0) (nI (rN S 50 0)) (fun k9 => wM am cy (sN S 62 (fun _ => k9)) ++ F)) pNo := by
  refine Ctr.of (by decide) (Nat.le_of_ble_eq_true rfl) ?_
  intro M X hE hN hB9 hI9
  replace X : VX l D M cy cX6_entries "RunbookerModel" (some FieldType.int) ({ frames := 12, cells := 0, slots := 0, locals := 400 } : Room) := X
  show V l D M 0 0 (wM am cy S ++ F) [(0, .ref (am 0))] 0 []
  have hW := hI.w
  have hB := hW.b
  have h43 := hW.n43
  have h44 := hW.n44
  have h46 := hW.n46
  have h45 := hW.n45
  have hcl := hW.cl
  have hen := hW.en
  have hW0 : Wk (sN S 62 (fun _ => 0)) := hW.s62 (fun _ => by decide)
  have hcr : cntR S ≤ rN S 44 0 := cnt9_le _ _
  refine V.aload_n X dX6_entries_0 rfl ?_
  refine V.iconst (v := nI 0) X dX6_entries_1 rfl ?_
  refine wM_pX6_97 (v := 0) X dX6_entries_2 ?_
  refine V.aload_n X dX6_entries_5 rfl ?_
  refine wM_gX6_144 X dX6_entries_6 ?_
  exact V.iret (v := nI (rN S 50 0)) X hE rfl rfl (Nat.le_of_ble_eq_true rfl) (Nat.le_of_ble_eq_true rfl) (pM9 (j := 0) rfl (fun h9 => (by first | rfl | simp [])) rfl) dX6_entries_9
set_option maxRecDepth 20000 in
set_option maxHeartbeats 4000000 in
theorem c_X6_isRunning (l : Launch) (D : va_G) (cy : Nat → ClassId) (am : Nat → Nat) (S : St) (F : va_W) (hI : Inv S) : Ctr l D cy yX6_isRunning (.code yX6_isRunning cX6_isRunning 1 (some FieldType.boolean)) ({ frames := 12, cells := 0, slots := 0, locals := 400 } : Room) [.ref (am 0)] (wM am cy S ++ F) (pMx (0) (b2i (rB S 41 0)) (fun k9 => wM am cy (sN S 62 (fun _ => k9)) ++ F)) pNo := by
  refine Ctr.of (by decide) (Nat.le_of_ble_eq_true rfl) ?_
  intro M X hE hN hB9 hI9
  replace X : VX l D M cy cX6_isRunning "RunbookerModel" (some FieldType.boolean) ({ frames := 12, cells := 0, slots := 0, locals := 400 } : Room) := X
  show V l D M 0 0 (wM am cy S ++ F) [(0, .ref (am 0))] 0 []
  have hW := hI.w
  have hB := hW.b
  have h43 := hW.n43
  have h44 := hW.n44
  have h46 := hW.n46
  have h45 := hW.n45
  have hcl := hW.cl
  have hen := hW.en
  have hW0 : Wk (sN S 62 (fun _ => 0)) := hW.s62 (fun _ => by decide)
  have hcr : cntR S ≤ rN S 44 0 := cnt9_le _ _
  refine V.aload_n X dX6_isRunning_0 rfl ?_
  refine V.iconst (v := nI 0) X dX6_isRunning_1 rfl ?_
  refine wM_pX6_97 (v := 0) X dX6_isRunning_2 ?_
  refine V.aload_n X dX6_isRunning_5 rfl ?_
  refine wM_gX6_124 X dX6_isRunning_6 ?_
  exact V.iret (v := b2i (rB S 41 0)) X hE rfl (nar_b _) (Nat.le_of_ble_eq_true rfl) (Nat.le_of_ble_eq_true rfl) (pM9 (j := 0) rfl (fun h9 => (by first | rfl | simp [])) rfl) dX6_isRunning_9
set_option maxRecDepth 20000 in
set_option maxHeartbeats 4000000 in
theorem c_X6_isOnDuty (l : Launch) (D : va_G) (cy : Nat → ClassId) (am : Nat → Nat) (S : St) (F : va_W) (x : Int32) (hI : Inv S) : Ctr l D cy yX6_isOnDuty (.code yX6_isOnDuty cX6_isOnDuty 2 (some FieldType.boolean)) ({ frames := 12, cells := 0, slots := 0, locals := 400 } : Room) [.ref (am 0), .int x] (wM am cy S ++ F) (pMx (kP1 S x) (b2i (rB S 8 (ix x))) (fun k9 => wM am cy (sN S 62 (fun _ => k9)) ++ F)) pNo := by
  refine Ctr.of (by decide) (Nat.le_of_ble_eq_true rfl) ?_
  intro M X hE hN hB9 hI9
  replace X : VX l D M cy cX6_isOnDuty "RunbookerModel" (some FieldType.boolean) ({ frames := 12, cells := 0, slots := 0, locals := 400 } : Room) := X
  show V l D M 0 0 (wM am cy S ++ F) [(0, .ref (am 0)), (1, .int x)] 0 []
  have hW := hI.w
  have hB := hW.b
  have h43 := hW.n43
  have h44 := hW.n44
  have h46 := hW.n46
  have h45 := hW.n45
  have hcl := hW.cl
  have hen := hW.en
  have hW0 : Wk (sN S 62 (fun _ => 0)) := hW.s62 (fun _ => by decide)
  have hcr : cntR S ≤ rN S 44 0 := cnt9_le _ _
  refine V.aload_n X dX6_isOnDuty_0 rfl ?_
  refine V.iconst (v := nI 0) X dX6_isOnDuty_1 rfl ?_
  refine wM_pX6_97 (v := 0) X dX6_isOnDuty_2 ?_
  refine V.aload_n X dX6_isOnDuty_5 rfl ?_
  refine V.iload_n X dX6_isOnDuty_6 rfl ?_
  refine V.callV1 [.int x] X (c_X6_isPerson l D cy am (sN S 62 (fun _ => 0)) F x (hW0.b)) mv_X6_isPerson gw_6_140 ⟨⟨(Nat.le_of_ble_eq_true rfl), (Nat.le_of_ble_eq_true rfl)⟩, (Nat.le_of_ble_eq_true rfl), (Nat.le_of_ble_eq_true rfl)⟩ (q0 := 0) (ci := 8) rfl rfl rfl (Nat.le_of_ble_eq_true rfl) dX6_isOnDuty_7 ?_
  refine V.if_eq (tgt := 22) X dX6_isOnDuty_10 (by decide) b2i_0 b2i_n0 (fun (hz10 : inR x (rN S 43 0) = false) => ?_) (fun (hz10 : inR x (rN S 43 0) = true) => ?_)
  · refine V.aload_n X dX6_isOnDuty_22 rfl ?_
    refine V.iconst (v := nI 1) X dX6_isOnDuty_23 rfl ?_
    refine V.callV1 [.int (nI 1)] X (c_X6_isWrong l D cy am (sN S 62 (fun _ => 0)) F 1) mv_X6_isWrong gw_6_144 ⟨⟨(Nat.le_of_ble_eq_true rfl), (Nat.le_of_ble_eq_true rfl)⟩, (Nat.le_of_ble_eq_true rfl), (Nat.le_of_ble_eq_true rfl)⟩ (q0 := 0) (ci := 8) rfl rfl rfl (Nat.le_of_ble_eq_true rfl) dX6_isOnDuty_24 ?_
    exact V.iret (v := b2i false) X hE rfl (nar_b _) (Nat.le_of_ble_eq_true rfl) (Nat.le_of_ble_eq_true rfl) (pM9 (j := 1) (by simp [kP1, hz10]) (fun h => absurd h (by decide)) rfl) dX6_isOnDuty_27
  · obtain ⟨p, hp, rfl⟩ := inR_of hz10 (by omega)
    have ep : ix (nI p) = p := ix_nI (by omega)
    refine V.aload_n X dX6_isOnDuty_13 rfl ?_
    refine wM_gX6_50 X dX6_isOnDuty_14 ?_
    refine V.iload_n X dX6_isOnDuty_17 rfl ?_
    refine wM_ld14 (i := p) X (by omega) dX6_isOnDuty_18 ?_
    refine V.goto (tgt := 27) X dX6_isOnDuty_19 (by decide) ?_
    exact V.iret (v := b2i (rB S 8 p)) X hE rfl (nar_b _) (Nat.le_of_ble_eq_true rfl) (Nat.le_of_ble_eq_true rfl) (pM9 (j := 0) (by simp [kP1, hz10, hp, ep]) (fun h9 => (by first | rfl | (simp only [ep]; done) | simp [hz10, hp, ep])) (by first | (simp only [ep]; done) | (simp only [ep]; rfl) | rfl)) dX6_isOnDuty_27
set_option maxRecDepth 20000 in
set_option maxHeartbeats 4000000 in
theorem c_X6_hasRole (l : Launch) (D : va_G) (cy : Nat → ClassId) (am : Nat → Nat) (S : St) (F : va_W) (x : Int32) (y : Int32) (hI : Inv S) : Ctr l D cy yX6_hasRole (.code yX6_hasRole cX6_hasRole 3 (some FieldType.boolean)) ({ frames := 12, cells := 0, slots := 0, locals := 400 } : Room) [.ref (am 0), .int x, .int y] (wM am cy S ++ F) (pMx (kHR S x y) (b2i (hasBit (rI S 7 (ix x)) y)) (fun k9 => wM am cy (sN S 62 (fun _ => k9)) ++ F)) pNo := by
  refine Ctr.of (by decide) (Nat.le_of_ble_eq_true rfl) ?_
  intro M X hE hN hB9 hI9
  replace X : VX l D M cy cX6_hasRole "RunbookerModel" (some FieldType.boolean) ({ frames := 12, cells := 0, slots := 0, locals := 400 } : Room) := X
  show V l D M 0 0 (wM am cy S ++ F) [(0, .ref (am 0)), (1, .int x), (2, .int y)] 0 []
  have hW := hI.w
  have hB := hW.b
  have h43 := hW.n43
  have h44 := hW.n44
  have h46 := hW.n46
  have h45 := hW.n45
  have hcl := hW.cl
  have hen := hW.en
  have hW0 : Wk (sN S 62 (fun _ => 0)) := hW.s62 (fun _ => by decide)
  have hcr : cntR S ≤ rN S 44 0 := cnt9_le _ _
  refine V.aload_n X dX6_hasRole_0 rfl ?_
  refine V.iconst (v := nI 0) X dX6_hasRole_1 rfl ?_
  refine wM_pX6_97 (v := 0) X dX6_hasRole_2 ?_
  refine V.aload_n X dX6_hasRole_5 rfl ?_
  refine V.iload_n X dX6_hasRole_6 rfl ?_
  refine V.callV1 [.int x] X (c_X6_isPerson l D cy am (sN S 62 (fun _ => 0)) F x (hW0.b)) mv_X6_isPerson gw_6_140 ⟨⟨(Nat.le_of_ble_eq_true rfl), (Nat.le_of_ble_eq_true rfl)⟩, (Nat.le_of_ble_eq_true rfl), (Nat.le_of_ble_eq_true rfl)⟩ (q0 := 0) (ci := 8) rfl rfl rfl (Nat.le_of_ble_eq_true rfl) dX6_hasRole_7 ?_
  refine V.if_ne (tgt := 19) X dX6_hasRole_10 (by decide) b2i_n0 b2i_0 (fun (hz10 : inR x (rN S 43 0) = true) => ?_) (fun (hz10 : inR x (rN S 43 0) = false) => ?_)
  · obtain ⟨p, hp, rfl⟩ := inR_of hz10 (by omega)
    have ep : ix (nI p) = p := ix_nI (by omega)
    refine V.iload_n X dX6_hasRole_19 rfl ?_
    refine V.iconst (v := nI 0) X dX6_hasRole_20 rfl ?_
    refine V.iconst (v := nI 3) X dX6_hasRole_21 rfl ?_
    refine V.callS1 [.int y, .int (nI 0), .int (nI 3)] X (c_X6_isBetween l D cy am (sN S 62 (fun _ => 0)) F y (nI 0) (nI 3)) ms_X6_isBetween gw_6_129 ⟨⟨(Nat.le_of_ble_eq_true rfl), (Nat.le_of_ble_eq_true rfl)⟩, (Nat.le_of_ble_eq_true rfl), (Nat.le_of_ble_eq_true rfl)⟩ rfl (Nat.le_of_ble_eq_true rfl) dX6_hasRole_22 ?_
    refine V.top (congrArg b2i (btw3 y)) ?_
    refine V.if_eq (tgt := 41) X dX6_hasRole_25 (by decide) b2i_0 b2i_n0 (fun (hz25 : inR y 4 = false) => ?_) (fun (hz25 : inR y 4 = true) => ?_)
    · refine V.aload_n X dX6_hasRole_41 rfl ?_
      refine V.iconst (v := nI 2) X dX6_hasRole_42 rfl ?_
      refine V.callV1 [.int (nI 2)] X (c_X6_isWrong l D cy am (sN S 62 (fun _ => 0)) F 2) mv_X6_isWrong gw_6_144 ⟨⟨(Nat.le_of_ble_eq_true rfl), (Nat.le_of_ble_eq_true rfl)⟩, (Nat.le_of_ble_eq_true rfl), (Nat.le_of_ble_eq_true rfl)⟩ (q0 := 0) (ci := 8) rfl rfl rfl (Nat.le_of_ble_eq_true rfl) dX6_hasRole_43 ?_
      exact V.iret (v := b2i false) X hE rfl (nar_b _) (Nat.le_of_ble_eq_true rfl) (Nat.le_of_ble_eq_true rfl) (pM9 (j := 2) (by simp [kHR, hz10, hp, ep, hz25]) (fun h => absurd h (by decide)) rfl) dX6_hasRole_46
    · refine V.aload_n X dX6_hasRole_28 rfl ?_
      refine wM_gX6_9 X dX6_hasRole_29 ?_
      refine V.iload_n X dX6_hasRole_32 rfl ?_
      refine wM_ld1 (i := p) X (by omega) dX6_hasRole_33 ?_
      refine V.iload_n X dX6_hasRole_34 rfl ?_
      refine V.callS1 [.int (rI S 7 p), .int y] X (c_X6_has l D cy am (sN S 62 (fun _ => 0)) F (rI S 7 p) y) ms_X6_has gw_6_164 ⟨⟨(Nat.le_of_ble_eq_true rfl), (Nat.le_of_ble_eq_true rfl)⟩, (Nat.le_of_ble_eq_true rfl), (Nat.le_of_ble_eq_true rfl)⟩ rfl (Nat.le_of_ble_eq_true rfl) dX6_hasRole_35 ?_
      refine V.goto (tgt := 46) X dX6_hasRole_38 (by decide) ?_
      exact V.iret (v := b2i (hasBit (rI S 7 p) y)) X hE rfl (nar_b _) (Nat.le_of_ble_eq_true rfl) (Nat.le_of_ble_eq_true rfl) (pM9 (j := 0) (by simp [kHR, hz10, hp, ep, hz25]) (fun h9 => (by first | rfl | (simp only [ep]; done) | simp [hz10, hp, ep, hz25])) (by first | (simp only [ep]; done) | (simp only [ep]; rfl) | rfl)) dX6_hasRole_46
  · refine V.aload_n X dX6_hasRole_13 rfl ?_
    refine V.iconst (v := nI 1) X dX6_hasRole_14 rfl ?_
    refine V.callV1 [.int (nI 1)] X (c_X6_isWrong l D cy am (sN S 62 (fun _ => 0)) F 1) mv_X6_isWrong gw_6_144 ⟨⟨(Nat.le_of_ble_eq_true rfl), (Nat.le_of_ble_eq_true rfl)⟩, (Nat.le_of_ble_eq_true rfl), (Nat.le_of_ble_eq_true rfl)⟩ (q0 := 0) (ci := 8) rfl rfl rfl (Nat.le_of_ble_eq_true rfl) dX6_hasRole_15 ?_
    exact V.iret (v := b2i false) X hE rfl (nar_b _) (Nat.le_of_ble_eq_true rfl) (Nat.le_of_ble_eq_true rfl) (pM9 (j := 1) (by simp [kHR, hz10]) (fun h => absurd h (by decide)) rfl) dX6_hasRole_18
set_option maxRecDepth 20000 in
set_option maxHeartbeats 4000000 in
theorem c_X6_workOf (l : Launch) (D : va_G) (cy : Nat → ClassId) (am : Nat → Nat) (S : St) (F : va_W) (x : Int32) (hI : Inv S) : Ctr l D cy yX6_workOf (.code yX6_workOf cX6_workOf 2 (some FieldType.int)) ({ frames := 12, cells := 0, slots := 0, locals := 400 } : Room) [.ref (am 0), .int x] (wM am cy S ++ F) (pMx (kP1 S x) (o2i (rO S 9 (ix x))) (fun k9 => wM am cy (sN S 62 (fun _ => k9)) ++ F)) pNo := by
  refine Ctr.of (by decide) (Nat.le_of_ble_eq_true rfl) ?_
  intro M X hE hN hB9 hI9
  replace X : VX l D M cy cX6_workOf "RunbookerModel" (some FieldType.int) ({ frames := 12, cells := 0, slots := 0, locals := 400 } : Room) := X
  show V l D M 0 0 (wM am cy S ++ F) [(0, .ref (am 0)), (1, .int x)] 0 []
  have hW := hI.w
  have hB := hW.b
  have h43 := hW.n43
  have h44 := hW.n44
  have h46 := hW.n46
  have h45 := hW.n45
  have hcl := hW.cl
  have hen := hW.en
  have hW0 : Wk (sN S 62 (fun _ => 0)) := hW.s62 (fun _ => by decide)
  have hcr : cntR S ≤ rN S 44 0 := cnt9_le _ _
  refine V.aload_n X dX6_workOf_0 rfl ?_
  refine V.iconst (v := nI 0) X dX6_workOf_1 rfl ?_
  refine wM_pX6_97 (v := 0) X dX6_workOf_2 ?_
  refine V.aload_n X dX6_workOf_5 rfl ?_
  refine V.iload_n X dX6_workOf_6 rfl ?_
  refine V.callV1 [.int x] X (c_X6_isPerson l D cy am (sN S 62 (fun _ => 0)) F x (hW0.b)) mv_X6_isPerson gw_6_140 ⟨⟨(Nat.le_of_ble_eq_true rfl), (Nat.le_of_ble_eq_true rfl)⟩, (Nat.le_of_ble_eq_true rfl), (Nat.le_of_ble_eq_true rfl)⟩ (q0 := 0) (ci := 8) rfl rfl rfl (Nat.le_of_ble_eq_true rfl) dX6_workOf_7 ?_
  refine V.if_eq (tgt := 21) X dX6_workOf_10 (by decide) b2i_0 b2i_n0 (fun (hz10 : inR x (rN S 43 0) = false) => ?_) (fun (hz10 : inR x (rN S 43 0) = true) => ?_)
  · refine V.aload_n X dX6_workOf_21 rfl ?_
    refine V.iconst (v := nI 1) X dX6_workOf_22 rfl ?_
    refine V.callV1 [.int (nI 1)] X (c_X6_fails l D cy am (sN S 62 (fun _ => 0)) F 1) mv_X6_fails gw_6_132 ⟨⟨(Nat.le_of_ble_eq_true rfl), (Nat.le_of_ble_eq_true rfl)⟩, (Nat.le_of_ble_eq_true rfl), (Nat.le_of_ble_eq_true rfl)⟩ (q0 := 0) (ci := 8) rfl rfl rfl (Nat.le_of_ble_eq_true rfl) dX6_workOf_23 ?_
    exact V.iret (v := o2i (some 0)) X hE rfl rfl (Nat.le_of_ble_eq_true rfl) (Nat.le_of_ble_eq_true rfl) (pM9 (j := 1) (by simp [kP1, hz10]) (fun h => absurd h (by decide)) rfl) dX6_workOf_26
  · obtain ⟨p, hp, rfl⟩ := inR_of hz10 (by omega)
    have ep : ix (nI p) = p := ix_nI (by omega)
    refine V.aload_n X dX6_workOf_13 rfl ?_
    refine V.iload_n X dX6_workOf_14 rfl ?_
    refine V.callV1 [.int (o2i (some p))] X (c_X6_work l D cy am (sN S 62 (fun _ => 0)) F (some p) (hW0.b) (show (rN S 44 0) ≤ 16 by omega) (lt_some9 (by omega))) mv_X6_work gw_6_148 ⟨⟨(Nat.le_of_ble_eq_true rfl), (Nat.le_of_ble_eq_true rfl)⟩, (Nat.le_of_ble_eq_true rfl), (Nat.le_of_ble_eq_true rfl)⟩ (q0 := 0) (ci := 8) rfl rfl rfl (Nat.le_of_ble_eq_true rfl) dX6_workOf_15 ?_
    refine V.top (congrArg o2i (hI.qwk (p := p) (by omega))) ?_
    refine V.goto (tgt := 26) X dX6_workOf_18 (by decide) ?_
    exact V.iret (v := o2i (rO S 9 p)) X hE rfl rfl (Nat.le_of_ble_eq_true rfl) (Nat.le_of_ble_eq_true rfl) (pM9 (j := 0) (by simp [kP1, hz10, hp, ep]) (fun h9 => (by first | rfl | (simp only [ep]; done) | simp [hz10, hp, ep])) (by first | (simp only [ep]; done) | (simp only [ep]; rfl) | rfl)) dX6_workOf_26
set_option maxRecDepth 20000 in
set_option maxHeartbeats 4000000 in
theorem c_X6_readingOf (l : Launch) (D : va_G) (cy : Nat → ClassId) (am : Nat → Nat) (S : St) (F : va_W) (x : Int32) (hI : Inv S) : Ctr l D cy yX6_readingOf (.code yX6_readingOf cX6_readingOf 2 (some FieldType.int)) ({ frames := 12, cells := 0, slots := 0, locals := 400 } : Room) [.ref (am 0), .int x] (wM am cy S ++ F) (pMx (kRO x) (rI S 6 (ix x)) (fun k9 => wM am cy (sN S 62 (fun _ => k9)) ++ F)) pNo := by
  refine Ctr.of (by decide) (Nat.le_of_ble_eq_true rfl) ?_
  intro M X hE hN hB9 hI9
  replace X : VX l D M cy cX6_readingOf "RunbookerModel" (some FieldType.int) ({ frames := 12, cells := 0, slots := 0, locals := 400 } : Room) := X
  show V l D M 0 0 (wM am cy S ++ F) [(0, .ref (am 0)), (1, .int x)] 0 []
  have hW := hI.w
  have hB := hW.b
  have h43 := hW.n43
  have h44 := hW.n44
  have h46 := hW.n46
  have h45 := hW.n45
  have hcl := hW.cl
  have hen := hW.en
  have hW0 : Wk (sN S 62 (fun _ => 0)) := hW.s62 (fun _ => by decide)
  have hcr : cntR S ≤ rN S 44 0 := cnt9_le _ _
  refine V.aload_n X dX6_readingOf_0 rfl ?_
  refine V.iconst (v := nI 0) X dX6_readingOf_1 rfl ?_
  refine wM_pX6_97 (v := 0) X dX6_readingOf_2 ?_
  refine V.iload_n X dX6_readingOf_5 rfl ?_
  refine V.callS1 [.int x] X (c_X6_isSensor l D cy am (sN S 62 (fun _ => 0)) F x) ms_X6_isSensor gw_6_186 ⟨⟨(Nat.le_of_ble_eq_true rfl), (Nat.le_of_ble_eq_true rfl)⟩, (Nat.le_of_ble_eq_true rfl), (Nat.le_of_ble_eq_true rfl)⟩ rfl (Nat.le_of_ble_eq_true rfl) dX6_readingOf_6 ?_
  refine V.if_eq (tgt := 21) X dX6_readingOf_9 (by decide) b2i_0 b2i_n0 (fun (hz9 : inR x 6 = false) => ?_) (fun (hz9 : inR x 6 = true) => ?_)
  · refine V.aload_n X dX6_readingOf_21 rfl ?_
    refine V.iconst (v := nI 1) X dX6_readingOf_22 rfl ?_
    refine V.callV1 [.int (nI 1)] X (c_X6_fails l D cy am (sN S 62 (fun _ => 0)) F 1) mv_X6_fails gw_6_132 ⟨⟨(Nat.le_of_ble_eq_true rfl), (Nat.le_of_ble_eq_true rfl)⟩, (Nat.le_of_ble_eq_true rfl), (Nat.le_of_ble_eq_true rfl)⟩ (q0 := 0) (ci := 8) rfl rfl rfl (Nat.le_of_ble_eq_true rfl) dX6_readingOf_23 ?_
    exact V.iret (v := nI 0) X hE rfl rfl (Nat.le_of_ble_eq_true rfl) (Nat.le_of_ble_eq_true rfl) (pM9 (j := 1) (by simp [kRO, hz9]) (fun h => absurd h (by decide)) rfl) dX6_readingOf_26
  · obtain ⟨p, hp, rfl⟩ := inR_of hz9 (by omega)
    have ep : ix (nI p) = p := ix_nI (by omega)
    refine V.aload_n X dX6_readingOf_12 rfl ?_
    refine wM_gX6_13 X dX6_readingOf_13 ?_
    refine V.iload_n X dX6_readingOf_16 rfl ?_
    refine wM_ld2 (i := p) X (by omega) dX6_readingOf_17 ?_
    refine V.goto (tgt := 26) X dX6_readingOf_18 (by decide) ?_
    exact V.iret (v := rI S 6 p) X hE rfl rfl (Nat.le_of_ble_eq_true rfl) (Nat.le_of_ble_eq_true rfl) (pM9 (j := 0) (by simp [kRO, hz9, hp, ep]) (fun h9 => (by first | rfl | (simp only [ep]; done) | simp [hz9, hp, ep])) (by first | (simp only [ep]; done) | (simp only [ep]; rfl) | rfl)) dX6_readingOf_26
set_option maxRecDepth 20000 in
set_option maxHeartbeats 4000000 in
theorem c_X6_doesGuardHold (l : Launch) (D : va_G) (cy : Nat → ClassId) (am : Nat → Nat) (S : St) (F : va_W) (x : Int32) (hI : Inv S) : Ctr l D cy yX6_doesGuardHold (.code yX6_doesGuardHold cX6_doesGuardHold 2 (some FieldType.boolean)) ({ frames := 12, cells := 0, slots := 0, locals := 400 } : Room) [.ref (am 0), .int x] (wM am cy S ++ F) (pMx (kS1 S x) (b2i (guard9 S (ix x))) (fun k9 => wM am cy (sN S 62 (fun _ => k9)) ++ F)) pNo := by
  refine Ctr.of (by decide) (Nat.le_of_ble_eq_true rfl) ?_
  intro M X hE hN hB9 hI9
  replace X : VX l D M cy cX6_doesGuardHold "RunbookerModel" (some FieldType.boolean) ({ frames := 12, cells := 0, slots := 0, locals := 400 } : Room) := X
  show V l D M 0 0 (wM am cy S ++ F) [(0, .ref (am 0)), (1, .int x)] 0 []
  have hW := hI.w
  have hB := hW.b
  have h43 := hW.n43
  have h44 := hW.n44
  have h46 := hW.n46
  have h45 := hW.n45
  have hcl := hW.cl
  have hen := hW.en
  have hW0 : Wk (sN S 62 (fun _ => 0)) := hW.s62 (fun _ => by decide)
  have hcr : cntR S ≤ rN S 44 0 := cnt9_le _ _
  refine V.aload_n X dX6_doesGuardHold_0 rfl ?_
  refine V.iconst (v := nI 0) X dX6_doesGuardHold_1 rfl ?_
  refine wM_pX6_97 (v := 0) X dX6_doesGuardHold_2 ?_
  refine V.aload_n X dX6_doesGuardHold_5 rfl ?_
  refine V.iload_n X dX6_doesGuardHold_6 rfl ?_
  refine V.callV1 [.int x] X (c_X6_isStep l D cy am (sN S 62 (fun _ => 0)) F x (hW0.b)) mv_X6_isStep gw_6_160 ⟨⟨(Nat.le_of_ble_eq_true rfl), (Nat.le_of_ble_eq_true rfl)⟩, (Nat.le_of_ble_eq_true rfl), (Nat.le_of_ble_eq_true rfl)⟩ (q0 := 0) (ci := 8) rfl rfl rfl (Nat.le_of_ble_eq_true rfl) dX6_doesGuardHold_7 ?_
  refine V.if_eq (tgt := 21) X dX6_doesGuardHold_10 (by decide) b2i_0 b2i_n0 (fun (hz10 : inR x (rN S 44 0) = false) => ?_) (fun (hz10 : inR x (rN S 44 0) = true) => ?_)
  · refine V.aload_n X dX6_doesGuardHold_21 rfl ?_
    refine V.iconst (v := nI 1) X dX6_doesGuardHold_22 rfl ?_
    refine V.callV1 [.int (nI 1)] X (c_X6_isWrong l D cy am (sN S 62 (fun _ => 0)) F 1) mv_X6_isWrong gw_6_144 ⟨⟨(Nat.le_of_ble_eq_true rfl), (Nat.le_of_ble_eq_true rfl)⟩, (Nat.le_of_ble_eq_true rfl), (Nat.le_of_ble_eq_true rfl)⟩ (q0 := 0) (ci := 8) rfl rfl rfl (Nat.le_of_ble_eq_true rfl) dX6_doesGuardHold_23 ?_
    exact V.iret (v := b2i false) X hE rfl (nar_b _) (Nat.le_of_ble_eq_true rfl) (Nat.le_of_ble_eq_true rfl) (pM9 (j := 1) (by simp [kS1, ins9, hz10]) (fun h => absurd h (by decide)) rfl) dX6_doesGuardHold_26
  · obtain ⟨p, hp, rfl⟩ := inR_of hz10 (by omega)
    have ep : ix (nI p) = p := ix_nI (by omega)
    refine V.aload_n X dX6_doesGuardHold_13 rfl ?_
    refine V.iload_n X dX6_doesGuardHold_14 rfl ?_
    refine V.callV1 [.int (nI p)] X (c_X6_isGuarded l D cy am (sN S 62 (fun _ => 0)) F p (hW0.b) (show p < 16 by omega) (hW0.cc _) (hW0.sen)) mv_X6_isGuarded gw_6_209 ⟨⟨(Nat.le_of_ble_eq_true rfl), (Nat.le_of_ble_eq_true rfl)⟩, (Nat.le_of_ble_eq_true rfl), (Nat.le_of_ble_eq_true rfl)⟩ (q0 := 0) (ci := 8) rfl rfl rfl (Nat.le_of_ble_eq_true rfl) dX6_doesGuardHold_15 ?_
    refine V.top (y := b2i (guard9 S p)) rfl ?_
    refine V.goto (tgt := 26) X dX6_doesGuardHold_18 (by decide) ?_
    exact V.iret (v := b2i (guard9 S p)) X hE rfl (nar_b _) (Nat.le_of_ble_eq_true rfl) (Nat.le_of_ble_eq_true rfl) (pM9 (j := 0) (by simp [kS1, ins9, hz10, hp, ep]) (fun h9 => (by first | rfl | (simp only [ep]; done) | simp [hz10, hp, ep])) (by first | (simp only [ep]; done) | (simp only [ep]; rfl) | rfl)) dX6_doesGuardHold_26
set_option maxRecDepth 20000 in
set_option maxHeartbeats 4000000 in
theorem c_X6_guardReading (l : Launch) (D : va_G) (cy : Nat → ClassId) (am : Nat → Nat) (S : St) (F : va_W) (x : Int32) (y : Int32) (hI : Inv S) : Ctr l D cy yX6_guardReading (.code yX6_guardReading cX6_guardReading 3 (some FieldType.int)) ({ frames := 12, cells := 0, slots := 0, locals := 400 } : Room) [.ref (am 0), .int x, .int y] (wM am cy S ++ F) (pMx (kGR S x y) (rI S 27 (ix x * 6 + rN S 18 (ix x * 2 + ix y))) (fun k9 => wM am cy (sN S 62 (fun _ => k9)) ++ F)) pNo := by
  refine Ctr.of (by decide) (Nat.le_of_ble_eq_true rfl) ?_
  intro M X hE hN hB9 hI9
  replace X : VX l D M cy cX6_guardReading "RunbookerModel" (some FieldType.int) ({ frames := 12, cells := 0, slots := 0, locals := 400 } : Room) := X
  show V l D M 0 0 (wM am cy S ++ F) [(0, .ref (am 0)), (1, .int x), (2, .int y)] 0 []
  have hW := hI.w
  have hB := hW.b
  have h43 := hW.n43
  have h44 := hW.n44
  have h46 := hW.n46
  have h45 := hW.n45
  have hcl := hW.cl
  have hen := hW.en
  have hW0 : Wk (sN S 62 (fun _ => 0)) := hW.s62 (fun _ => by decide)
  have hcr : cntR S ≤ rN S 44 0 := cnt9_le _ _
  have hcc := hW.cc
  have hc17 := hB.n 17
  refine V.aload_n X dX6_guardReading_0 rfl ?_
  refine V.iconst (v := nI 0) X dX6_guardReading_1 rfl ?_
  refine wM_pX6_97 (v := 0) X dX6_guardReading_2 ?_
  refine V.aload_n X dX6_guardReading_5 rfl ?_
  refine V.iload_n X dX6_guardReading_6 rfl ?_
  refine V.callV1 [.int x] X (c_X6_isStep l D cy am (sN S 62 (fun _ => 0)) F x (hW0.b)) mv_X6_isStep gw_6_160 ⟨⟨(Nat.le_of_ble_eq_true rfl), (Nat.le_of_ble_eq_true rfl)⟩, (Nat.le_of_ble_eq_true rfl), (Nat.le_of_ble_eq_true rfl)⟩ (q0 := 0) (ci := 8) rfl rfl rfl (Nat.le_of_ble_eq_true rfl) dX6_guardReading_7 ?_
  refine V.if_ne (tgt := 19) X dX6_guardReading_10 (by decide) b2i_n0 b2i_0 (fun (hz10 : inR x (rN S 44 0) = true) => ?_) (fun (hz10 : inR x (rN S 44 0) = false) => ?_)
  · obtain ⟨p, hp, rfl⟩ := inR_of hz10 (by omega)
    have ep : ix (nI p) = p := ix_nI (by omega)
    refine V.iload_n X dX6_guardReading_19 rfl ?_
    refine V.iconst (v := nI 0) X dX6_guardReading_20 rfl ?_
    refine V.aload_n X dX6_guardReading_21 rfl ?_
    refine wM_gX6_31 X dX6_guardReading_22 ?_
    refine V.iload_n X dX6_guardReading_25 rfl ?_
    refine wM_ld8 (i := p) X (by omega) dX6_guardReading_26 ?_
    refine V.iconst (v := nI 1) X dX6_guardReading_27 rfl ?_
    refine V.isub (v := o2i (pred9 (rN S 17 p))) X dX6_guardReading_28 (pred9_sub _) ?_
    refine V.callS1 [.int y, .int (nI 0), .int (o2i (pred9 (rN S 17 p)))] X (c_X6_isBetween l D cy am (sN S 62 (fun _ => 0)) F y (nI 0) (o2i (pred9 (rN S 17 p)))) ms_X6_isBetween gw_6_129 ⟨⟨(Nat.le_of_ble_eq_true rfl), (Nat.le_of_ble_eq_true rfl)⟩, (Nat.le_of_ble_eq_true rfl), (Nat.le_of_ble_eq_true rfl)⟩ rfl (Nat.le_of_ble_eq_true rfl) dX6_guardReading_29 ?_
    refine V.top (congrArg b2i (btw0 (x := y) (n := (rN S 17 p)) (hc17 p))) ?_
    refine V.if_ne (tgt := 41) X dX6_guardReading_32 (by decide) b2i_n0 b2i_0 (fun (hz32 : inR y (rN S 17 p) = true) => ?_) (fun (hz32 : inR y (rN S 17 p) = false) => ?_)
    · have hcp := hcc p
      obtain ⟨q, hq, rfl⟩ := inR_of hz32 (by omega)
      have eq : ix (nI q) = q := ix_nI (by omega)
      refine V.aload_n X dX6_guardReading_41 rfl ?_
      refine wM_gX6_57 X dX6_guardReading_42 ?_
      refine V.iload_n X dX6_guardReading_45 rfl ?_
      refine wM_ld16 (i := p) X (by omega) dX6_guardReading_46 ?_
      refine V.if_eq (tgt := 73) X dX6_guardReading_47 (by decide) b2i_0 b2i_n0 (fun (hz47 : rB S 24 p = false) => ?_) (fun (hz47 : rB S 24 p = true) => ?_)
      · refine V.aload_n X dX6_guardReading_73 rfl ?_
        refine V.iconst (v := nI 3) X dX6_guardReading_74 rfl ?_
        refine V.callV1 [.int (nI 3)] X (c_X6_fails l D cy am (sN S 62 (fun _ => 0)) F 3) mv_X6_fails gw_6_132 ⟨⟨(Nat.le_of_ble_eq_true rfl), (Nat.le_of_ble_eq_true rfl)⟩, (Nat.le_of_ble_eq_true rfl), (Nat.le_of_ble_eq_true rfl)⟩ (q0 := 0) (ci := 8) rfl rfl rfl (Nat.le_of_ble_eq_true rfl) dX6_guardReading_75 ?_
        exact V.iret (v := nI 0) X hE rfl rfl (Nat.le_of_ble_eq_true rfl) (Nat.le_of_ble_eq_true rfl) (pM9 (j := 3) (by simp [kGR, ins9, hz10, hp, ep, hz32, hq, eq, hz47]) (fun h => absurd h (by decide)) rfl) dX6_guardReading_78
      · refine V.aload_n X dX6_guardReading_50 rfl ?_
        refine wM_gX6_40 X dX6_guardReading_51 ?_
        refine V.bipush (v := nI 6) X dX6_guardReading_54 (by decide) ?_
        refine V.iload_n X dX6_guardReading_56 rfl ?_
        refine V.imul (v := nI (6 * p)) X dX6_guardReading_57 (pk_mul _ _) ?_
        refine V.aload_n X dX6_guardReading_58 rfl ?_
        refine wM_gX6_34 X dX6_guardReading_59 ?_
        refine V.iconst (v := nI 2) X dX6_guardReading_62 rfl ?_
        refine V.iload_n X dX6_guardReading_63 rfl ?_
        refine V.imul (v := nI (2 * p)) X dX6_guardReading_64 (pk_mul _ _) ?_
        refine V.iload_n X dX6_guardReading_65 rfl ?_
        refine V.iadd (v := nI (2 * p + q)) X dX6_guardReading_66 (nI_add _ _) ?_
        refine wM_ld9 (i := 2 * p + q) X (by have := hW.cc p; omega) dX6_guardReading_67 ?_
        refine V.iadd (v := nI (6 * p + (rN S 18 (2 * p + q)))) X dX6_guardReading_68 (nI_add _ _) ?_
        refine wM_ld11 (i := 6 * p + (rN S 18 (2 * p + q))) X (by have := hW.sen (2 * p + q); omega) dX6_guardReading_69 ?_
        refine V.goto (tgt := 78) X dX6_guardReading_70 (by decide) ?_
        exact V.iret (v := rI S 27 (6 * p + (rN S 18 (2 * p + q)))) X hE rfl rfl (Nat.le_of_ble_eq_true rfl) (Nat.le_of_ble_eq_true rfl) (pM9 (j := 0) (by simp [kGR, ins9, hz10, hp, ep, hz32, hq, eq, hz47]) (fun h9 => (by rw [ep, eq, Nat.mul_comm 6 p, Nat.mul_comm 2 p])) (by first | (simp only [ep, eq]; done) | (simp only [ep, eq]; rfl) | rfl)) dX6_guardReading_78
    · refine V.aload_n X dX6_guardReading_35 rfl ?_
      refine V.iconst (v := nI 2) X dX6_guardReading_36 rfl ?_
      refine V.callV1 [.int (nI 2)] X (c_X6_fails l D cy am (sN S 62 (fun _ => 0)) F 2) mv_X6_fails gw_6_132 ⟨⟨(Nat.le_of_ble_eq_true rfl), (Nat.le_of_ble_eq_true rfl)⟩, (Nat.le_of_ble_eq_true rfl), (Nat.le_of_ble_eq_true rfl)⟩ (q0 := 0) (ci := 8) rfl rfl rfl (Nat.le_of_ble_eq_true rfl) dX6_guardReading_37 ?_
      exact V.iret (v := nI 0) X hE rfl rfl (Nat.le_of_ble_eq_true rfl) (Nat.le_of_ble_eq_true rfl) (pM9 (j := 2) (by simp [kGR, ins9, hz10, hp, ep, hz32]) (fun h => absurd h (by decide)) rfl) dX6_guardReading_40
  · refine V.aload_n X dX6_guardReading_13 rfl ?_
    refine V.iconst (v := nI 1) X dX6_guardReading_14 rfl ?_
    refine V.callV1 [.int (nI 1)] X (c_X6_fails l D cy am (sN S 62 (fun _ => 0)) F 1) mv_X6_fails gw_6_132 ⟨⟨(Nat.le_of_ble_eq_true rfl), (Nat.le_of_ble_eq_true rfl)⟩, (Nat.le_of_ble_eq_true rfl), (Nat.le_of_ble_eq_true rfl)⟩ (q0 := 0) (ci := 8) rfl rfl rfl (Nat.le_of_ble_eq_true rfl) dX6_guardReading_15 ?_
    exact V.iret (v := nI 0) X hE rfl rfl (Nat.le_of_ble_eq_true rfl) (Nat.le_of_ble_eq_true rfl) (pM9 (j := 1) (by simp [kGR, ins9, hz10]) (fun h => absurd h (by decide)) rfl) dX6_guardReading_18
set_option maxRecDepth 20000 in
set_option maxHeartbeats 4000000 in
theorem c_X6_isReady (l : Launch) (D : va_G) (cy : Nat → ClassId) (am : Nat → Nat) (S : St) (F : va_W) (x : Int32) (hI : Inv S) : Ctr l D cy yX6_isReady (.code yX6_isReady cX6_isReady 2 (some FieldType.boolean)) ({ frames := 12, cells := 0, slots := 0, locals := 400 } : Room) [.ref (am 0), .int x] (wM am cy S ++ F) (pMx (kS1 S x) (b2i (rdy9 S (ix x))) (fun k9 => wM am cy (sN S 62 (fun _ => k9)) ++ F)) pNo := by
  refine Ctr.of (by decide) (Nat.le_of_ble_eq_true rfl) ?_
  intro M X hE hN hB9 hI9
  replace X : VX l D M cy cX6_isReady "RunbookerModel" (some FieldType.boolean) ({ frames := 12, cells := 0, slots := 0, locals := 400 } : Room) := X
  show V l D M 0 0 (wM am cy S ++ F) [(0, .ref (am 0)), (1, .int x)] 0 []
  have hW := hI.w
  have hB := hW.b
  have h43 := hW.n43
  have h44 := hW.n44
  have h46 := hW.n46
  have h45 := hW.n45
  have hcl := hW.cl
  have hen := hW.en
  have hW0 : Wk (sN S 62 (fun _ => 0)) := hW.s62 (fun _ => by decide)
  have hcr : cntR S ≤ rN S 44 0 := cnt9_le _ _
  refine V.aload_n X dX6_isReady_0 rfl ?_
  refine V.iconst (v := nI 0) X dX6_isReady_1 rfl ?_
  refine wM_pX6_97 (v := 0) X dX6_isReady_2 ?_
  refine V.aload_n X dX6_isReady_5 rfl ?_
  refine V.iload_n X dX6_isReady_6 rfl ?_
  refine V.callV1 [.int x] X (c_X6_isStep l D cy am (sN S 62 (fun _ => 0)) F x (hW0.b)) mv_X6_isStep gw_6_160 ⟨⟨(Nat.le_of_ble_eq_true rfl), (Nat.le_of_ble_eq_true rfl)⟩, (Nat.le_of_ble_eq_true rfl), (Nat.le_of_ble_eq_true rfl)⟩ (q0 := 0) (ci := 8) rfl rfl rfl (Nat.le_of_ble_eq_true rfl) dX6_isReady_7 ?_
  refine V.if_eq (tgt := 21) X dX6_isReady_10 (by decide) b2i_0 b2i_n0 (fun (hz10 : inR x (rN S 44 0) = false) => ?_) (fun (hz10 : inR x (rN S 44 0) = true) => ?_)
  · refine V.aload_n X dX6_isReady_21 rfl ?_
    refine V.iconst (v := nI 1) X dX6_isReady_22 rfl ?_
    refine V.callV1 [.int (nI 1)] X (c_X6_isWrong l D cy am (sN S 62 (fun _ => 0)) F 1) mv_X6_isWrong gw_6_144 ⟨⟨(Nat.le_of_ble_eq_true rfl), (Nat.le_of_ble_eq_true rfl)⟩, (Nat.le_of_ble_eq_true rfl), (Nat.le_of_ble_eq_true rfl)⟩ (q0 := 0) (ci := 8) rfl rfl rfl (Nat.le_of_ble_eq_true rfl) dX6_isReady_23 ?_
    exact V.iret (v := b2i false) X hE rfl (nar_b _) (Nat.le_of_ble_eq_true rfl) (Nat.le_of_ble_eq_true rfl) (pM9 (j := 1) (by simp [kS1, ins9, hz10]) (fun h => absurd h (by decide)) rfl) dX6_isReady_26
  · obtain ⟨p, hp, rfl⟩ := inR_of hz10 (by omega)
    have ep : ix (nI p) = p := ix_nI (by omega)
    refine V.aload_n X dX6_isReady_13 rfl ?_
    refine V.iload_n X dX6_isReady_14 rfl ?_
    refine V.callV1 [.int (nI p)] X (c_X6_isReadyNow l D cy am (sN S 62 (fun _ => 0)) F p hW0 (show p < (rN S 44 0) by omega)) mv_X6_isReadyNow gw_6_197 ⟨⟨(Nat.le_of_ble_eq_true rfl), (Nat.le_of_ble_eq_true rfl)⟩, (Nat.le_of_ble_eq_true rfl), (Nat.le_of_ble_eq_true rfl)⟩ (q0 := 0) (ci := 8) rfl rfl rfl (Nat.le_of_ble_eq_true rfl) dX6_isReady_15 ?_
    refine V.top (congrArg b2i (hI.qrdy (s := p) (by omega))) ?_
    refine V.goto (tgt := 26) X dX6_isReady_18 (by decide) ?_
    exact V.iret (v := b2i (rdy9 S p)) X hE rfl (nar_b _) (Nat.le_of_ble_eq_true rfl) (Nat.le_of_ble_eq_true rfl) (pM9 (j := 0) (by simp [kS1, ins9, hz10, hp, ep]) (fun h9 => (by first | rfl | (simp only [ep]; done) | simp [hz10, hp, ep])) (by first | (simp only [ep]; done) | (simp only [ep]; rfl) | rfl)) dX6_isReady_26
set_option maxRecDepth 20000 in
set_option maxHeartbeats 4000000 in
theorem c_X6_whyNot (l : Launch) (D : va_G) (cy : Nat → ClassId) (am : Nat → Nat) (S : St) (F : va_W) (x : Int32) (hI : Inv S) : Ctr l D cy yX6_whyNot (.code yX6_whyNot cX6_whyNot 2 (some FieldType.char)) ({ frames := 12, cells := 0, slots := 0, locals := 400 } : Room) [.ref (am 0), .int x] (wM am cy S ++ F) (pMx (kS1 S x) (c2i (why9 S (ix x))) (fun k9 => wM am cy (sN S 62 (fun _ => k9)) ++ F)) pNo := by
  refine Ctr.of (by decide) (Nat.le_of_ble_eq_true rfl) ?_
  intro M X hE hN hB9 hI9
  replace X : VX l D M cy cX6_whyNot "RunbookerModel" (some FieldType.char) ({ frames := 12, cells := 0, slots := 0, locals := 400 } : Room) := X
  show V l D M 0 0 (wM am cy S ++ F) [(0, .ref (am 0)), (1, .int x)] 0 []
  have hW := hI.w
  have hB := hW.b
  have h43 := hW.n43
  have h44 := hW.n44
  have h46 := hW.n46
  have h45 := hW.n45
  have hcl := hW.cl
  have hen := hW.en
  have hW0 : Wk (sN S 62 (fun _ => 0)) := hW.s62 (fun _ => by decide)
  have hcr : cntR S ≤ rN S 44 0 := cnt9_le _ _
  refine V.aload_n X dX6_whyNot_0 rfl ?_
  refine V.iconst (v := nI 0) X dX6_whyNot_1 rfl ?_
  refine wM_pX6_97 (v := 0) X dX6_whyNot_2 ?_
  refine V.aload_n X dX6_whyNot_5 rfl ?_
  refine V.iload_n X dX6_whyNot_6 rfl ?_
  refine V.callV1 [.int x] X (c_X6_isStep l D cy am (sN S 62 (fun _ => 0)) F x (hW0.b)) mv_X6_isStep gw_6_160 ⟨⟨(Nat.le_of_ble_eq_true rfl), (Nat.le_of_ble_eq_true rfl)⟩, (Nat.le_of_ble_eq_true rfl), (Nat.le_of_ble_eq_true rfl)⟩ (q0 := 0) (ci := 8) rfl rfl rfl (Nat.le_of_ble_eq_true rfl) dX6_whyNot_7 ?_
  refine V.if_ne (tgt := 20) X dX6_whyNot_10 (by decide) b2i_n0 b2i_0 (fun (hz10 : inR x (rN S 44 0) = true) => ?_) (fun (hz10 : inR x (rN S 44 0) = false) => ?_)
  · obtain ⟨p, hp, rfl⟩ := inR_of hz10 (by omega)
    have ep : ix (nI p) = p := ix_nI (by omega)
    refine V.aload_n X dX6_whyNot_20 rfl ?_
    refine wM_gX6_124 X dX6_whyNot_21 ?_
    refine V.if_ne (tgt := 30) X dX6_whyNot_24 (by decide) b2i_n0 b2i_0 (fun (hz24 : rB S 41 0 = true) => ?_) (fun (hz24 : rB S 41 0 = false) => ?_)
    · have e64 : rC S 64 p = rC S 22 p := hI.eq p (by rw [(hI.run hz24).1]; exact hp)
      refine V.aload_n X dX6_whyNot_30 rfl ?_
      refine wM_gX6_60 X dX6_whyNot_31 ?_
      refine V.iload_n X dX6_whyNot_34 rfl ?_
      refine wM_ld17 (i := p) X (by omega) dX6_whyNot_35 ?_
      refine V.top (congrArg c2i e64) ?_
      refine V.bipush (v := nI 119) X dX6_whyNot_36 (by decide) ?_
      refine V.icmp_eq (tgt := 44) X dX6_whyNot_38 (by decide) (cC_eq (a := rC S 22 p) (b := 119)) (cC_ne (a := rC S 22 p) (b := 119)) (fun (hz38 : rC S 22 p = 119) => ?_) (fun (hz38 : ¬ rC S 22 p = 119) => ?_)
      · refine V.aload_n X dX6_whyNot_44 rfl ?_
        refine V.iload_n X dX6_whyNot_45 rfl ?_
        refine V.callV1 [.int (nI p)] X (c_X6_areNeedsMet l D cy am (sN S 62 (fun _ => 0)) F p hW0 (show p < (rN S 44 0) by omega)) mv_X6_areNeedsMet gw_6_201 ⟨⟨(Nat.le_of_ble_eq_true rfl), (Nat.le_of_ble_eq_true rfl)⟩, (Nat.le_of_ble_eq_true rfl), (Nat.le_of_ble_eq_true rfl)⟩ (q0 := 0) (ci := 8) rfl rfl rfl (Nat.le_of_ble_eq_true rfl) dX6_whyNot_46 ?_
        refine V.top (congrArg b2i (hI.qmet hz24 (s := p) (by omega))) ?_
        refine V.if_ne (tgt := 55) X dX6_whyNot_49 (by decide) b2i_n0 b2i_0 (fun (hz49 : met9 S p = true) => ?_) (fun (hz49 : met9 S p = false) => ?_)
        · refine V.aload_n X dX6_whyNot_55 rfl ?_
          refine V.iload_n X dX6_whyNot_56 rfl ?_
          refine V.callV1 [.int (nI p)] X (c_X6_isGuarded l D cy am (sN S 62 (fun _ => 0)) F p (hW0.b) (show p < 16 by omega) (hW0.cc _) (hW0.sen)) mv_X6_isGuarded gw_6_209 ⟨⟨(Nat.le_of_ble_eq_true rfl), (Nat.le_of_ble_eq_true rfl)⟩, (Nat.le_of_ble_eq_true rfl), (Nat.le_of_ble_eq_true rfl)⟩ (q0 := 0) (ci := 8) rfl rfl rfl (Nat.le_of_ble_eq_true rfl) dX6_whyNot_57 ?_
          refine V.top (y := b2i (guard9 S p)) rfl ?_
          refine V.if_ne (tgt := 66) X dX6_whyNot_60 (by decide) b2i_n0 b2i_0 (fun (hz60 : guard9 S p = true) => ?_) (fun (hz60 : guard9 S p = false) => ?_)
          · refine V.aload_n X dX6_whyNot_66 rfl ?_
            refine V.aload_n X dX6_whyNot_67 rfl ?_
            refine wM_gX6_16 X dX6_whyNot_68 ?_
            refine V.iload_n X dX6_whyNot_71 rfl ?_
            refine wM_ld3 (i := p) X (by omega) dX6_whyNot_72 ?_
            refine V.callV1 [.int (nI (rN S 10 p))] X (c_X6_isPausedNow l D cy am (sN S 62 (fun _ => 0)) F (nI (rN S 10 p)) hW0) mv_X6_isPausedNow gw_6_233 ⟨⟨(Nat.le_of_ble_eq_true rfl), (Nat.le_of_ble_eq_true rfl)⟩, (Nat.le_of_ble_eq_true rfl), (Nat.le_of_ble_eq_true rfl)⟩ (q0 := 0) (ci := 8) rfl rfl rfl (Nat.le_of_ble_eq_true rfl) dX6_whyNot_73 ?_
            refine V.if_eq (tgt := 82) X dX6_whyNot_76 (by decide) b2i_0 b2i_n0 (fun (hz76 : paus9 S (nI (rN S 10 p)) = false) => ?_) (fun (hz76 : paus9 S (nI (rN S 10 p)) = true) => ?_)
            · refine V.aload_n X dX6_whyNot_82 rfl ?_
              refine V.aload_n X dX6_whyNot_83 rfl ?_
              refine wM_gX6_16 X dX6_whyNot_84 ?_
              refine V.iload_n X dX6_whyNot_87 rfl ?_
              refine wM_ld3 (i := p) X (by omega) dX6_whyNot_88 ?_
              refine V.callV1 [.int (nI (rN S 10 p))] X (c_X6_isManned l D cy am (sN S 62 (fun _ => 0)) F (nI (rN S 10 p)) hW0) mv_X6_isManned gw_7_89 ⟨⟨(Nat.le_of_ble_eq_true rfl), (Nat.le_of_ble_eq_true rfl)⟩, (Nat.le_of_ble_eq_true rfl), (Nat.le_of_ble_eq_true rfl)⟩ (q0 := 0) (ci := 8) rfl rfl rfl (Nat.le_of_ble_eq_true rfl) dX6_whyNot_89 ?_
              refine V.top (congrArg b2i (hI.qman (nI (rN S 10 p)))) ?_
              refine V.if_eq (tgt := 100) X dX6_whyNot_92 (by decide) b2i_0 b2i_n0 (fun (hz92 : man9 S (nI (rN S 10 p)) = false) => ?_) (fun (hz92 : man9 S (nI (rN S 10 p)) = true) => ?_)
              · refine V.bipush (v := nI 114) X dX6_whyNot_100 (by decide) ?_
                exact V.iret (v := c2i 114) X hE rfl (nar_c _) (Nat.le_of_ble_eq_true rfl) (Nat.le_of_ble_eq_true rfl) (pM9 (j := 0) (by simp [kS1, ins9, hz10, hp, ep, hz24, hz38, hz49, hz60, hz76, hz92]) (fun h9 => (by first | rfl | (simp only [why9, ep]; done) | simp [why9, hz10, hp, ep, hz24, hz38, hz49, hz60, hz76, hz92])) (by first | (simp only [ep]; done) | (simp only [ep]; rfl) | rfl)) dX6_whyNot_102
              · refine V.bipush (v := nI 45) X dX6_whyNot_95 (by decide) ?_
                refine V.goto (tgt := 102) X dX6_whyNot_97 (by decide) ?_
                exact V.iret (v := c2i 45) X hE rfl (nar_c _) (Nat.le_of_ble_eq_true rfl) (Nat.le_of_ble_eq_true rfl) (pM9 (j := 0) (by simp [kS1, ins9, hz10, hp, ep, hz24, hz38, hz49, hz60, hz76, hz92]) (fun h9 => (by first | rfl | (simp only [why9, ep]; done) | simp [why9, hz10, hp, ep, hz24, hz38, hz49, hz60, hz76, hz92])) (by first | (simp only [ep]; done) | (simp only [ep]; rfl) | rfl)) dX6_whyNot_102
            · refine V.bipush (v := nI 112) X dX6_whyNot_79 (by decide) ?_
              exact V.iret (v := c2i 112) X hE rfl (nar_c _) (Nat.le_of_ble_eq_true rfl) (Nat.le_of_ble_eq_true rfl) (pM9 (j := 0) (by simp [kS1, ins9, hz10, hp, ep, hz24, hz38, hz49, hz60, hz76]) (fun h9 => (by first | rfl | (simp only [why9, ep]; done) | simp [why9, hz10, hp, ep, hz24, hz38, hz49, hz60, hz76])) (by first | (simp only [ep]; done) | (simp only [ep]; rfl) | rfl)) dX6_whyNot_81
          · refine V.bipush (v := nI 103) X dX6_whyNot_63 (by decide) ?_
            exact V.iret (v := c2i 103) X hE rfl (nar_c _) (Nat.le_of_ble_eq_true rfl) (Nat.le_of_ble_eq_true rfl) (pM9 (j := 0) (by simp [kS1, ins9, hz10, hp, ep, hz24, hz38, hz49, hz60]) (fun h9 => (by first | rfl | (simp only [why9, ep]; done) | simp [why9, hz10, hp, ep, hz24, hz38, hz49, hz60])) (by first | (simp only [ep]; done) | (simp only [ep]; rfl) | rfl)) dX6_whyNot_65
        · refine V.bipush (v := nI 110) X dX6_whyNot_52 (by decide) ?_
          exact V.iret (v := c2i 110) X hE rfl (nar_c _) (Nat.le_of_ble_eq_true rfl) (Nat.le_of_ble_eq_true rfl) (pM9 (j := 0) (by simp [kS1, ins9, hz10, hp, ep, hz24, hz38, hz49]) (fun h9 => (by first | rfl | (simp only [why9, ep]; done) | simp [why9, hz10, hp, ep, hz24, hz38, hz49])) (by first | (simp only [ep]; done) | (simp only [ep]; rfl) | rfl)) dX6_whyNot_54
      · refine V.bipush (v := nI 120) X dX6_whyNot_41 (by decide) ?_
        exact V.iret (v := c2i 120) X hE rfl (nar_c _) (Nat.le_of_ble_eq_true rfl) (Nat.le_of_ble_eq_true rfl) (pM9 (j := 0) (by simp [kS1, ins9, hz10, hp, ep, hz24, hz38]) (fun h9 => (by first | rfl | (simp only [why9, ep]; done) | simp [why9, hz10, hp, ep, hz24, hz38])) (by first | (simp only [ep]; done) | (simp only [ep]; rfl) | rfl)) dX6_whyNot_43
    · refine V.bipush (v := nI 115) X dX6_whyNot_27 (by decide) ?_
      exact V.iret (v := c2i 115) X hE rfl (nar_c _) (Nat.le_of_ble_eq_true rfl) (Nat.le_of_ble_eq_true rfl) (pM9 (j := 0) (by simp [kS1, ins9, hz10, hp, ep, hz24]) (fun h9 => (by first | rfl | (simp only [why9, ep]; done) | simp [why9, hz10, hp, ep, hz24])) (by first | (simp only [ep]; done) | (simp only [ep]; rfl) | rfl)) dX6_whyNot_29
  · refine V.aload_n X dX6_whyNot_13 rfl ?_
    refine V.iconst (v := nI 1) X dX6_whyNot_14 rfl ?_
    refine V.callV1 [.int (nI 1)] X (c_X6_fails l D cy am (sN S 62 (fun _ => 0)) F 1) mv_X6_fails gw_6_132 ⟨⟨(Nat.le_of_ble_eq_true rfl), (Nat.le_of_ble_eq_true rfl)⟩, (Nat.le_of_ble_eq_true rfl), (Nat.le_of_ble_eq_true rfl)⟩ (q0 := 0) (ci := 8) rfl rfl rfl (Nat.le_of_ble_eq_true rfl) dX6_whyNot_15 ?_
    refine V.i2c (v := nI 0) X dX6_whyNot_18 (by decide) ?_
    exact V.iret (v := c2i 0) X hE rfl (nar_c _) (Nat.le_of_ble_eq_true rfl) (Nat.le_of_ble_eq_true rfl) (pM9 (j := 1) (by simp [kS1, ins9, hz10]) (fun h => absurd h (by decide)) rfl) dX6_whyNot_19
set_option maxRecDepth 20000 in
set_option maxHeartbeats 4000000 in
theorem c_X6_ready (l : Launch) (D : va_G) (cy : Nat → ClassId) (am : Nat → Nat) (S : St) (F : va_W) (hI : Inv S) : Ctr l D cy yX6_ready (.code yX6_ready cX6_ready 1 (some FieldType.int)) ({ frames := 12, cells := 0, slots := 0, locals := 400 } : Room) [.ref (am 0)] (wM am cy S ++ F) (pMx (0) (nI (cntR S)) (fun k9 => wM am cy (sN S 62 (fun _ => k9)) ++ F)) pNo := by
  refine Ctr.of (by decide) (Nat.le_of_ble_eq_true rfl) ?_
  intro M X hE hN hB9 hI9
  replace X : VX l D M cy cX6_ready "RunbookerModel" (some FieldType.int) ({ frames := 12, cells := 0, slots := 0, locals := 400 } : Room) := X
  show V l D M 0 0 (wM am cy S ++ F) [(0, .ref (am 0))] 0 []
  have hW := hI.w
  have hB := hW.b
  have h43 := hW.n43
  have h44 := hW.n44
  have h46 := hW.n46
  have h45 := hW.n45
  have hcl := hW.cl
  have hen := hW.en
  have hW0 : Wk (sN S 62 (fun _ => 0)) := hW.s62 (fun _ => by decide)
  have hcr : cntR S ≤ rN S 44 0 := cnt9_le _ _
  refine V.aload_n X dX6_ready_0 rfl ?_
  refine V.iconst (v := nI 0) X dX6_ready_1 rfl ?_
  refine wM_pX6_97 (v := 0) X dX6_ready_2 ?_
  refine V.aload_n X dX6_ready_5 rfl ?_
  refine V.callV1 [] X (c_X6_readyMany l D cy am (sN S 62 (fun _ => 0)) F hW0) mv_X6_readyMany gw_6_193 ⟨⟨(Nat.le_of_ble_eq_true rfl), (Nat.le_of_ble_eq_true rfl)⟩, (Nat.le_of_ble_eq_true rfl), (Nat.le_of_ble_eq_true rfl)⟩ (q0 := 0) (ci := 8) rfl rfl rfl (Nat.le_of_ble_eq_true rfl) dX6_ready_6 ?_
  refine V.top (congrArg nI hI.qcnt) ?_
  exact V.iret (v := nI (cntR S)) X hE rfl rfl (Nat.le_of_ble_eq_true rfl) (Nat.le_of_ble_eq_true rfl) (pM9 (j := 0) rfl (fun h9 => (by first | rfl | simp [])) rfl) dX6_ready_9
set_option maxRecDepth 20000 in
set_option maxHeartbeats 4000000 in
theorem c_X6_isSettled (l : Launch) (D : va_G) (cy : Nat → ClassId) (am : Nat → Nat) (S : St) (F : va_W) (x : Int32) (hI : Inv S) : Ctr l D cy yX6_isSettled (.code yX6_isSettled cX6_isSettled 2 (some FieldType.boolean)) ({ frames := 12, cells := 0, slots := 0, locals := 400 } : Room) [.ref (am 0), .int x] (wM am cy S ++ F) (pMx (kS1 S x) (b2i (rB S 41 0 && set9 S (ix x))) (fun k9 => wM am cy (sN S 62 (fun _ => k9)) ++ F)) pNo := by
  refine Ctr.of (by decide) (Nat.le_of_ble_eq_true rfl) ?_
  intro M X hE hN hB9 hI9
  replace X : VX l D M cy cX6_isSettled "RunbookerModel" (some FieldType.boolean) ({ frames := 12, cells := 0, slots := 0, locals := 400 } : Room) := X
  show V l D M 0 0 (wM am cy S ++ F) [(0, .ref (am 0)), (1, .int x)] 0 []
  have hW := hI.w
  have hB := hW.b
  have h43 := hW.n43
  have h44 := hW.n44
  have h46 := hW.n46
  have h45 := hW.n45
  have hcl := hW.cl
  have hen := hW.en
  have hW0 : Wk (sN S 62 (fun _ => 0)) := hW.s62 (fun _ => by decide)
  have hcr : cntR S ≤ rN S 44 0 := cnt9_le _ _
  refine V.aload_n X dX6_isSettled_0 rfl ?_
  refine V.iconst (v := nI 0) X dX6_isSettled_1 rfl ?_
  refine wM_pX6_97 (v := 0) X dX6_isSettled_2 ?_
  refine V.aload_n X dX6_isSettled_5 rfl ?_
  refine V.iload_n X dX6_isSettled_6 rfl ?_
  refine V.callV1 [.int x] X (c_X6_isStep l D cy am (sN S 62 (fun _ => 0)) F x (hW0.b)) mv_X6_isStep gw_6_160 ⟨⟨(Nat.le_of_ble_eq_true rfl), (Nat.le_of_ble_eq_true rfl)⟩, (Nat.le_of_ble_eq_true rfl), (Nat.le_of_ble_eq_true rfl)⟩ (q0 := 0) (ci := 8) rfl rfl rfl (Nat.le_of_ble_eq_true rfl) dX6_isSettled_7 ?_
  refine V.if_eq (tgt := 36) X dX6_isSettled_10 (by decide) b2i_0 b2i_n0 (fun (hz10 : inR x (rN S 44 0) = false) => ?_) (fun (hz10 : inR x (rN S 44 0) = true) => ?_)
  · refine V.aload_n X dX6_isSettled_36 rfl ?_
    refine V.iconst (v := nI 1) X dX6_isSettled_37 rfl ?_
    refine V.callV1 [.int (nI 1)] X (c_X6_isWrong l D cy am (sN S 62 (fun _ => 0)) F 1) mv_X6_isWrong gw_6_144 ⟨⟨(Nat.le_of_ble_eq_true rfl), (Nat.le_of_ble_eq_true rfl)⟩, (Nat.le_of_ble_eq_true rfl), (Nat.le_of_ble_eq_true rfl)⟩ (q0 := 0) (ci := 8) rfl rfl rfl (Nat.le_of_ble_eq_true rfl) dX6_isSettled_38 ?_
    exact V.iret (v := b2i false) X hE rfl (nar_b _) (Nat.le_of_ble_eq_true rfl) (Nat.le_of_ble_eq_true rfl) (pM9 (j := 1) (by simp [kS1, ins9, hz10]) (fun h => absurd h (by decide)) rfl) dX6_isSettled_41
  · obtain ⟨p, hp, rfl⟩ := inR_of hz10 (by omega)
    have ep : ix (nI p) = p := ix_nI (by omega)
    refine V.aload_n X dX6_isSettled_13 rfl ?_
    refine wM_gX6_124 X dX6_isSettled_14 ?_
    refine V.if_eq (tgt := 32) X dX6_isSettled_17 (by decide) b2i_0 b2i_n0 (fun (hz17 : rB S 41 0 = false) => ?_) (fun (hz17 : rB S 41 0 = true) => ?_)
    · refine V.iconst (v := nI 0) X dX6_isSettled_32 rfl ?_
      refine V.goto (tgt := 41) X dX6_isSettled_33 (by decide) ?_
      exact V.iret (v := b2i false) X hE rfl (nar_b _) (Nat.le_of_ble_eq_true rfl) (Nat.le_of_ble_eq_true rfl) (pM9 (j := 0) (by simp [kS1, ins9, hz10, hp, ep, hz17]) (fun h9 => (by first | rfl | (simp only [ep]; done) | simp [hz10, hp, ep, hz17])) (by first | (simp only [ep]; done) | (simp only [ep]; rfl) | rfl)) dX6_isSettled_41
    · refine V.aload_n X dX6_isSettled_20 rfl ?_
      refine V.iload_n X dX6_isSettled_21 rfl ?_
      refine V.callV1 [.int (nI p)] X (c_X6_isSettledNow l D cy am (sN S 62 (fun _ => 0)) F p hW0 (show p < (rN S 44 0) by omega)) mv_X6_isSettledNow gw_6_205 ⟨⟨(Nat.le_of_ble_eq_true rfl), (Nat.le_of_ble_eq_true rfl)⟩, (Nat.le_of_ble_eq_true rfl), (Nat.le_of_ble_eq_true rfl)⟩ (q0 := 0) (ci := 8) rfl rfl rfl (Nat.le_of_ble_eq_true rfl) dX6_isSettled_22 ?_
      refine V.top (congrArg b2i (hI.qset hz17 p)) ?_
      refine V.if_eq (tgt := 32) X dX6_isSettled_25 (by decide) b2i_0 b2i_n0 (fun (hz25 : set9 S p = false) => ?_) (fun (hz25 : set9 S p = true) => ?_)
      · refine V.iconst (v := nI 0) X dX6_isSettled_32 rfl ?_
        refine V.goto (tgt := 41) X dX6_isSettled_33 (by decide) ?_
        exact V.iret (v := b2i false) X hE rfl (nar_b _) (Nat.le_of_ble_eq_true rfl) (Nat.le_of_ble_eq_true rfl) (pM9 (j := 0) (by simp [kS1, ins9, hz10, hp, ep, hz17, hz25]) (fun h9 => (by first | rfl | (simp only [ep]; done) | simp [hz10, hp, ep, hz17, hz25])) (by first | (simp only [ep]; done) | (simp only [ep]; rfl) | rfl)) dX6_isSettled_41
      · refine V.iconst (v := nI 1) X dX6_isSettled_28 rfl ?_
        refine V.goto (tgt := 41) X dX6_isSettled_29 (by decide) ?_
        exact V.iret (v := b2i true) X hE rfl (nar_b _) (Nat.le_of_ble_eq_true rfl) (Nat.le_of_ble_eq_true rfl) (pM9 (j := 0) (by simp [kS1, ins9, hz10, hp, ep, hz17, hz25]) (fun h9 => (by first | rfl | (simp only [ep]; done) | simp [hz10, hp, ep, hz17, hz25])) (by first | (simp only [ep]; done) | (simp only [ep]; rfl) | rfl)) dX6_isSettled_41
set_option maxRecDepth 20000 in
set_option maxHeartbeats 4000000 in
theorem c_X6_isOver (l : Launch) (D : va_G) (cy : Nat → ClassId) (am : Nat → Nat) (S : St) (F : va_W) (hI : Inv S) : Ctr l D cy yX6_isOver (.code yX6_isOver cX6_isOver 1 (some FieldType.boolean)) ({ frames := 12, cells := 0, slots := 0, locals := 400 } : Room) [.ref (am 0)] (wM am cy S ++ F) (pMx (0) (b2i (rB S 41 0 && alls9 S)) (fun k9 => wM am cy (sN S 62 (fun _ => k9)) ++ F)) pNo := by
  refine Ctr.of (by decide) (Nat.le_of_ble_eq_true rfl) ?_
  intro M X hE hN hB9 hI9
  replace X : VX l D M cy cX6_isOver "RunbookerModel" (some FieldType.boolean) ({ frames := 12, cells := 0, slots := 0, locals := 400 } : Room) := X
  show V l D M 0 0 (wM am cy S ++ F) [(0, .ref (am 0))] 0 []
  have hW := hI.w
  have hB := hW.b
  have h43 := hW.n43
  have h44 := hW.n44
  have h46 := hW.n46
  have h45 := hW.n45
  have hcl := hW.cl
  have hen := hW.en
  have hW0 : Wk (sN S 62 (fun _ => 0)) := hW.s62 (fun _ => by decide)
  have hcr : cntR S ≤ rN S 44 0 := cnt9_le _ _
  refine V.aload_n X dX6_isOver_0 rfl ?_
  refine V.iconst (v := nI 0) X dX6_isOver_1 rfl ?_
  refine wM_pX6_97 (v := 0) X dX6_isOver_2 ?_
  refine V.aload_n X dX6_isOver_5 rfl ?_
  refine V.callV1 [] X (c_X6_isOverNow l D cy am (sN S 62 (fun _ => 0)) F hW0) mv_X6_isOverNow gw_7_123 ⟨⟨(Nat.le_of_ble_eq_true rfl), (Nat.le_of_ble_eq_true rfl)⟩, (Nat.le_of_ble_eq_true rfl), (Nat.le_of_ble_eq_true rfl)⟩ (q0 := 0) (ci := 8) rfl rfl rfl (Nat.le_of_ble_eq_true rfl) dX6_isOver_6 ?_
  refine V.top (congrArg b2i hI.qall) ?_
  exact V.iret (v := b2i (rB S 41 0 && alls9 S)) X hE rfl (nar_b _) (Nat.le_of_ble_eq_true rfl) (Nat.le_of_ble_eq_true rfl) (pM9 (j := 0) rfl (fun h9 => (by first | rfl | simp [])) rfl) dX6_isOver_9
set_option maxRecDepth 20000 in
set_option maxHeartbeats 4000000 in
theorem c_X6_isStuck (l : Launch) (D : va_G) (cy : Nat → ClassId) (am : Nat → Nat) (S : St) (F : va_W) (hI : Inv S) : Ctr l D cy yX6_isStuck (.code yX6_isStuck cX6_isStuck 1 (some FieldType.boolean)) ({ frames := 12, cells := 0, slots := 0, locals := 400 } : Room) [.ref (am 0)] (wM am cy S ++ F) (pMx (0) (b2i (stu9 S)) (fun k9 => wM am cy (sN S 62 (fun _ => k9)) ++ F)) pNo := by
  refine Ctr.of (by decide) (Nat.le_of_ble_eq_true rfl) ?_
  intro M X hE hN hB9 hI9
  replace X : VX l D M cy cX6_isStuck "RunbookerModel" (some FieldType.boolean) ({ frames := 12, cells := 0, slots := 0, locals := 400 } : Room) := X
  show V l D M 0 0 (wM am cy S ++ F) [(0, .ref (am 0))] 0 []
  have hW := hI.w
  have hB := hW.b
  have h43 := hW.n43
  have h44 := hW.n44
  have h46 := hW.n46
  have h45 := hW.n45
  have hcl := hW.cl
  have hen := hW.en
  have hW0 : Wk (sN S 62 (fun _ => 0)) := hW.s62 (fun _ => by decide)
  have hcr : cntR S ≤ rN S 44 0 := cnt9_le _ _
  refine V.aload_n X dX6_isStuck_0 rfl ?_
  refine V.iconst (v := nI 0) X dX6_isStuck_1 rfl ?_
  refine wM_pX6_97 (v := 0) X dX6_isStuck_2 ?_
  refine V.aload_n X dX6_isStuck_5 rfl ?_
  refine wM_gX6_124 X dX6_isStuck_6 ?_
  refine V.if_eq (tgt := 39) X dX6_isStuck_9 (by decide) b2i_0 b2i_n0 (fun (hz9 : rB S 41 0 = false) => ?_) (fun (hz9 : rB S 41 0 = true) => ?_)
  · refine V.iconst (v := nI 0) X dX6_isStuck_39 rfl ?_
    exact V.iret (v := b2i false) X hE rfl (nar_b _) (Nat.le_of_ble_eq_true rfl) (Nat.le_of_ble_eq_true rfl) (pM9 (j := 0) rfl (fun h9 => (by simp [stu9, anyA_act, hz9])) rfl) dX6_isStuck_40
  · refine V.aload_n X dX6_isStuck_12 rfl ?_
    refine V.callV1 [] X (c_X6_isOverNow l D cy am (sN S 62 (fun _ => 0)) F hW0) mv_X6_isOverNow gw_7_123 ⟨⟨(Nat.le_of_ble_eq_true rfl), (Nat.le_of_ble_eq_true rfl)⟩, (Nat.le_of_ble_eq_true rfl), (Nat.le_of_ble_eq_true rfl)⟩ (q0 := 0) (ci := 8) rfl rfl rfl (Nat.le_of_ble_eq_true rfl) dX6_isStuck_13 ?_
    refine V.top (congrArg b2i hI.qall) ?_
    refine V.if_ne (tgt := 39) X dX6_isStuck_16 (by decide) b2i_n0 b2i_0 (fun (hz16 : (rB S 41 0 && alls9 S) = true) => ?_) (fun (hz16 : (rB S 41 0 && alls9 S) = false) => ?_)
    · refine V.iconst (v := nI 0) X dX6_isStuck_39 rfl ?_
      exact V.iret (v := b2i false) X hE rfl (nar_b _) (Nat.le_of_ble_eq_true rfl) (Nat.le_of_ble_eq_true rfl) (pM9 (j := 0) rfl (fun h9 => (by simp [stu9, anyA_act, hz9, (show alls9 S = true by simpa [hz9] using hz16)])) rfl) dX6_isStuck_40
    · refine V.aload_n X dX6_isStuck_19 rfl ?_
      refine V.bipush (v := nI 97) X dX6_isStuck_20 (by decide) ?_
      refine V.callV1 [.int (c2i 97)] X (c_X6_many l D cy am (sN S 62 (fun _ => 0)) F 97 (hW0.b) (show (rN S 44 0) ≤ 16 by omega)) mv_X6_many gw_6_221 ⟨⟨(Nat.le_of_ble_eq_true rfl), (Nat.le_of_ble_eq_true rfl)⟩, (Nat.le_of_ble_eq_true rfl), (Nat.le_of_ble_eq_true rfl)⟩ (q0 := 0) (ci := 8) rfl rfl rfl (Nat.le_of_ble_eq_true rfl) dX6_isStuck_22 ?_
      refine V.top (congrArg nI (hI.many hz9)) ?_
      refine V.if_ne (tgt := 39) X dX6_isStuck_25 (by decide) cN_ne (cN_eq (by have := cnt9_le (fun s => decide (rC S 22 s = 97)) (rN S 46 0); unfold actN; omega) (by decide)) (fun (hz25 : ¬ actN S = 0) => ?_) (fun (hz25 : actN S = 0) => ?_)
      · refine V.iconst (v := nI 0) X dX6_isStuck_39 rfl ?_
        exact V.iret (v := b2i false) X hE rfl (nar_b _) (Nat.le_of_ble_eq_true rfl) (Nat.le_of_ble_eq_true rfl) (pM9 (j := 0) rfl (fun h9 => (by simp [stu9, anyA_act, hz9, (show alls9 S = false by simpa [hz9] using hz16), Nat.pos_of_ne_zero hz25])) rfl) dX6_isStuck_40
      · refine V.aload_n X dX6_isStuck_28 rfl ?_
        refine V.callV1 [] X (c_X6_readyMany l D cy am (sN S 62 (fun _ => 0)) F hW0) mv_X6_readyMany gw_6_193 ⟨⟨(Nat.le_of_ble_eq_true rfl), (Nat.le_of_ble_eq_true rfl)⟩, (Nat.le_of_ble_eq_true rfl), (Nat.le_of_ble_eq_true rfl)⟩ (q0 := 0) (ci := 8) rfl rfl rfl (Nat.le_of_ble_eq_true rfl) dX6_isStuck_29 ?_
        refine V.top (congrArg nI hI.qcnt) ?_
        refine V.if_ne (tgt := 39) X dX6_isStuck_32 (by decide) cN_ne (cN_eq (by have := cnt9_le (rdy9 S) (rN S 44 0); unfold cntR; omega) (by decide)) (fun (hz32 : ¬ cntR S = 0) => ?_) (fun (hz32 : cntR S = 0) => ?_)
        · refine V.iconst (v := nI 0) X dX6_isStuck_39 rfl ?_
          exact V.iret (v := b2i false) X hE rfl (nar_b _) (Nat.le_of_ble_eq_true rfl) (Nat.le_of_ble_eq_true rfl) (pM9 (j := 0) rfl (fun h9 => (by simp [stu9, anyA_act, hz9, (show alls9 S = false by simpa [hz9] using hz16), hz25, hz32])) rfl) dX6_isStuck_40
        · refine V.iconst (v := nI 1) X dX6_isStuck_35 rfl ?_
          refine V.goto (tgt := 40) X dX6_isStuck_36 (by decide) ?_
          exact V.iret (v := b2i true) X hE rfl (nar_b _) (Nat.le_of_ble_eq_true rfl) (Nat.le_of_ble_eq_true rfl) (pM9 (j := 0) rfl (fun h9 => (by simp [stu9, anyA_act, hz9, (show alls9 S = false by simpa [hz9] using hz16), hz25, hz32])) rfl) dX6_isStuck_40
set_option maxRecDepth 20000 in
set_option maxHeartbeats 4000000 in
theorem c_X6_handoverEnd (l : Launch) (D : va_G) (cy : Nat → ClassId) (am : Nat → Nat) (S : St) (F : va_W) (hI : Inv S) : Ctr l D cy yX6_handoverEnd (.code yX6_handoverEnd cX6_handoverEnd 1 (some FieldType.int)) ({ frames := 12, cells := 0, slots := 0, locals := 400 } : Room) [.ref (am 0)] (wM am cy S ++ F) (pMx (kHE S) (nI (rN S 49 0)) (fun k9 => wM am cy (sN S 62 (fun _ => k9)) ++ F)) pNo := by
  refine Ctr.of (by decide) (Nat.le_of_ble_eq_true rfl) ?_
  intro M X hE hN hB9 hI9
  replace X : VX l D M cy cX6_handoverEnd "RunbookerModel" (some FieldType.int) ({ frames := 12, cells := 0, slots := 0, locals := 400 } : Room) := X
  show V l D M 0 0 (wM am cy S ++ F) [(0, .ref (am 0))] 0 []
  have hW := hI.w
  have hB := hW.b
  have h43 := hW.n43
  have h44 := hW.n44
  have h46 := hW.n46
  have h45 := hW.n45
  have hcl := hW.cl
  have hen := hW.en
  have hW0 : Wk (sN S 62 (fun _ => 0)) := hW.s62 (fun _ => by decide)
  have hcr : cntR S ≤ rN S 44 0 := cnt9_le _ _
  refine V.aload_n X dX6_handoverEnd_0 rfl ?_
  refine V.iconst (v := nI 0) X dX6_handoverEnd_1 rfl ?_
  refine wM_pX6_97 (v := 0) X dX6_handoverEnd_2 ?_
  refine V.aload_n X dX6_handoverEnd_5 rfl ?_
  refine wM_gX6_75 X dX6_handoverEnd_6 ?_
  refine V.iconst (v := o2i none) X dX6_handoverEnd_9 rfl ?_
  refine V.icmp_ne (tgt := 21) X dX6_handoverEnd_10 (by decide) (cO_ne (a := rO S 47 0) (b := none)) (cO_eq (a := rO S 47 0) (b := none) (hB.o 47 _) lt_none) (fun (hz10 : ¬ rO S 47 0 = none) => ?_) (fun (hz10 : rO S 47 0 = none) => ?_)
  · refine V.aload_n X dX6_handoverEnd_21 rfl ?_
    refine wM_gX6_196 X dX6_handoverEnd_22 ?_
    exact V.iret (v := nI (rN S 49 0)) X hE rfl rfl (Nat.le_of_ble_eq_true rfl) (Nat.le_of_ble_eq_true rfl) (pM9 (j := 0) (by simp [kHE, hz10]) (fun h9 => (by first | rfl | simp [hz10])) rfl) dX6_handoverEnd_25
  · refine V.aload_n X dX6_handoverEnd_13 rfl ?_
    refine V.iconst (v := nI 1) X dX6_handoverEnd_14 rfl ?_
    refine V.callV1 [.int (nI 1)] X (c_X6_fails l D cy am (sN S 62 (fun _ => 0)) F 1) mv_X6_fails gw_6_132 ⟨⟨(Nat.le_of_ble_eq_true rfl), (Nat.le_of_ble_eq_true rfl)⟩, (Nat.le_of_ble_eq_true rfl), (Nat.le_of_ble_eq_true rfl)⟩ (q0 := 0) (ci := 8) rfl rfl rfl (Nat.le_of_ble_eq_true rfl) dX6_handoverEnd_15 ?_
    refine V.goto (tgt := 25) X dX6_handoverEnd_18 (by decide) ?_
    exact V.iret (v := nI 0) X hE rfl rfl (Nat.le_of_ble_eq_true rfl) (Nat.le_of_ble_eq_true rfl) (pM9 (j := 1) (by simp [kHE, hz10]) (fun h => absurd h (by decide)) rfl) dX6_handoverEnd_25
set_option maxRecDepth 20000 in
set_option maxHeartbeats 4000000 in
theorem c_X6_isPaused (l : Launch) (D : va_G) (cy : Nat → ClassId) (am : Nat → Nat) (S : St) (F : va_W) (y : Int32) (hI : Inv S) : Ctr l D cy yX6_isPaused (.code yX6_isPaused cX6_isPaused 2 (some FieldType.boolean)) ({ frames := 12, cells := 0, slots := 0, locals := 400 } : Room) [.ref (am 0), .int y] (wM am cy S ++ F) (pMx (kR1 y) (b2i (paus9 S y)) (fun k9 => wM am cy (sN S 62 (fun _ => k9)) ++ F)) pNo := by
  refine Ctr.of (by decide) (Nat.le_of_ble_eq_true rfl) ?_
  intro M X hE hN hB9 hI9
  replace X : VX l D M cy cX6_isPaused "RunbookerModel" (some FieldType.boolean) ({ frames := 12, cells := 0, slots := 0, locals := 400 } : Room) := X
  show V l D M 0 0 (wM am cy S ++ F) [(0, .ref (am 0)), (1, .int y)] 0 []
  have hW := hI.w
  have hB := hW.b
  have h43 := hW.n43
  have h44 := hW.n44
  have h46 := hW.n46
  have h45 := hW.n45
  have hcl := hW.cl
  have hen := hW.en
  have hW0 : Wk (sN S 62 (fun _ => 0)) := hW.s62 (fun _ => by decide)
  have hcr : cntR S ≤ rN S 44 0 := cnt9_le _ _
  refine V.aload_n X dX6_isPaused_0 rfl ?_
  refine V.iconst (v := nI 0) X dX6_isPaused_1 rfl ?_
  refine wM_pX6_97 (v := 0) X dX6_isPaused_2 ?_
  refine V.iload_n X dX6_isPaused_5 rfl ?_
  refine V.iconst (v := nI 0) X dX6_isPaused_6 rfl ?_
  refine V.iconst (v := nI 3) X dX6_isPaused_7 rfl ?_
  refine V.callS1 [.int y, .int (nI 0), .int (nI 3)] X (c_X6_isBetween l D cy am (sN S 62 (fun _ => 0)) F y (nI 0) (nI 3)) ms_X6_isBetween gw_6_129 ⟨⟨(Nat.le_of_ble_eq_true rfl), (Nat.le_of_ble_eq_true rfl)⟩, (Nat.le_of_ble_eq_true rfl), (Nat.le_of_ble_eq_true rfl)⟩ rfl (Nat.le_of_ble_eq_true rfl) dX6_isPaused_8 ?_
  refine V.top (congrArg b2i (btw3 y)) ?_
  refine V.if_eq (tgt := 22) X dX6_isPaused_11 (by decide) b2i_0 b2i_n0 (fun (hz11 : inR y 4 = false) => ?_) (fun (hz11 : inR y 4 = true) => ?_)
  · refine V.aload_n X dX6_isPaused_22 rfl ?_
    refine V.iconst (v := nI 1) X dX6_isPaused_23 rfl ?_
    refine V.callV1 [.int (nI 1)] X (c_X6_isWrong l D cy am (sN S 62 (fun _ => 0)) F 1) mv_X6_isWrong gw_6_144 ⟨⟨(Nat.le_of_ble_eq_true rfl), (Nat.le_of_ble_eq_true rfl)⟩, (Nat.le_of_ble_eq_true rfl), (Nat.le_of_ble_eq_true rfl)⟩ (q0 := 0) (ci := 8) rfl rfl rfl (Nat.le_of_ble_eq_true rfl) dX6_isPaused_24 ?_
    exact V.iret (v := b2i false) X hE rfl (nar_b _) (Nat.le_of_ble_eq_true rfl) (Nat.le_of_ble_eq_true rfl) (pM9 (j := 1) (by simp [kR1, hz11]) (fun h => absurd h (by decide)) rfl) dX6_isPaused_27
  · refine V.aload_n X dX6_isPaused_14 rfl ?_
    refine V.iload_n X dX6_isPaused_15 rfl ?_
    refine V.callV1 [.int y] X (c_X6_isPausedNow l D cy am (sN S 62 (fun _ => 0)) F y hW0) mv_X6_isPausedNow gw_6_233 ⟨⟨(Nat.le_of_ble_eq_true rfl), (Nat.le_of_ble_eq_true rfl)⟩, (Nat.le_of_ble_eq_true rfl), (Nat.le_of_ble_eq_true rfl)⟩ (q0 := 0) (ci := 8) rfl rfl rfl (Nat.le_of_ble_eq_true rfl) dX6_isPaused_16 ?_
    refine V.goto (tgt := 27) X dX6_isPaused_19 (by decide) ?_
    exact V.iret (v := b2i (paus9 S y)) X hE rfl (nar_b _) (Nat.le_of_ble_eq_true rfl) (Nat.le_of_ble_eq_true rfl) (pM9 (j := 0) (by simp [kR1, hz11]) (fun h9 => (by first | rfl | simp [hz11])) rfl) dX6_isPaused_27
set_option maxRecDepth 20000 in
set_option maxHeartbeats 4000000 in
theorem c_X6_lastDone (l : Launch) (D : va_G) (cy : Nat → ClassId) (am : Nat → Nat) (S : St) (F : va_W) (hI : Inv S) : Ctr l D cy yX6_lastDone (.code yX6_lastDone cX6_lastDone 1 (some FieldType.int)) ({ frames := 12, cells := 0, slots := 0, locals := 400 } : Room) [.ref (am 0)] (wM am cy S ++ F) (pMx (kLD S) (o2i (ltd9 S)) (fun k9 => wM am cy (sN S 62 (fun _ => k9)) ++ F)) pNo := by
  refine Ctr.of (by decide) (Nat.le_of_ble_eq_true rfl) ?_
  intro M X hE hN hB9 hI9
  replace X : VX l D M cy cX6_lastDone "RunbookerModel" (some FieldType.int) ({ frames := 12, cells := 0, slots := 0, locals := 400 } : Room) := X
  show V l D M 0 0 (wM am cy S ++ F) [(0, .ref (am 0))] 0 []
  have hW := hI.w
  have hB := hW.b
  have h43 := hW.n43
  have h44 := hW.n44
  have h46 := hW.n46
  have h45 := hW.n45
  have hcl := hW.cl
  have hen := hW.en
  have hW0 : Wk (sN S 62 (fun _ => 0)) := hW.s62 (fun _ => by decide)
  have hcr : cntR S ≤ rN S 44 0 := cnt9_le _ _
  refine V.aload_n X dX6_lastDone_0 rfl ?_
  refine V.iconst (v := nI 0) X dX6_lastDone_1 rfl ?_
  refine wM_pX6_97 (v := 0) X dX6_lastDone_2 ?_
  refine V.aload_n X dX6_lastDone_5 rfl ?_
  refine wM_gX6_124 X dX6_lastDone_6 ?_
  refine V.if_eq (tgt := 33) X dX6_lastDone_9 (by decide) b2i_0 b2i_n0 (fun (hz9 : rB S 41 0 = false) => ?_) (fun (hz9 : rB S 41 0 = true) => ?_)
  · refine V.aload_n X dX6_lastDone_33 rfl ?_
    refine V.iconst (v := nI 1) X dX6_lastDone_34 rfl ?_
    refine V.callV1 [.int (nI 1)] X (c_X6_fails l D cy am (sN S 62 (fun _ => 0)) F 1) mv_X6_fails gw_6_132 ⟨⟨(Nat.le_of_ble_eq_true rfl), (Nat.le_of_ble_eq_true rfl)⟩, (Nat.le_of_ble_eq_true rfl), (Nat.le_of_ble_eq_true rfl)⟩ (q0 := 0) (ci := 8) rfl rfl rfl (Nat.le_of_ble_eq_true rfl) dX6_lastDone_35 ?_
    exact V.iret (v := o2i (some 0)) X hE rfl rfl (Nat.le_of_ble_eq_true rfl) (Nat.le_of_ble_eq_true rfl) (pM9 (j := 1) (by simp [kLD, ltd9, hz9]) (fun h => absurd h (by decide)) rfl) dX6_lastDone_38
  · refine V.aload_n X dX6_lastDone_12 rfl ?_
    refine wM_gX6_171 X dX6_lastDone_13 ?_
    refine V.if_le (tgt := 33) X dX6_lastDone_16 (by decide) (cN_le (hB.n 45 _) (by decide)) (cN_nle (hB.n 45 _) (by decide)) (fun (hz16 : rN S 45 0 ≤ 0) => ?_) (fun (hz16 : 0 < rN S 45 0) => ?_)
    · have h45z : rN S 45 0 = 0 := by omega
      refine V.aload_n X dX6_lastDone_33 rfl ?_
      refine V.iconst (v := nI 1) X dX6_lastDone_34 rfl ?_
      refine V.callV1 [.int (nI 1)] X (c_X6_fails l D cy am (sN S 62 (fun _ => 0)) F 1) mv_X6_fails gw_6_132 ⟨⟨(Nat.le_of_ble_eq_true rfl), (Nat.le_of_ble_eq_true rfl)⟩, (Nat.le_of_ble_eq_true rfl), (Nat.le_of_ble_eq_true rfl)⟩ (q0 := 0) (ci := 8) rfl rfl rfl (Nat.le_of_ble_eq_true rfl) dX6_lastDone_35 ?_
      exact V.iret (v := o2i (some 0)) X hE rfl rfl (Nat.le_of_ble_eq_true rfl) (Nat.le_of_ble_eq_true rfl) (pM9 (j := 1) (by simp [kLD, ltd9, hz9, hz16, (Nat.not_lt.mpr hz16), h45z]) (fun h => absurd h (by decide)) rfl) dX6_lastDone_38
    · have h45z : ¬ rN S 45 0 = 0 := by omega
      refine V.aload_n X dX6_lastDone_19 rfl ?_
      refine wM_gX6_72 X dX6_lastDone_20 ?_
      refine V.aload_n X dX6_lastDone_23 rfl ?_
      refine wM_gX6_171 X dX6_lastDone_24 ?_
      refine V.iconst (v := nI 1) X dX6_lastDone_27 rfl ?_
      refine V.isub (v := nI ((rN S 45 0) - 1)) X dX6_lastDone_28 (pk_sub (show 1 ≤ rN S 45 0 by omega)) ?_
      refine wM_ld21 (i := (rN S 45 0) - 1) X (by omega) dX6_lastDone_29 ?_
      refine V.goto (tgt := 38) X dX6_lastDone_30 (by decide) ?_
      exact V.iret (v := o2i (some (rN S 28 ((rN S 45 0) - 1)))) X hE rfl rfl (Nat.le_of_ble_eq_true rfl) (Nat.le_of_ble_eq_true rfl) (pM9 (j := 0) (by simp [kLD, ltd9, hz9, hz16, (Nat.not_le.mpr hz16), h45z]) (fun h9 => (by first | rfl | (simp only [ltd9]; done) | simp [ltd9, hz9, hz16, (Nat.not_le.mpr hz16), h45z])) rfl) dX6_lastDone_38
set_option maxRecDepth 20000 in
set_option maxHeartbeats 4000000 in
theorem c_X6_signAt (l : Launch) (D : va_G) (cy : Nat → ClassId) (am : Nat → Nat) (S : St) (F : va_W) (x : Int32) (hI : Inv S) : Ctr l D cy yX6_signAt (.code yX6_signAt cX6_signAt 2 (some FieldType.char)) ({ frames := 12, cells := 0, slots := 0, locals := 400 } : Room) [.ref (am 0), .int x] (wM am cy S ++ F) (pMx (kE1 S x) (c2i (rC S 29 (ix x))) (fun k9 => wM am cy (sN S 62 (fun _ => k9)) ++ F)) pNo := by
  refine Ctr.of (by decide) (Nat.le_of_ble_eq_true rfl) ?_
  intro M X hE hN hB9 hI9
  replace X : VX l D M cy cX6_signAt "RunbookerModel" (some FieldType.char) ({ frames := 12, cells := 0, slots := 0, locals := 400 } : Room) := X
  show V l D M 0 0 (wM am cy S ++ F) [(0, .ref (am 0)), (1, .int x)] 0 []
  have hW := hI.w
  have hB := hW.b
  have h43 := hW.n43
  have h44 := hW.n44
  have h46 := hW.n46
  have h45 := hW.n45
  have hcl := hW.cl
  have hen := hW.en
  have hW0 : Wk (sN S 62 (fun _ => 0)) := hW.s62 (fun _ => by decide)
  have hcr : cntR S ≤ rN S 44 0 := cnt9_le _ _
  refine V.aload_n X dX6_signAt_0 rfl ?_
  refine V.iconst (v := nI 0) X dX6_signAt_1 rfl ?_
  refine wM_pX6_97 (v := 0) X dX6_signAt_2 ?_
  refine V.aload_n X dX6_signAt_5 rfl ?_
  refine V.iload_n X dX6_signAt_6 rfl ?_
  refine V.callV1 [.int x] X (c_X6_isEntry l D cy am (sN S 62 (fun _ => 0)) F x (hW0.b)) mv_X6_isEntry gw_7_155 ⟨⟨(Nat.le_of_ble_eq_true rfl), (Nat.le_of_ble_eq_true rfl)⟩, (Nat.le_of_ble_eq_true rfl), (Nat.le_of_ble_eq_true rfl)⟩ (q0 := 0) (ci := 8) rfl rfl rfl (Nat.le_of_ble_eq_true rfl) dX6_signAt_7 ?_
  refine V.if_eq (tgt := 22) X dX6_signAt_10 (by decide) b2i_0 b2i_n0 (fun (hz10 : inR x (rN S 50 0) = false) => ?_) (fun (hz10 : inR x (rN S 50 0) = true) => ?_)
  · refine V.aload_n X dX6_signAt_22 rfl ?_
    refine V.iconst (v := nI 1) X dX6_signAt_23 rfl ?_
    refine V.callV1 [.int (nI 1)] X (c_X6_fails l D cy am (sN S 62 (fun _ => 0)) F 1) mv_X6_fails gw_6_132 ⟨⟨(Nat.le_of_ble_eq_true rfl), (Nat.le_of_ble_eq_true rfl)⟩, (Nat.le_of_ble_eq_true rfl), (Nat.le_of_ble_eq_true rfl)⟩ (q0 := 0) (ci := 8) rfl rfl rfl (Nat.le_of_ble_eq_true rfl) dX6_signAt_24 ?_
    refine V.i2c (v := nI 0) X dX6_signAt_27 (by decide) ?_
    exact V.iret (v := c2i 0) X hE rfl (nar_c _) (Nat.le_of_ble_eq_true rfl) (Nat.le_of_ble_eq_true rfl) (pM9 (j := 1) (by simp [kE1, hz10]) (fun h => absurd h (by decide)) rfl) dX6_signAt_28
  · obtain ⟨p, hp, rfl⟩ := inR_of hz10 (by omega)
    have ep : ix (nI p) = p := ix_nI (by omega)
    refine V.aload_n X dX6_signAt_13 rfl ?_
    refine wM_gX6_82 X dX6_signAt_14 ?_
    refine V.iload_n X dX6_signAt_17 rfl ?_
    refine wM_ld22 (i := p) X (by omega) dX6_signAt_18 ?_
    refine V.goto (tgt := 28) X dX6_signAt_19 (by decide) ?_
    exact V.iret (v := c2i (rC S 29 p)) X hE rfl (nar_c _) (Nat.le_of_ble_eq_true rfl) (Nat.le_of_ble_eq_true rfl) (pM9 (j := 0) (by simp [kE1, hz10, hp, ep]) (fun h9 => (by first | rfl | (simp only [ep]; done) | simp [hz10, hp, ep])) (by first | (simp only [ep]; done) | (simp only [ep]; rfl) | rfl)) dX6_signAt_28
set_option maxRecDepth 20000 in
set_option maxHeartbeats 4000000 in
theorem c_X6_stepAt (l : Launch) (D : va_G) (cy : Nat → ClassId) (am : Nat → Nat) (S : St) (F : va_W) (x : Int32) (hI : Inv S) : Ctr l D cy yX6_stepAt (.code yX6_stepAt cX6_stepAt 2 (some FieldType.int)) ({ frames := 12, cells := 0, slots := 0, locals := 400 } : Room) [.ref (am 0), .int x] (wM am cy S ++ F) (pMx (kE1 S x) (o2i (rO S 30 (ix x))) (fun k9 => wM am cy (sN S 62 (fun _ => k9)) ++ F)) pNo := by
  refine Ctr.of (by decide) (Nat.le_of_ble_eq_true rfl) ?_
  intro M X hE hN hB9 hI9
  replace X : VX l D M cy cX6_stepAt "RunbookerModel" (some FieldType.int) ({ frames := 12, cells := 0, slots := 0, locals := 400 } : Room) := X
  show V l D M 0 0 (wM am cy S ++ F) [(0, .ref (am 0)), (1, .int x)] 0 []
  have hW := hI.w
  have hB := hW.b
  have h43 := hW.n43
  have h44 := hW.n44
  have h46 := hW.n46
  have h45 := hW.n45
  have hcl := hW.cl
  have hen := hW.en
  have hW0 : Wk (sN S 62 (fun _ => 0)) := hW.s62 (fun _ => by decide)
  have hcr : cntR S ≤ rN S 44 0 := cnt9_le _ _
  refine V.aload_n X dX6_stepAt_0 rfl ?_
  refine V.iconst (v := nI 0) X dX6_stepAt_1 rfl ?_
  refine wM_pX6_97 (v := 0) X dX6_stepAt_2 ?_
  refine V.aload_n X dX6_stepAt_5 rfl ?_
  refine V.iload_n X dX6_stepAt_6 rfl ?_
  refine V.callV1 [.int x] X (c_X6_isEntry l D cy am (sN S 62 (fun _ => 0)) F x (hW0.b)) mv_X6_isEntry gw_7_155 ⟨⟨(Nat.le_of_ble_eq_true rfl), (Nat.le_of_ble_eq_true rfl)⟩, (Nat.le_of_ble_eq_true rfl), (Nat.le_of_ble_eq_true rfl)⟩ (q0 := 0) (ci := 8) rfl rfl rfl (Nat.le_of_ble_eq_true rfl) dX6_stepAt_7 ?_
  refine V.if_eq (tgt := 22) X dX6_stepAt_10 (by decide) b2i_0 b2i_n0 (fun (hz10 : inR x (rN S 50 0) = false) => ?_) (fun (hz10 : inR x (rN S 50 0) = true) => ?_)
  · refine V.aload_n X dX6_stepAt_22 rfl ?_
    refine V.iconst (v := nI 1) X dX6_stepAt_23 rfl ?_
    refine V.callV1 [.int (nI 1)] X (c_X6_fails l D cy am (sN S 62 (fun _ => 0)) F 1) mv_X6_fails gw_6_132 ⟨⟨(Nat.le_of_ble_eq_true rfl), (Nat.le_of_ble_eq_true rfl)⟩, (Nat.le_of_ble_eq_true rfl), (Nat.le_of_ble_eq_true rfl)⟩ (q0 := 0) (ci := 8) rfl rfl rfl (Nat.le_of_ble_eq_true rfl) dX6_stepAt_24 ?_
    exact V.iret (v := o2i (some 0)) X hE rfl rfl (Nat.le_of_ble_eq_true rfl) (Nat.le_of_ble_eq_true rfl) (pM9 (j := 1) (by simp [kE1, hz10]) (fun h => absurd h (by decide)) rfl) dX6_stepAt_27
  · obtain ⟨p, hp, rfl⟩ := inR_of hz10 (by omega)
    have ep : ix (nI p) = p := ix_nI (by omega)
    refine V.aload_n X dX6_stepAt_13 rfl ?_
    refine wM_gX6_85 X dX6_stepAt_14 ?_
    refine V.iload_n X dX6_stepAt_17 rfl ?_
    refine wM_ld23 (i := p) X (by omega) dX6_stepAt_18 ?_
    refine V.goto (tgt := 27) X dX6_stepAt_19 (by decide) ?_
    exact V.iret (v := o2i (rO S 30 p)) X hE rfl rfl (Nat.le_of_ble_eq_true rfl) (Nat.le_of_ble_eq_true rfl) (pM9 (j := 0) (by simp [kE1, hz10, hp, ep]) (fun h9 => (by first | rfl | (simp only [ep]; done) | simp [hz10, hp, ep])) (by first | (simp only [ep]; done) | (simp only [ep]; rfl) | rfl)) dX6_stepAt_27
set_option maxRecDepth 20000 in
set_option maxHeartbeats 4000000 in
theorem c_X6_personAt (l : Launch) (D : va_G) (cy : Nat → ClassId) (am : Nat → Nat) (S : St) (F : va_W) (x : Int32) (hI : Inv S) : Ctr l D cy yX6_personAt (.code yX6_personAt cX6_personAt 2 (some FieldType.int)) ({ frames := 12, cells := 0, slots := 0, locals := 400 } : Room) [.ref (am 0), .int x] (wM am cy S ++ F) (pMx (kE1 S x) (o2i (rO S 31 (ix x))) (fun k9 => wM am cy (sN S 62 (fun _ => k9)) ++ F)) pNo := by
  refine Ctr.of (by decide) (Nat.le_of_ble_eq_true rfl) ?_
  intro M X hE hN hB9 hI9
  replace X : VX l D M cy cX6_personAt "RunbookerModel" (some FieldType.int) ({ frames := 12, cells := 0, slots := 0, locals := 400 } : Room) := X
  show V l D M 0 0 (wM am cy S ++ F) [(0, .ref (am 0)), (1, .int x)] 0 []
  have hW := hI.w
  have hB := hW.b
  have h43 := hW.n43
  have h44 := hW.n44
  have h46 := hW.n46
  have h45 := hW.n45
  have hcl := hW.cl
  have hen := hW.en
  have hW0 : Wk (sN S 62 (fun _ => 0)) := hW.s62 (fun _ => by decide)
  have hcr : cntR S ≤ rN S 44 0 := cnt9_le _ _
  refine V.aload_n X dX6_personAt_0 rfl ?_
  refine V.iconst (v := nI 0) X dX6_personAt_1 rfl ?_
  refine wM_pX6_97 (v := 0) X dX6_personAt_2 ?_
  refine V.aload_n X dX6_personAt_5 rfl ?_
  refine V.iload_n X dX6_personAt_6 rfl ?_
  refine V.callV1 [.int x] X (c_X6_isEntry l D cy am (sN S 62 (fun _ => 0)) F x (hW0.b)) mv_X6_isEntry gw_7_155 ⟨⟨(Nat.le_of_ble_eq_true rfl), (Nat.le_of_ble_eq_true rfl)⟩, (Nat.le_of_ble_eq_true rfl), (Nat.le_of_ble_eq_true rfl)⟩ (q0 := 0) (ci := 8) rfl rfl rfl (Nat.le_of_ble_eq_true rfl) dX6_personAt_7 ?_
  refine V.if_eq (tgt := 22) X dX6_personAt_10 (by decide) b2i_0 b2i_n0 (fun (hz10 : inR x (rN S 50 0) = false) => ?_) (fun (hz10 : inR x (rN S 50 0) = true) => ?_)
  · refine V.aload_n X dX6_personAt_22 rfl ?_
    refine V.iconst (v := nI 1) X dX6_personAt_23 rfl ?_
    refine V.callV1 [.int (nI 1)] X (c_X6_fails l D cy am (sN S 62 (fun _ => 0)) F 1) mv_X6_fails gw_6_132 ⟨⟨(Nat.le_of_ble_eq_true rfl), (Nat.le_of_ble_eq_true rfl)⟩, (Nat.le_of_ble_eq_true rfl), (Nat.le_of_ble_eq_true rfl)⟩ (q0 := 0) (ci := 8) rfl rfl rfl (Nat.le_of_ble_eq_true rfl) dX6_personAt_24 ?_
    exact V.iret (v := o2i (some 0)) X hE rfl rfl (Nat.le_of_ble_eq_true rfl) (Nat.le_of_ble_eq_true rfl) (pM9 (j := 1) (by simp [kE1, hz10]) (fun h => absurd h (by decide)) rfl) dX6_personAt_27
  · obtain ⟨p, hp, rfl⟩ := inR_of hz10 (by omega)
    have ep : ix (nI p) = p := ix_nI (by omega)
    refine V.aload_n X dX6_personAt_13 rfl ?_
    refine wM_gX6_88 X dX6_personAt_14 ?_
    refine V.iload_n X dX6_personAt_17 rfl ?_
    refine wM_ld24 (i := p) X (by omega) dX6_personAt_18 ?_
    refine V.goto (tgt := 27) X dX6_personAt_19 (by decide) ?_
    exact V.iret (v := o2i (rO S 31 p)) X hE rfl rfl (Nat.le_of_ble_eq_true rfl) (Nat.le_of_ble_eq_true rfl) (pM9 (j := 0) (by simp [kE1, hz10, hp, ep]) (fun h9 => (by first | rfl | (simp only [ep]; done) | simp [hz10, hp, ep])) (by first | (simp only [ep]; done) | (simp only [ep]; rfl) | rfl)) dX6_personAt_27
set_option maxRecDepth 20000 in
set_option maxHeartbeats 4000000 in
theorem c_X6_minuteAt (l : Launch) (D : va_G) (cy : Nat → ClassId) (am : Nat → Nat) (S : St) (F : va_W) (x : Int32) (hI : Inv S) : Ctr l D cy yX6_minuteAt (.code yX6_minuteAt cX6_minuteAt 2 (some FieldType.int)) ({ frames := 12, cells := 0, slots := 0, locals := 400 } : Room) [.ref (am 0), .int x] (wM am cy S ++ F) (pMx (kE1 S x) (nI (rN S 32 (ix x))) (fun k9 => wM am cy (sN S 62 (fun _ => k9)) ++ F)) pNo := by
  refine Ctr.of (by decide) (Nat.le_of_ble_eq_true rfl) ?_
  intro M X hE hN hB9 hI9
  replace X : VX l D M cy cX6_minuteAt "RunbookerModel" (some FieldType.int) ({ frames := 12, cells := 0, slots := 0, locals := 400 } : Room) := X
  show V l D M 0 0 (wM am cy S ++ F) [(0, .ref (am 0)), (1, .int x)] 0 []
  have hW := hI.w
  have hB := hW.b
  have h43 := hW.n43
  have h44 := hW.n44
  have h46 := hW.n46
  have h45 := hW.n45
  have hcl := hW.cl
  have hen := hW.en
  have hW0 : Wk (sN S 62 (fun _ => 0)) := hW.s62 (fun _ => by decide)
  have hcr : cntR S ≤ rN S 44 0 := cnt9_le _ _
  refine V.aload_n X dX6_minuteAt_0 rfl ?_
  refine V.iconst (v := nI 0) X dX6_minuteAt_1 rfl ?_
  refine wM_pX6_97 (v := 0) X dX6_minuteAt_2 ?_
  refine V.aload_n X dX6_minuteAt_5 rfl ?_
  refine V.iload_n X dX6_minuteAt_6 rfl ?_
  refine V.callV1 [.int x] X (c_X6_isEntry l D cy am (sN S 62 (fun _ => 0)) F x (hW0.b)) mv_X6_isEntry gw_7_155 ⟨⟨(Nat.le_of_ble_eq_true rfl), (Nat.le_of_ble_eq_true rfl)⟩, (Nat.le_of_ble_eq_true rfl), (Nat.le_of_ble_eq_true rfl)⟩ (q0 := 0) (ci := 8) rfl rfl rfl (Nat.le_of_ble_eq_true rfl) dX6_minuteAt_7 ?_
  refine V.if_eq (tgt := 22) X dX6_minuteAt_10 (by decide) b2i_0 b2i_n0 (fun (hz10 : inR x (rN S 50 0) = false) => ?_) (fun (hz10 : inR x (rN S 50 0) = true) => ?_)
  · refine V.aload_n X dX6_minuteAt_22 rfl ?_
    refine V.iconst (v := nI 1) X dX6_minuteAt_23 rfl ?_
    refine V.callV1 [.int (nI 1)] X (c_X6_fails l D cy am (sN S 62 (fun _ => 0)) F 1) mv_X6_fails gw_6_132 ⟨⟨(Nat.le_of_ble_eq_true rfl), (Nat.le_of_ble_eq_true rfl)⟩, (Nat.le_of_ble_eq_true rfl), (Nat.le_of_ble_eq_true rfl)⟩ (q0 := 0) (ci := 8) rfl rfl rfl (Nat.le_of_ble_eq_true rfl) dX6_minuteAt_24 ?_
    exact V.iret (v := nI 0) X hE rfl rfl (Nat.le_of_ble_eq_true rfl) (Nat.le_of_ble_eq_true rfl) (pM9 (j := 1) (by simp [kE1, hz10]) (fun h => absurd h (by decide)) rfl) dX6_minuteAt_27
  · obtain ⟨p, hp, rfl⟩ := inR_of hz10 (by omega)
    have ep : ix (nI p) = p := ix_nI (by omega)
    refine V.aload_n X dX6_minuteAt_13 rfl ?_
    refine wM_gX6_91 X dX6_minuteAt_14 ?_
    refine V.iload_n X dX6_minuteAt_17 rfl ?_
    refine wM_ld25 (i := p) X (by omega) dX6_minuteAt_18 ?_
    refine V.goto (tgt := 27) X dX6_minuteAt_19 (by decide) ?_
    exact V.iret (v := nI (rN S 32 p)) X hE rfl rfl (Nat.le_of_ble_eq_true rfl) (Nat.le_of_ble_eq_true rfl) (pM9 (j := 0) (by simp [kE1, hz10, hp, ep]) (fun h9 => (by first | rfl | (simp only [ep]; done) | simp [hz10, hp, ep])) (by first | (simp only [ep]; done) | (simp only [ep]; rfl) | rfl)) dX6_minuteAt_27
