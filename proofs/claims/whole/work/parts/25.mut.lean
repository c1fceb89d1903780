/-! ===== what a step's end, a lost try, a minute do ===== -/
theorem relW_o {S : St} (h : Bnd S) (s i : Nat) : ∀ j v, relW S s i j = some v → v < 1000000 := by
  intro j v e
  unfold relW at e
  split at e
  · cases e
  · exact h.2 9 j v e
theorem lgw_bnd {S : St} {sg : UInt16} {st pp : Option Nat} {mi : Nat} (h : Bnd S) (he : rN S 50 0 < 1536) (h1 : ∀ k, st = some k → k < 1000000) (h2 : ∀ k, pp = some k → k < 1000000) (h3 : mi < 1000000) : Bnd (lgw S sg st pp mi) := by
  unfold lgw
  exact ((((h.sC 29 _).sO 30 (up1_o (h.2 30) h1)).sO 31 (up1_o (h.2 31) h2)).sN 32 (up1_lt (h.1 32) h3)).sN 50 (fun _ => by omega)
theorem Wk.lg {S : St} (h : Wk S) {sg : UInt16} {st pp : Option Nat} {mi : Nat} (he : rN S 50 0 < 1536) (h1 : ∀ k, st = some k → k < 1000000) (h2 : ∀ k, pp = some k → k < 1000000) (h3 : mi < 1000000) : Wk (lgw S sg st pp mi) := ⟨lgw_bnd h.b he h1 h2 h3, h.n43, h.n44, h.n46, h.n45, h.role, h.len, h.lim, h.cc, h.sen, h.fb, h.wk, h.fr, h.to, h.dn, h.tr, h.wo, h.cl, he, h.lm, h.tl, h.l1⟩
theorem Wk.s22 {S : St} (h : Wk S) {f : Nat → UInt16} (hf : ∀ s, s < rN S 46 0 → (f s = 97 ∨ f s = 119 ∨ f s = 111) → rN S 25 s < rN S 12 s) : Wk (sC S 22 f) := ⟨h.b.sC 22 _, h.n43, h.n44, h.n46, h.n45, h.role, h.len, h.lim, h.cc, h.sen, h.fb, h.wk, h.fr, h.to, h.dn, h.tr, h.wo, h.cl, h.en, h.lm, hf, h.l1⟩
theorem relW_sub {S : St} {s i p k : Nat} (h : relW S s i p = some k) : rO S 9 p = some k := by
  unfold relW at h
  split at h
  · cases h
  · exact h
theorem Wk.rel {S : St} (h : Wk S) (s : Nat) : Wk (sO S 9 (relW S s (rN S 43 0))) := ⟨h.b.sO 9 (relW_o h.b s _), h.n43, h.n44, h.n46, h.n45, h.role, h.len, h.lim, h.cc, h.sen, h.fb, fun p k h1 h2 => h.wk p k h1 (relW_sub h2), h.fr, h.to, h.dn, h.tr, h.wo, h.cl, h.en, h.lm, h.tl, h.l1⟩

/-- the step s is done -/
def done9 (S : St) (s : Nat) : St := lgw (sN (sN (sC (sO S 9 (relW S s (rN S 43 0))) 22 (up1 (rC S 22) s 100)) 28 (up1 (rN S 28) (rN S 45 0) s)) 45 (fun _ => rN S 45 0 + 1)) 100 (some s) none (rN S 40 0)
/-- a fallback is called in -/
def cin9 (S : St) : Option Nat → St
  | none => S
  | some t => if t < rN S 46 0 ∧ rC S 22 t = 111 then lgw (sC S 22 (up1 (rC S 22) t 119)) 101 (some t) none (rN S 40 0) else S
def failA (S : St) (s : Nat) (q : UInt16) : St := sC (sN (sO S 9 (relW S s (rN S 43 0))) 25 (up1 (rN S 25) s (rN S 25 s + 1))) 22 (up1 (rC S 22) s q)
def failB (S : St) (s : Nat) : St := lgw (failA S s 102) 102 (some s) none (rN S 40 0)
/-- a try of the step s is lost -/
def fail9 (S : St) (s : Nat) : St := if rN S 25 s + 1 < rN S 12 s then lgw (failA S s 119) 109 (some s) none (rN S 40 0) else cin9 (failB S s) (rO S 16 s)
theorem cin9_y {S : St} {t : Nat} (h1 : t < rN S 46 0) (h2 : rC S 22 t = 111) : cin9 S (some t) = lgw (sC S 22 (up1 (rC S 22) t 119)) 101 (some t) none (rN S 40 0) := if_pos ⟨h1, h2⟩
theorem cin9_n {S : St} {t : Nat} (h : ¬ rC S 22 t = 111) : cin9 S (some t) = S := if_neg (fun e => h e.2)
theorem cin9_o {S : St} {c : Option Nat} (h : inR (o2i c) (rN S 46 0) = false) (hn : rN S 46 0 < 2147483648) (hc : ∀ k, c = some k → k < 2147483648) : cin9 S c = S := by
  cases c with
  | none => rfl
  | some t =>
    refine if_neg (fun e => ?_)
    rw [show o2i (some t) = nI t from rfl, inR_nI hn (hc t rfl)] at h
    simp [e.1] at h

/-- how many steps are active -/
def actN (S : St) : Nat := cnt9 (fun s => decide (rC S 22 s = 97)) (rN S 46 0)
theorem cnt9_flip {p q : Nat → Bool} {s : Nat} : ∀ {n : Nat}, s < n → p s = true → q s = false → (∀ j, j ≠ s → q j = p j) → cnt9 q n + 1 = cnt9 p n
  | 0, h, _, _, _ => absurd h (Nat.not_lt_zero _)
  | n + 1, h, h1, h2, h3 => by
    by_cases e : s = n
    · subst e
      rw [cnt9_t h1, cnt9_f h2, cnt9_cong (fun j hj => h3 j (by omega))]
    · have h4 := cnt9_flip (n := n) (by omega) h1 h2 h3
      have h5 := h3 n (by omega)
      simp only [cnt9, h5]
      omega
theorem Wk.cin {S : St} (h : Wk S) {c : Option Nat} (he : rN S 50 0 < 1536) (hc : ∀ k, c = some k → k < 1000000) : Wk (cin9 S c) := by
  cases c with
  | none => exact h
  | some t =>
    by_cases e : t < rN S 46 0 ∧ rC S 22 t = 111
    · rw [cin9_y e.1 e.2]
      refine (h.s22 (f := up1 (rC S 22) t 119) ?_).lg he (fun k e9 => hc k e9) (fun _ e9 => by cases e9) (by have := h.cl; omega)
      intro s hs h9
      by_cases e2 : s = t
      · subst e2; exact h.tl s hs (.inr (.inr e.2))
      · rw [up1_ne e2] at h9; exact h.tl s hs h9
    · rw [show cin9 S (some t) = S from if_neg e]; exact h
theorem cin9_act {S : St} {c : Option Nat} : actN (cin9 S c) = actN S := by
  cases c with
  | none => rfl
  | some t =>
    by_cases e : t < rN S 46 0 ∧ rC S 22 t = 111
    · rw [cin9_y e.1 e.2]
      refine cnt9_cong (fun j hj => ?_)
      show decide (up1 (rC S 22) t 119 j = 97) = decide (rC S 22 j = 97)
      by_cases e2 : j = t
      · subst e2; rw [up1_same, e.2]; rfl
      · rw [up1_ne e2]
    · rw [show cin9 S (some t) = S from if_neg e]
theorem cin9_en {S : St} {c : Option Nat} : rN (cin9 S c) 50 0 ≤ rN S 50 0 + 1 ∧ rN S 50 0 ≤ rN (cin9 S c) 50 0 := by
  cases c with
  | none => exact ⟨Nat.le_succ _, Nat.le_refl _⟩
  | some t =>
    by_cases e : t < rN S 46 0 ∧ rC S 22 t = 111
    · rw [cin9_y e.1 e.2]; exact ⟨Nat.le_refl _, Nat.le_succ _⟩
    · rw [show cin9 S (some t) = S from if_neg e]; exact ⟨Nat.le_succ _, Nat.le_refl _⟩
theorem Wk.fla {S : St} (h : Wk S) {s : Nat} {q : UInt16} (hs : s < rN S 46 0) (ha : rC S 22 s = 97) (hq : (q = 97 ∨ q = 119 ∨ q = 111) → rN S 25 s + 1 < rN S 12 s) : Wk (failA S s q) := by
  have h1 := h.tl s hs (.inl ha)
  have h2 := h.lim s
  have h0 := h.rel s
  have hb : Bnd (failA S s q) := ((h0.b.sN 25 (up1_lt (h.b.1 25) (by omega))).sC 22 _)
  refine ⟨hb, h.n43, h.n44, h.n46, h.n45, h.role, h.len, h.lim, h.cc, h.sen, h.fb, h0.wk, h.fr, h.to, h.dn, ?_, h.wo, h.cl, h.en, h.lm, ?_, h.l1⟩
  · intro j
    show up1 (rN S 25) s (rN S 25 s + 1) j ≤ 3
    by_cases e : j = s
    · subst e; rw [up1_same]; omega
    · rw [up1_ne e]; exact h.tr j
  · intro j hj h9
    show up1 (rN S 25) s (rN S 25 s + 1) j < rN S 12 j
    have h8 : up1 (rC S 22) s q j = 97 ∨ up1 (rC S 22) s q j = 119 ∨ up1 (rC S 22) s q j = 111 := h9
    by_cases e : j = s
    · subst e; rw [up1_same] at h8 ⊢; exact hq h8
    · rw [up1_ne e] at h8 ⊢; exact h.tl j hj h8
theorem failA_act {S : St} {s : Nat} {q : UInt16} (hs : s < rN S 46 0) (ha : rC S 22 s = 97) (hq : q ≠ 97) : actN (failA S s q) + 1 = actN S :=
  cnt9_flip (p := fun j => decide (rC S 22 j = 97)) (q := fun j => decide (up1 (rC S 22) s q j = 97)) hs (by simp [ha]) (by simp [up1_same, hq]) (fun j hj => by show decide (up1 (rC S 22) s q j = 97) = _; rw [up1_ne hj])
/-- a lost try keeps what the class needs; the entries and the active steps stay in bounds -/
theorem fail9_ok {S : St} (h : Wk S) {s : Nat} (hs : s < rN S 46 0) (ha : rC S 22 s = 97) (he : rN S 50 0 + 2 * actN S ≤ 1536) :
    Wk (fail9 S s) ∧ rN (fail9 S s) 50 0 + 2 * actN (fail9 S s) ≤ rN S 50 0 + 2 * actN S := by
  have h46 := h.n46
  have h44 := h.n44
  have hcl := h.cl
  unfold fail9
  split
  · next h9 =>
    have a1 := failA_act (q := 119) hs ha (by decide)
    refine ⟨(h.fla hs ha (fun _ => h9)).lg (show rN S 50 0 < 1536 by omega) (fun k e => by cases e; omega) (fun _ e => by cases e) (by omega), ?_⟩
    show rN S 50 0 + 1 + 2 * actN (failA S s 119) ≤ _
    omega
  · have a1 := failA_act (q := 102) hs ha (by decide)
    have w1 : Wk (failB S s) := (h.fla (q := 102) hs ha (fun e => by rcases e with e | e | e <;> exact absurd e (by decide))).lg (show rN S 50 0 < 1536 by omega) (fun k e => by cases e; omega) (fun _ e => by cases e) (by omega)
    have e1 : rN (failB S s) 50 0 = rN S 50 0 + 1 := rfl
    have e2 : actN (failB S s) = actN (failA S s 102) := rfl
    refine ⟨w1.cin (by omega) (fun k e => h.b.2 16 s k e), ?_⟩
    have h1 := (cin9_en (S := failB S s) (c := rO S 16 s)).1
    rw [cin9_act]
    omega
theorem fail9_46 (S : St) (s : Nat) : rN (fail9 S s) 46 0 = rN S 46 0 := by
  unfold fail9
  split
  · rfl
  · show rN (cin9 (failB S s) (rO S 16 s)) 46 0 = rN (failB S s) 46 0
    generalize failB S s = T
    cases rO S 16 s with
    | none => rfl
    | some t =>
      by_cases e : t < rN T 46 0 ∧ rC T 22 t = 111
      · rw [cin9_y e.1 e.2]; rfl
      · rw [show cin9 T (some t) = T from if_neg e]
theorem cnt9_pos {p : Nat → Bool} {n s : Nat} (hs : s < n) (h : p s = true) : 1 ≤ cnt9 p n := by
  rcases Nat.eq_zero_or_pos (cnt9 p n) with e | e
  · rw [cnt9_zero.mp e s hs] at h; cases h
  · exact e
theorem actN_pos {S : St} {s : Nat} (hs : s < rN S 46 0) (h : rC S 22 s = 97) : 1 ≤ actN S := cnt9_pos hs (by simp [h])
def isTo (T : St) (i : Nat) : Bool := decide (rC T 22 i = 97) && decide (2 * rN T 11 i ≤ rN T 26 i)
def tmS (S : St) : Nat → St
  | 0 => S
  | i + 1 => if isTo (tmS S i) i = true then fail9 (tmS S i) i else tmS S i
def tmN (S : St) : Nat → Nat
  | 0 => 0
  | i + 1 => if isTo (tmS S i) i = true then tmN S i + 1 else tmN S i
theorem tmN_le (S : St) : ∀ i, tmN S i ≤ i
  | 0 => Nat.le_refl _
  | i + 1 => by
    have := tmN_le S i
    unfold tmN
    split <;> omega
theorem tmS_ok {S : St} (h : Wk S) (he : rN S 50 0 + 2 * actN S ≤ 1536) : ∀ i, i ≤ rN S 46 0 → Wk (tmS S i) ∧ rN (tmS S i) 50 0 + 2 * actN (tmS S i) ≤ rN S 50 0 + 2 * actN S ∧ rN (tmS S i) 46 0 = rN S 46 0
  | 0, _ => ⟨h, Nat.le_refl _, rfl⟩
  | i + 1, hi => by
    obtain ⟨h1, h2, h3⟩ := tmS_ok h he i (by omega)
    unfold tmS
    split
    · next e =>
      have e9 : rC (tmS S i) 22 i = 97 := by simp only [isTo, Bool.and_eq_true, decide_eq_true_eq] at e; exact e.1
      obtain ⟨h4, h5⟩ := fail9_ok h1 (s := i) (by omega) e9 (by omega)
      exact ⟨h4, by omega, by rw [fail9_46, h3]⟩
    · exact ⟨h1, h2, h3⟩

/-- the handover of p to q ends -/
def hovA (S : St) (p q : Nat) : St := sO (sO (lgw (sB (sO S 9 (up1 (up1 (rO S 9) q (rO S 9 p)) p none)) 8 (up1 (up1 (rB S 8) p false) q true)) 103 (rO S 9 p) (some q) (rN S 40 0)) 47 (fun _ => none)) 48 (fun _ => none)
def hov9 (S : St) : St := match rO S 47 0, rO S 48 0 with
  | some p, some q => hovA S p q
  | _, _ => S
theorem hov9_s {S : St} {p q : Nat} (h1 : rO S 47 0 = some p) (h2 : rO S 48 0 = some q) : hov9 S = hovA S p q := by unfold hov9; rw [h1, h2]
set_option maxRecDepth 20000 in
set_option maxHeartbeats 4000000 in
theorem c_X5_completeStep (l : Launch) (D : va_G) (cy : Nat → ClassId) (ad : Nat → Nat) (S : St) (F : va_W) (s : Nat) (hW : Wk S) (hs : s < 16) (hd : rN S 45 0 < 16) (he : rN S 50 0 < 1536) : Ctr l D cy yX5_completeStep (.code yX5_completeStep cX5_completeStep 2 none) ({ frames := 2, cells := 0, slots := 0, locals := 80 } : Room) [.ref (ad 0), .int (nI s)] (wC ad cy S ++ F) (pU (wC ad cy (done9 S s) ++ F)) pNo := by
  refine Ctr.of (by decide) (Nat.le_of_ble_eq_true rfl) ?_
  intro M X hE hN hB9 hI9
  replace X : VX l D M cy cX5_completeStep "Runbooker" none ({ frames := 2, cells := 0, slots := 0, locals := 80 } : Room) := X
  show V l D M 0 0 (wC ad cy S ++ F) [(0, .ref (ad 0)), (1, .int (nI s))] 0 []
  have hB := hW.b
  have h43 := hW.n43
  have h44 := hW.n44
  have h46 := hW.n46
  have h45 := hW.n45
  have hcl := hW.cl
  have hen := hW.en
  refine V.aload_n X dX5_completeStep_0 rfl ?_
  refine wC_gX5_10 X dX5_completeStep_1 ?_
  refine V.iload_n X dX5_completeStep_4 rfl ?_
  refine V.callV0 [.int (nI s)] X (c_X0_release l D cy ad S F s hB (show s < 16 by omega) (show (rN S 43 0) ≤ 8 by omega)) mv_X0_release gw_3_147 ⟨⟨(Nat.le_of_ble_eq_true rfl), (Nat.le_of_ble_eq_true rfl)⟩, (Nat.le_of_ble_eq_true rfl), (Nat.le_of_ble_eq_true rfl)⟩ (q0 := 1) (ci := 2) rfl rfl rfl (Nat.le_of_ble_eq_true rfl) dX5_completeStep_5 ?_
  refine V.aload_n X dX5_completeStep_8 rfl ?_
  refine wC_gX5_26 X dX5_completeStep_9 ?_
  refine V.iload_n X dX5_completeStep_12 rfl ?_
  refine V.callV0 [.int (nI s)] X (c_X4_complete l D cy ad (sO S 9 (relW S s (rN S 43 0))) F s (hB.sO 9 (relW_o hB s _)) (show s < 16 by omega) (show (rN S 45 0) < 16 by omega)) mv_X4_complete gw_3_151 ⟨⟨(Nat.le_of_ble_eq_true rfl), (Nat.le_of_ble_eq_true rfl)⟩, (Nat.le_of_ble_eq_true rfl), (Nat.le_of_ble_eq_true rfl)⟩ (q0 := 3) (ci := 6) rfl rfl rfl (Nat.le_of_ble_eq_true rfl) dX5_completeStep_13 ?_
  refine V.aload_n X dX5_completeStep_16 rfl ?_
  refine wC_gX5_40 X dX5_completeStep_17 ?_
  refine V.bipush (v := nI 100) X dX5_completeStep_20 (by decide) ?_
  refine V.iload_n X dX5_completeStep_22 rfl ?_
  refine V.iconst (v := o2i none) X dX5_completeStep_23 rfl ?_
  refine V.aload_n X dX5_completeStep_24 rfl ?_
  refine wC_gX5_207 X dX5_completeStep_25 ?_
  refine V.callV0 [.int (c2i 100), .int (o2i (some s)), .int (o2i none), .int (nI (rN S 40 0))] X (c_X2_write l D cy ad (sN (sN (sC (sO S 9 (relW S s (rN S 43 0))) 22 (up1 (rC S 22) s 100)) 28 (up1 (rN S 28) (rN S 45 0) s)) 45 (fun _ => (rN S 45 0) + 1)) F 100 (some s) none (rN S 40 0) ((((hB.sO 9 (relW_o hB s _)).sC 22 _).sN 28 (up1_lt (hB.1 28) (show s < 1000000 by omega))).sN 45 (fun _ => show (rN S 45 0) + 1 < 1000000 by omega)) (show (rN S 50 0) < 1536 by omega)) mv_X2_write gw_3_130 ⟨⟨(Nat.le_of_ble_eq_true rfl), (Nat.le_of_ble_eq_true rfl)⟩, (Nat.le_of_ble_eq_true rfl), (Nat.le_of_ble_eq_true rfl)⟩ (q0 := 5) (ci := 4) rfl rfl rfl (Nat.le_of_ble_eq_true rfl) dX5_completeStep_28 ?_
  exact V.vret X hE rfl (Nat.le_of_ble_eq_true rfl) (Nat.le_of_ble_eq_true rfl) (pU9 rfl) dX5_completeStep_31
set_option maxRecDepth 20000 in
set_option maxHeartbeats 4000000 in
theorem c_X5_callIn (l : Launch) (D : va_G) (cy : Nat → ClassId) (ad : Nat → Nat) (S : St) (F : va_W) (f : Option Nat) (hB : Bnd S) (hn : rN S 46 0 ≤ 16) (he : rN S 50 0 < 1536) (hf : ∀ k, f = some k → k < 2147483648) : Ctr l D cy yX5_callIn (.code yX5_callIn cX5_callIn 2 none) ({ frames := 2, cells := 0, slots := 0, locals := 80 } : Room) [.ref (ad 0), .int (o2i f)] (wC ad cy S ++ F) (pU (wC ad cy (cin9 S f) ++ F)) pNo := by
  refine Ctr.of (by decide) (Nat.le_of_ble_eq_true rfl) ?_
  intro M X hE hN hB9 hI9
  replace X : VX l D M cy cX5_callIn "Runbooker" none ({ frames := 2, cells := 0, slots := 0, locals := 80 } : Room) := X
  show V l D M 0 0 (wC ad cy S ++ F) [(0, .ref (ad 0)), (1, .int (o2i f))] 0 []
  refine V.aload_n X dX5_callIn_0 rfl ?_
  refine wC_gX5_26 X dX5_callIn_1 ?_
  refine V.iload_n X dX5_callIn_4 rfl ?_
  refine V.callV1 [.int (o2i f)] X (c_X4_has l D cy ad S F (o2i f)) mv_X4_has gw_2_34 ⟨⟨(Nat.le_of_ble_eq_true rfl), (Nat.le_of_ble_eq_true rfl)⟩, (Nat.le_of_ble_eq_true rfl), (Nat.le_of_ble_eq_true rfl)⟩ (q0 := 3) (ci := 6) rfl rfl rfl (Nat.le_of_ble_eq_true rfl) dX5_callIn_5 ?_
  refine V.if_eq (tgt := 51) X dX5_callIn_8 (by decide) b2i_0 b2i_n0 (fun (hz8 : inR (o2i f) (rN S 46 0) = false) => ?_) (fun (hz8 : inR (o2i f) (rN S 46 0) = true) => ?_)
  · exact V.vret X hE rfl (Nat.le_of_ble_eq_true rfl) (Nat.le_of_ble_eq_true rfl) (pU9 (by rw [cin9_o hz8 (by omega) hf])) dX5_callIn_51
  · obtain ⟨t, rfl, ht⟩ := inR_some (by omega) hz8 hf
    refine V.aload_n X dX5_callIn_11 rfl ?_
    refine wC_gX5_26 X dX5_callIn_12 ?_
    refine wC_gX5_236 X dX5_callIn_15 ?_
    refine V.iload_n X dX5_callIn_18 rfl ?_
    refine wC_ld22 (i := t) X (by omega) dX5_callIn_19 ?_
    refine V.bipush (v := nI 111) X dX5_callIn_20 (by decide) ?_
    refine V.icmp_ne (tgt := 51) X dX5_callIn_22 (by decide) (cC_ne (a := rC S 22 t) (b := 111)) (cC_eq (a := rC S 22 t) (b := 111)) (fun (hz22 : ¬ rC S 22 t = 111) => ?_) (fun (hz22 : rC S 22 t = 111) => ?_)
    · exact V.vret X hE rfl (Nat.le_of_ble_eq_true rfl) (Nat.le_of_ble_eq_true rfl) (pU9 (by rw [cin9_n hz22])) dX5_callIn_51
    · refine V.aload_n X dX5_callIn_25 rfl ?_
      refine wC_gX5_26 X dX5_callIn_26 ?_
      refine wC_gX5_236 X dX5_callIn_29 ?_
      refine V.iload_n X dX5_callIn_32 rfl ?_
      refine V.bipush (v := nI 119) X dX5_callIn_33 (by decide) ?_
      refine wC_st22 (i := t) (v := 119) (g := (rC S 22)) X (by omega) rfl dX5_callIn_35 ?_
      refine V.aload_n X dX5_callIn_36 rfl ?_
      refine wC_gX5_40 X dX5_callIn_37 ?_
      refine V.bipush (v := nI 101) X dX5_callIn_40 (by decide) ?_
      refine V.iload_n X dX5_callIn_42 rfl ?_
      refine V.iconst (v := o2i none) X dX5_callIn_43 rfl ?_
      refine V.aload_n X dX5_callIn_44 rfl ?_
      refine wC_gX5_207 X dX5_callIn_45 ?_
      refine V.callV0 [.int (c2i 101), .int (o2i (some t)), .int (o2i none), .int (nI (rN S 40 0))] X (c_X2_write l D cy ad (sC S 22 (up1 (rC S 22) t 119)) F 101 (some t) none (rN S 40 0) (hB.sC 22 _) (show (rN S 50 0) < 1536 by omega)) mv_X2_write gw_3_130 ⟨⟨(Nat.le_of_ble_eq_true rfl), (Nat.le_of_ble_eq_true rfl)⟩, (Nat.le_of_ble_eq_true rfl), (Nat.le_of_ble_eq_true rfl)⟩ (q0 := 5) (ci := 4) rfl rfl rfl (Nat.le_of_ble_eq_true rfl) dX5_callIn_48 ?_
      exact V.vret X hE rfl (Nat.le_of_ble_eq_true rfl) (Nat.le_of_ble_eq_true rfl) (pU9 (by rw [cin9_y ht hz22])) dX5_callIn_51
set_option maxRecDepth 20000 in
set_option maxHeartbeats 4000000 in
theorem c_X5_failTry (l : Launch) (D : va_G) (cy : Nat → ClassId) (ad : Nat → Nat) (S : St) (F : va_W) (s : Nat) (hW : Wk S) (hs : s < rN S 46 0) (he : rN S 50 0 + 2 ≤ 1536) : Ctr l D cy yX5_failTry (.code yX5_failTry cX5_failTry 2 none) ({ frames := 3, cells := 0, slots := 0, locals := 120 } : Room) [.ref (ad 0), .int (nI s)] (wC ad cy S ++ F) (pU (wC ad cy (fail9 S s) ++ F)) pNo := by
  refine Ctr.of (by decide) (Nat.le_of_ble_eq_true rfl) ?_
  intro M X hE hN hB9 hI9
  replace X : VX l D M cy cX5_failTry "Runbooker" none ({ frames := 3, cells := 0, slots := 0, locals := 120 } : Room) := X
  show V l D M 0 0 (wC ad cy S ++ F) [(0, .ref (ad 0)), (1, .int (nI s))] 0 []
  have hB := hW.b
  have h43 := hW.n43
  have h44 := hW.n44
  have h46 := hW.n46
  have h45 := hW.n45
  have hcl := hW.cl
  have hen := hW.en
  have htr := hW.tr s
  have hlm := hW.lim s
  refine V.aload_n X dX5_failTry_0 rfl ?_
  refine wC_gX5_10 X dX5_failTry_1 ?_
  refine V.iload_n X dX5_failTry_4 rfl ?_
  refine V.callV0 [.int (nI s)] X (c_X0_release l D cy ad S F s hB (show s < 16 by omega) (show (rN S 43 0) ≤ 8 by omega)) mv_X0_release gw_3_147 ⟨⟨(Nat.le_of_ble_eq_true rfl), (Nat.le_of_ble_eq_true rfl)⟩, (Nat.le_of_ble_eq_true rfl), (Nat.le_of_ble_eq_true rfl)⟩ (q0 := 1) (ci := 2) rfl rfl rfl (Nat.le_of_ble_eq_true rfl) dX5_failTry_5 ?_
  refine V.aload_n X dX5_failTry_8 rfl ?_
  refine wC_gX5_26 X dX5_failTry_9 ?_
  refine wC_gX5_303 X dX5_failTry_12 ?_
  refine V.iload_n X dX5_failTry_15 rfl ?_
  refine V.dup2 X dX5_failTry_16 rfl rfl ?_
  refine wC_ld25 (i := s) X (by omega) dX5_failTry_17 ?_
  refine V.iconst (v := nI 1) X dX5_failTry_18 rfl ?_
  refine V.iadd (v := nI (rN S 25 s + 1)) X dX5_failTry_19 (nI_add _ _) ?_
  refine wC_st25 (i := s) (v := rN S 25 s + 1) (g := (rN S 25)) X (by omega) rfl dX5_failTry_20 ?_
  refine V.aload_n X dX5_failTry_21 rfl ?_
  refine wC_gX5_26 X dX5_failTry_22 ?_
  refine wC_gX5_303 X dX5_failTry_25 ?_
  refine V.iload_n X dX5_failTry_28 rfl ?_
  refine wC_ld25 (i := s) X (by omega) dX5_failTry_29 ?_
  refine V.top (congrArg nI up1_same) ?_
  refine V.aload_n X dX5_failTry_30 rfl ?_
  refine wC_gX5_19 X dX5_failTry_31 ?_
  refine wC_gX5_447 X dX5_failTry_34 ?_
  refine V.iload_n X dX5_failTry_37 rfl ?_
  refine wC_ld12 (i := s) X (by omega) dX5_failTry_38 ?_
  refine V.icmp_ge (tgt := 69) X dX5_failTry_39 (by decide) (cN_le (hB.n 12 _) (by omega)) (cN_nle (hB.n 12 _) (by omega)) (fun (hz39 : rN S 12 s ≤ rN S 25 s + 1) => ?_) (fun (hz39 : rN S 25 s + 1 < rN S 12 s) => ?_)
  · refine V.aload_n X dX5_failTry_69 rfl ?_
    refine wC_gX5_26 X dX5_failTry_70 ?_
    refine wC_gX5_236 X dX5_failTry_73 ?_
    refine V.iload_n X dX5_failTry_76 rfl ?_
    refine V.bipush (v := nI 102) X dX5_failTry_77 (by decide) ?_
    refine wC_st22 (i := s) (v := 102) (g := (rC S 22)) X (by omega) rfl dX5_failTry_79 ?_
    refine V.aload_n X dX5_failTry_80 rfl ?_
    refine wC_gX5_40 X dX5_failTry_81 ?_
    refine V.bipush (v := nI 102) X dX5_failTry_84 (by decide) ?_
    refine V.iload_n X dX5_failTry_86 rfl ?_
    refine V.iconst (v := o2i none) X dX5_failTry_87 rfl ?_
    refine V.aload_n X dX5_failTry_88 rfl ?_
    refine wC_gX5_207 X dX5_failTry_89 ?_
    refine V.callV0 [.int (c2i 102), .int (o2i (some s)), .int (o2i none), .int (nI (rN S 40 0))] X (c_X2_write l D cy ad (sC (sN (sO S 9 (relW S s (rN S 43 0))) 25 (up1 (rN S 25) s (rN S 25 s + 1))) 22 (up1 (rC S 22) s 102)) F 102 (some s) none (rN S 40 0) (((hB.sO 9 (relW_o hB s _)).sN 25 (up1_lt (hB.1 25) (show (rN S 25 s + 1) < 1000000 by omega))).sC 22 _) (show (rN S 50 0) < 1536 by omega)) mv_X2_write gw_3_130 ⟨⟨(Nat.le_of_ble_eq_true rfl), (Nat.le_of_ble_eq_true rfl)⟩, (Nat.le_of_ble_eq_true rfl), (Nat.le_of_ble_eq_true rfl)⟩ (q0 := 5) (ci := 4) rfl rfl rfl (Nat.le_of_ble_eq_true rfl) dX5_failTry_92 ?_
    refine V.aload_n X dX5_failTry_95 rfl ?_
    refine V.aload_n X dX5_failTry_96 rfl ?_
    refine wC_gX5_19 X dX5_failTry_97 ?_
    refine wC_gX5_143 X dX5_failTry_100 ?_
    refine V.iload_n X dX5_failTry_103 rfl ?_
    refine wC_ld16 (i := s) X (by omega) dX5_failTry_104 ?_
    refine V.callV0 [.int (o2i (rO S 16 s))] X (c_X5_callIn l D cy ad (lgw (sC (sN (sO S 9 (relW S s (rN S 43 0))) 25 (up1 (rN S 25) s (rN S 25 s + 1))) 22 (up1 (rC S 22) s 102)) 102 (some s) none (rN S 40 0)) F (rO S 16 s) (lgw_bnd (((hB.sO 9 (relW_o hB s _)).sN 25 (up1_lt (hB.1 25) (by omega))).sC 22 _) (show rN S 50 0 < 1536 by omega) (fun k e => by cases e; omega) (fun k e => by cases e) (by omega)) (show (rN S 46 0) ≤ 16 by omega) (show (rN S 50 0 + 1) < 1536 by omega) (hB.o 16 s)) mv_X5_callIn gw_3_159 ⟨⟨(Nat.le_of_ble_eq_true rfl), (Nat.le_of_ble_eq_true rfl)⟩, (Nat.le_of_ble_eq_true rfl), (Nat.le_of_ble_eq_true rfl)⟩ (q0 := 0) (ci := 7) rfl rfl rfl (Nat.le_of_ble_eq_true rfl) dX5_failTry_105 ?_
    exact V.vret X hE rfl (Nat.le_of_ble_eq_true rfl) (Nat.le_of_ble_eq_true rfl) (pU9 (by unfold fail9; rw [if_neg (show ¬ rN S 25 s + 1 < rN S 12 s by omega)]; rfl)) dX5_failTry_108
  · refine V.aload_n X dX5_failTry_42 rfl ?_
    refine wC_gX5_26 X dX5_failTry_43 ?_
    refine wC_gX5_236 X dX5_failTry_46 ?_
    refine V.iload_n X dX5_failTry_49 rfl ?_
    refine V.bipush (v := nI 119) X dX5_failTry_50 (by decide) ?_
    refine wC_st22 (i := s) (v := 119) (g := (rC S 22)) X (by omega) rfl dX5_failTry_52 ?_
    refine V.aload_n X dX5_failTry_53 rfl ?_
    refine wC_gX5_40 X dX5_failTry_54 ?_
    refine V.bipush (v := nI 109) X dX5_failTry_57 (by decide) ?_
    refine V.iload_n X dX5_failTry_59 rfl ?_
    refine V.iconst (v := o2i none) X dX5_failTry_60 rfl ?_
    refine V.aload_n X dX5_failTry_61 rfl ?_
    refine wC_gX5_207 X dX5_failTry_62 ?_
    refine V.callV0 [.int (c2i 109), .int (o2i (some s)), .int (o2i none), .int (nI (rN S 40 0))] X (c_X2_write l D cy ad (sC (sN (sO S 9 (relW S s (rN S 43 0))) 25 (up1 (rN S 25) s (rN S 25 s + 1))) 22 (up1 (rC S 22) s 119)) F 109 (some s) none (rN S 40 0) (((hB.sO 9 (relW_o hB s _)).sN 25 (up1_lt (hB.1 25) (show (rN S 25 s + 1) < 1000000 by omega))).sC 22 _) (show (rN S 50 0) < 1536 by omega)) mv_X2_write gw_3_130 ⟨⟨(Nat.le_of_ble_eq_true rfl), (Nat.le_of_ble_eq_true rfl)⟩, (Nat.le_of_ble_eq_true rfl), (Nat.le_of_ble_eq_true rfl)⟩ (q0 := 5) (ci := 4) rfl rfl rfl (Nat.le_of_ble_eq_true rfl) dX5_failTry_65 ?_
    exact V.vret X hE rfl (Nat.le_of_ble_eq_true rfl) (Nat.le_of_ble_eq_true rfl) (pU9 (by unfold fail9; rw [if_pos hz39]; rfl)) dX5_failTry_68
set_option maxRecDepth 20000 in
set_option maxHeartbeats 4000000 in
theorem c_X5_timeOutSteps (l : Launch) (D : va_G) (cy : Nat → ClassId) (ad : Nat → Nat) (S : St) (F : va_W) (hW : Wk S) (he : rN S 50 0 + 2 * actN S ≤ 1536) : Ctr l D cy yX5_timeOutSteps (.code yX5_timeOutSteps cX5_timeOutSteps 3 (some FieldType.int)) ({ frames := 4, cells := 0, slots := 0, locals := 160 } : Room) [.ref (ad 0)] (wC ad cy S ++ F) (pI (nI (tmN S (rN S 46 0))) (wC ad cy (tmS S (rN S 46 0)) ++ F)) pNo := by
  refine Ctr.of (by decide) (Nat.le_of_ble_eq_true rfl) ?_
  intro M X hE hN hB9 hI9
  replace X : VX l D M cy cX5_timeOutSteps "Runbooker" (some FieldType.int) ({ frames := 4, cells := 0, slots := 0, locals := 160 } : Room) := X
  show V l D M 0 0 (wC ad cy S ++ F) [(0, .ref (ad 0))] 0 []
  have hB := hW.b
  have h43 := hW.n43
  have h44 := hW.n44
  have h46 := hW.n46
  have h45 := hW.n45
  have hcl := hW.cl
  have hen := hW.en
  refine V.iconst (v := nI 0) X dX5_timeOutSteps_0 rfl ?_
  refine V.istore_n (L' := [(1, .int (nI 0)), (0, .ref (ad 0))]) X dX5_timeOutSteps_1 rfl hB9 (by decide) rfl ?_
  refine V.iconst (v := nI 0) X dX5_timeOutSteps_2 rfl ?_
  refine V.istore_n (L' := [(2, .int (nI 0)), (1, .int (nI 0)), (0, .ref (ad 0))]) X dX5_timeOutSteps_3 rfl hB9 (by decide) rfl ?_
  have loop4 : ∀ (d9 : Nat) (i : Nat), (rN S 46 0 - i) < d9 → (i ≤ rN S 46 0) → V l D M 0 0 (wC ad cy (tmS S i) ++ F) [(2, .int (nI i)), (1, .int (nI (tmN S i))), (0, .ref (ad 0))] 4 [] := by
    intro d9
    induction d9 with
    | zero => intro i h9; exact absurd h9 (Nat.not_lt_zero _)
    | succ d9 ih4 =>
      intro i hd9 hi
      obtain ⟨hW2, he2, h46e⟩ := tmS_ok hW he i hi
      have hB2 := hW2.b
      have hl2 := hW2.len i
      have hw2 := hW2.wo i
      refine V.iload_n X dX5_timeOutSteps_4 rfl ?_
      refine V.aload_n X dX5_timeOutSteps_5 rfl ?_
      refine wC_gX5_26 X dX5_timeOutSteps_6 ?_
      refine wC_gX5_430 X dX5_timeOutSteps_9 ?_
      refine V.icmp_ge (tgt := 66) X dX5_timeOutSteps_12 (by decide) (cN_le (hB2.n 46 _) (by omega)) (cN_nle (hB2.n 46 _) (by omega)) (fun (hz12 : rN (tmS S i) 46 0 ≤ i) => ?_) (fun (hz12 : i < rN (tmS S i) 46 0) => ?_)
      · refine V.iload_n X dX5_timeOutSteps_66 rfl ?_
        exact V.iret (v := nI (tmN S i)) X hE rfl rfl (Nat.le_of_ble_eq_true rfl) (Nat.le_of_ble_eq_true rfl) (pN9 (by rw [show i = rN S 46 0 by omega]) (by rw [show i = rN S 46 0 by omega])) dX5_timeOutSteps_67
      · refine V.aload_n X dX5_timeOutSteps_15 rfl ?_
        refine wC_gX5_26 X dX5_timeOutSteps_16 ?_
        refine wC_gX5_236 X dX5_timeOutSteps_19 ?_
        refine V.iload_n X dX5_timeOutSteps_22 rfl ?_
        refine wC_ld22 (i := i) X (by omega) dX5_timeOutSteps_23 ?_
        refine V.bipush (v := nI 97) X dX5_timeOutSteps_24 (by decide) ?_
        refine V.icmp_ne (tgt := 60) X dX5_timeOutSteps_26 (by decide) (cC_ne (a := rC (tmS S i) 22 i) (b := 97)) (cC_eq (a := rC (tmS S i) 22 i) (b := 97)) (fun (hz26 : ¬ rC (tmS S i) 22 i = 97) => ?_) (fun (hz26 : rC (tmS S i) 22 i = 97) => ?_)
        · refine V.iinc (v := nI (i + 1)) (L' := [(2, .int (nI (i + 1))), (1, .int (nI (tmN S i))), (0, .ref (ad 0))]) X dX5_timeOutSteps_60 rfl (nI_inc _) hB9 (by decide) rfl ?_
          refine V.goto (tgt := 4) X dX5_timeOutSteps_63 (by decide) ?_
          have ht : ¬ isTo (tmS S i) i = true := by simp [isTo, hz26]
          exact V.eqs (by rw [show tmS S (i + 1) = tmS S i from if_neg ht]) (by rw [show tmN S (i + 1) = tmN S i from if_neg ht]) (ih4 (i + 1) (by omega) (by omega))
        · have ha2 := actN_pos (S := tmS S i) (s := i) (by omega) hz26
          refine V.aload_n X dX5_timeOutSteps_29 rfl ?_
          refine wC_gX5_26 X dX5_timeOutSteps_30 ?_
          refine wC_gX5_222 X dX5_timeOutSteps_33 ?_
          refine V.iload_n X dX5_timeOutSteps_36 rfl ?_
          refine wC_ld26 (i := i) X (by omega) dX5_timeOutSteps_37 ?_
          refine V.iconst (v := nI 2) X dX5_timeOutSteps_38 rfl ?_
          refine V.aload_n X dX5_timeOutSteps_39 rfl ?_
          refine wC_gX5_19 X dX5_timeOutSteps_40 ?_
          refine wC_gX5_214 X dX5_timeOutSteps_43 ?_
          refine V.iload_n X dX5_timeOutSteps_46 rfl ?_
          refine wC_ld11 (i := i) X (by omega) dX5_timeOutSteps_47 ?_
          refine V.imul (v := nI (2 * (rN (tmS S i) 11 i))) X dX5_timeOutSteps_48 (pk_mul _ _) ?_
          refine V.icmp_lt (tgt := 60) X dX5_timeOutSteps_49 (by decide) (cN_lt (hB2.n 26 _) (by omega)) (cN_nlt (hB2.n 26 _) (by omega)) (fun (hz49 : rN (tmS S i) 26 i < 2 * (rN (tmS S i) 11 i)) => ?_) (fun (hz49 : 2 * (rN (tmS S i) 11 i) ≤ rN (tmS S i) 26 i) => ?_)
          · refine V.iinc (v := nI (i + 1)) (L' := [(2, .int (nI (i + 1))), (1, .int (nI (tmN S i))), (0, .ref (ad 0))]) X dX5_timeOutSteps_60 rfl (nI_inc _) hB9 (by decide) rfl ?_
            refine V.goto (tgt := 4) X dX5_timeOutSteps_63 (by decide) ?_
            have ht : ¬ isTo (tmS S i) i = true := by simp [isTo, hz26, Nat.not_le.mpr hz49]
            exact V.eqs (by rw [show tmS S (i + 1) = tmS S i from if_neg ht]) (by rw [show tmN S (i + 1) = tmN S i from if_neg ht]) (ih4 (i + 1) (by omega) (by omega))
          · refine V.aload_n X dX5_timeOutSteps_52 rfl ?_
            refine V.iload_n X dX5_timeOutSteps_53 rfl ?_
            refine V.callV0 [.int (nI i)] X (c_X5_failTry l D cy ad (tmS S i) F i hW2 (show i < (rN (tmS S i) 46 0) by omega) (show (rN (tmS S i) 50 0) + 2 ≤ 1536 by omega)) mv_X5_failTry gw_3_155 ⟨⟨(Nat.le_of_ble_eq_true rfl), (Nat.le_of_ble_eq_true rfl)⟩, (Nat.le_of_ble_eq_true rfl), (Nat.le_of_ble_eq_true rfl)⟩ (q0 := 0) (ci := 7) rfl rfl rfl (Nat.le_of_ble_eq_true rfl) dX5_timeOutSteps_54 ?_
            refine V.iinc (v := nI (tmN S i + 1)) (L' := [(1, .int (nI (tmN S i + 1))), (2, .int (nI i)), (0, .ref (ad 0))]) X dX5_timeOutSteps_57 rfl (nI_inc _) hB9 (by decide) rfl ?_
            refine V.iinc (v := nI (i + 1)) (L' := [(2, .int (nI (i + 1))), (1, .int (nI (tmN S i + 1))), (0, .ref (ad 0))]) X dX5_timeOutSteps_60 rfl (nI_inc _) hB9 (by decide) rfl ?_
            refine V.goto (tgt := 4) X dX5_timeOutSteps_63 (by decide) ?_
            have ht : isTo (tmS S i) i = true := by simp [isTo, hz26, hz49]
            exact V.eqs (by rw [show tmS S (i + 1) = fail9 (tmS S i) i from if_pos ht]) (by rw [show tmN S (i + 1) = tmN S i + 1 from if_pos ht]) (ih4 (i + 1) (by omega) (by omega))
  exact V.eqs rfl rfl (loop4 _ 0 (Nat.lt_succ_self _) (Nat.zero_le _))
set_option maxRecDepth 20000 in
set_option maxHeartbeats 4000000 in
theorem c_X5_endHandover (l : Launch) (D : va_G) (cy : Nat → ClassId) (ad : Nat → Nat) (S : St) (F : va_W) (p : Nat) (q : Nat) (hW : Wk S) (h47 : rO S 47 0 = some p) (h48 : rO S 48 0 = some q) (he : rN S 50 0 < 1536) : Ctr l D cy yX5_endHandover (.code yX5_endHandover cX5_endHandover 2 none) ({ frames := 2, cells := 0, slots := 0, locals := 80 } : Room) [.ref (ad 0)] (wC ad cy S ++ F) (pU (wC ad cy (hovA S p q) ++ F)) pNo := by
  refine Ctr.of (by decide) (Nat.le_of_ble_eq_true rfl) ?_
  intro M X hE hN hB9 hI9
  replace X : VX l D M cy cX5_endHandover "Runbooker" none ({ frames := 2, cells := 0, slots := 0, locals := 80 } : Room) := X
  show V l D M 0 0 (wC ad cy S ++ F) [(0, .ref (ad 0))] 0 []
  have hB := hW.b
  have h43 := hW.n43
  have h44 := hW.n44
  have h46 := hW.n46
  have h45 := hW.n45
  have hcl := hW.cl
  have hen := hW.en
  have hp := hW.fr p h47
  have hq := hW.to q h48
  refine V.aload_n X dX5_endHandover_0 rfl ?_
  refine V.callV1 [] X (c_X5_stepHeldUp l D cy ad S F hW) mv_X5_stepHeldUp gw_3_219 ⟨⟨(Nat.le_of_ble_eq_true rfl), (Nat.le_of_ble_eq_true rfl)⟩, (Nat.le_of_ble_eq_true rfl), (Nat.le_of_ble_eq_true rfl)⟩ (q0 := 0) (ci := 7) rfl rfl rfl (Nat.le_of_ble_eq_true rfl) dX5_endHandover_1 ?_
  refine V.top (congrArg o2i (held9_s h47)) ?_
  refine V.istore_n (L' := [(1, .int (o2i (rO S 9 p))), (0, .ref (ad 0))]) X dX5_endHandover_4 rfl hB9 (by decide) rfl ?_
  refine V.aload_n X dX5_endHandover_5 rfl ?_
  refine wC_gX5_10 X dX5_endHandover_6 ?_
  refine V.aload_n X dX5_endHandover_9 rfl ?_
  refine wC_gX5_33 X dX5_endHandover_10 ?_
  refine wC_gX5_427 X dX5_endHandover_13 ?_
  refine V.top (congrArg o2i h47) ?_
  refine V.aload_n X dX5_endHandover_16 rfl ?_
  refine wC_gX5_33 X dX5_endHandover_17 ?_
  refine wC_gX5_431 X dX5_endHandover_20 ?_
  refine V.top (congrArg o2i h48) ?_
  refine V.callV0 [.int (nI p), .int (nI q)] X (c_X0_replace l D cy ad S F p q hB (show (rN S 43 0) ≤ 8 by omega) (show p < (rN S 43 0) by omega) (show q < (rN S 43 0) by omega)) mv_X0_replace gw_3_235 ⟨⟨(Nat.le_of_ble_eq_true rfl), (Nat.le_of_ble_eq_true rfl)⟩, (Nat.le_of_ble_eq_true rfl), (Nat.le_of_ble_eq_true rfl)⟩ (q0 := 1) (ci := 2) rfl rfl rfl (Nat.le_of_ble_eq_true rfl) dX5_endHandover_23 ?_
  refine V.aload_n X dX5_endHandover_26 rfl ?_
  refine wC_gX5_40 X dX5_endHandover_27 ?_
  refine V.bipush (v := nI 103) X dX5_endHandover_30 (by decide) ?_
  refine V.iload_n X dX5_endHandover_32 rfl ?_
  refine V.aload_n X dX5_endHandover_33 rfl ?_
  refine wC_gX5_33 X dX5_endHandover_34 ?_
  refine wC_gX5_431 X dX5_endHandover_37 ?_
  refine V.top (congrArg o2i h48) ?_
  refine V.aload_n X dX5_endHandover_40 rfl ?_
  refine wC_gX5_207 X dX5_endHandover_41 ?_
  refine V.callV0 [.int (c2i 103), .int (o2i (rO S 9 p)), .int (o2i (some q)), .int (nI (rN S 40 0))] X (c_X2_write l D cy ad (sB (sO S 9 (up1 (up1 (rO S 9) q (rO S 9 p)) p none)) 8 (up1 (up1 (rB S 8) p false) q true)) F 103 (rO S 9 p) (some q) (rN S 40 0) ((hB.sO 9 (up1_o (up1_o (hB.2 9) (hB.2 9 p)) (fun _ e9 => by cases e9))).sB 8 _) (show (rN S 50 0) < 1536 by omega)) mv_X2_write gw_3_130 ⟨⟨(Nat.le_of_ble_eq_true rfl), (Nat.le_of_ble_eq_true rfl)⟩, (Nat.le_of_ble_eq_true rfl), (Nat.le_of_ble_eq_true rfl)⟩ (q0 := 5) (ci := 4) rfl rfl rfl (Nat.le_of_ble_eq_true rfl) dX5_endHandover_44 ?_
  refine V.aload_n X dX5_endHandover_47 rfl ?_
  refine wC_gX5_33 X dX5_endHandover_48 ?_
  refine V.callV0 [] X (c_X1_clear l D cy ad (lgw (sB (sO S 9 (up1 (up1 (rO S 9) q (rO S 9 p)) p none)) 8 (up1 (up1 (rB S 8) p false) q true)) 103 (rO S 9 p) (some q) (rN S 40 0)) F ) mv_X1_clear gw_4_0 ⟨⟨(Nat.le_of_ble_eq_true rfl), (Nat.le_of_ble_eq_true rfl)⟩, (Nat.le_of_ble_eq_true rfl), (Nat.le_of_ble_eq_true rfl)⟩ (q0 := 4) (ci := 3) rfl rfl rfl (Nat.le_of_ble_eq_true rfl) dX5_endHandover_51 ?_
  exact V.vret X hE rfl (Nat.le_of_ble_eq_true rfl) (Nat.le_of_ble_eq_true rfl) (pU9 rfl) dX5_endHandover_54
