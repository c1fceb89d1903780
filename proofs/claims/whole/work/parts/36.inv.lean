/-! ===== a minute keeps the invariant ===== -/
theorem is_to {A B : St} (h : InvP A B) (c : Cor A B) (hw : ∀ s, s < rN B 46 0 → rC B 22 s = 97 → rN B 26 s ≤ 2 * rN B 11 s) (i : Nat) : isToM A i = isTo B i := by
  unfold isToM isTo
  rw [c.n]
  by_cases hi : i < rN B 46 0
  · rw [h.eq i hi]
    by_cases e : rC B 22 i = 97
    · have h4 := hw i hi e
      have h5 : (rN B 26 i = 2 * rN B 11 i) ↔ 2 * rN B 11 i ≤ rN B 26 i := by omega
      simp [h5]
    · simp [e]
  · have h1 := h.o64 i (by omega)
    have h2 := h.o22 i (by omega)
    simp [h1, h2]
theorem mcin_bnd {A : St} (h : Bnd A) (he : rN A 50 0 < 1536) {c : Option Nat} (hc : ∀ k, c = some k → k < 1000000) : Bnd (mcin A c) := by
  cases c with
  | none => exact h
  | some t =>
    by_cases e : rC A 64 t = 111
    · rw [mcin_y e]; exact lgw_bnd (h.sC 64 _) he hc (fun _ e => by cases e) (h.1 40 0)
    · rw [mcin_n e]; exact h
theorem mfail_bnd {A : St} (h : Bnd A) {s : Nat} (hs : s < 1000000) (he : rN A 50 0 + 2 ≤ 1536) (ht : rN A 25 s + 1 < 1000000) : Bnd (mfail A s) := by
  have hA : ∀ q, Bnd (mfA A s q) := fun q => (h.sN 25 (up1_lt (h.1 25) ht)).sC 64 _
  unfold mfail
  split
  · exact lgw_bnd (hA 119) (show rN A 50 0 < 1536 by omega) (fun k e => by cases e; exact hs) (fun _ e => by cases e) (h.1 40 0)
  · have hb : Bnd (mfB A s) := lgw_bnd (hA 102) (show rN A 50 0 < 1536 by omega) (fun k e => by cases e; exact hs) (fun _ e => by cases e) (h.1 40 0)
    exact mcin_bnd hb (show rN A 50 0 + 1 < 1536 by omega) (fun k e => h.2 16 s k e)
theorem tm_inv {A B : St} (h : InvP A B) (c : Cor A B) (hw : ∀ s, s < rN B 46 0 → rC B 22 s = 97 → rN B 26 s ≤ 2 * rN B 11 s) (he : rN B 50 0 + 2 * actN B ≤ 1536) :
    ∀ i, i ≤ rN B 46 0 → InvP (mtS A i) (tmS B i) ∧ Cor (mtS A i) (tmS B i) ∧ mtN A i = tmN B i ∧ rN (tmS B i) 50 0 + 2 * actN (tmS B i) ≤ rN B 50 0 + 2 * actN B ∧ (∀ s, rC (tmS B i) 22 s = 97 → rC B 22 s = 97) ∧ (∀ s, s < i → rC (tmS B i) 22 s = 97 → rN B 26 s < 2 * rN B 11 s) ∧ isToM (mtS A i) i = isTo (tmS B i) i
  | 0, hi => by
    refine ⟨h, c, rfl, Nat.le_refl _, fun _ e => e, fun s hs => absurd hs (Nat.not_lt_zero _), ?_⟩
    exact is_to h c hw 0
  | i + 1, hi => by
    obtain ⟨h1, h2, h3, h4, h5, h6, h7⟩ := tm_inv h c hw he i (by omega)
    have kb := tmS_kp B i
    have e46 : rN (tmS B i) 46 0 = rN B 46 0 := congrFun kb.n46 0
    have hw2 : ∀ T, Kp B T → (∀ s, rC T 22 s = 97 → rC B 22 s = 97) → ∀ s, s < rN T 46 0 → rC T 22 s = 97 → rN T 26 s ≤ 2 * rN T 11 s := fun T k g s hs e => by
      rw [congrFun k.n46 0] at hs
      rw [k.n26, k.n11]
      exact hw s hs (g s e)
    by_cases ht : isTo (tmS B i) i = true
    · have ea : rC (tmS B i) 22 i = 97 := by simp only [isTo, Bool.and_eq_true, decide_eq_true_eq] at ht; exact ht.1
      obtain ⟨g1, g2⟩ := h1.fail h2 (s := i) (by omega) ea (by omega)
      have g3 := (fail9_ok h1.w (s := i) (by omega) ea (by omega)).2
      have e1 : mtS A (i + 1) = mfail (mtS A i) i := if_pos (h7.trans ht)
      have e2 : tmS B (i + 1) = fail9 (tmS B i) i := if_pos ht
      have e3 : mtN A (i + 1) = mtN A i + 1 := if_pos (h7.trans ht)
      have e4 : tmN B (i + 1) = tmN B i + 1 := if_pos ht
      have g5 : ∀ s, rC (fail9 (tmS B i) i) 22 s = 97 → rC B 22 s = 97 := fun s e => h5 s (fail9_97 e)
      rw [e1, e2, e3, e4, h3]
      refine ⟨g1, g2, rfl, by omega, g5, fun s hs e => ?_, ?_⟩
      · have e5 := (fail9_a ea).mp e
        exact h6 s (by omega) e5.1
      · exact is_to g1 g2 (hw2 _ (kb.trans (fail9_kp _ _)) g5) (i + 1)
    · have e1 : mtS A (i + 1) = mtS A i := if_neg (by rw [h7]; exact ht)
      have e2 : tmS B (i + 1) = tmS B i := if_neg ht
      have e3 : mtN A (i + 1) = mtN A i := if_neg (by rw [h7]; exact ht)
      have e4 : tmN B (i + 1) = tmN B i := if_neg ht
      rw [e1, e2, e3, e4, h3]
      refine ⟨h1, h2, rfl, h4, h5, fun s hs e => ?_, is_to h1 h2 (hw2 _ kb h5) (i + 1)⟩
      by_cases e9 : s = i
      · subst e9
        have e8 : ¬ 2 * rN (tmS B s) 11 s ≤ rN (tmS B s) 26 s := fun e7 => ht (by simp [isTo, e, e7])
        rw [kb.n11, kb.n26] at e8
        omega
      · exact h6 s (by omega) e

theorem cnt9_more {p : Nat → Bool} {n : Nat} (h : ∀ j, n ≤ j → p j = false) : ∀ d, cnt9 p (n + d) = cnt9 p n
  | 0 => rfl
  | d + 1 => by
    have := cnt9_more h d
    show cnt9 p (n + d) + (if p (n + d) then 1 else 0) = _
    rw [h (n + d) (by omega), this]
    rfl
theorem act_eq {S : St} (h : Inv S) {s : Nat} (hs : s < rN S 46 0) : actM S s = actW S (held9 S) s := by
  unfold actM actW
  rw [h.eq s hs]
  by_cases e : rC S 22 s = 97
  · obtain ⟨p, hp, e60⟩ := h.aw s hs e
    cases e47 : rO S 47 0 with
    | none => rw [held9_n e47, e60]; simp
    | some r =>
      have hr := h.w.fr r e47
      have h1 := h.wa r s hr
      rw [held9_s e47]
      have h2 : (rO S 60 s = some r) ↔ (some s = rO S 9 r) := by
        constructor
        · intro e2; exact (h1.mpr ⟨hs, e, e2⟩).symm
        · intro e2; exact (h1.mp e2.symm).2.2
      simp [h2]
  · simp [e]
theorem mmA_cor {S : St} (h : Inv S) : Cor (mmA S) (pmA S) := by
  have h46 := h.w.n46
  have hf : ∀ j, rN S 46 0 ≤ j → actM S j = false := fun j hj => by simp [actM, h.o64 j hj]
  have e1 : low9 (wrkM S) (rN S 26) (rN S 44 0) = low9 (wrkF S (held9 S)) (rN S 26) (rN S 46 0) := by
    funext j
    unfold low9 wrkM wrkF
    by_cases a : j < rN S 46 0
    · rw [if_pos (by omega), if_pos a, act_eq h a]
    · rw [if_neg a, hf j (by omega)]
      simp
  have e2 : cnt9 (actM S) (rN S 44 0) = cnt9 (actW S (held9 S)) (rN S 46 0) := by
    rw [show rN S 44 0 = rN S 46 0 + (rN S 44 0 - rN S 46 0) by omega, cnt9_more hf]
    exact cnt9_cong (fun j hj => act_eq h hj)
  unfold mmA mmI pmA
  exact (((Cor.refl S).sN rfl).sN e1).sL (by rw [e2])
theorem mmA_p {S : St} (h : Inv S) (hc : rN S 40 0 + 1 ≤ 122880) : InvP (mmA S) (pmA S) := by
  have hw : ∀ s, s < rN S 46 0 → rC S 22 s = 97 → rN S 26 s < 120 := fun s hs e => by have := h.wl s hs e; have := h.w.len s; omega
  exact ⟨pmA_ok h.w hc hw, h.eq, h.o22, h.o64, h.wa, h.aw, h.ar, h.run, h.od, h.h1, h.h2, h.dc, h.dd, h.di, h.ds, h.lg, h.lt, h.wr, h.fi, h.nb, h.jn⟩
theorem pmA_wl {S : St} (h : Inv S) : ∀ s, s < rN (pmA S) 46 0 → rC (pmA S) 22 s = 97 → rN (pmA S) 26 s ≤ 2 * rN (pmA S) 11 s := by
  intro s hs e
  have hs2 : s < rN S 46 0 := hs
  have := h.wl s hs2 e
  show low9 (wrkF S (held9 S)) (rN S 26) (rN S 46 0) s ≤ 2 * rN S 11 s
  rw [low9_in hs2]
  unfold wrkF
  split <;> omega

theorem InvP.qwk {A B : St} (h : InvP A B) (c : Cor A B) {p : Nat} (hp : p < rN B 43 0) : wkM A (some p) = rO B 9 p := by
  have h46 := h.w.n46
  have key : ∀ j, j < rN B 44 0 → (decide (rC A 64 j = 97) && decide (rO A 60 j = some p)) = true → rO B 9 p = some j := by
    intro j hj e
    simp only [Bool.and_eq_true, decide_eq_true_eq] at e
    have h1 : j < rN B 46 0 := Nat.lt_of_not_le fun hc => h.o64 j hc e.1
    exact (h.wa p j hp).mpr ⟨h1, by rw [← h.eq j h1]; exact e.1, e.2⟩
  unfold wkM
  rw [c.n]
  cases e : rO B 9 p with
  | none =>
    refine fst9_miss (fun j hj => ?_)
    cases e2 : (decide (rC A 64 j = 97) && decide (rO A 60 j = some p)) with
    | false => rfl
    | true => rw [key j hj e2] at e; cases e
  | some t =>
    obtain ⟨h1, h2, h3⟩ := (h.wa p t hp).mp e
    refine fst9_hit (fun j hj => ?_) (by simp [h.eq t h1, h2, h3]) (by omega)
    cases e2 : (decide (rC A 64 j = 97) && decide (rO A 60 j = some p)) with
    | false => rfl
    | true =>
      have := key j (by omega) e2
      rw [e] at this
      cases this
      omega
/-- who works on what, after the handover -/
def w60 (A : St) (q : Nat) : Option Nat → Nat → Option Nat
  | none => rO A 60
  | some t => up1 (rO A 60) t (some q)
theorem mW_60 (A : St) (q : Nat) (c : Option Nat) : rO (mW A q c) 60 = w60 A q c := by cases c <;> rfl
theorem mW_64 (A : St) (q : Nat) (c : Option Nat) : rC (mW A q c) 64 = rC A 64 := by cases c <;> rfl
theorem mW_cor {A B : St} (h : Cor A B) (q : Nat) (c : Option Nat) : Cor (mW A q c) B := by
  cases c with
  | none => exact h
  | some t => exact h.l60 _

theorem InvP.hov {A B : St} (h : InvP A B) (c : Cor A B) {p q : Nat} (e47 : rO B 47 0 = some p) (e48 : rO B 48 0 = some q) (he : rN B 50 0 < 1536) : InvP (mhov A p q) (hovA B p q) ∧ Cor (mhov A p q) (hovA B p q) := by
  have hp := h.w.fr p e47
  have hq := h.w.to q e48
  have hcl := h.w.cl
  have h43 := h.w.n43
  obtain ⟨hr, q2, e48b, hpq, hoff⟩ := h.h1 p e47
  rw [e48] at e48b
  cases e48b
  have hw := h.qwk c hp
  have hq0 := h.od q hq hoff
  have e60 : rO (mhov A p q) 60 = w60 A q (rO B 9 p) := by unfold mhov; rw [hw]; exact mW_60 _ _ _
  have e64 : rC (mhov A p q) 64 = rC A 64 := by unfold mhov; exact mW_64 _ _ _
  refine ⟨⟨?w, fun t ht => by rw [e64]; exact h.eq t ht, h.o22, fun t ht => by rw [e64]; exact h.o64 t ht, fun r t hr2 => ?wa, fun t ht e => ?aw, h.ar, h.run, fun r hr2 e => ?od, fun r e => ?h1, fun _ => rfl, h.dc, h.dd, h.di, h.ds, fun t ht => ?lg, fun t ht => ?lt, h.wr, h.fi, h.nb, h.jn⟩, ?c⟩
  case w =>
    refine ⟨((lgw_bnd (((h.w.b.sO 9 (up1_o (up1_o (h.w.b.2 9) (h.w.b.2 9 p)) (fun _ e => by cases e))).sB 8 _)) he (fun k e => h.w.b.2 9 p k e) (fun k e => by cases e; omega) (by show rN B 40 0 < 1000000; omega)).sO 47 (fun _ _ e => by cases e)).sO 48 (fun _ _ e => by cases e), h.w.n43, h.w.n44, h.w.n46, h.w.n45, h.w.role, h.w.len, h.w.lim, h.w.cc, h.w.sen, h.w.fb, ?_, (fun _ e => by cases e), (fun _ e => by cases e), h.w.dn, h.w.tr, h.w.wo, h.w.cl, he, h.w.lm, h.w.tl, h.w.l1⟩
    · intro r t hr2 e
      have e2 : up1 (up1 (rO B 9) q (rO B 9 p)) p none r = some t := e
      by_cases a : r = p
      · subst a; rw [up1_same] at e2; cases e2
      · rw [up1_ne a] at e2
        by_cases b : r = q
        · subst b; rw [up1_same] at e2; exact h.w.wk p t hp e2
        · rw [up1_ne b] at e2; exact h.w.wk r t hr2 e2
  case wa =>
    show up1 (up1 (rO B 9) q (rO B 9 p)) p none r = some t ↔ t < rN B 46 0 ∧ rC B 22 t = 97 ∧ rO (mhov A p q) 60 t = some r
    rw [e60]
    have hr3 : r < rN B 43 0 := hr2
    have base := h.wa r t hr3
    cases e9 : rO B 9 p with
    | none =>
      show _ ↔ t < rN B 46 0 ∧ rC B 22 t = 97 ∧ rO A 60 t = some r
      by_cases a : r = p
      · subst a
        rw [up1_same, ← base, e9]
      · rw [up1_ne a]
        by_cases b : r = q
        · subst b; rw [up1_same, ← base, hq0]
        · rw [up1_ne b]; exact base
    | some u =>
      obtain ⟨u1, u2, u3⟩ := (h.wa p u hp).mp e9
      show _ ↔ t < rN B 46 0 ∧ rC B 22 t = 97 ∧ up1 (rO A 60) u (some q) t = some r
      by_cases a : r = p
      · subst a
        rw [up1_same]
        constructor
        · intro e; cases e
        · rintro ⟨a1, a2, a3⟩
          by_cases b : t = u
          · subst b; rw [up1_same] at a3; cases a3; exact absurd rfl hpq
          · rw [up1_ne b] at a3
            have := base.mpr ⟨a1, a2, a3⟩
            rw [e9] at this; cases this; exact absurd rfl b
      · rw [up1_ne a]
        by_cases b : r = q
        · subst b
          rw [up1_same]
          constructor
          · intro e; cases e; exact ⟨u1, u2, up1_same⟩
          · rintro ⟨a1, a2, a3⟩
            by_cases d : t = u
            · rw [d]
            · rw [up1_ne d] at a3
              have := base.mpr ⟨a1, a2, a3⟩
              rw [hq0] at this; cases this
        · rw [up1_ne b]
          by_cases d : t = u
          · subst d
            rw [up1_same]
            constructor
            · intro e
              have := (base.mp e).2.2
              rw [u3] at this; cases this; exact absurd rfl a
            · rintro ⟨-, -, a3⟩; cases a3; exact absurd rfl b
          · rw [up1_ne d]; exact base
  case aw =>
    have ht2 : t < rN B 46 0 := ht
    have e2 : rC B 22 t = 97 := e
    rw [e60]
    show ∃ r, r < rN B 43 0 ∧ w60 A q (rO B 9 p) t = some r
    obtain ⟨r, r1, r2⟩ := h.aw t ht2 e2
    cases e9 : rO B 9 p with
    | none => exact ⟨r, r1, r2⟩
    | some u =>
      by_cases d : t = u
      · subst d; exact ⟨q, hq, up1_same⟩
      · exact ⟨r, r1, (up1_ne d).trans r2⟩
  case od =>
    have e2 : up1 (up1 (rB B 8) p false) q true r = false := e
    show up1 (up1 (rO B 9) q (rO B 9 p)) p none r = none
    by_cases b : r = q
    · subst b; rw [up1_same] at e2; cases e2
    · rw [up1_ne b] at e2
      by_cases a : r = p
      · subst a; exact up1_same
      · rw [up1_ne a] at e2
        rw [up1_ne a, up1_ne b]
        exact h.od r hr2 e2
  case h1 => cases (show (none : Option Nat) = some r from e)
  case lg =>
    have e1 := lastS_lg (sB (sO B 9 (up1 (up1 (rO B 9) q (rO B 9 p)) p none)) 8 (up1 (up1 (rB B 8) p false) q true)) 103 (rO B 9 p) (some q) (rN B 40 0) t (if rB B 23 t then 111 else 119)
    refine Eq.trans e1 ?_
    split
    · exact h.lg t ht
    · exact h.lg t ht
  case lt =>
    have e1 := cntT_lg (sB (sO B 9 (up1 (up1 (rO B 9) q (rO B 9 p)) p none)) 8 (up1 (up1 (rB B 8) p false) q true)) 103 (rO B 9 p) (some q) (rN B 40 0) t
    refine Eq.trans e1 ?_
    split
    · rw [if_neg (by decide), if_neg (by decide)]; exact h.lt t ht
    · exact h.lt t ht
  case c =>
    unfold mhov hovA
    rw [hw, show rN A 40 0 = rN B 40 0 by rw [c.n]]
    refine (Cor.sO47 (Cor.lg (mW_cor ?_ _ _) _ _ _ _) rfl).sO48 rfl
    exact (c.r9 _).sB (by rw [c.b])

/-- a minute, on both sides -/
def pmX (S : St) : St := jn9 (mm9 S) (pm9 S)
theorem minute_ok {S : St} (h : Inv S) (hc : rN S 40 0 + 1 ≤ 122880) (he : Phi S + 3 ≤ 1536) : Inv (pmX S) ∧ Cor (mm9 S) (pm9 S) ∧ mmN S = pmN S ∧ Phi (pmX S) ≤ Phi S ∧ rN (pmX S) 40 0 = rN S 40 0 + 1 ∧ mmOK S := by
  have h46 := h.w.n46
  have h44 := h.w.n44
  have hphi : rN S 50 0 + 2 * actN S < 1536 := by unfold Phi at he; omega
  have key := tm_inv (mmA_p h hc) (mmA_cor h) (pmA_wl h) (Nat.le_of_lt hphi)
  obtain ⟨k1, k2, k3, k4, k5, k6, -⟩ := key (rN S 46 0) (Nat.le_refl _)
  have k4' : rN (pmB S) 50 0 + 2 * actN (pmB S) ≤ rN S 50 0 + 2 * actN S := k4
  have more := mt_more (A := mmA S) (n := rN S 46 0) (fun s hs => k1.o64 s (by rw [show rN (tmS (pmA S) (rN S 46 0)) 46 0 = rN S 46 0 from congrFun (tmS_kp (pmA S) _).n46 0]; exact hs)) (rN S 44 0 - rN S 46 0)
  rw [show rN S 46 0 + (rN S 44 0 - rN S 46 0) = rN S 44 0 by omega] at more
  have eB : mmB S = mtS (mmA S) (rN S 46 0) := more.1
  have eN : mmN S = pmN S := more.2.trans k3
  have kp := tmS_kp (pmA S) (rN S 46 0)
  have p1 : InvP (mmB S) (pmB S) := by rw [eB]; exact k1
  have c1 : Cor (mmB S) (pmB S) := by rw [eB]; exact k2
  have w1 : ∀ s, s < rN (pmB S) 46 0 → rC (pmB S) 22 s = 97 → rN (pmB S) 26 s < 2 * rN (pmB S) 11 s := fun s hs e => by
    rw [show rN (pmB S) 46 0 = rN S 46 0 from congrFun kp.n46 0] at hs
    rw [show rN (pmB S) 26 = rN (pmA S) 26 from kp.n26, show rN (pmB S) 11 = rN (pmA S) 11 from kp.n11]
    exact k6 s hs e
  have e45 : rN (pmB S) 45 0 = rN S 45 0 := congrFun kp.n45 0
  have o60 : rO (mmB S) 60 = rO S 60 := by rw [eB]; exact (mtS_x (mmA S) _).1
  have ok : mmOK S := by
    have hb : ∀ i, i ≤ rN S 44 0 → Bnd (mtS (mmA S) i) ∧ (isToM (mtS (mmA S) i) i = true → rN (mtS (mmA S) i) 50 0 + 2 ≤ 1536 ∧ rN (mtS (mmA S) i) 25 i ≤ 3) := by
      have hf : ∀ i, i ≤ rN S 44 0 → isToM (mtS (mmA S) i) i = true → rN (mtS (mmA S) i) 50 0 + 2 ≤ 1536 ∧ rN (mtS (mmA S) i) 25 i ≤ 3 := by
        intro i hi e
        by_cases hi2 : i < rN S 46 0
        · obtain ⟨j1, j2, -, j4, -, -, j7⟩ := key i (by show i ≤ rN S 46 0; omega)
          rw [j7] at e
          have ea : rC (tmS (pmA S) i) 22 i = 97 := by simp only [isTo, Bool.and_eq_true, decide_eq_true_eq] at e; exact e.1
          have j8 := actN_pos (S := tmS (pmA S) i) (s := i) (by rw [show rN (tmS (pmA S) i) 46 0 = rN S 46 0 from congrFun (tmS_kp (pmA S) i).n46 0]; exact hi2) ea
          rw [j2.n]
          have j9 : rN (tmS (pmA S) i) 50 0 + 2 * actN (tmS (pmA S) i) ≤ rN S 50 0 + 2 * actN S := j4
          exact ⟨by omega, j1.w.tr i⟩
        · have m2 := mt_more (A := mmA S) (n := rN S 46 0) (fun s hs => k1.o64 s (by rw [show rN (tmS (pmA S) (rN S 46 0)) 46 0 = rN S 46 0 from congrFun (tmS_kp (pmA S) _).n46 0]; exact hs)) (i - rN S 46 0)
          rw [show rN S 46 0 + (i - rN S 46 0) = i by omega] at m2
          rw [m2.1] at e
          have := k1.o64 i (by rw [show rN (tmS (pmA S) (rN S 46 0)) 46 0 = rN S 46 0 from congrFun (tmS_kp (pmA S) _).n46 0]; omega)
          simp [isToM, this] at e
      intro i
      induction i with
      | zero =>
        intro hi
        refine ⟨?_, hf 0 hi⟩
        have hb0 := (mmA_p h hc).w.b
        have cc := mmA_cor h
        refine ⟨fun k j => by show rN (mmA S) k j < 1000000; rw [cc.n]; exact hb0.1 k j, fun k j v e => h.w.b.2 k j v e⟩
      | succ i ih =>
        intro hi
        obtain ⟨b1, b2⟩ := ih (by omega)
        refine ⟨?_, hf (i + 1) hi⟩
        by_cases e : isToM (mtS (mmA S) i) i = true
        · rw [show mtS (mmA S) (i + 1) = mfail (mtS (mmA S) i) i from if_pos e]
          obtain ⟨b3, b4⟩ := b2 e
          exact mfail_bnd b1 (by omega) b3 (by omega)
        · rw [show mtS (mmA S) (i + 1) = mtS (mmA S) i from if_neg e]
          exact b1
    refine ⟨fun i hi => ⟨(hb i hi).1, fun _ e => (hb i hi).2 e⟩, ?_⟩
    rw [c1.n]
    omega
  have b60 : ∀ j v, rO (mmB S) 60 j = some v → v < 1000000 := fun j v e => by rw [o60] at e; exact h.w.b.2 60 j v e
  cases e : pmE S with
  | false =>
    have e1 : mm9 S = mmB S := if_neg (by rw [e]; decide)
    have e2 : pm9 S = pmB S := if_neg (by rw [e]; decide)
    refine ⟨?_, by rw [e1, e2]; exact c1, eN, ?_, ?_, ok⟩
    · unfold pmX
      rw [e1, e2]
      exact p1.inv w1 b60
    · show Phi (jn9 (mm9 S) (pm9 S)) ≤ Phi S
      rw [e1, e2]
      show rN (pmB S) 50 0 + 2 * actN (pmB S) + rN (pmB S) 45 0 + (if (rO (pmB S) 47 0).isSome then 1 else 0) ≤ Phi S
      rw [pmB_47, e45]
      unfold Phi
      omega
    · show rN (pm9 S) 40 0 = _
      rw [e2, pmB_40]
  | true =>
    have e1 : mm9 S = mho9 (mmB S) := if_pos e
    have e2 : pm9 S = hov9 (pmB S) := if_pos e
    have eon : (rO S 47 0).isSome = true := by
      unfold pmE at e
      simp only [Bool.and_eq_true] at e
      exact e.1
    obtain ⟨p, e47⟩ := Option.isSome_iff_exists.mp eon
    obtain ⟨-, q, e48, -, -⟩ := h.h1 p e47
    have b47 : rO (pmB S) 47 0 = some p := by rw [pmB_47]; exact e47
    have b48 : rO (pmB S) 48 0 = some q := by rw [pmB_48]; exact e48
    have a47 : rO (mmB S) 47 0 = some p := by rw [mmB_47]; exact e47
    have a48 : rO (mmB S) 48 0 = some q := by rw [mmB_48]; exact e48
    rw [mho9_s a47 a48] at e1
    rw [hov9_s b47 b48] at e2
    have hq := h.w.to q e48
    have h43 := h.w.n43
    obtain ⟨g1, g2⟩ := p1.hov c1 b47 b48 (by omega)
    refine ⟨?_, by rw [e1, e2]; exact g2, eN, ?_, ?_, ok⟩
    · unfold pmX
      rw [e1, e2]
      refine g1.inv w1 (fun j v e3 => ?_)
      have e4 : rO (mhov (mmB S) p q) 60 = w60 (mmB S) q (wkM (mmB S) (some p)) := mW_60 _ _ _
      rw [e4] at e3
      revert e3
      cases wkM (mmB S) (some p) with
      | none => exact b60 j v
      | some t => exact up1_o b60 (fun k e5 => by cases e5; omega) j v
    · show Phi (jn9 (mm9 S) (pm9 S)) ≤ Phi S
      rw [e1, e2]
      show rN (pmB S) 50 0 + 1 + 2 * actN (pmB S) + rN (pmB S) 45 0 + 0 ≤ Phi S
      unfold Phi
      rw [e45, if_pos eon]
      omega
    · show rN (pm9 S) 40 0 = _
      rw [e2]
      exact pmB_40 S

