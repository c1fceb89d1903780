/-! ===== undoing keeps the invariant ===== -/
def mu1 (T : St) : St := lgw (sN (sC (sN T 45 (fun _ => rN T 45 0 - 1)) 64 (up1 (rC T 64) (rN T 28 (rN T 45 0 - 1)) 119)) 25 (up1 (rN T 25) (rN T 28 (rN T 45 0 - 1)) 0)) 117 (some (rN T 28 (rN T 45 0 - 1))) none (rN T 40 0)
def muS (S : St) : Nat → St
  | 0 => S
  | j + 1 => mu1 (muS S j)
theorem mu1_bnd {T : St} (h : Bnd T) (he : rN T 50 0 < 1536) : Bnd (mu1 T) := by
  unfold mu1
  exact lgw_bnd (((h.sN 45 (fun _ => by have := h.1 45 0; omega)).sC 64 _).sN 25 (up1_lt (h.1 25) (by omega))) he (fun k e => by cases e; exact h.1 28 _) (fun _ e => by cases e) (h.1 40 0)

theorem InvP.und {A B : St} (h : InvP A B) (c : Cor A B) (h0 : 0 < rN B 45 0) (hna : ∀ s, s < rN B 46 0 → rC B 22 s ≠ 97) (he : rN B 50 0 < 1536) : (InvP (mu1 A) (und1 B) ∧ Cor (mu1 A) (und1 B)) ∧ ∀ s, s < rN B 46 0 → rC (und1 B) 22 s ≠ 97 := by
  have h46 := h.w.n46
  have h44 := h.w.n44
  have h45 := h.w.n45
  have hcl := h.w.cl
  have hd : rN B 28 (rN B 45 0 - 1) < rN B 46 0 := h.w.dn _ (by omega)
  have hd1 := h.dd (rN B 45 0 - 1) (by omega)
  have e64 : rC (mu1 A) 64 = up1 (rC A 64) (rN B 28 (rN B 45 0 - 1)) 119 := by
    show up1 (rC A 64) (rN A 28 (rN A 45 0 - 1)) 119 = _
    rw [c.n]
  have na : ∀ t, t < rN B 46 0 → up1 (rC B 22) (rN B 28 (rN B 45 0 - 1)) 119 t ≠ 97 := fun t ht => by
    by_cases a : t = rN B 28 (rN B 45 0 - 1)
    · rw [a, up1_same]; decide
    · rw [up1_ne a]; exact hna t ht
  refine ⟨⟨⟨?w, fun t ht => ?eq, fun t ht => ?o22, fun t ht => ?o64, fun r t hr2 => ?wa, fun t ht e => ?aw, fun t ht e => ?ar, h.run, h.od, h.h1, h.h2, ?dc, fun k hk => ?dd, fun j k hjk hk => ?di, fun t ht e => ?ds, fun t ht => ?lg, fun t ht => ?lt, h.wr, h.fi, h.nb, h.jn⟩, ?c⟩, na⟩
  case w =>
    refine ⟨und1_bnd h.w.b he, h.w.n43, h.w.n44, h.w.n46, ?_, h.w.role, h.w.len, h.w.lim, h.w.cc, h.w.sen, h.w.fb, h.w.wk, h.w.fr, h.w.to, ?_, ?_, h.w.wo, h.w.cl, he, h.w.lm, ?_, h.w.l1⟩
    · show rN B 45 0 - 1 ≤ 16; omega
    · intro k hk
      have hk2 : k < rN B 45 0 - 1 := hk
      exact h.w.dn k (by omega)
    · intro j
      show up1 (rN B 25) (rN B 28 (rN B 45 0 - 1)) 0 j ≤ 3
      by_cases a : j = rN B 28 (rN B 45 0 - 1)
      · rw [a, up1_same]; omega
      · rw [up1_ne a]; exact h.w.tr j
    · intro t ht e
      have ht2 : t < rN B 46 0 := ht
      show up1 (rN B 25) (rN B 28 (rN B 45 0 - 1)) 0 t < rN B 12 t
      by_cases a : t = rN B 28 (rN B 45 0 - 1)
      · rw [a, up1_same]
        have := h.w.lm _ (Nat.lt_of_lt_of_le hd h46)
        omega
      · have e2 : up1 (rC B 22) (rN B 28 (rN B 45 0 - 1)) 119 t = 97 ∨ up1 (rC B 22) (rN B 28 (rN B 45 0 - 1)) 119 t = 119 ∨ up1 (rC B 22) (rN B 28 (rN B 45 0 - 1)) 119 t = 111 := e
        rw [up1_ne a] at e2 ⊢
        exact h.w.tl t ht e2
  case eq =>
    rw [e64]
    show _ = up1 (rC B 22) (rN B 28 (rN B 45 0 - 1)) 119 t
    by_cases a : t = rN B 28 (rN B 45 0 - 1)
    · rw [a, up1_same, up1_same]
    · rw [up1_ne a, up1_ne a]; exact h.eq t ht
  case o22 =>
    have ht2 : rN B 46 0 ≤ t := ht
    show up1 (rC B 22) (rN B 28 (rN B 45 0 - 1)) 119 t ≠ 97
    rw [up1_ne (by omega)]; exact h.o22 t ht2
  case o64 =>
    have ht2 : rN B 46 0 ≤ t := ht
    rw [e64, up1_ne (by omega)]; exact h.o64 t ht2
  case wa =>
    have base := h.wa r t hr2
    show rO B 9 r = some t ↔ t < rN B 46 0 ∧ up1 (rC B 22) (rN B 28 (rN B 45 0 - 1)) 119 t = 97 ∧ rO A 60 t = some r
    rw [base]
    constructor
    · rintro ⟨a1, a2, -⟩; exact absurd a2 (hna t a1)
    · rintro ⟨a1, a2, -⟩; exact absurd a2 (na t a1)
  case aw => exact absurd e (na t ht)
  case ar => exact absurd e (na t ht)
  case dc =>
    show rN B 45 0 - 1 = cnt9 (fun j => decide (up1 (rC B 22) (rN B 28 (rN B 45 0 - 1)) 119 j = 100)) (rN B 46 0)
    have := cnt9_flip (p := fun j => decide (rC B 22 j = 100)) (q := fun j => decide (up1 (rC B 22) (rN B 28 (rN B 45 0 - 1)) 119 j = 100)) hd (by simp [hd1]) (by simp [up1_same]) (fun j hj => by simp [up1_ne hj])
    have h1 := h.dc
    omega
  case dd =>
    have hk2 : k < rN B 45 0 - 1 := hk
    show up1 (rC B 22) (rN B 28 (rN B 45 0 - 1)) 119 (rN B 28 k) = 100
    rw [up1_ne (h.di k _ hk2 (by omega))]
    exact h.dd k (by omega)
  case di =>
    have hk2 : k < rN B 45 0 - 1 := hk
    exact h.di j k hjk (by omega)
  case ds =>
    have e2 : up1 (rC B 22) (rN B 28 (rN B 45 0 - 1)) 119 t = 100 := e
    show ∃ k, k < rN B 45 0 - 1 ∧ rN B 28 k = t
    by_cases a : t = rN B 28 (rN B 45 0 - 1)
    · rw [a, up1_same] at e2; exact absurd e2 (by decide)
    · rw [up1_ne a] at e2
      obtain ⟨k, k1, k2⟩ := h.ds t ht e2
      refine ⟨k, ?_, k2⟩
      have : k ≠ rN B 45 0 - 1 := fun e3 => a (by rw [← k2, e3])
      omega
  case lg =>
    refine (lastS_lg (sN (sC (sN B 45 (fun _ => rN B 45 0 - 1)) 22 (up1 (rC B 22) (rN B 28 (rN B 45 0 - 1)) 119)) 25 (up1 (rN B 25) (rN B 28 (rN B 45 0 - 1)) 0)) 117 (some (rN B 28 (rN B 45 0 - 1))) none (rN B 40 0) t (if rB B 23 t then 111 else 119)).trans ?_
    show _ = up1 (rC B 22) (rN B 28 (rN B 45 0 - 1)) 119 t
    by_cases a : t = rN B 28 (rN B 45 0 - 1)
    · rw [if_pos (by rw [a]), a, up1_same]; rfl
    · rw [if_neg (fun e => a (by cases e; rfl)), up1_ne a]; exact h.lg t ht
  case lt =>
    refine (cntT_lg (sN (sC (sN B 45 (fun _ => rN B 45 0 - 1)) 22 (up1 (rC B 22) (rN B 28 (rN B 45 0 - 1)) 119)) 25 (up1 (rN B 25) (rN B 28 (rN B 45 0 - 1)) 0)) 117 (some (rN B 28 (rN B 45 0 - 1))) none (rN B 40 0) t).trans ?_
    show _ = up1 (rN B 25) (rN B 28 (rN B 45 0 - 1)) 0 t
    by_cases a : t = rN B 28 (rN B 45 0 - 1)
    · rw [if_pos (by rw [a]), a, up1_same, if_neg (by decide), if_pos rfl]
    · rw [if_neg (fun e => a (by cases e; rfl)), up1_ne a]; exact h.lt t ht
  case c =>
    unfold mu1 und1
    rw [c.n]
    exact ((((c.sN rfl).l64 _).r22 _).sN rfl).lg _ _ _ _

theorem und_ok {S : St} (h : Inv S) (ha : anyA S = false) (he : Phi S + 3 ≤ 1536) : ∀ j, j ≤ rN S 45 0 → InvP (muS S j) (undS S j) ∧ Cor (muS S j) (undS S j) ∧ (∀ s, s < rN (undS S j) 46 0 → rC (undS S j) 22 s ≠ 97) ∧ rN (undS S j) 45 0 = rN S 45 0 - j ∧ rN (undS S j) 50 0 = rN S 50 0 + j ∧ rN (undS S j) 46 0 = rN S 46 0 ∧ rN (undS S j) 40 0 = rN S 40 0 ∧ rO (undS S j) 47 = rO S 47 ∧ rO (muS S j) 60 = rO S 60
  | 0, _ => ⟨h.p, Cor.refl S, fun s hs e => by have := any9_false ha s hs; simp [show rC S 22 s = 97 from e] at this, rfl, rfl, rfl, rfl, rfl, rfl⟩
  | j + 1, hj => by
    obtain ⟨h1, h2, h3, h4, h5, h6, h7, h8, h9⟩ := und_ok h ha he j (by omega)
    have hp : rN S 50 0 + rN S 45 0 + 3 ≤ 1536 := by unfold Phi at he; omega
    obtain ⟨⟨g1, g2⟩, g3⟩ := h1.und h2 (by omega) h3 (by omega)
    refine ⟨g1, g2, g3, ?_, ?_, h6, h7, h8, h9⟩
    · show rN (undS S j) 45 0 - 1 = _
      omega
    · show rN (undS S j) 50 0 + 1 = _
      omega
def xUD (S : St) (n : Nat) : St := jn9 (muS S n) (undS S n)
theorem noA_act {S : St} (h : ∀ s, s < rN S 46 0 → rC S 22 s ≠ 97) : actN S = 0 := cnt9_zero.mpr (fun j hj => by simp [h j hj])
theorem Inv.ud {S : St} (h : Inv S) (ha : anyA S = false) (he : Phi S + 3 ≤ 1536) {n : Nat} (hn : n ≤ rN S 45 0) : Inv (xUD S n) ∧ Phi (xUD S n) ≤ Phi S ∧ rN (xUD S n) 40 0 = rN S 40 0 := by
  obtain ⟨h1, h2, h3, h4, h5, h6, h7, h8, h9⟩ := und_ok h ha he n hn
  refine ⟨h1.inv (fun s hs e => absurd e (h3 s hs)) (fun j v e => by rw [h9] at e; exact h.w.b.2 60 j v e), ?_, h7⟩
  show rN (undS S n) 50 0 + 2 * actN (undS S n) + rN (undS S n) 45 0 + (if (rO (undS S n) 47 0).isSome then 1 else 0) ≤ Phi S
  rw [noA_act h3, h4, h5, h8]
  unfold Phi
  omega
/-- a lost try, on both sides -/
def xfl (S : St) (s : Nat) : St := jn9 (mfail S s) (fail9 S s)
theorem Inv.fl {S : St} (h : Inv S) {s : Nat} (hs : s < rN S 46 0) (ha : rC S 22 s = 97) (he : Phi S + 3 ≤ 1536) : Inv (xfl S s) ∧ Cor (mfail S s) (fail9 S s) ∧ Phi (xfl S s) ≤ Phi S ∧ rN (xfl S s) 40 0 = rN S 40 0 := by
  have hp : rN S 50 0 + 2 * actN S ≤ 1536 := by unfold Phi at he; omega
  obtain ⟨g1, g2⟩ := h.p.fail (Cor.refl S) hs ha hp
  have kb := fail9_kp S s
  have g3 := (fail9_ok h.w hs ha hp).2
  refine ⟨g1.inv (fun t ht e => ?_) (fun j v e => by rw [(mfail_x S s).1] at e; exact h.w.b.2 60 j v e), g2, ?_, congrFun kb.n40 0⟩
  · rw [congrFun kb.n46 0] at ht
    rw [kb.n26, kb.n11]
    exact h.wl t ht (fail9_97 e)
  · show rN (fail9 S s) 50 0 + 2 * actN (fail9 S s) + rN (fail9 S s) 45 0 + (if (rO (fail9 S s) 47 0).isSome then 1 else 0) ≤ Phi S
    rw [congrFun kb.n45 0, kb.o47]
    unfold Phi
    omega
/-- minutes, on both sides -/
def pmXI (S : St) : Nat → St
  | 0 => S
  | i + 1 => pmX (pmXI S i)
def pmXT (S : St) : Nat → Nat
  | 0 => 0
  | i + 1 => pmXT S i + pmN (pmXI S i)
theorem pmXI_ok {S : St} (h : Inv S) (he : Phi S + 3 ≤ 1536) (hc : rN S 40 0 + 240 ≤ 122880) : ∀ i, i ≤ 240 → Inv (pmXI S i) ∧ Phi (pmXI S i) ≤ Phi S ∧ rN (pmXI S i) 40 0 = rN S 40 0 + i
  | 0, _ => ⟨h, Nat.le_refl _, rfl⟩
  | i + 1, hi => by
    obtain ⟨h1, h2, h3⟩ := pmXI_ok h he hc i (by omega)
    obtain ⟨g1, -, -, g4, g5, -⟩ := minute_ok h1 (by omega) (by omega)
    exact ⟨g1, Nat.le_trans g4 h2, by show rN (pmX (pmXI S i)) 40 0 = _; omega⟩
theorem pmN_le {S : St} (h : Wk S) : pmN S ≤ 16 := Nat.le_trans (tmN_le (pmA S) _) (Nat.le_trans h.n46 h.n44)
theorem pmXT_le {S : St} (h : Inv S) (he : Phi S + 3 ≤ 1536) (hc : rN S 40 0 + 240 ≤ 122880) : ∀ i, i ≤ 240 → pmXT S i ≤ 16 * i
  | 0, _ => Nat.le_refl _
  | i + 1, hi => by
    have h1 := pmXT_le h he hc i (by omega)
    have h2 := pmN_le (pmXI_ok h he hc i (by omega)).1.w
    show pmXT S i + pmN (pmXI S i) ≤ _
    omega

