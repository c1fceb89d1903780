/-! ===== the invariant, of a pair of states ===== -/
theorem Wk.jn {B : St} (h : Wk B) (A : St) (hA : ∀ j v, rO A 60 j = some v → v < 1000000) : Wk (jn9 A B) := ⟨(h.b.sO 60 hA).sC 64 _, h.n43, h.n44, h.n46, h.n45, h.role, h.len, h.lim, h.cc, h.sen, h.fb, h.wk, h.fr, h.to, h.dn, h.tr, h.wo, h.cl, h.en, h.lm, h.tl, h.l1⟩
def InvP (A B : St) : Prop := (Wk B) ∧ (∀ s, s < rN B 46 0 → rC A 64 s = rC B 22 s) ∧ (∀ s, rN B 46 0 ≤ s → rC B 22 s ≠ 97) ∧ (∀ s, rN B 46 0 ≤ s → rC A 64 s ≠ 97) ∧ (∀ p s, p < rN B 43 0 → (rO B 9 p = some s ↔ s < rN B 46 0 ∧ rC B 22 s = 97 ∧ rO A 60 s = some p)) ∧ (∀ s, s < rN B 46 0 → rC B 22 s = 97 → ∃ p, p < rN B 43 0 ∧ rO A 60 s = some p) ∧ (∀ s, s < rN B 46 0 → rC B 22 s = 97 → rB B 41 0 = true) ∧ (rB B 41 0 = true → rN B 46 0 = rN B 44 0 ∧ 1 ≤ rN B 44 0) ∧ (∀ p, p < rN B 43 0 → rB B 8 p = false → rO B 9 p = none) ∧ (∀ p, rO B 47 0 = some p → rB B 41 0 = true ∧ ∃ q, rO B 48 0 = some q ∧ p ≠ q ∧ rB B 8 q = false) ∧ (rO B 47 0 = none → rO B 48 0 = none) ∧ (rN B 45 0 = cnt9 (fun s => decide (rC B 22 s = 100)) (rN B 46 0)) ∧ (∀ k, k < rN B 45 0 → rC B 22 (rN B 28 k) = 100) ∧ (∀ j k, j < k → k < rN B 45 0 → rN B 28 j ≠ rN B 28 k) ∧ (∀ s, s < rN B 46 0 → rC B 22 s = 100 → ∃ k, k < rN B 45 0 ∧ rN B 28 k = s) ∧ (∀ s, s < rN B 46 0 → lastS B s (if rB B 23 s then 111 else 119) (rN B 50 0) = rC B 22 s) ∧ (∀ s, s < rN B 46 0 → cntT B s (rN B 50 0) = rN B 25 s) ∧ (rB B 61 0 = decide (0 < rN B 46 0)) ∧ (∀ s t f, s < rN B 44 0 → t < rN B 44 0 → rO B 16 s = some f → rO B 16 t = some f → s = t) ∧ (∀ s, ∃ n, n < 65536 ∧ rI B 15 s = nI n) ∧ (∀ s, s < rN B 44 0 → rC B 13 s = 97 ∨ rC B 13 s = 111)
theorem InvP.w {A B : St} (h : InvP A B) : Wk B := h.1
theorem InvP.eq {A B : St} (h : InvP A B) : ∀ s, s < rN B 46 0 → rC A 64 s = rC B 22 s := h.2.1
theorem InvP.o22 {A B : St} (h : InvP A B) : ∀ s, rN B 46 0 ≤ s → rC B 22 s ≠ 97 := h.2.2.1
theorem InvP.o64 {A B : St} (h : InvP A B) : ∀ s, rN B 46 0 ≤ s → rC A 64 s ≠ 97 := h.2.2.2.1
theorem InvP.wa {A B : St} (h : InvP A B) : ∀ p s, p < rN B 43 0 → (rO B 9 p = some s ↔ s < rN B 46 0 ∧ rC B 22 s = 97 ∧ rO A 60 s = some p) := h.2.2.2.2.1
theorem InvP.aw {A B : St} (h : InvP A B) : ∀ s, s < rN B 46 0 → rC B 22 s = 97 → ∃ p, p < rN B 43 0 ∧ rO A 60 s = some p := h.2.2.2.2.2.1
theorem InvP.ar {A B : St} (h : InvP A B) : ∀ s, s < rN B 46 0 → rC B 22 s = 97 → rB B 41 0 = true := h.2.2.2.2.2.2.1
theorem InvP.run {A B : St} (h : InvP A B) : rB B 41 0 = true → rN B 46 0 = rN B 44 0 ∧ 1 ≤ rN B 44 0 := h.2.2.2.2.2.2.2.1
theorem InvP.od {A B : St} (h : InvP A B) : ∀ p, p < rN B 43 0 → rB B 8 p = false → rO B 9 p = none := h.2.2.2.2.2.2.2.2.1
theorem InvP.h1 {A B : St} (h : InvP A B) : ∀ p, rO B 47 0 = some p → rB B 41 0 = true ∧ ∃ q, rO B 48 0 = some q ∧ p ≠ q ∧ rB B 8 q = false := h.2.2.2.2.2.2.2.2.2.1
theorem InvP.h2 {A B : St} (h : InvP A B) : rO B 47 0 = none → rO B 48 0 = none := h.2.2.2.2.2.2.2.2.2.2.1
theorem InvP.dc {A B : St} (h : InvP A B) : rN B 45 0 = cnt9 (fun s => decide (rC B 22 s = 100)) (rN B 46 0) := h.2.2.2.2.2.2.2.2.2.2.2.1
theorem InvP.dd {A B : St} (h : InvP A B) : ∀ k, k < rN B 45 0 → rC B 22 (rN B 28 k) = 100 := h.2.2.2.2.2.2.2.2.2.2.2.2.1
theorem InvP.di {A B : St} (h : InvP A B) : ∀ j k, j < k → k < rN B 45 0 → rN B 28 j ≠ rN B 28 k := h.2.2.2.2.2.2.2.2.2.2.2.2.2.1
theorem InvP.ds {A B : St} (h : InvP A B) : ∀ s, s < rN B 46 0 → rC B 22 s = 100 → ∃ k, k < rN B 45 0 ∧ rN B 28 k = s := h.2.2.2.2.2.2.2.2.2.2.2.2.2.2.1
theorem InvP.lg {A B : St} (h : InvP A B) : ∀ s, s < rN B 46 0 → lastS B s (if rB B 23 s then 111 else 119) (rN B 50 0) = rC B 22 s := h.2.2.2.2.2.2.2.2.2.2.2.2.2.2.2.1
theorem InvP.lt {A B : St} (h : InvP A B) : ∀ s, s < rN B 46 0 → cntT B s (rN B 50 0) = rN B 25 s := h.2.2.2.2.2.2.2.2.2.2.2.2.2.2.2.2.1
theorem InvP.wr {A B : St} (h : InvP A B) : rB B 61 0 = decide (0 < rN B 46 0) := h.2.2.2.2.2.2.2.2.2.2.2.2.2.2.2.2.2.1
theorem InvP.fi {A B : St} (h : InvP A B) : ∀ s t f, s < rN B 44 0 → t < rN B 44 0 → rO B 16 s = some f → rO B 16 t = some f → s = t := h.2.2.2.2.2.2.2.2.2.2.2.2.2.2.2.2.2.2.1
theorem InvP.nb {A B : St} (h : InvP A B) : ∀ s, ∃ n, n < 65536 ∧ rI B 15 s = nI n := h.2.2.2.2.2.2.2.2.2.2.2.2.2.2.2.2.2.2.2.1
theorem InvP.jn {A B : St} (h : InvP A B) : ∀ s, s < rN B 44 0 → rC B 13 s = 97 ∨ rC B 13 s = 111 := h.2.2.2.2.2.2.2.2.2.2.2.2.2.2.2.2.2.2.2.2
theorem Inv.p {S : St} (h : Inv S) : InvP S S := ⟨h.w, h.eq, h.o22, h.o64, h.wa, h.aw, h.ar, h.run, h.od, h.h1, h.h2, h.dc, h.dd, h.di, h.ds, h.lg, h.lt, h.wr, h.fi, h.nb, h.jn⟩
theorem InvP.inv {A B : St} (h : InvP A B) (hw : ∀ s, s < rN B 46 0 → rC B 22 s = 97 → rN B 26 s < 2 * rN B 11 s) (hA : ∀ j v, rO A 60 j = some v → v < 1000000) : Inv (jn9 A B) := ⟨h.w.jn A hA, h.eq, h.o22, h.o64, h.wa, h.aw, h.ar, h.run, h.od, h.h1, h.h2, hw, h.dc, h.dd, h.di, h.ds, h.lg, h.lt, h.wr, h.fi, h.nb, h.jn⟩
/-- the log grows by an entry -/
theorem lastS_co {S T : St} {s : Nat} {f : UInt16} : ∀ e, (∀ j, j < e → rO S 30 j = rO T 30 j ∧ rC S 29 j = rC T 29 j) → lastS S s f e = lastS T s f e
  | 0, _ => rfl
  | e + 1, h => by
    obtain ⟨h1, h2⟩ := h e (Nat.lt_succ_self e)
    have h3 := lastS_co (S := S) (T := T) (s := s) (f := f) e (fun j hj => h j (Nat.lt_succ_of_lt hj))
    show (if rO S 30 e = some s then stAft (lastS S s f e) (rC S 29 e) else lastS S s f e) = if rO T 30 e = some s then stAft (lastS T s f e) (rC T 29 e) else lastS T s f e
    rw [h1, h2, h3]
theorem cntT_co {S T : St} {s : Nat} : ∀ e, (∀ j, j < e → rO S 30 j = rO T 30 j ∧ rC S 29 j = rC T 29 j) → cntT S s e = cntT T s e
  | 0, _ => rfl
  | e + 1, h => by
    obtain ⟨h1, h2⟩ := h e (Nat.lt_succ_self e)
    rw [cntT_e, cntT_e, h1, h2, cntT_co e (fun j hj => h j (Nat.lt_succ_of_lt hj))]
theorem lg_low {T : St} {sg : UInt16} {st pp : Option Nat} {mi : Nat} : ∀ j, j < rN T 50 0 → rO (lgw T sg st pp mi) 30 j = rO T 30 j ∧ rC (lgw T sg st pp mi) 29 j = rC T 29 j := fun j hj => by
  constructor
  · show up1 (rO T 30) (rN T 50 0) st j = _
    rw [up1_ne (by omega)]
  · show up1 (rC T 29) (rN T 50 0) sg j = _
    rw [up1_ne (by omega)]
theorem lastS_lg (T : St) (sg : UInt16) (st pp : Option Nat) (mi s : Nat) (f : UInt16) : lastS (lgw T sg st pp mi) s f (rN (lgw T sg st pp mi) 50 0) = if st = some s then stAft (lastS T s f (rN T 50 0)) sg else lastS T s f (rN T 50 0) := by
  show lastS (lgw T sg st pp mi) s f (rN T 50 0 + 1) = _
  have e1 : rO (lgw T sg st pp mi) 30 (rN T 50 0) = st := up1_same
  have e2 : rC (lgw T sg st pp mi) 29 (rN T 50 0) = sg := up1_same
  show (if rO (lgw T sg st pp mi) 30 (rN T 50 0) = some s then stAft (lastS (lgw T sg st pp mi) s f (rN T 50 0)) (rC (lgw T sg st pp mi) 29 (rN T 50 0)) else lastS (lgw T sg st pp mi) s f (rN T 50 0)) = _
  rw [e1, e2, lastS_co _ lg_low]
theorem cntT_lg (T : St) (sg : UInt16) (st pp : Option Nat) (mi s : Nat) : cntT (lgw T sg st pp mi) s (rN (lgw T sg st pp mi) 50 0) = if st = some s then (if sg = 109 ∨ sg = 102 then cntT T s (rN T 50 0) + 1 else if sg = 117 then 0 else cntT T s (rN T 50 0)) else cntT T s (rN T 50 0) := by
  show cntT (lgw T sg st pp mi) s (rN T 50 0 + 1) = _
  have e1 : rO (lgw T sg st pp mi) 30 (rN T 50 0) = st := up1_same
  have e2 : rC (lgw T sg st pp mi) 29 (rN T 50 0) = sg := up1_same
  rw [cntT_e, e1, e2, cntT_co _ lg_low]
/-- the first state of a step in the run -/
def f0 (S : St) (s : Nat) : UInt16 := if rB S 23 s then 111 else 119
-- what a lost try does to the states
theorem failA_22 {B : St} {s j : Nat} {q : UInt16} : rC (failA B s q) 22 j = up1 (rC B 22) s q j := rfl
theorem cin9_22 (T : St) (c : Option Nat) (j : Nat) : rC (cin9 T c) 22 j = rC T 22 j ∨ (rC T 22 j = 111 ∧ rC (cin9 T c) 22 j = 119 ∧ c = some j ∧ j < rN T 46 0) := by
  cases c with
  | none => exact .inl rfl
  | some t =>
    by_cases e : t < rN T 46 0 ∧ rC T 22 t = 111
    · rw [cin9_y e.1 e.2]
      by_cases e3 : j = t
      · subst e3; exact .inr ⟨e.2, up1_same, rfl, e.1⟩
      · exact .inl (up1_ne e3)
    · rw [show cin9 T (some t) = T from if_neg e]; exact .inl rfl
theorem fail9_22 (B : St) (s j : Nat) (ha : rC B 22 s = 97) : (j ≠ s → rC (fail9 B s) 22 j = rC B 22 j ∨ (rC B 22 j = 111 ∧ rC (fail9 B s) 22 j = 119)) ∧ (j = s → rC (fail9 B s) 22 j = 119 ∨ rC (fail9 B s) 22 j = 102) := by
  unfold fail9
  split
  · refine ⟨fun e => .inl ?_, fun e => .inl ?_⟩
    · show up1 (rC B 22) s 119 j = _
      exact up1_ne e
    · show up1 (rC B 22) s 119 j = _
      subst e; exact up1_same
  · have h := cin9_22 (failB B s) (rO B 16 s) j
    have e1 : rC (failB B s) 22 j = up1 (rC B 22) s 102 j := rfl
    rw [e1] at h
    refine ⟨fun e => ?_, fun e => ?_⟩
    · rw [up1_ne e] at h
      rcases h with h | ⟨h1, h2, -⟩
      · exact .inl h
      · exact .inr ⟨h1, h2⟩
    · subst e
      rw [up1_same] at h
      rcases h with h | ⟨h1, -⟩
      · exact .inr h
      · exact absurd h1 (by decide)
theorem fail9_a {B : St} {s j : Nat} (ha : rC B 22 s = 97) : rC (fail9 B s) 22 j = 97 ↔ rC B 22 j = 97 ∧ j ≠ s := by
  obtain ⟨h1, h2⟩ := fail9_22 B s j ha
  by_cases e : j = s
  · rcases h2 e with h3 | h3 <;> rw [h3] <;> simp [e]
  · rcases h1 e with h3 | ⟨h3, h4⟩
    · rw [h3]; simp [e]
    · rw [h4, h3]; simp
theorem fail9_d {B : St} {s j : Nat} (ha : rC B 22 s = 97) : rC (fail9 B s) 22 j = 100 ↔ rC B 22 j = 100 := by
  obtain ⟨h1, h2⟩ := fail9_22 B s j ha
  by_cases e : j = s
  · subst e
    rcases h2 rfl with h3 | h3 <;> rw [h3, ha] <;> simp
  · rcases h1 e with h3 | ⟨h3, h4⟩
    · rw [h3]
    · rw [h4, h3]; simp
theorem cin9_9 (T : St) (c : Option Nat) : rO (cin9 T c) 9 = rO T 9 := by
  cases c with
  | none => rfl
  | some t =>
    by_cases e : t < rN T 46 0 ∧ rC T 22 t = 111
    · rw [cin9_y e.1 e.2]; rfl
    · rw [show cin9 T (some t) = T from if_neg e]
theorem cin9_13 (T : St) (c : Option Nat) : rC (cin9 T c) 13 = rC T 13 ∧ rB (cin9 T c) 61 = rB T 61 := by
  cases c with
  | none => exact ⟨rfl, rfl⟩
  | some t =>
    by_cases e : t < rN T 46 0 ∧ rC T 22 t = 111
    · rw [cin9_y e.1 e.2]; exact ⟨rfl, rfl⟩
    · rw [show cin9 T (some t) = T from if_neg e]; exact ⟨rfl, rfl⟩
theorem fail9_13x (B : St) (s : Nat) : rC (fail9 B s) 13 = rC B 13 ∧ rB (fail9 B s) 61 = rB B 61 := by
  unfold fail9
  split
  · exact ⟨rfl, rfl⟩
  · exact cin9_13 (failB B s) _
theorem fail9_13 (B : St) (s : Nat) : rC (fail9 B s) 13 = rC B 13 := (fail9_13x B s).1
theorem fail9_9 (B : St) (s : Nat) : rO (fail9 B s) 9 = relW B s (rN B 43 0) := by
  unfold fail9
  split
  · rfl
  · rw [cin9_9]; rfl
theorem relW_iff {B : St} {s p t : Nat} (hp : p < rN B 43 0) : relW B s (rN B 43 0) p = some t ↔ rO B 9 p = some t ∧ t ≠ s := by
  unfold relW
  by_cases e : rO B 9 p = some s
  · rw [if_pos ⟨hp, e⟩, e]
    simp only [Option.some.injEq]
    constructor
    · intro h; cases h
    · intro h; exact absurd h.1.symm h.2
  · rw [if_neg (fun h => e h.2)]
    constructor
    · intro h; exact ⟨h, fun e2 => e (by rw [h, e2])⟩
    · intro h; exact h.1
/-- the log, and the tries in it, after a lost try -/
theorem cin9_lg {T : St} {c : Option Nat} {s : Nat} {f : UInt16} : (lastS T s f (rN T 50 0) = rC T 22 s → lastS (cin9 T c) s f (rN (cin9 T c) 50 0) = rC (cin9 T c) 22 s) ∧ (cntT (cin9 T c) s (rN (cin9 T c) 50 0) = cntT T s (rN T 50 0)) ∧ rN (cin9 T c) 25 = rN T 25 := by
  cases c with
  | none => exact ⟨id, rfl, rfl⟩
  | some t =>
    by_cases e : t < rN T 46 0 ∧ rC T 22 t = 111
    · rw [cin9_y e.1 e.2, lastS_lg, cntT_lg]
      refine ⟨fun h => ?_, ?_, rfl⟩
      · show _ = up1 (rC T 22) t 119 s
        by_cases e3 : s = t
        · subst e3; rw [up1_same, if_pos rfl]; rfl
        · rw [up1_ne e3, if_neg (fun e4 => e3 (by cases e4; rfl))]; exact h
      · by_cases e3 : s = t
        · subst e3; rw [if_pos rfl]; rfl
        · rw [if_neg (fun e4 => e3 (by cases e4; rfl))]; rfl
    · rw [show cin9 T (some t) = T from if_neg e]; exact ⟨id, rfl, rfl⟩
theorem fail9_lg {B : St} {s j : Nat} {f : UInt16} (h1 : lastS B j f (rN B 50 0) = rC B 22 j) (h2 : cntT B j (rN B 50 0) = rN B 25 j) : lastS (fail9 B s) j f (rN (fail9 B s) 50 0) = rC (fail9 B s) 22 j ∧ cntT (fail9 B s) j (rN (fail9 B s) 50 0) = rN (fail9 B s) 25 j := by
  have key : ∀ (q sg : UInt16), stAft (lastS B j f (rN B 50 0)) sg = q → (sg = 109 ∨ sg = 102) → lastS (lgw (failA B s q) sg (some s) none (rN B 40 0)) j f (rN (lgw (failA B s q) sg (some s) none (rN B 40 0)) 50 0) = up1 (rC B 22) s q j ∧ cntT (lgw (failA B s q) sg (some s) none (rN B 40 0)) j (rN (lgw (failA B s q) sg (some s) none (rN B 40 0)) 50 0) = up1 (rN B 25) s (rN B 25 s + 1) j := by
    intro q sg hq hs
    rw [lastS_lg, cntT_lg]
    by_cases e : j = s
    · subst e
      rw [if_pos rfl, if_pos rfl, if_pos hs, up1_same, up1_same]
      exact ⟨hq, congrArg (· + 1) h2⟩
    · rw [if_neg (fun e4 => e (by cases e4; rfl)), if_neg (fun e4 => e (by cases e4; rfl)), up1_ne e, up1_ne e]
      exact ⟨h1, h2⟩
  unfold fail9
  split
  · exact key 119 109 rfl (.inl rfl)
  · obtain ⟨k1, k2⟩ := key 102 102 rfl (.inr rfl)
    obtain ⟨g1, g2, g3⟩ := cin9_lg (T := failB B s) (c := rO B 16 s) (s := j) (f := f)
    exact ⟨g1 k1, g2.trans (k2.trans (by rw [g3]; rfl))⟩

theorem InvP.fail {A B : St} (h : InvP A B) (c : Cor A B) {s : Nat} (hs : s < rN B 46 0) (ha : rC B 22 s = 97) (he : rN B 50 0 + 2 * actN B ≤ 1536) : InvP (mfail A s) (fail9 B s) ∧ Cor (mfail A s) (fail9 B s) := by
  have kb := fail9_kp B s
  have e46 : rN (fail9 B s) 46 0 = rN B 46 0 := congrFun kb.n46 0
  have e43 : rN (fail9 B s) 43 0 = rN B 43 0 := congrFun kb.n43 0
  have e44 : rN (fail9 B s) 44 0 = rN B 44 0 := congrFun kb.n44 0
  have e45 : rN (fail9 B s) 45 0 = rN B 45 0 := congrFun kb.n45 0
  have e60 := (mfail_x A s).1
  have hr := h.ar s hs ha
  have cm := CM.fail (A := A) (B := B) ⟨c, h.eq, fun t ht => ⟨h.o64 t ht, h.o22 t ht⟩⟩ hs (fun t e => by rw [(h.run hr).1] at *; exact (h.w.fb s t hs e).2)
  refine ⟨⟨(fail9_ok h.w hs ha he).1, cm.2.1, fun t ht => (cm.2.2 t ht).2, fun t ht => (cm.2.2 t ht).1, fun p t hp => ?wa, fun t ht e => ?aw, fun t ht e => ?ar, fun e => ?run, fun p hp e => ?od, fun p e => ?h1, fun e => ?h2, ?dc, fun k hk => ?dd, fun j k h9 hk => ?di, fun t ht e => ?ds, fun t ht => ?lg, fun t ht => ?lt, ?wr, ?fi, ?nb, ?jn⟩, cm.1⟩
  case wa =>
    rw [e43] at hp
    rw [fail9_9, relW_iff hp, h.wa p t hp, e46, fail9_a ha, e60]
    constructor
    · rintro ⟨⟨a1, a2, a3⟩, a4⟩; exact ⟨a1, ⟨a2, a4⟩, a3⟩
    · rintro ⟨a1, ⟨a2, a4⟩, a3⟩; exact ⟨⟨a1, a2, a3⟩, a4⟩
  case aw => rw [e46] at ht; rw [e43, e60]; exact h.aw t ht ((fail9_a ha).mp e).1
  case ar => rw [kb.b41]; exact hr
  case run => rw [e46, e44]; rw [kb.b41] at e; exact h.run e
  case od =>
    rw [e43] at hp
    rw [kb.b8] at e
    rw [fail9_9]
    have := h.od p hp e
    cases e9 : relW B s (rN B 43 0) p with
    | none => rfl
    | some t => rw [((relW_iff hp).mp e9).1] at this; cases this
  case h1 => rw [kb.o47] at e; rw [kb.b41, kb.o48, kb.b8]; exact h.h1 p e
  case h2 => rw [kb.o47] at e; rw [kb.o48]; exact h.h2 e
  case dc => rw [e45, e46, h.dc]; exact cnt9_cong (fun j hj => by simp only [fail9_d ha])
  case dd => rw [e45] at hk; rw [kb.n28, fail9_d ha]; exact h.dd k hk
  case di => rw [e45] at hk; rw [kb.n28]; exact h.di j k h9 hk
  case ds => rw [e46] at ht; rw [e45, kb.n28]; exact h.ds t ht ((fail9_d ha).mp e)
  case lg => rw [e46] at ht; rw [kb.b23]; exact (fail9_lg (h.lg t ht) (h.lt t ht)).1
  case lt => rw [e46] at ht; exact (fail9_lg (f := if rB B 23 t then 111 else 119) (h.lg t ht) (h.lt t ht)).2
  case wr => rw [e46, (fail9_13x B s).2]; exact h.wr
  case fi => rw [e44, kb.o16]; exact h.fi
  case nb => rw [kb.i]; exact h.nb
  case jn => rw [e44]; exact fun t ht => by rw [fail9_13]; exact h.jn t ht
