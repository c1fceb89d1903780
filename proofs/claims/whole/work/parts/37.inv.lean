/-! ===== every call keeps the invariant ===== -/
theorem Wk.ap {S : St} (h : Wk S) (x : Int32) (h8 : rN S 43 0 < 8) : Wk (sAP S x) := by
  refine ⟨?b, ?n43, h.n44, h.n46, h.n45, h.role, h.len, h.lim, h.cc, h.sen, h.fb, ?wk, ?fr, ?to, h.dn, h.tr, h.wo, h.cl, h.en, h.lm, h.tl, h.l1⟩
  case b => exact ((h.b.sI 7 _).sO 9 (up1_o (h.b.2 9) (fun _ e => by cases e))).sN 43 (fun _ => by omega)
  case n43 => exact h8
  case wk => 
    intro p s hp e
    have e2 : up1 (rO S 9) (rN S 43 0) none p = some s := e
    by_cases a : p = rN S 43 0
    · subst a; rw [up1_same] at e2; cases e2
    · rw [up1_ne a] at e2; exact h.wk p s (by have hp2 : p < rN S 43 0 + 1 := hp; omega) e2
  case fr => exact fun p e => Nat.lt_succ_of_lt (h.fr p e)
  case to => exact fun p e => Nat.lt_succ_of_lt (h.to p e)

theorem Inv.ap {S : St} (h : Inv S) (x : Int32) (h8 : rN S 43 0 < 8) : Inv (sAP S x) := by
  refine ⟨?w, h.eq, h.o22, h.o64, ?wa, ?aw, h.ar, h.run, ?od, h.h1, h.h2, h.wl, h.dc, h.dd, h.di, h.ds, h.lg, h.lt, h.wr, h.fi, h.nb, h.jn⟩
  case w => exact h.w.ap x h8
  case wa => 
    intro p s hp
    have hp2 : p < rN S 43 0 + 1 := hp
    show up1 (rO S 9) (rN S 43 0) none p = some s ↔ _
    by_cases a : p = rN S 43 0
    · subst a
      rw [up1_same]
      constructor
      · intro e; cases e
      · rintro ⟨a1, a2, a3⟩
        obtain ⟨r, r1, r2⟩ := h.aw s a1 a2
        have a4 : rO S 60 s = some (rN S 43 0) := a3
        rw [a4] at r2; cases r2; omega
    · rw [up1_ne a]; exact h.wa p s (by omega)
  case aw => 
    intro s hs e
    obtain ⟨r, r1, r2⟩ := h.aw s hs e
    exact ⟨r, Nat.lt_succ_of_lt r1, r2⟩
  case od => 
    intro p hp e
    have hp2 : p < rN S 43 0 + 1 := hp
    show up1 (rO S 9) (rN S 43 0) none p = none
    by_cases a : p = rN S 43 0
    · subst a; exact up1_same
    · rw [up1_ne a]; exact h.od p (by omega) e

theorem Inv.sd {S : St} (h : Inv S) {p : Nat} (b : Bool) (h9 : rO S 9 p = none) (h48 : ¬ rO S 48 0 = some p) : Inv (sB S 8 (up1 (rB S 8) p b)) := by
  refine ⟨h.w, h.eq, h.o22, h.o64, h.wa, h.aw, h.ar, h.run, ?od, ?h1, h.h2, h.wl, h.dc, h.dd, h.di, h.ds, h.lg, h.lt, h.wr, h.fi, h.nb, h.jn⟩
  case od => 
    intro r hr e
    by_cases a : r = p
    · subst a; exact h9
    · have e2 : up1 (rB S 8) p b r = false := e
      rw [up1_ne a] at e2; exact h.od r hr e2
  case h1 => 
    intro r e
    obtain ⟨a1, q, a2, a3, a4⟩ := h.h1 r e
    refine ⟨a1, q, a2, a3, ?_⟩
    show up1 (rB S 8) p b q = false
    rw [up1_ne (fun e2 => h48 (by rw [← e2]; exact a2))]; exact a4

theorem Wk.as {S : St} (h : Wk S) {r le tr : Nat} {jn : UInt16} {rv : Bool} (h1 : r < 4) (h2 : 1 ≤ le) (h3 : le ≤ 60) (h4 : 1 ≤ tr) (h5 : tr ≤ 3) (h6 : rN S 44 0 < 16) : Wk (sC (sN (sO (sB (sC (sN (sN (sN S 10 (up1 (rN S 10) (rN S 44 0) r)) 11 (up1 (rN S 11) (rN S 44 0) le)) 12 (up1 (rN S 12) (rN S 44 0) tr)) 13 (up1 (rC S 13) (rN S 44 0) jn)) 14 (up1 (rB S 14) (rN S 44 0) rv)) 16 (up1 (rO S 16) (rN S 44 0) none)) 44 (fun _ => rN S 44 0 + 1)) 64 (up1 (rC S 64) (rN S 44 0) 111)) := by
  refine ⟨?b, h.n43, ?n44, ?n46, h.n45, ?role, ?len, ?lim, h.cc, h.sen, ?fb, h.wk, h.fr, h.to, h.dn, h.tr, h.wo, h.cl, h.en, ?lm, ?tl, ?l1⟩
  case b => exact ((((((((h.b.sN 10 (up1_lt (h.b.1 10) (by omega))).sN 11 (up1_lt (h.b.1 11) (by omega))).sN 12 (up1_lt (h.b.1 12) (by omega))).sC 13 _).sB 14 _).sO 16 (up1_o (h.b.2 16) (fun _ e => by cases e))).sN 44 (fun _ => by omega)).sC 64 _)
  case n44 => exact h6
  case n46 => exact Nat.le_succ_of_le h.n46
  case role => 
    intro j
    show up1 (rN S 10) (rN S 44 0) r j < 4
    by_cases a : j = rN S 44 0
    · subst a; rw [up1_same]; omega
    · rw [up1_ne a]; exact h.role j
  case len => 
    intro j
    show up1 (rN S 11) (rN S 44 0) le j ≤ 60
    by_cases a : j = rN S 44 0
    · subst a; rw [up1_same]; omega
    · rw [up1_ne a]; exact h.len j
  case lim => 
    intro j
    show up1 (rN S 12) (rN S 44 0) tr j ≤ 3
    by_cases a : j = rN S 44 0
    · subst a; rw [up1_same]; omega
    · rw [up1_ne a]; exact h.lim j
  case fb => 
    intro s f hs e
    have hs2 : s < rN S 44 0 + 1 := hs
    have e2 : up1 (rO S 16) (rN S 44 0) none s = some f := e
    show s < f ∧ f < rN S 44 0 + 1
    by_cases a : s = rN S 44 0
    · subst a; rw [up1_same] at e2; cases e2
    · rw [up1_ne a] at e2
      have := h.fb s f (by omega) e2; omega
  case lm => 
    intro j hj
    show 1 ≤ up1 (rN S 12) (rN S 44 0) tr j
    have hj2 : j < rN S 44 0 + 1 := hj
    by_cases a : j = rN S 44 0
    · subst a; rw [up1_same]; omega
    · rw [up1_ne a]; exact h.lm j (by omega)
  case l1 => 
    intro j hj
    show 1 ≤ up1 (rN S 11) (rN S 44 0) le j
    have hj2 : j < rN S 44 0 + 1 := hj
    by_cases a : j = rN S 44 0
    · subst a; rw [up1_same]; omega
    · rw [up1_ne a]; exact h.l1 j (by omega)
  case tl => 
    intro s hs e
    show rN S 25 s < up1 (rN S 12) (rN S 44 0) tr s
    have hs2 : s < rN S 46 0 := hs
    have := h.n46
    rw [up1_ne (by omega)]; exact h.tl s hs2 e

theorem Inv.as {S : St} (h : Inv S) {r le tr : Nat} {jn : UInt16} {rv : Bool} (h1 : r < 4) (h2 : 1 ≤ le) (h3 : le ≤ 60) (h4 : 1 ≤ tr) (h5 : tr ≤ 3) (h6 : rN S 44 0 < 16) (h7 : jn = 97 ∨ jn = 111) (hr : rB S 41 0 = false) : Inv (sC (sN (sO (sB (sC (sN (sN (sN S 10 (up1 (rN S 10) (rN S 44 0) r)) 11 (up1 (rN S 11) (rN S 44 0) le)) 12 (up1 (rN S 12) (rN S 44 0) tr)) 13 (up1 (rC S 13) (rN S 44 0) jn)) 14 (up1 (rB S 14) (rN S 44 0) rv)) 16 (up1 (rO S 16) (rN S 44 0) none)) 44 (fun _ => rN S 44 0 + 1)) 64 (up1 (rC S 64) (rN S 44 0) 111)) := by
  refine ⟨?w, ?eq, h.o22, ?o64, h.wa, h.aw, h.ar, ?run, h.od, h.h1, h.h2, ?wl, h.dc, h.dd, h.di, h.ds, h.lg, h.lt, h.wr, ?fi, h.nb, ?jn⟩
  case w => exact h.w.as h1 h2 h3 h4 h5 h6
  case eq => 
    intro s hs
    have hs2 : s < rN S 46 0 := hs
    have := h.w.n46
    show up1 (rC S 64) (rN S 44 0) 111 s = rC S 22 s
    rw [up1_ne (by omega)]; exact h.eq s hs2
  case o64 => 
    intro s hs
    show up1 (rC S 64) (rN S 44 0) 111 s ≠ 97
    by_cases a : s = rN S 44 0
    · subst a; rw [up1_same]; decide
    · rw [up1_ne a]; exact h.o64 s hs
  case run => exact fun e => absurd (hr.symm.trans e) (by decide)
  case wl => 
    intro s hs e
    have hs2 : s < rN S 46 0 := hs
    have := h.w.n46
    show rN S 26 s < 2 * up1 (rN S 11) (rN S 44 0) le s
    rw [up1_ne (by omega)]; exact h.wl s hs2 e
  case fi => 
    intro s t f hs ht e1 e2
    have hs2 : s < rN S 44 0 + 1 := hs
    have ht2 : t < rN S 44 0 + 1 := ht
    have e3 : up1 (rO S 16) (rN S 44 0) none s = some f := e1
    have e4 : up1 (rO S 16) (rN S 44 0) none t = some f := e2
    by_cases a : s = rN S 44 0
    · subst a; rw [up1_same] at e3; cases e3
    · by_cases b : t = rN S 44 0
      · subst b; rw [up1_same] at e4; cases e4
      · rw [up1_ne a] at e3; rw [up1_ne b] at e4; exact h.fi s t f (by omega) (by omega) e3 e4
  case jn => 
    intro s hs
    have hs2 : s < rN S 44 0 + 1 := hs
    show up1 (rC S 13) (rN S 44 0) jn s = 97 ∨ up1 (rC S 13) (rN S 44 0) jn s = 111
    by_cases a : s = rN S 44 0
    · subst a; rw [up1_same]; exact h7
    · rw [up1_ne a]; exact h.jn s (by omega)

theorem Inv.nd {S : St} (h : Inv S) {s n : Nat} {v : Int32} (hn : n < 65536) (hv : v = nI n) : Inv (sI S 15 (up1 (rI S 15) s v)) := by
  refine ⟨h.w, h.eq, h.o22, h.o64, h.wa, h.aw, h.ar, h.run, h.od, h.h1, h.h2, h.wl, h.dc, h.dd, h.di, h.ds, h.lg, h.lt, h.wr, h.fi, ?nb, h.jn⟩
  case nb => 
    intro t
    show ∃ n, n < 65536 ∧ up1 (rI S 15) s v t = nI n
    by_cases a : t = s
    · subst a; exact ⟨n, hn, up1_same.trans hv⟩
    · rw [up1_ne a]; exact h.nb t

theorem Wk.cd {S : St} (h : Wk S) {k se s c : Nat} {sg : UInt16} {b : Int32} (h1 : se < 6) (h2 : c ≤ 2) : Wk (sN (sI (sC (sN S 18 (up1 (rN S 18) k se)) 19 (up1 (rC S 19) k sg)) 20 (up1 (rI S 20) k b)) 17 (up1 (rN S 17) s c)) := by
  refine ⟨?b, h.n43, h.n44, h.n46, h.n45, h.role, h.len, h.lim, ?cc, ?sen, h.fb, h.wk, h.fr, h.to, h.dn, h.tr, h.wo, h.cl, h.en, h.lm, h.tl, h.l1⟩
  case b => exact (((h.b.sN 18 (up1_lt (h.b.1 18) (by omega))).sC 19 _).sI 20 _).sN 17 (up1_lt (h.b.1 17) (by omega))
  case cc => 
    intro j
    show up1 (rN S 17) s c j ≤ 2
    by_cases a : j = s
    · subst a; rw [up1_same]; exact h2
    · rw [up1_ne a]; exact h.cc j
  case sen => 
    intro j
    show up1 (rN S 18) k se j < 6
    by_cases a : j = k
    · subst a; rw [up1_same]; exact h1
    · rw [up1_ne a]; exact h.sen j

theorem Inv.cd {S : St} (h : Inv S) {k se s c : Nat} {sg : UInt16} {b : Int32} (h1 : se < 6) (h2 : c ≤ 2) : Inv (sN (sI (sC (sN S 18 (up1 (rN S 18) k se)) 19 (up1 (rC S 19) k sg)) 20 (up1 (rI S 20) k b)) 17 (up1 (rN S 17) s c)) := by
  refine ⟨?w, h.eq, h.o22, h.o64, h.wa, h.aw, h.ar, h.run, h.od, h.h1, h.h2, h.wl, h.dc, h.dd, h.di, h.ds, h.lg, h.lt, h.wr, h.fi, h.nb, h.jn⟩
  case w => exact h.w.cd h1 h2

theorem Wk.sf {S : St} (h : Wk S) {p q : Nat} (h1 : p < q) (h2 : q < rN S 44 0) : Wk (sO S 16 (up1 (rO S 16) p (some q))) := by
  refine ⟨?b, h.n43, h.n44, h.n46, h.n45, h.role, h.len, h.lim, h.cc, h.sen, ?fb, h.wk, h.fr, h.to, h.dn, h.tr, h.wo, h.cl, h.en, h.lm, h.tl, h.l1⟩
  case b => exact h.b.sO 16 (up1_o (h.b.2 16) (fun k e => by cases e; have := h.n44; omega))
  case fb => 
    intro s f hs e
    have e2 : up1 (rO S 16) p (some q) s = some f := e
    by_cases a : s = p
    · subst a; rw [up1_same] at e2; cases e2; exact ⟨h1, h2⟩
    · rw [up1_ne a] at e2; exact h.fb s f hs e2

theorem Inv.sf {S : St} (h : Inv S) {p q : Nat} (h1 : p < q) (h2 : q < rN S 44 0) (ho : own9 S q = none ∨ own9 S q = some p) : Inv (sO S 16 (up1 (rO S 16) p (some q))) := by
  refine ⟨?w, h.eq, h.o22, h.o64, h.wa, h.aw, h.ar, h.run, h.od, h.h1, h.h2, h.wl, h.dc, h.dd, h.di, h.ds, h.lg, h.lt, h.wr, ?fi, h.nb, h.jn⟩
  case w => exact h.w.sf h1 h2
  case fi => 
    have key : ∀ t, t < rN S 44 0 → rO S 16 t = some q → t = p := fun t ht e => by
      have := own9_some h ht e
      rcases ho with e2 | e2 <;> rw [e2] at this <;> cases this; rfl
    intro s t f hs ht e1 e2
    have e3 : up1 (rO S 16) p (some q) s = some f := e1
    have e4 : up1 (rO S 16) p (some q) t = some f := e2
    by_cases a : s = p
    · by_cases b : t = p
      · rw [a, b]
      · rw [a, up1_same] at e3; rw [up1_ne b] at e4; cases e3; exact absurd (key t ht e4) b
    · rw [up1_ne a] at e3
      by_cases b : t = p
      · rw [b, up1_same] at e4; cases e4; exact absurd (key s hs e3) a
      · rw [up1_ne b] at e4; exact h.fi s t f hs ht e3 e4

theorem Inv.sr {S : St} (h : Inv S) (f : Nat → Int32) : Inv (sI S 6 f) := by
  refine ⟨h.w, h.eq, h.o22, h.o64, h.wa, h.aw, h.ar, h.run, h.od, h.h1, h.h2, h.wl, h.dc, h.dd, h.di, h.ds, h.lg, h.lt, h.wr, h.fi, h.nb, h.jn⟩

theorem Inv.cl {S : St} (h : Inv S) (ha : anyA S = false) (h47 : rO S 47 0 = none) : Inv (sB S 41 (fun _ => false)) := by
  refine ⟨h.w, h.eq, h.o22, h.o64, h.wa, h.aw, ?ar, ?run, h.od, ?h1, h.h2, h.wl, h.dc, h.dd, h.di, h.ds, h.lg, h.lt, h.wr, h.fi, h.nb, h.jn⟩
  case ar => 
    intro s hs e
    have := any9_false ha s hs
    simp [show rC S 22 s = 97 from e] at this
  case run => exact fun e => absurd (show false = true from e) (by decide)
  case h1 => exact fun p e => absurd (h47.symm.trans e) (by simp)

theorem Inv.st {S : St} (h : Inv S) (hr : rB S 41 0 = false) (hn : 1 ≤ rN S 44 0) : Inv (sC (sB (sST S) 61 (fun _ => true)) 64 (low9 (rst22 S) (rC S 64) (rN S 44 0))) := by
  have k22 : ∀ s, s < rN S 44 0 → rC (sST S) 22 s = rst22 S s := fun s hs => low9_in hs
  have kr : ∀ s, rst22 S s = 111 ∨ rst22 S s = 119 := fun s => by unfold rst22; split; exact .inl rfl; exact .inr rfl
  have kn : ∀ p s, p < rN S 43 0 → rO S 9 p ≠ some s := fun p s hp e => by
    have := (h.wa p s hp).mp e
    have := h.ar s this.1 this.2.1
    rw [hr] at this; cases this
  have k47 : rO S 47 0 = none := by
    cases e : rO S 47 0 with
    | none => rfl
    | some p => have := (h.h1 p e).1; rw [hr] at this; cases this
  refine ⟨?w, ?eq, ?o22, ?o64, ?wa, ?aw, ?ar, ?run, ?od, ?h1, h.h2, ?wl, ?dc, ?dd, ?di, ?ds, ?lg, ?lt, ?wr, h.fi, h.nb, h.jn⟩
  case w => exact ⟨(h.w.st.b.sB 61 _).sC 64 _, h.w.st.n43, h.w.st.n44, h.w.st.n46, h.w.st.n45, h.w.st.role, h.w.st.len, h.w.st.lim, h.w.st.cc, h.w.st.sen, h.w.st.fb, h.w.st.wk, h.w.st.fr, h.w.st.to, h.w.st.dn, h.w.st.tr, h.w.st.wo, h.w.st.cl, h.w.st.en, h.w.st.lm, h.w.st.tl, h.w.st.l1⟩
  case eq => 
    intro s hs
    show low9 (rst22 S) (rC S 64) (rN S 44 0) s = low9 (rst22 S) (rC S 22) (rN S 44 0) s
    have hs2 : s < rN S 44 0 := hs
    rw [low9_in hs2, low9_in hs2]
  case o22 => 
    intro s hs
    show low9 (rst22 S) (rC S 22) (rN S 44 0) s ≠ 97
    have hs2 : rN S 44 0 ≤ s := hs
    rw [low9_at hs2]; exact h.o22 s (Nat.le_trans h.w.n46 hs2)
  case o64 => 
    intro s hs
    show low9 (rst22 S) (rC S 64) (rN S 44 0) s ≠ 97
    have hs2 : rN S 44 0 ≤ s := hs
    rw [low9_at hs2]; exact h.o64 s (Nat.le_trans h.w.n46 hs2)
  case wa => 
    intro p s hp
    constructor
    · intro e; exact absurd e (kn p s hp)
    · rintro ⟨a1, a2, -⟩
      rw [show rC (sC (sB (sST S) 61 (fun _ => true)) 64 (low9 (rst22 S) (rC S 64) (rN S 44 0))) 22 s = rst22 S s from k22 s a1] at a2
      rcases kr s with e | e <;> rw [e] at a2 <;> exact absurd a2 (by decide)
  case aw => 
    intro s hs a2
    rw [show rC (sC (sB (sST S) 61 (fun _ => true)) 64 (low9 (rst22 S) (rC S 64) (rN S 44 0))) 22 s = rst22 S s from k22 s hs] at a2
    rcases kr s with e | e <;> rw [e] at a2 <;> exact absurd a2 (by decide)
  case ar => exact fun _ _ _ => rfl
  case run => exact fun _ => ⟨rfl, hn⟩
  case od => 
    intro p hp _
    show rO S 9 p = none
    cases e : rO S 9 p with
    | none => rfl
    | some s => exact absurd e (kn p s hp)
  case h1 => exact fun p e => absurd (k47.symm.trans e) (by simp)
  case wl => 
    intro s hs a2
    rw [show rC (sC (sB (sST S) 61 (fun _ => true)) 64 (low9 (rst22 S) (rC S 64) (rN S 44 0))) 22 s = rst22 S s from k22 s hs] at a2
    rcases kr s with e | e <;> rw [e] at a2 <;> exact absurd a2 (by decide)
  case dc => 
    refine (cnt9_zero.mpr (fun s hs => ?_)).symm
    show decide (low9 (rst22 S) (rC S 22) (rN S 44 0) s = 100) = false
    have hs2 : s < rN S 44 0 := hs
    rw [low9_in hs2]
    rcases kr s with e | e <;> rw [e] <;> decide
  case dd => exact fun k hk => absurd hk (Nat.not_lt_zero _)
  case di => exact fun j k _ hk => absurd hk (Nat.not_lt_zero _)
  case ds => 
    intro s hs a2
    rw [show rC (sC (sB (sST S) 61 (fun _ => true)) 64 (low9 (rst22 S) (rC S 64) (rN S 44 0))) 22 s = rst22 S s from k22 s hs] at a2
    rcases kr s with e | e <;> rw [e] at a2 <;> exact absurd a2 (by decide)
  case lg => 
    intro s hs
    show (if low9 (offF S) (rB S 23) (rN S 44 0) s = true then (111 : UInt16) else 119) = low9 (rst22 S) (rC S 22) (rN S 44 0) s
    have hs2 : s < rN S 44 0 := hs
    rw [low9_in hs2, low9_in hs2]; rfl
  case lt => 
    intro s hs
    show 0 = low9 (fun _ => 0) (rN S 25) (rN S 44 0) s
    have hs2 : s < rN S 44 0 := hs
    rw [low9_in hs2]
  case wr => 
    show true = decide (0 < rN S 44 0)
    exact (decide_eq_true (by omega)).symm

theorem Inv.bgw {S : St} (h : Inv S) {p s : Nat} (hp : p < rN S 43 0) (hs : s < rN S 44 0) (hr : rB S 41 0 = true) (hd : rB S 8 p = true) (h9 : rO S 9 p = none) (hw : rC S 22 s = 119) (he : rN S 50 0 < 1536) : Wk (sC (sO (lgw (sI (sB (sN (sC (sO S 9 (up1 (rO S 9) p (some s))) 22 (up1 (rC S 22) s 97)) 26 (up1 (rN S 26) s 0)) 24 (up1 (rB S 24) s true)) 27 (see9 S s 6)) 98 (some s) (some p) (rN S 40 0)) 60 (up1 (rO S 60) s (some p))) 64 (up1 (rC S 64) s 97)) := by
  have h46 := (h.run hr).1
  have h43 := h.w.n43
  have h44 := h.w.n44
  have hcl := h.w.cl
  refine ⟨((lgw_bnd (((((h.w.b.sO 9 (up1_o (h.w.b.2 9) (fun k e => by cases e; omega))).sC 22 _).sN 26 (up1_lt (h.w.b.1 26) (by omega))).sB 24 _).sI 27 _) he (fun k e => by cases e; omega) (fun k e => by cases e; omega) (by show rN S 40 0 < 1000000; omega)).sO 60 (up1_o (h.w.b.2 60) (fun k e => by cases e; omega))).sC 64 _, h.w.n43, h.w.n44, h.w.n46, h.w.n45, h.w.role, h.w.len, h.w.lim, h.w.cc, h.w.sen, h.w.fb, ?wk, h.w.fr, h.w.to, h.w.dn, h.w.tr, ?wo, h.w.cl, he, h.w.lm, ?tl, h.w.l1⟩
  case wk =>
    intro r t hr2 e
    have e2 : up1 (rO S 9) p (some s) r = some t := e
    show t < rN S 46 0
    by_cases a : r = p
    · subst a; rw [up1_same] at e2; cases e2; omega
    · rw [up1_ne a] at e2; exact h.w.wk r t hr2 e2
  case wo =>
    intro j
    show up1 (rN S 26) s 0 j ≤ 120
    by_cases a : j = s
    · subst a; rw [up1_same]; omega
    · rw [up1_ne a]; exact h.w.wo j
  case tl =>
    intro t ht e
    by_cases a : t = s
    · subst a; exact h.w.tl t ht (.inr (.inl hw))
    · refine h.w.tl t ht ?_
      have e2 : up1 (rC S 22) s 97 t = 97 ∨ up1 (rC S 22) s 97 t = 119 ∨ up1 (rC S 22) s 97 t = 111 := e
      rw [up1_ne a] at e2
      exact e2

theorem Inv.bg {S : St} (h : Inv S) {p s : Nat} (hp : p < rN S 43 0) (hs : s < rN S 44 0) (hr : rB S 41 0 = true) (hd : rB S 8 p = true) (h9 : rO S 9 p = none) (hw : rC S 22 s = 119) (he : rN S 50 0 < 1536) : Inv (sC (sO (lgw (sI (sB (sN (sC (sO S 9 (up1 (rO S 9) p (some s))) 22 (up1 (rC S 22) s 97)) 26 (up1 (rN S 26) s 0)) 24 (up1 (rB S 24) s true)) 27 (see9 S s 6)) 98 (some s) (some p) (rN S 40 0)) 60 (up1 (rO S 60) s (some p))) 64 (up1 (rC S 64) s 97)) := by
  have h46 := (h.run hr).1
  have h43 := h.w.n43
  have h44 := h.w.n44
  have hcl := h.w.cl
  refine ⟨?w, ?eq, ?o22, ?o64, ?wa, ?aw, ?ar, h.run, ?od, h.h1, h.h2, ?wl, ?dc, ?dd, h.di, ?ds, ?lg, ?lt, h.wr, h.fi, h.nb, h.jn⟩
  case w => exact h.bgw hp hs hr hd h9 hw he
  case eq => 
    intro t ht
    show up1 (rC S 64) s 97 t = up1 (rC S 22) s 97 t
    by_cases a : t = s
    · subst a; rw [up1_same, up1_same]
    · rw [up1_ne a, up1_ne a]; exact h.eq t ht
  case o22 => 
    intro t ht
    have ht2 : rN S 46 0 ≤ t := ht
    show up1 (rC S 22) s 97 t ≠ 97
    rw [up1_ne (by omega)]; exact h.o22 t ht2
  case o64 => 
    intro t ht
    have ht2 : rN S 46 0 ≤ t := ht
    show up1 (rC S 64) s 97 t ≠ 97
    rw [up1_ne (by omega)]; exact h.o64 t ht2
  case wa => 
    intro r t hr2
    have base := h.wa r t hr2
    show up1 (rO S 9) p (some s) r = some t ↔ t < rN S 46 0 ∧ up1 (rC S 22) s 97 t = 97 ∧ up1 (rO S 60) s (some p) t = some r
    by_cases a : r = p
    · subst a
      rw [up1_same]
      by_cases b : t = s
      · subst b; rw [up1_same, up1_same]; simp; omega
      · rw [up1_ne b, up1_ne b, ← base, h9]
        constructor
        · intro e; cases e; exact absurd rfl b
        · intro e; cases e
    · rw [up1_ne a]
      by_cases b : t = s
      · subst b; rw [up1_same, up1_same]
        constructor
        · intro e; have := (base.mp e).2.1; rw [hw] at this; exact absurd this (by decide)
        · rintro ⟨-, -, e⟩; cases e; exact absurd rfl a
      · rw [up1_ne b, up1_ne b]; exact base
  case aw => 
    intro t ht e
    show ∃ r, r < rN S 43 0 ∧ up1 (rO S 60) s (some p) t = some r
    by_cases b : t = s
    · subst b; exact ⟨p, hp, up1_same⟩
    · have e2 : up1 (rC S 22) s 97 t = 97 := e
      rw [up1_ne b] at e2
      obtain ⟨r, r1, r2⟩ := h.aw t ht e2
      exact ⟨r, r1, (up1_ne b).trans r2⟩
  case ar => exact fun _ _ _ => hr
  case od => 
    intro r hr2 e
    show up1 (rO S 9) p (some s) r = none
    by_cases a : r = p
    · subst a; exact absurd (hd.symm.trans e) (by decide)
    · rw [up1_ne a]; exact h.od r hr2 e
  case wl => 
    intro t ht e
    show up1 (rN S 26) s 0 t < 2 * rN S 11 t
    by_cases b : t = s
    · subst b; rw [up1_same]; have := h.w.l1 t hs; omega
    · have e2 : up1 (rC S 22) s 97 t = 97 := e
      rw [up1_ne b] at e2; rw [up1_ne b]; exact h.wl t ht e2
  case dc => 
    refine h.dc.trans (cnt9_cong (fun j hj => ?_))
    show decide (rC S 22 j = 100) = decide (up1 (rC S 22) s 97 j = 100)
    by_cases b : j = s
    · subst b; rw [up1_same, hw]; rfl
    · rw [up1_ne b]
  case dd => 
    intro k hk
    show up1 (rC S 22) s 97 (rN S 28 k) = 100
    have := h.dd k hk
    rw [up1_ne (fun e => by rw [e, hw] at this; exact absurd this (by decide))]; exact this
  case ds => 
    intro t ht e
    have e2 : up1 (rC S 22) s 97 t = 100 := e
    by_cases b : t = s
    · subst b; rw [up1_same] at e2; exact absurd e2 (by decide)
    · rw [up1_ne b] at e2; exact h.ds t ht e2
  case lg => 
    intro t ht
    refine (lastS_lg (sI (sB (sN (sC (sO S 9 (up1 (rO S 9) p (some s))) 22 (up1 (rC S 22) s 97)) 26 (up1 (rN S 26) s 0)) 24 (up1 (rB S 24) s true)) 27 (see9 S s 6)) 98 (some s) (some p) (rN S 40 0) t (if rB S 23 t then 111 else 119)).trans ?_
    show _ = up1 (rC S 22) s 97 t
    by_cases b : t = s
    · subst b; rw [if_pos rfl, up1_same]; rfl
    · rw [if_neg (fun e => b (by cases e; rfl)), up1_ne b]; exact h.lg t ht
  case lt => 
    intro t ht
    refine (cntT_lg (sI (sB (sN (sC (sO S 9 (up1 (rO S 9) p (some s))) 22 (up1 (rC S 22) s 97)) 26 (up1 (rN S 26) s 0)) 24 (up1 (rB S 24) s true)) 27 (see9 S s 6)) 98 (some s) (some p) (rN S 40 0) t).trans ?_
    split
    · rw [if_neg (by decide), if_neg (by decide)]; exact h.lt t ht
    · exact h.lt t ht

theorem Inv.dnw {S : St} (h : Inv S) {s : Nat} (hs : s < rN S 46 0) (ha : rC S 22 s = 97) (he : rN S 50 0 < 1536) : Wk (sC (done9 S s) 64 (up1 (rC S 64) s 100)) := by
  have h46 := h.w.n46
  have h44 := h.w.n44
  have hcl := h.w.cl
  have hdl := h.dlt hs ha
  refine ⟨(lgw_bnd (((((h.w.b.sO 9 (relW_o h.w.b s _)).sC 22 _).sN 28 (up1_lt (h.w.b.1 28) (by omega))).sN 45 (fun _ => by omega))) he (fun k e => by cases e; omega) (fun k e => by cases e) (by show rN S 40 0 < 1000000; omega)).sC 64 _, h.w.n43, h.w.n44, h.w.n46, ?n45, h.w.role, h.w.len, h.w.lim, h.w.cc, h.w.sen, h.w.fb, (h.w.rel s).wk, h.w.fr, h.w.to, ?dn, h.w.tr, h.w.wo, h.w.cl, he, h.w.lm, ?tl, h.w.l1⟩
  case n45 => show rN S 45 0 + 1 ≤ 16; omega
  case dn =>
    intro k hk
    have hk2 : k < rN S 45 0 + 1 := hk
    show up1 (rN S 28) (rN S 45 0) s k < rN S 46 0
    by_cases a : k = rN S 45 0
    · subst a; rw [up1_same]; exact hs
    · rw [up1_ne a]; exact h.w.dn k (by omega)
  case tl =>
    intro t ht e
    have e2 : up1 (rC S 22) s 100 t = 97 ∨ up1 (rC S 22) s 100 t = 119 ∨ up1 (rC S 22) s 100 t = 111 := e
    by_cases a : t = s
    · subst a; rw [up1_same] at e2; rcases e2 with e3 | e3 | e3 <;> exact absurd e3 (by decide)
    · rw [up1_ne a] at e2; exact h.w.tl t ht e2

theorem Inv.dn {S : St} (h : Inv S) {s : Nat} (hs : s < rN S 46 0) (ha : rC S 22 s = 97) (he : rN S 50 0 < 1536) : Inv (sC (done9 S s) 64 (up1 (rC S 64) s 100)) := by
  have h46 := h.w.n46
  have h44 := h.w.n44
  have hcl := h.w.cl
  have hdl := h.dlt hs ha
  refine ⟨?w, ?eq, ?o22, ?o64, ?wa, ?aw, ?ar, h.run, ?od, h.h1, h.h2, ?wl, ?dc, ?dd, ?di, ?ds, ?lg, ?lt, h.wr, h.fi, h.nb, h.jn⟩
  case w => exact h.dnw hs ha he
  case eq => 
    intro t ht
    show up1 (rC S 64) s 100 t = up1 (rC S 22) s 100 t
    by_cases a : t = s
    · subst a; rw [up1_same, up1_same]
    · rw [up1_ne a, up1_ne a]; exact h.eq t ht
  case o22 => 
    intro t ht
    have ht2 : rN S 46 0 ≤ t := ht
    show up1 (rC S 22) s 100 t ≠ 97
    rw [up1_ne (by omega)]; exact h.o22 t ht2
  case o64 => 
    intro t ht
    have ht2 : rN S 46 0 ≤ t := ht
    show up1 (rC S 64) s 100 t ≠ 97
    rw [up1_ne (by omega)]; exact h.o64 t ht2
  case wa => 
    intro r t hr2
    have base := h.wa r t hr2
    show relW S s (rN S 43 0) r = some t ↔ t < rN S 46 0 ∧ up1 (rC S 22) s 100 t = 97 ∧ rO S 60 t = some r
    have hr3 : r < rN S 43 0 := hr2
    rw [relW_iff hr3, base]
    by_cases b : t = s
    · subst b; rw [up1_same]; simp
    · rw [up1_ne b]; simp [b]
  case aw => 
    intro t ht e
    have e2 : up1 (rC S 22) s 100 t = 97 := e
    by_cases b : t = s
    · subst b; rw [up1_same] at e2; exact absurd e2 (by decide)
    · rw [up1_ne b] at e2; exact h.aw t ht e2
  case ar => exact fun _ _ _ => h.ar s hs ha
  case od => 
    intro r hr2 e
    show relW S s (rN S 43 0) r = none
    have := h.od r hr2 e
    cases e9 : relW S s (rN S 43 0) r with
    | none => rfl
    | some t => rw [((relW_iff (B := S) (show r < rN S 43 0 from hr2)).mp e9).1] at this; cases this
  case wl => 
    intro t ht e
    have e2 : up1 (rC S 22) s 100 t = 97 := e
    by_cases b : t = s
    · subst b; rw [up1_same] at e2; exact absurd e2 (by decide)
    · rw [up1_ne b] at e2; exact h.wl t ht e2
  case dc => 
    show rN S 45 0 + 1 = cnt9 (fun j => decide (up1 (rC S 22) s 100 j = 100)) (rN S 46 0)
    rw [h.dc]
    exact cnt9_flip (p := fun j => decide (up1 (rC S 22) s 100 j = 100)) (q := fun j => decide (rC S 22 j = 100)) hs (by simp [up1_same]) (by simp [ha]) (fun j hj => by simp [up1_ne hj])
  case dd => 
    intro k hk
    have hk2 : k < rN S 45 0 + 1 := hk
    show up1 (rC S 22) s 100 (up1 (rN S 28) (rN S 45 0) s k) = 100
    by_cases a : k = rN S 45 0
    · subst a; rw [up1_same, up1_same]
    · rw [up1_ne a]
      have := h.dd k (by omega)
      by_cases b : rN S 28 k = s
      · rw [b, up1_same]
      · rw [up1_ne b]; exact this
  case di => 
    intro j k hjk hk
    have hk2 : k < rN S 45 0 + 1 := hk
    show up1 (rN S 28) (rN S 45 0) s j ≠ up1 (rN S 28) (rN S 45 0) s k
    rw [up1_ne (show j ≠ rN S 45 0 by omega)]
    by_cases a : k = rN S 45 0
    · subst a; rw [up1_same]; intro e; have := h.dd j (by omega); rw [e, ha] at this; exact absurd this (by decide)
    · rw [up1_ne a]; exact h.di j k hjk (by omega)
  case ds => 
    intro t ht e
    have e2 : up1 (rC S 22) s 100 t = 100 := e
    show ∃ k, k < rN S 45 0 + 1 ∧ up1 (rN S 28) (rN S 45 0) s k = t
    by_cases b : t = s
    · subst b; exact ⟨rN S 45 0, by omega, up1_same⟩
    · rw [up1_ne b] at e2
      obtain ⟨k, k1, k2⟩ := h.ds t ht e2
      exact ⟨k, by omega, (up1_ne (by omega)).trans k2⟩
  case lg => 
    intro t ht
    refine (lastS_lg (sN (sN (sC (sO S 9 (relW S s (rN S 43 0))) 22 (up1 (rC S 22) s 100)) 28 (up1 (rN S 28) (rN S 45 0) s)) 45 (fun _ => rN S 45 0 + 1)) 100 (some s) none (rN S 40 0) t (if rB S 23 t then 111 else 119)).trans ?_
    show _ = up1 (rC S 22) s 100 t
    by_cases b : t = s
    · subst b; rw [if_pos rfl, up1_same]; rfl
    · rw [if_neg (fun e => b (by cases e; rfl)), up1_ne b]; exact h.lg t ht
  case lt => 
    intro t ht
    refine (cntT_lg (sN (sN (sC (sO S 9 (relW S s (rN S 43 0))) 22 (up1 (rC S 22) s 100)) 28 (up1 (rN S 28) (rN S 45 0) s)) 45 (fun _ => rN S 45 0 + 1)) 100 (some s) none (rN S 40 0) t).trans ?_
    split
    · rw [if_neg (by decide), if_neg (by decide)]; exact h.lt t ht
    · exact h.lt t ht

theorem Inv.how {S : St} (h : Inv S) {p q : Nat} (hp : p < rN S 43 0) (hq : q < rN S 43 0) (hpq : p ≠ q) (hr : rB S 41 0 = true) (hd : rB S 8 q = false) (he : rN S 50 0 < 1536) : Wk (lgw (sN (sO (sO S 47 (fun _ => some p)) 48 (fun _ => some q)) 49 (fun _ => rN S 40 0 + 10)) 104 none (some p) (rN S 40 0)) := by
  have h43 := h.w.n43
  have hcl := h.w.cl
  refine ⟨lgw_bnd (((h.w.b.sO 47 (fun _ k e => by cases e; omega)).sO 48 (fun _ k e => by cases e; omega)).sN 49 (fun _ => by omega)) he (fun k e => by cases e) (fun k e => by cases e; omega) (by show rN S 40 0 < 1000000; omega), h.w.n43, h.w.n44, h.w.n46, h.w.n45, h.w.role, h.w.len, h.w.lim, h.w.cc, h.w.sen, h.w.fb, h.w.wk, (fun r e => by cases (show some p = some r from e); exact hp), (fun r e => by cases (show some q = some r from e); exact hq), h.w.dn, h.w.tr, h.w.wo, h.w.cl, he, h.w.lm, h.w.tl, h.w.l1⟩

theorem Inv.ho {S : St} (h : Inv S) {p q : Nat} (hp : p < rN S 43 0) (hq : q < rN S 43 0) (hpq : p ≠ q) (hr : rB S 41 0 = true) (hd : rB S 8 q = false) (he : rN S 50 0 < 1536) : Inv (lgw (sN (sO (sO S 47 (fun _ => some p)) 48 (fun _ => some q)) 49 (fun _ => rN S 40 0 + 10)) 104 none (some p) (rN S 40 0)) := by
  refine ⟨?w, h.eq, h.o22, h.o64, h.wa, h.aw, h.ar, h.run, h.od, ?h1, ?h2, h.wl, h.dc, h.dd, h.di, h.ds, ?lg, ?lt, h.wr, h.fi, h.nb, h.jn⟩
  case w => exact h.how hp hq hpq hr hd he
  case h1 => 
    intro r e
    cases (show some p = some r from e)
    exact ⟨hr, q, rfl, hpq, hd⟩
  case h2 => exact fun e => absurd (show some p = none from e) (by simp)
  case lg => 
    intro t ht
    refine (lastS_lg (sN (sO (sO S 47 (fun _ => some p)) 48 (fun _ => some q)) 49 (fun _ => rN S 40 0 + 10)) 104 none (some p) (rN S 40 0) t (if rB S 23 t then 111 else 119)).trans ?_
    rw [if_neg (by simp)]; exact h.lg t ht
  case lt => 
    intro t ht
    refine (cntT_lg (sN (sO (sO S 47 (fun _ => some p)) 48 (fun _ => some q)) 49 (fun _ => rN S 40 0 + 10)) 104 none (some p) (rN S 40 0) t).trans ?_
    rw [if_neg (by simp)]; exact h.lt t ht

theorem Inv.s21 {S : St} (h : Inv S) {f : Nat → Nat} (hf : ∀ j, f j < 1000000) : Inv (sN S 21 f) := by
  refine ⟨?w, h.eq, h.o22, h.o64, h.wa, h.aw, h.ar, h.run, h.od, h.h1, h.h2, h.wl, h.dc, h.dd, h.di, h.ds, h.lg, h.lt, h.wr, h.fi, h.nb, h.jn⟩
  case w => exact ⟨h.w.b.sN 21 hf, h.w.n43, h.w.n44, h.w.n46, h.w.n45, h.w.role, h.w.len, h.w.lim, h.w.cc, h.w.sen, h.w.fb, h.w.wk, h.w.fr, h.w.to, h.w.dn, h.w.tr, h.w.wo, h.w.cl, h.w.en, h.w.lm, h.w.tl, h.w.l1⟩

theorem Inv.s63 {S : St} (h : Inv S) {f : Nat → Nat} (hf : ∀ j, f j < 1000000) : Inv (sN S 63 f) := by
  refine ⟨?w, h.eq, h.o22, h.o64, h.wa, h.aw, h.ar, h.run, h.od, h.h1, h.h2, h.wl, h.dc, h.dd, h.di, h.ds, h.lg, h.lt, h.wr, h.fi, h.nb, h.jn⟩
  case w => exact ⟨h.w.b.sN 63 hf, h.w.n43, h.w.n44, h.w.n46, h.w.n45, h.w.role, h.w.len, h.w.lim, h.w.cc, h.w.sen, h.w.fb, h.w.wk, h.w.fr, h.w.to, h.w.dn, h.w.tr, h.w.wo, h.w.cl, h.w.en, h.w.lm, h.w.tl, h.w.l1⟩

theorem Inv.s62 {S : St} (h : Inv S) {f : Nat → Nat} (hf : ∀ j, f j < 1000000) : Inv (sN S 62 f) := by
  refine ⟨?w, h.eq, h.o22, h.o64, h.wa, h.aw, h.ar, h.run, h.od, h.h1, h.h2, h.wl, h.dc, h.dd, h.di, h.ds, h.lg, h.lt, h.wr, h.fi, h.nb, h.jn⟩
  case w => exact ⟨h.w.b.sN 62 hf, h.w.n43, h.w.n44, h.w.n46, h.w.n45, h.w.role, h.w.len, h.w.lim, h.w.cc, h.w.sen, h.w.fb, h.w.wk, h.w.fr, h.w.to, h.w.dn, h.w.tr, h.w.wo, h.w.cl, h.w.en, h.w.lm, h.w.tl, h.w.l1⟩

