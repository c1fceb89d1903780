/-! ===== the invariant; what every call asks, answers and does ===== -/
def Inv (S : St) : Prop := (Wk S) ∧ (∀ s, s < rN S 46 0 → rC S 64 s = rC S 22 s) ∧ (∀ s, rN S 46 0 ≤ s → rC S 22 s ≠ 97) ∧ (∀ s, rN S 46 0 ≤ s → rC S 64 s ≠ 97) ∧ (∀ p s, p < rN S 43 0 → (rO S 9 p = some s ↔ s < rN S 46 0 ∧ rC S 22 s = 97 ∧ rO S 60 s = some p)) ∧ (∀ s, s < rN S 46 0 → rC S 22 s = 97 → ∃ p, p < rN S 43 0 ∧ rO S 60 s = some p) ∧ (∀ s, s < rN S 46 0 → rC S 22 s = 97 → rB S 41 0 = true) ∧ (rB S 41 0 = true → rN S 46 0 = rN S 44 0 ∧ 1 ≤ rN S 44 0) ∧ (∀ p, p < rN S 43 0 → rB S 8 p = false → rO S 9 p = none) ∧ (∀ p, rO S 47 0 = some p → rB S 41 0 = true ∧ ∃ q, rO S 48 0 = some q ∧ p ≠ q ∧ rB S 8 q = false) ∧ (rO S 47 0 = none → rO S 48 0 = none) ∧ (∀ s, s < rN S 46 0 → rC S 22 s = 97 → rN S 26 s < 2 * rN S 11 s) ∧ (rN S 45 0 = cnt9 (fun s => decide (rC S 22 s = 100)) (rN S 46 0)) ∧ (∀ k, k < rN S 45 0 → rC S 22 (rN S 28 k) = 100) ∧ (∀ j k, j < k → k < rN S 45 0 → rN S 28 j ≠ rN S 28 k) ∧ (∀ s, s < rN S 46 0 → rC S 22 s = 100 → ∃ k, k < rN S 45 0 ∧ rN S 28 k = s) ∧ (∀ s, s < rN S 46 0 → lastS S s (if rB S 23 s then 111 else 119) (rN S 50 0) = rC S 22 s) ∧ (∀ s, s < rN S 46 0 → cntT S s (rN S 50 0) = rN S 25 s) ∧ (rB S 61 0 = decide (0 < rN S 46 0)) ∧ (∀ s t f, s < rN S 44 0 → t < rN S 44 0 → rO S 16 s = some f → rO S 16 t = some f → s = t) ∧ (∀ s, ∃ n, n < 65536 ∧ rI S 15 s = nI n) ∧ (∀ s, s < rN S 44 0 → rC S 13 s = 97 ∨ rC S 13 s = 111)
theorem Inv.w {S : St} (h : Inv S) : Wk S := h.1
theorem Inv.eq {S : St} (h : Inv S) : ∀ s, s < rN S 46 0 → rC S 64 s = rC S 22 s := h.2.1
theorem Inv.o22 {S : St} (h : Inv S) : ∀ s, rN S 46 0 ≤ s → rC S 22 s ≠ 97 := h.2.2.1
theorem Inv.o64 {S : St} (h : Inv S) : ∀ s, rN S 46 0 ≤ s → rC S 64 s ≠ 97 := h.2.2.2.1
theorem Inv.wa {S : St} (h : Inv S) : ∀ p s, p < rN S 43 0 → (rO S 9 p = some s ↔ s < rN S 46 0 ∧ rC S 22 s = 97 ∧ rO S 60 s = some p) := h.2.2.2.2.1
theorem Inv.aw {S : St} (h : Inv S) : ∀ s, s < rN S 46 0 → rC S 22 s = 97 → ∃ p, p < rN S 43 0 ∧ rO S 60 s = some p := h.2.2.2.2.2.1
theorem Inv.ar {S : St} (h : Inv S) : ∀ s, s < rN S 46 0 → rC S 22 s = 97 → rB S 41 0 = true := h.2.2.2.2.2.2.1
theorem Inv.run {S : St} (h : Inv S) : rB S 41 0 = true → rN S 46 0 = rN S 44 0 ∧ 1 ≤ rN S 44 0 := h.2.2.2.2.2.2.2.1
theorem Inv.od {S : St} (h : Inv S) : ∀ p, p < rN S 43 0 → rB S 8 p = false → rO S 9 p = none := h.2.2.2.2.2.2.2.2.1
theorem Inv.h1 {S : St} (h : Inv S) : ∀ p, rO S 47 0 = some p → rB S 41 0 = true ∧ ∃ q, rO S 48 0 = some q ∧ p ≠ q ∧ rB S 8 q = false := h.2.2.2.2.2.2.2.2.2.1
theorem Inv.h2 {S : St} (h : Inv S) : rO S 47 0 = none → rO S 48 0 = none := h.2.2.2.2.2.2.2.2.2.2.1
theorem Inv.wl {S : St} (h : Inv S) : ∀ s, s < rN S 46 0 → rC S 22 s = 97 → rN S 26 s < 2 * rN S 11 s := h.2.2.2.2.2.2.2.2.2.2.2.1
theorem Inv.dc {S : St} (h : Inv S) : rN S 45 0 = cnt9 (fun s => decide (rC S 22 s = 100)) (rN S 46 0) := h.2.2.2.2.2.2.2.2.2.2.2.2.1
theorem Inv.dd {S : St} (h : Inv S) : ∀ k, k < rN S 45 0 → rC S 22 (rN S 28 k) = 100 := h.2.2.2.2.2.2.2.2.2.2.2.2.2.1
theorem Inv.di {S : St} (h : Inv S) : ∀ j k, j < k → k < rN S 45 0 → rN S 28 j ≠ rN S 28 k := h.2.2.2.2.2.2.2.2.2.2.2.2.2.2.1
theorem Inv.ds {S : St} (h : Inv S) : ∀ s, s < rN S 46 0 → rC S 22 s = 100 → ∃ k, k < rN S 45 0 ∧ rN S 28 k = s := h.2.2.2.2.2.2.2.2.2.2.2.2.2.2.2.1
theorem Inv.lg {S : St} (h : Inv S) : ∀ s, s < rN S 46 0 → lastS S s (if rB S 23 s then 111 else 119) (rN S 50 0) = rC S 22 s := h.2.2.2.2.2.2.2.2.2.2.2.2.2.2.2.2.1
theorem Inv.lt {S : St} (h : Inv S) : ∀ s, s < rN S 46 0 → cntT S s (rN S 50 0) = rN S 25 s := h.2.2.2.2.2.2.2.2.2.2.2.2.2.2.2.2.2.1
theorem Inv.wr {S : St} (h : Inv S) : rB S 61 0 = decide (0 < rN S 46 0) := h.2.2.2.2.2.2.2.2.2.2.2.2.2.2.2.2.2.2.1
theorem Inv.fi {S : St} (h : Inv S) : ∀ s t f, s < rN S 44 0 → t < rN S 44 0 → rO S 16 s = some f → rO S 16 t = some f → s = t := h.2.2.2.2.2.2.2.2.2.2.2.2.2.2.2.2.2.2.2.1
theorem Inv.nb {S : St} (h : Inv S) : ∀ s, ∃ n, n < 65536 ∧ rI S 15 s = nI n := h.2.2.2.2.2.2.2.2.2.2.2.2.2.2.2.2.2.2.2.2.1
theorem Inv.jn {S : St} (h : Inv S) : ∀ s, s < rN S 44 0 → rC S 13 s = 97 ∨ rC S 13 s = 111 := h.2.2.2.2.2.2.2.2.2.2.2.2.2.2.2.2.2.2.2.2.2
def Phi (S : St) : Nat := rN S 50 0 + 2 * actN S + rN S 45 0 + (if (rO S 47 0).isSome then 1 else 0)
/-- there is room for one call more -/
def Rm (S : St) : Prop := Phi S + 3 ≤ 1536 ∧ rN S 40 0 + 240 ≤ 122880
def ix (x : Int32) : Nat := x.toNatClampNeg
theorem ix_nI {n : Nat} (h : n < 2147483648) : ix (nI n) = n := nI_clamp h
def btw (x lo hi : Int32) : Bool := decide (lo ≤ x) && decide (x ≤ hi)
theorem btw_nat {x : Int32} {a b : Nat} (h : btw x (nI a) (nI b) = true) (ha : a < 2147483648) (hb : b < 2147483647) : ∃ n, a ≤ n ∧ n ≤ b ∧ x = nI n := by
  simp only [btw, Bool.and_eq_true, decide_eq_true_eq] at h
  rcases pk_ix x (n := b + 1) (by omega) with h9 | h9 | h9
  · exact absurd h9 (fun e => by
      have h1 := Int32.le_iff_toInt_le.mp h.1
      have h2 := Int32.lt_iff_toInt_lt.mp e
      rw [nI_toInt ha] at h1
      have h3 : (0 : Int32).toInt = 0 := rfl
      omega)
  · exact absurd h9 (fun e => by
      have h1 := Int32.le_iff_toInt_le.mp h.2
      have h2 := Int32.le_iff_toInt_le.mp e
      rw [nI_toInt (by omega)] at h1
      rw [nI_toInt (by omega)] at h2
      omega)
  · obtain ⟨n, h1, rfl⟩ := h9
    refine ⟨n, (nI_leI ha (by omega)).mp h.1, (nI_leI (by omega) (by omega)).mp h.2, rfl⟩
def pXk (Es : List String) (k : Nat) (u : va_W) : String → va_W → Prop := fun E w => ∃ j, k = j + 1 ∧ Es[j]? = some E ∧ w = u
def ins9 (S : St) (x : Int32) : Bool := inR x (rN S 44 0)
def kAP (S : St) (x : Int32) : Nat := if btw x (nI 1) (nI 15) = false then 1 else if 8 ≤ rN S 43 0 then 2 else 0
def sAP (S : St) (x : Int32) : St := sN (sO (sI S 7 (up1 (rI S 7) (rN S 43 0) x)) 9 (up1 (rO S 9) (rN S 43 0) none)) 43 (fun _ => rN S 43 0 + 1)
def kSD (S : St) (x : Int32) : Nat := if inR x (rN S 43 0) = false then 1 else if (rO S 9 (ix x)).isSome = true ∨ (decide (rO S 47 0 = some (ix x)) || decide (rO S 48 0 = some (ix x))) = true then 2 else 0
def sSD (S : St) (x : Int32) (b : Bool) : St := sB S 8 (up1 (rB S 8) (ix x) b)
def kAS (S : St) (ro le tr : Int32) (jn : UInt16) : Nat := if inR ro 4 = false ∨ btw le (nI 1) (nI 60) = false then 1 else if btw tr (nI 1) (nI 3) = false ∨ (¬ jn = 97 ∧ ¬ jn = 111) then 1 else if rB S 41 0 = true then 2 else if 16 ≤ rN S 44 0 then 2 else 0
def sAS (S : St) (ro le tr : Int32) (jn : UInt16) (rv : Bool) : St := sN (sO (sB (sC (sN (sN (sN S 10 (up1 (rN S 10) (rN S 44 0) (ix ro))) 11 (up1 (rN S 11) (rN S 44 0) (ix le))) 12 (up1 (rN S 12) (rN S 44 0) (ix tr))) 13 (up1 (rC S 13) (rN S 44 0) jn)) 14 (up1 (rB S 14) (rN S 44 0) rv)) 16 (up1 (rO S 16) (rN S 44 0) none)) 44 (fun _ => rN S 44 0 + 1)
def kND (S : St) (x y : Int32) : Nat := if ins9 S x = false then 1 else if ins9 S y = false then 1 else if ix x ≤ ix y then 2 else if rB S 41 0 = true then 3 else if bit9 S (ix x) (ix y) = true then 3 else 0
def vND (S : St) (x y : Int32) : Int32 := rI S 15 (ix x) ||| (nI 1 <<< (nI (ix y) &&& 31))
def sND (S : St) (x y : Int32) : St := sI S 15 (up1 (rI S 15) (ix x) (vND S x y))
def popc (v : Int32) : Nat := cnt9 (fun k => hasBit v (nI k)) 16
def kCD (S : St) (x se : Int32) (sg : UInt16) (b : Int32) : Nat := if ins9 S x = false then 1 else if inR se 6 = false ∨ rdgB b = false ∨ (¬ sg = 60 ∧ ¬ sg = 62 ∧ ¬ sg = 61) then 2 else if rB S 41 0 = true then 3 else if 2 ≤ rN S 17 (ix x) then 3 else 0
def sCD (S : St) (x se : Int32) (sg : UInt16) (b : Int32) : St := sN (sI (sC (sN S 18 (up1 (rN S 18) (ix x * 2 + rN S 17 (ix x)) (ix se))) 19 (up1 (rC S 19) (ix x * 2 + rN S 17 (ix x)) sg)) 20 (up1 (rI S 20) (ix x * 2 + rN S 17 (ix x)) b)) 17 (up1 (rN S 17) (ix x) (rN S 17 (ix x) + 1))
def own9 (S : St) (f : Nat) : Option Nat := fst9 (fun s => decide (rO S 16 s = some f)) (rN S 44 0)
def kSF (S : St) (x y : Int32) : Nat := if ins9 S x = false then 1 else if ins9 S y = false then 1 else if ix y ≤ ix x ∨ (¬ own9 S (ix y) = none ∧ ¬ own9 S (ix y) = some (ix x)) then 2 else if rB S 41 0 = true then 3 else 0
def sSF (S : St) (x y : Int32) : St := sO S 16 (up1 (rO S 16) (ix x) (some (ix y)))
def kSR (x r : Int32) : Nat := if inR x 6 = false ∨ rdgB r = false then 1 else 0
def sSR (S : St) (x r : Int32) : St := sI S 6 (up1 (rI S 6) (ix x) r)
def kST (S : St) : Nat := if rB S 41 0 = true then 1 else if rN S 44 0 = 0 then 1 else 0
def sST (S : St) : St := sB (sN (prS S (rN S 44 0)) 50 (fun _ => 0)) 41 (fun _ => true)
def kCL (S : St) : Nat := if rB S 41 0 = false then 1 else if anyA S = true ∨ (rO S 47 0).isSome = true then 1 else 0
def kBG (S : St) (x y : Int32) : Nat := if inR x (rN S 43 0) = false then 1 else if ins9 S y = false then 1 else if rB S 41 0 = false then 2 else if free9 S (ix x) = false ∨ hasBit (rI S 7 (ix x)) (nI (rN S 10 (ix y))) = false then 3 else if rdy9 S (ix y) = false ∨ paus9 S (nI (rN S 10 (ix y))) = true then 3 else 0
def sBG (S : St) (x y : Int32) : St := lgw (sI (sB (sN (sC (sO S 9 (up1 (rO S 9) (ix x) (some (ix y)))) 22 (up1 (rC S 22) (ix y) 97)) 26 (up1 (rN S 26) (ix y) 0)) 24 (up1 (rB S 24) (ix y) true)) 27 (see9 S (ix y) 6)) 98 (some (ix y)) (some (ix x)) (rN S 40 0)
def kFN (S : St) (x : Int32) : Nat := if inR x (rN S 43 0) = false then 1 else match rO S 9 (ix x) with
  | none => 2
  | some s => if rN S 26 s < rN S 11 s ∨ rO S 47 0 = some (ix x) then 3 else 0
def wkOf (S : St) (x : Int32) : Nat := (rO S 9 (ix x)).getD 0
def sFN (S : St) (x : Int32) (b : Bool) : St := if b = true then done9 S (wkOf S x) else fail9 S (wkOf S x)
def kHO (S : St) (x y : Int32) : Nat := if inR x (rN S 43 0) = false then 1 else if inR y (rN S 43 0) = false then 1 else if ix x = ix y then 2 else if rB S 41 0 = false then 3 else if (rO S 47 0).isSome = true then 3 else if rB S 8 (ix x) = false ∨ rB S 8 (ix y) = true ∨ tko9 S (ix x) (ix y) = false then 4 else 0
def sHO (S : St) (x y : Int32) : St := lgw (sN (sO (sO S 47 (fun _ => some (ix x))) 48 (fun _ => some (ix y))) 49 (fun _ => rN S 40 0 + 10)) 104 none (some (ix x)) (rN S 40 0)
def kUD (S : St) (x : Int32) : Nat := if ins9 S x = false then 1 else if rB S 41 0 = false then 2 else if anyA S = true ∨ ¬ rC S 22 (ix x) = 100 then 2 else if rev9 S (plc9 S (ix x)) = false then 3 else 0
/-- the step that became done last is undone -/
def und1 (T : St) : St := lgw (sN (sC (sN T 45 (fun _ => rN T 45 0 - 1)) 22 (up1 (rC T 22) (rN T 28 (rN T 45 0 - 1)) 119)) 25 (up1 (rN T 25) (rN T 28 (rN T 45 0 - 1)) 0)) 117 (some (rN T 28 (rN T 45 0 - 1))) none (rN T 40 0)
def undS (S : St) : Nat → St
  | 0 => S
  | j + 1 => und1 (undS S j)
def nUD (S : St) (x : Int32) : Nat := rN S 45 0 - plc9 S (ix x)
def kPS (x : Int32) : Nat := if btw x (nI 1) (nI 240) = false then 1 else 0
def pmI (S : St) : Nat → St
  | 0 => S
  | i + 1 => pm9 (pmI S i)
def pmT (S : St) : Nat → Nat
  | 0 => 0
  | i + 1 => pmT S i + pmN (pmI S i)
def kP1 (S : St) (x : Int32) : Nat := if inR x (rN S 43 0) = false then 1 else 0
def kS1 (S : St) (x : Int32) : Nat := if ins9 S x = false then 1 else 0
def kE1 (S : St) (x : Int32) : Nat := if inR x (rN S 50 0) = false then 1 else 0
def kR1 (x : Int32) : Nat := if inR x 4 = false then 1 else 0
def kHR (S : St) (x y : Int32) : Nat := if inR x (rN S 43 0) = false then 1 else if inR y 4 = false then 2 else 0
def kRO (x : Int32) : Nat := if inR x 6 = false then 1 else 0
def kGR (S : St) (x y : Int32) : Nat := if ins9 S x = false then 1 else if inR y (rN S 17 (ix x)) = false then 2 else if rB S 24 (ix x) = false then 3 else 0
def kSR2 (S : St) (x : Int32) : Nat := if ins9 S x = false then 1 else if inR x (rN S 46 0) = false then 2 else 0
def why9 (S : St) (s : Nat) : UInt16 := if rB S 41 0 = false then 115 else if ¬ rC S 22 s = 119 then 120 else if met9 S s = false then 110 else if guard9 S s = false then 103 else if paus9 S (nI (rN S 10 s)) = true then 112 else if man9 S (nI (rN S 10 s)) = false then 114 else 45
def kNX (S : St) (x : Int32) : Nat := if inR x (rN S 43 0) = false then 1 else if best9 S (ix x) (rN S 44 0) = none then 2 else 0
def stu9 (S : St) : Bool := rB S 41 0 && (!alls9 S && (!anyA S && decide (cntR S = 0)))
def kHE (S : St) : Nat := if (rO S 47 0).isSome = false then 1 else 0
def kWO (S : St) (x : Int32) : Nat := if ins9 S x = false then 1 else if ¬ rC S 22 (ix x) = 97 then 2 else 0
def kLD (S : St) : Nat := if rB S 41 0 = false then 1 else if ltd9 S = none then 1 else 0
def kRN (S : St) : Nat := if rB S 41 0 = false then 1 else 0
def lgS (S : St) (s : Nat) : UInt16 := lastS S s (if rB S 23 s then 111 else 119) (rN S 50 0)
set_option maxRecDepth 20000 in
set_option maxHeartbeats 4000000 in
theorem c_X5_requirePerson (l : Launch) (D : va_G) (cy : Nat → ClassId) (ad : Nat → Nat) (S : St) (F : va_W) (x : Int32) : Ctr l D cy yX5_requirePerson (.code yX5_requirePerson cX5_requirePerson 2 none) ({ frames := 8, cells := 1, slots := 6, locals := 200 } : Room) [.ref (ad 0), .int x] (wC ad cy S ++ F) (pUx (inR x (rN S 43 0) = true) (wC ad cy S ++ F)) (pX (inR x (rN S 43 0) = false) "java/util/NoSuchElementException" (wC ad cy S ++ F)) := by
  refine Ctr.of (by decide) (Nat.le_of_ble_eq_true rfl) ?_
  intro M X hE hN hB9 hI9
  replace X : VX l D M cy cX5_requirePerson "Runbooker" none ({ frames := 8, cells := 1, slots := 6, locals := 200 } : Room) := X
  show V l D M 0 0 (wC ad cy S ++ F) [(0, .ref (ad 0)), (1, .int x)] 0 []
  refine V.aload_n X dX5_requirePerson_0 rfl ?_
  refine wC_gX5_10 X dX5_requirePerson_1 ?_
  refine V.iload_n X dX5_requirePerson_4 rfl ?_
  refine V.callV1 [.int x] X (c_X0_has l D cy ad S F x) mv_X0_has gw_2_183 ⟨⟨(Nat.le_of_ble_eq_true rfl), (Nat.le_of_ble_eq_true rfl)⟩, (Nat.le_of_ble_eq_true rfl), (Nat.le_of_ble_eq_true rfl)⟩ (q0 := 1) (ci := 2) rfl rfl rfl (Nat.le_of_ble_eq_true rfl) dX5_requirePerson_5 ?_
  refine V.if_ne (tgt := 22) X dX5_requirePerson_8 (by decide) b2i_n0 b2i_0 (fun (hz8 : inR x (rN S 43 0) = true) => ?_) (fun (hz8 : inR x (rN S 43 0) = false) => ?_)
  · exact V.vret X hE rfl (Nat.le_of_ble_eq_true rfl) (Nat.le_of_ble_eq_true rfl) ⟨hz8, rfl, rfl⟩ dX5_requirePerson_22
  · exact V.thNSE X hE hN gS_398 (.inr ⟨rfl, rfl⟩) dX5_requirePerson_11 dX5_requirePerson_14 dX5_requirePerson_15 dX5_requirePerson_18 dX5_requirePerson_21 (Nat.le_of_ble_eq_true rfl) (Nat.le_of_ble_eq_true rfl) (Nat.le_of_ble_eq_true rfl) (Nat.le_of_ble_eq_true rfl) ⟨hz8, rfl, rfl⟩
set_option maxRecDepth 20000 in
set_option maxHeartbeats 4000000 in
theorem c_X5_requireStep (l : Launch) (D : va_G) (cy : Nat → ClassId) (ad : Nat → Nat) (S : St) (F : va_W) (x : Int32) : Ctr l D cy yX5_requireStep (.code yX5_requireStep cX5_requireStep 2 none) ({ frames := 8, cells := 1, slots := 6, locals := 200 } : Room) [.ref (ad 0), .int x] (wC ad cy S ++ F) (pUx (ins9 S x = true) (wC ad cy S ++ F)) (pX (ins9 S x = false) "java/util/NoSuchElementException" (wC ad cy S ++ F)) := by
  refine Ctr.of (by decide) (Nat.le_of_ble_eq_true rfl) ?_
  intro M X hE hN hB9 hI9
  replace X : VX l D M cy cX5_requireStep "Runbooker" none ({ frames := 8, cells := 1, slots := 6, locals := 200 } : Room) := X
  show V l D M 0 0 (wC ad cy S ++ F) [(0, .ref (ad 0)), (1, .int x)] 0 []
  refine V.aload_n X dX5_requireStep_0 rfl ?_
  refine wC_gX5_19 X dX5_requireStep_1 ?_
  refine V.iload_n X dX5_requireStep_4 rfl ?_
  refine V.callV1 [.int x] X (c_X3_has l D cy ad S F x) mv_X3_has gw_3_5 ⟨⟨(Nat.le_of_ble_eq_true rfl), (Nat.le_of_ble_eq_true rfl)⟩, (Nat.le_of_ble_eq_true rfl), (Nat.le_of_ble_eq_true rfl)⟩ (q0 := 2) (ci := 5) rfl rfl rfl (Nat.le_of_ble_eq_true rfl) dX5_requireStep_5 ?_
  refine V.if_ne (tgt := 22) X dX5_requireStep_8 (by decide) b2i_n0 b2i_0 (fun (hz8 : inR x (rN S 44 0) = true) => ?_) (fun (hz8 : inR x (rN S 44 0) = false) => ?_)
  · exact V.vret X hE rfl (Nat.le_of_ble_eq_true rfl) (Nat.le_of_ble_eq_true rfl) ⟨hz8, rfl, rfl⟩ dX5_requireStep_22
  · exact V.thNSE X hE hN gS_401 (.inr ⟨rfl, rfl⟩) dX5_requireStep_11 dX5_requireStep_14 dX5_requireStep_15 dX5_requireStep_18 dX5_requireStep_21 (Nat.le_of_ble_eq_true rfl) (Nat.le_of_ble_eq_true rfl) (Nat.le_of_ble_eq_true rfl) (Nat.le_of_ble_eq_true rfl) ⟨hz8, rfl, rfl⟩
set_option maxRecDepth 20000 in
set_option maxHeartbeats 4000000 in
theorem c_X5_requireEntry (l : Launch) (D : va_G) (cy : Nat → ClassId) (ad : Nat → Nat) (S : St) (F : va_W) (x : Int32) : Ctr l D cy yX5_requireEntry (.code yX5_requireEntry cX5_requireEntry 2 none) ({ frames := 8, cells := 1, slots := 6, locals := 200 } : Room) [.ref (ad 0), .int x] (wC ad cy S ++ F) (pUx (inR x (rN S 50 0) = true) (wC ad cy S ++ F)) (pX (inR x (rN S 50 0) = false) "java/util/NoSuchElementException" (wC ad cy S ++ F)) := by
  refine Ctr.of (by decide) (Nat.le_of_ble_eq_true rfl) ?_
  intro M X hE hN hB9 hI9
  replace X : VX l D M cy cX5_requireEntry "Runbooker" none ({ frames := 8, cells := 1, slots := 6, locals := 200 } : Room) := X
  show V l D M 0 0 (wC ad cy S ++ F) [(0, .ref (ad 0)), (1, .int x)] 0 []
  refine V.aload_n X dX5_requireEntry_0 rfl ?_
  refine wC_gX5_40 X dX5_requireEntry_1 ?_
  refine V.iload_n X dX5_requireEntry_4 rfl ?_
  refine V.callV1 [.int x] X (c_X2_has l D cy ad S F x) mv_X2_has gw_4_207 ⟨⟨(Nat.le_of_ble_eq_true rfl), (Nat.le_of_ble_eq_true rfl)⟩, (Nat.le_of_ble_eq_true rfl), (Nat.le_of_ble_eq_true rfl)⟩ (q0 := 5) (ci := 4) rfl rfl rfl (Nat.le_of_ble_eq_true rfl) dX5_requireEntry_5 ?_
  refine V.if_ne (tgt := 22) X dX5_requireEntry_8 (by decide) b2i_n0 b2i_0 (fun (hz8 : inR x (rN S 50 0) = true) => ?_) (fun (hz8 : inR x (rN S 50 0) = false) => ?_)
  · exact V.vret X hE rfl (Nat.le_of_ble_eq_true rfl) (Nat.le_of_ble_eq_true rfl) ⟨hz8, rfl, rfl⟩ dX5_requireEntry_22
  · exact V.thNSE X hE hN gS_407 (.inr ⟨rfl, rfl⟩) dX5_requireEntry_11 dX5_requireEntry_14 dX5_requireEntry_15 dX5_requireEntry_18 dX5_requireEntry_21 (Nat.le_of_ble_eq_true rfl) (Nat.le_of_ble_eq_true rfl) (Nat.le_of_ble_eq_true rfl) (Nat.le_of_ble_eq_true rfl) ⟨hz8, rfl, rfl⟩
set_option maxRecDepth 20000 in
set_option maxHeartbeats 4000000 in
theorem c_X5_requireRole (l : Launch) (D : va_G) (cy : Nat → ClassId) (ad : Nat → Nat) (S : St) (F : va_W) (x : Int32) : Ctr l D cy yX5_requireRole (.code yX5_requireRole cX5_requireRole 2 none) ({ frames := 8, cells := 1, slots := 6, locals := 200 } : Room) [.ref (ad 0), .int x] (wC ad cy S ++ F) (pUx (inR x 4 = true) (wC ad cy S ++ F)) (pX (inR x 4 = false) "java/lang/IllegalArgumentException" (wC ad cy S ++ F)) := by
  refine Ctr.of (by decide) (Nat.le_of_ble_eq_true rfl) ?_
  intro M X hE hN hB9 hI9
  replace X : VX l D M cy cX5_requireRole "Runbooker" none ({ frames := 8, cells := 1, slots := 6, locals := 200 } : Room) := X
  show V l D M 0 0 (wC ad cy S ++ F) [(0, .ref (ad 0)), (1, .int x)] 0 []
  refine V.iload_n X dX5_requireRole_0 rfl ?_
  refine V.callS1 [.int x] X (c_X5_isRole l D cy ad S F x) ms_X5_isRole gw_2_219 ⟨⟨(Nat.le_of_ble_eq_true rfl), (Nat.le_of_ble_eq_true rfl)⟩, (Nat.le_of_ble_eq_true rfl), (Nat.le_of_ble_eq_true rfl)⟩ rfl (Nat.le_of_ble_eq_true rfl) dX5_requireRole_1 ?_
  refine V.if_ne (tgt := 18) X dX5_requireRole_4 (by decide) b2i_n0 b2i_0 (fun (hz4 : inR x 4 = true) => ?_) (fun (hz4 : inR x 4 = false) => ?_)
  · exact V.vret X hE rfl (Nat.le_of_ble_eq_true rfl) (Nat.le_of_ble_eq_true rfl) ⟨hz4, rfl, rfl⟩ dX5_requireRole_18
  · exact V.thIAE X hE hN gS_409 (.inr ⟨rfl, rfl⟩) dX5_requireRole_7 dX5_requireRole_10 dX5_requireRole_11 dX5_requireRole_14 dX5_requireRole_17 (Nat.le_of_ble_eq_true rfl) (Nat.le_of_ble_eq_true rfl) (Nat.le_of_ble_eq_true rfl) (Nat.le_of_ble_eq_true rfl) ⟨hz4, rfl, rfl⟩
set_option maxRecDepth 20000 in
set_option maxHeartbeats 4000000 in
theorem c_X5_requireRun (l : Launch) (D : va_G) (cy : Nat → ClassId) (ad : Nat → Nat) (S : St) (F : va_W) : Ctr l D cy yX5_requireRun (.code yX5_requireRun cX5_requireRun 1 none) ({ frames := 8, cells := 1, slots := 6, locals := 200 } : Room) [.ref (ad 0)] (wC ad cy S ++ F) (pUx (rB S 41 0 = true) (wC ad cy S ++ F)) (pX (rB S 41 0 = false) "java/lang/IllegalStateException" (wC ad cy S ++ F)) := by
  refine Ctr.of (by decide) (Nat.le_of_ble_eq_true rfl) ?_
  intro M X hE hN hB9 hI9
  replace X : VX l D M cy cX5_requireRun "Runbooker" none ({ frames := 8, cells := 1, slots := 6, locals := 200 } : Room) := X
  show V l D M 0 0 (wC ad cy S ++ F) [(0, .ref (ad 0))] 0 []
  refine V.aload_n X dX5_requireRun_0 rfl ?_
  refine wC_gX5_155 X dX5_requireRun_1 ?_
  refine V.if_ne (tgt := 18) X dX5_requireRun_4 (by decide) b2i_n0 b2i_0 (fun (hz4 : rB S 41 0 = true) => ?_) (fun (hz4 : rB S 41 0 = false) => ?_)
  · exact V.vret X hE rfl (Nat.le_of_ble_eq_true rfl) (Nat.le_of_ble_eq_true rfl) ⟨hz4, rfl, rfl⟩ dX5_requireRun_18
  · exact V.thISE X hE hN gS_411 (.inr ⟨rfl, rfl⟩) dX5_requireRun_7 dX5_requireRun_10 dX5_requireRun_11 dX5_requireRun_14 dX5_requireRun_17 (Nat.le_of_ble_eq_true rfl) (Nat.le_of_ble_eq_true rfl) (Nat.le_of_ble_eq_true rfl) (Nat.le_of_ble_eq_true rfl) ⟨hz4, rfl, rfl⟩
set_option maxRecDepth 20000 in
set_option maxHeartbeats 4000000 in
theorem c_X5_requireNoRun (l : Launch) (D : va_G) (cy : Nat → ClassId) (ad : Nat → Nat) (S : St) (F : va_W) : Ctr l D cy yX5_requireNoRun (.code yX5_requireNoRun cX5_requireNoRun 1 none) ({ frames := 8, cells := 1, slots := 6, locals := 200 } : Room) [.ref (ad 0)] (wC ad cy S ++ F) (pUx (rB S 41 0 = false) (wC ad cy S ++ F)) (pX (rB S 41 0 = true) "java/lang/IllegalStateException" (wC ad cy S ++ F)) := by
  refine Ctr.of (by decide) (Nat.le_of_ble_eq_true rfl) ?_
  intro M X hE hN hB9 hI9
  replace X : VX l D M cy cX5_requireNoRun "Runbooker" none ({ frames := 8, cells := 1, slots := 6, locals := 200 } : Room) := X
  show V l D M 0 0 (wC ad cy S ++ F) [(0, .ref (ad 0))] 0 []
  refine V.aload_n X dX5_requireNoRun_0 rfl ?_
  refine wC_gX5_155 X dX5_requireNoRun_1 ?_
  refine V.if_eq (tgt := 18) X dX5_requireNoRun_4 (by decide) b2i_0 b2i_n0 (fun (hz4 : rB S 41 0 = false) => ?_) (fun (hz4 : rB S 41 0 = true) => ?_)
  · exact V.vret X hE rfl (Nat.le_of_ble_eq_true rfl) (Nat.le_of_ble_eq_true rfl) ⟨hz4, rfl, rfl⟩ dX5_requireNoRun_18
  · exact V.thISE X hE hN gS_413 (.inr ⟨rfl, rfl⟩) dX5_requireNoRun_7 dX5_requireNoRun_10 dX5_requireNoRun_11 dX5_requireNoRun_14 dX5_requireNoRun_17 (Nat.le_of_ble_eq_true rfl) (Nat.le_of_ble_eq_true rfl) (Nat.le_of_ble_eq_true rfl) (Nat.le_of_ble_eq_true rfl) ⟨hz4, rfl, rfl⟩
set_option maxRecDepth 20000 in
set_option maxHeartbeats 4000000 in
theorem c_X5_requireStepOfRun (l : Launch) (D : va_G) (cy : Nat → ClassId) (ad : Nat → Nat) (S : St) (F : va_W) (x : Int32) : Ctr l D cy yX5_requireStepOfRun (.code yX5_requireStepOfRun cX5_requireStepOfRun 2 none) ({ frames := 9, cells := 2, slots := 12, locals := 240 } : Room) [.ref (ad 0), .int x] (wC ad cy S ++ F) (pUx (ins9 S x = true ∧ inR x (rN S 46 0) = true) (wC ad cy S ++ F)) (fun E9 w9 => (ins9 S x = false ∧ E9 = "java/util/NoSuchElementException" ∧ w9 = wC ad cy S ++ F) ∨ ((ins9 S x = true ∧ inR x (rN S 46 0) = false) ∧ E9 = "java/lang/IllegalStateException" ∧ w9 = wC ad cy S ++ F)) := by
  refine Ctr.of (by decide) (Nat.le_of_ble_eq_true rfl) ?_
  intro M X hE hN hB9 hI9
  replace X : VX l D M cy cX5_requireStepOfRun "Runbooker" none ({ frames := 9, cells := 2, slots := 12, locals := 240 } : Room) := X
  show V l D M 0 0 (wC ad cy S ++ F) [(0, .ref (ad 0)), (1, .int x)] 0 []
  refine V.aload_n X dX5_requireStepOfRun_0 rfl ?_
  refine V.iload_n X dX5_requireStepOfRun_1 rfl ?_
  refine V.callVx0 [.int x] X hE hN (c_X5_requireStep l D cy ad S F x) mv_X5_requireStep gw_3_1 ⟨⟨(Nat.le_of_ble_eq_true rfl), (Nat.le_of_ble_eq_true rfl)⟩, (Nat.le_of_ble_eq_true rfl), (Nat.le_of_ble_eq_true rfl)⟩ (q0 := 0) (ci := 7) rfl rfl rfl (Nat.le_of_ble_eq_true rfl) dX5_requireStepOfRun_2 (fun _ _ h9 => .inl h9) (fun hz2 => ?_)
  refine V.aload_n X dX5_requireStepOfRun_5 rfl ?_
  refine wC_gX5_26 X dX5_requireStepOfRun_6 ?_
  refine V.iload_n X dX5_requireStepOfRun_9 rfl ?_
  refine V.callV1 [.int x] X (c_X4_has l D cy ad S F x) mv_X4_has gw_2_34 ⟨⟨(Nat.le_of_ble_eq_true rfl), (Nat.le_of_ble_eq_true rfl)⟩, (Nat.le_of_ble_eq_true rfl), (Nat.le_of_ble_eq_true rfl)⟩ (q0 := 3) (ci := 6) rfl rfl rfl (Nat.le_of_ble_eq_true rfl) dX5_requireStepOfRun_10 ?_
  refine V.if_ne (tgt := 27) X dX5_requireStepOfRun_13 (by decide) b2i_n0 b2i_0 (fun (hz13 : inR x (rN S 46 0) = true) => ?_) (fun (hz13 : inR x (rN S 46 0) = false) => ?_)
  · exact V.vret X hE rfl (Nat.le_of_ble_eq_true rfl) (Nat.le_of_ble_eq_true rfl) ⟨⟨hz2, hz13⟩, rfl, rfl⟩ dX5_requireStepOfRun_27
  · exact V.thISE X hE hN gS_404 (.inr ⟨rfl, rfl⟩) dX5_requireStepOfRun_16 dX5_requireStepOfRun_19 dX5_requireStepOfRun_20 dX5_requireStepOfRun_23 dX5_requireStepOfRun_26 (Nat.le_of_ble_eq_true rfl) (Nat.le_of_ble_eq_true rfl) (Nat.le_of_ble_eq_true rfl) (Nat.le_of_ble_eq_true rfl) (.inr ⟨⟨hz2, hz13⟩, rfl, rfl⟩)
set_option maxRecDepth 20000 in
set_option maxHeartbeats 4000000 in
theorem c_X5_addPerson (l : Launch) (D : va_G) (cy : Nat → ClassId) (ad : Nat → Nat) (S : St) (F : va_W) (x : Int32) (hI : Inv S) : Ctr l D cy yX5_addPerson (.code yX5_addPerson cX5_addPerson 2 (some FieldType.int)) ({ frames := 12, cells := 8, slots := 48, locals := 400 } : Room) [.ref (ad 0), .int x] (wC ad cy S ++ F) (pIx (kAP S x = 0) (nI (rN S 43 0)) (wC ad cy (sAP S x) ++ F)) (pXk ["java/lang/IllegalArgumentException", "java/lang/IllegalStateException"] (kAP S x) (wC ad cy S ++ F)) := by
  refine Ctr.of (by decide) (Nat.le_of_ble_eq_true rfl) ?_
  intro M X hE hN hB9 hI9
  replace X : VX l D M cy cX5_addPerson "Runbooker" (some FieldType.int) ({ frames := 12, cells := 8, slots := 48, locals := 400 } : Room) := X
  show V l D M 0 0 (wC ad cy S ++ F) [(0, .ref (ad 0)), (1, .int x)] 0 []
  have hW := hI.w
  have hB := hW.b
  have h43 := hW.n43
  have h44 := hW.n44
  have h46 := hW.n46
  have h45 := hW.n45
  have hcl := hW.cl
  have hen := hW.en
  refine V.iload_n X dX5_addPerson_0 rfl ?_
  refine V.iconst (v := nI 1) X dX5_addPerson_1 rfl ?_
  refine V.icmp_lt (tgt := 11) X dX5_addPerson_2 (by decide) id id (fun (hz2 : x < nI 1) => ?_) (fun (hz2 : ¬ x < nI 1) => ?_)
  · exact V.thIAE X hE hN gS_50 (.inl ⟨rfl, rfl⟩) dX5_addPerson_11 dX5_addPerson_14 dX5_addPerson_15 dX5_addPerson_17 dX5_addPerson_20 (Nat.le_of_ble_eq_true rfl) (Nat.le_of_ble_eq_true rfl) (Nat.le_of_ble_eq_true rfl) (Nat.le_of_ble_eq_true rfl) ⟨0, (by simp [kAP, btw, hz2, (i32_nle.mpr hz2)]), rfl, rfl⟩
  · refine V.iload_n X dX5_addPerson_5 rfl ?_
    refine V.bipush (v := nI 15) X dX5_addPerson_6 (by decide) ?_
    refine V.icmp_le (tgt := 21) X dX5_addPerson_8 (by decide) id id (fun (hz8 : x ≤ nI 15) => ?_) (fun (hz8 : ¬ x ≤ nI 15) => ?_)
    · refine V.aload_n X dX5_addPerson_21 rfl ?_
      refine wC_gX5_10 X dX5_addPerson_22 ?_
      refine wC_gX5_55 X dX5_addPerson_25 ?_
      refine V.bipush (v := nI 8) X dX5_addPerson_28 (by decide) ?_
      refine V.icmp_lt (tgt := 43) X dX5_addPerson_30 (by decide) (cN_lt (hB.n 43 _) (by decide)) (cN_nlt (hB.n 43 _) (by decide)) (fun (hz30 : rN S 43 0 < 8) => ?_) (fun (hz30 : 8 ≤ rN S 43 0) => ?_)
      · refine V.aload_n X dX5_addPerson_43 rfl ?_
        refine wC_gX5_10 X dX5_addPerson_44 ?_
        refine V.iload_n X dX5_addPerson_47 rfl ?_
        refine V.callV1 [.int x] X (c_X0_join l D cy ad S F x (show (rN S 43 0) < 8 by omega)) mv_X0_join gw_2_167 ⟨⟨(Nat.le_of_ble_eq_true rfl), (Nat.le_of_ble_eq_true rfl)⟩, (Nat.le_of_ble_eq_true rfl), (Nat.le_of_ble_eq_true rfl)⟩ (q0 := 1) (ci := 2) rfl rfl rfl (Nat.le_of_ble_eq_true rfl) dX5_addPerson_48 ?_
        exact V.iret (v := nI (rN S 43 0)) X hE rfl rfl (Nat.le_of_ble_eq_true rfl) (Nat.le_of_ble_eq_true rfl) ⟨(by simp [kAP, btw, hz2, (i32_nlt.mp hz2), hz8, (i32_nlt.mpr hz8), hz30, (Nat.not_le.mpr hz30)]), (congrArg (fun z => some (Value.int z)) (by first | rfl | simp [hz2, (i32_nlt.mp hz2), hz8, (i32_nlt.mpr hz8), hz30, (Nat.not_le.mpr hz30)])), rfl⟩ dX5_addPerson_51
      · exact V.thISE X hE hN gS_61 (.inl ⟨rfl, rfl⟩) dX5_addPerson_33 dX5_addPerson_36 dX5_addPerson_37 dX5_addPerson_39 dX5_addPerson_42 (Nat.le_of_ble_eq_true rfl) (Nat.le_of_ble_eq_true rfl) (Nat.le_of_ble_eq_true rfl) (Nat.le_of_ble_eq_true rfl) ⟨1, (by simp [kAP, btw, hz2, (i32_nlt.mp hz2), hz8, (i32_nlt.mpr hz8), hz30, (Nat.not_lt.mpr hz30)]), rfl, rfl⟩
    · exact V.thIAE X hE hN gS_50 (.inl ⟨rfl, rfl⟩) dX5_addPerson_11 dX5_addPerson_14 dX5_addPerson_15 dX5_addPerson_17 dX5_addPerson_20 (Nat.le_of_ble_eq_true rfl) (Nat.le_of_ble_eq_true rfl) (Nat.le_of_ble_eq_true rfl) (Nat.le_of_ble_eq_true rfl) ⟨0, (by simp [kAP, btw, hz2, (i32_nlt.mp hz2), hz8, (i32_nle.mp hz8)]), rfl, rfl⟩
set_option maxRecDepth 20000 in
set_option maxHeartbeats 4000000 in
theorem c_X5_setDuty (l : Launch) (D : va_G) (cy : Nat → ClassId) (ad : Nat → Nat) (S : St) (F : va_W) (x : Int32) (b : Bool) (hI : Inv S) : Ctr l D cy yX5_setDuty (.code yX5_setDuty cX5_setDuty 4 (some FieldType.boolean)) ({ frames := 12, cells := 8, slots := 48, locals := 400 } : Room) [.ref (ad 0), .int x, .int (b2i b)] (wC ad cy S ++ F) (pIx (kSD S x = 0) (b2i (rB S 8 (ix x))) (wC ad cy (sSD S x b) ++ F)) (pXk ["java/util/NoSuchElementException", "java/lang/IllegalStateException"] (kSD S x) (wC ad cy S ++ F)) := by
  refine Ctr.of (by decide) (Nat.le_of_ble_eq_true rfl) ?_
  intro M X hE hN hB9 hI9
  replace X : VX l D M cy cX5_setDuty "Runbooker" (some FieldType.boolean) ({ frames := 12, cells := 8, slots := 48, locals := 400 } : Room) := X
  show V l D M 0 0 (wC ad cy S ++ F) [(0, .ref (ad 0)), (1, .int x), (2, .int (b2i b))] 0 []
  have hW := hI.w
  have hB := hW.b
  have h43 := hW.n43
  have h44 := hW.n44
  have h46 := hW.n46
  have h45 := hW.n45
  have hcl := hW.cl
  have hen := hW.en
  refine V.aload_n X dX5_setDuty_0 rfl ?_
  refine V.iload_n X dX5_setDuty_1 rfl ?_
  refine V.callVx0 [.int x] X hE hN (c_X5_requirePerson l D cy ad S F x) mv_X5_requirePerson gw_2_179 ⟨⟨(Nat.le_of_ble_eq_true rfl), (Nat.le_of_ble_eq_true rfl)⟩, (Nat.le_of_ble_eq_true rfl), (Nat.le_of_ble_eq_true rfl)⟩ (q0 := 0) (ci := 7) rfl rfl rfl (Nat.le_of_ble_eq_true rfl) dX5_setDuty_2 (fun E9 w9 h9 => ⟨0, (by simp [kSD, h9.1]), (by rw [h9.2.1]; rfl), h9.2.2⟩) (fun hz2 => ?_)
  obtain ⟨p, hp, rfl⟩ := inR_of hz2 (by omega)
  have ep : ix (nI p) = p := ix_nI (by omega)
  refine V.aload_n X dX5_setDuty_5 rfl ?_
  refine wC_gX5_10 X dX5_setDuty_6 ?_
  refine V.iload_n X dX5_setDuty_9 rfl ?_
  refine V.callV1 [.int (nI p)] X (c_X0_isBusy l D cy ad S F p hB (show p < 8 by omega)) mv_X0_isBusy gw_2_203 ⟨⟨(Nat.le_of_ble_eq_true rfl), (Nat.le_of_ble_eq_true rfl)⟩, (Nat.le_of_ble_eq_true rfl), (Nat.le_of_ble_eq_true rfl)⟩ (q0 := 1) (ci := 2) rfl rfl rfl (Nat.le_of_ble_eq_true rfl) dX5_setDuty_10 ?_
  refine V.if_ne (tgt := 27) X dX5_setDuty_13 (by decide) b2i_n0 b2i_0 (fun (hz13 : (rO S 9 p).isSome = true) => ?_) (fun (hz13 : (rO S 9 p).isSome = false) => ?_)
  · exact V.thISE X hE hN gS_79 (.inl ⟨rfl, rfl⟩) dX5_setDuty_27 dX5_setDuty_30 dX5_setDuty_31 dX5_setDuty_33 dX5_setDuty_36 (Nat.le_of_ble_eq_true rfl) (Nat.le_of_ble_eq_true rfl) (Nat.le_of_ble_eq_true rfl) (Nat.le_of_ble_eq_true rfl) ⟨1, (by simp [kSD, hz2, hp, ep, hz13]), rfl, rfl⟩
  · refine V.aload_n X dX5_setDuty_16 rfl ?_
    refine wC_gX5_33 X dX5_setDuty_17 ?_
    refine V.iload_n X dX5_setDuty_20 rfl ?_
    refine V.callV1 [.int (nI p)] X (c_X1_involves l D cy ad S F p hB (show p < 16 by omega)) mv_X1_involves gw_2_207 ⟨⟨(Nat.le_of_ble_eq_true rfl), (Nat.le_of_ble_eq_true rfl)⟩, (Nat.le_of_ble_eq_true rfl), (Nat.le_of_ble_eq_true rfl)⟩ (q0 := 4) (ci := 3) rfl rfl rfl (Nat.le_of_ble_eq_true rfl) dX5_setDuty_21 ?_
    refine V.if_eq (tgt := 37) X dX5_setDuty_24 (by decide) b2i_0 b2i_n0 (fun (hz24 : (decide (rO S 47 0 = some p) || decide (rO S 48 0 = some p)) = false) => ?_) (fun (hz24 : (decide (rO S 47 0 = some p) || decide (rO S 48 0 = some p)) = true) => ?_)
    · refine V.aload_n X dX5_setDuty_37 rfl ?_
      refine wC_gX5_10 X dX5_setDuty_38 ?_
      refine wC_gX5_81 X dX5_setDuty_41 ?_
      refine V.iload_n X dX5_setDuty_44 rfl ?_
      refine wC_ld8 (i := p) X (by omega) dX5_setDuty_45 ?_
      refine V.istore_n (L' := [(3, .int (b2i (rB S 8 p))), (0, .ref (ad 0)), (1, .int (nI p)), (2, .int (b2i b))]) X dX5_setDuty_46 rfl hB9 (by decide) rfl ?_
      refine V.aload_n X dX5_setDuty_47 rfl ?_
      refine wC_gX5_10 X dX5_setDuty_48 ?_
      refine wC_gX5_81 X dX5_setDuty_51 ?_
      refine V.iload_n X dX5_setDuty_54 rfl ?_
      refine V.iload_n X dX5_setDuty_55 rfl ?_
      refine wC_st8 (i := p) (v := b) (g := (rB S 8)) X (by omega) rfl dX5_setDuty_56 ?_
      refine V.iload_n X dX5_setDuty_57 rfl ?_
      exact V.iret (v := b2i (rB S 8 p)) X hE rfl (nar_b _) (Nat.le_of_ble_eq_true rfl) (Nat.le_of_ble_eq_true rfl) ⟨(by simp [kSD, hz2, hp, ep, hz13, hz24]), (congrArg (fun z => some (Value.int z)) (by first | rfl | (simp only [ep]; done) | simp [hz2, hp, ep, hz13, hz24])), (by first | (simp only [sSD, ep]; done) | (simp only [sSD, ep]; rfl) | rfl)⟩ dX5_setDuty_58
    · exact V.thISE X hE hN gS_79 (.inl ⟨rfl, rfl⟩) dX5_setDuty_27 dX5_setDuty_30 dX5_setDuty_31 dX5_setDuty_33 dX5_setDuty_36 (Nat.le_of_ble_eq_true rfl) (Nat.le_of_ble_eq_true rfl) (Nat.le_of_ble_eq_true rfl) (Nat.le_of_ble_eq_true rfl) ⟨1, (by simp [kSD, hz2, hp, ep, hz13, hz24]), rfl, rfl⟩
set_option maxRecDepth 20000 in
set_option maxHeartbeats 4000000 in
theorem c_X5_addStep (l : Launch) (D : va_G) (cy : Nat → ClassId) (ad : Nat → Nat) (S : St) (F : va_W) (ro : Int32) (le : Int32) (tr : Int32) (jn : UInt16) (rv : Bool) (hI : Inv S) : Ctr l D cy yX5_addStep (.code yX5_addStep cX5_addStep 6 (some FieldType.int)) ({ frames := 12, cells := 8, slots := 48, locals := 400 } : Room) [.ref (ad 0), .int ro, .int le, .int tr, .int (c2i jn), .int (b2i rv)] (wC ad cy S ++ F) (pIx (kAS S ro le tr jn = 0) (nI (rN S 44 0)) (wC ad cy (sAS S ro le tr jn rv) ++ F)) (pXk ["java/lang/IllegalArgumentException", "java/lang/IllegalStateException"] (kAS S ro le tr jn) (wC ad cy S ++ F)) := by
  refine Ctr.of (by decide) (Nat.le_of_ble_eq_true rfl) ?_
  intro M X hE hN hB9 hI9
  replace X : VX l D M cy cX5_addStep "Runbooker" (some FieldType.int) ({ frames := 12, cells := 8, slots := 48, locals := 400 } : Room) := X
  show V l D M 0 0 (wC ad cy S ++ F) [(0, .ref (ad 0)), (1, .int ro), (2, .int le), (3, .int tr), (4, .int (c2i jn)), (5, .int (b2i rv))] 0 []
  have hW := hI.w
  have hB := hW.b
  have h43 := hW.n43
  have h44 := hW.n44
  have h46 := hW.n46
  have h45 := hW.n45
  have hcl := hW.cl
  have hen := hW.en
  refine V.iload_n X dX5_addStep_0 rfl ?_
  refine V.callS1 [.int ro] X (c_X5_isRole l D cy ad S F ro) ms_X5_isRole gw_2_219 ⟨⟨(Nat.le_of_ble_eq_true rfl), (Nat.le_of_ble_eq_true rfl)⟩, (Nat.le_of_ble_eq_true rfl), (Nat.le_of_ble_eq_true rfl)⟩ rfl (Nat.le_of_ble_eq_true rfl) dX5_addStep_1 ?_
  refine V.if_eq (tgt := 18) X dX5_addStep_4 (by decide) b2i_0 b2i_n0 (fun (hz4 : inR ro 4 = false) => ?_) (fun (hz4 : inR ro 4 = true) => ?_)
  · exact V.thIAE X hE hN gS_88 (.inl ⟨rfl, rfl⟩) dX5_addStep_18 dX5_addStep_21 dX5_addStep_22 dX5_addStep_24 dX5_addStep_27 (Nat.le_of_ble_eq_true rfl) (Nat.le_of_ble_eq_true rfl) (Nat.le_of_ble_eq_true rfl) (Nat.le_of_ble_eq_true rfl) ⟨0, (by simp [kAS, hz4]), rfl, rfl⟩
  · obtain ⟨p, hp, rfl⟩ := inR_of hz4 (by omega)
    have ep : ix (nI p) = p := ix_nI (by omega)
    refine V.iload_n X dX5_addStep_7 rfl ?_
    refine V.iconst (v := nI 1) X dX5_addStep_8 rfl ?_
    refine V.icmp_lt (tgt := 18) X dX5_addStep_9 (by decide) id id (fun (hz9 : le < nI 1) => ?_) (fun (hz9 : ¬ le < nI 1) => ?_)
    · have hb60 : btw le (nI 1) (nI 60) = false := by simp [btw, i32_nle.mpr hz9]
      exact V.thIAE X hE hN gS_88 (.inl ⟨rfl, rfl⟩) dX5_addStep_18 dX5_addStep_21 dX5_addStep_22 dX5_addStep_24 dX5_addStep_27 (Nat.le_of_ble_eq_true rfl) (Nat.le_of_ble_eq_true rfl) (Nat.le_of_ble_eq_true rfl) (Nat.le_of_ble_eq_true rfl) ⟨0, (by simp [kAS, hz4, hp, ep, hb60]), rfl, rfl⟩
    · refine V.iload_n X dX5_addStep_12 rfl ?_
      refine V.bipush (v := nI 60) X dX5_addStep_13 (by decide) ?_
      refine V.icmp_le (tgt := 28) X dX5_addStep_15 (by decide) id id (fun (hz15 : le ≤ nI 60) => ?_) (fun (hz15 : ¬ le ≤ nI 60) => ?_)
      · have hb60 : btw le (nI 1) (nI 60) = true := by simp [btw, i32_nlt.mp hz9, hz15]
        obtain ⟨q, hq1, hq2, rfl⟩ := btw_nat hb60 (by decide) (by decide)
        have eq9 : ix (nI q) = q := ix_nI (by omega)
        refine V.iload_n X dX5_addStep_28 rfl ?_
        refine V.iconst (v := nI 1) X dX5_addStep_29 rfl ?_
        refine V.icmp_lt (tgt := 52) X dX5_addStep_30 (by decide) id id (fun (hz30 : tr < nI 1) => ?_) (fun (hz30 : ¬ tr < nI 1) => ?_)
        · have hb3 : btw tr (nI 1) (nI 3) = false := by simp [btw, i32_nle.mpr hz30]
          exact V.thIAE X hE hN gS_90 (.inl ⟨rfl, rfl⟩) dX5_addStep_52 dX5_addStep_55 dX5_addStep_56 dX5_addStep_58 dX5_addStep_61 (Nat.le_of_ble_eq_true rfl) (Nat.le_of_ble_eq_true rfl) (Nat.le_of_ble_eq_true rfl) (Nat.le_of_ble_eq_true rfl) ⟨0, (by simp [kAS, hz4, hp, ep, hb60, eq9, hb3]), rfl, rfl⟩
        · refine V.iload_n X dX5_addStep_33 rfl ?_
          refine V.iconst (v := nI 3) X dX5_addStep_34 rfl ?_
          refine V.icmp_gt (tgt := 52) X dX5_addStep_35 (by decide) id id (fun (hz35 : nI 3 < tr) => ?_) (fun (hz35 : ¬ nI 3 < tr) => ?_)
          · have hb3 : btw tr (nI 1) (nI 3) = false := by simp [btw, i32_nle.mpr hz35]
            exact V.thIAE X hE hN gS_90 (.inl ⟨rfl, rfl⟩) dX5_addStep_52 dX5_addStep_55 dX5_addStep_56 dX5_addStep_58 dX5_addStep_61 (Nat.le_of_ble_eq_true rfl) (Nat.le_of_ble_eq_true rfl) (Nat.le_of_ble_eq_true rfl) (Nat.le_of_ble_eq_true rfl) ⟨0, (by simp [kAS, hz4, hp, ep, hb60, eq9, hb3]), rfl, rfl⟩
          · have hb3 : btw tr (nI 1) (nI 3) = true := by simp [btw, i32_nlt.mp hz30, i32_nlt.mp hz35]
            obtain ⟨r, hr1, hr2, rfl⟩ := btw_nat hb3 (by decide) (by decide)
            have er9 : ix (nI r) = r := ix_nI (by omega)
            refine V.iload X dX5_addStep_38 rfl ?_
            refine V.bipush (v := nI 97) X dX5_addStep_40 (by decide) ?_
            refine V.icmp_eq (tgt := 62) X dX5_addStep_42 (by decide) (cC_eq (a := jn) (b := 97)) (cC_ne (a := jn) (b := 97)) (fun (hz42 : jn = 97) => ?_) (fun (hz42 : ¬ jn = 97) => ?_)
            · refine V.aload_n X dX5_addStep_62 rfl ?_
              refine V.callVx0 [] X hE hN (c_X5_requireNoRun l D cy ad S F ) mv_X5_requireNoRun gw_2_224 ⟨⟨(Nat.le_of_ble_eq_true rfl), (Nat.le_of_ble_eq_true rfl)⟩, (Nat.le_of_ble_eq_true rfl), (Nat.le_of_ble_eq_true rfl)⟩ (q0 := 0) (ci := 7) rfl rfl rfl (Nat.le_of_ble_eq_true rfl) dX5_addStep_63 (fun E9 w9 h9 => ⟨1, (by simp [kAS, hz4, hp, ep, hb60, eq9, hb3, er9, hz42, h9.1]), (by rw [h9.2.1]; rfl), h9.2.2⟩) (fun hz63 => ?_)
              refine V.aload_n X dX5_addStep_66 rfl ?_
              refine wC_gX5_19 X dX5_addStep_67 ?_
              refine wC_gX5_95 X dX5_addStep_70 ?_
              refine V.bipush (v := nI 16) X dX5_addStep_73 (by decide) ?_
              refine V.icmp_lt (tgt := 88) X dX5_addStep_75 (by decide) (cN_lt (hB.n 44 _) (by decide)) (cN_nlt (hB.n 44 _) (by decide)) (fun (hz75 : rN S 44 0 < 16) => ?_) (fun (hz75 : 16 ≤ rN S 44 0) => ?_)
              · refine V.aload_n X dX5_addStep_88 rfl ?_
                refine wC_gX5_19 X dX5_addStep_89 ?_
                refine V.iload_n X dX5_addStep_92 rfl ?_
                refine V.iload_n X dX5_addStep_93 rfl ?_
                refine V.iload_n X dX5_addStep_94 rfl ?_
                refine V.iload X dX5_addStep_95 rfl ?_
                refine V.iload X dX5_addStep_97 rfl ?_
                refine V.callV1 [.int (nI p), .int (nI q), .int (nI r), .int (c2i jn), .int (b2i rv)] X (c_X3_append l D cy ad S F p q r jn rv (show (rN S 44 0) < 16 by omega)) mv_X3_append gw_2_230 ⟨⟨(Nat.le_of_ble_eq_true rfl), (Nat.le_of_ble_eq_true rfl)⟩, (Nat.le_of_ble_eq_true rfl), (Nat.le_of_ble_eq_true rfl)⟩ (q0 := 2) (ci := 5) rfl rfl rfl (Nat.le_of_ble_eq_true rfl) dX5_addStep_99 ?_
                exact V.iret (v := nI (rN S 44 0)) X hE rfl rfl (Nat.le_of_ble_eq_true rfl) (Nat.le_of_ble_eq_true rfl) ⟨(by simp [kAS, hz4, hp, ep, hb60, eq9, hb3, er9, hz42, hz63, hz75, (Nat.not_le.mpr hz75)]), (congrArg (fun z => some (Value.int z)) (by first | rfl | (simp only [ep, eq9, er9]; done) | simp [hz4, hp, ep, hb60, eq9, hb3, er9, hz42, hz63, hz75, (Nat.not_le.mpr hz75)])), (by first | (simp only [sAS, ep, eq9, er9]; done) | (simp only [sAS, ep, eq9, er9]; rfl) | rfl)⟩ dX5_addStep_102
              · exact V.thISE X hE hN gS_96 (.inl ⟨rfl, rfl⟩) dX5_addStep_78 dX5_addStep_81 dX5_addStep_82 dX5_addStep_84 dX5_addStep_87 (Nat.le_of_ble_eq_true rfl) (Nat.le_of_ble_eq_true rfl) (Nat.le_of_ble_eq_true rfl) (Nat.le_of_ble_eq_true rfl) ⟨1, (by simp [kAS, hz4, hp, ep, hb60, eq9, hb3, er9, hz42, hz63, hz75, (Nat.not_lt.mpr hz75)]), rfl, rfl⟩
            · refine V.iload X dX5_addStep_45 rfl ?_
              refine V.bipush (v := nI 111) X dX5_addStep_47 (by decide) ?_
              refine V.icmp_eq (tgt := 62) X dX5_addStep_49 (by decide) (cC_eq (a := jn) (b := 111)) (cC_ne (a := jn) (b := 111)) (fun (hz49 : jn = 111) => ?_) (fun (hz49 : ¬ jn = 111) => ?_)
              · refine V.aload_n X dX5_addStep_62 rfl ?_
                refine V.callVx0 [] X hE hN (c_X5_requireNoRun l D cy ad S F ) mv_X5_requireNoRun gw_2_224 ⟨⟨(Nat.le_of_ble_eq_true rfl), (Nat.le_of_ble_eq_true rfl)⟩, (Nat.le_of_ble_eq_true rfl), (Nat.le_of_ble_eq_true rfl)⟩ (q0 := 0) (ci := 7) rfl rfl rfl (Nat.le_of_ble_eq_true rfl) dX5_addStep_63 (fun E9 w9 h9 => ⟨1, (by simp [kAS, hz4, hp, ep, hb60, eq9, hb3, er9, hz42, hz49, h9.1]), (by rw [h9.2.1]; rfl), h9.2.2⟩) (fun hz63 => ?_)
                refine V.aload_n X dX5_addStep_66 rfl ?_
                refine wC_gX5_19 X dX5_addStep_67 ?_
                refine wC_gX5_95 X dX5_addStep_70 ?_
                refine V.bipush (v := nI 16) X dX5_addStep_73 (by decide) ?_
                refine V.icmp_lt (tgt := 88) X dX5_addStep_75 (by decide) (cN_lt (hB.n 44 _) (by decide)) (cN_nlt (hB.n 44 _) (by decide)) (fun (hz75 : rN S 44 0 < 16) => ?_) (fun (hz75 : 16 ≤ rN S 44 0) => ?_)
                · refine V.aload_n X dX5_addStep_88 rfl ?_
                  refine wC_gX5_19 X dX5_addStep_89 ?_
                  refine V.iload_n X dX5_addStep_92 rfl ?_
                  refine V.iload_n X dX5_addStep_93 rfl ?_
                  refine V.iload_n X dX5_addStep_94 rfl ?_
                  refine V.iload X dX5_addStep_95 rfl ?_
                  refine V.iload X dX5_addStep_97 rfl ?_
                  refine V.callV1 [.int (nI p), .int (nI q), .int (nI r), .int (c2i jn), .int (b2i rv)] X (c_X3_append l D cy ad S F p q r jn rv (show (rN S 44 0) < 16 by omega)) mv_X3_append gw_2_230 ⟨⟨(Nat.le_of_ble_eq_true rfl), (Nat.le_of_ble_eq_true rfl)⟩, (Nat.le_of_ble_eq_true rfl), (Nat.le_of_ble_eq_true rfl)⟩ (q0 := 2) (ci := 5) rfl rfl rfl (Nat.le_of_ble_eq_true rfl) dX5_addStep_99 ?_
                  exact V.iret (v := nI (rN S 44 0)) X hE rfl rfl (Nat.le_of_ble_eq_true rfl) (Nat.le_of_ble_eq_true rfl) ⟨(by simp [kAS, hz4, hp, ep, hb60, eq9, hb3, er9, hz42, hz49, hz63, hz75, (Nat.not_le.mpr hz75)]), (congrArg (fun z => some (Value.int z)) (by first | rfl | (simp only [ep, eq9, er9]; done) | simp [hz4, hp, ep, hb60, eq9, hb3, er9, hz42, hz49, hz63, hz75, (Nat.not_le.mpr hz75)])), (by first | (simp only [sAS, ep, eq9, er9]; done) | (simp only [sAS, ep, eq9, er9]; rfl) | rfl)⟩ dX5_addStep_102
                · exact V.thISE X hE hN gS_96 (.inl ⟨rfl, rfl⟩) dX5_addStep_78 dX5_addStep_81 dX5_addStep_82 dX5_addStep_84 dX5_addStep_87 (Nat.le_of_ble_eq_true rfl) (Nat.le_of_ble_eq_true rfl) (Nat.le_of_ble_eq_true rfl) (Nat.le_of_ble_eq_true rfl) ⟨1, (by simp [kAS, hz4, hp, ep, hb60, eq9, hb3, er9, hz42, hz49, hz63, hz75, (Nat.not_lt.mpr hz75)]), rfl, rfl⟩
              · exact V.thIAE X hE hN gS_90 (.inl ⟨rfl, rfl⟩) dX5_addStep_52 dX5_addStep_55 dX5_addStep_56 dX5_addStep_58 dX5_addStep_61 (Nat.le_of_ble_eq_true rfl) (Nat.le_of_ble_eq_true rfl) (Nat.le_of_ble_eq_true rfl) (Nat.le_of_ble_eq_true rfl) ⟨0, (by simp [kAS, hz4, hp, ep, hb60, eq9, hb3, er9, hz42, hz49]), rfl, rfl⟩
      · have hb60 : btw le (nI 1) (nI 60) = false := by simp [btw, hz15]
        exact V.thIAE X hE hN gS_88 (.inl ⟨rfl, rfl⟩) dX5_addStep_18 dX5_addStep_21 dX5_addStep_22 dX5_addStep_24 dX5_addStep_27 (Nat.le_of_ble_eq_true rfl) (Nat.le_of_ble_eq_true rfl) (Nat.le_of_ble_eq_true rfl) (Nat.le_of_ble_eq_true rfl) ⟨0, (by simp [kAS, hz4, hp, ep, hb60]), rfl, rfl⟩
