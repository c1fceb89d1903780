/-! ===== what is the same in all calls of the law ===== -/
theorem pm_AB {C M : va_W} {x y : Nat × va_E} : (M ++ (C ++ [x, y])).Perm (C ++ x :: y :: M) := by
  have h : (M ++ (C ++ [x, y])).Perm ((C ++ [x, y]) ++ M) := List.perm_append_comm
  rw [List.append_assoc] at h
  exact h
theorem pm_sw {C M : va_W} {x y : Nat × va_E} : (C ++ y :: x :: M).Perm (C ++ x :: y :: M) := List.Perm.append_left C (List.Perm.swap _ _ _)
theorem out0 {k : Nat} {f : Nat → Int64} {x : Int64} (h : k = 0) : (if k = 0 then vp_updL f 0 x else f) 0 = x := by
  rw [if_pos h]; simp [vp_updL]
theorem outD0 {k : Nat} {f : Nat → UInt64} {x : UInt64} (h : k = 0) : (if k = 0 then vf_upd f 0 x else f) 0 = x := by
  rw [if_pos h]; simp [vf_upd]
theorem b2l_r (b : Bool) : b2l b = (if b2i b = 0 then 0 else 1) := by cases b <;> decide
theorem lcmp_self {x y : Int64} (h : x = y) : lg_cmp x y = 0 := by
  subst h
  unfold lg_cmp
  rw [if_neg (by simp [Int64.lt_iff_toInt_lt]), if_pos rfl]
theorem dz9 : ∀ a : Fin 17, ∀ b : Fin 17, Op.cmpValue (FP.dcmp (FP.f2d (FP.fdiv (FP.i2f (nI a.val)) (FP.i2f (nI (max 1 b.val))))) (FP.f2d (FP.fdiv (FP.i2f (nI a.val)) (FP.i2f (nI (max 1 b.val)))))) .l = 0 := by decide +kernel
theorem mz9 : ∀ a : Fin 49, ∀ b : Fin 17, Op.cmpValue (FP.dcmp (FP.ddiv (FP.i2d (nI a.val)) (FP.i2d (nI (max 1 b.val)))) (FP.ddiv (FP.i2d (nI a.val)) (FP.i2d (nI (max 1 b.val))))) .l = 0 := by decide +kernel
theorem share_z {S : St} (hI : Inv S) : Op.cmpValue (FP.dcmp (FP.f2d (FP.fdiv (FP.i2f (nI (rN S 45 0))) (FP.i2f (nI (max 1 (rN S 46 0)))))) (FP.f2d (FP.fdiv (FP.i2f (nI (rN S 45 0))) (FP.i2f (nI (max 1 (rN S 46 0))))))) .l = 0 := by
  have h1 := hI.w.n45
  have h2 := hI.w.n46
  have h3 := hI.w.n44
  exact dz9 ⟨rN S 45 0, by omega⟩ ⟨rN S 46 0, by omega⟩
theorem mean_z {S : St} (hI : Inv S) : Op.cmpValue (FP.dcmp (FP.ddiv (FP.i2d (nI (sum9 (rN S 25) (rN S 46 0)))) (FP.i2d (nI (max 1 (rN S 46 0))))) (FP.ddiv (FP.i2d (nI (sum9 (rN S 25) (rN S 46 0)))) (FP.i2d (nI (max 1 (rN S 46 0)))))) .l = 0 := by
  have h2 := hI.w.n46
  have h3 := hI.w.n44
  have h7 := sum9_le hI.w.tr (rN S 46 0)
  exact mz9 ⟨sum9 (rN S 25) (rN S 46 0), by omega⟩ ⟨rN S 46 0, by omega⟩
theorem wC_U {ad : Nat → Nat} {cy : Nat → ClassId} {T T2 T3 S : St} {k : Nat} (h0 : k = 0 → T = T2) (hx : k ≠ 0 → T = S) (e : wC ad cy T2 = wC ad cy T3) : wC ad cy T = wC ad cy (sN (bif Nat.beq k 0 then T3 else S) 62 (fun _ => k)) := by
  cases k with
  | zero => rw [h0 rfl, e]; rfl
  | succ k => rw [hx (Nat.succ_ne_zero _)]; rfl
theorem wC_U0 {ad : Nat → Nat} {cy : Nat → ClassId} {T T2 T3 S : St} {k : Nat} (h0 : k = 0 → T = T2) (hx : k ≠ 0 → T = sN S 62 (fun _ => 0)) (e : wC ad cy T2 = wC ad cy T3) : wC ad cy T = wC ad cy (sN (bif Nat.beq k 0 then T3 else S) 62 (fun _ => k)) := by
  cases k with
  | zero => rw [h0 rfl, e]; rfl
  | succ k => rw [hx (Nat.succ_ne_zero _)]; rfl
theorem wC_60 (ad : Nat → Nat) (cy : Nat → ClassId) (S : St) (f : Nat → Option Nat) : wC ad cy S = wC ad cy (sO S 60 f) := rfl
theorem wC_61 (ad : Nat → Nat) (cy : Nat → ClassId) (S : St) (f : Nat → Bool) : wC ad cy S = wC ad cy (sB S 61 f) := rfl
theorem wC_64 (ad : Nat → Nat) (cy : Nat → ClassId) (S : St) (f : Nat → UInt16) : wC ad cy S = wC ad cy (sC S 64 f) := rfl
theorem wC_jn (ad : Nat → Nat) (cy : Nat → ClassId) (A B : St) : wC ad cy B = wC ad cy (jn9 A B) := rfl
theorem wC_fn (ad : Nat → Nat) (cy : Nat → ClassId) (S : St) (x : Int32) (b : Bool) : wC ad cy (sFN S x b) = wC ad cy (sFX S x b) := by
  cases b
  · exact wC_jn ad cy _ _
  · exact wC_64 ad cy _ _
theorem T_eq {T S : St} {k : Nat} (h0 : k = 0 → T = S) (hx : k ≠ 0 → T = S) : T = S := by
  by_cases h : k = 0
  · exact h0 h
  · exact hx h
theorem T_scr {T S : St} {k : Nat} (h0 : k = 0 → ∃ g : Nat → Nat, (∀ j, g j < 1000000) ∧ T = sN S 21 g) (hx : k ≠ 0 → ∃ g : Nat → Nat, (∀ j, g j < 1000000) ∧ T = sN S 21 g) : ∃ g : Nat → Nat, (∀ j, g j < 1000000) ∧ T = sN S 21 g := by
  by_cases h : k = 0
  · exact h0 h
  · exact hx h
/-- the law's locals -/
def LL (b x m o od i6 : Nat) : List (Nat × Value) := [(5, .int (nI i6)), (0, .ref b), (1, .ref x), (2, .ref m), (3, .ref o), (4, .ref od)]
/-- what holds where the law begins a call -/
def LC (l : Launch) (D : va_G) (M : VM) (cy : Nat → ClassId) (ad am : Nat → Nat) (o od b Ln : Nat) (xs : Nat → Int32) (i6 c : Nat) (S : St) (K N : Nat) : Prop :=
  VX l D M cy cL_law "RunbookerLaw" ret room_1 ∧ VNc M ∧ VB M 9 ∧ VScr M b Ln xs ∧ i6 + 5 < Ln ∧ Ln ≤ 3072 ∧ OKs S c ∧ c < 512 ∧ K + 64 ≤ 601024 ∧ N + 1024 ≤ 7293034 ∧
  ∀ (S9 : St) (f9 : Nat → Int64) (g9 : Nat → UInt64) (k n : Nat), OKs S9 (c + 1) → k ≤ K + 64 → n ≤ N + 1024 → V l D M k n (wC ad cy S9 ++ cL9 cy o f9 :: cD9 cy od g9 :: wM am cy S9) (LL b (ad 0) (am 0) o od i6) 3010 []
/-- the way back to the loop -/
theorem LC.go {l : Launch} {D : va_G} {M : VM} {cy : Nat → ClassId} {ad am : Nat → Nat} {o od b : Nat} {i6 c : Nat} {K N : Nat} (next : ∀ (S9 : St) (f9 : Nat → Int64) (g9 : Nat → UInt64) (k n : Nat), OKs S9 (c + 1) → k ≤ K + 64 → n ≤ N + 1024 → V l D M k n (wC ad cy S9 ++ cL9 cy o f9 :: cD9 cy od g9 :: wM am cy S9) (LL b (ad 0) (am 0) o od i6) 3010 [])
    {T U S9 : St} {f9 : Nat → Int64} {g9 : Nat → UInt64} {k n : Nat} (hT : wC ad cy T = wC ad cy S9) (hU : wM am cy U = wM am cy S9) (hS : OKs S9 (c + 1)) (hk : k ≤ K + 64) (hn : n ≤ N + 1024) : V l D M k n (wM am cy U ++ (wC ad cy T ++ [cL9 cy o f9, cD9 cy od g9])) (LL b (ad 0) (am 0) o od i6) 3010 [] := by
  rw [hT, hU]
  exact V.perm (Wd' := wC ad cy S9 ++ cL9 cy o f9 :: cD9 cy od g9 :: wM am cy S9) pm_AB.symm (next S9 f9 g9 k n hS hk hn)
section VTL
variable {l : Launch} {D : va_G} {M : VM} {cy : Nat → ClassId} {rm : Room} {k n : Nat} {L : List (Nat × Value)} {p0 : Nat} {am : Nat → Nat} {U : St} {F : va_W} {kx o q0 : Nat} {r9 : Int32} {fo : Nat → Int64}
/-- thrown() against k, then the answers, as numbers -/
theorem tailI {z : Int} (X : VX l D M cy cL_law "RunbookerLaw" ret rm) (h2 : lk L 2 = some (.ref (am 0))) (h3 : lk L 3 = some (.ref o)) (h6 : lk L 6 = some (.int (nI kx))) (h7 : lk L 7 = some (.int r9)) (hth : rN U 62 0 = kx) (hkx : kx < 2147483648) (hg : (wM am cy U ++ F)[q0]? = some (cL9 cy o fo)) (hcmp : kx = 0 → fo 0 = r9.toInt64) (hf : 1 ≤ rm.frames) (hl : 20 ≤ rm.locals) (hk : k ≤ rm.cells) (hn : n ≤ rm.slots)
    (d0 : decode cL_law p0 = .ok (.aload_n 2, 1)) (d1 : decode cL_law (p0 + 1) = .ok (.invokevirtual 168, 3)) (d4 : decode cL_law (p0 + 4) = .ok (.iload 6, 2)) (d6 : decode cL_law (p0 + 6) = .ok (.if_icmp .eq 5, 3)) (d11 : decode cL_law (p0 + 11) = .ok (.iload 6, 2)) (d13 : decode cL_law (p0 + 13) = .ok (.ifCond .ne 15, 3)) (d16 : decode cL_law (p0 + 16) = .ok (.aload_n 3, 1)) (d17 : decode cL_law (p0 + 17) = .ok (.iconst 0, 1)) (d18 : decode cL_law (p0 + 18) = .ok (.laload, 1)) (d19 : decode cL_law (p0 + 19) = .ok (.iload 7, 2)) (d21 : decode cL_law (p0 + 21) = .ok (.i2l, 1)) (d22 : decode cL_law (p0 + 22) = .ok (.lcmp, 1)) (d23 : decode cL_law (p0 + 23) = .ok (.ifCond .eq 5, 3)) (d28 : decode cL_law (p0 + 28) = .ok (.goto z, 3)) (hz : ((p0 + 28 : Nat) : Int) + z = ((3010 : Nat) : Int))
    (kk : V l D M k n (wM am cy U ++ F) L 3010 []) : V l D M k n (wM am cy U ++ F) L p0 [] := by
  have e : V l D M k n (wM am cy U ++ F) L (p0 + 28) [] := V.goto (tgt := 3010) X d28 hz kk
  refine V.aload_n X d0 (show lk L ((2 : Fin 4) : Nat) = _ from h2) ?_
  refine V.callV1 [] X (c_X6_thrown l D cy am U F) mv_X6_thrown gw_6_121 ⟨⟨hf, hl⟩, hk, hn⟩ (q0 := 0) (ci := 8) rfl rfl rfl (Nat.le_of_ble_eq_true rfl) d1 ?_
  refine V.iload X d4 h6 ?_
  refine V.icmp_eq (tgt := p0 + 11) X d6 (by omega) id id (fun _ => ?_) (fun h9 => absurd (by rw [hth]) h9)
  refine V.iload X d11 h6 ?_
  refine V.if_ne (tgt := p0 + 28) X d13 (by omega) id id (fun _ => e) (fun h9 => ?_)
  have hk0 : kx = 0 := (nI_eq hkx (by decide)).mp h9
  refine V.aload_n X d16 (show lk L ((3 : Fin 4) : Nat) = _ from h3) ?_
  refine V.iconst (v := nI 0) X d17 rfl ?_
  refine V.lald (q0 := q0) (N := 1) (f := fo) (v := fo 0) X hg (vp_in_nI (by decide) (by decide)) d18 (by rw [nI_clamp (by decide)]) ?_
  refine V.iload X d19 h7 ?_
  refine V.i2l (v := r9.toInt64) X d21 rfl ?_
  refine V.lcmp (v := 0) X d22 (lcmp_self (hcmp hk0)) ?_
  exact V.if_eq (tgt := p0 + 28) X d23 (by omega) id id (fun _ => e) (fun h9 => absurd rfl h9)
/-- .. as booleans -/
theorem tailB {z : Int} (X : VX l D M cy cL_law "RunbookerLaw" ret rm) (h2 : lk L 2 = some (.ref (am 0))) (h3 : lk L 3 = some (.ref o)) (h6 : lk L 6 = some (.int (nI kx))) (h7 : lk L 7 = some (.int r9)) (hth : rN U 62 0 = kx) (hkx : kx < 2147483648) (hg : (wM am cy U ++ F)[q0]? = some (cL9 cy o fo)) (hcmp : kx = 0 → fo 0 = (if r9 = 0 then 0 else 1)) (hf : 1 ≤ rm.frames) (hl : 20 ≤ rm.locals) (hk : k ≤ rm.cells) (hn : n ≤ rm.slots)
    (d0 : decode cL_law p0 = .ok (.aload_n 2, 1)) (d1 : decode cL_law (p0 + 1) = .ok (.invokevirtual 168, 3)) (d4 : decode cL_law (p0 + 4) = .ok (.iload 6, 2)) (d6 : decode cL_law (p0 + 6) = .ok (.if_icmp .eq 5, 3)) (d11 : decode cL_law (p0 + 11) = .ok (.iload 6, 2)) (d13 : decode cL_law (p0 + 13) = .ok (.ifCond .ne 22, 3)) (d16 : decode cL_law (p0 + 16) = .ok (.aload_n 3, 1)) (d17 : decode cL_law (p0 + 17) = .ok (.iconst 0, 1)) (d18 : decode cL_law (p0 + 18) = .ok (.laload, 1)) (d19 : decode cL_law (p0 + 19) = .ok (.iload 7, 2)) (d21 : decode cL_law (p0 + 21) = .ok (.ifCond .eq 7, 3)) (d24 : decode cL_law (p0 + 24) = .ok (.lconst 1, 1)) (d25 : decode cL_law (p0 + 25) = .ok (.goto 4, 3)) (d28 : decode cL_law (p0 + 28) = .ok (.lconst 0, 1)) (d29 : decode cL_law (p0 + 29) = .ok (.lcmp, 1)) (d30 : decode cL_law (p0 + 30) = .ok (.ifCond .eq 5, 3)) (d35 : decode cL_law (p0 + 35) = .ok (.goto z, 3)) (hz : ((p0 + 35 : Nat) : Int) + z = ((3010 : Nat) : Int))
    (kk : V l D M k n (wM am cy U ++ F) L 3010 []) : V l D M k n (wM am cy U ++ F) L p0 [] := by
  have e : V l D M k n (wM am cy U ++ F) L (p0 + 35) [] := V.goto (tgt := 3010) X d35 hz kk
  have e2 : ∀ y : Int64, fo 0 = y → V l D M k n (wM am cy U ++ F) L (p0 + 29) [.long y, .long (fo 0)] := fun y hy =>
    V.lcmp (v := 0) X d29 (lcmp_self hy) (V.if_eq (tgt := p0 + 35) X d30 (by omega) id id (fun _ => e) (fun h9 => absurd rfl h9))
  refine V.aload_n X d0 (show lk L ((2 : Fin 4) : Nat) = _ from h2) ?_
  refine V.callV1 [] X (c_X6_thrown l D cy am U F) mv_X6_thrown gw_6_121 ⟨⟨hf, hl⟩, hk, hn⟩ (q0 := 0) (ci := 8) rfl rfl rfl (Nat.le_of_ble_eq_true rfl) d1 ?_
  refine V.iload X d4 h6 ?_
  refine V.icmp_eq (tgt := p0 + 11) X d6 (by omega) id id (fun _ => ?_) (fun h9 => absurd (by rw [hth]) h9)
  refine V.iload X d11 h6 ?_
  refine V.if_ne (tgt := p0 + 35) X d13 (by omega) id id (fun _ => e) (fun h9 => ?_)
  have hk0 : kx = 0 := (nI_eq hkx (by decide)).mp h9
  have hc := hcmp hk0
  refine V.aload_n X d16 (show lk L ((3 : Fin 4) : Nat) = _ from h3) ?_
  refine V.iconst (v := nI 0) X d17 rfl ?_
  refine V.lald (q0 := q0) (N := 1) (f := fo) (v := fo 0) X hg (vp_in_nI (by decide) (by decide)) d18 (by rw [nI_clamp (by decide)]) ?_
  refine V.iload X d19 h7 ?_
  refine V.if_eq (tgt := p0 + 28) X d21 (by omega) id id (fun h8 => ?_) (fun h8 => ?_)
  · exact V.lconst (v := 0) X d28 rfl (e2 0 (by rw [hc, if_pos h8]))
  · exact V.lconst (v := 1) X d24 rfl (V.goto (tgt := p0 + 29) X d25 (by omega) (e2 1 (by rw [hc, if_neg h8])))
end VTL
