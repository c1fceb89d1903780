/-! ===== rows for the JDK's text methods ===== -/
def r2v : Option Nat → Value
  | none => .null
  | some t => .ref t
def VTab (M : VM) (t : Nat) (f : Nat → Int32) : Prop := match M with | (p, e, R, s, m, args, below, meth, c, A, nL, Q) => va_T .byte t 100 (fun j => .int (f j)) A s s.heap
/-- the private method y of a class that C extends is what a call on a C runs; z: another method of that class, of which the tables say so -/
theorem sel_priv {C : String} {y z : MethodName} {s : State} {args : Array Value} (hz : z.cls = y.cls) (hy : y.cls ≠ "java/lang/invoke/MethodHandle" ∧ y.cls ≠ "java/lang/invoke/VarHandle") (h1 : (Cond.selects C z z).before args s = true) (hpriv : (Cond.privateMethod y).before args s = true) (hinst : (Cond.instanceMethod y).before args s = true) : (Cond.selects C y y).before args s = true := by
  obtain ⟨c, r, m, hc, -, hn, -, k, hk, hni⟩ := Cond.selects_spec h1
  obtain ⟨mk, methM, hnamed, hmethM, -, -⟩ := Cond.instanceMethod_spec hinst
  have hfound : s.methodFound? y.cls y.name y.desc = some mk := State.methodFound?_of_named hnamed hy
  have e1 := findClass_of_methodNamed hn
  have e2 := findClass_of_methodNamed hnamed
  rw [hz] at e1
  have hcls : m.cls = mk.cls := Option.some.inj (e1.symm.trans e2)
  rw [hcls] at hk
  have hsel : selectMethod {} s.vm c mk = .method mk := selectMethod_private hmethM (Cond.privateMethod_at hpriv mk methM hnamed hmethM)
  simp only [Cond.before, Cond.holds, Cond.value, hc, hfound, hnamed, hsel, hk]
  simp; exact hni
theorem inJ0 : ∀ w ∈ u_ws RJ0 TJ0 4, w ∈ lwG := List.forall_mem_cons.mpr ⟨gw_8_40, List.forall_mem_cons.mpr ⟨gw_8_42, List.forall_mem_cons.mpr ⟨gw_8_44, List.forall_mem_cons.mpr ⟨gw_8_46, fun _ h => absurd h List.not_mem_nil⟩⟩⟩⟩
theorem inJ4 : ∀ w ∈ u_ws RJ4 TJ4 4, w ∈ lwG := List.forall_mem_cons.mpr ⟨gw_5_51, List.forall_mem_cons.mpr ⟨gw_5_53, List.forall_mem_cons.mpr ⟨gw_5_55, List.forall_mem_cons.mpr ⟨gw_5_57, fun _ h => absurd h List.not_mem_nil⟩⟩⟩⟩
section VSB
variable {l : Launch} {D : va_G} {M : VM} {cy : Nat → ClassId} {cc : ByteArray} {own : String} {ret : Option FieldType} {rm : Room} {k n : Nat} {Wd : va_W} {L : List (Nat × Value)} {pc : Nat} {st : List Value}
theorem V.ldcw {index : Nat} {v : Int32} (X : VX l D M cy cc own ret rm) (hc : Cond.constant own index v ∈ lwG) (hd : decode cc pc = .ok (.ldc_w index, 3)) (kk : V l D M k n Wd L (pc + 3) (.int v :: st)) : V l D M k n Wd L pc st := by
  obtain ⟨p, e, R, s, m, args, below, meth, c, A, nL, Q⟩ := M
  obtain ⟨hx, hb, hml, ho, hts, hK, hA, hlk, hAm, htr, hrt, rfl⟩ := X
  intro H locs ls hP hD hS hL
  exact lv_ldcw hx hb ho (hts _ hc) hd (kk H locs ls hP hD hS hL)
theorem V.anull (X : VX l D M cy cc own ret rm) (hd : decode cc pc = .ok (.aconst_null, 1)) (kk : V l D M k n Wd L (pc + 1) (.null :: st)) : V l D M k n Wd L pc st := by
  obtain ⟨p, e, R, s, m, args, below, meth, c, A, nL, Q⟩ := M
  obtain ⟨hx, hb, hml, ho, hts, hK, hA, hlk, hAm, htr, hrt, rfl⟩ := X
  intro H locs ls hP hD hS hL
  exact lv_null hx hb hd (kk H locs ls hP hD hS hL)
theorem V.getCS {index : Nat} (X : VX l D M cy cc own ret rm) (hlink : Cond.fieldLink own index "java/lang/String" "COMPACT_STRINGS" "Z" ∈ lwG) (hd : decode cc pc = .ok (.getstatic index, 3)) (kk : V l D M k n Wd L (pc + 3) (.int 1 :: st)) : V l D M k n Wd L pc st := by
  obtain ⟨p, e, R, s, m, args, below, meth, c, A, nL, Q⟩ := M
  obtain ⟨hx, hb, hml, ho, hts, hK, hA, hlk, hAm, htr, hrt, rfl⟩ := X
  intro H locs ls hP hD hS hL
  exact va_gets hx hb hAm.2.2.2.2.1 hS ho (hts _ hlink) (fun _ h => h) hd (kk H locs ls hP hD hS hL)
theorem V.getD1 {index : Nat} (X : VX l D M cy cc own ret rm) (hlink : Cond.fieldLink own index "java/lang/Integer" "DigitOnes" "[B" ∈ lwG) (hd : decode cc pc = .ok (.getstatic index, 3)) (kk : ∀ t : Nat, VTab M t (fun j => nI (48 + j % 10)) → V l D M k n Wd L (pc + 3) (.ref t :: st)) : V l D M k n Wd L pc st := by
  obtain ⟨p, e, R, s, m, args, below, meth, c, A, nL, Q⟩ := M
  obtain ⟨hx, hb, hml, ho, hts, hK, hA, hlk, hAm, htr, hrt, rfl⟩ := X
  intro H locs ls hP hD hS hL
  obtain ⟨t, hz, ht⟩ := hAm.2.2.2.2.2.1
  exact va_gets hx hb hz hS ho (hts _ hlink) (fun _ h => h) hd (kk t ht H locs ls hP hD hS hL)
theorem V.getD2 {index : Nat} (X : VX l D M cy cc own ret rm) (hlink : Cond.fieldLink own index "java/lang/Integer" "DigitTens" "[B" ∈ lwG) (hd : decode cc pc = .ok (.getstatic index, 3)) (kk : ∀ t : Nat, VTab M t (fun j => nI (48 + j / 10)) → V l D M k n Wd L (pc + 3) (.ref t :: st)) : V l D M k n Wd L pc st := by
  obtain ⟨p, e, R, s, m, args, below, meth, c, A, nL, Q⟩ := M
  obtain ⟨hx, hb, hml, ho, hts, hK, hA, hlk, hAm, htr, hrt, rfl⟩ := X
  intro H locs ls hP hD hS hL
  obtain ⟨t, hz, ht⟩ := hAm.2.2.2.2.2.2.1
  exact va_gets hx hb hz hS ho (hts _ hlink) (fun _ h => h) hd (kk t ht H locs ls hP hD hS hL)
theorem V.getFm {index : Nat} (X : VX l D M cy cc own ret rm) (hlink : Cond.fieldLink own index "jdk/internal/util/Preconditions" "SIOOBE_FORMATTER" "Ljava/util/function/BiFunction;" ∈ lwG) (hd : decode cc pc = .ok (.getstatic index, 3)) (kk : ∀ o : Option Nat, V l D M k n Wd L (pc + 3) (r2v o :: st)) : V l D M k n Wd L pc st := by
  obtain ⟨p, e, R, s, m, args, below, meth, c, A, nL, Q⟩ := M
  obtain ⟨hx, hb, hml, ho, hts, hK, hA, hlk, hAm, htr, hrt, rfl⟩ := X
  intro H locs ls hP hD hS hL
  rcases hAm.2.2.2.2.2.2.2 with hz | ⟨t, hz⟩
  · exact va_gets hx hb hz hS ho (hts _ hlink) (fun _ h => h) hd (kk none H locs ls hP hD hS hL)
  · exact va_gets hx hb hz hS ho (hts _ hlink) (fun _ h => h) hd (kk (some t) H locs ls hP hD hS hL)
theorem V.tabb {t : Nat} {f : Nat → Int32} {i v : Int32} (X : VX l D M cy cc own ret rm) (hT : VTab M t f) (hi : vp_in i 100) (hv : f i.toNatClampNeg = v) (hd : decode cc pc = .ok (.baload, 1)) (kk : V l D M k n Wd L (pc + 1) (.int v :: st)) : V l D M k n Wd L pc (.int i :: .ref t :: st) := by
  obtain ⟨p, e, R, s, m, args, below, meth, c, A, nL, Q⟩ := M
  obtain ⟨hx, hb, hml, ho, hts, hK, hA, hlk, hAm, htr, hrt, rfl⟩ := X
  intro H locs ls hP hD hS hL
  exact va_tb hx hb hT hS hi (congrArg Value.int hv) hd (kk H locs ls hP hD hS hL)
/-- Math.min -/
theorem V.mmin {index : Nat} {x y v : Int32} (X : VX l D M cy cc own ret rm) (hlink : Cond.methodLink own index Lib.Math.min.name ∈ lwG) (hstat : Cond.static Lib.Math.min.name ∈ lwG) (hini : Cond.initialized "java/lang/Math" ∈ lwG) (hcode : Cond.code Lib.Math.min.name Lib.Math.min.code 2 (some .int) ∈ lwG)
    (hf : 1 ≤ rm.frames) (hl : (st.map fun v => v.category).sum + 13 ≤ rm.locals) (hk : k ≤ rm.cells) (hs : n ≤ rm.slots) (hd : decode cc pc = .ok (.invokestatic index, 3)) (hv : (if y < x then y else x) = v) (kk : V l D M k n Wd L (pc + 3) (.int v :: st)) : V l D M k n Wd L pc (.int y :: .int x :: st) := by
  obtain ⟨p, e, R, s, m, args, below, meth, c, A, nL, Q⟩ := M
  obtain ⟨hx, hb, hml, ho, hts, hK, hA, hlk, hAm, htr, hrt, rfl⟩ := X
  intro H locs ls hP hD hS hL
  exact va_mmin hx hb (hml.trans hL.1.symm) ho (hts _ hlink) (hts _ hstat) (hts _ hini) (hts _ hcode) hf hl hk hs hd (by rw [hv]; exact kk H locs ls hP hD hS hL)
/-- System.arraycopy of bytes -/
theorem V.acopy {index q0 q1 a0 a1 n0 n1 : Nat} {f g : Nat → Int32} {sp dp cn : Int32} {Wd' : va_W} (X : VX l D M cy cc own ret rm) (hlink : Cond.methodLink own index arraycopyName ∈ lwG) (hnat : Cond.native arraycopyName ∈ lwG) (hstat : Cond.static arraycopyName ∈ lwG) (hini : Cond.initialized "java/lang/System" ∈ lwG)
    (ha0 : Wd[q0]? = some (a0, .inl (cy 3, n0, .inl f))) (ha1 : Wd[q1]? = some (a1, .inl (cy 3, n1, .inl g))) (h1 : ¬ sp < 0) (h2 : ¬ dp < 0) (h3 : ¬ cn < 0) (h4 : sp.toNatClampNeg + cn.toNatClampNeg ≤ n0) (h5 : dp.toNatClampNeg + cn.toNatClampNeg ≤ n1) (hfit : ∀ i, i < cn.toNatClampNeg → fits .byte (.int (f (sp.toNatClampNeg + i))) = true)
    (hf : 1 ≤ rm.frames) (hl : (st.map fun v => v.category).sum + (nativeFrameWords "java/lang/System" "arraycopy" 5 + 11) ≤ rm.locals) (hd : decode cc pc = .ok (.invokestatic index, 3)) (hW : Wd.set q1 (a1, .inl (cy 3, n1, .inl (va_cpy f g sp.toNatClampNeg dp.toNatClampNeg cn.toNatClampNeg))) = Wd')
    (kk : V l D M k n Wd' L (pc + 3) st) : V l D M k n Wd L pc (.int cn :: .int dp :: .ref a1 :: .int sp :: .ref a0 :: st) := by
  subst hW
  obtain ⟨p, e, R, s, m, args, below, meth, c, A, nL, Q⟩ := M
  obtain ⟨hx, hb, hml, ho, hts, hK, hA, hlk, hAm, htr, hrt, rfl⟩ := X
  intro H locs ls hP hD hS hL
  exact va_copyi hx hb (hml.trans hL.1.symm) ho (hts _ hlink) (hts _ hnat) (hts _ hstat) (hts _ hini) hK hP hD hS q0 q1 3 3 ha0 ha1 rfl rfl rfl h1 h2 h3 h4 h5 hfit hf hl hd (fun H1 locs1 hP1 hD1 hS1 => kk H1 locs1 ls hP1 hD1 hS1 hL)
theorem V.widen {k2 n2 : Nat} (h1 : k ≤ k2) (h2 : n ≤ n2) (kk : V l D M k2 n2 Wd L pc st) : V l D M k n Wd L pc st := by
  obtain ⟨p, e, R, s, m, args, below, meth, c, A, nL, Q⟩ := M
  intro H locs ls hP hD hS hL
  exact W.widen h1 h2 (kk H locs ls hP hD hS hL)
/-- a call of x on a C that runs y -/
theorem V.callU {x y : MethodName} {C : String} {bytes : ByteArray} {nLy index a : Nat} {rety : Option FieldType} {rmy : Room} (As : List Value) {post : Option Value → va_W → Prop} {q0 ci : Nat} {fs : List Value} {T : u_T} {N : Nat} {st0 : List Value} {b0 : ByteArray} {m0 : Nat} {r0 : Option FieldType}
    (X : VX l D M cy cc own ret rm) (h : Ctr l D cy y (.code y bytes nLy rety) rmy (.ref a :: As) Wd post pNo) (m1 : Cond.instanceMethod y ∈ lwG) (m2 : Cond.sameMethod x.cls x.cls x.name x.desc ∈ lwG) (m3 : Cond.initialized y.cls ∈ lwG) (m4 : Cond.code y bytes nLy rety ∈ lwG) (m5 : Cond.instanceMethod x ∈ lwG) (m6 : Cond.code x b0 m0 r0 ∈ lwG)
    (hsel : ∀ (args : Array Value) (s : State), (∀ w ∈ lwG, w.before args s = true) → (Cond.selects C x y).before args s = true) (hd9 : x.cls ≠ "java/lang/invoke/MethodHandle" ∧ x.cls ≠ "java/lang/invoke/VarHandle" ∧ (parseMethodDescriptor x.desc).map (fun d => d.parameters.length) = some As.length) (hlink : Cond.methodLink own index x ∈ lwG) (hR : RoomIn rmy rm nLy k n)
    (hg : Wd[q0]? = some (a, .inr (ci, fs))) (hc : vwCl[ci]? = some (C, T, N)) (hst : st0 = As.reverse ++ .ref a :: st) (hcat : (st.map fun v => v.category).sum ≤ 8) (hd : decode cc pc = .ok (.invokevirtual index, 3))
    (kk : ∀ v u, post v u → V l D M (k + rmy.cells) (n + rmy.slots) u L (pc + 3) (v.toList ++ st)) : V l D M k n Wd L pc st0 := by
  obtain ⟨p, e, R, s, m, args, below, meth, c, A, nL, Q⟩ := M
  obtain ⟨hx, hb, hml, ho, hts, hK, hA, hlk, hAm, htr, hrt, rfl⟩ := X
  intro H locs ls hP hD hS hL
  have hin := wA_in hD hS hA
  refine va_callw (va_runU (As := As) (rest := st) (owner := x.cls) (C := C) (x := x) (Ts := lwG) ⟨hx, hb, hml, ho, hts⟩ (h.met htr H.size) ⟨⟨rfl, rfl, hR.1.1, hR.1.2, pay_in hts (lw_gin (lw_cons m4 lw_self)), List.mem_cons_self⟩, hts _ m4, hts _ m3, ⟨hd9.1, hd9.2.1⟩, wParse hd9.2.2, hts _ hlink, hts _ m2, va_Decl.of (hts _ m5) (hts _ m6), hsel _ _ hts, hts _ m1⟩
    ⟨wPre_blind, va_recv hK hP hc hg, fun U hU hW => ⟨rfl, wPre_at hP hD hS hA hK hAm hU hW⟩⟩ rfl rfl hL.1 hst (lv_room hcat) hd hR.2) hS (fun q _ h => hin q h) hin ?_
  intro v u H1 locs1 h1 h2 h3 h4
  exact kk v u h1 H1 locs1 ls h2 (h3.weaken (fun _ q _ h => hin q.1 h)) h4 hL
/-- super.y(..) -/
theorem V.callSU {y : MethodName} {C : String} {bytes : ByteArray} {nLy index a : Nat} {rety : Option FieldType} {rmy : Room} (As : List Value) {post : Option Value → va_W → Prop} {q0 ci : Nat} {fs : List Value} {T : u_T} {N : Nat} {st0 : List Value}
    (X : VX l D M cy cc own ret rm) (h : Ctr l D cy y (.code y bytes nLy rety) rmy (.ref a :: As) Wd post pNo) (m1 : Cond.instanceMethod y ∈ lwG) (m2 : Cond.sameMethod y.cls y.cls y.name y.desc ∈ lwG) (m3 : Cond.initialized y.cls ∈ lwG) (m4 : Cond.code y bytes nLy rety ∈ lwG) (m5 : Cond.superclass own y.cls ∈ lwG)
    (hd9 : y.name ≠ "<init>" ∧ (parseMethodDescriptor y.desc).map (fun d => d.parameters.length) = some As.length) (hlink : Cond.methodLink own index y ∈ lwG) (hR : RoomIn rmy rm nLy k n)
    (hg : Wd[q0]? = some (a, .inr (ci, fs))) (hc : vwCl[ci]? = some (C, T, N)) (hst : st0 = As.reverse ++ .ref a :: st) (hcat : (st.map fun v => v.category).sum ≤ 8) (hd : decode cc pc = .ok (.invokespecial index, 3))
    (kk : ∀ v u, post v u → V l D M (k + rmy.cells) (n + rmy.slots) u L (pc + 3) (v.toList ++ st)) : V l D M k n Wd L pc st0 := by
  obtain ⟨p, e, R, s, m, args, below, meth, c, A, nL, Q⟩ := M
  obtain ⟨hx, hb, hml, ho, hts, hK, hA, hlk, hAm, htr, hrt, rfl⟩ := X
  intro H locs ls hP hD hS hL
  have hin := wA_in hD hS hA
  refine va_callw (va_runSU (As := As) (rest := st) (C := C) (Ts := lwG) (hK.1 ci _ hc).2 ⟨hx, hb, hml, ho, hts⟩ (h.met htr H.size) ⟨⟨rfl, rfl, hR.1.1, hR.1.2, pay_in hts (lw_gin (lw_cons m4 lw_self)), List.mem_cons_self⟩, hts _ hlink, hts _ m2, hts _ m5, hts _ m1, hts _ m3, hts _ m4, hd9.1, wParse hd9.2⟩
    ⟨wPre_blind, va_recv hK hP hc hg, fun U hU hW => ⟨rfl, wPre_at hP hD hS hA hK hAm hU hW⟩⟩ rfl rfl hL.1 hst (lv_room hcat) hd hR.2) hS (fun q _ h => hin q h) hin ?_
  intro v u H1 locs1 h1 h2 h3 h4
  exact kk v u h1 H1 locs1 ls h2 (h3.weaken (fun _ q _ h => hin q.1 h)) h4 hL
end VSB
/-- a call that answers a reference or a number: its post, and the world behind -/
def pV (v : Value) (u : va_W) : Option Value → va_W → Prop := fun v9 w9 => v9 = some v ∧ w9 = u
/-- a StringBuilder of n letters t, room for 16 -/
def wB (cy : Nat → ClassId) (q b n : Nat) (t : Nat → Nat) : va_W := [(q, .inr (1, [.ref b, .int 0, .int 0, .int (nI n)])), (b, .inl (cy 3, 16, .inl (fun j => nI (t j))))]
/-- how many digits v < 100 has; v's digits at n -/
def dg (v : Nat) : Nat := if v < 10 then 1 else 2
def apI (t : Nat → Nat) (n v : Nat) : Nat → Nat := if v < 10 then up1 t n (48 + v % 10) else up1 (up1 t (n + 1) (48 + v % 10)) n (48 + v / 10)
theorem dg_t {v : Nat} (h : v < 10) : dg v = 1 := if_pos h
theorem dg_f {v : Nat} (h : ¬ v < 10) : dg v = 2 := if_neg h
theorem dg_le (v : Nat) : 1 ≤ dg v ∧ dg v ≤ 2 := by unfold dg; split <;> omega
theorem apI_lt {t : Nat → Nat} (h : ∀ j, t j < 128) {n v : Nat} (hv : v < 100) : ∀ j, apI t n v j < 128 := by
  unfold apI
  split
  · exact up1_lt h (by omega)
  · exact up1_lt (up1_lt h (by omega)) (by omega)
theorem nar_by : ∀ c, c < 128 → vp_nar .byte (nI c) = nI c := by decide +kernel
theorem nar_b3 : ∀ c, c < 128 → fits .byte (.int (nI c)) = true := by decide +kernel
theorem i2b_by : ∀ c, c < 128 → (nI c).toInt8.toInt32 = nI c := by decide +kernel
theorem and255 : ∀ c, c < 128 → nI c &&& nI 255 = nI c := by decide +kernel
theorem i2c_by : ∀ c, c < 128 → ((nI c).toUInt32 % 65536).toInt32 = nI c := by decide +kernel
theorem nar_ch : ∀ c, c < 128 → narrow .char (.int (nI c)) = .int (nI c) := by decide +kernel
theorem sub16 : ∀ c, c < 17 → nI c - nI 16 ≤ 0 := by decide +kernel
theorem ss_1 : ∀ v, v < 10 → ¬ -nI v ≤ -10 := by decide +kernel
theorem ss_2 : ∀ v, v < 100 → ¬ v < 10 → -nI v ≤ -10 := by decide +kernel
theorem ss_3 : ∀ v, v < 100 → ¬ -nI v ≤ -100 := by decide +kernel
theorem gc_1 : ∀ v, v < 100 → -100 < -nI v := by decide +kernel
theorem gc_2 : ∀ v, v < 10 → -9 ≤ -nI v := by decide +kernel
theorem gc_3 : ∀ v, v < 100 → ¬ v < 10 → ¬ -9 ≤ -nI v := by decide +kernel
theorem ge0 : ∀ v, v < 100 → 0 ≤ nI v := by decide +kernel
theorem dec1 : ∀ a, a < 17 → 1 ≤ a → nI a + Int32.ofInt (-1) = nI (a - 1) := by decide +kernel
theorem ce_1 : ∀ c, c < 128 → ¬ nI 255 < nI c := by decide +kernel
theorem min_1 : ∀ n, n < 17 → (if nI 16 < nI n then nI 16 else nI n) = nI n := by decide +kernel
theorem min_2 : ∀ n, n < 17 → (if nI n < nI 16 then nI n else nI 16) = nI n := by decide +kernel
theorem le_0 : ∀ n, n < 17 → nI 0 ≤ nI n := by decide +kernel
theorem sub_0 : ∀ n, n < 17 → nI n - nI 0 = nI n := by decide +kernel
theorem ne_16 : ∀ n, n < 16 → ¬ nI n = nI 16 := by decide +kernel
theorem shr_0 : ∀ n, n < 17 → nI n >>> ((0 : Int32) &&& 31) = nI n := by decide +kernel
/-- what a text's copy holds -/
def gS (n : Nat) (t : Nat → Nat) : Nat → Int32 := fun j => if j < n then nI (t j) else 0
theorem gS_lt {n : Nat} {t : Nat → Nat} {j : Nat} (h : j < n) : gS n t j = nI (t j) := if_pos h
theorem cpy_gS {n : Nat} (t : Nat → Nat) (h : n < 17) : va_cpy (fun j => nI (t j)) (fun _ => 0) (nI 0).toNatClampNeg (nI 0).toNatClampNeg (nI n).toNatClampNeg = gS n t := by
  rw [nI_clamp (show n < 2147483648 by omega), nI_clamp (show 0 < 2147483648 by decide)]
  funext k
  unfold va_cpy gS
  by_cases h2 : k < n
  · rw [if_pos ⟨Nat.zero_le _, by omega⟩, if_pos h2, Nat.sub_zero, Nat.zero_add]
  · rw [if_neg (fun h => h2 (by omega)), if_neg h2]
/-- a String of n letters t -/
def wS (cy : Nat → ClassId) (z a n : Nat) (t : Nat → Nat) : va_W := [(z, .inr (0, [.ref a, .int 0, .int 0, .int 0])), (a, .inl (cy 3, n, .inl (gS n t)))]
theorem wB_st {l : Launch} {D : va_G} {M : VM} {cy : Nat → ClassId} {cc : ByteArray} {own : String} {ret : Option FieldType} {rm : Room} {k n : Nat} {L : List (Nat × Value)} {pc : Nat} {st : List Value} {q b m : Nat} {t : Nat → Nat} {F : va_W} (X : VX l D M cy cc own ret rm) {i c : Nat} (hi : i < 16) (hc : c < 128) (hd : decode cc pc = .ok (.bastore, 1)) (kk : V l D M k n (wB cy q b m (up1 t i c) ++ F) L (pc + 1) st) : V l D M k n (wB cy q b m t ++ F) L pc (.int (nI c) :: .int (nI i) :: .ref b :: st) :=
  V.bast (q0 := 1) (N := 16) (f := fun j => nI (t j)) X rfl (vp_in_nI hi (Nat.le_of_ble_eq_true rfl)) hd (by rw [nI_clamp (Nat.lt_trans hi (Nat.le_of_ble_eq_true rfl)), nar_by c hc]; rw [upd_up1 nI t i c]; rfl) kk
theorem wB_ld {l : Launch} {D : va_G} {M : VM} {cy : Nat → ClassId} {cc : ByteArray} {own : String} {ret : Option FieldType} {rm : Room} {k n : Nat} {L : List (Nat × Value)} {pc : Nat} {st : List Value} {q b m : Nat} {t : Nat → Nat} {F : va_W} (X : VX l D M cy cc own ret rm) {i : Nat} (hi : i < 16) (hd : decode cc pc = .ok (.baload, 1)) (kk : V l D M k n (wB cy q b m t ++ F) L (pc + 1) (.int (nI (t i)) :: st)) : V l D M k n (wB cy q b m t ++ F) L pc (.int (nI i) :: .ref b :: st) :=
  V.bald (q0 := 1) (N := 16) (f := fun j => nI (t j)) X rfl (vp_in_nI hi (Nat.le_of_ble_eq_true rfl)) hd (congrArg (fun j => nI (t j)) (nI_clamp (Nat.lt_trans hi (Nat.le_of_ble_eq_true rfl)))) kk
theorem neg2 (x : Int32) : -(-x) = x := Int32.neg_neg
