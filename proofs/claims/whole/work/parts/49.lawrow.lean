/-! ===== the law: methods with tables, the script, the outs ===== -/
/-- pairs of exceptions of which the first isn't a second -/
def ncL : List (String × String) := [("java/lang/IllegalArgumentException", "java/lang/IllegalStateException"), ("java/lang/IllegalArgumentException", "java/lang/IndexOutOfBoundsException"), ("java/lang/IllegalArgumentException", "java/lang/UnsupportedOperationException"), ("java/lang/IllegalArgumentException", "java/util/NoSuchElementException"), ("java/lang/IllegalStateException", "java/lang/IllegalArgumentException"), ("java/lang/IllegalStateException", "java/lang/IndexOutOfBoundsException"), ("java/lang/IllegalStateException", "java/lang/UnsupportedOperationException"), ("java/lang/IllegalStateException", "java/util/NoSuchElementException"), ("java/lang/IndexOutOfBoundsException", "java/lang/IllegalArgumentException"), ("java/lang/IndexOutOfBoundsException", "java/lang/IllegalStateException"), ("java/lang/IndexOutOfBoundsException", "java/lang/UnsupportedOperationException"), ("java/lang/IndexOutOfBoundsException", "java/util/NoSuchElementException"), ("java/lang/UnsupportedOperationException", "java/lang/IllegalArgumentException"), ("java/lang/UnsupportedOperationException", "java/lang/IllegalStateException"), ("java/lang/UnsupportedOperationException", "java/lang/IndexOutOfBoundsException"), ("java/lang/UnsupportedOperationException", "java/util/NoSuchElementException"), ("java/util/NoSuchElementException", "java/lang/IllegalArgumentException"), ("java/util/NoSuchElementException", "java/lang/IllegalStateException"), ("java/util/NoSuchElementException", "java/lang/IndexOutOfBoundsException"), ("java/util/NoSuchElementException", "java/lang/UnsupportedOperationException")]
def Nc9 (U : State) : Prop := ∀ q ∈ ncL, va_Nc q.1 q.2 U
theorem Nc9.moved {u U : State} (hvm : u.vm.Alike U.vm) (h : Nc9 u) : Nc9 U := fun q hq => va_Nc.moved hvm (h q hq)
def VNc (M : VM) : Prop := match M with | (p, e, R, s, m, args, below, meth, c, A, nL, Q) => Nc9 s
def VTb (M : VM) (hh : List (Nat × Nat × Nat × Nat)) : Prop := match M with | (p, e, R, s, m, args, below, meth, c, A, nL, Q) => c.exceptionTable.toList = tableOf hh
/-- the script's cell -/
def VScr (M : VM) (b Ln : Nat) (xs : Nat → Int32) : Prop := match M with | (p, e, R, s, m, args, below, meth, c, A, nL, Q) => va_X b Ln xs s s.heap ∧ b < s.heap.size ∧ ¬ A b
/-- a contract of a method with a table, that never throws -/
def CtrH (l : Launch) (D : va_G) (cy : Nat → ClassId) (y : MethodName) (cd : Cond) (rm : Room) (av : List Value) (Wd : va_W) (post : Option Value → va_W → Prop) : Prop :=
  l.stackTraces = false → ∀ sz : Nat, Met l y (cd :: lwG) rm (va_Pc av (fun U => wPre D cy Wd sz U ∧ Nc9 U)) (wQ D (va_A Wd sz) post) rm.cells rm.slots (va_A Wd sz)
theorem wPreN_blind {D : va_G} {cy : Nat → ClassId} {av : List Value} {Wd : va_W} {sz : Nat} : FrameBlind (va_Pc av (fun U => wPre D cy Wd sz U ∧ Nc9 U)) := by
  intro a U g mk h
  obtain ⟨h0, h1, h2⟩ := h
  obtain ⟨-, h3⟩ := wPre_blind (av := av) a U g mk ⟨h0, h1⟩
  exact ⟨h0, h3, Nc9.moved (u := U) (U := U.calling g mk a) (Vm.Alike.refl U.vm) h2⟩
theorem CtrH.of {l : Launch} {D : va_G} {cy : Nat → ClassId} {y : MethodName} {cc : ByteArray} {nL : Nat} {ret : Option FieldType} {hh : List (Nat × Nat × Nat × Nat)} {rm : Room} {av : List Value} {Wd : va_W} {post : Option Value → va_W → Prop}
    (hy : plainName y.cls = true) (hlen : (lg_sl av).length ≤ nL)
    (body : ∀ M : VM, VX l D M cy cc y.cls ret rm → EQ9 D M post pNo rm → VTb M hh → VNc M → VB M nL → V l D M 0 0 Wd (lv_args 0 av) 0 []) : CtrH l D cy y (.codeWith y cc nL ret hh) rm av Wd post := by
  intro htr sz
  have hM : vx_Met l y (Cond.codeWith y cc nL ret hh :: lwG) rm (va_Pc av (fun U => wPre D cy Wd sz U ∧ Nc9 U)) (wQ D (va_A Wd sz) post) (wX D (va_A Wd sz) pNo) rm.cells rm.slots (va_A Wd sz) := by
    refine vx_ofWH (cc := cc) (maxL := nL) (ret := ret) (hh := hh) hy rfl ?_
    intro p e s m args below meth c s₁ B hml hv
    obtain ⟨rfl, ⟨hsz, hP, hK, hD0, hA⟩, hNc⟩ := hv
    have hts0 := atoms_spec (ws := Cond.codeWith y cc nL ret hh :: lwG) B.pre
    have hts : ∀ w ∈ lwG, w.before av.toArray s = true := fun w hw => hts0 w (List.mem_cons_of_mem _ hw)
    have ht := vx_table (x := y) B (hts0 _ List.mem_cons_self)
    subst hsz
    have hl := lv_entry av hlen
    rw [lg_entry_eq]
    exact body (p, e, _, s, m, _, below, meth, c, va_A Wd s.heap.size, nL, _) ⟨B.exec, B.bytes, hml, findClass_of_methodNamed B.named, hts, hK, fun q h => Or.inr h, B.notSynchronized, hA, htr, B.returns, rfl⟩ rfl ht hNc rfl s.heap [] _ hP hD0.self va_S.rf hl
  intro p e ha hc hk s m args below hf happ hP hK
  obtain ⟨n, o, h1, h2, h3, h4⟩ := hM p e ha hc hk s m args below hf happ hP hK
  refine ⟨n, o, h1, h2, h3, ?_⟩
  rcases h4 with h4 | ⟨q, -, E, ce, L, ⟨⟨u, h5, -⟩, -⟩, -⟩
  · exact h4
  · exact h5.elim
section VLW
variable {l : Launch} {D : va_G} {M : VM} {cy : Nat → ClassId} {cc : ByteArray} {own : String} {ret : Option FieldType} {rm : Room} {k n : Nat} {Wd : va_W} {L : List (Nat × Value)} {pc : Nat} {st : List Value}
theorem V.callSW {y : MethodName} {bytes : ByteArray} {nLy index : Nat} {rety : Option FieldType} {hh : List (Nat × Nat × Nat × Nat)} {rmy : Room} (As : List Value) {post : Option Value → va_W → Prop} {st0 : List Value}
    (X : VX l D M cy cc own ret rm) (hNc : VNc M) (h : CtrH l D cy y (.codeWith y bytes nLy rety hh) rmy As Wd post) (m1 : Cond.static y ∈ lwG) (m2 : Cond.initialized y.cls ∈ lwG) (m3 : Cond.codeWith y bytes nLy rety hh ∈ lwG) (hd9 : y.cls ≠ "java/lang/invoke/MethodHandle" ∧ y.cls ≠ "java/lang/invoke/VarHandle" ∧ (parseMethodDescriptor y.desc).map (fun d => d.parameters.length) = some As.length) (hlink : Cond.methodLink own index y ∈ lwG) (hR : RoomIn rmy rm nLy k n)
    (hst : st0 = As.reverse ++ st) (hcat : (st.map fun v => v.category).sum ≤ 8) (hd : decode cc pc = .ok (.invokestatic index, 3))
    (kk : ∀ v u, post v u → V l D M (k + rmy.cells) (n + rmy.slots) u L (pc + 3) (v.toList ++ st)) : V l D M k n Wd L pc st0 := by
  obtain ⟨p, e, R, s, m, args, below, meth, c, A, nL, Q⟩ := M
  obtain ⟨hx, hb, hml, ho, hts, hK, hA, hlk, hAm, htr, hrt, rfl⟩ := X
  intro H locs ls hP hD hS hL
  have hin := wA_in hD hS hA
  refine va_callw (vx_runSW (As := As) (rest := st) ⟨hx, hb, hml, ho, hts⟩ (h htr H.size) (vx_cwSW (ws' := lwG) As.length hts (lw_gin (lw_cons hlink (lw_cons m1 (lw_cons m2 (lw_cons m3 lw_self))))) rfl rfl rfl hd9 hR.1)
    ⟨wPreN_blind, fun U hU hW => ⟨rfl, wPre_at hP hD hS hA hK hAm hU hW, Nc9.moved hW.alike hNc⟩⟩ rfl rfl hL.1 hst (lv_room hcat) hd hR.2) hS (fun q _ h => hin q h) hin ?_
  intro v u H1 locs1 h1 h2 h3 h4
  exact kk v u h1 H1 locs1 ls h2 (h3.weaken (fun _ q _ h => hin q.1 h)) h4 hL
/-- caught here -/
theorem VT.catch9 {E name : String} {hh : List (Nat × Nat × Nat × Nat)} (X : VX l D M cy cc own ret rm) (hT : VTb M hh) (hNc : VNc M) (pre : List ExceptionTableEntry) (x : ExceptionTableEntry) (suf : List ExceptionTableEntry) (hsplit : tableOf hh = pre ++ x :: suf) {hp : Nat} (hhp : x.handlerPc = hp)
    (hpass : ∀ z ∈ pre, z.catchType ≠ 0 ∧ ∃ nm : String, Cond.classLink own z.catchType nm ∈ lwG ∧ (E, nm) ∈ ncL) (hx : covers x pc = true) (h0 : x.catchType ≠ 0) (hlink : Cond.classLink own x.catchType name ∈ lwG) (hcast : Cond.castable E name ∈ lwN)
    (kk : ∀ q : Nat, V l D M k n Wd L hp [.ref q]) : VT l D M k n Wd L pc st E := by
  subst hhp
  obtain ⟨p, e, R, s, m, args, below, meth, c, A, nL, Q⟩ := M
  obtain ⟨hx9, hb, hml, ho, hts, hK, hA, hlk, hAm, htr, hrt, rfl⟩ := X
  intro H locs ls q ce hP hD hS hL hce hcv hcl
  refine vx_catch (name := name) ho pre x suf (Eq.trans hT hsplit) (fun z hz => Or.inr ?_) hx h0 (hts _ hlink) (va_Nw.use rfl (hAm.1 _ hcast)) hce hcv hcl (kk q H locs ls hP hD hS hL)
  obtain ⟨h1, nm, h2, h3⟩ := hpass z hz
  exact ⟨h1, nm, hts _ h2, hNc _ h3⟩
theorem V.sld {b Ln : Nat} {xs : Nat → Int32} {i : Int32} {v : Int32} (X : VX l D M cy cc own ret rm) (hSc : VScr M b Ln xs) (hi : vp_in i Ln) (hv : xs i.toNatClampNeg = v) (hd : decode cc pc = .ok (.iaload, 1)) (kk : V l D M k n Wd L (pc + 1) (.int v :: st)) : V l D M k n Wd L pc (.int i :: .ref b :: st) := by
  subst hv
  obtain ⟨p, e, R, s, m, args, below, meth, c, A, nL, Q⟩ := M
  obtain ⟨hx, hb, hml, ho, hts, hK, hA, hlk, hAm, htr, hrt, rfl⟩ := X
  intro H locs ls hP hD hS hL
  obtain ⟨h1, h2, h3⟩ := hSc
  exact va_sld hx hb h1 h2 h3 hS hi hd (kk H locs ls hP hD hS hL)
theorem V.slen {b Ln : Nat} {xs : Nat → Int32} (X : VX l D M cy cc own ret rm) (hSc : VScr M b Ln xs) (hd : decode cc pc = .ok (.arraylength, 1)) (kk : V l D M k n Wd L (pc + 1) (.int (nI Ln) :: st)) : V l D M k n Wd L pc (.ref b :: st) := by
  obtain ⟨p, e, R, s, m, args, below, meth, c, A, nL, Q⟩ := M
  obtain ⟨hx, hb, hml, ho, hts, hK, hA, hlk, hAm, htr, hrt, rfl⟩ := X
  intro H locs ls hP hD hS hL
  obtain ⟨h1, h2, h3⟩ := hSc
  exact va_slen hx hb h1 h2 h3 hS hd (kk H locs ls hP hD hS hL)
/-- script[i + j] -/
theorem V.arg {b Ln i6 j pc9 : Nat} {z : Int} {xs : Nat → Int32} (X : VX l D M cy cc own ret rm) (hSc : VScr M b Ln xs) (h0 : lk L 0 = some (.ref b)) (h5 : lk L 5 = some (.int (nI i6))) (hi : i6 + j < Ln) (hLn : Ln ≤ 3072) (hz : Int32.ofInt z = nI j)
    (d0 : decode cc pc = .ok (.aload_n 0, 1)) (d1 : decode cc (pc + 1) = .ok (.iload 5, 2)) (d3 : decode cc (pc + 3) = .ok (.iconst z, 1)) (d4 : decode cc (pc + 4) = .ok (.iadd, 1)) (d5 : decode cc (pc + 5) = .ok (.iaload, 1)) (hp : pc + 6 = pc9)
    (kk : V l D M k n Wd L pc9 (.int (xs (i6 + j)) :: st)) : V l D M k n Wd L pc st := by
  subst hp
  refine V.aload_n X d0 (show lk L ((0 : Fin 4) : Nat) = _ from h0) (V.iload X d1 h5 (V.iconst X d3 hz (V.iadd X d4 (nI_add _ _) ?_)))
  exact V.sld X hSc (vp_in_nI hi (by omega)) (by rw [nI_clamp (by omega)]) d5 kk
/-- x != 0 -/
theorem V.nz {x : Int32} {pc9 : Nat} (X : VX l D M cy cc own ret rm) (d0 : decode cc pc = .ok (.ifCond .eq 7, 3)) (d3 : decode cc (pc + 3) = .ok (.iconst 1, 1)) (d4 : decode cc (pc + 4) = .ok (.goto 4, 3)) (d7 : decode cc (pc + 7) = .ok (.iconst 0, 1)) (hp : pc + 8 = pc9)
    (kk : V l D M k n Wd L pc9 (.int (b2i (decide (x ≠ 0))) :: st)) : V l D M k n Wd L pc (.int x :: st) := by
  subst hp
  refine V.if_eq (tgt := pc + 7) X d0 (by omega) id id (fun hz => ?_) (fun hz => ?_)
  · refine V.iconst (v := b2i (decide (x ≠ 0))) X d7 ?_ kk
    rw [decide_eq_false (fun h => h hz)]; rfl
  · refine V.iconst (v := b2i (decide (x ≠ 0))) X d3 ?_ (V.goto (tgt := pc + 8) X d4 (by omega) kk)
    rw [decide_eq_true hz]; rfl
/-- (char) x -/
def chr9 (x : Int32) : UInt16 := UInt16.ofNat (x.toBitVec.toNat % 65536)
theorem chr9_ok (x : Int32) : (x.toUInt32 % 65536).toInt32 = c2i (chr9 x) := by
  rw [pk_char]
  unfold c2i chr9
  congr 1
  rw [UInt16.toNat_ofNat']
  omega
theorem V.outL {q0 o : Nat} {f : Nat → Int64} {x : Int64} {Wd9 : va_W} (X : VX l D M cy cc own ret rm) (hg : Wd[q0]? = some (o, .inl (cy 4, 1, .inr (.inl f)))) (hW : Wd.set q0 (o, .inl (cy 4, 1, .inr (.inl (vp_updL f 0 x)))) = Wd9) (hd : decode cc pc = .ok (.lastore, 1)) (kk : V l D M k n Wd9 L (pc + 1) st) : V l D M k n Wd L pc (.long x :: .int (nI 0) :: .ref o :: st) :=
  V.last (q0 := q0) (N := 1) (f := f) X hg (vp_in_nI (by decide) (by decide)) hd (by rw [nI_clamp (by decide)]; exact hW) kk
theorem V.outD {q0 o : Nat} {f : Nat → UInt64} {x : UInt64} {Wd9 : va_W} (X : VX l D M cy cc own ret rm) (hg : Wd[q0]? = some (o, .inl (cy 5, 1, .inr (.inr (.inr (.inl f)))))) (hW : Wd.set q0 (o, .inl (cy 5, 1, .inr (.inr (.inr (.inl (vf_upd f 0 x)))))) = Wd9) (hd : decode cc pc = .ok (.dastore, 1)) (kk : V l D M k n Wd9 L (pc + 1) st) : V l D M k n Wd L pc (.double x :: .int (nI 0) :: .ref o :: st) :=
  V.dast (q0 := q0) (N := 1) (f := f) X hg (vp_in_nI (by decide) (by decide)) hd (by rw [nI_clamp (by decide)]; exact hW) kk
end VLW
def cL9 (cy : Nat → ClassId) (o : Nat) (f : Nat → Int64) : Nat × va_E := (o, .inl (cy 4, 1, .inr (.inl f)))
def cD9 (cy : Nat → ClassId) (o : Nat) (f : Nat → UInt64) : Nat × va_E := (o, .inl (cy 5, 1, .inr (.inr (.inr (.inl f)))))
def b2l (b : Bool) : Int64 := bif b then 1 else 0
/-- what a call through the law's own methods does: k which exception (0: none), x what was put out, P the states behind a return, Q behind a throw -/
def pW (ad : Nat → Nat) (cy : Nat → ClassId) (o : Nat) (f : Nat → Int64) (F : va_W) (k : Nat) (x : Int64) (P Q : St → Prop) : Option Value → va_W → Prop := fun v9 w9 => ∃ T : St, v9 = some (.int (nI k)) ∧ (k = 0 → P T) ∧ (k ≠ 0 → Q T) ∧ w9 = wC ad cy T ++ cL9 cy o (if k = 0 then vp_updL f 0 x else f) :: F
def pWD (ad : Nat → Nat) (cy : Nat → ClassId) (o : Nat) (f : Nat → UInt64) (F : va_W) (k : Nat) (x : UInt64) (P Q : St → Prop) : Option Value → va_W → Prop := fun v9 w9 => ∃ T : St, v9 = some (.int (nI k)) ∧ (k = 0 → P T) ∧ (k ≠ 0 → Q T) ∧ w9 = wC ad cy T ++ cD9 cy o (if k = 0 then vf_upd f 0 x else f) :: F
theorem pW_r {ad : Nat → Nat} {cy : Nat → ClassId} {o : Nat} {f : Nat → Int64} {F : va_W} {k : Nat} {x y : Int64} {P Q : St → Prop} {T : St} (hk : k = 0) (hx : y = x) (hP : P T) : pW ad cy o f F k x P Q (some (.int (nI 0))) (wC ad cy T ++ cL9 cy o (vp_updL f 0 y) :: F) := by
  subst hk; subst hx
  exact ⟨T, rfl, fun _ => hP, fun h => absurd rfl h, by rw [if_pos rfl]⟩
theorem pW_x {ad : Nat → Nat} {cy : Nat → ClassId} {o : Nat} {f : Nat → Int64} {F : va_W} {k j : Nat} {x : Int64} {P Q : St → Prop} {T : St} (hk : k = j + 1) (hP : Q T) : pW ad cy o f F k x P Q (some (.int (nI (j + 1)))) (wC ad cy T ++ cL9 cy o f :: F) := by
  subst hk
  exact ⟨T, rfl, fun h => absurd h (Nat.succ_ne_zero _), fun _ => hP, by rw [if_neg (Nat.succ_ne_zero _)]⟩
theorem pWD_r {ad : Nat → Nat} {cy : Nat → ClassId} {o : Nat} {f : Nat → UInt64} {F : va_W} {k : Nat} {x y : UInt64} {P Q : St → Prop} {T : St} (hk : k = 0) (hx : y = x) (hP : P T) : pWD ad cy o f F k x P Q (some (.int (nI 0))) (wC ad cy T ++ cD9 cy o (vf_upd f 0 y) :: F) := by
  subst hk; subst hx
  exact ⟨T, rfl, fun _ => hP, fun h => absurd rfl h, by rw [if_pos rfl]⟩
theorem pWD_x {ad : Nat → Nat} {cy : Nat → ClassId} {o : Nat} {f : Nat → UInt64} {F : va_W} {k j : Nat} {x : UInt64} {P Q : St → Prop} {T : St} (hk : k = j + 1) (hP : Q T) : pWD ad cy o f F k x P Q (some (.int (nI (j + 1)))) (wC ad cy T ++ cD9 cy o f :: F) := by
  subst hk
  exact ⟨T, rfl, fun h => absurd h (Nat.succ_ne_zero _), fun _ => hP, by rw [if_neg (Nat.succ_ne_zero _)]⟩
theorem cast_IAE : Cond.castable "java/lang/IllegalArgumentException" "java/lang/IllegalArgumentException" ∈ lwN := gn_2_83
theorem cast_ISE : Cond.castable "java/lang/IllegalStateException" "java/lang/IllegalStateException" ∈ lwN := gn_2_153
theorem cast_NSE : Cond.castable "java/util/NoSuchElementException" "java/util/NoSuchElementException" ∈ lwN := gn_2_189
theorem cast_UOE : Cond.castable "java/lang/UnsupportedOperationException" "java/lang/UnsupportedOperationException" ∈ lwN := gn_3_107
theorem cast_IOB : Cond.castable "java/lang/IndexOutOfBoundsException" "java/lang/IndexOutOfBoundsException" ∈ lwN := gn_4_55
