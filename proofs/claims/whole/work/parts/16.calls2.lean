/-! ===== calls of nest mates and constructors, that never throw ===== -/
theorem Ctr.met {l : Launch} {D : va_G} {cy : Nat → ClassId} {y : MethodName} {cd : Cond} {rm : Room} {av : List Value} {Wd : va_W} {post : Option Value → va_W → Prop} (h : Ctr l D cy y cd rm av Wd post pNo) (htr : l.stackTraces = false) (sz : Nat) :
    Met l y (cd :: lwG) rm (va_Pc av (wPre D cy Wd sz)) (wQ D (va_A Wd sz) post) rm.cells rm.slots (va_A Wd sz) := by
  intro p e ha hc hk s m args below hf happ hP hK
  obtain ⟨n, o, h1, h2, h3, h4⟩ := h htr sz p e ha hc hk s m args below hf happ hP hK
  refine ⟨n, o, h1, h2, h3, ?_⟩
  rcases h4 with h4 | ⟨q, -, E, ce, L, ⟨⟨u, h5, -⟩, -⟩, -⟩
  · exact h4
  · exact h5.elim
theorem va_callw {p : Program} {l : Launch} {e : Env} {R : Room} {s : State} {m : MethodId} {args : Array Value} {below : List Frame} {meth : Method} {c : Code} {H : Heap} {locs : List Loc} {cells slots : Nat} {Q : State → Prop} {mc ms : Nat} {free : Addr → Prop} {A0 A1 : Nat → Prop} {H0 : Heap} {a : Array Value} {pc : Nat} {ls : Array Slot} {st0 rest : List Value}
    {D : va_G} {post : Option Value → va_W → Prop} (hr : va_Run p l e R s m args below meth c H locs cells slots mc ms (F0 m pc ls st0) rest (wQ D A1 post a) free) (hS : va_S A0 H0 H locs) (hA : ∀ q, q < H.size → A1 q → A0 q) (hf : ∀ q, free q → A0 q)
    (kk : ∀ (v : Option Value) (u : va_W) (H1 : Heap) (locs1 : List Loc), post v u → va_P D vwCl u H1 → va_D A1 u → va_S A0 H0 H1 locs1 → W p l e R s m args below meth c H1 locs1 (cells + mc) (slots + ms) Q (F0 m (pc + 3) ls (v.toList ++ rest))) : W p l e R s m args below meth c H locs cells slots Q (F0 m pc ls st0) := by
  intro T hT X
  obtain ⟨v, st₀, t, T', L, h0, X', hL, e1, e2, ⟨⟨v9, u, hv, hp, hb, hd⟩, hF⟩, st⟩ := hr T hT X
  cases hv
  obtain ⟨k1, k2, k3⟩ := vx_keep h0 e1 hS hA hf hL hF
  obtain ⟨t2, a1, b1⟩ := kk v u T'.heap (locs ++ L) hp (by rw [e1]; exact hb) hd k3 T' rfl X'
  exact ⟨t2, st t2 a1, b1⟩
section VC2
variable {l : Launch} {D : va_G} {M : VM} {cy : Nat → ClassId} {cc : ByteArray} {own : String} {ret : Option FieldType} {rm : Room} {k n : Nat} {Wd : va_W} {L : List (Nat × Value)} {pc : Nat} {st : List Value}
theorem V.callSN1 {y : MethodName} {host : String} {bytes : ByteArray} {nLy index : Nat} {rety : Option FieldType} {rmy : Room} (As : List Value) {r : Int32} {u : va_W} {st0 : List Value}
    (X : VX l D M cy cc own ret rm) (h : Ctr l D cy y (.code y bytes nLy rety) rmy As Wd (pI r u) pNo) (mv : MS y bytes nLy rety As.length) (hlink : Cond.methodLinkNest own index y host ∈ lwN) (hR : RoomIn rmy rm nLy k n)
    (hst : st0 = As.reverse ++ st) (hcat : (st.map fun v => v.category).sum ≤ 8) (hd : decode cc pc = .ok (.invokestatic index, 3))
    (kk : V l D M (k + rmy.cells) (n + rmy.slots) u L (pc + 3) (.int r :: st)) : V l D M k n Wd L pc st0 := by
  obtain ⟨p, e, R, s, m, args, below, meth, c, A, nL, Q⟩ := M
  obtain ⟨hx, hb, hml, ho, hts, hK, hA, hlk, hAm, htr, hrt, rfl⟩ := X
  intro H locs ls hP hD hS hL
  obtain ⟨m1, m2, m4, m5⟩ := mv
  have hin := wA_in hD hS hA
  refine va_callw (va_runSN (As := As) (rest := st) (host := host) ⟨hx, hb, hml, ho, hts⟩ (h.met htr H.size) ⟨va_cnB (ws' := lwG) As.length hts (lw_gin (lw_cons m4 lw_self)) rfl rfl rfl (hAm.1 _ hlink) (hts _ m2) m5 hR.1, hts _ m1, trivial⟩
    ⟨wPre_blind, fun U hU hW => ⟨rfl, wPre_at hP hD hS hA hK hAm hU hW⟩⟩ rfl rfl hL.1 hst (lv_room hcat) hd hR.2) hS (fun q _ h => hin q h) hin ?_
  intro v u H1 locs1 h1 h2 h3 h4
  obtain ⟨rfl, rfl⟩ := h1
  exact kk H1 locs1 ls h2 (h3.weaken (fun _ q _ h => hin q.1 h)) h4 hL
theorem V.callIN {y : MethodName} {host : String} {bytes : ByteArray} {nLy index a : Nat} {rmy : Room} (As : List Value) {post : Option Value → va_W → Prop} {st0 : List Value}
    (X : VX l D M cy cc own ret rm) (h : Ctr l D cy y (.code y bytes nLy none) rmy (.ref a :: As) Wd post pNo) (mv : MC y bytes nLy As.length) (hlink : Cond.methodLinkNest own index y host ∈ lwN) (hR : RoomIn rmy rm nLy k n)
    (hst : st0 = As.reverse ++ .ref a :: st) (hcat : (st.map fun v => v.category).sum ≤ 8) (hd : decode cc pc = .ok (.invokespecial index, 3))
    (kk : ∀ v u, post v u → V l D M (k + rmy.cells) (n + rmy.slots) u L (pc + 3) (v.toList ++ st)) : V l D M k n Wd L pc st0 := by
  obtain ⟨p, e, R, s, m, args, below, meth, c, A, nL, Q⟩ := M
  obtain ⟨hx, hb, hml, ho, hts, hK, hA, hlk, hAm, htr, hrt, rfl⟩ := X
  intro H locs ls hP hD hS hL
  obtain ⟨m1, m2, m4, m6, m5⟩ := mv
  have hin := wA_in hD hS hA
  refine va_callw (va_runIN (As := As) (rest := st) (host := host) ⟨hx, hb, hml, ho, hts⟩ (h.met htr H.size) ⟨va_cnB (ws' := lwG) As.length hts (lw_gin (lw_cons m4 lw_self)) rfl rfl rfl (hAm.1 _ hlink) (hts _ m2) m5 hR.1, m6, hts _ m1⟩
    ⟨wPre_blind, fun U hU hW => ⟨rfl, wPre_at hP hD hS hA hK hAm hU hW⟩⟩ rfl rfl hL.1 hst (lv_room hcat) hd hR.2) hS (fun q _ h => hin q h) hin ?_
  intro v u H1 locs1 h1 h2 h3 h4
  exact kk v u h1 H1 locs1 ls h2 (h3.weaken (fun _ q _ h => hin q.1 h)) h4 hL
theorem V.callI {y : MethodName} {bytes : ByteArray} {nLy index a : Nat} {rmy : Room} (As : List Value) {post : Option Value → va_W → Prop} {st0 : List Value}
    (X : VX l D M cy cc own ret rm) (h : Ctr l D cy y (.code y bytes nLy none) rmy (.ref a :: As) Wd post pNo) (mv : MC y bytes nLy As.length) (hlink : Cond.methodLink own index y ∈ lwG) (hR : RoomIn rmy rm nLy k n)
    (hst : st0 = As.reverse ++ .ref a :: st) (hcat : (st.map fun v => v.category).sum ≤ 8) (hd : decode cc pc = .ok (.invokespecial index, 3))
    (kk : ∀ v u, post v u → V l D M (k + rmy.cells) (n + rmy.slots) u L (pc + 3) (v.toList ++ st)) : V l D M k n Wd L pc st0 := by
  obtain ⟨p, e, R, s, m, args, below, meth, c, A, nL, Q⟩ := M
  obtain ⟨hx, hb, hml, ho, hts, hK, hA, hlk, hAm, htr, hrt, rfl⟩ := X
  intro H locs ls hP hD hS hL
  obtain ⟨m1, m2, m4, m6, m5⟩ := mv
  have hin := wA_in hD hS hA
  refine va_callw (va_runI (As := As) (rest := st) ⟨hx, hb, hml, ho, hts⟩ (h.met htr H.size) (cwI (ws' := lwG) As.length hts (lw_gin (lw_cons m4 lw_self)) rfl rfl rfl (hts _ m2) (hts _ hlink) (hts _ m1) m6 m5 hR.1)
    ⟨wPre_blind, fun U hU hW => ⟨rfl, wPre_at hP hD hS hA hK hAm hU hW⟩⟩ rfl rfl hL.1 hst (lv_room hcat) hd hR.2) hS (fun q _ h => hin q h) hin ?_
  intro v u H1 locs1 h1 h2 h3 h4
  exact kk v u h1 H1 locs1 ls h2 (h3.weaken (fun _ q _ h => hin q.1 h)) h4 hL
/-- Object() -/
theorem V.objI {index a : Nat} (X : VX l D M cy cc own ret rm) (hlink : Cond.methodLink own index objectInit ∈ lwG) (hi : Cond.instanceMethod objectInit ∈ lwG) (hc : Cond.code objectInit ⟨#[0xb1]⟩ 1 none ∈ lwG) (hf : 1 ≤ rm.frames) (hl : (st.map fun v => v.category).sum + 12 ≤ rm.locals) (hd : decode cc pc = .ok (.invokespecial index, 3)) (kk : V l D M k n Wd L (pc + 3) st) : V l D M k n Wd L pc (.ref a :: st) := by
  obtain ⟨p, e, R, s, m, args, below, meth, c, A, nL, Q⟩ := M
  obtain ⟨hx, hb, hml, ho, hts, hK, hA, hlk, hAm, htr, hrt, rfl⟩ := X
  intro H locs ls hP hD hS hL
  exact W.objInit hx hb ho (hts _ hlink) (hts _ hi) (hts _ hc) rfl (by rw [hml]; exact hL.1) rfl hd hf (by show 2 * 0 + _ + 12 ≤ _; omega) (kk H locs ls hP hD hS hL)
/-- new C -/
theorem V.new9 {C : String} {T : u_T} {N ci index : Nat} (ty : Nat → FieldType) {fs : List Value} (X : VX l D M cy cc own ret rm) (hin : ∀ w ∈ u_ws C T N, w ∈ lwG) (hty : ∀ k, k < N → parseFieldDescriptor (T k).2.2.1 = some (ty k)) (hcl : Cond.classLink own index C ∈ lwG) (hinst : Cond.instantiable C N ∈ lwG) (hini : Cond.initialized C ∈ lwG) (hc : vwCl[ci]? = some (C, T, N)) (hfs : ∀ j, j < N → defaultValue (ty j) = vp_V fs j) (hk : k + 1 ≤ rm.cells) (hs : n + N ≤ rm.slots) (hd : decode cc pc = .ok (.new index, 3))
    (kk : ∀ q : Nat, V l D M (k + 1) (n + N) (Wd ++ [(q, .inr (ci, fs))]) L (pc + 3) (.ref q :: st)) : V l D M k n Wd L pc st := by
  obtain ⟨p, e, R, s, m, args, below, meth, c, A, nL, Q⟩ := M
  obtain ⟨hx, hb, hml, ho, hts, hK, hA, hlk, hAm, htr, hrt, rfl⟩ := X
  intro H locs ls hP hD hS hL
  exact va_new (Ts := lwG) hx hb hts hin ty hty ho (hts _ hcl) (hts _ hinst) (hts _ hini) hK hP hD hS hA hc hfs hk hs hd (fun q H1 hP1 hD1 hS1 => kk q H1 locs ls hP1 hD1 hS1 hL)
/-- new T[n] of numbers; the place t0 of its class in tysOf -/
theorem V.newa9 {atype : ArrayType} {ty : FieldType} {x : Int32} {N' t0 : Nat} {a0 : vp_A} {cA0 : ClassId} (X : VX l D M cy cc own ret rm) (harr : Cond.arrayClass (newarray.typeOf atype) ∈ lwG) (hty : newarray.typeOf atype = ty) (ht : (tysOf cy)[t0]? = some (cA0, ty)) (hna : ∀ C, ty ≠ .object C)
    (ha : ∀ cA : ClassId, vp_cell cA a0 = arrV cA N' (fun _ => defaultValue ty)) (hn : ¬ x < 0) (hN : x.toNatClampNeg = N') (hby : N' * componentBytes ty ≤ 536870912) (hk : k + 1 ≤ rm.cells) (hs : n + N' ≤ rm.slots) (hd : decode cc pc = .ok (.newarray atype, 2))
    (kk : ∀ q : Nat, V l D M (k + 1) (n + N') (Wd ++ [(q, .inl (cA0, a0))]) L (pc + 2) (.ref q :: st)) : V l D M k n Wd L pc (.int x :: st) := by
  obtain ⟨p, e, R, s, m, args, below, meth, c, A, nL, Q⟩ := M
  obtain ⟨hx, hb, hml, ho, hts, hK, hA, hlk, hAm, htr, hrt, rfl⟩ := X
  intro H locs ls hP hD hS hL
  refine va_newa hx hb (hts _ harr) hty hK hP hD hS hA ha hn hN hby hk hs hd (fun q cA H1 hK1 hP1 hD1 hS1 => ?_)
  have h1 := (hK.2 t0 _ ht).2
  have h2 := (hK1.2 (tysOf cy).length _ (List.getElem?_concat_length ..)).2
  have e9 : cA = cA0 := by
    cases ty with
    | object C => exact absurd rfl (hna C)
    | _ => exact Option.some.inj ((show s.vm.findClass _ = some cA from h2).symm.trans (show s.vm.findClass _ = some cA0 from h1))
  subst e9
  exact kk q H1 locs ls hP1 hD1 hS1 hL
end VC2
