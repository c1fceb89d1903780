/-! ===== calls and throws over V ===== -/
section VCW
variable {p : Program} {l : Launch} {e : Env} {R : Room} {s : State} {m : MethodId} {args : Array Value} {below : List Frame} {meth : Method} {c : Code} {H : Heap} {locs : List Loc} {cells slots : Nat} {Q : State → Prop}
variable {mc ms : Nat} {free : Addr → Prop} {A0 A1 : Nat → Prop} {H0 : Heap} {a : Array Value} {pc : Nat} {ls : Array Slot} {st0 rest : List Value}
theorem vx_callw {D : va_G} {post : Option Value → va_W → Prop} {px : String → va_W → Prop} (hr : vx_Run p l e R s m args below meth c H locs cells slots mc ms (F0 m pc ls st0) rest (wQ D A1 post a) (wX D A1 px) free) (hS : va_S A0 H0 H locs) (hA : ∀ q, q < H.size → A1 q → A0 q) (hf : ∀ q, free q → A0 q)
    (kx : ∀ (E : String) (ce : Cell) (q9 : Addr) (u : va_W) (H1 : Heap) (locs1 : List Loc), px E u → va_P D vwCl u H1 → va_D A1 u → va_S A0 H0 H1 locs1 → H1[q9]? = some ce → ce.vm = .none → s.vm.findClass E = some ce.cls → vx_W p l e R s m args below meth c H1 locs1 (cells + mc) (slots + ms) Q (F0 m pc ls rest) q9)
    (kk : ∀ (v : Option Value) (u : va_W) (H1 : Heap) (locs1 : List Loc), post v u → va_P D vwCl u H1 → va_D A1 u → va_S A0 H0 H1 locs1 → W p l e R s m args below meth c H1 locs1 (cells + mc) (slots + ms) Q (F0 m (pc + 3) ls (v.toList ++ rest))) : W p l e R s m args below meth c H locs cells slots Q (F0 m pc ls st0) := by
  intro T hT X
  rcases hr T hT X with ⟨v, st₀, t, T', L, h0, X', hL, e1, e2, ⟨⟨v9, u, hv, hp, hb, hd⟩, hF⟩, st⟩ | ⟨q, st₀, t, T', L, E, ce, h0, X', hL, e1, e2, ⟨⟨u, hp, hb, hd⟩, hF⟩, hce, hcv, hcl, st⟩
  · cases hv
    obtain ⟨k1, k2, k3⟩ := vx_keep h0 e1 hS hA hf hL hF
    obtain ⟨t2, a1, b1⟩ := kk v u T'.heap (locs ++ L) hp (by rw [e1]; exact hb) hd k3 T' rfl X'
    exact ⟨t2, st t2 a1, b1⟩
  · obtain ⟨k1, k2, k3⟩ := vx_keep h0 e1 hS hA hf hL hF
    obtain ⟨t2, a1, b1⟩ := kx E ce q u T'.heap (locs ++ L) hp (by rw [e1]; exact hb) hd k3 (by rw [e1]; exact hce) hcv hcl T' rfl X'
    exact ⟨t2, st.trans a1, b1⟩
end VCW
theorem lw_gin {ws : List Cond} (h : ∀ w ∈ ws, w ∈ lwG) : GoodIn lwG ws := fun w hw => ⟨h w hw, good_of_word (lwG_good w (h w hw))⟩
theorem lw_cons {w : Cond} {ws : List Cond} (h : w ∈ lwG) (t : ∀ x ∈ ws, x ∈ lwG) : ∀ x ∈ w :: ws, x ∈ lwG := fun x hx => (List.mem_cons.mp hx).elim (fun e => by rw [e]; exact h) (t x)
theorem lw_self : ∀ x ∈ lwG, x ∈ lwG := fun _ h => h
/-- what a call needs of the tables: an instance method, a static one, a constructor -/
def MV (y : MethodName) (C : String) (bytes : ByteArray) (nL : Nat) (ret : Option FieldType) (np : Nat) : Prop := Cond.instanceMethod y ∈ lwG ∧ Cond.selects C y y ∈ lwG ∧ Cond.initialized C ∈ lwG ∧ Cond.code y bytes nL ret ∈ lwG ∧ (y.cls = C ∧ y.cls ≠ "java/lang/invoke/MethodHandle" ∧ y.cls ≠ "java/lang/invoke/VarHandle" ∧ (parseMethodDescriptor y.desc).map (fun d => d.parameters.length) = some np)
def MS (y : MethodName) (bytes : ByteArray) (nL : Nat) (ret : Option FieldType) (np : Nat) : Prop := Cond.static y ∈ lwG ∧ Cond.initialized y.cls ∈ lwG ∧ Cond.code y bytes nL ret ∈ lwG ∧ (y.cls ≠ "java/lang/invoke/MethodHandle" ∧ y.cls ≠ "java/lang/invoke/VarHandle" ∧ (parseMethodDescriptor y.desc).map (fun d => d.parameters.length) = some np)
def MC (y : MethodName) (bytes : ByteArray) (nL : Nat) (np : Nat) : Prop := Cond.instanceMethod y ∈ lwG ∧ Cond.initialized y.cls ∈ lwG ∧ Cond.code y bytes nL none ∈ lwG ∧ y.name = "<init>" ∧ (y.cls ≠ "java/lang/invoke/MethodHandle" ∧ y.cls ≠ "java/lang/invoke/VarHandle" ∧ (parseMethodDescriptor y.desc).map (fun d => d.parameters.length) = some np)
/-- one room's part in another -/
def RoomIn (rmy rm : Room) (nL k n : Nat) : Prop := (rmy.frames + 1 ≤ rm.frames ∧ 8 + (nL + 11) + rmy.locals ≤ rm.locals) ∧ k + rmy.cells ≤ rm.cells ∧ n + rmy.slots ≤ rm.slots
theorem va_D_nodup {A : Nat → Prop} {ws : va_W} : va_D A ws ↔ (ws.map (·.1)).Pairwise (· ≠ ·) ∧ ∀ q ∈ ws, A q.1 := by
  constructor
  · intro h
    refine ⟨?_, fun q hq => ?_⟩
    · rw [List.pairwise_iff_getElem]
      intro i j hi hj hij e
      rw [List.length_map] at hi hj
      rw [List.getElem_map, List.getElem_map] at e
      have := h.1 i j ws[i] ws[j] (List.getElem?_eq_getElem hi) (List.getElem?_eq_getElem hj) e
      omega
    · obtain ⟨i, hi⟩ := List.getElem?_of_mem hq
      exact h.2 i q hi
  · intro h
    refine ⟨fun i j p q hp hq e => ?_, fun i q hq => h.2 q (List.mem_of_getElem? hq)⟩
    obtain ⟨hi, ei⟩ := List.getElem?_eq_some_iff.mp hp
    obtain ⟨hj, ej⟩ := List.getElem?_eq_some_iff.mp hq
    have h1 := List.pairwise_iff_getElem.mp h.1
    rcases Nat.lt_trichotomy i j with g | g | g
    · refine absurd ?_ (h1 i j (by rw [List.length_map]; exact hi) (by rw [List.length_map]; exact hj) g)
      rw [List.getElem_map, List.getElem_map, ei, ej]
      exact e
    · exact g
    · refine absurd ?_ (h1 j i (by rw [List.length_map]; exact hj) (by rw [List.length_map]; exact hi) g)
      rw [List.getElem_map, List.getElem_map, ei, ej]
      exact e.symm
theorem va_D_perm {A : Nat → Prop} {ws ws' : va_W} (e : ws'.Perm ws) (h : va_D A ws) : va_D A ws' := by
  rw [va_D_nodup] at h ⊢
  exact ⟨((e.map _).pairwise_iff (fun h => Ne.symm h)).mpr h.1, fun q hq => h.2 q (e.mem_iff.mp hq)⟩
theorem va_P_perm {D : va_G} {ws ws' : va_W} {H : Heap} (e : ws'.Perm ws) (h : va_P D vwCl ws H) : va_P D vwCl ws' H := by
  intro k q hk
  obtain ⟨i, hi⟩ := List.getElem?_of_mem (e.mem_iff.mp (List.mem_of_getElem? hk))
  exact h i q hi
section VCR
variable {l : Launch} {D : va_G} {M : VM} {cy : Nat → ClassId} {cc : ByteArray} {own : String} {ret : Option FieldType} {rm : Room} {k n : Nat} {Wd : va_W} {L : List (Nat × Value)} {pc : Nat} {st : List Value}
theorem wA_in {A : Nat → Prop} {H0 H : Heap} {locs : List Loc} (hD : va_D A Wd) (hS : va_S A H0 H locs) (hA : ∀ q, H0.size ≤ q → A q) : ∀ q, va_A Wd H.size q → A q := by
  intro q h
  rcases h with ⟨j, x, h⟩ | h
  · exact hD.2 j (q, x) h
  · exact hA q (Nat.le_trans hS.1 h)
theorem wPre_at {A : Nat → Prop} {s U : State} {H : Heap} {locs : List Loc} (hP : va_P D vwCl Wd H) (hD : va_D A Wd) (hS : va_S A s.heap H locs) (hA : ∀ q, s.heap.size ≤ q → A q) (hK : va_K D vwCl (tysOf cy) s) (hAm : Amb A s s.heap) (hU : U.heap = H) (hW : s.WarmedH U.vm) : wPre D cy Wd H.size U := by
  refine ⟨by rw [hU], by rw [hU]; exact hP, hK.moved hW.alike, hD.weaken (fun _ _ _ _ => trivial), ?_⟩
  rw [hU]
  exact Amb.moved hW ((hAm.kept hS.2.1).narrow (wA_in hD hS hA))
theorem wParse {np : Nat} {y : MethodName} (h : (parseMethodDescriptor y.desc).map (fun d => d.parameters.length) = some np) : ∀ sig, parseMethodDescriptor y.desc = some sig → np = sig.parameters.length := by
  intro sig h2
  rw [h2] at h
  exact (Option.some.inj h).symm
theorem V.callV {y : MethodName} {C : String} {bytes : ByteArray} {nLy index a : Nat} {rety : Option FieldType} {rmy : Room} (As : List Value) {post : Option Value → va_W → Prop} {px : String → va_W → Prop} {q0 ci : Nat} {fs : List Value} {T : u_T} {N : Nat} {st0 : List Value}
    (X : VX l D M cy cc own ret rm) (h : Ctr l D cy y (.code y bytes nLy rety) rmy (.ref a :: As) Wd post px) (mv : MV y C bytes nLy rety As.length) (hlink : Cond.methodLink own index y ∈ lwG) (hR : RoomIn rmy rm nLy k n)
    (hg : Wd[q0]? = some (a, .inr (ci, fs))) (hc : vwCl[ci]? = some (C, T, N)) (hst : st0 = As.reverse ++ .ref a :: st) (hcat : (st.map fun v => v.category).sum ≤ 8) (hd : decode cc pc = .ok (.invokevirtual index, 3))
    (kx : ∀ (E : String) (u : va_W), px E u → VT l D M (k + rmy.cells) (n + rmy.slots) u L pc st E)
    (kk : ∀ (v : Option Value) (u : va_W), post v u → V l D M (k + rmy.cells) (n + rmy.slots) u L (pc + 3) (v.toList ++ st)) : V l D M k n Wd L pc st0 := by
  obtain ⟨p, e, R, s, m, args, below, meth, c, A, nL, Q⟩ := M
  obtain ⟨hx, hb, hml, ho, hts, hK, hA, hlk, hAm, htr, hrt, rfl⟩ := X
  intro H locs ls hP hD hS hL
  obtain ⟨m1, m2, m3, m4, m5⟩ := mv
  have hin := wA_in hD hS hA
  refine vx_callw (vx_runV (As := As) (rest := st) ⟨hx, hb, hml, ho, hts⟩ (h htr H.size) (cwV As.length hts (lw_gin (lw_cons hlink (lw_cons m1 (lw_cons m2 (lw_cons m3 (lw_cons m4 lw_self)))))) rfl rfl rfl m5 hR.1)
    ⟨wPre_blind, va_recv hK hP hc hg, fun U hU hW => ⟨rfl, wPre_at hP hD hS hA hK hAm hU hW⟩⟩ rfl rfl hL.1 hst (lv_room hcat) hd hR.2) hS (fun q _ h => hin q h) hin ?_ ?_
  · intro E ce q9 u H1 locs1 h1 h2 h3 h4 h5 h6 h7
    exact kx E u h1 H1 locs1 ls q9 ce h2 (h3.weaken (fun _ q _ h => hin q.1 h)) h4 hL h5 h6 h7
  · intro v u H1 locs1 h1 h2 h3 h4
    exact kk v u h1 H1 locs1 ls h2 (h3.weaken (fun _ q _ h => hin q.1 h)) h4 hL
theorem V.callS {y : MethodName} {bytes : ByteArray} {nLy index : Nat} {rety : Option FieldType} {rmy : Room} (As : List Value) {post : Option Value → va_W → Prop} {px : String → va_W → Prop} {st0 : List Value}
    (X : VX l D M cy cc own ret rm) (h : Ctr l D cy y (.code y bytes nLy rety) rmy As Wd post px) (mv : MS y bytes nLy rety As.length) (hlink : Cond.methodLink own index y ∈ lwG) (hR : RoomIn rmy rm nLy k n)
    (hst : st0 = As.reverse ++ st) (hcat : (st.map fun v => v.category).sum ≤ 8) (hd : decode cc pc = .ok (.invokestatic index, 3))
    (kx : ∀ (E : String) (u : va_W), px E u → VT l D M (k + rmy.cells) (n + rmy.slots) u L pc st E)
    (kk : ∀ (v : Option Value) (u : va_W), post v u → V l D M (k + rmy.cells) (n + rmy.slots) u L (pc + 3) (v.toList ++ st)) : V l D M k n Wd L pc st0 := by
  obtain ⟨p, e, R, s, m, args, below, meth, c, A, nL, Q⟩ := M
  obtain ⟨hx, hb, hml, ho, hts, hK, hA, hlk, hAm, htr, hrt, rfl⟩ := X
  intro H locs ls hP hD hS hL
  obtain ⟨m1, m2, m4, m5⟩ := mv
  have hin := wA_in hD hS hA
  refine vx_callw (vx_runS (As := As) (rest := st) ⟨hx, hb, hml, ho, hts⟩ (h htr H.size) ⟨callB_of (ws' := lwG) As.length hts (lw_gin (lw_cons m4 lw_self)) rfl rfl rfl (hts _ m2) (hts _ hlink) m5 hR.1, hts _ m1⟩
    ⟨wPre_blind, fun U hU hW => ⟨rfl, wPre_at hP hD hS hA hK hAm hU hW⟩⟩ rfl rfl hL.1 hst (lv_room hcat) hd hR.2) hS (fun q _ h => hin q h) hin ?_ ?_
  · intro E ce q9 u H1 locs1 h1 h2 h3 h4 h5 h6 h7
    exact kx E u h1 H1 locs1 ls q9 ce h2 (h3.weaken (fun _ q _ h => hin q.1 h)) h4 hL h5 h6 h7
  · intro v u H1 locs1 h1 h2 h3 h4
    exact kk v u h1 H1 locs1 ls h2 (h3.weaken (fun _ q _ h => hin q.1 h)) h4 hL
/-- no handler here: what was thrown goes on -/
theorem VT.out {post : Option Value → va_W → Prop} {px : String → va_W → Prop} {E : String} (X : VX l D M cy cc own ret rm) (hE : EQ9 D M post px rm) (hN : VN M) (hk : k ≤ rm.cells) (hs : n ≤ rm.slots) (hp : px E Wd) : VT l D M k n Wd L pc st E := by
  obtain ⟨p, e, R, s, m, args, below, meth, c, A, nL, Q⟩ := M
  obtain ⟨hx, hb, hml, ho, hts, hK, hA, hlk, hAm, htr, hrt, rfl⟩ := X
  replace hE : Q = _ := hE
  subst hE
  intro H locs ls q ce hP hD hS hL hce hcv hcl
  exact vx_out (fun x hx => (hN x hx).elim) hlk hce hcv hcl (fun t ht _ => ⟨⟨Wd, hp, by rw [ht]; exact hP, hD⟩, hS.F ht⟩) hS.2.2 hk hs
/-- a world's cells in another order -/
theorem V.perm {Wd' : va_W} (e : Wd'.Perm Wd) (kk : V l D M k n Wd' L pc st) : V l D M k n Wd L pc st := by
  obtain ⟨p, e9, R, s, m, args, below, meth, c, A, nL, Q⟩ := M
  intro H locs ls hP hD hS hL
  exact kk H locs ls (va_P_perm e hP) (va_D_perm e hD) hS hL
/-- forget cells -/
theorem V.drop {Wd' : va_W} (kk : V l D M k n Wd L pc st) : V l D M k n (Wd ++ Wd') L pc st := by
  obtain ⟨p, e9, R, s, m, args, below, meth, c, A, nL, Q⟩ := M
  intro H locs ls hP hD hS hL
  refine kk H locs ls (fun j q hq => hP j q ?_) ⟨fun i j p q hp hq => hD.1 i j p q ?_ ?_, fun j q hq => hD.2 j q ?_⟩ hS hL
  all_goals (first | (rw [List.getElem?_append_left (List.getElem?_eq_some_iff.mp hq).1]; exact hq) | (rw [List.getElem?_append_left (List.getElem?_eq_some_iff.mp hp).1]; exact hp))
end VCR
