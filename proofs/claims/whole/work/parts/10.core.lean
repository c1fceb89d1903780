/-! ===== the walk's own words: contexts, V, contracts ===== -/
def nwOK : Cond → Bool
  | .castable _ _ => true
  | .declares _ => true
  | .methodLinkNest _ _ _ _ => true
  | _ => false
/-- the tables' words that no method's list may hold, but that stay -/
def lwN : List Cond := tables_1.filter nwOK
def sKof : Cond → Option (String × Nat × String)
  | .stringRef a b c => some (a, b, c)
  | _ => none
/-- the String constants -/
def lwS : List (String × Nat × String) := tables_1.filterMap sKof
theorem nw_warm {w : Cond} {s U : State} (h : nwOK w = true) (hW : s.WarmedH U.vm) (hZ : va_Nw w s) : va_Nw w U := by
  cases w <;> first | exact va_Nw.warmC hW hZ | exact va_Nw.warmD hW hZ | exact va_Nw.warmM hW hZ | (simp [nwOK] at h)
/-- what stays as it is outside the cells A: tables, statics, texts -/
def Amb (A : Nat → Prop) (U : State) (H : Heap) : Prop :=
  (∀ w ∈ lwN, va_Nw w U) ∧ vx_Zq Bundle.tN "UNASSIGNED_STACK" Bundle.steD A U H ∧ vx_Zq Bundle.tN "SUPPRESSED_SENTINEL" Bundle.listD A U H ∧ (∀ q ∈ lwS, ∃ a, vk_R q.1 q.2.1 q.2.2 a U) ∧
  va_Z "java/lang/String" "COMPACT_STRINGS" "Z" (.int 1) A U H ∧
  (∃ t, va_Z "java/lang/Integer" "DigitOnes" "[B" (.ref t) A U H ∧ va_T .byte t 100 (fun j => .int (nI (48 + j % 10))) A U H) ∧
  (∃ t, va_Z "java/lang/Integer" "DigitTens" "[B" (.ref t) A U H ∧ va_T .byte t 100 (fun j => .int (nI (48 + j / 10))) A U H) ∧
  va_Zq "jdk/internal/util/Preconditions" "SIOOBE_FORMATTER" "Ljava/util/function/BiFunction;" A U H
theorem Amb.moved {A : Nat → Prop} {u U : State} {H : Heap} (hW : u.WarmedH U.vm) (h : Amb A u H) : Amb A U H := by
  obtain ⟨h1, h2, h3, h4, h5, ⟨t6, h6, h7⟩, ⟨t8, h8, h9⟩, h10⟩ := h
  refine ⟨fun w hw => nw_warm (List.mem_filter.mp hw).2 hW (h1 w hw), h2.moved hW.alike, h3.moved hW.alike, fun q hq => ?_, h5.moved hW.alike, ⟨t6, h6.moved hW.alike, h7.moved hW.alike⟩, ⟨t8, h8.moved hW.alike, h9.moved hW.alike⟩, h10.moved hW.alike⟩
  obtain ⟨a, ha⟩ := h4 q hq
  exact ⟨a, vk_R.warm hW ha⟩
theorem Amb.kept {A : Nat → Prop} {U : State} {H H1 : Heap} (h : Amb A U H) (hq : ∀ a : Nat, a < H.size → ¬ A a → H1[a]? = H[a]?) : Amb A U H1 := by
  obtain ⟨h1, h2, h3, h4, h5, ⟨t6, h6, h7⟩, ⟨t8, h8, h9⟩, h10⟩ := h
  exact ⟨h1, h2.kept hq, h3.kept hq, h4, h5.kept hq, ⟨t6, h6.kept hq, h7.kept hq⟩, ⟨t8, h8.kept hq, h9.kept hq⟩, h10.kept hq⟩
theorem Amb.narrow {A B : Nat → Prop} {U : State} {H : Heap} (h : Amb A U H) (hAB : ∀ q, B q → A q) : Amb B U H := by
  obtain ⟨h1, h2, h3, h4, h5, ⟨t6, h6, h7⟩, ⟨t8, h8, h9⟩, h10⟩ := h
  exact ⟨h1, h2.narrow hAB, h3.narrow hAB, h4, h5.narrow hAB, ⟨t6, h6.narrow hAB, h7.narrow hAB⟩, ⟨t8, h8.narrow hAB, h9.narrow hAB⟩, h10.narrow hAB⟩
/-- the machine around a walk -/
abbrev VM : Type := Program × Env × Room × State × MethodId × Array Value × List Frame × Method × Code × (Nat → Prop) × Nat × (State → Prop)
abbrev tysOf (cy : Nat → ClassId) : List (ClassId × FieldType) := [(cy 0, .int), (cy 1, .boolean), (cy 2, .char), (cy 3, .byte), (cy 4, .long), (cy 5, .double)]
def V (l : Launch) (D : va_G) (M : VM) (k n : Nat) (Wd : va_W) (L : List (Nat × Value)) (pc : Nat) (st : List Value) : Prop :=
  match M with
  | (p, e, R, s, m, args, below, meth, c, A, nL, Q) => ∀ (H : Heap) (locs : List Loc) (ls : Array Slot), va_P D vwCl Wd H → va_D A Wd → va_S A s.heap H locs → lv_has ls nL L → W p l e R s m args below meth c H locs k n Q (F0 m pc ls st)
/-- the same with an exception of the class E under way -/
def VT (l : Launch) (D : va_G) (M : VM) (k n : Nat) (Wd : va_W) (L : List (Nat × Value)) (pc : Nat) (st : List Value) (E : String) : Prop :=
  match M with
  | (p, e, R, s, m, args, below, meth, c, A, nL, Q) => ∀ (H : Heap) (locs : List Loc) (ls : Array Slot) (q : Nat) (ce : Cell), va_P D vwCl Wd H → va_D A Wd → va_S A s.heap H locs → lv_has ls nL L → H[q]? = some ce → ce.vm = .none → s.vm.findClass E = some ce.cls → vx_W p l e R s m args below meth c H locs k n Q (F0 m pc ls st) q
/-- what holds all along a walk of the method of the bytes cc -/
def VX (l : Launch) (D : va_G) (M : VM) (cy : Nat → ClassId) (cc : ByteArray) (own : String) (ret : Option FieldType) (rm : Room) : Prop :=
  match M with
  | (p, e, R, s, m, args, below, meth, c, A, nL, Q) => p.tables.exec = Jvm.exec ∧ c.code = cc ∧ c.maxLocals = nL ∧ s.vm.findClass own = some m.cls ∧ (∀ w ∈ lwG, w.before args s = true) ∧ va_K D vwCl (tysOf cy) s ∧ (∀ q, s.heap.size ≤ q → A q) ∧ meth.locks = false ∧ Amb A s s.heap ∧ l.stackTraces = false ∧ meth.sig.returnType = ret ∧ R = rm
/-- no handlers -/
def VN (M : VM) : Prop := match M with | (p, e, R, s, m, args, below, meth, c, A, nL, Q) => ∀ x ∈ c.exceptionTable.toList, False
def VI (M : VM) : Prop := match M with | (p, e, R, s, m, args, below, meth, c, A, nL, Q) => meth.name = "<init>"
def VB (M : VM) (nL : Nat) : Prop := match M with | (p, e, R, s, m, args, below, meth, c, A, nL', Q) => nL' = nL
def wQ (D : va_G) (A : Nat → Prop) (post : Option Value → va_W → Prop) : Array Value → State → Outcome → State → Prop := fun _ st o t => (∃ (v : Option Value) (u : va_W), o = .returned v ∧ post v u ∧ va_P D vwCl u t.heap ∧ va_D A u) ∧ va_F A st t
def wX (D : va_G) (A : Nat → Prop) (px : String → va_W → Prop) : String → State → State → Prop := fun E st t => (∃ u : va_W, px E u ∧ va_P D vwCl u t.heap ∧ va_D A u) ∧ va_F A st t
/-- what the method owes at its end -/
def EQ9 (D : va_G) (M : VM) (post : Option Value → va_W → Prop) (px : String → va_W → Prop) (rm : Room) : Prop :=
  match M with
  | (p, e, R, s, m, args, below, meth, c, A, nL, Q) => Q = vx_MQ below (wQ D A post) (wX D A px) args s rm.cells rm.slots A
def wPre (D : va_G) (cy : Nat → ClassId) (Wd : va_W) (sz : Nat) (U : State) : Prop := U.heap.size = sz ∧ va_P D vwCl Wd U.heap ∧ va_K D vwCl (tysOf cy) U ∧ va_D (fun _ => True) Wd ∧ Amb (va_A Wd sz) U U.heap
theorem wPre_blind {D : va_G} {cy : Nat → ClassId} {av : List Value} {Wd : va_W} {sz : Nat} : FrameBlind (va_Pc av (wPre D cy Wd sz)) := by
  intro a U g mk h
  obtain ⟨h1, h2, h3, h4, h5, h6⟩ := h
  exact ⟨h1, h2, h3, va_K.moved (u := U) (U := U.calling g mk a) (Vm.Alike.refl U.vm) h4, h5, Amb.moved (u := U) (U := U.calling g mk a) (State.WarmedH.refl U) h6⟩
/-- A CONTRACT: from the world Wd and the arguments av the method y returns v with the world u, 'post v u', or throws an E with the world u, 'px E u' -/
def Ctr (l : Launch) (D : va_G) (cy : Nat → ClassId) (y : MethodName) (cd : Cond) (rm : Room) (av : List Value) (Wd : va_W) (post : Option Value → va_W → Prop) (px : String → va_W → Prop) : Prop :=
  l.stackTraces = false → ∀ sz : Nat, vx_Met l y (cd :: lwG) rm (va_Pc av (wPre D cy Wd sz)) (wQ D (va_A Wd sz) post) (wX D (va_A Wd sz) px) rm.cells rm.slots (va_A Wd sz)
theorem Ctr.of {l : Launch} {D : va_G} {cy : Nat → ClassId} {y : MethodName} {cc : ByteArray} {nL : Nat} {ret : Option FieldType} {rm : Room} {av : List Value} {Wd : va_W} {post : Option Value → va_W → Prop} {px : String → va_W → Prop}
    (hy : plainName y.cls = true) (hlen : (lg_sl av).length ≤ nL)
    (body : ∀ M : VM, VX l D M cy cc y.cls ret rm → EQ9 D M post px rm → VN M → VB M nL → (y.name = "<init>" → VI M) → V l D M 0 0 Wd (lv_args 0 av) 0 []) : Ctr l D cy y (.code y cc nL ret) rm av Wd post px := by
  intro htr sz
  refine vx_ofW (cc := cc) (maxL := nL) (ret := ret) hy rfl ?_
  intro p e s m args below meth c s₁ B hml ht hv
  obtain ⟨rfl, hsz, hP, hK, hD0, hA⟩ := hv
  have hts : ∀ w ∈ lwG, w.before av.toArray s = true := fun w hw => atoms_spec (ws := Cond.code y cc nL ret :: lwG) B.pre w (List.mem_cons_of_mem _ hw)
  subst hsz
  have hl := lv_entry av hlen
  rw [lg_entry_eq]
  exact body (p, e, _, s, m, _, below, meth, c, va_A Wd s.heap.size, nL, _) ⟨B.exec, B.bytes, hml, findClass_of_methodNamed B.named, hts, hK, fun q h => Or.inr h, B.notSynchronized, hA, htr, B.returns, rfl⟩ rfl ht rfl (fun h => (name_of_methodNamed B.named B.method).1.trans h) s.heap [] _ hP hD0.self va_S.rf hl
/-- the value of a local -/
def lk (L : List (Nat × Value)) (i : Nat) : Option Value := match L with
  | [] => none
  | q :: r => if q.1 == i then some q.2 else lk r i
theorem lk_in : ∀ {L : List (Nat × Value)} {i : Nat} {v : Value}, lk L i = some v → (i, v) ∈ L
  | [], _, _, h => by simp [lk] at h
  | q :: r, i, v, h => by
    unfold lk at h
    split at h
    · rename_i hq
      have e : q.1 = i := by simpa using hq
      have e2 : q.2 = v := Option.some.inj h
      rw [← e, ← e2]
      exact List.mem_cons_self
    · exact List.mem_cons_of_mem _ (lk_in h)
theorem lk_at {ls : Array Slot} {nL : Nat} {L : List (Nat × Value)} (h : lv_has ls nL L) {i : Nat} {v : Value} (e : lk L i = some v) : ls[i]? = some (.val v) := h.2.2 (i, v) (lk_in e)
section VR
variable {l : Launch} {D : va_G} {M : VM} {cy : Nat → ClassId} {cc : ByteArray} {own : String} {ret : Option FieldType} {rm : Room} {k n : Nat} {Wd : va_W} {L : List (Nat × Value)} {pc : Nat} {st : List Value}
theorem V.iconst {z : Int} {v : Int32} (X : VX l D M cy cc own ret rm) (hd : decode cc pc = .ok (.iconst z, 1)) (hv : Int32.ofInt z = v) (kk : V l D M k n Wd L (pc + 1) (.int v :: st)) : V l D M k n Wd L pc (st) := by
  obtain ⟨p, e, R, s, m, args, below, meth, c, A, nL, Q⟩ := M
  obtain ⟨hx, hb, hml, ho, hts, hK, hA, hlk, hAm, htr, hrt, rfl⟩ := X
  intro H locs ls hP hD hS hL
  exact lv_iconst hx hb hd hv (kk H locs ls hP hD hS hL)
theorem V.bipush {z : Int} {v : Int32} (X : VX l D M cy cc own ret rm) (hd : decode cc pc = .ok (.bipush z, 2)) (hv : (Int8.ofInt z).toInt32 = v) (kk : V l D M k n Wd L (pc + 2) (.int v :: st)) : V l D M k n Wd L pc (st) := by
  obtain ⟨p, e, R, s, m, args, below, meth, c, A, nL, Q⟩ := M
  obtain ⟨hx, hb, hml, ho, hts, hK, hA, hlk, hAm, htr, hrt, rfl⟩ := X
  intro H locs ls hP hD hS hL
  exact lv_bipush hx hb hd hv (kk H locs ls hP hD hS hL)
theorem V.sipush {z : Int} {v : Int32} (X : VX l D M cy cc own ret rm) (hd : decode cc pc = .ok (.sipush z, 3)) (hv : (Int16.ofInt z).toInt32 = v) (kk : V l D M k n Wd L (pc + 3) (.int v :: st)) : V l D M k n Wd L pc (st) := by
  obtain ⟨p, e, R, s, m, args, below, meth, c, A, nL, Q⟩ := M
  obtain ⟨hx, hb, hml, ho, hts, hK, hA, hlk, hAm, htr, hrt, rfl⟩ := X
  intro H locs ls hP hD hS hL
  exact lv_sipush hx hb hd hv (kk H locs ls hP hD hS hL)
theorem V.lconst {z : Fin 2} {v : Int64} (X : VX l D M cy cc own ret rm) (hd : decode cc pc = .ok (.lconst z, 1)) (hv : Int64.ofNat (z : Nat) = v) (kk : V l D M k n Wd L (pc + 1) (.long v :: st)) : V l D M k n Wd L pc (st) := by
  obtain ⟨p, e, R, s, m, args, below, meth, c, A, nL, Q⟩ := M
  obtain ⟨hx, hb, hml, ho, hts, hK, hA, hlk, hAm, htr, hrt, rfl⟩ := X
  intro H locs ls hP hD hS hL
  exact lv_lconst hx hb hd hv (kk H locs ls hP hD hS hL)
theorem V.iload_n {q : Fin 4} {v : Int32} (X : VX l D M cy cc own ret rm) (hd : decode cc pc = .ok (.iload_n q, 1)) (hl : lk L q = some (.int v)) (kk : V l D M k n Wd L (pc + 1) (.int v :: st)) : V l D M k n Wd L pc (st) := by
  obtain ⟨p, e, R, s, m, args, below, meth, c, A, nL, Q⟩ := M
  obtain ⟨hx, hb, hml, ho, hts, hK, hA, hlk, hAm, htr, hrt, rfl⟩ := X
  intro H locs ls hP hD hS hL
  exact lv_iload_n hx hb hd rfl (lk_at hL hl) (kk H locs ls hP hD hS hL)
theorem V.iload {i : Nat} {v : Int32} (X : VX l D M cy cc own ret rm) (hd : decode cc pc = .ok (.iload i, 2)) (hl : lk L i = some (.int v)) (kk : V l D M k n Wd L (pc + 2) (.int v :: st)) : V l D M k n Wd L pc (st) := by
  obtain ⟨p, e, R, s, m, args, below, meth, c, A, nL, Q⟩ := M
  obtain ⟨hx, hb, hml, ho, hts, hK, hA, hlk, hAm, htr, hrt, rfl⟩ := X
  intro H locs ls hP hD hS hL
  exact lv_iload hx hb hd (lk_at hL hl) (kk H locs ls hP hD hS hL)
theorem V.aload_n {q : Fin 4} {v : Nat} (X : VX l D M cy cc own ret rm) (hd : decode cc pc = .ok (.aload_n q, 1)) (hl : lk L q = some (.ref v)) (kk : V l D M k n Wd L (pc + 1) (.ref v :: st)) : V l D M k n Wd L pc (st) := by
  obtain ⟨p, e, R, s, m, args, below, meth, c, A, nL, Q⟩ := M
  obtain ⟨hx, hb, hml, ho, hts, hK, hA, hlk, hAm, htr, hrt, rfl⟩ := X
  intro H locs ls hP hD hS hL
  exact lv_aload_n hx hb hd rfl (lk_at hL hl) (kk H locs ls hP hD hS hL)
theorem V.aload {i : Nat} {v : Nat} (X : VX l D M cy cc own ret rm) (hd : decode cc pc = .ok (.aload i, 2)) (hl : lk L i = some (.ref v)) (kk : V l D M k n Wd L (pc + 2) (.ref v :: st)) : V l D M k n Wd L pc (st) := by
  obtain ⟨p, e, R, s, m, args, below, meth, c, A, nL, Q⟩ := M
  obtain ⟨hx, hb, hml, ho, hts, hK, hA, hlk, hAm, htr, hrt, rfl⟩ := X
  intro H locs ls hP hD hS hL
  exact lv_aload hx hb hd (lk_at hL hl) (kk H locs ls hP hD hS hL)
theorem V.fload_n {q : Fin 4} {v : UInt32} (X : VX l D M cy cc own ret rm) (hd : decode cc pc = .ok (.fload_n q, 1)) (hl : lk L q = some (.float v)) (kk : V l D M k n Wd L (pc + 1) (.float v :: st)) : V l D M k n Wd L pc (st) := by
  obtain ⟨p, e, R, s, m, args, below, meth, c, A, nL, Q⟩ := M
  obtain ⟨hx, hb, hml, ho, hts, hK, hA, hlk, hAm, htr, hrt, rfl⟩ := X
  intro H locs ls hP hD hS hL
  exact lv_fload_n hx hb hd rfl (lk_at hL hl) (kk H locs ls hP hD hS hL)
theorem V.fload {i : Nat} {v : UInt32} (X : VX l D M cy cc own ret rm) (hd : decode cc pc = .ok (.fload i, 2)) (hl : lk L i = some (.float v)) (kk : V l D M k n Wd L (pc + 2) (.float v :: st)) : V l D M k n Wd L pc (st) := by
  obtain ⟨p, e, R, s, m, args, below, meth, c, A, nL, Q⟩ := M
  obtain ⟨hx, hb, hml, ho, hts, hK, hA, hlk, hAm, htr, hrt, rfl⟩ := X
  intro H locs ls hP hD hS hL
  exact lv_fload hx hb hd (lk_at hL hl) (kk H locs ls hP hD hS hL)
theorem V.dload_n {q : Fin 4} {v : UInt64} (X : VX l D M cy cc own ret rm) (hd : decode cc pc = .ok (.dload_n q, 1)) (hl : lk L q = some (.double v)) (kk : V l D M k n Wd L (pc + 1) (.double v :: st)) : V l D M k n Wd L pc (st) := by
  obtain ⟨p, e, R, s, m, args, below, meth, c, A, nL, Q⟩ := M
  obtain ⟨hx, hb, hml, ho, hts, hK, hA, hlk, hAm, htr, hrt, rfl⟩ := X
  intro H locs ls hP hD hS hL
  exact lv_dload_n hx hb hd rfl (lk_at hL hl) (kk H locs ls hP hD hS hL)
theorem V.dload {i : Nat} {v : UInt64} (X : VX l D M cy cc own ret rm) (hd : decode cc pc = .ok (.dload i, 2)) (hl : lk L i = some (.double v)) (kk : V l D M k n Wd L (pc + 2) (.double v :: st)) : V l D M k n Wd L pc (st) := by
  obtain ⟨p, e, R, s, m, args, below, meth, c, A, nL, Q⟩ := M
  obtain ⟨hx, hb, hml, ho, hts, hK, hA, hlk, hAm, htr, hrt, rfl⟩ := X
  intro H locs ls hP hD hS hL
  exact lv_dload hx hb hd (lk_at hL hl) (kk H locs ls hP hD hS hL)
theorem V.istore_n {q : Fin 4} {i nL9 : Nat} {v : Int32} {L' : List (Nat × Value)} (X : VX l D M cy cc own ret rm) (hd : decode cc pc = .ok (.istore_n q, 1)) (hi : (q : Nat) = i) (hB : VB M nL9) (hn : i < nL9) (hl : (i, Value.int v) :: L.filter (fun q => !(q.1 == i) && !(q.1 + 1 == i && q.2.category == 2)) = L') (kk : V l D M k n Wd L' (pc + 1) (st)) : V l D M k n Wd L pc (.int v :: st) := by
  obtain ⟨p, e, R, s, m, args, below, meth, c, A, nL, Q⟩ := M
  obtain ⟨hx, hb, hml, ho, hts, hK, hA, hlk, hAm, htr, hrt, rfl⟩ := X
  intro H locs ls hP hD hS hL
  exact lv_istore_n hx hb hd hi hL (by rw [show nL = nL9 from hB]; exact hn) hl (fun ls' hL' => kk H locs ls' hP hD hS hL')
theorem V.istore {i nL9 : Nat} {v : Int32} {L' : List (Nat × Value)} (X : VX l D M cy cc own ret rm) (hd : decode cc pc = .ok (.istore i, 2)) (hB : VB M nL9) (hn : i < nL9) (hl : (i, Value.int v) :: L.filter (fun q => !(q.1 == i) && !(q.1 + 1 == i && q.2.category == 2)) = L') (kk : V l D M k n Wd L' (pc + 2) (st)) : V l D M k n Wd L pc (.int v :: st) := by
  obtain ⟨p, e, R, s, m, args, below, meth, c, A, nL, Q⟩ := M
  obtain ⟨hx, hb, hml, ho, hts, hK, hA, hlk, hAm, htr, hrt, rfl⟩ := X
  intro H locs ls hP hD hS hL
  exact lv_istore hx hb hd hL (by rw [show nL = nL9 from hB]; exact hn) hl (fun ls' hL' => kk H locs ls' hP hD hS hL')
theorem V.astore_n {q : Fin 4} {i nL9 : Nat} {v : Nat} {L' : List (Nat × Value)} (X : VX l D M cy cc own ret rm) (hd : decode cc pc = .ok (.astore_n q, 1)) (hi : (q : Nat) = i) (hB : VB M nL9) (hn : i < nL9) (hl : (i, Value.ref v) :: L.filter (fun q => !(q.1 == i) && !(q.1 + 1 == i && q.2.category == 2)) = L') (kk : V l D M k n Wd L' (pc + 1) (st)) : V l D M k n Wd L pc (.ref v :: st) := by
  obtain ⟨p, e, R, s, m, args, below, meth, c, A, nL, Q⟩ := M
  obtain ⟨hx, hb, hml, ho, hts, hK, hA, hlk, hAm, htr, hrt, rfl⟩ := X
  intro H locs ls hP hD hS hL
  exact lv_astore_n hx hb hd hi hL (by rw [show nL = nL9 from hB]; exact hn) hl (fun ls' hL' => kk H locs ls' hP hD hS hL')
theorem V.astore {i nL9 : Nat} {v : Nat} {L' : List (Nat × Value)} (X : VX l D M cy cc own ret rm) (hd : decode cc pc = .ok (.astore i, 2)) (hB : VB M nL9) (hn : i < nL9) (hl : (i, Value.ref v) :: L.filter (fun q => !(q.1 == i) && !(q.1 + 1 == i && q.2.category == 2)) = L') (kk : V l D M k n Wd L' (pc + 2) (st)) : V l D M k n Wd L pc (.ref v :: st) := by
  obtain ⟨p, e, R, s, m, args, below, meth, c, A, nL, Q⟩ := M
  obtain ⟨hx, hb, hml, ho, hts, hK, hA, hlk, hAm, htr, hrt, rfl⟩ := X
  intro H locs ls hP hD hS hL
  exact lv_astore hx hb hd hL (by rw [show nL = nL9 from hB]; exact hn) hl (fun ls' hL' => kk H locs ls' hP hD hS hL')
theorem V.fstore_n {q : Fin 4} {i nL9 : Nat} {v : UInt32} {L' : List (Nat × Value)} (X : VX l D M cy cc own ret rm) (hd : decode cc pc = .ok (.fstore_n q, 1)) (hi : (q : Nat) = i) (hB : VB M nL9) (hn : i < nL9) (hl : (i, Value.float v) :: L.filter (fun q => !(q.1 == i) && !(q.1 + 1 == i && q.2.category == 2)) = L') (kk : V l D M k n Wd L' (pc + 1) (st)) : V l D M k n Wd L pc (.float v :: st) := by
  obtain ⟨p, e, R, s, m, args, below, meth, c, A, nL, Q⟩ := M
  obtain ⟨hx, hb, hml, ho, hts, hK, hA, hlk, hAm, htr, hrt, rfl⟩ := X
  intro H locs ls hP hD hS hL
  exact lv_fstore_n hx hb hd hi hL (by rw [show nL = nL9 from hB]; exact hn) hl (fun ls' hL' => kk H locs ls' hP hD hS hL')
theorem V.fstore {i nL9 : Nat} {v : UInt32} {L' : List (Nat × Value)} (X : VX l D M cy cc own ret rm) (hd : decode cc pc = .ok (.fstore i, 2)) (hB : VB M nL9) (hn : i < nL9) (hl : (i, Value.float v) :: L.filter (fun q => !(q.1 == i) && !(q.1 + 1 == i && q.2.category == 2)) = L') (kk : V l D M k n Wd L' (pc + 2) (st)) : V l D M k n Wd L pc (.float v :: st) := by
  obtain ⟨p, e, R, s, m, args, below, meth, c, A, nL, Q⟩ := M
  obtain ⟨hx, hb, hml, ho, hts, hK, hA, hlk, hAm, htr, hrt, rfl⟩ := X
  intro H locs ls hP hD hS hL
  exact lv_fstore hx hb hd hL (by rw [show nL = nL9 from hB]; exact hn) hl (fun ls' hL' => kk H locs ls' hP hD hS hL')
theorem V.dstore {i nL9 : Nat} {v : UInt64} {L' : List (Nat × Value)} (X : VX l D M cy cc own ret rm) (hd : decode cc pc = .ok (.dstore i, 2)) (hB : VB M nL9) (hn : i + 1 < nL9) (hl : (i, Value.double v) :: L.filter (fun q => !(q.1 == i) && (!(q.1 == i + 1) && !(q.1 + 1 == i && q.2.category == 2))) = L') (kk : V l D M k n Wd L' (pc + 2) (st)) : V l D M k n Wd L pc (.double v :: st) := by
  obtain ⟨p, e, R, s, m, args, below, meth, c, A, nL, Q⟩ := M
  obtain ⟨hx, hb, hml, ho, hts, hK, hA, hlk, hAm, htr, hrt, rfl⟩ := X
  intro H locs ls hP hD hS hL
  exact lv_dstore hx hb hd hL (by rw [show nL = nL9 from hB]; exact hn) hl (fun ls' hL' => kk H locs ls' hP hD hS hL')
theorem lk_pos : ∀ {L : List (Nat × Value)} {i : Nat} {v : Value}, lk L i = some v → ∃ j : Nat, L[j]? = some (i, v) := fun h => List.getElem?_of_mem (lk_in h)
theorem V.iinc {i nL9 : Nat} {z : Int} {x v : Int32} {L' : List (Nat × Value)} (X : VX l D M cy cc own ret rm) (hd : decode cc pc = .ok (.iinc i z, 3)) (h0 : lk L i = some (.int x)) (hv : x + Int32.ofInt z = v) (hB : VB M nL9) (hn : i < nL9) (hl : (i, Value.int v) :: L.filter (fun q => !(q.1 == i) && !(q.1 + 1 == i && q.2.category == 2)) = L') (kk : V l D M k n Wd L' (pc + 3) st) : V l D M k n Wd L pc st := by
  obtain ⟨j, hj⟩ := lk_pos h0
  obtain ⟨p, e, R, s, m, args, below, meth, c, A, nL, Q⟩ := M
  obtain ⟨hx, hb, hml, ho, hts, hK, hA, hlk, hAm, htr, hrt, rfl⟩ := X
  intro H locs ls hP hD hS hL
  exact lv_iinc hx hb hd hL hj hv (by rw [show nL = nL9 from hB]; exact hn) hl (fun ls' hL' => kk H locs ls' hP hD hS hL')
theorem V.iadd {x y v : Int32} (X : VX l D M cy cc own ret rm) (hd : decode cc pc = .ok (.iadd, 1)) (hv : x + y = v) (kk : V l D M k n Wd L (pc + 1) (.int v :: st)) : V l D M k n Wd L pc (.int y :: .int x :: st) := by
  obtain ⟨p, e, R, s, m, args, below, meth, c, A, nL, Q⟩ := M
  obtain ⟨hx, hb, hml, ho, hts, hK, hA, hlk, hAm, htr, hrt, rfl⟩ := X
  intro H locs ls hP hD hS hL
  exact lv_iadd hx hb hd (by rw [hv]; exact kk H locs ls hP hD hS hL)
theorem V.isub {x y v : Int32} (X : VX l D M cy cc own ret rm) (hd : decode cc pc = .ok (.isub, 1)) (hv : x - y = v) (kk : V l D M k n Wd L (pc + 1) (.int v :: st)) : V l D M k n Wd L pc (.int y :: .int x :: st) := by
  obtain ⟨p, e, R, s, m, args, below, meth, c, A, nL, Q⟩ := M
  obtain ⟨hx, hb, hml, ho, hts, hK, hA, hlk, hAm, htr, hrt, rfl⟩ := X
  intro H locs ls hP hD hS hL
  exact lv_isub hx hb hd (by rw [hv]; exact kk H locs ls hP hD hS hL)
theorem V.imul {x y v : Int32} (X : VX l D M cy cc own ret rm) (hd : decode cc pc = .ok (.imul, 1)) (hv : x * y = v) (kk : V l D M k n Wd L (pc + 1) (.int v :: st)) : V l D M k n Wd L pc (.int y :: .int x :: st) := by
  obtain ⟨p, e, R, s, m, args, below, meth, c, A, nL, Q⟩ := M
  obtain ⟨hx, hb, hml, ho, hts, hK, hA, hlk, hAm, htr, hrt, rfl⟩ := X
  intro H locs ls hP hD hS hL
  exact lv_imul hx hb hd (by rw [hv]; exact kk H locs ls hP hD hS hL)
theorem V.iand {x y v : Int32} (X : VX l D M cy cc own ret rm) (hd : decode cc pc = .ok (.iand, 1)) (hv : x &&& y = v) (kk : V l D M k n Wd L (pc + 1) (.int v :: st)) : V l D M k n Wd L pc (.int y :: .int x :: st) := by
  obtain ⟨p, e, R, s, m, args, below, meth, c, A, nL, Q⟩ := M
  obtain ⟨hx, hb, hml, ho, hts, hK, hA, hlk, hAm, htr, hrt, rfl⟩ := X
  intro H locs ls hP hD hS hL
  exact lv_iand hx hb hd (by rw [hv]; exact kk H locs ls hP hD hS hL)
theorem V.ior {x y v : Int32} (X : VX l D M cy cc own ret rm) (hd : decode cc pc = .ok (.ior, 1)) (hv : x ||| y = v) (kk : V l D M k n Wd L (pc + 1) (.int v :: st)) : V l D M k n Wd L pc (.int y :: .int x :: st) := by
  obtain ⟨p, e, R, s, m, args, below, meth, c, A, nL, Q⟩ := M
  obtain ⟨hx, hb, hml, ho, hts, hK, hA, hlk, hAm, htr, hrt, rfl⟩ := X
  intro H locs ls hP hD hS hL
  exact lv_ior hx hb hd (by rw [hv]; exact kk H locs ls hP hD hS hL)
theorem V.ishl {x y v : Int32} (X : VX l D M cy cc own ret rm) (hd : decode cc pc = .ok (.ishl, 1)) (hv : x <<< (y &&& 31) = v) (kk : V l D M k n Wd L (pc + 1) (.int v :: st)) : V l D M k n Wd L pc (.int y :: .int x :: st) := by
  obtain ⟨p, e, R, s, m, args, below, meth, c, A, nL, Q⟩ := M
  obtain ⟨hx, hb, hml, ho, hts, hK, hA, hlk, hAm, htr, hrt, rfl⟩ := X
  intro H locs ls hP hD hS hL
  exact lv_ishl hx hb hd (by rw [hv]; exact kk H locs ls hP hD hS hL)
theorem V.ishr {x y v : Int32} (X : VX l D M cy cc own ret rm) (hd : decode cc pc = .ok (.ishr, 1)) (hv : x >>> (y &&& 31) = v) (kk : V l D M k n Wd L (pc + 1) (.int v :: st)) : V l D M k n Wd L pc (.int y :: .int x :: st) := by
  obtain ⟨p, e, R, s, m, args, below, meth, c, A, nL, Q⟩ := M
  obtain ⟨hx, hb, hml, ho, hts, hK, hA, hlk, hAm, htr, hrt, rfl⟩ := X
  intro H locs ls hP hD hS hL
  exact lv_ishr hx hb hd (by rw [hv]; exact kk H locs ls hP hD hS hL)
theorem V.iushr {x y v : Int32} (X : VX l D M cy cc own ret rm) (hd : decode cc pc = .ok (.iushr, 1)) (hv : (x.toUInt32 >>> (y.toUInt32 &&& Int32.toUInt32 31)).toInt32 = v) (kk : V l D M k n Wd L (pc + 1) (.int v :: st)) : V l D M k n Wd L pc (.int y :: .int x :: st) := by
  obtain ⟨p, e, R, s, m, args, below, meth, c, A, nL, Q⟩ := M
  obtain ⟨hx, hb, hml, ho, hts, hK, hA, hlk, hAm, htr, hrt, rfl⟩ := X
  intro H locs ls hP hD hS hL
  exact lv_iushr hx hb hd hv (kk H locs ls hP hD hS hL)
theorem V.ineg {x v : Int32} (X : VX l D M cy cc own ret rm) (hd : decode cc pc = .ok (.ineg, 1)) (hv : -x = v) (kk : V l D M k n Wd L (pc + 1) (.int v :: st)) : V l D M k n Wd L pc (.int x :: st) := by
  obtain ⟨p, e, R, s, m, args, below, meth, c, A, nL, Q⟩ := M
  obtain ⟨hx, hb, hml, ho, hts, hK, hA, hlk, hAm, htr, hrt, rfl⟩ := X
  intro H locs ls hP hD hS hL
  exact lv_ineg hx hb hd (by rw [hv]; exact kk H locs ls hP hD hS hL)
theorem V.idiv {x y v : Int32} (X : VX l D M cy cc own ret rm) (hd : decode cc pc = .ok (.idiv, 1)) (hy : ¬ y = 0) (hv : x / y = v) (kk : V l D M k n Wd L (pc + 1) (.int v :: st)) : V l D M k n Wd L pc (.int y :: .int x :: st) := by
  obtain ⟨p, e, R, s, m, args, below, meth, c, A, nL, Q⟩ := M
  obtain ⟨hx, hb, hml, ho, hts, hK, hA, hlk, hAm, htr, hrt, rfl⟩ := X
  intro H locs ls hP hD hS hL
  exact lv_idiv hx hb hd hy (by rw [hv]; exact kk H locs ls hP hD hS hL)
theorem V.i2l {x : Int32} {v : Int64} (X : VX l D M cy cc own ret rm) (hd : decode cc pc = .ok (.i2l, 1)) (hv : x.toInt64 = v) (kk : V l D M k n Wd L (pc + 1) (.long v :: st)) : V l D M k n Wd L pc (.int x :: st) := by
  obtain ⟨p, e, R, s, m, args, below, meth, c, A, nL, Q⟩ := M
  obtain ⟨hx, hb, hml, ho, hts, hK, hA, hlk, hAm, htr, hrt, rfl⟩ := X
  intro H locs ls hP hD hS hL
  exact lv_i2l hx hb hd hv (kk H locs ls hP hD hS hL)
theorem V.i2c {x v : Int32} (X : VX l D M cy cc own ret rm) (hd : decode cc pc = .ok (.i2c, 1)) (hv : (x.toUInt32 % 65536).toInt32 = v) (kk : V l D M k n Wd L (pc + 1) (.int v :: st)) : V l D M k n Wd L pc (.int x :: st) := by
  obtain ⟨p, e, R, s, m, args, below, meth, c, A, nL, Q⟩ := M
  obtain ⟨hx, hb, hml, ho, hts, hK, hA, hlk, hAm, htr, hrt, rfl⟩ := X
  intro H locs ls hP hD hS hL
  exact lv_i2c hx hb hd hv (kk H locs ls hP hD hS hL)
theorem V.i2b {x v : Int32} (X : VX l D M cy cc own ret rm) (hd : decode cc pc = .ok (.i2b, 1)) (hv : x.toInt8.toInt32 = v) (kk : V l D M k n Wd L (pc + 1) (.int v :: st)) : V l D M k n Wd L pc (.int x :: st) := by
  obtain ⟨p, e, R, s, m, args, below, meth, c, A, nL, Q⟩ := M
  obtain ⟨hx, hb, hml, ho, hts, hK, hA, hlk, hAm, htr, hrt, rfl⟩ := X
  intro H locs ls hP hD hS hL
  exact lv_i2b hx hb hd hv (kk H locs ls hP hD hS hL)
theorem V.i2f {x : Int32} (X : VX l D M cy cc own ret rm) (hd : decode cc pc = .ok (.i2f, 1)) (kk : V l D M k n Wd L (pc + 1) (.float (FP.i2f x) :: st)) : V l D M k n Wd L pc (.int x :: st) := by
  obtain ⟨p, e, R, s, m, args, below, meth, c, A, nL, Q⟩ := M
  obtain ⟨hx, hb, hml, ho, hts, hK, hA, hlk, hAm, htr, hrt, rfl⟩ := X
  intro H locs ls hP hD hS hL
  exact lv_i2f hx hb hd (kk H locs ls hP hD hS hL)
theorem V.i2d {x : Int32} (X : VX l D M cy cc own ret rm) (hd : decode cc pc = .ok (.i2d, 1)) (kk : V l D M k n Wd L (pc + 1) (.double (FP.i2d x) :: st)) : V l D M k n Wd L pc (.int x :: st) := by
  obtain ⟨p, e, R, s, m, args, below, meth, c, A, nL, Q⟩ := M
  obtain ⟨hx, hb, hml, ho, hts, hK, hA, hlk, hAm, htr, hrt, rfl⟩ := X
  intro H locs ls hP hD hS hL
  exact lv_i2d hx hb hd (kk H locs ls hP hD hS hL)
theorem V.f2d {x : UInt32} (X : VX l D M cy cc own ret rm) (hd : decode cc pc = .ok (.f2d, 1)) (hne : vf_n64 (FP.f2d x)) (kk : V l D M k n Wd L (pc + 1) (.double (FP.f2d x) :: st)) : V l D M k n Wd L pc (.float x :: st) := by
  obtain ⟨p, e, R, s, m, args, below, meth, c, A, nL, Q⟩ := M
  obtain ⟨hx, hb, hml, ho, hts, hK, hA, hlk, hAm, htr, hrt, rfl⟩ := X
  intro H locs ls hP hD hS hL
  exact lv_f2d hx hb hd hne (kk H locs ls hP hD hS hL)
theorem V.fdiv {x y : UInt32} (X : VX l D M cy cc own ret rm) (hd : decode cc pc = .ok (.fdiv, 1)) (hne : vf_n32 (FP.fdiv x y)) (kk : V l D M k n Wd L (pc + 1) (.float (FP.fdiv x y) :: st)) : V l D M k n Wd L pc (.float y :: .float x :: st) := by
  obtain ⟨p, e, R, s, m, args, below, meth, c, A, nL, Q⟩ := M
  obtain ⟨hx, hb, hml, ho, hts, hK, hA, hlk, hAm, htr, hrt, rfl⟩ := X
  intro H locs ls hP hD hS hL
  exact lv_fdiv hx hb hd hne (kk H locs ls hP hD hS hL)
theorem V.ddiv {x y : UInt64} (X : VX l D M cy cc own ret rm) (hd : decode cc pc = .ok (.ddiv, 1)) (hne : vf_n64 (FP.ddiv x y)) (kk : V l D M k n Wd L (pc + 1) (.double (FP.ddiv x y) :: st)) : V l D M k n Wd L pc (.double y :: .double x :: st) := by
  obtain ⟨p, e, R, s, m, args, below, meth, c, A, nL, Q⟩ := M
  obtain ⟨hx, hb, hml, ho, hts, hK, hA, hlk, hAm, htr, hrt, rfl⟩ := X
  intro H locs ls hP hD hS hL
  exact lv_ddiv hx hb hd hne (kk H locs ls hP hD hS hL)
theorem V.fcmp {x y : UInt32} {op : CmpOp} (X : VX l D M cy cc own ret rm) (hd : decode cc pc = .ok (.fcmp op, 1)) (kk : V l D M k n Wd L (pc + 1) (.int (Op.cmpValue (FP.fcmp x y) op) :: st)) : V l D M k n Wd L pc (.float y :: .float x :: st) := by
  obtain ⟨p, e, R, s, m, args, below, meth, c, A, nL, Q⟩ := M
  obtain ⟨hx, hb, hml, ho, hts, hK, hA, hlk, hAm, htr, hrt, rfl⟩ := X
  intro H locs ls hP hD hS hL
  exact lv_fcmp hx hb hd (kk H locs ls hP hD hS hL)
theorem V.dcmp {x y : UInt64} {op : CmpOp} (X : VX l D M cy cc own ret rm) (hd : decode cc pc = .ok (.dcmp op, 1)) (kk : V l D M k n Wd L (pc + 1) (.int (Op.cmpValue (FP.dcmp x y) op) :: st)) : V l D M k n Wd L pc (.double y :: .double x :: st) := by
  obtain ⟨p, e, R, s, m, args, below, meth, c, A, nL, Q⟩ := M
  obtain ⟨hx, hb, hml, ho, hts, hK, hA, hlk, hAm, htr, hrt, rfl⟩ := X
  intro H locs ls hP hD hS hL
  exact lv_dcmp hx hb hd (kk H locs ls hP hD hS hL)
theorem V.ladd {x y v : Int64} (X : VX l D M cy cc own ret rm) (hd : decode cc pc = .ok (.ladd, 1)) (hv : x + y = v) (kk : V l D M k n Wd L (pc + 1) (.long v :: st)) : V l D M k n Wd L pc (.long y :: .long x :: st) := by
  obtain ⟨p, e, R, s, m, args, below, meth, c, A, nL, Q⟩ := M
  obtain ⟨hx, hb, hml, ho, hts, hK, hA, hlk, hAm, htr, hrt, rfl⟩ := X
  intro H locs ls hP hD hS hL
  exact lv_ladd hx hb hd (by rw [hv]; exact kk H locs ls hP hD hS hL)
theorem V.lcmp {x y : Int64} {v : Int32} (X : VX l D M cy cc own ret rm) (hd : decode cc pc = .ok (.lcmp, 1)) (hv : lg_cmp x y = v) (kk : V l D M k n Wd L (pc + 1) (.int v :: st)) : V l D M k n Wd L pc (.long y :: .long x :: st) := by
  obtain ⟨p, e, R, s, m, args, below, meth, c, A, nL, Q⟩ := M
  obtain ⟨hx, hb, hml, ho, hts, hK, hA, hlk, hAm, htr, hrt, rfl⟩ := X
  intro H locs ls hP hD hS hL
  exact W.lcmp hx hb hd (by rw [hv]; exact kk H locs ls hP hD hS hL)
theorem V.dup {v : Value} (X : VX l D M cy cc own ret rm) (hd : decode cc pc = .ok (.dup, 1)) (hv : v.category = 1) (kk : V l D M k n Wd L (pc + 1) (v :: v :: st)) : V l D M k n Wd L pc (v :: st) := by
  obtain ⟨p, e, R, s, m, args, below, meth, c, A, nL, Q⟩ := M
  obtain ⟨hx, hb, hml, ho, hts, hK, hA, hlk, hAm, htr, hrt, rfl⟩ := X
  intro H locs ls hP hD hS hL
  exact lv_dup hx hb hd hv (kk H locs ls hP hD hS hL)
theorem V.pop {v : Value} (X : VX l D M cy cc own ret rm) (hd : decode cc pc = .ok (.pop, 1)) (hv : v.category = 1) (kk : V l D M k n Wd L (pc + 1) (st)) : V l D M k n Wd L pc (v :: st) := by
  obtain ⟨p, e, R, s, m, args, below, meth, c, A, nL, Q⟩ := M
  obtain ⟨hx, hb, hml, ho, hts, hK, hA, hlk, hAm, htr, hrt, rfl⟩ := X
  intro H locs ls hP hD hS hL
  exact lv_pop hx hb hd hv (kk H locs ls hP hD hS hL)
theorem V.dup_x1 {v u : Value} (X : VX l D M cy cc own ret rm) (hd : decode cc pc = .ok (.dup_x1, 1)) (hv : v.category = 1) (hu : u.category = 1) (kk : V l D M k n Wd L (pc + 1) (v :: u :: v :: st)) : V l D M k n Wd L pc (v :: u :: st) := by
  obtain ⟨p, e, R, s, m, args, below, meth, c, A, nL, Q⟩ := M
  obtain ⟨hx, hb, hml, ho, hts, hK, hA, hlk, hAm, htr, hrt, rfl⟩ := X
  intro H locs ls hP hD hS hL
  exact lv_dup_x1 hx hb hd hv hu (kk H locs ls hP hD hS hL)
theorem V.dup2 {v u : Value} (X : VX l D M cy cc own ret rm) (hd : decode cc pc = .ok (.dup2, 1)) (hv : v.category = 1) (hu : u.category = 1) (kk : V l D M k n Wd L (pc + 1) (v :: u :: v :: u :: st)) : V l D M k n Wd L pc (v :: u :: st) := by
  obtain ⟨p, e, R, s, m, args, below, meth, c, A, nL, Q⟩ := M
  obtain ⟨hx, hb, hml, ho, hts, hK, hA, hlk, hAm, htr, hrt, rfl⟩ := X
  intro H locs ls hP hD hS hL
  exact lv_dup2_11 hx hb hd hv hu (kk H locs ls hP hD hS hL)
theorem V.goto {z : Int} {tgt : Nat} (X : VX l D M cy cc own ret rm) (hd : decode cc pc = .ok (.goto z, 3)) (ht : (pc : Int) + z = (tgt : Int)) (kk : V l D M k n Wd L (tgt) (st)) : V l D M k n Wd L pc (st) := by
  obtain ⟨p, e, R, s, m, args, below, meth, c, A, nL, Q⟩ := M
  obtain ⟨hx, hb, hml, ho, hts, hK, hA, hlk, hAm, htr, hrt, rfl⟩ := X
  intro H locs ls hP hD hS hL
  exact lv_goto hx hb hd ht (kk H locs ls hP hD hS hL)
theorem V.if_eq {x  : Int32} {z : Int} {tgt : Nat} {Ct Cf : Prop} (X : VX l D M cy cc own ret rm) (hd : decode cc pc = .ok (.ifCond .eq z, 3)) (ht : (pc : Int) + z = (tgt : Int)) (ct : x = 0 → Ct) (cf : ¬ x = 0 → Cf) (kt : Ct → V l D M k n Wd L tgt st) (kf : Cf → V l D M k n Wd L (pc + 3) st) : V l D M k n Wd L pc (.int x :: st) := by
  obtain ⟨p, e, R, s, m, args, below, meth, c, A, nL, Q⟩ := M
  obtain ⟨hx, hb, hml, ho, hts, hK, hA, hlk, hAm, htr, hrt, rfl⟩ := X
  intro H locs ls hP hD hS hL
  exact lv_if_eq hx hb hd ht (fun h => kt (ct h) H locs ls hP hD hS hL) (fun h => kf (cf h) H locs ls hP hD hS hL)
theorem V.if_ne {x  : Int32} {z : Int} {tgt : Nat} {Ct Cf : Prop} (X : VX l D M cy cc own ret rm) (hd : decode cc pc = .ok (.ifCond .ne z, 3)) (ht : (pc : Int) + z = (tgt : Int)) (ct : ¬ x = 0 → Ct) (cf : x = 0 → Cf) (kt : Ct → V l D M k n Wd L tgt st) (kf : Cf → V l D M k n Wd L (pc + 3) st) : V l D M k n Wd L pc (.int x :: st) := by
  obtain ⟨p, e, R, s, m, args, below, meth, c, A, nL, Q⟩ := M
  obtain ⟨hx, hb, hml, ho, hts, hK, hA, hlk, hAm, htr, hrt, rfl⟩ := X
  intro H locs ls hP hD hS hL
  exact lv_if_ne hx hb hd ht (fun h => kt (ct h) H locs ls hP hD hS hL) (fun h => kf (cf h) H locs ls hP hD hS hL)
theorem V.if_lt {x  : Int32} {z : Int} {tgt : Nat} {Ct Cf : Prop} (X : VX l D M cy cc own ret rm) (hd : decode cc pc = .ok (.ifCond .lt z, 3)) (ht : (pc : Int) + z = (tgt : Int)) (ct : x < 0 → Ct) (cf : ¬ x < 0 → Cf) (kt : Ct → V l D M k n Wd L tgt st) (kf : Cf → V l D M k n Wd L (pc + 3) st) : V l D M k n Wd L pc (.int x :: st) := by
  obtain ⟨p, e, R, s, m, args, below, meth, c, A, nL, Q⟩ := M
  obtain ⟨hx, hb, hml, ho, hts, hK, hA, hlk, hAm, htr, hrt, rfl⟩ := X
  intro H locs ls hP hD hS hL
  exact lv_if_lt hx hb hd ht (fun h => kt (ct h) H locs ls hP hD hS hL) (fun h => kf (cf h) H locs ls hP hD hS hL)
theorem V.if_ge {x  : Int32} {z : Int} {tgt : Nat} {Ct Cf : Prop} (X : VX l D M cy cc own ret rm) (hd : decode cc pc = .ok (.ifCond .ge z, 3)) (ht : (pc : Int) + z = (tgt : Int)) (ct : 0 ≤ x → Ct) (cf : ¬ 0 ≤ x → Cf) (kt : Ct → V l D M k n Wd L tgt st) (kf : Cf → V l D M k n Wd L (pc + 3) st) : V l D M k n Wd L pc (.int x :: st) := by
  obtain ⟨p, e, R, s, m, args, below, meth, c, A, nL, Q⟩ := M
  obtain ⟨hx, hb, hml, ho, hts, hK, hA, hlk, hAm, htr, hrt, rfl⟩ := X
  intro H locs ls hP hD hS hL
  exact lv_if_ge hx hb hd ht (fun h => kt (ct h) H locs ls hP hD hS hL) (fun h => kf (cf h) H locs ls hP hD hS hL)
theorem V.if_gt {x  : Int32} {z : Int} {tgt : Nat} {Ct Cf : Prop} (X : VX l D M cy cc own ret rm) (hd : decode cc pc = .ok (.ifCond .gt z, 3)) (ht : (pc : Int) + z = (tgt : Int)) (ct : 0 < x → Ct) (cf : ¬ 0 < x → Cf) (kt : Ct → V l D M k n Wd L tgt st) (kf : Cf → V l D M k n Wd L (pc + 3) st) : V l D M k n Wd L pc (.int x :: st) := by
  obtain ⟨p, e, R, s, m, args, below, meth, c, A, nL, Q⟩ := M
  obtain ⟨hx, hb, hml, ho, hts, hK, hA, hlk, hAm, htr, hrt, rfl⟩ := X
  intro H locs ls hP hD hS hL
  exact lv_if_gt hx hb hd ht (fun h => kt (ct h) H locs ls hP hD hS hL) (fun h => kf (cf h) H locs ls hP hD hS hL)
theorem V.if_le {x  : Int32} {z : Int} {tgt : Nat} {Ct Cf : Prop} (X : VX l D M cy cc own ret rm) (hd : decode cc pc = .ok (.ifCond .le z, 3)) (ht : (pc : Int) + z = (tgt : Int)) (ct : x ≤ 0 → Ct) (cf : ¬ x ≤ 0 → Cf) (kt : Ct → V l D M k n Wd L tgt st) (kf : Cf → V l D M k n Wd L (pc + 3) st) : V l D M k n Wd L pc (.int x :: st) := by
  obtain ⟨p, e, R, s, m, args, below, meth, c, A, nL, Q⟩ := M
  obtain ⟨hx, hb, hml, ho, hts, hK, hA, hlk, hAm, htr, hrt, rfl⟩ := X
  intro H locs ls hP hD hS hL
  exact lv_if_le hx hb hd ht (fun h => kt (ct h) H locs ls hP hD hS hL) (fun h => kf (cf h) H locs ls hP hD hS hL)
theorem V.icmp_eq {x y : Int32} {z : Int} {tgt : Nat} {Ct Cf : Prop} (X : VX l D M cy cc own ret rm) (hd : decode cc pc = .ok (.if_icmp .eq z, 3)) (ht : (pc : Int) + z = (tgt : Int)) (ct : x = y → Ct) (cf : ¬ x = y → Cf) (kt : Ct → V l D M k n Wd L tgt st) (kf : Cf → V l D M k n Wd L (pc + 3) st) : V l D M k n Wd L pc (.int y :: .int x :: st) := by
  obtain ⟨p, e, R, s, m, args, below, meth, c, A, nL, Q⟩ := M
  obtain ⟨hx, hb, hml, ho, hts, hK, hA, hlk, hAm, htr, hrt, rfl⟩ := X
  intro H locs ls hP hD hS hL
  exact lv_icmp_eq hx hb hd ht (fun h => kt (ct h) H locs ls hP hD hS hL) (fun h => kf (cf h) H locs ls hP hD hS hL)
theorem V.icmp_ne {x y : Int32} {z : Int} {tgt : Nat} {Ct Cf : Prop} (X : VX l D M cy cc own ret rm) (hd : decode cc pc = .ok (.if_icmp .ne z, 3)) (ht : (pc : Int) + z = (tgt : Int)) (ct : ¬ x = y → Ct) (cf : x = y → Cf) (kt : Ct → V l D M k n Wd L tgt st) (kf : Cf → V l D M k n Wd L (pc + 3) st) : V l D M k n Wd L pc (.int y :: .int x :: st) := by
  obtain ⟨p, e, R, s, m, args, below, meth, c, A, nL, Q⟩ := M
  obtain ⟨hx, hb, hml, ho, hts, hK, hA, hlk, hAm, htr, hrt, rfl⟩ := X
  intro H locs ls hP hD hS hL
  exact lv_icmp_ne hx hb hd ht (fun h => kt (ct h) H locs ls hP hD hS hL) (fun h => kf (cf h) H locs ls hP hD hS hL)
theorem V.icmp_lt {x y : Int32} {z : Int} {tgt : Nat} {Ct Cf : Prop} (X : VX l D M cy cc own ret rm) (hd : decode cc pc = .ok (.if_icmp .lt z, 3)) (ht : (pc : Int) + z = (tgt : Int)) (ct : x < y → Ct) (cf : ¬ x < y → Cf) (kt : Ct → V l D M k n Wd L tgt st) (kf : Cf → V l D M k n Wd L (pc + 3) st) : V l D M k n Wd L pc (.int y :: .int x :: st) := by
  obtain ⟨p, e, R, s, m, args, below, meth, c, A, nL, Q⟩ := M
  obtain ⟨hx, hb, hml, ho, hts, hK, hA, hlk, hAm, htr, hrt, rfl⟩ := X
  intro H locs ls hP hD hS hL
  exact lv_icmp_lt hx hb hd ht (fun h => kt (ct h) H locs ls hP hD hS hL) (fun h => kf (cf h) H locs ls hP hD hS hL)
theorem V.icmp_ge {x y : Int32} {z : Int} {tgt : Nat} {Ct Cf : Prop} (X : VX l D M cy cc own ret rm) (hd : decode cc pc = .ok (.if_icmp .ge z, 3)) (ht : (pc : Int) + z = (tgt : Int)) (ct : y ≤ x → Ct) (cf : ¬ y ≤ x → Cf) (kt : Ct → V l D M k n Wd L tgt st) (kf : Cf → V l D M k n Wd L (pc + 3) st) : V l D M k n Wd L pc (.int y :: .int x :: st) := by
  obtain ⟨p, e, R, s, m, args, below, meth, c, A, nL, Q⟩ := M
  obtain ⟨hx, hb, hml, ho, hts, hK, hA, hlk, hAm, htr, hrt, rfl⟩ := X
  intro H locs ls hP hD hS hL
  exact lv_icmp_ge hx hb hd ht (fun h => kt (ct h) H locs ls hP hD hS hL) (fun h => kf (cf h) H locs ls hP hD hS hL)
theorem V.icmp_gt {x y : Int32} {z : Int} {tgt : Nat} {Ct Cf : Prop} (X : VX l D M cy cc own ret rm) (hd : decode cc pc = .ok (.if_icmp .gt z, 3)) (ht : (pc : Int) + z = (tgt : Int)) (ct : y < x → Ct) (cf : ¬ y < x → Cf) (kt : Ct → V l D M k n Wd L tgt st) (kf : Cf → V l D M k n Wd L (pc + 3) st) : V l D M k n Wd L pc (.int y :: .int x :: st) := by
  obtain ⟨p, e, R, s, m, args, below, meth, c, A, nL, Q⟩ := M
  obtain ⟨hx, hb, hml, ho, hts, hK, hA, hlk, hAm, htr, hrt, rfl⟩ := X
  intro H locs ls hP hD hS hL
  exact lv_icmp_gt hx hb hd ht (fun h => kt (ct h) H locs ls hP hD hS hL) (fun h => kf (cf h) H locs ls hP hD hS hL)
theorem V.icmp_le {x y : Int32} {z : Int} {tgt : Nat} {Ct Cf : Prop} (X : VX l D M cy cc own ret rm) (hd : decode cc pc = .ok (.if_icmp .le z, 3)) (ht : (pc : Int) + z = (tgt : Int)) (ct : x ≤ y → Ct) (cf : ¬ x ≤ y → Cf) (kt : Ct → V l D M k n Wd L tgt st) (kf : Cf → V l D M k n Wd L (pc + 3) st) : V l D M k n Wd L pc (.int y :: .int x :: st) := by
  obtain ⟨p, e, R, s, m, args, below, meth, c, A, nL, Q⟩ := M
  obtain ⟨hx, hb, hml, ho, hts, hK, hA, hlk, hAm, htr, hrt, rfl⟩ := X
  intro H locs ls hP hD hS hL
  exact lv_icmp_le hx hb hd ht (fun h => kt (ct h) H locs ls hP hD hS hL) (fun h => kf (cf h) H locs ls hP hD hS hL)
theorem V.getf {q0 ci j index a : Nat} {fs : List Value} {v : Value} {C ref : String} {T : u_T} {N : Nat} (X : VX l D M cy cc own ret rm) (hg : Wd[q0]? = some (a, .inr (ci, fs))) (hc : vwCl[ci]? = some (C, T, N)) (hj : j < N) (hlink : Cond.fieldLink own index ref (T j).2.1 (T j).2.2.1 ∈ lwG) (hin : ∀ w ∈ u_ws C T N, w ∈ lwG) (href : (T j).1 = ref) (hv : fs[j]? = some v) (hd : decode cc pc = .ok (.getfield index, 3)) (kk : V l D M k n Wd L (pc + 3) (v :: st)) : V l D M k n Wd L pc (.ref a :: st) := by
  obtain ⟨p, e, R, s, m, args, below, meth, c, A, nL, Q⟩ := M
  obtain ⟨hx, hb, hml, ho, hts, hK, hA, hlk, hAm, htr, hrt, rfl⟩ := X
  intro H locs ls hP hD hS hL
  exact va_get (Ts := lwG) hx hb hts hin ho hK hP q0 hg hc j hj (hts _ hlink) (fun x hx9 => by rw [← href]; exact hx9) hv hd (kk H locs ls hP hD hS hL)
theorem V.putf {q0 ci j index a : Nat} {fs : List Value} {v : Value} {C ref : String} {T : u_T} {N : Nat} {ty : FieldType} {ty0 : Nat → FieldType} {Wd' : va_W} (X : VX l D M cy cc own ret rm) (hg : Wd[q0]? = some (a, .inr (ci, fs))) (hc : vwCl[ci]? = some (C, T, N)) (hj : j < N) (hlink : Cond.fieldLink own index ref (T j).2.1 (T j).2.2.1 ∈ lwG) (hin : ∀ w ∈ u_ws C T N, w ∈ lwG) (href : (T j).1 = ref) (hty : ∀ k, k < N → parseFieldDescriptor (T k).2.2.1 = some (ty0 k)) (hnm : ∀ a, a < N → ∀ b, b < N → a ≠ b → (T a).2.1 ≠ (T b).2.1) (hfin : (T j).2.2.2 = false) (hds : parseFieldDescriptor (T j).2.2.1 = some ty) (hn : narrow ty v = v) (hfit : fits ty v = true) (hl : j < fs.length) (hd : decode cc pc = .ok (.putfield index, 3)) (hW : Wd.set q0 (a, .inr (ci, fs.set j v)) = Wd') (kk : V l D M k n Wd' L (pc + 3) st) : V l D M k n Wd L pc (v :: .ref a :: st) := by
  obtain ⟨p, e, R, s, m, args, below, meth, c, A, nL, Q⟩ := M
  obtain ⟨hx, hb, hml, ho, hts, hK, hA, hlk, hAm, htr, hrt, rfl⟩ := X
  intro H locs ls hP hD hS hL
  subst hW
  exact va_put (Ts := lwG) hx hb hts hin ty0 hty hnm ho hK hP hD hS q0 hg hc j hj (hts _ hlink) (fun x hx9 => by rw [← href]; exact hx9) hfin hds hn hfit hl hd (fun H1 locs1 hP1 hD1 hS1 => kk H1 locs1 ls hP1 hD1 hS1 hL)
theorem V.putF {q0 ci j index a : Nat} {fs : List Value} {v : Value} {C ref : String} {T : u_T} {N : Nat} {ty : FieldType} {ty0 : Nat → FieldType} {Wd' : va_W} (X : VX l D M cy cc own ret rm) (hI : VI M) (hg : Wd[q0]? = some (a, .inr (ci, fs))) (hc : vwCl[ci]? = some (C, T, N)) (hj : j < N) (hlink : Cond.fieldLink own index ref (T j).2.1 (T j).2.2.1 ∈ lwG) (hin : ∀ w ∈ u_ws C T N, w ∈ lwG) (href : (T j).1 = ref) (hown9 : (T j).1 = own) (hty : ∀ k, k < N → parseFieldDescriptor (T k).2.2.1 = some (ty0 k)) (hnm : ∀ a, a < N → ∀ b, b < N → a ≠ b → (T a).2.1 ≠ (T b).2.1) (hfin : (T j).2.2.2 = true) (hds : parseFieldDescriptor (T j).2.2.1 = some ty) (hn : narrow ty v = v) (hfit : fits ty v = true) (hl : j < fs.length) (hd : decode cc pc = .ok (.putfield index, 3)) (hW : Wd.set q0 (a, .inr (ci, fs.set j v)) = Wd') (kk : V l D M k n Wd' L (pc + 3) st) : V l D M k n Wd L pc (v :: .ref a :: st) := by
  obtain ⟨p, e, R, s, m, args, below, meth, c, A, nL, Q⟩ := M
  obtain ⟨hx, hb, hml, ho, hts, hK, hA, hlk, hAm, htr, hrt, rfl⟩ := X
  intro H locs ls hP hD hS hL
  subst hW
  exact va_putF (Ts := lwG) hx hb hts hin ty0 hty hnm ho hK hP hD hS q0 hg hc j hj (hts _ hlink) (fun x hx9 => by rw [← href]; exact hx9) hfin hI hown9 hds hn hfit hl hd (fun H1 locs1 hP1 hD1 hS1 => kk H1 locs1 ls hP1 hD1 hS1 hL)
theorem V.iald {q0 N a : Nat} {f : Nat → Int32} {i : Int32} {v : Int32} (X : VX l D M cy cc own ret rm) (hg : Wd[q0]? = some (a, .inl (cy 0, N, .inl f))) (hi : vp_in i N) (hd : decode cc pc = .ok (.iaload, 1)) (hv : (f i.toNatClampNeg) = v) (kk : V l D M k n Wd L (pc + 1) (.int v :: st)) : V l D M k n Wd L pc (.int i :: .ref a :: st) := by
  obtain ⟨p, e, R, s, m, args, below, meth, c, A, nL, Q⟩ := M
  obtain ⟨hx, hb, hml, ho, hts, hK, hA, hlk, hAm, htr, hrt, rfl⟩ := X
  intro H locs ls hP hD hS hL
  exact va_iald hx hb hK hP q0 0 hg rfl hi hd (by rw [hv]; exact kk H locs ls hP hD hS hL)
theorem V.zald {q0 N a : Nat} {f : Nat → Int32} {i : Int32} {v : Int32} (X : VX l D M cy cc own ret rm) (hg : Wd[q0]? = some (a, .inl (cy 1, N, .inl f))) (hi : vp_in i N) (hd : decode cc pc = .ok (.baload, 1)) (hv : (f i.toNatClampNeg) = v) (kk : V l D M k n Wd L (pc + 1) (.int v :: st)) : V l D M k n Wd L pc (.int i :: .ref a :: st) := by
  obtain ⟨p, e, R, s, m, args, below, meth, c, A, nL, Q⟩ := M
  obtain ⟨hx, hb, hml, ho, hts, hK, hA, hlk, hAm, htr, hrt, rfl⟩ := X
  intro H locs ls hP hD hS hL
  exact va_zald hx hb hK hP q0 1 hg rfl hi hd (by rw [hv]; exact kk H locs ls hP hD hS hL)
theorem V.cald {q0 N a : Nat} {f : Nat → Int32} {i : Int32} {v : Int32} (X : VX l D M cy cc own ret rm) (hg : Wd[q0]? = some (a, .inl (cy 2, N, .inl f))) (hi : vp_in i N) (hd : decode cc pc = .ok (.caload, 1)) (hv : (f i.toNatClampNeg) = v) (kk : V l D M k n Wd L (pc + 1) (.int v :: st)) : V l D M k n Wd L pc (.int i :: .ref a :: st) := by
  obtain ⟨p, e, R, s, m, args, below, meth, c, A, nL, Q⟩ := M
  obtain ⟨hx, hb, hml, ho, hts, hK, hA, hlk, hAm, htr, hrt, rfl⟩ := X
  intro H locs ls hP hD hS hL
  exact va_cald hx hb hK hP q0 2 hg rfl hi hd (by rw [hv]; exact kk H locs ls hP hD hS hL)
theorem V.bald {q0 N a : Nat} {f : Nat → Int32} {i : Int32} {v : Int32} (X : VX l D M cy cc own ret rm) (hg : Wd[q0]? = some (a, .inl (cy 3, N, .inl f))) (hi : vp_in i N) (hd : decode cc pc = .ok (.baload, 1)) (hv : (f i.toNatClampNeg) = v) (kk : V l D M k n Wd L (pc + 1) (.int v :: st)) : V l D M k n Wd L pc (.int i :: .ref a :: st) := by
  obtain ⟨p, e, R, s, m, args, below, meth, c, A, nL, Q⟩ := M
  obtain ⟨hx, hb, hml, ho, hts, hK, hA, hlk, hAm, htr, hrt, rfl⟩ := X
  intro H locs ls hP hD hS hL
  exact va_bald hx hb hK hP q0 3 hg rfl hi hd (by rw [hv]; exact kk H locs ls hP hD hS hL)
theorem V.lald {q0 N a : Nat} {f : Nat → Int64} {i : Int32} {v : Int64} (X : VX l D M cy cc own ret rm) (hg : Wd[q0]? = some (a, .inl (cy 4, N, .inr (.inl f)))) (hi : vp_in i N) (hd : decode cc pc = .ok (.laload, 1)) (hv : (f i.toNatClampNeg) = v) (kk : V l D M k n Wd L (pc + 1) (.long v :: st)) : V l D M k n Wd L pc (.int i :: .ref a :: st) := by
  obtain ⟨p, e, R, s, m, args, below, meth, c, A, nL, Q⟩ := M
  obtain ⟨hx, hb, hml, ho, hts, hK, hA, hlk, hAm, htr, hrt, rfl⟩ := X
  intro H locs ls hP hD hS hL
  exact va_lald hx hb hK hP q0 4 hg rfl hi hd (by rw [hv]; exact kk H locs ls hP hD hS hL)
theorem V.dald {q0 N a : Nat} {f : Nat → UInt64} {i : Int32} {v : UInt64} (X : VX l D M cy cc own ret rm) (hg : Wd[q0]? = some (a, .inl (cy 5, N, .inr (.inr (.inr (.inl f)))))) (hi : vp_in i N) (hd : decode cc pc = .ok (.daload, 1)) (hv : (f i.toNatClampNeg) = v) (kk : V l D M k n Wd L (pc + 1) (.double v :: st)) : V l D M k n Wd L pc (.int i :: .ref a :: st) := by
  obtain ⟨p, e, R, s, m, args, below, meth, c, A, nL, Q⟩ := M
  obtain ⟨hx, hb, hml, ho, hts, hK, hA, hlk, hAm, htr, hrt, rfl⟩ := X
  intro H locs ls hP hD hS hL
  exact va_dald hx hb hK hP q0 5 hg rfl hi hd (by rw [hv]; exact kk H locs ls hP hD hS hL)
theorem V.iast {q0 N a : Nat} {f : Nat → Int32} {i : Int32} {x : Int32} {Wd' : va_W} (X : VX l D M cy cc own ret rm) (hg : Wd[q0]? = some (a, .inl (cy 0, N, .inl f))) (hi : vp_in i N) (hd : decode cc pc = .ok (.iastore, 1)) (hW : Wd.set q0 (a, .inl (cy 0, N, .inl (upd f i.toNatClampNeg x))) = Wd') (kk : V l D M k n Wd' L (pc + 1) st) : V l D M k n Wd L pc (.int x :: .int i :: .ref a :: st) := by
  obtain ⟨p, e, R, s, m, args, below, meth, c, A, nL, Q⟩ := M
  obtain ⟨hx, hb, hml, ho, hts, hK, hA, hlk, hAm, htr, hrt, rfl⟩ := X
  intro H locs ls hP hD hS hL
  subst hW
  exact va_iast hx hb hK hP hD hS q0 0 hg rfl hi hd (fun H1 locs1 hP1 hD1 hS1 => kk H1 locs1 ls hP1 hD1 hS1 hL)
theorem V.zast {q0 N a : Nat} {f : Nat → Int32} {i : Int32} {x : Int32} {Wd' : va_W} (X : VX l D M cy cc own ret rm) (hg : Wd[q0]? = some (a, .inl (cy 1, N, .inl f))) (hi : vp_in i N) (hd : decode cc pc = .ok (.bastore, 1)) (hW : Wd.set q0 (a, .inl (cy 1, N, .inl (upd f i.toNatClampNeg (vp_nar .boolean x)))) = Wd') (kk : V l D M k n Wd' L (pc + 1) st) : V l D M k n Wd L pc (.int x :: .int i :: .ref a :: st) := by
  obtain ⟨p, e, R, s, m, args, below, meth, c, A, nL, Q⟩ := M
  obtain ⟨hx, hb, hml, ho, hts, hK, hA, hlk, hAm, htr, hrt, rfl⟩ := X
  intro H locs ls hP hD hS hL
  subst hW
  exact va_zast hx hb hK hP hD hS q0 1 hg rfl hi hd (fun H1 locs1 hP1 hD1 hS1 => kk H1 locs1 ls hP1 hD1 hS1 hL)
theorem V.cast {q0 N a : Nat} {f : Nat → Int32} {i : Int32} {x : Int32} {Wd' : va_W} (X : VX l D M cy cc own ret rm) (hg : Wd[q0]? = some (a, .inl (cy 2, N, .inl f))) (hi : vp_in i N) (hd : decode cc pc = .ok (.castore, 1)) (hW : Wd.set q0 (a, .inl (cy 2, N, .inl (upd f i.toNatClampNeg (vp_nar .char x)))) = Wd') (kk : V l D M k n Wd' L (pc + 1) st) : V l D M k n Wd L pc (.int x :: .int i :: .ref a :: st) := by
  obtain ⟨p, e, R, s, m, args, below, meth, c, A, nL, Q⟩ := M
  obtain ⟨hx, hb, hml, ho, hts, hK, hA, hlk, hAm, htr, hrt, rfl⟩ := X
  intro H locs ls hP hD hS hL
  subst hW
  exact va_cast hx hb hK hP hD hS q0 2 hg rfl hi hd (fun H1 locs1 hP1 hD1 hS1 => kk H1 locs1 ls hP1 hD1 hS1 hL)
theorem V.bast {q0 N a : Nat} {f : Nat → Int32} {i : Int32} {x : Int32} {Wd' : va_W} (X : VX l D M cy cc own ret rm) (hg : Wd[q0]? = some (a, .inl (cy 3, N, .inl f))) (hi : vp_in i N) (hd : decode cc pc = .ok (.bastore, 1)) (hW : Wd.set q0 (a, .inl (cy 3, N, .inl (upd f i.toNatClampNeg (vp_nar .byte x)))) = Wd') (kk : V l D M k n Wd' L (pc + 1) st) : V l D M k n Wd L pc (.int x :: .int i :: .ref a :: st) := by
  obtain ⟨p, e, R, s, m, args, below, meth, c, A, nL, Q⟩ := M
  obtain ⟨hx, hb, hml, ho, hts, hK, hA, hlk, hAm, htr, hrt, rfl⟩ := X
  intro H locs ls hP hD hS hL
  subst hW
  exact va_bast hx hb hK hP hD hS q0 3 hg rfl hi hd (fun H1 locs1 hP1 hD1 hS1 => kk H1 locs1 ls hP1 hD1 hS1 hL)
theorem V.last {q0 N a : Nat} {f : Nat → Int64} {i : Int32} {x : Int64} {Wd' : va_W} (X : VX l D M cy cc own ret rm) (hg : Wd[q0]? = some (a, .inl (cy 4, N, .inr (.inl f)))) (hi : vp_in i N) (hd : decode cc pc = .ok (.lastore, 1)) (hW : Wd.set q0 (a, .inl (cy 4, N, .inr (.inl (vp_updL f i.toNatClampNeg x)))) = Wd') (kk : V l D M k n Wd' L (pc + 1) st) : V l D M k n Wd L pc (.long x :: .int i :: .ref a :: st) := by
  obtain ⟨p, e, R, s, m, args, below, meth, c, A, nL, Q⟩ := M
  obtain ⟨hx, hb, hml, ho, hts, hK, hA, hlk, hAm, htr, hrt, rfl⟩ := X
  intro H locs ls hP hD hS hL
  subst hW
  exact va_last hx hb hK hP hD hS q0 4 hg rfl hi hd (fun H1 locs1 hP1 hD1 hS1 => kk H1 locs1 ls hP1 hD1 hS1 hL)
theorem V.dast {q0 N a : Nat} {f : Nat → UInt64} {i : Int32} {x : UInt64} {Wd' : va_W} (X : VX l D M cy cc own ret rm) (hg : Wd[q0]? = some (a, .inl (cy 5, N, .inr (.inr (.inr (.inl f)))))) (hi : vp_in i N) (hd : decode cc pc = .ok (.dastore, 1)) (hW : Wd.set q0 (a, .inl (cy 5, N, .inr (.inr (.inr (.inl (vf_upd f i.toNatClampNeg x)))))) = Wd') (kk : V l D M k n Wd' L (pc + 1) st) : V l D M k n Wd L pc (.double x :: .int i :: .ref a :: st) := by
  obtain ⟨p, e, R, s, m, args, below, meth, c, A, nL, Q⟩ := M
  obtain ⟨hx, hb, hml, ho, hts, hK, hA, hlk, hAm, htr, hrt, rfl⟩ := X
  intro H locs ls hP hD hS hL
  subst hW
  exact va_dast hx hb hK hP hD hS q0 5 hg rfl hi hd (fun H1 locs1 hP1 hD1 hS1 => kk H1 locs1 ls hP1 hD1 hS1 hL)
theorem V.alen {q0 a t0 : Nat} {cA : ClassId} {x : vp_A} {ty : FieldType} {v : Int32} (X : VX l D M cy cc own ret rm) (hg : Wd[q0]? = some (a, .inl (cA, x))) (ht : (tysOf cy)[t0]? = some (cA, ty)) (hv : Int32.ofNat x.1 = v) (hd : decode cc pc = .ok (.arraylength, 1)) (kk : V l D M k n Wd L (pc + 1) (.int v :: st)) : V l D M k n Wd L pc (.ref a :: st) := by
  obtain ⟨p, e, R, s, m, args, below, meth, c, A, nL, Q⟩ := M
  obtain ⟨hx, hb, hml, ho, hts, hK, hA, hlk, hAm, htr, hrt, rfl⟩ := X
  intro H locs ls hP hD hS hL
  exact va_alen hx hb hK hP q0 t0 hg ht hv hd (kk H locs ls hP hD hS hL)
theorem V.iret {ty : FieldType} {v : Int32} {post : Option Value → va_W → Prop} {px : String → va_W → Prop} (X : VX l D M cy cc own ret rm) (E : EQ9 D M post px rm) (hr : ret = some ty) (hn : narrow ty (.int v) = .int v) (hk : k ≤ rm.cells) (hs : n ≤ rm.slots) (hp : post (some (.int v)) Wd) (hd : decode cc pc = .ok (.ireturn, 1)) : V l D M k n Wd L pc [.int v] := by
  obtain ⟨p, e, R, s, m, args, below, meth, c, A, nL, Q⟩ := M
  obtain ⟨hx, hb, hml, ho, hts, hK, hA, hlk, hAm, htr, hrt, rfl⟩ := X
  intro H locs ls hP hD hS hL
  replace E : Q = _ := E
  subst E
  refine vx_ret (W.widen hk hs ?_)
  exact W.zret hx hb (hrt.trans hr) hn (fun t ht hW => ⟨⟨_, _, rfl, hp, by rw [ht]; exact hP, hD⟩, hS.F ht⟩) hS.2.2 hd hlk
theorem V.lret  {v : Int64} {post : Option Value → va_W → Prop} {px : String → va_W → Prop} (X : VX l D M cy cc own ret rm) (E : EQ9 D M post px rm) (hr : ret = some .long) (hk : k ≤ rm.cells) (hs : n ≤ rm.slots) (hp : post (some (.long v)) Wd) (hd : decode cc pc = .ok (.lreturn, 1)) : V l D M k n Wd L pc [.long v] := by
  obtain ⟨p, e, R, s, m, args, below, meth, c, A, nL, Q⟩ := M
  obtain ⟨hx, hb, hml, ho, hts, hK, hA, hlk, hAm, htr, hrt, rfl⟩ := X
  intro H locs ls hP hD hS hL
  replace E : Q = _ := E
  subst E
  refine vx_ret (W.widen hk hs ?_)
  exact W.lret hx hb (hrt.trans hr) (fun t ht hW => ⟨⟨_, _, rfl, hp, by rw [ht]; exact hP, hD⟩, hS.F ht⟩) hS.2.2 hd hlk
theorem V.fret  {v : UInt32} {post : Option Value → va_W → Prop} {px : String → va_W → Prop} (X : VX l D M cy cc own ret rm) (E : EQ9 D M post px rm) (hr : ret = some .float) (hk : k ≤ rm.cells) (hs : n ≤ rm.slots) (hp : post (some (.float v)) Wd) (hd : decode cc pc = .ok (.freturn, 1)) : V l D M k n Wd L pc [.float v] := by
  obtain ⟨p, e, R, s, m, args, below, meth, c, A, nL, Q⟩ := M
  obtain ⟨hx, hb, hml, ho, hts, hK, hA, hlk, hAm, htr, hrt, rfl⟩ := X
  intro H locs ls hP hD hS hL
  replace E : Q = _ := E
  subst E
  refine vx_ret (W.widen hk hs ?_)
  exact W.fret hx hb (hrt.trans hr) (fun t ht hW => ⟨⟨_, _, rfl, hp, by rw [ht]; exact hP, hD⟩, hS.F ht⟩) hS.2.2 hd hlk
theorem V.dret  {v : UInt64} {post : Option Value → va_W → Prop} {px : String → va_W → Prop} (X : VX l D M cy cc own ret rm) (E : EQ9 D M post px rm) (hr : ret = some .double) (hk : k ≤ rm.cells) (hs : n ≤ rm.slots) (hp : post (some (.double v)) Wd) (hd : decode cc pc = .ok (.dreturn, 1)) : V l D M k n Wd L pc [.double v] := by
  obtain ⟨p, e, R, s, m, args, below, meth, c, A, nL, Q⟩ := M
  obtain ⟨hx, hb, hml, ho, hts, hK, hA, hlk, hAm, htr, hrt, rfl⟩ := X
  intro H locs ls hP hD hS hL
  replace E : Q = _ := E
  subst E
  refine vx_ret (W.widen hk hs ?_)
  exact W.dret hx hb (hrt.trans hr) (fun t ht hW => ⟨⟨_, _, rfl, hp, by rw [ht]; exact hP, hD⟩, hS.F ht⟩) hS.2.2 hd hlk
theorem V.vret {post : Option Value → va_W → Prop} {px : String → va_W → Prop} (X : VX l D M cy cc own ret rm) (E : EQ9 D M post px rm) (hr : ret = none) (hk : k ≤ rm.cells) (hs : n ≤ rm.slots) (hp : post none Wd) (hd : decode cc pc = .ok (.return_, 1)) : V l D M k n Wd L pc [] := by
  obtain ⟨p, e, R, s, m, args, below, meth, c, A, nL, Q⟩ := M
  obtain ⟨hx, hb, hml, ho, hts, hK, hA, hlk, hAm, htr, hrt, rfl⟩ := X
  intro H locs ls hP hD hS hL
  replace E : Q = _ := E
  subst E
  refine vx_ret (W.widen hk hs ?_)
  exact W.vret hx hb (hrt.trans hr) (fun t ht hW => ⟨⟨_, _, rfl, hp, by rw [ht]; exact hP, hD⟩, hS.F ht⟩) hS.2.2 hd hlk
theorem V.aret {v : Value} {rt : FieldType} {post : Option Value → va_W → Prop} {px : String → va_W → Prop} (X : VX l D M cy cc own ret rm) (E : EQ9 D M post px rm) (hr : ret = some rt) (hrt9 : (∃ n, rt = .object n) ∨ ∃ t, rt = .array t) (hv : v = .null ∨ ∃ a, v = .ref a) (hk : k ≤ rm.cells) (hs : n ≤ rm.slots) (hp : post (some v) Wd) (hd : decode cc pc = .ok (.areturn, 1)) : V l D M k n Wd L pc [v] := by
  obtain ⟨p, e, R, s, m, args, below, meth, c, A, nL, Q⟩ := M
  obtain ⟨hx, hb, hml, ho, hts, hK, hA, hlk, hAm, htr, hrt, rfl⟩ := X
  intro H locs ls hP hD hS hL
  replace E : Q = _ := E
  subst E
  refine vx_ret (W.widen hk hs ?_)
  exact W.aret hx hb (hrt.trans hr) hrt9 hv (fun t ht hW => ⟨⟨_, _, rfl, hp, by rw [ht]; exact hP, hD⟩, hS.F ht⟩) hS.2.2 hd hlk
end VR

