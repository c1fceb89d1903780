/-! ===== throw new E("text") over V: for classes whose constructor passes its text on at any place of its pool (the walk of the constructors is the library's: ctorMessageOffV) ===== -/
def x9Chain (X : String) (ix : Nat) (rx : ByteArray) : List String → List Cond
  | [] => Bundle.passSAtoms X Bundle.tN ix rx
  | Y :: r => Bundle.passSAtoms X Y ix rx ++ Bundle.chainSAtoms Y r
def x9Own (own : String) (ic : Nat) (X : String) (ix : Nat) (rx : ByteArray) (names : List String) : List Cond :=
  Bundle.throwableAtoms ++ Bundle.throwableSAtoms ++ x9Chain X ix rx names ++
  [.methodLink own ic (Bundle.initS X), .instantiable X 6, .castable X X, .selects X Bundle.tFill0 Bundle.tFill0, .selects X Bundle.tFill Bundle.tFill,
   .lays X Bundle.tN "cause" "Ljava/lang/Throwable;", .lays X Bundle.tN "stackTrace" Bundle.steD, .lays X Bundle.tN "suppressedExceptions" Bundle.listD, .lays X Bundle.tN "detailMessage" "Ljava/lang/String;",
   .isRef (.static Bundle.tN "UNASSIGNED_STACK" Bundle.steD), .isRef (.static Bundle.tN "SUPPRESSED_SENTINEL" Bundle.listD),
   .fieldLink Bundle.tN 198 Bundle.tN "backtrace" "Ljava/lang/Object;", .lays Bundle.tN Bundle.tN "backtrace" "Ljava/lang/Object;", .lays X Bundle.tN "backtrace" "Ljava/lang/Object;"]
section X9
variable {p : Program} {l : Launch} {e : Env} {R : Room} {s : State} {m : MethodId} {args : Array Value} {below : List Frame} {meth : Method} {c : Code} {W9 : State} {locs : List Loc} {cells slots : Nat}
theorem x9_chain {pl : Platform} (hpl : pl.magicAccessors = ({} : Platform).magicAccessors) {top : MethodId} (htop : s.methodNamed? (Bundle.initS Bundle.tN) = some top)
    {ix : Nat} {rx : ByteArray} (x0 : decode rx 0 = .ok (.aload_n 0, 1)) (x1 : decode rx 1 = .ok (.aload_n 1, 1)) (x2 : decode rx 2 = .ok (.invokespecial ix, 3)) (x5 : decode rx 5 = .ok (.return_, 1)) (Y : String) (r : List String) (X : String)
    (hX : Bundle.fit X = true) (hY : Bundle.fit Y = true) (hn : ∀ n ∈ r, Bundle.fit n = true) (h : ∀ c ∈ x9Chain X ix rx (Y :: r), c.before args s = true) :
      ∃ (P1 : PassC) (Ps : List PassC), Ps.length = (Y :: r).length ∧ P1.LinksS pl s ∧ (∀ P, P ∈ Ps → P.LinksS pl s) ∧ s.methodNamed? (Bundle.initS X) = some P1.m ∧
        P1.sup = firstOf top (Ps.map (·.toPassT)) ∧ PassesOn top (Ps.map (·.toPassT)) := by
  obtain ⟨P, L, hm, hs⟩ := PassC.ofS_atoms (args := args) (s := s) hpl (X := X) (Y := Y) (Bundle.fit_spec hX).1 (Bundle.fit_spec hY).2 x0 x1 x2 x5 (fun c hc => h c (List.mem_append_left _ hc))
  obtain ⟨P', Ps, hlen, L', hL, hm', hsup, hpass⟩ := Bundle.chainS (args := args) hpl htop r Y hY hn (fun c hc => h c (List.mem_append_right _ hc))
  refine ⟨P, P' :: Ps, by simp [hlen], L, fun Q hQ => ?_, hm, Option.some.inj (hs.symm.trans hm'), hsup, hpass⟩
  rcases List.mem_cons.mp hQ with rfl | hQ
  · exact L'
  · exact hL Q hQ
set_option maxHeartbeats 1000000 in
theorem x9_made (X : Stand p l e R s m args below meth c W9 locs cells slots) (hexec : p.tables.exec = Jvm.exec) (htr : e.platform.stackTraces = false) {own cls Y : String} {r : List String} {ic : Nat}
    {ix : Nat} {rx : ByteArray} (x0 : decode rx 0 = .ok (.aload_n 0, 1)) (x1 : decode rx 1 = .ok (.aload_n 1, 1)) (x2 : decode rx 2 = .ok (.invokespecial ix, 3)) (x5 : decode rx 5 = .ok (.return_, 1))
    (hown : s.vm.findClass own = some m.cls) (hcls : Bundle.fit cls = true) (hY : Bundle.fit Y = true) (hn : ∀ n ∈ r, Bundle.fit n = true)
    (h : ∀ a ∈ x9Own own ic cls ix rx (Y :: r), a.before args s = true)
    (hlocs : ∀ x ∈ locs, ∀ cell, s.heap[x.base]? = some cell → cell.vm.isStatics = false)
    {a : Addr} {cX : ClassId} {kX : Class} (hfoundX : s.vm.findClass cls = some cX) (hkX : s.vm.classes[cX]? = some kX) (hcell : W9.heap[a]? = some (freshCell cX kX)) (hnew : s.heap.size ≤ a)
    {msg : Value} (hmsg : msg.isRef = true)
    {g : JFrame} (hg : g.method = m) (hsize : g.locals.size = c.maxLocals) (hlocked : g.locked = none) (hentered : g.entered = []) {rest : List Value} (hstack : g.stack = msg :: .ref a :: .ref a :: rest)
    (hd6 : decode c.code g.pc = .ok (.invokespecial ic, 3)) (hd9 : decode c.code (g.pc + 3) = .ok (.athrow, 1)) (hout : ∀ x ∈ c.exceptionTable.toList, covers x (g.pc + 3) = false)
    (hRframes : (Y :: r).length + 3 < R.frames) (hRlocals : 2 * g.monitorRoom + ((Value.ref a :: rest).map fun v => v.category).sum + (13 * ((Y :: r).length + 1) + 42) ≤ R.locals) (hlocks : meth.locks = false) :
    ∃ U : State, Steps p.tables e below (W9.setTop g) U ∧ U.status = .running ∧ Ended U below (.threw a) ∧ s.WarmedH U.vm ∧ s.sameButNew ({ U with vm := s.vm } : State) locs cells slots ∧
      ∃ ce, U.heap[a]? = some ce ∧ ce.vm = .none ∧ s.vm.findClass cls = some ce.cls := by
  have howns : e.platform.frameOwnsMonitors = true := by rw [X.admits.platform]
  have hfin : e.platform.finalization = false := by rw [X.admits.platform]
  have hpl : e.platform.magicAccessors = ({} : Platform).magicAccessors := by rw [X.admits.platform]
  have a' : ∀ x, x ∈ x9Own own ic cls ix rx (Y :: r) → x.holds args s none s [] = true := fun x hx => h x hx
  obtain ⟨T, Z0, L, -, Yt⟩ := ThrowableC.of_atoms (args := args) howns hfin hpl (fun x hx => h x (by simp [x9Own, hx]))
  obtain ⟨Z, Mz, LZ, LM, hnZ⟩ := Init0T.ofS_atoms (args := args) hpl L Yt (fun x hx => h x (by simp [x9Own, hx]))
  obtain ⟨P1, Ps, hlen, L1, hL, hP1m, hlink1, hlink⟩ := x9_chain (args := args) hpl hnZ x0 x1 x2 x5 Y r cls hcls hY hn (fun x hx => h x (by simp [x9Own, hx]))
  have hfound : s.vm.findClass cls = some P1.m.cls := findClass_of_methodNamed hP1m
  cases Option.some.inj (hfoundX.symm.trans hfound)
  obtain ⟨c1, kX', hc1, hk, hord, -, -, hn6⟩ := Cond.instantiable_spec (a' (.instantiable cls 6) (by simp [x9Own]))
  cases Option.some.inj (hc1.symm.trans hfound)
  cases Option.some.inj (hkX.symm.trans hk)
  have hsel0 : selectMethod e.platform s.vm P1.m.cls T.fill0 = .method T.fill0 := by
    obtain ⟨c2, r2, m2, q1, q2, q3, q4, -⟩ := Cond.selects_spec (a' (.selects cls Bundle.tFill0 Bundle.tFill0) (by simp [x9Own]))
    cases Option.some.inj (q1.symm.trans hfound)
    cases Option.some.inj (q2.symm.trans (State.methodFound?_of_named Yt.fill0 (by decide)))
    cases Option.some.inj (q3.symm.trans Yt.fill0)
    rw [Launch.admits_selectMethod X.admits]; exact q4
  have hselF : selectMethod e.platform s.vm P1.m.cls T.fill = .method T.fill := by
    obtain ⟨c2, r2, m2, q1, q2, q3, q4, -⟩ := Cond.selects_spec (a' (.selects cls Bundle.tFill Bundle.tFill) (by simp [x9Own]))
    cases Option.some.inj (q1.symm.trans hfound)
    cases Option.some.inj (q2.symm.trans (State.methodFound?_of_named Yt.fill (by decide)))
    cases Option.some.inj (q3.symm.trans Yt.fill)
    rw [Launch.admits_selectMethod X.admits]; exact q4
  obtain ⟨cellS0, hcS0, hiss⟩ := Yt.statics
  obtain ⟨u0, hu0⟩ := Cond.staticRefV Yt.unassigned L.unassignedStatic L.statics hcS0 hiss (a' (.isRef (.static Bundle.tN "UNASSIGNED_STACK" Bundle.steD)) (by simp [x9Own]))
  obtain ⟨sen, hsen⟩ := Cond.staticRefV Yt.sentinel L.sentinelStatic L.statics hcS0 hiss (a' (.isRef (.static Bundle.tN "SUPPRESSED_SENTINEL" Bundle.listD)) (by simp [x9Own]))
  obtain ⟨ci198, i198, fB, hk198, hg198, ha198, hsB, -, hnB, htB, hffB⟩ := Cond.ownField (t := .object "java/lang/Object") Yt.found L.cls (by decide +kernel) (a' (.fieldLink Bundle.tN 198 Bundle.tN "backtrace" "Ljava/lang/Object;") (by simp [x9Own])) (a' (.lays Bundle.tN Bundle.tN "backtrace" "Ljava/lang/Object;") (by simp [x9Own])) e.platform hpl
  obtain ⟨cellS, hcS', heS, -, hkeep⟩ := X.same.2.2.2.2.2 T.aS cellS0 hcS0
  have hcellS : W9.heap[T.aS]? = some cellS := hcS'
  have hout' : ∀ i, (⟨T.aS, i⟩ : Loc) ∉ locs := fun i hmem => by
    have := hlocs _ hmem cellS0 hcS0
    rw [hiss] at this; cases this
  have hknownS : cellS.vm ≠ .unknown := by
    rw [heS]; intro hu
    rw [show cellS0.vm = .unknown from hu] at hiss
    cases hiss
  have hneS : T.aS ≠ a := Nat.ne_of_lt (Nat.lt_of_lt_of_le (Array.getElem?_eq_some_iff.mp hcS0).1 hnew)
  obtain ⟨iM, hffM⟩ := Yt.msg
  obtain ⟨tyC, dC, hdC, hdnC⟩ := Cond.laysAt hfound hk Yt.cause (a' (.lays cls Bundle.tN "cause" "Ljava/lang/Throwable;") (by simp [x9Own]))
  obtain ⟨tyS, dS, hdS, hdnS⟩ := Cond.laysAt hfound hk Yt.stack (a' (.lays cls Bundle.tN "stackTrace" Bundle.steD) (by simp [x9Own]))
  obtain ⟨tyP, dP, hdP, hdnP⟩ := Cond.laysAt hfound hk Yt.supp (a' (.lays cls Bundle.tN "suppressedExceptions" Bundle.listD) (by simp [x9Own]))
  obtain ⟨tyM, dM, hdM, hdnM⟩ := Cond.laysAt hfound hk hffM (a' (.lays cls Bundle.tN "detailMessage" "Ljava/lang/String;") (by simp [x9Own]))
  obtain ⟨tyB, dB, hdB, hdnB⟩ := Cond.laysAt hfound hk hffB (a' (.lays cls Bundle.tN "backtrace" "Ljava/lang/Object;") (by simp [x9Own]))
  have bC := Cond.laysApart hdB hdC hdnB hdnC (by rw [hnB, Yt.causeName]; decide)
  have bS := Cond.laysApart hdB hdS hdnB hdnS (by rw [hnB, Yt.stackName]; decide)
  have bP := Cond.laysApart hdB hdP hdnB hdnP (by rw [hnB, Yt.suppName]; decide)
  have hskip : SkipFacts T e.platform s (fun u => u) u0 ((preparedCellV T.toThrowableT (freshCell P1.m.cls kX) a u0 sen).withEntry W9.cur) :=
    ⟨{ ci198 := ci198, i198 := i198, fBack := fB }, ⟨hk198, hg198, ha198, hsB⟩, by
      have := fresh_default (c := P1.m.cls) tyB
      rw [htB] at this
      simpa [preparedCellV, Cell.setSlot, Cell.withEntry, Array.getElem?_setIfInBounds, bC, bS, bP, bC.symm, bS.symm, bP.symm, defaultValue] using this, fun _ _ => rfl⟩
  obtain ⟨tm, methC, cdC, kC, vm₁, hnC, -, -, -, -, -, -, -, hW₁, st1⟩ := Steps.initColdS (tb := p.tables) (e := e) (below := below) (s := s) (U := W9) X.here hexec X.warmed hpl hown (t := Bundle.initS cls) rfl rfl (Bundle.fit_spec hcls).2
    (a' (.methodLink own ic (Bundle.initS cls)) (by simp [x9Own])) (h (.instanceMethod (Bundle.initS cls)) (by simp [x9Own, x9Chain, Bundle.passSAtoms])) (bytes := rx) (maxL := 2) (h (.code (Bundle.initS cls) rx 2 none) (by simp [x9Own, x9Chain, Bundle.passSAtoms]))
    (f := g) hg (a := a) (msg := msg) (rest := .ref a :: rest) hstack hd6
  cases Option.some.inj (hnC.symm.trans hP1m)
  have X₁ := X.noted hW₁
  obtain ⟨vm₂, X₂, st2⟩ := X₁.ctorMessageOffV hexec (g := { g with stack := .ref a :: rest }) hg hsize T L Z LZ Mz LM (P1 :: Ps)
    (fun P hP => by rcases List.mem_cons.mp hP with rfl | hP; exact L1; exact hL P hP) ⟨hlink1, hlink⟩ (u0 := u0) (sen := sen) (self := a) hmsg (cell := freshCell P1.m.cls kX) (cellS := cellS)
    hcell (fun _ => by simp) (by simp) rfl rfl hsel0 hselF hcellS hneS hknownS (by rw [hkeep _ (hout' _)]; exact hu0) (by rw [hkeep _ (hout' _)]; exact hsen)
    (Takes.of_laid hk hord tyC (by rw [Yt.causeType]; rfl)) (Takes.of_laid hk hord tyS (by rw [Yt.stackType]; exact fits_refV_array _ u0)) (Takes.of_laid hk hord tyP (by rw [Yt.suppType]; exact fits_refV_object _ sen))
    (Takes.of_laid hk hord tyM (by rw [Yt.msgType]; exact fits_refV_object _ ⟨msg, hmsg⟩)) Yt.objLocals hskip htr [] hd6
    (by simp only [List.length_cons, hlen] at hRframes ⊢; omega) (by simp only [List.length_cons, hlen] at hRlocals ⊢; exact hRlocals)
  obtain ⟨hwalk, hrun, hended, hWU, hsame⟩ := X₂.athrowLeaves hexec (g := { g with stack := .ref a :: rest, pc := g.pc + 3 }) hg hlocked hentered hout (a := a) (rest := rest) rfl hd9
  have hlt : a < ((W9.setVm vm₁).setVm vm₂).heap.size := (Array.getElem?_eq_some_iff.mp hcell).1
  have hU := heapAt_setCell_self (s := (W9.setVm vm₁).setVm vm₂) (plainBareV T.toThrowableT (freshCell P1.m.cls kX) a u0 sen msg) hlt
  refine ⟨_, st1 _ (fun acts => ?_), hrun, hended, hWU, hsame.weaken (fun y hy hlt' => ?_) (Nat.le_refl _) (Nat.le_refl _), _, hU, rfl, hfound⟩
  · rw [doInvoke_state]
    exact st2 _ hwalk
  · rcases List.mem_append.mp hy with h1 | h1
    · exact h1
    · exfalso
      have hb : y.base = a := by
        simp only [List.mem_cons, List.not_mem_nil, or_false] at h1
        rcases h1 with rfl | rfl | rfl | rfl | rfl <;> rfl
      rw [hb] at hlt'
      exact Nat.not_lt.mpr hnew hlt'
end X9
/-- a word of x9Own: of the tables (good, or one that stays), or one of the four that the heap decides -/
def x9ok (w : Cond) : Prop := w ∈ lwG ∨ w ∈ lwN ∨ w = .isRef (.static Bundle.tN "UNASSIGNED_STACK" Bundle.steD) ∨ w = .isRef (.static Bundle.tN "SUPPRESSED_SENTINEL" Bundle.listD) ∨ w = .laysStatic Bundle.tN "UNASSIGNED_STACK" Bundle.steD ∨ w = .laysStatic Bundle.tN "SUPPRESSED_SENTINEL" Bundle.listD
theorem x9ok.g {w : Cond} (h : w ∈ lwG) : x9ok w := Or.inl h
theorem x9ok.n {w : Cond} (h : w ∈ lwN) : x9ok w := Or.inr (Or.inl h)
theorem x9_at {args : Array Value} {s s' : State} {A : Nat → Prop} (hts : ∀ w ∈ lwG, w.before args s = true) (hAm : Amb A s' s'.heap) (hvm : s'.vm = s.vm) {w : Cond} (h : x9ok w) : w.before args s' = true := by
  rcases h with h | h | h | h | h | h
  · exact word_at (s := s) (by rw [hvm]; exact State.WarmedH.refl s) (good_of_word (lwG_good w h)) (hts w h)
  · have h1 := hAm.1 w h
    have h2 : w.onTables = true := by
      have h3 := (List.mem_filter.mp h).2
      cases w <;> first | rfl | (simp [nwOK] at h3)
    exact va_Nw.use h2 h1
  · rw [h]; exact vx_isRefq hAm.2.1.1
  · rw [h]; exact vx_isRefq hAm.2.2.1.1
  · rw [h]; exact hAm.2.1.2.word
  · rw [h]; exact hAm.2.2.1.2.word
section VTH
variable {l : Launch} {D : va_G} {M : VM} {cy : Nat → ClassId} {cc : ByteArray} {own : String} {ret : Option FieldType} {rm : Room} {k n : Nat} {Wd : va_W} {L : List (Nat × Value)} {pc : Nat} {st : List Value}
set_option maxHeartbeats 1000000 in
/-- 'throw new cls(text)': new; dup; ldc or ldc_w; invokespecial; athrow, no handler here -/
theorem V.throwS {cls text Y : String} {r : List String} {ik is ic ix wd : Nat} {ins : Instr} {rx : ByteArray} {post : Option Value → va_W → Prop} {px : String → va_W → Prop}
    (X : VX l D M cy cc own ret rm) (E : EQ9 D M post px rm) (hN : VN M)
    (x0 : decode rx 0 = .ok (.aload_n 0, 1)) (x1 : decode rx 1 = .ok (.aload_n 1, 1)) (x2 : decode rx 2 = .ok (.invokespecial ix, 3)) (x5 : decode rx 5 = .ok (.return_, 1))
    (hcls : Bundle.fit cls = true) (hY : Bundle.fit Y = true) (hn : ∀ n ∈ r, Bundle.fit n = true)
    (hk : Cond.classLink own ik cls ∈ lwG) (hini : Cond.initialized cls ∈ lwG) (hat : ∀ w ∈ x9Own own ic cls ix rx (Y :: r), x9ok w) (hstr : (own, is, text) ∈ lwS)
    (hins : (wd = 2 ∧ ins = .ldc is) ∨ (wd = 3 ∧ ins = .ldc_w is))
    (d0 : decode cc pc = .ok (.new ik, 3)) (d3 : decode cc (pc + 3) = .ok (.dup, 1)) (d4 : decode cc (pc + 4) = .ok (ins, wd)) (d6 : decode cc (pc + 4 + wd) = .ok (.invokespecial ic, 3)) (d9 : decode cc (pc + 4 + wd + 3) = .ok (.athrow, 1))
    (hRf : (Y :: r).length + 3 < rm.frames) (hRl : (st.map fun v => v.category).sum + (13 * ((Y :: r).length + 1) + 43) ≤ rm.locals) (hRc : k + 1 ≤ rm.cells) (hRs : n + 6 ≤ rm.slots)
    (hp : px cls Wd) : V l D M k n Wd L pc st := by
  obtain ⟨p, e, R, s, m, args, below, meth, c, A, nL, Q⟩ := M
  obtain ⟨hx, hb, hml, ho, hts, hK, hA, hlk, hAm, htr, hrt, rfl⟩ := X
  replace E : Q = _ := E
  subst E
  intro H locs ls hP hD hS hL
  intro T hT X
  have htr9 : e.platform.stackTraces = false := (show e.platform.stackTraces = l.stackTraces by rw [X.admits.platform]).trans htr
  have Y9 := vx_rebase X (R' := { frames := R.frames, locals := R.locals, cells := 1, slots := 6 }) (Nat.le_refl _) (Nat.le_refl _) hRc hRs
  obtain ⟨s', hA9⟩ : ∃ z, z = (T.setVm s.vm).setFrames (.invoking m args :: below) := ⟨_, rfl⟩
  rw [← hA9] at Y9
  have hvm : s'.vm = s.vm := by rw [hA9]; rfl
  have hhp : s'.heap = H := by rw [hA9]; exact hT
  have hW0 : s.WarmedH s'.vm := by rw [hvm]; exact State.WarmedH.refl s
  have hAm' : Amb A s' s'.heap := by rw [hhp]; exact Amb.moved hW0 (hAm.kept hS.2.1)
  have hk' : (Cond.classLink own ik cls).before args s' = true := x9_at hts hAm' hvm (x9ok.g hk)
  have hini' : (Cond.initialized cls).before args s' = true := x9_at hts hAm' hvm (x9ok.g hini)
  have h : ∀ w ∈ x9Own own ic cls ix rx (Y :: r), w.before args s' = true := fun w hw => x9_at hts hAm' hvm (hat w hw)
  have hown' : s'.vm.findClass own = some m.cls := by rw [hvm]; exact ho
  have hins9 : (Cond.instantiable cls 6).before args s' = true := h _ (by simp [x9Own])
  obtain ⟨vm₁, cX, kX, hfX, hkX, -, -, X₁, st1⟩ := Y9.newCold hx (own := own) (C := cls) (index := ik) (n := 6) hown' hk' hins9 hini'
    (g := F0 m pc ls st) rfl (by rw [hb]; exact d0) (Nat.le_refl _) (Nat.le_refl _)
  generalize hT1 : (T.setVm vm₁).pushCell { cls := cX, slots := kX.instanceTypes.map defaultValue, vm := .none } = T1 at X₁ st1
  have hcat : (Value.ref T.heap.size).category = 1 := rfl
  have hcellA : T1.heap[T.heap.size]? = some (freshCell cX kX) := by rw [← hT1]; exact State.heap_pushCell_size _ _
  have d3' : decode c.code (pc + 3) = .ok (.dup, 1) := by rw [hb]; exact d3
  have d4' : decode c.code (pc + 4) = .ok (ins, wd) := by rw [hb]; exact d4
  obtain ⟨sa, hsa⟩ := hAm'.2.2.2.1 _ hstr
  obtain ⟨U, hsteps, hrun, hend, hW, hsame, ce, hce, hcv, hcl0⟩ := x9_made X₁ hx htr9 (own := own) (cls := cls) (ic := ic) x0 x1 x2 x5 hown' hcls hY hn h (fun x hx => nomatch hx) hfX hkX hcellA (by rw [hhp, hT]; exact Nat.le_refl _) (msg := .ref sa) rfl
    (g := { method := m, pc := pc + 4 + wd, locals := ls, stack := .ref sa :: .ref T.heap.size :: .ref T.heap.size :: st, locked := none }) rfl (hL.1.trans hml.symm) rfl rfl (rest := st) rfl
    (by rw [hb]; exact d6) (by rw [hb]; exact d9) (fun x hx => (hN x hx).elim) hRf (by simp only [List.map_cons, List.sum_cons, hcat]; omega) hlk
  obtain ⟨f1, f2⟩ := vx_frame hsame
  rw [hhp] at f1 f2
  have f3 : ∀ q : Nat, q < H.size → U.heap[q]? = H[q]? := fun q hq => f2 q hq (fun z hz => nomatch hz)
  have hWs : s.WarmedH U.vm := State.WarmedH.trans hW0 hW
  have hcl : s.vm.findClass cls = some ce.cls := by rw [hvm] at hcl0; exact hcl0
  have hall : s.sameButNew ({ U with vm := s.vm } : State) locs R.cells R.slots := by
    subst hA9
    obtain ⟨e1, e2⟩ := hsame
    rw [State.setFrames_setFrames] at e1
    have h2 : (T.setVm s.vm).sameButNew ({ U with vm := s.vm } : State) [] (0 + 1) (0 + 6) := ⟨e1, e2⟩
    have h3 := X.same.trans h2
    rw [List.append_nil] at h3
    exact h3.mono hRc hRs
  have hP9 : va_P D vwCl Wd U.heap := hP.kept (fun j q hq => f3 q.1 (vx_lt hP hq))
  have hF9 : va_F A s U := ⟨Nat.le_trans hS.1 f1, fun q h1 h2 => (f3 q (Nat.lt_of_lt_of_le h1 hS.1)).trans (hS.2.1 q h1 h2)⟩
  refine ⟨U, ?_, .threw T.heap.size, hrun, hend, Or.inr ⟨T.heap.size, rfl, cls, ce, locs, ⟨⟨Wd, hp, hP9, hD⟩, hF9⟩, hce, hcv, hcl, hWs, hall, hS.2.2⟩⟩
  refine st1 _ ?_
  show Steps p.tables e below (T1.setTop { method := m, pc := pc + 3, locals := ls, stack := .ref T.heap.size :: st, locked := none }) _
  jvm_step X₁.here [X₁.here.top, hx, d3', Value.category]
  rcases hins with ⟨rfl, rfl⟩ | ⟨rfl, rfl⟩
  · exact X₁.ldcString hx (own := own) (text := text) (index := is) (a := sa) hown' hsa.1 hsa.2
      (g := { method := m, pc := pc + 4, locals := ls, stack := .ref T.heap.size :: .ref T.heap.size :: st, locked := none }) rfl d4' _ hsteps
  · exact X₁.ldcStringW hx (own := own) (text := text) (index := is) (a := sa) hown' hsa.1 hsa.2
      (g := { method := m, pc := pc + 4, locals := ls, stack := .ref T.heap.size :: .ref T.heap.size :: st, locked := none }) rfl d4' _ hsteps
end VTH
theorem gn_of {w : Cond} (h : w ∈ tables_1) (g : nwOK w = true) : w ∈ lwN := List.mem_filter.mpr ⟨h, g⟩
theorem gS_of {a c : String} {b : Nat} (h : Cond.stringRef a b c ∈ tables_1) : (a, b, c) ∈ lwS := List.mem_filterMap.mpr ⟨_, h, rfl⟩
theorem gn_2_83 : (Jvm.Cond.castable "java/lang/IllegalArgumentException" "java/lang/IllegalArgumentException") ∈ lwN := gn_of (List.mem_append_right _ (List.mem_append_left _ (List.mem_of_getElem? (i := 83) rfl))) rfl
theorem gn_2_153 : (Jvm.Cond.castable "java/lang/IllegalStateException" "java/lang/IllegalStateException") ∈ lwN := gn_of (List.mem_append_right _ (List.mem_append_left _ (List.mem_of_getElem? (i := 153) rfl))) rfl
theorem gn_2_189 : (Jvm.Cond.castable "java/util/NoSuchElementException" "java/util/NoSuchElementException") ∈ lwN := gn_of (List.mem_append_right _ (List.mem_append_left _ (List.mem_of_getElem? (i := 189) rfl))) rfl
theorem gn_3_107 : (Jvm.Cond.castable "java/lang/UnsupportedOperationException" "java/lang/UnsupportedOperationException") ∈ lwN := gn_of (List.mem_append_right _ (List.mem_append_right _ (List.mem_append_left _ (List.mem_of_getElem? (i := 107) rfl)))) rfl
theorem gn_4_55 : (Jvm.Cond.castable "java/lang/IndexOutOfBoundsException" "java/lang/IndexOutOfBoundsException") ∈ lwN := gn_of (List.mem_append_right _ (List.mem_append_right _ (List.mem_append_right _ (List.mem_append_left _ (List.mem_of_getElem? (i := 55) rfl))))) rfl
theorem gn_5_95 : (Jvm.Cond.castable "[B" "java/lang/Cloneable") ∈ lwN := gn_of (List.mem_append_right _ (List.mem_append_right _ (List.mem_append_right _ (List.mem_append_right _ (List.mem_append_left _ (List.mem_of_getElem? (i := 95) rfl)))))) rfl
theorem gn_8_96 : (Jvm.Cond.castable "Runbooker" "java/lang/Object") ∈ lwN := gn_of (List.mem_append_right _ (List.mem_append_right _ (List.mem_append_right _ (List.mem_append_right _ (List.mem_append_right _ (List.mem_append_right _ (List.mem_append_right _ (List.mem_of_getElem? (i := 96) rfl)))))))) rfl
theorem gn_8_97 : (Jvm.Cond.castable "Runbooker$Crew" "java/lang/Object") ∈ lwN := gn_of (List.mem_append_right _ (List.mem_append_right _ (List.mem_append_right _ (List.mem_append_right _ (List.mem_append_right _ (List.mem_append_right _ (List.mem_append_right _ (List.mem_of_getElem? (i := 97) rfl)))))))) rfl
theorem gn_8_98 : (Jvm.Cond.castable "Runbooker$Plan" "java/lang/Object") ∈ lwN := gn_of (List.mem_append_right _ (List.mem_append_right _ (List.mem_append_right _ (List.mem_append_right _ (List.mem_append_right _ (List.mem_append_right _ (List.mem_append_right _ (List.mem_of_getElem? (i := 98) rfl)))))))) rfl
theorem gn_8_99 : (Jvm.Cond.castable "Runbooker$Progress" "java/lang/Object") ∈ lwN := gn_of (List.mem_append_right _ (List.mem_append_right _ (List.mem_append_right _ (List.mem_append_right _ (List.mem_append_right _ (List.mem_append_right _ (List.mem_append_right _ (List.mem_of_getElem? (i := 99) rfl)))))))) rfl
theorem gn_8_100 : (Jvm.Cond.castable "Runbooker$Handover" "java/lang/Object") ∈ lwN := gn_of (List.mem_append_right _ (List.mem_append_right _ (List.mem_append_right _ (List.mem_append_right _ (List.mem_append_right _ (List.mem_append_right _ (List.mem_append_right _ (List.mem_of_getElem? (i := 100) rfl)))))))) rfl
theorem gn_8_101 : (Jvm.Cond.castable "Runbooker$Journal" "java/lang/Object") ∈ lwN := gn_of (List.mem_append_right _ (List.mem_append_right _ (List.mem_append_right _ (List.mem_append_right _ (List.mem_append_right _ (List.mem_append_right _ (List.mem_append_right _ (List.mem_of_getElem? (i := 101) rfl)))))))) rfl
theorem gn_8_102 : (Jvm.Cond.castable "RunbookerModel" "java/lang/Object") ∈ lwN := gn_of (List.mem_append_right _ (List.mem_append_right _ (List.mem_append_right _ (List.mem_append_right _ (List.mem_append_right _ (List.mem_append_right _ (List.mem_append_right _ (List.mem_of_getElem? (i := 102) rfl)))))))) rfl
theorem gn_8_103 : (Jvm.Cond.castable "java/lang/IllegalArgumentException" "java/lang/Object") ∈ lwN := gn_of (List.mem_append_right _ (List.mem_append_right _ (List.mem_append_right _ (List.mem_append_right _ (List.mem_append_right _ (List.mem_append_right _ (List.mem_append_right _ (List.mem_of_getElem? (i := 103) rfl)))))))) rfl
theorem gn_8_104 : (Jvm.Cond.castable "java/lang/IllegalStateException" "java/lang/Object") ∈ lwN := gn_of (List.mem_append_right _ (List.mem_append_right _ (List.mem_append_right _ (List.mem_append_right _ (List.mem_append_right _ (List.mem_append_right _ (List.mem_append_right _ (List.mem_of_getElem? (i := 104) rfl)))))))) rfl
theorem gn_8_105 : (Jvm.Cond.castable "java/util/NoSuchElementException" "java/lang/Object") ∈ lwN := gn_of (List.mem_append_right _ (List.mem_append_right _ (List.mem_append_right _ (List.mem_append_right _ (List.mem_append_right _ (List.mem_append_right _ (List.mem_append_right _ (List.mem_of_getElem? (i := 105) rfl)))))))) rfl
theorem gn_8_106 : (Jvm.Cond.castable "java/lang/UnsupportedOperationException" "java/lang/Object") ∈ lwN := gn_of (List.mem_append_right _ (List.mem_append_right _ (List.mem_append_right _ (List.mem_append_right _ (List.mem_append_right _ (List.mem_append_right _ (List.mem_append_right _ (List.mem_of_getElem? (i := 106) rfl)))))))) rfl
theorem gn_8_107 : (Jvm.Cond.castable "java/lang/IndexOutOfBoundsException" "java/lang/Object") ∈ lwN := gn_of (List.mem_append_right _ (List.mem_append_right _ (List.mem_append_right _ (List.mem_append_right _ (List.mem_append_right _ (List.mem_append_right _ (List.mem_append_right _ (List.mem_of_getElem? (i := 107) rfl)))))))) rfl
theorem gn_8_108 : (Jvm.Cond.castable "java/lang/StringBuilder" "java/lang/Object") ∈ lwN := gn_of (List.mem_append_right _ (List.mem_append_right _ (List.mem_append_right _ (List.mem_append_right _ (List.mem_append_right _ (List.mem_append_right _ (List.mem_append_right _ (List.mem_of_getElem? (i := 108) rfl)))))))) rfl
theorem gn_8_109 : (Jvm.Cond.castable "java/lang/String" "java/lang/Object") ∈ lwN := gn_of (List.mem_append_right _ (List.mem_append_right _ (List.mem_append_right _ (List.mem_append_right _ (List.mem_append_right _ (List.mem_append_right _ (List.mem_append_right _ (List.mem_of_getElem? (i := 109) rfl)))))))) rfl
theorem gn_8_110 : (Jvm.Cond.castable "java/lang/Throwable" "java/lang/Object") ∈ lwN := gn_of (List.mem_append_right _ (List.mem_append_right _ (List.mem_append_right _ (List.mem_append_right _ (List.mem_append_right _ (List.mem_append_right _ (List.mem_append_right _ (List.mem_of_getElem? (i := 110) rfl)))))))) rfl
theorem gn_2_84 : (Jvm.Cond.declares ({ cls := "java/lang/RuntimeException", name := "<init>", desc := "()V" } : Jvm.MethodName)) ∈ lwN := gn_of (List.mem_append_right _ (List.mem_append_left _ (List.mem_of_getElem? (i := 84) rfl))) rfl
theorem gn_2_85 : (Jvm.Cond.declares ({ cls := "java/lang/RuntimeException", name := "<init>", desc := "(Ljava/lang/String;)V" } : Jvm.MethodName)) ∈ lwN := gn_of (List.mem_append_right _ (List.mem_append_left _ (List.mem_of_getElem? (i := 85) rfl))) rfl
theorem gn_2_86 : (Jvm.Cond.declares ({ cls := "java/lang/Exception", name := "<init>", desc := "()V" } : Jvm.MethodName)) ∈ lwN := gn_of (List.mem_append_right _ (List.mem_append_left _ (List.mem_of_getElem? (i := 86) rfl))) rfl
theorem gn_2_87 : (Jvm.Cond.declares ({ cls := "java/lang/Exception", name := "<init>", desc := "(Ljava/lang/String;)V" } : Jvm.MethodName)) ∈ lwN := gn_of (List.mem_append_right _ (List.mem_append_left _ (List.mem_of_getElem? (i := 87) rfl))) rfl
theorem gn_2_88 : (Jvm.Cond.declares ({ cls := "java/lang/Throwable", name := "<init>", desc := "()V" } : Jvm.MethodName)) ∈ lwN := gn_of (List.mem_append_right _ (List.mem_append_left _ (List.mem_of_getElem? (i := 88) rfl))) rfl
theorem gn_2_89 : (Jvm.Cond.declares ({ cls := "java/lang/Throwable", name := "<init>", desc := "(Ljava/lang/String;)V" } : Jvm.MethodName)) ∈ lwN := gn_of (List.mem_append_right _ (List.mem_append_left _ (List.mem_of_getElem? (i := 89) rfl))) rfl
theorem gn_1_38 : (Jvm.Cond.methodLinkNest "Runbooker" (9 : Nat) ({ cls := "Runbooker$Crew", name := "<init>", desc := "()V" } : Jvm.MethodName) "Runbooker") ∈ lwN := gn_of (List.mem_append_left _ (List.mem_of_getElem? (i := 38) rfl)) rfl
theorem gn_1_62 : (Jvm.Cond.methodLinkNest "Runbooker" (18 : Nat) ({ cls := "Runbooker$Plan", name := "<init>", desc := "()V" } : Jvm.MethodName) "Runbooker") ∈ lwN := gn_of (List.mem_append_left _ (List.mem_of_getElem? (i := 62) rfl)) rfl
theorem gn_1_120 : (Jvm.Cond.methodLinkNest "Runbooker" (25 : Nat) ({ cls := "Runbooker$Progress", name := "<init>", desc := "()V" } : Jvm.MethodName) "Runbooker") ∈ lwN := gn_of (List.mem_append_left _ (List.mem_of_getElem? (i := 120) rfl)) rfl
theorem gn_1_162 : (Jvm.Cond.methodLinkNest "Runbooker" (32 : Nat) ({ cls := "Runbooker$Handover", name := "<init>", desc := "()V" } : Jvm.MethodName) "Runbooker") ∈ lwN := gn_of (List.mem_append_left _ (List.mem_of_getElem? (i := 162) rfl)) rfl
theorem gn_1_181 : (Jvm.Cond.methodLinkNest "Runbooker" (39 : Nat) ({ cls := "Runbooker$Journal", name := "<init>", desc := "()V" } : Jvm.MethodName) "Runbooker") ∈ lwN := gn_of (List.mem_append_left _ (List.mem_of_getElem? (i := 181) rfl)) rfl
theorem gn_2_42 : (Jvm.Cond.methodLinkNest "Runbooker$Plan" (54 : Nat) ({ cls := "Runbooker", name := "isSensor", desc := "(I)Z" } : Jvm.MethodName) "Runbooker") ∈ lwN := gn_of (List.mem_append_right _ (List.mem_append_left _ (List.mem_of_getElem? (i := 42) rfl))) rfl
theorem gS_50 : ("Runbooker", 50, "the roles are out of range") ∈ lwS := gS_of (List.mem_append_right _ (List.mem_append_left _ (List.mem_of_getElem? (i := 124) rfl)))
theorem gS_61 : ("Runbooker", 61, "there are 8 people") ∈ lwS := gS_of (List.mem_append_right _ (List.mem_append_left _ (List.mem_of_getElem? (i := 160) rfl)))
theorem gS_398 : ("Runbooker", 398, "there is no such person") ∈ lwS := gS_of (List.mem_append_right _ (List.mem_append_left _ (List.mem_of_getElem? (i := 196) rfl)))
theorem gS_79 : ("Runbooker", 79, "the person is busy or takes part in a handover") ∈ lwS := gS_of (List.mem_append_right _ (List.mem_append_left _ (List.mem_of_getElem? (i := 211) rfl)))
theorem gS_88 : ("Runbooker", 88, "the role or the length is out of range") ∈ lwS := gS_of (List.mem_append_right _ (List.mem_append_left _ (List.mem_of_getElem? (i := 222) rfl)))
theorem gS_90 : ("Runbooker", 90, "the limit of tries or the join is out of range") ∈ lwS := gS_of (List.mem_append_right _ (List.mem_append_left _ (List.mem_of_getElem? (i := 223) rfl)))
theorem gS_413 : ("Runbooker", 413, "there is a run") ∈ lwS := gS_of (List.mem_append_right _ (List.mem_append_left _ (List.mem_of_getElem? (i := 228) rfl)))
theorem gS_96 : ("Runbooker", 96, "there are 16 steps") ∈ lwS := gS_of (List.mem_append_right _ (List.mem_append_left _ (List.mem_of_getElem? (i := 229) rfl)))
theorem gS_401 : ("Runbooker", 401, "there is no such step") ∈ lwS := gS_of (List.mem_append_right _ (List.mem_append_right _ (List.mem_append_left _ (List.mem_of_getElem? (i := 9) rfl))))
theorem gS_105 : ("Runbooker", 105, "a step needs steps with lower numbers alone") ∈ lwS := gS_of (List.mem_append_right _ (List.mem_append_right _ (List.mem_append_left _ (List.mem_of_getElem? (i := 10) rfl))))
theorem gS_111 : ("Runbooker", 111, "the step needs the other one already") ∈ lwS := gS_of (List.mem_append_right _ (List.mem_append_right _ (List.mem_append_left _ (List.mem_of_getElem? (i := 11) rfl))))
theorem gS_127 : ("Runbooker", 127, "the sensor, the sign or the bound is out of range") ∈ lwS := gS_of (List.mem_append_right _ (List.mem_append_right _ (List.mem_append_left _ (List.mem_of_getElem? (i := 29) rfl))))
theorem gS_132 : ("Runbooker", 132, "the step has 2 conditions") ∈ lwS := gS_of (List.mem_append_right _ (List.mem_append_right _ (List.mem_append_left _ (List.mem_of_getElem? (i := 30) rfl))))
theorem gS_141 : ("Runbooker", 141, "the other step cannot be the fallback of this one") ∈ lwS := gS_of (List.mem_append_right _ (List.mem_append_right _ (List.mem_append_left _ (List.mem_of_getElem? (i := 46) rfl))))
theorem gS_146 : ("Runbooker", 146, "the sensor or the reading is out of range") ∈ lwS := gS_of (List.mem_append_right _ (List.mem_append_right _ (List.mem_append_left _ (List.mem_of_getElem? (i := 54) rfl))))
theorem gS_148 : ("Runbooker", 148, "there are no steps") ∈ lwS := gS_of (List.mem_append_right _ (List.mem_append_right _ (List.mem_append_left _ (List.mem_of_getElem? (i := 62) rfl))))
theorem gS_411 : ("Runbooker", 411, "there is no run") ∈ lwS := gS_of (List.mem_append_right _ (List.mem_append_right _ (List.mem_append_left _ (List.mem_of_getElem? (i := 79) rfl))))
theorem gS_173 : ("Runbooker", 173, "a step is active, or there is a handover") ∈ lwS := gS_of (List.mem_append_right _ (List.mem_append_right _ (List.mem_append_left _ (List.mem_of_getElem? (i := 84) rfl))))
theorem gS_189 : ("Runbooker", 189, "the person cannot begin the step") ∈ lwS := gS_of (List.mem_append_right _ (List.mem_append_right _ (List.mem_append_left _ (List.mem_of_getElem? (i := 114) rfl))))
theorem gS_198 : ("Runbooker", 198, "the step cannot be begun") ∈ lwS := gS_of (List.mem_append_right _ (List.mem_append_right _ (List.mem_append_left _ (List.mem_of_getElem? (i := 125) rfl))))
theorem gS_220 : ("Runbooker", 220, "the person is not the worker of an active step") ∈ lwS := gS_of (List.mem_append_right _ (List.mem_append_right _ (List.mem_append_left _ (List.mem_of_getElem? (i := 141) rfl))))
theorem gS_228 : ("Runbooker", 228, "the step cannot be finished yet") ∈ lwS := gS_of (List.mem_append_right _ (List.mem_append_right _ (List.mem_append_left _ (List.mem_of_getElem? (i := 142) rfl))))
theorem gS_240 : ("Runbooker", 240, "both people are the same") ∈ lwS := gS_of (List.mem_append_right _ (List.mem_append_right _ (List.mem_append_left _ (List.mem_of_getElem? (i := 170) rfl))))
theorem gS_242 : ("Runbooker", 242, "there is a handover") ∈ lwS := gS_of (List.mem_append_right _ (List.mem_append_right _ (List.mem_append_left _ (List.mem_of_getElem? (i := 171) rfl))))
theorem gS_247 : ("Runbooker", 247, "the other person cannot take over") ∈ lwS := gS_of (List.mem_append_right _ (List.mem_append_right _ (List.mem_append_left _ (List.mem_of_getElem? (i := 176) rfl))))
theorem gS_256 : ("Runbooker", 256, "a step is active, or the step is not done") ∈ lwS := gS_of (List.mem_append_right _ (List.mem_append_right _ (List.mem_append_left _ (List.mem_of_getElem? (i := 188) rfl))))
theorem gS_264 : ("Runbooker", 264, "a step that would be undone is not reversible") ∈ lwS := gS_of (List.mem_append_right _ (List.mem_append_right _ (List.mem_append_left _ (List.mem_of_getElem? (i := 197) rfl))))
theorem gS_269 : ("Runbooker", 269, "the number of minutes is out of range") ∈ lwS := gS_of (List.mem_append_right _ (List.mem_append_right _ (List.mem_append_left _ (List.mem_of_getElem? (i := 214) rfl))))
theorem gS_409 : ("Runbooker", 409, "the role is out of range") ∈ lwS := gS_of (List.mem_append_right _ (List.mem_append_right _ (List.mem_append_right _ (List.mem_append_left _ (List.mem_of_getElem? (i := 22) rfl)))))
theorem gS_277 : ("Runbooker", 277, "the sensor is out of range") ∈ lwS := gS_of (List.mem_append_right _ (List.mem_append_right _ (List.mem_append_right _ (List.mem_append_left _ (List.mem_of_getElem? (i := 37) rfl)))))
theorem gS_285 : ("Runbooker", 285, "the step has no such condition") ∈ lwS := gS_of (List.mem_append_right _ (List.mem_append_right _ (List.mem_append_right _ (List.mem_append_left _ (List.mem_of_getElem? (i := 62) rfl)))))
theorem gS_291 : ("Runbooker", 291, "the step has not been begun in the run") ∈ lwS := gS_of (List.mem_append_right _ (List.mem_append_right _ (List.mem_append_right _ (List.mem_append_left _ (List.mem_of_getElem? (i := 69) rfl)))))
theorem gS_404 : ("Runbooker", 404, "the step was in no run yet") ∈ lwS := gS_of (List.mem_append_right _ (List.mem_append_right _ (List.mem_append_right _ (List.mem_append_left _ (List.mem_of_getElem? (i := 89) rfl)))))
theorem gS_315 : ("Runbooker", 315, "no step is ready for the person") ∈ lwS := gS_of (List.mem_append_right _ (List.mem_append_right _ (List.mem_append_right _ (List.mem_append_left _ (List.mem_of_getElem? (i := 134) rfl)))))
theorem gS_336 : ("Runbooker", 336, "there is no handover") ∈ lwS := gS_of (List.mem_append_right _ (List.mem_append_right _ (List.mem_append_right _ (List.mem_append_left _ (List.mem_of_getElem? (i := 171) rfl)))))
theorem gS_338 : ("Runbooker", 338, "the step is not active") ∈ lwS := gS_of (List.mem_append_right _ (List.mem_append_right _ (List.mem_append_right _ (List.mem_append_left _ (List.mem_of_getElem? (i := 186) rfl)))))
theorem gS_343 : ("Runbooker", 343, "no step is done") ∈ lwS := gS_of (List.mem_append_right _ (List.mem_append_right _ (List.mem_append_right _ (List.mem_append_left _ (List.mem_of_getElem? (i := 195) rfl)))))
theorem gS_407 : ("Runbooker", 407, "there is no such entry") ∈ lwS := gS_of (List.mem_append_right _ (List.mem_append_right _ (List.mem_append_right _ (List.mem_append_left _ (List.mem_of_getElem? (i := 211) rfl)))))
theorem gS_379 : ("Runbooker", 379, "the label has no such index") ∈ lwS := gS_of (List.mem_append_right _ (List.mem_append_right _ (List.mem_append_right _ (List.mem_append_right _ (List.mem_append_left _ (List.mem_of_getElem? (i := 201) rfl))))))
set_option maxRecDepth 20000 in
theorem x9_IAE : ∀ w ∈ x9Own "Runbooker" 52 "java/lang/IllegalArgumentException" 7 prog_16_method_2_code ["java/lang/RuntimeException", "java/lang/Exception"], x9ok w := List.forall_mem_cons.mpr ⟨x9ok.g gw_1_8, List.forall_mem_cons.mpr ⟨x9ok.g gw_2_103, List.forall_mem_cons.mpr ⟨x9ok.g gw_2_112, List.forall_mem_cons.mpr ⟨x9ok.g gw_2_118, List.forall_mem_cons.mpr ⟨x9ok.g gw_2_121, List.forall_mem_cons.mpr ⟨x9ok.g gw_2_123, List.forall_mem_cons.mpr ⟨x9ok.g gw_2_104, List.forall_mem_cons.mpr ⟨x9ok.g gw_2_105, List.forall_mem_cons.mpr ⟨x9ok.g gw_1_34, List.forall_mem_cons.mpr ⟨x9ok.g gw_1_35, List.forall_mem_cons.mpr ⟨x9ok.g gw_2_106, List.forall_mem_cons.mpr ⟨x9ok.g gw_2_111, List.forall_mem_cons.mpr ⟨x9ok.g gw_2_119, List.forall_mem_cons.mpr ⟨x9ok.g gw_2_139, List.forall_mem_cons.mpr ⟨x9ok.g gw_2_93, List.forall_mem_cons.mpr ⟨x9ok.g gw_2_140, List.forall_mem_cons.mpr ⟨x9ok.g gw_2_95, List.forall_mem_cons.mpr ⟨x9ok.g gw_2_141, List.forall_mem_cons.mpr ⟨x9ok.g gw_2_97, List.forall_mem_cons.mpr ⟨x9ok.g gw_2_107, List.forall_mem_cons.mpr ⟨Or.inr (Or.inr (Or.inr (Or.inr (Or.inl rfl)))), List.forall_mem_cons.mpr ⟨x9ok.g gw_2_109, List.forall_mem_cons.mpr ⟨Or.inr (Or.inr (Or.inr (Or.inr (Or.inr rfl)))), List.forall_mem_cons.mpr ⟨x9ok.g gw_2_99, List.forall_mem_cons.mpr ⟨x9ok.g gw_2_135, List.forall_mem_cons.mpr ⟨x9ok.g gw_2_136, List.forall_mem_cons.mpr ⟨x9ok.g gw_2_138, List.forall_mem_cons.mpr ⟨x9ok.g gw_2_99, List.forall_mem_cons.mpr ⟨x9ok.g gw_2_126, List.forall_mem_cons.mpr ⟨x9ok.g gw_2_127, List.forall_mem_cons.mpr ⟨x9ok.g gw_2_128, List.forall_mem_cons.mpr ⟨x9ok.g gw_2_129, List.forall_mem_cons.mpr ⟨x9ok.n gn_2_85, List.forall_mem_cons.mpr ⟨x9ok.g gw_2_129, List.forall_mem_cons.mpr ⟨x9ok.g gw_2_130, List.forall_mem_cons.mpr ⟨x9ok.g gw_2_131, List.forall_mem_cons.mpr ⟨x9ok.g gw_2_132, List.forall_mem_cons.mpr ⟨x9ok.n gn_2_87, List.forall_mem_cons.mpr ⟨x9ok.g gw_2_132, List.forall_mem_cons.mpr ⟨x9ok.g gw_2_133, List.forall_mem_cons.mpr ⟨x9ok.g gw_2_134, List.forall_mem_cons.mpr ⟨x9ok.g gw_2_135, List.forall_mem_cons.mpr ⟨x9ok.n gn_2_89, List.forall_mem_cons.mpr ⟨x9ok.g gw_2_125, List.forall_mem_cons.mpr ⟨x9ok.g gw_2_82, List.forall_mem_cons.mpr ⟨x9ok.n gn_2_83, List.forall_mem_cons.mpr ⟨x9ok.g gw_2_90, List.forall_mem_cons.mpr ⟨x9ok.g gw_2_91, List.forall_mem_cons.mpr ⟨x9ok.g gw_2_92, List.forall_mem_cons.mpr ⟨x9ok.g gw_2_94, List.forall_mem_cons.mpr ⟨x9ok.g gw_2_96, List.forall_mem_cons.mpr ⟨x9ok.g gw_2_98, List.forall_mem_cons.mpr ⟨Or.inr (Or.inr (Or.inl rfl)), List.forall_mem_cons.mpr ⟨Or.inr (Or.inr (Or.inr (Or.inl rfl))), List.forall_mem_cons.mpr ⟨x9ok.g gw_2_102, List.forall_mem_cons.mpr ⟨x9ok.g gw_2_101, List.forall_mem_cons.mpr ⟨x9ok.g gw_2_100, fun _ h => absurd h List.not_mem_nil⟩⟩⟩⟩⟩⟩⟩⟩⟩⟩⟩⟩⟩⟩⟩⟩⟩⟩⟩⟩⟩⟩⟩⟩⟩⟩⟩⟩⟩⟩⟩⟩⟩⟩⟩⟩⟩⟩⟩⟩⟩⟩⟩⟩⟩⟩⟩⟩⟩⟩⟩⟩⟩⟩⟩⟩⟩
theorem x9_IAE_d0 : decode prog_16_method_2_code 0 = .ok (.aload_n 0, 1) := by decide +kernel
theorem x9_IAE_d1 : decode prog_16_method_2_code 1 = .ok (.aload_n 1, 1) := by decide +kernel
theorem x9_IAE_d2 : decode prog_16_method_2_code 2 = .ok (.invokespecial 7, 3) := by decide +kernel
theorem x9_IAE_d5 : decode prog_16_method_2_code 5 = .ok (.return_, 1) := by decide +kernel
set_option maxRecDepth 20000 in
theorem x9_ISE : ∀ w ∈ x9Own "Runbooker" 63 "java/lang/IllegalStateException" 7 prog_17_method_2_code ["java/lang/RuntimeException", "java/lang/Exception"], x9ok w := List.forall_mem_cons.mpr ⟨x9ok.g gw_1_8, List.forall_mem_cons.mpr ⟨x9ok.g gw_2_103, List.forall_mem_cons.mpr ⟨x9ok.g gw_2_112, List.forall_mem_cons.mpr ⟨x9ok.g gw_2_118, List.forall_mem_cons.mpr ⟨x9ok.g gw_2_121, List.forall_mem_cons.mpr ⟨x9ok.g gw_2_123, List.forall_mem_cons.mpr ⟨x9ok.g gw_2_104, List.forall_mem_cons.mpr ⟨x9ok.g gw_2_105, List.forall_mem_cons.mpr ⟨x9ok.g gw_1_34, List.forall_mem_cons.mpr ⟨x9ok.g gw_1_35, List.forall_mem_cons.mpr ⟨x9ok.g gw_2_106, List.forall_mem_cons.mpr ⟨x9ok.g gw_2_111, List.forall_mem_cons.mpr ⟨x9ok.g gw_2_119, List.forall_mem_cons.mpr ⟨x9ok.g gw_2_139, List.forall_mem_cons.mpr ⟨x9ok.g gw_2_93, List.forall_mem_cons.mpr ⟨x9ok.g gw_2_140, List.forall_mem_cons.mpr ⟨x9ok.g gw_2_95, List.forall_mem_cons.mpr ⟨x9ok.g gw_2_141, List.forall_mem_cons.mpr ⟨x9ok.g gw_2_97, List.forall_mem_cons.mpr ⟨x9ok.g gw_2_107, List.forall_mem_cons.mpr ⟨Or.inr (Or.inr (Or.inr (Or.inr (Or.inl rfl)))), List.forall_mem_cons.mpr ⟨x9ok.g gw_2_109, List.forall_mem_cons.mpr ⟨Or.inr (Or.inr (Or.inr (Or.inr (Or.inr rfl)))), List.forall_mem_cons.mpr ⟨x9ok.g gw_2_99, List.forall_mem_cons.mpr ⟨x9ok.g gw_2_135, List.forall_mem_cons.mpr ⟨x9ok.g gw_2_136, List.forall_mem_cons.mpr ⟨x9ok.g gw_2_138, List.forall_mem_cons.mpr ⟨x9ok.g gw_2_99, List.forall_mem_cons.mpr ⟨x9ok.g gw_2_162, List.forall_mem_cons.mpr ⟨x9ok.g gw_2_163, List.forall_mem_cons.mpr ⟨x9ok.g gw_2_164, List.forall_mem_cons.mpr ⟨x9ok.g gw_2_129, List.forall_mem_cons.mpr ⟨x9ok.n gn_2_85, List.forall_mem_cons.mpr ⟨x9ok.g gw_2_129, List.forall_mem_cons.mpr ⟨x9ok.g gw_2_130, List.forall_mem_cons.mpr ⟨x9ok.g gw_2_131, List.forall_mem_cons.mpr ⟨x9ok.g gw_2_132, List.forall_mem_cons.mpr ⟨x9ok.n gn_2_87, List.forall_mem_cons.mpr ⟨x9ok.g gw_2_132, List.forall_mem_cons.mpr ⟨x9ok.g gw_2_133, List.forall_mem_cons.mpr ⟨x9ok.g gw_2_134, List.forall_mem_cons.mpr ⟨x9ok.g gw_2_135, List.forall_mem_cons.mpr ⟨x9ok.n gn_2_89, List.forall_mem_cons.mpr ⟨x9ok.g gw_2_161, List.forall_mem_cons.mpr ⟨x9ok.g gw_2_152, List.forall_mem_cons.mpr ⟨x9ok.n gn_2_153, List.forall_mem_cons.mpr ⟨x9ok.g gw_2_154, List.forall_mem_cons.mpr ⟨x9ok.g gw_2_114, List.forall_mem_cons.mpr ⟨x9ok.g gw_2_155, List.forall_mem_cons.mpr ⟨x9ok.g gw_2_156, List.forall_mem_cons.mpr ⟨x9ok.g gw_2_157, List.forall_mem_cons.mpr ⟨x9ok.g gw_2_158, List.forall_mem_cons.mpr ⟨Or.inr (Or.inr (Or.inl rfl)), List.forall_mem_cons.mpr ⟨Or.inr (Or.inr (Or.inr (Or.inl rfl))), List.forall_mem_cons.mpr ⟨x9ok.g gw_2_102, List.forall_mem_cons.mpr ⟨x9ok.g gw_2_101, List.forall_mem_cons.mpr ⟨x9ok.g gw_2_159, fun _ h => absurd h List.not_mem_nil⟩⟩⟩⟩⟩⟩⟩⟩⟩⟩⟩⟩⟩⟩⟩⟩⟩⟩⟩⟩⟩⟩⟩⟩⟩⟩⟩⟩⟩⟩⟩⟩⟩⟩⟩⟩⟩⟩⟩⟩⟩⟩⟩⟩⟩⟩⟩⟩⟩⟩⟩⟩⟩⟩⟩⟩⟩
theorem x9_ISE_d0 : decode prog_17_method_2_code 0 = .ok (.aload_n 0, 1) := by decide +kernel
theorem x9_ISE_d1 : decode prog_17_method_2_code 1 = .ok (.aload_n 1, 1) := by decide +kernel
theorem x9_ISE_d2 : decode prog_17_method_2_code 2 = .ok (.invokespecial 7, 3) := by decide +kernel
theorem x9_ISE_d5 : decode prog_17_method_2_code 5 = .ok (.return_, 1) := by decide +kernel
set_option maxRecDepth 20000 in
theorem x9_NSE : ∀ w ∈ x9Own "Runbooker" 400 "java/util/NoSuchElementException" 13 prog_33_method_4_code ["java/lang/RuntimeException", "java/lang/Exception"], x9ok w := List.forall_mem_cons.mpr ⟨x9ok.g gw_1_8, List.forall_mem_cons.mpr ⟨x9ok.g gw_2_103, List.forall_mem_cons.mpr ⟨x9ok.g gw_2_112, List.forall_mem_cons.mpr ⟨x9ok.g gw_2_118, List.forall_mem_cons.mpr ⟨x9ok.g gw_2_121, List.forall_mem_cons.mpr ⟨x9ok.g gw_2_123, List.forall_mem_cons.mpr ⟨x9ok.g gw_2_104, List.forall_mem_cons.mpr ⟨x9ok.g gw_2_105, List.forall_mem_cons.mpr ⟨x9ok.g gw_1_34, List.forall_mem_cons.mpr ⟨x9ok.g gw_1_35, List.forall_mem_cons.mpr ⟨x9ok.g gw_2_106, List.forall_mem_cons.mpr ⟨x9ok.g gw_2_111, List.forall_mem_cons.mpr ⟨x9ok.g gw_2_119, List.forall_mem_cons.mpr ⟨x9ok.g gw_2_139, List.forall_mem_cons.mpr ⟨x9ok.g gw_2_93, List.forall_mem_cons.mpr ⟨x9ok.g gw_2_140, List.forall_mem_cons.mpr ⟨x9ok.g gw_2_95, List.forall_mem_cons.mpr ⟨x9ok.g gw_2_141, List.forall_mem_cons.mpr ⟨x9ok.g gw_2_97, List.forall_mem_cons.mpr ⟨x9ok.g gw_2_107, List.forall_mem_cons.mpr ⟨Or.inr (Or.inr (Or.inr (Or.inr (Or.inl rfl)))), List.forall_mem_cons.mpr ⟨x9ok.g gw_2_109, List.forall_mem_cons.mpr ⟨Or.inr (Or.inr (Or.inr (Or.inr (Or.inr rfl)))), List.forall_mem_cons.mpr ⟨x9ok.g gw_2_99, List.forall_mem_cons.mpr ⟨x9ok.g gw_2_135, List.forall_mem_cons.mpr ⟨x9ok.g gw_2_136, List.forall_mem_cons.mpr ⟨x9ok.g gw_2_138, List.forall_mem_cons.mpr ⟨x9ok.g gw_2_99, List.forall_mem_cons.mpr ⟨x9ok.g gw_2_198, List.forall_mem_cons.mpr ⟨x9ok.g gw_2_199, List.forall_mem_cons.mpr ⟨x9ok.g gw_2_200, List.forall_mem_cons.mpr ⟨x9ok.g gw_2_129, List.forall_mem_cons.mpr ⟨x9ok.n gn_2_85, List.forall_mem_cons.mpr ⟨x9ok.g gw_2_129, List.forall_mem_cons.mpr ⟨x9ok.g gw_2_130, List.forall_mem_cons.mpr ⟨x9ok.g gw_2_131, List.forall_mem_cons.mpr ⟨x9ok.g gw_2_132, List.forall_mem_cons.mpr ⟨x9ok.n gn_2_87, List.forall_mem_cons.mpr ⟨x9ok.g gw_2_132, List.forall_mem_cons.mpr ⟨x9ok.g gw_2_133, List.forall_mem_cons.mpr ⟨x9ok.g gw_2_134, List.forall_mem_cons.mpr ⟨x9ok.g gw_2_135, List.forall_mem_cons.mpr ⟨x9ok.n gn_2_89, List.forall_mem_cons.mpr ⟨x9ok.g gw_2_197, List.forall_mem_cons.mpr ⟨x9ok.g gw_2_188, List.forall_mem_cons.mpr ⟨x9ok.n gn_2_189, List.forall_mem_cons.mpr ⟨x9ok.g gw_2_190, List.forall_mem_cons.mpr ⟨x9ok.g gw_2_117, List.forall_mem_cons.mpr ⟨x9ok.g gw_2_191, List.forall_mem_cons.mpr ⟨x9ok.g gw_2_192, List.forall_mem_cons.mpr ⟨x9ok.g gw_2_193, List.forall_mem_cons.mpr ⟨x9ok.g gw_2_194, List.forall_mem_cons.mpr ⟨Or.inr (Or.inr (Or.inl rfl)), List.forall_mem_cons.mpr ⟨Or.inr (Or.inr (Or.inr (Or.inl rfl))), List.forall_mem_cons.mpr ⟨x9ok.g gw_2_102, List.forall_mem_cons.mpr ⟨x9ok.g gw_2_101, List.forall_mem_cons.mpr ⟨x9ok.g gw_2_195, fun _ h => absurd h List.not_mem_nil⟩⟩⟩⟩⟩⟩⟩⟩⟩⟩⟩⟩⟩⟩⟩⟩⟩⟩⟩⟩⟩⟩⟩⟩⟩⟩⟩⟩⟩⟩⟩⟩⟩⟩⟩⟩⟩⟩⟩⟩⟩⟩⟩⟩⟩⟩⟩⟩⟩⟩⟩⟩⟩⟩⟩⟩⟩
theorem x9_NSE_d0 : decode prog_33_method_4_code 0 = .ok (.aload_n 0, 1) := by decide +kernel
theorem x9_NSE_d1 : decode prog_33_method_4_code 1 = .ok (.aload_n 1, 1) := by decide +kernel
theorem x9_NSE_d2 : decode prog_33_method_4_code 2 = .ok (.invokespecial 13, 3) := by decide +kernel
theorem x9_NSE_d5 : decode prog_33_method_4_code 5 = .ok (.return_, 1) := by decide +kernel
set_option maxRecDepth 20000 in
theorem x9_UOE : ∀ w ∈ x9Own "Runbooker" 191 "java/lang/UnsupportedOperationException" 7 prog_29_method_2_code ["java/lang/RuntimeException", "java/lang/Exception"], x9ok w := List.forall_mem_cons.mpr ⟨x9ok.g gw_1_8, List.forall_mem_cons.mpr ⟨x9ok.g gw_2_103, List.forall_mem_cons.mpr ⟨x9ok.g gw_2_112, List.forall_mem_cons.mpr ⟨x9ok.g gw_2_118, List.forall_mem_cons.mpr ⟨x9ok.g gw_2_121, List.forall_mem_cons.mpr ⟨x9ok.g gw_2_123, List.forall_mem_cons.mpr ⟨x9ok.g gw_2_104, List.forall_mem_cons.mpr ⟨x9ok.g gw_2_105, List.forall_mem_cons.mpr ⟨x9ok.g gw_1_34, List.forall_mem_cons.mpr ⟨x9ok.g gw_1_35, List.forall_mem_cons.mpr ⟨x9ok.g gw_2_106, List.forall_mem_cons.mpr ⟨x9ok.g gw_2_111, List.forall_mem_cons.mpr ⟨x9ok.g gw_2_119, List.forall_mem_cons.mpr ⟨x9ok.g gw_2_139, List.forall_mem_cons.mpr ⟨x9ok.g gw_2_93, List.forall_mem_cons.mpr ⟨x9ok.g gw_2_140, List.forall_mem_cons.mpr ⟨x9ok.g gw_2_95, List.forall_mem_cons.mpr ⟨x9ok.g gw_2_141, List.forall_mem_cons.mpr ⟨x9ok.g gw_2_97, List.forall_mem_cons.mpr ⟨x9ok.g gw_2_107, List.forall_mem_cons.mpr ⟨Or.inr (Or.inr (Or.inr (Or.inr (Or.inl rfl)))), List.forall_mem_cons.mpr ⟨x9ok.g gw_2_109, List.forall_mem_cons.mpr ⟨Or.inr (Or.inr (Or.inr (Or.inr (Or.inr rfl)))), List.forall_mem_cons.mpr ⟨x9ok.g gw_2_99, List.forall_mem_cons.mpr ⟨x9ok.g gw_2_135, List.forall_mem_cons.mpr ⟨x9ok.g gw_2_136, List.forall_mem_cons.mpr ⟨x9ok.g gw_2_138, List.forall_mem_cons.mpr ⟨x9ok.g gw_2_99, List.forall_mem_cons.mpr ⟨x9ok.g gw_3_116, List.forall_mem_cons.mpr ⟨x9ok.g gw_3_117, List.forall_mem_cons.mpr ⟨x9ok.g gw_3_118, List.forall_mem_cons.mpr ⟨x9ok.g gw_2_129, List.forall_mem_cons.mpr ⟨x9ok.n gn_2_85, List.forall_mem_cons.mpr ⟨x9ok.g gw_2_129, List.forall_mem_cons.mpr ⟨x9ok.g gw_2_130, List.forall_mem_cons.mpr ⟨x9ok.g gw_2_131, List.forall_mem_cons.mpr ⟨x9ok.g gw_2_132, List.forall_mem_cons.mpr ⟨x9ok.n gn_2_87, List.forall_mem_cons.mpr ⟨x9ok.g gw_2_132, List.forall_mem_cons.mpr ⟨x9ok.g gw_2_133, List.forall_mem_cons.mpr ⟨x9ok.g gw_2_134, List.forall_mem_cons.mpr ⟨x9ok.g gw_2_135, List.forall_mem_cons.mpr ⟨x9ok.n gn_2_89, List.forall_mem_cons.mpr ⟨x9ok.g gw_3_115, List.forall_mem_cons.mpr ⟨x9ok.g gw_3_106, List.forall_mem_cons.mpr ⟨x9ok.n gn_3_107, List.forall_mem_cons.mpr ⟨x9ok.g gw_3_108, List.forall_mem_cons.mpr ⟨x9ok.g gw_2_116, List.forall_mem_cons.mpr ⟨x9ok.g gw_3_109, List.forall_mem_cons.mpr ⟨x9ok.g gw_3_110, List.forall_mem_cons.mpr ⟨x9ok.g gw_3_111, List.forall_mem_cons.mpr ⟨x9ok.g gw_3_112, List.forall_mem_cons.mpr ⟨Or.inr (Or.inr (Or.inl rfl)), List.forall_mem_cons.mpr ⟨Or.inr (Or.inr (Or.inr (Or.inl rfl))), List.forall_mem_cons.mpr ⟨x9ok.g gw_2_102, List.forall_mem_cons.mpr ⟨x9ok.g gw_2_101, List.forall_mem_cons.mpr ⟨x9ok.g gw_3_113, fun _ h => absurd h List.not_mem_nil⟩⟩⟩⟩⟩⟩⟩⟩⟩⟩⟩⟩⟩⟩⟩⟩⟩⟩⟩⟩⟩⟩⟩⟩⟩⟩⟩⟩⟩⟩⟩⟩⟩⟩⟩⟩⟩⟩⟩⟩⟩⟩⟩⟩⟩⟩⟩⟩⟩⟩⟩⟩⟩⟩⟩⟩⟩
theorem x9_UOE_d0 : decode prog_29_method_2_code 0 = .ok (.aload_n 0, 1) := by decide +kernel
theorem x9_UOE_d1 : decode prog_29_method_2_code 1 = .ok (.aload_n 1, 1) := by decide +kernel
theorem x9_UOE_d2 : decode prog_29_method_2_code 2 = .ok (.invokespecial 7, 3) := by decide +kernel
theorem x9_UOE_d5 : decode prog_29_method_2_code 5 = .ok (.return_, 1) := by decide +kernel
set_option maxRecDepth 20000 in
theorem x9_IOB : ∀ w ∈ x9Own "Runbooker" 287 "java/lang/IndexOutOfBoundsException" 7 prog_18_method_2_code ["java/lang/RuntimeException", "java/lang/Exception"], x9ok w := List.forall_mem_cons.mpr ⟨x9ok.g gw_1_8, List.forall_mem_cons.mpr ⟨x9ok.g gw_2_103, List.forall_mem_cons.mpr ⟨x9ok.g gw_2_112, List.forall_mem_cons.mpr ⟨x9ok.g gw_2_118, List.forall_mem_cons.mpr ⟨x9ok.g gw_2_121, List.forall_mem_cons.mpr ⟨x9ok.g gw_2_123, List.forall_mem_cons.mpr ⟨x9ok.g gw_2_104, List.forall_mem_cons.mpr ⟨x9ok.g gw_2_105, List.forall_mem_cons.mpr ⟨x9ok.g gw_1_34, List.forall_mem_cons.mpr ⟨x9ok.g gw_1_35, List.forall_mem_cons.mpr ⟨x9ok.g gw_2_106, List.forall_mem_cons.mpr ⟨x9ok.g gw_2_111, List.forall_mem_cons.mpr ⟨x9ok.g gw_2_119, List.forall_mem_cons.mpr ⟨x9ok.g gw_2_139, List.forall_mem_cons.mpr ⟨x9ok.g gw_2_93, List.forall_mem_cons.mpr ⟨x9ok.g gw_2_140, List.forall_mem_cons.mpr ⟨x9ok.g gw_2_95, List.forall_mem_cons.mpr ⟨x9ok.g gw_2_141, List.forall_mem_cons.mpr ⟨x9ok.g gw_2_97, List.forall_mem_cons.mpr ⟨x9ok.g gw_2_107, List.forall_mem_cons.mpr ⟨Or.inr (Or.inr (Or.inr (Or.inr (Or.inl rfl)))), List.forall_mem_cons.mpr ⟨x9ok.g gw_2_109, List.forall_mem_cons.mpr ⟨Or.inr (Or.inr (Or.inr (Or.inr (Or.inr rfl)))), List.forall_mem_cons.mpr ⟨x9ok.g gw_2_99, List.forall_mem_cons.mpr ⟨x9ok.g gw_2_135, List.forall_mem_cons.mpr ⟨x9ok.g gw_2_136, List.forall_mem_cons.mpr ⟨x9ok.g gw_2_138, List.forall_mem_cons.mpr ⟨x9ok.g gw_2_99, List.forall_mem_cons.mpr ⟨x9ok.g gw_4_64, List.forall_mem_cons.mpr ⟨x9ok.g gw_4_65, List.forall_mem_cons.mpr ⟨x9ok.g gw_4_66, List.forall_mem_cons.mpr ⟨x9ok.g gw_2_129, List.forall_mem_cons.mpr ⟨x9ok.n gn_2_85, List.forall_mem_cons.mpr ⟨x9ok.g gw_2_129, List.forall_mem_cons.mpr ⟨x9ok.g gw_2_130, List.forall_mem_cons.mpr ⟨x9ok.g gw_2_131, List.forall_mem_cons.mpr ⟨x9ok.g gw_2_132, List.forall_mem_cons.mpr ⟨x9ok.n gn_2_87, List.forall_mem_cons.mpr ⟨x9ok.g gw_2_132, List.forall_mem_cons.mpr ⟨x9ok.g gw_2_133, List.forall_mem_cons.mpr ⟨x9ok.g gw_2_134, List.forall_mem_cons.mpr ⟨x9ok.g gw_2_135, List.forall_mem_cons.mpr ⟨x9ok.n gn_2_89, List.forall_mem_cons.mpr ⟨x9ok.g gw_4_63, List.forall_mem_cons.mpr ⟨x9ok.g gw_4_54, List.forall_mem_cons.mpr ⟨x9ok.n gn_4_55, List.forall_mem_cons.mpr ⟨x9ok.g gw_4_56, List.forall_mem_cons.mpr ⟨x9ok.g gw_2_115, List.forall_mem_cons.mpr ⟨x9ok.g gw_4_57, List.forall_mem_cons.mpr ⟨x9ok.g gw_4_58, List.forall_mem_cons.mpr ⟨x9ok.g gw_4_59, List.forall_mem_cons.mpr ⟨x9ok.g gw_4_60, List.forall_mem_cons.mpr ⟨Or.inr (Or.inr (Or.inl rfl)), List.forall_mem_cons.mpr ⟨Or.inr (Or.inr (Or.inr (Or.inl rfl))), List.forall_mem_cons.mpr ⟨x9ok.g gw_2_102, List.forall_mem_cons.mpr ⟨x9ok.g gw_2_101, List.forall_mem_cons.mpr ⟨x9ok.g gw_4_61, fun _ h => absurd h List.not_mem_nil⟩⟩⟩⟩⟩⟩⟩⟩⟩⟩⟩⟩⟩⟩⟩⟩⟩⟩⟩⟩⟩⟩⟩⟩⟩⟩⟩⟩⟩⟩⟩⟩⟩⟩⟩⟩⟩⟩⟩⟩⟩⟩⟩⟩⟩⟩⟩⟩⟩⟩⟩⟩⟩⟩⟩⟩⟩
theorem x9_IOB_d0 : decode prog_18_method_2_code 0 = .ok (.aload_n 0, 1) := by decide +kernel
theorem x9_IOB_d1 : decode prog_18_method_2_code 1 = .ok (.aload_n 1, 1) := by decide +kernel
theorem x9_IOB_d2 : decode prog_18_method_2_code 2 = .ok (.invokespecial 7, 3) := by decide +kernel
theorem x9_IOB_d5 : decode prog_18_method_2_code 5 = .ok (.return_, 1) := by decide +kernel
/-- throw new java/lang/IllegalArgumentException(text) in Runbooker -/
theorem V.thIAE {l : Launch} {D : va_G} {M : VM} {cy : Nat → ClassId} {cc : ByteArray} {ret : Option FieldType} {rm : Room} {k n : Nat} {Wd : va_W} {L : List (Nat × Value)} {pc : Nat} {st : List Value} {is wd : Nat} {ins : Instr} {text : String} {post : Option Value → va_W → Prop} {px : String → va_W → Prop}
    (X : VX l D M cy cc "Runbooker" ret rm) (E : EQ9 D M post px rm) (hN : VN M) (hstr : ("Runbooker", is, text) ∈ lwS) (hins : (wd = 2 ∧ ins = .ldc is) ∨ (wd = 3 ∧ ins = .ldc_w is))
    (d0 : decode cc pc = .ok (.new 48, 3)) (d3 : decode cc (pc + 3) = .ok (.dup, 1)) (d4 : decode cc (pc + 4) = .ok (ins, wd)) (d6 : decode cc (pc + 4 + wd) = .ok (.invokespecial 52, 3)) (d9 : decode cc (pc + 4 + wd + 3) = .ok (.athrow, 1))
    (hRf : 5 < rm.frames) (hRl : (st.map fun v => v.category).sum + 82 ≤ rm.locals) (hRc : k + 1 ≤ rm.cells) (hRs : n + 6 ≤ rm.slots) (hp : px "java/lang/IllegalArgumentException" Wd) : V l D M k n Wd L pc st :=
  V.throwS X E hN x9_IAE_d0 x9_IAE_d1 x9_IAE_d2 x9_IAE_d5 (by decide +kernel) (by decide +kernel) (by decide +kernel) gw_2_81 gw_1_11 x9_IAE hstr hins d0 d3 d4 d6 d9 hRf hRl hRc hRs hp
/-- throw new java/lang/IllegalStateException(text) in Runbooker -/
theorem V.thISE {l : Launch} {D : va_G} {M : VM} {cy : Nat → ClassId} {cc : ByteArray} {ret : Option FieldType} {rm : Room} {k n : Nat} {Wd : va_W} {L : List (Nat × Value)} {pc : Nat} {st : List Value} {is wd : Nat} {ins : Instr} {text : String} {post : Option Value → va_W → Prop} {px : String → va_W → Prop}
    (X : VX l D M cy cc "Runbooker" ret rm) (E : EQ9 D M post px rm) (hN : VN M) (hstr : ("Runbooker", is, text) ∈ lwS) (hins : (wd = 2 ∧ ins = .ldc is) ∨ (wd = 3 ∧ ins = .ldc_w is))
    (d0 : decode cc pc = .ok (.new 59, 3)) (d3 : decode cc (pc + 3) = .ok (.dup, 1)) (d4 : decode cc (pc + 4) = .ok (ins, wd)) (d6 : decode cc (pc + 4 + wd) = .ok (.invokespecial 63, 3)) (d9 : decode cc (pc + 4 + wd + 3) = .ok (.athrow, 1))
    (hRf : 5 < rm.frames) (hRl : (st.map fun v => v.category).sum + 82 ≤ rm.locals) (hRc : k + 1 ≤ rm.cells) (hRs : n + 6 ≤ rm.slots) (hp : px "java/lang/IllegalStateException" Wd) : V l D M k n Wd L pc st :=
  V.throwS X E hN x9_ISE_d0 x9_ISE_d1 x9_ISE_d2 x9_ISE_d5 (by decide +kernel) (by decide +kernel) (by decide +kernel) gw_2_151 gw_1_12 x9_ISE hstr hins d0 d3 d4 d6 d9 hRf hRl hRc hRs hp
/-- throw new java/util/NoSuchElementException(text) in Runbooker -/
theorem V.thNSE {l : Launch} {D : va_G} {M : VM} {cy : Nat → ClassId} {cc : ByteArray} {ret : Option FieldType} {rm : Room} {k n : Nat} {Wd : va_W} {L : List (Nat × Value)} {pc : Nat} {st : List Value} {is wd : Nat} {ins : Instr} {text : String} {post : Option Value → va_W → Prop} {px : String → va_W → Prop}
    (X : VX l D M cy cc "Runbooker" ret rm) (E : EQ9 D M post px rm) (hN : VN M) (hstr : ("Runbooker", is, text) ∈ lwS) (hins : (wd = 2 ∧ ins = .ldc is) ∨ (wd = 3 ∧ ins = .ldc_w is))
    (d0 : decode cc pc = .ok (.new 396, 3)) (d3 : decode cc (pc + 3) = .ok (.dup, 1)) (d4 : decode cc (pc + 4) = .ok (ins, wd)) (d6 : decode cc (pc + 4 + wd) = .ok (.invokespecial 400, 3)) (d9 : decode cc (pc + 4 + wd + 3) = .ok (.athrow, 1))
    (hRf : 5 < rm.frames) (hRl : (st.map fun v => v.category).sum + 82 ≤ rm.locals) (hRc : k + 1 ≤ rm.cells) (hRs : n + 6 ≤ rm.slots) (hp : px "java/util/NoSuchElementException" Wd) : V l D M k n Wd L pc st :=
  V.throwS X E hN x9_NSE_d0 x9_NSE_d1 x9_NSE_d2 x9_NSE_d5 (by decide +kernel) (by decide +kernel) (by decide +kernel) gw_2_187 gw_1_13 x9_NSE hstr hins d0 d3 d4 d6 d9 hRf hRl hRc hRs hp
/-- throw new java/lang/UnsupportedOperationException(text) in Runbooker -/
theorem V.thUOE {l : Launch} {D : va_G} {M : VM} {cy : Nat → ClassId} {cc : ByteArray} {ret : Option FieldType} {rm : Room} {k n : Nat} {Wd : va_W} {L : List (Nat × Value)} {pc : Nat} {st : List Value} {is wd : Nat} {ins : Instr} {text : String} {post : Option Value → va_W → Prop} {px : String → va_W → Prop}
    (X : VX l D M cy cc "Runbooker" ret rm) (E : EQ9 D M post px rm) (hN : VN M) (hstr : ("Runbooker", is, text) ∈ lwS) (hins : (wd = 2 ∧ ins = .ldc is) ∨ (wd = 3 ∧ ins = .ldc_w is))
    (d0 : decode cc pc = .ok (.new 187, 3)) (d3 : decode cc (pc + 3) = .ok (.dup, 1)) (d4 : decode cc (pc + 4) = .ok (ins, wd)) (d6 : decode cc (pc + 4 + wd) = .ok (.invokespecial 191, 3)) (d9 : decode cc (pc + 4 + wd + 3) = .ok (.athrow, 1))
    (hRf : 5 < rm.frames) (hRl : (st.map fun v => v.category).sum + 82 ≤ rm.locals) (hRc : k + 1 ≤ rm.cells) (hRs : n + 6 ≤ rm.slots) (hp : px "java/lang/UnsupportedOperationException" Wd) : V l D M k n Wd L pc st :=
  V.throwS X E hN x9_UOE_d0 x9_UOE_d1 x9_UOE_d2 x9_UOE_d5 (by decide +kernel) (by decide +kernel) (by decide +kernel) gw_3_105 gw_1_16 x9_UOE hstr hins d0 d3 d4 d6 d9 hRf hRl hRc hRs hp
/-- throw new java/lang/IndexOutOfBoundsException(text) in Runbooker -/
theorem V.thIOB {l : Launch} {D : va_G} {M : VM} {cy : Nat → ClassId} {cc : ByteArray} {ret : Option FieldType} {rm : Room} {k n : Nat} {Wd : va_W} {L : List (Nat × Value)} {pc : Nat} {st : List Value} {is wd : Nat} {ins : Instr} {text : String} {post : Option Value → va_W → Prop} {px : String → va_W → Prop}
    (X : VX l D M cy cc "Runbooker" ret rm) (E : EQ9 D M post px rm) (hN : VN M) (hstr : ("Runbooker", is, text) ∈ lwS) (hins : (wd = 2 ∧ ins = .ldc is) ∨ (wd = 3 ∧ ins = .ldc_w is))
    (d0 : decode cc pc = .ok (.new 283, 3)) (d3 : decode cc (pc + 3) = .ok (.dup, 1)) (d4 : decode cc (pc + 4) = .ok (ins, wd)) (d6 : decode cc (pc + 4 + wd) = .ok (.invokespecial 287, 3)) (d9 : decode cc (pc + 4 + wd + 3) = .ok (.athrow, 1))
    (hRf : 5 < rm.frames) (hRl : (st.map fun v => v.category).sum + 82 ≤ rm.locals) (hRc : k + 1 ≤ rm.cells) (hRs : n + 6 ≤ rm.slots) (hp : px "java/lang/IndexOutOfBoundsException" Wd) : V l D M k n Wd L pc st :=
  V.throwS X E hN x9_IOB_d0 x9_IOB_d1 x9_IOB_d2 x9_IOB_d5 (by decide +kernel) (by decide +kernel) (by decide +kernel) gw_4_53 gw_1_17 x9_IOB hstr hins d0 d3 d4 d6 d9 hRf hRl hRc hRs hp
