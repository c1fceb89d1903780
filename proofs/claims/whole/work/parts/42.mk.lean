/-! ===== rows for constructors: the object (a, ..) first, the rest R behind ===== -/
section VMK
variable {l : Launch} {D : va_G} {M : VM} {cy : Nat → ClassId} {cc : ByteArray} {own : String} {ret : Option FieldType} {rm : Room} {k n : Nat} {R : va_W} {L : List (Nat × Value)} {pc : Nat} {st : List Value}
/-- this.f = new T[N'] -/
theorem V.mkA {ci j index a w N N' t0 pc9 : Nat} {fs : List Value} {atype : ArrayType} {ety : FieldType} {a0 : vp_A} {cA0 : ClassId} {C ref : String} {T : u_T} {ty0 : Nat → FieldType}
    (X : VX l D M cy cc own ret rm) (hI : VI M) (h0 : lk L 0 = some (.ref a)) (hc : vwCl[ci]? = some (C, T, N)) (hj : j < N) (hlink : Cond.fieldLink own index ref (T j).2.1 (T j).2.2.1 ∈ lwG) (hin : ∀ w ∈ u_ws C T N, w ∈ lwG) (href : (T j).1 = ref) (hown9 : (T j).1 = own) (hty : ∀ k, k < N → parseFieldDescriptor (T k).2.2.1 = some (ty0 k)) (hnm : ∀ a, a < N → ∀ b, b < N → a ≠ b → (T a).2.1 ≠ (T b).2.1) (hfin : (T j).2.2.2 = true) (hds : parseFieldDescriptor (T j).2.2.1 = some (.array ety)) (hl : j < fs.length)
    (harr : Cond.arrayClass (newarray.typeOf atype) ∈ lwG) (hty1 : newarray.typeOf atype = ety) (ht : (tysOf cy)[t0]? = some (cA0, ety)) (hna : ∀ C, ety ≠ .object C) (ha : ∀ cA : ClassId, vp_cell cA a0 = arrV cA N' (fun _ => defaultValue ety)) (hN : N' < 2147483648) (hby : N' * componentBytes ety ≤ 536870912) (hk : k + 1 ≤ rm.cells) (hs : n + N' ≤ rm.slots)
    (d0 : decode cc pc = .ok (.aload_n 0, 1)) (push : ∀ {Wd : va_W} {st : List Value}, V l D M k n Wd L (pc + 1 + w) (.int (nI N') :: st) → V l D M k n Wd L (pc + 1) st) (d2 : decode cc (pc + 1 + w) = .ok (.newarray atype, 2)) (d3 : decode cc (pc + 1 + w + 2) = .ok (.putfield index, 3)) (hp : pc + 1 + w + 2 + 3 = pc9)
    (kk : ∀ q : Nat, V l D M (k + 1) (n + N') ((a, .inr (ci, fs.set j (.ref q))) :: (q, .inl (cA0, a0)) :: R) L pc9 st) : V l D M k n ((a, .inr (ci, fs)) :: R) L pc st := by
  subst hp
  refine V.aload_n X d0 (show lk L ((0 : Fin 4) : Nat) = _ from h0) (push ?_)
  refine V.newa9 (a0 := a0) (cA0 := cA0) X harr hty1 ht hna ha (nI_pos hN) (nI_clamp hN) hby hk hs d2 (fun q => ?_)
  refine V.perm (Wd' := (a, .inr (ci, fs)) :: (q, .inl (cA0, a0)) :: R) (List.Perm.cons _ (List.perm_append_singleton _ R).symm) ?_
  exact V.putF (q0 := 0) (ci := ci) (j := j) (C := C) (T := T) (N := N) (ref := ref) (ty := .array ety) (ty0 := ty0) X hI rfl hc hj hlink hin href hown9 hty hnm hfin hds rfl rfl hl d3 rfl (kk q)
/-- this.f = a number -/
theorem V.mkI {ci j index a N pc9 : Nat} {z : Int} {v : Int32} {fs : List Value} {C ref : String} {T : u_T} {ty0 : Nat → FieldType}
    (X : VX l D M cy cc own ret rm) (h0 : lk L 0 = some (.ref a)) (hc : vwCl[ci]? = some (C, T, N)) (hj : j < N) (hlink : Cond.fieldLink own index ref (T j).2.1 (T j).2.2.1 ∈ lwG) (hin : ∀ w ∈ u_ws C T N, w ∈ lwG) (href : (T j).1 = ref) (hty : ∀ k, k < N → parseFieldDescriptor (T k).2.2.1 = some (ty0 k)) (hnm : ∀ a, a < N → ∀ b, b < N → a ≠ b → (T a).2.1 ≠ (T b).2.1) (hfin : (T j).2.2.2 = false) (hds : parseFieldDescriptor (T j).2.2.1 = some .int) (hl : j < fs.length) (hv : Int32.ofInt z = v)
    (d0 : decode cc pc = .ok (.aload_n 0, 1)) (d1 : decode cc (pc + 1) = .ok (.iconst z, 1)) (d2 : decode cc (pc + 2) = .ok (.putfield index, 3)) (hp : pc + 5 = pc9)
    (kk : V l D M k n ((a, .inr (ci, fs.set j (.int v))) :: R) L pc9 st) : V l D M k n ((a, .inr (ci, fs)) :: R) L pc st := by
  subst hp
  refine V.aload_n X d0 (show lk L ((0 : Fin 4) : Nat) = _ from h0) (V.iconst X d1 hv ?_)
  exact V.putf (q0 := 0) (ci := ci) (j := j) (C := C) (T := T) (N := N) (ref := ref) (ty := .int) (ty0 := ty0) X rfl hc hj hlink hin href hty hnm hfin hds rfl rfl hl d2 rfl kk
/-- a maker's own post: the object q made over F -/
def pMk (cj : Nat) (q : Nat) (g : (Nat → Nat) → List Value) (h : (Nat → Nat) → va_W) (F : va_W) : Option Value → va_W → Prop := fun v9 w9 => ∃ x : Nat → Nat, v9 = none ∧ w9 = (q, .inr (cj, g x)) :: (h x ++ F)
/-- this.f = new C() -/
theorem V.mkO {ci j a N cj Nj iN iI iF nLy pc9 : Nat} {fs fj : List Value} {C ref Cj host : String} {T Tj : u_T} {ty0 tyj : Nat → FieldType} {y : MethodName} {bytes : ByteArray} {rmy : Room} {g : (Nat → Nat) → List Value} {h : (Nat → Nat) → va_W}
    (X : VX l D M cy cc own ret rm) (hI : VI M) (h0 : lk L 0 = some (.ref a)) (hc : vwCl[ci]? = some (C, T, N)) (hj : j < N) (hlink : Cond.fieldLink own iF ref (T j).2.1 (T j).2.2.1 ∈ lwG) (hin : ∀ w ∈ u_ws C T N, w ∈ lwG) (href : (T j).1 = ref) (hown9 : (T j).1 = own) (hty : ∀ k, k < N → parseFieldDescriptor (T k).2.2.1 = some (ty0 k)) (hnm : ∀ a, a < N → ∀ b, b < N → a ≠ b → (T a).2.1 ≠ (T b).2.1) (hfin : (T j).2.2.2 = true) (hds : parseFieldDescriptor (T j).2.2.1 = some (.object Cj)) (hl : j < fs.length)
    (hcj : vwCl[cj]? = some (Cj, Tj, Nj)) (hinj : ∀ w ∈ u_ws Cj Tj Nj, w ∈ lwG) (htyj : ∀ k, k < Nj → parseFieldDescriptor (Tj k).2.2.1 = some (tyj k)) (hcl : Cond.classLink own iN Cj ∈ lwG) (hinst : Cond.instantiable Cj Nj ∈ lwG) (hini : Cond.initialized Cj ∈ lwG) (hfs : ∀ i, i < Nj → defaultValue (tyj i) = vp_V fj i) (hk : k + 1 ≤ rm.cells) (hs : n + Nj ≤ rm.slots)
    (ctr : ∀ q F, Ctr l D cy y (.code y bytes nLy none) rmy [.ref q] ((q, .inr (cj, fj)) :: F) (pMk cj q g h F) pNo) (mv : MC y bytes nLy 0) (hml : Cond.methodLinkNest own iI y host ∈ lwN) (hR : RoomIn rmy rm nLy (k + 1) (n + Nj)) (hcat : (((Value.ref 0) :: st).map fun v => v.category).sum + 1 ≤ 8)
    (d0 : decode cc pc = .ok (.aload_n 0, 1)) (d1 : decode cc (pc + 1) = .ok (.new iN, 3)) (d4 : decode cc (pc + 4) = .ok (.dup, 1)) (d5 : decode cc (pc + 5) = .ok (.invokespecial iI, 3)) (d8 : decode cc (pc + 8) = .ok (.putfield iF, 3)) (hp : pc + 11 = pc9)
    (kk : ∀ (q : Nat) (x : Nat → Nat), V l D M (k + 1 + rmy.cells) (n + Nj + rmy.slots) ((a, .inr (ci, fs.set j (.ref q))) :: ((q, .inr (cj, g x)) :: (h x ++ R))) L pc9 st) : V l D M k n ((a, .inr (ci, fs)) :: R) L pc st := by
  subst hp
  refine V.aload_n X d0 (show lk L ((0 : Fin 4) : Nat) = _ from h0) ?_
  refine V.new9 (C := Cj) (T := Tj) (N := Nj) (ci := cj) tyj (fs := fj) X hinj htyj hcl hinst hini hcj hfs hk hs d1 (fun q => ?_)
  refine V.dup X d4 rfl ?_
  refine V.perm (Wd' := (q, .inr (cj, fj)) :: ((a, .inr (ci, fs)) :: R)) (List.perm_append_singleton _ ((a, .inr (ci, fs)) :: R)).symm ?_
  refine V.callIN [] X (ctr q _) mv hml hR rfl (by simp only [List.map_cons, List.sum_cons] at hcat ⊢; have e1 : (Value.ref q).category = 1 := rfl; have e2 : (Value.ref a).category = 1 := rfl; have e3 : (Value.ref 0).category = 1 := rfl; omega) d5 (fun v u hp => ?_)
  obtain ⟨x, rfl, rfl⟩ := hp
  refine V.perm (Wd' := (a, .inr (ci, fs)) :: (((q, .inr (cj, g x)) :: h x) ++ R)) (List.perm_middle (l₁ := (q, .inr (cj, g x)) :: h x)).symm ?_
  exact V.putF (q0 := 0) (ci := ci) (j := j) (C := C) (T := T) (N := N) (ref := ref) (ty := .object Cj) (ty0 := ty0) X hI rfl hc hj hlink hin href hown9 hty hnm hfin hds rfl rfl hl d8 rfl (kk q x)
end VMK
/-- a world's cells by their places -/
def pick9 (ws : va_W) (ps : List Nat) : va_W := ps.filterMap (fun i => ws[i]?)
theorem pick9_range (ws : va_W) : pick9 ws (List.range ws.length) = ws := by
  unfold pick9
  induction ws with
  | nil => rfl
  | cons x r ih =>
    rw [List.length_cons, List.range_succ_eq_map, List.filterMap_cons]
    simp only [List.getElem?_cons_zero, List.filterMap_map]
    exact congrArg _ ih
theorem perm9 {ws ws' : va_W} {ps : List Nat} {n : Nat} (hn : ps.Perm (List.range n)) (hl : n = ws.length) (e : ws' = pick9 ws ps) : ws'.Perm ws := by
  rw [e]
  subst hl
  have h := List.Perm.filterMap (fun i => ws[i]?) hn
  have h2 := pick9_range ws
  unfold pick9 at h2 ⊢
  rw [h2] at h
  exact h
/-- the state of new objects -/
def S00 : St := (fun _ _ => 0, fun _ _ => 0, fun _ _ => false, fun _ _ => 0, fun k _ => bif Nat.beq k 47 || Nat.beq k 48 then none else some 0, fun _ => 0)
