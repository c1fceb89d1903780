/-! ===== from the entry to the end ===== -/
/-- a private method of StringBuilder's parent, on a StringBuilder -/
theorem gx_ok {args : Array Value} {s : State} (hts : ∀ w ∈ lw_tbl, w.before args s = true) : (Cond.selects "java/lang/StringBuilder" yJ5_ensureCapacityInternal_d00df yJ5_ensureCapacityInternal_d00df).before args s = true :=
  sel_priv (z := yJ5_isLatin1_aae02) rfl (by decide +kernel) (hts _ (tq_5 106 rfl)) (hts _ (tq_5 71 rfl)) (hts _ (tq_5 72 rfl))
theorem ltsG {args : Array Value} {s : State} (hts : ∀ w ∈ lw_tbl, w.before args s = true) : ∀ w ∈ lwG, w.before args s = true := by
  intro w hw
  rcases List.mem_append.mp (List.mem_filter.mp hw).1 with h | h
  · exact hts w h
  · have e := List.mem_singleton.mp h
    subst e
    exact gx_ok hts
set_option maxRecDepth 20000 in
set_option maxHeartbeats 4000000 in
theorem whole_start {p : Program} {e : Env} {s : State} {m : MethodId} {below : List Frame} {meth : Method} {c : Code} (l : Launch) (hflags : l.flags = flags0) {b L : Nat} {xs : Nat → Int32} (hL : L ≤ 3072) (C0 : lw_At p s m meth c b L xs) : W p l e room_1 s m #[Value.ref b] below meth c s.heap [] 0 0 (lw_Z below #[Value.ref b] s) (entryFrame m ([Value.ref b] : List Value).toArray 9) := by
  obtain ⟨hx, hb, hr, hml, hown, hts, hX, hbl, hlocks, hgv⟩ := id C0
  have htsG := ltsG hts
  have hA : ∀ a : Nat, a < s.heap.size → ¬ (fun q : Nat => s.heap.size ≤ q) a := fun a h => Nat.not_le.mpr h
  obtain ⟨a0, i0, k0⟩ := u_known (C := RJ0) (T := TJ0) (N := 4) (n := 4) htsG inJ0 (hts _ (tq_7 198 rfl))
  obtain ⟨a1, i1, k1⟩ := u_known (C := RJ4) (T := TJ4) (N := 4) (n := 4) htsG inJ4 (hts _ (tq_5 30 rfl))
  obtain ⟨a2, i2, k2⟩ := u_known (C := RX0) (T := TX0) (N := 4) (n := 4) htsG inX0 (hts _ (tq_1 37 rfl))
  obtain ⟨a3, i3, k3⟩ := u_known (C := RX1) (T := TX1) (N := 3) (n := 3) htsG inX1 (hts _ (tq_1 161 rfl))
  obtain ⟨a4, i4, k4⟩ := u_known (C := RX2) (T := TX2) (N := 5) (n := 5) htsG inX2 (hts _ (tq_1 180 rfl))
  obtain ⟨a5, i5, k5⟩ := u_known (C := RX3) (T := TX3) (N := 13) (n := 13) htsG inX3 (hts _ (tq_1 61 rfl))
  obtain ⟨a6, i6, k6⟩ := u_known (C := RX4) (T := TX4) (N := 9) (n := 9) htsG inX4 (hts _ (tq_1 119 rfl))
  obtain ⟨a7, i7, k7⟩ := u_known (C := RX5) (T := TX5) (N := 9) (n := 9) htsG inX5 (hts _ (tq_1 29 rfl))
  obtain ⟨a8, i8, k8⟩ := u_known (C := RX6) (T := TX6) (N := 39) (n := 39) htsG inX6 (hts _ (tq_5 238 rfl))
  obtain ⟨c0, r0⟩ := arr_cls .int (fun _ => by intro h; cases h) (hts _ (tq_1 58 rfl))
  obtain ⟨c1, r1⟩ := arr_cls .boolean (fun _ => by intro h; cases h) (hts _ (tq_1 59 rfl))
  obtain ⟨c2, r2⟩ := arr_cls .char (fun _ => by intro h; cases h) (hts _ (tq_1 117 rfl))
  obtain ⟨c3, r3⟩ := arr_cls .byte (fun _ => by intro h; cases h) (hts _ (tq_2 150 rfl))
  obtain ⟨c4, r4⟩ := arr_cls .long (fun _ => by intro h; cases h) (hts _ (tq_8 81 rfl))
  obtain ⟨c5, r5⟩ := arr_cls .double (fun _ => by intro h; cases h) (hts _ (tq_8 82 rfl))
  obtain ⟨dC, dI, hKc⟩ : ∃ (dC : Nat → ClassId) (dI : Nat → Nat → Nat), ∀ (k : Nat) (q : vw_C), vwCl[k]? = some q → u_Kn s q.1 q.2.1 q.2.2 (dC k) (dI k) := by
    refine ⟨fun k => [a0, a1, a2, a3, a4, a5, a6, a7, a8].getD k a0, fun k => [i0, i1, i2, i3, i4, i5, i6, i7, i8].getD k i0, ?_⟩
    intro k q hq
    match k, hq with
    | 0, hq => cases hq; exact k0
    | 1, hq => cases hq; exact k1
    | 2, hq => cases hq; exact k2
    | 3, hq => cases hq; exact k3
    | 4, hq => cases hq; exact k4
    | 5, hq => cases hq; exact k5
    | 6, hq => cases hq; exact k6
    | 7, hq => cases hq; exact k7
    | 8, hq => cases hq; exact k8
    | k + 9, hq => simp at hq
  obtain ⟨cy, hcy⟩ : ∃ cy : Nat → ClassId, ∀ (k : Nat) (q : ClassId × FieldType), (tysOf cy)[k]? = some q → ArrOfT s q.1 q.2 ∧ va_RA s q.1 q.2 := by
    refine ⟨fun k => [c0, c1, c2, c3, c4, c5].getD k c0, ?_⟩
    intro k q hq
    match k, hq with
    | 0, hq => cases hq; exact r0
    | 1, hq => cases hq; exact r1
    | 2, hq => cases hq; exact r2
    | 3, hq => cases hq; exact r3
    | 4, hq => cases hq; exact r4
    | 5, hq => cases hq; exact r5
    | k + 6, hq => simp at hq
  have htr : l.stackTraces = false := by
    show (!l.flags.contains noTraceFlag) = false
    rw [hflags]
    decide
  have X : VX l (dC, dI) (p, e, room_1, s, m, #[Value.ref b], below, meth, c, (fun q : Nat => s.heap.size ≤ q), 9, lw_Z below #[Value.ref b] s) cy cL_law "RunbookerLaw" ret room_1 := ⟨hx, hb, hml, hown, htsG, ⟨hKc, hcy⟩, fun q h => h, hlocks, amb9 hA hts hgv, htr, hr, rfl⟩
  have hend : ∀ (k n : Nat) (Wd : va_W) (L : List (Nat × Value)), k ≤ 601024 → n ≤ 7293034 → V l (dC, dI) (p, e, room_1, s, m, #[Value.ref b], below, meth, c, (fun q : Nat => s.heap.size ≤ q), 9, lw_Z below #[Value.ref b] s) k n Wd L 3016 [] := by
    intro k n Wd L9 hk hn
    refine V.iconst (v := 1) X dL_law_3016 rfl ?_
    intro H locs ls hP hD hS hL9
    refine va_forget (fun q hq => hS.2.2 q hq) ?_
    refine W.widen (k := 601024) (n := 7293034) hk hn ?_
    exact lw_ret (d0 := s.drawn) (Drawn.sameBut.refl s.drawn lw_cs) hx hb hr hlocks dL_law_3017
  have hl := lv_entry ([.ref b]) (n := 9) (Nat.le_of_ble_eq_true rfl)
  rw [lg_entry_eq]
  exact law_start l (dC, dI) _ cy b L xs X (nc9 hgv) rfl ⟨hX, hbl, Nat.not_le.mpr hbl⟩ hL hend s.heap [] _ (fun k q h => by simp at h) ⟨fun i j p q h => by simp at h, fun k q h => by simp at h⟩ va_S.rf hl
