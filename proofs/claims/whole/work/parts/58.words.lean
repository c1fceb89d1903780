/-! ===== what the start holds ===== -/
def fl9 : List Cond := flatC (Jvm.Cond.and given_1 narrow_1)
theorem fl_at {args : Array Value} {s : State} (hgv : (Jvm.Cond.and given_1 narrow_1).before args s = true) {i : Nat} {w : Cond} (h : fl9[i]? = some w) : w.before args s = true := flat_of_before _ hgv w (List.mem_of_getElem? h)
theorem f_us : fl9[4]? = some (Cond.isRef (.static "java/lang/Throwable" "UNASSIGNED_STACK" "[Ljava/lang/StackTraceElement;")) := by decide +kernel
theorem f_ss : fl9[5]? = some (Cond.isRef (.static "java/lang/Throwable" "SUPPRESSED_SENTINEL" "Ljava/util/List;")) := by decide +kernel
theorem f_cs : fl9[6]? = some (Cond.eq (.static "java/lang/String" "COMPACT_STRINGS" "Z") (.int 1)) := by decide +kernel
theorem f_oa : fl9[8]? = some (Cond.arrayOf (.static "java/lang/Integer" "DigitOnes" "[B") .byte) := by decide +kernel
theorem f_ol : fl9[9]? = some (Cond.eq (.length (.static "java/lang/Integer" "DigitOnes" "[B")) (.int (Int32.ofNat 100))) := by decide +kernel
theorem f_oe : ∀ j : Nat, j < 100 → fl9[10 + j]? = some (Cond.eq (.elem (.static "java/lang/Integer" "DigitOnes" "[B") (.int (Int32.ofNat j))) (.int (nI (48 + j % 10)))) := by decide +kernel
theorem f_ta : fl9[111]? = some (Cond.arrayOf (.static "java/lang/Integer" "DigitTens" "[B") .byte) := by decide +kernel
theorem f_tl : fl9[112]? = some (Cond.eq (.length (.static "java/lang/Integer" "DigitTens" "[B")) (.int (Int32.ofNat 100))) := by decide +kernel
theorem f_te : ∀ j : Nat, j < 100 → fl9[113 + j]? = some (Cond.eq (.elem (.static "java/lang/Integer" "DigitTens" "[B") (.int (Int32.ofNat j))) (.int (nI (48 + j / 10)))) := by decide +kernel
theorem f_so : fl9[213]? = some (Cond.isRef (.static "jdk/internal/util/Preconditions" "SIOOBE_FORMATTER" "Ljava/util/function/BiFunction;")) := by decide +kernel
theorem f_nc : ∀ q ∈ ncL, Cond.not (Cond.castable q.1 q.2) ∈ fl9 := by decide +kernel
theorem f_st : ∀ q ∈ lwS, Cond.exactly (.string q.1 q.2.1) "java/lang/String" ∈ fl9 := by decide +kernel
theorem tq_1 {w : Cond} (j : Nat) (h : tables_1_1[j]? = some w) : w ∈ lw_tbl := List.mem_append_right _ (List.mem_append_left _ (List.mem_of_getElem? h))
theorem tq_2 {w : Cond} (j : Nat) (h : tables_1_2[j]? = some w) : w ∈ lw_tbl := List.mem_append_right _ (List.mem_append_right _ (List.mem_append_left _ (List.mem_of_getElem? h)))
theorem tq_3 {w : Cond} (j : Nat) (h : tables_1_3[j]? = some w) : w ∈ lw_tbl := List.mem_append_right _ (List.mem_append_right _ (List.mem_append_right _ (List.mem_append_left _ (List.mem_of_getElem? h))))
theorem tq_4 {w : Cond} (j : Nat) (h : tables_1_4[j]? = some w) : w ∈ lw_tbl := List.mem_append_right _ (List.mem_append_right _ (List.mem_append_right _ (List.mem_append_right _ (List.mem_append_left _ (List.mem_of_getElem? h)))))
theorem tq_5 {w : Cond} (j : Nat) (h : tables_1_5[j]? = some w) : w ∈ lw_tbl := List.mem_append_right _ (List.mem_append_right _ (List.mem_append_right _ (List.mem_append_right _ (List.mem_append_right _ (List.mem_append_left _ (List.mem_of_getElem? h))))))
theorem tq_6 {w : Cond} (j : Nat) (h : tables_1_6[j]? = some w) : w ∈ lw_tbl := List.mem_append_right _ (List.mem_append_right _ (List.mem_append_right _ (List.mem_append_right _ (List.mem_append_right _ (List.mem_append_right _ (List.mem_append_left _ (List.mem_of_getElem? h)))))))
theorem tq_7 {w : Cond} (j : Nat) (h : tables_1_7[j]? = some w) : w ∈ lw_tbl := List.mem_append_right _ (List.mem_append_right _ (List.mem_append_right _ (List.mem_append_right _ (List.mem_append_right _ (List.mem_append_right _ (List.mem_append_right _ (List.mem_append_left _ (List.mem_of_getElem? h))))))))
theorem tq_8 {w : Cond} (j : Nat) (h : tables_1_8[j]? = some w) : w ∈ lw_tbl := List.mem_append_right _ (List.mem_append_right _ (List.mem_append_right _ (List.mem_append_right _ (List.mem_append_right _ (List.mem_append_right _ (List.mem_append_right _ (List.mem_append_right _ (List.mem_of_getElem? h))))))))
theorem arr_cls {args : Array Value} {s : State} (ty : FieldType) (hna : ∀ C, ty ≠ .object C) (h : (Cond.arrayClass ty).before args s = true) : ∃ cA : ClassId, ArrOfT s cA ty ∧ va_RA s cA ty := by
  obtain ⟨c, k, comp, h1, h2, h3⟩ := Cond.arrayClass_spec h
  refine ⟨c, fun n z => ⟨fun k h => (by cases h), k, h2, comp, h3⟩, ?_⟩
  cases ty with
  | object C => exact absurd rfl (hna C)
  | _ => exact h1
theorem lwN_tbl {w : Cond} (h : w ∈ lwN) : w ∈ lw_tbl ∧ w.onTables = true := by
  obtain ⟨h1, h2⟩ := List.mem_filter.mp h
  refine ⟨List.mem_append_right _ h1, ?_⟩
  cases w <;> first | rfl | (simp [nwOK] at h2)
theorem lwS_tbl {q : String × Nat × String} (h : q ∈ lwS) : Cond.stringRef q.1 q.2.1 q.2.2 ∈ lw_tbl := by
  obtain ⟨w, h1, h2⟩ := List.mem_filterMap.mp h
  refine List.mem_append_right _ ?_
  cases w <;> first | (simp [sKof] at h2; done) | (simp [sKof] at h2; subst h2; exact h1)
/-- a table of digits -/
theorem tab9 {args : Array Value} {s : State} {A : Nat → Prop} (hA : ∀ a : Nat, a < s.heap.size → ¬ A a) {C n : String} {f : Nat → Nat} (h1 : (Cond.laysStatic C n "[B").before args s = true) (h2 : (Cond.initialized C).before args s = true) (h3 : (Cond.arrayOf (.static C n "[B") .byte).before args s = true) (h4 : (Cond.eq (.length (.static C n "[B")) (.int (Int32.ofNat 100))).before args s = true)
    (h5 : ∀ j : Nat, j < 100 → (Cond.eq (.elem (.static C n "[B") (.int (Int32.ofNat j))) (.int (nI (f j)))).before args s = true) : ∃ t, va_Z C n "[B" (.ref t) A s s.heap ∧ va_T .byte t 100 (fun j => .int (nI (f j))) A s s.heap := by
  obtain ⟨t, e, hT⟩ := va_Tof (tm := .static C n "[B") (ty := .byte) (N := 100) (f := fun j => .int (nI (f j))) (A := A) (by decide) h3 (va_eqt h4) (fun j hj => va_eqt (h5 j hj)) hA
  exact ⟨t, va_Zof h1 h2 e hA, hT⟩
theorem str9 {args : Array Value} {s : State} {q : String × Nat × String} (h1 : (Cond.stringRef q.1 q.2.1 q.2.2).before args s = true) (h2 : (Cond.exactly (.string q.1 q.2.1) "java/lang/String").before args s = true) : ∃ a, vk_R q.1 q.2.1 q.2.2 a s := by
  obtain ⟨a, c, cA, kA, q1, q2, q3, q4, q5, q6, -⟩ := Cond.exactly_spec (args := args) (first := s) (o := none) (s := s) (idx := []) (t := .string q.1 q.2.1) (cls := "java/lang/String") h2
  have e : (Term.string q.1 q.2.1).eval args s none [] s = (Term.string q.1 q.2.1).eval args s none [] s := rfl
  exact ⟨a, vk_R.of h1 q1⟩
theorem amb9 {args : Array Value} {s : State} {A : Nat → Prop} (hA : ∀ a : Nat, a < s.heap.size → ¬ A a) (hts : ∀ w ∈ lw_tbl, w.before args s = true) (hgv : (Jvm.Cond.and given_1 narrow_1).before args s = true) : Amb A s s.heap := by
  refine ⟨fun w hw => va_Nw.of (lwN_tbl hw).2 (hts _ (lwN_tbl hw).1), ?_, ?_, fun q hq => ?_, ?_, ?_, ?_, ?_⟩
  · exact vx_Zqof (hts _ (tq_2 108 rfl)) (hts _ (tq_1 8 rfl)) (fl_at hgv f_us) hA
  · exact vx_Zqof (hts _ (tq_2 110 rfl)) (hts _ (tq_1 8 rfl)) (fl_at hgv f_ss) hA
  · exact str9 (args := args) (hts _ (lwS_tbl hq)) (flat_of_before _ hgv _ (f_st q hq))
  · exact va_Zof (hts _ (tq_5 39 rfl)) (hts _ (tq_1 21 rfl)) (va_eqt (fl_at hgv f_cs)) hA
  · exact tab9 (f := fun j => 48 + j % 10) hA (hts _ (tq_5 112 rfl)) (hts _ (tq_1 15 rfl)) (fl_at hgv f_oa) (fl_at hgv f_ol) (fun j hj => fl_at hgv (f_oe j hj))
  · exact tab9 (f := fun j => 48 + j / 10) hA (hts _ (tq_5 114 rfl)) (hts _ (tq_1 15 rfl)) (fl_at hgv f_ta) (fl_at hgv f_tl) (fun j hj => fl_at hgv (f_te j hj))
  · exact va_Zqof (hts _ (tq_5 128 rfl)) (hts _ (tq_1 26 rfl)) (fl_at hgv f_so) hA
theorem nc9 {args : Array Value} {s : State} (hgv : (Jvm.Cond.and given_1 narrow_1).before args s = true) : Nc9 s := fun q hq => va_Nc.of (flat_of_before _ hgv _ (f_nc q hq))
