/-! ===== the law's own methods ===== -/
theorem sh9_ok : ∀ a : Fin 17, ∀ b : Fin 17, FP.f2d (FP.fdiv (FP.i2f (nI a.val)) (FP.i2f (nI (max 1 b.val)))) &&& 0x7fffffffffffffff ≤ 0x7ff0000000000000 := by decide +kernel
theorem share_ok {S : St} (hI : Inv S) : vf_n64 (FP.f2d (FP.fdiv (FP.i2f (nI (rN S 45 0))) (FP.i2f (nI (max 1 (rN S 46 0)))))) := by
  have h1 := hI.w.n45
  have h2 := hI.w.n46
  have h3 := hI.w.n44
  exact sh9_ok ⟨rN S 45 0, by omega⟩ ⟨rN S 46 0, by omega⟩
set_option maxRecDepth 20000 in
set_option maxHeartbeats 4000000 in
theorem c_L_addPerson (l : Launch) (D : va_G) (cy : Nat → ClassId) (ad : Nat → Nat) (S : St) (o : Nat) (f : Nat → Int64) (F : va_W) (x : Int32) (hI : Inv S) : CtrH l D cy yL_addPerson (.codeWith yL_addPerson cL_addPerson 4 (some .int) [(0, 9, 12, 13), (0, 9, 15, 15)]) ({ frames := 14, cells := 8, slots := 48, locals := 460 } : Room) [.ref (ad 0), .int x, .ref o] (wC ad cy S ++ cL9 cy o f :: F) (pW ad cy o f F (kAP S x) ((nI (rN S 43 0)).toInt64) (fun T => T = (sAP S x)) (fun T => T = S)) := by
  refine CtrH.of (by decide) (Nat.le_of_ble_eq_true rfl) ?_
  intro M X hE hT hNc hB9
  replace X : VX l D M cy cL_addPerson "RunbookerLaw" (some FieldType.int) ({ frames := 14, cells := 8, slots := 48, locals := 460 } : Room) := X
  show V l D M 0 0 (wC ad cy S ++ cL9 cy o f :: F) [(0, .ref (ad 0)), (1, .int x), (2, .ref o)] 0 []
  refine V.aload_n X dL_addPerson_0 rfl ?_
  refine V.iconst (v := nI 0) X dL_addPerson_1 rfl ?_
  refine V.aload_n X dL_addPerson_2 rfl ?_
  refine V.iload_n X dL_addPerson_3 rfl ?_
  refine V.callV (C := "Runbooker") [.int x] X (c_X5_addPerson l D cy ad S (cL9 cy o f :: F) x hI) mv_X5_addPerson gw_2_77 ⟨⟨(Nat.le_of_ble_eq_true rfl), (Nat.le_of_ble_eq_true rfl)⟩, (Nat.le_of_ble_eq_true rfl), (Nat.le_of_ble_eq_true rfl)⟩ (q0 := 0) (ci := 7) rfl rfl rfl (Nat.le_of_ble_eq_true rfl) dL_addPerson_4 ?_ ?_
  · rintro E9 u9 ⟨j9, hk9, hE9, rfl⟩
    rcases j9 with _ | _ | j9
    · obtain rfl : "java/lang/IllegalArgumentException" = E9 := Option.some.inj (show some "java/lang/IllegalArgumentException" = some E9 from hE9)
      refine VT.catch9 (E := "java/lang/IllegalArgumentException") (name := "java/lang/IllegalArgumentException") X hT hNc [] ⟨0, 9, 12, 13⟩ [⟨0, 9, 15, 15⟩] rfl (hp := 12) rfl (fun z hz => absurd hz List.not_mem_nil) (by decide) (by decide) gw_2_75 cast_IAE (fun q9 => ?_)
      refine V.astore_n (L' := [(3, .ref q9), (0, .ref (ad 0)), (1, .int x), (2, .ref o)]) X dL_addPerson_12 rfl hB9 (by decide) rfl ?_
      refine V.iconst (v := nI 1) X dL_addPerson_13 rfl ?_
      exact V.iret (v := nI 1) X hE rfl rfl (Nat.le_of_ble_eq_true rfl) (Nat.le_of_ble_eq_true rfl) (pW_x (j := 0) hk9 rfl) dL_addPerson_14
    · obtain rfl : "java/lang/IllegalStateException" = E9 := Option.some.inj (show some "java/lang/IllegalStateException" = some E9 from hE9)
      refine VT.catch9 (E := "java/lang/IllegalStateException") (name := "java/lang/IllegalStateException") X hT hNc [⟨0, 9, 12, 13⟩] ⟨0, 9, 15, 15⟩ [] rfl (hp := 15) rfl (fun z hz => by simp only [List.mem_cons, List.not_mem_nil, or_false] at hz; rcases hz with rfl <;> first | exact ⟨by decide, _, gw_2_75, by decide +kernel⟩) (by decide) (by decide) gw_2_76 cast_ISE (fun q9 => ?_)
      refine V.astore_n (L' := [(3, .ref q9), (0, .ref (ad 0)), (1, .int x), (2, .ref o)]) X dL_addPerson_15 rfl hB9 (by decide) rfl ?_
      refine V.iconst (v := nI 2) X dL_addPerson_16 rfl ?_
      exact V.iret (v := nI 2) X hE rfl rfl (Nat.le_of_ble_eq_true rfl) (Nat.le_of_ble_eq_true rfl) (pW_x (j := 1) hk9 rfl) dL_addPerson_17
    · cases (show (none : Option String) = some E9 from hE9)
  · rintro v9 u9 ⟨hk9, rfl, rfl⟩
    refine V.i2l (v := (nI (rN S 43 0)).toInt64) X dL_addPerson_7 rfl ?_
    refine V.outL (q0 := 33) (Wd9 := wC ad cy (sAP S x) ++ cL9 cy o (vp_updL f 0 ((nI (rN S 43 0)).toInt64)) :: F) X rfl rfl dL_addPerson_8 ?_
    refine V.goto (tgt := 18) X dL_addPerson_9 (by decide) ?_
    refine V.iconst (v := nI 0) X dL_addPerson_18 rfl ?_
    exact V.iret (v := nI 0) X hE rfl rfl (Nat.le_of_ble_eq_true rfl) (Nat.le_of_ble_eq_true rfl) (pW_r hk9 rfl rfl) dL_addPerson_19
set_option maxRecDepth 20000 in
set_option maxHeartbeats 4000000 in
theorem c_L_setDuty (l : Launch) (D : va_G) (cy : Nat → ClassId) (ad : Nat → Nat) (S : St) (o : Nat) (f : Nat → Int64) (F : va_W) (x : Int32) (b : Bool) (hI : Inv S) : CtrH l D cy yL_setDuty (.codeWith yL_setDuty cL_setDuty 5 (some .int) [(0, 17, 20, 21), (0, 17, 24, 15)]) ({ frames := 14, cells := 8, slots := 48, locals := 460 } : Room) [.ref (ad 0), .int x, .int (b2i b), .ref o] (wC ad cy S ++ cL9 cy o f :: F) (pW ad cy o f F (kSD S x) (b2l (rB S 8 (ix x))) (fun T => T = (sSD S x b)) (fun T => T = S)) := by
  refine CtrH.of (by decide) (Nat.le_of_ble_eq_true rfl) ?_
  intro M X hE hT hNc hB9
  replace X : VX l D M cy cL_setDuty "RunbookerLaw" (some FieldType.int) ({ frames := 14, cells := 8, slots := 48, locals := 460 } : Room) := X
  show V l D M 0 0 (wC ad cy S ++ cL9 cy o f :: F) [(0, .ref (ad 0)), (1, .int x), (2, .int (b2i b)), (3, .ref o)] 0 []
  refine V.aload_n X dL_setDuty_0 rfl ?_
  refine V.iconst (v := nI 0) X dL_setDuty_1 rfl ?_
  refine V.aload_n X dL_setDuty_2 rfl ?_
  refine V.iload_n X dL_setDuty_3 rfl ?_
  refine V.iload_n X dL_setDuty_4 rfl ?_
  refine V.callV (C := "Runbooker") [.int x, .int (b2i b)] X (c_X5_setDuty l D cy ad S (cL9 cy o f :: F) x b hI) mv_X5_setDuty gw_2_175 ⟨⟨(Nat.le_of_ble_eq_true rfl), (Nat.le_of_ble_eq_true rfl)⟩, (Nat.le_of_ble_eq_true rfl), (Nat.le_of_ble_eq_true rfl)⟩ (q0 := 0) (ci := 7) rfl rfl rfl (Nat.le_of_ble_eq_true rfl) dL_setDuty_5 ?_ ?_
  · rintro E9 u9 ⟨j9, hk9, hE9, rfl⟩
    rcases j9 with _ | _ | j9
    · obtain rfl : "java/util/NoSuchElementException" = E9 := Option.some.inj (show some "java/util/NoSuchElementException" = some E9 from hE9)
      refine VT.catch9 (E := "java/util/NoSuchElementException") (name := "java/util/NoSuchElementException") X hT hNc [] ⟨0, 17, 20, 21⟩ [⟨0, 17, 24, 15⟩] rfl (hp := 20) rfl (fun z hz => absurd hz List.not_mem_nil) (by decide) (by decide) gw_2_174 cast_NSE (fun q9 => ?_)
      refine V.astore (L' := [(4, .ref q9), (0, .ref (ad 0)), (1, .int x), (2, .int (b2i b)), (3, .ref o)]) X dL_setDuty_20 hB9 (by decide) rfl ?_
      refine V.iconst (v := nI 1) X dL_setDuty_22 rfl ?_
      exact V.iret (v := nI 1) X hE rfl rfl (Nat.le_of_ble_eq_true rfl) (Nat.le_of_ble_eq_true rfl) (pW_x (j := 0) hk9 rfl) dL_setDuty_23
    · obtain rfl : "java/lang/IllegalStateException" = E9 := Option.some.inj (show some "java/lang/IllegalStateException" = some E9 from hE9)
      refine VT.catch9 (E := "java/lang/IllegalStateException") (name := "java/lang/IllegalStateException") X hT hNc [⟨0, 17, 20, 21⟩] ⟨0, 17, 24, 15⟩ [] rfl (hp := 24) rfl (fun z hz => by simp only [List.mem_cons, List.not_mem_nil, or_false] at hz; rcases hz with rfl <;> first | exact ⟨by decide, _, gw_2_174, by decide +kernel⟩) (by decide) (by decide) gw_2_76 cast_ISE (fun q9 => ?_)
      refine V.astore (L' := [(4, .ref q9), (0, .ref (ad 0)), (1, .int x), (2, .int (b2i b)), (3, .ref o)]) X dL_setDuty_24 hB9 (by decide) rfl ?_
      refine V.iconst (v := nI 2) X dL_setDuty_26 rfl ?_
      exact V.iret (v := nI 2) X hE rfl rfl (Nat.le_of_ble_eq_true rfl) (Nat.le_of_ble_eq_true rfl) (pW_x (j := 1) hk9 rfl) dL_setDuty_27
    · cases (show (none : Option String) = some E9 from hE9)
  · rintro v9 u9 ⟨hk9, rfl, rfl⟩
    refine V.if_eq (tgt := 15) X dL_setDuty_8 (by decide) b2i_0 b2i_n0 (fun (hb9 : (rB S 8 (ix x)) = false) => ?_) (fun (hb9 : (rB S 8 (ix x)) = true) => ?_)
    · refine V.lconst (v := 0) X dL_setDuty_15 rfl ?_
      refine V.outL (q0 := 33) (Wd9 := wC ad cy (sSD S x b) ++ cL9 cy o (vp_updL f 0 0) :: F) X rfl rfl dL_setDuty_16 ?_
      refine V.goto (tgt := 28) X dL_setDuty_17 (by decide) ?_
      refine V.iconst (v := nI 0) X dL_setDuty_28 rfl ?_
      exact V.iret (v := nI 0) X hE rfl rfl (Nat.le_of_ble_eq_true rfl) (Nat.le_of_ble_eq_true rfl) (pW_r hk9 (by rw [hb9]; rfl) rfl) dL_setDuty_29
    · refine V.lconst (v := 1) X dL_setDuty_11 rfl ?_
      refine V.goto (tgt := 16) X dL_setDuty_12 (by decide) ?_
      refine V.outL (q0 := 33) (Wd9 := wC ad cy (sSD S x b) ++ cL9 cy o (vp_updL f 0 1) :: F) X rfl rfl dL_setDuty_16 ?_
      refine V.goto (tgt := 28) X dL_setDuty_17 (by decide) ?_
      refine V.iconst (v := nI 0) X dL_setDuty_28 rfl ?_
      exact V.iret (v := nI 0) X hE rfl rfl (Nat.le_of_ble_eq_true rfl) (Nat.le_of_ble_eq_true rfl) (pW_r hk9 (by rw [hb9]; rfl) rfl) dL_setDuty_29
set_option maxRecDepth 20000 in
set_option maxHeartbeats 4000000 in
theorem c_L_addStep (l : Launch) (D : va_G) (cy : Nat → ClassId) (ad : Nat → Nat) (S : St) (o : Nat) (f : Nat → Int64) (F : va_W) (ro : Int32) (le : Int32) (tr : Int32) (jn : UInt16) (rv : Bool) (hI : Inv S) : CtrH l D cy yL_addStep (.codeWith yL_addStep cL_addStep 8 (some .int) [(0, 16, 19, 13), (0, 16, 23, 15)]) ({ frames := 14, cells := 8, slots := 48, locals := 460 } : Room) [.ref (ad 0), .int ro, .int le, .int tr, .int (c2i jn), .int (b2i rv), .ref o] (wC ad cy S ++ cL9 cy o f :: F) (pW ad cy o f F (kAS S ro le tr jn) ((nI (rN S 44 0)).toInt64) (fun T => T = (sAS S ro le tr jn rv)) (fun T => T = S)) := by
  refine CtrH.of (by decide) (Nat.le_of_ble_eq_true rfl) ?_
  intro M X hE hT hNc hB9
  replace X : VX l D M cy cL_addStep "RunbookerLaw" (some FieldType.int) ({ frames := 14, cells := 8, slots := 48, locals := 460 } : Room) := X
  show V l D M 0 0 (wC ad cy S ++ cL9 cy o f :: F) [(0, .ref (ad 0)), (1, .int ro), (2, .int le), (3, .int tr), (4, .int (c2i jn)), (5, .int (b2i rv)), (6, .ref o)] 0 []
  refine V.aload X dL_addStep_0 rfl ?_
  refine V.iconst (v := nI 0) X dL_addStep_2 rfl ?_
  refine V.aload_n X dL_addStep_3 rfl ?_
  refine V.iload_n X dL_addStep_4 rfl ?_
  refine V.iload_n X dL_addStep_5 rfl ?_
  refine V.iload_n X dL_addStep_6 rfl ?_
  refine V.iload X dL_addStep_7 rfl ?_
  refine V.iload X dL_addStep_9 rfl ?_
  refine V.callV (C := "Runbooker") [.int ro, .int le, .int tr, .int (c2i jn), .int (b2i rv)] X (c_X5_addStep l D cy ad S (cL9 cy o f :: F) ro le tr jn rv hI) mv_X5_addStep gw_2_215 ⟨⟨(Nat.le_of_ble_eq_true rfl), (Nat.le_of_ble_eq_true rfl)⟩, (Nat.le_of_ble_eq_true rfl), (Nat.le_of_ble_eq_true rfl)⟩ (q0 := 0) (ci := 7) rfl rfl rfl (Nat.le_of_ble_eq_true rfl) dL_addStep_11 ?_ ?_
  · rintro E9 u9 ⟨j9, hk9, hE9, rfl⟩
    rcases j9 with _ | _ | j9
    · obtain rfl : "java/lang/IllegalArgumentException" = E9 := Option.some.inj (show some "java/lang/IllegalArgumentException" = some E9 from hE9)
      refine VT.catch9 (E := "java/lang/IllegalArgumentException") (name := "java/lang/IllegalArgumentException") X hT hNc [] ⟨0, 16, 19, 13⟩ [⟨0, 16, 23, 15⟩] rfl (hp := 19) rfl (fun z hz => absurd hz List.not_mem_nil) (by decide) (by decide) gw_2_75 cast_IAE (fun q9 => ?_)
      refine V.astore (L' := [(7, .ref q9), (0, .ref (ad 0)), (1, .int ro), (2, .int le), (3, .int tr), (4, .int (c2i jn)), (5, .int (b2i rv)), (6, .ref o)]) X dL_addStep_19 hB9 (by decide) rfl ?_
      refine V.iconst (v := nI 1) X dL_addStep_21 rfl ?_
      exact V.iret (v := nI 1) X hE rfl rfl (Nat.le_of_ble_eq_true rfl) (Nat.le_of_ble_eq_true rfl) (pW_x (j := 0) hk9 rfl) dL_addStep_22
    · obtain rfl : "java/lang/IllegalStateException" = E9 := Option.some.inj (show some "java/lang/IllegalStateException" = some E9 from hE9)
      refine VT.catch9 (E := "java/lang/IllegalStateException") (name := "java/lang/IllegalStateException") X hT hNc [⟨0, 16, 19, 13⟩] ⟨0, 16, 23, 15⟩ [] rfl (hp := 23) rfl (fun z hz => by simp only [List.mem_cons, List.not_mem_nil, or_false] at hz; rcases hz with rfl <;> first | exact ⟨by decide, _, gw_2_75, by decide +kernel⟩) (by decide) (by decide) gw_2_76 cast_ISE (fun q9 => ?_)
      refine V.astore (L' := [(7, .ref q9), (0, .ref (ad 0)), (1, .int ro), (2, .int le), (3, .int tr), (4, .int (c2i jn)), (5, .int (b2i rv)), (6, .ref o)]) X dL_addStep_23 hB9 (by decide) rfl ?_
      refine V.iconst (v := nI 2) X dL_addStep_25 rfl ?_
      exact V.iret (v := nI 2) X hE rfl rfl (Nat.le_of_ble_eq_true rfl) (Nat.le_of_ble_eq_true rfl) (pW_x (j := 1) hk9 rfl) dL_addStep_26
    · cases (show (none : Option String) = some E9 from hE9)
  · rintro v9 u9 ⟨hk9, rfl, rfl⟩
    refine V.i2l (v := (nI (rN S 44 0)).toInt64) X dL_addStep_14 rfl ?_
    refine V.outL (q0 := 33) (Wd9 := wC ad cy (sAS S ro le tr jn rv) ++ cL9 cy o (vp_updL f 0 ((nI (rN S 44 0)).toInt64)) :: F) X rfl rfl dL_addStep_15 ?_
    refine V.goto (tgt := 27) X dL_addStep_16 (by decide) ?_
    refine V.iconst (v := nI 0) X dL_addStep_27 rfl ?_
    exact V.iret (v := nI 0) X hE rfl rfl (Nat.le_of_ble_eq_true rfl) (Nat.le_of_ble_eq_true rfl) (pW_r hk9 rfl rfl) dL_addStep_28
set_option maxRecDepth 20000 in
set_option maxHeartbeats 4000000 in
theorem c_L_need (l : Launch) (D : va_G) (cy : Nat → ClassId) (ad : Nat → Nat) (S : St) (o : Nat) (f : Nat → Int64) (F : va_W) (x : Int32) (y : Int32) (hI : Inv S) : CtrH l D cy yL_need (.codeWith yL_need cL_need 5 (some .int) [(0, 10, 13, 21), (0, 10, 17, 13), (0, 10, 21, 15)]) ({ frames := 14, cells := 8, slots := 48, locals := 460 } : Room) [.ref (ad 0), .int x, .int y, .ref o] (wC ad cy S ++ cL9 cy o f :: F) (pW ad cy o f F (kND S x y) ((nI (popc (vND S x y))).toInt64) (fun T => T = (sND S x y)) (fun T => T = S)) := by
  refine CtrH.of (by decide) (Nat.le_of_ble_eq_true rfl) ?_
  intro M X hE hT hNc hB9
  replace X : VX l D M cy cL_need "RunbookerLaw" (some FieldType.int) ({ frames := 14, cells := 8, slots := 48, locals := 460 } : Room) := X
  show V l D M 0 0 (wC ad cy S ++ cL9 cy o f :: F) [(0, .ref (ad 0)), (1, .int x), (2, .int y), (3, .ref o)] 0 []
  refine V.aload_n X dL_need_0 rfl ?_
  refine V.iconst (v := nI 0) X dL_need_1 rfl ?_
  refine V.aload_n X dL_need_2 rfl ?_
  refine V.iload_n X dL_need_3 rfl ?_
  refine V.iload_n X dL_need_4 rfl ?_
  refine V.callV (C := "Runbooker") [.int x, .int y] X (c_X5_need l D cy ad S (cL9 cy o f :: F) x y hI) mv_X5_need gw_2_237 ⟨⟨(Nat.le_of_ble_eq_true rfl), (Nat.le_of_ble_eq_true rfl)⟩, (Nat.le_of_ble_eq_true rfl), (Nat.le_of_ble_eq_true rfl)⟩ (q0 := 0) (ci := 7) rfl rfl rfl (Nat.le_of_ble_eq_true rfl) dL_need_5 ?_ ?_
  · rintro E9 u9 ⟨j9, hk9, hE9, rfl⟩
    rcases j9 with _ | _ | _ | j9
    · obtain rfl : "java/util/NoSuchElementException" = E9 := Option.some.inj (show some "java/util/NoSuchElementException" = some E9 from hE9)
      refine VT.catch9 (E := "java/util/NoSuchElementException") (name := "java/util/NoSuchElementException") X hT hNc [] ⟨0, 10, 13, 21⟩ [⟨0, 10, 17, 13⟩, ⟨0, 10, 21, 15⟩] rfl (hp := 13) rfl (fun z hz => absurd hz List.not_mem_nil) (by decide) (by decide) gw_2_174 cast_NSE (fun q9 => ?_)
      refine V.astore (L' := [(4, .ref q9), (0, .ref (ad 0)), (1, .int x), (2, .int y), (3, .ref o)]) X dL_need_13 hB9 (by decide) rfl ?_
      refine V.iconst (v := nI 1) X dL_need_15 rfl ?_
      exact V.iret (v := nI 1) X hE rfl rfl (Nat.le_of_ble_eq_true rfl) (Nat.le_of_ble_eq_true rfl) (pW_x (j := 0) hk9 rfl) dL_need_16
    · obtain rfl : "java/lang/IllegalArgumentException" = E9 := Option.some.inj (show some "java/lang/IllegalArgumentException" = some E9 from hE9)
      refine VT.catch9 (E := "java/lang/IllegalArgumentException") (name := "java/lang/IllegalArgumentException") X hT hNc [⟨0, 10, 13, 21⟩] ⟨0, 10, 17, 13⟩ [⟨0, 10, 21, 15⟩] rfl (hp := 17) rfl (fun z hz => by simp only [List.mem_cons, List.not_mem_nil, or_false] at hz; rcases hz with rfl <;> first | exact ⟨by decide, _, gw_2_174, by decide +kernel⟩) (by decide) (by decide) gw_2_75 cast_IAE (fun q9 => ?_)
      refine V.astore (L' := [(4, .ref q9), (0, .ref (ad 0)), (1, .int x), (2, .int y), (3, .ref o)]) X dL_need_17 hB9 (by decide) rfl ?_
      refine V.iconst (v := nI 2) X dL_need_19 rfl ?_
      exact V.iret (v := nI 2) X hE rfl rfl (Nat.le_of_ble_eq_true rfl) (Nat.le_of_ble_eq_true rfl) (pW_x (j := 1) hk9 rfl) dL_need_20
    · obtain rfl : "java/lang/IllegalStateException" = E9 := Option.some.inj (show some "java/lang/IllegalStateException" = some E9 from hE9)
      refine VT.catch9 (E := "java/lang/IllegalStateException") (name := "java/lang/IllegalStateException") X hT hNc [⟨0, 10, 13, 21⟩, ⟨0, 10, 17, 13⟩] ⟨0, 10, 21, 15⟩ [] rfl (hp := 21) rfl (fun z hz => by simp only [List.mem_cons, List.not_mem_nil, or_false] at hz; rcases hz with rfl | rfl <;> first | exact ⟨by decide, _, gw_2_174, by decide +kernel⟩ | exact ⟨by decide, _, gw_2_75, by decide +kernel⟩) (by decide) (by decide) gw_2_76 cast_ISE (fun q9 => ?_)
      refine V.astore (L' := [(4, .ref q9), (0, .ref (ad 0)), (1, .int x), (2, .int y), (3, .ref o)]) X dL_need_21 hB9 (by decide) rfl ?_
      refine V.iconst (v := nI 3) X dL_need_23 rfl ?_
      exact V.iret (v := nI 3) X hE rfl rfl (Nat.le_of_ble_eq_true rfl) (Nat.le_of_ble_eq_true rfl) (pW_x (j := 2) hk9 rfl) dL_need_24
    · cases (show (none : Option String) = some E9 from hE9)
  · rintro v9 u9 ⟨hk9, rfl, rfl⟩
    refine V.i2l (v := (nI (popc (vND S x y))).toInt64) X dL_need_8 rfl ?_
    refine V.outL (q0 := 33) (Wd9 := wC ad cy (sND S x y) ++ cL9 cy o (vp_updL f 0 ((nI (popc (vND S x y))).toInt64)) :: F) X rfl rfl dL_need_9 ?_
    refine V.goto (tgt := 25) X dL_need_10 (by decide) ?_
    refine V.iconst (v := nI 0) X dL_need_25 rfl ?_
    exact V.iret (v := nI 0) X hE rfl rfl (Nat.le_of_ble_eq_true rfl) (Nat.le_of_ble_eq_true rfl) (pW_r hk9 rfl rfl) dL_need_26
set_option maxRecDepth 20000 in
set_option maxHeartbeats 4000000 in
theorem c_L_condition (l : Launch) (D : va_G) (cy : Nat → ClassId) (ad : Nat → Nat) (S : St) (o : Nat) (f : Nat → Int64) (F : va_W) (x : Int32) (se : Int32) (sg : UInt16) (b : Int32) (hI : Inv S) : CtrH l D cy yL_condition (.codeWith yL_condition cL_condition 7 (some .int) [(0, 14, 17, 21), (0, 14, 21, 13), (0, 14, 25, 15)]) ({ frames := 14, cells := 8, slots := 48, locals := 460 } : Room) [.ref (ad 0), .int x, .int se, .int (c2i sg), .int b, .ref o] (wC ad cy S ++ cL9 cy o f :: F) (pW ad cy o f F (kCD S x se sg b) ((nI (rN S 17 (ix x) + 1)).toInt64) (fun T => T = (sCD S x se sg b)) (fun T => T = S)) := by
  refine CtrH.of (by decide) (Nat.le_of_ble_eq_true rfl) ?_
  intro M X hE hT hNc hB9
  replace X : VX l D M cy cL_condition "RunbookerLaw" (some FieldType.int) ({ frames := 14, cells := 8, slots := 48, locals := 460 } : Room) := X
  show V l D M 0 0 (wC ad cy S ++ cL9 cy o f :: F) [(0, .ref (ad 0)), (1, .int x), (2, .int se), (3, .int (c2i sg)), (4, .int b), (5, .ref o)] 0 []
  refine V.aload X dL_condition_0 rfl ?_
  refine V.iconst (v := nI 0) X dL_condition_2 rfl ?_
  refine V.aload_n X dL_condition_3 rfl ?_
  refine V.iload_n X dL_condition_4 rfl ?_
  refine V.iload_n X dL_condition_5 rfl ?_
  refine V.iload_n X dL_condition_6 rfl ?_
  refine V.iload X dL_condition_7 rfl ?_
  refine V.callV (C := "Runbooker") [.int x, .int se, .int (c2i sg), .int b] X (c_X5_condition l D cy ad S (cL9 cy o f :: F) x se sg b hI) mv_X5_condition gw_3_21 ⟨⟨(Nat.le_of_ble_eq_true rfl), (Nat.le_of_ble_eq_true rfl)⟩, (Nat.le_of_ble_eq_true rfl), (Nat.le_of_ble_eq_true rfl)⟩ (q0 := 0) (ci := 7) rfl rfl rfl (Nat.le_of_ble_eq_true rfl) dL_condition_9 ?_ ?_
  · rintro E9 u9 ⟨j9, hk9, hE9, rfl⟩
    rcases j9 with _ | _ | _ | j9
    · obtain rfl : "java/util/NoSuchElementException" = E9 := Option.some.inj (show some "java/util/NoSuchElementException" = some E9 from hE9)
      refine VT.catch9 (E := "java/util/NoSuchElementException") (name := "java/util/NoSuchElementException") X hT hNc [] ⟨0, 14, 17, 21⟩ [⟨0, 14, 21, 13⟩, ⟨0, 14, 25, 15⟩] rfl (hp := 17) rfl (fun z hz => absurd hz List.not_mem_nil) (by decide) (by decide) gw_2_174 cast_NSE (fun q9 => ?_)
      refine V.astore (L' := [(6, .ref q9), (0, .ref (ad 0)), (1, .int x), (2, .int se), (3, .int (c2i sg)), (4, .int b), (5, .ref o)]) X dL_condition_17 hB9 (by decide) rfl ?_
      refine V.iconst (v := nI 1) X dL_condition_19 rfl ?_
      exact V.iret (v := nI 1) X hE rfl rfl (Nat.le_of_ble_eq_true rfl) (Nat.le_of_ble_eq_true rfl) (pW_x (j := 0) hk9 rfl) dL_condition_20
    · obtain rfl : "java/lang/IllegalArgumentException" = E9 := Option.some.inj (show some "java/lang/IllegalArgumentException" = some E9 from hE9)
      refine VT.catch9 (E := "java/lang/IllegalArgumentException") (name := "java/lang/IllegalArgumentException") X hT hNc [⟨0, 14, 17, 21⟩] ⟨0, 14, 21, 13⟩ [⟨0, 14, 25, 15⟩] rfl (hp := 21) rfl (fun z hz => by simp only [List.mem_cons, List.not_mem_nil, or_false] at hz; rcases hz with rfl <;> first | exact ⟨by decide, _, gw_2_174, by decide +kernel⟩) (by decide) (by decide) gw_2_75 cast_IAE (fun q9 => ?_)
      refine V.astore (L' := [(6, .ref q9), (0, .ref (ad 0)), (1, .int x), (2, .int se), (3, .int (c2i sg)), (4, .int b), (5, .ref o)]) X dL_condition_21 hB9 (by decide) rfl ?_
      refine V.iconst (v := nI 2) X dL_condition_23 rfl ?_
      exact V.iret (v := nI 2) X hE rfl rfl (Nat.le_of_ble_eq_true rfl) (Nat.le_of_ble_eq_true rfl) (pW_x (j := 1) hk9 rfl) dL_condition_24
    · obtain rfl : "java/lang/IllegalStateException" = E9 := Option.some.inj (show some "java/lang/IllegalStateException" = some E9 from hE9)
      refine VT.catch9 (E := "java/lang/IllegalStateException") (name := "java/lang/IllegalStateException") X hT hNc [⟨0, 14, 17, 21⟩, ⟨0, 14, 21, 13⟩] ⟨0, 14, 25, 15⟩ [] rfl (hp := 25) rfl (fun z hz => by simp only [List.mem_cons, List.not_mem_nil, or_false] at hz; rcases hz with rfl | rfl <;> first | exact ⟨by decide, _, gw_2_174, by decide +kernel⟩ | exact ⟨by decide, _, gw_2_75, by decide +kernel⟩) (by decide) (by decide) gw_2_76 cast_ISE (fun q9 => ?_)
      refine V.astore (L' := [(6, .ref q9), (0, .ref (ad 0)), (1, .int x), (2, .int se), (3, .int (c2i sg)), (4, .int b), (5, .ref o)]) X dL_condition_25 hB9 (by decide) rfl ?_
      refine V.iconst (v := nI 3) X dL_condition_27 rfl ?_
      exact V.iret (v := nI 3) X hE rfl rfl (Nat.le_of_ble_eq_true rfl) (Nat.le_of_ble_eq_true rfl) (pW_x (j := 2) hk9 rfl) dL_condition_28
    · cases (show (none : Option String) = some E9 from hE9)
  · rintro v9 u9 ⟨hk9, rfl, rfl⟩
    refine V.i2l (v := (nI (rN S 17 (ix x) + 1)).toInt64) X dL_condition_12 rfl ?_
    refine V.outL (q0 := 33) (Wd9 := wC ad cy (sCD S x se sg b) ++ cL9 cy o (vp_updL f 0 ((nI (rN S 17 (ix x) + 1)).toInt64)) :: F) X rfl rfl dL_condition_13 ?_
    refine V.goto (tgt := 29) X dL_condition_14 (by decide) ?_
    refine V.iconst (v := nI 0) X dL_condition_29 rfl ?_
    exact V.iret (v := nI 0) X hE rfl rfl (Nat.le_of_ble_eq_true rfl) (Nat.le_of_ble_eq_true rfl) (pW_r hk9 rfl rfl) dL_condition_30
set_option maxRecDepth 20000 in
set_option maxHeartbeats 4000000 in
theorem c_L_setFallback (l : Launch) (D : va_G) (cy : Nat → ClassId) (ad : Nat → Nat) (S : St) (o : Nat) (f : Nat → Int64) (F : va_W) (x : Int32) (y : Int32) (hI : Inv S) : CtrH l D cy yL_setFallback (.codeWith yL_setFallback cL_setFallback 5 (some .int) [(0, 10, 13, 21), (0, 10, 17, 13), (0, 10, 21, 15)]) ({ frames := 14, cells := 8, slots := 48, locals := 460 } : Room) [.ref (ad 0), .int x, .int y, .ref o] (wC ad cy S ++ cL9 cy o f :: F) (pW ad cy o f F (kSF S x y) ((o2i (rO S 16 (ix x))).toInt64) (fun T => T = (sSF S x y)) (fun T => T = S)) := by
  refine CtrH.of (by decide) (Nat.le_of_ble_eq_true rfl) ?_
  intro M X hE hT hNc hB9
  replace X : VX l D M cy cL_setFallback "RunbookerLaw" (some FieldType.int) ({ frames := 14, cells := 8, slots := 48, locals := 460 } : Room) := X
  show V l D M 0 0 (wC ad cy S ++ cL9 cy o f :: F) [(0, .ref (ad 0)), (1, .int x), (2, .int y), (3, .ref o)] 0 []
  refine V.aload_n X dL_setFallback_0 rfl ?_
  refine V.iconst (v := nI 0) X dL_setFallback_1 rfl ?_
  refine V.aload_n X dL_setFallback_2 rfl ?_
  refine V.iload_n X dL_setFallback_3 rfl ?_
  refine V.iload_n X dL_setFallback_4 rfl ?_
  refine V.callV (C := "Runbooker") [.int x, .int y] X (c_X5_setFallback l D cy ad S (cL9 cy o f :: F) x y hI) mv_X5_setFallback gw_3_38 ⟨⟨(Nat.le_of_ble_eq_true rfl), (Nat.le_of_ble_eq_true rfl)⟩, (Nat.le_of_ble_eq_true rfl), (Nat.le_of_ble_eq_true rfl)⟩ (q0 := 0) (ci := 7) rfl rfl rfl (Nat.le_of_ble_eq_true rfl) dL_setFallback_5 ?_ ?_
  · rintro E9 u9 ⟨j9, hk9, hE9, rfl⟩
    rcases j9 with _ | _ | _ | j9
    · obtain rfl : "java/util/NoSuchElementException" = E9 := Option.some.inj (show some "java/util/NoSuchElementException" = some E9 from hE9)
      refine VT.catch9 (E := "java/util/NoSuchElementException") (name := "java/util/NoSuchElementException") X hT hNc [] ⟨0, 10, 13, 21⟩ [⟨0, 10, 17, 13⟩, ⟨0, 10, 21, 15⟩] rfl (hp := 13) rfl (fun z hz => absurd hz List.not_mem_nil) (by decide) (by decide) gw_2_174 cast_NSE (fun q9 => ?_)
      refine V.astore (L' := [(4, .ref q9), (0, .ref (ad 0)), (1, .int x), (2, .int y), (3, .ref o)]) X dL_setFallback_13 hB9 (by decide) rfl ?_
      refine V.iconst (v := nI 1) X dL_setFallback_15 rfl ?_
      exact V.iret (v := nI 1) X hE rfl rfl (Nat.le_of_ble_eq_true rfl) (Nat.le_of_ble_eq_true rfl) (pW_x (j := 0) hk9 rfl) dL_setFallback_16
    · obtain rfl : "java/lang/IllegalArgumentException" = E9 := Option.some.inj (show some "java/lang/IllegalArgumentException" = some E9 from hE9)
      refine VT.catch9 (E := "java/lang/IllegalArgumentException") (name := "java/lang/IllegalArgumentException") X hT hNc [⟨0, 10, 13, 21⟩] ⟨0, 10, 17, 13⟩ [⟨0, 10, 21, 15⟩] rfl (hp := 17) rfl (fun z hz => by simp only [List.mem_cons, List.not_mem_nil, or_false] at hz; rcases hz with rfl <;> first | exact ⟨by decide, _, gw_2_174, by decide +kernel⟩) (by decide) (by decide) gw_2_75 cast_IAE (fun q9 => ?_)
      refine V.astore (L' := [(4, .ref q9), (0, .ref (ad 0)), (1, .int x), (2, .int y), (3, .ref o)]) X dL_setFallback_17 hB9 (by decide) rfl ?_
      refine V.iconst (v := nI 2) X dL_setFallback_19 rfl ?_
      exact V.iret (v := nI 2) X hE rfl rfl (Nat.le_of_ble_eq_true rfl) (Nat.le_of_ble_eq_true rfl) (pW_x (j := 1) hk9 rfl) dL_setFallback_20
    · obtain rfl : "java/lang/IllegalStateException" = E9 := Option.some.inj (show some "java/lang/IllegalStateException" = some E9 from hE9)
      refine VT.catch9 (E := "java/lang/IllegalStateException") (name := "java/lang/IllegalStateException") X hT hNc [⟨0, 10, 13, 21⟩, ⟨0, 10, 17, 13⟩] ⟨0, 10, 21, 15⟩ [] rfl (hp := 21) rfl (fun z hz => by simp only [List.mem_cons, List.not_mem_nil, or_false] at hz; rcases hz with rfl | rfl <;> first | exact ⟨by decide, _, gw_2_174, by decide +kernel⟩ | exact ⟨by decide, _, gw_2_75, by decide +kernel⟩) (by decide) (by decide) gw_2_76 cast_ISE (fun q9 => ?_)
      refine V.astore (L' := [(4, .ref q9), (0, .ref (ad 0)), (1, .int x), (2, .int y), (3, .ref o)]) X dL_setFallback_21 hB9 (by decide) rfl ?_
      refine V.iconst (v := nI 3) X dL_setFallback_23 rfl ?_
      exact V.iret (v := nI 3) X hE rfl rfl (Nat.le_of_ble_eq_true rfl) (Nat.le_of_ble_eq_true rfl) (pW_x (j := 2) hk9 rfl) dL_setFallback_24
    · cases (show (none : Option String) = some E9 from hE9)
  · rintro v9 u9 ⟨hk9, rfl, rfl⟩
    refine V.i2l (v := (o2i (rO S 16 (ix x))).toInt64) X dL_setFallback_8 rfl ?_
    refine V.outL (q0 := 33) (Wd9 := wC ad cy (sSF S x y) ++ cL9 cy o (vp_updL f 0 ((o2i (rO S 16 (ix x))).toInt64)) :: F) X rfl rfl dL_setFallback_9 ?_
    refine V.goto (tgt := 25) X dL_setFallback_10 (by decide) ?_
    refine V.iconst (v := nI 0) X dL_setFallback_25 rfl ?_
    exact V.iret (v := nI 0) X hE rfl rfl (Nat.le_of_ble_eq_true rfl) (Nat.le_of_ble_eq_true rfl) (pW_r hk9 rfl rfl) dL_setFallback_26
set_option maxRecDepth 20000 in
set_option maxHeartbeats 4000000 in
theorem c_L_setReading (l : Launch) (D : va_G) (cy : Nat → ClassId) (ad : Nat → Nat) (S : St) (o : Nat) (f : Nat → Int64) (F : va_W) (x : Int32) (r : Int32) (hI : Inv S) : CtrH l D cy yL_setReading (.codeWith yL_setReading cL_setReading 5 (some .int) [(0, 10, 13, 13)]) ({ frames := 14, cells := 8, slots := 48, locals := 460 } : Room) [.ref (ad 0), .int x, .int r, .ref o] (wC ad cy S ++ cL9 cy o f :: F) (pW ad cy o f F (kSR x r) ((rI S 6 (ix x)).toInt64) (fun T => T = (sSR S x r)) (fun T => T = S)) := by
  refine CtrH.of (by decide) (Nat.le_of_ble_eq_true rfl) ?_
  intro M X hE hT hNc hB9
  replace X : VX l D M cy cL_setReading "RunbookerLaw" (some FieldType.int) ({ frames := 14, cells := 8, slots := 48, locals := 460 } : Room) := X
  show V l D M 0 0 (wC ad cy S ++ cL9 cy o f :: F) [(0, .ref (ad 0)), (1, .int x), (2, .int r), (3, .ref o)] 0 []
  refine V.aload_n X dL_setReading_0 rfl ?_
  refine V.iconst (v := nI 0) X dL_setReading_1 rfl ?_
  refine V.aload_n X dL_setReading_2 rfl ?_
  refine V.iload_n X dL_setReading_3 rfl ?_
  refine V.iload_n X dL_setReading_4 rfl ?_
  refine V.callV (C := "Runbooker") [.int x, .int r] X (c_X5_setReading l D cy ad S (cL9 cy o f :: F) x r hI) mv_X5_setReading gw_3_50 ⟨⟨(Nat.le_of_ble_eq_true rfl), (Nat.le_of_ble_eq_true rfl)⟩, (Nat.le_of_ble_eq_true rfl), (Nat.le_of_ble_eq_true rfl)⟩ (q0 := 0) (ci := 7) rfl rfl rfl (Nat.le_of_ble_eq_true rfl) dL_setReading_5 ?_ ?_
  · rintro E9 u9 ⟨j9, hk9, hE9, rfl⟩
    rcases j9 with _ | j9
    · obtain rfl : "java/lang/IllegalArgumentException" = E9 := Option.some.inj (show some "java/lang/IllegalArgumentException" = some E9 from hE9)
      refine VT.catch9 (E := "java/lang/IllegalArgumentException") (name := "java/lang/IllegalArgumentException") X hT hNc [] ⟨0, 10, 13, 13⟩ [] rfl (hp := 13) rfl (fun z hz => absurd hz List.not_mem_nil) (by decide) (by decide) gw_2_75 cast_IAE (fun q9 => ?_)
      refine V.astore (L' := [(4, .ref q9), (0, .ref (ad 0)), (1, .int x), (2, .int r), (3, .ref o)]) X dL_setReading_13 hB9 (by decide) rfl ?_
      refine V.iconst (v := nI 1) X dL_setReading_15 rfl ?_
      exact V.iret (v := nI 1) X hE rfl rfl (Nat.le_of_ble_eq_true rfl) (Nat.le_of_ble_eq_true rfl) (pW_x (j := 0) hk9 rfl) dL_setReading_16
    · cases (show (none : Option String) = some E9 from hE9)
  · rintro v9 u9 ⟨hk9, rfl, rfl⟩
    refine V.i2l (v := (rI S 6 (ix x)).toInt64) X dL_setReading_8 rfl ?_
    refine V.outL (q0 := 33) (Wd9 := wC ad cy (sSR S x r) ++ cL9 cy o (vp_updL f 0 ((rI S 6 (ix x)).toInt64)) :: F) X rfl rfl dL_setReading_9 ?_
    refine V.goto (tgt := 17) X dL_setReading_10 (by decide) ?_
    refine V.iconst (v := nI 0) X dL_setReading_17 rfl ?_
    exact V.iret (v := nI 0) X hE rfl rfl (Nat.le_of_ble_eq_true rfl) (Nat.le_of_ble_eq_true rfl) (pW_r hk9 rfl rfl) dL_setReading_18
set_option maxRecDepth 20000 in
set_option maxHeartbeats 4000000 in
theorem c_L_start (l : Launch) (D : va_G) (cy : Nat → ClassId) (ad : Nat → Nat) (S : St) (o : Nat) (f : Nat → Int64) (F : va_W) (hI : Inv S) : CtrH l D cy yL_start (.codeWith yL_start cL_start 3 (some .int) [(0, 8, 11, 15)]) ({ frames := 14, cells := 8, slots := 48, locals := 460 } : Room) [.ref (ad 0), .ref o] (wC ad cy S ++ cL9 cy o f :: F) (pW ad cy o f F (kST S) ((nI (cntR (sST S))).toInt64) (fun T => T = (sST S)) (fun T => T = S)) := by
  refine CtrH.of (by decide) (Nat.le_of_ble_eq_true rfl) ?_
  intro M X hE hT hNc hB9
  replace X : VX l D M cy cL_start "RunbookerLaw" (some FieldType.int) ({ frames := 14, cells := 8, slots := 48, locals := 460 } : Room) := X
  show V l D M 0 0 (wC ad cy S ++ cL9 cy o f :: F) [(0, .ref (ad 0)), (1, .ref o)] 0 []
  refine V.aload_n X dL_start_0 rfl ?_
  refine V.iconst (v := nI 0) X dL_start_1 rfl ?_
  refine V.aload_n X dL_start_2 rfl ?_
  refine V.callV (C := "Runbooker") [] X (c_X5_start l D cy ad S (cL9 cy o f :: F) hI) mv_X5_start gw_3_58 ⟨⟨(Nat.le_of_ble_eq_true rfl), (Nat.le_of_ble_eq_true rfl)⟩, (Nat.le_of_ble_eq_true rfl), (Nat.le_of_ble_eq_true rfl)⟩ (q0 := 0) (ci := 7) rfl rfl rfl (Nat.le_of_ble_eq_true rfl) dL_start_3 ?_ ?_
  · rintro E9 u9 ⟨j9, hk9, hE9, rfl⟩
    rcases j9 with _ | j9
    · obtain rfl : "java/lang/IllegalStateException" = E9 := Option.some.inj (show some "java/lang/IllegalStateException" = some E9 from hE9)
      refine VT.catch9 (E := "java/lang/IllegalStateException") (name := "java/lang/IllegalStateException") X hT hNc [] ⟨0, 8, 11, 15⟩ [] rfl (hp := 11) rfl (fun z hz => absurd hz List.not_mem_nil) (by decide) (by decide) gw_2_76 cast_ISE (fun q9 => ?_)
      refine V.astore_n (L' := [(2, .ref q9), (0, .ref (ad 0)), (1, .ref o)]) X dL_start_11 rfl hB9 (by decide) rfl ?_
      refine V.iconst (v := nI 1) X dL_start_12 rfl ?_
      exact V.iret (v := nI 1) X hE rfl rfl (Nat.le_of_ble_eq_true rfl) (Nat.le_of_ble_eq_true rfl) (pW_x (j := 0) hk9 rfl) dL_start_13
    · cases (show (none : Option String) = some E9 from hE9)
  · rintro v9 u9 ⟨hk9, rfl, rfl⟩
    refine V.i2l (v := (nI (cntR (sST S))).toInt64) X dL_start_6 rfl ?_
    refine V.outL (q0 := 33) (Wd9 := wC ad cy (sST S) ++ cL9 cy o (vp_updL f 0 ((nI (cntR (sST S))).toInt64)) :: F) X rfl rfl dL_start_7 ?_
    refine V.goto (tgt := 14) X dL_start_8 (by decide) ?_
    refine V.iconst (v := nI 0) X dL_start_14 rfl ?_
    exact V.iret (v := nI 0) X hE rfl rfl (Nat.le_of_ble_eq_true rfl) (Nat.le_of_ble_eq_true rfl) (pW_r hk9 rfl rfl) dL_start_15
set_option maxRecDepth 20000 in
set_option maxHeartbeats 4000000 in
theorem c_L_close (l : Launch) (D : va_G) (cy : Nat → ClassId) (ad : Nat → Nat) (S : St) (o : Nat) (f : Nat → Int64) (F : va_W) (hI : Inv S) : CtrH l D cy yL_close (.codeWith yL_close cL_close 3 (some .int) [(0, 8, 11, 15)]) ({ frames := 14, cells := 8, slots := 48, locals := 460 } : Room) [.ref (ad 0), .ref o] (wC ad cy S ++ cL9 cy o f :: F) (pW ad cy o f F (kCL S) ((nI (rN S 45 0)).toInt64) (fun T => T = (sB S 41 (fun _ => false))) (fun T => T = S)) := by
  refine CtrH.of (by decide) (Nat.le_of_ble_eq_true rfl) ?_
  intro M X hE hT hNc hB9
  replace X : VX l D M cy cL_close "RunbookerLaw" (some FieldType.int) ({ frames := 14, cells := 8, slots := 48, locals := 460 } : Room) := X
  show V l D M 0 0 (wC ad cy S ++ cL9 cy o f :: F) [(0, .ref (ad 0)), (1, .ref o)] 0 []
  refine V.aload_n X dL_close_0 rfl ?_
  refine V.iconst (v := nI 0) X dL_close_1 rfl ?_
  refine V.aload_n X dL_close_2 rfl ?_
  refine V.callV (C := "Runbooker") [] X (c_X5_close l D cy ad S (cL9 cy o f :: F) hI) mv_X5_close gw_3_71 ⟨⟨(Nat.le_of_ble_eq_true rfl), (Nat.le_of_ble_eq_true rfl)⟩, (Nat.le_of_ble_eq_true rfl), (Nat.le_of_ble_eq_true rfl)⟩ (q0 := 0) (ci := 7) rfl rfl rfl (Nat.le_of_ble_eq_true rfl) dL_close_3 ?_ ?_
  · rintro E9 u9 ⟨j9, hk9, hE9, rfl⟩
    rcases j9 with _ | j9
    · obtain rfl : "java/lang/IllegalStateException" = E9 := Option.some.inj (show some "java/lang/IllegalStateException" = some E9 from hE9)
      refine VT.catch9 (E := "java/lang/IllegalStateException") (name := "java/lang/IllegalStateException") X hT hNc [] ⟨0, 8, 11, 15⟩ [] rfl (hp := 11) rfl (fun z hz => absurd hz List.not_mem_nil) (by decide) (by decide) gw_2_76 cast_ISE (fun q9 => ?_)
      refine V.astore_n (L' := [(2, .ref q9), (0, .ref (ad 0)), (1, .ref o)]) X dL_close_11 rfl hB9 (by decide) rfl ?_
      refine V.iconst (v := nI 1) X dL_close_12 rfl ?_
      exact V.iret (v := nI 1) X hE rfl rfl (Nat.le_of_ble_eq_true rfl) (Nat.le_of_ble_eq_true rfl) (pW_x (j := 0) hk9 rfl) dL_close_13
    · cases (show (none : Option String) = some E9 from hE9)
  · rintro v9 u9 ⟨hk9, rfl, rfl⟩
    refine V.i2l (v := (nI (rN S 45 0)).toInt64) X dL_close_6 rfl ?_
    refine V.outL (q0 := 33) (Wd9 := wC ad cy (sB S 41 (fun _ => false)) ++ cL9 cy o (vp_updL f 0 ((nI (rN S 45 0)).toInt64)) :: F) X rfl rfl dL_close_7 ?_
    refine V.goto (tgt := 14) X dL_close_8 (by decide) ?_
    refine V.iconst (v := nI 0) X dL_close_14 rfl ?_
    exact V.iret (v := nI 0) X hE rfl rfl (Nat.le_of_ble_eq_true rfl) (Nat.le_of_ble_eq_true rfl) (pW_r hk9 rfl rfl) dL_close_15
set_option maxRecDepth 20000 in
set_option maxHeartbeats 4000000 in
theorem c_L_begin (l : Launch) (D : va_G) (cy : Nat → ClassId) (ad : Nat → Nat) (S : St) (o : Nat) (f : Nat → Int64) (F : va_W) (x : Int32) (y : Int32) (hI : Inv S) (hR : Rm S) : CtrH l D cy yL_begin (.codeWith yL_begin cL_begin 5 (some .int) [(0, 10, 13, 21), (0, 10, 17, 15), (0, 10, 21, 51)]) ({ frames := 14, cells := 8, slots := 48, locals := 460 } : Room) [.ref (ad 0), .int x, .int y, .ref o] (wC ad cy S ++ cL9 cy o f :: F) (pW ad cy o f F (kBG S x y) ((nI (rN S 40 0 + 2 * rN S 11 (ix y))).toInt64) (fun T => T = (sBG S x y)) (fun T => T = S)) := by
  refine CtrH.of (by decide) (Nat.le_of_ble_eq_true rfl) ?_
  intro M X hE hT hNc hB9
  replace X : VX l D M cy cL_begin "RunbookerLaw" (some FieldType.int) ({ frames := 14, cells := 8, slots := 48, locals := 460 } : Room) := X
  show V l D M 0 0 (wC ad cy S ++ cL9 cy o f :: F) [(0, .ref (ad 0)), (1, .int x), (2, .int y), (3, .ref o)] 0 []
  refine V.aload_n X dL_begin_0 rfl ?_
  refine V.iconst (v := nI 0) X dL_begin_1 rfl ?_
  refine V.aload_n X dL_begin_2 rfl ?_
  refine V.iload_n X dL_begin_3 rfl ?_
  refine V.iload_n X dL_begin_4 rfl ?_
  refine V.callV (C := "Runbooker") [.int x, .int y] X (c_X5_begin l D cy ad S (cL9 cy o f :: F) x y hI hR) mv_X5_begin gw_3_89 ⟨⟨(Nat.le_of_ble_eq_true rfl), (Nat.le_of_ble_eq_true rfl)⟩, (Nat.le_of_ble_eq_true rfl), (Nat.le_of_ble_eq_true rfl)⟩ (q0 := 0) (ci := 7) rfl rfl rfl (Nat.le_of_ble_eq_true rfl) dL_begin_5 ?_ ?_
  · rintro E9 u9 ⟨j9, hk9, hE9, rfl⟩
    rcases j9 with _ | _ | _ | j9
    · obtain rfl : "java/util/NoSuchElementException" = E9 := Option.some.inj (show some "java/util/NoSuchElementException" = some E9 from hE9)
      refine VT.catch9 (E := "java/util/NoSuchElementException") (name := "java/util/NoSuchElementException") X hT hNc [] ⟨0, 10, 13, 21⟩ [⟨0, 10, 17, 15⟩, ⟨0, 10, 21, 51⟩] rfl (hp := 13) rfl (fun z hz => absurd hz List.not_mem_nil) (by decide) (by decide) gw_2_174 cast_NSE (fun q9 => ?_)
      refine V.astore (L' := [(4, .ref q9), (0, .ref (ad 0)), (1, .int x), (2, .int y), (3, .ref o)]) X dL_begin_13 hB9 (by decide) rfl ?_
      refine V.iconst (v := nI 1) X dL_begin_15 rfl ?_
      exact V.iret (v := nI 1) X hE rfl rfl (Nat.le_of_ble_eq_true rfl) (Nat.le_of_ble_eq_true rfl) (pW_x (j := 0) hk9 rfl) dL_begin_16
    · obtain rfl : "java/lang/IllegalStateException" = E9 := Option.some.inj (show some "java/lang/IllegalStateException" = some E9 from hE9)
      refine VT.catch9 (E := "java/lang/IllegalStateException") (name := "java/lang/IllegalStateException") X hT hNc [⟨0, 10, 13, 21⟩] ⟨0, 10, 17, 15⟩ [⟨0, 10, 21, 51⟩] rfl (hp := 17) rfl (fun z hz => by simp only [List.mem_cons, List.not_mem_nil, or_false] at hz; rcases hz with rfl <;> first | exact ⟨by decide, _, gw_2_174, by decide +kernel⟩) (by decide) (by decide) gw_2_76 cast_ISE (fun q9 => ?_)
      refine V.astore (L' := [(4, .ref q9), (0, .ref (ad 0)), (1, .int x), (2, .int y), (3, .ref o)]) X dL_begin_17 hB9 (by decide) rfl ?_
      refine V.iconst (v := nI 2) X dL_begin_19 rfl ?_
      exact V.iret (v := nI 2) X hE rfl rfl (Nat.le_of_ble_eq_true rfl) (Nat.le_of_ble_eq_true rfl) (pW_x (j := 1) hk9 rfl) dL_begin_20
    · obtain rfl : "java/lang/UnsupportedOperationException" = E9 := Option.some.inj (show some "java/lang/UnsupportedOperationException" = some E9 from hE9)
      refine VT.catch9 (E := "java/lang/UnsupportedOperationException") (name := "java/lang/UnsupportedOperationException") X hT hNc [⟨0, 10, 13, 21⟩, ⟨0, 10, 17, 15⟩] ⟨0, 10, 21, 51⟩ [] rfl (hp := 21) rfl (fun z hz => by simp only [List.mem_cons, List.not_mem_nil, or_false] at hz; rcases hz with rfl | rfl <;> first | exact ⟨by decide, _, gw_2_174, by decide +kernel⟩ | exact ⟨by decide, _, gw_2_76, by decide +kernel⟩) (by decide) (by decide) gw_3_88 cast_UOE (fun q9 => ?_)
      refine V.astore (L' := [(4, .ref q9), (0, .ref (ad 0)), (1, .int x), (2, .int y), (3, .ref o)]) X dL_begin_21 hB9 (by decide) rfl ?_
      refine V.iconst (v := nI 3) X dL_begin_23 rfl ?_
      exact V.iret (v := nI 3) X hE rfl rfl (Nat.le_of_ble_eq_true rfl) (Nat.le_of_ble_eq_true rfl) (pW_x (j := 2) hk9 rfl) dL_begin_24
    · cases (show (none : Option String) = some E9 from hE9)
  · rintro v9 u9 ⟨hk9, rfl, rfl⟩
    refine V.i2l (v := (nI (rN S 40 0 + 2 * rN S 11 (ix y))).toInt64) X dL_begin_8 rfl ?_
    refine V.outL (q0 := 33) (Wd9 := wC ad cy (sBG S x y) ++ cL9 cy o (vp_updL f 0 ((nI (rN S 40 0 + 2 * rN S 11 (ix y))).toInt64)) :: F) X rfl rfl dL_begin_9 ?_
    refine V.goto (tgt := 25) X dL_begin_10 (by decide) ?_
    refine V.iconst (v := nI 0) X dL_begin_25 rfl ?_
    exact V.iret (v := nI 0) X hE rfl rfl (Nat.le_of_ble_eq_true rfl) (Nat.le_of_ble_eq_true rfl) (pW_r hk9 rfl rfl) dL_begin_26
set_option maxRecDepth 20000 in
set_option maxHeartbeats 4000000 in
theorem c_L_finish (l : Launch) (D : va_G) (cy : Nat → ClassId) (ad : Nat → Nat) (S : St) (o : Nat) (f : Nat → Int64) (F : va_W) (x : Int32) (b : Bool) (hI : Inv S) (hR : Rm S) : CtrH l D cy yL_finish (.codeWith yL_finish cL_finish 5 (some .int) [(0, 10, 13, 21), (0, 10, 17, 15), (0, 10, 21, 51)]) ({ frames := 14, cells := 8, slots := 48, locals := 460 } : Room) [.ref (ad 0), .int x, .int (b2i b), .ref o] (wC ad cy S ++ cL9 cy o f :: F) (pW ad cy o f F (kFN S x) ((c2i (rC (sFN S x b) 22 (wkOf S x))).toInt64) (fun T => T = (sFN S x b)) (fun T => T = S)) := by
  refine CtrH.of (by decide) (Nat.le_of_ble_eq_true rfl) ?_
  intro M X hE hT hNc hB9
  replace X : VX l D M cy cL_finish "RunbookerLaw" (some FieldType.int) ({ frames := 14, cells := 8, slots := 48, locals := 460 } : Room) := X
  show V l D M 0 0 (wC ad cy S ++ cL9 cy o f :: F) [(0, .ref (ad 0)), (1, .int x), (2, .int (b2i b)), (3, .ref o)] 0 []
  refine V.aload_n X dL_finish_0 rfl ?_
  refine V.iconst (v := nI 0) X dL_finish_1 rfl ?_
  refine V.aload_n X dL_finish_2 rfl ?_
  refine V.iload_n X dL_finish_3 rfl ?_
  refine V.iload_n X dL_finish_4 rfl ?_
  refine V.callV (C := "Runbooker") [.int x, .int (b2i b)] X (c_X5_finish l D cy ad S (cL9 cy o f :: F) x b hI hR) mv_X5_finish gw_3_137 ⟨⟨(Nat.le_of_ble_eq_true rfl), (Nat.le_of_ble_eq_true rfl)⟩, (Nat.le_of_ble_eq_true rfl), (Nat.le_of_ble_eq_true rfl)⟩ (q0 := 0) (ci := 7) rfl rfl rfl (Nat.le_of_ble_eq_true rfl) dL_finish_5 ?_ ?_
  · rintro E9 u9 ⟨j9, hk9, hE9, rfl⟩
    rcases j9 with _ | _ | _ | j9
    · obtain rfl : "java/util/NoSuchElementException" = E9 := Option.some.inj (show some "java/util/NoSuchElementException" = some E9 from hE9)
      refine VT.catch9 (E := "java/util/NoSuchElementException") (name := "java/util/NoSuchElementException") X hT hNc [] ⟨0, 10, 13, 21⟩ [⟨0, 10, 17, 15⟩, ⟨0, 10, 21, 51⟩] rfl (hp := 13) rfl (fun z hz => absurd hz List.not_mem_nil) (by decide) (by decide) gw_2_174 cast_NSE (fun q9 => ?_)
      refine V.astore (L' := [(4, .ref q9), (0, .ref (ad 0)), (1, .int x), (2, .int (b2i b)), (3, .ref o)]) X dL_finish_13 hB9 (by decide) rfl ?_
      refine V.iconst (v := nI 1) X dL_finish_15 rfl ?_
      exact V.iret (v := nI 1) X hE rfl rfl (Nat.le_of_ble_eq_true rfl) (Nat.le_of_ble_eq_true rfl) (pW_x (j := 0) hk9 rfl) dL_finish_16
    · obtain rfl : "java/lang/IllegalStateException" = E9 := Option.some.inj (show some "java/lang/IllegalStateException" = some E9 from hE9)
      refine VT.catch9 (E := "java/lang/IllegalStateException") (name := "java/lang/IllegalStateException") X hT hNc [⟨0, 10, 13, 21⟩] ⟨0, 10, 17, 15⟩ [⟨0, 10, 21, 51⟩] rfl (hp := 17) rfl (fun z hz => by simp only [List.mem_cons, List.not_mem_nil, or_false] at hz; rcases hz with rfl <;> first | exact ⟨by decide, _, gw_2_174, by decide +kernel⟩) (by decide) (by decide) gw_2_76 cast_ISE (fun q9 => ?_)
      refine V.astore (L' := [(4, .ref q9), (0, .ref (ad 0)), (1, .int x), (2, .int (b2i b)), (3, .ref o)]) X dL_finish_17 hB9 (by decide) rfl ?_
      refine V.iconst (v := nI 2) X dL_finish_19 rfl ?_
      exact V.iret (v := nI 2) X hE rfl rfl (Nat.le_of_ble_eq_true rfl) (Nat.le_of_ble_eq_true rfl) (pW_x (j := 1) hk9 rfl) dL_finish_20
    · obtain rfl : "java/lang/UnsupportedOperationException" = E9 := Option.some.inj (show some "java/lang/UnsupportedOperationException" = some E9 from hE9)
      refine VT.catch9 (E := "java/lang/UnsupportedOperationException") (name := "java/lang/UnsupportedOperationException") X hT hNc [⟨0, 10, 13, 21⟩, ⟨0, 10, 17, 15⟩] ⟨0, 10, 21, 51⟩ [] rfl (hp := 21) rfl (fun z hz => by simp only [List.mem_cons, List.not_mem_nil, or_false] at hz; rcases hz with rfl | rfl <;> first | exact ⟨by decide, _, gw_2_174, by decide +kernel⟩ | exact ⟨by decide, _, gw_2_76, by decide +kernel⟩) (by decide) (by decide) gw_3_88 cast_UOE (fun q9 => ?_)
      refine V.astore (L' := [(4, .ref q9), (0, .ref (ad 0)), (1, .int x), (2, .int (b2i b)), (3, .ref o)]) X dL_finish_21 hB9 (by decide) rfl ?_
      refine V.iconst (v := nI 3) X dL_finish_23 rfl ?_
      exact V.iret (v := nI 3) X hE rfl rfl (Nat.le_of_ble_eq_true rfl) (Nat.le_of_ble_eq_true rfl) (pW_x (j := 2) hk9 rfl) dL_finish_24
    · cases (show (none : Option String) = some E9 from hE9)
  · rintro v9 u9 ⟨hk9, rfl, rfl⟩
    refine V.i2l (v := (c2i (rC (sFN S x b) 22 (wkOf S x))).toInt64) X dL_finish_8 rfl ?_
    refine V.outL (q0 := 33) (Wd9 := wC ad cy (sFN S x b) ++ cL9 cy o (vp_updL f 0 ((c2i (rC (sFN S x b) 22 (wkOf S x))).toInt64)) :: F) X rfl rfl dL_finish_9 ?_
    refine V.goto (tgt := 25) X dL_finish_10 (by decide) ?_
    refine V.iconst (v := nI 0) X dL_finish_25 rfl ?_
    exact V.iret (v := nI 0) X hE rfl rfl (Nat.le_of_ble_eq_true rfl) (Nat.le_of_ble_eq_true rfl) (pW_r hk9 rfl rfl) dL_finish_26
set_option maxRecDepth 20000 in
set_option maxHeartbeats 4000000 in
theorem c_L_handOver (l : Launch) (D : va_G) (cy : Nat → ClassId) (ad : Nat → Nat) (S : St) (o : Nat) (f : Nat → Int64) (F : va_W) (x : Int32) (y : Int32) (hI : Inv S) (hR : Rm S) : CtrH l D cy yL_handOver (.codeWith yL_handOver cL_handOver 5 (some .int) [(0, 10, 13, 21), (0, 10, 17, 13), (0, 10, 21, 15), (0, 10, 25, 51)]) ({ frames := 14, cells := 8, slots := 48, locals := 460 } : Room) [.ref (ad 0), .int x, .int y, .ref o] (wC ad cy S ++ cL9 cy o f :: F) (pW ad cy o f F (kHO S x y) ((nI (rN S 40 0 + 10)).toInt64) (fun T => T = (sHO S x y)) (fun T => T = S)) := by
  refine CtrH.of (by decide) (Nat.le_of_ble_eq_true rfl) ?_
  intro M X hE hT hNc hB9
  replace X : VX l D M cy cL_handOver "RunbookerLaw" (some FieldType.int) ({ frames := 14, cells := 8, slots := 48, locals := 460 } : Room) := X
  show V l D M 0 0 (wC ad cy S ++ cL9 cy o f :: F) [(0, .ref (ad 0)), (1, .int x), (2, .int y), (3, .ref o)] 0 []
  refine V.aload_n X dL_handOver_0 rfl ?_
  refine V.iconst (v := nI 0) X dL_handOver_1 rfl ?_
  refine V.aload_n X dL_handOver_2 rfl ?_
  refine V.iload_n X dL_handOver_3 rfl ?_
  refine V.iload_n X dL_handOver_4 rfl ?_
  refine V.callV (C := "Runbooker") [.int x, .int y] X (c_X5_handOver l D cy ad S (cL9 cy o f :: F) x y hI hR) mv_X5_handOver gw_3_166 ⟨⟨(Nat.le_of_ble_eq_true rfl), (Nat.le_of_ble_eq_true rfl)⟩, (Nat.le_of_ble_eq_true rfl), (Nat.le_of_ble_eq_true rfl)⟩ (q0 := 0) (ci := 7) rfl rfl rfl (Nat.le_of_ble_eq_true rfl) dL_handOver_5 ?_ ?_
  · rintro E9 u9 ⟨j9, hk9, hE9, rfl⟩
    rcases j9 with _ | _ | _ | _ | j9
    · obtain rfl : "java/util/NoSuchElementException" = E9 := Option.some.inj (show some "java/util/NoSuchElementException" = some E9 from hE9)
      refine VT.catch9 (E := "java/util/NoSuchElementException") (name := "java/util/NoSuchElementException") X hT hNc [] ⟨0, 10, 13, 21⟩ [⟨0, 10, 17, 13⟩, ⟨0, 10, 21, 15⟩, ⟨0, 10, 25, 51⟩] rfl (hp := 13) rfl (fun z hz => absurd hz List.not_mem_nil) (by decide) (by decide) gw_2_174 cast_NSE (fun q9 => ?_)
      refine V.astore (L' := [(4, .ref q9), (0, .ref (ad 0)), (1, .int x), (2, .int y), (3, .ref o)]) X dL_handOver_13 hB9 (by decide) rfl ?_
      refine V.iconst (v := nI 1) X dL_handOver_15 rfl ?_
      exact V.iret (v := nI 1) X hE rfl rfl (Nat.le_of_ble_eq_true rfl) (Nat.le_of_ble_eq_true rfl) (pW_x (j := 0) hk9 rfl) dL_handOver_16
    · obtain rfl : "java/lang/IllegalArgumentException" = E9 := Option.some.inj (show some "java/lang/IllegalArgumentException" = some E9 from hE9)
      refine VT.catch9 (E := "java/lang/IllegalArgumentException") (name := "java/lang/IllegalArgumentException") X hT hNc [⟨0, 10, 13, 21⟩] ⟨0, 10, 17, 13⟩ [⟨0, 10, 21, 15⟩, ⟨0, 10, 25, 51⟩] rfl (hp := 17) rfl (fun z hz => by simp only [List.mem_cons, List.not_mem_nil, or_false] at hz; rcases hz with rfl <;> first | exact ⟨by decide, _, gw_2_174, by decide +kernel⟩) (by decide) (by decide) gw_2_75 cast_IAE (fun q9 => ?_)
      refine V.astore (L' := [(4, .ref q9), (0, .ref (ad 0)), (1, .int x), (2, .int y), (3, .ref o)]) X dL_handOver_17 hB9 (by decide) rfl ?_
      refine V.iconst (v := nI 2) X dL_handOver_19 rfl ?_
      exact V.iret (v := nI 2) X hE rfl rfl (Nat.le_of_ble_eq_true rfl) (Nat.le_of_ble_eq_true rfl) (pW_x (j := 1) hk9 rfl) dL_handOver_20
    · obtain rfl : "java/lang/IllegalStateException" = E9 := Option.some.inj (show some "java/lang/IllegalStateException" = some E9 from hE9)
      refine VT.catch9 (E := "java/lang/IllegalStateException") (name := "java/lang/IllegalStateException") X hT hNc [⟨0, 10, 13, 21⟩, ⟨0, 10, 17, 13⟩] ⟨0, 10, 21, 15⟩ [⟨0, 10, 25, 51⟩] rfl (hp := 21) rfl (fun z hz => by simp only [List.mem_cons, List.not_mem_nil, or_false] at hz; rcases hz with rfl | rfl <;> first | exact ⟨by decide, _, gw_2_174, by decide +kernel⟩ | exact ⟨by decide, _, gw_2_75, by decide +kernel⟩) (by decide) (by decide) gw_2_76 cast_ISE (fun q9 => ?_)
      refine V.astore (L' := [(4, .ref q9), (0, .ref (ad 0)), (1, .int x), (2, .int y), (3, .ref o)]) X dL_handOver_21 hB9 (by decide) rfl ?_
      refine V.iconst (v := nI 3) X dL_handOver_23 rfl ?_
      exact V.iret (v := nI 3) X hE rfl rfl (Nat.le_of_ble_eq_true rfl) (Nat.le_of_ble_eq_true rfl) (pW_x (j := 2) hk9 rfl) dL_handOver_24
    · obtain rfl : "java/lang/UnsupportedOperationException" = E9 := Option.some.inj (show some "java/lang/UnsupportedOperationException" = some E9 from hE9)
      refine VT.catch9 (E := "java/lang/UnsupportedOperationException") (name := "java/lang/UnsupportedOperationException") X hT hNc [⟨0, 10, 13, 21⟩, ⟨0, 10, 17, 13⟩, ⟨0, 10, 21, 15⟩] ⟨0, 10, 25, 51⟩ [] rfl (hp := 25) rfl (fun z hz => by simp only [List.mem_cons, List.not_mem_nil, or_false] at hz; rcases hz with rfl | rfl | rfl <;> first | exact ⟨by decide, _, gw_2_174, by decide +kernel⟩ | exact ⟨by decide, _, gw_2_75, by decide +kernel⟩ | exact ⟨by decide, _, gw_2_76, by decide +kernel⟩) (by decide) (by decide) gw_3_88 cast_UOE (fun q9 => ?_)
      refine V.astore (L' := [(4, .ref q9), (0, .ref (ad 0)), (1, .int x), (2, .int y), (3, .ref o)]) X dL_handOver_25 hB9 (by decide) rfl ?_
      refine V.iconst (v := nI 4) X dL_handOver_27 rfl ?_
      exact V.iret (v := nI 4) X hE rfl rfl (Nat.le_of_ble_eq_true rfl) (Nat.le_of_ble_eq_true rfl) (pW_x (j := 3) hk9 rfl) dL_handOver_28
    · cases (show (none : Option String) = some E9 from hE9)
  · rintro v9 u9 ⟨hk9, rfl, rfl⟩
    refine V.i2l (v := (nI (rN S 40 0 + 10)).toInt64) X dL_handOver_8 rfl ?_
    refine V.outL (q0 := 33) (Wd9 := wC ad cy (sHO S x y) ++ cL9 cy o (vp_updL f 0 ((nI (rN S 40 0 + 10)).toInt64)) :: F) X rfl rfl dL_handOver_9 ?_
    refine V.goto (tgt := 29) X dL_handOver_10 (by decide) ?_
    refine V.iconst (v := nI 0) X dL_handOver_29 rfl ?_
    exact V.iret (v := nI 0) X hE rfl rfl (Nat.le_of_ble_eq_true rfl) (Nat.le_of_ble_eq_true rfl) (pW_r hk9 rfl rfl) dL_handOver_30
set_option maxRecDepth 20000 in
set_option maxHeartbeats 4000000 in
theorem c_L_undo (l : Launch) (D : va_G) (cy : Nat → ClassId) (ad : Nat → Nat) (S : St) (o : Nat) (f : Nat → Int64) (F : va_W) (x : Int32) (hI : Inv S) (hR : Rm S) : CtrH l D cy yL_undo (.codeWith yL_undo cL_undo 4 (some .int) [(0, 9, 12, 21), (0, 9, 15, 15), (0, 9, 18, 51)]) ({ frames := 14, cells := 8, slots := 48, locals := 460 } : Room) [.ref (ad 0), .int x, .ref o] (wC ad cy S ++ cL9 cy o f :: F) (pW ad cy o f F (kUD S x) ((nI (nUD S x)).toInt64) (fun T => T = (undS S (nUD S x))) (fun T => T = S)) := by
  refine CtrH.of (by decide) (Nat.le_of_ble_eq_true rfl) ?_
  intro M X hE hT hNc hB9
  replace X : VX l D M cy cL_undo "RunbookerLaw" (some FieldType.int) ({ frames := 14, cells := 8, slots := 48, locals := 460 } : Room) := X
  show V l D M 0 0 (wC ad cy S ++ cL9 cy o f :: F) [(0, .ref (ad 0)), (1, .int x), (2, .ref o)] 0 []
  refine V.aload_n X dL_undo_0 rfl ?_
  refine V.iconst (v := nI 0) X dL_undo_1 rfl ?_
  refine V.aload_n X dL_undo_2 rfl ?_
  refine V.iload_n X dL_undo_3 rfl ?_
  refine V.callV (C := "Runbooker") [.int x] X (c_X5_undo l D cy ad S (cL9 cy o f :: F) x hI hR) mv_X5_undo gw_3_184 ⟨⟨(Nat.le_of_ble_eq_true rfl), (Nat.le_of_ble_eq_true rfl)⟩, (Nat.le_of_ble_eq_true rfl), (Nat.le_of_ble_eq_true rfl)⟩ (q0 := 0) (ci := 7) rfl rfl rfl (Nat.le_of_ble_eq_true rfl) dL_undo_4 ?_ ?_
  · rintro E9 u9 ⟨j9, hk9, hE9, rfl⟩
    rcases j9 with _ | _ | _ | j9
    · obtain rfl : "java/util/NoSuchElementException" = E9 := Option.some.inj (show some "java/util/NoSuchElementException" = some E9 from hE9)
      refine VT.catch9 (E := "java/util/NoSuchElementException") (name := "java/util/NoSuchElementException") X hT hNc [] ⟨0, 9, 12, 21⟩ [⟨0, 9, 15, 15⟩, ⟨0, 9, 18, 51⟩] rfl (hp := 12) rfl (fun z hz => absurd hz List.not_mem_nil) (by decide) (by decide) gw_2_174 cast_NSE (fun q9 => ?_)
      refine V.astore_n (L' := [(3, .ref q9), (0, .ref (ad 0)), (1, .int x), (2, .ref o)]) X dL_undo_12 rfl hB9 (by decide) rfl ?_
      refine V.iconst (v := nI 1) X dL_undo_13 rfl ?_
      exact V.iret (v := nI 1) X hE rfl rfl (Nat.le_of_ble_eq_true rfl) (Nat.le_of_ble_eq_true rfl) (pW_x (j := 0) hk9 rfl) dL_undo_14
    · obtain rfl : "java/lang/IllegalStateException" = E9 := Option.some.inj (show some "java/lang/IllegalStateException" = some E9 from hE9)
      refine VT.catch9 (E := "java/lang/IllegalStateException") (name := "java/lang/IllegalStateException") X hT hNc [⟨0, 9, 12, 21⟩] ⟨0, 9, 15, 15⟩ [⟨0, 9, 18, 51⟩] rfl (hp := 15) rfl (fun z hz => by simp only [List.mem_cons, List.not_mem_nil, or_false] at hz; rcases hz with rfl <;> first | exact ⟨by decide, _, gw_2_174, by decide +kernel⟩) (by decide) (by decide) gw_2_76 cast_ISE (fun q9 => ?_)
      refine V.astore_n (L' := [(3, .ref q9), (0, .ref (ad 0)), (1, .int x), (2, .ref o)]) X dL_undo_15 rfl hB9 (by decide) rfl ?_
      refine V.iconst (v := nI 2) X dL_undo_16 rfl ?_
      exact V.iret (v := nI 2) X hE rfl rfl (Nat.le_of_ble_eq_true rfl) (Nat.le_of_ble_eq_true rfl) (pW_x (j := 1) hk9 rfl) dL_undo_17
    · obtain rfl : "java/lang/UnsupportedOperationException" = E9 := Option.some.inj (show some "java/lang/UnsupportedOperationException" = some E9 from hE9)
      refine VT.catch9 (E := "java/lang/UnsupportedOperationException") (name := "java/lang/UnsupportedOperationException") X hT hNc [⟨0, 9, 12, 21⟩, ⟨0, 9, 15, 15⟩] ⟨0, 9, 18, 51⟩ [] rfl (hp := 18) rfl (fun z hz => by simp only [List.mem_cons, List.not_mem_nil, or_false] at hz; rcases hz with rfl | rfl <;> first | exact ⟨by decide, _, gw_2_174, by decide +kernel⟩ | exact ⟨by decide, _, gw_2_76, by decide +kernel⟩) (by decide) (by decide) gw_3_88 cast_UOE (fun q9 => ?_)
      refine V.astore_n (L' := [(3, .ref q9), (0, .ref (ad 0)), (1, .int x), (2, .ref o)]) X dL_undo_18 rfl hB9 (by decide) rfl ?_
      refine V.iconst (v := nI 3) X dL_undo_19 rfl ?_
      exact V.iret (v := nI 3) X hE rfl rfl (Nat.le_of_ble_eq_true rfl) (Nat.le_of_ble_eq_true rfl) (pW_x (j := 2) hk9 rfl) dL_undo_20
    · cases (show (none : Option String) = some E9 from hE9)
  · rintro v9 u9 ⟨hk9, rfl, rfl⟩
    refine V.i2l (v := (nI (nUD S x)).toInt64) X dL_undo_7 rfl ?_
    refine V.outL (q0 := 33) (Wd9 := wC ad cy (undS S (nUD S x)) ++ cL9 cy o (vp_updL f 0 ((nI (nUD S x)).toInt64)) :: F) X rfl rfl dL_undo_8 ?_
    refine V.goto (tgt := 21) X dL_undo_9 (by decide) ?_
    refine V.iconst (v := nI 0) X dL_undo_21 rfl ?_
    exact V.iret (v := nI 0) X hE rfl rfl (Nat.le_of_ble_eq_true rfl) (Nat.le_of_ble_eq_true rfl) (pW_r hk9 rfl rfl) dL_undo_22
set_option maxRecDepth 20000 in
set_option maxHeartbeats 4000000 in
theorem c_L_pass (l : Launch) (D : va_G) (cy : Nat → ClassId) (ad : Nat → Nat) (S : St) (o : Nat) (f : Nat → Int64) (F : va_W) (x : Int32) (hI : Inv S) (hR : Rm S) : CtrH l D cy yL_pass (.codeWith yL_pass cL_pass 4 (some .int) [(0, 9, 12, 13)]) ({ frames := 16, cells := 8, slots := 48, locals := 560 } : Room) [.ref (ad 0), .int x, .ref o] (wC ad cy S ++ cL9 cy o f :: F) (pW ad cy o f F (kPS x) ((nI (pmXT (sN S 62 (fun _ => 0)) (ix x))).toInt64) (fun T => T = (pmXI (sN S 62 (fun _ => 0)) (ix x))) (fun T => T = S)) := by
  refine CtrH.of (by decide) (Nat.le_of_ble_eq_true rfl) ?_
  intro M X hE hT hNc hB9
  replace X : VX l D M cy cL_pass "RunbookerLaw" (some FieldType.int) ({ frames := 16, cells := 8, slots := 48, locals := 560 } : Room) := X
  show V l D M 0 0 (wC ad cy S ++ cL9 cy o f :: F) [(0, .ref (ad 0)), (1, .int x), (2, .ref o)] 0 []
  refine V.aload_n X dL_pass_0 rfl ?_
  refine V.iconst (v := nI 0) X dL_pass_1 rfl ?_
  refine V.aload_n X dL_pass_2 rfl ?_
  refine V.iload_n X dL_pass_3 rfl ?_
  refine V.callV (C := "Runbooker") [.int x] X (c_X5_pass l D cy ad S (cL9 cy o f :: F) x hI hR) mv_X5_pass gw_3_210 ⟨⟨(Nat.le_of_ble_eq_true rfl), (Nat.le_of_ble_eq_true rfl)⟩, (Nat.le_of_ble_eq_true rfl), (Nat.le_of_ble_eq_true rfl)⟩ (q0 := 0) (ci := 7) rfl rfl rfl (Nat.le_of_ble_eq_true rfl) dL_pass_4 ?_ ?_
  · rintro E9 u9 ⟨j9, hk9, hE9, rfl⟩
    rcases j9 with _ | j9
    · obtain rfl : "java/lang/IllegalArgumentException" = E9 := Option.some.inj (show some "java/lang/IllegalArgumentException" = some E9 from hE9)
      refine VT.catch9 (E := "java/lang/IllegalArgumentException") (name := "java/lang/IllegalArgumentException") X hT hNc [] ⟨0, 9, 12, 13⟩ [] rfl (hp := 12) rfl (fun z hz => absurd hz List.not_mem_nil) (by decide) (by decide) gw_2_75 cast_IAE (fun q9 => ?_)
      refine V.astore_n (L' := [(3, .ref q9), (0, .ref (ad 0)), (1, .int x), (2, .ref o)]) X dL_pass_12 rfl hB9 (by decide) rfl ?_
      refine V.iconst (v := nI 1) X dL_pass_13 rfl ?_
      exact V.iret (v := nI 1) X hE rfl rfl (Nat.le_of_ble_eq_true rfl) (Nat.le_of_ble_eq_true rfl) (pW_x (j := 0) hk9 rfl) dL_pass_14
    · cases (show (none : Option String) = some E9 from hE9)
  · rintro v9 u9 ⟨hk9, rfl, rfl⟩
    refine V.i2l (v := (nI (pmXT (sN S 62 (fun _ => 0)) (ix x))).toInt64) X dL_pass_7 rfl ?_
    refine V.outL (q0 := 33) (Wd9 := wC ad cy (pmXI (sN S 62 (fun _ => 0)) (ix x)) ++ cL9 cy o (vp_updL f 0 ((nI (pmXT (sN S 62 (fun _ => 0)) (ix x))).toInt64)) :: F) X rfl rfl dL_pass_8 ?_
    refine V.goto (tgt := 15) X dL_pass_9 (by decide) ?_
    refine V.iconst (v := nI 0) X dL_pass_15 rfl ?_
    exact V.iret (v := nI 0) X hE rfl rfl (Nat.le_of_ble_eq_true rfl) (Nat.le_of_ble_eq_true rfl) (pW_r hk9 rfl rfl) dL_pass_16
set_option maxRecDepth 20000 in
set_option maxHeartbeats 4000000 in
theorem c_L_isOnDuty (l : Launch) (D : va_G) (cy : Nat → ClassId) (ad : Nat → Nat) (S : St) (o : Nat) (f : Nat → Int64) (F : va_W) (x : Int32) (hI : Inv S) : CtrH l D cy yL_isOnDuty (.codeWith yL_isOnDuty cL_isOnDuty 4 (some .int) [(0, 16, 19, 21)]) ({ frames := 14, cells := 8, slots := 48, locals := 460 } : Room) [.ref (ad 0), .int x, .ref o] (wC ad cy S ++ cL9 cy o f :: F) (pW ad cy o f F (kP1 S x) (b2l (rB S 8 (ix x))) (fun T => T = S) (fun T => T = S)) := by
  refine CtrH.of (by decide) (Nat.le_of_ble_eq_true rfl) ?_
  intro M X hE hT hNc hB9
  replace X : VX l D M cy cL_isOnDuty "RunbookerLaw" (some FieldType.int) ({ frames := 14, cells := 8, slots := 48, locals := 460 } : Room) := X
  show V l D M 0 0 (wC ad cy S ++ cL9 cy o f :: F) [(0, .ref (ad 0)), (1, .int x), (2, .ref o)] 0 []
  refine V.aload_n X dL_isOnDuty_0 rfl ?_
  refine V.iconst (v := nI 0) X dL_isOnDuty_1 rfl ?_
  refine V.aload_n X dL_isOnDuty_2 rfl ?_
  refine V.iload_n X dL_isOnDuty_3 rfl ?_
  refine V.callV (C := "Runbooker") [.int x] X (c_X5_isOnDuty l D cy ad S (cL9 cy o f :: F) x hI) mv_X5_isOnDuty gw_4_7 ⟨⟨(Nat.le_of_ble_eq_true rfl), (Nat.le_of_ble_eq_true rfl)⟩, (Nat.le_of_ble_eq_true rfl), (Nat.le_of_ble_eq_true rfl)⟩ (q0 := 0) (ci := 7) rfl rfl rfl (Nat.le_of_ble_eq_true rfl) dL_isOnDuty_4 ?_ ?_
  · rintro E9 u9 ⟨j9, hk9, hE9, rfl⟩
    rcases j9 with _ | j9
    · obtain rfl : "java/util/NoSuchElementException" = E9 := Option.some.inj (show some "java/util/NoSuchElementException" = some E9 from hE9)
      refine VT.catch9 (E := "java/util/NoSuchElementException") (name := "java/util/NoSuchElementException") X hT hNc [] ⟨0, 16, 19, 21⟩ [] rfl (hp := 19) rfl (fun z hz => absurd hz List.not_mem_nil) (by decide) (by decide) gw_2_174 cast_NSE (fun q9 => ?_)
      refine V.astore_n (L' := [(3, .ref q9), (0, .ref (ad 0)), (1, .int x), (2, .ref o)]) X dL_isOnDuty_19 rfl hB9 (by decide) rfl ?_
      refine V.iconst (v := nI 1) X dL_isOnDuty_20 rfl ?_
      exact V.iret (v := nI 1) X hE rfl rfl (Nat.le_of_ble_eq_true rfl) (Nat.le_of_ble_eq_true rfl) (pW_x (j := 0) hk9 rfl) dL_isOnDuty_21
    · cases (show (none : Option String) = some E9 from hE9)
  · rintro v9 u9 ⟨hk9, rfl, rfl⟩
    refine V.if_eq (tgt := 14) X dL_isOnDuty_7 (by decide) b2i_0 b2i_n0 (fun (hb9 : (rB S 8 (ix x)) = false) => ?_) (fun (hb9 : (rB S 8 (ix x)) = true) => ?_)
    · refine V.lconst (v := 0) X dL_isOnDuty_14 rfl ?_
      refine V.outL (q0 := 33) (Wd9 := wC ad cy S ++ cL9 cy o (vp_updL f 0 0) :: F) X rfl rfl dL_isOnDuty_15 ?_
      refine V.goto (tgt := 22) X dL_isOnDuty_16 (by decide) ?_
      refine V.iconst (v := nI 0) X dL_isOnDuty_22 rfl ?_
      exact V.iret (v := nI 0) X hE rfl rfl (Nat.le_of_ble_eq_true rfl) (Nat.le_of_ble_eq_true rfl) (pW_r hk9 (by rw [hb9]; rfl) rfl) dL_isOnDuty_23
    · refine V.lconst (v := 1) X dL_isOnDuty_10 rfl ?_
      refine V.goto (tgt := 15) X dL_isOnDuty_11 (by decide) ?_
      refine V.outL (q0 := 33) (Wd9 := wC ad cy S ++ cL9 cy o (vp_updL f 0 1) :: F) X rfl rfl dL_isOnDuty_15 ?_
      refine V.goto (tgt := 22) X dL_isOnDuty_16 (by decide) ?_
      refine V.iconst (v := nI 0) X dL_isOnDuty_22 rfl ?_
      exact V.iret (v := nI 0) X hE rfl rfl (Nat.le_of_ble_eq_true rfl) (Nat.le_of_ble_eq_true rfl) (pW_r hk9 (by rw [hb9]; rfl) rfl) dL_isOnDuty_23
set_option maxRecDepth 20000 in
set_option maxHeartbeats 4000000 in
theorem c_L_hasRole (l : Launch) (D : va_G) (cy : Nat → ClassId) (ad : Nat → Nat) (S : St) (o : Nat) (f : Nat → Int64) (F : va_W) (x : Int32) (y : Int32) (hI : Inv S) : CtrH l D cy yL_hasRole (.codeWith yL_hasRole cL_hasRole 5 (some .int) [(0, 17, 20, 21), (0, 17, 24, 13)]) ({ frames := 14, cells := 8, slots := 48, locals := 460 } : Room) [.ref (ad 0), .int x, .int y, .ref o] (wC ad cy S ++ cL9 cy o f :: F) (pW ad cy o f F (kHR S x y) (b2l (hasBit (rI S 7 (ix x)) y)) (fun T => T = S) (fun T => T = S)) := by
  refine CtrH.of (by decide) (Nat.le_of_ble_eq_true rfl) ?_
  intro M X hE hT hNc hB9
  replace X : VX l D M cy cL_hasRole "RunbookerLaw" (some FieldType.int) ({ frames := 14, cells := 8, slots := 48, locals := 460 } : Room) := X
  show V l D M 0 0 (wC ad cy S ++ cL9 cy o f :: F) [(0, .ref (ad 0)), (1, .int x), (2, .int y), (3, .ref o)] 0 []
  refine V.aload_n X dL_hasRole_0 rfl ?_
  refine V.iconst (v := nI 0) X dL_hasRole_1 rfl ?_
  refine V.aload_n X dL_hasRole_2 rfl ?_
  refine V.iload_n X dL_hasRole_3 rfl ?_
  refine V.iload_n X dL_hasRole_4 rfl ?_
  refine V.callV (C := "Runbooker") [.int x, .int y] X (c_X5_hasRole l D cy ad S (cL9 cy o f :: F) x y hI) mv_X5_hasRole gw_4_14 ⟨⟨(Nat.le_of_ble_eq_true rfl), (Nat.le_of_ble_eq_true rfl)⟩, (Nat.le_of_ble_eq_true rfl), (Nat.le_of_ble_eq_true rfl)⟩ (q0 := 0) (ci := 7) rfl rfl rfl (Nat.le_of_ble_eq_true rfl) dL_hasRole_5 ?_ ?_
  · rintro E9 u9 ⟨j9, hk9, hE9, rfl⟩
    rcases j9 with _ | _ | j9
    · obtain rfl : "java/util/NoSuchElementException" = E9 := Option.some.inj (show some "java/util/NoSuchElementException" = some E9 from hE9)
      refine VT.catch9 (E := "java/util/NoSuchElementException") (name := "java/util/NoSuchElementException") X hT hNc [] ⟨0, 17, 20, 21⟩ [⟨0, 17, 24, 13⟩] rfl (hp := 20) rfl (fun z hz => absurd hz List.not_mem_nil) (by decide) (by decide) gw_2_174 cast_NSE (fun q9 => ?_)
      refine V.astore (L' := [(4, .ref q9), (0, .ref (ad 0)), (1, .int x), (2, .int y), (3, .ref o)]) X dL_hasRole_20 hB9 (by decide) rfl ?_
      refine V.iconst (v := nI 1) X dL_hasRole_22 rfl ?_
      exact V.iret (v := nI 1) X hE rfl rfl (Nat.le_of_ble_eq_true rfl) (Nat.le_of_ble_eq_true rfl) (pW_x (j := 0) hk9 rfl) dL_hasRole_23
    · obtain rfl : "java/lang/IllegalArgumentException" = E9 := Option.some.inj (show some "java/lang/IllegalArgumentException" = some E9 from hE9)
      refine VT.catch9 (E := "java/lang/IllegalArgumentException") (name := "java/lang/IllegalArgumentException") X hT hNc [⟨0, 17, 20, 21⟩] ⟨0, 17, 24, 13⟩ [] rfl (hp := 24) rfl (fun z hz => by simp only [List.mem_cons, List.not_mem_nil, or_false] at hz; rcases hz with rfl <;> first | exact ⟨by decide, _, gw_2_174, by decide +kernel⟩) (by decide) (by decide) gw_2_75 cast_IAE (fun q9 => ?_)
      refine V.astore (L' := [(4, .ref q9), (0, .ref (ad 0)), (1, .int x), (2, .int y), (3, .ref o)]) X dL_hasRole_24 hB9 (by decide) rfl ?_
      refine V.iconst (v := nI 2) X dL_hasRole_26 rfl ?_
      exact V.iret (v := nI 2) X hE rfl rfl (Nat.le_of_ble_eq_true rfl) (Nat.le_of_ble_eq_true rfl) (pW_x (j := 1) hk9 rfl) dL_hasRole_27
    · cases (show (none : Option String) = some E9 from hE9)
  · rintro v9 u9 ⟨hk9, rfl, rfl⟩
    refine V.if_eq (tgt := 15) X dL_hasRole_8 (by decide) b2i_0 b2i_n0 (fun (hb9 : (hasBit (rI S 7 (ix x)) y) = false) => ?_) (fun (hb9 : (hasBit (rI S 7 (ix x)) y) = true) => ?_)
    · refine V.lconst (v := 0) X dL_hasRole_15 rfl ?_
      refine V.outL (q0 := 33) (Wd9 := wC ad cy S ++ cL9 cy o (vp_updL f 0 0) :: F) X rfl rfl dL_hasRole_16 ?_
      refine V.goto (tgt := 28) X dL_hasRole_17 (by decide) ?_
      refine V.iconst (v := nI 0) X dL_hasRole_28 rfl ?_
      exact V.iret (v := nI 0) X hE rfl rfl (Nat.le_of_ble_eq_true rfl) (Nat.le_of_ble_eq_true rfl) (pW_r hk9 (by rw [hb9]; rfl) rfl) dL_hasRole_29
    · refine V.lconst (v := 1) X dL_hasRole_11 rfl ?_
      refine V.goto (tgt := 16) X dL_hasRole_12 (by decide) ?_
      refine V.outL (q0 := 33) (Wd9 := wC ad cy S ++ cL9 cy o (vp_updL f 0 1) :: F) X rfl rfl dL_hasRole_16 ?_
      refine V.goto (tgt := 28) X dL_hasRole_17 (by decide) ?_
      refine V.iconst (v := nI 0) X dL_hasRole_28 rfl ?_
      exact V.iret (v := nI 0) X hE rfl rfl (Nat.le_of_ble_eq_true rfl) (Nat.le_of_ble_eq_true rfl) (pW_r hk9 (by rw [hb9]; rfl) rfl) dL_hasRole_29
set_option maxRecDepth 20000 in
set_option maxHeartbeats 4000000 in
theorem c_L_workOf (l : Launch) (D : va_G) (cy : Nat → ClassId) (ad : Nat → Nat) (S : St) (o : Nat) (f : Nat → Int64) (F : va_W) (x : Int32) (hI : Inv S) : CtrH l D cy yL_workOf (.codeWith yL_workOf cL_workOf 4 (some .int) [(0, 9, 12, 21)]) ({ frames := 14, cells := 8, slots := 48, locals := 460 } : Room) [.ref (ad 0), .int x, .ref o] (wC ad cy S ++ cL9 cy o f :: F) (pW ad cy o f F (kP1 S x) ((o2i (rO S 9 (ix x))).toInt64) (fun T => T = S) (fun T => T = S)) := by
  refine CtrH.of (by decide) (Nat.le_of_ble_eq_true rfl) ?_
  intro M X hE hT hNc hB9
  replace X : VX l D M cy cL_workOf "RunbookerLaw" (some FieldType.int) ({ frames := 14, cells := 8, slots := 48, locals := 460 } : Room) := X
  show V l D M 0 0 (wC ad cy S ++ cL9 cy o f :: F) [(0, .ref (ad 0)), (1, .int x), (2, .ref o)] 0 []
  refine V.aload_n X dL_workOf_0 rfl ?_
  refine V.iconst (v := nI 0) X dL_workOf_1 rfl ?_
  refine V.aload_n X dL_workOf_2 rfl ?_
  refine V.iload_n X dL_workOf_3 rfl ?_
  refine V.callV (C := "Runbooker") [.int x] X (c_X5_workOf l D cy ad S (cL9 cy o f :: F) x hI) mv_X5_workOf gw_4_26 ⟨⟨(Nat.le_of_ble_eq_true rfl), (Nat.le_of_ble_eq_true rfl)⟩, (Nat.le_of_ble_eq_true rfl), (Nat.le_of_ble_eq_true rfl)⟩ (q0 := 0) (ci := 7) rfl rfl rfl (Nat.le_of_ble_eq_true rfl) dL_workOf_4 ?_ ?_
  · rintro E9 u9 ⟨j9, hk9, hE9, rfl⟩
    rcases j9 with _ | j9
    · obtain rfl : "java/util/NoSuchElementException" = E9 := Option.some.inj (show some "java/util/NoSuchElementException" = some E9 from hE9)
      refine VT.catch9 (E := "java/util/NoSuchElementException") (name := "java/util/NoSuchElementException") X hT hNc [] ⟨0, 9, 12, 21⟩ [] rfl (hp := 12) rfl (fun z hz => absurd hz List.not_mem_nil) (by decide) (by decide) gw_2_174 cast_NSE (fun q9 => ?_)
      refine V.astore_n (L' := [(3, .ref q9), (0, .ref (ad 0)), (1, .int x), (2, .ref o)]) X dL_workOf_12 rfl hB9 (by decide) rfl ?_
      refine V.iconst (v := nI 1) X dL_workOf_13 rfl ?_
      exact V.iret (v := nI 1) X hE rfl rfl (Nat.le_of_ble_eq_true rfl) (Nat.le_of_ble_eq_true rfl) (pW_x (j := 0) hk9 rfl) dL_workOf_14
    · cases (show (none : Option String) = some E9 from hE9)
  · rintro v9 u9 ⟨hk9, rfl, rfl⟩
    refine V.i2l (v := (o2i (rO S 9 (ix x))).toInt64) X dL_workOf_7 rfl ?_
    refine V.outL (q0 := 33) (Wd9 := wC ad cy S ++ cL9 cy o (vp_updL f 0 ((o2i (rO S 9 (ix x))).toInt64)) :: F) X rfl rfl dL_workOf_8 ?_
    refine V.goto (tgt := 15) X dL_workOf_9 (by decide) ?_
    refine V.iconst (v := nI 0) X dL_workOf_15 rfl ?_
    exact V.iret (v := nI 0) X hE rfl rfl (Nat.le_of_ble_eq_true rfl) (Nat.le_of_ble_eq_true rfl) (pW_r hk9 rfl rfl) dL_workOf_16
set_option maxRecDepth 20000 in
set_option maxHeartbeats 4000000 in
theorem c_L_readingOf (l : Launch) (D : va_G) (cy : Nat → ClassId) (ad : Nat → Nat) (S : St) (o : Nat) (f : Nat → Int64) (F : va_W) (x : Int32) (hI : Inv S) : CtrH l D cy yL_readingOf (.codeWith yL_readingOf cL_readingOf 4 (some .int) [(0, 9, 12, 13)]) ({ frames := 14, cells := 8, slots := 48, locals := 460 } : Room) [.ref (ad 0), .int x, .ref o] (wC ad cy S ++ cL9 cy o f :: F) (pW ad cy o f F (kRO x) ((rI S 6 (ix x)).toInt64) (fun T => T = S) (fun T => T = S)) := by
  refine CtrH.of (by decide) (Nat.le_of_ble_eq_true rfl) ?_
  intro M X hE hT hNc hB9
  replace X : VX l D M cy cL_readingOf "RunbookerLaw" (some FieldType.int) ({ frames := 14, cells := 8, slots := 48, locals := 460 } : Room) := X
  show V l D M 0 0 (wC ad cy S ++ cL9 cy o f :: F) [(0, .ref (ad 0)), (1, .int x), (2, .ref o)] 0 []
  refine V.aload_n X dL_readingOf_0 rfl ?_
  refine V.iconst (v := nI 0) X dL_readingOf_1 rfl ?_
  refine V.aload_n X dL_readingOf_2 rfl ?_
  refine V.iload_n X dL_readingOf_3 rfl ?_
  refine V.callV (C := "Runbooker") [.int x] X (c_X5_readingOf l D cy ad S (cL9 cy o f :: F) x hI) mv_X5_readingOf gw_4_33 ⟨⟨(Nat.le_of_ble_eq_true rfl), (Nat.le_of_ble_eq_true rfl)⟩, (Nat.le_of_ble_eq_true rfl), (Nat.le_of_ble_eq_true rfl)⟩ (q0 := 0) (ci := 7) rfl rfl rfl (Nat.le_of_ble_eq_true rfl) dL_readingOf_4 ?_ ?_
  · rintro E9 u9 ⟨j9, hk9, hE9, rfl⟩
    rcases j9 with _ | j9
    · obtain rfl : "java/lang/IllegalArgumentException" = E9 := Option.some.inj (show some "java/lang/IllegalArgumentException" = some E9 from hE9)
      refine VT.catch9 (E := "java/lang/IllegalArgumentException") (name := "java/lang/IllegalArgumentException") X hT hNc [] ⟨0, 9, 12, 13⟩ [] rfl (hp := 12) rfl (fun z hz => absurd hz List.not_mem_nil) (by decide) (by decide) gw_2_75 cast_IAE (fun q9 => ?_)
      refine V.astore_n (L' := [(3, .ref q9), (0, .ref (ad 0)), (1, .int x), (2, .ref o)]) X dL_readingOf_12 rfl hB9 (by decide) rfl ?_
      refine V.iconst (v := nI 1) X dL_readingOf_13 rfl ?_
      exact V.iret (v := nI 1) X hE rfl rfl (Nat.le_of_ble_eq_true rfl) (Nat.le_of_ble_eq_true rfl) (pW_x (j := 0) hk9 rfl) dL_readingOf_14
    · cases (show (none : Option String) = some E9 from hE9)
  · rintro v9 u9 ⟨hk9, rfl, rfl⟩
    refine V.i2l (v := (rI S 6 (ix x)).toInt64) X dL_readingOf_7 rfl ?_
    refine V.outL (q0 := 33) (Wd9 := wC ad cy S ++ cL9 cy o (vp_updL f 0 ((rI S 6 (ix x)).toInt64)) :: F) X rfl rfl dL_readingOf_8 ?_
    refine V.goto (tgt := 15) X dL_readingOf_9 (by decide) ?_
    refine V.iconst (v := nI 0) X dL_readingOf_15 rfl ?_
    exact V.iret (v := nI 0) X hE rfl rfl (Nat.le_of_ble_eq_true rfl) (Nat.le_of_ble_eq_true rfl) (pW_r hk9 rfl rfl) dL_readingOf_16
set_option maxRecDepth 20000 in
set_option maxHeartbeats 4000000 in
theorem c_L_doesGuardHold (l : Launch) (D : va_G) (cy : Nat → ClassId) (ad : Nat → Nat) (S : St) (o : Nat) (f : Nat → Int64) (F : va_W) (x : Int32) (hI : Inv S) : CtrH l D cy yL_doesGuardHold (.codeWith yL_doesGuardHold cL_doesGuardHold 4 (some .int) [(0, 16, 19, 21)]) ({ frames := 14, cells := 8, slots := 48, locals := 460 } : Room) [.ref (ad 0), .int x, .ref o] (wC ad cy S ++ cL9 cy o f :: F) (pW ad cy o f F (kS1 S x) (b2l (guard9 S (ix x))) (fun T => T = S) (fun T => T = S)) := by
  refine CtrH.of (by decide) (Nat.le_of_ble_eq_true rfl) ?_
  intro M X hE hT hNc hB9
  replace X : VX l D M cy cL_doesGuardHold "RunbookerLaw" (some FieldType.int) ({ frames := 14, cells := 8, slots := 48, locals := 460 } : Room) := X
  show V l D M 0 0 (wC ad cy S ++ cL9 cy o f :: F) [(0, .ref (ad 0)), (1, .int x), (2, .ref o)] 0 []
  refine V.aload_n X dL_doesGuardHold_0 rfl ?_
  refine V.iconst (v := nI 0) X dL_doesGuardHold_1 rfl ?_
  refine V.aload_n X dL_doesGuardHold_2 rfl ?_
  refine V.iload_n X dL_doesGuardHold_3 rfl ?_
  refine V.callV (C := "Runbooker") [.int x] X (c_X5_doesGuardHold l D cy ad S (cL9 cy o f :: F) x hI) mv_X5_doesGuardHold gw_4_41 ⟨⟨(Nat.le_of_ble_eq_true rfl), (Nat.le_of_ble_eq_true rfl)⟩, (Nat.le_of_ble_eq_true rfl), (Nat.le_of_ble_eq_true rfl)⟩ (q0 := 0) (ci := 7) rfl rfl rfl (Nat.le_of_ble_eq_true rfl) dL_doesGuardHold_4 ?_ ?_
  · rintro E9 u9 ⟨j9, hk9, hE9, rfl⟩
    rcases j9 with _ | j9
    · obtain rfl : "java/util/NoSuchElementException" = E9 := Option.some.inj (show some "java/util/NoSuchElementException" = some E9 from hE9)
      refine VT.catch9 (E := "java/util/NoSuchElementException") (name := "java/util/NoSuchElementException") X hT hNc [] ⟨0, 16, 19, 21⟩ [] rfl (hp := 19) rfl (fun z hz => absurd hz List.not_mem_nil) (by decide) (by decide) gw_2_174 cast_NSE (fun q9 => ?_)
      refine V.astore_n (L' := [(3, .ref q9), (0, .ref (ad 0)), (1, .int x), (2, .ref o)]) X dL_doesGuardHold_19 rfl hB9 (by decide) rfl ?_
      refine V.iconst (v := nI 1) X dL_doesGuardHold_20 rfl ?_
      exact V.iret (v := nI 1) X hE rfl rfl (Nat.le_of_ble_eq_true rfl) (Nat.le_of_ble_eq_true rfl) (pW_x (j := 0) hk9 rfl) dL_doesGuardHold_21
    · cases (show (none : Option String) = some E9 from hE9)
  · rintro v9 u9 ⟨hk9, rfl, rfl⟩
    refine V.if_eq (tgt := 14) X dL_doesGuardHold_7 (by decide) b2i_0 b2i_n0 (fun (hb9 : (guard9 S (ix x)) = false) => ?_) (fun (hb9 : (guard9 S (ix x)) = true) => ?_)
    · refine V.lconst (v := 0) X dL_doesGuardHold_14 rfl ?_
      refine V.outL (q0 := 33) (Wd9 := wC ad cy S ++ cL9 cy o (vp_updL f 0 0) :: F) X rfl rfl dL_doesGuardHold_15 ?_
      refine V.goto (tgt := 22) X dL_doesGuardHold_16 (by decide) ?_
      refine V.iconst (v := nI 0) X dL_doesGuardHold_22 rfl ?_
      exact V.iret (v := nI 0) X hE rfl rfl (Nat.le_of_ble_eq_true rfl) (Nat.le_of_ble_eq_true rfl) (pW_r hk9 (by rw [hb9]; rfl) rfl) dL_doesGuardHold_23
    · refine V.lconst (v := 1) X dL_doesGuardHold_10 rfl ?_
      refine V.goto (tgt := 15) X dL_doesGuardHold_11 (by decide) ?_
      refine V.outL (q0 := 33) (Wd9 := wC ad cy S ++ cL9 cy o (vp_updL f 0 1) :: F) X rfl rfl dL_doesGuardHold_15 ?_
      refine V.goto (tgt := 22) X dL_doesGuardHold_16 (by decide) ?_
      refine V.iconst (v := nI 0) X dL_doesGuardHold_22 rfl ?_
      exact V.iret (v := nI 0) X hE rfl rfl (Nat.le_of_ble_eq_true rfl) (Nat.le_of_ble_eq_true rfl) (pW_r hk9 (by rw [hb9]; rfl) rfl) dL_doesGuardHold_23
set_option maxRecDepth 20000 in
set_option maxHeartbeats 4000000 in
theorem c_L_guardReading (l : Launch) (D : va_G) (cy : Nat → ClassId) (ad : Nat → Nat) (S : St) (o : Nat) (f : Nat → Int64) (F : va_W) (x : Int32) (y : Int32) (hI : Inv S) : CtrH l D cy yL_guardReading (.codeWith yL_guardReading cL_guardReading 5 (some .int) [(0, 10, 13, 21), (0, 10, 17, 86), (0, 10, 21, 15)]) ({ frames := 14, cells := 8, slots := 48, locals := 460 } : Room) [.ref (ad 0), .int x, .int y, .ref o] (wC ad cy S ++ cL9 cy o f :: F) (pW ad cy o f F (kGR S x y) ((rI S 27 (ix x * 6 + rN S 18 (ix x * 2 + ix y))).toInt64) (fun T => T = S) (fun T => T = S)) := by
  refine CtrH.of (by decide) (Nat.le_of_ble_eq_true rfl) ?_
  intro M X hE hT hNc hB9
  replace X : VX l D M cy cL_guardReading "RunbookerLaw" (some FieldType.int) ({ frames := 14, cells := 8, slots := 48, locals := 460 } : Room) := X
  show V l D M 0 0 (wC ad cy S ++ cL9 cy o f :: F) [(0, .ref (ad 0)), (1, .int x), (2, .int y), (3, .ref o)] 0 []
  refine V.aload_n X dL_guardReading_0 rfl ?_
  refine V.iconst (v := nI 0) X dL_guardReading_1 rfl ?_
  refine V.aload_n X dL_guardReading_2 rfl ?_
  refine V.iload_n X dL_guardReading_3 rfl ?_
  refine V.iload_n X dL_guardReading_4 rfl ?_
  refine V.callV (C := "Runbooker") [.int x, .int y] X (c_X5_guardReading l D cy ad S (cL9 cy o f :: F) x y hI) mv_X5_guardReading gw_4_49 ⟨⟨(Nat.le_of_ble_eq_true rfl), (Nat.le_of_ble_eq_true rfl)⟩, (Nat.le_of_ble_eq_true rfl), (Nat.le_of_ble_eq_true rfl)⟩ (q0 := 0) (ci := 7) rfl rfl rfl (Nat.le_of_ble_eq_true rfl) dL_guardReading_5 ?_ ?_
  · rintro E9 u9 ⟨j9, hk9, hE9, rfl⟩
    rcases j9 with _ | _ | _ | j9
    · obtain rfl : "java/util/NoSuchElementException" = E9 := Option.some.inj (show some "java/util/NoSuchElementException" = some E9 from hE9)
      refine VT.catch9 (E := "java/util/NoSuchElementException") (name := "java/util/NoSuchElementException") X hT hNc [] ⟨0, 10, 13, 21⟩ [⟨0, 10, 17, 86⟩, ⟨0, 10, 21, 15⟩] rfl (hp := 13) rfl (fun z hz => absurd hz List.not_mem_nil) (by decide) (by decide) gw_2_174 cast_NSE (fun q9 => ?_)
      refine V.astore (L' := [(4, .ref q9), (0, .ref (ad 0)), (1, .int x), (2, .int y), (3, .ref o)]) X dL_guardReading_13 hB9 (by decide) rfl ?_
      refine V.iconst (v := nI 1) X dL_guardReading_15 rfl ?_
      exact V.iret (v := nI 1) X hE rfl rfl (Nat.le_of_ble_eq_true rfl) (Nat.le_of_ble_eq_true rfl) (pW_x (j := 0) hk9 rfl) dL_guardReading_16
    · obtain rfl : "java/lang/IndexOutOfBoundsException" = E9 := Option.some.inj (show some "java/lang/IndexOutOfBoundsException" = some E9 from hE9)
      refine VT.catch9 (E := "java/lang/IndexOutOfBoundsException") (name := "java/lang/IndexOutOfBoundsException") X hT hNc [⟨0, 10, 13, 21⟩] ⟨0, 10, 17, 86⟩ [⟨0, 10, 21, 15⟩] rfl (hp := 17) rfl (fun z hz => by simp only [List.mem_cons, List.not_mem_nil, or_false] at hz; rcases hz with rfl <;> first | exact ⟨by decide, _, gw_2_174, by decide +kernel⟩) (by decide) (by decide) gw_4_48 cast_IOB (fun q9 => ?_)
      refine V.astore (L' := [(4, .ref q9), (0, .ref (ad 0)), (1, .int x), (2, .int y), (3, .ref o)]) X dL_guardReading_17 hB9 (by decide) rfl ?_
      refine V.iconst (v := nI 2) X dL_guardReading_19 rfl ?_
      exact V.iret (v := nI 2) X hE rfl rfl (Nat.le_of_ble_eq_true rfl) (Nat.le_of_ble_eq_true rfl) (pW_x (j := 1) hk9 rfl) dL_guardReading_20
    · obtain rfl : "java/lang/IllegalStateException" = E9 := Option.some.inj (show some "java/lang/IllegalStateException" = some E9 from hE9)
      refine VT.catch9 (E := "java/lang/IllegalStateException") (name := "java/lang/IllegalStateException") X hT hNc [⟨0, 10, 13, 21⟩, ⟨0, 10, 17, 86⟩] ⟨0, 10, 21, 15⟩ [] rfl (hp := 21) rfl (fun z hz => by simp only [List.mem_cons, List.not_mem_nil, or_false] at hz; rcases hz with rfl | rfl <;> first | exact ⟨by decide, _, gw_2_174, by decide +kernel⟩ | exact ⟨by decide, _, gw_4_48, by decide +kernel⟩) (by decide) (by decide) gw_2_76 cast_ISE (fun q9 => ?_)
      refine V.astore (L' := [(4, .ref q9), (0, .ref (ad 0)), (1, .int x), (2, .int y), (3, .ref o)]) X dL_guardReading_21 hB9 (by decide) rfl ?_
      refine V.iconst (v := nI 3) X dL_guardReading_23 rfl ?_
      exact V.iret (v := nI 3) X hE rfl rfl (Nat.le_of_ble_eq_true rfl) (Nat.le_of_ble_eq_true rfl) (pW_x (j := 2) hk9 rfl) dL_guardReading_24
    · cases (show (none : Option String) = some E9 from hE9)
  · rintro v9 u9 ⟨hk9, rfl, rfl⟩
    refine V.i2l (v := (rI S 27 (ix x * 6 + rN S 18 (ix x * 2 + ix y))).toInt64) X dL_guardReading_8 rfl ?_
    refine V.outL (q0 := 33) (Wd9 := wC ad cy S ++ cL9 cy o (vp_updL f 0 ((rI S 27 (ix x * 6 + rN S 18 (ix x * 2 + ix y))).toInt64)) :: F) X rfl rfl dL_guardReading_9 ?_
    refine V.goto (tgt := 25) X dL_guardReading_10 (by decide) ?_
    refine V.iconst (v := nI 0) X dL_guardReading_25 rfl ?_
    exact V.iret (v := nI 0) X hE rfl rfl (Nat.le_of_ble_eq_true rfl) (Nat.le_of_ble_eq_true rfl) (pW_r hk9 rfl rfl) dL_guardReading_26
set_option maxRecDepth 20000 in
set_option maxHeartbeats 4000000 in
theorem c_L_stateOf (l : Launch) (D : va_G) (cy : Nat → ClassId) (ad : Nat → Nat) (S : St) (o : Nat) (f : Nat → Int64) (F : va_W) (x : Int32) (hI : Inv S) : CtrH l D cy yL_stateOf (.codeWith yL_stateOf cL_stateOf 4 (some .int) [(0, 9, 12, 21), (0, 9, 15, 15)]) ({ frames := 14, cells := 8, slots := 48, locals := 460 } : Room) [.ref (ad 0), .int x, .ref o] (wC ad cy S ++ cL9 cy o f :: F) (pW ad cy o f F (kSR2 S x) ((c2i (rC S 22 (ix x))).toInt64) (fun T => T = S) (fun T => T = S)) := by
  refine CtrH.of (by decide) (Nat.le_of_ble_eq_true rfl) ?_
  intro M X hE hT hNc hB9
  replace X : VX l D M cy cL_stateOf "RunbookerLaw" (some FieldType.int) ({ frames := 14, cells := 8, slots := 48, locals := 460 } : Room) := X
  show V l D M 0 0 (wC ad cy S ++ cL9 cy o f :: F) [(0, .ref (ad 0)), (1, .int x), (2, .ref o)] 0 []
  refine V.aload_n X dL_stateOf_0 rfl ?_
  refine V.iconst (v := nI 0) X dL_stateOf_1 rfl ?_
  refine V.aload_n X dL_stateOf_2 rfl ?_
  refine V.iload_n X dL_stateOf_3 rfl ?_
  refine V.callV (C := "Runbooker") [.int x] X (c_X5_stateOf l D cy ad S (cL9 cy o f :: F) x hI) mv_X5_stateOf gw_4_81 ⟨⟨(Nat.le_of_ble_eq_true rfl), (Nat.le_of_ble_eq_true rfl)⟩, (Nat.le_of_ble_eq_true rfl), (Nat.le_of_ble_eq_true rfl)⟩ (q0 := 0) (ci := 7) rfl rfl rfl (Nat.le_of_ble_eq_true rfl) dL_stateOf_4 ?_ ?_
  · rintro E9 u9 ⟨j9, hk9, hE9, rfl⟩
    rcases j9 with _ | _ | j9
    · obtain rfl : "java/util/NoSuchElementException" = E9 := Option.some.inj (show some "java/util/NoSuchElementException" = some E9 from hE9)
      refine VT.catch9 (E := "java/util/NoSuchElementException") (name := "java/util/NoSuchElementException") X hT hNc [] ⟨0, 9, 12, 21⟩ [⟨0, 9, 15, 15⟩] rfl (hp := 12) rfl (fun z hz => absurd hz List.not_mem_nil) (by decide) (by decide) gw_2_174 cast_NSE (fun q9 => ?_)
      refine V.astore_n (L' := [(3, .ref q9), (0, .ref (ad 0)), (1, .int x), (2, .ref o)]) X dL_stateOf_12 rfl hB9 (by decide) rfl ?_
      refine V.iconst (v := nI 1) X dL_stateOf_13 rfl ?_
      exact V.iret (v := nI 1) X hE rfl rfl (Nat.le_of_ble_eq_true rfl) (Nat.le_of_ble_eq_true rfl) (pW_x (j := 0) hk9 rfl) dL_stateOf_14
    · obtain rfl : "java/lang/IllegalStateException" = E9 := Option.some.inj (show some "java/lang/IllegalStateException" = some E9 from hE9)
      refine VT.catch9 (E := "java/lang/IllegalStateException") (name := "java/lang/IllegalStateException") X hT hNc [⟨0, 9, 12, 21⟩] ⟨0, 9, 15, 15⟩ [] rfl (hp := 15) rfl (fun z hz => by simp only [List.mem_cons, List.not_mem_nil, or_false] at hz; rcases hz with rfl <;> first | exact ⟨by decide, _, gw_2_174, by decide +kernel⟩) (by decide) (by decide) gw_2_76 cast_ISE (fun q9 => ?_)
      refine V.astore_n (L' := [(3, .ref q9), (0, .ref (ad 0)), (1, .int x), (2, .ref o)]) X dL_stateOf_15 rfl hB9 (by decide) rfl ?_
      refine V.iconst (v := nI 2) X dL_stateOf_16 rfl ?_
      exact V.iret (v := nI 2) X hE rfl rfl (Nat.le_of_ble_eq_true rfl) (Nat.le_of_ble_eq_true rfl) (pW_x (j := 1) hk9 rfl) dL_stateOf_17
    · cases (show (none : Option String) = some E9 from hE9)
  · rintro v9 u9 ⟨hk9, rfl, rfl⟩
    refine V.i2l (v := (c2i (rC S 22 (ix x))).toInt64) X dL_stateOf_7 rfl ?_
    refine V.outL (q0 := 33) (Wd9 := wC ad cy S ++ cL9 cy o (vp_updL f 0 ((c2i (rC S 22 (ix x))).toInt64)) :: F) X rfl rfl dL_stateOf_8 ?_
    refine V.goto (tgt := 18) X dL_stateOf_9 (by decide) ?_
    refine V.iconst (v := nI 0) X dL_stateOf_18 rfl ?_
    exact V.iret (v := nI 0) X hE rfl rfl (Nat.le_of_ble_eq_true rfl) (Nat.le_of_ble_eq_true rfl) (pW_r hk9 rfl rfl) dL_stateOf_19
set_option maxRecDepth 20000 in
set_option maxHeartbeats 4000000 in
theorem c_L_triesOf (l : Launch) (D : va_G) (cy : Nat → ClassId) (ad : Nat → Nat) (S : St) (o : Nat) (f : Nat → Int64) (F : va_W) (x : Int32) (hI : Inv S) : CtrH l D cy yL_triesOf (.codeWith yL_triesOf cL_triesOf 4 (some .int) [(0, 9, 12, 21), (0, 9, 15, 15)]) ({ frames := 14, cells := 8, slots := 48, locals := 460 } : Room) [.ref (ad 0), .int x, .ref o] (wC ad cy S ++ cL9 cy o f :: F) (pW ad cy o f F (kSR2 S x) ((nI (rN S 25 (ix x))).toInt64) (fun T => T = S) (fun T => T = S)) := by
  refine CtrH.of (by decide) (Nat.le_of_ble_eq_true rfl) ?_
  intro M X hE hT hNc hB9
  replace X : VX l D M cy cL_triesOf "RunbookerLaw" (some FieldType.int) ({ frames := 14, cells := 8, slots := 48, locals := 460 } : Room) := X
  show V l D M 0 0 (wC ad cy S ++ cL9 cy o f :: F) [(0, .ref (ad 0)), (1, .int x), (2, .ref o)] 0 []
  refine V.aload_n X dL_triesOf_0 rfl ?_
  refine V.iconst (v := nI 0) X dL_triesOf_1 rfl ?_
  refine V.aload_n X dL_triesOf_2 rfl ?_
  refine V.iload_n X dL_triesOf_3 rfl ?_
  refine V.callV (C := "Runbooker") [.int x] X (c_X5_triesOf l D cy ad S (cL9 cy o f :: F) x hI) mv_X5_triesOf gw_4_93 ⟨⟨(Nat.le_of_ble_eq_true rfl), (Nat.le_of_ble_eq_true rfl)⟩, (Nat.le_of_ble_eq_true rfl), (Nat.le_of_ble_eq_true rfl)⟩ (q0 := 0) (ci := 7) rfl rfl rfl (Nat.le_of_ble_eq_true rfl) dL_triesOf_4 ?_ ?_
  · rintro E9 u9 ⟨j9, hk9, hE9, rfl⟩
    rcases j9 with _ | _ | j9
    · obtain rfl : "java/util/NoSuchElementException" = E9 := Option.some.inj (show some "java/util/NoSuchElementException" = some E9 from hE9)
      refine VT.catch9 (E := "java/util/NoSuchElementException") (name := "java/util/NoSuchElementException") X hT hNc [] ⟨0, 9, 12, 21⟩ [⟨0, 9, 15, 15⟩] rfl (hp := 12) rfl (fun z hz => absurd hz List.not_mem_nil) (by decide) (by decide) gw_2_174 cast_NSE (fun q9 => ?_)
      refine V.astore_n (L' := [(3, .ref q9), (0, .ref (ad 0)), (1, .int x), (2, .ref o)]) X dL_triesOf_12 rfl hB9 (by decide) rfl ?_
      refine V.iconst (v := nI 1) X dL_triesOf_13 rfl ?_
      exact V.iret (v := nI 1) X hE rfl rfl (Nat.le_of_ble_eq_true rfl) (Nat.le_of_ble_eq_true rfl) (pW_x (j := 0) hk9 rfl) dL_triesOf_14
    · obtain rfl : "java/lang/IllegalStateException" = E9 := Option.some.inj (show some "java/lang/IllegalStateException" = some E9 from hE9)
      refine VT.catch9 (E := "java/lang/IllegalStateException") (name := "java/lang/IllegalStateException") X hT hNc [⟨0, 9, 12, 21⟩] ⟨0, 9, 15, 15⟩ [] rfl (hp := 15) rfl (fun z hz => by simp only [List.mem_cons, List.not_mem_nil, or_false] at hz; rcases hz with rfl <;> first | exact ⟨by decide, _, gw_2_174, by decide +kernel⟩) (by decide) (by decide) gw_2_76 cast_ISE (fun q9 => ?_)
      refine V.astore_n (L' := [(3, .ref q9), (0, .ref (ad 0)), (1, .int x), (2, .ref o)]) X dL_triesOf_15 rfl hB9 (by decide) rfl ?_
      refine V.iconst (v := nI 2) X dL_triesOf_16 rfl ?_
      exact V.iret (v := nI 2) X hE rfl rfl (Nat.le_of_ble_eq_true rfl) (Nat.le_of_ble_eq_true rfl) (pW_x (j := 1) hk9 rfl) dL_triesOf_17
    · cases (show (none : Option String) = some E9 from hE9)
  · rintro v9 u9 ⟨hk9, rfl, rfl⟩
    refine V.i2l (v := (nI (rN S 25 (ix x))).toInt64) X dL_triesOf_7 rfl ?_
    refine V.outL (q0 := 33) (Wd9 := wC ad cy S ++ cL9 cy o (vp_updL f 0 ((nI (rN S 25 (ix x))).toInt64)) :: F) X rfl rfl dL_triesOf_8 ?_
    refine V.goto (tgt := 18) X dL_triesOf_9 (by decide) ?_
    refine V.iconst (v := nI 0) X dL_triesOf_18 rfl ?_
    exact V.iret (v := nI 0) X hE rfl rfl (Nat.le_of_ble_eq_true rfl) (Nat.le_of_ble_eq_true rfl) (pW_r hk9 rfl rfl) dL_triesOf_19
set_option maxRecDepth 20000 in
set_option maxHeartbeats 4000000 in
theorem c_L_isReady (l : Launch) (D : va_G) (cy : Nat → ClassId) (ad : Nat → Nat) (S : St) (o : Nat) (f : Nat → Int64) (F : va_W) (x : Int32) (hI : Inv S) : CtrH l D cy yL_isReady (.codeWith yL_isReady cL_isReady 4 (some .int) [(0, 16, 19, 21)]) ({ frames := 14, cells := 8, slots := 48, locals := 460 } : Room) [.ref (ad 0), .int x, .ref o] (wC ad cy S ++ cL9 cy o f :: F) (pW ad cy o f F (kS1 S x) (b2l (rdy9 S (ix x))) (fun T => T = S) (fun T => T = S)) := by
  refine CtrH.of (by decide) (Nat.le_of_ble_eq_true rfl) ?_
  intro M X hE hT hNc hB9
  replace X : VX l D M cy cL_isReady "RunbookerLaw" (some FieldType.int) ({ frames := 14, cells := 8, slots := 48, locals := 460 } : Room) := X
  show V l D M 0 0 (wC ad cy S ++ cL9 cy o f :: F) [(0, .ref (ad 0)), (1, .int x), (2, .ref o)] 0 []
  refine V.aload_n X dL_isReady_0 rfl ?_
  refine V.iconst (v := nI 0) X dL_isReady_1 rfl ?_
  refine V.aload_n X dL_isReady_2 rfl ?_
  refine V.iload_n X dL_isReady_3 rfl ?_
  refine V.callV (C := "Runbooker") [.int x] X (c_X5_isReady l D cy ad S (cL9 cy o f :: F) x hI) mv_X5_isReady gw_4_100 ⟨⟨(Nat.le_of_ble_eq_true rfl), (Nat.le_of_ble_eq_true rfl)⟩, (Nat.le_of_ble_eq_true rfl), (Nat.le_of_ble_eq_true rfl)⟩ (q0 := 0) (ci := 7) rfl rfl rfl (Nat.le_of_ble_eq_true rfl) dL_isReady_4 ?_ ?_
  · rintro E9 u9 ⟨j9, hk9, hE9, rfl⟩
    rcases j9 with _ | j9
    · obtain rfl : "java/util/NoSuchElementException" = E9 := Option.some.inj (show some "java/util/NoSuchElementException" = some E9 from hE9)
      refine VT.catch9 (E := "java/util/NoSuchElementException") (name := "java/util/NoSuchElementException") X hT hNc [] ⟨0, 16, 19, 21⟩ [] rfl (hp := 19) rfl (fun z hz => absurd hz List.not_mem_nil) (by decide) (by decide) gw_2_174 cast_NSE (fun q9 => ?_)
      refine V.astore_n (L' := [(3, .ref q9), (0, .ref (ad 0)), (1, .int x), (2, .ref o)]) X dL_isReady_19 rfl hB9 (by decide) rfl ?_
      refine V.iconst (v := nI 1) X dL_isReady_20 rfl ?_
      exact V.iret (v := nI 1) X hE rfl rfl (Nat.le_of_ble_eq_true rfl) (Nat.le_of_ble_eq_true rfl) (pW_x (j := 0) hk9 rfl) dL_isReady_21
    · cases (show (none : Option String) = some E9 from hE9)
  · rintro v9 u9 ⟨hk9, rfl, rfl⟩
    refine V.if_eq (tgt := 14) X dL_isReady_7 (by decide) b2i_0 b2i_n0 (fun (hb9 : (rdy9 S (ix x)) = false) => ?_) (fun (hb9 : (rdy9 S (ix x)) = true) => ?_)
    · refine V.lconst (v := 0) X dL_isReady_14 rfl ?_
      refine V.outL (q0 := 33) (Wd9 := wC ad cy S ++ cL9 cy o (vp_updL f 0 0) :: F) X rfl rfl dL_isReady_15 ?_
      refine V.goto (tgt := 22) X dL_isReady_16 (by decide) ?_
      refine V.iconst (v := nI 0) X dL_isReady_22 rfl ?_
      exact V.iret (v := nI 0) X hE rfl rfl (Nat.le_of_ble_eq_true rfl) (Nat.le_of_ble_eq_true rfl) (pW_r hk9 (by rw [hb9]; rfl) rfl) dL_isReady_23
    · refine V.lconst (v := 1) X dL_isReady_10 rfl ?_
      refine V.goto (tgt := 15) X dL_isReady_11 (by decide) ?_
      refine V.outL (q0 := 33) (Wd9 := wC ad cy S ++ cL9 cy o (vp_updL f 0 1) :: F) X rfl rfl dL_isReady_15 ?_
      refine V.goto (tgt := 22) X dL_isReady_16 (by decide) ?_
      refine V.iconst (v := nI 0) X dL_isReady_22 rfl ?_
      exact V.iret (v := nI 0) X hE rfl rfl (Nat.le_of_ble_eq_true rfl) (Nat.le_of_ble_eq_true rfl) (pW_r hk9 (by rw [hb9]; rfl) rfl) dL_isReady_23
set_option maxRecDepth 20000 in
set_option maxHeartbeats 4000000 in
theorem c_L_whyNot (l : Launch) (D : va_G) (cy : Nat → ClassId) (ad : Nat → Nat) (S : St) (o : Nat) (f : Nat → Int64) (F : va_W) (x : Int32) (hI : Inv S) : CtrH l D cy yL_whyNot (.codeWith yL_whyNot cL_whyNot 4 (some .int) [(0, 9, 12, 21)]) ({ frames := 14, cells := 8, slots := 48, locals := 460 } : Room) [.ref (ad 0), .int x, .ref o] (wC ad cy S ++ cL9 cy o f :: F) (pW ad cy o f F (kS1 S x) ((c2i (why9 S (ix x))).toInt64) (fun T => T = S) (fun T => T = S)) := by
  refine CtrH.of (by decide) (Nat.le_of_ble_eq_true rfl) ?_
  intro M X hE hT hNc hB9
  replace X : VX l D M cy cL_whyNot "RunbookerLaw" (some FieldType.int) ({ frames := 14, cells := 8, slots := 48, locals := 460 } : Room) := X
  show V l D M 0 0 (wC ad cy S ++ cL9 cy o f :: F) [(0, .ref (ad 0)), (1, .int x), (2, .ref o)] 0 []
  refine V.aload_n X dL_whyNot_0 rfl ?_
  refine V.iconst (v := nI 0) X dL_whyNot_1 rfl ?_
  refine V.aload_n X dL_whyNot_2 rfl ?_
  refine V.iload_n X dL_whyNot_3 rfl ?_
  refine V.callV (C := "Runbooker") [.int x] X (c_X5_whyNot l D cy ad S (cL9 cy o f :: F) x hI) mv_X5_whyNot gw_4_107 ⟨⟨(Nat.le_of_ble_eq_true rfl), (Nat.le_of_ble_eq_true rfl)⟩, (Nat.le_of_ble_eq_true rfl), (Nat.le_of_ble_eq_true rfl)⟩ (q0 := 0) (ci := 7) rfl rfl rfl (Nat.le_of_ble_eq_true rfl) dL_whyNot_4 ?_ ?_
  · rintro E9 u9 ⟨j9, hk9, hE9, rfl⟩
    rcases j9 with _ | j9
    · obtain rfl : "java/util/NoSuchElementException" = E9 := Option.some.inj (show some "java/util/NoSuchElementException" = some E9 from hE9)
      refine VT.catch9 (E := "java/util/NoSuchElementException") (name := "java/util/NoSuchElementException") X hT hNc [] ⟨0, 9, 12, 21⟩ [] rfl (hp := 12) rfl (fun z hz => absurd hz List.not_mem_nil) (by decide) (by decide) gw_2_174 cast_NSE (fun q9 => ?_)
      refine V.astore_n (L' := [(3, .ref q9), (0, .ref (ad 0)), (1, .int x), (2, .ref o)]) X dL_whyNot_12 rfl hB9 (by decide) rfl ?_
      refine V.iconst (v := nI 1) X dL_whyNot_13 rfl ?_
      exact V.iret (v := nI 1) X hE rfl rfl (Nat.le_of_ble_eq_true rfl) (Nat.le_of_ble_eq_true rfl) (pW_x (j := 0) hk9 rfl) dL_whyNot_14
    · cases (show (none : Option String) = some E9 from hE9)
  · rintro v9 u9 ⟨hk9, rfl, rfl⟩
    refine V.i2l (v := (c2i (why9 S (ix x))).toInt64) X dL_whyNot_7 rfl ?_
    refine V.outL (q0 := 33) (Wd9 := wC ad cy S ++ cL9 cy o (vp_updL f 0 ((c2i (why9 S (ix x))).toInt64)) :: F) X rfl rfl dL_whyNot_8 ?_
    refine V.goto (tgt := 15) X dL_whyNot_9 (by decide) ?_
    refine V.iconst (v := nI 0) X dL_whyNot_15 rfl ?_
    exact V.iret (v := nI 0) X hE rfl rfl (Nat.le_of_ble_eq_true rfl) (Nat.le_of_ble_eq_true rfl) (pW_r hk9 rfl rfl) dL_whyNot_16
set_option maxRecDepth 20000 in
set_option maxHeartbeats 4000000 in
theorem c_L_nextStep (l : Launch) (D : va_G) (cy : Nat → ClassId) (ad : Nat → Nat) (S : St) (o : Nat) (f : Nat → Int64) (F : va_W) (x : Int32) (hI : Inv S) : CtrH l D cy yL_nextStep (.codeWith yL_nextStep cL_nextStep 4 (some .int) [(0, 9, 12, 21), (0, 9, 15, 15)]) ({ frames := 14, cells := 8, slots := 48, locals := 460 } : Room) [.ref (ad 0), .int x, .ref o] (wC ad cy S ++ cL9 cy o f :: F) (pW ad cy o f F (kNX S x) ((o2i (best9 S (ix x) (rN S 44 0))).toInt64) (fun T => ∃ g : Nat → Nat, (∀ j, g j < 1000000) ∧ T = sN S 21 g) (fun T => ∃ g : Nat → Nat, (∀ j, g j < 1000000) ∧ T = sN S 21 g)) := by
  refine CtrH.of (by decide) (Nat.le_of_ble_eq_true rfl) ?_
  intro M X hE hT hNc hB9
  replace X : VX l D M cy cL_nextStep "RunbookerLaw" (some FieldType.int) ({ frames := 14, cells := 8, slots := 48, locals := 460 } : Room) := X
  show V l D M 0 0 (wC ad cy S ++ cL9 cy o f :: F) [(0, .ref (ad 0)), (1, .int x), (2, .ref o)] 0 []
  refine V.aload_n X dL_nextStep_0 rfl ?_
  refine V.iconst (v := nI 0) X dL_nextStep_1 rfl ?_
  refine V.aload_n X dL_nextStep_2 rfl ?_
  refine V.iload_n X dL_nextStep_3 rfl ?_
  refine V.callV (C := "Runbooker") [.int x] X (c_X5_nextStep l D cy ad S (cL9 cy o f :: F) x hI) mv_X5_nextStep gw_4_118 ⟨⟨(Nat.le_of_ble_eq_true rfl), (Nat.le_of_ble_eq_true rfl)⟩, (Nat.le_of_ble_eq_true rfl), (Nat.le_of_ble_eq_true rfl)⟩ (q0 := 0) (ci := 7) rfl rfl rfl (Nat.le_of_ble_eq_true rfl) dL_nextStep_4 ?_ ?_
  · rintro E9 u9 ⟨g9, j9, hg9, hk9, hE9, rfl⟩
    rcases j9 with _ | _ | j9
    · obtain rfl : "java/util/NoSuchElementException" = E9 := Option.some.inj (show some "java/util/NoSuchElementException" = some E9 from hE9)
      refine VT.catch9 (E := "java/util/NoSuchElementException") (name := "java/util/NoSuchElementException") X hT hNc [] ⟨0, 9, 12, 21⟩ [⟨0, 9, 15, 15⟩] rfl (hp := 12) rfl (fun z hz => absurd hz List.not_mem_nil) (by decide) (by decide) gw_2_174 cast_NSE (fun q9 => ?_)
      refine V.astore_n (L' := [(3, .ref q9), (0, .ref (ad 0)), (1, .int x), (2, .ref o)]) X dL_nextStep_12 rfl hB9 (by decide) rfl ?_
      refine V.iconst (v := nI 1) X dL_nextStep_13 rfl ?_
      exact V.iret (v := nI 1) X hE rfl rfl (Nat.le_of_ble_eq_true rfl) (Nat.le_of_ble_eq_true rfl) (pW_x (j := 0) hk9 ⟨g9, hg9, rfl⟩) dL_nextStep_14
    · obtain rfl : "java/lang/IllegalStateException" = E9 := Option.some.inj (show some "java/lang/IllegalStateException" = some E9 from hE9)
      refine VT.catch9 (E := "java/lang/IllegalStateException") (name := "java/lang/IllegalStateException") X hT hNc [⟨0, 9, 12, 21⟩] ⟨0, 9, 15, 15⟩ [] rfl (hp := 15) rfl (fun z hz => by simp only [List.mem_cons, List.not_mem_nil, or_false] at hz; rcases hz with rfl <;> first | exact ⟨by decide, _, gw_2_174, by decide +kernel⟩) (by decide) (by decide) gw_2_76 cast_ISE (fun q9 => ?_)
      refine V.astore_n (L' := [(3, .ref q9), (0, .ref (ad 0)), (1, .int x), (2, .ref o)]) X dL_nextStep_15 rfl hB9 (by decide) rfl ?_
      refine V.iconst (v := nI 2) X dL_nextStep_16 rfl ?_
      exact V.iret (v := nI 2) X hE rfl rfl (Nat.le_of_ble_eq_true rfl) (Nat.le_of_ble_eq_true rfl) (pW_x (j := 1) hk9 ⟨g9, hg9, rfl⟩) dL_nextStep_17
    · cases (show (none : Option String) = some E9 from hE9)
  · rintro v9 u9 ⟨g9, hg9, hk9, rfl, rfl⟩
    refine V.i2l (v := (o2i (best9 S (ix x) (rN S 44 0))).toInt64) X dL_nextStep_7 rfl ?_
    refine V.outL (q0 := 33) (Wd9 := wC ad cy (sN S 21 g9) ++ cL9 cy o (vp_updL f 0 ((o2i (best9 S (ix x) (rN S 44 0))).toInt64)) :: F) X rfl rfl dL_nextStep_8 ?_
    refine V.goto (tgt := 18) X dL_nextStep_9 (by decide) ?_
    refine V.iconst (v := nI 0) X dL_nextStep_18 rfl ?_
    exact V.iret (v := nI 0) X hE rfl rfl (Nat.le_of_ble_eq_true rfl) (Nat.le_of_ble_eq_true rfl) (pW_r hk9 rfl ⟨g9, hg9, rfl⟩) dL_nextStep_19
set_option maxRecDepth 20000 in
set_option maxHeartbeats 4000000 in
theorem c_L_restOf (l : Launch) (D : va_G) (cy : Nat → ClassId) (ad : Nat → Nat) (S : St) (o : Nat) (f : Nat → Int64) (F : va_W) (x : Int32) (hI : Inv S) : CtrH l D cy yL_restOf (.codeWith yL_restOf cL_restOf 4 (some .int) [(0, 9, 12, 21)]) ({ frames := 32, cells := 4, slots := 24, locals := 1660 } : Room) [.ref (ad 0), .int x, .ref o] (wC ad cy S ++ cL9 cy o f :: F) (pW ad cy o f F (kS1 S x) ((nI (rst S (ix x))).toInt64) (fun T => ∃ g : Nat → Nat, (∀ j, g j < 1000000) ∧ T = sN S 21 g) (fun T => ∃ g : Nat → Nat, (∀ j, g j < 1000000) ∧ T = sN S 21 g)) := by
  refine CtrH.of (by decide) (Nat.le_of_ble_eq_true rfl) ?_
  intro M X hE hT hNc hB9
  replace X : VX l D M cy cL_restOf "RunbookerLaw" (some FieldType.int) ({ frames := 32, cells := 4, slots := 24, locals := 1660 } : Room) := X
  show V l D M 0 0 (wC ad cy S ++ cL9 cy o f :: F) [(0, .ref (ad 0)), (1, .int x), (2, .ref o)] 0 []
  refine V.aload_n X dL_restOf_0 rfl ?_
  refine V.iconst (v := nI 0) X dL_restOf_1 rfl ?_
  refine V.aload_n X dL_restOf_2 rfl ?_
  refine V.iload_n X dL_restOf_3 rfl ?_
  refine V.callV (C := "Runbooker") [.int x] X (c_X5_restOf l D cy ad S (cL9 cy o f :: F) x hI) mv_X5_restOf gw_4_138 ⟨⟨(Nat.le_of_ble_eq_true rfl), (Nat.le_of_ble_eq_true rfl)⟩, (Nat.le_of_ble_eq_true rfl), (Nat.le_of_ble_eq_true rfl)⟩ (q0 := 0) (ci := 7) rfl rfl rfl (Nat.le_of_ble_eq_true rfl) dL_restOf_4 ?_ ?_
  · rintro E9 u9 ⟨g9, j9, hg9, hk9, hE9, rfl⟩
    rcases j9 with _ | j9
    · obtain rfl : "java/util/NoSuchElementException" = E9 := Option.some.inj (show some "java/util/NoSuchElementException" = some E9 from hE9)
      refine VT.catch9 (E := "java/util/NoSuchElementException") (name := "java/util/NoSuchElementException") X hT hNc [] ⟨0, 9, 12, 21⟩ [] rfl (hp := 12) rfl (fun z hz => absurd hz List.not_mem_nil) (by decide) (by decide) gw_2_174 cast_NSE (fun q9 => ?_)
      refine V.astore_n (L' := [(3, .ref q9), (0, .ref (ad 0)), (1, .int x), (2, .ref o)]) X dL_restOf_12 rfl hB9 (by decide) rfl ?_
      refine V.iconst (v := nI 1) X dL_restOf_13 rfl ?_
      exact V.iret (v := nI 1) X hE rfl rfl (Nat.le_of_ble_eq_true rfl) (Nat.le_of_ble_eq_true rfl) (pW_x (j := 0) hk9 ⟨g9, hg9, rfl⟩) dL_restOf_14
    · cases (show (none : Option String) = some E9 from hE9)
  · rintro v9 u9 ⟨g9, hg9, hk9, rfl, rfl⟩
    refine V.i2l (v := (nI (rst S (ix x))).toInt64) X dL_restOf_7 rfl ?_
    refine V.outL (q0 := 33) (Wd9 := wC ad cy (sN S 21 g9) ++ cL9 cy o (vp_updL f 0 ((nI (rst S (ix x))).toInt64)) :: F) X rfl rfl dL_restOf_8 ?_
    refine V.goto (tgt := 15) X dL_restOf_9 (by decide) ?_
    refine V.iconst (v := nI 0) X dL_restOf_15 rfl ?_
    exact V.iret (v := nI 0) X hE rfl rfl (Nat.le_of_ble_eq_true rfl) (Nat.le_of_ble_eq_true rfl) (pW_r hk9 rfl ⟨g9, hg9, rfl⟩) dL_restOf_16
set_option maxRecDepth 20000 in
set_option maxHeartbeats 4000000 in
theorem c_L_restBySweep (l : Launch) (D : va_G) (cy : Nat → ClassId) (ad : Nat → Nat) (S : St) (o : Nat) (f : Nat → Int64) (F : va_W) (x : Int32) (hI : Inv S) : CtrH l D cy yL_restBySweep (.codeWith yL_restBySweep cL_restBySweep 4 (some .int) [(0, 9, 12, 21)]) ({ frames := 14, cells := 8, slots := 48, locals := 460 } : Room) [.ref (ad 0), .int x, .ref o] (wC ad cy S ++ cL9 cy o f :: F) (pW ad cy o f F (kS1 S x) ((nI (rst S (ix x))).toInt64) (fun T => ∃ g : Nat → Nat, (∀ j, g j < 1000000) ∧ T = sN S 21 g) (fun T => ∃ g : Nat → Nat, (∀ j, g j < 1000000) ∧ T = sN S 21 g)) := by
  refine CtrH.of (by decide) (Nat.le_of_ble_eq_true rfl) ?_
  intro M X hE hT hNc hB9
  replace X : VX l D M cy cL_restBySweep "RunbookerLaw" (some FieldType.int) ({ frames := 14, cells := 8, slots := 48, locals := 460 } : Room) := X
  show V l D M 0 0 (wC ad cy S ++ cL9 cy o f :: F) [(0, .ref (ad 0)), (1, .int x), (2, .ref o)] 0 []
  refine V.aload_n X dL_restBySweep_0 rfl ?_
  refine V.iconst (v := nI 0) X dL_restBySweep_1 rfl ?_
  refine V.aload_n X dL_restBySweep_2 rfl ?_
  refine V.iload_n X dL_restBySweep_3 rfl ?_
  refine V.callV (C := "Runbooker") [.int x] X (c_X5_restBySweep l D cy ad S (cL9 cy o f :: F) x hI) mv_X5_restBySweep gw_4_153 ⟨⟨(Nat.le_of_ble_eq_true rfl), (Nat.le_of_ble_eq_true rfl)⟩, (Nat.le_of_ble_eq_true rfl), (Nat.le_of_ble_eq_true rfl)⟩ (q0 := 0) (ci := 7) rfl rfl rfl (Nat.le_of_ble_eq_true rfl) dL_restBySweep_4 ?_ ?_
  · rintro E9 u9 ⟨g9, j9, hg9, hk9, hE9, rfl⟩
    rcases j9 with _ | j9
    · obtain rfl : "java/util/NoSuchElementException" = E9 := Option.some.inj (show some "java/util/NoSuchElementException" = some E9 from hE9)
      refine VT.catch9 (E := "java/util/NoSuchElementException") (name := "java/util/NoSuchElementException") X hT hNc [] ⟨0, 9, 12, 21⟩ [] rfl (hp := 12) rfl (fun z hz => absurd hz List.not_mem_nil) (by decide) (by decide) gw_2_174 cast_NSE (fun q9 => ?_)
      refine V.astore_n (L' := [(3, .ref q9), (0, .ref (ad 0)), (1, .int x), (2, .ref o)]) X dL_restBySweep_12 rfl hB9 (by decide) rfl ?_
      refine V.iconst (v := nI 1) X dL_restBySweep_13 rfl ?_
      exact V.iret (v := nI 1) X hE rfl rfl (Nat.le_of_ble_eq_true rfl) (Nat.le_of_ble_eq_true rfl) (pW_x (j := 0) hk9 ⟨g9, hg9, rfl⟩) dL_restBySweep_14
    · cases (show (none : Option String) = some E9 from hE9)
  · rintro v9 u9 ⟨g9, hg9, hk9, rfl, rfl⟩
    refine V.i2l (v := (nI (rst S (ix x))).toInt64) X dL_restBySweep_7 rfl ?_
    refine V.outL (q0 := 33) (Wd9 := wC ad cy (sN S 21 g9) ++ cL9 cy o (vp_updL f 0 ((nI (rst S (ix x))).toInt64)) :: F) X rfl rfl dL_restBySweep_8 ?_
    refine V.goto (tgt := 15) X dL_restBySweep_9 (by decide) ?_
    refine V.iconst (v := nI 0) X dL_restBySweep_15 rfl ?_
    exact V.iret (v := nI 0) X hE rfl rfl (Nat.le_of_ble_eq_true rfl) (Nat.le_of_ble_eq_true rfl) (pW_r hk9 rfl ⟨g9, hg9, rfl⟩) dL_restBySweep_16
set_option maxRecDepth 20000 in
set_option maxHeartbeats 4000000 in
theorem c_L_isSettled (l : Launch) (D : va_G) (cy : Nat → ClassId) (ad : Nat → Nat) (S : St) (o : Nat) (f : Nat → Int64) (F : va_W) (x : Int32) (hI : Inv S) : CtrH l D cy yL_isSettled (.codeWith yL_isSettled cL_isSettled 4 (some .int) [(0, 16, 19, 21)]) ({ frames := 14, cells := 8, slots := 48, locals := 460 } : Room) [.ref (ad 0), .int x, .ref o] (wC ad cy S ++ cL9 cy o f :: F) (pW ad cy o f F (kS1 S x) (b2l (rB S 41 0 && set9 S (ix x))) (fun T => T = S) (fun T => T = S)) := by
  refine CtrH.of (by decide) (Nat.le_of_ble_eq_true rfl) ?_
  intro M X hE hT hNc hB9
  replace X : VX l D M cy cL_isSettled "RunbookerLaw" (some FieldType.int) ({ frames := 14, cells := 8, slots := 48, locals := 460 } : Room) := X
  show V l D M 0 0 (wC ad cy S ++ cL9 cy o f :: F) [(0, .ref (ad 0)), (1, .int x), (2, .ref o)] 0 []
  refine V.aload_n X dL_isSettled_0 rfl ?_
  refine V.iconst (v := nI 0) X dL_isSettled_1 rfl ?_
  refine V.aload_n X dL_isSettled_2 rfl ?_
  refine V.iload_n X dL_isSettled_3 rfl ?_
  refine V.callV (C := "Runbooker") [.int x] X (c_X5_isSettled l D cy ad S (cL9 cy o f :: F) x hI) mv_X5_isSettled gw_4_160 ⟨⟨(Nat.le_of_ble_eq_true rfl), (Nat.le_of_ble_eq_true rfl)⟩, (Nat.le_of_ble_eq_true rfl), (Nat.le_of_ble_eq_true rfl)⟩ (q0 := 0) (ci := 7) rfl rfl rfl (Nat.le_of_ble_eq_true rfl) dL_isSettled_4 ?_ ?_
  · rintro E9 u9 ⟨j9, hk9, hE9, rfl⟩
    rcases j9 with _ | j9
    · obtain rfl : "java/util/NoSuchElementException" = E9 := Option.some.inj (show some "java/util/NoSuchElementException" = some E9 from hE9)
      refine VT.catch9 (E := "java/util/NoSuchElementException") (name := "java/util/NoSuchElementException") X hT hNc [] ⟨0, 16, 19, 21⟩ [] rfl (hp := 19) rfl (fun z hz => absurd hz List.not_mem_nil) (by decide) (by decide) gw_2_174 cast_NSE (fun q9 => ?_)
      refine V.astore_n (L' := [(3, .ref q9), (0, .ref (ad 0)), (1, .int x), (2, .ref o)]) X dL_isSettled_19 rfl hB9 (by decide) rfl ?_
      refine V.iconst (v := nI 1) X dL_isSettled_20 rfl ?_
      exact V.iret (v := nI 1) X hE rfl rfl (Nat.le_of_ble_eq_true rfl) (Nat.le_of_ble_eq_true rfl) (pW_x (j := 0) hk9 rfl) dL_isSettled_21
    · cases (show (none : Option String) = some E9 from hE9)
  · rintro v9 u9 ⟨hk9, rfl, rfl⟩
    refine V.if_eq (tgt := 14) X dL_isSettled_7 (by decide) b2i_0 b2i_n0 (fun (hb9 : (rB S 41 0 && set9 S (ix x)) = false) => ?_) (fun (hb9 : (rB S 41 0 && set9 S (ix x)) = true) => ?_)
    · refine V.lconst (v := 0) X dL_isSettled_14 rfl ?_
      refine V.outL (q0 := 33) (Wd9 := wC ad cy S ++ cL9 cy o (vp_updL f 0 0) :: F) X rfl rfl dL_isSettled_15 ?_
      refine V.goto (tgt := 22) X dL_isSettled_16 (by decide) ?_
      refine V.iconst (v := nI 0) X dL_isSettled_22 rfl ?_
      exact V.iret (v := nI 0) X hE rfl rfl (Nat.le_of_ble_eq_true rfl) (Nat.le_of_ble_eq_true rfl) (pW_r hk9 (by rw [hb9]; rfl) rfl) dL_isSettled_23
    · refine V.lconst (v := 1) X dL_isSettled_10 rfl ?_
      refine V.goto (tgt := 15) X dL_isSettled_11 (by decide) ?_
      refine V.outL (q0 := 33) (Wd9 := wC ad cy S ++ cL9 cy o (vp_updL f 0 1) :: F) X rfl rfl dL_isSettled_15 ?_
      refine V.goto (tgt := 22) X dL_isSettled_16 (by decide) ?_
      refine V.iconst (v := nI 0) X dL_isSettled_22 rfl ?_
      exact V.iret (v := nI 0) X hE rfl rfl (Nat.le_of_ble_eq_true rfl) (Nat.le_of_ble_eq_true rfl) (pW_r hk9 (by rw [hb9]; rfl) rfl) dL_isSettled_23
set_option maxRecDepth 20000 in
set_option maxHeartbeats 4000000 in
theorem c_L_handoverEnd (l : Launch) (D : va_G) (cy : Nat → ClassId) (ad : Nat → Nat) (S : St) (o : Nat) (f : Nat → Int64) (F : va_W) (hI : Inv S) : CtrH l D cy yL_handoverEnd (.codeWith yL_handoverEnd cL_handoverEnd 3 (some .int) [(0, 8, 11, 15)]) ({ frames := 14, cells := 8, slots := 48, locals := 460 } : Room) [.ref (ad 0), .ref o] (wC ad cy S ++ cL9 cy o f :: F) (pW ad cy o f F (kHE S) ((nI (rN S 49 0)).toInt64) (fun T => T = S) (fun T => T = S)) := by
  refine CtrH.of (by decide) (Nat.le_of_ble_eq_true rfl) ?_
  intro M X hE hT hNc hB9
  replace X : VX l D M cy cL_handoverEnd "RunbookerLaw" (some FieldType.int) ({ frames := 14, cells := 8, slots := 48, locals := 460 } : Room) := X
  show V l D M 0 0 (wC ad cy S ++ cL9 cy o f :: F) [(0, .ref (ad 0)), (1, .ref o)] 0 []
  refine V.aload_n X dL_handoverEnd_0 rfl ?_
  refine V.iconst (v := nI 0) X dL_handoverEnd_1 rfl ?_
  refine V.aload_n X dL_handoverEnd_2 rfl ?_
  refine V.callV (C := "Runbooker") [] X (c_X5_handoverEnd l D cy ad S (cL9 cy o f :: F) hI) mv_X5_handoverEnd gw_4_167 ⟨⟨(Nat.le_of_ble_eq_true rfl), (Nat.le_of_ble_eq_true rfl)⟩, (Nat.le_of_ble_eq_true rfl), (Nat.le_of_ble_eq_true rfl)⟩ (q0 := 0) (ci := 7) rfl rfl rfl (Nat.le_of_ble_eq_true rfl) dL_handoverEnd_3 ?_ ?_
  · rintro E9 u9 ⟨j9, hk9, hE9, rfl⟩
    rcases j9 with _ | j9
    · obtain rfl : "java/lang/IllegalStateException" = E9 := Option.some.inj (show some "java/lang/IllegalStateException" = some E9 from hE9)
      refine VT.catch9 (E := "java/lang/IllegalStateException") (name := "java/lang/IllegalStateException") X hT hNc [] ⟨0, 8, 11, 15⟩ [] rfl (hp := 11) rfl (fun z hz => absurd hz List.not_mem_nil) (by decide) (by decide) gw_2_76 cast_ISE (fun q9 => ?_)
      refine V.astore_n (L' := [(2, .ref q9), (0, .ref (ad 0)), (1, .ref o)]) X dL_handoverEnd_11 rfl hB9 (by decide) rfl ?_
      refine V.iconst (v := nI 1) X dL_handoverEnd_12 rfl ?_
      exact V.iret (v := nI 1) X hE rfl rfl (Nat.le_of_ble_eq_true rfl) (Nat.le_of_ble_eq_true rfl) (pW_x (j := 0) hk9 rfl) dL_handoverEnd_13
    · cases (show (none : Option String) = some E9 from hE9)
  · rintro v9 u9 ⟨hk9, rfl, rfl⟩
    refine V.i2l (v := (nI (rN S 49 0)).toInt64) X dL_handoverEnd_6 rfl ?_
    refine V.outL (q0 := 33) (Wd9 := wC ad cy S ++ cL9 cy o (vp_updL f 0 ((nI (rN S 49 0)).toInt64)) :: F) X rfl rfl dL_handoverEnd_7 ?_
    refine V.goto (tgt := 14) X dL_handoverEnd_8 (by decide) ?_
    refine V.iconst (v := nI 0) X dL_handoverEnd_14 rfl ?_
    exact V.iret (v := nI 0) X hE rfl rfl (Nat.le_of_ble_eq_true rfl) (Nat.le_of_ble_eq_true rfl) (pW_r hk9 rfl rfl) dL_handoverEnd_15
set_option maxRecDepth 20000 in
set_option maxHeartbeats 4000000 in
theorem c_L_isPaused (l : Launch) (D : va_G) (cy : Nat → ClassId) (ad : Nat → Nat) (S : St) (o : Nat) (f : Nat → Int64) (F : va_W) (y : Int32) (hI : Inv S) : CtrH l D cy yL_isPaused (.codeWith yL_isPaused cL_isPaused 4 (some .int) [(0, 16, 19, 13)]) ({ frames := 14, cells := 8, slots := 48, locals := 460 } : Room) [.ref (ad 0), .int y, .ref o] (wC ad cy S ++ cL9 cy o f :: F) (pW ad cy o f F (kR1 y) (b2l (paus9 S y)) (fun T => T = S) (fun T => T = S)) := by
  refine CtrH.of (by decide) (Nat.le_of_ble_eq_true rfl) ?_
  intro M X hE hT hNc hB9
  replace X : VX l D M cy cL_isPaused "RunbookerLaw" (some FieldType.int) ({ frames := 14, cells := 8, slots := 48, locals := 460 } : Room) := X
  show V l D M 0 0 (wC ad cy S ++ cL9 cy o f :: F) [(0, .ref (ad 0)), (1, .int y), (2, .ref o)] 0 []
  refine V.aload_n X dL_isPaused_0 rfl ?_
  refine V.iconst (v := nI 0) X dL_isPaused_1 rfl ?_
  refine V.aload_n X dL_isPaused_2 rfl ?_
  refine V.iload_n X dL_isPaused_3 rfl ?_
  refine V.callV (C := "Runbooker") [.int y] X (c_X5_isPaused l D cy ad S (cL9 cy o f :: F) y hI) mv_X5_isPaused gw_4_175 ⟨⟨(Nat.le_of_ble_eq_true rfl), (Nat.le_of_ble_eq_true rfl)⟩, (Nat.le_of_ble_eq_true rfl), (Nat.le_of_ble_eq_true rfl)⟩ (q0 := 0) (ci := 7) rfl rfl rfl (Nat.le_of_ble_eq_true rfl) dL_isPaused_4 ?_ ?_
  · rintro E9 u9 ⟨j9, hk9, hE9, rfl⟩
    rcases j9 with _ | j9
    · obtain rfl : "java/lang/IllegalArgumentException" = E9 := Option.some.inj (show some "java/lang/IllegalArgumentException" = some E9 from hE9)
      refine VT.catch9 (E := "java/lang/IllegalArgumentException") (name := "java/lang/IllegalArgumentException") X hT hNc [] ⟨0, 16, 19, 13⟩ [] rfl (hp := 19) rfl (fun z hz => absurd hz List.not_mem_nil) (by decide) (by decide) gw_2_75 cast_IAE (fun q9 => ?_)
      refine V.astore_n (L' := [(3, .ref q9), (0, .ref (ad 0)), (1, .int y), (2, .ref o)]) X dL_isPaused_19 rfl hB9 (by decide) rfl ?_
      refine V.iconst (v := nI 1) X dL_isPaused_20 rfl ?_
      exact V.iret (v := nI 1) X hE rfl rfl (Nat.le_of_ble_eq_true rfl) (Nat.le_of_ble_eq_true rfl) (pW_x (j := 0) hk9 rfl) dL_isPaused_21
    · cases (show (none : Option String) = some E9 from hE9)
  · rintro v9 u9 ⟨hk9, rfl, rfl⟩
    refine V.if_eq (tgt := 14) X dL_isPaused_7 (by decide) b2i_0 b2i_n0 (fun (hb9 : (paus9 S y) = false) => ?_) (fun (hb9 : (paus9 S y) = true) => ?_)
    · refine V.lconst (v := 0) X dL_isPaused_14 rfl ?_
      refine V.outL (q0 := 33) (Wd9 := wC ad cy S ++ cL9 cy o (vp_updL f 0 0) :: F) X rfl rfl dL_isPaused_15 ?_
      refine V.goto (tgt := 22) X dL_isPaused_16 (by decide) ?_
      refine V.iconst (v := nI 0) X dL_isPaused_22 rfl ?_
      exact V.iret (v := nI 0) X hE rfl rfl (Nat.le_of_ble_eq_true rfl) (Nat.le_of_ble_eq_true rfl) (pW_r hk9 (by rw [hb9]; rfl) rfl) dL_isPaused_23
    · refine V.lconst (v := 1) X dL_isPaused_10 rfl ?_
      refine V.goto (tgt := 15) X dL_isPaused_11 (by decide) ?_
      refine V.outL (q0 := 33) (Wd9 := wC ad cy S ++ cL9 cy o (vp_updL f 0 1) :: F) X rfl rfl dL_isPaused_15 ?_
      refine V.goto (tgt := 22) X dL_isPaused_16 (by decide) ?_
      refine V.iconst (v := nI 0) X dL_isPaused_22 rfl ?_
      exact V.iret (v := nI 0) X hE rfl rfl (Nat.le_of_ble_eq_true rfl) (Nat.le_of_ble_eq_true rfl) (pW_r hk9 (by rw [hb9]; rfl) rfl) dL_isPaused_23
set_option maxRecDepth 20000 in
set_option maxHeartbeats 4000000 in
theorem c_L_workedOn (l : Launch) (D : va_G) (cy : Nat → ClassId) (ad : Nat → Nat) (S : St) (o : Nat) (f : Nat → Int64) (F : va_W) (x : Int32) (hI : Inv S) : CtrH l D cy yL_workedOn (.codeWith yL_workedOn cL_workedOn 4 (some .int) [(0, 9, 12, 21), (0, 9, 15, 15)]) ({ frames := 14, cells := 8, slots := 48, locals := 460 } : Room) [.ref (ad 0), .int x, .ref o] (wC ad cy S ++ cL9 cy o f :: F) (pW ad cy o f F (kWO S x) ((nI (rN S 26 (ix x))).toInt64) (fun T => T = S) (fun T => T = S)) := by
  refine CtrH.of (by decide) (Nat.le_of_ble_eq_true rfl) ?_
  intro M X hE hT hNc hB9
  replace X : VX l D M cy cL_workedOn "RunbookerLaw" (some FieldType.int) ({ frames := 14, cells := 8, slots := 48, locals := 460 } : Room) := X
  show V l D M 0 0 (wC ad cy S ++ cL9 cy o f :: F) [(0, .ref (ad 0)), (1, .int x), (2, .ref o)] 0 []
  refine V.aload_n X dL_workedOn_0 rfl ?_
  refine V.iconst (v := nI 0) X dL_workedOn_1 rfl ?_
  refine V.aload_n X dL_workedOn_2 rfl ?_
  refine V.iload_n X dL_workedOn_3 rfl ?_
  refine V.callV (C := "Runbooker") [.int x] X (c_X5_workedOn l D cy ad S (cL9 cy o f :: F) x hI) mv_X5_workedOn gw_4_182 ⟨⟨(Nat.le_of_ble_eq_true rfl), (Nat.le_of_ble_eq_true rfl)⟩, (Nat.le_of_ble_eq_true rfl), (Nat.le_of_ble_eq_true rfl)⟩ (q0 := 0) (ci := 7) rfl rfl rfl (Nat.le_of_ble_eq_true rfl) dL_workedOn_4 ?_ ?_
  · rintro E9 u9 ⟨j9, hk9, hE9, rfl⟩
    rcases j9 with _ | _ | j9
    · obtain rfl : "java/util/NoSuchElementException" = E9 := Option.some.inj (show some "java/util/NoSuchElementException" = some E9 from hE9)
      refine VT.catch9 (E := "java/util/NoSuchElementException") (name := "java/util/NoSuchElementException") X hT hNc [] ⟨0, 9, 12, 21⟩ [⟨0, 9, 15, 15⟩] rfl (hp := 12) rfl (fun z hz => absurd hz List.not_mem_nil) (by decide) (by decide) gw_2_174 cast_NSE (fun q9 => ?_)
      refine V.astore_n (L' := [(3, .ref q9), (0, .ref (ad 0)), (1, .int x), (2, .ref o)]) X dL_workedOn_12 rfl hB9 (by decide) rfl ?_
      refine V.iconst (v := nI 1) X dL_workedOn_13 rfl ?_
      exact V.iret (v := nI 1) X hE rfl rfl (Nat.le_of_ble_eq_true rfl) (Nat.le_of_ble_eq_true rfl) (pW_x (j := 0) hk9 rfl) dL_workedOn_14
    · obtain rfl : "java/lang/IllegalStateException" = E9 := Option.some.inj (show some "java/lang/IllegalStateException" = some E9 from hE9)
      refine VT.catch9 (E := "java/lang/IllegalStateException") (name := "java/lang/IllegalStateException") X hT hNc [⟨0, 9, 12, 21⟩] ⟨0, 9, 15, 15⟩ [] rfl (hp := 15) rfl (fun z hz => by simp only [List.mem_cons, List.not_mem_nil, or_false] at hz; rcases hz with rfl <;> first | exact ⟨by decide, _, gw_2_174, by decide +kernel⟩) (by decide) (by decide) gw_2_76 cast_ISE (fun q9 => ?_)
      refine V.astore_n (L' := [(3, .ref q9), (0, .ref (ad 0)), (1, .int x), (2, .ref o)]) X dL_workedOn_15 rfl hB9 (by decide) rfl ?_
      refine V.iconst (v := nI 2) X dL_workedOn_16 rfl ?_
      exact V.iret (v := nI 2) X hE rfl rfl (Nat.le_of_ble_eq_true rfl) (Nat.le_of_ble_eq_true rfl) (pW_x (j := 1) hk9 rfl) dL_workedOn_17
    · cases (show (none : Option String) = some E9 from hE9)
  · rintro v9 u9 ⟨hk9, rfl, rfl⟩
    refine V.i2l (v := (nI (rN S 26 (ix x))).toInt64) X dL_workedOn_7 rfl ?_
    refine V.outL (q0 := 33) (Wd9 := wC ad cy S ++ cL9 cy o (vp_updL f 0 ((nI (rN S 26 (ix x))).toInt64)) :: F) X rfl rfl dL_workedOn_8 ?_
    refine V.goto (tgt := 18) X dL_workedOn_9 (by decide) ?_
    refine V.iconst (v := nI 0) X dL_workedOn_18 rfl ?_
    exact V.iret (v := nI 0) X hE rfl rfl (Nat.le_of_ble_eq_true rfl) (Nat.le_of_ble_eq_true rfl) (pW_r hk9 rfl rfl) dL_workedOn_19
set_option maxRecDepth 20000 in
set_option maxHeartbeats 4000000 in
theorem c_L_lastDone (l : Launch) (D : va_G) (cy : Nat → ClassId) (ad : Nat → Nat) (S : St) (o : Nat) (f : Nat → Int64) (F : va_W) (hI : Inv S) : CtrH l D cy yL_lastDone (.codeWith yL_lastDone cL_lastDone 3 (some .int) [(0, 8, 11, 15)]) ({ frames := 14, cells := 8, slots := 48, locals := 460 } : Room) [.ref (ad 0), .ref o] (wC ad cy S ++ cL9 cy o f :: F) (pW ad cy o f F (kLD S) ((o2i (ltd9 S)).toInt64) (fun T => T = S) (fun T => T = S)) := by
  refine CtrH.of (by decide) (Nat.le_of_ble_eq_true rfl) ?_
  intro M X hE hT hNc hB9
  replace X : VX l D M cy cL_lastDone "RunbookerLaw" (some FieldType.int) ({ frames := 14, cells := 8, slots := 48, locals := 460 } : Room) := X
  show V l D M 0 0 (wC ad cy S ++ cL9 cy o f :: F) [(0, .ref (ad 0)), (1, .ref o)] 0 []
  refine V.aload_n X dL_lastDone_0 rfl ?_
  refine V.iconst (v := nI 0) X dL_lastDone_1 rfl ?_
  refine V.aload_n X dL_lastDone_2 rfl ?_
  refine V.callV (C := "Runbooker") [] X (c_X5_lastDone l D cy ad S (cL9 cy o f :: F) hI) mv_X5_lastDone gw_4_190 ⟨⟨(Nat.le_of_ble_eq_true rfl), (Nat.le_of_ble_eq_true rfl)⟩, (Nat.le_of_ble_eq_true rfl), (Nat.le_of_ble_eq_true rfl)⟩ (q0 := 0) (ci := 7) rfl rfl rfl (Nat.le_of_ble_eq_true rfl) dL_lastDone_3 ?_ ?_
  · rintro E9 u9 ⟨j9, hk9, hE9, rfl⟩
    rcases j9 with _ | j9
    · obtain rfl : "java/lang/IllegalStateException" = E9 := Option.some.inj (show some "java/lang/IllegalStateException" = some E9 from hE9)
      refine VT.catch9 (E := "java/lang/IllegalStateException") (name := "java/lang/IllegalStateException") X hT hNc [] ⟨0, 8, 11, 15⟩ [] rfl (hp := 11) rfl (fun z hz => absurd hz List.not_mem_nil) (by decide) (by decide) gw_2_76 cast_ISE (fun q9 => ?_)
      refine V.astore_n (L' := [(2, .ref q9), (0, .ref (ad 0)), (1, .ref o)]) X dL_lastDone_11 rfl hB9 (by decide) rfl ?_
      refine V.iconst (v := nI 1) X dL_lastDone_12 rfl ?_
      exact V.iret (v := nI 1) X hE rfl rfl (Nat.le_of_ble_eq_true rfl) (Nat.le_of_ble_eq_true rfl) (pW_x (j := 0) hk9 rfl) dL_lastDone_13
    · cases (show (none : Option String) = some E9 from hE9)
  · rintro v9 u9 ⟨hk9, rfl, rfl⟩
    refine V.i2l (v := (o2i (ltd9 S)).toInt64) X dL_lastDone_6 rfl ?_
    refine V.outL (q0 := 33) (Wd9 := wC ad cy S ++ cL9 cy o (vp_updL f 0 ((o2i (ltd9 S)).toInt64)) :: F) X rfl rfl dL_lastDone_7 ?_
    refine V.goto (tgt := 14) X dL_lastDone_8 (by decide) ?_
    refine V.iconst (v := nI 0) X dL_lastDone_14 rfl ?_
    exact V.iret (v := nI 0) X hE rfl rfl (Nat.le_of_ble_eq_true rfl) (Nat.le_of_ble_eq_true rfl) (pW_r hk9 rfl rfl) dL_lastDone_15
set_option maxRecDepth 20000 in
set_option maxHeartbeats 4000000 in
theorem c_L_signAt (l : Launch) (D : va_G) (cy : Nat → ClassId) (ad : Nat → Nat) (S : St) (o : Nat) (f : Nat → Int64) (F : va_W) (x : Int32) (hI : Inv S) : CtrH l D cy yL_signAt (.codeWith yL_signAt cL_signAt 4 (some .int) [(0, 9, 12, 21)]) ({ frames := 14, cells := 8, slots := 48, locals := 460 } : Room) [.ref (ad 0), .int x, .ref o] (wC ad cy S ++ cL9 cy o f :: F) (pW ad cy o f F (kE1 S x) ((c2i (rC S 29 (ix x))).toInt64) (fun T => T = S) (fun T => T = S)) := by
  refine CtrH.of (by decide) (Nat.le_of_ble_eq_true rfl) ?_
  intro M X hE hT hNc hB9
  replace X : VX l D M cy cL_signAt "RunbookerLaw" (some FieldType.int) ({ frames := 14, cells := 8, slots := 48, locals := 460 } : Room) := X
  show V l D M 0 0 (wC ad cy S ++ cL9 cy o f :: F) [(0, .ref (ad 0)), (1, .int x), (2, .ref o)] 0 []
  refine V.aload_n X dL_signAt_0 rfl ?_
  refine V.iconst (v := nI 0) X dL_signAt_1 rfl ?_
  refine V.aload_n X dL_signAt_2 rfl ?_
  refine V.iload_n X dL_signAt_3 rfl ?_
  refine V.callV (C := "Runbooker") [.int x] X (c_X5_signAt l D cy ad S (cL9 cy o f :: F) x hI) mv_X5_signAt gw_4_199 ⟨⟨(Nat.le_of_ble_eq_true rfl), (Nat.le_of_ble_eq_true rfl)⟩, (Nat.le_of_ble_eq_true rfl), (Nat.le_of_ble_eq_true rfl)⟩ (q0 := 0) (ci := 7) rfl rfl rfl (Nat.le_of_ble_eq_true rfl) dL_signAt_4 ?_ ?_
  · rintro E9 u9 ⟨j9, hk9, hE9, rfl⟩
    rcases j9 with _ | j9
    · obtain rfl : "java/util/NoSuchElementException" = E9 := Option.some.inj (show some "java/util/NoSuchElementException" = some E9 from hE9)
      refine VT.catch9 (E := "java/util/NoSuchElementException") (name := "java/util/NoSuchElementException") X hT hNc [] ⟨0, 9, 12, 21⟩ [] rfl (hp := 12) rfl (fun z hz => absurd hz List.not_mem_nil) (by decide) (by decide) gw_2_174 cast_NSE (fun q9 => ?_)
      refine V.astore_n (L' := [(3, .ref q9), (0, .ref (ad 0)), (1, .int x), (2, .ref o)]) X dL_signAt_12 rfl hB9 (by decide) rfl ?_
      refine V.iconst (v := nI 1) X dL_signAt_13 rfl ?_
      exact V.iret (v := nI 1) X hE rfl rfl (Nat.le_of_ble_eq_true rfl) (Nat.le_of_ble_eq_true rfl) (pW_x (j := 0) hk9 rfl) dL_signAt_14
    · cases (show (none : Option String) = some E9 from hE9)
  · rintro v9 u9 ⟨hk9, rfl, rfl⟩
    refine V.i2l (v := (c2i (rC S 29 (ix x))).toInt64) X dL_signAt_7 rfl ?_
    refine V.outL (q0 := 33) (Wd9 := wC ad cy S ++ cL9 cy o (vp_updL f 0 ((c2i (rC S 29 (ix x))).toInt64)) :: F) X rfl rfl dL_signAt_8 ?_
    refine V.goto (tgt := 15) X dL_signAt_9 (by decide) ?_
    refine V.iconst (v := nI 0) X dL_signAt_15 rfl ?_
    exact V.iret (v := nI 0) X hE rfl rfl (Nat.le_of_ble_eq_true rfl) (Nat.le_of_ble_eq_true rfl) (pW_r hk9 rfl rfl) dL_signAt_16
set_option maxRecDepth 20000 in
set_option maxHeartbeats 4000000 in
theorem c_L_stepAt (l : Launch) (D : va_G) (cy : Nat → ClassId) (ad : Nat → Nat) (S : St) (o : Nat) (f : Nat → Int64) (F : va_W) (x : Int32) (hI : Inv S) : CtrH l D cy yL_stepAt (.codeWith yL_stepAt cL_stepAt 4 (some .int) [(0, 9, 12, 21)]) ({ frames := 14, cells := 8, slots := 48, locals := 460 } : Room) [.ref (ad 0), .int x, .ref o] (wC ad cy S ++ cL9 cy o f :: F) (pW ad cy o f F (kE1 S x) ((o2i (rO S 30 (ix x))).toInt64) (fun T => T = S) (fun T => T = S)) := by
  refine CtrH.of (by decide) (Nat.le_of_ble_eq_true rfl) ?_
  intro M X hE hT hNc hB9
  replace X : VX l D M cy cL_stepAt "RunbookerLaw" (some FieldType.int) ({ frames := 14, cells := 8, slots := 48, locals := 460 } : Room) := X
  show V l D M 0 0 (wC ad cy S ++ cL9 cy o f :: F) [(0, .ref (ad 0)), (1, .int x), (2, .ref o)] 0 []
  refine V.aload_n X dL_stepAt_0 rfl ?_
  refine V.iconst (v := nI 0) X dL_stepAt_1 rfl ?_
  refine V.aload_n X dL_stepAt_2 rfl ?_
  refine V.iload_n X dL_stepAt_3 rfl ?_
  refine V.callV (C := "Runbooker") [.int x] X (c_X5_stepAt l D cy ad S (cL9 cy o f :: F) x hI) mv_X5_stepAt gw_4_215 ⟨⟨(Nat.le_of_ble_eq_true rfl), (Nat.le_of_ble_eq_true rfl)⟩, (Nat.le_of_ble_eq_true rfl), (Nat.le_of_ble_eq_true rfl)⟩ (q0 := 0) (ci := 7) rfl rfl rfl (Nat.le_of_ble_eq_true rfl) dL_stepAt_4 ?_ ?_
  · rintro E9 u9 ⟨j9, hk9, hE9, rfl⟩
    rcases j9 with _ | j9
    · obtain rfl : "java/util/NoSuchElementException" = E9 := Option.some.inj (show some "java/util/NoSuchElementException" = some E9 from hE9)
      refine VT.catch9 (E := "java/util/NoSuchElementException") (name := "java/util/NoSuchElementException") X hT hNc [] ⟨0, 9, 12, 21⟩ [] rfl (hp := 12) rfl (fun z hz => absurd hz List.not_mem_nil) (by decide) (by decide) gw_2_174 cast_NSE (fun q9 => ?_)
      refine V.astore_n (L' := [(3, .ref q9), (0, .ref (ad 0)), (1, .int x), (2, .ref o)]) X dL_stepAt_12 rfl hB9 (by decide) rfl ?_
      refine V.iconst (v := nI 1) X dL_stepAt_13 rfl ?_
      exact V.iret (v := nI 1) X hE rfl rfl (Nat.le_of_ble_eq_true rfl) (Nat.le_of_ble_eq_true rfl) (pW_x (j := 0) hk9 rfl) dL_stepAt_14
    · cases (show (none : Option String) = some E9 from hE9)
  · rintro v9 u9 ⟨hk9, rfl, rfl⟩
    refine V.i2l (v := (o2i (rO S 30 (ix x))).toInt64) X dL_stepAt_7 rfl ?_
    refine V.outL (q0 := 33) (Wd9 := wC ad cy S ++ cL9 cy o (vp_updL f 0 ((o2i (rO S 30 (ix x))).toInt64)) :: F) X rfl rfl dL_stepAt_8 ?_
    refine V.goto (tgt := 15) X dL_stepAt_9 (by decide) ?_
    refine V.iconst (v := nI 0) X dL_stepAt_15 rfl ?_
    exact V.iret (v := nI 0) X hE rfl rfl (Nat.le_of_ble_eq_true rfl) (Nat.le_of_ble_eq_true rfl) (pW_r hk9 rfl rfl) dL_stepAt_16
set_option maxRecDepth 20000 in
set_option maxHeartbeats 4000000 in
theorem c_L_personAt (l : Launch) (D : va_G) (cy : Nat → ClassId) (ad : Nat → Nat) (S : St) (o : Nat) (f : Nat → Int64) (F : va_W) (x : Int32) (hI : Inv S) : CtrH l D cy yL_personAt (.codeWith yL_personAt cL_personAt 4 (some .int) [(0, 9, 12, 21)]) ({ frames := 14, cells := 8, slots := 48, locals := 460 } : Room) [.ref (ad 0), .int x, .ref o] (wC ad cy S ++ cL9 cy o f :: F) (pW ad cy o f F (kE1 S x) ((o2i (rO S 31 (ix x))).toInt64) (fun T => T = S) (fun T => T = S)) := by
  refine CtrH.of (by decide) (Nat.le_of_ble_eq_true rfl) ?_
  intro M X hE hT hNc hB9
  replace X : VX l D M cy cL_personAt "RunbookerLaw" (some FieldType.int) ({ frames := 14, cells := 8, slots := 48, locals := 460 } : Room) := X
  show V l D M 0 0 (wC ad cy S ++ cL9 cy o f :: F) [(0, .ref (ad 0)), (1, .int x), (2, .ref o)] 0 []
  refine V.aload_n X dL_personAt_0 rfl ?_
  refine V.iconst (v := nI 0) X dL_personAt_1 rfl ?_
  refine V.aload_n X dL_personAt_2 rfl ?_
  refine V.iload_n X dL_personAt_3 rfl ?_
  refine V.callV (C := "Runbooker") [.int x] X (c_X5_personAt l D cy ad S (cL9 cy o f :: F) x hI) mv_X5_personAt gw_4_222 ⟨⟨(Nat.le_of_ble_eq_true rfl), (Nat.le_of_ble_eq_true rfl)⟩, (Nat.le_of_ble_eq_true rfl), (Nat.le_of_ble_eq_true rfl)⟩ (q0 := 0) (ci := 7) rfl rfl rfl (Nat.le_of_ble_eq_true rfl) dL_personAt_4 ?_ ?_
  · rintro E9 u9 ⟨j9, hk9, hE9, rfl⟩
    rcases j9 with _ | j9
    · obtain rfl : "java/util/NoSuchElementException" = E9 := Option.some.inj (show some "java/util/NoSuchElementException" = some E9 from hE9)
      refine VT.catch9 (E := "java/util/NoSuchElementException") (name := "java/util/NoSuchElementException") X hT hNc [] ⟨0, 9, 12, 21⟩ [] rfl (hp := 12) rfl (fun z hz => absurd hz List.not_mem_nil) (by decide) (by decide) gw_2_174 cast_NSE (fun q9 => ?_)
      refine V.astore_n (L' := [(3, .ref q9), (0, .ref (ad 0)), (1, .int x), (2, .ref o)]) X dL_personAt_12 rfl hB9 (by decide) rfl ?_
      refine V.iconst (v := nI 1) X dL_personAt_13 rfl ?_
      exact V.iret (v := nI 1) X hE rfl rfl (Nat.le_of_ble_eq_true rfl) (Nat.le_of_ble_eq_true rfl) (pW_x (j := 0) hk9 rfl) dL_personAt_14
    · cases (show (none : Option String) = some E9 from hE9)
  · rintro v9 u9 ⟨hk9, rfl, rfl⟩
    refine V.i2l (v := (o2i (rO S 31 (ix x))).toInt64) X dL_personAt_7 rfl ?_
    refine V.outL (q0 := 33) (Wd9 := wC ad cy S ++ cL9 cy o (vp_updL f 0 ((o2i (rO S 31 (ix x))).toInt64)) :: F) X rfl rfl dL_personAt_8 ?_
    refine V.goto (tgt := 15) X dL_personAt_9 (by decide) ?_
    refine V.iconst (v := nI 0) X dL_personAt_15 rfl ?_
    exact V.iret (v := nI 0) X hE rfl rfl (Nat.le_of_ble_eq_true rfl) (Nat.le_of_ble_eq_true rfl) (pW_r hk9 rfl rfl) dL_personAt_16
set_option maxRecDepth 20000 in
set_option maxHeartbeats 4000000 in
theorem c_L_minuteAt (l : Launch) (D : va_G) (cy : Nat → ClassId) (ad : Nat → Nat) (S : St) (o : Nat) (f : Nat → Int64) (F : va_W) (x : Int32) (hI : Inv S) : CtrH l D cy yL_minuteAt (.codeWith yL_minuteAt cL_minuteAt 4 (some .int) [(0, 9, 12, 21)]) ({ frames := 14, cells := 8, slots := 48, locals := 460 } : Room) [.ref (ad 0), .int x, .ref o] (wC ad cy S ++ cL9 cy o f :: F) (pW ad cy o f F (kE1 S x) ((nI (rN S 32 (ix x))).toInt64) (fun T => T = S) (fun T => T = S)) := by
  refine CtrH.of (by decide) (Nat.le_of_ble_eq_true rfl) ?_
  intro M X hE hT hNc hB9
  replace X : VX l D M cy cL_minuteAt "RunbookerLaw" (some FieldType.int) ({ frames := 14, cells := 8, slots := 48, locals := 460 } : Room) := X
  show V l D M 0 0 (wC ad cy S ++ cL9 cy o f :: F) [(0, .ref (ad 0)), (1, .int x), (2, .ref o)] 0 []
  refine V.aload_n X dL_minuteAt_0 rfl ?_
  refine V.iconst (v := nI 0) X dL_minuteAt_1 rfl ?_
  refine V.aload_n X dL_minuteAt_2 rfl ?_
  refine V.iload_n X dL_minuteAt_3 rfl ?_
  refine V.callV (C := "Runbooker") [.int x] X (c_X5_minuteAt l D cy ad S (cL9 cy o f :: F) x hI) mv_X5_minuteAt gw_4_229 ⟨⟨(Nat.le_of_ble_eq_true rfl), (Nat.le_of_ble_eq_true rfl)⟩, (Nat.le_of_ble_eq_true rfl), (Nat.le_of_ble_eq_true rfl)⟩ (q0 := 0) (ci := 7) rfl rfl rfl (Nat.le_of_ble_eq_true rfl) dL_minuteAt_4 ?_ ?_
  · rintro E9 u9 ⟨j9, hk9, hE9, rfl⟩
    rcases j9 with _ | j9
    · obtain rfl : "java/util/NoSuchElementException" = E9 := Option.some.inj (show some "java/util/NoSuchElementException" = some E9 from hE9)
      refine VT.catch9 (E := "java/util/NoSuchElementException") (name := "java/util/NoSuchElementException") X hT hNc [] ⟨0, 9, 12, 21⟩ [] rfl (hp := 12) rfl (fun z hz => absurd hz List.not_mem_nil) (by decide) (by decide) gw_2_174 cast_NSE (fun q9 => ?_)
      refine V.astore_n (L' := [(3, .ref q9), (0, .ref (ad 0)), (1, .int x), (2, .ref o)]) X dL_minuteAt_12 rfl hB9 (by decide) rfl ?_
      refine V.iconst (v := nI 1) X dL_minuteAt_13 rfl ?_
      exact V.iret (v := nI 1) X hE rfl rfl (Nat.le_of_ble_eq_true rfl) (Nat.le_of_ble_eq_true rfl) (pW_x (j := 0) hk9 rfl) dL_minuteAt_14
    · cases (show (none : Option String) = some E9 from hE9)
  · rintro v9 u9 ⟨hk9, rfl, rfl⟩
    refine V.i2l (v := (nI (rN S 32 (ix x))).toInt64) X dL_minuteAt_7 rfl ?_
    refine V.outL (q0 := 33) (Wd9 := wC ad cy S ++ cL9 cy o (vp_updL f 0 ((nI (rN S 32 (ix x))).toInt64)) :: F) X rfl rfl dL_minuteAt_8 ?_
    refine V.goto (tgt := 15) X dL_minuteAt_9 (by decide) ?_
    refine V.iconst (v := nI 0) X dL_minuteAt_15 rfl ?_
    exact V.iret (v := nI 0) X hE rfl rfl (Nat.le_of_ble_eq_true rfl) (Nat.le_of_ble_eq_true rfl) (pW_r hk9 rfl rfl) dL_minuteAt_16
set_option maxRecDepth 20000 in
set_option maxHeartbeats 4000000 in
theorem c_L_stateByLog (l : Launch) (D : va_G) (cy : Nat → ClassId) (ad : Nat → Nat) (S : St) (o : Nat) (f : Nat → Int64) (F : va_W) (x : Int32) (hI : Inv S) : CtrH l D cy yL_stateByLog (.codeWith yL_stateByLog cL_stateByLog 4 (some .int) [(0, 9, 12, 21), (0, 9, 15, 15)]) ({ frames := 14, cells := 8, slots := 48, locals := 460 } : Room) [.ref (ad 0), .int x, .ref o] (wC ad cy S ++ cL9 cy o f :: F) (pW ad cy o f F (kSR2 S x) ((c2i (lgS S (ix x))).toInt64) (fun T => T = S) (fun T => T = S)) := by
  refine CtrH.of (by decide) (Nat.le_of_ble_eq_true rfl) ?_
  intro M X hE hT hNc hB9
  replace X : VX l D M cy cL_stateByLog "RunbookerLaw" (some FieldType.int) ({ frames := 14, cells := 8, slots := 48, locals := 460 } : Room) := X
  show V l D M 0 0 (wC ad cy S ++ cL9 cy o f :: F) [(0, .ref (ad 0)), (1, .int x), (2, .ref o)] 0 []
  refine V.aload_n X dL_stateByLog_0 rfl ?_
  refine V.iconst (v := nI 0) X dL_stateByLog_1 rfl ?_
  refine V.aload_n X dL_stateByLog_2 rfl ?_
  refine V.iload_n X dL_stateByLog_3 rfl ?_
  refine V.callV (C := "Runbooker") [.int x] X (c_X5_stateByLog l D cy ad S (cL9 cy o f :: F) x hI) mv_X5_stateByLog gw_4_236 ⟨⟨(Nat.le_of_ble_eq_true rfl), (Nat.le_of_ble_eq_true rfl)⟩, (Nat.le_of_ble_eq_true rfl), (Nat.le_of_ble_eq_true rfl)⟩ (q0 := 0) (ci := 7) rfl rfl rfl (Nat.le_of_ble_eq_true rfl) dL_stateByLog_4 ?_ ?_
  · rintro E9 u9 ⟨j9, hk9, hE9, rfl⟩
    rcases j9 with _ | _ | j9
    · obtain rfl : "java/util/NoSuchElementException" = E9 := Option.some.inj (show some "java/util/NoSuchElementException" = some E9 from hE9)
      refine VT.catch9 (E := "java/util/NoSuchElementException") (name := "java/util/NoSuchElementException") X hT hNc [] ⟨0, 9, 12, 21⟩ [⟨0, 9, 15, 15⟩] rfl (hp := 12) rfl (fun z hz => absurd hz List.not_mem_nil) (by decide) (by decide) gw_2_174 cast_NSE (fun q9 => ?_)
      refine V.astore_n (L' := [(3, .ref q9), (0, .ref (ad 0)), (1, .int x), (2, .ref o)]) X dL_stateByLog_12 rfl hB9 (by decide) rfl ?_
      refine V.iconst (v := nI 1) X dL_stateByLog_13 rfl ?_
      exact V.iret (v := nI 1) X hE rfl rfl (Nat.le_of_ble_eq_true rfl) (Nat.le_of_ble_eq_true rfl) (pW_x (j := 0) hk9 rfl) dL_stateByLog_14
    · obtain rfl : "java/lang/IllegalStateException" = E9 := Option.some.inj (show some "java/lang/IllegalStateException" = some E9 from hE9)
      refine VT.catch9 (E := "java/lang/IllegalStateException") (name := "java/lang/IllegalStateException") X hT hNc [⟨0, 9, 12, 21⟩] ⟨0, 9, 15, 15⟩ [] rfl (hp := 15) rfl (fun z hz => by simp only [List.mem_cons, List.not_mem_nil, or_false] at hz; rcases hz with rfl <;> first | exact ⟨by decide, _, gw_2_174, by decide +kernel⟩) (by decide) (by decide) gw_2_76 cast_ISE (fun q9 => ?_)
      refine V.astore_n (L' := [(3, .ref q9), (0, .ref (ad 0)), (1, .int x), (2, .ref o)]) X dL_stateByLog_15 rfl hB9 (by decide) rfl ?_
      refine V.iconst (v := nI 2) X dL_stateByLog_16 rfl ?_
      exact V.iret (v := nI 2) X hE rfl rfl (Nat.le_of_ble_eq_true rfl) (Nat.le_of_ble_eq_true rfl) (pW_x (j := 1) hk9 rfl) dL_stateByLog_17
    · cases (show (none : Option String) = some E9 from hE9)
  · rintro v9 u9 ⟨hk9, rfl, rfl⟩
    refine V.i2l (v := (c2i (lgS S (ix x))).toInt64) X dL_stateByLog_7 rfl ?_
    refine V.outL (q0 := 33) (Wd9 := wC ad cy S ++ cL9 cy o (vp_updL f 0 ((c2i (lgS S (ix x))).toInt64)) :: F) X rfl rfl dL_stateByLog_8 ?_
    refine V.goto (tgt := 18) X dL_stateByLog_9 (by decide) ?_
    refine V.iconst (v := nI 0) X dL_stateByLog_18 rfl ?_
    exact V.iret (v := nI 0) X hE rfl rfl (Nat.le_of_ble_eq_true rfl) (Nat.le_of_ble_eq_true rfl) (pW_r hk9 rfl rfl) dL_stateByLog_19
set_option maxRecDepth 20000 in
set_option maxHeartbeats 4000000 in
theorem c_L_triesByLog (l : Launch) (D : va_G) (cy : Nat → ClassId) (ad : Nat → Nat) (S : St) (o : Nat) (f : Nat → Int64) (F : va_W) (x : Int32) (hI : Inv S) : CtrH l D cy yL_triesByLog (.codeWith yL_triesByLog cL_triesByLog 4 (some .int) [(0, 9, 12, 21), (0, 9, 15, 15)]) ({ frames := 14, cells := 8, slots := 48, locals := 460 } : Room) [.ref (ad 0), .int x, .ref o] (wC ad cy S ++ cL9 cy o f :: F) (pW ad cy o f F (kSR2 S x) ((nI (cntT S (ix x) (rN S 50 0))).toInt64) (fun T => T = S) (fun T => T = S)) := by
  refine CtrH.of (by decide) (Nat.le_of_ble_eq_true rfl) ?_
  intro M X hE hT hNc hB9
  replace X : VX l D M cy cL_triesByLog "RunbookerLaw" (some FieldType.int) ({ frames := 14, cells := 8, slots := 48, locals := 460 } : Room) := X
  show V l D M 0 0 (wC ad cy S ++ cL9 cy o f :: F) [(0, .ref (ad 0)), (1, .int x), (2, .ref o)] 0 []
  refine V.aload_n X dL_triesByLog_0 rfl ?_
  refine V.iconst (v := nI 0) X dL_triesByLog_1 rfl ?_
  refine V.aload_n X dL_triesByLog_2 rfl ?_
  refine V.iload_n X dL_triesByLog_3 rfl ?_
  refine V.callV (C := "Runbooker") [.int x] X (c_X5_triesByLog l D cy ad S (cL9 cy o f :: F) x hI) mv_X5_triesByLog gw_5_10 ⟨⟨(Nat.le_of_ble_eq_true rfl), (Nat.le_of_ble_eq_true rfl)⟩, (Nat.le_of_ble_eq_true rfl), (Nat.le_of_ble_eq_true rfl)⟩ (q0 := 0) (ci := 7) rfl rfl rfl (Nat.le_of_ble_eq_true rfl) dL_triesByLog_4 ?_ ?_
  · rintro E9 u9 ⟨j9, hk9, hE9, rfl⟩
    rcases j9 with _ | _ | j9
    · obtain rfl : "java/util/NoSuchElementException" = E9 := Option.some.inj (show some "java/util/NoSuchElementException" = some E9 from hE9)
      refine VT.catch9 (E := "java/util/NoSuchElementException") (name := "java/util/NoSuchElementException") X hT hNc [] ⟨0, 9, 12, 21⟩ [⟨0, 9, 15, 15⟩] rfl (hp := 12) rfl (fun z hz => absurd hz List.not_mem_nil) (by decide) (by decide) gw_2_174 cast_NSE (fun q9 => ?_)
      refine V.astore_n (L' := [(3, .ref q9), (0, .ref (ad 0)), (1, .int x), (2, .ref o)]) X dL_triesByLog_12 rfl hB9 (by decide) rfl ?_
      refine V.iconst (v := nI 1) X dL_triesByLog_13 rfl ?_
      exact V.iret (v := nI 1) X hE rfl rfl (Nat.le_of_ble_eq_true rfl) (Nat.le_of_ble_eq_true rfl) (pW_x (j := 0) hk9 rfl) dL_triesByLog_14
    · obtain rfl : "java/lang/IllegalStateException" = E9 := Option.some.inj (show some "java/lang/IllegalStateException" = some E9 from hE9)
      refine VT.catch9 (E := "java/lang/IllegalStateException") (name := "java/lang/IllegalStateException") X hT hNc [⟨0, 9, 12, 21⟩] ⟨0, 9, 15, 15⟩ [] rfl (hp := 15) rfl (fun z hz => by simp only [List.mem_cons, List.not_mem_nil, or_false] at hz; rcases hz with rfl <;> first | exact ⟨by decide, _, gw_2_174, by decide +kernel⟩) (by decide) (by decide) gw_2_76 cast_ISE (fun q9 => ?_)
      refine V.astore_n (L' := [(3, .ref q9), (0, .ref (ad 0)), (1, .int x), (2, .ref o)]) X dL_triesByLog_15 rfl hB9 (by decide) rfl ?_
      refine V.iconst (v := nI 2) X dL_triesByLog_16 rfl ?_
      exact V.iret (v := nI 2) X hE rfl rfl (Nat.le_of_ble_eq_true rfl) (Nat.le_of_ble_eq_true rfl) (pW_x (j := 1) hk9 rfl) dL_triesByLog_17
    · cases (show (none : Option String) = some E9 from hE9)
  · rintro v9 u9 ⟨hk9, rfl, rfl⟩
    refine V.i2l (v := (nI (cntT S (ix x) (rN S 50 0))).toInt64) X dL_triesByLog_7 rfl ?_
    refine V.outL (q0 := 33) (Wd9 := wC ad cy S ++ cL9 cy o (vp_updL f 0 ((nI (cntT S (ix x) (rN S 50 0))).toInt64)) :: F) X rfl rfl dL_triesByLog_8 ?_
    refine V.goto (tgt := 18) X dL_triesByLog_9 (by decide) ?_
    refine V.iconst (v := nI 0) X dL_triesByLog_18 rfl ?_
    exact V.iret (v := nI 0) X hE rfl rfl (Nat.le_of_ble_eq_true rfl) (Nat.le_of_ble_eq_true rfl) (pW_r hk9 rfl rfl) dL_triesByLog_19
set_option maxRecDepth 20000 in
set_option maxHeartbeats 4000000 in
theorem c_L_labelLength (l : Launch) (D : va_G) (cy : Nat → ClassId) (ad : Nat → Nat) (S : St) (o : Nat) (f : Nat → Int64) (F : va_W) (x : Int32) (hI : Inv S) : CtrH l D cy yL_labelLength (.codeWith yL_labelLength cL_labelLength 4 (some .int) [(0, 9, 12, 21)]) ({ frames := 14, cells := 8, slots := 60, locals := 560 } : Room) [.ref (ad 0), .int x, .ref o] (wC ad cy S ++ cL9 cy o f :: F) (pW ad cy o f F (kS1 S x) ((nI (lbN S (ix x))).toInt64) (fun T => T = S) (fun T => T = S)) := by
  refine CtrH.of (by decide) (Nat.le_of_ble_eq_true rfl) ?_
  intro M X hE hT hNc hB9
  replace X : VX l D M cy cL_labelLength "RunbookerLaw" (some FieldType.int) ({ frames := 14, cells := 8, slots := 60, locals := 560 } : Room) := X
  show V l D M 0 0 (wC ad cy S ++ cL9 cy o f :: F) [(0, .ref (ad 0)), (1, .int x), (2, .ref o)] 0 []
  refine V.aload_n X dL_labelLength_0 rfl ?_
  refine V.iconst (v := nI 0) X dL_labelLength_1 rfl ?_
  refine V.aload_n X dL_labelLength_2 rfl ?_
  refine V.iload_n X dL_labelLength_3 rfl ?_
  refine V.callV (C := "Runbooker") [.int x] X (c_X5_labelLength l D cy ad S (cL9 cy o f :: F) x hI) mv_X5_labelLength gw_5_21 ⟨⟨(Nat.le_of_ble_eq_true rfl), (Nat.le_of_ble_eq_true rfl)⟩, (Nat.le_of_ble_eq_true rfl), (Nat.le_of_ble_eq_true rfl)⟩ (q0 := 0) (ci := 7) rfl rfl rfl (Nat.le_of_ble_eq_true rfl) dL_labelLength_4 ?_ ?_
  · rintro E9 u9 ⟨j9, hk9, hE9, rfl⟩
    rcases j9 with _ | j9
    · obtain rfl : "java/util/NoSuchElementException" = E9 := Option.some.inj (show some "java/util/NoSuchElementException" = some E9 from hE9)
      refine VT.catch9 (E := "java/util/NoSuchElementException") (name := "java/util/NoSuchElementException") X hT hNc [] ⟨0, 9, 12, 21⟩ [] rfl (hp := 12) rfl (fun z hz => absurd hz List.not_mem_nil) (by decide) (by decide) gw_2_174 cast_NSE (fun q9 => ?_)
      refine V.astore_n (L' := [(3, .ref q9), (0, .ref (ad 0)), (1, .int x), (2, .ref o)]) X dL_labelLength_12 rfl hB9 (by decide) rfl ?_
      refine V.iconst (v := nI 1) X dL_labelLength_13 rfl ?_
      exact V.iret (v := nI 1) X hE rfl rfl (Nat.le_of_ble_eq_true rfl) (Nat.le_of_ble_eq_true rfl) (pW_x (j := 0) hk9 rfl) dL_labelLength_14
    · cases (show (none : Option String) = some E9 from hE9)
  · rintro v9 u9 ⟨hk9, rfl, rfl⟩
    refine V.i2l (v := (nI (lbN S (ix x))).toInt64) X dL_labelLength_7 rfl ?_
    refine V.outL (q0 := 33) (Wd9 := wC ad cy S ++ cL9 cy o (vp_updL f 0 ((nI (lbN S (ix x))).toInt64)) :: F) X rfl rfl dL_labelLength_8 ?_
    refine V.goto (tgt := 15) X dL_labelLength_9 (by decide) ?_
    refine V.iconst (v := nI 0) X dL_labelLength_15 rfl ?_
    exact V.iret (v := nI 0) X hE rfl rfl (Nat.le_of_ble_eq_true rfl) (Nat.le_of_ble_eq_true rfl) (pW_r hk9 rfl rfl) dL_labelLength_16
set_option maxRecDepth 20000 in
set_option maxHeartbeats 4000000 in
theorem c_L_labelAt (l : Launch) (D : va_G) (cy : Nat → ClassId) (ad : Nat → Nat) (S : St) (o : Nat) (f : Nat → Int64) (F : va_W) (x : Int32) (i : Int32) (hI : Inv S) : CtrH l D cy yL_labelAt (.codeWith yL_labelAt cL_labelAt 5 (some .int) [(0, 10, 13, 21), (0, 10, 17, 86)]) ({ frames := 14, cells := 8, slots := 60, locals := 560 } : Room) [.ref (ad 0), .int x, .int i, .ref o] (wC ad cy S ++ cL9 cy o f :: F) (pW ad cy o f F (kLA S x i) ((nI (lbT S (ix x) (ix i))).toInt64) (fun T => T = S) (fun T => T = S)) := by
  refine CtrH.of (by decide) (Nat.le_of_ble_eq_true rfl) ?_
  intro M X hE hT hNc hB9
  replace X : VX l D M cy cL_labelAt "RunbookerLaw" (some FieldType.int) ({ frames := 14, cells := 8, slots := 60, locals := 560 } : Room) := X
  show V l D M 0 0 (wC ad cy S ++ cL9 cy o f :: F) [(0, .ref (ad 0)), (1, .int x), (2, .int i), (3, .ref o)] 0 []
  refine V.aload_n X dL_labelAt_0 rfl ?_
  refine V.iconst (v := nI 0) X dL_labelAt_1 rfl ?_
  refine V.aload_n X dL_labelAt_2 rfl ?_
  refine V.iload_n X dL_labelAt_3 rfl ?_
  refine V.iload_n X dL_labelAt_4 rfl ?_
  refine V.callV (C := "Runbooker") [.int x, .int i] X (c_X5_labelAt l D cy ad S (cL9 cy o f :: F) x i hI) mv_X5_labelAt gw_5_197 ⟨⟨(Nat.le_of_ble_eq_true rfl), (Nat.le_of_ble_eq_true rfl)⟩, (Nat.le_of_ble_eq_true rfl), (Nat.le_of_ble_eq_true rfl)⟩ (q0 := 0) (ci := 7) rfl rfl rfl (Nat.le_of_ble_eq_true rfl) dL_labelAt_5 ?_ ?_
  · rintro E9 u9 ⟨j9, hk9, hE9, rfl⟩
    rcases j9 with _ | _ | j9
    · obtain rfl : "java/util/NoSuchElementException" = E9 := Option.some.inj (show some "java/util/NoSuchElementException" = some E9 from hE9)
      refine VT.catch9 (E := "java/util/NoSuchElementException") (name := "java/util/NoSuchElementException") X hT hNc [] ⟨0, 10, 13, 21⟩ [⟨0, 10, 17, 86⟩] rfl (hp := 13) rfl (fun z hz => absurd hz List.not_mem_nil) (by decide) (by decide) gw_2_174 cast_NSE (fun q9 => ?_)
      refine V.astore (L' := [(4, .ref q9), (0, .ref (ad 0)), (1, .int x), (2, .int i), (3, .ref o)]) X dL_labelAt_13 hB9 (by decide) rfl ?_
      refine V.iconst (v := nI 1) X dL_labelAt_15 rfl ?_
      exact V.iret (v := nI 1) X hE rfl rfl (Nat.le_of_ble_eq_true rfl) (Nat.le_of_ble_eq_true rfl) (pW_x (j := 0) hk9 rfl) dL_labelAt_16
    · obtain rfl : "java/lang/IndexOutOfBoundsException" = E9 := Option.some.inj (show some "java/lang/IndexOutOfBoundsException" = some E9 from hE9)
      refine VT.catch9 (E := "java/lang/IndexOutOfBoundsException") (name := "java/lang/IndexOutOfBoundsException") X hT hNc [⟨0, 10, 13, 21⟩] ⟨0, 10, 17, 86⟩ [] rfl (hp := 17) rfl (fun z hz => by simp only [List.mem_cons, List.not_mem_nil, or_false] at hz; rcases hz with rfl <;> first | exact ⟨by decide, _, gw_2_174, by decide +kernel⟩) (by decide) (by decide) gw_4_48 cast_IOB (fun q9 => ?_)
      refine V.astore (L' := [(4, .ref q9), (0, .ref (ad 0)), (1, .int x), (2, .int i), (3, .ref o)]) X dL_labelAt_17 hB9 (by decide) rfl ?_
      refine V.iconst (v := nI 2) X dL_labelAt_19 rfl ?_
      exact V.iret (v := nI 2) X hE rfl rfl (Nat.le_of_ble_eq_true rfl) (Nat.le_of_ble_eq_true rfl) (pW_x (j := 1) hk9 rfl) dL_labelAt_20
    · cases (show (none : Option String) = some E9 from hE9)
  · rintro v9 u9 ⟨hk9, rfl, rfl⟩
    refine V.i2l (v := (nI (lbT S (ix x) (ix i))).toInt64) X dL_labelAt_8 rfl ?_
    refine V.outL (q0 := 33) (Wd9 := wC ad cy S ++ cL9 cy o (vp_updL f 0 ((nI (lbT S (ix x) (ix i))).toInt64)) :: F) X rfl rfl dL_labelAt_9 ?_
    refine V.goto (tgt := 21) X dL_labelAt_10 (by decide) ?_
    refine V.iconst (v := nI 0) X dL_labelAt_21 rfl ?_
    exact V.iret (v := nI 0) X hE rfl rfl (Nat.le_of_ble_eq_true rfl) (Nat.le_of_ble_eq_true rfl) (pW_r hk9 rfl rfl) dL_labelAt_22
set_option maxRecDepth 20000 in
set_option maxHeartbeats 4000000 in
theorem c_L_doneShare (l : Launch) (D : va_G) (cy : Nat → ClassId) (ad : Nat → Nat) (S : St) (o : Nat) (f : Nat → UInt64) (F : va_W) (hI : Inv S) : CtrH l D cy yL_doneShare (.codeWith yL_doneShare cL_doneShare 3 (some .int) [(0, 8, 11, 15)]) ({ frames := 14, cells := 8, slots := 48, locals := 460 } : Room) [.ref (ad 0), .ref o] (wC ad cy S ++ cD9 cy o f :: F) (pWD ad cy o f F (kRN S) (FP.f2d (FP.fdiv (FP.i2f (nI (rN S 45 0))) (FP.i2f (nI (max 1 (rN S 46 0)))))) (fun T => T = S) (fun T => T = S)) := by
  refine CtrH.of (by decide) (Nat.le_of_ble_eq_true rfl) ?_
  intro M X hE hT hNc hB9
  replace X : VX l D M cy cL_doneShare "RunbookerLaw" (some FieldType.int) ({ frames := 14, cells := 8, slots := 48, locals := 460 } : Room) := X
  show V l D M 0 0 (wC ad cy S ++ cD9 cy o f :: F) [(0, .ref (ad 0)), (1, .ref o)] 0 []
  refine V.aload_n X dL_doneShare_0 rfl ?_
  refine V.iconst (v := nI 0) X dL_doneShare_1 rfl ?_
  refine V.aload_n X dL_doneShare_2 rfl ?_
  refine V.callV (C := "Runbooker") [] X (c_X5_doneShare l D cy ad S (cD9 cy o f :: F) hI) mv_X5_doneShare gw_5_217 ⟨⟨(Nat.le_of_ble_eq_true rfl), (Nat.le_of_ble_eq_true rfl)⟩, (Nat.le_of_ble_eq_true rfl), (Nat.le_of_ble_eq_true rfl)⟩ (q0 := 0) (ci := 7) rfl rfl rfl (Nat.le_of_ble_eq_true rfl) dL_doneShare_3 ?_ ?_
  · rintro E9 u9 ⟨j9, hk9, hE9, rfl⟩
    rcases j9 with _ | j9
    · obtain rfl : "java/lang/IllegalStateException" = E9 := Option.some.inj (show some "java/lang/IllegalStateException" = some E9 from hE9)
      refine VT.catch9 (E := "java/lang/IllegalStateException") (name := "java/lang/IllegalStateException") X hT hNc [] ⟨0, 8, 11, 15⟩ [] rfl (hp := 11) rfl (fun z hz => absurd hz List.not_mem_nil) (by decide) (by decide) gw_2_76 cast_ISE (fun q9 => ?_)
      refine V.astore_n (L' := [(2, .ref q9), (0, .ref (ad 0)), (1, .ref o)]) X dL_doneShare_11 rfl hB9 (by decide) rfl ?_
      refine V.iconst (v := nI 1) X dL_doneShare_12 rfl ?_
      exact V.iret (v := nI 1) X hE rfl rfl (Nat.le_of_ble_eq_true rfl) (Nat.le_of_ble_eq_true rfl) (pWD_x (j := 0) hk9 rfl) dL_doneShare_13
    · cases (show (none : Option String) = some E9 from hE9)
  · rintro v9 u9 ⟨hk9, rfl, rfl⟩
    refine V.f2d X dL_doneShare_6 (share_ok hI) ?_
    refine V.outD (q0 := 33) (Wd9 := wC ad cy S ++ cD9 cy o (vf_upd f 0 (FP.f2d (FP.fdiv (FP.i2f (nI (rN S 45 0))) (FP.i2f (nI (max 1 (rN S 46 0))))))) :: F) X rfl rfl dL_doneShare_7 ?_
    refine V.goto (tgt := 14) X dL_doneShare_8 (by decide) ?_
    refine V.iconst (v := nI 0) X dL_doneShare_14 rfl ?_
    exact V.iret (v := nI 0) X hE rfl rfl (Nat.le_of_ble_eq_true rfl) (Nat.le_of_ble_eq_true rfl) (pWD_r hk9 rfl rfl) dL_doneShare_15
set_option maxRecDepth 20000 in
set_option maxHeartbeats 4000000 in
theorem c_L_meanTries (l : Launch) (D : va_G) (cy : Nat → ClassId) (ad : Nat → Nat) (S : St) (o : Nat) (f : Nat → UInt64) (F : va_W) (hI : Inv S) : CtrH l D cy yL_meanTries (.codeWith yL_meanTries cL_meanTries 3 (some .int) [(0, 7, 10, 15)]) ({ frames := 14, cells := 8, slots := 48, locals := 460 } : Room) [.ref (ad 0), .ref o] (wC ad cy S ++ cD9 cy o f :: F) (pWD ad cy o f F (kRN S) (FP.ddiv (FP.i2d (nI (sum9 (rN S 25) (rN S 46 0)))) (FP.i2d (nI (max 1 (rN S 46 0))))) (fun T => T = S) (fun T => T = S)) := by
  refine CtrH.of (by decide) (Nat.le_of_ble_eq_true rfl) ?_
  intro M X hE hT hNc hB9
  replace X : VX l D M cy cL_meanTries "RunbookerLaw" (some FieldType.int) ({ frames := 14, cells := 8, slots := 48, locals := 460 } : Room) := X
  show V l D M 0 0 (wC ad cy S ++ cD9 cy o f :: F) [(0, .ref (ad 0)), (1, .ref o)] 0 []
  refine V.aload_n X dL_meanTries_0 rfl ?_
  refine V.iconst (v := nI 0) X dL_meanTries_1 rfl ?_
  refine V.aload_n X dL_meanTries_2 rfl ?_
  refine V.callV (C := "Runbooker") [] X (c_X5_meanTries l D cy ad S (cD9 cy o f :: F) hI) mv_X5_meanTries gw_5_229 ⟨⟨(Nat.le_of_ble_eq_true rfl), (Nat.le_of_ble_eq_true rfl)⟩, (Nat.le_of_ble_eq_true rfl), (Nat.le_of_ble_eq_true rfl)⟩ (q0 := 0) (ci := 7) rfl rfl rfl (Nat.le_of_ble_eq_true rfl) dL_meanTries_3 ?_ ?_
  · rintro E9 u9 ⟨j9, hk9, hE9, rfl⟩
    rcases j9 with _ | j9
    · obtain rfl : "java/lang/IllegalStateException" = E9 := Option.some.inj (show some "java/lang/IllegalStateException" = some E9 from hE9)
      refine VT.catch9 (E := "java/lang/IllegalStateException") (name := "java/lang/IllegalStateException") X hT hNc [] ⟨0, 7, 10, 15⟩ [] rfl (hp := 10) rfl (fun z hz => absurd hz List.not_mem_nil) (by decide) (by decide) gw_2_76 cast_ISE (fun q9 => ?_)
      refine V.astore_n (L' := [(2, .ref q9), (0, .ref (ad 0)), (1, .ref o)]) X dL_meanTries_10 rfl hB9 (by decide) rfl ?_
      refine V.iconst (v := nI 1) X dL_meanTries_11 rfl ?_
      exact V.iret (v := nI 1) X hE rfl rfl (Nat.le_of_ble_eq_true rfl) (Nat.le_of_ble_eq_true rfl) (pWD_x (j := 0) hk9 rfl) dL_meanTries_12
    · cases (show (none : Option String) = some E9 from hE9)
  · rintro v9 u9 ⟨hk9, rfl, rfl⟩
    refine V.outD (q0 := 33) (Wd9 := wC ad cy S ++ cD9 cy o (vf_upd f 0 (FP.ddiv (FP.i2d (nI (sum9 (rN S 25) (rN S 46 0)))) (FP.i2d (nI (max 1 (rN S 46 0)))))) :: F) X rfl rfl dL_meanTries_6 ?_
    refine V.goto (tgt := 13) X dL_meanTries_7 (by decide) ?_
    refine V.iconst (v := nI 0) X dL_meanTries_13 rfl ?_
    exact V.iret (v := nI 0) X hE rfl rfl (Nat.le_of_ble_eq_true rfl) (Nat.le_of_ble_eq_true rfl) (pWD_r hk9 rfl rfl) dL_meanTries_14
