/-- the good words of the tables -/
def lwEx : List Cond := [Cond.selects "java/lang/StringBuilder" yJ5_ensureCapacityInternal_d00df yJ5_ensureCapacityInternal_d00df]
def lwG : List Cond := (lw_tbl ++ lwEx).filter goodWord
theorem lwG_good : ∀ w ∈ lwG, goodWord w = true := fun w h => (List.mem_filter.mp h).2
theorem gx_0 : Cond.selects "java/lang/StringBuilder" yJ5_ensureCapacityInternal_d00df yJ5_ensureCapacityInternal_d00df ∈ lwG := List.mem_filter.mpr ⟨List.mem_append_right _ (List.mem_singleton_self _), rfl⟩
theorem lw_0 {w : Cond} (i : Nat) (h : (k2_sels lw_privs)[i]? = some w) (g : goodWord w = true) : w ∈ lwG := List.mem_filter.mpr ⟨List.mem_append_left _ (List.mem_append_left _ (List.mem_of_getElem? h)), g⟩
theorem lw_1 {w : Cond} (i : Nat) (h : tables_1_1[i]? = some w) (g : goodWord w = true) : w ∈ lwG := List.mem_filter.mpr ⟨List.mem_append_left _ (List.mem_append_right _ (List.mem_append_left _ (List.mem_of_getElem? h))), g⟩
theorem lw_2 {w : Cond} (i : Nat) (h : tables_1_2[i]? = some w) (g : goodWord w = true) : w ∈ lwG := List.mem_filter.mpr ⟨List.mem_append_left _ (List.mem_append_right _ (List.mem_append_right _ (List.mem_append_left _ (List.mem_of_getElem? h)))), g⟩
theorem lw_3 {w : Cond} (i : Nat) (h : tables_1_3[i]? = some w) (g : goodWord w = true) : w ∈ lwG := List.mem_filter.mpr ⟨List.mem_append_left _ (List.mem_append_right _ (List.mem_append_right _ (List.mem_append_right _ (List.mem_append_left _ (List.mem_of_getElem? h))))), g⟩
theorem lw_4 {w : Cond} (i : Nat) (h : tables_1_4[i]? = some w) (g : goodWord w = true) : w ∈ lwG := List.mem_filter.mpr ⟨List.mem_append_left _ (List.mem_append_right _ (List.mem_append_right _ (List.mem_append_right _ (List.mem_append_right _ (List.mem_append_left _ (List.mem_of_getElem? h)))))), g⟩
theorem lw_5 {w : Cond} (i : Nat) (h : tables_1_5[i]? = some w) (g : goodWord w = true) : w ∈ lwG := List.mem_filter.mpr ⟨List.mem_append_left _ (List.mem_append_right _ (List.mem_append_right _ (List.mem_append_right _ (List.mem_append_right _ (List.mem_append_right _ (List.mem_append_left _ (List.mem_of_getElem? h))))))), g⟩
theorem lw_6 {w : Cond} (i : Nat) (h : tables_1_6[i]? = some w) (g : goodWord w = true) : w ∈ lwG := List.mem_filter.mpr ⟨List.mem_append_left _ (List.mem_append_right _ (List.mem_append_right _ (List.mem_append_right _ (List.mem_append_right _ (List.mem_append_right _ (List.mem_append_right _ (List.mem_append_left _ (List.mem_of_getElem? h)))))))), g⟩
theorem lw_7 {w : Cond} (i : Nat) (h : tables_1_7[i]? = some w) (g : goodWord w = true) : w ∈ lwG := List.mem_filter.mpr ⟨List.mem_append_left _ (List.mem_append_right _ (List.mem_append_right _ (List.mem_append_right _ (List.mem_append_right _ (List.mem_append_right _ (List.mem_append_right _ (List.mem_append_right _ (List.mem_append_left _ (List.mem_of_getElem? h))))))))), g⟩
theorem lw_8 {w : Cond} (i : Nat) (h : tables_1_8[i]? = some w) (g : goodWord w = true) : w ∈ lwG := List.mem_filter.mpr ⟨List.mem_append_left _ (List.mem_append_right _ (List.mem_append_right _ (List.mem_append_right _ (List.mem_append_right _ (List.mem_append_right _ (List.mem_append_right _ (List.mem_append_right _ (List.mem_append_right _ (List.mem_of_getElem? h))))))))), g⟩
theorem gs_0 : Cond.selects "Runbooker" ⟨"Runbooker", "countReady", "()I"⟩ ⟨"Runbooker", "countReady", "()I"⟩ ∈ lwG := lw_0 0 rfl rfl
theorem gs_1 : Cond.selects "Runbooker" ⟨"Runbooker", "isStepReady", "(I)Z"⟩ ⟨"Runbooker", "isStepReady", "(I)Z"⟩ ∈ lwG := lw_0 1 rfl rfl
theorem gs_2 : Cond.selects "Runbooker" ⟨"Runbooker", "areNeedsMet", "(I)Z"⟩ ⟨"Runbooker", "areNeedsMet", "(I)Z"⟩ ∈ lwG := lw_0 2 rfl rfl
theorem gs_3 : Cond.selects "Runbooker" ⟨"Runbooker", "isStepSettled", "(I)Z"⟩ ⟨"Runbooker", "isStepSettled", "(I)Z"⟩ ∈ lwG := lw_0 3 rfl rfl
theorem gs_4 : Cond.selects "Runbooker" ⟨"Runbooker", "areAllSettled", "()Z"⟩ ⟨"Runbooker", "areAllSettled", "()Z"⟩ ∈ lwG := lw_0 4 rfl rfl
theorem gs_5 : Cond.selects "java/lang/Throwable" ⟨"java/lang/Throwable", "fillInStackTrace", "(I)Ljava/lang/Throwable;"⟩ ⟨"java/lang/Throwable", "fillInStackTrace", "(I)Ljava/lang/Throwable;"⟩ ∈ lwG := lw_0 5 rfl rfl
theorem gs_6 : Cond.selects "Runbooker" ⟨"Runbooker", "requirePerson", "(I)V"⟩ ⟨"Runbooker", "requirePerson", "(I)V"⟩ ∈ lwG := lw_0 6 rfl rfl
theorem gs_7 : Cond.selects "Runbooker" ⟨"Runbooker", "requireNoRun", "()V"⟩ ⟨"Runbooker", "requireNoRun", "()V"⟩ ∈ lwG := lw_0 7 rfl rfl
theorem gs_8 : Cond.selects "Runbooker" ⟨"Runbooker", "requireStep", "(I)V"⟩ ⟨"Runbooker", "requireStep", "(I)V"⟩ ∈ lwG := lw_0 8 rfl rfl
theorem gs_9 : Cond.selects "Runbooker" ⟨"Runbooker", "requireRun", "()V"⟩ ⟨"Runbooker", "requireRun", "()V"⟩ ∈ lwG := lw_0 9 rfl rfl
theorem gs_10 : Cond.selects "Runbooker" ⟨"Runbooker", "isFree", "(I)Z"⟩ ⟨"Runbooker", "isFree", "(I)Z"⟩ ∈ lwG := lw_0 10 rfl rfl
theorem gs_11 : Cond.selects "Runbooker" ⟨"Runbooker", "isRolePaused", "(I)Z"⟩ ⟨"Runbooker", "isRolePaused", "(I)Z"⟩ ∈ lwG := lw_0 11 rfl rfl
theorem gs_12 : Cond.selects "Runbooker" ⟨"Runbooker", "completeStep", "(I)V"⟩ ⟨"Runbooker", "completeStep", "(I)V"⟩ ∈ lwG := lw_0 12 rfl rfl
theorem gs_13 : Cond.selects "Runbooker" ⟨"Runbooker", "failTry", "(I)V"⟩ ⟨"Runbooker", "failTry", "(I)V"⟩ ∈ lwG := lw_0 13 rfl rfl
theorem gs_14 : Cond.selects "Runbooker" ⟨"Runbooker", "callIn", "(I)V"⟩ ⟨"Runbooker", "callIn", "(I)V"⟩ ∈ lwG := lw_0 14 rfl rfl
theorem gs_15 : Cond.selects "Runbooker" ⟨"Runbooker", "canTakeOver", "(II)Z"⟩ ⟨"Runbooker", "canTakeOver", "(II)Z"⟩ ∈ lwG := lw_0 15 rfl rfl
theorem gs_16 : Cond.selects "Runbooker" ⟨"Runbooker", "areReversibleFrom", "(I)Z"⟩ ⟨"Runbooker", "areReversibleFrom", "(I)Z"⟩ ∈ lwG := lw_0 16 rfl rfl
theorem gs_17 : Cond.selects "Runbooker" ⟨"Runbooker", "passMinute", "()I"⟩ ⟨"Runbooker", "passMinute", "()I"⟩ ∈ lwG := lw_0 17 rfl rfl
theorem gs_18 : Cond.selects "Runbooker" ⟨"Runbooker", "stepHeldUp", "()I"⟩ ⟨"Runbooker", "stepHeldUp", "()I"⟩ ∈ lwG := lw_0 18 rfl rfl
theorem gs_19 : Cond.selects "Runbooker" ⟨"Runbooker", "timeOutSteps", "()I"⟩ ⟨"Runbooker", "timeOutSteps", "()I"⟩ ∈ lwG := lw_0 19 rfl rfl
theorem gs_20 : Cond.selects "Runbooker" ⟨"Runbooker", "endHandover", "()V"⟩ ⟨"Runbooker", "endHandover", "()V"⟩ ∈ lwG := lw_0 20 rfl rfl
theorem gs_21 : Cond.selects "Runbooker" ⟨"Runbooker", "requireRole", "(I)V"⟩ ⟨"Runbooker", "requireRole", "(I)V"⟩ ∈ lwG := lw_0 21 rfl rfl
theorem gs_22 : Cond.selects "Runbooker" ⟨"Runbooker", "requireStepOfRun", "(I)V"⟩ ⟨"Runbooker", "requireStepOfRun", "(I)V"⟩ ∈ lwG := lw_0 22 rfl rfl
theorem gs_23 : Cond.selects "Runbooker" ⟨"Runbooker", "isAnyoneFreeFor", "(I)Z"⟩ ⟨"Runbooker", "isAnyoneFreeFor", "(I)Z"⟩ ∈ lwG := lw_0 23 rfl rfl
theorem gs_24 : Cond.selects "Runbooker" ⟨"Runbooker", "mostUrgentFor", "(I)I"⟩ ⟨"Runbooker", "mostUrgentFor", "(I)I"⟩ ∈ lwG := lw_0 24 rfl rfl
theorem gs_25 : Cond.selects "Runbooker" ⟨"Runbooker", "requireEntry", "(I)V"⟩ ⟨"Runbooker", "requireEntry", "(I)V"⟩ ∈ lwG := lw_0 25 rfl rfl
theorem gs_26 : Cond.selects "RunbookerModel" ⟨"RunbookerModel", "fails", "(I)I"⟩ ⟨"RunbookerModel", "fails", "(I)I"⟩ ∈ lwG := lw_0 26 rfl rfl
theorem gs_27 : Cond.selects "RunbookerModel" ⟨"RunbookerModel", "isPerson", "(I)Z"⟩ ⟨"RunbookerModel", "isPerson", "(I)Z"⟩ ∈ lwG := lw_0 27 rfl rfl
theorem gs_28 : Cond.selects "RunbookerModel" ⟨"RunbookerModel", "isWrong", "(I)Z"⟩ ⟨"RunbookerModel", "isWrong", "(I)Z"⟩ ∈ lwG := lw_0 28 rfl rfl
theorem gs_29 : Cond.selects "RunbookerModel" ⟨"RunbookerModel", "work", "(I)I"⟩ ⟨"RunbookerModel", "work", "(I)I"⟩ ∈ lwG := lw_0 29 rfl rfl
theorem gs_30 : Cond.selects "RunbookerModel" ⟨"RunbookerModel", "isStep", "(I)Z"⟩ ⟨"RunbookerModel", "isStep", "(I)Z"⟩ ∈ lwG := lw_0 30 rfl rfl
theorem gs_31 : Cond.selects "RunbookerModel" ⟨"RunbookerModel", "isFallback", "(I)Z"⟩ ⟨"RunbookerModel", "isFallback", "(I)Z"⟩ ∈ lwG := lw_0 31 rfl rfl
theorem gs_32 : Cond.selects "RunbookerModel" ⟨"RunbookerModel", "readyMany", "()I"⟩ ⟨"RunbookerModel", "readyMany", "()I"⟩ ∈ lwG := lw_0 32 rfl rfl
theorem gs_33 : Cond.selects "RunbookerModel" ⟨"RunbookerModel", "isReadyNow", "(I)Z"⟩ ⟨"RunbookerModel", "isReadyNow", "(I)Z"⟩ ∈ lwG := lw_0 33 rfl rfl
theorem gs_34 : Cond.selects "RunbookerModel" ⟨"RunbookerModel", "areNeedsMet", "(I)Z"⟩ ⟨"RunbookerModel", "areNeedsMet", "(I)Z"⟩ ∈ lwG := lw_0 34 rfl rfl
theorem gs_35 : Cond.selects "RunbookerModel" ⟨"RunbookerModel", "isSettledNow", "(I)Z"⟩ ⟨"RunbookerModel", "isSettledNow", "(I)Z"⟩ ∈ lwG := lw_0 35 rfl rfl
theorem gs_36 : Cond.selects "RunbookerModel" ⟨"RunbookerModel", "isGuarded", "(I)Z"⟩ ⟨"RunbookerModel", "isGuarded", "(I)Z"⟩ ∈ lwG := lw_0 36 rfl rfl
theorem gs_37 : Cond.selects "RunbookerModel" ⟨"RunbookerModel", "isMet", "(I)Z"⟩ ⟨"RunbookerModel", "isMet", "(I)Z"⟩ ∈ lwG := lw_0 37 rfl rfl
theorem gs_38 : Cond.selects "RunbookerModel" ⟨"RunbookerModel", "many", "(C)I"⟩ ⟨"RunbookerModel", "many", "(C)I"⟩ ∈ lwG := lw_0 38 rfl rfl
theorem gs_39 : Cond.selects "RunbookerModel" ⟨"RunbookerModel", "isFree", "(I)Z"⟩ ⟨"RunbookerModel", "isFree", "(I)Z"⟩ ∈ lwG := lw_0 39 rfl rfl
theorem gs_40 : Cond.selects "RunbookerModel" ⟨"RunbookerModel", "isPausedNow", "(I)Z"⟩ ⟨"RunbookerModel", "isPausedNow", "(I)Z"⟩ ∈ lwG := lw_0 40 rfl rfl
theorem gs_41 : Cond.selects "RunbookerModel" ⟨"RunbookerModel", "logs", "(CII)V"⟩ ⟨"RunbookerModel", "logs", "(CII)V"⟩ ∈ lwG := lw_0 41 rfl rfl
theorem gs_42 : Cond.selects "RunbookerModel" ⟨"RunbookerModel", "triesFail", "(I)V"⟩ ⟨"RunbookerModel", "triesFail", "(I)V"⟩ ∈ lwG := lw_0 42 rfl rfl
theorem gs_43 : Cond.selects "RunbookerModel" ⟨"RunbookerModel", "minute", "()I"⟩ ⟨"RunbookerModel", "minute", "()I"⟩ ∈ lwG := lw_0 43 rfl rfl
theorem gs_44 : Cond.selects "RunbookerModel" ⟨"RunbookerModel", "handsOver", "()V"⟩ ⟨"RunbookerModel", "handsOver", "()V"⟩ ∈ lwG := lw_0 44 rfl rfl
theorem gs_45 : Cond.selects "RunbookerModel" ⟨"RunbookerModel", "isUnknown", "(I)Z"⟩ ⟨"RunbookerModel", "isUnknown", "(I)Z"⟩ ∈ lwG := lw_0 45 rfl rfl
theorem gs_46 : Cond.selects "RunbookerModel" ⟨"RunbookerModel", "isManned", "(I)Z"⟩ ⟨"RunbookerModel", "isManned", "(I)Z"⟩ ∈ lwG := lw_0 46 rfl rfl
theorem gs_47 : Cond.selects "RunbookerModel" ⟨"RunbookerModel", "sweeps", "()V"⟩ ⟨"RunbookerModel", "sweeps", "()V"⟩ ∈ lwG := lw_0 47 rfl rfl
theorem gs_48 : Cond.selects "RunbookerModel" ⟨"RunbookerModel", "isOverNow", "()Z"⟩ ⟨"RunbookerModel", "isOverNow", "()Z"⟩ ∈ lwG := lw_0 48 rfl rfl
theorem gs_49 : Cond.selects "RunbookerModel" ⟨"RunbookerModel", "isEntry", "(I)Z"⟩ ⟨"RunbookerModel", "isEntry", "(I)Z"⟩ ∈ lwG := lw_0 49 rfl rfl
theorem gs_50 : Cond.selects "RunbookerModel" ⟨"RunbookerModel", "label", "(I)Ljava/lang/String;"⟩ ⟨"RunbookerModel", "label", "(I)Ljava/lang/String;"⟩ ∈ lwG := lw_0 50 rfl rfl
theorem gw_1_0 : (Jvm.Cond.initialized "RunbookerLaw") ∈ lwG := lw_1 0 rfl rfl
theorem gw_1_1 : (Jvm.Cond.initialized "Runbooker") ∈ lwG := lw_1 1 rfl rfl
theorem gw_1_2 : (Jvm.Cond.initialized "Runbooker$Crew") ∈ lwG := lw_1 2 rfl rfl
theorem gw_1_3 : (Jvm.Cond.initialized "Runbooker$Plan") ∈ lwG := lw_1 3 rfl rfl
theorem gw_1_4 : (Jvm.Cond.initialized "Runbooker$Progress") ∈ lwG := lw_1 4 rfl rfl
theorem gw_1_5 : (Jvm.Cond.initialized "Runbooker$Handover") ∈ lwG := lw_1 5 rfl rfl
theorem gw_1_6 : (Jvm.Cond.initialized "Runbooker$Journal") ∈ lwG := lw_1 6 rfl rfl
theorem gw_1_7 : (Jvm.Cond.initialized "RunbookerModel") ∈ lwG := lw_1 7 rfl rfl
theorem gw_1_8 : (Jvm.Cond.initialized "java/lang/Throwable") ∈ lwG := lw_1 8 rfl rfl
theorem gw_1_9 : (Jvm.Cond.initialized "java/lang/Exception") ∈ lwG := lw_1 9 rfl rfl
theorem gw_1_10 : (Jvm.Cond.initialized "java/lang/RuntimeException") ∈ lwG := lw_1 10 rfl rfl
theorem gw_1_11 : (Jvm.Cond.initialized "java/lang/IllegalArgumentException") ∈ lwG := lw_1 11 rfl rfl
theorem gw_1_12 : (Jvm.Cond.initialized "java/lang/IllegalStateException") ∈ lwG := lw_1 12 rfl rfl
theorem gw_1_13 : (Jvm.Cond.initialized "java/util/NoSuchElementException") ∈ lwG := lw_1 13 rfl rfl
theorem gw_1_14 : (Jvm.Cond.initialized "java/lang/Number") ∈ lwG := lw_1 14 rfl rfl
theorem gw_1_15 : (Jvm.Cond.initialized "java/lang/Integer") ∈ lwG := lw_1 15 rfl rfl
theorem gw_1_16 : (Jvm.Cond.initialized "java/lang/UnsupportedOperationException") ∈ lwG := lw_1 16 rfl rfl
theorem gw_1_17 : (Jvm.Cond.initialized "java/lang/IndexOutOfBoundsException") ∈ lwG := lw_1 17 rfl rfl
theorem gw_1_18 : (Jvm.Cond.initialized "java/lang/Math") ∈ lwG := lw_1 18 rfl rfl
theorem gw_1_19 : (Jvm.Cond.initialized "java/lang/AbstractStringBuilder") ∈ lwG := lw_1 19 rfl rfl
theorem gw_1_20 : (Jvm.Cond.initialized "java/lang/StringBuilder") ∈ lwG := lw_1 20 rfl rfl
theorem gw_1_21 : (Jvm.Cond.initialized "java/lang/String") ∈ lwG := lw_1 21 rfl rfl
theorem gw_1_22 : (Jvm.Cond.initialized "java/lang/StringUTF16") ∈ lwG := lw_1 22 rfl rfl
theorem gw_1_23 : (Jvm.Cond.initialized "jdk/internal/util/ArraysSupport") ∈ lwG := lw_1 23 rfl rfl
theorem gw_1_24 : (Jvm.Cond.initialized "java/util/Arrays") ∈ lwG := lw_1 24 rfl rfl
theorem gw_1_25 : (Jvm.Cond.initialized "java/lang/System") ∈ lwG := lw_1 25 rfl rfl
theorem gw_1_26 : (Jvm.Cond.initialized "jdk/internal/util/Preconditions") ∈ lwG := lw_1 26 rfl rfl
theorem gw_1_27 : (Jvm.Cond.initialized "java/lang/StringLatin1") ∈ lwG := lw_1 27 rfl rfl
theorem gw_1_28 : (Jvm.Cond.classLink "RunbookerLaw" (8 : Nat) "Runbooker") ∈ lwG := lw_1 28 rfl rfl
theorem gw_1_29 : (Jvm.Cond.instantiable "Runbooker" (9 : Nat)) ∈ lwG := lw_1 29 rfl rfl
theorem gw_1_30 : (Jvm.Cond.methodLink "RunbookerLaw" (158 : Nat) ({ cls := "Runbooker", name := "<init>", desc := "()V" } : Jvm.MethodName)) ∈ lwG := lw_1 30 rfl rfl
theorem gw_1_31 : (Jvm.Cond.instanceMethod ({ cls := "Runbooker", name := "<init>", desc := "()V" } : Jvm.MethodName)) ∈ lwG := lw_1 31 rfl rfl
theorem gw_1_32 : (Jvm.Cond.code ({ cls := "Runbooker", name := "<init>", desc := "()V" } : Jvm.MethodName) prog_1_method_1_code (1 : Nat) (Option.none : Option Jvm.ClassFile.FieldType)) ∈ lwG := lw_1 32 rfl rfl
theorem gw_1_33 : (Jvm.Cond.methodLink "Runbooker" (1 : Nat) ({ cls := "java/lang/Object", name := "<init>", desc := "()V" } : Jvm.MethodName)) ∈ lwG := lw_1 33 rfl rfl
theorem gw_1_34 : (Jvm.Cond.instanceMethod ({ cls := "java/lang/Object", name := "<init>", desc := "()V" } : Jvm.MethodName)) ∈ lwG := lw_1 34 rfl rfl
theorem gw_1_35 : (Jvm.Cond.code ({ cls := "java/lang/Object", name := "<init>", desc := "()V" } : Jvm.MethodName) object_method_1_code (1 : Nat) (Option.none : Option Jvm.ClassFile.FieldType)) ∈ lwG := lw_1 35 rfl rfl
theorem gw_1_36 : (Jvm.Cond.classLink "Runbooker" (7 : Nat) "Runbooker$Crew") ∈ lwG := lw_1 36 rfl rfl
theorem gw_1_37 : (Jvm.Cond.instantiable "Runbooker$Crew" (4 : Nat)) ∈ lwG := lw_1 37 rfl rfl
theorem gw_1_39 : (Jvm.Cond.instanceMethod ({ cls := "Runbooker$Crew", name := "<init>", desc := "()V" } : Jvm.MethodName)) ∈ lwG := lw_1 39 rfl rfl
theorem gw_1_40 : (Jvm.Cond.code ({ cls := "Runbooker$Crew", name := "<init>", desc := "()V" } : Jvm.MethodName) prog_2_method_1_code (1 : Nat) (Option.none : Option Jvm.ClassFile.FieldType)) ∈ lwG := lw_1 40 rfl rfl
theorem gw_1_41 : (Jvm.Cond.methodLink "Runbooker$Crew" (3 : Nat) ({ cls := "java/lang/Object", name := "<init>", desc := "()V" } : Jvm.MethodName)) ∈ lwG := lw_1 41 rfl rfl
theorem gw_1_42 : (Jvm.Cond.fieldLink "Runbooker$Crew" (9 : Nat) "Runbooker$Crew" "roles" "[I") ∈ lwG := lw_1 42 rfl rfl
theorem gw_1_43 : (Jvm.Cond.fieldLink "Runbooker$Crew" (15 : Nat) "Runbooker$Crew" "onDuty" "[Z") ∈ lwG := lw_1 43 rfl rfl
theorem gw_1_44 : (Jvm.Cond.fieldLink "Runbooker" (81 : Nat) "Runbooker$Crew" "onDuty" "[Z") ∈ lwG := lw_1 44 rfl rfl
theorem gw_1_45 : (Jvm.Cond.fieldLink "Runbooker$Crew" (19 : Nat) "Runbooker$Crew" "work" "[I") ∈ lwG := lw_1 45 rfl rfl
theorem gw_1_46 : (Jvm.Cond.fieldLink "Runbooker" (200 : Nat) "Runbooker$Crew" "work" "[I") ∈ lwG := lw_1 46 rfl rfl
theorem gw_1_47 : (Jvm.Cond.fieldLink "Runbooker$Crew" (22 : Nat) "Runbooker$Crew" "size" "I") ∈ lwG := lw_1 47 rfl rfl
theorem gw_1_48 : (Jvm.Cond.fieldLink "Runbooker" (55 : Nat) "Runbooker$Crew" "size" "I") ∈ lwG := lw_1 48 rfl rfl
theorem gw_1_49 : (Jvm.Cond.laysFinal "Runbooker$Crew" "Runbooker$Crew" "roles" "[I") ∈ lwG := lw_1 49 rfl rfl
theorem gw_1_51 : (Jvm.Cond.laysFinal "Runbooker$Crew" "Runbooker$Crew" "onDuty" "[Z") ∈ lwG := lw_1 51 rfl rfl
theorem gw_1_53 : (Jvm.Cond.laysFinal "Runbooker$Crew" "Runbooker$Crew" "work" "[I") ∈ lwG := lw_1 53 rfl rfl
theorem gw_1_55 : (Jvm.Cond.lays "Runbooker$Crew" "Runbooker$Crew" "size" "I") ∈ lwG := lw_1 55 rfl rfl
theorem gw_1_57 : (Jvm.Cond.superclass "Runbooker$Crew" "java/lang/Object") ∈ lwG := lw_1 57 rfl rfl
theorem gw_1_58 : (Jvm.Cond.arrayClass Jvm.ClassFile.FieldType.int) ∈ lwG := lw_1 58 rfl rfl
theorem gw_1_59 : (Jvm.Cond.arrayClass Jvm.ClassFile.FieldType.boolean) ∈ lwG := lw_1 59 rfl rfl
theorem gw_1_60 : (Jvm.Cond.classLink "Runbooker" (16 : Nat) "Runbooker$Plan") ∈ lwG := lw_1 60 rfl rfl
theorem gw_1_61 : (Jvm.Cond.instantiable "Runbooker$Plan" (13 : Nat)) ∈ lwG := lw_1 61 rfl rfl
theorem gw_1_63 : (Jvm.Cond.instanceMethod ({ cls := "Runbooker$Plan", name := "<init>", desc := "()V" } : Jvm.MethodName)) ∈ lwG := lw_1 63 rfl rfl
theorem gw_1_64 : (Jvm.Cond.code ({ cls := "Runbooker$Plan", name := "<init>", desc := "()V" } : Jvm.MethodName) prog_5_method_1_code (1 : Nat) (Option.none : Option Jvm.ClassFile.FieldType)) ∈ lwG := lw_1 64 rfl rfl
theorem gw_1_65 : (Jvm.Cond.methodLink "Runbooker$Plan" (3 : Nat) ({ cls := "java/lang/Object", name := "<init>", desc := "()V" } : Jvm.MethodName)) ∈ lwG := lw_1 65 rfl rfl
theorem gw_1_66 : (Jvm.Cond.fieldLink "Runbooker$Plan" (9 : Nat) "Runbooker$Plan" "roles" "[I") ∈ lwG := lw_1 66 rfl rfl
theorem gw_1_67 : (Jvm.Cond.fieldLink "Runbooker" (178 : Nat) "Runbooker$Plan" "roles" "[I") ∈ lwG := lw_1 67 rfl rfl
theorem gw_1_68 : (Jvm.Cond.fieldLink "Runbooker$Plan" (15 : Nat) "Runbooker$Plan" "lengths" "[I") ∈ lwG := lw_1 68 rfl rfl
theorem gw_1_69 : (Jvm.Cond.fieldLink "Runbooker" (214 : Nat) "Runbooker$Plan" "lengths" "[I") ∈ lwG := lw_1 69 rfl rfl
theorem gw_1_70 : (Jvm.Cond.fieldLink "Runbooker$Plan" (18 : Nat) "Runbooker$Plan" "limits" "[I") ∈ lwG := lw_1 70 rfl rfl
theorem gw_1_71 : (Jvm.Cond.fieldLink "Runbooker" (447 : Nat) "Runbooker$Plan" "limits" "[I") ∈ lwG := lw_1 71 rfl rfl
theorem gw_1_72 : (Jvm.Cond.fieldLink "Runbooker$Plan" (21 : Nat) "Runbooker$Plan" "joins" "[C") ∈ lwG := lw_1 72 rfl rfl
theorem gw_1_73 : (Jvm.Cond.fieldLink "Runbooker" (459 : Nat) "Runbooker$Plan" "joins" "[C") ∈ lwG := lw_1 73 rfl rfl
theorem gw_1_74 : (Jvm.Cond.fieldLink "Runbooker$Plan" (25 : Nat) "Runbooker$Plan" "reversible" "[Z") ∈ lwG := lw_1 74 rfl rfl
theorem gw_1_75 : (Jvm.Cond.fieldLink "Runbooker" (456 : Nat) "Runbooker$Plan" "reversible" "[Z") ∈ lwG := lw_1 75 rfl rfl
theorem gw_1_76 : (Jvm.Cond.fieldLink "Runbooker$Plan" (29 : Nat) "Runbooker$Plan" "needs" "[I") ∈ lwG := lw_1 76 rfl rfl
theorem gw_1_77 : (Jvm.Cond.fieldLink "Runbooker" (113 : Nat) "Runbooker$Plan" "needs" "[I") ∈ lwG := lw_1 77 rfl rfl
theorem gw_1_78 : (Jvm.Cond.fieldLink "Runbooker$Plan" (32 : Nat) "Runbooker$Plan" "fallbacks" "[I") ∈ lwG := lw_1 78 rfl rfl
theorem gw_1_79 : (Jvm.Cond.fieldLink "Runbooker" (143 : Nat) "Runbooker$Plan" "fallbacks" "[I") ∈ lwG := lw_1 79 rfl rfl
theorem gw_1_80 : (Jvm.Cond.fieldLink "Runbooker$Plan" (35 : Nat) "Runbooker$Plan" "conditionCounts" "[I") ∈ lwG := lw_1 80 rfl rfl
theorem gw_1_81 : (Jvm.Cond.fieldLink "Runbooker" (129 : Nat) "Runbooker$Plan" "conditionCounts" "[I") ∈ lwG := lw_1 81 rfl rfl
theorem gw_1_82 : (Jvm.Cond.fieldLink "Runbooker$Plan" (38 : Nat) "Runbooker$Plan" "sensors" "[I") ∈ lwG := lw_1 82 rfl rfl
theorem gw_1_83 : (Jvm.Cond.fieldLink "Runbooker$Plan" (41 : Nat) "Runbooker$Plan" "signs" "[C") ∈ lwG := lw_1 83 rfl rfl
theorem gw_1_84 : (Jvm.Cond.fieldLink "Runbooker$Plan" (44 : Nat) "Runbooker$Plan" "bounds" "[I") ∈ lwG := lw_1 84 rfl rfl
theorem gw_1_85 : (Jvm.Cond.fieldLink "Runbooker$Plan" (47 : Nat) "Runbooker$Plan" "rests" "[I") ∈ lwG := lw_1 85 rfl rfl
theorem gw_1_86 : (Jvm.Cond.fieldLink "Runbooker" (327 : Nat) "Runbooker$Plan" "rests" "[I") ∈ lwG := lw_1 86 rfl rfl
theorem gw_1_87 : (Jvm.Cond.fieldLink "Runbooker$Plan" (50 : Nat) "Runbooker$Plan" "size" "I") ∈ lwG := lw_1 87 rfl rfl
theorem gw_1_88 : (Jvm.Cond.fieldLink "Runbooker$Progress" (39 : Nat) "Runbooker$Plan" "size" "I") ∈ lwG := lw_1 88 rfl rfl
theorem gw_1_89 : (Jvm.Cond.fieldLink "Runbooker" (95 : Nat) "Runbooker$Plan" "size" "I") ∈ lwG := lw_1 89 rfl rfl
theorem gw_1_90 : (Jvm.Cond.laysFinal "Runbooker$Plan" "Runbooker$Plan" "roles" "[I") ∈ lwG := lw_1 90 rfl rfl
theorem gw_1_92 : (Jvm.Cond.laysFinal "Runbooker$Plan" "Runbooker$Plan" "lengths" "[I") ∈ lwG := lw_1 92 rfl rfl
theorem gw_1_94 : (Jvm.Cond.laysFinal "Runbooker$Plan" "Runbooker$Plan" "limits" "[I") ∈ lwG := lw_1 94 rfl rfl
theorem gw_1_96 : (Jvm.Cond.laysFinal "Runbooker$Plan" "Runbooker$Plan" "joins" "[C") ∈ lwG := lw_1 96 rfl rfl
theorem gw_1_98 : (Jvm.Cond.laysFinal "Runbooker$Plan" "Runbooker$Plan" "reversible" "[Z") ∈ lwG := lw_1 98 rfl rfl
theorem gw_1_100 : (Jvm.Cond.laysFinal "Runbooker$Plan" "Runbooker$Plan" "needs" "[I") ∈ lwG := lw_1 100 rfl rfl
theorem gw_1_102 : (Jvm.Cond.laysFinal "Runbooker$Plan" "Runbooker$Plan" "fallbacks" "[I") ∈ lwG := lw_1 102 rfl rfl
theorem gw_1_104 : (Jvm.Cond.laysFinal "Runbooker$Plan" "Runbooker$Plan" "conditionCounts" "[I") ∈ lwG := lw_1 104 rfl rfl
theorem gw_1_106 : (Jvm.Cond.laysFinal "Runbooker$Plan" "Runbooker$Plan" "sensors" "[I") ∈ lwG := lw_1 106 rfl rfl
theorem gw_1_108 : (Jvm.Cond.laysFinal "Runbooker$Plan" "Runbooker$Plan" "signs" "[C") ∈ lwG := lw_1 108 rfl rfl
theorem gw_1_110 : (Jvm.Cond.laysFinal "Runbooker$Plan" "Runbooker$Plan" "bounds" "[I") ∈ lwG := lw_1 110 rfl rfl
theorem gw_1_112 : (Jvm.Cond.laysFinal "Runbooker$Plan" "Runbooker$Plan" "rests" "[I") ∈ lwG := lw_1 112 rfl rfl
theorem gw_1_114 : (Jvm.Cond.lays "Runbooker$Plan" "Runbooker$Plan" "size" "I") ∈ lwG := lw_1 114 rfl rfl
theorem gw_1_116 : (Jvm.Cond.superclass "Runbooker$Plan" "java/lang/Object") ∈ lwG := lw_1 116 rfl rfl
theorem gw_1_117 : (Jvm.Cond.arrayClass Jvm.ClassFile.FieldType.char) ∈ lwG := lw_1 117 rfl rfl
theorem gw_1_118 : (Jvm.Cond.classLink "Runbooker" (23 : Nat) "Runbooker$Progress") ∈ lwG := lw_1 118 rfl rfl
theorem gw_1_119 : (Jvm.Cond.instantiable "Runbooker$Progress" (9 : Nat)) ∈ lwG := lw_1 119 rfl rfl
theorem gw_1_121 : (Jvm.Cond.instanceMethod ({ cls := "Runbooker$Progress", name := "<init>", desc := "()V" } : Jvm.MethodName)) ∈ lwG := lw_1 121 rfl rfl
theorem gw_1_122 : (Jvm.Cond.code ({ cls := "Runbooker$Progress", name := "<init>", desc := "()V" } : Jvm.MethodName) prog_6_method_1_code (1 : Nat) (Option.none : Option Jvm.ClassFile.FieldType)) ∈ lwG := lw_1 122 rfl rfl
theorem gw_1_123 : (Jvm.Cond.methodLink "Runbooker$Progress" (3 : Nat) ({ cls := "java/lang/Object", name := "<init>", desc := "()V" } : Jvm.MethodName)) ∈ lwG := lw_1 123 rfl rfl
theorem gw_1_124 : (Jvm.Cond.fieldLink "Runbooker$Progress" (9 : Nat) "Runbooker$Progress" "states" "[C") ∈ lwG := lw_1 124 rfl rfl
theorem gw_1_125 : (Jvm.Cond.fieldLink "Runbooker" (236 : Nat) "Runbooker$Progress" "states" "[C") ∈ lwG := lw_1 125 rfl rfl
theorem gw_1_126 : (Jvm.Cond.fieldLink "Runbooker$Progress" (15 : Nat) "Runbooker$Progress" "wasOff" "[Z") ∈ lwG := lw_1 126 rfl rfl
theorem gw_1_127 : (Jvm.Cond.fieldLink "Runbooker" (360 : Nat) "Runbooker$Progress" "wasOff" "[Z") ∈ lwG := lw_1 127 rfl rfl
theorem gw_1_128 : (Jvm.Cond.fieldLink "Runbooker$Progress" (19 : Nat) "Runbooker$Progress" "wasBegun" "[Z") ∈ lwG := lw_1 128 rfl rfl
theorem gw_1_129 : (Jvm.Cond.fieldLink "Runbooker" (288 : Nat) "Runbooker$Progress" "wasBegun" "[Z") ∈ lwG := lw_1 129 rfl rfl
theorem gw_1_130 : (Jvm.Cond.fieldLink "Runbooker$Progress" (22 : Nat) "Runbooker$Progress" "tries" "[I") ∈ lwG := lw_1 130 rfl rfl
theorem gw_1_131 : (Jvm.Cond.fieldLink "Runbooker" (303 : Nat) "Runbooker$Progress" "tries" "[I") ∈ lwG := lw_1 131 rfl rfl
theorem gw_1_132 : (Jvm.Cond.fieldLink "Runbooker$Progress" (26 : Nat) "Runbooker$Progress" "worked" "[I") ∈ lwG := lw_1 132 rfl rfl
theorem gw_1_133 : (Jvm.Cond.fieldLink "Runbooker" (222 : Nat) "Runbooker$Progress" "worked" "[I") ∈ lwG := lw_1 133 rfl rfl
theorem gw_1_134 : (Jvm.Cond.fieldLink "Runbooker$Progress" (29 : Nat) "Runbooker$Progress" "seen" "[I") ∈ lwG := lw_1 134 rfl rfl
theorem gw_1_135 : (Jvm.Cond.fieldLink "Runbooker$Progress" (32 : Nat) "Runbooker$Progress" "doneOrder" "[I") ∈ lwG := lw_1 135 rfl rfl
theorem gw_1_136 : (Jvm.Cond.fieldLink "Runbooker" (453 : Nat) "Runbooker$Progress" "doneOrder" "[I") ∈ lwG := lw_1 136 rfl rfl
theorem gw_1_137 : (Jvm.Cond.fieldLink "Runbooker$Progress" (42 : Nat) "Runbooker$Progress" "doneCount" "I") ∈ lwG := lw_1 137 rfl rfl
theorem gw_1_138 : (Jvm.Cond.fieldLink "Runbooker" (175 : Nat) "Runbooker$Progress" "doneCount" "I") ∈ lwG := lw_1 138 rfl rfl
theorem gw_1_139 : (Jvm.Cond.fieldLink "Runbooker$Progress" (35 : Nat) "Runbooker$Progress" "size" "I") ∈ lwG := lw_1 139 rfl rfl
theorem gw_1_140 : (Jvm.Cond.fieldLink "Runbooker" (430 : Nat) "Runbooker$Progress" "size" "I") ∈ lwG := lw_1 140 rfl rfl
theorem gw_1_141 : (Jvm.Cond.laysFinal "Runbooker$Progress" "Runbooker$Progress" "states" "[C") ∈ lwG := lw_1 141 rfl rfl
theorem gw_1_143 : (Jvm.Cond.laysFinal "Runbooker$Progress" "Runbooker$Progress" "wasOff" "[Z") ∈ lwG := lw_1 143 rfl rfl
theorem gw_1_145 : (Jvm.Cond.laysFinal "Runbooker$Progress" "Runbooker$Progress" "wasBegun" "[Z") ∈ lwG := lw_1 145 rfl rfl
theorem gw_1_147 : (Jvm.Cond.laysFinal "Runbooker$Progress" "Runbooker$Progress" "tries" "[I") ∈ lwG := lw_1 147 rfl rfl
theorem gw_1_149 : (Jvm.Cond.laysFinal "Runbooker$Progress" "Runbooker$Progress" "worked" "[I") ∈ lwG := lw_1 149 rfl rfl
theorem gw_1_151 : (Jvm.Cond.laysFinal "Runbooker$Progress" "Runbooker$Progress" "seen" "[I") ∈ lwG := lw_1 151 rfl rfl
theorem gw_1_153 : (Jvm.Cond.laysFinal "Runbooker$Progress" "Runbooker$Progress" "doneOrder" "[I") ∈ lwG := lw_1 153 rfl rfl
theorem gw_1_155 : (Jvm.Cond.lays "Runbooker$Progress" "Runbooker$Progress" "doneCount" "I") ∈ lwG := lw_1 155 rfl rfl
theorem gw_1_157 : (Jvm.Cond.lays "Runbooker$Progress" "Runbooker$Progress" "size" "I") ∈ lwG := lw_1 157 rfl rfl
theorem gw_1_159 : (Jvm.Cond.superclass "Runbooker$Progress" "java/lang/Object") ∈ lwG := lw_1 159 rfl rfl
theorem gw_1_160 : (Jvm.Cond.classLink "Runbooker" (30 : Nat) "Runbooker$Handover") ∈ lwG := lw_1 160 rfl rfl
theorem gw_1_161 : (Jvm.Cond.instantiable "Runbooker$Handover" (3 : Nat)) ∈ lwG := lw_1 161 rfl rfl
theorem gw_1_163 : (Jvm.Cond.instanceMethod ({ cls := "Runbooker$Handover", name := "<init>", desc := "()V" } : Jvm.MethodName)) ∈ lwG := lw_1 163 rfl rfl
theorem gw_1_164 : (Jvm.Cond.code ({ cls := "Runbooker$Handover", name := "<init>", desc := "()V" } : Jvm.MethodName) prog_3_method_1_code (1 : Nat) (Option.none : Option Jvm.ClassFile.FieldType)) ∈ lwG := lw_1 164 rfl rfl
theorem gw_1_165 : (Jvm.Cond.methodLink "Runbooker$Handover" (3 : Nat) ({ cls := "java/lang/Object", name := "<init>", desc := "()V" } : Jvm.MethodName)) ∈ lwG := lw_1 165 rfl rfl
theorem gw_1_166 : (Jvm.Cond.fieldLink "Runbooker$Handover" (9 : Nat) "Runbooker$Handover" "from" "I") ∈ lwG := lw_1 166 rfl rfl
theorem gw_1_167 : (Jvm.Cond.fieldLink "Runbooker" (427 : Nat) "Runbooker$Handover" "from" "I") ∈ lwG := lw_1 167 rfl rfl
theorem gw_1_168 : (Jvm.Cond.fieldLink "Runbooker$Handover" (15 : Nat) "Runbooker$Handover" "to" "I") ∈ lwG := lw_1 168 rfl rfl
theorem gw_1_169 : (Jvm.Cond.fieldLink "Runbooker" (431 : Nat) "Runbooker$Handover" "to" "I") ∈ lwG := lw_1 169 rfl rfl
theorem gw_1_170 : (Jvm.Cond.fieldLink "Runbooker$Handover" (18 : Nat) "Runbooker$Handover" "end" "I") ∈ lwG := lw_1 170 rfl rfl
theorem gw_1_171 : (Jvm.Cond.fieldLink "Runbooker" (253 : Nat) "Runbooker$Handover" "end" "I") ∈ lwG := lw_1 171 rfl rfl
theorem gw_1_172 : (Jvm.Cond.lays "Runbooker$Handover" "Runbooker$Handover" "from" "I") ∈ lwG := lw_1 172 rfl rfl
theorem gw_1_174 : (Jvm.Cond.lays "Runbooker$Handover" "Runbooker$Handover" "to" "I") ∈ lwG := lw_1 174 rfl rfl
theorem gw_1_176 : (Jvm.Cond.lays "Runbooker$Handover" "Runbooker$Handover" "end" "I") ∈ lwG := lw_1 176 rfl rfl
theorem gw_1_178 : (Jvm.Cond.superclass "Runbooker$Handover" "java/lang/Object") ∈ lwG := lw_1 178 rfl rfl
theorem gw_1_179 : (Jvm.Cond.classLink "Runbooker" (37 : Nat) "Runbooker$Journal") ∈ lwG := lw_1 179 rfl rfl
theorem gw_1_180 : (Jvm.Cond.instantiable "Runbooker$Journal" (5 : Nat)) ∈ lwG := lw_1 180 rfl rfl
theorem gw_1_182 : (Jvm.Cond.instanceMethod ({ cls := "Runbooker$Journal", name := "<init>", desc := "()V" } : Jvm.MethodName)) ∈ lwG := lw_1 182 rfl rfl
theorem gw_1_183 : (Jvm.Cond.code ({ cls := "Runbooker$Journal", name := "<init>", desc := "()V" } : Jvm.MethodName) prog_4_method_1_code (1 : Nat) (Option.none : Option Jvm.ClassFile.FieldType)) ∈ lwG := lw_1 183 rfl rfl
theorem gw_1_184 : (Jvm.Cond.methodLink "Runbooker$Journal" (3 : Nat) ({ cls := "java/lang/Object", name := "<init>", desc := "()V" } : Jvm.MethodName)) ∈ lwG := lw_1 184 rfl rfl
theorem gw_1_185 : (Jvm.Cond.fieldLink "Runbooker$Journal" (9 : Nat) "Runbooker$Journal" "signs" "[C") ∈ lwG := lw_1 185 rfl rfl
theorem gw_1_186 : (Jvm.Cond.fieldLink "Runbooker" (348 : Nat) "Runbooker$Journal" "signs" "[C") ∈ lwG := lw_1 186 rfl rfl
theorem gw_1_187 : (Jvm.Cond.fieldLink "Runbooker$Journal" (15 : Nat) "Runbooker$Journal" "steps" "[I") ∈ lwG := lw_1 187 rfl rfl
theorem gw_1_188 : (Jvm.Cond.fieldLink "Runbooker" (351 : Nat) "Runbooker$Journal" "steps" "[I") ∈ lwG := lw_1 188 rfl rfl
theorem gw_1_189 : (Jvm.Cond.fieldLink "Runbooker$Journal" (19 : Nat) "Runbooker$Journal" "people" "[I") ∈ lwG := lw_1 189 rfl rfl
theorem gw_1_190 : (Jvm.Cond.fieldLink "Runbooker" (354 : Nat) "Runbooker$Journal" "people" "[I") ∈ lwG := lw_1 190 rfl rfl
theorem gw_1_191 : (Jvm.Cond.fieldLink "Runbooker$Journal" (22 : Nat) "Runbooker$Journal" "minutes" "[I") ∈ lwG := lw_1 191 rfl rfl
theorem gw_1_192 : (Jvm.Cond.fieldLink "Runbooker" (357 : Nat) "Runbooker$Journal" "minutes" "[I") ∈ lwG := lw_1 192 rfl rfl
theorem gw_1_193 : (Jvm.Cond.fieldLink "Runbooker$Journal" (25 : Nat) "Runbooker$Journal" "size" "I") ∈ lwG := lw_1 193 rfl rfl
theorem gw_1_194 : (Jvm.Cond.fieldLink "Runbooker" (154 : Nat) "Runbooker$Journal" "size" "I") ∈ lwG := lw_1 194 rfl rfl
theorem gw_1_195 : (Jvm.Cond.laysFinal "Runbooker$Journal" "Runbooker$Journal" "signs" "[C") ∈ lwG := lw_1 195 rfl rfl
theorem gw_1_197 : (Jvm.Cond.laysFinal "Runbooker$Journal" "Runbooker$Journal" "steps" "[I") ∈ lwG := lw_1 197 rfl rfl
theorem gw_1_199 : (Jvm.Cond.laysFinal "Runbooker$Journal" "Runbooker$Journal" "people" "[I") ∈ lwG := lw_1 199 rfl rfl
theorem gw_1_201 : (Jvm.Cond.laysFinal "Runbooker$Journal" "Runbooker$Journal" "minutes" "[I") ∈ lwG := lw_1 201 rfl rfl
theorem gw_1_203 : (Jvm.Cond.lays "Runbooker$Journal" "Runbooker$Journal" "size" "I") ∈ lwG := lw_1 203 rfl rfl
theorem gw_1_205 : (Jvm.Cond.superclass "Runbooker$Journal" "java/lang/Object") ∈ lwG := lw_1 205 rfl rfl
theorem gw_1_206 : (Jvm.Cond.fieldLink "Runbooker" (10 : Nat) "Runbooker" "crew" "LRunbooker$Crew;") ∈ lwG := lw_1 206 rfl rfl
theorem gw_1_207 : (Jvm.Cond.fieldLink "Runbooker" (19 : Nat) "Runbooker" "plan" "LRunbooker$Plan;") ∈ lwG := lw_1 207 rfl rfl
theorem gw_1_208 : (Jvm.Cond.fieldLink "Runbooker" (26 : Nat) "Runbooker" "progress" "LRunbooker$Progress;") ∈ lwG := lw_1 208 rfl rfl
theorem gw_1_209 : (Jvm.Cond.fieldLink "Runbooker" (33 : Nat) "Runbooker" "handover" "LRunbooker$Handover;") ∈ lwG := lw_1 209 rfl rfl
theorem gw_1_210 : (Jvm.Cond.fieldLink "Runbooker" (40 : Nat) "Runbooker" "journal" "LRunbooker$Journal;") ∈ lwG := lw_1 210 rfl rfl
theorem gw_1_211 : (Jvm.Cond.fieldLink "Runbooker" (44 : Nat) "Runbooker" "readings" "[I") ∈ lwG := lw_1 211 rfl rfl
theorem gw_1_212 : (Jvm.Cond.fieldLink "Runbooker" (207 : Nat) "Runbooker" "minute" "I") ∈ lwG := lw_1 212 rfl rfl
theorem gw_1_213 : (Jvm.Cond.fieldLink "Runbooker" (155 : Nat) "Runbooker" "isRunOpen" "Z") ∈ lwG := lw_1 213 rfl rfl
theorem gw_1_214 : (Jvm.Cond.fieldLink "Runbooker" (385 : Nat) "Runbooker" "minutesWorked" "J") ∈ lwG := lw_1 214 rfl rfl
theorem gw_1_215 : (Jvm.Cond.laysFinal "Runbooker" "Runbooker" "crew" "LRunbooker$Crew;") ∈ lwG := lw_1 215 rfl rfl
theorem gw_1_217 : (Jvm.Cond.laysFinal "Runbooker" "Runbooker" "plan" "LRunbooker$Plan;") ∈ lwG := lw_1 217 rfl rfl
theorem gw_1_219 : (Jvm.Cond.laysFinal "Runbooker" "Runbooker" "progress" "LRunbooker$Progress;") ∈ lwG := lw_1 219 rfl rfl
theorem gw_1_221 : (Jvm.Cond.laysFinal "Runbooker" "Runbooker" "handover" "LRunbooker$Handover;") ∈ lwG := lw_1 221 rfl rfl
theorem gw_1_223 : (Jvm.Cond.laysFinal "Runbooker" "Runbooker" "journal" "LRunbooker$Journal;") ∈ lwG := lw_1 223 rfl rfl
theorem gw_1_225 : (Jvm.Cond.laysFinal "Runbooker" "Runbooker" "readings" "[I") ∈ lwG := lw_1 225 rfl rfl
theorem gw_1_227 : (Jvm.Cond.lays "Runbooker" "Runbooker" "minute" "I") ∈ lwG := lw_1 227 rfl rfl
theorem gw_1_229 : (Jvm.Cond.lays "Runbooker" "Runbooker" "isRunOpen" "Z") ∈ lwG := lw_1 229 rfl rfl
theorem gw_1_231 : (Jvm.Cond.lays "Runbooker" "Runbooker" "minutesWorked" "J") ∈ lwG := lw_1 231 rfl rfl
theorem gw_1_233 : (Jvm.Cond.superclass "Runbooker" "java/lang/Object") ∈ lwG := lw_1 233 rfl rfl
theorem gw_1_234 : (Jvm.Cond.methodLink "RunbookerLaw" (215 : Nat) ({ cls := "Runbooker", name := "people", desc := "()I" } : Jvm.MethodName)) ∈ lwG := lw_1 234 rfl rfl
theorem gw_1_235 : (Jvm.Cond.instanceMethod ({ cls := "Runbooker", name := "people", desc := "()I" } : Jvm.MethodName)) ∈ lwG := lw_1 235 rfl rfl
theorem gw_1_236 : (Jvm.Cond.selects "Runbooker" ({ cls := "Runbooker", name := "people", desc := "()I" } : Jvm.MethodName) ({ cls := "Runbooker", name := "people", desc := "()I" } : Jvm.MethodName)) ∈ lwG := lw_1 236 rfl rfl
theorem gw_1_237 : (Jvm.Cond.code ({ cls := "Runbooker", name := "people", desc := "()I" } : Jvm.MethodName) prog_1_method_16_code (1 : Nat) (Option.some Jvm.ClassFile.FieldType.int)) ∈ lwG := lw_1 237 rfl rfl
theorem gw_1_238 : (Jvm.Cond.methodLink "RunbookerLaw" (219 : Nat) ({ cls := "Runbooker", name := "steps", desc := "()I" } : Jvm.MethodName)) ∈ lwG := lw_1 238 rfl rfl
theorem gw_1_239 : (Jvm.Cond.instanceMethod ({ cls := "Runbooker", name := "steps", desc := "()I" } : Jvm.MethodName)) ∈ lwG := lw_1 239 rfl rfl
theorem gw_2_0 : (Jvm.Cond.selects "Runbooker" ({ cls := "Runbooker", name := "steps", desc := "()I" } : Jvm.MethodName) ({ cls := "Runbooker", name := "steps", desc := "()I" } : Jvm.MethodName)) ∈ lwG := lw_2 0 rfl rfl
theorem gw_2_1 : (Jvm.Cond.code ({ cls := "Runbooker", name := "steps", desc := "()I" } : Jvm.MethodName) prog_1_method_17_code (1 : Nat) (Option.some Jvm.ClassFile.FieldType.int)) ∈ lwG := lw_2 1 rfl rfl
theorem gw_2_2 : (Jvm.Cond.methodLink "RunbookerLaw" (223 : Nat) ({ cls := "Runbooker", name := "clock", desc := "()I" } : Jvm.MethodName)) ∈ lwG := lw_2 2 rfl rfl
theorem gw_2_3 : (Jvm.Cond.instanceMethod ({ cls := "Runbooker", name := "clock", desc := "()I" } : Jvm.MethodName)) ∈ lwG := lw_2 3 rfl rfl
theorem gw_2_4 : (Jvm.Cond.selects "Runbooker" ({ cls := "Runbooker", name := "clock", desc := "()I" } : Jvm.MethodName) ({ cls := "Runbooker", name := "clock", desc := "()I" } : Jvm.MethodName)) ∈ lwG := lw_2 4 rfl rfl
theorem gw_2_5 : (Jvm.Cond.code ({ cls := "Runbooker", name := "clock", desc := "()I" } : Jvm.MethodName) prog_1_method_18_code (1 : Nat) (Option.some Jvm.ClassFile.FieldType.int)) ∈ lwG := lw_2 5 rfl rfl
theorem gw_2_6 : (Jvm.Cond.methodLink "RunbookerLaw" (245 : Nat) ({ cls := "Runbooker", name := "isRunning", desc := "()Z" } : Jvm.MethodName)) ∈ lwG := lw_2 6 rfl rfl
theorem gw_2_7 : (Jvm.Cond.instanceMethod ({ cls := "Runbooker", name := "isRunning", desc := "()Z" } : Jvm.MethodName)) ∈ lwG := lw_2 7 rfl rfl
theorem gw_2_8 : (Jvm.Cond.selects "Runbooker" ({ cls := "Runbooker", name := "isRunning", desc := "()Z" } : Jvm.MethodName) ({ cls := "Runbooker", name := "isRunning", desc := "()Z" } : Jvm.MethodName)) ∈ lwG := lw_2 8 rfl rfl
theorem gw_2_9 : (Jvm.Cond.code ({ cls := "Runbooker", name := "isRunning", desc := "()Z" } : Jvm.MethodName) prog_1_method_25_code (1 : Nat) (Option.some Jvm.ClassFile.FieldType.boolean)) ∈ lwG := lw_2 9 rfl rfl
theorem gw_2_10 : (Jvm.Cond.methodLink "RunbookerLaw" (262 : Nat) ({ cls := "Runbooker", name := "ready", desc := "()I" } : Jvm.MethodName)) ∈ lwG := lw_2 10 rfl rfl
theorem gw_2_11 : (Jvm.Cond.instanceMethod ({ cls := "Runbooker", name := "ready", desc := "()I" } : Jvm.MethodName)) ∈ lwG := lw_2 11 rfl rfl
theorem gw_2_12 : (Jvm.Cond.selects "Runbooker" ({ cls := "Runbooker", name := "ready", desc := "()I" } : Jvm.MethodName) ({ cls := "Runbooker", name := "ready", desc := "()I" } : Jvm.MethodName)) ∈ lwG := lw_2 12 rfl rfl
theorem gw_2_13 : (Jvm.Cond.code ({ cls := "Runbooker", name := "ready", desc := "()I" } : Jvm.MethodName) prog_1_method_30_code (1 : Nat) (Option.some Jvm.ClassFile.FieldType.int)) ∈ lwG := lw_2 13 rfl rfl
theorem gw_2_14 : (Jvm.Cond.methodLink "Runbooker" (159 : Nat) ({ cls := "Runbooker", name := "countReady", desc := "()I" } : Jvm.MethodName)) ∈ lwG := lw_2 14 rfl rfl
theorem gw_2_16 : (Jvm.Cond.instanceMethod ({ cls := "Runbooker", name := "countReady", desc := "()I" } : Jvm.MethodName)) ∈ lwG := lw_2 16 rfl rfl
theorem gw_2_17 : (Jvm.Cond.code ({ cls := "Runbooker", name := "countReady", desc := "()I" } : Jvm.MethodName) prog_1_method_76_code (3 : Nat) (Option.some Jvm.ClassFile.FieldType.int)) ∈ lwG := lw_2 17 rfl rfl
theorem gw_2_18 : (Jvm.Cond.methodLink "Runbooker" (192 : Nat) ({ cls := "Runbooker", name := "isStepReady", desc := "(I)Z" } : Jvm.MethodName)) ∈ lwG := lw_2 18 rfl rfl
theorem gw_2_20 : (Jvm.Cond.instanceMethod ({ cls := "Runbooker", name := "isStepReady", desc := "(I)Z" } : Jvm.MethodName)) ∈ lwG := lw_2 20 rfl rfl
theorem gw_2_21 : (Jvm.Cond.code ({ cls := "Runbooker", name := "isStepReady", desc := "(I)Z" } : Jvm.MethodName) prog_1_method_75_code (2 : Nat) (Option.some Jvm.ClassFile.FieldType.boolean)) ∈ lwG := lw_2 21 rfl rfl
theorem gw_2_22 : (Jvm.Cond.methodLink "Runbooker" (306 : Nat) ({ cls := "Runbooker", name := "areNeedsMet", desc := "(I)Z" } : Jvm.MethodName)) ∈ lwG := lw_2 22 rfl rfl
theorem gw_2_24 : (Jvm.Cond.instanceMethod ({ cls := "Runbooker", name := "areNeedsMet", desc := "(I)Z" } : Jvm.MethodName)) ∈ lwG := lw_2 24 rfl rfl
theorem gw_2_25 : (Jvm.Cond.code ({ cls := "Runbooker", name := "areNeedsMet", desc := "(I)Z" } : Jvm.MethodName) prog_1_method_77_code (5 : Nat) (Option.some Jvm.ClassFile.FieldType.boolean)) ∈ lwG := lw_2 25 rfl rfl
theorem gw_2_26 : (Jvm.Cond.methodLink "Runbooker" (107 : Nat) ({ cls := "Runbooker$Plan", name := "doesNeed", desc := "(II)Z" } : Jvm.MethodName)) ∈ lwG := lw_2 26 rfl rfl
theorem gw_2_27 : (Jvm.Cond.instanceMethod ({ cls := "Runbooker$Plan", name := "doesNeed", desc := "(II)Z" } : Jvm.MethodName)) ∈ lwG := lw_2 27 rfl rfl
theorem gw_2_28 : (Jvm.Cond.selects "Runbooker$Plan" ({ cls := "Runbooker$Plan", name := "doesNeed", desc := "(II)Z" } : Jvm.MethodName) ({ cls := "Runbooker$Plan", name := "doesNeed", desc := "(II)Z" } : Jvm.MethodName)) ∈ lwG := lw_2 28 rfl rfl
theorem gw_2_29 : (Jvm.Cond.code ({ cls := "Runbooker$Plan", name := "doesNeed", desc := "(II)Z" } : Jvm.MethodName) prog_5_method_4_code (3 : Nat) (Option.some Jvm.ClassFile.FieldType.boolean)) ∈ lwG := lw_2 29 rfl rfl
theorem gw_2_30 : (Jvm.Cond.methodLink "Runbooker" (330 : Nat) ({ cls := "Runbooker", name := "isStepSettled", desc := "(I)Z" } : Jvm.MethodName)) ∈ lwG := lw_2 30 rfl rfl
theorem gw_2_32 : (Jvm.Cond.instanceMethod ({ cls := "Runbooker", name := "isStepSettled", desc := "(I)Z" } : Jvm.MethodName)) ∈ lwG := lw_2 32 rfl rfl
theorem gw_2_33 : (Jvm.Cond.code ({ cls := "Runbooker", name := "isStepSettled", desc := "(I)Z" } : Jvm.MethodName) prog_1_method_78_code (4 : Nat) (Option.some Jvm.ClassFile.FieldType.boolean)) ∈ lwG := lw_2 33 rfl rfl
theorem gw_2_34 : (Jvm.Cond.methodLink "Runbooker" (403 : Nat) ({ cls := "Runbooker$Progress", name := "has", desc := "(I)Z" } : Jvm.MethodName)) ∈ lwG := lw_2 34 rfl rfl
theorem gw_2_35 : (Jvm.Cond.instanceMethod ({ cls := "Runbooker$Progress", name := "has", desc := "(I)Z" } : Jvm.MethodName)) ∈ lwG := lw_2 35 rfl rfl
theorem gw_2_36 : (Jvm.Cond.selects "Runbooker$Progress" ({ cls := "Runbooker$Progress", name := "has", desc := "(I)Z" } : Jvm.MethodName) ({ cls := "Runbooker$Progress", name := "has", desc := "(I)Z" } : Jvm.MethodName)) ∈ lwG := lw_2 36 rfl rfl
theorem gw_2_37 : (Jvm.Cond.code ({ cls := "Runbooker$Progress", name := "has", desc := "(I)Z" } : Jvm.MethodName) prog_6_method_2_code (2 : Nat) (Option.some Jvm.ClassFile.FieldType.boolean)) ∈ lwG := lw_2 37 rfl rfl
theorem gw_2_38 : (Jvm.Cond.methodLink "Runbooker" (279 : Nat) ({ cls := "Runbooker$Plan", name := "isGuardMet", desc := "(I[I)Z" } : Jvm.MethodName)) ∈ lwG := lw_2 38 rfl rfl
theorem gw_2_39 : (Jvm.Cond.instanceMethod ({ cls := "Runbooker$Plan", name := "isGuardMet", desc := "(I[I)Z" } : Jvm.MethodName)) ∈ lwG := lw_2 39 rfl rfl
theorem gw_2_40 : (Jvm.Cond.selects "Runbooker$Plan" ({ cls := "Runbooker$Plan", name := "isGuardMet", desc := "(I[I)Z" } : Jvm.MethodName) ({ cls := "Runbooker$Plan", name := "isGuardMet", desc := "(I[I)Z" } : Jvm.MethodName)) ∈ lwG := lw_2 40 rfl rfl
theorem gw_2_41 : (Jvm.Cond.code ({ cls := "Runbooker$Plan", name := "isGuardMet", desc := "(I[I)Z" } : Jvm.MethodName) prog_5_method_8_code (6 : Nat) (Option.some Jvm.ClassFile.FieldType.boolean)) ∈ lwG := lw_2 41 rfl rfl
theorem gw_2_43 : (Jvm.Cond.static ({ cls := "Runbooker", name := "isSensor", desc := "(I)Z" } : Jvm.MethodName)) ∈ lwG := lw_2 43 rfl rfl
theorem gw_2_44 : (Jvm.Cond.code ({ cls := "Runbooker", name := "isSensor", desc := "(I)Z" } : Jvm.MethodName) prog_1_method_61_code (1 : Nat) (Option.some Jvm.ClassFile.FieldType.boolean)) ∈ lwG := lw_2 44 rfl rfl
theorem gw_2_45 : (Jvm.Cond.methodLink "Runbooker$Plan" (58 : Nat) ({ cls := "Runbooker$Plan", name := "isMet", desc := "(ICI)Z" } : Jvm.MethodName)) ∈ lwG := lw_2 45 rfl rfl
theorem gw_2_46 : (Jvm.Cond.static ({ cls := "Runbooker$Plan", name := "isMet", desc := "(ICI)Z" } : Jvm.MethodName)) ∈ lwG := lw_2 46 rfl rfl
theorem gw_2_47 : (Jvm.Cond.code ({ cls := "Runbooker$Plan", name := "isMet", desc := "(ICI)Z" } : Jvm.MethodName) prog_5_method_9_code (3 : Nat) (Option.some Jvm.ClassFile.FieldType.boolean)) ∈ lwG := lw_2 47 rfl rfl
theorem gw_2_48 : (Jvm.Cond.methodLink "RunbookerLaw" (278 : Nat) ({ cls := "Runbooker", name := "isOver", desc := "()Z" } : Jvm.MethodName)) ∈ lwG := lw_2 48 rfl rfl
theorem gw_2_49 : (Jvm.Cond.instanceMethod ({ cls := "Runbooker", name := "isOver", desc := "()Z" } : Jvm.MethodName)) ∈ lwG := lw_2 49 rfl rfl
theorem gw_2_50 : (Jvm.Cond.selects "Runbooker" ({ cls := "Runbooker", name := "isOver", desc := "()Z" } : Jvm.MethodName) ({ cls := "Runbooker", name := "isOver", desc := "()Z" } : Jvm.MethodName)) ∈ lwG := lw_2 50 rfl rfl
theorem gw_2_51 : (Jvm.Cond.code ({ cls := "Runbooker", name := "isOver", desc := "()Z" } : Jvm.MethodName) prog_1_method_35_code (1 : Nat) (Option.some Jvm.ClassFile.FieldType.boolean)) ∈ lwG := lw_2 51 rfl rfl
theorem gw_2_52 : (Jvm.Cond.methodLink "Runbooker" (333 : Nat) ({ cls := "Runbooker", name := "areAllSettled", desc := "()Z" } : Jvm.MethodName)) ∈ lwG := lw_2 52 rfl rfl
theorem gw_2_54 : (Jvm.Cond.instanceMethod ({ cls := "Runbooker", name := "areAllSettled", desc := "()Z" } : Jvm.MethodName)) ∈ lwG := lw_2 54 rfl rfl
theorem gw_2_55 : (Jvm.Cond.code ({ cls := "Runbooker", name := "areAllSettled", desc := "()Z" } : Jvm.MethodName) prog_1_method_79_code (2 : Nat) (Option.some Jvm.ClassFile.FieldType.boolean)) ∈ lwG := lw_2 55 rfl rfl
theorem gw_2_56 : (Jvm.Cond.methodLink "RunbookerLaw" (282 : Nat) ({ cls := "Runbooker", name := "isStuck", desc := "()Z" } : Jvm.MethodName)) ∈ lwG := lw_2 56 rfl rfl
theorem gw_2_57 : (Jvm.Cond.instanceMethod ({ cls := "Runbooker", name := "isStuck", desc := "()Z" } : Jvm.MethodName)) ∈ lwG := lw_2 57 rfl rfl
theorem gw_2_58 : (Jvm.Cond.selects "Runbooker" ({ cls := "Runbooker", name := "isStuck", desc := "()Z" } : Jvm.MethodName) ({ cls := "Runbooker", name := "isStuck", desc := "()Z" } : Jvm.MethodName)) ∈ lwG := lw_2 58 rfl rfl
theorem gw_2_59 : (Jvm.Cond.code ({ cls := "Runbooker", name := "isStuck", desc := "()Z" } : Jvm.MethodName) prog_1_method_36_code (1 : Nat) (Option.some Jvm.ClassFile.FieldType.boolean)) ∈ lwG := lw_2 59 rfl rfl
theorem gw_2_60 : (Jvm.Cond.methodLink "Runbooker" (166 : Nat) ({ cls := "Runbooker$Progress", name := "isAnyActive", desc := "()Z" } : Jvm.MethodName)) ∈ lwG := lw_2 60 rfl rfl
theorem gw_2_61 : (Jvm.Cond.instanceMethod ({ cls := "Runbooker$Progress", name := "isAnyActive", desc := "()Z" } : Jvm.MethodName)) ∈ lwG := lw_2 61 rfl rfl
theorem gw_2_62 : (Jvm.Cond.selects "Runbooker$Progress" ({ cls := "Runbooker$Progress", name := "isAnyActive", desc := "()Z" } : Jvm.MethodName) ({ cls := "Runbooker$Progress", name := "isAnyActive", desc := "()Z" } : Jvm.MethodName)) ∈ lwG := lw_2 62 rfl rfl
theorem gw_2_63 : (Jvm.Cond.code ({ cls := "Runbooker$Progress", name := "isAnyActive", desc := "()Z" } : Jvm.MethodName) prog_6_method_11_code (2 : Nat) (Option.some Jvm.ClassFile.FieldType.boolean)) ∈ lwG := lw_2 63 rfl rfl
theorem gw_2_64 : (Jvm.Cond.methodLink "RunbookerLaw" (298 : Nat) ({ cls := "Runbooker", name := "entries", desc := "()I" } : Jvm.MethodName)) ∈ lwG := lw_2 64 rfl rfl
theorem gw_2_65 : (Jvm.Cond.instanceMethod ({ cls := "Runbooker", name := "entries", desc := "()I" } : Jvm.MethodName)) ∈ lwG := lw_2 65 rfl rfl
theorem gw_2_66 : (Jvm.Cond.selects "Runbooker" ({ cls := "Runbooker", name := "entries", desc := "()I" } : Jvm.MethodName) ({ cls := "Runbooker", name := "entries", desc := "()I" } : Jvm.MethodName)) ∈ lwG := lw_2 66 rfl rfl
theorem gw_2_67 : (Jvm.Cond.code ({ cls := "Runbooker", name := "entries", desc := "()I" } : Jvm.MethodName) prog_1_method_41_code (1 : Nat) (Option.some Jvm.ClassFile.FieldType.int)) ∈ lwG := lw_2 67 rfl rfl
theorem gw_2_68 : (Jvm.Cond.methodLink "RunbookerLaw" (326 : Nat) ({ cls := "Runbooker", name := "workedMinutes", desc := "()J" } : Jvm.MethodName)) ∈ lwG := lw_2 68 rfl rfl
theorem gw_2_69 : (Jvm.Cond.instanceMethod ({ cls := "Runbooker", name := "workedMinutes", desc := "()J" } : Jvm.MethodName)) ∈ lwG := lw_2 69 rfl rfl
theorem gw_2_70 : (Jvm.Cond.selects "Runbooker" ({ cls := "Runbooker", name := "workedMinutes", desc := "()J" } : Jvm.MethodName) ({ cls := "Runbooker", name := "workedMinutes", desc := "()J" } : Jvm.MethodName)) ∈ lwG := lw_2 70 rfl rfl
theorem gw_2_71 : (Jvm.Cond.code ({ cls := "Runbooker", name := "workedMinutes", desc := "()J" } : Jvm.MethodName) prog_1_method_50_code (1 : Nat) (Option.some Jvm.ClassFile.FieldType.long)) ∈ lwG := lw_2 71 rfl rfl
theorem gw_2_72 : (Jvm.Cond.methodLink "RunbookerLaw" (162 : Nat) ({ cls := "RunbookerLaw", name := "addPerson", desc := "(LRunbooker;I[J)I" } : Jvm.MethodName)) ∈ lwG := lw_2 72 rfl rfl
theorem gw_2_73 : (Jvm.Cond.static ({ cls := "RunbookerLaw", name := "addPerson", desc := "(LRunbooker;I[J)I" } : Jvm.MethodName)) ∈ lwG := lw_2 73 rfl rfl
theorem gw_2_74 : (Jvm.Cond.codeWith ({ cls := "RunbookerLaw", name := "addPerson", desc := "(LRunbooker;I[J)I" } : Jvm.MethodName) method_3_code (4 : Nat) (Option.some Jvm.ClassFile.FieldType.int) [((0 : Nat), (9 : Nat), (12 : Nat), (13 : Nat)), ((0 : Nat), (9 : Nat), (15 : Nat), (15 : Nat))]) ∈ lwG := lw_2 74 rfl rfl
theorem gw_2_75 : (Jvm.Cond.classLink "RunbookerLaw" (13 : Nat) "java/lang/IllegalArgumentException") ∈ lwG := lw_2 75 rfl rfl
theorem gw_2_76 : (Jvm.Cond.classLink "RunbookerLaw" (15 : Nat) "java/lang/IllegalStateException") ∈ lwG := lw_2 76 rfl rfl
theorem gw_2_77 : (Jvm.Cond.methodLink "RunbookerLaw" (7 : Nat) ({ cls := "Runbooker", name := "addPerson", desc := "(I)I" } : Jvm.MethodName)) ∈ lwG := lw_2 77 rfl rfl
theorem gw_2_78 : (Jvm.Cond.instanceMethod ({ cls := "Runbooker", name := "addPerson", desc := "(I)I" } : Jvm.MethodName)) ∈ lwG := lw_2 78 rfl rfl
theorem gw_2_79 : (Jvm.Cond.selects "Runbooker" ({ cls := "Runbooker", name := "addPerson", desc := "(I)I" } : Jvm.MethodName) ({ cls := "Runbooker", name := "addPerson", desc := "(I)I" } : Jvm.MethodName)) ∈ lwG := lw_2 79 rfl rfl
theorem gw_2_80 : (Jvm.Cond.code ({ cls := "Runbooker", name := "addPerson", desc := "(I)I" } : Jvm.MethodName) prog_1_method_2_code (2 : Nat) (Option.some Jvm.ClassFile.FieldType.int)) ∈ lwG := lw_2 80 rfl rfl
theorem gw_2_81 : (Jvm.Cond.classLink "Runbooker" (48 : Nat) "java/lang/IllegalArgumentException") ∈ lwG := lw_2 81 rfl rfl
theorem gw_2_82 : (Jvm.Cond.instantiable "java/lang/IllegalArgumentException" (6 : Nat)) ∈ lwG := lw_2 82 rfl rfl
theorem gw_2_90 : (Jvm.Cond.selects "java/lang/IllegalArgumentException" ({ cls := "java/lang/Throwable", name := "fillInStackTrace", desc := "(I)Ljava/lang/Throwable;" } : Jvm.MethodName) ({ cls := "java/lang/Throwable", name := "fillInStackTrace", desc := "(I)Ljava/lang/Throwable;" } : Jvm.MethodName)) ∈ lwG := lw_2 90 rfl rfl
theorem gw_2_91 : (Jvm.Cond.selects "java/lang/IllegalArgumentException" ({ cls := "java/lang/Throwable", name := "fillInStackTrace", desc := "()Ljava/lang/Throwable;" } : Jvm.MethodName) ({ cls := "java/lang/Throwable", name := "fillInStackTrace", desc := "()Ljava/lang/Throwable;" } : Jvm.MethodName)) ∈ lwG := lw_2 91 rfl rfl
theorem gw_2_92 : (Jvm.Cond.lays "java/lang/IllegalArgumentException" "java/lang/Throwable" "cause" "Ljava/lang/Throwable;") ∈ lwG := lw_2 92 rfl rfl
theorem gw_2_93 : (Jvm.Cond.lays "java/lang/Throwable" "java/lang/Throwable" "cause" "Ljava/lang/Throwable;") ∈ lwG := lw_2 93 rfl rfl
theorem gw_2_94 : (Jvm.Cond.lays "java/lang/IllegalArgumentException" "java/lang/Throwable" "stackTrace" "[Ljava/lang/StackTraceElement;") ∈ lwG := lw_2 94 rfl rfl
theorem gw_2_95 : (Jvm.Cond.lays "java/lang/Throwable" "java/lang/Throwable" "stackTrace" "[Ljava/lang/StackTraceElement;") ∈ lwG := lw_2 95 rfl rfl
theorem gw_2_96 : (Jvm.Cond.lays "java/lang/IllegalArgumentException" "java/lang/Throwable" "suppressedExceptions" "Ljava/util/List;") ∈ lwG := lw_2 96 rfl rfl
theorem gw_2_97 : (Jvm.Cond.lays "java/lang/Throwable" "java/lang/Throwable" "suppressedExceptions" "Ljava/util/List;") ∈ lwG := lw_2 97 rfl rfl
theorem gw_2_98 : (Jvm.Cond.lays "java/lang/IllegalArgumentException" "java/lang/Throwable" "detailMessage" "Ljava/lang/String;") ∈ lwG := lw_2 98 rfl rfl
theorem gw_2_99 : (Jvm.Cond.lays "java/lang/Throwable" "java/lang/Throwable" "detailMessage" "Ljava/lang/String;") ∈ lwG := lw_2 99 rfl rfl
theorem gw_2_100 : (Jvm.Cond.lays "java/lang/IllegalArgumentException" "java/lang/Throwable" "backtrace" "Ljava/lang/Object;") ∈ lwG := lw_2 100 rfl rfl
theorem gw_2_101 : (Jvm.Cond.lays "java/lang/Throwable" "java/lang/Throwable" "backtrace" "Ljava/lang/Object;") ∈ lwG := lw_2 101 rfl rfl
theorem gw_2_102 : (Jvm.Cond.fieldLink "java/lang/Throwable" (198 : Nat) "java/lang/Throwable" "backtrace" "Ljava/lang/Object;") ∈ lwG := lw_2 102 rfl rfl
theorem gw_2_103 : (Jvm.Cond.superclass "java/lang/Throwable" "java/lang/Object") ∈ lwG := lw_2 103 rfl rfl
theorem gw_2_104 : (Jvm.Cond.instanceMethod ({ cls := "java/lang/Throwable", name := "<init>", desc := "()V" } : Jvm.MethodName)) ∈ lwG := lw_2 104 rfl rfl
theorem gw_2_105 : (Jvm.Cond.code ({ cls := "java/lang/Throwable", name := "<init>", desc := "()V" } : Jvm.MethodName) prog_28_method_1_code (1 : Nat) (Option.none : Option Jvm.ClassFile.FieldType)) ∈ lwG := lw_2 105 rfl rfl
theorem gw_2_106 : (Jvm.Cond.methodLink "java/lang/Throwable" (1 : Nat) ({ cls := "java/lang/Object", name := "<init>", desc := "()V" } : Jvm.MethodName)) ∈ lwG := lw_2 106 rfl rfl
theorem gw_2_107 : (Jvm.Cond.fieldLink "java/lang/Throwable" (13 : Nat) "java/lang/Throwable" "UNASSIGNED_STACK" "[Ljava/lang/StackTraceElement;") ∈ lwG := lw_2 107 rfl rfl
theorem gw_2_109 : (Jvm.Cond.fieldLink "java/lang/Throwable" (20 : Nat) "java/lang/Throwable" "SUPPRESSED_SENTINEL" "Ljava/util/List;") ∈ lwG := lw_2 109 rfl rfl
theorem gw_2_111 : (Jvm.Cond.methodLink "java/lang/Throwable" (27 : Nat) ({ cls := "java/lang/Throwable", name := "fillInStackTrace", desc := "()Ljava/lang/Throwable;" } : Jvm.MethodName)) ∈ lwG := lw_2 111 rfl rfl
theorem gw_2_112 : (Jvm.Cond.instanceMethod ({ cls := "java/lang/Throwable", name := "fillInStackTrace", desc := "()Ljava/lang/Throwable;" } : Jvm.MethodName)) ∈ lwG := lw_2 112 rfl rfl
theorem gw_2_113 : (Jvm.Cond.sameMethod "java/lang/Throwable" "java/lang/Throwable" "fillInStackTrace" "()Ljava/lang/Throwable;") ∈ lwG := lw_2 113 rfl rfl
theorem gw_2_114 : (Jvm.Cond.selects "java/lang/IllegalStateException" ({ cls := "java/lang/Throwable", name := "fillInStackTrace", desc := "()Ljava/lang/Throwable;" } : Jvm.MethodName) ({ cls := "java/lang/Throwable", name := "fillInStackTrace", desc := "()Ljava/lang/Throwable;" } : Jvm.MethodName)) ∈ lwG := lw_2 114 rfl rfl
theorem gw_2_115 : (Jvm.Cond.selects "java/lang/IndexOutOfBoundsException" ({ cls := "java/lang/Throwable", name := "fillInStackTrace", desc := "()Ljava/lang/Throwable;" } : Jvm.MethodName) ({ cls := "java/lang/Throwable", name := "fillInStackTrace", desc := "()Ljava/lang/Throwable;" } : Jvm.MethodName)) ∈ lwG := lw_2 115 rfl rfl
theorem gw_2_116 : (Jvm.Cond.selects "java/lang/UnsupportedOperationException" ({ cls := "java/lang/Throwable", name := "fillInStackTrace", desc := "()Ljava/lang/Throwable;" } : Jvm.MethodName) ({ cls := "java/lang/Throwable", name := "fillInStackTrace", desc := "()Ljava/lang/Throwable;" } : Jvm.MethodName)) ∈ lwG := lw_2 116 rfl rfl
theorem gw_2_117 : (Jvm.Cond.selects "java/util/NoSuchElementException" ({ cls := "java/lang/Throwable", name := "fillInStackTrace", desc := "()Ljava/lang/Throwable;" } : Jvm.MethodName) ({ cls := "java/lang/Throwable", name := "fillInStackTrace", desc := "()Ljava/lang/Throwable;" } : Jvm.MethodName)) ∈ lwG := lw_2 117 rfl rfl
theorem gw_2_118 : (Jvm.Cond.codeSync ({ cls := "java/lang/Throwable", name := "fillInStackTrace", desc := "()Ljava/lang/Throwable;" } : Jvm.MethodName) prog_28_method_18_code (1 : Nat) (Option.some (Jvm.ClassFile.FieldType.object "java/lang/Throwable"))) ∈ lwG := lw_2 118 rfl rfl
theorem gw_2_119 : (Jvm.Cond.methodLink "java/lang/Throwable" (202 : Nat) ({ cls := "java/lang/Throwable", name := "fillInStackTrace", desc := "(I)Ljava/lang/Throwable;" } : Jvm.MethodName)) ∈ lwG := lw_2 119 rfl rfl
theorem gw_2_121 : (Jvm.Cond.instanceMethod ({ cls := "java/lang/Throwable", name := "fillInStackTrace", desc := "(I)Ljava/lang/Throwable;" } : Jvm.MethodName)) ∈ lwG := lw_2 121 rfl rfl
theorem gw_2_122 : (Jvm.Cond.instantiable "java/lang/Throwable" (6 : Nat)) ∈ lwG := lw_2 122 rfl rfl
theorem gw_2_123 : (Jvm.Cond.native ({ cls := "java/lang/Throwable", name := "fillInStackTrace", desc := "(I)Ljava/lang/Throwable;" } : Jvm.MethodName)) ∈ lwG := lw_2 123 rfl rfl
theorem gw_2_125 : (Jvm.Cond.methodLink "Runbooker" (52 : Nat) ({ cls := "java/lang/IllegalArgumentException", name := "<init>", desc := "(Ljava/lang/String;)V" } : Jvm.MethodName)) ∈ lwG := lw_2 125 rfl rfl
theorem gw_2_126 : (Jvm.Cond.instanceMethod ({ cls := "java/lang/IllegalArgumentException", name := "<init>", desc := "(Ljava/lang/String;)V" } : Jvm.MethodName)) ∈ lwG := lw_2 126 rfl rfl
theorem gw_2_127 : (Jvm.Cond.code ({ cls := "java/lang/IllegalArgumentException", name := "<init>", desc := "(Ljava/lang/String;)V" } : Jvm.MethodName) prog_16_method_2_code (2 : Nat) (Option.none : Option Jvm.ClassFile.FieldType)) ∈ lwG := lw_2 127 rfl rfl
theorem gw_2_128 : (Jvm.Cond.methodLink "java/lang/IllegalArgumentException" (7 : Nat) ({ cls := "java/lang/RuntimeException", name := "<init>", desc := "(Ljava/lang/String;)V" } : Jvm.MethodName)) ∈ lwG := lw_2 128 rfl rfl
theorem gw_2_129 : (Jvm.Cond.instanceMethod ({ cls := "java/lang/RuntimeException", name := "<init>", desc := "(Ljava/lang/String;)V" } : Jvm.MethodName)) ∈ lwG := lw_2 129 rfl rfl
theorem gw_2_130 : (Jvm.Cond.code ({ cls := "java/lang/RuntimeException", name := "<init>", desc := "(Ljava/lang/String;)V" } : Jvm.MethodName) prog_22_method_2_code (2 : Nat) (Option.none : Option Jvm.ClassFile.FieldType)) ∈ lwG := lw_2 130 rfl rfl
theorem gw_2_131 : (Jvm.Cond.methodLink "java/lang/RuntimeException" (7 : Nat) ({ cls := "java/lang/Exception", name := "<init>", desc := "(Ljava/lang/String;)V" } : Jvm.MethodName)) ∈ lwG := lw_2 131 rfl rfl
theorem gw_2_132 : (Jvm.Cond.instanceMethod ({ cls := "java/lang/Exception", name := "<init>", desc := "(Ljava/lang/String;)V" } : Jvm.MethodName)) ∈ lwG := lw_2 132 rfl rfl
theorem gw_2_133 : (Jvm.Cond.code ({ cls := "java/lang/Exception", name := "<init>", desc := "(Ljava/lang/String;)V" } : Jvm.MethodName) prog_15_method_2_code (2 : Nat) (Option.none : Option Jvm.ClassFile.FieldType)) ∈ lwG := lw_2 133 rfl rfl
theorem gw_2_134 : (Jvm.Cond.methodLink "java/lang/Exception" (7 : Nat) ({ cls := "java/lang/Throwable", name := "<init>", desc := "(Ljava/lang/String;)V" } : Jvm.MethodName)) ∈ lwG := lw_2 134 rfl rfl
theorem gw_2_135 : (Jvm.Cond.instanceMethod ({ cls := "java/lang/Throwable", name := "<init>", desc := "(Ljava/lang/String;)V" } : Jvm.MethodName)) ∈ lwG := lw_2 135 rfl rfl
theorem gw_2_136 : (Jvm.Cond.code ({ cls := "java/lang/Throwable", name := "<init>", desc := "(Ljava/lang/String;)V" } : Jvm.MethodName) prog_28_method_2_code (2 : Nat) (Option.none : Option Jvm.ClassFile.FieldType)) ∈ lwG := lw_2 136 rfl rfl
theorem gw_2_137 : (Jvm.Cond.fieldLink "java/lang/Throwable" (198 : Nat) "java/lang/Throwable" "backtrace" "Ljava/lang/Object;") ∈ lwG := lw_2 137 rfl rfl
theorem gw_2_138 : (Jvm.Cond.fieldLink "java/lang/Throwable" (31 : Nat) "java/lang/Throwable" "detailMessage" "Ljava/lang/String;") ∈ lwG := lw_2 138 rfl rfl
theorem gw_2_139 : (Jvm.Cond.fieldLink "java/lang/Throwable" (7 : Nat) "java/lang/Throwable" "cause" "Ljava/lang/Throwable;") ∈ lwG := lw_2 139 rfl rfl
theorem gw_2_140 : (Jvm.Cond.fieldLink "java/lang/Throwable" (17 : Nat) "java/lang/Throwable" "stackTrace" "[Ljava/lang/StackTraceElement;") ∈ lwG := lw_2 140 rfl rfl
theorem gw_2_141 : (Jvm.Cond.fieldLink "java/lang/Throwable" (24 : Nat) "java/lang/Throwable" "suppressedExceptions" "Ljava/util/List;") ∈ lwG := lw_2 141 rfl rfl
theorem gw_2_146 : (Jvm.Cond.lays "java/lang/IllegalArgumentException" "java/lang/Throwable" "depth" "I") ∈ lwG := lw_2 146 rfl rfl
theorem gw_2_149 : (Jvm.Cond.superclass "java/lang/IllegalArgumentException" "java/lang/RuntimeException") ∈ lwG := lw_2 149 rfl rfl
theorem gw_2_150 : (Jvm.Cond.arrayClass Jvm.ClassFile.FieldType.byte) ∈ lwG := lw_2 150 rfl rfl
theorem gw_2_151 : (Jvm.Cond.classLink "Runbooker" (59 : Nat) "java/lang/IllegalStateException") ∈ lwG := lw_2 151 rfl rfl
theorem gw_2_152 : (Jvm.Cond.instantiable "java/lang/IllegalStateException" (6 : Nat)) ∈ lwG := lw_2 152 rfl rfl
theorem gw_2_154 : (Jvm.Cond.selects "java/lang/IllegalStateException" ({ cls := "java/lang/Throwable", name := "fillInStackTrace", desc := "(I)Ljava/lang/Throwable;" } : Jvm.MethodName) ({ cls := "java/lang/Throwable", name := "fillInStackTrace", desc := "(I)Ljava/lang/Throwable;" } : Jvm.MethodName)) ∈ lwG := lw_2 154 rfl rfl
theorem gw_2_155 : (Jvm.Cond.lays "java/lang/IllegalStateException" "java/lang/Throwable" "cause" "Ljava/lang/Throwable;") ∈ lwG := lw_2 155 rfl rfl
theorem gw_2_156 : (Jvm.Cond.lays "java/lang/IllegalStateException" "java/lang/Throwable" "stackTrace" "[Ljava/lang/StackTraceElement;") ∈ lwG := lw_2 156 rfl rfl
theorem gw_2_157 : (Jvm.Cond.lays "java/lang/IllegalStateException" "java/lang/Throwable" "suppressedExceptions" "Ljava/util/List;") ∈ lwG := lw_2 157 rfl rfl
theorem gw_2_158 : (Jvm.Cond.lays "java/lang/IllegalStateException" "java/lang/Throwable" "detailMessage" "Ljava/lang/String;") ∈ lwG := lw_2 158 rfl rfl
theorem gw_2_159 : (Jvm.Cond.lays "java/lang/IllegalStateException" "java/lang/Throwable" "backtrace" "Ljava/lang/Object;") ∈ lwG := lw_2 159 rfl rfl
theorem gw_2_161 : (Jvm.Cond.methodLink "Runbooker" (63 : Nat) ({ cls := "java/lang/IllegalStateException", name := "<init>", desc := "(Ljava/lang/String;)V" } : Jvm.MethodName)) ∈ lwG := lw_2 161 rfl rfl
theorem gw_2_162 : (Jvm.Cond.instanceMethod ({ cls := "java/lang/IllegalStateException", name := "<init>", desc := "(Ljava/lang/String;)V" } : Jvm.MethodName)) ∈ lwG := lw_2 162 rfl rfl
theorem gw_2_163 : (Jvm.Cond.code ({ cls := "java/lang/IllegalStateException", name := "<init>", desc := "(Ljava/lang/String;)V" } : Jvm.MethodName) prog_17_method_2_code (2 : Nat) (Option.none : Option Jvm.ClassFile.FieldType)) ∈ lwG := lw_2 163 rfl rfl
theorem gw_2_164 : (Jvm.Cond.methodLink "java/lang/IllegalStateException" (7 : Nat) ({ cls := "java/lang/RuntimeException", name := "<init>", desc := "(Ljava/lang/String;)V" } : Jvm.MethodName)) ∈ lwG := lw_2 164 rfl rfl
theorem gw_2_165 : (Jvm.Cond.lays "java/lang/IllegalStateException" "java/lang/Throwable" "depth" "I") ∈ lwG := lw_2 165 rfl rfl
theorem gw_2_166 : (Jvm.Cond.superclass "java/lang/IllegalStateException" "java/lang/RuntimeException") ∈ lwG := lw_2 166 rfl rfl
theorem gw_2_167 : (Jvm.Cond.methodLink "Runbooker" (64 : Nat) ({ cls := "Runbooker$Crew", name := "join", desc := "(I)I" } : Jvm.MethodName)) ∈ lwG := lw_2 167 rfl rfl
theorem gw_2_168 : (Jvm.Cond.instanceMethod ({ cls := "Runbooker$Crew", name := "join", desc := "(I)I" } : Jvm.MethodName)) ∈ lwG := lw_2 168 rfl rfl
theorem gw_2_169 : (Jvm.Cond.selects "Runbooker$Crew" ({ cls := "Runbooker$Crew", name := "join", desc := "(I)I" } : Jvm.MethodName) ({ cls := "Runbooker$Crew", name := "join", desc := "(I)I" } : Jvm.MethodName)) ∈ lwG := lw_2 169 rfl rfl
theorem gw_2_170 : (Jvm.Cond.code ({ cls := "Runbooker$Crew", name := "join", desc := "(I)I" } : Jvm.MethodName) prog_2_method_3_code (3 : Nat) (Option.some Jvm.ClassFile.FieldType.int)) ∈ lwG := lw_2 170 rfl rfl
theorem gw_2_171 : (Jvm.Cond.methodLink "RunbookerLaw" (171 : Nat) ({ cls := "RunbookerLaw", name := "setDuty", desc := "(LRunbooker;IZ[J)I" } : Jvm.MethodName)) ∈ lwG := lw_2 171 rfl rfl
theorem gw_2_172 : (Jvm.Cond.static ({ cls := "RunbookerLaw", name := "setDuty", desc := "(LRunbooker;IZ[J)I" } : Jvm.MethodName)) ∈ lwG := lw_2 172 rfl rfl
theorem gw_2_173 : (Jvm.Cond.codeWith ({ cls := "RunbookerLaw", name := "setDuty", desc := "(LRunbooker;IZ[J)I" } : Jvm.MethodName) method_4_code (5 : Nat) (Option.some Jvm.ClassFile.FieldType.int) [((0 : Nat), (17 : Nat), (20 : Nat), (21 : Nat)), ((0 : Nat), (17 : Nat), (24 : Nat), (15 : Nat))]) ∈ lwG := lw_2 173 rfl rfl
theorem gw_2_174 : (Jvm.Cond.classLink "RunbookerLaw" (21 : Nat) "java/util/NoSuchElementException") ∈ lwG := lw_2 174 rfl rfl
theorem gw_2_175 : (Jvm.Cond.methodLink "RunbookerLaw" (17 : Nat) ({ cls := "Runbooker", name := "setDuty", desc := "(IZ)Z" } : Jvm.MethodName)) ∈ lwG := lw_2 175 rfl rfl
theorem gw_2_176 : (Jvm.Cond.instanceMethod ({ cls := "Runbooker", name := "setDuty", desc := "(IZ)Z" } : Jvm.MethodName)) ∈ lwG := lw_2 176 rfl rfl
theorem gw_2_177 : (Jvm.Cond.selects "Runbooker" ({ cls := "Runbooker", name := "setDuty", desc := "(IZ)Z" } : Jvm.MethodName) ({ cls := "Runbooker", name := "setDuty", desc := "(IZ)Z" } : Jvm.MethodName)) ∈ lwG := lw_2 177 rfl rfl
theorem gw_2_178 : (Jvm.Cond.code ({ cls := "Runbooker", name := "setDuty", desc := "(IZ)Z" } : Jvm.MethodName) prog_1_method_3_code (4 : Nat) (Option.some Jvm.ClassFile.FieldType.boolean)) ∈ lwG := lw_2 178 rfl rfl
theorem gw_2_179 : (Jvm.Cond.methodLink "Runbooker" (68 : Nat) ({ cls := "Runbooker", name := "requirePerson", desc := "(I)V" } : Jvm.MethodName)) ∈ lwG := lw_2 179 rfl rfl
theorem gw_2_181 : (Jvm.Cond.instanceMethod ({ cls := "Runbooker", name := "requirePerson", desc := "(I)V" } : Jvm.MethodName)) ∈ lwG := lw_2 181 rfl rfl
theorem gw_2_182 : (Jvm.Cond.code ({ cls := "Runbooker", name := "requirePerson", desc := "(I)V" } : Jvm.MethodName) prog_1_method_53_code (2 : Nat) (Option.none : Option Jvm.ClassFile.FieldType)) ∈ lwG := lw_2 182 rfl rfl
theorem gw_2_183 : (Jvm.Cond.methodLink "Runbooker" (395 : Nat) ({ cls := "Runbooker$Crew", name := "has", desc := "(I)Z" } : Jvm.MethodName)) ∈ lwG := lw_2 183 rfl rfl
theorem gw_2_184 : (Jvm.Cond.instanceMethod ({ cls := "Runbooker$Crew", name := "has", desc := "(I)Z" } : Jvm.MethodName)) ∈ lwG := lw_2 184 rfl rfl
theorem gw_2_185 : (Jvm.Cond.selects "Runbooker$Crew" ({ cls := "Runbooker$Crew", name := "has", desc := "(I)Z" } : Jvm.MethodName) ({ cls := "Runbooker$Crew", name := "has", desc := "(I)Z" } : Jvm.MethodName)) ∈ lwG := lw_2 185 rfl rfl
theorem gw_2_186 : (Jvm.Cond.code ({ cls := "Runbooker$Crew", name := "has", desc := "(I)Z" } : Jvm.MethodName) prog_2_method_2_code (2 : Nat) (Option.some Jvm.ClassFile.FieldType.boolean)) ∈ lwG := lw_2 186 rfl rfl
theorem gw_2_187 : (Jvm.Cond.classLink "Runbooker" (396 : Nat) "java/util/NoSuchElementException") ∈ lwG := lw_2 187 rfl rfl
theorem gw_2_188 : (Jvm.Cond.instantiable "java/util/NoSuchElementException" (6 : Nat)) ∈ lwG := lw_2 188 rfl rfl
theorem gw_2_190 : (Jvm.Cond.selects "java/util/NoSuchElementException" ({ cls := "java/lang/Throwable", name := "fillInStackTrace", desc := "(I)Ljava/lang/Throwable;" } : Jvm.MethodName) ({ cls := "java/lang/Throwable", name := "fillInStackTrace", desc := "(I)Ljava/lang/Throwable;" } : Jvm.MethodName)) ∈ lwG := lw_2 190 rfl rfl
theorem gw_2_191 : (Jvm.Cond.lays "java/util/NoSuchElementException" "java/lang/Throwable" "cause" "Ljava/lang/Throwable;") ∈ lwG := lw_2 191 rfl rfl
theorem gw_2_192 : (Jvm.Cond.lays "java/util/NoSuchElementException" "java/lang/Throwable" "stackTrace" "[Ljava/lang/StackTraceElement;") ∈ lwG := lw_2 192 rfl rfl
theorem gw_2_193 : (Jvm.Cond.lays "java/util/NoSuchElementException" "java/lang/Throwable" "suppressedExceptions" "Ljava/util/List;") ∈ lwG := lw_2 193 rfl rfl
theorem gw_2_194 : (Jvm.Cond.lays "java/util/NoSuchElementException" "java/lang/Throwable" "detailMessage" "Ljava/lang/String;") ∈ lwG := lw_2 194 rfl rfl
theorem gw_2_195 : (Jvm.Cond.lays "java/util/NoSuchElementException" "java/lang/Throwable" "backtrace" "Ljava/lang/Object;") ∈ lwG := lw_2 195 rfl rfl
theorem gw_2_197 : (Jvm.Cond.methodLink "Runbooker" (400 : Nat) ({ cls := "java/util/NoSuchElementException", name := "<init>", desc := "(Ljava/lang/String;)V" } : Jvm.MethodName)) ∈ lwG := lw_2 197 rfl rfl
theorem gw_2_198 : (Jvm.Cond.instanceMethod ({ cls := "java/util/NoSuchElementException", name := "<init>", desc := "(Ljava/lang/String;)V" } : Jvm.MethodName)) ∈ lwG := lw_2 198 rfl rfl
theorem gw_2_199 : (Jvm.Cond.code ({ cls := "java/util/NoSuchElementException", name := "<init>", desc := "(Ljava/lang/String;)V" } : Jvm.MethodName) prog_33_method_4_code (2 : Nat) (Option.none : Option Jvm.ClassFile.FieldType)) ∈ lwG := lw_2 199 rfl rfl
theorem gw_2_200 : (Jvm.Cond.methodLink "java/util/NoSuchElementException" (13 : Nat) ({ cls := "java/lang/RuntimeException", name := "<init>", desc := "(Ljava/lang/String;)V" } : Jvm.MethodName)) ∈ lwG := lw_2 200 rfl rfl
theorem gw_2_201 : (Jvm.Cond.lays "java/util/NoSuchElementException" "java/lang/Throwable" "depth" "I") ∈ lwG := lw_2 201 rfl rfl
theorem gw_2_202 : (Jvm.Cond.superclass "java/util/NoSuchElementException" "java/lang/RuntimeException") ∈ lwG := lw_2 202 rfl rfl
theorem gw_2_203 : (Jvm.Cond.methodLink "Runbooker" (72 : Nat) ({ cls := "Runbooker$Crew", name := "isBusy", desc := "(I)Z" } : Jvm.MethodName)) ∈ lwG := lw_2 203 rfl rfl
theorem gw_2_204 : (Jvm.Cond.instanceMethod ({ cls := "Runbooker$Crew", name := "isBusy", desc := "(I)Z" } : Jvm.MethodName)) ∈ lwG := lw_2 204 rfl rfl
theorem gw_2_205 : (Jvm.Cond.selects "Runbooker$Crew" ({ cls := "Runbooker$Crew", name := "isBusy", desc := "(I)Z" } : Jvm.MethodName) ({ cls := "Runbooker$Crew", name := "isBusy", desc := "(I)Z" } : Jvm.MethodName)) ∈ lwG := lw_2 205 rfl rfl
theorem gw_2_206 : (Jvm.Cond.code ({ cls := "Runbooker$Crew", name := "isBusy", desc := "(I)Z" } : Jvm.MethodName) prog_2_method_5_code (2 : Nat) (Option.some Jvm.ClassFile.FieldType.boolean)) ∈ lwG := lw_2 206 rfl rfl
theorem gw_2_207 : (Jvm.Cond.methodLink "Runbooker" (76 : Nat) ({ cls := "Runbooker$Handover", name := "involves", desc := "(I)Z" } : Jvm.MethodName)) ∈ lwG := lw_2 207 rfl rfl
theorem gw_2_208 : (Jvm.Cond.instanceMethod ({ cls := "Runbooker$Handover", name := "involves", desc := "(I)Z" } : Jvm.MethodName)) ∈ lwG := lw_2 208 rfl rfl
theorem gw_2_209 : (Jvm.Cond.selects "Runbooker$Handover" ({ cls := "Runbooker$Handover", name := "involves", desc := "(I)Z" } : Jvm.MethodName) ({ cls := "Runbooker$Handover", name := "involves", desc := "(I)Z" } : Jvm.MethodName)) ∈ lwG := lw_2 209 rfl rfl
theorem gw_2_210 : (Jvm.Cond.code ({ cls := "Runbooker$Handover", name := "involves", desc := "(I)Z" } : Jvm.MethodName) prog_3_method_4_code (2 : Nat) (Option.some Jvm.ClassFile.FieldType.boolean)) ∈ lwG := lw_2 210 rfl rfl
theorem gw_2_212 : (Jvm.Cond.methodLink "RunbookerLaw" (175 : Nat) ({ cls := "RunbookerLaw", name := "addStep", desc := "(LRunbooker;IIICZ[J)I" } : Jvm.MethodName)) ∈ lwG := lw_2 212 rfl rfl
theorem gw_2_213 : (Jvm.Cond.static ({ cls := "RunbookerLaw", name := "addStep", desc := "(LRunbooker;IIICZ[J)I" } : Jvm.MethodName)) ∈ lwG := lw_2 213 rfl rfl
theorem gw_2_214 : (Jvm.Cond.codeWith ({ cls := "RunbookerLaw", name := "addStep", desc := "(LRunbooker;IIICZ[J)I" } : Jvm.MethodName) method_5_code (8 : Nat) (Option.some Jvm.ClassFile.FieldType.int) [((0 : Nat), (16 : Nat), (19 : Nat), (13 : Nat)), ((0 : Nat), (16 : Nat), (23 : Nat), (15 : Nat))]) ∈ lwG := lw_2 214 rfl rfl
theorem gw_2_215 : (Jvm.Cond.methodLink "RunbookerLaw" (23 : Nat) ({ cls := "Runbooker", name := "addStep", desc := "(IIICZ)I" } : Jvm.MethodName)) ∈ lwG := lw_2 215 rfl rfl
theorem gw_2_216 : (Jvm.Cond.instanceMethod ({ cls := "Runbooker", name := "addStep", desc := "(IIICZ)I" } : Jvm.MethodName)) ∈ lwG := lw_2 216 rfl rfl
theorem gw_2_217 : (Jvm.Cond.selects "Runbooker" ({ cls := "Runbooker", name := "addStep", desc := "(IIICZ)I" } : Jvm.MethodName) ({ cls := "Runbooker", name := "addStep", desc := "(IIICZ)I" } : Jvm.MethodName)) ∈ lwG := lw_2 217 rfl rfl
theorem gw_2_218 : (Jvm.Cond.code ({ cls := "Runbooker", name := "addStep", desc := "(IIICZ)I" } : Jvm.MethodName) prog_1_method_4_code (6 : Nat) (Option.some Jvm.ClassFile.FieldType.int)) ∈ lwG := lw_2 218 rfl rfl
theorem gw_2_219 : (Jvm.Cond.methodLink "Runbooker" (85 : Nat) ({ cls := "Runbooker", name := "isRole", desc := "(I)Z" } : Jvm.MethodName)) ∈ lwG := lw_2 219 rfl rfl
theorem gw_2_220 : (Jvm.Cond.static ({ cls := "Runbooker", name := "isRole", desc := "(I)Z" } : Jvm.MethodName)) ∈ lwG := lw_2 220 rfl rfl
theorem gw_2_221 : (Jvm.Cond.code ({ cls := "Runbooker", name := "isRole", desc := "(I)Z" } : Jvm.MethodName) prog_1_method_60_code (1 : Nat) (Option.some Jvm.ClassFile.FieldType.boolean)) ∈ lwG := lw_2 221 rfl rfl
theorem gw_2_224 : (Jvm.Cond.methodLink "Runbooker" (92 : Nat) ({ cls := "Runbooker", name := "requireNoRun", desc := "()V" } : Jvm.MethodName)) ∈ lwG := lw_2 224 rfl rfl
theorem gw_2_226 : (Jvm.Cond.instanceMethod ({ cls := "Runbooker", name := "requireNoRun", desc := "()V" } : Jvm.MethodName)) ∈ lwG := lw_2 226 rfl rfl
theorem gw_2_227 : (Jvm.Cond.code ({ cls := "Runbooker", name := "requireNoRun", desc := "()V" } : Jvm.MethodName) prog_1_method_59_code (1 : Nat) (Option.none : Option Jvm.ClassFile.FieldType)) ∈ lwG := lw_2 227 rfl rfl
theorem gw_2_230 : (Jvm.Cond.methodLink "Runbooker" (98 : Nat) ({ cls := "Runbooker$Plan", name := "append", desc := "(IIICZ)I" } : Jvm.MethodName)) ∈ lwG := lw_2 230 rfl rfl
theorem gw_2_231 : (Jvm.Cond.instanceMethod ({ cls := "Runbooker$Plan", name := "append", desc := "(IIICZ)I" } : Jvm.MethodName)) ∈ lwG := lw_2 231 rfl rfl
theorem gw_2_232 : (Jvm.Cond.selects "Runbooker$Plan" ({ cls := "Runbooker$Plan", name := "append", desc := "(IIICZ)I" } : Jvm.MethodName) ({ cls := "Runbooker$Plan", name := "append", desc := "(IIICZ)I" } : Jvm.MethodName)) ∈ lwG := lw_2 232 rfl rfl
theorem gw_2_233 : (Jvm.Cond.code ({ cls := "Runbooker$Plan", name := "append", desc := "(IIICZ)I" } : Jvm.MethodName) prog_5_method_3_code (7 : Nat) (Option.some Jvm.ClassFile.FieldType.int)) ∈ lwG := lw_2 233 rfl rfl
theorem gw_2_234 : (Jvm.Cond.methodLink "RunbookerLaw" (179 : Nat) ({ cls := "RunbookerLaw", name := "need", desc := "(LRunbooker;II[J)I" } : Jvm.MethodName)) ∈ lwG := lw_2 234 rfl rfl
theorem gw_2_235 : (Jvm.Cond.static ({ cls := "RunbookerLaw", name := "need", desc := "(LRunbooker;II[J)I" } : Jvm.MethodName)) ∈ lwG := lw_2 235 rfl rfl
theorem gw_2_236 : (Jvm.Cond.codeWith ({ cls := "RunbookerLaw", name := "need", desc := "(LRunbooker;II[J)I" } : Jvm.MethodName) method_6_code (5 : Nat) (Option.some Jvm.ClassFile.FieldType.int) [((0 : Nat), (10 : Nat), (13 : Nat), (21 : Nat)), ((0 : Nat), (10 : Nat), (17 : Nat), (13 : Nat)), ((0 : Nat), (10 : Nat), (21 : Nat), (15 : Nat))]) ∈ lwG := lw_2 236 rfl rfl
theorem gw_2_237 : (Jvm.Cond.methodLink "RunbookerLaw" (27 : Nat) ({ cls := "Runbooker", name := "need", desc := "(II)I" } : Jvm.MethodName)) ∈ lwG := lw_2 237 rfl rfl
theorem gw_2_238 : (Jvm.Cond.instanceMethod ({ cls := "Runbooker", name := "need", desc := "(II)I" } : Jvm.MethodName)) ∈ lwG := lw_2 238 rfl rfl
theorem gw_2_239 : (Jvm.Cond.selects "Runbooker" ({ cls := "Runbooker", name := "need", desc := "(II)I" } : Jvm.MethodName) ({ cls := "Runbooker", name := "need", desc := "(II)I" } : Jvm.MethodName)) ∈ lwG := lw_2 239 rfl rfl
theorem gw_3_0 : (Jvm.Cond.code ({ cls := "Runbooker", name := "need", desc := "(II)I" } : Jvm.MethodName) prog_1_method_5_code (3 : Nat) (Option.some Jvm.ClassFile.FieldType.int)) ∈ lwG := lw_3 0 rfl rfl
theorem gw_3_1 : (Jvm.Cond.methodLink "Runbooker" (102 : Nat) ({ cls := "Runbooker", name := "requireStep", desc := "(I)V" } : Jvm.MethodName)) ∈ lwG := lw_3 1 rfl rfl
theorem gw_3_3 : (Jvm.Cond.instanceMethod ({ cls := "Runbooker", name := "requireStep", desc := "(I)V" } : Jvm.MethodName)) ∈ lwG := lw_3 3 rfl rfl
theorem gw_3_4 : (Jvm.Cond.code ({ cls := "Runbooker", name := "requireStep", desc := "(I)V" } : Jvm.MethodName) prog_1_method_54_code (2 : Nat) (Option.none : Option Jvm.ClassFile.FieldType)) ∈ lwG := lw_3 4 rfl rfl
theorem gw_3_5 : (Jvm.Cond.methodLink "Runbooker" (217 : Nat) ({ cls := "Runbooker$Plan", name := "has", desc := "(I)Z" } : Jvm.MethodName)) ∈ lwG := lw_3 5 rfl rfl
theorem gw_3_6 : (Jvm.Cond.instanceMethod ({ cls := "Runbooker$Plan", name := "has", desc := "(I)Z" } : Jvm.MethodName)) ∈ lwG := lw_3 6 rfl rfl
theorem gw_3_7 : (Jvm.Cond.selects "Runbooker$Plan" ({ cls := "Runbooker$Plan", name := "has", desc := "(I)Z" } : Jvm.MethodName) ({ cls := "Runbooker$Plan", name := "has", desc := "(I)Z" } : Jvm.MethodName)) ∈ lwG := lw_3 7 rfl rfl
theorem gw_3_8 : (Jvm.Cond.code ({ cls := "Runbooker$Plan", name := "has", desc := "(I)Z" } : Jvm.MethodName) prog_5_method_2_code (2 : Nat) (Option.some Jvm.ClassFile.FieldType.boolean)) ∈ lwG := lw_3 8 rfl rfl
theorem gw_3_12 : (Jvm.Cond.methodLink "Runbooker" (116 : Nat) ({ cls := "java/lang/Integer", name := "bitCount", desc := "(I)I" } : Jvm.MethodName)) ∈ lwG := lw_3 12 rfl rfl
theorem gw_3_13 : (Jvm.Cond.static ({ cls := "java/lang/Integer", name := "bitCount", desc := "(I)I" } : Jvm.MethodName)) ∈ lwG := lw_3 13 rfl rfl
theorem gw_3_14 : (Jvm.Cond.code ({ cls := "java/lang/Integer", name := "bitCount", desc := "(I)I" } : Jvm.MethodName) prog_19_method_49_code (1 : Nat) (Option.some Jvm.ClassFile.FieldType.int)) ∈ lwG := lw_3 14 rfl rfl
theorem gw_3_15 : (Jvm.Cond.constant "java/lang/Integer" (265 : Nat) (1431655765 : Int32)) ∈ lwG := lw_3 15 rfl rfl
theorem gw_3_16 : (Jvm.Cond.constant "java/lang/Integer" (266 : Nat) (858993459 : Int32)) ∈ lwG := lw_3 16 rfl rfl
theorem gw_3_17 : (Jvm.Cond.constant "java/lang/Integer" (267 : Nat) (252645135 : Int32)) ∈ lwG := lw_3 17 rfl rfl
theorem gw_3_18 : (Jvm.Cond.methodLink "RunbookerLaw" (183 : Nat) ({ cls := "RunbookerLaw", name := "condition", desc := "(LRunbooker;IICI[J)I" } : Jvm.MethodName)) ∈ lwG := lw_3 18 rfl rfl
theorem gw_3_19 : (Jvm.Cond.static ({ cls := "RunbookerLaw", name := "condition", desc := "(LRunbooker;IICI[J)I" } : Jvm.MethodName)) ∈ lwG := lw_3 19 rfl rfl
theorem gw_3_20 : (Jvm.Cond.codeWith ({ cls := "RunbookerLaw", name := "condition", desc := "(LRunbooker;IICI[J)I" } : Jvm.MethodName) method_7_code (7 : Nat) (Option.some Jvm.ClassFile.FieldType.int) [((0 : Nat), (14 : Nat), (17 : Nat), (21 : Nat)), ((0 : Nat), (14 : Nat), (21 : Nat), (13 : Nat)), ((0 : Nat), (14 : Nat), (25 : Nat), (15 : Nat))]) ∈ lwG := lw_3 20 rfl rfl
theorem gw_3_21 : (Jvm.Cond.methodLink "RunbookerLaw" (31 : Nat) ({ cls := "Runbooker", name := "condition", desc := "(IICI)I" } : Jvm.MethodName)) ∈ lwG := lw_3 21 rfl rfl
theorem gw_3_22 : (Jvm.Cond.instanceMethod ({ cls := "Runbooker", name := "condition", desc := "(IICI)I" } : Jvm.MethodName)) ∈ lwG := lw_3 22 rfl rfl
theorem gw_3_23 : (Jvm.Cond.selects "Runbooker" ({ cls := "Runbooker", name := "condition", desc := "(IICI)I" } : Jvm.MethodName) ({ cls := "Runbooker", name := "condition", desc := "(IICI)I" } : Jvm.MethodName)) ∈ lwG := lw_3 23 rfl rfl
theorem gw_3_24 : (Jvm.Cond.code ({ cls := "Runbooker", name := "condition", desc := "(IICI)I" } : Jvm.MethodName) prog_1_method_6_code (5 : Nat) (Option.some Jvm.ClassFile.FieldType.int)) ∈ lwG := lw_3 24 rfl rfl
theorem gw_3_25 : (Jvm.Cond.methodLink "Runbooker" (121 : Nat) ({ cls := "Runbooker", name := "isSensor", desc := "(I)Z" } : Jvm.MethodName)) ∈ lwG := lw_3 25 rfl rfl
theorem gw_3_26 : (Jvm.Cond.methodLink "Runbooker" (124 : Nat) ({ cls := "Runbooker", name := "isReading", desc := "(I)Z" } : Jvm.MethodName)) ∈ lwG := lw_3 26 rfl rfl
theorem gw_3_27 : (Jvm.Cond.static ({ cls := "Runbooker", name := "isReading", desc := "(I)Z" } : Jvm.MethodName)) ∈ lwG := lw_3 27 rfl rfl
theorem gw_3_28 : (Jvm.Cond.code ({ cls := "Runbooker", name := "isReading", desc := "(I)Z" } : Jvm.MethodName) prog_1_method_62_code (1 : Nat) (Option.some Jvm.ClassFile.FieldType.boolean)) ∈ lwG := lw_3 28 rfl rfl
theorem gw_3_31 : (Jvm.Cond.methodLink "Runbooker" (134 : Nat) ({ cls := "Runbooker$Plan", name := "addCondition", desc := "(IICI)I" } : Jvm.MethodName)) ∈ lwG := lw_3 31 rfl rfl
theorem gw_3_32 : (Jvm.Cond.instanceMethod ({ cls := "Runbooker$Plan", name := "addCondition", desc := "(IICI)I" } : Jvm.MethodName)) ∈ lwG := lw_3 32 rfl rfl
theorem gw_3_33 : (Jvm.Cond.selects "Runbooker$Plan" ({ cls := "Runbooker$Plan", name := "addCondition", desc := "(IICI)I" } : Jvm.MethodName) ({ cls := "Runbooker$Plan", name := "addCondition", desc := "(IICI)I" } : Jvm.MethodName)) ∈ lwG := lw_3 33 rfl rfl
theorem gw_3_34 : (Jvm.Cond.code ({ cls := "Runbooker$Plan", name := "addCondition", desc := "(IICI)I" } : Jvm.MethodName) prog_5_method_6_code (6 : Nat) (Option.some Jvm.ClassFile.FieldType.int)) ∈ lwG := lw_3 34 rfl rfl
theorem gw_3_35 : (Jvm.Cond.methodLink "RunbookerLaw" (187 : Nat) ({ cls := "RunbookerLaw", name := "setFallback", desc := "(LRunbooker;II[J)I" } : Jvm.MethodName)) ∈ lwG := lw_3 35 rfl rfl
theorem gw_3_36 : (Jvm.Cond.static ({ cls := "RunbookerLaw", name := "setFallback", desc := "(LRunbooker;II[J)I" } : Jvm.MethodName)) ∈ lwG := lw_3 36 rfl rfl
theorem gw_3_37 : (Jvm.Cond.codeWith ({ cls := "RunbookerLaw", name := "setFallback", desc := "(LRunbooker;II[J)I" } : Jvm.MethodName) method_8_code (5 : Nat) (Option.some Jvm.ClassFile.FieldType.int) [((0 : Nat), (10 : Nat), (13 : Nat), (21 : Nat)), ((0 : Nat), (10 : Nat), (17 : Nat), (13 : Nat)), ((0 : Nat), (10 : Nat), (21 : Nat), (15 : Nat))]) ∈ lwG := lw_3 37 rfl rfl
theorem gw_3_38 : (Jvm.Cond.methodLink "RunbookerLaw" (35 : Nat) ({ cls := "Runbooker", name := "setFallback", desc := "(II)I" } : Jvm.MethodName)) ∈ lwG := lw_3 38 rfl rfl
theorem gw_3_39 : (Jvm.Cond.instanceMethod ({ cls := "Runbooker", name := "setFallback", desc := "(II)I" } : Jvm.MethodName)) ∈ lwG := lw_3 39 rfl rfl
theorem gw_3_40 : (Jvm.Cond.selects "Runbooker" ({ cls := "Runbooker", name := "setFallback", desc := "(II)I" } : Jvm.MethodName) ({ cls := "Runbooker", name := "setFallback", desc := "(II)I" } : Jvm.MethodName)) ∈ lwG := lw_3 40 rfl rfl
theorem gw_3_41 : (Jvm.Cond.code ({ cls := "Runbooker", name := "setFallback", desc := "(II)I" } : Jvm.MethodName) prog_1_method_7_code (5 : Nat) (Option.some Jvm.ClassFile.FieldType.int)) ∈ lwG := lw_3 41 rfl rfl
theorem gw_3_42 : (Jvm.Cond.methodLink "Runbooker" (138 : Nat) ({ cls := "Runbooker$Plan", name := "ownerOfFallback", desc := "(I)I" } : Jvm.MethodName)) ∈ lwG := lw_3 42 rfl rfl
theorem gw_3_43 : (Jvm.Cond.instanceMethod ({ cls := "Runbooker$Plan", name := "ownerOfFallback", desc := "(I)I" } : Jvm.MethodName)) ∈ lwG := lw_3 43 rfl rfl
theorem gw_3_44 : (Jvm.Cond.selects "Runbooker$Plan" ({ cls := "Runbooker$Plan", name := "ownerOfFallback", desc := "(I)I" } : Jvm.MethodName) ({ cls := "Runbooker$Plan", name := "ownerOfFallback", desc := "(I)I" } : Jvm.MethodName)) ∈ lwG := lw_3 44 rfl rfl
theorem gw_3_45 : (Jvm.Cond.code ({ cls := "Runbooker$Plan", name := "ownerOfFallback", desc := "(I)I" } : Jvm.MethodName) prog_5_method_5_code (3 : Nat) (Option.some Jvm.ClassFile.FieldType.int)) ∈ lwG := lw_3 45 rfl rfl
theorem gw_3_47 : (Jvm.Cond.methodLink "RunbookerLaw" (190 : Nat) ({ cls := "RunbookerLaw", name := "setReading", desc := "(LRunbooker;II[J)I" } : Jvm.MethodName)) ∈ lwG := lw_3 47 rfl rfl
theorem gw_3_48 : (Jvm.Cond.static ({ cls := "RunbookerLaw", name := "setReading", desc := "(LRunbooker;II[J)I" } : Jvm.MethodName)) ∈ lwG := lw_3 48 rfl rfl
theorem gw_3_49 : (Jvm.Cond.codeWith ({ cls := "RunbookerLaw", name := "setReading", desc := "(LRunbooker;II[J)I" } : Jvm.MethodName) method_9_code (5 : Nat) (Option.some Jvm.ClassFile.FieldType.int) [((0 : Nat), (10 : Nat), (13 : Nat), (13 : Nat))]) ∈ lwG := lw_3 49 rfl rfl
theorem gw_3_50 : (Jvm.Cond.methodLink "RunbookerLaw" (38 : Nat) ({ cls := "Runbooker", name := "setReading", desc := "(II)I" } : Jvm.MethodName)) ∈ lwG := lw_3 50 rfl rfl
theorem gw_3_51 : (Jvm.Cond.instanceMethod ({ cls := "Runbooker", name := "setReading", desc := "(II)I" } : Jvm.MethodName)) ∈ lwG := lw_3 51 rfl rfl
theorem gw_3_52 : (Jvm.Cond.selects "Runbooker" ({ cls := "Runbooker", name := "setReading", desc := "(II)I" } : Jvm.MethodName) ({ cls := "Runbooker", name := "setReading", desc := "(II)I" } : Jvm.MethodName)) ∈ lwG := lw_3 52 rfl rfl
theorem gw_3_53 : (Jvm.Cond.code ({ cls := "Runbooker", name := "setReading", desc := "(II)I" } : Jvm.MethodName) prog_1_method_8_code (4 : Nat) (Option.some Jvm.ClassFile.FieldType.int)) ∈ lwG := lw_3 53 rfl rfl
theorem gw_3_55 : (Jvm.Cond.methodLink "RunbookerLaw" (193 : Nat) ({ cls := "RunbookerLaw", name := "start", desc := "(LRunbooker;[J)I" } : Jvm.MethodName)) ∈ lwG := lw_3 55 rfl rfl
theorem gw_3_56 : (Jvm.Cond.static ({ cls := "RunbookerLaw", name := "start", desc := "(LRunbooker;[J)I" } : Jvm.MethodName)) ∈ lwG := lw_3 56 rfl rfl
theorem gw_3_57 : (Jvm.Cond.codeWith ({ cls := "RunbookerLaw", name := "start", desc := "(LRunbooker;[J)I" } : Jvm.MethodName) method_10_code (3 : Nat) (Option.some Jvm.ClassFile.FieldType.int) [((0 : Nat), (8 : Nat), (11 : Nat), (15 : Nat))]) ∈ lwG := lw_3 57 rfl rfl
theorem gw_3_58 : (Jvm.Cond.methodLink "RunbookerLaw" (41 : Nat) ({ cls := "Runbooker", name := "start", desc := "()I" } : Jvm.MethodName)) ∈ lwG := lw_3 58 rfl rfl
theorem gw_3_59 : (Jvm.Cond.instanceMethod ({ cls := "Runbooker", name := "start", desc := "()I" } : Jvm.MethodName)) ∈ lwG := lw_3 59 rfl rfl
theorem gw_3_60 : (Jvm.Cond.selects "Runbooker" ({ cls := "Runbooker", name := "start", desc := "()I" } : Jvm.MethodName) ({ cls := "Runbooker", name := "start", desc := "()I" } : Jvm.MethodName)) ∈ lwG := lw_3 60 rfl rfl
theorem gw_3_61 : (Jvm.Cond.code ({ cls := "Runbooker", name := "start", desc := "()I" } : Jvm.MethodName) prog_1_method_9_code (1 : Nat) (Option.some Jvm.ClassFile.FieldType.int)) ∈ lwG := lw_3 61 rfl rfl
theorem gw_3_63 : (Jvm.Cond.methodLink "Runbooker" (150 : Nat) ({ cls := "Runbooker$Progress", name := "reset", desc := "(LRunbooker$Plan;)V" } : Jvm.MethodName)) ∈ lwG := lw_3 63 rfl rfl
theorem gw_3_64 : (Jvm.Cond.instanceMethod ({ cls := "Runbooker$Progress", name := "reset", desc := "(LRunbooker$Plan;)V" } : Jvm.MethodName)) ∈ lwG := lw_3 64 rfl rfl
theorem gw_3_65 : (Jvm.Cond.selects "Runbooker$Progress" ({ cls := "Runbooker$Progress", name := "reset", desc := "(LRunbooker$Plan;)V" } : Jvm.MethodName) ({ cls := "Runbooker$Progress", name := "reset", desc := "(LRunbooker$Plan;)V" } : Jvm.MethodName)) ∈ lwG := lw_3 65 rfl rfl
theorem gw_3_66 : (Jvm.Cond.code ({ cls := "Runbooker$Progress", name := "reset", desc := "(LRunbooker$Plan;)V" } : Jvm.MethodName) prog_6_method_3_code (3 : Nat) (Option.none : Option Jvm.ClassFile.FieldType)) ∈ lwG := lw_3 66 rfl rfl
theorem gw_3_67 : (Jvm.Cond.methodLink "Runbooker$Progress" (45 : Nat) ({ cls := "Runbooker$Plan", name := "ownerOfFallback", desc := "(I)I" } : Jvm.MethodName)) ∈ lwG := lw_3 67 rfl rfl
theorem gw_3_68 : (Jvm.Cond.methodLink "RunbookerLaw" (197 : Nat) ({ cls := "RunbookerLaw", name := "close", desc := "(LRunbooker;[J)I" } : Jvm.MethodName)) ∈ lwG := lw_3 68 rfl rfl
theorem gw_3_69 : (Jvm.Cond.static ({ cls := "RunbookerLaw", name := "close", desc := "(LRunbooker;[J)I" } : Jvm.MethodName)) ∈ lwG := lw_3 69 rfl rfl
theorem gw_3_70 : (Jvm.Cond.codeWith ({ cls := "RunbookerLaw", name := "close", desc := "(LRunbooker;[J)I" } : Jvm.MethodName) method_11_code (3 : Nat) (Option.some Jvm.ClassFile.FieldType.int) [((0 : Nat), (8 : Nat), (11 : Nat), (15 : Nat))]) ∈ lwG := lw_3 70 rfl rfl
theorem gw_3_71 : (Jvm.Cond.methodLink "RunbookerLaw" (45 : Nat) ({ cls := "Runbooker", name := "close", desc := "()I" } : Jvm.MethodName)) ∈ lwG := lw_3 71 rfl rfl
theorem gw_3_72 : (Jvm.Cond.instanceMethod ({ cls := "Runbooker", name := "close", desc := "()I" } : Jvm.MethodName)) ∈ lwG := lw_3 72 rfl rfl
theorem gw_3_73 : (Jvm.Cond.selects "Runbooker" ({ cls := "Runbooker", name := "close", desc := "()I" } : Jvm.MethodName) ({ cls := "Runbooker", name := "close", desc := "()I" } : Jvm.MethodName)) ∈ lwG := lw_3 73 rfl rfl
theorem gw_3_74 : (Jvm.Cond.code ({ cls := "Runbooker", name := "close", desc := "()I" } : Jvm.MethodName) prog_1_method_10_code (1 : Nat) (Option.some Jvm.ClassFile.FieldType.int)) ∈ lwG := lw_3 74 rfl rfl
theorem gw_3_75 : (Jvm.Cond.methodLink "Runbooker" (163 : Nat) ({ cls := "Runbooker", name := "requireRun", desc := "()V" } : Jvm.MethodName)) ∈ lwG := lw_3 75 rfl rfl
theorem gw_3_77 : (Jvm.Cond.instanceMethod ({ cls := "Runbooker", name := "requireRun", desc := "()V" } : Jvm.MethodName)) ∈ lwG := lw_3 77 rfl rfl
theorem gw_3_78 : (Jvm.Cond.code ({ cls := "Runbooker", name := "requireRun", desc := "()V" } : Jvm.MethodName) prog_1_method_58_code (1 : Nat) (Option.none : Option Jvm.ClassFile.FieldType)) ∈ lwG := lw_3 78 rfl rfl
theorem gw_3_80 : (Jvm.Cond.methodLink "Runbooker" (170 : Nat) ({ cls := "Runbooker$Handover", name := "isOn", desc := "()Z" } : Jvm.MethodName)) ∈ lwG := lw_3 80 rfl rfl
theorem gw_3_81 : (Jvm.Cond.instanceMethod ({ cls := "Runbooker$Handover", name := "isOn", desc := "()Z" } : Jvm.MethodName)) ∈ lwG := lw_3 81 rfl rfl
theorem gw_3_82 : (Jvm.Cond.selects "Runbooker$Handover" ({ cls := "Runbooker$Handover", name := "isOn", desc := "()Z" } : Jvm.MethodName) ({ cls := "Runbooker$Handover", name := "isOn", desc := "()Z" } : Jvm.MethodName)) ∈ lwG := lw_3 82 rfl rfl
theorem gw_3_83 : (Jvm.Cond.code ({ cls := "Runbooker$Handover", name := "isOn", desc := "()Z" } : Jvm.MethodName) prog_3_method_2_code (1 : Nat) (Option.some Jvm.ClassFile.FieldType.boolean)) ∈ lwG := lw_3 83 rfl rfl
theorem gw_3_85 : (Jvm.Cond.methodLink "RunbookerLaw" (200 : Nat) ({ cls := "RunbookerLaw", name := "begin", desc := "(LRunbooker;II[J)I" } : Jvm.MethodName)) ∈ lwG := lw_3 85 rfl rfl
theorem gw_3_86 : (Jvm.Cond.static ({ cls := "RunbookerLaw", name := "begin", desc := "(LRunbooker;II[J)I" } : Jvm.MethodName)) ∈ lwG := lw_3 86 rfl rfl
theorem gw_3_87 : (Jvm.Cond.codeWith ({ cls := "RunbookerLaw", name := "begin", desc := "(LRunbooker;II[J)I" } : Jvm.MethodName) method_12_code (5 : Nat) (Option.some Jvm.ClassFile.FieldType.int) [((0 : Nat), (10 : Nat), (13 : Nat), (21 : Nat)), ((0 : Nat), (10 : Nat), (17 : Nat), (15 : Nat)), ((0 : Nat), (10 : Nat), (21 : Nat), (51 : Nat))]) ∈ lwG := lw_3 87 rfl rfl
theorem gw_3_88 : (Jvm.Cond.classLink "RunbookerLaw" (51 : Nat) "java/lang/UnsupportedOperationException") ∈ lwG := lw_3 88 rfl rfl
theorem gw_3_89 : (Jvm.Cond.methodLink "RunbookerLaw" (48 : Nat) ({ cls := "Runbooker", name := "begin", desc := "(II)I" } : Jvm.MethodName)) ∈ lwG := lw_3 89 rfl rfl
theorem gw_3_90 : (Jvm.Cond.instanceMethod ({ cls := "Runbooker", name := "begin", desc := "(II)I" } : Jvm.MethodName)) ∈ lwG := lw_3 90 rfl rfl
theorem gw_3_91 : (Jvm.Cond.selects "Runbooker" ({ cls := "Runbooker", name := "begin", desc := "(II)I" } : Jvm.MethodName) ({ cls := "Runbooker", name := "begin", desc := "(II)I" } : Jvm.MethodName)) ∈ lwG := lw_3 91 rfl rfl
theorem gw_3_92 : (Jvm.Cond.code ({ cls := "Runbooker", name := "begin", desc := "(II)I" } : Jvm.MethodName) prog_1_method_11_code (4 : Nat) (Option.some Jvm.ClassFile.FieldType.int)) ∈ lwG := lw_3 92 rfl rfl
theorem gw_3_93 : (Jvm.Cond.methodLink "Runbooker" (181 : Nat) ({ cls := "Runbooker", name := "isFree", desc := "(I)Z" } : Jvm.MethodName)) ∈ lwG := lw_3 93 rfl rfl
theorem gw_3_95 : (Jvm.Cond.instanceMethod ({ cls := "Runbooker", name := "isFree", desc := "(I)Z" } : Jvm.MethodName)) ∈ lwG := lw_3 95 rfl rfl
theorem gw_3_96 : (Jvm.Cond.code ({ cls := "Runbooker", name := "isFree", desc := "(I)Z" } : Jvm.MethodName) prog_1_method_72_code (2 : Nat) (Option.some Jvm.ClassFile.FieldType.boolean)) ∈ lwG := lw_3 96 rfl rfl
theorem gw_3_97 : (Jvm.Cond.methodLink "Runbooker" (225 : Nat) ({ cls := "Runbooker$Handover", name := "isFrom", desc := "(I)Z" } : Jvm.MethodName)) ∈ lwG := lw_3 97 rfl rfl
theorem gw_3_98 : (Jvm.Cond.instanceMethod ({ cls := "Runbooker$Handover", name := "isFrom", desc := "(I)Z" } : Jvm.MethodName)) ∈ lwG := lw_3 98 rfl rfl
theorem gw_3_99 : (Jvm.Cond.selects "Runbooker$Handover" ({ cls := "Runbooker$Handover", name := "isFrom", desc := "(I)Z" } : Jvm.MethodName) ({ cls := "Runbooker$Handover", name := "isFrom", desc := "(I)Z" } : Jvm.MethodName)) ∈ lwG := lw_3 99 rfl rfl
theorem gw_3_100 : (Jvm.Cond.code ({ cls := "Runbooker$Handover", name := "isFrom", desc := "(I)Z" } : Jvm.MethodName) prog_3_method_3_code (2 : Nat) (Option.some Jvm.ClassFile.FieldType.boolean)) ∈ lwG := lw_3 100 rfl rfl
theorem gw_3_101 : (Jvm.Cond.methodLink "Runbooker" (184 : Nat) ({ cls := "Runbooker$Crew", name := "isAble", desc := "(II)Z" } : Jvm.MethodName)) ∈ lwG := lw_3 101 rfl rfl
theorem gw_3_102 : (Jvm.Cond.instanceMethod ({ cls := "Runbooker$Crew", name := "isAble", desc := "(II)Z" } : Jvm.MethodName)) ∈ lwG := lw_3 102 rfl rfl
theorem gw_3_103 : (Jvm.Cond.selects "Runbooker$Crew" ({ cls := "Runbooker$Crew", name := "isAble", desc := "(II)Z" } : Jvm.MethodName) ({ cls := "Runbooker$Crew", name := "isAble", desc := "(II)Z" } : Jvm.MethodName)) ∈ lwG := lw_3 103 rfl rfl
theorem gw_3_104 : (Jvm.Cond.code ({ cls := "Runbooker$Crew", name := "isAble", desc := "(II)Z" } : Jvm.MethodName) prog_2_method_4_code (3 : Nat) (Option.some Jvm.ClassFile.FieldType.boolean)) ∈ lwG := lw_3 104 rfl rfl
theorem gw_3_105 : (Jvm.Cond.classLink "Runbooker" (187 : Nat) "java/lang/UnsupportedOperationException") ∈ lwG := lw_3 105 rfl rfl
theorem gw_3_106 : (Jvm.Cond.instantiable "java/lang/UnsupportedOperationException" (6 : Nat)) ∈ lwG := lw_3 106 rfl rfl
theorem gw_3_108 : (Jvm.Cond.selects "java/lang/UnsupportedOperationException" ({ cls := "java/lang/Throwable", name := "fillInStackTrace", desc := "(I)Ljava/lang/Throwable;" } : Jvm.MethodName) ({ cls := "java/lang/Throwable", name := "fillInStackTrace", desc := "(I)Ljava/lang/Throwable;" } : Jvm.MethodName)) ∈ lwG := lw_3 108 rfl rfl
theorem gw_3_109 : (Jvm.Cond.lays "java/lang/UnsupportedOperationException" "java/lang/Throwable" "cause" "Ljava/lang/Throwable;") ∈ lwG := lw_3 109 rfl rfl
theorem gw_3_110 : (Jvm.Cond.lays "java/lang/UnsupportedOperationException" "java/lang/Throwable" "stackTrace" "[Ljava/lang/StackTraceElement;") ∈ lwG := lw_3 110 rfl rfl
theorem gw_3_111 : (Jvm.Cond.lays "java/lang/UnsupportedOperationException" "java/lang/Throwable" "suppressedExceptions" "Ljava/util/List;") ∈ lwG := lw_3 111 rfl rfl
theorem gw_3_112 : (Jvm.Cond.lays "java/lang/UnsupportedOperationException" "java/lang/Throwable" "detailMessage" "Ljava/lang/String;") ∈ lwG := lw_3 112 rfl rfl
theorem gw_3_113 : (Jvm.Cond.lays "java/lang/UnsupportedOperationException" "java/lang/Throwable" "backtrace" "Ljava/lang/Object;") ∈ lwG := lw_3 113 rfl rfl
theorem gw_3_115 : (Jvm.Cond.methodLink "Runbooker" (191 : Nat) ({ cls := "java/lang/UnsupportedOperationException", name := "<init>", desc := "(Ljava/lang/String;)V" } : Jvm.MethodName)) ∈ lwG := lw_3 115 rfl rfl
theorem gw_3_116 : (Jvm.Cond.instanceMethod ({ cls := "java/lang/UnsupportedOperationException", name := "<init>", desc := "(Ljava/lang/String;)V" } : Jvm.MethodName)) ∈ lwG := lw_3 116 rfl rfl
theorem gw_3_117 : (Jvm.Cond.code ({ cls := "java/lang/UnsupportedOperationException", name := "<init>", desc := "(Ljava/lang/String;)V" } : Jvm.MethodName) prog_29_method_2_code (2 : Nat) (Option.none : Option Jvm.ClassFile.FieldType)) ∈ lwG := lw_3 117 rfl rfl
theorem gw_3_118 : (Jvm.Cond.methodLink "java/lang/UnsupportedOperationException" (7 : Nat) ({ cls := "java/lang/RuntimeException", name := "<init>", desc := "(Ljava/lang/String;)V" } : Jvm.MethodName)) ∈ lwG := lw_3 118 rfl rfl
theorem gw_3_119 : (Jvm.Cond.lays "java/lang/UnsupportedOperationException" "java/lang/Throwable" "depth" "I") ∈ lwG := lw_3 119 rfl rfl
theorem gw_3_120 : (Jvm.Cond.superclass "java/lang/UnsupportedOperationException" "java/lang/RuntimeException") ∈ lwG := lw_3 120 rfl rfl
theorem gw_3_121 : (Jvm.Cond.methodLink "Runbooker" (195 : Nat) ({ cls := "Runbooker", name := "isRolePaused", desc := "(I)Z" } : Jvm.MethodName)) ∈ lwG := lw_3 121 rfl rfl
theorem gw_3_123 : (Jvm.Cond.instanceMethod ({ cls := "Runbooker", name := "isRolePaused", desc := "(I)Z" } : Jvm.MethodName)) ∈ lwG := lw_3 123 rfl rfl
theorem gw_3_124 : (Jvm.Cond.code ({ cls := "Runbooker", name := "isRolePaused", desc := "(I)Z" } : Jvm.MethodName) prog_1_method_74_code (2 : Nat) (Option.some Jvm.ClassFile.FieldType.boolean)) ∈ lwG := lw_3 124 rfl rfl
theorem gw_3_126 : (Jvm.Cond.methodLink "Runbooker" (203 : Nat) ({ cls := "Runbooker$Progress", name := "activate", desc := "(I[I)V" } : Jvm.MethodName)) ∈ lwG := lw_3 126 rfl rfl
theorem gw_3_127 : (Jvm.Cond.instanceMethod ({ cls := "Runbooker$Progress", name := "activate", desc := "(I[I)V" } : Jvm.MethodName)) ∈ lwG := lw_3 127 rfl rfl
theorem gw_3_128 : (Jvm.Cond.selects "Runbooker$Progress" ({ cls := "Runbooker$Progress", name := "activate", desc := "(I[I)V" } : Jvm.MethodName) ({ cls := "Runbooker$Progress", name := "activate", desc := "(I[I)V" } : Jvm.MethodName)) ∈ lwG := lw_3 128 rfl rfl
theorem gw_3_129 : (Jvm.Cond.code ({ cls := "Runbooker$Progress", name := "activate", desc := "(I[I)V" } : Jvm.MethodName) prog_6_method_4_code (4 : Nat) (Option.none : Option Jvm.ClassFile.FieldType)) ∈ lwG := lw_3 129 rfl rfl
theorem gw_3_130 : (Jvm.Cond.methodLink "Runbooker" (210 : Nat) ({ cls := "Runbooker$Journal", name := "write", desc := "(CIII)V" } : Jvm.MethodName)) ∈ lwG := lw_3 130 rfl rfl
theorem gw_3_131 : (Jvm.Cond.instanceMethod ({ cls := "Runbooker$Journal", name := "write", desc := "(CIII)V" } : Jvm.MethodName)) ∈ lwG := lw_3 131 rfl rfl
theorem gw_3_132 : (Jvm.Cond.selects "Runbooker$Journal" ({ cls := "Runbooker$Journal", name := "write", desc := "(CIII)V" } : Jvm.MethodName) ({ cls := "Runbooker$Journal", name := "write", desc := "(CIII)V" } : Jvm.MethodName)) ∈ lwG := lw_3 132 rfl rfl
theorem gw_3_133 : (Jvm.Cond.code ({ cls := "Runbooker$Journal", name := "write", desc := "(CIII)V" } : Jvm.MethodName) prog_4_method_3_code (5 : Nat) (Option.none : Option Jvm.ClassFile.FieldType)) ∈ lwG := lw_3 133 rfl rfl
theorem gw_3_134 : (Jvm.Cond.methodLink "RunbookerLaw" (203 : Nat) ({ cls := "RunbookerLaw", name := "finish", desc := "(LRunbooker;IZ[J)I" } : Jvm.MethodName)) ∈ lwG := lw_3 134 rfl rfl
theorem gw_3_135 : (Jvm.Cond.static ({ cls := "RunbookerLaw", name := "finish", desc := "(LRunbooker;IZ[J)I" } : Jvm.MethodName)) ∈ lwG := lw_3 135 rfl rfl
theorem gw_3_136 : (Jvm.Cond.codeWith ({ cls := "RunbookerLaw", name := "finish", desc := "(LRunbooker;IZ[J)I" } : Jvm.MethodName) method_13_code (5 : Nat) (Option.some Jvm.ClassFile.FieldType.int) [((0 : Nat), (10 : Nat), (13 : Nat), (21 : Nat)), ((0 : Nat), (10 : Nat), (17 : Nat), (15 : Nat)), ((0 : Nat), (10 : Nat), (21 : Nat), (51 : Nat))]) ∈ lwG := lw_3 136 rfl rfl
theorem gw_3_137 : (Jvm.Cond.methodLink "RunbookerLaw" (53 : Nat) ({ cls := "Runbooker", name := "finish", desc := "(IZ)C" } : Jvm.MethodName)) ∈ lwG := lw_3 137 rfl rfl
theorem gw_3_138 : (Jvm.Cond.instanceMethod ({ cls := "Runbooker", name := "finish", desc := "(IZ)C" } : Jvm.MethodName)) ∈ lwG := lw_3 138 rfl rfl
theorem gw_3_139 : (Jvm.Cond.selects "Runbooker" ({ cls := "Runbooker", name := "finish", desc := "(IZ)C" } : Jvm.MethodName) ({ cls := "Runbooker", name := "finish", desc := "(IZ)C" } : Jvm.MethodName)) ∈ lwG := lw_3 139 rfl rfl
theorem gw_3_140 : (Jvm.Cond.code ({ cls := "Runbooker", name := "finish", desc := "(IZ)C" } : Jvm.MethodName) prog_1_method_12_code (4 : Nat) (Option.some Jvm.ClassFile.FieldType.char)) ∈ lwG := lw_3 140 rfl rfl
theorem gw_3_143 : (Jvm.Cond.methodLink "Runbooker" (230 : Nat) ({ cls := "Runbooker", name := "completeStep", desc := "(I)V" } : Jvm.MethodName)) ∈ lwG := lw_3 143 rfl rfl
theorem gw_3_145 : (Jvm.Cond.instanceMethod ({ cls := "Runbooker", name := "completeStep", desc := "(I)V" } : Jvm.MethodName)) ∈ lwG := lw_3 145 rfl rfl
theorem gw_3_146 : (Jvm.Cond.code ({ cls := "Runbooker", name := "completeStep", desc := "(I)V" } : Jvm.MethodName) prog_1_method_67_code (2 : Nat) (Option.none : Option Jvm.ClassFile.FieldType)) ∈ lwG := lw_3 146 rfl rfl
theorem gw_3_147 : (Jvm.Cond.methodLink "Runbooker" (441 : Nat) ({ cls := "Runbooker$Crew", name := "release", desc := "(I)V" } : Jvm.MethodName)) ∈ lwG := lw_3 147 rfl rfl
theorem gw_3_148 : (Jvm.Cond.instanceMethod ({ cls := "Runbooker$Crew", name := "release", desc := "(I)V" } : Jvm.MethodName)) ∈ lwG := lw_3 148 rfl rfl
theorem gw_3_149 : (Jvm.Cond.selects "Runbooker$Crew" ({ cls := "Runbooker$Crew", name := "release", desc := "(I)V" } : Jvm.MethodName) ({ cls := "Runbooker$Crew", name := "release", desc := "(I)V" } : Jvm.MethodName)) ∈ lwG := lw_3 149 rfl rfl
theorem gw_3_150 : (Jvm.Cond.code ({ cls := "Runbooker$Crew", name := "release", desc := "(I)V" } : Jvm.MethodName) prog_2_method_6_code (3 : Nat) (Option.none : Option Jvm.ClassFile.FieldType)) ∈ lwG := lw_3 150 rfl rfl
theorem gw_3_151 : (Jvm.Cond.methodLink "Runbooker" (444 : Nat) ({ cls := "Runbooker$Progress", name := "complete", desc := "(I)V" } : Jvm.MethodName)) ∈ lwG := lw_3 151 rfl rfl
theorem gw_3_152 : (Jvm.Cond.instanceMethod ({ cls := "Runbooker$Progress", name := "complete", desc := "(I)V" } : Jvm.MethodName)) ∈ lwG := lw_3 152 rfl rfl
theorem gw_3_153 : (Jvm.Cond.selects "Runbooker$Progress" ({ cls := "Runbooker$Progress", name := "complete", desc := "(I)V" } : Jvm.MethodName) ({ cls := "Runbooker$Progress", name := "complete", desc := "(I)V" } : Jvm.MethodName)) ∈ lwG := lw_3 153 rfl rfl
theorem gw_3_154 : (Jvm.Cond.code ({ cls := "Runbooker$Progress", name := "complete", desc := "(I)V" } : Jvm.MethodName) prog_6_method_7_code (2 : Nat) (Option.none : Option Jvm.ClassFile.FieldType)) ∈ lwG := lw_3 154 rfl rfl
theorem gw_3_155 : (Jvm.Cond.methodLink "Runbooker" (233 : Nat) ({ cls := "Runbooker", name := "failTry", desc := "(I)V" } : Jvm.MethodName)) ∈ lwG := lw_3 155 rfl rfl
theorem gw_3_157 : (Jvm.Cond.instanceMethod ({ cls := "Runbooker", name := "failTry", desc := "(I)V" } : Jvm.MethodName)) ∈ lwG := lw_3 157 rfl rfl
theorem gw_3_158 : (Jvm.Cond.code ({ cls := "Runbooker", name := "failTry", desc := "(I)V" } : Jvm.MethodName) prog_1_method_68_code (2 : Nat) (Option.none : Option Jvm.ClassFile.FieldType)) ∈ lwG := lw_3 158 rfl rfl
theorem gw_3_159 : (Jvm.Cond.methodLink "Runbooker" (450 : Nat) ({ cls := "Runbooker", name := "callIn", desc := "(I)V" } : Jvm.MethodName)) ∈ lwG := lw_3 159 rfl rfl
theorem gw_3_161 : (Jvm.Cond.instanceMethod ({ cls := "Runbooker", name := "callIn", desc := "(I)V" } : Jvm.MethodName)) ∈ lwG := lw_3 161 rfl rfl
theorem gw_3_162 : (Jvm.Cond.code ({ cls := "Runbooker", name := "callIn", desc := "(I)V" } : Jvm.MethodName) prog_1_method_69_code (2 : Nat) (Option.none : Option Jvm.ClassFile.FieldType)) ∈ lwG := lw_3 162 rfl rfl
theorem gw_3_163 : (Jvm.Cond.methodLink "RunbookerLaw" (206 : Nat) ({ cls := "RunbookerLaw", name := "handOver", desc := "(LRunbooker;II[J)I" } : Jvm.MethodName)) ∈ lwG := lw_3 163 rfl rfl
theorem gw_3_164 : (Jvm.Cond.static ({ cls := "RunbookerLaw", name := "handOver", desc := "(LRunbooker;II[J)I" } : Jvm.MethodName)) ∈ lwG := lw_3 164 rfl rfl
theorem gw_3_165 : (Jvm.Cond.codeWith ({ cls := "RunbookerLaw", name := "handOver", desc := "(LRunbooker;II[J)I" } : Jvm.MethodName) method_14_code (5 : Nat) (Option.some Jvm.ClassFile.FieldType.int) [((0 : Nat), (10 : Nat), (13 : Nat), (21 : Nat)), ((0 : Nat), (10 : Nat), (17 : Nat), (13 : Nat)), ((0 : Nat), (10 : Nat), (21 : Nat), (15 : Nat)), ((0 : Nat), (10 : Nat), (25 : Nat), (51 : Nat))]) ∈ lwG := lw_3 165 rfl rfl
theorem gw_3_166 : (Jvm.Cond.methodLink "RunbookerLaw" (57 : Nat) ({ cls := "Runbooker", name := "handOver", desc := "(II)I" } : Jvm.MethodName)) ∈ lwG := lw_3 166 rfl rfl
theorem gw_3_167 : (Jvm.Cond.instanceMethod ({ cls := "Runbooker", name := "handOver", desc := "(II)I" } : Jvm.MethodName)) ∈ lwG := lw_3 167 rfl rfl
theorem gw_3_168 : (Jvm.Cond.selects "Runbooker" ({ cls := "Runbooker", name := "handOver", desc := "(II)I" } : Jvm.MethodName) ({ cls := "Runbooker", name := "handOver", desc := "(II)I" } : Jvm.MethodName)) ∈ lwG := lw_3 168 rfl rfl
theorem gw_3_169 : (Jvm.Cond.code ({ cls := "Runbooker", name := "handOver", desc := "(II)I" } : Jvm.MethodName) prog_1_method_13_code (3 : Nat) (Option.some Jvm.ClassFile.FieldType.int)) ∈ lwG := lw_3 169 rfl rfl
theorem gw_3_172 : (Jvm.Cond.methodLink "Runbooker" (244 : Nat) ({ cls := "Runbooker", name := "canTakeOver", desc := "(II)Z" } : Jvm.MethodName)) ∈ lwG := lw_3 172 rfl rfl
theorem gw_3_174 : (Jvm.Cond.instanceMethod ({ cls := "Runbooker", name := "canTakeOver", desc := "(II)Z" } : Jvm.MethodName)) ∈ lwG := lw_3 174 rfl rfl
theorem gw_3_175 : (Jvm.Cond.code ({ cls := "Runbooker", name := "canTakeOver", desc := "(II)Z" } : Jvm.MethodName) prog_1_method_70_code (4 : Nat) (Option.some Jvm.ClassFile.FieldType.boolean)) ∈ lwG := lw_3 175 rfl rfl
theorem gw_3_177 : (Jvm.Cond.methodLink "Runbooker" (249 : Nat) ({ cls := "Runbooker$Handover", name := "open", desc := "(III)V" } : Jvm.MethodName)) ∈ lwG := lw_3 177 rfl rfl
theorem gw_3_178 : (Jvm.Cond.instanceMethod ({ cls := "Runbooker$Handover", name := "open", desc := "(III)V" } : Jvm.MethodName)) ∈ lwG := lw_3 178 rfl rfl
theorem gw_3_179 : (Jvm.Cond.selects "Runbooker$Handover" ({ cls := "Runbooker$Handover", name := "open", desc := "(III)V" } : Jvm.MethodName) ({ cls := "Runbooker$Handover", name := "open", desc := "(III)V" } : Jvm.MethodName)) ∈ lwG := lw_3 179 rfl rfl
theorem gw_3_180 : (Jvm.Cond.code ({ cls := "Runbooker$Handover", name := "open", desc := "(III)V" } : Jvm.MethodName) prog_3_method_5_code (4 : Nat) (Option.none : Option Jvm.ClassFile.FieldType)) ∈ lwG := lw_3 180 rfl rfl
theorem gw_3_181 : (Jvm.Cond.methodLink "RunbookerLaw" (209 : Nat) ({ cls := "RunbookerLaw", name := "undo", desc := "(LRunbooker;I[J)I" } : Jvm.MethodName)) ∈ lwG := lw_3 181 rfl rfl
theorem gw_3_182 : (Jvm.Cond.static ({ cls := "RunbookerLaw", name := "undo", desc := "(LRunbooker;I[J)I" } : Jvm.MethodName)) ∈ lwG := lw_3 182 rfl rfl
theorem gw_3_183 : (Jvm.Cond.codeWith ({ cls := "RunbookerLaw", name := "undo", desc := "(LRunbooker;I[J)I" } : Jvm.MethodName) method_15_code (4 : Nat) (Option.some Jvm.ClassFile.FieldType.int) [((0 : Nat), (9 : Nat), (12 : Nat), (21 : Nat)), ((0 : Nat), (9 : Nat), (15 : Nat), (15 : Nat)), ((0 : Nat), (9 : Nat), (18 : Nat), (51 : Nat))]) ∈ lwG := lw_3 183 rfl rfl
theorem gw_3_184 : (Jvm.Cond.methodLink "RunbookerLaw" (60 : Nat) ({ cls := "Runbooker", name := "undo", desc := "(I)I" } : Jvm.MethodName)) ∈ lwG := lw_3 184 rfl rfl
theorem gw_3_185 : (Jvm.Cond.instanceMethod ({ cls := "Runbooker", name := "undo", desc := "(I)I" } : Jvm.MethodName)) ∈ lwG := lw_3 185 rfl rfl
theorem gw_3_186 : (Jvm.Cond.selects "Runbooker" ({ cls := "Runbooker", name := "undo", desc := "(I)I" } : Jvm.MethodName) ({ cls := "Runbooker", name := "undo", desc := "(I)I" } : Jvm.MethodName)) ∈ lwG := lw_3 186 rfl rfl
theorem gw_3_187 : (Jvm.Cond.code ({ cls := "Runbooker", name := "undo", desc := "(I)I" } : Jvm.MethodName) prog_1_method_14_code (5 : Nat) (Option.some Jvm.ClassFile.FieldType.int)) ∈ lwG := lw_3 187 rfl rfl
theorem gw_3_189 : (Jvm.Cond.methodLink "Runbooker" (258 : Nat) ({ cls := "Runbooker$Progress", name := "placeInDone", desc := "(I)I" } : Jvm.MethodName)) ∈ lwG := lw_3 189 rfl rfl
theorem gw_3_190 : (Jvm.Cond.instanceMethod ({ cls := "Runbooker$Progress", name := "placeInDone", desc := "(I)I" } : Jvm.MethodName)) ∈ lwG := lw_3 190 rfl rfl
theorem gw_3_191 : (Jvm.Cond.selects "Runbooker$Progress" ({ cls := "Runbooker$Progress", name := "placeInDone", desc := "(I)I" } : Jvm.MethodName) ({ cls := "Runbooker$Progress", name := "placeInDone", desc := "(I)I" } : Jvm.MethodName)) ∈ lwG := lw_3 191 rfl rfl
theorem gw_3_192 : (Jvm.Cond.code ({ cls := "Runbooker$Progress", name := "placeInDone", desc := "(I)I" } : Jvm.MethodName) prog_6_method_8_code (3 : Nat) (Option.some Jvm.ClassFile.FieldType.int)) ∈ lwG := lw_3 192 rfl rfl
theorem gw_3_193 : (Jvm.Cond.methodLink "Runbooker" (261 : Nat) ({ cls := "Runbooker", name := "areReversibleFrom", desc := "(I)Z" } : Jvm.MethodName)) ∈ lwG := lw_3 193 rfl rfl
theorem gw_3_195 : (Jvm.Cond.instanceMethod ({ cls := "Runbooker", name := "areReversibleFrom", desc := "(I)Z" } : Jvm.MethodName)) ∈ lwG := lw_3 195 rfl rfl
theorem gw_3_196 : (Jvm.Cond.code ({ cls := "Runbooker", name := "areReversibleFrom", desc := "(I)Z" } : Jvm.MethodName) prog_1_method_71_code (4 : Nat) (Option.some Jvm.ClassFile.FieldType.boolean)) ∈ lwG := lw_3 196 rfl rfl
theorem gw_3_198 : (Jvm.Cond.methodLink "Runbooker" (266 : Nat) ({ cls := "Runbooker$Progress", name := "undoLatest", desc := "()I" } : Jvm.MethodName)) ∈ lwG := lw_3 198 rfl rfl
theorem gw_3_199 : (Jvm.Cond.instanceMethod ({ cls := "Runbooker$Progress", name := "undoLatest", desc := "()I" } : Jvm.MethodName)) ∈ lwG := lw_3 199 rfl rfl
theorem gw_3_200 : (Jvm.Cond.selects "Runbooker$Progress" ({ cls := "Runbooker$Progress", name := "undoLatest", desc := "()I" } : Jvm.MethodName) ({ cls := "Runbooker$Progress", name := "undoLatest", desc := "()I" } : Jvm.MethodName)) ∈ lwG := lw_3 200 rfl rfl
theorem gw_3_201 : (Jvm.Cond.code ({ cls := "Runbooker$Progress", name := "undoLatest", desc := "()I" } : Jvm.MethodName) prog_6_method_10_code (2 : Nat) (Option.some Jvm.ClassFile.FieldType.int)) ∈ lwG := lw_3 201 rfl rfl
theorem gw_3_202 : (Jvm.Cond.methodLink "Runbooker$Progress" (49 : Nat) ({ cls := "Runbooker$Progress", name := "latestDone", desc := "()I" } : Jvm.MethodName)) ∈ lwG := lw_3 202 rfl rfl
theorem gw_3_203 : (Jvm.Cond.instanceMethod ({ cls := "Runbooker$Progress", name := "latestDone", desc := "()I" } : Jvm.MethodName)) ∈ lwG := lw_3 203 rfl rfl
theorem gw_3_204 : (Jvm.Cond.selects "Runbooker$Progress" ({ cls := "Runbooker$Progress", name := "latestDone", desc := "()I" } : Jvm.MethodName) ({ cls := "Runbooker$Progress", name := "latestDone", desc := "()I" } : Jvm.MethodName)) ∈ lwG := lw_3 204 rfl rfl
theorem gw_3_205 : (Jvm.Cond.code ({ cls := "Runbooker$Progress", name := "latestDone", desc := "()I" } : Jvm.MethodName) prog_6_method_9_code (1 : Nat) (Option.some Jvm.ClassFile.FieldType.int)) ∈ lwG := lw_3 205 rfl rfl
theorem gw_3_206 : (Jvm.Cond.methodLink "Runbooker$Progress" (53 : Nat) ({ cls := "Runbooker$Progress", name := "has", desc := "(I)Z" } : Jvm.MethodName)) ∈ lwG := lw_3 206 rfl rfl
theorem gw_3_207 : (Jvm.Cond.methodLink "RunbookerLaw" (212 : Nat) ({ cls := "RunbookerLaw", name := "pass", desc := "(LRunbooker;I[J)I" } : Jvm.MethodName)) ∈ lwG := lw_3 207 rfl rfl
theorem gw_3_208 : (Jvm.Cond.static ({ cls := "RunbookerLaw", name := "pass", desc := "(LRunbooker;I[J)I" } : Jvm.MethodName)) ∈ lwG := lw_3 208 rfl rfl
theorem gw_3_209 : (Jvm.Cond.codeWith ({ cls := "RunbookerLaw", name := "pass", desc := "(LRunbooker;I[J)I" } : Jvm.MethodName) method_16_code (4 : Nat) (Option.some Jvm.ClassFile.FieldType.int) [((0 : Nat), (9 : Nat), (12 : Nat), (13 : Nat))]) ∈ lwG := lw_3 209 rfl rfl
theorem gw_3_210 : (Jvm.Cond.methodLink "RunbookerLaw" (63 : Nat) ({ cls := "Runbooker", name := "pass", desc := "(I)I" } : Jvm.MethodName)) ∈ lwG := lw_3 210 rfl rfl
theorem gw_3_211 : (Jvm.Cond.instanceMethod ({ cls := "Runbooker", name := "pass", desc := "(I)I" } : Jvm.MethodName)) ∈ lwG := lw_3 211 rfl rfl
theorem gw_3_212 : (Jvm.Cond.selects "Runbooker" ({ cls := "Runbooker", name := "pass", desc := "(I)I" } : Jvm.MethodName) ({ cls := "Runbooker", name := "pass", desc := "(I)I" } : Jvm.MethodName)) ∈ lwG := lw_3 212 rfl rfl
theorem gw_3_213 : (Jvm.Cond.code ({ cls := "Runbooker", name := "pass", desc := "(I)I" } : Jvm.MethodName) prog_1_method_15_code (4 : Nat) (Option.some Jvm.ClassFile.FieldType.int)) ∈ lwG := lw_3 213 rfl rfl
theorem gw_3_215 : (Jvm.Cond.methodLink "Runbooker" (271 : Nat) ({ cls := "Runbooker", name := "passMinute", desc := "()I" } : Jvm.MethodName)) ∈ lwG := lw_3 215 rfl rfl
theorem gw_3_217 : (Jvm.Cond.instanceMethod ({ cls := "Runbooker", name := "passMinute", desc := "()I" } : Jvm.MethodName)) ∈ lwG := lw_3 217 rfl rfl
theorem gw_3_218 : (Jvm.Cond.code ({ cls := "Runbooker", name := "passMinute", desc := "()I" } : Jvm.MethodName) prog_1_method_63_code (2 : Nat) (Option.some Jvm.ClassFile.FieldType.int)) ∈ lwG := lw_3 218 rfl rfl
theorem gw_3_219 : (Jvm.Cond.methodLink "Runbooker" (415 : Nat) ({ cls := "Runbooker", name := "stepHeldUp", desc := "()I" } : Jvm.MethodName)) ∈ lwG := lw_3 219 rfl rfl
theorem gw_3_221 : (Jvm.Cond.instanceMethod ({ cls := "Runbooker", name := "stepHeldUp", desc := "()I" } : Jvm.MethodName)) ∈ lwG := lw_3 221 rfl rfl
theorem gw_3_222 : (Jvm.Cond.code ({ cls := "Runbooker", name := "stepHeldUp", desc := "()I" } : Jvm.MethodName) prog_1_method_64_code (1 : Nat) (Option.some Jvm.ClassFile.FieldType.int)) ∈ lwG := lw_3 222 rfl rfl
theorem gw_3_223 : (Jvm.Cond.methodLink "Runbooker" (418 : Nat) ({ cls := "Runbooker$Progress", name := "workMinute", desc := "(I)I" } : Jvm.MethodName)) ∈ lwG := lw_3 223 rfl rfl
theorem gw_3_224 : (Jvm.Cond.instanceMethod ({ cls := "Runbooker$Progress", name := "workMinute", desc := "(I)I" } : Jvm.MethodName)) ∈ lwG := lw_3 224 rfl rfl
theorem gw_3_225 : (Jvm.Cond.selects "Runbooker$Progress" ({ cls := "Runbooker$Progress", name := "workMinute", desc := "(I)I" } : Jvm.MethodName) ({ cls := "Runbooker$Progress", name := "workMinute", desc := "(I)I" } : Jvm.MethodName)) ∈ lwG := lw_3 225 rfl rfl
theorem gw_3_226 : (Jvm.Cond.code ({ cls := "Runbooker$Progress", name := "workMinute", desc := "(I)I" } : Jvm.MethodName) prog_6_method_6_code (4 : Nat) (Option.some Jvm.ClassFile.FieldType.int)) ∈ lwG := lw_3 226 rfl rfl
theorem gw_3_227 : (Jvm.Cond.methodLink "Runbooker" (421 : Nat) ({ cls := "Runbooker", name := "timeOutSteps", desc := "()I" } : Jvm.MethodName)) ∈ lwG := lw_3 227 rfl rfl
theorem gw_3_229 : (Jvm.Cond.instanceMethod ({ cls := "Runbooker", name := "timeOutSteps", desc := "()I" } : Jvm.MethodName)) ∈ lwG := lw_3 229 rfl rfl
theorem gw_3_230 : (Jvm.Cond.code ({ cls := "Runbooker", name := "timeOutSteps", desc := "()I" } : Jvm.MethodName) prog_1_method_65_code (3 : Nat) (Option.some Jvm.ClassFile.FieldType.int)) ∈ lwG := lw_3 230 rfl rfl
theorem gw_3_231 : (Jvm.Cond.methodLink "Runbooker" (424 : Nat) ({ cls := "Runbooker", name := "endHandover", desc := "()V" } : Jvm.MethodName)) ∈ lwG := lw_3 231 rfl rfl
theorem gw_3_233 : (Jvm.Cond.instanceMethod ({ cls := "Runbooker", name := "endHandover", desc := "()V" } : Jvm.MethodName)) ∈ lwG := lw_3 233 rfl rfl
theorem gw_3_234 : (Jvm.Cond.code ({ cls := "Runbooker", name := "endHandover", desc := "()V" } : Jvm.MethodName) prog_1_method_66_code (2 : Nat) (Option.none : Option Jvm.ClassFile.FieldType)) ∈ lwG := lw_3 234 rfl rfl
theorem gw_3_235 : (Jvm.Cond.methodLink "Runbooker" (434 : Nat) ({ cls := "Runbooker$Crew", name := "replace", desc := "(II)V" } : Jvm.MethodName)) ∈ lwG := lw_3 235 rfl rfl
theorem gw_3_236 : (Jvm.Cond.instanceMethod ({ cls := "Runbooker$Crew", name := "replace", desc := "(II)V" } : Jvm.MethodName)) ∈ lwG := lw_3 236 rfl rfl
theorem gw_3_237 : (Jvm.Cond.selects "Runbooker$Crew" ({ cls := "Runbooker$Crew", name := "replace", desc := "(II)V" } : Jvm.MethodName) ({ cls := "Runbooker$Crew", name := "replace", desc := "(II)V" } : Jvm.MethodName)) ∈ lwG := lw_3 237 rfl rfl
theorem gw_3_238 : (Jvm.Cond.code ({ cls := "Runbooker$Crew", name := "replace", desc := "(II)V" } : Jvm.MethodName) prog_2_method_7_code (3 : Nat) (Option.none : Option Jvm.ClassFile.FieldType)) ∈ lwG := lw_3 238 rfl rfl
theorem gw_3_239 : (Jvm.Cond.methodLink "Runbooker$Crew" (26 : Nat) ({ cls := "Runbooker$Crew", name := "has", desc := "(I)Z" } : Jvm.MethodName)) ∈ lwG := lw_3 239 rfl rfl
theorem gw_4_0 : (Jvm.Cond.methodLink "Runbooker" (438 : Nat) ({ cls := "Runbooker$Handover", name := "clear", desc := "()V" } : Jvm.MethodName)) ∈ lwG := lw_4 0 rfl rfl
theorem gw_4_1 : (Jvm.Cond.instanceMethod ({ cls := "Runbooker$Handover", name := "clear", desc := "()V" } : Jvm.MethodName)) ∈ lwG := lw_4 1 rfl rfl
theorem gw_4_2 : (Jvm.Cond.selects "Runbooker$Handover" ({ cls := "Runbooker$Handover", name := "clear", desc := "()V" } : Jvm.MethodName) ({ cls := "Runbooker$Handover", name := "clear", desc := "()V" } : Jvm.MethodName)) ∈ lwG := lw_4 2 rfl rfl
theorem gw_4_3 : (Jvm.Cond.code ({ cls := "Runbooker$Handover", name := "clear", desc := "()V" } : Jvm.MethodName) prog_3_method_6_code (1 : Nat) (Option.none : Option Jvm.ClassFile.FieldType)) ∈ lwG := lw_4 3 rfl rfl
theorem gw_4_4 : (Jvm.Cond.methodLink "RunbookerLaw" (227 : Nat) ({ cls := "RunbookerLaw", name := "isOnDuty", desc := "(LRunbooker;I[J)I" } : Jvm.MethodName)) ∈ lwG := lw_4 4 rfl rfl
theorem gw_4_5 : (Jvm.Cond.static ({ cls := "RunbookerLaw", name := "isOnDuty", desc := "(LRunbooker;I[J)I" } : Jvm.MethodName)) ∈ lwG := lw_4 5 rfl rfl
theorem gw_4_6 : (Jvm.Cond.codeWith ({ cls := "RunbookerLaw", name := "isOnDuty", desc := "(LRunbooker;I[J)I" } : Jvm.MethodName) method_17_code (4 : Nat) (Option.some Jvm.ClassFile.FieldType.int) [((0 : Nat), (16 : Nat), (19 : Nat), (21 : Nat))]) ∈ lwG := lw_4 6 rfl rfl
theorem gw_4_7 : (Jvm.Cond.methodLink "RunbookerLaw" (66 : Nat) ({ cls := "Runbooker", name := "isOnDuty", desc := "(I)Z" } : Jvm.MethodName)) ∈ lwG := lw_4 7 rfl rfl
theorem gw_4_8 : (Jvm.Cond.instanceMethod ({ cls := "Runbooker", name := "isOnDuty", desc := "(I)Z" } : Jvm.MethodName)) ∈ lwG := lw_4 8 rfl rfl
theorem gw_4_9 : (Jvm.Cond.selects "Runbooker" ({ cls := "Runbooker", name := "isOnDuty", desc := "(I)Z" } : Jvm.MethodName) ({ cls := "Runbooker", name := "isOnDuty", desc := "(I)Z" } : Jvm.MethodName)) ∈ lwG := lw_4 9 rfl rfl
theorem gw_4_10 : (Jvm.Cond.code ({ cls := "Runbooker", name := "isOnDuty", desc := "(I)Z" } : Jvm.MethodName) prog_1_method_19_code (2 : Nat) (Option.some Jvm.ClassFile.FieldType.boolean)) ∈ lwG := lw_4 10 rfl rfl
theorem gw_4_11 : (Jvm.Cond.methodLink "RunbookerLaw" (230 : Nat) ({ cls := "RunbookerLaw", name := "hasRole", desc := "(LRunbooker;II[J)I" } : Jvm.MethodName)) ∈ lwG := lw_4 11 rfl rfl
theorem gw_4_12 : (Jvm.Cond.static ({ cls := "RunbookerLaw", name := "hasRole", desc := "(LRunbooker;II[J)I" } : Jvm.MethodName)) ∈ lwG := lw_4 12 rfl rfl
theorem gw_4_13 : (Jvm.Cond.codeWith ({ cls := "RunbookerLaw", name := "hasRole", desc := "(LRunbooker;II[J)I" } : Jvm.MethodName) method_18_code (5 : Nat) (Option.some Jvm.ClassFile.FieldType.int) [((0 : Nat), (17 : Nat), (20 : Nat), (21 : Nat)), ((0 : Nat), (17 : Nat), (24 : Nat), (13 : Nat))]) ∈ lwG := lw_4 13 rfl rfl
theorem gw_4_14 : (Jvm.Cond.methodLink "RunbookerLaw" (70 : Nat) ({ cls := "Runbooker", name := "hasRole", desc := "(II)Z" } : Jvm.MethodName)) ∈ lwG := lw_4 14 rfl rfl
theorem gw_4_15 : (Jvm.Cond.instanceMethod ({ cls := "Runbooker", name := "hasRole", desc := "(II)Z" } : Jvm.MethodName)) ∈ lwG := lw_4 15 rfl rfl
theorem gw_4_16 : (Jvm.Cond.selects "Runbooker" ({ cls := "Runbooker", name := "hasRole", desc := "(II)Z" } : Jvm.MethodName) ({ cls := "Runbooker", name := "hasRole", desc := "(II)Z" } : Jvm.MethodName)) ∈ lwG := lw_4 16 rfl rfl
theorem gw_4_17 : (Jvm.Cond.code ({ cls := "Runbooker", name := "hasRole", desc := "(II)Z" } : Jvm.MethodName) prog_1_method_20_code (3 : Nat) (Option.some Jvm.ClassFile.FieldType.boolean)) ∈ lwG := lw_4 17 rfl rfl
theorem gw_4_18 : (Jvm.Cond.methodLink "Runbooker" (274 : Nat) ({ cls := "Runbooker", name := "requireRole", desc := "(I)V" } : Jvm.MethodName)) ∈ lwG := lw_4 18 rfl rfl
theorem gw_4_20 : (Jvm.Cond.instanceMethod ({ cls := "Runbooker", name := "requireRole", desc := "(I)V" } : Jvm.MethodName)) ∈ lwG := lw_4 20 rfl rfl
theorem gw_4_21 : (Jvm.Cond.code ({ cls := "Runbooker", name := "requireRole", desc := "(I)V" } : Jvm.MethodName) prog_1_method_57_code (2 : Nat) (Option.none : Option Jvm.ClassFile.FieldType)) ∈ lwG := lw_4 21 rfl rfl
theorem gw_4_23 : (Jvm.Cond.methodLink "RunbookerLaw" (233 : Nat) ({ cls := "RunbookerLaw", name := "workOf", desc := "(LRunbooker;I[J)I" } : Jvm.MethodName)) ∈ lwG := lw_4 23 rfl rfl
theorem gw_4_24 : (Jvm.Cond.static ({ cls := "RunbookerLaw", name := "workOf", desc := "(LRunbooker;I[J)I" } : Jvm.MethodName)) ∈ lwG := lw_4 24 rfl rfl
theorem gw_4_25 : (Jvm.Cond.codeWith ({ cls := "RunbookerLaw", name := "workOf", desc := "(LRunbooker;I[J)I" } : Jvm.MethodName) method_19_code (4 : Nat) (Option.some Jvm.ClassFile.FieldType.int) [((0 : Nat), (9 : Nat), (12 : Nat), (21 : Nat))]) ∈ lwG := lw_4 25 rfl rfl
theorem gw_4_26 : (Jvm.Cond.methodLink "RunbookerLaw" (74 : Nat) ({ cls := "Runbooker", name := "workOf", desc := "(I)I" } : Jvm.MethodName)) ∈ lwG := lw_4 26 rfl rfl
theorem gw_4_27 : (Jvm.Cond.instanceMethod ({ cls := "Runbooker", name := "workOf", desc := "(I)I" } : Jvm.MethodName)) ∈ lwG := lw_4 27 rfl rfl
theorem gw_4_28 : (Jvm.Cond.selects "Runbooker" ({ cls := "Runbooker", name := "workOf", desc := "(I)I" } : Jvm.MethodName) ({ cls := "Runbooker", name := "workOf", desc := "(I)I" } : Jvm.MethodName)) ∈ lwG := lw_4 28 rfl rfl
theorem gw_4_29 : (Jvm.Cond.code ({ cls := "Runbooker", name := "workOf", desc := "(I)I" } : Jvm.MethodName) prog_1_method_21_code (2 : Nat) (Option.some Jvm.ClassFile.FieldType.int)) ∈ lwG := lw_4 29 rfl rfl
theorem gw_4_30 : (Jvm.Cond.methodLink "RunbookerLaw" (236 : Nat) ({ cls := "RunbookerLaw", name := "readingOf", desc := "(LRunbooker;I[J)I" } : Jvm.MethodName)) ∈ lwG := lw_4 30 rfl rfl
theorem gw_4_31 : (Jvm.Cond.static ({ cls := "RunbookerLaw", name := "readingOf", desc := "(LRunbooker;I[J)I" } : Jvm.MethodName)) ∈ lwG := lw_4 31 rfl rfl
theorem gw_4_32 : (Jvm.Cond.codeWith ({ cls := "RunbookerLaw", name := "readingOf", desc := "(LRunbooker;I[J)I" } : Jvm.MethodName) method_20_code (4 : Nat) (Option.some Jvm.ClassFile.FieldType.int) [((0 : Nat), (9 : Nat), (12 : Nat), (13 : Nat))]) ∈ lwG := lw_4 32 rfl rfl
theorem gw_4_33 : (Jvm.Cond.methodLink "RunbookerLaw" (77 : Nat) ({ cls := "Runbooker", name := "readingOf", desc := "(I)I" } : Jvm.MethodName)) ∈ lwG := lw_4 33 rfl rfl
theorem gw_4_34 : (Jvm.Cond.instanceMethod ({ cls := "Runbooker", name := "readingOf", desc := "(I)I" } : Jvm.MethodName)) ∈ lwG := lw_4 34 rfl rfl
theorem gw_4_35 : (Jvm.Cond.selects "Runbooker" ({ cls := "Runbooker", name := "readingOf", desc := "(I)I" } : Jvm.MethodName) ({ cls := "Runbooker", name := "readingOf", desc := "(I)I" } : Jvm.MethodName)) ∈ lwG := lw_4 35 rfl rfl
theorem gw_4_36 : (Jvm.Cond.code ({ cls := "Runbooker", name := "readingOf", desc := "(I)I" } : Jvm.MethodName) prog_1_method_22_code (2 : Nat) (Option.some Jvm.ClassFile.FieldType.int)) ∈ lwG := lw_4 36 rfl rfl
theorem gw_4_38 : (Jvm.Cond.methodLink "RunbookerLaw" (239 : Nat) ({ cls := "RunbookerLaw", name := "doesGuardHold", desc := "(LRunbooker;I[J)I" } : Jvm.MethodName)) ∈ lwG := lw_4 38 rfl rfl
theorem gw_4_39 : (Jvm.Cond.static ({ cls := "RunbookerLaw", name := "doesGuardHold", desc := "(LRunbooker;I[J)I" } : Jvm.MethodName)) ∈ lwG := lw_4 39 rfl rfl
theorem gw_4_40 : (Jvm.Cond.codeWith ({ cls := "RunbookerLaw", name := "doesGuardHold", desc := "(LRunbooker;I[J)I" } : Jvm.MethodName) method_21_code (4 : Nat) (Option.some Jvm.ClassFile.FieldType.int) [((0 : Nat), (16 : Nat), (19 : Nat), (21 : Nat))]) ∈ lwG := lw_4 40 rfl rfl
theorem gw_4_41 : (Jvm.Cond.methodLink "RunbookerLaw" (80 : Nat) ({ cls := "Runbooker", name := "doesGuardHold", desc := "(I)Z" } : Jvm.MethodName)) ∈ lwG := lw_4 41 rfl rfl
theorem gw_4_42 : (Jvm.Cond.instanceMethod ({ cls := "Runbooker", name := "doesGuardHold", desc := "(I)Z" } : Jvm.MethodName)) ∈ lwG := lw_4 42 rfl rfl
theorem gw_4_43 : (Jvm.Cond.selects "Runbooker" ({ cls := "Runbooker", name := "doesGuardHold", desc := "(I)Z" } : Jvm.MethodName) ({ cls := "Runbooker", name := "doesGuardHold", desc := "(I)Z" } : Jvm.MethodName)) ∈ lwG := lw_4 43 rfl rfl
theorem gw_4_44 : (Jvm.Cond.code ({ cls := "Runbooker", name := "doesGuardHold", desc := "(I)Z" } : Jvm.MethodName) prog_1_method_23_code (2 : Nat) (Option.some Jvm.ClassFile.FieldType.boolean)) ∈ lwG := lw_4 44 rfl rfl
theorem gw_4_45 : (Jvm.Cond.methodLink "RunbookerLaw" (242 : Nat) ({ cls := "RunbookerLaw", name := "guardReading", desc := "(LRunbooker;II[J)I" } : Jvm.MethodName)) ∈ lwG := lw_4 45 rfl rfl
theorem gw_4_46 : (Jvm.Cond.static ({ cls := "RunbookerLaw", name := "guardReading", desc := "(LRunbooker;II[J)I" } : Jvm.MethodName)) ∈ lwG := lw_4 46 rfl rfl
theorem gw_4_47 : (Jvm.Cond.codeWith ({ cls := "RunbookerLaw", name := "guardReading", desc := "(LRunbooker;II[J)I" } : Jvm.MethodName) method_22_code (5 : Nat) (Option.some Jvm.ClassFile.FieldType.int) [((0 : Nat), (10 : Nat), (13 : Nat), (21 : Nat)), ((0 : Nat), (10 : Nat), (17 : Nat), (86 : Nat)), ((0 : Nat), (10 : Nat), (21 : Nat), (15 : Nat))]) ∈ lwG := lw_4 47 rfl rfl
theorem gw_4_48 : (Jvm.Cond.classLink "RunbookerLaw" (86 : Nat) "java/lang/IndexOutOfBoundsException") ∈ lwG := lw_4 48 rfl rfl
theorem gw_4_49 : (Jvm.Cond.methodLink "RunbookerLaw" (83 : Nat) ({ cls := "Runbooker", name := "guardReading", desc := "(II)I" } : Jvm.MethodName)) ∈ lwG := lw_4 49 rfl rfl
theorem gw_4_50 : (Jvm.Cond.instanceMethod ({ cls := "Runbooker", name := "guardReading", desc := "(II)I" } : Jvm.MethodName)) ∈ lwG := lw_4 50 rfl rfl
theorem gw_4_51 : (Jvm.Cond.selects "Runbooker" ({ cls := "Runbooker", name := "guardReading", desc := "(II)I" } : Jvm.MethodName) ({ cls := "Runbooker", name := "guardReading", desc := "(II)I" } : Jvm.MethodName)) ∈ lwG := lw_4 51 rfl rfl
theorem gw_4_52 : (Jvm.Cond.code ({ cls := "Runbooker", name := "guardReading", desc := "(II)I" } : Jvm.MethodName) prog_1_method_24_code (3 : Nat) (Option.some Jvm.ClassFile.FieldType.int)) ∈ lwG := lw_4 52 rfl rfl
theorem gw_4_53 : (Jvm.Cond.classLink "Runbooker" (283 : Nat) "java/lang/IndexOutOfBoundsException") ∈ lwG := lw_4 53 rfl rfl
theorem gw_4_54 : (Jvm.Cond.instantiable "java/lang/IndexOutOfBoundsException" (6 : Nat)) ∈ lwG := lw_4 54 rfl rfl
theorem gw_4_56 : (Jvm.Cond.selects "java/lang/IndexOutOfBoundsException" ({ cls := "java/lang/Throwable", name := "fillInStackTrace", desc := "(I)Ljava/lang/Throwable;" } : Jvm.MethodName) ({ cls := "java/lang/Throwable", name := "fillInStackTrace", desc := "(I)Ljava/lang/Throwable;" } : Jvm.MethodName)) ∈ lwG := lw_4 56 rfl rfl
theorem gw_4_57 : (Jvm.Cond.lays "java/lang/IndexOutOfBoundsException" "java/lang/Throwable" "cause" "Ljava/lang/Throwable;") ∈ lwG := lw_4 57 rfl rfl
theorem gw_4_58 : (Jvm.Cond.lays "java/lang/IndexOutOfBoundsException" "java/lang/Throwable" "stackTrace" "[Ljava/lang/StackTraceElement;") ∈ lwG := lw_4 58 rfl rfl
theorem gw_4_59 : (Jvm.Cond.lays "java/lang/IndexOutOfBoundsException" "java/lang/Throwable" "suppressedExceptions" "Ljava/util/List;") ∈ lwG := lw_4 59 rfl rfl
theorem gw_4_60 : (Jvm.Cond.lays "java/lang/IndexOutOfBoundsException" "java/lang/Throwable" "detailMessage" "Ljava/lang/String;") ∈ lwG := lw_4 60 rfl rfl
theorem gw_4_61 : (Jvm.Cond.lays "java/lang/IndexOutOfBoundsException" "java/lang/Throwable" "backtrace" "Ljava/lang/Object;") ∈ lwG := lw_4 61 rfl rfl
theorem gw_4_63 : (Jvm.Cond.methodLink "Runbooker" (287 : Nat) ({ cls := "java/lang/IndexOutOfBoundsException", name := "<init>", desc := "(Ljava/lang/String;)V" } : Jvm.MethodName)) ∈ lwG := lw_4 63 rfl rfl
theorem gw_4_64 : (Jvm.Cond.instanceMethod ({ cls := "java/lang/IndexOutOfBoundsException", name := "<init>", desc := "(Ljava/lang/String;)V" } : Jvm.MethodName)) ∈ lwG := lw_4 64 rfl rfl
theorem gw_4_65 : (Jvm.Cond.code ({ cls := "java/lang/IndexOutOfBoundsException", name := "<init>", desc := "(Ljava/lang/String;)V" } : Jvm.MethodName) prog_18_method_2_code (2 : Nat) (Option.none : Option Jvm.ClassFile.FieldType)) ∈ lwG := lw_4 65 rfl rfl
theorem gw_4_66 : (Jvm.Cond.methodLink "java/lang/IndexOutOfBoundsException" (7 : Nat) ({ cls := "java/lang/RuntimeException", name := "<init>", desc := "(Ljava/lang/String;)V" } : Jvm.MethodName)) ∈ lwG := lw_4 66 rfl rfl
theorem gw_4_67 : (Jvm.Cond.lays "java/lang/IndexOutOfBoundsException" "java/lang/Throwable" "depth" "I") ∈ lwG := lw_4 67 rfl rfl
theorem gw_4_68 : (Jvm.Cond.superclass "java/lang/IndexOutOfBoundsException" "java/lang/RuntimeException") ∈ lwG := lw_4 68 rfl rfl
theorem gw_4_70 : (Jvm.Cond.methodLink "Runbooker" (293 : Nat) ({ cls := "Runbooker$Plan", name := "sensorOf", desc := "(II)I" } : Jvm.MethodName)) ∈ lwG := lw_4 70 rfl rfl
theorem gw_4_71 : (Jvm.Cond.instanceMethod ({ cls := "Runbooker$Plan", name := "sensorOf", desc := "(II)I" } : Jvm.MethodName)) ∈ lwG := lw_4 71 rfl rfl
theorem gw_4_72 : (Jvm.Cond.selects "Runbooker$Plan" ({ cls := "Runbooker$Plan", name := "sensorOf", desc := "(II)I" } : Jvm.MethodName) ({ cls := "Runbooker$Plan", name := "sensorOf", desc := "(II)I" } : Jvm.MethodName)) ∈ lwG := lw_4 72 rfl rfl
theorem gw_4_73 : (Jvm.Cond.code ({ cls := "Runbooker$Plan", name := "sensorOf", desc := "(II)I" } : Jvm.MethodName) prog_5_method_7_code (3 : Nat) (Option.some Jvm.ClassFile.FieldType.int)) ∈ lwG := lw_4 73 rfl rfl
theorem gw_4_74 : (Jvm.Cond.methodLink "Runbooker" (297 : Nat) ({ cls := "Runbooker$Progress", name := "seenReading", desc := "(II)I" } : Jvm.MethodName)) ∈ lwG := lw_4 74 rfl rfl
theorem gw_4_75 : (Jvm.Cond.instanceMethod ({ cls := "Runbooker$Progress", name := "seenReading", desc := "(II)I" } : Jvm.MethodName)) ∈ lwG := lw_4 75 rfl rfl
theorem gw_4_76 : (Jvm.Cond.selects "Runbooker$Progress" ({ cls := "Runbooker$Progress", name := "seenReading", desc := "(II)I" } : Jvm.MethodName) ({ cls := "Runbooker$Progress", name := "seenReading", desc := "(II)I" } : Jvm.MethodName)) ∈ lwG := lw_4 76 rfl rfl
theorem gw_4_77 : (Jvm.Cond.code ({ cls := "Runbooker$Progress", name := "seenReading", desc := "(II)I" } : Jvm.MethodName) prog_6_method_5_code (3 : Nat) (Option.some Jvm.ClassFile.FieldType.int)) ∈ lwG := lw_4 77 rfl rfl
theorem gw_4_78 : (Jvm.Cond.methodLink "RunbookerLaw" (250 : Nat) ({ cls := "RunbookerLaw", name := "stateOf", desc := "(LRunbooker;I[J)I" } : Jvm.MethodName)) ∈ lwG := lw_4 78 rfl rfl
theorem gw_4_79 : (Jvm.Cond.static ({ cls := "RunbookerLaw", name := "stateOf", desc := "(LRunbooker;I[J)I" } : Jvm.MethodName)) ∈ lwG := lw_4 79 rfl rfl
theorem gw_4_80 : (Jvm.Cond.codeWith ({ cls := "RunbookerLaw", name := "stateOf", desc := "(LRunbooker;I[J)I" } : Jvm.MethodName) method_23_code (4 : Nat) (Option.some Jvm.ClassFile.FieldType.int) [((0 : Nat), (9 : Nat), (12 : Nat), (21 : Nat)), ((0 : Nat), (9 : Nat), (15 : Nat), (15 : Nat))]) ∈ lwG := lw_4 80 rfl rfl
theorem gw_4_81 : (Jvm.Cond.methodLink "RunbookerLaw" (88 : Nat) ({ cls := "Runbooker", name := "stateOf", desc := "(I)C" } : Jvm.MethodName)) ∈ lwG := lw_4 81 rfl rfl
theorem gw_4_82 : (Jvm.Cond.instanceMethod ({ cls := "Runbooker", name := "stateOf", desc := "(I)C" } : Jvm.MethodName)) ∈ lwG := lw_4 82 rfl rfl
theorem gw_4_83 : (Jvm.Cond.selects "Runbooker" ({ cls := "Runbooker", name := "stateOf", desc := "(I)C" } : Jvm.MethodName) ({ cls := "Runbooker", name := "stateOf", desc := "(I)C" } : Jvm.MethodName)) ∈ lwG := lw_4 83 rfl rfl
theorem gw_4_84 : (Jvm.Cond.code ({ cls := "Runbooker", name := "stateOf", desc := "(I)C" } : Jvm.MethodName) prog_1_method_26_code (2 : Nat) (Option.some Jvm.ClassFile.FieldType.char)) ∈ lwG := lw_4 84 rfl rfl
theorem gw_4_85 : (Jvm.Cond.methodLink "Runbooker" (300 : Nat) ({ cls := "Runbooker", name := "requireStepOfRun", desc := "(I)V" } : Jvm.MethodName)) ∈ lwG := lw_4 85 rfl rfl
theorem gw_4_87 : (Jvm.Cond.instanceMethod ({ cls := "Runbooker", name := "requireStepOfRun", desc := "(I)V" } : Jvm.MethodName)) ∈ lwG := lw_4 87 rfl rfl
theorem gw_4_88 : (Jvm.Cond.code ({ cls := "Runbooker", name := "requireStepOfRun", desc := "(I)V" } : Jvm.MethodName) prog_1_method_55_code (2 : Nat) (Option.none : Option Jvm.ClassFile.FieldType)) ∈ lwG := lw_4 88 rfl rfl
theorem gw_4_90 : (Jvm.Cond.methodLink "RunbookerLaw" (253 : Nat) ({ cls := "RunbookerLaw", name := "triesOf", desc := "(LRunbooker;I[J)I" } : Jvm.MethodName)) ∈ lwG := lw_4 90 rfl rfl
theorem gw_4_91 : (Jvm.Cond.static ({ cls := "RunbookerLaw", name := "triesOf", desc := "(LRunbooker;I[J)I" } : Jvm.MethodName)) ∈ lwG := lw_4 91 rfl rfl
theorem gw_4_92 : (Jvm.Cond.codeWith ({ cls := "RunbookerLaw", name := "triesOf", desc := "(LRunbooker;I[J)I" } : Jvm.MethodName) method_24_code (4 : Nat) (Option.some Jvm.ClassFile.FieldType.int) [((0 : Nat), (9 : Nat), (12 : Nat), (21 : Nat)), ((0 : Nat), (9 : Nat), (15 : Nat), (15 : Nat))]) ∈ lwG := lw_4 92 rfl rfl
theorem gw_4_93 : (Jvm.Cond.methodLink "RunbookerLaw" (92 : Nat) ({ cls := "Runbooker", name := "triesOf", desc := "(I)I" } : Jvm.MethodName)) ∈ lwG := lw_4 93 rfl rfl
theorem gw_4_94 : (Jvm.Cond.instanceMethod ({ cls := "Runbooker", name := "triesOf", desc := "(I)I" } : Jvm.MethodName)) ∈ lwG := lw_4 94 rfl rfl
theorem gw_4_95 : (Jvm.Cond.selects "Runbooker" ({ cls := "Runbooker", name := "triesOf", desc := "(I)I" } : Jvm.MethodName) ({ cls := "Runbooker", name := "triesOf", desc := "(I)I" } : Jvm.MethodName)) ∈ lwG := lw_4 95 rfl rfl
theorem gw_4_96 : (Jvm.Cond.code ({ cls := "Runbooker", name := "triesOf", desc := "(I)I" } : Jvm.MethodName) prog_1_method_27_code (2 : Nat) (Option.some Jvm.ClassFile.FieldType.int)) ∈ lwG := lw_4 96 rfl rfl
theorem gw_4_97 : (Jvm.Cond.methodLink "RunbookerLaw" (256 : Nat) ({ cls := "RunbookerLaw", name := "isReady", desc := "(LRunbooker;I[J)I" } : Jvm.MethodName)) ∈ lwG := lw_4 97 rfl rfl
theorem gw_4_98 : (Jvm.Cond.static ({ cls := "RunbookerLaw", name := "isReady", desc := "(LRunbooker;I[J)I" } : Jvm.MethodName)) ∈ lwG := lw_4 98 rfl rfl
theorem gw_4_99 : (Jvm.Cond.codeWith ({ cls := "RunbookerLaw", name := "isReady", desc := "(LRunbooker;I[J)I" } : Jvm.MethodName) method_25_code (4 : Nat) (Option.some Jvm.ClassFile.FieldType.int) [((0 : Nat), (16 : Nat), (19 : Nat), (21 : Nat))]) ∈ lwG := lw_4 99 rfl rfl
theorem gw_4_100 : (Jvm.Cond.methodLink "RunbookerLaw" (95 : Nat) ({ cls := "Runbooker", name := "isReady", desc := "(I)Z" } : Jvm.MethodName)) ∈ lwG := lw_4 100 rfl rfl
theorem gw_4_101 : (Jvm.Cond.instanceMethod ({ cls := "Runbooker", name := "isReady", desc := "(I)Z" } : Jvm.MethodName)) ∈ lwG := lw_4 101 rfl rfl
theorem gw_4_102 : (Jvm.Cond.selects "Runbooker" ({ cls := "Runbooker", name := "isReady", desc := "(I)Z" } : Jvm.MethodName) ({ cls := "Runbooker", name := "isReady", desc := "(I)Z" } : Jvm.MethodName)) ∈ lwG := lw_4 102 rfl rfl
theorem gw_4_103 : (Jvm.Cond.code ({ cls := "Runbooker", name := "isReady", desc := "(I)Z" } : Jvm.MethodName) prog_1_method_28_code (2 : Nat) (Option.some Jvm.ClassFile.FieldType.boolean)) ∈ lwG := lw_4 103 rfl rfl
theorem gw_4_104 : (Jvm.Cond.methodLink "RunbookerLaw" (259 : Nat) ({ cls := "RunbookerLaw", name := "whyNot", desc := "(LRunbooker;I[J)I" } : Jvm.MethodName)) ∈ lwG := lw_4 104 rfl rfl
theorem gw_4_105 : (Jvm.Cond.static ({ cls := "RunbookerLaw", name := "whyNot", desc := "(LRunbooker;I[J)I" } : Jvm.MethodName)) ∈ lwG := lw_4 105 rfl rfl
theorem gw_4_106 : (Jvm.Cond.codeWith ({ cls := "RunbookerLaw", name := "whyNot", desc := "(LRunbooker;I[J)I" } : Jvm.MethodName) method_26_code (4 : Nat) (Option.some Jvm.ClassFile.FieldType.int) [((0 : Nat), (9 : Nat), (12 : Nat), (21 : Nat))]) ∈ lwG := lw_4 106 rfl rfl
theorem gw_4_107 : (Jvm.Cond.methodLink "RunbookerLaw" (98 : Nat) ({ cls := "Runbooker", name := "whyNot", desc := "(I)C" } : Jvm.MethodName)) ∈ lwG := lw_4 107 rfl rfl
theorem gw_4_108 : (Jvm.Cond.instanceMethod ({ cls := "Runbooker", name := "whyNot", desc := "(I)C" } : Jvm.MethodName)) ∈ lwG := lw_4 108 rfl rfl
theorem gw_4_109 : (Jvm.Cond.selects "Runbooker" ({ cls := "Runbooker", name := "whyNot", desc := "(I)C" } : Jvm.MethodName) ({ cls := "Runbooker", name := "whyNot", desc := "(I)C" } : Jvm.MethodName)) ∈ lwG := lw_4 109 rfl rfl
theorem gw_4_110 : (Jvm.Cond.code ({ cls := "Runbooker", name := "whyNot", desc := "(I)C" } : Jvm.MethodName) prog_1_method_29_code (2 : Nat) (Option.some Jvm.ClassFile.FieldType.char)) ∈ lwG := lw_4 110 rfl rfl
theorem gw_4_111 : (Jvm.Cond.methodLink "Runbooker" (309 : Nat) ({ cls := "Runbooker", name := "isAnyoneFreeFor", desc := "(I)Z" } : Jvm.MethodName)) ∈ lwG := lw_4 111 rfl rfl
theorem gw_4_113 : (Jvm.Cond.instanceMethod ({ cls := "Runbooker", name := "isAnyoneFreeFor", desc := "(I)Z" } : Jvm.MethodName)) ∈ lwG := lw_4 113 rfl rfl
theorem gw_4_114 : (Jvm.Cond.code ({ cls := "Runbooker", name := "isAnyoneFreeFor", desc := "(I)Z" } : Jvm.MethodName) prog_1_method_73_code (3 : Nat) (Option.some Jvm.ClassFile.FieldType.boolean)) ∈ lwG := lw_4 114 rfl rfl
theorem gw_4_115 : (Jvm.Cond.methodLink "RunbookerLaw" (266 : Nat) ({ cls := "RunbookerLaw", name := "nextStep", desc := "(LRunbooker;I[J)I" } : Jvm.MethodName)) ∈ lwG := lw_4 115 rfl rfl
theorem gw_4_116 : (Jvm.Cond.static ({ cls := "RunbookerLaw", name := "nextStep", desc := "(LRunbooker;I[J)I" } : Jvm.MethodName)) ∈ lwG := lw_4 116 rfl rfl
theorem gw_4_117 : (Jvm.Cond.codeWith ({ cls := "RunbookerLaw", name := "nextStep", desc := "(LRunbooker;I[J)I" } : Jvm.MethodName) method_27_code (4 : Nat) (Option.some Jvm.ClassFile.FieldType.int) [((0 : Nat), (9 : Nat), (12 : Nat), (21 : Nat)), ((0 : Nat), (9 : Nat), (15 : Nat), (15 : Nat))]) ∈ lwG := lw_4 117 rfl rfl
theorem gw_4_118 : (Jvm.Cond.methodLink "RunbookerLaw" (101 : Nat) ({ cls := "Runbooker", name := "nextStep", desc := "(I)I" } : Jvm.MethodName)) ∈ lwG := lw_4 118 rfl rfl
theorem gw_4_119 : (Jvm.Cond.instanceMethod ({ cls := "Runbooker", name := "nextStep", desc := "(I)I" } : Jvm.MethodName)) ∈ lwG := lw_4 119 rfl rfl
theorem gw_4_120 : (Jvm.Cond.selects "Runbooker" ({ cls := "Runbooker", name := "nextStep", desc := "(I)I" } : Jvm.MethodName) ({ cls := "Runbooker", name := "nextStep", desc := "(I)I" } : Jvm.MethodName)) ∈ lwG := lw_4 120 rfl rfl
theorem gw_4_121 : (Jvm.Cond.code ({ cls := "Runbooker", name := "nextStep", desc := "(I)I" } : Jvm.MethodName) prog_1_method_31_code (3 : Nat) (Option.some Jvm.ClassFile.FieldType.int)) ∈ lwG := lw_4 121 rfl rfl
theorem gw_4_122 : (Jvm.Cond.methodLink "Runbooker" (312 : Nat) ({ cls := "Runbooker", name := "mostUrgentFor", desc := "(I)I" } : Jvm.MethodName)) ∈ lwG := lw_4 122 rfl rfl
theorem gw_4_124 : (Jvm.Cond.instanceMethod ({ cls := "Runbooker", name := "mostUrgentFor", desc := "(I)I" } : Jvm.MethodName)) ∈ lwG := lw_4 124 rfl rfl
theorem gw_4_125 : (Jvm.Cond.code ({ cls := "Runbooker", name := "mostUrgentFor", desc := "(I)I" } : Jvm.MethodName) prog_1_method_80_code (5 : Nat) (Option.some Jvm.ClassFile.FieldType.int)) ∈ lwG := lw_4 125 rfl rfl
theorem gw_4_126 : (Jvm.Cond.methodLink "Runbooker" (324 : Nat) ({ cls := "Runbooker$Plan", name := "sweepRests", desc := "()V" } : Jvm.MethodName)) ∈ lwG := lw_4 126 rfl rfl
theorem gw_4_127 : (Jvm.Cond.instanceMethod ({ cls := "Runbooker$Plan", name := "sweepRests", desc := "()V" } : Jvm.MethodName)) ∈ lwG := lw_4 127 rfl rfl
theorem gw_4_128 : (Jvm.Cond.selects "Runbooker$Plan" ({ cls := "Runbooker$Plan", name := "sweepRests", desc := "()V" } : Jvm.MethodName) ({ cls := "Runbooker$Plan", name := "sweepRests", desc := "()V" } : Jvm.MethodName)) ∈ lwG := lw_4 128 rfl rfl
theorem gw_4_129 : (Jvm.Cond.code ({ cls := "Runbooker$Plan", name := "sweepRests", desc := "()V" } : Jvm.MethodName) prog_5_method_11_code (4 : Nat) (Option.none : Option Jvm.ClassFile.FieldType)) ∈ lwG := lw_4 129 rfl rfl
theorem gw_4_130 : (Jvm.Cond.methodLink "Runbooker$Plan" (62 : Nat) ({ cls := "Runbooker$Plan", name := "doesNeed", desc := "(II)Z" } : Jvm.MethodName)) ∈ lwG := lw_4 130 rfl rfl
theorem gw_4_131 : (Jvm.Cond.methodLink "Runbooker$Plan" (66 : Nat) ({ cls := "java/lang/Math", name := "max", desc := "(II)I" } : Jvm.MethodName)) ∈ lwG := lw_4 131 rfl rfl
theorem gw_4_132 : (Jvm.Cond.static ({ cls := "java/lang/Math", name := "max", desc := "(II)I" } : Jvm.MethodName)) ∈ lwG := lw_4 132 rfl rfl
theorem gw_4_133 : (Jvm.Cond.code ({ cls := "java/lang/Math", name := "max", desc := "(II)I" } : Jvm.MethodName) prog_20_method_65_code (2 : Nat) (Option.some Jvm.ClassFile.FieldType.int)) ∈ lwG := lw_4 133 rfl rfl
theorem gw_4_135 : (Jvm.Cond.methodLink "RunbookerLaw" (269 : Nat) ({ cls := "RunbookerLaw", name := "restOf", desc := "(LRunbooker;I[J)I" } : Jvm.MethodName)) ∈ lwG := lw_4 135 rfl rfl
theorem gw_4_136 : (Jvm.Cond.static ({ cls := "RunbookerLaw", name := "restOf", desc := "(LRunbooker;I[J)I" } : Jvm.MethodName)) ∈ lwG := lw_4 136 rfl rfl
theorem gw_4_137 : (Jvm.Cond.codeWith ({ cls := "RunbookerLaw", name := "restOf", desc := "(LRunbooker;I[J)I" } : Jvm.MethodName) method_28_code (4 : Nat) (Option.some Jvm.ClassFile.FieldType.int) [((0 : Nat), (9 : Nat), (12 : Nat), (21 : Nat))]) ∈ lwG := lw_4 137 rfl rfl
theorem gw_4_138 : (Jvm.Cond.methodLink "RunbookerLaw" (104 : Nat) ({ cls := "Runbooker", name := "restOf", desc := "(I)I" } : Jvm.MethodName)) ∈ lwG := lw_4 138 rfl rfl
theorem gw_4_139 : (Jvm.Cond.instanceMethod ({ cls := "Runbooker", name := "restOf", desc := "(I)I" } : Jvm.MethodName)) ∈ lwG := lw_4 139 rfl rfl
theorem gw_4_140 : (Jvm.Cond.selects "Runbooker" ({ cls := "Runbooker", name := "restOf", desc := "(I)I" } : Jvm.MethodName) ({ cls := "Runbooker", name := "restOf", desc := "(I)I" } : Jvm.MethodName)) ∈ lwG := lw_4 140 rfl rfl
theorem gw_4_141 : (Jvm.Cond.code ({ cls := "Runbooker", name := "restOf", desc := "(I)I" } : Jvm.MethodName) prog_1_method_32_code (2 : Nat) (Option.some Jvm.ClassFile.FieldType.int)) ∈ lwG := lw_4 141 rfl rfl
theorem gw_4_142 : (Jvm.Cond.methodLink "Runbooker" (317 : Nat) ({ cls := "Runbooker$Plan", name := "forgetRests", desc := "()V" } : Jvm.MethodName)) ∈ lwG := lw_4 142 rfl rfl
theorem gw_4_143 : (Jvm.Cond.instanceMethod ({ cls := "Runbooker$Plan", name := "forgetRests", desc := "()V" } : Jvm.MethodName)) ∈ lwG := lw_4 143 rfl rfl
theorem gw_4_144 : (Jvm.Cond.selects "Runbooker$Plan" ({ cls := "Runbooker$Plan", name := "forgetRests", desc := "()V" } : Jvm.MethodName) ({ cls := "Runbooker$Plan", name := "forgetRests", desc := "()V" } : Jvm.MethodName)) ∈ lwG := lw_4 144 rfl rfl
theorem gw_4_145 : (Jvm.Cond.code ({ cls := "Runbooker$Plan", name := "forgetRests", desc := "()V" } : Jvm.MethodName) prog_5_method_10_code (2 : Nat) (Option.none : Option Jvm.ClassFile.FieldType)) ∈ lwG := lw_4 145 rfl rfl
theorem gw_4_146 : (Jvm.Cond.methodLink "Runbooker" (320 : Nat) ({ cls := "Runbooker", name := "recursiveRest", desc := "(LRunbooker$Plan;II)I" } : Jvm.MethodName)) ∈ lwG := lw_4 146 rfl rfl
theorem gw_4_147 : (Jvm.Cond.static ({ cls := "Runbooker", name := "recursiveRest", desc := "(LRunbooker$Plan;II)I" } : Jvm.MethodName)) ∈ lwG := lw_4 147 rfl rfl
theorem gw_4_148 : (Jvm.Cond.code ({ cls := "Runbooker", name := "recursiveRest", desc := "(LRunbooker$Plan;II)I" } : Jvm.MethodName) prog_1_method_81_code (5 : Nat) (Option.some Jvm.ClassFile.FieldType.int)) ∈ lwG := lw_4 148 rfl rfl
theorem gw_4_149 : (Jvm.Cond.methodLink "Runbooker" (462 : Nat) ({ cls := "java/lang/Math", name := "max", desc := "(II)I" } : Jvm.MethodName)) ∈ lwG := lw_4 149 rfl rfl
theorem gw_4_150 : (Jvm.Cond.methodLink "RunbookerLaw" (272 : Nat) ({ cls := "RunbookerLaw", name := "restBySweep", desc := "(LRunbooker;I[J)I" } : Jvm.MethodName)) ∈ lwG := lw_4 150 rfl rfl
theorem gw_4_151 : (Jvm.Cond.static ({ cls := "RunbookerLaw", name := "restBySweep", desc := "(LRunbooker;I[J)I" } : Jvm.MethodName)) ∈ lwG := lw_4 151 rfl rfl
theorem gw_4_152 : (Jvm.Cond.codeWith ({ cls := "RunbookerLaw", name := "restBySweep", desc := "(LRunbooker;I[J)I" } : Jvm.MethodName) method_29_code (4 : Nat) (Option.some Jvm.ClassFile.FieldType.int) [((0 : Nat), (9 : Nat), (12 : Nat), (21 : Nat))]) ∈ lwG := lw_4 152 rfl rfl
theorem gw_4_153 : (Jvm.Cond.methodLink "RunbookerLaw" (107 : Nat) ({ cls := "Runbooker", name := "restBySweep", desc := "(I)I" } : Jvm.MethodName)) ∈ lwG := lw_4 153 rfl rfl
theorem gw_4_154 : (Jvm.Cond.instanceMethod ({ cls := "Runbooker", name := "restBySweep", desc := "(I)I" } : Jvm.MethodName)) ∈ lwG := lw_4 154 rfl rfl
theorem gw_4_155 : (Jvm.Cond.selects "Runbooker" ({ cls := "Runbooker", name := "restBySweep", desc := "(I)I" } : Jvm.MethodName) ({ cls := "Runbooker", name := "restBySweep", desc := "(I)I" } : Jvm.MethodName)) ∈ lwG := lw_4 155 rfl rfl
theorem gw_4_156 : (Jvm.Cond.code ({ cls := "Runbooker", name := "restBySweep", desc := "(I)I" } : Jvm.MethodName) prog_1_method_33_code (2 : Nat) (Option.some Jvm.ClassFile.FieldType.int)) ∈ lwG := lw_4 156 rfl rfl
theorem gw_4_157 : (Jvm.Cond.methodLink "RunbookerLaw" (275 : Nat) ({ cls := "RunbookerLaw", name := "isSettled", desc := "(LRunbooker;I[J)I" } : Jvm.MethodName)) ∈ lwG := lw_4 157 rfl rfl
theorem gw_4_158 : (Jvm.Cond.static ({ cls := "RunbookerLaw", name := "isSettled", desc := "(LRunbooker;I[J)I" } : Jvm.MethodName)) ∈ lwG := lw_4 158 rfl rfl
theorem gw_4_159 : (Jvm.Cond.codeWith ({ cls := "RunbookerLaw", name := "isSettled", desc := "(LRunbooker;I[J)I" } : Jvm.MethodName) method_30_code (4 : Nat) (Option.some Jvm.ClassFile.FieldType.int) [((0 : Nat), (16 : Nat), (19 : Nat), (21 : Nat))]) ∈ lwG := lw_4 159 rfl rfl
theorem gw_4_160 : (Jvm.Cond.methodLink "RunbookerLaw" (110 : Nat) ({ cls := "Runbooker", name := "isSettled", desc := "(I)Z" } : Jvm.MethodName)) ∈ lwG := lw_4 160 rfl rfl
theorem gw_4_161 : (Jvm.Cond.instanceMethod ({ cls := "Runbooker", name := "isSettled", desc := "(I)Z" } : Jvm.MethodName)) ∈ lwG := lw_4 161 rfl rfl
theorem gw_4_162 : (Jvm.Cond.selects "Runbooker" ({ cls := "Runbooker", name := "isSettled", desc := "(I)Z" } : Jvm.MethodName) ({ cls := "Runbooker", name := "isSettled", desc := "(I)Z" } : Jvm.MethodName)) ∈ lwG := lw_4 162 rfl rfl
theorem gw_4_163 : (Jvm.Cond.code ({ cls := "Runbooker", name := "isSettled", desc := "(I)Z" } : Jvm.MethodName) prog_1_method_34_code (2 : Nat) (Option.some Jvm.ClassFile.FieldType.boolean)) ∈ lwG := lw_4 163 rfl rfl
theorem gw_4_164 : (Jvm.Cond.methodLink "RunbookerLaw" (286 : Nat) ({ cls := "RunbookerLaw", name := "handoverEnd", desc := "(LRunbooker;[J)I" } : Jvm.MethodName)) ∈ lwG := lw_4 164 rfl rfl
theorem gw_4_165 : (Jvm.Cond.static ({ cls := "RunbookerLaw", name := "handoverEnd", desc := "(LRunbooker;[J)I" } : Jvm.MethodName)) ∈ lwG := lw_4 165 rfl rfl
theorem gw_4_166 : (Jvm.Cond.codeWith ({ cls := "RunbookerLaw", name := "handoverEnd", desc := "(LRunbooker;[J)I" } : Jvm.MethodName) method_31_code (3 : Nat) (Option.some Jvm.ClassFile.FieldType.int) [((0 : Nat), (8 : Nat), (11 : Nat), (15 : Nat))]) ∈ lwG := lw_4 166 rfl rfl
theorem gw_4_167 : (Jvm.Cond.methodLink "RunbookerLaw" (113 : Nat) ({ cls := "Runbooker", name := "handoverEnd", desc := "()I" } : Jvm.MethodName)) ∈ lwG := lw_4 167 rfl rfl
theorem gw_4_168 : (Jvm.Cond.instanceMethod ({ cls := "Runbooker", name := "handoverEnd", desc := "()I" } : Jvm.MethodName)) ∈ lwG := lw_4 168 rfl rfl
theorem gw_4_169 : (Jvm.Cond.selects "Runbooker" ({ cls := "Runbooker", name := "handoverEnd", desc := "()I" } : Jvm.MethodName) ({ cls := "Runbooker", name := "handoverEnd", desc := "()I" } : Jvm.MethodName)) ∈ lwG := lw_4 169 rfl rfl
theorem gw_4_170 : (Jvm.Cond.code ({ cls := "Runbooker", name := "handoverEnd", desc := "()I" } : Jvm.MethodName) prog_1_method_37_code (1 : Nat) (Option.some Jvm.ClassFile.FieldType.int)) ∈ lwG := lw_4 170 rfl rfl
theorem gw_4_172 : (Jvm.Cond.methodLink "RunbookerLaw" (289 : Nat) ({ cls := "RunbookerLaw", name := "isPaused", desc := "(LRunbooker;I[J)I" } : Jvm.MethodName)) ∈ lwG := lw_4 172 rfl rfl
theorem gw_4_173 : (Jvm.Cond.static ({ cls := "RunbookerLaw", name := "isPaused", desc := "(LRunbooker;I[J)I" } : Jvm.MethodName)) ∈ lwG := lw_4 173 rfl rfl
theorem gw_4_174 : (Jvm.Cond.codeWith ({ cls := "RunbookerLaw", name := "isPaused", desc := "(LRunbooker;I[J)I" } : Jvm.MethodName) method_32_code (4 : Nat) (Option.some Jvm.ClassFile.FieldType.int) [((0 : Nat), (16 : Nat), (19 : Nat), (13 : Nat))]) ∈ lwG := lw_4 174 rfl rfl
theorem gw_4_175 : (Jvm.Cond.methodLink "RunbookerLaw" (116 : Nat) ({ cls := "Runbooker", name := "isPaused", desc := "(I)Z" } : Jvm.MethodName)) ∈ lwG := lw_4 175 rfl rfl
theorem gw_4_176 : (Jvm.Cond.instanceMethod ({ cls := "Runbooker", name := "isPaused", desc := "(I)Z" } : Jvm.MethodName)) ∈ lwG := lw_4 176 rfl rfl
theorem gw_4_177 : (Jvm.Cond.selects "Runbooker" ({ cls := "Runbooker", name := "isPaused", desc := "(I)Z" } : Jvm.MethodName) ({ cls := "Runbooker", name := "isPaused", desc := "(I)Z" } : Jvm.MethodName)) ∈ lwG := lw_4 177 rfl rfl
theorem gw_4_178 : (Jvm.Cond.code ({ cls := "Runbooker", name := "isPaused", desc := "(I)Z" } : Jvm.MethodName) prog_1_method_38_code (2 : Nat) (Option.some Jvm.ClassFile.FieldType.boolean)) ∈ lwG := lw_4 178 rfl rfl
theorem gw_4_179 : (Jvm.Cond.methodLink "RunbookerLaw" (292 : Nat) ({ cls := "RunbookerLaw", name := "workedOn", desc := "(LRunbooker;I[J)I" } : Jvm.MethodName)) ∈ lwG := lw_4 179 rfl rfl
theorem gw_4_180 : (Jvm.Cond.static ({ cls := "RunbookerLaw", name := "workedOn", desc := "(LRunbooker;I[J)I" } : Jvm.MethodName)) ∈ lwG := lw_4 180 rfl rfl
theorem gw_4_181 : (Jvm.Cond.codeWith ({ cls := "RunbookerLaw", name := "workedOn", desc := "(LRunbooker;I[J)I" } : Jvm.MethodName) method_33_code (4 : Nat) (Option.some Jvm.ClassFile.FieldType.int) [((0 : Nat), (9 : Nat), (12 : Nat), (21 : Nat)), ((0 : Nat), (9 : Nat), (15 : Nat), (15 : Nat))]) ∈ lwG := lw_4 181 rfl rfl
theorem gw_4_182 : (Jvm.Cond.methodLink "RunbookerLaw" (119 : Nat) ({ cls := "Runbooker", name := "workedOn", desc := "(I)I" } : Jvm.MethodName)) ∈ lwG := lw_4 182 rfl rfl
theorem gw_4_183 : (Jvm.Cond.instanceMethod ({ cls := "Runbooker", name := "workedOn", desc := "(I)I" } : Jvm.MethodName)) ∈ lwG := lw_4 183 rfl rfl
theorem gw_4_184 : (Jvm.Cond.selects "Runbooker" ({ cls := "Runbooker", name := "workedOn", desc := "(I)I" } : Jvm.MethodName) ({ cls := "Runbooker", name := "workedOn", desc := "(I)I" } : Jvm.MethodName)) ∈ lwG := lw_4 184 rfl rfl
theorem gw_4_185 : (Jvm.Cond.code ({ cls := "Runbooker", name := "workedOn", desc := "(I)I" } : Jvm.MethodName) prog_1_method_39_code (2 : Nat) (Option.some Jvm.ClassFile.FieldType.int)) ∈ lwG := lw_4 185 rfl rfl
theorem gw_4_187 : (Jvm.Cond.methodLink "RunbookerLaw" (295 : Nat) ({ cls := "RunbookerLaw", name := "lastDone", desc := "(LRunbooker;[J)I" } : Jvm.MethodName)) ∈ lwG := lw_4 187 rfl rfl
theorem gw_4_188 : (Jvm.Cond.static ({ cls := "RunbookerLaw", name := "lastDone", desc := "(LRunbooker;[J)I" } : Jvm.MethodName)) ∈ lwG := lw_4 188 rfl rfl
theorem gw_4_189 : (Jvm.Cond.codeWith ({ cls := "RunbookerLaw", name := "lastDone", desc := "(LRunbooker;[J)I" } : Jvm.MethodName) method_34_code (3 : Nat) (Option.some Jvm.ClassFile.FieldType.int) [((0 : Nat), (8 : Nat), (11 : Nat), (15 : Nat))]) ∈ lwG := lw_4 189 rfl rfl
theorem gw_4_190 : (Jvm.Cond.methodLink "RunbookerLaw" (122 : Nat) ({ cls := "Runbooker", name := "lastDone", desc := "()I" } : Jvm.MethodName)) ∈ lwG := lw_4 190 rfl rfl
theorem gw_4_191 : (Jvm.Cond.instanceMethod ({ cls := "Runbooker", name := "lastDone", desc := "()I" } : Jvm.MethodName)) ∈ lwG := lw_4 191 rfl rfl
theorem gw_4_192 : (Jvm.Cond.selects "Runbooker" ({ cls := "Runbooker", name := "lastDone", desc := "()I" } : Jvm.MethodName) ({ cls := "Runbooker", name := "lastDone", desc := "()I" } : Jvm.MethodName)) ∈ lwG := lw_4 192 rfl rfl
theorem gw_4_193 : (Jvm.Cond.code ({ cls := "Runbooker", name := "lastDone", desc := "()I" } : Jvm.MethodName) prog_1_method_40_code (2 : Nat) (Option.some Jvm.ClassFile.FieldType.int)) ∈ lwG := lw_4 193 rfl rfl
theorem gw_4_194 : (Jvm.Cond.methodLink "Runbooker" (340 : Nat) ({ cls := "Runbooker$Progress", name := "latestDone", desc := "()I" } : Jvm.MethodName)) ∈ lwG := lw_4 194 rfl rfl
theorem gw_4_196 : (Jvm.Cond.methodLink "RunbookerLaw" (302 : Nat) ({ cls := "RunbookerLaw", name := "signAt", desc := "(LRunbooker;I[J)I" } : Jvm.MethodName)) ∈ lwG := lw_4 196 rfl rfl
theorem gw_4_197 : (Jvm.Cond.static ({ cls := "RunbookerLaw", name := "signAt", desc := "(LRunbooker;I[J)I" } : Jvm.MethodName)) ∈ lwG := lw_4 197 rfl rfl
theorem gw_4_198 : (Jvm.Cond.codeWith ({ cls := "RunbookerLaw", name := "signAt", desc := "(LRunbooker;I[J)I" } : Jvm.MethodName) method_35_code (4 : Nat) (Option.some Jvm.ClassFile.FieldType.int) [((0 : Nat), (9 : Nat), (12 : Nat), (21 : Nat))]) ∈ lwG := lw_4 198 rfl rfl
theorem gw_4_199 : (Jvm.Cond.methodLink "RunbookerLaw" (125 : Nat) ({ cls := "Runbooker", name := "signAt", desc := "(I)C" } : Jvm.MethodName)) ∈ lwG := lw_4 199 rfl rfl
theorem gw_4_200 : (Jvm.Cond.instanceMethod ({ cls := "Runbooker", name := "signAt", desc := "(I)C" } : Jvm.MethodName)) ∈ lwG := lw_4 200 rfl rfl
theorem gw_4_201 : (Jvm.Cond.selects "Runbooker" ({ cls := "Runbooker", name := "signAt", desc := "(I)C" } : Jvm.MethodName) ({ cls := "Runbooker", name := "signAt", desc := "(I)C" } : Jvm.MethodName)) ∈ lwG := lw_4 201 rfl rfl
theorem gw_4_202 : (Jvm.Cond.code ({ cls := "Runbooker", name := "signAt", desc := "(I)C" } : Jvm.MethodName) prog_1_method_42_code (2 : Nat) (Option.some Jvm.ClassFile.FieldType.char)) ∈ lwG := lw_4 202 rfl rfl
theorem gw_4_203 : (Jvm.Cond.methodLink "Runbooker" (345 : Nat) ({ cls := "Runbooker", name := "requireEntry", desc := "(I)V" } : Jvm.MethodName)) ∈ lwG := lw_4 203 rfl rfl
theorem gw_4_205 : (Jvm.Cond.instanceMethod ({ cls := "Runbooker", name := "requireEntry", desc := "(I)V" } : Jvm.MethodName)) ∈ lwG := lw_4 205 rfl rfl
theorem gw_4_206 : (Jvm.Cond.code ({ cls := "Runbooker", name := "requireEntry", desc := "(I)V" } : Jvm.MethodName) prog_1_method_56_code (2 : Nat) (Option.none : Option Jvm.ClassFile.FieldType)) ∈ lwG := lw_4 206 rfl rfl
theorem gw_4_207 : (Jvm.Cond.methodLink "Runbooker" (406 : Nat) ({ cls := "Runbooker$Journal", name := "has", desc := "(I)Z" } : Jvm.MethodName)) ∈ lwG := lw_4 207 rfl rfl
theorem gw_4_208 : (Jvm.Cond.instanceMethod ({ cls := "Runbooker$Journal", name := "has", desc := "(I)Z" } : Jvm.MethodName)) ∈ lwG := lw_4 208 rfl rfl
theorem gw_4_209 : (Jvm.Cond.selects "Runbooker$Journal" ({ cls := "Runbooker$Journal", name := "has", desc := "(I)Z" } : Jvm.MethodName) ({ cls := "Runbooker$Journal", name := "has", desc := "(I)Z" } : Jvm.MethodName)) ∈ lwG := lw_4 209 rfl rfl
theorem gw_4_210 : (Jvm.Cond.code ({ cls := "Runbooker$Journal", name := "has", desc := "(I)Z" } : Jvm.MethodName) prog_4_method_2_code (2 : Nat) (Option.some Jvm.ClassFile.FieldType.boolean)) ∈ lwG := lw_4 210 rfl rfl
theorem gw_4_212 : (Jvm.Cond.methodLink "RunbookerLaw" (305 : Nat) ({ cls := "RunbookerLaw", name := "stepAt", desc := "(LRunbooker;I[J)I" } : Jvm.MethodName)) ∈ lwG := lw_4 212 rfl rfl
theorem gw_4_213 : (Jvm.Cond.static ({ cls := "RunbookerLaw", name := "stepAt", desc := "(LRunbooker;I[J)I" } : Jvm.MethodName)) ∈ lwG := lw_4 213 rfl rfl
theorem gw_4_214 : (Jvm.Cond.codeWith ({ cls := "RunbookerLaw", name := "stepAt", desc := "(LRunbooker;I[J)I" } : Jvm.MethodName) method_36_code (4 : Nat) (Option.some Jvm.ClassFile.FieldType.int) [((0 : Nat), (9 : Nat), (12 : Nat), (21 : Nat))]) ∈ lwG := lw_4 214 rfl rfl
theorem gw_4_215 : (Jvm.Cond.methodLink "RunbookerLaw" (128 : Nat) ({ cls := "Runbooker", name := "stepAt", desc := "(I)I" } : Jvm.MethodName)) ∈ lwG := lw_4 215 rfl rfl
theorem gw_4_216 : (Jvm.Cond.instanceMethod ({ cls := "Runbooker", name := "stepAt", desc := "(I)I" } : Jvm.MethodName)) ∈ lwG := lw_4 216 rfl rfl
theorem gw_4_217 : (Jvm.Cond.selects "Runbooker" ({ cls := "Runbooker", name := "stepAt", desc := "(I)I" } : Jvm.MethodName) ({ cls := "Runbooker", name := "stepAt", desc := "(I)I" } : Jvm.MethodName)) ∈ lwG := lw_4 217 rfl rfl
theorem gw_4_218 : (Jvm.Cond.code ({ cls := "Runbooker", name := "stepAt", desc := "(I)I" } : Jvm.MethodName) prog_1_method_43_code (2 : Nat) (Option.some Jvm.ClassFile.FieldType.int)) ∈ lwG := lw_4 218 rfl rfl
theorem gw_4_219 : (Jvm.Cond.methodLink "RunbookerLaw" (308 : Nat) ({ cls := "RunbookerLaw", name := "personAt", desc := "(LRunbooker;I[J)I" } : Jvm.MethodName)) ∈ lwG := lw_4 219 rfl rfl
theorem gw_4_220 : (Jvm.Cond.static ({ cls := "RunbookerLaw", name := "personAt", desc := "(LRunbooker;I[J)I" } : Jvm.MethodName)) ∈ lwG := lw_4 220 rfl rfl
theorem gw_4_221 : (Jvm.Cond.codeWith ({ cls := "RunbookerLaw", name := "personAt", desc := "(LRunbooker;I[J)I" } : Jvm.MethodName) method_37_code (4 : Nat) (Option.some Jvm.ClassFile.FieldType.int) [((0 : Nat), (9 : Nat), (12 : Nat), (21 : Nat))]) ∈ lwG := lw_4 221 rfl rfl
theorem gw_4_222 : (Jvm.Cond.methodLink "RunbookerLaw" (131 : Nat) ({ cls := "Runbooker", name := "personAt", desc := "(I)I" } : Jvm.MethodName)) ∈ lwG := lw_4 222 rfl rfl
theorem gw_4_223 : (Jvm.Cond.instanceMethod ({ cls := "Runbooker", name := "personAt", desc := "(I)I" } : Jvm.MethodName)) ∈ lwG := lw_4 223 rfl rfl
theorem gw_4_224 : (Jvm.Cond.selects "Runbooker" ({ cls := "Runbooker", name := "personAt", desc := "(I)I" } : Jvm.MethodName) ({ cls := "Runbooker", name := "personAt", desc := "(I)I" } : Jvm.MethodName)) ∈ lwG := lw_4 224 rfl rfl
theorem gw_4_225 : (Jvm.Cond.code ({ cls := "Runbooker", name := "personAt", desc := "(I)I" } : Jvm.MethodName) prog_1_method_44_code (2 : Nat) (Option.some Jvm.ClassFile.FieldType.int)) ∈ lwG := lw_4 225 rfl rfl
theorem gw_4_226 : (Jvm.Cond.methodLink "RunbookerLaw" (311 : Nat) ({ cls := "RunbookerLaw", name := "minuteAt", desc := "(LRunbooker;I[J)I" } : Jvm.MethodName)) ∈ lwG := lw_4 226 rfl rfl
theorem gw_4_227 : (Jvm.Cond.static ({ cls := "RunbookerLaw", name := "minuteAt", desc := "(LRunbooker;I[J)I" } : Jvm.MethodName)) ∈ lwG := lw_4 227 rfl rfl
theorem gw_4_228 : (Jvm.Cond.codeWith ({ cls := "RunbookerLaw", name := "minuteAt", desc := "(LRunbooker;I[J)I" } : Jvm.MethodName) method_38_code (4 : Nat) (Option.some Jvm.ClassFile.FieldType.int) [((0 : Nat), (9 : Nat), (12 : Nat), (21 : Nat))]) ∈ lwG := lw_4 228 rfl rfl
theorem gw_4_229 : (Jvm.Cond.methodLink "RunbookerLaw" (134 : Nat) ({ cls := "Runbooker", name := "minuteAt", desc := "(I)I" } : Jvm.MethodName)) ∈ lwG := lw_4 229 rfl rfl
theorem gw_4_230 : (Jvm.Cond.instanceMethod ({ cls := "Runbooker", name := "minuteAt", desc := "(I)I" } : Jvm.MethodName)) ∈ lwG := lw_4 230 rfl rfl
theorem gw_4_231 : (Jvm.Cond.selects "Runbooker" ({ cls := "Runbooker", name := "minuteAt", desc := "(I)I" } : Jvm.MethodName) ({ cls := "Runbooker", name := "minuteAt", desc := "(I)I" } : Jvm.MethodName)) ∈ lwG := lw_4 231 rfl rfl
theorem gw_4_232 : (Jvm.Cond.code ({ cls := "Runbooker", name := "minuteAt", desc := "(I)I" } : Jvm.MethodName) prog_1_method_45_code (2 : Nat) (Option.some Jvm.ClassFile.FieldType.int)) ∈ lwG := lw_4 232 rfl rfl
theorem gw_4_233 : (Jvm.Cond.methodLink "RunbookerLaw" (314 : Nat) ({ cls := "RunbookerLaw", name := "stateByLog", desc := "(LRunbooker;I[J)I" } : Jvm.MethodName)) ∈ lwG := lw_4 233 rfl rfl
theorem gw_4_234 : (Jvm.Cond.static ({ cls := "RunbookerLaw", name := "stateByLog", desc := "(LRunbooker;I[J)I" } : Jvm.MethodName)) ∈ lwG := lw_4 234 rfl rfl
theorem gw_4_235 : (Jvm.Cond.codeWith ({ cls := "RunbookerLaw", name := "stateByLog", desc := "(LRunbooker;I[J)I" } : Jvm.MethodName) method_39_code (4 : Nat) (Option.some Jvm.ClassFile.FieldType.int) [((0 : Nat), (9 : Nat), (12 : Nat), (21 : Nat)), ((0 : Nat), (9 : Nat), (15 : Nat), (15 : Nat))]) ∈ lwG := lw_4 235 rfl rfl
theorem gw_4_236 : (Jvm.Cond.methodLink "RunbookerLaw" (137 : Nat) ({ cls := "Runbooker", name := "stateByLog", desc := "(I)C" } : Jvm.MethodName)) ∈ lwG := lw_4 236 rfl rfl
theorem gw_4_237 : (Jvm.Cond.instanceMethod ({ cls := "Runbooker", name := "stateByLog", desc := "(I)C" } : Jvm.MethodName)) ∈ lwG := lw_4 237 rfl rfl
theorem gw_4_238 : (Jvm.Cond.selects "Runbooker" ({ cls := "Runbooker", name := "stateByLog", desc := "(I)C" } : Jvm.MethodName) ({ cls := "Runbooker", name := "stateByLog", desc := "(I)C" } : Jvm.MethodName)) ∈ lwG := lw_4 238 rfl rfl
theorem gw_4_239 : (Jvm.Cond.code ({ cls := "Runbooker", name := "stateByLog", desc := "(I)C" } : Jvm.MethodName) prog_1_method_46_code (2 : Nat) (Option.some Jvm.ClassFile.FieldType.char)) ∈ lwG := lw_4 239 rfl rfl
theorem gw_5_0 : (Jvm.Cond.methodLink "Runbooker" (363 : Nat) ({ cls := "Runbooker$Journal", name := "lastState", desc := "(IC)C" } : Jvm.MethodName)) ∈ lwG := lw_5 0 rfl rfl
theorem gw_5_1 : (Jvm.Cond.instanceMethod ({ cls := "Runbooker$Journal", name := "lastState", desc := "(IC)C" } : Jvm.MethodName)) ∈ lwG := lw_5 1 rfl rfl
theorem gw_5_2 : (Jvm.Cond.selects "Runbooker$Journal" ({ cls := "Runbooker$Journal", name := "lastState", desc := "(IC)C" } : Jvm.MethodName) ({ cls := "Runbooker$Journal", name := "lastState", desc := "(IC)C" } : Jvm.MethodName)) ∈ lwG := lw_5 2 rfl rfl
theorem gw_5_3 : (Jvm.Cond.code ({ cls := "Runbooker$Journal", name := "lastState", desc := "(IC)C" } : Jvm.MethodName) prog_4_method_4_code (5 : Nat) (Option.some Jvm.ClassFile.FieldType.char)) ∈ lwG := lw_5 3 rfl rfl
theorem gw_5_4 : (Jvm.Cond.methodLink "Runbooker$Journal" (29 : Nat) ({ cls := "Runbooker$Journal", name := "stateAfter", desc := "(CC)C" } : Jvm.MethodName)) ∈ lwG := lw_5 4 rfl rfl
theorem gw_5_5 : (Jvm.Cond.static ({ cls := "Runbooker$Journal", name := "stateAfter", desc := "(CC)C" } : Jvm.MethodName)) ∈ lwG := lw_5 5 rfl rfl
theorem gw_5_6 : (Jvm.Cond.code ({ cls := "Runbooker$Journal", name := "stateAfter", desc := "(CC)C" } : Jvm.MethodName) prog_4_method_5_code (2 : Nat) (Option.some Jvm.ClassFile.FieldType.char)) ∈ lwG := lw_5 6 rfl rfl
theorem gw_5_7 : (Jvm.Cond.methodLink "RunbookerLaw" (317 : Nat) ({ cls := "RunbookerLaw", name := "triesByLog", desc := "(LRunbooker;I[J)I" } : Jvm.MethodName)) ∈ lwG := lw_5 7 rfl rfl
theorem gw_5_8 : (Jvm.Cond.static ({ cls := "RunbookerLaw", name := "triesByLog", desc := "(LRunbooker;I[J)I" } : Jvm.MethodName)) ∈ lwG := lw_5 8 rfl rfl
theorem gw_5_9 : (Jvm.Cond.codeWith ({ cls := "RunbookerLaw", name := "triesByLog", desc := "(LRunbooker;I[J)I" } : Jvm.MethodName) method_40_code (4 : Nat) (Option.some Jvm.ClassFile.FieldType.int) [((0 : Nat), (9 : Nat), (12 : Nat), (21 : Nat)), ((0 : Nat), (9 : Nat), (15 : Nat), (15 : Nat))]) ∈ lwG := lw_5 9 rfl rfl
theorem gw_5_10 : (Jvm.Cond.methodLink "RunbookerLaw" (140 : Nat) ({ cls := "Runbooker", name := "triesByLog", desc := "(I)I" } : Jvm.MethodName)) ∈ lwG := lw_5 10 rfl rfl
theorem gw_5_11 : (Jvm.Cond.instanceMethod ({ cls := "Runbooker", name := "triesByLog", desc := "(I)I" } : Jvm.MethodName)) ∈ lwG := lw_5 11 rfl rfl
theorem gw_5_12 : (Jvm.Cond.selects "Runbooker" ({ cls := "Runbooker", name := "triesByLog", desc := "(I)I" } : Jvm.MethodName) ({ cls := "Runbooker", name := "triesByLog", desc := "(I)I" } : Jvm.MethodName)) ∈ lwG := lw_5 12 rfl rfl
theorem gw_5_13 : (Jvm.Cond.code ({ cls := "Runbooker", name := "triesByLog", desc := "(I)I" } : Jvm.MethodName) prog_1_method_47_code (2 : Nat) (Option.some Jvm.ClassFile.FieldType.int)) ∈ lwG := lw_5 13 rfl rfl
theorem gw_5_14 : (Jvm.Cond.methodLink "Runbooker" (367 : Nat) ({ cls := "Runbooker$Journal", name := "countTries", desc := "(I)I" } : Jvm.MethodName)) ∈ lwG := lw_5 14 rfl rfl
theorem gw_5_15 : (Jvm.Cond.instanceMethod ({ cls := "Runbooker$Journal", name := "countTries", desc := "(I)I" } : Jvm.MethodName)) ∈ lwG := lw_5 15 rfl rfl
theorem gw_5_16 : (Jvm.Cond.selects "Runbooker$Journal" ({ cls := "Runbooker$Journal", name := "countTries", desc := "(I)I" } : Jvm.MethodName) ({ cls := "Runbooker$Journal", name := "countTries", desc := "(I)I" } : Jvm.MethodName)) ∈ lwG := lw_5 16 rfl rfl
theorem gw_5_17 : (Jvm.Cond.code ({ cls := "Runbooker$Journal", name := "countTries", desc := "(I)I" } : Jvm.MethodName) prog_4_method_6_code (4 : Nat) (Option.some Jvm.ClassFile.FieldType.int)) ∈ lwG := lw_5 17 rfl rfl
theorem gw_5_18 : (Jvm.Cond.methodLink "RunbookerLaw" (320 : Nat) ({ cls := "RunbookerLaw", name := "labelLength", desc := "(LRunbooker;I[J)I" } : Jvm.MethodName)) ∈ lwG := lw_5 18 rfl rfl
theorem gw_5_19 : (Jvm.Cond.static ({ cls := "RunbookerLaw", name := "labelLength", desc := "(LRunbooker;I[J)I" } : Jvm.MethodName)) ∈ lwG := lw_5 19 rfl rfl
theorem gw_5_20 : (Jvm.Cond.codeWith ({ cls := "RunbookerLaw", name := "labelLength", desc := "(LRunbooker;I[J)I" } : Jvm.MethodName) method_41_code (4 : Nat) (Option.some Jvm.ClassFile.FieldType.int) [((0 : Nat), (9 : Nat), (12 : Nat), (21 : Nat))]) ∈ lwG := lw_5 20 rfl rfl
theorem gw_5_21 : (Jvm.Cond.methodLink "RunbookerLaw" (143 : Nat) ({ cls := "Runbooker", name := "labelLength", desc := "(I)I" } : Jvm.MethodName)) ∈ lwG := lw_5 21 rfl rfl
theorem gw_5_22 : (Jvm.Cond.instanceMethod ({ cls := "Runbooker", name := "labelLength", desc := "(I)I" } : Jvm.MethodName)) ∈ lwG := lw_5 22 rfl rfl
theorem gw_5_23 : (Jvm.Cond.selects "Runbooker" ({ cls := "Runbooker", name := "labelLength", desc := "(I)I" } : Jvm.MethodName) ({ cls := "Runbooker", name := "labelLength", desc := "(I)I" } : Jvm.MethodName)) ∈ lwG := lw_5 23 rfl rfl
theorem gw_5_24 : (Jvm.Cond.code ({ cls := "Runbooker", name := "labelLength", desc := "(I)I" } : Jvm.MethodName) prog_1_method_48_code (2 : Nat) (Option.some Jvm.ClassFile.FieldType.int)) ∈ lwG := lw_5 24 rfl rfl
theorem gw_5_25 : (Jvm.Cond.methodLink "Runbooker" (370 : Nat) ({ cls := "Runbooker$Plan", name := "labelOf", desc := "(I)Ljava/lang/StringBuilder;" } : Jvm.MethodName)) ∈ lwG := lw_5 25 rfl rfl
theorem gw_5_26 : (Jvm.Cond.instanceMethod ({ cls := "Runbooker$Plan", name := "labelOf", desc := "(I)Ljava/lang/StringBuilder;" } : Jvm.MethodName)) ∈ lwG := lw_5 26 rfl rfl
theorem gw_5_27 : (Jvm.Cond.selects "Runbooker$Plan" ({ cls := "Runbooker$Plan", name := "labelOf", desc := "(I)Ljava/lang/StringBuilder;" } : Jvm.MethodName) ({ cls := "Runbooker$Plan", name := "labelOf", desc := "(I)Ljava/lang/StringBuilder;" } : Jvm.MethodName)) ∈ lwG := lw_5 27 rfl rfl
theorem gw_5_28 : (Jvm.Cond.code ({ cls := "Runbooker$Plan", name := "labelOf", desc := "(I)Ljava/lang/StringBuilder;" } : Jvm.MethodName) prog_5_method_12_code (3 : Nat) (Option.some (Jvm.ClassFile.FieldType.object "java/lang/StringBuilder"))) ∈ lwG := lw_5 28 rfl rfl
theorem gw_5_29 : (Jvm.Cond.classLink "Runbooker$Plan" (72 : Nat) "java/lang/StringBuilder") ∈ lwG := lw_5 29 rfl rfl
theorem gw_5_30 : (Jvm.Cond.instantiable "java/lang/StringBuilder" (4 : Nat)) ∈ lwG := lw_5 30 rfl rfl
theorem gw_5_31 : (Jvm.Cond.methodLink "Runbooker$Plan" (74 : Nat) ({ cls := "java/lang/StringBuilder", name := "<init>", desc := "()V" } : Jvm.MethodName)) ∈ lwG := lw_5 31 rfl rfl
theorem gw_5_32 : (Jvm.Cond.instanceMethod ({ cls := "java/lang/StringBuilder", name := "<init>", desc := "()V" } : Jvm.MethodName)) ∈ lwG := lw_5 32 rfl rfl
theorem gw_5_33 : (Jvm.Cond.code ({ cls := "java/lang/StringBuilder", name := "<init>", desc := "()V" } : Jvm.MethodName) prog_24_method_1_code (1 : Nat) (Option.none : Option Jvm.ClassFile.FieldType)) ∈ lwG := lw_5 33 rfl rfl
theorem gw_5_34 : (Jvm.Cond.methodLink "java/lang/StringBuilder" (1 : Nat) ({ cls := "java/lang/AbstractStringBuilder", name := "<init>", desc := "(I)V" } : Jvm.MethodName)) ∈ lwG := lw_5 34 rfl rfl
theorem gw_5_35 : (Jvm.Cond.instanceMethod ({ cls := "java/lang/AbstractStringBuilder", name := "<init>", desc := "(I)V" } : Jvm.MethodName)) ∈ lwG := lw_5 35 rfl rfl
theorem gw_5_36 : (Jvm.Cond.code ({ cls := "java/lang/AbstractStringBuilder", name := "<init>", desc := "(I)V" } : Jvm.MethodName) prog_10_method_2_code (2 : Nat) (Option.none : Option Jvm.ClassFile.FieldType)) ∈ lwG := lw_5 36 rfl rfl
theorem gw_5_37 : (Jvm.Cond.methodLink "java/lang/AbstractStringBuilder" (3 : Nat) ({ cls := "java/lang/Object", name := "<init>", desc := "()V" } : Jvm.MethodName)) ∈ lwG := lw_5 37 rfl rfl
theorem gw_5_38 : (Jvm.Cond.fieldLink "java/lang/AbstractStringBuilder" (18 : Nat) "java/lang/String" "COMPACT_STRINGS" "Z") ∈ lwG := lw_5 38 rfl rfl
theorem gw_5_40 : (Jvm.Cond.methodLink "java/lang/AbstractStringBuilder" (26 : Nat) ({ cls := "java/lang/StringUTF16", name := "newBytesFor", desc := "(I)[B" } : Jvm.MethodName)) ∈ lwG := lw_5 40 rfl rfl
theorem gw_5_41 : (Jvm.Cond.static ({ cls := "java/lang/StringUTF16", name := "newBytesFor", desc := "(I)[B" } : Jvm.MethodName)) ∈ lwG := lw_5 41 rfl rfl
theorem gw_5_42 : (Jvm.Cond.code ({ cls := "java/lang/StringUTF16", name := "newBytesFor", desc := "(I)[B" } : Jvm.MethodName) prog_26_method_2_code (1 : Nat) (Option.some (Jvm.ClassFile.FieldType.array Jvm.ClassFile.FieldType.byte))) ∈ lwG := lw_5 42 rfl rfl
theorem gw_5_43 : (Jvm.Cond.methodLink "java/lang/StringUTF16" (11 : Nat) ({ cls := "java/lang/StringUTF16", name := "newBytesLength", desc := "(I)I" } : Jvm.MethodName)) ∈ lwG := lw_5 43 rfl rfl
theorem gw_5_44 : (Jvm.Cond.static ({ cls := "java/lang/StringUTF16", name := "newBytesLength", desc := "(I)I" } : Jvm.MethodName)) ∈ lwG := lw_5 44 rfl rfl
theorem gw_5_45 : (Jvm.Cond.code ({ cls := "java/lang/StringUTF16", name := "newBytesLength", desc := "(I)I" } : Jvm.MethodName) prog_26_method_3_code (1 : Nat) (Option.some Jvm.ClassFile.FieldType.int)) ∈ lwG := lw_5 45 rfl rfl
theorem gw_5_46 : (Jvm.Cond.constant "java/lang/StringUTF16" (20 : Nat) (1073741823 : Int32)) ∈ lwG := lw_5 46 rfl rfl
theorem gw_5_47 : (Jvm.Cond.fieldLink "java/lang/AbstractStringBuilder" (15 : Nat) "java/lang/AbstractStringBuilder" "value" "[B") ∈ lwG := lw_5 47 rfl rfl
theorem gw_5_48 : (Jvm.Cond.fieldLink "java/lang/AbstractStringBuilder" (22 : Nat) "java/lang/AbstractStringBuilder" "coder" "B") ∈ lwG := lw_5 48 rfl rfl
theorem gw_5_49 : (Jvm.Cond.fieldLink "java/lang/String" (1048 : Nat) "java/lang/AbstractStringBuilder" "maybeLatin1" "Z") ∈ lwG := lw_5 49 rfl rfl
theorem gw_5_50 : (Jvm.Cond.fieldLink "java/lang/AbstractStringBuilder" (79 : Nat) "java/lang/AbstractStringBuilder" "count" "I") ∈ lwG := lw_5 50 rfl rfl
theorem gw_5_51 : (Jvm.Cond.lays "java/lang/StringBuilder" "java/lang/AbstractStringBuilder" "value" "[B") ∈ lwG := lw_5 51 rfl rfl
theorem gw_5_53 : (Jvm.Cond.lays "java/lang/StringBuilder" "java/lang/AbstractStringBuilder" "coder" "B") ∈ lwG := lw_5 53 rfl rfl
theorem gw_5_55 : (Jvm.Cond.lays "java/lang/StringBuilder" "java/lang/AbstractStringBuilder" "maybeLatin1" "Z") ∈ lwG := lw_5 55 rfl rfl
theorem gw_5_57 : (Jvm.Cond.lays "java/lang/StringBuilder" "java/lang/AbstractStringBuilder" "count" "I") ∈ lwG := lw_5 57 rfl rfl
theorem gw_5_59 : (Jvm.Cond.superclass "java/lang/StringBuilder" "java/lang/AbstractStringBuilder") ∈ lwG := lw_5 59 rfl rfl
theorem gw_5_60 : (Jvm.Cond.methodLink "Runbooker$Plan" (75 : Nat) ({ cls := "java/lang/StringBuilder", name := "append", desc := "(I)Ljava/lang/StringBuilder;" } : Jvm.MethodName)) ∈ lwG := lw_5 60 rfl rfl
theorem gw_5_61 : (Jvm.Cond.instanceMethod ({ cls := "java/lang/StringBuilder", name := "append", desc := "(I)Ljava/lang/StringBuilder;" } : Jvm.MethodName)) ∈ lwG := lw_5 61 rfl rfl
theorem gw_5_62 : (Jvm.Cond.selects "java/lang/StringBuilder" ({ cls := "java/lang/StringBuilder", name := "append", desc := "(I)Ljava/lang/StringBuilder;" } : Jvm.MethodName) ({ cls := "java/lang/StringBuilder", name := "append", desc := "(I)Ljava/lang/StringBuilder;" } : Jvm.MethodName)) ∈ lwG := lw_5 62 rfl rfl
theorem gw_5_63 : (Jvm.Cond.code ({ cls := "java/lang/StringBuilder", name := "append", desc := "(I)Ljava/lang/StringBuilder;" } : Jvm.MethodName) prog_24_method_15_code (2 : Nat) (Option.some (Jvm.ClassFile.FieldType.object "java/lang/StringBuilder"))) ∈ lwG := lw_5 63 rfl rfl
theorem gw_5_64 : (Jvm.Cond.methodLink "java/lang/StringBuilder" (53 : Nat) ({ cls := "java/lang/AbstractStringBuilder", name := "append", desc := "(I)Ljava/lang/AbstractStringBuilder;" } : Jvm.MethodName)) ∈ lwG := lw_5 64 rfl rfl
theorem gw_5_65 : (Jvm.Cond.instanceMethod ({ cls := "java/lang/AbstractStringBuilder", name := "append", desc := "(I)Ljava/lang/AbstractStringBuilder;" } : Jvm.MethodName)) ∈ lwG := lw_5 65 rfl rfl
theorem gw_5_66 : (Jvm.Cond.code ({ cls := "java/lang/AbstractStringBuilder", name := "append", desc := "(I)Ljava/lang/AbstractStringBuilder;" } : Jvm.MethodName) prog_10_method_32_code (4 : Nat) (Option.some (Jvm.ClassFile.FieldType.object "java/lang/AbstractStringBuilder"))) ∈ lwG := lw_5 66 rfl rfl
theorem gw_5_67 : (Jvm.Cond.methodLink "java/lang/AbstractStringBuilder" (245 : Nat) ({ cls := "java/lang/Integer", name := "stringSize", desc := "(I)I" } : Jvm.MethodName)) ∈ lwG := lw_5 67 rfl rfl
theorem gw_5_68 : (Jvm.Cond.static ({ cls := "java/lang/Integer", name := "stringSize", desc := "(I)I" } : Jvm.MethodName)) ∈ lwG := lw_5 68 rfl rfl
theorem gw_5_69 : (Jvm.Cond.code ({ cls := "java/lang/Integer", name := "stringSize", desc := "(I)I" } : Jvm.MethodName) prog_19_method_13_code (4 : Nat) (Option.some Jvm.ClassFile.FieldType.int)) ∈ lwG := lw_5 69 rfl rfl
theorem gw_5_70 : (Jvm.Cond.methodLink "java/lang/AbstractStringBuilder" (100 : Nat) ({ cls := "java/lang/AbstractStringBuilder", name := "ensureCapacityInternal", desc := "(I)V" } : Jvm.MethodName)) ∈ lwG := lw_5 70 rfl rfl
theorem gw_5_72 : (Jvm.Cond.instanceMethod ({ cls := "java/lang/AbstractStringBuilder", name := "ensureCapacityInternal", desc := "(I)V" } : Jvm.MethodName)) ∈ lwG := lw_5 72 rfl rfl
theorem gw_5_73 : (Jvm.Cond.code ({ cls := "java/lang/AbstractStringBuilder", name := "ensureCapacityInternal", desc := "(I)V" } : Jvm.MethodName) prog_10_method_9_code (3 : Nat) (Option.none : Option Jvm.ClassFile.FieldType)) ∈ lwG := lw_5 73 rfl rfl
theorem gw_5_74 : (Jvm.Cond.methodLink "java/lang/AbstractStringBuilder" (104 : Nat) ({ cls := "java/lang/AbstractStringBuilder", name := "newCapacity", desc := "(I)I" } : Jvm.MethodName)) ∈ lwG := lw_5 74 rfl rfl
theorem gw_5_76 : (Jvm.Cond.instanceMethod ({ cls := "java/lang/AbstractStringBuilder", name := "newCapacity", desc := "(I)I" } : Jvm.MethodName)) ∈ lwG := lw_5 76 rfl rfl
theorem gw_5_77 : (Jvm.Cond.code ({ cls := "java/lang/AbstractStringBuilder", name := "newCapacity", desc := "(I)I" } : Jvm.MethodName) prog_10_method_10_code (6 : Nat) (Option.some Jvm.ClassFile.FieldType.int)) ∈ lwG := lw_5 77 rfl rfl
theorem gw_5_78 : (Jvm.Cond.methodLink "java/lang/AbstractStringBuilder" (114 : Nat) ({ cls := "jdk/internal/util/ArraysSupport", name := "newLength", desc := "(III)I" } : Jvm.MethodName)) ∈ lwG := lw_5 78 rfl rfl
theorem gw_5_79 : (Jvm.Cond.static ({ cls := "jdk/internal/util/ArraysSupport", name := "newLength", desc := "(III)I" } : Jvm.MethodName)) ∈ lwG := lw_5 79 rfl rfl
theorem gw_5_80 : (Jvm.Cond.code ({ cls := "jdk/internal/util/ArraysSupport", name := "newLength", desc := "(III)I" } : Jvm.MethodName) prog_34_method_27_code (4 : Nat) (Option.some Jvm.ClassFile.FieldType.int)) ∈ lwG := lw_5 80 rfl rfl
theorem gw_5_81 : (Jvm.Cond.methodLink "jdk/internal/util/ArraysSupport" (194 : Nat) ({ cls := "java/lang/Math", name := "max", desc := "(II)I" } : Jvm.MethodName)) ∈ lwG := lw_5 81 rfl rfl
theorem gw_5_82 : (Jvm.Cond.constant "jdk/internal/util/ArraysSupport" (200 : Nat) (2147483639 : Int32)) ∈ lwG := lw_5 82 rfl rfl
theorem gw_5_83 : (Jvm.Cond.methodLink "jdk/internal/util/ArraysSupport" (201 : Nat) ({ cls := "jdk/internal/util/ArraysSupport", name := "hugeLength", desc := "(II)I" } : Jvm.MethodName)) ∈ lwG := lw_5 83 rfl rfl
theorem gw_5_84 : (Jvm.Cond.static ({ cls := "jdk/internal/util/ArraysSupport", name := "hugeLength", desc := "(II)I" } : Jvm.MethodName)) ∈ lwG := lw_5 84 rfl rfl
theorem gw_5_85 : (Jvm.Cond.code ({ cls := "jdk/internal/util/ArraysSupport", name := "hugeLength", desc := "(II)I" } : Jvm.MethodName) prog_34_method_28_code (3 : Nat) (Option.some Jvm.ClassFile.FieldType.int)) ∈ lwG := lw_5 85 rfl rfl
theorem gw_5_86 : (Jvm.Cond.constant "java/lang/AbstractStringBuilder" (39 : Nat) (2147483647 : Int32)) ∈ lwG := lw_5 86 rfl rfl
theorem gw_5_87 : (Jvm.Cond.methodLink "java/lang/AbstractStringBuilder" (108 : Nat) ({ cls := "java/util/Arrays", name := "copyOf", desc := "([BI)[B" } : Jvm.MethodName)) ∈ lwG := lw_5 87 rfl rfl
theorem gw_5_88 : (Jvm.Cond.static ({ cls := "java/util/Arrays", name := "copyOf", desc := "([BI)[B" } : Jvm.MethodName)) ∈ lwG := lw_5 88 rfl rfl
theorem gw_5_89 : (Jvm.Cond.code ({ cls := "java/util/Arrays", name := "copyOf", desc := "([BI)[B" } : Jvm.MethodName) prog_32_method_121_code (3 : Nat) (Option.some (Jvm.ClassFile.FieldType.array Jvm.ClassFile.FieldType.byte))) ∈ lwG := lw_5 89 rfl rfl
theorem gw_5_90 : (Jvm.Cond.methodLink "java/util/Arrays" (310 : Nat) ({ cls := "[B", name := "clone", desc := "()Ljava/lang/Object;" } : Jvm.MethodName)) ∈ lwG := lw_5 90 rfl rfl
theorem gw_5_91 : (Jvm.Cond.sameMethod "[B" "java/lang/Object" "clone" "()Ljava/lang/Object;") ∈ lwG := lw_5 91 rfl rfl
theorem gw_5_92 : (Jvm.Cond.native ({ cls := "java/lang/Object", name := "clone", desc := "()Ljava/lang/Object;" } : Jvm.MethodName)) ∈ lwG := lw_5 92 rfl rfl
theorem gw_5_93 : (Jvm.Cond.instanceMethod ({ cls := "java/lang/Object", name := "clone", desc := "()Ljava/lang/Object;" } : Jvm.MethodName)) ∈ lwG := lw_5 93 rfl rfl
theorem gw_5_94 : (Jvm.Cond.selects "[B" ({ cls := "[B", name := "clone", desc := "()Ljava/lang/Object;" } : Jvm.MethodName) ({ cls := "java/lang/Object", name := "clone", desc := "()Ljava/lang/Object;" } : Jvm.MethodName)) ∈ lwG := lw_5 94 rfl rfl
theorem gw_5_96 : (Jvm.Cond.classLink "java/util/Arrays" (311 : Nat) "[B") ∈ lwG := lw_5 96 rfl rfl
theorem gw_5_97 : (Jvm.Cond.methodLink "java/util/Arrays" (304 : Nat) ({ cls := "java/lang/Math", name := "min", desc := "(II)I" } : Jvm.MethodName)) ∈ lwG := lw_5 97 rfl rfl
theorem gw_5_98 : (Jvm.Cond.static ({ cls := "java/lang/Math", name := "min", desc := "(II)I" } : Jvm.MethodName)) ∈ lwG := lw_5 98 rfl rfl
theorem gw_5_99 : (Jvm.Cond.code ({ cls := "java/lang/Math", name := "min", desc := "(II)I" } : Jvm.MethodName) prog_20_method_69_code (2 : Nat) (Option.some Jvm.ClassFile.FieldType.int)) ∈ lwG := lw_5 99 rfl rfl
theorem gw_5_100 : (Jvm.Cond.methodLink "java/util/Arrays" (150 : Nat) ({ cls := "java/lang/System", name := "arraycopy", desc := "(Ljava/lang/Object;ILjava/lang/Object;II)V" } : Jvm.MethodName)) ∈ lwG := lw_5 100 rfl rfl
theorem gw_5_101 : (Jvm.Cond.static ({ cls := "java/lang/System", name := "arraycopy", desc := "(Ljava/lang/Object;ILjava/lang/Object;II)V" } : Jvm.MethodName)) ∈ lwG := lw_5 101 rfl rfl
theorem gw_5_102 : (Jvm.Cond.native ({ cls := "java/lang/System", name := "arraycopy", desc := "(Ljava/lang/Object;ILjava/lang/Object;II)V" } : Jvm.MethodName)) ∈ lwG := lw_5 102 rfl rfl
theorem gw_5_103 : (Jvm.Cond.methodLink "java/lang/AbstractStringBuilder" (83 : Nat) ({ cls := "java/lang/AbstractStringBuilder", name := "isLatin1", desc := "()Z" } : Jvm.MethodName)) ∈ lwG := lw_5 103 rfl rfl
theorem gw_5_104 : (Jvm.Cond.instanceMethod ({ cls := "java/lang/AbstractStringBuilder", name := "isLatin1", desc := "()Z" } : Jvm.MethodName)) ∈ lwG := lw_5 104 rfl rfl
theorem gw_5_105 : (Jvm.Cond.sameMethod "java/lang/AbstractStringBuilder" "java/lang/AbstractStringBuilder" "isLatin1" "()Z") ∈ lwG := lw_5 105 rfl rfl
theorem gw_5_106 : (Jvm.Cond.selects "java/lang/StringBuilder" ({ cls := "java/lang/AbstractStringBuilder", name := "isLatin1", desc := "()Z" } : Jvm.MethodName) ({ cls := "java/lang/AbstractStringBuilder", name := "isLatin1", desc := "()Z" } : Jvm.MethodName)) ∈ lwG := lw_5 106 rfl rfl
theorem gw_5_107 : (Jvm.Cond.code ({ cls := "java/lang/AbstractStringBuilder", name := "isLatin1", desc := "()Z" } : Jvm.MethodName) prog_10_method_68_code (1 : Nat) (Option.some Jvm.ClassFile.FieldType.boolean)) ∈ lwG := lw_5 107 rfl rfl
theorem gw_5_108 : (Jvm.Cond.methodLink "java/lang/AbstractStringBuilder" (248 : Nat) ({ cls := "java/lang/Integer", name := "getChars", desc := "(II[B)I" } : Jvm.MethodName)) ∈ lwG := lw_5 108 rfl rfl
theorem gw_5_109 : (Jvm.Cond.static ({ cls := "java/lang/Integer", name := "getChars", desc := "(II[B)I" } : Jvm.MethodName)) ∈ lwG := lw_5 109 rfl rfl
theorem gw_5_110 : (Jvm.Cond.code ({ cls := "java/lang/Integer", name := "getChars", desc := "(II[B)I" } : Jvm.MethodName) prog_19_method_12_code (7 : Nat) (Option.some Jvm.ClassFile.FieldType.int)) ∈ lwG := lw_5 110 rfl rfl
theorem gw_5_111 : (Jvm.Cond.fieldLink "java/lang/Integer" (83 : Nat) "java/lang/Integer" "DigitOnes" "[B") ∈ lwG := lw_5 111 rfl rfl
theorem gw_5_113 : (Jvm.Cond.fieldLink "java/lang/Integer" (87 : Nat) "java/lang/Integer" "DigitTens" "[B") ∈ lwG := lw_5 113 rfl rfl
theorem gw_5_115 : (Jvm.Cond.methodLink "java/lang/AbstractStringBuilder" (251 : Nat) ({ cls := "java/lang/StringUTF16", name := "getChars", desc := "(III[B)I" } : Jvm.MethodName)) ∈ lwG := lw_5 115 rfl rfl
theorem gw_5_116 : (Jvm.Cond.static ({ cls := "java/lang/StringUTF16", name := "getChars", desc := "(III[B)I" } : Jvm.MethodName)) ∈ lwG := lw_5 116 rfl rfl
theorem gw_5_117 : (Jvm.Cond.code ({ cls := "java/lang/StringUTF16", name := "getChars", desc := "(III[B)I" } : Jvm.MethodName) prog_26_method_77_code (5 : Nat) (Option.some Jvm.ClassFile.FieldType.int)) ∈ lwG := lw_5 117 rfl rfl
theorem gw_5_118 : (Jvm.Cond.methodLink "java/lang/StringUTF16" (96 : Nat) ({ cls := "java/lang/StringUTF16", name := "checkBoundsBeginEnd", desc := "(II[B)V" } : Jvm.MethodName)) ∈ lwG := lw_5 118 rfl rfl
theorem gw_5_119 : (Jvm.Cond.static ({ cls := "java/lang/StringUTF16", name := "checkBoundsBeginEnd", desc := "(II[B)V" } : Jvm.MethodName)) ∈ lwG := lw_5 119 rfl rfl
theorem gw_5_120 : (Jvm.Cond.code ({ cls := "java/lang/StringUTF16", name := "checkBoundsBeginEnd", desc := "(II[B)V" } : Jvm.MethodName) prog_26_method_93_code (3 : Nat) (Option.none : Option Jvm.ClassFile.FieldType)) ∈ lwG := lw_5 120 rfl rfl
theorem gw_5_121 : (Jvm.Cond.methodLink "java/lang/StringUTF16" (48 : Nat) ({ cls := "java/lang/StringUTF16", name := "length", desc := "([B)I" } : Jvm.MethodName)) ∈ lwG := lw_5 121 rfl rfl
theorem gw_5_122 : (Jvm.Cond.static ({ cls := "java/lang/StringUTF16", name := "length", desc := "([B)I" } : Jvm.MethodName)) ∈ lwG := lw_5 122 rfl rfl
theorem gw_5_123 : (Jvm.Cond.code ({ cls := "java/lang/StringUTF16", name := "length", desc := "([B)I" } : Jvm.MethodName) prog_26_method_6_code (1 : Nat) (Option.some Jvm.ClassFile.FieldType.int)) ∈ lwG := lw_5 123 rfl rfl
theorem gw_5_124 : (Jvm.Cond.methodLink "java/lang/StringUTF16" (241 : Nat) ({ cls := "java/lang/String", name := "checkBoundsBeginEnd", desc := "(III)V" } : Jvm.MethodName)) ∈ lwG := lw_5 124 rfl rfl
theorem gw_5_125 : (Jvm.Cond.static ({ cls := "java/lang/String", name := "checkBoundsBeginEnd", desc := "(III)V" } : Jvm.MethodName)) ∈ lwG := lw_5 125 rfl rfl
theorem gw_5_126 : (Jvm.Cond.code ({ cls := "java/lang/String", name := "checkBoundsBeginEnd", desc := "(III)V" } : Jvm.MethodName) prog_23_method_158_code (3 : Nat) (Option.none : Option Jvm.ClassFile.FieldType)) ∈ lwG := lw_5 126 rfl rfl
theorem gw_5_127 : (Jvm.Cond.fieldLink "java/lang/String" (1053 : Nat) "jdk/internal/util/Preconditions" "SIOOBE_FORMATTER" "Ljava/util/function/BiFunction;") ∈ lwG := lw_5 127 rfl rfl
theorem gw_5_129 : (Jvm.Cond.methodLink "java/lang/String" (1062 : Nat) ({ cls := "jdk/internal/util/Preconditions", name := "checkFromToIndex", desc := "(IIILjava/util/function/BiFunction;)I" } : Jvm.MethodName)) ∈ lwG := lw_5 129 rfl rfl
theorem gw_5_130 : (Jvm.Cond.static ({ cls := "jdk/internal/util/Preconditions", name := "checkFromToIndex", desc := "(IIILjava/util/function/BiFunction;)I" } : Jvm.MethodName)) ∈ lwG := lw_5 130 rfl rfl
theorem gw_5_131 : (Jvm.Cond.code ({ cls := "jdk/internal/util/Preconditions", name := "checkFromToIndex", desc := "(IIILjava/util/function/BiFunction;)I" } : Jvm.MethodName) prog_35_method_12_code (4 : Nat) (Option.some Jvm.ClassFile.FieldType.int)) ∈ lwG := lw_5 131 rfl rfl
theorem gw_5_132 : (Jvm.Cond.methodLink "java/lang/StringUTF16" (393 : Nat) ({ cls := "java/lang/StringUTF16", name := "getChars", desc := "(II[B)I" } : Jvm.MethodName)) ∈ lwG := lw_5 132 rfl rfl
theorem gw_5_133 : (Jvm.Cond.static ({ cls := "java/lang/StringUTF16", name := "getChars", desc := "(II[B)I" } : Jvm.MethodName)) ∈ lwG := lw_5 133 rfl rfl
theorem gw_5_134 : (Jvm.Cond.code ({ cls := "java/lang/StringUTF16", name := "getChars", desc := "(II[B)I" } : Jvm.MethodName) prog_26_method_89_code (7 : Nat) (Option.some Jvm.ClassFile.FieldType.int)) ∈ lwG := lw_5 134 rfl rfl
theorem gw_5_135 : (Jvm.Cond.fieldLink "java/lang/StringUTF16" (403 : Nat) "java/lang/Integer" "DigitOnes" "[B") ∈ lwG := lw_5 135 rfl rfl
theorem gw_5_136 : (Jvm.Cond.methodLink "java/lang/StringUTF16" (111 : Nat) ({ cls := "java/lang/StringUTF16", name := "putChar", desc := "([BII)V" } : Jvm.MethodName)) ∈ lwG := lw_5 136 rfl rfl
theorem gw_5_137 : (Jvm.Cond.static ({ cls := "java/lang/StringUTF16", name := "putChar", desc := "([BII)V" } : Jvm.MethodName)) ∈ lwG := lw_5 137 rfl rfl
theorem gw_5_138 : (Jvm.Cond.code ({ cls := "java/lang/StringUTF16", name := "putChar", desc := "([BII)V" } : Jvm.MethodName) prog_26_method_4_code (3 : Nat) (Option.none : Option Jvm.ClassFile.FieldType)) ∈ lwG := lw_5 138 rfl rfl
theorem gw_5_139 : (Jvm.Cond.fieldLink "java/lang/StringUTF16" (44 : Nat) "java/lang/StringUTF16" "$assertionsDisabled" "Z") ∈ lwG := lw_5 139 rfl rfl
theorem gw_5_141 : (Jvm.Cond.fieldLink "java/lang/StringUTF16" (59 : Nat) "java/lang/StringUTF16" "HI_BYTE_SHIFT" "I") ∈ lwG := lw_5 141 rfl rfl
theorem gw_5_143 : (Jvm.Cond.fieldLink "java/lang/StringUTF16" (63 : Nat) "java/lang/StringUTF16" "LO_BYTE_SHIFT" "I") ∈ lwG := lw_5 143 rfl rfl
theorem gw_5_145 : (Jvm.Cond.fieldLink "java/lang/StringUTF16" (407 : Nat) "java/lang/Integer" "DigitTens" "[B") ∈ lwG := lw_5 145 rfl rfl
theorem gw_5_146 : (Jvm.Cond.methodLink "Runbooker$Plan" (79 : Nat) ({ cls := "java/lang/StringBuilder", name := "append", desc := "(C)Ljava/lang/StringBuilder;" } : Jvm.MethodName)) ∈ lwG := lw_5 146 rfl rfl
theorem gw_5_147 : (Jvm.Cond.instanceMethod ({ cls := "java/lang/StringBuilder", name := "append", desc := "(C)Ljava/lang/StringBuilder;" } : Jvm.MethodName)) ∈ lwG := lw_5 147 rfl rfl
theorem gw_5_148 : (Jvm.Cond.selects "java/lang/StringBuilder" ({ cls := "java/lang/StringBuilder", name := "append", desc := "(C)Ljava/lang/StringBuilder;" } : Jvm.MethodName) ({ cls := "java/lang/StringBuilder", name := "append", desc := "(C)Ljava/lang/StringBuilder;" } : Jvm.MethodName)) ∈ lwG := lw_5 148 rfl rfl
theorem gw_5_149 : (Jvm.Cond.code ({ cls := "java/lang/StringBuilder", name := "append", desc := "(C)Ljava/lang/StringBuilder;" } : Jvm.MethodName) prog_24_method_14_code (2 : Nat) (Option.some (Jvm.ClassFile.FieldType.object "java/lang/StringBuilder"))) ∈ lwG := lw_5 149 rfl rfl
theorem gw_5_150 : (Jvm.Cond.methodLink "java/lang/StringBuilder" (50 : Nat) ({ cls := "java/lang/AbstractStringBuilder", name := "append", desc := "(C)Ljava/lang/AbstractStringBuilder;" } : Jvm.MethodName)) ∈ lwG := lw_5 150 rfl rfl
theorem gw_5_151 : (Jvm.Cond.instanceMethod ({ cls := "java/lang/AbstractStringBuilder", name := "append", desc := "(C)Ljava/lang/AbstractStringBuilder;" } : Jvm.MethodName)) ∈ lwG := lw_5 151 rfl rfl
theorem gw_5_152 : (Jvm.Cond.code ({ cls := "java/lang/AbstractStringBuilder", name := "append", desc := "(C)Ljava/lang/AbstractStringBuilder;" } : Jvm.MethodName) prog_10_method_31_code (2 : Nat) (Option.some (Jvm.ClassFile.FieldType.object "java/lang/AbstractStringBuilder"))) ∈ lwG := lw_5 152 rfl rfl
theorem gw_5_153 : (Jvm.Cond.methodLink "java/lang/AbstractStringBuilder" (191 : Nat) ({ cls := "java/lang/StringLatin1", name := "canEncode", desc := "(C)Z" } : Jvm.MethodName)) ∈ lwG := lw_5 153 rfl rfl
theorem gw_5_154 : (Jvm.Cond.static ({ cls := "java/lang/StringLatin1", name := "canEncode", desc := "(C)Z" } : Jvm.MethodName)) ∈ lwG := lw_5 154 rfl rfl
theorem gw_5_155 : (Jvm.Cond.code ({ cls := "java/lang/StringLatin1", name := "canEncode", desc := "(C)Z" } : Jvm.MethodName) prog_25_method_3_code (1 : Nat) (Option.some Jvm.ClassFile.FieldType.boolean)) ∈ lwG := lw_5 155 rfl rfl
theorem gw_5_156 : (Jvm.Cond.methodLink "java/lang/AbstractStringBuilder" (195 : Nat) ({ cls := "java/lang/AbstractStringBuilder", name := "inflate", desc := "()V" } : Jvm.MethodName)) ∈ lwG := lw_5 156 rfl rfl
theorem gw_5_158 : (Jvm.Cond.instanceMethod ({ cls := "java/lang/AbstractStringBuilder", name := "inflate", desc := "()V" } : Jvm.MethodName)) ∈ lwG := lw_5 158 rfl rfl
theorem gw_5_159 : (Jvm.Cond.code ({ cls := "java/lang/AbstractStringBuilder", name := "inflate", desc := "()V" } : Jvm.MethodName) prog_10_method_11_code (2 : Nat) (Option.none : Option Jvm.ClassFile.FieldType)) ∈ lwG := lw_5 159 rfl rfl
theorem gw_5_160 : (Jvm.Cond.methodLink "java/lang/AbstractStringBuilder" (125 : Nat) ({ cls := "java/lang/StringLatin1", name := "inflate", desc := "([BI[BII)V" } : Jvm.MethodName)) ∈ lwG := lw_5 160 rfl rfl
theorem gw_5_161 : (Jvm.Cond.static ({ cls := "java/lang/StringLatin1", name := "inflate", desc := "([BI[BII)V" } : Jvm.MethodName)) ∈ lwG := lw_5 161 rfl rfl
theorem gw_5_162 : (Jvm.Cond.code ({ cls := "java/lang/StringLatin1", name := "inflate", desc := "([BI[BII)V" } : Jvm.MethodName) prog_25_method_50_code (5 : Nat) (Option.none : Option Jvm.ClassFile.FieldType)) ∈ lwG := lw_5 162 rfl rfl
theorem gw_5_163 : (Jvm.Cond.methodLink "java/lang/StringLatin1" (240 : Nat) ({ cls := "java/lang/StringUTF16", name := "inflate", desc := "([BI[BII)V" } : Jvm.MethodName)) ∈ lwG := lw_5 163 rfl rfl
theorem gw_5_164 : (Jvm.Cond.static ({ cls := "java/lang/StringUTF16", name := "inflate", desc := "([BI[BII)V" } : Jvm.MethodName)) ∈ lwG := lw_5 164 rfl rfl
theorem gw_5_165 : (Jvm.Cond.code ({ cls := "java/lang/StringUTF16", name := "inflate", desc := "([BI[BII)V" } : Jvm.MethodName) prog_26_method_86_code (6 : Nat) (Option.none : Option Jvm.ClassFile.FieldType)) ∈ lwG := lw_5 165 rfl rfl
theorem gw_5_166 : (Jvm.Cond.methodLink "java/lang/StringUTF16" (173 : Nat) ({ cls := "java/lang/StringUTF16", name := "checkBoundsOffCount", desc := "(II[B)V" } : Jvm.MethodName)) ∈ lwG := lw_5 166 rfl rfl
theorem gw_5_167 : (Jvm.Cond.static ({ cls := "java/lang/StringUTF16", name := "checkBoundsOffCount", desc := "(II[B)V" } : Jvm.MethodName)) ∈ lwG := lw_5 167 rfl rfl
theorem gw_5_168 : (Jvm.Cond.code ({ cls := "java/lang/StringUTF16", name := "checkBoundsOffCount", desc := "(II[B)V" } : Jvm.MethodName) prog_26_method_94_code (3 : Nat) (Option.none : Option Jvm.ClassFile.FieldType)) ∈ lwG := lw_5 168 rfl rfl
theorem gw_5_169 : (Jvm.Cond.methodLink "java/lang/StringUTF16" (419 : Nat) ({ cls := "java/lang/String", name := "checkBoundsOffCount", desc := "(III)I" } : Jvm.MethodName)) ∈ lwG := lw_5 169 rfl rfl
theorem gw_5_170 : (Jvm.Cond.static ({ cls := "java/lang/String", name := "checkBoundsOffCount", desc := "(III)I" } : Jvm.MethodName)) ∈ lwG := lw_5 170 rfl rfl
theorem gw_5_171 : (Jvm.Cond.code ({ cls := "java/lang/String", name := "checkBoundsOffCount", desc := "(III)I" } : Jvm.MethodName) prog_23_method_157_code (3 : Nat) (Option.some Jvm.ClassFile.FieldType.int)) ∈ lwG := lw_5 171 rfl rfl
theorem gw_5_172 : (Jvm.Cond.methodLink "java/lang/String" (1065 : Nat) ({ cls := "jdk/internal/util/Preconditions", name := "checkFromIndexSize", desc := "(IIILjava/util/function/BiFunction;)I" } : Jvm.MethodName)) ∈ lwG := lw_5 172 rfl rfl
theorem gw_5_173 : (Jvm.Cond.static ({ cls := "jdk/internal/util/Preconditions", name := "checkFromIndexSize", desc := "(IIILjava/util/function/BiFunction;)I" } : Jvm.MethodName)) ∈ lwG := lw_5 173 rfl rfl
theorem gw_5_174 : (Jvm.Cond.code ({ cls := "jdk/internal/util/Preconditions", name := "checkFromIndexSize", desc := "(IIILjava/util/function/BiFunction;)I" } : Jvm.MethodName) prog_35_method_13_code (4 : Nat) (Option.some Jvm.ClassFile.FieldType.int)) ∈ lwG := lw_5 174 rfl rfl
theorem gw_5_175 : (Jvm.Cond.methodLink "java/lang/AbstractStringBuilder" (197 : Nat) ({ cls := "java/lang/StringUTF16", name := "putCharSB", desc := "([BII)V" } : Jvm.MethodName)) ∈ lwG := lw_5 175 rfl rfl
theorem gw_5_176 : (Jvm.Cond.static ({ cls := "java/lang/StringUTF16", name := "putCharSB", desc := "([BII)V" } : Jvm.MethodName)) ∈ lwG := lw_5 176 rfl rfl
theorem gw_5_177 : (Jvm.Cond.code ({ cls := "java/lang/StringUTF16", name := "putCharSB", desc := "([BII)V" } : Jvm.MethodName) prog_26_method_71_code (3 : Nat) (Option.none : Option Jvm.ClassFile.FieldType)) ∈ lwG := lw_5 177 rfl rfl
theorem gw_5_178 : (Jvm.Cond.methodLink "java/lang/StringUTF16" (67 : Nat) ({ cls := "java/lang/StringUTF16", name := "checkIndex", desc := "(I[B)V" } : Jvm.MethodName)) ∈ lwG := lw_5 178 rfl rfl
theorem gw_5_179 : (Jvm.Cond.static ({ cls := "java/lang/StringUTF16", name := "checkIndex", desc := "(I[B)V" } : Jvm.MethodName)) ∈ lwG := lw_5 179 rfl rfl
theorem gw_5_180 : (Jvm.Cond.code ({ cls := "java/lang/StringUTF16", name := "checkIndex", desc := "(I[B)V" } : Jvm.MethodName) prog_26_method_91_code (2 : Nat) (Option.none : Option Jvm.ClassFile.FieldType)) ∈ lwG := lw_5 180 rfl rfl
theorem gw_5_181 : (Jvm.Cond.methodLink "java/lang/StringUTF16" (414 : Nat) ({ cls := "java/lang/String", name := "checkIndex", desc := "(II)V" } : Jvm.MethodName)) ∈ lwG := lw_5 181 rfl rfl
theorem gw_5_182 : (Jvm.Cond.static ({ cls := "java/lang/String", name := "checkIndex", desc := "(II)V" } : Jvm.MethodName)) ∈ lwG := lw_5 182 rfl rfl
theorem gw_5_183 : (Jvm.Cond.code ({ cls := "java/lang/String", name := "checkIndex", desc := "(II)V" } : Jvm.MethodName) prog_23_method_155_code (2 : Nat) (Option.none : Option Jvm.ClassFile.FieldType)) ∈ lwG := lw_5 183 rfl rfl
theorem gw_5_184 : (Jvm.Cond.methodLink "java/lang/String" (1059 : Nat) ({ cls := "jdk/internal/util/Preconditions", name := "checkIndex", desc := "(IILjava/util/function/BiFunction;)I" } : Jvm.MethodName)) ∈ lwG := lw_5 184 rfl rfl
theorem gw_5_185 : (Jvm.Cond.static ({ cls := "jdk/internal/util/Preconditions", name := "checkIndex", desc := "(IILjava/util/function/BiFunction;)I" } : Jvm.MethodName)) ∈ lwG := lw_5 185 rfl rfl
theorem gw_5_186 : (Jvm.Cond.code ({ cls := "jdk/internal/util/Preconditions", name := "checkIndex", desc := "(IILjava/util/function/BiFunction;)I" } : Jvm.MethodName) prog_35_method_11_code (3 : Nat) (Option.some Jvm.ClassFile.FieldType.int)) ∈ lwG := lw_5 186 rfl rfl
theorem gw_5_187 : (Jvm.Cond.methodLink "Runbooker" (374 : Nat) ({ cls := "java/lang/StringBuilder", name := "length", desc := "()I" } : Jvm.MethodName)) ∈ lwG := lw_5 187 rfl rfl
theorem gw_5_188 : (Jvm.Cond.instanceMethod ({ cls := "java/lang/StringBuilder", name := "length", desc := "()I" } : Jvm.MethodName)) ∈ lwG := lw_5 188 rfl rfl
theorem gw_5_189 : (Jvm.Cond.selects "java/lang/StringBuilder" ({ cls := "java/lang/StringBuilder", name := "length", desc := "()I" } : Jvm.MethodName) ({ cls := "java/lang/StringBuilder", name := "length", desc := "()I" } : Jvm.MethodName)) ∈ lwG := lw_5 189 rfl rfl
theorem gw_5_190 : (Jvm.Cond.code ({ cls := "java/lang/StringBuilder", name := "length", desc := "()I" } : Jvm.MethodName) prog_24_method_93_code (1 : Nat) (Option.some Jvm.ClassFile.FieldType.int)) ∈ lwG := lw_5 190 rfl rfl
theorem gw_5_191 : (Jvm.Cond.methodLink "java/lang/StringBuilder" (343 : Nat) ({ cls := "java/lang/AbstractStringBuilder", name := "length", desc := "()I" } : Jvm.MethodName)) ∈ lwG := lw_5 191 rfl rfl
theorem gw_5_192 : (Jvm.Cond.instanceMethod ({ cls := "java/lang/AbstractStringBuilder", name := "length", desc := "()I" } : Jvm.MethodName)) ∈ lwG := lw_5 192 rfl rfl
theorem gw_5_193 : (Jvm.Cond.code ({ cls := "java/lang/AbstractStringBuilder", name := "length", desc := "()I" } : Jvm.MethodName) prog_10_method_6_code (1 : Nat) (Option.some Jvm.ClassFile.FieldType.int)) ∈ lwG := lw_5 193 rfl rfl
theorem gw_5_194 : (Jvm.Cond.methodLink "RunbookerLaw" (323 : Nat) ({ cls := "RunbookerLaw", name := "labelAt", desc := "(LRunbooker;II[J)I" } : Jvm.MethodName)) ∈ lwG := lw_5 194 rfl rfl
theorem gw_5_195 : (Jvm.Cond.static ({ cls := "RunbookerLaw", name := "labelAt", desc := "(LRunbooker;II[J)I" } : Jvm.MethodName)) ∈ lwG := lw_5 195 rfl rfl
theorem gw_5_196 : (Jvm.Cond.codeWith ({ cls := "RunbookerLaw", name := "labelAt", desc := "(LRunbooker;II[J)I" } : Jvm.MethodName) method_42_code (5 : Nat) (Option.some Jvm.ClassFile.FieldType.int) [((0 : Nat), (10 : Nat), (13 : Nat), (21 : Nat)), ((0 : Nat), (10 : Nat), (17 : Nat), (86 : Nat))]) ∈ lwG := lw_5 196 rfl rfl
theorem gw_5_197 : (Jvm.Cond.methodLink "RunbookerLaw" (146 : Nat) ({ cls := "Runbooker", name := "labelAt", desc := "(II)C" } : Jvm.MethodName)) ∈ lwG := lw_5 197 rfl rfl
theorem gw_5_198 : (Jvm.Cond.instanceMethod ({ cls := "Runbooker", name := "labelAt", desc := "(II)C" } : Jvm.MethodName)) ∈ lwG := lw_5 198 rfl rfl
theorem gw_5_199 : (Jvm.Cond.selects "Runbooker" ({ cls := "Runbooker", name := "labelAt", desc := "(II)C" } : Jvm.MethodName) ({ cls := "Runbooker", name := "labelAt", desc := "(II)C" } : Jvm.MethodName)) ∈ lwG := lw_5 199 rfl rfl
theorem gw_5_200 : (Jvm.Cond.code ({ cls := "Runbooker", name := "labelAt", desc := "(II)C" } : Jvm.MethodName) prog_1_method_49_code (4 : Nat) (Option.some Jvm.ClassFile.FieldType.char)) ∈ lwG := lw_5 200 rfl rfl
theorem gw_5_202 : (Jvm.Cond.methodLink "Runbooker" (381 : Nat) ({ cls := "java/lang/StringBuilder", name := "charAt", desc := "(I)C" } : Jvm.MethodName)) ∈ lwG := lw_5 202 rfl rfl
theorem gw_5_203 : (Jvm.Cond.instanceMethod ({ cls := "java/lang/StringBuilder", name := "charAt", desc := "(I)C" } : Jvm.MethodName)) ∈ lwG := lw_5 203 rfl rfl
theorem gw_5_204 : (Jvm.Cond.selects "java/lang/StringBuilder" ({ cls := "java/lang/StringBuilder", name := "charAt", desc := "(I)C" } : Jvm.MethodName) ({ cls := "java/lang/StringBuilder", name := "charAt", desc := "(I)C" } : Jvm.MethodName)) ∈ lwG := lw_5 204 rfl rfl
theorem gw_5_205 : (Jvm.Cond.code ({ cls := "java/lang/StringBuilder", name := "charAt", desc := "(I)C" } : Jvm.MethodName) prog_24_method_88_code (2 : Nat) (Option.some Jvm.ClassFile.FieldType.char)) ∈ lwG := lw_5 205 rfl rfl
theorem gw_5_206 : (Jvm.Cond.methodLink "java/lang/StringBuilder" (329 : Nat) ({ cls := "java/lang/AbstractStringBuilder", name := "charAt", desc := "(I)C" } : Jvm.MethodName)) ∈ lwG := lw_5 206 rfl rfl
theorem gw_5_207 : (Jvm.Cond.instanceMethod ({ cls := "java/lang/AbstractStringBuilder", name := "charAt", desc := "(I)C" } : Jvm.MethodName)) ∈ lwG := lw_5 207 rfl rfl
theorem gw_5_208 : (Jvm.Cond.code ({ cls := "java/lang/AbstractStringBuilder", name := "charAt", desc := "(I)C" } : Jvm.MethodName) prog_10_method_14_code (5 : Nat) (Option.some Jvm.ClassFile.FieldType.char)) ∈ lwG := lw_5 208 rfl rfl
theorem gw_5_209 : (Jvm.Cond.methodLink "java/lang/AbstractStringBuilder" (138 : Nat) ({ cls := "java/lang/Math", name := "min", desc := "(II)I" } : Jvm.MethodName)) ∈ lwG := lw_5 209 rfl rfl
theorem gw_5_210 : (Jvm.Cond.methodLink "java/lang/AbstractStringBuilder" (144 : Nat) ({ cls := "java/lang/String", name := "checkIndex", desc := "(II)V" } : Jvm.MethodName)) ∈ lwG := lw_5 210 rfl rfl
theorem gw_5_211 : (Jvm.Cond.methodLink "java/lang/AbstractStringBuilder" (148 : Nat) ({ cls := "java/lang/StringUTF16", name := "getChar", desc := "([BI)C" } : Jvm.MethodName)) ∈ lwG := lw_5 211 rfl rfl
theorem gw_5_212 : (Jvm.Cond.static ({ cls := "java/lang/StringUTF16", name := "getChar", desc := "([BI)C" } : Jvm.MethodName)) ∈ lwG := lw_5 212 rfl rfl
theorem gw_5_213 : (Jvm.Cond.code ({ cls := "java/lang/StringUTF16", name := "getChar", desc := "([BI)C" } : Jvm.MethodName) prog_26_method_5_code (2 : Nat) (Option.some Jvm.ClassFile.FieldType.char)) ∈ lwG := lw_5 213 rfl rfl
theorem gw_5_214 : (Jvm.Cond.methodLink "RunbookerLaw" (331 : Nat) ({ cls := "RunbookerLaw", name := "doneShare", desc := "(LRunbooker;[D)I" } : Jvm.MethodName)) ∈ lwG := lw_5 214 rfl rfl
theorem gw_5_215 : (Jvm.Cond.static ({ cls := "RunbookerLaw", name := "doneShare", desc := "(LRunbooker;[D)I" } : Jvm.MethodName)) ∈ lwG := lw_5 215 rfl rfl
theorem gw_5_216 : (Jvm.Cond.codeWith ({ cls := "RunbookerLaw", name := "doneShare", desc := "(LRunbooker;[D)I" } : Jvm.MethodName) method_43_code (3 : Nat) (Option.some Jvm.ClassFile.FieldType.int) [((0 : Nat), (8 : Nat), (11 : Nat), (15 : Nat))]) ∈ lwG := lw_5 216 rfl rfl
theorem gw_5_217 : (Jvm.Cond.methodLink "RunbookerLaw" (150 : Nat) ({ cls := "Runbooker", name := "doneShare", desc := "()F" } : Jvm.MethodName)) ∈ lwG := lw_5 217 rfl rfl
theorem gw_5_218 : (Jvm.Cond.instanceMethod ({ cls := "Runbooker", name := "doneShare", desc := "()F" } : Jvm.MethodName)) ∈ lwG := lw_5 218 rfl rfl
theorem gw_5_219 : (Jvm.Cond.selects "Runbooker" ({ cls := "Runbooker", name := "doneShare", desc := "()F" } : Jvm.MethodName) ({ cls := "Runbooker", name := "doneShare", desc := "()F" } : Jvm.MethodName)) ∈ lwG := lw_5 219 rfl rfl
theorem gw_5_220 : (Jvm.Cond.code ({ cls := "Runbooker", name := "doneShare", desc := "()F" } : Jvm.MethodName) prog_1_method_51_code (1 : Nat) (Option.some Jvm.ClassFile.FieldType.float)) ∈ lwG := lw_5 220 rfl rfl
theorem gw_5_221 : (Jvm.Cond.methodLink "Runbooker" (389 : Nat) ({ cls := "Runbooker$Progress", name := "divisor", desc := "()I" } : Jvm.MethodName)) ∈ lwG := lw_5 221 rfl rfl
theorem gw_5_222 : (Jvm.Cond.instanceMethod ({ cls := "Runbooker$Progress", name := "divisor", desc := "()I" } : Jvm.MethodName)) ∈ lwG := lw_5 222 rfl rfl
theorem gw_5_223 : (Jvm.Cond.selects "Runbooker$Progress" ({ cls := "Runbooker$Progress", name := "divisor", desc := "()I" } : Jvm.MethodName) ({ cls := "Runbooker$Progress", name := "divisor", desc := "()I" } : Jvm.MethodName)) ∈ lwG := lw_5 223 rfl rfl
theorem gw_5_224 : (Jvm.Cond.code ({ cls := "Runbooker$Progress", name := "divisor", desc := "()I" } : Jvm.MethodName) prog_6_method_13_code (1 : Nat) (Option.some Jvm.ClassFile.FieldType.int)) ∈ lwG := lw_5 224 rfl rfl
theorem gw_5_225 : (Jvm.Cond.methodLink "Runbooker$Progress" (57 : Nat) ({ cls := "java/lang/Math", name := "max", desc := "(II)I" } : Jvm.MethodName)) ∈ lwG := lw_5 225 rfl rfl
theorem gw_5_226 : (Jvm.Cond.methodLink "RunbookerLaw" (335 : Nat) ({ cls := "RunbookerLaw", name := "meanTries", desc := "(LRunbooker;[D)I" } : Jvm.MethodName)) ∈ lwG := lw_5 226 rfl rfl
theorem gw_5_227 : (Jvm.Cond.static ({ cls := "RunbookerLaw", name := "meanTries", desc := "(LRunbooker;[D)I" } : Jvm.MethodName)) ∈ lwG := lw_5 227 rfl rfl
theorem gw_5_228 : (Jvm.Cond.codeWith ({ cls := "RunbookerLaw", name := "meanTries", desc := "(LRunbooker;[D)I" } : Jvm.MethodName) method_44_code (3 : Nat) (Option.some Jvm.ClassFile.FieldType.int) [((0 : Nat), (7 : Nat), (10 : Nat), (15 : Nat))]) ∈ lwG := lw_5 228 rfl rfl
theorem gw_5_229 : (Jvm.Cond.methodLink "RunbookerLaw" (154 : Nat) ({ cls := "Runbooker", name := "meanTries", desc := "()D" } : Jvm.MethodName)) ∈ lwG := lw_5 229 rfl rfl
theorem gw_5_230 : (Jvm.Cond.instanceMethod ({ cls := "Runbooker", name := "meanTries", desc := "()D" } : Jvm.MethodName)) ∈ lwG := lw_5 230 rfl rfl
theorem gw_5_231 : (Jvm.Cond.selects "Runbooker" ({ cls := "Runbooker", name := "meanTries", desc := "()D" } : Jvm.MethodName) ({ cls := "Runbooker", name := "meanTries", desc := "()D" } : Jvm.MethodName)) ∈ lwG := lw_5 231 rfl rfl
theorem gw_5_232 : (Jvm.Cond.code ({ cls := "Runbooker", name := "meanTries", desc := "()D" } : Jvm.MethodName) prog_1_method_52_code (1 : Nat) (Option.some Jvm.ClassFile.FieldType.double)) ∈ lwG := lw_5 232 rfl rfl
theorem gw_5_233 : (Jvm.Cond.methodLink "Runbooker" (392 : Nat) ({ cls := "Runbooker$Progress", name := "sumOfTries", desc := "()I" } : Jvm.MethodName)) ∈ lwG := lw_5 233 rfl rfl
theorem gw_5_234 : (Jvm.Cond.instanceMethod ({ cls := "Runbooker$Progress", name := "sumOfTries", desc := "()I" } : Jvm.MethodName)) ∈ lwG := lw_5 234 rfl rfl
theorem gw_5_235 : (Jvm.Cond.selects "Runbooker$Progress" ({ cls := "Runbooker$Progress", name := "sumOfTries", desc := "()I" } : Jvm.MethodName) ({ cls := "Runbooker$Progress", name := "sumOfTries", desc := "()I" } : Jvm.MethodName)) ∈ lwG := lw_5 235 rfl rfl
theorem gw_5_236 : (Jvm.Cond.code ({ cls := "Runbooker$Progress", name := "sumOfTries", desc := "()I" } : Jvm.MethodName) prog_6_method_12_code (3 : Nat) (Option.some Jvm.ClassFile.FieldType.int)) ∈ lwG := lw_5 236 rfl rfl
theorem gw_5_237 : (Jvm.Cond.classLink "RunbookerLaw" (159 : Nat) "RunbookerModel") ∈ lwG := lw_5 237 rfl rfl
theorem gw_5_238 : (Jvm.Cond.instantiable "RunbookerModel" (39 : Nat)) ∈ lwG := lw_5 238 rfl rfl
theorem gw_5_239 : (Jvm.Cond.methodLink "RunbookerLaw" (161 : Nat) ({ cls := "RunbookerModel", name := "<init>", desc := "()V" } : Jvm.MethodName)) ∈ lwG := lw_5 239 rfl rfl
theorem gw_6_0 : (Jvm.Cond.instanceMethod ({ cls := "RunbookerModel", name := "<init>", desc := "()V" } : Jvm.MethodName)) ∈ lwG := lw_6 0 rfl rfl
theorem gw_6_1 : (Jvm.Cond.code ({ cls := "RunbookerModel", name := "<init>", desc := "()V" } : Jvm.MethodName) prog_8_method_1_code (1 : Nat) (Option.none : Option Jvm.ClassFile.FieldType)) ∈ lwG := lw_6 1 rfl rfl
theorem gw_6_2 : (Jvm.Cond.methodLink "RunbookerModel" (1 : Nat) ({ cls := "java/lang/Object", name := "<init>", desc := "()V" } : Jvm.MethodName)) ∈ lwG := lw_6 2 rfl rfl
theorem gw_6_3 : (Jvm.Cond.fieldLink "RunbookerModel" (97 : Nat) "RunbookerModel" "thrown" "I") ∈ lwG := lw_6 3 rfl rfl
theorem gw_6_4 : (Jvm.Cond.fieldLink "RunbookerModel" (9 : Nat) "RunbookerModel" "roles" "[I") ∈ lwG := lw_6 4 rfl rfl
theorem gw_6_5 : (Jvm.Cond.fieldLink "RunbookerModel" (13 : Nat) "RunbookerModel" "readings" "[I") ∈ lwG := lw_6 5 rfl rfl
theorem gw_6_6 : (Jvm.Cond.fieldLink "RunbookerModel" (16 : Nat) "RunbookerModel" "roleOf" "[I") ∈ lwG := lw_6 6 rfl rfl
theorem gw_6_7 : (Jvm.Cond.fieldLink "RunbookerModel" (19 : Nat) "RunbookerModel" "lengths" "[I") ∈ lwG := lw_6 7 rfl rfl
theorem gw_6_8 : (Jvm.Cond.fieldLink "RunbookerModel" (22 : Nat) "RunbookerModel" "limits" "[I") ∈ lwG := lw_6 8 rfl rfl
theorem gw_6_9 : (Jvm.Cond.fieldLink "RunbookerModel" (25 : Nat) "RunbookerModel" "needs" "[I") ∈ lwG := lw_6 9 rfl rfl
theorem gw_6_10 : (Jvm.Cond.fieldLink "RunbookerModel" (28 : Nat) "RunbookerModel" "fallbacks" "[I") ∈ lwG := lw_6 10 rfl rfl
theorem gw_6_11 : (Jvm.Cond.fieldLink "RunbookerModel" (31 : Nat) "RunbookerModel" "conditions" "[I") ∈ lwG := lw_6 11 rfl rfl
theorem gw_6_12 : (Jvm.Cond.fieldLink "RunbookerModel" (34 : Nat) "RunbookerModel" "sensors" "[I") ∈ lwG := lw_6 12 rfl rfl
theorem gw_6_13 : (Jvm.Cond.fieldLink "RunbookerModel" (37 : Nat) "RunbookerModel" "bounds" "[I") ∈ lwG := lw_6 13 rfl rfl
theorem gw_6_14 : (Jvm.Cond.fieldLink "RunbookerModel" (40 : Nat) "RunbookerModel" "seen" "[I") ∈ lwG := lw_6 14 rfl rfl
theorem gw_6_15 : (Jvm.Cond.fieldLink "RunbookerModel" (43 : Nat) "RunbookerModel" "joins" "[C") ∈ lwG := lw_6 15 rfl rfl
theorem gw_6_16 : (Jvm.Cond.fieldLink "RunbookerModel" (47 : Nat) "RunbookerModel" "signs" "[C") ∈ lwG := lw_6 16 rfl rfl
theorem gw_6_17 : (Jvm.Cond.fieldLink "RunbookerModel" (50 : Nat) "RunbookerModel" "isOn" "[Z") ∈ lwG := lw_6 17 rfl rfl
theorem gw_6_18 : (Jvm.Cond.fieldLink "RunbookerModel" (54 : Nat) "RunbookerModel" "isReversible" "[Z") ∈ lwG := lw_6 18 rfl rfl
theorem gw_6_19 : (Jvm.Cond.fieldLink "RunbookerModel" (57 : Nat) "RunbookerModel" "isBegun" "[Z") ∈ lwG := lw_6 19 rfl rfl
theorem gw_6_20 : (Jvm.Cond.fieldLink "RunbookerModel" (100 : Nat) "RunbookerModel" "people" "I") ∈ lwG := lw_6 20 rfl rfl
theorem gw_6_21 : (Jvm.Cond.fieldLink "RunbookerModel" (107 : Nat) "RunbookerModel" "steps" "I") ∈ lwG := lw_6 21 rfl rfl
theorem gw_6_22 : (Jvm.Cond.fieldLink "RunbookerModel" (147 : Nat) "RunbookerModel" "clock" "I") ∈ lwG := lw_6 22 rfl rfl
theorem gw_6_23 : (Jvm.Cond.fieldLink "RunbookerModel" (199 : Nat) "RunbookerModel" "worked" "J") ∈ lwG := lw_6 23 rfl rfl
theorem gw_6_24 : (Jvm.Cond.fieldLink "RunbookerModel" (60 : Nat) "RunbookerModel" "states" "[C") ∈ lwG := lw_6 24 rfl rfl
theorem gw_6_25 : (Jvm.Cond.fieldLink "RunbookerModel" (63 : Nat) "RunbookerModel" "tries" "[I") ∈ lwG := lw_6 25 rfl rfl
theorem gw_6_26 : (Jvm.Cond.fieldLink "RunbookerModel" (66 : Nat) "RunbookerModel" "workers" "[I") ∈ lwG := lw_6 26 rfl rfl
theorem gw_6_27 : (Jvm.Cond.fieldLink "RunbookerModel" (69 : Nat) "RunbookerModel" "minutes" "[I") ∈ lwG := lw_6 27 rfl rfl
theorem gw_6_28 : (Jvm.Cond.fieldLink "RunbookerModel" (72 : Nat) "RunbookerModel" "doneRow" "[I") ∈ lwG := lw_6 28 rfl rfl
theorem gw_6_29 : (Jvm.Cond.fieldLink "RunbookerModel" (124 : Nat) "RunbookerModel" "isRunning" "Z") ∈ lwG := lw_6 29 rfl rfl
theorem gw_6_30 : (Jvm.Cond.fieldLink "RunbookerModel" (165 : Nat) "RunbookerModel" "wasRun" "Z") ∈ lwG := lw_6 30 rfl rfl
theorem gw_6_31 : (Jvm.Cond.fieldLink "RunbookerModel" (168 : Nat) "RunbookerModel" "runSteps" "I") ∈ lwG := lw_6 31 rfl rfl
theorem gw_6_32 : (Jvm.Cond.fieldLink "RunbookerModel" (171 : Nat) "RunbookerModel" "doneMany" "I") ∈ lwG := lw_6 32 rfl rfl
theorem gw_6_33 : (Jvm.Cond.fieldLink "RunbookerModel" (75 : Nat) "RunbookerModel" "from" "I") ∈ lwG := lw_6 33 rfl rfl
theorem gw_6_34 : (Jvm.Cond.fieldLink "RunbookerModel" (79 : Nat) "RunbookerModel" "to" "I") ∈ lwG := lw_6 34 rfl rfl
theorem gw_6_35 : (Jvm.Cond.fieldLink "RunbookerModel" (196 : Nat) "RunbookerModel" "end" "I") ∈ lwG := lw_6 35 rfl rfl
theorem gw_6_36 : (Jvm.Cond.fieldLink "RunbookerModel" (82 : Nat) "RunbookerModel" "logSigns" "[C") ∈ lwG := lw_6 36 rfl rfl
theorem gw_6_37 : (Jvm.Cond.fieldLink "RunbookerModel" (85 : Nat) "RunbookerModel" "logSteps" "[I") ∈ lwG := lw_6 37 rfl rfl
theorem gw_6_38 : (Jvm.Cond.fieldLink "RunbookerModel" (88 : Nat) "RunbookerModel" "logPeople" "[I") ∈ lwG := lw_6 38 rfl rfl
theorem gw_6_39 : (Jvm.Cond.fieldLink "RunbookerModel" (91 : Nat) "RunbookerModel" "logMinutes" "[I") ∈ lwG := lw_6 39 rfl rfl
theorem gw_6_40 : (Jvm.Cond.fieldLink "RunbookerModel" (144 : Nat) "RunbookerModel" "entries" "I") ∈ lwG := lw_6 40 rfl rfl
theorem gw_6_41 : (Jvm.Cond.fieldLink "RunbookerModel" (94 : Nat) "RunbookerModel" "rests" "[I") ∈ lwG := lw_6 41 rfl rfl
theorem gw_6_42 : (Jvm.Cond.lays "RunbookerModel" "RunbookerModel" "thrown" "I") ∈ lwG := lw_6 42 rfl rfl
theorem gw_6_44 : (Jvm.Cond.laysFinal "RunbookerModel" "RunbookerModel" "roles" "[I") ∈ lwG := lw_6 44 rfl rfl
theorem gw_6_46 : (Jvm.Cond.laysFinal "RunbookerModel" "RunbookerModel" "readings" "[I") ∈ lwG := lw_6 46 rfl rfl
theorem gw_6_48 : (Jvm.Cond.laysFinal "RunbookerModel" "RunbookerModel" "roleOf" "[I") ∈ lwG := lw_6 48 rfl rfl
theorem gw_6_50 : (Jvm.Cond.laysFinal "RunbookerModel" "RunbookerModel" "lengths" "[I") ∈ lwG := lw_6 50 rfl rfl
theorem gw_6_52 : (Jvm.Cond.laysFinal "RunbookerModel" "RunbookerModel" "limits" "[I") ∈ lwG := lw_6 52 rfl rfl
theorem gw_6_54 : (Jvm.Cond.laysFinal "RunbookerModel" "RunbookerModel" "needs" "[I") ∈ lwG := lw_6 54 rfl rfl
theorem gw_6_56 : (Jvm.Cond.laysFinal "RunbookerModel" "RunbookerModel" "fallbacks" "[I") ∈ lwG := lw_6 56 rfl rfl
theorem gw_6_58 : (Jvm.Cond.laysFinal "RunbookerModel" "RunbookerModel" "conditions" "[I") ∈ lwG := lw_6 58 rfl rfl
theorem gw_6_60 : (Jvm.Cond.laysFinal "RunbookerModel" "RunbookerModel" "sensors" "[I") ∈ lwG := lw_6 60 rfl rfl
theorem gw_6_62 : (Jvm.Cond.laysFinal "RunbookerModel" "RunbookerModel" "bounds" "[I") ∈ lwG := lw_6 62 rfl rfl
theorem gw_6_64 : (Jvm.Cond.laysFinal "RunbookerModel" "RunbookerModel" "seen" "[I") ∈ lwG := lw_6 64 rfl rfl
theorem gw_6_66 : (Jvm.Cond.laysFinal "RunbookerModel" "RunbookerModel" "joins" "[C") ∈ lwG := lw_6 66 rfl rfl
theorem gw_6_68 : (Jvm.Cond.laysFinal "RunbookerModel" "RunbookerModel" "signs" "[C") ∈ lwG := lw_6 68 rfl rfl
theorem gw_6_70 : (Jvm.Cond.laysFinal "RunbookerModel" "RunbookerModel" "isOn" "[Z") ∈ lwG := lw_6 70 rfl rfl
theorem gw_6_72 : (Jvm.Cond.laysFinal "RunbookerModel" "RunbookerModel" "isReversible" "[Z") ∈ lwG := lw_6 72 rfl rfl
theorem gw_6_74 : (Jvm.Cond.laysFinal "RunbookerModel" "RunbookerModel" "isBegun" "[Z") ∈ lwG := lw_6 74 rfl rfl
theorem gw_6_76 : (Jvm.Cond.lays "RunbookerModel" "RunbookerModel" "people" "I") ∈ lwG := lw_6 76 rfl rfl
theorem gw_6_78 : (Jvm.Cond.lays "RunbookerModel" "RunbookerModel" "steps" "I") ∈ lwG := lw_6 78 rfl rfl
theorem gw_6_80 : (Jvm.Cond.lays "RunbookerModel" "RunbookerModel" "clock" "I") ∈ lwG := lw_6 80 rfl rfl
theorem gw_6_82 : (Jvm.Cond.lays "RunbookerModel" "RunbookerModel" "worked" "J") ∈ lwG := lw_6 82 rfl rfl
theorem gw_6_84 : (Jvm.Cond.laysFinal "RunbookerModel" "RunbookerModel" "states" "[C") ∈ lwG := lw_6 84 rfl rfl
theorem gw_6_86 : (Jvm.Cond.laysFinal "RunbookerModel" "RunbookerModel" "tries" "[I") ∈ lwG := lw_6 86 rfl rfl
theorem gw_6_88 : (Jvm.Cond.laysFinal "RunbookerModel" "RunbookerModel" "workers" "[I") ∈ lwG := lw_6 88 rfl rfl
theorem gw_6_90 : (Jvm.Cond.laysFinal "RunbookerModel" "RunbookerModel" "minutes" "[I") ∈ lwG := lw_6 90 rfl rfl
theorem gw_6_92 : (Jvm.Cond.laysFinal "RunbookerModel" "RunbookerModel" "doneRow" "[I") ∈ lwG := lw_6 92 rfl rfl
theorem gw_6_94 : (Jvm.Cond.lays "RunbookerModel" "RunbookerModel" "isRunning" "Z") ∈ lwG := lw_6 94 rfl rfl
theorem gw_6_96 : (Jvm.Cond.lays "RunbookerModel" "RunbookerModel" "wasRun" "Z") ∈ lwG := lw_6 96 rfl rfl
theorem gw_6_98 : (Jvm.Cond.lays "RunbookerModel" "RunbookerModel" "runSteps" "I") ∈ lwG := lw_6 98 rfl rfl
theorem gw_6_100 : (Jvm.Cond.lays "RunbookerModel" "RunbookerModel" "doneMany" "I") ∈ lwG := lw_6 100 rfl rfl
theorem gw_6_102 : (Jvm.Cond.lays "RunbookerModel" "RunbookerModel" "from" "I") ∈ lwG := lw_6 102 rfl rfl
theorem gw_6_104 : (Jvm.Cond.lays "RunbookerModel" "RunbookerModel" "to" "I") ∈ lwG := lw_6 104 rfl rfl
theorem gw_6_106 : (Jvm.Cond.lays "RunbookerModel" "RunbookerModel" "end" "I") ∈ lwG := lw_6 106 rfl rfl
theorem gw_6_108 : (Jvm.Cond.laysFinal "RunbookerModel" "RunbookerModel" "logSigns" "[C") ∈ lwG := lw_6 108 rfl rfl
theorem gw_6_110 : (Jvm.Cond.laysFinal "RunbookerModel" "RunbookerModel" "logSteps" "[I") ∈ lwG := lw_6 110 rfl rfl
theorem gw_6_112 : (Jvm.Cond.laysFinal "RunbookerModel" "RunbookerModel" "logPeople" "[I") ∈ lwG := lw_6 112 rfl rfl
theorem gw_6_114 : (Jvm.Cond.laysFinal "RunbookerModel" "RunbookerModel" "logMinutes" "[I") ∈ lwG := lw_6 114 rfl rfl
theorem gw_6_116 : (Jvm.Cond.lays "RunbookerModel" "RunbookerModel" "entries" "I") ∈ lwG := lw_6 116 rfl rfl
theorem gw_6_118 : (Jvm.Cond.laysFinal "RunbookerModel" "RunbookerModel" "rests" "[I") ∈ lwG := lw_6 118 rfl rfl
theorem gw_6_120 : (Jvm.Cond.superclass "RunbookerModel" "java/lang/Object") ∈ lwG := lw_6 120 rfl rfl
theorem gw_6_121 : (Jvm.Cond.methodLink "RunbookerLaw" (168 : Nat) ({ cls := "RunbookerModel", name := "thrown", desc := "()I" } : Jvm.MethodName)) ∈ lwG := lw_6 121 rfl rfl
theorem gw_6_122 : (Jvm.Cond.instanceMethod ({ cls := "RunbookerModel", name := "thrown", desc := "()I" } : Jvm.MethodName)) ∈ lwG := lw_6 122 rfl rfl
theorem gw_6_123 : (Jvm.Cond.selects "RunbookerModel" ({ cls := "RunbookerModel", name := "thrown", desc := "()I" } : Jvm.MethodName) ({ cls := "RunbookerModel", name := "thrown", desc := "()I" } : Jvm.MethodName)) ∈ lwG := lw_6 123 rfl rfl
theorem gw_6_124 : (Jvm.Cond.code ({ cls := "RunbookerModel", name := "thrown", desc := "()I" } : Jvm.MethodName) prog_8_method_2_code (1 : Nat) (Option.some Jvm.ClassFile.FieldType.int)) ∈ lwG := lw_6 124 rfl rfl
theorem gw_6_125 : (Jvm.Cond.methodLink "RunbookerLaw" (167 : Nat) ({ cls := "RunbookerModel", name := "addPerson", desc := "(I)I" } : Jvm.MethodName)) ∈ lwG := lw_6 125 rfl rfl
theorem gw_6_126 : (Jvm.Cond.instanceMethod ({ cls := "RunbookerModel", name := "addPerson", desc := "(I)I" } : Jvm.MethodName)) ∈ lwG := lw_6 126 rfl rfl
theorem gw_6_127 : (Jvm.Cond.selects "RunbookerModel" ({ cls := "RunbookerModel", name := "addPerson", desc := "(I)I" } : Jvm.MethodName) ({ cls := "RunbookerModel", name := "addPerson", desc := "(I)I" } : Jvm.MethodName)) ∈ lwG := lw_6 127 rfl rfl
theorem gw_6_128 : (Jvm.Cond.code ({ cls := "RunbookerModel", name := "addPerson", desc := "(I)I" } : Jvm.MethodName) prog_8_method_9_code (2 : Nat) (Option.some Jvm.ClassFile.FieldType.int)) ∈ lwG := lw_6 128 rfl rfl
theorem gw_6_129 : (Jvm.Cond.methodLink "RunbookerModel" (103 : Nat) ({ cls := "RunbookerModel", name := "isBetween", desc := "(III)Z" } : Jvm.MethodName)) ∈ lwG := lw_6 129 rfl rfl
theorem gw_6_130 : (Jvm.Cond.static ({ cls := "RunbookerModel", name := "isBetween", desc := "(III)Z" } : Jvm.MethodName)) ∈ lwG := lw_6 130 rfl rfl
theorem gw_6_131 : (Jvm.Cond.code ({ cls := "RunbookerModel", name := "isBetween", desc := "(III)Z" } : Jvm.MethodName) prog_8_method_5_code (3 : Nat) (Option.some Jvm.ClassFile.FieldType.boolean)) ∈ lwG := lw_6 131 rfl rfl
theorem gw_6_132 : (Jvm.Cond.methodLink "RunbookerModel" (110 : Nat) ({ cls := "RunbookerModel", name := "fails", desc := "(I)I" } : Jvm.MethodName)) ∈ lwG := lw_6 132 rfl rfl
theorem gw_6_134 : (Jvm.Cond.instanceMethod ({ cls := "RunbookerModel", name := "fails", desc := "(I)I" } : Jvm.MethodName)) ∈ lwG := lw_6 134 rfl rfl
theorem gw_6_135 : (Jvm.Cond.code ({ cls := "RunbookerModel", name := "fails", desc := "(I)I" } : Jvm.MethodName) prog_8_method_3_code (2 : Nat) (Option.some Jvm.ClassFile.FieldType.int)) ∈ lwG := lw_6 135 rfl rfl
theorem gw_6_136 : (Jvm.Cond.methodLink "RunbookerLaw" (174 : Nat) ({ cls := "RunbookerModel", name := "setDuty", desc := "(IZ)Z" } : Jvm.MethodName)) ∈ lwG := lw_6 136 rfl rfl
theorem gw_6_137 : (Jvm.Cond.instanceMethod ({ cls := "RunbookerModel", name := "setDuty", desc := "(IZ)Z" } : Jvm.MethodName)) ∈ lwG := lw_6 137 rfl rfl
theorem gw_6_138 : (Jvm.Cond.selects "RunbookerModel" ({ cls := "RunbookerModel", name := "setDuty", desc := "(IZ)Z" } : Jvm.MethodName) ({ cls := "RunbookerModel", name := "setDuty", desc := "(IZ)Z" } : Jvm.MethodName)) ∈ lwG := lw_6 138 rfl rfl
theorem gw_6_139 : (Jvm.Cond.code ({ cls := "RunbookerModel", name := "setDuty", desc := "(IZ)Z" } : Jvm.MethodName) prog_8_method_11_code (4 : Nat) (Option.some Jvm.ClassFile.FieldType.boolean)) ∈ lwG := lw_6 139 rfl rfl
theorem gw_6_140 : (Jvm.Cond.methodLink "RunbookerModel" (114 : Nat) ({ cls := "RunbookerModel", name := "isPerson", desc := "(I)Z" } : Jvm.MethodName)) ∈ lwG := lw_6 140 rfl rfl
theorem gw_6_142 : (Jvm.Cond.instanceMethod ({ cls := "RunbookerModel", name := "isPerson", desc := "(I)Z" } : Jvm.MethodName)) ∈ lwG := lw_6 142 rfl rfl
theorem gw_6_143 : (Jvm.Cond.code ({ cls := "RunbookerModel", name := "isPerson", desc := "(I)Z" } : Jvm.MethodName) prog_8_method_7_code (2 : Nat) (Option.some Jvm.ClassFile.FieldType.boolean)) ∈ lwG := lw_6 143 rfl rfl
theorem gw_6_144 : (Jvm.Cond.methodLink "RunbookerModel" (118 : Nat) ({ cls := "RunbookerModel", name := "isWrong", desc := "(I)Z" } : Jvm.MethodName)) ∈ lwG := lw_6 144 rfl rfl
theorem gw_6_146 : (Jvm.Cond.instanceMethod ({ cls := "RunbookerModel", name := "isWrong", desc := "(I)Z" } : Jvm.MethodName)) ∈ lwG := lw_6 146 rfl rfl
theorem gw_6_147 : (Jvm.Cond.code ({ cls := "RunbookerModel", name := "isWrong", desc := "(I)Z" } : Jvm.MethodName) prog_8_method_4_code (2 : Nat) (Option.some Jvm.ClassFile.FieldType.boolean)) ∈ lwG := lw_6 147 rfl rfl
theorem gw_6_148 : (Jvm.Cond.methodLink "RunbookerModel" (121 : Nat) ({ cls := "RunbookerModel", name := "work", desc := "(I)I" } : Jvm.MethodName)) ∈ lwG := lw_6 148 rfl rfl
theorem gw_6_150 : (Jvm.Cond.instanceMethod ({ cls := "RunbookerModel", name := "work", desc := "(I)I" } : Jvm.MethodName)) ∈ lwG := lw_6 150 rfl rfl
theorem gw_6_151 : (Jvm.Cond.code ({ cls := "RunbookerModel", name := "work", desc := "(I)I" } : Jvm.MethodName) prog_8_method_10_code (3 : Nat) (Option.some Jvm.ClassFile.FieldType.int)) ∈ lwG := lw_6 151 rfl rfl
theorem gw_6_152 : (Jvm.Cond.methodLink "RunbookerLaw" (178 : Nat) ({ cls := "RunbookerModel", name := "addStep", desc := "(IIICZ)I" } : Jvm.MethodName)) ∈ lwG := lw_6 152 rfl rfl
theorem gw_6_153 : (Jvm.Cond.instanceMethod ({ cls := "RunbookerModel", name := "addStep", desc := "(IIICZ)I" } : Jvm.MethodName)) ∈ lwG := lw_6 153 rfl rfl
theorem gw_6_154 : (Jvm.Cond.selects "RunbookerModel" ({ cls := "RunbookerModel", name := "addStep", desc := "(IIICZ)I" } : Jvm.MethodName) ({ cls := "RunbookerModel", name := "addStep", desc := "(IIICZ)I" } : Jvm.MethodName)) ∈ lwG := lw_6 154 rfl rfl
theorem gw_6_155 : (Jvm.Cond.code ({ cls := "RunbookerModel", name := "addStep", desc := "(IIICZ)I" } : Jvm.MethodName) prog_8_method_12_code (6 : Nat) (Option.some Jvm.ClassFile.FieldType.int)) ∈ lwG := lw_6 155 rfl rfl
theorem gw_6_156 : (Jvm.Cond.methodLink "RunbookerLaw" (182 : Nat) ({ cls := "RunbookerModel", name := "need", desc := "(II)I" } : Jvm.MethodName)) ∈ lwG := lw_6 156 rfl rfl
theorem gw_6_157 : (Jvm.Cond.instanceMethod ({ cls := "RunbookerModel", name := "need", desc := "(II)I" } : Jvm.MethodName)) ∈ lwG := lw_6 157 rfl rfl
theorem gw_6_158 : (Jvm.Cond.selects "RunbookerModel" ({ cls := "RunbookerModel", name := "need", desc := "(II)I" } : Jvm.MethodName) ({ cls := "RunbookerModel", name := "need", desc := "(II)I" } : Jvm.MethodName)) ∈ lwG := lw_6 158 rfl rfl
theorem gw_6_159 : (Jvm.Cond.code ({ cls := "RunbookerModel", name := "need", desc := "(II)I" } : Jvm.MethodName) prog_8_method_14_code (3 : Nat) (Option.some Jvm.ClassFile.FieldType.int)) ∈ lwG := lw_6 159 rfl rfl
theorem gw_6_160 : (Jvm.Cond.methodLink "RunbookerModel" (132 : Nat) ({ cls := "RunbookerModel", name := "isStep", desc := "(I)Z" } : Jvm.MethodName)) ∈ lwG := lw_6 160 rfl rfl
theorem gw_6_162 : (Jvm.Cond.instanceMethod ({ cls := "RunbookerModel", name := "isStep", desc := "(I)Z" } : Jvm.MethodName)) ∈ lwG := lw_6 162 rfl rfl
theorem gw_6_163 : (Jvm.Cond.code ({ cls := "RunbookerModel", name := "isStep", desc := "(I)Z" } : Jvm.MethodName) prog_8_method_8_code (2 : Nat) (Option.some Jvm.ClassFile.FieldType.boolean)) ∈ lwG := lw_6 163 rfl rfl
theorem gw_6_164 : (Jvm.Cond.methodLink "RunbookerModel" (128 : Nat) ({ cls := "RunbookerModel", name := "has", desc := "(II)Z" } : Jvm.MethodName)) ∈ lwG := lw_6 164 rfl rfl
theorem gw_6_165 : (Jvm.Cond.static ({ cls := "RunbookerModel", name := "has", desc := "(II)Z" } : Jvm.MethodName)) ∈ lwG := lw_6 165 rfl rfl
theorem gw_6_166 : (Jvm.Cond.code ({ cls := "RunbookerModel", name := "has", desc := "(II)Z" } : Jvm.MethodName) prog_8_method_6_code (2 : Nat) (Option.some Jvm.ClassFile.FieldType.boolean)) ∈ lwG := lw_6 166 rfl rfl
theorem gw_6_167 : (Jvm.Cond.methodLink "RunbookerModel" (135 : Nat) ({ cls := "RunbookerModel", name := "size", desc := "(I)I" } : Jvm.MethodName)) ∈ lwG := lw_6 167 rfl rfl
theorem gw_6_168 : (Jvm.Cond.static ({ cls := "RunbookerModel", name := "size", desc := "(I)I" } : Jvm.MethodName)) ∈ lwG := lw_6 168 rfl rfl
theorem gw_6_169 : (Jvm.Cond.code ({ cls := "RunbookerModel", name := "size", desc := "(I)I" } : Jvm.MethodName) prog_8_method_13_code (3 : Nat) (Option.some Jvm.ClassFile.FieldType.int)) ∈ lwG := lw_6 169 rfl rfl
theorem gw_6_170 : (Jvm.Cond.methodLink "RunbookerLaw" (186 : Nat) ({ cls := "RunbookerModel", name := "condition", desc := "(IICI)I" } : Jvm.MethodName)) ∈ lwG := lw_6 170 rfl rfl
theorem gw_6_171 : (Jvm.Cond.instanceMethod ({ cls := "RunbookerModel", name := "condition", desc := "(IICI)I" } : Jvm.MethodName)) ∈ lwG := lw_6 171 rfl rfl
theorem gw_6_172 : (Jvm.Cond.selects "RunbookerModel" ({ cls := "RunbookerModel", name := "condition", desc := "(IICI)I" } : Jvm.MethodName) ({ cls := "RunbookerModel", name := "condition", desc := "(IICI)I" } : Jvm.MethodName)) ∈ lwG := lw_6 172 rfl rfl
theorem gw_6_173 : (Jvm.Cond.code ({ cls := "RunbookerModel", name := "condition", desc := "(IICI)I" } : Jvm.MethodName) prog_8_method_15_code (6 : Nat) (Option.some Jvm.ClassFile.FieldType.int)) ∈ lwG := lw_6 173 rfl rfl
theorem gw_6_174 : (Jvm.Cond.methodLink "RunbookerLaw" (189 : Nat) ({ cls := "RunbookerModel", name := "setFallback", desc := "(II)I" } : Jvm.MethodName)) ∈ lwG := lw_6 174 rfl rfl
theorem gw_6_175 : (Jvm.Cond.instanceMethod ({ cls := "RunbookerModel", name := "setFallback", desc := "(II)I" } : Jvm.MethodName)) ∈ lwG := lw_6 175 rfl rfl
theorem gw_6_176 : (Jvm.Cond.selects "RunbookerModel" ({ cls := "RunbookerModel", name := "setFallback", desc := "(II)I" } : Jvm.MethodName) ({ cls := "RunbookerModel", name := "setFallback", desc := "(II)I" } : Jvm.MethodName)) ∈ lwG := lw_6 176 rfl rfl
theorem gw_6_177 : (Jvm.Cond.code ({ cls := "RunbookerModel", name := "setFallback", desc := "(II)I" } : Jvm.MethodName) prog_8_method_17_code (4 : Nat) (Option.some Jvm.ClassFile.FieldType.int)) ∈ lwG := lw_6 177 rfl rfl
theorem gw_6_178 : (Jvm.Cond.methodLink "RunbookerModel" (138 : Nat) ({ cls := "RunbookerModel", name := "isFallback", desc := "(I)Z" } : Jvm.MethodName)) ∈ lwG := lw_6 178 rfl rfl
theorem gw_6_180 : (Jvm.Cond.instanceMethod ({ cls := "RunbookerModel", name := "isFallback", desc := "(I)Z" } : Jvm.MethodName)) ∈ lwG := lw_6 180 rfl rfl
theorem gw_6_181 : (Jvm.Cond.code ({ cls := "RunbookerModel", name := "isFallback", desc := "(I)Z" } : Jvm.MethodName) prog_8_method_16_code (3 : Nat) (Option.some Jvm.ClassFile.FieldType.boolean)) ∈ lwG := lw_6 181 rfl rfl
theorem gw_6_182 : (Jvm.Cond.methodLink "RunbookerLaw" (192 : Nat) ({ cls := "RunbookerModel", name := "setReading", desc := "(II)I" } : Jvm.MethodName)) ∈ lwG := lw_6 182 rfl rfl
theorem gw_6_183 : (Jvm.Cond.instanceMethod ({ cls := "RunbookerModel", name := "setReading", desc := "(II)I" } : Jvm.MethodName)) ∈ lwG := lw_6 183 rfl rfl
theorem gw_6_184 : (Jvm.Cond.selects "RunbookerModel" ({ cls := "RunbookerModel", name := "setReading", desc := "(II)I" } : Jvm.MethodName) ({ cls := "RunbookerModel", name := "setReading", desc := "(II)I" } : Jvm.MethodName)) ∈ lwG := lw_6 184 rfl rfl
theorem gw_6_185 : (Jvm.Cond.code ({ cls := "RunbookerModel", name := "setReading", desc := "(II)I" } : Jvm.MethodName) prog_8_method_19_code (4 : Nat) (Option.some Jvm.ClassFile.FieldType.int)) ∈ lwG := lw_6 185 rfl rfl
theorem gw_6_186 : (Jvm.Cond.methodLink "RunbookerModel" (141 : Nat) ({ cls := "RunbookerModel", name := "isSensor", desc := "(I)Z" } : Jvm.MethodName)) ∈ lwG := lw_6 186 rfl rfl
theorem gw_6_187 : (Jvm.Cond.static ({ cls := "RunbookerModel", name := "isSensor", desc := "(I)Z" } : Jvm.MethodName)) ∈ lwG := lw_6 187 rfl rfl
theorem gw_6_188 : (Jvm.Cond.code ({ cls := "RunbookerModel", name := "isSensor", desc := "(I)Z" } : Jvm.MethodName) prog_8_method_18_code (1 : Nat) (Option.some Jvm.ClassFile.FieldType.boolean)) ∈ lwG := lw_6 188 rfl rfl
theorem gw_6_189 : (Jvm.Cond.methodLink "RunbookerLaw" (196 : Nat) ({ cls := "RunbookerModel", name := "start", desc := "()I" } : Jvm.MethodName)) ∈ lwG := lw_6 189 rfl rfl
theorem gw_6_190 : (Jvm.Cond.instanceMethod ({ cls := "RunbookerModel", name := "start", desc := "()I" } : Jvm.MethodName)) ∈ lwG := lw_6 190 rfl rfl
theorem gw_6_191 : (Jvm.Cond.selects "RunbookerModel" ({ cls := "RunbookerModel", name := "start", desc := "()I" } : Jvm.MethodName) ({ cls := "RunbookerModel", name := "start", desc := "()I" } : Jvm.MethodName)) ∈ lwG := lw_6 191 rfl rfl
theorem gw_6_192 : (Jvm.Cond.code ({ cls := "RunbookerModel", name := "start", desc := "()I" } : Jvm.MethodName) prog_8_method_28_code (2 : Nat) (Option.some Jvm.ClassFile.FieldType.int)) ∈ lwG := lw_6 192 rfl rfl
theorem gw_6_193 : (Jvm.Cond.methodLink "RunbookerModel" (174 : Nat) ({ cls := "RunbookerModel", name := "readyMany", desc := "()I" } : Jvm.MethodName)) ∈ lwG := lw_6 193 rfl rfl
theorem gw_6_195 : (Jvm.Cond.instanceMethod ({ cls := "RunbookerModel", name := "readyMany", desc := "()I" } : Jvm.MethodName)) ∈ lwG := lw_6 195 rfl rfl
theorem gw_6_196 : (Jvm.Cond.code ({ cls := "RunbookerModel", name := "readyMany", desc := "()I" } : Jvm.MethodName) prog_8_method_26_code (3 : Nat) (Option.some Jvm.ClassFile.FieldType.int)) ∈ lwG := lw_6 196 rfl rfl
theorem gw_6_197 : (Jvm.Cond.methodLink "RunbookerModel" (162 : Nat) ({ cls := "RunbookerModel", name := "isReadyNow", desc := "(I)Z" } : Jvm.MethodName)) ∈ lwG := lw_6 197 rfl rfl
theorem gw_6_199 : (Jvm.Cond.instanceMethod ({ cls := "RunbookerModel", name := "isReadyNow", desc := "(I)Z" } : Jvm.MethodName)) ∈ lwG := lw_6 199 rfl rfl
theorem gw_6_200 : (Jvm.Cond.code ({ cls := "RunbookerModel", name := "isReadyNow", desc := "(I)Z" } : Jvm.MethodName) prog_8_method_25_code (2 : Nat) (Option.some Jvm.ClassFile.FieldType.boolean)) ∈ lwG := lw_6 200 rfl rfl
theorem gw_6_201 : (Jvm.Cond.methodLink "RunbookerModel" (156 : Nat) ({ cls := "RunbookerModel", name := "areNeedsMet", desc := "(I)Z" } : Jvm.MethodName)) ∈ lwG := lw_6 201 rfl rfl
theorem gw_6_203 : (Jvm.Cond.instanceMethod ({ cls := "RunbookerModel", name := "areNeedsMet", desc := "(I)Z" } : Jvm.MethodName)) ∈ lwG := lw_6 203 rfl rfl
theorem gw_6_204 : (Jvm.Cond.code ({ cls := "RunbookerModel", name := "areNeedsMet", desc := "(I)Z" } : Jvm.MethodName) prog_8_method_24_code (5 : Nat) (Option.some Jvm.ClassFile.FieldType.boolean)) ∈ lwG := lw_6 204 rfl rfl
theorem gw_6_205 : (Jvm.Cond.methodLink "RunbookerModel" (153 : Nat) ({ cls := "RunbookerModel", name := "isSettledNow", desc := "(I)Z" } : Jvm.MethodName)) ∈ lwG := lw_6 205 rfl rfl
theorem gw_6_207 : (Jvm.Cond.instanceMethod ({ cls := "RunbookerModel", name := "isSettledNow", desc := "(I)Z" } : Jvm.MethodName)) ∈ lwG := lw_6 207 rfl rfl
theorem gw_6_208 : (Jvm.Cond.code ({ cls := "RunbookerModel", name := "isSettledNow", desc := "(I)Z" } : Jvm.MethodName) prog_8_method_23_code (3 : Nat) (Option.some Jvm.ClassFile.FieldType.boolean)) ∈ lwG := lw_6 208 rfl rfl
theorem gw_6_209 : (Jvm.Cond.methodLink "RunbookerModel" (159 : Nat) ({ cls := "RunbookerModel", name := "isGuarded", desc := "(I)Z" } : Jvm.MethodName)) ∈ lwG := lw_6 209 rfl rfl
theorem gw_6_211 : (Jvm.Cond.instanceMethod ({ cls := "RunbookerModel", name := "isGuarded", desc := "(I)Z" } : Jvm.MethodName)) ∈ lwG := lw_6 211 rfl rfl
theorem gw_6_212 : (Jvm.Cond.code ({ cls := "RunbookerModel", name := "isGuarded", desc := "(I)Z" } : Jvm.MethodName) prog_8_method_22_code (3 : Nat) (Option.some Jvm.ClassFile.FieldType.boolean)) ∈ lwG := lw_6 212 rfl rfl
theorem gw_6_213 : (Jvm.Cond.methodLink "RunbookerModel" (150 : Nat) ({ cls := "RunbookerModel", name := "isMet", desc := "(I)Z" } : Jvm.MethodName)) ∈ lwG := lw_6 213 rfl rfl
theorem gw_6_215 : (Jvm.Cond.instanceMethod ({ cls := "RunbookerModel", name := "isMet", desc := "(I)Z" } : Jvm.MethodName)) ∈ lwG := lw_6 215 rfl rfl
theorem gw_6_216 : (Jvm.Cond.code ({ cls := "RunbookerModel", name := "isMet", desc := "(I)Z" } : Jvm.MethodName) prog_8_method_21_code (3 : Nat) (Option.some Jvm.ClassFile.FieldType.boolean)) ∈ lwG := lw_6 216 rfl rfl
theorem gw_6_217 : (Jvm.Cond.methodLink "RunbookerLaw" (199 : Nat) ({ cls := "RunbookerModel", name := "close", desc := "()I" } : Jvm.MethodName)) ∈ lwG := lw_6 217 rfl rfl
theorem gw_6_218 : (Jvm.Cond.instanceMethod ({ cls := "RunbookerModel", name := "close", desc := "()I" } : Jvm.MethodName)) ∈ lwG := lw_6 218 rfl rfl
theorem gw_6_219 : (Jvm.Cond.selects "RunbookerModel" ({ cls := "RunbookerModel", name := "close", desc := "()I" } : Jvm.MethodName) ({ cls := "RunbookerModel", name := "close", desc := "()I" } : Jvm.MethodName)) ∈ lwG := lw_6 219 rfl rfl
theorem gw_6_220 : (Jvm.Cond.code ({ cls := "RunbookerModel", name := "close", desc := "()I" } : Jvm.MethodName) prog_8_method_29_code (1 : Nat) (Option.some Jvm.ClassFile.FieldType.int)) ∈ lwG := lw_6 220 rfl rfl
theorem gw_6_221 : (Jvm.Cond.methodLink "RunbookerModel" (178 : Nat) ({ cls := "RunbookerModel", name := "many", desc := "(C)I" } : Jvm.MethodName)) ∈ lwG := lw_6 221 rfl rfl
theorem gw_6_223 : (Jvm.Cond.instanceMethod ({ cls := "RunbookerModel", name := "many", desc := "(C)I" } : Jvm.MethodName)) ∈ lwG := lw_6 223 rfl rfl
theorem gw_6_224 : (Jvm.Cond.code ({ cls := "RunbookerModel", name := "many", desc := "(C)I" } : Jvm.MethodName) prog_8_method_27_code (4 : Nat) (Option.some Jvm.ClassFile.FieldType.int)) ∈ lwG := lw_6 224 rfl rfl
theorem gw_6_225 : (Jvm.Cond.methodLink "RunbookerLaw" (202 : Nat) ({ cls := "RunbookerModel", name := "begin", desc := "(II)I" } : Jvm.MethodName)) ∈ lwG := lw_6 225 rfl rfl
theorem gw_6_226 : (Jvm.Cond.instanceMethod ({ cls := "RunbookerModel", name := "begin", desc := "(II)I" } : Jvm.MethodName)) ∈ lwG := lw_6 226 rfl rfl
theorem gw_6_227 : (Jvm.Cond.selects "RunbookerModel" ({ cls := "RunbookerModel", name := "begin", desc := "(II)I" } : Jvm.MethodName) ({ cls := "RunbookerModel", name := "begin", desc := "(II)I" } : Jvm.MethodName)) ∈ lwG := lw_6 227 rfl rfl
theorem gw_6_228 : (Jvm.Cond.code ({ cls := "RunbookerModel", name := "begin", desc := "(II)I" } : Jvm.MethodName) prog_8_method_32_code (4 : Nat) (Option.some Jvm.ClassFile.FieldType.int)) ∈ lwG := lw_6 228 rfl rfl
theorem gw_6_229 : (Jvm.Cond.methodLink "RunbookerModel" (182 : Nat) ({ cls := "RunbookerModel", name := "isFree", desc := "(I)Z" } : Jvm.MethodName)) ∈ lwG := lw_6 229 rfl rfl
theorem gw_6_231 : (Jvm.Cond.instanceMethod ({ cls := "RunbookerModel", name := "isFree", desc := "(I)Z" } : Jvm.MethodName)) ∈ lwG := lw_6 231 rfl rfl
theorem gw_6_232 : (Jvm.Cond.code ({ cls := "RunbookerModel", name := "isFree", desc := "(I)Z" } : Jvm.MethodName) prog_8_method_31_code (2 : Nat) (Option.some Jvm.ClassFile.FieldType.boolean)) ∈ lwG := lw_6 232 rfl rfl
theorem gw_6_233 : (Jvm.Cond.methodLink "RunbookerModel" (185 : Nat) ({ cls := "RunbookerModel", name := "isPausedNow", desc := "(I)Z" } : Jvm.MethodName)) ∈ lwG := lw_6 233 rfl rfl
theorem gw_6_235 : (Jvm.Cond.instanceMethod ({ cls := "RunbookerModel", name := "isPausedNow", desc := "(I)Z" } : Jvm.MethodName)) ∈ lwG := lw_6 235 rfl rfl
theorem gw_6_236 : (Jvm.Cond.code ({ cls := "RunbookerModel", name := "isPausedNow", desc := "(I)Z" } : Jvm.MethodName) prog_8_method_30_code (2 : Nat) (Option.some Jvm.ClassFile.FieldType.boolean)) ∈ lwG := lw_6 236 rfl rfl
theorem gw_6_237 : (Jvm.Cond.methodLink "RunbookerModel" (188 : Nat) ({ cls := "RunbookerModel", name := "logs", desc := "(CII)V" } : Jvm.MethodName)) ∈ lwG := lw_6 237 rfl rfl
theorem gw_6_239 : (Jvm.Cond.instanceMethod ({ cls := "RunbookerModel", name := "logs", desc := "(CII)V" } : Jvm.MethodName)) ∈ lwG := lw_6 239 rfl rfl
theorem gw_7_0 : (Jvm.Cond.code ({ cls := "RunbookerModel", name := "logs", desc := "(CII)V" } : Jvm.MethodName) prog_8_method_20_code (4 : Nat) (Option.none : Option Jvm.ClassFile.FieldType)) ∈ lwG := lw_7 0 rfl rfl
theorem gw_7_1 : (Jvm.Cond.methodLink "RunbookerLaw" (205 : Nat) ({ cls := "RunbookerModel", name := "finish", desc := "(IZ)C" } : Jvm.MethodName)) ∈ lwG := lw_7 1 rfl rfl
theorem gw_7_2 : (Jvm.Cond.instanceMethod ({ cls := "RunbookerModel", name := "finish", desc := "(IZ)C" } : Jvm.MethodName)) ∈ lwG := lw_7 2 rfl rfl
theorem gw_7_3 : (Jvm.Cond.selects "RunbookerModel" ({ cls := "RunbookerModel", name := "finish", desc := "(IZ)C" } : Jvm.MethodName) ({ cls := "RunbookerModel", name := "finish", desc := "(IZ)C" } : Jvm.MethodName)) ∈ lwG := lw_7 3 rfl rfl
theorem gw_7_4 : (Jvm.Cond.code ({ cls := "RunbookerModel", name := "finish", desc := "(IZ)C" } : Jvm.MethodName) prog_8_method_34_code (4 : Nat) (Option.some Jvm.ClassFile.FieldType.char)) ∈ lwG := lw_7 4 rfl rfl
theorem gw_7_5 : (Jvm.Cond.methodLink "RunbookerModel" (192 : Nat) ({ cls := "RunbookerModel", name := "triesFail", desc := "(I)V" } : Jvm.MethodName)) ∈ lwG := lw_7 5 rfl rfl
theorem gw_7_7 : (Jvm.Cond.instanceMethod ({ cls := "RunbookerModel", name := "triesFail", desc := "(I)V" } : Jvm.MethodName)) ∈ lwG := lw_7 7 rfl rfl
theorem gw_7_8 : (Jvm.Cond.code ({ cls := "RunbookerModel", name := "triesFail", desc := "(I)V" } : Jvm.MethodName) prog_8_method_33_code (3 : Nat) (Option.none : Option Jvm.ClassFile.FieldType)) ∈ lwG := lw_7 8 rfl rfl
theorem gw_7_9 : (Jvm.Cond.methodLink "RunbookerLaw" (208 : Nat) ({ cls := "RunbookerModel", name := "handOver", desc := "(II)I" } : Jvm.MethodName)) ∈ lwG := lw_7 9 rfl rfl
theorem gw_7_10 : (Jvm.Cond.instanceMethod ({ cls := "RunbookerModel", name := "handOver", desc := "(II)I" } : Jvm.MethodName)) ∈ lwG := lw_7 10 rfl rfl
theorem gw_7_11 : (Jvm.Cond.selects "RunbookerModel" ({ cls := "RunbookerModel", name := "handOver", desc := "(II)I" } : Jvm.MethodName) ({ cls := "RunbookerModel", name := "handOver", desc := "(II)I" } : Jvm.MethodName)) ∈ lwG := lw_7 11 rfl rfl
theorem gw_7_12 : (Jvm.Cond.code ({ cls := "RunbookerModel", name := "handOver", desc := "(II)I" } : Jvm.MethodName) prog_8_method_35_code (3 : Nat) (Option.some Jvm.ClassFile.FieldType.int)) ∈ lwG := lw_7 12 rfl rfl
theorem gw_7_13 : (Jvm.Cond.methodLink "RunbookerLaw" (211 : Nat) ({ cls := "RunbookerModel", name := "undo", desc := "(I)I" } : Jvm.MethodName)) ∈ lwG := lw_7 13 rfl rfl
theorem gw_7_14 : (Jvm.Cond.instanceMethod ({ cls := "RunbookerModel", name := "undo", desc := "(I)I" } : Jvm.MethodName)) ∈ lwG := lw_7 14 rfl rfl
theorem gw_7_15 : (Jvm.Cond.selects "RunbookerModel" ({ cls := "RunbookerModel", name := "undo", desc := "(I)I" } : Jvm.MethodName) ({ cls := "RunbookerModel", name := "undo", desc := "(I)I" } : Jvm.MethodName)) ∈ lwG := lw_7 15 rfl rfl
theorem gw_7_16 : (Jvm.Cond.code ({ cls := "RunbookerModel", name := "undo", desc := "(I)I" } : Jvm.MethodName) prog_8_method_36_code (6 : Nat) (Option.some Jvm.ClassFile.FieldType.int)) ∈ lwG := lw_7 16 rfl rfl
theorem gw_7_17 : (Jvm.Cond.methodLink "RunbookerLaw" (214 : Nat) ({ cls := "RunbookerModel", name := "pass", desc := "(I)I" } : Jvm.MethodName)) ∈ lwG := lw_7 17 rfl rfl
theorem gw_7_18 : (Jvm.Cond.instanceMethod ({ cls := "RunbookerModel", name := "pass", desc := "(I)I" } : Jvm.MethodName)) ∈ lwG := lw_7 18 rfl rfl
theorem gw_7_19 : (Jvm.Cond.selects "RunbookerModel" ({ cls := "RunbookerModel", name := "pass", desc := "(I)I" } : Jvm.MethodName) ({ cls := "RunbookerModel", name := "pass", desc := "(I)I" } : Jvm.MethodName)) ∈ lwG := lw_7 19 rfl rfl
theorem gw_7_20 : (Jvm.Cond.code ({ cls := "RunbookerModel", name := "pass", desc := "(I)I" } : Jvm.MethodName) prog_8_method_39_code (4 : Nat) (Option.some Jvm.ClassFile.FieldType.int)) ∈ lwG := lw_7 20 rfl rfl
theorem gw_7_21 : (Jvm.Cond.methodLink "RunbookerModel" (206 : Nat) ({ cls := "RunbookerModel", name := "minute", desc := "()I" } : Jvm.MethodName)) ∈ lwG := lw_7 21 rfl rfl
theorem gw_7_23 : (Jvm.Cond.instanceMethod ({ cls := "RunbookerModel", name := "minute", desc := "()I" } : Jvm.MethodName)) ∈ lwG := lw_7 23 rfl rfl
theorem gw_7_24 : (Jvm.Cond.code ({ cls := "RunbookerModel", name := "minute", desc := "()I" } : Jvm.MethodName) prog_8_method_38_code (3 : Nat) (Option.some Jvm.ClassFile.FieldType.int)) ∈ lwG := lw_7 24 rfl rfl
theorem gw_7_25 : (Jvm.Cond.methodLink "RunbookerModel" (203 : Nat) ({ cls := "RunbookerModel", name := "handsOver", desc := "()V" } : Jvm.MethodName)) ∈ lwG := lw_7 25 rfl rfl
theorem gw_7_27 : (Jvm.Cond.instanceMethod ({ cls := "RunbookerModel", name := "handsOver", desc := "()V" } : Jvm.MethodName)) ∈ lwG := lw_7 27 rfl rfl
theorem gw_7_28 : (Jvm.Cond.code ({ cls := "RunbookerModel", name := "handsOver", desc := "()V" } : Jvm.MethodName) prog_8_method_37_code (2 : Nat) (Option.none : Option Jvm.ClassFile.FieldType)) ∈ lwG := lw_7 28 rfl rfl
theorem gw_7_29 : (Jvm.Cond.methodLink "RunbookerLaw" (218 : Nat) ({ cls := "RunbookerModel", name := "people", desc := "()I" } : Jvm.MethodName)) ∈ lwG := lw_7 29 rfl rfl
theorem gw_7_30 : (Jvm.Cond.instanceMethod ({ cls := "RunbookerModel", name := "people", desc := "()I" } : Jvm.MethodName)) ∈ lwG := lw_7 30 rfl rfl
theorem gw_7_31 : (Jvm.Cond.selects "RunbookerModel" ({ cls := "RunbookerModel", name := "people", desc := "()I" } : Jvm.MethodName) ({ cls := "RunbookerModel", name := "people", desc := "()I" } : Jvm.MethodName)) ∈ lwG := lw_7 31 rfl rfl
theorem gw_7_32 : (Jvm.Cond.code ({ cls := "RunbookerModel", name := "people", desc := "()I" } : Jvm.MethodName) prog_8_method_40_code (1 : Nat) (Option.some Jvm.ClassFile.FieldType.int)) ∈ lwG := lw_7 32 rfl rfl
theorem gw_7_33 : (Jvm.Cond.methodLink "RunbookerLaw" (222 : Nat) ({ cls := "RunbookerModel", name := "steps", desc := "()I" } : Jvm.MethodName)) ∈ lwG := lw_7 33 rfl rfl
theorem gw_7_34 : (Jvm.Cond.instanceMethod ({ cls := "RunbookerModel", name := "steps", desc := "()I" } : Jvm.MethodName)) ∈ lwG := lw_7 34 rfl rfl
theorem gw_7_35 : (Jvm.Cond.selects "RunbookerModel" ({ cls := "RunbookerModel", name := "steps", desc := "()I" } : Jvm.MethodName) ({ cls := "RunbookerModel", name := "steps", desc := "()I" } : Jvm.MethodName)) ∈ lwG := lw_7 35 rfl rfl
theorem gw_7_36 : (Jvm.Cond.code ({ cls := "RunbookerModel", name := "steps", desc := "()I" } : Jvm.MethodName) prog_8_method_41_code (1 : Nat) (Option.some Jvm.ClassFile.FieldType.int)) ∈ lwG := lw_7 36 rfl rfl
theorem gw_7_37 : (Jvm.Cond.methodLink "RunbookerLaw" (226 : Nat) ({ cls := "RunbookerModel", name := "clock", desc := "()I" } : Jvm.MethodName)) ∈ lwG := lw_7 37 rfl rfl
theorem gw_7_38 : (Jvm.Cond.instanceMethod ({ cls := "RunbookerModel", name := "clock", desc := "()I" } : Jvm.MethodName)) ∈ lwG := lw_7 38 rfl rfl
theorem gw_7_39 : (Jvm.Cond.selects "RunbookerModel" ({ cls := "RunbookerModel", name := "clock", desc := "()I" } : Jvm.MethodName) ({ cls := "RunbookerModel", name := "clock", desc := "()I" } : Jvm.MethodName)) ∈ lwG := lw_7 39 rfl rfl
theorem gw_7_40 : (Jvm.Cond.code ({ cls := "RunbookerModel", name := "clock", desc := "()I" } : Jvm.MethodName) prog_8_method_42_code (1 : Nat) (Option.some Jvm.ClassFile.FieldType.int)) ∈ lwG := lw_7 40 rfl rfl
theorem gw_7_41 : (Jvm.Cond.methodLink "RunbookerLaw" (229 : Nat) ({ cls := "RunbookerModel", name := "isOnDuty", desc := "(I)Z" } : Jvm.MethodName)) ∈ lwG := lw_7 41 rfl rfl
theorem gw_7_42 : (Jvm.Cond.instanceMethod ({ cls := "RunbookerModel", name := "isOnDuty", desc := "(I)Z" } : Jvm.MethodName)) ∈ lwG := lw_7 42 rfl rfl
theorem gw_7_43 : (Jvm.Cond.selects "RunbookerModel" ({ cls := "RunbookerModel", name := "isOnDuty", desc := "(I)Z" } : Jvm.MethodName) ({ cls := "RunbookerModel", name := "isOnDuty", desc := "(I)Z" } : Jvm.MethodName)) ∈ lwG := lw_7 43 rfl rfl
theorem gw_7_44 : (Jvm.Cond.code ({ cls := "RunbookerModel", name := "isOnDuty", desc := "(I)Z" } : Jvm.MethodName) prog_8_method_43_code (2 : Nat) (Option.some Jvm.ClassFile.FieldType.boolean)) ∈ lwG := lw_7 44 rfl rfl
theorem gw_7_45 : (Jvm.Cond.methodLink "RunbookerLaw" (232 : Nat) ({ cls := "RunbookerModel", name := "hasRole", desc := "(II)Z" } : Jvm.MethodName)) ∈ lwG := lw_7 45 rfl rfl
theorem gw_7_46 : (Jvm.Cond.instanceMethod ({ cls := "RunbookerModel", name := "hasRole", desc := "(II)Z" } : Jvm.MethodName)) ∈ lwG := lw_7 46 rfl rfl
theorem gw_7_47 : (Jvm.Cond.selects "RunbookerModel" ({ cls := "RunbookerModel", name := "hasRole", desc := "(II)Z" } : Jvm.MethodName) ({ cls := "RunbookerModel", name := "hasRole", desc := "(II)Z" } : Jvm.MethodName)) ∈ lwG := lw_7 47 rfl rfl
theorem gw_7_48 : (Jvm.Cond.code ({ cls := "RunbookerModel", name := "hasRole", desc := "(II)Z" } : Jvm.MethodName) prog_8_method_44_code (3 : Nat) (Option.some Jvm.ClassFile.FieldType.boolean)) ∈ lwG := lw_7 48 rfl rfl
theorem gw_7_49 : (Jvm.Cond.methodLink "RunbookerLaw" (235 : Nat) ({ cls := "RunbookerModel", name := "workOf", desc := "(I)I" } : Jvm.MethodName)) ∈ lwG := lw_7 49 rfl rfl
theorem gw_7_50 : (Jvm.Cond.instanceMethod ({ cls := "RunbookerModel", name := "workOf", desc := "(I)I" } : Jvm.MethodName)) ∈ lwG := lw_7 50 rfl rfl
theorem gw_7_51 : (Jvm.Cond.selects "RunbookerModel" ({ cls := "RunbookerModel", name := "workOf", desc := "(I)I" } : Jvm.MethodName) ({ cls := "RunbookerModel", name := "workOf", desc := "(I)I" } : Jvm.MethodName)) ∈ lwG := lw_7 51 rfl rfl
theorem gw_7_52 : (Jvm.Cond.code ({ cls := "RunbookerModel", name := "workOf", desc := "(I)I" } : Jvm.MethodName) prog_8_method_45_code (2 : Nat) (Option.some Jvm.ClassFile.FieldType.int)) ∈ lwG := lw_7 52 rfl rfl
theorem gw_7_53 : (Jvm.Cond.methodLink "RunbookerLaw" (238 : Nat) ({ cls := "RunbookerModel", name := "readingOf", desc := "(I)I" } : Jvm.MethodName)) ∈ lwG := lw_7 53 rfl rfl
theorem gw_7_54 : (Jvm.Cond.instanceMethod ({ cls := "RunbookerModel", name := "readingOf", desc := "(I)I" } : Jvm.MethodName)) ∈ lwG := lw_7 54 rfl rfl
theorem gw_7_55 : (Jvm.Cond.selects "RunbookerModel" ({ cls := "RunbookerModel", name := "readingOf", desc := "(I)I" } : Jvm.MethodName) ({ cls := "RunbookerModel", name := "readingOf", desc := "(I)I" } : Jvm.MethodName)) ∈ lwG := lw_7 55 rfl rfl
theorem gw_7_56 : (Jvm.Cond.code ({ cls := "RunbookerModel", name := "readingOf", desc := "(I)I" } : Jvm.MethodName) prog_8_method_46_code (2 : Nat) (Option.some Jvm.ClassFile.FieldType.int)) ∈ lwG := lw_7 56 rfl rfl
theorem gw_7_57 : (Jvm.Cond.methodLink "RunbookerLaw" (241 : Nat) ({ cls := "RunbookerModel", name := "doesGuardHold", desc := "(I)Z" } : Jvm.MethodName)) ∈ lwG := lw_7 57 rfl rfl
theorem gw_7_58 : (Jvm.Cond.instanceMethod ({ cls := "RunbookerModel", name := "doesGuardHold", desc := "(I)Z" } : Jvm.MethodName)) ∈ lwG := lw_7 58 rfl rfl
theorem gw_7_59 : (Jvm.Cond.selects "RunbookerModel" ({ cls := "RunbookerModel", name := "doesGuardHold", desc := "(I)Z" } : Jvm.MethodName) ({ cls := "RunbookerModel", name := "doesGuardHold", desc := "(I)Z" } : Jvm.MethodName)) ∈ lwG := lw_7 59 rfl rfl
theorem gw_7_60 : (Jvm.Cond.code ({ cls := "RunbookerModel", name := "doesGuardHold", desc := "(I)Z" } : Jvm.MethodName) prog_8_method_47_code (2 : Nat) (Option.some Jvm.ClassFile.FieldType.boolean)) ∈ lwG := lw_7 60 rfl rfl
theorem gw_7_61 : (Jvm.Cond.methodLink "RunbookerLaw" (244 : Nat) ({ cls := "RunbookerModel", name := "guardReading", desc := "(II)I" } : Jvm.MethodName)) ∈ lwG := lw_7 61 rfl rfl
theorem gw_7_62 : (Jvm.Cond.instanceMethod ({ cls := "RunbookerModel", name := "guardReading", desc := "(II)I" } : Jvm.MethodName)) ∈ lwG := lw_7 62 rfl rfl
theorem gw_7_63 : (Jvm.Cond.selects "RunbookerModel" ({ cls := "RunbookerModel", name := "guardReading", desc := "(II)I" } : Jvm.MethodName) ({ cls := "RunbookerModel", name := "guardReading", desc := "(II)I" } : Jvm.MethodName)) ∈ lwG := lw_7 63 rfl rfl
theorem gw_7_64 : (Jvm.Cond.code ({ cls := "RunbookerModel", name := "guardReading", desc := "(II)I" } : Jvm.MethodName) prog_8_method_48_code (3 : Nat) (Option.some Jvm.ClassFile.FieldType.int)) ∈ lwG := lw_7 64 rfl rfl
theorem gw_7_65 : (Jvm.Cond.methodLink "RunbookerLaw" (249 : Nat) ({ cls := "RunbookerModel", name := "isRunning", desc := "()Z" } : Jvm.MethodName)) ∈ lwG := lw_7 65 rfl rfl
theorem gw_7_66 : (Jvm.Cond.instanceMethod ({ cls := "RunbookerModel", name := "isRunning", desc := "()Z" } : Jvm.MethodName)) ∈ lwG := lw_7 66 rfl rfl
theorem gw_7_67 : (Jvm.Cond.selects "RunbookerModel" ({ cls := "RunbookerModel", name := "isRunning", desc := "()Z" } : Jvm.MethodName) ({ cls := "RunbookerModel", name := "isRunning", desc := "()Z" } : Jvm.MethodName)) ∈ lwG := lw_7 67 rfl rfl
theorem gw_7_68 : (Jvm.Cond.code ({ cls := "RunbookerModel", name := "isRunning", desc := "()Z" } : Jvm.MethodName) prog_8_method_49_code (1 : Nat) (Option.some Jvm.ClassFile.FieldType.boolean)) ∈ lwG := lw_7 68 rfl rfl
theorem gw_7_69 : (Jvm.Cond.methodLink "RunbookerLaw" (252 : Nat) ({ cls := "RunbookerModel", name := "stateOf", desc := "(I)C" } : Jvm.MethodName)) ∈ lwG := lw_7 69 rfl rfl
theorem gw_7_70 : (Jvm.Cond.instanceMethod ({ cls := "RunbookerModel", name := "stateOf", desc := "(I)C" } : Jvm.MethodName)) ∈ lwG := lw_7 70 rfl rfl
theorem gw_7_71 : (Jvm.Cond.selects "RunbookerModel" ({ cls := "RunbookerModel", name := "stateOf", desc := "(I)C" } : Jvm.MethodName) ({ cls := "RunbookerModel", name := "stateOf", desc := "(I)C" } : Jvm.MethodName)) ∈ lwG := lw_7 71 rfl rfl
theorem gw_7_72 : (Jvm.Cond.code ({ cls := "RunbookerModel", name := "stateOf", desc := "(I)C" } : Jvm.MethodName) prog_8_method_51_code (2 : Nat) (Option.some Jvm.ClassFile.FieldType.char)) ∈ lwG := lw_7 72 rfl rfl
theorem gw_7_73 : (Jvm.Cond.methodLink "RunbookerModel" (209 : Nat) ({ cls := "RunbookerModel", name := "isUnknown", desc := "(I)Z" } : Jvm.MethodName)) ∈ lwG := lw_7 73 rfl rfl
theorem gw_7_75 : (Jvm.Cond.instanceMethod ({ cls := "RunbookerModel", name := "isUnknown", desc := "(I)Z" } : Jvm.MethodName)) ∈ lwG := lw_7 75 rfl rfl
theorem gw_7_76 : (Jvm.Cond.code ({ cls := "RunbookerModel", name := "isUnknown", desc := "(I)Z" } : Jvm.MethodName) prog_8_method_50_code (2 : Nat) (Option.some Jvm.ClassFile.FieldType.boolean)) ∈ lwG := lw_7 76 rfl rfl
theorem gw_7_77 : (Jvm.Cond.methodLink "RunbookerLaw" (255 : Nat) ({ cls := "RunbookerModel", name := "triesOf", desc := "(I)I" } : Jvm.MethodName)) ∈ lwG := lw_7 77 rfl rfl
theorem gw_7_78 : (Jvm.Cond.instanceMethod ({ cls := "RunbookerModel", name := "triesOf", desc := "(I)I" } : Jvm.MethodName)) ∈ lwG := lw_7 78 rfl rfl
theorem gw_7_79 : (Jvm.Cond.selects "RunbookerModel" ({ cls := "RunbookerModel", name := "triesOf", desc := "(I)I" } : Jvm.MethodName) ({ cls := "RunbookerModel", name := "triesOf", desc := "(I)I" } : Jvm.MethodName)) ∈ lwG := lw_7 79 rfl rfl
theorem gw_7_80 : (Jvm.Cond.code ({ cls := "RunbookerModel", name := "triesOf", desc := "(I)I" } : Jvm.MethodName) prog_8_method_52_code (2 : Nat) (Option.some Jvm.ClassFile.FieldType.int)) ∈ lwG := lw_7 80 rfl rfl
theorem gw_7_81 : (Jvm.Cond.methodLink "RunbookerLaw" (258 : Nat) ({ cls := "RunbookerModel", name := "isReady", desc := "(I)Z" } : Jvm.MethodName)) ∈ lwG := lw_7 81 rfl rfl
theorem gw_7_82 : (Jvm.Cond.instanceMethod ({ cls := "RunbookerModel", name := "isReady", desc := "(I)Z" } : Jvm.MethodName)) ∈ lwG := lw_7 82 rfl rfl
theorem gw_7_83 : (Jvm.Cond.selects "RunbookerModel" ({ cls := "RunbookerModel", name := "isReady", desc := "(I)Z" } : Jvm.MethodName) ({ cls := "RunbookerModel", name := "isReady", desc := "(I)Z" } : Jvm.MethodName)) ∈ lwG := lw_7 83 rfl rfl
theorem gw_7_84 : (Jvm.Cond.code ({ cls := "RunbookerModel", name := "isReady", desc := "(I)Z" } : Jvm.MethodName) prog_8_method_53_code (2 : Nat) (Option.some Jvm.ClassFile.FieldType.boolean)) ∈ lwG := lw_7 84 rfl rfl
theorem gw_7_85 : (Jvm.Cond.methodLink "RunbookerLaw" (261 : Nat) ({ cls := "RunbookerModel", name := "whyNot", desc := "(I)C" } : Jvm.MethodName)) ∈ lwG := lw_7 85 rfl rfl
theorem gw_7_86 : (Jvm.Cond.instanceMethod ({ cls := "RunbookerModel", name := "whyNot", desc := "(I)C" } : Jvm.MethodName)) ∈ lwG := lw_7 86 rfl rfl
theorem gw_7_87 : (Jvm.Cond.selects "RunbookerModel" ({ cls := "RunbookerModel", name := "whyNot", desc := "(I)C" } : Jvm.MethodName) ({ cls := "RunbookerModel", name := "whyNot", desc := "(I)C" } : Jvm.MethodName)) ∈ lwG := lw_7 87 rfl rfl
theorem gw_7_88 : (Jvm.Cond.code ({ cls := "RunbookerModel", name := "whyNot", desc := "(I)C" } : Jvm.MethodName) prog_8_method_55_code (2 : Nat) (Option.some Jvm.ClassFile.FieldType.char)) ∈ lwG := lw_7 88 rfl rfl
theorem gw_7_89 : (Jvm.Cond.methodLink "RunbookerModel" (212 : Nat) ({ cls := "RunbookerModel", name := "isManned", desc := "(I)Z" } : Jvm.MethodName)) ∈ lwG := lw_7 89 rfl rfl
theorem gw_7_91 : (Jvm.Cond.instanceMethod ({ cls := "RunbookerModel", name := "isManned", desc := "(I)Z" } : Jvm.MethodName)) ∈ lwG := lw_7 91 rfl rfl
theorem gw_7_92 : (Jvm.Cond.code ({ cls := "RunbookerModel", name := "isManned", desc := "(I)Z" } : Jvm.MethodName) prog_8_method_54_code (3 : Nat) (Option.some Jvm.ClassFile.FieldType.boolean)) ∈ lwG := lw_7 92 rfl rfl
theorem gw_7_93 : (Jvm.Cond.methodLink "RunbookerLaw" (265 : Nat) ({ cls := "RunbookerModel", name := "ready", desc := "()I" } : Jvm.MethodName)) ∈ lwG := lw_7 93 rfl rfl
theorem gw_7_94 : (Jvm.Cond.instanceMethod ({ cls := "RunbookerModel", name := "ready", desc := "()I" } : Jvm.MethodName)) ∈ lwG := lw_7 94 rfl rfl
theorem gw_7_95 : (Jvm.Cond.selects "RunbookerModel" ({ cls := "RunbookerModel", name := "ready", desc := "()I" } : Jvm.MethodName) ({ cls := "RunbookerModel", name := "ready", desc := "()I" } : Jvm.MethodName)) ∈ lwG := lw_7 95 rfl rfl
theorem gw_7_96 : (Jvm.Cond.code ({ cls := "RunbookerModel", name := "ready", desc := "()I" } : Jvm.MethodName) prog_8_method_56_code (1 : Nat) (Option.some Jvm.ClassFile.FieldType.int)) ∈ lwG := lw_7 96 rfl rfl
theorem gw_7_97 : (Jvm.Cond.methodLink "RunbookerLaw" (268 : Nat) ({ cls := "RunbookerModel", name := "nextStep", desc := "(I)I" } : Jvm.MethodName)) ∈ lwG := lw_7 97 rfl rfl
theorem gw_7_98 : (Jvm.Cond.instanceMethod ({ cls := "RunbookerModel", name := "nextStep", desc := "(I)I" } : Jvm.MethodName)) ∈ lwG := lw_7 98 rfl rfl
theorem gw_7_99 : (Jvm.Cond.selects "RunbookerModel" ({ cls := "RunbookerModel", name := "nextStep", desc := "(I)I" } : Jvm.MethodName) ({ cls := "RunbookerModel", name := "nextStep", desc := "(I)I" } : Jvm.MethodName)) ∈ lwG := lw_7 99 rfl rfl
theorem gw_7_100 : (Jvm.Cond.code ({ cls := "RunbookerModel", name := "nextStep", desc := "(I)I" } : Jvm.MethodName) prog_8_method_58_code (4 : Nat) (Option.some Jvm.ClassFile.FieldType.int)) ∈ lwG := lw_7 100 rfl rfl
theorem gw_7_101 : (Jvm.Cond.methodLink "RunbookerModel" (221 : Nat) ({ cls := "RunbookerModel", name := "sweeps", desc := "()V" } : Jvm.MethodName)) ∈ lwG := lw_7 101 rfl rfl
theorem gw_7_103 : (Jvm.Cond.instanceMethod ({ cls := "RunbookerModel", name := "sweeps", desc := "()V" } : Jvm.MethodName)) ∈ lwG := lw_7 103 rfl rfl
theorem gw_7_104 : (Jvm.Cond.code ({ cls := "RunbookerModel", name := "sweeps", desc := "()V" } : Jvm.MethodName) prog_8_method_57_code (4 : Nat) (Option.none : Option Jvm.ClassFile.FieldType)) ∈ lwG := lw_7 104 rfl rfl
theorem gw_7_105 : (Jvm.Cond.methodLink "RunbookerModel" (215 : Nat) ({ cls := "java/lang/Math", name := "max", desc := "(II)I" } : Jvm.MethodName)) ∈ lwG := lw_7 105 rfl rfl
theorem gw_7_106 : (Jvm.Cond.methodLink "RunbookerLaw" (271 : Nat) ({ cls := "RunbookerModel", name := "restOf", desc := "(I)I" } : Jvm.MethodName)) ∈ lwG := lw_7 106 rfl rfl
theorem gw_7_107 : (Jvm.Cond.instanceMethod ({ cls := "RunbookerModel", name := "restOf", desc := "(I)I" } : Jvm.MethodName)) ∈ lwG := lw_7 107 rfl rfl
theorem gw_7_108 : (Jvm.Cond.selects "RunbookerModel" ({ cls := "RunbookerModel", name := "restOf", desc := "(I)I" } : Jvm.MethodName) ({ cls := "RunbookerModel", name := "restOf", desc := "(I)I" } : Jvm.MethodName)) ∈ lwG := lw_7 108 rfl rfl
theorem gw_7_109 : (Jvm.Cond.code ({ cls := "RunbookerModel", name := "restOf", desc := "(I)I" } : Jvm.MethodName) prog_8_method_59_code (2 : Nat) (Option.some Jvm.ClassFile.FieldType.int)) ∈ lwG := lw_7 109 rfl rfl
theorem gw_7_110 : (Jvm.Cond.methodLink "RunbookerLaw" (274 : Nat) ({ cls := "RunbookerModel", name := "restBySweep", desc := "(I)I" } : Jvm.MethodName)) ∈ lwG := lw_7 110 rfl rfl
theorem gw_7_111 : (Jvm.Cond.instanceMethod ({ cls := "RunbookerModel", name := "restBySweep", desc := "(I)I" } : Jvm.MethodName)) ∈ lwG := lw_7 111 rfl rfl
theorem gw_7_112 : (Jvm.Cond.selects "RunbookerModel" ({ cls := "RunbookerModel", name := "restBySweep", desc := "(I)I" } : Jvm.MethodName) ({ cls := "RunbookerModel", name := "restBySweep", desc := "(I)I" } : Jvm.MethodName)) ∈ lwG := lw_7 112 rfl rfl
theorem gw_7_113 : (Jvm.Cond.code ({ cls := "RunbookerModel", name := "restBySweep", desc := "(I)I" } : Jvm.MethodName) prog_8_method_60_code (2 : Nat) (Option.some Jvm.ClassFile.FieldType.int)) ∈ lwG := lw_7 113 rfl rfl
theorem gw_7_114 : (Jvm.Cond.methodLink "RunbookerModel" (224 : Nat) ({ cls := "RunbookerModel", name := "restOf", desc := "(I)I" } : Jvm.MethodName)) ∈ lwG := lw_7 114 rfl rfl
theorem gw_7_115 : (Jvm.Cond.methodLink "RunbookerLaw" (277 : Nat) ({ cls := "RunbookerModel", name := "isSettled", desc := "(I)Z" } : Jvm.MethodName)) ∈ lwG := lw_7 115 rfl rfl
theorem gw_7_116 : (Jvm.Cond.instanceMethod ({ cls := "RunbookerModel", name := "isSettled", desc := "(I)Z" } : Jvm.MethodName)) ∈ lwG := lw_7 116 rfl rfl
theorem gw_7_117 : (Jvm.Cond.selects "RunbookerModel" ({ cls := "RunbookerModel", name := "isSettled", desc := "(I)Z" } : Jvm.MethodName) ({ cls := "RunbookerModel", name := "isSettled", desc := "(I)Z" } : Jvm.MethodName)) ∈ lwG := lw_7 117 rfl rfl
theorem gw_7_118 : (Jvm.Cond.code ({ cls := "RunbookerModel", name := "isSettled", desc := "(I)Z" } : Jvm.MethodName) prog_8_method_61_code (2 : Nat) (Option.some Jvm.ClassFile.FieldType.boolean)) ∈ lwG := lw_7 118 rfl rfl
theorem gw_7_119 : (Jvm.Cond.methodLink "RunbookerLaw" (281 : Nat) ({ cls := "RunbookerModel", name := "isOver", desc := "()Z" } : Jvm.MethodName)) ∈ lwG := lw_7 119 rfl rfl
theorem gw_7_120 : (Jvm.Cond.instanceMethod ({ cls := "RunbookerModel", name := "isOver", desc := "()Z" } : Jvm.MethodName)) ∈ lwG := lw_7 120 rfl rfl
theorem gw_7_121 : (Jvm.Cond.selects "RunbookerModel" ({ cls := "RunbookerModel", name := "isOver", desc := "()Z" } : Jvm.MethodName) ({ cls := "RunbookerModel", name := "isOver", desc := "()Z" } : Jvm.MethodName)) ∈ lwG := lw_7 121 rfl rfl
theorem gw_7_122 : (Jvm.Cond.code ({ cls := "RunbookerModel", name := "isOver", desc := "()Z" } : Jvm.MethodName) prog_8_method_63_code (1 : Nat) (Option.some Jvm.ClassFile.FieldType.boolean)) ∈ lwG := lw_7 122 rfl rfl
theorem gw_7_123 : (Jvm.Cond.methodLink "RunbookerModel" (227 : Nat) ({ cls := "RunbookerModel", name := "isOverNow", desc := "()Z" } : Jvm.MethodName)) ∈ lwG := lw_7 123 rfl rfl
theorem gw_7_125 : (Jvm.Cond.instanceMethod ({ cls := "RunbookerModel", name := "isOverNow", desc := "()Z" } : Jvm.MethodName)) ∈ lwG := lw_7 125 rfl rfl
theorem gw_7_126 : (Jvm.Cond.code ({ cls := "RunbookerModel", name := "isOverNow", desc := "()Z" } : Jvm.MethodName) prog_8_method_62_code (2 : Nat) (Option.some Jvm.ClassFile.FieldType.boolean)) ∈ lwG := lw_7 126 rfl rfl
theorem gw_7_127 : (Jvm.Cond.methodLink "RunbookerLaw" (285 : Nat) ({ cls := "RunbookerModel", name := "isStuck", desc := "()Z" } : Jvm.MethodName)) ∈ lwG := lw_7 127 rfl rfl
theorem gw_7_128 : (Jvm.Cond.instanceMethod ({ cls := "RunbookerModel", name := "isStuck", desc := "()Z" } : Jvm.MethodName)) ∈ lwG := lw_7 128 rfl rfl
theorem gw_7_129 : (Jvm.Cond.selects "RunbookerModel" ({ cls := "RunbookerModel", name := "isStuck", desc := "()Z" } : Jvm.MethodName) ({ cls := "RunbookerModel", name := "isStuck", desc := "()Z" } : Jvm.MethodName)) ∈ lwG := lw_7 129 rfl rfl
theorem gw_7_130 : (Jvm.Cond.code ({ cls := "RunbookerModel", name := "isStuck", desc := "()Z" } : Jvm.MethodName) prog_8_method_64_code (1 : Nat) (Option.some Jvm.ClassFile.FieldType.boolean)) ∈ lwG := lw_7 130 rfl rfl
theorem gw_7_131 : (Jvm.Cond.methodLink "RunbookerLaw" (288 : Nat) ({ cls := "RunbookerModel", name := "handoverEnd", desc := "()I" } : Jvm.MethodName)) ∈ lwG := lw_7 131 rfl rfl
theorem gw_7_132 : (Jvm.Cond.instanceMethod ({ cls := "RunbookerModel", name := "handoverEnd", desc := "()I" } : Jvm.MethodName)) ∈ lwG := lw_7 132 rfl rfl
theorem gw_7_133 : (Jvm.Cond.selects "RunbookerModel" ({ cls := "RunbookerModel", name := "handoverEnd", desc := "()I" } : Jvm.MethodName) ({ cls := "RunbookerModel", name := "handoverEnd", desc := "()I" } : Jvm.MethodName)) ∈ lwG := lw_7 133 rfl rfl
theorem gw_7_134 : (Jvm.Cond.code ({ cls := "RunbookerModel", name := "handoverEnd", desc := "()I" } : Jvm.MethodName) prog_8_method_65_code (1 : Nat) (Option.some Jvm.ClassFile.FieldType.int)) ∈ lwG := lw_7 134 rfl rfl
theorem gw_7_135 : (Jvm.Cond.methodLink "RunbookerLaw" (291 : Nat) ({ cls := "RunbookerModel", name := "isPaused", desc := "(I)Z" } : Jvm.MethodName)) ∈ lwG := lw_7 135 rfl rfl
theorem gw_7_136 : (Jvm.Cond.instanceMethod ({ cls := "RunbookerModel", name := "isPaused", desc := "(I)Z" } : Jvm.MethodName)) ∈ lwG := lw_7 136 rfl rfl
theorem gw_7_137 : (Jvm.Cond.selects "RunbookerModel" ({ cls := "RunbookerModel", name := "isPaused", desc := "(I)Z" } : Jvm.MethodName) ({ cls := "RunbookerModel", name := "isPaused", desc := "(I)Z" } : Jvm.MethodName)) ∈ lwG := lw_7 137 rfl rfl
theorem gw_7_138 : (Jvm.Cond.code ({ cls := "RunbookerModel", name := "isPaused", desc := "(I)Z" } : Jvm.MethodName) prog_8_method_66_code (2 : Nat) (Option.some Jvm.ClassFile.FieldType.boolean)) ∈ lwG := lw_7 138 rfl rfl
theorem gw_7_139 : (Jvm.Cond.methodLink "RunbookerLaw" (294 : Nat) ({ cls := "RunbookerModel", name := "workedOn", desc := "(I)I" } : Jvm.MethodName)) ∈ lwG := lw_7 139 rfl rfl
theorem gw_7_140 : (Jvm.Cond.instanceMethod ({ cls := "RunbookerModel", name := "workedOn", desc := "(I)I" } : Jvm.MethodName)) ∈ lwG := lw_7 140 rfl rfl
theorem gw_7_141 : (Jvm.Cond.selects "RunbookerModel" ({ cls := "RunbookerModel", name := "workedOn", desc := "(I)I" } : Jvm.MethodName) ({ cls := "RunbookerModel", name := "workedOn", desc := "(I)I" } : Jvm.MethodName)) ∈ lwG := lw_7 141 rfl rfl
theorem gw_7_142 : (Jvm.Cond.code ({ cls := "RunbookerModel", name := "workedOn", desc := "(I)I" } : Jvm.MethodName) prog_8_method_67_code (2 : Nat) (Option.some Jvm.ClassFile.FieldType.int)) ∈ lwG := lw_7 142 rfl rfl
theorem gw_7_143 : (Jvm.Cond.methodLink "RunbookerLaw" (297 : Nat) ({ cls := "RunbookerModel", name := "lastDone", desc := "()I" } : Jvm.MethodName)) ∈ lwG := lw_7 143 rfl rfl
theorem gw_7_144 : (Jvm.Cond.instanceMethod ({ cls := "RunbookerModel", name := "lastDone", desc := "()I" } : Jvm.MethodName)) ∈ lwG := lw_7 144 rfl rfl
theorem gw_7_145 : (Jvm.Cond.selects "RunbookerModel" ({ cls := "RunbookerModel", name := "lastDone", desc := "()I" } : Jvm.MethodName) ({ cls := "RunbookerModel", name := "lastDone", desc := "()I" } : Jvm.MethodName)) ∈ lwG := lw_7 145 rfl rfl
theorem gw_7_146 : (Jvm.Cond.code ({ cls := "RunbookerModel", name := "lastDone", desc := "()I" } : Jvm.MethodName) prog_8_method_68_code (1 : Nat) (Option.some Jvm.ClassFile.FieldType.int)) ∈ lwG := lw_7 146 rfl rfl
theorem gw_7_147 : (Jvm.Cond.methodLink "RunbookerLaw" (301 : Nat) ({ cls := "RunbookerModel", name := "entries", desc := "()I" } : Jvm.MethodName)) ∈ lwG := lw_7 147 rfl rfl
theorem gw_7_148 : (Jvm.Cond.instanceMethod ({ cls := "RunbookerModel", name := "entries", desc := "()I" } : Jvm.MethodName)) ∈ lwG := lw_7 148 rfl rfl
theorem gw_7_149 : (Jvm.Cond.selects "RunbookerModel" ({ cls := "RunbookerModel", name := "entries", desc := "()I" } : Jvm.MethodName) ({ cls := "RunbookerModel", name := "entries", desc := "()I" } : Jvm.MethodName)) ∈ lwG := lw_7 149 rfl rfl
theorem gw_7_150 : (Jvm.Cond.code ({ cls := "RunbookerModel", name := "entries", desc := "()I" } : Jvm.MethodName) prog_8_method_70_code (1 : Nat) (Option.some Jvm.ClassFile.FieldType.int)) ∈ lwG := lw_7 150 rfl rfl
theorem gw_7_151 : (Jvm.Cond.methodLink "RunbookerLaw" (304 : Nat) ({ cls := "RunbookerModel", name := "signAt", desc := "(I)C" } : Jvm.MethodName)) ∈ lwG := lw_7 151 rfl rfl
theorem gw_7_152 : (Jvm.Cond.instanceMethod ({ cls := "RunbookerModel", name := "signAt", desc := "(I)C" } : Jvm.MethodName)) ∈ lwG := lw_7 152 rfl rfl
theorem gw_7_153 : (Jvm.Cond.selects "RunbookerModel" ({ cls := "RunbookerModel", name := "signAt", desc := "(I)C" } : Jvm.MethodName) ({ cls := "RunbookerModel", name := "signAt", desc := "(I)C" } : Jvm.MethodName)) ∈ lwG := lw_7 153 rfl rfl
theorem gw_7_154 : (Jvm.Cond.code ({ cls := "RunbookerModel", name := "signAt", desc := "(I)C" } : Jvm.MethodName) prog_8_method_71_code (2 : Nat) (Option.some Jvm.ClassFile.FieldType.char)) ∈ lwG := lw_7 154 rfl rfl
theorem gw_7_155 : (Jvm.Cond.methodLink "RunbookerModel" (231 : Nat) ({ cls := "RunbookerModel", name := "isEntry", desc := "(I)Z" } : Jvm.MethodName)) ∈ lwG := lw_7 155 rfl rfl
theorem gw_7_157 : (Jvm.Cond.instanceMethod ({ cls := "RunbookerModel", name := "isEntry", desc := "(I)Z" } : Jvm.MethodName)) ∈ lwG := lw_7 157 rfl rfl
theorem gw_7_158 : (Jvm.Cond.code ({ cls := "RunbookerModel", name := "isEntry", desc := "(I)Z" } : Jvm.MethodName) prog_8_method_69_code (2 : Nat) (Option.some Jvm.ClassFile.FieldType.boolean)) ∈ lwG := lw_7 158 rfl rfl
theorem gw_7_159 : (Jvm.Cond.methodLink "RunbookerLaw" (307 : Nat) ({ cls := "RunbookerModel", name := "stepAt", desc := "(I)I" } : Jvm.MethodName)) ∈ lwG := lw_7 159 rfl rfl
theorem gw_7_160 : (Jvm.Cond.instanceMethod ({ cls := "RunbookerModel", name := "stepAt", desc := "(I)I" } : Jvm.MethodName)) ∈ lwG := lw_7 160 rfl rfl
theorem gw_7_161 : (Jvm.Cond.selects "RunbookerModel" ({ cls := "RunbookerModel", name := "stepAt", desc := "(I)I" } : Jvm.MethodName) ({ cls := "RunbookerModel", name := "stepAt", desc := "(I)I" } : Jvm.MethodName)) ∈ lwG := lw_7 161 rfl rfl
theorem gw_7_162 : (Jvm.Cond.code ({ cls := "RunbookerModel", name := "stepAt", desc := "(I)I" } : Jvm.MethodName) prog_8_method_72_code (2 : Nat) (Option.some Jvm.ClassFile.FieldType.int)) ∈ lwG := lw_7 162 rfl rfl
theorem gw_7_163 : (Jvm.Cond.methodLink "RunbookerLaw" (310 : Nat) ({ cls := "RunbookerModel", name := "personAt", desc := "(I)I" } : Jvm.MethodName)) ∈ lwG := lw_7 163 rfl rfl
theorem gw_7_164 : (Jvm.Cond.instanceMethod ({ cls := "RunbookerModel", name := "personAt", desc := "(I)I" } : Jvm.MethodName)) ∈ lwG := lw_7 164 rfl rfl
theorem gw_7_165 : (Jvm.Cond.selects "RunbookerModel" ({ cls := "RunbookerModel", name := "personAt", desc := "(I)I" } : Jvm.MethodName) ({ cls := "RunbookerModel", name := "personAt", desc := "(I)I" } : Jvm.MethodName)) ∈ lwG := lw_7 165 rfl rfl
theorem gw_7_166 : (Jvm.Cond.code ({ cls := "RunbookerModel", name := "personAt", desc := "(I)I" } : Jvm.MethodName) prog_8_method_73_code (2 : Nat) (Option.some Jvm.ClassFile.FieldType.int)) ∈ lwG := lw_7 166 rfl rfl
theorem gw_7_167 : (Jvm.Cond.methodLink "RunbookerLaw" (313 : Nat) ({ cls := "RunbookerModel", name := "minuteAt", desc := "(I)I" } : Jvm.MethodName)) ∈ lwG := lw_7 167 rfl rfl
theorem gw_7_168 : (Jvm.Cond.instanceMethod ({ cls := "RunbookerModel", name := "minuteAt", desc := "(I)I" } : Jvm.MethodName)) ∈ lwG := lw_7 168 rfl rfl
theorem gw_7_169 : (Jvm.Cond.selects "RunbookerModel" ({ cls := "RunbookerModel", name := "minuteAt", desc := "(I)I" } : Jvm.MethodName) ({ cls := "RunbookerModel", name := "minuteAt", desc := "(I)I" } : Jvm.MethodName)) ∈ lwG := lw_7 169 rfl rfl
theorem gw_7_170 : (Jvm.Cond.code ({ cls := "RunbookerModel", name := "minuteAt", desc := "(I)I" } : Jvm.MethodName) prog_8_method_74_code (2 : Nat) (Option.some Jvm.ClassFile.FieldType.int)) ∈ lwG := lw_7 170 rfl rfl
theorem gw_7_171 : (Jvm.Cond.methodLink "RunbookerLaw" (316 : Nat) ({ cls := "RunbookerModel", name := "stateByLog", desc := "(I)C" } : Jvm.MethodName)) ∈ lwG := lw_7 171 rfl rfl
theorem gw_7_172 : (Jvm.Cond.instanceMethod ({ cls := "RunbookerModel", name := "stateByLog", desc := "(I)C" } : Jvm.MethodName)) ∈ lwG := lw_7 172 rfl rfl
theorem gw_7_173 : (Jvm.Cond.selects "RunbookerModel" ({ cls := "RunbookerModel", name := "stateByLog", desc := "(I)C" } : Jvm.MethodName) ({ cls := "RunbookerModel", name := "stateByLog", desc := "(I)C" } : Jvm.MethodName)) ∈ lwG := lw_7 173 rfl rfl
theorem gw_7_174 : (Jvm.Cond.code ({ cls := "RunbookerModel", name := "stateByLog", desc := "(I)C" } : Jvm.MethodName) prog_8_method_75_code (2 : Nat) (Option.some Jvm.ClassFile.FieldType.char)) ∈ lwG := lw_7 174 rfl rfl
theorem gw_7_175 : (Jvm.Cond.methodLink "RunbookerModel" (234 : Nat) ({ cls := "RunbookerModel", name := "stateOf", desc := "(I)C" } : Jvm.MethodName)) ∈ lwG := lw_7 175 rfl rfl
theorem gw_7_176 : (Jvm.Cond.methodLink "RunbookerLaw" (319 : Nat) ({ cls := "RunbookerModel", name := "triesByLog", desc := "(I)I" } : Jvm.MethodName)) ∈ lwG := lw_7 176 rfl rfl
theorem gw_7_177 : (Jvm.Cond.instanceMethod ({ cls := "RunbookerModel", name := "triesByLog", desc := "(I)I" } : Jvm.MethodName)) ∈ lwG := lw_7 177 rfl rfl
theorem gw_7_178 : (Jvm.Cond.selects "RunbookerModel" ({ cls := "RunbookerModel", name := "triesByLog", desc := "(I)I" } : Jvm.MethodName) ({ cls := "RunbookerModel", name := "triesByLog", desc := "(I)I" } : Jvm.MethodName)) ∈ lwG := lw_7 178 rfl rfl
theorem gw_7_179 : (Jvm.Cond.code ({ cls := "RunbookerModel", name := "triesByLog", desc := "(I)I" } : Jvm.MethodName) prog_8_method_76_code (2 : Nat) (Option.some Jvm.ClassFile.FieldType.int)) ∈ lwG := lw_7 179 rfl rfl
theorem gw_7_180 : (Jvm.Cond.methodLink "RunbookerModel" (238 : Nat) ({ cls := "RunbookerModel", name := "triesOf", desc := "(I)I" } : Jvm.MethodName)) ∈ lwG := lw_7 180 rfl rfl
theorem gw_7_181 : (Jvm.Cond.methodLink "RunbookerLaw" (322 : Nat) ({ cls := "RunbookerModel", name := "labelLength", desc := "(I)I" } : Jvm.MethodName)) ∈ lwG := lw_7 181 rfl rfl
theorem gw_7_182 : (Jvm.Cond.instanceMethod ({ cls := "RunbookerModel", name := "labelLength", desc := "(I)I" } : Jvm.MethodName)) ∈ lwG := lw_7 182 rfl rfl
theorem gw_7_183 : (Jvm.Cond.selects "RunbookerModel" ({ cls := "RunbookerModel", name := "labelLength", desc := "(I)I" } : Jvm.MethodName) ({ cls := "RunbookerModel", name := "labelLength", desc := "(I)I" } : Jvm.MethodName)) ∈ lwG := lw_7 183 rfl rfl
theorem gw_7_184 : (Jvm.Cond.code ({ cls := "RunbookerModel", name := "labelLength", desc := "(I)I" } : Jvm.MethodName) prog_8_method_78_code (2 : Nat) (Option.some Jvm.ClassFile.FieldType.int)) ∈ lwG := lw_7 184 rfl rfl
theorem gw_7_185 : (Jvm.Cond.methodLink "RunbookerModel" (255 : Nat) ({ cls := "RunbookerModel", name := "label", desc := "(I)Ljava/lang/String;" } : Jvm.MethodName)) ∈ lwG := lw_7 185 rfl rfl
theorem gw_7_187 : (Jvm.Cond.instanceMethod ({ cls := "RunbookerModel", name := "label", desc := "(I)Ljava/lang/String;" } : Jvm.MethodName)) ∈ lwG := lw_7 187 rfl rfl
theorem gw_7_188 : (Jvm.Cond.code ({ cls := "RunbookerModel", name := "label", desc := "(I)Ljava/lang/String;" } : Jvm.MethodName) prog_8_method_77_code (3 : Nat) (Option.some (Jvm.ClassFile.FieldType.object "java/lang/String"))) ∈ lwG := lw_7 188 rfl rfl
theorem gw_7_189 : (Jvm.Cond.classLink "RunbookerModel" (241 : Nat) "java/lang/StringBuilder") ∈ lwG := lw_7 189 rfl rfl
theorem gw_7_190 : (Jvm.Cond.methodLink "RunbookerModel" (243 : Nat) ({ cls := "java/lang/StringBuilder", name := "<init>", desc := "()V" } : Jvm.MethodName)) ∈ lwG := lw_7 190 rfl rfl
theorem gw_7_191 : (Jvm.Cond.methodLink "RunbookerModel" (244 : Nat) ({ cls := "java/lang/StringBuilder", name := "append", desc := "(I)Ljava/lang/StringBuilder;" } : Jvm.MethodName)) ∈ lwG := lw_7 191 rfl rfl
theorem gw_7_192 : (Jvm.Cond.methodLink "RunbookerModel" (248 : Nat) ({ cls := "java/lang/StringBuilder", name := "append", desc := "(C)Ljava/lang/StringBuilder;" } : Jvm.MethodName)) ∈ lwG := lw_7 192 rfl rfl
theorem gw_7_193 : (Jvm.Cond.methodLink "RunbookerModel" (251 : Nat) ({ cls := "java/lang/StringBuilder", name := "toString", desc := "()Ljava/lang/String;" } : Jvm.MethodName)) ∈ lwG := lw_7 193 rfl rfl
theorem gw_7_194 : (Jvm.Cond.instanceMethod ({ cls := "java/lang/StringBuilder", name := "toString", desc := "()Ljava/lang/String;" } : Jvm.MethodName)) ∈ lwG := lw_7 194 rfl rfl
theorem gw_7_195 : (Jvm.Cond.selects "java/lang/StringBuilder" ({ cls := "java/lang/StringBuilder", name := "toString", desc := "()Ljava/lang/String;" } : Jvm.MethodName) ({ cls := "java/lang/StringBuilder", name := "toString", desc := "()Ljava/lang/String;" } : Jvm.MethodName)) ∈ lwG := lw_7 195 rfl rfl
theorem gw_7_196 : (Jvm.Cond.code ({ cls := "java/lang/StringBuilder", name := "toString", desc := "()Ljava/lang/String;" } : Jvm.MethodName) prog_24_method_42_code (1 : Nat) (Option.some (Jvm.ClassFile.FieldType.object "java/lang/String"))) ∈ lwG := lw_7 196 rfl rfl
theorem gw_7_197 : (Jvm.Cond.classLink "java/lang/StringBuilder" (18 : Nat) "java/lang/String") ∈ lwG := lw_7 197 rfl rfl
theorem gw_7_198 : (Jvm.Cond.instantiable "java/lang/String" (4 : Nat)) ∈ lwG := lw_7 198 rfl rfl
theorem gw_7_199 : (Jvm.Cond.methodLink "java/lang/StringBuilder" (137 : Nat) ({ cls := "java/lang/String", name := "<init>", desc := "(Ljava/lang/StringBuilder;)V" } : Jvm.MethodName)) ∈ lwG := lw_7 199 rfl rfl
theorem gw_7_200 : (Jvm.Cond.instanceMethod ({ cls := "java/lang/String", name := "<init>", desc := "(Ljava/lang/StringBuilder;)V" } : Jvm.MethodName)) ∈ lwG := lw_7 200 rfl rfl
theorem gw_7_201 : (Jvm.Cond.code ({ cls := "java/lang/String", name := "<init>", desc := "(Ljava/lang/StringBuilder;)V" } : Jvm.MethodName) prog_23_method_53_code (2 : Nat) (Option.none : Option Jvm.ClassFile.FieldType)) ∈ lwG := lw_7 201 rfl rfl
theorem gw_7_202 : (Jvm.Cond.methodLink "java/lang/String" (489 : Nat) ({ cls := "java/lang/String", name := "<init>", desc := "(Ljava/lang/AbstractStringBuilder;Ljava/lang/Void;)V" } : Jvm.MethodName)) ∈ lwG := lw_7 202 rfl rfl
theorem gw_7_203 : (Jvm.Cond.instanceMethod ({ cls := "java/lang/String", name := "<init>", desc := "(Ljava/lang/AbstractStringBuilder;Ljava/lang/Void;)V" } : Jvm.MethodName)) ∈ lwG := lw_7 203 rfl rfl
theorem gw_7_204 : (Jvm.Cond.code ({ cls := "java/lang/String", name := "<init>", desc := "(Ljava/lang/AbstractStringBuilder;Ljava/lang/Void;)V" } : Jvm.MethodName) prog_23_method_150_code (5 : Nat) (Option.none : Option Jvm.ClassFile.FieldType)) ∈ lwG := lw_7 204 rfl rfl
theorem gw_7_205 : (Jvm.Cond.methodLink "java/lang/String" (1 : Nat) ({ cls := "java/lang/Object", name := "<init>", desc := "()V" } : Jvm.MethodName)) ∈ lwG := lw_7 205 rfl rfl
theorem gw_7_206 : (Jvm.Cond.methodLink "java/lang/String" (552 : Nat) ({ cls := "java/lang/AbstractStringBuilder", name := "getValue", desc := "()[B" } : Jvm.MethodName)) ∈ lwG := lw_7 206 rfl rfl
theorem gw_7_207 : (Jvm.Cond.instanceMethod ({ cls := "java/lang/AbstractStringBuilder", name := "getValue", desc := "()[B" } : Jvm.MethodName)) ∈ lwG := lw_7 207 rfl rfl
theorem gw_7_208 : (Jvm.Cond.sameMethod "java/lang/AbstractStringBuilder" "java/lang/AbstractStringBuilder" "getValue" "()[B") ∈ lwG := lw_7 208 rfl rfl
theorem gw_7_209 : (Jvm.Cond.selects "java/lang/StringBuilder" ({ cls := "java/lang/AbstractStringBuilder", name := "getValue", desc := "()[B" } : Jvm.MethodName) ({ cls := "java/lang/AbstractStringBuilder", name := "getValue", desc := "()[B" } : Jvm.MethodName)) ∈ lwG := lw_7 209 rfl rfl
theorem gw_7_210 : (Jvm.Cond.code ({ cls := "java/lang/AbstractStringBuilder", name := "getValue", desc := "()[B" } : Jvm.MethodName) prog_10_method_64_code (1 : Nat) (Option.some (Jvm.ClassFile.FieldType.array Jvm.ClassFile.FieldType.byte))) ∈ lwG := lw_7 210 rfl rfl
theorem gw_7_211 : (Jvm.Cond.methodLink "java/lang/String" (549 : Nat) ({ cls := "java/lang/AbstractStringBuilder", name := "length", desc := "()I" } : Jvm.MethodName)) ∈ lwG := lw_7 211 rfl rfl
theorem gw_7_212 : (Jvm.Cond.methodLink "java/lang/String" (1047 : Nat) ({ cls := "java/lang/AbstractStringBuilder", name := "isLatin1", desc := "()Z" } : Jvm.MethodName)) ∈ lwG := lw_7 212 rfl rfl
theorem gw_7_213 : (Jvm.Cond.methodLink "java/lang/String" (54 : Nat) ({ cls := "java/util/Arrays", name := "copyOfRange", desc := "([BII)[B" } : Jvm.MethodName)) ∈ lwG := lw_7 213 rfl rfl
theorem gw_7_214 : (Jvm.Cond.static ({ cls := "java/util/Arrays", name := "copyOfRange", desc := "([BII)[B" } : Jvm.MethodName)) ∈ lwG := lw_7 214 rfl rfl
theorem gw_7_215 : (Jvm.Cond.code ({ cls := "java/util/Arrays", name := "copyOfRange", desc := "([BII)[B" } : Jvm.MethodName) prog_32_method_132_code (3 : Nat) (Option.some (Jvm.ClassFile.FieldType.array Jvm.ClassFile.FieldType.byte))) ∈ lwG := lw_7 215 rfl rfl
theorem gw_7_216 : (Jvm.Cond.methodLink "java/util/Arrays" (339 : Nat) ({ cls := "java/util/Arrays", name := "copyOfRangeByte", desc := "([BII)[B" } : Jvm.MethodName)) ∈ lwG := lw_7 216 rfl rfl
theorem gw_7_217 : (Jvm.Cond.static ({ cls := "java/util/Arrays", name := "copyOfRangeByte", desc := "([BII)[B" } : Jvm.MethodName)) ∈ lwG := lw_7 217 rfl rfl
theorem gw_7_218 : (Jvm.Cond.code ({ cls := "java/util/Arrays", name := "copyOfRangeByte", desc := "([BII)[B" } : Jvm.MethodName) prog_32_method_133_code (5 : Nat) (Option.some (Jvm.ClassFile.FieldType.array Jvm.ClassFile.FieldType.byte))) ∈ lwG := lw_7 218 rfl rfl
theorem gw_7_219 : (Jvm.Cond.methodLink "java/util/Arrays" (343 : Nat) ({ cls := "java/util/Arrays", name := "checkLength", desc := "(II)V" } : Jvm.MethodName)) ∈ lwG := lw_7 219 rfl rfl
theorem gw_7_220 : (Jvm.Cond.static ({ cls := "java/util/Arrays", name := "checkLength", desc := "(II)V" } : Jvm.MethodName)) ∈ lwG := lw_7 220 rfl rfl
theorem gw_7_221 : (Jvm.Cond.code ({ cls := "java/util/Arrays", name := "checkLength", desc := "(II)V" } : Jvm.MethodName) prog_32_method_131_code (2 : Nat) (Option.none : Option Jvm.ClassFile.FieldType)) ∈ lwG := lw_7 221 rfl rfl
theorem gw_7_222 : (Jvm.Cond.classLink "java/util/Arrays" (43 : Nat) "java/lang/IllegalArgumentException") ∈ lwG := lw_7 222 rfl rfl
theorem gw_7_223 : (Jvm.Cond.classLink "java/util/Arrays" (45 : Nat) "java/lang/StringBuilder") ∈ lwG := lw_7 223 rfl rfl
theorem gw_7_224 : (Jvm.Cond.methodLink "java/util/Arrays" (47 : Nat) ({ cls := "java/lang/StringBuilder", name := "<init>", desc := "()V" } : Jvm.MethodName)) ∈ lwG := lw_7 224 rfl rfl
theorem gw_7_225 : (Jvm.Cond.methodLink "java/util/Arrays" (54 : Nat) ({ cls := "java/lang/StringBuilder", name := "append", desc := "(I)Ljava/lang/StringBuilder;" } : Jvm.MethodName)) ∈ lwG := lw_7 225 rfl rfl
theorem gw_7_227 : (Jvm.Cond.methodLink "java/util/Arrays" (50 : Nat) ({ cls := "java/lang/StringBuilder", name := "append", desc := "(Ljava/lang/String;)Ljava/lang/StringBuilder;" } : Jvm.MethodName)) ∈ lwG := lw_7 227 rfl rfl
theorem gw_7_228 : (Jvm.Cond.instanceMethod ({ cls := "java/lang/StringBuilder", name := "append", desc := "(Ljava/lang/String;)Ljava/lang/StringBuilder;" } : Jvm.MethodName)) ∈ lwG := lw_7 228 rfl rfl
theorem gw_7_229 : (Jvm.Cond.selects "java/lang/StringBuilder" ({ cls := "java/lang/StringBuilder", name := "append", desc := "(Ljava/lang/String;)Ljava/lang/StringBuilder;" } : Jvm.MethodName) ({ cls := "java/lang/StringBuilder", name := "append", desc := "(Ljava/lang/String;)Ljava/lang/StringBuilder;" } : Jvm.MethodName)) ∈ lwG := lw_7 229 rfl rfl
theorem gw_7_230 : (Jvm.Cond.code ({ cls := "java/lang/StringBuilder", name := "append", desc := "(Ljava/lang/String;)Ljava/lang/StringBuilder;" } : Jvm.MethodName) prog_24_method_7_code (2 : Nat) (Option.some (Jvm.ClassFile.FieldType.object "java/lang/StringBuilder"))) ∈ lwG := lw_7 230 rfl rfl
theorem gw_7_231 : (Jvm.Cond.methodLink "java/lang/StringBuilder" (29 : Nat) ({ cls := "java/lang/AbstractStringBuilder", name := "append", desc := "(Ljava/lang/String;)Ljava/lang/AbstractStringBuilder;" } : Jvm.MethodName)) ∈ lwG := lw_7 231 rfl rfl
theorem gw_7_232 : (Jvm.Cond.instanceMethod ({ cls := "java/lang/AbstractStringBuilder", name := "append", desc := "(Ljava/lang/String;)Ljava/lang/AbstractStringBuilder;" } : Jvm.MethodName)) ∈ lwG := lw_7 232 rfl rfl
theorem gw_7_233 : (Jvm.Cond.code ({ cls := "java/lang/AbstractStringBuilder", name := "append", desc := "(Ljava/lang/String;)Ljava/lang/AbstractStringBuilder;" } : Jvm.MethodName) prog_10_method_22_code (3 : Nat) (Option.some (Jvm.ClassFile.FieldType.object "java/lang/AbstractStringBuilder"))) ∈ lwG := lw_7 233 rfl rfl
theorem gw_7_234 : (Jvm.Cond.methodLink "java/lang/AbstractStringBuilder" (204 : Nat) ({ cls := "java/lang/AbstractStringBuilder", name := "appendNull", desc := "()Ljava/lang/AbstractStringBuilder;" } : Jvm.MethodName)) ∈ lwG := lw_7 234 rfl rfl
theorem gw_7_236 : (Jvm.Cond.instanceMethod ({ cls := "java/lang/AbstractStringBuilder", name := "appendNull", desc := "()Ljava/lang/AbstractStringBuilder;" } : Jvm.MethodName)) ∈ lwG := lw_7 236 rfl rfl
theorem gw_7_237 : (Jvm.Cond.code ({ cls := "java/lang/AbstractStringBuilder", name := "appendNull", desc := "()Ljava/lang/AbstractStringBuilder;" } : Jvm.MethodName) prog_10_method_26_code (3 : Nat) (Option.some (Jvm.ClassFile.FieldType.object "java/lang/AbstractStringBuilder"))) ∈ lwG := lw_7 237 rfl rfl
theorem gw_7_238 : (Jvm.Cond.methodLink "java/lang/AbstractStringBuilder" (226 : Nat) ({ cls := "java/lang/StringUTF16", name := "putCharsAt", desc := "([BICCCC)I" } : Jvm.MethodName)) ∈ lwG := lw_7 238 rfl rfl
theorem gw_7_239 : (Jvm.Cond.static ({ cls := "java/lang/StringUTF16", name := "putCharsAt", desc := "([BICCCC)I" } : Jvm.MethodName)) ∈ lwG := lw_7 239 rfl rfl
theorem gw_8_0 : (Jvm.Cond.code ({ cls := "java/lang/StringUTF16", name := "putCharsAt", desc := "([BICCCC)I" } : Jvm.MethodName) prog_26_method_81_code (7 : Nat) (Option.some Jvm.ClassFile.FieldType.int)) ∈ lwG := lw_8 0 rfl rfl
theorem gw_8_1 : (Jvm.Cond.methodLink "java/lang/AbstractStringBuilder" (32 : Nat) ({ cls := "java/lang/String", name := "length", desc := "()I" } : Jvm.MethodName)) ∈ lwG := lw_8 1 rfl rfl
theorem gw_8_2 : (Jvm.Cond.instanceMethod ({ cls := "java/lang/String", name := "length", desc := "()I" } : Jvm.MethodName)) ∈ lwG := lw_8 2 rfl rfl
theorem gw_8_3 : (Jvm.Cond.selects "java/lang/String" ({ cls := "java/lang/String", name := "length", desc := "()I" } : Jvm.MethodName) ({ cls := "java/lang/String", name := "length", desc := "()I" } : Jvm.MethodName)) ∈ lwG := lw_8 3 rfl rfl
theorem gw_8_4 : (Jvm.Cond.code ({ cls := "java/lang/String", name := "length", desc := "()I" } : Jvm.MethodName) prog_23_method_54_code (1 : Nat) (Option.some Jvm.ClassFile.FieldType.int)) ∈ lwG := lw_8 4 rfl rfl
theorem gw_8_5 : (Jvm.Cond.methodLink "java/lang/String" (335 : Nat) ({ cls := "java/lang/String", name := "coder", desc := "()B" } : Jvm.MethodName)) ∈ lwG := lw_8 5 rfl rfl
theorem gw_8_6 : (Jvm.Cond.instanceMethod ({ cls := "java/lang/String", name := "coder", desc := "()B" } : Jvm.MethodName)) ∈ lwG := lw_8 6 rfl rfl
theorem gw_8_7 : (Jvm.Cond.selects "java/lang/String" ({ cls := "java/lang/String", name := "coder", desc := "()B" } : Jvm.MethodName) ({ cls := "java/lang/String", name := "coder", desc := "()B" } : Jvm.MethodName)) ∈ lwG := lw_8 7 rfl rfl
theorem gw_8_8 : (Jvm.Cond.code ({ cls := "java/lang/String", name := "coder", desc := "()B" } : Jvm.MethodName) prog_23_method_152_code (1 : Nat) (Option.some Jvm.ClassFile.FieldType.byte)) ∈ lwG := lw_8 8 rfl rfl
theorem gw_8_9 : (Jvm.Cond.fieldLink "java/lang/String" (38 : Nat) "java/lang/String" "COMPACT_STRINGS" "Z") ∈ lwG := lw_8 9 rfl rfl
theorem gw_8_10 : (Jvm.Cond.methodLink "java/lang/AbstractStringBuilder" (208 : Nat) ({ cls := "java/lang/AbstractStringBuilder", name := "putStringAt", desc := "(ILjava/lang/String;)V" } : Jvm.MethodName)) ∈ lwG := lw_8 10 rfl rfl
theorem gw_8_12 : (Jvm.Cond.instanceMethod ({ cls := "java/lang/AbstractStringBuilder", name := "putStringAt", desc := "(ILjava/lang/String;)V" } : Jvm.MethodName)) ∈ lwG := lw_8 12 rfl rfl
theorem gw_8_13 : (Jvm.Cond.code ({ cls := "java/lang/AbstractStringBuilder", name := "putStringAt", desc := "(ILjava/lang/String;)V" } : Jvm.MethodName) prog_10_method_73_code (3 : Nat) (Option.none : Option Jvm.ClassFile.FieldType)) ∈ lwG := lw_8 13 rfl rfl
theorem gw_8_14 : (Jvm.Cond.methodLink "java/lang/AbstractStringBuilder" (397 : Nat) ({ cls := "java/lang/AbstractStringBuilder", name := "inflateIfNeededFor", desc := "(Ljava/lang/String;)V" } : Jvm.MethodName)) ∈ lwG := lw_8 14 rfl rfl
theorem gw_8_16 : (Jvm.Cond.instanceMethod ({ cls := "java/lang/AbstractStringBuilder", name := "inflateIfNeededFor", desc := "(Ljava/lang/String;)V" } : Jvm.MethodName)) ∈ lwG := lw_8 16 rfl rfl
theorem gw_8_17 : (Jvm.Cond.code ({ cls := "java/lang/AbstractStringBuilder", name := "inflateIfNeededFor", desc := "(Ljava/lang/String;)V" } : Jvm.MethodName) prog_10_method_71_code (2 : Nat) (Option.none : Option Jvm.ClassFile.FieldType)) ∈ lwG := lw_8 17 rfl rfl
theorem gw_8_18 : (Jvm.Cond.methodLink "java/lang/AbstractStringBuilder" (40 : Nat) ({ cls := "java/lang/String", name := "coder", desc := "()B" } : Jvm.MethodName)) ∈ lwG := lw_8 18 rfl rfl
theorem gw_8_19 : (Jvm.Cond.methodLink "java/lang/AbstractStringBuilder" (399 : Nat) ({ cls := "java/lang/String", name := "getBytes", desc := "([BIB)V" } : Jvm.MethodName)) ∈ lwG := lw_8 19 rfl rfl
theorem gw_8_20 : (Jvm.Cond.instanceMethod ({ cls := "java/lang/String", name := "getBytes", desc := "([BIB)V" } : Jvm.MethodName)) ∈ lwG := lw_8 20 rfl rfl
theorem gw_8_21 : (Jvm.Cond.selects "java/lang/String" ({ cls := "java/lang/String", name := "getBytes", desc := "([BIB)V" } : Jvm.MethodName) ({ cls := "java/lang/String", name := "getBytes", desc := "([BIB)V" } : Jvm.MethodName)) ∈ lwG := lw_8 21 rfl rfl
theorem gw_8_22 : (Jvm.Cond.code ({ cls := "java/lang/String", name := "getBytes", desc := "([BIB)V" } : Jvm.MethodName) prog_23_method_147_code (4 : Nat) (Option.none : Option Jvm.ClassFile.FieldType)) ∈ lwG := lw_8 22 rfl rfl
theorem gw_8_23 : (Jvm.Cond.methodLink "java/lang/String" (212 : Nat) ({ cls := "java/lang/System", name := "arraycopy", desc := "(Ljava/lang/Object;ILjava/lang/Object;II)V" } : Jvm.MethodName)) ∈ lwG := lw_8 23 rfl rfl
theorem gw_8_24 : (Jvm.Cond.methodLink "java/lang/String" (106 : Nat) ({ cls := "java/lang/StringLatin1", name := "inflate", desc := "([BI[BII)V" } : Jvm.MethodName)) ∈ lwG := lw_8 24 rfl rfl
theorem gw_8_25 : (Jvm.Cond.methodLink "java/util/Arrays" (61 : Nat) ({ cls := "java/lang/StringBuilder", name := "toString", desc := "()Ljava/lang/String;" } : Jvm.MethodName)) ∈ lwG := lw_8 25 rfl rfl
theorem gw_8_26 : (Jvm.Cond.methodLink "java/util/Arrays" (65 : Nat) ({ cls := "java/lang/IllegalArgumentException", name := "<init>", desc := "(Ljava/lang/String;)V" } : Jvm.MethodName)) ∈ lwG := lw_8 26 rfl rfl
theorem gw_8_27 : (Jvm.Cond.methodLink "java/lang/String" (1051 : Nat) ({ cls := "java/lang/StringUTF16", name := "compress", desc := "([BII)[B" } : Jvm.MethodName)) ∈ lwG := lw_8 27 rfl rfl
theorem gw_8_28 : (Jvm.Cond.static ({ cls := "java/lang/StringUTF16", name := "compress", desc := "([BII)[B" } : Jvm.MethodName)) ∈ lwG := lw_8 28 rfl rfl
theorem gw_8_29 : (Jvm.Cond.code ({ cls := "java/lang/StringUTF16", name := "compress", desc := "([BII)[B" } : Jvm.MethodName) prog_26_method_17_code (6 : Nat) (Option.some (Jvm.ClassFile.FieldType.array Jvm.ClassFile.FieldType.byte))) ∈ lwG := lw_8 29 rfl rfl
theorem gw_8_30 : (Jvm.Cond.methodLink "java/lang/StringUTF16" (123 : Nat) ({ cls := "java/lang/StringUTF16", name := "compress", desc := "([BI[BII)I" } : Jvm.MethodName)) ∈ lwG := lw_8 30 rfl rfl
theorem gw_8_31 : (Jvm.Cond.static ({ cls := "java/lang/StringUTF16", name := "compress", desc := "([BI[BII)I" } : Jvm.MethodName)) ∈ lwG := lw_8 31 rfl rfl
theorem gw_8_32 : (Jvm.Cond.code ({ cls := "java/lang/StringUTF16", name := "compress", desc := "([BI[BII)I" } : Jvm.MethodName) prog_26_method_22_code (7 : Nat) (Option.some Jvm.ClassFile.FieldType.int)) ∈ lwG := lw_8 32 rfl rfl
theorem gw_8_33 : (Jvm.Cond.methodLink "java/lang/StringUTF16" (71 : Nat) ({ cls := "java/lang/StringUTF16", name := "getChar", desc := "([BI)C" } : Jvm.MethodName)) ∈ lwG := lw_8 33 rfl rfl
theorem gw_8_34 : (Jvm.Cond.methodLink "java/lang/StringUTF16" (126 : Nat) ({ cls := "java/util/Arrays", name := "copyOfRange", desc := "([BII)[B" } : Jvm.MethodName)) ∈ lwG := lw_8 34 rfl rfl
theorem gw_8_35 : (Jvm.Cond.methodLink "java/lang/String" (47 : Nat) ({ cls := "java/lang/StringUTF16", name := "coderFromArrayLen", desc := "([BI)B" } : Jvm.MethodName)) ∈ lwG := lw_8 35 rfl rfl
theorem gw_8_36 : (Jvm.Cond.static ({ cls := "java/lang/StringUTF16", name := "coderFromArrayLen", desc := "([BI)B" } : Jvm.MethodName)) ∈ lwG := lw_8 36 rfl rfl
theorem gw_8_37 : (Jvm.Cond.code ({ cls := "java/lang/StringUTF16", name := "coderFromArrayLen", desc := "([BI)B" } : Jvm.MethodName) prog_26_method_15_code (2 : Nat) (Option.some Jvm.ClassFile.FieldType.byte)) ∈ lwG := lw_8 37 rfl rfl
theorem gw_8_38 : (Jvm.Cond.fieldLink "java/lang/String" (9 : Nat) "java/lang/String" "value" "[B") ∈ lwG := lw_8 38 rfl rfl
theorem gw_8_39 : (Jvm.Cond.fieldLink "java/lang/String" (15 : Nat) "java/lang/String" "coder" "B") ∈ lwG := lw_8 39 rfl rfl
theorem gw_8_40 : (Jvm.Cond.laysFinal "java/lang/String" "java/lang/String" "value" "[B") ∈ lwG := lw_8 40 rfl rfl
theorem gw_8_42 : (Jvm.Cond.laysFinal "java/lang/String" "java/lang/String" "coder" "B") ∈ lwG := lw_8 42 rfl rfl
theorem gw_8_44 : (Jvm.Cond.lays "java/lang/String" "java/lang/String" "hash" "I") ∈ lwG := lw_8 44 rfl rfl
theorem gw_8_46 : (Jvm.Cond.lays "java/lang/String" "java/lang/String" "hashIsZero" "Z") ∈ lwG := lw_8 46 rfl rfl
theorem gw_8_48 : (Jvm.Cond.superclass "java/lang/String" "java/lang/Object") ∈ lwG := lw_8 48 rfl rfl
theorem gw_8_49 : (Jvm.Cond.methodLink "RunbookerModel" (259 : Nat) ({ cls := "java/lang/String", name := "length", desc := "()I" } : Jvm.MethodName)) ∈ lwG := lw_8 49 rfl rfl
theorem gw_8_50 : (Jvm.Cond.methodLink "RunbookerLaw" (325 : Nat) ({ cls := "RunbookerModel", name := "labelAt", desc := "(II)C" } : Jvm.MethodName)) ∈ lwG := lw_8 50 rfl rfl
theorem gw_8_51 : (Jvm.Cond.instanceMethod ({ cls := "RunbookerModel", name := "labelAt", desc := "(II)C" } : Jvm.MethodName)) ∈ lwG := lw_8 51 rfl rfl
theorem gw_8_52 : (Jvm.Cond.selects "RunbookerModel" ({ cls := "RunbookerModel", name := "labelAt", desc := "(II)C" } : Jvm.MethodName) ({ cls := "RunbookerModel", name := "labelAt", desc := "(II)C" } : Jvm.MethodName)) ∈ lwG := lw_8 52 rfl rfl
theorem gw_8_53 : (Jvm.Cond.code ({ cls := "RunbookerModel", name := "labelAt", desc := "(II)C" } : Jvm.MethodName) prog_8_method_79_code (3 : Nat) (Option.some Jvm.ClassFile.FieldType.char)) ∈ lwG := lw_8 53 rfl rfl
theorem gw_8_54 : (Jvm.Cond.methodLink "RunbookerModel" (264 : Nat) ({ cls := "java/lang/String", name := "charAt", desc := "(I)C" } : Jvm.MethodName)) ∈ lwG := lw_8 54 rfl rfl
theorem gw_8_55 : (Jvm.Cond.instanceMethod ({ cls := "java/lang/String", name := "charAt", desc := "(I)C" } : Jvm.MethodName)) ∈ lwG := lw_8 55 rfl rfl
theorem gw_8_56 : (Jvm.Cond.selects "java/lang/String" ({ cls := "java/lang/String", name := "charAt", desc := "(I)C" } : Jvm.MethodName) ({ cls := "java/lang/String", name := "charAt", desc := "(I)C" } : Jvm.MethodName)) ∈ lwG := lw_8 56 rfl rfl
theorem gw_8_57 : (Jvm.Cond.code ({ cls := "java/lang/String", name := "charAt", desc := "(I)C" } : Jvm.MethodName) prog_23_method_56_code (2 : Nat) (Option.some Jvm.ClassFile.FieldType.char)) ∈ lwG := lw_8 57 rfl rfl
theorem gw_8_58 : (Jvm.Cond.methodLink "java/lang/String" (492 : Nat) ({ cls := "java/lang/String", name := "isLatin1", desc := "()Z" } : Jvm.MethodName)) ∈ lwG := lw_8 58 rfl rfl
theorem gw_8_59 : (Jvm.Cond.instanceMethod ({ cls := "java/lang/String", name := "isLatin1", desc := "()Z" } : Jvm.MethodName)) ∈ lwG := lw_8 59 rfl rfl
theorem gw_8_60 : (Jvm.Cond.selects "java/lang/String" ({ cls := "java/lang/String", name := "isLatin1", desc := "()Z" } : Jvm.MethodName) ({ cls := "java/lang/String", name := "isLatin1", desc := "()Z" } : Jvm.MethodName)) ∈ lwG := lw_8 60 rfl rfl
theorem gw_8_61 : (Jvm.Cond.code ({ cls := "java/lang/String", name := "isLatin1", desc := "()Z" } : Jvm.MethodName) prog_23_method_154_code (1 : Nat) (Option.some Jvm.ClassFile.FieldType.boolean)) ∈ lwG := lw_8 61 rfl rfl
theorem gw_8_62 : (Jvm.Cond.methodLink "java/lang/String" (495 : Nat) ({ cls := "java/lang/StringLatin1", name := "charAt", desc := "([BI)C" } : Jvm.MethodName)) ∈ lwG := lw_8 62 rfl rfl
theorem gw_8_63 : (Jvm.Cond.static ({ cls := "java/lang/StringLatin1", name := "charAt", desc := "([BI)C" } : Jvm.MethodName)) ∈ lwG := lw_8 63 rfl rfl
theorem gw_8_64 : (Jvm.Cond.code ({ cls := "java/lang/StringLatin1", name := "charAt", desc := "([BI)C" } : Jvm.MethodName) prog_25_method_2_code (2 : Nat) (Option.some Jvm.ClassFile.FieldType.char)) ∈ lwG := lw_8 64 rfl rfl
theorem gw_8_65 : (Jvm.Cond.methodLink "java/lang/StringLatin1" (9 : Nat) ({ cls := "java/lang/String", name := "checkIndex", desc := "(II)V" } : Jvm.MethodName)) ∈ lwG := lw_8 65 rfl rfl
theorem gw_8_66 : (Jvm.Cond.methodLink "java/lang/String" (498 : Nat) ({ cls := "java/lang/StringUTF16", name := "charAt", desc := "([BI)C" } : Jvm.MethodName)) ∈ lwG := lw_8 66 rfl rfl
theorem gw_8_67 : (Jvm.Cond.static ({ cls := "java/lang/StringUTF16", name := "charAt", desc := "([BI)C" } : Jvm.MethodName)) ∈ lwG := lw_8 67 rfl rfl
theorem gw_8_68 : (Jvm.Cond.code ({ cls := "java/lang/StringUTF16", name := "charAt", desc := "([BI)C" } : Jvm.MethodName) prog_26_method_83_code (2 : Nat) (Option.some Jvm.ClassFile.FieldType.char)) ∈ lwG := lw_8 68 rfl rfl
theorem gw_8_69 : (Jvm.Cond.methodLink "RunbookerLaw" (330 : Nat) ({ cls := "RunbookerModel", name := "workedMinutes", desc := "()J" } : Jvm.MethodName)) ∈ lwG := lw_8 69 rfl rfl
theorem gw_8_70 : (Jvm.Cond.instanceMethod ({ cls := "RunbookerModel", name := "workedMinutes", desc := "()J" } : Jvm.MethodName)) ∈ lwG := lw_8 70 rfl rfl
theorem gw_8_71 : (Jvm.Cond.selects "RunbookerModel" ({ cls := "RunbookerModel", name := "workedMinutes", desc := "()J" } : Jvm.MethodName) ({ cls := "RunbookerModel", name := "workedMinutes", desc := "()J" } : Jvm.MethodName)) ∈ lwG := lw_8 71 rfl rfl
theorem gw_8_72 : (Jvm.Cond.code ({ cls := "RunbookerModel", name := "workedMinutes", desc := "()J" } : Jvm.MethodName) prog_8_method_80_code (1 : Nat) (Option.some Jvm.ClassFile.FieldType.long)) ∈ lwG := lw_8 72 rfl rfl
theorem gw_8_73 : (Jvm.Cond.methodLink "RunbookerLaw" (334 : Nat) ({ cls := "RunbookerModel", name := "doneShare", desc := "()F" } : Jvm.MethodName)) ∈ lwG := lw_8 73 rfl rfl
theorem gw_8_74 : (Jvm.Cond.instanceMethod ({ cls := "RunbookerModel", name := "doneShare", desc := "()F" } : Jvm.MethodName)) ∈ lwG := lw_8 74 rfl rfl
theorem gw_8_75 : (Jvm.Cond.selects "RunbookerModel" ({ cls := "RunbookerModel", name := "doneShare", desc := "()F" } : Jvm.MethodName) ({ cls := "RunbookerModel", name := "doneShare", desc := "()F" } : Jvm.MethodName)) ∈ lwG := lw_8 75 rfl rfl
theorem gw_8_76 : (Jvm.Cond.code ({ cls := "RunbookerModel", name := "doneShare", desc := "()F" } : Jvm.MethodName) prog_8_method_81_code (1 : Nat) (Option.some Jvm.ClassFile.FieldType.float)) ∈ lwG := lw_8 76 rfl rfl
theorem gw_8_77 : (Jvm.Cond.methodLink "RunbookerLaw" (337 : Nat) ({ cls := "RunbookerModel", name := "meanTries", desc := "()D" } : Jvm.MethodName)) ∈ lwG := lw_8 77 rfl rfl
theorem gw_8_78 : (Jvm.Cond.instanceMethod ({ cls := "RunbookerModel", name := "meanTries", desc := "()D" } : Jvm.MethodName)) ∈ lwG := lw_8 78 rfl rfl
theorem gw_8_79 : (Jvm.Cond.selects "RunbookerModel" ({ cls := "RunbookerModel", name := "meanTries", desc := "()D" } : Jvm.MethodName) ({ cls := "RunbookerModel", name := "meanTries", desc := "()D" } : Jvm.MethodName)) ∈ lwG := lw_8 79 rfl rfl
theorem gw_8_80 : (Jvm.Cond.code ({ cls := "RunbookerModel", name := "meanTries", desc := "()D" } : Jvm.MethodName) prog_8_method_82_code (3 : Nat) (Option.some Jvm.ClassFile.FieldType.double)) ∈ lwG := lw_8 80 rfl rfl
theorem gw_8_81 : (Jvm.Cond.arrayClass Jvm.ClassFile.FieldType.long) ∈ lwG := lw_8 81 rfl rfl
theorem gw_8_82 : (Jvm.Cond.arrayClass Jvm.ClassFile.FieldType.double) ∈ lwG := lw_8 82 rfl rfl
theorem gw_8_83 : (Jvm.Cond.sameMethod "java/lang/Throwable" "java/lang/Throwable" "fillInStackTrace" "(I)Ljava/lang/Throwable;") ∈ lwG := lw_8 83 rfl rfl
theorem gw_8_84 : (Jvm.Cond.sameMethod "java/lang/AbstractStringBuilder" "java/lang/AbstractStringBuilder" "append" "(I)Ljava/lang/AbstractStringBuilder;") ∈ lwG := lw_8 84 rfl rfl
theorem gw_8_85 : (Jvm.Cond.sameMethod "java/lang/AbstractStringBuilder" "java/lang/AbstractStringBuilder" "ensureCapacityInternal" "(I)V") ∈ lwG := lw_8 85 rfl rfl
theorem gw_8_86 : (Jvm.Cond.sameMethod "java/lang/AbstractStringBuilder" "java/lang/AbstractStringBuilder" "newCapacity" "(I)I") ∈ lwG := lw_8 86 rfl rfl
theorem gw_8_87 : (Jvm.Cond.sameMethod "java/lang/AbstractStringBuilder" "java/lang/AbstractStringBuilder" "append" "(C)Ljava/lang/AbstractStringBuilder;") ∈ lwG := lw_8 87 rfl rfl
theorem gw_8_88 : (Jvm.Cond.sameMethod "java/lang/AbstractStringBuilder" "java/lang/AbstractStringBuilder" "inflate" "()V") ∈ lwG := lw_8 88 rfl rfl
theorem gw_8_89 : (Jvm.Cond.sameMethod "java/lang/AbstractStringBuilder" "java/lang/AbstractStringBuilder" "length" "()I") ∈ lwG := lw_8 89 rfl rfl
theorem gw_8_90 : (Jvm.Cond.sameMethod "java/lang/AbstractStringBuilder" "java/lang/AbstractStringBuilder" "charAt" "(I)C") ∈ lwG := lw_8 90 rfl rfl
theorem gw_8_91 : (Jvm.Cond.selects "java/lang/StringBuilder" ({ cls := "java/lang/AbstractStringBuilder", name := "length", desc := "()I" } : Jvm.MethodName) ({ cls := "java/lang/StringBuilder", name := "length", desc := "()I" } : Jvm.MethodName)) ∈ lwG := lw_8 91 rfl rfl
theorem gw_8_92 : (Jvm.Cond.sameMethod "java/lang/AbstractStringBuilder" "java/lang/AbstractStringBuilder" "append" "(Ljava/lang/String;)Ljava/lang/AbstractStringBuilder;") ∈ lwG := lw_8 92 rfl rfl
theorem gw_8_93 : (Jvm.Cond.sameMethod "java/lang/AbstractStringBuilder" "java/lang/AbstractStringBuilder" "appendNull" "()Ljava/lang/AbstractStringBuilder;") ∈ lwG := lw_8 93 rfl rfl
theorem gw_8_94 : (Jvm.Cond.sameMethod "java/lang/AbstractStringBuilder" "java/lang/AbstractStringBuilder" "putStringAt" "(ILjava/lang/String;)V") ∈ lwG := lw_8 94 rfl rfl
theorem gw_8_95 : (Jvm.Cond.sameMethod "java/lang/AbstractStringBuilder" "java/lang/AbstractStringBuilder" "inflateIfNeededFor" "(Ljava/lang/String;)V") ∈ lwG := lw_8 95 rfl rfl
