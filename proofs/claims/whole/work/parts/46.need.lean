/-! ===== Integer.bitCount; need ===== -/
theorem fa_and (a b : Nat) : nI a &&& nI b = nI (a &&& b) := by
  apply Int32.toBitVec_inj.1
  show BitVec.ofNat 32 a &&& BitVec.ofNat 32 b = BitVec.ofNat 32 (a &&& b)
  apply BitVec.eq_of_getLsbD_eq
  intro i hi
  simp [hi]
theorem fa_or (a b : Nat) : nI a ||| nI b = nI (a ||| b) := by
  apply Int32.toBitVec_inj.1
  show BitVec.ofNat 32 a ||| BitVec.ofNat 32 b = BitVec.ofNat 32 (a ||| b)
  apply BitVec.eq_of_getLsbD_eq
  intro i hi
  simp [hi]

/-- what bitCount reckons -/
def bcA (n : Nat) : Nat := n - (n / 2 &&& 1431655765)
def bcB (n : Nat) : Nat := (bcA n &&& 858993459) + (bcA n / 4 &&& 858993459)
def bcC (n : Nat) : Nat := bcB n + bcB n / 16 &&& 252645135
def bcD (n : Nat) : Nat := bcC n + bcC n / 256
def bcE (n : Nat) : Nat := bcD n + bcD n / 65536
def bcN (n : Nat) : Nat := bcE n &&& 63
def pc16 (n : Nat) : Nat := n % 2 + n / 2 % 2 + n / 4 % 2 + n / 8 % 2 + n / 16 % 2 + n / 32 % 2 + n / 64 % 2 + n / 128 % 2 + n / 256 % 2 + n / 512 % 2 + n / 1024 % 2 + n / 2048 % 2 + n / 4096 % 2 + n / 8192 % 2 + n / 16384 % 2 + n / 32768 % 2
def bcOK : Nat → Nat → Bool
  | _, 0 => true
  | h, l + 1 => Nat.beq (bcN (256 * h + l)) (pc16 (256 * h + l)) && bcOK h l
def bcAll : Nat → Bool
  | 0 => true
  | h + 1 => bcOK h 256 && bcAll h
set_option maxRecDepth 100000 in
theorem bc_all : bcAll 256 = true := by decide +kernel
theorem bcOK_at {h : Nat} : ∀ {k : Nat}, bcOK h k = true → ∀ l, l < k → bcN (256 * h + l) = pc16 (256 * h + l)
  | 0, _, l, hl => absurd hl (Nat.not_lt_zero _)
  | k + 1, e, l, hl => by
    unfold bcOK at e
    rw [Bool.and_eq_true] at e
    by_cases h9 : l = k
    · subst h9; exact Nat.eq_of_beq_eq_true e.1
    · exact bcOK_at e.2 l (by omega)
theorem bcAll_at : ∀ {k : Nat}, bcAll k = true → ∀ h, h < k → bcOK h 256 = true
  | 0, _, h, hl => absurd hl (Nat.not_lt_zero _)
  | k + 1, e, h, hl => by
    unfold bcAll at e
    rw [Bool.and_eq_true] at e
    by_cases h9 : h = k
    · subst h9; exact e.1
    · exact bcAll_at e.2 h (by omega)
theorem bcN_pc {n : Nat} (h : n < 65536) : bcN n = pc16 n := by
  have h2 := bcOK_at (bcAll_at bc_all (n / 256) (by omega)) (n % 256) (Nat.mod_lt _ (by decide))
  rwa [Nat.div_add_mod] at h2
theorem s31 : ∀ n, n < 32 → ((nI n &&& 31).toBitVec.smod 32).toNat = n := by decide +kernel
theorem u31 : ∀ n, n < 32 → (((nI n).toUInt32 &&& Int32.toUInt32 31).toBitVec % 32).toNat = n := by decide +kernel
theorem hbN {n k : Nat} (h : n < 65536) (hk : k < 16) : (if hasBit (nI n) (nI k) = true then 1 else 0) = n / 2 ^ k % 2 := by
  have e1 : nI n >>> (nI k &&& 31) = nI (n / 2 ^ k) := pk_shrN (by omega) _ k (s31 k (by omega))
  have e2 : nI (n / 2 ^ k) &&& nI 1 = nI (n / 2 ^ k % 2) := by rw [fa_and]; exact congrArg nI (Nat.and_two_pow_sub_one_eq_mod _ 1)
  unfold hasBit
  rw [e1, e2]
  rcases Nat.mod_two_eq_zero_or_one (n / 2 ^ k) with h9 | h9 <;> rw [h9] <;> decide
theorem popc_pc {n : Nat} (h : n < 65536) : popc (nI n) = pc16 n := by
  have e : popc (nI n) = 0 + (if hasBit (nI n) (nI 0) = true then 1 else 0) + (if hasBit (nI n) (nI 1) = true then 1 else 0) + (if hasBit (nI n) (nI 2) = true then 1 else 0) + (if hasBit (nI n) (nI 3) = true then 1 else 0) + (if hasBit (nI n) (nI 4) = true then 1 else 0) + (if hasBit (nI n) (nI 5) = true then 1 else 0) + (if hasBit (nI n) (nI 6) = true then 1 else 0) + (if hasBit (nI n) (nI 7) = true then 1 else 0) + (if hasBit (nI n) (nI 8) = true then 1 else 0) + (if hasBit (nI n) (nI 9) = true then 1 else 0) + (if hasBit (nI n) (nI 10) = true then 1 else 0) + (if hasBit (nI n) (nI 11) = true then 1 else 0) + (if hasBit (nI n) (nI 12) = true then 1 else 0) + (if hasBit (nI n) (nI 13) = true then 1 else 0) + (if hasBit (nI n) (nI 14) = true then 1 else 0) + (if hasBit (nI n) (nI 15) = true then 1 else 0) := rfl
  rw [e, hbN h (by decide), hbN h (by decide), hbN h (by decide), hbN h (by decide), hbN h (by decide), hbN h (by decide), hbN h (by decide), hbN h (by decide), hbN h (by decide), hbN h (by decide), hbN h (by decide), hbN h (by decide), hbN h (by decide), hbN h (by decide), hbN h (by decide), hbN h (by decide)]
  unfold pc16
  simp only [Nat.reducePow, Nat.div_one, Nat.zero_add]
theorem bcN_ok {n : Nat} (h : n < 65536) : bcN n = popc (nI n) := (bcN_pc h).trans (popc_pc h).symm
theorem bcA_le (n : Nat) : bcA n ≤ n := Nat.sub_le _ _
theorem bcB_le (n : Nat) : bcB n ≤ 2 * n := by
  have h1 : (bcA n &&& 858993459) ≤ bcA n := Nat.and_le_left
  have h2 : (bcA n / 4 &&& 858993459) ≤ bcA n / 4 := Nat.and_le_left
  have := bcA_le n
  unfold bcB; omega
theorem bcC_le (n : Nat) : bcC n ≤ 4 * n := by
  have h1 : (bcB n + bcB n / 16 &&& 252645135) ≤ bcB n + bcB n / 16 := Nat.and_le_left
  have := bcB_le n
  unfold bcC; omega
theorem bcD_le (n : Nat) : bcD n ≤ 8 * n := by
  have := bcC_le n
  unfold bcD; omega
theorem bc_s1 {n : Nat} : nI n - nI (n / 2 &&& 1431655765) = nI (bcA n) := by
  have h1 : (n / 2 &&& 1431655765) ≤ n / 2 := Nat.and_le_left
  exact pk_sub (by omega)
theorem or_nb {a : Int32} {q : Nat} (h : ∃ n, n < 65536 ∧ a = nI n) (hq : q < 16) : ∃ n, n < 65536 ∧ a ||| (nI 1 <<< (nI q &&& 31)) = nI n := by
  obtain ⟨n, hn, rfl⟩ := h
  have h2 : (2 : Nat) ^ q < 65536 := Nat.pow_lt_pow_right (n := 16) (by decide) hq
  have e : nI 1 <<< (nI q &&& 31) = nI (1 * 2 ^ q) := pk_shlN _ q (s31 q (by omega)) (by omega)
  refine ⟨n ||| 1 * 2 ^ q, ?_, by rw [e, fa_or]⟩
  exact Nat.or_lt_two_pow (n := 16) hn (by omega)
theorem vND_nb {S : St} (hI : Inv S) {x y : Int32} (h : ix y < 16) : ∃ n, n < 65536 ∧ vND S x y = nI n := or_nb (hI.nb (ix x)) h
set_option maxRecDepth 20000 in
set_option maxHeartbeats 4000000 in
theorem c_J6_bitCount_0f7a4g (l : Launch) (D : va_G) (cy : Nat → ClassId) (n : Nat) (Wd : va_W) (hn : n < 65536) : Ctr l D cy yJ6_bitCount_0f7a4 (.code yJ6_bitCount_0f7a4 cJ6_bitCount_0f7a4 1 (some FieldType.int)) ({ frames := 1, cells := 0, slots := 0, locals := 60 } : Room) [.int (nI n)] (Wd) (pI (nI (bcN n)) Wd) pNo := by
  refine Ctr.of (by decide) (Nat.le_of_ble_eq_true rfl) ?_
  intro M X hE hN hB9 hI9
  replace X : VX l D M cy cJ6_bitCount_0f7a4 "java/lang/Integer" (some FieldType.int) ({ frames := 1, cells := 0, slots := 0, locals := 60 } : Room) := X
  show V l D M 0 0 (Wd) [(0, .int (nI n))] 0 []
  refine V.iload_n X dJ6_bitCount_0f7a4_0 rfl ?_
  refine V.iload_n X dJ6_bitCount_0f7a4_1 rfl ?_
  refine V.iconst (v := nI 1) X dJ6_bitCount_0f7a4_2 rfl ?_
  refine V.iushr (v := nI (n / 2)) X dJ6_bitCount_0f7a4_3 (pk_ushrN (n := n) (by skip; omega) (nI 1) 1 (u31 1 (by decide))) ?_
  refine V.ldcw (v := (1431655765 : Int32)) X gw_3_15 dJ6_bitCount_0f7a4_4 ?_
  refine V.iand (v := nI (n / 2 &&& 1431655765)) X dJ6_bitCount_0f7a4_7 (fa_and _ _) ?_
  refine V.isub (v := nI (bcA n)) X dJ6_bitCount_0f7a4_8 bc_s1 ?_
  refine V.istore_n (L' := [(0, .int (nI (bcA n)))]) X dJ6_bitCount_0f7a4_9 rfl hB9 (by decide) rfl ?_
  refine V.iload_n X dJ6_bitCount_0f7a4_10 rfl ?_
  refine V.ldcw (v := (858993459 : Int32)) X gw_3_16 dJ6_bitCount_0f7a4_11 ?_
  refine V.iand (v := nI (bcA n &&& 858993459)) X dJ6_bitCount_0f7a4_14 (fa_and _ _) ?_
  refine V.iload_n X dJ6_bitCount_0f7a4_15 rfl ?_
  refine V.iconst (v := nI 2) X dJ6_bitCount_0f7a4_16 rfl ?_
  refine V.iushr (v := nI (bcA n / 4)) X dJ6_bitCount_0f7a4_17 (pk_ushrN (n := bcA n) (by have := bcA_le n; omega) (nI 2) 2 (u31 2 (by decide))) ?_
  refine V.ldcw (v := (858993459 : Int32)) X gw_3_16 dJ6_bitCount_0f7a4_18 ?_
  refine V.iand (v := nI (bcA n / 4 &&& 858993459)) X dJ6_bitCount_0f7a4_21 (fa_and _ _) ?_
  refine V.iadd (v := nI (bcB n)) X dJ6_bitCount_0f7a4_22 (nI_add _ _) ?_
  refine V.istore_n (L' := [(0, .int (nI (bcB n)))]) X dJ6_bitCount_0f7a4_23 rfl hB9 (by decide) rfl ?_
  refine V.iload_n X dJ6_bitCount_0f7a4_24 rfl ?_
  refine V.iload_n X dJ6_bitCount_0f7a4_25 rfl ?_
  refine V.iconst (v := nI 4) X dJ6_bitCount_0f7a4_26 rfl ?_
  refine V.iushr (v := nI (bcB n / 16)) X dJ6_bitCount_0f7a4_27 (pk_ushrN (n := bcB n) (by have := bcB_le n; omega) (nI 4) 4 (u31 4 (by decide))) ?_
  refine V.iadd (v := nI (bcB n + bcB n / 16)) X dJ6_bitCount_0f7a4_28 (nI_add _ _) ?_
  refine V.ldcw (v := (252645135 : Int32)) X gw_3_17 dJ6_bitCount_0f7a4_29 ?_
  refine V.iand (v := nI (bcC n)) X dJ6_bitCount_0f7a4_32 (fa_and _ _) ?_
  refine V.istore_n (L' := [(0, .int (nI (bcC n)))]) X dJ6_bitCount_0f7a4_33 rfl hB9 (by decide) rfl ?_
  refine V.iload_n X dJ6_bitCount_0f7a4_34 rfl ?_
  refine V.iload_n X dJ6_bitCount_0f7a4_35 rfl ?_
  refine V.bipush (v := nI 8) X dJ6_bitCount_0f7a4_36 (by decide) ?_
  refine V.iushr (v := nI (bcC n / 256)) X dJ6_bitCount_0f7a4_38 (pk_ushrN (n := bcC n) (by have := bcC_le n; omega) (nI 8) 8 (u31 8 (by decide))) ?_
  refine V.iadd (v := nI (bcD n)) X dJ6_bitCount_0f7a4_39 (nI_add _ _) ?_
  refine V.istore_n (L' := [(0, .int (nI (bcD n)))]) X dJ6_bitCount_0f7a4_40 rfl hB9 (by decide) rfl ?_
  refine V.iload_n X dJ6_bitCount_0f7a4_41 rfl ?_
  refine V.iload_n X dJ6_bitCount_0f7a4_42 rfl ?_
  refine V.bipush (v := nI 16) X dJ6_bitCount_0f7a4_43 (by decide) ?_
  refine V.iushr (v := nI (bcD n / 65536)) X dJ6_bitCount_0f7a4_45 (pk_ushrN (n := bcD n) (by have := bcD_le n; omega) (nI 16) 16 (u31 16 (by decide))) ?_
  refine V.iadd (v := nI (bcE n)) X dJ6_bitCount_0f7a4_46 (nI_add _ _) ?_
  refine V.istore_n (L' := [(0, .int (nI (bcE n)))]) X dJ6_bitCount_0f7a4_47 rfl hB9 (by decide) rfl ?_
  refine V.iload_n X dJ6_bitCount_0f7a4_48 rfl ?_
  refine V.bipush (v := nI 63) X dJ6_bitCount_0f7a4_49 (by decide) ?_
  refine V.iand (v := nI (bcN n)) X dJ6_bitCount_0f7a4_51 (fa_and _ _) ?_
  exact V.iret (v := (nI (bcN n))) X hE rfl rfl (Nat.le_of_ble_eq_true rfl) (Nat.le_of_ble_eq_true rfl) ⟨rfl, rfl⟩ dJ6_bitCount_0f7a4_52
theorem c_J6_bitCount_0f7a4 (l : Launch) (D : va_G) (cy : Nat → ClassId) (ad : Nat → Nat) (S : St) (F : va_W) (v : Int32) (hv : ∃ n, n < 65536 ∧ v = nI n) : Ctr l D cy yJ6_bitCount_0f7a4 (.code yJ6_bitCount_0f7a4 cJ6_bitCount_0f7a4 1 (some FieldType.int)) ({ frames := 1, cells := 0, slots := 0, locals := 60 } : Room) [.int v] (wC ad cy S ++ F) (pI (nI (popc v)) (wC ad cy S ++ F)) pNo := by
  obtain ⟨n, hn, rfl⟩ := hv
  rw [← bcN_ok hn]
  exact c_J6_bitCount_0f7a4g l D cy n _ hn
set_option maxRecDepth 20000 in
set_option maxHeartbeats 4000000 in
theorem c_X5_need (l : Launch) (D : va_G) (cy : Nat → ClassId) (ad : Nat → Nat) (S : St) (F : va_W) (x : Int32) (y : Int32) (hI : Inv S) : Ctr l D cy yX5_need (.code yX5_need cX5_need 3 (some FieldType.int)) ({ frames := 12, cells := 8, slots := 48, locals := 400 } : Room) [.ref (ad 0), .int x, .int y] (wC ad cy S ++ F) (pIx (kND S x y = 0) (nI (popc (vND S x y))) (wC ad cy (sND S x y) ++ F)) (pXk ["java/util/NoSuchElementException", "java/lang/IllegalArgumentException", "java/lang/IllegalStateException"] (kND S x y) (wC ad cy S ++ F)) := by
  refine Ctr.of (by decide) (Nat.le_of_ble_eq_true rfl) ?_
  intro M X hE hN hB9 hI9
  replace X : VX l D M cy cX5_need "Runbooker" (some FieldType.int) ({ frames := 12, cells := 8, slots := 48, locals := 400 } : Room) := X
  show V l D M 0 0 (wC ad cy S ++ F) [(0, .ref (ad 0)), (1, .int x), (2, .int y)] 0 []
  have hW := hI.w
  have hB := hW.b
  have h43 := hW.n43
  have h44 := hW.n44
  have h46 := hW.n46
  have h45 := hW.n45
  have hcl := hW.cl
  have hen := hW.en
  refine V.aload_n X dX5_need_0 rfl ?_
  refine V.iload_n X dX5_need_1 rfl ?_
  refine V.callVx0 [.int x] X hE hN (c_X5_requireStep l D cy ad S F x) mv_X5_requireStep gw_3_1 ⟨⟨(Nat.le_of_ble_eq_true rfl), (Nat.le_of_ble_eq_true rfl)⟩, (Nat.le_of_ble_eq_true rfl), (Nat.le_of_ble_eq_true rfl)⟩ (q0 := 0) (ci := 7) rfl rfl rfl (Nat.le_of_ble_eq_true rfl) dX5_need_2 (fun E9 w9 h9 => ⟨0, (by simp [kND, h9.1]), (by rw [h9.2.1]; rfl), h9.2.2⟩) (fun hz2 => ?_)
  obtain ⟨p, hp, rfl⟩ := inR_of hz2 (by omega)
  have ep : ix (nI p) = p := ix_nI (by omega)
  refine V.aload_n X dX5_need_5 rfl ?_
  refine V.iload_n X dX5_need_6 rfl ?_
  refine V.callVx0 [.int y] X hE hN (c_X5_requireStep l D cy ad S F y) mv_X5_requireStep gw_3_1 ⟨⟨(Nat.le_of_ble_eq_true rfl), (Nat.le_of_ble_eq_true rfl)⟩, (Nat.le_of_ble_eq_true rfl), (Nat.le_of_ble_eq_true rfl)⟩ (q0 := 0) (ci := 7) rfl rfl rfl (Nat.le_of_ble_eq_true rfl) dX5_need_7 (fun E9 w9 h9 => ⟨0, (by simp [kND, hz2, hp, ep, h9.1]), (by rw [h9.2.1]; rfl), h9.2.2⟩) (fun hz7 => ?_)
  obtain ⟨q, hq, rfl⟩ := inR_of hz7 (by omega)
  have eq : ix (nI q) = q := ix_nI (by omega)
  refine V.iload_n X dX5_need_10 rfl ?_
  refine V.iload_n X dX5_need_11 rfl ?_
  refine V.icmp_lt (tgt := 25) X dX5_need_12 (by decide) (cN_lt (by omega) (by omega)) (cN_nlt (by omega) (by omega)) (fun (hz12 : q < p) => ?_) (fun (hz12 : p ≤ q) => ?_)
  · refine V.aload_n X dX5_need_25 rfl ?_
    refine V.callVx0 [] X hE hN (c_X5_requireNoRun l D cy ad S F ) mv_X5_requireNoRun gw_2_224 ⟨⟨(Nat.le_of_ble_eq_true rfl), (Nat.le_of_ble_eq_true rfl)⟩, (Nat.le_of_ble_eq_true rfl), (Nat.le_of_ble_eq_true rfl)⟩ (q0 := 0) (ci := 7) rfl rfl rfl (Nat.le_of_ble_eq_true rfl) dX5_need_26 (fun E9 w9 h9 => ⟨2, (by simp [kND, hz2, hp, ep, hz7, hq, eq, hz12, (Nat.not_le.mpr hz12), h9.1]), (by rw [h9.2.1]; rfl), h9.2.2⟩) (fun hz26 => ?_)
    refine V.aload_n X dX5_need_29 rfl ?_
    refine wC_gX5_19 X dX5_need_30 ?_
    refine V.iload_n X dX5_need_33 rfl ?_
    refine V.iload_n X dX5_need_34 rfl ?_
    refine V.callV1 [.int (nI p), .int (nI q)] X (c_X3_doesNeed l D cy ad S F p q (show p < 16 by omega)) mv_X3_doesNeed gw_2_26 ⟨⟨(Nat.le_of_ble_eq_true rfl), (Nat.le_of_ble_eq_true rfl)⟩, (Nat.le_of_ble_eq_true rfl), (Nat.le_of_ble_eq_true rfl)⟩ (q0 := 2) (ci := 5) rfl rfl rfl (Nat.le_of_ble_eq_true rfl) dX5_need_35 ?_
    refine V.if_eq (tgt := 51) X dX5_need_38 (by decide) b2i_0 b2i_n0 (fun (hz38 : bit9 S p q = false) => ?_) (fun (hz38 : bit9 S p q = true) => ?_)
    · refine V.aload_n X dX5_need_51 rfl ?_
      refine wC_gX5_19 X dX5_need_52 ?_
      refine wC_gX5_113 X dX5_need_55 ?_
      refine V.iload_n X dX5_need_58 rfl ?_
      refine V.dup2 X dX5_need_59 rfl rfl ?_
      refine wC_ld15 (i := p) X (by omega) dX5_need_60 ?_
      refine V.iconst (v := nI 1) X dX5_need_61 rfl ?_
      refine V.iload_n X dX5_need_62 rfl ?_
      refine V.ishl (v := (nI 1) <<< ((nI q) &&& 31)) X dX5_need_63 rfl ?_
      refine V.ior (v := (rI S 15 p) ||| ((nI 1) <<< ((nI q) &&& 31))) X dX5_need_64 rfl ?_
      refine wC_st15 (i := p) (v := (rI S 15 p) ||| ((nI 1) <<< ((nI q) &&& 31))) (g := (rI S 15)) X (by omega) rfl dX5_need_65 ?_
      refine V.aload_n X dX5_need_66 rfl ?_
      refine wC_gX5_19 X dX5_need_67 ?_
      refine wC_gX5_113 X dX5_need_70 ?_
      refine V.iload_n X dX5_need_73 rfl ?_
      refine wC_ld15 (i := p) X (by omega) dX5_need_74 ?_
      refine V.top up1_same ?_
      refine V.callS1 [.int ((rI S 15 p) ||| ((nI 1) <<< ((nI q) &&& 31)))] X (c_J6_bitCount_0f7a4 l D cy ad (sI S 15 (up1 (rI S 15) p ((rI S 15 p) ||| ((nI 1) <<< ((nI q) &&& 31))))) F ((rI S 15 p) ||| ((nI 1) <<< ((nI q) &&& 31))) (or_nb (hI.nb p) (by omega))) ms_J6_bitCount_0f7a4 gw_3_12 ⟨⟨(Nat.le_of_ble_eq_true rfl), (Nat.le_of_ble_eq_true rfl)⟩, (Nat.le_of_ble_eq_true rfl), (Nat.le_of_ble_eq_true rfl)⟩ rfl (Nat.le_of_ble_eq_true rfl) dX5_need_75 ?_
      exact V.iret (v := nI (popc ((rI S 15 p) ||| ((nI 1) <<< ((nI q) &&& 31))))) X hE rfl rfl (Nat.le_of_ble_eq_true rfl) (Nat.le_of_ble_eq_true rfl) ⟨(by simp [kND, hz2, hp, ep, hz7, hq, eq, hz12, (Nat.not_le.mpr hz12), hz26, hz38]), (congrArg (fun z => some (Value.int z)) (by simp only [vND, ep, eq])), (by first | (simp only [sND, vND, ep, eq]; done) | (simp only [sND, vND, ep, eq]; rfl) | rfl)⟩ dX5_need_78
    · exact V.thISE X hE hN gS_111 (.inl ⟨rfl, rfl⟩) dX5_need_41 dX5_need_44 dX5_need_45 dX5_need_47 dX5_need_50 (Nat.le_of_ble_eq_true rfl) (Nat.le_of_ble_eq_true rfl) (Nat.le_of_ble_eq_true rfl) (Nat.le_of_ble_eq_true rfl) ⟨2, (by simp [kND, hz2, hp, ep, hz7, hq, eq, hz12, (Nat.not_le.mpr hz12), hz26, hz38]), rfl, rfl⟩
  · exact V.thIAE X hE hN gS_105 (.inl ⟨rfl, rfl⟩) dX5_need_15 dX5_need_18 dX5_need_19 dX5_need_21 dX5_need_24 (Nat.le_of_ble_eq_true rfl) (Nat.le_of_ble_eq_true rfl) (Nat.le_of_ble_eq_true rfl) (Nat.le_of_ble_eq_true rfl) ⟨1, (by simp [kND, hz2, hp, ep, hz7, hq, eq, hz12, (Nat.not_lt.mpr hz12)]), rfl, rfl⟩
