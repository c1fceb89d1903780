/-! ===== the loop of the law ===== -/
section VTS
variable {l : Launch} {D : va_G} {M : VM} {cy : Nat → ClassId} {cc : ByteArray} {own : String} {ret : Option FieldType} {rm : Room} {k n : Nat} {Wd : va_W} {L : List (Nat × Value)} {pc : Nat} {st : List Value}
theorem V.tsIn {dflt lo hi : Int} {offs : Array Int} {len : Nat} {x : Int32} {off : Int} {tgt : Nat} (X : VX l D M cy cc own ret rm) (hdg : decode cc pc = .ok (.tableswitch dflt lo hi offs, len)) (h1 : ¬ x.toInt < lo) (h2 : ¬ hi < x.toInt) (ho : offs[(x.toInt - lo).toNat]? = some off) (ht : (pc : Int) + off = (tgt : Int)) (kk : V l D M k n Wd L tgt st) : V l D M k n Wd L pc (.int x :: st) := by
  obtain ⟨p, e, R, s, m, args, below, meth, c, A, nL, Q⟩ := M
  obtain ⟨hx, hb, hml, ho9, hts, hK, hA, hlk, hAm, htr, hrt, rfl⟩ := X
  intro H locs ls hP hD hS hL
  exact lv_tableIn hx hb hdg h1 h2 ho ht (kk H locs ls hP hD hS hL)
theorem V.tsOut {dflt lo hi : Int} {offs : Array Int} {len : Nat} {x : Int32} {tgt : Nat} (X : VX l D M cy cc own ret rm) (hdg : decode cc pc = .ok (.tableswitch dflt lo hi offs, len)) (h : x.toInt < lo ∨ hi < x.toInt) (ht : (pc : Int) + dflt = (tgt : Int)) (kk : V l D M k n Wd L tgt st) : V l D M k n Wd L pc (.int x :: st) := by
  obtain ⟨p, e, R, s, m, args, below, meth, c, A, nL, Q⟩ := M
  obtain ⟨hx, hb, hml, ho9, hts, hK, hA, hlk, hAm, htr, hrt, rfl⟩ := X
  intro H locs ls hP hD hS hL
  exact lv_tableOut hx hb hdg h ht (kk H locs ls hP hD hS hL)
end VTS
/-- where the call t begins -/
def tgtL : Array Nat := #[264, 320, 411, 533, 601, 695, 763, 831, 875, 919, 987, 1071, 1139, 1195, 1251, 1264, 1277, 1290, 1353, 1428, 1484, 1540, 1603, 1671, 1684, 1740, 1796, 1859, 1915, 1928, 1984, 2040, 2096, 2159, 2172, 2185, 2229, 2292, 2348, 2392, 2405, 2461, 2517, 2573, 2629, 2685, 2741, 2797, 2865, 2879, 2945]
def offL : Array Int := #[219, 275, 366, 488, 556, 650, 718, 786, 830, 874, 942, 1026, 1094, 1150, 1206, 1219, 1232, 1245, 1308, 1383, 1439, 1495, 1558, 1626, 1639, 1695, 1751, 1814, 1870, 1883, 1939, 1995, 2051, 2114, 2127, 2140, 2184, 2247, 2303, 2347, 2360, 2416, 2472, 2528, 2584, 2640, 2696, 2752, 2820, 2834, 2900]
theorem ts45 : decode cL_law 45 = .ok (.tableswitch 2965 0 50 offL, 219) := dL_law_45
theorem tgt_ok : ∀ t : Nat, t < 51 → (((45 : Nat) : Int) + offL.getD t 0 = ((tgtL.getD t 0 : Nat) : Int)) ∧ offL[t]? = some (offL.getD t 0) := by decide +kernel
set_option maxRecDepth 20000 in
set_option maxHeartbeats 4000000 in
theorem lc_any (l : Launch) (D : va_G) (M : VM) (cy : Nat → ClassId) (ad am : Nat → Nat) (o od b Ln : Nat) (xs : Nat → Int32) (i6 c : Nat) (S : St) (K N : Nat) (f : Nat → Int64) (g : Nat → UInt64) (h : LC l D M cy ad am o od b Ln xs i6 c S K N) (t : Nat) (ht : t < 51) : V l D M K N (wC ad cy S ++ cL9 cy o f :: cD9 cy od g :: wM am cy S) (LL b (ad 0) (am 0) o od i6) (tgtL.getD t 0) [] := by
  match t, ht with
  | 0, _ => exact lc_0 l D M cy ad am o od b Ln xs i6 c S K N f g h
  | 1, _ => exact lc_1 l D M cy ad am o od b Ln xs i6 c S K N f g h
  | 2, _ => exact lc_2 l D M cy ad am o od b Ln xs i6 c S K N f g h
  | 3, _ => exact lc_3 l D M cy ad am o od b Ln xs i6 c S K N f g h
  | 4, _ => exact lc_4 l D M cy ad am o od b Ln xs i6 c S K N f g h
  | 5, _ => exact lc_5 l D M cy ad am o od b Ln xs i6 c S K N f g h
  | 6, _ => exact lc_6 l D M cy ad am o od b Ln xs i6 c S K N f g h
  | 7, _ => exact lc_7 l D M cy ad am o od b Ln xs i6 c S K N f g h
  | 8, _ => exact lc_8 l D M cy ad am o od b Ln xs i6 c S K N f g h
  | 9, _ => exact lc_9 l D M cy ad am o od b Ln xs i6 c S K N f g h
  | 10, _ => exact lc_10 l D M cy ad am o od b Ln xs i6 c S K N f g h
  | 11, _ => exact lc_11 l D M cy ad am o od b Ln xs i6 c S K N f g h
  | 12, _ => exact lc_12 l D M cy ad am o od b Ln xs i6 c S K N f g h
  | 13, _ => exact lc_13 l D M cy ad am o od b Ln xs i6 c S K N f g h
  | 14, _ => exact lc_14 l D M cy ad am o od b Ln xs i6 c S K N f g h
  | 15, _ => exact lc_15 l D M cy ad am o od b Ln xs i6 c S K N f g h
  | 16, _ => exact lc_16 l D M cy ad am o od b Ln xs i6 c S K N f g h
  | 17, _ => exact lc_17 l D M cy ad am o od b Ln xs i6 c S K N f g h
  | 18, _ => exact lc_18 l D M cy ad am o od b Ln xs i6 c S K N f g h
  | 19, _ => exact lc_19 l D M cy ad am o od b Ln xs i6 c S K N f g h
  | 20, _ => exact lc_20 l D M cy ad am o od b Ln xs i6 c S K N f g h
  | 21, _ => exact lc_21 l D M cy ad am o od b Ln xs i6 c S K N f g h
  | 22, _ => exact lc_22 l D M cy ad am o od b Ln xs i6 c S K N f g h
  | 23, _ => exact lc_23 l D M cy ad am o od b Ln xs i6 c S K N f g h
  | 24, _ => exact lc_24 l D M cy ad am o od b Ln xs i6 c S K N f g h
  | 25, _ => exact lc_25 l D M cy ad am o od b Ln xs i6 c S K N f g h
  | 26, _ => exact lc_26 l D M cy ad am o od b Ln xs i6 c S K N f g h
  | 27, _ => exact lc_27 l D M cy ad am o od b Ln xs i6 c S K N f g h
  | 28, _ => exact lc_28 l D M cy ad am o od b Ln xs i6 c S K N f g h
  | 29, _ => exact lc_29 l D M cy ad am o od b Ln xs i6 c S K N f g h
  | 30, _ => exact lc_30 l D M cy ad am o od b Ln xs i6 c S K N f g h
  | 31, _ => exact lc_31 l D M cy ad am o od b Ln xs i6 c S K N f g h
  | 32, _ => exact lc_32 l D M cy ad am o od b Ln xs i6 c S K N f g h
  | 33, _ => exact lc_33 l D M cy ad am o od b Ln xs i6 c S K N f g h
  | 34, _ => exact lc_34 l D M cy ad am o od b Ln xs i6 c S K N f g h
  | 35, _ => exact lc_35 l D M cy ad am o od b Ln xs i6 c S K N f g h
  | 36, _ => exact lc_36 l D M cy ad am o od b Ln xs i6 c S K N f g h
  | 37, _ => exact lc_37 l D M cy ad am o od b Ln xs i6 c S K N f g h
  | 38, _ => exact lc_38 l D M cy ad am o od b Ln xs i6 c S K N f g h
  | 39, _ => exact lc_39 l D M cy ad am o od b Ln xs i6 c S K N f g h
  | 40, _ => exact lc_40 l D M cy ad am o od b Ln xs i6 c S K N f g h
  | 41, _ => exact lc_41 l D M cy ad am o od b Ln xs i6 c S K N f g h
  | 42, _ => exact lc_42 l D M cy ad am o od b Ln xs i6 c S K N f g h
  | 43, _ => exact lc_43 l D M cy ad am o od b Ln xs i6 c S K N f g h
  | 44, _ => exact lc_44 l D M cy ad am o od b Ln xs i6 c S K N f g h
  | 45, _ => exact lc_45 l D M cy ad am o od b Ln xs i6 c S K N f g h
  | 46, _ => exact lc_46 l D M cy ad am o od b Ln xs i6 c S K N f g h
  | 47, _ => exact lc_47 l D M cy ad am o od b Ln xs i6 c S K N f g h
  | 48, _ => exact lc_48 l D M cy ad am o od b Ln xs i6 c S K N f g h
  | 49, _ => exact lc_49 l D M cy ad am o od b Ln xs i6 c S K N f g h
  | 50, _ => exact lc_50 l D M cy ad am o od b Ln xs i6 c S K N f g h
  | t + 51, ht => exact absurd ht (by omega)
set_option maxRecDepth 20000 in
set_option maxHeartbeats 4000000 in
theorem law_loop (l : Launch) (D : va_G) (M : VM) (cy : Nat → ClassId) (ad am : Nat → Nat) (o od b Ln : Nat) (xs : Nat → Int32) (X : VX l D M cy cL_law "RunbookerLaw" ret room_1) (hNc : VNc M) (hB9 : VB M 9) (hSc : VScr M b Ln xs) (hLn : Ln ≤ 3072)
    (hend : ∀ (k n : Nat) (Wd : va_W) (L : List (Nat × Value)), k ≤ 601024 → n ≤ 7293034 → V l D M k n Wd L 3016 []) :
    ∀ (d c : Nat) (S : St) (K N : Nat) (f : Nat → Int64) (g : Nat → UInt64), c + d = 512 → OKs S c → K + 64 * d ≤ 601024 → N + 1024 * d ≤ 7293034 → V l D M K N (wC ad cy S ++ cL9 cy o f :: cD9 cy od g :: wM am cy S) (LL b (ad 0) (am 0) o od (6 * c)) 28 [] := by
  intro d
  induction d with
  | zero =>
    intro c S K N f g hc hS hK hN
    refine V.iload X dL_law_28 rfl (V.aload_n X dL_law_30 rfl (V.slen X hSc dL_law_31 (V.bipush (v := nI 6) X dL_law_32 (by decide) (V.isub X dL_law_34 rfl ?_))))
    refine V.icmp_gt (tgt := 3016) X dL_law_35 (by decide) id id (fun _ => hend _ _ _ _ (by omega) (by omega)) (fun h9 => absurd ?_ h9)
    rw [Int32.lt_iff_toInt_lt, pk_sub_toInt (by omega) (by omega), nI_toInt (by omega)]
    omega
  | succ d ih =>
    intro c S K N f g hc hS hK hN
    refine V.iload X dL_law_28 rfl (V.aload_n X dL_law_30 rfl (V.slen X hSc dL_law_31 (V.bipush (v := nI 6) X dL_law_32 (by decide) (V.isub X dL_law_34 rfl ?_))))
    refine V.icmp_gt (tgt := 3016) X dL_law_35 (by decide) id id (fun _ => hend _ _ _ _ (by omega) (by omega)) (fun h9 => ?_)
    have hi : 6 * c + 5 < Ln := by
      rw [Int32.lt_iff_toInt_lt, pk_sub_toInt (by omega) (by omega), nI_toInt (by omega)] at h9
      omega
    have next : ∀ (S9 : St) (f9 : Nat → Int64) (g9 : Nat → UInt64) (k n : Nat), OKs S9 (c + 1) → k ≤ K + 64 → n ≤ N + 1024 → V l D M k n (wC ad cy S9 ++ cL9 cy o f9 :: cD9 cy od g9 :: wM am cy S9) (LL b (ad 0) (am 0) o od (6 * c)) 3010 [] := by
      intro S9 f9 g9 k n hS9 hk hn
      refine V.iinc (L' := LL b (ad 0) (am 0) o od (6 * (c + 1))) (v := nI (6 * (c + 1))) X dL_law_3010 rfl (nI_add (6 * c) 6) hB9 (by decide) rfl ?_
      exact V.goto (tgt := 28) X dL_law_3013 (by decide) (ih (c + 1) S9 k n f9 g9 (by omega) hS9 (by omega) (by omega))
    refine V.aload_n X dL_law_38 rfl (V.iload X dL_law_39 rfl (V.sld X hSc (vp_in_nI (by omega) (by omega)) (by rw [nI_clamp (by omega)]) dL_law_41 ?_))
    obtain ⟨t, ht, he⟩ := pk_andE (xs (6 * c)) (m := 63) 6 (by decide)
    refine V.bipush (v := 63) X dL_law_42 (by decide) (V.iand X dL_law_44 he ?_)
    have hti : (nI t).toInt = (t : Int) := nI_toInt (by omega)
    by_cases h51 : t < 51
    · obtain ⟨g1, g2⟩ := tgt_ok t h51
      refine V.tsIn X ts45 (by rw [hti]; omega) (by rw [hti]; omega) ?_ g1 (lc_any l D M cy ad am o od b Ln xs (6 * c) c S K N f g ⟨X, hNc, hB9, hSc, hi, hLn, hS, by omega, by omega, by omega, next⟩ t h51)
      rw [hti]
      exact (show ((t : Int) - 0).toNat = t from by omega).symm ▸ g2
    · refine V.tsOut (tgt := 3010) X ts45 (Or.inr (by rw [hti]; omega)) (by decide) ?_
      exact next S f g K N hS.up (by omega) (by omega)
