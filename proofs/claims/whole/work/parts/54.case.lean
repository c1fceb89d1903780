/-! ===== second half ===== -/
set_option maxRecDepth 20000 in
set_option maxHeartbeats 4000000 in
theorem lc_26 (l : Launch) (D : va_G) (M : VM) (cy : Nat → ClassId) (ad am : Nat → Nat) (o od b Ln : Nat) (xs : Nat → Int32) (i6 c : Nat) (S : St) (K N : Nat) (f : Nat → Int64) (g : Nat → UInt64) (h : LC l D M cy ad am o od b Ln xs i6 c S K N) : V l D M K N (wC ad cy S ++ cL9 cy o f :: cD9 cy od g :: wM am cy S) (LL b (ad 0) (am 0) o od i6) 1796 [] := by
  obtain ⟨X, hNc, hB9, hSc, hi, hLn, hS, hc, hK, hN, next⟩ := h
  have hI := hS.1
  have hR := hS.rm hc
  refine V.aload_n X dL_law_1796 rfl ?_
  refine V.arg (j := 1) X hSc rfl rfl (by omega) hLn rfl dL_law_1797 dL_law_1798 dL_law_1800 dL_law_1801 dL_law_1802 (pc9 := 1803) rfl ?_
  refine V.aload_n X dL_law_1803 rfl ?_
  refine V.callSW [.ref (ad 0), .int (xs (i6 + 1)), .ref o] X hNc (c_L_isReady l D cy ad S o f (cD9 cy od g :: wM am cy S) (xs (i6 + 1)) hI) gw_4_98 gw_1_0 gw_4_99 (by show _ ≠ _ ∧ _ ≠ _ ∧ _ = some (3 : Nat); decide +kernel) gw_4_97 ⟨⟨(Nat.le_of_ble_eq_true rfl), (Nat.le_of_ble_eq_true rfl)⟩, (by show K + 8 ≤ 601024; omega), (by show N + 48 ≤ 7293034; omega)⟩ rfl (Nat.le_of_ble_eq_true rfl) dL_law_1804 ?_
  rintro v9 u9 ⟨T, rfl, hT0, hTx, rfl⟩
  refine V.istore (L' := [(6, .int (nI (kS1 S (xs (i6 + 1))))), (5, .int (nI i6)), (0, .ref b), (1, .ref (ad 0)), (2, .ref (am 0)), (3, .ref o), (4, .ref od)]) X dL_law_1807 hB9 (by decide) rfl ?_
  have hk4 : kS1 S (xs (i6 + 1)) < 1000000 := by unfold kS1; (repeat' split) <;> decide
  refine V.perm (Wd' := wM am cy S ++ (wC ad cy T ++ [cL9 cy o (if kS1 S (xs (i6 + 1)) = 0 then vp_updL f 0 (b2l (rdy9 S (ix (xs (i6 + 1))))) else f), cD9 cy od g])) pm_AB ?_
  refine V.aload_n X dL_law_1809 rfl ?_
  refine V.arg (j := 1) X hSc rfl rfl (by omega) hLn rfl dL_law_1810 dL_law_1811 dL_law_1813 dL_law_1814 dL_law_1815 (pc9 := 1816) rfl ?_
  refine V.callV (C := "RunbookerModel") [.int (xs (i6 + 1))] X (c_X6_isReady l D cy am S (wC ad cy T ++ [cL9 cy o (if kS1 S (xs (i6 + 1)) = 0 then vp_updL f 0 (b2l (rdy9 S (ix (xs (i6 + 1))))) else f), cD9 cy od g]) (xs (i6 + 1)) hI) mv_X6_isReady gw_7_81 ⟨⟨(Nat.le_of_ble_eq_true rfl), (Nat.le_of_ble_eq_true rfl)⟩, (by show K + 8 + 0 ≤ 601024; omega), (by show N + 48 + 0 ≤ 7293034; omega)⟩ (q0 := 0) (ci := 8) rfl rfl rfl (Nat.le_of_ble_eq_true rfl) dL_law_1816 (fun _ _ h9 => h9.elim) ?_
  rintro v9 u9 ⟨r9, rfl, hr9, rfl⟩
  refine V.istore (L' := [(7, .int (r9)), (6, .int (nI (kS1 S (xs (i6 + 1))))), (5, .int (nI i6)), (0, .ref b), (1, .ref (ad 0)), (2, .ref (am 0)), (3, .ref o), (4, .ref od)]) X dL_law_1819 hB9 (by decide) rfl ?_
  refine tailB (kx := kS1 S (xs (i6 + 1))) (q0 := 60) (r9 := r9) (fo := (if kS1 S (xs (i6 + 1)) = 0 then vp_updL f 0 (b2l (rdy9 S (ix (xs (i6 + 1))))) else f)) X rfl rfl rfl rfl rfl (by omega) rfl (fun h0 => by rw [out0 h0, hr9 h0]; exact b2l_r _) (Nat.le_of_ble_eq_true rfl) (Nat.le_of_ble_eq_true rfl) (by show K + 8 + 0 ≤ 601024; omega) (by show N + 48 + 0 ≤ 7293034; omega) dL_law_1821 dL_law_1822 dL_law_1825 dL_law_1827 dL_law_1832 dL_law_1834 dL_law_1837 dL_law_1838 dL_law_1839 dL_law_1840 dL_law_1842 dL_law_1845 dL_law_1846 dL_law_1849 dL_law_1850 dL_law_1851 dL_law_1856 (by decide) ?_
  refine V.pick [2, 3, 4, 5, 6, 7] rfl ?_
  refine LC.go next (S9 := (sN S 62 (fun _ => (kS1 S (xs (i6 + 1)))))) (by rw [T_eq hT0 hTx]; rfl) rfl (hS.up.n62 hk4) (by show K + 8 + 0 ≤ K + 64; omega) (by show N + 48 + 0 ≤ N + 1024; omega)
set_option maxRecDepth 20000 in
set_option maxHeartbeats 4000000 in
theorem lc_27 (l : Launch) (D : va_G) (M : VM) (cy : Nat → ClassId) (ad am : Nat → Nat) (o od b Ln : Nat) (xs : Nat → Int32) (i6 c : Nat) (S : St) (K N : Nat) (f : Nat → Int64) (g : Nat → UInt64) (h : LC l D M cy ad am o od b Ln xs i6 c S K N) : V l D M K N (wC ad cy S ++ cL9 cy o f :: cD9 cy od g :: wM am cy S) (LL b (ad 0) (am 0) o od i6) 1859 [] := by
  obtain ⟨X, hNc, hB9, hSc, hi, hLn, hS, hc, hK, hN, next⟩ := h
  have hI := hS.1
  have hR := hS.rm hc
  refine V.aload_n X dL_law_1859 rfl ?_
  refine V.arg (j := 1) X hSc rfl rfl (by omega) hLn rfl dL_law_1860 dL_law_1861 dL_law_1863 dL_law_1864 dL_law_1865 (pc9 := 1866) rfl ?_
  refine V.aload_n X dL_law_1866 rfl ?_
  refine V.callSW [.ref (ad 0), .int (xs (i6 + 1)), .ref o] X hNc (c_L_whyNot l D cy ad S o f (cD9 cy od g :: wM am cy S) (xs (i6 + 1)) hI) gw_4_105 gw_1_0 gw_4_106 (by show _ ≠ _ ∧ _ ≠ _ ∧ _ = some (3 : Nat); decide +kernel) gw_4_104 ⟨⟨(Nat.le_of_ble_eq_true rfl), (Nat.le_of_ble_eq_true rfl)⟩, (by show K + 8 ≤ 601024; omega), (by show N + 48 ≤ 7293034; omega)⟩ rfl (Nat.le_of_ble_eq_true rfl) dL_law_1867 ?_
  rintro v9 u9 ⟨T, rfl, hT0, hTx, rfl⟩
  refine V.istore (L' := [(6, .int (nI (kS1 S (xs (i6 + 1))))), (5, .int (nI i6)), (0, .ref b), (1, .ref (ad 0)), (2, .ref (am 0)), (3, .ref o), (4, .ref od)]) X dL_law_1870 hB9 (by decide) rfl ?_
  have hk4 : kS1 S (xs (i6 + 1)) < 1000000 := by unfold kS1; (repeat' split) <;> decide
  refine V.perm (Wd' := wM am cy S ++ (wC ad cy T ++ [cL9 cy o (if kS1 S (xs (i6 + 1)) = 0 then vp_updL f 0 ((c2i (why9 S (ix (xs (i6 + 1))))).toInt64) else f), cD9 cy od g])) pm_AB ?_
  refine V.aload_n X dL_law_1872 rfl ?_
  refine V.arg (j := 1) X hSc rfl rfl (by omega) hLn rfl dL_law_1873 dL_law_1874 dL_law_1876 dL_law_1877 dL_law_1878 (pc9 := 1879) rfl ?_
  refine V.callV (C := "RunbookerModel") [.int (xs (i6 + 1))] X (c_X6_whyNot l D cy am S (wC ad cy T ++ [cL9 cy o (if kS1 S (xs (i6 + 1)) = 0 then vp_updL f 0 ((c2i (why9 S (ix (xs (i6 + 1))))).toInt64) else f), cD9 cy od g]) (xs (i6 + 1)) hI) mv_X6_whyNot gw_7_85 ⟨⟨(Nat.le_of_ble_eq_true rfl), (Nat.le_of_ble_eq_true rfl)⟩, (by show K + 8 + 0 ≤ 601024; omega), (by show N + 48 + 0 ≤ 7293034; omega)⟩ (q0 := 0) (ci := 8) rfl rfl rfl (Nat.le_of_ble_eq_true rfl) dL_law_1879 (fun _ _ h9 => h9.elim) ?_
  rintro v9 u9 ⟨r9, rfl, hr9, rfl⟩
  refine V.istore (L' := [(7, .int (r9)), (6, .int (nI (kS1 S (xs (i6 + 1))))), (5, .int (nI i6)), (0, .ref b), (1, .ref (ad 0)), (2, .ref (am 0)), (3, .ref o), (4, .ref od)]) X dL_law_1882 hB9 (by decide) rfl ?_
  refine tailI (kx := kS1 S (xs (i6 + 1))) (q0 := 60) (r9 := r9) (fo := (if kS1 S (xs (i6 + 1)) = 0 then vp_updL f 0 ((c2i (why9 S (ix (xs (i6 + 1))))).toInt64) else f)) X rfl rfl rfl rfl rfl (by omega) rfl (fun h0 => by rw [out0 h0, hr9 h0] <;> rfl) (Nat.le_of_ble_eq_true rfl) (Nat.le_of_ble_eq_true rfl) (by show K + 8 + 0 ≤ 601024; omega) (by show N + 48 + 0 ≤ 7293034; omega) dL_law_1884 dL_law_1885 dL_law_1888 dL_law_1890 dL_law_1895 dL_law_1897 dL_law_1900 dL_law_1901 dL_law_1902 dL_law_1903 dL_law_1905 dL_law_1906 dL_law_1907 dL_law_1912 (by decide) ?_
  refine V.pick [2, 3, 4, 5, 6, 7] rfl ?_
  refine LC.go next (S9 := (sN S 62 (fun _ => (kS1 S (xs (i6 + 1)))))) (by rw [T_eq hT0 hTx]; rfl) rfl (hS.up.n62 hk4) (by show K + 8 + 0 ≤ K + 64; omega) (by show N + 48 + 0 ≤ N + 1024; omega)
set_option maxRecDepth 20000 in
set_option maxHeartbeats 4000000 in
theorem lc_28 (l : Launch) (D : va_G) (M : VM) (cy : Nat → ClassId) (ad am : Nat → Nat) (o od b Ln : Nat) (xs : Nat → Int32) (i6 c : Nat) (S : St) (K N : Nat) (f : Nat → Int64) (g : Nat → UInt64) (h : LC l D M cy ad am o od b Ln xs i6 c S K N) : V l D M K N (wC ad cy S ++ cL9 cy o f :: cD9 cy od g :: wM am cy S) (LL b (ad 0) (am 0) o od i6) 1915 [] := by
  obtain ⟨X, hNc, hB9, hSc, hi, hLn, hS, hc, hK, hN, next⟩ := h
  have hI := hS.1
  have hR := hS.rm hc
  refine V.aload_n X dL_law_1915 rfl ?_
  refine V.callV (C := "Runbooker") [] X (c_X5_ready l D cy ad S (cL9 cy o f :: cD9 cy od g :: wM am cy S) hI) mv_X5_ready gw_2_10 ⟨⟨(Nat.le_of_ble_eq_true rfl), (Nat.le_of_ble_eq_true rfl)⟩, (by show K + 0 ≤ 601024; omega), (by show N + 0 ≤ 7293034; omega)⟩ (q0 := 0) (ci := 7) rfl rfl rfl (Nat.le_of_ble_eq_true rfl) dL_law_1916 (fun _ _ h9 => h9.elim) ?_
  rintro v9 u9 ⟨rfl, rfl⟩
  refine V.perm (Wd' := wM am cy S ++ (wC ad cy S ++ [cL9 cy o f, cD9 cy od g])) pm_AB ?_
  refine V.aload_n X dL_law_1919 rfl ?_
  refine V.callV (C := "RunbookerModel") [] X (c_X6_ready l D cy am S (wC ad cy S ++ [cL9 cy o f, cD9 cy od g]) hI) mv_X6_ready gw_7_93 ⟨⟨(Nat.le_of_ble_eq_true rfl), (Nat.le_of_ble_eq_true rfl)⟩, (by show K + 0 + 0 ≤ 601024; omega), (by show N + 0 + 0 ≤ 7293034; omega)⟩ (q0 := 0) (ci := 8) rfl rfl rfl (Nat.le_of_ble_eq_true rfl) dL_law_1920 (fun _ _ h9 => h9.elim) ?_
  rintro v9 u9 ⟨r9, rfl, hr9, rfl⟩
  exact V.icmp_eq (tgt := 3010) X dL_law_1923 (by decide) id id (fun _ => LC.go next (S9 := (sN S 62 (fun _ => 0))) rfl rfl (hS.up.n62 (by decide)) (by show K + 0 + 0 ≤ K + 64; omega) (by show N + 0 + 0 ≤ N + 1024; omega)) (fun h9 => absurd (hr9 rfl).symm h9)
set_option maxRecDepth 20000 in
set_option maxHeartbeats 4000000 in
theorem lc_29 (l : Launch) (D : va_G) (M : VM) (cy : Nat → ClassId) (ad am : Nat → Nat) (o od b Ln : Nat) (xs : Nat → Int32) (i6 c : Nat) (S : St) (K N : Nat) (f : Nat → Int64) (g : Nat → UInt64) (h : LC l D M cy ad am o od b Ln xs i6 c S K N) : V l D M K N (wC ad cy S ++ cL9 cy o f :: cD9 cy od g :: wM am cy S) (LL b (ad 0) (am 0) o od i6) 1928 [] := by
  obtain ⟨X, hNc, hB9, hSc, hi, hLn, hS, hc, hK, hN, next⟩ := h
  have hI := hS.1
  have hR := hS.rm hc
  refine V.aload_n X dL_law_1928 rfl ?_
  refine V.arg (j := 1) X hSc rfl rfl (by omega) hLn rfl dL_law_1929 dL_law_1930 dL_law_1932 dL_law_1933 dL_law_1934 (pc9 := 1935) rfl ?_
  refine V.aload_n X dL_law_1935 rfl ?_
  refine V.callSW [.ref (ad 0), .int (xs (i6 + 1)), .ref o] X hNc (c_L_nextStep l D cy ad S o f (cD9 cy od g :: wM am cy S) (xs (i6 + 1)) hI) gw_4_116 gw_1_0 gw_4_117 (by show _ ≠ _ ∧ _ ≠ _ ∧ _ = some (3 : Nat); decide +kernel) gw_4_115 ⟨⟨(Nat.le_of_ble_eq_true rfl), (Nat.le_of_ble_eq_true rfl)⟩, (by show K + 8 ≤ 601024; omega), (by show N + 48 ≤ 7293034; omega)⟩ rfl (Nat.le_of_ble_eq_true rfl) dL_law_1936 ?_
  rintro v9 u9 ⟨T, rfl, hT0, hTx, rfl⟩
  refine V.istore (L' := [(6, .int (nI (kNX S (xs (i6 + 1))))), (5, .int (nI i6)), (0, .ref b), (1, .ref (ad 0)), (2, .ref (am 0)), (3, .ref o), (4, .ref od)]) X dL_law_1939 hB9 (by decide) rfl ?_
  have hk4 : kNX S (xs (i6 + 1)) < 1000000 := by unfold kNX; (repeat' split) <;> decide
  refine V.perm (Wd' := wM am cy S ++ (wC ad cy T ++ [cL9 cy o (if kNX S (xs (i6 + 1)) = 0 then vp_updL f 0 ((o2i (best9 S (ix (xs (i6 + 1))) (rN S 44 0))).toInt64) else f), cD9 cy od g])) pm_AB ?_
  refine V.aload_n X dL_law_1941 rfl ?_
  refine V.arg (j := 1) X hSc rfl rfl (by omega) hLn rfl dL_law_1942 dL_law_1943 dL_law_1945 dL_law_1946 dL_law_1947 (pc9 := 1948) rfl ?_
  refine V.callV (C := "RunbookerModel") [.int (xs (i6 + 1))] X (c_X6_nextStep l D cy am S (wC ad cy T ++ [cL9 cy o (if kNX S (xs (i6 + 1)) = 0 then vp_updL f 0 ((o2i (best9 S (ix (xs (i6 + 1))) (rN S 44 0))).toInt64) else f), cD9 cy od g]) (xs (i6 + 1)) hI) mv_X6_nextStep gw_7_97 ⟨⟨(Nat.le_of_ble_eq_true rfl), (Nat.le_of_ble_eq_true rfl)⟩, (by show K + 8 + 0 ≤ 601024; omega), (by show N + 48 + 0 ≤ 7293034; omega)⟩ (q0 := 0) (ci := 8) rfl rfl rfl (Nat.le_of_ble_eq_true rfl) dL_law_1948 (fun _ _ h9 => h9.elim) ?_
  rintro v9 u9 ⟨r9, rfl, hr9, rfl⟩
  refine V.istore (L' := [(7, .int (r9)), (6, .int (nI (kNX S (xs (i6 + 1))))), (5, .int (nI i6)), (0, .ref b), (1, .ref (ad 0)), (2, .ref (am 0)), (3, .ref o), (4, .ref od)]) X dL_law_1951 hB9 (by decide) rfl ?_
  refine tailI (kx := kNX S (xs (i6 + 1))) (q0 := 60) (r9 := r9) (fo := (if kNX S (xs (i6 + 1)) = 0 then vp_updL f 0 ((o2i (best9 S (ix (xs (i6 + 1))) (rN S 44 0))).toInt64) else f)) X rfl rfl rfl rfl rfl (by omega) rfl (fun h0 => by rw [out0 h0, hr9 h0] <;> rfl) (Nat.le_of_ble_eq_true rfl) (Nat.le_of_ble_eq_true rfl) (by show K + 8 + 0 ≤ 601024; omega) (by show N + 48 + 0 ≤ 7293034; omega) dL_law_1953 dL_law_1954 dL_law_1957 dL_law_1959 dL_law_1964 dL_law_1966 dL_law_1969 dL_law_1970 dL_law_1971 dL_law_1972 dL_law_1974 dL_law_1975 dL_law_1976 dL_law_1981 (by decide) ?_
  refine V.pick [2, 3, 4, 5, 6, 7] rfl ?_
  obtain ⟨g9, hg9, rfl⟩ := T_scr hT0 hTx
  refine LC.go next (S9 := sN (sN (bif Nat.beq (kNX S (xs (i6 + 1))) 1 then S else sN S 63 (low9 (rst S) (rN S 63) (rN S 44 0))) 62 (fun _ => (kNX S (xs (i6 + 1))))) 21 g9) (by cases Nat.beq (kNX S (xs (i6 + 1))) 1 <;> rfl) rfl (by cases Nat.beq (kNX S (xs (i6 + 1))) 1; exact ((hS.up.n63 (rst_lt hI)).n62 hk4).n21 hg9; exact (hS.up.n62 hk4).n21 hg9) (by show K + 8 + 0 ≤ K + 64; omega) (by show N + 48 + 0 ≤ N + 1024; omega)
set_option maxRecDepth 20000 in
set_option maxHeartbeats 4000000 in
theorem lc_30 (l : Launch) (D : va_G) (M : VM) (cy : Nat → ClassId) (ad am : Nat → Nat) (o od b Ln : Nat) (xs : Nat → Int32) (i6 c : Nat) (S : St) (K N : Nat) (f : Nat → Int64) (g : Nat → UInt64) (h : LC l D M cy ad am o od b Ln xs i6 c S K N) : V l D M K N (wC ad cy S ++ cL9 cy o f :: cD9 cy od g :: wM am cy S) (LL b (ad 0) (am 0) o od i6) 1984 [] := by
  obtain ⟨X, hNc, hB9, hSc, hi, hLn, hS, hc, hK, hN, next⟩ := h
  have hI := hS.1
  have hR := hS.rm hc
  refine V.aload_n X dL_law_1984 rfl ?_
  refine V.arg (j := 1) X hSc rfl rfl (by omega) hLn rfl dL_law_1985 dL_law_1986 dL_law_1988 dL_law_1989 dL_law_1990 (pc9 := 1991) rfl ?_
  refine V.aload_n X dL_law_1991 rfl ?_
  refine V.callSW [.ref (ad 0), .int (xs (i6 + 1)), .ref o] X hNc (c_L_restOf l D cy ad S o f (cD9 cy od g :: wM am cy S) (xs (i6 + 1)) hI) gw_4_136 gw_1_0 gw_4_137 (by show _ ≠ _ ∧ _ ≠ _ ∧ _ = some (3 : Nat); decide +kernel) gw_4_135 ⟨⟨(Nat.le_of_ble_eq_true rfl), (Nat.le_of_ble_eq_true rfl)⟩, (by show K + 4 ≤ 601024; omega), (by show N + 24 ≤ 7293034; omega)⟩ rfl (Nat.le_of_ble_eq_true rfl) dL_law_1992 ?_
  rintro v9 u9 ⟨T, rfl, hT0, hTx, rfl⟩
  refine V.istore (L' := [(6, .int (nI (kS1 S (xs (i6 + 1))))), (5, .int (nI i6)), (0, .ref b), (1, .ref (ad 0)), (2, .ref (am 0)), (3, .ref o), (4, .ref od)]) X dL_law_1995 hB9 (by decide) rfl ?_
  have hk4 : kS1 S (xs (i6 + 1)) < 1000000 := by unfold kS1; (repeat' split) <;> decide
  refine V.perm (Wd' := wM am cy S ++ (wC ad cy T ++ [cL9 cy o (if kS1 S (xs (i6 + 1)) = 0 then vp_updL f 0 ((nI (rst S (ix (xs (i6 + 1))))).toInt64) else f), cD9 cy od g])) pm_AB ?_
  refine V.aload_n X dL_law_1997 rfl ?_
  refine V.arg (j := 1) X hSc rfl rfl (by omega) hLn rfl dL_law_1998 dL_law_1999 dL_law_2001 dL_law_2002 dL_law_2003 (pc9 := 2004) rfl ?_
  refine V.callV (C := "RunbookerModel") [.int (xs (i6 + 1))] X (c_X6_restOf l D cy am S (wC ad cy T ++ [cL9 cy o (if kS1 S (xs (i6 + 1)) = 0 then vp_updL f 0 ((nI (rst S (ix (xs (i6 + 1))))).toInt64) else f), cD9 cy od g]) (xs (i6 + 1)) hI) mv_X6_restOf gw_7_106 ⟨⟨(Nat.le_of_ble_eq_true rfl), (Nat.le_of_ble_eq_true rfl)⟩, (by show K + 4 + 0 ≤ 601024; omega), (by show N + 24 + 0 ≤ 7293034; omega)⟩ (q0 := 0) (ci := 8) rfl rfl rfl (Nat.le_of_ble_eq_true rfl) dL_law_2004 (fun _ _ h9 => h9.elim) ?_
  rintro v9 u9 ⟨rfl, rfl⟩
  refine V.istore (L' := [(7, .int (nI (roM S (xs (i6 + 1))))), (6, .int (nI (kS1 S (xs (i6 + 1))))), (5, .int (nI i6)), (0, .ref b), (1, .ref (ad 0)), (2, .ref (am 0)), (3, .ref o), (4, .ref od)]) X dL_law_2007 hB9 (by decide) rfl ?_
  refine tailI (kx := kS1 S (xs (i6 + 1))) (q0 := 60) (r9 := nI (roM S (xs (i6 + 1)))) (fo := (if kS1 S (xs (i6 + 1)) = 0 then vp_updL f 0 ((nI (rst S (ix (xs (i6 + 1))))).toInt64) else f)) X rfl rfl rfl rfl rfl (by omega) rfl (fun h0 => by rw [out0 h0, ans_ro h0]) (Nat.le_of_ble_eq_true rfl) (Nat.le_of_ble_eq_true rfl) (by show K + 4 + 0 ≤ 601024; omega) (by show N + 24 + 0 ≤ 7293034; omega) dL_law_2009 dL_law_2010 dL_law_2013 dL_law_2015 dL_law_2020 dL_law_2022 dL_law_2025 dL_law_2026 dL_law_2027 dL_law_2028 dL_law_2030 dL_law_2031 dL_law_2032 dL_law_2037 (by decide) ?_
  refine V.pick [2, 3, 4, 5, 6, 7] rfl ?_
  obtain ⟨g9, hg9, rfl⟩ := T_scr hT0 hTx
  refine LC.go next (S9 := sN (sN (sN S 62 (fun _ => kS1 S (xs (i6 + 1)))) 63 (low9 (rst S) (rN S 63) (rN S 44 0))) 21 g9) rfl rfl (((hS.up.n62 hk4).n63 (rst_lt hI)).n21 hg9) (by show K + 4 + 0 ≤ K + 64; omega) (by show N + 24 + 0 ≤ N + 1024; omega)
set_option maxRecDepth 20000 in
set_option maxHeartbeats 4000000 in
theorem lc_31 (l : Launch) (D : va_G) (M : VM) (cy : Nat → ClassId) (ad am : Nat → Nat) (o od b Ln : Nat) (xs : Nat → Int32) (i6 c : Nat) (S : St) (K N : Nat) (f : Nat → Int64) (g : Nat → UInt64) (h : LC l D M cy ad am o od b Ln xs i6 c S K N) : V l D M K N (wC ad cy S ++ cL9 cy o f :: cD9 cy od g :: wM am cy S) (LL b (ad 0) (am 0) o od i6) 2040 [] := by
  obtain ⟨X, hNc, hB9, hSc, hi, hLn, hS, hc, hK, hN, next⟩ := h
  have hI := hS.1
  have hR := hS.rm hc
  refine V.aload_n X dL_law_2040 rfl ?_
  refine V.arg (j := 1) X hSc rfl rfl (by omega) hLn rfl dL_law_2041 dL_law_2042 dL_law_2044 dL_law_2045 dL_law_2046 (pc9 := 2047) rfl ?_
  refine V.aload_n X dL_law_2047 rfl ?_
  refine V.callSW [.ref (ad 0), .int (xs (i6 + 1)), .ref o] X hNc (c_L_restBySweep l D cy ad S o f (cD9 cy od g :: wM am cy S) (xs (i6 + 1)) hI) gw_4_151 gw_1_0 gw_4_152 (by show _ ≠ _ ∧ _ ≠ _ ∧ _ = some (3 : Nat); decide +kernel) gw_4_150 ⟨⟨(Nat.le_of_ble_eq_true rfl), (Nat.le_of_ble_eq_true rfl)⟩, (by show K + 8 ≤ 601024; omega), (by show N + 48 ≤ 7293034; omega)⟩ rfl (Nat.le_of_ble_eq_true rfl) dL_law_2048 ?_
  rintro v9 u9 ⟨T, rfl, hT0, hTx, rfl⟩
  refine V.istore (L' := [(6, .int (nI (kS1 S (xs (i6 + 1))))), (5, .int (nI i6)), (0, .ref b), (1, .ref (ad 0)), (2, .ref (am 0)), (3, .ref o), (4, .ref od)]) X dL_law_2051 hB9 (by decide) rfl ?_
  have hk4 : kS1 S (xs (i6 + 1)) < 1000000 := by unfold kS1; (repeat' split) <;> decide
  refine V.perm (Wd' := wM am cy S ++ (wC ad cy T ++ [cL9 cy o (if kS1 S (xs (i6 + 1)) = 0 then vp_updL f 0 ((nI (rst S (ix (xs (i6 + 1))))).toInt64) else f), cD9 cy od g])) pm_AB ?_
  refine V.aload_n X dL_law_2053 rfl ?_
  refine V.arg (j := 1) X hSc rfl rfl (by omega) hLn rfl dL_law_2054 dL_law_2055 dL_law_2057 dL_law_2058 dL_law_2059 (pc9 := 2060) rfl ?_
  refine V.callV (C := "RunbookerModel") [.int (xs (i6 + 1))] X (c_X6_restBySweep l D cy am S (wC ad cy T ++ [cL9 cy o (if kS1 S (xs (i6 + 1)) = 0 then vp_updL f 0 ((nI (rst S (ix (xs (i6 + 1))))).toInt64) else f), cD9 cy od g]) (xs (i6 + 1)) hI) mv_X6_restBySweep gw_7_110 ⟨⟨(Nat.le_of_ble_eq_true rfl), (Nat.le_of_ble_eq_true rfl)⟩, (by show K + 8 + 0 ≤ 601024; omega), (by show N + 48 + 0 ≤ 7293034; omega)⟩ (q0 := 0) (ci := 8) rfl rfl rfl (Nat.le_of_ble_eq_true rfl) dL_law_2060 (fun _ _ h9 => h9.elim) ?_
  rintro v9 u9 ⟨rfl, rfl⟩
  refine V.istore (L' := [(7, .int (nI (roM S (xs (i6 + 1))))), (6, .int (nI (kS1 S (xs (i6 + 1))))), (5, .int (nI i6)), (0, .ref b), (1, .ref (ad 0)), (2, .ref (am 0)), (3, .ref o), (4, .ref od)]) X dL_law_2063 hB9 (by decide) rfl ?_
  refine tailI (kx := kS1 S (xs (i6 + 1))) (q0 := 60) (r9 := nI (roM S (xs (i6 + 1)))) (fo := (if kS1 S (xs (i6 + 1)) = 0 then vp_updL f 0 ((nI (rst S (ix (xs (i6 + 1))))).toInt64) else f)) X rfl rfl rfl rfl rfl (by omega) rfl (fun h0 => by rw [out0 h0, ans_ro h0]) (Nat.le_of_ble_eq_true rfl) (Nat.le_of_ble_eq_true rfl) (by show K + 8 + 0 ≤ 601024; omega) (by show N + 48 + 0 ≤ 7293034; omega) dL_law_2065 dL_law_2066 dL_law_2069 dL_law_2071 dL_law_2076 dL_law_2078 dL_law_2081 dL_law_2082 dL_law_2083 dL_law_2084 dL_law_2086 dL_law_2087 dL_law_2088 dL_law_2093 (by decide) ?_
  refine V.pick [2, 3, 4, 5, 6, 7] rfl ?_
  obtain ⟨g9, hg9, rfl⟩ := T_scr hT0 hTx
  refine LC.go next (S9 := sN (sN (sN S 62 (fun _ => kS1 S (xs (i6 + 1)))) 63 (low9 (rst S) (rN S 63) (rN S 44 0))) 21 g9) rfl rfl (((hS.up.n62 hk4).n63 (rst_lt hI)).n21 hg9) (by show K + 8 + 0 ≤ K + 64; omega) (by show N + 48 + 0 ≤ N + 1024; omega)
set_option maxRecDepth 20000 in
set_option maxHeartbeats 4000000 in
theorem lc_32 (l : Launch) (D : va_G) (M : VM) (cy : Nat → ClassId) (ad am : Nat → Nat) (o od b Ln : Nat) (xs : Nat → Int32) (i6 c : Nat) (S : St) (K N : Nat) (f : Nat → Int64) (g : Nat → UInt64) (h : LC l D M cy ad am o od b Ln xs i6 c S K N) : V l D M K N (wC ad cy S ++ cL9 cy o f :: cD9 cy od g :: wM am cy S) (LL b (ad 0) (am 0) o od i6) 2096 [] := by
  obtain ⟨X, hNc, hB9, hSc, hi, hLn, hS, hc, hK, hN, next⟩ := h
  have hI := hS.1
  have hR := hS.rm hc
  refine V.aload_n X dL_law_2096 rfl ?_
  refine V.arg (j := 1) X hSc rfl rfl (by omega) hLn rfl dL_law_2097 dL_law_2098 dL_law_2100 dL_law_2101 dL_law_2102 (pc9 := 2103) rfl ?_
  refine V.aload_n X dL_law_2103 rfl ?_
  refine V.callSW [.ref (ad 0), .int (xs (i6 + 1)), .ref o] X hNc (c_L_isSettled l D cy ad S o f (cD9 cy od g :: wM am cy S) (xs (i6 + 1)) hI) gw_4_158 gw_1_0 gw_4_159 (by show _ ≠ _ ∧ _ ≠ _ ∧ _ = some (3 : Nat); decide +kernel) gw_4_157 ⟨⟨(Nat.le_of_ble_eq_true rfl), (Nat.le_of_ble_eq_true rfl)⟩, (by show K + 8 ≤ 601024; omega), (by show N + 48 ≤ 7293034; omega)⟩ rfl (Nat.le_of_ble_eq_true rfl) dL_law_2104 ?_
  rintro v9 u9 ⟨T, rfl, hT0, hTx, rfl⟩
  refine V.istore (L' := [(6, .int (nI (kS1 S (xs (i6 + 1))))), (5, .int (nI i6)), (0, .ref b), (1, .ref (ad 0)), (2, .ref (am 0)), (3, .ref o), (4, .ref od)]) X dL_law_2107 hB9 (by decide) rfl ?_
  have hk4 : kS1 S (xs (i6 + 1)) < 1000000 := by unfold kS1; (repeat' split) <;> decide
  refine V.perm (Wd' := wM am cy S ++ (wC ad cy T ++ [cL9 cy o (if kS1 S (xs (i6 + 1)) = 0 then vp_updL f 0 (b2l (rB S 41 0 && set9 S (ix (xs (i6 + 1))))) else f), cD9 cy od g])) pm_AB ?_
  refine V.aload_n X dL_law_2109 rfl ?_
  refine V.arg (j := 1) X hSc rfl rfl (by omega) hLn rfl dL_law_2110 dL_law_2111 dL_law_2113 dL_law_2114 dL_law_2115 (pc9 := 2116) rfl ?_
  refine V.callV (C := "RunbookerModel") [.int (xs (i6 + 1))] X (c_X6_isSettled l D cy am S (wC ad cy T ++ [cL9 cy o (if kS1 S (xs (i6 + 1)) = 0 then vp_updL f 0 (b2l (rB S 41 0 && set9 S (ix (xs (i6 + 1))))) else f), cD9 cy od g]) (xs (i6 + 1)) hI) mv_X6_isSettled gw_7_115 ⟨⟨(Nat.le_of_ble_eq_true rfl), (Nat.le_of_ble_eq_true rfl)⟩, (by show K + 8 + 0 ≤ 601024; omega), (by show N + 48 + 0 ≤ 7293034; omega)⟩ (q0 := 0) (ci := 8) rfl rfl rfl (Nat.le_of_ble_eq_true rfl) dL_law_2116 (fun _ _ h9 => h9.elim) ?_
  rintro v9 u9 ⟨r9, rfl, hr9, rfl⟩
  refine V.istore (L' := [(7, .int (r9)), (6, .int (nI (kS1 S (xs (i6 + 1))))), (5, .int (nI i6)), (0, .ref b), (1, .ref (ad 0)), (2, .ref (am 0)), (3, .ref o), (4, .ref od)]) X dL_law_2119 hB9 (by decide) rfl ?_
  refine tailB (kx := kS1 S (xs (i6 + 1))) (q0 := 60) (r9 := r9) (fo := (if kS1 S (xs (i6 + 1)) = 0 then vp_updL f 0 (b2l (rB S 41 0 && set9 S (ix (xs (i6 + 1))))) else f)) X rfl rfl rfl rfl rfl (by omega) rfl (fun h0 => by rw [out0 h0, hr9 h0]; exact b2l_r _) (Nat.le_of_ble_eq_true rfl) (Nat.le_of_ble_eq_true rfl) (by show K + 8 + 0 ≤ 601024; omega) (by show N + 48 + 0 ≤ 7293034; omega) dL_law_2121 dL_law_2122 dL_law_2125 dL_law_2127 dL_law_2132 dL_law_2134 dL_law_2137 dL_law_2138 dL_law_2139 dL_law_2140 dL_law_2142 dL_law_2145 dL_law_2146 dL_law_2149 dL_law_2150 dL_law_2151 dL_law_2156 (by decide) ?_
  refine V.pick [2, 3, 4, 5, 6, 7] rfl ?_
  refine LC.go next (S9 := (sN S 62 (fun _ => (kS1 S (xs (i6 + 1)))))) (by rw [T_eq hT0 hTx]; rfl) rfl (hS.up.n62 hk4) (by show K + 8 + 0 ≤ K + 64; omega) (by show N + 48 + 0 ≤ N + 1024; omega)
set_option maxRecDepth 20000 in
set_option maxHeartbeats 4000000 in
theorem lc_33 (l : Launch) (D : va_G) (M : VM) (cy : Nat → ClassId) (ad am : Nat → Nat) (o od b Ln : Nat) (xs : Nat → Int32) (i6 c : Nat) (S : St) (K N : Nat) (f : Nat → Int64) (g : Nat → UInt64) (h : LC l D M cy ad am o od b Ln xs i6 c S K N) : V l D M K N (wC ad cy S ++ cL9 cy o f :: cD9 cy od g :: wM am cy S) (LL b (ad 0) (am 0) o od i6) 2159 [] := by
  obtain ⟨X, hNc, hB9, hSc, hi, hLn, hS, hc, hK, hN, next⟩ := h
  have hI := hS.1
  have hR := hS.rm hc
  refine V.aload_n X dL_law_2159 rfl ?_
  refine V.callV (C := "Runbooker") [] X (c_X5_isOver l D cy ad S (cL9 cy o f :: cD9 cy od g :: wM am cy S) hI) mv_X5_isOver gw_2_48 ⟨⟨(Nat.le_of_ble_eq_true rfl), (Nat.le_of_ble_eq_true rfl)⟩, (by show K + 0 ≤ 601024; omega), (by show N + 0 ≤ 7293034; omega)⟩ (q0 := 0) (ci := 7) rfl rfl rfl (Nat.le_of_ble_eq_true rfl) dL_law_2160 (fun _ _ h9 => h9.elim) ?_
  rintro v9 u9 ⟨rfl, rfl⟩
  refine V.perm (Wd' := wM am cy S ++ (wC ad cy S ++ [cL9 cy o f, cD9 cy od g])) pm_AB ?_
  refine V.aload_n X dL_law_2163 rfl ?_
  refine V.callV (C := "RunbookerModel") [] X (c_X6_isOver l D cy am S (wC ad cy S ++ [cL9 cy o f, cD9 cy od g]) hI) mv_X6_isOver gw_7_119 ⟨⟨(Nat.le_of_ble_eq_true rfl), (Nat.le_of_ble_eq_true rfl)⟩, (by show K + 0 + 0 ≤ 601024; omega), (by show N + 0 + 0 ≤ 7293034; omega)⟩ (q0 := 0) (ci := 8) rfl rfl rfl (Nat.le_of_ble_eq_true rfl) dL_law_2164 (fun _ _ h9 => h9.elim) ?_
  rintro v9 u9 ⟨r9, rfl, hr9, rfl⟩
  exact V.icmp_eq (tgt := 3010) X dL_law_2167 (by decide) id id (fun _ => LC.go next (S9 := (sN S 62 (fun _ => 0))) rfl rfl (hS.up.n62 (by decide)) (by show K + 0 + 0 ≤ K + 64; omega) (by show N + 0 + 0 ≤ N + 1024; omega)) (fun h9 => absurd (hr9 rfl).symm h9)
set_option maxRecDepth 20000 in
set_option maxHeartbeats 4000000 in
theorem lc_34 (l : Launch) (D : va_G) (M : VM) (cy : Nat → ClassId) (ad am : Nat → Nat) (o od b Ln : Nat) (xs : Nat → Int32) (i6 c : Nat) (S : St) (K N : Nat) (f : Nat → Int64) (g : Nat → UInt64) (h : LC l D M cy ad am o od b Ln xs i6 c S K N) : V l D M K N (wC ad cy S ++ cL9 cy o f :: cD9 cy od g :: wM am cy S) (LL b (ad 0) (am 0) o od i6) 2172 [] := by
  obtain ⟨X, hNc, hB9, hSc, hi, hLn, hS, hc, hK, hN, next⟩ := h
  have hI := hS.1
  have hR := hS.rm hc
  refine V.aload_n X dL_law_2172 rfl ?_
  refine V.callV (C := "Runbooker") [] X (c_X5_isStuck l D cy ad S (cL9 cy o f :: cD9 cy od g :: wM am cy S) hI) mv_X5_isStuck gw_2_56 ⟨⟨(Nat.le_of_ble_eq_true rfl), (Nat.le_of_ble_eq_true rfl)⟩, (by show K + 0 ≤ 601024; omega), (by show N + 0 ≤ 7293034; omega)⟩ (q0 := 0) (ci := 7) rfl rfl rfl (Nat.le_of_ble_eq_true rfl) dL_law_2173 (fun _ _ h9 => h9.elim) ?_
  rintro v9 u9 ⟨rfl, rfl⟩
  refine V.perm (Wd' := wM am cy S ++ (wC ad cy S ++ [cL9 cy o f, cD9 cy od g])) pm_AB ?_
  refine V.aload_n X dL_law_2176 rfl ?_
  refine V.callV (C := "RunbookerModel") [] X (c_X6_isStuck l D cy am S (wC ad cy S ++ [cL9 cy o f, cD9 cy od g]) hI) mv_X6_isStuck gw_7_127 ⟨⟨(Nat.le_of_ble_eq_true rfl), (Nat.le_of_ble_eq_true rfl)⟩, (by show K + 0 + 0 ≤ 601024; omega), (by show N + 0 + 0 ≤ 7293034; omega)⟩ (q0 := 0) (ci := 8) rfl rfl rfl (Nat.le_of_ble_eq_true rfl) dL_law_2177 (fun _ _ h9 => h9.elim) ?_
  rintro v9 u9 ⟨r9, rfl, hr9, rfl⟩
  exact V.icmp_eq (tgt := 3010) X dL_law_2180 (by decide) id id (fun _ => LC.go next (S9 := (sN S 62 (fun _ => 0))) rfl rfl (hS.up.n62 (by decide)) (by show K + 0 + 0 ≤ K + 64; omega) (by show N + 0 + 0 ≤ N + 1024; omega)) (fun h9 => absurd (hr9 rfl).symm h9)
set_option maxRecDepth 20000 in
set_option maxHeartbeats 4000000 in
theorem lc_35 (l : Launch) (D : va_G) (M : VM) (cy : Nat → ClassId) (ad am : Nat → Nat) (o od b Ln : Nat) (xs : Nat → Int32) (i6 c : Nat) (S : St) (K N : Nat) (f : Nat → Int64) (g : Nat → UInt64) (h : LC l D M cy ad am o od b Ln xs i6 c S K N) : V l D M K N (wC ad cy S ++ cL9 cy o f :: cD9 cy od g :: wM am cy S) (LL b (ad 0) (am 0) o od i6) 2185 [] := by
  obtain ⟨X, hNc, hB9, hSc, hi, hLn, hS, hc, hK, hN, next⟩ := h
  have hI := hS.1
  have hR := hS.rm hc
  refine V.aload_n X dL_law_2185 rfl ?_
  refine V.aload_n X dL_law_2186 rfl ?_
  refine V.callSW [.ref (ad 0), .ref o] X hNc (c_L_handoverEnd l D cy ad S o f (cD9 cy od g :: wM am cy S) hI) gw_4_165 gw_1_0 gw_4_166 (by show _ ≠ _ ∧ _ ≠ _ ∧ _ = some (2 : Nat); decide +kernel) gw_4_164 ⟨⟨(Nat.le_of_ble_eq_true rfl), (Nat.le_of_ble_eq_true rfl)⟩, (by show K + 8 ≤ 601024; omega), (by show N + 48 ≤ 7293034; omega)⟩ rfl (Nat.le_of_ble_eq_true rfl) dL_law_2187 ?_
  rintro v9 u9 ⟨T, rfl, hT0, hTx, rfl⟩
  refine V.istore (L' := [(6, .int (nI (kHE S))), (5, .int (nI i6)), (0, .ref b), (1, .ref (ad 0)), (2, .ref (am 0)), (3, .ref o), (4, .ref od)]) X dL_law_2190 hB9 (by decide) rfl ?_
  have hk4 : kHE S < 1000000 := by unfold kHE; (repeat' split) <;> decide
  refine V.perm (Wd' := wM am cy S ++ (wC ad cy T ++ [cL9 cy o (if kHE S = 0 then vp_updL f 0 ((nI (rN S 49 0)).toInt64) else f), cD9 cy od g])) pm_AB ?_
  refine V.aload_n X dL_law_2192 rfl ?_
  refine V.callV (C := "RunbookerModel") [] X (c_X6_handoverEnd l D cy am S (wC ad cy T ++ [cL9 cy o (if kHE S = 0 then vp_updL f 0 ((nI (rN S 49 0)).toInt64) else f), cD9 cy od g]) hI) mv_X6_handoverEnd gw_7_131 ⟨⟨(Nat.le_of_ble_eq_true rfl), (Nat.le_of_ble_eq_true rfl)⟩, (by show K + 8 + 0 ≤ 601024; omega), (by show N + 48 + 0 ≤ 7293034; omega)⟩ (q0 := 0) (ci := 8) rfl rfl rfl (Nat.le_of_ble_eq_true rfl) dL_law_2193 (fun _ _ h9 => h9.elim) ?_
  rintro v9 u9 ⟨r9, rfl, hr9, rfl⟩
  refine V.istore (L' := [(7, .int (r9)), (6, .int (nI (kHE S))), (5, .int (nI i6)), (0, .ref b), (1, .ref (ad 0)), (2, .ref (am 0)), (3, .ref o), (4, .ref od)]) X dL_law_2196 hB9 (by decide) rfl ?_
  refine tailI (kx := kHE S) (q0 := 60) (r9 := r9) (fo := (if kHE S = 0 then vp_updL f 0 ((nI (rN S 49 0)).toInt64) else f)) X rfl rfl rfl rfl rfl (by omega) rfl (fun h0 => by rw [out0 h0, hr9 h0] <;> rfl) (Nat.le_of_ble_eq_true rfl) (Nat.le_of_ble_eq_true rfl) (by show K + 8 + 0 ≤ 601024; omega) (by show N + 48 + 0 ≤ 7293034; omega) dL_law_2198 dL_law_2199 dL_law_2202 dL_law_2204 dL_law_2209 dL_law_2211 dL_law_2214 dL_law_2215 dL_law_2216 dL_law_2217 dL_law_2219 dL_law_2220 dL_law_2221 dL_law_2226 (by decide) ?_
  refine V.pick [2, 3, 4, 5, 6, 7] rfl ?_
  refine LC.go next (S9 := (sN S 62 (fun _ => (kHE S)))) (by rw [T_eq hT0 hTx]; rfl) rfl (hS.up.n62 hk4) (by show K + 8 + 0 ≤ K + 64; omega) (by show N + 48 + 0 ≤ N + 1024; omega)
set_option maxRecDepth 20000 in
set_option maxHeartbeats 4000000 in
theorem lc_36 (l : Launch) (D : va_G) (M : VM) (cy : Nat → ClassId) (ad am : Nat → Nat) (o od b Ln : Nat) (xs : Nat → Int32) (i6 c : Nat) (S : St) (K N : Nat) (f : Nat → Int64) (g : Nat → UInt64) (h : LC l D M cy ad am o od b Ln xs i6 c S K N) : V l D M K N (wC ad cy S ++ cL9 cy o f :: cD9 cy od g :: wM am cy S) (LL b (ad 0) (am 0) o od i6) 2229 [] := by
  obtain ⟨X, hNc, hB9, hSc, hi, hLn, hS, hc, hK, hN, next⟩ := h
  have hI := hS.1
  have hR := hS.rm hc
  refine V.aload_n X dL_law_2229 rfl ?_
  refine V.arg (j := 1) X hSc rfl rfl (by omega) hLn rfl dL_law_2230 dL_law_2231 dL_law_2233 dL_law_2234 dL_law_2235 (pc9 := 2236) rfl ?_
  refine V.aload_n X dL_law_2236 rfl ?_
  refine V.callSW [.ref (ad 0), .int (xs (i6 + 1)), .ref o] X hNc (c_L_isPaused l D cy ad S o f (cD9 cy od g :: wM am cy S) (xs (i6 + 1)) hI) gw_4_173 gw_1_0 gw_4_174 (by show _ ≠ _ ∧ _ ≠ _ ∧ _ = some (3 : Nat); decide +kernel) gw_4_172 ⟨⟨(Nat.le_of_ble_eq_true rfl), (Nat.le_of_ble_eq_true rfl)⟩, (by show K + 8 ≤ 601024; omega), (by show N + 48 ≤ 7293034; omega)⟩ rfl (Nat.le_of_ble_eq_true rfl) dL_law_2237 ?_
  rintro v9 u9 ⟨T, rfl, hT0, hTx, rfl⟩
  refine V.istore (L' := [(6, .int (nI (kR1 (xs (i6 + 1))))), (5, .int (nI i6)), (0, .ref b), (1, .ref (ad 0)), (2, .ref (am 0)), (3, .ref o), (4, .ref od)]) X dL_law_2240 hB9 (by decide) rfl ?_
  have hk4 : kR1 (xs (i6 + 1)) < 1000000 := by unfold kR1; (repeat' split) <;> decide
  refine V.perm (Wd' := wM am cy S ++ (wC ad cy T ++ [cL9 cy o (if kR1 (xs (i6 + 1)) = 0 then vp_updL f 0 (b2l (paus9 S (xs (i6 + 1)))) else f), cD9 cy od g])) pm_AB ?_
  refine V.aload_n X dL_law_2242 rfl ?_
  refine V.arg (j := 1) X hSc rfl rfl (by omega) hLn rfl dL_law_2243 dL_law_2244 dL_law_2246 dL_law_2247 dL_law_2248 (pc9 := 2249) rfl ?_
  refine V.callV (C := "RunbookerModel") [.int (xs (i6 + 1))] X (c_X6_isPaused l D cy am S (wC ad cy T ++ [cL9 cy o (if kR1 (xs (i6 + 1)) = 0 then vp_updL f 0 (b2l (paus9 S (xs (i6 + 1)))) else f), cD9 cy od g]) (xs (i6 + 1)) hI) mv_X6_isPaused gw_7_135 ⟨⟨(Nat.le_of_ble_eq_true rfl), (Nat.le_of_ble_eq_true rfl)⟩, (by show K + 8 + 0 ≤ 601024; omega), (by show N + 48 + 0 ≤ 7293034; omega)⟩ (q0 := 0) (ci := 8) rfl rfl rfl (Nat.le_of_ble_eq_true rfl) dL_law_2249 (fun _ _ h9 => h9.elim) ?_
  rintro v9 u9 ⟨r9, rfl, hr9, rfl⟩
  refine V.istore (L' := [(7, .int (r9)), (6, .int (nI (kR1 (xs (i6 + 1))))), (5, .int (nI i6)), (0, .ref b), (1, .ref (ad 0)), (2, .ref (am 0)), (3, .ref o), (4, .ref od)]) X dL_law_2252 hB9 (by decide) rfl ?_
  refine tailB (kx := kR1 (xs (i6 + 1))) (q0 := 60) (r9 := r9) (fo := (if kR1 (xs (i6 + 1)) = 0 then vp_updL f 0 (b2l (paus9 S (xs (i6 + 1)))) else f)) X rfl rfl rfl rfl rfl (by omega) rfl (fun h0 => by rw [out0 h0, hr9 h0]; exact b2l_r _) (Nat.le_of_ble_eq_true rfl) (Nat.le_of_ble_eq_true rfl) (by show K + 8 + 0 ≤ 601024; omega) (by show N + 48 + 0 ≤ 7293034; omega) dL_law_2254 dL_law_2255 dL_law_2258 dL_law_2260 dL_law_2265 dL_law_2267 dL_law_2270 dL_law_2271 dL_law_2272 dL_law_2273 dL_law_2275 dL_law_2278 dL_law_2279 dL_law_2282 dL_law_2283 dL_law_2284 dL_law_2289 (by decide) ?_
  refine V.pick [2, 3, 4, 5, 6, 7] rfl ?_
  refine LC.go next (S9 := (sN S 62 (fun _ => (kR1 (xs (i6 + 1)))))) (by rw [T_eq hT0 hTx]; rfl) rfl (hS.up.n62 hk4) (by show K + 8 + 0 ≤ K + 64; omega) (by show N + 48 + 0 ≤ N + 1024; omega)
set_option maxRecDepth 20000 in
set_option maxHeartbeats 4000000 in
theorem lc_37 (l : Launch) (D : va_G) (M : VM) (cy : Nat → ClassId) (ad am : Nat → Nat) (o od b Ln : Nat) (xs : Nat → Int32) (i6 c : Nat) (S : St) (K N : Nat) (f : Nat → Int64) (g : Nat → UInt64) (h : LC l D M cy ad am o od b Ln xs i6 c S K N) : V l D M K N (wC ad cy S ++ cL9 cy o f :: cD9 cy od g :: wM am cy S) (LL b (ad 0) (am 0) o od i6) 2292 [] := by
  obtain ⟨X, hNc, hB9, hSc, hi, hLn, hS, hc, hK, hN, next⟩ := h
  have hI := hS.1
  have hR := hS.rm hc
  refine V.aload_n X dL_law_2292 rfl ?_
  refine V.arg (j := 1) X hSc rfl rfl (by omega) hLn rfl dL_law_2293 dL_law_2294 dL_law_2296 dL_law_2297 dL_law_2298 (pc9 := 2299) rfl ?_
  refine V.aload_n X dL_law_2299 rfl ?_
  refine V.callSW [.ref (ad 0), .int (xs (i6 + 1)), .ref o] X hNc (c_L_workedOn l D cy ad S o f (cD9 cy od g :: wM am cy S) (xs (i6 + 1)) hI) gw_4_180 gw_1_0 gw_4_181 (by show _ ≠ _ ∧ _ ≠ _ ∧ _ = some (3 : Nat); decide +kernel) gw_4_179 ⟨⟨(Nat.le_of_ble_eq_true rfl), (Nat.le_of_ble_eq_true rfl)⟩, (by show K + 8 ≤ 601024; omega), (by show N + 48 ≤ 7293034; omega)⟩ rfl (Nat.le_of_ble_eq_true rfl) dL_law_2300 ?_
  rintro v9 u9 ⟨T, rfl, hT0, hTx, rfl⟩
  refine V.istore (L' := [(6, .int (nI (kWO S (xs (i6 + 1))))), (5, .int (nI i6)), (0, .ref b), (1, .ref (ad 0)), (2, .ref (am 0)), (3, .ref o), (4, .ref od)]) X dL_law_2303 hB9 (by decide) rfl ?_
  have hk4 : kWO S (xs (i6 + 1)) < 1000000 := by unfold kWO; (repeat' split) <;> decide
  refine V.perm (Wd' := wM am cy S ++ (wC ad cy T ++ [cL9 cy o (if kWO S (xs (i6 + 1)) = 0 then vp_updL f 0 ((nI (rN S 26 (ix (xs (i6 + 1))))).toInt64) else f), cD9 cy od g])) pm_AB ?_
  refine V.aload_n X dL_law_2305 rfl ?_
  refine V.arg (j := 1) X hSc rfl rfl (by omega) hLn rfl dL_law_2306 dL_law_2307 dL_law_2309 dL_law_2310 dL_law_2311 (pc9 := 2312) rfl ?_
  refine V.callV (C := "RunbookerModel") [.int (xs (i6 + 1))] X (c_X6_workedOn l D cy am S (wC ad cy T ++ [cL9 cy o (if kWO S (xs (i6 + 1)) = 0 then vp_updL f 0 ((nI (rN S 26 (ix (xs (i6 + 1))))).toInt64) else f), cD9 cy od g]) (xs (i6 + 1)) hI) mv_X6_workedOn gw_7_139 ⟨⟨(Nat.le_of_ble_eq_true rfl), (Nat.le_of_ble_eq_true rfl)⟩, (by show K + 8 + 0 ≤ 601024; omega), (by show N + 48 + 0 ≤ 7293034; omega)⟩ (q0 := 0) (ci := 8) rfl rfl rfl (Nat.le_of_ble_eq_true rfl) dL_law_2312 (fun _ _ h9 => h9.elim) ?_
  rintro v9 u9 ⟨r9, rfl, hr9, rfl⟩
  refine V.istore (L' := [(7, .int (r9)), (6, .int (nI (kWO S (xs (i6 + 1))))), (5, .int (nI i6)), (0, .ref b), (1, .ref (ad 0)), (2, .ref (am 0)), (3, .ref o), (4, .ref od)]) X dL_law_2315 hB9 (by decide) rfl ?_
  refine tailI (kx := kWO S (xs (i6 + 1))) (q0 := 60) (r9 := r9) (fo := (if kWO S (xs (i6 + 1)) = 0 then vp_updL f 0 ((nI (rN S 26 (ix (xs (i6 + 1))))).toInt64) else f)) X rfl rfl rfl rfl rfl (by omega) rfl (fun h0 => by rw [out0 h0, hr9 h0] <;> rfl) (Nat.le_of_ble_eq_true rfl) (Nat.le_of_ble_eq_true rfl) (by show K + 8 + 0 ≤ 601024; omega) (by show N + 48 + 0 ≤ 7293034; omega) dL_law_2317 dL_law_2318 dL_law_2321 dL_law_2323 dL_law_2328 dL_law_2330 dL_law_2333 dL_law_2334 dL_law_2335 dL_law_2336 dL_law_2338 dL_law_2339 dL_law_2340 dL_law_2345 (by decide) ?_
  refine V.pick [2, 3, 4, 5, 6, 7] rfl ?_
  refine LC.go next (S9 := (sN S 62 (fun _ => (kWO S (xs (i6 + 1)))))) (by rw [T_eq hT0 hTx]; rfl) rfl (hS.up.n62 hk4) (by show K + 8 + 0 ≤ K + 64; omega) (by show N + 48 + 0 ≤ N + 1024; omega)
set_option maxRecDepth 20000 in
set_option maxHeartbeats 4000000 in
theorem lc_38 (l : Launch) (D : va_G) (M : VM) (cy : Nat → ClassId) (ad am : Nat → Nat) (o od b Ln : Nat) (xs : Nat → Int32) (i6 c : Nat) (S : St) (K N : Nat) (f : Nat → Int64) (g : Nat → UInt64) (h : LC l D M cy ad am o od b Ln xs i6 c S K N) : V l D M K N (wC ad cy S ++ cL9 cy o f :: cD9 cy od g :: wM am cy S) (LL b (ad 0) (am 0) o od i6) 2348 [] := by
  obtain ⟨X, hNc, hB9, hSc, hi, hLn, hS, hc, hK, hN, next⟩ := h
  have hI := hS.1
  have hR := hS.rm hc
  refine V.aload_n X dL_law_2348 rfl ?_
  refine V.aload_n X dL_law_2349 rfl ?_
  refine V.callSW [.ref (ad 0), .ref o] X hNc (c_L_lastDone l D cy ad S o f (cD9 cy od g :: wM am cy S) hI) gw_4_188 gw_1_0 gw_4_189 (by show _ ≠ _ ∧ _ ≠ _ ∧ _ = some (2 : Nat); decide +kernel) gw_4_187 ⟨⟨(Nat.le_of_ble_eq_true rfl), (Nat.le_of_ble_eq_true rfl)⟩, (by show K + 8 ≤ 601024; omega), (by show N + 48 ≤ 7293034; omega)⟩ rfl (Nat.le_of_ble_eq_true rfl) dL_law_2350 ?_
  rintro v9 u9 ⟨T, rfl, hT0, hTx, rfl⟩
  refine V.istore (L' := [(6, .int (nI (kLD S))), (5, .int (nI i6)), (0, .ref b), (1, .ref (ad 0)), (2, .ref (am 0)), (3, .ref o), (4, .ref od)]) X dL_law_2353 hB9 (by decide) rfl ?_
  have hk4 : kLD S < 1000000 := by unfold kLD; (repeat' split) <;> decide
  refine V.perm (Wd' := wM am cy S ++ (wC ad cy T ++ [cL9 cy o (if kLD S = 0 then vp_updL f 0 ((o2i (ltd9 S)).toInt64) else f), cD9 cy od g])) pm_AB ?_
  refine V.aload_n X dL_law_2355 rfl ?_
  refine V.callV (C := "RunbookerModel") [] X (c_X6_lastDone l D cy am S (wC ad cy T ++ [cL9 cy o (if kLD S = 0 then vp_updL f 0 ((o2i (ltd9 S)).toInt64) else f), cD9 cy od g]) hI) mv_X6_lastDone gw_7_143 ⟨⟨(Nat.le_of_ble_eq_true rfl), (Nat.le_of_ble_eq_true rfl)⟩, (by show K + 8 + 0 ≤ 601024; omega), (by show N + 48 + 0 ≤ 7293034; omega)⟩ (q0 := 0) (ci := 8) rfl rfl rfl (Nat.le_of_ble_eq_true rfl) dL_law_2356 (fun _ _ h9 => h9.elim) ?_
  rintro v9 u9 ⟨r9, rfl, hr9, rfl⟩
  refine V.istore (L' := [(7, .int (r9)), (6, .int (nI (kLD S))), (5, .int (nI i6)), (0, .ref b), (1, .ref (ad 0)), (2, .ref (am 0)), (3, .ref o), (4, .ref od)]) X dL_law_2359 hB9 (by decide) rfl ?_
  refine tailI (kx := kLD S) (q0 := 60) (r9 := r9) (fo := (if kLD S = 0 then vp_updL f 0 ((o2i (ltd9 S)).toInt64) else f)) X rfl rfl rfl rfl rfl (by omega) rfl (fun h0 => by rw [out0 h0, hr9 h0] <;> rfl) (Nat.le_of_ble_eq_true rfl) (Nat.le_of_ble_eq_true rfl) (by show K + 8 + 0 ≤ 601024; omega) (by show N + 48 + 0 ≤ 7293034; omega) dL_law_2361 dL_law_2362 dL_law_2365 dL_law_2367 dL_law_2372 dL_law_2374 dL_law_2377 dL_law_2378 dL_law_2379 dL_law_2380 dL_law_2382 dL_law_2383 dL_law_2384 dL_law_2389 (by decide) ?_
  refine V.pick [2, 3, 4, 5, 6, 7] rfl ?_
  refine LC.go next (S9 := (sN S 62 (fun _ => (kLD S)))) (by rw [T_eq hT0 hTx]; rfl) rfl (hS.up.n62 hk4) (by show K + 8 + 0 ≤ K + 64; omega) (by show N + 48 + 0 ≤ N + 1024; omega)
set_option maxRecDepth 20000 in
set_option maxHeartbeats 4000000 in
theorem lc_39 (l : Launch) (D : va_G) (M : VM) (cy : Nat → ClassId) (ad am : Nat → Nat) (o od b Ln : Nat) (xs : Nat → Int32) (i6 c : Nat) (S : St) (K N : Nat) (f : Nat → Int64) (g : Nat → UInt64) (h : LC l D M cy ad am o od b Ln xs i6 c S K N) : V l D M K N (wC ad cy S ++ cL9 cy o f :: cD9 cy od g :: wM am cy S) (LL b (ad 0) (am 0) o od i6) 2392 [] := by
  obtain ⟨X, hNc, hB9, hSc, hi, hLn, hS, hc, hK, hN, next⟩ := h
  have hI := hS.1
  have hR := hS.rm hc
  refine V.aload_n X dL_law_2392 rfl ?_
  refine V.callV (C := "Runbooker") [] X (c_X5_entries l D cy ad S (cL9 cy o f :: cD9 cy od g :: wM am cy S) hI) mv_X5_entries gw_2_64 ⟨⟨(Nat.le_of_ble_eq_true rfl), (Nat.le_of_ble_eq_true rfl)⟩, (by show K + 0 ≤ 601024; omega), (by show N + 0 ≤ 7293034; omega)⟩ (q0 := 0) (ci := 7) rfl rfl rfl (Nat.le_of_ble_eq_true rfl) dL_law_2393 (fun _ _ h9 => h9.elim) ?_
  rintro v9 u9 ⟨rfl, rfl⟩
  refine V.perm (Wd' := wM am cy S ++ (wC ad cy S ++ [cL9 cy o f, cD9 cy od g])) pm_AB ?_
  refine V.aload_n X dL_law_2396 rfl ?_
  refine V.callV (C := "RunbookerModel") [] X (c_X6_entries l D cy am S (wC ad cy S ++ [cL9 cy o f, cD9 cy od g]) hI) mv_X6_entries gw_7_147 ⟨⟨(Nat.le_of_ble_eq_true rfl), (Nat.le_of_ble_eq_true rfl)⟩, (by show K + 0 + 0 ≤ 601024; omega), (by show N + 0 + 0 ≤ 7293034; omega)⟩ (q0 := 0) (ci := 8) rfl rfl rfl (Nat.le_of_ble_eq_true rfl) dL_law_2397 (fun _ _ h9 => h9.elim) ?_
  rintro v9 u9 ⟨r9, rfl, hr9, rfl⟩
  exact V.icmp_eq (tgt := 3010) X dL_law_2400 (by decide) id id (fun _ => LC.go next (S9 := (sN S 62 (fun _ => 0))) rfl rfl (hS.up.n62 (by decide)) (by show K + 0 + 0 ≤ K + 64; omega) (by show N + 0 + 0 ≤ N + 1024; omega)) (fun h9 => absurd (hr9 rfl).symm h9)
set_option maxRecDepth 20000 in
set_option maxHeartbeats 4000000 in
theorem lc_40 (l : Launch) (D : va_G) (M : VM) (cy : Nat → ClassId) (ad am : Nat → Nat) (o od b Ln : Nat) (xs : Nat → Int32) (i6 c : Nat) (S : St) (K N : Nat) (f : Nat → Int64) (g : Nat → UInt64) (h : LC l D M cy ad am o od b Ln xs i6 c S K N) : V l D M K N (wC ad cy S ++ cL9 cy o f :: cD9 cy od g :: wM am cy S) (LL b (ad 0) (am 0) o od i6) 2405 [] := by
  obtain ⟨X, hNc, hB9, hSc, hi, hLn, hS, hc, hK, hN, next⟩ := h
  have hI := hS.1
  have hR := hS.rm hc
  refine V.aload_n X dL_law_2405 rfl ?_
  refine V.arg (j := 1) X hSc rfl rfl (by omega) hLn rfl dL_law_2406 dL_law_2407 dL_law_2409 dL_law_2410 dL_law_2411 (pc9 := 2412) rfl ?_
  refine V.aload_n X dL_law_2412 rfl ?_
  refine V.callSW [.ref (ad 0), .int (xs (i6 + 1)), .ref o] X hNc (c_L_signAt l D cy ad S o f (cD9 cy od g :: wM am cy S) (xs (i6 + 1)) hI) gw_4_197 gw_1_0 gw_4_198 (by show _ ≠ _ ∧ _ ≠ _ ∧ _ = some (3 : Nat); decide +kernel) gw_4_196 ⟨⟨(Nat.le_of_ble_eq_true rfl), (Nat.le_of_ble_eq_true rfl)⟩, (by show K + 8 ≤ 601024; omega), (by show N + 48 ≤ 7293034; omega)⟩ rfl (Nat.le_of_ble_eq_true rfl) dL_law_2413 ?_
  rintro v9 u9 ⟨T, rfl, hT0, hTx, rfl⟩
  refine V.istore (L' := [(6, .int (nI (kE1 S (xs (i6 + 1))))), (5, .int (nI i6)), (0, .ref b), (1, .ref (ad 0)), (2, .ref (am 0)), (3, .ref o), (4, .ref od)]) X dL_law_2416 hB9 (by decide) rfl ?_
  have hk4 : kE1 S (xs (i6 + 1)) < 1000000 := by unfold kE1; (repeat' split) <;> decide
  refine V.perm (Wd' := wM am cy S ++ (wC ad cy T ++ [cL9 cy o (if kE1 S (xs (i6 + 1)) = 0 then vp_updL f 0 ((c2i (rC S 29 (ix (xs (i6 + 1))))).toInt64) else f), cD9 cy od g])) pm_AB ?_
  refine V.aload_n X dL_law_2418 rfl ?_
  refine V.arg (j := 1) X hSc rfl rfl (by omega) hLn rfl dL_law_2419 dL_law_2420 dL_law_2422 dL_law_2423 dL_law_2424 (pc9 := 2425) rfl ?_
  refine V.callV (C := "RunbookerModel") [.int (xs (i6 + 1))] X (c_X6_signAt l D cy am S (wC ad cy T ++ [cL9 cy o (if kE1 S (xs (i6 + 1)) = 0 then vp_updL f 0 ((c2i (rC S 29 (ix (xs (i6 + 1))))).toInt64) else f), cD9 cy od g]) (xs (i6 + 1)) hI) mv_X6_signAt gw_7_151 ⟨⟨(Nat.le_of_ble_eq_true rfl), (Nat.le_of_ble_eq_true rfl)⟩, (by show K + 8 + 0 ≤ 601024; omega), (by show N + 48 + 0 ≤ 7293034; omega)⟩ (q0 := 0) (ci := 8) rfl rfl rfl (Nat.le_of_ble_eq_true rfl) dL_law_2425 (fun _ _ h9 => h9.elim) ?_
  rintro v9 u9 ⟨r9, rfl, hr9, rfl⟩
  refine V.istore (L' := [(7, .int (r9)), (6, .int (nI (kE1 S (xs (i6 + 1))))), (5, .int (nI i6)), (0, .ref b), (1, .ref (ad 0)), (2, .ref (am 0)), (3, .ref o), (4, .ref od)]) X dL_law_2428 hB9 (by decide) rfl ?_
  refine tailI (kx := kE1 S (xs (i6 + 1))) (q0 := 60) (r9 := r9) (fo := (if kE1 S (xs (i6 + 1)) = 0 then vp_updL f 0 ((c2i (rC S 29 (ix (xs (i6 + 1))))).toInt64) else f)) X rfl rfl rfl rfl rfl (by omega) rfl (fun h0 => by rw [out0 h0, hr9 h0] <;> rfl) (Nat.le_of_ble_eq_true rfl) (Nat.le_of_ble_eq_true rfl) (by show K + 8 + 0 ≤ 601024; omega) (by show N + 48 + 0 ≤ 7293034; omega) dL_law_2430 dL_law_2431 dL_law_2434 dL_law_2436 dL_law_2441 dL_law_2443 dL_law_2446 dL_law_2447 dL_law_2448 dL_law_2449 dL_law_2451 dL_law_2452 dL_law_2453 dL_law_2458 (by decide) ?_
  refine V.pick [2, 3, 4, 5, 6, 7] rfl ?_
  refine LC.go next (S9 := (sN S 62 (fun _ => (kE1 S (xs (i6 + 1)))))) (by rw [T_eq hT0 hTx]; rfl) rfl (hS.up.n62 hk4) (by show K + 8 + 0 ≤ K + 64; omega) (by show N + 48 + 0 ≤ N + 1024; omega)
set_option maxRecDepth 20000 in
set_option maxHeartbeats 4000000 in
theorem lc_41 (l : Launch) (D : va_G) (M : VM) (cy : Nat → ClassId) (ad am : Nat → Nat) (o od b Ln : Nat) (xs : Nat → Int32) (i6 c : Nat) (S : St) (K N : Nat) (f : Nat → Int64) (g : Nat → UInt64) (h : LC l D M cy ad am o od b Ln xs i6 c S K N) : V l D M K N (wC ad cy S ++ cL9 cy o f :: cD9 cy od g :: wM am cy S) (LL b (ad 0) (am 0) o od i6) 2461 [] := by
  obtain ⟨X, hNc, hB9, hSc, hi, hLn, hS, hc, hK, hN, next⟩ := h
  have hI := hS.1
  have hR := hS.rm hc
  refine V.aload_n X dL_law_2461 rfl ?_
  refine V.arg (j := 1) X hSc rfl rfl (by omega) hLn rfl dL_law_2462 dL_law_2463 dL_law_2465 dL_law_2466 dL_law_2467 (pc9 := 2468) rfl ?_
  refine V.aload_n X dL_law_2468 rfl ?_
  refine V.callSW [.ref (ad 0), .int (xs (i6 + 1)), .ref o] X hNc (c_L_stepAt l D cy ad S o f (cD9 cy od g :: wM am cy S) (xs (i6 + 1)) hI) gw_4_213 gw_1_0 gw_4_214 (by show _ ≠ _ ∧ _ ≠ _ ∧ _ = some (3 : Nat); decide +kernel) gw_4_212 ⟨⟨(Nat.le_of_ble_eq_true rfl), (Nat.le_of_ble_eq_true rfl)⟩, (by show K + 8 ≤ 601024; omega), (by show N + 48 ≤ 7293034; omega)⟩ rfl (Nat.le_of_ble_eq_true rfl) dL_law_2469 ?_
  rintro v9 u9 ⟨T, rfl, hT0, hTx, rfl⟩
  refine V.istore (L' := [(6, .int (nI (kE1 S (xs (i6 + 1))))), (5, .int (nI i6)), (0, .ref b), (1, .ref (ad 0)), (2, .ref (am 0)), (3, .ref o), (4, .ref od)]) X dL_law_2472 hB9 (by decide) rfl ?_
  have hk4 : kE1 S (xs (i6 + 1)) < 1000000 := by unfold kE1; (repeat' split) <;> decide
  refine V.perm (Wd' := wM am cy S ++ (wC ad cy T ++ [cL9 cy o (if kE1 S (xs (i6 + 1)) = 0 then vp_updL f 0 ((o2i (rO S 30 (ix (xs (i6 + 1))))).toInt64) else f), cD9 cy od g])) pm_AB ?_
  refine V.aload_n X dL_law_2474 rfl ?_
  refine V.arg (j := 1) X hSc rfl rfl (by omega) hLn rfl dL_law_2475 dL_law_2476 dL_law_2478 dL_law_2479 dL_law_2480 (pc9 := 2481) rfl ?_
  refine V.callV (C := "RunbookerModel") [.int (xs (i6 + 1))] X (c_X6_stepAt l D cy am S (wC ad cy T ++ [cL9 cy o (if kE1 S (xs (i6 + 1)) = 0 then vp_updL f 0 ((o2i (rO S 30 (ix (xs (i6 + 1))))).toInt64) else f), cD9 cy od g]) (xs (i6 + 1)) hI) mv_X6_stepAt gw_7_159 ⟨⟨(Nat.le_of_ble_eq_true rfl), (Nat.le_of_ble_eq_true rfl)⟩, (by show K + 8 + 0 ≤ 601024; omega), (by show N + 48 + 0 ≤ 7293034; omega)⟩ (q0 := 0) (ci := 8) rfl rfl rfl (Nat.le_of_ble_eq_true rfl) dL_law_2481 (fun _ _ h9 => h9.elim) ?_
  rintro v9 u9 ⟨r9, rfl, hr9, rfl⟩
  refine V.istore (L' := [(7, .int (r9)), (6, .int (nI (kE1 S (xs (i6 + 1))))), (5, .int (nI i6)), (0, .ref b), (1, .ref (ad 0)), (2, .ref (am 0)), (3, .ref o), (4, .ref od)]) X dL_law_2484 hB9 (by decide) rfl ?_
  refine tailI (kx := kE1 S (xs (i6 + 1))) (q0 := 60) (r9 := r9) (fo := (if kE1 S (xs (i6 + 1)) = 0 then vp_updL f 0 ((o2i (rO S 30 (ix (xs (i6 + 1))))).toInt64) else f)) X rfl rfl rfl rfl rfl (by omega) rfl (fun h0 => by rw [out0 h0, hr9 h0] <;> rfl) (Nat.le_of_ble_eq_true rfl) (Nat.le_of_ble_eq_true rfl) (by show K + 8 + 0 ≤ 601024; omega) (by show N + 48 + 0 ≤ 7293034; omega) dL_law_2486 dL_law_2487 dL_law_2490 dL_law_2492 dL_law_2497 dL_law_2499 dL_law_2502 dL_law_2503 dL_law_2504 dL_law_2505 dL_law_2507 dL_law_2508 dL_law_2509 dL_law_2514 (by decide) ?_
  refine V.pick [2, 3, 4, 5, 6, 7] rfl ?_
  refine LC.go next (S9 := (sN S 62 (fun _ => (kE1 S (xs (i6 + 1)))))) (by rw [T_eq hT0 hTx]; rfl) rfl (hS.up.n62 hk4) (by show K + 8 + 0 ≤ K + 64; omega) (by show N + 48 + 0 ≤ N + 1024; omega)
set_option maxRecDepth 20000 in
set_option maxHeartbeats 4000000 in
theorem lc_42 (l : Launch) (D : va_G) (M : VM) (cy : Nat → ClassId) (ad am : Nat → Nat) (o od b Ln : Nat) (xs : Nat → Int32) (i6 c : Nat) (S : St) (K N : Nat) (f : Nat → Int64) (g : Nat → UInt64) (h : LC l D M cy ad am o od b Ln xs i6 c S K N) : V l D M K N (wC ad cy S ++ cL9 cy o f :: cD9 cy od g :: wM am cy S) (LL b (ad 0) (am 0) o od i6) 2517 [] := by
  obtain ⟨X, hNc, hB9, hSc, hi, hLn, hS, hc, hK, hN, next⟩ := h
  have hI := hS.1
  have hR := hS.rm hc
  refine V.aload_n X dL_law_2517 rfl ?_
  refine V.arg (j := 1) X hSc rfl rfl (by omega) hLn rfl dL_law_2518 dL_law_2519 dL_law_2521 dL_law_2522 dL_law_2523 (pc9 := 2524) rfl ?_
  refine V.aload_n X dL_law_2524 rfl ?_
  refine V.callSW [.ref (ad 0), .int (xs (i6 + 1)), .ref o] X hNc (c_L_personAt l D cy ad S o f (cD9 cy od g :: wM am cy S) (xs (i6 + 1)) hI) gw_4_220 gw_1_0 gw_4_221 (by show _ ≠ _ ∧ _ ≠ _ ∧ _ = some (3 : Nat); decide +kernel) gw_4_219 ⟨⟨(Nat.le_of_ble_eq_true rfl), (Nat.le_of_ble_eq_true rfl)⟩, (by show K + 8 ≤ 601024; omega), (by show N + 48 ≤ 7293034; omega)⟩ rfl (Nat.le_of_ble_eq_true rfl) dL_law_2525 ?_
  rintro v9 u9 ⟨T, rfl, hT0, hTx, rfl⟩
  refine V.istore (L' := [(6, .int (nI (kE1 S (xs (i6 + 1))))), (5, .int (nI i6)), (0, .ref b), (1, .ref (ad 0)), (2, .ref (am 0)), (3, .ref o), (4, .ref od)]) X dL_law_2528 hB9 (by decide) rfl ?_
  have hk4 : kE1 S (xs (i6 + 1)) < 1000000 := by unfold kE1; (repeat' split) <;> decide
  refine V.perm (Wd' := wM am cy S ++ (wC ad cy T ++ [cL9 cy o (if kE1 S (xs (i6 + 1)) = 0 then vp_updL f 0 ((o2i (rO S 31 (ix (xs (i6 + 1))))).toInt64) else f), cD9 cy od g])) pm_AB ?_
  refine V.aload_n X dL_law_2530 rfl ?_
  refine V.arg (j := 1) X hSc rfl rfl (by omega) hLn rfl dL_law_2531 dL_law_2532 dL_law_2534 dL_law_2535 dL_law_2536 (pc9 := 2537) rfl ?_
  refine V.callV (C := "RunbookerModel") [.int (xs (i6 + 1))] X (c_X6_personAt l D cy am S (wC ad cy T ++ [cL9 cy o (if kE1 S (xs (i6 + 1)) = 0 then vp_updL f 0 ((o2i (rO S 31 (ix (xs (i6 + 1))))).toInt64) else f), cD9 cy od g]) (xs (i6 + 1)) hI) mv_X6_personAt gw_7_163 ⟨⟨(Nat.le_of_ble_eq_true rfl), (Nat.le_of_ble_eq_true rfl)⟩, (by show K + 8 + 0 ≤ 601024; omega), (by show N + 48 + 0 ≤ 7293034; omega)⟩ (q0 := 0) (ci := 8) rfl rfl rfl (Nat.le_of_ble_eq_true rfl) dL_law_2537 (fun _ _ h9 => h9.elim) ?_
  rintro v9 u9 ⟨r9, rfl, hr9, rfl⟩
  refine V.istore (L' := [(7, .int (r9)), (6, .int (nI (kE1 S (xs (i6 + 1))))), (5, .int (nI i6)), (0, .ref b), (1, .ref (ad 0)), (2, .ref (am 0)), (3, .ref o), (4, .ref od)]) X dL_law_2540 hB9 (by decide) rfl ?_
  refine tailI (kx := kE1 S (xs (i6 + 1))) (q0 := 60) (r9 := r9) (fo := (if kE1 S (xs (i6 + 1)) = 0 then vp_updL f 0 ((o2i (rO S 31 (ix (xs (i6 + 1))))).toInt64) else f)) X rfl rfl rfl rfl rfl (by omega) rfl (fun h0 => by rw [out0 h0, hr9 h0] <;> rfl) (Nat.le_of_ble_eq_true rfl) (Nat.le_of_ble_eq_true rfl) (by show K + 8 + 0 ≤ 601024; omega) (by show N + 48 + 0 ≤ 7293034; omega) dL_law_2542 dL_law_2543 dL_law_2546 dL_law_2548 dL_law_2553 dL_law_2555 dL_law_2558 dL_law_2559 dL_law_2560 dL_law_2561 dL_law_2563 dL_law_2564 dL_law_2565 dL_law_2570 (by decide) ?_
  refine V.pick [2, 3, 4, 5, 6, 7] rfl ?_
  refine LC.go next (S9 := (sN S 62 (fun _ => (kE1 S (xs (i6 + 1)))))) (by rw [T_eq hT0 hTx]; rfl) rfl (hS.up.n62 hk4) (by show K + 8 + 0 ≤ K + 64; omega) (by show N + 48 + 0 ≤ N + 1024; omega)
set_option maxRecDepth 20000 in
set_option maxHeartbeats 4000000 in
theorem lc_43 (l : Launch) (D : va_G) (M : VM) (cy : Nat → ClassId) (ad am : Nat → Nat) (o od b Ln : Nat) (xs : Nat → Int32) (i6 c : Nat) (S : St) (K N : Nat) (f : Nat → Int64) (g : Nat → UInt64) (h : LC l D M cy ad am o od b Ln xs i6 c S K N) : V l D M K N (wC ad cy S ++ cL9 cy o f :: cD9 cy od g :: wM am cy S) (LL b (ad 0) (am 0) o od i6) 2573 [] := by
  obtain ⟨X, hNc, hB9, hSc, hi, hLn, hS, hc, hK, hN, next⟩ := h
  have hI := hS.1
  have hR := hS.rm hc
  refine V.aload_n X dL_law_2573 rfl ?_
  refine V.arg (j := 1) X hSc rfl rfl (by omega) hLn rfl dL_law_2574 dL_law_2575 dL_law_2577 dL_law_2578 dL_law_2579 (pc9 := 2580) rfl ?_
  refine V.aload_n X dL_law_2580 rfl ?_
  refine V.callSW [.ref (ad 0), .int (xs (i6 + 1)), .ref o] X hNc (c_L_minuteAt l D cy ad S o f (cD9 cy od g :: wM am cy S) (xs (i6 + 1)) hI) gw_4_227 gw_1_0 gw_4_228 (by show _ ≠ _ ∧ _ ≠ _ ∧ _ = some (3 : Nat); decide +kernel) gw_4_226 ⟨⟨(Nat.le_of_ble_eq_true rfl), (Nat.le_of_ble_eq_true rfl)⟩, (by show K + 8 ≤ 601024; omega), (by show N + 48 ≤ 7293034; omega)⟩ rfl (Nat.le_of_ble_eq_true rfl) dL_law_2581 ?_
  rintro v9 u9 ⟨T, rfl, hT0, hTx, rfl⟩
  refine V.istore (L' := [(6, .int (nI (kE1 S (xs (i6 + 1))))), (5, .int (nI i6)), (0, .ref b), (1, .ref (ad 0)), (2, .ref (am 0)), (3, .ref o), (4, .ref od)]) X dL_law_2584 hB9 (by decide) rfl ?_
  have hk4 : kE1 S (xs (i6 + 1)) < 1000000 := by unfold kE1; (repeat' split) <;> decide
  refine V.perm (Wd' := wM am cy S ++ (wC ad cy T ++ [cL9 cy o (if kE1 S (xs (i6 + 1)) = 0 then vp_updL f 0 ((nI (rN S 32 (ix (xs (i6 + 1))))).toInt64) else f), cD9 cy od g])) pm_AB ?_
  refine V.aload_n X dL_law_2586 rfl ?_
  refine V.arg (j := 1) X hSc rfl rfl (by omega) hLn rfl dL_law_2587 dL_law_2588 dL_law_2590 dL_law_2591 dL_law_2592 (pc9 := 2593) rfl ?_
  refine V.callV (C := "RunbookerModel") [.int (xs (i6 + 1))] X (c_X6_minuteAt l D cy am S (wC ad cy T ++ [cL9 cy o (if kE1 S (xs (i6 + 1)) = 0 then vp_updL f 0 ((nI (rN S 32 (ix (xs (i6 + 1))))).toInt64) else f), cD9 cy od g]) (xs (i6 + 1)) hI) mv_X6_minuteAt gw_7_167 ⟨⟨(Nat.le_of_ble_eq_true rfl), (Nat.le_of_ble_eq_true rfl)⟩, (by show K + 8 + 0 ≤ 601024; omega), (by show N + 48 + 0 ≤ 7293034; omega)⟩ (q0 := 0) (ci := 8) rfl rfl rfl (Nat.le_of_ble_eq_true rfl) dL_law_2593 (fun _ _ h9 => h9.elim) ?_
  rintro v9 u9 ⟨r9, rfl, hr9, rfl⟩
  refine V.istore (L' := [(7, .int (r9)), (6, .int (nI (kE1 S (xs (i6 + 1))))), (5, .int (nI i6)), (0, .ref b), (1, .ref (ad 0)), (2, .ref (am 0)), (3, .ref o), (4, .ref od)]) X dL_law_2596 hB9 (by decide) rfl ?_
  refine tailI (kx := kE1 S (xs (i6 + 1))) (q0 := 60) (r9 := r9) (fo := (if kE1 S (xs (i6 + 1)) = 0 then vp_updL f 0 ((nI (rN S 32 (ix (xs (i6 + 1))))).toInt64) else f)) X rfl rfl rfl rfl rfl (by omega) rfl (fun h0 => by rw [out0 h0, hr9 h0] <;> rfl) (Nat.le_of_ble_eq_true rfl) (Nat.le_of_ble_eq_true rfl) (by show K + 8 + 0 ≤ 601024; omega) (by show N + 48 + 0 ≤ 7293034; omega) dL_law_2598 dL_law_2599 dL_law_2602 dL_law_2604 dL_law_2609 dL_law_2611 dL_law_2614 dL_law_2615 dL_law_2616 dL_law_2617 dL_law_2619 dL_law_2620 dL_law_2621 dL_law_2626 (by decide) ?_
  refine V.pick [2, 3, 4, 5, 6, 7] rfl ?_
  refine LC.go next (S9 := (sN S 62 (fun _ => (kE1 S (xs (i6 + 1)))))) (by rw [T_eq hT0 hTx]; rfl) rfl (hS.up.n62 hk4) (by show K + 8 + 0 ≤ K + 64; omega) (by show N + 48 + 0 ≤ N + 1024; omega)
set_option maxRecDepth 20000 in
set_option maxHeartbeats 4000000 in
theorem lc_44 (l : Launch) (D : va_G) (M : VM) (cy : Nat → ClassId) (ad am : Nat → Nat) (o od b Ln : Nat) (xs : Nat → Int32) (i6 c : Nat) (S : St) (K N : Nat) (f : Nat → Int64) (g : Nat → UInt64) (h : LC l D M cy ad am o od b Ln xs i6 c S K N) : V l D M K N (wC ad cy S ++ cL9 cy o f :: cD9 cy od g :: wM am cy S) (LL b (ad 0) (am 0) o od i6) 2629 [] := by
  obtain ⟨X, hNc, hB9, hSc, hi, hLn, hS, hc, hK, hN, next⟩ := h
  have hI := hS.1
  have hR := hS.rm hc
  refine V.aload_n X dL_law_2629 rfl ?_
  refine V.arg (j := 1) X hSc rfl rfl (by omega) hLn rfl dL_law_2630 dL_law_2631 dL_law_2633 dL_law_2634 dL_law_2635 (pc9 := 2636) rfl ?_
  refine V.aload_n X dL_law_2636 rfl ?_
  refine V.callSW [.ref (ad 0), .int (xs (i6 + 1)), .ref o] X hNc (c_L_stateByLog l D cy ad S o f (cD9 cy od g :: wM am cy S) (xs (i6 + 1)) hI) gw_4_234 gw_1_0 gw_4_235 (by show _ ≠ _ ∧ _ ≠ _ ∧ _ = some (3 : Nat); decide +kernel) gw_4_233 ⟨⟨(Nat.le_of_ble_eq_true rfl), (Nat.le_of_ble_eq_true rfl)⟩, (by show K + 8 ≤ 601024; omega), (by show N + 48 ≤ 7293034; omega)⟩ rfl (Nat.le_of_ble_eq_true rfl) dL_law_2637 ?_
  rintro v9 u9 ⟨T, rfl, hT0, hTx, rfl⟩
  refine V.istore (L' := [(6, .int (nI (kSR2 S (xs (i6 + 1))))), (5, .int (nI i6)), (0, .ref b), (1, .ref (ad 0)), (2, .ref (am 0)), (3, .ref o), (4, .ref od)]) X dL_law_2640 hB9 (by decide) rfl ?_
  have hk4 : kSR2 S (xs (i6 + 1)) < 1000000 := by unfold kSR2; (repeat' split) <;> decide
  refine V.perm (Wd' := wM am cy S ++ (wC ad cy T ++ [cL9 cy o (if kSR2 S (xs (i6 + 1)) = 0 then vp_updL f 0 ((c2i (lgS S (ix (xs (i6 + 1))))).toInt64) else f), cD9 cy od g])) pm_AB ?_
  refine V.aload_n X dL_law_2642 rfl ?_
  refine V.arg (j := 1) X hSc rfl rfl (by omega) hLn rfl dL_law_2643 dL_law_2644 dL_law_2646 dL_law_2647 dL_law_2648 (pc9 := 2649) rfl ?_
  refine V.callV (C := "RunbookerModel") [.int (xs (i6 + 1))] X (c_X6_stateByLog l D cy am S (wC ad cy T ++ [cL9 cy o (if kSR2 S (xs (i6 + 1)) = 0 then vp_updL f 0 ((c2i (lgS S (ix (xs (i6 + 1))))).toInt64) else f), cD9 cy od g]) (xs (i6 + 1)) hI) mv_X6_stateByLog gw_7_171 ⟨⟨(Nat.le_of_ble_eq_true rfl), (Nat.le_of_ble_eq_true rfl)⟩, (by show K + 8 + 0 ≤ 601024; omega), (by show N + 48 + 0 ≤ 7293034; omega)⟩ (q0 := 0) (ci := 8) rfl rfl rfl (Nat.le_of_ble_eq_true rfl) dL_law_2649 (fun _ _ h9 => h9.elim) ?_
  rintro v9 u9 ⟨rfl, rfl⟩
  refine V.istore (L' := [(7, .int (c2i (soM S (xs (i6 + 1))))), (6, .int (nI (kSR2 S (xs (i6 + 1))))), (5, .int (nI i6)), (0, .ref b), (1, .ref (ad 0)), (2, .ref (am 0)), (3, .ref o), (4, .ref od)]) X dL_law_2652 hB9 (by decide) rfl ?_
  refine tailI (kx := kSR2 S (xs (i6 + 1))) (q0 := 60) (r9 := c2i (soM S (xs (i6 + 1)))) (fo := (if kSR2 S (xs (i6 + 1)) = 0 then vp_updL f 0 ((c2i (lgS S (ix (xs (i6 + 1))))).toInt64) else f)) X rfl rfl rfl rfl rfl (by omega) rfl (fun h0 => by rw [out0 h0, ans_sl hI h0]) (Nat.le_of_ble_eq_true rfl) (Nat.le_of_ble_eq_true rfl) (by show K + 8 + 0 ≤ 601024; omega) (by show N + 48 + 0 ≤ 7293034; omega) dL_law_2654 dL_law_2655 dL_law_2658 dL_law_2660 dL_law_2665 dL_law_2667 dL_law_2670 dL_law_2671 dL_law_2672 dL_law_2673 dL_law_2675 dL_law_2676 dL_law_2677 dL_law_2682 (by decide) ?_
  refine V.pick [2, 3, 4, 5, 6, 7] rfl ?_
  refine LC.go next (S9 := (sN S 62 (fun _ => kSR2 S (xs (i6 + 1))))) (by rw [T_eq hT0 hTx]; rfl) rfl (hS.up.n62 hk4) (by show K + 8 + 0 ≤ K + 64; omega) (by show N + 48 + 0 ≤ N + 1024; omega)
set_option maxRecDepth 20000 in
set_option maxHeartbeats 4000000 in
theorem lc_45 (l : Launch) (D : va_G) (M : VM) (cy : Nat → ClassId) (ad am : Nat → Nat) (o od b Ln : Nat) (xs : Nat → Int32) (i6 c : Nat) (S : St) (K N : Nat) (f : Nat → Int64) (g : Nat → UInt64) (h : LC l D M cy ad am o od b Ln xs i6 c S K N) : V l D M K N (wC ad cy S ++ cL9 cy o f :: cD9 cy od g :: wM am cy S) (LL b (ad 0) (am 0) o od i6) 2685 [] := by
  obtain ⟨X, hNc, hB9, hSc, hi, hLn, hS, hc, hK, hN, next⟩ := h
  have hI := hS.1
  have hR := hS.rm hc
  refine V.aload_n X dL_law_2685 rfl ?_
  refine V.arg (j := 1) X hSc rfl rfl (by omega) hLn rfl dL_law_2686 dL_law_2687 dL_law_2689 dL_law_2690 dL_law_2691 (pc9 := 2692) rfl ?_
  refine V.aload_n X dL_law_2692 rfl ?_
  refine V.callSW [.ref (ad 0), .int (xs (i6 + 1)), .ref o] X hNc (c_L_triesByLog l D cy ad S o f (cD9 cy od g :: wM am cy S) (xs (i6 + 1)) hI) gw_5_8 gw_1_0 gw_5_9 (by show _ ≠ _ ∧ _ ≠ _ ∧ _ = some (3 : Nat); decide +kernel) gw_5_7 ⟨⟨(Nat.le_of_ble_eq_true rfl), (Nat.le_of_ble_eq_true rfl)⟩, (by show K + 8 ≤ 601024; omega), (by show N + 48 ≤ 7293034; omega)⟩ rfl (Nat.le_of_ble_eq_true rfl) dL_law_2693 ?_
  rintro v9 u9 ⟨T, rfl, hT0, hTx, rfl⟩
  refine V.istore (L' := [(6, .int (nI (kSR2 S (xs (i6 + 1))))), (5, .int (nI i6)), (0, .ref b), (1, .ref (ad 0)), (2, .ref (am 0)), (3, .ref o), (4, .ref od)]) X dL_law_2696 hB9 (by decide) rfl ?_
  have hk4 : kSR2 S (xs (i6 + 1)) < 1000000 := by unfold kSR2; (repeat' split) <;> decide
  refine V.perm (Wd' := wM am cy S ++ (wC ad cy T ++ [cL9 cy o (if kSR2 S (xs (i6 + 1)) = 0 then vp_updL f 0 ((nI (cntT S (ix (xs (i6 + 1))) (rN S 50 0))).toInt64) else f), cD9 cy od g])) pm_AB ?_
  refine V.aload_n X dL_law_2698 rfl ?_
  refine V.arg (j := 1) X hSc rfl rfl (by omega) hLn rfl dL_law_2699 dL_law_2700 dL_law_2702 dL_law_2703 dL_law_2704 (pc9 := 2705) rfl ?_
  refine V.callV (C := "RunbookerModel") [.int (xs (i6 + 1))] X (c_X6_triesByLog l D cy am S (wC ad cy T ++ [cL9 cy o (if kSR2 S (xs (i6 + 1)) = 0 then vp_updL f 0 ((nI (cntT S (ix (xs (i6 + 1))) (rN S 50 0))).toInt64) else f), cD9 cy od g]) (xs (i6 + 1)) hI) mv_X6_triesByLog gw_7_176 ⟨⟨(Nat.le_of_ble_eq_true rfl), (Nat.le_of_ble_eq_true rfl)⟩, (by show K + 8 + 0 ≤ 601024; omega), (by show N + 48 + 0 ≤ 7293034; omega)⟩ (q0 := 0) (ci := 8) rfl rfl rfl (Nat.le_of_ble_eq_true rfl) dL_law_2705 (fun _ _ h9 => h9.elim) ?_
  rintro v9 u9 ⟨rfl, rfl⟩
  refine V.istore (L' := [(7, .int (nI (toM S (xs (i6 + 1))))), (6, .int (nI (kSR2 S (xs (i6 + 1))))), (5, .int (nI i6)), (0, .ref b), (1, .ref (ad 0)), (2, .ref (am 0)), (3, .ref o), (4, .ref od)]) X dL_law_2708 hB9 (by decide) rfl ?_
  refine tailI (kx := kSR2 S (xs (i6 + 1))) (q0 := 60) (r9 := nI (toM S (xs (i6 + 1)))) (fo := (if kSR2 S (xs (i6 + 1)) = 0 then vp_updL f 0 ((nI (cntT S (ix (xs (i6 + 1))) (rN S 50 0))).toInt64) else f)) X rfl rfl rfl rfl rfl (by omega) rfl (fun h0 => by rw [out0 h0, ans_tl hI h0]) (Nat.le_of_ble_eq_true rfl) (Nat.le_of_ble_eq_true rfl) (by show K + 8 + 0 ≤ 601024; omega) (by show N + 48 + 0 ≤ 7293034; omega) dL_law_2710 dL_law_2711 dL_law_2714 dL_law_2716 dL_law_2721 dL_law_2723 dL_law_2726 dL_law_2727 dL_law_2728 dL_law_2729 dL_law_2731 dL_law_2732 dL_law_2733 dL_law_2738 (by decide) ?_
  refine V.pick [2, 3, 4, 5, 6, 7] rfl ?_
  refine LC.go next (S9 := (sN S 62 (fun _ => kSR2 S (xs (i6 + 1))))) (by rw [T_eq hT0 hTx]; rfl) rfl (hS.up.n62 hk4) (by show K + 8 + 0 ≤ K + 64; omega) (by show N + 48 + 0 ≤ N + 1024; omega)
set_option maxRecDepth 20000 in
set_option maxHeartbeats 4000000 in
theorem lc_46 (l : Launch) (D : va_G) (M : VM) (cy : Nat → ClassId) (ad am : Nat → Nat) (o od b Ln : Nat) (xs : Nat → Int32) (i6 c : Nat) (S : St) (K N : Nat) (f : Nat → Int64) (g : Nat → UInt64) (h : LC l D M cy ad am o od b Ln xs i6 c S K N) : V l D M K N (wC ad cy S ++ cL9 cy o f :: cD9 cy od g :: wM am cy S) (LL b (ad 0) (am 0) o od i6) 2741 [] := by
  obtain ⟨X, hNc, hB9, hSc, hi, hLn, hS, hc, hK, hN, next⟩ := h
  have hI := hS.1
  have hR := hS.rm hc
  refine V.aload_n X dL_law_2741 rfl ?_
  refine V.arg (j := 1) X hSc rfl rfl (by omega) hLn rfl dL_law_2742 dL_law_2743 dL_law_2745 dL_law_2746 dL_law_2747 (pc9 := 2748) rfl ?_
  refine V.aload_n X dL_law_2748 rfl ?_
  refine V.callSW [.ref (ad 0), .int (xs (i6 + 1)), .ref o] X hNc (c_L_labelLength l D cy ad S o f (cD9 cy od g :: wM am cy S) (xs (i6 + 1)) hI) gw_5_19 gw_1_0 gw_5_20 (by show _ ≠ _ ∧ _ ≠ _ ∧ _ = some (3 : Nat); decide +kernel) gw_5_18 ⟨⟨(Nat.le_of_ble_eq_true rfl), (Nat.le_of_ble_eq_true rfl)⟩, (by show K + 8 ≤ 601024; omega), (by show N + 60 ≤ 7293034; omega)⟩ rfl (Nat.le_of_ble_eq_true rfl) dL_law_2749 ?_
  rintro v9 u9 ⟨T, rfl, hT0, hTx, rfl⟩
  refine V.istore (L' := [(6, .int (nI (kS1 S (xs (i6 + 1))))), (5, .int (nI i6)), (0, .ref b), (1, .ref (ad 0)), (2, .ref (am 0)), (3, .ref o), (4, .ref od)]) X dL_law_2752 hB9 (by decide) rfl ?_
  have hk4 : kS1 S (xs (i6 + 1)) < 1000000 := by unfold kS1; (repeat' split) <;> decide
  refine V.perm (Wd' := wM am cy S ++ (wC ad cy T ++ [cL9 cy o (if kS1 S (xs (i6 + 1)) = 0 then vp_updL f 0 ((nI (lbN S (ix (xs (i6 + 1))))).toInt64) else f), cD9 cy od g])) pm_AB ?_
  refine V.aload_n X dL_law_2754 rfl ?_
  refine V.arg (j := 1) X hSc rfl rfl (by omega) hLn rfl dL_law_2755 dL_law_2756 dL_law_2758 dL_law_2759 dL_law_2760 (pc9 := 2761) rfl ?_
  refine V.callV (C := "RunbookerModel") [.int (xs (i6 + 1))] X (c_X6_labelLength l D cy am S (wC ad cy T ++ [cL9 cy o (if kS1 S (xs (i6 + 1)) = 0 then vp_updL f 0 ((nI (lbN S (ix (xs (i6 + 1))))).toInt64) else f), cD9 cy od g]) (xs (i6 + 1)) hI) mv_X6_labelLength gw_7_181 ⟨⟨(Nat.le_of_ble_eq_true rfl), (Nat.le_of_ble_eq_true rfl)⟩, (by show K + 8 + 8 ≤ 601024; omega), (by show N + 60 + 80 ≤ 7293034; omega)⟩ (q0 := 0) (ci := 8) rfl rfl rfl (Nat.le_of_ble_eq_true rfl) dL_law_2761 (fun _ _ h9 => h9.elim) ?_
  rintro v9 u9 ⟨r9, rfl, hr9, rfl⟩
  refine V.istore (L' := [(7, .int (r9)), (6, .int (nI (kS1 S (xs (i6 + 1))))), (5, .int (nI i6)), (0, .ref b), (1, .ref (ad 0)), (2, .ref (am 0)), (3, .ref o), (4, .ref od)]) X dL_law_2764 hB9 (by decide) rfl ?_
  refine tailI (kx := kS1 S (xs (i6 + 1))) (q0 := 60) (r9 := r9) (fo := (if kS1 S (xs (i6 + 1)) = 0 then vp_updL f 0 ((nI (lbN S (ix (xs (i6 + 1))))).toInt64) else f)) X rfl rfl rfl rfl rfl (by omega) rfl (fun h0 => by rw [out0 h0, hr9 h0] <;> rfl) (Nat.le_of_ble_eq_true rfl) (Nat.le_of_ble_eq_true rfl) (by show K + 8 + 8 ≤ 601024; omega) (by show N + 60 + 80 ≤ 7293034; omega) dL_law_2766 dL_law_2767 dL_law_2770 dL_law_2772 dL_law_2777 dL_law_2779 dL_law_2782 dL_law_2783 dL_law_2784 dL_law_2785 dL_law_2787 dL_law_2788 dL_law_2789 dL_law_2794 (by decide) ?_
  refine V.pick [2, 3, 4, 5, 6, 7] rfl ?_
  refine LC.go next (S9 := (sN S 62 (fun _ => (kS1 S (xs (i6 + 1)))))) (by rw [T_eq hT0 hTx]; rfl) rfl (hS.up.n62 hk4) (by show K + 8 + 8 ≤ K + 64; omega) (by show N + 60 + 80 ≤ N + 1024; omega)
set_option maxRecDepth 20000 in
set_option maxHeartbeats 4000000 in
theorem lc_47 (l : Launch) (D : va_G) (M : VM) (cy : Nat → ClassId) (ad am : Nat → Nat) (o od b Ln : Nat) (xs : Nat → Int32) (i6 c : Nat) (S : St) (K N : Nat) (f : Nat → Int64) (g : Nat → UInt64) (h : LC l D M cy ad am o od b Ln xs i6 c S K N) : V l D M K N (wC ad cy S ++ cL9 cy o f :: cD9 cy od g :: wM am cy S) (LL b (ad 0) (am 0) o od i6) 2797 [] := by
  obtain ⟨X, hNc, hB9, hSc, hi, hLn, hS, hc, hK, hN, next⟩ := h
  have hI := hS.1
  have hR := hS.rm hc
  refine V.aload_n X dL_law_2797 rfl ?_
  refine V.arg (j := 1) X hSc rfl rfl (by omega) hLn rfl dL_law_2798 dL_law_2799 dL_law_2801 dL_law_2802 dL_law_2803 (pc9 := 2804) rfl ?_
  refine V.arg (j := 2) X hSc rfl rfl (by omega) hLn rfl dL_law_2804 dL_law_2805 dL_law_2807 dL_law_2808 dL_law_2809 (pc9 := 2810) rfl ?_
  refine V.aload_n X dL_law_2810 rfl ?_
  refine V.callSW [.ref (ad 0), .int (xs (i6 + 1)), .int (xs (i6 + 2)), .ref o] X hNc (c_L_labelAt l D cy ad S o f (cD9 cy od g :: wM am cy S) (xs (i6 + 1)) (xs (i6 + 2)) hI) gw_5_195 gw_1_0 gw_5_196 (by show _ ≠ _ ∧ _ ≠ _ ∧ _ = some (4 : Nat); decide +kernel) gw_5_194 ⟨⟨(Nat.le_of_ble_eq_true rfl), (Nat.le_of_ble_eq_true rfl)⟩, (by show K + 8 ≤ 601024; omega), (by show N + 60 ≤ 7293034; omega)⟩ rfl (Nat.le_of_ble_eq_true rfl) dL_law_2811 ?_
  rintro v9 u9 ⟨T, rfl, hT0, hTx, rfl⟩
  refine V.istore (L' := [(6, .int (nI (kLA S (xs (i6 + 1)) (xs (i6 + 2))))), (5, .int (nI i6)), (0, .ref b), (1, .ref (ad 0)), (2, .ref (am 0)), (3, .ref o), (4, .ref od)]) X dL_law_2814 hB9 (by decide) rfl ?_
  have hk4 : kLA S (xs (i6 + 1)) (xs (i6 + 2)) < 1000000 := by unfold kLA; (repeat' split) <;> decide
  refine V.perm (Wd' := wM am cy S ++ (wC ad cy T ++ [cL9 cy o (if kLA S (xs (i6 + 1)) (xs (i6 + 2)) = 0 then vp_updL f 0 ((nI (lbT S (ix (xs (i6 + 1))) (ix (xs (i6 + 2))))).toInt64) else f), cD9 cy od g])) pm_AB ?_
  refine V.aload_n X dL_law_2816 rfl ?_
  refine V.arg (j := 1) X hSc rfl rfl (by omega) hLn rfl dL_law_2817 dL_law_2818 dL_law_2820 dL_law_2821 dL_law_2822 (pc9 := 2823) rfl ?_
  refine V.arg (j := 2) X hSc rfl rfl (by omega) hLn rfl dL_law_2823 dL_law_2824 dL_law_2826 dL_law_2827 dL_law_2828 (pc9 := 2829) rfl ?_
  refine V.callV (C := "RunbookerModel") [.int (xs (i6 + 1)), .int (xs (i6 + 2))] X (c_X6_labelAt l D cy am S (wC ad cy T ++ [cL9 cy o (if kLA S (xs (i6 + 1)) (xs (i6 + 2)) = 0 then vp_updL f 0 ((nI (lbT S (ix (xs (i6 + 1))) (ix (xs (i6 + 2))))).toInt64) else f), cD9 cy od g]) (xs (i6 + 1)) (xs (i6 + 2)) hI) mv_X6_labelAt gw_8_50 ⟨⟨(Nat.le_of_ble_eq_true rfl), (Nat.le_of_ble_eq_true rfl)⟩, (by show K + 8 + 12 ≤ 601024; omega), (by show N + 60 + 120 ≤ 7293034; omega)⟩ (q0 := 0) (ci := 8) rfl rfl rfl (Nat.le_of_ble_eq_true rfl) dL_law_2829 (fun _ _ h9 => h9.elim) ?_
  rintro v9 u9 ⟨r9, rfl, hr9, rfl⟩
  refine V.istore (L' := [(7, .int (r9)), (6, .int (nI (kLA S (xs (i6 + 1)) (xs (i6 + 2))))), (5, .int (nI i6)), (0, .ref b), (1, .ref (ad 0)), (2, .ref (am 0)), (3, .ref o), (4, .ref od)]) X dL_law_2832 hB9 (by decide) rfl ?_
  refine tailI (kx := kLA S (xs (i6 + 1)) (xs (i6 + 2))) (q0 := 60) (r9 := r9) (fo := (if kLA S (xs (i6 + 1)) (xs (i6 + 2)) = 0 then vp_updL f 0 ((nI (lbT S (ix (xs (i6 + 1))) (ix (xs (i6 + 2))))).toInt64) else f)) X rfl rfl rfl rfl rfl (by omega) rfl (fun h0 => by rw [out0 h0, hr9 h0] <;> rfl) (Nat.le_of_ble_eq_true rfl) (Nat.le_of_ble_eq_true rfl) (by show K + 8 + 12 ≤ 601024; omega) (by show N + 60 + 120 ≤ 7293034; omega) dL_law_2834 dL_law_2835 dL_law_2838 dL_law_2840 dL_law_2845 dL_law_2847 dL_law_2850 dL_law_2851 dL_law_2852 dL_law_2853 dL_law_2855 dL_law_2856 dL_law_2857 dL_law_2862 (by decide) ?_
  refine V.pick [2, 3, 4, 5, 6, 7] rfl ?_
  refine LC.go next (S9 := (sN S 62 (fun _ => (kLA S (xs (i6 + 1)) (xs (i6 + 2)))))) (by rw [T_eq hT0 hTx]; rfl) rfl (hS.up.n62 hk4) (by show K + 8 + 12 ≤ K + 64; omega) (by show N + 60 + 120 ≤ N + 1024; omega)
set_option maxRecDepth 20000 in
set_option maxHeartbeats 4000000 in
theorem lc_48 (l : Launch) (D : va_G) (M : VM) (cy : Nat → ClassId) (ad am : Nat → Nat) (o od b Ln : Nat) (xs : Nat → Int32) (i6 c : Nat) (S : St) (K N : Nat) (f : Nat → Int64) (g : Nat → UInt64) (h : LC l D M cy ad am o od b Ln xs i6 c S K N) : V l D M K N (wC ad cy S ++ cL9 cy o f :: cD9 cy od g :: wM am cy S) (LL b (ad 0) (am 0) o od i6) 2865 [] := by
  obtain ⟨X, hNc, hB9, hSc, hi, hLn, hS, hc, hK, hN, next⟩ := h
  have hI := hS.1
  have hR := hS.rm hc
  refine V.aload_n X dL_law_2865 rfl ?_
  refine V.callV (C := "Runbooker") [] X (c_X5_workedMinutes l D cy ad S (cL9 cy o f :: cD9 cy od g :: wM am cy S)) mv_X5_workedMinutes gw_2_68 ⟨⟨(Nat.le_of_ble_eq_true rfl), (Nat.le_of_ble_eq_true rfl)⟩, (by show K + 0 ≤ 601024; omega), (by show N + 0 ≤ 7293034; omega)⟩ (q0 := 0) (ci := 7) rfl rfl rfl (Nat.le_of_ble_eq_true rfl) dL_law_2866 (fun _ _ h9 => h9.elim) ?_
  rintro v9 u9 ⟨rfl, rfl⟩
  refine V.perm (Wd' := wM am cy S ++ (wC ad cy S ++ [cL9 cy o f, cD9 cy od g])) pm_AB ?_
  refine V.aload_n X dL_law_2869 rfl ?_
  refine V.callV (C := "RunbookerModel") [] X (c_X6_workedMinutes l D cy am S (wC ad cy S ++ [cL9 cy o f, cD9 cy od g])) mv_X6_workedMinutes gw_8_69 ⟨⟨(Nat.le_of_ble_eq_true rfl), (Nat.le_of_ble_eq_true rfl)⟩, (by show K + 0 + 0 ≤ 601024; omega), (by show N + 0 + 0 ≤ 7293034; omega)⟩ (q0 := 0) (ci := 8) rfl rfl rfl (Nat.le_of_ble_eq_true rfl) dL_law_2870 (fun _ _ h9 => h9.elim) ?_
  rintro v9 u9 ⟨rfl, rfl⟩
  refine V.lcmp (v := 0) X dL_law_2873 (lcmp_self rfl) ?_
  exact V.if_eq (tgt := 3010) X dL_law_2874 (by decide) id id (fun _ => LC.go next (S9 := (sN S 62 (fun _ => 0))) rfl rfl (hS.up.n62 (by decide)) (by show K + 0 + 0 ≤ K + 64; omega) (by show N + 0 + 0 ≤ N + 1024; omega)) (fun h9 => absurd rfl h9)
set_option maxRecDepth 20000 in
set_option maxHeartbeats 4000000 in
theorem lc_49 (l : Launch) (D : va_G) (M : VM) (cy : Nat → ClassId) (ad am : Nat → Nat) (o od b Ln : Nat) (xs : Nat → Int32) (i6 c : Nat) (S : St) (K N : Nat) (f : Nat → Int64) (g : Nat → UInt64) (h : LC l D M cy ad am o od b Ln xs i6 c S K N) : V l D M K N (wC ad cy S ++ cL9 cy o f :: cD9 cy od g :: wM am cy S) (LL b (ad 0) (am 0) o od i6) 2879 [] := by
  obtain ⟨X, hNc, hB9, hSc, hi, hLn, hS, hc, hK, hN, next⟩ := h
  have hI := hS.1
  have hR := hS.rm hc
  refine V.aload_n X dL_law_2879 rfl ?_
  refine V.aload X dL_law_2880 rfl ?_
  refine V.perm (Wd' := wC ad cy S ++ cD9 cy od g :: cL9 cy o f :: wM am cy S) pm_sw ?_
  refine V.callSW [.ref (ad 0), .ref od] X hNc (c_L_doneShare l D cy ad S od g (cL9 cy o f :: wM am cy S) hI) gw_5_215 gw_1_0 gw_5_216 (by show _ ≠ _ ∧ _ ≠ _ ∧ _ = some (2 : Nat); decide +kernel) gw_5_214 ⟨⟨(Nat.le_of_ble_eq_true rfl), (Nat.le_of_ble_eq_true rfl)⟩, (by show K + 8 ≤ 601024; omega), (by show N + 48 ≤ 7293034; omega)⟩ rfl (Nat.le_of_ble_eq_true rfl) dL_law_2882 ?_
  rintro v9 u9 ⟨T, rfl, hT0, hTx, rfl⟩
  refine V.istore (L' := [(6, .int (nI (kRN S))), (5, .int (nI i6)), (0, .ref b), (1, .ref (ad 0)), (2, .ref (am 0)), (3, .ref o), (4, .ref od)]) X dL_law_2885 hB9 (by decide) rfl ?_
  have hk4 : kRN S < 1000000 := by unfold kRN; (repeat' split) <;> decide
  refine V.perm (Wd' := wM am cy S ++ (wC ad cy T ++ [cD9 cy od (if kRN S = 0 then vf_upd g 0 (FP.f2d (FP.fdiv (FP.i2f (nI (rN S 45 0))) (FP.i2f (nI (max 1 (rN S 46 0)))))) else g), cL9 cy o f])) pm_AB ?_
  refine V.aload_n X dL_law_2887 rfl ?_
  refine V.callV (C := "RunbookerModel") [] X (c_X6_doneShare l D cy am S (wC ad cy T ++ [cD9 cy od (if kRN S = 0 then vf_upd g 0 (FP.f2d (FP.fdiv (FP.i2f (nI (rN S 45 0))) (FP.i2f (nI (max 1 (rN S 46 0)))))) else g), cL9 cy o f]) hI) mv_X6_doneShare gw_8_73 ⟨⟨(Nat.le_of_ble_eq_true rfl), (Nat.le_of_ble_eq_true rfl)⟩, (by show K + 8 + 0 ≤ 601024; omega), (by show N + 48 + 0 ≤ 7293034; omega)⟩ (q0 := 0) (ci := 8) rfl rfl rfl (Nat.le_of_ble_eq_true rfl) dL_law_2888 (fun _ _ h9 => h9.elim) ?_
  rintro v9 u9 ⟨f9, rfl, hf9, rfl⟩
  refine V.fstore (L' := [(7, .float f9), (6, .int (nI (kRN S))), (5, .int (nI i6)), (0, .ref b), (1, .ref (ad 0)), (2, .ref (am 0)), (3, .ref o), (4, .ref od)]) X dL_law_2891 hB9 (by decide) rfl ?_
  have hend : V l D M (K + 8 + 0) (N + 48 + 0) (wM am cy (sN S 62 (fun _ => kRN S)) ++ (wC ad cy T ++ [cD9 cy od (if kRN S = 0 then vf_upd g 0 (FP.f2d (FP.fdiv (FP.i2f (nI (rN S 45 0))) (FP.i2f (nI (max 1 (rN S 46 0)))))) else g), cL9 cy o f])) [(7, .float f9), (6, .int (nI (kRN S))), (5, .int (nI i6)), (0, .ref b), (1, .ref (ad 0)), (2, .ref (am 0)), (3, .ref o), (4, .ref od)] 2942 [] := by
    refine V.goto (tgt := 3010) X dL_law_2942 (by decide) ?_
    refine V.pick [2, 3, 4, 5, 6, 7] rfl ?_
    refine V.perm (Wd' := wM am cy (sN S 62 (fun _ => kRN S)) ++ (wC ad cy T ++ [cL9 cy o f, cD9 cy od (if kRN S = 0 then vf_upd g 0 (FP.f2d (FP.fdiv (FP.i2f (nI (rN S 45 0))) (FP.i2f (nI (max 1 (rN S 46 0)))))) else g)])) (List.Perm.append_left _ (List.Perm.append_left _ (List.Perm.swap _ _ _))) ?_
    exact LC.go next (S9 := (sN S 62 (fun _ => kRN S))) (by rw [T_eq hT0 hTx]; rfl) rfl (hS.up.n62 hk4) (by omega) (by omega)
  refine V.aload_n X dL_law_2893 rfl ?_
  refine V.callV1 [] X (c_X6_thrown l D cy am (sN S 62 (fun _ => kRN S)) (wC ad cy T ++ [cD9 cy od (if kRN S = 0 then vf_upd g 0 (FP.f2d (FP.fdiv (FP.i2f (nI (rN S 45 0))) (FP.i2f (nI (max 1 (rN S 46 0)))))) else g), cL9 cy o f])) mv_X6_thrown gw_6_121 ⟨⟨(Nat.le_of_ble_eq_true rfl), (Nat.le_of_ble_eq_true rfl)⟩, (by show K + 8 + 0 ≤ 601024; omega), (by show N + 48 + 0 ≤ 7293034; omega)⟩ (q0 := 0) (ci := 8) rfl rfl rfl (Nat.le_of_ble_eq_true rfl) dL_law_2894 ?_
  refine V.iload X dL_law_2897 rfl ?_
  refine V.icmp_eq (tgt := 2904) X dL_law_2899 (by decide) id id (fun _ => ?_) (fun h9 => absurd rfl h9)
  refine V.iload X dL_law_2904 rfl ?_
  refine V.if_ne (tgt := 2942) X dL_law_2906 (by decide) id id (fun _ => hend) (fun h9 => ?_)
  have hk0 : kRN S = 0 := (nI_eq (by omega) (by decide)).mp h9
  have e9 := hf9 hk0
  subst e9
  refine V.aload X dL_law_2909 rfl ?_
  refine V.iconst (v := nI 0) X dL_law_2911 rfl ?_
  refine V.dald (q0 := 60) (N := 1) (f := (if kRN S = 0 then vf_upd g 0 (FP.f2d (FP.fdiv (FP.i2f (nI (rN S 45 0))) (FP.i2f (nI (max 1 (rN S 46 0)))))) else g)) (v := FP.f2d (FP.fdiv (FP.i2f (nI (rN S 45 0))) (FP.i2f (nI (max 1 (rN S 46 0)))))) X rfl (vp_in_nI (by decide) (by decide)) dL_law_2912 (by rw [nI_clamp (by decide)]; exact outD0 hk0) ?_
  refine V.fload X dL_law_2913 rfl ?_
  refine V.f2d X dL_law_2915 (share_ok hI) ?_
  refine V.dcmp X dL_law_2916 ?_
  exact V.if_eq (tgt := 2942) X dL_law_2917 (by decide) id id (fun _ => hend) (fun h9 => absurd (share_z hI) h9)
set_option maxRecDepth 20000 in
set_option maxHeartbeats 4000000 in
theorem lc_50 (l : Launch) (D : va_G) (M : VM) (cy : Nat → ClassId) (ad am : Nat → Nat) (o od b Ln : Nat) (xs : Nat → Int32) (i6 c : Nat) (S : St) (K N : Nat) (f : Nat → Int64) (g : Nat → UInt64) (h : LC l D M cy ad am o od b Ln xs i6 c S K N) : V l D M K N (wC ad cy S ++ cL9 cy o f :: cD9 cy od g :: wM am cy S) (LL b (ad 0) (am 0) o od i6) 2945 [] := by
  obtain ⟨X, hNc, hB9, hSc, hi, hLn, hS, hc, hK, hN, next⟩ := h
  have hI := hS.1
  have hR := hS.rm hc
  refine V.aload_n X dL_law_2945 rfl ?_
  refine V.aload X dL_law_2946 rfl ?_
  refine V.perm (Wd' := wC ad cy S ++ cD9 cy od g :: cL9 cy o f :: wM am cy S) pm_sw ?_
  refine V.callSW [.ref (ad 0), .ref od] X hNc (c_L_meanTries l D cy ad S od g (cL9 cy o f :: wM am cy S) hI) gw_5_227 gw_1_0 gw_5_228 (by show _ ≠ _ ∧ _ ≠ _ ∧ _ = some (2 : Nat); decide +kernel) gw_5_226 ⟨⟨(Nat.le_of_ble_eq_true rfl), (Nat.le_of_ble_eq_true rfl)⟩, (by show K + 8 ≤ 601024; omega), (by show N + 48 ≤ 7293034; omega)⟩ rfl (Nat.le_of_ble_eq_true rfl) dL_law_2948 ?_
  rintro v9 u9 ⟨T, rfl, hT0, hTx, rfl⟩
  refine V.istore (L' := [(6, .int (nI (kRN S))), (5, .int (nI i6)), (0, .ref b), (1, .ref (ad 0)), (2, .ref (am 0)), (3, .ref o), (4, .ref od)]) X dL_law_2951 hB9 (by decide) rfl ?_
  have hk4 : kRN S < 1000000 := by unfold kRN; (repeat' split) <;> decide
  refine V.perm (Wd' := wM am cy S ++ (wC ad cy T ++ [cD9 cy od (if kRN S = 0 then vf_upd g 0 (FP.ddiv (FP.i2d (nI (sum9 (rN S 25) (rN S 46 0)))) (FP.i2d (nI (max 1 (rN S 46 0))))) else g), cL9 cy o f])) pm_AB ?_
  refine V.aload_n X dL_law_2953 rfl ?_
  refine V.callV (C := "RunbookerModel") [] X (c_X6_meanTries l D cy am S (wC ad cy T ++ [cD9 cy od (if kRN S = 0 then vf_upd g 0 (FP.ddiv (FP.i2d (nI (sum9 (rN S 25) (rN S 46 0)))) (FP.i2d (nI (max 1 (rN S 46 0))))) else g), cL9 cy o f]) hI) mv_X6_meanTries gw_8_77 ⟨⟨(Nat.le_of_ble_eq_true rfl), (Nat.le_of_ble_eq_true rfl)⟩, (by show K + 8 + 0 ≤ 601024; omega), (by show N + 48 + 0 ≤ 7293034; omega)⟩ (q0 := 0) (ci := 8) rfl rfl rfl (Nat.le_of_ble_eq_true rfl) dL_law_2954 (fun _ _ h9 => h9.elim) ?_
  rintro v9 u9 ⟨f9, rfl, hf9, rfl⟩
  refine V.dstore (L' := [(7, .double f9), (6, .int (nI (kRN S))), (5, .int (nI i6)), (0, .ref b), (1, .ref (ad 0)), (2, .ref (am 0)), (3, .ref o), (4, .ref od)]) X dL_law_2957 hB9 (by decide) rfl ?_
  have hend : V l D M (K + 8 + 0) (N + 48 + 0) (wM am cy (sN S 62 (fun _ => kRN S)) ++ (wC ad cy T ++ [cD9 cy od (if kRN S = 0 then vf_upd g 0 (FP.ddiv (FP.i2d (nI (sum9 (rN S 25) (rN S 46 0)))) (FP.i2d (nI (max 1 (rN S 46 0))))) else g), cL9 cy o f])) [(7, .double f9), (6, .int (nI (kRN S))), (5, .int (nI i6)), (0, .ref b), (1, .ref (ad 0)), (2, .ref (am 0)), (3, .ref o), (4, .ref od)] 3007 [] := by
    refine V.goto (tgt := 3010) X dL_law_3007 (by decide) ?_
    refine V.pick [2, 3, 4, 5, 6, 7] rfl ?_
    refine V.perm (Wd' := wM am cy (sN S 62 (fun _ => kRN S)) ++ (wC ad cy T ++ [cL9 cy o f, cD9 cy od (if kRN S = 0 then vf_upd g 0 (FP.ddiv (FP.i2d (nI (sum9 (rN S 25) (rN S 46 0)))) (FP.i2d (nI (max 1 (rN S 46 0))))) else g)])) (List.Perm.append_left _ (List.Perm.append_left _ (List.Perm.swap _ _ _))) ?_
    exact LC.go next (S9 := (sN S 62 (fun _ => kRN S))) (by rw [T_eq hT0 hTx]; rfl) rfl (hS.up.n62 hk4) (by omega) (by omega)
  refine V.aload_n X dL_law_2959 rfl ?_
  refine V.callV1 [] X (c_X6_thrown l D cy am (sN S 62 (fun _ => kRN S)) (wC ad cy T ++ [cD9 cy od (if kRN S = 0 then vf_upd g 0 (FP.ddiv (FP.i2d (nI (sum9 (rN S 25) (rN S 46 0)))) (FP.i2d (nI (max 1 (rN S 46 0))))) else g), cL9 cy o f])) mv_X6_thrown gw_6_121 ⟨⟨(Nat.le_of_ble_eq_true rfl), (Nat.le_of_ble_eq_true rfl)⟩, (by show K + 8 + 0 ≤ 601024; omega), (by show N + 48 + 0 ≤ 7293034; omega)⟩ (q0 := 0) (ci := 8) rfl rfl rfl (Nat.le_of_ble_eq_true rfl) dL_law_2960 ?_
  refine V.iload X dL_law_2963 rfl ?_
  refine V.icmp_eq (tgt := 2970) X dL_law_2965 (by decide) id id (fun _ => ?_) (fun h9 => absurd rfl h9)
  refine V.iload X dL_law_2970 rfl ?_
  refine V.if_ne (tgt := 3007) X dL_law_2972 (by decide) id id (fun _ => hend) (fun h9 => ?_)
  have hk0 : kRN S = 0 := (nI_eq (by omega) (by decide)).mp h9
  have e9 := hf9 hk0
  subst e9
  refine V.aload X dL_law_2975 rfl ?_
  refine V.iconst (v := nI 0) X dL_law_2977 rfl ?_
  refine V.dald (q0 := 60) (N := 1) (f := (if kRN S = 0 then vf_upd g 0 (FP.ddiv (FP.i2d (nI (sum9 (rN S 25) (rN S 46 0)))) (FP.i2d (nI (max 1 (rN S 46 0))))) else g)) (v := FP.ddiv (FP.i2d (nI (sum9 (rN S 25) (rN S 46 0)))) (FP.i2d (nI (max 1 (rN S 46 0))))) X rfl (vp_in_nI (by decide) (by decide)) dL_law_2978 (by rw [nI_clamp (by decide)]; exact outD0 hk0) ?_
  refine V.dload X dL_law_2979 rfl ?_
  refine V.dcmp X dL_law_2981 ?_
  exact V.if_eq (tgt := 3007) X dL_law_2982 (by decide) id id (fun _ => hend) (fun h9 => absurd (mean_z hI) h9)
