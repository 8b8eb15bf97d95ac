set_option maxHeartbeats 4000000 in
set_option maxRecDepth 100000 in
theorem sx_sum_53 {g : GG} {n : Int} {L : Int32} (hy : LyX g)  {I : pI} {J : pJ} {R : pR} (hr : RfX g R) (hI : XI g n L I) (wh : Int32) (wh_lo : 0 ≤ wh.toInt) (wh_hi : wh.toInt ≤ 6) : SP g mX4_sum [.ref (ad g 53), .int wh] I J R (fun r I' J' R' => (I' = I ∧ J' = J ∧ R' = R) ∧ ∃ v : Int32, r = some (.int v)) := by
  refine SP_of ⟨by decide, rfl⟩ (Nat.le_of_ble_eq_true rfl) ?_
  have e1896 : I (ad g 1) 1 = L := hI.2
  have b1897 := BT_get hI.1 1 1 2 (0) (0) (900) (by decide) 1 (by decide) (by decide)
  rw [e1896] at b1897
  refine WQ_iconst (0) (0) dX4_sum_0 rfl rfl (fun v1898 hv1898 => ?_)
  refine WP_istore_n (ls' := [(0, _), (1, _), (2, _)]) dX4_sum_1 (by decide) rfl ?_
  refine WQ_iconst (0) (0) dX4_sum_2 rfl rfl (fun v1899 hv1899 => ?_)
  refine WP_istore_n (ls' := [(0, _), (1, _), (2, _), (3, _)]) dX4_sum_3 (by decide) rfl ?_
  have lp4_1901 : ∀ (mz : Nat) (i1900 : Int32) (i1901 : Int32), 0 ≤ i1901.toInt → i1901.toInt ≤ 4 → (5 - i1901.toInt).toNat < mz → WP g mX4_sum 4 [(0, .ref (ad g 53)), (1, .int wh), (2, .int i1900), (3, .int i1901)] [] I J R (fun r I' J' R' => (I' = I ∧ J' = J ∧ R' = R) ∧ ∃ v : Int32, r = some (.int v)) := by
    intro mz
    induction mz with
    | zero =>
      intro i1900 i1901 ai1901 bi1901 hmlp4_1901
      exact absurd hmlp4_1901 (Nat.not_lt_zero _)
    | succ mz ihlp4_1901 =>
      intro i1900 i1901 ai1901 bi1901 hmlp4_1901
      refine WP_iload_n dX4_sum_4 rfl ?_
      refine WQ_iconst (4) (4) dX4_sum_5 rfl rfl (fun v1903 hv1903 => ?_)
      refine WQ_icmp_ge 29 dX4_sum_6 rfl (fun c1903 => ?_) (fun c1903 => ?_)
      · refine WP_iload_n dX4_sum_29 rfl ?_
        exact WP_iret dX4_sum_30 rfl ⟨⟨rfl, rfl, rfl⟩, _, rfl⟩
      · refine WP_iload_n dX4_sum_9 rfl ?_
        refine WP_aload_n dX4_sum_10 rfl ?_
        refine WP_getr dX4_sum_11 fX4_15 rfl (lyx_is hy 53 4 rfl) (rfx hr 53 5 55 (by decide)) ?_
        refine WP_iload_n dX4_sum_14 rfl ?_
        refine WQ_bipush (7) (7) dX4_sum_15 rfl rfl (fun v1905 hv1905 => ?_)
        refine WQ_imulk (7) dX4_sum_17 hv1905 (by omega) (by omega) (fun v1906 hv1906 => ?_)
        refine WP_iload_n dX4_sum_18 rfl ?_
        refine WQ_iadd dX4_sum_19 (by omega) (by omega) (fun v1907 hv1907 => ?_)
        refine WQ_ialdu dX4_sum_20 (lyx_is hy 55 13 rfl) (lyx_n hy 55 28 rfl) (by omega) (by omega) (fun v1908 => ?_)
        refine WQ_iaddu dX4_sum_21 (fun v1909 => ?_)
        refine WP_istore_n (ls' := [(0, _), (1, _), (2, _), (3, _)]) dX4_sum_22 (by decide) rfl ?_
        refine WP_iinc (ls' := [(0, _), (1, _), (2, _), (3, _)]) dX4_sum_23 rfl (by decide) rfl ?_
        have hv1910 : (i1901 + Int32.ofInt (1)).toInt = i1901.toInt + (1) := ia_n rfl (by omega) (by omega)
        generalize i1901 + Int32.ofInt (1) = v1910 at hv1910 ⊢
        refine WP_goto 4 dX4_sum_26 rfl ?_
        exact WP_sub (fc rfl (fc rfl (fc rfl (fc rfl fn)))) (ihlp4_1901 v1909 v1910 (by omega) (by omega) (by omega))
  exact WP_sub (fc rfl (fc rfl (fc rfl (fc rfl fn)))) (lp4_1901 _ v1898 v1899 (by omega) (by omega) (Nat.lt_succ_self _))
set_option maxHeartbeats 4000000 in
set_option maxRecDepth 100000 in
theorem sx_begin_53_6 {g : GG} {n : Int} {L : Int32} (hy : LyX g)  {I : pI} {J : pJ} {R : pR} (hr : RfX g R) (hI : XI g n L I)   (hn : 0 ≤ n) : SP g mX4_begin [.ref (ad g 53), .ref (ad g 6)] I J R (fun r I' J' R' => (XI g n L I' ∧ R' = R) ∧ r = none) := by
  refine SP_of ⟨by decide, rfl⟩ (Nat.le_of_ble_eq_true rfl) ?_
  have e1911 : I (ad g 1) 1 = L := hI.2
  have b1912 := BT_get hI.1 1 1 2 (0) (0) (900) (by decide) 1 (by decide) (by decide)
  rw [e1911] at b1912
  refine WP_aload_n dX4_begin_0 rfl ?_
  refine WQ_iconst (0) (0) dX4_begin_1 rfl rfl (fun v1913 hv1913 => ?_)
  refine WQ_puti dX4_begin_2 fX4_18 rfl rfl (lyx_is hy 53 4 rfl) (fun I1914 eI1914 => ?_)
  have hI1914 : XI g n L I1914 := by rw [eI1914]; exact (xi_f0 hy hI (c := 53) (by decide) (Or.inl (by decide)) (by decide))
  have e1915 : I1914 (ad g 1) 1 = L := by rw [eI1914, pp_ne _ _ (Or.inl (lyx_ne hy (by decide) (by decide) (by decide)))]; exact e1911
  have e1916 : I1914 (ad g 53) 0 = v1913 := by rw [eI1914, pp_self]
  clear eI1914
  refine WP_aload_n dX4_begin_5 rfl ?_
  refine WQ_iconst (0) (0) dX4_begin_6 rfl rfl (fun v1917 hv1917 => ?_)
  refine WQ_puti dX4_begin_7 fX4_22 rfl rfl (lyx_is hy 53 4 rfl) (fun I1918 eI1918 => ?_)
  have hI1918 : XI g n L I1918 := by rw [eI1918]; exact (xi_f hy hI1914 (c := 53) (0) (1663200) (0) (by decide) (Or.inl (by decide)) (by decide) (by omega) (by omega))
  have e1919 : I1918 (ad g 1) 1 = L := by rw [eI1918, pp_ne _ _ (Or.inl (lyx_ne hy (by decide) (by decide) (by decide)))]; exact e1915
  have e1920 : I1918 (ad g 53) 0 = v1913 := by rw [eI1918, pp_ne _ _ (Or.inr (by decide))]; exact e1916
  have e1921 : I1918 (ad g 53) 1 = v1917 := by rw [eI1918, pp_self]
  clear eI1918
  refine WP_aload_n dX4_begin_10 rfl ?_
  refine WQ_iconst (0) (0) dX4_begin_11 rfl rfl (fun v1922 hv1922 => ?_)
  refine WQ_puti dX4_begin_12 fX4_25 rfl rfl (lyx_is hy 53 4 rfl) (fun I1923 eI1923 => ?_)
  have hI1923 : XI g n L I1923 := by rw [eI1923]; exact (xi_f0 hy hI1918 (c := 53) (by decide) (Or.inl (by decide)) (by decide))
  have e1924 : I1923 (ad g 1) 1 = L := by rw [eI1923, pp_ne _ _ (Or.inl (lyx_ne hy (by decide) (by decide) (by decide)))]; exact e1919
  have e1925 : I1923 (ad g 53) 0 = v1913 := by rw [eI1923, pp_ne _ _ (Or.inr (by decide))]; exact e1920
  have e1926 : I1923 (ad g 53) 1 = v1917 := by rw [eI1923, pp_ne _ _ (Or.inr (by decide))]; exact e1921
  have e1927 : I1923 (ad g 53) 2 = v1922 := by rw [eI1923, pp_self]
  clear eI1923
  refine WP_aload_n dX4_begin_15 rfl ?_
  refine WP_lconst (0) dX4_begin_16 rfl ?_
  obtain ⟨l1928, hl1928, el1928⟩ : ∃ v : Int64, v.toInt = 0 ∧ (0 : Int64) = v := ⟨_, rfl, rfl⟩
  rw [el1928]; clear el1928
  refine WQ_putl dX4_begin_17 fX4_28 rfl rfl (lyx_is hy 53 4 rfl) (fun J1929 eJ1929 => ?_)
  clear eJ1929
  refine WP_aload_n dX4_begin_20 rfl ?_
  refine WP_getr dX4_begin_21 fX4_15 rfl (lyx_is hy 53 4 rfl) (rfx hr 53 5 55 (by decide)) ?_
  refine WQ_iconst (0) (0) dX4_begin_24 rfl rfl (fun v1930 hv1930 => ?_)
  refine WP_callS2u dX4_begin_25 ⟨⟨⟨by decide, by decide⟩, zJ7_fill_53178⟩, lX4_32, tJ7_fill_53178⟩ (s_fill hy hr 55 28 rfl rfl (by decide) v1930) (Nat.le_of_ble_eq_true rfl) ?_
  obtain ⟨I1931, eI1931⟩ : ∃ I9 : pI, I9 = fi I1923 (ad g 55) 28 v1930 := ⟨_, rfl⟩
  rw [← eI1931]
  have hI1931 : XI g n L I1931 := by rw [eI1931]; exact (fa_fill hy hI1923 (c := 55) 28 (by decide) hv1930)
  have e1932 : I1931 (ad g 1) 1 = L := by rw [eI1931, fi_off (lyx_ne hy (by decide) (by decide) (by decide))]; exact e1924
  have e1933 : I1931 (ad g 53) 0 = v1913 := by rw [eI1931, fi_off (lyx_ne hy (by decide) (by decide) (by decide))]; exact e1925
  have e1934 : I1931 (ad g 53) 1 = v1917 := by rw [eI1931, fi_off (lyx_ne hy (by decide) (by decide) (by decide))]; exact e1926
  have e1935 : I1931 (ad g 53) 2 = v1922 := by rw [eI1931, fi_off (lyx_ne hy (by decide) (by decide) (by decide))]; exact e1927
  clear eI1931
  refine WQ_iconst (0) (0) dX4_begin_28 rfl rfl (fun v1936 hv1936 => ?_)
  refine WP_istore_n (ls' := [(0, _), (1, _), (2, _)]) dX4_begin_29 (by decide) rfl ?_
  have lp30_1939 : ∀ (mz : Nat) (i1937 : Int32) (I1938 : pI) (J1939 : pJ), XI g n L I1938 → 0 ≤ i1937.toInt → i1937.toInt ≤ 4 → (5 - i1937.toInt).toNat < mz → WP g mX4_begin 30 [(0, .ref (ad g 53)), (1, .ref (ad g 6)), (2, .int i1937)] [] I1938 J1939 R (fun r I' J' R' => (XI g n L I' ∧ R' = R) ∧ r = none) := by
    intro mz
    induction mz with
    | zero =>
      intro i1937 I1938 J1939 hI1938 ai1937 bi1937 hmlp30_1939
      exact absurd hmlp30_1939 (Nat.not_lt_zero _)
    | succ mz ihlp30_1939 =>
      intro i1937 I1938 J1939 hI1938 ai1937 bi1937 hmlp30_1939
      have e1941 : I1938 (ad g 1) 1 = L := hI1938.2
      have b1942 := BT_get hI1938.1 1 1 2 (0) (0) (900) (by decide) 1 (by decide) (by decide)
      rw [e1941] at b1942
      refine WP_iload_n dX4_begin_30 rfl ?_
      refine WP_aload_n dX4_begin_31 rfl ?_
      refine WQ_geti dX4_begin_32 fX4_38 rfl (lyx_is hy 6 7 rfl) (BT_get hI1938.1 6 1 2 (0) (0) (4) (by decide) 1 (by decide) (by decide)) (fun v1943 ev1943 av1943 bv1943 => ?_)
      refine WQ_icmp_ge 61 dX4_begin_35 rfl (fun c1943 => ?_) (fun c1943 => ?_)
      · exact WP_vret dX4_begin_61 rfl ⟨⟨hI1938, rfl⟩, rfl⟩
      · refine WP_aload_n dX4_begin_38 rfl ?_
        refine WP_getr dX4_begin_39 fX4_15 rfl (lyx_is hy 53 4 rfl) (rfx hr 53 5 55 (by decide)) ?_
        refine WP_iload_n dX4_begin_42 rfl ?_
        refine WQ_bipush (7) (7) dX4_begin_43 rfl rfl (fun v1945 hv1945 => ?_)
        refine WQ_imulk (7) dX4_begin_45 hv1945 (by omega) (by omega) (fun v1946 hv1946 => ?_)
        refine WQ_iconst (0) (0) dX4_begin_46 rfl rfl (fun v1947 hv1947 => ?_)
        refine WQ_iadd dX4_begin_47 (by omega) (by omega) (fun v1948 hv1948 => ?_)
        refine WP_aload_n dX4_begin_48 rfl ?_
        refine WP_getr dX4_begin_49 fX4_43 rfl (lyx_is hy 6 7 rfl) (rfx hr 6 8 10 (by decide)) ?_
        refine WP_iload_n dX4_begin_52 rfl ?_
        refine WQ_iald dX4_begin_53 (lyx_is hy 10 13 rfl) (lyx_n hy 10 4 rfl) (by omega) (by omega) (fun q hq => BT_get hI1938.1 10 0 4 (0) (0) (60) (by decide) q (Nat.zero_le _) hq) (fun v1949 av1949 bv1949 ev1949 => ?_)
        clear ev1949
        refine WQ_iast dX4_begin_54 (lyx_is hy 55 13 rfl) (lyx_n hy 55 28 rfl) (by omega) (by omega) (fun I1950 eI1950 => ?_)
        have hI1950 : XI g n L I1950 := by rw [eI1950]; exact (fa_put hy hI1938 (c := 55) (k := 0) (s := i1937.toInt.toNat) (by decide) (by omega) (by decide) (by rw [cl (n := 7 * i1937.toInt.toNat + 0) (by omega)]) (fun _ => by omega) (fun _ => by omega))
        have e1951 : I1950 (ad g 1) 1 = L := by rw [eI1950, pp_ne _ _ (Or.inl (lyx_ne hy (by decide) (by decide) (by decide)))]; exact e1941
        have e1952 : I1950 (ad g 6) 1 = v1943 := by rw [eI1950, pp_ne _ _ (Or.inl (lyx_ne hy (by decide) (by decide) (by decide)))]; exact ev1943
        clear eI1950
        refine WP_iinc (ls' := [(0, _), (1, _), (2, _)]) dX4_begin_55 rfl (by decide) rfl ?_
        have hv1953 : (i1937 + Int32.ofInt (1)).toInt = i1937.toInt + (1) := ia_n rfl (by omega) (by omega)
        generalize i1937 + Int32.ofInt (1) = v1953 at hv1953 ⊢
        refine WP_goto 30 dX4_begin_58 rfl ?_
        exact WP_sub (fc rfl (fc rfl (fc rfl fn))) (ihlp30_1939 v1953 I1950 J1939 hI1950 (by omega) (by omega) (by omega))
  exact WP_sub (fc rfl (fc rfl (fc rfl fn))) (lp30_1939 _ v1936 I1931 J1929 hI1931 (by omega) (by omega) (Nat.lt_succ_self _))
set_option maxHeartbeats 4000000 in
set_option maxRecDepth 100000 in
theorem sx_begin_53_27 {g : GG} {n : Int} {L : Int32} (hy : LyX g)  {I : pI} {J : pJ} {R : pR} (hr : RfX g R) (hI : XI g n L I)   (hn : 0 ≤ n) : SP g mX4_begin [.ref (ad g 53), .ref (ad g 27)] I J R (fun r I' J' R' => (XI g n L I' ∧ R' = R) ∧ r = none) := by
  refine SP_of ⟨by decide, rfl⟩ (Nat.le_of_ble_eq_true rfl) ?_
  have e1954 : I (ad g 1) 1 = L := hI.2
  have b1955 := BT_get hI.1 1 1 2 (0) (0) (900) (by decide) 1 (by decide) (by decide)
  rw [e1954] at b1955
  refine WP_aload_n dX4_begin_0 rfl ?_
  refine WQ_iconst (0) (0) dX4_begin_1 rfl rfl (fun v1956 hv1956 => ?_)
  refine WQ_puti dX4_begin_2 fX4_18 rfl rfl (lyx_is hy 53 4 rfl) (fun I1957 eI1957 => ?_)
  have hI1957 : XI g n L I1957 := by rw [eI1957]; exact (xi_f0 hy hI (c := 53) (by decide) (Or.inl (by decide)) (by decide))
  have e1958 : I1957 (ad g 1) 1 = L := by rw [eI1957, pp_ne _ _ (Or.inl (lyx_ne hy (by decide) (by decide) (by decide)))]; exact e1954
  have e1959 : I1957 (ad g 53) 0 = v1956 := by rw [eI1957, pp_self]
  clear eI1957
  refine WP_aload_n dX4_begin_5 rfl ?_
  refine WQ_iconst (0) (0) dX4_begin_6 rfl rfl (fun v1960 hv1960 => ?_)
  refine WQ_puti dX4_begin_7 fX4_22 rfl rfl (lyx_is hy 53 4 rfl) (fun I1961 eI1961 => ?_)
  have hI1961 : XI g n L I1961 := by rw [eI1961]; exact (xi_f hy hI1957 (c := 53) (0) (1663200) (0) (by decide) (Or.inl (by decide)) (by decide) (by omega) (by omega))
  have e1962 : I1961 (ad g 1) 1 = L := by rw [eI1961, pp_ne _ _ (Or.inl (lyx_ne hy (by decide) (by decide) (by decide)))]; exact e1958
  have e1963 : I1961 (ad g 53) 0 = v1956 := by rw [eI1961, pp_ne _ _ (Or.inr (by decide))]; exact e1959
  have e1964 : I1961 (ad g 53) 1 = v1960 := by rw [eI1961, pp_self]
  clear eI1961
  refine WP_aload_n dX4_begin_10 rfl ?_
  refine WQ_iconst (0) (0) dX4_begin_11 rfl rfl (fun v1965 hv1965 => ?_)
  refine WQ_puti dX4_begin_12 fX4_25 rfl rfl (lyx_is hy 53 4 rfl) (fun I1966 eI1966 => ?_)
  have hI1966 : XI g n L I1966 := by rw [eI1966]; exact (xi_f0 hy hI1961 (c := 53) (by decide) (Or.inl (by decide)) (by decide))
  have e1967 : I1966 (ad g 1) 1 = L := by rw [eI1966, pp_ne _ _ (Or.inl (lyx_ne hy (by decide) (by decide) (by decide)))]; exact e1962
  have e1968 : I1966 (ad g 53) 0 = v1956 := by rw [eI1966, pp_ne _ _ (Or.inr (by decide))]; exact e1963
  have e1969 : I1966 (ad g 53) 1 = v1960 := by rw [eI1966, pp_ne _ _ (Or.inr (by decide))]; exact e1964
  have e1970 : I1966 (ad g 53) 2 = v1965 := by rw [eI1966, pp_self]
  clear eI1966
  refine WP_aload_n dX4_begin_15 rfl ?_
  refine WP_lconst (0) dX4_begin_16 rfl ?_
  obtain ⟨l1971, hl1971, el1971⟩ : ∃ v : Int64, v.toInt = 0 ∧ (0 : Int64) = v := ⟨_, rfl, rfl⟩
  rw [el1971]; clear el1971
  refine WQ_putl dX4_begin_17 fX4_28 rfl rfl (lyx_is hy 53 4 rfl) (fun J1972 eJ1972 => ?_)
  clear eJ1972
  refine WP_aload_n dX4_begin_20 rfl ?_
  refine WP_getr dX4_begin_21 fX4_15 rfl (lyx_is hy 53 4 rfl) (rfx hr 53 5 55 (by decide)) ?_
  refine WQ_iconst (0) (0) dX4_begin_24 rfl rfl (fun v1973 hv1973 => ?_)
  refine WP_callS2u dX4_begin_25 ⟨⟨⟨by decide, by decide⟩, zJ7_fill_53178⟩, lX4_32, tJ7_fill_53178⟩ (s_fill hy hr 55 28 rfl rfl (by decide) v1973) (Nat.le_of_ble_eq_true rfl) ?_
  obtain ⟨I1974, eI1974⟩ : ∃ I9 : pI, I9 = fi I1966 (ad g 55) 28 v1973 := ⟨_, rfl⟩
  rw [← eI1974]
  have hI1974 : XI g n L I1974 := by rw [eI1974]; exact (fa_fill hy hI1966 (c := 55) 28 (by decide) hv1973)
  have e1975 : I1974 (ad g 1) 1 = L := by rw [eI1974, fi_off (lyx_ne hy (by decide) (by decide) (by decide))]; exact e1967
  have e1976 : I1974 (ad g 53) 0 = v1956 := by rw [eI1974, fi_off (lyx_ne hy (by decide) (by decide) (by decide))]; exact e1968
  have e1977 : I1974 (ad g 53) 1 = v1960 := by rw [eI1974, fi_off (lyx_ne hy (by decide) (by decide) (by decide))]; exact e1969
  have e1978 : I1974 (ad g 53) 2 = v1965 := by rw [eI1974, fi_off (lyx_ne hy (by decide) (by decide) (by decide))]; exact e1970
  clear eI1974
  refine WQ_iconst (0) (0) dX4_begin_28 rfl rfl (fun v1979 hv1979 => ?_)
  refine WP_istore_n (ls' := [(0, _), (1, _), (2, _)]) dX4_begin_29 (by decide) rfl ?_
  have lp30_1982 : ∀ (mz : Nat) (i1980 : Int32) (I1981 : pI) (J1982 : pJ), XI g n L I1981 → 0 ≤ i1980.toInt → i1980.toInt ≤ 4 → (5 - i1980.toInt).toNat < mz → WP g mX4_begin 30 [(0, .ref (ad g 53)), (1, .ref (ad g 27)), (2, .int i1980)] [] I1981 J1982 R (fun r I' J' R' => (XI g n L I' ∧ R' = R) ∧ r = none) := by
    intro mz
    induction mz with
    | zero =>
      intro i1980 I1981 J1982 hI1981 ai1980 bi1980 hmlp30_1982
      exact absurd hmlp30_1982 (Nat.not_lt_zero _)
    | succ mz ihlp30_1982 =>
      intro i1980 I1981 J1982 hI1981 ai1980 bi1980 hmlp30_1982
      have e1984 : I1981 (ad g 1) 1 = L := hI1981.2
      have b1985 := BT_get hI1981.1 1 1 2 (0) (0) (900) (by decide) 1 (by decide) (by decide)
      rw [e1984] at b1985
      refine WP_iload_n dX4_begin_30 rfl ?_
      refine WP_aload_n dX4_begin_31 rfl ?_
      refine WQ_geti dX4_begin_32 fX4_38 rfl (lyx_is hy 27 7 rfl) (BT_get hI1981.1 27 1 2 (0) (0) (4) (by decide) 1 (by decide) (by decide)) (fun v1986 ev1986 av1986 bv1986 => ?_)
      refine WQ_icmp_ge 61 dX4_begin_35 rfl (fun c1986 => ?_) (fun c1986 => ?_)
      · exact WP_vret dX4_begin_61 rfl ⟨⟨hI1981, rfl⟩, rfl⟩
      · refine WP_aload_n dX4_begin_38 rfl ?_
        refine WP_getr dX4_begin_39 fX4_15 rfl (lyx_is hy 53 4 rfl) (rfx hr 53 5 55 (by decide)) ?_
        refine WP_iload_n dX4_begin_42 rfl ?_
        refine WQ_bipush (7) (7) dX4_begin_43 rfl rfl (fun v1988 hv1988 => ?_)
        refine WQ_imulk (7) dX4_begin_45 hv1988 (by omega) (by omega) (fun v1989 hv1989 => ?_)
        refine WQ_iconst (0) (0) dX4_begin_46 rfl rfl (fun v1990 hv1990 => ?_)
        refine WQ_iadd dX4_begin_47 (by omega) (by omega) (fun v1991 hv1991 => ?_)
        refine WP_aload_n dX4_begin_48 rfl ?_
        refine WP_getr dX4_begin_49 fX4_43 rfl (lyx_is hy 27 7 rfl) (rfx hr 27 8 31 (by decide)) ?_
        refine WP_iload_n dX4_begin_52 rfl ?_
        refine WQ_iald dX4_begin_53 (lyx_is hy 31 13 rfl) (lyx_n hy 31 4 rfl) (by omega) (by omega) (fun q hq => BT_get hI1981.1 31 0 4 (0) (0) (60) (by decide) q (Nat.zero_le _) hq) (fun v1992 av1992 bv1992 ev1992 => ?_)
        clear ev1992
        refine WQ_iast dX4_begin_54 (lyx_is hy 55 13 rfl) (lyx_n hy 55 28 rfl) (by omega) (by omega) (fun I1993 eI1993 => ?_)
        have hI1993 : XI g n L I1993 := by rw [eI1993]; exact (fa_put hy hI1981 (c := 55) (k := 0) (s := i1980.toInt.toNat) (by decide) (by omega) (by decide) (by rw [cl (n := 7 * i1980.toInt.toNat + 0) (by omega)]) (fun _ => by omega) (fun _ => by omega))
        have e1994 : I1993 (ad g 1) 1 = L := by rw [eI1993, pp_ne _ _ (Or.inl (lyx_ne hy (by decide) (by decide) (by decide)))]; exact e1984
        have e1995 : I1993 (ad g 27) 1 = v1986 := by rw [eI1993, pp_ne _ _ (Or.inl (lyx_ne hy (by decide) (by decide) (by decide)))]; exact ev1986
        clear eI1993
        refine WP_iinc (ls' := [(0, _), (1, _), (2, _)]) dX4_begin_55 rfl (by decide) rfl ?_
        have hv1996 : (i1980 + Int32.ofInt (1)).toInt = i1980.toInt + (1) := ia_n rfl (by omega) (by omega)
        generalize i1980 + Int32.ofInt (1) = v1996 at hv1996 ⊢
        refine WP_goto 30 dX4_begin_58 rfl ?_
        exact WP_sub (fc rfl (fc rfl (fc rfl fn))) (ihlp30_1982 v1996 I1993 J1982 hI1993 (by omega) (by omega) (by omega))
  exact WP_sub (fc rfl (fc rfl (fc rfl fn))) (lp30_1982 _ v1979 I1974 J1972 hI1974 (by omega) (by omega) (Nat.lt_succ_self _))
set_option maxHeartbeats 4000000 in
set_option maxRecDepth 100000 in
theorem sx_become_53_56 {g : GG} {n : Int} {L : Int32} (hy : LyX g)  {I : pI} {J : pJ} {R : pR} (hr : RfX g R) (hI : XI g n L I)   : SP g mX4_become [.ref (ad g 53), .ref (ad g 56)] I J R (fun r I' J' R' => (XI g n L I' ∧ R' = R) ∧ r = none) := by
  refine SP_of ⟨by decide, rfl⟩ (Nat.le_of_ble_eq_true rfl) ?_
  have e1997 : I (ad g 1) 1 = L := hI.2
  have b1998 := BT_get hI.1 1 1 2 (0) (0) (900) (by decide) 1 (by decide) (by decide)
  rw [e1997] at b1998
  refine WP_aload_n dX4_become_0 rfl ?_
  refine WP_aload_n dX4_become_1 rfl ?_
  refine WQ_getiu dX4_become_2 fX4_18 rfl (lyx_is hy 56 4 rfl) (fun v1999 ev1999 => ?_)
  refine WQ_puti dX4_become_5 fX4_18 rfl rfl (lyx_is hy 53 4 rfl) (fun I2000 eI2000 => ?_)
  have hI2000 : XI g n L I2000 := by rw [eI2000]; exact (xi_f0 hy hI (c := 53) (by decide) (Or.inl (by decide)) (by decide))
  have e2001 : I2000 (ad g 1) 1 = L := by rw [eI2000, pp_ne _ _ (Or.inl (lyx_ne hy (by decide) (by decide) (by decide)))]; exact e1997
  have e2002 : I2000 (ad g 56) 0 = v1999 := by rw [eI2000, pp_ne _ _ (Or.inl (lyx_ne hy (by decide) (by decide) (by decide)))]; exact ev1999
  have e2003 : I2000 (ad g 53) 0 = v1999 := by rw [eI2000, pp_self]
  clear eI2000
  refine WP_aload_n dX4_become_8 rfl ?_
  refine WP_aload_n dX4_become_9 rfl ?_
  refine WQ_geti dX4_become_10 fX4_22 rfl (lyx_is hy 56 4 rfl) (BT_get hI2000.1 56 1 2 (0) (1663200) (0) (by decide) 1 (by decide) (by decide)) (fun v2004 ev2004 av2004 bv2004 => ?_)
  refine WQ_puti dX4_become_13 fX4_22 rfl rfl (lyx_is hy 53 4 rfl) (fun I2005 eI2005 => ?_)
  have hI2005 : XI g n L I2005 := by rw [eI2005]; exact (xi_f hy hI2000 (c := 53) (0) (1663200) (0) (by decide) (Or.inl (by decide)) (by decide) (by omega) (by omega))
  have e2006 : I2005 (ad g 1) 1 = L := by rw [eI2005, pp_ne _ _ (Or.inl (lyx_ne hy (by decide) (by decide) (by decide)))]; exact e2001
  have e2007 : I2005 (ad g 56) 0 = v1999 := by rw [eI2005, pp_ne _ _ (Or.inl (lyx_ne hy (by decide) (by decide) (by decide)))]; exact e2002
  have e2008 : I2005 (ad g 53) 0 = v1999 := by rw [eI2005, pp_ne _ _ (Or.inr (by decide))]; exact e2003
  have e2009 : I2005 (ad g 56) 1 = v2004 := by rw [eI2005, pp_ne _ _ (Or.inl (lyx_ne hy (by decide) (by decide) (by decide)))]; exact ev2004
  have e2010 : I2005 (ad g 53) 1 = v2004 := by rw [eI2005, pp_self]
  clear eI2005
  refine WP_aload_n dX4_become_16 rfl ?_
  refine WP_aload_n dX4_become_17 rfl ?_
  refine WQ_getiu dX4_become_18 fX4_25 rfl (lyx_is hy 56 4 rfl) (fun v2011 ev2011 => ?_)
  refine WQ_puti dX4_become_21 fX4_25 rfl rfl (lyx_is hy 53 4 rfl) (fun I2012 eI2012 => ?_)
  have hI2012 : XI g n L I2012 := by rw [eI2012]; exact (xi_f0 hy hI2005 (c := 53) (by decide) (Or.inl (by decide)) (by decide))
  have e2013 : I2012 (ad g 1) 1 = L := by rw [eI2012, pp_ne _ _ (Or.inl (lyx_ne hy (by decide) (by decide) (by decide)))]; exact e2006
  have e2014 : I2012 (ad g 56) 0 = v1999 := by rw [eI2012, pp_ne _ _ (Or.inl (lyx_ne hy (by decide) (by decide) (by decide)))]; exact e2007
  have e2015 : I2012 (ad g 53) 0 = v1999 := by rw [eI2012, pp_ne _ _ (Or.inr (by decide))]; exact e2008
  have e2016 : I2012 (ad g 56) 1 = v2004 := by rw [eI2012, pp_ne _ _ (Or.inl (lyx_ne hy (by decide) (by decide) (by decide)))]; exact e2009
  have e2017 : I2012 (ad g 53) 1 = v2004 := by rw [eI2012, pp_ne _ _ (Or.inr (by decide))]; exact e2010
  have e2018 : I2012 (ad g 56) 2 = v2011 := by rw [eI2012, pp_ne _ _ (Or.inl (lyx_ne hy (by decide) (by decide) (by decide)))]; exact ev2011
  have e2019 : I2012 (ad g 53) 2 = v2011 := by rw [eI2012, pp_self]
  clear eI2012
  refine WP_aload_n dX4_become_24 rfl ?_
  refine WP_aload_n dX4_become_25 rfl ?_
  refine WQ_getl dX4_become_26 fX4_28 rfl (lyx_is hy 56 4 rfl) (fun l2020 el2020 => ?_)
  refine WQ_putl dX4_become_29 fX4_28 rfl rfl (lyx_is hy 53 4 rfl) (fun J2021 eJ2021 => ?_)
  clear eJ2021
  refine WP_aload_n dX4_become_32 rfl ?_
  refine WP_getr dX4_become_33 fX4_9 rfl (lyx_is hy 56 4 rfl) (rfx hr 56 4 57 (by decide)) ?_
  refine WQ_iconst (0) (0) dX4_become_36 rfl rfl (fun v2022 hv2022 => ?_)
  refine WP_aload_n dX4_become_37 rfl ?_
  refine WP_getr dX4_become_38 fX4_9 rfl (lyx_is hy 53 4 rfl) (rfx hr 53 4 54 (by decide)) ?_
  refine WQ_iconst (0) (0) dX4_become_41 rfl rfl (fun v2023 hv2023 => ?_)
  refine WP_aload_n dX4_become_42 rfl ?_
  refine WP_getr dX4_become_43 fX4_9 rfl (lyx_is hy 53 4 rfl) (rfx hr 53 4 54 (by decide)) ?_
  refine WP_alen dX4_become_46 (lyx_is hy 54 13 rfl) (by decide) ?_
  rw [(lyx_n hy 54 4 rfl)]
  obtain ⟨v2024, hv2024, ev2024⟩ : ∃ v : Int32, v.toInt = 4 ∧ nI 4 = v := ⟨_, nI_toInt (by decide), rfl⟩
  rw [ev2024]; clear ev2024
  refine WQ_copy0 (N := 4) dX4_become_47 lX4_46 ⟨by decide, Nat.le_of_ble_eq_true rfl⟩ (lyx_is hy 57 13 rfl) (lyx_is hy 54 13 rfl) hv2022 hv2023 hv2024 (lyx_n hy 57 4 rfl) (lyx_n hy 54 4 rfl) (fun I2025 fI2025 oI2025 => ?_)
  have hI2025 : XI g n L I2025 := xi_copy hy hI2012 57 54 4 (by decide) (by decide) fI2025 oI2025
  clear fI2025 oI2025
  have e2026 : I2025 (ad g 1) 1 = L := hI2025.2
  have b2027 := BT_get hI2025.1 1 1 2 (0) (0) (900) (by decide) 1 (by decide) (by decide)
  rw [e2026] at b2027
  refine WP_aload_n dX4_become_50 rfl ?_
  refine WP_getr dX4_become_51 fX4_15 rfl (lyx_is hy 56 4 rfl) (rfx hr 56 5 58 (by decide)) ?_
  refine WQ_iconst (0) (0) dX4_become_54 rfl rfl (fun v2028 hv2028 => ?_)
  refine WP_aload_n dX4_become_55 rfl ?_
  refine WP_getr dX4_become_56 fX4_15 rfl (lyx_is hy 53 4 rfl) (rfx hr 53 5 55 (by decide)) ?_
  refine WQ_iconst (0) (0) dX4_become_59 rfl rfl (fun v2029 hv2029 => ?_)
  refine WP_aload_n dX4_become_60 rfl ?_
  refine WP_getr dX4_become_61 fX4_15 rfl (lyx_is hy 53 4 rfl) (rfx hr 53 5 55 (by decide)) ?_
  refine WP_alen dX4_become_64 (lyx_is hy 55 13 rfl) (by decide) ?_
  rw [(lyx_n hy 55 28 rfl)]
  obtain ⟨v2030, hv2030, ev2030⟩ : ∃ v : Int32, v.toInt = 28 ∧ nI 28 = v := ⟨_, nI_toInt (by decide), rfl⟩
  rw [ev2030]; clear ev2030
  refine WQ_copy0 (N := 28) dX4_become_65 lX4_46 ⟨by decide, Nat.le_of_ble_eq_true rfl⟩ (lyx_is hy 58 13 rfl) (lyx_is hy 55 13 rfl) hv2028 hv2029 hv2030 (lyx_n hy 58 28 rfl) (lyx_n hy 55 28 rfl) (fun I2031 fI2031 oI2031 => ?_)
  have hI2031 : XI g n L I2031 := xi_copy hy hI2025 58 55 28 (by decide) (by decide) fI2031 oI2031
  clear fI2031 oI2031
  have e2032 : I2031 (ad g 1) 1 = L := hI2031.2
  have b2033 := BT_get hI2031.1 1 1 2 (0) (0) (900) (by decide) 1 (by decide) (by decide)
  rw [e2032] at b2033
  exact WP_vret dX4_become_68 rfl ⟨⟨hI2031, rfl⟩, rfl⟩
set_option maxHeartbeats 4000000 in
set_option maxRecDepth 100000 in
theorem sx_become_53_60 {g : GG} {n : Int} {L : Int32} (hy : LyX g)  {I : pI} {J : pJ} {R : pR} (hr : RfX g R) (hI : XI g n L I)   : SP g mX4_become [.ref (ad g 53), .ref (ad g 60)] I J R (fun r I' J' R' => (XI g n L I' ∧ R' = R) ∧ r = none) := by
  refine SP_of ⟨by decide, rfl⟩ (Nat.le_of_ble_eq_true rfl) ?_
  have e2034 : I (ad g 1) 1 = L := hI.2
  have b2035 := BT_get hI.1 1 1 2 (0) (0) (900) (by decide) 1 (by decide) (by decide)
  rw [e2034] at b2035
  refine WP_aload_n dX4_become_0 rfl ?_
  refine WP_aload_n dX4_become_1 rfl ?_
  refine WQ_getiu dX4_become_2 fX4_18 rfl (lyx_is hy 60 4 rfl) (fun v2036 ev2036 => ?_)
  refine WQ_puti dX4_become_5 fX4_18 rfl rfl (lyx_is hy 53 4 rfl) (fun I2037 eI2037 => ?_)
  have hI2037 : XI g n L I2037 := by rw [eI2037]; exact (xi_f0 hy hI (c := 53) (by decide) (Or.inl (by decide)) (by decide))
  have e2038 : I2037 (ad g 1) 1 = L := by rw [eI2037, pp_ne _ _ (Or.inl (lyx_ne hy (by decide) (by decide) (by decide)))]; exact e2034
  have e2039 : I2037 (ad g 60) 0 = v2036 := by rw [eI2037, pp_ne _ _ (Or.inl (lyx_ne hy (by decide) (by decide) (by decide)))]; exact ev2036
  have e2040 : I2037 (ad g 53) 0 = v2036 := by rw [eI2037, pp_self]
  clear eI2037
  refine WP_aload_n dX4_become_8 rfl ?_
  refine WP_aload_n dX4_become_9 rfl ?_
  refine WQ_geti dX4_become_10 fX4_22 rfl (lyx_is hy 60 4 rfl) (BT_get hI2037.1 60 1 2 (0) (1663200) (0) (by decide) 1 (by decide) (by decide)) (fun v2041 ev2041 av2041 bv2041 => ?_)
  refine WQ_puti dX4_become_13 fX4_22 rfl rfl (lyx_is hy 53 4 rfl) (fun I2042 eI2042 => ?_)
  have hI2042 : XI g n L I2042 := by rw [eI2042]; exact (xi_f hy hI2037 (c := 53) (0) (1663200) (0) (by decide) (Or.inl (by decide)) (by decide) (by omega) (by omega))
  have e2043 : I2042 (ad g 1) 1 = L := by rw [eI2042, pp_ne _ _ (Or.inl (lyx_ne hy (by decide) (by decide) (by decide)))]; exact e2038
  have e2044 : I2042 (ad g 60) 0 = v2036 := by rw [eI2042, pp_ne _ _ (Or.inl (lyx_ne hy (by decide) (by decide) (by decide)))]; exact e2039
  have e2045 : I2042 (ad g 53) 0 = v2036 := by rw [eI2042, pp_ne _ _ (Or.inr (by decide))]; exact e2040
  have e2046 : I2042 (ad g 60) 1 = v2041 := by rw [eI2042, pp_ne _ _ (Or.inl (lyx_ne hy (by decide) (by decide) (by decide)))]; exact ev2041
  have e2047 : I2042 (ad g 53) 1 = v2041 := by rw [eI2042, pp_self]
  clear eI2042
  refine WP_aload_n dX4_become_16 rfl ?_
  refine WP_aload_n dX4_become_17 rfl ?_
  refine WQ_getiu dX4_become_18 fX4_25 rfl (lyx_is hy 60 4 rfl) (fun v2048 ev2048 => ?_)
  refine WQ_puti dX4_become_21 fX4_25 rfl rfl (lyx_is hy 53 4 rfl) (fun I2049 eI2049 => ?_)
  have hI2049 : XI g n L I2049 := by rw [eI2049]; exact (xi_f0 hy hI2042 (c := 53) (by decide) (Or.inl (by decide)) (by decide))
  have e2050 : I2049 (ad g 1) 1 = L := by rw [eI2049, pp_ne _ _ (Or.inl (lyx_ne hy (by decide) (by decide) (by decide)))]; exact e2043
  have e2051 : I2049 (ad g 60) 0 = v2036 := by rw [eI2049, pp_ne _ _ (Or.inl (lyx_ne hy (by decide) (by decide) (by decide)))]; exact e2044
  have e2052 : I2049 (ad g 53) 0 = v2036 := by rw [eI2049, pp_ne _ _ (Or.inr (by decide))]; exact e2045
  have e2053 : I2049 (ad g 60) 1 = v2041 := by rw [eI2049, pp_ne _ _ (Or.inl (lyx_ne hy (by decide) (by decide) (by decide)))]; exact e2046
  have e2054 : I2049 (ad g 53) 1 = v2041 := by rw [eI2049, pp_ne _ _ (Or.inr (by decide))]; exact e2047
  have e2055 : I2049 (ad g 60) 2 = v2048 := by rw [eI2049, pp_ne _ _ (Or.inl (lyx_ne hy (by decide) (by decide) (by decide)))]; exact ev2048
  have e2056 : I2049 (ad g 53) 2 = v2048 := by rw [eI2049, pp_self]
  clear eI2049
  refine WP_aload_n dX4_become_24 rfl ?_
  refine WP_aload_n dX4_become_25 rfl ?_
  refine WQ_getl dX4_become_26 fX4_28 rfl (lyx_is hy 60 4 rfl) (fun l2057 el2057 => ?_)
  refine WQ_putl dX4_become_29 fX4_28 rfl rfl (lyx_is hy 53 4 rfl) (fun J2058 eJ2058 => ?_)
  clear eJ2058
  refine WP_aload_n dX4_become_32 rfl ?_
  refine WP_getr dX4_become_33 fX4_9 rfl (lyx_is hy 60 4 rfl) (rfx hr 60 4 61 (by decide)) ?_
  refine WQ_iconst (0) (0) dX4_become_36 rfl rfl (fun v2059 hv2059 => ?_)
  refine WP_aload_n dX4_become_37 rfl ?_
  refine WP_getr dX4_become_38 fX4_9 rfl (lyx_is hy 53 4 rfl) (rfx hr 53 4 54 (by decide)) ?_
  refine WQ_iconst (0) (0) dX4_become_41 rfl rfl (fun v2060 hv2060 => ?_)
  refine WP_aload_n dX4_become_42 rfl ?_
  refine WP_getr dX4_become_43 fX4_9 rfl (lyx_is hy 53 4 rfl) (rfx hr 53 4 54 (by decide)) ?_
  refine WP_alen dX4_become_46 (lyx_is hy 54 13 rfl) (by decide) ?_
  rw [(lyx_n hy 54 4 rfl)]
  obtain ⟨v2061, hv2061, ev2061⟩ : ∃ v : Int32, v.toInt = 4 ∧ nI 4 = v := ⟨_, nI_toInt (by decide), rfl⟩
  rw [ev2061]; clear ev2061
  refine WQ_copy0 (N := 4) dX4_become_47 lX4_46 ⟨by decide, Nat.le_of_ble_eq_true rfl⟩ (lyx_is hy 61 13 rfl) (lyx_is hy 54 13 rfl) hv2059 hv2060 hv2061 (lyx_n hy 61 4 rfl) (lyx_n hy 54 4 rfl) (fun I2062 fI2062 oI2062 => ?_)
  have hI2062 : XI g n L I2062 := xi_copy hy hI2049 61 54 4 (by decide) (by decide) fI2062 oI2062
  clear fI2062 oI2062
  have e2063 : I2062 (ad g 1) 1 = L := hI2062.2
  have b2064 := BT_get hI2062.1 1 1 2 (0) (0) (900) (by decide) 1 (by decide) (by decide)
  rw [e2063] at b2064
  refine WP_aload_n dX4_become_50 rfl ?_
  refine WP_getr dX4_become_51 fX4_15 rfl (lyx_is hy 60 4 rfl) (rfx hr 60 5 62 (by decide)) ?_
  refine WQ_iconst (0) (0) dX4_become_54 rfl rfl (fun v2065 hv2065 => ?_)
  refine WP_aload_n dX4_become_55 rfl ?_
  refine WP_getr dX4_become_56 fX4_15 rfl (lyx_is hy 53 4 rfl) (rfx hr 53 5 55 (by decide)) ?_
  refine WQ_iconst (0) (0) dX4_become_59 rfl rfl (fun v2066 hv2066 => ?_)
  refine WP_aload_n dX4_become_60 rfl ?_
  refine WP_getr dX4_become_61 fX4_15 rfl (lyx_is hy 53 4 rfl) (rfx hr 53 5 55 (by decide)) ?_
  refine WP_alen dX4_become_64 (lyx_is hy 55 13 rfl) (by decide) ?_
  rw [(lyx_n hy 55 28 rfl)]
  obtain ⟨v2067, hv2067, ev2067⟩ : ∃ v : Int32, v.toInt = 28 ∧ nI 28 = v := ⟨_, nI_toInt (by decide), rfl⟩
  rw [ev2067]; clear ev2067
  refine WQ_copy0 (N := 28) dX4_become_65 lX4_46 ⟨by decide, Nat.le_of_ble_eq_true rfl⟩ (lyx_is hy 62 13 rfl) (lyx_is hy 55 13 rfl) hv2065 hv2066 hv2067 (lyx_n hy 62 28 rfl) (lyx_n hy 55 28 rfl) (fun I2068 fI2068 oI2068 => ?_)
  have hI2068 : XI g n L I2068 := xi_copy hy hI2062 62 55 28 (by decide) (by decide) fI2068 oI2068
  clear fI2068 oI2068
  have e2069 : I2068 (ad g 1) 1 = L := hI2068.2
  have b2070 := BT_get hI2068.1 1 1 2 (0) (0) (900) (by decide) 1 (by decide) (by decide)
  rw [e2069] at b2070
  exact WP_vret dX4_become_68 rfl ⟨⟨hI2068, rfl⟩, rfl⟩
set_option maxHeartbeats 4000000 in
set_option maxRecDepth 100000 in
theorem sx_become_53_63 {g : GG} {n : Int} {L : Int32} (hy : LyX g)  {I : pI} {J : pJ} {R : pR} (hr : RfX g R) (hI : XI g n L I)   : SP g mX4_become [.ref (ad g 53), .ref (ad g 63)] I J R (fun r I' J' R' => (XI g n L I' ∧ R' = R) ∧ r = none) := by
  refine SP_of ⟨by decide, rfl⟩ (Nat.le_of_ble_eq_true rfl) ?_
  have e2071 : I (ad g 1) 1 = L := hI.2
  have b2072 := BT_get hI.1 1 1 2 (0) (0) (900) (by decide) 1 (by decide) (by decide)
  rw [e2071] at b2072
  refine WP_aload_n dX4_become_0 rfl ?_
  refine WP_aload_n dX4_become_1 rfl ?_
  refine WQ_getiu dX4_become_2 fX4_18 rfl (lyx_is hy 63 4 rfl) (fun v2073 ev2073 => ?_)
  refine WQ_puti dX4_become_5 fX4_18 rfl rfl (lyx_is hy 53 4 rfl) (fun I2074 eI2074 => ?_)
  have hI2074 : XI g n L I2074 := by rw [eI2074]; exact (xi_f0 hy hI (c := 53) (by decide) (Or.inl (by decide)) (by decide))
  have e2075 : I2074 (ad g 1) 1 = L := by rw [eI2074, pp_ne _ _ (Or.inl (lyx_ne hy (by decide) (by decide) (by decide)))]; exact e2071
  have e2076 : I2074 (ad g 63) 0 = v2073 := by rw [eI2074, pp_ne _ _ (Or.inl (lyx_ne hy (by decide) (by decide) (by decide)))]; exact ev2073
  have e2077 : I2074 (ad g 53) 0 = v2073 := by rw [eI2074, pp_self]
  clear eI2074
  refine WP_aload_n dX4_become_8 rfl ?_
  refine WP_aload_n dX4_become_9 rfl ?_
  refine WQ_geti dX4_become_10 fX4_22 rfl (lyx_is hy 63 4 rfl) (BT_get hI2074.1 63 1 2 (0) (1663200) (0) (by decide) 1 (by decide) (by decide)) (fun v2078 ev2078 av2078 bv2078 => ?_)
  refine WQ_puti dX4_become_13 fX4_22 rfl rfl (lyx_is hy 53 4 rfl) (fun I2079 eI2079 => ?_)
  have hI2079 : XI g n L I2079 := by rw [eI2079]; exact (xi_f hy hI2074 (c := 53) (0) (1663200) (0) (by decide) (Or.inl (by decide)) (by decide) (by omega) (by omega))
  have e2080 : I2079 (ad g 1) 1 = L := by rw [eI2079, pp_ne _ _ (Or.inl (lyx_ne hy (by decide) (by decide) (by decide)))]; exact e2075
  have e2081 : I2079 (ad g 63) 0 = v2073 := by rw [eI2079, pp_ne _ _ (Or.inl (lyx_ne hy (by decide) (by decide) (by decide)))]; exact e2076
  have e2082 : I2079 (ad g 53) 0 = v2073 := by rw [eI2079, pp_ne _ _ (Or.inr (by decide))]; exact e2077
  have e2083 : I2079 (ad g 63) 1 = v2078 := by rw [eI2079, pp_ne _ _ (Or.inl (lyx_ne hy (by decide) (by decide) (by decide)))]; exact ev2078
  have e2084 : I2079 (ad g 53) 1 = v2078 := by rw [eI2079, pp_self]
  clear eI2079
  refine WP_aload_n dX4_become_16 rfl ?_
  refine WP_aload_n dX4_become_17 rfl ?_
  refine WQ_getiu dX4_become_18 fX4_25 rfl (lyx_is hy 63 4 rfl) (fun v2085 ev2085 => ?_)
  refine WQ_puti dX4_become_21 fX4_25 rfl rfl (lyx_is hy 53 4 rfl) (fun I2086 eI2086 => ?_)
  have hI2086 : XI g n L I2086 := by rw [eI2086]; exact (xi_f0 hy hI2079 (c := 53) (by decide) (Or.inl (by decide)) (by decide))
  have e2087 : I2086 (ad g 1) 1 = L := by rw [eI2086, pp_ne _ _ (Or.inl (lyx_ne hy (by decide) (by decide) (by decide)))]; exact e2080
  have e2088 : I2086 (ad g 63) 0 = v2073 := by rw [eI2086, pp_ne _ _ (Or.inl (lyx_ne hy (by decide) (by decide) (by decide)))]; exact e2081
  have e2089 : I2086 (ad g 53) 0 = v2073 := by rw [eI2086, pp_ne _ _ (Or.inr (by decide))]; exact e2082
  have e2090 : I2086 (ad g 63) 1 = v2078 := by rw [eI2086, pp_ne _ _ (Or.inl (lyx_ne hy (by decide) (by decide) (by decide)))]; exact e2083
  have e2091 : I2086 (ad g 53) 1 = v2078 := by rw [eI2086, pp_ne _ _ (Or.inr (by decide))]; exact e2084
  have e2092 : I2086 (ad g 63) 2 = v2085 := by rw [eI2086, pp_ne _ _ (Or.inl (lyx_ne hy (by decide) (by decide) (by decide)))]; exact ev2085
  have e2093 : I2086 (ad g 53) 2 = v2085 := by rw [eI2086, pp_self]
  clear eI2086
  refine WP_aload_n dX4_become_24 rfl ?_
  refine WP_aload_n dX4_become_25 rfl ?_
  refine WQ_getl dX4_become_26 fX4_28 rfl (lyx_is hy 63 4 rfl) (fun l2094 el2094 => ?_)
  refine WQ_putl dX4_become_29 fX4_28 rfl rfl (lyx_is hy 53 4 rfl) (fun J2095 eJ2095 => ?_)
  clear eJ2095
  refine WP_aload_n dX4_become_32 rfl ?_
  refine WP_getr dX4_become_33 fX4_9 rfl (lyx_is hy 63 4 rfl) (rfx hr 63 4 64 (by decide)) ?_
  refine WQ_iconst (0) (0) dX4_become_36 rfl rfl (fun v2096 hv2096 => ?_)
  refine WP_aload_n dX4_become_37 rfl ?_
  refine WP_getr dX4_become_38 fX4_9 rfl (lyx_is hy 53 4 rfl) (rfx hr 53 4 54 (by decide)) ?_
  refine WQ_iconst (0) (0) dX4_become_41 rfl rfl (fun v2097 hv2097 => ?_)
  refine WP_aload_n dX4_become_42 rfl ?_
  refine WP_getr dX4_become_43 fX4_9 rfl (lyx_is hy 53 4 rfl) (rfx hr 53 4 54 (by decide)) ?_
  refine WP_alen dX4_become_46 (lyx_is hy 54 13 rfl) (by decide) ?_
  rw [(lyx_n hy 54 4 rfl)]
  obtain ⟨v2098, hv2098, ev2098⟩ : ∃ v : Int32, v.toInt = 4 ∧ nI 4 = v := ⟨_, nI_toInt (by decide), rfl⟩
  rw [ev2098]; clear ev2098
  refine WQ_copy0 (N := 4) dX4_become_47 lX4_46 ⟨by decide, Nat.le_of_ble_eq_true rfl⟩ (lyx_is hy 64 13 rfl) (lyx_is hy 54 13 rfl) hv2096 hv2097 hv2098 (lyx_n hy 64 4 rfl) (lyx_n hy 54 4 rfl) (fun I2099 fI2099 oI2099 => ?_)
  have hI2099 : XI g n L I2099 := xi_copy hy hI2086 64 54 4 (by decide) (by decide) fI2099 oI2099
  clear fI2099 oI2099
  have e2100 : I2099 (ad g 1) 1 = L := hI2099.2
  have b2101 := BT_get hI2099.1 1 1 2 (0) (0) (900) (by decide) 1 (by decide) (by decide)
  rw [e2100] at b2101
  refine WP_aload_n dX4_become_50 rfl ?_
  refine WP_getr dX4_become_51 fX4_15 rfl (lyx_is hy 63 4 rfl) (rfx hr 63 5 65 (by decide)) ?_
  refine WQ_iconst (0) (0) dX4_become_54 rfl rfl (fun v2102 hv2102 => ?_)
  refine WP_aload_n dX4_become_55 rfl ?_
  refine WP_getr dX4_become_56 fX4_15 rfl (lyx_is hy 53 4 rfl) (rfx hr 53 5 55 (by decide)) ?_
  refine WQ_iconst (0) (0) dX4_become_59 rfl rfl (fun v2103 hv2103 => ?_)
  refine WP_aload_n dX4_become_60 rfl ?_
  refine WP_getr dX4_become_61 fX4_15 rfl (lyx_is hy 53 4 rfl) (rfx hr 53 5 55 (by decide)) ?_
  refine WP_alen dX4_become_64 (lyx_is hy 55 13 rfl) (by decide) ?_
  rw [(lyx_n hy 55 28 rfl)]
  obtain ⟨v2104, hv2104, ev2104⟩ : ∃ v : Int32, v.toInt = 28 ∧ nI 28 = v := ⟨_, nI_toInt (by decide), rfl⟩
  rw [ev2104]; clear ev2104
  refine WQ_copy0 (N := 28) dX4_become_65 lX4_46 ⟨by decide, Nat.le_of_ble_eq_true rfl⟩ (lyx_is hy 65 13 rfl) (lyx_is hy 55 13 rfl) hv2102 hv2103 hv2104 (lyx_n hy 65 28 rfl) (lyx_n hy 55 28 rfl) (fun I2105 fI2105 oI2105 => ?_)
  have hI2105 : XI g n L I2105 := xi_copy hy hI2099 65 55 28 (by decide) (by decide) fI2105 oI2105
  clear fI2105 oI2105
  have e2106 : I2105 (ad g 1) 1 = L := hI2105.2
  have b2107 := BT_get hI2105.1 1 1 2 (0) (0) (900) (by decide) 1 (by decide) (by decide)
  rw [e2106] at b2107
  exact WP_vret dX4_become_68 rfl ⟨⟨hI2105, rfl⟩, rfl⟩
set_option maxHeartbeats 4000000 in
set_option maxRecDepth 100000 in
theorem sx_become_53_66 {g : GG} {n : Int} {L : Int32} (hy : LyX g)  {I : pI} {J : pJ} {R : pR} (hr : RfX g R) (hI : XI g n L I)   : SP g mX4_become [.ref (ad g 53), .ref (ad g 66)] I J R (fun r I' J' R' => (XI g n L I' ∧ R' = R) ∧ r = none) := by
  refine SP_of ⟨by decide, rfl⟩ (Nat.le_of_ble_eq_true rfl) ?_
  have e2108 : I (ad g 1) 1 = L := hI.2
  have b2109 := BT_get hI.1 1 1 2 (0) (0) (900) (by decide) 1 (by decide) (by decide)
  rw [e2108] at b2109
  refine WP_aload_n dX4_become_0 rfl ?_
  refine WP_aload_n dX4_become_1 rfl ?_
  refine WQ_getiu dX4_become_2 fX4_18 rfl (lyx_is hy 66 4 rfl) (fun v2110 ev2110 => ?_)
  refine WQ_puti dX4_become_5 fX4_18 rfl rfl (lyx_is hy 53 4 rfl) (fun I2111 eI2111 => ?_)
  have hI2111 : XI g n L I2111 := by rw [eI2111]; exact (xi_f0 hy hI (c := 53) (by decide) (Or.inl (by decide)) (by decide))
  have e2112 : I2111 (ad g 1) 1 = L := by rw [eI2111, pp_ne _ _ (Or.inl (lyx_ne hy (by decide) (by decide) (by decide)))]; exact e2108
  have e2113 : I2111 (ad g 66) 0 = v2110 := by rw [eI2111, pp_ne _ _ (Or.inl (lyx_ne hy (by decide) (by decide) (by decide)))]; exact ev2110
  have e2114 : I2111 (ad g 53) 0 = v2110 := by rw [eI2111, pp_self]
  clear eI2111
  refine WP_aload_n dX4_become_8 rfl ?_
  refine WP_aload_n dX4_become_9 rfl ?_
  refine WQ_geti dX4_become_10 fX4_22 rfl (lyx_is hy 66 4 rfl) (BT_get hI2111.1 66 1 2 (0) (1663200) (0) (by decide) 1 (by decide) (by decide)) (fun v2115 ev2115 av2115 bv2115 => ?_)
  refine WQ_puti dX4_become_13 fX4_22 rfl rfl (lyx_is hy 53 4 rfl) (fun I2116 eI2116 => ?_)
  have hI2116 : XI g n L I2116 := by rw [eI2116]; exact (xi_f hy hI2111 (c := 53) (0) (1663200) (0) (by decide) (Or.inl (by decide)) (by decide) (by omega) (by omega))
  have e2117 : I2116 (ad g 1) 1 = L := by rw [eI2116, pp_ne _ _ (Or.inl (lyx_ne hy (by decide) (by decide) (by decide)))]; exact e2112
  have e2118 : I2116 (ad g 66) 0 = v2110 := by rw [eI2116, pp_ne _ _ (Or.inl (lyx_ne hy (by decide) (by decide) (by decide)))]; exact e2113
  have e2119 : I2116 (ad g 53) 0 = v2110 := by rw [eI2116, pp_ne _ _ (Or.inr (by decide))]; exact e2114
  have e2120 : I2116 (ad g 66) 1 = v2115 := by rw [eI2116, pp_ne _ _ (Or.inl (lyx_ne hy (by decide) (by decide) (by decide)))]; exact ev2115
  have e2121 : I2116 (ad g 53) 1 = v2115 := by rw [eI2116, pp_self]
  clear eI2116
  refine WP_aload_n dX4_become_16 rfl ?_
  refine WP_aload_n dX4_become_17 rfl ?_
  refine WQ_getiu dX4_become_18 fX4_25 rfl (lyx_is hy 66 4 rfl) (fun v2122 ev2122 => ?_)
  refine WQ_puti dX4_become_21 fX4_25 rfl rfl (lyx_is hy 53 4 rfl) (fun I2123 eI2123 => ?_)
  have hI2123 : XI g n L I2123 := by rw [eI2123]; exact (xi_f0 hy hI2116 (c := 53) (by decide) (Or.inl (by decide)) (by decide))
  have e2124 : I2123 (ad g 1) 1 = L := by rw [eI2123, pp_ne _ _ (Or.inl (lyx_ne hy (by decide) (by decide) (by decide)))]; exact e2117
  have e2125 : I2123 (ad g 66) 0 = v2110 := by rw [eI2123, pp_ne _ _ (Or.inl (lyx_ne hy (by decide) (by decide) (by decide)))]; exact e2118
  have e2126 : I2123 (ad g 53) 0 = v2110 := by rw [eI2123, pp_ne _ _ (Or.inr (by decide))]; exact e2119
  have e2127 : I2123 (ad g 66) 1 = v2115 := by rw [eI2123, pp_ne _ _ (Or.inl (lyx_ne hy (by decide) (by decide) (by decide)))]; exact e2120
  have e2128 : I2123 (ad g 53) 1 = v2115 := by rw [eI2123, pp_ne _ _ (Or.inr (by decide))]; exact e2121
  have e2129 : I2123 (ad g 66) 2 = v2122 := by rw [eI2123, pp_ne _ _ (Or.inl (lyx_ne hy (by decide) (by decide) (by decide)))]; exact ev2122
  have e2130 : I2123 (ad g 53) 2 = v2122 := by rw [eI2123, pp_self]
  clear eI2123
  refine WP_aload_n dX4_become_24 rfl ?_
  refine WP_aload_n dX4_become_25 rfl ?_
  refine WQ_getl dX4_become_26 fX4_28 rfl (lyx_is hy 66 4 rfl) (fun l2131 el2131 => ?_)
  refine WQ_putl dX4_become_29 fX4_28 rfl rfl (lyx_is hy 53 4 rfl) (fun J2132 eJ2132 => ?_)
  clear eJ2132
  refine WP_aload_n dX4_become_32 rfl ?_
  refine WP_getr dX4_become_33 fX4_9 rfl (lyx_is hy 66 4 rfl) (rfx hr 66 4 67 (by decide)) ?_
  refine WQ_iconst (0) (0) dX4_become_36 rfl rfl (fun v2133 hv2133 => ?_)
  refine WP_aload_n dX4_become_37 rfl ?_
  refine WP_getr dX4_become_38 fX4_9 rfl (lyx_is hy 53 4 rfl) (rfx hr 53 4 54 (by decide)) ?_
  refine WQ_iconst (0) (0) dX4_become_41 rfl rfl (fun v2134 hv2134 => ?_)
  refine WP_aload_n dX4_become_42 rfl ?_
  refine WP_getr dX4_become_43 fX4_9 rfl (lyx_is hy 53 4 rfl) (rfx hr 53 4 54 (by decide)) ?_
  refine WP_alen dX4_become_46 (lyx_is hy 54 13 rfl) (by decide) ?_
  rw [(lyx_n hy 54 4 rfl)]
  obtain ⟨v2135, hv2135, ev2135⟩ : ∃ v : Int32, v.toInt = 4 ∧ nI 4 = v := ⟨_, nI_toInt (by decide), rfl⟩
  rw [ev2135]; clear ev2135
  refine WQ_copy0 (N := 4) dX4_become_47 lX4_46 ⟨by decide, Nat.le_of_ble_eq_true rfl⟩ (lyx_is hy 67 13 rfl) (lyx_is hy 54 13 rfl) hv2133 hv2134 hv2135 (lyx_n hy 67 4 rfl) (lyx_n hy 54 4 rfl) (fun I2136 fI2136 oI2136 => ?_)
  have hI2136 : XI g n L I2136 := xi_copy hy hI2123 67 54 4 (by decide) (by decide) fI2136 oI2136
  clear fI2136 oI2136
  have e2137 : I2136 (ad g 1) 1 = L := hI2136.2
  have b2138 := BT_get hI2136.1 1 1 2 (0) (0) (900) (by decide) 1 (by decide) (by decide)
  rw [e2137] at b2138
  refine WP_aload_n dX4_become_50 rfl ?_
  refine WP_getr dX4_become_51 fX4_15 rfl (lyx_is hy 66 4 rfl) (rfx hr 66 5 68 (by decide)) ?_
  refine WQ_iconst (0) (0) dX4_become_54 rfl rfl (fun v2139 hv2139 => ?_)
  refine WP_aload_n dX4_become_55 rfl ?_
  refine WP_getr dX4_become_56 fX4_15 rfl (lyx_is hy 53 4 rfl) (rfx hr 53 5 55 (by decide)) ?_
  refine WQ_iconst (0) (0) dX4_become_59 rfl rfl (fun v2140 hv2140 => ?_)
  refine WP_aload_n dX4_become_60 rfl ?_
  refine WP_getr dX4_become_61 fX4_15 rfl (lyx_is hy 53 4 rfl) (rfx hr 53 5 55 (by decide)) ?_
  refine WP_alen dX4_become_64 (lyx_is hy 55 13 rfl) (by decide) ?_
  rw [(lyx_n hy 55 28 rfl)]
  obtain ⟨v2141, hv2141, ev2141⟩ : ∃ v : Int32, v.toInt = 28 ∧ nI 28 = v := ⟨_, nI_toInt (by decide), rfl⟩
  rw [ev2141]; clear ev2141
  refine WQ_copy0 (N := 28) dX4_become_65 lX4_46 ⟨by decide, Nat.le_of_ble_eq_true rfl⟩ (lyx_is hy 68 13 rfl) (lyx_is hy 55 13 rfl) hv2139 hv2140 hv2141 (lyx_n hy 68 28 rfl) (lyx_n hy 55 28 rfl) (fun I2142 fI2142 oI2142 => ?_)
  have hI2142 : XI g n L I2142 := xi_copy hy hI2136 68 55 28 (by decide) (by decide) fI2142 oI2142
  clear fI2142 oI2142
  have e2143 : I2142 (ad g 1) 1 = L := hI2142.2
  have b2144 := BT_get hI2142.1 1 1 2 (0) (0) (900) (by decide) 1 (by decide) (by decide)
  rw [e2143] at b2144
  exact WP_vret dX4_become_68 rfl ⟨⟨hI2142, rfl⟩, rfl⟩
set_option maxHeartbeats 4000000 in
set_option maxRecDepth 100000 in
theorem sx_sum_56 {g : GG} {n : Int} {L : Int32} (hy : LyX g)  {I : pI} {J : pJ} {R : pR} (hr : RfX g R) (hI : XI g n L I) (wh : Int32) (wh_lo : 0 ≤ wh.toInt) (wh_hi : wh.toInt ≤ 6) : SP g mX4_sum [.ref (ad g 56), .int wh] I J R (fun r I' J' R' => (I' = I ∧ J' = J ∧ R' = R) ∧ ∃ v : Int32, r = some (.int v)) := by
  refine SP_of ⟨by decide, rfl⟩ (Nat.le_of_ble_eq_true rfl) ?_
  have e2145 : I (ad g 1) 1 = L := hI.2
  have b2146 := BT_get hI.1 1 1 2 (0) (0) (900) (by decide) 1 (by decide) (by decide)
  rw [e2145] at b2146
  refine WQ_iconst (0) (0) dX4_sum_0 rfl rfl (fun v2147 hv2147 => ?_)
  refine WP_istore_n (ls' := [(0, _), (1, _), (2, _)]) dX4_sum_1 (by decide) rfl ?_
  refine WQ_iconst (0) (0) dX4_sum_2 rfl rfl (fun v2148 hv2148 => ?_)
  refine WP_istore_n (ls' := [(0, _), (1, _), (2, _), (3, _)]) dX4_sum_3 (by decide) rfl ?_
  have lp4_2150 : ∀ (mz : Nat) (i2149 : Int32) (i2150 : Int32), 0 ≤ i2150.toInt → i2150.toInt ≤ 4 → (5 - i2150.toInt).toNat < mz → WP g mX4_sum 4 [(0, .ref (ad g 56)), (1, .int wh), (2, .int i2149), (3, .int i2150)] [] I J R (fun r I' J' R' => (I' = I ∧ J' = J ∧ R' = R) ∧ ∃ v : Int32, r = some (.int v)) := by
    intro mz
    induction mz with
    | zero =>
      intro i2149 i2150 ai2150 bi2150 hmlp4_2150
      exact absurd hmlp4_2150 (Nat.not_lt_zero _)
    | succ mz ihlp4_2150 =>
      intro i2149 i2150 ai2150 bi2150 hmlp4_2150
      refine WP_iload_n dX4_sum_4 rfl ?_
      refine WQ_iconst (4) (4) dX4_sum_5 rfl rfl (fun v2152 hv2152 => ?_)
      refine WQ_icmp_ge 29 dX4_sum_6 rfl (fun c2152 => ?_) (fun c2152 => ?_)
      · refine WP_iload_n dX4_sum_29 rfl ?_
        exact WP_iret dX4_sum_30 rfl ⟨⟨rfl, rfl, rfl⟩, _, rfl⟩
      · refine WP_iload_n dX4_sum_9 rfl ?_
        refine WP_aload_n dX4_sum_10 rfl ?_
        refine WP_getr dX4_sum_11 fX4_15 rfl (lyx_is hy 56 4 rfl) (rfx hr 56 5 58 (by decide)) ?_
        refine WP_iload_n dX4_sum_14 rfl ?_
        refine WQ_bipush (7) (7) dX4_sum_15 rfl rfl (fun v2154 hv2154 => ?_)
        refine WQ_imulk (7) dX4_sum_17 hv2154 (by omega) (by omega) (fun v2155 hv2155 => ?_)
        refine WP_iload_n dX4_sum_18 rfl ?_
        refine WQ_iadd dX4_sum_19 (by omega) (by omega) (fun v2156 hv2156 => ?_)
        refine WQ_ialdu dX4_sum_20 (lyx_is hy 58 13 rfl) (lyx_n hy 58 28 rfl) (by omega) (by omega) (fun v2157 => ?_)
        refine WQ_iaddu dX4_sum_21 (fun v2158 => ?_)
        refine WP_istore_n (ls' := [(0, _), (1, _), (2, _), (3, _)]) dX4_sum_22 (by decide) rfl ?_
        refine WP_iinc (ls' := [(0, _), (1, _), (2, _), (3, _)]) dX4_sum_23 rfl (by decide) rfl ?_
        have hv2159 : (i2150 + Int32.ofInt (1)).toInt = i2150.toInt + (1) := ia_n rfl (by omega) (by omega)
        generalize i2150 + Int32.ofInt (1) = v2159 at hv2159 ⊢
        refine WP_goto 4 dX4_sum_26 rfl ?_
        exact WP_sub (fc rfl (fc rfl (fc rfl (fc rfl fn)))) (ihlp4_2150 v2158 v2159 (by omega) (by omega) (by omega))
  exact WP_sub (fc rfl (fc rfl (fc rfl (fc rfl fn)))) (lp4_2150 _ v2147 v2148 (by omega) (by omega) (Nat.lt_succ_self _))
set_option maxHeartbeats 4000000 in
set_option maxRecDepth 100000 in
theorem sx_begin_56_6 {g : GG} {n : Int} {L : Int32} (hy : LyX g)  {I : pI} {J : pJ} {R : pR} (hr : RfX g R) (hI : XI g n L I)   (hn : 0 ≤ n) : SP g mX4_begin [.ref (ad g 56), .ref (ad g 6)] I J R (fun r I' J' R' => (XI g n L I' ∧ R' = R) ∧ r = none) := by
  refine SP_of ⟨by decide, rfl⟩ (Nat.le_of_ble_eq_true rfl) ?_
  have e2160 : I (ad g 1) 1 = L := hI.2
  have b2161 := BT_get hI.1 1 1 2 (0) (0) (900) (by decide) 1 (by decide) (by decide)
  rw [e2160] at b2161
  refine WP_aload_n dX4_begin_0 rfl ?_
  refine WQ_iconst (0) (0) dX4_begin_1 rfl rfl (fun v2162 hv2162 => ?_)
  refine WQ_puti dX4_begin_2 fX4_18 rfl rfl (lyx_is hy 56 4 rfl) (fun I2163 eI2163 => ?_)
  have hI2163 : XI g n L I2163 := by rw [eI2163]; exact (xi_f0 hy hI (c := 56) (by decide) (Or.inl (by decide)) (by decide))
  have e2164 : I2163 (ad g 1) 1 = L := by rw [eI2163, pp_ne _ _ (Or.inl (lyx_ne hy (by decide) (by decide) (by decide)))]; exact e2160
  have e2165 : I2163 (ad g 56) 0 = v2162 := by rw [eI2163, pp_self]
  clear eI2163
  refine WP_aload_n dX4_begin_5 rfl ?_
  refine WQ_iconst (0) (0) dX4_begin_6 rfl rfl (fun v2166 hv2166 => ?_)
  refine WQ_puti dX4_begin_7 fX4_22 rfl rfl (lyx_is hy 56 4 rfl) (fun I2167 eI2167 => ?_)
  have hI2167 : XI g n L I2167 := by rw [eI2167]; exact (xi_f hy hI2163 (c := 56) (0) (1663200) (0) (by decide) (Or.inl (by decide)) (by decide) (by omega) (by omega))
  have e2168 : I2167 (ad g 1) 1 = L := by rw [eI2167, pp_ne _ _ (Or.inl (lyx_ne hy (by decide) (by decide) (by decide)))]; exact e2164
  have e2169 : I2167 (ad g 56) 0 = v2162 := by rw [eI2167, pp_ne _ _ (Or.inr (by decide))]; exact e2165
  have e2170 : I2167 (ad g 56) 1 = v2166 := by rw [eI2167, pp_self]
  clear eI2167
  refine WP_aload_n dX4_begin_10 rfl ?_
  refine WQ_iconst (0) (0) dX4_begin_11 rfl rfl (fun v2171 hv2171 => ?_)
  refine WQ_puti dX4_begin_12 fX4_25 rfl rfl (lyx_is hy 56 4 rfl) (fun I2172 eI2172 => ?_)
  have hI2172 : XI g n L I2172 := by rw [eI2172]; exact (xi_f0 hy hI2167 (c := 56) (by decide) (Or.inl (by decide)) (by decide))
  have e2173 : I2172 (ad g 1) 1 = L := by rw [eI2172, pp_ne _ _ (Or.inl (lyx_ne hy (by decide) (by decide) (by decide)))]; exact e2168
  have e2174 : I2172 (ad g 56) 0 = v2162 := by rw [eI2172, pp_ne _ _ (Or.inr (by decide))]; exact e2169
  have e2175 : I2172 (ad g 56) 1 = v2166 := by rw [eI2172, pp_ne _ _ (Or.inr (by decide))]; exact e2170
  have e2176 : I2172 (ad g 56) 2 = v2171 := by rw [eI2172, pp_self]
  clear eI2172
  refine WP_aload_n dX4_begin_15 rfl ?_
  refine WP_lconst (0) dX4_begin_16 rfl ?_
  obtain ⟨l2177, hl2177, el2177⟩ : ∃ v : Int64, v.toInt = 0 ∧ (0 : Int64) = v := ⟨_, rfl, rfl⟩
  rw [el2177]; clear el2177
  refine WQ_putl dX4_begin_17 fX4_28 rfl rfl (lyx_is hy 56 4 rfl) (fun J2178 eJ2178 => ?_)
  clear eJ2178
  refine WP_aload_n dX4_begin_20 rfl ?_
  refine WP_getr dX4_begin_21 fX4_15 rfl (lyx_is hy 56 4 rfl) (rfx hr 56 5 58 (by decide)) ?_
  refine WQ_iconst (0) (0) dX4_begin_24 rfl rfl (fun v2179 hv2179 => ?_)
  refine WP_callS2u dX4_begin_25 ⟨⟨⟨by decide, by decide⟩, zJ7_fill_53178⟩, lX4_32, tJ7_fill_53178⟩ (s_fill hy hr 58 28 rfl rfl (by decide) v2179) (Nat.le_of_ble_eq_true rfl) ?_
  obtain ⟨I2180, eI2180⟩ : ∃ I9 : pI, I9 = fi I2172 (ad g 58) 28 v2179 := ⟨_, rfl⟩
  rw [← eI2180]
  have hI2180 : XI g n L I2180 := by rw [eI2180]; exact (fa_fill hy hI2172 (c := 58) 28 (by decide) hv2179)
  have e2181 : I2180 (ad g 1) 1 = L := by rw [eI2180, fi_off (lyx_ne hy (by decide) (by decide) (by decide))]; exact e2173
  have e2182 : I2180 (ad g 56) 0 = v2162 := by rw [eI2180, fi_off (lyx_ne hy (by decide) (by decide) (by decide))]; exact e2174
  have e2183 : I2180 (ad g 56) 1 = v2166 := by rw [eI2180, fi_off (lyx_ne hy (by decide) (by decide) (by decide))]; exact e2175
  have e2184 : I2180 (ad g 56) 2 = v2171 := by rw [eI2180, fi_off (lyx_ne hy (by decide) (by decide) (by decide))]; exact e2176
  clear eI2180
  refine WQ_iconst (0) (0) dX4_begin_28 rfl rfl (fun v2185 hv2185 => ?_)
  refine WP_istore_n (ls' := [(0, _), (1, _), (2, _)]) dX4_begin_29 (by decide) rfl ?_
  have lp30_2188 : ∀ (mz : Nat) (i2186 : Int32) (I2187 : pI) (J2188 : pJ), XI g n L I2187 → 0 ≤ i2186.toInt → i2186.toInt ≤ 4 → (5 - i2186.toInt).toNat < mz → WP g mX4_begin 30 [(0, .ref (ad g 56)), (1, .ref (ad g 6)), (2, .int i2186)] [] I2187 J2188 R (fun r I' J' R' => (XI g n L I' ∧ R' = R) ∧ r = none) := by
    intro mz
    induction mz with
    | zero =>
      intro i2186 I2187 J2188 hI2187 ai2186 bi2186 hmlp30_2188
      exact absurd hmlp30_2188 (Nat.not_lt_zero _)
    | succ mz ihlp30_2188 =>
      intro i2186 I2187 J2188 hI2187 ai2186 bi2186 hmlp30_2188
      have e2190 : I2187 (ad g 1) 1 = L := hI2187.2
      have b2191 := BT_get hI2187.1 1 1 2 (0) (0) (900) (by decide) 1 (by decide) (by decide)
      rw [e2190] at b2191
      refine WP_iload_n dX4_begin_30 rfl ?_
      refine WP_aload_n dX4_begin_31 rfl ?_
      refine WQ_geti dX4_begin_32 fX4_38 rfl (lyx_is hy 6 7 rfl) (BT_get hI2187.1 6 1 2 (0) (0) (4) (by decide) 1 (by decide) (by decide)) (fun v2192 ev2192 av2192 bv2192 => ?_)
      refine WQ_icmp_ge 61 dX4_begin_35 rfl (fun c2192 => ?_) (fun c2192 => ?_)
      · exact WP_vret dX4_begin_61 rfl ⟨⟨hI2187, rfl⟩, rfl⟩
      · refine WP_aload_n dX4_begin_38 rfl ?_
        refine WP_getr dX4_begin_39 fX4_15 rfl (lyx_is hy 56 4 rfl) (rfx hr 56 5 58 (by decide)) ?_
        refine WP_iload_n dX4_begin_42 rfl ?_
        refine WQ_bipush (7) (7) dX4_begin_43 rfl rfl (fun v2194 hv2194 => ?_)
        refine WQ_imulk (7) dX4_begin_45 hv2194 (by omega) (by omega) (fun v2195 hv2195 => ?_)
        refine WQ_iconst (0) (0) dX4_begin_46 rfl rfl (fun v2196 hv2196 => ?_)
        refine WQ_iadd dX4_begin_47 (by omega) (by omega) (fun v2197 hv2197 => ?_)
        refine WP_aload_n dX4_begin_48 rfl ?_
        refine WP_getr dX4_begin_49 fX4_43 rfl (lyx_is hy 6 7 rfl) (rfx hr 6 8 10 (by decide)) ?_
        refine WP_iload_n dX4_begin_52 rfl ?_
        refine WQ_iald dX4_begin_53 (lyx_is hy 10 13 rfl) (lyx_n hy 10 4 rfl) (by omega) (by omega) (fun q hq => BT_get hI2187.1 10 0 4 (0) (0) (60) (by decide) q (Nat.zero_le _) hq) (fun v2198 av2198 bv2198 ev2198 => ?_)
        clear ev2198
        refine WQ_iast dX4_begin_54 (lyx_is hy 58 13 rfl) (lyx_n hy 58 28 rfl) (by omega) (by omega) (fun I2199 eI2199 => ?_)
        have hI2199 : XI g n L I2199 := by rw [eI2199]; exact (fa_put hy hI2187 (c := 58) (k := 0) (s := i2186.toInt.toNat) (by decide) (by omega) (by decide) (by rw [cl (n := 7 * i2186.toInt.toNat + 0) (by omega)]) (fun _ => by omega) (fun _ => by omega))
        have e2200 : I2199 (ad g 1) 1 = L := by rw [eI2199, pp_ne _ _ (Or.inl (lyx_ne hy (by decide) (by decide) (by decide)))]; exact e2190
        have e2201 : I2199 (ad g 6) 1 = v2192 := by rw [eI2199, pp_ne _ _ (Or.inl (lyx_ne hy (by decide) (by decide) (by decide)))]; exact ev2192
        clear eI2199
        refine WP_iinc (ls' := [(0, _), (1, _), (2, _)]) dX4_begin_55 rfl (by decide) rfl ?_
        have hv2202 : (i2186 + Int32.ofInt (1)).toInt = i2186.toInt + (1) := ia_n rfl (by omega) (by omega)
        generalize i2186 + Int32.ofInt (1) = v2202 at hv2202 ⊢
        refine WP_goto 30 dX4_begin_58 rfl ?_
        exact WP_sub (fc rfl (fc rfl (fc rfl fn))) (ihlp30_2188 v2202 I2199 J2188 hI2199 (by omega) (by omega) (by omega))
  exact WP_sub (fc rfl (fc rfl (fc rfl fn))) (lp30_2188 _ v2185 I2180 J2178 hI2180 (by omega) (by omega) (Nat.lt_succ_self _))
set_option maxHeartbeats 4000000 in
set_option maxRecDepth 100000 in
theorem sx_begin_56_27 {g : GG} {n : Int} {L : Int32} (hy : LyX g)  {I : pI} {J : pJ} {R : pR} (hr : RfX g R) (hI : XI g n L I)   (hn : 0 ≤ n) : SP g mX4_begin [.ref (ad g 56), .ref (ad g 27)] I J R (fun r I' J' R' => (XI g n L I' ∧ R' = R) ∧ r = none) := by
  refine SP_of ⟨by decide, rfl⟩ (Nat.le_of_ble_eq_true rfl) ?_
  have e2203 : I (ad g 1) 1 = L := hI.2
  have b2204 := BT_get hI.1 1 1 2 (0) (0) (900) (by decide) 1 (by decide) (by decide)
  rw [e2203] at b2204
  refine WP_aload_n dX4_begin_0 rfl ?_
  refine WQ_iconst (0) (0) dX4_begin_1 rfl rfl (fun v2205 hv2205 => ?_)
  refine WQ_puti dX4_begin_2 fX4_18 rfl rfl (lyx_is hy 56 4 rfl) (fun I2206 eI2206 => ?_)
  have hI2206 : XI g n L I2206 := by rw [eI2206]; exact (xi_f0 hy hI (c := 56) (by decide) (Or.inl (by decide)) (by decide))
  have e2207 : I2206 (ad g 1) 1 = L := by rw [eI2206, pp_ne _ _ (Or.inl (lyx_ne hy (by decide) (by decide) (by decide)))]; exact e2203
  have e2208 : I2206 (ad g 56) 0 = v2205 := by rw [eI2206, pp_self]
  clear eI2206
  refine WP_aload_n dX4_begin_5 rfl ?_
  refine WQ_iconst (0) (0) dX4_begin_6 rfl rfl (fun v2209 hv2209 => ?_)
  refine WQ_puti dX4_begin_7 fX4_22 rfl rfl (lyx_is hy 56 4 rfl) (fun I2210 eI2210 => ?_)
  have hI2210 : XI g n L I2210 := by rw [eI2210]; exact (xi_f hy hI2206 (c := 56) (0) (1663200) (0) (by decide) (Or.inl (by decide)) (by decide) (by omega) (by omega))
  have e2211 : I2210 (ad g 1) 1 = L := by rw [eI2210, pp_ne _ _ (Or.inl (lyx_ne hy (by decide) (by decide) (by decide)))]; exact e2207
  have e2212 : I2210 (ad g 56) 0 = v2205 := by rw [eI2210, pp_ne _ _ (Or.inr (by decide))]; exact e2208
  have e2213 : I2210 (ad g 56) 1 = v2209 := by rw [eI2210, pp_self]
  clear eI2210
  refine WP_aload_n dX4_begin_10 rfl ?_
  refine WQ_iconst (0) (0) dX4_begin_11 rfl rfl (fun v2214 hv2214 => ?_)
  refine WQ_puti dX4_begin_12 fX4_25 rfl rfl (lyx_is hy 56 4 rfl) (fun I2215 eI2215 => ?_)
  have hI2215 : XI g n L I2215 := by rw [eI2215]; exact (xi_f0 hy hI2210 (c := 56) (by decide) (Or.inl (by decide)) (by decide))
  have e2216 : I2215 (ad g 1) 1 = L := by rw [eI2215, pp_ne _ _ (Or.inl (lyx_ne hy (by decide) (by decide) (by decide)))]; exact e2211
  have e2217 : I2215 (ad g 56) 0 = v2205 := by rw [eI2215, pp_ne _ _ (Or.inr (by decide))]; exact e2212
  have e2218 : I2215 (ad g 56) 1 = v2209 := by rw [eI2215, pp_ne _ _ (Or.inr (by decide))]; exact e2213
  have e2219 : I2215 (ad g 56) 2 = v2214 := by rw [eI2215, pp_self]
  clear eI2215
  refine WP_aload_n dX4_begin_15 rfl ?_
  refine WP_lconst (0) dX4_begin_16 rfl ?_
  obtain ⟨l2220, hl2220, el2220⟩ : ∃ v : Int64, v.toInt = 0 ∧ (0 : Int64) = v := ⟨_, rfl, rfl⟩
  rw [el2220]; clear el2220
  refine WQ_putl dX4_begin_17 fX4_28 rfl rfl (lyx_is hy 56 4 rfl) (fun J2221 eJ2221 => ?_)
  clear eJ2221
  refine WP_aload_n dX4_begin_20 rfl ?_
  refine WP_getr dX4_begin_21 fX4_15 rfl (lyx_is hy 56 4 rfl) (rfx hr 56 5 58 (by decide)) ?_
  refine WQ_iconst (0) (0) dX4_begin_24 rfl rfl (fun v2222 hv2222 => ?_)
  refine WP_callS2u dX4_begin_25 ⟨⟨⟨by decide, by decide⟩, zJ7_fill_53178⟩, lX4_32, tJ7_fill_53178⟩ (s_fill hy hr 58 28 rfl rfl (by decide) v2222) (Nat.le_of_ble_eq_true rfl) ?_
  obtain ⟨I2223, eI2223⟩ : ∃ I9 : pI, I9 = fi I2215 (ad g 58) 28 v2222 := ⟨_, rfl⟩
  rw [← eI2223]
  have hI2223 : XI g n L I2223 := by rw [eI2223]; exact (fa_fill hy hI2215 (c := 58) 28 (by decide) hv2222)
  have e2224 : I2223 (ad g 1) 1 = L := by rw [eI2223, fi_off (lyx_ne hy (by decide) (by decide) (by decide))]; exact e2216
  have e2225 : I2223 (ad g 56) 0 = v2205 := by rw [eI2223, fi_off (lyx_ne hy (by decide) (by decide) (by decide))]; exact e2217
  have e2226 : I2223 (ad g 56) 1 = v2209 := by rw [eI2223, fi_off (lyx_ne hy (by decide) (by decide) (by decide))]; exact e2218
  have e2227 : I2223 (ad g 56) 2 = v2214 := by rw [eI2223, fi_off (lyx_ne hy (by decide) (by decide) (by decide))]; exact e2219
  clear eI2223
  refine WQ_iconst (0) (0) dX4_begin_28 rfl rfl (fun v2228 hv2228 => ?_)
  refine WP_istore_n (ls' := [(0, _), (1, _), (2, _)]) dX4_begin_29 (by decide) rfl ?_
  have lp30_2231 : ∀ (mz : Nat) (i2229 : Int32) (I2230 : pI) (J2231 : pJ), XI g n L I2230 → 0 ≤ i2229.toInt → i2229.toInt ≤ 4 → (5 - i2229.toInt).toNat < mz → WP g mX4_begin 30 [(0, .ref (ad g 56)), (1, .ref (ad g 27)), (2, .int i2229)] [] I2230 J2231 R (fun r I' J' R' => (XI g n L I' ∧ R' = R) ∧ r = none) := by
    intro mz
    induction mz with
    | zero =>
      intro i2229 I2230 J2231 hI2230 ai2229 bi2229 hmlp30_2231
      exact absurd hmlp30_2231 (Nat.not_lt_zero _)
    | succ mz ihlp30_2231 =>
      intro i2229 I2230 J2231 hI2230 ai2229 bi2229 hmlp30_2231
      have e2233 : I2230 (ad g 1) 1 = L := hI2230.2
      have b2234 := BT_get hI2230.1 1 1 2 (0) (0) (900) (by decide) 1 (by decide) (by decide)
      rw [e2233] at b2234
      refine WP_iload_n dX4_begin_30 rfl ?_
      refine WP_aload_n dX4_begin_31 rfl ?_
      refine WQ_geti dX4_begin_32 fX4_38 rfl (lyx_is hy 27 7 rfl) (BT_get hI2230.1 27 1 2 (0) (0) (4) (by decide) 1 (by decide) (by decide)) (fun v2235 ev2235 av2235 bv2235 => ?_)
      refine WQ_icmp_ge 61 dX4_begin_35 rfl (fun c2235 => ?_) (fun c2235 => ?_)
      · exact WP_vret dX4_begin_61 rfl ⟨⟨hI2230, rfl⟩, rfl⟩
      · refine WP_aload_n dX4_begin_38 rfl ?_
        refine WP_getr dX4_begin_39 fX4_15 rfl (lyx_is hy 56 4 rfl) (rfx hr 56 5 58 (by decide)) ?_
        refine WP_iload_n dX4_begin_42 rfl ?_
        refine WQ_bipush (7) (7) dX4_begin_43 rfl rfl (fun v2237 hv2237 => ?_)
        refine WQ_imulk (7) dX4_begin_45 hv2237 (by omega) (by omega) (fun v2238 hv2238 => ?_)
        refine WQ_iconst (0) (0) dX4_begin_46 rfl rfl (fun v2239 hv2239 => ?_)
        refine WQ_iadd dX4_begin_47 (by omega) (by omega) (fun v2240 hv2240 => ?_)
        refine WP_aload_n dX4_begin_48 rfl ?_
        refine WP_getr dX4_begin_49 fX4_43 rfl (lyx_is hy 27 7 rfl) (rfx hr 27 8 31 (by decide)) ?_
        refine WP_iload_n dX4_begin_52 rfl ?_
        refine WQ_iald dX4_begin_53 (lyx_is hy 31 13 rfl) (lyx_n hy 31 4 rfl) (by omega) (by omega) (fun q hq => BT_get hI2230.1 31 0 4 (0) (0) (60) (by decide) q (Nat.zero_le _) hq) (fun v2241 av2241 bv2241 ev2241 => ?_)
        clear ev2241
        refine WQ_iast dX4_begin_54 (lyx_is hy 58 13 rfl) (lyx_n hy 58 28 rfl) (by omega) (by omega) (fun I2242 eI2242 => ?_)
        have hI2242 : XI g n L I2242 := by rw [eI2242]; exact (fa_put hy hI2230 (c := 58) (k := 0) (s := i2229.toInt.toNat) (by decide) (by omega) (by decide) (by rw [cl (n := 7 * i2229.toInt.toNat + 0) (by omega)]) (fun _ => by omega) (fun _ => by omega))
        have e2243 : I2242 (ad g 1) 1 = L := by rw [eI2242, pp_ne _ _ (Or.inl (lyx_ne hy (by decide) (by decide) (by decide)))]; exact e2233
        have e2244 : I2242 (ad g 27) 1 = v2235 := by rw [eI2242, pp_ne _ _ (Or.inl (lyx_ne hy (by decide) (by decide) (by decide)))]; exact ev2235
        clear eI2242
        refine WP_iinc (ls' := [(0, _), (1, _), (2, _)]) dX4_begin_55 rfl (by decide) rfl ?_
        have hv2245 : (i2229 + Int32.ofInt (1)).toInt = i2229.toInt + (1) := ia_n rfl (by omega) (by omega)
        generalize i2229 + Int32.ofInt (1) = v2245 at hv2245 ⊢
        refine WP_goto 30 dX4_begin_58 rfl ?_
        exact WP_sub (fc rfl (fc rfl (fc rfl fn))) (ihlp30_2231 v2245 I2242 J2231 hI2242 (by omega) (by omega) (by omega))
  exact WP_sub (fc rfl (fc rfl (fc rfl fn))) (lp30_2231 _ v2228 I2223 J2221 hI2223 (by omega) (by omega) (Nat.lt_succ_self _))
set_option maxHeartbeats 4000000 in
set_option maxRecDepth 100000 in
theorem sx_become_56_53 {g : GG} {n : Int} {L : Int32} (hy : LyX g)  {I : pI} {J : pJ} {R : pR} (hr : RfX g R) (hI : XI g n L I)   : SP g mX4_become [.ref (ad g 56), .ref (ad g 53)] I J R (fun r I' J' R' => (XI g n L I' ∧ R' = R) ∧ r = none) := by
  refine SP_of ⟨by decide, rfl⟩ (Nat.le_of_ble_eq_true rfl) ?_
  have e2246 : I (ad g 1) 1 = L := hI.2
  have b2247 := BT_get hI.1 1 1 2 (0) (0) (900) (by decide) 1 (by decide) (by decide)
  rw [e2246] at b2247
  refine WP_aload_n dX4_become_0 rfl ?_
  refine WP_aload_n dX4_become_1 rfl ?_
  refine WQ_getiu dX4_become_2 fX4_18 rfl (lyx_is hy 53 4 rfl) (fun v2248 ev2248 => ?_)
  refine WQ_puti dX4_become_5 fX4_18 rfl rfl (lyx_is hy 56 4 rfl) (fun I2249 eI2249 => ?_)
  have hI2249 : XI g n L I2249 := by rw [eI2249]; exact (xi_f0 hy hI (c := 56) (by decide) (Or.inl (by decide)) (by decide))
  have e2250 : I2249 (ad g 1) 1 = L := by rw [eI2249, pp_ne _ _ (Or.inl (lyx_ne hy (by decide) (by decide) (by decide)))]; exact e2246
  have e2251 : I2249 (ad g 53) 0 = v2248 := by rw [eI2249, pp_ne _ _ (Or.inl (lyx_ne hy (by decide) (by decide) (by decide)))]; exact ev2248
  have e2252 : I2249 (ad g 56) 0 = v2248 := by rw [eI2249, pp_self]
  clear eI2249
  refine WP_aload_n dX4_become_8 rfl ?_
  refine WP_aload_n dX4_become_9 rfl ?_
  refine WQ_geti dX4_become_10 fX4_22 rfl (lyx_is hy 53 4 rfl) (BT_get hI2249.1 53 1 2 (0) (1663200) (0) (by decide) 1 (by decide) (by decide)) (fun v2253 ev2253 av2253 bv2253 => ?_)
  refine WQ_puti dX4_become_13 fX4_22 rfl rfl (lyx_is hy 56 4 rfl) (fun I2254 eI2254 => ?_)
  have hI2254 : XI g n L I2254 := by rw [eI2254]; exact (xi_f hy hI2249 (c := 56) (0) (1663200) (0) (by decide) (Or.inl (by decide)) (by decide) (by omega) (by omega))
  have e2255 : I2254 (ad g 1) 1 = L := by rw [eI2254, pp_ne _ _ (Or.inl (lyx_ne hy (by decide) (by decide) (by decide)))]; exact e2250
  have e2256 : I2254 (ad g 53) 0 = v2248 := by rw [eI2254, pp_ne _ _ (Or.inl (lyx_ne hy (by decide) (by decide) (by decide)))]; exact e2251
  have e2257 : I2254 (ad g 56) 0 = v2248 := by rw [eI2254, pp_ne _ _ (Or.inr (by decide))]; exact e2252
  have e2258 : I2254 (ad g 53) 1 = v2253 := by rw [eI2254, pp_ne _ _ (Or.inl (lyx_ne hy (by decide) (by decide) (by decide)))]; exact ev2253
  have e2259 : I2254 (ad g 56) 1 = v2253 := by rw [eI2254, pp_self]
  clear eI2254
  refine WP_aload_n dX4_become_16 rfl ?_
  refine WP_aload_n dX4_become_17 rfl ?_
  refine WQ_getiu dX4_become_18 fX4_25 rfl (lyx_is hy 53 4 rfl) (fun v2260 ev2260 => ?_)
  refine WQ_puti dX4_become_21 fX4_25 rfl rfl (lyx_is hy 56 4 rfl) (fun I2261 eI2261 => ?_)
  have hI2261 : XI g n L I2261 := by rw [eI2261]; exact (xi_f0 hy hI2254 (c := 56) (by decide) (Or.inl (by decide)) (by decide))
  have e2262 : I2261 (ad g 1) 1 = L := by rw [eI2261, pp_ne _ _ (Or.inl (lyx_ne hy (by decide) (by decide) (by decide)))]; exact e2255
  have e2263 : I2261 (ad g 53) 0 = v2248 := by rw [eI2261, pp_ne _ _ (Or.inl (lyx_ne hy (by decide) (by decide) (by decide)))]; exact e2256
  have e2264 : I2261 (ad g 56) 0 = v2248 := by rw [eI2261, pp_ne _ _ (Or.inr (by decide))]; exact e2257
  have e2265 : I2261 (ad g 53) 1 = v2253 := by rw [eI2261, pp_ne _ _ (Or.inl (lyx_ne hy (by decide) (by decide) (by decide)))]; exact e2258
  have e2266 : I2261 (ad g 56) 1 = v2253 := by rw [eI2261, pp_ne _ _ (Or.inr (by decide))]; exact e2259
  have e2267 : I2261 (ad g 53) 2 = v2260 := by rw [eI2261, pp_ne _ _ (Or.inl (lyx_ne hy (by decide) (by decide) (by decide)))]; exact ev2260
  have e2268 : I2261 (ad g 56) 2 = v2260 := by rw [eI2261, pp_self]
  clear eI2261
  refine WP_aload_n dX4_become_24 rfl ?_
  refine WP_aload_n dX4_become_25 rfl ?_
  refine WQ_getl dX4_become_26 fX4_28 rfl (lyx_is hy 53 4 rfl) (fun l2269 el2269 => ?_)
  refine WQ_putl dX4_become_29 fX4_28 rfl rfl (lyx_is hy 56 4 rfl) (fun J2270 eJ2270 => ?_)
  clear eJ2270
  refine WP_aload_n dX4_become_32 rfl ?_
  refine WP_getr dX4_become_33 fX4_9 rfl (lyx_is hy 53 4 rfl) (rfx hr 53 4 54 (by decide)) ?_
  refine WQ_iconst (0) (0) dX4_become_36 rfl rfl (fun v2271 hv2271 => ?_)
  refine WP_aload_n dX4_become_37 rfl ?_
  refine WP_getr dX4_become_38 fX4_9 rfl (lyx_is hy 56 4 rfl) (rfx hr 56 4 57 (by decide)) ?_
  refine WQ_iconst (0) (0) dX4_become_41 rfl rfl (fun v2272 hv2272 => ?_)
  refine WP_aload_n dX4_become_42 rfl ?_
  refine WP_getr dX4_become_43 fX4_9 rfl (lyx_is hy 56 4 rfl) (rfx hr 56 4 57 (by decide)) ?_
  refine WP_alen dX4_become_46 (lyx_is hy 57 13 rfl) (by decide) ?_
  rw [(lyx_n hy 57 4 rfl)]
  obtain ⟨v2273, hv2273, ev2273⟩ : ∃ v : Int32, v.toInt = 4 ∧ nI 4 = v := ⟨_, nI_toInt (by decide), rfl⟩
  rw [ev2273]; clear ev2273
  refine WQ_copy0 (N := 4) dX4_become_47 lX4_46 ⟨by decide, Nat.le_of_ble_eq_true rfl⟩ (lyx_is hy 54 13 rfl) (lyx_is hy 57 13 rfl) hv2271 hv2272 hv2273 (lyx_n hy 54 4 rfl) (lyx_n hy 57 4 rfl) (fun I2274 fI2274 oI2274 => ?_)
  have hI2274 : XI g n L I2274 := xi_copy hy hI2261 54 57 4 (by decide) (by decide) fI2274 oI2274
  clear fI2274 oI2274
  have e2275 : I2274 (ad g 1) 1 = L := hI2274.2
  have b2276 := BT_get hI2274.1 1 1 2 (0) (0) (900) (by decide) 1 (by decide) (by decide)
  rw [e2275] at b2276
  refine WP_aload_n dX4_become_50 rfl ?_
  refine WP_getr dX4_become_51 fX4_15 rfl (lyx_is hy 53 4 rfl) (rfx hr 53 5 55 (by decide)) ?_
  refine WQ_iconst (0) (0) dX4_become_54 rfl rfl (fun v2277 hv2277 => ?_)
  refine WP_aload_n dX4_become_55 rfl ?_
  refine WP_getr dX4_become_56 fX4_15 rfl (lyx_is hy 56 4 rfl) (rfx hr 56 5 58 (by decide)) ?_
  refine WQ_iconst (0) (0) dX4_become_59 rfl rfl (fun v2278 hv2278 => ?_)
  refine WP_aload_n dX4_become_60 rfl ?_
  refine WP_getr dX4_become_61 fX4_15 rfl (lyx_is hy 56 4 rfl) (rfx hr 56 5 58 (by decide)) ?_
  refine WP_alen dX4_become_64 (lyx_is hy 58 13 rfl) (by decide) ?_
  rw [(lyx_n hy 58 28 rfl)]
  obtain ⟨v2279, hv2279, ev2279⟩ : ∃ v : Int32, v.toInt = 28 ∧ nI 28 = v := ⟨_, nI_toInt (by decide), rfl⟩
  rw [ev2279]; clear ev2279
  refine WQ_copy0 (N := 28) dX4_become_65 lX4_46 ⟨by decide, Nat.le_of_ble_eq_true rfl⟩ (lyx_is hy 55 13 rfl) (lyx_is hy 58 13 rfl) hv2277 hv2278 hv2279 (lyx_n hy 55 28 rfl) (lyx_n hy 58 28 rfl) (fun I2280 fI2280 oI2280 => ?_)
  have hI2280 : XI g n L I2280 := xi_copy hy hI2274 55 58 28 (by decide) (by decide) fI2280 oI2280
  clear fI2280 oI2280
  have e2281 : I2280 (ad g 1) 1 = L := hI2280.2
  have b2282 := BT_get hI2280.1 1 1 2 (0) (0) (900) (by decide) 1 (by decide) (by decide)
  rw [e2281] at b2282
  exact WP_vret dX4_become_68 rfl ⟨⟨hI2280, rfl⟩, rfl⟩
set_option maxHeartbeats 4000000 in
set_option maxRecDepth 100000 in
theorem sx_sum_60 {g : GG} {n : Int} {L : Int32} (hy : LyX g)  {I : pI} {J : pJ} {R : pR} (hr : RfX g R) (hI : XI g n L I) (wh : Int32) (wh_lo : 0 ≤ wh.toInt) (wh_hi : wh.toInt ≤ 6) : SP g mX4_sum [.ref (ad g 60), .int wh] I J R (fun r I' J' R' => (I' = I ∧ J' = J ∧ R' = R) ∧ ∃ v : Int32, r = some (.int v)) := by
  refine SP_of ⟨by decide, rfl⟩ (Nat.le_of_ble_eq_true rfl) ?_
  have e2283 : I (ad g 1) 1 = L := hI.2
  have b2284 := BT_get hI.1 1 1 2 (0) (0) (900) (by decide) 1 (by decide) (by decide)
  rw [e2283] at b2284
  refine WQ_iconst (0) (0) dX4_sum_0 rfl rfl (fun v2285 hv2285 => ?_)
  refine WP_istore_n (ls' := [(0, _), (1, _), (2, _)]) dX4_sum_1 (by decide) rfl ?_
  refine WQ_iconst (0) (0) dX4_sum_2 rfl rfl (fun v2286 hv2286 => ?_)
  refine WP_istore_n (ls' := [(0, _), (1, _), (2, _), (3, _)]) dX4_sum_3 (by decide) rfl ?_
  have lp4_2288 : ∀ (mz : Nat) (i2287 : Int32) (i2288 : Int32), 0 ≤ i2288.toInt → i2288.toInt ≤ 4 → (5 - i2288.toInt).toNat < mz → WP g mX4_sum 4 [(0, .ref (ad g 60)), (1, .int wh), (2, .int i2287), (3, .int i2288)] [] I J R (fun r I' J' R' => (I' = I ∧ J' = J ∧ R' = R) ∧ ∃ v : Int32, r = some (.int v)) := by
    intro mz
    induction mz with
    | zero =>
      intro i2287 i2288 ai2288 bi2288 hmlp4_2288
      exact absurd hmlp4_2288 (Nat.not_lt_zero _)
    | succ mz ihlp4_2288 =>
      intro i2287 i2288 ai2288 bi2288 hmlp4_2288
      refine WP_iload_n dX4_sum_4 rfl ?_
      refine WQ_iconst (4) (4) dX4_sum_5 rfl rfl (fun v2290 hv2290 => ?_)
      refine WQ_icmp_ge 29 dX4_sum_6 rfl (fun c2290 => ?_) (fun c2290 => ?_)
      · refine WP_iload_n dX4_sum_29 rfl ?_
        exact WP_iret dX4_sum_30 rfl ⟨⟨rfl, rfl, rfl⟩, _, rfl⟩
      · refine WP_iload_n dX4_sum_9 rfl ?_
        refine WP_aload_n dX4_sum_10 rfl ?_
        refine WP_getr dX4_sum_11 fX4_15 rfl (lyx_is hy 60 4 rfl) (rfx hr 60 5 62 (by decide)) ?_
        refine WP_iload_n dX4_sum_14 rfl ?_
        refine WQ_bipush (7) (7) dX4_sum_15 rfl rfl (fun v2292 hv2292 => ?_)
        refine WQ_imulk (7) dX4_sum_17 hv2292 (by omega) (by omega) (fun v2293 hv2293 => ?_)
        refine WP_iload_n dX4_sum_18 rfl ?_
        refine WQ_iadd dX4_sum_19 (by omega) (by omega) (fun v2294 hv2294 => ?_)
        refine WQ_ialdu dX4_sum_20 (lyx_is hy 62 13 rfl) (lyx_n hy 62 28 rfl) (by omega) (by omega) (fun v2295 => ?_)
        refine WQ_iaddu dX4_sum_21 (fun v2296 => ?_)
        refine WP_istore_n (ls' := [(0, _), (1, _), (2, _), (3, _)]) dX4_sum_22 (by decide) rfl ?_
        refine WP_iinc (ls' := [(0, _), (1, _), (2, _), (3, _)]) dX4_sum_23 rfl (by decide) rfl ?_
        have hv2297 : (i2288 + Int32.ofInt (1)).toInt = i2288.toInt + (1) := ia_n rfl (by omega) (by omega)
        generalize i2288 + Int32.ofInt (1) = v2297 at hv2297 ⊢
        refine WP_goto 4 dX4_sum_26 rfl ?_
        exact WP_sub (fc rfl (fc rfl (fc rfl (fc rfl fn)))) (ihlp4_2288 v2296 v2297 (by omega) (by omega) (by omega))
  exact WP_sub (fc rfl (fc rfl (fc rfl (fc rfl fn)))) (lp4_2288 _ v2285 v2286 (by omega) (by omega) (Nat.lt_succ_self _))
set_option maxHeartbeats 4000000 in
set_option maxRecDepth 100000 in
theorem sx_begin_60_6 {g : GG} {n : Int} {L : Int32} (hy : LyX g)  {I : pI} {J : pJ} {R : pR} (hr : RfX g R) (hI : XI g n L I)   (hn : 0 ≤ n) : SP g mX4_begin [.ref (ad g 60), .ref (ad g 6)] I J R (fun r I' J' R' => (XI g n L I' ∧ R' = R) ∧ r = none) := by
  refine SP_of ⟨by decide, rfl⟩ (Nat.le_of_ble_eq_true rfl) ?_
  have e2298 : I (ad g 1) 1 = L := hI.2
  have b2299 := BT_get hI.1 1 1 2 (0) (0) (900) (by decide) 1 (by decide) (by decide)
  rw [e2298] at b2299
  refine WP_aload_n dX4_begin_0 rfl ?_
  refine WQ_iconst (0) (0) dX4_begin_1 rfl rfl (fun v2300 hv2300 => ?_)
  refine WQ_puti dX4_begin_2 fX4_18 rfl rfl (lyx_is hy 60 4 rfl) (fun I2301 eI2301 => ?_)
  have hI2301 : XI g n L I2301 := by rw [eI2301]; exact (xi_f0 hy hI (c := 60) (by decide) (Or.inl (by decide)) (by decide))
  have e2302 : I2301 (ad g 1) 1 = L := by rw [eI2301, pp_ne _ _ (Or.inl (lyx_ne hy (by decide) (by decide) (by decide)))]; exact e2298
  have e2303 : I2301 (ad g 60) 0 = v2300 := by rw [eI2301, pp_self]
  clear eI2301
  refine WP_aload_n dX4_begin_5 rfl ?_
  refine WQ_iconst (0) (0) dX4_begin_6 rfl rfl (fun v2304 hv2304 => ?_)
  refine WQ_puti dX4_begin_7 fX4_22 rfl rfl (lyx_is hy 60 4 rfl) (fun I2305 eI2305 => ?_)
  have hI2305 : XI g n L I2305 := by rw [eI2305]; exact (xi_f hy hI2301 (c := 60) (0) (1663200) (0) (by decide) (Or.inl (by decide)) (by decide) (by omega) (by omega))
  have e2306 : I2305 (ad g 1) 1 = L := by rw [eI2305, pp_ne _ _ (Or.inl (lyx_ne hy (by decide) (by decide) (by decide)))]; exact e2302
  have e2307 : I2305 (ad g 60) 0 = v2300 := by rw [eI2305, pp_ne _ _ (Or.inr (by decide))]; exact e2303
  have e2308 : I2305 (ad g 60) 1 = v2304 := by rw [eI2305, pp_self]
  clear eI2305
  refine WP_aload_n dX4_begin_10 rfl ?_
  refine WQ_iconst (0) (0) dX4_begin_11 rfl rfl (fun v2309 hv2309 => ?_)
  refine WQ_puti dX4_begin_12 fX4_25 rfl rfl (lyx_is hy 60 4 rfl) (fun I2310 eI2310 => ?_)
  have hI2310 : XI g n L I2310 := by rw [eI2310]; exact (xi_f0 hy hI2305 (c := 60) (by decide) (Or.inl (by decide)) (by decide))
  have e2311 : I2310 (ad g 1) 1 = L := by rw [eI2310, pp_ne _ _ (Or.inl (lyx_ne hy (by decide) (by decide) (by decide)))]; exact e2306
  have e2312 : I2310 (ad g 60) 0 = v2300 := by rw [eI2310, pp_ne _ _ (Or.inr (by decide))]; exact e2307
  have e2313 : I2310 (ad g 60) 1 = v2304 := by rw [eI2310, pp_ne _ _ (Or.inr (by decide))]; exact e2308
  have e2314 : I2310 (ad g 60) 2 = v2309 := by rw [eI2310, pp_self]
  clear eI2310
  refine WP_aload_n dX4_begin_15 rfl ?_
  refine WP_lconst (0) dX4_begin_16 rfl ?_
  obtain ⟨l2315, hl2315, el2315⟩ : ∃ v : Int64, v.toInt = 0 ∧ (0 : Int64) = v := ⟨_, rfl, rfl⟩
  rw [el2315]; clear el2315
  refine WQ_putl dX4_begin_17 fX4_28 rfl rfl (lyx_is hy 60 4 rfl) (fun J2316 eJ2316 => ?_)
  clear eJ2316
  refine WP_aload_n dX4_begin_20 rfl ?_
  refine WP_getr dX4_begin_21 fX4_15 rfl (lyx_is hy 60 4 rfl) (rfx hr 60 5 62 (by decide)) ?_
  refine WQ_iconst (0) (0) dX4_begin_24 rfl rfl (fun v2317 hv2317 => ?_)
  refine WP_callS2u dX4_begin_25 ⟨⟨⟨by decide, by decide⟩, zJ7_fill_53178⟩, lX4_32, tJ7_fill_53178⟩ (s_fill hy hr 62 28 rfl rfl (by decide) v2317) (Nat.le_of_ble_eq_true rfl) ?_
  obtain ⟨I2318, eI2318⟩ : ∃ I9 : pI, I9 = fi I2310 (ad g 62) 28 v2317 := ⟨_, rfl⟩
  rw [← eI2318]
  have hI2318 : XI g n L I2318 := by rw [eI2318]; exact (fa_fill hy hI2310 (c := 62) 28 (by decide) hv2317)
  have e2319 : I2318 (ad g 1) 1 = L := by rw [eI2318, fi_off (lyx_ne hy (by decide) (by decide) (by decide))]; exact e2311
  have e2320 : I2318 (ad g 60) 0 = v2300 := by rw [eI2318, fi_off (lyx_ne hy (by decide) (by decide) (by decide))]; exact e2312
  have e2321 : I2318 (ad g 60) 1 = v2304 := by rw [eI2318, fi_off (lyx_ne hy (by decide) (by decide) (by decide))]; exact e2313
  have e2322 : I2318 (ad g 60) 2 = v2309 := by rw [eI2318, fi_off (lyx_ne hy (by decide) (by decide) (by decide))]; exact e2314
  clear eI2318
  refine WQ_iconst (0) (0) dX4_begin_28 rfl rfl (fun v2323 hv2323 => ?_)
  refine WP_istore_n (ls' := [(0, _), (1, _), (2, _)]) dX4_begin_29 (by decide) rfl ?_
  have lp30_2326 : ∀ (mz : Nat) (i2324 : Int32) (I2325 : pI) (J2326 : pJ), XI g n L I2325 → 0 ≤ i2324.toInt → i2324.toInt ≤ 4 → (5 - i2324.toInt).toNat < mz → WP g mX4_begin 30 [(0, .ref (ad g 60)), (1, .ref (ad g 6)), (2, .int i2324)] [] I2325 J2326 R (fun r I' J' R' => (XI g n L I' ∧ R' = R) ∧ r = none) := by
    intro mz
    induction mz with
    | zero =>
      intro i2324 I2325 J2326 hI2325 ai2324 bi2324 hmlp30_2326
      exact absurd hmlp30_2326 (Nat.not_lt_zero _)
    | succ mz ihlp30_2326 =>
      intro i2324 I2325 J2326 hI2325 ai2324 bi2324 hmlp30_2326
      have e2328 : I2325 (ad g 1) 1 = L := hI2325.2
      have b2329 := BT_get hI2325.1 1 1 2 (0) (0) (900) (by decide) 1 (by decide) (by decide)
      rw [e2328] at b2329
      refine WP_iload_n dX4_begin_30 rfl ?_
      refine WP_aload_n dX4_begin_31 rfl ?_
      refine WQ_geti dX4_begin_32 fX4_38 rfl (lyx_is hy 6 7 rfl) (BT_get hI2325.1 6 1 2 (0) (0) (4) (by decide) 1 (by decide) (by decide)) (fun v2330 ev2330 av2330 bv2330 => ?_)
      refine WQ_icmp_ge 61 dX4_begin_35 rfl (fun c2330 => ?_) (fun c2330 => ?_)
      · exact WP_vret dX4_begin_61 rfl ⟨⟨hI2325, rfl⟩, rfl⟩
      · refine WP_aload_n dX4_begin_38 rfl ?_
        refine WP_getr dX4_begin_39 fX4_15 rfl (lyx_is hy 60 4 rfl) (rfx hr 60 5 62 (by decide)) ?_
        refine WP_iload_n dX4_begin_42 rfl ?_
        refine WQ_bipush (7) (7) dX4_begin_43 rfl rfl (fun v2332 hv2332 => ?_)
        refine WQ_imulk (7) dX4_begin_45 hv2332 (by omega) (by omega) (fun v2333 hv2333 => ?_)
        refine WQ_iconst (0) (0) dX4_begin_46 rfl rfl (fun v2334 hv2334 => ?_)
        refine WQ_iadd dX4_begin_47 (by omega) (by omega) (fun v2335 hv2335 => ?_)
        refine WP_aload_n dX4_begin_48 rfl ?_
        refine WP_getr dX4_begin_49 fX4_43 rfl (lyx_is hy 6 7 rfl) (rfx hr 6 8 10 (by decide)) ?_
        refine WP_iload_n dX4_begin_52 rfl ?_
        refine WQ_iald dX4_begin_53 (lyx_is hy 10 13 rfl) (lyx_n hy 10 4 rfl) (by omega) (by omega) (fun q hq => BT_get hI2325.1 10 0 4 (0) (0) (60) (by decide) q (Nat.zero_le _) hq) (fun v2336 av2336 bv2336 ev2336 => ?_)
        clear ev2336
        refine WQ_iast dX4_begin_54 (lyx_is hy 62 13 rfl) (lyx_n hy 62 28 rfl) (by omega) (by omega) (fun I2337 eI2337 => ?_)
        have hI2337 : XI g n L I2337 := by rw [eI2337]; exact (fa_put hy hI2325 (c := 62) (k := 0) (s := i2324.toInt.toNat) (by decide) (by omega) (by decide) (by rw [cl (n := 7 * i2324.toInt.toNat + 0) (by omega)]) (fun _ => by omega) (fun _ => by omega))
        have e2338 : I2337 (ad g 1) 1 = L := by rw [eI2337, pp_ne _ _ (Or.inl (lyx_ne hy (by decide) (by decide) (by decide)))]; exact e2328
        have e2339 : I2337 (ad g 6) 1 = v2330 := by rw [eI2337, pp_ne _ _ (Or.inl (lyx_ne hy (by decide) (by decide) (by decide)))]; exact ev2330
        clear eI2337
        refine WP_iinc (ls' := [(0, _), (1, _), (2, _)]) dX4_begin_55 rfl (by decide) rfl ?_
        have hv2340 : (i2324 + Int32.ofInt (1)).toInt = i2324.toInt + (1) := ia_n rfl (by omega) (by omega)
        generalize i2324 + Int32.ofInt (1) = v2340 at hv2340 ⊢
        refine WP_goto 30 dX4_begin_58 rfl ?_
        exact WP_sub (fc rfl (fc rfl (fc rfl fn))) (ihlp30_2326 v2340 I2337 J2326 hI2337 (by omega) (by omega) (by omega))
  exact WP_sub (fc rfl (fc rfl (fc rfl fn))) (lp30_2326 _ v2323 I2318 J2316 hI2318 (by omega) (by omega) (Nat.lt_succ_self _))
set_option maxHeartbeats 4000000 in
set_option maxRecDepth 100000 in
theorem sx_begin_60_27 {g : GG} {n : Int} {L : Int32} (hy : LyX g)  {I : pI} {J : pJ} {R : pR} (hr : RfX g R) (hI : XI g n L I)   (hn : 0 ≤ n) : SP g mX4_begin [.ref (ad g 60), .ref (ad g 27)] I J R (fun r I' J' R' => (XI g n L I' ∧ R' = R) ∧ r = none) := by
  refine SP_of ⟨by decide, rfl⟩ (Nat.le_of_ble_eq_true rfl) ?_
  have e2341 : I (ad g 1) 1 = L := hI.2
  have b2342 := BT_get hI.1 1 1 2 (0) (0) (900) (by decide) 1 (by decide) (by decide)
  rw [e2341] at b2342
  refine WP_aload_n dX4_begin_0 rfl ?_
  refine WQ_iconst (0) (0) dX4_begin_1 rfl rfl (fun v2343 hv2343 => ?_)
  refine WQ_puti dX4_begin_2 fX4_18 rfl rfl (lyx_is hy 60 4 rfl) (fun I2344 eI2344 => ?_)
  have hI2344 : XI g n L I2344 := by rw [eI2344]; exact (xi_f0 hy hI (c := 60) (by decide) (Or.inl (by decide)) (by decide))
  have e2345 : I2344 (ad g 1) 1 = L := by rw [eI2344, pp_ne _ _ (Or.inl (lyx_ne hy (by decide) (by decide) (by decide)))]; exact e2341
  have e2346 : I2344 (ad g 60) 0 = v2343 := by rw [eI2344, pp_self]
  clear eI2344
  refine WP_aload_n dX4_begin_5 rfl ?_
  refine WQ_iconst (0) (0) dX4_begin_6 rfl rfl (fun v2347 hv2347 => ?_)
  refine WQ_puti dX4_begin_7 fX4_22 rfl rfl (lyx_is hy 60 4 rfl) (fun I2348 eI2348 => ?_)
  have hI2348 : XI g n L I2348 := by rw [eI2348]; exact (xi_f hy hI2344 (c := 60) (0) (1663200) (0) (by decide) (Or.inl (by decide)) (by decide) (by omega) (by omega))
  have e2349 : I2348 (ad g 1) 1 = L := by rw [eI2348, pp_ne _ _ (Or.inl (lyx_ne hy (by decide) (by decide) (by decide)))]; exact e2345
  have e2350 : I2348 (ad g 60) 0 = v2343 := by rw [eI2348, pp_ne _ _ (Or.inr (by decide))]; exact e2346
  have e2351 : I2348 (ad g 60) 1 = v2347 := by rw [eI2348, pp_self]
  clear eI2348
  refine WP_aload_n dX4_begin_10 rfl ?_
  refine WQ_iconst (0) (0) dX4_begin_11 rfl rfl (fun v2352 hv2352 => ?_)
  refine WQ_puti dX4_begin_12 fX4_25 rfl rfl (lyx_is hy 60 4 rfl) (fun I2353 eI2353 => ?_)
  have hI2353 : XI g n L I2353 := by rw [eI2353]; exact (xi_f0 hy hI2348 (c := 60) (by decide) (Or.inl (by decide)) (by decide))
  have e2354 : I2353 (ad g 1) 1 = L := by rw [eI2353, pp_ne _ _ (Or.inl (lyx_ne hy (by decide) (by decide) (by decide)))]; exact e2349
  have e2355 : I2353 (ad g 60) 0 = v2343 := by rw [eI2353, pp_ne _ _ (Or.inr (by decide))]; exact e2350
  have e2356 : I2353 (ad g 60) 1 = v2347 := by rw [eI2353, pp_ne _ _ (Or.inr (by decide))]; exact e2351
  have e2357 : I2353 (ad g 60) 2 = v2352 := by rw [eI2353, pp_self]
  clear eI2353
  refine WP_aload_n dX4_begin_15 rfl ?_
  refine WP_lconst (0) dX4_begin_16 rfl ?_
  obtain ⟨l2358, hl2358, el2358⟩ : ∃ v : Int64, v.toInt = 0 ∧ (0 : Int64) = v := ⟨_, rfl, rfl⟩
  rw [el2358]; clear el2358
  refine WQ_putl dX4_begin_17 fX4_28 rfl rfl (lyx_is hy 60 4 rfl) (fun J2359 eJ2359 => ?_)
  clear eJ2359
  refine WP_aload_n dX4_begin_20 rfl ?_
  refine WP_getr dX4_begin_21 fX4_15 rfl (lyx_is hy 60 4 rfl) (rfx hr 60 5 62 (by decide)) ?_
  refine WQ_iconst (0) (0) dX4_begin_24 rfl rfl (fun v2360 hv2360 => ?_)
  refine WP_callS2u dX4_begin_25 ⟨⟨⟨by decide, by decide⟩, zJ7_fill_53178⟩, lX4_32, tJ7_fill_53178⟩ (s_fill hy hr 62 28 rfl rfl (by decide) v2360) (Nat.le_of_ble_eq_true rfl) ?_
  obtain ⟨I2361, eI2361⟩ : ∃ I9 : pI, I9 = fi I2353 (ad g 62) 28 v2360 := ⟨_, rfl⟩
  rw [← eI2361]
  have hI2361 : XI g n L I2361 := by rw [eI2361]; exact (fa_fill hy hI2353 (c := 62) 28 (by decide) hv2360)
  have e2362 : I2361 (ad g 1) 1 = L := by rw [eI2361, fi_off (lyx_ne hy (by decide) (by decide) (by decide))]; exact e2354
  have e2363 : I2361 (ad g 60) 0 = v2343 := by rw [eI2361, fi_off (lyx_ne hy (by decide) (by decide) (by decide))]; exact e2355
  have e2364 : I2361 (ad g 60) 1 = v2347 := by rw [eI2361, fi_off (lyx_ne hy (by decide) (by decide) (by decide))]; exact e2356
  have e2365 : I2361 (ad g 60) 2 = v2352 := by rw [eI2361, fi_off (lyx_ne hy (by decide) (by decide) (by decide))]; exact e2357
  clear eI2361
  refine WQ_iconst (0) (0) dX4_begin_28 rfl rfl (fun v2366 hv2366 => ?_)
  refine WP_istore_n (ls' := [(0, _), (1, _), (2, _)]) dX4_begin_29 (by decide) rfl ?_
  have lp30_2369 : ∀ (mz : Nat) (i2367 : Int32) (I2368 : pI) (J2369 : pJ), XI g n L I2368 → 0 ≤ i2367.toInt → i2367.toInt ≤ 4 → (5 - i2367.toInt).toNat < mz → WP g mX4_begin 30 [(0, .ref (ad g 60)), (1, .ref (ad g 27)), (2, .int i2367)] [] I2368 J2369 R (fun r I' J' R' => (XI g n L I' ∧ R' = R) ∧ r = none) := by
    intro mz
    induction mz with
    | zero =>
      intro i2367 I2368 J2369 hI2368 ai2367 bi2367 hmlp30_2369
      exact absurd hmlp30_2369 (Nat.not_lt_zero _)
    | succ mz ihlp30_2369 =>
      intro i2367 I2368 J2369 hI2368 ai2367 bi2367 hmlp30_2369
      have e2371 : I2368 (ad g 1) 1 = L := hI2368.2
      have b2372 := BT_get hI2368.1 1 1 2 (0) (0) (900) (by decide) 1 (by decide) (by decide)
      rw [e2371] at b2372
      refine WP_iload_n dX4_begin_30 rfl ?_
      refine WP_aload_n dX4_begin_31 rfl ?_
      refine WQ_geti dX4_begin_32 fX4_38 rfl (lyx_is hy 27 7 rfl) (BT_get hI2368.1 27 1 2 (0) (0) (4) (by decide) 1 (by decide) (by decide)) (fun v2373 ev2373 av2373 bv2373 => ?_)
      refine WQ_icmp_ge 61 dX4_begin_35 rfl (fun c2373 => ?_) (fun c2373 => ?_)
      · exact WP_vret dX4_begin_61 rfl ⟨⟨hI2368, rfl⟩, rfl⟩
      · refine WP_aload_n dX4_begin_38 rfl ?_
        refine WP_getr dX4_begin_39 fX4_15 rfl (lyx_is hy 60 4 rfl) (rfx hr 60 5 62 (by decide)) ?_
        refine WP_iload_n dX4_begin_42 rfl ?_
        refine WQ_bipush (7) (7) dX4_begin_43 rfl rfl (fun v2375 hv2375 => ?_)
        refine WQ_imulk (7) dX4_begin_45 hv2375 (by omega) (by omega) (fun v2376 hv2376 => ?_)
        refine WQ_iconst (0) (0) dX4_begin_46 rfl rfl (fun v2377 hv2377 => ?_)
        refine WQ_iadd dX4_begin_47 (by omega) (by omega) (fun v2378 hv2378 => ?_)
        refine WP_aload_n dX4_begin_48 rfl ?_
        refine WP_getr dX4_begin_49 fX4_43 rfl (lyx_is hy 27 7 rfl) (rfx hr 27 8 31 (by decide)) ?_
        refine WP_iload_n dX4_begin_52 rfl ?_
        refine WQ_iald dX4_begin_53 (lyx_is hy 31 13 rfl) (lyx_n hy 31 4 rfl) (by omega) (by omega) (fun q hq => BT_get hI2368.1 31 0 4 (0) (0) (60) (by decide) q (Nat.zero_le _) hq) (fun v2379 av2379 bv2379 ev2379 => ?_)
        clear ev2379
        refine WQ_iast dX4_begin_54 (lyx_is hy 62 13 rfl) (lyx_n hy 62 28 rfl) (by omega) (by omega) (fun I2380 eI2380 => ?_)
        have hI2380 : XI g n L I2380 := by rw [eI2380]; exact (fa_put hy hI2368 (c := 62) (k := 0) (s := i2367.toInt.toNat) (by decide) (by omega) (by decide) (by rw [cl (n := 7 * i2367.toInt.toNat + 0) (by omega)]) (fun _ => by omega) (fun _ => by omega))
        have e2381 : I2380 (ad g 1) 1 = L := by rw [eI2380, pp_ne _ _ (Or.inl (lyx_ne hy (by decide) (by decide) (by decide)))]; exact e2371
        have e2382 : I2380 (ad g 27) 1 = v2373 := by rw [eI2380, pp_ne _ _ (Or.inl (lyx_ne hy (by decide) (by decide) (by decide)))]; exact ev2373
        clear eI2380
        refine WP_iinc (ls' := [(0, _), (1, _), (2, _)]) dX4_begin_55 rfl (by decide) rfl ?_
        have hv2383 : (i2367 + Int32.ofInt (1)).toInt = i2367.toInt + (1) := ia_n rfl (by omega) (by omega)
        generalize i2367 + Int32.ofInt (1) = v2383 at hv2383 ⊢
        refine WP_goto 30 dX4_begin_58 rfl ?_
        exact WP_sub (fc rfl (fc rfl (fc rfl fn))) (ihlp30_2369 v2383 I2380 J2369 hI2380 (by omega) (by omega) (by omega))
  exact WP_sub (fc rfl (fc rfl (fc rfl fn))) (lp30_2369 _ v2366 I2361 J2359 hI2361 (by omega) (by omega) (Nat.lt_succ_self _))
set_option maxHeartbeats 4000000 in
set_option maxRecDepth 100000 in
theorem sx_become_60_53 {g : GG} {n : Int} {L : Int32} (hy : LyX g)  {I : pI} {J : pJ} {R : pR} (hr : RfX g R) (hI : XI g n L I)   : SP g mX4_become [.ref (ad g 60), .ref (ad g 53)] I J R (fun r I' J' R' => (XI g n L I' ∧ R' = R) ∧ r = none) := by
  refine SP_of ⟨by decide, rfl⟩ (Nat.le_of_ble_eq_true rfl) ?_
  have e2384 : I (ad g 1) 1 = L := hI.2
  have b2385 := BT_get hI.1 1 1 2 (0) (0) (900) (by decide) 1 (by decide) (by decide)
  rw [e2384] at b2385
  refine WP_aload_n dX4_become_0 rfl ?_
  refine WP_aload_n dX4_become_1 rfl ?_
  refine WQ_getiu dX4_become_2 fX4_18 rfl (lyx_is hy 53 4 rfl) (fun v2386 ev2386 => ?_)
  refine WQ_puti dX4_become_5 fX4_18 rfl rfl (lyx_is hy 60 4 rfl) (fun I2387 eI2387 => ?_)
  have hI2387 : XI g n L I2387 := by rw [eI2387]; exact (xi_f0 hy hI (c := 60) (by decide) (Or.inl (by decide)) (by decide))
  have e2388 : I2387 (ad g 1) 1 = L := by rw [eI2387, pp_ne _ _ (Or.inl (lyx_ne hy (by decide) (by decide) (by decide)))]; exact e2384
  have e2389 : I2387 (ad g 53) 0 = v2386 := by rw [eI2387, pp_ne _ _ (Or.inl (lyx_ne hy (by decide) (by decide) (by decide)))]; exact ev2386
  have e2390 : I2387 (ad g 60) 0 = v2386 := by rw [eI2387, pp_self]
  clear eI2387
  refine WP_aload_n dX4_become_8 rfl ?_
  refine WP_aload_n dX4_become_9 rfl ?_
  refine WQ_geti dX4_become_10 fX4_22 rfl (lyx_is hy 53 4 rfl) (BT_get hI2387.1 53 1 2 (0) (1663200) (0) (by decide) 1 (by decide) (by decide)) (fun v2391 ev2391 av2391 bv2391 => ?_)
  refine WQ_puti dX4_become_13 fX4_22 rfl rfl (lyx_is hy 60 4 rfl) (fun I2392 eI2392 => ?_)
  have hI2392 : XI g n L I2392 := by rw [eI2392]; exact (xi_f hy hI2387 (c := 60) (0) (1663200) (0) (by decide) (Or.inl (by decide)) (by decide) (by omega) (by omega))
  have e2393 : I2392 (ad g 1) 1 = L := by rw [eI2392, pp_ne _ _ (Or.inl (lyx_ne hy (by decide) (by decide) (by decide)))]; exact e2388
  have e2394 : I2392 (ad g 53) 0 = v2386 := by rw [eI2392, pp_ne _ _ (Or.inl (lyx_ne hy (by decide) (by decide) (by decide)))]; exact e2389
  have e2395 : I2392 (ad g 60) 0 = v2386 := by rw [eI2392, pp_ne _ _ (Or.inr (by decide))]; exact e2390
  have e2396 : I2392 (ad g 53) 1 = v2391 := by rw [eI2392, pp_ne _ _ (Or.inl (lyx_ne hy (by decide) (by decide) (by decide)))]; exact ev2391
  have e2397 : I2392 (ad g 60) 1 = v2391 := by rw [eI2392, pp_self]
  clear eI2392
  refine WP_aload_n dX4_become_16 rfl ?_
  refine WP_aload_n dX4_become_17 rfl ?_
  refine WQ_getiu dX4_become_18 fX4_25 rfl (lyx_is hy 53 4 rfl) (fun v2398 ev2398 => ?_)
  refine WQ_puti dX4_become_21 fX4_25 rfl rfl (lyx_is hy 60 4 rfl) (fun I2399 eI2399 => ?_)
  have hI2399 : XI g n L I2399 := by rw [eI2399]; exact (xi_f0 hy hI2392 (c := 60) (by decide) (Or.inl (by decide)) (by decide))
  have e2400 : I2399 (ad g 1) 1 = L := by rw [eI2399, pp_ne _ _ (Or.inl (lyx_ne hy (by decide) (by decide) (by decide)))]; exact e2393
  have e2401 : I2399 (ad g 53) 0 = v2386 := by rw [eI2399, pp_ne _ _ (Or.inl (lyx_ne hy (by decide) (by decide) (by decide)))]; exact e2394
  have e2402 : I2399 (ad g 60) 0 = v2386 := by rw [eI2399, pp_ne _ _ (Or.inr (by decide))]; exact e2395
  have e2403 : I2399 (ad g 53) 1 = v2391 := by rw [eI2399, pp_ne _ _ (Or.inl (lyx_ne hy (by decide) (by decide) (by decide)))]; exact e2396
  have e2404 : I2399 (ad g 60) 1 = v2391 := by rw [eI2399, pp_ne _ _ (Or.inr (by decide))]; exact e2397
  have e2405 : I2399 (ad g 53) 2 = v2398 := by rw [eI2399, pp_ne _ _ (Or.inl (lyx_ne hy (by decide) (by decide) (by decide)))]; exact ev2398
  have e2406 : I2399 (ad g 60) 2 = v2398 := by rw [eI2399, pp_self]
  clear eI2399
  refine WP_aload_n dX4_become_24 rfl ?_
  refine WP_aload_n dX4_become_25 rfl ?_
  refine WQ_getl dX4_become_26 fX4_28 rfl (lyx_is hy 53 4 rfl) (fun l2407 el2407 => ?_)
  refine WQ_putl dX4_become_29 fX4_28 rfl rfl (lyx_is hy 60 4 rfl) (fun J2408 eJ2408 => ?_)
  clear eJ2408
  refine WP_aload_n dX4_become_32 rfl ?_
  refine WP_getr dX4_become_33 fX4_9 rfl (lyx_is hy 53 4 rfl) (rfx hr 53 4 54 (by decide)) ?_
  refine WQ_iconst (0) (0) dX4_become_36 rfl rfl (fun v2409 hv2409 => ?_)
  refine WP_aload_n dX4_become_37 rfl ?_
  refine WP_getr dX4_become_38 fX4_9 rfl (lyx_is hy 60 4 rfl) (rfx hr 60 4 61 (by decide)) ?_
  refine WQ_iconst (0) (0) dX4_become_41 rfl rfl (fun v2410 hv2410 => ?_)
  refine WP_aload_n dX4_become_42 rfl ?_
  refine WP_getr dX4_become_43 fX4_9 rfl (lyx_is hy 60 4 rfl) (rfx hr 60 4 61 (by decide)) ?_
  refine WP_alen dX4_become_46 (lyx_is hy 61 13 rfl) (by decide) ?_
  rw [(lyx_n hy 61 4 rfl)]
  obtain ⟨v2411, hv2411, ev2411⟩ : ∃ v : Int32, v.toInt = 4 ∧ nI 4 = v := ⟨_, nI_toInt (by decide), rfl⟩
  rw [ev2411]; clear ev2411
  refine WQ_copy0 (N := 4) dX4_become_47 lX4_46 ⟨by decide, Nat.le_of_ble_eq_true rfl⟩ (lyx_is hy 54 13 rfl) (lyx_is hy 61 13 rfl) hv2409 hv2410 hv2411 (lyx_n hy 54 4 rfl) (lyx_n hy 61 4 rfl) (fun I2412 fI2412 oI2412 => ?_)
  have hI2412 : XI g n L I2412 := xi_copy hy hI2399 54 61 4 (by decide) (by decide) fI2412 oI2412
  clear fI2412 oI2412
  have e2413 : I2412 (ad g 1) 1 = L := hI2412.2
  have b2414 := BT_get hI2412.1 1 1 2 (0) (0) (900) (by decide) 1 (by decide) (by decide)
  rw [e2413] at b2414
  refine WP_aload_n dX4_become_50 rfl ?_
  refine WP_getr dX4_become_51 fX4_15 rfl (lyx_is hy 53 4 rfl) (rfx hr 53 5 55 (by decide)) ?_
  refine WQ_iconst (0) (0) dX4_become_54 rfl rfl (fun v2415 hv2415 => ?_)
  refine WP_aload_n dX4_become_55 rfl ?_
  refine WP_getr dX4_become_56 fX4_15 rfl (lyx_is hy 60 4 rfl) (rfx hr 60 5 62 (by decide)) ?_
  refine WQ_iconst (0) (0) dX4_become_59 rfl rfl (fun v2416 hv2416 => ?_)
  refine WP_aload_n dX4_become_60 rfl ?_
  refine WP_getr dX4_become_61 fX4_15 rfl (lyx_is hy 60 4 rfl) (rfx hr 60 5 62 (by decide)) ?_
  refine WP_alen dX4_become_64 (lyx_is hy 62 13 rfl) (by decide) ?_
  rw [(lyx_n hy 62 28 rfl)]
  obtain ⟨v2417, hv2417, ev2417⟩ : ∃ v : Int32, v.toInt = 28 ∧ nI 28 = v := ⟨_, nI_toInt (by decide), rfl⟩
  rw [ev2417]; clear ev2417
  refine WQ_copy0 (N := 28) dX4_become_65 lX4_46 ⟨by decide, Nat.le_of_ble_eq_true rfl⟩ (lyx_is hy 55 13 rfl) (lyx_is hy 62 13 rfl) hv2415 hv2416 hv2417 (lyx_n hy 55 28 rfl) (lyx_n hy 62 28 rfl) (fun I2418 fI2418 oI2418 => ?_)
  have hI2418 : XI g n L I2418 := xi_copy hy hI2412 55 62 28 (by decide) (by decide) fI2418 oI2418
  clear fI2418 oI2418
  have e2419 : I2418 (ad g 1) 1 = L := hI2418.2
  have b2420 := BT_get hI2418.1 1 1 2 (0) (0) (900) (by decide) 1 (by decide) (by decide)
  rw [e2419] at b2420
  exact WP_vret dX4_become_68 rfl ⟨⟨hI2418, rfl⟩, rfl⟩
set_option maxHeartbeats 4000000 in
set_option maxRecDepth 100000 in
theorem sx_sum_63 {g : GG} {n : Int} {L : Int32} (hy : LyX g)  {I : pI} {J : pJ} {R : pR} (hr : RfX g R) (hI : XI g n L I) (wh : Int32) (wh_lo : 0 ≤ wh.toInt) (wh_hi : wh.toInt ≤ 6) : SP g mX4_sum [.ref (ad g 63), .int wh] I J R (fun r I' J' R' => (I' = I ∧ J' = J ∧ R' = R) ∧ ∃ v : Int32, r = some (.int v)) := by
  refine SP_of ⟨by decide, rfl⟩ (Nat.le_of_ble_eq_true rfl) ?_
  have e2421 : I (ad g 1) 1 = L := hI.2
  have b2422 := BT_get hI.1 1 1 2 (0) (0) (900) (by decide) 1 (by decide) (by decide)
  rw [e2421] at b2422
  refine WQ_iconst (0) (0) dX4_sum_0 rfl rfl (fun v2423 hv2423 => ?_)
  refine WP_istore_n (ls' := [(0, _), (1, _), (2, _)]) dX4_sum_1 (by decide) rfl ?_
  refine WQ_iconst (0) (0) dX4_sum_2 rfl rfl (fun v2424 hv2424 => ?_)
  refine WP_istore_n (ls' := [(0, _), (1, _), (2, _), (3, _)]) dX4_sum_3 (by decide) rfl ?_
  have lp4_2426 : ∀ (mz : Nat) (i2425 : Int32) (i2426 : Int32), 0 ≤ i2426.toInt → i2426.toInt ≤ 4 → (5 - i2426.toInt).toNat < mz → WP g mX4_sum 4 [(0, .ref (ad g 63)), (1, .int wh), (2, .int i2425), (3, .int i2426)] [] I J R (fun r I' J' R' => (I' = I ∧ J' = J ∧ R' = R) ∧ ∃ v : Int32, r = some (.int v)) := by
    intro mz
    induction mz with
    | zero =>
      intro i2425 i2426 ai2426 bi2426 hmlp4_2426
      exact absurd hmlp4_2426 (Nat.not_lt_zero _)
    | succ mz ihlp4_2426 =>
      intro i2425 i2426 ai2426 bi2426 hmlp4_2426
      refine WP_iload_n dX4_sum_4 rfl ?_
      refine WQ_iconst (4) (4) dX4_sum_5 rfl rfl (fun v2428 hv2428 => ?_)
      refine WQ_icmp_ge 29 dX4_sum_6 rfl (fun c2428 => ?_) (fun c2428 => ?_)
      · refine WP_iload_n dX4_sum_29 rfl ?_
        exact WP_iret dX4_sum_30 rfl ⟨⟨rfl, rfl, rfl⟩, _, rfl⟩
      · refine WP_iload_n dX4_sum_9 rfl ?_
        refine WP_aload_n dX4_sum_10 rfl ?_
        refine WP_getr dX4_sum_11 fX4_15 rfl (lyx_is hy 63 4 rfl) (rfx hr 63 5 65 (by decide)) ?_
        refine WP_iload_n dX4_sum_14 rfl ?_
        refine WQ_bipush (7) (7) dX4_sum_15 rfl rfl (fun v2430 hv2430 => ?_)
        refine WQ_imulk (7) dX4_sum_17 hv2430 (by omega) (by omega) (fun v2431 hv2431 => ?_)
        refine WP_iload_n dX4_sum_18 rfl ?_
        refine WQ_iadd dX4_sum_19 (by omega) (by omega) (fun v2432 hv2432 => ?_)
        refine WQ_ialdu dX4_sum_20 (lyx_is hy 65 13 rfl) (lyx_n hy 65 28 rfl) (by omega) (by omega) (fun v2433 => ?_)
        refine WQ_iaddu dX4_sum_21 (fun v2434 => ?_)
        refine WP_istore_n (ls' := [(0, _), (1, _), (2, _), (3, _)]) dX4_sum_22 (by decide) rfl ?_
        refine WP_iinc (ls' := [(0, _), (1, _), (2, _), (3, _)]) dX4_sum_23 rfl (by decide) rfl ?_
        have hv2435 : (i2426 + Int32.ofInt (1)).toInt = i2426.toInt + (1) := ia_n rfl (by omega) (by omega)
        generalize i2426 + Int32.ofInt (1) = v2435 at hv2435 ⊢
        refine WP_goto 4 dX4_sum_26 rfl ?_
        exact WP_sub (fc rfl (fc rfl (fc rfl (fc rfl fn)))) (ihlp4_2426 v2434 v2435 (by omega) (by omega) (by omega))
  exact WP_sub (fc rfl (fc rfl (fc rfl (fc rfl fn)))) (lp4_2426 _ v2423 v2424 (by omega) (by omega) (Nat.lt_succ_self _))
set_option maxHeartbeats 4000000 in
set_option maxRecDepth 100000 in
theorem sx_begin_63_6 {g : GG} {n : Int} {L : Int32} (hy : LyX g)  {I : pI} {J : pJ} {R : pR} (hr : RfX g R) (hI : XI g n L I)   (hn : 0 ≤ n) : SP g mX4_begin [.ref (ad g 63), .ref (ad g 6)] I J R (fun r I' J' R' => (XI g n L I' ∧ R' = R) ∧ r = none) := by
  refine SP_of ⟨by decide, rfl⟩ (Nat.le_of_ble_eq_true rfl) ?_
  have e2436 : I (ad g 1) 1 = L := hI.2
  have b2437 := BT_get hI.1 1 1 2 (0) (0) (900) (by decide) 1 (by decide) (by decide)
  rw [e2436] at b2437
  refine WP_aload_n dX4_begin_0 rfl ?_
  refine WQ_iconst (0) (0) dX4_begin_1 rfl rfl (fun v2438 hv2438 => ?_)
  refine WQ_puti dX4_begin_2 fX4_18 rfl rfl (lyx_is hy 63 4 rfl) (fun I2439 eI2439 => ?_)
  have hI2439 : XI g n L I2439 := by rw [eI2439]; exact (xi_f0 hy hI (c := 63) (by decide) (Or.inl (by decide)) (by decide))
  have e2440 : I2439 (ad g 1) 1 = L := by rw [eI2439, pp_ne _ _ (Or.inl (lyx_ne hy (by decide) (by decide) (by decide)))]; exact e2436
  have e2441 : I2439 (ad g 63) 0 = v2438 := by rw [eI2439, pp_self]
  clear eI2439
  refine WP_aload_n dX4_begin_5 rfl ?_
  refine WQ_iconst (0) (0) dX4_begin_6 rfl rfl (fun v2442 hv2442 => ?_)
  refine WQ_puti dX4_begin_7 fX4_22 rfl rfl (lyx_is hy 63 4 rfl) (fun I2443 eI2443 => ?_)
  have hI2443 : XI g n L I2443 := by rw [eI2443]; exact (xi_f hy hI2439 (c := 63) (0) (1663200) (0) (by decide) (Or.inl (by decide)) (by decide) (by omega) (by omega))
  have e2444 : I2443 (ad g 1) 1 = L := by rw [eI2443, pp_ne _ _ (Or.inl (lyx_ne hy (by decide) (by decide) (by decide)))]; exact e2440
  have e2445 : I2443 (ad g 63) 0 = v2438 := by rw [eI2443, pp_ne _ _ (Or.inr (by decide))]; exact e2441
  have e2446 : I2443 (ad g 63) 1 = v2442 := by rw [eI2443, pp_self]
  clear eI2443
  refine WP_aload_n dX4_begin_10 rfl ?_
  refine WQ_iconst (0) (0) dX4_begin_11 rfl rfl (fun v2447 hv2447 => ?_)
  refine WQ_puti dX4_begin_12 fX4_25 rfl rfl (lyx_is hy 63 4 rfl) (fun I2448 eI2448 => ?_)
  have hI2448 : XI g n L I2448 := by rw [eI2448]; exact (xi_f0 hy hI2443 (c := 63) (by decide) (Or.inl (by decide)) (by decide))
  have e2449 : I2448 (ad g 1) 1 = L := by rw [eI2448, pp_ne _ _ (Or.inl (lyx_ne hy (by decide) (by decide) (by decide)))]; exact e2444
  have e2450 : I2448 (ad g 63) 0 = v2438 := by rw [eI2448, pp_ne _ _ (Or.inr (by decide))]; exact e2445
  have e2451 : I2448 (ad g 63) 1 = v2442 := by rw [eI2448, pp_ne _ _ (Or.inr (by decide))]; exact e2446
  have e2452 : I2448 (ad g 63) 2 = v2447 := by rw [eI2448, pp_self]
  clear eI2448
  refine WP_aload_n dX4_begin_15 rfl ?_
  refine WP_lconst (0) dX4_begin_16 rfl ?_
  obtain ⟨l2453, hl2453, el2453⟩ : ∃ v : Int64, v.toInt = 0 ∧ (0 : Int64) = v := ⟨_, rfl, rfl⟩
  rw [el2453]; clear el2453
  refine WQ_putl dX4_begin_17 fX4_28 rfl rfl (lyx_is hy 63 4 rfl) (fun J2454 eJ2454 => ?_)
  clear eJ2454
  refine WP_aload_n dX4_begin_20 rfl ?_
  refine WP_getr dX4_begin_21 fX4_15 rfl (lyx_is hy 63 4 rfl) (rfx hr 63 5 65 (by decide)) ?_
  refine WQ_iconst (0) (0) dX4_begin_24 rfl rfl (fun v2455 hv2455 => ?_)
  refine WP_callS2u dX4_begin_25 ⟨⟨⟨by decide, by decide⟩, zJ7_fill_53178⟩, lX4_32, tJ7_fill_53178⟩ (s_fill hy hr 65 28 rfl rfl (by decide) v2455) (Nat.le_of_ble_eq_true rfl) ?_
  obtain ⟨I2456, eI2456⟩ : ∃ I9 : pI, I9 = fi I2448 (ad g 65) 28 v2455 := ⟨_, rfl⟩
  rw [← eI2456]
  have hI2456 : XI g n L I2456 := by rw [eI2456]; exact (fa_fill hy hI2448 (c := 65) 28 (by decide) hv2455)
  have e2457 : I2456 (ad g 1) 1 = L := by rw [eI2456, fi_off (lyx_ne hy (by decide) (by decide) (by decide))]; exact e2449
  have e2458 : I2456 (ad g 63) 0 = v2438 := by rw [eI2456, fi_off (lyx_ne hy (by decide) (by decide) (by decide))]; exact e2450
  have e2459 : I2456 (ad g 63) 1 = v2442 := by rw [eI2456, fi_off (lyx_ne hy (by decide) (by decide) (by decide))]; exact e2451
  have e2460 : I2456 (ad g 63) 2 = v2447 := by rw [eI2456, fi_off (lyx_ne hy (by decide) (by decide) (by decide))]; exact e2452
  clear eI2456
  refine WQ_iconst (0) (0) dX4_begin_28 rfl rfl (fun v2461 hv2461 => ?_)
  refine WP_istore_n (ls' := [(0, _), (1, _), (2, _)]) dX4_begin_29 (by decide) rfl ?_
  have lp30_2464 : ∀ (mz : Nat) (i2462 : Int32) (I2463 : pI) (J2464 : pJ), XI g n L I2463 → 0 ≤ i2462.toInt → i2462.toInt ≤ 4 → (5 - i2462.toInt).toNat < mz → WP g mX4_begin 30 [(0, .ref (ad g 63)), (1, .ref (ad g 6)), (2, .int i2462)] [] I2463 J2464 R (fun r I' J' R' => (XI g n L I' ∧ R' = R) ∧ r = none) := by
    intro mz
    induction mz with
    | zero =>
      intro i2462 I2463 J2464 hI2463 ai2462 bi2462 hmlp30_2464
      exact absurd hmlp30_2464 (Nat.not_lt_zero _)
    | succ mz ihlp30_2464 =>
      intro i2462 I2463 J2464 hI2463 ai2462 bi2462 hmlp30_2464
      have e2466 : I2463 (ad g 1) 1 = L := hI2463.2
      have b2467 := BT_get hI2463.1 1 1 2 (0) (0) (900) (by decide) 1 (by decide) (by decide)
      rw [e2466] at b2467
      refine WP_iload_n dX4_begin_30 rfl ?_
      refine WP_aload_n dX4_begin_31 rfl ?_
      refine WQ_geti dX4_begin_32 fX4_38 rfl (lyx_is hy 6 7 rfl) (BT_get hI2463.1 6 1 2 (0) (0) (4) (by decide) 1 (by decide) (by decide)) (fun v2468 ev2468 av2468 bv2468 => ?_)
      refine WQ_icmp_ge 61 dX4_begin_35 rfl (fun c2468 => ?_) (fun c2468 => ?_)
      · exact WP_vret dX4_begin_61 rfl ⟨⟨hI2463, rfl⟩, rfl⟩
      · refine WP_aload_n dX4_begin_38 rfl ?_
        refine WP_getr dX4_begin_39 fX4_15 rfl (lyx_is hy 63 4 rfl) (rfx hr 63 5 65 (by decide)) ?_
        refine WP_iload_n dX4_begin_42 rfl ?_
        refine WQ_bipush (7) (7) dX4_begin_43 rfl rfl (fun v2470 hv2470 => ?_)
        refine WQ_imulk (7) dX4_begin_45 hv2470 (by omega) (by omega) (fun v2471 hv2471 => ?_)
        refine WQ_iconst (0) (0) dX4_begin_46 rfl rfl (fun v2472 hv2472 => ?_)
        refine WQ_iadd dX4_begin_47 (by omega) (by omega) (fun v2473 hv2473 => ?_)
        refine WP_aload_n dX4_begin_48 rfl ?_
        refine WP_getr dX4_begin_49 fX4_43 rfl (lyx_is hy 6 7 rfl) (rfx hr 6 8 10 (by decide)) ?_
        refine WP_iload_n dX4_begin_52 rfl ?_
        refine WQ_iald dX4_begin_53 (lyx_is hy 10 13 rfl) (lyx_n hy 10 4 rfl) (by omega) (by omega) (fun q hq => BT_get hI2463.1 10 0 4 (0) (0) (60) (by decide) q (Nat.zero_le _) hq) (fun v2474 av2474 bv2474 ev2474 => ?_)
        clear ev2474
        refine WQ_iast dX4_begin_54 (lyx_is hy 65 13 rfl) (lyx_n hy 65 28 rfl) (by omega) (by omega) (fun I2475 eI2475 => ?_)
        have hI2475 : XI g n L I2475 := by rw [eI2475]; exact (fa_put hy hI2463 (c := 65) (k := 0) (s := i2462.toInt.toNat) (by decide) (by omega) (by decide) (by rw [cl (n := 7 * i2462.toInt.toNat + 0) (by omega)]) (fun _ => by omega) (fun _ => by omega))
        have e2476 : I2475 (ad g 1) 1 = L := by rw [eI2475, pp_ne _ _ (Or.inl (lyx_ne hy (by decide) (by decide) (by decide)))]; exact e2466
        have e2477 : I2475 (ad g 6) 1 = v2468 := by rw [eI2475, pp_ne _ _ (Or.inl (lyx_ne hy (by decide) (by decide) (by decide)))]; exact ev2468
        clear eI2475
        refine WP_iinc (ls' := [(0, _), (1, _), (2, _)]) dX4_begin_55 rfl (by decide) rfl ?_
        have hv2478 : (i2462 + Int32.ofInt (1)).toInt = i2462.toInt + (1) := ia_n rfl (by omega) (by omega)
        generalize i2462 + Int32.ofInt (1) = v2478 at hv2478 ⊢
        refine WP_goto 30 dX4_begin_58 rfl ?_
        exact WP_sub (fc rfl (fc rfl (fc rfl fn))) (ihlp30_2464 v2478 I2475 J2464 hI2475 (by omega) (by omega) (by omega))
  exact WP_sub (fc rfl (fc rfl (fc rfl fn))) (lp30_2464 _ v2461 I2456 J2454 hI2456 (by omega) (by omega) (Nat.lt_succ_self _))
set_option maxHeartbeats 4000000 in
set_option maxRecDepth 100000 in
theorem sx_begin_63_27 {g : GG} {n : Int} {L : Int32} (hy : LyX g)  {I : pI} {J : pJ} {R : pR} (hr : RfX g R) (hI : XI g n L I)   (hn : 0 ≤ n) : SP g mX4_begin [.ref (ad g 63), .ref (ad g 27)] I J R (fun r I' J' R' => (XI g n L I' ∧ R' = R) ∧ r = none) := by
  refine SP_of ⟨by decide, rfl⟩ (Nat.le_of_ble_eq_true rfl) ?_
  have e2479 : I (ad g 1) 1 = L := hI.2
  have b2480 := BT_get hI.1 1 1 2 (0) (0) (900) (by decide) 1 (by decide) (by decide)
  rw [e2479] at b2480
  refine WP_aload_n dX4_begin_0 rfl ?_
  refine WQ_iconst (0) (0) dX4_begin_1 rfl rfl (fun v2481 hv2481 => ?_)
  refine WQ_puti dX4_begin_2 fX4_18 rfl rfl (lyx_is hy 63 4 rfl) (fun I2482 eI2482 => ?_)
  have hI2482 : XI g n L I2482 := by rw [eI2482]; exact (xi_f0 hy hI (c := 63) (by decide) (Or.inl (by decide)) (by decide))
  have e2483 : I2482 (ad g 1) 1 = L := by rw [eI2482, pp_ne _ _ (Or.inl (lyx_ne hy (by decide) (by decide) (by decide)))]; exact e2479
  have e2484 : I2482 (ad g 63) 0 = v2481 := by rw [eI2482, pp_self]
  clear eI2482
  refine WP_aload_n dX4_begin_5 rfl ?_
  refine WQ_iconst (0) (0) dX4_begin_6 rfl rfl (fun v2485 hv2485 => ?_)
  refine WQ_puti dX4_begin_7 fX4_22 rfl rfl (lyx_is hy 63 4 rfl) (fun I2486 eI2486 => ?_)
  have hI2486 : XI g n L I2486 := by rw [eI2486]; exact (xi_f hy hI2482 (c := 63) (0) (1663200) (0) (by decide) (Or.inl (by decide)) (by decide) (by omega) (by omega))
  have e2487 : I2486 (ad g 1) 1 = L := by rw [eI2486, pp_ne _ _ (Or.inl (lyx_ne hy (by decide) (by decide) (by decide)))]; exact e2483
  have e2488 : I2486 (ad g 63) 0 = v2481 := by rw [eI2486, pp_ne _ _ (Or.inr (by decide))]; exact e2484
  have e2489 : I2486 (ad g 63) 1 = v2485 := by rw [eI2486, pp_self]
  clear eI2486
  refine WP_aload_n dX4_begin_10 rfl ?_
  refine WQ_iconst (0) (0) dX4_begin_11 rfl rfl (fun v2490 hv2490 => ?_)
  refine WQ_puti dX4_begin_12 fX4_25 rfl rfl (lyx_is hy 63 4 rfl) (fun I2491 eI2491 => ?_)
  have hI2491 : XI g n L I2491 := by rw [eI2491]; exact (xi_f0 hy hI2486 (c := 63) (by decide) (Or.inl (by decide)) (by decide))
  have e2492 : I2491 (ad g 1) 1 = L := by rw [eI2491, pp_ne _ _ (Or.inl (lyx_ne hy (by decide) (by decide) (by decide)))]; exact e2487
  have e2493 : I2491 (ad g 63) 0 = v2481 := by rw [eI2491, pp_ne _ _ (Or.inr (by decide))]; exact e2488
  have e2494 : I2491 (ad g 63) 1 = v2485 := by rw [eI2491, pp_ne _ _ (Or.inr (by decide))]; exact e2489
  have e2495 : I2491 (ad g 63) 2 = v2490 := by rw [eI2491, pp_self]
  clear eI2491
  refine WP_aload_n dX4_begin_15 rfl ?_
  refine WP_lconst (0) dX4_begin_16 rfl ?_
  obtain ⟨l2496, hl2496, el2496⟩ : ∃ v : Int64, v.toInt = 0 ∧ (0 : Int64) = v := ⟨_, rfl, rfl⟩
  rw [el2496]; clear el2496
  refine WQ_putl dX4_begin_17 fX4_28 rfl rfl (lyx_is hy 63 4 rfl) (fun J2497 eJ2497 => ?_)
  clear eJ2497
  refine WP_aload_n dX4_begin_20 rfl ?_
  refine WP_getr dX4_begin_21 fX4_15 rfl (lyx_is hy 63 4 rfl) (rfx hr 63 5 65 (by decide)) ?_
  refine WQ_iconst (0) (0) dX4_begin_24 rfl rfl (fun v2498 hv2498 => ?_)
  refine WP_callS2u dX4_begin_25 ⟨⟨⟨by decide, by decide⟩, zJ7_fill_53178⟩, lX4_32, tJ7_fill_53178⟩ (s_fill hy hr 65 28 rfl rfl (by decide) v2498) (Nat.le_of_ble_eq_true rfl) ?_
  obtain ⟨I2499, eI2499⟩ : ∃ I9 : pI, I9 = fi I2491 (ad g 65) 28 v2498 := ⟨_, rfl⟩
  rw [← eI2499]
  have hI2499 : XI g n L I2499 := by rw [eI2499]; exact (fa_fill hy hI2491 (c := 65) 28 (by decide) hv2498)
  have e2500 : I2499 (ad g 1) 1 = L := by rw [eI2499, fi_off (lyx_ne hy (by decide) (by decide) (by decide))]; exact e2492
  have e2501 : I2499 (ad g 63) 0 = v2481 := by rw [eI2499, fi_off (lyx_ne hy (by decide) (by decide) (by decide))]; exact e2493
  have e2502 : I2499 (ad g 63) 1 = v2485 := by rw [eI2499, fi_off (lyx_ne hy (by decide) (by decide) (by decide))]; exact e2494
  have e2503 : I2499 (ad g 63) 2 = v2490 := by rw [eI2499, fi_off (lyx_ne hy (by decide) (by decide) (by decide))]; exact e2495
  clear eI2499
  refine WQ_iconst (0) (0) dX4_begin_28 rfl rfl (fun v2504 hv2504 => ?_)
  refine WP_istore_n (ls' := [(0, _), (1, _), (2, _)]) dX4_begin_29 (by decide) rfl ?_
  have lp30_2507 : ∀ (mz : Nat) (i2505 : Int32) (I2506 : pI) (J2507 : pJ), XI g n L I2506 → 0 ≤ i2505.toInt → i2505.toInt ≤ 4 → (5 - i2505.toInt).toNat < mz → WP g mX4_begin 30 [(0, .ref (ad g 63)), (1, .ref (ad g 27)), (2, .int i2505)] [] I2506 J2507 R (fun r I' J' R' => (XI g n L I' ∧ R' = R) ∧ r = none) := by
    intro mz
    induction mz with
    | zero =>
      intro i2505 I2506 J2507 hI2506 ai2505 bi2505 hmlp30_2507
      exact absurd hmlp30_2507 (Nat.not_lt_zero _)
    | succ mz ihlp30_2507 =>
      intro i2505 I2506 J2507 hI2506 ai2505 bi2505 hmlp30_2507
      have e2509 : I2506 (ad g 1) 1 = L := hI2506.2
      have b2510 := BT_get hI2506.1 1 1 2 (0) (0) (900) (by decide) 1 (by decide) (by decide)
      rw [e2509] at b2510
      refine WP_iload_n dX4_begin_30 rfl ?_
      refine WP_aload_n dX4_begin_31 rfl ?_
      refine WQ_geti dX4_begin_32 fX4_38 rfl (lyx_is hy 27 7 rfl) (BT_get hI2506.1 27 1 2 (0) (0) (4) (by decide) 1 (by decide) (by decide)) (fun v2511 ev2511 av2511 bv2511 => ?_)
      refine WQ_icmp_ge 61 dX4_begin_35 rfl (fun c2511 => ?_) (fun c2511 => ?_)
      · exact WP_vret dX4_begin_61 rfl ⟨⟨hI2506, rfl⟩, rfl⟩
      · refine WP_aload_n dX4_begin_38 rfl ?_
        refine WP_getr dX4_begin_39 fX4_15 rfl (lyx_is hy 63 4 rfl) (rfx hr 63 5 65 (by decide)) ?_
        refine WP_iload_n dX4_begin_42 rfl ?_
        refine WQ_bipush (7) (7) dX4_begin_43 rfl rfl (fun v2513 hv2513 => ?_)
        refine WQ_imulk (7) dX4_begin_45 hv2513 (by omega) (by omega) (fun v2514 hv2514 => ?_)
        refine WQ_iconst (0) (0) dX4_begin_46 rfl rfl (fun v2515 hv2515 => ?_)
        refine WQ_iadd dX4_begin_47 (by omega) (by omega) (fun v2516 hv2516 => ?_)
        refine WP_aload_n dX4_begin_48 rfl ?_
        refine WP_getr dX4_begin_49 fX4_43 rfl (lyx_is hy 27 7 rfl) (rfx hr 27 8 31 (by decide)) ?_
        refine WP_iload_n dX4_begin_52 rfl ?_
        refine WQ_iald dX4_begin_53 (lyx_is hy 31 13 rfl) (lyx_n hy 31 4 rfl) (by omega) (by omega) (fun q hq => BT_get hI2506.1 31 0 4 (0) (0) (60) (by decide) q (Nat.zero_le _) hq) (fun v2517 av2517 bv2517 ev2517 => ?_)
        clear ev2517
        refine WQ_iast dX4_begin_54 (lyx_is hy 65 13 rfl) (lyx_n hy 65 28 rfl) (by omega) (by omega) (fun I2518 eI2518 => ?_)
        have hI2518 : XI g n L I2518 := by rw [eI2518]; exact (fa_put hy hI2506 (c := 65) (k := 0) (s := i2505.toInt.toNat) (by decide) (by omega) (by decide) (by rw [cl (n := 7 * i2505.toInt.toNat + 0) (by omega)]) (fun _ => by omega) (fun _ => by omega))
        have e2519 : I2518 (ad g 1) 1 = L := by rw [eI2518, pp_ne _ _ (Or.inl (lyx_ne hy (by decide) (by decide) (by decide)))]; exact e2509
        have e2520 : I2518 (ad g 27) 1 = v2511 := by rw [eI2518, pp_ne _ _ (Or.inl (lyx_ne hy (by decide) (by decide) (by decide)))]; exact ev2511
        clear eI2518
        refine WP_iinc (ls' := [(0, _), (1, _), (2, _)]) dX4_begin_55 rfl (by decide) rfl ?_
        have hv2521 : (i2505 + Int32.ofInt (1)).toInt = i2505.toInt + (1) := ia_n rfl (by omega) (by omega)
        generalize i2505 + Int32.ofInt (1) = v2521 at hv2521 ⊢
        refine WP_goto 30 dX4_begin_58 rfl ?_
        exact WP_sub (fc rfl (fc rfl (fc rfl fn))) (ihlp30_2507 v2521 I2518 J2507 hI2518 (by omega) (by omega) (by omega))
  exact WP_sub (fc rfl (fc rfl (fc rfl fn))) (lp30_2507 _ v2504 I2499 J2497 hI2499 (by omega) (by omega) (Nat.lt_succ_self _))
set_option maxHeartbeats 4000000 in
set_option maxRecDepth 100000 in
theorem sx_become_63_53 {g : GG} {n : Int} {L : Int32} (hy : LyX g)  {I : pI} {J : pJ} {R : pR} (hr : RfX g R) (hI : XI g n L I)   : SP g mX4_become [.ref (ad g 63), .ref (ad g 53)] I J R (fun r I' J' R' => (XI g n L I' ∧ R' = R) ∧ r = none) := by
  refine SP_of ⟨by decide, rfl⟩ (Nat.le_of_ble_eq_true rfl) ?_
  have e2522 : I (ad g 1) 1 = L := hI.2
  have b2523 := BT_get hI.1 1 1 2 (0) (0) (900) (by decide) 1 (by decide) (by decide)
  rw [e2522] at b2523
  refine WP_aload_n dX4_become_0 rfl ?_
  refine WP_aload_n dX4_become_1 rfl ?_
  refine WQ_getiu dX4_become_2 fX4_18 rfl (lyx_is hy 53 4 rfl) (fun v2524 ev2524 => ?_)
  refine WQ_puti dX4_become_5 fX4_18 rfl rfl (lyx_is hy 63 4 rfl) (fun I2525 eI2525 => ?_)
  have hI2525 : XI g n L I2525 := by rw [eI2525]; exact (xi_f0 hy hI (c := 63) (by decide) (Or.inl (by decide)) (by decide))
  have e2526 : I2525 (ad g 1) 1 = L := by rw [eI2525, pp_ne _ _ (Or.inl (lyx_ne hy (by decide) (by decide) (by decide)))]; exact e2522
  have e2527 : I2525 (ad g 53) 0 = v2524 := by rw [eI2525, pp_ne _ _ (Or.inl (lyx_ne hy (by decide) (by decide) (by decide)))]; exact ev2524
  have e2528 : I2525 (ad g 63) 0 = v2524 := by rw [eI2525, pp_self]
  clear eI2525
  refine WP_aload_n dX4_become_8 rfl ?_
  refine WP_aload_n dX4_become_9 rfl ?_
  refine WQ_geti dX4_become_10 fX4_22 rfl (lyx_is hy 53 4 rfl) (BT_get hI2525.1 53 1 2 (0) (1663200) (0) (by decide) 1 (by decide) (by decide)) (fun v2529 ev2529 av2529 bv2529 => ?_)
  refine WQ_puti dX4_become_13 fX4_22 rfl rfl (lyx_is hy 63 4 rfl) (fun I2530 eI2530 => ?_)
  have hI2530 : XI g n L I2530 := by rw [eI2530]; exact (xi_f hy hI2525 (c := 63) (0) (1663200) (0) (by decide) (Or.inl (by decide)) (by decide) (by omega) (by omega))
  have e2531 : I2530 (ad g 1) 1 = L := by rw [eI2530, pp_ne _ _ (Or.inl (lyx_ne hy (by decide) (by decide) (by decide)))]; exact e2526
  have e2532 : I2530 (ad g 53) 0 = v2524 := by rw [eI2530, pp_ne _ _ (Or.inl (lyx_ne hy (by decide) (by decide) (by decide)))]; exact e2527
  have e2533 : I2530 (ad g 63) 0 = v2524 := by rw [eI2530, pp_ne _ _ (Or.inr (by decide))]; exact e2528
  have e2534 : I2530 (ad g 53) 1 = v2529 := by rw [eI2530, pp_ne _ _ (Or.inl (lyx_ne hy (by decide) (by decide) (by decide)))]; exact ev2529
  have e2535 : I2530 (ad g 63) 1 = v2529 := by rw [eI2530, pp_self]
  clear eI2530
  refine WP_aload_n dX4_become_16 rfl ?_
  refine WP_aload_n dX4_become_17 rfl ?_
  refine WQ_getiu dX4_become_18 fX4_25 rfl (lyx_is hy 53 4 rfl) (fun v2536 ev2536 => ?_)
  refine WQ_puti dX4_become_21 fX4_25 rfl rfl (lyx_is hy 63 4 rfl) (fun I2537 eI2537 => ?_)
  have hI2537 : XI g n L I2537 := by rw [eI2537]; exact (xi_f0 hy hI2530 (c := 63) (by decide) (Or.inl (by decide)) (by decide))
  have e2538 : I2537 (ad g 1) 1 = L := by rw [eI2537, pp_ne _ _ (Or.inl (lyx_ne hy (by decide) (by decide) (by decide)))]; exact e2531
  have e2539 : I2537 (ad g 53) 0 = v2524 := by rw [eI2537, pp_ne _ _ (Or.inl (lyx_ne hy (by decide) (by decide) (by decide)))]; exact e2532
  have e2540 : I2537 (ad g 63) 0 = v2524 := by rw [eI2537, pp_ne _ _ (Or.inr (by decide))]; exact e2533
  have e2541 : I2537 (ad g 53) 1 = v2529 := by rw [eI2537, pp_ne _ _ (Or.inl (lyx_ne hy (by decide) (by decide) (by decide)))]; exact e2534
  have e2542 : I2537 (ad g 63) 1 = v2529 := by rw [eI2537, pp_ne _ _ (Or.inr (by decide))]; exact e2535
  have e2543 : I2537 (ad g 53) 2 = v2536 := by rw [eI2537, pp_ne _ _ (Or.inl (lyx_ne hy (by decide) (by decide) (by decide)))]; exact ev2536
  have e2544 : I2537 (ad g 63) 2 = v2536 := by rw [eI2537, pp_self]
  clear eI2537
  refine WP_aload_n dX4_become_24 rfl ?_
  refine WP_aload_n dX4_become_25 rfl ?_
  refine WQ_getl dX4_become_26 fX4_28 rfl (lyx_is hy 53 4 rfl) (fun l2545 el2545 => ?_)
  refine WQ_putl dX4_become_29 fX4_28 rfl rfl (lyx_is hy 63 4 rfl) (fun J2546 eJ2546 => ?_)
  clear eJ2546
  refine WP_aload_n dX4_become_32 rfl ?_
  refine WP_getr dX4_become_33 fX4_9 rfl (lyx_is hy 53 4 rfl) (rfx hr 53 4 54 (by decide)) ?_
  refine WQ_iconst (0) (0) dX4_become_36 rfl rfl (fun v2547 hv2547 => ?_)
  refine WP_aload_n dX4_become_37 rfl ?_
  refine WP_getr dX4_become_38 fX4_9 rfl (lyx_is hy 63 4 rfl) (rfx hr 63 4 64 (by decide)) ?_
  refine WQ_iconst (0) (0) dX4_become_41 rfl rfl (fun v2548 hv2548 => ?_)
  refine WP_aload_n dX4_become_42 rfl ?_
  refine WP_getr dX4_become_43 fX4_9 rfl (lyx_is hy 63 4 rfl) (rfx hr 63 4 64 (by decide)) ?_
  refine WP_alen dX4_become_46 (lyx_is hy 64 13 rfl) (by decide) ?_
  rw [(lyx_n hy 64 4 rfl)]
  obtain ⟨v2549, hv2549, ev2549⟩ : ∃ v : Int32, v.toInt = 4 ∧ nI 4 = v := ⟨_, nI_toInt (by decide), rfl⟩
  rw [ev2549]; clear ev2549
  refine WQ_copy0 (N := 4) dX4_become_47 lX4_46 ⟨by decide, Nat.le_of_ble_eq_true rfl⟩ (lyx_is hy 54 13 rfl) (lyx_is hy 64 13 rfl) hv2547 hv2548 hv2549 (lyx_n hy 54 4 rfl) (lyx_n hy 64 4 rfl) (fun I2550 fI2550 oI2550 => ?_)
  have hI2550 : XI g n L I2550 := xi_copy hy hI2537 54 64 4 (by decide) (by decide) fI2550 oI2550
  clear fI2550 oI2550
  have e2551 : I2550 (ad g 1) 1 = L := hI2550.2
  have b2552 := BT_get hI2550.1 1 1 2 (0) (0) (900) (by decide) 1 (by decide) (by decide)
  rw [e2551] at b2552
  refine WP_aload_n dX4_become_50 rfl ?_
  refine WP_getr dX4_become_51 fX4_15 rfl (lyx_is hy 53 4 rfl) (rfx hr 53 5 55 (by decide)) ?_
  refine WQ_iconst (0) (0) dX4_become_54 rfl rfl (fun v2553 hv2553 => ?_)
  refine WP_aload_n dX4_become_55 rfl ?_
  refine WP_getr dX4_become_56 fX4_15 rfl (lyx_is hy 63 4 rfl) (rfx hr 63 5 65 (by decide)) ?_
  refine WQ_iconst (0) (0) dX4_become_59 rfl rfl (fun v2554 hv2554 => ?_)
  refine WP_aload_n dX4_become_60 rfl ?_
  refine WP_getr dX4_become_61 fX4_15 rfl (lyx_is hy 63 4 rfl) (rfx hr 63 5 65 (by decide)) ?_
  refine WP_alen dX4_become_64 (lyx_is hy 65 13 rfl) (by decide) ?_
  rw [(lyx_n hy 65 28 rfl)]
  obtain ⟨v2555, hv2555, ev2555⟩ : ∃ v : Int32, v.toInt = 28 ∧ nI 28 = v := ⟨_, nI_toInt (by decide), rfl⟩
  rw [ev2555]; clear ev2555
  refine WQ_copy0 (N := 28) dX4_become_65 lX4_46 ⟨by decide, Nat.le_of_ble_eq_true rfl⟩ (lyx_is hy 55 13 rfl) (lyx_is hy 65 13 rfl) hv2553 hv2554 hv2555 (lyx_n hy 55 28 rfl) (lyx_n hy 65 28 rfl) (fun I2556 fI2556 oI2556 => ?_)
  have hI2556 : XI g n L I2556 := xi_copy hy hI2550 55 65 28 (by decide) (by decide) fI2556 oI2556
  clear fI2556 oI2556
  have e2557 : I2556 (ad g 1) 1 = L := hI2556.2
  have b2558 := BT_get hI2556.1 1 1 2 (0) (0) (900) (by decide) 1 (by decide) (by decide)
  rw [e2557] at b2558
  exact WP_vret dX4_become_68 rfl ⟨⟨hI2556, rfl⟩, rfl⟩
set_option maxHeartbeats 4000000 in
set_option maxRecDepth 100000 in
theorem sx_sum_66 {g : GG} {n : Int} {L : Int32} (hy : LyX g)  {I : pI} {J : pJ} {R : pR} (hr : RfX g R) (hI : XI g n L I) (wh : Int32) (wh_lo : 0 ≤ wh.toInt) (wh_hi : wh.toInt ≤ 6) : SP g mX4_sum [.ref (ad g 66), .int wh] I J R (fun r I' J' R' => (I' = I ∧ J' = J ∧ R' = R) ∧ ∃ v : Int32, r = some (.int v)) := by
  refine SP_of ⟨by decide, rfl⟩ (Nat.le_of_ble_eq_true rfl) ?_
  have e2559 : I (ad g 1) 1 = L := hI.2
  have b2560 := BT_get hI.1 1 1 2 (0) (0) (900) (by decide) 1 (by decide) (by decide)
  rw [e2559] at b2560
  refine WQ_iconst (0) (0) dX4_sum_0 rfl rfl (fun v2561 hv2561 => ?_)
  refine WP_istore_n (ls' := [(0, _), (1, _), (2, _)]) dX4_sum_1 (by decide) rfl ?_
  refine WQ_iconst (0) (0) dX4_sum_2 rfl rfl (fun v2562 hv2562 => ?_)
  refine WP_istore_n (ls' := [(0, _), (1, _), (2, _), (3, _)]) dX4_sum_3 (by decide) rfl ?_
  have lp4_2564 : ∀ (mz : Nat) (i2563 : Int32) (i2564 : Int32), 0 ≤ i2564.toInt → i2564.toInt ≤ 4 → (5 - i2564.toInt).toNat < mz → WP g mX4_sum 4 [(0, .ref (ad g 66)), (1, .int wh), (2, .int i2563), (3, .int i2564)] [] I J R (fun r I' J' R' => (I' = I ∧ J' = J ∧ R' = R) ∧ ∃ v : Int32, r = some (.int v)) := by
    intro mz
    induction mz with
    | zero =>
      intro i2563 i2564 ai2564 bi2564 hmlp4_2564
      exact absurd hmlp4_2564 (Nat.not_lt_zero _)
    | succ mz ihlp4_2564 =>
      intro i2563 i2564 ai2564 bi2564 hmlp4_2564
      refine WP_iload_n dX4_sum_4 rfl ?_
      refine WQ_iconst (4) (4) dX4_sum_5 rfl rfl (fun v2566 hv2566 => ?_)
      refine WQ_icmp_ge 29 dX4_sum_6 rfl (fun c2566 => ?_) (fun c2566 => ?_)
      · refine WP_iload_n dX4_sum_29 rfl ?_
        exact WP_iret dX4_sum_30 rfl ⟨⟨rfl, rfl, rfl⟩, _, rfl⟩
      · refine WP_iload_n dX4_sum_9 rfl ?_
        refine WP_aload_n dX4_sum_10 rfl ?_
        refine WP_getr dX4_sum_11 fX4_15 rfl (lyx_is hy 66 4 rfl) (rfx hr 66 5 68 (by decide)) ?_
        refine WP_iload_n dX4_sum_14 rfl ?_
        refine WQ_bipush (7) (7) dX4_sum_15 rfl rfl (fun v2568 hv2568 => ?_)
        refine WQ_imulk (7) dX4_sum_17 hv2568 (by omega) (by omega) (fun v2569 hv2569 => ?_)
        refine WP_iload_n dX4_sum_18 rfl ?_
        refine WQ_iadd dX4_sum_19 (by omega) (by omega) (fun v2570 hv2570 => ?_)
        refine WQ_ialdu dX4_sum_20 (lyx_is hy 68 13 rfl) (lyx_n hy 68 28 rfl) (by omega) (by omega) (fun v2571 => ?_)
        refine WQ_iaddu dX4_sum_21 (fun v2572 => ?_)
        refine WP_istore_n (ls' := [(0, _), (1, _), (2, _), (3, _)]) dX4_sum_22 (by decide) rfl ?_
        refine WP_iinc (ls' := [(0, _), (1, _), (2, _), (3, _)]) dX4_sum_23 rfl (by decide) rfl ?_
        have hv2573 : (i2564 + Int32.ofInt (1)).toInt = i2564.toInt + (1) := ia_n rfl (by omega) (by omega)
        generalize i2564 + Int32.ofInt (1) = v2573 at hv2573 ⊢
        refine WP_goto 4 dX4_sum_26 rfl ?_
        exact WP_sub (fc rfl (fc rfl (fc rfl (fc rfl fn)))) (ihlp4_2564 v2572 v2573 (by omega) (by omega) (by omega))
  exact WP_sub (fc rfl (fc rfl (fc rfl (fc rfl fn)))) (lp4_2564 _ v2561 v2562 (by omega) (by omega) (Nat.lt_succ_self _))
set_option maxHeartbeats 4000000 in
set_option maxRecDepth 100000 in
theorem sx_begin_66_6 {g : GG} {n : Int} {L : Int32} (hy : LyX g)  {I : pI} {J : pJ} {R : pR} (hr : RfX g R) (hI : XI g n L I)   (hn : 0 ≤ n) : SP g mX4_begin [.ref (ad g 66), .ref (ad g 6)] I J R (fun r I' J' R' => (XI g n L I' ∧ R' = R) ∧ r = none) := by
  refine SP_of ⟨by decide, rfl⟩ (Nat.le_of_ble_eq_true rfl) ?_
  have e2574 : I (ad g 1) 1 = L := hI.2
  have b2575 := BT_get hI.1 1 1 2 (0) (0) (900) (by decide) 1 (by decide) (by decide)
  rw [e2574] at b2575
  refine WP_aload_n dX4_begin_0 rfl ?_
  refine WQ_iconst (0) (0) dX4_begin_1 rfl rfl (fun v2576 hv2576 => ?_)
  refine WQ_puti dX4_begin_2 fX4_18 rfl rfl (lyx_is hy 66 4 rfl) (fun I2577 eI2577 => ?_)
  have hI2577 : XI g n L I2577 := by rw [eI2577]; exact (xi_f0 hy hI (c := 66) (by decide) (Or.inl (by decide)) (by decide))
  have e2578 : I2577 (ad g 1) 1 = L := by rw [eI2577, pp_ne _ _ (Or.inl (lyx_ne hy (by decide) (by decide) (by decide)))]; exact e2574
  have e2579 : I2577 (ad g 66) 0 = v2576 := by rw [eI2577, pp_self]
  clear eI2577
  refine WP_aload_n dX4_begin_5 rfl ?_
  refine WQ_iconst (0) (0) dX4_begin_6 rfl rfl (fun v2580 hv2580 => ?_)
  refine WQ_puti dX4_begin_7 fX4_22 rfl rfl (lyx_is hy 66 4 rfl) (fun I2581 eI2581 => ?_)
  have hI2581 : XI g n L I2581 := by rw [eI2581]; exact (xi_f hy hI2577 (c := 66) (0) (1663200) (0) (by decide) (Or.inl (by decide)) (by decide) (by omega) (by omega))
  have e2582 : I2581 (ad g 1) 1 = L := by rw [eI2581, pp_ne _ _ (Or.inl (lyx_ne hy (by decide) (by decide) (by decide)))]; exact e2578
  have e2583 : I2581 (ad g 66) 0 = v2576 := by rw [eI2581, pp_ne _ _ (Or.inr (by decide))]; exact e2579
  have e2584 : I2581 (ad g 66) 1 = v2580 := by rw [eI2581, pp_self]
  clear eI2581
  refine WP_aload_n dX4_begin_10 rfl ?_
  refine WQ_iconst (0) (0) dX4_begin_11 rfl rfl (fun v2585 hv2585 => ?_)
  refine WQ_puti dX4_begin_12 fX4_25 rfl rfl (lyx_is hy 66 4 rfl) (fun I2586 eI2586 => ?_)
  have hI2586 : XI g n L I2586 := by rw [eI2586]; exact (xi_f0 hy hI2581 (c := 66) (by decide) (Or.inl (by decide)) (by decide))
  have e2587 : I2586 (ad g 1) 1 = L := by rw [eI2586, pp_ne _ _ (Or.inl (lyx_ne hy (by decide) (by decide) (by decide)))]; exact e2582
  have e2588 : I2586 (ad g 66) 0 = v2576 := by rw [eI2586, pp_ne _ _ (Or.inr (by decide))]; exact e2583
  have e2589 : I2586 (ad g 66) 1 = v2580 := by rw [eI2586, pp_ne _ _ (Or.inr (by decide))]; exact e2584
  have e2590 : I2586 (ad g 66) 2 = v2585 := by rw [eI2586, pp_self]
  clear eI2586
  refine WP_aload_n dX4_begin_15 rfl ?_
  refine WP_lconst (0) dX4_begin_16 rfl ?_
  obtain ⟨l2591, hl2591, el2591⟩ : ∃ v : Int64, v.toInt = 0 ∧ (0 : Int64) = v := ⟨_, rfl, rfl⟩
  rw [el2591]; clear el2591
  refine WQ_putl dX4_begin_17 fX4_28 rfl rfl (lyx_is hy 66 4 rfl) (fun J2592 eJ2592 => ?_)
  clear eJ2592
  refine WP_aload_n dX4_begin_20 rfl ?_
  refine WP_getr dX4_begin_21 fX4_15 rfl (lyx_is hy 66 4 rfl) (rfx hr 66 5 68 (by decide)) ?_
  refine WQ_iconst (0) (0) dX4_begin_24 rfl rfl (fun v2593 hv2593 => ?_)
  refine WP_callS2u dX4_begin_25 ⟨⟨⟨by decide, by decide⟩, zJ7_fill_53178⟩, lX4_32, tJ7_fill_53178⟩ (s_fill hy hr 68 28 rfl rfl (by decide) v2593) (Nat.le_of_ble_eq_true rfl) ?_
  obtain ⟨I2594, eI2594⟩ : ∃ I9 : pI, I9 = fi I2586 (ad g 68) 28 v2593 := ⟨_, rfl⟩
  rw [← eI2594]
  have hI2594 : XI g n L I2594 := by rw [eI2594]; exact (fa_fill hy hI2586 (c := 68) 28 (by decide) hv2593)
  have e2595 : I2594 (ad g 1) 1 = L := by rw [eI2594, fi_off (lyx_ne hy (by decide) (by decide) (by decide))]; exact e2587
  have e2596 : I2594 (ad g 66) 0 = v2576 := by rw [eI2594, fi_off (lyx_ne hy (by decide) (by decide) (by decide))]; exact e2588
  have e2597 : I2594 (ad g 66) 1 = v2580 := by rw [eI2594, fi_off (lyx_ne hy (by decide) (by decide) (by decide))]; exact e2589
  have e2598 : I2594 (ad g 66) 2 = v2585 := by rw [eI2594, fi_off (lyx_ne hy (by decide) (by decide) (by decide))]; exact e2590
  clear eI2594
  refine WQ_iconst (0) (0) dX4_begin_28 rfl rfl (fun v2599 hv2599 => ?_)
  refine WP_istore_n (ls' := [(0, _), (1, _), (2, _)]) dX4_begin_29 (by decide) rfl ?_
  have lp30_2602 : ∀ (mz : Nat) (i2600 : Int32) (I2601 : pI) (J2602 : pJ), XI g n L I2601 → 0 ≤ i2600.toInt → i2600.toInt ≤ 4 → (5 - i2600.toInt).toNat < mz → WP g mX4_begin 30 [(0, .ref (ad g 66)), (1, .ref (ad g 6)), (2, .int i2600)] [] I2601 J2602 R (fun r I' J' R' => (XI g n L I' ∧ R' = R) ∧ r = none) := by
    intro mz
    induction mz with
    | zero =>
      intro i2600 I2601 J2602 hI2601 ai2600 bi2600 hmlp30_2602
      exact absurd hmlp30_2602 (Nat.not_lt_zero _)
    | succ mz ihlp30_2602 =>
      intro i2600 I2601 J2602 hI2601 ai2600 bi2600 hmlp30_2602
      have e2604 : I2601 (ad g 1) 1 = L := hI2601.2
      have b2605 := BT_get hI2601.1 1 1 2 (0) (0) (900) (by decide) 1 (by decide) (by decide)
      rw [e2604] at b2605
      refine WP_iload_n dX4_begin_30 rfl ?_
      refine WP_aload_n dX4_begin_31 rfl ?_
      refine WQ_geti dX4_begin_32 fX4_38 rfl (lyx_is hy 6 7 rfl) (BT_get hI2601.1 6 1 2 (0) (0) (4) (by decide) 1 (by decide) (by decide)) (fun v2606 ev2606 av2606 bv2606 => ?_)
      refine WQ_icmp_ge 61 dX4_begin_35 rfl (fun c2606 => ?_) (fun c2606 => ?_)
      · exact WP_vret dX4_begin_61 rfl ⟨⟨hI2601, rfl⟩, rfl⟩
      · refine WP_aload_n dX4_begin_38 rfl ?_
        refine WP_getr dX4_begin_39 fX4_15 rfl (lyx_is hy 66 4 rfl) (rfx hr 66 5 68 (by decide)) ?_
        refine WP_iload_n dX4_begin_42 rfl ?_
        refine WQ_bipush (7) (7) dX4_begin_43 rfl rfl (fun v2608 hv2608 => ?_)
        refine WQ_imulk (7) dX4_begin_45 hv2608 (by omega) (by omega) (fun v2609 hv2609 => ?_)
        refine WQ_iconst (0) (0) dX4_begin_46 rfl rfl (fun v2610 hv2610 => ?_)
        refine WQ_iadd dX4_begin_47 (by omega) (by omega) (fun v2611 hv2611 => ?_)
        refine WP_aload_n dX4_begin_48 rfl ?_
        refine WP_getr dX4_begin_49 fX4_43 rfl (lyx_is hy 6 7 rfl) (rfx hr 6 8 10 (by decide)) ?_
        refine WP_iload_n dX4_begin_52 rfl ?_
        refine WQ_iald dX4_begin_53 (lyx_is hy 10 13 rfl) (lyx_n hy 10 4 rfl) (by omega) (by omega) (fun q hq => BT_get hI2601.1 10 0 4 (0) (0) (60) (by decide) q (Nat.zero_le _) hq) (fun v2612 av2612 bv2612 ev2612 => ?_)
        clear ev2612
        refine WQ_iast dX4_begin_54 (lyx_is hy 68 13 rfl) (lyx_n hy 68 28 rfl) (by omega) (by omega) (fun I2613 eI2613 => ?_)
        have hI2613 : XI g n L I2613 := by rw [eI2613]; exact (fa_put hy hI2601 (c := 68) (k := 0) (s := i2600.toInt.toNat) (by decide) (by omega) (by decide) (by rw [cl (n := 7 * i2600.toInt.toNat + 0) (by omega)]) (fun _ => by omega) (fun _ => by omega))
        have e2614 : I2613 (ad g 1) 1 = L := by rw [eI2613, pp_ne _ _ (Or.inl (lyx_ne hy (by decide) (by decide) (by decide)))]; exact e2604
        have e2615 : I2613 (ad g 6) 1 = v2606 := by rw [eI2613, pp_ne _ _ (Or.inl (lyx_ne hy (by decide) (by decide) (by decide)))]; exact ev2606
        clear eI2613
        refine WP_iinc (ls' := [(0, _), (1, _), (2, _)]) dX4_begin_55 rfl (by decide) rfl ?_
        have hv2616 : (i2600 + Int32.ofInt (1)).toInt = i2600.toInt + (1) := ia_n rfl (by omega) (by omega)
        generalize i2600 + Int32.ofInt (1) = v2616 at hv2616 ⊢
        refine WP_goto 30 dX4_begin_58 rfl ?_
        exact WP_sub (fc rfl (fc rfl (fc rfl fn))) (ihlp30_2602 v2616 I2613 J2602 hI2613 (by omega) (by omega) (by omega))
  exact WP_sub (fc rfl (fc rfl (fc rfl fn))) (lp30_2602 _ v2599 I2594 J2592 hI2594 (by omega) (by omega) (Nat.lt_succ_self _))
set_option maxHeartbeats 4000000 in
set_option maxRecDepth 100000 in
theorem sx_begin_66_27 {g : GG} {n : Int} {L : Int32} (hy : LyX g)  {I : pI} {J : pJ} {R : pR} (hr : RfX g R) (hI : XI g n L I)   (hn : 0 ≤ n) : SP g mX4_begin [.ref (ad g 66), .ref (ad g 27)] I J R (fun r I' J' R' => (XI g n L I' ∧ R' = R) ∧ r = none) := by
  refine SP_of ⟨by decide, rfl⟩ (Nat.le_of_ble_eq_true rfl) ?_
  have e2617 : I (ad g 1) 1 = L := hI.2
  have b2618 := BT_get hI.1 1 1 2 (0) (0) (900) (by decide) 1 (by decide) (by decide)
  rw [e2617] at b2618
  refine WP_aload_n dX4_begin_0 rfl ?_
  refine WQ_iconst (0) (0) dX4_begin_1 rfl rfl (fun v2619 hv2619 => ?_)
  refine WQ_puti dX4_begin_2 fX4_18 rfl rfl (lyx_is hy 66 4 rfl) (fun I2620 eI2620 => ?_)
  have hI2620 : XI g n L I2620 := by rw [eI2620]; exact (xi_f0 hy hI (c := 66) (by decide) (Or.inl (by decide)) (by decide))
  have e2621 : I2620 (ad g 1) 1 = L := by rw [eI2620, pp_ne _ _ (Or.inl (lyx_ne hy (by decide) (by decide) (by decide)))]; exact e2617
  have e2622 : I2620 (ad g 66) 0 = v2619 := by rw [eI2620, pp_self]
  clear eI2620
  refine WP_aload_n dX4_begin_5 rfl ?_
  refine WQ_iconst (0) (0) dX4_begin_6 rfl rfl (fun v2623 hv2623 => ?_)
  refine WQ_puti dX4_begin_7 fX4_22 rfl rfl (lyx_is hy 66 4 rfl) (fun I2624 eI2624 => ?_)
  have hI2624 : XI g n L I2624 := by rw [eI2624]; exact (xi_f hy hI2620 (c := 66) (0) (1663200) (0) (by decide) (Or.inl (by decide)) (by decide) (by omega) (by omega))
  have e2625 : I2624 (ad g 1) 1 = L := by rw [eI2624, pp_ne _ _ (Or.inl (lyx_ne hy (by decide) (by decide) (by decide)))]; exact e2621
  have e2626 : I2624 (ad g 66) 0 = v2619 := by rw [eI2624, pp_ne _ _ (Or.inr (by decide))]; exact e2622
  have e2627 : I2624 (ad g 66) 1 = v2623 := by rw [eI2624, pp_self]
  clear eI2624
  refine WP_aload_n dX4_begin_10 rfl ?_
  refine WQ_iconst (0) (0) dX4_begin_11 rfl rfl (fun v2628 hv2628 => ?_)
  refine WQ_puti dX4_begin_12 fX4_25 rfl rfl (lyx_is hy 66 4 rfl) (fun I2629 eI2629 => ?_)
  have hI2629 : XI g n L I2629 := by rw [eI2629]; exact (xi_f0 hy hI2624 (c := 66) (by decide) (Or.inl (by decide)) (by decide))
  have e2630 : I2629 (ad g 1) 1 = L := by rw [eI2629, pp_ne _ _ (Or.inl (lyx_ne hy (by decide) (by decide) (by decide)))]; exact e2625
  have e2631 : I2629 (ad g 66) 0 = v2619 := by rw [eI2629, pp_ne _ _ (Or.inr (by decide))]; exact e2626
  have e2632 : I2629 (ad g 66) 1 = v2623 := by rw [eI2629, pp_ne _ _ (Or.inr (by decide))]; exact e2627
  have e2633 : I2629 (ad g 66) 2 = v2628 := by rw [eI2629, pp_self]
  clear eI2629
  refine WP_aload_n dX4_begin_15 rfl ?_
  refine WP_lconst (0) dX4_begin_16 rfl ?_
  obtain ⟨l2634, hl2634, el2634⟩ : ∃ v : Int64, v.toInt = 0 ∧ (0 : Int64) = v := ⟨_, rfl, rfl⟩
  rw [el2634]; clear el2634
  refine WQ_putl dX4_begin_17 fX4_28 rfl rfl (lyx_is hy 66 4 rfl) (fun J2635 eJ2635 => ?_)
  clear eJ2635
  refine WP_aload_n dX4_begin_20 rfl ?_
  refine WP_getr dX4_begin_21 fX4_15 rfl (lyx_is hy 66 4 rfl) (rfx hr 66 5 68 (by decide)) ?_
  refine WQ_iconst (0) (0) dX4_begin_24 rfl rfl (fun v2636 hv2636 => ?_)
  refine WP_callS2u dX4_begin_25 ⟨⟨⟨by decide, by decide⟩, zJ7_fill_53178⟩, lX4_32, tJ7_fill_53178⟩ (s_fill hy hr 68 28 rfl rfl (by decide) v2636) (Nat.le_of_ble_eq_true rfl) ?_
  obtain ⟨I2637, eI2637⟩ : ∃ I9 : pI, I9 = fi I2629 (ad g 68) 28 v2636 := ⟨_, rfl⟩
  rw [← eI2637]
  have hI2637 : XI g n L I2637 := by rw [eI2637]; exact (fa_fill hy hI2629 (c := 68) 28 (by decide) hv2636)
  have e2638 : I2637 (ad g 1) 1 = L := by rw [eI2637, fi_off (lyx_ne hy (by decide) (by decide) (by decide))]; exact e2630
  have e2639 : I2637 (ad g 66) 0 = v2619 := by rw [eI2637, fi_off (lyx_ne hy (by decide) (by decide) (by decide))]; exact e2631
  have e2640 : I2637 (ad g 66) 1 = v2623 := by rw [eI2637, fi_off (lyx_ne hy (by decide) (by decide) (by decide))]; exact e2632
  have e2641 : I2637 (ad g 66) 2 = v2628 := by rw [eI2637, fi_off (lyx_ne hy (by decide) (by decide) (by decide))]; exact e2633
  clear eI2637
  refine WQ_iconst (0) (0) dX4_begin_28 rfl rfl (fun v2642 hv2642 => ?_)
  refine WP_istore_n (ls' := [(0, _), (1, _), (2, _)]) dX4_begin_29 (by decide) rfl ?_
  have lp30_2645 : ∀ (mz : Nat) (i2643 : Int32) (I2644 : pI) (J2645 : pJ), XI g n L I2644 → 0 ≤ i2643.toInt → i2643.toInt ≤ 4 → (5 - i2643.toInt).toNat < mz → WP g mX4_begin 30 [(0, .ref (ad g 66)), (1, .ref (ad g 27)), (2, .int i2643)] [] I2644 J2645 R (fun r I' J' R' => (XI g n L I' ∧ R' = R) ∧ r = none) := by
    intro mz
    induction mz with
    | zero =>
      intro i2643 I2644 J2645 hI2644 ai2643 bi2643 hmlp30_2645
      exact absurd hmlp30_2645 (Nat.not_lt_zero _)
    | succ mz ihlp30_2645 =>
      intro i2643 I2644 J2645 hI2644 ai2643 bi2643 hmlp30_2645
      have e2647 : I2644 (ad g 1) 1 = L := hI2644.2
      have b2648 := BT_get hI2644.1 1 1 2 (0) (0) (900) (by decide) 1 (by decide) (by decide)
      rw [e2647] at b2648
      refine WP_iload_n dX4_begin_30 rfl ?_
      refine WP_aload_n dX4_begin_31 rfl ?_
      refine WQ_geti dX4_begin_32 fX4_38 rfl (lyx_is hy 27 7 rfl) (BT_get hI2644.1 27 1 2 (0) (0) (4) (by decide) 1 (by decide) (by decide)) (fun v2649 ev2649 av2649 bv2649 => ?_)
      refine WQ_icmp_ge 61 dX4_begin_35 rfl (fun c2649 => ?_) (fun c2649 => ?_)
      · exact WP_vret dX4_begin_61 rfl ⟨⟨hI2644, rfl⟩, rfl⟩
      · refine WP_aload_n dX4_begin_38 rfl ?_
        refine WP_getr dX4_begin_39 fX4_15 rfl (lyx_is hy 66 4 rfl) (rfx hr 66 5 68 (by decide)) ?_
        refine WP_iload_n dX4_begin_42 rfl ?_
        refine WQ_bipush (7) (7) dX4_begin_43 rfl rfl (fun v2651 hv2651 => ?_)
        refine WQ_imulk (7) dX4_begin_45 hv2651 (by omega) (by omega) (fun v2652 hv2652 => ?_)
        refine WQ_iconst (0) (0) dX4_begin_46 rfl rfl (fun v2653 hv2653 => ?_)
        refine WQ_iadd dX4_begin_47 (by omega) (by omega) (fun v2654 hv2654 => ?_)
        refine WP_aload_n dX4_begin_48 rfl ?_
        refine WP_getr dX4_begin_49 fX4_43 rfl (lyx_is hy 27 7 rfl) (rfx hr 27 8 31 (by decide)) ?_
        refine WP_iload_n dX4_begin_52 rfl ?_
        refine WQ_iald dX4_begin_53 (lyx_is hy 31 13 rfl) (lyx_n hy 31 4 rfl) (by omega) (by omega) (fun q hq => BT_get hI2644.1 31 0 4 (0) (0) (60) (by decide) q (Nat.zero_le _) hq) (fun v2655 av2655 bv2655 ev2655 => ?_)
        clear ev2655
        refine WQ_iast dX4_begin_54 (lyx_is hy 68 13 rfl) (lyx_n hy 68 28 rfl) (by omega) (by omega) (fun I2656 eI2656 => ?_)
        have hI2656 : XI g n L I2656 := by rw [eI2656]; exact (fa_put hy hI2644 (c := 68) (k := 0) (s := i2643.toInt.toNat) (by decide) (by omega) (by decide) (by rw [cl (n := 7 * i2643.toInt.toNat + 0) (by omega)]) (fun _ => by omega) (fun _ => by omega))
        have e2657 : I2656 (ad g 1) 1 = L := by rw [eI2656, pp_ne _ _ (Or.inl (lyx_ne hy (by decide) (by decide) (by decide)))]; exact e2647
        have e2658 : I2656 (ad g 27) 1 = v2649 := by rw [eI2656, pp_ne _ _ (Or.inl (lyx_ne hy (by decide) (by decide) (by decide)))]; exact ev2649
        clear eI2656
        refine WP_iinc (ls' := [(0, _), (1, _), (2, _)]) dX4_begin_55 rfl (by decide) rfl ?_
        have hv2659 : (i2643 + Int32.ofInt (1)).toInt = i2643.toInt + (1) := ia_n rfl (by omega) (by omega)
        generalize i2643 + Int32.ofInt (1) = v2659 at hv2659 ⊢
        refine WP_goto 30 dX4_begin_58 rfl ?_
        exact WP_sub (fc rfl (fc rfl (fc rfl fn))) (ihlp30_2645 v2659 I2656 J2645 hI2656 (by omega) (by omega) (by omega))
  exact WP_sub (fc rfl (fc rfl (fc rfl fn))) (lp30_2645 _ v2642 I2637 J2635 hI2637 (by omega) (by omega) (Nat.lt_succ_self _))
set_option maxHeartbeats 4000000 in
set_option maxRecDepth 100000 in
theorem sx_become_66_53 {g : GG} {n : Int} {L : Int32} (hy : LyX g)  {I : pI} {J : pJ} {R : pR} (hr : RfX g R) (hI : XI g n L I)   : SP g mX4_become [.ref (ad g 66), .ref (ad g 53)] I J R (fun r I' J' R' => (XI g n L I' ∧ R' = R) ∧ r = none) := by
  refine SP_of ⟨by decide, rfl⟩ (Nat.le_of_ble_eq_true rfl) ?_
  have e2660 : I (ad g 1) 1 = L := hI.2
  have b2661 := BT_get hI.1 1 1 2 (0) (0) (900) (by decide) 1 (by decide) (by decide)
  rw [e2660] at b2661
  refine WP_aload_n dX4_become_0 rfl ?_
  refine WP_aload_n dX4_become_1 rfl ?_
  refine WQ_getiu dX4_become_2 fX4_18 rfl (lyx_is hy 53 4 rfl) (fun v2662 ev2662 => ?_)
  refine WQ_puti dX4_become_5 fX4_18 rfl rfl (lyx_is hy 66 4 rfl) (fun I2663 eI2663 => ?_)
  have hI2663 : XI g n L I2663 := by rw [eI2663]; exact (xi_f0 hy hI (c := 66) (by decide) (Or.inl (by decide)) (by decide))
  have e2664 : I2663 (ad g 1) 1 = L := by rw [eI2663, pp_ne _ _ (Or.inl (lyx_ne hy (by decide) (by decide) (by decide)))]; exact e2660
  have e2665 : I2663 (ad g 53) 0 = v2662 := by rw [eI2663, pp_ne _ _ (Or.inl (lyx_ne hy (by decide) (by decide) (by decide)))]; exact ev2662
  have e2666 : I2663 (ad g 66) 0 = v2662 := by rw [eI2663, pp_self]
  clear eI2663
  refine WP_aload_n dX4_become_8 rfl ?_
  refine WP_aload_n dX4_become_9 rfl ?_
  refine WQ_geti dX4_become_10 fX4_22 rfl (lyx_is hy 53 4 rfl) (BT_get hI2663.1 53 1 2 (0) (1663200) (0) (by decide) 1 (by decide) (by decide)) (fun v2667 ev2667 av2667 bv2667 => ?_)
  refine WQ_puti dX4_become_13 fX4_22 rfl rfl (lyx_is hy 66 4 rfl) (fun I2668 eI2668 => ?_)
  have hI2668 : XI g n L I2668 := by rw [eI2668]; exact (xi_f hy hI2663 (c := 66) (0) (1663200) (0) (by decide) (Or.inl (by decide)) (by decide) (by omega) (by omega))
  have e2669 : I2668 (ad g 1) 1 = L := by rw [eI2668, pp_ne _ _ (Or.inl (lyx_ne hy (by decide) (by decide) (by decide)))]; exact e2664
  have e2670 : I2668 (ad g 53) 0 = v2662 := by rw [eI2668, pp_ne _ _ (Or.inl (lyx_ne hy (by decide) (by decide) (by decide)))]; exact e2665
  have e2671 : I2668 (ad g 66) 0 = v2662 := by rw [eI2668, pp_ne _ _ (Or.inr (by decide))]; exact e2666
  have e2672 : I2668 (ad g 53) 1 = v2667 := by rw [eI2668, pp_ne _ _ (Or.inl (lyx_ne hy (by decide) (by decide) (by decide)))]; exact ev2667
  have e2673 : I2668 (ad g 66) 1 = v2667 := by rw [eI2668, pp_self]
  clear eI2668
  refine WP_aload_n dX4_become_16 rfl ?_
  refine WP_aload_n dX4_become_17 rfl ?_
  refine WQ_getiu dX4_become_18 fX4_25 rfl (lyx_is hy 53 4 rfl) (fun v2674 ev2674 => ?_)
  refine WQ_puti dX4_become_21 fX4_25 rfl rfl (lyx_is hy 66 4 rfl) (fun I2675 eI2675 => ?_)
  have hI2675 : XI g n L I2675 := by rw [eI2675]; exact (xi_f0 hy hI2668 (c := 66) (by decide) (Or.inl (by decide)) (by decide))
  have e2676 : I2675 (ad g 1) 1 = L := by rw [eI2675, pp_ne _ _ (Or.inl (lyx_ne hy (by decide) (by decide) (by decide)))]; exact e2669
  have e2677 : I2675 (ad g 53) 0 = v2662 := by rw [eI2675, pp_ne _ _ (Or.inl (lyx_ne hy (by decide) (by decide) (by decide)))]; exact e2670
  have e2678 : I2675 (ad g 66) 0 = v2662 := by rw [eI2675, pp_ne _ _ (Or.inr (by decide))]; exact e2671
  have e2679 : I2675 (ad g 53) 1 = v2667 := by rw [eI2675, pp_ne _ _ (Or.inl (lyx_ne hy (by decide) (by decide) (by decide)))]; exact e2672
  have e2680 : I2675 (ad g 66) 1 = v2667 := by rw [eI2675, pp_ne _ _ (Or.inr (by decide))]; exact e2673
  have e2681 : I2675 (ad g 53) 2 = v2674 := by rw [eI2675, pp_ne _ _ (Or.inl (lyx_ne hy (by decide) (by decide) (by decide)))]; exact ev2674
  have e2682 : I2675 (ad g 66) 2 = v2674 := by rw [eI2675, pp_self]
  clear eI2675
  refine WP_aload_n dX4_become_24 rfl ?_
  refine WP_aload_n dX4_become_25 rfl ?_
  refine WQ_getl dX4_become_26 fX4_28 rfl (lyx_is hy 53 4 rfl) (fun l2683 el2683 => ?_)
  refine WQ_putl dX4_become_29 fX4_28 rfl rfl (lyx_is hy 66 4 rfl) (fun J2684 eJ2684 => ?_)
  clear eJ2684
  refine WP_aload_n dX4_become_32 rfl ?_
  refine WP_getr dX4_become_33 fX4_9 rfl (lyx_is hy 53 4 rfl) (rfx hr 53 4 54 (by decide)) ?_
  refine WQ_iconst (0) (0) dX4_become_36 rfl rfl (fun v2685 hv2685 => ?_)
  refine WP_aload_n dX4_become_37 rfl ?_
  refine WP_getr dX4_become_38 fX4_9 rfl (lyx_is hy 66 4 rfl) (rfx hr 66 4 67 (by decide)) ?_
  refine WQ_iconst (0) (0) dX4_become_41 rfl rfl (fun v2686 hv2686 => ?_)
  refine WP_aload_n dX4_become_42 rfl ?_
  refine WP_getr dX4_become_43 fX4_9 rfl (lyx_is hy 66 4 rfl) (rfx hr 66 4 67 (by decide)) ?_
  refine WP_alen dX4_become_46 (lyx_is hy 67 13 rfl) (by decide) ?_
  rw [(lyx_n hy 67 4 rfl)]
  obtain ⟨v2687, hv2687, ev2687⟩ : ∃ v : Int32, v.toInt = 4 ∧ nI 4 = v := ⟨_, nI_toInt (by decide), rfl⟩
  rw [ev2687]; clear ev2687
  refine WQ_copy0 (N := 4) dX4_become_47 lX4_46 ⟨by decide, Nat.le_of_ble_eq_true rfl⟩ (lyx_is hy 54 13 rfl) (lyx_is hy 67 13 rfl) hv2685 hv2686 hv2687 (lyx_n hy 54 4 rfl) (lyx_n hy 67 4 rfl) (fun I2688 fI2688 oI2688 => ?_)
  have hI2688 : XI g n L I2688 := xi_copy hy hI2675 54 67 4 (by decide) (by decide) fI2688 oI2688
  clear fI2688 oI2688
  have e2689 : I2688 (ad g 1) 1 = L := hI2688.2
  have b2690 := BT_get hI2688.1 1 1 2 (0) (0) (900) (by decide) 1 (by decide) (by decide)
  rw [e2689] at b2690
  refine WP_aload_n dX4_become_50 rfl ?_
  refine WP_getr dX4_become_51 fX4_15 rfl (lyx_is hy 53 4 rfl) (rfx hr 53 5 55 (by decide)) ?_
  refine WQ_iconst (0) (0) dX4_become_54 rfl rfl (fun v2691 hv2691 => ?_)
  refine WP_aload_n dX4_become_55 rfl ?_
  refine WP_getr dX4_become_56 fX4_15 rfl (lyx_is hy 66 4 rfl) (rfx hr 66 5 68 (by decide)) ?_
  refine WQ_iconst (0) (0) dX4_become_59 rfl rfl (fun v2692 hv2692 => ?_)
  refine WP_aload_n dX4_become_60 rfl ?_
  refine WP_getr dX4_become_61 fX4_15 rfl (lyx_is hy 66 4 rfl) (rfx hr 66 5 68 (by decide)) ?_
  refine WP_alen dX4_become_64 (lyx_is hy 68 13 rfl) (by decide) ?_
  rw [(lyx_n hy 68 28 rfl)]
  obtain ⟨v2693, hv2693, ev2693⟩ : ∃ v : Int32, v.toInt = 28 ∧ nI 28 = v := ⟨_, nI_toInt (by decide), rfl⟩
  rw [ev2693]; clear ev2693
  refine WQ_copy0 (N := 28) dX4_become_65 lX4_46 ⟨by decide, Nat.le_of_ble_eq_true rfl⟩ (lyx_is hy 55 13 rfl) (lyx_is hy 68 13 rfl) hv2691 hv2692 hv2693 (lyx_n hy 55 28 rfl) (lyx_n hy 68 28 rfl) (fun I2694 fI2694 oI2694 => ?_)
  have hI2694 : XI g n L I2694 := xi_copy hy hI2688 55 68 28 (by decide) (by decide) fI2694 oI2694
  clear fI2694 oI2694
  have e2695 : I2694 (ad g 1) 1 = L := hI2694.2
  have b2696 := BT_get hI2694.1 1 1 2 (0) (0) (900) (by decide) 1 (by decide) (by decide)
  rw [e2695] at b2696
  exact WP_vret dX4_become_68 rfl ⟨⟨hI2694, rfl⟩, rfl⟩
set_option maxHeartbeats 4000000 in
set_option maxRecDepth 100000 in
theorem sx_round {g : GG} {n : Int} {L : Int32} (hy : LyX g)  {I : pI} {J : pJ} {R : pR} (hr : RfX g R) (hI : XI g n L I)   : SP g mX4_round [.ref (ad g 53)] I J R (fun r I' J' R' => (I' = I ∧ J' = J ∧ R' = R) ∧ ∃ v : Int32, r = some (.int v)) := by
  refine SP_of ⟨by decide, rfl⟩ (Nat.le_of_ble_eq_true rfl) ?_
  have e2697 : I (ad g 1) 1 = L := hI.2
  have b2698 := BT_get hI.1 1 1 2 (0) (0) (900) (by decide) 1 (by decide) (by decide)
  rw [e2697] at b2698
  refine WP_aload_n dX4_round_0 rfl ?_
  refine WQ_getl dX4_round_1 fX4_28 rfl (lyx_is hy 53 4 rfl) (fun l2699 el2699 => ?_)
  refine WP_lconst (0) dX4_round_4 rfl ?_
  obtain ⟨l2700, hl2700, el2700⟩ : ∃ v : Int64, v.toInt = 0 ∧ (0 : Int64) = v := ⟨_, rfl, rfl⟩
  rw [el2700]; clear el2700
  refine WQ_lcmp dX4_round_5 (fun v2701 av2701 bv2701 => ?_)
  refine WQ_if_ne 11 dX4_round_6 rfl (fun c2701 => ?_) (fun c2701 => ?_)
  · refine WP_ldc2 (2147483647) dX4_round_11 klX4_52 ?_
    obtain ⟨l2703, hl2703, el2703⟩ : ∃ v : Int64, v.toInt = (2147483647) ∧ ((2147483647) : Int64) = v := ⟨_, rfl, rfl⟩
    rw [el2703]; clear el2703
    refine WP_ldc2 (1000) dX4_round_14 klX4_54 ?_
    obtain ⟨l2704, hl2704, el2704⟩ : ∃ v : Int64, v.toInt = (1000) ∧ ((1000) : Int64) = v := ⟨_, rfl, rfl⟩
    rw [el2704]; clear el2704
    refine WP_aload_n dX4_round_17 rfl ?_
    refine WQ_iconst (2) (2) dX4_round_18 rfl rfl (fun v2705 hv2705 => ?_)
    refine WP_callV1 (k := 4) dX4_round_19 ⟨⟨⟨by decide, by decide⟩, zX4_sum⟩, lX4_56, by decide, rfl, vX4_sum.1, vX4_sum.2⟩ (lyx_is hy 53 4 rfl) (sx_sum_53 hy hr hI v2705 (by omega) (by omega)) (Nat.le_of_ble_eq_true rfl) ?_
    intro r Ia Ja Ra hq
    obtain ⟨⟨ea, eb, ec⟩, v2706, rfl⟩ := hq
    show WP _ _ _ _ (.int _ :: _) _ _ _ _
    rw [ea, eb, ec]
    clear ea eb ec Ia Ja Ra
    refine WQ_i2l dX4_round_22 (fun l2707 hl2707 => ?_)
    refine WQ_lmul dX4_round_23 (fun l2708 => ?_)
    refine WP_aload_n dX4_round_24 rfl ?_
    refine WP_getl dX4_round_25 fX4_28 rfl (lyx_is hy 53 4 rfl) ?_
    rw [el2699]
    refine WQ_ldiv dX4_round_28 (by omega) (fun l2709 => ?_)
    refine WQ_minl dX4_round_29 lX4_60 ⟨by decide, Nat.le_of_ble_eq_true rfl⟩ (fun l2710 => ?_)
    refine WQ_l2i dX4_round_32 (fun v2711 => ?_)
    exact WP_iret dX4_round_33 rfl ⟨⟨rfl, rfl, rfl⟩, _, rfl⟩
  · refine WQ_iconst (-1) (-1) dX4_round_9 rfl rfl (fun v2712 hv2712 => ?_)
    exact WP_iret dX4_round_10 rfl ⟨⟨rfl, rfl, rfl⟩, _, rfl⟩
