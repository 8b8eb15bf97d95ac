set_option maxHeartbeats 4000000 in
set_option maxRecDepth 100000 in
theorem sx_sum_53 {g : GG} {n : Int} {L : Int32} (hy : LyX g)  {I : pI} {J : pJ} {R : pR} (hr : RfX g R) (hI : XI g n L I) (wh : Int32) (wh_lo : 0 ≤ wh.toInt) (wh_hi : wh.toInt ≤ 6) : SP g mX4_sum [.ref (ad g 53), .int wh] I J R (fun r I' J' R' => (I' = I ∧ J' = J ∧ R' = R) ∧ ∃ v : Int32, r = some (.int v)) := by
  refine SP_of ⟨by decide, rfl⟩ (Nat.le_of_ble_eq_true rfl) ?_
  have e1896 : I (ad g 1) 1 = L := hI.2
  have b1897 := BT_get hI.1 1 1 2 (0) (0) (900) (by decide) 1 (by decide) (by decide)
  rw [e1896] at b1897
  refine WQ_iconst (0) (0) dX4_sum_0 rfl rfl (fun v1898 hv1898 => ?_)
  refine WP_istore_n (ls' := [(0, _), (1, _), (2, _)]) dX4_sum_1 (by decide) rfl ?_
  refine WQ_iconst (0) (0) dX4_sum_2 rfl rfl (fun v1899 hv1899 => ?_)
  refine WP_istore_n (ls' := [(0, _), (1, _), (2, _), (3, _)]) dX4_sum_3 (by decide) rfl ?_
  have lp4_1901 : ∀ (mz : Nat) (i1900 : Int32) (i1901 : Int32), 0 ≤ i1901.toInt → i1901.toInt ≤ 4 → (5 - i1901.toInt).toNat < mz → WP g mX4_sum 4 [(0, .ref (ad g 53)), (1, .int wh), (2, .int i1900), (3, .int i1901)] [] I J R (fun r I' J' R' => (I' = I ∧ J' = J ∧ R' = R) ∧ ∃ v : Int32, r = some (.int v)) := by
    intro mz
    induction mz with
    | zero =>
      intro i1900 i1901 ai1901 bi1901 hmlp4_1901
      exact absurd hmlp4_1901 (Nat.not_lt_zero _)
    | succ mz ihlp4_1901 =>
      intro i1900 i1901 ai1901 bi1901 hmlp4_1901
      refine WP_iload_n dX4_sum_4 rfl ?_
      refine WQ_iconst (4) (4) dX4_sum_5 rfl rfl (fun v1903 hv1903 => ?_)
      refine WQ_icmp_ge 29 dX4_sum_6 rfl (fun c1903 => ?_) (fun c1903 => ?_)
      · refine WP_iload_n dX4_sum_29 rfl ?_
        exact WP_iret dX4_sum_30 rfl ⟨⟨rfl, rfl, rfl⟩, _, rfl⟩
      · refine WP_iload_n dX4_sum_9 rfl ?_
        refine WP_aload_n dX4_sum_10 rfl ?_
        refine WP_getr dX4_sum_11 fX4_15 rfl (lyx_is hy 53 4 rfl) (rfx hr 53 5 55 (by decide)) ?_
        refine WP_iload_n dX4_sum_14 rfl ?_
        refine WQ_bipush (7) (7) dX4_sum_15 rfl rfl (fun v1905 hv1905 => ?_)
        refine WQ_imulk (7) dX4_sum_17 hv1905 (by omega) (by omega) (fun v1906 hv1906 => ?_)
        refine WP_iload_n dX4_sum_18 rfl ?_
        refine WQ_iadd dX4_sum_19 (by omega) (by omega) (fun v1907 hv1907 => ?_)
        refine WQ_ialdu dX4_sum_20 (lyx_is hy 55 13 rfl) (lyx_n hy 55 28 rfl) (by omega) (by omega) (fun v1908 => ?_)
        refine WQ_iaddu dX4_sum_21 (fun v1909 => ?_)
        refine WP_istore_n (ls' := [(0, _), (1, _), (2, _), (3, _)]) dX4_sum_22 (by decide) rfl ?_
        refine WP_iinc (ls' := [(0, _), (1, _), (2, _), (3, _)]) dX4_sum_23 rfl (by decide) rfl ?_
        have hv1910 : (i1901 + Int32.ofInt (1)).toInt = i1901.toInt + (1) := ia_n rfl (by omega) (by omega)
        generalize i1901 + Int32.ofInt (1) = v1910 at hv1910 ⊢
        refine WP_goto 4 dX4_sum_26 rfl ?_
        exact WP_sub (fc rfl (fc rfl (fc rfl (fc rfl fn)))) (ihlp4_1901 v1909 v1910 (by omega) (by omega) (by omega))
  exact WP_sub (fc rfl (fc rfl (fc rfl (fc rfl fn)))) (lp4_1901 _ v1898 v1899 (by omega) (by omega) (Nat.lt_succ_self _))
set_option maxHeartbeats 4000000 in
set_option maxRecDepth 100000 in
theorem sx_begin_53_6 {g : GG} {n : Int} {L : Int32} (hy : LyX g)  {I : pI} {J : pJ} {R : pR} (hr : RfX g R) (hI : XI g n L I)   (hn : 0 ≤ n) : SP g mX4_begin [.ref (ad g 53), .ref (ad g 6)] I J R (fun r I' J' R' => (XI g n L I' ∧ R' = R) ∧ r = none) := by
  refine SP_of ⟨by decide, rfl⟩ (Nat.le_of_ble_eq_true rfl) ?_
  have e1911 : I (ad g 1) 1 = L := hI.2
  have b1912 := BT_get hI.1 1 1 2 (0) (0) (900) (by decide) 1 (by decide) (by decide)
  rw [e1911] at b1912
  refine WP_aload_n dX4_begin_0 rfl ?_
  refine WQ_iconst (0) (0) dX4_begin_1 rfl rfl (fun v1913 hv1913 => ?_)
  refine WQ_puti dX4_begin_2 fX4_18 rfl rfl (lyx_is hy 53 4 rfl) (fun I1914 eI1914 => ?_)
  have hI1914 : XI g n L I1914 := by rw [eI1914]; exact (xi_f0 hy hI (c := 53) (by decide) (Or.inl (by decide)) (by decide))
  have e1915 : I1914 (ad g 1) 1 = L := by rw [eI1914, pp_ne _ _ (Or.inl (lyx_ne hy (by decide) (by decide) (by decide)))]; exact e1911
  have e1916 : I1914 (ad g 53) 0 = v1913 := by rw [eI1914, pp_self]
  clear eI1914
  refine WP_aload_n dX4_begin_5 rfl ?_
  refine WQ_iconst (0) (0) dX4_begin_6 rfl rfl (fun v1917 hv1917 => ?_)
  refine WQ_puti dX4_begin_7 fX4_22 rfl rfl (lyx_is hy 53 4 rfl) (fun I1918 eI1918 => ?_)
  have hI1918 : XI g n L I1918 := by rw [eI1918]; exact (xi_f hy hI1914 (c := 53) (0) (23760) (0) (by decide) (Or.inl (by decide)) (by decide) (by omega) (by omega))
  have e1919 : I1918 (ad g 1) 1 = L := by rw [eI1918, pp_ne _ _ (Or.inl (lyx_ne hy (by decide) (by decide) (by decide)))]; exact e1915
  have e1920 : I1918 (ad g 53) 0 = v1913 := by rw [eI1918, pp_ne _ _ (Or.inr (by decide))]; exact e1916
  have e1921 : I1918 (ad g 53) 1 = v1917 := by rw [eI1918, pp_self]
  clear eI1918
  refine WP_aload_n dX4_begin_10 rfl ?_
  refine WQ_iconst (0) (0) dX4_begin_11 rfl rfl (fun v1922 hv1922 => ?_)
  refine WQ_puti dX4_begin_12 fX4_25 rfl rfl (lyx_is hy 53 4 rfl) (fun I1923 eI1923 => ?_)
  have hI1923 : XI g n L I1923 := by rw [eI1923]; exact (xi_f0 hy hI1918 (c := 53) (by decide) (Or.inl (by decide)) (by decide))
  have e1924 : I1923 (ad g 1) 1 = L := by rw [eI1923, pp_ne _ _ (Or.inl (lyx_ne hy (by decide) (by decide) (by decide)))]; exact e1919
  have e1925 : I1923 (ad g 53) 0 = v1913 := by rw [eI1923, pp_ne _ _ (Or.inr (by decide))]; exact e1920
  have e1926 : I1923 (ad g 53) 1 = v1917 := by rw [eI1923, pp_ne _ _ (Or.inr (by decide))]; exact e1921
  have e1927 : I1923 (ad g 53) 2 = v1922 := by rw [eI1923, pp_self]
  clear eI1923
  refine WP_aload_n dX4_begin_15 rfl ?_
  refine WP_lconst (0) dX4_begin_16 rfl ?_
  obtain ⟨l1928, hl1928, el1928⟩ : ∃ v : Int64, v.toInt = 0 ∧ (0 : Int64) = v := ⟨_, rfl, rfl⟩
  rw [el1928]; clear el1928
  refine WQ_putl dX4_begin_17 fX4_28 rfl rfl (lyx_is hy 53 4 rfl) (fun J1929 eJ1929 => ?_)
  clear eJ1929
  refine WP_aload_n dX4_begin_20 rfl ?_
  refine WP_getr dX4_begin_21 fX4_15 rfl (lyx_is hy 53 4 rfl) (rfx hr 53 5 55 (by decide)) ?_
  refine WQ_iconst (0) (0) dX4_begin_24 rfl rfl (fun v1930 hv1930 => ?_)
  refine WP_callS2u dX4_begin_25 ⟨⟨⟨by decide, by decide⟩, zJ7_fill_53178⟩, lX4_32, tJ7_fill_53178⟩ (s_fill hy hr 55 28 rfl rfl (by decide) v1930) (Nat.le_of_ble_eq_true rfl) ?_
  obtain ⟨I1931, eI1931⟩ : ∃ I9 : pI, I9 = fi I1923 (ad g 55) 28 v1930 := ⟨_, rfl⟩
  rw [← eI1931]
  have hI1931 : XI g n L I1931 := by rw [eI1931]; exact (fa_fill hy hI1923 (c := 55) 28 (by decide) hv1930)
  have e1932 : I1931 (ad g 1) 1 = L := by rw [eI1931, fi_off (lyx_ne hy (by decide) (by decide) (by decide))]; exact e1924
  have e1933 : I1931 (ad g 53) 0 = v1913 := by rw [eI1931, fi_off (lyx_ne hy (by decide) (by decide) (by decide))]; exact e1925
  have e1934 : I1931 (ad g 53) 1 = v1917 := by rw [eI1931, fi_off (lyx_ne hy (by decide) (by decide) (by decide))]; exact e1926
  have e1935 : I1931 (ad g 53) 2 = v1922 := by rw [eI1931, fi_off (lyx_ne hy (by decide) (by decide) (by decide))]; exact e1927
  clear eI1931
  refine WQ_iconst (0) (0) dX4_begin_28 rfl rfl (fun v1936 hv1936 => ?_)
  refine WP_istore_n (ls' := [(0, _), (1, _), (2, _)]) dX4_begin_29 (by decide) rfl ?_
  have lp30_1939 : ∀ (mz : Nat) (i1937 : Int32) (I1938 : pI) (J1939 : pJ), XI g n L I1938 → 0 ≤ i1937.toInt → i1937.toInt ≤ 4 → (5 - i1937.toInt).toNat < mz → WP g mX4_begin 30 [(0, .ref (ad g 53)), (1, .ref (ad g 6)), (2, .int i1937)] [] I1938 J1939 R (fun r I' J' R' => (XI g n L I' ∧ R' = R) ∧ r = none) := by
    intro mz
    induction mz with
    | zero =>
      intro i1937 I1938 J1939 hI1938 ai1937 bi1937 hmlp30_1939
      exact absurd hmlp30_1939 (Nat.not_lt_zero _)
    | succ mz ihlp30_1939 =>
      intro i1937 I1938 J1939 hI1938 ai1937 bi1937 hmlp30_1939
      have e1941 : I1938 (ad g 1) 1 = L := hI1938.2
      have b1942 := BT_get hI1938.1 1 1 2 (0) (0) (900) (by decide) 1 (by decide) (by decide)
      rw [e1941] at b1942
      refine WP_iload_n dX4_begin_30 rfl ?_
      refine WP_aload_n dX4_begin_31 rfl ?_
      refine WQ_geti dX4_begin_32 fX4_38 rfl (lyx_is hy 6 7 rfl) (BT_get hI1938.1 6 1 2 (0) (0) (4) (by decide) 1 (by decide) (by decide)) (fun v1943 ev1943 av1943 bv1943 => ?_)
      refine WQ_icmp_ge 61 dX4_begin_35 rfl (fun c1943 => ?_) (fun c1943 => ?_)
      · exact WP_vret dX4_begin_61 rfl ⟨⟨hI1938, rfl⟩, rfl⟩
      · refine WP_aload_n dX4_begin_38 rfl ?_
        refine WP_getr dX4_begin_39 fX4_15 rfl (lyx_is hy 53 4 rfl) (rfx hr 53 5 55 (by decide)) ?_
        refine WP_iload_n dX4_begin_42 rfl ?_
        refine WQ_bipush (7) (7) dX4_begin_43 rfl rfl (fun v1945 hv1945 => ?_)
        refine WQ_imulk (7) dX4_begin_45 hv1945 (by omega) (by omega) (fun v1946 hv1946 => ?_)
        refine WQ_iconst (0) (0) dX4_begin_46 rfl rfl (fun v1947 hv1947 => ?_)
        refine WQ_iadd dX4_begin_47 (by omega) (by omega) (fun v1948 hv1948 => ?_)
        refine WP_aload_n dX4_begin_48 rfl ?_
        refine WP_getr dX4_begin_49 fX4_43 rfl (lyx_is hy 6 7 rfl) (rfx hr 6 8 10 (by decide)) ?_
        refine WP_iload_n dX4_begin_52 rfl ?_
        refine WQ_iald dX4_begin_53 (lyx_is hy 10 13 rfl) (lyx_n hy 10 4 rfl) (by omega) (by omega) (fun q hq => BT_get hI1938.1 10 0 4 (0) (0) (60) (by decide) q (Nat.zero_le _) hq) (fun v1949 av1949 bv1949 ev1949 => ?_)
        clear ev1949
        refine WQ_iast dX4_begin_54 (lyx_is hy 55 13 rfl) (lyx_n hy 55 28 rfl) (by omega) (by omega) (fun I1950 eI1950 => ?_)
        have hI1950 : XI g n L I1950 := by rw [eI1950]; exact (fa_put hy hI1938 (c := 55) (k := 0) (s := i1937.toInt.toNat) (by decide) (by omega) (by decide) (by rw [cl (n := 7 * i1937.toInt.toNat + 0) (by omega)]) (fun _ => by omega) (fun _ => by omega))
        have e1951 : I1950 (ad g 1) 1 = L := by rw [eI1950, pp_ne _ _ (Or.inl (lyx_ne hy (by decide) (by decide) (by decide)))]; exact e1941
        have e1952 : I1950 (ad g 6) 1 = v1943 := by rw [eI1950, pp_ne _ _ (Or.inl (lyx_ne hy (by decide) (by decide) (by decide)))]; exact ev1943
        clear eI1950
        refine WP_iinc (ls' := [(0, _), (1, _), (2, _)]) dX4_begin_55 rfl (by decide) rfl ?_
        have hv1953 : (i1937 + Int32.ofInt (1)).toInt = i1937.toInt + (1) := ia_n rfl (by omega) (by omega)
        generalize i1937 + Int32.ofInt (1) = v1953 at hv1953 ⊢
        refine WP_goto 30 dX4_begin_58 rfl ?_
        exact WP_sub (fc rfl (fc rfl (fc rfl fn))) (ihlp30_1939 v1953 I1950 J1939 hI1950 (by omega) (by omega) (by omega))
  exact WP_sub (fc rfl (fc rfl (fc rfl fn))) (lp30_1939 _ v1936 I1931 J1929 hI1931 (by omega) (by omega) (Nat.lt_succ_self _))
set_option maxHeartbeats 4000000 in
set_option maxRecDepth 100000 in
theorem sx_begin_53_27 {g : GG} {n : Int} {L : Int32} (hy : LyX g)  {I : pI} {J : pJ} {R : pR} (hr : RfX g R) (hI : XI g n L I)   (hn : 0 ≤ n) : SP g mX4_begin [.ref (ad g 53), .ref (ad g 27)] I J R (fun r I' J' R' => (XI g n L I' ∧ R' = R) ∧ r = none) := by
  refine SP_of ⟨by decide, rfl⟩ (Nat.le_of_ble_eq_true rfl) ?_
  have e1954 : I (ad g 1) 1 = L := hI.2
  have b1955 := BT_get hI.1 1 1 2 (0) (0) (900) (by decide) 1 (by decide) (by decide)
  rw [e1954] at b1955
  refine WP_aload_n dX4_begin_0 rfl ?_
  refine WQ_iconst (0) (0) dX4_begin_1 rfl rfl (fun v1956 hv1956 => ?_)
  refine WQ_puti dX4_begin_2 fX4_18 rfl rfl (lyx_is hy 53 4 rfl) (fun I1957 eI1957 => ?_)
  have hI1957 : XI g n L I1957 := by rw [eI1957]; exact (xi_f0 hy hI (c := 53) (by decide) (Or.inl (by decide)) (by decide))
  have e1958 : I1957 (ad g 1) 1 = L := by rw [eI1957, pp_ne _ _ (Or.inl (lyx_ne hy (by decide) (by decide) (by decide)))]; exact e1954
  have e1959 : I1957 (ad g 53) 0 = v1956 := by rw [eI1957, pp_self]
  clear eI1957
  refine WP_aload_n dX4_begin_5 rfl ?_
  refine WQ_iconst (0) (0) dX4_begin_6 rfl rfl (fun v1960 hv1960 => ?_)
  refine WQ_puti dX4_begin_7 fX4_22 rfl rfl (lyx_is hy 53 4 rfl) (fun I1961 eI1961 => ?_)
  have hI1961 : XI g n L I1961 := by rw [eI1961]; exact (xi_f hy hI1957 (c := 53) (0) (23760) (0) (by decide) (Or.inl (by decide)) (by decide) (by omega) (by omega))
  have e1962 : I1961 (ad g 1) 1 = L := by rw [eI1961, pp_ne _ _ (Or.inl (lyx_ne hy (by decide) (by decide) (by decide)))]; exact e1958
  have e1963 : I1961 (ad g 53) 0 = v1956 := by rw [eI1961, pp_ne _ _ (Or.inr (by decide))]; exact e1959
  have e1964 : I1961 (ad g 53) 1 = v1960 := by rw [eI1961, pp_self]
  clear eI1961
  refine WP_aload_n dX4_begin_10 rfl ?_
  refine WQ_iconst (0) (0) dX4_begin_11 rfl rfl (fun v1965 hv1965 => ?_)
  refine WQ_puti dX4_begin_12 fX4_25 rfl rfl (lyx_is hy 53 4 rfl) (fun I1966 eI1966 => ?_)
  have hI1966 : XI g n L I1966 := by rw [eI1966]; exact (xi_f0 hy hI1961 (c := 53) (by decide) (Or.inl (by decide)) (by decide))
  have e1967 : I1966 (ad g 1) 1 = L := by rw [eI1966, pp_ne _ _ (Or.inl (lyx_ne hy (by decide) (by decide) (by decide)))]; exact e1962
  have e1968 : I1966 (ad g 53) 0 = v1956 := by rw [eI1966, pp_ne _ _ (Or.inr (by decide))]; exact e1963
  have e1969 : I1966 (ad g 53) 1 = v1960 := by rw [eI1966, pp_ne _ _ (Or.inr (by decide))]; exact e1964
  have e1970 : I1966 (ad g 53) 2 = v1965 := by rw [eI1966, pp_self]
  clear eI1966
  refine WP_aload_n dX4_begin_15 rfl ?_
  refine WP_lconst (0) dX4_begin_16 rfl ?_
  obtain ⟨l1971, hl1971, el1971⟩ : ∃ v : Int64, v.toInt = 0 ∧ (0 : Int64) = v := ⟨_, rfl, rfl⟩
  rw [el1971]; clear el1971
  refine WQ_putl dX4_begin_17 fX4_28 rfl rfl (lyx_is hy 53 4 rfl) (fun J1972 eJ1972 => ?_)
  clear eJ1972
  refine WP_aload_n dX4_begin_20 rfl ?_
  refine WP_getr dX4_begin_21 fX4_15 rfl (lyx_is hy 53 4 rfl) (rfx hr 53 5 55 (by decide)) ?_
  refine WQ_iconst (0) (0) dX4_begin_24 rfl rfl (fun v1973 hv1973 => ?_)
  refine WP_callS2u dX4_begin_25 ⟨⟨⟨by decide, by decide⟩, zJ7_fill_53178⟩, lX4_32, tJ7_fill_53178⟩ (s_fill hy hr 55 28 rfl rfl (by decide) v1973) (Nat.le_of_ble_eq_true rfl) ?_
  obtain ⟨I1974, eI1974⟩ : ∃ I9 : pI, I9 = fi I1966 (ad g 55) 28 v1973 := ⟨_, rfl⟩
  rw [← eI1974]
  have hI1974 : XI g n L I1974 := by rw [eI1974]; exact (fa_fill hy hI1966 (c := 55) 28 (by decide) hv1973)
  have e1975 : I1974 (ad g 1) 1 = L := by rw [eI1974, fi_off (lyx_ne hy (by decide) (by decide) (by decide))]; exact e1967
  have e1976 : I1974 (ad g 53) 0 = v1956 := by rw [eI1974, fi_off (lyx_ne hy (by decide) (by decide) (by decide))]; exact e1968
  have e1977 : I1974 (ad g 53) 1 = v1960 := by rw [eI1974, fi_off (lyx_ne hy (by decide) (by decide) (by decide))]; exact e1969
  have e1978 : I1974 (ad g 53) 2 = v1965 := by rw [eI1974, fi_off (lyx_ne hy (by decide) (by decide) (by decide))]; exact e1970
  clear eI1974
  refine WQ_iconst (0) (0) dX4_begin_28 rfl rfl (fun v1979 hv1979 => ?_)
  refine WP_istore_n (ls' := [(0, _), (1, _), (2, _)]) dX4_begin_29 (by decide) rfl ?_
  have lp30_1982 : ∀ (mz : Nat) (i1980 : Int32) (I1981 : pI) (J1982 : pJ), XI g n L I1981 → 0 ≤ i1980.toInt → i1980.toInt ≤ 4 → (5 - i1980.toInt).toNat < mz → WP g mX4_begin 30 [(0, .ref (ad g 53)), (1, .ref (ad g 27)), (2, .int i1980)] [] I1981 J1982 R (fun r I' J' R' => (XI g n L I' ∧ R' = R) ∧ r = none) := by
    intro mz
    induction mz with
    | zero =>
      intro i1980 I1981 J1982 hI1981 ai1980 bi1980 hmlp30_1982
      exact absurd hmlp30_1982 (Nat.not_lt_zero _)
    | succ mz ihlp30_1982 =>
      intro i1980 I1981 J1982 hI1981 ai1980 bi1980 hmlp30_1982
      have e1984 : I1981 (ad g 1) 1 = L := hI1981.2
      have b1985 := BT_get hI1981.1 1 1 2 (0) (0) (900) (by decide) 1 (by decide) (by decide)
      rw [e1984] at b1985
      refine WP_iload_n dX4_begin_30 rfl ?_
      refine WP_aload_n dX4_begin_31 rfl ?_
      refine WQ_geti dX4_begin_32 fX4_38 rfl (lyx_is hy 27 7 rfl) (BT_get hI1981.1 27 1 2 (0) (0) (4) (by decide) 1 (by decide) (by decide)) (fun v1986 ev1986 av1986 bv1986 => ?_)
      refine WQ_icmp_ge 61 dX4_begin_35 rfl (fun c1986 => ?_) (fun c1986 => ?_)
      · exact WP_vret dX4_begin_61 rfl ⟨⟨hI1981, rfl⟩, rfl⟩
      · refine WP_aload_n dX4_begin_38 rfl ?_
        refine WP_getr dX4_begin_39 fX4_15 rfl (lyx_is hy 53 4 rfl) (rfx hr 53 5 55 (by decide)) ?_
        refine WP_iload_n dX4_begin_42 rfl ?_
        refine WQ_bipush (7) (7) dX4_begin_43 rfl rfl (fun v1988 hv1988 => ?_)
        refine WQ_imulk (7) dX4_begin_45 hv1988 (by omega) (by omega) (fun v1989 hv1989 => ?_)
        refine WQ_iconst (0) (0) dX4_begin_46 rfl rfl (fun v1990 hv1990 => ?_)
        refine WQ_iadd dX4_begin_47 (by omega) (by omega) (fun v1991 hv1991 => ?_)
        refine WP_aload_n dX4_begin_48 rfl ?_
        refine WP_getr dX4_begin_49 fX4_43 rfl (lyx_is hy 27 7 rfl) (rfx hr 27 8 31 (by decide)) ?_
        refine WP_iload_n dX4_begin_52 rfl ?_
        refine WQ_iald dX4_begin_53 (lyx_is hy 31 13 rfl) (lyx_n hy 31 4 rfl) (by omega) (by omega) (fun q hq => BT_get hI1981.1 31 0 4 (0) (0) (60) (by decide) q (Nat.zero_le _) hq) (fun v1992 av1992 bv1992 ev1992 => ?_)
        clear ev1992
        refine WQ_iast dX4_begin_54 (lyx_is hy 55 13 rfl) (lyx_n hy 55 28 rfl) (by omega) (by omega) (fun I1993 eI1993 => ?_)
        have hI1993 : XI g n L I1993 := by rw [eI1993]; exact (fa_put hy hI1981 (c := 55) (k := 0) (s := i1980.toInt.toNat) (by decide) (by omega) (by decide) (by rw [cl (n := 7 * i1980.toInt.toNat + 0) (by omega)]) (fun _ => by omega) (fun _ => by omega))
        have e1994 : I1993 (ad g 1) 1 = L := by rw [eI1993, pp_ne _ _ (Or.inl (lyx_ne hy (by decide) (by decide) (by decide)))]; exact e1984
        have e1995 : I1993 (ad g 27) 1 = v1986 := by rw [eI1993, pp_ne _ _ (Or.inl (lyx_ne hy (by decide) (by decide) (by decide)))]; exact ev1986
        clear eI1993
        refine WP_iinc (ls' := [(0, _), (1, _), (2, _)]) dX4_begin_55 rfl (by decide) rfl ?_
        have hv1996 : (i1980 + Int32.ofInt (1)).toInt = i1980.toInt + (1) := ia_n rfl (by omega) (by omega)
        generalize i1980 + Int32.ofInt (1) = v1996 at hv1996 ⊢
        refine WP_goto 30 dX4_begin_58 rfl ?_
        exact WP_sub (fc rfl (fc rfl (fc rfl fn))) (ihlp30_1982 v1996 I1993 J1982 hI1993 (by omega) (by omega) (by omega))
  exact WP_sub (fc rfl (fc rfl (fc rfl fn))) (lp30_1982 _ v1979 I1974 J1972 hI1974 (by omega) (by omega) (Nat.lt_succ_self _))
set_option maxHeartbeats 4000000 in
set_option maxRecDepth 100000 in
theorem sx_become_53_60 {g : GG} {n : Int} {L : Int32} (hy : LyX g)  {I : pI} {J : pJ} {R : pR} (hr : RfX g R) (hI : XI g n L I)   : SP g mX4_become [.ref (ad g 53), .ref (ad g 60)] I J R (fun r I' J' R' => (XI g n L I' ∧ R' = R) ∧ r = none) := by
  refine SP_of ⟨by decide, rfl⟩ (Nat.le_of_ble_eq_true rfl) ?_
  have e1997 : I (ad g 1) 1 = L := hI.2
  have b1998 := BT_get hI.1 1 1 2 (0) (0) (900) (by decide) 1 (by decide) (by decide)
  rw [e1997] at b1998
  refine WP_aload_n dX4_become_0 rfl ?_
  refine WP_aload_n dX4_become_1 rfl ?_
  refine WQ_getiu dX4_become_2 fX4_18 rfl (lyx_is hy 60 4 rfl) (fun v1999 ev1999 => ?_)
  refine WQ_puti dX4_become_5 fX4_18 rfl rfl (lyx_is hy 53 4 rfl) (fun I2000 eI2000 => ?_)
  have hI2000 : XI g n L I2000 := by rw [eI2000]; exact (xi_f0 hy hI (c := 53) (by decide) (Or.inl (by decide)) (by decide))
  have e2001 : I2000 (ad g 1) 1 = L := by rw [eI2000, pp_ne _ _ (Or.inl (lyx_ne hy (by decide) (by decide) (by decide)))]; exact e1997
  have e2002 : I2000 (ad g 60) 0 = v1999 := by rw [eI2000, pp_ne _ _ (Or.inl (lyx_ne hy (by decide) (by decide) (by decide)))]; exact ev1999
  have e2003 : I2000 (ad g 53) 0 = v1999 := by rw [eI2000, pp_self]
  clear eI2000
  refine WP_aload_n dX4_become_8 rfl ?_
  refine WP_aload_n dX4_become_9 rfl ?_
  refine WQ_geti dX4_become_10 fX4_22 rfl (lyx_is hy 60 4 rfl) (BT_get hI2000.1 60 1 2 (0) (23760) (0) (by decide) 1 (by decide) (by decide)) (fun v2004 ev2004 av2004 bv2004 => ?_)
  refine WQ_puti dX4_become_13 fX4_22 rfl rfl (lyx_is hy 53 4 rfl) (fun I2005 eI2005 => ?_)
  have hI2005 : XI g n L I2005 := by rw [eI2005]; exact (xi_f hy hI2000 (c := 53) (0) (23760) (0) (by decide) (Or.inl (by decide)) (by decide) (by omega) (by omega))
  have e2006 : I2005 (ad g 1) 1 = L := by rw [eI2005, pp_ne _ _ (Or.inl (lyx_ne hy (by decide) (by decide) (by decide)))]; exact e2001
  have e2007 : I2005 (ad g 60) 0 = v1999 := by rw [eI2005, pp_ne _ _ (Or.inl (lyx_ne hy (by decide) (by decide) (by decide)))]; exact e2002
  have e2008 : I2005 (ad g 53) 0 = v1999 := by rw [eI2005, pp_ne _ _ (Or.inr (by decide))]; exact e2003
  have e2009 : I2005 (ad g 60) 1 = v2004 := by rw [eI2005, pp_ne _ _ (Or.inl (lyx_ne hy (by decide) (by decide) (by decide)))]; exact ev2004
  have e2010 : I2005 (ad g 53) 1 = v2004 := by rw [eI2005, pp_self]
  clear eI2005
  refine WP_aload_n dX4_become_16 rfl ?_
  refine WP_aload_n dX4_become_17 rfl ?_
  refine WQ_getiu dX4_become_18 fX4_25 rfl (lyx_is hy 60 4 rfl) (fun v2011 ev2011 => ?_)
  refine WQ_puti dX4_become_21 fX4_25 rfl rfl (lyx_is hy 53 4 rfl) (fun I2012 eI2012 => ?_)
  have hI2012 : XI g n L I2012 := by rw [eI2012]; exact (xi_f0 hy hI2005 (c := 53) (by decide) (Or.inl (by decide)) (by decide))
  have e2013 : I2012 (ad g 1) 1 = L := by rw [eI2012, pp_ne _ _ (Or.inl (lyx_ne hy (by decide) (by decide) (by decide)))]; exact e2006
  have e2014 : I2012 (ad g 60) 0 = v1999 := by rw [eI2012, pp_ne _ _ (Or.inl (lyx_ne hy (by decide) (by decide) (by decide)))]; exact e2007
  have e2015 : I2012 (ad g 53) 0 = v1999 := by rw [eI2012, pp_ne _ _ (Or.inr (by decide))]; exact e2008
  have e2016 : I2012 (ad g 60) 1 = v2004 := by rw [eI2012, pp_ne _ _ (Or.inl (lyx_ne hy (by decide) (by decide) (by decide)))]; exact e2009
  have e2017 : I2012 (ad g 53) 1 = v2004 := by rw [eI2012, pp_ne _ _ (Or.inr (by decide))]; exact e2010
  have e2018 : I2012 (ad g 60) 2 = v2011 := by rw [eI2012, pp_ne _ _ (Or.inl (lyx_ne hy (by decide) (by decide) (by decide)))]; exact ev2011
  have e2019 : I2012 (ad g 53) 2 = v2011 := by rw [eI2012, pp_self]
  clear eI2012
  refine WP_aload_n dX4_become_24 rfl ?_
  refine WP_aload_n dX4_become_25 rfl ?_
  refine WQ_getl dX4_become_26 fX4_28 rfl (lyx_is hy 60 4 rfl) (fun l2020 el2020 => ?_)
  refine WQ_putl dX4_become_29 fX4_28 rfl rfl (lyx_is hy 53 4 rfl) (fun J2021 eJ2021 => ?_)
  clear eJ2021
  refine WP_aload_n dX4_become_32 rfl ?_
  refine WP_getr dX4_become_33 fX4_9 rfl (lyx_is hy 60 4 rfl) (rfx hr 60 4 61 (by decide)) ?_
  refine WQ_iconst (0) (0) dX4_become_36 rfl rfl (fun v2022 hv2022 => ?_)
  refine WP_aload_n dX4_become_37 rfl ?_
  refine WP_getr dX4_become_38 fX4_9 rfl (lyx_is hy 53 4 rfl) (rfx hr 53 4 54 (by decide)) ?_
  refine WQ_iconst (0) (0) dX4_become_41 rfl rfl (fun v2023 hv2023 => ?_)
  refine WP_aload_n dX4_become_42 rfl ?_
  refine WP_getr dX4_become_43 fX4_9 rfl (lyx_is hy 53 4 rfl) (rfx hr 53 4 54 (by decide)) ?_
  refine WP_alen dX4_become_46 (lyx_is hy 54 13 rfl) (by decide) ?_
  rw [(lyx_n hy 54 4 rfl)]
  obtain ⟨v2024, hv2024, ev2024⟩ : ∃ v : Int32, v.toInt = 4 ∧ nI 4 = v := ⟨_, nI_toInt (by decide), rfl⟩
  rw [ev2024]; clear ev2024
  refine WQ_copy0 (N := 4) dX4_become_47 lX4_46 ⟨by decide, Nat.le_of_ble_eq_true rfl⟩ (lyx_is hy 61 13 rfl) (lyx_is hy 54 13 rfl) hv2022 hv2023 hv2024 (lyx_n hy 61 4 rfl) (lyx_n hy 54 4 rfl) (fun I2025 fI2025 oI2025 => ?_)
  have hI2025 : XI g n L I2025 := xi_copy hy hI2012 61 54 4 (by decide) (by decide) fI2025 oI2025
  clear fI2025 oI2025
  have e2026 : I2025 (ad g 1) 1 = L := hI2025.2
  have b2027 := BT_get hI2025.1 1 1 2 (0) (0) (900) (by decide) 1 (by decide) (by decide)
  rw [e2026] at b2027
  refine WP_aload_n dX4_become_50 rfl ?_
  refine WP_getr dX4_become_51 fX4_15 rfl (lyx_is hy 60 4 rfl) (rfx hr 60 5 62 (by decide)) ?_
  refine WQ_iconst (0) (0) dX4_become_54 rfl rfl (fun v2028 hv2028 => ?_)
  refine WP_aload_n dX4_become_55 rfl ?_
  refine WP_getr dX4_become_56 fX4_15 rfl (lyx_is hy 53 4 rfl) (rfx hr 53 5 55 (by decide)) ?_
  refine WQ_iconst (0) (0) dX4_become_59 rfl rfl (fun v2029 hv2029 => ?_)
  refine WP_aload_n dX4_become_60 rfl ?_
  refine WP_getr dX4_become_61 fX4_15 rfl (lyx_is hy 53 4 rfl) (rfx hr 53 5 55 (by decide)) ?_
  refine WP_alen dX4_become_64 (lyx_is hy 55 13 rfl) (by decide) ?_
  rw [(lyx_n hy 55 28 rfl)]
  obtain ⟨v2030, hv2030, ev2030⟩ : ∃ v : Int32, v.toInt = 28 ∧ nI 28 = v := ⟨_, nI_toInt (by decide), rfl⟩
  rw [ev2030]; clear ev2030
  refine WQ_copy0 (N := 28) dX4_become_65 lX4_46 ⟨by decide, Nat.le_of_ble_eq_true rfl⟩ (lyx_is hy 62 13 rfl) (lyx_is hy 55 13 rfl) hv2028 hv2029 hv2030 (lyx_n hy 62 28 rfl) (lyx_n hy 55 28 rfl) (fun I2031 fI2031 oI2031 => ?_)
  have hI2031 : XI g n L I2031 := xi_copy hy hI2025 62 55 28 (by decide) (by decide) fI2031 oI2031
  clear fI2031 oI2031
  have e2032 : I2031 (ad g 1) 1 = L := hI2031.2
  have b2033 := BT_get hI2031.1 1 1 2 (0) (0) (900) (by decide) 1 (by decide) (by decide)
  rw [e2032] at b2033
  exact WP_vret dX4_become_68 rfl ⟨⟨hI2031, rfl⟩, rfl⟩
set_option maxHeartbeats 4000000 in
set_option maxRecDepth 100000 in
theorem sx_become_53_63 {g : GG} {n : Int} {L : Int32} (hy : LyX g)  {I : pI} {J : pJ} {R : pR} (hr : RfX g R) (hI : XI g n L I)   : SP g mX4_become [.ref (ad g 53), .ref (ad g 63)] I J R (fun r I' J' R' => (XI g n L I' ∧ R' = R) ∧ r = none) := by
  refine SP_of ⟨by decide, rfl⟩ (Nat.le_of_ble_eq_true rfl) ?_
  have e2034 : I (ad g 1) 1 = L := hI.2
  have b2035 := BT_get hI.1 1 1 2 (0) (0) (900) (by decide) 1 (by decide) (by decide)
  rw [e2034] at b2035
  refine WP_aload_n dX4_become_0 rfl ?_
  refine WP_aload_n dX4_become_1 rfl ?_
  refine WQ_getiu dX4_become_2 fX4_18 rfl (lyx_is hy 63 4 rfl) (fun v2036 ev2036 => ?_)
  refine WQ_puti dX4_become_5 fX4_18 rfl rfl (lyx_is hy 53 4 rfl) (fun I2037 eI2037 => ?_)
  have hI2037 : XI g n L I2037 := by rw [eI2037]; exact (xi_f0 hy hI (c := 53) (by decide) (Or.inl (by decide)) (by decide))
  have e2038 : I2037 (ad g 1) 1 = L := by rw [eI2037, pp_ne _ _ (Or.inl (lyx_ne hy (by decide) (by decide) (by decide)))]; exact e2034
  have e2039 : I2037 (ad g 63) 0 = v2036 := by rw [eI2037, pp_ne _ _ (Or.inl (lyx_ne hy (by decide) (by decide) (by decide)))]; exact ev2036
  have e2040 : I2037 (ad g 53) 0 = v2036 := by rw [eI2037, pp_self]
  clear eI2037
  refine WP_aload_n dX4_become_8 rfl ?_
  refine WP_aload_n dX4_become_9 rfl ?_
  refine WQ_geti dX4_become_10 fX4_22 rfl (lyx_is hy 63 4 rfl) (BT_get hI2037.1 63 1 2 (0) (23760) (0) (by decide) 1 (by decide) (by decide)) (fun v2041 ev2041 av2041 bv2041 => ?_)
  refine WQ_puti dX4_become_13 fX4_22 rfl rfl (lyx_is hy 53 4 rfl) (fun I2042 eI2042 => ?_)
  have hI2042 : XI g n L I2042 := by rw [eI2042]; exact (xi_f hy hI2037 (c := 53) (0) (23760) (0) (by decide) (Or.inl (by decide)) (by decide) (by omega) (by omega))
  have e2043 : I2042 (ad g 1) 1 = L := by rw [eI2042, pp_ne _ _ (Or.inl (lyx_ne hy (by decide) (by decide) (by decide)))]; exact e2038
  have e2044 : I2042 (ad g 63) 0 = v2036 := by rw [eI2042, pp_ne _ _ (Or.inl (lyx_ne hy (by decide) (by decide) (by decide)))]; exact e2039
  have e2045 : I2042 (ad g 53) 0 = v2036 := by rw [eI2042, pp_ne _ _ (Or.inr (by decide))]; exact e2040
  have e2046 : I2042 (ad g 63) 1 = v2041 := by rw [eI2042, pp_ne _ _ (Or.inl (lyx_ne hy (by decide) (by decide) (by decide)))]; exact ev2041
  have e2047 : I2042 (ad g 53) 1 = v2041 := by rw [eI2042, pp_self]
  clear eI2042
  refine WP_aload_n dX4_become_16 rfl ?_
  refine WP_aload_n dX4_become_17 rfl ?_
  refine WQ_getiu dX4_become_18 fX4_25 rfl (lyx_is hy 63 4 rfl) (fun v2048 ev2048 => ?_)
  refine WQ_puti dX4_become_21 fX4_25 rfl rfl (lyx_is hy 53 4 rfl) (fun I2049 eI2049 => ?_)
  have hI2049 : XI g n L I2049 := by rw [eI2049]; exact (xi_f0 hy hI2042 (c := 53) (by decide) (Or.inl (by decide)) (by decide))
  have e2050 : I2049 (ad g 1) 1 = L := by rw [eI2049, pp_ne _ _ (Or.inl (lyx_ne hy (by decide) (by decide) (by decide)))]; exact e2043
  have e2051 : I2049 (ad g 63) 0 = v2036 := by rw [eI2049, pp_ne _ _ (Or.inl (lyx_ne hy (by decide) (by decide) (by decide)))]; exact e2044
  have e2052 : I2049 (ad g 53) 0 = v2036 := by rw [eI2049, pp_ne _ _ (Or.inr (by decide))]; exact e2045
  have e2053 : I2049 (ad g 63) 1 = v2041 := by rw [eI2049, pp_ne _ _ (Or.inl (lyx_ne hy (by decide) (by decide) (by decide)))]; exact e2046
  have e2054 : I2049 (ad g 53) 1 = v2041 := by rw [eI2049, pp_ne _ _ (Or.inr (by decide))]; exact e2047
  have e2055 : I2049 (ad g 63) 2 = v2048 := by rw [eI2049, pp_ne _ _ (Or.inl (lyx_ne hy (by decide) (by decide) (by decide)))]; exact ev2048
  have e2056 : I2049 (ad g 53) 2 = v2048 := by rw [eI2049, pp_self]
  clear eI2049
  refine WP_aload_n dX4_become_24 rfl ?_
  refine WP_aload_n dX4_become_25 rfl ?_
  refine WQ_getl dX4_become_26 fX4_28 rfl (lyx_is hy 63 4 rfl) (fun l2057 el2057 => ?_)
  refine WQ_putl dX4_become_29 fX4_28 rfl rfl (lyx_is hy 53 4 rfl) (fun J2058 eJ2058 => ?_)
  clear eJ2058
  refine WP_aload_n dX4_become_32 rfl ?_
  refine WP_getr dX4_become_33 fX4_9 rfl (lyx_is hy 63 4 rfl) (rfx hr 63 4 64 (by decide)) ?_
  refine WQ_iconst (0) (0) dX4_become_36 rfl rfl (fun v2059 hv2059 => ?_)
  refine WP_aload_n dX4_become_37 rfl ?_
  refine WP_getr dX4_become_38 fX4_9 rfl (lyx_is hy 53 4 rfl) (rfx hr 53 4 54 (by decide)) ?_
  refine WQ_iconst (0) (0) dX4_become_41 rfl rfl (fun v2060 hv2060 => ?_)
  refine WP_aload_n dX4_become_42 rfl ?_
  refine WP_getr dX4_become_43 fX4_9 rfl (lyx_is hy 53 4 rfl) (rfx hr 53 4 54 (by decide)) ?_
  refine WP_alen dX4_become_46 (lyx_is hy 54 13 rfl) (by decide) ?_
  rw [(lyx_n hy 54 4 rfl)]
  obtain ⟨v2061, hv2061, ev2061⟩ : ∃ v : Int32, v.toInt = 4 ∧ nI 4 = v := ⟨_, nI_toInt (by decide), rfl⟩
  rw [ev2061]; clear ev2061
  refine WQ_copy0 (N := 4) dX4_become_47 lX4_46 ⟨by decide, Nat.le_of_ble_eq_true rfl⟩ (lyx_is hy 64 13 rfl) (lyx_is hy 54 13 rfl) hv2059 hv2060 hv2061 (lyx_n hy 64 4 rfl) (lyx_n hy 54 4 rfl) (fun I2062 fI2062 oI2062 => ?_)
  have hI2062 : XI g n L I2062 := xi_copy hy hI2049 64 54 4 (by decide) (by decide) fI2062 oI2062
  clear fI2062 oI2062
  have e2063 : I2062 (ad g 1) 1 = L := hI2062.2
  have b2064 := BT_get hI2062.1 1 1 2 (0) (0) (900) (by decide) 1 (by decide) (by decide)
  rw [e2063] at b2064
  refine WP_aload_n dX4_become_50 rfl ?_
  refine WP_getr dX4_become_51 fX4_15 rfl (lyx_is hy 63 4 rfl) (rfx hr 63 5 65 (by decide)) ?_
  refine WQ_iconst (0) (0) dX4_become_54 rfl rfl (fun v2065 hv2065 => ?_)
  refine WP_aload_n dX4_become_55 rfl ?_
  refine WP_getr dX4_become_56 fX4_15 rfl (lyx_is hy 53 4 rfl) (rfx hr 53 5 55 (by decide)) ?_
  refine WQ_iconst (0) (0) dX4_become_59 rfl rfl (fun v2066 hv2066 => ?_)
  refine WP_aload_n dX4_become_60 rfl ?_
  refine WP_getr dX4_become_61 fX4_15 rfl (lyx_is hy 53 4 rfl) (rfx hr 53 5 55 (by decide)) ?_
  refine WP_alen dX4_become_64 (lyx_is hy 55 13 rfl) (by decide) ?_
  rw [(lyx_n hy 55 28 rfl)]
  obtain ⟨v2067, hv2067, ev2067⟩ : ∃ v : Int32, v.toInt = 28 ∧ nI 28 = v := ⟨_, nI_toInt (by decide), rfl⟩
  rw [ev2067]; clear ev2067
  refine WQ_copy0 (N := 28) dX4_become_65 lX4_46 ⟨by decide, Nat.le_of_ble_eq_true rfl⟩ (lyx_is hy 65 13 rfl) (lyx_is hy 55 13 rfl) hv2065 hv2066 hv2067 (lyx_n hy 65 28 rfl) (lyx_n hy 55 28 rfl) (fun I2068 fI2068 oI2068 => ?_)
  have hI2068 : XI g n L I2068 := xi_copy hy hI2062 65 55 28 (by decide) (by decide) fI2068 oI2068
  clear fI2068 oI2068
  have e2069 : I2068 (ad g 1) 1 = L := hI2068.2
  have b2070 := BT_get hI2068.1 1 1 2 (0) (0) (900) (by decide) 1 (by decide) (by decide)
  rw [e2069] at b2070
  exact WP_vret dX4_become_68 rfl ⟨⟨hI2068, rfl⟩, rfl⟩
set_option maxHeartbeats 4000000 in
set_option maxRecDepth 100000 in
theorem sx_become_53_66 {g : GG} {n : Int} {L : Int32} (hy : LyX g)  {I : pI} {J : pJ} {R : pR} (hr : RfX g R) (hI : XI g n L I)   : SP g mX4_become [.ref (ad g 53), .ref (ad g 66)] I J R (fun r I' J' R' => (XI g n L I' ∧ R' = R) ∧ r = none) := by
  refine SP_of ⟨by decide, rfl⟩ (Nat.le_of_ble_eq_true rfl) ?_
  have e2071 : I (ad g 1) 1 = L := hI.2
  have b2072 := BT_get hI.1 1 1 2 (0) (0) (900) (by decide) 1 (by decide) (by decide)
  rw [e2071] at b2072
  refine WP_aload_n dX4_become_0 rfl ?_
  refine WP_aload_n dX4_become_1 rfl ?_
  refine WQ_getiu dX4_become_2 fX4_18 rfl (lyx_is hy 66 4 rfl) (fun v2073 ev2073 => ?_)
  refine WQ_puti dX4_become_5 fX4_18 rfl rfl (lyx_is hy 53 4 rfl) (fun I2074 eI2074 => ?_)
  have hI2074 : XI g n L I2074 := by rw [eI2074]; exact (xi_f0 hy hI (c := 53) (by decide) (Or.inl (by decide)) (by decide))
  have e2075 : I2074 (ad g 1) 1 = L := by rw [eI2074, pp_ne _ _ (Or.inl (lyx_ne hy (by decide) (by decide) (by decide)))]; exact e2071
  have e2076 : I2074 (ad g 66) 0 = v2073 := by rw [eI2074, pp_ne _ _ (Or.inl (lyx_ne hy (by decide) (by decide) (by decide)))]; exact ev2073
  have e2077 : I2074 (ad g 53) 0 = v2073 := by rw [eI2074, pp_self]
  clear eI2074
  refine WP_aload_n dX4_become_8 rfl ?_
  refine WP_aload_n dX4_become_9 rfl ?_
  refine WQ_geti dX4_become_10 fX4_22 rfl (lyx_is hy 66 4 rfl) (BT_get hI2074.1 66 1 2 (0) (23760) (0) (by decide) 1 (by decide) (by decide)) (fun v2078 ev2078 av2078 bv2078 => ?_)
  refine WQ_puti dX4_become_13 fX4_22 rfl rfl (lyx_is hy 53 4 rfl) (fun I2079 eI2079 => ?_)
  have hI2079 : XI g n L I2079 := by rw [eI2079]; exact (xi_f hy hI2074 (c := 53) (0) (23760) (0) (by decide) (Or.inl (by decide)) (by decide) (by omega) (by omega))
  have e2080 : I2079 (ad g 1) 1 = L := by rw [eI2079, pp_ne _ _ (Or.inl (lyx_ne hy (by decide) (by decide) (by decide)))]; exact e2075
  have e2081 : I2079 (ad g 66) 0 = v2073 := by rw [eI2079, pp_ne _ _ (Or.inl (lyx_ne hy (by decide) (by decide) (by decide)))]; exact e2076
  have e2082 : I2079 (ad g 53) 0 = v2073 := by rw [eI2079, pp_ne _ _ (Or.inr (by decide))]; exact e2077
  have e2083 : I2079 (ad g 66) 1 = v2078 := by rw [eI2079, pp_ne _ _ (Or.inl (lyx_ne hy (by decide) (by decide) (by decide)))]; exact ev2078
  have e2084 : I2079 (ad g 53) 1 = v2078 := by rw [eI2079, pp_self]
  clear eI2079
  refine WP_aload_n dX4_become_16 rfl ?_
  refine WP_aload_n dX4_become_17 rfl ?_
  refine WQ_getiu dX4_become_18 fX4_25 rfl (lyx_is hy 66 4 rfl) (fun v2085 ev2085 => ?_)
  refine WQ_puti dX4_become_21 fX4_25 rfl rfl (lyx_is hy 53 4 rfl) (fun I2086 eI2086 => ?_)
  have hI2086 : XI g n L I2086 := by rw [eI2086]; exact (xi_f0 hy hI2079 (c := 53) (by decide) (Or.inl (by decide)) (by decide))
  have e2087 : I2086 (ad g 1) 1 = L := by rw [eI2086, pp_ne _ _ (Or.inl (lyx_ne hy (by decide) (by decide) (by decide)))]; exact e2080
  have e2088 : I2086 (ad g 66) 0 = v2073 := by rw [eI2086, pp_ne _ _ (Or.inl (lyx_ne hy (by decide) (by decide) (by decide)))]; exact e2081
  have e2089 : I2086 (ad g 53) 0 = v2073 := by rw [eI2086, pp_ne _ _ (Or.inr (by decide))]; exact e2082
  have e2090 : I2086 (ad g 66) 1 = v2078 := by rw [eI2086, pp_ne _ _ (Or.inl (lyx_ne hy (by decide) (by decide) (by decide)))]; exact e2083
  have e2091 : I2086 (ad g 53) 1 = v2078 := by rw [eI2086, pp_ne _ _ (Or.inr (by decide))]; exact e2084
  have e2092 : I2086 (ad g 66) 2 = v2085 := by rw [eI2086, pp_ne _ _ (Or.inl (lyx_ne hy (by decide) (by decide) (by decide)))]; exact ev2085
  have e2093 : I2086 (ad g 53) 2 = v2085 := by rw [eI2086, pp_self]
  clear eI2086
  refine WP_aload_n dX4_become_24 rfl ?_
  refine WP_aload_n dX4_become_25 rfl ?_
  refine WQ_getl dX4_become_26 fX4_28 rfl (lyx_is hy 66 4 rfl) (fun l2094 el2094 => ?_)
  refine WQ_putl dX4_become_29 fX4_28 rfl rfl (lyx_is hy 53 4 rfl) (fun J2095 eJ2095 => ?_)
  clear eJ2095
  refine WP_aload_n dX4_become_32 rfl ?_
  refine WP_getr dX4_become_33 fX4_9 rfl (lyx_is hy 66 4 rfl) (rfx hr 66 4 67 (by decide)) ?_
  refine WQ_iconst (0) (0) dX4_become_36 rfl rfl (fun v2096 hv2096 => ?_)
  refine WP_aload_n dX4_become_37 rfl ?_
  refine WP_getr dX4_become_38 fX4_9 rfl (lyx_is hy 53 4 rfl) (rfx hr 53 4 54 (by decide)) ?_
  refine WQ_iconst (0) (0) dX4_become_41 rfl rfl (fun v2097 hv2097 => ?_)
  refine WP_aload_n dX4_become_42 rfl ?_
  refine WP_getr dX4_become_43 fX4_9 rfl (lyx_is hy 53 4 rfl) (rfx hr 53 4 54 (by decide)) ?_
  refine WP_alen dX4_become_46 (lyx_is hy 54 13 rfl) (by decide) ?_
  rw [(lyx_n hy 54 4 rfl)]
  obtain ⟨v2098, hv2098, ev2098⟩ : ∃ v : Int32, v.toInt = 4 ∧ nI 4 = v := ⟨_, nI_toInt (by decide), rfl⟩
  rw [ev2098]; clear ev2098
  refine WQ_copy0 (N := 4) dX4_become_47 lX4_46 ⟨by decide, Nat.le_of_ble_eq_true rfl⟩ (lyx_is hy 67 13 rfl) (lyx_is hy 54 13 rfl) hv2096 hv2097 hv2098 (lyx_n hy 67 4 rfl) (lyx_n hy 54 4 rfl) (fun I2099 fI2099 oI2099 => ?_)
  have hI2099 : XI g n L I2099 := xi_copy hy hI2086 67 54 4 (by decide) (by decide) fI2099 oI2099
  clear fI2099 oI2099
  have e2100 : I2099 (ad g 1) 1 = L := hI2099.2
  have b2101 := BT_get hI2099.1 1 1 2 (0) (0) (900) (by decide) 1 (by decide) (by decide)
  rw [e2100] at b2101
  refine WP_aload_n dX4_become_50 rfl ?_
  refine WP_getr dX4_become_51 fX4_15 rfl (lyx_is hy 66 4 rfl) (rfx hr 66 5 68 (by decide)) ?_
  refine WQ_iconst (0) (0) dX4_become_54 rfl rfl (fun v2102 hv2102 => ?_)
  refine WP_aload_n dX4_become_55 rfl ?_
  refine WP_getr dX4_become_56 fX4_15 rfl (lyx_is hy 53 4 rfl) (rfx hr 53 5 55 (by decide)) ?_
  refine WQ_iconst (0) (0) dX4_become_59 rfl rfl (fun v2103 hv2103 => ?_)
  refine WP_aload_n dX4_become_60 rfl ?_
  refine WP_getr dX4_become_61 fX4_15 rfl (lyx_is hy 53 4 rfl) (rfx hr 53 5 55 (by decide)) ?_
  refine WP_alen dX4_become_64 (lyx_is hy 55 13 rfl) (by decide) ?_
  rw [(lyx_n hy 55 28 rfl)]
  obtain ⟨v2104, hv2104, ev2104⟩ : ∃ v : Int32, v.toInt = 28 ∧ nI 28 = v := ⟨_, nI_toInt (by decide), rfl⟩
  rw [ev2104]; clear ev2104
  refine WQ_copy0 (N := 28) dX4_become_65 lX4_46 ⟨by decide, Nat.le_of_ble_eq_true rfl⟩ (lyx_is hy 68 13 rfl) (lyx_is hy 55 13 rfl) hv2102 hv2103 hv2104 (lyx_n hy 68 28 rfl) (lyx_n hy 55 28 rfl) (fun I2105 fI2105 oI2105 => ?_)
  have hI2105 : XI g n L I2105 := xi_copy hy hI2099 68 55 28 (by decide) (by decide) fI2105 oI2105
  clear fI2105 oI2105
  have e2106 : I2105 (ad g 1) 1 = L := hI2105.2
  have b2107 := BT_get hI2105.1 1 1 2 (0) (0) (900) (by decide) 1 (by decide) (by decide)
  rw [e2106] at b2107
  exact WP_vret dX4_become_68 rfl ⟨⟨hI2105, rfl⟩, rfl⟩
set_option maxHeartbeats 4000000 in
set_option maxRecDepth 100000 in
theorem sx_sum_56 {g : GG} {n : Int} {L : Int32} (hy : LyX g)  {I : pI} {J : pJ} {R : pR} (hr : RfX g R) (hI : XI g n L I) (wh : Int32) (wh_lo : 0 ≤ wh.toInt) (wh_hi : wh.toInt ≤ 6) : SP g mX4_sum [.ref (ad g 56), .int wh] I J R (fun r I' J' R' => (I' = I ∧ J' = J ∧ R' = R) ∧ ∃ v : Int32, r = some (.int v)) := by
  refine SP_of ⟨by decide, rfl⟩ (Nat.le_of_ble_eq_true rfl) ?_
  have e2108 : I (ad g 1) 1 = L := hI.2
  have b2109 := BT_get hI.1 1 1 2 (0) (0) (900) (by decide) 1 (by decide) (by decide)
  rw [e2108] at b2109
  refine WQ_iconst (0) (0) dX4_sum_0 rfl rfl (fun v2110 hv2110 => ?_)
  refine WP_istore_n (ls' := [(0, _), (1, _), (2, _)]) dX4_sum_1 (by decide) rfl ?_
  refine WQ_iconst (0) (0) dX4_sum_2 rfl rfl (fun v2111 hv2111 => ?_)
  refine WP_istore_n (ls' := [(0, _), (1, _), (2, _), (3, _)]) dX4_sum_3 (by decide) rfl ?_
  have lp4_2113 : ∀ (mz : Nat) (i2112 : Int32) (i2113 : Int32), 0 ≤ i2113.toInt → i2113.toInt ≤ 4 → (5 - i2113.toInt).toNat < mz → WP g mX4_sum 4 [(0, .ref (ad g 56)), (1, .int wh), (2, .int i2112), (3, .int i2113)] [] I J R (fun r I' J' R' => (I' = I ∧ J' = J ∧ R' = R) ∧ ∃ v : Int32, r = some (.int v)) := by
    intro mz
    induction mz with
    | zero =>
      intro i2112 i2113 ai2113 bi2113 hmlp4_2113
      exact absurd hmlp4_2113 (Nat.not_lt_zero _)
    | succ mz ihlp4_2113 =>
      intro i2112 i2113 ai2113 bi2113 hmlp4_2113
      refine WP_iload_n dX4_sum_4 rfl ?_
      refine WQ_iconst (4) (4) dX4_sum_5 rfl rfl (fun v2115 hv2115 => ?_)
      refine WQ_icmp_ge 29 dX4_sum_6 rfl (fun c2115 => ?_) (fun c2115 => ?_)
      · refine WP_iload_n dX4_sum_29 rfl ?_
        exact WP_iret dX4_sum_30 rfl ⟨⟨rfl, rfl, rfl⟩, _, rfl⟩
      · refine WP_iload_n dX4_sum_9 rfl ?_
        refine WP_aload_n dX4_sum_10 rfl ?_
        refine WP_getr dX4_sum_11 fX4_15 rfl (lyx_is hy 56 4 rfl) (rfx hr 56 5 58 (by decide)) ?_
        refine WP_iload_n dX4_sum_14 rfl ?_
        refine WQ_bipush (7) (7) dX4_sum_15 rfl rfl (fun v2117 hv2117 => ?_)
        refine WQ_imulk (7) dX4_sum_17 hv2117 (by omega) (by omega) (fun v2118 hv2118 => ?_)
        refine WP_iload_n dX4_sum_18 rfl ?_
        refine WQ_iadd dX4_sum_19 (by omega) (by omega) (fun v2119 hv2119 => ?_)
        refine WQ_ialdu dX4_sum_20 (lyx_is hy 58 13 rfl) (lyx_n hy 58 28 rfl) (by omega) (by omega) (fun v2120 => ?_)
        refine WQ_iaddu dX4_sum_21 (fun v2121 => ?_)
        refine WP_istore_n (ls' := [(0, _), (1, _), (2, _), (3, _)]) dX4_sum_22 (by decide) rfl ?_
        refine WP_iinc (ls' := [(0, _), (1, _), (2, _), (3, _)]) dX4_sum_23 rfl (by decide) rfl ?_
        have hv2122 : (i2113 + Int32.ofInt (1)).toInt = i2113.toInt + (1) := ia_n rfl (by omega) (by omega)
        generalize i2113 + Int32.ofInt (1) = v2122 at hv2122 ⊢
        refine WP_goto 4 dX4_sum_26 rfl ?_
        exact WP_sub (fc rfl (fc rfl (fc rfl (fc rfl fn)))) (ihlp4_2113 v2121 v2122 (by omega) (by omega) (by omega))
  exact WP_sub (fc rfl (fc rfl (fc rfl (fc rfl fn)))) (lp4_2113 _ v2110 v2111 (by omega) (by omega) (Nat.lt_succ_self _))
set_option maxHeartbeats 4000000 in
set_option maxRecDepth 100000 in
theorem sx_begin_56_6 {g : GG} {n : Int} {L : Int32} (hy : LyX g)  {I : pI} {J : pJ} {R : pR} (hr : RfX g R) (hI : XI g n L I)   (hn : 0 ≤ n) : SP g mX4_begin [.ref (ad g 56), .ref (ad g 6)] I J R (fun r I' J' R' => (XI g n L I' ∧ R' = R) ∧ r = none) := by
  refine SP_of ⟨by decide, rfl⟩ (Nat.le_of_ble_eq_true rfl) ?_
  have e2123 : I (ad g 1) 1 = L := hI.2
  have b2124 := BT_get hI.1 1 1 2 (0) (0) (900) (by decide) 1 (by decide) (by decide)
  rw [e2123] at b2124
  refine WP_aload_n dX4_begin_0 rfl ?_
  refine WQ_iconst (0) (0) dX4_begin_1 rfl rfl (fun v2125 hv2125 => ?_)
  refine WQ_puti dX4_begin_2 fX4_18 rfl rfl (lyx_is hy 56 4 rfl) (fun I2126 eI2126 => ?_)
  have hI2126 : XI g n L I2126 := by rw [eI2126]; exact (xi_f0 hy hI (c := 56) (by decide) (Or.inl (by decide)) (by decide))
  have e2127 : I2126 (ad g 1) 1 = L := by rw [eI2126, pp_ne _ _ (Or.inl (lyx_ne hy (by decide) (by decide) (by decide)))]; exact e2123
  have e2128 : I2126 (ad g 56) 0 = v2125 := by rw [eI2126, pp_self]
  clear eI2126
  refine WP_aload_n dX4_begin_5 rfl ?_
  refine WQ_iconst (0) (0) dX4_begin_6 rfl rfl (fun v2129 hv2129 => ?_)
  refine WQ_puti dX4_begin_7 fX4_22 rfl rfl (lyx_is hy 56 4 rfl) (fun I2130 eI2130 => ?_)
  have hI2130 : XI g n L I2130 := by rw [eI2130]; exact (xi_f hy hI2126 (c := 56) (0) (23760) (700000) (by decide) (Or.inl (by decide)) (by decide) (by omega) (by omega))
  have e2131 : I2130 (ad g 1) 1 = L := by rw [eI2130, pp_ne _ _ (Or.inl (lyx_ne hy (by decide) (by decide) (by decide)))]; exact e2127
  have e2132 : I2130 (ad g 56) 0 = v2125 := by rw [eI2130, pp_ne _ _ (Or.inr (by decide))]; exact e2128
  have e2133 : I2130 (ad g 56) 1 = v2129 := by rw [eI2130, pp_self]
  clear eI2130
  refine WP_aload_n dX4_begin_10 rfl ?_
  refine WQ_iconst (0) (0) dX4_begin_11 rfl rfl (fun v2134 hv2134 => ?_)
  refine WQ_puti dX4_begin_12 fX4_25 rfl rfl (lyx_is hy 56 4 rfl) (fun I2135 eI2135 => ?_)
  have hI2135 : XI g n L I2135 := by rw [eI2135]; exact (xi_f0 hy hI2130 (c := 56) (by decide) (Or.inl (by decide)) (by decide))
  have e2136 : I2135 (ad g 1) 1 = L := by rw [eI2135, pp_ne _ _ (Or.inl (lyx_ne hy (by decide) (by decide) (by decide)))]; exact e2131
  have e2137 : I2135 (ad g 56) 0 = v2125 := by rw [eI2135, pp_ne _ _ (Or.inr (by decide))]; exact e2132
  have e2138 : I2135 (ad g 56) 1 = v2129 := by rw [eI2135, pp_ne _ _ (Or.inr (by decide))]; exact e2133
  have e2139 : I2135 (ad g 56) 2 = v2134 := by rw [eI2135, pp_self]
  clear eI2135
  refine WP_aload_n dX4_begin_15 rfl ?_
  refine WP_lconst (0) dX4_begin_16 rfl ?_
  obtain ⟨l2140, hl2140, el2140⟩ : ∃ v : Int64, v.toInt = 0 ∧ (0 : Int64) = v := ⟨_, rfl, rfl⟩
  rw [el2140]; clear el2140
  refine WQ_putl dX4_begin_17 fX4_28 rfl rfl (lyx_is hy 56 4 rfl) (fun J2141 eJ2141 => ?_)
  clear eJ2141
  refine WP_aload_n dX4_begin_20 rfl ?_
  refine WP_getr dX4_begin_21 fX4_15 rfl (lyx_is hy 56 4 rfl) (rfx hr 56 5 58 (by decide)) ?_
  refine WQ_iconst (0) (0) dX4_begin_24 rfl rfl (fun v2142 hv2142 => ?_)
  refine WP_callS2u dX4_begin_25 ⟨⟨⟨by decide, by decide⟩, zJ7_fill_53178⟩, lX4_32, tJ7_fill_53178⟩ (s_fill hy hr 58 28 rfl rfl (by decide) v2142) (Nat.le_of_ble_eq_true rfl) ?_
  obtain ⟨I2143, eI2143⟩ : ∃ I9 : pI, I9 = fi I2135 (ad g 58) 28 v2142 := ⟨_, rfl⟩
  rw [← eI2143]
  have hI2143 : XI g n L I2143 := by rw [eI2143]; exact (fa_fill hy hI2135 (c := 58) 28 (by decide) hv2142)
  have e2144 : I2143 (ad g 1) 1 = L := by rw [eI2143, fi_off (lyx_ne hy (by decide) (by decide) (by decide))]; exact e2136
  have e2145 : I2143 (ad g 56) 0 = v2125 := by rw [eI2143, fi_off (lyx_ne hy (by decide) (by decide) (by decide))]; exact e2137
  have e2146 : I2143 (ad g 56) 1 = v2129 := by rw [eI2143, fi_off (lyx_ne hy (by decide) (by decide) (by decide))]; exact e2138
  have e2147 : I2143 (ad g 56) 2 = v2134 := by rw [eI2143, fi_off (lyx_ne hy (by decide) (by decide) (by decide))]; exact e2139
  clear eI2143
  refine WQ_iconst (0) (0) dX4_begin_28 rfl rfl (fun v2148 hv2148 => ?_)
  refine WP_istore_n (ls' := [(0, _), (1, _), (2, _)]) dX4_begin_29 (by decide) rfl ?_
  have lp30_2151 : ∀ (mz : Nat) (i2149 : Int32) (I2150 : pI) (J2151 : pJ), XI g n L I2150 → 0 ≤ i2149.toInt → i2149.toInt ≤ 4 → (5 - i2149.toInt).toNat < mz → WP g mX4_begin 30 [(0, .ref (ad g 56)), (1, .ref (ad g 6)), (2, .int i2149)] [] I2150 J2151 R (fun r I' J' R' => (XI g n L I' ∧ R' = R) ∧ r = none) := by
    intro mz
    induction mz with
    | zero =>
      intro i2149 I2150 J2151 hI2150 ai2149 bi2149 hmlp30_2151
      exact absurd hmlp30_2151 (Nat.not_lt_zero _)
    | succ mz ihlp30_2151 =>
      intro i2149 I2150 J2151 hI2150 ai2149 bi2149 hmlp30_2151
      have e2153 : I2150 (ad g 1) 1 = L := hI2150.2
      have b2154 := BT_get hI2150.1 1 1 2 (0) (0) (900) (by decide) 1 (by decide) (by decide)
      rw [e2153] at b2154
      refine WP_iload_n dX4_begin_30 rfl ?_
      refine WP_aload_n dX4_begin_31 rfl ?_
      refine WQ_geti dX4_begin_32 fX4_38 rfl (lyx_is hy 6 7 rfl) (BT_get hI2150.1 6 1 2 (0) (0) (4) (by decide) 1 (by decide) (by decide)) (fun v2155 ev2155 av2155 bv2155 => ?_)
      refine WQ_icmp_ge 61 dX4_begin_35 rfl (fun c2155 => ?_) (fun c2155 => ?_)
      · exact WP_vret dX4_begin_61 rfl ⟨⟨hI2150, rfl⟩, rfl⟩
      · refine WP_aload_n dX4_begin_38 rfl ?_
        refine WP_getr dX4_begin_39 fX4_15 rfl (lyx_is hy 56 4 rfl) (rfx hr 56 5 58 (by decide)) ?_
        refine WP_iload_n dX4_begin_42 rfl ?_
        refine WQ_bipush (7) (7) dX4_begin_43 rfl rfl (fun v2157 hv2157 => ?_)
        refine WQ_imulk (7) dX4_begin_45 hv2157 (by omega) (by omega) (fun v2158 hv2158 => ?_)
        refine WQ_iconst (0) (0) dX4_begin_46 rfl rfl (fun v2159 hv2159 => ?_)
        refine WQ_iadd dX4_begin_47 (by omega) (by omega) (fun v2160 hv2160 => ?_)
        refine WP_aload_n dX4_begin_48 rfl ?_
        refine WP_getr dX4_begin_49 fX4_43 rfl (lyx_is hy 6 7 rfl) (rfx hr 6 8 10 (by decide)) ?_
        refine WP_iload_n dX4_begin_52 rfl ?_
        refine WQ_iald dX4_begin_53 (lyx_is hy 10 13 rfl) (lyx_n hy 10 4 rfl) (by omega) (by omega) (fun q hq => BT_get hI2150.1 10 0 4 (0) (0) (60) (by decide) q (Nat.zero_le _) hq) (fun v2161 av2161 bv2161 ev2161 => ?_)
        clear ev2161
        refine WQ_iast dX4_begin_54 (lyx_is hy 58 13 rfl) (lyx_n hy 58 28 rfl) (by omega) (by omega) (fun I2162 eI2162 => ?_)
        have hI2162 : XI g n L I2162 := by rw [eI2162]; exact (fa_put hy hI2150 (c := 58) (k := 0) (s := i2149.toInt.toNat) (by decide) (by omega) (by decide) (by rw [cl (n := 7 * i2149.toInt.toNat + 0) (by omega)]) (fun _ => by omega) (fun _ => by omega))
        have e2163 : I2162 (ad g 1) 1 = L := by rw [eI2162, pp_ne _ _ (Or.inl (lyx_ne hy (by decide) (by decide) (by decide)))]; exact e2153
        have e2164 : I2162 (ad g 6) 1 = v2155 := by rw [eI2162, pp_ne _ _ (Or.inl (lyx_ne hy (by decide) (by decide) (by decide)))]; exact ev2155
        clear eI2162
        refine WP_iinc (ls' := [(0, _), (1, _), (2, _)]) dX4_begin_55 rfl (by decide) rfl ?_
        have hv2165 : (i2149 + Int32.ofInt (1)).toInt = i2149.toInt + (1) := ia_n rfl (by omega) (by omega)
        generalize i2149 + Int32.ofInt (1) = v2165 at hv2165 ⊢
        refine WP_goto 30 dX4_begin_58 rfl ?_
        exact WP_sub (fc rfl (fc rfl (fc rfl fn))) (ihlp30_2151 v2165 I2162 J2151 hI2162 (by omega) (by omega) (by omega))
  exact WP_sub (fc rfl (fc rfl (fc rfl fn))) (lp30_2151 _ v2148 I2143 J2141 hI2143 (by omega) (by omega) (Nat.lt_succ_self _))
set_option maxHeartbeats 4000000 in
set_option maxRecDepth 100000 in
theorem sx_begin_56_27 {g : GG} {n : Int} {L : Int32} (hy : LyX g)  {I : pI} {J : pJ} {R : pR} (hr : RfX g R) (hI : XI g n L I)   (hn : 0 ≤ n) : SP g mX4_begin [.ref (ad g 56), .ref (ad g 27)] I J R (fun r I' J' R' => (XI g n L I' ∧ R' = R) ∧ r = none) := by
  refine SP_of ⟨by decide, rfl⟩ (Nat.le_of_ble_eq_true rfl) ?_
  have e2166 : I (ad g 1) 1 = L := hI.2
  have b2167 := BT_get hI.1 1 1 2 (0) (0) (900) (by decide) 1 (by decide) (by decide)
  rw [e2166] at b2167
  refine WP_aload_n dX4_begin_0 rfl ?_
  refine WQ_iconst (0) (0) dX4_begin_1 rfl rfl (fun v2168 hv2168 => ?_)
  refine WQ_puti dX4_begin_2 fX4_18 rfl rfl (lyx_is hy 56 4 rfl) (fun I2169 eI2169 => ?_)
  have hI2169 : XI g n L I2169 := by rw [eI2169]; exact (xi_f0 hy hI (c := 56) (by decide) (Or.inl (by decide)) (by decide))
  have e2170 : I2169 (ad g 1) 1 = L := by rw [eI2169, pp_ne _ _ (Or.inl (lyx_ne hy (by decide) (by decide) (by decide)))]; exact e2166
  have e2171 : I2169 (ad g 56) 0 = v2168 := by rw [eI2169, pp_self]
  clear eI2169
  refine WP_aload_n dX4_begin_5 rfl ?_
  refine WQ_iconst (0) (0) dX4_begin_6 rfl rfl (fun v2172 hv2172 => ?_)
  refine WQ_puti dX4_begin_7 fX4_22 rfl rfl (lyx_is hy 56 4 rfl) (fun I2173 eI2173 => ?_)
  have hI2173 : XI g n L I2173 := by rw [eI2173]; exact (xi_f hy hI2169 (c := 56) (0) (23760) (700000) (by decide) (Or.inl (by decide)) (by decide) (by omega) (by omega))
  have e2174 : I2173 (ad g 1) 1 = L := by rw [eI2173, pp_ne _ _ (Or.inl (lyx_ne hy (by decide) (by decide) (by decide)))]; exact e2170
  have e2175 : I2173 (ad g 56) 0 = v2168 := by rw [eI2173, pp_ne _ _ (Or.inr (by decide))]; exact e2171
  have e2176 : I2173 (ad g 56) 1 = v2172 := by rw [eI2173, pp_self]
  clear eI2173
  refine WP_aload_n dX4_begin_10 rfl ?_
  refine WQ_iconst (0) (0) dX4_begin_11 rfl rfl (fun v2177 hv2177 => ?_)
  refine WQ_puti dX4_begin_12 fX4_25 rfl rfl (lyx_is hy 56 4 rfl) (fun I2178 eI2178 => ?_)
  have hI2178 : XI g n L I2178 := by rw [eI2178]; exact (xi_f0 hy hI2173 (c := 56) (by decide) (Or.inl (by decide)) (by decide))
  have e2179 : I2178 (ad g 1) 1 = L := by rw [eI2178, pp_ne _ _ (Or.inl (lyx_ne hy (by decide) (by decide) (by decide)))]; exact e2174
  have e2180 : I2178 (ad g 56) 0 = v2168 := by rw [eI2178, pp_ne _ _ (Or.inr (by decide))]; exact e2175
  have e2181 : I2178 (ad g 56) 1 = v2172 := by rw [eI2178, pp_ne _ _ (Or.inr (by decide))]; exact e2176
  have e2182 : I2178 (ad g 56) 2 = v2177 := by rw [eI2178, pp_self]
  clear eI2178
  refine WP_aload_n dX4_begin_15 rfl ?_
  refine WP_lconst (0) dX4_begin_16 rfl ?_
  obtain ⟨l2183, hl2183, el2183⟩ : ∃ v : Int64, v.toInt = 0 ∧ (0 : Int64) = v := ⟨_, rfl, rfl⟩
  rw [el2183]; clear el2183
  refine WQ_putl dX4_begin_17 fX4_28 rfl rfl (lyx_is hy 56 4 rfl) (fun J2184 eJ2184 => ?_)
  clear eJ2184
  refine WP_aload_n dX4_begin_20 rfl ?_
  refine WP_getr dX4_begin_21 fX4_15 rfl (lyx_is hy 56 4 rfl) (rfx hr 56 5 58 (by decide)) ?_
  refine WQ_iconst (0) (0) dX4_begin_24 rfl rfl (fun v2185 hv2185 => ?_)
  refine WP_callS2u dX4_begin_25 ⟨⟨⟨by decide, by decide⟩, zJ7_fill_53178⟩, lX4_32, tJ7_fill_53178⟩ (s_fill hy hr 58 28 rfl rfl (by decide) v2185) (Nat.le_of_ble_eq_true rfl) ?_
  obtain ⟨I2186, eI2186⟩ : ∃ I9 : pI, I9 = fi I2178 (ad g 58) 28 v2185 := ⟨_, rfl⟩
  rw [← eI2186]
  have hI2186 : XI g n L I2186 := by rw [eI2186]; exact (fa_fill hy hI2178 (c := 58) 28 (by decide) hv2185)
  have e2187 : I2186 (ad g 1) 1 = L := by rw [eI2186, fi_off (lyx_ne hy (by decide) (by decide) (by decide))]; exact e2179
  have e2188 : I2186 (ad g 56) 0 = v2168 := by rw [eI2186, fi_off (lyx_ne hy (by decide) (by decide) (by decide))]; exact e2180
  have e2189 : I2186 (ad g 56) 1 = v2172 := by rw [eI2186, fi_off (lyx_ne hy (by decide) (by decide) (by decide))]; exact e2181
  have e2190 : I2186 (ad g 56) 2 = v2177 := by rw [eI2186, fi_off (lyx_ne hy (by decide) (by decide) (by decide))]; exact e2182
  clear eI2186
  refine WQ_iconst (0) (0) dX4_begin_28 rfl rfl (fun v2191 hv2191 => ?_)
  refine WP_istore_n (ls' := [(0, _), (1, _), (2, _)]) dX4_begin_29 (by decide) rfl ?_
  have lp30_2194 : ∀ (mz : Nat) (i2192 : Int32) (I2193 : pI) (J2194 : pJ), XI g n L I2193 → 0 ≤ i2192.toInt → i2192.toInt ≤ 4 → (5 - i2192.toInt).toNat < mz → WP g mX4_begin 30 [(0, .ref (ad g 56)), (1, .ref (ad g 27)), (2, .int i2192)] [] I2193 J2194 R (fun r I' J' R' => (XI g n L I' ∧ R' = R) ∧ r = none) := by
    intro mz
    induction mz with
    | zero =>
      intro i2192 I2193 J2194 hI2193 ai2192 bi2192 hmlp30_2194
      exact absurd hmlp30_2194 (Nat.not_lt_zero _)
    | succ mz ihlp30_2194 =>
      intro i2192 I2193 J2194 hI2193 ai2192 bi2192 hmlp30_2194
      have e2196 : I2193 (ad g 1) 1 = L := hI2193.2
      have b2197 := BT_get hI2193.1 1 1 2 (0) (0) (900) (by decide) 1 (by decide) (by decide)
      rw [e2196] at b2197
      refine WP_iload_n dX4_begin_30 rfl ?_
      refine WP_aload_n dX4_begin_31 rfl ?_
      refine WQ_geti dX4_begin_32 fX4_38 rfl (lyx_is hy 27 7 rfl) (BT_get hI2193.1 27 1 2 (0) (0) (4) (by decide) 1 (by decide) (by decide)) (fun v2198 ev2198 av2198 bv2198 => ?_)
      refine WQ_icmp_ge 61 dX4_begin_35 rfl (fun c2198 => ?_) (fun c2198 => ?_)
      · exact WP_vret dX4_begin_61 rfl ⟨⟨hI2193, rfl⟩, rfl⟩
      · refine WP_aload_n dX4_begin_38 rfl ?_
        refine WP_getr dX4_begin_39 fX4_15 rfl (lyx_is hy 56 4 rfl) (rfx hr 56 5 58 (by decide)) ?_
        refine WP_iload_n dX4_begin_42 rfl ?_
        refine WQ_bipush (7) (7) dX4_begin_43 rfl rfl (fun v2200 hv2200 => ?_)
        refine WQ_imulk (7) dX4_begin_45 hv2200 (by omega) (by omega) (fun v2201 hv2201 => ?_)
        refine WQ_iconst (0) (0) dX4_begin_46 rfl rfl (fun v2202 hv2202 => ?_)
        refine WQ_iadd dX4_begin_47 (by omega) (by omega) (fun v2203 hv2203 => ?_)
        refine WP_aload_n dX4_begin_48 rfl ?_
        refine WP_getr dX4_begin_49 fX4_43 rfl (lyx_is hy 27 7 rfl) (rfx hr 27 8 31 (by decide)) ?_
        refine WP_iload_n dX4_begin_52 rfl ?_
        refine WQ_iald dX4_begin_53 (lyx_is hy 31 13 rfl) (lyx_n hy 31 4 rfl) (by omega) (by omega) (fun q hq => BT_get hI2193.1 31 0 4 (0) (0) (60) (by decide) q (Nat.zero_le _) hq) (fun v2204 av2204 bv2204 ev2204 => ?_)
        clear ev2204
        refine WQ_iast dX4_begin_54 (lyx_is hy 58 13 rfl) (lyx_n hy 58 28 rfl) (by omega) (by omega) (fun I2205 eI2205 => ?_)
        have hI2205 : XI g n L I2205 := by rw [eI2205]; exact (fa_put hy hI2193 (c := 58) (k := 0) (s := i2192.toInt.toNat) (by decide) (by omega) (by decide) (by rw [cl (n := 7 * i2192.toInt.toNat + 0) (by omega)]) (fun _ => by omega) (fun _ => by omega))
        have e2206 : I2205 (ad g 1) 1 = L := by rw [eI2205, pp_ne _ _ (Or.inl (lyx_ne hy (by decide) (by decide) (by decide)))]; exact e2196
        have e2207 : I2205 (ad g 27) 1 = v2198 := by rw [eI2205, pp_ne _ _ (Or.inl (lyx_ne hy (by decide) (by decide) (by decide)))]; exact ev2198
        clear eI2205
        refine WP_iinc (ls' := [(0, _), (1, _), (2, _)]) dX4_begin_55 rfl (by decide) rfl ?_
        have hv2208 : (i2192 + Int32.ofInt (1)).toInt = i2192.toInt + (1) := ia_n rfl (by omega) (by omega)
        generalize i2192 + Int32.ofInt (1) = v2208 at hv2208 ⊢
        refine WP_goto 30 dX4_begin_58 rfl ?_
        exact WP_sub (fc rfl (fc rfl (fc rfl fn))) (ihlp30_2194 v2208 I2205 J2194 hI2205 (by omega) (by omega) (by omega))
  exact WP_sub (fc rfl (fc rfl (fc rfl fn))) (lp30_2194 _ v2191 I2186 J2184 hI2186 (by omega) (by omega) (Nat.lt_succ_self _))
set_option maxHeartbeats 4000000 in
set_option maxRecDepth 100000 in
theorem sx_become_56_53 {g : GG} {n : Int} {L : Int32} (hy : LyX g)  {I : pI} {J : pJ} {R : pR} (hr : RfX g R) (hI : XI g n L I)   : SP g mX4_become [.ref (ad g 56), .ref (ad g 53)] I J R (fun r I' J' R' => (XI g n L I' ∧ R' = R) ∧ r = none) := by
  refine SP_of ⟨by decide, rfl⟩ (Nat.le_of_ble_eq_true rfl) ?_
  have e2209 : I (ad g 1) 1 = L := hI.2
  have b2210 := BT_get hI.1 1 1 2 (0) (0) (900) (by decide) 1 (by decide) (by decide)
  rw [e2209] at b2210
  refine WP_aload_n dX4_become_0 rfl ?_
  refine WP_aload_n dX4_become_1 rfl ?_
  refine WQ_getiu dX4_become_2 fX4_18 rfl (lyx_is hy 53 4 rfl) (fun v2211 ev2211 => ?_)
  refine WQ_puti dX4_become_5 fX4_18 rfl rfl (lyx_is hy 56 4 rfl) (fun I2212 eI2212 => ?_)
  have hI2212 : XI g n L I2212 := by rw [eI2212]; exact (xi_f0 hy hI (c := 56) (by decide) (Or.inl (by decide)) (by decide))
  have e2213 : I2212 (ad g 1) 1 = L := by rw [eI2212, pp_ne _ _ (Or.inl (lyx_ne hy (by decide) (by decide) (by decide)))]; exact e2209
  have e2214 : I2212 (ad g 53) 0 = v2211 := by rw [eI2212, pp_ne _ _ (Or.inl (lyx_ne hy (by decide) (by decide) (by decide)))]; exact ev2211
  have e2215 : I2212 (ad g 56) 0 = v2211 := by rw [eI2212, pp_self]
  clear eI2212
  refine WP_aload_n dX4_become_8 rfl ?_
  refine WP_aload_n dX4_become_9 rfl ?_
  refine WQ_geti dX4_become_10 fX4_22 rfl (lyx_is hy 53 4 rfl) (BT_get hI2212.1 53 1 2 (0) (23760) (0) (by decide) 1 (by decide) (by decide)) (fun v2216 ev2216 av2216 bv2216 => ?_)
  refine WQ_puti dX4_become_13 fX4_22 rfl rfl (lyx_is hy 56 4 rfl) (fun I2217 eI2217 => ?_)
  have hI2217 : XI g n L I2217 := by rw [eI2217]; exact (xi_f hy hI2212 (c := 56) (0) (23760) (700000) (by decide) (Or.inl (by decide)) (by decide) (by omega) (by omega))
  have e2218 : I2217 (ad g 1) 1 = L := by rw [eI2217, pp_ne _ _ (Or.inl (lyx_ne hy (by decide) (by decide) (by decide)))]; exact e2213
  have e2219 : I2217 (ad g 53) 0 = v2211 := by rw [eI2217, pp_ne _ _ (Or.inl (lyx_ne hy (by decide) (by decide) (by decide)))]; exact e2214
  have e2220 : I2217 (ad g 56) 0 = v2211 := by rw [eI2217, pp_ne _ _ (Or.inr (by decide))]; exact e2215
  have e2221 : I2217 (ad g 53) 1 = v2216 := by rw [eI2217, pp_ne _ _ (Or.inl (lyx_ne hy (by decide) (by decide) (by decide)))]; exact ev2216
  have e2222 : I2217 (ad g 56) 1 = v2216 := by rw [eI2217, pp_self]
  clear eI2217
  refine WP_aload_n dX4_become_16 rfl ?_
  refine WP_aload_n dX4_become_17 rfl ?_
  refine WQ_getiu dX4_become_18 fX4_25 rfl (lyx_is hy 53 4 rfl) (fun v2223 ev2223 => ?_)
  refine WQ_puti dX4_become_21 fX4_25 rfl rfl (lyx_is hy 56 4 rfl) (fun I2224 eI2224 => ?_)
  have hI2224 : XI g n L I2224 := by rw [eI2224]; exact (xi_f0 hy hI2217 (c := 56) (by decide) (Or.inl (by decide)) (by decide))
  have e2225 : I2224 (ad g 1) 1 = L := by rw [eI2224, pp_ne _ _ (Or.inl (lyx_ne hy (by decide) (by decide) (by decide)))]; exact e2218
  have e2226 : I2224 (ad g 53) 0 = v2211 := by rw [eI2224, pp_ne _ _ (Or.inl (lyx_ne hy (by decide) (by decide) (by decide)))]; exact e2219
  have e2227 : I2224 (ad g 56) 0 = v2211 := by rw [eI2224, pp_ne _ _ (Or.inr (by decide))]; exact e2220
  have e2228 : I2224 (ad g 53) 1 = v2216 := by rw [eI2224, pp_ne _ _ (Or.inl (lyx_ne hy (by decide) (by decide) (by decide)))]; exact e2221
  have e2229 : I2224 (ad g 56) 1 = v2216 := by rw [eI2224, pp_ne _ _ (Or.inr (by decide))]; exact e2222
  have e2230 : I2224 (ad g 53) 2 = v2223 := by rw [eI2224, pp_ne _ _ (Or.inl (lyx_ne hy (by decide) (by decide) (by decide)))]; exact ev2223
  have e2231 : I2224 (ad g 56) 2 = v2223 := by rw [eI2224, pp_self]
  clear eI2224
  refine WP_aload_n dX4_become_24 rfl ?_
  refine WP_aload_n dX4_become_25 rfl ?_
  refine WQ_getl dX4_become_26 fX4_28 rfl (lyx_is hy 53 4 rfl) (fun l2232 el2232 => ?_)
  refine WQ_putl dX4_become_29 fX4_28 rfl rfl (lyx_is hy 56 4 rfl) (fun J2233 eJ2233 => ?_)
  clear eJ2233
  refine WP_aload_n dX4_become_32 rfl ?_
  refine WP_getr dX4_become_33 fX4_9 rfl (lyx_is hy 53 4 rfl) (rfx hr 53 4 54 (by decide)) ?_
  refine WQ_iconst (0) (0) dX4_become_36 rfl rfl (fun v2234 hv2234 => ?_)
  refine WP_aload_n dX4_become_37 rfl ?_
  refine WP_getr dX4_become_38 fX4_9 rfl (lyx_is hy 56 4 rfl) (rfx hr 56 4 57 (by decide)) ?_
  refine WQ_iconst (0) (0) dX4_become_41 rfl rfl (fun v2235 hv2235 => ?_)
  refine WP_aload_n dX4_become_42 rfl ?_
  refine WP_getr dX4_become_43 fX4_9 rfl (lyx_is hy 56 4 rfl) (rfx hr 56 4 57 (by decide)) ?_
  refine WP_alen dX4_become_46 (lyx_is hy 57 13 rfl) (by decide) ?_
  rw [(lyx_n hy 57 4 rfl)]
  obtain ⟨v2236, hv2236, ev2236⟩ : ∃ v : Int32, v.toInt = 4 ∧ nI 4 = v := ⟨_, nI_toInt (by decide), rfl⟩
  rw [ev2236]; clear ev2236
  refine WQ_copy0 (N := 4) dX4_become_47 lX4_46 ⟨by decide, Nat.le_of_ble_eq_true rfl⟩ (lyx_is hy 54 13 rfl) (lyx_is hy 57 13 rfl) hv2234 hv2235 hv2236 (lyx_n hy 54 4 rfl) (lyx_n hy 57 4 rfl) (fun I2237 fI2237 oI2237 => ?_)
  have hI2237 : XI g n L I2237 := xi_copy hy hI2224 54 57 4 (by decide) (by decide) fI2237 oI2237
  clear fI2237 oI2237
  have e2238 : I2237 (ad g 1) 1 = L := hI2237.2
  have b2239 := BT_get hI2237.1 1 1 2 (0) (0) (900) (by decide) 1 (by decide) (by decide)
  rw [e2238] at b2239
  refine WP_aload_n dX4_become_50 rfl ?_
  refine WP_getr dX4_become_51 fX4_15 rfl (lyx_is hy 53 4 rfl) (rfx hr 53 5 55 (by decide)) ?_
  refine WQ_iconst (0) (0) dX4_become_54 rfl rfl (fun v2240 hv2240 => ?_)
  refine WP_aload_n dX4_become_55 rfl ?_
  refine WP_getr dX4_become_56 fX4_15 rfl (lyx_is hy 56 4 rfl) (rfx hr 56 5 58 (by decide)) ?_
  refine WQ_iconst (0) (0) dX4_become_59 rfl rfl (fun v2241 hv2241 => ?_)
  refine WP_aload_n dX4_become_60 rfl ?_
  refine WP_getr dX4_become_61 fX4_15 rfl (lyx_is hy 56 4 rfl) (rfx hr 56 5 58 (by decide)) ?_
  refine WP_alen dX4_become_64 (lyx_is hy 58 13 rfl) (by decide) ?_
  rw [(lyx_n hy 58 28 rfl)]
  obtain ⟨v2242, hv2242, ev2242⟩ : ∃ v : Int32, v.toInt = 28 ∧ nI 28 = v := ⟨_, nI_toInt (by decide), rfl⟩
  rw [ev2242]; clear ev2242
  refine WQ_copy0 (N := 28) dX4_become_65 lX4_46 ⟨by decide, Nat.le_of_ble_eq_true rfl⟩ (lyx_is hy 55 13 rfl) (lyx_is hy 58 13 rfl) hv2240 hv2241 hv2242 (lyx_n hy 55 28 rfl) (lyx_n hy 58 28 rfl) (fun I2243 fI2243 oI2243 => ?_)
  have hI2243 : XI g n L I2243 := xi_copy hy hI2237 55 58 28 (by decide) (by decide) fI2243 oI2243
  clear fI2243 oI2243
  have e2244 : I2243 (ad g 1) 1 = L := hI2243.2
  have b2245 := BT_get hI2243.1 1 1 2 (0) (0) (900) (by decide) 1 (by decide) (by decide)
  rw [e2244] at b2245
  exact WP_vret dX4_become_68 rfl ⟨⟨hI2243, rfl⟩, rfl⟩
set_option maxHeartbeats 4000000 in
set_option maxRecDepth 100000 in
theorem sx_sum_60 {g : GG} {n : Int} {L : Int32} (hy : LyX g)  {I : pI} {J : pJ} {R : pR} (hr : RfX g R) (hI : XI g n L I) (wh : Int32) (wh_lo : 0 ≤ wh.toInt) (wh_hi : wh.toInt ≤ 6) : SP g mX4_sum [.ref (ad g 60), .int wh] I J R (fun r I' J' R' => (I' = I ∧ J' = J ∧ R' = R) ∧ ∃ v : Int32, r = some (.int v)) := by
  refine SP_of ⟨by decide, rfl⟩ (Nat.le_of_ble_eq_true rfl) ?_
  have e2246 : I (ad g 1) 1 = L := hI.2
  have b2247 := BT_get hI.1 1 1 2 (0) (0) (900) (by decide) 1 (by decide) (by decide)
  rw [e2246] at b2247
  refine WQ_iconst (0) (0) dX4_sum_0 rfl rfl (fun v2248 hv2248 => ?_)
  refine WP_istore_n (ls' := [(0, _), (1, _), (2, _)]) dX4_sum_1 (by decide) rfl ?_
  refine WQ_iconst (0) (0) dX4_sum_2 rfl rfl (fun v2249 hv2249 => ?_)
  refine WP_istore_n (ls' := [(0, _), (1, _), (2, _), (3, _)]) dX4_sum_3 (by decide) rfl ?_
  have lp4_2251 : ∀ (mz : Nat) (i2250 : Int32) (i2251 : Int32), 0 ≤ i2251.toInt → i2251.toInt ≤ 4 → (5 - i2251.toInt).toNat < mz → WP g mX4_sum 4 [(0, .ref (ad g 60)), (1, .int wh), (2, .int i2250), (3, .int i2251)] [] I J R (fun r I' J' R' => (I' = I ∧ J' = J ∧ R' = R) ∧ ∃ v : Int32, r = some (.int v)) := by
    intro mz
    induction mz with
    | zero =>
      intro i2250 i2251 ai2251 bi2251 hmlp4_2251
      exact absurd hmlp4_2251 (Nat.not_lt_zero _)
    | succ mz ihlp4_2251 =>
      intro i2250 i2251 ai2251 bi2251 hmlp4_2251
      refine WP_iload_n dX4_sum_4 rfl ?_
      refine WQ_iconst (4) (4) dX4_sum_5 rfl rfl (fun v2253 hv2253 => ?_)
      refine WQ_icmp_ge 29 dX4_sum_6 rfl (fun c2253 => ?_) (fun c2253 => ?_)
      · refine WP_iload_n dX4_sum_29 rfl ?_
        exact WP_iret dX4_sum_30 rfl ⟨⟨rfl, rfl, rfl⟩, _, rfl⟩
      · refine WP_iload_n dX4_sum_9 rfl ?_
        refine WP_aload_n dX4_sum_10 rfl ?_
        refine WP_getr dX4_sum_11 fX4_15 rfl (lyx_is hy 60 4 rfl) (rfx hr 60 5 62 (by decide)) ?_
        refine WP_iload_n dX4_sum_14 rfl ?_
        refine WQ_bipush (7) (7) dX4_sum_15 rfl rfl (fun v2255 hv2255 => ?_)
        refine WQ_imulk (7) dX4_sum_17 hv2255 (by omega) (by omega) (fun v2256 hv2256 => ?_)
        refine WP_iload_n dX4_sum_18 rfl ?_
        refine WQ_iadd dX4_sum_19 (by omega) (by omega) (fun v2257 hv2257 => ?_)
        refine WQ_ialdu dX4_sum_20 (lyx_is hy 62 13 rfl) (lyx_n hy 62 28 rfl) (by omega) (by omega) (fun v2258 => ?_)
        refine WQ_iaddu dX4_sum_21 (fun v2259 => ?_)
        refine WP_istore_n (ls' := [(0, _), (1, _), (2, _), (3, _)]) dX4_sum_22 (by decide) rfl ?_
        refine WP_iinc (ls' := [(0, _), (1, _), (2, _), (3, _)]) dX4_sum_23 rfl (by decide) rfl ?_
        have hv2260 : (i2251 + Int32.ofInt (1)).toInt = i2251.toInt + (1) := ia_n rfl (by omega) (by omega)
        generalize i2251 + Int32.ofInt (1) = v2260 at hv2260 ⊢
        refine WP_goto 4 dX4_sum_26 rfl ?_
        exact WP_sub (fc rfl (fc rfl (fc rfl (fc rfl fn)))) (ihlp4_2251 v2259 v2260 (by omega) (by omega) (by omega))
  exact WP_sub (fc rfl (fc rfl (fc rfl (fc rfl fn)))) (lp4_2251 _ v2248 v2249 (by omega) (by omega) (Nat.lt_succ_self _))
set_option maxHeartbeats 4000000 in
set_option maxRecDepth 100000 in
theorem sx_begin_60_6 {g : GG} {n : Int} {L : Int32} (hy : LyX g)  {I : pI} {J : pJ} {R : pR} (hr : RfX g R) (hI : XI g n L I)   (hn : 0 ≤ n) : SP g mX4_begin [.ref (ad g 60), .ref (ad g 6)] I J R (fun r I' J' R' => (XI g n L I' ∧ R' = R) ∧ r = none) := by
  refine SP_of ⟨by decide, rfl⟩ (Nat.le_of_ble_eq_true rfl) ?_
  have e2261 : I (ad g 1) 1 = L := hI.2
  have b2262 := BT_get hI.1 1 1 2 (0) (0) (900) (by decide) 1 (by decide) (by decide)
  rw [e2261] at b2262
  refine WP_aload_n dX4_begin_0 rfl ?_
  refine WQ_iconst (0) (0) dX4_begin_1 rfl rfl (fun v2263 hv2263 => ?_)
  refine WQ_puti dX4_begin_2 fX4_18 rfl rfl (lyx_is hy 60 4 rfl) (fun I2264 eI2264 => ?_)
  have hI2264 : XI g n L I2264 := by rw [eI2264]; exact (xi_f0 hy hI (c := 60) (by decide) (Or.inl (by decide)) (by decide))
  have e2265 : I2264 (ad g 1) 1 = L := by rw [eI2264, pp_ne _ _ (Or.inl (lyx_ne hy (by decide) (by decide) (by decide)))]; exact e2261
  have e2266 : I2264 (ad g 60) 0 = v2263 := by rw [eI2264, pp_self]
  clear eI2264
  refine WP_aload_n dX4_begin_5 rfl ?_
  refine WQ_iconst (0) (0) dX4_begin_6 rfl rfl (fun v2267 hv2267 => ?_)
  refine WQ_puti dX4_begin_7 fX4_22 rfl rfl (lyx_is hy 60 4 rfl) (fun I2268 eI2268 => ?_)
  have hI2268 : XI g n L I2268 := by rw [eI2268]; exact (xi_f hy hI2264 (c := 60) (0) (23760) (0) (by decide) (Or.inl (by decide)) (by decide) (by omega) (by omega))
  have e2269 : I2268 (ad g 1) 1 = L := by rw [eI2268, pp_ne _ _ (Or.inl (lyx_ne hy (by decide) (by decide) (by decide)))]; exact e2265
  have e2270 : I2268 (ad g 60) 0 = v2263 := by rw [eI2268, pp_ne _ _ (Or.inr (by decide))]; exact e2266
  have e2271 : I2268 (ad g 60) 1 = v2267 := by rw [eI2268, pp_self]
  clear eI2268
  refine WP_aload_n dX4_begin_10 rfl ?_
  refine WQ_iconst (0) (0) dX4_begin_11 rfl rfl (fun v2272 hv2272 => ?_)
  refine WQ_puti dX4_begin_12 fX4_25 rfl rfl (lyx_is hy 60 4 rfl) (fun I2273 eI2273 => ?_)
  have hI2273 : XI g n L I2273 := by rw [eI2273]; exact (xi_f0 hy hI2268 (c := 60) (by decide) (Or.inl (by decide)) (by decide))
  have e2274 : I2273 (ad g 1) 1 = L := by rw [eI2273, pp_ne _ _ (Or.inl (lyx_ne hy (by decide) (by decide) (by decide)))]; exact e2269
  have e2275 : I2273 (ad g 60) 0 = v2263 := by rw [eI2273, pp_ne _ _ (Or.inr (by decide))]; exact e2270
  have e2276 : I2273 (ad g 60) 1 = v2267 := by rw [eI2273, pp_ne _ _ (Or.inr (by decide))]; exact e2271
  have e2277 : I2273 (ad g 60) 2 = v2272 := by rw [eI2273, pp_self]
  clear eI2273
  refine WP_aload_n dX4_begin_15 rfl ?_
  refine WP_lconst (0) dX4_begin_16 rfl ?_
  obtain ⟨l2278, hl2278, el2278⟩ : ∃ v : Int64, v.toInt = 0 ∧ (0 : Int64) = v := ⟨_, rfl, rfl⟩
  rw [el2278]; clear el2278
  refine WQ_putl dX4_begin_17 fX4_28 rfl rfl (lyx_is hy 60 4 rfl) (fun J2279 eJ2279 => ?_)
  clear eJ2279
  refine WP_aload_n dX4_begin_20 rfl ?_
  refine WP_getr dX4_begin_21 fX4_15 rfl (lyx_is hy 60 4 rfl) (rfx hr 60 5 62 (by decide)) ?_
  refine WQ_iconst (0) (0) dX4_begin_24 rfl rfl (fun v2280 hv2280 => ?_)
  refine WP_callS2u dX4_begin_25 ⟨⟨⟨by decide, by decide⟩, zJ7_fill_53178⟩, lX4_32, tJ7_fill_53178⟩ (s_fill hy hr 62 28 rfl rfl (by decide) v2280) (Nat.le_of_ble_eq_true rfl) ?_
  obtain ⟨I2281, eI2281⟩ : ∃ I9 : pI, I9 = fi I2273 (ad g 62) 28 v2280 := ⟨_, rfl⟩
  rw [← eI2281]
  have hI2281 : XI g n L I2281 := by rw [eI2281]; exact (fa_fill hy hI2273 (c := 62) 28 (by decide) hv2280)
  have e2282 : I2281 (ad g 1) 1 = L := by rw [eI2281, fi_off (lyx_ne hy (by decide) (by decide) (by decide))]; exact e2274
  have e2283 : I2281 (ad g 60) 0 = v2263 := by rw [eI2281, fi_off (lyx_ne hy (by decide) (by decide) (by decide))]; exact e2275
  have e2284 : I2281 (ad g 60) 1 = v2267 := by rw [eI2281, fi_off (lyx_ne hy (by decide) (by decide) (by decide))]; exact e2276
  have e2285 : I2281 (ad g 60) 2 = v2272 := by rw [eI2281, fi_off (lyx_ne hy (by decide) (by decide) (by decide))]; exact e2277
  clear eI2281
  refine WQ_iconst (0) (0) dX4_begin_28 rfl rfl (fun v2286 hv2286 => ?_)
  refine WP_istore_n (ls' := [(0, _), (1, _), (2, _)]) dX4_begin_29 (by decide) rfl ?_
  have lp30_2289 : ∀ (mz : Nat) (i2287 : Int32) (I2288 : pI) (J2289 : pJ), XI g n L I2288 → 0 ≤ i2287.toInt → i2287.toInt ≤ 4 → (5 - i2287.toInt).toNat < mz → WP g mX4_begin 30 [(0, .ref (ad g 60)), (1, .ref (ad g 6)), (2, .int i2287)] [] I2288 J2289 R (fun r I' J' R' => (XI g n L I' ∧ R' = R) ∧ r = none) := by
    intro mz
    induction mz with
    | zero =>
      intro i2287 I2288 J2289 hI2288 ai2287 bi2287 hmlp30_2289
      exact absurd hmlp30_2289 (Nat.not_lt_zero _)
    | succ mz ihlp30_2289 =>
      intro i2287 I2288 J2289 hI2288 ai2287 bi2287 hmlp30_2289
      have e2291 : I2288 (ad g 1) 1 = L := hI2288.2
      have b2292 := BT_get hI2288.1 1 1 2 (0) (0) (900) (by decide) 1 (by decide) (by decide)
      rw [e2291] at b2292
      refine WP_iload_n dX4_begin_30 rfl ?_
      refine WP_aload_n dX4_begin_31 rfl ?_
      refine WQ_geti dX4_begin_32 fX4_38 rfl (lyx_is hy 6 7 rfl) (BT_get hI2288.1 6 1 2 (0) (0) (4) (by decide) 1 (by decide) (by decide)) (fun v2293 ev2293 av2293 bv2293 => ?_)
      refine WQ_icmp_ge 61 dX4_begin_35 rfl (fun c2293 => ?_) (fun c2293 => ?_)
      · exact WP_vret dX4_begin_61 rfl ⟨⟨hI2288, rfl⟩, rfl⟩
      · refine WP_aload_n dX4_begin_38 rfl ?_
        refine WP_getr dX4_begin_39 fX4_15 rfl (lyx_is hy 60 4 rfl) (rfx hr 60 5 62 (by decide)) ?_
        refine WP_iload_n dX4_begin_42 rfl ?_
        refine WQ_bipush (7) (7) dX4_begin_43 rfl rfl (fun v2295 hv2295 => ?_)
        refine WQ_imulk (7) dX4_begin_45 hv2295 (by omega) (by omega) (fun v2296 hv2296 => ?_)
        refine WQ_iconst (0) (0) dX4_begin_46 rfl rfl (fun v2297 hv2297 => ?_)
        refine WQ_iadd dX4_begin_47 (by omega) (by omega) (fun v2298 hv2298 => ?_)
        refine WP_aload_n dX4_begin_48 rfl ?_
        refine WP_getr dX4_begin_49 fX4_43 rfl (lyx_is hy 6 7 rfl) (rfx hr 6 8 10 (by decide)) ?_
        refine WP_iload_n dX4_begin_52 rfl ?_
        refine WQ_iald dX4_begin_53 (lyx_is hy 10 13 rfl) (lyx_n hy 10 4 rfl) (by omega) (by omega) (fun q hq => BT_get hI2288.1 10 0 4 (0) (0) (60) (by decide) q (Nat.zero_le _) hq) (fun v2299 av2299 bv2299 ev2299 => ?_)
        clear ev2299
        refine WQ_iast dX4_begin_54 (lyx_is hy 62 13 rfl) (lyx_n hy 62 28 rfl) (by omega) (by omega) (fun I2300 eI2300 => ?_)
        have hI2300 : XI g n L I2300 := by rw [eI2300]; exact (fa_put hy hI2288 (c := 62) (k := 0) (s := i2287.toInt.toNat) (by decide) (by omega) (by decide) (by rw [cl (n := 7 * i2287.toInt.toNat + 0) (by omega)]) (fun _ => by omega) (fun _ => by omega))
        have e2301 : I2300 (ad g 1) 1 = L := by rw [eI2300, pp_ne _ _ (Or.inl (lyx_ne hy (by decide) (by decide) (by decide)))]; exact e2291
        have e2302 : I2300 (ad g 6) 1 = v2293 := by rw [eI2300, pp_ne _ _ (Or.inl (lyx_ne hy (by decide) (by decide) (by decide)))]; exact ev2293
        clear eI2300
        refine WP_iinc (ls' := [(0, _), (1, _), (2, _)]) dX4_begin_55 rfl (by decide) rfl ?_
        have hv2303 : (i2287 + Int32.ofInt (1)).toInt = i2287.toInt + (1) := ia_n rfl (by omega) (by omega)
        generalize i2287 + Int32.ofInt (1) = v2303 at hv2303 ⊢
        refine WP_goto 30 dX4_begin_58 rfl ?_
        exact WP_sub (fc rfl (fc rfl (fc rfl fn))) (ihlp30_2289 v2303 I2300 J2289 hI2300 (by omega) (by omega) (by omega))
  exact WP_sub (fc rfl (fc rfl (fc rfl fn))) (lp30_2289 _ v2286 I2281 J2279 hI2281 (by omega) (by omega) (Nat.lt_succ_self _))
set_option maxHeartbeats 4000000 in
set_option maxRecDepth 100000 in
theorem sx_begin_60_27 {g : GG} {n : Int} {L : Int32} (hy : LyX g)  {I : pI} {J : pJ} {R : pR} (hr : RfX g R) (hI : XI g n L I)   (hn : 0 ≤ n) : SP g mX4_begin [.ref (ad g 60), .ref (ad g 27)] I J R (fun r I' J' R' => (XI g n L I' ∧ R' = R) ∧ r = none) := by
  refine SP_of ⟨by decide, rfl⟩ (Nat.le_of_ble_eq_true rfl) ?_
  have e2304 : I (ad g 1) 1 = L := hI.2
  have b2305 := BT_get hI.1 1 1 2 (0) (0) (900) (by decide) 1 (by decide) (by decide)
  rw [e2304] at b2305
  refine WP_aload_n dX4_begin_0 rfl ?_
  refine WQ_iconst (0) (0) dX4_begin_1 rfl rfl (fun v2306 hv2306 => ?_)
  refine WQ_puti dX4_begin_2 fX4_18 rfl rfl (lyx_is hy 60 4 rfl) (fun I2307 eI2307 => ?_)
  have hI2307 : XI g n L I2307 := by rw [eI2307]; exact (xi_f0 hy hI (c := 60) (by decide) (Or.inl (by decide)) (by decide))
  have e2308 : I2307 (ad g 1) 1 = L := by rw [eI2307, pp_ne _ _ (Or.inl (lyx_ne hy (by decide) (by decide) (by decide)))]; exact e2304
  have e2309 : I2307 (ad g 60) 0 = v2306 := by rw [eI2307, pp_self]
  clear eI2307
  refine WP_aload_n dX4_begin_5 rfl ?_
  refine WQ_iconst (0) (0) dX4_begin_6 rfl rfl (fun v2310 hv2310 => ?_)
  refine WQ_puti dX4_begin_7 fX4_22 rfl rfl (lyx_is hy 60 4 rfl) (fun I2311 eI2311 => ?_)
  have hI2311 : XI g n L I2311 := by rw [eI2311]; exact (xi_f hy hI2307 (c := 60) (0) (23760) (0) (by decide) (Or.inl (by decide)) (by decide) (by omega) (by omega))
  have e2312 : I2311 (ad g 1) 1 = L := by rw [eI2311, pp_ne _ _ (Or.inl (lyx_ne hy (by decide) (by decide) (by decide)))]; exact e2308
  have e2313 : I2311 (ad g 60) 0 = v2306 := by rw [eI2311, pp_ne _ _ (Or.inr (by decide))]; exact e2309
  have e2314 : I2311 (ad g 60) 1 = v2310 := by rw [eI2311, pp_self]
  clear eI2311
  refine WP_aload_n dX4_begin_10 rfl ?_
  refine WQ_iconst (0) (0) dX4_begin_11 rfl rfl (fun v2315 hv2315 => ?_)
  refine WQ_puti dX4_begin_12 fX4_25 rfl rfl (lyx_is hy 60 4 rfl) (fun I2316 eI2316 => ?_)
  have hI2316 : XI g n L I2316 := by rw [eI2316]; exact (xi_f0 hy hI2311 (c := 60) (by decide) (Or.inl (by decide)) (by decide))
  have e2317 : I2316 (ad g 1) 1 = L := by rw [eI2316, pp_ne _ _ (Or.inl (lyx_ne hy (by decide) (by decide) (by decide)))]; exact e2312
  have e2318 : I2316 (ad g 60) 0 = v2306 := by rw [eI2316, pp_ne _ _ (Or.inr (by decide))]; exact e2313
  have e2319 : I2316 (ad g 60) 1 = v2310 := by rw [eI2316, pp_ne _ _ (Or.inr (by decide))]; exact e2314
  have e2320 : I2316 (ad g 60) 2 = v2315 := by rw [eI2316, pp_self]
  clear eI2316
  refine WP_aload_n dX4_begin_15 rfl ?_
  refine WP_lconst (0) dX4_begin_16 rfl ?_
  obtain ⟨l2321, hl2321, el2321⟩ : ∃ v : Int64, v.toInt = 0 ∧ (0 : Int64) = v := ⟨_, rfl, rfl⟩
  rw [el2321]; clear el2321
  refine WQ_putl dX4_begin_17 fX4_28 rfl rfl (lyx_is hy 60 4 rfl) (fun J2322 eJ2322 => ?_)
  clear eJ2322
  refine WP_aload_n dX4_begin_20 rfl ?_
  refine WP_getr dX4_begin_21 fX4_15 rfl (lyx_is hy 60 4 rfl) (rfx hr 60 5 62 (by decide)) ?_
  refine WQ_iconst (0) (0) dX4_begin_24 rfl rfl (fun v2323 hv2323 => ?_)
  refine WP_callS2u dX4_begin_25 ⟨⟨⟨by decide, by decide⟩, zJ7_fill_53178⟩, lX4_32, tJ7_fill_53178⟩ (s_fill hy hr 62 28 rfl rfl (by decide) v2323) (Nat.le_of_ble_eq_true rfl) ?_
  obtain ⟨I2324, eI2324⟩ : ∃ I9 : pI, I9 = fi I2316 (ad g 62) 28 v2323 := ⟨_, rfl⟩
  rw [← eI2324]
  have hI2324 : XI g n L I2324 := by rw [eI2324]; exact (fa_fill hy hI2316 (c := 62) 28 (by decide) hv2323)
  have e2325 : I2324 (ad g 1) 1 = L := by rw [eI2324, fi_off (lyx_ne hy (by decide) (by decide) (by decide))]; exact e2317
  have e2326 : I2324 (ad g 60) 0 = v2306 := by rw [eI2324, fi_off (lyx_ne hy (by decide) (by decide) (by decide))]; exact e2318
  have e2327 : I2324 (ad g 60) 1 = v2310 := by rw [eI2324, fi_off (lyx_ne hy (by decide) (by decide) (by decide))]; exact e2319
  have e2328 : I2324 (ad g 60) 2 = v2315 := by rw [eI2324, fi_off (lyx_ne hy (by decide) (by decide) (by decide))]; exact e2320
  clear eI2324
  refine WQ_iconst (0) (0) dX4_begin_28 rfl rfl (fun v2329 hv2329 => ?_)
  refine WP_istore_n (ls' := [(0, _), (1, _), (2, _)]) dX4_begin_29 (by decide) rfl ?_
  have lp30_2332 : ∀ (mz : Nat) (i2330 : Int32) (I2331 : pI) (J2332 : pJ), XI g n L I2331 → 0 ≤ i2330.toInt → i2330.toInt ≤ 4 → (5 - i2330.toInt).toNat < mz → WP g mX4_begin 30 [(0, .ref (ad g 60)), (1, .ref (ad g 27)), (2, .int i2330)] [] I2331 J2332 R (fun r I' J' R' => (XI g n L I' ∧ R' = R) ∧ r = none) := by
    intro mz
    induction mz with
    | zero =>
      intro i2330 I2331 J2332 hI2331 ai2330 bi2330 hmlp30_2332
      exact absurd hmlp30_2332 (Nat.not_lt_zero _)
    | succ mz ihlp30_2332 =>
      intro i2330 I2331 J2332 hI2331 ai2330 bi2330 hmlp30_2332
      have e2334 : I2331 (ad g 1) 1 = L := hI2331.2
      have b2335 := BT_get hI2331.1 1 1 2 (0) (0) (900) (by decide) 1 (by decide) (by decide)
      rw [e2334] at b2335
      refine WP_iload_n dX4_begin_30 rfl ?_
      refine WP_aload_n dX4_begin_31 rfl ?_
      refine WQ_geti dX4_begin_32 fX4_38 rfl (lyx_is hy 27 7 rfl) (BT_get hI2331.1 27 1 2 (0) (0) (4) (by decide) 1 (by decide) (by decide)) (fun v2336 ev2336 av2336 bv2336 => ?_)
      refine WQ_icmp_ge 61 dX4_begin_35 rfl (fun c2336 => ?_) (fun c2336 => ?_)
      · exact WP_vret dX4_begin_61 rfl ⟨⟨hI2331, rfl⟩, rfl⟩
      · refine WP_aload_n dX4_begin_38 rfl ?_
        refine WP_getr dX4_begin_39 fX4_15 rfl (lyx_is hy 60 4 rfl) (rfx hr 60 5 62 (by decide)) ?_
        refine WP_iload_n dX4_begin_42 rfl ?_
        refine WQ_bipush (7) (7) dX4_begin_43 rfl rfl (fun v2338 hv2338 => ?_)
        refine WQ_imulk (7) dX4_begin_45 hv2338 (by omega) (by omega) (fun v2339 hv2339 => ?_)
        refine WQ_iconst (0) (0) dX4_begin_46 rfl rfl (fun v2340 hv2340 => ?_)
        refine WQ_iadd dX4_begin_47 (by omega) (by omega) (fun v2341 hv2341 => ?_)
        refine WP_aload_n dX4_begin_48 rfl ?_
        refine WP_getr dX4_begin_49 fX4_43 rfl (lyx_is hy 27 7 rfl) (rfx hr 27 8 31 (by decide)) ?_
        refine WP_iload_n dX4_begin_52 rfl ?_
        refine WQ_iald dX4_begin_53 (lyx_is hy 31 13 rfl) (lyx_n hy 31 4 rfl) (by omega) (by omega) (fun q hq => BT_get hI2331.1 31 0 4 (0) (0) (60) (by decide) q (Nat.zero_le _) hq) (fun v2342 av2342 bv2342 ev2342 => ?_)
        clear ev2342
        refine WQ_iast dX4_begin_54 (lyx_is hy 62 13 rfl) (lyx_n hy 62 28 rfl) (by omega) (by omega) (fun I2343 eI2343 => ?_)
        have hI2343 : XI g n L I2343 := by rw [eI2343]; exact (fa_put hy hI2331 (c := 62) (k := 0) (s := i2330.toInt.toNat) (by decide) (by omega) (by decide) (by rw [cl (n := 7 * i2330.toInt.toNat + 0) (by omega)]) (fun _ => by omega) (fun _ => by omega))
        have e2344 : I2343 (ad g 1) 1 = L := by rw [eI2343, pp_ne _ _ (Or.inl (lyx_ne hy (by decide) (by decide) (by decide)))]; exact e2334
        have e2345 : I2343 (ad g 27) 1 = v2336 := by rw [eI2343, pp_ne _ _ (Or.inl (lyx_ne hy (by decide) (by decide) (by decide)))]; exact ev2336
        clear eI2343
        refine WP_iinc (ls' := [(0, _), (1, _), (2, _)]) dX4_begin_55 rfl (by decide) rfl ?_
        have hv2346 : (i2330 + Int32.ofInt (1)).toInt = i2330.toInt + (1) := ia_n rfl (by omega) (by omega)
        generalize i2330 + Int32.ofInt (1) = v2346 at hv2346 ⊢
        refine WP_goto 30 dX4_begin_58 rfl ?_
        exact WP_sub (fc rfl (fc rfl (fc rfl fn))) (ihlp30_2332 v2346 I2343 J2332 hI2343 (by omega) (by omega) (by omega))
  exact WP_sub (fc rfl (fc rfl (fc rfl fn))) (lp30_2332 _ v2329 I2324 J2322 hI2324 (by omega) (by omega) (Nat.lt_succ_self _))
set_option maxHeartbeats 4000000 in
set_option maxRecDepth 100000 in
theorem sx_become_60_53 {g : GG} {n : Int} {L : Int32} (hy : LyX g)  {I : pI} {J : pJ} {R : pR} (hr : RfX g R) (hI : XI g n L I)   : SP g mX4_become [.ref (ad g 60), .ref (ad g 53)] I J R (fun r I' J' R' => (XI g n L I' ∧ R' = R) ∧ r = none) := by
  refine SP_of ⟨by decide, rfl⟩ (Nat.le_of_ble_eq_true rfl) ?_
  have e2347 : I (ad g 1) 1 = L := hI.2
  have b2348 := BT_get hI.1 1 1 2 (0) (0) (900) (by decide) 1 (by decide) (by decide)
  rw [e2347] at b2348
  refine WP_aload_n dX4_become_0 rfl ?_
  refine WP_aload_n dX4_become_1 rfl ?_
  refine WQ_getiu dX4_become_2 fX4_18 rfl (lyx_is hy 53 4 rfl) (fun v2349 ev2349 => ?_)
  refine WQ_puti dX4_become_5 fX4_18 rfl rfl (lyx_is hy 60 4 rfl) (fun I2350 eI2350 => ?_)
  have hI2350 : XI g n L I2350 := by rw [eI2350]; exact (xi_f0 hy hI (c := 60) (by decide) (Or.inl (by decide)) (by decide))
  have e2351 : I2350 (ad g 1) 1 = L := by rw [eI2350, pp_ne _ _ (Or.inl (lyx_ne hy (by decide) (by decide) (by decide)))]; exact e2347
  have e2352 : I2350 (ad g 53) 0 = v2349 := by rw [eI2350, pp_ne _ _ (Or.inl (lyx_ne hy (by decide) (by decide) (by decide)))]; exact ev2349
  have e2353 : I2350 (ad g 60) 0 = v2349 := by rw [eI2350, pp_self]
  clear eI2350
  refine WP_aload_n dX4_become_8 rfl ?_
  refine WP_aload_n dX4_become_9 rfl ?_
  refine WQ_geti dX4_become_10 fX4_22 rfl (lyx_is hy 53 4 rfl) (BT_get hI2350.1 53 1 2 (0) (23760) (0) (by decide) 1 (by decide) (by decide)) (fun v2354 ev2354 av2354 bv2354 => ?_)
  refine WQ_puti dX4_become_13 fX4_22 rfl rfl (lyx_is hy 60 4 rfl) (fun I2355 eI2355 => ?_)
  have hI2355 : XI g n L I2355 := by rw [eI2355]; exact (xi_f hy hI2350 (c := 60) (0) (23760) (0) (by decide) (Or.inl (by decide)) (by decide) (by omega) (by omega))
  have e2356 : I2355 (ad g 1) 1 = L := by rw [eI2355, pp_ne _ _ (Or.inl (lyx_ne hy (by decide) (by decide) (by decide)))]; exact e2351
  have e2357 : I2355 (ad g 53) 0 = v2349 := by rw [eI2355, pp_ne _ _ (Or.inl (lyx_ne hy (by decide) (by decide) (by decide)))]; exact e2352
  have e2358 : I2355 (ad g 60) 0 = v2349 := by rw [eI2355, pp_ne _ _ (Or.inr (by decide))]; exact e2353
  have e2359 : I2355 (ad g 53) 1 = v2354 := by rw [eI2355, pp_ne _ _ (Or.inl (lyx_ne hy (by decide) (by decide) (by decide)))]; exact ev2354
  have e2360 : I2355 (ad g 60) 1 = v2354 := by rw [eI2355, pp_self]
  clear eI2355
  refine WP_aload_n dX4_become_16 rfl ?_
  refine WP_aload_n dX4_become_17 rfl ?_
  refine WQ_getiu dX4_become_18 fX4_25 rfl (lyx_is hy 53 4 rfl) (fun v2361 ev2361 => ?_)
  refine WQ_puti dX4_become_21 fX4_25 rfl rfl (lyx_is hy 60 4 rfl) (fun I2362 eI2362 => ?_)
  have hI2362 : XI g n L I2362 := by rw [eI2362]; exact (xi_f0 hy hI2355 (c := 60) (by decide) (Or.inl (by decide)) (by decide))
  have e2363 : I2362 (ad g 1) 1 = L := by rw [eI2362, pp_ne _ _ (Or.inl (lyx_ne hy (by decide) (by decide) (by decide)))]; exact e2356
  have e2364 : I2362 (ad g 53) 0 = v2349 := by rw [eI2362, pp_ne _ _ (Or.inl (lyx_ne hy (by decide) (by decide) (by decide)))]; exact e2357
  have e2365 : I2362 (ad g 60) 0 = v2349 := by rw [eI2362, pp_ne _ _ (Or.inr (by decide))]; exact e2358
  have e2366 : I2362 (ad g 53) 1 = v2354 := by rw [eI2362, pp_ne _ _ (Or.inl (lyx_ne hy (by decide) (by decide) (by decide)))]; exact e2359
  have e2367 : I2362 (ad g 60) 1 = v2354 := by rw [eI2362, pp_ne _ _ (Or.inr (by decide))]; exact e2360
  have e2368 : I2362 (ad g 53) 2 = v2361 := by rw [eI2362, pp_ne _ _ (Or.inl (lyx_ne hy (by decide) (by decide) (by decide)))]; exact ev2361
  have e2369 : I2362 (ad g 60) 2 = v2361 := by rw [eI2362, pp_self]
  clear eI2362
  refine WP_aload_n dX4_become_24 rfl ?_
  refine WP_aload_n dX4_become_25 rfl ?_
  refine WQ_getl dX4_become_26 fX4_28 rfl (lyx_is hy 53 4 rfl) (fun l2370 el2370 => ?_)
  refine WQ_putl dX4_become_29 fX4_28 rfl rfl (lyx_is hy 60 4 rfl) (fun J2371 eJ2371 => ?_)
  clear eJ2371
  refine WP_aload_n dX4_become_32 rfl ?_
  refine WP_getr dX4_become_33 fX4_9 rfl (lyx_is hy 53 4 rfl) (rfx hr 53 4 54 (by decide)) ?_
  refine WQ_iconst (0) (0) dX4_become_36 rfl rfl (fun v2372 hv2372 => ?_)
  refine WP_aload_n dX4_become_37 rfl ?_
  refine WP_getr dX4_become_38 fX4_9 rfl (lyx_is hy 60 4 rfl) (rfx hr 60 4 61 (by decide)) ?_
  refine WQ_iconst (0) (0) dX4_become_41 rfl rfl (fun v2373 hv2373 => ?_)
  refine WP_aload_n dX4_become_42 rfl ?_
  refine WP_getr dX4_become_43 fX4_9 rfl (lyx_is hy 60 4 rfl) (rfx hr 60 4 61 (by decide)) ?_
  refine WP_alen dX4_become_46 (lyx_is hy 61 13 rfl) (by decide) ?_
  rw [(lyx_n hy 61 4 rfl)]
  obtain ⟨v2374, hv2374, ev2374⟩ : ∃ v : Int32, v.toInt = 4 ∧ nI 4 = v := ⟨_, nI_toInt (by decide), rfl⟩
  rw [ev2374]; clear ev2374
  refine WQ_copy0 (N := 4) dX4_become_47 lX4_46 ⟨by decide, Nat.le_of_ble_eq_true rfl⟩ (lyx_is hy 54 13 rfl) (lyx_is hy 61 13 rfl) hv2372 hv2373 hv2374 (lyx_n hy 54 4 rfl) (lyx_n hy 61 4 rfl) (fun I2375 fI2375 oI2375 => ?_)
  have hI2375 : XI g n L I2375 := xi_copy hy hI2362 54 61 4 (by decide) (by decide) fI2375 oI2375
  clear fI2375 oI2375
  have e2376 : I2375 (ad g 1) 1 = L := hI2375.2
  have b2377 := BT_get hI2375.1 1 1 2 (0) (0) (900) (by decide) 1 (by decide) (by decide)
  rw [e2376] at b2377
  refine WP_aload_n dX4_become_50 rfl ?_
  refine WP_getr dX4_become_51 fX4_15 rfl (lyx_is hy 53 4 rfl) (rfx hr 53 5 55 (by decide)) ?_
  refine WQ_iconst (0) (0) dX4_become_54 rfl rfl (fun v2378 hv2378 => ?_)
  refine WP_aload_n dX4_become_55 rfl ?_
  refine WP_getr dX4_become_56 fX4_15 rfl (lyx_is hy 60 4 rfl) (rfx hr 60 5 62 (by decide)) ?_
  refine WQ_iconst (0) (0) dX4_become_59 rfl rfl (fun v2379 hv2379 => ?_)
  refine WP_aload_n dX4_become_60 rfl ?_
  refine WP_getr dX4_become_61 fX4_15 rfl (lyx_is hy 60 4 rfl) (rfx hr 60 5 62 (by decide)) ?_
  refine WP_alen dX4_become_64 (lyx_is hy 62 13 rfl) (by decide) ?_
  rw [(lyx_n hy 62 28 rfl)]
  obtain ⟨v2380, hv2380, ev2380⟩ : ∃ v : Int32, v.toInt = 28 ∧ nI 28 = v := ⟨_, nI_toInt (by decide), rfl⟩
  rw [ev2380]; clear ev2380
  refine WQ_copy0 (N := 28) dX4_become_65 lX4_46 ⟨by decide, Nat.le_of_ble_eq_true rfl⟩ (lyx_is hy 55 13 rfl) (lyx_is hy 62 13 rfl) hv2378 hv2379 hv2380 (lyx_n hy 55 28 rfl) (lyx_n hy 62 28 rfl) (fun I2381 fI2381 oI2381 => ?_)
  have hI2381 : XI g n L I2381 := xi_copy hy hI2375 55 62 28 (by decide) (by decide) fI2381 oI2381
  clear fI2381 oI2381
  have e2382 : I2381 (ad g 1) 1 = L := hI2381.2
  have b2383 := BT_get hI2381.1 1 1 2 (0) (0) (900) (by decide) 1 (by decide) (by decide)
  rw [e2382] at b2383
  exact WP_vret dX4_become_68 rfl ⟨⟨hI2381, rfl⟩, rfl⟩
set_option maxHeartbeats 4000000 in
set_option maxRecDepth 100000 in
theorem sx_sum_63 {g : GG} {n : Int} {L : Int32} (hy : LyX g)  {I : pI} {J : pJ} {R : pR} (hr : RfX g R) (hI : XI g n L I) (wh : Int32) (wh_lo : 0 ≤ wh.toInt) (wh_hi : wh.toInt ≤ 6) : SP g mX4_sum [.ref (ad g 63), .int wh] I J R (fun r I' J' R' => (I' = I ∧ J' = J ∧ R' = R) ∧ ∃ v : Int32, r = some (.int v)) := by
  refine SP_of ⟨by decide, rfl⟩ (Nat.le_of_ble_eq_true rfl) ?_
  have e2384 : I (ad g 1) 1 = L := hI.2
  have b2385 := BT_get hI.1 1 1 2 (0) (0) (900) (by decide) 1 (by decide) (by decide)
  rw [e2384] at b2385
  refine WQ_iconst (0) (0) dX4_sum_0 rfl rfl (fun v2386 hv2386 => ?_)
  refine WP_istore_n (ls' := [(0, _), (1, _), (2, _)]) dX4_sum_1 (by decide) rfl ?_
  refine WQ_iconst (0) (0) dX4_sum_2 rfl rfl (fun v2387 hv2387 => ?_)
  refine WP_istore_n (ls' := [(0, _), (1, _), (2, _), (3, _)]) dX4_sum_3 (by decide) rfl ?_
  have lp4_2389 : ∀ (mz : Nat) (i2388 : Int32) (i2389 : Int32), 0 ≤ i2389.toInt → i2389.toInt ≤ 4 → (5 - i2389.toInt).toNat < mz → WP g mX4_sum 4 [(0, .ref (ad g 63)), (1, .int wh), (2, .int i2388), (3, .int i2389)] [] I J R (fun r I' J' R' => (I' = I ∧ J' = J ∧ R' = R) ∧ ∃ v : Int32, r = some (.int v)) := by
    intro mz
    induction mz with
    | zero =>
      intro i2388 i2389 ai2389 bi2389 hmlp4_2389
      exact absurd hmlp4_2389 (Nat.not_lt_zero _)
    | succ mz ihlp4_2389 =>
      intro i2388 i2389 ai2389 bi2389 hmlp4_2389
      refine WP_iload_n dX4_sum_4 rfl ?_
      refine WQ_iconst (4) (4) dX4_sum_5 rfl rfl (fun v2391 hv2391 => ?_)
      refine WQ_icmp_ge 29 dX4_sum_6 rfl (fun c2391 => ?_) (fun c2391 => ?_)
      · refine WP_iload_n dX4_sum_29 rfl ?_
        exact WP_iret dX4_sum_30 rfl ⟨⟨rfl, rfl, rfl⟩, _, rfl⟩
      · refine WP_iload_n dX4_sum_9 rfl ?_
        refine WP_aload_n dX4_sum_10 rfl ?_
        refine WP_getr dX4_sum_11 fX4_15 rfl (lyx_is hy 63 4 rfl) (rfx hr 63 5 65 (by decide)) ?_
        refine WP_iload_n dX4_sum_14 rfl ?_
        refine WQ_bipush (7) (7) dX4_sum_15 rfl rfl (fun v2393 hv2393 => ?_)
        refine WQ_imulk (7) dX4_sum_17 hv2393 (by omega) (by omega) (fun v2394 hv2394 => ?_)
        refine WP_iload_n dX4_sum_18 rfl ?_
        refine WQ_iadd dX4_sum_19 (by omega) (by omega) (fun v2395 hv2395 => ?_)
        refine WQ_ialdu dX4_sum_20 (lyx_is hy 65 13 rfl) (lyx_n hy 65 28 rfl) (by omega) (by omega) (fun v2396 => ?_)
        refine WQ_iaddu dX4_sum_21 (fun v2397 => ?_)
        refine WP_istore_n (ls' := [(0, _), (1, _), (2, _), (3, _)]) dX4_sum_22 (by decide) rfl ?_
        refine WP_iinc (ls' := [(0, _), (1, _), (2, _), (3, _)]) dX4_sum_23 rfl (by decide) rfl ?_
        have hv2398 : (i2389 + Int32.ofInt (1)).toInt = i2389.toInt + (1) := ia_n rfl (by omega) (by omega)
        generalize i2389 + Int32.ofInt (1) = v2398 at hv2398 ⊢
        refine WP_goto 4 dX4_sum_26 rfl ?_
        exact WP_sub (fc rfl (fc rfl (fc rfl (fc rfl fn)))) (ihlp4_2389 v2397 v2398 (by omega) (by omega) (by omega))
  exact WP_sub (fc rfl (fc rfl (fc rfl (fc rfl fn)))) (lp4_2389 _ v2386 v2387 (by omega) (by omega) (Nat.lt_succ_self _))
set_option maxHeartbeats 4000000 in
set_option maxRecDepth 100000 in
theorem sx_begin_63_6 {g : GG} {n : Int} {L : Int32} (hy : LyX g)  {I : pI} {J : pJ} {R : pR} (hr : RfX g R) (hI : XI g n L I)   (hn : 0 ≤ n) : SP g mX4_begin [.ref (ad g 63), .ref (ad g 6)] I J R (fun r I' J' R' => (XI g n L I' ∧ R' = R) ∧ r = none) := by
  refine SP_of ⟨by decide, rfl⟩ (Nat.le_of_ble_eq_true rfl) ?_
  have e2399 : I (ad g 1) 1 = L := hI.2
  have b2400 := BT_get hI.1 1 1 2 (0) (0) (900) (by decide) 1 (by decide) (by decide)
  rw [e2399] at b2400
  refine WP_aload_n dX4_begin_0 rfl ?_
  refine WQ_iconst (0) (0) dX4_begin_1 rfl rfl (fun v2401 hv2401 => ?_)
  refine WQ_puti dX4_begin_2 fX4_18 rfl rfl (lyx_is hy 63 4 rfl) (fun I2402 eI2402 => ?_)
  have hI2402 : XI g n L I2402 := by rw [eI2402]; exact (xi_f0 hy hI (c := 63) (by decide) (Or.inl (by decide)) (by decide))
  have e2403 : I2402 (ad g 1) 1 = L := by rw [eI2402, pp_ne _ _ (Or.inl (lyx_ne hy (by decide) (by decide) (by decide)))]; exact e2399
  have e2404 : I2402 (ad g 63) 0 = v2401 := by rw [eI2402, pp_self]
  clear eI2402
  refine WP_aload_n dX4_begin_5 rfl ?_
  refine WQ_iconst (0) (0) dX4_begin_6 rfl rfl (fun v2405 hv2405 => ?_)
  refine WQ_puti dX4_begin_7 fX4_22 rfl rfl (lyx_is hy 63 4 rfl) (fun I2406 eI2406 => ?_)
  have hI2406 : XI g n L I2406 := by rw [eI2406]; exact (xi_f hy hI2402 (c := 63) (0) (23760) (0) (by decide) (Or.inl (by decide)) (by decide) (by omega) (by omega))
  have e2407 : I2406 (ad g 1) 1 = L := by rw [eI2406, pp_ne _ _ (Or.inl (lyx_ne hy (by decide) (by decide) (by decide)))]; exact e2403
  have e2408 : I2406 (ad g 63) 0 = v2401 := by rw [eI2406, pp_ne _ _ (Or.inr (by decide))]; exact e2404
  have e2409 : I2406 (ad g 63) 1 = v2405 := by rw [eI2406, pp_self]
  clear eI2406
  refine WP_aload_n dX4_begin_10 rfl ?_
  refine WQ_iconst (0) (0) dX4_begin_11 rfl rfl (fun v2410 hv2410 => ?_)
  refine WQ_puti dX4_begin_12 fX4_25 rfl rfl (lyx_is hy 63 4 rfl) (fun I2411 eI2411 => ?_)
  have hI2411 : XI g n L I2411 := by rw [eI2411]; exact (xi_f0 hy hI2406 (c := 63) (by decide) (Or.inl (by decide)) (by decide))
  have e2412 : I2411 (ad g 1) 1 = L := by rw [eI2411, pp_ne _ _ (Or.inl (lyx_ne hy (by decide) (by decide) (by decide)))]; exact e2407
  have e2413 : I2411 (ad g 63) 0 = v2401 := by rw [eI2411, pp_ne _ _ (Or.inr (by decide))]; exact e2408
  have e2414 : I2411 (ad g 63) 1 = v2405 := by rw [eI2411, pp_ne _ _ (Or.inr (by decide))]; exact e2409
  have e2415 : I2411 (ad g 63) 2 = v2410 := by rw [eI2411, pp_self]
  clear eI2411
  refine WP_aload_n dX4_begin_15 rfl ?_
  refine WP_lconst (0) dX4_begin_16 rfl ?_
  obtain ⟨l2416, hl2416, el2416⟩ : ∃ v : Int64, v.toInt = 0 ∧ (0 : Int64) = v := ⟨_, rfl, rfl⟩
  rw [el2416]; clear el2416
  refine WQ_putl dX4_begin_17 fX4_28 rfl rfl (lyx_is hy 63 4 rfl) (fun J2417 eJ2417 => ?_)
  clear eJ2417
  refine WP_aload_n dX4_begin_20 rfl ?_
  refine WP_getr dX4_begin_21 fX4_15 rfl (lyx_is hy 63 4 rfl) (rfx hr 63 5 65 (by decide)) ?_
  refine WQ_iconst (0) (0) dX4_begin_24 rfl rfl (fun v2418 hv2418 => ?_)
  refine WP_callS2u dX4_begin_25 ⟨⟨⟨by decide, by decide⟩, zJ7_fill_53178⟩, lX4_32, tJ7_fill_53178⟩ (s_fill hy hr 65 28 rfl rfl (by decide) v2418) (Nat.le_of_ble_eq_true rfl) ?_
  obtain ⟨I2419, eI2419⟩ : ∃ I9 : pI, I9 = fi I2411 (ad g 65) 28 v2418 := ⟨_, rfl⟩
  rw [← eI2419]
  have hI2419 : XI g n L I2419 := by rw [eI2419]; exact (fa_fill hy hI2411 (c := 65) 28 (by decide) hv2418)
  have e2420 : I2419 (ad g 1) 1 = L := by rw [eI2419, fi_off (lyx_ne hy (by decide) (by decide) (by decide))]; exact e2412
  have e2421 : I2419 (ad g 63) 0 = v2401 := by rw [eI2419, fi_off (lyx_ne hy (by decide) (by decide) (by decide))]; exact e2413
  have e2422 : I2419 (ad g 63) 1 = v2405 := by rw [eI2419, fi_off (lyx_ne hy (by decide) (by decide) (by decide))]; exact e2414
  have e2423 : I2419 (ad g 63) 2 = v2410 := by rw [eI2419, fi_off (lyx_ne hy (by decide) (by decide) (by decide))]; exact e2415
  clear eI2419
  refine WQ_iconst (0) (0) dX4_begin_28 rfl rfl (fun v2424 hv2424 => ?_)
  refine WP_istore_n (ls' := [(0, _), (1, _), (2, _)]) dX4_begin_29 (by decide) rfl ?_
  have lp30_2427 : ∀ (mz : Nat) (i2425 : Int32) (I2426 : pI) (J2427 : pJ), XI g n L I2426 → 0 ≤ i2425.toInt → i2425.toInt ≤ 4 → (5 - i2425.toInt).toNat < mz → WP g mX4_begin 30 [(0, .ref (ad g 63)), (1, .ref (ad g 6)), (2, .int i2425)] [] I2426 J2427 R (fun r I' J' R' => (XI g n L I' ∧ R' = R) ∧ r = none) := by
    intro mz
    induction mz with
    | zero =>
      intro i2425 I2426 J2427 hI2426 ai2425 bi2425 hmlp30_2427
      exact absurd hmlp30_2427 (Nat.not_lt_zero _)
    | succ mz ihlp30_2427 =>
      intro i2425 I2426 J2427 hI2426 ai2425 bi2425 hmlp30_2427
      have e2429 : I2426 (ad g 1) 1 = L := hI2426.2
      have b2430 := BT_get hI2426.1 1 1 2 (0) (0) (900) (by decide) 1 (by decide) (by decide)
      rw [e2429] at b2430
      refine WP_iload_n dX4_begin_30 rfl ?_
      refine WP_aload_n dX4_begin_31 rfl ?_
      refine WQ_geti dX4_begin_32 fX4_38 rfl (lyx_is hy 6 7 rfl) (BT_get hI2426.1 6 1 2 (0) (0) (4) (by decide) 1 (by decide) (by decide)) (fun v2431 ev2431 av2431 bv2431 => ?_)
      refine WQ_icmp_ge 61 dX4_begin_35 rfl (fun c2431 => ?_) (fun c2431 => ?_)
      · exact WP_vret dX4_begin_61 rfl ⟨⟨hI2426, rfl⟩, rfl⟩
      · refine WP_aload_n dX4_begin_38 rfl ?_
        refine WP_getr dX4_begin_39 fX4_15 rfl (lyx_is hy 63 4 rfl) (rfx hr 63 5 65 (by decide)) ?_
        refine WP_iload_n dX4_begin_42 rfl ?_
        refine WQ_bipush (7) (7) dX4_begin_43 rfl rfl (fun v2433 hv2433 => ?_)
        refine WQ_imulk (7) dX4_begin_45 hv2433 (by omega) (by omega) (fun v2434 hv2434 => ?_)
        refine WQ_iconst (0) (0) dX4_begin_46 rfl rfl (fun v2435 hv2435 => ?_)
        refine WQ_iadd dX4_begin_47 (by omega) (by omega) (fun v2436 hv2436 => ?_)
        refine WP_aload_n dX4_begin_48 rfl ?_
        refine WP_getr dX4_begin_49 fX4_43 rfl (lyx_is hy 6 7 rfl) (rfx hr 6 8 10 (by decide)) ?_
        refine WP_iload_n dX4_begin_52 rfl ?_
        refine WQ_iald dX4_begin_53 (lyx_is hy 10 13 rfl) (lyx_n hy 10 4 rfl) (by omega) (by omega) (fun q hq => BT_get hI2426.1 10 0 4 (0) (0) (60) (by decide) q (Nat.zero_le _) hq) (fun v2437 av2437 bv2437 ev2437 => ?_)
        clear ev2437
        refine WQ_iast dX4_begin_54 (lyx_is hy 65 13 rfl) (lyx_n hy 65 28 rfl) (by omega) (by omega) (fun I2438 eI2438 => ?_)
        have hI2438 : XI g n L I2438 := by rw [eI2438]; exact (fa_put hy hI2426 (c := 65) (k := 0) (s := i2425.toInt.toNat) (by decide) (by omega) (by decide) (by rw [cl (n := 7 * i2425.toInt.toNat + 0) (by omega)]) (fun _ => by omega) (fun _ => by omega))
        have e2439 : I2438 (ad g 1) 1 = L := by rw [eI2438, pp_ne _ _ (Or.inl (lyx_ne hy (by decide) (by decide) (by decide)))]; exact e2429
        have e2440 : I2438 (ad g 6) 1 = v2431 := by rw [eI2438, pp_ne _ _ (Or.inl (lyx_ne hy (by decide) (by decide) (by decide)))]; exact ev2431
        clear eI2438
        refine WP_iinc (ls' := [(0, _), (1, _), (2, _)]) dX4_begin_55 rfl (by decide) rfl ?_
        have hv2441 : (i2425 + Int32.ofInt (1)).toInt = i2425.toInt + (1) := ia_n rfl (by omega) (by omega)
        generalize i2425 + Int32.ofInt (1) = v2441 at hv2441 ⊢
        refine WP_goto 30 dX4_begin_58 rfl ?_
        exact WP_sub (fc rfl (fc rfl (fc rfl fn))) (ihlp30_2427 v2441 I2438 J2427 hI2438 (by omega) (by omega) (by omega))
  exact WP_sub (fc rfl (fc rfl (fc rfl fn))) (lp30_2427 _ v2424 I2419 J2417 hI2419 (by omega) (by omega) (Nat.lt_succ_self _))
set_option maxHeartbeats 4000000 in
set_option maxRecDepth 100000 in
theorem sx_begin_63_27 {g : GG} {n : Int} {L : Int32} (hy : LyX g)  {I : pI} {J : pJ} {R : pR} (hr : RfX g R) (hI : XI g n L I)   (hn : 0 ≤ n) : SP g mX4_begin [.ref (ad g 63), .ref (ad g 27)] I J R (fun r I' J' R' => (XI g n L I' ∧ R' = R) ∧ r = none) := by
  refine SP_of ⟨by decide, rfl⟩ (Nat.le_of_ble_eq_true rfl) ?_
  have e2442 : I (ad g 1) 1 = L := hI.2
  have b2443 := BT_get hI.1 1 1 2 (0) (0) (900) (by decide) 1 (by decide) (by decide)
  rw [e2442] at b2443
  refine WP_aload_n dX4_begin_0 rfl ?_
  refine WQ_iconst (0) (0) dX4_begin_1 rfl rfl (fun v2444 hv2444 => ?_)
  refine WQ_puti dX4_begin_2 fX4_18 rfl rfl (lyx_is hy 63 4 rfl) (fun I2445 eI2445 => ?_)
  have hI2445 : XI g n L I2445 := by rw [eI2445]; exact (xi_f0 hy hI (c := 63) (by decide) (Or.inl (by decide)) (by decide))
  have e2446 : I2445 (ad g 1) 1 = L := by rw [eI2445, pp_ne _ _ (Or.inl (lyx_ne hy (by decide) (by decide) (by decide)))]; exact e2442
  have e2447 : I2445 (ad g 63) 0 = v2444 := by rw [eI2445, pp_self]
  clear eI2445
  refine WP_aload_n dX4_begin_5 rfl ?_
  refine WQ_iconst (0) (0) dX4_begin_6 rfl rfl (fun v2448 hv2448 => ?_)
  refine WQ_puti dX4_begin_7 fX4_22 rfl rfl (lyx_is hy 63 4 rfl) (fun I2449 eI2449 => ?_)
  have hI2449 : XI g n L I2449 := by rw [eI2449]; exact (xi_f hy hI2445 (c := 63) (0) (23760) (0) (by decide) (Or.inl (by decide)) (by decide) (by omega) (by omega))
  have e2450 : I2449 (ad g 1) 1 = L := by rw [eI2449, pp_ne _ _ (Or.inl (lyx_ne hy (by decide) (by decide) (by decide)))]; exact e2446
  have e2451 : I2449 (ad g 63) 0 = v2444 := by rw [eI2449, pp_ne _ _ (Or.inr (by decide))]; exact e2447
  have e2452 : I2449 (ad g 63) 1 = v2448 := by rw [eI2449, pp_self]
  clear eI2449
  refine WP_aload_n dX4_begin_10 rfl ?_
  refine WQ_iconst (0) (0) dX4_begin_11 rfl rfl (fun v2453 hv2453 => ?_)
  refine WQ_puti dX4_begin_12 fX4_25 rfl rfl (lyx_is hy 63 4 rfl) (fun I2454 eI2454 => ?_)
  have hI2454 : XI g n L I2454 := by rw [eI2454]; exact (xi_f0 hy hI2449 (c := 63) (by decide) (Or.inl (by decide)) (by decide))
  have e2455 : I2454 (ad g 1) 1 = L := by rw [eI2454, pp_ne _ _ (Or.inl (lyx_ne hy (by decide) (by decide) (by decide)))]; exact e2450
  have e2456 : I2454 (ad g 63) 0 = v2444 := by rw [eI2454, pp_ne _ _ (Or.inr (by decide))]; exact e2451
  have e2457 : I2454 (ad g 63) 1 = v2448 := by rw [eI2454, pp_ne _ _ (Or.inr (by decide))]; exact e2452
  have e2458 : I2454 (ad g 63) 2 = v2453 := by rw [eI2454, pp_self]
  clear eI2454
  refine WP_aload_n dX4_begin_15 rfl ?_
  refine WP_lconst (0) dX4_begin_16 rfl ?_
  obtain ⟨l2459, hl2459, el2459⟩ : ∃ v : Int64, v.toInt = 0 ∧ (0 : Int64) = v := ⟨_, rfl, rfl⟩
  rw [el2459]; clear el2459
  refine WQ_putl dX4_begin_17 fX4_28 rfl rfl (lyx_is hy 63 4 rfl) (fun J2460 eJ2460 => ?_)
  clear eJ2460
  refine WP_aload_n dX4_begin_20 rfl ?_
  refine WP_getr dX4_begin_21 fX4_15 rfl (lyx_is hy 63 4 rfl) (rfx hr 63 5 65 (by decide)) ?_
  refine WQ_iconst (0) (0) dX4_begin_24 rfl rfl (fun v2461 hv2461 => ?_)
  refine WP_callS2u dX4_begin_25 ⟨⟨⟨by decide, by decide⟩, zJ7_fill_53178⟩, lX4_32, tJ7_fill_53178⟩ (s_fill hy hr 65 28 rfl rfl (by decide) v2461) (Nat.le_of_ble_eq_true rfl) ?_
  obtain ⟨I2462, eI2462⟩ : ∃ I9 : pI, I9 = fi I2454 (ad g 65) 28 v2461 := ⟨_, rfl⟩
  rw [← eI2462]
  have hI2462 : XI g n L I2462 := by rw [eI2462]; exact (fa_fill hy hI2454 (c := 65) 28 (by decide) hv2461)
  have e2463 : I2462 (ad g 1) 1 = L := by rw [eI2462, fi_off (lyx_ne hy (by decide) (by decide) (by decide))]; exact e2455
  have e2464 : I2462 (ad g 63) 0 = v2444 := by rw [eI2462, fi_off (lyx_ne hy (by decide) (by decide) (by decide))]; exact e2456
  have e2465 : I2462 (ad g 63) 1 = v2448 := by rw [eI2462, fi_off (lyx_ne hy (by decide) (by decide) (by decide))]; exact e2457
  have e2466 : I2462 (ad g 63) 2 = v2453 := by rw [eI2462, fi_off (lyx_ne hy (by decide) (by decide) (by decide))]; exact e2458
  clear eI2462
  refine WQ_iconst (0) (0) dX4_begin_28 rfl rfl (fun v2467 hv2467 => ?_)
  refine WP_istore_n (ls' := [(0, _), (1, _), (2, _)]) dX4_begin_29 (by decide) rfl ?_
  have lp30_2470 : ∀ (mz : Nat) (i2468 : Int32) (I2469 : pI) (J2470 : pJ), XI g n L I2469 → 0 ≤ i2468.toInt → i2468.toInt ≤ 4 → (5 - i2468.toInt).toNat < mz → WP g mX4_begin 30 [(0, .ref (ad g 63)), (1, .ref (ad g 27)), (2, .int i2468)] [] I2469 J2470 R (fun r I' J' R' => (XI g n L I' ∧ R' = R) ∧ r = none) := by
    intro mz
    induction mz with
    | zero =>
      intro i2468 I2469 J2470 hI2469 ai2468 bi2468 hmlp30_2470
      exact absurd hmlp30_2470 (Nat.not_lt_zero _)
    | succ mz ihlp30_2470 =>
      intro i2468 I2469 J2470 hI2469 ai2468 bi2468 hmlp30_2470
      have e2472 : I2469 (ad g 1) 1 = L := hI2469.2
      have b2473 := BT_get hI2469.1 1 1 2 (0) (0) (900) (by decide) 1 (by decide) (by decide)
      rw [e2472] at b2473
      refine WP_iload_n dX4_begin_30 rfl ?_
      refine WP_aload_n dX4_begin_31 rfl ?_
      refine WQ_geti dX4_begin_32 fX4_38 rfl (lyx_is hy 27 7 rfl) (BT_get hI2469.1 27 1 2 (0) (0) (4) (by decide) 1 (by decide) (by decide)) (fun v2474 ev2474 av2474 bv2474 => ?_)
      refine WQ_icmp_ge 61 dX4_begin_35 rfl (fun c2474 => ?_) (fun c2474 => ?_)
      · exact WP_vret dX4_begin_61 rfl ⟨⟨hI2469, rfl⟩, rfl⟩
      · refine WP_aload_n dX4_begin_38 rfl ?_
        refine WP_getr dX4_begin_39 fX4_15 rfl (lyx_is hy 63 4 rfl) (rfx hr 63 5 65 (by decide)) ?_
        refine WP_iload_n dX4_begin_42 rfl ?_
        refine WQ_bipush (7) (7) dX4_begin_43 rfl rfl (fun v2476 hv2476 => ?_)
        refine WQ_imulk (7) dX4_begin_45 hv2476 (by omega) (by omega) (fun v2477 hv2477 => ?_)
        refine WQ_iconst (0) (0) dX4_begin_46 rfl rfl (fun v2478 hv2478 => ?_)
        refine WQ_iadd dX4_begin_47 (by omega) (by omega) (fun v2479 hv2479 => ?_)
        refine WP_aload_n dX4_begin_48 rfl ?_
        refine WP_getr dX4_begin_49 fX4_43 rfl (lyx_is hy 27 7 rfl) (rfx hr 27 8 31 (by decide)) ?_
        refine WP_iload_n dX4_begin_52 rfl ?_
        refine WQ_iald dX4_begin_53 (lyx_is hy 31 13 rfl) (lyx_n hy 31 4 rfl) (by omega) (by omega) (fun q hq => BT_get hI2469.1 31 0 4 (0) (0) (60) (by decide) q (Nat.zero_le _) hq) (fun v2480 av2480 bv2480 ev2480 => ?_)
        clear ev2480
        refine WQ_iast dX4_begin_54 (lyx_is hy 65 13 rfl) (lyx_n hy 65 28 rfl) (by omega) (by omega) (fun I2481 eI2481 => ?_)
        have hI2481 : XI g n L I2481 := by rw [eI2481]; exact (fa_put hy hI2469 (c := 65) (k := 0) (s := i2468.toInt.toNat) (by decide) (by omega) (by decide) (by rw [cl (n := 7 * i2468.toInt.toNat + 0) (by omega)]) (fun _ => by omega) (fun _ => by omega))
        have e2482 : I2481 (ad g 1) 1 = L := by rw [eI2481, pp_ne _ _ (Or.inl (lyx_ne hy (by decide) (by decide) (by decide)))]; exact e2472
        have e2483 : I2481 (ad g 27) 1 = v2474 := by rw [eI2481, pp_ne _ _ (Or.inl (lyx_ne hy (by decide) (by decide) (by decide)))]; exact ev2474
        clear eI2481
        refine WP_iinc (ls' := [(0, _), (1, _), (2, _)]) dX4_begin_55 rfl (by decide) rfl ?_
        have hv2484 : (i2468 + Int32.ofInt (1)).toInt = i2468.toInt + (1) := ia_n rfl (by omega) (by omega)
        generalize i2468 + Int32.ofInt (1) = v2484 at hv2484 ⊢
        refine WP_goto 30 dX4_begin_58 rfl ?_
        exact WP_sub (fc rfl (fc rfl (fc rfl fn))) (ihlp30_2470 v2484 I2481 J2470 hI2481 (by omega) (by omega) (by omega))
  exact WP_sub (fc rfl (fc rfl (fc rfl fn))) (lp30_2470 _ v2467 I2462 J2460 hI2462 (by omega) (by omega) (Nat.lt_succ_self _))
set_option maxHeartbeats 4000000 in
set_option maxRecDepth 100000 in
theorem sx_become_63_53 {g : GG} {n : Int} {L : Int32} (hy : LyX g)  {I : pI} {J : pJ} {R : pR} (hr : RfX g R) (hI : XI g n L I)   : SP g mX4_become [.ref (ad g 63), .ref (ad g 53)] I J R (fun r I' J' R' => (XI g n L I' ∧ R' = R) ∧ r = none) := by
  refine SP_of ⟨by decide, rfl⟩ (Nat.le_of_ble_eq_true rfl) ?_
  have e2485 : I (ad g 1) 1 = L := hI.2
  have b2486 := BT_get hI.1 1 1 2 (0) (0) (900) (by decide) 1 (by decide) (by decide)
  rw [e2485] at b2486
  refine WP_aload_n dX4_become_0 rfl ?_
  refine WP_aload_n dX4_become_1 rfl ?_
  refine WQ_getiu dX4_become_2 fX4_18 rfl (lyx_is hy 53 4 rfl) (fun v2487 ev2487 => ?_)
  refine WQ_puti dX4_become_5 fX4_18 rfl rfl (lyx_is hy 63 4 rfl) (fun I2488 eI2488 => ?_)
  have hI2488 : XI g n L I2488 := by rw [eI2488]; exact (xi_f0 hy hI (c := 63) (by decide) (Or.inl (by decide)) (by decide))
  have e2489 : I2488 (ad g 1) 1 = L := by rw [eI2488, pp_ne _ _ (Or.inl (lyx_ne hy (by decide) (by decide) (by decide)))]; exact e2485
  have e2490 : I2488 (ad g 53) 0 = v2487 := by rw [eI2488, pp_ne _ _ (Or.inl (lyx_ne hy (by decide) (by decide) (by decide)))]; exact ev2487
  have e2491 : I2488 (ad g 63) 0 = v2487 := by rw [eI2488, pp_self]
  clear eI2488
  refine WP_aload_n dX4_become_8 rfl ?_
  refine WP_aload_n dX4_become_9 rfl ?_
  refine WQ_geti dX4_become_10 fX4_22 rfl (lyx_is hy 53 4 rfl) (BT_get hI2488.1 53 1 2 (0) (23760) (0) (by decide) 1 (by decide) (by decide)) (fun v2492 ev2492 av2492 bv2492 => ?_)
  refine WQ_puti dX4_become_13 fX4_22 rfl rfl (lyx_is hy 63 4 rfl) (fun I2493 eI2493 => ?_)
  have hI2493 : XI g n L I2493 := by rw [eI2493]; exact (xi_f hy hI2488 (c := 63) (0) (23760) (0) (by decide) (Or.inl (by decide)) (by decide) (by omega) (by omega))
  have e2494 : I2493 (ad g 1) 1 = L := by rw [eI2493, pp_ne _ _ (Or.inl (lyx_ne hy (by decide) (by decide) (by decide)))]; exact e2489
  have e2495 : I2493 (ad g 53) 0 = v2487 := by rw [eI2493, pp_ne _ _ (Or.inl (lyx_ne hy (by decide) (by decide) (by decide)))]; exact e2490
  have e2496 : I2493 (ad g 63) 0 = v2487 := by rw [eI2493, pp_ne _ _ (Or.inr (by decide))]; exact e2491
  have e2497 : I2493 (ad g 53) 1 = v2492 := by rw [eI2493, pp_ne _ _ (Or.inl (lyx_ne hy (by decide) (by decide) (by decide)))]; exact ev2492
  have e2498 : I2493 (ad g 63) 1 = v2492 := by rw [eI2493, pp_self]
  clear eI2493
  refine WP_aload_n dX4_become_16 rfl ?_
  refine WP_aload_n dX4_become_17 rfl ?_
  refine WQ_getiu dX4_become_18 fX4_25 rfl (lyx_is hy 53 4 rfl) (fun v2499 ev2499 => ?_)
  refine WQ_puti dX4_become_21 fX4_25 rfl rfl (lyx_is hy 63 4 rfl) (fun I2500 eI2500 => ?_)
  have hI2500 : XI g n L I2500 := by rw [eI2500]; exact (xi_f0 hy hI2493 (c := 63) (by decide) (Or.inl (by decide)) (by decide))
  have e2501 : I2500 (ad g 1) 1 = L := by rw [eI2500, pp_ne _ _ (Or.inl (lyx_ne hy (by decide) (by decide) (by decide)))]; exact e2494
  have e2502 : I2500 (ad g 53) 0 = v2487 := by rw [eI2500, pp_ne _ _ (Or.inl (lyx_ne hy (by decide) (by decide) (by decide)))]; exact e2495
  have e2503 : I2500 (ad g 63) 0 = v2487 := by rw [eI2500, pp_ne _ _ (Or.inr (by decide))]; exact e2496
  have e2504 : I2500 (ad g 53) 1 = v2492 := by rw [eI2500, pp_ne _ _ (Or.inl (lyx_ne hy (by decide) (by decide) (by decide)))]; exact e2497
  have e2505 : I2500 (ad g 63) 1 = v2492 := by rw [eI2500, pp_ne _ _ (Or.inr (by decide))]; exact e2498
  have e2506 : I2500 (ad g 53) 2 = v2499 := by rw [eI2500, pp_ne _ _ (Or.inl (lyx_ne hy (by decide) (by decide) (by decide)))]; exact ev2499
  have e2507 : I2500 (ad g 63) 2 = v2499 := by rw [eI2500, pp_self]
  clear eI2500
  refine WP_aload_n dX4_become_24 rfl ?_
  refine WP_aload_n dX4_become_25 rfl ?_
  refine WQ_getl dX4_become_26 fX4_28 rfl (lyx_is hy 53 4 rfl) (fun l2508 el2508 => ?_)
  refine WQ_putl dX4_become_29 fX4_28 rfl rfl (lyx_is hy 63 4 rfl) (fun J2509 eJ2509 => ?_)
  clear eJ2509
  refine WP_aload_n dX4_become_32 rfl ?_
  refine WP_getr dX4_become_33 fX4_9 rfl (lyx_is hy 53 4 rfl) (rfx hr 53 4 54 (by decide)) ?_
  refine WQ_iconst (0) (0) dX4_become_36 rfl rfl (fun v2510 hv2510 => ?_)
  refine WP_aload_n dX4_become_37 rfl ?_
  refine WP_getr dX4_become_38 fX4_9 rfl (lyx_is hy 63 4 rfl) (rfx hr 63 4 64 (by decide)) ?_
  refine WQ_iconst (0) (0) dX4_become_41 rfl rfl (fun v2511 hv2511 => ?_)
  refine WP_aload_n dX4_become_42 rfl ?_
  refine WP_getr dX4_become_43 fX4_9 rfl (lyx_is hy 63 4 rfl) (rfx hr 63 4 64 (by decide)) ?_
  refine WP_alen dX4_become_46 (lyx_is hy 64 13 rfl) (by decide) ?_
  rw [(lyx_n hy 64 4 rfl)]
  obtain ⟨v2512, hv2512, ev2512⟩ : ∃ v : Int32, v.toInt = 4 ∧ nI 4 = v := ⟨_, nI_toInt (by decide), rfl⟩
  rw [ev2512]; clear ev2512
  refine WQ_copy0 (N := 4) dX4_become_47 lX4_46 ⟨by decide, Nat.le_of_ble_eq_true rfl⟩ (lyx_is hy 54 13 rfl) (lyx_is hy 64 13 rfl) hv2510 hv2511 hv2512 (lyx_n hy 54 4 rfl) (lyx_n hy 64 4 rfl) (fun I2513 fI2513 oI2513 => ?_)
  have hI2513 : XI g n L I2513 := xi_copy hy hI2500 54 64 4 (by decide) (by decide) fI2513 oI2513
  clear fI2513 oI2513
  have e2514 : I2513 (ad g 1) 1 = L := hI2513.2
  have b2515 := BT_get hI2513.1 1 1 2 (0) (0) (900) (by decide) 1 (by decide) (by decide)
  rw [e2514] at b2515
  refine WP_aload_n dX4_become_50 rfl ?_
  refine WP_getr dX4_become_51 fX4_15 rfl (lyx_is hy 53 4 rfl) (rfx hr 53 5 55 (by decide)) ?_
  refine WQ_iconst (0) (0) dX4_become_54 rfl rfl (fun v2516 hv2516 => ?_)
  refine WP_aload_n dX4_become_55 rfl ?_
  refine WP_getr dX4_become_56 fX4_15 rfl (lyx_is hy 63 4 rfl) (rfx hr 63 5 65 (by decide)) ?_
  refine WQ_iconst (0) (0) dX4_become_59 rfl rfl (fun v2517 hv2517 => ?_)
  refine WP_aload_n dX4_become_60 rfl ?_
  refine WP_getr dX4_become_61 fX4_15 rfl (lyx_is hy 63 4 rfl) (rfx hr 63 5 65 (by decide)) ?_
  refine WP_alen dX4_become_64 (lyx_is hy 65 13 rfl) (by decide) ?_
  rw [(lyx_n hy 65 28 rfl)]
  obtain ⟨v2518, hv2518, ev2518⟩ : ∃ v : Int32, v.toInt = 28 ∧ nI 28 = v := ⟨_, nI_toInt (by decide), rfl⟩
  rw [ev2518]; clear ev2518
  refine WQ_copy0 (N := 28) dX4_become_65 lX4_46 ⟨by decide, Nat.le_of_ble_eq_true rfl⟩ (lyx_is hy 55 13 rfl) (lyx_is hy 65 13 rfl) hv2516 hv2517 hv2518 (lyx_n hy 55 28 rfl) (lyx_n hy 65 28 rfl) (fun I2519 fI2519 oI2519 => ?_)
  have hI2519 : XI g n L I2519 := xi_copy hy hI2513 55 65 28 (by decide) (by decide) fI2519 oI2519
  clear fI2519 oI2519
  have e2520 : I2519 (ad g 1) 1 = L := hI2519.2
  have b2521 := BT_get hI2519.1 1 1 2 (0) (0) (900) (by decide) 1 (by decide) (by decide)
  rw [e2520] at b2521
  exact WP_vret dX4_become_68 rfl ⟨⟨hI2519, rfl⟩, rfl⟩
set_option maxHeartbeats 4000000 in
set_option maxRecDepth 100000 in
theorem sx_sum_66 {g : GG} {n : Int} {L : Int32} (hy : LyX g)  {I : pI} {J : pJ} {R : pR} (hr : RfX g R) (hI : XI g n L I) (wh : Int32) (wh_lo : 0 ≤ wh.toInt) (wh_hi : wh.toInt ≤ 6) : SP g mX4_sum [.ref (ad g 66), .int wh] I J R (fun r I' J' R' => (I' = I ∧ J' = J ∧ R' = R) ∧ ∃ v : Int32, r = some (.int v)) := by
  refine SP_of ⟨by decide, rfl⟩ (Nat.le_of_ble_eq_true rfl) ?_
  have e2522 : I (ad g 1) 1 = L := hI.2
  have b2523 := BT_get hI.1 1 1 2 (0) (0) (900) (by decide) 1 (by decide) (by decide)
  rw [e2522] at b2523
  refine WQ_iconst (0) (0) dX4_sum_0 rfl rfl (fun v2524 hv2524 => ?_)
  refine WP_istore_n (ls' := [(0, _), (1, _), (2, _)]) dX4_sum_1 (by decide) rfl ?_
  refine WQ_iconst (0) (0) dX4_sum_2 rfl rfl (fun v2525 hv2525 => ?_)
  refine WP_istore_n (ls' := [(0, _), (1, _), (2, _), (3, _)]) dX4_sum_3 (by decide) rfl ?_
  have lp4_2527 : ∀ (mz : Nat) (i2526 : Int32) (i2527 : Int32), 0 ≤ i2527.toInt → i2527.toInt ≤ 4 → (5 - i2527.toInt).toNat < mz → WP g mX4_sum 4 [(0, .ref (ad g 66)), (1, .int wh), (2, .int i2526), (3, .int i2527)] [] I J R (fun r I' J' R' => (I' = I ∧ J' = J ∧ R' = R) ∧ ∃ v : Int32, r = some (.int v)) := by
    intro mz
    induction mz with
    | zero =>
      intro i2526 i2527 ai2527 bi2527 hmlp4_2527
      exact absurd hmlp4_2527 (Nat.not_lt_zero _)
    | succ mz ihlp4_2527 =>
      intro i2526 i2527 ai2527 bi2527 hmlp4_2527
      refine WP_iload_n dX4_sum_4 rfl ?_
      refine WQ_iconst (4) (4) dX4_sum_5 rfl rfl (fun v2529 hv2529 => ?_)
      refine WQ_icmp_ge 29 dX4_sum_6 rfl (fun c2529 => ?_) (fun c2529 => ?_)
      · refine WP_iload_n dX4_sum_29 rfl ?_
        exact WP_iret dX4_sum_30 rfl ⟨⟨rfl, rfl, rfl⟩, _, rfl⟩
      · refine WP_iload_n dX4_sum_9 rfl ?_
        refine WP_aload_n dX4_sum_10 rfl ?_
        refine WP_getr dX4_sum_11 fX4_15 rfl (lyx_is hy 66 4 rfl) (rfx hr 66 5 68 (by decide)) ?_
        refine WP_iload_n dX4_sum_14 rfl ?_
        refine WQ_bipush (7) (7) dX4_sum_15 rfl rfl (fun v2531 hv2531 => ?_)
        refine WQ_imulk (7) dX4_sum_17 hv2531 (by omega) (by omega) (fun v2532 hv2532 => ?_)
        refine WP_iload_n dX4_sum_18 rfl ?_
        refine WQ_iadd dX4_sum_19 (by omega) (by omega) (fun v2533 hv2533 => ?_)
        refine WQ_ialdu dX4_sum_20 (lyx_is hy 68 13 rfl) (lyx_n hy 68 28 rfl) (by omega) (by omega) (fun v2534 => ?_)
        refine WQ_iaddu dX4_sum_21 (fun v2535 => ?_)
        refine WP_istore_n (ls' := [(0, _), (1, _), (2, _), (3, _)]) dX4_sum_22 (by decide) rfl ?_
        refine WP_iinc (ls' := [(0, _), (1, _), (2, _), (3, _)]) dX4_sum_23 rfl (by decide) rfl ?_
        have hv2536 : (i2527 + Int32.ofInt (1)).toInt = i2527.toInt + (1) := ia_n rfl (by omega) (by omega)
        generalize i2527 + Int32.ofInt (1) = v2536 at hv2536 ⊢
        refine WP_goto 4 dX4_sum_26 rfl ?_
        exact WP_sub (fc rfl (fc rfl (fc rfl (fc rfl fn)))) (ihlp4_2527 v2535 v2536 (by omega) (by omega) (by omega))
  exact WP_sub (fc rfl (fc rfl (fc rfl (fc rfl fn)))) (lp4_2527 _ v2524 v2525 (by omega) (by omega) (Nat.lt_succ_self _))
set_option maxHeartbeats 4000000 in
set_option maxRecDepth 100000 in
theorem sx_begin_66_6 {g : GG} {n : Int} {L : Int32} (hy : LyX g)  {I : pI} {J : pJ} {R : pR} (hr : RfX g R) (hI : XI g n L I)   (hn : 0 ≤ n) : SP g mX4_begin [.ref (ad g 66), .ref (ad g 6)] I J R (fun r I' J' R' => (XI g n L I' ∧ R' = R) ∧ r = none) := by
  refine SP_of ⟨by decide, rfl⟩ (Nat.le_of_ble_eq_true rfl) ?_
  have e2537 : I (ad g 1) 1 = L := hI.2
  have b2538 := BT_get hI.1 1 1 2 (0) (0) (900) (by decide) 1 (by decide) (by decide)
  rw [e2537] at b2538
  refine WP_aload_n dX4_begin_0 rfl ?_
  refine WQ_iconst (0) (0) dX4_begin_1 rfl rfl (fun v2539 hv2539 => ?_)
  refine WQ_puti dX4_begin_2 fX4_18 rfl rfl (lyx_is hy 66 4 rfl) (fun I2540 eI2540 => ?_)
  have hI2540 : XI g n L I2540 := by rw [eI2540]; exact (xi_f0 hy hI (c := 66) (by decide) (Or.inl (by decide)) (by decide))
  have e2541 : I2540 (ad g 1) 1 = L := by rw [eI2540, pp_ne _ _ (Or.inl (lyx_ne hy (by decide) (by decide) (by decide)))]; exact e2537
  have e2542 : I2540 (ad g 66) 0 = v2539 := by rw [eI2540, pp_self]
  clear eI2540
  refine WP_aload_n dX4_begin_5 rfl ?_
  refine WQ_iconst (0) (0) dX4_begin_6 rfl rfl (fun v2543 hv2543 => ?_)
  refine WQ_puti dX4_begin_7 fX4_22 rfl rfl (lyx_is hy 66 4 rfl) (fun I2544 eI2544 => ?_)
  have hI2544 : XI g n L I2544 := by rw [eI2544]; exact (xi_f hy hI2540 (c := 66) (0) (23760) (0) (by decide) (Or.inl (by decide)) (by decide) (by omega) (by omega))
  have e2545 : I2544 (ad g 1) 1 = L := by rw [eI2544, pp_ne _ _ (Or.inl (lyx_ne hy (by decide) (by decide) (by decide)))]; exact e2541
  have e2546 : I2544 (ad g 66) 0 = v2539 := by rw [eI2544, pp_ne _ _ (Or.inr (by decide))]; exact e2542
  have e2547 : I2544 (ad g 66) 1 = v2543 := by rw [eI2544, pp_self]
  clear eI2544
  refine WP_aload_n dX4_begin_10 rfl ?_
  refine WQ_iconst (0) (0) dX4_begin_11 rfl rfl (fun v2548 hv2548 => ?_)
  refine WQ_puti dX4_begin_12 fX4_25 rfl rfl (lyx_is hy 66 4 rfl) (fun I2549 eI2549 => ?_)
  have hI2549 : XI g n L I2549 := by rw [eI2549]; exact (xi_f0 hy hI2544 (c := 66) (by decide) (Or.inl (by decide)) (by decide))
  have e2550 : I2549 (ad g 1) 1 = L := by rw [eI2549, pp_ne _ _ (Or.inl (lyx_ne hy (by decide) (by decide) (by decide)))]; exact e2545
  have e2551 : I2549 (ad g 66) 0 = v2539 := by rw [eI2549, pp_ne _ _ (Or.inr (by decide))]; exact e2546
  have e2552 : I2549 (ad g 66) 1 = v2543 := by rw [eI2549, pp_ne _ _ (Or.inr (by decide))]; exact e2547
  have e2553 : I2549 (ad g 66) 2 = v2548 := by rw [eI2549, pp_self]
  clear eI2549
  refine WP_aload_n dX4_begin_15 rfl ?_
  refine WP_lconst (0) dX4_begin_16 rfl ?_
  obtain ⟨l2554, hl2554, el2554⟩ : ∃ v : Int64, v.toInt = 0 ∧ (0 : Int64) = v := ⟨_, rfl, rfl⟩
  rw [el2554]; clear el2554
  refine WQ_putl dX4_begin_17 fX4_28 rfl rfl (lyx_is hy 66 4 rfl) (fun J2555 eJ2555 => ?_)
  clear eJ2555
  refine WP_aload_n dX4_begin_20 rfl ?_
  refine WP_getr dX4_begin_21 fX4_15 rfl (lyx_is hy 66 4 rfl) (rfx hr 66 5 68 (by decide)) ?_
  refine WQ_iconst (0) (0) dX4_begin_24 rfl rfl (fun v2556 hv2556 => ?_)
  refine WP_callS2u dX4_begin_25 ⟨⟨⟨by decide, by decide⟩, zJ7_fill_53178⟩, lX4_32, tJ7_fill_53178⟩ (s_fill hy hr 68 28 rfl rfl (by decide) v2556) (Nat.le_of_ble_eq_true rfl) ?_
  obtain ⟨I2557, eI2557⟩ : ∃ I9 : pI, I9 = fi I2549 (ad g 68) 28 v2556 := ⟨_, rfl⟩
  rw [← eI2557]
  have hI2557 : XI g n L I2557 := by rw [eI2557]; exact (fa_fill hy hI2549 (c := 68) 28 (by decide) hv2556)
  have e2558 : I2557 (ad g 1) 1 = L := by rw [eI2557, fi_off (lyx_ne hy (by decide) (by decide) (by decide))]; exact e2550
  have e2559 : I2557 (ad g 66) 0 = v2539 := by rw [eI2557, fi_off (lyx_ne hy (by decide) (by decide) (by decide))]; exact e2551
  have e2560 : I2557 (ad g 66) 1 = v2543 := by rw [eI2557, fi_off (lyx_ne hy (by decide) (by decide) (by decide))]; exact e2552
  have e2561 : I2557 (ad g 66) 2 = v2548 := by rw [eI2557, fi_off (lyx_ne hy (by decide) (by decide) (by decide))]; exact e2553
  clear eI2557
  refine WQ_iconst (0) (0) dX4_begin_28 rfl rfl (fun v2562 hv2562 => ?_)
  refine WP_istore_n (ls' := [(0, _), (1, _), (2, _)]) dX4_begin_29 (by decide) rfl ?_
  have lp30_2565 : ∀ (mz : Nat) (i2563 : Int32) (I2564 : pI) (J2565 : pJ), XI g n L I2564 → 0 ≤ i2563.toInt → i2563.toInt ≤ 4 → (5 - i2563.toInt).toNat < mz → WP g mX4_begin 30 [(0, .ref (ad g 66)), (1, .ref (ad g 6)), (2, .int i2563)] [] I2564 J2565 R (fun r I' J' R' => (XI g n L I' ∧ R' = R) ∧ r = none) := by
    intro mz
    induction mz with
    | zero =>
      intro i2563 I2564 J2565 hI2564 ai2563 bi2563 hmlp30_2565
      exact absurd hmlp30_2565 (Nat.not_lt_zero _)
    | succ mz ihlp30_2565 =>
      intro i2563 I2564 J2565 hI2564 ai2563 bi2563 hmlp30_2565
      have e2567 : I2564 (ad g 1) 1 = L := hI2564.2
      have b2568 := BT_get hI2564.1 1 1 2 (0) (0) (900) (by decide) 1 (by decide) (by decide)
      rw [e2567] at b2568
      refine WP_iload_n dX4_begin_30 rfl ?_
      refine WP_aload_n dX4_begin_31 rfl ?_
      refine WQ_geti dX4_begin_32 fX4_38 rfl (lyx_is hy 6 7 rfl) (BT_get hI2564.1 6 1 2 (0) (0) (4) (by decide) 1 (by decide) (by decide)) (fun v2569 ev2569 av2569 bv2569 => ?_)
      refine WQ_icmp_ge 61 dX4_begin_35 rfl (fun c2569 => ?_) (fun c2569 => ?_)
      · exact WP_vret dX4_begin_61 rfl ⟨⟨hI2564, rfl⟩, rfl⟩
      · refine WP_aload_n dX4_begin_38 rfl ?_
        refine WP_getr dX4_begin_39 fX4_15 rfl (lyx_is hy 66 4 rfl) (rfx hr 66 5 68 (by decide)) ?_
        refine WP_iload_n dX4_begin_42 rfl ?_
        refine WQ_bipush (7) (7) dX4_begin_43 rfl rfl (fun v2571 hv2571 => ?_)
        refine WQ_imulk (7) dX4_begin_45 hv2571 (by omega) (by omega) (fun v2572 hv2572 => ?_)
        refine WQ_iconst (0) (0) dX4_begin_46 rfl rfl (fun v2573 hv2573 => ?_)
        refine WQ_iadd dX4_begin_47 (by omega) (by omega) (fun v2574 hv2574 => ?_)
        refine WP_aload_n dX4_begin_48 rfl ?_
        refine WP_getr dX4_begin_49 fX4_43 rfl (lyx_is hy 6 7 rfl) (rfx hr 6 8 10 (by decide)) ?_
        refine WP_iload_n dX4_begin_52 rfl ?_
        refine WQ_iald dX4_begin_53 (lyx_is hy 10 13 rfl) (lyx_n hy 10 4 rfl) (by omega) (by omega) (fun q hq => BT_get hI2564.1 10 0 4 (0) (0) (60) (by decide) q (Nat.zero_le _) hq) (fun v2575 av2575 bv2575 ev2575 => ?_)
        clear ev2575
        refine WQ_iast dX4_begin_54 (lyx_is hy 68 13 rfl) (lyx_n hy 68 28 rfl) (by omega) (by omega) (fun I2576 eI2576 => ?_)
        have hI2576 : XI g n L I2576 := by rw [eI2576]; exact (fa_put hy hI2564 (c := 68) (k := 0) (s := i2563.toInt.toNat) (by decide) (by omega) (by decide) (by rw [cl (n := 7 * i2563.toInt.toNat + 0) (by omega)]) (fun _ => by omega) (fun _ => by omega))
        have e2577 : I2576 (ad g 1) 1 = L := by rw [eI2576, pp_ne _ _ (Or.inl (lyx_ne hy (by decide) (by decide) (by decide)))]; exact e2567
        have e2578 : I2576 (ad g 6) 1 = v2569 := by rw [eI2576, pp_ne _ _ (Or.inl (lyx_ne hy (by decide) (by decide) (by decide)))]; exact ev2569
        clear eI2576
        refine WP_iinc (ls' := [(0, _), (1, _), (2, _)]) dX4_begin_55 rfl (by decide) rfl ?_
        have hv2579 : (i2563 + Int32.ofInt (1)).toInt = i2563.toInt + (1) := ia_n rfl (by omega) (by omega)
        generalize i2563 + Int32.ofInt (1) = v2579 at hv2579 ⊢
        refine WP_goto 30 dX4_begin_58 rfl ?_
        exact WP_sub (fc rfl (fc rfl (fc rfl fn))) (ihlp30_2565 v2579 I2576 J2565 hI2576 (by omega) (by omega) (by omega))
  exact WP_sub (fc rfl (fc rfl (fc rfl fn))) (lp30_2565 _ v2562 I2557 J2555 hI2557 (by omega) (by omega) (Nat.lt_succ_self _))
set_option maxHeartbeats 4000000 in
set_option maxRecDepth 100000 in
theorem sx_begin_66_27 {g : GG} {n : Int} {L : Int32} (hy : LyX g)  {I : pI} {J : pJ} {R : pR} (hr : RfX g R) (hI : XI g n L I)   (hn : 0 ≤ n) : SP g mX4_begin [.ref (ad g 66), .ref (ad g 27)] I J R (fun r I' J' R' => (XI g n L I' ∧ R' = R) ∧ r = none) := by
  refine SP_of ⟨by decide, rfl⟩ (Nat.le_of_ble_eq_true rfl) ?_
  have e2580 : I (ad g 1) 1 = L := hI.2
  have b2581 := BT_get hI.1 1 1 2 (0) (0) (900) (by decide) 1 (by decide) (by decide)
  rw [e2580] at b2581
  refine WP_aload_n dX4_begin_0 rfl ?_
  refine WQ_iconst (0) (0) dX4_begin_1 rfl rfl (fun v2582 hv2582 => ?_)
  refine WQ_puti dX4_begin_2 fX4_18 rfl rfl (lyx_is hy 66 4 rfl) (fun I2583 eI2583 => ?_)
  have hI2583 : XI g n L I2583 := by rw [eI2583]; exact (xi_f0 hy hI (c := 66) (by decide) (Or.inl (by decide)) (by decide))
  have e2584 : I2583 (ad g 1) 1 = L := by rw [eI2583, pp_ne _ _ (Or.inl (lyx_ne hy (by decide) (by decide) (by decide)))]; exact e2580
  have e2585 : I2583 (ad g 66) 0 = v2582 := by rw [eI2583, pp_self]
  clear eI2583
  refine WP_aload_n dX4_begin_5 rfl ?_
  refine WQ_iconst (0) (0) dX4_begin_6 rfl rfl (fun v2586 hv2586 => ?_)
  refine WQ_puti dX4_begin_7 fX4_22 rfl rfl (lyx_is hy 66 4 rfl) (fun I2587 eI2587 => ?_)
  have hI2587 : XI g n L I2587 := by rw [eI2587]; exact (xi_f hy hI2583 (c := 66) (0) (23760) (0) (by decide) (Or.inl (by decide)) (by decide) (by omega) (by omega))
  have e2588 : I2587 (ad g 1) 1 = L := by rw [eI2587, pp_ne _ _ (Or.inl (lyx_ne hy (by decide) (by decide) (by decide)))]; exact e2584
  have e2589 : I2587 (ad g 66) 0 = v2582 := by rw [eI2587, pp_ne _ _ (Or.inr (by decide))]; exact e2585
  have e2590 : I2587 (ad g 66) 1 = v2586 := by rw [eI2587, pp_self]
  clear eI2587
  refine WP_aload_n dX4_begin_10 rfl ?_
  refine WQ_iconst (0) (0) dX4_begin_11 rfl rfl (fun v2591 hv2591 => ?_)
  refine WQ_puti dX4_begin_12 fX4_25 rfl rfl (lyx_is hy 66 4 rfl) (fun I2592 eI2592 => ?_)
  have hI2592 : XI g n L I2592 := by rw [eI2592]; exact (xi_f0 hy hI2587 (c := 66) (by decide) (Or.inl (by decide)) (by decide))
  have e2593 : I2592 (ad g 1) 1 = L := by rw [eI2592, pp_ne _ _ (Or.inl (lyx_ne hy (by decide) (by decide) (by decide)))]; exact e2588
  have e2594 : I2592 (ad g 66) 0 = v2582 := by rw [eI2592, pp_ne _ _ (Or.inr (by decide))]; exact e2589
  have e2595 : I2592 (ad g 66) 1 = v2586 := by rw [eI2592, pp_ne _ _ (Or.inr (by decide))]; exact e2590
  have e2596 : I2592 (ad g 66) 2 = v2591 := by rw [eI2592, pp_self]
  clear eI2592
  refine WP_aload_n dX4_begin_15 rfl ?_
  refine WP_lconst (0) dX4_begin_16 rfl ?_
  obtain ⟨l2597, hl2597, el2597⟩ : ∃ v : Int64, v.toInt = 0 ∧ (0 : Int64) = v := ⟨_, rfl, rfl⟩
  rw [el2597]; clear el2597
  refine WQ_putl dX4_begin_17 fX4_28 rfl rfl (lyx_is hy 66 4 rfl) (fun J2598 eJ2598 => ?_)
  clear eJ2598
  refine WP_aload_n dX4_begin_20 rfl ?_
  refine WP_getr dX4_begin_21 fX4_15 rfl (lyx_is hy 66 4 rfl) (rfx hr 66 5 68 (by decide)) ?_
  refine WQ_iconst (0) (0) dX4_begin_24 rfl rfl (fun v2599 hv2599 => ?_)
  refine WP_callS2u dX4_begin_25 ⟨⟨⟨by decide, by decide⟩, zJ7_fill_53178⟩, lX4_32, tJ7_fill_53178⟩ (s_fill hy hr 68 28 rfl rfl (by decide) v2599) (Nat.le_of_ble_eq_true rfl) ?_
  obtain ⟨I2600, eI2600⟩ : ∃ I9 : pI, I9 = fi I2592 (ad g 68) 28 v2599 := ⟨_, rfl⟩
  rw [← eI2600]
  have hI2600 : XI g n L I2600 := by rw [eI2600]; exact (fa_fill hy hI2592 (c := 68) 28 (by decide) hv2599)
  have e2601 : I2600 (ad g 1) 1 = L := by rw [eI2600, fi_off (lyx_ne hy (by decide) (by decide) (by decide))]; exact e2593
  have e2602 : I2600 (ad g 66) 0 = v2582 := by rw [eI2600, fi_off (lyx_ne hy (by decide) (by decide) (by decide))]; exact e2594
  have e2603 : I2600 (ad g 66) 1 = v2586 := by rw [eI2600, fi_off (lyx_ne hy (by decide) (by decide) (by decide))]; exact e2595
  have e2604 : I2600 (ad g 66) 2 = v2591 := by rw [eI2600, fi_off (lyx_ne hy (by decide) (by decide) (by decide))]; exact e2596
  clear eI2600
  refine WQ_iconst (0) (0) dX4_begin_28 rfl rfl (fun v2605 hv2605 => ?_)
  refine WP_istore_n (ls' := [(0, _), (1, _), (2, _)]) dX4_begin_29 (by decide) rfl ?_
  have lp30_2608 : ∀ (mz : Nat) (i2606 : Int32) (I2607 : pI) (J2608 : pJ), XI g n L I2607 → 0 ≤ i2606.toInt → i2606.toInt ≤ 4 → (5 - i2606.toInt).toNat < mz → WP g mX4_begin 30 [(0, .ref (ad g 66)), (1, .ref (ad g 27)), (2, .int i2606)] [] I2607 J2608 R (fun r I' J' R' => (XI g n L I' ∧ R' = R) ∧ r = none) := by
    intro mz
    induction mz with
    | zero =>
      intro i2606 I2607 J2608 hI2607 ai2606 bi2606 hmlp30_2608
      exact absurd hmlp30_2608 (Nat.not_lt_zero _)
    | succ mz ihlp30_2608 =>
      intro i2606 I2607 J2608 hI2607 ai2606 bi2606 hmlp30_2608
      have e2610 : I2607 (ad g 1) 1 = L := hI2607.2
      have b2611 := BT_get hI2607.1 1 1 2 (0) (0) (900) (by decide) 1 (by decide) (by decide)
      rw [e2610] at b2611
      refine WP_iload_n dX4_begin_30 rfl ?_
      refine WP_aload_n dX4_begin_31 rfl ?_
      refine WQ_geti dX4_begin_32 fX4_38 rfl (lyx_is hy 27 7 rfl) (BT_get hI2607.1 27 1 2 (0) (0) (4) (by decide) 1 (by decide) (by decide)) (fun v2612 ev2612 av2612 bv2612 => ?_)
      refine WQ_icmp_ge 61 dX4_begin_35 rfl (fun c2612 => ?_) (fun c2612 => ?_)
      · exact WP_vret dX4_begin_61 rfl ⟨⟨hI2607, rfl⟩, rfl⟩
      · refine WP_aload_n dX4_begin_38 rfl ?_
        refine WP_getr dX4_begin_39 fX4_15 rfl (lyx_is hy 66 4 rfl) (rfx hr 66 5 68 (by decide)) ?_
        refine WP_iload_n dX4_begin_42 rfl ?_
        refine WQ_bipush (7) (7) dX4_begin_43 rfl rfl (fun v2614 hv2614 => ?_)
        refine WQ_imulk (7) dX4_begin_45 hv2614 (by omega) (by omega) (fun v2615 hv2615 => ?_)
        refine WQ_iconst (0) (0) dX4_begin_46 rfl rfl (fun v2616 hv2616 => ?_)
        refine WQ_iadd dX4_begin_47 (by omega) (by omega) (fun v2617 hv2617 => ?_)
        refine WP_aload_n dX4_begin_48 rfl ?_
        refine WP_getr dX4_begin_49 fX4_43 rfl (lyx_is hy 27 7 rfl) (rfx hr 27 8 31 (by decide)) ?_
        refine WP_iload_n dX4_begin_52 rfl ?_
        refine WQ_iald dX4_begin_53 (lyx_is hy 31 13 rfl) (lyx_n hy 31 4 rfl) (by omega) (by omega) (fun q hq => BT_get hI2607.1 31 0 4 (0) (0) (60) (by decide) q (Nat.zero_le _) hq) (fun v2618 av2618 bv2618 ev2618 => ?_)
        clear ev2618
        refine WQ_iast dX4_begin_54 (lyx_is hy 68 13 rfl) (lyx_n hy 68 28 rfl) (by omega) (by omega) (fun I2619 eI2619 => ?_)
        have hI2619 : XI g n L I2619 := by rw [eI2619]; exact (fa_put hy hI2607 (c := 68) (k := 0) (s := i2606.toInt.toNat) (by decide) (by omega) (by decide) (by rw [cl (n := 7 * i2606.toInt.toNat + 0) (by omega)]) (fun _ => by omega) (fun _ => by omega))
        have e2620 : I2619 (ad g 1) 1 = L := by rw [eI2619, pp_ne _ _ (Or.inl (lyx_ne hy (by decide) (by decide) (by decide)))]; exact e2610
        have e2621 : I2619 (ad g 27) 1 = v2612 := by rw [eI2619, pp_ne _ _ (Or.inl (lyx_ne hy (by decide) (by decide) (by decide)))]; exact ev2612
        clear eI2619
        refine WP_iinc (ls' := [(0, _), (1, _), (2, _)]) dX4_begin_55 rfl (by decide) rfl ?_
        have hv2622 : (i2606 + Int32.ofInt (1)).toInt = i2606.toInt + (1) := ia_n rfl (by omega) (by omega)
        generalize i2606 + Int32.ofInt (1) = v2622 at hv2622 ⊢
        refine WP_goto 30 dX4_begin_58 rfl ?_
        exact WP_sub (fc rfl (fc rfl (fc rfl fn))) (ihlp30_2608 v2622 I2619 J2608 hI2619 (by omega) (by omega) (by omega))
  exact WP_sub (fc rfl (fc rfl (fc rfl fn))) (lp30_2608 _ v2605 I2600 J2598 hI2600 (by omega) (by omega) (Nat.lt_succ_self _))
set_option maxHeartbeats 4000000 in
set_option maxRecDepth 100000 in
theorem sx_become_66_53 {g : GG} {n : Int} {L : Int32} (hy : LyX g)  {I : pI} {J : pJ} {R : pR} (hr : RfX g R) (hI : XI g n L I)   : SP g mX4_become [.ref (ad g 66), .ref (ad g 53)] I J R (fun r I' J' R' => (XI g n L I' ∧ R' = R) ∧ r = none) := by
  refine SP_of ⟨by decide, rfl⟩ (Nat.le_of_ble_eq_true rfl) ?_
  have e2623 : I (ad g 1) 1 = L := hI.2
  have b2624 := BT_get hI.1 1 1 2 (0) (0) (900) (by decide) 1 (by decide) (by decide)
  rw [e2623] at b2624
  refine WP_aload_n dX4_become_0 rfl ?_
  refine WP_aload_n dX4_become_1 rfl ?_
  refine WQ_getiu dX4_become_2 fX4_18 rfl (lyx_is hy 53 4 rfl) (fun v2625 ev2625 => ?_)
  refine WQ_puti dX4_become_5 fX4_18 rfl rfl (lyx_is hy 66 4 rfl) (fun I2626 eI2626 => ?_)
  have hI2626 : XI g n L I2626 := by rw [eI2626]; exact (xi_f0 hy hI (c := 66) (by decide) (Or.inl (by decide)) (by decide))
  have e2627 : I2626 (ad g 1) 1 = L := by rw [eI2626, pp_ne _ _ (Or.inl (lyx_ne hy (by decide) (by decide) (by decide)))]; exact e2623
  have e2628 : I2626 (ad g 53) 0 = v2625 := by rw [eI2626, pp_ne _ _ (Or.inl (lyx_ne hy (by decide) (by decide) (by decide)))]; exact ev2625
  have e2629 : I2626 (ad g 66) 0 = v2625 := by rw [eI2626, pp_self]
  clear eI2626
  refine WP_aload_n dX4_become_8 rfl ?_
  refine WP_aload_n dX4_become_9 rfl ?_
  refine WQ_geti dX4_become_10 fX4_22 rfl (lyx_is hy 53 4 rfl) (BT_get hI2626.1 53 1 2 (0) (23760) (0) (by decide) 1 (by decide) (by decide)) (fun v2630 ev2630 av2630 bv2630 => ?_)
  refine WQ_puti dX4_become_13 fX4_22 rfl rfl (lyx_is hy 66 4 rfl) (fun I2631 eI2631 => ?_)
  have hI2631 : XI g n L I2631 := by rw [eI2631]; exact (xi_f hy hI2626 (c := 66) (0) (23760) (0) (by decide) (Or.inl (by decide)) (by decide) (by omega) (by omega))
  have e2632 : I2631 (ad g 1) 1 = L := by rw [eI2631, pp_ne _ _ (Or.inl (lyx_ne hy (by decide) (by decide) (by decide)))]; exact e2627
  have e2633 : I2631 (ad g 53) 0 = v2625 := by rw [eI2631, pp_ne _ _ (Or.inl (lyx_ne hy (by decide) (by decide) (by decide)))]; exact e2628
  have e2634 : I2631 (ad g 66) 0 = v2625 := by rw [eI2631, pp_ne _ _ (Or.inr (by decide))]; exact e2629
  have e2635 : I2631 (ad g 53) 1 = v2630 := by rw [eI2631, pp_ne _ _ (Or.inl (lyx_ne hy (by decide) (by decide) (by decide)))]; exact ev2630
  have e2636 : I2631 (ad g 66) 1 = v2630 := by rw [eI2631, pp_self]
  clear eI2631
  refine WP_aload_n dX4_become_16 rfl ?_
  refine WP_aload_n dX4_become_17 rfl ?_
  refine WQ_getiu dX4_become_18 fX4_25 rfl (lyx_is hy 53 4 rfl) (fun v2637 ev2637 => ?_)
  refine WQ_puti dX4_become_21 fX4_25 rfl rfl (lyx_is hy 66 4 rfl) (fun I2638 eI2638 => ?_)
  have hI2638 : XI g n L I2638 := by rw [eI2638]; exact (xi_f0 hy hI2631 (c := 66) (by decide) (Or.inl (by decide)) (by decide))
  have e2639 : I2638 (ad g 1) 1 = L := by rw [eI2638, pp_ne _ _ (Or.inl (lyx_ne hy (by decide) (by decide) (by decide)))]; exact e2632
  have e2640 : I2638 (ad g 53) 0 = v2625 := by rw [eI2638, pp_ne _ _ (Or.inl (lyx_ne hy (by decide) (by decide) (by decide)))]; exact e2633
  have e2641 : I2638 (ad g 66) 0 = v2625 := by rw [eI2638, pp_ne _ _ (Or.inr (by decide))]; exact e2634
  have e2642 : I2638 (ad g 53) 1 = v2630 := by rw [eI2638, pp_ne _ _ (Or.inl (lyx_ne hy (by decide) (by decide) (by decide)))]; exact e2635
  have e2643 : I2638 (ad g 66) 1 = v2630 := by rw [eI2638, pp_ne _ _ (Or.inr (by decide))]; exact e2636
  have e2644 : I2638 (ad g 53) 2 = v2637 := by rw [eI2638, pp_ne _ _ (Or.inl (lyx_ne hy (by decide) (by decide) (by decide)))]; exact ev2637
  have e2645 : I2638 (ad g 66) 2 = v2637 := by rw [eI2638, pp_self]
  clear eI2638
  refine WP_aload_n dX4_become_24 rfl ?_
  refine WP_aload_n dX4_become_25 rfl ?_
  refine WQ_getl dX4_become_26 fX4_28 rfl (lyx_is hy 53 4 rfl) (fun l2646 el2646 => ?_)
  refine WQ_putl dX4_become_29 fX4_28 rfl rfl (lyx_is hy 66 4 rfl) (fun J2647 eJ2647 => ?_)
  clear eJ2647
  refine WP_aload_n dX4_become_32 rfl ?_
  refine WP_getr dX4_become_33 fX4_9 rfl (lyx_is hy 53 4 rfl) (rfx hr 53 4 54 (by decide)) ?_
  refine WQ_iconst (0) (0) dX4_become_36 rfl rfl (fun v2648 hv2648 => ?_)
  refine WP_aload_n dX4_become_37 rfl ?_
  refine WP_getr dX4_become_38 fX4_9 rfl (lyx_is hy 66 4 rfl) (rfx hr 66 4 67 (by decide)) ?_
  refine WQ_iconst (0) (0) dX4_become_41 rfl rfl (fun v2649 hv2649 => ?_)
  refine WP_aload_n dX4_become_42 rfl ?_
  refine WP_getr dX4_become_43 fX4_9 rfl (lyx_is hy 66 4 rfl) (rfx hr 66 4 67 (by decide)) ?_
  refine WP_alen dX4_become_46 (lyx_is hy 67 13 rfl) (by decide) ?_
  rw [(lyx_n hy 67 4 rfl)]
  obtain ⟨v2650, hv2650, ev2650⟩ : ∃ v : Int32, v.toInt = 4 ∧ nI 4 = v := ⟨_, nI_toInt (by decide), rfl⟩
  rw [ev2650]; clear ev2650
  refine WQ_copy0 (N := 4) dX4_become_47 lX4_46 ⟨by decide, Nat.le_of_ble_eq_true rfl⟩ (lyx_is hy 54 13 rfl) (lyx_is hy 67 13 rfl) hv2648 hv2649 hv2650 (lyx_n hy 54 4 rfl) (lyx_n hy 67 4 rfl) (fun I2651 fI2651 oI2651 => ?_)
  have hI2651 : XI g n L I2651 := xi_copy hy hI2638 54 67 4 (by decide) (by decide) fI2651 oI2651
  clear fI2651 oI2651
  have e2652 : I2651 (ad g 1) 1 = L := hI2651.2
  have b2653 := BT_get hI2651.1 1 1 2 (0) (0) (900) (by decide) 1 (by decide) (by decide)
  rw [e2652] at b2653
  refine WP_aload_n dX4_become_50 rfl ?_
  refine WP_getr dX4_become_51 fX4_15 rfl (lyx_is hy 53 4 rfl) (rfx hr 53 5 55 (by decide)) ?_
  refine WQ_iconst (0) (0) dX4_become_54 rfl rfl (fun v2654 hv2654 => ?_)
  refine WP_aload_n dX4_become_55 rfl ?_
  refine WP_getr dX4_become_56 fX4_15 rfl (lyx_is hy 66 4 rfl) (rfx hr 66 5 68 (by decide)) ?_
  refine WQ_iconst (0) (0) dX4_become_59 rfl rfl (fun v2655 hv2655 => ?_)
  refine WP_aload_n dX4_become_60 rfl ?_
  refine WP_getr dX4_become_61 fX4_15 rfl (lyx_is hy 66 4 rfl) (rfx hr 66 5 68 (by decide)) ?_
  refine WP_alen dX4_become_64 (lyx_is hy 68 13 rfl) (by decide) ?_
  rw [(lyx_n hy 68 28 rfl)]
  obtain ⟨v2656, hv2656, ev2656⟩ : ∃ v : Int32, v.toInt = 28 ∧ nI 28 = v := ⟨_, nI_toInt (by decide), rfl⟩
  rw [ev2656]; clear ev2656
  refine WQ_copy0 (N := 28) dX4_become_65 lX4_46 ⟨by decide, Nat.le_of_ble_eq_true rfl⟩ (lyx_is hy 55 13 rfl) (lyx_is hy 68 13 rfl) hv2654 hv2655 hv2656 (lyx_n hy 55 28 rfl) (lyx_n hy 68 28 rfl) (fun I2657 fI2657 oI2657 => ?_)
  have hI2657 : XI g n L I2657 := xi_copy hy hI2651 55 68 28 (by decide) (by decide) fI2657 oI2657
  clear fI2657 oI2657
  have e2658 : I2657 (ad g 1) 1 = L := hI2657.2
  have b2659 := BT_get hI2657.1 1 1 2 (0) (0) (900) (by decide) 1 (by decide) (by decide)
  rw [e2658] at b2659
  exact WP_vret dX4_become_68 rfl ⟨⟨hI2657, rfl⟩, rfl⟩
set_option maxHeartbeats 4000000 in
set_option maxRecDepth 100000 in
theorem sx_round {g : GG} {n : Int} {L : Int32} (hy : LyX g)  {I : pI} {J : pJ} {R : pR} (hr : RfX g R) (hI : XI g n L I)   : SP g mX4_round [.ref (ad g 53)] I J R (fun r I' J' R' => (I' = I ∧ J' = J ∧ R' = R) ∧ ∃ v : Int32, r = some (.int v)) := by
  refine SP_of ⟨by decide, rfl⟩ (Nat.le_of_ble_eq_true rfl) ?_
  have e2660 : I (ad g 1) 1 = L := hI.2
  have b2661 := BT_get hI.1 1 1 2 (0) (0) (900) (by decide) 1 (by decide) (by decide)
  rw [e2660] at b2661
  refine WP_aload_n dX4_round_0 rfl ?_
  refine WQ_getl dX4_round_1 fX4_28 rfl (lyx_is hy 53 4 rfl) (fun l2662 el2662 => ?_)
  refine WP_lconst (0) dX4_round_4 rfl ?_
  obtain ⟨l2663, hl2663, el2663⟩ : ∃ v : Int64, v.toInt = 0 ∧ (0 : Int64) = v := ⟨_, rfl, rfl⟩
  rw [el2663]; clear el2663
  refine WQ_lcmp dX4_round_5 (fun v2664 av2664 bv2664 => ?_)
  refine WQ_if_ne 11 dX4_round_6 rfl (fun c2664 => ?_) (fun c2664 => ?_)
  · refine WP_ldc2 (2147483647) dX4_round_11 klX4_52 ?_
    obtain ⟨l2666, hl2666, el2666⟩ : ∃ v : Int64, v.toInt = (2147483647) ∧ ((2147483647) : Int64) = v := ⟨_, rfl, rfl⟩
    rw [el2666]; clear el2666
    refine WP_ldc2 (1000) dX4_round_14 klX4_54 ?_
    obtain ⟨l2667, hl2667, el2667⟩ : ∃ v : Int64, v.toInt = (1000) ∧ ((1000) : Int64) = v := ⟨_, rfl, rfl⟩
    rw [el2667]; clear el2667
    refine WP_aload_n dX4_round_17 rfl ?_
    refine WQ_iconst (2) (2) dX4_round_18 rfl rfl (fun v2668 hv2668 => ?_)
    refine WP_callV1 (k := 4) dX4_round_19 ⟨⟨⟨by decide, by decide⟩, zX4_sum⟩, lX4_56, by decide, rfl, vX4_sum.1, vX4_sum.2⟩ (lyx_is hy 53 4 rfl) (sx_sum_53 hy hr hI v2668 (by omega) (by omega)) (Nat.le_of_ble_eq_true rfl) ?_
    intro r Ia Ja Ra hq
    obtain ⟨⟨ea, eb, ec⟩, v2669, rfl⟩ := hq
    show WP _ _ _ _ (.int _ :: _) _ _ _ _
    rw [ea, eb, ec]
    clear ea eb ec Ia Ja Ra
    refine WQ_i2l dX4_round_22 (fun l2670 hl2670 => ?_)
    refine WQ_lmul dX4_round_23 (fun l2671 => ?_)
    refine WP_aload_n dX4_round_24 rfl ?_
    refine WP_getl dX4_round_25 fX4_28 rfl (lyx_is hy 53 4 rfl) ?_
    rw [el2662]
    refine WQ_ldiv dX4_round_28 (by omega) (fun l2672 => ?_)
    refine WQ_minl dX4_round_29 lX4_60 ⟨by decide, Nat.le_of_ble_eq_true rfl⟩ (fun l2673 => ?_)
    refine WQ_l2i dX4_round_32 (fun v2674 => ?_)
    exact WP_iret dX4_round_33 rfl ⟨⟨rfl, rfl, rfl⟩, _, rfl⟩
  · refine WQ_iconst (-1) (-1) dX4_round_9 rfl rfl (fun v2675 hv2675 => ?_)
    exact WP_iret dX4_round_10 rfl ⟨⟨rfl, rfl, rfl⟩, _, rfl⟩
