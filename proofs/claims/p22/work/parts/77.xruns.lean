set_option maxHeartbeats 4000000 in
set_option maxRecDepth 100000 in
theorem sx_sum_53 {g : GG} {n : Int} {L : Int32} (hy : LyX g)  {I : pI} {J : pJ} {R : pR} (hr : RfX g R) (hI : XI g n L I) (wh : Int32) (wh_lo : 0 ≤ wh.toInt) (wh_hi : wh.toInt ≤ 6) : SP g mX4_sum [.ref (ad g 53), .int wh] I J R (fun r I' J' R' => (I' = I ∧ J' = J ∧ R' = R) ∧ ∃ v : Int32, r = some (.int v)) := by
  refine SP_of ⟨by decide, rfl⟩ (Nat.le_of_ble_eq_true rfl) ?_
  have e2017 : I (ad g 1) 1 = L := hI.2
  have b2018 := BT_get hI.1 1 1 2 (0) (0) (900) (by decide) 1 (by decide) (by decide)
  rw [e2017] at b2018
  refine WQ_iconst (0) (0) dX4_sum_0 rfl rfl (fun v2019 hv2019 => ?_)
  refine WP_istore_n (ls' := [(0, _), (1, _), (2, _)]) dX4_sum_1 (by decide) rfl ?_
  refine WQ_iconst (0) (0) dX4_sum_2 rfl rfl (fun v2020 hv2020 => ?_)
  refine WP_istore_n (ls' := [(0, _), (1, _), (2, _), (3, _)]) dX4_sum_3 (by decide) rfl ?_
  have lp4_2022 : ∀ (mz : Nat) (i2021 : Int32) (i2022 : Int32), 0 ≤ i2022.toInt → i2022.toInt ≤ 4 → (5 - i2022.toInt).toNat < mz → WP g mX4_sum 4 [(0, .ref (ad g 53)), (1, .int wh), (2, .int i2021), (3, .int i2022)] [] I J R (fun r I' J' R' => (I' = I ∧ J' = J ∧ R' = R) ∧ ∃ v : Int32, r = some (.int v)) := by
    intro mz
    induction mz with
    | zero =>
      intro i2021 i2022 ai2022 bi2022 hmlp4_2022
      exact absurd hmlp4_2022 (Nat.not_lt_zero _)
    | succ mz ihlp4_2022 =>
      intro i2021 i2022 ai2022 bi2022 hmlp4_2022
      refine WP_iload_n dX4_sum_4 rfl ?_
      refine WQ_iconst (4) (4) dX4_sum_5 rfl rfl (fun v2024 hv2024 => ?_)
      refine WQ_icmp_ge 29 dX4_sum_6 rfl (fun c2024 => ?_) (fun c2024 => ?_)
      · refine WP_iload_n dX4_sum_29 rfl ?_
        exact WP_iret dX4_sum_30 rfl ⟨⟨rfl, rfl, rfl⟩, _, rfl⟩
      · refine WP_iload_n dX4_sum_9 rfl ?_
        refine WP_aload_n dX4_sum_10 rfl ?_
        refine WP_getr dX4_sum_11 fX4_15 rfl (lyx_is hy 53 4 rfl) (rfx hr 53 5 55 (by decide)) ?_
        refine WP_iload_n dX4_sum_14 rfl ?_
        refine WQ_bipush (7) (7) dX4_sum_15 rfl rfl (fun v2026 hv2026 => ?_)
        refine WQ_imulk (7) dX4_sum_17 hv2026 (by omega) (by omega) (fun v2027 hv2027 => ?_)
        refine WP_iload_n dX4_sum_18 rfl ?_
        refine WQ_iadd dX4_sum_19 (by omega) (by omega) (fun v2028 hv2028 => ?_)
        refine WQ_ialdu dX4_sum_20 (lyx_is hy 55 13 rfl) (lyx_n hy 55 28 rfl) (by omega) (by omega) (fun v2029 => ?_)
        refine WQ_iaddu dX4_sum_21 (fun v2030 => ?_)
        refine WP_istore_n (ls' := [(0, _), (1, _), (2, _), (3, _)]) dX4_sum_22 (by decide) rfl ?_
        refine WP_iinc (ls' := [(0, _), (1, _), (2, _), (3, _)]) dX4_sum_23 rfl (by decide) rfl ?_
        have hv2031 : (i2022 + Int32.ofInt (1)).toInt = i2022.toInt + (1) := ia_n rfl (by omega) (by omega)
        generalize i2022 + Int32.ofInt (1) = v2031 at hv2031 ⊢
        refine WP_goto 4 dX4_sum_26 rfl ?_
        exact WP_sub (fc rfl (fc rfl (fc rfl (fc rfl fn)))) (ihlp4_2022 v2030 v2031 (by omega) (by omega) (by omega))
  exact WP_sub (fc rfl (fc rfl (fc rfl (fc rfl fn)))) (lp4_2022 _ v2019 v2020 (by omega) (by omega) (Nat.lt_succ_self _))
set_option maxHeartbeats 4000000 in
set_option maxRecDepth 100000 in
theorem sx_begin_53_6 {g : GG} {n : Int} {L : Int32} (hy : LyX g)  {I : pI} {J : pJ} {R : pR} (hr : RfX g R) (hI : XI g n L I)   (hn : 0 ≤ n) : SP g mX4_begin [.ref (ad g 53), .ref (ad g 6)] I J R (fun r I' J' R' => (XI g n L I' ∧ R' = R ∧ fz 74 g [53, 55] I I' ∧ fz 74 g [53] J J') ∧ r = none) := by
  refine SP_of ⟨by decide, rfl⟩ (Nat.le_of_ble_eq_true rfl) ?_
  have e2032 : I (ad g 1) 1 = L := hI.2
  have b2033 := BT_get hI.1 1 1 2 (0) (0) (900) (by decide) 1 (by decide) (by decide)
  rw [e2032] at b2033
  have fr0 : fz 74 g [53, 55] I I := fz_rf
  have frj0 : fz 74 g [53] J J := fz_rf
  refine WP_aload_n dX4_begin_0 rfl ?_
  refine WQ_iconst (0) (0) dX4_begin_1 rfl rfl (fun v2034 hv2034 => ?_)
  refine WQ_puti dX4_begin_2 fX4_18 rfl rfl (lyx_is hy 53 4 rfl) (fun I2035 eI2035 => ?_)
  have hI2035 : XI g n L I2035 := by rw [eI2035]; exact (xi_f0 hy hI (c := 53) (by decide) (Or.inl (by decide)) (by decide))
  have e2036 : I2035 (ad g 1) 1 = L := by rw [eI2035, pp_ne _ _ (Or.inl (lyx_ne hy (by decide) (by decide) (by decide)))]; exact e2032
  have e2037 : I2035 (ad g 53) 0 = v2034 := by rw [eI2035, pp_self]
  have fr2038 : fz 74 g [53, 55] I I2035 := by rw [eI2035]; exact fzx_pp hy fr0 (by decide) (by decide)
  clear eI2035
  refine WP_aload_n dX4_begin_5 rfl ?_
  refine WQ_iconst (0) (0) dX4_begin_6 rfl rfl (fun v2039 hv2039 => ?_)
  refine WQ_puti dX4_begin_7 fX4_22 rfl rfl (lyx_is hy 53 4 rfl) (fun I2040 eI2040 => ?_)
  have hI2040 : XI g n L I2040 := by rw [eI2040]; exact (xi_f hy hI2035 (c := 53) (0) (23760) (0) (by decide) (Or.inl (by decide)) (by decide) (by omega) (by omega))
  have e2041 : I2040 (ad g 1) 1 = L := by rw [eI2040, pp_ne _ _ (Or.inl (lyx_ne hy (by decide) (by decide) (by decide)))]; exact e2036
  have e2042 : I2040 (ad g 53) 0 = v2034 := by rw [eI2040, pp_ne _ _ (Or.inr (by decide))]; exact e2037
  have e2043 : I2040 (ad g 53) 1 = v2039 := by rw [eI2040, pp_self]
  have fr2044 : fz 74 g [53, 55] I I2040 := by rw [eI2040]; exact fzx_pp hy fr2038 (by decide) (by decide)
  clear eI2040
  refine WP_aload_n dX4_begin_10 rfl ?_
  refine WQ_iconst (0) (0) dX4_begin_11 rfl rfl (fun v2045 hv2045 => ?_)
  refine WQ_puti dX4_begin_12 fX4_25 rfl rfl (lyx_is hy 53 4 rfl) (fun I2046 eI2046 => ?_)
  have hI2046 : XI g n L I2046 := by rw [eI2046]; exact (xi_f0 hy hI2040 (c := 53) (by decide) (Or.inl (by decide)) (by decide))
  have e2047 : I2046 (ad g 1) 1 = L := by rw [eI2046, pp_ne _ _ (Or.inl (lyx_ne hy (by decide) (by decide) (by decide)))]; exact e2041
  have e2048 : I2046 (ad g 53) 0 = v2034 := by rw [eI2046, pp_ne _ _ (Or.inr (by decide))]; exact e2042
  have e2049 : I2046 (ad g 53) 1 = v2039 := by rw [eI2046, pp_ne _ _ (Or.inr (by decide))]; exact e2043
  have e2050 : I2046 (ad g 53) 2 = v2045 := by rw [eI2046, pp_self]
  have fr2051 : fz 74 g [53, 55] I I2046 := by rw [eI2046]; exact fzx_pp hy fr2044 (by decide) (by decide)
  clear eI2046
  refine WP_aload_n dX4_begin_15 rfl ?_
  refine WP_lconst (0) dX4_begin_16 rfl ?_
  obtain ⟨l2052, hl2052, el2052⟩ : ∃ v : Int64, v.toInt = 0 ∧ (0 : Int64) = v := ⟨_, rfl, rfl⟩
  rw [el2052]; clear el2052
  refine WQ_putl dX4_begin_17 fX4_28 rfl rfl (lyx_is hy 53 4 rfl) (fun J2053 eJ2053 => ?_)
  have fr2054 : fz 74 g [53] J J2053 := by rw [eJ2053]; exact fzx_pp hy frj0 (by decide) (by decide)
  clear eJ2053
  refine WP_aload_n dX4_begin_20 rfl ?_
  refine WP_getr dX4_begin_21 fX4_15 rfl (lyx_is hy 53 4 rfl) (rfx hr 53 5 55 (by decide)) ?_
  refine WQ_iconst (0) (0) dX4_begin_24 rfl rfl (fun v2055 hv2055 => ?_)
  refine WP_callS2u dX4_begin_25 ⟨⟨⟨by decide, by decide⟩, zJ7_fill_53178⟩, lX4_32, tJ7_fill_53178⟩ (s_fill hy hr 55 28 rfl rfl (by decide) v2055) (Nat.le_of_ble_eq_true rfl) ?_
  obtain ⟨I2056, eI2056⟩ : ∃ I9 : pI, I9 = fi I2046 (ad g 55) 28 v2055 := ⟨_, rfl⟩
  rw [← eI2056]
  have hI2056 : XI g n L I2056 := by rw [eI2056]; exact (fa_fill hy hI2046 (c := 55) 28 (by decide) hv2055)
  have e2057 : I2056 (ad g 1) 1 = L := by rw [eI2056, fi_off (lyx_ne hy (by decide) (by decide) (by decide))]; exact e2047
  have e2058 : I2056 (ad g 53) 0 = v2034 := by rw [eI2056, fi_off (lyx_ne hy (by decide) (by decide) (by decide))]; exact e2048
  have e2059 : I2056 (ad g 53) 1 = v2039 := by rw [eI2056, fi_off (lyx_ne hy (by decide) (by decide) (by decide))]; exact e2049
  have e2060 : I2056 (ad g 53) 2 = v2045 := by rw [eI2056, fi_off (lyx_ne hy (by decide) (by decide) (by decide))]; exact e2050
  have fr2061 : fz 74 g [53, 55] I I2056 := by rw [eI2056]; exact fzx_fi hy fr2051 (by decide) (by decide)
  clear eI2056
  refine WQ_iconst (0) (0) dX4_begin_28 rfl rfl (fun v2062 hv2062 => ?_)
  refine WP_istore_n (ls' := [(0, _), (1, _), (2, _)]) dX4_begin_29 (by decide) rfl ?_
  have lp30_2065 : ∀ (mz : Nat) (i2063 : Int32) (I2064 : pI) (J2065 : pJ), XI g n L I2064 → fz 74 g [53, 55] I I2064 → fz 74 g [53] J J2065 → 0 ≤ i2063.toInt → i2063.toInt ≤ 4 → (5 - i2063.toInt).toNat < mz → WP g mX4_begin 30 [(0, .ref (ad g 53)), (1, .ref (ad g 6)), (2, .int i2063)] [] I2064 J2065 R (fun r I' J' R' => (XI g n L I' ∧ R' = R ∧ fz 74 g [53, 55] I I' ∧ fz 74 g [53] J J') ∧ r = none) := by
    intro mz
    induction mz with
    | zero =>
      intro i2063 I2064 J2065 hI2064 fiI2064 fjJ2065 ai2063 bi2063 hmlp30_2065
      exact absurd hmlp30_2065 (Nat.not_lt_zero _)
    | succ mz ihlp30_2065 =>
      intro i2063 I2064 J2065 hI2064 fiI2064 fjJ2065 ai2063 bi2063 hmlp30_2065
      have e2067 : I2064 (ad g 1) 1 = L := hI2064.2
      have b2068 := BT_get hI2064.1 1 1 2 (0) (0) (900) (by decide) 1 (by decide) (by decide)
      rw [e2067] at b2068
      refine WP_iload_n dX4_begin_30 rfl ?_
      refine WP_aload_n dX4_begin_31 rfl ?_
      refine WQ_geti dX4_begin_32 fX4_38 rfl (lyx_is hy 6 7 rfl) (BT_get hI2064.1 6 1 2 (0) (0) (4) (by decide) 1 (by decide) (by decide)) (fun v2069 ev2069 av2069 bv2069 => ?_)
      refine WQ_icmp_ge 61 dX4_begin_35 rfl (fun c2069 => ?_) (fun c2069 => ?_)
      · exact WP_vret dX4_begin_61 rfl ⟨⟨hI2064, rfl, fiI2064, fjJ2065⟩, rfl⟩
      · refine WP_aload_n dX4_begin_38 rfl ?_
        refine WP_getr dX4_begin_39 fX4_15 rfl (lyx_is hy 53 4 rfl) (rfx hr 53 5 55 (by decide)) ?_
        refine WP_iload_n dX4_begin_42 rfl ?_
        refine WQ_bipush (7) (7) dX4_begin_43 rfl rfl (fun v2071 hv2071 => ?_)
        refine WQ_imulk (7) dX4_begin_45 hv2071 (by omega) (by omega) (fun v2072 hv2072 => ?_)
        refine WQ_iconst (0) (0) dX4_begin_46 rfl rfl (fun v2073 hv2073 => ?_)
        refine WQ_iadd dX4_begin_47 (by omega) (by omega) (fun v2074 hv2074 => ?_)
        refine WP_aload_n dX4_begin_48 rfl ?_
        refine WP_getr dX4_begin_49 fX4_43 rfl (lyx_is hy 6 7 rfl) (rfx hr 6 8 10 (by decide)) ?_
        refine WP_iload_n dX4_begin_52 rfl ?_
        refine WQ_iald dX4_begin_53 (lyx_is hy 10 13 rfl) (lyx_n hy 10 4 rfl) (by omega) (by omega) (fun q hq => BT_get hI2064.1 10 0 4 (0) (0) (60) (by decide) q (Nat.zero_le _) hq) (fun v2075 av2075 bv2075 ev2075 => ?_)
        clear ev2075
        refine WQ_iast dX4_begin_54 (lyx_is hy 55 13 rfl) (lyx_n hy 55 28 rfl) (by omega) (by omega) (fun I2076 eI2076 => ?_)
        have hI2076 : XI g n L I2076 := by rw [eI2076]; exact (fa_put hy hI2064 (c := 55) (k := 0) (s := i2063.toInt.toNat) (by decide) (by omega) (by decide) (by rw [cl (n := 7 * i2063.toInt.toNat + 0) (by omega)]) (fun _ => by omega) (fun _ => by omega))
        have e2077 : I2076 (ad g 1) 1 = L := by rw [eI2076, pp_ne _ _ (Or.inl (lyx_ne hy (by decide) (by decide) (by decide)))]; exact e2067
        have e2078 : I2076 (ad g 6) 1 = v2069 := by rw [eI2076, pp_ne _ _ (Or.inl (lyx_ne hy (by decide) (by decide) (by decide)))]; exact ev2069
        have fr2079 : fz 74 g [53, 55] I I2076 := by rw [eI2076]; exact fzx_pp hy fiI2064 (by decide) (by decide)
        clear eI2076
        refine WP_iinc (ls' := [(0, _), (1, _), (2, _)]) dX4_begin_55 rfl (by decide) rfl ?_
        have hv2080 : (i2063 + Int32.ofInt (1)).toInt = i2063.toInt + (1) := ia_n rfl (by omega) (by omega)
        generalize i2063 + Int32.ofInt (1) = v2080 at hv2080 ⊢
        refine WP_goto 30 dX4_begin_58 rfl ?_
        exact WP_sub (fc rfl (fc rfl (fc rfl fn))) (ihlp30_2065 v2080 I2076 J2065 hI2076 fr2079 fjJ2065 (by omega) (by omega) (by omega))
  exact WP_sub (fc rfl (fc rfl (fc rfl fn))) (lp30_2065 _ v2062 I2056 J2053 hI2056 fr2061 fr2054 (by omega) (by omega) (Nat.lt_succ_self _))
set_option maxHeartbeats 4000000 in
set_option maxRecDepth 100000 in
theorem sx_begin_53_27 {g : GG} {n : Int} {L : Int32} (hy : LyX g)  {I : pI} {J : pJ} {R : pR} (hr : RfX g R) (hI : XI g n L I)   (hn : 0 ≤ n) : SP g mX4_begin [.ref (ad g 53), .ref (ad g 27)] I J R (fun r I' J' R' => (XI g n L I' ∧ R' = R ∧ fz 74 g [53, 55] I I' ∧ fz 74 g [53] J J') ∧ r = none) := by
  refine SP_of ⟨by decide, rfl⟩ (Nat.le_of_ble_eq_true rfl) ?_
  have e2081 : I (ad g 1) 1 = L := hI.2
  have b2082 := BT_get hI.1 1 1 2 (0) (0) (900) (by decide) 1 (by decide) (by decide)
  rw [e2081] at b2082
  have fr0 : fz 74 g [53, 55] I I := fz_rf
  have frj0 : fz 74 g [53] J J := fz_rf
  refine WP_aload_n dX4_begin_0 rfl ?_
  refine WQ_iconst (0) (0) dX4_begin_1 rfl rfl (fun v2083 hv2083 => ?_)
  refine WQ_puti dX4_begin_2 fX4_18 rfl rfl (lyx_is hy 53 4 rfl) (fun I2084 eI2084 => ?_)
  have hI2084 : XI g n L I2084 := by rw [eI2084]; exact (xi_f0 hy hI (c := 53) (by decide) (Or.inl (by decide)) (by decide))
  have e2085 : I2084 (ad g 1) 1 = L := by rw [eI2084, pp_ne _ _ (Or.inl (lyx_ne hy (by decide) (by decide) (by decide)))]; exact e2081
  have e2086 : I2084 (ad g 53) 0 = v2083 := by rw [eI2084, pp_self]
  have fr2087 : fz 74 g [53, 55] I I2084 := by rw [eI2084]; exact fzx_pp hy fr0 (by decide) (by decide)
  clear eI2084
  refine WP_aload_n dX4_begin_5 rfl ?_
  refine WQ_iconst (0) (0) dX4_begin_6 rfl rfl (fun v2088 hv2088 => ?_)
  refine WQ_puti dX4_begin_7 fX4_22 rfl rfl (lyx_is hy 53 4 rfl) (fun I2089 eI2089 => ?_)
  have hI2089 : XI g n L I2089 := by rw [eI2089]; exact (xi_f hy hI2084 (c := 53) (0) (23760) (0) (by decide) (Or.inl (by decide)) (by decide) (by omega) (by omega))
  have e2090 : I2089 (ad g 1) 1 = L := by rw [eI2089, pp_ne _ _ (Or.inl (lyx_ne hy (by decide) (by decide) (by decide)))]; exact e2085
  have e2091 : I2089 (ad g 53) 0 = v2083 := by rw [eI2089, pp_ne _ _ (Or.inr (by decide))]; exact e2086
  have e2092 : I2089 (ad g 53) 1 = v2088 := by rw [eI2089, pp_self]
  have fr2093 : fz 74 g [53, 55] I I2089 := by rw [eI2089]; exact fzx_pp hy fr2087 (by decide) (by decide)
  clear eI2089
  refine WP_aload_n dX4_begin_10 rfl ?_
  refine WQ_iconst (0) (0) dX4_begin_11 rfl rfl (fun v2094 hv2094 => ?_)
  refine WQ_puti dX4_begin_12 fX4_25 rfl rfl (lyx_is hy 53 4 rfl) (fun I2095 eI2095 => ?_)
  have hI2095 : XI g n L I2095 := by rw [eI2095]; exact (xi_f0 hy hI2089 (c := 53) (by decide) (Or.inl (by decide)) (by decide))
  have e2096 : I2095 (ad g 1) 1 = L := by rw [eI2095, pp_ne _ _ (Or.inl (lyx_ne hy (by decide) (by decide) (by decide)))]; exact e2090
  have e2097 : I2095 (ad g 53) 0 = v2083 := by rw [eI2095, pp_ne _ _ (Or.inr (by decide))]; exact e2091
  have e2098 : I2095 (ad g 53) 1 = v2088 := by rw [eI2095, pp_ne _ _ (Or.inr (by decide))]; exact e2092
  have e2099 : I2095 (ad g 53) 2 = v2094 := by rw [eI2095, pp_self]
  have fr2100 : fz 74 g [53, 55] I I2095 := by rw [eI2095]; exact fzx_pp hy fr2093 (by decide) (by decide)
  clear eI2095
  refine WP_aload_n dX4_begin_15 rfl ?_
  refine WP_lconst (0) dX4_begin_16 rfl ?_
  obtain ⟨l2101, hl2101, el2101⟩ : ∃ v : Int64, v.toInt = 0 ∧ (0 : Int64) = v := ⟨_, rfl, rfl⟩
  rw [el2101]; clear el2101
  refine WQ_putl dX4_begin_17 fX4_28 rfl rfl (lyx_is hy 53 4 rfl) (fun J2102 eJ2102 => ?_)
  have fr2103 : fz 74 g [53] J J2102 := by rw [eJ2102]; exact fzx_pp hy frj0 (by decide) (by decide)
  clear eJ2102
  refine WP_aload_n dX4_begin_20 rfl ?_
  refine WP_getr dX4_begin_21 fX4_15 rfl (lyx_is hy 53 4 rfl) (rfx hr 53 5 55 (by decide)) ?_
  refine WQ_iconst (0) (0) dX4_begin_24 rfl rfl (fun v2104 hv2104 => ?_)
  refine WP_callS2u dX4_begin_25 ⟨⟨⟨by decide, by decide⟩, zJ7_fill_53178⟩, lX4_32, tJ7_fill_53178⟩ (s_fill hy hr 55 28 rfl rfl (by decide) v2104) (Nat.le_of_ble_eq_true rfl) ?_
  obtain ⟨I2105, eI2105⟩ : ∃ I9 : pI, I9 = fi I2095 (ad g 55) 28 v2104 := ⟨_, rfl⟩
  rw [← eI2105]
  have hI2105 : XI g n L I2105 := by rw [eI2105]; exact (fa_fill hy hI2095 (c := 55) 28 (by decide) hv2104)
  have e2106 : I2105 (ad g 1) 1 = L := by rw [eI2105, fi_off (lyx_ne hy (by decide) (by decide) (by decide))]; exact e2096
  have e2107 : I2105 (ad g 53) 0 = v2083 := by rw [eI2105, fi_off (lyx_ne hy (by decide) (by decide) (by decide))]; exact e2097
  have e2108 : I2105 (ad g 53) 1 = v2088 := by rw [eI2105, fi_off (lyx_ne hy (by decide) (by decide) (by decide))]; exact e2098
  have e2109 : I2105 (ad g 53) 2 = v2094 := by rw [eI2105, fi_off (lyx_ne hy (by decide) (by decide) (by decide))]; exact e2099
  have fr2110 : fz 74 g [53, 55] I I2105 := by rw [eI2105]; exact fzx_fi hy fr2100 (by decide) (by decide)
  clear eI2105
  refine WQ_iconst (0) (0) dX4_begin_28 rfl rfl (fun v2111 hv2111 => ?_)
  refine WP_istore_n (ls' := [(0, _), (1, _), (2, _)]) dX4_begin_29 (by decide) rfl ?_
  have lp30_2114 : ∀ (mz : Nat) (i2112 : Int32) (I2113 : pI) (J2114 : pJ), XI g n L I2113 → fz 74 g [53, 55] I I2113 → fz 74 g [53] J J2114 → 0 ≤ i2112.toInt → i2112.toInt ≤ 4 → (5 - i2112.toInt).toNat < mz → WP g mX4_begin 30 [(0, .ref (ad g 53)), (1, .ref (ad g 27)), (2, .int i2112)] [] I2113 J2114 R (fun r I' J' R' => (XI g n L I' ∧ R' = R ∧ fz 74 g [53, 55] I I' ∧ fz 74 g [53] J J') ∧ r = none) := by
    intro mz
    induction mz with
    | zero =>
      intro i2112 I2113 J2114 hI2113 fiI2113 fjJ2114 ai2112 bi2112 hmlp30_2114
      exact absurd hmlp30_2114 (Nat.not_lt_zero _)
    | succ mz ihlp30_2114 =>
      intro i2112 I2113 J2114 hI2113 fiI2113 fjJ2114 ai2112 bi2112 hmlp30_2114
      have e2116 : I2113 (ad g 1) 1 = L := hI2113.2
      have b2117 := BT_get hI2113.1 1 1 2 (0) (0) (900) (by decide) 1 (by decide) (by decide)
      rw [e2116] at b2117
      refine WP_iload_n dX4_begin_30 rfl ?_
      refine WP_aload_n dX4_begin_31 rfl ?_
      refine WQ_geti dX4_begin_32 fX4_38 rfl (lyx_is hy 27 7 rfl) (BT_get hI2113.1 27 1 2 (0) (0) (4) (by decide) 1 (by decide) (by decide)) (fun v2118 ev2118 av2118 bv2118 => ?_)
      refine WQ_icmp_ge 61 dX4_begin_35 rfl (fun c2118 => ?_) (fun c2118 => ?_)
      · exact WP_vret dX4_begin_61 rfl ⟨⟨hI2113, rfl, fiI2113, fjJ2114⟩, rfl⟩
      · refine WP_aload_n dX4_begin_38 rfl ?_
        refine WP_getr dX4_begin_39 fX4_15 rfl (lyx_is hy 53 4 rfl) (rfx hr 53 5 55 (by decide)) ?_
        refine WP_iload_n dX4_begin_42 rfl ?_
        refine WQ_bipush (7) (7) dX4_begin_43 rfl rfl (fun v2120 hv2120 => ?_)
        refine WQ_imulk (7) dX4_begin_45 hv2120 (by omega) (by omega) (fun v2121 hv2121 => ?_)
        refine WQ_iconst (0) (0) dX4_begin_46 rfl rfl (fun v2122 hv2122 => ?_)
        refine WQ_iadd dX4_begin_47 (by omega) (by omega) (fun v2123 hv2123 => ?_)
        refine WP_aload_n dX4_begin_48 rfl ?_
        refine WP_getr dX4_begin_49 fX4_43 rfl (lyx_is hy 27 7 rfl) (rfx hr 27 8 31 (by decide)) ?_
        refine WP_iload_n dX4_begin_52 rfl ?_
        refine WQ_iald dX4_begin_53 (lyx_is hy 31 13 rfl) (lyx_n hy 31 4 rfl) (by omega) (by omega) (fun q hq => BT_get hI2113.1 31 0 4 (0) (0) (60) (by decide) q (Nat.zero_le _) hq) (fun v2124 av2124 bv2124 ev2124 => ?_)
        clear ev2124
        refine WQ_iast dX4_begin_54 (lyx_is hy 55 13 rfl) (lyx_n hy 55 28 rfl) (by omega) (by omega) (fun I2125 eI2125 => ?_)
        have hI2125 : XI g n L I2125 := by rw [eI2125]; exact (fa_put hy hI2113 (c := 55) (k := 0) (s := i2112.toInt.toNat) (by decide) (by omega) (by decide) (by rw [cl (n := 7 * i2112.toInt.toNat + 0) (by omega)]) (fun _ => by omega) (fun _ => by omega))
        have e2126 : I2125 (ad g 1) 1 = L := by rw [eI2125, pp_ne _ _ (Or.inl (lyx_ne hy (by decide) (by decide) (by decide)))]; exact e2116
        have e2127 : I2125 (ad g 27) 1 = v2118 := by rw [eI2125, pp_ne _ _ (Or.inl (lyx_ne hy (by decide) (by decide) (by decide)))]; exact ev2118
        have fr2128 : fz 74 g [53, 55] I I2125 := by rw [eI2125]; exact fzx_pp hy fiI2113 (by decide) (by decide)
        clear eI2125
        refine WP_iinc (ls' := [(0, _), (1, _), (2, _)]) dX4_begin_55 rfl (by decide) rfl ?_
        have hv2129 : (i2112 + Int32.ofInt (1)).toInt = i2112.toInt + (1) := ia_n rfl (by omega) (by omega)
        generalize i2112 + Int32.ofInt (1) = v2129 at hv2129 ⊢
        refine WP_goto 30 dX4_begin_58 rfl ?_
        exact WP_sub (fc rfl (fc rfl (fc rfl fn))) (ihlp30_2114 v2129 I2125 J2114 hI2125 fr2128 fjJ2114 (by omega) (by omega) (by omega))
  exact WP_sub (fc rfl (fc rfl (fc rfl fn))) (lp30_2114 _ v2111 I2105 J2102 hI2105 fr2110 fr2103 (by omega) (by omega) (Nat.lt_succ_self _))
set_option maxHeartbeats 4000000 in
set_option maxRecDepth 100000 in
theorem sx_become_53_60 {g : GG} {n : Int} {L : Int32} (hy : LyX g)  {I : pI} {J : pJ} {R : pR} (hr : RfX g R) (hI : XI g n L I)   : SP g mX4_become [.ref (ad g 53), .ref (ad g 60)] I J R (fun r I' J' R' => (XI g n L I' ∧ R' = R ∧ fz 74 g [53, 54, 55] I I' ∧ fz 74 g [53] J J') ∧ r = none) := by
  refine SP_of ⟨by decide, rfl⟩ (Nat.le_of_ble_eq_true rfl) ?_
  have e2130 : I (ad g 1) 1 = L := hI.2
  have b2131 := BT_get hI.1 1 1 2 (0) (0) (900) (by decide) 1 (by decide) (by decide)
  rw [e2130] at b2131
  have fr0 : fz 74 g [53, 54, 55] I I := fz_rf
  have frj0 : fz 74 g [53] J J := fz_rf
  refine WP_aload_n dX4_become_0 rfl ?_
  refine WP_aload_n dX4_become_1 rfl ?_
  refine WQ_getiu dX4_become_2 fX4_18 rfl (lyx_is hy 60 4 rfl) (fun v2132 ev2132 => ?_)
  refine WQ_puti dX4_become_5 fX4_18 rfl rfl (lyx_is hy 53 4 rfl) (fun I2133 eI2133 => ?_)
  have hI2133 : XI g n L I2133 := by rw [eI2133]; exact (xi_f0 hy hI (c := 53) (by decide) (Or.inl (by decide)) (by decide))
  have e2134 : I2133 (ad g 1) 1 = L := by rw [eI2133, pp_ne _ _ (Or.inl (lyx_ne hy (by decide) (by decide) (by decide)))]; exact e2130
  have e2135 : I2133 (ad g 60) 0 = v2132 := by rw [eI2133, pp_ne _ _ (Or.inl (lyx_ne hy (by decide) (by decide) (by decide)))]; exact ev2132
  have e2136 : I2133 (ad g 53) 0 = v2132 := by rw [eI2133, pp_self]
  have fr2137 : fz 74 g [53, 54, 55] I I2133 := by rw [eI2133]; exact fzx_pp hy fr0 (by decide) (by decide)
  clear eI2133
  refine WP_aload_n dX4_become_8 rfl ?_
  refine WP_aload_n dX4_become_9 rfl ?_
  refine WQ_geti dX4_become_10 fX4_22 rfl (lyx_is hy 60 4 rfl) (BT_get hI2133.1 60 1 2 (0) (23760) (0) (by decide) 1 (by decide) (by decide)) (fun v2138 ev2138 av2138 bv2138 => ?_)
  refine WQ_puti dX4_become_13 fX4_22 rfl rfl (lyx_is hy 53 4 rfl) (fun I2139 eI2139 => ?_)
  have hI2139 : XI g n L I2139 := by rw [eI2139]; exact (xi_f hy hI2133 (c := 53) (0) (23760) (0) (by decide) (Or.inl (by decide)) (by decide) (by omega) (by omega))
  have e2140 : I2139 (ad g 1) 1 = L := by rw [eI2139, pp_ne _ _ (Or.inl (lyx_ne hy (by decide) (by decide) (by decide)))]; exact e2134
  have e2141 : I2139 (ad g 60) 0 = v2132 := by rw [eI2139, pp_ne _ _ (Or.inl (lyx_ne hy (by decide) (by decide) (by decide)))]; exact e2135
  have e2142 : I2139 (ad g 53) 0 = v2132 := by rw [eI2139, pp_ne _ _ (Or.inr (by decide))]; exact e2136
  have e2143 : I2139 (ad g 60) 1 = v2138 := by rw [eI2139, pp_ne _ _ (Or.inl (lyx_ne hy (by decide) (by decide) (by decide)))]; exact ev2138
  have e2144 : I2139 (ad g 53) 1 = v2138 := by rw [eI2139, pp_self]
  have fr2145 : fz 74 g [53, 54, 55] I I2139 := by rw [eI2139]; exact fzx_pp hy fr2137 (by decide) (by decide)
  clear eI2139
  refine WP_aload_n dX4_become_16 rfl ?_
  refine WP_aload_n dX4_become_17 rfl ?_
  refine WQ_getiu dX4_become_18 fX4_25 rfl (lyx_is hy 60 4 rfl) (fun v2146 ev2146 => ?_)
  refine WQ_puti dX4_become_21 fX4_25 rfl rfl (lyx_is hy 53 4 rfl) (fun I2147 eI2147 => ?_)
  have hI2147 : XI g n L I2147 := by rw [eI2147]; exact (xi_f0 hy hI2139 (c := 53) (by decide) (Or.inl (by decide)) (by decide))
  have e2148 : I2147 (ad g 1) 1 = L := by rw [eI2147, pp_ne _ _ (Or.inl (lyx_ne hy (by decide) (by decide) (by decide)))]; exact e2140
  have e2149 : I2147 (ad g 60) 0 = v2132 := by rw [eI2147, pp_ne _ _ (Or.inl (lyx_ne hy (by decide) (by decide) (by decide)))]; exact e2141
  have e2150 : I2147 (ad g 53) 0 = v2132 := by rw [eI2147, pp_ne _ _ (Or.inr (by decide))]; exact e2142
  have e2151 : I2147 (ad g 60) 1 = v2138 := by rw [eI2147, pp_ne _ _ (Or.inl (lyx_ne hy (by decide) (by decide) (by decide)))]; exact e2143
  have e2152 : I2147 (ad g 53) 1 = v2138 := by rw [eI2147, pp_ne _ _ (Or.inr (by decide))]; exact e2144
  have e2153 : I2147 (ad g 60) 2 = v2146 := by rw [eI2147, pp_ne _ _ (Or.inl (lyx_ne hy (by decide) (by decide) (by decide)))]; exact ev2146
  have e2154 : I2147 (ad g 53) 2 = v2146 := by rw [eI2147, pp_self]
  have fr2155 : fz 74 g [53, 54, 55] I I2147 := by rw [eI2147]; exact fzx_pp hy fr2145 (by decide) (by decide)
  clear eI2147
  refine WP_aload_n dX4_become_24 rfl ?_
  refine WP_aload_n dX4_become_25 rfl ?_
  refine WQ_getl dX4_become_26 fX4_28 rfl (lyx_is hy 60 4 rfl) (fun l2156 el2156 => ?_)
  refine WQ_putl dX4_become_29 fX4_28 rfl rfl (lyx_is hy 53 4 rfl) (fun J2157 eJ2157 => ?_)
  have fr2158 : fz 74 g [53] J J2157 := by rw [eJ2157]; exact fzx_pp hy frj0 (by decide) (by decide)
  clear eJ2157
  refine WP_aload_n dX4_become_32 rfl ?_
  refine WP_getr dX4_become_33 fX4_9 rfl (lyx_is hy 60 4 rfl) (rfx hr 60 4 61 (by decide)) ?_
  refine WQ_iconst (0) (0) dX4_become_36 rfl rfl (fun v2159 hv2159 => ?_)
  refine WP_aload_n dX4_become_37 rfl ?_
  refine WP_getr dX4_become_38 fX4_9 rfl (lyx_is hy 53 4 rfl) (rfx hr 53 4 54 (by decide)) ?_
  refine WQ_iconst (0) (0) dX4_become_41 rfl rfl (fun v2160 hv2160 => ?_)
  refine WP_aload_n dX4_become_42 rfl ?_
  refine WP_getr dX4_become_43 fX4_9 rfl (lyx_is hy 53 4 rfl) (rfx hr 53 4 54 (by decide)) ?_
  refine WP_alen dX4_become_46 (lyx_is hy 54 13 rfl) (by decide) ?_
  rw [(lyx_n hy 54 4 rfl)]
  obtain ⟨v2161, hv2161, ev2161⟩ : ∃ v : Int32, v.toInt = 4 ∧ nI 4 = v := ⟨_, nI_toInt (by decide), rfl⟩
  rw [ev2161]; clear ev2161
  refine WQ_copy0 (N := 4) dX4_become_47 lX4_46 ⟨by decide, Nat.le_of_ble_eq_true rfl⟩ (lyx_is hy 61 13 rfl) (lyx_is hy 54 13 rfl) hv2159 hv2160 hv2161 (lyx_n hy 61 4 rfl) (lyx_n hy 54 4 rfl) (fun I2162 fI2162 oI2162 => ?_)
  have hI2162 : XI g n L I2162 := xi_copy hy hI2147 61 54 4 (by decide) (by decide) fI2162 oI2162
  have fr2163 : fz 74 g [53, 54, 55] I I2162 := fzx_cp hy fr2155 oI2162 (by decide) (by decide)
  clear fI2162 oI2162
  have e2164 : I2162 (ad g 1) 1 = L := hI2162.2
  have b2165 := BT_get hI2162.1 1 1 2 (0) (0) (900) (by decide) 1 (by decide) (by decide)
  rw [e2164] at b2165
  refine WP_aload_n dX4_become_50 rfl ?_
  refine WP_getr dX4_become_51 fX4_15 rfl (lyx_is hy 60 4 rfl) (rfx hr 60 5 62 (by decide)) ?_
  refine WQ_iconst (0) (0) dX4_become_54 rfl rfl (fun v2166 hv2166 => ?_)
  refine WP_aload_n dX4_become_55 rfl ?_
  refine WP_getr dX4_become_56 fX4_15 rfl (lyx_is hy 53 4 rfl) (rfx hr 53 5 55 (by decide)) ?_
  refine WQ_iconst (0) (0) dX4_become_59 rfl rfl (fun v2167 hv2167 => ?_)
  refine WP_aload_n dX4_become_60 rfl ?_
  refine WP_getr dX4_become_61 fX4_15 rfl (lyx_is hy 53 4 rfl) (rfx hr 53 5 55 (by decide)) ?_
  refine WP_alen dX4_become_64 (lyx_is hy 55 13 rfl) (by decide) ?_
  rw [(lyx_n hy 55 28 rfl)]
  obtain ⟨v2168, hv2168, ev2168⟩ : ∃ v : Int32, v.toInt = 28 ∧ nI 28 = v := ⟨_, nI_toInt (by decide), rfl⟩
  rw [ev2168]; clear ev2168
  refine WQ_copy0 (N := 28) dX4_become_65 lX4_46 ⟨by decide, Nat.le_of_ble_eq_true rfl⟩ (lyx_is hy 62 13 rfl) (lyx_is hy 55 13 rfl) hv2166 hv2167 hv2168 (lyx_n hy 62 28 rfl) (lyx_n hy 55 28 rfl) (fun I2169 fI2169 oI2169 => ?_)
  have hI2169 : XI g n L I2169 := xi_copy hy hI2162 62 55 28 (by decide) (by decide) fI2169 oI2169
  have fr2170 : fz 74 g [53, 54, 55] I I2169 := fzx_cp hy fr2163 oI2169 (by decide) (by decide)
  clear fI2169 oI2169
  have e2171 : I2169 (ad g 1) 1 = L := hI2169.2
  have b2172 := BT_get hI2169.1 1 1 2 (0) (0) (900) (by decide) 1 (by decide) (by decide)
  rw [e2171] at b2172
  exact WP_vret dX4_become_68 rfl ⟨⟨hI2169, rfl, fr2170, fr2158⟩, rfl⟩
set_option maxHeartbeats 4000000 in
set_option maxRecDepth 100000 in
theorem sx_become_53_63 {g : GG} {n : Int} {L : Int32} (hy : LyX g)  {I : pI} {J : pJ} {R : pR} (hr : RfX g R) (hI : XI g n L I)   : SP g mX4_become [.ref (ad g 53), .ref (ad g 63)] I J R (fun r I' J' R' => (XI g n L I' ∧ R' = R ∧ fz 74 g [53, 54, 55] I I' ∧ fz 74 g [53] J J') ∧ r = none) := by
  refine SP_of ⟨by decide, rfl⟩ (Nat.le_of_ble_eq_true rfl) ?_
  have e2173 : I (ad g 1) 1 = L := hI.2
  have b2174 := BT_get hI.1 1 1 2 (0) (0) (900) (by decide) 1 (by decide) (by decide)
  rw [e2173] at b2174
  have fr0 : fz 74 g [53, 54, 55] I I := fz_rf
  have frj0 : fz 74 g [53] J J := fz_rf
  refine WP_aload_n dX4_become_0 rfl ?_
  refine WP_aload_n dX4_become_1 rfl ?_
  refine WQ_getiu dX4_become_2 fX4_18 rfl (lyx_is hy 63 4 rfl) (fun v2175 ev2175 => ?_)
  refine WQ_puti dX4_become_5 fX4_18 rfl rfl (lyx_is hy 53 4 rfl) (fun I2176 eI2176 => ?_)
  have hI2176 : XI g n L I2176 := by rw [eI2176]; exact (xi_f0 hy hI (c := 53) (by decide) (Or.inl (by decide)) (by decide))
  have e2177 : I2176 (ad g 1) 1 = L := by rw [eI2176, pp_ne _ _ (Or.inl (lyx_ne hy (by decide) (by decide) (by decide)))]; exact e2173
  have e2178 : I2176 (ad g 63) 0 = v2175 := by rw [eI2176, pp_ne _ _ (Or.inl (lyx_ne hy (by decide) (by decide) (by decide)))]; exact ev2175
  have e2179 : I2176 (ad g 53) 0 = v2175 := by rw [eI2176, pp_self]
  have fr2180 : fz 74 g [53, 54, 55] I I2176 := by rw [eI2176]; exact fzx_pp hy fr0 (by decide) (by decide)
  clear eI2176
  refine WP_aload_n dX4_become_8 rfl ?_
  refine WP_aload_n dX4_become_9 rfl ?_
  refine WQ_geti dX4_become_10 fX4_22 rfl (lyx_is hy 63 4 rfl) (BT_get hI2176.1 63 1 2 (0) (23760) (0) (by decide) 1 (by decide) (by decide)) (fun v2181 ev2181 av2181 bv2181 => ?_)
  refine WQ_puti dX4_become_13 fX4_22 rfl rfl (lyx_is hy 53 4 rfl) (fun I2182 eI2182 => ?_)
  have hI2182 : XI g n L I2182 := by rw [eI2182]; exact (xi_f hy hI2176 (c := 53) (0) (23760) (0) (by decide) (Or.inl (by decide)) (by decide) (by omega) (by omega))
  have e2183 : I2182 (ad g 1) 1 = L := by rw [eI2182, pp_ne _ _ (Or.inl (lyx_ne hy (by decide) (by decide) (by decide)))]; exact e2177
  have e2184 : I2182 (ad g 63) 0 = v2175 := by rw [eI2182, pp_ne _ _ (Or.inl (lyx_ne hy (by decide) (by decide) (by decide)))]; exact e2178
  have e2185 : I2182 (ad g 53) 0 = v2175 := by rw [eI2182, pp_ne _ _ (Or.inr (by decide))]; exact e2179
  have e2186 : I2182 (ad g 63) 1 = v2181 := by rw [eI2182, pp_ne _ _ (Or.inl (lyx_ne hy (by decide) (by decide) (by decide)))]; exact ev2181
  have e2187 : I2182 (ad g 53) 1 = v2181 := by rw [eI2182, pp_self]
  have fr2188 : fz 74 g [53, 54, 55] I I2182 := by rw [eI2182]; exact fzx_pp hy fr2180 (by decide) (by decide)
  clear eI2182
  refine WP_aload_n dX4_become_16 rfl ?_
  refine WP_aload_n dX4_become_17 rfl ?_
  refine WQ_getiu dX4_become_18 fX4_25 rfl (lyx_is hy 63 4 rfl) (fun v2189 ev2189 => ?_)
  refine WQ_puti dX4_become_21 fX4_25 rfl rfl (lyx_is hy 53 4 rfl) (fun I2190 eI2190 => ?_)
  have hI2190 : XI g n L I2190 := by rw [eI2190]; exact (xi_f0 hy hI2182 (c := 53) (by decide) (Or.inl (by decide)) (by decide))
  have e2191 : I2190 (ad g 1) 1 = L := by rw [eI2190, pp_ne _ _ (Or.inl (lyx_ne hy (by decide) (by decide) (by decide)))]; exact e2183
  have e2192 : I2190 (ad g 63) 0 = v2175 := by rw [eI2190, pp_ne _ _ (Or.inl (lyx_ne hy (by decide) (by decide) (by decide)))]; exact e2184
  have e2193 : I2190 (ad g 53) 0 = v2175 := by rw [eI2190, pp_ne _ _ (Or.inr (by decide))]; exact e2185
  have e2194 : I2190 (ad g 63) 1 = v2181 := by rw [eI2190, pp_ne _ _ (Or.inl (lyx_ne hy (by decide) (by decide) (by decide)))]; exact e2186
  have e2195 : I2190 (ad g 53) 1 = v2181 := by rw [eI2190, pp_ne _ _ (Or.inr (by decide))]; exact e2187
  have e2196 : I2190 (ad g 63) 2 = v2189 := by rw [eI2190, pp_ne _ _ (Or.inl (lyx_ne hy (by decide) (by decide) (by decide)))]; exact ev2189
  have e2197 : I2190 (ad g 53) 2 = v2189 := by rw [eI2190, pp_self]
  have fr2198 : fz 74 g [53, 54, 55] I I2190 := by rw [eI2190]; exact fzx_pp hy fr2188 (by decide) (by decide)
  clear eI2190
  refine WP_aload_n dX4_become_24 rfl ?_
  refine WP_aload_n dX4_become_25 rfl ?_
  refine WQ_getl dX4_become_26 fX4_28 rfl (lyx_is hy 63 4 rfl) (fun l2199 el2199 => ?_)
  refine WQ_putl dX4_become_29 fX4_28 rfl rfl (lyx_is hy 53 4 rfl) (fun J2200 eJ2200 => ?_)
  have fr2201 : fz 74 g [53] J J2200 := by rw [eJ2200]; exact fzx_pp hy frj0 (by decide) (by decide)
  clear eJ2200
  refine WP_aload_n dX4_become_32 rfl ?_
  refine WP_getr dX4_become_33 fX4_9 rfl (lyx_is hy 63 4 rfl) (rfx hr 63 4 64 (by decide)) ?_
  refine WQ_iconst (0) (0) dX4_become_36 rfl rfl (fun v2202 hv2202 => ?_)
  refine WP_aload_n dX4_become_37 rfl ?_
  refine WP_getr dX4_become_38 fX4_9 rfl (lyx_is hy 53 4 rfl) (rfx hr 53 4 54 (by decide)) ?_
  refine WQ_iconst (0) (0) dX4_become_41 rfl rfl (fun v2203 hv2203 => ?_)
  refine WP_aload_n dX4_become_42 rfl ?_
  refine WP_getr dX4_become_43 fX4_9 rfl (lyx_is hy 53 4 rfl) (rfx hr 53 4 54 (by decide)) ?_
  refine WP_alen dX4_become_46 (lyx_is hy 54 13 rfl) (by decide) ?_
  rw [(lyx_n hy 54 4 rfl)]
  obtain ⟨v2204, hv2204, ev2204⟩ : ∃ v : Int32, v.toInt = 4 ∧ nI 4 = v := ⟨_, nI_toInt (by decide), rfl⟩
  rw [ev2204]; clear ev2204
  refine WQ_copy0 (N := 4) dX4_become_47 lX4_46 ⟨by decide, Nat.le_of_ble_eq_true rfl⟩ (lyx_is hy 64 13 rfl) (lyx_is hy 54 13 rfl) hv2202 hv2203 hv2204 (lyx_n hy 64 4 rfl) (lyx_n hy 54 4 rfl) (fun I2205 fI2205 oI2205 => ?_)
  have hI2205 : XI g n L I2205 := xi_copy hy hI2190 64 54 4 (by decide) (by decide) fI2205 oI2205
  have fr2206 : fz 74 g [53, 54, 55] I I2205 := fzx_cp hy fr2198 oI2205 (by decide) (by decide)
  clear fI2205 oI2205
  have e2207 : I2205 (ad g 1) 1 = L := hI2205.2
  have b2208 := BT_get hI2205.1 1 1 2 (0) (0) (900) (by decide) 1 (by decide) (by decide)
  rw [e2207] at b2208
  refine WP_aload_n dX4_become_50 rfl ?_
  refine WP_getr dX4_become_51 fX4_15 rfl (lyx_is hy 63 4 rfl) (rfx hr 63 5 65 (by decide)) ?_
  refine WQ_iconst (0) (0) dX4_become_54 rfl rfl (fun v2209 hv2209 => ?_)
  refine WP_aload_n dX4_become_55 rfl ?_
  refine WP_getr dX4_become_56 fX4_15 rfl (lyx_is hy 53 4 rfl) (rfx hr 53 5 55 (by decide)) ?_
  refine WQ_iconst (0) (0) dX4_become_59 rfl rfl (fun v2210 hv2210 => ?_)
  refine WP_aload_n dX4_become_60 rfl ?_
  refine WP_getr dX4_become_61 fX4_15 rfl (lyx_is hy 53 4 rfl) (rfx hr 53 5 55 (by decide)) ?_
  refine WP_alen dX4_become_64 (lyx_is hy 55 13 rfl) (by decide) ?_
  rw [(lyx_n hy 55 28 rfl)]
  obtain ⟨v2211, hv2211, ev2211⟩ : ∃ v : Int32, v.toInt = 28 ∧ nI 28 = v := ⟨_, nI_toInt (by decide), rfl⟩
  rw [ev2211]; clear ev2211
  refine WQ_copy0 (N := 28) dX4_become_65 lX4_46 ⟨by decide, Nat.le_of_ble_eq_true rfl⟩ (lyx_is hy 65 13 rfl) (lyx_is hy 55 13 rfl) hv2209 hv2210 hv2211 (lyx_n hy 65 28 rfl) (lyx_n hy 55 28 rfl) (fun I2212 fI2212 oI2212 => ?_)
  have hI2212 : XI g n L I2212 := xi_copy hy hI2205 65 55 28 (by decide) (by decide) fI2212 oI2212
  have fr2213 : fz 74 g [53, 54, 55] I I2212 := fzx_cp hy fr2206 oI2212 (by decide) (by decide)
  clear fI2212 oI2212
  have e2214 : I2212 (ad g 1) 1 = L := hI2212.2
  have b2215 := BT_get hI2212.1 1 1 2 (0) (0) (900) (by decide) 1 (by decide) (by decide)
  rw [e2214] at b2215
  exact WP_vret dX4_become_68 rfl ⟨⟨hI2212, rfl, fr2213, fr2201⟩, rfl⟩
set_option maxHeartbeats 4000000 in
set_option maxRecDepth 100000 in
theorem sx_become_53_66 {g : GG} {n : Int} {L : Int32} (hy : LyX g)  {I : pI} {J : pJ} {R : pR} (hr : RfX g R) (hI : XI g n L I)   : SP g mX4_become [.ref (ad g 53), .ref (ad g 66)] I J R (fun r I' J' R' => (XI g n L I' ∧ R' = R ∧ fz 74 g [53, 54, 55] I I' ∧ fz 74 g [53] J J') ∧ r = none) := by
  refine SP_of ⟨by decide, rfl⟩ (Nat.le_of_ble_eq_true rfl) ?_
  have e2216 : I (ad g 1) 1 = L := hI.2
  have b2217 := BT_get hI.1 1 1 2 (0) (0) (900) (by decide) 1 (by decide) (by decide)
  rw [e2216] at b2217
  have fr0 : fz 74 g [53, 54, 55] I I := fz_rf
  have frj0 : fz 74 g [53] J J := fz_rf
  refine WP_aload_n dX4_become_0 rfl ?_
  refine WP_aload_n dX4_become_1 rfl ?_
  refine WQ_getiu dX4_become_2 fX4_18 rfl (lyx_is hy 66 4 rfl) (fun v2218 ev2218 => ?_)
  refine WQ_puti dX4_become_5 fX4_18 rfl rfl (lyx_is hy 53 4 rfl) (fun I2219 eI2219 => ?_)
  have hI2219 : XI g n L I2219 := by rw [eI2219]; exact (xi_f0 hy hI (c := 53) (by decide) (Or.inl (by decide)) (by decide))
  have e2220 : I2219 (ad g 1) 1 = L := by rw [eI2219, pp_ne _ _ (Or.inl (lyx_ne hy (by decide) (by decide) (by decide)))]; exact e2216
  have e2221 : I2219 (ad g 66) 0 = v2218 := by rw [eI2219, pp_ne _ _ (Or.inl (lyx_ne hy (by decide) (by decide) (by decide)))]; exact ev2218
  have e2222 : I2219 (ad g 53) 0 = v2218 := by rw [eI2219, pp_self]
  have fr2223 : fz 74 g [53, 54, 55] I I2219 := by rw [eI2219]; exact fzx_pp hy fr0 (by decide) (by decide)
  clear eI2219
  refine WP_aload_n dX4_become_8 rfl ?_
  refine WP_aload_n dX4_become_9 rfl ?_
  refine WQ_geti dX4_become_10 fX4_22 rfl (lyx_is hy 66 4 rfl) (BT_get hI2219.1 66 1 2 (0) (23760) (0) (by decide) 1 (by decide) (by decide)) (fun v2224 ev2224 av2224 bv2224 => ?_)
  refine WQ_puti dX4_become_13 fX4_22 rfl rfl (lyx_is hy 53 4 rfl) (fun I2225 eI2225 => ?_)
  have hI2225 : XI g n L I2225 := by rw [eI2225]; exact (xi_f hy hI2219 (c := 53) (0) (23760) (0) (by decide) (Or.inl (by decide)) (by decide) (by omega) (by omega))
  have e2226 : I2225 (ad g 1) 1 = L := by rw [eI2225, pp_ne _ _ (Or.inl (lyx_ne hy (by decide) (by decide) (by decide)))]; exact e2220
  have e2227 : I2225 (ad g 66) 0 = v2218 := by rw [eI2225, pp_ne _ _ (Or.inl (lyx_ne hy (by decide) (by decide) (by decide)))]; exact e2221
  have e2228 : I2225 (ad g 53) 0 = v2218 := by rw [eI2225, pp_ne _ _ (Or.inr (by decide))]; exact e2222
  have e2229 : I2225 (ad g 66) 1 = v2224 := by rw [eI2225, pp_ne _ _ (Or.inl (lyx_ne hy (by decide) (by decide) (by decide)))]; exact ev2224
  have e2230 : I2225 (ad g 53) 1 = v2224 := by rw [eI2225, pp_self]
  have fr2231 : fz 74 g [53, 54, 55] I I2225 := by rw [eI2225]; exact fzx_pp hy fr2223 (by decide) (by decide)
  clear eI2225
  refine WP_aload_n dX4_become_16 rfl ?_
  refine WP_aload_n dX4_become_17 rfl ?_
  refine WQ_getiu dX4_become_18 fX4_25 rfl (lyx_is hy 66 4 rfl) (fun v2232 ev2232 => ?_)
  refine WQ_puti dX4_become_21 fX4_25 rfl rfl (lyx_is hy 53 4 rfl) (fun I2233 eI2233 => ?_)
  have hI2233 : XI g n L I2233 := by rw [eI2233]; exact (xi_f0 hy hI2225 (c := 53) (by decide) (Or.inl (by decide)) (by decide))
  have e2234 : I2233 (ad g 1) 1 = L := by rw [eI2233, pp_ne _ _ (Or.inl (lyx_ne hy (by decide) (by decide) (by decide)))]; exact e2226
  have e2235 : I2233 (ad g 66) 0 = v2218 := by rw [eI2233, pp_ne _ _ (Or.inl (lyx_ne hy (by decide) (by decide) (by decide)))]; exact e2227
  have e2236 : I2233 (ad g 53) 0 = v2218 := by rw [eI2233, pp_ne _ _ (Or.inr (by decide))]; exact e2228
  have e2237 : I2233 (ad g 66) 1 = v2224 := by rw [eI2233, pp_ne _ _ (Or.inl (lyx_ne hy (by decide) (by decide) (by decide)))]; exact e2229
  have e2238 : I2233 (ad g 53) 1 = v2224 := by rw [eI2233, pp_ne _ _ (Or.inr (by decide))]; exact e2230
  have e2239 : I2233 (ad g 66) 2 = v2232 := by rw [eI2233, pp_ne _ _ (Or.inl (lyx_ne hy (by decide) (by decide) (by decide)))]; exact ev2232
  have e2240 : I2233 (ad g 53) 2 = v2232 := by rw [eI2233, pp_self]
  have fr2241 : fz 74 g [53, 54, 55] I I2233 := by rw [eI2233]; exact fzx_pp hy fr2231 (by decide) (by decide)
  clear eI2233
  refine WP_aload_n dX4_become_24 rfl ?_
  refine WP_aload_n dX4_become_25 rfl ?_
  refine WQ_getl dX4_become_26 fX4_28 rfl (lyx_is hy 66 4 rfl) (fun l2242 el2242 => ?_)
  refine WQ_putl dX4_become_29 fX4_28 rfl rfl (lyx_is hy 53 4 rfl) (fun J2243 eJ2243 => ?_)
  have fr2244 : fz 74 g [53] J J2243 := by rw [eJ2243]; exact fzx_pp hy frj0 (by decide) (by decide)
  clear eJ2243
  refine WP_aload_n dX4_become_32 rfl ?_
  refine WP_getr dX4_become_33 fX4_9 rfl (lyx_is hy 66 4 rfl) (rfx hr 66 4 67 (by decide)) ?_
  refine WQ_iconst (0) (0) dX4_become_36 rfl rfl (fun v2245 hv2245 => ?_)
  refine WP_aload_n dX4_become_37 rfl ?_
  refine WP_getr dX4_become_38 fX4_9 rfl (lyx_is hy 53 4 rfl) (rfx hr 53 4 54 (by decide)) ?_
  refine WQ_iconst (0) (0) dX4_become_41 rfl rfl (fun v2246 hv2246 => ?_)
  refine WP_aload_n dX4_become_42 rfl ?_
  refine WP_getr dX4_become_43 fX4_9 rfl (lyx_is hy 53 4 rfl) (rfx hr 53 4 54 (by decide)) ?_
  refine WP_alen dX4_become_46 (lyx_is hy 54 13 rfl) (by decide) ?_
  rw [(lyx_n hy 54 4 rfl)]
  obtain ⟨v2247, hv2247, ev2247⟩ : ∃ v : Int32, v.toInt = 4 ∧ nI 4 = v := ⟨_, nI_toInt (by decide), rfl⟩
  rw [ev2247]; clear ev2247
  refine WQ_copy0 (N := 4) dX4_become_47 lX4_46 ⟨by decide, Nat.le_of_ble_eq_true rfl⟩ (lyx_is hy 67 13 rfl) (lyx_is hy 54 13 rfl) hv2245 hv2246 hv2247 (lyx_n hy 67 4 rfl) (lyx_n hy 54 4 rfl) (fun I2248 fI2248 oI2248 => ?_)
  have hI2248 : XI g n L I2248 := xi_copy hy hI2233 67 54 4 (by decide) (by decide) fI2248 oI2248
  have fr2249 : fz 74 g [53, 54, 55] I I2248 := fzx_cp hy fr2241 oI2248 (by decide) (by decide)
  clear fI2248 oI2248
  have e2250 : I2248 (ad g 1) 1 = L := hI2248.2
  have b2251 := BT_get hI2248.1 1 1 2 (0) (0) (900) (by decide) 1 (by decide) (by decide)
  rw [e2250] at b2251
  refine WP_aload_n dX4_become_50 rfl ?_
  refine WP_getr dX4_become_51 fX4_15 rfl (lyx_is hy 66 4 rfl) (rfx hr 66 5 68 (by decide)) ?_
  refine WQ_iconst (0) (0) dX4_become_54 rfl rfl (fun v2252 hv2252 => ?_)
  refine WP_aload_n dX4_become_55 rfl ?_
  refine WP_getr dX4_become_56 fX4_15 rfl (lyx_is hy 53 4 rfl) (rfx hr 53 5 55 (by decide)) ?_
  refine WQ_iconst (0) (0) dX4_become_59 rfl rfl (fun v2253 hv2253 => ?_)
  refine WP_aload_n dX4_become_60 rfl ?_
  refine WP_getr dX4_become_61 fX4_15 rfl (lyx_is hy 53 4 rfl) (rfx hr 53 5 55 (by decide)) ?_
  refine WP_alen dX4_become_64 (lyx_is hy 55 13 rfl) (by decide) ?_
  rw [(lyx_n hy 55 28 rfl)]
  obtain ⟨v2254, hv2254, ev2254⟩ : ∃ v : Int32, v.toInt = 28 ∧ nI 28 = v := ⟨_, nI_toInt (by decide), rfl⟩
  rw [ev2254]; clear ev2254
  refine WQ_copy0 (N := 28) dX4_become_65 lX4_46 ⟨by decide, Nat.le_of_ble_eq_true rfl⟩ (lyx_is hy 68 13 rfl) (lyx_is hy 55 13 rfl) hv2252 hv2253 hv2254 (lyx_n hy 68 28 rfl) (lyx_n hy 55 28 rfl) (fun I2255 fI2255 oI2255 => ?_)
  have hI2255 : XI g n L I2255 := xi_copy hy hI2248 68 55 28 (by decide) (by decide) fI2255 oI2255
  have fr2256 : fz 74 g [53, 54, 55] I I2255 := fzx_cp hy fr2249 oI2255 (by decide) (by decide)
  clear fI2255 oI2255
  have e2257 : I2255 (ad g 1) 1 = L := hI2255.2
  have b2258 := BT_get hI2255.1 1 1 2 (0) (0) (900) (by decide) 1 (by decide) (by decide)
  rw [e2257] at b2258
  exact WP_vret dX4_become_68 rfl ⟨⟨hI2255, rfl, fr2256, fr2244⟩, rfl⟩
set_option maxHeartbeats 4000000 in
set_option maxRecDepth 100000 in
theorem sx_sum_56 {g : GG} {n : Int} {L : Int32} (hy : LyX g)  {I : pI} {J : pJ} {R : pR} (hr : RfX g R) (hI : XI g n L I) (wh : Int32) (wh_lo : 0 ≤ wh.toInt) (wh_hi : wh.toInt ≤ 6) : SP g mX4_sum [.ref (ad g 56), .int wh] I J R (fun r I' J' R' => (I' = I ∧ J' = J ∧ R' = R) ∧ ∃ v : Int32, r = some (.int v)) := by
  refine SP_of ⟨by decide, rfl⟩ (Nat.le_of_ble_eq_true rfl) ?_
  have e2259 : I (ad g 1) 1 = L := hI.2
  have b2260 := BT_get hI.1 1 1 2 (0) (0) (900) (by decide) 1 (by decide) (by decide)
  rw [e2259] at b2260
  refine WQ_iconst (0) (0) dX4_sum_0 rfl rfl (fun v2261 hv2261 => ?_)
  refine WP_istore_n (ls' := [(0, _), (1, _), (2, _)]) dX4_sum_1 (by decide) rfl ?_
  refine WQ_iconst (0) (0) dX4_sum_2 rfl rfl (fun v2262 hv2262 => ?_)
  refine WP_istore_n (ls' := [(0, _), (1, _), (2, _), (3, _)]) dX4_sum_3 (by decide) rfl ?_
  have lp4_2264 : ∀ (mz : Nat) (i2263 : Int32) (i2264 : Int32), 0 ≤ i2264.toInt → i2264.toInt ≤ 4 → (5 - i2264.toInt).toNat < mz → WP g mX4_sum 4 [(0, .ref (ad g 56)), (1, .int wh), (2, .int i2263), (3, .int i2264)] [] I J R (fun r I' J' R' => (I' = I ∧ J' = J ∧ R' = R) ∧ ∃ v : Int32, r = some (.int v)) := by
    intro mz
    induction mz with
    | zero =>
      intro i2263 i2264 ai2264 bi2264 hmlp4_2264
      exact absurd hmlp4_2264 (Nat.not_lt_zero _)
    | succ mz ihlp4_2264 =>
      intro i2263 i2264 ai2264 bi2264 hmlp4_2264
      refine WP_iload_n dX4_sum_4 rfl ?_
      refine WQ_iconst (4) (4) dX4_sum_5 rfl rfl (fun v2266 hv2266 => ?_)
      refine WQ_icmp_ge 29 dX4_sum_6 rfl (fun c2266 => ?_) (fun c2266 => ?_)
      · refine WP_iload_n dX4_sum_29 rfl ?_
        exact WP_iret dX4_sum_30 rfl ⟨⟨rfl, rfl, rfl⟩, _, rfl⟩
      · refine WP_iload_n dX4_sum_9 rfl ?_
        refine WP_aload_n dX4_sum_10 rfl ?_
        refine WP_getr dX4_sum_11 fX4_15 rfl (lyx_is hy 56 4 rfl) (rfx hr 56 5 58 (by decide)) ?_
        refine WP_iload_n dX4_sum_14 rfl ?_
        refine WQ_bipush (7) (7) dX4_sum_15 rfl rfl (fun v2268 hv2268 => ?_)
        refine WQ_imulk (7) dX4_sum_17 hv2268 (by omega) (by omega) (fun v2269 hv2269 => ?_)
        refine WP_iload_n dX4_sum_18 rfl ?_
        refine WQ_iadd dX4_sum_19 (by omega) (by omega) (fun v2270 hv2270 => ?_)
        refine WQ_ialdu dX4_sum_20 (lyx_is hy 58 13 rfl) (lyx_n hy 58 28 rfl) (by omega) (by omega) (fun v2271 => ?_)
        refine WQ_iaddu dX4_sum_21 (fun v2272 => ?_)
        refine WP_istore_n (ls' := [(0, _), (1, _), (2, _), (3, _)]) dX4_sum_22 (by decide) rfl ?_
        refine WP_iinc (ls' := [(0, _), (1, _), (2, _), (3, _)]) dX4_sum_23 rfl (by decide) rfl ?_
        have hv2273 : (i2264 + Int32.ofInt (1)).toInt = i2264.toInt + (1) := ia_n rfl (by omega) (by omega)
        generalize i2264 + Int32.ofInt (1) = v2273 at hv2273 ⊢
        refine WP_goto 4 dX4_sum_26 rfl ?_
        exact WP_sub (fc rfl (fc rfl (fc rfl (fc rfl fn)))) (ihlp4_2264 v2272 v2273 (by omega) (by omega) (by omega))
  exact WP_sub (fc rfl (fc rfl (fc rfl (fc rfl fn)))) (lp4_2264 _ v2261 v2262 (by omega) (by omega) (Nat.lt_succ_self _))
set_option maxHeartbeats 4000000 in
set_option maxRecDepth 100000 in
theorem sx_become_60_53 {g : GG} {n : Int} {L : Int32} (hy : LyX g)  {I : pI} {J : pJ} {R : pR} (hr : RfX g R) (hI : XI g n L I)   : SP g mX4_become [.ref (ad g 60), .ref (ad g 53)] I J R (fun r I' J' R' => (XI g n L I' ∧ R' = R ∧ fz 74 g [60, 61, 62] I I' ∧ fz 74 g [60] J J') ∧ r = none) := by
  refine SP_of ⟨by decide, rfl⟩ (Nat.le_of_ble_eq_true rfl) ?_
  have e2528 : I (ad g 1) 1 = L := hI.2
  have b2529 := BT_get hI.1 1 1 2 (0) (0) (900) (by decide) 1 (by decide) (by decide)
  rw [e2528] at b2529
  have fr0 : fz 74 g [60, 61, 62] I I := fz_rf
  have frj0 : fz 74 g [60] J J := fz_rf
  refine WP_aload_n dX4_become_0 rfl ?_
  refine WP_aload_n dX4_become_1 rfl ?_
  refine WQ_getiu dX4_become_2 fX4_18 rfl (lyx_is hy 53 4 rfl) (fun v2530 ev2530 => ?_)
  refine WQ_puti dX4_become_5 fX4_18 rfl rfl (lyx_is hy 60 4 rfl) (fun I2531 eI2531 => ?_)
  have hI2531 : XI g n L I2531 := by rw [eI2531]; exact (xi_f0 hy hI (c := 60) (by decide) (Or.inl (by decide)) (by decide))
  have e2532 : I2531 (ad g 1) 1 = L := by rw [eI2531, pp_ne _ _ (Or.inl (lyx_ne hy (by decide) (by decide) (by decide)))]; exact e2528
  have e2533 : I2531 (ad g 53) 0 = v2530 := by rw [eI2531, pp_ne _ _ (Or.inl (lyx_ne hy (by decide) (by decide) (by decide)))]; exact ev2530
  have e2534 : I2531 (ad g 60) 0 = v2530 := by rw [eI2531, pp_self]
  have fr2535 : fz 74 g [60, 61, 62] I I2531 := by rw [eI2531]; exact fzx_pp hy fr0 (by decide) (by decide)
  clear eI2531
  refine WP_aload_n dX4_become_8 rfl ?_
  refine WP_aload_n dX4_become_9 rfl ?_
  refine WQ_geti dX4_become_10 fX4_22 rfl (lyx_is hy 53 4 rfl) (BT_get hI2531.1 53 1 2 (0) (23760) (0) (by decide) 1 (by decide) (by decide)) (fun v2536 ev2536 av2536 bv2536 => ?_)
  refine WQ_puti dX4_become_13 fX4_22 rfl rfl (lyx_is hy 60 4 rfl) (fun I2537 eI2537 => ?_)
  have hI2537 : XI g n L I2537 := by rw [eI2537]; exact (xi_f hy hI2531 (c := 60) (0) (23760) (0) (by decide) (Or.inl (by decide)) (by decide) (by omega) (by omega))
  have e2538 : I2537 (ad g 1) 1 = L := by rw [eI2537, pp_ne _ _ (Or.inl (lyx_ne hy (by decide) (by decide) (by decide)))]; exact e2532
  have e2539 : I2537 (ad g 53) 0 = v2530 := by rw [eI2537, pp_ne _ _ (Or.inl (lyx_ne hy (by decide) (by decide) (by decide)))]; exact e2533
  have e2540 : I2537 (ad g 60) 0 = v2530 := by rw [eI2537, pp_ne _ _ (Or.inr (by decide))]; exact e2534
  have e2541 : I2537 (ad g 53) 1 = v2536 := by rw [eI2537, pp_ne _ _ (Or.inl (lyx_ne hy (by decide) (by decide) (by decide)))]; exact ev2536
  have e2542 : I2537 (ad g 60) 1 = v2536 := by rw [eI2537, pp_self]
  have fr2543 : fz 74 g [60, 61, 62] I I2537 := by rw [eI2537]; exact fzx_pp hy fr2535 (by decide) (by decide)
  clear eI2537
  refine WP_aload_n dX4_become_16 rfl ?_
  refine WP_aload_n dX4_become_17 rfl ?_
  refine WQ_getiu dX4_become_18 fX4_25 rfl (lyx_is hy 53 4 rfl) (fun v2544 ev2544 => ?_)
  refine WQ_puti dX4_become_21 fX4_25 rfl rfl (lyx_is hy 60 4 rfl) (fun I2545 eI2545 => ?_)
  have hI2545 : XI g n L I2545 := by rw [eI2545]; exact (xi_f0 hy hI2537 (c := 60) (by decide) (Or.inl (by decide)) (by decide))
  have e2546 : I2545 (ad g 1) 1 = L := by rw [eI2545, pp_ne _ _ (Or.inl (lyx_ne hy (by decide) (by decide) (by decide)))]; exact e2538
  have e2547 : I2545 (ad g 53) 0 = v2530 := by rw [eI2545, pp_ne _ _ (Or.inl (lyx_ne hy (by decide) (by decide) (by decide)))]; exact e2539
  have e2548 : I2545 (ad g 60) 0 = v2530 := by rw [eI2545, pp_ne _ _ (Or.inr (by decide))]; exact e2540
  have e2549 : I2545 (ad g 53) 1 = v2536 := by rw [eI2545, pp_ne _ _ (Or.inl (lyx_ne hy (by decide) (by decide) (by decide)))]; exact e2541
  have e2550 : I2545 (ad g 60) 1 = v2536 := by rw [eI2545, pp_ne _ _ (Or.inr (by decide))]; exact e2542
  have e2551 : I2545 (ad g 53) 2 = v2544 := by rw [eI2545, pp_ne _ _ (Or.inl (lyx_ne hy (by decide) (by decide) (by decide)))]; exact ev2544
  have e2552 : I2545 (ad g 60) 2 = v2544 := by rw [eI2545, pp_self]
  have fr2553 : fz 74 g [60, 61, 62] I I2545 := by rw [eI2545]; exact fzx_pp hy fr2543 (by decide) (by decide)
  clear eI2545
  refine WP_aload_n dX4_become_24 rfl ?_
  refine WP_aload_n dX4_become_25 rfl ?_
  refine WQ_getl dX4_become_26 fX4_28 rfl (lyx_is hy 53 4 rfl) (fun l2554 el2554 => ?_)
  refine WQ_putl dX4_become_29 fX4_28 rfl rfl (lyx_is hy 60 4 rfl) (fun J2555 eJ2555 => ?_)
  have fr2556 : fz 74 g [60] J J2555 := by rw [eJ2555]; exact fzx_pp hy frj0 (by decide) (by decide)
  clear eJ2555
  refine WP_aload_n dX4_become_32 rfl ?_
  refine WP_getr dX4_become_33 fX4_9 rfl (lyx_is hy 53 4 rfl) (rfx hr 53 4 54 (by decide)) ?_
  refine WQ_iconst (0) (0) dX4_become_36 rfl rfl (fun v2557 hv2557 => ?_)
  refine WP_aload_n dX4_become_37 rfl ?_
  refine WP_getr dX4_become_38 fX4_9 rfl (lyx_is hy 60 4 rfl) (rfx hr 60 4 61 (by decide)) ?_
  refine WQ_iconst (0) (0) dX4_become_41 rfl rfl (fun v2558 hv2558 => ?_)
  refine WP_aload_n dX4_become_42 rfl ?_
  refine WP_getr dX4_become_43 fX4_9 rfl (lyx_is hy 60 4 rfl) (rfx hr 60 4 61 (by decide)) ?_
  refine WP_alen dX4_become_46 (lyx_is hy 61 13 rfl) (by decide) ?_
  rw [(lyx_n hy 61 4 rfl)]
  obtain ⟨v2559, hv2559, ev2559⟩ : ∃ v : Int32, v.toInt = 4 ∧ nI 4 = v := ⟨_, nI_toInt (by decide), rfl⟩
  rw [ev2559]; clear ev2559
  refine WQ_copy0 (N := 4) dX4_become_47 lX4_46 ⟨by decide, Nat.le_of_ble_eq_true rfl⟩ (lyx_is hy 54 13 rfl) (lyx_is hy 61 13 rfl) hv2557 hv2558 hv2559 (lyx_n hy 54 4 rfl) (lyx_n hy 61 4 rfl) (fun I2560 fI2560 oI2560 => ?_)
  have hI2560 : XI g n L I2560 := xi_copy hy hI2545 54 61 4 (by decide) (by decide) fI2560 oI2560
  have fr2561 : fz 74 g [60, 61, 62] I I2560 := fzx_cp hy fr2553 oI2560 (by decide) (by decide)
  clear fI2560 oI2560
  have e2562 : I2560 (ad g 1) 1 = L := hI2560.2
  have b2563 := BT_get hI2560.1 1 1 2 (0) (0) (900) (by decide) 1 (by decide) (by decide)
  rw [e2562] at b2563
  refine WP_aload_n dX4_become_50 rfl ?_
  refine WP_getr dX4_become_51 fX4_15 rfl (lyx_is hy 53 4 rfl) (rfx hr 53 5 55 (by decide)) ?_
  refine WQ_iconst (0) (0) dX4_become_54 rfl rfl (fun v2564 hv2564 => ?_)
  refine WP_aload_n dX4_become_55 rfl ?_
  refine WP_getr dX4_become_56 fX4_15 rfl (lyx_is hy 60 4 rfl) (rfx hr 60 5 62 (by decide)) ?_
  refine WQ_iconst (0) (0) dX4_become_59 rfl rfl (fun v2565 hv2565 => ?_)
  refine WP_aload_n dX4_become_60 rfl ?_
  refine WP_getr dX4_become_61 fX4_15 rfl (lyx_is hy 60 4 rfl) (rfx hr 60 5 62 (by decide)) ?_
  refine WP_alen dX4_become_64 (lyx_is hy 62 13 rfl) (by decide) ?_
  rw [(lyx_n hy 62 28 rfl)]
  obtain ⟨v2566, hv2566, ev2566⟩ : ∃ v : Int32, v.toInt = 28 ∧ nI 28 = v := ⟨_, nI_toInt (by decide), rfl⟩
  rw [ev2566]; clear ev2566
  refine WQ_copy0 (N := 28) dX4_become_65 lX4_46 ⟨by decide, Nat.le_of_ble_eq_true rfl⟩ (lyx_is hy 55 13 rfl) (lyx_is hy 62 13 rfl) hv2564 hv2565 hv2566 (lyx_n hy 55 28 rfl) (lyx_n hy 62 28 rfl) (fun I2567 fI2567 oI2567 => ?_)
  have hI2567 : XI g n L I2567 := xi_copy hy hI2560 55 62 28 (by decide) (by decide) fI2567 oI2567
  have fr2568 : fz 74 g [60, 61, 62] I I2567 := fzx_cp hy fr2561 oI2567 (by decide) (by decide)
  clear fI2567 oI2567
  have e2569 : I2567 (ad g 1) 1 = L := hI2567.2
  have b2570 := BT_get hI2567.1 1 1 2 (0) (0) (900) (by decide) 1 (by decide) (by decide)
  rw [e2569] at b2570
  exact WP_vret dX4_become_68 rfl ⟨⟨hI2567, rfl, fr2568, fr2556⟩, rfl⟩
set_option maxHeartbeats 4000000 in
set_option maxRecDepth 100000 in
theorem sx_become_63_53 {g : GG} {n : Int} {L : Int32} (hy : LyX g)  {I : pI} {J : pJ} {R : pR} (hr : RfX g R) (hI : XI g n L I)   : SP g mX4_become [.ref (ad g 63), .ref (ad g 53)] I J R (fun r I' J' R' => (XI g n L I' ∧ R' = R ∧ fz 74 g [63, 64, 65] I I' ∧ fz 74 g [63] J J') ∧ r = none) := by
  refine SP_of ⟨by decide, rfl⟩ (Nat.le_of_ble_eq_true rfl) ?_
  have e2684 : I (ad g 1) 1 = L := hI.2
  have b2685 := BT_get hI.1 1 1 2 (0) (0) (900) (by decide) 1 (by decide) (by decide)
  rw [e2684] at b2685
  have fr0 : fz 74 g [63, 64, 65] I I := fz_rf
  have frj0 : fz 74 g [63] J J := fz_rf
  refine WP_aload_n dX4_become_0 rfl ?_
  refine WP_aload_n dX4_become_1 rfl ?_
  refine WQ_getiu dX4_become_2 fX4_18 rfl (lyx_is hy 53 4 rfl) (fun v2686 ev2686 => ?_)
  refine WQ_puti dX4_become_5 fX4_18 rfl rfl (lyx_is hy 63 4 rfl) (fun I2687 eI2687 => ?_)
  have hI2687 : XI g n L I2687 := by rw [eI2687]; exact (xi_f0 hy hI (c := 63) (by decide) (Or.inl (by decide)) (by decide))
  have e2688 : I2687 (ad g 1) 1 = L := by rw [eI2687, pp_ne _ _ (Or.inl (lyx_ne hy (by decide) (by decide) (by decide)))]; exact e2684
  have e2689 : I2687 (ad g 53) 0 = v2686 := by rw [eI2687, pp_ne _ _ (Or.inl (lyx_ne hy (by decide) (by decide) (by decide)))]; exact ev2686
  have e2690 : I2687 (ad g 63) 0 = v2686 := by rw [eI2687, pp_self]
  have fr2691 : fz 74 g [63, 64, 65] I I2687 := by rw [eI2687]; exact fzx_pp hy fr0 (by decide) (by decide)
  clear eI2687
  refine WP_aload_n dX4_become_8 rfl ?_
  refine WP_aload_n dX4_become_9 rfl ?_
  refine WQ_geti dX4_become_10 fX4_22 rfl (lyx_is hy 53 4 rfl) (BT_get hI2687.1 53 1 2 (0) (23760) (0) (by decide) 1 (by decide) (by decide)) (fun v2692 ev2692 av2692 bv2692 => ?_)
  refine WQ_puti dX4_become_13 fX4_22 rfl rfl (lyx_is hy 63 4 rfl) (fun I2693 eI2693 => ?_)
  have hI2693 : XI g n L I2693 := by rw [eI2693]; exact (xi_f hy hI2687 (c := 63) (0) (23760) (0) (by decide) (Or.inl (by decide)) (by decide) (by omega) (by omega))
  have e2694 : I2693 (ad g 1) 1 = L := by rw [eI2693, pp_ne _ _ (Or.inl (lyx_ne hy (by decide) (by decide) (by decide)))]; exact e2688
  have e2695 : I2693 (ad g 53) 0 = v2686 := by rw [eI2693, pp_ne _ _ (Or.inl (lyx_ne hy (by decide) (by decide) (by decide)))]; exact e2689
  have e2696 : I2693 (ad g 63) 0 = v2686 := by rw [eI2693, pp_ne _ _ (Or.inr (by decide))]; exact e2690
  have e2697 : I2693 (ad g 53) 1 = v2692 := by rw [eI2693, pp_ne _ _ (Or.inl (lyx_ne hy (by decide) (by decide) (by decide)))]; exact ev2692
  have e2698 : I2693 (ad g 63) 1 = v2692 := by rw [eI2693, pp_self]
  have fr2699 : fz 74 g [63, 64, 65] I I2693 := by rw [eI2693]; exact fzx_pp hy fr2691 (by decide) (by decide)
  clear eI2693
  refine WP_aload_n dX4_become_16 rfl ?_
  refine WP_aload_n dX4_become_17 rfl ?_
  refine WQ_getiu dX4_become_18 fX4_25 rfl (lyx_is hy 53 4 rfl) (fun v2700 ev2700 => ?_)
  refine WQ_puti dX4_become_21 fX4_25 rfl rfl (lyx_is hy 63 4 rfl) (fun I2701 eI2701 => ?_)
  have hI2701 : XI g n L I2701 := by rw [eI2701]; exact (xi_f0 hy hI2693 (c := 63) (by decide) (Or.inl (by decide)) (by decide))
  have e2702 : I2701 (ad g 1) 1 = L := by rw [eI2701, pp_ne _ _ (Or.inl (lyx_ne hy (by decide) (by decide) (by decide)))]; exact e2694
  have e2703 : I2701 (ad g 53) 0 = v2686 := by rw [eI2701, pp_ne _ _ (Or.inl (lyx_ne hy (by decide) (by decide) (by decide)))]; exact e2695
  have e2704 : I2701 (ad g 63) 0 = v2686 := by rw [eI2701, pp_ne _ _ (Or.inr (by decide))]; exact e2696
  have e2705 : I2701 (ad g 53) 1 = v2692 := by rw [eI2701, pp_ne _ _ (Or.inl (lyx_ne hy (by decide) (by decide) (by decide)))]; exact e2697
  have e2706 : I2701 (ad g 63) 1 = v2692 := by rw [eI2701, pp_ne _ _ (Or.inr (by decide))]; exact e2698
  have e2707 : I2701 (ad g 53) 2 = v2700 := by rw [eI2701, pp_ne _ _ (Or.inl (lyx_ne hy (by decide) (by decide) (by decide)))]; exact ev2700
  have e2708 : I2701 (ad g 63) 2 = v2700 := by rw [eI2701, pp_self]
  have fr2709 : fz 74 g [63, 64, 65] I I2701 := by rw [eI2701]; exact fzx_pp hy fr2699 (by decide) (by decide)
  clear eI2701
  refine WP_aload_n dX4_become_24 rfl ?_
  refine WP_aload_n dX4_become_25 rfl ?_
  refine WQ_getl dX4_become_26 fX4_28 rfl (lyx_is hy 53 4 rfl) (fun l2710 el2710 => ?_)
  refine WQ_putl dX4_become_29 fX4_28 rfl rfl (lyx_is hy 63 4 rfl) (fun J2711 eJ2711 => ?_)
  have fr2712 : fz 74 g [63] J J2711 := by rw [eJ2711]; exact fzx_pp hy frj0 (by decide) (by decide)
  clear eJ2711
  refine WP_aload_n dX4_become_32 rfl ?_
  refine WP_getr dX4_become_33 fX4_9 rfl (lyx_is hy 53 4 rfl) (rfx hr 53 4 54 (by decide)) ?_
  refine WQ_iconst (0) (0) dX4_become_36 rfl rfl (fun v2713 hv2713 => ?_)
  refine WP_aload_n dX4_become_37 rfl ?_
  refine WP_getr dX4_become_38 fX4_9 rfl (lyx_is hy 63 4 rfl) (rfx hr 63 4 64 (by decide)) ?_
  refine WQ_iconst (0) (0) dX4_become_41 rfl rfl (fun v2714 hv2714 => ?_)
  refine WP_aload_n dX4_become_42 rfl ?_
  refine WP_getr dX4_become_43 fX4_9 rfl (lyx_is hy 63 4 rfl) (rfx hr 63 4 64 (by decide)) ?_
  refine WP_alen dX4_become_46 (lyx_is hy 64 13 rfl) (by decide) ?_
  rw [(lyx_n hy 64 4 rfl)]
  obtain ⟨v2715, hv2715, ev2715⟩ : ∃ v : Int32, v.toInt = 4 ∧ nI 4 = v := ⟨_, nI_toInt (by decide), rfl⟩
  rw [ev2715]; clear ev2715
  refine WQ_copy0 (N := 4) dX4_become_47 lX4_46 ⟨by decide, Nat.le_of_ble_eq_true rfl⟩ (lyx_is hy 54 13 rfl) (lyx_is hy 64 13 rfl) hv2713 hv2714 hv2715 (lyx_n hy 54 4 rfl) (lyx_n hy 64 4 rfl) (fun I2716 fI2716 oI2716 => ?_)
  have hI2716 : XI g n L I2716 := xi_copy hy hI2701 54 64 4 (by decide) (by decide) fI2716 oI2716
  have fr2717 : fz 74 g [63, 64, 65] I I2716 := fzx_cp hy fr2709 oI2716 (by decide) (by decide)
  clear fI2716 oI2716
  have e2718 : I2716 (ad g 1) 1 = L := hI2716.2
  have b2719 := BT_get hI2716.1 1 1 2 (0) (0) (900) (by decide) 1 (by decide) (by decide)
  rw [e2718] at b2719
  refine WP_aload_n dX4_become_50 rfl ?_
  refine WP_getr dX4_become_51 fX4_15 rfl (lyx_is hy 53 4 rfl) (rfx hr 53 5 55 (by decide)) ?_
  refine WQ_iconst (0) (0) dX4_become_54 rfl rfl (fun v2720 hv2720 => ?_)
  refine WP_aload_n dX4_become_55 rfl ?_
  refine WP_getr dX4_become_56 fX4_15 rfl (lyx_is hy 63 4 rfl) (rfx hr 63 5 65 (by decide)) ?_
  refine WQ_iconst (0) (0) dX4_become_59 rfl rfl (fun v2721 hv2721 => ?_)
  refine WP_aload_n dX4_become_60 rfl ?_
  refine WP_getr dX4_become_61 fX4_15 rfl (lyx_is hy 63 4 rfl) (rfx hr 63 5 65 (by decide)) ?_
  refine WP_alen dX4_become_64 (lyx_is hy 65 13 rfl) (by decide) ?_
  rw [(lyx_n hy 65 28 rfl)]
  obtain ⟨v2722, hv2722, ev2722⟩ : ∃ v : Int32, v.toInt = 28 ∧ nI 28 = v := ⟨_, nI_toInt (by decide), rfl⟩
  rw [ev2722]; clear ev2722
  refine WQ_copy0 (N := 28) dX4_become_65 lX4_46 ⟨by decide, Nat.le_of_ble_eq_true rfl⟩ (lyx_is hy 55 13 rfl) (lyx_is hy 65 13 rfl) hv2720 hv2721 hv2722 (lyx_n hy 55 28 rfl) (lyx_n hy 65 28 rfl) (fun I2723 fI2723 oI2723 => ?_)
  have hI2723 : XI g n L I2723 := xi_copy hy hI2716 55 65 28 (by decide) (by decide) fI2723 oI2723
  have fr2724 : fz 74 g [63, 64, 65] I I2723 := fzx_cp hy fr2717 oI2723 (by decide) (by decide)
  clear fI2723 oI2723
  have e2725 : I2723 (ad g 1) 1 = L := hI2723.2
  have b2726 := BT_get hI2723.1 1 1 2 (0) (0) (900) (by decide) 1 (by decide) (by decide)
  rw [e2725] at b2726
  exact WP_vret dX4_become_68 rfl ⟨⟨hI2723, rfl, fr2724, fr2712⟩, rfl⟩
set_option maxHeartbeats 4000000 in
set_option maxRecDepth 100000 in
theorem sx_become_66_53 {g : GG} {n : Int} {L : Int32} (hy : LyX g)  {I : pI} {J : pJ} {R : pR} (hr : RfX g R) (hI : XI g n L I)   : SP g mX4_become [.ref (ad g 66), .ref (ad g 53)] I J R (fun r I' J' R' => (XI g n L I' ∧ R' = R ∧ fz 74 g [66, 67, 68] I I' ∧ fz 74 g [66] J J') ∧ r = none) := by
  refine SP_of ⟨by decide, rfl⟩ (Nat.le_of_ble_eq_true rfl) ?_
  have e2840 : I (ad g 1) 1 = L := hI.2
  have b2841 := BT_get hI.1 1 1 2 (0) (0) (900) (by decide) 1 (by decide) (by decide)
  rw [e2840] at b2841
  have fr0 : fz 74 g [66, 67, 68] I I := fz_rf
  have frj0 : fz 74 g [66] J J := fz_rf
  refine WP_aload_n dX4_become_0 rfl ?_
  refine WP_aload_n dX4_become_1 rfl ?_
  refine WQ_getiu dX4_become_2 fX4_18 rfl (lyx_is hy 53 4 rfl) (fun v2842 ev2842 => ?_)
  refine WQ_puti dX4_become_5 fX4_18 rfl rfl (lyx_is hy 66 4 rfl) (fun I2843 eI2843 => ?_)
  have hI2843 : XI g n L I2843 := by rw [eI2843]; exact (xi_f0 hy hI (c := 66) (by decide) (Or.inl (by decide)) (by decide))
  have e2844 : I2843 (ad g 1) 1 = L := by rw [eI2843, pp_ne _ _ (Or.inl (lyx_ne hy (by decide) (by decide) (by decide)))]; exact e2840
  have e2845 : I2843 (ad g 53) 0 = v2842 := by rw [eI2843, pp_ne _ _ (Or.inl (lyx_ne hy (by decide) (by decide) (by decide)))]; exact ev2842
  have e2846 : I2843 (ad g 66) 0 = v2842 := by rw [eI2843, pp_self]
  have fr2847 : fz 74 g [66, 67, 68] I I2843 := by rw [eI2843]; exact fzx_pp hy fr0 (by decide) (by decide)
  clear eI2843
  refine WP_aload_n dX4_become_8 rfl ?_
  refine WP_aload_n dX4_become_9 rfl ?_
  refine WQ_geti dX4_become_10 fX4_22 rfl (lyx_is hy 53 4 rfl) (BT_get hI2843.1 53 1 2 (0) (23760) (0) (by decide) 1 (by decide) (by decide)) (fun v2848 ev2848 av2848 bv2848 => ?_)
  refine WQ_puti dX4_become_13 fX4_22 rfl rfl (lyx_is hy 66 4 rfl) (fun I2849 eI2849 => ?_)
  have hI2849 : XI g n L I2849 := by rw [eI2849]; exact (xi_f hy hI2843 (c := 66) (0) (23760) (0) (by decide) (Or.inl (by decide)) (by decide) (by omega) (by omega))
  have e2850 : I2849 (ad g 1) 1 = L := by rw [eI2849, pp_ne _ _ (Or.inl (lyx_ne hy (by decide) (by decide) (by decide)))]; exact e2844
  have e2851 : I2849 (ad g 53) 0 = v2842 := by rw [eI2849, pp_ne _ _ (Or.inl (lyx_ne hy (by decide) (by decide) (by decide)))]; exact e2845
  have e2852 : I2849 (ad g 66) 0 = v2842 := by rw [eI2849, pp_ne _ _ (Or.inr (by decide))]; exact e2846
  have e2853 : I2849 (ad g 53) 1 = v2848 := by rw [eI2849, pp_ne _ _ (Or.inl (lyx_ne hy (by decide) (by decide) (by decide)))]; exact ev2848
  have e2854 : I2849 (ad g 66) 1 = v2848 := by rw [eI2849, pp_self]
  have fr2855 : fz 74 g [66, 67, 68] I I2849 := by rw [eI2849]; exact fzx_pp hy fr2847 (by decide) (by decide)
  clear eI2849
  refine WP_aload_n dX4_become_16 rfl ?_
  refine WP_aload_n dX4_become_17 rfl ?_
  refine WQ_getiu dX4_become_18 fX4_25 rfl (lyx_is hy 53 4 rfl) (fun v2856 ev2856 => ?_)
  refine WQ_puti dX4_become_21 fX4_25 rfl rfl (lyx_is hy 66 4 rfl) (fun I2857 eI2857 => ?_)
  have hI2857 : XI g n L I2857 := by rw [eI2857]; exact (xi_f0 hy hI2849 (c := 66) (by decide) (Or.inl (by decide)) (by decide))
  have e2858 : I2857 (ad g 1) 1 = L := by rw [eI2857, pp_ne _ _ (Or.inl (lyx_ne hy (by decide) (by decide) (by decide)))]; exact e2850
  have e2859 : I2857 (ad g 53) 0 = v2842 := by rw [eI2857, pp_ne _ _ (Or.inl (lyx_ne hy (by decide) (by decide) (by decide)))]; exact e2851
  have e2860 : I2857 (ad g 66) 0 = v2842 := by rw [eI2857, pp_ne _ _ (Or.inr (by decide))]; exact e2852
  have e2861 : I2857 (ad g 53) 1 = v2848 := by rw [eI2857, pp_ne _ _ (Or.inl (lyx_ne hy (by decide) (by decide) (by decide)))]; exact e2853
  have e2862 : I2857 (ad g 66) 1 = v2848 := by rw [eI2857, pp_ne _ _ (Or.inr (by decide))]; exact e2854
  have e2863 : I2857 (ad g 53) 2 = v2856 := by rw [eI2857, pp_ne _ _ (Or.inl (lyx_ne hy (by decide) (by decide) (by decide)))]; exact ev2856
  have e2864 : I2857 (ad g 66) 2 = v2856 := by rw [eI2857, pp_self]
  have fr2865 : fz 74 g [66, 67, 68] I I2857 := by rw [eI2857]; exact fzx_pp hy fr2855 (by decide) (by decide)
  clear eI2857
  refine WP_aload_n dX4_become_24 rfl ?_
  refine WP_aload_n dX4_become_25 rfl ?_
  refine WQ_getl dX4_become_26 fX4_28 rfl (lyx_is hy 53 4 rfl) (fun l2866 el2866 => ?_)
  refine WQ_putl dX4_become_29 fX4_28 rfl rfl (lyx_is hy 66 4 rfl) (fun J2867 eJ2867 => ?_)
  have fr2868 : fz 74 g [66] J J2867 := by rw [eJ2867]; exact fzx_pp hy frj0 (by decide) (by decide)
  clear eJ2867
  refine WP_aload_n dX4_become_32 rfl ?_
  refine WP_getr dX4_become_33 fX4_9 rfl (lyx_is hy 53 4 rfl) (rfx hr 53 4 54 (by decide)) ?_
  refine WQ_iconst (0) (0) dX4_become_36 rfl rfl (fun v2869 hv2869 => ?_)
  refine WP_aload_n dX4_become_37 rfl ?_
  refine WP_getr dX4_become_38 fX4_9 rfl (lyx_is hy 66 4 rfl) (rfx hr 66 4 67 (by decide)) ?_
  refine WQ_iconst (0) (0) dX4_become_41 rfl rfl (fun v2870 hv2870 => ?_)
  refine WP_aload_n dX4_become_42 rfl ?_
  refine WP_getr dX4_become_43 fX4_9 rfl (lyx_is hy 66 4 rfl) (rfx hr 66 4 67 (by decide)) ?_
  refine WP_alen dX4_become_46 (lyx_is hy 67 13 rfl) (by decide) ?_
  rw [(lyx_n hy 67 4 rfl)]
  obtain ⟨v2871, hv2871, ev2871⟩ : ∃ v : Int32, v.toInt = 4 ∧ nI 4 = v := ⟨_, nI_toInt (by decide), rfl⟩
  rw [ev2871]; clear ev2871
  refine WQ_copy0 (N := 4) dX4_become_47 lX4_46 ⟨by decide, Nat.le_of_ble_eq_true rfl⟩ (lyx_is hy 54 13 rfl) (lyx_is hy 67 13 rfl) hv2869 hv2870 hv2871 (lyx_n hy 54 4 rfl) (lyx_n hy 67 4 rfl) (fun I2872 fI2872 oI2872 => ?_)
  have hI2872 : XI g n L I2872 := xi_copy hy hI2857 54 67 4 (by decide) (by decide) fI2872 oI2872
  have fr2873 : fz 74 g [66, 67, 68] I I2872 := fzx_cp hy fr2865 oI2872 (by decide) (by decide)
  clear fI2872 oI2872
  have e2874 : I2872 (ad g 1) 1 = L := hI2872.2
  have b2875 := BT_get hI2872.1 1 1 2 (0) (0) (900) (by decide) 1 (by decide) (by decide)
  rw [e2874] at b2875
  refine WP_aload_n dX4_become_50 rfl ?_
  refine WP_getr dX4_become_51 fX4_15 rfl (lyx_is hy 53 4 rfl) (rfx hr 53 5 55 (by decide)) ?_
  refine WQ_iconst (0) (0) dX4_become_54 rfl rfl (fun v2876 hv2876 => ?_)
  refine WP_aload_n dX4_become_55 rfl ?_
  refine WP_getr dX4_become_56 fX4_15 rfl (lyx_is hy 66 4 rfl) (rfx hr 66 5 68 (by decide)) ?_
  refine WQ_iconst (0) (0) dX4_become_59 rfl rfl (fun v2877 hv2877 => ?_)
  refine WP_aload_n dX4_become_60 rfl ?_
  refine WP_getr dX4_become_61 fX4_15 rfl (lyx_is hy 66 4 rfl) (rfx hr 66 5 68 (by decide)) ?_
  refine WP_alen dX4_become_64 (lyx_is hy 68 13 rfl) (by decide) ?_
  rw [(lyx_n hy 68 28 rfl)]
  obtain ⟨v2878, hv2878, ev2878⟩ : ∃ v : Int32, v.toInt = 28 ∧ nI 28 = v := ⟨_, nI_toInt (by decide), rfl⟩
  rw [ev2878]; clear ev2878
  refine WQ_copy0 (N := 28) dX4_become_65 lX4_46 ⟨by decide, Nat.le_of_ble_eq_true rfl⟩ (lyx_is hy 55 13 rfl) (lyx_is hy 68 13 rfl) hv2876 hv2877 hv2878 (lyx_n hy 55 28 rfl) (lyx_n hy 68 28 rfl) (fun I2879 fI2879 oI2879 => ?_)
  have hI2879 : XI g n L I2879 := xi_copy hy hI2872 55 68 28 (by decide) (by decide) fI2879 oI2879
  have fr2880 : fz 74 g [66, 67, 68] I I2879 := fzx_cp hy fr2873 oI2879 (by decide) (by decide)
  clear fI2879 oI2879
  have e2881 : I2879 (ad g 1) 1 = L := hI2879.2
  have b2882 := BT_get hI2879.1 1 1 2 (0) (0) (900) (by decide) 1 (by decide) (by decide)
  rw [e2881] at b2882
  exact WP_vret dX4_become_68 rfl ⟨⟨hI2879, rfl, fr2880, fr2868⟩, rfl⟩
set_option maxHeartbeats 4000000 in
set_option maxRecDepth 100000 in
theorem sx_round {g : GG} {n : Int} {L : Int32} (hy : LyX g)  {I : pI} {J : pJ} {R : pR} (hr : RfX g R) (hI : XI g n L I)   : SP g mX4_round [.ref (ad g 53)] I J R (fun r I' J' R' => (I' = I ∧ J' = J ∧ R' = R) ∧ ∃ v : Int32, r = some (.int v)) := by
  refine SP_of ⟨by decide, rfl⟩ (Nat.le_of_ble_eq_true rfl) ?_
  have e2883 : I (ad g 1) 1 = L := hI.2
  have b2884 := BT_get hI.1 1 1 2 (0) (0) (900) (by decide) 1 (by decide) (by decide)
  rw [e2883] at b2884
  refine WP_aload_n dX4_round_0 rfl ?_
  refine WQ_getl dX4_round_1 fX4_28 rfl (lyx_is hy 53 4 rfl) (fun l2885 el2885 => ?_)
  refine WP_lconst (0) dX4_round_4 rfl ?_
  obtain ⟨l2886, hl2886, el2886⟩ : ∃ v : Int64, v.toInt = 0 ∧ (0 : Int64) = v := ⟨_, rfl, rfl⟩
  rw [el2886]; clear el2886
  refine WQ_lcmp dX4_round_5 (fun v2887 av2887 bv2887 => ?_)
  refine WQ_if_ne 11 dX4_round_6 rfl (fun c2887 => ?_) (fun c2887 => ?_)
  · refine WP_ldc2 (2147483647) dX4_round_11 klX4_52 ?_
    obtain ⟨l2889, hl2889, el2889⟩ : ∃ v : Int64, v.toInt = (2147483647) ∧ ((2147483647) : Int64) = v := ⟨_, rfl, rfl⟩
    rw [el2889]; clear el2889
    refine WP_ldc2 (1000) dX4_round_14 klX4_54 ?_
    obtain ⟨l2890, hl2890, el2890⟩ : ∃ v : Int64, v.toInt = (1000) ∧ ((1000) : Int64) = v := ⟨_, rfl, rfl⟩
    rw [el2890]; clear el2890
    refine WP_aload_n dX4_round_17 rfl ?_
    refine WQ_iconst (2) (2) dX4_round_18 rfl rfl (fun v2891 hv2891 => ?_)
    refine WP_callV1 (k := 4) dX4_round_19 ⟨⟨⟨by decide, by decide⟩, zX4_sum⟩, lX4_56, by decide, rfl, vX4_sum.1, vX4_sum.2⟩ (lyx_is hy 53 4 rfl) (sx_sum_53 hy hr hI v2891 (by omega) (by omega)) (Nat.le_of_ble_eq_true rfl) ?_
    intro r Ia Ja Ra hq
    obtain ⟨⟨ea, eb, ec⟩, v2892, rfl⟩ := hq
    show WP _ _ _ _ (.int _ :: _) _ _ _ _
    rw [ea, eb, ec]
    clear ea eb ec Ia Ja Ra
    refine WQ_i2l dX4_round_22 (fun l2893 hl2893 => ?_)
    refine WQ_lmul dX4_round_23 (fun l2894 => ?_)
    refine WP_aload_n dX4_round_24 rfl ?_
    refine WP_getl dX4_round_25 fX4_28 rfl (lyx_is hy 53 4 rfl) ?_
    rw [el2885]
    refine WQ_ldiv dX4_round_28 (by omega) (fun l2895 => ?_)
    refine WQ_minl dX4_round_29 lX4_60 ⟨by decide, Nat.le_of_ble_eq_true rfl⟩ (fun l2896 => ?_)
    refine WQ_l2i dX4_round_32 (fun v2897 => ?_)
    exact WP_iret dX4_round_33 rfl ⟨⟨rfl, rfl, rfl⟩, _, rfl⟩
  · refine WQ_iconst (-1) (-1) dX4_round_9 rfl rfl (fun v2898 hv2898 => ?_)
    exact WP_iret dX4_round_10 rfl ⟨⟨rfl, rfl, rfl⟩, _, rfl⟩
