set_option maxHeartbeats 4000000 in
set_option maxRecDepth 100000 in
theorem sx_sum_53 {g : GG} {n : Int} {L : Int32} (hy : LyX g)  {I : pI} {J : pJ} {R : pR} (hr : RfX g R) (hI : XI g n L I) (wh : Int32) (wh_lo : 0 ≤ wh.toInt) (wh_hi : wh.toInt ≤ 6) : SP g mX4_sum [.ref (ad g 53), .int wh] I J R (fun r I' J' R' => (I' = I ∧ J' = J ∧ R' = R) ∧ ∃ v : Int32, r = some (.int v)) := by
  refine SP_of ⟨by decide, rfl⟩ (Nat.le_of_ble_eq_true rfl) ?_
  have e2017 : I (ad g 1) 1 = L := hI.2
  have b2018 := BT_get hI.1 1 1 2 (0) (0) (900) (by decide) 1 (by decide) (by decide)
  rw [e2017] at b2018
  refine WQ_iconst (0) (0) dX4_sum_0 rfl rfl (fun v2019 hv2019 => ?_)
  refine WP_istore_n (ls' := [(0, _), (1, _), (2, _)]) dX4_sum_1 (by decide) rfl ?_
  refine WQ_iconst (0) (0) dX4_sum_2 rfl rfl (fun v2020 hv2020 => ?_)
  refine WP_istore_n (ls' := [(0, _), (1, _), (2, _), (3, _)]) dX4_sum_3 (by decide) rfl ?_
  have lp4_2022 : ∀ (mz : Nat) (i2021 : Int32) (i2022 : Int32), 0 ≤ i2022.toInt → i2022.toInt ≤ 4 → (5 - i2022.toInt).toNat < mz → WP g mX4_sum 4 [(0, .ref (ad g 53)), (1, .int wh), (2, .int i2021), (3, .int i2022)] [] I J R (fun r I' J' R' => (I' = I ∧ J' = J ∧ R' = R) ∧ ∃ v : Int32, r = some (.int v)) := by
    intro mz
    induction mz with
    | zero =>
      intro i2021 i2022 ai2022 bi2022 hmlp4_2022
      exact absurd hmlp4_2022 (Nat.not_lt_zero _)
    | succ mz ihlp4_2022 =>
      intro i2021 i2022 ai2022 bi2022 hmlp4_2022
      refine WP_iload_n dX4_sum_4 rfl ?_
      refine WQ_iconst (4) (4) dX4_sum_5 rfl rfl (fun v2024 hv2024 => ?_)
      refine WQ_icmp_ge 29 dX4_sum_6 rfl (fun c2024 => ?_) (fun c2024 => ?_)
      · refine WP_iload_n dX4_sum_29 rfl ?_
        exact WP_iret dX4_sum_30 rfl ⟨⟨rfl, rfl, rfl⟩, _, rfl⟩
      · refine WP_iload_n dX4_sum_9 rfl ?_
        refine WP_aload_n dX4_sum_10 rfl ?_
        refine WP_getr dX4_sum_11 fX4_15 rfl (lyx_is hy 53 4 rfl) (rfx hr 53 5 55 (by decide)) ?_
        refine WP_iload_n dX4_sum_14 rfl ?_
        refine WQ_bipush (7) (7) dX4_sum_15 rfl rfl (fun v2026 hv2026 => ?_)
        refine WQ_imulk (7) dX4_sum_17 hv2026 (by omega) (by omega) (fun v2027 hv2027 => ?_)
        refine WP_iload_n dX4_sum_18 rfl ?_
        refine WQ_iadd dX4_sum_19 (by omega) (by omega) (fun v2028 hv2028 => ?_)
        refine WQ_ialdu dX4_sum_20 (lyx_is hy 55 13 rfl) (lyx_n hy 55 28 rfl) (by omega) (by omega) (fun v2029 => ?_)
        refine WQ_iaddu dX4_sum_21 (fun v2030 => ?_)
        refine WP_istore_n (ls' := [(0, _), (1, _), (2, _), (3, _)]) dX4_sum_22 (by decide) rfl ?_
        refine WP_iinc (ls' := [(0, _), (1, _), (2, _), (3, _)]) dX4_sum_23 rfl (by decide) rfl ?_
        have hv2031 : (i2022 + Int32.ofInt (1)).toInt = i2022.toInt + (1) := ia_n rfl (by omega) (by omega)
        generalize i2022 + Int32.ofInt (1) = v2031 at hv2031 ⊢
        refine WP_goto 4 dX4_sum_26 rfl ?_
        exact WP_sub (fc rfl (fc rfl (fc rfl (fc rfl fn)))) (ihlp4_2022 v2030 v2031 (by omega) (by omega) (by omega))
  exact WP_sub (fc rfl (fc rfl (fc rfl (fc rfl fn)))) (lp4_2022 _ v2019 v2020 (by omega) (by omega) (Nat.lt_succ_self _))
set_option maxHeartbeats 4000000 in
set_option maxRecDepth 100000 in
theorem sx_begin_53_6 {g : GG} {n : Int} {L : Int32} (hy : LyX g)  {I : pI} {J : pJ} {R : pR} (hr : RfX g R) (hI : XI g n L I)   (hn : 0 ≤ n) : SP g mX4_begin [.ref (ad g 53), .ref (ad g 6)] I J R (fun r I' J' R' => (XI g n L I' ∧ R' = R ∧ fz 74 g [53, 55] I I' ∧ fz 74 g [53] J J') ∧ r = none) := by
  refine SP_of ⟨by decide, rfl⟩ (Nat.le_of_ble_eq_true rfl) ?_
  have e2032 : I (ad g 1) 1 = L := hI.2
  have b2033 := BT_get hI.1 1 1 2 (0) (0) (900) (by decide) 1 (by decide) (by decide)
  rw [e2032] at b2033
  have fr0 : fz 74 g [53, 55] I I := fz_rf
  have frj0 : fz 74 g [53] J J := fz_rf
  refine WP_aload_n dX4_begin_0 rfl ?_
  refine WQ_iconst (0) (0) dX4_begin_1 rfl rfl (fun v2034 hv2034 => ?_)
  refine WQ_puti dX4_begin_2 fX4_18 rfl rfl (lyx_is hy 53 4 rfl) (fun I2035 eI2035 => ?_)
  have hI2035 : XI g n L I2035 := by rw [eI2035]; exact (xi_f0 hy hI (c := 53) (by decide) (Or.inl (by decide)) (by decide))
  have e2036 : I2035 (ad g 1) 1 = L := by rw [eI2035, pp_ne _ _ (Or.inl (lyx_ne hy (by decide) (by decide) (by decide)))]; exact e2032
  have e2037 : I2035 (ad g 53) 0 = v2034 := by rw [eI2035, pp_self]
  have fr2038 : fz 74 g [53, 55] I I2035 := by rw [eI2035]; exact fzx_pp hy fr0 (by decide) (by decide)
  clear eI2035
  refine WP_aload_n dX4_begin_5 rfl ?_
  refine WQ_iconst (0) (0) dX4_begin_6 rfl rfl (fun v2039 hv2039 => ?_)
  refine WQ_puti dX4_begin_7 fX4_22 rfl rfl (lyx_is hy 53 4 rfl) (fun I2040 eI2040 => ?_)
  have hI2040 : XI g n L I2040 := by rw [eI2040]; exact (xi_f hy hI2035 (c := 53) (0) (23760) (0) (by decide) (Or.inl (by decide)) (by decide) (by omega) (by omega))
  have e2041 : I2040 (ad g 1) 1 = L := by rw [eI2040, pp_ne _ _ (Or.inl (lyx_ne hy (by decide) (by decide) (by decide)))]; exact e2036
  have e2042 : I2040 (ad g 53) 0 = v2034 := by rw [eI2040, pp_ne _ _ (Or.inr (by decide))]; exact e2037
  have e2043 : I2040 (ad g 53) 1 = v2039 := by rw [eI2040, pp_self]
  have fr2044 : fz 74 g [53, 55] I I2040 := by rw [eI2040]; exact fzx_pp hy fr2038 (by decide) (by decide)
  clear eI2040
  refine WP_aload_n dX4_begin_10 rfl ?_
  refine WQ_iconst (0) (0) dX4_begin_11 rfl rfl (fun v2045 hv2045 => ?_)
  refine WQ_puti dX4_begin_12 fX4_25 rfl rfl (lyx_is hy 53 4 rfl) (fun I2046 eI2046 => ?_)
  have hI2046 : XI g n L I2046 := by rw [eI2046]; exact (xi_f0 hy hI2040 (c := 53) (by decide) (Or.inl (by decide)) (by decide))
  have e2047 : I2046 (ad g 1) 1 = L := by rw [eI2046, pp_ne _ _ (Or.inl (lyx_ne hy (by decide) (by decide) (by decide)))]; exact e2041
  have e2048 : I2046 (ad g 53) 0 = v2034 := by rw [eI2046, pp_ne _ _ (Or.inr (by decide))]; exact e2042
  have e2049 : I2046 (ad g 53) 1 = v2039 := by rw [eI2046, pp_ne _ _ (Or.inr (by decide))]; exact e2043
  have e2050 : I2046 (ad g 53) 2 = v2045 := by rw [eI2046, pp_self]
  have fr2051 : fz 74 g [53, 55] I I2046 := by rw [eI2046]; exact fzx_pp hy fr2044 (by decide) (by decide)
  clear eI2046
  refine WP_aload_n dX4_begin_15 rfl ?_
  refine WP_lconst (0) dX4_begin_16 rfl ?_
  obtain ⟨l2052, hl2052, el2052⟩ : ∃ v : Int64, v.toInt = 0 ∧ (0 : Int64) = v := ⟨_, rfl, rfl⟩
  rw [el2052]; clear el2052
  refine WQ_putl dX4_begin_17 fX4_28 rfl rfl (lyx_is hy 53 4 rfl) (fun J2053 eJ2053 => ?_)
  have fr2054 : fz 74 g [53] J J2053 := by rw [eJ2053]; exact fzx_pp hy frj0 (by decide) (by decide)
  clear eJ2053
  refine WP_aload_n dX4_begin_20 rfl ?_
  refine WP_getr dX4_begin_21 fX4_15 rfl (lyx_is hy 53 4 rfl) (rfx hr 53 5 55 (by decide)) ?_
  refine WQ_iconst (0) (0) dX4_begin_24 rfl rfl (fun v2055 hv2055 => ?_)
  refine WP_callS2u dX4_begin_25 ⟨⟨⟨by decide, by decide⟩, zJ7_fill_53178⟩, lX4_32, tJ7_fill_53178⟩ (s_fill hy hr 55 28 rfl rfl (by decide) v2055) (Nat.le_of_ble_eq_true rfl) ?_
  obtain ⟨I2056, eI2056⟩ : ∃ I9 : pI, I9 = fi I2046 (ad g 55) 28 v2055 := ⟨_, rfl⟩
  rw [← eI2056]
  have hI2056 : XI g n L I2056 := by rw [eI2056]; exact (fa_fill hy hI2046 (c := 55) 28 (by decide) hv2055)
  have e2057 : I2056 (ad g 1) 1 = L := by rw [eI2056, fi_off (lyx_ne hy (by decide) (by decide) (by decide))]; exact e2047
  have e2058 : I2056 (ad g 53) 0 = v2034 := by rw [eI2056, fi_off (lyx_ne hy (by decide) (by decide) (by decide))]; exact e2048
  have e2059 : I2056 (ad g 53) 1 = v2039 := by rw [eI2056, fi_off (lyx_ne hy (by decide) (by decide) (by decide))]; exact e2049
  have e2060 : I2056 (ad g 53) 2 = v2045 := by rw [eI2056, fi_off (lyx_ne hy (by decide) (by decide) (by decide))]; exact e2050
  have fr2061 : fz 74 g [53, 55] I I2056 := by rw [eI2056]; exact fzx_fi hy fr2051 (by decide) (by decide)
  clear eI2056
  refine WQ_iconst (0) (0) dX4_begin_28 rfl rfl (fun v2062 hv2062 => ?_)
  refine WP_istore_n (ls' := [(0, _), (1, _), (2, _)]) dX4_begin_29 (by decide) rfl ?_
  have lp30_2065 : ∀ (mz : Nat) (i2063 : Int32) (I2064 : pI) (J2065 : pJ), XI g n L I2064 → fz 74 g [53, 55] I I2064 → fz 74 g [53] J J2065 → 0 ≤ i2063.toInt → i2063.toInt ≤ 4 → (5 - i2063.toInt).toNat < mz → WP g mX4_begin 30 [(0, .ref (ad g 53)), (1, .ref (ad g 6)), (2, .int i2063)] [] I2064 J2065 R (fun r I' J' R' => (XI g n L I' ∧ R' = R ∧ fz 74 g [53, 55] I I' ∧ fz 74 g [53] J J') ∧ r = none) := by
    intro mz
    induction mz with
    | zero =>
      intro i2063 I2064 J2065 hI2064 fiI2064 fjJ2065 ai2063 bi2063 hmlp30_2065
      exact absurd hmlp30_2065 (Nat.not_lt_zero _)
    | succ mz ihlp30_2065 =>
      intro i2063 I2064 J2065 hI2064 fiI2064 fjJ2065 ai2063 bi2063 hmlp30_2065
      have e2067 : I2064 (ad g 1) 1 = L := hI2064.2
      have b2068 := BT_get hI2064.1 1 1 2 (0) (0) (900) (by decide) 1 (by decide) (by decide)
      rw [e2067] at b2068
      refine WP_iload_n dX4_begin_30 rfl ?_
      refine WP_aload_n dX4_begin_31 rfl ?_
      refine WQ_geti dX4_begin_32 fX4_38 rfl (lyx_is hy 6 7 rfl) (BT_get hI2064.1 6 1 2 (0) (0) (4) (by decide) 1 (by decide) (by decide)) (fun v2069 ev2069 av2069 bv2069 => ?_)
      refine WQ_icmp_ge 61 dX4_begin_35 rfl (fun c2069 => ?_) (fun c2069 => ?_)
      · exact WP_vret dX4_begin_61 rfl ⟨⟨hI2064, rfl, fiI2064, fjJ2065⟩, rfl⟩
      · refine WP_aload_n dX4_begin_38 rfl ?_
        refine WP_getr dX4_begin_39 fX4_15 rfl (lyx_is hy 53 4 rfl) (rfx hr 53 5 55 (by decide)) ?_
        refine WP_iload_n dX4_begin_42 rfl ?_
        refine WQ_bipush (7) (7) dX4_begin_43 rfl rfl (fun v2071 hv2071 => ?_)
        refine WQ_imulk (7) dX4_begin_45 hv2071 (by omega) (by omega) (fun v2072 hv2072 => ?_)
        refine WQ_iconst (0) (0) dX4_begin_46 rfl rfl (fun v2073 hv2073 => ?_)
        refine WQ_iadd dX4_begin_47 (by omega) (by omega) (fun v2074 hv2074 => ?_)
        refine WP_aload_n dX4_begin_48 rfl ?_
        refine WP_getr dX4_begin_49 fX4_43 rfl (lyx_is hy 6 7 rfl) (rfx hr 6 8 10 (by decide)) ?_
        refine WP_iload_n dX4_begin_52 rfl ?_
        refine WQ_iald dX4_begin_53 (lyx_is hy 10 13 rfl) (lyx_n hy 10 4 rfl) (by omega) (by omega) (fun q hq => BT_get hI2064.1 10 0 4 (0) (0) (60) (by decide) q (Nat.zero_le _) hq) (fun v2075 av2075 bv2075 ev2075 => ?_)
        clear ev2075
        refine WQ_iast dX4_begin_54 (lyx_is hy 55 13 rfl) (lyx_n hy 55 28 rfl) (by omega) (by omega) (fun I2076 eI2076 => ?_)
        have hI2076 : XI g n L I2076 := by rw [eI2076]; exact (fa_put hy hI2064 (c := 55) (k := 0) (s := i2063.toInt.toNat) (by decide) (by omega) (by decide) (by rw [cl (n := 7 * i2063.toInt.toNat + 0) (by omega)]) (fun _ => by omega) (fun _ => by omega))
        have e2077 : I2076 (ad g 1) 1 = L := by rw [eI2076, pp_ne _ _ (Or.inl (lyx_ne hy (by decide) (by decide) (by decide)))]; exact e2067
        have e2078 : I2076 (ad g 6) 1 = v2069 := by rw [eI2076, pp_ne _ _ (Or.inl (lyx_ne hy (by decide) (by decide) (by decide)))]; exact ev2069
        have fr2079 : fz 74 g [53, 55] I I2076 := by rw [eI2076]; exact fzx_pp hy fiI2064 (by decide) (by decide)
        clear eI2076
        refine WP_iinc (ls' := [(0, _), (1, _), (2, _)]) dX4_begin_55 rfl (by decide) rfl ?_
        have hv2080 : (i2063 + Int32.ofInt (1)).toInt = i2063.toInt + (1) := ia_n rfl (by omega) (by omega)
        generalize i2063 + Int32.ofInt (1) = v2080 at hv2080 ⊢
        refine WP_goto 30 dX4_begin_58 rfl ?_
        exact WP_sub (fc rfl (fc rfl (fc rfl fn))) (ihlp30_2065 v2080 I2076 J2065 hI2076 fr2079 fjJ2065 (by omega) (by omega) (by omega))
  exact WP_sub (fc rfl (fc rfl (fc rfl fn))) (lp30_2065 _ v2062 I2056 J2053 hI2056 fr2061 fr2054 (by omega) (by omega) (Nat.lt_succ_self _))
set_option maxHeartbeats 4000000 in
set_option maxRecDepth 100000 in
theorem sx_begin_53_27 {g : GG} {n : Int} {L : Int32} (hy : LyX g)  {I : pI} {J : pJ} {R : pR} (hr : RfX g R) (hI : XI g n L I)   (hn : 0 ≤ n) : SP g mX4_begin [.ref (ad g 53), .ref (ad g 27)] I J R (fun r I' J' R' => (XI g n L I' ∧ R' = R ∧ fz 74 g [53, 55] I I' ∧ fz 74 g [53] J J') ∧ r = none) := by
  refine SP_of ⟨by decide, rfl⟩ (Nat.le_of_ble_eq_true rfl) ?_
  have e2081 : I (ad g 1) 1 = L := hI.2
  have b2082 := BT_get hI.1 1 1 2 (0) (0) (900) (by decide) 1 (by decide) (by decide)
  rw [e2081] at b2082
  have fr0 : fz 74 g [53, 55] I I := fz_rf
  have frj0 : fz 74 g [53] J J := fz_rf
  refine WP_aload_n dX4_begin_0 rfl ?_
  refine WQ_iconst (0) (0) dX4_begin_1 rfl rfl (fun v2083 hv2083 => ?_)
  refine WQ_puti dX4_begin_2 fX4_18 rfl rfl (lyx_is hy 53 4 rfl) (fun I2084 eI2084 => ?_)
  have hI2084 : XI g n L I2084 := by rw [eI2084]; exact (xi_f0 hy hI (c := 53) (by decide) (Or.inl (by decide)) (by decide))
  have e2085 : I2084 (ad g 1) 1 = L := by rw [eI2084, pp_ne _ _ (Or.inl (lyx_ne hy (by decide) (by decide) (by decide)))]; exact e2081
  have e2086 : I2084 (ad g 53) 0 = v2083 := by rw [eI2084, pp_self]
  have fr2087 : fz 74 g [53, 55] I I2084 := by rw [eI2084]; exact fzx_pp hy fr0 (by decide) (by decide)
  clear eI2084
  refine WP_aload_n dX4_begin_5 rfl ?_
  refine WQ_iconst (0) (0) dX4_begin_6 rfl rfl (fun v2088 hv2088 => ?_)
  refine WQ_puti dX4_begin_7 fX4_22 rfl rfl (lyx_is hy 53 4 rfl) (fun I2089 eI2089 => ?_)
  have hI2089 : XI g n L I2089 := by rw [eI2089]; exact (xi_f hy hI2084 (c := 53) (0) (23760) (0) (by decide) (Or.inl (by decide)) (by decide) (by omega) (by omega))
  have e2090 : I2089 (ad g 1) 1 = L := by rw [eI2089, pp_ne _ _ (Or.inl (lyx_ne hy (by decide) (by decide) (by decide)))]; exact e2085
  have e2091 : I2089 (ad g 53) 0 = v2083 := by rw [eI2089, pp_ne _ _ (Or.inr (by decide))]; exact e2086
  have e2092 : I2089 (ad g 53) 1 = v2088 := by rw [eI2089, pp_self]
  have fr2093 : fz 74 g [53, 55] I I2089 := by rw [eI2089]; exact fzx_pp hy fr2087 (by decide) (by decide)
  clear eI2089
  refine WP_aload_n dX4_begin_10 rfl ?_
  refine WQ_iconst (0) (0) dX4_begin_11 rfl rfl (fun v2094 hv2094 => ?_)
  refine WQ_puti dX4_begin_12 fX4_25 rfl rfl (lyx_is hy 53 4 rfl) (fun I2095 eI2095 => ?_)
  have hI2095 : XI g n L I2095 := by rw [eI2095]; exact (xi_f0 hy hI2089 (c := 53) (by decide) (Or.inl (by decide)) (by decide))
  have e2096 : I2095 (ad g 1) 1 = L := by rw [eI2095, pp_ne _ _ (Or.inl (lyx_ne hy (by decide) (by decide) (by decide)))]; exact e2090
  have e2097 : I2095 (ad g 53) 0 = v2083 := by rw [eI2095, pp_ne _ _ (Or.inr (by decide))]; exact e2091
  have e2098 : I2095 (ad g 53) 1 = v2088 := by rw [eI2095, pp_ne _ _ (Or.inr (by decide))]; exact e2092
  have e2099 : I2095 (ad g 53) 2 = v2094 := by rw [eI2095, pp_self]
  have fr2100 : fz 74 g [53, 55] I I2095 := by rw [eI2095]; exact fzx_pp hy fr2093 (by decide) (by decide)
  clear eI2095
  refine WP_aload_n dX4_begin_15 rfl ?_
  refine WP_lconst (0) dX4_begin_16 rfl ?_
  obtain ⟨l2101, hl2101, el2101⟩ : ∃ v : Int64, v.toInt = 0 ∧ (0 : Int64) = v := ⟨_, rfl, rfl⟩
  rw [el2101]; clear el2101
  refine WQ_putl dX4_begin_17 fX4_28 rfl rfl (lyx_is hy 53 4 rfl) (fun J2102 eJ2102 => ?_)
  have fr2103 : fz 74 g [53] J J2102 := by rw [eJ2102]; exact fzx_pp hy frj0 (by decide) (by decide)
  clear eJ2102
  refine WP_aload_n dX4_begin_20 rfl ?_
  refine WP_getr dX4_begin_21 fX4_15 rfl (lyx_is hy 53 4 rfl) (rfx hr 53 5 55 (by decide)) ?_
  refine WQ_iconst (0) (0) dX4_begin_24 rfl rfl (fun v2104 hv2104 => ?_)
  refine WP_callS2u dX4_begin_25 ⟨⟨⟨by decide, by decide⟩, zJ7_fill_53178⟩, lX4_32, tJ7_fill_53178⟩ (s_fill hy hr 55 28 rfl rfl (by decide) v2104) (Nat.le_of_ble_eq_true rfl) ?_
  obtain ⟨I2105, eI2105⟩ : ∃ I9 : pI, I9 = fi I2095 (ad g 55) 28 v2104 := ⟨_, rfl⟩
  rw [← eI2105]
  have hI2105 : XI g n L I2105 := by rw [eI2105]; exact (fa_fill hy hI2095 (c := 55) 28 (by decide) hv2104)
  have e2106 : I2105 (ad g 1) 1 = L := by rw [eI2105, fi_off (lyx_ne hy (by decide) (by decide) (by decide))]; exact e2096
  have e2107 : I2105 (ad g 53) 0 = v2083 := by rw [eI2105, fi_off (lyx_ne hy (by decide) (by decide) (by decide))]; exact e2097
  have e2108 : I2105 (ad g 53) 1 = v2088 := by rw [eI2105, fi_off (lyx_ne hy (by decide) (by decide) (by decide))]; exact e2098
  have e2109 : I2105 (ad g 53) 2 = v2094 := by rw [eI2105, fi_off (lyx_ne hy (by decide) (by decide) (by decide))]; exact e2099
  have fr2110 : fz 74 g [53, 55] I I2105 := by rw [eI2105]; exact fzx_fi hy fr2100 (by decide) (by decide)
  clear eI2105
  refine WQ_iconst (0) (0) dX4_begin_28 rfl rfl (fun v2111 hv2111 => ?_)
  refine WP_istore_n (ls' := [(0, _), (1, _), (2, _)]) dX4_begin_29 (by decide) rfl ?_
  have lp30_2114 : ∀ (mz : Nat) (i2112 : Int32) (I2113 : pI) (J2114 : pJ), XI g n L I2113 → fz 74 g [53, 55] I I2113 → fz 74 g [53] J J2114 → 0 ≤ i2112.toInt → i2112.toInt ≤ 4 → (5 - i2112.toInt).toNat < mz → WP g mX4_begin 30 [(0, .ref (ad g 53)), (1, .ref (ad g 27)), (2, .int i2112)] [] I2113 J2114 R (fun r I' J' R' => (XI g n L I' ∧ R' = R ∧ fz 74 g [53, 55] I I' ∧ fz 74 g [53] J J') ∧ r = none) := by
    intro mz
    induction mz with
    | zero =>
      intro i2112 I2113 J2114 hI2113 fiI2113 fjJ2114 ai2112 bi2112 hmlp30_2114
      exact absurd hmlp30_2114 (Nat.not_lt_zero _)
    | succ mz ihlp30_2114 =>
      intro i2112 I2113 J2114 hI2113 fiI2113 fjJ2114 ai2112 bi2112 hmlp30_2114
      have e2116 : I2113 (ad g 1) 1 = L := hI2113.2
      have b2117 := BT_get hI2113.1 1 1 2 (0) (0) (900) (by decide) 1 (by decide) (by decide)
      rw [e2116] at b2117
      refine WP_iload_n dX4_begin_30 rfl ?_
      refine WP_aload_n dX4_begin_31 rfl ?_
      refine WQ_geti dX4_begin_32 fX4_38 rfl (lyx_is hy 27 7 rfl) (BT_get hI2113.1 27 1 2 (0) (0) (4) (by decide) 1 (by decide) (by decide)) (fun v2118 ev2118 av2118 bv2118 => ?_)
      refine WQ_icmp_ge 61 dX4_begin_35 rfl (fun c2118 => ?_) (fun c2118 => ?_)
      · exact WP_vret dX4_begin_61 rfl ⟨⟨hI2113, rfl, fiI2113, fjJ2114⟩, rfl⟩
      · refine WP_aload_n dX4_begin_38 rfl ?_
        refine WP_getr dX4_begin_39 fX4_15 rfl (lyx_is hy 53 4 rfl) (rfx hr 53 5 55 (by decide)) ?_
        refine WP_iload_n dX4_begin_42 rfl ?_
        refine WQ_bipush (7) (7) dX4_begin_43 rfl rfl (fun v2120 hv2120 => ?_)
        refine WQ_imulk (7) dX4_begin_45 hv2120 (by omega) (by omega) (fun v2121 hv2121 => ?_)
        refine WQ_iconst (0) (0) dX4_begin_46 rfl rfl (fun v2122 hv2122 => ?_)
        refine WQ_iadd dX4_begin_47 (by omega) (by omega) (fun v2123 hv2123 => ?_)
        refine WP_aload_n dX4_begin_48 rfl ?_
        refine WP_getr dX4_begin_49 fX4_43 rfl (lyx_is hy 27 7 rfl) (rfx hr 27 8 31 (by decide)) ?_
        refine WP_iload_n dX4_begin_52 rfl ?_
        refine WQ_iald dX4_begin_53 (lyx_is hy 31 13 rfl) (lyx_n hy 31 4 rfl) (by omega) (by omega) (fun q hq => BT_get hI2113.1 31 0 4 (0) (0) (60) (by decide) q (Nat.zero_le _) hq) (fun v2124 av2124 bv2124 ev2124 => ?_)
        clear ev2124
        refine WQ_iast dX4_begin_54 (lyx_is hy 55 13 rfl) (lyx_n hy 55 28 rfl) (by omega) (by omega) (fun I2125 eI2125 => ?_)
        have hI2125 : XI g n L I2125 := by rw [eI2125]; exact (fa_put hy hI2113 (c := 55) (k := 0) (s := i2112.toInt.toNat) (by decide) (by omega) (by decide) (by rw [cl (n := 7 * i2112.toInt.toNat + 0) (by omega)]) (fun _ => by omega) (fun _ => by omega))
        have e2126 : I2125 (ad g 1) 1 = L := by rw [eI2125, pp_ne _ _ (Or.inl (lyx_ne hy (by decide) (by decide) (by decide)))]; exact e2116
        have e2127 : I2125 (ad g 27) 1 = v2118 := by rw [eI2125, pp_ne _ _ (Or.inl (lyx_ne hy (by decide) (by decide) (by decide)))]; exact ev2118
        have fr2128 : fz 74 g [53, 55] I I2125 := by rw [eI2125]; exact fzx_pp hy fiI2113 (by decide) (by decide)
        clear eI2125
        refine WP_iinc (ls' := [(0, _), (1, _), (2, _)]) dX4_begin_55 rfl (by decide) rfl ?_
        have hv2129 : (i2112 + Int32.ofInt (1)).toInt = i2112.toInt + (1) := ia_n rfl (by omega) (by omega)
        generalize i2112 + Int32.ofInt (1) = v2129 at hv2129 ⊢
        refine WP_goto 30 dX4_begin_58 rfl ?_
        exact WP_sub (fc rfl (fc rfl (fc rfl fn))) (ihlp30_2114 v2129 I2125 J2114 hI2125 fr2128 fjJ2114 (by omega) (by omega) (by omega))
  exact WP_sub (fc rfl (fc rfl (fc rfl fn))) (lp30_2114 _ v2111 I2105 J2102 hI2105 fr2110 fr2103 (by omega) (by omega) (Nat.lt_succ_self _))
set_option maxHeartbeats 4000000 in
set_option maxRecDepth 100000 in
theorem sx_become_53_60 {g : GG} {n : Int} {L : Int32} (hy : LyX g)  {I : pI} {J : pJ} {R : pR} (hr : RfX g R) (hI : XI g n L I)   : SP g mX4_become [.ref (ad g 53), .ref (ad g 60)] I J R (fun r I' J' R' => (XI g n L I' ∧ R' = R ∧ fz 74 g [53, 54, 55] I I' ∧ fz 74 g [53] J J') ∧ r = none) := by
  refine SP_of ⟨by decide, rfl⟩ (Nat.le_of_ble_eq_true rfl) ?_
  have e2130 : I (ad g 1) 1 = L := hI.2
  have b2131 := BT_get hI.1 1 1 2 (0) (0) (900) (by decide) 1 (by decide) (by decide)
  rw [e2130] at b2131
  have fr0 : fz 74 g [53, 54, 55] I I := fz_rf
  have frj0 : fz 74 g [53] J J := fz_rf
  refine WP_aload_n dX4_become_0 rfl ?_
  refine WP_aload_n dX4_become_1 rfl ?_
  refine WQ_getiu dX4_become_2 fX4_18 rfl (lyx_is hy 60 4 rfl) (fun v2132 ev2132 => ?_)
  refine WQ_puti dX4_become_5 fX4_18 rfl rfl (lyx_is hy 53 4 rfl) (fun I2133 eI2133 => ?_)
  have hI2133 : XI g n L I2133 := by rw [eI2133]; exact (xi_f0 hy hI (c := 53) (by decide) (Or.inl (by decide)) (by decide))
  have e2134 : I2133 (ad g 1) 1 = L := by rw [eI2133, pp_ne _ _ (Or.inl (lyx_ne hy (by decide) (by decide) (by decide)))]; exact e2130
  have e2135 : I2133 (ad g 60) 0 = v2132 := by rw [eI2133, pp_ne _ _ (Or.inl (lyx_ne hy (by decide) (by decide) (by decide)))]; exact ev2132
  have e2136 : I2133 (ad g 53) 0 = v2132 := by rw [eI2133, pp_self]
  have fr2137 : fz 74 g [53, 54, 55] I I2133 := by rw [eI2133]; exact fzx_pp hy fr0 (by decide) (by decide)
  clear eI2133
  refine WP_aload_n dX4_become_8 rfl ?_
  refine WP_aload_n dX4_become_9 rfl ?_
  refine WQ_geti dX4_become_10 fX4_22 rfl (lyx_is hy 60 4 rfl) (BT_get hI2133.1 60 1 2 (0) (23760) (0) (by decide) 1 (by decide) (by decide)) (fun v2138 ev2138 av2138 bv2138 => ?_)
  refine WQ_puti dX4_become_13 fX4_22 rfl rfl (lyx_is hy 53 4 rfl) (fun I2139 eI2139 => ?_)
  have hI2139 : XI g n L I2139 := by rw [eI2139]; exact (xi_f hy hI2133 (c := 53) (0) (23760) (0) (by decide) (Or.inl (by decide)) (by decide) (by omega) (by omega))
  have e2140 : I2139 (ad g 1) 1 = L := by rw [eI2139, pp_ne _ _ (Or.inl (lyx_ne hy (by decide) (by decide) (by decide)))]; exact e2134
  have e2141 : I2139 (ad g 60) 0 = v2132 := by rw [eI2139, pp_ne _ _ (Or.inl (lyx_ne hy (by decide) (by decide) (by decide)))]; exact e2135
  have e2142 : I2139 (ad g 53) 0 = v2132 := by rw [eI2139, pp_ne _ _ (Or.inr (by decide))]; exact e2136
  have e2143 : I2139 (ad g 60) 1 = v2138 := by rw [eI2139, pp_ne _ _ (Or.inl (lyx_ne hy (by decide) (by decide) (by decide)))]; exact ev2138
  have e2144 : I2139 (ad g 53) 1 = v2138 := by rw [eI2139, pp_self]
  have fr2145 : fz 74 g [53, 54, 55] I I2139 := by rw [eI2139]; exact fzx_pp hy fr2137 (by decide) (by decide)
  clear eI2139
  refine WP_aload_n dX4_become_16 rfl ?_
  refine WP_aload_n dX4_become_17 rfl ?_
  refine WQ_getiu dX4_become_18 fX4_25 rfl (lyx_is hy 60 4 rfl) (fun v2146 ev2146 => ?_)
  refine WQ_puti dX4_become_21 fX4_25 rfl rfl (lyx_is hy 53 4 rfl) (fun I2147 eI2147 => ?_)
  have hI2147 : XI g n L I2147 := by rw [eI2147]; exact (xi_f0 hy hI2139 (c := 53) (by decide) (Or.inl (by decide)) (by decide))
  have e2148 : I2147 (ad g 1) 1 = L := by rw [eI2147, pp_ne _ _ (Or.inl (lyx_ne hy (by decide) (by decide) (by decide)))]; exact e2140
  have e2149 : I2147 (ad g 60) 0 = v2132 := by rw [eI2147, pp_ne _ _ (Or.inl (lyx_ne hy (by decide) (by decide) (by decide)))]; exact e2141
  have e2150 : I2147 (ad g 53) 0 = v2132 := by rw [eI2147, pp_ne _ _ (Or.inr (by decide))]; exact e2142
  have e2151 : I2147 (ad g 60) 1 = v2138 := by rw [eI2147, pp_ne _ _ (Or.inl (lyx_ne hy (by decide) (by decide) (by decide)))]; exact e2143
  have e2152 : I2147 (ad g 53) 1 = v2138 := by rw [eI2147, pp_ne _ _ (Or.inr (by decide))]; exact e2144
  have e2153 : I2147 (ad g 60) 2 = v2146 := by rw [eI2147, pp_ne _ _ (Or.inl (lyx_ne hy (by decide) (by decide) (by decide)))]; exact ev2146
  have e2154 : I2147 (ad g 53) 2 = v2146 := by rw [eI2147, pp_self]
  have fr2155 : fz 74 g [53, 54, 55] I I2147 := by rw [eI2147]; exact fzx_pp hy fr2145 (by decide) (by decide)
  clear eI2147
  refine WP_aload_n dX4_become_24 rfl ?_
  refine WP_aload_n dX4_become_25 rfl ?_
  refine WQ_getl dX4_become_26 fX4_28 rfl (lyx_is hy 60 4 rfl) (fun l2156 el2156 => ?_)
  refine WQ_putl dX4_become_29 fX4_28 rfl rfl (lyx_is hy 53 4 rfl) (fun J2157 eJ2157 => ?_)
  have fr2158 : fz 74 g [53] J J2157 := by rw [eJ2157]; exact fzx_pp hy frj0 (by decide) (by decide)
  clear eJ2157
  refine WP_aload_n dX4_become_32 rfl ?_
  refine WP_getr dX4_become_33 fX4_9 rfl (lyx_is hy 60 4 rfl) (rfx hr 60 4 61 (by decide)) ?_
  refine WQ_iconst (0) (0) dX4_become_36 rfl rfl (fun v2159 hv2159 => ?_)
  refine WP_aload_n dX4_become_37 rfl ?_
  refine WP_getr dX4_become_38 fX4_9 rfl (lyx_is hy 53 4 rfl) (rfx hr 53 4 54 (by decide)) ?_
  refine WQ_iconst (0) (0) dX4_become_41 rfl rfl (fun v2160 hv2160 => ?_)
  refine WP_aload_n dX4_become_42 rfl ?_
  refine WP_getr dX4_become_43 fX4_9 rfl (lyx_is hy 53 4 rfl) (rfx hr 53 4 54 (by decide)) ?_
  refine WP_alen dX4_become_46 (lyx_is hy 54 13 rfl) (by decide) ?_
  rw [(lyx_n hy 54 4 rfl)]
  obtain ⟨v2161, hv2161, ev2161⟩ : ∃ v : Int32, v.toInt = 4 ∧ nI 4 = v := ⟨_, nI_toInt (by decide), rfl⟩
  rw [ev2161]; clear ev2161
  refine WQ_copy0 (N := 4) dX4_become_47 lX4_46 ⟨by decide, Nat.le_of_ble_eq_true rfl⟩ (lyx_is hy 61 13 rfl) (lyx_is hy 54 13 rfl) hv2159 hv2160 hv2161 (lyx_n hy 61 4 rfl) (lyx_n hy 54 4 rfl) (fun I2162 fI2162 oI2162 => ?_)
  have hI2162 : XI g n L I2162 := xi_copy hy hI2147 61 54 4 (by decide) (by decide) fI2162 oI2162
  have fr2163 : fz 74 g [53, 54, 55] I I2162 := fzx_cp hy fr2155 oI2162 (by decide) (by decide)
  clear fI2162 oI2162
  have e2164 : I2162 (ad g 1) 1 = L := hI2162.2
  have b2165 := BT_get hI2162.1 1 1 2 (0) (0) (900) (by decide) 1 (by decide) (by decide)
  rw [e2164] at b2165
  refine WP_aload_n dX4_become_50 rfl ?_
  refine WP_getr dX4_become_51 fX4_15 rfl (lyx_is hy 60 4 rfl) (rfx hr 60 5 62 (by decide)) ?_
  refine WQ_iconst (0) (0) dX4_become_54 rfl rfl (fun v2166 hv2166 => ?_)
  refine WP_aload_n dX4_become_55 rfl ?_
  refine WP_getr dX4_become_56 fX4_15 rfl (lyx_is hy 53 4 rfl) (rfx hr 53 5 55 (by decide)) ?_
  refine WQ_iconst (0) (0) dX4_become_59 rfl rfl (fun v2167 hv2167 => ?_)
  refine WP_aload_n dX4_become_60 rfl ?_
  refine WP_getr dX4_become_61 fX4_15 rfl (lyx_is hy 53 4 rfl) (rfx hr 53 5 55 (by decide)) ?_
  refine WP_alen dX4_become_64 (lyx_is hy 55 13 rfl) (by decide) ?_
  rw [(lyx_n hy 55 28 rfl)]
  obtain ⟨v2168, hv2168, ev2168⟩ : ∃ v : Int32, v.toInt = 28 ∧ nI 28 = v := ⟨_, nI_toInt (by decide), rfl⟩
  rw [ev2168]; clear ev2168
  refine WQ_copy0 (N := 28) dX4_become_65 lX4_46 ⟨by decide, Nat.le_of_ble_eq_true rfl⟩ (lyx_is hy 62 13 rfl) (lyx_is hy 55 13 rfl) hv2166 hv2167 hv2168 (lyx_n hy 62 28 rfl) (lyx_n hy 55 28 rfl) (fun I2169 fI2169 oI2169 => ?_)
  have hI2169 : XI g n L I2169 := xi_copy hy hI2162 62 55 28 (by decide) (by decide) fI2169 oI2169
  have fr2170 : fz 74 g [53, 54, 55] I I2169 := fzx_cp hy fr2163 oI2169 (by decide) (by decide)
  clear fI2169 oI2169
  have e2171 : I2169 (ad g 1) 1 = L := hI2169.2
  have b2172 := BT_get hI2169.1 1 1 2 (0) (0) (900) (by decide) 1 (by decide) (by decide)
  rw [e2171] at b2172
  exact WP_vret dX4_become_68 rfl ⟨⟨hI2169, rfl, fr2170, fr2158⟩, rfl⟩
set_option maxHeartbeats 4000000 in
set_option maxRecDepth 100000 in
theorem sx_become_53_63 {g : GG} {n : Int} {L : Int32} (hy : LyX g)  {I : pI} {J : pJ} {R : pR} (hr : RfX g R) (hI : XI g n L I)   : SP g mX4_become [.ref (ad g 53), .ref (ad g 63)] I J R (fun r I' J' R' => (XI g n L I' ∧ R' = R ∧ fz 74 g [53, 54, 55] I I' ∧ fz 74 g [53] J J') ∧ r = none) := by
  refine SP_of ⟨by decide, rfl⟩ (Nat.le_of_ble_eq_true rfl) ?_
  have e2173 : I (ad g 1) 1 = L := hI.2
  have b2174 := BT_get hI.1 1 1 2 (0) (0) (900) (by decide) 1 (by decide) (by decide)
  rw [e2173] at b2174
  have fr0 : fz 74 g [53, 54, 55] I I := fz_rf
  have frj0 : fz 74 g [53] J J := fz_rf
  refine WP_aload_n dX4_become_0 rfl ?_
  refine WP_aload_n dX4_become_1 rfl ?_
  refine WQ_getiu dX4_become_2 fX4_18 rfl (lyx_is hy 63 4 rfl) (fun v2175 ev2175 => ?_)
  refine WQ_puti dX4_become_5 fX4_18 rfl rfl (lyx_is hy 53 4 rfl) (fun I2176 eI2176 => ?_)
  have hI2176 : XI g n L I2176 := by rw [eI2176]; exact (xi_f0 hy hI (c := 53) (by decide) (Or.inl (by decide)) (by decide))
  have e2177 : I2176 (ad g 1) 1 = L := by rw [eI2176, pp_ne _ _ (Or.inl (lyx_ne hy (by decide) (by decide) (by decide)))]; exact e2173
  have e2178 : I2176 (ad g 63) 0 = v2175 := by rw [eI2176, pp_ne _ _ (Or.inl (lyx_ne hy (by decide) (by decide) (by decide)))]; exact ev2175
  have e2179 : I2176 (ad g 53) 0 = v2175 := by rw [eI2176, pp_self]
  have fr2180 : fz 74 g [53, 54, 55] I I2176 := by rw [eI2176]; exact fzx_pp hy fr0 (by decide) (by decide)
  clear eI2176
  refine WP_aload_n dX4_become_8 rfl ?_
  refine WP_aload_n dX4_become_9 rfl ?_
  refine WQ_geti dX4_become_10 fX4_22 rfl (lyx_is hy 63 4 rfl) (BT_get hI2176.1 63 1 2 (0) (23760) (0) (by decide) 1 (by decide) (by decide)) (fun v2181 ev2181 av2181 bv2181 => ?_)
  refine WQ_puti dX4_become_13 fX4_22 rfl rfl (lyx_is hy 53 4 rfl) (fun I2182 eI2182 => ?_)
  have hI2182 : XI g n L I2182 := by rw [eI2182]; exact (xi_f hy hI2176 (c := 53) (0) (23760) (0) (by decide) (Or.inl (by decide)) (by decide) (by omega) (by omega))
  have e2183 : I2182 (ad g 1) 1 = L := by rw [eI2182, pp_ne _ _ (Or.inl (lyx_ne hy (by decide) (by decide) (by decide)))]; exact e2177
  have e2184 : I2182 (ad g 63) 0 = v2175 := by rw [eI2182, pp_ne _ _ (Or.inl (lyx_ne hy (by decide) (by decide) (by decide)))]; exact e2178
  have e2185 : I2182 (ad g 53) 0 = v2175 := by rw [eI2182, pp_ne _ _ (Or.inr (by decide))]; exact e2179
  have e2186 : I2182 (ad g 63) 1 = v2181 := by rw [eI2182, pp_ne _ _ (Or.inl (lyx_ne hy (by decide) (by decide) (by decide)))]; exact ev2181
  have e2187 : I2182 (ad g 53) 1 = v2181 := by rw [eI2182, pp_self]
  have fr2188 : fz 74 g [53, 54, 55] I I2182 := by rw [eI2182]; exact fzx_pp hy fr2180 (by decide) (by decide)
  clear eI2182
  refine WP_aload_n dX4_become_16 rfl ?_
  refine WP_aload_n dX4_become_17 rfl ?_
  refine WQ_getiu dX4_become_18 fX4_25 rfl (lyx_is hy 63 4 rfl) (fun v2189 ev2189 => ?_)
  refine WQ_puti dX4_become_21 fX4_25 rfl rfl (lyx_is hy 53 4 rfl) (fun I2190 eI2190 => ?_)
  have hI2190 : XI g n L I2190 := by rw [eI2190]; exact (xi_f0 hy hI2182 (c := 53) (by decide) (Or.inl (by decide)) (by decide))
  have e2191 : I2190 (ad g 1) 1 = L := by rw [eI2190, pp_ne _ _ (Or.inl (lyx_ne hy (by decide) (by decide) (by decide)))]; exact e2183
  have e2192 : I2190 (ad g 63) 0 = v2175 := by rw [eI2190, pp_ne _ _ (Or.inl (lyx_ne hy (by decide) (by decide) (by decide)))]; exact e2184
  have e2193 : I2190 (ad g 53) 0 = v2175 := by rw [eI2190, pp_ne _ _ (Or.inr (by decide))]; exact e2185
  have e2194 : I2190 (ad g 63) 1 = v2181 := by rw [eI2190, pp_ne _ _ (Or.inl (lyx_ne hy (by decide) (by decide) (by decide)))]; exact e2186
  have e2195 : I2190 (ad g 53) 1 = v2181 := by rw [eI2190, pp_ne _ _ (Or.inr (by decide))]; exact e2187
  have e2196 : I2190 (ad g 63) 2 = v2189 := by rw [eI2190, pp_ne _ _ (Or.inl (lyx_ne hy (by decide) (by decide) (by decide)))]; exact ev2189
  have e2197 : I2190 (ad g 53) 2 = v2189 := by rw [eI2190, pp_self]
  have fr2198 : fz 74 g [53, 54, 55] I I2190 := by rw [eI2190]; exact fzx_pp hy fr2188 (by decide) (by decide)
  clear eI2190
  refine WP_aload_n dX4_become_24 rfl ?_
  refine WP_aload_n dX4_become_25 rfl ?_
  refine WQ_getl dX4_become_26 fX4_28 rfl (lyx_is hy 63 4 rfl) (fun l2199 el2199 => ?_)
  refine WQ_putl dX4_become_29 fX4_28 rfl rfl (lyx_is hy 53 4 rfl) (fun J2200 eJ2200 => ?_)
  have fr2201 : fz 74 g [53] J J2200 := by rw [eJ2200]; exact fzx_pp hy frj0 (by decide) (by decide)
  clear eJ2200
  refine WP_aload_n dX4_become_32 rfl ?_
  refine WP_getr dX4_become_33 fX4_9 rfl (lyx_is hy 63 4 rfl) (rfx hr 63 4 64 (by decide)) ?_
  refine WQ_iconst (0) (0) dX4_become_36 rfl rfl (fun v2202 hv2202 => ?_)
  refine WP_aload_n dX4_become_37 rfl ?_
  refine WP_getr dX4_become_38 fX4_9 rfl (lyx_is hy 53 4 rfl) (rfx hr 53 4 54 (by decide)) ?_
  refine WQ_iconst (0) (0) dX4_become_41 rfl rfl (fun v2203 hv2203 => ?_)
  refine WP_aload_n dX4_become_42 rfl ?_
  refine WP_getr dX4_become_43 fX4_9 rfl (lyx_is hy 53 4 rfl) (rfx hr 53 4 54 (by decide)) ?_
  refine WP_alen dX4_become_46 (lyx_is hy 54 13 rfl) (by decide) ?_
  rw [(lyx_n hy 54 4 rfl)]
  obtain ⟨v2204, hv2204, ev2204⟩ : ∃ v : Int32, v.toInt = 4 ∧ nI 4 = v := ⟨_, nI_toInt (by decide), rfl⟩
  rw [ev2204]; clear ev2204
  refine WQ_copy0 (N := 4) dX4_become_47 lX4_46 ⟨by decide, Nat.le_of_ble_eq_true rfl⟩ (lyx_is hy 64 13 rfl) (lyx_is hy 54 13 rfl) hv2202 hv2203 hv2204 (lyx_n hy 64 4 rfl) (lyx_n hy 54 4 rfl) (fun I2205 fI2205 oI2205 => ?_)
  have hI2205 : XI g n L I2205 := xi_copy hy hI2190 64 54 4 (by decide) (by decide) fI2205 oI2205
  have fr2206 : fz 74 g [53, 54, 55] I I2205 := fzx_cp hy fr2198 oI2205 (by decide) (by decide)
  clear fI2205 oI2205
  have e2207 : I2205 (ad g 1) 1 = L := hI2205.2
  have b2208 := BT_get hI2205.1 1 1 2 (0) (0) (900) (by decide) 1 (by decide) (by decide)
  rw [e2207] at b2208
  refine WP_aload_n dX4_become_50 rfl ?_
  refine WP_getr dX4_become_51 fX4_15 rfl (lyx_is hy 63 4 rfl) (rfx hr 63 5 65 (by decide)) ?_
  refine WQ_iconst (0) (0) dX4_become_54 rfl rfl (fun v2209 hv2209 => ?_)
  refine WP_aload_n dX4_become_55 rfl ?_
  refine WP_getr dX4_become_56 fX4_15 rfl (lyx_is hy 53 4 rfl) (rfx hr 53 5 55 (by decide)) ?_
  refine WQ_iconst (0) (0) dX4_become_59 rfl rfl (fun v2210 hv2210 => ?_)
  refine WP_aload_n dX4_become_60 rfl ?_
  refine WP_getr dX4_become_61 fX4_15 rfl (lyx_is hy 53 4 rfl) (rfx hr 53 5 55 (by decide)) ?_
  refine WP_alen dX4_become_64 (lyx_is hy 55 13 rfl) (by decide) ?_
  rw [(lyx_n hy 55 28 rfl)]
  obtain ⟨v2211, hv2211, ev2211⟩ : ∃ v : Int32, v.toInt = 28 ∧ nI 28 = v := ⟨_, nI_toInt (by decide), rfl⟩
  rw [ev2211]; clear ev2211
  refine WQ_copy0 (N := 28) dX4_become_65 lX4_46 ⟨by decide, Nat.le_of_ble_eq_true rfl⟩ (lyx_is hy 65 13 rfl) (lyx_is hy 55 13 rfl) hv2209 hv2210 hv2211 (lyx_n hy 65 28 rfl) (lyx_n hy 55 28 rfl) (fun I2212 fI2212 oI2212 => ?_)
  have hI2212 : XI g n L I2212 := xi_copy hy hI2205 65 55 28 (by decide) (by decide) fI2212 oI2212
  have fr2213 : fz 74 g [53, 54, 55] I I2212 := fzx_cp hy fr2206 oI2212 (by decide) (by decide)
  clear fI2212 oI2212
  have e2214 : I2212 (ad g 1) 1 = L := hI2212.2
  have b2215 := BT_get hI2212.1 1 1 2 (0) (0) (900) (by decide) 1 (by decide) (by decide)
  rw [e2214] at b2215
  exact WP_vret dX4_become_68 rfl ⟨⟨hI2212, rfl, fr2213, fr2201⟩, rfl⟩
set_option maxHeartbeats 4000000 in
set_option maxRecDepth 100000 in
theorem sx_become_53_66 {g : GG} {n : Int} {L : Int32} (hy : LyX g)  {I : pI} {J : pJ} {R : pR} (hr : RfX g R) (hI : XI g n L I)   : SP g mX4_become [.ref (ad g 53), .ref (ad g 66)] I J R (fun r I' J' R' => (XI g n L I' ∧ R' = R ∧ fz 74 g [53, 54, 55] I I' ∧ fz 74 g [53] J J') ∧ r = none) := by
  refine SP_of ⟨by decide, rfl⟩ (Nat.le_of_ble_eq_true rfl) ?_
  have e2216 : I (ad g 1) 1 = L := hI.2
  have b2217 := BT_get hI.1 1 1 2 (0) (0) (900) (by decide) 1 (by decide) (by decide)
  rw [e2216] at b2217
  have fr0 : fz 74 g [53, 54, 55] I I := fz_rf
  have frj0 : fz 74 g [53] J J := fz_rf
  refine WP_aload_n dX4_become_0 rfl ?_
  refine WP_aload_n dX4_become_1 rfl ?_
  refine WQ_getiu dX4_become_2 fX4_18 rfl (lyx_is hy 66 4 rfl) (fun v2218 ev2218 => ?_)
  refine WQ_puti dX4_become_5 fX4_18 rfl rfl (lyx_is hy 53 4 rfl) (fun I2219 eI2219 => ?_)
  have hI2219 : XI g n L I2219 := by rw [eI2219]; exact (xi_f0 hy hI (c := 53) (by decide) (Or.inl (by decide)) (by decide))
  have e2220 : I2219 (ad g 1) 1 = L := by rw [eI2219, pp_ne _ _ (Or.inl (lyx_ne hy (by decide) (by decide) (by decide)))]; exact e2216
  have e2221 : I2219 (ad g 66) 0 = v2218 := by rw [eI2219, pp_ne _ _ (Or.inl (lyx_ne hy (by decide) (by decide) (by decide)))]; exact ev2218
  have e2222 : I2219 (ad g 53) 0 = v2218 := by rw [eI2219, pp_self]
  have fr2223 : fz 74 g [53, 54, 55] I I2219 := by rw [eI2219]; exact fzx_pp hy fr0 (by decide) (by decide)
  clear eI2219
  refine WP_aload_n dX4_become_8 rfl ?_
  refine WP_aload_n dX4_become_9 rfl ?_
  refine WQ_geti dX4_become_10 fX4_22 rfl (lyx_is hy 66 4 rfl) (BT_get hI2219.1 66 1 2 (0) (23760) (0) (by decide) 1 (by decide) (by decide)) (fun v2224 ev2224 av2224 bv2224 => ?_)
  refine WQ_puti dX4_become_13 fX4_22 rfl rfl (lyx_is hy 53 4 rfl) (fun I2225 eI2225 => ?_)
  have hI2225 : XI g n L I2225 := by rw [eI2225]; exact (xi_f hy hI2219 (c := 53) (0) (23760) (0) (by decide) (Or.inl (by decide)) (by decide) (by omega) (by omega))
  have e2226 : I2225 (ad g 1) 1 = L := by rw [eI2225, pp_ne _ _ (Or.inl (lyx_ne hy (by decide) (by decide) (by decide)))]; exact e2220
  have e2227 : I2225 (ad g 66) 0 = v2218 := by rw [eI2225, pp_ne _ _ (Or.inl (lyx_ne hy (by decide) (by decide) (by decide)))]; exact e2221
  have e2228 : I2225 (ad g 53) 0 = v2218 := by rw [eI2225, pp_ne _ _ (Or.inr (by decide))]; exact e2222
  have e2229 : I2225 (ad g 66) 1 = v2224 := by rw [eI2225, pp_ne _ _ (Or.inl (lyx_ne hy (by decide) (by decide) (by decide)))]; exact ev2224
  have e2230 : I2225 (ad g 53) 1 = v2224 := by rw [eI2225, pp_self]
  have fr2231 : fz 74 g [53, 54, 55] I I2225 := by rw [eI2225]; exact fzx_pp hy fr2223 (by decide) (by decide)
  clear eI2225
  refine WP_aload_n dX4_become_16 rfl ?_
  refine WP_aload_n dX4_become_17 rfl ?_
  refine WQ_getiu dX4_become_18 fX4_25 rfl (lyx_is hy 66 4 rfl) (fun v2232 ev2232 => ?_)
  refine WQ_puti dX4_become_21 fX4_25 rfl rfl (lyx_is hy 53 4 rfl) (fun I2233 eI2233 => ?_)
  have hI2233 : XI g n L I2233 := by rw [eI2233]; exact (xi_f0 hy hI2225 (c := 53) (by decide) (Or.inl (by decide)) (by decide))
  have e2234 : I2233 (ad g 1) 1 = L := by rw [eI2233, pp_ne _ _ (Or.inl (lyx_ne hy (by decide) (by decide) (by decide)))]; exact e2226
  have e2235 : I2233 (ad g 66) 0 = v2218 := by rw [eI2233, pp_ne _ _ (Or.inl (lyx_ne hy (by decide) (by decide) (by decide)))]; exact e2227
  have e2236 : I2233 (ad g 53) 0 = v2218 := by rw [eI2233, pp_ne _ _ (Or.inr (by decide))]; exact e2228
  have e2237 : I2233 (ad g 66) 1 = v2224 := by rw [eI2233, pp_ne _ _ (Or.inl (lyx_ne hy (by decide) (by decide) (by decide)))]; exact e2229
  have e2238 : I2233 (ad g 53) 1 = v2224 := by rw [eI2233, pp_ne _ _ (Or.inr (by decide))]; exact e2230
  have e2239 : I2233 (ad g 66) 2 = v2232 := by rw [eI2233, pp_ne _ _ (Or.inl (lyx_ne hy (by decide) (by decide) (by decide)))]; exact ev2232
  have e2240 : I2233 (ad g 53) 2 = v2232 := by rw [eI2233, pp_self]
  have fr2241 : fz 74 g [53, 54, 55] I I2233 := by rw [eI2233]; exact fzx_pp hy fr2231 (by decide) (by decide)
  clear eI2233
  refine WP_aload_n dX4_become_24 rfl ?_
  refine WP_aload_n dX4_become_25 rfl ?_
  refine WQ_getl dX4_become_26 fX4_28 rfl (lyx_is hy 66 4 rfl) (fun l2242 el2242 => ?_)
  refine WQ_putl dX4_become_29 fX4_28 rfl rfl (lyx_is hy 53 4 rfl) (fun J2243 eJ2243 => ?_)
  have fr2244 : fz 74 g [53] J J2243 := by rw [eJ2243]; exact fzx_pp hy frj0 (by decide) (by decide)
  clear eJ2243
  refine WP_aload_n dX4_become_32 rfl ?_
  refine WP_getr dX4_become_33 fX4_9 rfl (lyx_is hy 66 4 rfl) (rfx hr 66 4 67 (by decide)) ?_
  refine WQ_iconst (0) (0) dX4_become_36 rfl rfl (fun v2245 hv2245 => ?_)
  refine WP_aload_n dX4_become_37 rfl ?_
  refine WP_getr dX4_become_38 fX4_9 rfl (lyx_is hy 53 4 rfl) (rfx hr 53 4 54 (by decide)) ?_
  refine WQ_iconst (0) (0) dX4_become_41 rfl rfl (fun v2246 hv2246 => ?_)
  refine WP_aload_n dX4_become_42 rfl ?_
  refine WP_getr dX4_become_43 fX4_9 rfl (lyx_is hy 53 4 rfl) (rfx hr 53 4 54 (by decide)) ?_
  refine WP_alen dX4_become_46 (lyx_is hy 54 13 rfl) (by decide) ?_
  rw [(lyx_n hy 54 4 rfl)]
  obtain ⟨v2247, hv2247, ev2247⟩ : ∃ v : Int32, v.toInt = 4 ∧ nI 4 = v := ⟨_, nI_toInt (by decide), rfl⟩
  rw [ev2247]; clear ev2247
  refine WQ_copy0 (N := 4) dX4_become_47 lX4_46 ⟨by decide, Nat.le_of_ble_eq_true rfl⟩ (lyx_is hy 67 13 rfl) (lyx_is hy 54 13 rfl) hv2245 hv2246 hv2247 (lyx_n hy 67 4 rfl) (lyx_n hy 54 4 rfl) (fun I2248 fI2248 oI2248 => ?_)
  have hI2248 : XI g n L I2248 := xi_copy hy hI2233 67 54 4 (by decide) (by decide) fI2248 oI2248
  have fr2249 : fz 74 g [53, 54, 55] I I2248 := fzx_cp hy fr2241 oI2248 (by decide) (by decide)
  clear fI2248 oI2248
  have e2250 : I2248 (ad g 1) 1 = L := hI2248.2
  have b2251 := BT_get hI2248.1 1 1 2 (0) (0) (900) (by decide) 1 (by decide) (by decide)
  rw [e2250] at b2251
  refine WP_aload_n dX4_become_50 rfl ?_
  refine WP_getr dX4_become_51 fX4_15 rfl (lyx_is hy 66 4 rfl) (rfx hr 66 5 68 (by decide)) ?_
  refine WQ_iconst (0) (0) dX4_become_54 rfl rfl (fun v2252 hv2252 => ?_)
  refine WP_aload_n dX4_become_55 rfl ?_
  refine WP_getr dX4_become_56 fX4_15 rfl (lyx_is hy 53 4 rfl) (rfx hr 53 5 55 (by decide)) ?_
  refine WQ_iconst (0) (0) dX4_become_59 rfl rfl (fun v2253 hv2253 => ?_)
  refine WP_aload_n dX4_become_60 rfl ?_
  refine WP_getr dX4_become_61 fX4_15 rfl (lyx_is hy 53 4 rfl) (rfx hr 53 5 55 (by decide)) ?_
  refine WP_alen dX4_become_64 (lyx_is hy 55 13 rfl) (by decide) ?_
  rw [(lyx_n hy 55 28 rfl)]
  obtain ⟨v2254, hv2254, ev2254⟩ : ∃ v : Int32, v.toInt = 28 ∧ nI 28 = v := ⟨_, nI_toInt (by decide), rfl⟩
  rw [ev2254]; clear ev2254
  refine WQ_copy0 (N := 28) dX4_become_65 lX4_46 ⟨by decide, Nat.le_of_ble_eq_true rfl⟩ (lyx_is hy 68 13 rfl) (lyx_is hy 55 13 rfl) hv2252 hv2253 hv2254 (lyx_n hy 68 28 rfl) (lyx_n hy 55 28 rfl) (fun I2255 fI2255 oI2255 => ?_)
  have hI2255 : XI g n L I2255 := xi_copy hy hI2248 68 55 28 (by decide) (by decide) fI2255 oI2255
  have fr2256 : fz 74 g [53, 54, 55] I I2255 := fzx_cp hy fr2249 oI2255 (by decide) (by decide)
  clear fI2255 oI2255
  have e2257 : I2255 (ad g 1) 1 = L := hI2255.2
  have b2258 := BT_get hI2255.1 1 1 2 (0) (0) (900) (by decide) 1 (by decide) (by decide)
  rw [e2257] at b2258
  exact WP_vret dX4_become_68 rfl ⟨⟨hI2255, rfl, fr2256, fr2244⟩, rfl⟩
set_option maxHeartbeats 4000000 in
set_option maxRecDepth 100000 in
theorem sx_sum_56 {g : GG} {n : Int} {L : Int32} (hy : LyX g)  {I : pI} {J : pJ} {R : pR} (hr : RfX g R) (hI : XI g n L I) (wh : Int32) (wh_lo : 0 ≤ wh.toInt) (wh_hi : wh.toInt ≤ 6) : SP g mX4_sum [.ref (ad g 56), .int wh] I J R (fun r I' J' R' => (I' = I ∧ J' = J ∧ R' = R) ∧ ∃ v : Int32, r = some (.int v)) := by
  refine SP_of ⟨by decide, rfl⟩ (Nat.le_of_ble_eq_true rfl) ?_
  have e2259 : I (ad g 1) 1 = L := hI.2
  have b2260 := BT_get hI.1 1 1 2 (0) (0) (900) (by decide) 1 (by decide) (by decide)
  rw [e2259] at b2260
  refine WQ_iconst (0) (0) dX4_sum_0 rfl rfl (fun v2261 hv2261 => ?_)
  refine WP_istore_n (ls' := [(0, _), (1, _), (2, _)]) dX4_sum_1 (by decide) rfl ?_
  refine WQ_iconst (0) (0) dX4_sum_2 rfl rfl (fun v2262 hv2262 => ?_)
  refine WP_istore_n (ls' := [(0, _), (1, _), (2, _), (3, _)]) dX4_sum_3 (by decide) rfl ?_
  have lp4_2264 : ∀ (mz : Nat) (i2263 : Int32) (i2264 : Int32), 0 ≤ i2264.toInt → i2264.toInt ≤ 4 → (5 - i2264.toInt).toNat < mz → WP g mX4_sum 4 [(0, .ref (ad g 56)), (1, .int wh), (2, .int i2263), (3, .int i2264)] [] I J R (fun r I' J' R' => (I' = I ∧ J' = J ∧ R' = R) ∧ ∃ v : Int32, r = some (.int v)) := by
    intro mz
    induction mz with
    | zero =>
      intro i2263 i2264 ai2264 bi2264 hmlp4_2264
      exact absurd hmlp4_2264 (Nat.not_lt_zero _)
    | succ mz ihlp4_2264 =>
      intro i2263 i2264 ai2264 bi2264 hmlp4_2264
      refine WP_iload_n dX4_sum_4 rfl ?_
      refine WQ_iconst (4) (4) dX4_sum_5 rfl rfl (fun v2266 hv2266 => ?_)
      refine WQ_icmp_ge 29 dX4_sum_6 rfl (fun c2266 => ?_) (fun c2266 => ?_)
      · refine WP_iload_n dX4_sum_29 rfl ?_
        exact WP_iret dX4_sum_30 rfl ⟨⟨rfl, rfl, rfl⟩, _, rfl⟩
      · refine WP_iload_n dX4_sum_9 rfl ?_
        refine WP_aload_n dX4_sum_10 rfl ?_
        refine WP_getr dX4_sum_11 fX4_15 rfl (lyx_is hy 56 4 rfl) (rfx hr 56 5 58 (by decide)) ?_
        refine WP_iload_n dX4_sum_14 rfl ?_
        refine WQ_bipush (7) (7) dX4_sum_15 rfl rfl (fun v2268 hv2268 => ?_)
        refine WQ_imulk (7) dX4_sum_17 hv2268 (by omega) (by omega) (fun v2269 hv2269 => ?_)
        refine WP_iload_n dX4_sum_18 rfl ?_
        refine WQ_iadd dX4_sum_19 (by omega) (by omega) (fun v2270 hv2270 => ?_)
        refine WQ_ialdu dX4_sum_20 (lyx_is hy 58 13 rfl) (lyx_n hy 58 28 rfl) (by omega) (by omega) (fun v2271 => ?_)
        refine WQ_iaddu dX4_sum_21 (fun v2272 => ?_)
        refine WP_istore_n (ls' := [(0, _), (1, _), (2, _), (3, _)]) dX4_sum_22 (by decide) rfl ?_
        refine WP_iinc (ls' := [(0, _), (1, _), (2, _), (3, _)]) dX4_sum_23 rfl (by decide) rfl ?_
        have hv2273 : (i2264 + Int32.ofInt (1)).toInt = i2264.toInt + (1) := ia_n rfl (by omega) (by omega)
        generalize i2264 + Int32.ofInt (1) = v2273 at hv2273 ⊢
        refine WP_goto 4 dX4_sum_26 rfl ?_
        exact WP_sub (fc rfl (fc rfl (fc rfl (fc rfl fn)))) (ihlp4_2264 v2272 v2273 (by omega) (by omega) (by omega))
  exact WP_sub (fc rfl (fc rfl (fc rfl (fc rfl fn)))) (lp4_2264 _ v2261 v2262 (by omega) (by omega) (Nat.lt_succ_self _))
set_option maxHeartbeats 4000000 in
set_option maxRecDepth 100000 in
theorem sx_begin_56_6 {g : GG} {n : Int} {L : Int32} (hy : LyX g)  {I : pI} {J : pJ} {R : pR} (hr : RfX g R) (hI : XI g n L I)   (hn : 0 ≤ n) : SP g mX4_begin [.ref (ad g 56), .ref (ad g 6)] I J R (fun r I' J' R' => (XI g n L I' ∧ R' = R ∧ fz 74 g [56, 58] I I' ∧ fz 74 g [56] J J') ∧ r = none) := by
  refine SP_of ⟨by decide, rfl⟩ (Nat.le_of_ble_eq_true rfl) ?_
  have e2274 : I (ad g 1) 1 = L := hI.2
  have b2275 := BT_get hI.1 1 1 2 (0) (0) (900) (by decide) 1 (by decide) (by decide)
  rw [e2274] at b2275
  have fr0 : fz 74 g [56, 58] I I := fz_rf
  have frj0 : fz 74 g [56] J J := fz_rf
  refine WP_aload_n dX4_begin_0 rfl ?_
  refine WQ_iconst (0) (0) dX4_begin_1 rfl rfl (fun v2276 hv2276 => ?_)
  refine WQ_puti dX4_begin_2 fX4_18 rfl rfl (lyx_is hy 56 4 rfl) (fun I2277 eI2277 => ?_)
  have hI2277 : XI g n L I2277 := by rw [eI2277]; exact (xi_f0 hy hI (c := 56) (by decide) (Or.inl (by decide)) (by decide))
  have e2278 : I2277 (ad g 1) 1 = L := by rw [eI2277, pp_ne _ _ (Or.inl (lyx_ne hy (by decide) (by decide) (by decide)))]; exact e2274
  have e2279 : I2277 (ad g 56) 0 = v2276 := by rw [eI2277, pp_self]
  have fr2280 : fz 74 g [56, 58] I I2277 := by rw [eI2277]; exact fzx_pp hy fr0 (by decide) (by decide)
  clear eI2277
  refine WP_aload_n dX4_begin_5 rfl ?_
  refine WQ_iconst (0) (0) dX4_begin_6 rfl rfl (fun v2281 hv2281 => ?_)
  refine WQ_puti dX4_begin_7 fX4_22 rfl rfl (lyx_is hy 56 4 rfl) (fun I2282 eI2282 => ?_)
  have hI2282 : XI g n L I2282 := by rw [eI2282]; exact (xi_f hy hI2277 (c := 56) (0) (23760) (700000) (by decide) (Or.inl (by decide)) (by decide) (by omega) (by omega))
  have e2283 : I2282 (ad g 1) 1 = L := by rw [eI2282, pp_ne _ _ (Or.inl (lyx_ne hy (by decide) (by decide) (by decide)))]; exact e2278
  have e2284 : I2282 (ad g 56) 0 = v2276 := by rw [eI2282, pp_ne _ _ (Or.inr (by decide))]; exact e2279
  have e2285 : I2282 (ad g 56) 1 = v2281 := by rw [eI2282, pp_self]
  have fr2286 : fz 74 g [56, 58] I I2282 := by rw [eI2282]; exact fzx_pp hy fr2280 (by decide) (by decide)
  clear eI2282
  refine WP_aload_n dX4_begin_10 rfl ?_
  refine WQ_iconst (0) (0) dX4_begin_11 rfl rfl (fun v2287 hv2287 => ?_)
  refine WQ_puti dX4_begin_12 fX4_25 rfl rfl (lyx_is hy 56 4 rfl) (fun I2288 eI2288 => ?_)
  have hI2288 : XI g n L I2288 := by rw [eI2288]; exact (xi_f0 hy hI2282 (c := 56) (by decide) (Or.inl (by decide)) (by decide))
  have e2289 : I2288 (ad g 1) 1 = L := by rw [eI2288, pp_ne _ _ (Or.inl (lyx_ne hy (by decide) (by decide) (by decide)))]; exact e2283
  have e2290 : I2288 (ad g 56) 0 = v2276 := by rw [eI2288, pp_ne _ _ (Or.inr (by decide))]; exact e2284
  have e2291 : I2288 (ad g 56) 1 = v2281 := by rw [eI2288, pp_ne _ _ (Or.inr (by decide))]; exact e2285
  have e2292 : I2288 (ad g 56) 2 = v2287 := by rw [eI2288, pp_self]
  have fr2293 : fz 74 g [56, 58] I I2288 := by rw [eI2288]; exact fzx_pp hy fr2286 (by decide) (by decide)
  clear eI2288
  refine WP_aload_n dX4_begin_15 rfl ?_
  refine WP_lconst (0) dX4_begin_16 rfl ?_
  obtain ⟨l2294, hl2294, el2294⟩ : ∃ v : Int64, v.toInt = 0 ∧ (0 : Int64) = v := ⟨_, rfl, rfl⟩
  rw [el2294]; clear el2294
  refine WQ_putl dX4_begin_17 fX4_28 rfl rfl (lyx_is hy 56 4 rfl) (fun J2295 eJ2295 => ?_)
  have fr2296 : fz 74 g [56] J J2295 := by rw [eJ2295]; exact fzx_pp hy frj0 (by decide) (by decide)
  clear eJ2295
  refine WP_aload_n dX4_begin_20 rfl ?_
  refine WP_getr dX4_begin_21 fX4_15 rfl (lyx_is hy 56 4 rfl) (rfx hr 56 5 58 (by decide)) ?_
  refine WQ_iconst (0) (0) dX4_begin_24 rfl rfl (fun v2297 hv2297 => ?_)
  refine WP_callS2u dX4_begin_25 ⟨⟨⟨by decide, by decide⟩, zJ7_fill_53178⟩, lX4_32, tJ7_fill_53178⟩ (s_fill hy hr 58 28 rfl rfl (by decide) v2297) (Nat.le_of_ble_eq_true rfl) ?_
  obtain ⟨I2298, eI2298⟩ : ∃ I9 : pI, I9 = fi I2288 (ad g 58) 28 v2297 := ⟨_, rfl⟩
  rw [← eI2298]
  have hI2298 : XI g n L I2298 := by rw [eI2298]; exact (fa_fill hy hI2288 (c := 58) 28 (by decide) hv2297)
  have e2299 : I2298 (ad g 1) 1 = L := by rw [eI2298, fi_off (lyx_ne hy (by decide) (by decide) (by decide))]; exact e2289
  have e2300 : I2298 (ad g 56) 0 = v2276 := by rw [eI2298, fi_off (lyx_ne hy (by decide) (by decide) (by decide))]; exact e2290
  have e2301 : I2298 (ad g 56) 1 = v2281 := by rw [eI2298, fi_off (lyx_ne hy (by decide) (by decide) (by decide))]; exact e2291
  have e2302 : I2298 (ad g 56) 2 = v2287 := by rw [eI2298, fi_off (lyx_ne hy (by decide) (by decide) (by decide))]; exact e2292
  have fr2303 : fz 74 g [56, 58] I I2298 := by rw [eI2298]; exact fzx_fi hy fr2293 (by decide) (by decide)
  clear eI2298
  refine WQ_iconst (0) (0) dX4_begin_28 rfl rfl (fun v2304 hv2304 => ?_)
  refine WP_istore_n (ls' := [(0, _), (1, _), (2, _)]) dX4_begin_29 (by decide) rfl ?_
  have lp30_2307 : ∀ (mz : Nat) (i2305 : Int32) (I2306 : pI) (J2307 : pJ), XI g n L I2306 → fz 74 g [56, 58] I I2306 → fz 74 g [56] J J2307 → 0 ≤ i2305.toInt → i2305.toInt ≤ 4 → (5 - i2305.toInt).toNat < mz → WP g mX4_begin 30 [(0, .ref (ad g 56)), (1, .ref (ad g 6)), (2, .int i2305)] [] I2306 J2307 R (fun r I' J' R' => (XI g n L I' ∧ R' = R ∧ fz 74 g [56, 58] I I' ∧ fz 74 g [56] J J') ∧ r = none) := by
    intro mz
    induction mz with
    | zero =>
      intro i2305 I2306 J2307 hI2306 fiI2306 fjJ2307 ai2305 bi2305 hmlp30_2307
      exact absurd hmlp30_2307 (Nat.not_lt_zero _)
    | succ mz ihlp30_2307 =>
      intro i2305 I2306 J2307 hI2306 fiI2306 fjJ2307 ai2305 bi2305 hmlp30_2307
      have e2309 : I2306 (ad g 1) 1 = L := hI2306.2
      have b2310 := BT_get hI2306.1 1 1 2 (0) (0) (900) (by decide) 1 (by decide) (by decide)
      rw [e2309] at b2310
      refine WP_iload_n dX4_begin_30 rfl ?_
      refine WP_aload_n dX4_begin_31 rfl ?_
      refine WQ_geti dX4_begin_32 fX4_38 rfl (lyx_is hy 6 7 rfl) (BT_get hI2306.1 6 1 2 (0) (0) (4) (by decide) 1 (by decide) (by decide)) (fun v2311 ev2311 av2311 bv2311 => ?_)
      refine WQ_icmp_ge 61 dX4_begin_35 rfl (fun c2311 => ?_) (fun c2311 => ?_)
      · exact WP_vret dX4_begin_61 rfl ⟨⟨hI2306, rfl, fiI2306, fjJ2307⟩, rfl⟩
      · refine WP_aload_n dX4_begin_38 rfl ?_
        refine WP_getr dX4_begin_39 fX4_15 rfl (lyx_is hy 56 4 rfl) (rfx hr 56 5 58 (by decide)) ?_
        refine WP_iload_n dX4_begin_42 rfl ?_
        refine WQ_bipush (7) (7) dX4_begin_43 rfl rfl (fun v2313 hv2313 => ?_)
        refine WQ_imulk (7) dX4_begin_45 hv2313 (by omega) (by omega) (fun v2314 hv2314 => ?_)
        refine WQ_iconst (0) (0) dX4_begin_46 rfl rfl (fun v2315 hv2315 => ?_)
        refine WQ_iadd dX4_begin_47 (by omega) (by omega) (fun v2316 hv2316 => ?_)
        refine WP_aload_n dX4_begin_48 rfl ?_
        refine WP_getr dX4_begin_49 fX4_43 rfl (lyx_is hy 6 7 rfl) (rfx hr 6 8 10 (by decide)) ?_
        refine WP_iload_n dX4_begin_52 rfl ?_
        refine WQ_iald dX4_begin_53 (lyx_is hy 10 13 rfl) (lyx_n hy 10 4 rfl) (by omega) (by omega) (fun q hq => BT_get hI2306.1 10 0 4 (0) (0) (60) (by decide) q (Nat.zero_le _) hq) (fun v2317 av2317 bv2317 ev2317 => ?_)
        clear ev2317
        refine WQ_iast dX4_begin_54 (lyx_is hy 58 13 rfl) (lyx_n hy 58 28 rfl) (by omega) (by omega) (fun I2318 eI2318 => ?_)
        have hI2318 : XI g n L I2318 := by rw [eI2318]; exact (fa_put hy hI2306 (c := 58) (k := 0) (s := i2305.toInt.toNat) (by decide) (by omega) (by decide) (by rw [cl (n := 7 * i2305.toInt.toNat + 0) (by omega)]) (fun _ => by omega) (fun _ => by omega))
        have e2319 : I2318 (ad g 1) 1 = L := by rw [eI2318, pp_ne _ _ (Or.inl (lyx_ne hy (by decide) (by decide) (by decide)))]; exact e2309
        have e2320 : I2318 (ad g 6) 1 = v2311 := by rw [eI2318, pp_ne _ _ (Or.inl (lyx_ne hy (by decide) (by decide) (by decide)))]; exact ev2311
        have fr2321 : fz 74 g [56, 58] I I2318 := by rw [eI2318]; exact fzx_pp hy fiI2306 (by decide) (by decide)
        clear eI2318
        refine WP_iinc (ls' := [(0, _), (1, _), (2, _)]) dX4_begin_55 rfl (by decide) rfl ?_
        have hv2322 : (i2305 + Int32.ofInt (1)).toInt = i2305.toInt + (1) := ia_n rfl (by omega) (by omega)
        generalize i2305 + Int32.ofInt (1) = v2322 at hv2322 ⊢
        refine WP_goto 30 dX4_begin_58 rfl ?_
        exact WP_sub (fc rfl (fc rfl (fc rfl fn))) (ihlp30_2307 v2322 I2318 J2307 hI2318 fr2321 fjJ2307 (by omega) (by omega) (by omega))
  exact WP_sub (fc rfl (fc rfl (fc rfl fn))) (lp30_2307 _ v2304 I2298 J2295 hI2298 fr2303 fr2296 (by omega) (by omega) (Nat.lt_succ_self _))
set_option maxHeartbeats 4000000 in
set_option maxRecDepth 100000 in
theorem sx_begin_56_27 {g : GG} {n : Int} {L : Int32} (hy : LyX g)  {I : pI} {J : pJ} {R : pR} (hr : RfX g R) (hI : XI g n L I)   (hn : 0 ≤ n) : SP g mX4_begin [.ref (ad g 56), .ref (ad g 27)] I J R (fun r I' J' R' => (XI g n L I' ∧ R' = R ∧ fz 74 g [56, 58] I I' ∧ fz 74 g [56] J J') ∧ r = none) := by
  refine SP_of ⟨by decide, rfl⟩ (Nat.le_of_ble_eq_true rfl) ?_
  have e2323 : I (ad g 1) 1 = L := hI.2
  have b2324 := BT_get hI.1 1 1 2 (0) (0) (900) (by decide) 1 (by decide) (by decide)
  rw [e2323] at b2324
  have fr0 : fz 74 g [56, 58] I I := fz_rf
  have frj0 : fz 74 g [56] J J := fz_rf
  refine WP_aload_n dX4_begin_0 rfl ?_
  refine WQ_iconst (0) (0) dX4_begin_1 rfl rfl (fun v2325 hv2325 => ?_)
  refine WQ_puti dX4_begin_2 fX4_18 rfl rfl (lyx_is hy 56 4 rfl) (fun I2326 eI2326 => ?_)
  have hI2326 : XI g n L I2326 := by rw [eI2326]; exact (xi_f0 hy hI (c := 56) (by decide) (Or.inl (by decide)) (by decide))
  have e2327 : I2326 (ad g 1) 1 = L := by rw [eI2326, pp_ne _ _ (Or.inl (lyx_ne hy (by decide) (by decide) (by decide)))]; exact e2323
  have e2328 : I2326 (ad g 56) 0 = v2325 := by rw [eI2326, pp_self]
  have fr2329 : fz 74 g [56, 58] I I2326 := by rw [eI2326]; exact fzx_pp hy fr0 (by decide) (by decide)
  clear eI2326
  refine WP_aload_n dX4_begin_5 rfl ?_
  refine WQ_iconst (0) (0) dX4_begin_6 rfl rfl (fun v2330 hv2330 => ?_)
  refine WQ_puti dX4_begin_7 fX4_22 rfl rfl (lyx_is hy 56 4 rfl) (fun I2331 eI2331 => ?_)
  have hI2331 : XI g n L I2331 := by rw [eI2331]; exact (xi_f hy hI2326 (c := 56) (0) (23760) (700000) (by decide) (Or.inl (by decide)) (by decide) (by omega) (by omega))
  have e2332 : I2331 (ad g 1) 1 = L := by rw [eI2331, pp_ne _ _ (Or.inl (lyx_ne hy (by decide) (by decide) (by decide)))]; exact e2327
  have e2333 : I2331 (ad g 56) 0 = v2325 := by rw [eI2331, pp_ne _ _ (Or.inr (by decide))]; exact e2328
  have e2334 : I2331 (ad g 56) 1 = v2330 := by rw [eI2331, pp_self]
  have fr2335 : fz 74 g [56, 58] I I2331 := by rw [eI2331]; exact fzx_pp hy fr2329 (by decide) (by decide)
  clear eI2331
  refine WP_aload_n dX4_begin_10 rfl ?_
  refine WQ_iconst (0) (0) dX4_begin_11 rfl rfl (fun v2336 hv2336 => ?_)
  refine WQ_puti dX4_begin_12 fX4_25 rfl rfl (lyx_is hy 56 4 rfl) (fun I2337 eI2337 => ?_)
  have hI2337 : XI g n L I2337 := by rw [eI2337]; exact (xi_f0 hy hI2331 (c := 56) (by decide) (Or.inl (by decide)) (by decide))
  have e2338 : I2337 (ad g 1) 1 = L := by rw [eI2337, pp_ne _ _ (Or.inl (lyx_ne hy (by decide) (by decide) (by decide)))]; exact e2332
  have e2339 : I2337 (ad g 56) 0 = v2325 := by rw [eI2337, pp_ne _ _ (Or.inr (by decide))]; exact e2333
  have e2340 : I2337 (ad g 56) 1 = v2330 := by rw [eI2337, pp_ne _ _ (Or.inr (by decide))]; exact e2334
  have e2341 : I2337 (ad g 56) 2 = v2336 := by rw [eI2337, pp_self]
  have fr2342 : fz 74 g [56, 58] I I2337 := by rw [eI2337]; exact fzx_pp hy fr2335 (by decide) (by decide)
  clear eI2337
  refine WP_aload_n dX4_begin_15 rfl ?_
  refine WP_lconst (0) dX4_begin_16 rfl ?_
  obtain ⟨l2343, hl2343, el2343⟩ : ∃ v : Int64, v.toInt = 0 ∧ (0 : Int64) = v := ⟨_, rfl, rfl⟩
  rw [el2343]; clear el2343
  refine WQ_putl dX4_begin_17 fX4_28 rfl rfl (lyx_is hy 56 4 rfl) (fun J2344 eJ2344 => ?_)
  have fr2345 : fz 74 g [56] J J2344 := by rw [eJ2344]; exact fzx_pp hy frj0 (by decide) (by decide)
  clear eJ2344
  refine WP_aload_n dX4_begin_20 rfl ?_
  refine WP_getr dX4_begin_21 fX4_15 rfl (lyx_is hy 56 4 rfl) (rfx hr 56 5 58 (by decide)) ?_
  refine WQ_iconst (0) (0) dX4_begin_24 rfl rfl (fun v2346 hv2346 => ?_)
  refine WP_callS2u dX4_begin_25 ⟨⟨⟨by decide, by decide⟩, zJ7_fill_53178⟩, lX4_32, tJ7_fill_53178⟩ (s_fill hy hr 58 28 rfl rfl (by decide) v2346) (Nat.le_of_ble_eq_true rfl) ?_
  obtain ⟨I2347, eI2347⟩ : ∃ I9 : pI, I9 = fi I2337 (ad g 58) 28 v2346 := ⟨_, rfl⟩
  rw [← eI2347]
  have hI2347 : XI g n L I2347 := by rw [eI2347]; exact (fa_fill hy hI2337 (c := 58) 28 (by decide) hv2346)
  have e2348 : I2347 (ad g 1) 1 = L := by rw [eI2347, fi_off (lyx_ne hy (by decide) (by decide) (by decide))]; exact e2338
  have e2349 : I2347 (ad g 56) 0 = v2325 := by rw [eI2347, fi_off (lyx_ne hy (by decide) (by decide) (by decide))]; exact e2339
  have e2350 : I2347 (ad g 56) 1 = v2330 := by rw [eI2347, fi_off (lyx_ne hy (by decide) (by decide) (by decide))]; exact e2340
  have e2351 : I2347 (ad g 56) 2 = v2336 := by rw [eI2347, fi_off (lyx_ne hy (by decide) (by decide) (by decide))]; exact e2341
  have fr2352 : fz 74 g [56, 58] I I2347 := by rw [eI2347]; exact fzx_fi hy fr2342 (by decide) (by decide)
  clear eI2347
  refine WQ_iconst (0) (0) dX4_begin_28 rfl rfl (fun v2353 hv2353 => ?_)
  refine WP_istore_n (ls' := [(0, _), (1, _), (2, _)]) dX4_begin_29 (by decide) rfl ?_
  have lp30_2356 : ∀ (mz : Nat) (i2354 : Int32) (I2355 : pI) (J2356 : pJ), XI g n L I2355 → fz 74 g [56, 58] I I2355 → fz 74 g [56] J J2356 → 0 ≤ i2354.toInt → i2354.toInt ≤ 4 → (5 - i2354.toInt).toNat < mz → WP g mX4_begin 30 [(0, .ref (ad g 56)), (1, .ref (ad g 27)), (2, .int i2354)] [] I2355 J2356 R (fun r I' J' R' => (XI g n L I' ∧ R' = R ∧ fz 74 g [56, 58] I I' ∧ fz 74 g [56] J J') ∧ r = none) := by
    intro mz
    induction mz with
    | zero =>
      intro i2354 I2355 J2356 hI2355 fiI2355 fjJ2356 ai2354 bi2354 hmlp30_2356
      exact absurd hmlp30_2356 (Nat.not_lt_zero _)
    | succ mz ihlp30_2356 =>
      intro i2354 I2355 J2356 hI2355 fiI2355 fjJ2356 ai2354 bi2354 hmlp30_2356
      have e2358 : I2355 (ad g 1) 1 = L := hI2355.2
      have b2359 := BT_get hI2355.1 1 1 2 (0) (0) (900) (by decide) 1 (by decide) (by decide)
      rw [e2358] at b2359
      refine WP_iload_n dX4_begin_30 rfl ?_
      refine WP_aload_n dX4_begin_31 rfl ?_
      refine WQ_geti dX4_begin_32 fX4_38 rfl (lyx_is hy 27 7 rfl) (BT_get hI2355.1 27 1 2 (0) (0) (4) (by decide) 1 (by decide) (by decide)) (fun v2360 ev2360 av2360 bv2360 => ?_)
      refine WQ_icmp_ge 61 dX4_begin_35 rfl (fun c2360 => ?_) (fun c2360 => ?_)
      · exact WP_vret dX4_begin_61 rfl ⟨⟨hI2355, rfl, fiI2355, fjJ2356⟩, rfl⟩
      · refine WP_aload_n dX4_begin_38 rfl ?_
        refine WP_getr dX4_begin_39 fX4_15 rfl (lyx_is hy 56 4 rfl) (rfx hr 56 5 58 (by decide)) ?_
        refine WP_iload_n dX4_begin_42 rfl ?_
        refine WQ_bipush (7) (7) dX4_begin_43 rfl rfl (fun v2362 hv2362 => ?_)
        refine WQ_imulk (7) dX4_begin_45 hv2362 (by omega) (by omega) (fun v2363 hv2363 => ?_)
        refine WQ_iconst (0) (0) dX4_begin_46 rfl rfl (fun v2364 hv2364 => ?_)
        refine WQ_iadd dX4_begin_47 (by omega) (by omega) (fun v2365 hv2365 => ?_)
        refine WP_aload_n dX4_begin_48 rfl ?_
        refine WP_getr dX4_begin_49 fX4_43 rfl (lyx_is hy 27 7 rfl) (rfx hr 27 8 31 (by decide)) ?_
        refine WP_iload_n dX4_begin_52 rfl ?_
        refine WQ_iald dX4_begin_53 (lyx_is hy 31 13 rfl) (lyx_n hy 31 4 rfl) (by omega) (by omega) (fun q hq => BT_get hI2355.1 31 0 4 (0) (0) (60) (by decide) q (Nat.zero_le _) hq) (fun v2366 av2366 bv2366 ev2366 => ?_)
        clear ev2366
        refine WQ_iast dX4_begin_54 (lyx_is hy 58 13 rfl) (lyx_n hy 58 28 rfl) (by omega) (by omega) (fun I2367 eI2367 => ?_)
        have hI2367 : XI g n L I2367 := by rw [eI2367]; exact (fa_put hy hI2355 (c := 58) (k := 0) (s := i2354.toInt.toNat) (by decide) (by omega) (by decide) (by rw [cl (n := 7 * i2354.toInt.toNat + 0) (by omega)]) (fun _ => by omega) (fun _ => by omega))
        have e2368 : I2367 (ad g 1) 1 = L := by rw [eI2367, pp_ne _ _ (Or.inl (lyx_ne hy (by decide) (by decide) (by decide)))]; exact e2358
        have e2369 : I2367 (ad g 27) 1 = v2360 := by rw [eI2367, pp_ne _ _ (Or.inl (lyx_ne hy (by decide) (by decide) (by decide)))]; exact ev2360
        have fr2370 : fz 74 g [56, 58] I I2367 := by rw [eI2367]; exact fzx_pp hy fiI2355 (by decide) (by decide)
        clear eI2367
        refine WP_iinc (ls' := [(0, _), (1, _), (2, _)]) dX4_begin_55 rfl (by decide) rfl ?_
        have hv2371 : (i2354 + Int32.ofInt (1)).toInt = i2354.toInt + (1) := ia_n rfl (by omega) (by omega)
        generalize i2354 + Int32.ofInt (1) = v2371 at hv2371 ⊢
        refine WP_goto 30 dX4_begin_58 rfl ?_
        exact WP_sub (fc rfl (fc rfl (fc rfl fn))) (ihlp30_2356 v2371 I2367 J2356 hI2367 fr2370 fjJ2356 (by omega) (by omega) (by omega))
  exact WP_sub (fc rfl (fc rfl (fc rfl fn))) (lp30_2356 _ v2353 I2347 J2344 hI2347 fr2352 fr2345 (by omega) (by omega) (Nat.lt_succ_self _))
set_option maxHeartbeats 4000000 in
set_option maxRecDepth 100000 in
theorem sx_become_56_53 {g : GG} {n : Int} {L : Int32} (hy : LyX g)  {I : pI} {J : pJ} {R : pR} (hr : RfX g R) (hI : XI g n L I)   : SP g mX4_become [.ref (ad g 56), .ref (ad g 53)] I J R (fun r I' J' R' => (XI g n L I' ∧ R' = R ∧ fz 74 g [56, 57, 58] I I' ∧ fz 74 g [56] J J') ∧ r = none) := by
  refine SP_of ⟨by decide, rfl⟩ (Nat.le_of_ble_eq_true rfl) ?_
  have e2372 : I (ad g 1) 1 = L := hI.2
  have b2373 := BT_get hI.1 1 1 2 (0) (0) (900) (by decide) 1 (by decide) (by decide)
  rw [e2372] at b2373
  have fr0 : fz 74 g [56, 57, 58] I I := fz_rf
  have frj0 : fz 74 g [56] J J := fz_rf
  refine WP_aload_n dX4_become_0 rfl ?_
  refine WP_aload_n dX4_become_1 rfl ?_
  refine WQ_getiu dX4_become_2 fX4_18 rfl (lyx_is hy 53 4 rfl) (fun v2374 ev2374 => ?_)
  refine WQ_puti dX4_become_5 fX4_18 rfl rfl (lyx_is hy 56 4 rfl) (fun I2375 eI2375 => ?_)
  have hI2375 : XI g n L I2375 := by rw [eI2375]; exact (xi_f0 hy hI (c := 56) (by decide) (Or.inl (by decide)) (by decide))
  have e2376 : I2375 (ad g 1) 1 = L := by rw [eI2375, pp_ne _ _ (Or.inl (lyx_ne hy (by decide) (by decide) (by decide)))]; exact e2372
  have e2377 : I2375 (ad g 53) 0 = v2374 := by rw [eI2375, pp_ne _ _ (Or.inl (lyx_ne hy (by decide) (by decide) (by decide)))]; exact ev2374
  have e2378 : I2375 (ad g 56) 0 = v2374 := by rw [eI2375, pp_self]
  have fr2379 : fz 74 g [56, 57, 58] I I2375 := by rw [eI2375]; exact fzx_pp hy fr0 (by decide) (by decide)
  clear eI2375
  refine WP_aload_n dX4_become_8 rfl ?_
  refine WP_aload_n dX4_become_9 rfl ?_
  refine WQ_geti dX4_become_10 fX4_22 rfl (lyx_is hy 53 4 rfl) (BT_get hI2375.1 53 1 2 (0) (23760) (0) (by decide) 1 (by decide) (by decide)) (fun v2380 ev2380 av2380 bv2380 => ?_)
  refine WQ_puti dX4_become_13 fX4_22 rfl rfl (lyx_is hy 56 4 rfl) (fun I2381 eI2381 => ?_)
  have hI2381 : XI g n L I2381 := by rw [eI2381]; exact (xi_f hy hI2375 (c := 56) (0) (23760) (700000) (by decide) (Or.inl (by decide)) (by decide) (by omega) (by omega))
  have e2382 : I2381 (ad g 1) 1 = L := by rw [eI2381, pp_ne _ _ (Or.inl (lyx_ne hy (by decide) (by decide) (by decide)))]; exact e2376
  have e2383 : I2381 (ad g 53) 0 = v2374 := by rw [eI2381, pp_ne _ _ (Or.inl (lyx_ne hy (by decide) (by decide) (by decide)))]; exact e2377
  have e2384 : I2381 (ad g 56) 0 = v2374 := by rw [eI2381, pp_ne _ _ (Or.inr (by decide))]; exact e2378
  have e2385 : I2381 (ad g 53) 1 = v2380 := by rw [eI2381, pp_ne _ _ (Or.inl (lyx_ne hy (by decide) (by decide) (by decide)))]; exact ev2380
  have e2386 : I2381 (ad g 56) 1 = v2380 := by rw [eI2381, pp_self]
  have fr2387 : fz 74 g [56, 57, 58] I I2381 := by rw [eI2381]; exact fzx_pp hy fr2379 (by decide) (by decide)
  clear eI2381
  refine WP_aload_n dX4_become_16 rfl ?_
  refine WP_aload_n dX4_become_17 rfl ?_
  refine WQ_getiu dX4_become_18 fX4_25 rfl (lyx_is hy 53 4 rfl) (fun v2388 ev2388 => ?_)
  refine WQ_puti dX4_become_21 fX4_25 rfl rfl (lyx_is hy 56 4 rfl) (fun I2389 eI2389 => ?_)
  have hI2389 : XI g n L I2389 := by rw [eI2389]; exact (xi_f0 hy hI2381 (c := 56) (by decide) (Or.inl (by decide)) (by decide))
  have e2390 : I2389 (ad g 1) 1 = L := by rw [eI2389, pp_ne _ _ (Or.inl (lyx_ne hy (by decide) (by decide) (by decide)))]; exact e2382
  have e2391 : I2389 (ad g 53) 0 = v2374 := by rw [eI2389, pp_ne _ _ (Or.inl (lyx_ne hy (by decide) (by decide) (by decide)))]; exact e2383
  have e2392 : I2389 (ad g 56) 0 = v2374 := by rw [eI2389, pp_ne _ _ (Or.inr (by decide))]; exact e2384
  have e2393 : I2389 (ad g 53) 1 = v2380 := by rw [eI2389, pp_ne _ _ (Or.inl (lyx_ne hy (by decide) (by decide) (by decide)))]; exact e2385
  have e2394 : I2389 (ad g 56) 1 = v2380 := by rw [eI2389, pp_ne _ _ (Or.inr (by decide))]; exact e2386
  have e2395 : I2389 (ad g 53) 2 = v2388 := by rw [eI2389, pp_ne _ _ (Or.inl (lyx_ne hy (by decide) (by decide) (by decide)))]; exact ev2388
  have e2396 : I2389 (ad g 56) 2 = v2388 := by rw [eI2389, pp_self]
  have fr2397 : fz 74 g [56, 57, 58] I I2389 := by rw [eI2389]; exact fzx_pp hy fr2387 (by decide) (by decide)
  clear eI2389
  refine WP_aload_n dX4_become_24 rfl ?_
  refine WP_aload_n dX4_become_25 rfl ?_
  refine WQ_getl dX4_become_26 fX4_28 rfl (lyx_is hy 53 4 rfl) (fun l2398 el2398 => ?_)
  refine WQ_putl dX4_become_29 fX4_28 rfl rfl (lyx_is hy 56 4 rfl) (fun J2399 eJ2399 => ?_)
  have fr2400 : fz 74 g [56] J J2399 := by rw [eJ2399]; exact fzx_pp hy frj0 (by decide) (by decide)
  clear eJ2399
  refine WP_aload_n dX4_become_32 rfl ?_
  refine WP_getr dX4_become_33 fX4_9 rfl (lyx_is hy 53 4 rfl) (rfx hr 53 4 54 (by decide)) ?_
  refine WQ_iconst (0) (0) dX4_become_36 rfl rfl (fun v2401 hv2401 => ?_)
  refine WP_aload_n dX4_become_37 rfl ?_
  refine WP_getr dX4_become_38 fX4_9 rfl (lyx_is hy 56 4 rfl) (rfx hr 56 4 57 (by decide)) ?_
  refine WQ_iconst (0) (0) dX4_become_41 rfl rfl (fun v2402 hv2402 => ?_)
  refine WP_aload_n dX4_become_42 rfl ?_
  refine WP_getr dX4_become_43 fX4_9 rfl (lyx_is hy 56 4 rfl) (rfx hr 56 4 57 (by decide)) ?_
  refine WP_alen dX4_become_46 (lyx_is hy 57 13 rfl) (by decide) ?_
  rw [(lyx_n hy 57 4 rfl)]
  obtain ⟨v2403, hv2403, ev2403⟩ : ∃ v : Int32, v.toInt = 4 ∧ nI 4 = v := ⟨_, nI_toInt (by decide), rfl⟩
  rw [ev2403]; clear ev2403
  refine WQ_copy0 (N := 4) dX4_become_47 lX4_46 ⟨by decide, Nat.le_of_ble_eq_true rfl⟩ (lyx_is hy 54 13 rfl) (lyx_is hy 57 13 rfl) hv2401 hv2402 hv2403 (lyx_n hy 54 4 rfl) (lyx_n hy 57 4 rfl) (fun I2404 fI2404 oI2404 => ?_)
  have hI2404 : XI g n L I2404 := xi_copy hy hI2389 54 57 4 (by decide) (by decide) fI2404 oI2404
  have fr2405 : fz 74 g [56, 57, 58] I I2404 := fzx_cp hy fr2397 oI2404 (by decide) (by decide)
  clear fI2404 oI2404
  have e2406 : I2404 (ad g 1) 1 = L := hI2404.2
  have b2407 := BT_get hI2404.1 1 1 2 (0) (0) (900) (by decide) 1 (by decide) (by decide)
  rw [e2406] at b2407
  refine WP_aload_n dX4_become_50 rfl ?_
  refine WP_getr dX4_become_51 fX4_15 rfl (lyx_is hy 53 4 rfl) (rfx hr 53 5 55 (by decide)) ?_
  refine WQ_iconst (0) (0) dX4_become_54 rfl rfl (fun v2408 hv2408 => ?_)
  refine WP_aload_n dX4_become_55 rfl ?_
  refine WP_getr dX4_become_56 fX4_15 rfl (lyx_is hy 56 4 rfl) (rfx hr 56 5 58 (by decide)) ?_
  refine WQ_iconst (0) (0) dX4_become_59 rfl rfl (fun v2409 hv2409 => ?_)
  refine WP_aload_n dX4_become_60 rfl ?_
  refine WP_getr dX4_become_61 fX4_15 rfl (lyx_is hy 56 4 rfl) (rfx hr 56 5 58 (by decide)) ?_
  refine WP_alen dX4_become_64 (lyx_is hy 58 13 rfl) (by decide) ?_
  rw [(lyx_n hy 58 28 rfl)]
  obtain ⟨v2410, hv2410, ev2410⟩ : ∃ v : Int32, v.toInt = 28 ∧ nI 28 = v := ⟨_, nI_toInt (by decide), rfl⟩
  rw [ev2410]; clear ev2410
  refine WQ_copy0 (N := 28) dX4_become_65 lX4_46 ⟨by decide, Nat.le_of_ble_eq_true rfl⟩ (lyx_is hy 55 13 rfl) (lyx_is hy 58 13 rfl) hv2408 hv2409 hv2410 (lyx_n hy 55 28 rfl) (lyx_n hy 58 28 rfl) (fun I2411 fI2411 oI2411 => ?_)
  have hI2411 : XI g n L I2411 := xi_copy hy hI2404 55 58 28 (by decide) (by decide) fI2411 oI2411
  have fr2412 : fz 74 g [56, 57, 58] I I2411 := fzx_cp hy fr2405 oI2411 (by decide) (by decide)
  clear fI2411 oI2411
  have e2413 : I2411 (ad g 1) 1 = L := hI2411.2
  have b2414 := BT_get hI2411.1 1 1 2 (0) (0) (900) (by decide) 1 (by decide) (by decide)
  rw [e2413] at b2414
  exact WP_vret dX4_become_68 rfl ⟨⟨hI2411, rfl, fr2412, fr2400⟩, rfl⟩
set_option maxHeartbeats 4000000 in
set_option maxRecDepth 100000 in
theorem sx_sum_60 {g : GG} {n : Int} {L : Int32} (hy : LyX g)  {I : pI} {J : pJ} {R : pR} (hr : RfX g R) (hI : XI g n L I) (wh : Int32) (wh_lo : 0 ≤ wh.toInt) (wh_hi : wh.toInt ≤ 6) : SP g mX4_sum [.ref (ad g 60), .int wh] I J R (fun r I' J' R' => (I' = I ∧ J' = J ∧ R' = R) ∧ ∃ v : Int32, r = some (.int v)) := by
  refine SP_of ⟨by decide, rfl⟩ (Nat.le_of_ble_eq_true rfl) ?_
  have e2415 : I (ad g 1) 1 = L := hI.2
  have b2416 := BT_get hI.1 1 1 2 (0) (0) (900) (by decide) 1 (by decide) (by decide)
  rw [e2415] at b2416
  refine WQ_iconst (0) (0) dX4_sum_0 rfl rfl (fun v2417 hv2417 => ?_)
  refine WP_istore_n (ls' := [(0, _), (1, _), (2, _)]) dX4_sum_1 (by decide) rfl ?_
  refine WQ_iconst (0) (0) dX4_sum_2 rfl rfl (fun v2418 hv2418 => ?_)
  refine WP_istore_n (ls' := [(0, _), (1, _), (2, _), (3, _)]) dX4_sum_3 (by decide) rfl ?_
  have lp4_2420 : ∀ (mz : Nat) (i2419 : Int32) (i2420 : Int32), 0 ≤ i2420.toInt → i2420.toInt ≤ 4 → (5 - i2420.toInt).toNat < mz → WP g mX4_sum 4 [(0, .ref (ad g 60)), (1, .int wh), (2, .int i2419), (3, .int i2420)] [] I J R (fun r I' J' R' => (I' = I ∧ J' = J ∧ R' = R) ∧ ∃ v : Int32, r = some (.int v)) := by
    intro mz
    induction mz with
    | zero =>
      intro i2419 i2420 ai2420 bi2420 hmlp4_2420
      exact absurd hmlp4_2420 (Nat.not_lt_zero _)
    | succ mz ihlp4_2420 =>
      intro i2419 i2420 ai2420 bi2420 hmlp4_2420
      refine WP_iload_n dX4_sum_4 rfl ?_
      refine WQ_iconst (4) (4) dX4_sum_5 rfl rfl (fun v2422 hv2422 => ?_)
      refine WQ_icmp_ge 29 dX4_sum_6 rfl (fun c2422 => ?_) (fun c2422 => ?_)
      · refine WP_iload_n dX4_sum_29 rfl ?_
        exact WP_iret dX4_sum_30 rfl ⟨⟨rfl, rfl, rfl⟩, _, rfl⟩
      · refine WP_iload_n dX4_sum_9 rfl ?_
        refine WP_aload_n dX4_sum_10 rfl ?_
        refine WP_getr dX4_sum_11 fX4_15 rfl (lyx_is hy 60 4 rfl) (rfx hr 60 5 62 (by decide)) ?_
        refine WP_iload_n dX4_sum_14 rfl ?_
        refine WQ_bipush (7) (7) dX4_sum_15 rfl rfl (fun v2424 hv2424 => ?_)
        refine WQ_imulk (7) dX4_sum_17 hv2424 (by omega) (by omega) (fun v2425 hv2425 => ?_)
        refine WP_iload_n dX4_sum_18 rfl ?_
        refine WQ_iadd dX4_sum_19 (by omega) (by omega) (fun v2426 hv2426 => ?_)
        refine WQ_ialdu dX4_sum_20 (lyx_is hy 62 13 rfl) (lyx_n hy 62 28 rfl) (by omega) (by omega) (fun v2427 => ?_)
        refine WQ_iaddu dX4_sum_21 (fun v2428 => ?_)
        refine WP_istore_n (ls' := [(0, _), (1, _), (2, _), (3, _)]) dX4_sum_22 (by decide) rfl ?_
        refine WP_iinc (ls' := [(0, _), (1, _), (2, _), (3, _)]) dX4_sum_23 rfl (by decide) rfl ?_
        have hv2429 : (i2420 + Int32.ofInt (1)).toInt = i2420.toInt + (1) := ia_n rfl (by omega) (by omega)
        generalize i2420 + Int32.ofInt (1) = v2429 at hv2429 ⊢
        refine WP_goto 4 dX4_sum_26 rfl ?_
        exact WP_sub (fc rfl (fc rfl (fc rfl (fc rfl fn)))) (ihlp4_2420 v2428 v2429 (by omega) (by omega) (by omega))
  exact WP_sub (fc rfl (fc rfl (fc rfl (fc rfl fn)))) (lp4_2420 _ v2417 v2418 (by omega) (by omega) (Nat.lt_succ_self _))
set_option maxHeartbeats 4000000 in
set_option maxRecDepth 100000 in
theorem sx_begin_60_6 {g : GG} {n : Int} {L : Int32} (hy : LyX g)  {I : pI} {J : pJ} {R : pR} (hr : RfX g R) (hI : XI g n L I)   (hn : 0 ≤ n) : SP g mX4_begin [.ref (ad g 60), .ref (ad g 6)] I J R (fun r I' J' R' => (XI g n L I' ∧ R' = R ∧ fz 74 g [60, 62] I I' ∧ fz 74 g [60] J J') ∧ r = none) := by
  refine SP_of ⟨by decide, rfl⟩ (Nat.le_of_ble_eq_true rfl) ?_
  have e2430 : I (ad g 1) 1 = L := hI.2
  have b2431 := BT_get hI.1 1 1 2 (0) (0) (900) (by decide) 1 (by decide) (by decide)
  rw [e2430] at b2431
  have fr0 : fz 74 g [60, 62] I I := fz_rf
  have frj0 : fz 74 g [60] J J := fz_rf
  refine WP_aload_n dX4_begin_0 rfl ?_
  refine WQ_iconst (0) (0) dX4_begin_1 rfl rfl (fun v2432 hv2432 => ?_)
  refine WQ_puti dX4_begin_2 fX4_18 rfl rfl (lyx_is hy 60 4 rfl) (fun I2433 eI2433 => ?_)
  have hI2433 : XI g n L I2433 := by rw [eI2433]; exact (xi_f0 hy hI (c := 60) (by decide) (Or.inl (by decide)) (by decide))
  have e2434 : I2433 (ad g 1) 1 = L := by rw [eI2433, pp_ne _ _ (Or.inl (lyx_ne hy (by decide) (by decide) (by decide)))]; exact e2430
  have e2435 : I2433 (ad g 60) 0 = v2432 := by rw [eI2433, pp_self]
  have fr2436 : fz 74 g [60, 62] I I2433 := by rw [eI2433]; exact fzx_pp hy fr0 (by decide) (by decide)
  clear eI2433
  refine WP_aload_n dX4_begin_5 rfl ?_
  refine WQ_iconst (0) (0) dX4_begin_6 rfl rfl (fun v2437 hv2437 => ?_)
  refine WQ_puti dX4_begin_7 fX4_22 rfl rfl (lyx_is hy 60 4 rfl) (fun I2438 eI2438 => ?_)
  have hI2438 : XI g n L I2438 := by rw [eI2438]; exact (xi_f hy hI2433 (c := 60) (0) (23760) (0) (by decide) (Or.inl (by decide)) (by decide) (by omega) (by omega))
  have e2439 : I2438 (ad g 1) 1 = L := by rw [eI2438, pp_ne _ _ (Or.inl (lyx_ne hy (by decide) (by decide) (by decide)))]; exact e2434
  have e2440 : I2438 (ad g 60) 0 = v2432 := by rw [eI2438, pp_ne _ _ (Or.inr (by decide))]; exact e2435
  have e2441 : I2438 (ad g 60) 1 = v2437 := by rw [eI2438, pp_self]
  have fr2442 : fz 74 g [60, 62] I I2438 := by rw [eI2438]; exact fzx_pp hy fr2436 (by decide) (by decide)
  clear eI2438
  refine WP_aload_n dX4_begin_10 rfl ?_
  refine WQ_iconst (0) (0) dX4_begin_11 rfl rfl (fun v2443 hv2443 => ?_)
  refine WQ_puti dX4_begin_12 fX4_25 rfl rfl (lyx_is hy 60 4 rfl) (fun I2444 eI2444 => ?_)
  have hI2444 : XI g n L I2444 := by rw [eI2444]; exact (xi_f0 hy hI2438 (c := 60) (by decide) (Or.inl (by decide)) (by decide))
  have e2445 : I2444 (ad g 1) 1 = L := by rw [eI2444, pp_ne _ _ (Or.inl (lyx_ne hy (by decide) (by decide) (by decide)))]; exact e2439
  have e2446 : I2444 (ad g 60) 0 = v2432 := by rw [eI2444, pp_ne _ _ (Or.inr (by decide))]; exact e2440
  have e2447 : I2444 (ad g 60) 1 = v2437 := by rw [eI2444, pp_ne _ _ (Or.inr (by decide))]; exact e2441
  have e2448 : I2444 (ad g 60) 2 = v2443 := by rw [eI2444, pp_self]
  have fr2449 : fz 74 g [60, 62] I I2444 := by rw [eI2444]; exact fzx_pp hy fr2442 (by decide) (by decide)
  clear eI2444
  refine WP_aload_n dX4_begin_15 rfl ?_
  refine WP_lconst (0) dX4_begin_16 rfl ?_
  obtain ⟨l2450, hl2450, el2450⟩ : ∃ v : Int64, v.toInt = 0 ∧ (0 : Int64) = v := ⟨_, rfl, rfl⟩
  rw [el2450]; clear el2450
  refine WQ_putl dX4_begin_17 fX4_28 rfl rfl (lyx_is hy 60 4 rfl) (fun J2451 eJ2451 => ?_)
  have fr2452 : fz 74 g [60] J J2451 := by rw [eJ2451]; exact fzx_pp hy frj0 (by decide) (by decide)
  clear eJ2451
  refine WP_aload_n dX4_begin_20 rfl ?_
  refine WP_getr dX4_begin_21 fX4_15 rfl (lyx_is hy 60 4 rfl) (rfx hr 60 5 62 (by decide)) ?_
  refine WQ_iconst (0) (0) dX4_begin_24 rfl rfl (fun v2453 hv2453 => ?_)
  refine WP_callS2u dX4_begin_25 ⟨⟨⟨by decide, by decide⟩, zJ7_fill_53178⟩, lX4_32, tJ7_fill_53178⟩ (s_fill hy hr 62 28 rfl rfl (by decide) v2453) (Nat.le_of_ble_eq_true rfl) ?_
  obtain ⟨I2454, eI2454⟩ : ∃ I9 : pI, I9 = fi I2444 (ad g 62) 28 v2453 := ⟨_, rfl⟩
  rw [← eI2454]
  have hI2454 : XI g n L I2454 := by rw [eI2454]; exact (fa_fill hy hI2444 (c := 62) 28 (by decide) hv2453)
  have e2455 : I2454 (ad g 1) 1 = L := by rw [eI2454, fi_off (lyx_ne hy (by decide) (by decide) (by decide))]; exact e2445
  have e2456 : I2454 (ad g 60) 0 = v2432 := by rw [eI2454, fi_off (lyx_ne hy (by decide) (by decide) (by decide))]; exact e2446
  have e2457 : I2454 (ad g 60) 1 = v2437 := by rw [eI2454, fi_off (lyx_ne hy (by decide) (by decide) (by decide))]; exact e2447
  have e2458 : I2454 (ad g 60) 2 = v2443 := by rw [eI2454, fi_off (lyx_ne hy (by decide) (by decide) (by decide))]; exact e2448
  have fr2459 : fz 74 g [60, 62] I I2454 := by rw [eI2454]; exact fzx_fi hy fr2449 (by decide) (by decide)
  clear eI2454
  refine WQ_iconst (0) (0) dX4_begin_28 rfl rfl (fun v2460 hv2460 => ?_)
  refine WP_istore_n (ls' := [(0, _), (1, _), (2, _)]) dX4_begin_29 (by decide) rfl ?_
  have lp30_2463 : ∀ (mz : Nat) (i2461 : Int32) (I2462 : pI) (J2463 : pJ), XI g n L I2462 → fz 74 g [60, 62] I I2462 → fz 74 g [60] J J2463 → 0 ≤ i2461.toInt → i2461.toInt ≤ 4 → (5 - i2461.toInt).toNat < mz → WP g mX4_begin 30 [(0, .ref (ad g 60)), (1, .ref (ad g 6)), (2, .int i2461)] [] I2462 J2463 R (fun r I' J' R' => (XI g n L I' ∧ R' = R ∧ fz 74 g [60, 62] I I' ∧ fz 74 g [60] J J') ∧ r = none) := by
    intro mz
    induction mz with
    | zero =>
      intro i2461 I2462 J2463 hI2462 fiI2462 fjJ2463 ai2461 bi2461 hmlp30_2463
      exact absurd hmlp30_2463 (Nat.not_lt_zero _)
    | succ mz ihlp30_2463 =>
      intro i2461 I2462 J2463 hI2462 fiI2462 fjJ2463 ai2461 bi2461 hmlp30_2463
      have e2465 : I2462 (ad g 1) 1 = L := hI2462.2
      have b2466 := BT_get hI2462.1 1 1 2 (0) (0) (900) (by decide) 1 (by decide) (by decide)
      rw [e2465] at b2466
      refine WP_iload_n dX4_begin_30 rfl ?_
      refine WP_aload_n dX4_begin_31 rfl ?_
      refine WQ_geti dX4_begin_32 fX4_38 rfl (lyx_is hy 6 7 rfl) (BT_get hI2462.1 6 1 2 (0) (0) (4) (by decide) 1 (by decide) (by decide)) (fun v2467 ev2467 av2467 bv2467 => ?_)
      refine WQ_icmp_ge 61 dX4_begin_35 rfl (fun c2467 => ?_) (fun c2467 => ?_)
      · exact WP_vret dX4_begin_61 rfl ⟨⟨hI2462, rfl, fiI2462, fjJ2463⟩, rfl⟩
      · refine WP_aload_n dX4_begin_38 rfl ?_
        refine WP_getr dX4_begin_39 fX4_15 rfl (lyx_is hy 60 4 rfl) (rfx hr 60 5 62 (by decide)) ?_
        refine WP_iload_n dX4_begin_42 rfl ?_
        refine WQ_bipush (7) (7) dX4_begin_43 rfl rfl (fun v2469 hv2469 => ?_)
        refine WQ_imulk (7) dX4_begin_45 hv2469 (by omega) (by omega) (fun v2470 hv2470 => ?_)
        refine WQ_iconst (0) (0) dX4_begin_46 rfl rfl (fun v2471 hv2471 => ?_)
        refine WQ_iadd dX4_begin_47 (by omega) (by omega) (fun v2472 hv2472 => ?_)
        refine WP_aload_n dX4_begin_48 rfl ?_
        refine WP_getr dX4_begin_49 fX4_43 rfl (lyx_is hy 6 7 rfl) (rfx hr 6 8 10 (by decide)) ?_
        refine WP_iload_n dX4_begin_52 rfl ?_
        refine WQ_iald dX4_begin_53 (lyx_is hy 10 13 rfl) (lyx_n hy 10 4 rfl) (by omega) (by omega) (fun q hq => BT_get hI2462.1 10 0 4 (0) (0) (60) (by decide) q (Nat.zero_le _) hq) (fun v2473 av2473 bv2473 ev2473 => ?_)
        clear ev2473
        refine WQ_iast dX4_begin_54 (lyx_is hy 62 13 rfl) (lyx_n hy 62 28 rfl) (by omega) (by omega) (fun I2474 eI2474 => ?_)
        have hI2474 : XI g n L I2474 := by rw [eI2474]; exact (fa_put hy hI2462 (c := 62) (k := 0) (s := i2461.toInt.toNat) (by decide) (by omega) (by decide) (by rw [cl (n := 7 * i2461.toInt.toNat + 0) (by omega)]) (fun _ => by omega) (fun _ => by omega))
        have e2475 : I2474 (ad g 1) 1 = L := by rw [eI2474, pp_ne _ _ (Or.inl (lyx_ne hy (by decide) (by decide) (by decide)))]; exact e2465
        have e2476 : I2474 (ad g 6) 1 = v2467 := by rw [eI2474, pp_ne _ _ (Or.inl (lyx_ne hy (by decide) (by decide) (by decide)))]; exact ev2467
        have fr2477 : fz 74 g [60, 62] I I2474 := by rw [eI2474]; exact fzx_pp hy fiI2462 (by decide) (by decide)
        clear eI2474
        refine WP_iinc (ls' := [(0, _), (1, _), (2, _)]) dX4_begin_55 rfl (by decide) rfl ?_
        have hv2478 : (i2461 + Int32.ofInt (1)).toInt = i2461.toInt + (1) := ia_n rfl (by omega) (by omega)
        generalize i2461 + Int32.ofInt (1) = v2478 at hv2478 ⊢
        refine WP_goto 30 dX4_begin_58 rfl ?_
        exact WP_sub (fc rfl (fc rfl (fc rfl fn))) (ihlp30_2463 v2478 I2474 J2463 hI2474 fr2477 fjJ2463 (by omega) (by omega) (by omega))
  exact WP_sub (fc rfl (fc rfl (fc rfl fn))) (lp30_2463 _ v2460 I2454 J2451 hI2454 fr2459 fr2452 (by omega) (by omega) (Nat.lt_succ_self _))
set_option maxHeartbeats 4000000 in
set_option maxRecDepth 100000 in
theorem sx_begin_60_27 {g : GG} {n : Int} {L : Int32} (hy : LyX g)  {I : pI} {J : pJ} {R : pR} (hr : RfX g R) (hI : XI g n L I)   (hn : 0 ≤ n) : SP g mX4_begin [.ref (ad g 60), .ref (ad g 27)] I J R (fun r I' J' R' => (XI g n L I' ∧ R' = R ∧ fz 74 g [60, 62] I I' ∧ fz 74 g [60] J J') ∧ r = none) := by
  refine SP_of ⟨by decide, rfl⟩ (Nat.le_of_ble_eq_true rfl) ?_
  have e2479 : I (ad g 1) 1 = L := hI.2
  have b2480 := BT_get hI.1 1 1 2 (0) (0) (900) (by decide) 1 (by decide) (by decide)
  rw [e2479] at b2480
  have fr0 : fz 74 g [60, 62] I I := fz_rf
  have frj0 : fz 74 g [60] J J := fz_rf
  refine WP_aload_n dX4_begin_0 rfl ?_
  refine WQ_iconst (0) (0) dX4_begin_1 rfl rfl (fun v2481 hv2481 => ?_)
  refine WQ_puti dX4_begin_2 fX4_18 rfl rfl (lyx_is hy 60 4 rfl) (fun I2482 eI2482 => ?_)
  have hI2482 : XI g n L I2482 := by rw [eI2482]; exact (xi_f0 hy hI (c := 60) (by decide) (Or.inl (by decide)) (by decide))
  have e2483 : I2482 (ad g 1) 1 = L := by rw [eI2482, pp_ne _ _ (Or.inl (lyx_ne hy (by decide) (by decide) (by decide)))]; exact e2479
  have e2484 : I2482 (ad g 60) 0 = v2481 := by rw [eI2482, pp_self]
  have fr2485 : fz 74 g [60, 62] I I2482 := by rw [eI2482]; exact fzx_pp hy fr0 (by decide) (by decide)
  clear eI2482
  refine WP_aload_n dX4_begin_5 rfl ?_
  refine WQ_iconst (0) (0) dX4_begin_6 rfl rfl (fun v2486 hv2486 => ?_)
  refine WQ_puti dX4_begin_7 fX4_22 rfl rfl (lyx_is hy 60 4 rfl) (fun I2487 eI2487 => ?_)
  have hI2487 : XI g n L I2487 := by rw [eI2487]; exact (xi_f hy hI2482 (c := 60) (0) (23760) (0) (by decide) (Or.inl (by decide)) (by decide) (by omega) (by omega))
  have e2488 : I2487 (ad g 1) 1 = L := by rw [eI2487, pp_ne _ _ (Or.inl (lyx_ne hy (by decide) (by decide) (by decide)))]; exact e2483
  have e2489 : I2487 (ad g 60) 0 = v2481 := by rw [eI2487, pp_ne _ _ (Or.inr (by decide))]; exact e2484
  have e2490 : I2487 (ad g 60) 1 = v2486 := by rw [eI2487, pp_self]
  have fr2491 : fz 74 g [60, 62] I I2487 := by rw [eI2487]; exact fzx_pp hy fr2485 (by decide) (by decide)
  clear eI2487
  refine WP_aload_n dX4_begin_10 rfl ?_
  refine WQ_iconst (0) (0) dX4_begin_11 rfl rfl (fun v2492 hv2492 => ?_)
  refine WQ_puti dX4_begin_12 fX4_25 rfl rfl (lyx_is hy 60 4 rfl) (fun I2493 eI2493 => ?_)
  have hI2493 : XI g n L I2493 := by rw [eI2493]; exact (xi_f0 hy hI2487 (c := 60) (by decide) (Or.inl (by decide)) (by decide))
  have e2494 : I2493 (ad g 1) 1 = L := by rw [eI2493, pp_ne _ _ (Or.inl (lyx_ne hy (by decide) (by decide) (by decide)))]; exact e2488
  have e2495 : I2493 (ad g 60) 0 = v2481 := by rw [eI2493, pp_ne _ _ (Or.inr (by decide))]; exact e2489
  have e2496 : I2493 (ad g 60) 1 = v2486 := by rw [eI2493, pp_ne _ _ (Or.inr (by decide))]; exact e2490
  have e2497 : I2493 (ad g 60) 2 = v2492 := by rw [eI2493, pp_self]
  have fr2498 : fz 74 g [60, 62] I I2493 := by rw [eI2493]; exact fzx_pp hy fr2491 (by decide) (by decide)
  clear eI2493
  refine WP_aload_n dX4_begin_15 rfl ?_
  refine WP_lconst (0) dX4_begin_16 rfl ?_
  obtain ⟨l2499, hl2499, el2499⟩ : ∃ v : Int64, v.toInt = 0 ∧ (0 : Int64) = v := ⟨_, rfl, rfl⟩
  rw [el2499]; clear el2499
  refine WQ_putl dX4_begin_17 fX4_28 rfl rfl (lyx_is hy 60 4 rfl) (fun J2500 eJ2500 => ?_)
  have fr2501 : fz 74 g [60] J J2500 := by rw [eJ2500]; exact fzx_pp hy frj0 (by decide) (by decide)
  clear eJ2500
  refine WP_aload_n dX4_begin_20 rfl ?_
  refine WP_getr dX4_begin_21 fX4_15 rfl (lyx_is hy 60 4 rfl) (rfx hr 60 5 62 (by decide)) ?_
  refine WQ_iconst (0) (0) dX4_begin_24 rfl rfl (fun v2502 hv2502 => ?_)
  refine WP_callS2u dX4_begin_25 ⟨⟨⟨by decide, by decide⟩, zJ7_fill_53178⟩, lX4_32, tJ7_fill_53178⟩ (s_fill hy hr 62 28 rfl rfl (by decide) v2502) (Nat.le_of_ble_eq_true rfl) ?_
  obtain ⟨I2503, eI2503⟩ : ∃ I9 : pI, I9 = fi I2493 (ad g 62) 28 v2502 := ⟨_, rfl⟩
  rw [← eI2503]
  have hI2503 : XI g n L I2503 := by rw [eI2503]; exact (fa_fill hy hI2493 (c := 62) 28 (by decide) hv2502)
  have e2504 : I2503 (ad g 1) 1 = L := by rw [eI2503, fi_off (lyx_ne hy (by decide) (by decide) (by decide))]; exact e2494
  have e2505 : I2503 (ad g 60) 0 = v2481 := by rw [eI2503, fi_off (lyx_ne hy (by decide) (by decide) (by decide))]; exact e2495
  have e2506 : I2503 (ad g 60) 1 = v2486 := by rw [eI2503, fi_off (lyx_ne hy (by decide) (by decide) (by decide))]; exact e2496
  have e2507 : I2503 (ad g 60) 2 = v2492 := by rw [eI2503, fi_off (lyx_ne hy (by decide) (by decide) (by decide))]; exact e2497
  have fr2508 : fz 74 g [60, 62] I I2503 := by rw [eI2503]; exact fzx_fi hy fr2498 (by decide) (by decide)
  clear eI2503
  refine WQ_iconst (0) (0) dX4_begin_28 rfl rfl (fun v2509 hv2509 => ?_)
  refine WP_istore_n (ls' := [(0, _), (1, _), (2, _)]) dX4_begin_29 (by decide) rfl ?_
  have lp30_2512 : ∀ (mz : Nat) (i2510 : Int32) (I2511 : pI) (J2512 : pJ), XI g n L I2511 → fz 74 g [60, 62] I I2511 → fz 74 g [60] J J2512 → 0 ≤ i2510.toInt → i2510.toInt ≤ 4 → (5 - i2510.toInt).toNat < mz → WP g mX4_begin 30 [(0, .ref (ad g 60)), (1, .ref (ad g 27)), (2, .int i2510)] [] I2511 J2512 R (fun r I' J' R' => (XI g n L I' ∧ R' = R ∧ fz 74 g [60, 62] I I' ∧ fz 74 g [60] J J') ∧ r = none) := by
    intro mz
    induction mz with
    | zero =>
      intro i2510 I2511 J2512 hI2511 fiI2511 fjJ2512 ai2510 bi2510 hmlp30_2512
      exact absurd hmlp30_2512 (Nat.not_lt_zero _)
    | succ mz ihlp30_2512 =>
      intro i2510 I2511 J2512 hI2511 fiI2511 fjJ2512 ai2510 bi2510 hmlp30_2512
      have e2514 : I2511 (ad g 1) 1 = L := hI2511.2
      have b2515 := BT_get hI2511.1 1 1 2 (0) (0) (900) (by decide) 1 (by decide) (by decide)
      rw [e2514] at b2515
      refine WP_iload_n dX4_begin_30 rfl ?_
      refine WP_aload_n dX4_begin_31 rfl ?_
      refine WQ_geti dX4_begin_32 fX4_38 rfl (lyx_is hy 27 7 rfl) (BT_get hI2511.1 27 1 2 (0) (0) (4) (by decide) 1 (by decide) (by decide)) (fun v2516 ev2516 av2516 bv2516 => ?_)
      refine WQ_icmp_ge 61 dX4_begin_35 rfl (fun c2516 => ?_) (fun c2516 => ?_)
      · exact WP_vret dX4_begin_61 rfl ⟨⟨hI2511, rfl, fiI2511, fjJ2512⟩, rfl⟩
      · refine WP_aload_n dX4_begin_38 rfl ?_
        refine WP_getr dX4_begin_39 fX4_15 rfl (lyx_is hy 60 4 rfl) (rfx hr 60 5 62 (by decide)) ?_
        refine WP_iload_n dX4_begin_42 rfl ?_
        refine WQ_bipush (7) (7) dX4_begin_43 rfl rfl (fun v2518 hv2518 => ?_)
        refine WQ_imulk (7) dX4_begin_45 hv2518 (by omega) (by omega) (fun v2519 hv2519 => ?_)
        refine WQ_iconst (0) (0) dX4_begin_46 rfl rfl (fun v2520 hv2520 => ?_)
        refine WQ_iadd dX4_begin_47 (by omega) (by omega) (fun v2521 hv2521 => ?_)
        refine WP_aload_n dX4_begin_48 rfl ?_
        refine WP_getr dX4_begin_49 fX4_43 rfl (lyx_is hy 27 7 rfl) (rfx hr 27 8 31 (by decide)) ?_
        refine WP_iload_n dX4_begin_52 rfl ?_
        refine WQ_iald dX4_begin_53 (lyx_is hy 31 13 rfl) (lyx_n hy 31 4 rfl) (by omega) (by omega) (fun q hq => BT_get hI2511.1 31 0 4 (0) (0) (60) (by decide) q (Nat.zero_le _) hq) (fun v2522 av2522 bv2522 ev2522 => ?_)
        clear ev2522
        refine WQ_iast dX4_begin_54 (lyx_is hy 62 13 rfl) (lyx_n hy 62 28 rfl) (by omega) (by omega) (fun I2523 eI2523 => ?_)
        have hI2523 : XI g n L I2523 := by rw [eI2523]; exact (fa_put hy hI2511 (c := 62) (k := 0) (s := i2510.toInt.toNat) (by decide) (by omega) (by decide) (by rw [cl (n := 7 * i2510.toInt.toNat + 0) (by omega)]) (fun _ => by omega) (fun _ => by omega))
        have e2524 : I2523 (ad g 1) 1 = L := by rw [eI2523, pp_ne _ _ (Or.inl (lyx_ne hy (by decide) (by decide) (by decide)))]; exact e2514
        have e2525 : I2523 (ad g 27) 1 = v2516 := by rw [eI2523, pp_ne _ _ (Or.inl (lyx_ne hy (by decide) (by decide) (by decide)))]; exact ev2516
        have fr2526 : fz 74 g [60, 62] I I2523 := by rw [eI2523]; exact fzx_pp hy fiI2511 (by decide) (by decide)
        clear eI2523
        refine WP_iinc (ls' := [(0, _), (1, _), (2, _)]) dX4_begin_55 rfl (by decide) rfl ?_
        have hv2527 : (i2510 + Int32.ofInt (1)).toInt = i2510.toInt + (1) := ia_n rfl (by omega) (by omega)
        generalize i2510 + Int32.ofInt (1) = v2527 at hv2527 ⊢
        refine WP_goto 30 dX4_begin_58 rfl ?_
        exact WP_sub (fc rfl (fc rfl (fc rfl fn))) (ihlp30_2512 v2527 I2523 J2512 hI2523 fr2526 fjJ2512 (by omega) (by omega) (by omega))
  exact WP_sub (fc rfl (fc rfl (fc rfl fn))) (lp30_2512 _ v2509 I2503 J2500 hI2503 fr2508 fr2501 (by omega) (by omega) (Nat.lt_succ_self _))
set_option maxHeartbeats 4000000 in
set_option maxRecDepth 100000 in
theorem sx_become_60_53 {g : GG} {n : Int} {L : Int32} (hy : LyX g)  {I : pI} {J : pJ} {R : pR} (hr : RfX g R) (hI : XI g n L I)   : SP g mX4_become [.ref (ad g 60), .ref (ad g 53)] I J R (fun r I' J' R' => (XI g n L I' ∧ R' = R ∧ fz 74 g [60, 61, 62] I I' ∧ fz 74 g [60] J J') ∧ r = none) := by
  refine SP_of ⟨by decide, rfl⟩ (Nat.le_of_ble_eq_true rfl) ?_
  have e2528 : I (ad g 1) 1 = L := hI.2
  have b2529 := BT_get hI.1 1 1 2 (0) (0) (900) (by decide) 1 (by decide) (by decide)
  rw [e2528] at b2529
  have fr0 : fz 74 g [60, 61, 62] I I := fz_rf
  have frj0 : fz 74 g [60] J J := fz_rf
  refine WP_aload_n dX4_become_0 rfl ?_
  refine WP_aload_n dX4_become_1 rfl ?_
  refine WQ_getiu dX4_become_2 fX4_18 rfl (lyx_is hy 53 4 rfl) (fun v2530 ev2530 => ?_)
  refine WQ_puti dX4_become_5 fX4_18 rfl rfl (lyx_is hy 60 4 rfl) (fun I2531 eI2531 => ?_)
  have hI2531 : XI g n L I2531 := by rw [eI2531]; exact (xi_f0 hy hI (c := 60) (by decide) (Or.inl (by decide)) (by decide))
  have e2532 : I2531 (ad g 1) 1 = L := by rw [eI2531, pp_ne _ _ (Or.inl (lyx_ne hy (by decide) (by decide) (by decide)))]; exact e2528
  have e2533 : I2531 (ad g 53) 0 = v2530 := by rw [eI2531, pp_ne _ _ (Or.inl (lyx_ne hy (by decide) (by decide) (by decide)))]; exact ev2530
  have e2534 : I2531 (ad g 60) 0 = v2530 := by rw [eI2531, pp_self]
  have fr2535 : fz 74 g [60, 61, 62] I I2531 := by rw [eI2531]; exact fzx_pp hy fr0 (by decide) (by decide)
  clear eI2531
  refine WP_aload_n dX4_become_8 rfl ?_
  refine WP_aload_n dX4_become_9 rfl ?_
  refine WQ_geti dX4_become_10 fX4_22 rfl (lyx_is hy 53 4 rfl) (BT_get hI2531.1 53 1 2 (0) (23760) (0) (by decide) 1 (by decide) (by decide)) (fun v2536 ev2536 av2536 bv2536 => ?_)
  refine WQ_puti dX4_become_13 fX4_22 rfl rfl (lyx_is hy 60 4 rfl) (fun I2537 eI2537 => ?_)
  have hI2537 : XI g n L I2537 := by rw [eI2537]; exact (xi_f hy hI2531 (c := 60) (0) (23760) (0) (by decide) (Or.inl (by decide)) (by decide) (by omega) (by omega))
  have e2538 : I2537 (ad g 1) 1 = L := by rw [eI2537, pp_ne _ _ (Or.inl (lyx_ne hy (by decide) (by decide) (by decide)))]; exact e2532
  have e2539 : I2537 (ad g 53) 0 = v2530 := by rw [eI2537, pp_ne _ _ (Or.inl (lyx_ne hy (by decide) (by decide) (by decide)))]; exact e2533
  have e2540 : I2537 (ad g 60) 0 = v2530 := by rw [eI2537, pp_ne _ _ (Or.inr (by decide))]; exact e2534
  have e2541 : I2537 (ad g 53) 1 = v2536 := by rw [eI2537, pp_ne _ _ (Or.inl (lyx_ne hy (by decide) (by decide) (by decide)))]; exact ev2536
  have e2542 : I2537 (ad g 60) 1 = v2536 := by rw [eI2537, pp_self]
  have fr2543 : fz 74 g [60, 61, 62] I I2537 := by rw [eI2537]; exact fzx_pp hy fr2535 (by decide) (by decide)
  clear eI2537
  refine WP_aload_n dX4_become_16 rfl ?_
  refine WP_aload_n dX4_become_17 rfl ?_
  refine WQ_getiu dX4_become_18 fX4_25 rfl (lyx_is hy 53 4 rfl) (fun v2544 ev2544 => ?_)
  refine WQ_puti dX4_become_21 fX4_25 rfl rfl (lyx_is hy 60 4 rfl) (fun I2545 eI2545 => ?_)
  have hI2545 : XI g n L I2545 := by rw [eI2545]; exact (xi_f0 hy hI2537 (c := 60) (by decide) (Or.inl (by decide)) (by decide))
  have e2546 : I2545 (ad g 1) 1 = L := by rw [eI2545, pp_ne _ _ (Or.inl (lyx_ne hy (by decide) (by decide) (by decide)))]; exact e2538
  have e2547 : I2545 (ad g 53) 0 = v2530 := by rw [eI2545, pp_ne _ _ (Or.inl (lyx_ne hy (by decide) (by decide) (by decide)))]; exact e2539
  have e2548 : I2545 (ad g 60) 0 = v2530 := by rw [eI2545, pp_ne _ _ (Or.inr (by decide))]; exact e2540
  have e2549 : I2545 (ad g 53) 1 = v2536 := by rw [eI2545, pp_ne _ _ (Or.inl (lyx_ne hy (by decide) (by decide) (by decide)))]; exact e2541
  have e2550 : I2545 (ad g 60) 1 = v2536 := by rw [eI2545, pp_ne _ _ (Or.inr (by decide))]; exact e2542
  have e2551 : I2545 (ad g 53) 2 = v2544 := by rw [eI2545, pp_ne _ _ (Or.inl (lyx_ne hy (by decide) (by decide) (by decide)))]; exact ev2544
  have e2552 : I2545 (ad g 60) 2 = v2544 := by rw [eI2545, pp_self]
  have fr2553 : fz 74 g [60, 61, 62] I I2545 := by rw [eI2545]; exact fzx_pp hy fr2543 (by decide) (by decide)
  clear eI2545
  refine WP_aload_n dX4_become_24 rfl ?_
  refine WP_aload_n dX4_become_25 rfl ?_
  refine WQ_getl dX4_become_26 fX4_28 rfl (lyx_is hy 53 4 rfl) (fun l2554 el2554 => ?_)
  refine WQ_putl dX4_become_29 fX4_28 rfl rfl (lyx_is hy 60 4 rfl) (fun J2555 eJ2555 => ?_)
  have fr2556 : fz 74 g [60] J J2555 := by rw [eJ2555]; exact fzx_pp hy frj0 (by decide) (by decide)
  clear eJ2555
  refine WP_aload_n dX4_become_32 rfl ?_
  refine WP_getr dX4_become_33 fX4_9 rfl (lyx_is hy 53 4 rfl) (rfx hr 53 4 54 (by decide)) ?_
  refine WQ_iconst (0) (0) dX4_become_36 rfl rfl (fun v2557 hv2557 => ?_)
  refine WP_aload_n dX4_become_37 rfl ?_
  refine WP_getr dX4_become_38 fX4_9 rfl (lyx_is hy 60 4 rfl) (rfx hr 60 4 61 (by decide)) ?_
  refine WQ_iconst (0) (0) dX4_become_41 rfl rfl (fun v2558 hv2558 => ?_)
  refine WP_aload_n dX4_become_42 rfl ?_
  refine WP_getr dX4_become_43 fX4_9 rfl (lyx_is hy 60 4 rfl) (rfx hr 60 4 61 (by decide)) ?_
  refine WP_alen dX4_become_46 (lyx_is hy 61 13 rfl) (by decide) ?_
  rw [(lyx_n hy 61 4 rfl)]
  obtain ⟨v2559, hv2559, ev2559⟩ : ∃ v : Int32, v.toInt = 4 ∧ nI 4 = v := ⟨_, nI_toInt (by decide), rfl⟩
  rw [ev2559]; clear ev2559
  refine WQ_copy0 (N := 4) dX4_become_47 lX4_46 ⟨by decide, Nat.le_of_ble_eq_true rfl⟩ (lyx_is hy 54 13 rfl) (lyx_is hy 61 13 rfl) hv2557 hv2558 hv2559 (lyx_n hy 54 4 rfl) (lyx_n hy 61 4 rfl) (fun I2560 fI2560 oI2560 => ?_)
  have hI2560 : XI g n L I2560 := xi_copy hy hI2545 54 61 4 (by decide) (by decide) fI2560 oI2560
  have fr2561 : fz 74 g [60, 61, 62] I I2560 := fzx_cp hy fr2553 oI2560 (by decide) (by decide)
  clear fI2560 oI2560
  have e2562 : I2560 (ad g 1) 1 = L := hI2560.2
  have b2563 := BT_get hI2560.1 1 1 2 (0) (0) (900) (by decide) 1 (by decide) (by decide)
  rw [e2562] at b2563
  refine WP_aload_n dX4_become_50 rfl ?_
  refine WP_getr dX4_become_51 fX4_15 rfl (lyx_is hy 53 4 rfl) (rfx hr 53 5 55 (by decide)) ?_
  refine WQ_iconst (0) (0) dX4_become_54 rfl rfl (fun v2564 hv2564 => ?_)
  refine WP_aload_n dX4_become_55 rfl ?_
  refine WP_getr dX4_become_56 fX4_15 rfl (lyx_is hy 60 4 rfl) (rfx hr 60 5 62 (by decide)) ?_
  refine WQ_iconst (0) (0) dX4_become_59 rfl rfl (fun v2565 hv2565 => ?_)
  refine WP_aload_n dX4_become_60 rfl ?_
  refine WP_getr dX4_become_61 fX4_15 rfl (lyx_is hy 60 4 rfl) (rfx hr 60 5 62 (by decide)) ?_
  refine WP_alen dX4_become_64 (lyx_is hy 62 13 rfl) (by decide) ?_
  rw [(lyx_n hy 62 28 rfl)]
  obtain ⟨v2566, hv2566, ev2566⟩ : ∃ v : Int32, v.toInt = 28 ∧ nI 28 = v := ⟨_, nI_toInt (by decide), rfl⟩
  rw [ev2566]; clear ev2566
  refine WQ_copy0 (N := 28) dX4_become_65 lX4_46 ⟨by decide, Nat.le_of_ble_eq_true rfl⟩ (lyx_is hy 55 13 rfl) (lyx_is hy 62 13 rfl) hv2564 hv2565 hv2566 (lyx_n hy 55 28 rfl) (lyx_n hy 62 28 rfl) (fun I2567 fI2567 oI2567 => ?_)
  have hI2567 : XI g n L I2567 := xi_copy hy hI2560 55 62 28 (by decide) (by decide) fI2567 oI2567
  have fr2568 : fz 74 g [60, 61, 62] I I2567 := fzx_cp hy fr2561 oI2567 (by decide) (by decide)
  clear fI2567 oI2567
  have e2569 : I2567 (ad g 1) 1 = L := hI2567.2
  have b2570 := BT_get hI2567.1 1 1 2 (0) (0) (900) (by decide) 1 (by decide) (by decide)
  rw [e2569] at b2570
  exact WP_vret dX4_become_68 rfl ⟨⟨hI2567, rfl, fr2568, fr2556⟩, rfl⟩
set_option maxHeartbeats 4000000 in
set_option maxRecDepth 100000 in
theorem sx_sum_63 {g : GG} {n : Int} {L : Int32} (hy : LyX g)  {I : pI} {J : pJ} {R : pR} (hr : RfX g R) (hI : XI g n L I) (wh : Int32) (wh_lo : 0 ≤ wh.toInt) (wh_hi : wh.toInt ≤ 6) : SP g mX4_sum [.ref (ad g 63), .int wh] I J R (fun r I' J' R' => (I' = I ∧ J' = J ∧ R' = R) ∧ ∃ v : Int32, r = some (.int v)) := by
  refine SP_of ⟨by decide, rfl⟩ (Nat.le_of_ble_eq_true rfl) ?_
  have e2571 : I (ad g 1) 1 = L := hI.2
  have b2572 := BT_get hI.1 1 1 2 (0) (0) (900) (by decide) 1 (by decide) (by decide)
  rw [e2571] at b2572
  refine WQ_iconst (0) (0) dX4_sum_0 rfl rfl (fun v2573 hv2573 => ?_)
  refine WP_istore_n (ls' := [(0, _), (1, _), (2, _)]) dX4_sum_1 (by decide) rfl ?_
  refine WQ_iconst (0) (0) dX4_sum_2 rfl rfl (fun v2574 hv2574 => ?_)
  refine WP_istore_n (ls' := [(0, _), (1, _), (2, _), (3, _)]) dX4_sum_3 (by decide) rfl ?_
  have lp4_2576 : ∀ (mz : Nat) (i2575 : Int32) (i2576 : Int32), 0 ≤ i2576.toInt → i2576.toInt ≤ 4 → (5 - i2576.toInt).toNat < mz → WP g mX4_sum 4 [(0, .ref (ad g 63)), (1, .int wh), (2, .int i2575), (3, .int i2576)] [] I J R (fun r I' J' R' => (I' = I ∧ J' = J ∧ R' = R) ∧ ∃ v : Int32, r = some (.int v)) := by
    intro mz
    induction mz with
    | zero =>
      intro i2575 i2576 ai2576 bi2576 hmlp4_2576
      exact absurd hmlp4_2576 (Nat.not_lt_zero _)
    | succ mz ihlp4_2576 =>
      intro i2575 i2576 ai2576 bi2576 hmlp4_2576
      refine WP_iload_n dX4_sum_4 rfl ?_
      refine WQ_iconst (4) (4) dX4_sum_5 rfl rfl (fun v2578 hv2578 => ?_)
      refine WQ_icmp_ge 29 dX4_sum_6 rfl (fun c2578 => ?_) (fun c2578 => ?_)
      · refine WP_iload_n dX4_sum_29 rfl ?_
        exact WP_iret dX4_sum_30 rfl ⟨⟨rfl, rfl, rfl⟩, _, rfl⟩
      · refine WP_iload_n dX4_sum_9 rfl ?_
        refine WP_aload_n dX4_sum_10 rfl ?_
        refine WP_getr dX4_sum_11 fX4_15 rfl (lyx_is hy 63 4 rfl) (rfx hr 63 5 65 (by decide)) ?_
        refine WP_iload_n dX4_sum_14 rfl ?_
        refine WQ_bipush (7) (7) dX4_sum_15 rfl rfl (fun v2580 hv2580 => ?_)
        refine WQ_imulk (7) dX4_sum_17 hv2580 (by omega) (by omega) (fun v2581 hv2581 => ?_)
        refine WP_iload_n dX4_sum_18 rfl ?_
        refine WQ_iadd dX4_sum_19 (by omega) (by omega) (fun v2582 hv2582 => ?_)
        refine WQ_ialdu dX4_sum_20 (lyx_is hy 65 13 rfl) (lyx_n hy 65 28 rfl) (by omega) (by omega) (fun v2583 => ?_)
        refine WQ_iaddu dX4_sum_21 (fun v2584 => ?_)
        refine WP_istore_n (ls' := [(0, _), (1, _), (2, _), (3, _)]) dX4_sum_22 (by decide) rfl ?_
        refine WP_iinc (ls' := [(0, _), (1, _), (2, _), (3, _)]) dX4_sum_23 rfl (by decide) rfl ?_
        have hv2585 : (i2576 + Int32.ofInt (1)).toInt = i2576.toInt + (1) := ia_n rfl (by omega) (by omega)
        generalize i2576 + Int32.ofInt (1) = v2585 at hv2585 ⊢
        refine WP_goto 4 dX4_sum_26 rfl ?_
        exact WP_sub (fc rfl (fc rfl (fc rfl (fc rfl fn)))) (ihlp4_2576 v2584 v2585 (by omega) (by omega) (by omega))
  exact WP_sub (fc rfl (fc rfl (fc rfl (fc rfl fn)))) (lp4_2576 _ v2573 v2574 (by omega) (by omega) (Nat.lt_succ_self _))
set_option maxHeartbeats 4000000 in
set_option maxRecDepth 100000 in
theorem sx_begin_63_6 {g : GG} {n : Int} {L : Int32} (hy : LyX g)  {I : pI} {J : pJ} {R : pR} (hr : RfX g R) (hI : XI g n L I)   (hn : 0 ≤ n) : SP g mX4_begin [.ref (ad g 63), .ref (ad g 6)] I J R (fun r I' J' R' => (XI g n L I' ∧ R' = R ∧ fz 74 g [63, 65] I I' ∧ fz 74 g [63] J J') ∧ r = none) := by
  refine SP_of ⟨by decide, rfl⟩ (Nat.le_of_ble_eq_true rfl) ?_
  have e2586 : I (ad g 1) 1 = L := hI.2
  have b2587 := BT_get hI.1 1 1 2 (0) (0) (900) (by decide) 1 (by decide) (by decide)
  rw [e2586] at b2587
  have fr0 : fz 74 g [63, 65] I I := fz_rf
  have frj0 : fz 74 g [63] J J := fz_rf
  refine WP_aload_n dX4_begin_0 rfl ?_
  refine WQ_iconst (0) (0) dX4_begin_1 rfl rfl (fun v2588 hv2588 => ?_)
  refine WQ_puti dX4_begin_2 fX4_18 rfl rfl (lyx_is hy 63 4 rfl) (fun I2589 eI2589 => ?_)
  have hI2589 : XI g n L I2589 := by rw [eI2589]; exact (xi_f0 hy hI (c := 63) (by decide) (Or.inl (by decide)) (by decide))
  have e2590 : I2589 (ad g 1) 1 = L := by rw [eI2589, pp_ne _ _ (Or.inl (lyx_ne hy (by decide) (by decide) (by decide)))]; exact e2586
  have e2591 : I2589 (ad g 63) 0 = v2588 := by rw [eI2589, pp_self]
  have fr2592 : fz 74 g [63, 65] I I2589 := by rw [eI2589]; exact fzx_pp hy fr0 (by decide) (by decide)
  clear eI2589
  refine WP_aload_n dX4_begin_5 rfl ?_
  refine WQ_iconst (0) (0) dX4_begin_6 rfl rfl (fun v2593 hv2593 => ?_)
  refine WQ_puti dX4_begin_7 fX4_22 rfl rfl (lyx_is hy 63 4 rfl) (fun I2594 eI2594 => ?_)
  have hI2594 : XI g n L I2594 := by rw [eI2594]; exact (xi_f hy hI2589 (c := 63) (0) (23760) (0) (by decide) (Or.inl (by decide)) (by decide) (by omega) (by omega))
  have e2595 : I2594 (ad g 1) 1 = L := by rw [eI2594, pp_ne _ _ (Or.inl (lyx_ne hy (by decide) (by decide) (by decide)))]; exact e2590
  have e2596 : I2594 (ad g 63) 0 = v2588 := by rw [eI2594, pp_ne _ _ (Or.inr (by decide))]; exact e2591
  have e2597 : I2594 (ad g 63) 1 = v2593 := by rw [eI2594, pp_self]
  have fr2598 : fz 74 g [63, 65] I I2594 := by rw [eI2594]; exact fzx_pp hy fr2592 (by decide) (by decide)
  clear eI2594
  refine WP_aload_n dX4_begin_10 rfl ?_
  refine WQ_iconst (0) (0) dX4_begin_11 rfl rfl (fun v2599 hv2599 => ?_)
  refine WQ_puti dX4_begin_12 fX4_25 rfl rfl (lyx_is hy 63 4 rfl) (fun I2600 eI2600 => ?_)
  have hI2600 : XI g n L I2600 := by rw [eI2600]; exact (xi_f0 hy hI2594 (c := 63) (by decide) (Or.inl (by decide)) (by decide))
  have e2601 : I2600 (ad g 1) 1 = L := by rw [eI2600, pp_ne _ _ (Or.inl (lyx_ne hy (by decide) (by decide) (by decide)))]; exact e2595
  have e2602 : I2600 (ad g 63) 0 = v2588 := by rw [eI2600, pp_ne _ _ (Or.inr (by decide))]; exact e2596
  have e2603 : I2600 (ad g 63) 1 = v2593 := by rw [eI2600, pp_ne _ _ (Or.inr (by decide))]; exact e2597
  have e2604 : I2600 (ad g 63) 2 = v2599 := by rw [eI2600, pp_self]
  have fr2605 : fz 74 g [63, 65] I I2600 := by rw [eI2600]; exact fzx_pp hy fr2598 (by decide) (by decide)
  clear eI2600
  refine WP_aload_n dX4_begin_15 rfl ?_
  refine WP_lconst (0) dX4_begin_16 rfl ?_
  obtain ⟨l2606, hl2606, el2606⟩ : ∃ v : Int64, v.toInt = 0 ∧ (0 : Int64) = v := ⟨_, rfl, rfl⟩
  rw [el2606]; clear el2606
  refine WQ_putl dX4_begin_17 fX4_28 rfl rfl (lyx_is hy 63 4 rfl) (fun J2607 eJ2607 => ?_)
  have fr2608 : fz 74 g [63] J J2607 := by rw [eJ2607]; exact fzx_pp hy frj0 (by decide) (by decide)
  clear eJ2607
  refine WP_aload_n dX4_begin_20 rfl ?_
  refine WP_getr dX4_begin_21 fX4_15 rfl (lyx_is hy 63 4 rfl) (rfx hr 63 5 65 (by decide)) ?_
  refine WQ_iconst (0) (0) dX4_begin_24 rfl rfl (fun v2609 hv2609 => ?_)
  refine WP_callS2u dX4_begin_25 ⟨⟨⟨by decide, by decide⟩, zJ7_fill_53178⟩, lX4_32, tJ7_fill_53178⟩ (s_fill hy hr 65 28 rfl rfl (by decide) v2609) (Nat.le_of_ble_eq_true rfl) ?_
  obtain ⟨I2610, eI2610⟩ : ∃ I9 : pI, I9 = fi I2600 (ad g 65) 28 v2609 := ⟨_, rfl⟩
  rw [← eI2610]
  have hI2610 : XI g n L I2610 := by rw [eI2610]; exact (fa_fill hy hI2600 (c := 65) 28 (by decide) hv2609)
  have e2611 : I2610 (ad g 1) 1 = L := by rw [eI2610, fi_off (lyx_ne hy (by decide) (by decide) (by decide))]; exact e2601
  have e2612 : I2610 (ad g 63) 0 = v2588 := by rw [eI2610, fi_off (lyx_ne hy (by decide) (by decide) (by decide))]; exact e2602
  have e2613 : I2610 (ad g 63) 1 = v2593 := by rw [eI2610, fi_off (lyx_ne hy (by decide) (by decide) (by decide))]; exact e2603
  have e2614 : I2610 (ad g 63) 2 = v2599 := by rw [eI2610, fi_off (lyx_ne hy (by decide) (by decide) (by decide))]; exact e2604
  have fr2615 : fz 74 g [63, 65] I I2610 := by rw [eI2610]; exact fzx_fi hy fr2605 (by decide) (by decide)
  clear eI2610
  refine WQ_iconst (0) (0) dX4_begin_28 rfl rfl (fun v2616 hv2616 => ?_)
  refine WP_istore_n (ls' := [(0, _), (1, _), (2, _)]) dX4_begin_29 (by decide) rfl ?_
  have lp30_2619 : ∀ (mz : Nat) (i2617 : Int32) (I2618 : pI) (J2619 : pJ), XI g n L I2618 → fz 74 g [63, 65] I I2618 → fz 74 g [63] J J2619 → 0 ≤ i2617.toInt → i2617.toInt ≤ 4 → (5 - i2617.toInt).toNat < mz → WP g mX4_begin 30 [(0, .ref (ad g 63)), (1, .ref (ad g 6)), (2, .int i2617)] [] I2618 J2619 R (fun r I' J' R' => (XI g n L I' ∧ R' = R ∧ fz 74 g [63, 65] I I' ∧ fz 74 g [63] J J') ∧ r = none) := by
    intro mz
    induction mz with
    | zero =>
      intro i2617 I2618 J2619 hI2618 fiI2618 fjJ2619 ai2617 bi2617 hmlp30_2619
      exact absurd hmlp30_2619 (Nat.not_lt_zero _)
    | succ mz ihlp30_2619 =>
      intro i2617 I2618 J2619 hI2618 fiI2618 fjJ2619 ai2617 bi2617 hmlp30_2619
      have e2621 : I2618 (ad g 1) 1 = L := hI2618.2
      have b2622 := BT_get hI2618.1 1 1 2 (0) (0) (900) (by decide) 1 (by decide) (by decide)
      rw [e2621] at b2622
      refine WP_iload_n dX4_begin_30 rfl ?_
      refine WP_aload_n dX4_begin_31 rfl ?_
      refine WQ_geti dX4_begin_32 fX4_38 rfl (lyx_is hy 6 7 rfl) (BT_get hI2618.1 6 1 2 (0) (0) (4) (by decide) 1 (by decide) (by decide)) (fun v2623 ev2623 av2623 bv2623 => ?_)
      refine WQ_icmp_ge 61 dX4_begin_35 rfl (fun c2623 => ?_) (fun c2623 => ?_)
      · exact WP_vret dX4_begin_61 rfl ⟨⟨hI2618, rfl, fiI2618, fjJ2619⟩, rfl⟩
      · refine WP_aload_n dX4_begin_38 rfl ?_
        refine WP_getr dX4_begin_39 fX4_15 rfl (lyx_is hy 63 4 rfl) (rfx hr 63 5 65 (by decide)) ?_
        refine WP_iload_n dX4_begin_42 rfl ?_
        refine WQ_bipush (7) (7) dX4_begin_43 rfl rfl (fun v2625 hv2625 => ?_)
        refine WQ_imulk (7) dX4_begin_45 hv2625 (by omega) (by omega) (fun v2626 hv2626 => ?_)
        refine WQ_iconst (0) (0) dX4_begin_46 rfl rfl (fun v2627 hv2627 => ?_)
        refine WQ_iadd dX4_begin_47 (by omega) (by omega) (fun v2628 hv2628 => ?_)
        refine WP_aload_n dX4_begin_48 rfl ?_
        refine WP_getr dX4_begin_49 fX4_43 rfl (lyx_is hy 6 7 rfl) (rfx hr 6 8 10 (by decide)) ?_
        refine WP_iload_n dX4_begin_52 rfl ?_
        refine WQ_iald dX4_begin_53 (lyx_is hy 10 13 rfl) (lyx_n hy 10 4 rfl) (by omega) (by omega) (fun q hq => BT_get hI2618.1 10 0 4 (0) (0) (60) (by decide) q (Nat.zero_le _) hq) (fun v2629 av2629 bv2629 ev2629 => ?_)
        clear ev2629
        refine WQ_iast dX4_begin_54 (lyx_is hy 65 13 rfl) (lyx_n hy 65 28 rfl) (by omega) (by omega) (fun I2630 eI2630 => ?_)
        have hI2630 : XI g n L I2630 := by rw [eI2630]; exact (fa_put hy hI2618 (c := 65) (k := 0) (s := i2617.toInt.toNat) (by decide) (by omega) (by decide) (by rw [cl (n := 7 * i2617.toInt.toNat + 0) (by omega)]) (fun _ => by omega) (fun _ => by omega))
        have e2631 : I2630 (ad g 1) 1 = L := by rw [eI2630, pp_ne _ _ (Or.inl (lyx_ne hy (by decide) (by decide) (by decide)))]; exact e2621
        have e2632 : I2630 (ad g 6) 1 = v2623 := by rw [eI2630, pp_ne _ _ (Or.inl (lyx_ne hy (by decide) (by decide) (by decide)))]; exact ev2623
        have fr2633 : fz 74 g [63, 65] I I2630 := by rw [eI2630]; exact fzx_pp hy fiI2618 (by decide) (by decide)
        clear eI2630
        refine WP_iinc (ls' := [(0, _), (1, _), (2, _)]) dX4_begin_55 rfl (by decide) rfl ?_
        have hv2634 : (i2617 + Int32.ofInt (1)).toInt = i2617.toInt + (1) := ia_n rfl (by omega) (by omega)
        generalize i2617 + Int32.ofInt (1) = v2634 at hv2634 ⊢
        refine WP_goto 30 dX4_begin_58 rfl ?_
        exact WP_sub (fc rfl (fc rfl (fc rfl fn))) (ihlp30_2619 v2634 I2630 J2619 hI2630 fr2633 fjJ2619 (by omega) (by omega) (by omega))
  exact WP_sub (fc rfl (fc rfl (fc rfl fn))) (lp30_2619 _ v2616 I2610 J2607 hI2610 fr2615 fr2608 (by omega) (by omega) (Nat.lt_succ_self _))
set_option maxHeartbeats 4000000 in
set_option maxRecDepth 100000 in
theorem sx_begin_63_27 {g : GG} {n : Int} {L : Int32} (hy : LyX g)  {I : pI} {J : pJ} {R : pR} (hr : RfX g R) (hI : XI g n L I)   (hn : 0 ≤ n) : SP g mX4_begin [.ref (ad g 63), .ref (ad g 27)] I J R (fun r I' J' R' => (XI g n L I' ∧ R' = R ∧ fz 74 g [63, 65] I I' ∧ fz 74 g [63] J J') ∧ r = none) := by
  refine SP_of ⟨by decide, rfl⟩ (Nat.le_of_ble_eq_true rfl) ?_
  have e2635 : I (ad g 1) 1 = L := hI.2
  have b2636 := BT_get hI.1 1 1 2 (0) (0) (900) (by decide) 1 (by decide) (by decide)
  rw [e2635] at b2636
  have fr0 : fz 74 g [63, 65] I I := fz_rf
  have frj0 : fz 74 g [63] J J := fz_rf
  refine WP_aload_n dX4_begin_0 rfl ?_
  refine WQ_iconst (0) (0) dX4_begin_1 rfl rfl (fun v2637 hv2637 => ?_)
  refine WQ_puti dX4_begin_2 fX4_18 rfl rfl (lyx_is hy 63 4 rfl) (fun I2638 eI2638 => ?_)
  have hI2638 : XI g n L I2638 := by rw [eI2638]; exact (xi_f0 hy hI (c := 63) (by decide) (Or.inl (by decide)) (by decide))
  have e2639 : I2638 (ad g 1) 1 = L := by rw [eI2638, pp_ne _ _ (Or.inl (lyx_ne hy (by decide) (by decide) (by decide)))]; exact e2635
  have e2640 : I2638 (ad g 63) 0 = v2637 := by rw [eI2638, pp_self]
  have fr2641 : fz 74 g [63, 65] I I2638 := by rw [eI2638]; exact fzx_pp hy fr0 (by decide) (by decide)
  clear eI2638
  refine WP_aload_n dX4_begin_5 rfl ?_
  refine WQ_iconst (0) (0) dX4_begin_6 rfl rfl (fun v2642 hv2642 => ?_)
  refine WQ_puti dX4_begin_7 fX4_22 rfl rfl (lyx_is hy 63 4 rfl) (fun I2643 eI2643 => ?_)
  have hI2643 : XI g n L I2643 := by rw [eI2643]; exact (xi_f hy hI2638 (c := 63) (0) (23760) (0) (by decide) (Or.inl (by decide)) (by decide) (by omega) (by omega))
  have e2644 : I2643 (ad g 1) 1 = L := by rw [eI2643, pp_ne _ _ (Or.inl (lyx_ne hy (by decide) (by decide) (by decide)))]; exact e2639
  have e2645 : I2643 (ad g 63) 0 = v2637 := by rw [eI2643, pp_ne _ _ (Or.inr (by decide))]; exact e2640
  have e2646 : I2643 (ad g 63) 1 = v2642 := by rw [eI2643, pp_self]
  have fr2647 : fz 74 g [63, 65] I I2643 := by rw [eI2643]; exact fzx_pp hy fr2641 (by decide) (by decide)
  clear eI2643
  refine WP_aload_n dX4_begin_10 rfl ?_
  refine WQ_iconst (0) (0) dX4_begin_11 rfl rfl (fun v2648 hv2648 => ?_)
  refine WQ_puti dX4_begin_12 fX4_25 rfl rfl (lyx_is hy 63 4 rfl) (fun I2649 eI2649 => ?_)
  have hI2649 : XI g n L I2649 := by rw [eI2649]; exact (xi_f0 hy hI2643 (c := 63) (by decide) (Or.inl (by decide)) (by decide))
  have e2650 : I2649 (ad g 1) 1 = L := by rw [eI2649, pp_ne _ _ (Or.inl (lyx_ne hy (by decide) (by decide) (by decide)))]; exact e2644
  have e2651 : I2649 (ad g 63) 0 = v2637 := by rw [eI2649, pp_ne _ _ (Or.inr (by decide))]; exact e2645
  have e2652 : I2649 (ad g 63) 1 = v2642 := by rw [eI2649, pp_ne _ _ (Or.inr (by decide))]; exact e2646
  have e2653 : I2649 (ad g 63) 2 = v2648 := by rw [eI2649, pp_self]
  have fr2654 : fz 74 g [63, 65] I I2649 := by rw [eI2649]; exact fzx_pp hy fr2647 (by decide) (by decide)
  clear eI2649
  refine WP_aload_n dX4_begin_15 rfl ?_
  refine WP_lconst (0) dX4_begin_16 rfl ?_
  obtain ⟨l2655, hl2655, el2655⟩ : ∃ v : Int64, v.toInt = 0 ∧ (0 : Int64) = v := ⟨_, rfl, rfl⟩
  rw [el2655]; clear el2655
  refine WQ_putl dX4_begin_17 fX4_28 rfl rfl (lyx_is hy 63 4 rfl) (fun J2656 eJ2656 => ?_)
  have fr2657 : fz 74 g [63] J J2656 := by rw [eJ2656]; exact fzx_pp hy frj0 (by decide) (by decide)
  clear eJ2656
  refine WP_aload_n dX4_begin_20 rfl ?_
  refine WP_getr dX4_begin_21 fX4_15 rfl (lyx_is hy 63 4 rfl) (rfx hr 63 5 65 (by decide)) ?_
  refine WQ_iconst (0) (0) dX4_begin_24 rfl rfl (fun v2658 hv2658 => ?_)
  refine WP_callS2u dX4_begin_25 ⟨⟨⟨by decide, by decide⟩, zJ7_fill_53178⟩, lX4_32, tJ7_fill_53178⟩ (s_fill hy hr 65 28 rfl rfl (by decide) v2658) (Nat.le_of_ble_eq_true rfl) ?_
  obtain ⟨I2659, eI2659⟩ : ∃ I9 : pI, I9 = fi I2649 (ad g 65) 28 v2658 := ⟨_, rfl⟩
  rw [← eI2659]
  have hI2659 : XI g n L I2659 := by rw [eI2659]; exact (fa_fill hy hI2649 (c := 65) 28 (by decide) hv2658)
  have e2660 : I2659 (ad g 1) 1 = L := by rw [eI2659, fi_off (lyx_ne hy (by decide) (by decide) (by decide))]; exact e2650
  have e2661 : I2659 (ad g 63) 0 = v2637 := by rw [eI2659, fi_off (lyx_ne hy (by decide) (by decide) (by decide))]; exact e2651
  have e2662 : I2659 (ad g 63) 1 = v2642 := by rw [eI2659, fi_off (lyx_ne hy (by decide) (by decide) (by decide))]; exact e2652
  have e2663 : I2659 (ad g 63) 2 = v2648 := by rw [eI2659, fi_off (lyx_ne hy (by decide) (by decide) (by decide))]; exact e2653
  have fr2664 : fz 74 g [63, 65] I I2659 := by rw [eI2659]; exact fzx_fi hy fr2654 (by decide) (by decide)
  clear eI2659
  refine WQ_iconst (0) (0) dX4_begin_28 rfl rfl (fun v2665 hv2665 => ?_)
  refine WP_istore_n (ls' := [(0, _), (1, _), (2, _)]) dX4_begin_29 (by decide) rfl ?_
  have lp30_2668 : ∀ (mz : Nat) (i2666 : Int32) (I2667 : pI) (J2668 : pJ), XI g n L I2667 → fz 74 g [63, 65] I I2667 → fz 74 g [63] J J2668 → 0 ≤ i2666.toInt → i2666.toInt ≤ 4 → (5 - i2666.toInt).toNat < mz → WP g mX4_begin 30 [(0, .ref (ad g 63)), (1, .ref (ad g 27)), (2, .int i2666)] [] I2667 J2668 R (fun r I' J' R' => (XI g n L I' ∧ R' = R ∧ fz 74 g [63, 65] I I' ∧ fz 74 g [63] J J') ∧ r = none) := by
    intro mz
    induction mz with
    | zero =>
      intro i2666 I2667 J2668 hI2667 fiI2667 fjJ2668 ai2666 bi2666 hmlp30_2668
      exact absurd hmlp30_2668 (Nat.not_lt_zero _)
    | succ mz ihlp30_2668 =>
      intro i2666 I2667 J2668 hI2667 fiI2667 fjJ2668 ai2666 bi2666 hmlp30_2668
      have e2670 : I2667 (ad g 1) 1 = L := hI2667.2
      have b2671 := BT_get hI2667.1 1 1 2 (0) (0) (900) (by decide) 1 (by decide) (by decide)
      rw [e2670] at b2671
      refine WP_iload_n dX4_begin_30 rfl ?_
      refine WP_aload_n dX4_begin_31 rfl ?_
      refine WQ_geti dX4_begin_32 fX4_38 rfl (lyx_is hy 27 7 rfl) (BT_get hI2667.1 27 1 2 (0) (0) (4) (by decide) 1 (by decide) (by decide)) (fun v2672 ev2672 av2672 bv2672 => ?_)
      refine WQ_icmp_ge 61 dX4_begin_35 rfl (fun c2672 => ?_) (fun c2672 => ?_)
      · exact WP_vret dX4_begin_61 rfl ⟨⟨hI2667, rfl, fiI2667, fjJ2668⟩, rfl⟩
      · refine WP_aload_n dX4_begin_38 rfl ?_
        refine WP_getr dX4_begin_39 fX4_15 rfl (lyx_is hy 63 4 rfl) (rfx hr 63 5 65 (by decide)) ?_
        refine WP_iload_n dX4_begin_42 rfl ?_
        refine WQ_bipush (7) (7) dX4_begin_43 rfl rfl (fun v2674 hv2674 => ?_)
        refine WQ_imulk (7) dX4_begin_45 hv2674 (by omega) (by omega) (fun v2675 hv2675 => ?_)
        refine WQ_iconst (0) (0) dX4_begin_46 rfl rfl (fun v2676 hv2676 => ?_)
        refine WQ_iadd dX4_begin_47 (by omega) (by omega) (fun v2677 hv2677 => ?_)
        refine WP_aload_n dX4_begin_48 rfl ?_
        refine WP_getr dX4_begin_49 fX4_43 rfl (lyx_is hy 27 7 rfl) (rfx hr 27 8 31 (by decide)) ?_
        refine WP_iload_n dX4_begin_52 rfl ?_
        refine WQ_iald dX4_begin_53 (lyx_is hy 31 13 rfl) (lyx_n hy 31 4 rfl) (by omega) (by omega) (fun q hq => BT_get hI2667.1 31 0 4 (0) (0) (60) (by decide) q (Nat.zero_le _) hq) (fun v2678 av2678 bv2678 ev2678 => ?_)
        clear ev2678
        refine WQ_iast dX4_begin_54 (lyx_is hy 65 13 rfl) (lyx_n hy 65 28 rfl) (by omega) (by omega) (fun I2679 eI2679 => ?_)
        have hI2679 : XI g n L I2679 := by rw [eI2679]; exact (fa_put hy hI2667 (c := 65) (k := 0) (s := i2666.toInt.toNat) (by decide) (by omega) (by decide) (by rw [cl (n := 7 * i2666.toInt.toNat + 0) (by omega)]) (fun _ => by omega) (fun _ => by omega))
        have e2680 : I2679 (ad g 1) 1 = L := by rw [eI2679, pp_ne _ _ (Or.inl (lyx_ne hy (by decide) (by decide) (by decide)))]; exact e2670
        have e2681 : I2679 (ad g 27) 1 = v2672 := by rw [eI2679, pp_ne _ _ (Or.inl (lyx_ne hy (by decide) (by decide) (by decide)))]; exact ev2672
        have fr2682 : fz 74 g [63, 65] I I2679 := by rw [eI2679]; exact fzx_pp hy fiI2667 (by decide) (by decide)
        clear eI2679
        refine WP_iinc (ls' := [(0, _), (1, _), (2, _)]) dX4_begin_55 rfl (by decide) rfl ?_
        have hv2683 : (i2666 + Int32.ofInt (1)).toInt = i2666.toInt + (1) := ia_n rfl (by omega) (by omega)
        generalize i2666 + Int32.ofInt (1) = v2683 at hv2683 ⊢
        refine WP_goto 30 dX4_begin_58 rfl ?_
        exact WP_sub (fc rfl (fc rfl (fc rfl fn))) (ihlp30_2668 v2683 I2679 J2668 hI2679 fr2682 fjJ2668 (by omega) (by omega) (by omega))
  exact WP_sub (fc rfl (fc rfl (fc rfl fn))) (lp30_2668 _ v2665 I2659 J2656 hI2659 fr2664 fr2657 (by omega) (by omega) (Nat.lt_succ_self _))
set_option maxHeartbeats 4000000 in
set_option maxRecDepth 100000 in
theorem sx_become_63_53 {g : GG} {n : Int} {L : Int32} (hy : LyX g)  {I : pI} {J : pJ} {R : pR} (hr : RfX g R) (hI : XI g n L I)   : SP g mX4_become [.ref (ad g 63), .ref (ad g 53)] I J R (fun r I' J' R' => (XI g n L I' ∧ R' = R ∧ fz 74 g [63, 64, 65] I I' ∧ fz 74 g [63] J J') ∧ r = none) := by
  refine SP_of ⟨by decide, rfl⟩ (Nat.le_of_ble_eq_true rfl) ?_
  have e2684 : I (ad g 1) 1 = L := hI.2
  have b2685 := BT_get hI.1 1 1 2 (0) (0) (900) (by decide) 1 (by decide) (by decide)
  rw [e2684] at b2685
  have fr0 : fz 74 g [63, 64, 65] I I := fz_rf
  have frj0 : fz 74 g [63] J J := fz_rf
  refine WP_aload_n dX4_become_0 rfl ?_
  refine WP_aload_n dX4_become_1 rfl ?_
  refine WQ_getiu dX4_become_2 fX4_18 rfl (lyx_is hy 53 4 rfl) (fun v2686 ev2686 => ?_)
  refine WQ_puti dX4_become_5 fX4_18 rfl rfl (lyx_is hy 63 4 rfl) (fun I2687 eI2687 => ?_)
  have hI2687 : XI g n L I2687 := by rw [eI2687]; exact (xi_f0 hy hI (c := 63) (by decide) (Or.inl (by decide)) (by decide))
  have e2688 : I2687 (ad g 1) 1 = L := by rw [eI2687, pp_ne _ _ (Or.inl (lyx_ne hy (by decide) (by decide) (by decide)))]; exact e2684
  have e2689 : I2687 (ad g 53) 0 = v2686 := by rw [eI2687, pp_ne _ _ (Or.inl (lyx_ne hy (by decide) (by decide) (by decide)))]; exact ev2686
  have e2690 : I2687 (ad g 63) 0 = v2686 := by rw [eI2687, pp_self]
  have fr2691 : fz 74 g [63, 64, 65] I I2687 := by rw [eI2687]; exact fzx_pp hy fr0 (by decide) (by decide)
  clear eI2687
  refine WP_aload_n dX4_become_8 rfl ?_
  refine WP_aload_n dX4_become_9 rfl ?_
  refine WQ_geti dX4_become_10 fX4_22 rfl (lyx_is hy 53 4 rfl) (BT_get hI2687.1 53 1 2 (0) (23760) (0) (by decide) 1 (by decide) (by decide)) (fun v2692 ev2692 av2692 bv2692 => ?_)
  refine WQ_puti dX4_become_13 fX4_22 rfl rfl (lyx_is hy 63 4 rfl) (fun I2693 eI2693 => ?_)
  have hI2693 : XI g n L I2693 := by rw [eI2693]; exact (xi_f hy hI2687 (c := 63) (0) (23760) (0) (by decide) (Or.inl (by decide)) (by decide) (by omega) (by omega))
  have e2694 : I2693 (ad g 1) 1 = L := by rw [eI2693, pp_ne _ _ (Or.inl (lyx_ne hy (by decide) (by decide) (by decide)))]; exact e2688
  have e2695 : I2693 (ad g 53) 0 = v2686 := by rw [eI2693, pp_ne _ _ (Or.inl (lyx_ne hy (by decide) (by decide) (by decide)))]; exact e2689
  have e2696 : I2693 (ad g 63) 0 = v2686 := by rw [eI2693, pp_ne _ _ (Or.inr (by decide))]; exact e2690
  have e2697 : I2693 (ad g 53) 1 = v2692 := by rw [eI2693, pp_ne _ _ (Or.inl (lyx_ne hy (by decide) (by decide) (by decide)))]; exact ev2692
  have e2698 : I2693 (ad g 63) 1 = v2692 := by rw [eI2693, pp_self]
  have fr2699 : fz 74 g [63, 64, 65] I I2693 := by rw [eI2693]; exact fzx_pp hy fr2691 (by decide) (by decide)
  clear eI2693
  refine WP_aload_n dX4_become_16 rfl ?_
  refine WP_aload_n dX4_become_17 rfl ?_
  refine WQ_getiu dX4_become_18 fX4_25 rfl (lyx_is hy 53 4 rfl) (fun v2700 ev2700 => ?_)
  refine WQ_puti dX4_become_21 fX4_25 rfl rfl (lyx_is hy 63 4 rfl) (fun I2701 eI2701 => ?_)
  have hI2701 : XI g n L I2701 := by rw [eI2701]; exact (xi_f0 hy hI2693 (c := 63) (by decide) (Or.inl (by decide)) (by decide))
  have e2702 : I2701 (ad g 1) 1 = L := by rw [eI2701, pp_ne _ _ (Or.inl (lyx_ne hy (by decide) (by decide) (by decide)))]; exact e2694
  have e2703 : I2701 (ad g 53) 0 = v2686 := by rw [eI2701, pp_ne _ _ (Or.inl (lyx_ne hy (by decide) (by decide) (by decide)))]; exact e2695
  have e2704 : I2701 (ad g 63) 0 = v2686 := by rw [eI2701, pp_ne _ _ (Or.inr (by decide))]; exact e2696
  have e2705 : I2701 (ad g 53) 1 = v2692 := by rw [eI2701, pp_ne _ _ (Or.inl (lyx_ne hy (by decide) (by decide) (by decide)))]; exact e2697
  have e2706 : I2701 (ad g 63) 1 = v2692 := by rw [eI2701, pp_ne _ _ (Or.inr (by decide))]; exact e2698
  have e2707 : I2701 (ad g 53) 2 = v2700 := by rw [eI2701, pp_ne _ _ (Or.inl (lyx_ne hy (by decide) (by decide) (by decide)))]; exact ev2700
  have e2708 : I2701 (ad g 63) 2 = v2700 := by rw [eI2701, pp_self]
  have fr2709 : fz 74 g [63, 64, 65] I I2701 := by rw [eI2701]; exact fzx_pp hy fr2699 (by decide) (by decide)
  clear eI2701
  refine WP_aload_n dX4_become_24 rfl ?_
  refine WP_aload_n dX4_become_25 rfl ?_
  refine WQ_getl dX4_become_26 fX4_28 rfl (lyx_is hy 53 4 rfl) (fun l2710 el2710 => ?_)
  refine WQ_putl dX4_become_29 fX4_28 rfl rfl (lyx_is hy 63 4 rfl) (fun J2711 eJ2711 => ?_)
  have fr2712 : fz 74 g [63] J J2711 := by rw [eJ2711]; exact fzx_pp hy frj0 (by decide) (by decide)
  clear eJ2711
  refine WP_aload_n dX4_become_32 rfl ?_
  refine WP_getr dX4_become_33 fX4_9 rfl (lyx_is hy 53 4 rfl) (rfx hr 53 4 54 (by decide)) ?_
  refine WQ_iconst (0) (0) dX4_become_36 rfl rfl (fun v2713 hv2713 => ?_)
  refine WP_aload_n dX4_become_37 rfl ?_
  refine WP_getr dX4_become_38 fX4_9 rfl (lyx_is hy 63 4 rfl) (rfx hr 63 4 64 (by decide)) ?_
  refine WQ_iconst (0) (0) dX4_become_41 rfl rfl (fun v2714 hv2714 => ?_)
  refine WP_aload_n dX4_become_42 rfl ?_
  refine WP_getr dX4_become_43 fX4_9 rfl (lyx_is hy 63 4 rfl) (rfx hr 63 4 64 (by decide)) ?_
  refine WP_alen dX4_become_46 (lyx_is hy 64 13 rfl) (by decide) ?_
  rw [(lyx_n hy 64 4 rfl)]
  obtain ⟨v2715, hv2715, ev2715⟩ : ∃ v : Int32, v.toInt = 4 ∧ nI 4 = v := ⟨_, nI_toInt (by decide), rfl⟩
  rw [ev2715]; clear ev2715
  refine WQ_copy0 (N := 4) dX4_become_47 lX4_46 ⟨by decide, Nat.le_of_ble_eq_true rfl⟩ (lyx_is hy 54 13 rfl) (lyx_is hy 64 13 rfl) hv2713 hv2714 hv2715 (lyx_n hy 54 4 rfl) (lyx_n hy 64 4 rfl) (fun I2716 fI2716 oI2716 => ?_)
  have hI2716 : XI g n L I2716 := xi_copy hy hI2701 54 64 4 (by decide) (by decide) fI2716 oI2716
  have fr2717 : fz 74 g [63, 64, 65] I I2716 := fzx_cp hy fr2709 oI2716 (by decide) (by decide)
  clear fI2716 oI2716
  have e2718 : I2716 (ad g 1) 1 = L := hI2716.2
  have b2719 := BT_get hI2716.1 1 1 2 (0) (0) (900) (by decide) 1 (by decide) (by decide)
  rw [e2718] at b2719
  refine WP_aload_n dX4_become_50 rfl ?_
  refine WP_getr dX4_become_51 fX4_15 rfl (lyx_is hy 53 4 rfl) (rfx hr 53 5 55 (by decide)) ?_
  refine WQ_iconst (0) (0) dX4_become_54 rfl rfl (fun v2720 hv2720 => ?_)
  refine WP_aload_n dX4_become_55 rfl ?_
  refine WP_getr dX4_become_56 fX4_15 rfl (lyx_is hy 63 4 rfl) (rfx hr 63 5 65 (by decide)) ?_
  refine WQ_iconst (0) (0) dX4_become_59 rfl rfl (fun v2721 hv2721 => ?_)
  refine WP_aload_n dX4_become_60 rfl ?_
  refine WP_getr dX4_become_61 fX4_15 rfl (lyx_is hy 63 4 rfl) (rfx hr 63 5 65 (by decide)) ?_
  refine WP_alen dX4_become_64 (lyx_is hy 65 13 rfl) (by decide) ?_
  rw [(lyx_n hy 65 28 rfl)]
  obtain ⟨v2722, hv2722, ev2722⟩ : ∃ v : Int32, v.toInt = 28 ∧ nI 28 = v := ⟨_, nI_toInt (by decide), rfl⟩
  rw [ev2722]; clear ev2722
  refine WQ_copy0 (N := 28) dX4_become_65 lX4_46 ⟨by decide, Nat.le_of_ble_eq_true rfl⟩ (lyx_is hy 55 13 rfl) (lyx_is hy 65 13 rfl) hv2720 hv2721 hv2722 (lyx_n hy 55 28 rfl) (lyx_n hy 65 28 rfl) (fun I2723 fI2723 oI2723 => ?_)
  have hI2723 : XI g n L I2723 := xi_copy hy hI2716 55 65 28 (by decide) (by decide) fI2723 oI2723
  have fr2724 : fz 74 g [63, 64, 65] I I2723 := fzx_cp hy fr2717 oI2723 (by decide) (by decide)
  clear fI2723 oI2723
  have e2725 : I2723 (ad g 1) 1 = L := hI2723.2
  have b2726 := BT_get hI2723.1 1 1 2 (0) (0) (900) (by decide) 1 (by decide) (by decide)
  rw [e2725] at b2726
  exact WP_vret dX4_become_68 rfl ⟨⟨hI2723, rfl, fr2724, fr2712⟩, rfl⟩
set_option maxHeartbeats 4000000 in
set_option maxRecDepth 100000 in
theorem sx_sum_66 {g : GG} {n : Int} {L : Int32} (hy : LyX g)  {I : pI} {J : pJ} {R : pR} (hr : RfX g R) (hI : XI g n L I) (wh : Int32) (wh_lo : 0 ≤ wh.toInt) (wh_hi : wh.toInt ≤ 6) : SP g mX4_sum [.ref (ad g 66), .int wh] I J R (fun r I' J' R' => (I' = I ∧ J' = J ∧ R' = R) ∧ ∃ v : Int32, r = some (.int v)) := by
  refine SP_of ⟨by decide, rfl⟩ (Nat.le_of_ble_eq_true rfl) ?_
  have e2727 : I (ad g 1) 1 = L := hI.2
  have b2728 := BT_get hI.1 1 1 2 (0) (0) (900) (by decide) 1 (by decide) (by decide)
  rw [e2727] at b2728
  refine WQ_iconst (0) (0) dX4_sum_0 rfl rfl (fun v2729 hv2729 => ?_)
  refine WP_istore_n (ls' := [(0, _), (1, _), (2, _)]) dX4_sum_1 (by decide) rfl ?_
  refine WQ_iconst (0) (0) dX4_sum_2 rfl rfl (fun v2730 hv2730 => ?_)
  refine WP_istore_n (ls' := [(0, _), (1, _), (2, _), (3, _)]) dX4_sum_3 (by decide) rfl ?_
  have lp4_2732 : ∀ (mz : Nat) (i2731 : Int32) (i2732 : Int32), 0 ≤ i2732.toInt → i2732.toInt ≤ 4 → (5 - i2732.toInt).toNat < mz → WP g mX4_sum 4 [(0, .ref (ad g 66)), (1, .int wh), (2, .int i2731), (3, .int i2732)] [] I J R (fun r I' J' R' => (I' = I ∧ J' = J ∧ R' = R) ∧ ∃ v : Int32, r = some (.int v)) := by
    intro mz
    induction mz with
    | zero =>
      intro i2731 i2732 ai2732 bi2732 hmlp4_2732
      exact absurd hmlp4_2732 (Nat.not_lt_zero _)
    | succ mz ihlp4_2732 =>
      intro i2731 i2732 ai2732 bi2732 hmlp4_2732
      refine WP_iload_n dX4_sum_4 rfl ?_
      refine WQ_iconst (4) (4) dX4_sum_5 rfl rfl (fun v2734 hv2734 => ?_)
      refine WQ_icmp_ge 29 dX4_sum_6 rfl (fun c2734 => ?_) (fun c2734 => ?_)
      · refine WP_iload_n dX4_sum_29 rfl ?_
        exact WP_iret dX4_sum_30 rfl ⟨⟨rfl, rfl, rfl⟩, _, rfl⟩
      · refine WP_iload_n dX4_sum_9 rfl ?_
        refine WP_aload_n dX4_sum_10 rfl ?_
        refine WP_getr dX4_sum_11 fX4_15 rfl (lyx_is hy 66 4 rfl) (rfx hr 66 5 68 (by decide)) ?_
        refine WP_iload_n dX4_sum_14 rfl ?_
        refine WQ_bipush (7) (7) dX4_sum_15 rfl rfl (fun v2736 hv2736 => ?_)
        refine WQ_imulk (7) dX4_sum_17 hv2736 (by omega) (by omega) (fun v2737 hv2737 => ?_)
        refine WP_iload_n dX4_sum_18 rfl ?_
        refine WQ_iadd dX4_sum_19 (by omega) (by omega) (fun v2738 hv2738 => ?_)
        refine WQ_ialdu dX4_sum_20 (lyx_is hy 68 13 rfl) (lyx_n hy 68 28 rfl) (by omega) (by omega) (fun v2739 => ?_)
        refine WQ_iaddu dX4_sum_21 (fun v2740 => ?_)
        refine WP_istore_n (ls' := [(0, _), (1, _), (2, _), (3, _)]) dX4_sum_22 (by decide) rfl ?_
        refine WP_iinc (ls' := [(0, _), (1, _), (2, _), (3, _)]) dX4_sum_23 rfl (by decide) rfl ?_
        have hv2741 : (i2732 + Int32.ofInt (1)).toInt = i2732.toInt + (1) := ia_n rfl (by omega) (by omega)
        generalize i2732 + Int32.ofInt (1) = v2741 at hv2741 ⊢
        refine WP_goto 4 dX4_sum_26 rfl ?_
        exact WP_sub (fc rfl (fc rfl (fc rfl (fc rfl fn)))) (ihlp4_2732 v2740 v2741 (by omega) (by omega) (by omega))
  exact WP_sub (fc rfl (fc rfl (fc rfl (fc rfl fn)))) (lp4_2732 _ v2729 v2730 (by omega) (by omega) (Nat.lt_succ_self _))
set_option maxHeartbeats 4000000 in
set_option maxRecDepth 100000 in
theorem sx_begin_66_6 {g : GG} {n : Int} {L : Int32} (hy : LyX g)  {I : pI} {J : pJ} {R : pR} (hr : RfX g R) (hI : XI g n L I)   (hn : 0 ≤ n) : SP g mX4_begin [.ref (ad g 66), .ref (ad g 6)] I J R (fun r I' J' R' => (XI g n L I' ∧ R' = R ∧ fz 74 g [66, 68] I I' ∧ fz 74 g [66] J J') ∧ r = none) := by
  refine SP_of ⟨by decide, rfl⟩ (Nat.le_of_ble_eq_true rfl) ?_
  have e2742 : I (ad g 1) 1 = L := hI.2
  have b2743 := BT_get hI.1 1 1 2 (0) (0) (900) (by decide) 1 (by decide) (by decide)
  rw [e2742] at b2743
  have fr0 : fz 74 g [66, 68] I I := fz_rf
  have frj0 : fz 74 g [66] J J := fz_rf
  refine WP_aload_n dX4_begin_0 rfl ?_
  refine WQ_iconst (0) (0) dX4_begin_1 rfl rfl (fun v2744 hv2744 => ?_)
  refine WQ_puti dX4_begin_2 fX4_18 rfl rfl (lyx_is hy 66 4 rfl) (fun I2745 eI2745 => ?_)
  have hI2745 : XI g n L I2745 := by rw [eI2745]; exact (xi_f0 hy hI (c := 66) (by decide) (Or.inl (by decide)) (by decide))
  have e2746 : I2745 (ad g 1) 1 = L := by rw [eI2745, pp_ne _ _ (Or.inl (lyx_ne hy (by decide) (by decide) (by decide)))]; exact e2742
  have e2747 : I2745 (ad g 66) 0 = v2744 := by rw [eI2745, pp_self]
  have fr2748 : fz 74 g [66, 68] I I2745 := by rw [eI2745]; exact fzx_pp hy fr0 (by decide) (by decide)
  clear eI2745
  refine WP_aload_n dX4_begin_5 rfl ?_
  refine WQ_iconst (0) (0) dX4_begin_6 rfl rfl (fun v2749 hv2749 => ?_)
  refine WQ_puti dX4_begin_7 fX4_22 rfl rfl (lyx_is hy 66 4 rfl) (fun I2750 eI2750 => ?_)
  have hI2750 : XI g n L I2750 := by rw [eI2750]; exact (xi_f hy hI2745 (c := 66) (0) (23760) (0) (by decide) (Or.inl (by decide)) (by decide) (by omega) (by omega))
  have e2751 : I2750 (ad g 1) 1 = L := by rw [eI2750, pp_ne _ _ (Or.inl (lyx_ne hy (by decide) (by decide) (by decide)))]; exact e2746
  have e2752 : I2750 (ad g 66) 0 = v2744 := by rw [eI2750, pp_ne _ _ (Or.inr (by decide))]; exact e2747
  have e2753 : I2750 (ad g 66) 1 = v2749 := by rw [eI2750, pp_self]
  have fr2754 : fz 74 g [66, 68] I I2750 := by rw [eI2750]; exact fzx_pp hy fr2748 (by decide) (by decide)
  clear eI2750
  refine WP_aload_n dX4_begin_10 rfl ?_
  refine WQ_iconst (0) (0) dX4_begin_11 rfl rfl (fun v2755 hv2755 => ?_)
  refine WQ_puti dX4_begin_12 fX4_25 rfl rfl (lyx_is hy 66 4 rfl) (fun I2756 eI2756 => ?_)
  have hI2756 : XI g n L I2756 := by rw [eI2756]; exact (xi_f0 hy hI2750 (c := 66) (by decide) (Or.inl (by decide)) (by decide))
  have e2757 : I2756 (ad g 1) 1 = L := by rw [eI2756, pp_ne _ _ (Or.inl (lyx_ne hy (by decide) (by decide) (by decide)))]; exact e2751
  have e2758 : I2756 (ad g 66) 0 = v2744 := by rw [eI2756, pp_ne _ _ (Or.inr (by decide))]; exact e2752
  have e2759 : I2756 (ad g 66) 1 = v2749 := by rw [eI2756, pp_ne _ _ (Or.inr (by decide))]; exact e2753
  have e2760 : I2756 (ad g 66) 2 = v2755 := by rw [eI2756, pp_self]
  have fr2761 : fz 74 g [66, 68] I I2756 := by rw [eI2756]; exact fzx_pp hy fr2754 (by decide) (by decide)
  clear eI2756
  refine WP_aload_n dX4_begin_15 rfl ?_
  refine WP_lconst (0) dX4_begin_16 rfl ?_
  obtain ⟨l2762, hl2762, el2762⟩ : ∃ v : Int64, v.toInt = 0 ∧ (0 : Int64) = v := ⟨_, rfl, rfl⟩
  rw [el2762]; clear el2762
  refine WQ_putl dX4_begin_17 fX4_28 rfl rfl (lyx_is hy 66 4 rfl) (fun J2763 eJ2763 => ?_)
  have fr2764 : fz 74 g [66] J J2763 := by rw [eJ2763]; exact fzx_pp hy frj0 (by decide) (by decide)
  clear eJ2763
  refine WP_aload_n dX4_begin_20 rfl ?_
  refine WP_getr dX4_begin_21 fX4_15 rfl (lyx_is hy 66 4 rfl) (rfx hr 66 5 68 (by decide)) ?_
  refine WQ_iconst (0) (0) dX4_begin_24 rfl rfl (fun v2765 hv2765 => ?_)
  refine WP_callS2u dX4_begin_25 ⟨⟨⟨by decide, by decide⟩, zJ7_fill_53178⟩, lX4_32, tJ7_fill_53178⟩ (s_fill hy hr 68 28 rfl rfl (by decide) v2765) (Nat.le_of_ble_eq_true rfl) ?_
  obtain ⟨I2766, eI2766⟩ : ∃ I9 : pI, I9 = fi I2756 (ad g 68) 28 v2765 := ⟨_, rfl⟩
  rw [← eI2766]
  have hI2766 : XI g n L I2766 := by rw [eI2766]; exact (fa_fill hy hI2756 (c := 68) 28 (by decide) hv2765)
  have e2767 : I2766 (ad g 1) 1 = L := by rw [eI2766, fi_off (lyx_ne hy (by decide) (by decide) (by decide))]; exact e2757
  have e2768 : I2766 (ad g 66) 0 = v2744 := by rw [eI2766, fi_off (lyx_ne hy (by decide) (by decide) (by decide))]; exact e2758
  have e2769 : I2766 (ad g 66) 1 = v2749 := by rw [eI2766, fi_off (lyx_ne hy (by decide) (by decide) (by decide))]; exact e2759
  have e2770 : I2766 (ad g 66) 2 = v2755 := by rw [eI2766, fi_off (lyx_ne hy (by decide) (by decide) (by decide))]; exact e2760
  have fr2771 : fz 74 g [66, 68] I I2766 := by rw [eI2766]; exact fzx_fi hy fr2761 (by decide) (by decide)
  clear eI2766
  refine WQ_iconst (0) (0) dX4_begin_28 rfl rfl (fun v2772 hv2772 => ?_)
  refine WP_istore_n (ls' := [(0, _), (1, _), (2, _)]) dX4_begin_29 (by decide) rfl ?_
  have lp30_2775 : ∀ (mz : Nat) (i2773 : Int32) (I2774 : pI) (J2775 : pJ), XI g n L I2774 → fz 74 g [66, 68] I I2774 → fz 74 g [66] J J2775 → 0 ≤ i2773.toInt → i2773.toInt ≤ 4 → (5 - i2773.toInt).toNat < mz → WP g mX4_begin 30 [(0, .ref (ad g 66)), (1, .ref (ad g 6)), (2, .int i2773)] [] I2774 J2775 R (fun r I' J' R' => (XI g n L I' ∧ R' = R ∧ fz 74 g [66, 68] I I' ∧ fz 74 g [66] J J') ∧ r = none) := by
    intro mz
    induction mz with
    | zero =>
      intro i2773 I2774 J2775 hI2774 fiI2774 fjJ2775 ai2773 bi2773 hmlp30_2775
      exact absurd hmlp30_2775 (Nat.not_lt_zero _)
    | succ mz ihlp30_2775 =>
      intro i2773 I2774 J2775 hI2774 fiI2774 fjJ2775 ai2773 bi2773 hmlp30_2775
      have e2777 : I2774 (ad g 1) 1 = L := hI2774.2
      have b2778 := BT_get hI2774.1 1 1 2 (0) (0) (900) (by decide) 1 (by decide) (by decide)
      rw [e2777] at b2778
      refine WP_iload_n dX4_begin_30 rfl ?_
      refine WP_aload_n dX4_begin_31 rfl ?_
      refine WQ_geti dX4_begin_32 fX4_38 rfl (lyx_is hy 6 7 rfl) (BT_get hI2774.1 6 1 2 (0) (0) (4) (by decide) 1 (by decide) (by decide)) (fun v2779 ev2779 av2779 bv2779 => ?_)
      refine WQ_icmp_ge 61 dX4_begin_35 rfl (fun c2779 => ?_) (fun c2779 => ?_)
      · exact WP_vret dX4_begin_61 rfl ⟨⟨hI2774, rfl, fiI2774, fjJ2775⟩, rfl⟩
      · refine WP_aload_n dX4_begin_38 rfl ?_
        refine WP_getr dX4_begin_39 fX4_15 rfl (lyx_is hy 66 4 rfl) (rfx hr 66 5 68 (by decide)) ?_
        refine WP_iload_n dX4_begin_42 rfl ?_
        refine WQ_bipush (7) (7) dX4_begin_43 rfl rfl (fun v2781 hv2781 => ?_)
        refine WQ_imulk (7) dX4_begin_45 hv2781 (by omega) (by omega) (fun v2782 hv2782 => ?_)
        refine WQ_iconst (0) (0) dX4_begin_46 rfl rfl (fun v2783 hv2783 => ?_)
        refine WQ_iadd dX4_begin_47 (by omega) (by omega) (fun v2784 hv2784 => ?_)
        refine WP_aload_n dX4_begin_48 rfl ?_
        refine WP_getr dX4_begin_49 fX4_43 rfl (lyx_is hy 6 7 rfl) (rfx hr 6 8 10 (by decide)) ?_
        refine WP_iload_n dX4_begin_52 rfl ?_
        refine WQ_iald dX4_begin_53 (lyx_is hy 10 13 rfl) (lyx_n hy 10 4 rfl) (by omega) (by omega) (fun q hq => BT_get hI2774.1 10 0 4 (0) (0) (60) (by decide) q (Nat.zero_le _) hq) (fun v2785 av2785 bv2785 ev2785 => ?_)
        clear ev2785
        refine WQ_iast dX4_begin_54 (lyx_is hy 68 13 rfl) (lyx_n hy 68 28 rfl) (by omega) (by omega) (fun I2786 eI2786 => ?_)
        have hI2786 : XI g n L I2786 := by rw [eI2786]; exact (fa_put hy hI2774 (c := 68) (k := 0) (s := i2773.toInt.toNat) (by decide) (by omega) (by decide) (by rw [cl (n := 7 * i2773.toInt.toNat + 0) (by omega)]) (fun _ => by omega) (fun _ => by omega))
        have e2787 : I2786 (ad g 1) 1 = L := by rw [eI2786, pp_ne _ _ (Or.inl (lyx_ne hy (by decide) (by decide) (by decide)))]; exact e2777
        have e2788 : I2786 (ad g 6) 1 = v2779 := by rw [eI2786, pp_ne _ _ (Or.inl (lyx_ne hy (by decide) (by decide) (by decide)))]; exact ev2779
        have fr2789 : fz 74 g [66, 68] I I2786 := by rw [eI2786]; exact fzx_pp hy fiI2774 (by decide) (by decide)
        clear eI2786
        refine WP_iinc (ls' := [(0, _), (1, _), (2, _)]) dX4_begin_55 rfl (by decide) rfl ?_
        have hv2790 : (i2773 + Int32.ofInt (1)).toInt = i2773.toInt + (1) := ia_n rfl (by omega) (by omega)
        generalize i2773 + Int32.ofInt (1) = v2790 at hv2790 ⊢
        refine WP_goto 30 dX4_begin_58 rfl ?_
        exact WP_sub (fc rfl (fc rfl (fc rfl fn))) (ihlp30_2775 v2790 I2786 J2775 hI2786 fr2789 fjJ2775 (by omega) (by omega) (by omega))
  exact WP_sub (fc rfl (fc rfl (fc rfl fn))) (lp30_2775 _ v2772 I2766 J2763 hI2766 fr2771 fr2764 (by omega) (by omega) (Nat.lt_succ_self _))
set_option maxHeartbeats 4000000 in
set_option maxRecDepth 100000 in
theorem sx_begin_66_27 {g : GG} {n : Int} {L : Int32} (hy : LyX g)  {I : pI} {J : pJ} {R : pR} (hr : RfX g R) (hI : XI g n L I)   (hn : 0 ≤ n) : SP g mX4_begin [.ref (ad g 66), .ref (ad g 27)] I J R (fun r I' J' R' => (XI g n L I' ∧ R' = R ∧ fz 74 g [66, 68] I I' ∧ fz 74 g [66] J J') ∧ r = none) := by
  refine SP_of ⟨by decide, rfl⟩ (Nat.le_of_ble_eq_true rfl) ?_
  have e2791 : I (ad g 1) 1 = L := hI.2
  have b2792 := BT_get hI.1 1 1 2 (0) (0) (900) (by decide) 1 (by decide) (by decide)
  rw [e2791] at b2792
  have fr0 : fz 74 g [66, 68] I I := fz_rf
  have frj0 : fz 74 g [66] J J := fz_rf
  refine WP_aload_n dX4_begin_0 rfl ?_
  refine WQ_iconst (0) (0) dX4_begin_1 rfl rfl (fun v2793 hv2793 => ?_)
  refine WQ_puti dX4_begin_2 fX4_18 rfl rfl (lyx_is hy 66 4 rfl) (fun I2794 eI2794 => ?_)
  have hI2794 : XI g n L I2794 := by rw [eI2794]; exact (xi_f0 hy hI (c := 66) (by decide) (Or.inl (by decide)) (by decide))
  have e2795 : I2794 (ad g 1) 1 = L := by rw [eI2794, pp_ne _ _ (Or.inl (lyx_ne hy (by decide) (by decide) (by decide)))]; exact e2791
  have e2796 : I2794 (ad g 66) 0 = v2793 := by rw [eI2794, pp_self]
  have fr2797 : fz 74 g [66, 68] I I2794 := by rw [eI2794]; exact fzx_pp hy fr0 (by decide) (by decide)
  clear eI2794
  refine WP_aload_n dX4_begin_5 rfl ?_
  refine WQ_iconst (0) (0) dX4_begin_6 rfl rfl (fun v2798 hv2798 => ?_)
  refine WQ_puti dX4_begin_7 fX4_22 rfl rfl (lyx_is hy 66 4 rfl) (fun I2799 eI2799 => ?_)
  have hI2799 : XI g n L I2799 := by rw [eI2799]; exact (xi_f hy hI2794 (c := 66) (0) (23760) (0) (by decide) (Or.inl (by decide)) (by decide) (by omega) (by omega))
  have e2800 : I2799 (ad g 1) 1 = L := by rw [eI2799, pp_ne _ _ (Or.inl (lyx_ne hy (by decide) (by decide) (by decide)))]; exact e2795
  have e2801 : I2799 (ad g 66) 0 = v2793 := by rw [eI2799, pp_ne _ _ (Or.inr (by decide))]; exact e2796
  have e2802 : I2799 (ad g 66) 1 = v2798 := by rw [eI2799, pp_self]
  have fr2803 : fz 74 g [66, 68] I I2799 := by rw [eI2799]; exact fzx_pp hy fr2797 (by decide) (by decide)
  clear eI2799
  refine WP_aload_n dX4_begin_10 rfl ?_
  refine WQ_iconst (0) (0) dX4_begin_11 rfl rfl (fun v2804 hv2804 => ?_)
  refine WQ_puti dX4_begin_12 fX4_25 rfl rfl (lyx_is hy 66 4 rfl) (fun I2805 eI2805 => ?_)
  have hI2805 : XI g n L I2805 := by rw [eI2805]; exact (xi_f0 hy hI2799 (c := 66) (by decide) (Or.inl (by decide)) (by decide))
  have e2806 : I2805 (ad g 1) 1 = L := by rw [eI2805, pp_ne _ _ (Or.inl (lyx_ne hy (by decide) (by decide) (by decide)))]; exact e2800
  have e2807 : I2805 (ad g 66) 0 = v2793 := by rw [eI2805, pp_ne _ _ (Or.inr (by decide))]; exact e2801
  have e2808 : I2805 (ad g 66) 1 = v2798 := by rw [eI2805, pp_ne _ _ (Or.inr (by decide))]; exact e2802
  have e2809 : I2805 (ad g 66) 2 = v2804 := by rw [eI2805, pp_self]
  have fr2810 : fz 74 g [66, 68] I I2805 := by rw [eI2805]; exact fzx_pp hy fr2803 (by decide) (by decide)
  clear eI2805
  refine WP_aload_n dX4_begin_15 rfl ?_
  refine WP_lconst (0) dX4_begin_16 rfl ?_
  obtain ⟨l2811, hl2811, el2811⟩ : ∃ v : Int64, v.toInt = 0 ∧ (0 : Int64) = v := ⟨_, rfl, rfl⟩
  rw [el2811]; clear el2811
  refine WQ_putl dX4_begin_17 fX4_28 rfl rfl (lyx_is hy 66 4 rfl) (fun J2812 eJ2812 => ?_)
  have fr2813 : fz 74 g [66] J J2812 := by rw [eJ2812]; exact fzx_pp hy frj0 (by decide) (by decide)
  clear eJ2812
  refine WP_aload_n dX4_begin_20 rfl ?_
  refine WP_getr dX4_begin_21 fX4_15 rfl (lyx_is hy 66 4 rfl) (rfx hr 66 5 68 (by decide)) ?_
  refine WQ_iconst (0) (0) dX4_begin_24 rfl rfl (fun v2814 hv2814 => ?_)
  refine WP_callS2u dX4_begin_25 ⟨⟨⟨by decide, by decide⟩, zJ7_fill_53178⟩, lX4_32, tJ7_fill_53178⟩ (s_fill hy hr 68 28 rfl rfl (by decide) v2814) (Nat.le_of_ble_eq_true rfl) ?_
  obtain ⟨I2815, eI2815⟩ : ∃ I9 : pI, I9 = fi I2805 (ad g 68) 28 v2814 := ⟨_, rfl⟩
  rw [← eI2815]
  have hI2815 : XI g n L I2815 := by rw [eI2815]; exact (fa_fill hy hI2805 (c := 68) 28 (by decide) hv2814)
  have e2816 : I2815 (ad g 1) 1 = L := by rw [eI2815, fi_off (lyx_ne hy (by decide) (by decide) (by decide))]; exact e2806
  have e2817 : I2815 (ad g 66) 0 = v2793 := by rw [eI2815, fi_off (lyx_ne hy (by decide) (by decide) (by decide))]; exact e2807
  have e2818 : I2815 (ad g 66) 1 = v2798 := by rw [eI2815, fi_off (lyx_ne hy (by decide) (by decide) (by decide))]; exact e2808
  have e2819 : I2815 (ad g 66) 2 = v2804 := by rw [eI2815, fi_off (lyx_ne hy (by decide) (by decide) (by decide))]; exact e2809
  have fr2820 : fz 74 g [66, 68] I I2815 := by rw [eI2815]; exact fzx_fi hy fr2810 (by decide) (by decide)
  clear eI2815
  refine WQ_iconst (0) (0) dX4_begin_28 rfl rfl (fun v2821 hv2821 => ?_)
  refine WP_istore_n (ls' := [(0, _), (1, _), (2, _)]) dX4_begin_29 (by decide) rfl ?_
  have lp30_2824 : ∀ (mz : Nat) (i2822 : Int32) (I2823 : pI) (J2824 : pJ), XI g n L I2823 → fz 74 g [66, 68] I I2823 → fz 74 g [66] J J2824 → 0 ≤ i2822.toInt → i2822.toInt ≤ 4 → (5 - i2822.toInt).toNat < mz → WP g mX4_begin 30 [(0, .ref (ad g 66)), (1, .ref (ad g 27)), (2, .int i2822)] [] I2823 J2824 R (fun r I' J' R' => (XI g n L I' ∧ R' = R ∧ fz 74 g [66, 68] I I' ∧ fz 74 g [66] J J') ∧ r = none) := by
    intro mz
    induction mz with
    | zero =>
      intro i2822 I2823 J2824 hI2823 fiI2823 fjJ2824 ai2822 bi2822 hmlp30_2824
      exact absurd hmlp30_2824 (Nat.not_lt_zero _)
    | succ mz ihlp30_2824 =>
      intro i2822 I2823 J2824 hI2823 fiI2823 fjJ2824 ai2822 bi2822 hmlp30_2824
      have e2826 : I2823 (ad g 1) 1 = L := hI2823.2
      have b2827 := BT_get hI2823.1 1 1 2 (0) (0) (900) (by decide) 1 (by decide) (by decide)
      rw [e2826] at b2827
      refine WP_iload_n dX4_begin_30 rfl ?_
      refine WP_aload_n dX4_begin_31 rfl ?_
      refine WQ_geti dX4_begin_32 fX4_38 rfl (lyx_is hy 27 7 rfl) (BT_get hI2823.1 27 1 2 (0) (0) (4) (by decide) 1 (by decide) (by decide)) (fun v2828 ev2828 av2828 bv2828 => ?_)
      refine WQ_icmp_ge 61 dX4_begin_35 rfl (fun c2828 => ?_) (fun c2828 => ?_)
      · exact WP_vret dX4_begin_61 rfl ⟨⟨hI2823, rfl, fiI2823, fjJ2824⟩, rfl⟩
      · refine WP_aload_n dX4_begin_38 rfl ?_
        refine WP_getr dX4_begin_39 fX4_15 rfl (lyx_is hy 66 4 rfl) (rfx hr 66 5 68 (by decide)) ?_
        refine WP_iload_n dX4_begin_42 rfl ?_
        refine WQ_bipush (7) (7) dX4_begin_43 rfl rfl (fun v2830 hv2830 => ?_)
        refine WQ_imulk (7) dX4_begin_45 hv2830 (by omega) (by omega) (fun v2831 hv2831 => ?_)
        refine WQ_iconst (0) (0) dX4_begin_46 rfl rfl (fun v2832 hv2832 => ?_)
        refine WQ_iadd dX4_begin_47 (by omega) (by omega) (fun v2833 hv2833 => ?_)
        refine WP_aload_n dX4_begin_48 rfl ?_
        refine WP_getr dX4_begin_49 fX4_43 rfl (lyx_is hy 27 7 rfl) (rfx hr 27 8 31 (by decide)) ?_
        refine WP_iload_n dX4_begin_52 rfl ?_
        refine WQ_iald dX4_begin_53 (lyx_is hy 31 13 rfl) (lyx_n hy 31 4 rfl) (by omega) (by omega) (fun q hq => BT_get hI2823.1 31 0 4 (0) (0) (60) (by decide) q (Nat.zero_le _) hq) (fun v2834 av2834 bv2834 ev2834 => ?_)
        clear ev2834
        refine WQ_iast dX4_begin_54 (lyx_is hy 68 13 rfl) (lyx_n hy 68 28 rfl) (by omega) (by omega) (fun I2835 eI2835 => ?_)
        have hI2835 : XI g n L I2835 := by rw [eI2835]; exact (fa_put hy hI2823 (c := 68) (k := 0) (s := i2822.toInt.toNat) (by decide) (by omega) (by decide) (by rw [cl (n := 7 * i2822.toInt.toNat + 0) (by omega)]) (fun _ => by omega) (fun _ => by omega))
        have e2836 : I2835 (ad g 1) 1 = L := by rw [eI2835, pp_ne _ _ (Or.inl (lyx_ne hy (by decide) (by decide) (by decide)))]; exact e2826
        have e2837 : I2835 (ad g 27) 1 = v2828 := by rw [eI2835, pp_ne _ _ (Or.inl (lyx_ne hy (by decide) (by decide) (by decide)))]; exact ev2828
        have fr2838 : fz 74 g [66, 68] I I2835 := by rw [eI2835]; exact fzx_pp hy fiI2823 (by decide) (by decide)
        clear eI2835
        refine WP_iinc (ls' := [(0, _), (1, _), (2, _)]) dX4_begin_55 rfl (by decide) rfl ?_
        have hv2839 : (i2822 + Int32.ofInt (1)).toInt = i2822.toInt + (1) := ia_n rfl (by omega) (by omega)
        generalize i2822 + Int32.ofInt (1) = v2839 at hv2839 ⊢
        refine WP_goto 30 dX4_begin_58 rfl ?_
        exact WP_sub (fc rfl (fc rfl (fc rfl fn))) (ihlp30_2824 v2839 I2835 J2824 hI2835 fr2838 fjJ2824 (by omega) (by omega) (by omega))
  exact WP_sub (fc rfl (fc rfl (fc rfl fn))) (lp30_2824 _ v2821 I2815 J2812 hI2815 fr2820 fr2813 (by omega) (by omega) (Nat.lt_succ_self _))
set_option maxHeartbeats 4000000 in
set_option maxRecDepth 100000 in
theorem sx_become_66_53 {g : GG} {n : Int} {L : Int32} (hy : LyX g)  {I : pI} {J : pJ} {R : pR} (hr : RfX g R) (hI : XI g n L I)   : SP g mX4_become [.ref (ad g 66), .ref (ad g 53)] I J R (fun r I' J' R' => (XI g n L I' ∧ R' = R ∧ fz 74 g [66, 67, 68] I I' ∧ fz 74 g [66] J J') ∧ r = none) := by
  refine SP_of ⟨by decide, rfl⟩ (Nat.le_of_ble_eq_true rfl) ?_
  have e2840 : I (ad g 1) 1 = L := hI.2
  have b2841 := BT_get hI.1 1 1 2 (0) (0) (900) (by decide) 1 (by decide) (by decide)
  rw [e2840] at b2841
  have fr0 : fz 74 g [66, 67, 68] I I := fz_rf
  have frj0 : fz 74 g [66] J J := fz_rf
  refine WP_aload_n dX4_become_0 rfl ?_
  refine WP_aload_n dX4_become_1 rfl ?_
  refine WQ_getiu dX4_become_2 fX4_18 rfl (lyx_is hy 53 4 rfl) (fun v2842 ev2842 => ?_)
  refine WQ_puti dX4_become_5 fX4_18 rfl rfl (lyx_is hy 66 4 rfl) (fun I2843 eI2843 => ?_)
  have hI2843 : XI g n L I2843 := by rw [eI2843]; exact (xi_f0 hy hI (c := 66) (by decide) (Or.inl (by decide)) (by decide))
  have e2844 : I2843 (ad g 1) 1 = L := by rw [eI2843, pp_ne _ _ (Or.inl (lyx_ne hy (by decide) (by decide) (by decide)))]; exact e2840
  have e2845 : I2843 (ad g 53) 0 = v2842 := by rw [eI2843, pp_ne _ _ (Or.inl (lyx_ne hy (by decide) (by decide) (by decide)))]; exact ev2842
  have e2846 : I2843 (ad g 66) 0 = v2842 := by rw [eI2843, pp_self]
  have fr2847 : fz 74 g [66, 67, 68] I I2843 := by rw [eI2843]; exact fzx_pp hy fr0 (by decide) (by decide)
  clear eI2843
  refine WP_aload_n dX4_become_8 rfl ?_
  refine WP_aload_n dX4_become_9 rfl ?_
  refine WQ_geti dX4_become_10 fX4_22 rfl (lyx_is hy 53 4 rfl) (BT_get hI2843.1 53 1 2 (0) (23760) (0) (by decide) 1 (by decide) (by decide)) (fun v2848 ev2848 av2848 bv2848 => ?_)
  refine WQ_puti dX4_become_13 fX4_22 rfl rfl (lyx_is hy 66 4 rfl) (fun I2849 eI2849 => ?_)
  have hI2849 : XI g n L I2849 := by rw [eI2849]; exact (xi_f hy hI2843 (c := 66) (0) (23760) (0) (by decide) (Or.inl (by decide)) (by decide) (by omega) (by omega))
  have e2850 : I2849 (ad g 1) 1 = L := by rw [eI2849, pp_ne _ _ (Or.inl (lyx_ne hy (by decide) (by decide) (by decide)))]; exact e2844
  have e2851 : I2849 (ad g 53) 0 = v2842 := by rw [eI2849, pp_ne _ _ (Or.inl (lyx_ne hy (by decide) (by decide) (by decide)))]; exact e2845
  have e2852 : I2849 (ad g 66) 0 = v2842 := by rw [eI2849, pp_ne _ _ (Or.inr (by decide))]; exact e2846
  have e2853 : I2849 (ad g 53) 1 = v2848 := by rw [eI2849, pp_ne _ _ (Or.inl (lyx_ne hy (by decide) (by decide) (by decide)))]; exact ev2848
  have e2854 : I2849 (ad g 66) 1 = v2848 := by rw [eI2849, pp_self]
  have fr2855 : fz 74 g [66, 67, 68] I I2849 := by rw [eI2849]; exact fzx_pp hy fr2847 (by decide) (by decide)
  clear eI2849
  refine WP_aload_n dX4_become_16 rfl ?_
  refine WP_aload_n dX4_become_17 rfl ?_
  refine WQ_getiu dX4_become_18 fX4_25 rfl (lyx_is hy 53 4 rfl) (fun v2856 ev2856 => ?_)
  refine WQ_puti dX4_become_21 fX4_25 rfl rfl (lyx_is hy 66 4 rfl) (fun I2857 eI2857 => ?_)
  have hI2857 : XI g n L I2857 := by rw [eI2857]; exact (xi_f0 hy hI2849 (c := 66) (by decide) (Or.inl (by decide)) (by decide))
  have e2858 : I2857 (ad g 1) 1 = L := by rw [eI2857, pp_ne _ _ (Or.inl (lyx_ne hy (by decide) (by decide) (by decide)))]; exact e2850
  have e2859 : I2857 (ad g 53) 0 = v2842 := by rw [eI2857, pp_ne _ _ (Or.inl (lyx_ne hy (by decide) (by decide) (by decide)))]; exact e2851
  have e2860 : I2857 (ad g 66) 0 = v2842 := by rw [eI2857, pp_ne _ _ (Or.inr (by decide))]; exact e2852
  have e2861 : I2857 (ad g 53) 1 = v2848 := by rw [eI2857, pp_ne _ _ (Or.inl (lyx_ne hy (by decide) (by decide) (by decide)))]; exact e2853
  have e2862 : I2857 (ad g 66) 1 = v2848 := by rw [eI2857, pp_ne _ _ (Or.inr (by decide))]; exact e2854
  have e2863 : I2857 (ad g 53) 2 = v2856 := by rw [eI2857, pp_ne _ _ (Or.inl (lyx_ne hy (by decide) (by decide) (by decide)))]; exact ev2856
  have e2864 : I2857 (ad g 66) 2 = v2856 := by rw [eI2857, pp_self]
  have fr2865 : fz 74 g [66, 67, 68] I I2857 := by rw [eI2857]; exact fzx_pp hy fr2855 (by decide) (by decide)
  clear eI2857
  refine WP_aload_n dX4_become_24 rfl ?_
  refine WP_aload_n dX4_become_25 rfl ?_
  refine WQ_getl dX4_become_26 fX4_28 rfl (lyx_is hy 53 4 rfl) (fun l2866 el2866 => ?_)
  refine WQ_putl dX4_become_29 fX4_28 rfl rfl (lyx_is hy 66 4 rfl) (fun J2867 eJ2867 => ?_)
  have fr2868 : fz 74 g [66] J J2867 := by rw [eJ2867]; exact fzx_pp hy frj0 (by decide) (by decide)
  clear eJ2867
  refine WP_aload_n dX4_become_32 rfl ?_
  refine WP_getr dX4_become_33 fX4_9 rfl (lyx_is hy 53 4 rfl) (rfx hr 53 4 54 (by decide)) ?_
  refine WQ_iconst (0) (0) dX4_become_36 rfl rfl (fun v2869 hv2869 => ?_)
  refine WP_aload_n dX4_become_37 rfl ?_
  refine WP_getr dX4_become_38 fX4_9 rfl (lyx_is hy 66 4 rfl) (rfx hr 66 4 67 (by decide)) ?_
  refine WQ_iconst (0) (0) dX4_become_41 rfl rfl (fun v2870 hv2870 => ?_)
  refine WP_aload_n dX4_become_42 rfl ?_
  refine WP_getr dX4_become_43 fX4_9 rfl (lyx_is hy 66 4 rfl) (rfx hr 66 4 67 (by decide)) ?_
  refine WP_alen dX4_become_46 (lyx_is hy 67 13 rfl) (by decide) ?_
  rw [(lyx_n hy 67 4 rfl)]
  obtain ⟨v2871, hv2871, ev2871⟩ : ∃ v : Int32, v.toInt = 4 ∧ nI 4 = v := ⟨_, nI_toInt (by decide), rfl⟩
  rw [ev2871]; clear ev2871
  refine WQ_copy0 (N := 4) dX4_become_47 lX4_46 ⟨by decide, Nat.le_of_ble_eq_true rfl⟩ (lyx_is hy 54 13 rfl) (lyx_is hy 67 13 rfl) hv2869 hv2870 hv2871 (lyx_n hy 54 4 rfl) (lyx_n hy 67 4 rfl) (fun I2872 fI2872 oI2872 => ?_)
  have hI2872 : XI g n L I2872 := xi_copy hy hI2857 54 67 4 (by decide) (by decide) fI2872 oI2872
  have fr2873 : fz 74 g [66, 67, 68] I I2872 := fzx_cp hy fr2865 oI2872 (by decide) (by decide)
  clear fI2872 oI2872
  have e2874 : I2872 (ad g 1) 1 = L := hI2872.2
  have b2875 := BT_get hI2872.1 1 1 2 (0) (0) (900) (by decide) 1 (by decide) (by decide)
  rw [e2874] at b2875
  refine WP_aload_n dX4_become_50 rfl ?_
  refine WP_getr dX4_become_51 fX4_15 rfl (lyx_is hy 53 4 rfl) (rfx hr 53 5 55 (by decide)) ?_
  refine WQ_iconst (0) (0) dX4_become_54 rfl rfl (fun v2876 hv2876 => ?_)
  refine WP_aload_n dX4_become_55 rfl ?_
  refine WP_getr dX4_become_56 fX4_15 rfl (lyx_is hy 66 4 rfl) (rfx hr 66 5 68 (by decide)) ?_
  refine WQ_iconst (0) (0) dX4_become_59 rfl rfl (fun v2877 hv2877 => ?_)
  refine WP_aload_n dX4_become_60 rfl ?_
  refine WP_getr dX4_become_61 fX4_15 rfl (lyx_is hy 66 4 rfl) (rfx hr 66 5 68 (by decide)) ?_
  refine WP_alen dX4_become_64 (lyx_is hy 68 13 rfl) (by decide) ?_
  rw [(lyx_n hy 68 28 rfl)]
  obtain ⟨v2878, hv2878, ev2878⟩ : ∃ v : Int32, v.toInt = 28 ∧ nI 28 = v := ⟨_, nI_toInt (by decide), rfl⟩
  rw [ev2878]; clear ev2878
  refine WQ_copy0 (N := 28) dX4_become_65 lX4_46 ⟨by decide, Nat.le_of_ble_eq_true rfl⟩ (lyx_is hy 55 13 rfl) (lyx_is hy 68 13 rfl) hv2876 hv2877 hv2878 (lyx_n hy 55 28 rfl) (lyx_n hy 68 28 rfl) (fun I2879 fI2879 oI2879 => ?_)
  have hI2879 : XI g n L I2879 := xi_copy hy hI2872 55 68 28 (by decide) (by decide) fI2879 oI2879
  have fr2880 : fz 74 g [66, 67, 68] I I2879 := fzx_cp hy fr2873 oI2879 (by decide) (by decide)
  clear fI2879 oI2879
  have e2881 : I2879 (ad g 1) 1 = L := hI2879.2
  have b2882 := BT_get hI2879.1 1 1 2 (0) (0) (900) (by decide) 1 (by decide) (by decide)
  rw [e2881] at b2882
  exact WP_vret dX4_become_68 rfl ⟨⟨hI2879, rfl, fr2880, fr2868⟩, rfl⟩
set_option maxHeartbeats 4000000 in
set_option maxRecDepth 100000 in
theorem sx_round {g : GG} {n : Int} {L : Int32} (hy : LyX g)  {I : pI} {J : pJ} {R : pR} (hr : RfX g R) (hI : XI g n L I)   : SP g mX4_round [.ref (ad g 53)] I J R (fun r I' J' R' => (I' = I ∧ J' = J ∧ R' = R) ∧ ∃ v : Int32, r = some (.int v)) := by
  refine SP_of ⟨by decide, rfl⟩ (Nat.le_of_ble_eq_true rfl) ?_
  have e2883 : I (ad g 1) 1 = L := hI.2
  have b2884 := BT_get hI.1 1 1 2 (0) (0) (900) (by decide) 1 (by decide) (by decide)
  rw [e2883] at b2884
  refine WP_aload_n dX4_round_0 rfl ?_
  refine WQ_getl dX4_round_1 fX4_28 rfl (lyx_is hy 53 4 rfl) (fun l2885 el2885 => ?_)
  refine WP_lconst (0) dX4_round_4 rfl ?_
  obtain ⟨l2886, hl2886, el2886⟩ : ∃ v : Int64, v.toInt = 0 ∧ (0 : Int64) = v := ⟨_, rfl, rfl⟩
  rw [el2886]; clear el2886
  refine WQ_lcmp dX4_round_5 (fun v2887 av2887 bv2887 => ?_)
  refine WQ_if_ne 11 dX4_round_6 rfl (fun c2887 => ?_) (fun c2887 => ?_)
  · refine WP_ldc2 (2147483647) dX4_round_11 klX4_52 ?_
    obtain ⟨l2889, hl2889, el2889⟩ : ∃ v : Int64, v.toInt = (2147483647) ∧ ((2147483647) : Int64) = v := ⟨_, rfl, rfl⟩
    rw [el2889]; clear el2889
    refine WP_ldc2 (1000) dX4_round_14 klX4_54 ?_
    obtain ⟨l2890, hl2890, el2890⟩ : ∃ v : Int64, v.toInt = (1000) ∧ ((1000) : Int64) = v := ⟨_, rfl, rfl⟩
    rw [el2890]; clear el2890
    refine WP_aload_n dX4_round_17 rfl ?_
    refine WQ_iconst (2) (2) dX4_round_18 rfl rfl (fun v2891 hv2891 => ?_)
    refine WP_callV1 (k := 4) dX4_round_19 ⟨⟨⟨by decide, by decide⟩, zX4_sum⟩, lX4_56, by decide, rfl, vX4_sum.1, vX4_sum.2⟩ (lyx_is hy 53 4 rfl) (sx_sum_53 hy hr hI v2891 (by omega) (by omega)) (Nat.le_of_ble_eq_true rfl) ?_
    intro r Ia Ja Ra hq
    obtain ⟨⟨ea, eb, ec⟩, v2892, rfl⟩ := hq
    show WP _ _ _ _ (.int _ :: _) _ _ _ _
    rw [ea, eb, ec]
    clear ea eb ec Ia Ja Ra
    refine WQ_i2l dX4_round_22 (fun l2893 hl2893 => ?_)
    refine WQ_lmul dX4_round_23 (fun l2894 => ?_)
    refine WP_aload_n dX4_round_24 rfl ?_
    refine WP_getl dX4_round_25 fX4_28 rfl (lyx_is hy 53 4 rfl) ?_
    rw [el2885]
    refine WQ_ldiv dX4_round_28 (by omega) (fun l2895 => ?_)
    refine WQ_minl dX4_round_29 lX4_60 ⟨by decide, Nat.le_of_ble_eq_true rfl⟩ (fun l2896 => ?_)
    refine WQ_l2i dX4_round_32 (fun v2897 => ?_)
    exact WP_iret dX4_round_33 rfl ⟨⟨rfl, rfl, rfl⟩, _, rfl⟩
  · refine WQ_iconst (-1) (-1) dX4_round_9 rfl rfl (fun v2898 hv2898 => ?_)
    exact WP_iret dX4_round_10 rfl ⟨⟨rfl, rfl, rfl⟩, _, rfl⟩
