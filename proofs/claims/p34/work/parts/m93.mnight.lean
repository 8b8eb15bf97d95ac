set_option maxHeartbeats 4000000 in
set_option maxRecDepth 100000 in
theorem sm_loses2 {g : GG} {n : Int} {L : Int32} (hy : Ly g)  {I : pI} {J : pJ} {R : pR} (hr : Rf g R) (hI : MP g n L I) (da : Int32) (da_lo : 0 ≤ da.toInt) (da_hi : da.toInt ≤ 6) : SP g mX11_loses [.ref (ad g 0), .int da] I J R (fun r I' J' R' => (I' = I ∧ J' = J ∧ R' = R) ∧ ∃ v : Int32, r = some (.int v) ∧ 0 ≤ v.toInt ∧ v.toInt ≤ 900) := by
  refine SP_of ⟨by decide, rfl⟩ (Nat.le_of_ble_eq_true rfl) ?_
  have e4070 : I (ad g 0) 1 = L := hI.1.2
  have b4071 := BT_get hI.1.1 0 1 2 (0) (0) (900) (by decide) 1 (by decide) (by decide)
  rw [e4070] at b4071
  refine WP_aload_n dX11_loses_0 rfl ?_
  refine WQ_geti dX11_loses_1 fX11_273 rfl (ly_is hy 0 11 rfl) (BT_get hI.1.1 0 55 56 (-1) (0) (900) (by decide) 55 (by decide) (by decide)) (fun v4072 ev4072 av4072 bv4072 => ?_)
  refine WQ_iconst (-1) (-1) dX11_loses_4 rfl rfl (fun v4073 hv4073 => ?_)
  refine WQ_icmp_eq 17 dX11_loses_5 rfl (fun c4073 => ?_) (fun c4073 => ?_)
  · refine WP_aload_n dX11_loses_17 rfl ?_
    refine WP_getr dX11_loses_18 fX11_233 rfl (ly_is hy 0 11 rfl) (rf hr 0 24 6 (by decide)) ?_
    refine WP_iload_n dX11_loses_21 rfl ?_
    refine WQ_iald dX11_loses_22 (ly_is hy 6 13 rfl) (ly_n hy 6 7 rfl) (by omega) (by omega) (fun q hq => BT_get hI.1.1 6 0 7 (0) (0) (900) (by decide) q (Nat.zero_le _) hq) (fun v4075 av4075 bv4075 ev4075 => ?_)
    refine WP_goto 30 dX11_loses_23 rfl ?_
    exact WP_iret dX11_loses_30 rfl ⟨⟨rfl, rfl, rfl⟩, _, rfl, by omega, by omega⟩
  · refine WP_aload_n dX11_loses_8 rfl ?_
    refine WP_getr dX11_loses_9 fX11_233 rfl (ly_is hy 0 11 rfl) (rf hr 0 24 6 (by decide)) ?_
    refine WP_iload_n dX11_loses_12 rfl ?_
    refine WQ_iald dX11_loses_13 (ly_is hy 6 13 rfl) (ly_n hy 6 7 rfl) (by omega) (by omega) (fun q hq => BT_get hI.1.1 6 0 7 (0) (0) (900) (by decide) q (Nat.zero_le _) hq) (fun v4076 av4076 bv4076 ev4076 => ?_)
    refine WQ_if_ne 26 dX11_loses_14 rfl (fun c4076 => ?_) (fun c4076 => ?_)
    · refine WP_aload_n dX11_loses_26 rfl ?_
      refine WQ_getim dX11_loses_27 fX11_273 rfl (ly_is hy 0 11 rfl) ev4072 ?_
      exact WP_iret dX11_loses_30 rfl ⟨⟨rfl, rfl, rfl⟩, _, rfl, by omega, by omega⟩
    · refine WP_aload_n dX11_loses_17 rfl ?_
      refine WP_getr dX11_loses_18 fX11_233 rfl (ly_is hy 0 11 rfl) (rf hr 0 24 6 (by decide)) ?_
      refine WP_iload_n dX11_loses_21 rfl ?_
      refine WQ_ialde dX11_loses_22 (ly_is hy 6 13 rfl) (ly_n hy 6 7 rfl) (by omega) (by omega) ev4076 ?_
      refine WP_goto 30 dX11_loses_23 rfl ?_
      exact WP_iret dX11_loses_30 rfl ⟨⟨rfl, rfl, rfl⟩, _, rfl, by omega, by omega⟩
set_option maxHeartbeats 4000000 in
set_option maxRecDepth 100000 in
theorem sm_nightOf_38 {g : GG} {n : Int} {L : Int32} (hy : Ly g)  {I : pI} {J : pJ} {R : pR} (hr : Rf g R) (hI : MP g n L I) (k : Int32) (da : Int32) (k_lo : 0 ≤ k.toInt) (k_hi : k.toInt ≤ 3) (da_lo : 0 ≤ da.toInt) (da_hi : da.toInt ≤ 6) (hn : 0 ≤ n ∧ n ≤ 40000) (hb : (I (ad g 38) 32).toInt ≤ 23760 * n + 0 - 5940) : SP g mX11_nightOf [.ref (ad g 0), .ref (ad g 38), .int k, .int da] I J R (fun r I' J' R' => (MP g n L I' ∧ R' = R ∧ fz 49 g [38] I I' ∧ fz 49 g [] J J' ∧ fs g [] I I' ∧ (I' (ad g 38) 32).toInt ≤ (I (ad g 38) 32).toInt + 5940) ∧ r = none) := by
  refine SP_of ⟨by decide, rfl⟩ (Nat.le_of_ble_eq_true rfl) ?_
  have e4079 : I (ad g 0) 1 = L := hI.1.2
  have b4080 := BT_get hI.1.1 0 1 2 (0) (0) (900) (by decide) 1 (by decide) (by decide)
  rw [e4079] at b4080
  have fr0 : fz 49 g [38] I I := fz_rf
  have frj0 : fz 49 g [] J J := fz_rf
  have frq0 : fs g [] I I := fs_rf
  obtain ⟨w4081, ew4081⟩ : ∃ w : Int32, I (ad g 38) 32 = w := ⟨_, rfl⟩
  have bw4081 := BT_get hI.1.1 38 32 33 (0) (23760) (0) (by decide) 32 (by decide) (by decide)
  rw [ew4081] at bw4081
  rw [ew4081] at hb
  refine WP_aload_n dX11_nightOf_0 rfl ?_
  refine WQ_iconst (0) (0) dX11_nightOf_1 rfl rfl (fun v4082 hv4082 => ?_)
  refine WP_iload_n dX11_nightOf_2 rfl ?_
  refine WQ_iadd dX11_nightOf_3 (by omega) (by omega) (fun v4083 hv4083 => ?_)
  refine WQ_ialdr dX11_nightOf_4 (ly_is hy 38 13 rfl) (ly_n hy 38 35 rfl) (by omega) (by omega) (a := 0) (b := 4) (by omega) (by omega) (fun q hq1 hq2 => BT_get hI.1.1 38 0 4 (0) (0) (60) (by decide) q hq1 hq2) (fun v4084 av4084 bv4084 => ?_)
  refine WP_aload_n dX11_nightOf_5 rfl ?_
  refine WP_iload_n dX11_nightOf_6 rfl ?_
  refine WP_callV1 (k := 11) dX11_nightOf_7 ⟨⟨⟨by decide, by decide⟩, zX11_loses⟩, lX11_414, by decide, rfl, vX11_loses.1, vX11_loses.2⟩ (ly_is hy 0 11 rfl) (sm_loses2 hy hr hI da (by omega) (by omega)) (Nat.le_of_ble_eq_true rfl) ?_
  intro r Ia Ja Ra hq
  obtain ⟨⟨ea, eb, ec⟩, v4085, rfl, av4085, bv4085⟩ := hq
  show WP _ _ _ _ (.int _ :: _) _ _ _ _
  rw [ea, eb, ec]
  clear ea eb ec Ia Ja Ra
  refine WP_callS2 dX11_nightOf_10 ⟨⟨⟨by decide, by decide⟩, zX11_stampsOf⟩, lX11_380, tX11_stampsOf⟩ (sm_stampsOf hy hr hI v4084 v4085 (by omega) (by omega) (by omega) (by omega)) (Nat.le_of_ble_eq_true rfl) ?_
  intro r Ia Ja Ra hq
  obtain ⟨⟨ea, eb, ec⟩, v4086, rfl, av4086, bv4086, cv4086⟩ := hq
  show WP _ _ _ _ (.int _ :: _) _ _ _ _
  rw [ea, eb, ec]
  clear ea eb ec Ia Ja Ra
  refine WP_istore (ls' := [(0, _), (1, _), (2, _), (3, _), (4, _)]) dX11_nightOf_13 (by decide) rfl ?_
  refine WP_aload_n dX11_nightOf_15 rfl ?_
  refine WQ_iconst (0) (0) dX11_nightOf_16 rfl rfl (fun v4087 hv4087 => ?_)
  refine WP_iload_n dX11_nightOf_17 rfl ?_
  refine WQ_iadd dX11_nightOf_18 (by omega) (by omega) (fun v4088 hv4088 => ?_)
  refine WP_aload_n dX11_nightOf_19 rfl ?_
  refine WP_aload_n dX11_nightOf_20 rfl ?_
  refine WQ_iconst (0) (0) dX11_nightOf_21 rfl rfl (fun v4089 hv4089 => ?_)
  refine WP_iload_n dX11_nightOf_22 rfl ?_
  refine WQ_iadd dX11_nightOf_23 (by omega) (by omega) (fun v4090 hv4090 => ?_)
  refine WQ_ialdr dX11_nightOf_24 (ly_is hy 38 13 rfl) (ly_n hy 38 35 rfl) (by omega) (by omega) (a := 0) (b := 4) (by omega) (by omega) (fun q hq1 hq2 => BT_get hI.1.1 38 0 4 (0) (0) (60) (by decide) q hq1 hq2) (fun v4091 av4091 bv4091 => ?_)
  refine WP_aload_n dX11_nightOf_25 rfl ?_
  refine WQ_iconst (4) (4) dX11_nightOf_26 rfl rfl (fun v4092 hv4092 => ?_)
  refine WP_iload_n dX11_nightOf_27 rfl ?_
  refine WQ_iadd dX11_nightOf_28 (by omega) (by omega) (fun v4093 hv4093 => ?_)
  refine WQ_ialdr dX11_nightOf_29 (ly_is hy 38 13 rfl) (ly_n hy 38 35 rfl) (by omega) (by omega) (a := 4) (b := 8) (by omega) (by omega) (fun q hq1 hq2 => BT_get hI.1.1 38 4 8 (0) (0) (5) (by decide) q hq1 hq2) (fun v4094 av4094 bv4094 => ?_)
  refine WP_aload_n dX11_nightOf_30 rfl ?_
  refine WP_iload_n dX11_nightOf_31 rfl ?_
  refine WP_callV1 (k := 11) dX11_nightOf_32 ⟨⟨⟨by decide, by decide⟩, zX11_loses⟩, lX11_414, by decide, rfl, vX11_loses.1, vX11_loses.2⟩ (ly_is hy 0 11 rfl) (sm_loses2 hy hr hI da (by omega) (by omega)) (Nat.le_of_ble_eq_true rfl) ?_
  intro r Ia Ja Ra hq
  obtain ⟨⟨ea, eb, ec⟩, v4095, rfl, av4095, bv4095⟩ := hq
  show WP _ _ _ _ (.int _ :: _) _ _ _ _
  rw [ea, eb, ec]
  clear ea eb ec Ia Ja Ra
  refine WP_callV3 (k := 11) dX11_nightOf_35 ⟨⟨⟨by decide, by decide⟩, zX11_behindNight⟩, lX11_398, by decide, rfl, vX11_behindNight.1, vX11_behindNight.2⟩ (ly_is hy 0 11 rfl) (sm_behindNight hy hr hI v4091 v4094 v4095 (by omega) (by omega) (by omega) (by omega) (by omega) (by omega)) (Nat.le_of_ble_eq_true rfl) ?_
  intro r Ia Ja Ra hq
  obtain ⟨⟨ea, eb, ec⟩, v4096, rfl, av4096, bv4096⟩ := hq
  show WP _ _ _ _ (.int _ :: _) _ _ _ _
  rw [ea, eb, ec]
  clear ea eb ec Ia Ja Ra
  refine WQ_iast dX11_nightOf_38 (ly_is hy 38 13 rfl) (ly_n hy 38 35 rfl) (by omega) (by omega) (fun I4097 eI4097 => ?_)
  have hI4097 : MP g n L I4097 := by rw [eI4097]; exact (mp_w hy hI (c := 38) (mi_rr hy hI.1 (c := 38) (0) (3) (0) (0) (60) (by decide) (Or.inl (by decide)) (by rw [cl (n := v4088.toInt.toNat) (by omega)]; omega) (by decide) (fun _ => ⟨by omega, by omega⟩)) (by decide) (by decide) (Or.inl (by decide)))
  have e4098 : I4097 (ad g 0) 1 = L := by rw [eI4097, pp_ne _ _ (Or.inl (ly_ne hy (by decide) (by decide) (by decide)))]; exact e4079
  have e4099 : I4097 (ad g 38) 32 = w4081 := by rw [eI4097, pp_ne _ _ (Or.inr (by rw [cl (x := v4088) (n := v4088.toInt.toNat) (by omega)]; omega))]; exact ew4081
  have fr4100 : fs g [] I I4097 := by rw [eI4097]; exact fs_ppn hy frq0 (by decide) (by decide)
  have fr4101 : fz 49 g [38] I I4097 := by rw [eI4097]; exact fzm_pp hy fr0 (by decide) (by decide)
  clear eI4097
  refine WP_aload_n dX11_nightOf_39 rfl ?_
  refine WQ_bipush (12) (12) dX11_nightOf_40 rfl rfl (fun v4102 hv4102 => ?_)
  refine WP_iload_n dX11_nightOf_42 rfl ?_
  refine WQ_iadd dX11_nightOf_43 (by omega) (by omega) (fun v4103 hv4103 => ?_)
  refine WP_dup2 dX11_nightOf_44 rfl rfl ?_
  refine WQ_ialdu dX11_nightOf_45 (ly_is hy 38 13 rfl) (ly_n hy 38 35 rfl) (by omega) (by omega) (fun v4104 => ?_)
  refine WP_iload dX11_nightOf_46 rfl ?_
  refine WP_aload_n dX11_nightOf_48 rfl ?_
  refine WP_getr dX11_nightOf_49 fX11_235 rfl (ly_is hy 0 11 rfl) (rf hr 0 26 8 (by decide)) ?_
  refine WP_iload_n dX11_nightOf_52 rfl ?_
  refine WQ_iald dX11_nightOf_53 (ly_is hy 8 13 rfl) (ly_n hy 8 4 rfl) (by omega) (by omega) (fun q hq => BT_get hI4097.1.1 8 0 4 (0) (0) (99) (by decide) q (Nat.zero_le _) hq) (fun v4105 av4105 bv4105 ev4105 => ?_)
  clear ev4105
  refine WQ_imulb (999) (99) dX11_nightOf_54 ⟨by omega, by omega⟩ ⟨by omega, by omega⟩ (by decide) (fun v4106 pv4106 av4106 bv4106 cv4106 => ?_)
  refine WQ_iaddu dX11_nightOf_55 (fun v4107 => ?_)
  refine WQ_iast dX11_nightOf_56 (ly_is hy 38 13 rfl) (ly_n hy 38 35 rfl) (by omega) (by omega) (fun I4108 eI4108 => ?_)
  have hI4108 : MP g n L I4108 := by rw [eI4108]; exact (mp_w hy hI4097 (c := 38) (mi_rr hy hI4097.1 (c := 38) (12) (15) (0) (0) (0) (by decide) (Or.inl (by decide)) (by rw [cl (n := v4103.toInt.toNat) (by omega)]; omega) (by decide) (fun h => absurd h (by decide))) (by decide) (by decide) (Or.inl (by decide)))
  have e4109 : I4108 (ad g 0) 1 = L := by rw [eI4108, pp_ne _ _ (Or.inl (ly_ne hy (by decide) (by decide) (by decide)))]; exact e4098
  have e4110 : I4108 (ad g 38) 32 = w4081 := by rw [eI4108, pp_ne _ _ (Or.inr (by rw [cl (x := v4103) (n := v4103.toInt.toNat) (by omega)]; omega))]; exact e4099
  have fr4111 : fs g [] I I4108 := by rw [eI4108]; exact fs_ppn hy fr4100 (by decide) (by decide)
  have fr4112 : fz 49 g [38] I I4108 := by rw [eI4108]; exact fzm_pp hy fr4101 (by decide) (by decide)
  clear eI4108
  refine WP_aload_n dX11_nightOf_57 rfl ?_
  refine WQ_bipush (32) (32) dX11_nightOf_58 rfl rfl (fun v4113 hv4113 => ?_)
  refine WP_dup2 dX11_nightOf_60 rfl rfl ?_
  refine WQ_ialdm (z := 32) dX11_nightOf_61 (ly_is hy 38 13 rfl) (ly_n hy 38 35 rfl) hv4113 (by decide) e4110 ?_
  refine WP_iload dX11_nightOf_62 rfl ?_
  refine WP_aload_n dX11_nightOf_64 rfl ?_
  refine WP_getr dX11_nightOf_65 fX11_235 rfl (ly_is hy 0 11 rfl) (rf hr 0 26 8 (by decide)) ?_
  refine WP_iload_n dX11_nightOf_68 rfl ?_
  refine WQ_iald dX11_nightOf_69 (ly_is hy 8 13 rfl) (ly_n hy 8 4 rfl) (by omega) (by omega) (fun q hq => BT_get hI4108.1.1 8 0 4 (0) (0) (99) (by decide) q (Nat.zero_le _) hq) (fun v4115 av4115 bv4115 ev4115 => ?_)
  clear ev4115
  refine WQ_imulb (999) (99) dX11_nightOf_70 ⟨by omega, by omega⟩ ⟨by omega, by omega⟩ (by decide) (fun v4116 pv4116 av4116 bv4116 cv4116 => ?_)
  refine WQ_iadd dX11_nightOf_71 (by omega) (by omega) (fun v4117 hv4117 => ?_)
  refine WQ_iast dX11_nightOf_72 (ly_is hy 38 13 rfl) (ly_n hy 38 35 rfl) (by omega) (by omega) (fun I4118 fI4118 => ?_)
  have eI4118 := fI4118
  rw [cl (x := v4113) (n := 32) (by omega)] at eI4118
  clear fI4118
  have hI4118 : MP g n L I4118 := by rw [eI4118]; exact (mp_w hy hI4108 (c := 38) (mi_f hy hI4108.1 (c := 38) (0) (23760) (0) (by decide) (Or.inl (by decide)) (by decide) (by omega) (by omega)) (by decide) (by decide) (Or.inl (by decide)))
  have e4119 : I4118 (ad g 0) 1 = L := by rw [eI4118, pp_ne _ _ (Or.inl (ly_ne hy (by decide) (by decide) (by decide)))]; exact e4109
  have e4120 : I4118 (ad g 38) 32 = v4117 := by rw [eI4118, pp_self]
  have fr4121 : fs g [] I I4118 := by rw [eI4118]; exact fs_ppn hy fr4111 (by decide) (by decide)
  have fr4122 : fz 49 g [38] I I4118 := by rw [eI4118]; exact fzm_pp hy fr4112 (by decide) (by decide)
  clear eI4118
  refine WP_aload_n dX11_nightOf_73 rfl ?_
  refine WP_aload_n dX11_nightOf_74 rfl ?_
  refine WQ_iconst (4) (4) dX11_nightOf_75 rfl rfl (fun v4123 hv4123 => ?_)
  refine WP_iload_n dX11_nightOf_76 rfl ?_
  refine WQ_iadd dX11_nightOf_77 (by omega) (by omega) (fun v4124 hv4124 => ?_)
  refine WQ_ialdr dX11_nightOf_78 (ly_is hy 38 13 rfl) (ly_n hy 38 35 rfl) (by omega) (by omega) (a := 4) (b := 8) (by omega) (by omega) (fun q hq1 hq2 => BT_get hI4118.1.1 38 4 8 (0) (0) (5) (by decide) q hq1 hq2) (fun v4125 av4125 bv4125 => ?_)
  refine WP_callV1 (k := 11) dX11_nightOf_79 ⟨⟨⟨by decide, by decide⟩, zX11_leftOf⟩, lX11_420, by decide, rfl, vX11_leftOf.1, vX11_leftOf.2⟩ (ly_is hy 0 11 rfl) (sm_leftOf hy hr hI4118 v4125 (by omega) (by omega)) (Nat.le_of_ble_eq_true rfl) ?_
  intro r Ia Ja Ra hq
  obtain ⟨⟨ea, eb, ec⟩, v4126, rfl, av4126, bv4126⟩ := hq
  show WP _ _ _ _ (.int _ :: _) _ _ _ _
  rw [ea, eb, ec]
  clear ea eb ec Ia Ja Ra
  refine WP_istore (ls' := [(0, _), (1, _), (2, _), (3, _), (4, _), (5, _)]) dX11_nightOf_82 (by decide) rfl ?_
  refine WP_aload_n dX11_nightOf_84 rfl ?_
  refine WQ_bipush (20) (20) dX11_nightOf_85 rfl rfl (fun v4127 hv4127 => ?_)
  refine WP_iload_n dX11_nightOf_87 rfl ?_
  refine WQ_iadd dX11_nightOf_88 (by omega) (by omega) (fun v4128 hv4128 => ?_)
  refine WP_dup2 dX11_nightOf_89 rfl rfl ?_
  refine WQ_ialdu dX11_nightOf_90 (ly_is hy 38 13 rfl) (ly_n hy 38 35 rfl) (by omega) (by omega) (fun v4129 => ?_)
  refine WP_aload_n dX11_nightOf_91 rfl ?_
  refine WQ_iconst (4) (4) dX11_nightOf_92 rfl rfl (fun v4130 hv4130 => ?_)
  refine WP_iload_n dX11_nightOf_93 rfl ?_
  refine WQ_iadd dX11_nightOf_94 (by omega) (by omega) (fun v4131 hv4131 => ?_)
  refine WQ_ialdr dX11_nightOf_95 (ly_is hy 38 13 rfl) (ly_n hy 38 35 rfl) (by omega) (by omega) (a := 4) (b := 8) (by omega) (by omega) (fun q hq1 hq2 => BT_get hI4118.1.1 38 4 8 (0) (0) (5) (by decide) q hq1 hq2) (fun v4132 av4132 bv4132 => ?_)
  refine WP_iload dX11_nightOf_96 rfl ?_
  refine WQ_isub dX11_nightOf_98 (by omega) (by omega) (fun v4133 hv4133 => ?_)
  refine WP_aload_n dX11_nightOf_99 rfl ?_
  refine WP_getr dX11_nightOf_100 fX11_235 rfl (ly_is hy 0 11 rfl) (rf hr 0 26 8 (by decide)) ?_
  refine WP_iload_n dX11_nightOf_103 rfl ?_
  refine WQ_iald dX11_nightOf_104 (ly_is hy 8 13 rfl) (ly_n hy 8 4 rfl) (by omega) (by omega) (fun q hq => BT_get hI4118.1.1 8 0 4 (0) (0) (99) (by decide) q (Nat.zero_le _) hq) (fun v4134 av4134 bv4134 ev4134 => ?_)
  clear ev4134
  refine WQ_imulu dX11_nightOf_105 (fun v4135 => ?_)
  refine WQ_iaddu dX11_nightOf_106 (fun v4136 => ?_)
  refine WQ_iast dX11_nightOf_107 (ly_is hy 38 13 rfl) (ly_n hy 38 35 rfl) (by omega) (by omega) (fun I4137 eI4137 => ?_)
  have hI4137 : MP g n L I4137 := by rw [eI4137]; exact (mp_w hy hI4118 (c := 38) (mi_rr hy hI4118.1 (c := 38) (20) (23) (0) (0) (0) (by decide) (Or.inl (by decide)) (by rw [cl (n := v4128.toInt.toNat) (by omega)]; omega) (by decide) (fun h => absurd h (by decide))) (by decide) (by decide) (Or.inl (by decide)))
  have e4138 : I4137 (ad g 0) 1 = L := by rw [eI4137, pp_ne _ _ (Or.inl (ly_ne hy (by decide) (by decide) (by decide)))]; exact e4119
  have e4139 : I4137 (ad g 38) 32 = v4117 := by rw [eI4137, pp_ne _ _ (Or.inr (by rw [cl (x := v4128) (n := v4128.toInt.toNat) (by omega)]; omega))]; exact e4120
  have fr4140 : fs g [] I I4137 := by rw [eI4137]; exact fs_ppn hy fr4121 (by decide) (by decide)
  have fr4141 : fz 49 g [38] I I4137 := by rw [eI4137]; exact fzm_pp hy fr4122 (by decide) (by decide)
  clear eI4137
  refine WP_aload_n dX11_nightOf_108 rfl ?_
  refine WQ_iconst (4) (4) dX11_nightOf_109 rfl rfl (fun v4142 hv4142 => ?_)
  refine WP_iload_n dX11_nightOf_110 rfl ?_
  refine WQ_iadd dX11_nightOf_111 (by omega) (by omega) (fun v4143 hv4143 => ?_)
  refine WP_iload dX11_nightOf_112 rfl ?_
  refine WQ_iast dX11_nightOf_114 (ly_is hy 38 13 rfl) (ly_n hy 38 35 rfl) (by omega) (by omega) (fun I4144 eI4144 => ?_)
  have hI4144 : MP g n L I4144 := by rw [eI4144]; exact (mp_w hy hI4137 (c := 38) (mi_rr hy hI4137.1 (c := 38) (4) (7) (0) (0) (5) (by decide) (Or.inl (by decide)) (by rw [cl (n := v4143.toInt.toNat) (by omega)]; omega) (by decide) (fun _ => ⟨by omega, by omega⟩)) (by decide) (by decide) (Or.inl (by decide)))
  have e4145 : I4144 (ad g 0) 1 = L := by rw [eI4144, pp_ne _ _ (Or.inl (ly_ne hy (by decide) (by decide) (by decide)))]; exact e4138
  have e4146 : I4144 (ad g 38) 32 = v4117 := by rw [eI4144, pp_ne _ _ (Or.inr (by rw [cl (x := v4143) (n := v4143.toInt.toNat) (by omega)]; omega))]; exact e4139
  have fr4147 : fs g [] I I4144 := by rw [eI4144]; exact fs_ppn hy fr4140 (by decide) (by decide)
  have fr4148 : fz 49 g [38] I I4144 := by rw [eI4144]; exact fzm_pp hy fr4141 (by decide) (by decide)
  clear eI4144
  exact WP_vret dX11_nightOf_115 rfl ⟨⟨hI4144, rfl, fr4148, frj0, fr4147, (by rw [e4146, ew4081]; omega)⟩, rfl⟩
set_option maxHeartbeats 4000000 in
set_option maxRecDepth 100000 in
theorem sm_nightOf_39 {g : GG} {n : Int} {L : Int32} (hy : Ly g)  {I : pI} {J : pJ} {R : pR} (hr : Rf g R) (hI : MP g n L I) (k : Int32) (da : Int32) (k_lo : 0 ≤ k.toInt) (k_hi : k.toInt ≤ 3) (da_lo : 0 ≤ da.toInt) (da_hi : da.toInt ≤ 6) (hn : 0 ≤ n ∧ n ≤ 40000) (hb : (I (ad g 39) 32).toInt ≤ 23760 * n + 700000 - 5940) : SP g mX11_nightOf [.ref (ad g 0), .ref (ad g 39), .int k, .int da] I J R (fun r I' J' R' => (MP g n L I' ∧ R' = R ∧ fz 49 g [39] I I' ∧ fz 49 g [] J J' ∧ fs g [] I I' ∧ (I' (ad g 39) 32).toInt ≤ (I (ad g 39) 32).toInt + 5940) ∧ r = none) := by
  refine SP_of ⟨by decide, rfl⟩ (Nat.le_of_ble_eq_true rfl) ?_
  have e4149 : I (ad g 0) 1 = L := hI.1.2
  have b4150 := BT_get hI.1.1 0 1 2 (0) (0) (900) (by decide) 1 (by decide) (by decide)
  rw [e4149] at b4150
  have fr0 : fz 49 g [39] I I := fz_rf
  have frj0 : fz 49 g [] J J := fz_rf
  have frq0 : fs g [] I I := fs_rf
  obtain ⟨w4151, ew4151⟩ : ∃ w : Int32, I (ad g 39) 32 = w := ⟨_, rfl⟩
  have bw4151 := BT_get hI.1.1 39 32 33 (0) (23760) (700000) (by decide) 32 (by decide) (by decide)
  rw [ew4151] at bw4151
  rw [ew4151] at hb
  refine WP_aload_n dX11_nightOf_0 rfl ?_
  refine WQ_iconst (0) (0) dX11_nightOf_1 rfl rfl (fun v4152 hv4152 => ?_)
  refine WP_iload_n dX11_nightOf_2 rfl ?_
  refine WQ_iadd dX11_nightOf_3 (by omega) (by omega) (fun v4153 hv4153 => ?_)
  refine WQ_ialdr dX11_nightOf_4 (ly_is hy 39 13 rfl) (ly_n hy 39 35 rfl) (by omega) (by omega) (a := 0) (b := 4) (by omega) (by omega) (fun q hq1 hq2 => BT_get hI.1.1 39 0 4 (0) (0) (60) (by decide) q hq1 hq2) (fun v4154 av4154 bv4154 => ?_)
  refine WP_aload_n dX11_nightOf_5 rfl ?_
  refine WP_iload_n dX11_nightOf_6 rfl ?_
  refine WP_callV1 (k := 11) dX11_nightOf_7 ⟨⟨⟨by decide, by decide⟩, zX11_loses⟩, lX11_414, by decide, rfl, vX11_loses.1, vX11_loses.2⟩ (ly_is hy 0 11 rfl) (sm_loses2 hy hr hI da (by omega) (by omega)) (Nat.le_of_ble_eq_true rfl) ?_
  intro r Ia Ja Ra hq
  obtain ⟨⟨ea, eb, ec⟩, v4155, rfl, av4155, bv4155⟩ := hq
  show WP _ _ _ _ (.int _ :: _) _ _ _ _
  rw [ea, eb, ec]
  clear ea eb ec Ia Ja Ra
  refine WP_callS2 dX11_nightOf_10 ⟨⟨⟨by decide, by decide⟩, zX11_stampsOf⟩, lX11_380, tX11_stampsOf⟩ (sm_stampsOf hy hr hI v4154 v4155 (by omega) (by omega) (by omega) (by omega)) (Nat.le_of_ble_eq_true rfl) ?_
  intro r Ia Ja Ra hq
  obtain ⟨⟨ea, eb, ec⟩, v4156, rfl, av4156, bv4156, cv4156⟩ := hq
  show WP _ _ _ _ (.int _ :: _) _ _ _ _
  rw [ea, eb, ec]
  clear ea eb ec Ia Ja Ra
  refine WP_istore (ls' := [(0, _), (1, _), (2, _), (3, _), (4, _)]) dX11_nightOf_13 (by decide) rfl ?_
  refine WP_aload_n dX11_nightOf_15 rfl ?_
  refine WQ_iconst (0) (0) dX11_nightOf_16 rfl rfl (fun v4157 hv4157 => ?_)
  refine WP_iload_n dX11_nightOf_17 rfl ?_
  refine WQ_iadd dX11_nightOf_18 (by omega) (by omega) (fun v4158 hv4158 => ?_)
  refine WP_aload_n dX11_nightOf_19 rfl ?_
  refine WP_aload_n dX11_nightOf_20 rfl ?_
  refine WQ_iconst (0) (0) dX11_nightOf_21 rfl rfl (fun v4159 hv4159 => ?_)
  refine WP_iload_n dX11_nightOf_22 rfl ?_
  refine WQ_iadd dX11_nightOf_23 (by omega) (by omega) (fun v4160 hv4160 => ?_)
  refine WQ_ialdr dX11_nightOf_24 (ly_is hy 39 13 rfl) (ly_n hy 39 35 rfl) (by omega) (by omega) (a := 0) (b := 4) (by omega) (by omega) (fun q hq1 hq2 => BT_get hI.1.1 39 0 4 (0) (0) (60) (by decide) q hq1 hq2) (fun v4161 av4161 bv4161 => ?_)
  refine WP_aload_n dX11_nightOf_25 rfl ?_
  refine WQ_iconst (4) (4) dX11_nightOf_26 rfl rfl (fun v4162 hv4162 => ?_)
  refine WP_iload_n dX11_nightOf_27 rfl ?_
  refine WQ_iadd dX11_nightOf_28 (by omega) (by omega) (fun v4163 hv4163 => ?_)
  refine WQ_ialdr dX11_nightOf_29 (ly_is hy 39 13 rfl) (ly_n hy 39 35 rfl) (by omega) (by omega) (a := 4) (b := 8) (by omega) (by omega) (fun q hq1 hq2 => BT_get hI.1.1 39 4 8 (0) (0) (5) (by decide) q hq1 hq2) (fun v4164 av4164 bv4164 => ?_)
  refine WP_aload_n dX11_nightOf_30 rfl ?_
  refine WP_iload_n dX11_nightOf_31 rfl ?_
  refine WP_callV1 (k := 11) dX11_nightOf_32 ⟨⟨⟨by decide, by decide⟩, zX11_loses⟩, lX11_414, by decide, rfl, vX11_loses.1, vX11_loses.2⟩ (ly_is hy 0 11 rfl) (sm_loses2 hy hr hI da (by omega) (by omega)) (Nat.le_of_ble_eq_true rfl) ?_
  intro r Ia Ja Ra hq
  obtain ⟨⟨ea, eb, ec⟩, v4165, rfl, av4165, bv4165⟩ := hq
  show WP _ _ _ _ (.int _ :: _) _ _ _ _
  rw [ea, eb, ec]
  clear ea eb ec Ia Ja Ra
  refine WP_callV3 (k := 11) dX11_nightOf_35 ⟨⟨⟨by decide, by decide⟩, zX11_behindNight⟩, lX11_398, by decide, rfl, vX11_behindNight.1, vX11_behindNight.2⟩ (ly_is hy 0 11 rfl) (sm_behindNight hy hr hI v4161 v4164 v4165 (by omega) (by omega) (by omega) (by omega) (by omega) (by omega)) (Nat.le_of_ble_eq_true rfl) ?_
  intro r Ia Ja Ra hq
  obtain ⟨⟨ea, eb, ec⟩, v4166, rfl, av4166, bv4166⟩ := hq
  show WP _ _ _ _ (.int _ :: _) _ _ _ _
  rw [ea, eb, ec]
  clear ea eb ec Ia Ja Ra
  refine WQ_iast dX11_nightOf_38 (ly_is hy 39 13 rfl) (ly_n hy 39 35 rfl) (by omega) (by omega) (fun I4167 eI4167 => ?_)
  have hI4167 : MP g n L I4167 := by rw [eI4167]; exact (mp_w hy hI (c := 39) (mi_rr hy hI.1 (c := 39) (0) (3) (0) (0) (60) (by decide) (Or.inl (by decide)) (by rw [cl (n := v4158.toInt.toNat) (by omega)]; omega) (by decide) (fun _ => ⟨by omega, by omega⟩)) (by decide) (by decide) (Or.inl (by decide)))
  have e4168 : I4167 (ad g 0) 1 = L := by rw [eI4167, pp_ne _ _ (Or.inl (ly_ne hy (by decide) (by decide) (by decide)))]; exact e4149
  have e4169 : I4167 (ad g 39) 32 = w4151 := by rw [eI4167, pp_ne _ _ (Or.inr (by rw [cl (x := v4158) (n := v4158.toInt.toNat) (by omega)]; omega))]; exact ew4151
  have fr4170 : fs g [] I I4167 := by rw [eI4167]; exact fs_ppn hy frq0 (by decide) (by decide)
  have fr4171 : fz 49 g [39] I I4167 := by rw [eI4167]; exact fzm_pp hy fr0 (by decide) (by decide)
  clear eI4167
  refine WP_aload_n dX11_nightOf_39 rfl ?_
  refine WQ_bipush (12) (12) dX11_nightOf_40 rfl rfl (fun v4172 hv4172 => ?_)
  refine WP_iload_n dX11_nightOf_42 rfl ?_
  refine WQ_iadd dX11_nightOf_43 (by omega) (by omega) (fun v4173 hv4173 => ?_)
  refine WP_dup2 dX11_nightOf_44 rfl rfl ?_
  refine WQ_ialdu dX11_nightOf_45 (ly_is hy 39 13 rfl) (ly_n hy 39 35 rfl) (by omega) (by omega) (fun v4174 => ?_)
  refine WP_iload dX11_nightOf_46 rfl ?_
  refine WP_aload_n dX11_nightOf_48 rfl ?_
  refine WP_getr dX11_nightOf_49 fX11_235 rfl (ly_is hy 0 11 rfl) (rf hr 0 26 8 (by decide)) ?_
  refine WP_iload_n dX11_nightOf_52 rfl ?_
  refine WQ_iald dX11_nightOf_53 (ly_is hy 8 13 rfl) (ly_n hy 8 4 rfl) (by omega) (by omega) (fun q hq => BT_get hI4167.1.1 8 0 4 (0) (0) (99) (by decide) q (Nat.zero_le _) hq) (fun v4175 av4175 bv4175 ev4175 => ?_)
  clear ev4175
  refine WQ_imulb (999) (99) dX11_nightOf_54 ⟨by omega, by omega⟩ ⟨by omega, by omega⟩ (by decide) (fun v4176 pv4176 av4176 bv4176 cv4176 => ?_)
  refine WQ_iaddu dX11_nightOf_55 (fun v4177 => ?_)
  refine WQ_iast dX11_nightOf_56 (ly_is hy 39 13 rfl) (ly_n hy 39 35 rfl) (by omega) (by omega) (fun I4178 eI4178 => ?_)
  have hI4178 : MP g n L I4178 := by rw [eI4178]; exact (mp_w hy hI4167 (c := 39) (mi_rr hy hI4167.1 (c := 39) (12) (15) (0) (0) (0) (by decide) (Or.inl (by decide)) (by rw [cl (n := v4173.toInt.toNat) (by omega)]; omega) (by decide) (fun h => absurd h (by decide))) (by decide) (by decide) (Or.inl (by decide)))
  have e4179 : I4178 (ad g 0) 1 = L := by rw [eI4178, pp_ne _ _ (Or.inl (ly_ne hy (by decide) (by decide) (by decide)))]; exact e4168
  have e4180 : I4178 (ad g 39) 32 = w4151 := by rw [eI4178, pp_ne _ _ (Or.inr (by rw [cl (x := v4173) (n := v4173.toInt.toNat) (by omega)]; omega))]; exact e4169
  have fr4181 : fs g [] I I4178 := by rw [eI4178]; exact fs_ppn hy fr4170 (by decide) (by decide)
  have fr4182 : fz 49 g [39] I I4178 := by rw [eI4178]; exact fzm_pp hy fr4171 (by decide) (by decide)
  clear eI4178
  refine WP_aload_n dX11_nightOf_57 rfl ?_
  refine WQ_bipush (32) (32) dX11_nightOf_58 rfl rfl (fun v4183 hv4183 => ?_)
  refine WP_dup2 dX11_nightOf_60 rfl rfl ?_
  refine WQ_ialdm (z := 32) dX11_nightOf_61 (ly_is hy 39 13 rfl) (ly_n hy 39 35 rfl) hv4183 (by decide) e4180 ?_
  refine WP_iload dX11_nightOf_62 rfl ?_
  refine WP_aload_n dX11_nightOf_64 rfl ?_
  refine WP_getr dX11_nightOf_65 fX11_235 rfl (ly_is hy 0 11 rfl) (rf hr 0 26 8 (by decide)) ?_
  refine WP_iload_n dX11_nightOf_68 rfl ?_
  refine WQ_iald dX11_nightOf_69 (ly_is hy 8 13 rfl) (ly_n hy 8 4 rfl) (by omega) (by omega) (fun q hq => BT_get hI4178.1.1 8 0 4 (0) (0) (99) (by decide) q (Nat.zero_le _) hq) (fun v4185 av4185 bv4185 ev4185 => ?_)
  clear ev4185
  refine WQ_imulb (999) (99) dX11_nightOf_70 ⟨by omega, by omega⟩ ⟨by omega, by omega⟩ (by decide) (fun v4186 pv4186 av4186 bv4186 cv4186 => ?_)
  refine WQ_iadd dX11_nightOf_71 (by omega) (by omega) (fun v4187 hv4187 => ?_)
  refine WQ_iast dX11_nightOf_72 (ly_is hy 39 13 rfl) (ly_n hy 39 35 rfl) (by omega) (by omega) (fun I4188 fI4188 => ?_)
  have eI4188 := fI4188
  rw [cl (x := v4183) (n := 32) (by omega)] at eI4188
  clear fI4188
  have hI4188 : MP g n L I4188 := by rw [eI4188]; exact (mp_w hy hI4178 (c := 39) (mi_f hy hI4178.1 (c := 39) (0) (23760) (700000) (by decide) (Or.inl (by decide)) (by decide) (by omega) (by omega)) (by decide) (by decide) (Or.inl (by decide)))
  have e4189 : I4188 (ad g 0) 1 = L := by rw [eI4188, pp_ne _ _ (Or.inl (ly_ne hy (by decide) (by decide) (by decide)))]; exact e4179
  have e4190 : I4188 (ad g 39) 32 = v4187 := by rw [eI4188, pp_self]
  have fr4191 : fs g [] I I4188 := by rw [eI4188]; exact fs_ppn hy fr4181 (by decide) (by decide)
  have fr4192 : fz 49 g [39] I I4188 := by rw [eI4188]; exact fzm_pp hy fr4182 (by decide) (by decide)
  clear eI4188
  refine WP_aload_n dX11_nightOf_73 rfl ?_
  refine WP_aload_n dX11_nightOf_74 rfl ?_
  refine WQ_iconst (4) (4) dX11_nightOf_75 rfl rfl (fun v4193 hv4193 => ?_)
  refine WP_iload_n dX11_nightOf_76 rfl ?_
  refine WQ_iadd dX11_nightOf_77 (by omega) (by omega) (fun v4194 hv4194 => ?_)
  refine WQ_ialdr dX11_nightOf_78 (ly_is hy 39 13 rfl) (ly_n hy 39 35 rfl) (by omega) (by omega) (a := 4) (b := 8) (by omega) (by omega) (fun q hq1 hq2 => BT_get hI4188.1.1 39 4 8 (0) (0) (5) (by decide) q hq1 hq2) (fun v4195 av4195 bv4195 => ?_)
  refine WP_callV1 (k := 11) dX11_nightOf_79 ⟨⟨⟨by decide, by decide⟩, zX11_leftOf⟩, lX11_420, by decide, rfl, vX11_leftOf.1, vX11_leftOf.2⟩ (ly_is hy 0 11 rfl) (sm_leftOf hy hr hI4188 v4195 (by omega) (by omega)) (Nat.le_of_ble_eq_true rfl) ?_
  intro r Ia Ja Ra hq
  obtain ⟨⟨ea, eb, ec⟩, v4196, rfl, av4196, bv4196⟩ := hq
  show WP _ _ _ _ (.int _ :: _) _ _ _ _
  rw [ea, eb, ec]
  clear ea eb ec Ia Ja Ra
  refine WP_istore (ls' := [(0, _), (1, _), (2, _), (3, _), (4, _), (5, _)]) dX11_nightOf_82 (by decide) rfl ?_
  refine WP_aload_n dX11_nightOf_84 rfl ?_
  refine WQ_bipush (20) (20) dX11_nightOf_85 rfl rfl (fun v4197 hv4197 => ?_)
  refine WP_iload_n dX11_nightOf_87 rfl ?_
  refine WQ_iadd dX11_nightOf_88 (by omega) (by omega) (fun v4198 hv4198 => ?_)
  refine WP_dup2 dX11_nightOf_89 rfl rfl ?_
  refine WQ_ialdu dX11_nightOf_90 (ly_is hy 39 13 rfl) (ly_n hy 39 35 rfl) (by omega) (by omega) (fun v4199 => ?_)
  refine WP_aload_n dX11_nightOf_91 rfl ?_
  refine WQ_iconst (4) (4) dX11_nightOf_92 rfl rfl (fun v4200 hv4200 => ?_)
  refine WP_iload_n dX11_nightOf_93 rfl ?_
  refine WQ_iadd dX11_nightOf_94 (by omega) (by omega) (fun v4201 hv4201 => ?_)
  refine WQ_ialdr dX11_nightOf_95 (ly_is hy 39 13 rfl) (ly_n hy 39 35 rfl) (by omega) (by omega) (a := 4) (b := 8) (by omega) (by omega) (fun q hq1 hq2 => BT_get hI4188.1.1 39 4 8 (0) (0) (5) (by decide) q hq1 hq2) (fun v4202 av4202 bv4202 => ?_)
  refine WP_iload dX11_nightOf_96 rfl ?_
  refine WQ_isub dX11_nightOf_98 (by omega) (by omega) (fun v4203 hv4203 => ?_)
  refine WP_aload_n dX11_nightOf_99 rfl ?_
  refine WP_getr dX11_nightOf_100 fX11_235 rfl (ly_is hy 0 11 rfl) (rf hr 0 26 8 (by decide)) ?_
  refine WP_iload_n dX11_nightOf_103 rfl ?_
  refine WQ_iald dX11_nightOf_104 (ly_is hy 8 13 rfl) (ly_n hy 8 4 rfl) (by omega) (by omega) (fun q hq => BT_get hI4188.1.1 8 0 4 (0) (0) (99) (by decide) q (Nat.zero_le _) hq) (fun v4204 av4204 bv4204 ev4204 => ?_)
  clear ev4204
  refine WQ_imulu dX11_nightOf_105 (fun v4205 => ?_)
  refine WQ_iaddu dX11_nightOf_106 (fun v4206 => ?_)
  refine WQ_iast dX11_nightOf_107 (ly_is hy 39 13 rfl) (ly_n hy 39 35 rfl) (by omega) (by omega) (fun I4207 eI4207 => ?_)
  have hI4207 : MP g n L I4207 := by rw [eI4207]; exact (mp_w hy hI4188 (c := 39) (mi_rr hy hI4188.1 (c := 39) (20) (23) (0) (0) (0) (by decide) (Or.inl (by decide)) (by rw [cl (n := v4198.toInt.toNat) (by omega)]; omega) (by decide) (fun h => absurd h (by decide))) (by decide) (by decide) (Or.inl (by decide)))
  have e4208 : I4207 (ad g 0) 1 = L := by rw [eI4207, pp_ne _ _ (Or.inl (ly_ne hy (by decide) (by decide) (by decide)))]; exact e4189
  have e4209 : I4207 (ad g 39) 32 = v4187 := by rw [eI4207, pp_ne _ _ (Or.inr (by rw [cl (x := v4198) (n := v4198.toInt.toNat) (by omega)]; omega))]; exact e4190
  have fr4210 : fs g [] I I4207 := by rw [eI4207]; exact fs_ppn hy fr4191 (by decide) (by decide)
  have fr4211 : fz 49 g [39] I I4207 := by rw [eI4207]; exact fzm_pp hy fr4192 (by decide) (by decide)
  clear eI4207
  refine WP_aload_n dX11_nightOf_108 rfl ?_
  refine WQ_iconst (4) (4) dX11_nightOf_109 rfl rfl (fun v4212 hv4212 => ?_)
  refine WP_iload_n dX11_nightOf_110 rfl ?_
  refine WQ_iadd dX11_nightOf_111 (by omega) (by omega) (fun v4213 hv4213 => ?_)
  refine WP_iload dX11_nightOf_112 rfl ?_
  refine WQ_iast dX11_nightOf_114 (ly_is hy 39 13 rfl) (ly_n hy 39 35 rfl) (by omega) (by omega) (fun I4214 eI4214 => ?_)
  have hI4214 : MP g n L I4214 := by rw [eI4214]; exact (mp_w hy hI4207 (c := 39) (mi_rr hy hI4207.1 (c := 39) (4) (7) (0) (0) (5) (by decide) (Or.inl (by decide)) (by rw [cl (n := v4213.toInt.toNat) (by omega)]; omega) (by decide) (fun _ => ⟨by omega, by omega⟩)) (by decide) (by decide) (Or.inl (by decide)))
  have e4215 : I4214 (ad g 0) 1 = L := by rw [eI4214, pp_ne _ _ (Or.inl (ly_ne hy (by decide) (by decide) (by decide)))]; exact e4208
  have e4216 : I4214 (ad g 39) 32 = v4187 := by rw [eI4214, pp_ne _ _ (Or.inr (by rw [cl (x := v4213) (n := v4213.toInt.toNat) (by omega)]; omega))]; exact e4209
  have fr4217 : fs g [] I I4214 := by rw [eI4214]; exact fs_ppn hy fr4210 (by decide) (by decide)
  have fr4218 : fz 49 g [39] I I4214 := by rw [eI4214]; exact fzm_pp hy fr4211 (by decide) (by decide)
  clear eI4214
  exact WP_vret dX11_nightOf_115 rfl ⟨⟨hI4214, rfl, fr4218, frj0, fr4217, (by rw [e4216, ew4151]; omega)⟩, rfl⟩
