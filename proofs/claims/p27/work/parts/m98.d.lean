set_option maxHeartbeats 4000000 in
set_option maxRecDepth 100000 in
theorem sm_nightOfx_38 {g : GG} {n : Int} {L : Int32} (hy : Ly g)  {I : pI} {J : pJ} {R : pR} (hr : Rf g R) (hI : MP g n L I) (k : Int32) (da : Int32) (k_lo : 0 ≤ k.toInt) (k_hi : k.toInt ≤ 3) (da_lo : 0 ≤ da.toInt) (da_hi : da.toInt ≤ 6) (hn : 0 ≤ n ∧ n ≤ 40000) (hb : (I (ad g 38) 32).toInt ≤ 23760 * n + 0 - 5940) : SP g mX11_nightOf [.ref (ad g 0), .ref (ad g 38), .int k, .int da] I J R (fun r I' J' R' => (MP g n L I' ∧ R' = R ∧ fz 49 g [38] I I' ∧ ((I' (ad g 38) 32).toInt ≤ (I (ad g 38) 32).toInt + 5940) ∧ I' (ad g 38) 33 = I (ad g 38) 33 ∧ I' (ad g 0) 10 = I (ad g 0) 10 ∧ I' (ad g 0) 14 = I (ad g 0) 14 ∧ I' (ad g 0) 68 = I (ad g 0) 68) ∧ r = none) := by
  refine SP_of ⟨by decide, rfl⟩ (Nat.le_of_ble_eq_true rfl) ?_
  have e4870 : I (ad g 0) 1 = L := hI.1.2
  have b4871 := BT_get hI.1.1 0 1 2 (0) (0) (900) (by decide) 1 (by decide) (by decide)
  rw [e4870] at b4871
  have fr0 : fz 49 g [38] I I := fz_rf
  obtain ⟨w4872, ew4872⟩ : ∃ w : Int32, I (ad g 38) 33 = w := ⟨_, rfl⟩
  have bw4872 := BT_get hI.1.1 38 33 34 (0) (1) (0) (by decide) 33 (by decide) (by decide)
  rw [ew4872] at bw4872
  obtain ⟨w4873, ew4873⟩ : ∃ w : Int32, I (ad g 0) 10 = w := ⟨_, rfl⟩
  have bw4873 := BT_get hI.1.1 0 10 11 (0) (0) (4) (by decide) 10 (by decide) (by decide)
  rw [ew4873] at bw4873
  obtain ⟨w4874, ew4874⟩ : ∃ w : Int32, I (ad g 0) 14 = w := ⟨_, rfl⟩
  have bw4874 := BT_get hI.1.1 0 14 15 (-1) (0) (2) (by decide) 14 (by decide) (by decide)
  rw [ew4874] at bw4874
  obtain ⟨w4875, ew4875⟩ : ∃ w : Int32, I (ad g 0) 68 = w := ⟨_, rfl⟩
  obtain ⟨w4876, ew4876⟩ : ∃ w : Int32, I (ad g 38) 32 = w := ⟨_, rfl⟩
  have bw4876 := BT_get hI.1.1 38 32 33 (0) (23760) (0) (by decide) 32 (by decide) (by decide)
  rw [ew4876] at bw4876
  rw [ew4876] at hb
  refine WP_aload_n dX11_nightOf_0 rfl ?_
  refine WQ_iconst (0) (0) dX11_nightOf_1 rfl rfl (fun v4877 hv4877 => ?_)
  refine WP_iload_n dX11_nightOf_2 rfl ?_
  refine WQ_iadd dX11_nightOf_3 (by omega) (by omega) (fun v4878 hv4878 => ?_)
  refine WQ_ialdr dX11_nightOf_4 (ly_is hy 38 13 rfl) (ly_n hy 38 35 rfl) (by omega) (by omega) (a := 0) (b := 4) (by omega) (by omega) (fun q hq1 hq2 => BT_get hI.1.1 38 0 4 (0) (0) (60) (by decide) q hq1 hq2) (fun v4879 av4879 bv4879 => ?_)
  refine WP_aload_n dX11_nightOf_5 rfl ?_
  refine WP_iload_n dX11_nightOf_6 rfl ?_
  refine WP_callV1 (k := 11) dX11_nightOf_7 ⟨⟨⟨by decide, by decide⟩, zX11_loses⟩, lX11_414, by decide, rfl, vX11_loses.1, vX11_loses.2⟩ (ly_is hy 0 11 rfl) (sm_loses2 hy hr hI da (by omega) (by omega)) (Nat.le_of_ble_eq_true rfl) ?_
  intro r Ia Ja Ra hq
  obtain ⟨⟨ea, eb, ec⟩, v4880, rfl, av4880, bv4880⟩ := hq
  show WP _ _ _ _ (.int _ :: _) _ _ _ _
  rw [ea, eb, ec]
  clear ea eb ec Ia Ja Ra
  refine WP_callS2 dX11_nightOf_10 ⟨⟨⟨by decide, by decide⟩, zX11_stampsOf⟩, lX11_380, tX11_stampsOf⟩ (sm_stampsOf hy hr hI v4879 v4880 (by omega) (by omega) (by omega) (by omega)) (Nat.le_of_ble_eq_true rfl) ?_
  intro r Ia Ja Ra hq
  obtain ⟨⟨ea, eb, ec⟩, v4881, rfl, av4881, bv4881, cv4881⟩ := hq
  show WP _ _ _ _ (.int _ :: _) _ _ _ _
  rw [ea, eb, ec]
  clear ea eb ec Ia Ja Ra
  refine WP_istore (ls' := [(0, _), (1, _), (2, _), (3, _), (4, _)]) dX11_nightOf_13 (by decide) rfl ?_
  refine WP_aload_n dX11_nightOf_15 rfl ?_
  refine WQ_iconst (0) (0) dX11_nightOf_16 rfl rfl (fun v4882 hv4882 => ?_)
  refine WP_iload_n dX11_nightOf_17 rfl ?_
  refine WQ_iadd dX11_nightOf_18 (by omega) (by omega) (fun v4883 hv4883 => ?_)
  refine WP_aload_n dX11_nightOf_19 rfl ?_
  refine WP_aload_n dX11_nightOf_20 rfl ?_
  refine WQ_iconst (0) (0) dX11_nightOf_21 rfl rfl (fun v4884 hv4884 => ?_)
  refine WP_iload_n dX11_nightOf_22 rfl ?_
  refine WQ_iadd dX11_nightOf_23 (by omega) (by omega) (fun v4885 hv4885 => ?_)
  refine WQ_ialdr dX11_nightOf_24 (ly_is hy 38 13 rfl) (ly_n hy 38 35 rfl) (by omega) (by omega) (a := 0) (b := 4) (by omega) (by omega) (fun q hq1 hq2 => BT_get hI.1.1 38 0 4 (0) (0) (60) (by decide) q hq1 hq2) (fun v4886 av4886 bv4886 => ?_)
  refine WP_aload_n dX11_nightOf_25 rfl ?_
  refine WQ_iconst (4) (4) dX11_nightOf_26 rfl rfl (fun v4887 hv4887 => ?_)
  refine WP_iload_n dX11_nightOf_27 rfl ?_
  refine WQ_iadd dX11_nightOf_28 (by omega) (by omega) (fun v4888 hv4888 => ?_)
  refine WQ_ialdr dX11_nightOf_29 (ly_is hy 38 13 rfl) (ly_n hy 38 35 rfl) (by omega) (by omega) (a := 4) (b := 8) (by omega) (by omega) (fun q hq1 hq2 => BT_get hI.1.1 38 4 8 (0) (0) (5) (by decide) q hq1 hq2) (fun v4889 av4889 bv4889 => ?_)
  refine WP_aload_n dX11_nightOf_30 rfl ?_
  refine WP_iload_n dX11_nightOf_31 rfl ?_
  refine WP_callV1 (k := 11) dX11_nightOf_32 ⟨⟨⟨by decide, by decide⟩, zX11_loses⟩, lX11_414, by decide, rfl, vX11_loses.1, vX11_loses.2⟩ (ly_is hy 0 11 rfl) (sm_loses2 hy hr hI da (by omega) (by omega)) (Nat.le_of_ble_eq_true rfl) ?_
  intro r Ia Ja Ra hq
  obtain ⟨⟨ea, eb, ec⟩, v4890, rfl, av4890, bv4890⟩ := hq
  show WP _ _ _ _ (.int _ :: _) _ _ _ _
  rw [ea, eb, ec]
  clear ea eb ec Ia Ja Ra
  refine WP_callV3 (k := 11) dX11_nightOf_35 ⟨⟨⟨by decide, by decide⟩, zX11_behindNight⟩, lX11_398, by decide, rfl, vX11_behindNight.1, vX11_behindNight.2⟩ (ly_is hy 0 11 rfl) (sm_behindNight hy hr hI v4886 v4889 v4890 (by omega) (by omega) (by omega) (by omega) (by omega) (by omega)) (Nat.le_of_ble_eq_true rfl) ?_
  intro r Ia Ja Ra hq
  obtain ⟨⟨ea, eb, ec⟩, v4891, rfl, av4891, bv4891⟩ := hq
  show WP _ _ _ _ (.int _ :: _) _ _ _ _
  rw [ea, eb, ec]
  clear ea eb ec Ia Ja Ra
  refine WQ_iast dX11_nightOf_38 (ly_is hy 38 13 rfl) (ly_n hy 38 35 rfl) (by omega) (by omega) (fun I4892 eI4892 => ?_)
  have hI4892 : MP g n L I4892 := by rw [eI4892]; exact (mp_w hy hI (c := 38) (mi_rr hy hI.1 (c := 38) (0) (3) (0) (0) (60) (by decide) (Or.inl (by decide)) (by rw [cl (n := v4883.toInt.toNat) (by omega)]; omega) (by decide) (fun _ => ⟨by omega, by omega⟩)) (by decide) (by decide) (Or.inl (by decide)))
  have e4893 : I4892 (ad g 0) 1 = L := by rw [eI4892, pp_ne _ _ (Or.inl (ly_ne hy (by decide) (by decide) (by decide)))]; exact e4870
  have e4894 : I4892 (ad g 38) 33 = w4872 := by rw [eI4892, pp_ne _ _ (Or.inr (by rw [cl (x := v4883) (n := v4883.toInt.toNat) (by omega)]; omega))]; exact ew4872
  have e4895 : I4892 (ad g 0) 10 = w4873 := by rw [eI4892, pp_ne _ _ (Or.inl (ly_ne hy (by decide) (by decide) (by decide)))]; exact ew4873
  have e4896 : I4892 (ad g 0) 14 = w4874 := by rw [eI4892, pp_ne _ _ (Or.inl (ly_ne hy (by decide) (by decide) (by decide)))]; exact ew4874
  have e4897 : I4892 (ad g 0) 68 = w4875 := by rw [eI4892, pp_ne _ _ (Or.inl (ly_ne hy (by decide) (by decide) (by decide)))]; exact ew4875
  have e4898 : I4892 (ad g 38) 32 = w4876 := by rw [eI4892, pp_ne _ _ (Or.inr (by rw [cl (x := v4883) (n := v4883.toInt.toNat) (by omega)]; omega))]; exact ew4876
  have fr4899 : fz 49 g [38] I I4892 := by rw [eI4892]; exact fzm_pp hy fr0 (by decide) (by decide)
  clear eI4892
  refine WP_aload_n dX11_nightOf_39 rfl ?_
  refine WQ_bipush (12) (12) dX11_nightOf_40 rfl rfl (fun v4900 hv4900 => ?_)
  refine WP_iload_n dX11_nightOf_42 rfl ?_
  refine WQ_iadd dX11_nightOf_43 (by omega) (by omega) (fun v4901 hv4901 => ?_)
  refine WP_dup2 dX11_nightOf_44 rfl rfl ?_
  refine WQ_ialdu dX11_nightOf_45 (ly_is hy 38 13 rfl) (ly_n hy 38 35 rfl) (by omega) (by omega) (fun v4902 => ?_)
  refine WP_iload dX11_nightOf_46 rfl ?_
  refine WP_aload_n dX11_nightOf_48 rfl ?_
  refine WP_getr dX11_nightOf_49 fX11_235 rfl (ly_is hy 0 11 rfl) (rf hr 0 26 8 (by decide)) ?_
  refine WP_iload_n dX11_nightOf_52 rfl ?_
  refine WQ_iald dX11_nightOf_53 (ly_is hy 8 13 rfl) (ly_n hy 8 4 rfl) (by omega) (by omega) (fun q hq => BT_get hI4892.1.1 8 0 4 (0) (0) (99) (by decide) q (Nat.zero_le _) hq) (fun v4903 av4903 bv4903 ev4903 => ?_)
  clear ev4903
  refine WQ_imulb (999) (99) dX11_nightOf_54 ⟨by omega, by omega⟩ ⟨by omega, by omega⟩ (by decide) (fun v4904 pv4904 av4904 bv4904 cv4904 => ?_)
  refine WQ_iaddu dX11_nightOf_55 (fun v4905 => ?_)
  refine WQ_iast dX11_nightOf_56 (ly_is hy 38 13 rfl) (ly_n hy 38 35 rfl) (by omega) (by omega) (fun I4906 eI4906 => ?_)
  have hI4906 : MP g n L I4906 := by rw [eI4906]; exact (mp_w hy hI4892 (c := 38) (mi_rr hy hI4892.1 (c := 38) (12) (15) (0) (0) (0) (by decide) (Or.inl (by decide)) (by rw [cl (n := v4901.toInt.toNat) (by omega)]; omega) (by decide) (fun h => absurd h (by decide))) (by decide) (by decide) (Or.inl (by decide)))
  have e4907 : I4906 (ad g 0) 1 = L := by rw [eI4906, pp_ne _ _ (Or.inl (ly_ne hy (by decide) (by decide) (by decide)))]; exact e4893
  have e4908 : I4906 (ad g 38) 33 = w4872 := by rw [eI4906, pp_ne _ _ (Or.inr (by rw [cl (x := v4901) (n := v4901.toInt.toNat) (by omega)]; omega))]; exact e4894
  have e4909 : I4906 (ad g 0) 10 = w4873 := by rw [eI4906, pp_ne _ _ (Or.inl (ly_ne hy (by decide) (by decide) (by decide)))]; exact e4895
  have e4910 : I4906 (ad g 0) 14 = w4874 := by rw [eI4906, pp_ne _ _ (Or.inl (ly_ne hy (by decide) (by decide) (by decide)))]; exact e4896
  have e4911 : I4906 (ad g 0) 68 = w4875 := by rw [eI4906, pp_ne _ _ (Or.inl (ly_ne hy (by decide) (by decide) (by decide)))]; exact e4897
  have e4912 : I4906 (ad g 38) 32 = w4876 := by rw [eI4906, pp_ne _ _ (Or.inr (by rw [cl (x := v4901) (n := v4901.toInt.toNat) (by omega)]; omega))]; exact e4898
  have fr4913 : fz 49 g [38] I I4906 := by rw [eI4906]; exact fzm_pp hy fr4899 (by decide) (by decide)
  clear eI4906
  refine WP_aload_n dX11_nightOf_57 rfl ?_
  refine WQ_bipush (32) (32) dX11_nightOf_58 rfl rfl (fun v4914 hv4914 => ?_)
  refine WP_dup2 dX11_nightOf_60 rfl rfl ?_
  refine WQ_ialdm (z := 32) dX11_nightOf_61 (ly_is hy 38 13 rfl) (ly_n hy 38 35 rfl) hv4914 (by decide) e4912 ?_
  refine WP_iload dX11_nightOf_62 rfl ?_
  refine WP_aload_n dX11_nightOf_64 rfl ?_
  refine WP_getr dX11_nightOf_65 fX11_235 rfl (ly_is hy 0 11 rfl) (rf hr 0 26 8 (by decide)) ?_
  refine WP_iload_n dX11_nightOf_68 rfl ?_
  refine WQ_iald dX11_nightOf_69 (ly_is hy 8 13 rfl) (ly_n hy 8 4 rfl) (by omega) (by omega) (fun q hq => BT_get hI4906.1.1 8 0 4 (0) (0) (99) (by decide) q (Nat.zero_le _) hq) (fun v4916 av4916 bv4916 ev4916 => ?_)
  clear ev4916
  refine WQ_imulb (999) (99) dX11_nightOf_70 ⟨by omega, by omega⟩ ⟨by omega, by omega⟩ (by decide) (fun v4917 pv4917 av4917 bv4917 cv4917 => ?_)
  refine WQ_iadd dX11_nightOf_71 (by omega) (by omega) (fun v4918 hv4918 => ?_)
  refine WQ_iast dX11_nightOf_72 (ly_is hy 38 13 rfl) (ly_n hy 38 35 rfl) (by omega) (by omega) (fun I4919 fI4919 => ?_)
  have eI4919 := fI4919
  rw [cl (x := v4914) (n := 32) (by omega)] at eI4919
  clear fI4919
  have hI4919 : MP g n L I4919 := by rw [eI4919]; exact (mp_w hy hI4906 (c := 38) (mi_f hy hI4906.1 (c := 38) (0) (23760) (0) (by decide) (Or.inl (by decide)) (by decide) (by omega) (by omega)) (by decide) (by decide) (Or.inl (by decide)))
  have e4920 : I4919 (ad g 0) 1 = L := by rw [eI4919, pp_ne _ _ (Or.inl (ly_ne hy (by decide) (by decide) (by decide)))]; exact e4907
  have e4921 : I4919 (ad g 38) 33 = w4872 := by rw [eI4919, pp_ne _ _ (Or.inr (by decide))]; exact e4908
  have e4922 : I4919 (ad g 0) 10 = w4873 := by rw [eI4919, pp_ne _ _ (Or.inl (ly_ne hy (by decide) (by decide) (by decide)))]; exact e4909
  have e4923 : I4919 (ad g 0) 14 = w4874 := by rw [eI4919, pp_ne _ _ (Or.inl (ly_ne hy (by decide) (by decide) (by decide)))]; exact e4910
  have e4924 : I4919 (ad g 0) 68 = w4875 := by rw [eI4919, pp_ne _ _ (Or.inl (ly_ne hy (by decide) (by decide) (by decide)))]; exact e4911
  have e4925 : I4919 (ad g 38) 32 = v4918 := by rw [eI4919, pp_self]
  have fr4926 : fz 49 g [38] I I4919 := by rw [eI4919]; exact fzm_pp hy fr4913 (by decide) (by decide)
  clear eI4919
  refine WP_aload_n dX11_nightOf_73 rfl ?_
  refine WP_aload_n dX11_nightOf_74 rfl ?_
  refine WQ_iconst (4) (4) dX11_nightOf_75 rfl rfl (fun v4927 hv4927 => ?_)
  refine WP_iload_n dX11_nightOf_76 rfl ?_
  refine WQ_iadd dX11_nightOf_77 (by omega) (by omega) (fun v4928 hv4928 => ?_)
  refine WQ_ialdr dX11_nightOf_78 (ly_is hy 38 13 rfl) (ly_n hy 38 35 rfl) (by omega) (by omega) (a := 4) (b := 8) (by omega) (by omega) (fun q hq1 hq2 => BT_get hI4919.1.1 38 4 8 (0) (0) (5) (by decide) q hq1 hq2) (fun v4929 av4929 bv4929 => ?_)
  refine WP_callV1 (k := 11) dX11_nightOf_79 ⟨⟨⟨by decide, by decide⟩, zX11_leftOf⟩, lX11_420, by decide, rfl, vX11_leftOf.1, vX11_leftOf.2⟩ (ly_is hy 0 11 rfl) (sm_leftOf hy hr hI4919 v4929 (by omega) (by omega)) (Nat.le_of_ble_eq_true rfl) ?_
  intro r Ia Ja Ra hq
  obtain ⟨⟨ea, eb, ec⟩, v4930, rfl, av4930, bv4930⟩ := hq
  show WP _ _ _ _ (.int _ :: _) _ _ _ _
  rw [ea, eb, ec]
  clear ea eb ec Ia Ja Ra
  refine WP_istore (ls' := [(0, _), (1, _), (2, _), (3, _), (4, _), (5, _)]) dX11_nightOf_82 (by decide) rfl ?_
  refine WP_aload_n dX11_nightOf_84 rfl ?_
  refine WQ_bipush (20) (20) dX11_nightOf_85 rfl rfl (fun v4931 hv4931 => ?_)
  refine WP_iload_n dX11_nightOf_87 rfl ?_
  refine WQ_iadd dX11_nightOf_88 (by omega) (by omega) (fun v4932 hv4932 => ?_)
  refine WP_dup2 dX11_nightOf_89 rfl rfl ?_
  refine WQ_ialdu dX11_nightOf_90 (ly_is hy 38 13 rfl) (ly_n hy 38 35 rfl) (by omega) (by omega) (fun v4933 => ?_)
  refine WP_aload_n dX11_nightOf_91 rfl ?_
  refine WQ_iconst (4) (4) dX11_nightOf_92 rfl rfl (fun v4934 hv4934 => ?_)
  refine WP_iload_n dX11_nightOf_93 rfl ?_
  refine WQ_iadd dX11_nightOf_94 (by omega) (by omega) (fun v4935 hv4935 => ?_)
  refine WQ_ialdr dX11_nightOf_95 (ly_is hy 38 13 rfl) (ly_n hy 38 35 rfl) (by omega) (by omega) (a := 4) (b := 8) (by omega) (by omega) (fun q hq1 hq2 => BT_get hI4919.1.1 38 4 8 (0) (0) (5) (by decide) q hq1 hq2) (fun v4936 av4936 bv4936 => ?_)
  refine WP_iload dX11_nightOf_96 rfl ?_
  refine WQ_isub dX11_nightOf_98 (by omega) (by omega) (fun v4937 hv4937 => ?_)
  refine WP_aload_n dX11_nightOf_99 rfl ?_
  refine WP_getr dX11_nightOf_100 fX11_235 rfl (ly_is hy 0 11 rfl) (rf hr 0 26 8 (by decide)) ?_
  refine WP_iload_n dX11_nightOf_103 rfl ?_
  refine WQ_iald dX11_nightOf_104 (ly_is hy 8 13 rfl) (ly_n hy 8 4 rfl) (by omega) (by omega) (fun q hq => BT_get hI4919.1.1 8 0 4 (0) (0) (99) (by decide) q (Nat.zero_le _) hq) (fun v4938 av4938 bv4938 ev4938 => ?_)
  clear ev4938
  refine WQ_imulu dX11_nightOf_105 (fun v4939 => ?_)
  refine WQ_iaddu dX11_nightOf_106 (fun v4940 => ?_)
  refine WQ_iast dX11_nightOf_107 (ly_is hy 38 13 rfl) (ly_n hy 38 35 rfl) (by omega) (by omega) (fun I4941 eI4941 => ?_)
  have hI4941 : MP g n L I4941 := by rw [eI4941]; exact (mp_w hy hI4919 (c := 38) (mi_rr hy hI4919.1 (c := 38) (20) (23) (0) (0) (0) (by decide) (Or.inl (by decide)) (by rw [cl (n := v4932.toInt.toNat) (by omega)]; omega) (by decide) (fun h => absurd h (by decide))) (by decide) (by decide) (Or.inl (by decide)))
  have e4942 : I4941 (ad g 0) 1 = L := by rw [eI4941, pp_ne _ _ (Or.inl (ly_ne hy (by decide) (by decide) (by decide)))]; exact e4920
  have e4943 : I4941 (ad g 38) 33 = w4872 := by rw [eI4941, pp_ne _ _ (Or.inr (by rw [cl (x := v4932) (n := v4932.toInt.toNat) (by omega)]; omega))]; exact e4921
  have e4944 : I4941 (ad g 0) 10 = w4873 := by rw [eI4941, pp_ne _ _ (Or.inl (ly_ne hy (by decide) (by decide) (by decide)))]; exact e4922
  have e4945 : I4941 (ad g 0) 14 = w4874 := by rw [eI4941, pp_ne _ _ (Or.inl (ly_ne hy (by decide) (by decide) (by decide)))]; exact e4923
  have e4946 : I4941 (ad g 0) 68 = w4875 := by rw [eI4941, pp_ne _ _ (Or.inl (ly_ne hy (by decide) (by decide) (by decide)))]; exact e4924
  have e4947 : I4941 (ad g 38) 32 = v4918 := by rw [eI4941, pp_ne _ _ (Or.inr (by rw [cl (x := v4932) (n := v4932.toInt.toNat) (by omega)]; omega))]; exact e4925
  have fr4948 : fz 49 g [38] I I4941 := by rw [eI4941]; exact fzm_pp hy fr4926 (by decide) (by decide)
  clear eI4941
  refine WP_aload_n dX11_nightOf_108 rfl ?_
  refine WQ_iconst (4) (4) dX11_nightOf_109 rfl rfl (fun v4949 hv4949 => ?_)
  refine WP_iload_n dX11_nightOf_110 rfl ?_
  refine WQ_iadd dX11_nightOf_111 (by omega) (by omega) (fun v4950 hv4950 => ?_)
  refine WP_iload dX11_nightOf_112 rfl ?_
  refine WQ_iast dX11_nightOf_114 (ly_is hy 38 13 rfl) (ly_n hy 38 35 rfl) (by omega) (by omega) (fun I4951 eI4951 => ?_)
  have hI4951 : MP g n L I4951 := by rw [eI4951]; exact (mp_w hy hI4941 (c := 38) (mi_rr hy hI4941.1 (c := 38) (4) (7) (0) (0) (5) (by decide) (Or.inl (by decide)) (by rw [cl (n := v4950.toInt.toNat) (by omega)]; omega) (by decide) (fun _ => ⟨by omega, by omega⟩)) (by decide) (by decide) (Or.inl (by decide)))
  have e4952 : I4951 (ad g 0) 1 = L := by rw [eI4951, pp_ne _ _ (Or.inl (ly_ne hy (by decide) (by decide) (by decide)))]; exact e4942
  have e4953 : I4951 (ad g 38) 33 = w4872 := by rw [eI4951, pp_ne _ _ (Or.inr (by rw [cl (x := v4950) (n := v4950.toInt.toNat) (by omega)]; omega))]; exact e4943
  have e4954 : I4951 (ad g 0) 10 = w4873 := by rw [eI4951, pp_ne _ _ (Or.inl (ly_ne hy (by decide) (by decide) (by decide)))]; exact e4944
  have e4955 : I4951 (ad g 0) 14 = w4874 := by rw [eI4951, pp_ne _ _ (Or.inl (ly_ne hy (by decide) (by decide) (by decide)))]; exact e4945
  have e4956 : I4951 (ad g 0) 68 = w4875 := by rw [eI4951, pp_ne _ _ (Or.inl (ly_ne hy (by decide) (by decide) (by decide)))]; exact e4946
  have e4957 : I4951 (ad g 38) 32 = v4918 := by rw [eI4951, pp_ne _ _ (Or.inr (by rw [cl (x := v4950) (n := v4950.toInt.toNat) (by omega)]; omega))]; exact e4947
  have fr4958 : fz 49 g [38] I I4951 := by rw [eI4951]; exact fzm_pp hy fr4948 (by decide) (by decide)
  clear eI4951
  exact WP_vret dX11_nightOf_115 rfl ⟨⟨hI4951, rfl, fr4958, ⟨(by rw [e4957, ew4876]; omega), (by rw [e4953, ew4872] <;> exact (eq32 _ _).mpr (by omega)), (by rw [e4954, ew4873] <;> exact (eq32 _ _).mpr (by omega)), (by rw [e4955, ew4874] <;> exact (eq32 _ _).mpr (by omega)), (by rw [e4956, ew4875] <;> exact (eq32 _ _).mpr (by omega))⟩⟩, rfl⟩
set_option maxHeartbeats 4000000 in
set_option maxRecDepth 100000 in
theorem sm_openChestx_38 {g : GG} {n : Int} {L : Int32} (hy : Ly g)  {I : pI} {J : pJ} {R : pR} (hr : Rf g R) (hI : MP g n L I)   (hn : 0 ≤ n ∧ n ≤ 40000) (hb : 0 ≤ (I (ad g 38) 32).toInt) : SP g mX11_openChest [.ref (ad g 0), .ref (ad g 38)] I J R (fun r I' J' R' => (MP g n L I' ∧ R' = R ∧ fz 49 g [38] I I' ∧ ((I' (ad g 38) 32).toInt ≤ (I (ad g 38) 32).toInt) ∧ I' (ad g 38) 33 = I (ad g 38) 33 ∧ I' (ad g 0) 10 = I (ad g 0) 10 ∧ I' (ad g 0) 14 = I (ad g 0) 14 ∧ I' (ad g 0) 68 = I (ad g 0) 68) ∧ r = none) := by
  refine SP_of ⟨by decide, rfl⟩ (Nat.le_of_ble_eq_true rfl) ?_
  have e4959 : I (ad g 0) 1 = L := hI.1.2
  have b4960 := BT_get hI.1.1 0 1 2 (0) (0) (900) (by decide) 1 (by decide) (by decide)
  rw [e4959] at b4960
  have fr0 : fz 49 g [38] I I := fz_rf
  obtain ⟨w4961, ew4961⟩ : ∃ w : Int32, I (ad g 38) 33 = w := ⟨_, rfl⟩
  have bw4961 := BT_get hI.1.1 38 33 34 (0) (1) (0) (by decide) 33 (by decide) (by decide)
  rw [ew4961] at bw4961
  obtain ⟨w4962, ew4962⟩ : ∃ w : Int32, I (ad g 0) 10 = w := ⟨_, rfl⟩
  have bw4962 := BT_get hI.1.1 0 10 11 (0) (0) (4) (by decide) 10 (by decide) (by decide)
  rw [ew4962] at bw4962
  obtain ⟨w4963, ew4963⟩ : ∃ w : Int32, I (ad g 0) 14 = w := ⟨_, rfl⟩
  have bw4963 := BT_get hI.1.1 0 14 15 (-1) (0) (2) (by decide) 14 (by decide) (by decide)
  rw [ew4963] at bw4963
  obtain ⟨w4964, ew4964⟩ : ∃ w : Int32, I (ad g 0) 68 = w := ⟨_, rfl⟩
  obtain ⟨w4965, ew4965⟩ : ∃ w : Int32, I (ad g 38) 32 = w := ⟨_, rfl⟩
  have bw4965 := BT_get hI.1.1 38 32 33 (0) (23760) (0) (by decide) 32 (by decide) (by decide)
  rw [ew4965] at bw4965
  rw [ew4965] at hb
  refine WP_aload_n dX11_openChest_0 rfl ?_
  refine WQ_geti dX11_openChest_1 fX11_221 rfl (ly_is hy 0 11 rfl) (BT_get hI.1.1 0 13 14 (-1) (0) (3) (by decide) 13 (by decide) (by decide)) (fun v4966 ev4966 av4966 bv4966 => ?_)
  refine WQ_iconst (-1) (-1) dX11_openChest_4 rfl rfl (fun v4967 hv4967 => ?_)
  refine WQ_icmp_ne 9 dX11_openChest_5 rfl (fun c4967 => ?_) (fun c4967 => ?_)
  · have kc := pc_lt hI
    rw [ev4966, ew4962] at kc
    refine WP_aload_n dX11_openChest_9 rfl ?_
    refine WQ_bipush (32) (32) dX11_openChest_10 rfl rfl (fun v4969 hv4969 => ?_)
    refine WQ_ialdm (z := 32) dX11_openChest_12 (ly_is hy 38 13 rfl) (ly_n hy 38 35 rfl) hv4969 (by decide) ew4965 ?_
    refine WP_aload_n dX11_openChest_13 rfl ?_
    refine WP_getr dX11_openChest_14 fX11_235 rfl (ly_is hy 0 11 rfl) (rf hr 0 26 8 (by decide)) ?_
    refine WP_aload_n dX11_openChest_17 rfl ?_
    refine WQ_getim dX11_openChest_18 fX11_221 rfl (ly_is hy 0 11 rfl) ev4966 ?_
    refine WQ_ialdq (q := v4966.toInt.toNat) dX11_openChest_21 (ly_is hy 8 13 rfl) (ly_n hy 8 4 rfl) (by omega) (by omega) (by omega) (pp_get hI (by omega) (by rw [ew4962]; omega)) (fun v4971 av4971 bv4971 ev4971 => ?_)
    refine WQ_idivb dX11_openChest_22 (by omega) (by omega) (fun v4972 pv4972 av4972 bv4972 cv4972 => ?_)
    refine WP_istore_n (ls' := [(0, _), (1, _), (2, _)]) dX11_openChest_23 (by decide) rfl ?_
    refine WP_aload_n dX11_openChest_24 rfl ?_
    refine WQ_bipush (32) (32) dX11_openChest_25 rfl rfl (fun v4973 hv4973 => ?_)
    refine WP_dup2 dX11_openChest_27 rfl rfl ?_
    refine WQ_ialdm (z := 32) dX11_openChest_28 (ly_is hy 38 13 rfl) (ly_n hy 38 35 rfl) hv4973 (by decide) ew4965 ?_
    refine WP_iload_n dX11_openChest_29 rfl ?_
    refine WP_aload_n dX11_openChest_30 rfl ?_
    refine WP_getr dX11_openChest_31 fX11_235 rfl (ly_is hy 0 11 rfl) (rf hr 0 26 8 (by decide)) ?_
    refine WP_aload_n dX11_openChest_34 rfl ?_
    refine WQ_getim dX11_openChest_35 fX11_221 rfl (ly_is hy 0 11 rfl) ev4966 ?_
    refine WQ_ialde dX11_openChest_38 (ly_is hy 8 13 rfl) (ly_n hy 8 4 rfl) (by omega) (by omega) ev4971 ?_
    have knv4976 : 0 ≤ v4972.toInt * v4971.toInt := Int.mul_nonneg (by omega) (by omega)
    refine WQ_imulx dX11_openChest_39 (by omega) (by omega) (fun v4976 pv4976 => ?_)
    refine WQ_isub dX11_openChest_40 (by omega) (by omega) (fun v4977 hv4977 => ?_)
    refine WQ_iast dX11_openChest_41 (ly_is hy 38 13 rfl) (ly_n hy 38 35 rfl) (by omega) (by omega) (fun I4978 fI4978 => ?_)
    have eI4978 := fI4978
    rw [cl (x := v4973) (n := 32) (by omega)] at eI4978
    clear fI4978
    have hI4978 : MP g n L I4978 := by rw [eI4978]; exact (mp_w hy hI (c := 38) (mi_f hy hI.1 (c := 38) (0) (23760) (0) (by decide) (Or.inl (by decide)) (by decide) (by omega) (by omega)) (by decide) (by decide) (Or.inl (by decide)))
    have e4979 : I4978 (ad g 0) 1 = L := by rw [eI4978, pp_ne _ _ (Or.inl (ly_ne hy (by decide) (by decide) (by decide)))]; exact e4959
    have e4980 : I4978 (ad g 38) 33 = w4961 := by rw [eI4978, pp_ne _ _ (Or.inr (by decide))]; exact ew4961
    have e4981 : I4978 (ad g 0) 10 = w4962 := by rw [eI4978, pp_ne _ _ (Or.inl (ly_ne hy (by decide) (by decide) (by decide)))]; exact ew4962
    have e4982 : I4978 (ad g 0) 14 = w4963 := by rw [eI4978, pp_ne _ _ (Or.inl (ly_ne hy (by decide) (by decide) (by decide)))]; exact ew4963
    have e4983 : I4978 (ad g 0) 68 = w4964 := by rw [eI4978, pp_ne _ _ (Or.inl (ly_ne hy (by decide) (by decide) (by decide)))]; exact ew4964
    have e4984 : I4978 (ad g 0) 13 = v4966 := by rw [eI4978, pp_ne _ _ (Or.inl (ly_ne hy (by decide) (by decide) (by decide)))]; exact ev4966
    have e4985 : I4978 (ad g 8) v4966.toNatClampNeg = v4971 := by rw [eI4978, pp_ne _ _ (Or.inl (ly_ne hy (by decide) (by decide) (by decide)))]; exact ev4971
    have e4986 : I4978 (ad g 38) 32 = v4977 := by rw [eI4978, pp_self]
    have fr4987 : fz 49 g [38] I I4978 := by rw [eI4978]; exact fzm_pp hy fr0 (by decide) (by decide)
    clear eI4978
    refine WP_aload_n dX11_openChest_42 rfl ?_
    refine WQ_bipush (24) (24) dX11_openChest_43 rfl rfl (fun v4988 hv4988 => ?_)
    refine WP_aload_n dX11_openChest_45 rfl ?_
    refine WQ_getim dX11_openChest_46 fX11_221 rfl (ly_is hy 0 11 rfl) e4984 ?_
    refine WQ_iadd dX11_openChest_49 (by omega) (by omega) (fun v4989 hv4989 => ?_)
    refine WP_dup2 dX11_openChest_50 rfl rfl ?_
    refine WQ_ialdu dX11_openChest_51 (ly_is hy 38 13 rfl) (ly_n hy 38 35 rfl) (by omega) (by omega) (fun v4990 => ?_)
    refine WP_iload_n dX11_openChest_52 rfl ?_
    refine WP_aload_n dX11_openChest_53 rfl ?_
    refine WP_getr dX11_openChest_54 fX11_235 rfl (ly_is hy 0 11 rfl) (rf hr 0 26 8 (by decide)) ?_
    refine WP_aload_n dX11_openChest_57 rfl ?_
    refine WQ_getim dX11_openChest_58 fX11_221 rfl (ly_is hy 0 11 rfl) e4984 ?_
    refine WQ_ialde dX11_openChest_61 (ly_is hy 8 13 rfl) (ly_n hy 8 4 rfl) (by omega) (by omega) e4985 ?_
    have knv4992 : 0 ≤ v4972.toInt * v4971.toInt := Int.mul_nonneg (by omega) (by omega)
    refine WQ_imulx dX11_openChest_62 (by omega) (by omega) (fun v4992 pv4992 => ?_)
    refine WQ_iaddu dX11_openChest_63 (fun v4993 => ?_)
    refine WQ_iast dX11_openChest_64 (ly_is hy 38 13 rfl) (ly_n hy 38 35 rfl) (by omega) (by omega) (fun I4994 eI4994 => ?_)
    have hI4994 : MP g n L I4994 := by rw [eI4994]; exact (mp_w hy hI4978 (c := 38) (mi_rr hy hI4978.1 (c := 38) (24) (27) (0) (0) (0) (by decide) (Or.inl (by decide)) (by rw [cl (n := v4989.toInt.toNat) (by omega)]; omega) (by decide) (fun h => absurd h (by decide))) (by decide) (by decide) (Or.inl (by decide)))
    have e4995 : I4994 (ad g 0) 1 = L := by rw [eI4994, pp_ne _ _ (Or.inl (ly_ne hy (by decide) (by decide) (by decide)))]; exact e4979
    have e4996 : I4994 (ad g 38) 33 = w4961 := by rw [eI4994, pp_ne _ _ (Or.inr (by rw [cl (x := v4989) (n := v4989.toInt.toNat) (by omega)]; omega))]; exact e4980
    have e4997 : I4994 (ad g 0) 10 = w4962 := by rw [eI4994, pp_ne _ _ (Or.inl (ly_ne hy (by decide) (by decide) (by decide)))]; exact e4981
    have e4998 : I4994 (ad g 0) 14 = w4963 := by rw [eI4994, pp_ne _ _ (Or.inl (ly_ne hy (by decide) (by decide) (by decide)))]; exact e4982
    have e4999 : I4994 (ad g 0) 68 = w4964 := by rw [eI4994, pp_ne _ _ (Or.inl (ly_ne hy (by decide) (by decide) (by decide)))]; exact e4983
    have e5000 : I4994 (ad g 0) 13 = v4966 := by rw [eI4994, pp_ne _ _ (Or.inl (ly_ne hy (by decide) (by decide) (by decide)))]; exact e4984
    have e5001 : I4994 (ad g 8) v4966.toNatClampNeg = v4971 := by rw [eI4994, pp_ne _ _ (Or.inl (ly_ne hy (by decide) (by decide) (by decide)))]; exact e4985
    have e5002 : I4994 (ad g 38) 32 = v4977 := by rw [eI4994, pp_ne _ _ (Or.inr (by rw [cl (x := v4989) (n := v4989.toInt.toNat) (by omega)]; omega))]; exact e4986
    have fr5003 : fz 49 g [38] I I4994 := by rw [eI4994]; exact fzm_pp hy fr4987 (by decide) (by decide)
    clear eI4994
    refine WP_aload_n dX11_openChest_65 rfl ?_
    refine WQ_iconst (0) (0) dX11_openChest_66 rfl rfl (fun v5004 hv5004 => ?_)
    refine WP_aload_n dX11_openChest_67 rfl ?_
    refine WQ_getim dX11_openChest_68 fX11_221 rfl (ly_is hy 0 11 rfl) e5000 ?_
    refine WQ_iadd dX11_openChest_71 (by omega) (by omega) (fun v5005 hv5005 => ?_)
    refine WQ_bipush (60) (60) dX11_openChest_72 rfl rfl (fun v5006 hv5006 => ?_)
    refine WP_aload_n dX11_openChest_74 rfl ?_
    refine WQ_iconst (0) (0) dX11_openChest_75 rfl rfl (fun v5007 hv5007 => ?_)
    refine WP_aload_n dX11_openChest_76 rfl ?_
    refine WQ_getim dX11_openChest_77 fX11_221 rfl (ly_is hy 0 11 rfl) e5000 ?_
    refine WQ_iadd dX11_openChest_80 (by omega) (by omega) (fun v5008 hv5008 => ?_)
    refine WQ_ialdr dX11_openChest_81 (ly_is hy 38 13 rfl) (ly_n hy 38 35 rfl) (by omega) (by omega) (a := 0) (b := 4) (by omega) (by omega) (fun q hq1 hq2 => BT_get hI4994.1.1 38 0 4 (0) (0) (60) (by decide) q hq1 hq2) (fun v5009 av5009 bv5009 => ?_)
    refine WP_iload_n dX11_openChest_82 rfl ?_
    refine WQ_iadd dX11_openChest_83 (by omega) (by omega) (fun v5010 hv5010 => ?_)
    refine WQ_min dX11_openChest_84 lX11_417 ⟨by decide, Nat.le_of_ble_eq_true rfl⟩ (fun v5011 av5011 bv5011 cv5011 => ?_)
    refine WQ_iast dX11_openChest_87 (ly_is hy 38 13 rfl) (ly_n hy 38 35 rfl) (by omega) (by omega) (fun I5012 eI5012 => ?_)
    have hI5012 : MP g n L I5012 := by rw [eI5012]; exact (mp_w hy hI4994 (c := 38) (mi_rr hy hI4994.1 (c := 38) (0) (3) (0) (0) (60) (by decide) (Or.inl (by decide)) (by rw [cl (n := v5005.toInt.toNat) (by omega)]; omega) (by decide) (fun _ => ⟨by omega, by omega⟩)) (by decide) (by decide) (Or.inl (by decide)))
    have e5013 : I5012 (ad g 0) 1 = L := by rw [eI5012, pp_ne _ _ (Or.inl (ly_ne hy (by decide) (by decide) (by decide)))]; exact e4995
    have e5014 : I5012 (ad g 38) 33 = w4961 := by rw [eI5012, pp_ne _ _ (Or.inr (by rw [cl (x := v5005) (n := v5005.toInt.toNat) (by omega)]; omega))]; exact e4996
    have e5015 : I5012 (ad g 0) 10 = w4962 := by rw [eI5012, pp_ne _ _ (Or.inl (ly_ne hy (by decide) (by decide) (by decide)))]; exact e4997
    have e5016 : I5012 (ad g 0) 14 = w4963 := by rw [eI5012, pp_ne _ _ (Or.inl (ly_ne hy (by decide) (by decide) (by decide)))]; exact e4998
    have e5017 : I5012 (ad g 0) 68 = w4964 := by rw [eI5012, pp_ne _ _ (Or.inl (ly_ne hy (by decide) (by decide) (by decide)))]; exact e4999
    have e5018 : I5012 (ad g 0) 13 = v4966 := by rw [eI5012, pp_ne _ _ (Or.inl (ly_ne hy (by decide) (by decide) (by decide)))]; exact e5000
    have e5019 : I5012 (ad g 8) v4966.toNatClampNeg = v4971 := by rw [eI5012, pp_ne _ _ (Or.inl (ly_ne hy (by decide) (by decide) (by decide)))]; exact e5001
    have e5020 : I5012 (ad g 38) 32 = v4977 := by rw [eI5012, pp_ne _ _ (Or.inr (by rw [cl (x := v5005) (n := v5005.toInt.toNat) (by omega)]; omega))]; exact e5002
    have fr5021 : fz 49 g [38] I I5012 := by rw [eI5012]; exact fzm_pp hy fr5003 (by decide) (by decide)
    clear eI5012
    exact WP_vret dX11_openChest_88 rfl ⟨⟨hI5012, rfl, fr5021, ⟨(by rw [e5020, ew4965]; omega), (by rw [e5014, ew4961] <;> exact (eq32 _ _).mpr (by omega)), (by rw [e5015, ew4962] <;> exact (eq32 _ _).mpr (by omega)), (by rw [e5016, ew4963] <;> exact (eq32 _ _).mpr (by omega)), (by rw [e5017, ew4964] <;> exact (eq32 _ _).mpr (by omega))⟩⟩, rfl⟩
  · exact WP_vret dX11_openChest_8 rfl ⟨⟨hI, rfl, fr0, ⟨(by omega), rfl, rfl, rfl, rfl⟩⟩, rfl⟩
set_option maxHeartbeats 4000000 in
set_option maxRecDepth 100000 in
theorem sm_dayOf_38 {g : GG} {n : Int} {L : Int32} (hy : Ly g)  {I : pI} {J : pJ} {R : pR} (hr : Rf g R) (hI : MP g n L I)   (hn : 0 ≤ n ∧ n ≤ 40000) (hb : (I (ad g 38) 32).toInt ≤ 23760 * n + 0 - 23760 ∧ (I (ad g 38) 33).toInt ≤ n + 0 - 1) : SP g mX11_dayOf [.ref (ad g 0), .ref (ad g 38)] I J R (fun r I' J' R' => (MP g n L I' ∧ R' = R ∧ fz 49 g [0, 35, 36, 37, 40, 41, 38] I I' ∧ ((I' (ad g 38) 32).toInt ≤ (I (ad g 38) 32).toInt + 23760 ∧ (I' (ad g 38) 33).toInt = (I (ad g 38) 33).toInt + 1) ∧ I' (ad g 0) 10 = I (ad g 0) 10 ∧ I' (ad g 0) 14 = I (ad g 0) 14 ∧ I' (ad g 0) 68 = I (ad g 0) 68) ∧ ∃ v : Int64, r = some (.long v)) := by
  refine SP_of ⟨by decide, rfl⟩ (Nat.le_of_ble_eq_true rfl) ?_
  have e5022 : I (ad g 0) 1 = L := hI.1.2
  have b5023 := BT_get hI.1.1 0 1 2 (0) (0) (900) (by decide) 1 (by decide) (by decide)
  rw [e5022] at b5023
  have fr0 : fz 49 g [0, 35, 36, 37, 40, 41, 38] I I := fz_rf
  obtain ⟨w5024, ew5024⟩ : ∃ w : Int32, I (ad g 0) 10 = w := ⟨_, rfl⟩
  have bw5024 := BT_get hI.1.1 0 10 11 (0) (0) (4) (by decide) 10 (by decide) (by decide)
  rw [ew5024] at bw5024
  obtain ⟨w5025, ew5025⟩ : ∃ w : Int32, I (ad g 0) 14 = w := ⟨_, rfl⟩
  have bw5025 := BT_get hI.1.1 0 14 15 (-1) (0) (2) (by decide) 14 (by decide) (by decide)
  rw [ew5025] at bw5025
  obtain ⟨w5026, ew5026⟩ : ∃ w : Int32, I (ad g 0) 68 = w := ⟨_, rfl⟩
  obtain ⟨w5027, ew5027⟩ : ∃ w : Int32, I (ad g 38) 32 = w := ⟨_, rfl⟩
  have bw5027 := BT_get hI.1.1 38 32 33 (0) (23760) (0) (by decide) 32 (by decide) (by decide)
  rw [ew5027] at bw5027
  obtain ⟨w5028, ew5028⟩ : ∃ w : Int32, I (ad g 38) 33 = w := ⟨_, rfl⟩
  have bw5028 := BT_get hI.1.1 38 33 34 (0) (1) (0) (by decide) 33 (by decide) (by decide)
  rw [ew5028] at bw5028
  rw [ew5027, ew5028] at hb
  refine WP_aload_n dX11_dayOf_0 rfl ?_
  refine WQ_bipush (33) (33) dX11_dayOf_1 rfl rfl (fun v5029 hv5029 => ?_)
  refine WQ_ialdm (z := 33) dX11_dayOf_3 (ly_is hy 38 13 rfl) (ly_n hy 38 35 rfl) hv5029 (by decide) ew5028 ?_
  refine WQ_bipush (7) (7) dX11_dayOf_4 rfl rfl (fun v5031 hv5031 => ?_)
  refine WQ_iremk (7) dX11_dayOf_6 hv5031 (by decide) (by omega) (fun v5032 hv5032 => ?_)
  refine WP_istore_n (ls' := [(0, _), (1, _), (2, _)]) dX11_dayOf_7 (by decide) rfl ?_
  refine WP_lconst (0) dX11_dayOf_8 rfl ?_
  obtain ⟨l5033, hl5033, el5033⟩ : ∃ v : Int64, v.toInt = 0 ∧ (0 : Int64) = v := ⟨_, rfl, rfl⟩
  rw [el5033]; clear el5033
  refine WP_lstore_n (ls' := [(0, _), (1, _), (2, _), (3, _)]) dX11_dayOf_9 (by decide) rfl ?_
  refine WP_iload_n dX11_dayOf_10 rfl ?_
  refine WQ_if_ne 19 dX11_dayOf_11 rfl (fun c5033 => ?_) (fun c5033 => ?_)
  · refine WQ_iconst (0) (0) dX11_dayOf_19 rfl rfl (fun v5035 hv5035 => ?_)
    refine WP_istore (ls' := [(0, _), (1, _), (2, _), (3, _), (5, _)]) dX11_dayOf_20 (by decide) rfl ?_
    have lp22_5043 : ∀ (mz : Nat) (i5036 : Int32) (I5037 : pI) (J5038 : pJ), MP g n L I5037 → fz 49 g [0, 35, 36, 37, 40, 41, 38] I I5037 → ∀ (w5039 : Int32), I5037 (ad g 38) 32 = w5039 → ∀ (w5040 : Int32), I5037 (ad g 38) 33 = w5040 → ∀ (w5041 : Int32), I5037 (ad g 0) 10 = w5041 → ∀ (w5042 : Int32), I5037 (ad g 0) 14 = w5042 → ∀ (w5043 : Int32), I5037 (ad g 0) 68 = w5043 → 0 ≤ i5036.toInt → i5036.toInt ≤ 3 → w5040.toInt = w5028.toInt → w5041.toInt = w5024.toInt → w5042.toInt = w5025.toInt → w5043.toInt = w5026.toInt → w5039.toInt ≤ w5027.toInt → (4 - i5036.toInt).toNat < mz → WP g mX11_dayOf 22 [(0, .ref (ad g 0)), (1, .ref (ad g 38)), (2, .int v5032), (3, .long l5033), (5, .int i5036)] [] I5037 J5038 R (fun r I' J' R' => (MP g n L I' ∧ R' = R ∧ fz 49 g [0, 35, 36, 37, 40, 41, 38] I I' ∧ ((I' (ad g 38) 32).toInt ≤ (I (ad g 38) 32).toInt + 23760 ∧ (I' (ad g 38) 33).toInt = (I (ad g 38) 33).toInt + 1) ∧ I' (ad g 0) 10 = I (ad g 0) 10 ∧ I' (ad g 0) 14 = I (ad g 0) 14 ∧ I' (ad g 0) 68 = I (ad g 0) 68) ∧ ∃ v : Int64, r = some (.long v)) := by
      intro mz
      induction mz with
      | zero =>
        intro i5036 I5037 J5038 hI5037 fiI5037 w5039 ew5039 w5040 ew5040 w5041 ew5041 w5042 ew5042 w5043 ew5043 ai5036 bi5036 j0_I5037 j1_I5037 j2_I5037 j3_I5037 j4_I5037 hmlp22_5043
        exact absurd hmlp22_5043 (Nat.not_lt_zero _)
      | succ mz ihlp22_5043 =>
        intro i5036 I5037 J5038 hI5037 fiI5037 w5039 ew5039 w5040 ew5040 w5041 ew5041 w5042 ew5042 w5043 ew5043 ai5036 bi5036 j0_I5037 j1_I5037 j2_I5037 j3_I5037 j4_I5037 hmlp22_5043
        have bw5039 := BT_get hI5037.1.1 38 32 33 (0) (23760) (0) (by decide) 32 (by decide) (by decide)
        rw [ew5039] at bw5039
        have bw5040 := BT_get hI5037.1.1 38 33 34 (0) (1) (0) (by decide) 33 (by decide) (by decide)
        rw [ew5040] at bw5040
        have bw5041 := BT_get hI5037.1.1 0 10 11 (0) (0) (4) (by decide) 10 (by decide) (by decide)
        rw [ew5041] at bw5041
        have bw5042 := BT_get hI5037.1.1 0 14 15 (-1) (0) (2) (by decide) 14 (by decide) (by decide)
        rw [ew5042] at bw5042
        have e5045 : I5037 (ad g 0) 1 = L := hI5037.1.2
        have b5046 := BT_get hI5037.1.1 0 1 2 (0) (0) (900) (by decide) 1 (by decide) (by decide)
        rw [e5045] at b5046
        refine WP_iload dX11_dayOf_22 rfl ?_
        refine WP_aload_n dX11_dayOf_24 rfl ?_
        refine WQ_geti dX11_dayOf_25 fX11_332 rfl (ly_is hy 0 11 rfl) (BT_get hI5037.1.1 0 11 12 (0) (0) (3) (by decide) 11 (by decide) (by decide)) (fun v5047 ev5047 av5047 bv5047 => ?_)
        refine WQ_icmp_ge 85 dX11_dayOf_28 rfl (fun c5047 => ?_) (fun c5047 => ?_)
        · refine WQ_iconst (0) (0) dX11_dayOf_85 rfl rfl (fun v5049 hv5049 => ?_)
          refine WP_istore (ls' := [(0, _), (1, _), (2, _), (3, _), (5, _)]) dX11_dayOf_86 (by decide) rfl ?_
          have lp88_5058 : ∀ (mz : Nat) (l5050 : Int64) (i5051 : Int32) (I5052 : pI) (J5053 : pJ), MP g n L I5052 → fz 49 g [0, 35, 36, 37, 40, 41, 38] I I5052 → ∀ (w5054 : Int32), I5052 (ad g 38) 32 = w5054 → ∀ (w5055 : Int32), I5052 (ad g 38) 33 = w5055 → ∀ (w5056 : Int32), I5052 (ad g 0) 10 = w5056 → ∀ (w5057 : Int32), I5052 (ad g 0) 14 = w5057 → ∀ (w5058 : Int32), I5052 (ad g 0) 68 = w5058 → 0 ≤ i5051.toInt → i5051.toInt ≤ 4 → w5055.toInt = w5028.toInt → w5056.toInt = w5024.toInt → w5057.toInt = w5025.toInt → w5058.toInt = w5026.toInt → w5054.toInt ≤ w5027.toInt → (5 - i5051.toInt).toNat < mz → WP g mX11_dayOf 88 [(0, .ref (ad g 0)), (1, .ref (ad g 38)), (2, .int v5032), (3, .long l5050), (5, .int i5051)] [] I5052 J5053 R (fun r I' J' R' => (MP g n L I' ∧ R' = R ∧ fz 49 g [0, 35, 36, 37, 40, 41, 38] I I' ∧ ((I' (ad g 38) 32).toInt ≤ (I (ad g 38) 32).toInt + 23760 ∧ (I' (ad g 38) 33).toInt = (I (ad g 38) 33).toInt + 1) ∧ I' (ad g 0) 10 = I (ad g 0) 10 ∧ I' (ad g 0) 14 = I (ad g 0) 14 ∧ I' (ad g 0) 68 = I (ad g 0) 68) ∧ ∃ v : Int64, r = some (.long v)) := by
            intro mz
            induction mz with
            | zero =>
              intro l5050 i5051 I5052 J5053 hI5052 fiI5052 w5054 ew5054 w5055 ew5055 w5056 ew5056 w5057 ew5057 w5058 ew5058 ai5051 bi5051 j0_I5052 j1_I5052 j2_I5052 j3_I5052 j4_I5052 hmlp88_5058
              exact absurd hmlp88_5058 (Nat.not_lt_zero _)
            | succ mz ihlp88_5058 =>
              intro l5050 i5051 I5052 J5053 hI5052 fiI5052 w5054 ew5054 w5055 ew5055 w5056 ew5056 w5057 ew5057 w5058 ew5058 ai5051 bi5051 j0_I5052 j1_I5052 j2_I5052 j3_I5052 j4_I5052 hmlp88_5058
              have bw5054 := BT_get hI5052.1.1 38 32 33 (0) (23760) (0) (by decide) 32 (by decide) (by decide)
              rw [ew5054] at bw5054
              have bw5055 := BT_get hI5052.1.1 38 33 34 (0) (1) (0) (by decide) 33 (by decide) (by decide)
              rw [ew5055] at bw5055
              have bw5056 := BT_get hI5052.1.1 0 10 11 (0) (0) (4) (by decide) 10 (by decide) (by decide)
              rw [ew5056] at bw5056
              have bw5057 := BT_get hI5052.1.1 0 14 15 (-1) (0) (2) (by decide) 14 (by decide) (by decide)
              rw [ew5057] at bw5057
              have e5060 : I5052 (ad g 0) 1 = L := hI5052.1.2
              have b5061 := BT_get hI5052.1.1 0 1 2 (0) (0) (900) (by decide) 1 (by decide) (by decide)
              rw [e5060] at b5061
              refine WP_iload dX11_dayOf_88 rfl ?_
              refine WP_aload_n dX11_dayOf_90 rfl ?_
              refine WQ_getim dX11_dayOf_91 fX11_329 rfl (ly_is hy 0 11 rfl) ew5056 ?_
              refine WQ_icmp_ge 114 dX11_dayOf_94 rfl (fun c5061 => ?_) (fun c5061 => ?_)
              · refine WQ_iconst (0) (0) dX11_dayOf_114 rfl rfl (fun v5063 hv5063 => ?_)
                refine WP_istore (ls' := [(0, _), (1, _), (2, _), (3, _), (5, _)]) dX11_dayOf_115 (by decide) rfl ?_
                have lp117_5071 : ∀ (mz : Nat) (i5064 : Int32) (I5065 : pI) (J5066 : pJ), MP g n L I5065 → fz 49 g [0, 35, 36, 37, 40, 41, 38] I I5065 → ∀ (w5067 : Int32), I5065 (ad g 38) 32 = w5067 → ∀ (w5068 : Int32), I5065 (ad g 38) 33 = w5068 → ∀ (w5069 : Int32), I5065 (ad g 0) 10 = w5069 → ∀ (w5070 : Int32), I5065 (ad g 0) 14 = w5070 → ∀ (w5071 : Int32), I5065 (ad g 0) 68 = w5071 → 0 ≤ i5064.toInt → i5064.toInt ≤ 4 → w5068.toInt = w5028.toInt → w5069.toInt = w5024.toInt → w5070.toInt = w5025.toInt → w5071.toInt = w5026.toInt → w5067.toInt ≤ w5027.toInt + 5940 * i5064.toInt → (5 - i5064.toInt).toNat < mz → WP g mX11_dayOf 117 [(0, .ref (ad g 0)), (1, .ref (ad g 38)), (2, .int v5032), (3, .long l5050), (5, .int i5064)] [] I5065 J5066 R (fun r I' J' R' => (MP g n L I' ∧ R' = R ∧ fz 49 g [0, 35, 36, 37, 40, 41, 38] I I' ∧ ((I' (ad g 38) 32).toInt ≤ (I (ad g 38) 32).toInt + 23760 ∧ (I' (ad g 38) 33).toInt = (I (ad g 38) 33).toInt + 1) ∧ I' (ad g 0) 10 = I (ad g 0) 10 ∧ I' (ad g 0) 14 = I (ad g 0) 14 ∧ I' (ad g 0) 68 = I (ad g 0) 68) ∧ ∃ v : Int64, r = some (.long v)) := by
                  intro mz
                  induction mz with
                  | zero =>
                    intro i5064 I5065 J5066 hI5065 fiI5065 w5067 ew5067 w5068 ew5068 w5069 ew5069 w5070 ew5070 w5071 ew5071 ai5064 bi5064 j0_I5065 j1_I5065 j2_I5065 j3_I5065 j4_I5065 hmlp117_5071
                    exact absurd hmlp117_5071 (Nat.not_lt_zero _)
                  | succ mz ihlp117_5071 =>
                    intro i5064 I5065 J5066 hI5065 fiI5065 w5067 ew5067 w5068 ew5068 w5069 ew5069 w5070 ew5070 w5071 ew5071 ai5064 bi5064 j0_I5065 j1_I5065 j2_I5065 j3_I5065 j4_I5065 hmlp117_5071
                    have bw5067 := BT_get hI5065.1.1 38 32 33 (0) (23760) (0) (by decide) 32 (by decide) (by decide)
                    rw [ew5067] at bw5067
                    have bw5068 := BT_get hI5065.1.1 38 33 34 (0) (1) (0) (by decide) 33 (by decide) (by decide)
                    rw [ew5068] at bw5068
                    have bw5069 := BT_get hI5065.1.1 0 10 11 (0) (0) (4) (by decide) 10 (by decide) (by decide)
                    rw [ew5069] at bw5069
                    have bw5070 := BT_get hI5065.1.1 0 14 15 (-1) (0) (2) (by decide) 14 (by decide) (by decide)
                    rw [ew5070] at bw5070
                    have e5073 : I5065 (ad g 0) 1 = L := hI5065.1.2
                    have b5074 := BT_get hI5065.1.1 0 1 2 (0) (0) (900) (by decide) 1 (by decide) (by decide)
                    rw [e5073] at b5074
                    refine WP_iload dX11_dayOf_117 rfl ?_
                    refine WP_aload_n dX11_dayOf_119 rfl ?_
                    refine WQ_getim dX11_dayOf_120 fX11_329 rfl (ly_is hy 0 11 rfl) ew5069 ?_
                    refine WQ_icmp_ge 140 dX11_dayOf_123 rfl (fun c5074 => ?_) (fun c5074 => ?_)
                    · refine WP_aload_n dX11_dayOf_140 rfl ?_
                      refine WQ_bipush (33) (33) dX11_dayOf_141 rfl rfl (fun v5076 hv5076 => ?_)
                      refine WP_dup2 dX11_dayOf_143 rfl rfl ?_
                      refine WQ_ialdm (z := 33) dX11_dayOf_144 (ly_is hy 38 13 rfl) (ly_n hy 38 35 rfl) hv5076 (by decide) ew5068 ?_
                      refine WQ_iconst (1) (1) dX11_dayOf_145 rfl rfl (fun v5078 hv5078 => ?_)
                      refine WQ_iadd dX11_dayOf_146 (by omega) (by omega) (fun v5079 hv5079 => ?_)
                      refine WQ_iast dX11_dayOf_147 (ly_is hy 38 13 rfl) (ly_n hy 38 35 rfl) (by omega) (by omega) (fun I5080 fI5080 => ?_)
                      have eI5080 := fI5080
                      rw [cl (x := v5076) (n := 33) (by omega)] at eI5080
                      clear fI5080
                      have hI5080 : MP g n L I5080 := by rw [eI5080]; exact (mp_w hy hI5065 (c := 38) (mi_f hy hI5065.1 (c := 38) (0) (1) (0) (by decide) (Or.inl (by decide)) (by decide) (by omega) (by omega)) (by decide) (by decide) (Or.inl (by decide)))
                      have e5081 : I5080 (ad g 38) 32 = w5067 := by rw [eI5080, pp_ne _ _ (Or.inr (by decide))]; exact ew5067
                      have e5082 : I5080 (ad g 0) 10 = w5069 := by rw [eI5080, pp_ne _ _ (Or.inl (ly_ne hy (by decide) (by decide) (by decide)))]; exact ew5069
                      have e5083 : I5080 (ad g 0) 14 = w5070 := by rw [eI5080, pp_ne _ _ (Or.inl (ly_ne hy (by decide) (by decide) (by decide)))]; exact ew5070
                      have e5084 : I5080 (ad g 0) 68 = w5071 := by rw [eI5080, pp_ne _ _ (Or.inl (ly_ne hy (by decide) (by decide) (by decide)))]; exact ew5071
                      have e5085 : I5080 (ad g 0) 1 = L := by rw [eI5080, pp_ne _ _ (Or.inl (ly_ne hy (by decide) (by decide) (by decide)))]; exact e5073
                      have e5086 : I5080 (ad g 38) 33 = v5079 := by rw [eI5080, pp_self]
                      have fr5087 : fz 49 g [0, 35, 36, 37, 40, 41, 38] I I5080 := by rw [eI5080]; exact fzm_pp hy fiI5065 (by decide) (by decide)
                      clear eI5080
                      refine WP_lload_n dX11_dayOf_148 rfl ?_
                      exact WP_lret dX11_dayOf_149 rfl ⟨⟨hI5080, rfl, fr5087, ⟨(by rw [e5081, ew5027, e5086, ew5028]; omega), (by rw [e5082, ew5024] <;> exact (eq32 _ _).mpr (by omega)), (by rw [e5083, ew5025] <;> exact (eq32 _ _).mpr (by omega)), (by rw [e5084, ew5026] <;> exact (eq32 _ _).mpr (by omega))⟩⟩, _, rfl⟩
                    · refine WP_aload_n dX11_dayOf_126 rfl ?_
                      refine WP_aload_n dX11_dayOf_127 rfl ?_
                      refine WP_iload dX11_dayOf_128 rfl ?_
                      refine WP_iload_n dX11_dayOf_130 rfl ?_
                      refine WP_callV3 (k := 11) dX11_dayOf_131 ⟨⟨⟨by decide, by decide⟩, zX11_nightOf⟩, lX11_478, by decide, rfl, vX11_nightOf.1, vX11_nightOf.2⟩ (ly_is hy 0 11 rfl) (sm_nightOfx_38 hy hr hI5065 i5064 v5032 (by omega) (by omega) (by omega) (by omega) (by omega) (by rw [ew5067]; omega)) (Nat.le_of_ble_eq_true rfl) ?_
                      intro r I5088 J5089 Ra hq
                      obtain ⟨⟨hI5088, ec, fiI5088, ⟨pI5088, sI5088_38_33, sI5088_0_10, sI5088_0_14, sI5088_0_68⟩⟩, rfl⟩ := hq
                      rw [ec]
                      clear ec Ra
                      have fr5090 : fz 49 g [0, 35, 36, 37, 40, 41, 38] I I5088 := fz_tr fiI5065 (fz_mono fiI5088 (by decide))
                      have e5091 : I5088 (ad g 38) 33 = w5068 := by rw [sI5088_38_33]; exact ew5068
                      have e5092 : I5088 (ad g 0) 10 = w5069 := by rw [sI5088_0_10]; exact ew5069
                      have e5093 : I5088 (ad g 0) 14 = w5070 := by rw [sI5088_0_14]; exact ew5070
                      have e5094 : I5088 (ad g 0) 68 = w5071 := by rw [sI5088_0_68]; exact ew5071
                      have e5095 : I5088 (ad g 0) 1 = L := hI5088.1.2
                      have b5096 := BT_get hI5088.1.1 0 1 2 (0) (0) (900) (by decide) 1 (by decide) (by decide)
                      rw [e5095] at b5096
                      obtain ⟨w5097, ew5097⟩ : ∃ w : Int32, I5088 (ad g 38) 32 = w := ⟨_, rfl⟩
                      have bw5097 := BT_get hI5088.1.1 38 32 33 (0) (23760) (0) (by decide) 32 (by decide) (by decide)
                      rw [ew5097] at bw5097
                      rw [ew5097, ew5067] at pI5088
                      refine WP_iinc (ls' := [(0, _), (1, _), (2, _), (3, _), (5, _)]) dX11_dayOf_134 rfl (by decide) rfl ?_
                      have hv5098 : (i5064 + Int32.ofInt (1)).toInt = i5064.toInt + (1) := ia_n rfl (by omega) (by omega)
                      generalize i5064 + Int32.ofInt (1) = v5098 at hv5098 ⊢
                      refine WP_goto 117 dX11_dayOf_137 rfl ?_
                      exact WP_sub (fc rfl (fc rfl (fc rfl (fc rfl (fc rfl fn))))) (ihlp117_5071 v5098 I5088 J5089 hI5088 fr5090 w5097 ew5097 w5068 e5091 w5069 e5092 w5070 e5093 w5071 e5094 (by omega) (by omega) (by omega) (by omega) (by omega) (by omega) (by omega) (by omega))
                exact WP_sub (fc rfl (fc rfl (fc rfl (fc rfl (fc rfl fn))))) (lp117_5071 _ v5063 I5052 J5053 hI5052 fiI5052 w5054 ew5054 w5055 ew5055 w5056 ew5056 w5057 ew5057 w5058 ew5058 (by omega) (by omega) (by omega) (by omega) (by omega) (by omega) (by omega) (Nat.lt_succ_self _))
              · refine WP_lload_n dX11_dayOf_97 rfl ?_
                refine WP_aload_n dX11_dayOf_98 rfl ?_
                refine WP_aload_n dX11_dayOf_99 rfl ?_
                refine WP_iload dX11_dayOf_100 rfl ?_
                refine WP_iload_n dX11_dayOf_102 rfl ?_
                refine WP_callV3 (k := 11) dX11_dayOf_103 ⟨⟨⟨by decide, by decide⟩, zX11_sortDay⟩, lX11_474, by decide, rfl, vX11_sortDay.1, vX11_sortDay.2⟩ (ly_is hy 0 11 rfl) (sm_sortDay_38 hy hr hI5052 i5051 v5032 (by omega) (by omega) (by omega) (by omega) (by rw [ew5056]; omega)) (Nat.le_of_ble_eq_true rfl) ?_
                intro r I5099 J5100 Ra hq
                obtain ⟨⟨hI5099, ec, fiI5099, ejI5099, ⟨pI5099, sI5099_38_32, sI5099_38_33, sI5099_0_10, sI5099_0_14, sI5099_0_68⟩⟩, l5101, rfl⟩ := hq
                show WP _ _ _ _ (.long _ :: _) _ _ _ _
                rw [ec]
                clear ec Ra
                have fr5102 : fz 49 g [0, 35, 36, 37, 40, 41, 38] I I5099 := fz_tr fiI5052 (fz_mono fiI5099 (by decide))
                rw [ejI5099]
                clear ejI5099 J5100
                have e5103 : I5099 (ad g 38) 32 = w5054 := by rw [sI5099_38_32]; exact ew5054
                have e5104 : I5099 (ad g 38) 33 = w5055 := by rw [sI5099_38_33]; exact ew5055
                have e5105 : I5099 (ad g 0) 10 = w5056 := by rw [sI5099_0_10]; exact ew5056
                have e5106 : I5099 (ad g 0) 14 = w5057 := by rw [sI5099_0_14]; exact ew5057
                have e5107 : I5099 (ad g 0) 68 = w5058 := by rw [sI5099_0_68]; exact ew5058
                have e5108 : I5099 (ad g 0) 1 = L := hI5099.1.2
                have b5109 := BT_get hI5099.1.1 0 1 2 (0) (0) (900) (by decide) 1 (by decide) (by decide)
                rw [e5108] at b5109
                refine WQ_ladd dX11_dayOf_106 (fun l5110 => ?_)
                refine WP_lstore_n (ls' := [(0, _), (1, _), (2, _), (3, _), (5, _)]) dX11_dayOf_107 (by decide) rfl ?_
                refine WP_iinc (ls' := [(0, _), (1, _), (2, _), (3, _), (5, _)]) dX11_dayOf_108 rfl (by decide) rfl ?_
                have hv5111 : (i5051 + Int32.ofInt (1)).toInt = i5051.toInt + (1) := ia_n rfl (by omega) (by omega)
                generalize i5051 + Int32.ofInt (1) = v5111 at hv5111 ⊢
                refine WP_goto 88 dX11_dayOf_111 rfl ?_
                exact WP_sub (fc rfl (fc rfl (fc rfl (fc rfl (fc rfl fn))))) (ihlp88_5058 l5110 v5111 I5099 J5053 hI5099 fr5102 w5054 e5103 w5055 e5104 w5056 e5105 w5057 e5106 w5058 e5107 (by omega) (by omega) (by omega) (by omega) (by omega) (by omega) (by omega) (by omega))
          exact WP_sub (fc rfl (fc rfl (fc rfl (fc rfl (fc rfl fn))))) (lp88_5058 _ l5033 v5049 I5037 J5038 hI5037 fiI5037 w5039 ew5039 w5040 ew5040 w5041 ew5041 w5042 ew5042 w5043 ew5043 (by omega) (by omega) (by omega) (by omega) (by omega) (by omega) (by omega) (Nat.lt_succ_self _))
        · refine WP_aload_n dX11_dayOf_31 rfl ?_
          refine WP_getr dX11_dayOf_32 fX11_289 rfl (ly_is hy 0 11 rfl) (rf hr 0 62 40 (by decide)) ?_
          refine WP_iload dX11_dayOf_35 rfl ?_
          refine WP_aload_n dX11_dayOf_37 rfl ?_
          refine WQ_geti dX11_dayOf_38 fX11_470 rfl (ly_is hy 0 11 rfl) (BT_get hI5037.1.1 0 64 65 (0) (0) (1) (by decide) 64 (by decide) (by decide)) (fun v5112 ev5112 av5112 bv5112 => ?_)
          have jn78_5125 : ∀ (v5125 : Int32), 0 ≤ v5125.toInt → v5125.toInt ≤ 1000000 → WP g mX11_dayOf 78 [(0, .ref (ad g 0)), (1, .ref (ad g 38)), (2, .int v5032), (3, .long l5033), (5, .int i5036)] [.int v5125, .int i5036, .ref (ad g 40)] I5037 J5038 R (fun r I' J' R' => (MP g n L I' ∧ R' = R ∧ fz 49 g [0, 35, 36, 37, 40, 41, 38] I I' ∧ ((I' (ad g 38) 32).toInt ≤ (I (ad g 38) 32).toInt + 23760 ∧ (I' (ad g 38) 33).toInt = (I (ad g 38) 33).toInt + 1) ∧ I' (ad g 0) 10 = I (ad g 0) 10 ∧ I' (ad g 0) 14 = I (ad g 0) 14 ∧ I' (ad g 0) 68 = I (ad g 0) 68) ∧ ∃ v : Int64, r = some (.long v)) := by
            intro v5125 av5125 bv5125
            refine WQ_iast dX11_dayOf_78 (ly_is hy 40 13 rfl) (ly_n hy 40 3 rfl) (by omega) (by omega) (fun I5127 eI5127 => ?_)
            have hI5127 : MP g n L I5127 := by rw [eI5127]; exact (mp_w hy hI5037 (c := 40) (mi_r hy hI5037.1 (c := 40) (0) (0) (1000000) (by decide) (Or.inl (by decide)) (by decide) (by omega) (by omega)) (by decide) (by decide) (Or.inl (by decide)))
            have e5128 : I5127 (ad g 38) 32 = w5039 := by rw [eI5127, pp_ne _ _ (Or.inl (ly_ne hy (by decide) (by decide) (by decide)))]; exact ew5039
            have e5129 : I5127 (ad g 38) 33 = w5040 := by rw [eI5127, pp_ne _ _ (Or.inl (ly_ne hy (by decide) (by decide) (by decide)))]; exact ew5040
            have e5130 : I5127 (ad g 0) 10 = w5041 := by rw [eI5127, pp_ne _ _ (Or.inl (ly_ne hy (by decide) (by decide) (by decide)))]; exact ew5041
            have e5131 : I5127 (ad g 0) 14 = w5042 := by rw [eI5127, pp_ne _ _ (Or.inl (ly_ne hy (by decide) (by decide) (by decide)))]; exact ew5042
            have e5132 : I5127 (ad g 0) 68 = w5043 := by rw [eI5127, pp_ne _ _ (Or.inl (ly_ne hy (by decide) (by decide) (by decide)))]; exact ew5043
            have e5133 : I5127 (ad g 0) 1 = L := by rw [eI5127, pp_ne _ _ (Or.inl (ly_ne hy (by decide) (by decide) (by decide)))]; exact e5045
            have e5134 : I5127 (ad g 0) 11 = v5047 := by rw [eI5127, pp_ne _ _ (Or.inl (ly_ne hy (by decide) (by decide) (by decide)))]; exact ev5047
            have e5135 : I5127 (ad g 0) 64 = v5112 := by rw [eI5127, pp_ne _ _ (Or.inl (ly_ne hy (by decide) (by decide) (by decide)))]; exact ev5112
            have fr5136 : fz 49 g [0, 35, 36, 37, 40, 41, 38] I I5127 := by rw [eI5127]; exact fzm_pp hy fiI5037 (by decide) (by decide)
            clear eI5127
            refine WP_iinc (ls' := [(0, _), (1, _), (2, _), (3, _), (5, _)]) dX11_dayOf_79 rfl (by decide) rfl ?_
            have hv5137 : (i5036 + Int32.ofInt (1)).toInt = i5036.toInt + (1) := ia_n rfl (by omega) (by omega)
            generalize i5036 + Int32.ofInt (1) = v5137 at hv5137 ⊢
            refine WP_goto 22 dX11_dayOf_82 rfl ?_
            exact WP_sub (fc rfl (fc rfl (fc rfl (fc rfl (fc rfl fn))))) (ihlp22_5043 v5137 I5127 J5038 hI5127 fr5136 w5039 e5128 w5040 e5129 w5041 e5130 w5042 e5131 w5043 e5132 (by omega) (by omega) (by omega) (by omega) (by omega) (by omega) (by omega) (by omega))
          refine WQ_if_ne 60 dX11_dayOf_41 rfl (fun c5137 => ?_) (fun c5137 => ?_)
          · refine WP_ldcw (1000000) dX11_dayOf_60 kX11_460 ?_
            obtain ⟨v5139, hv5139, ev5139⟩ : ∃ v : Int32, v.toInt = 1000000 ∧ ((1000000) : Int32) = v := ⟨(1000000), rfl, rfl⟩
            rw [ev5139]; clear ev5139
            refine WP_goto 78 dX11_dayOf_63 rfl ?_
            exact WP_sub (fc rfl (fc rfl (fc rfl (fc rfl (fc rfl fn))))) (jn78_5125 v5139 (by omega) (by omega))
          · refine WP_aload_n dX11_dayOf_44 rfl ?_
            refine WP_getr dX11_dayOf_45 fX11_259 rfl (ly_is hy 0 11 rfl) (rf hr 0 41 23 (by decide)) ?_
            refine WQ_bipush (7) (7) dX11_dayOf_48 rfl rfl (fun v5140 hv5140 => ?_)
            refine WP_iload dX11_dayOf_50 rfl ?_
            refine WQ_imulK (7) dX11_dayOf_52 hv5140 (by omega) (by omega) (fun v5141 hv5141 => ?_)
            refine WP_iload_n dX11_dayOf_53 rfl ?_
            refine WQ_iadd dX11_dayOf_54 (by omega) (by omega) (fun v5142 hv5142 => ?_)
            refine WQ_ialdb dX11_dayOf_55 (ly_is hy 23 13 rfl) (ly_n hy 23 21 rfl) (by omega) (by omega) (fun q hq => BT_get hI5037.1.1 23 0 21 (-1) (0) (999) (by decide) q (Nat.zero_le _) hq) (fun v5143 av5143 bv5143 zv5143 => ?_)
            refine WQ_iconst (-1) (-1) dX11_dayOf_56 rfl rfl (fun v5144 hv5144 => ?_)
            refine WQ_icmp_ne 66 dX11_dayOf_57 rfl (fun c5144 => ?_) (fun c5144 => ?_)
            · refine WP_aload_n dX11_dayOf_66 rfl ?_
              refine WP_getr dX11_dayOf_67 fX11_259 rfl (ly_is hy 0 11 rfl) (rf hr 0 41 23 (by decide)) ?_
              refine WQ_bipush (7) (7) dX11_dayOf_70 rfl rfl (fun v5146 hv5146 => ?_)
              refine WP_iload dX11_dayOf_72 rfl ?_
              refine WQ_imulK (7) dX11_dayOf_74 hv5146 (by omega) (by omega) (fun v5147 hv5147 => ?_)
              refine WP_iload_n dX11_dayOf_75 rfl ?_
              refine WQ_iadd dX11_dayOf_76 (by omega) (by omega) (fun v5148 hv5148 => ?_)
              refine WQ_ialdb dX11_dayOf_77 (ly_is hy 23 13 rfl) (ly_n hy 23 21 rfl) (by omega) (by omega) (fun q hq => BT_get hI5037.1.1 23 0 21 (-1) (0) (999) (by decide) q (Nat.zero_le _) hq) (fun v5149 av5149 bv5149 zv5149 => ?_)
              have tv5149 : v5149.toInt = v5143.toInt := by rw [← zv5149, ← zv5143, show v5148.toInt.toNat = v5142.toInt.toNat by omega]
              exact WP_sub (fc rfl (fc rfl (fc rfl (fc rfl (fc rfl fn))))) (jn78_5125 v5149 (by omega) (by omega))
            · refine WP_ldcw (1000000) dX11_dayOf_60 kX11_460 ?_
              obtain ⟨v5150, hv5150, ev5150⟩ : ∃ v : Int32, v.toInt = 1000000 ∧ ((1000000) : Int32) = v := ⟨(1000000), rfl, rfl⟩
              rw [ev5150]; clear ev5150
              refine WP_goto 78 dX11_dayOf_63 rfl ?_
              exact WP_sub (fc rfl (fc rfl (fc rfl (fc rfl (fc rfl fn))))) (jn78_5125 v5150 (by omega) (by omega))
    exact WP_sub (fc rfl (fc rfl (fc rfl (fc rfl (fc rfl fn))))) (lp22_5043 _ v5035 I J hI fr0 w5027 ew5027 w5028 ew5028 w5024 ew5024 w5025 ew5025 w5026 ew5026 (by omega) (by omega) (by omega) (by omega) (by omega) (by omega) (by omega) (Nat.lt_succ_self _))
  · refine WP_aload_n dX11_dayOf_14 rfl ?_
    refine WP_aload_n dX11_dayOf_15 rfl ?_
    refine WP_callV1 (k := 11) dX11_dayOf_16 ⟨⟨⟨by decide, by decide⟩, zX11_openChest⟩, lX11_467, by decide, rfl, vX11_openChest.1, vX11_openChest.2⟩ (ly_is hy 0 11 rfl) (sm_openChestx_38 hy hr hI   (by omega) (by rw [ew5027]; omega)) (Nat.le_of_ble_eq_true rfl) ?_
    intro r I5151 J5152 Ra hq
    obtain ⟨⟨hI5151, ec, fiI5151, ⟨pI5151, sI5151_38_33, sI5151_0_10, sI5151_0_14, sI5151_0_68⟩⟩, rfl⟩ := hq
    rw [ec]
    clear ec Ra
    have fr5153 : fz 49 g [0, 35, 36, 37, 40, 41, 38] I I5151 := fz_tr fr0 (fz_mono fiI5151 (by decide))
    have e5154 : I5151 (ad g 38) 33 = w5028 := by rw [sI5151_38_33]; exact ew5028
    have e5155 : I5151 (ad g 0) 10 = w5024 := by rw [sI5151_0_10]; exact ew5024
    have e5156 : I5151 (ad g 0) 14 = w5025 := by rw [sI5151_0_14]; exact ew5025
    have e5157 : I5151 (ad g 0) 68 = w5026 := by rw [sI5151_0_68]; exact ew5026
    have e5158 : I5151 (ad g 0) 1 = L := hI5151.1.2
    have b5159 := BT_get hI5151.1.1 0 1 2 (0) (0) (900) (by decide) 1 (by decide) (by decide)
    rw [e5158] at b5159
    obtain ⟨w5160, ew5160⟩ : ∃ w : Int32, I5151 (ad g 38) 32 = w := ⟨_, rfl⟩
    have bw5160 := BT_get hI5151.1.1 38 32 33 (0) (23760) (0) (by decide) 32 (by decide) (by decide)
    rw [ew5160] at bw5160
    rw [ew5160, ew5027] at pI5151
    refine WQ_iconst (0) (0) dX11_dayOf_19 rfl rfl (fun v5161 hv5161 => ?_)
    refine WP_istore (ls' := [(0, _), (1, _), (2, _), (3, _), (5, _)]) dX11_dayOf_20 (by decide) rfl ?_
    have lp22_5169 : ∀ (mz : Nat) (i5162 : Int32) (I5163 : pI) (J5164 : pJ), MP g n L I5163 → fz 49 g [0, 35, 36, 37, 40, 41, 38] I I5163 → ∀ (w5165 : Int32), I5163 (ad g 38) 32 = w5165 → ∀ (w5166 : Int32), I5163 (ad g 38) 33 = w5166 → ∀ (w5167 : Int32), I5163 (ad g 0) 10 = w5167 → ∀ (w5168 : Int32), I5163 (ad g 0) 14 = w5168 → ∀ (w5169 : Int32), I5163 (ad g 0) 68 = w5169 → 0 ≤ i5162.toInt → i5162.toInt ≤ 3 → w5166.toInt = w5028.toInt → w5167.toInt = w5024.toInt → w5168.toInt = w5025.toInt → w5169.toInt = w5026.toInt → w5165.toInt ≤ w5027.toInt → (4 - i5162.toInt).toNat < mz → WP g mX11_dayOf 22 [(0, .ref (ad g 0)), (1, .ref (ad g 38)), (2, .int v5032), (3, .long l5033), (5, .int i5162)] [] I5163 J5164 R (fun r I' J' R' => (MP g n L I' ∧ R' = R ∧ fz 49 g [0, 35, 36, 37, 40, 41, 38] I I' ∧ ((I' (ad g 38) 32).toInt ≤ (I (ad g 38) 32).toInt + 23760 ∧ (I' (ad g 38) 33).toInt = (I (ad g 38) 33).toInt + 1) ∧ I' (ad g 0) 10 = I (ad g 0) 10 ∧ I' (ad g 0) 14 = I (ad g 0) 14 ∧ I' (ad g 0) 68 = I (ad g 0) 68) ∧ ∃ v : Int64, r = some (.long v)) := by
      intro mz
      induction mz with
      | zero =>
        intro i5162 I5163 J5164 hI5163 fiI5163 w5165 ew5165 w5166 ew5166 w5167 ew5167 w5168 ew5168 w5169 ew5169 ai5162 bi5162 j0_I5163 j1_I5163 j2_I5163 j3_I5163 j4_I5163 hmlp22_5169
        exact absurd hmlp22_5169 (Nat.not_lt_zero _)
      | succ mz ihlp22_5169 =>
        intro i5162 I5163 J5164 hI5163 fiI5163 w5165 ew5165 w5166 ew5166 w5167 ew5167 w5168 ew5168 w5169 ew5169 ai5162 bi5162 j0_I5163 j1_I5163 j2_I5163 j3_I5163 j4_I5163 hmlp22_5169
        have bw5165 := BT_get hI5163.1.1 38 32 33 (0) (23760) (0) (by decide) 32 (by decide) (by decide)
        rw [ew5165] at bw5165
        have bw5166 := BT_get hI5163.1.1 38 33 34 (0) (1) (0) (by decide) 33 (by decide) (by decide)
        rw [ew5166] at bw5166
        have bw5167 := BT_get hI5163.1.1 0 10 11 (0) (0) (4) (by decide) 10 (by decide) (by decide)
        rw [ew5167] at bw5167
        have bw5168 := BT_get hI5163.1.1 0 14 15 (-1) (0) (2) (by decide) 14 (by decide) (by decide)
        rw [ew5168] at bw5168
        have e5171 : I5163 (ad g 0) 1 = L := hI5163.1.2
        have b5172 := BT_get hI5163.1.1 0 1 2 (0) (0) (900) (by decide) 1 (by decide) (by decide)
        rw [e5171] at b5172
        refine WP_iload dX11_dayOf_22 rfl ?_
        refine WP_aload_n dX11_dayOf_24 rfl ?_
        refine WQ_geti dX11_dayOf_25 fX11_332 rfl (ly_is hy 0 11 rfl) (BT_get hI5163.1.1 0 11 12 (0) (0) (3) (by decide) 11 (by decide) (by decide)) (fun v5173 ev5173 av5173 bv5173 => ?_)
        refine WQ_icmp_ge 85 dX11_dayOf_28 rfl (fun c5173 => ?_) (fun c5173 => ?_)
        · refine WQ_iconst (0) (0) dX11_dayOf_85 rfl rfl (fun v5175 hv5175 => ?_)
          refine WP_istore (ls' := [(0, _), (1, _), (2, _), (3, _), (5, _)]) dX11_dayOf_86 (by decide) rfl ?_
          have lp88_5184 : ∀ (mz : Nat) (l5176 : Int64) (i5177 : Int32) (I5178 : pI) (J5179 : pJ), MP g n L I5178 → fz 49 g [0, 35, 36, 37, 40, 41, 38] I I5178 → ∀ (w5180 : Int32), I5178 (ad g 38) 32 = w5180 → ∀ (w5181 : Int32), I5178 (ad g 38) 33 = w5181 → ∀ (w5182 : Int32), I5178 (ad g 0) 10 = w5182 → ∀ (w5183 : Int32), I5178 (ad g 0) 14 = w5183 → ∀ (w5184 : Int32), I5178 (ad g 0) 68 = w5184 → 0 ≤ i5177.toInt → i5177.toInt ≤ 4 → w5181.toInt = w5028.toInt → w5182.toInt = w5024.toInt → w5183.toInt = w5025.toInt → w5184.toInt = w5026.toInt → w5180.toInt ≤ w5027.toInt → (5 - i5177.toInt).toNat < mz → WP g mX11_dayOf 88 [(0, .ref (ad g 0)), (1, .ref (ad g 38)), (2, .int v5032), (3, .long l5176), (5, .int i5177)] [] I5178 J5179 R (fun r I' J' R' => (MP g n L I' ∧ R' = R ∧ fz 49 g [0, 35, 36, 37, 40, 41, 38] I I' ∧ ((I' (ad g 38) 32).toInt ≤ (I (ad g 38) 32).toInt + 23760 ∧ (I' (ad g 38) 33).toInt = (I (ad g 38) 33).toInt + 1) ∧ I' (ad g 0) 10 = I (ad g 0) 10 ∧ I' (ad g 0) 14 = I (ad g 0) 14 ∧ I' (ad g 0) 68 = I (ad g 0) 68) ∧ ∃ v : Int64, r = some (.long v)) := by
            intro mz
            induction mz with
            | zero =>
              intro l5176 i5177 I5178 J5179 hI5178 fiI5178 w5180 ew5180 w5181 ew5181 w5182 ew5182 w5183 ew5183 w5184 ew5184 ai5177 bi5177 j0_I5178 j1_I5178 j2_I5178 j3_I5178 j4_I5178 hmlp88_5184
              exact absurd hmlp88_5184 (Nat.not_lt_zero _)
            | succ mz ihlp88_5184 =>
              intro l5176 i5177 I5178 J5179 hI5178 fiI5178 w5180 ew5180 w5181 ew5181 w5182 ew5182 w5183 ew5183 w5184 ew5184 ai5177 bi5177 j0_I5178 j1_I5178 j2_I5178 j3_I5178 j4_I5178 hmlp88_5184
              have bw5180 := BT_get hI5178.1.1 38 32 33 (0) (23760) (0) (by decide) 32 (by decide) (by decide)
              rw [ew5180] at bw5180
              have bw5181 := BT_get hI5178.1.1 38 33 34 (0) (1) (0) (by decide) 33 (by decide) (by decide)
              rw [ew5181] at bw5181
              have bw5182 := BT_get hI5178.1.1 0 10 11 (0) (0) (4) (by decide) 10 (by decide) (by decide)
              rw [ew5182] at bw5182
              have bw5183 := BT_get hI5178.1.1 0 14 15 (-1) (0) (2) (by decide) 14 (by decide) (by decide)
              rw [ew5183] at bw5183
              have e5186 : I5178 (ad g 0) 1 = L := hI5178.1.2
              have b5187 := BT_get hI5178.1.1 0 1 2 (0) (0) (900) (by decide) 1 (by decide) (by decide)
              rw [e5186] at b5187
              refine WP_iload dX11_dayOf_88 rfl ?_
              refine WP_aload_n dX11_dayOf_90 rfl ?_
              refine WQ_getim dX11_dayOf_91 fX11_329 rfl (ly_is hy 0 11 rfl) ew5182 ?_
              refine WQ_icmp_ge 114 dX11_dayOf_94 rfl (fun c5187 => ?_) (fun c5187 => ?_)
              · refine WQ_iconst (0) (0) dX11_dayOf_114 rfl rfl (fun v5189 hv5189 => ?_)
                refine WP_istore (ls' := [(0, _), (1, _), (2, _), (3, _), (5, _)]) dX11_dayOf_115 (by decide) rfl ?_
                have lp117_5197 : ∀ (mz : Nat) (i5190 : Int32) (I5191 : pI) (J5192 : pJ), MP g n L I5191 → fz 49 g [0, 35, 36, 37, 40, 41, 38] I I5191 → ∀ (w5193 : Int32), I5191 (ad g 38) 32 = w5193 → ∀ (w5194 : Int32), I5191 (ad g 38) 33 = w5194 → ∀ (w5195 : Int32), I5191 (ad g 0) 10 = w5195 → ∀ (w5196 : Int32), I5191 (ad g 0) 14 = w5196 → ∀ (w5197 : Int32), I5191 (ad g 0) 68 = w5197 → 0 ≤ i5190.toInt → i5190.toInt ≤ 4 → w5194.toInt = w5028.toInt → w5195.toInt = w5024.toInt → w5196.toInt = w5025.toInt → w5197.toInt = w5026.toInt → w5193.toInt ≤ w5027.toInt + 5940 * i5190.toInt → (5 - i5190.toInt).toNat < mz → WP g mX11_dayOf 117 [(0, .ref (ad g 0)), (1, .ref (ad g 38)), (2, .int v5032), (3, .long l5176), (5, .int i5190)] [] I5191 J5192 R (fun r I' J' R' => (MP g n L I' ∧ R' = R ∧ fz 49 g [0, 35, 36, 37, 40, 41, 38] I I' ∧ ((I' (ad g 38) 32).toInt ≤ (I (ad g 38) 32).toInt + 23760 ∧ (I' (ad g 38) 33).toInt = (I (ad g 38) 33).toInt + 1) ∧ I' (ad g 0) 10 = I (ad g 0) 10 ∧ I' (ad g 0) 14 = I (ad g 0) 14 ∧ I' (ad g 0) 68 = I (ad g 0) 68) ∧ ∃ v : Int64, r = some (.long v)) := by
                  intro mz
                  induction mz with
                  | zero =>
                    intro i5190 I5191 J5192 hI5191 fiI5191 w5193 ew5193 w5194 ew5194 w5195 ew5195 w5196 ew5196 w5197 ew5197 ai5190 bi5190 j0_I5191 j1_I5191 j2_I5191 j3_I5191 j4_I5191 hmlp117_5197
                    exact absurd hmlp117_5197 (Nat.not_lt_zero _)
                  | succ mz ihlp117_5197 =>
                    intro i5190 I5191 J5192 hI5191 fiI5191 w5193 ew5193 w5194 ew5194 w5195 ew5195 w5196 ew5196 w5197 ew5197 ai5190 bi5190 j0_I5191 j1_I5191 j2_I5191 j3_I5191 j4_I5191 hmlp117_5197
                    have bw5193 := BT_get hI5191.1.1 38 32 33 (0) (23760) (0) (by decide) 32 (by decide) (by decide)
                    rw [ew5193] at bw5193
                    have bw5194 := BT_get hI5191.1.1 38 33 34 (0) (1) (0) (by decide) 33 (by decide) (by decide)
                    rw [ew5194] at bw5194
                    have bw5195 := BT_get hI5191.1.1 0 10 11 (0) (0) (4) (by decide) 10 (by decide) (by decide)
                    rw [ew5195] at bw5195
                    have bw5196 := BT_get hI5191.1.1 0 14 15 (-1) (0) (2) (by decide) 14 (by decide) (by decide)
                    rw [ew5196] at bw5196
                    have e5199 : I5191 (ad g 0) 1 = L := hI5191.1.2
                    have b5200 := BT_get hI5191.1.1 0 1 2 (0) (0) (900) (by decide) 1 (by decide) (by decide)
                    rw [e5199] at b5200
                    refine WP_iload dX11_dayOf_117 rfl ?_
                    refine WP_aload_n dX11_dayOf_119 rfl ?_
                    refine WQ_getim dX11_dayOf_120 fX11_329 rfl (ly_is hy 0 11 rfl) ew5195 ?_
                    refine WQ_icmp_ge 140 dX11_dayOf_123 rfl (fun c5200 => ?_) (fun c5200 => ?_)
                    · refine WP_aload_n dX11_dayOf_140 rfl ?_
                      refine WQ_bipush (33) (33) dX11_dayOf_141 rfl rfl (fun v5202 hv5202 => ?_)
                      refine WP_dup2 dX11_dayOf_143 rfl rfl ?_
                      refine WQ_ialdm (z := 33) dX11_dayOf_144 (ly_is hy 38 13 rfl) (ly_n hy 38 35 rfl) hv5202 (by decide) ew5194 ?_
                      refine WQ_iconst (1) (1) dX11_dayOf_145 rfl rfl (fun v5204 hv5204 => ?_)
                      refine WQ_iadd dX11_dayOf_146 (by omega) (by omega) (fun v5205 hv5205 => ?_)
                      refine WQ_iast dX11_dayOf_147 (ly_is hy 38 13 rfl) (ly_n hy 38 35 rfl) (by omega) (by omega) (fun I5206 fI5206 => ?_)
                      have eI5206 := fI5206
                      rw [cl (x := v5202) (n := 33) (by omega)] at eI5206
                      clear fI5206
                      have hI5206 : MP g n L I5206 := by rw [eI5206]; exact (mp_w hy hI5191 (c := 38) (mi_f hy hI5191.1 (c := 38) (0) (1) (0) (by decide) (Or.inl (by decide)) (by decide) (by omega) (by omega)) (by decide) (by decide) (Or.inl (by decide)))
                      have e5207 : I5206 (ad g 38) 32 = w5193 := by rw [eI5206, pp_ne _ _ (Or.inr (by decide))]; exact ew5193
                      have e5208 : I5206 (ad g 0) 10 = w5195 := by rw [eI5206, pp_ne _ _ (Or.inl (ly_ne hy (by decide) (by decide) (by decide)))]; exact ew5195
                      have e5209 : I5206 (ad g 0) 14 = w5196 := by rw [eI5206, pp_ne _ _ (Or.inl (ly_ne hy (by decide) (by decide) (by decide)))]; exact ew5196
                      have e5210 : I5206 (ad g 0) 68 = w5197 := by rw [eI5206, pp_ne _ _ (Or.inl (ly_ne hy (by decide) (by decide) (by decide)))]; exact ew5197
                      have e5211 : I5206 (ad g 0) 1 = L := by rw [eI5206, pp_ne _ _ (Or.inl (ly_ne hy (by decide) (by decide) (by decide)))]; exact e5199
                      have e5212 : I5206 (ad g 38) 33 = v5205 := by rw [eI5206, pp_self]
                      have fr5213 : fz 49 g [0, 35, 36, 37, 40, 41, 38] I I5206 := by rw [eI5206]; exact fzm_pp hy fiI5191 (by decide) (by decide)
                      clear eI5206
                      refine WP_lload_n dX11_dayOf_148 rfl ?_
                      exact WP_lret dX11_dayOf_149 rfl ⟨⟨hI5206, rfl, fr5213, ⟨(by rw [e5207, ew5027, e5212, ew5028]; omega), (by rw [e5208, ew5024] <;> exact (eq32 _ _).mpr (by omega)), (by rw [e5209, ew5025] <;> exact (eq32 _ _).mpr (by omega)), (by rw [e5210, ew5026] <;> exact (eq32 _ _).mpr (by omega))⟩⟩, _, rfl⟩
                    · refine WP_aload_n dX11_dayOf_126 rfl ?_
                      refine WP_aload_n dX11_dayOf_127 rfl ?_
                      refine WP_iload dX11_dayOf_128 rfl ?_
                      refine WP_iload_n dX11_dayOf_130 rfl ?_
                      refine WP_callV3 (k := 11) dX11_dayOf_131 ⟨⟨⟨by decide, by decide⟩, zX11_nightOf⟩, lX11_478, by decide, rfl, vX11_nightOf.1, vX11_nightOf.2⟩ (ly_is hy 0 11 rfl) (sm_nightOfx_38 hy hr hI5191 i5190 v5032 (by omega) (by omega) (by omega) (by omega) (by omega) (by rw [ew5193]; omega)) (Nat.le_of_ble_eq_true rfl) ?_
                      intro r I5214 J5215 Ra hq
                      obtain ⟨⟨hI5214, ec, fiI5214, ⟨pI5214, sI5214_38_33, sI5214_0_10, sI5214_0_14, sI5214_0_68⟩⟩, rfl⟩ := hq
                      rw [ec]
                      clear ec Ra
                      have fr5216 : fz 49 g [0, 35, 36, 37, 40, 41, 38] I I5214 := fz_tr fiI5191 (fz_mono fiI5214 (by decide))
                      have e5217 : I5214 (ad g 38) 33 = w5194 := by rw [sI5214_38_33]; exact ew5194
                      have e5218 : I5214 (ad g 0) 10 = w5195 := by rw [sI5214_0_10]; exact ew5195
                      have e5219 : I5214 (ad g 0) 14 = w5196 := by rw [sI5214_0_14]; exact ew5196
                      have e5220 : I5214 (ad g 0) 68 = w5197 := by rw [sI5214_0_68]; exact ew5197
                      have e5221 : I5214 (ad g 0) 1 = L := hI5214.1.2
                      have b5222 := BT_get hI5214.1.1 0 1 2 (0) (0) (900) (by decide) 1 (by decide) (by decide)
                      rw [e5221] at b5222
                      obtain ⟨w5223, ew5223⟩ : ∃ w : Int32, I5214 (ad g 38) 32 = w := ⟨_, rfl⟩
                      have bw5223 := BT_get hI5214.1.1 38 32 33 (0) (23760) (0) (by decide) 32 (by decide) (by decide)
                      rw [ew5223] at bw5223
                      rw [ew5223, ew5193] at pI5214
                      refine WP_iinc (ls' := [(0, _), (1, _), (2, _), (3, _), (5, _)]) dX11_dayOf_134 rfl (by decide) rfl ?_
                      have hv5224 : (i5190 + Int32.ofInt (1)).toInt = i5190.toInt + (1) := ia_n rfl (by omega) (by omega)
                      generalize i5190 + Int32.ofInt (1) = v5224 at hv5224 ⊢
                      refine WP_goto 117 dX11_dayOf_137 rfl ?_
                      exact WP_sub (fc rfl (fc rfl (fc rfl (fc rfl (fc rfl fn))))) (ihlp117_5197 v5224 I5214 J5215 hI5214 fr5216 w5223 ew5223 w5194 e5217 w5195 e5218 w5196 e5219 w5197 e5220 (by omega) (by omega) (by omega) (by omega) (by omega) (by omega) (by omega) (by omega))
                exact WP_sub (fc rfl (fc rfl (fc rfl (fc rfl (fc rfl fn))))) (lp117_5197 _ v5189 I5178 J5179 hI5178 fiI5178 w5180 ew5180 w5181 ew5181 w5182 ew5182 w5183 ew5183 w5184 ew5184 (by omega) (by omega) (by omega) (by omega) (by omega) (by omega) (by omega) (Nat.lt_succ_self _))
              · refine WP_lload_n dX11_dayOf_97 rfl ?_
                refine WP_aload_n dX11_dayOf_98 rfl ?_
                refine WP_aload_n dX11_dayOf_99 rfl ?_
                refine WP_iload dX11_dayOf_100 rfl ?_
                refine WP_iload_n dX11_dayOf_102 rfl ?_
                refine WP_callV3 (k := 11) dX11_dayOf_103 ⟨⟨⟨by decide, by decide⟩, zX11_sortDay⟩, lX11_474, by decide, rfl, vX11_sortDay.1, vX11_sortDay.2⟩ (ly_is hy 0 11 rfl) (sm_sortDay_38 hy hr hI5178 i5177 v5032 (by omega) (by omega) (by omega) (by omega) (by rw [ew5182]; omega)) (Nat.le_of_ble_eq_true rfl) ?_
                intro r I5225 J5226 Ra hq
                obtain ⟨⟨hI5225, ec, fiI5225, ejI5225, ⟨pI5225, sI5225_38_32, sI5225_38_33, sI5225_0_10, sI5225_0_14, sI5225_0_68⟩⟩, l5227, rfl⟩ := hq
                show WP _ _ _ _ (.long _ :: _) _ _ _ _
                rw [ec]
                clear ec Ra
                have fr5228 : fz 49 g [0, 35, 36, 37, 40, 41, 38] I I5225 := fz_tr fiI5178 (fz_mono fiI5225 (by decide))
                rw [ejI5225]
                clear ejI5225 J5226
                have e5229 : I5225 (ad g 38) 32 = w5180 := by rw [sI5225_38_32]; exact ew5180
                have e5230 : I5225 (ad g 38) 33 = w5181 := by rw [sI5225_38_33]; exact ew5181
                have e5231 : I5225 (ad g 0) 10 = w5182 := by rw [sI5225_0_10]; exact ew5182
                have e5232 : I5225 (ad g 0) 14 = w5183 := by rw [sI5225_0_14]; exact ew5183
                have e5233 : I5225 (ad g 0) 68 = w5184 := by rw [sI5225_0_68]; exact ew5184
                have e5234 : I5225 (ad g 0) 1 = L := hI5225.1.2
                have b5235 := BT_get hI5225.1.1 0 1 2 (0) (0) (900) (by decide) 1 (by decide) (by decide)
                rw [e5234] at b5235
                refine WQ_ladd dX11_dayOf_106 (fun l5236 => ?_)
                refine WP_lstore_n (ls' := [(0, _), (1, _), (2, _), (3, _), (5, _)]) dX11_dayOf_107 (by decide) rfl ?_
                refine WP_iinc (ls' := [(0, _), (1, _), (2, _), (3, _), (5, _)]) dX11_dayOf_108 rfl (by decide) rfl ?_
                have hv5237 : (i5177 + Int32.ofInt (1)).toInt = i5177.toInt + (1) := ia_n rfl (by omega) (by omega)
                generalize i5177 + Int32.ofInt (1) = v5237 at hv5237 ⊢
                refine WP_goto 88 dX11_dayOf_111 rfl ?_
                exact WP_sub (fc rfl (fc rfl (fc rfl (fc rfl (fc rfl fn))))) (ihlp88_5184 l5236 v5237 I5225 J5179 hI5225 fr5228 w5180 e5229 w5181 e5230 w5182 e5231 w5183 e5232 w5184 e5233 (by omega) (by omega) (by omega) (by omega) (by omega) (by omega) (by omega) (by omega))
          exact WP_sub (fc rfl (fc rfl (fc rfl (fc rfl (fc rfl fn))))) (lp88_5184 _ l5033 v5175 I5163 J5164 hI5163 fiI5163 w5165 ew5165 w5166 ew5166 w5167 ew5167 w5168 ew5168 w5169 ew5169 (by omega) (by omega) (by omega) (by omega) (by omega) (by omega) (by omega) (Nat.lt_succ_self _))
        · refine WP_aload_n dX11_dayOf_31 rfl ?_
          refine WP_getr dX11_dayOf_32 fX11_289 rfl (ly_is hy 0 11 rfl) (rf hr 0 62 40 (by decide)) ?_
          refine WP_iload dX11_dayOf_35 rfl ?_
          refine WP_aload_n dX11_dayOf_37 rfl ?_
          refine WQ_geti dX11_dayOf_38 fX11_470 rfl (ly_is hy 0 11 rfl) (BT_get hI5163.1.1 0 64 65 (0) (0) (1) (by decide) 64 (by decide) (by decide)) (fun v5238 ev5238 av5238 bv5238 => ?_)
          have jn78_5251 : ∀ (v5251 : Int32), 0 ≤ v5251.toInt → v5251.toInt ≤ 1000000 → WP g mX11_dayOf 78 [(0, .ref (ad g 0)), (1, .ref (ad g 38)), (2, .int v5032), (3, .long l5033), (5, .int i5162)] [.int v5251, .int i5162, .ref (ad g 40)] I5163 J5164 R (fun r I' J' R' => (MP g n L I' ∧ R' = R ∧ fz 49 g [0, 35, 36, 37, 40, 41, 38] I I' ∧ ((I' (ad g 38) 32).toInt ≤ (I (ad g 38) 32).toInt + 23760 ∧ (I' (ad g 38) 33).toInt = (I (ad g 38) 33).toInt + 1) ∧ I' (ad g 0) 10 = I (ad g 0) 10 ∧ I' (ad g 0) 14 = I (ad g 0) 14 ∧ I' (ad g 0) 68 = I (ad g 0) 68) ∧ ∃ v : Int64, r = some (.long v)) := by
            intro v5251 av5251 bv5251
            refine WQ_iast dX11_dayOf_78 (ly_is hy 40 13 rfl) (ly_n hy 40 3 rfl) (by omega) (by omega) (fun I5253 eI5253 => ?_)
            have hI5253 : MP g n L I5253 := by rw [eI5253]; exact (mp_w hy hI5163 (c := 40) (mi_r hy hI5163.1 (c := 40) (0) (0) (1000000) (by decide) (Or.inl (by decide)) (by decide) (by omega) (by omega)) (by decide) (by decide) (Or.inl (by decide)))
            have e5254 : I5253 (ad g 38) 32 = w5165 := by rw [eI5253, pp_ne _ _ (Or.inl (ly_ne hy (by decide) (by decide) (by decide)))]; exact ew5165
            have e5255 : I5253 (ad g 38) 33 = w5166 := by rw [eI5253, pp_ne _ _ (Or.inl (ly_ne hy (by decide) (by decide) (by decide)))]; exact ew5166
            have e5256 : I5253 (ad g 0) 10 = w5167 := by rw [eI5253, pp_ne _ _ (Or.inl (ly_ne hy (by decide) (by decide) (by decide)))]; exact ew5167
            have e5257 : I5253 (ad g 0) 14 = w5168 := by rw [eI5253, pp_ne _ _ (Or.inl (ly_ne hy (by decide) (by decide) (by decide)))]; exact ew5168
            have e5258 : I5253 (ad g 0) 68 = w5169 := by rw [eI5253, pp_ne _ _ (Or.inl (ly_ne hy (by decide) (by decide) (by decide)))]; exact ew5169
            have e5259 : I5253 (ad g 0) 1 = L := by rw [eI5253, pp_ne _ _ (Or.inl (ly_ne hy (by decide) (by decide) (by decide)))]; exact e5171
            have e5260 : I5253 (ad g 0) 11 = v5173 := by rw [eI5253, pp_ne _ _ (Or.inl (ly_ne hy (by decide) (by decide) (by decide)))]; exact ev5173
            have e5261 : I5253 (ad g 0) 64 = v5238 := by rw [eI5253, pp_ne _ _ (Or.inl (ly_ne hy (by decide) (by decide) (by decide)))]; exact ev5238
            have fr5262 : fz 49 g [0, 35, 36, 37, 40, 41, 38] I I5253 := by rw [eI5253]; exact fzm_pp hy fiI5163 (by decide) (by decide)
            clear eI5253
            refine WP_iinc (ls' := [(0, _), (1, _), (2, _), (3, _), (5, _)]) dX11_dayOf_79 rfl (by decide) rfl ?_
            have hv5263 : (i5162 + Int32.ofInt (1)).toInt = i5162.toInt + (1) := ia_n rfl (by omega) (by omega)
            generalize i5162 + Int32.ofInt (1) = v5263 at hv5263 ⊢
            refine WP_goto 22 dX11_dayOf_82 rfl ?_
            exact WP_sub (fc rfl (fc rfl (fc rfl (fc rfl (fc rfl fn))))) (ihlp22_5169 v5263 I5253 J5164 hI5253 fr5262 w5165 e5254 w5166 e5255 w5167 e5256 w5168 e5257 w5169 e5258 (by omega) (by omega) (by omega) (by omega) (by omega) (by omega) (by omega) (by omega))
          refine WQ_if_ne 60 dX11_dayOf_41 rfl (fun c5263 => ?_) (fun c5263 => ?_)
          · refine WP_ldcw (1000000) dX11_dayOf_60 kX11_460 ?_
            obtain ⟨v5265, hv5265, ev5265⟩ : ∃ v : Int32, v.toInt = 1000000 ∧ ((1000000) : Int32) = v := ⟨(1000000), rfl, rfl⟩
            rw [ev5265]; clear ev5265
            refine WP_goto 78 dX11_dayOf_63 rfl ?_
            exact WP_sub (fc rfl (fc rfl (fc rfl (fc rfl (fc rfl fn))))) (jn78_5251 v5265 (by omega) (by omega))
          · refine WP_aload_n dX11_dayOf_44 rfl ?_
            refine WP_getr dX11_dayOf_45 fX11_259 rfl (ly_is hy 0 11 rfl) (rf hr 0 41 23 (by decide)) ?_
            refine WQ_bipush (7) (7) dX11_dayOf_48 rfl rfl (fun v5266 hv5266 => ?_)
            refine WP_iload dX11_dayOf_50 rfl ?_
            refine WQ_imulK (7) dX11_dayOf_52 hv5266 (by omega) (by omega) (fun v5267 hv5267 => ?_)
            refine WP_iload_n dX11_dayOf_53 rfl ?_
            refine WQ_iadd dX11_dayOf_54 (by omega) (by omega) (fun v5268 hv5268 => ?_)
            refine WQ_ialdb dX11_dayOf_55 (ly_is hy 23 13 rfl) (ly_n hy 23 21 rfl) (by omega) (by omega) (fun q hq => BT_get hI5163.1.1 23 0 21 (-1) (0) (999) (by decide) q (Nat.zero_le _) hq) (fun v5269 av5269 bv5269 zv5269 => ?_)
            refine WQ_iconst (-1) (-1) dX11_dayOf_56 rfl rfl (fun v5270 hv5270 => ?_)
            refine WQ_icmp_ne 66 dX11_dayOf_57 rfl (fun c5270 => ?_) (fun c5270 => ?_)
            · refine WP_aload_n dX11_dayOf_66 rfl ?_
              refine WP_getr dX11_dayOf_67 fX11_259 rfl (ly_is hy 0 11 rfl) (rf hr 0 41 23 (by decide)) ?_
              refine WQ_bipush (7) (7) dX11_dayOf_70 rfl rfl (fun v5272 hv5272 => ?_)
              refine WP_iload dX11_dayOf_72 rfl ?_
              refine WQ_imulK (7) dX11_dayOf_74 hv5272 (by omega) (by omega) (fun v5273 hv5273 => ?_)
              refine WP_iload_n dX11_dayOf_75 rfl ?_
              refine WQ_iadd dX11_dayOf_76 (by omega) (by omega) (fun v5274 hv5274 => ?_)
              refine WQ_ialdb dX11_dayOf_77 (ly_is hy 23 13 rfl) (ly_n hy 23 21 rfl) (by omega) (by omega) (fun q hq => BT_get hI5163.1.1 23 0 21 (-1) (0) (999) (by decide) q (Nat.zero_le _) hq) (fun v5275 av5275 bv5275 zv5275 => ?_)
              have tv5275 : v5275.toInt = v5269.toInt := by rw [← zv5275, ← zv5269, show v5274.toInt.toNat = v5268.toInt.toNat by omega]
              exact WP_sub (fc rfl (fc rfl (fc rfl (fc rfl (fc rfl fn))))) (jn78_5251 v5275 (by omega) (by omega))
            · refine WP_ldcw (1000000) dX11_dayOf_60 kX11_460 ?_
              obtain ⟨v5276, hv5276, ev5276⟩ : ∃ v : Int32, v.toInt = 1000000 ∧ ((1000000) : Int32) = v := ⟨(1000000), rfl, rfl⟩
              rw [ev5276]; clear ev5276
              refine WP_goto 78 dX11_dayOf_63 rfl ?_
              exact WP_sub (fc rfl (fc rfl (fc rfl (fc rfl (fc rfl fn))))) (jn78_5251 v5276 (by omega) (by omega))
    exact WP_sub (fc rfl (fc rfl (fc rfl (fc rfl (fc rfl fn))))) (lp22_5169 _ v5161 I5151 J5152 hI5151 fr5153 w5160 ew5160 w5028 e5154 w5024 e5155 w5025 e5156 w5026 e5157 (by omega) (by omega) (by omega) (by omega) (by omega) (by omega) (by omega) (Nat.lt_succ_self _))
set_option maxHeartbeats 4000000 in
set_option maxRecDepth 100000 in
theorem sm_nightOfx_39 {g : GG} {n : Int} {L : Int32} (hy : Ly g)  {I : pI} {J : pJ} {R : pR} (hr : Rf g R) (hI : MP g n L I) (k : Int32) (da : Int32) (k_lo : 0 ≤ k.toInt) (k_hi : k.toInt ≤ 3) (da_lo : 0 ≤ da.toInt) (da_hi : da.toInt ≤ 6) (hn : 0 ≤ n ∧ n ≤ 40000) (hb : (I (ad g 39) 32).toInt ≤ 23760 * n + 700000 - 5940) : SP g mX11_nightOf [.ref (ad g 0), .ref (ad g 39), .int k, .int da] I J R (fun r I' J' R' => (MP g n L I' ∧ R' = R ∧ fz 49 g [39] I I' ∧ ((I' (ad g 39) 32).toInt ≤ (I (ad g 39) 32).toInt + 5940) ∧ I' (ad g 39) 33 = I (ad g 39) 33 ∧ I' (ad g 0) 10 = I (ad g 0) 10 ∧ I' (ad g 0) 14 = I (ad g 0) 14 ∧ I' (ad g 0) 68 = I (ad g 0) 68) ∧ r = none) := by
  refine SP_of ⟨by decide, rfl⟩ (Nat.le_of_ble_eq_true rfl) ?_
  have e5277 : I (ad g 0) 1 = L := hI.1.2
  have b5278 := BT_get hI.1.1 0 1 2 (0) (0) (900) (by decide) 1 (by decide) (by decide)
  rw [e5277] at b5278
  have fr0 : fz 49 g [39] I I := fz_rf
  obtain ⟨w5279, ew5279⟩ : ∃ w : Int32, I (ad g 39) 33 = w := ⟨_, rfl⟩
  have bw5279 := BT_get hI.1.1 39 33 34 (0) (1) (30) (by decide) 33 (by decide) (by decide)
  rw [ew5279] at bw5279
  obtain ⟨w5280, ew5280⟩ : ∃ w : Int32, I (ad g 0) 10 = w := ⟨_, rfl⟩
  have bw5280 := BT_get hI.1.1 0 10 11 (0) (0) (4) (by decide) 10 (by decide) (by decide)
  rw [ew5280] at bw5280
  obtain ⟨w5281, ew5281⟩ : ∃ w : Int32, I (ad g 0) 14 = w := ⟨_, rfl⟩
  have bw5281 := BT_get hI.1.1 0 14 15 (-1) (0) (2) (by decide) 14 (by decide) (by decide)
  rw [ew5281] at bw5281
  obtain ⟨w5282, ew5282⟩ : ∃ w : Int32, I (ad g 0) 68 = w := ⟨_, rfl⟩
  obtain ⟨w5283, ew5283⟩ : ∃ w : Int32, I (ad g 39) 32 = w := ⟨_, rfl⟩
  have bw5283 := BT_get hI.1.1 39 32 33 (0) (23760) (700000) (by decide) 32 (by decide) (by decide)
  rw [ew5283] at bw5283
  rw [ew5283] at hb
  refine WP_aload_n dX11_nightOf_0 rfl ?_
  refine WQ_iconst (0) (0) dX11_nightOf_1 rfl rfl (fun v5284 hv5284 => ?_)
  refine WP_iload_n dX11_nightOf_2 rfl ?_
  refine WQ_iadd dX11_nightOf_3 (by omega) (by omega) (fun v5285 hv5285 => ?_)
  refine WQ_ialdr dX11_nightOf_4 (ly_is hy 39 13 rfl) (ly_n hy 39 35 rfl) (by omega) (by omega) (a := 0) (b := 4) (by omega) (by omega) (fun q hq1 hq2 => BT_get hI.1.1 39 0 4 (0) (0) (60) (by decide) q hq1 hq2) (fun v5286 av5286 bv5286 => ?_)
  refine WP_aload_n dX11_nightOf_5 rfl ?_
  refine WP_iload_n dX11_nightOf_6 rfl ?_
  refine WP_callV1 (k := 11) dX11_nightOf_7 ⟨⟨⟨by decide, by decide⟩, zX11_loses⟩, lX11_414, by decide, rfl, vX11_loses.1, vX11_loses.2⟩ (ly_is hy 0 11 rfl) (sm_loses2 hy hr hI da (by omega) (by omega)) (Nat.le_of_ble_eq_true rfl) ?_
  intro r Ia Ja Ra hq
  obtain ⟨⟨ea, eb, ec⟩, v5287, rfl, av5287, bv5287⟩ := hq
  show WP _ _ _ _ (.int _ :: _) _ _ _ _
  rw [ea, eb, ec]
  clear ea eb ec Ia Ja Ra
  refine WP_callS2 dX11_nightOf_10 ⟨⟨⟨by decide, by decide⟩, zX11_stampsOf⟩, lX11_380, tX11_stampsOf⟩ (sm_stampsOf hy hr hI v5286 v5287 (by omega) (by omega) (by omega) (by omega)) (Nat.le_of_ble_eq_true rfl) ?_
  intro r Ia Ja Ra hq
  obtain ⟨⟨ea, eb, ec⟩, v5288, rfl, av5288, bv5288, cv5288⟩ := hq
  show WP _ _ _ _ (.int _ :: _) _ _ _ _
  rw [ea, eb, ec]
  clear ea eb ec Ia Ja Ra
  refine WP_istore (ls' := [(0, _), (1, _), (2, _), (3, _), (4, _)]) dX11_nightOf_13 (by decide) rfl ?_
  refine WP_aload_n dX11_nightOf_15 rfl ?_
  refine WQ_iconst (0) (0) dX11_nightOf_16 rfl rfl (fun v5289 hv5289 => ?_)
  refine WP_iload_n dX11_nightOf_17 rfl ?_
  refine WQ_iadd dX11_nightOf_18 (by omega) (by omega) (fun v5290 hv5290 => ?_)
  refine WP_aload_n dX11_nightOf_19 rfl ?_
  refine WP_aload_n dX11_nightOf_20 rfl ?_
  refine WQ_iconst (0) (0) dX11_nightOf_21 rfl rfl (fun v5291 hv5291 => ?_)
  refine WP_iload_n dX11_nightOf_22 rfl ?_
  refine WQ_iadd dX11_nightOf_23 (by omega) (by omega) (fun v5292 hv5292 => ?_)
  refine WQ_ialdr dX11_nightOf_24 (ly_is hy 39 13 rfl) (ly_n hy 39 35 rfl) (by omega) (by omega) (a := 0) (b := 4) (by omega) (by omega) (fun q hq1 hq2 => BT_get hI.1.1 39 0 4 (0) (0) (60) (by decide) q hq1 hq2) (fun v5293 av5293 bv5293 => ?_)
  refine WP_aload_n dX11_nightOf_25 rfl ?_
  refine WQ_iconst (4) (4) dX11_nightOf_26 rfl rfl (fun v5294 hv5294 => ?_)
  refine WP_iload_n dX11_nightOf_27 rfl ?_
  refine WQ_iadd dX11_nightOf_28 (by omega) (by omega) (fun v5295 hv5295 => ?_)
  refine WQ_ialdr dX11_nightOf_29 (ly_is hy 39 13 rfl) (ly_n hy 39 35 rfl) (by omega) (by omega) (a := 4) (b := 8) (by omega) (by omega) (fun q hq1 hq2 => BT_get hI.1.1 39 4 8 (0) (0) (5) (by decide) q hq1 hq2) (fun v5296 av5296 bv5296 => ?_)
  refine WP_aload_n dX11_nightOf_30 rfl ?_
  refine WP_iload_n dX11_nightOf_31 rfl ?_
  refine WP_callV1 (k := 11) dX11_nightOf_32 ⟨⟨⟨by decide, by decide⟩, zX11_loses⟩, lX11_414, by decide, rfl, vX11_loses.1, vX11_loses.2⟩ (ly_is hy 0 11 rfl) (sm_loses2 hy hr hI da (by omega) (by omega)) (Nat.le_of_ble_eq_true rfl) ?_
  intro r Ia Ja Ra hq
  obtain ⟨⟨ea, eb, ec⟩, v5297, rfl, av5297, bv5297⟩ := hq
  show WP _ _ _ _ (.int _ :: _) _ _ _ _
  rw [ea, eb, ec]
  clear ea eb ec Ia Ja Ra
  refine WP_callV3 (k := 11) dX11_nightOf_35 ⟨⟨⟨by decide, by decide⟩, zX11_behindNight⟩, lX11_398, by decide, rfl, vX11_behindNight.1, vX11_behindNight.2⟩ (ly_is hy 0 11 rfl) (sm_behindNight hy hr hI v5293 v5296 v5297 (by omega) (by omega) (by omega) (by omega) (by omega) (by omega)) (Nat.le_of_ble_eq_true rfl) ?_
  intro r Ia Ja Ra hq
  obtain ⟨⟨ea, eb, ec⟩, v5298, rfl, av5298, bv5298⟩ := hq
  show WP _ _ _ _ (.int _ :: _) _ _ _ _
  rw [ea, eb, ec]
  clear ea eb ec Ia Ja Ra
  refine WQ_iast dX11_nightOf_38 (ly_is hy 39 13 rfl) (ly_n hy 39 35 rfl) (by omega) (by omega) (fun I5299 eI5299 => ?_)
  have hI5299 : MP g n L I5299 := by rw [eI5299]; exact (mp_w hy hI (c := 39) (mi_rr hy hI.1 (c := 39) (0) (3) (0) (0) (60) (by decide) (Or.inl (by decide)) (by rw [cl (n := v5290.toInt.toNat) (by omega)]; omega) (by decide) (fun _ => ⟨by omega, by omega⟩)) (by decide) (by decide) (Or.inl (by decide)))
  have e5300 : I5299 (ad g 0) 1 = L := by rw [eI5299, pp_ne _ _ (Or.inl (ly_ne hy (by decide) (by decide) (by decide)))]; exact e5277
  have e5301 : I5299 (ad g 39) 33 = w5279 := by rw [eI5299, pp_ne _ _ (Or.inr (by rw [cl (x := v5290) (n := v5290.toInt.toNat) (by omega)]; omega))]; exact ew5279
  have e5302 : I5299 (ad g 0) 10 = w5280 := by rw [eI5299, pp_ne _ _ (Or.inl (ly_ne hy (by decide) (by decide) (by decide)))]; exact ew5280
  have e5303 : I5299 (ad g 0) 14 = w5281 := by rw [eI5299, pp_ne _ _ (Or.inl (ly_ne hy (by decide) (by decide) (by decide)))]; exact ew5281
  have e5304 : I5299 (ad g 0) 68 = w5282 := by rw [eI5299, pp_ne _ _ (Or.inl (ly_ne hy (by decide) (by decide) (by decide)))]; exact ew5282
  have e5305 : I5299 (ad g 39) 32 = w5283 := by rw [eI5299, pp_ne _ _ (Or.inr (by rw [cl (x := v5290) (n := v5290.toInt.toNat) (by omega)]; omega))]; exact ew5283
  have fr5306 : fz 49 g [39] I I5299 := by rw [eI5299]; exact fzm_pp hy fr0 (by decide) (by decide)
  clear eI5299
  refine WP_aload_n dX11_nightOf_39 rfl ?_
  refine WQ_bipush (12) (12) dX11_nightOf_40 rfl rfl (fun v5307 hv5307 => ?_)
  refine WP_iload_n dX11_nightOf_42 rfl ?_
  refine WQ_iadd dX11_nightOf_43 (by omega) (by omega) (fun v5308 hv5308 => ?_)
  refine WP_dup2 dX11_nightOf_44 rfl rfl ?_
  refine WQ_ialdu dX11_nightOf_45 (ly_is hy 39 13 rfl) (ly_n hy 39 35 rfl) (by omega) (by omega) (fun v5309 => ?_)
  refine WP_iload dX11_nightOf_46 rfl ?_
  refine WP_aload_n dX11_nightOf_48 rfl ?_
  refine WP_getr dX11_nightOf_49 fX11_235 rfl (ly_is hy 0 11 rfl) (rf hr 0 26 8 (by decide)) ?_
  refine WP_iload_n dX11_nightOf_52 rfl ?_
  refine WQ_iald dX11_nightOf_53 (ly_is hy 8 13 rfl) (ly_n hy 8 4 rfl) (by omega) (by omega) (fun q hq => BT_get hI5299.1.1 8 0 4 (0) (0) (99) (by decide) q (Nat.zero_le _) hq) (fun v5310 av5310 bv5310 ev5310 => ?_)
  clear ev5310
  refine WQ_imulb (999) (99) dX11_nightOf_54 ⟨by omega, by omega⟩ ⟨by omega, by omega⟩ (by decide) (fun v5311 pv5311 av5311 bv5311 cv5311 => ?_)
  refine WQ_iaddu dX11_nightOf_55 (fun v5312 => ?_)
  refine WQ_iast dX11_nightOf_56 (ly_is hy 39 13 rfl) (ly_n hy 39 35 rfl) (by omega) (by omega) (fun I5313 eI5313 => ?_)
  have hI5313 : MP g n L I5313 := by rw [eI5313]; exact (mp_w hy hI5299 (c := 39) (mi_rr hy hI5299.1 (c := 39) (12) (15) (0) (0) (0) (by decide) (Or.inl (by decide)) (by rw [cl (n := v5308.toInt.toNat) (by omega)]; omega) (by decide) (fun h => absurd h (by decide))) (by decide) (by decide) (Or.inl (by decide)))
  have e5314 : I5313 (ad g 0) 1 = L := by rw [eI5313, pp_ne _ _ (Or.inl (ly_ne hy (by decide) (by decide) (by decide)))]; exact e5300
  have e5315 : I5313 (ad g 39) 33 = w5279 := by rw [eI5313, pp_ne _ _ (Or.inr (by rw [cl (x := v5308) (n := v5308.toInt.toNat) (by omega)]; omega))]; exact e5301
  have e5316 : I5313 (ad g 0) 10 = w5280 := by rw [eI5313, pp_ne _ _ (Or.inl (ly_ne hy (by decide) (by decide) (by decide)))]; exact e5302
  have e5317 : I5313 (ad g 0) 14 = w5281 := by rw [eI5313, pp_ne _ _ (Or.inl (ly_ne hy (by decide) (by decide) (by decide)))]; exact e5303
  have e5318 : I5313 (ad g 0) 68 = w5282 := by rw [eI5313, pp_ne _ _ (Or.inl (ly_ne hy (by decide) (by decide) (by decide)))]; exact e5304
  have e5319 : I5313 (ad g 39) 32 = w5283 := by rw [eI5313, pp_ne _ _ (Or.inr (by rw [cl (x := v5308) (n := v5308.toInt.toNat) (by omega)]; omega))]; exact e5305
  have fr5320 : fz 49 g [39] I I5313 := by rw [eI5313]; exact fzm_pp hy fr5306 (by decide) (by decide)
  clear eI5313
  refine WP_aload_n dX11_nightOf_57 rfl ?_
  refine WQ_bipush (32) (32) dX11_nightOf_58 rfl rfl (fun v5321 hv5321 => ?_)
  refine WP_dup2 dX11_nightOf_60 rfl rfl ?_
  refine WQ_ialdm (z := 32) dX11_nightOf_61 (ly_is hy 39 13 rfl) (ly_n hy 39 35 rfl) hv5321 (by decide) e5319 ?_
  refine WP_iload dX11_nightOf_62 rfl ?_
  refine WP_aload_n dX11_nightOf_64 rfl ?_
  refine WP_getr dX11_nightOf_65 fX11_235 rfl (ly_is hy 0 11 rfl) (rf hr 0 26 8 (by decide)) ?_
  refine WP_iload_n dX11_nightOf_68 rfl ?_
  refine WQ_iald dX11_nightOf_69 (ly_is hy 8 13 rfl) (ly_n hy 8 4 rfl) (by omega) (by omega) (fun q hq => BT_get hI5313.1.1 8 0 4 (0) (0) (99) (by decide) q (Nat.zero_le _) hq) (fun v5323 av5323 bv5323 ev5323 => ?_)
  clear ev5323
  refine WQ_imulb (999) (99) dX11_nightOf_70 ⟨by omega, by omega⟩ ⟨by omega, by omega⟩ (by decide) (fun v5324 pv5324 av5324 bv5324 cv5324 => ?_)
  refine WQ_iadd dX11_nightOf_71 (by omega) (by omega) (fun v5325 hv5325 => ?_)
  refine WQ_iast dX11_nightOf_72 (ly_is hy 39 13 rfl) (ly_n hy 39 35 rfl) (by omega) (by omega) (fun I5326 fI5326 => ?_)
  have eI5326 := fI5326
  rw [cl (x := v5321) (n := 32) (by omega)] at eI5326
  clear fI5326
  have hI5326 : MP g n L I5326 := by rw [eI5326]; exact (mp_w hy hI5313 (c := 39) (mi_f hy hI5313.1 (c := 39) (0) (23760) (700000) (by decide) (Or.inl (by decide)) (by decide) (by omega) (by omega)) (by decide) (by decide) (Or.inl (by decide)))
  have e5327 : I5326 (ad g 0) 1 = L := by rw [eI5326, pp_ne _ _ (Or.inl (ly_ne hy (by decide) (by decide) (by decide)))]; exact e5314
  have e5328 : I5326 (ad g 39) 33 = w5279 := by rw [eI5326, pp_ne _ _ (Or.inr (by decide))]; exact e5315
  have e5329 : I5326 (ad g 0) 10 = w5280 := by rw [eI5326, pp_ne _ _ (Or.inl (ly_ne hy (by decide) (by decide) (by decide)))]; exact e5316
  have e5330 : I5326 (ad g 0) 14 = w5281 := by rw [eI5326, pp_ne _ _ (Or.inl (ly_ne hy (by decide) (by decide) (by decide)))]; exact e5317
  have e5331 : I5326 (ad g 0) 68 = w5282 := by rw [eI5326, pp_ne _ _ (Or.inl (ly_ne hy (by decide) (by decide) (by decide)))]; exact e5318
  have e5332 : I5326 (ad g 39) 32 = v5325 := by rw [eI5326, pp_self]
  have fr5333 : fz 49 g [39] I I5326 := by rw [eI5326]; exact fzm_pp hy fr5320 (by decide) (by decide)
  clear eI5326
  refine WP_aload_n dX11_nightOf_73 rfl ?_
  refine WP_aload_n dX11_nightOf_74 rfl ?_
  refine WQ_iconst (4) (4) dX11_nightOf_75 rfl rfl (fun v5334 hv5334 => ?_)
  refine WP_iload_n dX11_nightOf_76 rfl ?_
  refine WQ_iadd dX11_nightOf_77 (by omega) (by omega) (fun v5335 hv5335 => ?_)
  refine WQ_ialdr dX11_nightOf_78 (ly_is hy 39 13 rfl) (ly_n hy 39 35 rfl) (by omega) (by omega) (a := 4) (b := 8) (by omega) (by omega) (fun q hq1 hq2 => BT_get hI5326.1.1 39 4 8 (0) (0) (5) (by decide) q hq1 hq2) (fun v5336 av5336 bv5336 => ?_)
  refine WP_callV1 (k := 11) dX11_nightOf_79 ⟨⟨⟨by decide, by decide⟩, zX11_leftOf⟩, lX11_420, by decide, rfl, vX11_leftOf.1, vX11_leftOf.2⟩ (ly_is hy 0 11 rfl) (sm_leftOf hy hr hI5326 v5336 (by omega) (by omega)) (Nat.le_of_ble_eq_true rfl) ?_
  intro r Ia Ja Ra hq
  obtain ⟨⟨ea, eb, ec⟩, v5337, rfl, av5337, bv5337⟩ := hq
  show WP _ _ _ _ (.int _ :: _) _ _ _ _
  rw [ea, eb, ec]
  clear ea eb ec Ia Ja Ra
  refine WP_istore (ls' := [(0, _), (1, _), (2, _), (3, _), (4, _), (5, _)]) dX11_nightOf_82 (by decide) rfl ?_
  refine WP_aload_n dX11_nightOf_84 rfl ?_
  refine WQ_bipush (20) (20) dX11_nightOf_85 rfl rfl (fun v5338 hv5338 => ?_)
  refine WP_iload_n dX11_nightOf_87 rfl ?_
  refine WQ_iadd dX11_nightOf_88 (by omega) (by omega) (fun v5339 hv5339 => ?_)
  refine WP_dup2 dX11_nightOf_89 rfl rfl ?_
  refine WQ_ialdu dX11_nightOf_90 (ly_is hy 39 13 rfl) (ly_n hy 39 35 rfl) (by omega) (by omega) (fun v5340 => ?_)
  refine WP_aload_n dX11_nightOf_91 rfl ?_
  refine WQ_iconst (4) (4) dX11_nightOf_92 rfl rfl (fun v5341 hv5341 => ?_)
  refine WP_iload_n dX11_nightOf_93 rfl ?_
  refine WQ_iadd dX11_nightOf_94 (by omega) (by omega) (fun v5342 hv5342 => ?_)
  refine WQ_ialdr dX11_nightOf_95 (ly_is hy 39 13 rfl) (ly_n hy 39 35 rfl) (by omega) (by omega) (a := 4) (b := 8) (by omega) (by omega) (fun q hq1 hq2 => BT_get hI5326.1.1 39 4 8 (0) (0) (5) (by decide) q hq1 hq2) (fun v5343 av5343 bv5343 => ?_)
  refine WP_iload dX11_nightOf_96 rfl ?_
  refine WQ_isub dX11_nightOf_98 (by omega) (by omega) (fun v5344 hv5344 => ?_)
  refine WP_aload_n dX11_nightOf_99 rfl ?_
  refine WP_getr dX11_nightOf_100 fX11_235 rfl (ly_is hy 0 11 rfl) (rf hr 0 26 8 (by decide)) ?_
  refine WP_iload_n dX11_nightOf_103 rfl ?_
  refine WQ_iald dX11_nightOf_104 (ly_is hy 8 13 rfl) (ly_n hy 8 4 rfl) (by omega) (by omega) (fun q hq => BT_get hI5326.1.1 8 0 4 (0) (0) (99) (by decide) q (Nat.zero_le _) hq) (fun v5345 av5345 bv5345 ev5345 => ?_)
  clear ev5345
  refine WQ_imulu dX11_nightOf_105 (fun v5346 => ?_)
  refine WQ_iaddu dX11_nightOf_106 (fun v5347 => ?_)
  refine WQ_iast dX11_nightOf_107 (ly_is hy 39 13 rfl) (ly_n hy 39 35 rfl) (by omega) (by omega) (fun I5348 eI5348 => ?_)
  have hI5348 : MP g n L I5348 := by rw [eI5348]; exact (mp_w hy hI5326 (c := 39) (mi_rr hy hI5326.1 (c := 39) (20) (23) (0) (0) (0) (by decide) (Or.inl (by decide)) (by rw [cl (n := v5339.toInt.toNat) (by omega)]; omega) (by decide) (fun h => absurd h (by decide))) (by decide) (by decide) (Or.inl (by decide)))
  have e5349 : I5348 (ad g 0) 1 = L := by rw [eI5348, pp_ne _ _ (Or.inl (ly_ne hy (by decide) (by decide) (by decide)))]; exact e5327
  have e5350 : I5348 (ad g 39) 33 = w5279 := by rw [eI5348, pp_ne _ _ (Or.inr (by rw [cl (x := v5339) (n := v5339.toInt.toNat) (by omega)]; omega))]; exact e5328
  have e5351 : I5348 (ad g 0) 10 = w5280 := by rw [eI5348, pp_ne _ _ (Or.inl (ly_ne hy (by decide) (by decide) (by decide)))]; exact e5329
  have e5352 : I5348 (ad g 0) 14 = w5281 := by rw [eI5348, pp_ne _ _ (Or.inl (ly_ne hy (by decide) (by decide) (by decide)))]; exact e5330
  have e5353 : I5348 (ad g 0) 68 = w5282 := by rw [eI5348, pp_ne _ _ (Or.inl (ly_ne hy (by decide) (by decide) (by decide)))]; exact e5331
  have e5354 : I5348 (ad g 39) 32 = v5325 := by rw [eI5348, pp_ne _ _ (Or.inr (by rw [cl (x := v5339) (n := v5339.toInt.toNat) (by omega)]; omega))]; exact e5332
  have fr5355 : fz 49 g [39] I I5348 := by rw [eI5348]; exact fzm_pp hy fr5333 (by decide) (by decide)
  clear eI5348
  refine WP_aload_n dX11_nightOf_108 rfl ?_
  refine WQ_iconst (4) (4) dX11_nightOf_109 rfl rfl (fun v5356 hv5356 => ?_)
  refine WP_iload_n dX11_nightOf_110 rfl ?_
  refine WQ_iadd dX11_nightOf_111 (by omega) (by omega) (fun v5357 hv5357 => ?_)
  refine WP_iload dX11_nightOf_112 rfl ?_
  refine WQ_iast dX11_nightOf_114 (ly_is hy 39 13 rfl) (ly_n hy 39 35 rfl) (by omega) (by omega) (fun I5358 eI5358 => ?_)
  have hI5358 : MP g n L I5358 := by rw [eI5358]; exact (mp_w hy hI5348 (c := 39) (mi_rr hy hI5348.1 (c := 39) (4) (7) (0) (0) (5) (by decide) (Or.inl (by decide)) (by rw [cl (n := v5357.toInt.toNat) (by omega)]; omega) (by decide) (fun _ => ⟨by omega, by omega⟩)) (by decide) (by decide) (Or.inl (by decide)))
  have e5359 : I5358 (ad g 0) 1 = L := by rw [eI5358, pp_ne _ _ (Or.inl (ly_ne hy (by decide) (by decide) (by decide)))]; exact e5349
  have e5360 : I5358 (ad g 39) 33 = w5279 := by rw [eI5358, pp_ne _ _ (Or.inr (by rw [cl (x := v5357) (n := v5357.toInt.toNat) (by omega)]; omega))]; exact e5350
  have e5361 : I5358 (ad g 0) 10 = w5280 := by rw [eI5358, pp_ne _ _ (Or.inl (ly_ne hy (by decide) (by decide) (by decide)))]; exact e5351
  have e5362 : I5358 (ad g 0) 14 = w5281 := by rw [eI5358, pp_ne _ _ (Or.inl (ly_ne hy (by decide) (by decide) (by decide)))]; exact e5352
  have e5363 : I5358 (ad g 0) 68 = w5282 := by rw [eI5358, pp_ne _ _ (Or.inl (ly_ne hy (by decide) (by decide) (by decide)))]; exact e5353
  have e5364 : I5358 (ad g 39) 32 = v5325 := by rw [eI5358, pp_ne _ _ (Or.inr (by rw [cl (x := v5357) (n := v5357.toInt.toNat) (by omega)]; omega))]; exact e5354
  have fr5365 : fz 49 g [39] I I5358 := by rw [eI5358]; exact fzm_pp hy fr5355 (by decide) (by decide)
  clear eI5358
  exact WP_vret dX11_nightOf_115 rfl ⟨⟨hI5358, rfl, fr5365, ⟨(by rw [e5364, ew5283]; omega), (by rw [e5360, ew5279] <;> exact (eq32 _ _).mpr (by omega)), (by rw [e5361, ew5280] <;> exact (eq32 _ _).mpr (by omega)), (by rw [e5362, ew5281] <;> exact (eq32 _ _).mpr (by omega)), (by rw [e5363, ew5282] <;> exact (eq32 _ _).mpr (by omega))⟩⟩, rfl⟩
set_option maxHeartbeats 4000000 in
set_option maxRecDepth 100000 in
theorem sm_openChestx_39 {g : GG} {n : Int} {L : Int32} (hy : Ly g)  {I : pI} {J : pJ} {R : pR} (hr : Rf g R) (hI : MP g n L I)   (hn : 0 ≤ n ∧ n ≤ 40000) (hb : 0 ≤ (I (ad g 39) 32).toInt) : SP g mX11_openChest [.ref (ad g 0), .ref (ad g 39)] I J R (fun r I' J' R' => (MP g n L I' ∧ R' = R ∧ fz 49 g [39] I I' ∧ ((I' (ad g 39) 32).toInt ≤ (I (ad g 39) 32).toInt) ∧ I' (ad g 39) 33 = I (ad g 39) 33 ∧ I' (ad g 0) 10 = I (ad g 0) 10 ∧ I' (ad g 0) 14 = I (ad g 0) 14 ∧ I' (ad g 0) 68 = I (ad g 0) 68) ∧ r = none) := by
  refine SP_of ⟨by decide, rfl⟩ (Nat.le_of_ble_eq_true rfl) ?_
  have e5366 : I (ad g 0) 1 = L := hI.1.2
  have b5367 := BT_get hI.1.1 0 1 2 (0) (0) (900) (by decide) 1 (by decide) (by decide)
  rw [e5366] at b5367
  have fr0 : fz 49 g [39] I I := fz_rf
  obtain ⟨w5368, ew5368⟩ : ∃ w : Int32, I (ad g 39) 33 = w := ⟨_, rfl⟩
  have bw5368 := BT_get hI.1.1 39 33 34 (0) (1) (30) (by decide) 33 (by decide) (by decide)
  rw [ew5368] at bw5368
  obtain ⟨w5369, ew5369⟩ : ∃ w : Int32, I (ad g 0) 10 = w := ⟨_, rfl⟩
  have bw5369 := BT_get hI.1.1 0 10 11 (0) (0) (4) (by decide) 10 (by decide) (by decide)
  rw [ew5369] at bw5369
  obtain ⟨w5370, ew5370⟩ : ∃ w : Int32, I (ad g 0) 14 = w := ⟨_, rfl⟩
  have bw5370 := BT_get hI.1.1 0 14 15 (-1) (0) (2) (by decide) 14 (by decide) (by decide)
  rw [ew5370] at bw5370
  obtain ⟨w5371, ew5371⟩ : ∃ w : Int32, I (ad g 0) 68 = w := ⟨_, rfl⟩
  obtain ⟨w5372, ew5372⟩ : ∃ w : Int32, I (ad g 39) 32 = w := ⟨_, rfl⟩
  have bw5372 := BT_get hI.1.1 39 32 33 (0) (23760) (700000) (by decide) 32 (by decide) (by decide)
  rw [ew5372] at bw5372
  rw [ew5372] at hb
  refine WP_aload_n dX11_openChest_0 rfl ?_
  refine WQ_geti dX11_openChest_1 fX11_221 rfl (ly_is hy 0 11 rfl) (BT_get hI.1.1 0 13 14 (-1) (0) (3) (by decide) 13 (by decide) (by decide)) (fun v5373 ev5373 av5373 bv5373 => ?_)
  refine WQ_iconst (-1) (-1) dX11_openChest_4 rfl rfl (fun v5374 hv5374 => ?_)
  refine WQ_icmp_ne 9 dX11_openChest_5 rfl (fun c5374 => ?_) (fun c5374 => ?_)
  · have kc := pc_lt hI
    rw [ev5373, ew5369] at kc
    refine WP_aload_n dX11_openChest_9 rfl ?_
    refine WQ_bipush (32) (32) dX11_openChest_10 rfl rfl (fun v5376 hv5376 => ?_)
    refine WQ_ialdm (z := 32) dX11_openChest_12 (ly_is hy 39 13 rfl) (ly_n hy 39 35 rfl) hv5376 (by decide) ew5372 ?_
    refine WP_aload_n dX11_openChest_13 rfl ?_
    refine WP_getr dX11_openChest_14 fX11_235 rfl (ly_is hy 0 11 rfl) (rf hr 0 26 8 (by decide)) ?_
    refine WP_aload_n dX11_openChest_17 rfl ?_
    refine WQ_getim dX11_openChest_18 fX11_221 rfl (ly_is hy 0 11 rfl) ev5373 ?_
    refine WQ_ialdq (q := v5373.toInt.toNat) dX11_openChest_21 (ly_is hy 8 13 rfl) (ly_n hy 8 4 rfl) (by omega) (by omega) (by omega) (pp_get hI (by omega) (by rw [ew5369]; omega)) (fun v5378 av5378 bv5378 ev5378 => ?_)
    refine WQ_idivb dX11_openChest_22 (by omega) (by omega) (fun v5379 pv5379 av5379 bv5379 cv5379 => ?_)
    refine WP_istore_n (ls' := [(0, _), (1, _), (2, _)]) dX11_openChest_23 (by decide) rfl ?_
    refine WP_aload_n dX11_openChest_24 rfl ?_
    refine WQ_bipush (32) (32) dX11_openChest_25 rfl rfl (fun v5380 hv5380 => ?_)
    refine WP_dup2 dX11_openChest_27 rfl rfl ?_
    refine WQ_ialdm (z := 32) dX11_openChest_28 (ly_is hy 39 13 rfl) (ly_n hy 39 35 rfl) hv5380 (by decide) ew5372 ?_
    refine WP_iload_n dX11_openChest_29 rfl ?_
    refine WP_aload_n dX11_openChest_30 rfl ?_
    refine WP_getr dX11_openChest_31 fX11_235 rfl (ly_is hy 0 11 rfl) (rf hr 0 26 8 (by decide)) ?_
    refine WP_aload_n dX11_openChest_34 rfl ?_
    refine WQ_getim dX11_openChest_35 fX11_221 rfl (ly_is hy 0 11 rfl) ev5373 ?_
    refine WQ_ialde dX11_openChest_38 (ly_is hy 8 13 rfl) (ly_n hy 8 4 rfl) (by omega) (by omega) ev5378 ?_
    have knv5383 : 0 ≤ v5379.toInt * v5378.toInt := Int.mul_nonneg (by omega) (by omega)
    refine WQ_imulx dX11_openChest_39 (by omega) (by omega) (fun v5383 pv5383 => ?_)
    refine WQ_isub dX11_openChest_40 (by omega) (by omega) (fun v5384 hv5384 => ?_)
    refine WQ_iast dX11_openChest_41 (ly_is hy 39 13 rfl) (ly_n hy 39 35 rfl) (by omega) (by omega) (fun I5385 fI5385 => ?_)
    have eI5385 := fI5385
    rw [cl (x := v5380) (n := 32) (by omega)] at eI5385
    clear fI5385
    have hI5385 : MP g n L I5385 := by rw [eI5385]; exact (mp_w hy hI (c := 39) (mi_f hy hI.1 (c := 39) (0) (23760) (700000) (by decide) (Or.inl (by decide)) (by decide) (by omega) (by omega)) (by decide) (by decide) (Or.inl (by decide)))
    have e5386 : I5385 (ad g 0) 1 = L := by rw [eI5385, pp_ne _ _ (Or.inl (ly_ne hy (by decide) (by decide) (by decide)))]; exact e5366
    have e5387 : I5385 (ad g 39) 33 = w5368 := by rw [eI5385, pp_ne _ _ (Or.inr (by decide))]; exact ew5368
    have e5388 : I5385 (ad g 0) 10 = w5369 := by rw [eI5385, pp_ne _ _ (Or.inl (ly_ne hy (by decide) (by decide) (by decide)))]; exact ew5369
    have e5389 : I5385 (ad g 0) 14 = w5370 := by rw [eI5385, pp_ne _ _ (Or.inl (ly_ne hy (by decide) (by decide) (by decide)))]; exact ew5370
    have e5390 : I5385 (ad g 0) 68 = w5371 := by rw [eI5385, pp_ne _ _ (Or.inl (ly_ne hy (by decide) (by decide) (by decide)))]; exact ew5371
    have e5391 : I5385 (ad g 0) 13 = v5373 := by rw [eI5385, pp_ne _ _ (Or.inl (ly_ne hy (by decide) (by decide) (by decide)))]; exact ev5373
    have e5392 : I5385 (ad g 8) v5373.toNatClampNeg = v5378 := by rw [eI5385, pp_ne _ _ (Or.inl (ly_ne hy (by decide) (by decide) (by decide)))]; exact ev5378
    have e5393 : I5385 (ad g 39) 32 = v5384 := by rw [eI5385, pp_self]
    have fr5394 : fz 49 g [39] I I5385 := by rw [eI5385]; exact fzm_pp hy fr0 (by decide) (by decide)
    clear eI5385
    refine WP_aload_n dX11_openChest_42 rfl ?_
    refine WQ_bipush (24) (24) dX11_openChest_43 rfl rfl (fun v5395 hv5395 => ?_)
    refine WP_aload_n dX11_openChest_45 rfl ?_
    refine WQ_getim dX11_openChest_46 fX11_221 rfl (ly_is hy 0 11 rfl) e5391 ?_
    refine WQ_iadd dX11_openChest_49 (by omega) (by omega) (fun v5396 hv5396 => ?_)
    refine WP_dup2 dX11_openChest_50 rfl rfl ?_
    refine WQ_ialdu dX11_openChest_51 (ly_is hy 39 13 rfl) (ly_n hy 39 35 rfl) (by omega) (by omega) (fun v5397 => ?_)
    refine WP_iload_n dX11_openChest_52 rfl ?_
    refine WP_aload_n dX11_openChest_53 rfl ?_
    refine WP_getr dX11_openChest_54 fX11_235 rfl (ly_is hy 0 11 rfl) (rf hr 0 26 8 (by decide)) ?_
    refine WP_aload_n dX11_openChest_57 rfl ?_
    refine WQ_getim dX11_openChest_58 fX11_221 rfl (ly_is hy 0 11 rfl) e5391 ?_
    refine WQ_ialde dX11_openChest_61 (ly_is hy 8 13 rfl) (ly_n hy 8 4 rfl) (by omega) (by omega) e5392 ?_
    have knv5399 : 0 ≤ v5379.toInt * v5378.toInt := Int.mul_nonneg (by omega) (by omega)
    refine WQ_imulx dX11_openChest_62 (by omega) (by omega) (fun v5399 pv5399 => ?_)
    refine WQ_iaddu dX11_openChest_63 (fun v5400 => ?_)
    refine WQ_iast dX11_openChest_64 (ly_is hy 39 13 rfl) (ly_n hy 39 35 rfl) (by omega) (by omega) (fun I5401 eI5401 => ?_)
    have hI5401 : MP g n L I5401 := by rw [eI5401]; exact (mp_w hy hI5385 (c := 39) (mi_rr hy hI5385.1 (c := 39) (24) (27) (0) (0) (0) (by decide) (Or.inl (by decide)) (by rw [cl (n := v5396.toInt.toNat) (by omega)]; omega) (by decide) (fun h => absurd h (by decide))) (by decide) (by decide) (Or.inl (by decide)))
    have e5402 : I5401 (ad g 0) 1 = L := by rw [eI5401, pp_ne _ _ (Or.inl (ly_ne hy (by decide) (by decide) (by decide)))]; exact e5386
    have e5403 : I5401 (ad g 39) 33 = w5368 := by rw [eI5401, pp_ne _ _ (Or.inr (by rw [cl (x := v5396) (n := v5396.toInt.toNat) (by omega)]; omega))]; exact e5387
    have e5404 : I5401 (ad g 0) 10 = w5369 := by rw [eI5401, pp_ne _ _ (Or.inl (ly_ne hy (by decide) (by decide) (by decide)))]; exact e5388
    have e5405 : I5401 (ad g 0) 14 = w5370 := by rw [eI5401, pp_ne _ _ (Or.inl (ly_ne hy (by decide) (by decide) (by decide)))]; exact e5389
    have e5406 : I5401 (ad g 0) 68 = w5371 := by rw [eI5401, pp_ne _ _ (Or.inl (ly_ne hy (by decide) (by decide) (by decide)))]; exact e5390
    have e5407 : I5401 (ad g 0) 13 = v5373 := by rw [eI5401, pp_ne _ _ (Or.inl (ly_ne hy (by decide) (by decide) (by decide)))]; exact e5391
    have e5408 : I5401 (ad g 8) v5373.toNatClampNeg = v5378 := by rw [eI5401, pp_ne _ _ (Or.inl (ly_ne hy (by decide) (by decide) (by decide)))]; exact e5392
    have e5409 : I5401 (ad g 39) 32 = v5384 := by rw [eI5401, pp_ne _ _ (Or.inr (by rw [cl (x := v5396) (n := v5396.toInt.toNat) (by omega)]; omega))]; exact e5393
    have fr5410 : fz 49 g [39] I I5401 := by rw [eI5401]; exact fzm_pp hy fr5394 (by decide) (by decide)
    clear eI5401
    refine WP_aload_n dX11_openChest_65 rfl ?_
    refine WQ_iconst (0) (0) dX11_openChest_66 rfl rfl (fun v5411 hv5411 => ?_)
    refine WP_aload_n dX11_openChest_67 rfl ?_
    refine WQ_getim dX11_openChest_68 fX11_221 rfl (ly_is hy 0 11 rfl) e5407 ?_
    refine WQ_iadd dX11_openChest_71 (by omega) (by omega) (fun v5412 hv5412 => ?_)
    refine WQ_bipush (60) (60) dX11_openChest_72 rfl rfl (fun v5413 hv5413 => ?_)
    refine WP_aload_n dX11_openChest_74 rfl ?_
    refine WQ_iconst (0) (0) dX11_openChest_75 rfl rfl (fun v5414 hv5414 => ?_)
    refine WP_aload_n dX11_openChest_76 rfl ?_
    refine WQ_getim dX11_openChest_77 fX11_221 rfl (ly_is hy 0 11 rfl) e5407 ?_
    refine WQ_iadd dX11_openChest_80 (by omega) (by omega) (fun v5415 hv5415 => ?_)
    refine WQ_ialdr dX11_openChest_81 (ly_is hy 39 13 rfl) (ly_n hy 39 35 rfl) (by omega) (by omega) (a := 0) (b := 4) (by omega) (by omega) (fun q hq1 hq2 => BT_get hI5401.1.1 39 0 4 (0) (0) (60) (by decide) q hq1 hq2) (fun v5416 av5416 bv5416 => ?_)
    refine WP_iload_n dX11_openChest_82 rfl ?_
    refine WQ_iadd dX11_openChest_83 (by omega) (by omega) (fun v5417 hv5417 => ?_)
    refine WQ_min dX11_openChest_84 lX11_417 ⟨by decide, Nat.le_of_ble_eq_true rfl⟩ (fun v5418 av5418 bv5418 cv5418 => ?_)
    refine WQ_iast dX11_openChest_87 (ly_is hy 39 13 rfl) (ly_n hy 39 35 rfl) (by omega) (by omega) (fun I5419 eI5419 => ?_)
    have hI5419 : MP g n L I5419 := by rw [eI5419]; exact (mp_w hy hI5401 (c := 39) (mi_rr hy hI5401.1 (c := 39) (0) (3) (0) (0) (60) (by decide) (Or.inl (by decide)) (by rw [cl (n := v5412.toInt.toNat) (by omega)]; omega) (by decide) (fun _ => ⟨by omega, by omega⟩)) (by decide) (by decide) (Or.inl (by decide)))
    have e5420 : I5419 (ad g 0) 1 = L := by rw [eI5419, pp_ne _ _ (Or.inl (ly_ne hy (by decide) (by decide) (by decide)))]; exact e5402
    have e5421 : I5419 (ad g 39) 33 = w5368 := by rw [eI5419, pp_ne _ _ (Or.inr (by rw [cl (x := v5412) (n := v5412.toInt.toNat) (by omega)]; omega))]; exact e5403
    have e5422 : I5419 (ad g 0) 10 = w5369 := by rw [eI5419, pp_ne _ _ (Or.inl (ly_ne hy (by decide) (by decide) (by decide)))]; exact e5404
    have e5423 : I5419 (ad g 0) 14 = w5370 := by rw [eI5419, pp_ne _ _ (Or.inl (ly_ne hy (by decide) (by decide) (by decide)))]; exact e5405
    have e5424 : I5419 (ad g 0) 68 = w5371 := by rw [eI5419, pp_ne _ _ (Or.inl (ly_ne hy (by decide) (by decide) (by decide)))]; exact e5406
    have e5425 : I5419 (ad g 0) 13 = v5373 := by rw [eI5419, pp_ne _ _ (Or.inl (ly_ne hy (by decide) (by decide) (by decide)))]; exact e5407
    have e5426 : I5419 (ad g 8) v5373.toNatClampNeg = v5378 := by rw [eI5419, pp_ne _ _ (Or.inl (ly_ne hy (by decide) (by decide) (by decide)))]; exact e5408
    have e5427 : I5419 (ad g 39) 32 = v5384 := by rw [eI5419, pp_ne _ _ (Or.inr (by rw [cl (x := v5412) (n := v5412.toInt.toNat) (by omega)]; omega))]; exact e5409
    have fr5428 : fz 49 g [39] I I5419 := by rw [eI5419]; exact fzm_pp hy fr5410 (by decide) (by decide)
    clear eI5419
    exact WP_vret dX11_openChest_88 rfl ⟨⟨hI5419, rfl, fr5428, ⟨(by rw [e5427, ew5372]; omega), (by rw [e5421, ew5368] <;> exact (eq32 _ _).mpr (by omega)), (by rw [e5422, ew5369] <;> exact (eq32 _ _).mpr (by omega)), (by rw [e5423, ew5370] <;> exact (eq32 _ _).mpr (by omega)), (by rw [e5424, ew5371] <;> exact (eq32 _ _).mpr (by omega))⟩⟩, rfl⟩
  · exact WP_vret dX11_openChest_8 rfl ⟨⟨hI, rfl, fr0, ⟨(by omega), rfl, rfl, rfl, rfl⟩⟩, rfl⟩
set_option maxHeartbeats 4000000 in
set_option maxRecDepth 100000 in
theorem sm_dayOf_39 {g : GG} {n : Int} {L : Int32} (hy : Ly g)  {I : pI} {J : pJ} {R : pR} (hr : Rf g R) (hI : MP g n L I)   (hn : 0 ≤ n ∧ n ≤ 40000) (hb : (I (ad g 39) 32).toInt ≤ 23760 * n + 700000 - 23760 ∧ (I (ad g 39) 33).toInt ≤ n + 30 - 1) : SP g mX11_dayOf [.ref (ad g 0), .ref (ad g 39)] I J R (fun r I' J' R' => (MP g n L I' ∧ R' = R ∧ fz 49 g [0, 35, 36, 37, 40, 41, 39] I I' ∧ ((I' (ad g 39) 32).toInt ≤ (I (ad g 39) 32).toInt + 23760 ∧ (I' (ad g 39) 33).toInt = (I (ad g 39) 33).toInt + 1) ∧ I' (ad g 0) 10 = I (ad g 0) 10 ∧ I' (ad g 0) 14 = I (ad g 0) 14 ∧ I' (ad g 0) 68 = I (ad g 0) 68) ∧ ∃ v : Int64, r = some (.long v)) := by
  refine SP_of ⟨by decide, rfl⟩ (Nat.le_of_ble_eq_true rfl) ?_
  have e5429 : I (ad g 0) 1 = L := hI.1.2
  have b5430 := BT_get hI.1.1 0 1 2 (0) (0) (900) (by decide) 1 (by decide) (by decide)
  rw [e5429] at b5430
  have fr0 : fz 49 g [0, 35, 36, 37, 40, 41, 39] I I := fz_rf
  obtain ⟨w5431, ew5431⟩ : ∃ w : Int32, I (ad g 0) 10 = w := ⟨_, rfl⟩
  have bw5431 := BT_get hI.1.1 0 10 11 (0) (0) (4) (by decide) 10 (by decide) (by decide)
  rw [ew5431] at bw5431
  obtain ⟨w5432, ew5432⟩ : ∃ w : Int32, I (ad g 0) 14 = w := ⟨_, rfl⟩
  have bw5432 := BT_get hI.1.1 0 14 15 (-1) (0) (2) (by decide) 14 (by decide) (by decide)
  rw [ew5432] at bw5432
  obtain ⟨w5433, ew5433⟩ : ∃ w : Int32, I (ad g 0) 68 = w := ⟨_, rfl⟩
  obtain ⟨w5434, ew5434⟩ : ∃ w : Int32, I (ad g 39) 32 = w := ⟨_, rfl⟩
  have bw5434 := BT_get hI.1.1 39 32 33 (0) (23760) (700000) (by decide) 32 (by decide) (by decide)
  rw [ew5434] at bw5434
  obtain ⟨w5435, ew5435⟩ : ∃ w : Int32, I (ad g 39) 33 = w := ⟨_, rfl⟩
  have bw5435 := BT_get hI.1.1 39 33 34 (0) (1) (30) (by decide) 33 (by decide) (by decide)
  rw [ew5435] at bw5435
  rw [ew5434, ew5435] at hb
  refine WP_aload_n dX11_dayOf_0 rfl ?_
  refine WQ_bipush (33) (33) dX11_dayOf_1 rfl rfl (fun v5436 hv5436 => ?_)
  refine WQ_ialdm (z := 33) dX11_dayOf_3 (ly_is hy 39 13 rfl) (ly_n hy 39 35 rfl) hv5436 (by decide) ew5435 ?_
  refine WQ_bipush (7) (7) dX11_dayOf_4 rfl rfl (fun v5438 hv5438 => ?_)
  refine WQ_iremk (7) dX11_dayOf_6 hv5438 (by decide) (by omega) (fun v5439 hv5439 => ?_)
  refine WP_istore_n (ls' := [(0, _), (1, _), (2, _)]) dX11_dayOf_7 (by decide) rfl ?_
  refine WP_lconst (0) dX11_dayOf_8 rfl ?_
  obtain ⟨l5440, hl5440, el5440⟩ : ∃ v : Int64, v.toInt = 0 ∧ (0 : Int64) = v := ⟨_, rfl, rfl⟩
  rw [el5440]; clear el5440
  refine WP_lstore_n (ls' := [(0, _), (1, _), (2, _), (3, _)]) dX11_dayOf_9 (by decide) rfl ?_
  refine WP_iload_n dX11_dayOf_10 rfl ?_
  refine WQ_if_ne 19 dX11_dayOf_11 rfl (fun c5440 => ?_) (fun c5440 => ?_)
  · refine WQ_iconst (0) (0) dX11_dayOf_19 rfl rfl (fun v5442 hv5442 => ?_)
    refine WP_istore (ls' := [(0, _), (1, _), (2, _), (3, _), (5, _)]) dX11_dayOf_20 (by decide) rfl ?_
    have lp22_5450 : ∀ (mz : Nat) (i5443 : Int32) (I5444 : pI) (J5445 : pJ), MP g n L I5444 → fz 49 g [0, 35, 36, 37, 40, 41, 39] I I5444 → ∀ (w5446 : Int32), I5444 (ad g 39) 32 = w5446 → ∀ (w5447 : Int32), I5444 (ad g 39) 33 = w5447 → ∀ (w5448 : Int32), I5444 (ad g 0) 10 = w5448 → ∀ (w5449 : Int32), I5444 (ad g 0) 14 = w5449 → ∀ (w5450 : Int32), I5444 (ad g 0) 68 = w5450 → 0 ≤ i5443.toInt → i5443.toInt ≤ 3 → w5447.toInt = w5435.toInt → w5448.toInt = w5431.toInt → w5449.toInt = w5432.toInt → w5450.toInt = w5433.toInt → w5446.toInt ≤ w5434.toInt → (4 - i5443.toInt).toNat < mz → WP g mX11_dayOf 22 [(0, .ref (ad g 0)), (1, .ref (ad g 39)), (2, .int v5439), (3, .long l5440), (5, .int i5443)] [] I5444 J5445 R (fun r I' J' R' => (MP g n L I' ∧ R' = R ∧ fz 49 g [0, 35, 36, 37, 40, 41, 39] I I' ∧ ((I' (ad g 39) 32).toInt ≤ (I (ad g 39) 32).toInt + 23760 ∧ (I' (ad g 39) 33).toInt = (I (ad g 39) 33).toInt + 1) ∧ I' (ad g 0) 10 = I (ad g 0) 10 ∧ I' (ad g 0) 14 = I (ad g 0) 14 ∧ I' (ad g 0) 68 = I (ad g 0) 68) ∧ ∃ v : Int64, r = some (.long v)) := by
      intro mz
      induction mz with
      | zero =>
        intro i5443 I5444 J5445 hI5444 fiI5444 w5446 ew5446 w5447 ew5447 w5448 ew5448 w5449 ew5449 w5450 ew5450 ai5443 bi5443 j0_I5444 j1_I5444 j2_I5444 j3_I5444 j4_I5444 hmlp22_5450
        exact absurd hmlp22_5450 (Nat.not_lt_zero _)
      | succ mz ihlp22_5450 =>
        intro i5443 I5444 J5445 hI5444 fiI5444 w5446 ew5446 w5447 ew5447 w5448 ew5448 w5449 ew5449 w5450 ew5450 ai5443 bi5443 j0_I5444 j1_I5444 j2_I5444 j3_I5444 j4_I5444 hmlp22_5450
        have bw5446 := BT_get hI5444.1.1 39 32 33 (0) (23760) (700000) (by decide) 32 (by decide) (by decide)
        rw [ew5446] at bw5446
        have bw5447 := BT_get hI5444.1.1 39 33 34 (0) (1) (30) (by decide) 33 (by decide) (by decide)
        rw [ew5447] at bw5447
        have bw5448 := BT_get hI5444.1.1 0 10 11 (0) (0) (4) (by decide) 10 (by decide) (by decide)
        rw [ew5448] at bw5448
        have bw5449 := BT_get hI5444.1.1 0 14 15 (-1) (0) (2) (by decide) 14 (by decide) (by decide)
        rw [ew5449] at bw5449
        have e5452 : I5444 (ad g 0) 1 = L := hI5444.1.2
        have b5453 := BT_get hI5444.1.1 0 1 2 (0) (0) (900) (by decide) 1 (by decide) (by decide)
        rw [e5452] at b5453
        refine WP_iload dX11_dayOf_22 rfl ?_
        refine WP_aload_n dX11_dayOf_24 rfl ?_
        refine WQ_geti dX11_dayOf_25 fX11_332 rfl (ly_is hy 0 11 rfl) (BT_get hI5444.1.1 0 11 12 (0) (0) (3) (by decide) 11 (by decide) (by decide)) (fun v5454 ev5454 av5454 bv5454 => ?_)
        refine WQ_icmp_ge 85 dX11_dayOf_28 rfl (fun c5454 => ?_) (fun c5454 => ?_)
        · refine WQ_iconst (0) (0) dX11_dayOf_85 rfl rfl (fun v5456 hv5456 => ?_)
          refine WP_istore (ls' := [(0, _), (1, _), (2, _), (3, _), (5, _)]) dX11_dayOf_86 (by decide) rfl ?_
          have lp88_5465 : ∀ (mz : Nat) (l5457 : Int64) (i5458 : Int32) (I5459 : pI) (J5460 : pJ), MP g n L I5459 → fz 49 g [0, 35, 36, 37, 40, 41, 39] I I5459 → ∀ (w5461 : Int32), I5459 (ad g 39) 32 = w5461 → ∀ (w5462 : Int32), I5459 (ad g 39) 33 = w5462 → ∀ (w5463 : Int32), I5459 (ad g 0) 10 = w5463 → ∀ (w5464 : Int32), I5459 (ad g 0) 14 = w5464 → ∀ (w5465 : Int32), I5459 (ad g 0) 68 = w5465 → 0 ≤ i5458.toInt → i5458.toInt ≤ 4 → w5462.toInt = w5435.toInt → w5463.toInt = w5431.toInt → w5464.toInt = w5432.toInt → w5465.toInt = w5433.toInt → w5461.toInt ≤ w5434.toInt → (5 - i5458.toInt).toNat < mz → WP g mX11_dayOf 88 [(0, .ref (ad g 0)), (1, .ref (ad g 39)), (2, .int v5439), (3, .long l5457), (5, .int i5458)] [] I5459 J5460 R (fun r I' J' R' => (MP g n L I' ∧ R' = R ∧ fz 49 g [0, 35, 36, 37, 40, 41, 39] I I' ∧ ((I' (ad g 39) 32).toInt ≤ (I (ad g 39) 32).toInt + 23760 ∧ (I' (ad g 39) 33).toInt = (I (ad g 39) 33).toInt + 1) ∧ I' (ad g 0) 10 = I (ad g 0) 10 ∧ I' (ad g 0) 14 = I (ad g 0) 14 ∧ I' (ad g 0) 68 = I (ad g 0) 68) ∧ ∃ v : Int64, r = some (.long v)) := by
            intro mz
            induction mz with
            | zero =>
              intro l5457 i5458 I5459 J5460 hI5459 fiI5459 w5461 ew5461 w5462 ew5462 w5463 ew5463 w5464 ew5464 w5465 ew5465 ai5458 bi5458 j0_I5459 j1_I5459 j2_I5459 j3_I5459 j4_I5459 hmlp88_5465
              exact absurd hmlp88_5465 (Nat.not_lt_zero _)
            | succ mz ihlp88_5465 =>
              intro l5457 i5458 I5459 J5460 hI5459 fiI5459 w5461 ew5461 w5462 ew5462 w5463 ew5463 w5464 ew5464 w5465 ew5465 ai5458 bi5458 j0_I5459 j1_I5459 j2_I5459 j3_I5459 j4_I5459 hmlp88_5465
              have bw5461 := BT_get hI5459.1.1 39 32 33 (0) (23760) (700000) (by decide) 32 (by decide) (by decide)
              rw [ew5461] at bw5461
              have bw5462 := BT_get hI5459.1.1 39 33 34 (0) (1) (30) (by decide) 33 (by decide) (by decide)
              rw [ew5462] at bw5462
              have bw5463 := BT_get hI5459.1.1 0 10 11 (0) (0) (4) (by decide) 10 (by decide) (by decide)
              rw [ew5463] at bw5463
              have bw5464 := BT_get hI5459.1.1 0 14 15 (-1) (0) (2) (by decide) 14 (by decide) (by decide)
              rw [ew5464] at bw5464
              have e5467 : I5459 (ad g 0) 1 = L := hI5459.1.2
              have b5468 := BT_get hI5459.1.1 0 1 2 (0) (0) (900) (by decide) 1 (by decide) (by decide)
              rw [e5467] at b5468
              refine WP_iload dX11_dayOf_88 rfl ?_
              refine WP_aload_n dX11_dayOf_90 rfl ?_
              refine WQ_getim dX11_dayOf_91 fX11_329 rfl (ly_is hy 0 11 rfl) ew5463 ?_
              refine WQ_icmp_ge 114 dX11_dayOf_94 rfl (fun c5468 => ?_) (fun c5468 => ?_)
              · refine WQ_iconst (0) (0) dX11_dayOf_114 rfl rfl (fun v5470 hv5470 => ?_)
                refine WP_istore (ls' := [(0, _), (1, _), (2, _), (3, _), (5, _)]) dX11_dayOf_115 (by decide) rfl ?_
                have lp117_5478 : ∀ (mz : Nat) (i5471 : Int32) (I5472 : pI) (J5473 : pJ), MP g n L I5472 → fz 49 g [0, 35, 36, 37, 40, 41, 39] I I5472 → ∀ (w5474 : Int32), I5472 (ad g 39) 32 = w5474 → ∀ (w5475 : Int32), I5472 (ad g 39) 33 = w5475 → ∀ (w5476 : Int32), I5472 (ad g 0) 10 = w5476 → ∀ (w5477 : Int32), I5472 (ad g 0) 14 = w5477 → ∀ (w5478 : Int32), I5472 (ad g 0) 68 = w5478 → 0 ≤ i5471.toInt → i5471.toInt ≤ 4 → w5475.toInt = w5435.toInt → w5476.toInt = w5431.toInt → w5477.toInt = w5432.toInt → w5478.toInt = w5433.toInt → w5474.toInt ≤ w5434.toInt + 5940 * i5471.toInt → (5 - i5471.toInt).toNat < mz → WP g mX11_dayOf 117 [(0, .ref (ad g 0)), (1, .ref (ad g 39)), (2, .int v5439), (3, .long l5457), (5, .int i5471)] [] I5472 J5473 R (fun r I' J' R' => (MP g n L I' ∧ R' = R ∧ fz 49 g [0, 35, 36, 37, 40, 41, 39] I I' ∧ ((I' (ad g 39) 32).toInt ≤ (I (ad g 39) 32).toInt + 23760 ∧ (I' (ad g 39) 33).toInt = (I (ad g 39) 33).toInt + 1) ∧ I' (ad g 0) 10 = I (ad g 0) 10 ∧ I' (ad g 0) 14 = I (ad g 0) 14 ∧ I' (ad g 0) 68 = I (ad g 0) 68) ∧ ∃ v : Int64, r = some (.long v)) := by
                  intro mz
                  induction mz with
                  | zero =>
                    intro i5471 I5472 J5473 hI5472 fiI5472 w5474 ew5474 w5475 ew5475 w5476 ew5476 w5477 ew5477 w5478 ew5478 ai5471 bi5471 j0_I5472 j1_I5472 j2_I5472 j3_I5472 j4_I5472 hmlp117_5478
                    exact absurd hmlp117_5478 (Nat.not_lt_zero _)
                  | succ mz ihlp117_5478 =>
                    intro i5471 I5472 J5473 hI5472 fiI5472 w5474 ew5474 w5475 ew5475 w5476 ew5476 w5477 ew5477 w5478 ew5478 ai5471 bi5471 j0_I5472 j1_I5472 j2_I5472 j3_I5472 j4_I5472 hmlp117_5478
                    have bw5474 := BT_get hI5472.1.1 39 32 33 (0) (23760) (700000) (by decide) 32 (by decide) (by decide)
                    rw [ew5474] at bw5474
                    have bw5475 := BT_get hI5472.1.1 39 33 34 (0) (1) (30) (by decide) 33 (by decide) (by decide)
                    rw [ew5475] at bw5475
                    have bw5476 := BT_get hI5472.1.1 0 10 11 (0) (0) (4) (by decide) 10 (by decide) (by decide)
                    rw [ew5476] at bw5476
                    have bw5477 := BT_get hI5472.1.1 0 14 15 (-1) (0) (2) (by decide) 14 (by decide) (by decide)
                    rw [ew5477] at bw5477
                    have e5480 : I5472 (ad g 0) 1 = L := hI5472.1.2
                    have b5481 := BT_get hI5472.1.1 0 1 2 (0) (0) (900) (by decide) 1 (by decide) (by decide)
                    rw [e5480] at b5481
                    refine WP_iload dX11_dayOf_117 rfl ?_
                    refine WP_aload_n dX11_dayOf_119 rfl ?_
                    refine WQ_getim dX11_dayOf_120 fX11_329 rfl (ly_is hy 0 11 rfl) ew5476 ?_
                    refine WQ_icmp_ge 140 dX11_dayOf_123 rfl (fun c5481 => ?_) (fun c5481 => ?_)
                    · refine WP_aload_n dX11_dayOf_140 rfl ?_
                      refine WQ_bipush (33) (33) dX11_dayOf_141 rfl rfl (fun v5483 hv5483 => ?_)
                      refine WP_dup2 dX11_dayOf_143 rfl rfl ?_
                      refine WQ_ialdm (z := 33) dX11_dayOf_144 (ly_is hy 39 13 rfl) (ly_n hy 39 35 rfl) hv5483 (by decide) ew5475 ?_
                      refine WQ_iconst (1) (1) dX11_dayOf_145 rfl rfl (fun v5485 hv5485 => ?_)
                      refine WQ_iadd dX11_dayOf_146 (by omega) (by omega) (fun v5486 hv5486 => ?_)
                      refine WQ_iast dX11_dayOf_147 (ly_is hy 39 13 rfl) (ly_n hy 39 35 rfl) (by omega) (by omega) (fun I5487 fI5487 => ?_)
                      have eI5487 := fI5487
                      rw [cl (x := v5483) (n := 33) (by omega)] at eI5487
                      clear fI5487
                      have hI5487 : MP g n L I5487 := by rw [eI5487]; exact (mp_w hy hI5472 (c := 39) (mi_f hy hI5472.1 (c := 39) (0) (1) (30) (by decide) (Or.inl (by decide)) (by decide) (by omega) (by omega)) (by decide) (by decide) (Or.inl (by decide)))
                      have e5488 : I5487 (ad g 39) 32 = w5474 := by rw [eI5487, pp_ne _ _ (Or.inr (by decide))]; exact ew5474
                      have e5489 : I5487 (ad g 0) 10 = w5476 := by rw [eI5487, pp_ne _ _ (Or.inl (ly_ne hy (by decide) (by decide) (by decide)))]; exact ew5476
                      have e5490 : I5487 (ad g 0) 14 = w5477 := by rw [eI5487, pp_ne _ _ (Or.inl (ly_ne hy (by decide) (by decide) (by decide)))]; exact ew5477
                      have e5491 : I5487 (ad g 0) 68 = w5478 := by rw [eI5487, pp_ne _ _ (Or.inl (ly_ne hy (by decide) (by decide) (by decide)))]; exact ew5478
                      have e5492 : I5487 (ad g 0) 1 = L := by rw [eI5487, pp_ne _ _ (Or.inl (ly_ne hy (by decide) (by decide) (by decide)))]; exact e5480
                      have e5493 : I5487 (ad g 39) 33 = v5486 := by rw [eI5487, pp_self]
                      have fr5494 : fz 49 g [0, 35, 36, 37, 40, 41, 39] I I5487 := by rw [eI5487]; exact fzm_pp hy fiI5472 (by decide) (by decide)
                      clear eI5487
                      refine WP_lload_n dX11_dayOf_148 rfl ?_
                      exact WP_lret dX11_dayOf_149 rfl ⟨⟨hI5487, rfl, fr5494, ⟨(by rw [e5488, ew5434, e5493, ew5435]; omega), (by rw [e5489, ew5431] <;> exact (eq32 _ _).mpr (by omega)), (by rw [e5490, ew5432] <;> exact (eq32 _ _).mpr (by omega)), (by rw [e5491, ew5433] <;> exact (eq32 _ _).mpr (by omega))⟩⟩, _, rfl⟩
                    · refine WP_aload_n dX11_dayOf_126 rfl ?_
                      refine WP_aload_n dX11_dayOf_127 rfl ?_
                      refine WP_iload dX11_dayOf_128 rfl ?_
                      refine WP_iload_n dX11_dayOf_130 rfl ?_
                      refine WP_callV3 (k := 11) dX11_dayOf_131 ⟨⟨⟨by decide, by decide⟩, zX11_nightOf⟩, lX11_478, by decide, rfl, vX11_nightOf.1, vX11_nightOf.2⟩ (ly_is hy 0 11 rfl) (sm_nightOfx_39 hy hr hI5472 i5471 v5439 (by omega) (by omega) (by omega) (by omega) (by omega) (by rw [ew5474]; omega)) (Nat.le_of_ble_eq_true rfl) ?_
                      intro r I5495 J5496 Ra hq
                      obtain ⟨⟨hI5495, ec, fiI5495, ⟨pI5495, sI5495_39_33, sI5495_0_10, sI5495_0_14, sI5495_0_68⟩⟩, rfl⟩ := hq
                      rw [ec]
                      clear ec Ra
                      have fr5497 : fz 49 g [0, 35, 36, 37, 40, 41, 39] I I5495 := fz_tr fiI5472 (fz_mono fiI5495 (by decide))
                      have e5498 : I5495 (ad g 39) 33 = w5475 := by rw [sI5495_39_33]; exact ew5475
                      have e5499 : I5495 (ad g 0) 10 = w5476 := by rw [sI5495_0_10]; exact ew5476
                      have e5500 : I5495 (ad g 0) 14 = w5477 := by rw [sI5495_0_14]; exact ew5477
                      have e5501 : I5495 (ad g 0) 68 = w5478 := by rw [sI5495_0_68]; exact ew5478
                      have e5502 : I5495 (ad g 0) 1 = L := hI5495.1.2
                      have b5503 := BT_get hI5495.1.1 0 1 2 (0) (0) (900) (by decide) 1 (by decide) (by decide)
                      rw [e5502] at b5503
                      obtain ⟨w5504, ew5504⟩ : ∃ w : Int32, I5495 (ad g 39) 32 = w := ⟨_, rfl⟩
                      have bw5504 := BT_get hI5495.1.1 39 32 33 (0) (23760) (700000) (by decide) 32 (by decide) (by decide)
                      rw [ew5504] at bw5504
                      rw [ew5504, ew5474] at pI5495
                      refine WP_iinc (ls' := [(0, _), (1, _), (2, _), (3, _), (5, _)]) dX11_dayOf_134 rfl (by decide) rfl ?_
                      have hv5505 : (i5471 + Int32.ofInt (1)).toInt = i5471.toInt + (1) := ia_n rfl (by omega) (by omega)
                      generalize i5471 + Int32.ofInt (1) = v5505 at hv5505 ⊢
                      refine WP_goto 117 dX11_dayOf_137 rfl ?_
                      exact WP_sub (fc rfl (fc rfl (fc rfl (fc rfl (fc rfl fn))))) (ihlp117_5478 v5505 I5495 J5496 hI5495 fr5497 w5504 ew5504 w5475 e5498 w5476 e5499 w5477 e5500 w5478 e5501 (by omega) (by omega) (by omega) (by omega) (by omega) (by omega) (by omega) (by omega))
                exact WP_sub (fc rfl (fc rfl (fc rfl (fc rfl (fc rfl fn))))) (lp117_5478 _ v5470 I5459 J5460 hI5459 fiI5459 w5461 ew5461 w5462 ew5462 w5463 ew5463 w5464 ew5464 w5465 ew5465 (by omega) (by omega) (by omega) (by omega) (by omega) (by omega) (by omega) (Nat.lt_succ_self _))
              · refine WP_lload_n dX11_dayOf_97 rfl ?_
                refine WP_aload_n dX11_dayOf_98 rfl ?_
                refine WP_aload_n dX11_dayOf_99 rfl ?_
                refine WP_iload dX11_dayOf_100 rfl ?_
                refine WP_iload_n dX11_dayOf_102 rfl ?_
                refine WP_callV3 (k := 11) dX11_dayOf_103 ⟨⟨⟨by decide, by decide⟩, zX11_sortDay⟩, lX11_474, by decide, rfl, vX11_sortDay.1, vX11_sortDay.2⟩ (ly_is hy 0 11 rfl) (sm_sortDay_39 hy hr hI5459 i5458 v5439 (by omega) (by omega) (by omega) (by omega) (by rw [ew5463]; omega)) (Nat.le_of_ble_eq_true rfl) ?_
                intro r I5506 J5507 Ra hq
                obtain ⟨⟨hI5506, ec, fiI5506, ejI5506, ⟨pI5506, sI5506_39_32, sI5506_39_33, sI5506_0_10, sI5506_0_14, sI5506_0_68⟩⟩, l5508, rfl⟩ := hq
                show WP _ _ _ _ (.long _ :: _) _ _ _ _
                rw [ec]
                clear ec Ra
                have fr5509 : fz 49 g [0, 35, 36, 37, 40, 41, 39] I I5506 := fz_tr fiI5459 (fz_mono fiI5506 (by decide))
                rw [ejI5506]
                clear ejI5506 J5507
                have e5510 : I5506 (ad g 39) 32 = w5461 := by rw [sI5506_39_32]; exact ew5461
                have e5511 : I5506 (ad g 39) 33 = w5462 := by rw [sI5506_39_33]; exact ew5462
                have e5512 : I5506 (ad g 0) 10 = w5463 := by rw [sI5506_0_10]; exact ew5463
                have e5513 : I5506 (ad g 0) 14 = w5464 := by rw [sI5506_0_14]; exact ew5464
                have e5514 : I5506 (ad g 0) 68 = w5465 := by rw [sI5506_0_68]; exact ew5465
                have e5515 : I5506 (ad g 0) 1 = L := hI5506.1.2
                have b5516 := BT_get hI5506.1.1 0 1 2 (0) (0) (900) (by decide) 1 (by decide) (by decide)
                rw [e5515] at b5516
                refine WQ_ladd dX11_dayOf_106 (fun l5517 => ?_)
                refine WP_lstore_n (ls' := [(0, _), (1, _), (2, _), (3, _), (5, _)]) dX11_dayOf_107 (by decide) rfl ?_
                refine WP_iinc (ls' := [(0, _), (1, _), (2, _), (3, _), (5, _)]) dX11_dayOf_108 rfl (by decide) rfl ?_
                have hv5518 : (i5458 + Int32.ofInt (1)).toInt = i5458.toInt + (1) := ia_n rfl (by omega) (by omega)
                generalize i5458 + Int32.ofInt (1) = v5518 at hv5518 ⊢
                refine WP_goto 88 dX11_dayOf_111 rfl ?_
                exact WP_sub (fc rfl (fc rfl (fc rfl (fc rfl (fc rfl fn))))) (ihlp88_5465 l5517 v5518 I5506 J5460 hI5506 fr5509 w5461 e5510 w5462 e5511 w5463 e5512 w5464 e5513 w5465 e5514 (by omega) (by omega) (by omega) (by omega) (by omega) (by omega) (by omega) (by omega))
          exact WP_sub (fc rfl (fc rfl (fc rfl (fc rfl (fc rfl fn))))) (lp88_5465 _ l5440 v5456 I5444 J5445 hI5444 fiI5444 w5446 ew5446 w5447 ew5447 w5448 ew5448 w5449 ew5449 w5450 ew5450 (by omega) (by omega) (by omega) (by omega) (by omega) (by omega) (by omega) (Nat.lt_succ_self _))
        · refine WP_aload_n dX11_dayOf_31 rfl ?_
          refine WP_getr dX11_dayOf_32 fX11_289 rfl (ly_is hy 0 11 rfl) (rf hr 0 62 40 (by decide)) ?_
          refine WP_iload dX11_dayOf_35 rfl ?_
          refine WP_aload_n dX11_dayOf_37 rfl ?_
          refine WQ_geti dX11_dayOf_38 fX11_470 rfl (ly_is hy 0 11 rfl) (BT_get hI5444.1.1 0 64 65 (0) (0) (1) (by decide) 64 (by decide) (by decide)) (fun v5519 ev5519 av5519 bv5519 => ?_)
          have jn78_5532 : ∀ (v5532 : Int32), 0 ≤ v5532.toInt → v5532.toInt ≤ 1000000 → WP g mX11_dayOf 78 [(0, .ref (ad g 0)), (1, .ref (ad g 39)), (2, .int v5439), (3, .long l5440), (5, .int i5443)] [.int v5532, .int i5443, .ref (ad g 40)] I5444 J5445 R (fun r I' J' R' => (MP g n L I' ∧ R' = R ∧ fz 49 g [0, 35, 36, 37, 40, 41, 39] I I' ∧ ((I' (ad g 39) 32).toInt ≤ (I (ad g 39) 32).toInt + 23760 ∧ (I' (ad g 39) 33).toInt = (I (ad g 39) 33).toInt + 1) ∧ I' (ad g 0) 10 = I (ad g 0) 10 ∧ I' (ad g 0) 14 = I (ad g 0) 14 ∧ I' (ad g 0) 68 = I (ad g 0) 68) ∧ ∃ v : Int64, r = some (.long v)) := by
            intro v5532 av5532 bv5532
            refine WQ_iast dX11_dayOf_78 (ly_is hy 40 13 rfl) (ly_n hy 40 3 rfl) (by omega) (by omega) (fun I5534 eI5534 => ?_)
            have hI5534 : MP g n L I5534 := by rw [eI5534]; exact (mp_w hy hI5444 (c := 40) (mi_r hy hI5444.1 (c := 40) (0) (0) (1000000) (by decide) (Or.inl (by decide)) (by decide) (by omega) (by omega)) (by decide) (by decide) (Or.inl (by decide)))
            have e5535 : I5534 (ad g 39) 32 = w5446 := by rw [eI5534, pp_ne _ _ (Or.inl (ly_ne hy (by decide) (by decide) (by decide)))]; exact ew5446
            have e5536 : I5534 (ad g 39) 33 = w5447 := by rw [eI5534, pp_ne _ _ (Or.inl (ly_ne hy (by decide) (by decide) (by decide)))]; exact ew5447
            have e5537 : I5534 (ad g 0) 10 = w5448 := by rw [eI5534, pp_ne _ _ (Or.inl (ly_ne hy (by decide) (by decide) (by decide)))]; exact ew5448
            have e5538 : I5534 (ad g 0) 14 = w5449 := by rw [eI5534, pp_ne _ _ (Or.inl (ly_ne hy (by decide) (by decide) (by decide)))]; exact ew5449
            have e5539 : I5534 (ad g 0) 68 = w5450 := by rw [eI5534, pp_ne _ _ (Or.inl (ly_ne hy (by decide) (by decide) (by decide)))]; exact ew5450
            have e5540 : I5534 (ad g 0) 1 = L := by rw [eI5534, pp_ne _ _ (Or.inl (ly_ne hy (by decide) (by decide) (by decide)))]; exact e5452
            have e5541 : I5534 (ad g 0) 11 = v5454 := by rw [eI5534, pp_ne _ _ (Or.inl (ly_ne hy (by decide) (by decide) (by decide)))]; exact ev5454
            have e5542 : I5534 (ad g 0) 64 = v5519 := by rw [eI5534, pp_ne _ _ (Or.inl (ly_ne hy (by decide) (by decide) (by decide)))]; exact ev5519
            have fr5543 : fz 49 g [0, 35, 36, 37, 40, 41, 39] I I5534 := by rw [eI5534]; exact fzm_pp hy fiI5444 (by decide) (by decide)
            clear eI5534
            refine WP_iinc (ls' := [(0, _), (1, _), (2, _), (3, _), (5, _)]) dX11_dayOf_79 rfl (by decide) rfl ?_
            have hv5544 : (i5443 + Int32.ofInt (1)).toInt = i5443.toInt + (1) := ia_n rfl (by omega) (by omega)
            generalize i5443 + Int32.ofInt (1) = v5544 at hv5544 ⊢
            refine WP_goto 22 dX11_dayOf_82 rfl ?_
            exact WP_sub (fc rfl (fc rfl (fc rfl (fc rfl (fc rfl fn))))) (ihlp22_5450 v5544 I5534 J5445 hI5534 fr5543 w5446 e5535 w5447 e5536 w5448 e5537 w5449 e5538 w5450 e5539 (by omega) (by omega) (by omega) (by omega) (by omega) (by omega) (by omega) (by omega))
          refine WQ_if_ne 60 dX11_dayOf_41 rfl (fun c5544 => ?_) (fun c5544 => ?_)
          · refine WP_ldcw (1000000) dX11_dayOf_60 kX11_460 ?_
            obtain ⟨v5546, hv5546, ev5546⟩ : ∃ v : Int32, v.toInt = 1000000 ∧ ((1000000) : Int32) = v := ⟨(1000000), rfl, rfl⟩
            rw [ev5546]; clear ev5546
            refine WP_goto 78 dX11_dayOf_63 rfl ?_
            exact WP_sub (fc rfl (fc rfl (fc rfl (fc rfl (fc rfl fn))))) (jn78_5532 v5546 (by omega) (by omega))
          · refine WP_aload_n dX11_dayOf_44 rfl ?_
            refine WP_getr dX11_dayOf_45 fX11_259 rfl (ly_is hy 0 11 rfl) (rf hr 0 41 23 (by decide)) ?_
            refine WQ_bipush (7) (7) dX11_dayOf_48 rfl rfl (fun v5547 hv5547 => ?_)
            refine WP_iload dX11_dayOf_50 rfl ?_
            refine WQ_imulK (7) dX11_dayOf_52 hv5547 (by omega) (by omega) (fun v5548 hv5548 => ?_)
            refine WP_iload_n dX11_dayOf_53 rfl ?_
            refine WQ_iadd dX11_dayOf_54 (by omega) (by omega) (fun v5549 hv5549 => ?_)
            refine WQ_ialdb dX11_dayOf_55 (ly_is hy 23 13 rfl) (ly_n hy 23 21 rfl) (by omega) (by omega) (fun q hq => BT_get hI5444.1.1 23 0 21 (-1) (0) (999) (by decide) q (Nat.zero_le _) hq) (fun v5550 av5550 bv5550 zv5550 => ?_)
            refine WQ_iconst (-1) (-1) dX11_dayOf_56 rfl rfl (fun v5551 hv5551 => ?_)
            refine WQ_icmp_ne 66 dX11_dayOf_57 rfl (fun c5551 => ?_) (fun c5551 => ?_)
            · refine WP_aload_n dX11_dayOf_66 rfl ?_
              refine WP_getr dX11_dayOf_67 fX11_259 rfl (ly_is hy 0 11 rfl) (rf hr 0 41 23 (by decide)) ?_
              refine WQ_bipush (7) (7) dX11_dayOf_70 rfl rfl (fun v5553 hv5553 => ?_)
              refine WP_iload dX11_dayOf_72 rfl ?_
              refine WQ_imulK (7) dX11_dayOf_74 hv5553 (by omega) (by omega) (fun v5554 hv5554 => ?_)
              refine WP_iload_n dX11_dayOf_75 rfl ?_
              refine WQ_iadd dX11_dayOf_76 (by omega) (by omega) (fun v5555 hv5555 => ?_)
              refine WQ_ialdb dX11_dayOf_77 (ly_is hy 23 13 rfl) (ly_n hy 23 21 rfl) (by omega) (by omega) (fun q hq => BT_get hI5444.1.1 23 0 21 (-1) (0) (999) (by decide) q (Nat.zero_le _) hq) (fun v5556 av5556 bv5556 zv5556 => ?_)
              have tv5556 : v5556.toInt = v5550.toInt := by rw [← zv5556, ← zv5550, show v5555.toInt.toNat = v5549.toInt.toNat by omega]
              exact WP_sub (fc rfl (fc rfl (fc rfl (fc rfl (fc rfl fn))))) (jn78_5532 v5556 (by omega) (by omega))
            · refine WP_ldcw (1000000) dX11_dayOf_60 kX11_460 ?_
              obtain ⟨v5557, hv5557, ev5557⟩ : ∃ v : Int32, v.toInt = 1000000 ∧ ((1000000) : Int32) = v := ⟨(1000000), rfl, rfl⟩
              rw [ev5557]; clear ev5557
              refine WP_goto 78 dX11_dayOf_63 rfl ?_
              exact WP_sub (fc rfl (fc rfl (fc rfl (fc rfl (fc rfl fn))))) (jn78_5532 v5557 (by omega) (by omega))
    exact WP_sub (fc rfl (fc rfl (fc rfl (fc rfl (fc rfl fn))))) (lp22_5450 _ v5442 I J hI fr0 w5434 ew5434 w5435 ew5435 w5431 ew5431 w5432 ew5432 w5433 ew5433 (by omega) (by omega) (by omega) (by omega) (by omega) (by omega) (by omega) (Nat.lt_succ_self _))
  · refine WP_aload_n dX11_dayOf_14 rfl ?_
    refine WP_aload_n dX11_dayOf_15 rfl ?_
    refine WP_callV1 (k := 11) dX11_dayOf_16 ⟨⟨⟨by decide, by decide⟩, zX11_openChest⟩, lX11_467, by decide, rfl, vX11_openChest.1, vX11_openChest.2⟩ (ly_is hy 0 11 rfl) (sm_openChestx_39 hy hr hI   (by omega) (by rw [ew5434]; omega)) (Nat.le_of_ble_eq_true rfl) ?_
    intro r I5558 J5559 Ra hq
    obtain ⟨⟨hI5558, ec, fiI5558, ⟨pI5558, sI5558_39_33, sI5558_0_10, sI5558_0_14, sI5558_0_68⟩⟩, rfl⟩ := hq
    rw [ec]
    clear ec Ra
    have fr5560 : fz 49 g [0, 35, 36, 37, 40, 41, 39] I I5558 := fz_tr fr0 (fz_mono fiI5558 (by decide))
    have e5561 : I5558 (ad g 39) 33 = w5435 := by rw [sI5558_39_33]; exact ew5435
    have e5562 : I5558 (ad g 0) 10 = w5431 := by rw [sI5558_0_10]; exact ew5431
    have e5563 : I5558 (ad g 0) 14 = w5432 := by rw [sI5558_0_14]; exact ew5432
    have e5564 : I5558 (ad g 0) 68 = w5433 := by rw [sI5558_0_68]; exact ew5433
    have e5565 : I5558 (ad g 0) 1 = L := hI5558.1.2
    have b5566 := BT_get hI5558.1.1 0 1 2 (0) (0) (900) (by decide) 1 (by decide) (by decide)
    rw [e5565] at b5566
    obtain ⟨w5567, ew5567⟩ : ∃ w : Int32, I5558 (ad g 39) 32 = w := ⟨_, rfl⟩
    have bw5567 := BT_get hI5558.1.1 39 32 33 (0) (23760) (700000) (by decide) 32 (by decide) (by decide)
    rw [ew5567] at bw5567
    rw [ew5567, ew5434] at pI5558
    refine WQ_iconst (0) (0) dX11_dayOf_19 rfl rfl (fun v5568 hv5568 => ?_)
    refine WP_istore (ls' := [(0, _), (1, _), (2, _), (3, _), (5, _)]) dX11_dayOf_20 (by decide) rfl ?_
    have lp22_5576 : ∀ (mz : Nat) (i5569 : Int32) (I5570 : pI) (J5571 : pJ), MP g n L I5570 → fz 49 g [0, 35, 36, 37, 40, 41, 39] I I5570 → ∀ (w5572 : Int32), I5570 (ad g 39) 32 = w5572 → ∀ (w5573 : Int32), I5570 (ad g 39) 33 = w5573 → ∀ (w5574 : Int32), I5570 (ad g 0) 10 = w5574 → ∀ (w5575 : Int32), I5570 (ad g 0) 14 = w5575 → ∀ (w5576 : Int32), I5570 (ad g 0) 68 = w5576 → 0 ≤ i5569.toInt → i5569.toInt ≤ 3 → w5573.toInt = w5435.toInt → w5574.toInt = w5431.toInt → w5575.toInt = w5432.toInt → w5576.toInt = w5433.toInt → w5572.toInt ≤ w5434.toInt → (4 - i5569.toInt).toNat < mz → WP g mX11_dayOf 22 [(0, .ref (ad g 0)), (1, .ref (ad g 39)), (2, .int v5439), (3, .long l5440), (5, .int i5569)] [] I5570 J5571 R (fun r I' J' R' => (MP g n L I' ∧ R' = R ∧ fz 49 g [0, 35, 36, 37, 40, 41, 39] I I' ∧ ((I' (ad g 39) 32).toInt ≤ (I (ad g 39) 32).toInt + 23760 ∧ (I' (ad g 39) 33).toInt = (I (ad g 39) 33).toInt + 1) ∧ I' (ad g 0) 10 = I (ad g 0) 10 ∧ I' (ad g 0) 14 = I (ad g 0) 14 ∧ I' (ad g 0) 68 = I (ad g 0) 68) ∧ ∃ v : Int64, r = some (.long v)) := by
      intro mz
      induction mz with
      | zero =>
        intro i5569 I5570 J5571 hI5570 fiI5570 w5572 ew5572 w5573 ew5573 w5574 ew5574 w5575 ew5575 w5576 ew5576 ai5569 bi5569 j0_I5570 j1_I5570 j2_I5570 j3_I5570 j4_I5570 hmlp22_5576
        exact absurd hmlp22_5576 (Nat.not_lt_zero _)
      | succ mz ihlp22_5576 =>
        intro i5569 I5570 J5571 hI5570 fiI5570 w5572 ew5572 w5573 ew5573 w5574 ew5574 w5575 ew5575 w5576 ew5576 ai5569 bi5569 j0_I5570 j1_I5570 j2_I5570 j3_I5570 j4_I5570 hmlp22_5576
        have bw5572 := BT_get hI5570.1.1 39 32 33 (0) (23760) (700000) (by decide) 32 (by decide) (by decide)
        rw [ew5572] at bw5572
        have bw5573 := BT_get hI5570.1.1 39 33 34 (0) (1) (30) (by decide) 33 (by decide) (by decide)
        rw [ew5573] at bw5573
        have bw5574 := BT_get hI5570.1.1 0 10 11 (0) (0) (4) (by decide) 10 (by decide) (by decide)
        rw [ew5574] at bw5574
        have bw5575 := BT_get hI5570.1.1 0 14 15 (-1) (0) (2) (by decide) 14 (by decide) (by decide)
        rw [ew5575] at bw5575
        have e5578 : I5570 (ad g 0) 1 = L := hI5570.1.2
        have b5579 := BT_get hI5570.1.1 0 1 2 (0) (0) (900) (by decide) 1 (by decide) (by decide)
        rw [e5578] at b5579
        refine WP_iload dX11_dayOf_22 rfl ?_
        refine WP_aload_n dX11_dayOf_24 rfl ?_
        refine WQ_geti dX11_dayOf_25 fX11_332 rfl (ly_is hy 0 11 rfl) (BT_get hI5570.1.1 0 11 12 (0) (0) (3) (by decide) 11 (by decide) (by decide)) (fun v5580 ev5580 av5580 bv5580 => ?_)
        refine WQ_icmp_ge 85 dX11_dayOf_28 rfl (fun c5580 => ?_) (fun c5580 => ?_)
        · refine WQ_iconst (0) (0) dX11_dayOf_85 rfl rfl (fun v5582 hv5582 => ?_)
          refine WP_istore (ls' := [(0, _), (1, _), (2, _), (3, _), (5, _)]) dX11_dayOf_86 (by decide) rfl ?_
          have lp88_5591 : ∀ (mz : Nat) (l5583 : Int64) (i5584 : Int32) (I5585 : pI) (J5586 : pJ), MP g n L I5585 → fz 49 g [0, 35, 36, 37, 40, 41, 39] I I5585 → ∀ (w5587 : Int32), I5585 (ad g 39) 32 = w5587 → ∀ (w5588 : Int32), I5585 (ad g 39) 33 = w5588 → ∀ (w5589 : Int32), I5585 (ad g 0) 10 = w5589 → ∀ (w5590 : Int32), I5585 (ad g 0) 14 = w5590 → ∀ (w5591 : Int32), I5585 (ad g 0) 68 = w5591 → 0 ≤ i5584.toInt → i5584.toInt ≤ 4 → w5588.toInt = w5435.toInt → w5589.toInt = w5431.toInt → w5590.toInt = w5432.toInt → w5591.toInt = w5433.toInt → w5587.toInt ≤ w5434.toInt → (5 - i5584.toInt).toNat < mz → WP g mX11_dayOf 88 [(0, .ref (ad g 0)), (1, .ref (ad g 39)), (2, .int v5439), (3, .long l5583), (5, .int i5584)] [] I5585 J5586 R (fun r I' J' R' => (MP g n L I' ∧ R' = R ∧ fz 49 g [0, 35, 36, 37, 40, 41, 39] I I' ∧ ((I' (ad g 39) 32).toInt ≤ (I (ad g 39) 32).toInt + 23760 ∧ (I' (ad g 39) 33).toInt = (I (ad g 39) 33).toInt + 1) ∧ I' (ad g 0) 10 = I (ad g 0) 10 ∧ I' (ad g 0) 14 = I (ad g 0) 14 ∧ I' (ad g 0) 68 = I (ad g 0) 68) ∧ ∃ v : Int64, r = some (.long v)) := by
            intro mz
            induction mz with
            | zero =>
              intro l5583 i5584 I5585 J5586 hI5585 fiI5585 w5587 ew5587 w5588 ew5588 w5589 ew5589 w5590 ew5590 w5591 ew5591 ai5584 bi5584 j0_I5585 j1_I5585 j2_I5585 j3_I5585 j4_I5585 hmlp88_5591
              exact absurd hmlp88_5591 (Nat.not_lt_zero _)
            | succ mz ihlp88_5591 =>
              intro l5583 i5584 I5585 J5586 hI5585 fiI5585 w5587 ew5587 w5588 ew5588 w5589 ew5589 w5590 ew5590 w5591 ew5591 ai5584 bi5584 j0_I5585 j1_I5585 j2_I5585 j3_I5585 j4_I5585 hmlp88_5591
              have bw5587 := BT_get hI5585.1.1 39 32 33 (0) (23760) (700000) (by decide) 32 (by decide) (by decide)
              rw [ew5587] at bw5587
              have bw5588 := BT_get hI5585.1.1 39 33 34 (0) (1) (30) (by decide) 33 (by decide) (by decide)
              rw [ew5588] at bw5588
              have bw5589 := BT_get hI5585.1.1 0 10 11 (0) (0) (4) (by decide) 10 (by decide) (by decide)
              rw [ew5589] at bw5589
              have bw5590 := BT_get hI5585.1.1 0 14 15 (-1) (0) (2) (by decide) 14 (by decide) (by decide)
              rw [ew5590] at bw5590
              have e5593 : I5585 (ad g 0) 1 = L := hI5585.1.2
              have b5594 := BT_get hI5585.1.1 0 1 2 (0) (0) (900) (by decide) 1 (by decide) (by decide)
              rw [e5593] at b5594
              refine WP_iload dX11_dayOf_88 rfl ?_
              refine WP_aload_n dX11_dayOf_90 rfl ?_
              refine WQ_getim dX11_dayOf_91 fX11_329 rfl (ly_is hy 0 11 rfl) ew5589 ?_
              refine WQ_icmp_ge 114 dX11_dayOf_94 rfl (fun c5594 => ?_) (fun c5594 => ?_)
              · refine WQ_iconst (0) (0) dX11_dayOf_114 rfl rfl (fun v5596 hv5596 => ?_)
                refine WP_istore (ls' := [(0, _), (1, _), (2, _), (3, _), (5, _)]) dX11_dayOf_115 (by decide) rfl ?_
                have lp117_5604 : ∀ (mz : Nat) (i5597 : Int32) (I5598 : pI) (J5599 : pJ), MP g n L I5598 → fz 49 g [0, 35, 36, 37, 40, 41, 39] I I5598 → ∀ (w5600 : Int32), I5598 (ad g 39) 32 = w5600 → ∀ (w5601 : Int32), I5598 (ad g 39) 33 = w5601 → ∀ (w5602 : Int32), I5598 (ad g 0) 10 = w5602 → ∀ (w5603 : Int32), I5598 (ad g 0) 14 = w5603 → ∀ (w5604 : Int32), I5598 (ad g 0) 68 = w5604 → 0 ≤ i5597.toInt → i5597.toInt ≤ 4 → w5601.toInt = w5435.toInt → w5602.toInt = w5431.toInt → w5603.toInt = w5432.toInt → w5604.toInt = w5433.toInt → w5600.toInt ≤ w5434.toInt + 5940 * i5597.toInt → (5 - i5597.toInt).toNat < mz → WP g mX11_dayOf 117 [(0, .ref (ad g 0)), (1, .ref (ad g 39)), (2, .int v5439), (3, .long l5583), (5, .int i5597)] [] I5598 J5599 R (fun r I' J' R' => (MP g n L I' ∧ R' = R ∧ fz 49 g [0, 35, 36, 37, 40, 41, 39] I I' ∧ ((I' (ad g 39) 32).toInt ≤ (I (ad g 39) 32).toInt + 23760 ∧ (I' (ad g 39) 33).toInt = (I (ad g 39) 33).toInt + 1) ∧ I' (ad g 0) 10 = I (ad g 0) 10 ∧ I' (ad g 0) 14 = I (ad g 0) 14 ∧ I' (ad g 0) 68 = I (ad g 0) 68) ∧ ∃ v : Int64, r = some (.long v)) := by
                  intro mz
                  induction mz with
                  | zero =>
                    intro i5597 I5598 J5599 hI5598 fiI5598 w5600 ew5600 w5601 ew5601 w5602 ew5602 w5603 ew5603 w5604 ew5604 ai5597 bi5597 j0_I5598 j1_I5598 j2_I5598 j3_I5598 j4_I5598 hmlp117_5604
                    exact absurd hmlp117_5604 (Nat.not_lt_zero _)
                  | succ mz ihlp117_5604 =>
                    intro i5597 I5598 J5599 hI5598 fiI5598 w5600 ew5600 w5601 ew5601 w5602 ew5602 w5603 ew5603 w5604 ew5604 ai5597 bi5597 j0_I5598 j1_I5598 j2_I5598 j3_I5598 j4_I5598 hmlp117_5604
                    have bw5600 := BT_get hI5598.1.1 39 32 33 (0) (23760) (700000) (by decide) 32 (by decide) (by decide)
                    rw [ew5600] at bw5600
                    have bw5601 := BT_get hI5598.1.1 39 33 34 (0) (1) (30) (by decide) 33 (by decide) (by decide)
                    rw [ew5601] at bw5601
                    have bw5602 := BT_get hI5598.1.1 0 10 11 (0) (0) (4) (by decide) 10 (by decide) (by decide)
                    rw [ew5602] at bw5602
                    have bw5603 := BT_get hI5598.1.1 0 14 15 (-1) (0) (2) (by decide) 14 (by decide) (by decide)
                    rw [ew5603] at bw5603
                    have e5606 : I5598 (ad g 0) 1 = L := hI5598.1.2
                    have b5607 := BT_get hI5598.1.1 0 1 2 (0) (0) (900) (by decide) 1 (by decide) (by decide)
                    rw [e5606] at b5607
                    refine WP_iload dX11_dayOf_117 rfl ?_
                    refine WP_aload_n dX11_dayOf_119 rfl ?_
                    refine WQ_getim dX11_dayOf_120 fX11_329 rfl (ly_is hy 0 11 rfl) ew5602 ?_
                    refine WQ_icmp_ge 140 dX11_dayOf_123 rfl (fun c5607 => ?_) (fun c5607 => ?_)
                    · refine WP_aload_n dX11_dayOf_140 rfl ?_
                      refine WQ_bipush (33) (33) dX11_dayOf_141 rfl rfl (fun v5609 hv5609 => ?_)
                      refine WP_dup2 dX11_dayOf_143 rfl rfl ?_
                      refine WQ_ialdm (z := 33) dX11_dayOf_144 (ly_is hy 39 13 rfl) (ly_n hy 39 35 rfl) hv5609 (by decide) ew5601 ?_
                      refine WQ_iconst (1) (1) dX11_dayOf_145 rfl rfl (fun v5611 hv5611 => ?_)
                      refine WQ_iadd dX11_dayOf_146 (by omega) (by omega) (fun v5612 hv5612 => ?_)
                      refine WQ_iast dX11_dayOf_147 (ly_is hy 39 13 rfl) (ly_n hy 39 35 rfl) (by omega) (by omega) (fun I5613 fI5613 => ?_)
                      have eI5613 := fI5613
                      rw [cl (x := v5609) (n := 33) (by omega)] at eI5613
                      clear fI5613
                      have hI5613 : MP g n L I5613 := by rw [eI5613]; exact (mp_w hy hI5598 (c := 39) (mi_f hy hI5598.1 (c := 39) (0) (1) (30) (by decide) (Or.inl (by decide)) (by decide) (by omega) (by omega)) (by decide) (by decide) (Or.inl (by decide)))
                      have e5614 : I5613 (ad g 39) 32 = w5600 := by rw [eI5613, pp_ne _ _ (Or.inr (by decide))]; exact ew5600
                      have e5615 : I5613 (ad g 0) 10 = w5602 := by rw [eI5613, pp_ne _ _ (Or.inl (ly_ne hy (by decide) (by decide) (by decide)))]; exact ew5602
                      have e5616 : I5613 (ad g 0) 14 = w5603 := by rw [eI5613, pp_ne _ _ (Or.inl (ly_ne hy (by decide) (by decide) (by decide)))]; exact ew5603
                      have e5617 : I5613 (ad g 0) 68 = w5604 := by rw [eI5613, pp_ne _ _ (Or.inl (ly_ne hy (by decide) (by decide) (by decide)))]; exact ew5604
                      have e5618 : I5613 (ad g 0) 1 = L := by rw [eI5613, pp_ne _ _ (Or.inl (ly_ne hy (by decide) (by decide) (by decide)))]; exact e5606
                      have e5619 : I5613 (ad g 39) 33 = v5612 := by rw [eI5613, pp_self]
                      have fr5620 : fz 49 g [0, 35, 36, 37, 40, 41, 39] I I5613 := by rw [eI5613]; exact fzm_pp hy fiI5598 (by decide) (by decide)
                      clear eI5613
                      refine WP_lload_n dX11_dayOf_148 rfl ?_
                      exact WP_lret dX11_dayOf_149 rfl ⟨⟨hI5613, rfl, fr5620, ⟨(by rw [e5614, ew5434, e5619, ew5435]; omega), (by rw [e5615, ew5431] <;> exact (eq32 _ _).mpr (by omega)), (by rw [e5616, ew5432] <;> exact (eq32 _ _).mpr (by omega)), (by rw [e5617, ew5433] <;> exact (eq32 _ _).mpr (by omega))⟩⟩, _, rfl⟩
                    · refine WP_aload_n dX11_dayOf_126 rfl ?_
                      refine WP_aload_n dX11_dayOf_127 rfl ?_
                      refine WP_iload dX11_dayOf_128 rfl ?_
                      refine WP_iload_n dX11_dayOf_130 rfl ?_
                      refine WP_callV3 (k := 11) dX11_dayOf_131 ⟨⟨⟨by decide, by decide⟩, zX11_nightOf⟩, lX11_478, by decide, rfl, vX11_nightOf.1, vX11_nightOf.2⟩ (ly_is hy 0 11 rfl) (sm_nightOfx_39 hy hr hI5598 i5597 v5439 (by omega) (by omega) (by omega) (by omega) (by omega) (by rw [ew5600]; omega)) (Nat.le_of_ble_eq_true rfl) ?_
                      intro r I5621 J5622 Ra hq
                      obtain ⟨⟨hI5621, ec, fiI5621, ⟨pI5621, sI5621_39_33, sI5621_0_10, sI5621_0_14, sI5621_0_68⟩⟩, rfl⟩ := hq
                      rw [ec]
                      clear ec Ra
                      have fr5623 : fz 49 g [0, 35, 36, 37, 40, 41, 39] I I5621 := fz_tr fiI5598 (fz_mono fiI5621 (by decide))
                      have e5624 : I5621 (ad g 39) 33 = w5601 := by rw [sI5621_39_33]; exact ew5601
                      have e5625 : I5621 (ad g 0) 10 = w5602 := by rw [sI5621_0_10]; exact ew5602
                      have e5626 : I5621 (ad g 0) 14 = w5603 := by rw [sI5621_0_14]; exact ew5603
                      have e5627 : I5621 (ad g 0) 68 = w5604 := by rw [sI5621_0_68]; exact ew5604
                      have e5628 : I5621 (ad g 0) 1 = L := hI5621.1.2
                      have b5629 := BT_get hI5621.1.1 0 1 2 (0) (0) (900) (by decide) 1 (by decide) (by decide)
                      rw [e5628] at b5629
                      obtain ⟨w5630, ew5630⟩ : ∃ w : Int32, I5621 (ad g 39) 32 = w := ⟨_, rfl⟩
                      have bw5630 := BT_get hI5621.1.1 39 32 33 (0) (23760) (700000) (by decide) 32 (by decide) (by decide)
                      rw [ew5630] at bw5630
                      rw [ew5630, ew5600] at pI5621
                      refine WP_iinc (ls' := [(0, _), (1, _), (2, _), (3, _), (5, _)]) dX11_dayOf_134 rfl (by decide) rfl ?_
                      have hv5631 : (i5597 + Int32.ofInt (1)).toInt = i5597.toInt + (1) := ia_n rfl (by omega) (by omega)
                      generalize i5597 + Int32.ofInt (1) = v5631 at hv5631 ⊢
                      refine WP_goto 117 dX11_dayOf_137 rfl ?_
                      exact WP_sub (fc rfl (fc rfl (fc rfl (fc rfl (fc rfl fn))))) (ihlp117_5604 v5631 I5621 J5622 hI5621 fr5623 w5630 ew5630 w5601 e5624 w5602 e5625 w5603 e5626 w5604 e5627 (by omega) (by omega) (by omega) (by omega) (by omega) (by omega) (by omega) (by omega))
                exact WP_sub (fc rfl (fc rfl (fc rfl (fc rfl (fc rfl fn))))) (lp117_5604 _ v5596 I5585 J5586 hI5585 fiI5585 w5587 ew5587 w5588 ew5588 w5589 ew5589 w5590 ew5590 w5591 ew5591 (by omega) (by omega) (by omega) (by omega) (by omega) (by omega) (by omega) (Nat.lt_succ_self _))
              · refine WP_lload_n dX11_dayOf_97 rfl ?_
                refine WP_aload_n dX11_dayOf_98 rfl ?_
                refine WP_aload_n dX11_dayOf_99 rfl ?_
                refine WP_iload dX11_dayOf_100 rfl ?_
                refine WP_iload_n dX11_dayOf_102 rfl ?_
                refine WP_callV3 (k := 11) dX11_dayOf_103 ⟨⟨⟨by decide, by decide⟩, zX11_sortDay⟩, lX11_474, by decide, rfl, vX11_sortDay.1, vX11_sortDay.2⟩ (ly_is hy 0 11 rfl) (sm_sortDay_39 hy hr hI5585 i5584 v5439 (by omega) (by omega) (by omega) (by omega) (by rw [ew5589]; omega)) (Nat.le_of_ble_eq_true rfl) ?_
                intro r I5632 J5633 Ra hq
                obtain ⟨⟨hI5632, ec, fiI5632, ejI5632, ⟨pI5632, sI5632_39_32, sI5632_39_33, sI5632_0_10, sI5632_0_14, sI5632_0_68⟩⟩, l5634, rfl⟩ := hq
                show WP _ _ _ _ (.long _ :: _) _ _ _ _
                rw [ec]
                clear ec Ra
                have fr5635 : fz 49 g [0, 35, 36, 37, 40, 41, 39] I I5632 := fz_tr fiI5585 (fz_mono fiI5632 (by decide))
                rw [ejI5632]
                clear ejI5632 J5633
                have e5636 : I5632 (ad g 39) 32 = w5587 := by rw [sI5632_39_32]; exact ew5587
                have e5637 : I5632 (ad g 39) 33 = w5588 := by rw [sI5632_39_33]; exact ew5588
                have e5638 : I5632 (ad g 0) 10 = w5589 := by rw [sI5632_0_10]; exact ew5589
                have e5639 : I5632 (ad g 0) 14 = w5590 := by rw [sI5632_0_14]; exact ew5590
                have e5640 : I5632 (ad g 0) 68 = w5591 := by rw [sI5632_0_68]; exact ew5591
                have e5641 : I5632 (ad g 0) 1 = L := hI5632.1.2
                have b5642 := BT_get hI5632.1.1 0 1 2 (0) (0) (900) (by decide) 1 (by decide) (by decide)
                rw [e5641] at b5642
                refine WQ_ladd dX11_dayOf_106 (fun l5643 => ?_)
                refine WP_lstore_n (ls' := [(0, _), (1, _), (2, _), (3, _), (5, _)]) dX11_dayOf_107 (by decide) rfl ?_
                refine WP_iinc (ls' := [(0, _), (1, _), (2, _), (3, _), (5, _)]) dX11_dayOf_108 rfl (by decide) rfl ?_
                have hv5644 : (i5584 + Int32.ofInt (1)).toInt = i5584.toInt + (1) := ia_n rfl (by omega) (by omega)
                generalize i5584 + Int32.ofInt (1) = v5644 at hv5644 ⊢
                refine WP_goto 88 dX11_dayOf_111 rfl ?_
                exact WP_sub (fc rfl (fc rfl (fc rfl (fc rfl (fc rfl fn))))) (ihlp88_5591 l5643 v5644 I5632 J5586 hI5632 fr5635 w5587 e5636 w5588 e5637 w5589 e5638 w5590 e5639 w5591 e5640 (by omega) (by omega) (by omega) (by omega) (by omega) (by omega) (by omega) (by omega))
          exact WP_sub (fc rfl (fc rfl (fc rfl (fc rfl (fc rfl fn))))) (lp88_5591 _ l5440 v5582 I5570 J5571 hI5570 fiI5570 w5572 ew5572 w5573 ew5573 w5574 ew5574 w5575 ew5575 w5576 ew5576 (by omega) (by omega) (by omega) (by omega) (by omega) (by omega) (by omega) (Nat.lt_succ_self _))
        · refine WP_aload_n dX11_dayOf_31 rfl ?_
          refine WP_getr dX11_dayOf_32 fX11_289 rfl (ly_is hy 0 11 rfl) (rf hr 0 62 40 (by decide)) ?_
          refine WP_iload dX11_dayOf_35 rfl ?_
          refine WP_aload_n dX11_dayOf_37 rfl ?_
          refine WQ_geti dX11_dayOf_38 fX11_470 rfl (ly_is hy 0 11 rfl) (BT_get hI5570.1.1 0 64 65 (0) (0) (1) (by decide) 64 (by decide) (by decide)) (fun v5645 ev5645 av5645 bv5645 => ?_)
          have jn78_5658 : ∀ (v5658 : Int32), 0 ≤ v5658.toInt → v5658.toInt ≤ 1000000 → WP g mX11_dayOf 78 [(0, .ref (ad g 0)), (1, .ref (ad g 39)), (2, .int v5439), (3, .long l5440), (5, .int i5569)] [.int v5658, .int i5569, .ref (ad g 40)] I5570 J5571 R (fun r I' J' R' => (MP g n L I' ∧ R' = R ∧ fz 49 g [0, 35, 36, 37, 40, 41, 39] I I' ∧ ((I' (ad g 39) 32).toInt ≤ (I (ad g 39) 32).toInt + 23760 ∧ (I' (ad g 39) 33).toInt = (I (ad g 39) 33).toInt + 1) ∧ I' (ad g 0) 10 = I (ad g 0) 10 ∧ I' (ad g 0) 14 = I (ad g 0) 14 ∧ I' (ad g 0) 68 = I (ad g 0) 68) ∧ ∃ v : Int64, r = some (.long v)) := by
            intro v5658 av5658 bv5658
            refine WQ_iast dX11_dayOf_78 (ly_is hy 40 13 rfl) (ly_n hy 40 3 rfl) (by omega) (by omega) (fun I5660 eI5660 => ?_)
            have hI5660 : MP g n L I5660 := by rw [eI5660]; exact (mp_w hy hI5570 (c := 40) (mi_r hy hI5570.1 (c := 40) (0) (0) (1000000) (by decide) (Or.inl (by decide)) (by decide) (by omega) (by omega)) (by decide) (by decide) (Or.inl (by decide)))
            have e5661 : I5660 (ad g 39) 32 = w5572 := by rw [eI5660, pp_ne _ _ (Or.inl (ly_ne hy (by decide) (by decide) (by decide)))]; exact ew5572
            have e5662 : I5660 (ad g 39) 33 = w5573 := by rw [eI5660, pp_ne _ _ (Or.inl (ly_ne hy (by decide) (by decide) (by decide)))]; exact ew5573
            have e5663 : I5660 (ad g 0) 10 = w5574 := by rw [eI5660, pp_ne _ _ (Or.inl (ly_ne hy (by decide) (by decide) (by decide)))]; exact ew5574
            have e5664 : I5660 (ad g 0) 14 = w5575 := by rw [eI5660, pp_ne _ _ (Or.inl (ly_ne hy (by decide) (by decide) (by decide)))]; exact ew5575
            have e5665 : I5660 (ad g 0) 68 = w5576 := by rw [eI5660, pp_ne _ _ (Or.inl (ly_ne hy (by decide) (by decide) (by decide)))]; exact ew5576
            have e5666 : I5660 (ad g 0) 1 = L := by rw [eI5660, pp_ne _ _ (Or.inl (ly_ne hy (by decide) (by decide) (by decide)))]; exact e5578
            have e5667 : I5660 (ad g 0) 11 = v5580 := by rw [eI5660, pp_ne _ _ (Or.inl (ly_ne hy (by decide) (by decide) (by decide)))]; exact ev5580
            have e5668 : I5660 (ad g 0) 64 = v5645 := by rw [eI5660, pp_ne _ _ (Or.inl (ly_ne hy (by decide) (by decide) (by decide)))]; exact ev5645
            have fr5669 : fz 49 g [0, 35, 36, 37, 40, 41, 39] I I5660 := by rw [eI5660]; exact fzm_pp hy fiI5570 (by decide) (by decide)
            clear eI5660
            refine WP_iinc (ls' := [(0, _), (1, _), (2, _), (3, _), (5, _)]) dX11_dayOf_79 rfl (by decide) rfl ?_
            have hv5670 : (i5569 + Int32.ofInt (1)).toInt = i5569.toInt + (1) := ia_n rfl (by omega) (by omega)
            generalize i5569 + Int32.ofInt (1) = v5670 at hv5670 ⊢
            refine WP_goto 22 dX11_dayOf_82 rfl ?_
            exact WP_sub (fc rfl (fc rfl (fc rfl (fc rfl (fc rfl fn))))) (ihlp22_5576 v5670 I5660 J5571 hI5660 fr5669 w5572 e5661 w5573 e5662 w5574 e5663 w5575 e5664 w5576 e5665 (by omega) (by omega) (by omega) (by omega) (by omega) (by omega) (by omega) (by omega))
          refine WQ_if_ne 60 dX11_dayOf_41 rfl (fun c5670 => ?_) (fun c5670 => ?_)
          · refine WP_ldcw (1000000) dX11_dayOf_60 kX11_460 ?_
            obtain ⟨v5672, hv5672, ev5672⟩ : ∃ v : Int32, v.toInt = 1000000 ∧ ((1000000) : Int32) = v := ⟨(1000000), rfl, rfl⟩
            rw [ev5672]; clear ev5672
            refine WP_goto 78 dX11_dayOf_63 rfl ?_
            exact WP_sub (fc rfl (fc rfl (fc rfl (fc rfl (fc rfl fn))))) (jn78_5658 v5672 (by omega) (by omega))
          · refine WP_aload_n dX11_dayOf_44 rfl ?_
            refine WP_getr dX11_dayOf_45 fX11_259 rfl (ly_is hy 0 11 rfl) (rf hr 0 41 23 (by decide)) ?_
            refine WQ_bipush (7) (7) dX11_dayOf_48 rfl rfl (fun v5673 hv5673 => ?_)
            refine WP_iload dX11_dayOf_50 rfl ?_
            refine WQ_imulK (7) dX11_dayOf_52 hv5673 (by omega) (by omega) (fun v5674 hv5674 => ?_)
            refine WP_iload_n dX11_dayOf_53 rfl ?_
            refine WQ_iadd dX11_dayOf_54 (by omega) (by omega) (fun v5675 hv5675 => ?_)
            refine WQ_ialdb dX11_dayOf_55 (ly_is hy 23 13 rfl) (ly_n hy 23 21 rfl) (by omega) (by omega) (fun q hq => BT_get hI5570.1.1 23 0 21 (-1) (0) (999) (by decide) q (Nat.zero_le _) hq) (fun v5676 av5676 bv5676 zv5676 => ?_)
            refine WQ_iconst (-1) (-1) dX11_dayOf_56 rfl rfl (fun v5677 hv5677 => ?_)
            refine WQ_icmp_ne 66 dX11_dayOf_57 rfl (fun c5677 => ?_) (fun c5677 => ?_)
            · refine WP_aload_n dX11_dayOf_66 rfl ?_
              refine WP_getr dX11_dayOf_67 fX11_259 rfl (ly_is hy 0 11 rfl) (rf hr 0 41 23 (by decide)) ?_
              refine WQ_bipush (7) (7) dX11_dayOf_70 rfl rfl (fun v5679 hv5679 => ?_)
              refine WP_iload dX11_dayOf_72 rfl ?_
              refine WQ_imulK (7) dX11_dayOf_74 hv5679 (by omega) (by omega) (fun v5680 hv5680 => ?_)
              refine WP_iload_n dX11_dayOf_75 rfl ?_
              refine WQ_iadd dX11_dayOf_76 (by omega) (by omega) (fun v5681 hv5681 => ?_)
              refine WQ_ialdb dX11_dayOf_77 (ly_is hy 23 13 rfl) (ly_n hy 23 21 rfl) (by omega) (by omega) (fun q hq => BT_get hI5570.1.1 23 0 21 (-1) (0) (999) (by decide) q (Nat.zero_le _) hq) (fun v5682 av5682 bv5682 zv5682 => ?_)
              have tv5682 : v5682.toInt = v5676.toInt := by rw [← zv5682, ← zv5676, show v5681.toInt.toNat = v5675.toInt.toNat by omega]
              exact WP_sub (fc rfl (fc rfl (fc rfl (fc rfl (fc rfl fn))))) (jn78_5658 v5682 (by omega) (by omega))
            · refine WP_ldcw (1000000) dX11_dayOf_60 kX11_460 ?_
              obtain ⟨v5683, hv5683, ev5683⟩ : ∃ v : Int32, v.toInt = 1000000 ∧ ((1000000) : Int32) = v := ⟨(1000000), rfl, rfl⟩
              rw [ev5683]; clear ev5683
              refine WP_goto 78 dX11_dayOf_63 rfl ?_
              exact WP_sub (fc rfl (fc rfl (fc rfl (fc rfl (fc rfl fn))))) (jn78_5658 v5683 (by omega) (by omega))
    exact WP_sub (fc rfl (fc rfl (fc rfl (fc rfl (fc rfl fn))))) (lp22_5576 _ v5568 I5558 J5559 hI5558 fr5560 w5567 ew5567 w5435 e5561 w5431 e5562 w5432 e5563 w5433 e5564 (by omega) (by omega) (by omega) (by omega) (by omega) (by omega) (by omega) (Nat.lt_succ_self _))
