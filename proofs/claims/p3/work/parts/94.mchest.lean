set_option maxHeartbeats 4000000 in
set_option maxRecDepth 100000 in
theorem sm_openChest_38 {g : GG} {n : Int} {L : Int32} (hy : Ly g)  {I : pI} {J : pJ} {R : pR} (hr : Rf g R) (hI : MP g n L I)   (hn : 0 ≤ n ∧ n ≤ 40000) (hb : 0 ≤ (I (ad g 38) 32).toInt) : SP g mX11_openChest [.ref (ad g 0), .ref (ad g 38)] I J R (fun r I' J' R' => (MP g n L I' ∧ R' = R ∧ (I' (ad g 38) 32).toInt ≤ (I (ad g 38) 32).toInt) ∧ r = none) := by
  refine SP_of ⟨by decide, rfl⟩ (Nat.le_of_ble_eq_true rfl) ?_
  have e3859 : I (ad g 0) 1 = L := hI.1.2
  have b3860 := BT_get hI.1.1 0 1 2 (0) (0) (900) (by decide) 1 (by decide) (by decide)
  rw [e3859] at b3860
  obtain ⟨w3861, ew3861⟩ : ∃ w : Int32, I (ad g 38) 32 = w := ⟨_, rfl⟩
  have bw3861 := BT_get hI.1.1 38 32 33 (0) (23760) (0) (by decide) 32 (by decide) (by decide)
  rw [ew3861] at bw3861
  rw [ew3861] at hb
  refine WP_aload_n dX11_openChest_0 rfl ?_
  refine WQ_geti dX11_openChest_1 fX11_221 rfl (ly_is hy 0 11 rfl) (BT_get hI.1.1 0 13 14 (-1) (0) (3) (by decide) 13 (by decide) (by decide)) (fun v3862 ev3862 av3862 bv3862 => ?_)
  refine WQ_iconst (-1) (-1) dX11_openChest_4 rfl rfl (fun v3863 hv3863 => ?_)
  refine WQ_icmp_ne 9 dX11_openChest_5 rfl (fun c3863 => ?_) (fun c3863 => ?_)
  · obtain ⟨w3865, ew3865⟩ : ∃ w : Int32, I (ad g 0) 10 = w := ⟨_, rfl⟩
    have bw3865 := BT_get hI.1.1 0 10 11 (0) (0) (4) (by decide) 10 (by decide) (by decide)
    rw [ew3865] at bw3865
    have kc := pc_lt hI
    rw [ev3862, ew3865] at kc
    refine WP_aload_n dX11_openChest_9 rfl ?_
    refine WQ_bipush (32) (32) dX11_openChest_10 rfl rfl (fun v3866 hv3866 => ?_)
    refine WQ_ialdm (z := 32) dX11_openChest_12 (ly_is hy 38 13 rfl) (ly_n hy 38 35 rfl) hv3866 (by decide) ew3861 ?_
    refine WP_aload_n dX11_openChest_13 rfl ?_
    refine WP_getr dX11_openChest_14 fX11_235 rfl (ly_is hy 0 11 rfl) (rf hr 0 26 8 (by decide)) ?_
    refine WP_aload_n dX11_openChest_17 rfl ?_
    refine WQ_getim dX11_openChest_18 fX11_221 rfl (ly_is hy 0 11 rfl) ev3862 ?_
    refine WQ_ialdq (q := v3862.toInt.toNat) dX11_openChest_21 (ly_is hy 8 13 rfl) (ly_n hy 8 4 rfl) (by omega) (by omega) (by omega) (pp_get hI (by omega) (by rw [ew3865]; omega)) (fun v3868 av3868 bv3868 ev3868 => ?_)
    refine WQ_idivb dX11_openChest_22 (by omega) (by omega) (fun v3869 pv3869 av3869 bv3869 cv3869 => ?_)
    refine WP_istore_n (ls' := [(0, _), (1, _), (2, _)]) dX11_openChest_23 (by decide) rfl ?_
    refine WP_aload_n dX11_openChest_24 rfl ?_
    refine WQ_bipush (32) (32) dX11_openChest_25 rfl rfl (fun v3870 hv3870 => ?_)
    refine WP_dup2 dX11_openChest_27 rfl rfl ?_
    refine WQ_ialdm (z := 32) dX11_openChest_28 (ly_is hy 38 13 rfl) (ly_n hy 38 35 rfl) hv3870 (by decide) ew3861 ?_
    refine WP_iload_n dX11_openChest_29 rfl ?_
    refine WP_aload_n dX11_openChest_30 rfl ?_
    refine WP_getr dX11_openChest_31 fX11_235 rfl (ly_is hy 0 11 rfl) (rf hr 0 26 8 (by decide)) ?_
    refine WP_aload_n dX11_openChest_34 rfl ?_
    refine WQ_getim dX11_openChest_35 fX11_221 rfl (ly_is hy 0 11 rfl) ev3862 ?_
    refine WQ_ialde dX11_openChest_38 (ly_is hy 8 13 rfl) (ly_n hy 8 4 rfl) (by omega) (by omega) ev3868 ?_
    have knv3873 : 0 ≤ v3869.toInt * v3868.toInt := Int.mul_nonneg (by omega) (by omega)
    refine WQ_imulx dX11_openChest_39 (by omega) (by omega) (fun v3873 pv3873 => ?_)
    refine WQ_isub dX11_openChest_40 (by omega) (by omega) (fun v3874 hv3874 => ?_)
    refine WQ_iast dX11_openChest_41 (ly_is hy 38 13 rfl) (ly_n hy 38 35 rfl) (by omega) (by omega) (fun I3875 fI3875 => ?_)
    have eI3875 := fI3875
    rw [cl (x := v3870) (n := 32) (by omega)] at eI3875
    clear fI3875
    have hI3875 : MP g n L I3875 := by rw [eI3875]; exact (mp_w hy hI (c := 38) (mi_f hy hI.1 (c := 38) (0) (23760) (0) (by decide) (Or.inl (by decide)) (by decide) (by omega) (by omega)) (by decide) (by decide) (Or.inl (by decide)))
    have e3876 : I3875 (ad g 0) 1 = L := by rw [eI3875, pp_ne _ _ (Or.inl (ly_ne hy (by decide) (by decide) (by decide)))]; exact e3859
    have e3877 : I3875 (ad g 0) 13 = v3862 := by rw [eI3875, pp_ne _ _ (Or.inl (ly_ne hy (by decide) (by decide) (by decide)))]; exact ev3862
    have e3878 : I3875 (ad g 0) 10 = w3865 := by rw [eI3875, pp_ne _ _ (Or.inl (ly_ne hy (by decide) (by decide) (by decide)))]; exact ew3865
    have e3879 : I3875 (ad g 8) v3862.toNatClampNeg = v3868 := by rw [eI3875, pp_ne _ _ (Or.inl (ly_ne hy (by decide) (by decide) (by decide)))]; exact ev3868
    have e3880 : I3875 (ad g 38) 32 = v3874 := by rw [eI3875, pp_self]
    clear eI3875
    refine WP_aload_n dX11_openChest_42 rfl ?_
    refine WQ_bipush (24) (24) dX11_openChest_43 rfl rfl (fun v3881 hv3881 => ?_)
    refine WP_aload_n dX11_openChest_45 rfl ?_
    refine WQ_getim dX11_openChest_46 fX11_221 rfl (ly_is hy 0 11 rfl) e3877 ?_
    refine WQ_iadd dX11_openChest_49 (by omega) (by omega) (fun v3882 hv3882 => ?_)
    refine WP_dup2 dX11_openChest_50 rfl rfl ?_
    refine WQ_ialdu dX11_openChest_51 (ly_is hy 38 13 rfl) (ly_n hy 38 35 rfl) (by omega) (by omega) (fun v3883 => ?_)
    refine WP_iload_n dX11_openChest_52 rfl ?_
    refine WP_aload_n dX11_openChest_53 rfl ?_
    refine WP_getr dX11_openChest_54 fX11_235 rfl (ly_is hy 0 11 rfl) (rf hr 0 26 8 (by decide)) ?_
    refine WP_aload_n dX11_openChest_57 rfl ?_
    refine WQ_getim dX11_openChest_58 fX11_221 rfl (ly_is hy 0 11 rfl) e3877 ?_
    refine WQ_ialde dX11_openChest_61 (ly_is hy 8 13 rfl) (ly_n hy 8 4 rfl) (by omega) (by omega) e3879 ?_
    have knv3885 : 0 ≤ v3869.toInt * v3868.toInt := Int.mul_nonneg (by omega) (by omega)
    refine WQ_imulx dX11_openChest_62 (by omega) (by omega) (fun v3885 pv3885 => ?_)
    refine WQ_iaddu dX11_openChest_63 (fun v3886 => ?_)
    refine WQ_iast dX11_openChest_64 (ly_is hy 38 13 rfl) (ly_n hy 38 35 rfl) (by omega) (by omega) (fun I3887 eI3887 => ?_)
    have hI3887 : MP g n L I3887 := by rw [eI3887]; exact (mp_w hy hI3875 (c := 38) (mi_rr hy hI3875.1 (c := 38) (24) (27) (0) (0) (0) (by decide) (Or.inl (by decide)) (by rw [cl (n := v3882.toInt.toNat) (by omega)]; omega) (by decide) (fun h => absurd h (by decide))) (by decide) (by decide) (Or.inl (by decide)))
    have e3888 : I3887 (ad g 0) 1 = L := by rw [eI3887, pp_ne _ _ (Or.inl (ly_ne hy (by decide) (by decide) (by decide)))]; exact e3876
    have e3889 : I3887 (ad g 0) 13 = v3862 := by rw [eI3887, pp_ne _ _ (Or.inl (ly_ne hy (by decide) (by decide) (by decide)))]; exact e3877
    have e3890 : I3887 (ad g 0) 10 = w3865 := by rw [eI3887, pp_ne _ _ (Or.inl (ly_ne hy (by decide) (by decide) (by decide)))]; exact e3878
    have e3891 : I3887 (ad g 8) v3862.toNatClampNeg = v3868 := by rw [eI3887, pp_ne _ _ (Or.inl (ly_ne hy (by decide) (by decide) (by decide)))]; exact e3879
    have e3892 : I3887 (ad g 38) 32 = v3874 := by rw [eI3887, pp_ne _ _ (Or.inr (by rw [cl (x := v3882) (n := v3882.toInt.toNat) (by omega)]; omega))]; exact e3880
    clear eI3887
    refine WP_aload_n dX11_openChest_65 rfl ?_
    refine WQ_iconst (0) (0) dX11_openChest_66 rfl rfl (fun v3893 hv3893 => ?_)
    refine WP_aload_n dX11_openChest_67 rfl ?_
    refine WQ_getim dX11_openChest_68 fX11_221 rfl (ly_is hy 0 11 rfl) e3889 ?_
    refine WQ_iadd dX11_openChest_71 (by omega) (by omega) (fun v3894 hv3894 => ?_)
    refine WQ_bipush (60) (60) dX11_openChest_72 rfl rfl (fun v3895 hv3895 => ?_)
    refine WP_aload_n dX11_openChest_74 rfl ?_
    refine WQ_iconst (0) (0) dX11_openChest_75 rfl rfl (fun v3896 hv3896 => ?_)
    refine WP_aload_n dX11_openChest_76 rfl ?_
    refine WQ_getim dX11_openChest_77 fX11_221 rfl (ly_is hy 0 11 rfl) e3889 ?_
    refine WQ_iadd dX11_openChest_80 (by omega) (by omega) (fun v3897 hv3897 => ?_)
    refine WQ_ialdr dX11_openChest_81 (ly_is hy 38 13 rfl) (ly_n hy 38 35 rfl) (by omega) (by omega) (a := 0) (b := 4) (by omega) (by omega) (fun q hq1 hq2 => BT_get hI3887.1.1 38 0 4 (0) (0) (60) (by decide) q hq1 hq2) (fun v3898 av3898 bv3898 => ?_)
    refine WP_iload_n dX11_openChest_82 rfl ?_
    refine WQ_iadd dX11_openChest_83 (by omega) (by omega) (fun v3899 hv3899 => ?_)
    refine WQ_min dX11_openChest_84 lX11_417 ⟨by decide, Nat.le_of_ble_eq_true rfl⟩ (fun v3900 av3900 bv3900 cv3900 => ?_)
    refine WQ_iast dX11_openChest_87 (ly_is hy 38 13 rfl) (ly_n hy 38 35 rfl) (by omega) (by omega) (fun I3901 eI3901 => ?_)
    have hI3901 : MP g n L I3901 := by rw [eI3901]; exact (mp_w hy hI3887 (c := 38) (mi_rr hy hI3887.1 (c := 38) (0) (3) (0) (0) (60) (by decide) (Or.inl (by decide)) (by rw [cl (n := v3894.toInt.toNat) (by omega)]; omega) (by decide) (fun _ => ⟨by omega, by omega⟩)) (by decide) (by decide) (Or.inl (by decide)))
    have e3902 : I3901 (ad g 0) 1 = L := by rw [eI3901, pp_ne _ _ (Or.inl (ly_ne hy (by decide) (by decide) (by decide)))]; exact e3888
    have e3903 : I3901 (ad g 0) 13 = v3862 := by rw [eI3901, pp_ne _ _ (Or.inl (ly_ne hy (by decide) (by decide) (by decide)))]; exact e3889
    have e3904 : I3901 (ad g 0) 10 = w3865 := by rw [eI3901, pp_ne _ _ (Or.inl (ly_ne hy (by decide) (by decide) (by decide)))]; exact e3890
    have e3905 : I3901 (ad g 8) v3862.toNatClampNeg = v3868 := by rw [eI3901, pp_ne _ _ (Or.inl (ly_ne hy (by decide) (by decide) (by decide)))]; exact e3891
    have e3906 : I3901 (ad g 38) 32 = v3874 := by rw [eI3901, pp_ne _ _ (Or.inr (by rw [cl (x := v3894) (n := v3894.toInt.toNat) (by omega)]; omega))]; exact e3892
    clear eI3901
    exact WP_vret dX11_openChest_88 rfl ⟨⟨hI3901, rfl, (by rw [e3906, ew3861]; omega)⟩, rfl⟩
  · exact WP_vret dX11_openChest_8 rfl ⟨⟨hI, rfl, (by omega)⟩, rfl⟩
set_option maxHeartbeats 4000000 in
set_option maxRecDepth 100000 in
theorem sm_openChest_39 {g : GG} {n : Int} {L : Int32} (hy : Ly g)  {I : pI} {J : pJ} {R : pR} (hr : Rf g R) (hI : MP g n L I)   (hn : 0 ≤ n ∧ n ≤ 40000) (hb : 0 ≤ (I (ad g 39) 32).toInt) : SP g mX11_openChest [.ref (ad g 0), .ref (ad g 39)] I J R (fun r I' J' R' => (MP g n L I' ∧ R' = R ∧ (I' (ad g 39) 32).toInt ≤ (I (ad g 39) 32).toInt) ∧ r = none) := by
  refine SP_of ⟨by decide, rfl⟩ (Nat.le_of_ble_eq_true rfl) ?_
  have e3907 : I (ad g 0) 1 = L := hI.1.2
  have b3908 := BT_get hI.1.1 0 1 2 (0) (0) (900) (by decide) 1 (by decide) (by decide)
  rw [e3907] at b3908
  obtain ⟨w3909, ew3909⟩ : ∃ w : Int32, I (ad g 39) 32 = w := ⟨_, rfl⟩
  have bw3909 := BT_get hI.1.1 39 32 33 (0) (23760) (700000) (by decide) 32 (by decide) (by decide)
  rw [ew3909] at bw3909
  rw [ew3909] at hb
  refine WP_aload_n dX11_openChest_0 rfl ?_
  refine WQ_geti dX11_openChest_1 fX11_221 rfl (ly_is hy 0 11 rfl) (BT_get hI.1.1 0 13 14 (-1) (0) (3) (by decide) 13 (by decide) (by decide)) (fun v3910 ev3910 av3910 bv3910 => ?_)
  refine WQ_iconst (-1) (-1) dX11_openChest_4 rfl rfl (fun v3911 hv3911 => ?_)
  refine WQ_icmp_ne 9 dX11_openChest_5 rfl (fun c3911 => ?_) (fun c3911 => ?_)
  · obtain ⟨w3913, ew3913⟩ : ∃ w : Int32, I (ad g 0) 10 = w := ⟨_, rfl⟩
    have bw3913 := BT_get hI.1.1 0 10 11 (0) (0) (4) (by decide) 10 (by decide) (by decide)
    rw [ew3913] at bw3913
    have kc := pc_lt hI
    rw [ev3910, ew3913] at kc
    refine WP_aload_n dX11_openChest_9 rfl ?_
    refine WQ_bipush (32) (32) dX11_openChest_10 rfl rfl (fun v3914 hv3914 => ?_)
    refine WQ_ialdm (z := 32) dX11_openChest_12 (ly_is hy 39 13 rfl) (ly_n hy 39 35 rfl) hv3914 (by decide) ew3909 ?_
    refine WP_aload_n dX11_openChest_13 rfl ?_
    refine WP_getr dX11_openChest_14 fX11_235 rfl (ly_is hy 0 11 rfl) (rf hr 0 26 8 (by decide)) ?_
    refine WP_aload_n dX11_openChest_17 rfl ?_
    refine WQ_getim dX11_openChest_18 fX11_221 rfl (ly_is hy 0 11 rfl) ev3910 ?_
    refine WQ_ialdq (q := v3910.toInt.toNat) dX11_openChest_21 (ly_is hy 8 13 rfl) (ly_n hy 8 4 rfl) (by omega) (by omega) (by omega) (pp_get hI (by omega) (by rw [ew3913]; omega)) (fun v3916 av3916 bv3916 ev3916 => ?_)
    refine WQ_idivb dX11_openChest_22 (by omega) (by omega) (fun v3917 pv3917 av3917 bv3917 cv3917 => ?_)
    refine WP_istore_n (ls' := [(0, _), (1, _), (2, _)]) dX11_openChest_23 (by decide) rfl ?_
    refine WP_aload_n dX11_openChest_24 rfl ?_
    refine WQ_bipush (32) (32) dX11_openChest_25 rfl rfl (fun v3918 hv3918 => ?_)
    refine WP_dup2 dX11_openChest_27 rfl rfl ?_
    refine WQ_ialdm (z := 32) dX11_openChest_28 (ly_is hy 39 13 rfl) (ly_n hy 39 35 rfl) hv3918 (by decide) ew3909 ?_
    refine WP_iload_n dX11_openChest_29 rfl ?_
    refine WP_aload_n dX11_openChest_30 rfl ?_
    refine WP_getr dX11_openChest_31 fX11_235 rfl (ly_is hy 0 11 rfl) (rf hr 0 26 8 (by decide)) ?_
    refine WP_aload_n dX11_openChest_34 rfl ?_
    refine WQ_getim dX11_openChest_35 fX11_221 rfl (ly_is hy 0 11 rfl) ev3910 ?_
    refine WQ_ialde dX11_openChest_38 (ly_is hy 8 13 rfl) (ly_n hy 8 4 rfl) (by omega) (by omega) ev3916 ?_
    have knv3921 : 0 ≤ v3917.toInt * v3916.toInt := Int.mul_nonneg (by omega) (by omega)
    refine WQ_imulx dX11_openChest_39 (by omega) (by omega) (fun v3921 pv3921 => ?_)
    refine WQ_isub dX11_openChest_40 (by omega) (by omega) (fun v3922 hv3922 => ?_)
    refine WQ_iast dX11_openChest_41 (ly_is hy 39 13 rfl) (ly_n hy 39 35 rfl) (by omega) (by omega) (fun I3923 fI3923 => ?_)
    have eI3923 := fI3923
    rw [cl (x := v3918) (n := 32) (by omega)] at eI3923
    clear fI3923
    have hI3923 : MP g n L I3923 := by rw [eI3923]; exact (mp_w hy hI (c := 39) (mi_f hy hI.1 (c := 39) (0) (23760) (700000) (by decide) (Or.inl (by decide)) (by decide) (by omega) (by omega)) (by decide) (by decide) (Or.inl (by decide)))
    have e3924 : I3923 (ad g 0) 1 = L := by rw [eI3923, pp_ne _ _ (Or.inl (ly_ne hy (by decide) (by decide) (by decide)))]; exact e3907
    have e3925 : I3923 (ad g 0) 13 = v3910 := by rw [eI3923, pp_ne _ _ (Or.inl (ly_ne hy (by decide) (by decide) (by decide)))]; exact ev3910
    have e3926 : I3923 (ad g 0) 10 = w3913 := by rw [eI3923, pp_ne _ _ (Or.inl (ly_ne hy (by decide) (by decide) (by decide)))]; exact ew3913
    have e3927 : I3923 (ad g 8) v3910.toNatClampNeg = v3916 := by rw [eI3923, pp_ne _ _ (Or.inl (ly_ne hy (by decide) (by decide) (by decide)))]; exact ev3916
    have e3928 : I3923 (ad g 39) 32 = v3922 := by rw [eI3923, pp_self]
    clear eI3923
    refine WP_aload_n dX11_openChest_42 rfl ?_
    refine WQ_bipush (24) (24) dX11_openChest_43 rfl rfl (fun v3929 hv3929 => ?_)
    refine WP_aload_n dX11_openChest_45 rfl ?_
    refine WQ_getim dX11_openChest_46 fX11_221 rfl (ly_is hy 0 11 rfl) e3925 ?_
    refine WQ_iadd dX11_openChest_49 (by omega) (by omega) (fun v3930 hv3930 => ?_)
    refine WP_dup2 dX11_openChest_50 rfl rfl ?_
    refine WQ_ialdu dX11_openChest_51 (ly_is hy 39 13 rfl) (ly_n hy 39 35 rfl) (by omega) (by omega) (fun v3931 => ?_)
    refine WP_iload_n dX11_openChest_52 rfl ?_
    refine WP_aload_n dX11_openChest_53 rfl ?_
    refine WP_getr dX11_openChest_54 fX11_235 rfl (ly_is hy 0 11 rfl) (rf hr 0 26 8 (by decide)) ?_
    refine WP_aload_n dX11_openChest_57 rfl ?_
    refine WQ_getim dX11_openChest_58 fX11_221 rfl (ly_is hy 0 11 rfl) e3925 ?_
    refine WQ_ialde dX11_openChest_61 (ly_is hy 8 13 rfl) (ly_n hy 8 4 rfl) (by omega) (by omega) e3927 ?_
    have knv3933 : 0 ≤ v3917.toInt * v3916.toInt := Int.mul_nonneg (by omega) (by omega)
    refine WQ_imulx dX11_openChest_62 (by omega) (by omega) (fun v3933 pv3933 => ?_)
    refine WQ_iaddu dX11_openChest_63 (fun v3934 => ?_)
    refine WQ_iast dX11_openChest_64 (ly_is hy 39 13 rfl) (ly_n hy 39 35 rfl) (by omega) (by omega) (fun I3935 eI3935 => ?_)
    have hI3935 : MP g n L I3935 := by rw [eI3935]; exact (mp_w hy hI3923 (c := 39) (mi_rr hy hI3923.1 (c := 39) (24) (27) (0) (0) (0) (by decide) (Or.inl (by decide)) (by rw [cl (n := v3930.toInt.toNat) (by omega)]; omega) (by decide) (fun h => absurd h (by decide))) (by decide) (by decide) (Or.inl (by decide)))
    have e3936 : I3935 (ad g 0) 1 = L := by rw [eI3935, pp_ne _ _ (Or.inl (ly_ne hy (by decide) (by decide) (by decide)))]; exact e3924
    have e3937 : I3935 (ad g 0) 13 = v3910 := by rw [eI3935, pp_ne _ _ (Or.inl (ly_ne hy (by decide) (by decide) (by decide)))]; exact e3925
    have e3938 : I3935 (ad g 0) 10 = w3913 := by rw [eI3935, pp_ne _ _ (Or.inl (ly_ne hy (by decide) (by decide) (by decide)))]; exact e3926
    have e3939 : I3935 (ad g 8) v3910.toNatClampNeg = v3916 := by rw [eI3935, pp_ne _ _ (Or.inl (ly_ne hy (by decide) (by decide) (by decide)))]; exact e3927
    have e3940 : I3935 (ad g 39) 32 = v3922 := by rw [eI3935, pp_ne _ _ (Or.inr (by rw [cl (x := v3930) (n := v3930.toInt.toNat) (by omega)]; omega))]; exact e3928
    clear eI3935
    refine WP_aload_n dX11_openChest_65 rfl ?_
    refine WQ_iconst (0) (0) dX11_openChest_66 rfl rfl (fun v3941 hv3941 => ?_)
    refine WP_aload_n dX11_openChest_67 rfl ?_
    refine WQ_getim dX11_openChest_68 fX11_221 rfl (ly_is hy 0 11 rfl) e3937 ?_
    refine WQ_iadd dX11_openChest_71 (by omega) (by omega) (fun v3942 hv3942 => ?_)
    refine WQ_bipush (60) (60) dX11_openChest_72 rfl rfl (fun v3943 hv3943 => ?_)
    refine WP_aload_n dX11_openChest_74 rfl ?_
    refine WQ_iconst (0) (0) dX11_openChest_75 rfl rfl (fun v3944 hv3944 => ?_)
    refine WP_aload_n dX11_openChest_76 rfl ?_
    refine WQ_getim dX11_openChest_77 fX11_221 rfl (ly_is hy 0 11 rfl) e3937 ?_
    refine WQ_iadd dX11_openChest_80 (by omega) (by omega) (fun v3945 hv3945 => ?_)
    refine WQ_ialdr dX11_openChest_81 (ly_is hy 39 13 rfl) (ly_n hy 39 35 rfl) (by omega) (by omega) (a := 0) (b := 4) (by omega) (by omega) (fun q hq1 hq2 => BT_get hI3935.1.1 39 0 4 (0) (0) (60) (by decide) q hq1 hq2) (fun v3946 av3946 bv3946 => ?_)
    refine WP_iload_n dX11_openChest_82 rfl ?_
    refine WQ_iadd dX11_openChest_83 (by omega) (by omega) (fun v3947 hv3947 => ?_)
    refine WQ_min dX11_openChest_84 lX11_417 ⟨by decide, Nat.le_of_ble_eq_true rfl⟩ (fun v3948 av3948 bv3948 cv3948 => ?_)
    refine WQ_iast dX11_openChest_87 (ly_is hy 39 13 rfl) (ly_n hy 39 35 rfl) (by omega) (by omega) (fun I3949 eI3949 => ?_)
    have hI3949 : MP g n L I3949 := by rw [eI3949]; exact (mp_w hy hI3935 (c := 39) (mi_rr hy hI3935.1 (c := 39) (0) (3) (0) (0) (60) (by decide) (Or.inl (by decide)) (by rw [cl (n := v3942.toInt.toNat) (by omega)]; omega) (by decide) (fun _ => ⟨by omega, by omega⟩)) (by decide) (by decide) (Or.inl (by decide)))
    have e3950 : I3949 (ad g 0) 1 = L := by rw [eI3949, pp_ne _ _ (Or.inl (ly_ne hy (by decide) (by decide) (by decide)))]; exact e3936
    have e3951 : I3949 (ad g 0) 13 = v3910 := by rw [eI3949, pp_ne _ _ (Or.inl (ly_ne hy (by decide) (by decide) (by decide)))]; exact e3937
    have e3952 : I3949 (ad g 0) 10 = w3913 := by rw [eI3949, pp_ne _ _ (Or.inl (ly_ne hy (by decide) (by decide) (by decide)))]; exact e3938
    have e3953 : I3949 (ad g 8) v3910.toNatClampNeg = v3916 := by rw [eI3949, pp_ne _ _ (Or.inl (ly_ne hy (by decide) (by decide) (by decide)))]; exact e3939
    have e3954 : I3949 (ad g 39) 32 = v3922 := by rw [eI3949, pp_ne _ _ (Or.inr (by rw [cl (x := v3942) (n := v3942.toInt.toNat) (by omega)]; omega))]; exact e3940
    clear eI3949
    exact WP_vret dX11_openChest_88 rfl ⟨⟨hI3949, rfl, (by rw [e3954, ew3909]; omega)⟩, rfl⟩
  · exact WP_vret dX11_openChest_8 rfl ⟨⟨hI, rfl, (by omega)⟩, rfl⟩
