set_option maxHeartbeats 4000000 in
set_option maxRecDepth 100000 in
theorem sm_openChest_38 {g : GG} {n : Int} {L : Int32} (hy : Ly g)  {I : pI} {J : pJ} {R : pR} (hr : Rf g R) (hI : MP g n L I)   (hn : 0 ≤ n ∧ n ≤ 40000) (hb : 0 ≤ (I (ad g 38) 32).toInt) : SP g mX11_openChest [.ref (ad g 0), .ref (ad g 38)] I J R (fun r I' J' R' => (MP g n L I' ∧ R' = R ∧ (I' (ad g 38) 32).toInt ≤ (I (ad g 38) 32).toInt) ∧ r = none) := by
  refine SP_of ⟨by decide, rfl⟩ (Nat.le_of_ble_eq_true rfl) ?_
  have e3698 : I (ad g 0) 1 = L := hI.1.2
  have b3699 := BT_get hI.1.1 0 1 2 (0) (0) (900) (by decide) 1 (by decide) (by decide)
  rw [e3698] at b3699
  obtain ⟨w3700, ew3700⟩ : ∃ w : Int32, I (ad g 38) 32 = w := ⟨_, rfl⟩
  have bw3700 := BT_get hI.1.1 38 32 33 (0) (23760) (0) (by decide) 32 (by decide) (by decide)
  rw [ew3700] at bw3700
  rw [ew3700] at hb
  refine WP_aload_n dX11_openChest_0 rfl ?_
  refine WQ_geti dX11_openChest_1 fX11_221 rfl (ly_is hy 0 11 rfl) (BT_get hI.1.1 0 13 14 (-1) (0) (3) (by decide) 13 (by decide) (by decide)) (fun v3701 ev3701 av3701 bv3701 => ?_)
  refine WQ_iconst (-1) (-1) dX11_openChest_4 rfl rfl (fun v3702 hv3702 => ?_)
  refine WQ_icmp_ne 9 dX11_openChest_5 rfl (fun c3702 => ?_) (fun c3702 => ?_)
  · obtain ⟨w3704, ew3704⟩ : ∃ w : Int32, I (ad g 0) 10 = w := ⟨_, rfl⟩
    have bw3704 := BT_get hI.1.1 0 10 11 (0) (0) (4) (by decide) 10 (by decide) (by decide)
    rw [ew3704] at bw3704
    have kc := pc_lt hI
    rw [ev3701, ew3704] at kc
    refine WP_aload_n dX11_openChest_9 rfl ?_
    refine WQ_bipush (32) (32) dX11_openChest_10 rfl rfl (fun v3705 hv3705 => ?_)
    refine WQ_ialdm (z := 32) dX11_openChest_12 (ly_is hy 38 13 rfl) (ly_n hy 38 35 rfl) hv3705 (by decide) ew3700 ?_
    refine WP_aload_n dX11_openChest_13 rfl ?_
    refine WP_getr dX11_openChest_14 fX11_235 rfl (ly_is hy 0 11 rfl) (rf hr 0 26 8 (by decide)) ?_
    refine WP_aload_n dX11_openChest_17 rfl ?_
    refine WQ_getim dX11_openChest_18 fX11_221 rfl (ly_is hy 0 11 rfl) ev3701 ?_
    refine WQ_ialdq (q := v3701.toInt.toNat) dX11_openChest_21 (ly_is hy 8 13 rfl) (ly_n hy 8 4 rfl) (by omega) (by omega) (by omega) (pp_get hI (by omega) (by rw [ew3704]; omega)) (fun v3707 av3707 bv3707 ev3707 => ?_)
    refine WQ_idivb dX11_openChest_22 (by omega) (by omega) (fun v3708 pv3708 av3708 bv3708 cv3708 => ?_)
    refine WP_istore_n (ls' := [(0, _), (1, _), (2, _)]) dX11_openChest_23 (by decide) rfl ?_
    refine WP_aload_n dX11_openChest_24 rfl ?_
    refine WQ_bipush (32) (32) dX11_openChest_25 rfl rfl (fun v3709 hv3709 => ?_)
    refine WP_dup2 dX11_openChest_27 rfl rfl ?_
    refine WQ_ialdm (z := 32) dX11_openChest_28 (ly_is hy 38 13 rfl) (ly_n hy 38 35 rfl) hv3709 (by decide) ew3700 ?_
    refine WP_iload_n dX11_openChest_29 rfl ?_
    refine WP_aload_n dX11_openChest_30 rfl ?_
    refine WP_getr dX11_openChest_31 fX11_235 rfl (ly_is hy 0 11 rfl) (rf hr 0 26 8 (by decide)) ?_
    refine WP_aload_n dX11_openChest_34 rfl ?_
    refine WQ_getim dX11_openChest_35 fX11_221 rfl (ly_is hy 0 11 rfl) ev3701 ?_
    refine WQ_ialde dX11_openChest_38 (ly_is hy 8 13 rfl) (ly_n hy 8 4 rfl) (by omega) (by omega) ev3707 ?_
    have knv3712 : 0 ≤ v3708.toInt * v3707.toInt := Int.mul_nonneg (by omega) (by omega)
    refine WQ_imulx dX11_openChest_39 (by omega) (by omega) (fun v3712 pv3712 => ?_)
    refine WQ_isub dX11_openChest_40 (by omega) (by omega) (fun v3713 hv3713 => ?_)
    refine WQ_iast dX11_openChest_41 (ly_is hy 38 13 rfl) (ly_n hy 38 35 rfl) (by omega) (by omega) (fun I3714 fI3714 => ?_)
    have eI3714 := fI3714
    rw [cl (x := v3709) (n := 32) (by omega)] at eI3714
    clear fI3714
    have hI3714 : MP g n L I3714 := by rw [eI3714]; exact (mp_w hy hI (c := 38) (mi_f hy hI.1 (c := 38) (0) (23760) (0) (by decide) (Or.inl (by decide)) (by decide) (by omega) (by omega)) (by decide) (by decide) (Or.inl (by decide)))
    have e3715 : I3714 (ad g 0) 1 = L := by rw [eI3714, pp_ne _ _ (Or.inl (ly_ne hy (by decide) (by decide) (by decide)))]; exact e3698
    have e3716 : I3714 (ad g 0) 13 = v3701 := by rw [eI3714, pp_ne _ _ (Or.inl (ly_ne hy (by decide) (by decide) (by decide)))]; exact ev3701
    have e3717 : I3714 (ad g 0) 10 = w3704 := by rw [eI3714, pp_ne _ _ (Or.inl (ly_ne hy (by decide) (by decide) (by decide)))]; exact ew3704
    have e3718 : I3714 (ad g 8) v3701.toNatClampNeg = v3707 := by rw [eI3714, pp_ne _ _ (Or.inl (ly_ne hy (by decide) (by decide) (by decide)))]; exact ev3707
    have e3719 : I3714 (ad g 38) 32 = v3713 := by rw [eI3714, pp_self]
    clear eI3714
    refine WP_aload_n dX11_openChest_42 rfl ?_
    refine WQ_bipush (24) (24) dX11_openChest_43 rfl rfl (fun v3720 hv3720 => ?_)
    refine WP_aload_n dX11_openChest_45 rfl ?_
    refine WQ_getim dX11_openChest_46 fX11_221 rfl (ly_is hy 0 11 rfl) e3716 ?_
    refine WQ_iadd dX11_openChest_49 (by omega) (by omega) (fun v3721 hv3721 => ?_)
    refine WP_dup2 dX11_openChest_50 rfl rfl ?_
    refine WQ_ialdu dX11_openChest_51 (ly_is hy 38 13 rfl) (ly_n hy 38 35 rfl) (by omega) (by omega) (fun v3722 => ?_)
    refine WP_iload_n dX11_openChest_52 rfl ?_
    refine WP_aload_n dX11_openChest_53 rfl ?_
    refine WP_getr dX11_openChest_54 fX11_235 rfl (ly_is hy 0 11 rfl) (rf hr 0 26 8 (by decide)) ?_
    refine WP_aload_n dX11_openChest_57 rfl ?_
    refine WQ_getim dX11_openChest_58 fX11_221 rfl (ly_is hy 0 11 rfl) e3716 ?_
    refine WQ_ialde dX11_openChest_61 (ly_is hy 8 13 rfl) (ly_n hy 8 4 rfl) (by omega) (by omega) e3718 ?_
    have knv3724 : 0 ≤ v3708.toInt * v3707.toInt := Int.mul_nonneg (by omega) (by omega)
    refine WQ_imulx dX11_openChest_62 (by omega) (by omega) (fun v3724 pv3724 => ?_)
    refine WQ_iaddu dX11_openChest_63 (fun v3725 => ?_)
    refine WQ_iast dX11_openChest_64 (ly_is hy 38 13 rfl) (ly_n hy 38 35 rfl) (by omega) (by omega) (fun I3726 eI3726 => ?_)
    have hI3726 : MP g n L I3726 := by rw [eI3726]; exact (mp_w hy hI3714 (c := 38) (mi_rr hy hI3714.1 (c := 38) (24) (27) (0) (0) (0) (by decide) (Or.inl (by decide)) (by rw [cl (n := v3721.toInt.toNat) (by omega)]; omega) (by decide) (fun h => absurd h (by decide))) (by decide) (by decide) (Or.inl (by decide)))
    have e3727 : I3726 (ad g 0) 1 = L := by rw [eI3726, pp_ne _ _ (Or.inl (ly_ne hy (by decide) (by decide) (by decide)))]; exact e3715
    have e3728 : I3726 (ad g 0) 13 = v3701 := by rw [eI3726, pp_ne _ _ (Or.inl (ly_ne hy (by decide) (by decide) (by decide)))]; exact e3716
    have e3729 : I3726 (ad g 0) 10 = w3704 := by rw [eI3726, pp_ne _ _ (Or.inl (ly_ne hy (by decide) (by decide) (by decide)))]; exact e3717
    have e3730 : I3726 (ad g 8) v3701.toNatClampNeg = v3707 := by rw [eI3726, pp_ne _ _ (Or.inl (ly_ne hy (by decide) (by decide) (by decide)))]; exact e3718
    have e3731 : I3726 (ad g 38) 32 = v3713 := by rw [eI3726, pp_ne _ _ (Or.inr (by rw [cl (x := v3721) (n := v3721.toInt.toNat) (by omega)]; omega))]; exact e3719
    clear eI3726
    refine WP_aload_n dX11_openChest_65 rfl ?_
    refine WQ_iconst (0) (0) dX11_openChest_66 rfl rfl (fun v3732 hv3732 => ?_)
    refine WP_aload_n dX11_openChest_67 rfl ?_
    refine WQ_getim dX11_openChest_68 fX11_221 rfl (ly_is hy 0 11 rfl) e3728 ?_
    refine WQ_iadd dX11_openChest_71 (by omega) (by omega) (fun v3733 hv3733 => ?_)
    refine WQ_bipush (60) (60) dX11_openChest_72 rfl rfl (fun v3734 hv3734 => ?_)
    refine WP_aload_n dX11_openChest_74 rfl ?_
    refine WQ_iconst (0) (0) dX11_openChest_75 rfl rfl (fun v3735 hv3735 => ?_)
    refine WP_aload_n dX11_openChest_76 rfl ?_
    refine WQ_getim dX11_openChest_77 fX11_221 rfl (ly_is hy 0 11 rfl) e3728 ?_
    refine WQ_iadd dX11_openChest_80 (by omega) (by omega) (fun v3736 hv3736 => ?_)
    refine WQ_ialdr dX11_openChest_81 (ly_is hy 38 13 rfl) (ly_n hy 38 35 rfl) (by omega) (by omega) (a := 0) (b := 4) (by omega) (by omega) (fun q hq1 hq2 => BT_get hI3726.1.1 38 0 4 (0) (0) (60) (by decide) q hq1 hq2) (fun v3737 av3737 bv3737 => ?_)
    refine WP_iload_n dX11_openChest_82 rfl ?_
    refine WQ_iadd dX11_openChest_83 (by omega) (by omega) (fun v3738 hv3738 => ?_)
    refine WQ_min dX11_openChest_84 lX11_417 ⟨by decide, Nat.le_of_ble_eq_true rfl⟩ (fun v3739 av3739 bv3739 cv3739 => ?_)
    refine WQ_iast dX11_openChest_87 (ly_is hy 38 13 rfl) (ly_n hy 38 35 rfl) (by omega) (by omega) (fun I3740 eI3740 => ?_)
    have hI3740 : MP g n L I3740 := by rw [eI3740]; exact (mp_w hy hI3726 (c := 38) (mi_rr hy hI3726.1 (c := 38) (0) (3) (0) (0) (60) (by decide) (Or.inl (by decide)) (by rw [cl (n := v3733.toInt.toNat) (by omega)]; omega) (by decide) (fun _ => ⟨by omega, by omega⟩)) (by decide) (by decide) (Or.inl (by decide)))
    have e3741 : I3740 (ad g 0) 1 = L := by rw [eI3740, pp_ne _ _ (Or.inl (ly_ne hy (by decide) (by decide) (by decide)))]; exact e3727
    have e3742 : I3740 (ad g 0) 13 = v3701 := by rw [eI3740, pp_ne _ _ (Or.inl (ly_ne hy (by decide) (by decide) (by decide)))]; exact e3728
    have e3743 : I3740 (ad g 0) 10 = w3704 := by rw [eI3740, pp_ne _ _ (Or.inl (ly_ne hy (by decide) (by decide) (by decide)))]; exact e3729
    have e3744 : I3740 (ad g 8) v3701.toNatClampNeg = v3707 := by rw [eI3740, pp_ne _ _ (Or.inl (ly_ne hy (by decide) (by decide) (by decide)))]; exact e3730
    have e3745 : I3740 (ad g 38) 32 = v3713 := by rw [eI3740, pp_ne _ _ (Or.inr (by rw [cl (x := v3733) (n := v3733.toInt.toNat) (by omega)]; omega))]; exact e3731
    clear eI3740
    exact WP_vret dX11_openChest_88 rfl ⟨⟨hI3740, rfl, (by rw [e3745, ew3700]; omega)⟩, rfl⟩
  · exact WP_vret dX11_openChest_8 rfl ⟨⟨hI, rfl, (by omega)⟩, rfl⟩
set_option maxHeartbeats 4000000 in
set_option maxRecDepth 100000 in
theorem sm_openChest_39 {g : GG} {n : Int} {L : Int32} (hy : Ly g)  {I : pI} {J : pJ} {R : pR} (hr : Rf g R) (hI : MP g n L I)   (hn : 0 ≤ n ∧ n ≤ 40000) (hb : 0 ≤ (I (ad g 39) 32).toInt) : SP g mX11_openChest [.ref (ad g 0), .ref (ad g 39)] I J R (fun r I' J' R' => (MP g n L I' ∧ R' = R ∧ (I' (ad g 39) 32).toInt ≤ (I (ad g 39) 32).toInt) ∧ r = none) := by
  refine SP_of ⟨by decide, rfl⟩ (Nat.le_of_ble_eq_true rfl) ?_
  have e3746 : I (ad g 0) 1 = L := hI.1.2
  have b3747 := BT_get hI.1.1 0 1 2 (0) (0) (900) (by decide) 1 (by decide) (by decide)
  rw [e3746] at b3747
  obtain ⟨w3748, ew3748⟩ : ∃ w : Int32, I (ad g 39) 32 = w := ⟨_, rfl⟩
  have bw3748 := BT_get hI.1.1 39 32 33 (0) (23760) (700000) (by decide) 32 (by decide) (by decide)
  rw [ew3748] at bw3748
  rw [ew3748] at hb
  refine WP_aload_n dX11_openChest_0 rfl ?_
  refine WQ_geti dX11_openChest_1 fX11_221 rfl (ly_is hy 0 11 rfl) (BT_get hI.1.1 0 13 14 (-1) (0) (3) (by decide) 13 (by decide) (by decide)) (fun v3749 ev3749 av3749 bv3749 => ?_)
  refine WQ_iconst (-1) (-1) dX11_openChest_4 rfl rfl (fun v3750 hv3750 => ?_)
  refine WQ_icmp_ne 9 dX11_openChest_5 rfl (fun c3750 => ?_) (fun c3750 => ?_)
  · obtain ⟨w3752, ew3752⟩ : ∃ w : Int32, I (ad g 0) 10 = w := ⟨_, rfl⟩
    have bw3752 := BT_get hI.1.1 0 10 11 (0) (0) (4) (by decide) 10 (by decide) (by decide)
    rw [ew3752] at bw3752
    have kc := pc_lt hI
    rw [ev3749, ew3752] at kc
    refine WP_aload_n dX11_openChest_9 rfl ?_
    refine WQ_bipush (32) (32) dX11_openChest_10 rfl rfl (fun v3753 hv3753 => ?_)
    refine WQ_ialdm (z := 32) dX11_openChest_12 (ly_is hy 39 13 rfl) (ly_n hy 39 35 rfl) hv3753 (by decide) ew3748 ?_
    refine WP_aload_n dX11_openChest_13 rfl ?_
    refine WP_getr dX11_openChest_14 fX11_235 rfl (ly_is hy 0 11 rfl) (rf hr 0 26 8 (by decide)) ?_
    refine WP_aload_n dX11_openChest_17 rfl ?_
    refine WQ_getim dX11_openChest_18 fX11_221 rfl (ly_is hy 0 11 rfl) ev3749 ?_
    refine WQ_ialdq (q := v3749.toInt.toNat) dX11_openChest_21 (ly_is hy 8 13 rfl) (ly_n hy 8 4 rfl) (by omega) (by omega) (by omega) (pp_get hI (by omega) (by rw [ew3752]; omega)) (fun v3755 av3755 bv3755 ev3755 => ?_)
    refine WQ_idivb dX11_openChest_22 (by omega) (by omega) (fun v3756 pv3756 av3756 bv3756 cv3756 => ?_)
    refine WP_istore_n (ls' := [(0, _), (1, _), (2, _)]) dX11_openChest_23 (by decide) rfl ?_
    refine WP_aload_n dX11_openChest_24 rfl ?_
    refine WQ_bipush (32) (32) dX11_openChest_25 rfl rfl (fun v3757 hv3757 => ?_)
    refine WP_dup2 dX11_openChest_27 rfl rfl ?_
    refine WQ_ialdm (z := 32) dX11_openChest_28 (ly_is hy 39 13 rfl) (ly_n hy 39 35 rfl) hv3757 (by decide) ew3748 ?_
    refine WP_iload_n dX11_openChest_29 rfl ?_
    refine WP_aload_n dX11_openChest_30 rfl ?_
    refine WP_getr dX11_openChest_31 fX11_235 rfl (ly_is hy 0 11 rfl) (rf hr 0 26 8 (by decide)) ?_
    refine WP_aload_n dX11_openChest_34 rfl ?_
    refine WQ_getim dX11_openChest_35 fX11_221 rfl (ly_is hy 0 11 rfl) ev3749 ?_
    refine WQ_ialde dX11_openChest_38 (ly_is hy 8 13 rfl) (ly_n hy 8 4 rfl) (by omega) (by omega) ev3755 ?_
    have knv3760 : 0 ≤ v3756.toInt * v3755.toInt := Int.mul_nonneg (by omega) (by omega)
    refine WQ_imulx dX11_openChest_39 (by omega) (by omega) (fun v3760 pv3760 => ?_)
    refine WQ_isub dX11_openChest_40 (by omega) (by omega) (fun v3761 hv3761 => ?_)
    refine WQ_iast dX11_openChest_41 (ly_is hy 39 13 rfl) (ly_n hy 39 35 rfl) (by omega) (by omega) (fun I3762 fI3762 => ?_)
    have eI3762 := fI3762
    rw [cl (x := v3757) (n := 32) (by omega)] at eI3762
    clear fI3762
    have hI3762 : MP g n L I3762 := by rw [eI3762]; exact (mp_w hy hI (c := 39) (mi_f hy hI.1 (c := 39) (0) (23760) (700000) (by decide) (Or.inl (by decide)) (by decide) (by omega) (by omega)) (by decide) (by decide) (Or.inl (by decide)))
    have e3763 : I3762 (ad g 0) 1 = L := by rw [eI3762, pp_ne _ _ (Or.inl (ly_ne hy (by decide) (by decide) (by decide)))]; exact e3746
    have e3764 : I3762 (ad g 0) 13 = v3749 := by rw [eI3762, pp_ne _ _ (Or.inl (ly_ne hy (by decide) (by decide) (by decide)))]; exact ev3749
    have e3765 : I3762 (ad g 0) 10 = w3752 := by rw [eI3762, pp_ne _ _ (Or.inl (ly_ne hy (by decide) (by decide) (by decide)))]; exact ew3752
    have e3766 : I3762 (ad g 8) v3749.toNatClampNeg = v3755 := by rw [eI3762, pp_ne _ _ (Or.inl (ly_ne hy (by decide) (by decide) (by decide)))]; exact ev3755
    have e3767 : I3762 (ad g 39) 32 = v3761 := by rw [eI3762, pp_self]
    clear eI3762
    refine WP_aload_n dX11_openChest_42 rfl ?_
    refine WQ_bipush (24) (24) dX11_openChest_43 rfl rfl (fun v3768 hv3768 => ?_)
    refine WP_aload_n dX11_openChest_45 rfl ?_
    refine WQ_getim dX11_openChest_46 fX11_221 rfl (ly_is hy 0 11 rfl) e3764 ?_
    refine WQ_iadd dX11_openChest_49 (by omega) (by omega) (fun v3769 hv3769 => ?_)
    refine WP_dup2 dX11_openChest_50 rfl rfl ?_
    refine WQ_ialdu dX11_openChest_51 (ly_is hy 39 13 rfl) (ly_n hy 39 35 rfl) (by omega) (by omega) (fun v3770 => ?_)
    refine WP_iload_n dX11_openChest_52 rfl ?_
    refine WP_aload_n dX11_openChest_53 rfl ?_
    refine WP_getr dX11_openChest_54 fX11_235 rfl (ly_is hy 0 11 rfl) (rf hr 0 26 8 (by decide)) ?_
    refine WP_aload_n dX11_openChest_57 rfl ?_
    refine WQ_getim dX11_openChest_58 fX11_221 rfl (ly_is hy 0 11 rfl) e3764 ?_
    refine WQ_ialde dX11_openChest_61 (ly_is hy 8 13 rfl) (ly_n hy 8 4 rfl) (by omega) (by omega) e3766 ?_
    have knv3772 : 0 ≤ v3756.toInt * v3755.toInt := Int.mul_nonneg (by omega) (by omega)
    refine WQ_imulx dX11_openChest_62 (by omega) (by omega) (fun v3772 pv3772 => ?_)
    refine WQ_iaddu dX11_openChest_63 (fun v3773 => ?_)
    refine WQ_iast dX11_openChest_64 (ly_is hy 39 13 rfl) (ly_n hy 39 35 rfl) (by omega) (by omega) (fun I3774 eI3774 => ?_)
    have hI3774 : MP g n L I3774 := by rw [eI3774]; exact (mp_w hy hI3762 (c := 39) (mi_rr hy hI3762.1 (c := 39) (24) (27) (0) (0) (0) (by decide) (Or.inl (by decide)) (by rw [cl (n := v3769.toInt.toNat) (by omega)]; omega) (by decide) (fun h => absurd h (by decide))) (by decide) (by decide) (Or.inl (by decide)))
    have e3775 : I3774 (ad g 0) 1 = L := by rw [eI3774, pp_ne _ _ (Or.inl (ly_ne hy (by decide) (by decide) (by decide)))]; exact e3763
    have e3776 : I3774 (ad g 0) 13 = v3749 := by rw [eI3774, pp_ne _ _ (Or.inl (ly_ne hy (by decide) (by decide) (by decide)))]; exact e3764
    have e3777 : I3774 (ad g 0) 10 = w3752 := by rw [eI3774, pp_ne _ _ (Or.inl (ly_ne hy (by decide) (by decide) (by decide)))]; exact e3765
    have e3778 : I3774 (ad g 8) v3749.toNatClampNeg = v3755 := by rw [eI3774, pp_ne _ _ (Or.inl (ly_ne hy (by decide) (by decide) (by decide)))]; exact e3766
    have e3779 : I3774 (ad g 39) 32 = v3761 := by rw [eI3774, pp_ne _ _ (Or.inr (by rw [cl (x := v3769) (n := v3769.toInt.toNat) (by omega)]; omega))]; exact e3767
    clear eI3774
    refine WP_aload_n dX11_openChest_65 rfl ?_
    refine WQ_iconst (0) (0) dX11_openChest_66 rfl rfl (fun v3780 hv3780 => ?_)
    refine WP_aload_n dX11_openChest_67 rfl ?_
    refine WQ_getim dX11_openChest_68 fX11_221 rfl (ly_is hy 0 11 rfl) e3776 ?_
    refine WQ_iadd dX11_openChest_71 (by omega) (by omega) (fun v3781 hv3781 => ?_)
    refine WQ_bipush (60) (60) dX11_openChest_72 rfl rfl (fun v3782 hv3782 => ?_)
    refine WP_aload_n dX11_openChest_74 rfl ?_
    refine WQ_iconst (0) (0) dX11_openChest_75 rfl rfl (fun v3783 hv3783 => ?_)
    refine WP_aload_n dX11_openChest_76 rfl ?_
    refine WQ_getim dX11_openChest_77 fX11_221 rfl (ly_is hy 0 11 rfl) e3776 ?_
    refine WQ_iadd dX11_openChest_80 (by omega) (by omega) (fun v3784 hv3784 => ?_)
    refine WQ_ialdr dX11_openChest_81 (ly_is hy 39 13 rfl) (ly_n hy 39 35 rfl) (by omega) (by omega) (a := 0) (b := 4) (by omega) (by omega) (fun q hq1 hq2 => BT_get hI3774.1.1 39 0 4 (0) (0) (60) (by decide) q hq1 hq2) (fun v3785 av3785 bv3785 => ?_)
    refine WP_iload_n dX11_openChest_82 rfl ?_
    refine WQ_iadd dX11_openChest_83 (by omega) (by omega) (fun v3786 hv3786 => ?_)
    refine WQ_min dX11_openChest_84 lX11_417 ⟨by decide, Nat.le_of_ble_eq_true rfl⟩ (fun v3787 av3787 bv3787 cv3787 => ?_)
    refine WQ_iast dX11_openChest_87 (ly_is hy 39 13 rfl) (ly_n hy 39 35 rfl) (by omega) (by omega) (fun I3788 eI3788 => ?_)
    have hI3788 : MP g n L I3788 := by rw [eI3788]; exact (mp_w hy hI3774 (c := 39) (mi_rr hy hI3774.1 (c := 39) (0) (3) (0) (0) (60) (by decide) (Or.inl (by decide)) (by rw [cl (n := v3781.toInt.toNat) (by omega)]; omega) (by decide) (fun _ => ⟨by omega, by omega⟩)) (by decide) (by decide) (Or.inl (by decide)))
    have e3789 : I3788 (ad g 0) 1 = L := by rw [eI3788, pp_ne _ _ (Or.inl (ly_ne hy (by decide) (by decide) (by decide)))]; exact e3775
    have e3790 : I3788 (ad g 0) 13 = v3749 := by rw [eI3788, pp_ne _ _ (Or.inl (ly_ne hy (by decide) (by decide) (by decide)))]; exact e3776
    have e3791 : I3788 (ad g 0) 10 = w3752 := by rw [eI3788, pp_ne _ _ (Or.inl (ly_ne hy (by decide) (by decide) (by decide)))]; exact e3777
    have e3792 : I3788 (ad g 8) v3749.toNatClampNeg = v3755 := by rw [eI3788, pp_ne _ _ (Or.inl (ly_ne hy (by decide) (by decide) (by decide)))]; exact e3778
    have e3793 : I3788 (ad g 39) 32 = v3761 := by rw [eI3788, pp_ne _ _ (Or.inr (by rw [cl (x := v3781) (n := v3781.toInt.toNat) (by omega)]; omega))]; exact e3779
    clear eI3788
    exact WP_vret dX11_openChest_88 rfl ⟨⟨hI3788, rfl, (by rw [e3793, ew3748]; omega)⟩, rfl⟩
  · exact WP_vret dX11_openChest_8 rfl ⟨⟨hI, rfl, (by omega)⟩, rfl⟩
