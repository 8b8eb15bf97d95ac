set_option maxHeartbeats 4000000 in
set_option maxRecDepth 100000 in
theorem sx_allow_44 {g : GG} {n : Int} {L : Int32} (hy : LyX g)  {I : pI} {J : pJ} {R : pR} (hr : RfX g R) (hI : XI g n L I) (co : Int32) (st : Int32) (ac : Int32) (co_lo : 0 ≤ co.toInt) (co_hi : co.toInt ≤ 60) (st_lo : 0 ≤ st.toInt) (st_hi : st.toInt ≤ 5) (ac_lo : 0 ≤ ac.toInt) (ac_hi : ac.toInt ≤ 47) : SP g mX6_allow [.ref (ad g 44), .int co, .int st, .int ac] I J R (fun r I' J' R' => (I' = I ∧ J' = J ∧ R' = R) ∧ ∃ v : Int32, r = some (.int v) ∧ 0 ≤ v.toInt ∧ v.toInt ≤ 1) := by
  refine SP_of ⟨by decide, rfl⟩ (Nat.le_of_ble_eq_true rfl) ?_
  have e3663 : I (ad g 1) 1 = L := hI.2
  have b3664 := BT_get hI.1 1 1 2 (0) (0) (900) (by decide) 1 (by decide) (by decide)
  rw [e3663] at b3664
  refine WP_iload_n dX6_allow_0 rfl ?_
  refine WQ_iconst (3) (3) dX6_allow_1 rfl rfl (fun v3665 hv3665 => ?_)
  refine WQ_iand3 dX6_allow_2 hv3665 (by omega) (by omega) (fun v3666 hv3666 => ?_)
  refine WP_istore (ls' := [(0, _), (1, _), (2, _), (3, _), (4, _)]) dX6_allow_3 (by decide) rfl ?_
  refine WP_iload_n dX6_allow_5 rfl ?_
  refine WQ_iconst (2) (2) dX6_allow_6 rfl rfl (fun v3667 hv3667 => ?_)
  refine WQ_ishr2 dX6_allow_7 hv3667 (by omega) (by omega) (fun v3668 hv3668 => ?_)
  refine WQ_iconst (3) (3) dX6_allow_8 rfl rfl (fun v3669 hv3669 => ?_)
  refine WQ_iand3 dX6_allow_9 hv3669 (by omega) (by omega) (fun v3670 hv3670 => ?_)
  refine WP_istore (ls' := [(0, _), (1, _), (2, _), (3, _), (4, _), (5, _)]) dX6_allow_10 (by decide) rfl ?_
  refine WP_iload_n dX6_allow_12 rfl ?_
  refine WQ_iconst (4) (4) dX6_allow_13 rfl rfl (fun v3671 hv3671 => ?_)
  refine WQ_ishr4 dX6_allow_14 hv3671 (by omega) (by omega) (fun v3672 hv3672 => ?_)
  refine WP_istore (ls' := [(0, _), (1, _), (2, _), (3, _), (4, _), (5, _), (6, _)]) dX6_allow_15 (by decide) rfl ?_
  refine WP_iload dX6_allow_17 rfl ?_
  refine WP_aload_n dX6_allow_19 rfl ?_
  refine WQ_geti dX6_allow_20 fX6_54 rfl (lyx_is hy 44 6 rfl) (BT_get hI.1 44 5 6 (0) (0) (3) (by decide) 5 (by decide) (by decide)) (fun v3673 ev3673 av3673 bv3673 => ?_)
  have jn85_3694 : ∀ (v3694 : Int32), 0 ≤ v3694.toInt → v3694.toInt ≤ 1 → WP g mX6_allow 85 [(0, .ref (ad g 44)), (1, .int co), (2, .int st), (3, .int ac), (4, .int v3666), (5, .int v3670), (6, .int v3672)] [.int v3694] I J R (fun r I' J' R' => (I' = I ∧ J' = J ∧ R' = R) ∧ ∃ v : Int32, r = some (.int v) ∧ 0 ≤ v.toInt ∧ v.toInt ≤ 1) := by
    intro v3694 av3694 bv3694
    exact WP_zret dX6_allow_85 rfl (nar_z (by omega)) ⟨⟨rfl, rfl, rfl⟩, _, rfl, by omega, by omega⟩
  refine WQ_icmp_gt 84 dX6_allow_23 rfl (fun c3695 => ?_) (fun c3695 => ?_)
  · refine WQ_iconst (0) (0) dX6_allow_84 rfl rfl (fun v3697 hv3697 => ?_)
    exact WP_sub (fc rfl (fc rfl (fc rfl (fc rfl (fc rfl (fc rfl (fc rfl fn))))))) (jn85_3694 v3697 (by omega) (by omega))
  · refine WP_iload dX6_allow_26 rfl ?_
    refine WP_aload_n dX6_allow_28 rfl ?_
    refine WP_iload_n dX6_allow_29 rfl ?_
    refine WP_callV1 (k := 6) dX6_allow_30 ⟨⟨⟨by decide, by decide⟩, zX6_mostFromStore⟩, lX6_70, by decide, rfl, vX6_mostFromStore.1, vX6_mostFromStore.2⟩ (lyx_is hy 44 6 rfl) (sx_mostFromStore_44 hy hr hI st (by omega) (by omega)) (Nat.le_of_ble_eq_true rfl) ?_
    intro r Ia Ja Ra hq
    obtain ⟨⟨ea, eb, ec⟩, v3698, rfl, av3698, bv3698, cv3698⟩ := hq
    show WP _ _ _ _ (.int _ :: _) _ _ _ _
    rw [ea, eb, ec]
    clear ea eb ec Ia Ja Ra
    refine WQ_icmp_gt 84 dX6_allow_33 rfl (fun c3698 => ?_) (fun c3698 => ?_)
    · refine WQ_iconst (0) (0) dX6_allow_84 rfl rfl (fun v3700 hv3700 => ?_)
      exact WP_sub (fc rfl (fc rfl (fc rfl (fc rfl (fc rfl (fc rfl (fc rfl fn))))))) (jn85_3694 v3700 (by omega) (by omega))
    · refine WP_iload dX6_allow_36 rfl ?_
      refine WP_iload dX6_allow_38 rfl ?_
      refine WQ_iadd dX6_allow_40 (by omega) (by omega) (fun v3701 hv3701 => ?_)
      refine WP_aload_n dX6_allow_41 rfl ?_
      refine WQ_geti dX6_allow_42 fX6_36 rfl (lyx_is hy 44 6 rfl) (BT_get hI.1 44 1 2 (0) (0) (3) (by decide) 1 (by decide) (by decide)) (fun v3702 ev3702 av3702 bv3702 => ?_)
      refine WQ_icmp_gt 84 dX6_allow_45 rfl (fun c3702 => ?_) (fun c3702 => ?_)
      · refine WQ_iconst (0) (0) dX6_allow_84 rfl rfl (fun v3704 hv3704 => ?_)
        exact WP_sub (fc rfl (fc rfl (fc rfl (fc rfl (fc rfl (fc rfl (fc rfl fn))))))) (jn85_3694 v3704 (by omega) (by omega))
      · refine WP_iload dX6_allow_48 rfl ?_
        refine WP_aload_n dX6_allow_50 rfl ?_
        refine WQ_geti dX6_allow_51 fX6_57 rfl (lyx_is hy 44 6 rfl) (BT_get hI.1 44 6 7 (0) (0) (2) (by decide) 6 (by decide) (by decide)) (fun v3705 ev3705 av3705 bv3705 => ?_)
        refine WQ_icmp_gt 84 dX6_allow_54 rfl (fun c3705 => ?_) (fun c3705 => ?_)
        · refine WQ_iconst (0) (0) dX6_allow_84 rfl rfl (fun v3707 hv3707 => ?_)
          exact WP_sub (fc rfl (fc rfl (fc rfl (fc rfl (fc rfl (fc rfl (fc rfl fn))))))) (jn85_3694 v3707 (by omega) (by omega))
        · refine WP_iload_n dX6_allow_57 rfl ?_
          refine WP_iload dX6_allow_58 rfl ?_
          refine WQ_isub dX6_allow_60 (by omega) (by omega) (fun v3708 hv3708 => ?_)
          refine WP_iload dX6_allow_61 rfl ?_
          refine WQ_iadd dX6_allow_63 (by omega) (by omega) (fun v3709 hv3709 => ?_)
          refine WQ_iconst (5) (5) dX6_allow_64 rfl rfl (fun v3710 hv3710 => ?_)
          refine WQ_icmp_gt 84 dX6_allow_65 rfl (fun c3710 => ?_) (fun c3710 => ?_)
          · refine WQ_iconst (0) (0) dX6_allow_84 rfl rfl (fun v3712 hv3712 => ?_)
            exact WP_sub (fc rfl (fc rfl (fc rfl (fc rfl (fc rfl (fc rfl (fc rfl fn))))))) (jn85_3694 v3712 (by omega) (by omega))
          · refine WP_aload_n dX6_allow_68 rfl ?_
            refine WP_iload dX6_allow_69 rfl ?_
            refine WP_iload dX6_allow_71 rfl ?_
            refine WP_callV2 (k := 6) dX6_allow_73 ⟨⟨⟨by decide, by decide⟩, zX6_priceOf⟩, lX6_74, by decide, rfl, vX6_priceOf.1, vX6_priceOf.2⟩ (lyx_is hy 44 6 rfl) (sx_priceOf_44 hy hr hI v3666 v3672 (by omega) (by omega) (by omega) (by omega)) (Nat.le_of_ble_eq_true rfl) ?_
            intro r Ia Ja Ra hq
            obtain ⟨⟨ea, eb, ec⟩, v3713, rfl, av3713, bv3713⟩ := hq
            show WP _ _ _ _ (.int _ :: _) _ _ _ _
            rw [ea, eb, ec]
            clear ea eb ec Ia Ja Ra
            refine WP_iload_n dX6_allow_76 rfl ?_
            refine WQ_icmp_gt 84 dX6_allow_77 rfl (fun c3713 => ?_) (fun c3713 => ?_)
            · refine WQ_iconst (0) (0) dX6_allow_84 rfl rfl (fun v3715 hv3715 => ?_)
              exact WP_sub (fc rfl (fc rfl (fc rfl (fc rfl (fc rfl (fc rfl (fc rfl fn))))))) (jn85_3694 v3715 (by omega) (by omega))
            · refine WQ_iconst (1) (1) dX6_allow_80 rfl rfl (fun v3716 hv3716 => ?_)
              refine WP_goto 85 dX6_allow_81 rfl ?_
              exact WP_sub (fc rfl (fc rfl (fc rfl (fc rfl (fc rfl (fc rfl (fc rfl fn))))))) (jn85_3694 v3716 (by omega) (by omega))
set_option maxHeartbeats 4000000 in
set_option maxRecDepth 100000 in
theorem sx_allow_50 {g : GG} {n : Int} {L : Int32} (hy : LyX g)  {I : pI} {J : pJ} {R : pR} (hr : RfX g R) (hI : XI g n L I) (co : Int32) (st : Int32) (ac : Int32) (co_lo : 0 ≤ co.toInt) (co_hi : co.toInt ≤ 60) (st_lo : 0 ≤ st.toInt) (st_hi : st.toInt ≤ 5) (ac_lo : 0 ≤ ac.toInt) (ac_hi : ac.toInt ≤ 47) : SP g mX6_allow [.ref (ad g 50), .int co, .int st, .int ac] I J R (fun r I' J' R' => (I' = I ∧ J' = J ∧ R' = R) ∧ ∃ v : Int32, r = some (.int v) ∧ 0 ≤ v.toInt ∧ v.toInt ≤ 1) := by
  refine SP_of ⟨by decide, rfl⟩ (Nat.le_of_ble_eq_true rfl) ?_
  have e3717 : I (ad g 1) 1 = L := hI.2
  have b3718 := BT_get hI.1 1 1 2 (0) (0) (900) (by decide) 1 (by decide) (by decide)
  rw [e3717] at b3718
  refine WP_iload_n dX6_allow_0 rfl ?_
  refine WQ_iconst (3) (3) dX6_allow_1 rfl rfl (fun v3719 hv3719 => ?_)
  refine WQ_iand3 dX6_allow_2 hv3719 (by omega) (by omega) (fun v3720 hv3720 => ?_)
  refine WP_istore (ls' := [(0, _), (1, _), (2, _), (3, _), (4, _)]) dX6_allow_3 (by decide) rfl ?_
  refine WP_iload_n dX6_allow_5 rfl ?_
  refine WQ_iconst (2) (2) dX6_allow_6 rfl rfl (fun v3721 hv3721 => ?_)
  refine WQ_ishr2 dX6_allow_7 hv3721 (by omega) (by omega) (fun v3722 hv3722 => ?_)
  refine WQ_iconst (3) (3) dX6_allow_8 rfl rfl (fun v3723 hv3723 => ?_)
  refine WQ_iand3 dX6_allow_9 hv3723 (by omega) (by omega) (fun v3724 hv3724 => ?_)
  refine WP_istore (ls' := [(0, _), (1, _), (2, _), (3, _), (4, _), (5, _)]) dX6_allow_10 (by decide) rfl ?_
  refine WP_iload_n dX6_allow_12 rfl ?_
  refine WQ_iconst (4) (4) dX6_allow_13 rfl rfl (fun v3725 hv3725 => ?_)
  refine WQ_ishr4 dX6_allow_14 hv3725 (by omega) (by omega) (fun v3726 hv3726 => ?_)
  refine WP_istore (ls' := [(0, _), (1, _), (2, _), (3, _), (4, _), (5, _), (6, _)]) dX6_allow_15 (by decide) rfl ?_
  refine WP_iload dX6_allow_17 rfl ?_
  refine WP_aload_n dX6_allow_19 rfl ?_
  refine WQ_geti dX6_allow_20 fX6_54 rfl (lyx_is hy 50 6 rfl) (BT_get hI.1 50 5 6 (0) (0) (3) (by decide) 5 (by decide) (by decide)) (fun v3727 ev3727 av3727 bv3727 => ?_)
  have jn85_3748 : ∀ (v3748 : Int32), 0 ≤ v3748.toInt → v3748.toInt ≤ 1 → WP g mX6_allow 85 [(0, .ref (ad g 50)), (1, .int co), (2, .int st), (3, .int ac), (4, .int v3720), (5, .int v3724), (6, .int v3726)] [.int v3748] I J R (fun r I' J' R' => (I' = I ∧ J' = J ∧ R' = R) ∧ ∃ v : Int32, r = some (.int v) ∧ 0 ≤ v.toInt ∧ v.toInt ≤ 1) := by
    intro v3748 av3748 bv3748
    exact WP_zret dX6_allow_85 rfl (nar_z (by omega)) ⟨⟨rfl, rfl, rfl⟩, _, rfl, by omega, by omega⟩
  refine WQ_icmp_gt 84 dX6_allow_23 rfl (fun c3749 => ?_) (fun c3749 => ?_)
  · refine WQ_iconst (0) (0) dX6_allow_84 rfl rfl (fun v3751 hv3751 => ?_)
    exact WP_sub (fc rfl (fc rfl (fc rfl (fc rfl (fc rfl (fc rfl (fc rfl fn))))))) (jn85_3748 v3751 (by omega) (by omega))
  · refine WP_iload dX6_allow_26 rfl ?_
    refine WP_aload_n dX6_allow_28 rfl ?_
    refine WP_iload_n dX6_allow_29 rfl ?_
    refine WP_callV1 (k := 6) dX6_allow_30 ⟨⟨⟨by decide, by decide⟩, zX6_mostFromStore⟩, lX6_70, by decide, rfl, vX6_mostFromStore.1, vX6_mostFromStore.2⟩ (lyx_is hy 50 6 rfl) (sx_mostFromStore_50 hy hr hI st (by omega) (by omega)) (Nat.le_of_ble_eq_true rfl) ?_
    intro r Ia Ja Ra hq
    obtain ⟨⟨ea, eb, ec⟩, v3752, rfl, av3752, bv3752, cv3752⟩ := hq
    show WP _ _ _ _ (.int _ :: _) _ _ _ _
    rw [ea, eb, ec]
    clear ea eb ec Ia Ja Ra
    refine WQ_icmp_gt 84 dX6_allow_33 rfl (fun c3752 => ?_) (fun c3752 => ?_)
    · refine WQ_iconst (0) (0) dX6_allow_84 rfl rfl (fun v3754 hv3754 => ?_)
      exact WP_sub (fc rfl (fc rfl (fc rfl (fc rfl (fc rfl (fc rfl (fc rfl fn))))))) (jn85_3748 v3754 (by omega) (by omega))
    · refine WP_iload dX6_allow_36 rfl ?_
      refine WP_iload dX6_allow_38 rfl ?_
      refine WQ_iadd dX6_allow_40 (by omega) (by omega) (fun v3755 hv3755 => ?_)
      refine WP_aload_n dX6_allow_41 rfl ?_
      refine WQ_geti dX6_allow_42 fX6_36 rfl (lyx_is hy 50 6 rfl) (BT_get hI.1 50 1 2 (0) (0) (3) (by decide) 1 (by decide) (by decide)) (fun v3756 ev3756 av3756 bv3756 => ?_)
      refine WQ_icmp_gt 84 dX6_allow_45 rfl (fun c3756 => ?_) (fun c3756 => ?_)
      · refine WQ_iconst (0) (0) dX6_allow_84 rfl rfl (fun v3758 hv3758 => ?_)
        exact WP_sub (fc rfl (fc rfl (fc rfl (fc rfl (fc rfl (fc rfl (fc rfl fn))))))) (jn85_3748 v3758 (by omega) (by omega))
      · refine WP_iload dX6_allow_48 rfl ?_
        refine WP_aload_n dX6_allow_50 rfl ?_
        refine WQ_geti dX6_allow_51 fX6_57 rfl (lyx_is hy 50 6 rfl) (BT_get hI.1 50 6 7 (0) (0) (2) (by decide) 6 (by decide) (by decide)) (fun v3759 ev3759 av3759 bv3759 => ?_)
        refine WQ_icmp_gt 84 dX6_allow_54 rfl (fun c3759 => ?_) (fun c3759 => ?_)
        · refine WQ_iconst (0) (0) dX6_allow_84 rfl rfl (fun v3761 hv3761 => ?_)
          exact WP_sub (fc rfl (fc rfl (fc rfl (fc rfl (fc rfl (fc rfl (fc rfl fn))))))) (jn85_3748 v3761 (by omega) (by omega))
        · refine WP_iload_n dX6_allow_57 rfl ?_
          refine WP_iload dX6_allow_58 rfl ?_
          refine WQ_isub dX6_allow_60 (by omega) (by omega) (fun v3762 hv3762 => ?_)
          refine WP_iload dX6_allow_61 rfl ?_
          refine WQ_iadd dX6_allow_63 (by omega) (by omega) (fun v3763 hv3763 => ?_)
          refine WQ_iconst (5) (5) dX6_allow_64 rfl rfl (fun v3764 hv3764 => ?_)
          refine WQ_icmp_gt 84 dX6_allow_65 rfl (fun c3764 => ?_) (fun c3764 => ?_)
          · refine WQ_iconst (0) (0) dX6_allow_84 rfl rfl (fun v3766 hv3766 => ?_)
            exact WP_sub (fc rfl (fc rfl (fc rfl (fc rfl (fc rfl (fc rfl (fc rfl fn))))))) (jn85_3748 v3766 (by omega) (by omega))
          · refine WP_aload_n dX6_allow_68 rfl ?_
            refine WP_iload dX6_allow_69 rfl ?_
            refine WP_iload dX6_allow_71 rfl ?_
            refine WP_callV2 (k := 6) dX6_allow_73 ⟨⟨⟨by decide, by decide⟩, zX6_priceOf⟩, lX6_74, by decide, rfl, vX6_priceOf.1, vX6_priceOf.2⟩ (lyx_is hy 50 6 rfl) (sx_priceOf_50 hy hr hI v3720 v3726 (by omega) (by omega) (by omega) (by omega)) (Nat.le_of_ble_eq_true rfl) ?_
            intro r Ia Ja Ra hq
            obtain ⟨⟨ea, eb, ec⟩, v3767, rfl, av3767, bv3767⟩ := hq
            show WP _ _ _ _ (.int _ :: _) _ _ _ _
            rw [ea, eb, ec]
            clear ea eb ec Ia Ja Ra
            refine WP_iload_n dX6_allow_76 rfl ?_
            refine WQ_icmp_gt 84 dX6_allow_77 rfl (fun c3767 => ?_) (fun c3767 => ?_)
            · refine WQ_iconst (0) (0) dX6_allow_84 rfl rfl (fun v3769 hv3769 => ?_)
              exact WP_sub (fc rfl (fc rfl (fc rfl (fc rfl (fc rfl (fc rfl (fc rfl fn))))))) (jn85_3748 v3769 (by omega) (by omega))
            · refine WQ_iconst (1) (1) dX6_allow_80 rfl rfl (fun v3770 hv3770 => ?_)
              refine WP_goto 85 dX6_allow_81 rfl ?_
              exact WP_sub (fc rfl (fc rfl (fc rfl (fc rfl (fc rfl (fc rfl (fc rfl fn))))))) (jn85_3748 v3770 (by omega) (by omega))
set_option maxHeartbeats 4000000 in
set_option maxRecDepth 100000 in
theorem sx_may_6 {g : GG} {n : Int} {L : Int32} (hy : LyX g)  {I : pI} {J : pJ} {R : pR} (hr : RfX g R) (hT : R (ad g 5) 0 = some (ad g 6)) (hI : XI g n L I) (a : Int32) (b : Int32) (c : Int32) (e : Int32) (f : Int32)  : SP g mX10_may [.ref (ad g 0), .int a, .int b, .int c, .int e, .int f] I J R (fun r I' J' R' => (XI g n L I' ∧ R' = R) ∧ ∃ v : Int32, r = some (.int v)) := by
  refine SP_of ⟨by decide, rfl⟩ (Nat.le_of_ble_eq_true rfl) ?_
  have e3771 : I (ad g 1) 1 = L := hI.2
  have b3772 := BT_get hI.1 1 1 2 (0) (0) (900) (by decide) 1 (by decide) (by decide)
  rw [e3771] at b3772
  refine WP_aload_n dX10_may_0 rfl ?_
  refine WP_iload_n dX10_may_1 rfl ?_
  refine WP_iload_n dX10_may_2 rfl ?_
  refine WP_iload_n dX10_may_3 rfl ?_
  refine WP_iload dX10_may_4 rfl ?_
  refine WP_callV4 (k := 10) dX10_may_6 ⟨⟨⟨by decide, by decide⟩, zX10_isPerson⟩, lX10_188, by decide, rfl, vX10_isPerson.1, vX10_isPerson.2⟩ (lyx_is hy 0 10 rfl) (sx_isPerson_6 hy hr hT hI a b c e    ) (Nat.le_of_ble_eq_true rfl) ?_
  intro r Ia Ja Ra hq
  obtain ⟨⟨ea, eb, ec⟩, v3773, rfl, av3773, bv3773, cv3773⟩ := hq
  show WP _ _ _ _ (.int _ :: _) _ _ _ _
  rw [ea, eb, ec]
  clear ea eb ec Ia Ja Ra
  refine WQ_if_eq 24 dX10_may_9 rfl (fun c3773 => ?_) (fun c3773 => ?_)
  · refine WQ_bipush (-2) (-2) dX10_may_24 rfl rfl (fun v3775 hv3775 => ?_)
    exact WP_iret dX10_may_26 rfl ⟨⟨hI, rfl⟩, _, rfl⟩
  · refine WP_iload dX10_may_12 rfl ?_
    refine WQ_if_lt 24 dX10_may_14 rfl (fun c3775 => ?_) (fun c3775 => ?_)
    · refine WQ_bipush (-2) (-2) dX10_may_24 rfl rfl (fun v3777 hv3777 => ?_)
      exact WP_iret dX10_may_26 rfl ⟨⟨hI, rfl⟩, _, rfl⟩
    · refine WP_iload dX10_may_17 rfl ?_
      refine WQ_bipush (48) (48) dX10_may_19 rfl rfl (fun v3778 hv3778 => ?_)
      refine WQ_icmp_lt 27 dX10_may_21 rfl (fun c3778 => ?_) (fun c3778 => ?_)
      · refine WP_aload_n dX10_may_27 rfl ?_
        refine WP_getr dX10_may_28 fX10_55 rfl (lyx_is hy 0 10 rfl) (rfx hr 0 4 49 (by decide)) ?_
        refine WP_getr dX10_may_31 fX10_192 rfl (lyx_is hy 49 9 rfl) (rfx hr 49 0 50 (by decide)) ?_
        refine WP_astore (ls' := [(0, _), (1, _), (2, _), (3, _), (4, _), (5, _), (6, _)]) dX10_may_34 (by decide) rfl ?_
        refine WP_aload dX10_may_36 rfl ?_
        refine WP_aload_n dX10_may_38 rfl ?_
        refine WP_getr dX10_may_39 fX10_33 rfl (lyx_is hy 0 10 rfl) (rfx hr 0 2 5 (by decide)) ?_
        refine WP_iload_n dX10_may_42 rfl ?_
        refine WP_iload_n dX10_may_43 rfl ?_
        refine WP_callV3 (k := 6) dX10_may_44 ⟨⟨⟨by decide, by decide⟩, zX6_load⟩, lX10_196, by decide, rfl, vX6_load.1, vX6_load.2⟩ (lyx_is hy 50 6 rfl) (sx_load_50_6 hy hr hT hI a b (by omega) (by omega) (by omega) (by omega)) (Nat.le_of_ble_eq_true rfl) ?_
        intro r I3780 J3781 Ra hq
        obtain ⟨⟨hI3780, ec⟩, rfl⟩ := hq
        rw [ec]
        clear ec Ra
        have e3782 : I3780 (ad g 1) 1 = L := hI3780.2
        have b3783 := BT_get hI3780.1 1 1 2 (0) (0) (900) (by decide) 1 (by decide) (by decide)
        rw [e3782] at b3783
        refine WP_aload dX10_may_47 rfl ?_
        refine WP_iload_n dX10_may_49 rfl ?_
        refine WP_iload dX10_may_50 rfl ?_
        refine WP_iload dX10_may_52 rfl ?_
        refine WP_callV3 (k := 6) dX10_may_54 ⟨⟨⟨by decide, by decide⟩, zX6_allow⟩, lX10_202, by decide, rfl, vX6_allow.1, vX6_allow.2⟩ (lyx_is hy 50 6 rfl) (sx_allow_50 hy hr hI3780 c e f (by omega) (by omega) (by omega) (by omega) (by omega) (by omega)) (Nat.le_of_ble_eq_true rfl) ?_
        intro r Ia Ja Ra hq
        obtain ⟨⟨ea, eb, ec⟩, v3784, rfl, av3784, bv3784⟩ := hq
        show WP _ _ _ _ (.int _ :: _) _ _ _ _
        rw [ea, eb, ec]
        clear ea eb ec Ia Ja Ra
        have jn65_3787 : ∀ (v3787 : Int32), 0 ≤ v3787.toInt → v3787.toInt ≤ 1 → WP g mX10_may 65 [(0, .ref (ad g 0)), (1, .int a), (2, .int b), (3, .int c), (4, .int e), (5, .int f), (6, .ref (ad g 50))] [.int v3787] I3780 J3781 R (fun r I' J' R' => (XI g n L I' ∧ R' = R) ∧ ∃ v : Int32, r = some (.int v)) := by
          intro v3787 av3787 bv3787
          exact WP_iret dX10_may_65 rfl ⟨⟨hI3780, rfl⟩, _, rfl⟩
        refine WQ_if_eq 64 dX10_may_57 rfl (fun c3788 => ?_) (fun c3788 => ?_)
        · refine WQ_iconst (0) (0) dX10_may_64 rfl rfl (fun v3790 hv3790 => ?_)
          exact WP_sub (fc rfl (fc rfl (fc rfl (fc rfl (fc rfl (fc rfl (fc rfl fn))))))) (jn65_3787 v3790 (by omega) (by omega))
        · refine WQ_iconst (1) (1) dX10_may_60 rfl rfl (fun v3791 hv3791 => ?_)
          refine WP_goto 65 dX10_may_61 rfl ?_
          exact WP_sub (fc rfl (fc rfl (fc rfl (fc rfl (fc rfl (fc rfl (fc rfl fn))))))) (jn65_3787 v3791 (by omega) (by omega))
      · refine WQ_bipush (-2) (-2) dX10_may_24 rfl rfl (fun v3792 hv3792 => ?_)
        exact WP_iret dX10_may_26 rfl ⟨⟨hI, rfl⟩, _, rfl⟩
set_option maxHeartbeats 4000000 in
set_option maxRecDepth 100000 in
theorem sx_may_27 {g : GG} {n : Int} {L : Int32} (hy : LyX g)  {I : pI} {J : pJ} {R : pR} (hr : RfX g R) (hT : R (ad g 5) 0 = some (ad g 27)) (hI : XI g n L I) (a : Int32) (b : Int32) (c : Int32) (e : Int32) (f : Int32)  : SP g mX10_may [.ref (ad g 0), .int a, .int b, .int c, .int e, .int f] I J R (fun r I' J' R' => (XI g n L I' ∧ R' = R) ∧ ∃ v : Int32, r = some (.int v)) := by
  refine SP_of ⟨by decide, rfl⟩ (Nat.le_of_ble_eq_true rfl) ?_
  have e3793 : I (ad g 1) 1 = L := hI.2
  have b3794 := BT_get hI.1 1 1 2 (0) (0) (900) (by decide) 1 (by decide) (by decide)
  rw [e3793] at b3794
  refine WP_aload_n dX10_may_0 rfl ?_
  refine WP_iload_n dX10_may_1 rfl ?_
  refine WP_iload_n dX10_may_2 rfl ?_
  refine WP_iload_n dX10_may_3 rfl ?_
  refine WP_iload dX10_may_4 rfl ?_
  refine WP_callV4 (k := 10) dX10_may_6 ⟨⟨⟨by decide, by decide⟩, zX10_isPerson⟩, lX10_188, by decide, rfl, vX10_isPerson.1, vX10_isPerson.2⟩ (lyx_is hy 0 10 rfl) (sx_isPerson_27 hy hr hT hI a b c e    ) (Nat.le_of_ble_eq_true rfl) ?_
  intro r Ia Ja Ra hq
  obtain ⟨⟨ea, eb, ec⟩, v3795, rfl, av3795, bv3795, cv3795⟩ := hq
  show WP _ _ _ _ (.int _ :: _) _ _ _ _
  rw [ea, eb, ec]
  clear ea eb ec Ia Ja Ra
  refine WQ_if_eq 24 dX10_may_9 rfl (fun c3795 => ?_) (fun c3795 => ?_)
  · refine WQ_bipush (-2) (-2) dX10_may_24 rfl rfl (fun v3797 hv3797 => ?_)
    exact WP_iret dX10_may_26 rfl ⟨⟨hI, rfl⟩, _, rfl⟩
  · refine WP_iload dX10_may_12 rfl ?_
    refine WQ_if_lt 24 dX10_may_14 rfl (fun c3797 => ?_) (fun c3797 => ?_)
    · refine WQ_bipush (-2) (-2) dX10_may_24 rfl rfl (fun v3799 hv3799 => ?_)
      exact WP_iret dX10_may_26 rfl ⟨⟨hI, rfl⟩, _, rfl⟩
    · refine WP_iload dX10_may_17 rfl ?_
      refine WQ_bipush (48) (48) dX10_may_19 rfl rfl (fun v3800 hv3800 => ?_)
      refine WQ_icmp_lt 27 dX10_may_21 rfl (fun c3800 => ?_) (fun c3800 => ?_)
      · refine WP_aload_n dX10_may_27 rfl ?_
        refine WP_getr dX10_may_28 fX10_55 rfl (lyx_is hy 0 10 rfl) (rfx hr 0 4 49 (by decide)) ?_
        refine WP_getr dX10_may_31 fX10_192 rfl (lyx_is hy 49 9 rfl) (rfx hr 49 0 50 (by decide)) ?_
        refine WP_astore (ls' := [(0, _), (1, _), (2, _), (3, _), (4, _), (5, _), (6, _)]) dX10_may_34 (by decide) rfl ?_
        refine WP_aload dX10_may_36 rfl ?_
        refine WP_aload_n dX10_may_38 rfl ?_
        refine WP_getr dX10_may_39 fX10_33 rfl (lyx_is hy 0 10 rfl) (rfx hr 0 2 5 (by decide)) ?_
        refine WP_iload_n dX10_may_42 rfl ?_
        refine WP_iload_n dX10_may_43 rfl ?_
        refine WP_callV3 (k := 6) dX10_may_44 ⟨⟨⟨by decide, by decide⟩, zX6_load⟩, lX10_196, by decide, rfl, vX6_load.1, vX6_load.2⟩ (lyx_is hy 50 6 rfl) (sx_load_50_27 hy hr hT hI a b (by omega) (by omega) (by omega) (by omega)) (Nat.le_of_ble_eq_true rfl) ?_
        intro r I3802 J3803 Ra hq
        obtain ⟨⟨hI3802, ec⟩, rfl⟩ := hq
        rw [ec]
        clear ec Ra
        have e3804 : I3802 (ad g 1) 1 = L := hI3802.2
        have b3805 := BT_get hI3802.1 1 1 2 (0) (0) (900) (by decide) 1 (by decide) (by decide)
        rw [e3804] at b3805
        refine WP_aload dX10_may_47 rfl ?_
        refine WP_iload_n dX10_may_49 rfl ?_
        refine WP_iload dX10_may_50 rfl ?_
        refine WP_iload dX10_may_52 rfl ?_
        refine WP_callV3 (k := 6) dX10_may_54 ⟨⟨⟨by decide, by decide⟩, zX6_allow⟩, lX10_202, by decide, rfl, vX6_allow.1, vX6_allow.2⟩ (lyx_is hy 50 6 rfl) (sx_allow_50 hy hr hI3802 c e f (by omega) (by omega) (by omega) (by omega) (by omega) (by omega)) (Nat.le_of_ble_eq_true rfl) ?_
        intro r Ia Ja Ra hq
        obtain ⟨⟨ea, eb, ec⟩, v3806, rfl, av3806, bv3806⟩ := hq
        show WP _ _ _ _ (.int _ :: _) _ _ _ _
        rw [ea, eb, ec]
        clear ea eb ec Ia Ja Ra
        have jn65_3809 : ∀ (v3809 : Int32), 0 ≤ v3809.toInt → v3809.toInt ≤ 1 → WP g mX10_may 65 [(0, .ref (ad g 0)), (1, .int a), (2, .int b), (3, .int c), (4, .int e), (5, .int f), (6, .ref (ad g 50))] [.int v3809] I3802 J3803 R (fun r I' J' R' => (XI g n L I' ∧ R' = R) ∧ ∃ v : Int32, r = some (.int v)) := by
          intro v3809 av3809 bv3809
          exact WP_iret dX10_may_65 rfl ⟨⟨hI3802, rfl⟩, _, rfl⟩
        refine WQ_if_eq 64 dX10_may_57 rfl (fun c3810 => ?_) (fun c3810 => ?_)
        · refine WQ_iconst (0) (0) dX10_may_64 rfl rfl (fun v3812 hv3812 => ?_)
          exact WP_sub (fc rfl (fc rfl (fc rfl (fc rfl (fc rfl (fc rfl (fc rfl fn))))))) (jn65_3809 v3812 (by omega) (by omega))
        · refine WQ_iconst (1) (1) dX10_may_60 rfl rfl (fun v3813 hv3813 => ?_)
          refine WP_goto 65 dX10_may_61 rfl ?_
          exact WP_sub (fc rfl (fc rfl (fc rfl (fc rfl (fc rfl (fc rfl (fc rfl fn))))))) (jn65_3809 v3813 (by omega) (by omega))
      · refine WQ_bipush (-2) (-2) dX10_may_24 rfl rfl (fun v3814 hv3814 => ?_)
        exact WP_iret dX10_may_26 rfl ⟨⟨hI, rfl⟩, _, rfl⟩
set_option maxHeartbeats 4000000 in
set_option maxRecDepth 100000 in
theorem sx_takenAt {g : GG} {n : Int} {L : Int32} (hy : LyX g)  {I : pI} {J : pJ} {R : pR} (hr : RfX g R) (hI : XI g n L I) (p : Int32) (q : Int32) (p_lo : 0 ≤ p.toInt) (p_hi : p.toInt ≤ 100) (q_lo : 0 ≤ q.toInt) (q_hi : q.toInt ≤ 100) : SP g mX8_takenAt [.ref (ad g 69), .int p, .int q] I J R (fun r I' J' R' => (XI g n L I' ∧ R' = R) ∧ r = none) := by
  refine SP_of ⟨by decide, rfl⟩ (Nat.le_of_ble_eq_true rfl) ?_
  have e3815 : I (ad g 1) 1 = L := hI.2
  have b3816 := BT_get hI.1 1 1 2 (0) (0) (900) (by decide) 1 (by decide) (by decide)
  rw [e3815] at b3816
  refine WP_aload_n dX8_takenAt_0 rfl ?_
  refine WP_iload_n dX8_takenAt_1 rfl ?_
  refine WQ_puti dX8_takenAt_2 fX8_19 rfl rfl (lyx_is hy 69 8 rfl) (fun I3817 eI3817 => ?_)
  have hI3817 : XI g n L I3817 := by rw [eI3817]; exact (xi_f0 hy hI (c := 69) (by decide) (Or.inl (by decide)) (by decide))
  have e3818 : I3817 (ad g 1) 1 = L := by rw [eI3817, pp_ne _ _ (Or.inl (lyx_ne hy (by decide) (by decide) (by decide)))]; exact e3815
  have e3819 : I3817 (ad g 69) 0 = p := by rw [eI3817, pp_self]
  clear eI3817
  refine WP_aload_n dX8_takenAt_5 rfl ?_
  refine WP_iload_n dX8_takenAt_6 rfl ?_
  refine WQ_puti dX8_takenAt_7 fX8_22 rfl rfl (lyx_is hy 69 8 rfl) (fun I3820 eI3820 => ?_)
  have hI3820 : XI g n L I3820 := by rw [eI3820]; exact (xi_f0 hy hI3817 (c := 69) (by decide) (Or.inl (by decide)) (by decide))
  have e3821 : I3820 (ad g 1) 1 = L := by rw [eI3820, pp_ne _ _ (Or.inl (lyx_ne hy (by decide) (by decide) (by decide)))]; exact e3818
  have e3822 : I3820 (ad g 69) 0 = p := by rw [eI3820, pp_ne _ _ (Or.inr (by decide))]; exact e3819
  have e3823 : I3820 (ad g 69) 1 = q := by rw [eI3820, pp_self]
  clear eI3820
  exact WP_vret dX8_takenAt_10 rfl ⟨⟨hI3820, rfl⟩, rfl⟩
set_option maxHeartbeats 4000000 in
set_option maxRecDepth 100000 in
theorem sx_losesOn {g : GG} {n : Int} {L : Int32} (hy : LyX g)  {I : pI} {J : pJ} {R : pR} (hr : RfX g R) (hI : XI g n L I) (da : Int32) (r : Int32) (da_lo : 0 ≤ da.toInt) (da_hi : da.toInt ≤ 20) (r_lo : 1 ≤ r.toInt) (r_hi : r.toInt ≤ 20) : SP g mX8_losesOn [.int da, .int r] I J R (fun r I' J' R' => (I' = I ∧ J' = J ∧ R' = R) ∧ ∃ v : Int32, r = some (.int v) ∧ 0 ≤ v.toInt ∧ v.toInt ≤ 1) := by
  refine SP_of ⟨by decide, rfl⟩ (Nat.le_of_ble_eq_true rfl) ?_
  have e3824 : I (ad g 1) 1 = L := hI.2
  have b3825 := BT_get hI.1 1 1 2 (0) (0) (900) (by decide) 1 (by decide) (by decide)
  rw [e3824] at b3825
  refine WP_iload_n dX8_losesOn_0 rfl ?_
  have jn15_3829 : ∀ (v3829 : Int32), 0 ≤ v3829.toInt → v3829.toInt ≤ 1 → WP g mX8_losesOn 15 [(0, .int da), (1, .int r)] [.int v3829] I J R (fun r I' J' R' => (I' = I ∧ J' = J ∧ R' = R) ∧ ∃ v : Int32, r = some (.int v) ∧ 0 ≤ v.toInt ∧ v.toInt ≤ 1) := by
    intro v3829 av3829 bv3829
    exact WP_iret dX8_losesOn_15 rfl ⟨⟨rfl, rfl, rfl⟩, _, rfl, by omega, by omega⟩
  refine WQ_if_le 14 dX8_losesOn_1 rfl (fun c3830 => False.elim (by omega)) (fun c3830 => ?_)
  refine WP_iload_n dX8_losesOn_4 rfl ?_
  refine WP_iload_n dX8_losesOn_5 rfl ?_
  refine WQ_iremu dX8_losesOn_6 (by omega) (fun v3832 => ?_)
  refine WX_if_ne 14 dX8_losesOn_7 rfl ?_ ?_
  · refine WQ_iconst (0) (0) dX8_losesOn_14 rfl rfl (fun v3833 hv3833 => ?_)
    exact WP_sub (fc rfl (fc rfl fn)) (jn15_3829 v3833 (by omega) (by omega))
  · refine WQ_iconst (1) (1) dX8_losesOn_10 rfl rfl (fun v3834 hv3834 => ?_)
    refine WP_goto 15 dX8_losesOn_11 rfl ?_
    exact WP_sub (fc rfl (fc rfl fn)) (jn15_3829 v3834 (by omega) (by omega))
set_option maxHeartbeats 4000000 in
set_option maxRecDepth 100000 in
theorem sx_mean {g : GG} {n : Int} {L : Int32} (hy : LyX g)  {I : pI} {J : pJ} {R : pR} (hr : RfX g R) (hI : XI g n L I) (ta : Int32) (y : Int32) (z : Int32)  : SP g mX8_mean [.int ta, .int y, .int z] I J R (fun r I' J' R' => (I' = I ∧ J' = J ∧ R' = R) ∧ ∃ v : Int32, r = some (.int v)) := by
  refine SP_of ⟨by decide, rfl⟩ (Nat.le_of_ble_eq_true rfl) ?_
  have e3835 : I (ad g 1) 1 = L := hI.2
  have b3836 := BT_get hI.1 1 1 2 (0) (0) (900) (by decide) 1 (by decide) (by decide)
  rw [e3835] at b3836
  refine WP_iload_n dX8_mean_0 rfl ?_
  refine WQ_sipush (1000) (1000) dX8_mean_1 rfl rfl (fun v3837 hv3837 => ?_)
  refine WP_iload_n dX8_mean_4 rfl ?_
  refine WQ_iaddu dX8_mean_5 (fun v3838 => ?_)
  refine WQ_imulu dX8_mean_6 (fun v3839 => ?_)
  refine WQ_bipush (100) (100) dX8_mean_7 rfl rfl (fun v3840 hv3840 => ?_)
  refine WP_iload_n dX8_mean_9 rfl ?_
  refine WQ_isubu dX8_mean_10 (fun v3841 => ?_)
  refine WP_iload_n dX8_mean_11 rfl ?_
  refine WQ_imulu dX8_mean_12 (fun v3842 => ?_)
  refine WQ_iaddu dX8_mean_13 (fun v3843 => ?_)
  refine WQ_bipush (100) (100) dX8_mean_14 rfl rfl (fun v3844 hv3844 => ?_)
  refine WQ_idivu dX8_mean_16 (by omega) (fun v3845 => ?_)
  exact WP_iret dX8_mean_17 rfl ⟨⟨rfl, rfl, rfl⟩, _, rfl⟩
set_option maxHeartbeats 4000000 in
set_option maxRecDepth 100000 in
theorem sx_behind {g : GG} {n : Int} {L : Int32} (hy : LyX g)  {I : pI} {J : pJ} {R : pR} (hr : RfX g R) (hI : XI g n L I) (a : Int32) (b : Int32) (a_lo : 0 ≤ a.toInt) (a_hi : a.toInt ≤ 9) (b_lo : 0 ≤ b.toInt) (b_hi : b.toInt ≤ 9) : SP g mX8_behind [.ref (ad g 69), .int a, .int b] I J R (fun r I' J' R' => (I' = I ∧ J' = J ∧ R' = R) ∧ ∃ v : Int32, r = some (.int v)) := by
  refine SP_of ⟨by decide, rfl⟩ (Nat.le_of_ble_eq_true rfl) ?_
  have e3846 : I (ad g 1) 1 = L := hI.2
  have b3847 := BT_get hI.1 1 1 2 (0) (0) (900) (by decide) 1 (by decide) (by decide)
  rw [e3846] at b3847
  refine WP_aload_n dX8_behind_0 rfl ?_
  refine WP_getr dX8_behind_1 fX8_9 rfl (lyx_is hy 69 8 rfl) (rfx hr 69 3 70 (by decide)) ?_
  refine WQ_iconst (0) (0) dX8_behind_4 rfl rfl (fun v3848 hv3848 => ?_)
  refine WP_iload_n dX8_behind_5 rfl ?_
  refine WP_aload_n dX8_behind_6 rfl ?_
  refine WQ_geti dX8_behind_7 fX8_15 rfl (lyx_is hy 69 8 rfl) (BT_get hI.1 69 2 3 (0) (0) (1) (by decide) 2 (by decide) (by decide)) (fun v3849 ev3849 av3849 bv3849 => ?_)
  refine WQ_isub dX8_behind_10 (by omega) (by omega) (fun v3850 hv3850 => ?_)
  refine WQ_max dX8_behind_11 lX8_41 ⟨by decide, Nat.le_of_ble_eq_true rfl⟩ (fun v3851 av3851 bv3851 cv3851 => ?_)
  refine WQ_bipush (10) (10) dX8_behind_14 rfl rfl (fun v3852 hv3852 => ?_)
  refine WQ_imulk (10) dX8_behind_16 hv3852 (by omega) (by omega) (fun v3853 hv3853 => ?_)
  refine WP_iload_n dX8_behind_17 rfl ?_
  refine WQ_iadd dX8_behind_18 (by omega) (by omega) (fun v3854 hv3854 => ?_)
  refine WQ_ialdu dX8_behind_19 (lyx_is hy 70 13 rfl) (lyx_n hy 70 100 rfl) (by omega) (by omega) (fun v3855 => ?_)
  exact WP_iret dX8_behind_20 rfl ⟨⟨rfl, rfl, rfl⟩, _, rfl⟩
set_option maxHeartbeats 4000000 in
set_option maxRecDepth 100000 in
theorem sx_offeringNote {g : GG} {n : Int} {L : Int32} (hy : LyX g)  {I : pI} {J : pJ} {R : pR} (hr : RfX g R) (hI : XI g n L I) (a : Int32) (b : Int32) (a_lo : 0 ≤ a.toInt) (a_hi : a.toInt ≤ 9) (b_lo : 0 ≤ b.toInt) (b_hi : b.toInt ≤ 9) : SP g mX8_offeringNote [.ref (ad g 69), .int a, .int b] I J R (fun r I' J' R' => (I' = I ∧ J' = J ∧ R' = R) ∧ ∃ v : Int32, r = some (.int v)) := by
  refine SP_of ⟨by decide, rfl⟩ (Nat.le_of_ble_eq_true rfl) ?_
  have e3856 : I (ad g 1) 1 = L := hI.2
  have b3857 := BT_get hI.1 1 1 2 (0) (0) (900) (by decide) 1 (by decide) (by decide)
  rw [e3856] at b3857
  refine WP_iload_n dX8_offeringNote_0 rfl ?_
  refine WQ_iconst (1) (1) dX8_offeringNote_1 rfl rfl (fun v3858 hv3858 => ?_)
  have jn30_3866 : ∀ (v3866 : Int32), WP g mX8_offeringNote 30 [(0, .ref (ad g 69)), (1, .int a), (2, .int b)] [.int v3866] I J R (fun r I' J' R' => (I' = I ∧ J' = J ∧ R' = R) ∧ ∃ v : Int32, r = some (.int v)) := by
    intro v3866 
    exact WP_iret dX8_offeringNote_30 rfl ⟨⟨rfl, rfl, rfl⟩, _, rfl⟩
  refine WQ_icmp_ge 9 dX8_offeringNote_2 rfl (fun c3867 => ?_) (fun c3867 => ?_)
  · refine WP_aload_n dX8_offeringNote_9 rfl ?_
    refine WQ_getiu dX8_offeringNote_10 fX8_19 rfl (lyx_is hy 69 8 rfl) (fun v3869 ev3869 => ?_)
    refine WP_aload_n dX8_offeringNote_13 rfl ?_
    refine WP_iload_n dX8_offeringNote_14 rfl ?_
    refine WQ_iconst (1) (1) dX8_offeringNote_15 rfl rfl (fun v3870 hv3870 => ?_)
    refine WQ_isub dX8_offeringNote_16 (by omega) (by omega) (fun v3871 hv3871 => ?_)
    refine WP_iload_n dX8_offeringNote_17 rfl ?_
    refine WP_callV2 (k := 8) dX8_offeringNote_18 ⟨⟨⟨by decide, by decide⟩, zX8_behind⟩, lX8_46, by decide, rfl, vX8_behind.1, vX8_behind.2⟩ (lyx_is hy 69 8 rfl) (sx_behind hy hr hI v3871 b (by omega) (by omega) (by omega) (by omega)) (Nat.le_of_ble_eq_true rfl) ?_
    intro r Ia Ja Ra hq
    obtain ⟨⟨ea, eb, ec⟩, v3872, rfl⟩ := hq
    show WP _ _ _ _ (.int _ :: _) _ _ _ _
    rw [ea, eb, ec]
    clear ea eb ec Ia Ja Ra
    refine WP_aload_n dX8_offeringNote_21 rfl ?_
    refine WP_iload_n dX8_offeringNote_22 rfl ?_
    refine WP_iload_n dX8_offeringNote_23 rfl ?_
    refine WP_callV2 (k := 8) dX8_offeringNote_24 ⟨⟨⟨by decide, by decide⟩, zX8_behind⟩, lX8_46, by decide, rfl, vX8_behind.1, vX8_behind.2⟩ (lyx_is hy 69 8 rfl) (sx_behind hy hr hI a b (by omega) (by omega) (by omega) (by omega)) (Nat.le_of_ble_eq_true rfl) ?_
    intro r Ia Ja Ra hq
    obtain ⟨⟨ea, eb, ec⟩, v3873, rfl⟩ := hq
    show WP _ _ _ _ (.int _ :: _) _ _ _ _
    rw [ea, eb, ec]
    clear ea eb ec Ia Ja Ra
    refine WP_callS3 dX8_offeringNote_27 ⟨⟨⟨by decide, by decide⟩, zX8_mean⟩, lX8_49, tX8_mean⟩ (sx_mean hy hr hI v3869 v3872 v3873   ) (Nat.le_of_ble_eq_true rfl) ?_
    intro r Ia Ja Ra hq
    obtain ⟨⟨ea, eb, ec⟩, v3874, rfl⟩ := hq
    show WP _ _ _ _ (.int _ :: _) _ _ _ _
    rw [ea, eb, ec]
    clear ea eb ec Ia Ja Ra
    exact WP_sub (fc rfl (fc rfl (fc rfl fn))) (jn30_3866 v3874)
  · refine WQ_iconst (-1) (-1) dX8_offeringNote_5 rfl rfl (fun v3875 hv3875 => ?_)
    refine WP_goto 30 dX8_offeringNote_6 rfl ?_
    exact WP_sub (fc rfl (fc rfl (fc rfl fn))) (jn30_3866 v3875)
set_option maxHeartbeats 4000000 in
set_option maxRecDepth 100000 in
theorem sx_offeringOther {g : GG} {n : Int} {L : Int32} (hy : LyX g)  {I : pI} {J : pJ} {R : pR} (hr : RfX g R) (hI : XI g n L I) (a : Int32) (b : Int32) (a_lo : 0 ≤ a.toInt) (a_hi : a.toInt ≤ 9) (b_lo : 0 ≤ b.toInt) (b_hi : b.toInt ≤ 9) : SP g mX8_offeringOther [.ref (ad g 69), .int a, .int b] I J R (fun r I' J' R' => (I' = I ∧ J' = J ∧ R' = R) ∧ ∃ v : Int32, r = some (.int v)) := by
  refine SP_of ⟨by decide, rfl⟩ (Nat.le_of_ble_eq_true rfl) ?_
  have e3876 : I (ad g 1) 1 = L := hI.2
  have b3877 := BT_get hI.1 1 1 2 (0) (0) (900) (by decide) 1 (by decide) (by decide)
  rw [e3876] at b3877
  refine WP_iload_n dX8_offeringOther_0 rfl ?_
  refine WQ_iconst (1) (1) dX8_offeringOther_1 rfl rfl (fun v3878 hv3878 => ?_)
  have jn30_3886 : ∀ (v3886 : Int32), WP g mX8_offeringOther 30 [(0, .ref (ad g 69)), (1, .int a), (2, .int b)] [.int v3886] I J R (fun r I' J' R' => (I' = I ∧ J' = J ∧ R' = R) ∧ ∃ v : Int32, r = some (.int v)) := by
    intro v3886 
    exact WP_iret dX8_offeringOther_30 rfl ⟨⟨rfl, rfl, rfl⟩, _, rfl⟩
  refine WQ_icmp_ge 9 dX8_offeringOther_2 rfl (fun c3887 => ?_) (fun c3887 => ?_)
  · refine WP_aload_n dX8_offeringOther_9 rfl ?_
    refine WQ_getiu dX8_offeringOther_10 fX8_22 rfl (lyx_is hy 69 8 rfl) (fun v3889 ev3889 => ?_)
    refine WP_aload_n dX8_offeringOther_13 rfl ?_
    refine WP_iload_n dX8_offeringOther_14 rfl ?_
    refine WP_iload_n dX8_offeringOther_15 rfl ?_
    refine WQ_iconst (1) (1) dX8_offeringOther_16 rfl rfl (fun v3890 hv3890 => ?_)
    refine WQ_isub dX8_offeringOther_17 (by omega) (by omega) (fun v3891 hv3891 => ?_)
    refine WP_callV2 (k := 8) dX8_offeringOther_18 ⟨⟨⟨by decide, by decide⟩, zX8_behind⟩, lX8_46, by decide, rfl, vX8_behind.1, vX8_behind.2⟩ (lyx_is hy 69 8 rfl) (sx_behind hy hr hI a v3891 (by omega) (by omega) (by omega) (by omega)) (Nat.le_of_ble_eq_true rfl) ?_
    intro r Ia Ja Ra hq
    obtain ⟨⟨ea, eb, ec⟩, v3892, rfl⟩ := hq
    show WP _ _ _ _ (.int _ :: _) _ _ _ _
    rw [ea, eb, ec]
    clear ea eb ec Ia Ja Ra
    refine WP_aload_n dX8_offeringOther_21 rfl ?_
    refine WP_iload_n dX8_offeringOther_22 rfl ?_
    refine WP_iload_n dX8_offeringOther_23 rfl ?_
    refine WP_callV2 (k := 8) dX8_offeringOther_24 ⟨⟨⟨by decide, by decide⟩, zX8_behind⟩, lX8_46, by decide, rfl, vX8_behind.1, vX8_behind.2⟩ (lyx_is hy 69 8 rfl) (sx_behind hy hr hI a b (by omega) (by omega) (by omega) (by omega)) (Nat.le_of_ble_eq_true rfl) ?_
    intro r Ia Ja Ra hq
    obtain ⟨⟨ea, eb, ec⟩, v3893, rfl⟩ := hq
    show WP _ _ _ _ (.int _ :: _) _ _ _ _
    rw [ea, eb, ec]
    clear ea eb ec Ia Ja Ra
    refine WP_callS3 dX8_offeringOther_27 ⟨⟨⟨by decide, by decide⟩, zX8_mean⟩, lX8_49, tX8_mean⟩ (sx_mean hy hr hI v3889 v3892 v3893   ) (Nat.le_of_ble_eq_true rfl) ?_
    intro r Ia Ja Ra hq
    obtain ⟨⟨ea, eb, ec⟩, v3894, rfl⟩ := hq
    show WP _ _ _ _ (.int _ :: _) _ _ _ _
    rw [ea, eb, ec]
    clear ea eb ec Ia Ja Ra
    exact WP_sub (fc rfl (fc rfl (fc rfl fn))) (jn30_3886 v3894)
  · refine WQ_iconst (-1) (-1) dX8_offeringOther_5 rfl rfl (fun v3895 hv3895 => ?_)
    refine WP_goto 30 dX8_offeringOther_6 rfl ?_
    exact WP_sub (fc rfl (fc rfl (fc rfl fn))) (jn30_3886 v3895)
set_option maxHeartbeats 4000000 in
set_option maxRecDepth 100000 in
theorem sx_lookBack {g : GG} {n : Int} {L : Int32} (hy : LyX g)  {I : pI} {J : pJ} {R : pR} (hr : RfX g R) (hI : XI g n L I) (a : Int32) (b : Int32) (nn : Int32) (r : Int32) (a_lo : 0 ≤ a.toInt) (a_hi : a.toInt ≤ 9) (b_lo : 0 ≤ b.toInt) (b_hi : b.toInt ≤ 9) (nn_lo : 0 ≤ nn.toInt) (nn_hi : nn.toInt ≤ 20) (r_lo : 1 ≤ r.toInt) (r_hi : r.toInt ≤ 20) : SP g mX8_lookBack [.ref (ad g 69), .int a, .int b, .int nn, .int r] I J R (fun r I' J' R' => (XI g n L I' ∧ R' = R) ∧ r = none) := by
  refine SP_of ⟨by decide, rfl⟩ (Nat.le_of_ble_eq_true rfl) ?_
  have e3896 : I (ad g 1) 1 = L := hI.2
  have b3897 := BT_get hI.1 1 1 2 (0) (0) (900) (by decide) 1 (by decide) (by decide)
  rw [e3896] at b3897
  refine WP_aload_n dX8_lookBack_0 rfl ?_
  refine WP_getr dX8_lookBack_1 fX8_9 rfl (lyx_is hy 69 8 rfl) (rfx hr 69 3 70 (by decide)) ?_
  refine WQ_iconst (0) (0) dX8_lookBack_4 rfl rfl (fun v3898 hv3898 => ?_)
  refine WP_callS2u dX8_lookBack_5 ⟨⟨⟨by decide, by decide⟩, zJ7_fill_53178⟩, lX8_25, tJ7_fill_53178⟩ (s_fill hy hr 70 100 rfl rfl (by decide) v3898) (Nat.le_of_ble_eq_true rfl) ?_
  obtain ⟨I3899, eI3899⟩ : ∃ I9 : pI, I9 = fi I (ad g 70) 100 v3898 := ⟨_, rfl⟩
  rw [← eI3899]
  have hI3899 : XI g n L I3899 := by rw [eI3899]; exact (xi_fill0 hy hI 70 100 v3898 (by decide) (by decide))
  have e3900 : I3899 (ad g 1) 1 = L := by rw [eI3899, fi_off (lyx_ne hy (by decide) (by decide) (by decide))]; exact e3896
  clear eI3899
  refine WQ_iconst (1) (1) dX8_lookBack_8 rfl rfl (fun v3901 hv3901 => ?_)
  refine WP_istore (ls' := [(0, _), (1, _), (2, _), (3, _), (4, _), (5, _)]) dX8_lookBack_9 (by decide) rfl ?_
  have lp11_3904 : ∀ (mz : Nat) (i3902 : Int32) (I3903 : pI) (J3904 : pJ), XI g n L I3903 → 1 ≤ i3902.toInt → i3902.toInt ≤ 20 → (21 - i3902.toInt).toNat < mz → WP g mX8_lookBack 11 [(0, .ref (ad g 69)), (1, .int a), (2, .int b), (3, .int nn), (4, .int r), (5, .int i3902)] [] I3903 J3904 R (fun r I' J' R' => (XI g n L I' ∧ R' = R) ∧ r = none) := by
    intro mz
    induction mz with
    | zero =>
      intro i3902 I3903 J3904 hI3903 ai3902 bi3902 hmlp11_3904
      exact absurd hmlp11_3904 (Nat.not_lt_zero _)
    | succ mz ihlp11_3904 =>
      intro i3902 I3903 J3904 hI3903 ai3902 bi3902 hmlp11_3904
      have e3906 : I3903 (ad g 1) 1 = L := hI3903.2
      have b3907 := BT_get hI3903.1 1 1 2 (0) (0) (900) (by decide) 1 (by decide) (by decide)
      rw [e3906] at b3907
      refine WP_iload dX8_lookBack_11 rfl ?_
      refine WP_iload_n dX8_lookBack_13 rfl ?_
      refine WQ_icmp_ge 102 dX8_lookBack_14 rfl (fun c3907 => ?_) (fun c3907 => ?_)
      · refine WP_aload_n dX8_lookBack_102 rfl ?_
        refine WP_iload_n dX8_lookBack_103 rfl ?_
        refine WP_iload dX8_lookBack_104 rfl ?_
        refine WP_callS2 dX8_lookBack_106 ⟨⟨⟨by decide, by decide⟩, zX8_losesOn⟩, lX8_31, tX8_losesOn⟩ (sx_losesOn hy hr hI3903 nn r (by omega) (by omega) (by omega) (by omega)) (Nat.le_of_ble_eq_true rfl) ?_
        intro r Ia Ja Ra hq
        obtain ⟨⟨ea, eb, ec⟩, v3909, rfl, av3909, bv3909⟩ := hq
        show WP _ _ _ _ (.int _ :: _) _ _ _ _
        rw [ea, eb, ec]
        clear ea eb ec Ia Ja Ra
        refine WQ_puti dX8_lookBack_109 fX8_15 rfl rfl (lyx_is hy 69 8 rfl) (fun I3910 eI3910 => ?_)
        have hI3910 : XI g n L I3910 := by rw [eI3910]; exact (xi_f hy hI3903 (c := 69) (0) (0) (1) (by decide) (Or.inl (by decide)) (by decide) (by omega) (by omega))
        have e3911 : I3910 (ad g 1) 1 = L := by rw [eI3910, pp_ne _ _ (Or.inl (lyx_ne hy (by decide) (by decide) (by decide)))]; exact e3906
        have e3912 : I3910 (ad g 69) 2 = v3909 := by rw [eI3910, pp_self]
        clear eI3910
        exact WP_vret dX8_lookBack_112 rfl ⟨⟨hI3910, rfl⟩, rfl⟩
      · refine WP_aload_n dX8_lookBack_17 rfl ?_
        refine WP_iload dX8_lookBack_18 rfl ?_
        refine WP_iload dX8_lookBack_20 rfl ?_
        refine WP_callS2 dX8_lookBack_22 ⟨⟨⟨by decide, by decide⟩, zX8_losesOn⟩, lX8_31, tX8_losesOn⟩ (sx_losesOn hy hr hI3903 i3902 r (by omega) (by omega) (by omega) (by omega)) (Nat.le_of_ble_eq_true rfl) ?_
        intro r Ia Ja Ra hq
        obtain ⟨⟨ea, eb, ec⟩, v3913, rfl, av3913, bv3913⟩ := hq
        show WP _ _ _ _ (.int _ :: _) _ _ _ _
        rw [ea, eb, ec]
        clear ea eb ec Ia Ja Ra
        refine WQ_puti dX8_lookBack_25 fX8_15 rfl rfl (lyx_is hy 69 8 rfl) (fun I3914 eI3914 => ?_)
        have hI3914 : XI g n L I3914 := by rw [eI3914]; exact (xi_f hy hI3903 (c := 69) (0) (0) (1) (by decide) (Or.inl (by decide)) (by decide) (by omega) (by omega))
        have e3915 : I3914 (ad g 1) 1 = L := by rw [eI3914, pp_ne _ _ (Or.inl (lyx_ne hy (by decide) (by decide) (by decide)))]; exact e3906
        have e3916 : I3914 (ad g 69) 2 = v3913 := by rw [eI3914, pp_self]
        clear eI3914
        refine WP_iload_n dX8_lookBack_28 rfl ?_
        refine WP_istore (ls' := [(0, _), (1, _), (2, _), (3, _), (4, _), (5, _), (6, _)]) dX8_lookBack_29 (by decide) rfl ?_
        have lp31_3919 : ∀ (mz : Nat) (i3917 : Int32) (I3918 : pI) (J3919 : pJ), XI g n L I3918 → -1 ≤ i3917.toInt → i3917.toInt ≤ 9 → (i3917.toInt + 1).toNat < mz → WP g mX8_lookBack 31 [(0, .ref (ad g 69)), (1, .int a), (2, .int b), (3, .int nn), (4, .int r), (5, .int i3902), (6, .int i3917)] [] I3918 J3919 R (fun r I' J' R' => (XI g n L I' ∧ R' = R) ∧ r = none) := by
          intro mz
          induction mz with
          | zero =>
            intro i3917 I3918 J3919 hI3918 ai3917 bi3917 hmlp31_3919
            exact absurd hmlp31_3919 (Nat.not_lt_zero _)
          | succ mz ihlp31_3919 =>
            intro i3917 I3918 J3919 hI3918 ai3917 bi3917 hmlp31_3919
            have e3921 : I3918 (ad g 1) 1 = L := hI3918.2
            have b3922 := BT_get hI3918.1 1 1 2 (0) (0) (900) (by decide) 1 (by decide) (by decide)
            rw [e3921] at b3922
            refine WP_iload dX8_lookBack_31 rfl ?_
            refine WQ_if_lt 96 dX8_lookBack_33 rfl (fun c3922 => ?_) (fun c3922 => ?_)
            · refine WP_iinc (ls' := [(0, _), (1, _), (2, _), (3, _), (4, _), (5, _), (6, _)]) dX8_lookBack_96 rfl (by decide) rfl ?_
              have hv3924 : (i3902 + Int32.ofInt (1)).toInt = i3902.toInt + (1) := ia_n rfl (by omega) (by omega)
              generalize i3902 + Int32.ofInt (1) = v3924 at hv3924 ⊢
              refine WP_goto 11 dX8_lookBack_99 rfl ?_
              exact WP_sub (fc rfl (fc rfl (fc rfl (fc rfl (fc rfl (fc rfl fn)))))) (ihlp11_3904 v3924 I3918 J3919 hI3918 (by omega) (by omega) (by omega))
            · refine WP_iload_n dX8_lookBack_36 rfl ?_
              refine WP_istore (ls' := [(0, _), (1, _), (2, _), (3, _), (4, _), (5, _), (6, _), (7, _)]) dX8_lookBack_37 (by decide) rfl ?_
              have lp39_3927 : ∀ (mz : Nat) (i3925 : Int32) (I3926 : pI) (J3927 : pJ), XI g n L I3926 → -1 ≤ i3925.toInt → i3925.toInt ≤ 9 → (i3925.toInt + 1).toNat < mz → WP g mX8_lookBack 39 [(0, .ref (ad g 69)), (1, .int a), (2, .int b), (3, .int nn), (4, .int r), (5, .int i3902), (6, .int i3917), (7, .int i3925)] [] I3926 J3927 R (fun r I' J' R' => (XI g n L I' ∧ R' = R) ∧ r = none) := by
                intro mz
                induction mz with
                | zero =>
                  intro i3925 I3926 J3927 hI3926 ai3925 bi3925 hmlp39_3927
                  exact absurd hmlp39_3927 (Nat.not_lt_zero _)
                | succ mz ihlp39_3927 =>
                  intro i3925 I3926 J3927 hI3926 ai3925 bi3925 hmlp39_3927
                  have e3929 : I3926 (ad g 1) 1 = L := hI3926.2
                  have b3930 := BT_get hI3926.1 1 1 2 (0) (0) (900) (by decide) 1 (by decide) (by decide)
                  rw [e3929] at b3930
                  refine WP_iload dX8_lookBack_39 rfl ?_
                  refine WQ_if_lt 90 dX8_lookBack_41 rfl (fun c3930 => ?_) (fun c3930 => ?_)
                  · refine WP_iinc (ls' := [(0, _), (1, _), (2, _), (3, _), (4, _), (5, _), (6, _), (7, _)]) dX8_lookBack_90 rfl (by decide) rfl ?_
                    have hv3932 : (i3917 + Int32.ofInt (-1)).toInt = i3917.toInt + (-1) := ia_n rfl (by omega) (by omega)
                    generalize i3917 + Int32.ofInt (-1) = v3932 at hv3932 ⊢
                    refine WP_goto 31 dX8_lookBack_93 rfl ?_
                    exact WP_sub (fc rfl (fc rfl (fc rfl (fc rfl (fc rfl (fc rfl (fc rfl fn))))))) (ihlp31_3919 v3932 I3926 J3927 hI3926 (by omega) (by omega) (by omega))
                  · refine WP_aload_n dX8_lookBack_44 rfl ?_
                    refine WP_iload dX8_lookBack_45 rfl ?_
                    refine WP_iload dX8_lookBack_47 rfl ?_
                    refine WP_callV2 (k := 8) dX8_lookBack_49 ⟨⟨⟨by decide, by decide⟩, zX8_offeringNote⟩, lX8_35, by decide, rfl, vX8_offeringNote.1, vX8_offeringNote.2⟩ (lyx_is hy 69 8 rfl) (sx_offeringNote hy hr hI3926 i3917 i3925 (by omega) (by omega) (by omega) (by omega)) (Nat.le_of_ble_eq_true rfl) ?_
                    intro r Ia Ja Ra hq
                    obtain ⟨⟨ea, eb, ec⟩, v3933, rfl⟩ := hq
                    show WP _ _ _ _ (.int _ :: _) _ _ _ _
                    rw [ea, eb, ec]
                    clear ea eb ec Ia Ja Ra
                    refine WP_aload_n dX8_lookBack_52 rfl ?_
                    refine WP_iload dX8_lookBack_53 rfl ?_
                    refine WP_iload dX8_lookBack_55 rfl ?_
                    refine WP_callV2 (k := 8) dX8_lookBack_57 ⟨⟨⟨by decide, by decide⟩, zX8_offeringOther⟩, lX8_38, by decide, rfl, vX8_offeringOther.1, vX8_offeringOther.2⟩ (lyx_is hy 69 8 rfl) (sx_offeringOther hy hr hI3926 i3917 i3925 (by omega) (by omega) (by omega) (by omega)) (Nat.le_of_ble_eq_true rfl) ?_
                    intro r Ia Ja Ra hq
                    obtain ⟨⟨ea, eb, ec⟩, v3934, rfl⟩ := hq
                    show WP _ _ _ _ (.int _ :: _) _ _ _ _
                    rw [ea, eb, ec]
                    clear ea eb ec Ia Ja Ra
                    refine WQ_max dX8_lookBack_60 lX8_41 ⟨by decide, Nat.le_of_ble_eq_true rfl⟩ (fun v3935 av3935 bv3935 cv3935 => ?_)
                    refine WP_istore (ls' := [(0, _), (1, _), (2, _), (3, _), (4, _), (5, _), (6, _), (7, _), (8, _)]) dX8_lookBack_63 (by decide) rfl ?_
                    refine WP_aload_n dX8_lookBack_65 rfl ?_
                    refine WP_getr dX8_lookBack_66 fX8_9 rfl (lyx_is hy 69 8 rfl) (rfx hr 69 3 70 (by decide)) ?_
                    refine WP_iload dX8_lookBack_69 rfl ?_
                    refine WQ_bipush (10) (10) dX8_lookBack_71 rfl rfl (fun v3936 hv3936 => ?_)
                    refine WQ_imulk (10) dX8_lookBack_73 hv3936 (by omega) (by omega) (fun v3937 hv3937 => ?_)
                    refine WP_iload dX8_lookBack_74 rfl ?_
                    refine WQ_iadd dX8_lookBack_76 (by omega) (by omega) (fun v3938 hv3938 => ?_)
                    refine WQ_iconst (0) (0) dX8_lookBack_77 rfl rfl (fun v3939 hv3939 => ?_)
                    refine WP_iload dX8_lookBack_78 rfl ?_
                    refine WQ_max dX8_lookBack_80 lX8_41 ⟨by decide, Nat.le_of_ble_eq_true rfl⟩ (fun v3940 av3940 bv3940 cv3940 => ?_)
                    refine WQ_iast dX8_lookBack_83 (lyx_is hy 70 13 rfl) (lyx_n hy 70 100 rfl) (by omega) (by omega) (fun I3941 eI3941 => ?_)
                    have hI3941 : XI g n L I3941 := by rw [eI3941]; exact (xi_r0 hy hI3926 (c := 70) (by decide) (Or.inl (by decide)) (by decide))
                    have e3942 : I3941 (ad g 1) 1 = L := by rw [eI3941, pp_ne _ _ (Or.inl (lyx_ne hy (by decide) (by decide) (by decide)))]; exact e3929
                    clear eI3941
                    refine WP_iinc (ls' := [(0, _), (1, _), (2, _), (3, _), (4, _), (5, _), (6, _), (7, _), (8, _)]) dX8_lookBack_84 rfl (by decide) rfl ?_
                    have hv3943 : (i3925 + Int32.ofInt (-1)).toInt = i3925.toInt + (-1) := ia_n rfl (by omega) (by omega)
                    generalize i3925 + Int32.ofInt (-1) = v3943 at hv3943 ⊢
                    refine WP_goto 39 dX8_lookBack_87 rfl ?_
                    exact WP_sub (fc rfl (fc rfl (fc rfl (fc rfl (fc rfl (fc rfl (fc rfl (fc rfl fn)))))))) (ihlp39_3927 v3943 I3941 J3927 hI3941 (by omega) (by omega) (by omega))
              exact WP_sub (fc rfl (fc rfl (fc rfl (fc rfl (fc rfl (fc rfl (fc rfl (fc rfl fn)))))))) (lp39_3927 _ b I3918 J3919 hI3918 (by omega) (by omega) (Nat.lt_succ_self _))
        exact WP_sub (fc rfl (fc rfl (fc rfl (fc rfl (fc rfl (fc rfl (fc rfl fn))))))) (lp31_3919 _ a I3914 J3904 hI3914 (by omega) (by omega) (Nat.lt_succ_self _))
  exact WP_sub (fc rfl (fc rfl (fc rfl (fc rfl (fc rfl (fc rfl fn)))))) (lp11_3904 _ v3901 I3899 J hI3899 (by omega) (by omega) (Nat.lt_succ_self _))
set_option maxHeartbeats 4000000 in
set_option maxRecDepth 100000 in
theorem sx_two {g : GG} {n : Int} {L : Int32} (hy : LyX g)  {I : pI} {J : pJ} {R : pR} (hr : RfX g R) (hI : XI g n L I) (a : Int32) (b : Int32) (p : Int32) (q : Int32) (nn : Int32) (r : Int32) (wh : Int32)  : SP g mX10_two [.ref (ad g 0), .int a, .int b, .int p, .int q, .int nn, .int r, .int wh] I J R (fun r I' J' R' => (XI g n L I' ∧ R' = R) ∧ ∃ v : Int32, r = some (.int v)) := by
  refine SP_of ⟨by decide, rfl⟩ (Nat.le_of_ble_eq_true rfl) ?_
  have e3944 : I (ad g 1) 1 = L := hI.2
  have b3945 := BT_get hI.1 1 1 2 (0) (0) (900) (by decide) 1 (by decide) (by decide)
  rw [e3944] at b3945
  refine WP_iload_n dX10_two_0 rfl ?_
  refine WQ_iconst (0) (0) dX10_two_1 rfl rfl (fun v3946 hv3946 => ?_)
  refine WQ_bipush (9) (9) dX10_two_2 rfl rfl (fun v3947 hv3947 => ?_)
  refine WP_callS3 dX10_two_4 ⟨⟨⟨by decide, by decide⟩, zX10_within⟩, lX10_206, tX10_within⟩ (sx_within hy hr hI a v3946 v3947   ) (Nat.le_of_ble_eq_true rfl) ?_
  intro r Ia Ja Ra hq
  obtain ⟨⟨ea, eb, ec⟩, v3948, rfl, av3948, bv3948, cv3948⟩ := hq
  show WP _ _ _ _ (.int _ :: _) _ _ _ _
  rw [ea, eb, ec]
  clear ea eb ec Ia Ja Ra
  refine WQ_if_eq 41 dX10_two_7 rfl (fun c3948 => ?_) (fun c3948 => ?_)
  · refine WQ_bipush (-2) (-2) dX10_two_41 rfl rfl (fun v3950 hv3950 => ?_)
    exact WP_iret dX10_two_43 rfl ⟨⟨hI, rfl⟩, _, rfl⟩
  · refine WP_iload_n dX10_two_10 rfl ?_
    refine WQ_iconst (0) (0) dX10_two_11 rfl rfl (fun v3951 hv3951 => ?_)
    refine WQ_bipush (9) (9) dX10_two_12 rfl rfl (fun v3952 hv3952 => ?_)
    refine WP_callS3 dX10_two_14 ⟨⟨⟨by decide, by decide⟩, zX10_within⟩, lX10_206, tX10_within⟩ (sx_within hy hr hI b v3951 v3952   ) (Nat.le_of_ble_eq_true rfl) ?_
    intro r Ia Ja Ra hq
    obtain ⟨⟨ea, eb, ec⟩, v3953, rfl, av3953, bv3953, cv3953⟩ := hq
    show WP _ _ _ _ (.int _ :: _) _ _ _ _
    rw [ea, eb, ec]
    clear ea eb ec Ia Ja Ra
    refine WQ_if_eq 41 dX10_two_17 rfl (fun c3953 => ?_) (fun c3953 => ?_)
    · refine WQ_bipush (-2) (-2) dX10_two_41 rfl rfl (fun v3955 hv3955 => ?_)
      exact WP_iret dX10_two_43 rfl ⟨⟨hI, rfl⟩, _, rfl⟩
    · refine WP_iload_n dX10_two_20 rfl ?_
      refine WQ_iconst (0) (0) dX10_two_21 rfl rfl (fun v3956 hv3956 => ?_)
      refine WQ_bipush (100) (100) dX10_two_22 rfl rfl (fun v3957 hv3957 => ?_)
      refine WP_callS3 dX10_two_24 ⟨⟨⟨by decide, by decide⟩, zX10_within⟩, lX10_206, tX10_within⟩ (sx_within hy hr hI p v3956 v3957   ) (Nat.le_of_ble_eq_true rfl) ?_
      intro r Ia Ja Ra hq
      obtain ⟨⟨ea, eb, ec⟩, v3958, rfl, av3958, bv3958, cv3958⟩ := hq
      show WP _ _ _ _ (.int _ :: _) _ _ _ _
      rw [ea, eb, ec]
      clear ea eb ec Ia Ja Ra
      refine WQ_if_eq 41 dX10_two_27 rfl (fun c3958 => ?_) (fun c3958 => ?_)
      · refine WQ_bipush (-2) (-2) dX10_two_41 rfl rfl (fun v3960 hv3960 => ?_)
        exact WP_iret dX10_two_43 rfl ⟨⟨hI, rfl⟩, _, rfl⟩
      · refine WP_iload dX10_two_30 rfl ?_
        refine WQ_iconst (0) (0) dX10_two_32 rfl rfl (fun v3961 hv3961 => ?_)
        refine WQ_bipush (100) (100) dX10_two_33 rfl rfl (fun v3962 hv3962 => ?_)
        refine WP_callS3 dX10_two_35 ⟨⟨⟨by decide, by decide⟩, zX10_within⟩, lX10_206, tX10_within⟩ (sx_within hy hr hI q v3961 v3962   ) (Nat.le_of_ble_eq_true rfl) ?_
        intro r Ia Ja Ra hq
        obtain ⟨⟨ea, eb, ec⟩, v3963, rfl, av3963, bv3963, cv3963⟩ := hq
        show WP _ _ _ _ (.int _ :: _) _ _ _ _
        rw [ea, eb, ec]
        clear ea eb ec Ia Ja Ra
        refine WQ_if_ne 44 dX10_two_38 rfl (fun c3963 => ?_) (fun c3963 => ?_)
        · refine WP_iload dX10_two_44 rfl ?_
          refine WQ_iconst (0) (0) dX10_two_46 rfl rfl (fun v3965 hv3965 => ?_)
          refine WQ_bipush (20) (20) dX10_two_47 rfl rfl (fun v3966 hv3966 => ?_)
          refine WP_callS3 dX10_two_49 ⟨⟨⟨by decide, by decide⟩, zX10_within⟩, lX10_206, tX10_within⟩ (sx_within hy hr hI nn v3965 v3966   ) (Nat.le_of_ble_eq_true rfl) ?_
          intro r Ia Ja Ra hq
          obtain ⟨⟨ea, eb, ec⟩, v3967, rfl, av3967, bv3967, cv3967⟩ := hq
          show WP _ _ _ _ (.int _ :: _) _ _ _ _
          rw [ea, eb, ec]
          clear ea eb ec Ia Ja Ra
          refine WQ_if_eq 76 dX10_two_52 rfl (fun c3967 => ?_) (fun c3967 => ?_)
          · refine WQ_bipush (-2) (-2) dX10_two_76 rfl rfl (fun v3969 hv3969 => ?_)
            exact WP_iret dX10_two_78 rfl ⟨⟨hI, rfl⟩, _, rfl⟩
          · refine WP_iload dX10_two_55 rfl ?_
            refine WQ_iconst (1) (1) dX10_two_57 rfl rfl (fun v3970 hv3970 => ?_)
            refine WQ_bipush (20) (20) dX10_two_58 rfl rfl (fun v3971 hv3971 => ?_)
            refine WP_callS3 dX10_two_60 ⟨⟨⟨by decide, by decide⟩, zX10_within⟩, lX10_206, tX10_within⟩ (sx_within hy hr hI r v3970 v3971   ) (Nat.le_of_ble_eq_true rfl) ?_
            intro r Ia Ja Ra hq
            obtain ⟨⟨ea, eb, ec⟩, v3972, rfl, av3972, bv3972, cv3972⟩ := hq
            show WP _ _ _ _ (.int _ :: _) _ _ _ _
            rw [ea, eb, ec]
            clear ea eb ec Ia Ja Ra
            refine WQ_if_eq 76 dX10_two_63 rfl (fun c3972 => ?_) (fun c3972 => ?_)
            · refine WQ_bipush (-2) (-2) dX10_two_76 rfl rfl (fun v3974 hv3974 => ?_)
              exact WP_iret dX10_two_78 rfl ⟨⟨hI, rfl⟩, _, rfl⟩
            · refine WP_iload dX10_two_66 rfl ?_
              refine WQ_iconst (0) (0) dX10_two_68 rfl rfl (fun v3975 hv3975 => ?_)
              refine WQ_iconst (1) (1) dX10_two_69 rfl rfl (fun v3976 hv3976 => ?_)
              refine WP_callS3 dX10_two_70 ⟨⟨⟨by decide, by decide⟩, zX10_within⟩, lX10_206, tX10_within⟩ (sx_within hy hr hI wh v3975 v3976   ) (Nat.le_of_ble_eq_true rfl) ?_
              intro r Ia Ja Ra hq
              obtain ⟨⟨ea, eb, ec⟩, v3977, rfl, av3977, bv3977, cv3977⟩ := hq
              show WP _ _ _ _ (.int _ :: _) _ _ _ _
              rw [ea, eb, ec]
              clear ea eb ec Ia Ja Ra
              refine WQ_if_ne 79 dX10_two_73 rfl (fun c3977 => ?_) (fun c3977 => ?_)
              · refine WP_iload dX10_two_79 rfl ?_
                refine WQ_if_eq 90 dX10_two_81 rfl (fun c3978 => ?_) (fun c3978 => ?_)
                · refine WP_iload dX10_two_90 rfl ?_
                  have jn100_3982 : ∀ (v3982 : Int32), -1 ≤ v3982.toInt → v3982.toInt ≤ 0 → WP g mX10_two 100 [(0, .ref (ad g 0)), (1, .int a), (2, .int b), (3, .int p), (4, .int q), (5, .int nn), (6, .int r), (7, .int wh)] [.int v3982] I J R (fun r I' J' R' => (XI g n L I' ∧ R' = R) ∧ ∃ v : Int32, r = some (.int v)) := by
                    intro v3982 av3982 bv3982
                    exact WP_iret dX10_two_100 rfl ⟨⟨hI, rfl⟩, _, rfl⟩
                  refine WQ_if_ne 99 dX10_two_92 rfl (fun c3983 => ?_) (fun c3983 => ?_)
                  · refine WQ_iconst (-1) (-1) dX10_two_99 rfl rfl (fun v3985 hv3985 => ?_)
                    exact WP_sub (fc rfl (fc rfl (fc rfl (fc rfl (fc rfl (fc rfl (fc rfl (fc rfl fn)))))))) (jn100_3982 v3985 (by omega) (by omega))
                  · refine WQ_iconst (0) (0) dX10_two_95 rfl rfl (fun v3986 hv3986 => ?_)
                    refine WP_goto 100 dX10_two_96 rfl ?_
                    exact WP_sub (fc rfl (fc rfl (fc rfl (fc rfl (fc rfl (fc rfl (fc rfl (fc rfl fn)))))))) (jn100_3982 v3986 (by omega) (by omega))
                · refine WP_iload_n dX10_two_84 rfl ?_
                  refine WP_iload_n dX10_two_85 rfl ?_
                  refine WQ_iadd dX10_two_86 (by omega) (by omega) (fun v3987 hv3987 => ?_)
                  refine WQ_if_ne 101 dX10_two_87 rfl (fun c3987 => ?_) (fun c3987 => ?_)
                  · refine WP_aload_n dX10_two_101 rfl ?_
                    refine WP_getr dX10_two_102 fX10_76 rfl (lyx_is hy 0 10 rfl) (rfx hr 0 8 69 (by decide)) ?_
                    refine WP_iload_n dX10_two_105 rfl ?_
                    refine WP_iload dX10_two_106 rfl ?_
                    refine WP_callV2 (k := 8) dX10_two_108 ⟨⟨⟨by decide, by decide⟩, zX8_takenAt⟩, lX10_270, by decide, rfl, vX8_takenAt.1, vX8_takenAt.2⟩ (lyx_is hy 69 8 rfl) (sx_takenAt hy hr hI p q (by omega) (by omega) (by omega) (by omega)) (Nat.le_of_ble_eq_true rfl) ?_
                    intro r I3989 J3990 Ra hq
                    obtain ⟨⟨hI3989, ec⟩, rfl⟩ := hq
                    rw [ec]
                    clear ec Ra
                    have e3991 : I3989 (ad g 1) 1 = L := hI3989.2
                    have b3992 := BT_get hI3989.1 1 1 2 (0) (0) (900) (by decide) 1 (by decide) (by decide)
                    rw [e3991] at b3992
                    refine WP_aload_n dX10_two_111 rfl ?_
                    refine WP_getr dX10_two_112 fX10_76 rfl (lyx_is hy 0 10 rfl) (rfx hr 0 8 69 (by decide)) ?_
                    refine WP_iload_n dX10_two_115 rfl ?_
                    refine WP_iload_n dX10_two_116 rfl ?_
                    refine WP_iload dX10_two_117 rfl ?_
                    refine WP_iload dX10_two_119 rfl ?_
                    refine WP_callV4 (k := 8) dX10_two_121 ⟨⟨⟨by decide, by decide⟩, zX8_lookBack⟩, lX10_274, by decide, rfl, vX8_lookBack.1, vX8_lookBack.2⟩ (lyx_is hy 69 8 rfl) (sx_lookBack hy hr hI3989 a b nn r (by omega) (by omega) (by omega) (by omega) (by omega) (by omega) (by omega) (by omega)) (Nat.le_of_ble_eq_true rfl) ?_
                    intro r I3993 J3994 Ra hq
                    obtain ⟨⟨hI3993, ec⟩, rfl⟩ := hq
                    rw [ec]
                    clear ec Ra
                    have e3995 : I3993 (ad g 1) 1 = L := hI3993.2
                    have b3996 := BT_get hI3993.1 1 1 2 (0) (0) (900) (by decide) 1 (by decide) (by decide)
                    rw [e3995] at b3996
                    refine WP_aload_n dX10_two_124 rfl ?_
                    refine WP_getr dX10_two_125 fX10_76 rfl (lyx_is hy 0 10 rfl) (rfx hr 0 8 69 (by decide)) ?_
                    refine WP_iload_n dX10_two_128 rfl ?_
                    refine WP_iload_n dX10_two_129 rfl ?_
                    refine WP_callV2 (k := 8) dX10_two_130 ⟨⟨⟨by decide, by decide⟩, zX8_offeringNote⟩, lX10_278, by decide, rfl, vX8_offeringNote.1, vX8_offeringNote.2⟩ (lyx_is hy 69 8 rfl) (sx_offeringNote hy hr hI3993 a b (by omega) (by omega) (by omega) (by omega)) (Nat.le_of_ble_eq_true rfl) ?_
                    intro r Ia Ja Ra hq
                    obtain ⟨⟨ea, eb, ec⟩, v3997, rfl⟩ := hq
                    show WP _ _ _ _ (.int _ :: _) _ _ _ _
                    rw [ea, eb, ec]
                    clear ea eb ec Ia Ja Ra
                    refine WP_istore (ls' := [(0, _), (1, _), (2, _), (3, _), (4, _), (5, _), (6, _), (7, _), (8, _)]) dX10_two_133 (by decide) rfl ?_
                    refine WP_aload_n dX10_two_135 rfl ?_
                    refine WP_getr dX10_two_136 fX10_76 rfl (lyx_is hy 0 10 rfl) (rfx hr 0 8 69 (by decide)) ?_
                    refine WP_iload_n dX10_two_139 rfl ?_
                    refine WP_iload_n dX10_two_140 rfl ?_
                    refine WP_callV2 (k := 8) dX10_two_141 ⟨⟨⟨by decide, by decide⟩, zX8_offeringOther⟩, lX10_281, by decide, rfl, vX8_offeringOther.1, vX8_offeringOther.2⟩ (lyx_is hy 69 8 rfl) (sx_offeringOther hy hr hI3993 a b (by omega) (by omega) (by omega) (by omega)) (Nat.le_of_ble_eq_true rfl) ?_
                    intro r Ia Ja Ra hq
                    obtain ⟨⟨ea, eb, ec⟩, v3998, rfl⟩ := hq
                    show WP _ _ _ _ (.int _ :: _) _ _ _ _
                    rw [ea, eb, ec]
                    clear ea eb ec Ia Ja Ra
                    refine WP_istore (ls' := [(0, _), (1, _), (2, _), (3, _), (4, _), (5, _), (6, _), (7, _), (8, _), (9, _)]) dX10_two_144 (by decide) rfl ?_
                    refine WP_iload dX10_two_146 rfl ?_
                    refine WQ_if_ne 159 dX10_two_148 rfl (fun c3998 => ?_) (fun c3998 => ?_)
                    · refine WP_iload dX10_two_159 rfl ?_
                      refine WP_iload dX10_two_161 rfl ?_
                      have jn171_4002 : ∀ (v4002 : Int32), 0 ≤ v4002.toInt → v4002.toInt ≤ 1 → WP g mX10_two 171 [(0, .ref (ad g 0)), (1, .int a), (2, .int b), (3, .int p), (4, .int q), (5, .int nn), (6, .int r), (7, .int wh), (8, .int v3997), (9, .int v3998)] [.int v4002] I3993 J3994 R (fun r I' J' R' => (XI g n L I' ∧ R' = R) ∧ ∃ v : Int32, r = some (.int v)) := by
                        intro v4002 av4002 bv4002
                        exact WP_iret dX10_two_171 rfl ⟨⟨hI3993, rfl⟩, _, rfl⟩
                      refine WQ_icmp_lt 170 dX10_two_163 rfl (fun c4003 => ?_) (fun c4003 => ?_)
                      · refine WQ_iconst (1) (1) dX10_two_170 rfl rfl (fun v4005 hv4005 => ?_)
                        exact WP_sub (fc rfl (fc rfl (fc rfl (fc rfl (fc rfl (fc rfl (fc rfl (fc rfl (fc rfl (fc rfl fn)))))))))) (jn171_4002 v4005 (by omega) (by omega))
                      · refine WQ_iconst (0) (0) dX10_two_166 rfl rfl (fun v4006 hv4006 => ?_)
                        refine WP_goto 171 dX10_two_167 rfl ?_
                        exact WP_sub (fc rfl (fc rfl (fc rfl (fc rfl (fc rfl (fc rfl (fc rfl (fc rfl (fc rfl (fc rfl fn)))))))))) (jn171_4002 v4006 (by omega) (by omega))
                    · refine WP_iload dX10_two_151 rfl ?_
                      refine WP_iload dX10_two_153 rfl ?_
                      refine WQ_max dX10_two_155 lX10_284 ⟨by decide, Nat.le_of_ble_eq_true rfl⟩ (fun v4007 av4007 bv4007 cv4007 => ?_)
                      exact WP_iret dX10_two_158 rfl ⟨⟨hI3993, rfl⟩, _, rfl⟩
                  · refine WP_iload dX10_two_90 rfl ?_
                    have jn100_4010 : ∀ (v4010 : Int32), -1 ≤ v4010.toInt → v4010.toInt ≤ 0 → WP g mX10_two 100 [(0, .ref (ad g 0)), (1, .int a), (2, .int b), (3, .int p), (4, .int q), (5, .int nn), (6, .int r), (7, .int wh)] [.int v4010] I J R (fun r I' J' R' => (XI g n L I' ∧ R' = R) ∧ ∃ v : Int32, r = some (.int v)) := by
                      intro v4010 av4010 bv4010
                      exact WP_iret dX10_two_100 rfl ⟨⟨hI, rfl⟩, _, rfl⟩
                    refine WQ_if_ne 99 dX10_two_92 rfl (fun c4011 => ?_) (fun c4011 => ?_)
                    · refine WQ_iconst (-1) (-1) dX10_two_99 rfl rfl (fun v4013 hv4013 => ?_)
                      exact WP_sub (fc rfl (fc rfl (fc rfl (fc rfl (fc rfl (fc rfl (fc rfl (fc rfl fn)))))))) (jn100_4010 v4013 (by omega) (by omega))
                    · refine WQ_iconst (0) (0) dX10_two_95 rfl rfl (fun v4014 hv4014 => ?_)
                      refine WP_goto 100 dX10_two_96 rfl ?_
                      exact WP_sub (fc rfl (fc rfl (fc rfl (fc rfl (fc rfl (fc rfl (fc rfl (fc rfl fn)))))))) (jn100_4010 v4014 (by omega) (by omega))
              · refine WQ_bipush (-2) (-2) dX10_two_76 rfl rfl (fun v4015 hv4015 => ?_)
                exact WP_iret dX10_two_78 rfl ⟨⟨hI, rfl⟩, _, rfl⟩
        · refine WQ_bipush (-2) (-2) dX10_two_41 rfl rfl (fun v4016 hv4016 => ?_)
          exact WP_iret dX10_two_43 rfl ⟨⟨hI, rfl⟩, _, rfl⟩
