set_option maxHeartbeats 4000000 in
set_option maxRecDepth 100000 in
theorem sx_allow_44 {g : GG} {n : Int} {L : Int32} (hy : LyX g)  {I : pI} {J : pJ} {R : pR} (hr : RfX g R) (hI : XI g n L I) (co : Int32) (st : Int32) (ac : Int32) (co_lo : 0 ≤ co.toInt) (co_hi : co.toInt ≤ 60) (st_lo : 0 ≤ st.toInt) (st_hi : st.toInt ≤ 5) (ac_lo : 0 ≤ ac.toInt) (ac_hi : ac.toInt ≤ 47) : SP g mX6_allow [.ref (ad g 44), .int co, .int st, .int ac] I J R (fun r I' J' R' => (I' = I ∧ J' = J ∧ R' = R) ∧ ∃ v : Int32, r = some (.int v) ∧ 0 ≤ v.toInt ∧ v.toInt ≤ 1) := by
  refine SP_of ⟨by decide, rfl⟩ (Nat.le_of_ble_eq_true rfl) ?_
  have e3626 : I (ad g 1) 1 = L := hI.2
  have b3627 := BT_get hI.1 1 1 2 (0) (0) (900) (by decide) 1 (by decide) (by decide)
  rw [e3626] at b3627
  refine WP_iload_n dX6_allow_0 rfl ?_
  refine WQ_iconst (3) (3) dX6_allow_1 rfl rfl (fun v3628 hv3628 => ?_)
  refine WQ_iand3 dX6_allow_2 hv3628 (by omega) (by omega) (fun v3629 hv3629 => ?_)
  refine WP_istore (ls' := [(0, _), (1, _), (2, _), (3, _), (4, _)]) dX6_allow_3 (by decide) rfl ?_
  refine WP_iload_n dX6_allow_5 rfl ?_
  refine WQ_iconst (2) (2) dX6_allow_6 rfl rfl (fun v3630 hv3630 => ?_)
  refine WQ_ishr2 dX6_allow_7 hv3630 (by omega) (by omega) (fun v3631 hv3631 => ?_)
  refine WQ_iconst (3) (3) dX6_allow_8 rfl rfl (fun v3632 hv3632 => ?_)
  refine WQ_iand3 dX6_allow_9 hv3632 (by omega) (by omega) (fun v3633 hv3633 => ?_)
  refine WP_istore (ls' := [(0, _), (1, _), (2, _), (3, _), (4, _), (5, _)]) dX6_allow_10 (by decide) rfl ?_
  refine WP_iload_n dX6_allow_12 rfl ?_
  refine WQ_iconst (4) (4) dX6_allow_13 rfl rfl (fun v3634 hv3634 => ?_)
  refine WQ_ishr4 dX6_allow_14 hv3634 (by omega) (by omega) (fun v3635 hv3635 => ?_)
  refine WP_istore (ls' := [(0, _), (1, _), (2, _), (3, _), (4, _), (5, _), (6, _)]) dX6_allow_15 (by decide) rfl ?_
  refine WP_iload dX6_allow_17 rfl ?_
  refine WP_aload_n dX6_allow_19 rfl ?_
  refine WQ_geti dX6_allow_20 fX6_54 rfl (lyx_is hy 44 6 rfl) (BT_get hI.1 44 5 6 (0) (0) (3) (by decide) 5 (by decide) (by decide)) (fun v3636 ev3636 av3636 bv3636 => ?_)
  have jn85_3657 : ∀ (v3657 : Int32), 0 ≤ v3657.toInt → v3657.toInt ≤ 1 → WP g mX6_allow 85 [(0, .ref (ad g 44)), (1, .int co), (2, .int st), (3, .int ac), (4, .int v3629), (5, .int v3633), (6, .int v3635)] [.int v3657] I J R (fun r I' J' R' => (I' = I ∧ J' = J ∧ R' = R) ∧ ∃ v : Int32, r = some (.int v) ∧ 0 ≤ v.toInt ∧ v.toInt ≤ 1) := by
    intro v3657 av3657 bv3657
    exact WP_zret dX6_allow_85 rfl (nar_z (by omega)) ⟨⟨rfl, rfl, rfl⟩, _, rfl, by omega, by omega⟩
  refine WQ_icmp_gt 84 dX6_allow_23 rfl (fun c3658 => ?_) (fun c3658 => ?_)
  · refine WQ_iconst (0) (0) dX6_allow_84 rfl rfl (fun v3660 hv3660 => ?_)
    exact WP_sub (fc rfl (fc rfl (fc rfl (fc rfl (fc rfl (fc rfl (fc rfl fn))))))) (jn85_3657 v3660 (by omega) (by omega))
  · refine WP_iload dX6_allow_26 rfl ?_
    refine WP_aload_n dX6_allow_28 rfl ?_
    refine WP_iload_n dX6_allow_29 rfl ?_
    refine WP_callV1 (k := 6) dX6_allow_30 ⟨⟨⟨by decide, by decide⟩, zX6_mostFromStore⟩, lX6_70, by decide, rfl, vX6_mostFromStore.1, vX6_mostFromStore.2⟩ (lyx_is hy 44 6 rfl) (sx_mostFromStore_44 hy hr hI st (by omega) (by omega)) (Nat.le_of_ble_eq_true rfl) ?_
    intro r Ia Ja Ra hq
    obtain ⟨⟨ea, eb, ec⟩, v3661, rfl, av3661, bv3661, cv3661⟩ := hq
    show WP _ _ _ _ (.int _ :: _) _ _ _ _
    rw [ea, eb, ec]
    clear ea eb ec Ia Ja Ra
    refine WQ_icmp_gt 84 dX6_allow_33 rfl (fun c3661 => ?_) (fun c3661 => ?_)
    · refine WQ_iconst (0) (0) dX6_allow_84 rfl rfl (fun v3663 hv3663 => ?_)
      exact WP_sub (fc rfl (fc rfl (fc rfl (fc rfl (fc rfl (fc rfl (fc rfl fn))))))) (jn85_3657 v3663 (by omega) (by omega))
    · refine WP_iload dX6_allow_36 rfl ?_
      refine WP_iload dX6_allow_38 rfl ?_
      refine WQ_iadd dX6_allow_40 (by omega) (by omega) (fun v3664 hv3664 => ?_)
      refine WP_aload_n dX6_allow_41 rfl ?_
      refine WQ_geti dX6_allow_42 fX6_36 rfl (lyx_is hy 44 6 rfl) (BT_get hI.1 44 1 2 (0) (0) (3) (by decide) 1 (by decide) (by decide)) (fun v3665 ev3665 av3665 bv3665 => ?_)
      refine WQ_icmp_gt 84 dX6_allow_45 rfl (fun c3665 => ?_) (fun c3665 => ?_)
      · refine WQ_iconst (0) (0) dX6_allow_84 rfl rfl (fun v3667 hv3667 => ?_)
        exact WP_sub (fc rfl (fc rfl (fc rfl (fc rfl (fc rfl (fc rfl (fc rfl fn))))))) (jn85_3657 v3667 (by omega) (by omega))
      · refine WP_iload dX6_allow_48 rfl ?_
        refine WP_aload_n dX6_allow_50 rfl ?_
        refine WQ_geti dX6_allow_51 fX6_57 rfl (lyx_is hy 44 6 rfl) (BT_get hI.1 44 6 7 (0) (0) (2) (by decide) 6 (by decide) (by decide)) (fun v3668 ev3668 av3668 bv3668 => ?_)
        refine WQ_icmp_gt 84 dX6_allow_54 rfl (fun c3668 => ?_) (fun c3668 => ?_)
        · refine WQ_iconst (0) (0) dX6_allow_84 rfl rfl (fun v3670 hv3670 => ?_)
          exact WP_sub (fc rfl (fc rfl (fc rfl (fc rfl (fc rfl (fc rfl (fc rfl fn))))))) (jn85_3657 v3670 (by omega) (by omega))
        · refine WP_iload_n dX6_allow_57 rfl ?_
          refine WP_iload dX6_allow_58 rfl ?_
          refine WQ_isub dX6_allow_60 (by omega) (by omega) (fun v3671 hv3671 => ?_)
          refine WP_iload dX6_allow_61 rfl ?_
          refine WQ_iadd dX6_allow_63 (by omega) (by omega) (fun v3672 hv3672 => ?_)
          refine WQ_iconst (5) (5) dX6_allow_64 rfl rfl (fun v3673 hv3673 => ?_)
          refine WQ_icmp_gt 84 dX6_allow_65 rfl (fun c3673 => ?_) (fun c3673 => ?_)
          · refine WQ_iconst (0) (0) dX6_allow_84 rfl rfl (fun v3675 hv3675 => ?_)
            exact WP_sub (fc rfl (fc rfl (fc rfl (fc rfl (fc rfl (fc rfl (fc rfl fn))))))) (jn85_3657 v3675 (by omega) (by omega))
          · refine WP_aload_n dX6_allow_68 rfl ?_
            refine WP_iload dX6_allow_69 rfl ?_
            refine WP_iload dX6_allow_71 rfl ?_
            refine WP_callV2 (k := 6) dX6_allow_73 ⟨⟨⟨by decide, by decide⟩, zX6_priceOf⟩, lX6_74, by decide, rfl, vX6_priceOf.1, vX6_priceOf.2⟩ (lyx_is hy 44 6 rfl) (sx_priceOf_44 hy hr hI v3629 v3635 (by omega) (by omega) (by omega) (by omega)) (Nat.le_of_ble_eq_true rfl) ?_
            intro r Ia Ja Ra hq
            obtain ⟨⟨ea, eb, ec⟩, v3676, rfl, av3676, bv3676⟩ := hq
            show WP _ _ _ _ (.int _ :: _) _ _ _ _
            rw [ea, eb, ec]
            clear ea eb ec Ia Ja Ra
            refine WP_iload_n dX6_allow_76 rfl ?_
            refine WQ_icmp_gt 84 dX6_allow_77 rfl (fun c3676 => ?_) (fun c3676 => ?_)
            · refine WQ_iconst (0) (0) dX6_allow_84 rfl rfl (fun v3678 hv3678 => ?_)
              exact WP_sub (fc rfl (fc rfl (fc rfl (fc rfl (fc rfl (fc rfl (fc rfl fn))))))) (jn85_3657 v3678 (by omega) (by omega))
            · refine WQ_iconst (1) (1) dX6_allow_80 rfl rfl (fun v3679 hv3679 => ?_)
              refine WP_goto 85 dX6_allow_81 rfl ?_
              exact WP_sub (fc rfl (fc rfl (fc rfl (fc rfl (fc rfl (fc rfl (fc rfl fn))))))) (jn85_3657 v3679 (by omega) (by omega))
set_option maxHeartbeats 4000000 in
set_option maxRecDepth 100000 in
theorem sx_allow_50 {g : GG} {n : Int} {L : Int32} (hy : LyX g)  {I : pI} {J : pJ} {R : pR} (hr : RfX g R) (hI : XI g n L I) (co : Int32) (st : Int32) (ac : Int32) (co_lo : 0 ≤ co.toInt) (co_hi : co.toInt ≤ 60) (st_lo : 0 ≤ st.toInt) (st_hi : st.toInt ≤ 5) (ac_lo : 0 ≤ ac.toInt) (ac_hi : ac.toInt ≤ 47) : SP g mX6_allow [.ref (ad g 50), .int co, .int st, .int ac] I J R (fun r I' J' R' => (I' = I ∧ J' = J ∧ R' = R) ∧ ∃ v : Int32, r = some (.int v) ∧ 0 ≤ v.toInt ∧ v.toInt ≤ 1) := by
  refine SP_of ⟨by decide, rfl⟩ (Nat.le_of_ble_eq_true rfl) ?_
  have e3680 : I (ad g 1) 1 = L := hI.2
  have b3681 := BT_get hI.1 1 1 2 (0) (0) (900) (by decide) 1 (by decide) (by decide)
  rw [e3680] at b3681
  refine WP_iload_n dX6_allow_0 rfl ?_
  refine WQ_iconst (3) (3) dX6_allow_1 rfl rfl (fun v3682 hv3682 => ?_)
  refine WQ_iand3 dX6_allow_2 hv3682 (by omega) (by omega) (fun v3683 hv3683 => ?_)
  refine WP_istore (ls' := [(0, _), (1, _), (2, _), (3, _), (4, _)]) dX6_allow_3 (by decide) rfl ?_
  refine WP_iload_n dX6_allow_5 rfl ?_
  refine WQ_iconst (2) (2) dX6_allow_6 rfl rfl (fun v3684 hv3684 => ?_)
  refine WQ_ishr2 dX6_allow_7 hv3684 (by omega) (by omega) (fun v3685 hv3685 => ?_)
  refine WQ_iconst (3) (3) dX6_allow_8 rfl rfl (fun v3686 hv3686 => ?_)
  refine WQ_iand3 dX6_allow_9 hv3686 (by omega) (by omega) (fun v3687 hv3687 => ?_)
  refine WP_istore (ls' := [(0, _), (1, _), (2, _), (3, _), (4, _), (5, _)]) dX6_allow_10 (by decide) rfl ?_
  refine WP_iload_n dX6_allow_12 rfl ?_
  refine WQ_iconst (4) (4) dX6_allow_13 rfl rfl (fun v3688 hv3688 => ?_)
  refine WQ_ishr4 dX6_allow_14 hv3688 (by omega) (by omega) (fun v3689 hv3689 => ?_)
  refine WP_istore (ls' := [(0, _), (1, _), (2, _), (3, _), (4, _), (5, _), (6, _)]) dX6_allow_15 (by decide) rfl ?_
  refine WP_iload dX6_allow_17 rfl ?_
  refine WP_aload_n dX6_allow_19 rfl ?_
  refine WQ_geti dX6_allow_20 fX6_54 rfl (lyx_is hy 50 6 rfl) (BT_get hI.1 50 5 6 (0) (0) (3) (by decide) 5 (by decide) (by decide)) (fun v3690 ev3690 av3690 bv3690 => ?_)
  have jn85_3711 : ∀ (v3711 : Int32), 0 ≤ v3711.toInt → v3711.toInt ≤ 1 → WP g mX6_allow 85 [(0, .ref (ad g 50)), (1, .int co), (2, .int st), (3, .int ac), (4, .int v3683), (5, .int v3687), (6, .int v3689)] [.int v3711] I J R (fun r I' J' R' => (I' = I ∧ J' = J ∧ R' = R) ∧ ∃ v : Int32, r = some (.int v) ∧ 0 ≤ v.toInt ∧ v.toInt ≤ 1) := by
    intro v3711 av3711 bv3711
    exact WP_zret dX6_allow_85 rfl (nar_z (by omega)) ⟨⟨rfl, rfl, rfl⟩, _, rfl, by omega, by omega⟩
  refine WQ_icmp_gt 84 dX6_allow_23 rfl (fun c3712 => ?_) (fun c3712 => ?_)
  · refine WQ_iconst (0) (0) dX6_allow_84 rfl rfl (fun v3714 hv3714 => ?_)
    exact WP_sub (fc rfl (fc rfl (fc rfl (fc rfl (fc rfl (fc rfl (fc rfl fn))))))) (jn85_3711 v3714 (by omega) (by omega))
  · refine WP_iload dX6_allow_26 rfl ?_
    refine WP_aload_n dX6_allow_28 rfl ?_
    refine WP_iload_n dX6_allow_29 rfl ?_
    refine WP_callV1 (k := 6) dX6_allow_30 ⟨⟨⟨by decide, by decide⟩, zX6_mostFromStore⟩, lX6_70, by decide, rfl, vX6_mostFromStore.1, vX6_mostFromStore.2⟩ (lyx_is hy 50 6 rfl) (sx_mostFromStore_50 hy hr hI st (by omega) (by omega)) (Nat.le_of_ble_eq_true rfl) ?_
    intro r Ia Ja Ra hq
    obtain ⟨⟨ea, eb, ec⟩, v3715, rfl, av3715, bv3715, cv3715⟩ := hq
    show WP _ _ _ _ (.int _ :: _) _ _ _ _
    rw [ea, eb, ec]
    clear ea eb ec Ia Ja Ra
    refine WQ_icmp_gt 84 dX6_allow_33 rfl (fun c3715 => ?_) (fun c3715 => ?_)
    · refine WQ_iconst (0) (0) dX6_allow_84 rfl rfl (fun v3717 hv3717 => ?_)
      exact WP_sub (fc rfl (fc rfl (fc rfl (fc rfl (fc rfl (fc rfl (fc rfl fn))))))) (jn85_3711 v3717 (by omega) (by omega))
    · refine WP_iload dX6_allow_36 rfl ?_
      refine WP_iload dX6_allow_38 rfl ?_
      refine WQ_iadd dX6_allow_40 (by omega) (by omega) (fun v3718 hv3718 => ?_)
      refine WP_aload_n dX6_allow_41 rfl ?_
      refine WQ_geti dX6_allow_42 fX6_36 rfl (lyx_is hy 50 6 rfl) (BT_get hI.1 50 1 2 (0) (0) (3) (by decide) 1 (by decide) (by decide)) (fun v3719 ev3719 av3719 bv3719 => ?_)
      refine WQ_icmp_gt 84 dX6_allow_45 rfl (fun c3719 => ?_) (fun c3719 => ?_)
      · refine WQ_iconst (0) (0) dX6_allow_84 rfl rfl (fun v3721 hv3721 => ?_)
        exact WP_sub (fc rfl (fc rfl (fc rfl (fc rfl (fc rfl (fc rfl (fc rfl fn))))))) (jn85_3711 v3721 (by omega) (by omega))
      · refine WP_iload dX6_allow_48 rfl ?_
        refine WP_aload_n dX6_allow_50 rfl ?_
        refine WQ_geti dX6_allow_51 fX6_57 rfl (lyx_is hy 50 6 rfl) (BT_get hI.1 50 6 7 (0) (0) (2) (by decide) 6 (by decide) (by decide)) (fun v3722 ev3722 av3722 bv3722 => ?_)
        refine WQ_icmp_gt 84 dX6_allow_54 rfl (fun c3722 => ?_) (fun c3722 => ?_)
        · refine WQ_iconst (0) (0) dX6_allow_84 rfl rfl (fun v3724 hv3724 => ?_)
          exact WP_sub (fc rfl (fc rfl (fc rfl (fc rfl (fc rfl (fc rfl (fc rfl fn))))))) (jn85_3711 v3724 (by omega) (by omega))
        · refine WP_iload_n dX6_allow_57 rfl ?_
          refine WP_iload dX6_allow_58 rfl ?_
          refine WQ_isub dX6_allow_60 (by omega) (by omega) (fun v3725 hv3725 => ?_)
          refine WP_iload dX6_allow_61 rfl ?_
          refine WQ_iadd dX6_allow_63 (by omega) (by omega) (fun v3726 hv3726 => ?_)
          refine WQ_iconst (5) (5) dX6_allow_64 rfl rfl (fun v3727 hv3727 => ?_)
          refine WQ_icmp_gt 84 dX6_allow_65 rfl (fun c3727 => ?_) (fun c3727 => ?_)
          · refine WQ_iconst (0) (0) dX6_allow_84 rfl rfl (fun v3729 hv3729 => ?_)
            exact WP_sub (fc rfl (fc rfl (fc rfl (fc rfl (fc rfl (fc rfl (fc rfl fn))))))) (jn85_3711 v3729 (by omega) (by omega))
          · refine WP_aload_n dX6_allow_68 rfl ?_
            refine WP_iload dX6_allow_69 rfl ?_
            refine WP_iload dX6_allow_71 rfl ?_
            refine WP_callV2 (k := 6) dX6_allow_73 ⟨⟨⟨by decide, by decide⟩, zX6_priceOf⟩, lX6_74, by decide, rfl, vX6_priceOf.1, vX6_priceOf.2⟩ (lyx_is hy 50 6 rfl) (sx_priceOf_50 hy hr hI v3683 v3689 (by omega) (by omega) (by omega) (by omega)) (Nat.le_of_ble_eq_true rfl) ?_
            intro r Ia Ja Ra hq
            obtain ⟨⟨ea, eb, ec⟩, v3730, rfl, av3730, bv3730⟩ := hq
            show WP _ _ _ _ (.int _ :: _) _ _ _ _
            rw [ea, eb, ec]
            clear ea eb ec Ia Ja Ra
            refine WP_iload_n dX6_allow_76 rfl ?_
            refine WQ_icmp_gt 84 dX6_allow_77 rfl (fun c3730 => ?_) (fun c3730 => ?_)
            · refine WQ_iconst (0) (0) dX6_allow_84 rfl rfl (fun v3732 hv3732 => ?_)
              exact WP_sub (fc rfl (fc rfl (fc rfl (fc rfl (fc rfl (fc rfl (fc rfl fn))))))) (jn85_3711 v3732 (by omega) (by omega))
            · refine WQ_iconst (1) (1) dX6_allow_80 rfl rfl (fun v3733 hv3733 => ?_)
              refine WP_goto 85 dX6_allow_81 rfl ?_
              exact WP_sub (fc rfl (fc rfl (fc rfl (fc rfl (fc rfl (fc rfl (fc rfl fn))))))) (jn85_3711 v3733 (by omega) (by omega))
set_option maxHeartbeats 4000000 in
set_option maxRecDepth 100000 in
theorem sx_may_6 {g : GG} {n : Int} {L : Int32} (hy : LyX g)  {I : pI} {J : pJ} {R : pR} (hr : RfX g R) (hT : R (ad g 5) 0 = some (ad g 6)) (hI : XI g n L I) (a : Int32) (b : Int32) (c : Int32) (e : Int32) (f : Int32)  : SP g mX10_may [.ref (ad g 0), .int a, .int b, .int c, .int e, .int f] I J R (fun r I' J' R' => (XI g n L I' ∧ R' = R) ∧ ∃ v : Int32, r = some (.int v)) := by
  refine SP_of ⟨by decide, rfl⟩ (Nat.le_of_ble_eq_true rfl) ?_
  have e3734 : I (ad g 1) 1 = L := hI.2
  have b3735 := BT_get hI.1 1 1 2 (0) (0) (900) (by decide) 1 (by decide) (by decide)
  rw [e3734] at b3735
  refine WP_aload_n dX10_may_0 rfl ?_
  refine WP_iload_n dX10_may_1 rfl ?_
  refine WP_iload_n dX10_may_2 rfl ?_
  refine WP_iload_n dX10_may_3 rfl ?_
  refine WP_iload dX10_may_4 rfl ?_
  refine WP_callV4 (k := 10) dX10_may_6 ⟨⟨⟨by decide, by decide⟩, zX10_isPerson⟩, lX10_188, by decide, rfl, vX10_isPerson.1, vX10_isPerson.2⟩ (lyx_is hy 0 10 rfl) (sx_isPerson_6 hy hr hT hI a b c e    ) (Nat.le_of_ble_eq_true rfl) ?_
  intro r Ia Ja Ra hq
  obtain ⟨⟨ea, eb, ec⟩, v3736, rfl, av3736, bv3736, cv3736⟩ := hq
  show WP _ _ _ _ (.int _ :: _) _ _ _ _
  rw [ea, eb, ec]
  clear ea eb ec Ia Ja Ra
  refine WQ_if_eq 24 dX10_may_9 rfl (fun c3736 => ?_) (fun c3736 => ?_)
  · refine WQ_bipush (-2) (-2) dX10_may_24 rfl rfl (fun v3738 hv3738 => ?_)
    exact WP_iret dX10_may_26 rfl ⟨⟨hI, rfl⟩, _, rfl⟩
  · refine WP_iload dX10_may_12 rfl ?_
    refine WQ_if_lt 24 dX10_may_14 rfl (fun c3738 => ?_) (fun c3738 => ?_)
    · refine WQ_bipush (-2) (-2) dX10_may_24 rfl rfl (fun v3740 hv3740 => ?_)
      exact WP_iret dX10_may_26 rfl ⟨⟨hI, rfl⟩, _, rfl⟩
    · refine WP_iload dX10_may_17 rfl ?_
      refine WQ_bipush (48) (48) dX10_may_19 rfl rfl (fun v3741 hv3741 => ?_)
      refine WQ_icmp_lt 27 dX10_may_21 rfl (fun c3741 => ?_) (fun c3741 => ?_)
      · refine WP_aload_n dX10_may_27 rfl ?_
        refine WP_getr dX10_may_28 fX10_55 rfl (lyx_is hy 0 10 rfl) (rfx hr 0 4 49 (by decide)) ?_
        refine WP_getr dX10_may_31 fX10_192 rfl (lyx_is hy 49 9 rfl) (rfx hr 49 0 50 (by decide)) ?_
        refine WP_astore (ls' := [(0, _), (1, _), (2, _), (3, _), (4, _), (5, _), (6, _)]) dX10_may_34 (by decide) rfl ?_
        refine WP_aload dX10_may_36 rfl ?_
        refine WP_aload_n dX10_may_38 rfl ?_
        refine WP_getr dX10_may_39 fX10_33 rfl (lyx_is hy 0 10 rfl) (rfx hr 0 2 5 (by decide)) ?_
        refine WP_iload_n dX10_may_42 rfl ?_
        refine WP_iload_n dX10_may_43 rfl ?_
        refine WP_callV3 (k := 6) dX10_may_44 ⟨⟨⟨by decide, by decide⟩, zX6_load⟩, lX10_196, by decide, rfl, vX6_load.1, vX6_load.2⟩ (lyx_is hy 50 6 rfl) (sx_load_50_6 hy hr hT hI a b (by omega) (by omega) (by omega) (by omega)) (Nat.le_of_ble_eq_true rfl) ?_
        intro r I3743 J3744 Ra hq
        obtain ⟨⟨hI3743, ec⟩, rfl⟩ := hq
        rw [ec]
        clear ec Ra
        have e3745 : I3743 (ad g 1) 1 = L := hI3743.2
        have b3746 := BT_get hI3743.1 1 1 2 (0) (0) (900) (by decide) 1 (by decide) (by decide)
        rw [e3745] at b3746
        refine WP_aload dX10_may_47 rfl ?_
        refine WP_iload_n dX10_may_49 rfl ?_
        refine WP_iload dX10_may_50 rfl ?_
        refine WP_iload dX10_may_52 rfl ?_
        refine WP_callV3 (k := 6) dX10_may_54 ⟨⟨⟨by decide, by decide⟩, zX6_allow⟩, lX10_202, by decide, rfl, vX6_allow.1, vX6_allow.2⟩ (lyx_is hy 50 6 rfl) (sx_allow_50 hy hr hI3743 c e f (by omega) (by omega) (by omega) (by omega) (by omega) (by omega)) (Nat.le_of_ble_eq_true rfl) ?_
        intro r Ia Ja Ra hq
        obtain ⟨⟨ea, eb, ec⟩, v3747, rfl, av3747, bv3747⟩ := hq
        show WP _ _ _ _ (.int _ :: _) _ _ _ _
        rw [ea, eb, ec]
        clear ea eb ec Ia Ja Ra
        have jn65_3750 : ∀ (v3750 : Int32), 0 ≤ v3750.toInt → v3750.toInt ≤ 1 → WP g mX10_may 65 [(0, .ref (ad g 0)), (1, .int a), (2, .int b), (3, .int c), (4, .int e), (5, .int f), (6, .ref (ad g 50))] [.int v3750] I3743 J3744 R (fun r I' J' R' => (XI g n L I' ∧ R' = R) ∧ ∃ v : Int32, r = some (.int v)) := by
          intro v3750 av3750 bv3750
          exact WP_iret dX10_may_65 rfl ⟨⟨hI3743, rfl⟩, _, rfl⟩
        refine WQ_if_eq 64 dX10_may_57 rfl (fun c3751 => ?_) (fun c3751 => ?_)
        · refine WQ_iconst (0) (0) dX10_may_64 rfl rfl (fun v3753 hv3753 => ?_)
          exact WP_sub (fc rfl (fc rfl (fc rfl (fc rfl (fc rfl (fc rfl (fc rfl fn))))))) (jn65_3750 v3753 (by omega) (by omega))
        · refine WQ_iconst (1) (1) dX10_may_60 rfl rfl (fun v3754 hv3754 => ?_)
          refine WP_goto 65 dX10_may_61 rfl ?_
          exact WP_sub (fc rfl (fc rfl (fc rfl (fc rfl (fc rfl (fc rfl (fc rfl fn))))))) (jn65_3750 v3754 (by omega) (by omega))
      · refine WQ_bipush (-2) (-2) dX10_may_24 rfl rfl (fun v3755 hv3755 => ?_)
        exact WP_iret dX10_may_26 rfl ⟨⟨hI, rfl⟩, _, rfl⟩
set_option maxHeartbeats 4000000 in
set_option maxRecDepth 100000 in
theorem sx_may_27 {g : GG} {n : Int} {L : Int32} (hy : LyX g)  {I : pI} {J : pJ} {R : pR} (hr : RfX g R) (hT : R (ad g 5) 0 = some (ad g 27)) (hI : XI g n L I) (a : Int32) (b : Int32) (c : Int32) (e : Int32) (f : Int32)  : SP g mX10_may [.ref (ad g 0), .int a, .int b, .int c, .int e, .int f] I J R (fun r I' J' R' => (XI g n L I' ∧ R' = R) ∧ ∃ v : Int32, r = some (.int v)) := by
  refine SP_of ⟨by decide, rfl⟩ (Nat.le_of_ble_eq_true rfl) ?_
  have e3756 : I (ad g 1) 1 = L := hI.2
  have b3757 := BT_get hI.1 1 1 2 (0) (0) (900) (by decide) 1 (by decide) (by decide)
  rw [e3756] at b3757
  refine WP_aload_n dX10_may_0 rfl ?_
  refine WP_iload_n dX10_may_1 rfl ?_
  refine WP_iload_n dX10_may_2 rfl ?_
  refine WP_iload_n dX10_may_3 rfl ?_
  refine WP_iload dX10_may_4 rfl ?_
  refine WP_callV4 (k := 10) dX10_may_6 ⟨⟨⟨by decide, by decide⟩, zX10_isPerson⟩, lX10_188, by decide, rfl, vX10_isPerson.1, vX10_isPerson.2⟩ (lyx_is hy 0 10 rfl) (sx_isPerson_27 hy hr hT hI a b c e    ) (Nat.le_of_ble_eq_true rfl) ?_
  intro r Ia Ja Ra hq
  obtain ⟨⟨ea, eb, ec⟩, v3758, rfl, av3758, bv3758, cv3758⟩ := hq
  show WP _ _ _ _ (.int _ :: _) _ _ _ _
  rw [ea, eb, ec]
  clear ea eb ec Ia Ja Ra
  refine WQ_if_eq 24 dX10_may_9 rfl (fun c3758 => ?_) (fun c3758 => ?_)
  · refine WQ_bipush (-2) (-2) dX10_may_24 rfl rfl (fun v3760 hv3760 => ?_)
    exact WP_iret dX10_may_26 rfl ⟨⟨hI, rfl⟩, _, rfl⟩
  · refine WP_iload dX10_may_12 rfl ?_
    refine WQ_if_lt 24 dX10_may_14 rfl (fun c3760 => ?_) (fun c3760 => ?_)
    · refine WQ_bipush (-2) (-2) dX10_may_24 rfl rfl (fun v3762 hv3762 => ?_)
      exact WP_iret dX10_may_26 rfl ⟨⟨hI, rfl⟩, _, rfl⟩
    · refine WP_iload dX10_may_17 rfl ?_
      refine WQ_bipush (48) (48) dX10_may_19 rfl rfl (fun v3763 hv3763 => ?_)
      refine WQ_icmp_lt 27 dX10_may_21 rfl (fun c3763 => ?_) (fun c3763 => ?_)
      · refine WP_aload_n dX10_may_27 rfl ?_
        refine WP_getr dX10_may_28 fX10_55 rfl (lyx_is hy 0 10 rfl) (rfx hr 0 4 49 (by decide)) ?_
        refine WP_getr dX10_may_31 fX10_192 rfl (lyx_is hy 49 9 rfl) (rfx hr 49 0 50 (by decide)) ?_
        refine WP_astore (ls' := [(0, _), (1, _), (2, _), (3, _), (4, _), (5, _), (6, _)]) dX10_may_34 (by decide) rfl ?_
        refine WP_aload dX10_may_36 rfl ?_
        refine WP_aload_n dX10_may_38 rfl ?_
        refine WP_getr dX10_may_39 fX10_33 rfl (lyx_is hy 0 10 rfl) (rfx hr 0 2 5 (by decide)) ?_
        refine WP_iload_n dX10_may_42 rfl ?_
        refine WP_iload_n dX10_may_43 rfl ?_
        refine WP_callV3 (k := 6) dX10_may_44 ⟨⟨⟨by decide, by decide⟩, zX6_load⟩, lX10_196, by decide, rfl, vX6_load.1, vX6_load.2⟩ (lyx_is hy 50 6 rfl) (sx_load_50_27 hy hr hT hI a b (by omega) (by omega) (by omega) (by omega)) (Nat.le_of_ble_eq_true rfl) ?_
        intro r I3765 J3766 Ra hq
        obtain ⟨⟨hI3765, ec⟩, rfl⟩ := hq
        rw [ec]
        clear ec Ra
        have e3767 : I3765 (ad g 1) 1 = L := hI3765.2
        have b3768 := BT_get hI3765.1 1 1 2 (0) (0) (900) (by decide) 1 (by decide) (by decide)
        rw [e3767] at b3768
        refine WP_aload dX10_may_47 rfl ?_
        refine WP_iload_n dX10_may_49 rfl ?_
        refine WP_iload dX10_may_50 rfl ?_
        refine WP_iload dX10_may_52 rfl ?_
        refine WP_callV3 (k := 6) dX10_may_54 ⟨⟨⟨by decide, by decide⟩, zX6_allow⟩, lX10_202, by decide, rfl, vX6_allow.1, vX6_allow.2⟩ (lyx_is hy 50 6 rfl) (sx_allow_50 hy hr hI3765 c e f (by omega) (by omega) (by omega) (by omega) (by omega) (by omega)) (Nat.le_of_ble_eq_true rfl) ?_
        intro r Ia Ja Ra hq
        obtain ⟨⟨ea, eb, ec⟩, v3769, rfl, av3769, bv3769⟩ := hq
        show WP _ _ _ _ (.int _ :: _) _ _ _ _
        rw [ea, eb, ec]
        clear ea eb ec Ia Ja Ra
        have jn65_3772 : ∀ (v3772 : Int32), 0 ≤ v3772.toInt → v3772.toInt ≤ 1 → WP g mX10_may 65 [(0, .ref (ad g 0)), (1, .int a), (2, .int b), (3, .int c), (4, .int e), (5, .int f), (6, .ref (ad g 50))] [.int v3772] I3765 J3766 R (fun r I' J' R' => (XI g n L I' ∧ R' = R) ∧ ∃ v : Int32, r = some (.int v)) := by
          intro v3772 av3772 bv3772
          exact WP_iret dX10_may_65 rfl ⟨⟨hI3765, rfl⟩, _, rfl⟩
        refine WQ_if_eq 64 dX10_may_57 rfl (fun c3773 => ?_) (fun c3773 => ?_)
        · refine WQ_iconst (0) (0) dX10_may_64 rfl rfl (fun v3775 hv3775 => ?_)
          exact WP_sub (fc rfl (fc rfl (fc rfl (fc rfl (fc rfl (fc rfl (fc rfl fn))))))) (jn65_3772 v3775 (by omega) (by omega))
        · refine WQ_iconst (1) (1) dX10_may_60 rfl rfl (fun v3776 hv3776 => ?_)
          refine WP_goto 65 dX10_may_61 rfl ?_
          exact WP_sub (fc rfl (fc rfl (fc rfl (fc rfl (fc rfl (fc rfl (fc rfl fn))))))) (jn65_3772 v3776 (by omega) (by omega))
      · refine WQ_bipush (-2) (-2) dX10_may_24 rfl rfl (fun v3777 hv3777 => ?_)
        exact WP_iret dX10_may_26 rfl ⟨⟨hI, rfl⟩, _, rfl⟩
set_option maxHeartbeats 4000000 in
set_option maxRecDepth 100000 in
theorem sx_takenAt {g : GG} {n : Int} {L : Int32} (hy : LyX g)  {I : pI} {J : pJ} {R : pR} (hr : RfX g R) (hI : XI g n L I) (p : Int32) (q : Int32) (p_lo : 0 ≤ p.toInt) (p_hi : p.toInt ≤ 100) (q_lo : 0 ≤ q.toInt) (q_hi : q.toInt ≤ 100) : SP g mX8_takenAt [.ref (ad g 69), .int p, .int q] I J R (fun r I' J' R' => (XI g n L I' ∧ R' = R) ∧ r = none) := by
  refine SP_of ⟨by decide, rfl⟩ (Nat.le_of_ble_eq_true rfl) ?_
  have e3778 : I (ad g 1) 1 = L := hI.2
  have b3779 := BT_get hI.1 1 1 2 (0) (0) (900) (by decide) 1 (by decide) (by decide)
  rw [e3778] at b3779
  refine WP_aload_n dX8_takenAt_0 rfl ?_
  refine WP_iload_n dX8_takenAt_1 rfl ?_
  refine WQ_puti dX8_takenAt_2 fX8_19 rfl rfl (lyx_is hy 69 8 rfl) (fun I3780 eI3780 => ?_)
  have hI3780 : XI g n L I3780 := by rw [eI3780]; exact (xi_f0 hy hI (c := 69) (by decide) (Or.inl (by decide)) (by decide))
  have e3781 : I3780 (ad g 1) 1 = L := by rw [eI3780, pp_ne _ _ (Or.inl (lyx_ne hy (by decide) (by decide) (by decide)))]; exact e3778
  have e3782 : I3780 (ad g 69) 0 = p := by rw [eI3780, pp_self]
  clear eI3780
  refine WP_aload_n dX8_takenAt_5 rfl ?_
  refine WP_iload_n dX8_takenAt_6 rfl ?_
  refine WQ_puti dX8_takenAt_7 fX8_22 rfl rfl (lyx_is hy 69 8 rfl) (fun I3783 eI3783 => ?_)
  have hI3783 : XI g n L I3783 := by rw [eI3783]; exact (xi_f0 hy hI3780 (c := 69) (by decide) (Or.inl (by decide)) (by decide))
  have e3784 : I3783 (ad g 1) 1 = L := by rw [eI3783, pp_ne _ _ (Or.inl (lyx_ne hy (by decide) (by decide) (by decide)))]; exact e3781
  have e3785 : I3783 (ad g 69) 0 = p := by rw [eI3783, pp_ne _ _ (Or.inr (by decide))]; exact e3782
  have e3786 : I3783 (ad g 69) 1 = q := by rw [eI3783, pp_self]
  clear eI3783
  exact WP_vret dX8_takenAt_10 rfl ⟨⟨hI3783, rfl⟩, rfl⟩
set_option maxHeartbeats 4000000 in
set_option maxRecDepth 100000 in
theorem sx_losesOn {g : GG} {n : Int} {L : Int32} (hy : LyX g)  {I : pI} {J : pJ} {R : pR} (hr : RfX g R) (hI : XI g n L I) (da : Int32) (r : Int32) (da_lo : 0 ≤ da.toInt) (da_hi : da.toInt ≤ 20) (r_lo : 1 ≤ r.toInt) (r_hi : r.toInt ≤ 20) : SP g mX8_losesOn [.int da, .int r] I J R (fun r I' J' R' => (I' = I ∧ J' = J ∧ R' = R) ∧ ∃ v : Int32, r = some (.int v) ∧ 0 ≤ v.toInt ∧ v.toInt ≤ 1) := by
  refine SP_of ⟨by decide, rfl⟩ (Nat.le_of_ble_eq_true rfl) ?_
  have e3787 : I (ad g 1) 1 = L := hI.2
  have b3788 := BT_get hI.1 1 1 2 (0) (0) (900) (by decide) 1 (by decide) (by decide)
  rw [e3787] at b3788
  refine WP_iload_n dX8_losesOn_0 rfl ?_
  have jn15_3792 : ∀ (v3792 : Int32), 0 ≤ v3792.toInt → v3792.toInt ≤ 1 → WP g mX8_losesOn 15 [(0, .int da), (1, .int r)] [.int v3792] I J R (fun r I' J' R' => (I' = I ∧ J' = J ∧ R' = R) ∧ ∃ v : Int32, r = some (.int v) ∧ 0 ≤ v.toInt ∧ v.toInt ≤ 1) := by
    intro v3792 av3792 bv3792
    exact WP_iret dX8_losesOn_15 rfl ⟨⟨rfl, rfl, rfl⟩, _, rfl, by omega, by omega⟩
  refine WQ_if_le 14 dX8_losesOn_1 rfl (fun c3793 => False.elim (by omega)) (fun c3793 => ?_)
  refine WP_iload_n dX8_losesOn_4 rfl ?_
  refine WP_iload_n dX8_losesOn_5 rfl ?_
  refine WQ_iremu dX8_losesOn_6 (by omega) (fun v3795 => ?_)
  refine WX_if_ne 14 dX8_losesOn_7 rfl ?_ ?_
  · refine WQ_iconst (0) (0) dX8_losesOn_14 rfl rfl (fun v3796 hv3796 => ?_)
    exact WP_sub (fc rfl (fc rfl fn)) (jn15_3792 v3796 (by omega) (by omega))
  · refine WQ_iconst (1) (1) dX8_losesOn_10 rfl rfl (fun v3797 hv3797 => ?_)
    refine WP_goto 15 dX8_losesOn_11 rfl ?_
    exact WP_sub (fc rfl (fc rfl fn)) (jn15_3792 v3797 (by omega) (by omega))
set_option maxHeartbeats 4000000 in
set_option maxRecDepth 100000 in
theorem sx_mean {g : GG} {n : Int} {L : Int32} (hy : LyX g)  {I : pI} {J : pJ} {R : pR} (hr : RfX g R) (hI : XI g n L I) (ta : Int32) (y : Int32) (z : Int32)  : SP g mX8_mean [.int ta, .int y, .int z] I J R (fun r I' J' R' => (I' = I ∧ J' = J ∧ R' = R) ∧ ∃ v : Int32, r = some (.int v)) := by
  refine SP_of ⟨by decide, rfl⟩ (Nat.le_of_ble_eq_true rfl) ?_
  have e3798 : I (ad g 1) 1 = L := hI.2
  have b3799 := BT_get hI.1 1 1 2 (0) (0) (900) (by decide) 1 (by decide) (by decide)
  rw [e3798] at b3799
  refine WP_iload_n dX8_mean_0 rfl ?_
  refine WQ_sipush (1000) (1000) dX8_mean_1 rfl rfl (fun v3800 hv3800 => ?_)
  refine WP_iload_n dX8_mean_4 rfl ?_
  refine WQ_iaddu dX8_mean_5 (fun v3801 => ?_)
  refine WQ_imulu dX8_mean_6 (fun v3802 => ?_)
  refine WQ_bipush (100) (100) dX8_mean_7 rfl rfl (fun v3803 hv3803 => ?_)
  refine WP_iload_n dX8_mean_9 rfl ?_
  refine WQ_isubu dX8_mean_10 (fun v3804 => ?_)
  refine WP_iload_n dX8_mean_11 rfl ?_
  refine WQ_imulu dX8_mean_12 (fun v3805 => ?_)
  refine WQ_iaddu dX8_mean_13 (fun v3806 => ?_)
  refine WQ_bipush (100) (100) dX8_mean_14 rfl rfl (fun v3807 hv3807 => ?_)
  refine WQ_idivu dX8_mean_16 (by omega) (fun v3808 => ?_)
  exact WP_iret dX8_mean_17 rfl ⟨⟨rfl, rfl, rfl⟩, _, rfl⟩
set_option maxHeartbeats 4000000 in
set_option maxRecDepth 100000 in
theorem sx_behind {g : GG} {n : Int} {L : Int32} (hy : LyX g)  {I : pI} {J : pJ} {R : pR} (hr : RfX g R) (hI : XI g n L I) (a : Int32) (b : Int32) (a_lo : 0 ≤ a.toInt) (a_hi : a.toInt ≤ 9) (b_lo : 0 ≤ b.toInt) (b_hi : b.toInt ≤ 9) : SP g mX8_behind [.ref (ad g 69), .int a, .int b] I J R (fun r I' J' R' => (I' = I ∧ J' = J ∧ R' = R) ∧ ∃ v : Int32, r = some (.int v)) := by
  refine SP_of ⟨by decide, rfl⟩ (Nat.le_of_ble_eq_true rfl) ?_
  have e3809 : I (ad g 1) 1 = L := hI.2
  have b3810 := BT_get hI.1 1 1 2 (0) (0) (900) (by decide) 1 (by decide) (by decide)
  rw [e3809] at b3810
  refine WP_aload_n dX8_behind_0 rfl ?_
  refine WP_getr dX8_behind_1 fX8_9 rfl (lyx_is hy 69 8 rfl) (rfx hr 69 3 70 (by decide)) ?_
  refine WQ_iconst (0) (0) dX8_behind_4 rfl rfl (fun v3811 hv3811 => ?_)
  refine WP_iload_n dX8_behind_5 rfl ?_
  refine WP_aload_n dX8_behind_6 rfl ?_
  refine WQ_geti dX8_behind_7 fX8_15 rfl (lyx_is hy 69 8 rfl) (BT_get hI.1 69 2 3 (0) (0) (1) (by decide) 2 (by decide) (by decide)) (fun v3812 ev3812 av3812 bv3812 => ?_)
  refine WQ_isub dX8_behind_10 (by omega) (by omega) (fun v3813 hv3813 => ?_)
  refine WQ_max dX8_behind_11 lX8_41 ⟨by decide, Nat.le_of_ble_eq_true rfl⟩ (fun v3814 av3814 bv3814 cv3814 => ?_)
  refine WQ_bipush (10) (10) dX8_behind_14 rfl rfl (fun v3815 hv3815 => ?_)
  refine WQ_imulk (10) dX8_behind_16 hv3815 (by omega) (by omega) (fun v3816 hv3816 => ?_)
  refine WP_iload_n dX8_behind_17 rfl ?_
  refine WQ_iadd dX8_behind_18 (by omega) (by omega) (fun v3817 hv3817 => ?_)
  refine WQ_ialdu dX8_behind_19 (lyx_is hy 70 13 rfl) (lyx_n hy 70 100 rfl) (by omega) (by omega) (fun v3818 => ?_)
  exact WP_iret dX8_behind_20 rfl ⟨⟨rfl, rfl, rfl⟩, _, rfl⟩
set_option maxHeartbeats 4000000 in
set_option maxRecDepth 100000 in
theorem sx_offeringNote {g : GG} {n : Int} {L : Int32} (hy : LyX g)  {I : pI} {J : pJ} {R : pR} (hr : RfX g R) (hI : XI g n L I) (a : Int32) (b : Int32) (a_lo : 0 ≤ a.toInt) (a_hi : a.toInt ≤ 9) (b_lo : 0 ≤ b.toInt) (b_hi : b.toInt ≤ 9) : SP g mX8_offeringNote [.ref (ad g 69), .int a, .int b] I J R (fun r I' J' R' => (I' = I ∧ J' = J ∧ R' = R) ∧ ∃ v : Int32, r = some (.int v)) := by
  refine SP_of ⟨by decide, rfl⟩ (Nat.le_of_ble_eq_true rfl) ?_
  have e3819 : I (ad g 1) 1 = L := hI.2
  have b3820 := BT_get hI.1 1 1 2 (0) (0) (900) (by decide) 1 (by decide) (by decide)
  rw [e3819] at b3820
  refine WP_iload_n dX8_offeringNote_0 rfl ?_
  refine WQ_iconst (1) (1) dX8_offeringNote_1 rfl rfl (fun v3821 hv3821 => ?_)
  have jn30_3829 : ∀ (v3829 : Int32), WP g mX8_offeringNote 30 [(0, .ref (ad g 69)), (1, .int a), (2, .int b)] [.int v3829] I J R (fun r I' J' R' => (I' = I ∧ J' = J ∧ R' = R) ∧ ∃ v : Int32, r = some (.int v)) := by
    intro v3829 
    exact WP_iret dX8_offeringNote_30 rfl ⟨⟨rfl, rfl, rfl⟩, _, rfl⟩
  refine WQ_icmp_ge 9 dX8_offeringNote_2 rfl (fun c3830 => ?_) (fun c3830 => ?_)
  · refine WP_aload_n dX8_offeringNote_9 rfl ?_
    refine WQ_getiu dX8_offeringNote_10 fX8_19 rfl (lyx_is hy 69 8 rfl) (fun v3832 ev3832 => ?_)
    refine WP_aload_n dX8_offeringNote_13 rfl ?_
    refine WP_iload_n dX8_offeringNote_14 rfl ?_
    refine WQ_iconst (1) (1) dX8_offeringNote_15 rfl rfl (fun v3833 hv3833 => ?_)
    refine WQ_isub dX8_offeringNote_16 (by omega) (by omega) (fun v3834 hv3834 => ?_)
    refine WP_iload_n dX8_offeringNote_17 rfl ?_
    refine WP_callV2 (k := 8) dX8_offeringNote_18 ⟨⟨⟨by decide, by decide⟩, zX8_behind⟩, lX8_46, by decide, rfl, vX8_behind.1, vX8_behind.2⟩ (lyx_is hy 69 8 rfl) (sx_behind hy hr hI v3834 b (by omega) (by omega) (by omega) (by omega)) (Nat.le_of_ble_eq_true rfl) ?_
    intro r Ia Ja Ra hq
    obtain ⟨⟨ea, eb, ec⟩, v3835, rfl⟩ := hq
    show WP _ _ _ _ (.int _ :: _) _ _ _ _
    rw [ea, eb, ec]
    clear ea eb ec Ia Ja Ra
    refine WP_aload_n dX8_offeringNote_21 rfl ?_
    refine WP_iload_n dX8_offeringNote_22 rfl ?_
    refine WP_iload_n dX8_offeringNote_23 rfl ?_
    refine WP_callV2 (k := 8) dX8_offeringNote_24 ⟨⟨⟨by decide, by decide⟩, zX8_behind⟩, lX8_46, by decide, rfl, vX8_behind.1, vX8_behind.2⟩ (lyx_is hy 69 8 rfl) (sx_behind hy hr hI a b (by omega) (by omega) (by omega) (by omega)) (Nat.le_of_ble_eq_true rfl) ?_
    intro r Ia Ja Ra hq
    obtain ⟨⟨ea, eb, ec⟩, v3836, rfl⟩ := hq
    show WP _ _ _ _ (.int _ :: _) _ _ _ _
    rw [ea, eb, ec]
    clear ea eb ec Ia Ja Ra
    refine WP_callS3 dX8_offeringNote_27 ⟨⟨⟨by decide, by decide⟩, zX8_mean⟩, lX8_49, tX8_mean⟩ (sx_mean hy hr hI v3832 v3835 v3836   ) (Nat.le_of_ble_eq_true rfl) ?_
    intro r Ia Ja Ra hq
    obtain ⟨⟨ea, eb, ec⟩, v3837, rfl⟩ := hq
    show WP _ _ _ _ (.int _ :: _) _ _ _ _
    rw [ea, eb, ec]
    clear ea eb ec Ia Ja Ra
    exact WP_sub (fc rfl (fc rfl (fc rfl fn))) (jn30_3829 v3837)
  · refine WQ_iconst (-1) (-1) dX8_offeringNote_5 rfl rfl (fun v3838 hv3838 => ?_)
    refine WP_goto 30 dX8_offeringNote_6 rfl ?_
    exact WP_sub (fc rfl (fc rfl (fc rfl fn))) (jn30_3829 v3838)
set_option maxHeartbeats 4000000 in
set_option maxRecDepth 100000 in
theorem sx_offeringOther {g : GG} {n : Int} {L : Int32} (hy : LyX g)  {I : pI} {J : pJ} {R : pR} (hr : RfX g R) (hI : XI g n L I) (a : Int32) (b : Int32) (a_lo : 0 ≤ a.toInt) (a_hi : a.toInt ≤ 9) (b_lo : 0 ≤ b.toInt) (b_hi : b.toInt ≤ 9) : SP g mX8_offeringOther [.ref (ad g 69), .int a, .int b] I J R (fun r I' J' R' => (I' = I ∧ J' = J ∧ R' = R) ∧ ∃ v : Int32, r = some (.int v)) := by
  refine SP_of ⟨by decide, rfl⟩ (Nat.le_of_ble_eq_true rfl) ?_
  have e3839 : I (ad g 1) 1 = L := hI.2
  have b3840 := BT_get hI.1 1 1 2 (0) (0) (900) (by decide) 1 (by decide) (by decide)
  rw [e3839] at b3840
  refine WP_iload_n dX8_offeringOther_0 rfl ?_
  refine WQ_iconst (1) (1) dX8_offeringOther_1 rfl rfl (fun v3841 hv3841 => ?_)
  have jn30_3849 : ∀ (v3849 : Int32), WP g mX8_offeringOther 30 [(0, .ref (ad g 69)), (1, .int a), (2, .int b)] [.int v3849] I J R (fun r I' J' R' => (I' = I ∧ J' = J ∧ R' = R) ∧ ∃ v : Int32, r = some (.int v)) := by
    intro v3849 
    exact WP_iret dX8_offeringOther_30 rfl ⟨⟨rfl, rfl, rfl⟩, _, rfl⟩
  refine WQ_icmp_ge 9 dX8_offeringOther_2 rfl (fun c3850 => ?_) (fun c3850 => ?_)
  · refine WP_aload_n dX8_offeringOther_9 rfl ?_
    refine WQ_getiu dX8_offeringOther_10 fX8_22 rfl (lyx_is hy 69 8 rfl) (fun v3852 ev3852 => ?_)
    refine WP_aload_n dX8_offeringOther_13 rfl ?_
    refine WP_iload_n dX8_offeringOther_14 rfl ?_
    refine WP_iload_n dX8_offeringOther_15 rfl ?_
    refine WQ_iconst (1) (1) dX8_offeringOther_16 rfl rfl (fun v3853 hv3853 => ?_)
    refine WQ_isub dX8_offeringOther_17 (by omega) (by omega) (fun v3854 hv3854 => ?_)
    refine WP_callV2 (k := 8) dX8_offeringOther_18 ⟨⟨⟨by decide, by decide⟩, zX8_behind⟩, lX8_46, by decide, rfl, vX8_behind.1, vX8_behind.2⟩ (lyx_is hy 69 8 rfl) (sx_behind hy hr hI a v3854 (by omega) (by omega) (by omega) (by omega)) (Nat.le_of_ble_eq_true rfl) ?_
    intro r Ia Ja Ra hq
    obtain ⟨⟨ea, eb, ec⟩, v3855, rfl⟩ := hq
    show WP _ _ _ _ (.int _ :: _) _ _ _ _
    rw [ea, eb, ec]
    clear ea eb ec Ia Ja Ra
    refine WP_aload_n dX8_offeringOther_21 rfl ?_
    refine WP_iload_n dX8_offeringOther_22 rfl ?_
    refine WP_iload_n dX8_offeringOther_23 rfl ?_
    refine WP_callV2 (k := 8) dX8_offeringOther_24 ⟨⟨⟨by decide, by decide⟩, zX8_behind⟩, lX8_46, by decide, rfl, vX8_behind.1, vX8_behind.2⟩ (lyx_is hy 69 8 rfl) (sx_behind hy hr hI a b (by omega) (by omega) (by omega) (by omega)) (Nat.le_of_ble_eq_true rfl) ?_
    intro r Ia Ja Ra hq
    obtain ⟨⟨ea, eb, ec⟩, v3856, rfl⟩ := hq
    show WP _ _ _ _ (.int _ :: _) _ _ _ _
    rw [ea, eb, ec]
    clear ea eb ec Ia Ja Ra
    refine WP_callS3 dX8_offeringOther_27 ⟨⟨⟨by decide, by decide⟩, zX8_mean⟩, lX8_49, tX8_mean⟩ (sx_mean hy hr hI v3852 v3855 v3856   ) (Nat.le_of_ble_eq_true rfl) ?_
    intro r Ia Ja Ra hq
    obtain ⟨⟨ea, eb, ec⟩, v3857, rfl⟩ := hq
    show WP _ _ _ _ (.int _ :: _) _ _ _ _
    rw [ea, eb, ec]
    clear ea eb ec Ia Ja Ra
    exact WP_sub (fc rfl (fc rfl (fc rfl fn))) (jn30_3849 v3857)
  · refine WQ_iconst (-1) (-1) dX8_offeringOther_5 rfl rfl (fun v3858 hv3858 => ?_)
    refine WP_goto 30 dX8_offeringOther_6 rfl ?_
    exact WP_sub (fc rfl (fc rfl (fc rfl fn))) (jn30_3849 v3858)
set_option maxHeartbeats 4000000 in
set_option maxRecDepth 100000 in
theorem sx_lookBack {g : GG} {n : Int} {L : Int32} (hy : LyX g)  {I : pI} {J : pJ} {R : pR} (hr : RfX g R) (hI : XI g n L I) (a : Int32) (b : Int32) (nn : Int32) (r : Int32) (a_lo : 0 ≤ a.toInt) (a_hi : a.toInt ≤ 9) (b_lo : 0 ≤ b.toInt) (b_hi : b.toInt ≤ 9) (nn_lo : 0 ≤ nn.toInt) (nn_hi : nn.toInt ≤ 20) (r_lo : 1 ≤ r.toInt) (r_hi : r.toInt ≤ 20) : SP g mX8_lookBack [.ref (ad g 69), .int a, .int b, .int nn, .int r] I J R (fun r I' J' R' => (XI g n L I' ∧ R' = R) ∧ r = none) := by
  refine SP_of ⟨by decide, rfl⟩ (Nat.le_of_ble_eq_true rfl) ?_
  have e3859 : I (ad g 1) 1 = L := hI.2
  have b3860 := BT_get hI.1 1 1 2 (0) (0) (900) (by decide) 1 (by decide) (by decide)
  rw [e3859] at b3860
  refine WP_aload_n dX8_lookBack_0 rfl ?_
  refine WP_getr dX8_lookBack_1 fX8_9 rfl (lyx_is hy 69 8 rfl) (rfx hr 69 3 70 (by decide)) ?_
  refine WQ_iconst (0) (0) dX8_lookBack_4 rfl rfl (fun v3861 hv3861 => ?_)
  refine WP_callS2u dX8_lookBack_5 ⟨⟨⟨by decide, by decide⟩, zJ7_fill_53178⟩, lX8_25, tJ7_fill_53178⟩ (s_fill hy hr 70 100 rfl rfl (by decide) v3861) (Nat.le_of_ble_eq_true rfl) ?_
  obtain ⟨I3862, eI3862⟩ : ∃ I9 : pI, I9 = fi I (ad g 70) 100 v3861 := ⟨_, rfl⟩
  rw [← eI3862]
  have hI3862 : XI g n L I3862 := by rw [eI3862]; exact (xi_fill0 hy hI 70 100 v3861 (by decide) (by decide))
  have e3863 : I3862 (ad g 1) 1 = L := by rw [eI3862, fi_off (lyx_ne hy (by decide) (by decide) (by decide))]; exact e3859
  clear eI3862
  refine WQ_iconst (1) (1) dX8_lookBack_8 rfl rfl (fun v3864 hv3864 => ?_)
  refine WP_istore (ls' := [(0, _), (1, _), (2, _), (3, _), (4, _), (5, _)]) dX8_lookBack_9 (by decide) rfl ?_
  have lp11_3867 : ∀ (mz : Nat) (i3865 : Int32) (I3866 : pI) (J3867 : pJ), XI g n L I3866 → 1 ≤ i3865.toInt → i3865.toInt ≤ 20 → (21 - i3865.toInt).toNat < mz → WP g mX8_lookBack 11 [(0, .ref (ad g 69)), (1, .int a), (2, .int b), (3, .int nn), (4, .int r), (5, .int i3865)] [] I3866 J3867 R (fun r I' J' R' => (XI g n L I' ∧ R' = R) ∧ r = none) := by
    intro mz
    induction mz with
    | zero =>
      intro i3865 I3866 J3867 hI3866 ai3865 bi3865 hmlp11_3867
      exact absurd hmlp11_3867 (Nat.not_lt_zero _)
    | succ mz ihlp11_3867 =>
      intro i3865 I3866 J3867 hI3866 ai3865 bi3865 hmlp11_3867
      have e3869 : I3866 (ad g 1) 1 = L := hI3866.2
      have b3870 := BT_get hI3866.1 1 1 2 (0) (0) (900) (by decide) 1 (by decide) (by decide)
      rw [e3869] at b3870
      refine WP_iload dX8_lookBack_11 rfl ?_
      refine WP_iload_n dX8_lookBack_13 rfl ?_
      refine WQ_icmp_ge 102 dX8_lookBack_14 rfl (fun c3870 => ?_) (fun c3870 => ?_)
      · refine WP_aload_n dX8_lookBack_102 rfl ?_
        refine WP_iload_n dX8_lookBack_103 rfl ?_
        refine WP_iload dX8_lookBack_104 rfl ?_
        refine WP_callS2 dX8_lookBack_106 ⟨⟨⟨by decide, by decide⟩, zX8_losesOn⟩, lX8_31, tX8_losesOn⟩ (sx_losesOn hy hr hI3866 nn r (by omega) (by omega) (by omega) (by omega)) (Nat.le_of_ble_eq_true rfl) ?_
        intro r Ia Ja Ra hq
        obtain ⟨⟨ea, eb, ec⟩, v3872, rfl, av3872, bv3872⟩ := hq
        show WP _ _ _ _ (.int _ :: _) _ _ _ _
        rw [ea, eb, ec]
        clear ea eb ec Ia Ja Ra
        refine WQ_puti dX8_lookBack_109 fX8_15 rfl rfl (lyx_is hy 69 8 rfl) (fun I3873 eI3873 => ?_)
        have hI3873 : XI g n L I3873 := by rw [eI3873]; exact (xi_f hy hI3866 (c := 69) (0) (0) (1) (by decide) (Or.inl (by decide)) (by decide) (by omega) (by omega))
        have e3874 : I3873 (ad g 1) 1 = L := by rw [eI3873, pp_ne _ _ (Or.inl (lyx_ne hy (by decide) (by decide) (by decide)))]; exact e3869
        have e3875 : I3873 (ad g 69) 2 = v3872 := by rw [eI3873, pp_self]
        clear eI3873
        exact WP_vret dX8_lookBack_112 rfl ⟨⟨hI3873, rfl⟩, rfl⟩
      · refine WP_aload_n dX8_lookBack_17 rfl ?_
        refine WP_iload dX8_lookBack_18 rfl ?_
        refine WP_iload dX8_lookBack_20 rfl ?_
        refine WP_callS2 dX8_lookBack_22 ⟨⟨⟨by decide, by decide⟩, zX8_losesOn⟩, lX8_31, tX8_losesOn⟩ (sx_losesOn hy hr hI3866 i3865 r (by omega) (by omega) (by omega) (by omega)) (Nat.le_of_ble_eq_true rfl) ?_
        intro r Ia Ja Ra hq
        obtain ⟨⟨ea, eb, ec⟩, v3876, rfl, av3876, bv3876⟩ := hq
        show WP _ _ _ _ (.int _ :: _) _ _ _ _
        rw [ea, eb, ec]
        clear ea eb ec Ia Ja Ra
        refine WQ_puti dX8_lookBack_25 fX8_15 rfl rfl (lyx_is hy 69 8 rfl) (fun I3877 eI3877 => ?_)
        have hI3877 : XI g n L I3877 := by rw [eI3877]; exact (xi_f hy hI3866 (c := 69) (0) (0) (1) (by decide) (Or.inl (by decide)) (by decide) (by omega) (by omega))
        have e3878 : I3877 (ad g 1) 1 = L := by rw [eI3877, pp_ne _ _ (Or.inl (lyx_ne hy (by decide) (by decide) (by decide)))]; exact e3869
        have e3879 : I3877 (ad g 69) 2 = v3876 := by rw [eI3877, pp_self]
        clear eI3877
        refine WP_iload_n dX8_lookBack_28 rfl ?_
        refine WP_istore (ls' := [(0, _), (1, _), (2, _), (3, _), (4, _), (5, _), (6, _)]) dX8_lookBack_29 (by decide) rfl ?_
        have lp31_3882 : ∀ (mz : Nat) (i3880 : Int32) (I3881 : pI) (J3882 : pJ), XI g n L I3881 → -1 ≤ i3880.toInt → i3880.toInt ≤ 9 → (i3880.toInt + 1).toNat < mz → WP g mX8_lookBack 31 [(0, .ref (ad g 69)), (1, .int a), (2, .int b), (3, .int nn), (4, .int r), (5, .int i3865), (6, .int i3880)] [] I3881 J3882 R (fun r I' J' R' => (XI g n L I' ∧ R' = R) ∧ r = none) := by
          intro mz
          induction mz with
          | zero =>
            intro i3880 I3881 J3882 hI3881 ai3880 bi3880 hmlp31_3882
            exact absurd hmlp31_3882 (Nat.not_lt_zero _)
          | succ mz ihlp31_3882 =>
            intro i3880 I3881 J3882 hI3881 ai3880 bi3880 hmlp31_3882
            have e3884 : I3881 (ad g 1) 1 = L := hI3881.2
            have b3885 := BT_get hI3881.1 1 1 2 (0) (0) (900) (by decide) 1 (by decide) (by decide)
            rw [e3884] at b3885
            refine WP_iload dX8_lookBack_31 rfl ?_
            refine WQ_if_lt 96 dX8_lookBack_33 rfl (fun c3885 => ?_) (fun c3885 => ?_)
            · refine WP_iinc (ls' := [(0, _), (1, _), (2, _), (3, _), (4, _), (5, _), (6, _)]) dX8_lookBack_96 rfl (by decide) rfl ?_
              have hv3887 : (i3865 + Int32.ofInt (1)).toInt = i3865.toInt + (1) := ia_n rfl (by omega) (by omega)
              generalize i3865 + Int32.ofInt (1) = v3887 at hv3887 ⊢
              refine WP_goto 11 dX8_lookBack_99 rfl ?_
              exact WP_sub (fc rfl (fc rfl (fc rfl (fc rfl (fc rfl (fc rfl fn)))))) (ihlp11_3867 v3887 I3881 J3882 hI3881 (by omega) (by omega) (by omega))
            · refine WP_iload_n dX8_lookBack_36 rfl ?_
              refine WP_istore (ls' := [(0, _), (1, _), (2, _), (3, _), (4, _), (5, _), (6, _), (7, _)]) dX8_lookBack_37 (by decide) rfl ?_
              have lp39_3890 : ∀ (mz : Nat) (i3888 : Int32) (I3889 : pI) (J3890 : pJ), XI g n L I3889 → -1 ≤ i3888.toInt → i3888.toInt ≤ 9 → (i3888.toInt + 1).toNat < mz → WP g mX8_lookBack 39 [(0, .ref (ad g 69)), (1, .int a), (2, .int b), (3, .int nn), (4, .int r), (5, .int i3865), (6, .int i3880), (7, .int i3888)] [] I3889 J3890 R (fun r I' J' R' => (XI g n L I' ∧ R' = R) ∧ r = none) := by
                intro mz
                induction mz with
                | zero =>
                  intro i3888 I3889 J3890 hI3889 ai3888 bi3888 hmlp39_3890
                  exact absurd hmlp39_3890 (Nat.not_lt_zero _)
                | succ mz ihlp39_3890 =>
                  intro i3888 I3889 J3890 hI3889 ai3888 bi3888 hmlp39_3890
                  have e3892 : I3889 (ad g 1) 1 = L := hI3889.2
                  have b3893 := BT_get hI3889.1 1 1 2 (0) (0) (900) (by decide) 1 (by decide) (by decide)
                  rw [e3892] at b3893
                  refine WP_iload dX8_lookBack_39 rfl ?_
                  refine WQ_if_lt 90 dX8_lookBack_41 rfl (fun c3893 => ?_) (fun c3893 => ?_)
                  · refine WP_iinc (ls' := [(0, _), (1, _), (2, _), (3, _), (4, _), (5, _), (6, _), (7, _)]) dX8_lookBack_90 rfl (by decide) rfl ?_
                    have hv3895 : (i3880 + Int32.ofInt (-1)).toInt = i3880.toInt + (-1) := ia_n rfl (by omega) (by omega)
                    generalize i3880 + Int32.ofInt (-1) = v3895 at hv3895 ⊢
                    refine WP_goto 31 dX8_lookBack_93 rfl ?_
                    exact WP_sub (fc rfl (fc rfl (fc rfl (fc rfl (fc rfl (fc rfl (fc rfl fn))))))) (ihlp31_3882 v3895 I3889 J3890 hI3889 (by omega) (by omega) (by omega))
                  · refine WP_aload_n dX8_lookBack_44 rfl ?_
                    refine WP_iload dX8_lookBack_45 rfl ?_
                    refine WP_iload dX8_lookBack_47 rfl ?_
                    refine WP_callV2 (k := 8) dX8_lookBack_49 ⟨⟨⟨by decide, by decide⟩, zX8_offeringNote⟩, lX8_35, by decide, rfl, vX8_offeringNote.1, vX8_offeringNote.2⟩ (lyx_is hy 69 8 rfl) (sx_offeringNote hy hr hI3889 i3880 i3888 (by omega) (by omega) (by omega) (by omega)) (Nat.le_of_ble_eq_true rfl) ?_
                    intro r Ia Ja Ra hq
                    obtain ⟨⟨ea, eb, ec⟩, v3896, rfl⟩ := hq
                    show WP _ _ _ _ (.int _ :: _) _ _ _ _
                    rw [ea, eb, ec]
                    clear ea eb ec Ia Ja Ra
                    refine WP_aload_n dX8_lookBack_52 rfl ?_
                    refine WP_iload dX8_lookBack_53 rfl ?_
                    refine WP_iload dX8_lookBack_55 rfl ?_
                    refine WP_callV2 (k := 8) dX8_lookBack_57 ⟨⟨⟨by decide, by decide⟩, zX8_offeringOther⟩, lX8_38, by decide, rfl, vX8_offeringOther.1, vX8_offeringOther.2⟩ (lyx_is hy 69 8 rfl) (sx_offeringOther hy hr hI3889 i3880 i3888 (by omega) (by omega) (by omega) (by omega)) (Nat.le_of_ble_eq_true rfl) ?_
                    intro r Ia Ja Ra hq
                    obtain ⟨⟨ea, eb, ec⟩, v3897, rfl⟩ := hq
                    show WP _ _ _ _ (.int _ :: _) _ _ _ _
                    rw [ea, eb, ec]
                    clear ea eb ec Ia Ja Ra
                    refine WQ_max dX8_lookBack_60 lX8_41 ⟨by decide, Nat.le_of_ble_eq_true rfl⟩ (fun v3898 av3898 bv3898 cv3898 => ?_)
                    refine WP_istore (ls' := [(0, _), (1, _), (2, _), (3, _), (4, _), (5, _), (6, _), (7, _), (8, _)]) dX8_lookBack_63 (by decide) rfl ?_
                    refine WP_aload_n dX8_lookBack_65 rfl ?_
                    refine WP_getr dX8_lookBack_66 fX8_9 rfl (lyx_is hy 69 8 rfl) (rfx hr 69 3 70 (by decide)) ?_
                    refine WP_iload dX8_lookBack_69 rfl ?_
                    refine WQ_bipush (10) (10) dX8_lookBack_71 rfl rfl (fun v3899 hv3899 => ?_)
                    refine WQ_imulk (10) dX8_lookBack_73 hv3899 (by omega) (by omega) (fun v3900 hv3900 => ?_)
                    refine WP_iload dX8_lookBack_74 rfl ?_
                    refine WQ_iadd dX8_lookBack_76 (by omega) (by omega) (fun v3901 hv3901 => ?_)
                    refine WQ_iconst (0) (0) dX8_lookBack_77 rfl rfl (fun v3902 hv3902 => ?_)
                    refine WP_iload dX8_lookBack_78 rfl ?_
                    refine WQ_max dX8_lookBack_80 lX8_41 ⟨by decide, Nat.le_of_ble_eq_true rfl⟩ (fun v3903 av3903 bv3903 cv3903 => ?_)
                    refine WQ_iast dX8_lookBack_83 (lyx_is hy 70 13 rfl) (lyx_n hy 70 100 rfl) (by omega) (by omega) (fun I3904 eI3904 => ?_)
                    have hI3904 : XI g n L I3904 := by rw [eI3904]; exact (xi_r0 hy hI3889 (c := 70) (by decide) (Or.inl (by decide)) (by decide))
                    have e3905 : I3904 (ad g 1) 1 = L := by rw [eI3904, pp_ne _ _ (Or.inl (lyx_ne hy (by decide) (by decide) (by decide)))]; exact e3892
                    clear eI3904
                    refine WP_iinc (ls' := [(0, _), (1, _), (2, _), (3, _), (4, _), (5, _), (6, _), (7, _), (8, _)]) dX8_lookBack_84 rfl (by decide) rfl ?_
                    have hv3906 : (i3888 + Int32.ofInt (-1)).toInt = i3888.toInt + (-1) := ia_n rfl (by omega) (by omega)
                    generalize i3888 + Int32.ofInt (-1) = v3906 at hv3906 ⊢
                    refine WP_goto 39 dX8_lookBack_87 rfl ?_
                    exact WP_sub (fc rfl (fc rfl (fc rfl (fc rfl (fc rfl (fc rfl (fc rfl (fc rfl fn)))))))) (ihlp39_3890 v3906 I3904 J3890 hI3904 (by omega) (by omega) (by omega))
              exact WP_sub (fc rfl (fc rfl (fc rfl (fc rfl (fc rfl (fc rfl (fc rfl (fc rfl fn)))))))) (lp39_3890 _ b I3881 J3882 hI3881 (by omega) (by omega) (Nat.lt_succ_self _))
        exact WP_sub (fc rfl (fc rfl (fc rfl (fc rfl (fc rfl (fc rfl (fc rfl fn))))))) (lp31_3882 _ a I3877 J3867 hI3877 (by omega) (by omega) (Nat.lt_succ_self _))
  exact WP_sub (fc rfl (fc rfl (fc rfl (fc rfl (fc rfl (fc rfl fn)))))) (lp11_3867 _ v3864 I3862 J hI3862 (by omega) (by omega) (Nat.lt_succ_self _))
set_option maxHeartbeats 4000000 in
set_option maxRecDepth 100000 in
theorem sx_two {g : GG} {n : Int} {L : Int32} (hy : LyX g)  {I : pI} {J : pJ} {R : pR} (hr : RfX g R) (hI : XI g n L I) (a : Int32) (b : Int32) (p : Int32) (q : Int32) (nn : Int32) (r : Int32) (wh : Int32)  : SP g mX10_two [.ref (ad g 0), .int a, .int b, .int p, .int q, .int nn, .int r, .int wh] I J R (fun r I' J' R' => (XI g n L I' ∧ R' = R) ∧ ∃ v : Int32, r = some (.int v)) := by
  refine SP_of ⟨by decide, rfl⟩ (Nat.le_of_ble_eq_true rfl) ?_
  have e3907 : I (ad g 1) 1 = L := hI.2
  have b3908 := BT_get hI.1 1 1 2 (0) (0) (900) (by decide) 1 (by decide) (by decide)
  rw [e3907] at b3908
  refine WP_iload_n dX10_two_0 rfl ?_
  refine WQ_iconst (0) (0) dX10_two_1 rfl rfl (fun v3909 hv3909 => ?_)
  refine WQ_bipush (9) (9) dX10_two_2 rfl rfl (fun v3910 hv3910 => ?_)
  refine WP_callS3 dX10_two_4 ⟨⟨⟨by decide, by decide⟩, zX10_within⟩, lX10_206, tX10_within⟩ (sx_within hy hr hI a v3909 v3910   ) (Nat.le_of_ble_eq_true rfl) ?_
  intro r Ia Ja Ra hq
  obtain ⟨⟨ea, eb, ec⟩, v3911, rfl, av3911, bv3911, cv3911⟩ := hq
  show WP _ _ _ _ (.int _ :: _) _ _ _ _
  rw [ea, eb, ec]
  clear ea eb ec Ia Ja Ra
  refine WQ_if_eq 41 dX10_two_7 rfl (fun c3911 => ?_) (fun c3911 => ?_)
  · refine WQ_bipush (-2) (-2) dX10_two_41 rfl rfl (fun v3913 hv3913 => ?_)
    exact WP_iret dX10_two_43 rfl ⟨⟨hI, rfl⟩, _, rfl⟩
  · refine WP_iload_n dX10_two_10 rfl ?_
    refine WQ_iconst (0) (0) dX10_two_11 rfl rfl (fun v3914 hv3914 => ?_)
    refine WQ_bipush (9) (9) dX10_two_12 rfl rfl (fun v3915 hv3915 => ?_)
    refine WP_callS3 dX10_two_14 ⟨⟨⟨by decide, by decide⟩, zX10_within⟩, lX10_206, tX10_within⟩ (sx_within hy hr hI b v3914 v3915   ) (Nat.le_of_ble_eq_true rfl) ?_
    intro r Ia Ja Ra hq
    obtain ⟨⟨ea, eb, ec⟩, v3916, rfl, av3916, bv3916, cv3916⟩ := hq
    show WP _ _ _ _ (.int _ :: _) _ _ _ _
    rw [ea, eb, ec]
    clear ea eb ec Ia Ja Ra
    refine WQ_if_eq 41 dX10_two_17 rfl (fun c3916 => ?_) (fun c3916 => ?_)
    · refine WQ_bipush (-2) (-2) dX10_two_41 rfl rfl (fun v3918 hv3918 => ?_)
      exact WP_iret dX10_two_43 rfl ⟨⟨hI, rfl⟩, _, rfl⟩
    · refine WP_iload_n dX10_two_20 rfl ?_
      refine WQ_iconst (0) (0) dX10_two_21 rfl rfl (fun v3919 hv3919 => ?_)
      refine WQ_bipush (100) (100) dX10_two_22 rfl rfl (fun v3920 hv3920 => ?_)
      refine WP_callS3 dX10_two_24 ⟨⟨⟨by decide, by decide⟩, zX10_within⟩, lX10_206, tX10_within⟩ (sx_within hy hr hI p v3919 v3920   ) (Nat.le_of_ble_eq_true rfl) ?_
      intro r Ia Ja Ra hq
      obtain ⟨⟨ea, eb, ec⟩, v3921, rfl, av3921, bv3921, cv3921⟩ := hq
      show WP _ _ _ _ (.int _ :: _) _ _ _ _
      rw [ea, eb, ec]
      clear ea eb ec Ia Ja Ra
      refine WQ_if_eq 41 dX10_two_27 rfl (fun c3921 => ?_) (fun c3921 => ?_)
      · refine WQ_bipush (-2) (-2) dX10_two_41 rfl rfl (fun v3923 hv3923 => ?_)
        exact WP_iret dX10_two_43 rfl ⟨⟨hI, rfl⟩, _, rfl⟩
      · refine WP_iload dX10_two_30 rfl ?_
        refine WQ_iconst (0) (0) dX10_two_32 rfl rfl (fun v3924 hv3924 => ?_)
        refine WQ_bipush (100) (100) dX10_two_33 rfl rfl (fun v3925 hv3925 => ?_)
        refine WP_callS3 dX10_two_35 ⟨⟨⟨by decide, by decide⟩, zX10_within⟩, lX10_206, tX10_within⟩ (sx_within hy hr hI q v3924 v3925   ) (Nat.le_of_ble_eq_true rfl) ?_
        intro r Ia Ja Ra hq
        obtain ⟨⟨ea, eb, ec⟩, v3926, rfl, av3926, bv3926, cv3926⟩ := hq
        show WP _ _ _ _ (.int _ :: _) _ _ _ _
        rw [ea, eb, ec]
        clear ea eb ec Ia Ja Ra
        refine WQ_if_ne 44 dX10_two_38 rfl (fun c3926 => ?_) (fun c3926 => ?_)
        · refine WP_iload dX10_two_44 rfl ?_
          refine WQ_iconst (0) (0) dX10_two_46 rfl rfl (fun v3928 hv3928 => ?_)
          refine WQ_bipush (20) (20) dX10_two_47 rfl rfl (fun v3929 hv3929 => ?_)
          refine WP_callS3 dX10_two_49 ⟨⟨⟨by decide, by decide⟩, zX10_within⟩, lX10_206, tX10_within⟩ (sx_within hy hr hI nn v3928 v3929   ) (Nat.le_of_ble_eq_true rfl) ?_
          intro r Ia Ja Ra hq
          obtain ⟨⟨ea, eb, ec⟩, v3930, rfl, av3930, bv3930, cv3930⟩ := hq
          show WP _ _ _ _ (.int _ :: _) _ _ _ _
          rw [ea, eb, ec]
          clear ea eb ec Ia Ja Ra
          refine WQ_if_eq 76 dX10_two_52 rfl (fun c3930 => ?_) (fun c3930 => ?_)
          · refine WQ_bipush (-2) (-2) dX10_two_76 rfl rfl (fun v3932 hv3932 => ?_)
            exact WP_iret dX10_two_78 rfl ⟨⟨hI, rfl⟩, _, rfl⟩
          · refine WP_iload dX10_two_55 rfl ?_
            refine WQ_iconst (1) (1) dX10_two_57 rfl rfl (fun v3933 hv3933 => ?_)
            refine WQ_bipush (20) (20) dX10_two_58 rfl rfl (fun v3934 hv3934 => ?_)
            refine WP_callS3 dX10_two_60 ⟨⟨⟨by decide, by decide⟩, zX10_within⟩, lX10_206, tX10_within⟩ (sx_within hy hr hI r v3933 v3934   ) (Nat.le_of_ble_eq_true rfl) ?_
            intro r Ia Ja Ra hq
            obtain ⟨⟨ea, eb, ec⟩, v3935, rfl, av3935, bv3935, cv3935⟩ := hq
            show WP _ _ _ _ (.int _ :: _) _ _ _ _
            rw [ea, eb, ec]
            clear ea eb ec Ia Ja Ra
            refine WQ_if_eq 76 dX10_two_63 rfl (fun c3935 => ?_) (fun c3935 => ?_)
            · refine WQ_bipush (-2) (-2) dX10_two_76 rfl rfl (fun v3937 hv3937 => ?_)
              exact WP_iret dX10_two_78 rfl ⟨⟨hI, rfl⟩, _, rfl⟩
            · refine WP_iload dX10_two_66 rfl ?_
              refine WQ_iconst (0) (0) dX10_two_68 rfl rfl (fun v3938 hv3938 => ?_)
              refine WQ_iconst (1) (1) dX10_two_69 rfl rfl (fun v3939 hv3939 => ?_)
              refine WP_callS3 dX10_two_70 ⟨⟨⟨by decide, by decide⟩, zX10_within⟩, lX10_206, tX10_within⟩ (sx_within hy hr hI wh v3938 v3939   ) (Nat.le_of_ble_eq_true rfl) ?_
              intro r Ia Ja Ra hq
              obtain ⟨⟨ea, eb, ec⟩, v3940, rfl, av3940, bv3940, cv3940⟩ := hq
              show WP _ _ _ _ (.int _ :: _) _ _ _ _
              rw [ea, eb, ec]
              clear ea eb ec Ia Ja Ra
              refine WQ_if_ne 79 dX10_two_73 rfl (fun c3940 => ?_) (fun c3940 => ?_)
              · refine WP_iload dX10_two_79 rfl ?_
                refine WQ_if_eq 90 dX10_two_81 rfl (fun c3941 => ?_) (fun c3941 => ?_)
                · refine WP_iload dX10_two_90 rfl ?_
                  have jn100_3945 : ∀ (v3945 : Int32), -1 ≤ v3945.toInt → v3945.toInt ≤ 0 → WP g mX10_two 100 [(0, .ref (ad g 0)), (1, .int a), (2, .int b), (3, .int p), (4, .int q), (5, .int nn), (6, .int r), (7, .int wh)] [.int v3945] I J R (fun r I' J' R' => (XI g n L I' ∧ R' = R) ∧ ∃ v : Int32, r = some (.int v)) := by
                    intro v3945 av3945 bv3945
                    exact WP_iret dX10_two_100 rfl ⟨⟨hI, rfl⟩, _, rfl⟩
                  refine WQ_if_ne 99 dX10_two_92 rfl (fun c3946 => ?_) (fun c3946 => ?_)
                  · refine WQ_iconst (-1) (-1) dX10_two_99 rfl rfl (fun v3948 hv3948 => ?_)
                    exact WP_sub (fc rfl (fc rfl (fc rfl (fc rfl (fc rfl (fc rfl (fc rfl (fc rfl fn)))))))) (jn100_3945 v3948 (by omega) (by omega))
                  · refine WQ_iconst (0) (0) dX10_two_95 rfl rfl (fun v3949 hv3949 => ?_)
                    refine WP_goto 100 dX10_two_96 rfl ?_
                    exact WP_sub (fc rfl (fc rfl (fc rfl (fc rfl (fc rfl (fc rfl (fc rfl (fc rfl fn)))))))) (jn100_3945 v3949 (by omega) (by omega))
                · refine WP_iload_n dX10_two_84 rfl ?_
                  refine WP_iload_n dX10_two_85 rfl ?_
                  refine WQ_iadd dX10_two_86 (by omega) (by omega) (fun v3950 hv3950 => ?_)
                  refine WQ_if_ne 101 dX10_two_87 rfl (fun c3950 => ?_) (fun c3950 => ?_)
                  · refine WP_aload_n dX10_two_101 rfl ?_
                    refine WP_getr dX10_two_102 fX10_76 rfl (lyx_is hy 0 10 rfl) (rfx hr 0 8 69 (by decide)) ?_
                    refine WP_iload_n dX10_two_105 rfl ?_
                    refine WP_iload dX10_two_106 rfl ?_
                    refine WP_callV2 (k := 8) dX10_two_108 ⟨⟨⟨by decide, by decide⟩, zX8_takenAt⟩, lX10_270, by decide, rfl, vX8_takenAt.1, vX8_takenAt.2⟩ (lyx_is hy 69 8 rfl) (sx_takenAt hy hr hI p q (by omega) (by omega) (by omega) (by omega)) (Nat.le_of_ble_eq_true rfl) ?_
                    intro r I3952 J3953 Ra hq
                    obtain ⟨⟨hI3952, ec⟩, rfl⟩ := hq
                    rw [ec]
                    clear ec Ra
                    have e3954 : I3952 (ad g 1) 1 = L := hI3952.2
                    have b3955 := BT_get hI3952.1 1 1 2 (0) (0) (900) (by decide) 1 (by decide) (by decide)
                    rw [e3954] at b3955
                    refine WP_aload_n dX10_two_111 rfl ?_
                    refine WP_getr dX10_two_112 fX10_76 rfl (lyx_is hy 0 10 rfl) (rfx hr 0 8 69 (by decide)) ?_
                    refine WP_iload_n dX10_two_115 rfl ?_
                    refine WP_iload_n dX10_two_116 rfl ?_
                    refine WP_iload dX10_two_117 rfl ?_
                    refine WP_iload dX10_two_119 rfl ?_
                    refine WP_callV4 (k := 8) dX10_two_121 ⟨⟨⟨by decide, by decide⟩, zX8_lookBack⟩, lX10_274, by decide, rfl, vX8_lookBack.1, vX8_lookBack.2⟩ (lyx_is hy 69 8 rfl) (sx_lookBack hy hr hI3952 a b nn r (by omega) (by omega) (by omega) (by omega) (by omega) (by omega) (by omega) (by omega)) (Nat.le_of_ble_eq_true rfl) ?_
                    intro r I3956 J3957 Ra hq
                    obtain ⟨⟨hI3956, ec⟩, rfl⟩ := hq
                    rw [ec]
                    clear ec Ra
                    have e3958 : I3956 (ad g 1) 1 = L := hI3956.2
                    have b3959 := BT_get hI3956.1 1 1 2 (0) (0) (900) (by decide) 1 (by decide) (by decide)
                    rw [e3958] at b3959
                    refine WP_aload_n dX10_two_124 rfl ?_
                    refine WP_getr dX10_two_125 fX10_76 rfl (lyx_is hy 0 10 rfl) (rfx hr 0 8 69 (by decide)) ?_
                    refine WP_iload_n dX10_two_128 rfl ?_
                    refine WP_iload_n dX10_two_129 rfl ?_
                    refine WP_callV2 (k := 8) dX10_two_130 ⟨⟨⟨by decide, by decide⟩, zX8_offeringNote⟩, lX10_278, by decide, rfl, vX8_offeringNote.1, vX8_offeringNote.2⟩ (lyx_is hy 69 8 rfl) (sx_offeringNote hy hr hI3956 a b (by omega) (by omega) (by omega) (by omega)) (Nat.le_of_ble_eq_true rfl) ?_
                    intro r Ia Ja Ra hq
                    obtain ⟨⟨ea, eb, ec⟩, v3960, rfl⟩ := hq
                    show WP _ _ _ _ (.int _ :: _) _ _ _ _
                    rw [ea, eb, ec]
                    clear ea eb ec Ia Ja Ra
                    refine WP_istore (ls' := [(0, _), (1, _), (2, _), (3, _), (4, _), (5, _), (6, _), (7, _), (8, _)]) dX10_two_133 (by decide) rfl ?_
                    refine WP_aload_n dX10_two_135 rfl ?_
                    refine WP_getr dX10_two_136 fX10_76 rfl (lyx_is hy 0 10 rfl) (rfx hr 0 8 69 (by decide)) ?_
                    refine WP_iload_n dX10_two_139 rfl ?_
                    refine WP_iload_n dX10_two_140 rfl ?_
                    refine WP_callV2 (k := 8) dX10_two_141 ⟨⟨⟨by decide, by decide⟩, zX8_offeringOther⟩, lX10_281, by decide, rfl, vX8_offeringOther.1, vX8_offeringOther.2⟩ (lyx_is hy 69 8 rfl) (sx_offeringOther hy hr hI3956 a b (by omega) (by omega) (by omega) (by omega)) (Nat.le_of_ble_eq_true rfl) ?_
                    intro r Ia Ja Ra hq
                    obtain ⟨⟨ea, eb, ec⟩, v3961, rfl⟩ := hq
                    show WP _ _ _ _ (.int _ :: _) _ _ _ _
                    rw [ea, eb, ec]
                    clear ea eb ec Ia Ja Ra
                    refine WP_istore (ls' := [(0, _), (1, _), (2, _), (3, _), (4, _), (5, _), (6, _), (7, _), (8, _), (9, _)]) dX10_two_144 (by decide) rfl ?_
                    refine WP_iload dX10_two_146 rfl ?_
                    refine WQ_if_ne 159 dX10_two_148 rfl (fun c3961 => ?_) (fun c3961 => ?_)
                    · refine WP_iload dX10_two_159 rfl ?_
                      refine WP_iload dX10_two_161 rfl ?_
                      have jn171_3965 : ∀ (v3965 : Int32), 0 ≤ v3965.toInt → v3965.toInt ≤ 1 → WP g mX10_two 171 [(0, .ref (ad g 0)), (1, .int a), (2, .int b), (3, .int p), (4, .int q), (5, .int nn), (6, .int r), (7, .int wh), (8, .int v3960), (9, .int v3961)] [.int v3965] I3956 J3957 R (fun r I' J' R' => (XI g n L I' ∧ R' = R) ∧ ∃ v : Int32, r = some (.int v)) := by
                        intro v3965 av3965 bv3965
                        exact WP_iret dX10_two_171 rfl ⟨⟨hI3956, rfl⟩, _, rfl⟩
                      refine WQ_icmp_lt 170 dX10_two_163 rfl (fun c3966 => ?_) (fun c3966 => ?_)
                      · refine WQ_iconst (1) (1) dX10_two_170 rfl rfl (fun v3968 hv3968 => ?_)
                        exact WP_sub (fc rfl (fc rfl (fc rfl (fc rfl (fc rfl (fc rfl (fc rfl (fc rfl (fc rfl (fc rfl fn)))))))))) (jn171_3965 v3968 (by omega) (by omega))
                      · refine WQ_iconst (0) (0) dX10_two_166 rfl rfl (fun v3969 hv3969 => ?_)
                        refine WP_goto 171 dX10_two_167 rfl ?_
                        exact WP_sub (fc rfl (fc rfl (fc rfl (fc rfl (fc rfl (fc rfl (fc rfl (fc rfl (fc rfl (fc rfl fn)))))))))) (jn171_3965 v3969 (by omega) (by omega))
                    · refine WP_iload dX10_two_151 rfl ?_
                      refine WP_iload dX10_two_153 rfl ?_
                      refine WQ_max dX10_two_155 lX10_284 ⟨by decide, Nat.le_of_ble_eq_true rfl⟩ (fun v3970 av3970 bv3970 cv3970 => ?_)
                      exact WP_iret dX10_two_158 rfl ⟨⟨hI3956, rfl⟩, _, rfl⟩
                  · refine WP_iload dX10_two_90 rfl ?_
                    have jn100_3973 : ∀ (v3973 : Int32), -1 ≤ v3973.toInt → v3973.toInt ≤ 0 → WP g mX10_two 100 [(0, .ref (ad g 0)), (1, .int a), (2, .int b), (3, .int p), (4, .int q), (5, .int nn), (6, .int r), (7, .int wh)] [.int v3973] I J R (fun r I' J' R' => (XI g n L I' ∧ R' = R) ∧ ∃ v : Int32, r = some (.int v)) := by
                      intro v3973 av3973 bv3973
                      exact WP_iret dX10_two_100 rfl ⟨⟨hI, rfl⟩, _, rfl⟩
                    refine WQ_if_ne 99 dX10_two_92 rfl (fun c3974 => ?_) (fun c3974 => ?_)
                    · refine WQ_iconst (-1) (-1) dX10_two_99 rfl rfl (fun v3976 hv3976 => ?_)
                      exact WP_sub (fc rfl (fc rfl (fc rfl (fc rfl (fc rfl (fc rfl (fc rfl (fc rfl fn)))))))) (jn100_3973 v3976 (by omega) (by omega))
                    · refine WQ_iconst (0) (0) dX10_two_95 rfl rfl (fun v3977 hv3977 => ?_)
                      refine WP_goto 100 dX10_two_96 rfl ?_
                      exact WP_sub (fc rfl (fc rfl (fc rfl (fc rfl (fc rfl (fc rfl (fc rfl (fc rfl fn)))))))) (jn100_3973 v3977 (by omega) (by omega))
              · refine WQ_bipush (-2) (-2) dX10_two_76 rfl rfl (fun v3978 hv3978 => ?_)
                exact WP_iret dX10_two_78 rfl ⟨⟨hI, rfl⟩, _, rfl⟩
        · refine WQ_bipush (-2) (-2) dX10_two_41 rfl rfl (fun v3979 hv3979 => ?_)
          exact WP_iret dX10_two_43 rfl ⟨⟨hI, rfl⟩, _, rfl⟩
