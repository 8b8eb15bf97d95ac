set_option maxHeartbeats 4000000 in
set_option maxRecDepth 100000 in
theorem sx_feed {g : GG} {n : Int} {L : Int32} (hy : LyX g)  {I : pI} {J : pJ} {R : pR} (hr : RfX g R) (hI : XI g n L I) (a : Int32) (b : Int32) (c : Int32) (e : Int32) (f : Int32)  : SP g mX10_feed [.ref (ad g 0), .int a, .int b, .int c, .int e, .int f] I J R (fun r I' J' R' => ((∃ L2 : Int32, XI g n L2 I' ∧ (880 < L.toInt ∧ L2.toInt = L.toInt ∨ L.toInt ≤ 880 ∧ L2.toInt = L.toInt + 20)) ∧ R' = R) ∧ ∃ v : Int32, r = some (.int v) ∧ (880 < L.toInt ∧ v.toInt = -3 ∨ L.toInt ≤ 880 ∧ v.toInt = L.toInt + 20)) := by
  refine SP_of ⟨by decide, rfl⟩ (Nat.le_of_ble_eq_true rfl) ?_
  have e2713 : I (ad g 1) 1 = L := hI.2
  have b2714 := BT_get hI.1 1 1 2 (0) (0) (900) (by decide) 1 (by decide) (by decide)
  rw [e2713] at b2714
  refine WP_aload_n dX10_feed_0 rfl ?_
  refine WP_getr dX10_feed_1 fX10_12 rfl (lyx_is hy 0 10 rfl) (rfx hr 0 0 1 (by decide)) ?_
  refine WQ_getim dX10_feed_4 fX10_90 rfl (lyx_is hy 1 5 rfl) e2713 ?_
  refine WQ_bipush (20) (20) dX10_feed_7 rfl rfl (fun v2715 hv2715 => ?_)
  refine WQ_iadd dX10_feed_9 (by omega) (by omega) (fun v2716 hv2716 => ?_)
  refine WQ_sipush (900) (900) dX10_feed_10 rfl rfl (fun v2717 hv2717 => ?_)
  refine WQ_icmp_le 19 dX10_feed_13 rfl (fun c2717 => ?_) (fun c2717 => ?_)
  · refine WP_aload_n dX10_feed_19 rfl ?_
    refine WP_getr dX10_feed_20 fX10_12 rfl (lyx_is hy 0 10 rfl) (rfx hr 0 0 1 (by decide)) ?_
    refine WP_iload_n dX10_feed_23 rfl ?_
    refine WP_callV1 (k := 5) dX10_feed_24 ⟨⟨⟨by decide, by decide⟩, zX5_put⟩, lX10_94, by decide, rfl, vX5_put.1, vX5_put.2⟩ (lyx_is hy 1 5 rfl) (sx_put hy hr hI a  (by omega)) (Nat.le_of_ble_eq_true rfl) ?_
    intro r I2719 J2720 Ra hq
    obtain ⟨⟨⟨L2721, hI2719, qL2721⟩, ec⟩, rfl⟩ := hq
    rw [ec]
    clear ec Ra
    have e2722 : I2719 (ad g 1) 1 = L2721 := hI2719.2
    have b2723 := BT_get hI2719.1 1 1 2 (0) (0) (900) (by decide) 1 (by decide) (by decide)
    rw [e2722] at b2723
    refine WP_aload_n dX10_feed_27 rfl ?_
    refine WP_getr dX10_feed_28 fX10_12 rfl (lyx_is hy 0 10 rfl) (rfx hr 0 0 1 (by decide)) ?_
    refine WP_iload_n dX10_feed_31 rfl ?_
    refine WP_callV1 (k := 5) dX10_feed_32 ⟨⟨⟨by decide, by decide⟩, zX5_put⟩, lX10_94, by decide, rfl, vX5_put.1, vX5_put.2⟩ (lyx_is hy 1 5 rfl) (sx_put hy hr hI2719 b  (by omega)) (Nat.le_of_ble_eq_true rfl) ?_
    intro r I2724 J2725 Ra hq
    obtain ⟨⟨⟨L2726, hI2724, qL2726⟩, ec⟩, rfl⟩ := hq
    rw [ec]
    clear ec Ra
    have e2727 : I2724 (ad g 1) 1 = L2726 := hI2724.2
    have b2728 := BT_get hI2724.1 1 1 2 (0) (0) (900) (by decide) 1 (by decide) (by decide)
    rw [e2727] at b2728
    refine WP_aload_n dX10_feed_35 rfl ?_
    refine WP_getr dX10_feed_36 fX10_12 rfl (lyx_is hy 0 10 rfl) (rfx hr 0 0 1 (by decide)) ?_
    refine WP_iload_n dX10_feed_39 rfl ?_
    refine WP_callV1 (k := 5) dX10_feed_40 ⟨⟨⟨by decide, by decide⟩, zX5_put⟩, lX10_94, by decide, rfl, vX5_put.1, vX5_put.2⟩ (lyx_is hy 1 5 rfl) (sx_put hy hr hI2724 c  (by omega)) (Nat.le_of_ble_eq_true rfl) ?_
    intro r I2729 J2730 Ra hq
    obtain ⟨⟨⟨L2731, hI2729, qL2731⟩, ec⟩, rfl⟩ := hq
    rw [ec]
    clear ec Ra
    have e2732 : I2729 (ad g 1) 1 = L2731 := hI2729.2
    have b2733 := BT_get hI2729.1 1 1 2 (0) (0) (900) (by decide) 1 (by decide) (by decide)
    rw [e2732] at b2733
    refine WP_aload_n dX10_feed_43 rfl ?_
    refine WP_getr dX10_feed_44 fX10_12 rfl (lyx_is hy 0 10 rfl) (rfx hr 0 0 1 (by decide)) ?_
    refine WP_iload dX10_feed_47 rfl ?_
    refine WP_callV1 (k := 5) dX10_feed_49 ⟨⟨⟨by decide, by decide⟩, zX5_put⟩, lX10_94, by decide, rfl, vX5_put.1, vX5_put.2⟩ (lyx_is hy 1 5 rfl) (sx_put hy hr hI2729 e  (by omega)) (Nat.le_of_ble_eq_true rfl) ?_
    intro r I2734 J2735 Ra hq
    obtain ⟨⟨⟨L2736, hI2734, qL2736⟩, ec⟩, rfl⟩ := hq
    rw [ec]
    clear ec Ra
    have e2737 : I2734 (ad g 1) 1 = L2736 := hI2734.2
    have b2738 := BT_get hI2734.1 1 1 2 (0) (0) (900) (by decide) 1 (by decide) (by decide)
    rw [e2737] at b2738
    refine WP_aload_n dX10_feed_52 rfl ?_
    refine WP_getr dX10_feed_53 fX10_12 rfl (lyx_is hy 0 10 rfl) (rfx hr 0 0 1 (by decide)) ?_
    refine WP_iload dX10_feed_56 rfl ?_
    refine WP_callV1 (k := 5) dX10_feed_58 ⟨⟨⟨by decide, by decide⟩, zX5_put⟩, lX10_94, by decide, rfl, vX5_put.1, vX5_put.2⟩ (lyx_is hy 1 5 rfl) (sx_put hy hr hI2734 f  (by omega)) (Nat.le_of_ble_eq_true rfl) ?_
    intro r I2739 J2740 Ra hq
    obtain ⟨⟨⟨L2741, hI2739, qL2741⟩, ec⟩, rfl⟩ := hq
    rw [ec]
    clear ec Ra
    have e2742 : I2739 (ad g 1) 1 = L2741 := hI2739.2
    have b2743 := BT_get hI2739.1 1 1 2 (0) (0) (900) (by decide) 1 (by decide) (by decide)
    rw [e2742] at b2743
    refine WP_aload_n dX10_feed_61 rfl ?_
    refine WP_getr dX10_feed_62 fX10_12 rfl (lyx_is hy 0 10 rfl) (rfx hr 0 0 1 (by decide)) ?_
    refine WQ_getim dX10_feed_65 fX10_90 rfl (lyx_is hy 1 5 rfl) e2742 ?_
    exact WP_iret dX10_feed_68 rfl ⟨⟨⟨_, hI2739, by omega⟩, rfl⟩, _, rfl, by omega⟩
  · refine WQ_bipush (-3) (-3) dX10_feed_16 rfl rfl (fun v2744 hv2744 => ?_)
    exact WP_iret dX10_feed_18 rfl ⟨⟨⟨_, hI, by omega⟩, rfl⟩, _, rfl, by omega⟩
set_option maxHeartbeats 4000000 in
set_option maxRecDepth 100000 in
theorem sx_end {g : GG} {n : Int} {L : Int32} (hy : LyX g)  {I : pI} {J : pJ} {R : pR} (hr : RfX g R) (hI : XI g n L I) (a : Int32)  : SP g mX10_end [.ref (ad g 0), .int a] I J R (fun r I' J' R' => ((∃ L2 : Int32, XI g n L2 I' ∧ ((0 ≤ a.toInt ∧ a.toInt ≤ L.toInt) ∧ L2.toInt = a.toInt ∨ ¬ (0 ≤ a.toInt ∧ a.toInt ≤ L.toInt) ∧ L2.toInt = L.toInt)) ∧ R' = R) ∧ ∃ v : Int32, r = some (.int v) ∧ ((0 ≤ a.toInt ∧ a.toInt ≤ L.toInt) ∧ v.toInt = a.toInt ∨ ¬ (0 ≤ a.toInt ∧ a.toInt ≤ L.toInt) ∧ v.toInt = -1)) := by
  refine SP_of ⟨by decide, rfl⟩ (Nat.le_of_ble_eq_true rfl) ?_
  have e2745 : I (ad g 1) 1 = L := hI.2
  have b2746 := BT_get hI.1 1 1 2 (0) (0) (900) (by decide) 1 (by decide) (by decide)
  rw [e2745] at b2746
  refine WP_iload_n dX10_end_0 rfl ?_
  refine WQ_if_lt 15 dX10_end_1 rfl (fun c2746 => ?_) (fun c2746 => ?_)
  · refine WQ_iconst (-1) (-1) dX10_end_15 rfl rfl (fun v2748 hv2748 => ?_)
    exact WP_iret dX10_end_16 rfl ⟨⟨⟨_, hI, by omega⟩, rfl⟩, _, rfl, by omega⟩
  · refine WP_iload_n dX10_end_4 rfl ?_
    refine WP_aload_n dX10_end_5 rfl ?_
    refine WP_getr dX10_end_6 fX10_12 rfl (lyx_is hy 0 10 rfl) (rfx hr 0 0 1 (by decide)) ?_
    refine WQ_getim dX10_end_9 fX10_90 rfl (lyx_is hy 1 5 rfl) e2745 ?_
    refine WQ_icmp_le 17 dX10_end_12 rfl (fun c2748 => ?_) (fun c2748 => ?_)
    · refine WP_aload_n dX10_end_17 rfl ?_
      refine WP_getr dX10_end_18 fX10_12 rfl (lyx_is hy 0 10 rfl) (rfx hr 0 0 1 (by decide)) ?_
      refine WP_iload_n dX10_end_21 rfl ?_
      refine WQ_puti dX10_end_22 fX10_90 rfl rfl (lyx_is hy 1 5 rfl) (fun I2750 eI2750 => ?_)
      have hI2750 : XI g n a I2750 := by rw [eI2750]; exact (xi_len hy hI (by omega) (by omega))
      have e2751 : I2750 (ad g 1) 1 = a := by rw [eI2750, pp_self]
      clear eI2750
      refine WP_iload_n dX10_end_25 rfl ?_
      exact WP_iret dX10_end_26 rfl ⟨⟨⟨_, hI2750, by omega⟩, rfl⟩, _, rfl, by omega⟩
    · refine WQ_iconst (-1) (-1) dX10_end_15 rfl rfl (fun v2752 hv2752 => ?_)
      exact WP_iret dX10_end_16 rfl ⟨⟨⟨_, hI, by omega⟩, rfl⟩, _, rfl, by omega⟩
set_option maxHeartbeats 4000000 in
set_option maxRecDepth 100000 in
theorem sx_fault {g : GG} {n : Int} {L : Int32} (hy : LyX g)  {I : pI} {J : pJ} {R : pR} (hr : RfX g R) (hI : XI g n L I) (a : Int32)  : SP g mX10_fault [.ref (ad g 0), .int a] I J R (fun r I' J' R' => (I' = I ∧ J' = J ∧ R' = R) ∧ ∃ v : Int32, r = some (.int v)) := by
  refine SP_of ⟨by decide, rfl⟩ (Nat.le_of_ble_eq_true rfl) ?_
  have e2753 : I (ad g 1) 1 = L := hI.2
  have b2754 := BT_get hI.1 1 1 2 (0) (0) (900) (by decide) 1 (by decide) (by decide)
  rw [e2753] at b2754
  refine WP_iload_n dX10_fault_0 rfl ?_
  have jn30_2759 : ∀ (v2759 : Int32), WP g mX10_fault 30 [(0, .ref (ad g 0)), (1, .int a)] [.int v2759] I J R (fun r I' J' R' => (I' = I ∧ J' = J ∧ R' = R) ∧ ∃ v : Int32, r = some (.int v)) := by
    intro v2759 
    exact WP_iret dX10_fault_30 rfl ⟨⟨rfl, rfl, rfl⟩, _, rfl⟩
  refine WX_if_ne 14 dX10_fault_1 rfl ?_ ?_
  · refine WP_iload_n dX10_fault_14 rfl ?_
    refine WQ_iconst (1) (1) dX10_fault_15 rfl rfl (fun v2761 hv2761 => ?_)
    refine WX_icmp_ne 29 dX10_fault_16 rfl ?_ ?_
    · refine WQ_iconst (-1) (-1) dX10_fault_29 rfl rfl (fun v2762 hv2762 => ?_)
      exact WP_sub (fc rfl (fc rfl fn)) (jn30_2759 v2762)
    · refine WP_aload_n dX10_fault_19 rfl ?_
      refine WP_getr dX10_fault_20 fX10_21 rfl (lyx_is hy 0 10 rfl) (rfx hr 0 1 3 (by decide)) ?_
      refine WQ_getiu dX10_fault_23 fX10_111 rfl (lyx_is hy 3 3 rfl) (fun v2763 ev2763 => ?_)
      refine WP_goto 30 dX10_fault_26 rfl ?_
      exact WP_sub (fc rfl (fc rfl fn)) (jn30_2759 v2763)
  · refine WP_aload_n dX10_fault_4 rfl ?_
    refine WP_getr dX10_fault_5 fX10_21 rfl (lyx_is hy 0 10 rfl) (rfx hr 0 1 3 (by decide)) ?_
    refine WQ_getiu dX10_fault_8 fX10_108 rfl (lyx_is hy 3 3 rfl) (fun v2764 ev2764 => ?_)
    refine WP_goto 30 dX10_fault_11 rfl ?_
    exact WP_sub (fc rfl (fc rfl fn)) (jn30_2759 v2764)
set_option maxHeartbeats 4000000 in
set_option maxRecDepth 100000 in
theorem sx_restTurns {g : GG} {n : Int} {L : Int32} (hy : LyX g)  {I : pI} {J : pJ} {R : pR} (hr : RfX g R) (hI : XI g n L I)   : SP g mX10_restTurns [.ref (ad g 0)] I J R (fun r I' J' R' => (I' = I ∧ J' = J ∧ R' = R) ∧ ∃ v : Int32, r = some (.int v)) := by
  refine SP_of ⟨by decide, rfl⟩ (Nat.le_of_ble_eq_true rfl) ?_
  have e2765 : I (ad g 1) 1 = L := hI.2
  have b2766 := BT_get hI.1 1 1 2 (0) (0) (900) (by decide) 1 (by decide) (by decide)
  rw [e2765] at b2766
  refine WP_aload_n dX10_restTurns_0 rfl ?_
  refine WQ_getiu dX10_restTurns_1 fX10_263 rfl (lyx_is hy 0 10 rfl) (fun v2767 ev2767 => ?_)
  exact WP_iret dX10_restTurns_4 rfl ⟨⟨rfl, rfl, rfl⟩, _, rfl⟩
set_option maxHeartbeats 4000000 in
set_option maxRecDepth 100000 in
theorem sx_all {g : GG} {n : Int} {L : Int32} (hy : LyX g)  {I : pI} {J : pJ} {R : pR} (hr : RfX g R) (hI : XI g n L I) (a : Int32)  : SP g mX10_all [.ref (ad g 0), .int a] I J R (fun r I' J' R' => (I' = I ∧ J' = J ∧ R' = R) ∧ ∃ v : Int32, r = some (.int v)) := by
  refine SP_of ⟨by decide, rfl⟩ (Nat.le_of_ble_eq_true rfl) ?_
  have e2768 : I (ad g 1) 1 = L := hI.2
  have b2769 := BT_get hI.1 1 1 2 (0) (0) (900) (by decide) 1 (by decide) (by decide)
  rw [e2768] at b2769
  refine WP_iload_n dX10_all_0 rfl ?_
  refine WP_tab 64 dX10_all_1 rfl rfl (fun c2769 => ?_) (fun j off c2769 hj => ?_) (by decide)
  · refine WQ_iconst (-1) (-1) dX10_all_64 rfl rfl (fun v2771 hv2771 => ?_)
    exact WP_iret dX10_all_65 rfl ⟨⟨rfl, rfl, rfl⟩, _, rfl⟩
  · have hlt : j < 4 := by have := (Array.getElem?_eq_some_iff.mp hj).1; simpa using this
    have hcs : (j = 0 ∧ off = 31) ∨ (j = 1 ∧ off = 39) ∨ (j = 2 ∧ off = 47) ∨ (j = 3 ∧ off = 55) := by
      match j, hlt, hj with
      | 0, _, hj => exact Or.inl ⟨rfl, (Option.some.inj hj).symm⟩
      | 1, _, hj => exact Or.inr (Or.inl ⟨rfl, (Option.some.inj hj).symm⟩)
      | 2, _, hj => exact Or.inr (Or.inr (Or.inl ⟨rfl, (Option.some.inj hj).symm⟩))
      | 3, _, hj => exact Or.inr (Or.inr (Or.inr (⟨rfl, (Option.some.inj hj).symm⟩)))
    clear hj hlt
    rcases hcs with ⟨rfl, rfl⟩ | ⟨rfl, rfl⟩ | ⟨rfl, rfl⟩ | ⟨rfl, rfl⟩
    · show WP _ _ 32 _ _ _ _ _ _
      refine WP_aload_n dX10_all_32 rfl ?_
      refine WP_getr dX10_all_33 fX10_62 rfl (lyx_is hy 0 10 rfl) (rfx hr 0 5 53 (by decide)) ?_
      refine WQ_geti dX10_all_36 fX10_238 rfl (lyx_is hy 53 4 rfl) (BT_get hI.1 53 1 2 (0) (1663200) (0) (by decide) 1 (by decide) (by decide)) (fun v2772 ev2772 av2772 bv2772 => ?_)
      exact WP_iret dX10_all_39 rfl ⟨⟨rfl, rfl, rfl⟩, _, rfl⟩
    · show WP _ _ 40 _ _ _ _ _ _
      refine WP_aload_n dX10_all_40 rfl ?_
      refine WP_getr dX10_all_41 fX10_62 rfl (lyx_is hy 0 10 rfl) (rfx hr 0 5 53 (by decide)) ?_
      refine WQ_getiu dX10_all_44 fX10_232 rfl (lyx_is hy 53 4 rfl) (fun v2773 ev2773 => ?_)
      exact WP_iret dX10_all_47 rfl ⟨⟨rfl, rfl, rfl⟩, _, rfl⟩
    · show WP _ _ 48 _ _ _ _ _ _
      refine WP_aload_n dX10_all_48 rfl ?_
      refine WP_getr dX10_all_49 fX10_62 rfl (lyx_is hy 0 10 rfl) (rfx hr 0 5 53 (by decide)) ?_
      refine WP_callV0 (k := 4) dX10_all_52 ⟨⟨⟨by decide, by decide⟩, zX4_round⟩, lX10_239, by decide, rfl, vX4_round.1, vX4_round.2⟩ (lyx_is hy 53 4 rfl) (sx_round hy hr hI  ) (Nat.le_of_ble_eq_true rfl) ?_
      intro r Ia Ja Ra hq
      obtain ⟨⟨ea, eb, ec⟩, v2774, rfl⟩ := hq
      show WP _ _ _ _ (.int _ :: _) _ _ _ _
      rw [ea, eb, ec]
      clear ea eb ec Ia Ja Ra
      exact WP_iret dX10_all_55 rfl ⟨⟨rfl, rfl, rfl⟩, _, rfl⟩
    · show WP _ _ 56 _ _ _ _ _ _
      refine WP_aload_n dX10_all_56 rfl ?_
      refine WP_getr dX10_all_57 fX10_62 rfl (lyx_is hy 0 10 rfl) (rfx hr 0 5 53 (by decide)) ?_
      refine WQ_getiu dX10_all_60 fX10_243 rfl (lyx_is hy 53 4 rfl) (fun v2775 ev2775 => ?_)
      exact WP_iret dX10_all_63 rfl ⟨⟨rfl, rfl, rfl⟩, _, rfl⟩
set_option maxHeartbeats 4000000 in
set_option maxRecDepth 100000 in
theorem sx_lend {g : GG} {n : Int} {L : Int32} (hy : LyX g)  {I : pI} {J : pJ} {R : pR} (hr : RfX g R) (hI : XI g n L I) (c : Int32) (w : Int32) (y : Int32) (wh : Int32)  : SP g mX10_lend [.ref (ad g 0), .int c, .int w, .int y, .int wh] I J R (fun r I' J' R' => (I' = I ∧ J' = J ∧ R' = R) ∧ ∃ v : Int32, r = some (.int v)) := by
  refine SP_of ⟨by decide, rfl⟩ (Nat.le_of_ble_eq_true rfl) ?_
  have e2776 : I (ad g 1) 1 = L := hI.2
  have b2777 := BT_get hI.1 1 1 2 (0) (0) (900) (by decide) 1 (by decide) (by decide)
  rw [e2776] at b2777
  refine WP_iload_n dX10_lend_0 rfl ?_
  refine WQ_iconst (0) (0) dX10_lend_1 rfl rfl (fun v2778 hv2778 => ?_)
  refine WQ_sipush (999) (999) dX10_lend_2 rfl rfl (fun v2779 hv2779 => ?_)
  refine WP_callS3 dX10_lend_5 ⟨⟨⟨by decide, by decide⟩, zX10_within⟩, lX10_206, tX10_within⟩ (sx_within hy hr hI c v2778 v2779   ) (Nat.le_of_ble_eq_true rfl) ?_
  intro r Ia Ja Ra hq
  obtain ⟨⟨ea, eb, ec⟩, v2780, rfl, av2780, bv2780, cv2780⟩ := hq
  show WP _ _ _ _ (.int _ :: _) _ _ _ _
  rw [ea, eb, ec]
  clear ea eb ec Ia Ja Ra
  refine WQ_if_eq 32 dX10_lend_8 rfl (fun c2780 => ?_) (fun c2780 => ?_)
  · refine WQ_bipush (-2) (-2) dX10_lend_32 rfl rfl (fun v2782 hv2782 => ?_)
    exact WP_iret dX10_lend_34 rfl ⟨⟨rfl, rfl, rfl⟩, _, rfl⟩
  · refine WP_iload_n dX10_lend_11 rfl ?_
    refine WQ_iconst (0) (0) dX10_lend_12 rfl rfl (fun v2783 hv2783 => ?_)
    refine WQ_bipush (52) (52) dX10_lend_13 rfl rfl (fun v2784 hv2784 => ?_)
    refine WP_callS3 dX10_lend_15 ⟨⟨⟨by decide, by decide⟩, zX10_within⟩, lX10_206, tX10_within⟩ (sx_within hy hr hI w v2783 v2784   ) (Nat.le_of_ble_eq_true rfl) ?_
    intro r Ia Ja Ra hq
    obtain ⟨⟨ea, eb, ec⟩, v2785, rfl, av2785, bv2785, cv2785⟩ := hq
    show WP _ _ _ _ (.int _ :: _) _ _ _ _
    rw [ea, eb, ec]
    clear ea eb ec Ia Ja Ra
    refine WQ_if_eq 32 dX10_lend_18 rfl (fun c2785 => ?_) (fun c2785 => ?_)
    · refine WQ_bipush (-2) (-2) dX10_lend_32 rfl rfl (fun v2787 hv2787 => ?_)
      exact WP_iret dX10_lend_34 rfl ⟨⟨rfl, rfl, rfl⟩, _, rfl⟩
    · refine WP_iload_n dX10_lend_21 rfl ?_
      refine WQ_iconst (0) (0) dX10_lend_22 rfl rfl (fun v2788 hv2788 => ?_)
      refine WQ_sipush (1000) (1000) dX10_lend_23 rfl rfl (fun v2789 hv2789 => ?_)
      refine WP_callS3 dX10_lend_26 ⟨⟨⟨by decide, by decide⟩, zX10_within⟩, lX10_206, tX10_within⟩ (sx_within hy hr hI y v2788 v2789   ) (Nat.le_of_ble_eq_true rfl) ?_
      intro r Ia Ja Ra hq
      obtain ⟨⟨ea, eb, ec⟩, v2790, rfl, av2790, bv2790, cv2790⟩ := hq
      show WP _ _ _ _ (.int _ :: _) _ _ _ _
      rw [ea, eb, ec]
      clear ea eb ec Ia Ja Ra
      refine WQ_if_ne 35 dX10_lend_29 rfl (fun c2790 => ?_) (fun c2790 => ?_)
      · refine WP_iload dX10_lend_35 rfl ?_
        refine WQ_if_eq 49 dX10_lend_37 rfl (fun c2791 => ?_) (fun c2791 => ?_)
        · refine WP_iload_n dX10_lend_49 rfl ?_
          refine WP_istore (ls' := [(0, _), (1, _), (2, _), (3, _), (4, _), (5, _)]) dX10_lend_50 (by decide) rfl ?_
          refine WQ_iconst (0) (0) dX10_lend_52 rfl rfl (fun v2793 hv2793 => ?_)
          refine WP_istore (ls' := [(0, _), (1, _), (2, _), (3, _), (4, _), (5, _), (6, _)]) dX10_lend_53 (by decide) rfl ?_
          have lp55_2795 : ∀ (mz : Nat) (i2794 : Int32) (i2795 : Int32), 0 ≤ i2794.toInt → i2794.toInt ≤ 999 → 0 ≤ i2795.toInt → i2795.toInt ≤ 52 → (53 - i2795.toInt).toNat < mz → WP g mX10_lend 55 [(0, .ref (ad g 0)), (1, .int c), (2, .int w), (3, .int y), (4, .int wh), (5, .int i2794), (6, .int i2795)] [] I J R (fun r I' J' R' => (I' = I ∧ J' = J ∧ R' = R) ∧ ∃ v : Int32, r = some (.int v)) := by
            intro mz
            induction mz with
            | zero =>
              intro i2794 i2795 ai2794 bi2794 ai2795 bi2795 hmlp55_2795
              exact absurd hmlp55_2795 (Nat.not_lt_zero _)
            | succ mz ihlp55_2795 =>
              intro i2794 i2795 ai2794 bi2794 ai2795 bi2795 hmlp55_2795
              refine WP_iload dX10_lend_55 rfl ?_
              refine WP_iload_n dX10_lend_57 rfl ?_
              refine WQ_icmp_ge 98 dX10_lend_58 rfl (fun c2796 => ?_) (fun c2796 => ?_)
              · refine WP_iload dX10_lend_98 rfl ?_
                exact WP_iret dX10_lend_100 rfl ⟨⟨rfl, rfl, rfl⟩, _, rfl⟩
              · refine WP_iload dX10_lend_61 rfl ?_
                have jn90_2803 : ∀ (v2803 : Int32), 0 ≤ v2803.toInt → v2803.toInt ≤ 999 → WP g mX10_lend 90 [(0, .ref (ad g 0)), (1, .int c), (2, .int w), (3, .int y), (4, .int wh), (5, .int i2794), (6, .int i2795)] [.int v2803] I J R (fun r I' J' R' => (I' = I ∧ J' = J ∧ R' = R) ∧ ∃ v : Int32, r = some (.int v)) := by
                  intro v2803 av2803 bv2803
                  refine WP_istore (ls' := [(0, _), (1, _), (2, _), (3, _), (4, _), (5, _), (6, _)]) dX10_lend_90 (by decide) rfl ?_
                  refine WP_iinc (ls' := [(0, _), (1, _), (2, _), (3, _), (4, _), (5, _), (6, _)]) dX10_lend_92 rfl (by decide) rfl ?_
                  have hv2805 : (i2795 + Int32.ofInt (1)).toInt = i2795.toInt + (1) := ia_n rfl (by omega) (by omega)
                  generalize i2795 + Int32.ofInt (1) = v2805 at hv2805 ⊢
                  refine WP_goto 55 dX10_lend_95 rfl ?_
                  exact WP_sub (fc rfl (fc rfl (fc rfl (fc rfl (fc rfl (fc rfl (fc rfl fn))))))) (ihlp55_2795 v2803 v2805 (by omega) (by omega) (by omega) (by omega) (by omega))
                refine WQ_if_ne 81 dX10_lend_63 rfl (fun c2805 => False.elim (by omega)) (fun c2805 => ?_)
                refine WP_iload dX10_lend_66 rfl ?_
                refine WQ_sipush (1000) (1000) dX10_lend_68 rfl rfl (fun v2807 hv2807 => ?_)
                refine WP_iload_n dX10_lend_71 rfl ?_
                refine WQ_isub dX10_lend_72 (by omega) (by omega) (fun v2808 hv2808 => ?_)
                refine WQ_imulb (999) (1000) dX10_lend_73 ⟨by omega, by omega⟩ ⟨by omega, by omega⟩ (by decide) (fun v2809 pv2809 av2809 bv2809 cv2809 => ?_)
                refine WQ_sipush (1000) (1000) dX10_lend_74 rfl rfl (fun v2810 hv2810 => ?_)
                refine WQ_idivk (1000) dX10_lend_77 hv2810 (by decide) (by omega) (fun v2811 hv2811 => ?_)
                refine WP_goto 90 dX10_lend_78 rfl ?_
                exact WP_sub (fc rfl (fc rfl (fc rfl (fc rfl (fc rfl (fc rfl (fc rfl fn))))))) (jn90_2803 v2811 (by omega) (by omega))
          exact WP_sub (fc rfl (fc rfl (fc rfl (fc rfl (fc rfl (fc rfl (fc rfl fn))))))) (lp55_2795 _ c v2793 (by omega) (by omega) (by omega) (by omega) (Nat.lt_succ_self _))
        · refine WP_iload dX10_lend_40 rfl ?_
          refine WQ_iconst (1) (1) dX10_lend_42 rfl rfl (fun v2812 hv2812 => ?_)
          refine WQ_icmp_eq 49 dX10_lend_43 rfl (fun c2812 => ?_) (fun c2812 => ?_)
          · refine WP_iload_n dX10_lend_49 rfl ?_
            refine WP_istore (ls' := [(0, _), (1, _), (2, _), (3, _), (4, _), (5, _)]) dX10_lend_50 (by decide) rfl ?_
            refine WQ_iconst (0) (0) dX10_lend_52 rfl rfl (fun v2814 hv2814 => ?_)
            refine WP_istore (ls' := [(0, _), (1, _), (2, _), (3, _), (4, _), (5, _), (6, _)]) dX10_lend_53 (by decide) rfl ?_
            have lp55_2816 : ∀ (mz : Nat) (i2815 : Int32) (i2816 : Int32), 0 ≤ i2815.toInt → i2815.toInt ≤ 999 → 0 ≤ i2816.toInt → i2816.toInt ≤ 52 → (53 - i2816.toInt).toNat < mz → WP g mX10_lend 55 [(0, .ref (ad g 0)), (1, .int c), (2, .int w), (3, .int y), (4, .int wh), (5, .int i2815), (6, .int i2816)] [] I J R (fun r I' J' R' => (I' = I ∧ J' = J ∧ R' = R) ∧ ∃ v : Int32, r = some (.int v)) := by
              intro mz
              induction mz with
              | zero =>
                intro i2815 i2816 ai2815 bi2815 ai2816 bi2816 hmlp55_2816
                exact absurd hmlp55_2816 (Nat.not_lt_zero _)
              | succ mz ihlp55_2816 =>
                intro i2815 i2816 ai2815 bi2815 ai2816 bi2816 hmlp55_2816
                refine WP_iload dX10_lend_55 rfl ?_
                refine WP_iload_n dX10_lend_57 rfl ?_
                refine WQ_icmp_ge 98 dX10_lend_58 rfl (fun c2817 => ?_) (fun c2817 => ?_)
                · refine WP_iload dX10_lend_98 rfl ?_
                  exact WP_iret dX10_lend_100 rfl ⟨⟨rfl, rfl, rfl⟩, _, rfl⟩
                · refine WP_iload dX10_lend_61 rfl ?_
                  have jn90_2820 : ∀ (v2820 : Int32), 0 ≤ v2820.toInt → v2820.toInt ≤ 999 → WP g mX10_lend 90 [(0, .ref (ad g 0)), (1, .int c), (2, .int w), (3, .int y), (4, .int wh), (5, .int i2815), (6, .int i2816)] [.int v2820] I J R (fun r I' J' R' => (I' = I ∧ J' = J ∧ R' = R) ∧ ∃ v : Int32, r = some (.int v)) := by
                    intro v2820 av2820 bv2820
                    refine WP_istore (ls' := [(0, _), (1, _), (2, _), (3, _), (4, _), (5, _), (6, _)]) dX10_lend_90 (by decide) rfl ?_
                    refine WP_iinc (ls' := [(0, _), (1, _), (2, _), (3, _), (4, _), (5, _), (6, _)]) dX10_lend_92 rfl (by decide) rfl ?_
                    have hv2822 : (i2816 + Int32.ofInt (1)).toInt = i2816.toInt + (1) := ia_n rfl (by omega) (by omega)
                    generalize i2816 + Int32.ofInt (1) = v2822 at hv2822 ⊢
                    refine WP_goto 55 dX10_lend_95 rfl ?_
                    exact WP_sub (fc rfl (fc rfl (fc rfl (fc rfl (fc rfl (fc rfl (fc rfl fn))))))) (ihlp55_2816 v2820 v2822 (by omega) (by omega) (by omega) (by omega) (by omega))
                  refine WQ_if_ne 81 dX10_lend_63 rfl (fun c2822 => ?_) (fun c2822 => False.elim (by omega))
                  refine WP_aload_n dX10_lend_81 rfl ?_
                  refine WP_getr dX10_lend_82 fX10_33 rfl (lyx_is hy 0 10 rfl) (rfx hr 0 2 5 (by decide)) ?_
                  refine WP_iload dX10_lend_85 rfl ?_
                  refine WP_callV1 (k := 0) dX10_lend_87 ⟨⟨⟨by decide, by decide⟩, zX0_heldForWeek⟩, lX10_289, by decide, rfl, vX0_heldForWeek.1, vX0_heldForWeek.2⟩ (lyx_is hy 5 0 rfl) (sx_heldForWeek hy hr hI i2815 (by omega) (by omega)) (Nat.le_of_ble_eq_true rfl) ?_
                  intro r Ia Ja Ra hq
                  obtain ⟨⟨ea, eb, ec⟩, v2824, rfl, av2824, bv2824⟩ := hq
                  show WP _ _ _ _ (.int _ :: _) _ _ _ _
                  rw [ea, eb, ec]
                  clear ea eb ec Ia Ja Ra
                  exact WP_sub (fc rfl (fc rfl (fc rfl (fc rfl (fc rfl (fc rfl (fc rfl fn))))))) (jn90_2820 v2824 (by omega) (by omega))
            exact WP_sub (fc rfl (fc rfl (fc rfl (fc rfl (fc rfl (fc rfl (fc rfl fn))))))) (lp55_2816 _ c v2814 (by omega) (by omega) (by omega) (by omega) (Nat.lt_succ_self _))
          · refine WQ_bipush (-2) (-2) dX10_lend_46 rfl rfl (fun v2825 hv2825 => ?_)
            exact WP_iret dX10_lend_48 rfl ⟨⟨rfl, rfl, rfl⟩, _, rfl⟩
      · refine WQ_bipush (-2) (-2) dX10_lend_32 rfl rfl (fun v2826 hv2826 => ?_)
        exact WP_iret dX10_lend_34 rfl ⟨⟨rfl, rfl, rfl⟩, _, rfl⟩
set_option maxHeartbeats 4000000 in
set_option maxRecDepth 100000 in
theorem sx_early {g : GG} {n : Int} {L : Int32} (hy : LyX g)  {I : pI} {J : pJ} {R : pR} (hr : RfX g R) (hI : XI g n L I) (c : Int32) (dd : Int32) (da : Int32)  : SP g mX10_early [.ref (ad g 0), .int c, .int dd, .int da] I J R (fun r I' J' R' => (I' = I ∧ J' = J ∧ R' = R) ∧ ∃ v : Int32, r = some (.int v)) := by
  refine SP_of ⟨by decide, rfl⟩ (Nat.le_of_ble_eq_true rfl) ?_
  have e2827 : I (ad g 1) 1 = L := hI.2
  have b2828 := BT_get hI.1 1 1 2 (0) (0) (900) (by decide) 1 (by decide) (by decide)
  rw [e2827] at b2828
  refine WP_iload_n dX10_early_0 rfl ?_
  refine WQ_iconst (0) (0) dX10_early_1 rfl rfl (fun v2829 hv2829 => ?_)
  refine WQ_sipush (999) (999) dX10_early_2 rfl rfl (fun v2830 hv2830 => ?_)
  refine WP_callS3 dX10_early_5 ⟨⟨⟨by decide, by decide⟩, zX10_within⟩, lX10_206, tX10_within⟩ (sx_within hy hr hI c v2829 v2830   ) (Nat.le_of_ble_eq_true rfl) ?_
  intro r Ia Ja Ra hq
  obtain ⟨⟨ea, eb, ec⟩, v2831, rfl, av2831, bv2831, cv2831⟩ := hq
  show WP _ _ _ _ (.int _ :: _) _ _ _ _
  rw [ea, eb, ec]
  clear ea eb ec Ia Ja Ra
  refine WQ_if_eq 28 dX10_early_8 rfl (fun c2831 => ?_) (fun c2831 => ?_)
  · refine WQ_bipush (-2) (-2) dX10_early_28 rfl rfl (fun v2833 hv2833 => ?_)
    exact WP_iret dX10_early_30 rfl ⟨⟨rfl, rfl, rfl⟩, _, rfl⟩
  · refine WP_iload_n dX10_early_11 rfl ?_
    refine WQ_iconst (0) (0) dX10_early_12 rfl rfl (fun v2834 hv2834 => ?_)
    refine WQ_bipush (60) (60) dX10_early_13 rfl rfl (fun v2835 hv2835 => ?_)
    refine WP_callS3 dX10_early_15 ⟨⟨⟨by decide, by decide⟩, zX10_within⟩, lX10_206, tX10_within⟩ (sx_within hy hr hI dd v2834 v2835   ) (Nat.le_of_ble_eq_true rfl) ?_
    intro r Ia Ja Ra hq
    obtain ⟨⟨ea, eb, ec⟩, v2836, rfl, av2836, bv2836, cv2836⟩ := hq
    show WP _ _ _ _ (.int _ :: _) _ _ _ _
    rw [ea, eb, ec]
    clear ea eb ec Ia Ja Ra
    refine WQ_if_eq 28 dX10_early_18 rfl (fun c2836 => ?_) (fun c2836 => ?_)
    · refine WQ_bipush (-2) (-2) dX10_early_28 rfl rfl (fun v2838 hv2838 => ?_)
      exact WP_iret dX10_early_30 rfl ⟨⟨rfl, rfl, rfl⟩, _, rfl⟩
    · refine WP_iload_n dX10_early_21 rfl ?_
      refine WP_callS1 dX10_early_22 ⟨⟨⟨by decide, by decide⟩, zX10_isDay⟩, lX10_156, tX10_isDay⟩ (sx_isDay hy hr hI da ) (Nat.le_of_ble_eq_true rfl) ?_
      intro r Ia Ja Ra hq
      obtain ⟨⟨ea, eb, ec⟩, v2839, rfl, av2839, bv2839, cv2839⟩ := hq
      show WP _ _ _ _ (.int _ :: _) _ _ _ _
      rw [ea, eb, ec]
      clear ea eb ec Ia Ja Ra
      refine WQ_if_ne 31 dX10_early_25 rfl (fun c2839 => ?_) (fun c2839 => ?_)
      · refine WP_iload_n dX10_early_31 rfl ?_
        refine WP_istore (ls' := [(0, _), (1, _), (2, _), (3, _), (4, _)]) dX10_early_32 (by decide) rfl ?_
        refine WP_iload_n dX10_early_34 rfl ?_
        refine WQ_iconst (1) (1) dX10_early_35 rfl rfl (fun v2841 hv2841 => ?_)
        refine WQ_isub dX10_early_36 (by omega) (by omega) (fun v2842 hv2842 => ?_)
        refine WP_istore (ls' := [(0, _), (1, _), (2, _), (3, _), (4, _), (5, _)]) dX10_early_37 (by decide) rfl ?_
        have lp39_2844 : ∀ (mz : Nat) (i2843 : Int32) (i2844 : Int32), 0 ≤ i2843.toInt → i2843.toInt ≤ 999 → -1 ≤ i2844.toInt → i2844.toInt ≤ 59 → (i2844.toInt + 1).toNat < mz → WP g mX10_early 39 [(0, .ref (ad g 0)), (1, .int c), (2, .int dd), (3, .int da), (4, .int i2843), (5, .int i2844)] [] I J R (fun r I' J' R' => (I' = I ∧ J' = J ∧ R' = R) ∧ ∃ v : Int32, r = some (.int v)) := by
          intro mz
          induction mz with
          | zero =>
            intro i2843 i2844 ai2843 bi2843 ai2844 bi2844 hmlp39_2844
            exact absurd hmlp39_2844 (Nat.not_lt_zero _)
          | succ mz ihlp39_2844 =>
            intro i2843 i2844 ai2843 bi2843 ai2844 bi2844 hmlp39_2844
            refine WP_iload dX10_early_39 rfl ?_
            refine WQ_if_lt 78 dX10_early_41 rfl (fun c2845 => ?_) (fun c2845 => ?_)
            · refine WP_iload dX10_early_78 rfl ?_
              exact WP_iret dX10_early_80 rfl ⟨⟨rfl, rfl, rfl⟩, _, rfl⟩
            · refine WP_aload_n dX10_early_44 rfl ?_
              refine WP_getr dX10_early_45 fX10_33 rfl (lyx_is hy 0 10 rfl) (rfx hr 0 2 5 (by decide)) ?_
              refine WP_iload dX10_early_48 rfl ?_
              refine WP_iload_n dX10_early_50 rfl ?_
              refine WP_iload dX10_early_51 rfl ?_
              refine WQ_iadd dX10_early_53 (by omega) (by omega) (fun v2847 hv2847 => ?_)
              refine WQ_bipush (7) (7) dX10_early_54 rfl rfl (fun v2848 hv2848 => ?_)
              refine WQ_iremk (7) dX10_early_56 hv2848 (by decide) (by omega) (fun v2849 hv2849 => ?_)
              refine WP_callV2 (k := 0) dX10_early_57 ⟨⟨⟨by decide, by decide⟩, zX0_neededAhead⟩, lX10_293, by decide, rfl, vX0_neededAhead.1, vX0_neededAhead.2⟩ (lyx_is hy 5 0 rfl) (sx_neededAhead hy hr hI i2843 v2849 (by omega) (by omega) (by omega) (by omega)) (Nat.le_of_ble_eq_true rfl) ?_
              intro r Ia Ja Ra hq
              obtain ⟨⟨ea, eb, ec⟩, v2850, rfl, av2850, bv2850⟩ := hq
              show WP _ _ _ _ (.int _ :: _) _ _ _ _
              rw [ea, eb, ec]
              clear ea eb ec Ia Ja Ra
              refine WP_istore (ls' := [(0, _), (1, _), (2, _), (3, _), (4, _), (5, _)]) dX10_early_60 (by decide) rfl ?_
              refine WP_iload dX10_early_62 rfl ?_
              refine WQ_sipush (999) (999) dX10_early_64 rfl rfl (fun v2851 hv2851 => ?_)
              refine WQ_icmp_le 72 dX10_early_67 rfl (fun c2851 => ?_) (fun c2851 => ?_)
              · refine WP_iinc (ls' := [(0, _), (1, _), (2, _), (3, _), (4, _), (5, _)]) dX10_early_72 rfl (by decide) rfl ?_
                have hv2853 : (i2844 + Int32.ofInt (-1)).toInt = i2844.toInt + (-1) := ia_n rfl (by omega) (by omega)
                generalize i2844 + Int32.ofInt (-1) = v2853 at hv2853 ⊢
                refine WP_goto 39 dX10_early_75 rfl ?_
                exact WP_sub (fc rfl (fc rfl (fc rfl (fc rfl (fc rfl (fc rfl fn)))))) (ihlp39_2844 v2850 v2853 (by omega) (by omega) (by omega) (by omega) (by omega))
              · refine WQ_iconst (-1) (-1) dX10_early_70 rfl rfl (fun v2854 hv2854 => ?_)
                exact WP_iret dX10_early_71 rfl ⟨⟨rfl, rfl, rfl⟩, _, rfl⟩
        exact WP_sub (fc rfl (fc rfl (fc rfl (fc rfl (fc rfl (fc rfl fn)))))) (lp39_2844 _ c v2842 (by omega) (by omega) (by omega) (by omega) (Nat.lt_succ_self _))
      · refine WQ_bipush (-2) (-2) dX10_early_28 rfl rfl (fun v2855 hv2855 => ?_)
        exact WP_iret dX10_early_30 rfl ⟨⟨rfl, rfl, rfl⟩, _, rfl⟩
set_option maxHeartbeats 4000000 in
set_option maxRecDepth 100000 in
theorem sx_toldOfSort_6 {g : GG} {n : Int} {L : Int32} (hy : LyX g)  {I : pI} {J : pJ} {R : pR} (hr : RfX g R) (hI : XI g n L I) (ro : Int32) (so : Int32) (so_lo : 0 ≤ so.toInt) (so_hi : so.toInt ≤ 3) : SP g mX10_toldOfSort [.ref (ad g 6), .int ro, .int so] I J R (fun r I' J' R' => (I' = I ∧ J' = J ∧ R' = R) ∧ ∃ v : Int32, r = some (.int v)) := by
  refine SP_of ⟨by decide, rfl⟩ (Nat.le_of_ble_eq_true rfl) ?_
  have e2856 : I (ad g 1) 1 = L := hI.2
  have b2857 := BT_get hI.1 1 1 2 (0) (0) (900) (by decide) 1 (by decide) (by decide)
  rw [e2856] at b2857
  refine WP_iload_n dX10_toldOfSort_0 rfl ?_
  refine WP_tab 60 dX10_toldOfSort_1 rfl rfl (fun c2857 => ?_) (fun j off c2857 hj => ?_) (by decide)
  · refine WQ_iconst (-1) (-1) dX10_toldOfSort_60 rfl rfl (fun v2859 hv2859 => ?_)
    exact WP_iret dX10_toldOfSort_61 rfl ⟨⟨rfl, rfl, rfl⟩, _, rfl⟩
  · have hlt : j < 4 := by have := (Array.getElem?_eq_some_iff.mp hj).1; simpa using this
    have hcs : (j = 0 ∧ off = 31) ∨ (j = 1 ∧ off = 38) ∨ (j = 2 ∧ off = 45) ∨ (j = 3 ∧ off = 52) := by
      match j, hlt, hj with
      | 0, _, hj => exact Or.inl ⟨rfl, (Option.some.inj hj).symm⟩
      | 1, _, hj => exact Or.inr (Or.inl ⟨rfl, (Option.some.inj hj).symm⟩)
      | 2, _, hj => exact Or.inr (Or.inr (Or.inl ⟨rfl, (Option.some.inj hj).symm⟩))
      | 3, _, hj => exact Or.inr (Or.inr (Or.inr (⟨rfl, (Option.some.inj hj).symm⟩)))
    clear hj hlt
    rcases hcs with ⟨rfl, rfl⟩ | ⟨rfl, rfl⟩ | ⟨rfl, rfl⟩ | ⟨rfl, rfl⟩
    · show WP _ _ 32 _ _ _ _ _ _
      refine WP_aload_n dX10_toldOfSort_32 rfl ?_
      refine WP_getr dX10_toldOfSort_33 fX10_140 rfl (lyx_is hy 6 7 rfl) (rfx hr 6 6 8 (by decide)) ?_
      refine WP_iload_n dX10_toldOfSort_36 rfl ?_
      refine WQ_iald dX10_toldOfSort_37 (lyx_is hy 8 13 rfl) (lyx_n hy 8 4 rfl) (by omega) (by omega) (fun q hq => BT_get hI.1 8 0 4 (0) (0) (99) (by decide) q (Nat.zero_le _) hq) (fun v2860 av2860 bv2860 ev2860 => ?_)
      clear ev2860
      exact WP_iret dX10_toldOfSort_38 rfl ⟨⟨rfl, rfl, rfl⟩, _, rfl⟩
    · show WP _ _ 39 _ _ _ _ _ _
      refine WP_aload_n dX10_toldOfSort_39 rfl ?_
      refine WP_getr dX10_toldOfSort_40 fX10_143 rfl (lyx_is hy 6 7 rfl) (rfx hr 6 7 9 (by decide)) ?_
      refine WP_iload_n dX10_toldOfSort_43 rfl ?_
      refine WQ_iald dX10_toldOfSort_44 (lyx_is hy 9 13 rfl) (lyx_n hy 9 4 rfl) (by omega) (by omega) (fun q hq => BT_get hI.1 9 0 4 (0) (0) (1000) (by decide) q (Nat.zero_le _) hq) (fun v2861 av2861 bv2861 ev2861 => ?_)
      clear ev2861
      exact WP_iret dX10_toldOfSort_45 rfl ⟨⟨rfl, rfl, rfl⟩, _, rfl⟩
    · show WP _ _ 46 _ _ _ _ _ _
      refine WP_aload_n dX10_toldOfSort_46 rfl ?_
      refine WP_getr dX10_toldOfSort_47 fX10_146 rfl (lyx_is hy 6 7 rfl) (rfx hr 6 8 10 (by decide)) ?_
      refine WP_iload_n dX10_toldOfSort_50 rfl ?_
      refine WQ_iald dX10_toldOfSort_51 (lyx_is hy 10 13 rfl) (lyx_n hy 10 4 rfl) (by omega) (by omega) (fun q hq => BT_get hI.1 10 0 4 (0) (0) (60) (by decide) q (Nat.zero_le _) hq) (fun v2862 av2862 bv2862 ev2862 => ?_)
      clear ev2862
      exact WP_iret dX10_toldOfSort_52 rfl ⟨⟨rfl, rfl, rfl⟩, _, rfl⟩
    · show WP _ _ 53 _ _ _ _ _ _
      refine WP_aload_n dX10_toldOfSort_53 rfl ?_
      refine WP_getr dX10_toldOfSort_54 fX10_149 rfl (lyx_is hy 6 7 rfl) (rfx hr 6 9 11 (by decide)) ?_
      refine WP_iload_n dX10_toldOfSort_57 rfl ?_
      refine WQ_ialdu dX10_toldOfSort_58 (lyx_is hy 11 13 rfl) (lyx_n hy 11 4 rfl) (by omega) (by omega) (fun v2863 => ?_)
      exact WP_iret dX10_toldOfSort_59 rfl ⟨⟨rfl, rfl, rfl⟩, _, rfl⟩
set_option maxHeartbeats 4000000 in
set_option maxRecDepth 100000 in
theorem sx_toldOfSort_27 {g : GG} {n : Int} {L : Int32} (hy : LyX g)  {I : pI} {J : pJ} {R : pR} (hr : RfX g R) (hI : XI g n L I) (ro : Int32) (so : Int32) (so_lo : 0 ≤ so.toInt) (so_hi : so.toInt ≤ 3) : SP g mX10_toldOfSort [.ref (ad g 27), .int ro, .int so] I J R (fun r I' J' R' => (I' = I ∧ J' = J ∧ R' = R) ∧ ∃ v : Int32, r = some (.int v)) := by
  refine SP_of ⟨by decide, rfl⟩ (Nat.le_of_ble_eq_true rfl) ?_
  have e2864 : I (ad g 1) 1 = L := hI.2
  have b2865 := BT_get hI.1 1 1 2 (0) (0) (900) (by decide) 1 (by decide) (by decide)
  rw [e2864] at b2865
  refine WP_iload_n dX10_toldOfSort_0 rfl ?_
  refine WP_tab 60 dX10_toldOfSort_1 rfl rfl (fun c2865 => ?_) (fun j off c2865 hj => ?_) (by decide)
  · refine WQ_iconst (-1) (-1) dX10_toldOfSort_60 rfl rfl (fun v2867 hv2867 => ?_)
    exact WP_iret dX10_toldOfSort_61 rfl ⟨⟨rfl, rfl, rfl⟩, _, rfl⟩
  · have hlt : j < 4 := by have := (Array.getElem?_eq_some_iff.mp hj).1; simpa using this
    have hcs : (j = 0 ∧ off = 31) ∨ (j = 1 ∧ off = 38) ∨ (j = 2 ∧ off = 45) ∨ (j = 3 ∧ off = 52) := by
      match j, hlt, hj with
      | 0, _, hj => exact Or.inl ⟨rfl, (Option.some.inj hj).symm⟩
      | 1, _, hj => exact Or.inr (Or.inl ⟨rfl, (Option.some.inj hj).symm⟩)
      | 2, _, hj => exact Or.inr (Or.inr (Or.inl ⟨rfl, (Option.some.inj hj).symm⟩))
      | 3, _, hj => exact Or.inr (Or.inr (Or.inr (⟨rfl, (Option.some.inj hj).symm⟩)))
    clear hj hlt
    rcases hcs with ⟨rfl, rfl⟩ | ⟨rfl, rfl⟩ | ⟨rfl, rfl⟩ | ⟨rfl, rfl⟩
    · show WP _ _ 32 _ _ _ _ _ _
      refine WP_aload_n dX10_toldOfSort_32 rfl ?_
      refine WP_getr dX10_toldOfSort_33 fX10_140 rfl (lyx_is hy 27 7 rfl) (rfx hr 27 6 29 (by decide)) ?_
      refine WP_iload_n dX10_toldOfSort_36 rfl ?_
      refine WQ_iald dX10_toldOfSort_37 (lyx_is hy 29 13 rfl) (lyx_n hy 29 4 rfl) (by omega) (by omega) (fun q hq => BT_get hI.1 29 0 4 (0) (0) (99) (by decide) q (Nat.zero_le _) hq) (fun v2868 av2868 bv2868 ev2868 => ?_)
      clear ev2868
      exact WP_iret dX10_toldOfSort_38 rfl ⟨⟨rfl, rfl, rfl⟩, _, rfl⟩
    · show WP _ _ 39 _ _ _ _ _ _
      refine WP_aload_n dX10_toldOfSort_39 rfl ?_
      refine WP_getr dX10_toldOfSort_40 fX10_143 rfl (lyx_is hy 27 7 rfl) (rfx hr 27 7 30 (by decide)) ?_
      refine WP_iload_n dX10_toldOfSort_43 rfl ?_
      refine WQ_iald dX10_toldOfSort_44 (lyx_is hy 30 13 rfl) (lyx_n hy 30 4 rfl) (by omega) (by omega) (fun q hq => BT_get hI.1 30 0 4 (0) (0) (1000) (by decide) q (Nat.zero_le _) hq) (fun v2869 av2869 bv2869 ev2869 => ?_)
      clear ev2869
      exact WP_iret dX10_toldOfSort_45 rfl ⟨⟨rfl, rfl, rfl⟩, _, rfl⟩
    · show WP _ _ 46 _ _ _ _ _ _
      refine WP_aload_n dX10_toldOfSort_46 rfl ?_
      refine WP_getr dX10_toldOfSort_47 fX10_146 rfl (lyx_is hy 27 7 rfl) (rfx hr 27 8 31 (by decide)) ?_
      refine WP_iload_n dX10_toldOfSort_50 rfl ?_
      refine WQ_iald dX10_toldOfSort_51 (lyx_is hy 31 13 rfl) (lyx_n hy 31 4 rfl) (by omega) (by omega) (fun q hq => BT_get hI.1 31 0 4 (0) (0) (60) (by decide) q (Nat.zero_le _) hq) (fun v2870 av2870 bv2870 ev2870 => ?_)
      clear ev2870
      exact WP_iret dX10_toldOfSort_52 rfl ⟨⟨rfl, rfl, rfl⟩, _, rfl⟩
    · show WP _ _ 53 _ _ _ _ _ _
      refine WP_aload_n dX10_toldOfSort_53 rfl ?_
      refine WP_getr dX10_toldOfSort_54 fX10_149 rfl (lyx_is hy 27 7 rfl) (rfx hr 27 9 32 (by decide)) ?_
      refine WP_iload_n dX10_toldOfSort_57 rfl ?_
      refine WQ_ialdu dX10_toldOfSort_58 (lyx_is hy 32 13 rfl) (lyx_n hy 32 4 rfl) (by omega) (by omega) (fun v2871 => ?_)
      exact WP_iret dX10_toldOfSort_59 rfl ⟨⟨rfl, rfl, rfl⟩, _, rfl⟩
set_option maxHeartbeats 4000000 in
set_option maxRecDepth 100000 in
theorem sx_isSort_6 {g : GG} {n : Int} {L : Int32} (hy : LyX g)  {I : pI} {J : pJ} {R : pR} (hr : RfX g R) (hT : R (ad g 5) 0 = some (ad g 6)) (hI : XI g n L I) (a : Int32)  : SP g mX10_isSort [.ref (ad g 0), .int a] I J R (fun r I' J' R' => (I' = I ∧ J' = J ∧ R' = R) ∧ ∃ v : Int32, r = some (.int v) ∧ 0 ≤ v.toInt ∧ v.toInt ≤ 1 ∧ (v.toInt = 1 → 0 ≤ a.toInt ∧ a.toInt ≤ 3)) := by
  refine SP_of ⟨by decide, rfl⟩ (Nat.le_of_ble_eq_true rfl) ?_
  have e2872 : I (ad g 1) 1 = L := hI.2
  have b2873 := BT_get hI.1 1 1 2 (0) (0) (900) (by decide) 1 (by decide) (by decide)
  rw [e2872] at b2873
  refine WP_iload_n dX10_isSort_0 rfl ?_
  refine WQ_if_lt 22 dX10_isSort_1 rfl (fun c2873 => ?_) (fun c2873 => ?_)
  · refine WQ_iconst (0) (0) dX10_isSort_22 rfl rfl (fun v2875 hv2875 => ?_)
    exact WP_zret dX10_isSort_23 rfl (nar_z (by omega)) ⟨⟨rfl, rfl, rfl⟩, _, rfl, by omega, by omega, by omega⟩
  · refine WP_iload_n dX10_isSort_4 rfl ?_
    refine WP_aload_n dX10_isSort_5 rfl ?_
    refine WP_getr dX10_isSort_6 fX10_33 rfl (lyx_is hy 0 10 rfl) (rfx hr 0 2 5 (by decide)) ?_
    refine WP_getr dX10_isSort_9 fX10_102 rfl (lyx_is hy 5 0 rfl) hT ?_
    refine WQ_geti dX10_isSort_12 fX10_114 rfl (lyx_is hy 6 7 rfl) (BT_get hI.1 6 1 2 (0) (0) (4) (by decide) 1 (by decide) (by decide)) (fun v2876 ev2876 av2876 bv2876 => ?_)
    refine WQ_icmp_ge 22 dX10_isSort_15 rfl (fun c2876 => ?_) (fun c2876 => ?_)
    · refine WQ_iconst (0) (0) dX10_isSort_22 rfl rfl (fun v2878 hv2878 => ?_)
      exact WP_zret dX10_isSort_23 rfl (nar_z (by omega)) ⟨⟨rfl, rfl, rfl⟩, _, rfl, by omega, by omega, by omega⟩
    · refine WQ_iconst (1) (1) dX10_isSort_18 rfl rfl (fun v2879 hv2879 => ?_)
      refine WP_goto 23 dX10_isSort_19 rfl ?_
      exact WP_zret dX10_isSort_23 rfl (nar_z (by omega)) ⟨⟨rfl, rfl, rfl⟩, _, rfl, by omega, by omega, by omega⟩
set_option maxHeartbeats 4000000 in
set_option maxRecDepth 100000 in
theorem sx_isThing_6 {g : GG} {n : Int} {L : Int32} (hy : LyX g)  {I : pI} {J : pJ} {R : pR} (hr : RfX g R) (hT : R (ad g 5) 0 = some (ad g 6)) (hI : XI g n L I) (a : Int32)  : SP g mX10_isThing [.ref (ad g 0), .int a] I J R (fun r I' J' R' => (I' = I ∧ J' = J ∧ R' = R) ∧ ∃ v : Int32, r = some (.int v) ∧ 0 ≤ v.toInt ∧ v.toInt ≤ 1 ∧ (v.toInt = 1 → 0 ≤ a.toInt ∧ a.toInt ≤ 2)) := by
  refine SP_of ⟨by decide, rfl⟩ (Nat.le_of_ble_eq_true rfl) ?_
  have e2880 : I (ad g 1) 1 = L := hI.2
  have b2881 := BT_get hI.1 1 1 2 (0) (0) (900) (by decide) 1 (by decide) (by decide)
  rw [e2880] at b2881
  refine WP_iload_n dX10_isThing_0 rfl ?_
  refine WQ_if_lt 22 dX10_isThing_1 rfl (fun c2881 => ?_) (fun c2881 => ?_)
  · refine WQ_iconst (0) (0) dX10_isThing_22 rfl rfl (fun v2883 hv2883 => ?_)
    exact WP_zret dX10_isThing_23 rfl (nar_z (by omega)) ⟨⟨rfl, rfl, rfl⟩, _, rfl, by omega, by omega, by omega⟩
  · refine WP_iload_n dX10_isThing_4 rfl ?_
    refine WP_aload_n dX10_isThing_5 rfl ?_
    refine WP_getr dX10_isThing_6 fX10_33 rfl (lyx_is hy 0 10 rfl) (rfx hr 0 2 5 (by decide)) ?_
    refine WP_getr dX10_isThing_9 fX10_102 rfl (lyx_is hy 5 0 rfl) hT ?_
    refine WQ_geti dX10_isThing_12 fX10_117 rfl (lyx_is hy 6 7 rfl) (BT_get hI.1 6 2 3 (0) (0) (3) (by decide) 2 (by decide) (by decide)) (fun v2884 ev2884 av2884 bv2884 => ?_)
    refine WQ_icmp_ge 22 dX10_isThing_15 rfl (fun c2884 => ?_) (fun c2884 => ?_)
    · refine WQ_iconst (0) (0) dX10_isThing_22 rfl rfl (fun v2886 hv2886 => ?_)
      exact WP_zret dX10_isThing_23 rfl (nar_z (by omega)) ⟨⟨rfl, rfl, rfl⟩, _, rfl, by omega, by omega, by omega⟩
    · refine WQ_iconst (1) (1) dX10_isThing_18 rfl rfl (fun v2887 hv2887 => ?_)
      refine WP_goto 23 dX10_isThing_19 rfl ?_
      exact WP_zret dX10_isThing_23 rfl (nar_z (by omega)) ⟨⟨rfl, rfl, rfl⟩, _, rfl, by omega, by omega, by omega⟩
set_option maxHeartbeats 4000000 in
set_option maxRecDepth 100000 in
theorem sx_isPerson_6 {g : GG} {n : Int} {L : Int32} (hy : LyX g)  {I : pI} {J : pJ} {R : pR} (hr : RfX g R) (hT : R (ad g 5) 0 = some (ad g 6)) (hI : XI g n L I) (a : Int32) (b : Int32) (c : Int32) (e : Int32)  : SP g mX10_isPerson [.ref (ad g 0), .int a, .int b, .int c, .int e] I J R (fun r I' J' R' => (I' = I ∧ J' = J ∧ R' = R) ∧ ∃ v : Int32, r = some (.int v) ∧ 0 ≤ v.toInt ∧ v.toInt ≤ 1 ∧ (v.toInt = 1 → (0 ≤ a.toInt ∧ a.toInt ≤ 3) ∧ (0 ≤ b.toInt ∧ b.toInt ≤ 6) ∧ (0 ≤ c.toInt ∧ c.toInt ≤ 60) ∧ (0 ≤ e.toInt ∧ e.toInt ≤ 5))) := by
  refine SP_of ⟨by decide, rfl⟩ (Nat.le_of_ble_eq_true rfl) ?_
  have e2888 : I (ad g 1) 1 = L := hI.2
  have b2889 := BT_get hI.1 1 1 2 (0) (0) (900) (by decide) 1 (by decide) (by decide)
  rw [e2888] at b2889
  refine WP_aload_n dX10_isPerson_0 rfl ?_
  refine WP_iload_n dX10_isPerson_1 rfl ?_
  refine WP_callV1 (k := 10) dX10_isPerson_2 ⟨⟨⟨by decide, by decide⟩, zX10_isSort⟩, lX10_152, by decide, rfl, vX10_isSort.1, vX10_isSort.2⟩ (lyx_is hy 0 10 rfl) (sx_isSort_6 hy hr hT hI a ) (Nat.le_of_ble_eq_true rfl) ?_
  intro r Ia Ja Ra hq
  obtain ⟨⟨ea, eb, ec⟩, v2890, rfl, av2890, bv2890, cv2890⟩ := hq
  show WP _ _ _ _ (.int _ :: _) _ _ _ _
  rw [ea, eb, ec]
  clear ea eb ec Ia Ja Ra
  refine WQ_if_eq 28 dX10_isPerson_5 rfl (fun c2890 => ?_) (fun c2890 => ?_)
  · refine WQ_iconst (0) (0) dX10_isPerson_28 rfl rfl (fun v2892 hv2892 => ?_)
    exact WP_zret dX10_isPerson_29 rfl (nar_z (by omega)) ⟨⟨rfl, rfl, rfl⟩, _, rfl, by omega, by omega, by omega⟩
  · refine WP_iload_n dX10_isPerson_8 rfl ?_
    refine WP_callS1 dX10_isPerson_9 ⟨⟨⟨by decide, by decide⟩, zX10_isDay⟩, lX10_156, tX10_isDay⟩ (sx_isDay hy hr hI b ) (Nat.le_of_ble_eq_true rfl) ?_
    intro r Ia Ja Ra hq
    obtain ⟨⟨ea, eb, ec⟩, v2893, rfl, av2893, bv2893, cv2893⟩ := hq
    show WP _ _ _ _ (.int _ :: _) _ _ _ _
    rw [ea, eb, ec]
    clear ea eb ec Ia Ja Ra
    refine WQ_if_eq 28 dX10_isPerson_12 rfl (fun c2893 => ?_) (fun c2893 => ?_)
    · refine WQ_iconst (0) (0) dX10_isPerson_28 rfl rfl (fun v2895 hv2895 => ?_)
      exact WP_zret dX10_isPerson_29 rfl (nar_z (by omega)) ⟨⟨rfl, rfl, rfl⟩, _, rfl, by omega, by omega, by omega⟩
    · refine WP_iload_n dX10_isPerson_15 rfl ?_
      refine WP_iload dX10_isPerson_16 rfl ?_
      refine WP_callS2 dX10_isPerson_18 ⟨⟨⟨by decide, by decide⟩, zX10_isHeld⟩, lX10_180, tX10_isHeld⟩ (sx_isHeld hy hr hI c e  ) (Nat.le_of_ble_eq_true rfl) ?_
      intro r Ia Ja Ra hq
      obtain ⟨⟨ea, eb, ec⟩, v2896, rfl, av2896, bv2896, cv2896⟩ := hq
      show WP _ _ _ _ (.int _ :: _) _ _ _ _
      rw [ea, eb, ec]
      clear ea eb ec Ia Ja Ra
      refine WQ_if_eq 28 dX10_isPerson_21 rfl (fun c2896 => ?_) (fun c2896 => ?_)
      · refine WQ_iconst (0) (0) dX10_isPerson_28 rfl rfl (fun v2898 hv2898 => ?_)
        exact WP_zret dX10_isPerson_29 rfl (nar_z (by omega)) ⟨⟨rfl, rfl, rfl⟩, _, rfl, by omega, by omega, by omega⟩
      · refine WQ_iconst (1) (1) dX10_isPerson_24 rfl rfl (fun v2899 hv2899 => ?_)
        refine WP_goto 29 dX10_isPerson_25 rfl ?_
        exact WP_zret dX10_isPerson_29 rfl (nar_z (by omega)) ⟨⟨rfl, rfl, rfl⟩, _, rfl, by omega, by omega, by omega⟩
set_option maxHeartbeats 4000000 in
set_option maxRecDepth 100000 in
theorem sx_told_6 {g : GG} {n : Int} {L : Int32} (hy : LyX g)  {I : pI} {J : pJ} {R : pR} (hr : RfX g R) (hT : R (ad g 5) 0 = some (ad g 6)) (hI : XI g n L I) (a : Int32)  : SP g mX10_told [.ref (ad g 0), .int a] I J R (fun r I' J' R' => (I' = I ∧ J' = J ∧ R' = R) ∧ ∃ v : Int32, r = some (.int v)) := by
  refine SP_of ⟨by decide, rfl⟩ (Nat.le_of_ble_eq_true rfl) ?_
  have e2900 : I (ad g 1) 1 = L := hI.2
  have b2901 := BT_get hI.1 1 1 2 (0) (0) (900) (by decide) 1 (by decide) (by decide)
  rw [e2900] at b2901
  refine WP_aload_n dX10_told_0 rfl ?_
  refine WP_getr dX10_told_1 fX10_33 rfl (lyx_is hy 0 10 rfl) (rfx hr 0 2 5 (by decide)) ?_
  refine WP_getr dX10_told_4 fX10_102 rfl (lyx_is hy 5 0 rfl) hT ?_
  refine WP_astore_n (ls' := [(0, _), (1, _), (2, _)]) dX10_told_7 (by decide) rfl ?_
  refine WP_iload_n dX10_told_8 rfl ?_
  refine WP_tab 60 dX10_told_9 rfl rfl (fun c2901 => ?_) (fun j off c2901 hj => ?_) (by decide)
  · refine WP_iload_n dX10_told_60 rfl ?_
    refine WQ_bipush (10) (10) dX10_told_61 rfl rfl (fun v2903 hv2903 => ?_)
    refine WQ_idivu dX10_told_63 (by omega) (fun v2904 => ?_)
    refine WP_istore_n (ls' := [(0, _), (1, _), (2, _), (3, _)]) dX10_told_64 (by decide) rfl ?_
    refine WP_iload_n dX10_told_65 rfl ?_
    refine WQ_bipush (10) (10) dX10_told_66 rfl rfl (fun v2905 hv2905 => ?_)
    refine WQ_iremi (10) dX10_told_68 hv2905 (by decide) (fun v2906 hv2906 => ?_)
    refine WP_istore (ls' := [(0, _), (1, _), (2, _), (3, _), (4, _)]) dX10_told_69 (by decide) rfl ?_
    refine WP_iload dX10_told_71 rfl ?_
    refine WQ_if_ge 78 dX10_told_73 rfl (fun c2906 => ?_) (fun c2906 => ?_)
    · refine WP_iload_n dX10_told_78 rfl ?_
      refine WQ_iconst (1) (1) dX10_told_79 rfl rfl (fun v2908 hv2908 => ?_)
      refine WQ_icmp_ne 102 dX10_told_80 rfl (fun c2908 => ?_) (fun c2908 => ?_)
      · refine WP_iload_n dX10_told_102 rfl ?_
        refine WQ_bipush (6) (6) dX10_told_103 rfl rfl (fun v2910 hv2910 => ?_)
        refine WQ_icmp_eq 114 dX10_told_105 rfl (fun c2910 => ?_) (fun c2910 => ?_)
        · refine WP_iload dX10_told_114 rfl ?_
          refine WP_aload_n dX10_told_116 rfl ?_
          refine WQ_geti dX10_told_117 fX10_117 rfl (lyx_is hy 6 7 rfl) (BT_get hI.1 6 2 3 (0) (0) (3) (by decide) 2 (by decide) (by decide)) (fun v2912 ev2912 av2912 bv2912 => ?_)
          have jn150_2917 : ∀ (v2917 : Int32), -1 ≤ v2917.toInt → v2917.toInt ≤ 1000 → WP g mX10_told 150 [(0, .ref (ad g 0)), (1, .int a), (2, .ref (ad g 6)), (3, .int v2904), (4, .int v2906)] [.int v2917] I J R (fun r I' J' R' => (I' = I ∧ J' = J ∧ R' = R) ∧ ∃ v : Int32, r = some (.int v)) := by
            intro v2917 av2917 bv2917
            exact WP_iret dX10_told_150 rfl ⟨⟨rfl, rfl, rfl⟩, _, rfl⟩
          refine WQ_icmp_ge 149 dX10_told_120 rfl (fun c2918 => ?_) (fun c2918 => ?_)
          · refine WQ_iconst (-1) (-1) dX10_told_149 rfl rfl (fun v2920 hv2920 => ?_)
            exact WP_sub (fc rfl (fc rfl (fc rfl (fc rfl (fc rfl fn))))) (jn150_2917 v2920 (by omega) (by omega))
          · refine WP_iload_n dX10_told_123 rfl ?_
            refine WQ_bipush (6) (6) dX10_told_124 rfl rfl (fun v2921 hv2921 => ?_)
            refine WQ_icmp_ne 139 dX10_told_126 rfl (fun c2921 => False.elim (by omega)) (fun c2921 => ?_)
            refine WP_aload_n dX10_told_129 rfl ?_
            refine WP_getr dX10_told_130 fX10_130 rfl (lyx_is hy 6 7 rfl) (rfx hr 6 14 16 (by decide)) ?_
            refine WP_iload dX10_told_133 rfl ?_
            refine WQ_iald dX10_told_135 (lyx_is hy 16 13 rfl) (lyx_n hy 16 3 rfl) (by omega) (by omega) (fun q hq => BT_get hI.1 16 0 3 (0) (0) (1000) (by decide) q (Nat.zero_le _) hq) (fun v2923 av2923 bv2923 ev2923 => ?_)
            clear ev2923
            refine WP_goto 150 dX10_told_136 rfl ?_
            exact WP_sub (fc rfl (fc rfl (fc rfl (fc rfl (fc rfl fn))))) (jn150_2917 v2923 (by omega) (by omega))
        · refine WP_iload_n dX10_told_108 rfl ?_
          refine WQ_bipush (7) (7) dX10_told_109 rfl rfl (fun v2924 hv2924 => ?_)
          refine WQ_icmp_ne 151 dX10_told_111 rfl (fun c2924 => ?_) (fun c2924 => ?_)
          · refine WP_iload dX10_told_151 rfl ?_
            refine WP_aload_n dX10_told_153 rfl ?_
            refine WQ_geti dX10_told_154 fX10_114 rfl (lyx_is hy 6 7 rfl) (BT_get hI.1 6 1 2 (0) (0) (4) (by decide) 1 (by decide) (by decide)) (fun v2926 ev2926 av2926 bv2926 => ?_)
            refine WQ_icmp_ge 170 dX10_told_157 rfl (fun c2926 => ?_) (fun c2926 => ?_)
            · refine WQ_iconst (-1) (-1) dX10_told_170 rfl rfl (fun v2928 hv2928 => ?_)
              exact WP_iret dX10_told_171 rfl ⟨⟨rfl, rfl, rfl⟩, _, rfl⟩
            · refine WP_aload_n dX10_told_160 rfl ?_
              refine WP_iload_n dX10_told_161 rfl ?_
              refine WP_iload dX10_told_162 rfl ?_
              refine WP_callS3 dX10_told_164 ⟨⟨⟨by decide, by decide⟩, zX10_toldOfSort⟩, lX10_136, tX10_toldOfSort⟩ (sx_toldOfSort_6 hy hr hI v2904 v2906  (by omega) (by omega)) (Nat.le_of_ble_eq_true rfl) ?_
              intro r Ia Ja Ra hq
              obtain ⟨⟨ea, eb, ec⟩, v2929, rfl⟩ := hq
              show WP _ _ _ _ (.int _ :: _) _ _ _ _
              rw [ea, eb, ec]
              clear ea eb ec Ia Ja Ra
              refine WP_goto 171 dX10_told_167 rfl ?_
              exact WP_iret dX10_told_171 rfl ⟨⟨rfl, rfl, rfl⟩, _, rfl⟩
          · refine WP_iload dX10_told_114 rfl ?_
            refine WP_aload_n dX10_told_116 rfl ?_
            refine WQ_geti dX10_told_117 fX10_117 rfl (lyx_is hy 6 7 rfl) (BT_get hI.1 6 2 3 (0) (0) (3) (by decide) 2 (by decide) (by decide)) (fun v2930 ev2930 av2930 bv2930 => ?_)
            have jn150_2935 : ∀ (v2935 : Int32), -1 ≤ v2935.toInt → v2935.toInt ≤ 9 → WP g mX10_told 150 [(0, .ref (ad g 0)), (1, .int a), (2, .ref (ad g 6)), (3, .int v2904), (4, .int v2906)] [.int v2935] I J R (fun r I' J' R' => (I' = I ∧ J' = J ∧ R' = R) ∧ ∃ v : Int32, r = some (.int v)) := by
              intro v2935 av2935 bv2935
              exact WP_iret dX10_told_150 rfl ⟨⟨rfl, rfl, rfl⟩, _, rfl⟩
            refine WQ_icmp_ge 149 dX10_told_120 rfl (fun c2936 => ?_) (fun c2936 => ?_)
            · refine WQ_iconst (-1) (-1) dX10_told_149 rfl rfl (fun v2938 hv2938 => ?_)
              exact WP_sub (fc rfl (fc rfl (fc rfl (fc rfl (fc rfl fn))))) (jn150_2935 v2938 (by omega) (by omega))
            · refine WP_iload_n dX10_told_123 rfl ?_
              refine WQ_bipush (6) (6) dX10_told_124 rfl rfl (fun v2939 hv2939 => ?_)
              refine WQ_icmp_ne 139 dX10_told_126 rfl (fun c2939 => ?_) (fun c2939 => False.elim (by omega))
              refine WP_aload_n dX10_told_139 rfl ?_
              refine WP_getr dX10_told_140 fX10_133 rfl (lyx_is hy 6 7 rfl) (rfx hr 6 15 17 (by decide)) ?_
              refine WP_iload dX10_told_143 rfl ?_
              refine WQ_iald dX10_told_145 (lyx_is hy 17 13 rfl) (lyx_n hy 17 3 rfl) (by omega) (by omega) (fun q hq => BT_get hI.1 17 0 3 (0) (0) (9) (by decide) q (Nat.zero_le _) hq) (fun v2941 av2941 bv2941 ev2941 => ?_)
              clear ev2941
              refine WP_goto 150 dX10_told_146 rfl ?_
              exact WP_sub (fc rfl (fc rfl (fc rfl (fc rfl (fc rfl fn))))) (jn150_2935 v2941 (by omega) (by omega))
      · refine WP_iload dX10_told_83 rfl ?_
        refine WQ_bipush (7) (7) dX10_told_85 rfl rfl (fun v2942 hv2942 => ?_)
        have jn101_2945 : ∀ (v2945 : Int32), -1 ≤ v2945.toInt → v2945.toInt ≤ 900 → WP g mX10_told 101 [(0, .ref (ad g 0)), (1, .int a), (2, .ref (ad g 6)), (3, .int v2904), (4, .int v2906)] [.int v2945] I J R (fun r I' J' R' => (I' = I ∧ J' = J ∧ R' = R) ∧ ∃ v : Int32, r = some (.int v)) := by
          intro v2945 av2945 bv2945
          exact WP_iret dX10_told_101 rfl ⟨⟨rfl, rfl, rfl⟩, _, rfl⟩
        refine WQ_icmp_ge 100 dX10_told_87 rfl (fun c2946 => ?_) (fun c2946 => ?_)
        · refine WQ_iconst (-1) (-1) dX10_told_100 rfl rfl (fun v2948 hv2948 => ?_)
          exact WP_sub (fc rfl (fc rfl (fc rfl (fc rfl (fc rfl fn))))) (jn101_2945 v2948 (by omega) (by omega))
        · refine WP_aload_n dX10_told_90 rfl ?_
          refine WP_getr dX10_told_91 fX10_126 rfl (lyx_is hy 6 7 rfl) (rfx hr 6 5 7 (by decide)) ?_
          refine WP_iload dX10_told_94 rfl ?_
          refine WQ_iald dX10_told_96 (lyx_is hy 7 13 rfl) (lyx_n hy 7 7 rfl) (by omega) (by omega) (fun q hq => BT_get hI.1 7 0 7 (0) (0) (900) (by decide) q (Nat.zero_le _) hq) (fun v2949 av2949 bv2949 ev2949 => ?_)
          clear ev2949
          refine WP_goto 101 dX10_told_97 rfl ?_
          exact WP_sub (fc rfl (fc rfl (fc rfl (fc rfl (fc rfl fn))))) (jn101_2945 v2949 (by omega) (by omega))
    · refine WQ_iconst (-1) (-1) dX10_told_76 rfl rfl (fun v2950 hv2950 => ?_)
      exact WP_iret dX10_told_77 rfl ⟨⟨rfl, rfl, rfl⟩, _, rfl⟩
  · have hlt : j < 4 := by have := (Array.getElem?_eq_some_iff.mp hj).1; simpa using this
    have hcs : (j = 0 ∧ off = 31) ∨ (j = 1 ∧ off = 36) ∨ (j = 2 ∧ off = 41) ∨ (j = 3 ∧ off = 46) := by
      match j, hlt, hj with
      | 0, _, hj => exact Or.inl ⟨rfl, (Option.some.inj hj).symm⟩
      | 1, _, hj => exact Or.inr (Or.inl ⟨rfl, (Option.some.inj hj).symm⟩)
      | 2, _, hj => exact Or.inr (Or.inr (Or.inl ⟨rfl, (Option.some.inj hj).symm⟩))
      | 3, _, hj => exact Or.inr (Or.inr (Or.inr (⟨rfl, (Option.some.inj hj).symm⟩)))
    clear hj hlt
    rcases hcs with ⟨rfl, rfl⟩ | ⟨rfl, rfl⟩ | ⟨rfl, rfl⟩ | ⟨rfl, rfl⟩
    · show WP _ _ 40 _ _ _ _ _ _
      refine WP_aload_n dX10_told_40 rfl ?_
      refine WQ_geti dX10_told_41 fX10_114 rfl (lyx_is hy 6 7 rfl) (BT_get hI.1 6 1 2 (0) (0) (4) (by decide) 1 (by decide) (by decide)) (fun v2951 ev2951 av2951 bv2951 => ?_)
      exact WP_iret dX10_told_44 rfl ⟨⟨rfl, rfl, rfl⟩, _, rfl⟩
    · show WP _ _ 45 _ _ _ _ _ _
      refine WP_aload_n dX10_told_45 rfl ?_
      refine WQ_geti dX10_told_46 fX10_117 rfl (lyx_is hy 6 7 rfl) (BT_get hI.1 6 2 3 (0) (0) (3) (by decide) 2 (by decide) (by decide)) (fun v2952 ev2952 av2952 bv2952 => ?_)
      exact WP_iret dX10_told_49 rfl ⟨⟨rfl, rfl, rfl⟩, _, rfl⟩
    · show WP _ _ 50 _ _ _ _ _ _
      refine WP_aload_n dX10_told_50 rfl ?_
      refine WQ_geti dX10_told_51 fX10_120 rfl (lyx_is hy 6 7 rfl) (BT_get hI.1 6 3 4 (-1) (0) (3) (by decide) 3 (by decide) (by decide)) (fun v2953 ev2953 av2953 bv2953 => ?_)
      exact WP_iret dX10_told_54 rfl ⟨⟨rfl, rfl, rfl⟩, _, rfl⟩
    · show WP _ _ 55 _ _ _ _ _ _
      refine WP_aload_n dX10_told_55 rfl ?_
      refine WQ_geti dX10_told_56 fX10_123 rfl (lyx_is hy 6 7 rfl) (BT_get hI.1 6 4 5 (-1) (0) (2) (by decide) 4 (by decide) (by decide)) (fun v2954 ev2954 av2954 bv2954 => ?_)
      exact WP_iret dX10_told_59 rfl ⟨⟨rfl, rfl, rfl⟩, _, rfl⟩
set_option maxHeartbeats 4000000 in
set_option maxRecDepth 100000 in
theorem sx_earns_6 {g : GG} {n : Int} {L : Int32} (hy : LyX g)  {I : pI} {J : pJ} {R : pR} (hr : RfX g R) (hT : R (ad g 5) 0 = some (ad g 6)) (hI : XI g n L I) (a : Int32) (b : Int32)  : SP g mX10_earns [.ref (ad g 0), .int a, .int b] I J R (fun r I' J' R' => (I' = I ∧ J' = J ∧ R' = R) ∧ ∃ v : Int32, r = some (.int v)) := by
  refine SP_of ⟨by decide, rfl⟩ (Nat.le_of_ble_eq_true rfl) ?_
  have e2955 : I (ad g 1) 1 = L := hI.2
  have b2956 := BT_get hI.1 1 1 2 (0) (0) (900) (by decide) 1 (by decide) (by decide)
  rw [e2955] at b2956
  refine WP_aload_n dX10_earns_0 rfl ?_
  refine WP_iload_n dX10_earns_1 rfl ?_
  refine WP_callV1 (k := 10) dX10_earns_2 ⟨⟨⟨by decide, by decide⟩, zX10_isSort⟩, lX10_152, by decide, rfl, vX10_isSort.1, vX10_isSort.2⟩ (lyx_is hy 0 10 rfl) (sx_isSort_6 hy hr hT hI a ) (Nat.le_of_ble_eq_true rfl) ?_
  intro r Ia Ja Ra hq
  obtain ⟨⟨ea, eb, ec⟩, v2957, rfl, av2957, bv2957, cv2957⟩ := hq
  show WP _ _ _ _ (.int _ :: _) _ _ _ _
  rw [ea, eb, ec]
  clear ea eb ec Ia Ja Ra
  have jn37_2966 : ∀ (v2966 : Int32), -2 ≤ v2966.toInt → v2966.toInt ≤ 20 → WP g mX10_earns 37 [(0, .ref (ad g 0)), (1, .int a), (2, .int b)] [.int v2966] I J R (fun r I' J' R' => (I' = I ∧ J' = J ∧ R' = R) ∧ ∃ v : Int32, r = some (.int v)) := by
    intro v2966 av2966 bv2966
    exact WP_iret dX10_earns_37 rfl ⟨⟨rfl, rfl, rfl⟩, _, rfl⟩
  refine WQ_if_eq 35 dX10_earns_5 rfl (fun c2967 => ?_) (fun c2967 => ?_)
  · refine WQ_bipush (-2) (-2) dX10_earns_35 rfl rfl (fun v2969 hv2969 => ?_)
    exact WP_sub (fc rfl (fc rfl (fc rfl fn))) (jn37_2966 v2969 (by omega) (by omega))
  · refine WP_iload_n dX10_earns_8 rfl ?_
    refine WP_callS1 dX10_earns_9 ⟨⟨⟨by decide, by decide⟩, zX10_isDay⟩, lX10_156, tX10_isDay⟩ (sx_isDay hy hr hI b ) (Nat.le_of_ble_eq_true rfl) ?_
    intro r Ia Ja Ra hq
    obtain ⟨⟨ea, eb, ec⟩, v2970, rfl, av2970, bv2970, cv2970⟩ := hq
    show WP _ _ _ _ (.int _ :: _) _ _ _ _
    rw [ea, eb, ec]
    clear ea eb ec Ia Ja Ra
    refine WQ_if_eq 35 dX10_earns_12 rfl (fun c2970 => ?_) (fun c2970 => ?_)
    · refine WQ_bipush (-2) (-2) dX10_earns_35 rfl rfl (fun v2972 hv2972 => ?_)
      exact WP_sub (fc rfl (fc rfl (fc rfl fn))) (jn37_2966 v2972 (by omega) (by omega))
    · refine WP_aload_n dX10_earns_15 rfl ?_
      refine WP_getr dX10_earns_16 fX10_33 rfl (lyx_is hy 0 10 rfl) (rfx hr 0 2 5 (by decide)) ?_
      refine WP_getr dX10_earns_19 fX10_102 rfl (lyx_is hy 5 0 rfl) hT ?_
      refine WP_getr dX10_earns_22 fX10_159 rfl (lyx_is hy 6 7 rfl) (rfx hr 6 10 12 (by decide)) ?_
      refine WP_iload_n dX10_earns_25 rfl ?_
      refine WQ_bipush (7) (7) dX10_earns_26 rfl rfl (fun v2973 hv2973 => ?_)
      refine WQ_imulk (7) dX10_earns_28 hv2973 (by omega) (by omega) (fun v2974 hv2974 => ?_)
      refine WP_iload_n dX10_earns_29 rfl ?_
      refine WQ_iadd dX10_earns_30 (by omega) (by omega) (fun v2975 hv2975 => ?_)
      refine WQ_iald dX10_earns_31 (lyx_is hy 12 13 rfl) (lyx_n hy 12 28 rfl) (by omega) (by omega) (fun q hq => BT_get hI.1 12 0 28 (0) (0) (20) (by decide) q (Nat.zero_le _) hq) (fun v2976 av2976 bv2976 ev2976 => ?_)
      clear ev2976
      refine WP_goto 37 dX10_earns_32 rfl ?_
      exact WP_sub (fc rfl (fc rfl (fc rfl fn))) (jn37_2966 v2976 (by omega) (by omega))
set_option maxHeartbeats 4000000 in
set_option maxRecDepth 100000 in
theorem sx_price_6 {g : GG} {n : Int} {L : Int32} (hy : LyX g)  {I : pI} {J : pJ} {R : pR} (hr : RfX g R) (hT : R (ad g 5) 0 = some (ad g 6)) (hI : XI g n L I) (a : Int32) (b : Int32)  : SP g mX10_price [.ref (ad g 0), .int a, .int b] I J R (fun r I' J' R' => (I' = I ∧ J' = J ∧ R' = R) ∧ ∃ v : Int32, r = some (.int v)) := by
  refine SP_of ⟨by decide, rfl⟩ (Nat.le_of_ble_eq_true rfl) ?_
  have e2977 : I (ad g 1) 1 = L := hI.2
  have b2978 := BT_get hI.1 1 1 2 (0) (0) (900) (by decide) 1 (by decide) (by decide)
  rw [e2977] at b2978
  refine WP_aload_n dX10_price_0 rfl ?_
  refine WP_iload_n dX10_price_1 rfl ?_
  refine WP_callV1 (k := 10) dX10_price_2 ⟨⟨⟨by decide, by decide⟩, zX10_isThing⟩, lX10_162, by decide, rfl, vX10_isThing.1, vX10_isThing.2⟩ (lyx_is hy 0 10 rfl) (sx_isThing_6 hy hr hT hI a ) (Nat.le_of_ble_eq_true rfl) ?_
  intro r Ia Ja Ra hq
  obtain ⟨⟨ea, eb, ec⟩, v2979, rfl, av2979, bv2979, cv2979⟩ := hq
  show WP _ _ _ _ (.int _ :: _) _ _ _ _
  rw [ea, eb, ec]
  clear ea eb ec Ia Ja Ra
  have jn34_2988 : ∀ (v2988 : Int32), -2 ≤ v2988.toInt → v2988.toInt ≤ 20 → WP g mX10_price 34 [(0, .ref (ad g 0)), (1, .int a), (2, .int b)] [.int v2988] I J R (fun r I' J' R' => (I' = I ∧ J' = J ∧ R' = R) ∧ ∃ v : Int32, r = some (.int v)) := by
    intro v2988 av2988 bv2988
    exact WP_iret dX10_price_34 rfl ⟨⟨rfl, rfl, rfl⟩, _, rfl⟩
  refine WQ_if_eq 32 dX10_price_5 rfl (fun c2989 => ?_) (fun c2989 => ?_)
  · refine WQ_bipush (-2) (-2) dX10_price_32 rfl rfl (fun v2991 hv2991 => ?_)
    exact WP_sub (fc rfl (fc rfl (fc rfl fn))) (jn34_2988 v2991 (by omega) (by omega))
  · refine WP_iload_n dX10_price_8 rfl ?_
    refine WP_callS1 dX10_price_9 ⟨⟨⟨by decide, by decide⟩, zX10_isDay⟩, lX10_156, tX10_isDay⟩ (sx_isDay hy hr hI b ) (Nat.le_of_ble_eq_true rfl) ?_
    intro r Ia Ja Ra hq
    obtain ⟨⟨ea, eb, ec⟩, v2992, rfl, av2992, bv2992, cv2992⟩ := hq
    show WP _ _ _ _ (.int _ :: _) _ _ _ _
    rw [ea, eb, ec]
    clear ea eb ec Ia Ja Ra
    refine WQ_if_eq 32 dX10_price_12 rfl (fun c2992 => ?_) (fun c2992 => ?_)
    · refine WQ_bipush (-2) (-2) dX10_price_32 rfl rfl (fun v2994 hv2994 => ?_)
      exact WP_sub (fc rfl (fc rfl (fc rfl fn))) (jn34_2988 v2994 (by omega) (by omega))
    · refine WP_aload_n dX10_price_15 rfl ?_
      refine WP_getr dX10_price_16 fX10_33 rfl (lyx_is hy 0 10 rfl) (rfx hr 0 2 5 (by decide)) ?_
      refine WP_getr dX10_price_19 fX10_165 rfl (lyx_is hy 5 0 rfl) (rfx hr 5 1 22 (by decide)) ?_
      refine WP_iload_n dX10_price_22 rfl ?_
      refine WQ_bipush (7) (7) dX10_price_23 rfl rfl (fun v2995 hv2995 => ?_)
      refine WQ_imulk (7) dX10_price_25 hv2995 (by omega) (by omega) (fun v2996 hv2996 => ?_)
      refine WP_iload_n dX10_price_26 rfl ?_
      refine WQ_iadd dX10_price_27 (by omega) (by omega) (fun v2997 hv2997 => ?_)
      refine WQ_iald dX10_price_28 (lyx_is hy 22 13 rfl) (lyx_n hy 22 21 rfl) (by omega) (by omega) (fun q hq => BT_get hI.1 22 0 21 (0) (0) (20) (by decide) q (Nat.zero_le _) hq) (fun v2998 av2998 bv2998 ev2998 => ?_)
      clear ev2998
      refine WP_goto 34 dX10_price_29 rfl ?_
      exact WP_sub (fc rfl (fc rfl (fc rfl fn))) (jn34_2988 v2998 (by omega) (by omega))
set_option maxHeartbeats 4000000 in
set_option maxRecDepth 100000 in
theorem sx_made_6 {g : GG} {n : Int} {L : Int32} (hy : LyX g)  {I : pI} {J : pJ} {R : pR} (hr : RfX g R) (hT : R (ad g 5) 0 = some (ad g 6)) (hI : XI g n L I) (a : Int32) (b : Int32)  : SP g mX10_made [.ref (ad g 0), .int a, .int b] I J R (fun r I' J' R' => (I' = I ∧ J' = J ∧ R' = R) ∧ ∃ v : Int32, r = some (.int v)) := by
  refine SP_of ⟨by decide, rfl⟩ (Nat.le_of_ble_eq_true rfl) ?_
  have e2999 : I (ad g 1) 1 = L := hI.2
  have b3000 := BT_get hI.1 1 1 2 (0) (0) (900) (by decide) 1 (by decide) (by decide)
  rw [e2999] at b3000
  refine WP_aload_n dX10_made_0 rfl ?_
  refine WP_iload_n dX10_made_1 rfl ?_
  refine WP_callV1 (k := 10) dX10_made_2 ⟨⟨⟨by decide, by decide⟩, zX10_isThing⟩, lX10_162, by decide, rfl, vX10_isThing.1, vX10_isThing.2⟩ (lyx_is hy 0 10 rfl) (sx_isThing_6 hy hr hT hI a ) (Nat.le_of_ble_eq_true rfl) ?_
  intro r Ia Ja Ra hq
  obtain ⟨⟨ea, eb, ec⟩, v3001, rfl, av3001, bv3001, cv3001⟩ := hq
  show WP _ _ _ _ (.int _ :: _) _ _ _ _
  rw [ea, eb, ec]
  clear ea eb ec Ia Ja Ra
  have jn37_3010 : ∀ (v3010 : Int32), -2 ≤ v3010.toInt → v3010.toInt ≤ 999 → WP g mX10_made 37 [(0, .ref (ad g 0)), (1, .int a), (2, .int b)] [.int v3010] I J R (fun r I' J' R' => (I' = I ∧ J' = J ∧ R' = R) ∧ ∃ v : Int32, r = some (.int v)) := by
    intro v3010 av3010 bv3010
    exact WP_iret dX10_made_37 rfl ⟨⟨rfl, rfl, rfl⟩, _, rfl⟩
  refine WQ_if_eq 35 dX10_made_5 rfl (fun c3011 => ?_) (fun c3011 => ?_)
  · refine WQ_bipush (-2) (-2) dX10_made_35 rfl rfl (fun v3013 hv3013 => ?_)
    exact WP_sub (fc rfl (fc rfl (fc rfl fn))) (jn37_3010 v3013 (by omega) (by omega))
  · refine WP_iload_n dX10_made_8 rfl ?_
    refine WP_callS1 dX10_made_9 ⟨⟨⟨by decide, by decide⟩, zX10_isDay⟩, lX10_156, tX10_isDay⟩ (sx_isDay hy hr hI b ) (Nat.le_of_ble_eq_true rfl) ?_
    intro r Ia Ja Ra hq
    obtain ⟨⟨ea, eb, ec⟩, v3014, rfl, av3014, bv3014, cv3014⟩ := hq
    show WP _ _ _ _ (.int _ :: _) _ _ _ _
    rw [ea, eb, ec]
    clear ea eb ec Ia Ja Ra
    refine WQ_if_eq 35 dX10_made_12 rfl (fun c3014 => ?_) (fun c3014 => ?_)
    · refine WQ_bipush (-2) (-2) dX10_made_35 rfl rfl (fun v3016 hv3016 => ?_)
      exact WP_sub (fc rfl (fc rfl (fc rfl fn))) (jn37_3010 v3016 (by omega) (by omega))
    · refine WP_aload_n dX10_made_15 rfl ?_
      refine WP_getr dX10_made_16 fX10_33 rfl (lyx_is hy 0 10 rfl) (rfx hr 0 2 5 (by decide)) ?_
      refine WP_getr dX10_made_19 fX10_102 rfl (lyx_is hy 5 0 rfl) hT ?_
      refine WP_getr dX10_made_22 fX10_168 rfl (lyx_is hy 6 7 rfl) (rfx hr 6 17 19 (by decide)) ?_
      refine WP_iload_n dX10_made_25 rfl ?_
      refine WQ_bipush (7) (7) dX10_made_26 rfl rfl (fun v3017 hv3017 => ?_)
      refine WQ_imulk (7) dX10_made_28 hv3017 (by omega) (by omega) (fun v3018 hv3018 => ?_)
      refine WP_iload_n dX10_made_29 rfl ?_
      refine WQ_iadd dX10_made_30 (by omega) (by omega) (fun v3019 hv3019 => ?_)
      refine WQ_iald dX10_made_31 (lyx_is hy 19 13 rfl) (lyx_n hy 19 21 rfl) (by omega) (by omega) (fun q hq => BT_get hI.1 19 0 21 (-1) (0) (999) (by decide) q (Nat.zero_le _) hq) (fun v3020 av3020 bv3020 ev3020 => ?_)
      clear ev3020
      refine WP_goto 37 dX10_made_32 rfl ?_
      exact WP_sub (fc rfl (fc rfl (fc rfl fn))) (jn37_3010 v3020 (by omega) (by omega))
set_option maxHeartbeats 4000000 in
set_option maxRecDepth 100000 in
theorem sx_wants_6 {g : GG} {n : Int} {L : Int32} (hy : LyX g)  {I : pI} {J : pJ} {R : pR} (hr : RfX g R) (hT : R (ad g 5) 0 = some (ad g 6)) (hI : XI g n L I) (a : Int32) (b : Int32) (c : Int32)  : SP g mX10_wants [.ref (ad g 0), .int a, .int b, .int c] I J R (fun r I' J' R' => (I' = I ∧ J' = J ∧ R' = R) ∧ ∃ v : Int32, r = some (.int v)) := by
  refine SP_of ⟨by decide, rfl⟩ (Nat.le_of_ble_eq_true rfl) ?_
  have e3021 : I (ad g 1) 1 = L := hI.2
  have b3022 := BT_get hI.1 1 1 2 (0) (0) (900) (by decide) 1 (by decide) (by decide)
  rw [e3021] at b3022
  refine WP_aload_n dX10_wants_0 rfl ?_
  refine WP_iload_n dX10_wants_1 rfl ?_
  refine WP_callV1 (k := 10) dX10_wants_2 ⟨⟨⟨by decide, by decide⟩, zX10_isSort⟩, lX10_152, by decide, rfl, vX10_isSort.1, vX10_isSort.2⟩ (lyx_is hy 0 10 rfl) (sx_isSort_6 hy hr hT hI a ) (Nat.le_of_ble_eq_true rfl) ?_
  intro r Ia Ja Ra hq
  obtain ⟨⟨ea, eb, ec⟩, v3023, rfl, av3023, bv3023, cv3023⟩ := hq
  show WP _ _ _ _ (.int _ :: _) _ _ _ _
  rw [ea, eb, ec]
  clear ea eb ec Ia Ja Ra
  refine WQ_if_eq 15 dX10_wants_5 rfl (fun c3023 => ?_) (fun c3023 => ?_)
  · refine WQ_bipush (-2) (-2) dX10_wants_15 rfl rfl (fun v3025 hv3025 => ?_)
    exact WP_iret dX10_wants_17 rfl ⟨⟨rfl, rfl, rfl⟩, _, rfl⟩
  · refine WP_iload_n dX10_wants_8 rfl ?_
    refine WP_callS1 dX10_wants_9 ⟨⟨⟨by decide, by decide⟩, zX10_isDay⟩, lX10_156, tX10_isDay⟩ (sx_isDay hy hr hI b ) (Nat.le_of_ble_eq_true rfl) ?_
    intro r Ia Ja Ra hq
    obtain ⟨⟨ea, eb, ec⟩, v3026, rfl, av3026, bv3026, cv3026⟩ := hq
    show WP _ _ _ _ (.int _ :: _) _ _ _ _
    rw [ea, eb, ec]
    clear ea eb ec Ia Ja Ra
    refine WQ_if_ne 18 dX10_wants_12 rfl (fun c3026 => ?_) (fun c3026 => ?_)
    · refine WP_iload_n dX10_wants_18 rfl ?_
      refine WQ_bipush (7) (7) dX10_wants_19 rfl rfl (fun v3028 hv3028 => ?_)
      refine WQ_imulk (7) dX10_wants_21 hv3028 (by omega) (by omega) (fun v3029 hv3029 => ?_)
      refine WP_iload_n dX10_wants_22 rfl ?_
      refine WQ_iadd dX10_wants_23 (by omega) (by omega) (fun v3030 hv3030 => ?_)
      refine WP_istore (ls' := [(0, _), (1, _), (2, _), (3, _), (4, _)]) dX10_wants_24 (by decide) rfl ?_
      refine WP_iload_n dX10_wants_26 rfl ?_
      refine WP_tab 94 dX10_wants_27 rfl rfl (fun c3030 => ?_) (fun j off c3030 hj => ?_) (by decide)
      · refine WQ_bipush (-2) (-2) dX10_wants_94 rfl rfl (fun v3032 hv3032 => ?_)
        exact WP_iret dX10_wants_96 rfl ⟨⟨rfl, rfl, rfl⟩, _, rfl⟩
      · have hlt : j < 3 := by have := (Array.getElem?_eq_some_iff.mp hj).1; simpa using this
        have hcs : (j = 0 ∧ off = 25) ∨ (j = 1 ∧ off = 39) ∨ (j = 2 ∧ off = 53) := by
          match j, hlt, hj with
          | 0, _, hj => exact Or.inl ⟨rfl, (Option.some.inj hj).symm⟩
          | 1, _, hj => exact Or.inr (Or.inl ⟨rfl, (Option.some.inj hj).symm⟩)
          | 2, _, hj => exact Or.inr (Or.inr (⟨rfl, (Option.some.inj hj).symm⟩))
        clear hj hlt
        rcases hcs with ⟨rfl, rfl⟩ | ⟨rfl, rfl⟩ | ⟨rfl, rfl⟩
        · show WP _ _ 52 _ _ _ _ _ _
          refine WP_aload_n dX10_wants_52 rfl ?_
          refine WP_getr dX10_wants_53 fX10_33 rfl (lyx_is hy 0 10 rfl) (rfx hr 0 2 5 (by decide)) ?_
          refine WP_getr dX10_wants_56 fX10_102 rfl (lyx_is hy 5 0 rfl) hT ?_
          refine WP_getr dX10_wants_59 fX10_171 rfl (lyx_is hy 6 7 rfl) (rfx hr 6 11 13 (by decide)) ?_
          refine WP_iload dX10_wants_62 rfl ?_
          refine WQ_iald dX10_wants_64 (lyx_is hy 13 13 rfl) (lyx_n hy 13 28 rfl) (by omega) (by omega) (fun q hq => BT_get hI.1 13 0 28 (-1) (0) (2) (by decide) q (Nat.zero_le _) hq) (fun v3033 av3033 bv3033 ev3033 => ?_)
          clear ev3033
          exact WP_iret dX10_wants_65 rfl ⟨⟨rfl, rfl, rfl⟩, _, rfl⟩
        · show WP _ _ 66 _ _ _ _ _ _
          refine WP_aload_n dX10_wants_66 rfl ?_
          refine WP_getr dX10_wants_67 fX10_33 rfl (lyx_is hy 0 10 rfl) (rfx hr 0 2 5 (by decide)) ?_
          refine WP_getr dX10_wants_70 fX10_102 rfl (lyx_is hy 5 0 rfl) hT ?_
          refine WP_getr dX10_wants_73 fX10_174 rfl (lyx_is hy 6 7 rfl) (rfx hr 6 12 14 (by decide)) ?_
          refine WP_iload dX10_wants_76 rfl ?_
          refine WQ_iald dX10_wants_78 (lyx_is hy 14 13 rfl) (lyx_n hy 14 28 rfl) (by omega) (by omega) (fun q hq => BT_get hI.1 14 0 28 (0) (0) (3) (by decide) q (Nat.zero_le _) hq) (fun v3034 av3034 bv3034 ev3034 => ?_)
          clear ev3034
          exact WP_iret dX10_wants_79 rfl ⟨⟨rfl, rfl, rfl⟩, _, rfl⟩
        · show WP _ _ 80 _ _ _ _ _ _
          refine WP_aload_n dX10_wants_80 rfl ?_
          refine WP_getr dX10_wants_81 fX10_33 rfl (lyx_is hy 0 10 rfl) (rfx hr 0 2 5 (by decide)) ?_
          refine WP_getr dX10_wants_84 fX10_102 rfl (lyx_is hy 5 0 rfl) hT ?_
          refine WP_getr dX10_wants_87 fX10_177 rfl (lyx_is hy 6 7 rfl) (rfx hr 6 13 15 (by decide)) ?_
          refine WP_iload dX10_wants_90 rfl ?_
          refine WQ_iald dX10_wants_92 (lyx_is hy 15 13 rfl) (lyx_n hy 15 28 rfl) (by omega) (by omega) (fun q hq => BT_get hI.1 15 0 28 (0) (0) (99) (by decide) q (Nat.zero_le _) hq) (fun v3035 av3035 bv3035 ev3035 => ?_)
          clear ev3035
          exact WP_iret dX10_wants_93 rfl ⟨⟨rfl, rfl, rfl⟩, _, rfl⟩
    · refine WQ_bipush (-2) (-2) dX10_wants_15 rfl rfl (fun v3036 hv3036 => ?_)
      exact WP_iret dX10_wants_17 rfl ⟨⟨rfl, rfl, rfl⟩, _, rfl⟩
set_option maxHeartbeats 4000000 in
set_option maxRecDepth 100000 in
theorem sx_night_6 {g : GG} {n : Int} {L : Int32} (hy : LyX g)  {I : pI} {J : pJ} {R : pR} (hr : RfX g R) (hT : R (ad g 5) 0 = some (ad g 6)) (hI : XI g n L I) (a : Int32) (b : Int32) (c : Int32)  : SP g mX10_night [.ref (ad g 0), .int a, .int b, .int c] I J R (fun r I' J' R' => (I' = I ∧ J' = J ∧ R' = R) ∧ ∃ v : Int32, r = some (.int v)) := by
  refine SP_of ⟨by decide, rfl⟩ (Nat.le_of_ble_eq_true rfl) ?_
  have e3037 : I (ad g 1) 1 = L := hI.2
  have b3038 := BT_get hI.1 1 1 2 (0) (0) (900) (by decide) 1 (by decide) (by decide)
  rw [e3037] at b3038
  refine WP_iload_n dX10_night_0 rfl ?_
  refine WP_iload_n dX10_night_1 rfl ?_
  refine WP_callS2 dX10_night_2 ⟨⟨⟨by decide, by decide⟩, zX10_isHeld⟩, lX10_180, tX10_isHeld⟩ (sx_isHeld hy hr hI a b  ) (Nat.le_of_ble_eq_true rfl) ?_
  intro r Ia Ja Ra hq
  obtain ⟨⟨ea, eb, ec⟩, v3039, rfl, av3039, bv3039, cv3039⟩ := hq
  show WP _ _ _ _ (.int _ :: _) _ _ _ _
  rw [ea, eb, ec]
  clear ea eb ec Ia Ja Ra
  refine WQ_if_eq 32 dX10_night_5 rfl (fun c3039 => ?_) (fun c3039 => ?_)
  · refine WQ_bipush (-2) (-2) dX10_night_32 rfl rfl (fun v3041 hv3041 => ?_)
    exact WP_iret dX10_night_34 rfl ⟨⟨rfl, rfl, rfl⟩, _, rfl⟩
  · refine WP_iload_n dX10_night_8 rfl ?_
    refine WP_callS1 dX10_night_9 ⟨⟨⟨by decide, by decide⟩, zX10_isDay⟩, lX10_156, tX10_isDay⟩ (sx_isDay hy hr hI c ) (Nat.le_of_ble_eq_true rfl) ?_
    intro r Ia Ja Ra hq
    obtain ⟨⟨ea, eb, ec⟩, v3042, rfl, av3042, bv3042, cv3042⟩ := hq
    show WP _ _ _ _ (.int _ :: _) _ _ _ _
    rw [ea, eb, ec]
    clear ea eb ec Ia Ja Ra
    refine WQ_if_eq 32 dX10_night_12 rfl (fun c3042 => ?_) (fun c3042 => ?_)
    · refine WQ_bipush (-2) (-2) dX10_night_32 rfl rfl (fun v3044 hv3044 => ?_)
      exact WP_iret dX10_night_34 rfl ⟨⟨rfl, rfl, rfl⟩, _, rfl⟩
    · refine WP_aload_n dX10_night_15 rfl ?_
      refine WP_getr dX10_night_16 fX10_33 rfl (lyx_is hy 0 10 rfl) (rfx hr 0 2 5 (by decide)) ?_
      refine WP_getr dX10_night_19 fX10_102 rfl (lyx_is hy 5 0 rfl) hT ?_
      refine WQ_geti dX10_night_22 fX10_117 rfl (lyx_is hy 6 7 rfl) (BT_get hI.1 6 2 3 (0) (0) (3) (by decide) 2 (by decide) (by decide)) (fun v3045 ev3045 av3045 bv3045 => ?_)
      refine WQ_if_ne 35 dX10_night_25 rfl (fun c3045 => ?_) (fun c3045 => ?_)
      · refine WP_aload_n dX10_night_35 rfl ?_
        refine WP_getr dX10_night_36 fX10_33 rfl (lyx_is hy 0 10 rfl) (rfx hr 0 2 5 (by decide)) ?_
        refine WP_iload_n dX10_night_39 rfl ?_
        refine WP_iload_n dX10_night_40 rfl ?_
        refine WP_iload_n dX10_night_41 rfl ?_
        refine WP_callV3 (k := 0) dX10_night_42 ⟨⟨⟨by decide, by decide⟩, zX0_coinsBehind⟩, lX10_184, by decide, rfl, vX0_coinsBehind.1, vX0_coinsBehind.2⟩ (lyx_is hy 5 0 rfl) (sx_coinsBehind hy hr hI a b c (by omega) (by omega) (by omega) (by omega) (by omega) (by omega)) (Nat.le_of_ble_eq_true rfl) ?_
        intro r Ia Ja Ra hq
        obtain ⟨⟨ea, eb, ec⟩, v3047, rfl, av3047, bv3047⟩ := hq
        show WP _ _ _ _ (.int _ :: _) _ _ _ _
        rw [ea, eb, ec]
        clear ea eb ec Ia Ja Ra
        exact WP_iret dX10_night_45 rfl ⟨⟨rfl, rfl, rfl⟩, _, rfl⟩
      · refine WP_iload_n dX10_night_28 rfl ?_
        refine WQ_if_le 35 dX10_night_29 rfl (fun c3047 => ?_) (fun c3047 => ?_)
        · refine WP_aload_n dX10_night_35 rfl ?_
          refine WP_getr dX10_night_36 fX10_33 rfl (lyx_is hy 0 10 rfl) (rfx hr 0 2 5 (by decide)) ?_
          refine WP_iload_n dX10_night_39 rfl ?_
          refine WP_iload_n dX10_night_40 rfl ?_
          refine WP_iload_n dX10_night_41 rfl ?_
          refine WP_callV3 (k := 0) dX10_night_42 ⟨⟨⟨by decide, by decide⟩, zX0_coinsBehind⟩, lX10_184, by decide, rfl, vX0_coinsBehind.1, vX0_coinsBehind.2⟩ (lyx_is hy 5 0 rfl) (sx_coinsBehind hy hr hI a b c (by omega) (by omega) (by omega) (by omega) (by omega) (by omega)) (Nat.le_of_ble_eq_true rfl) ?_
          intro r Ia Ja Ra hq
          obtain ⟨⟨ea, eb, ec⟩, v3049, rfl, av3049, bv3049⟩ := hq
          show WP _ _ _ _ (.int _ :: _) _ _ _ _
          rw [ea, eb, ec]
          clear ea eb ec Ia Ja Ra
          exact WP_iret dX10_night_45 rfl ⟨⟨rfl, rfl, rfl⟩, _, rfl⟩
        · refine WQ_bipush (-2) (-2) dX10_night_32 rfl rfl (fun v3050 hv3050 => ?_)
          exact WP_iret dX10_night_34 rfl ⟨⟨rfl, rfl, rfl⟩, _, rfl⟩
set_option maxHeartbeats 4000000 in
set_option maxRecDepth 100000 in
theorem sx_count_6 {g : GG} {n : Int} {L : Int32} (hy : LyX g)  {I : pI} {J : pJ} {R : pR} (hr : RfX g R) (hT : R (ad g 5) 0 = some (ad g 6)) (hI : XI g n L I) (a : Int32)  : SP g mX10_count [.ref (ad g 0), .int a] I J R (fun r I' J' R' => (I' = I ∧ J' = J ∧ R' = R) ∧ ∃ v : Int32, r = some (.int v)) := by
  refine SP_of ⟨by decide, rfl⟩ (Nat.le_of_ble_eq_true rfl) ?_
  have e3051 : I (ad g 1) 1 = L := hI.2
  have b3052 := BT_get hI.1 1 1 2 (0) (0) (900) (by decide) 1 (by decide) (by decide)
  rw [e3051] at b3052
  refine WP_iload_n dX10_count_0 rfl ?_
  have jn33_3056 : ∀ (v3056 : Int32), WP g mX10_count 33 [(0, .ref (ad g 0)), (1, .int a)] [.int v3056] I J R (fun r I' J' R' => (I' = I ∧ J' = J ∧ R' = R) ∧ ∃ v : Int32, r = some (.int v)) := by
    intro v3056 
    exact WP_iret dX10_count_33 rfl ⟨⟨rfl, rfl, rfl⟩, _, rfl⟩
  refine WX_if_ne 17 dX10_count_1 rfl ?_ ?_
  · refine WP_iload_n dX10_count_17 rfl ?_
    refine WQ_iconst (1) (1) dX10_count_18 rfl rfl (fun v3058 hv3058 => ?_)
    refine WX_icmp_ne 32 dX10_count_19 rfl ?_ ?_
    · refine WQ_iconst (-1) (-1) dX10_count_32 rfl rfl (fun v3059 hv3059 => ?_)
      exact WP_sub (fc rfl (fc rfl fn)) (jn33_3056 v3059)
    · refine WP_aload_n dX10_count_22 rfl ?_
      refine WP_getr dX10_count_23 fX10_12 rfl (lyx_is hy 0 10 rfl) (rfx hr 0 0 1 (by decide)) ?_
      refine WQ_getim dX10_count_26 fX10_90 rfl (lyx_is hy 1 5 rfl) e3051 ?_
      refine WP_goto 33 dX10_count_29 rfl ?_
      exact WP_sub (fc rfl (fc rfl fn)) (jn33_3056 L)
  · refine WP_aload_n dX10_count_4 rfl ?_
    refine WP_getr dX10_count_5 fX10_33 rfl (lyx_is hy 0 10 rfl) (rfx hr 0 2 5 (by decide)) ?_
    refine WP_getr dX10_count_8 fX10_102 rfl (lyx_is hy 5 0 rfl) hT ?_
    refine WQ_getiu dX10_count_11 fX10_105 rfl (lyx_is hy 6 7 rfl) (fun v3060 ev3060 => ?_)
    refine WP_goto 33 dX10_count_14 rfl ?_
    exact WP_sub (fc rfl (fc rfl fn)) (jn33_3056 v3060)
set_option maxHeartbeats 4000000 in
set_option maxRecDepth 100000 in
theorem sx_way_6 {g : GG} {n : Int} {L : Int32} (hy : LyX g)  {I : pI} {J : pJ} {R : pR} (hr : RfX g R) (hT : R (ad g 5) 0 = some (ad g 6)) (hI : XI g n L I) (a : Int32) (b : Int32)  : SP g mX10_way [.ref (ad g 0), .int a, .int b] I J R (fun r I' J' R' => (XI g n L I' ∧ R' = R) ∧ ∃ v : Int32, r = some (.int v)) := by
  refine SP_of ⟨by decide, rfl⟩ (Nat.le_of_ble_eq_true rfl) ?_
  have e3061 : I (ad g 1) 1 = L := hI.2
  have b3062 := BT_get hI.1 1 1 2 (0) (0) (900) (by decide) 1 (by decide) (by decide)
  rw [e3061] at b3062
  refine WP_aload_n dX10_way_0 rfl ?_
  refine WP_iload_n dX10_way_1 rfl ?_
  refine WP_callV1 (k := 10) dX10_way_2 ⟨⟨⟨by decide, by decide⟩, zX10_isSort⟩, lX10_152, by decide, rfl, vX10_isSort.1, vX10_isSort.2⟩ (lyx_is hy 0 10 rfl) (sx_isSort_6 hy hr hT hI a ) (Nat.le_of_ble_eq_true rfl) ?_
  intro r Ia Ja Ra hq
  obtain ⟨⟨ea, eb, ec⟩, v3063, rfl, av3063, bv3063, cv3063⟩ := hq
  show WP _ _ _ _ (.int _ :: _) _ _ _ _
  rw [ea, eb, ec]
  clear ea eb ec Ia Ja Ra
  refine WQ_if_eq 15 dX10_way_5 rfl (fun c3063 => ?_) (fun c3063 => ?_)
  · refine WQ_bipush (-2) (-2) dX10_way_15 rfl rfl (fun v3065 hv3065 => ?_)
    exact WP_iret dX10_way_17 rfl ⟨⟨hI, rfl⟩, _, rfl⟩
  · refine WP_iload_n dX10_way_8 rfl ?_
    refine WP_callS1 dX10_way_9 ⟨⟨⟨by decide, by decide⟩, zX10_isWay⟩, lX10_219, tX10_isWay⟩ (sx_isWay hy hr hI b ) (Nat.le_of_ble_eq_true rfl) ?_
    intro r Ia Ja Ra hq
    obtain ⟨⟨ea, eb, ec⟩, v3066, rfl, av3066, bv3066, cv3066⟩ := hq
    show WP _ _ _ _ (.int _ :: _) _ _ _ _
    rw [ea, eb, ec]
    clear ea eb ec Ia Ja Ra
    refine WQ_if_ne 18 dX10_way_12 rfl (fun c3066 => ?_) (fun c3066 => ?_)
    · refine WP_aload_n dX10_way_18 rfl ?_
      refine WP_getr dX10_way_19 fX10_62 rfl (lyx_is hy 0 10 rfl) (rfx hr 0 5 53 (by decide)) ?_
      refine WP_getr dX10_way_22 fX10_225 rfl (lyx_is hy 53 4 rfl) (rfx hr 53 4 54 (by decide)) ?_
      refine WP_iload_n dX10_way_25 rfl ?_
      refine WQ_ialdu dX10_way_26 (lyx_is hy 54 13 rfl) (lyx_n hy 54 4 rfl) (by omega) (by omega) (fun v3068 => ?_)
      refine WP_istore_n (ls' := [(0, _), (1, _), (2, _), (3, _)]) dX10_way_27 (by decide) rfl ?_
      refine WP_aload_n dX10_way_28 rfl ?_
      refine WP_getr dX10_way_29 fX10_62 rfl (lyx_is hy 0 10 rfl) (rfx hr 0 5 53 (by decide)) ?_
      refine WP_getr dX10_way_32 fX10_225 rfl (lyx_is hy 53 4 rfl) (rfx hr 53 4 54 (by decide)) ?_
      refine WP_iload_n dX10_way_35 rfl ?_
      refine WP_iload_n dX10_way_36 rfl ?_
      refine WQ_iast dX10_way_37 (lyx_is hy 54 13 rfl) (lyx_n hy 54 4 rfl) (by omega) (by omega) (fun I3069 eI3069 => ?_)
      have hI3069 : XI g n L I3069 := by rw [eI3069]; exact (xi_r0 hy hI (c := 54) (by decide) (Or.inl (by decide)) (by decide))
      have e3070 : I3069 (ad g 1) 1 = L := by rw [eI3069, pp_ne _ _ (Or.inl (lyx_ne hy (by decide) (by decide) (by decide)))]; exact e3061
      clear eI3069
      refine WP_iload_n dX10_way_38 rfl ?_
      exact WP_iret dX10_way_39 rfl ⟨⟨hI3069, rfl⟩, _, rfl⟩
    · refine WQ_bipush (-2) (-2) dX10_way_15 rfl rfl (fun v3071 hv3071 => ?_)
      exact WP_iret dX10_way_17 rfl ⟨⟨hI, rfl⟩, _, rfl⟩
set_option maxHeartbeats 4000000 in
set_option maxRecDepth 100000 in
theorem sx_run_6 {g : GG} {n : Int} {L : Int32} (hy : LyX g)  {I : pI} {J : pJ} {R : pR} (hr : RfX g R) (hT : R (ad g 5) 0 = some (ad g 6)) (hI : XI g n L I) (a : Int32) (b : Int32)  : SP g mX10_run [.ref (ad g 0), .int a, .int b] I J R (fun r I' J' R' => (I' = I ∧ J' = J ∧ R' = R) ∧ ∃ v : Int32, r = some (.int v)) := by
  refine SP_of ⟨by decide, rfl⟩ (Nat.le_of_ble_eq_true rfl) ?_
  have e3072 : I (ad g 1) 1 = L := hI.2
  have b3073 := BT_get hI.1 1 1 2 (0) (0) (900) (by decide) 1 (by decide) (by decide)
  rw [e3072] at b3073
  refine WP_aload_n dX10_run_0 rfl ?_
  refine WP_iload_n dX10_run_1 rfl ?_
  refine WP_callV1 (k := 10) dX10_run_2 ⟨⟨⟨by decide, by decide⟩, zX10_isSort⟩, lX10_152, by decide, rfl, vX10_isSort.1, vX10_isSort.2⟩ (lyx_is hy 0 10 rfl) (sx_isSort_6 hy hr hT hI a ) (Nat.le_of_ble_eq_true rfl) ?_
  intro r Ia Ja Ra hq
  obtain ⟨⟨ea, eb, ec⟩, v3074, rfl, av3074, bv3074, cv3074⟩ := hq
  show WP _ _ _ _ (.int _ :: _) _ _ _ _
  rw [ea, eb, ec]
  clear ea eb ec Ia Ja Ra
  refine WQ_if_eq 18 dX10_run_5 rfl (fun c3074 => ?_) (fun c3074 => ?_)
  · refine WQ_bipush (-2) (-2) dX10_run_18 rfl rfl (fun v3076 hv3076 => ?_)
    exact WP_iret dX10_run_20 rfl ⟨⟨rfl, rfl, rfl⟩, _, rfl⟩
  · refine WP_iload_n dX10_run_8 rfl ?_
    refine WQ_if_lt 18 dX10_run_9 rfl (fun c3076 => ?_) (fun c3076 => ?_)
    · refine WQ_bipush (-2) (-2) dX10_run_18 rfl rfl (fun v3078 hv3078 => ?_)
      exact WP_iret dX10_run_20 rfl ⟨⟨rfl, rfl, rfl⟩, _, rfl⟩
    · refine WP_iload_n dX10_run_12 rfl ?_
      refine WQ_bipush (7) (7) dX10_run_13 rfl rfl (fun v3079 hv3079 => ?_)
      refine WQ_icmp_lt 21 dX10_run_15 rfl (fun c3079 => ?_) (fun c3079 => ?_)
      · refine WP_aload_n dX10_run_21 rfl ?_
        refine WP_getr dX10_run_22 fX10_62 rfl (lyx_is hy 0 10 rfl) (rfx hr 0 5 53 (by decide)) ?_
        refine WP_getr dX10_run_25 fX10_235 rfl (lyx_is hy 53 4 rfl) (rfx hr 53 5 55 (by decide)) ?_
        refine WP_iload_n dX10_run_28 rfl ?_
        refine WQ_bipush (7) (7) dX10_run_29 rfl rfl (fun v3081 hv3081 => ?_)
        refine WQ_imulk (7) dX10_run_31 hv3081 (by omega) (by omega) (fun v3082 hv3082 => ?_)
        refine WP_iload_n dX10_run_32 rfl ?_
        refine WQ_iadd dX10_run_33 (by omega) (by omega) (fun v3083 hv3083 => ?_)
        refine WQ_ialdu dX10_run_34 (lyx_is hy 55 13 rfl) (lyx_n hy 55 28 rfl) (by omega) (by omega) (fun v3084 => ?_)
        exact WP_iret dX10_run_35 rfl ⟨⟨rfl, rfl, rfl⟩, _, rfl⟩
      · refine WQ_bipush (-2) (-2) dX10_run_18 rfl rfl (fun v3085 hv3085 => ?_)
        exact WP_iret dX10_run_20 rfl ⟨⟨rfl, rfl, rfl⟩, _, rfl⟩
set_option maxHeartbeats 4000000 in
set_option maxRecDepth 100000 in
theorem sx_anew_6 {g : GG} {n : Int} {L : Int32} (hy : LyX g)  {I : pI} {J : pJ} {R : pR} (hr : RfX g R) (hT : R (ad g 5) 0 = some (ad g 6)) (hI : XI g n L I)   (hn : 0 ≤ n) : SP g mX10_anew [.ref (ad g 0)] I J R (fun r I' J' R' => (XI g n L I' ∧ R' = R) ∧ ∃ v : Int32, r = some (.int v)) := by
  refine SP_of ⟨by decide, rfl⟩ (Nat.le_of_ble_eq_true rfl) ?_
  have e3086 : I (ad g 1) 1 = L := hI.2
  have b3087 := BT_get hI.1 1 1 2 (0) (0) (900) (by decide) 1 (by decide) (by decide)
  rw [e3086] at b3087
  refine WP_aload_n dX10_anew_0 rfl ?_
  refine WP_getr dX10_anew_1 fX10_62 rfl (lyx_is hy 0 10 rfl) (rfx hr 0 5 53 (by decide)) ?_
  refine WQ_getiu dX10_anew_4 fX10_232 rfl (lyx_is hy 53 4 rfl) (fun v3088 ev3088 => ?_)
  refine WP_istore_n (ls' := [(0, _), (1, _)]) dX10_anew_7 (by decide) rfl ?_
  refine WP_aload_n dX10_anew_8 rfl ?_
  refine WP_getr dX10_anew_9 fX10_62 rfl (lyx_is hy 0 10 rfl) (rfx hr 0 5 53 (by decide)) ?_
  refine WP_aload_n dX10_anew_12 rfl ?_
  refine WP_getr dX10_anew_13 fX10_33 rfl (lyx_is hy 0 10 rfl) (rfx hr 0 2 5 (by decide)) ?_
  refine WP_getr dX10_anew_16 fX10_102 rfl (lyx_is hy 5 0 rfl) hT ?_
  refine WP_callV1 (k := 4) dX10_anew_19 ⟨⟨⟨by decide, by decide⟩, zX4_begin⟩, lX10_246, by decide, rfl, vX4_begin.1, vX4_begin.2⟩ (lyx_is hy 53 4 rfl) (sx_begin_53_6 hy hr hI   (by omega)) (Nat.le_of_ble_eq_true rfl) ?_
  intro r I3089 J3090 Ra hq
  obtain ⟨⟨hI3089, ec⟩, rfl⟩ := hq
  rw [ec]
  clear ec Ra
  have e3091 : I3089 (ad g 1) 1 = L := hI3089.2
  have b3092 := BT_get hI3089.1 1 1 2 (0) (0) (900) (by decide) 1 (by decide) (by decide)
  rw [e3091] at b3092
  refine WP_iload_n dX10_anew_22 rfl ?_
  exact WP_iret dX10_anew_23 rfl ⟨⟨hI3089, rfl⟩, _, rfl⟩
set_option maxHeartbeats 4000000 in
set_option maxRecDepth 100000 in
theorem sx_settle_6 {g : GG} {n : Int} {L : Int32} (hy : LyX g)  {I : pI} {J : pJ} {R : pR} (hr : RfX g R) (hT : R (ad g 5) 0 = some (ad g 6)) (hI : XI g n L I)   (hn : 0 ≤ n) : SP g mX10_settle [.ref (ad g 0)] I J R (fun r I' J' R' => (XI g n L I' ∧ R' = R) ∧ r = none) := by
  refine SP_of ⟨by decide, rfl⟩ (Nat.le_of_ble_eq_true rfl) ?_
  have e3093 : I (ad g 1) 1 = L := hI.2
  have b3094 := BT_get hI.1 1 1 2 (0) (0) (900) (by decide) 1 (by decide) (by decide)
  rw [e3093] at b3094
  refine WP_aload_n dX10_settle_0 rfl ?_
  refine WP_getr dX10_settle_1 fX10_33 rfl (lyx_is hy 0 10 rfl) (rfx hr 0 2 5 (by decide)) ?_
  refine WP_callV0 (k := 0) dX10_settle_4 ⟨⟨⟨by decide, by decide⟩, zX0_open⟩, lX10_332, by decide, rfl, vX0_open.1, vX0_open.2⟩ (lyx_is hy 5 0 rfl) (sx_open_6 hy hr hT hI  ) (Nat.le_of_ble_eq_true rfl) ?_
  intro r I3095 J3096 Ra hq
  obtain ⟨⟨hI3095, ec⟩, rfl⟩ := hq
  rw [ec]
  clear ec Ra
  have e3097 : I3095 (ad g 1) 1 = L := hI3095.2
  have b3098 := BT_get hI3095.1 1 1 2 (0) (0) (900) (by decide) 1 (by decide) (by decide)
  rw [e3097] at b3098
  refine WP_aload_n dX10_settle_7 rfl ?_
  refine WP_getr dX10_settle_8 fX10_62 rfl (lyx_is hy 0 10 rfl) (rfx hr 0 5 53 (by decide)) ?_
  refine WP_aload_n dX10_settle_11 rfl ?_
  refine WP_getr dX10_settle_12 fX10_33 rfl (lyx_is hy 0 10 rfl) (rfx hr 0 2 5 (by decide)) ?_
  refine WP_getr dX10_settle_15 fX10_102 rfl (lyx_is hy 5 0 rfl) hT ?_
  refine WP_callV1 (k := 4) dX10_settle_18 ⟨⟨⟨by decide, by decide⟩, zX4_begin⟩, lX10_246, by decide, rfl, vX4_begin.1, vX4_begin.2⟩ (lyx_is hy 53 4 rfl) (sx_begin_53_6 hy hr hI3095   (by omega)) (Nat.le_of_ble_eq_true rfl) ?_
  intro r I3099 J3100 Ra hq
  obtain ⟨⟨hI3099, ec⟩, rfl⟩ := hq
  rw [ec]
  clear ec Ra
  have e3101 : I3099 (ad g 1) 1 = L := hI3099.2
  have b3102 := BT_get hI3099.1 1 1 2 (0) (0) (900) (by decide) 1 (by decide) (by decide)
  rw [e3101] at b3102
  refine WP_aload_n dX10_settle_21 rfl ?_
  refine WP_getr dX10_settle_22 fX10_62 rfl (lyx_is hy 0 10 rfl) (rfx hr 0 5 53 (by decide)) ?_
  refine WP_getr dX10_settle_25 fX10_225 rfl (lyx_is hy 53 4 rfl) (rfx hr 53 4 54 (by decide)) ?_
  refine WQ_iconst (1) (1) dX10_settle_28 rfl rfl (fun v3103 hv3103 => ?_)
  refine WP_callS2u dX10_settle_29 ⟨⟨⟨by decide, by decide⟩, zJ7_fill_53178⟩, lX10_335, tJ7_fill_53178⟩ (s_fill hy hr 54 4 rfl rfl (by decide) v3103) (Nat.le_of_ble_eq_true rfl) ?_
  obtain ⟨I3104, eI3104⟩ : ∃ I9 : pI, I9 = fi I3099 (ad g 54) 4 v3103 := ⟨_, rfl⟩
  rw [← eI3104]
  have hI3104 : XI g n L I3104 := by rw [eI3104]; exact (xi_fill0 hy hI3099 54 4 v3103 (by decide) (by decide))
  have e3105 : I3104 (ad g 1) 1 = L := by rw [eI3104, fi_off (lyx_ne hy (by decide) (by decide) (by decide))]; exact e3101
  clear eI3104
  refine WQ_iconst (0) (0) dX10_settle_32 rfl rfl (fun v3106 hv3106 => ?_)
  refine WP_istore_n (ls' := [(0, _), (1, _)]) dX10_settle_33 (by decide) rfl ?_
  have lp34_3109 : ∀ (mz : Nat) (i3107 : Int32) (I3108 : pI) (J3109 : pJ), XI g n L I3108 → 0 ≤ i3107.toInt → i3107.toInt ≤ 3 → (4 - i3107.toInt).toNat < mz → WP g mX10_settle 34 [(0, .ref (ad g 0)), (1, .int i3107)] [] I3108 J3109 R (fun r I' J' R' => (XI g n L I' ∧ R' = R) ∧ r = none) := by
    intro mz
    induction mz with
    | zero =>
      intro i3107 I3108 J3109 hI3108 ai3107 bi3107 hmlp34_3109
      exact absurd hmlp34_3109 (Nat.not_lt_zero _)
    | succ mz ihlp34_3109 =>
      intro i3107 I3108 J3109 hI3108 ai3107 bi3107 hmlp34_3109
      have e3111 : I3108 (ad g 1) 1 = L := hI3108.2
      have b3112 := BT_get hI3108.1 1 1 2 (0) (0) (900) (by decide) 1 (by decide) (by decide)
      rw [e3111] at b3112
      refine WP_iload_n dX10_settle_34 rfl ?_
      refine WQ_iconst (3) (3) dX10_settle_35 rfl rfl (fun v3113 hv3113 => ?_)
      refine WQ_icmp_ge 55 dX10_settle_36 rfl (fun c3113 => ?_) (fun c3113 => ?_)
      · refine WP_aload_n dX10_settle_55 rfl ?_
        refine WP_getr dX10_settle_56 fX10_83 rfl (lyx_is hy 0 10 rfl) (rfx hr 0 9 71 (by decide)) ?_
        refine WP_callV0 (k := 1) dX10_settle_59 ⟨⟨⟨by decide, by decide⟩, zX1_forget⟩, lX10_341, by decide, rfl, vX1_forget.1, vX1_forget.2⟩ (lyx_is hy 71 1 rfl) (sx_mforget hy hr hI3108  ) (Nat.le_of_ble_eq_true rfl) ?_
        intro r I3115 J3116 Ra hq
        obtain ⟨⟨hI3115, ec⟩, rfl⟩ := hq
        rw [ec]
        clear ec Ra
        have e3117 : I3115 (ad g 1) 1 = L := hI3115.2
        have b3118 := BT_get hI3115.1 1 1 2 (0) (0) (900) (by decide) 1 (by decide) (by decide)
        rw [e3117] at b3118
        refine WP_aload_n dX10_settle_62 rfl ?_
        refine WQ_iconst (-1) (-1) dX10_settle_63 rfl rfl (fun v3119 hv3119 => ?_)
        refine WQ_puti dX10_settle_64 fX10_263 rfl rfl (lyx_is hy 0 10 rfl) (fun I3120 eI3120 => ?_)
        have hI3120 : XI g n L I3120 := by rw [eI3120]; exact (xi_f0 hy hI3115 (c := 0) (by decide) (Or.inl (by decide)) (by decide))
        have e3121 : I3120 (ad g 1) 1 = L := by rw [eI3120, pp_ne _ _ (Or.inl (lyx_ne hy (by decide) (by decide) (by decide)))]; exact e3117
        have e3122 : I3120 (ad g 0) 11 = v3119 := by rw [eI3120, pp_self]
        clear eI3120
        exact WP_vret dX10_settle_67 rfl ⟨⟨hI3120, rfl⟩, rfl⟩
      · refine WP_aload_n dX10_settle_39 rfl ?_
        refine WP_getr dX10_settle_40 fX10_69 rfl (lyx_is hy 0 10 rfl) (rfx hr 0 7 59 (by decide)) ?_
        refine WP_iload_n dX10_settle_43 rfl ?_
        rcases (show i3107.toInt = 0 ∨ i3107.toInt = 1 ∨ i3107.toInt = 2 by omega) with k3123 | k3124 | k3125
        · refine WQ_aald (q := 0) dX10_settle_44 (lyx_is hy 59 16 rfl) (lyx_n hy 59 3 rfl) k3123 (by decide) (rfx hr 59 0 60 (by decide)) ?_
          refine WQ_iconst (-1) (-1) dX10_settle_45 rfl rfl (fun v3126 hv3126 => ?_)
          refine WQ_puti dX10_settle_46 fX10_232 rfl rfl (lyx_is hy 60 4 rfl) (fun I3127 eI3127 => ?_)
          have hI3127 : XI g n L I3127 := by rw [eI3127]; exact (xi_f0 hy hI3108 (c := 60) (by decide) (Or.inl (by decide)) (by decide))
          have e3128 : I3127 (ad g 1) 1 = L := by rw [eI3127, pp_ne _ _ (Or.inl (lyx_ne hy (by decide) (by decide) (by decide)))]; exact e3111
          have e3129 : I3127 (ad g 60) 0 = v3126 := by rw [eI3127, pp_self]
          clear eI3127
          refine WP_iinc (ls' := [(0, _), (1, _)]) dX10_settle_49 rfl (by decide) rfl ?_
          have hv3130 : (i3107 + Int32.ofInt (1)).toInt = i3107.toInt + (1) := ia_n rfl (by omega) (by omega)
          generalize i3107 + Int32.ofInt (1) = v3130 at hv3130 ⊢
          refine WP_goto 34 dX10_settle_52 rfl ?_
          exact WP_sub (fc rfl (fc rfl fn)) (ihlp34_3109 v3130 I3127 J3109 hI3127 (by omega) (by omega) (by omega))
        · refine WQ_aald (q := 1) dX10_settle_44 (lyx_is hy 59 16 rfl) (lyx_n hy 59 3 rfl) k3124 (by decide) (rfx hr 59 1 63 (by decide)) ?_
          refine WQ_iconst (-1) (-1) dX10_settle_45 rfl rfl (fun v3131 hv3131 => ?_)
          refine WQ_puti dX10_settle_46 fX10_232 rfl rfl (lyx_is hy 63 4 rfl) (fun I3132 eI3132 => ?_)
          have hI3132 : XI g n L I3132 := by rw [eI3132]; exact (xi_f0 hy hI3108 (c := 63) (by decide) (Or.inl (by decide)) (by decide))
          have e3133 : I3132 (ad g 1) 1 = L := by rw [eI3132, pp_ne _ _ (Or.inl (lyx_ne hy (by decide) (by decide) (by decide)))]; exact e3111
          have e3134 : I3132 (ad g 63) 0 = v3131 := by rw [eI3132, pp_self]
          clear eI3132
          refine WP_iinc (ls' := [(0, _), (1, _)]) dX10_settle_49 rfl (by decide) rfl ?_
          have hv3135 : (i3107 + Int32.ofInt (1)).toInt = i3107.toInt + (1) := ia_n rfl (by omega) (by omega)
          generalize i3107 + Int32.ofInt (1) = v3135 at hv3135 ⊢
          refine WP_goto 34 dX10_settle_52 rfl ?_
          exact WP_sub (fc rfl (fc rfl fn)) (ihlp34_3109 v3135 I3132 J3109 hI3132 (by omega) (by omega) (by omega))
        · refine WQ_aald (q := 2) dX10_settle_44 (lyx_is hy 59 16 rfl) (lyx_n hy 59 3 rfl) k3125 (by decide) (rfx hr 59 2 66 (by decide)) ?_
          refine WQ_iconst (-1) (-1) dX10_settle_45 rfl rfl (fun v3136 hv3136 => ?_)
          refine WQ_puti dX10_settle_46 fX10_232 rfl rfl (lyx_is hy 66 4 rfl) (fun I3137 eI3137 => ?_)
          have hI3137 : XI g n L I3137 := by rw [eI3137]; exact (xi_f0 hy hI3108 (c := 66) (by decide) (Or.inl (by decide)) (by decide))
          have e3138 : I3137 (ad g 1) 1 = L := by rw [eI3137, pp_ne _ _ (Or.inl (lyx_ne hy (by decide) (by decide) (by decide)))]; exact e3111
          have e3139 : I3137 (ad g 66) 0 = v3136 := by rw [eI3137, pp_self]
          clear eI3137
          refine WP_iinc (ls' := [(0, _), (1, _)]) dX10_settle_49 rfl (by decide) rfl ?_
          have hv3140 : (i3107 + Int32.ofInt (1)).toInt = i3107.toInt + (1) := ia_n rfl (by omega) (by omega)
          generalize i3107 + Int32.ofInt (1) = v3140 at hv3140 ⊢
          refine WP_goto 34 dX10_settle_52 rfl ?_
          exact WP_sub (fc rfl (fc rfl fn)) (ihlp34_3109 v3140 I3137 J3109 hI3137 (by omega) (by omega) (by omega))
  exact WP_sub (fc rfl (fc rfl fn)) (lp34_3109 _ v3106 I3104 J3100 hI3104 (by omega) (by omega) (Nat.lt_succ_self _))
set_option maxHeartbeats 4000000 in
set_option maxRecDepth 100000 in
theorem sx_meet_6 {g : GG} {n : Int} {L : Int32} (hy : LyX g)  {I : pI} {J : pJ} {R : pR} (hr : RfX g R) (hT : R (ad g 5) 0 = some (ad g 6)) (hI : XI g n L I) (a : Int32) (b : Int32) (c : Int32) (e : Int32) (f : Int32) (h : Int32)  : SP g mX10_meet [.ref (ad g 0), .int a, .int b, .int c, .int e, .int f, .int h] I J R (fun r I' J' R' => (XI g n L I' ∧ R' = R) ∧ ∃ v : Int32, r = some (.int v)) := by
  refine SP_of ⟨by decide, rfl⟩ (Nat.le_of_ble_eq_true rfl) ?_
  have e3141 : I (ad g 1) 1 = L := hI.2
  have b3142 := BT_get hI.1 1 1 2 (0) (0) (900) (by decide) 1 (by decide) (by decide)
  rw [e3141] at b3142
  refine WP_aload_n dX10_meet_0 rfl ?_
  refine WP_iload_n dX10_meet_1 rfl ?_
  refine WP_callV1 (k := 10) dX10_meet_2 ⟨⟨⟨by decide, by decide⟩, zX10_isSort⟩, lX10_152, by decide, rfl, vX10_isSort.1, vX10_isSort.2⟩ (lyx_is hy 0 10 rfl) (sx_isSort_6 hy hr hT hI a ) (Nat.le_of_ble_eq_true rfl) ?_
  intro r Ia Ja Ra hq
  obtain ⟨⟨ea, eb, ec⟩, v3143, rfl, av3143, bv3143, cv3143⟩ := hq
  show WP _ _ _ _ (.int _ :: _) _ _ _ _
  rw [ea, eb, ec]
  clear ea eb ec Ia Ja Ra
  refine WQ_if_eq 39 dX10_meet_5 rfl (fun c3143 => ?_) (fun c3143 => ?_)
  · refine WP_ldcw (-1000000) dX10_meet_39 kX10_309 ?_
    obtain ⟨v3145, hv3145, ev3145⟩ : ∃ v : Int32, v.toInt = -1000000 ∧ ((-1000000) : Int32) = v := ⟨(-1000000), rfl, rfl⟩
    rw [ev3145]; clear ev3145
    exact WP_iret dX10_meet_42 rfl ⟨⟨hI, rfl⟩, _, rfl⟩
  · refine WP_iload_n dX10_meet_8 rfl ?_
    refine WQ_if_lt 39 dX10_meet_9 rfl (fun c3145 => ?_) (fun c3145 => ?_)
    · refine WP_ldcw (-1000000) dX10_meet_39 kX10_309 ?_
      obtain ⟨v3147, hv3147, ev3147⟩ : ∃ v : Int32, v.toInt = -1000000 ∧ ((-1000000) : Int32) = v := ⟨(-1000000), rfl, rfl⟩
      rw [ev3147]; clear ev3147
      exact WP_iret dX10_meet_42 rfl ⟨⟨hI, rfl⟩, _, rfl⟩
    · refine WP_iload_n dX10_meet_12 rfl ?_
      refine WQ_iconst (1) (1) dX10_meet_13 rfl rfl (fun v3148 hv3148 => ?_)
      refine WP_aload_n dX10_meet_14 rfl ?_
      refine WP_getr dX10_meet_15 fX10_33 rfl (lyx_is hy 0 10 rfl) (rfx hr 0 2 5 (by decide)) ?_
      refine WP_getr dX10_meet_18 fX10_102 rfl (lyx_is hy 5 0 rfl) hT ?_
      refine WQ_geti dX10_meet_21 fX10_114 rfl (lyx_is hy 6 7 rfl) (BT_get hI.1 6 1 2 (0) (0) (4) (by decide) 1 (by decide) (by decide)) (fun v3149 ev3149 av3149 bv3149 => ?_)
      refine WQ_ishl1 dX10_meet_24 hv3148 (by omega) (by omega) (fun v3150 av3150 bv3150 => ?_)
      refine WQ_icmp_ge 39 dX10_meet_25 rfl (fun c3150 => ?_) (fun c3150 => ?_)
      · refine WP_ldcw (-1000000) dX10_meet_39 kX10_309 ?_
        obtain ⟨v3152, hv3152, ev3152⟩ : ∃ v : Int32, v.toInt = -1000000 ∧ ((-1000000) : Int32) = v := ⟨(-1000000), rfl, rfl⟩
        rw [ev3152]; clear ev3152
        exact WP_iret dX10_meet_42 rfl ⟨⟨hI, rfl⟩, _, rfl⟩
      · refine WP_iload_n dX10_meet_28 rfl ?_
        refine WP_iload dX10_meet_29 rfl ?_
        refine WP_iload dX10_meet_31 rfl ?_
        refine WP_callS3 dX10_meet_33 ⟨⟨⟨by decide, by decide⟩, zX10_isMeeting⟩, lX10_306, tX10_isMeeting⟩ (sx_isMeeting hy hr hI c e f   ) (Nat.le_of_ble_eq_true rfl) ?_
        intro r Ia Ja Ra hq
        obtain ⟨⟨ea, eb, ec⟩, v3153, rfl, av3153, bv3153, cv3153⟩ := hq
        show WP _ _ _ _ (.int _ :: _) _ _ _ _
        rw [ea, eb, ec]
        clear ea eb ec Ia Ja Ra
        refine WQ_if_ne 43 dX10_meet_36 rfl (fun c3153 => ?_) (fun c3153 => ?_)
        · refine WP_iload dX10_meet_43 rfl ?_
          refine WQ_if_eq 58 dX10_meet_45 rfl (fun c3154 => ?_) (fun c3154 => ?_)
          · refine WP_aload_n dX10_meet_58 rfl ?_
            refine WP_getr dX10_meet_59 fX10_83 rfl (lyx_is hy 0 10 rfl) (rfx hr 0 9 71 (by decide)) ?_
            refine WP_aload_n dX10_meet_62 rfl ?_
            refine WP_getr dX10_meet_63 fX10_33 rfl (lyx_is hy 0 10 rfl) (rfx hr 0 2 5 (by decide)) ?_
            refine WP_getr dX10_meet_66 fX10_102 rfl (lyx_is hy 5 0 rfl) hT ?_
            refine WP_iload_n dX10_meet_69 rfl ?_
            refine WP_iload_n dX10_meet_70 rfl ?_
            refine WP_callV3 (k := 1) dX10_meet_71 ⟨⟨⟨by decide, by decide⟩, zX1_start⟩, lX10_310, by decide, rfl, vX1_start.1, vX1_start.2⟩ (lyx_is hy 71 1 rfl) (sx_start_6 hy hr hI b c  (by omega) (by omega)) (Nat.le_of_ble_eq_true rfl) ?_
            intro r I3156 J3157 Ra hq
            obtain ⟨⟨hI3156, ec⟩, rfl⟩ := hq
            rw [ec]
            clear ec Ra
            have e3158 : I3156 (ad g 1) 1 = L := hI3156.2
            have b3159 := BT_get hI3156.1 1 1 2 (0) (0) (900) (by decide) 1 (by decide) (by decide)
            rw [e3158] at b3159
            refine WP_aload_n dX10_meet_74 rfl ?_
            refine WP_getr dX10_meet_75 fX10_83 rfl (lyx_is hy 0 10 rfl) (rfx hr 0 9 71 (by decide)) ?_
            refine WP_iload_n dX10_meet_78 rfl ?_
            refine WP_iload dX10_meet_79 rfl ?_
            refine WP_iload dX10_meet_81 rfl ?_
            refine WP_callV3 (k := 1) dX10_meet_83 ⟨⟨⟨by decide, by decide⟩, zX1_goOn⟩, lX10_314, by decide, rfl, vX1_goOn.1, vX1_goOn.2⟩ (lyx_is hy 71 1 rfl) (sx_goOn hy hr hI3156 a e f (by omega) (by omega)  (by omega) (by omega)) (Nat.le_of_ble_eq_true rfl) ?_
            intro r I3160 J3161 Ra hq
            obtain ⟨⟨hI3160, ec⟩, rfl⟩ := hq
            rw [ec]
            clear ec Ra
            have e3162 : I3160 (ad g 1) 1 = L := hI3160.2
            have b3163 := BT_get hI3160.1 1 1 2 (0) (0) (900) (by decide) 1 (by decide) (by decide)
            rw [e3162] at b3163
            refine WP_iload dX10_meet_86 rfl ?_
            refine WQ_if_ne 101 dX10_meet_88 rfl (fun c3164 => False.elim (by omega)) (fun c3164 => ?_)
            refine WP_aload_n dX10_meet_91 rfl ?_
            refine WP_getr dX10_meet_92 fX10_83 rfl (lyx_is hy 0 10 rfl) (rfx hr 0 9 71 (by decide)) ?_
            refine WQ_getl dX10_meet_95 fX10_318 rfl (lyx_is hy 71 1 rfl) (fun l3166 el3166 => ?_)
            refine WP_goto 108 dX10_meet_98 rfl ?_
            refine WQ_l2i dX10_meet_108 (fun v3167 => ?_)
            exact WP_iret dX10_meet_109 rfl ⟨⟨hI3160, rfl⟩, _, rfl⟩
          · refine WP_iload dX10_meet_48 rfl ?_
            refine WQ_iconst (1) (1) dX10_meet_50 rfl rfl (fun v3168 hv3168 => ?_)
            refine WQ_icmp_eq 58 dX10_meet_51 rfl (fun c3168 => ?_) (fun c3168 => ?_)
            · refine WP_aload_n dX10_meet_58 rfl ?_
              refine WP_getr dX10_meet_59 fX10_83 rfl (lyx_is hy 0 10 rfl) (rfx hr 0 9 71 (by decide)) ?_
              refine WP_aload_n dX10_meet_62 rfl ?_
              refine WP_getr dX10_meet_63 fX10_33 rfl (lyx_is hy 0 10 rfl) (rfx hr 0 2 5 (by decide)) ?_
              refine WP_getr dX10_meet_66 fX10_102 rfl (lyx_is hy 5 0 rfl) hT ?_
              refine WP_iload_n dX10_meet_69 rfl ?_
              refine WP_iload_n dX10_meet_70 rfl ?_
              refine WP_callV3 (k := 1) dX10_meet_71 ⟨⟨⟨by decide, by decide⟩, zX1_start⟩, lX10_310, by decide, rfl, vX1_start.1, vX1_start.2⟩ (lyx_is hy 71 1 rfl) (sx_start_6 hy hr hI b c  (by omega) (by omega)) (Nat.le_of_ble_eq_true rfl) ?_
              intro r I3170 J3171 Ra hq
              obtain ⟨⟨hI3170, ec⟩, rfl⟩ := hq
              rw [ec]
              clear ec Ra
              have e3172 : I3170 (ad g 1) 1 = L := hI3170.2
              have b3173 := BT_get hI3170.1 1 1 2 (0) (0) (900) (by decide) 1 (by decide) (by decide)
              rw [e3172] at b3173
              refine WP_aload_n dX10_meet_74 rfl ?_
              refine WP_getr dX10_meet_75 fX10_83 rfl (lyx_is hy 0 10 rfl) (rfx hr 0 9 71 (by decide)) ?_
              refine WP_iload_n dX10_meet_78 rfl ?_
              refine WP_iload dX10_meet_79 rfl ?_
              refine WP_iload dX10_meet_81 rfl ?_
              refine WP_callV3 (k := 1) dX10_meet_83 ⟨⟨⟨by decide, by decide⟩, zX1_goOn⟩, lX10_314, by decide, rfl, vX1_goOn.1, vX1_goOn.2⟩ (lyx_is hy 71 1 rfl) (sx_goOn hy hr hI3170 a e f (by omega) (by omega)  (by omega) (by omega)) (Nat.le_of_ble_eq_true rfl) ?_
              intro r I3174 J3175 Ra hq
              obtain ⟨⟨hI3174, ec⟩, rfl⟩ := hq
              rw [ec]
              clear ec Ra
              have e3176 : I3174 (ad g 1) 1 = L := hI3174.2
              have b3177 := BT_get hI3174.1 1 1 2 (0) (0) (900) (by decide) 1 (by decide) (by decide)
              rw [e3176] at b3177
              refine WP_iload dX10_meet_86 rfl ?_
              refine WQ_if_ne 101 dX10_meet_88 rfl (fun c3178 => ?_) (fun c3178 => False.elim (by omega))
              refine WP_aload_n dX10_meet_101 rfl ?_
              refine WP_getr dX10_meet_102 fX10_83 rfl (lyx_is hy 0 10 rfl) (rfx hr 0 9 71 (by decide)) ?_
              refine WQ_getl dX10_meet_105 fX10_322 rfl (lyx_is hy 71 1 rfl) (fun l3180 el3180 => ?_)
              refine WQ_l2i dX10_meet_108 (fun v3181 => ?_)
              exact WP_iret dX10_meet_109 rfl ⟨⟨hI3174, rfl⟩, _, rfl⟩
            · refine WP_ldcw (-1000000) dX10_meet_54 kX10_309 ?_
              obtain ⟨v3182, hv3182, ev3182⟩ : ∃ v : Int32, v.toInt = -1000000 ∧ ((-1000000) : Int32) = v := ⟨(-1000000), rfl, rfl⟩
              rw [ev3182]; clear ev3182
              exact WP_iret dX10_meet_57 rfl ⟨⟨hI, rfl⟩, _, rfl⟩
        · refine WP_ldcw (-1000000) dX10_meet_39 kX10_309 ?_
          obtain ⟨v3183, hv3183, ev3183⟩ : ∃ v : Int32, v.toInt = -1000000 ∧ ((-1000000) : Int32) = v := ⟨(-1000000), rfl, rfl⟩
          rw [ev3183]; clear ev3183
          exact WP_iret dX10_meet_42 rfl ⟨⟨hI, rfl⟩, _, rfl⟩
set_option maxHeartbeats 4000000 in
set_option maxRecDepth 100000 in
theorem sx_rests_6 {g : GG} {n : Int} {L : Int32} (hy : LyX g)  {I : pI} {J : pJ} {R : pR} (hr : RfX g R) (hT : R (ad g 5) 0 = some (ad g 6)) (hI : XI g n L I) (a : Int32) (b : Int32) (c : Int32)  : SP g mX10_rests [.ref (ad g 0), .int a, .int b, .int c] I J R (fun r I' J' R' => (XI g n L I' ∧ R' = R) ∧ ∃ v : Int32, r = some (.int v)) := by
  refine SP_of ⟨by decide, rfl⟩ (Nat.le_of_ble_eq_true rfl) ?_
  have e3184 : I (ad g 1) 1 = L := hI.2
  have b3185 := BT_get hI.1 1 1 2 (0) (0) (900) (by decide) 1 (by decide) (by decide)
  rw [e3184] at b3185
  refine WP_iload_n dX10_rests_0 rfl ?_
  refine WP_iload_n dX10_rests_1 rfl ?_
  refine WP_iload_n dX10_rests_2 rfl ?_
  refine WP_callS3 dX10_rests_3 ⟨⟨⟨by decide, by decide⟩, zX10_isMeeting⟩, lX10_306, tX10_isMeeting⟩ (sx_isMeeting hy hr hI a b c   ) (Nat.le_of_ble_eq_true rfl) ?_
  intro r Ia Ja Ra hq
  obtain ⟨⟨ea, eb, ec⟩, v3186, rfl, av3186, bv3186, cv3186⟩ := hq
  show WP _ _ _ _ (.int _ :: _) _ _ _ _
  rw [ea, eb, ec]
  clear ea eb ec Ia Ja Ra
  refine WQ_if_ne 12 dX10_rests_6 rfl (fun c3186 => ?_) (fun c3186 => ?_)
  · refine WQ_iconst (1) (1) dX10_rests_12 rfl rfl (fun v3188 hv3188 => ?_)
    refine WP_aload_n dX10_rests_13 rfl ?_
    refine WP_getr dX10_rests_14 fX10_33 rfl (lyx_is hy 0 10 rfl) (rfx hr 0 2 5 (by decide)) ?_
    refine WP_getr dX10_rests_17 fX10_102 rfl (lyx_is hy 5 0 rfl) hT ?_
    refine WQ_geti dX10_rests_20 fX10_114 rfl (lyx_is hy 6 7 rfl) (BT_get hI.1 6 1 2 (0) (0) (4) (by decide) 1 (by decide) (by decide)) (fun v3189 ev3189 av3189 bv3189 => ?_)
    refine WQ_ishl1 dX10_rests_23 hv3188 (by omega) (by omega) (fun v3190 av3190 bv3190 => ?_)
    refine WP_istore (ls' := [(0, _), (1, _), (2, _), (3, _), (4, _)]) dX10_rests_24 (by decide) rfl ?_
    refine WQ_iconst (0) (0) dX10_rests_26 rfl rfl (fun v3191 hv3191 => ?_)
    refine WP_istore (ls' := [(0, _), (1, _), (2, _), (3, _), (4, _), (5, _)]) dX10_rests_27 (by decide) rfl ?_
    refine WQ_iconst (0) (0) dX10_rests_29 rfl rfl (fun v3192 hv3192 => ?_)
    refine WP_istore (ls' := [(0, _), (1, _), (2, _), (3, _), (4, _), (5, _), (6, _)]) dX10_rests_30 (by decide) rfl ?_
    have lp32_3196 : ∀ (mz : Nat) (i3193 : Int32) (i3194 : Int32) (I3195 : pI) (J3196 : pJ), XI g n L I3195 → 0 ≤ i3194.toInt → i3194.toInt ≤ 16 → (17 - i3194.toInt).toNat < mz → WP g mX10_rests 32 [(0, .ref (ad g 0)), (1, .int a), (2, .int b), (3, .int c), (4, .int v3190), (5, .int i3193), (6, .int i3194)] [] I3195 J3196 R (fun r I' J' R' => (XI g n L I' ∧ R' = R) ∧ ∃ v : Int32, r = some (.int v)) := by
      intro mz
      induction mz with
      | zero =>
        intro i3193 i3194 I3195 J3196 hI3195 ai3194 bi3194 hmlp32_3196
        exact absurd hmlp32_3196 (Nat.not_lt_zero _)
      | succ mz ihlp32_3196 =>
        intro i3193 i3194 I3195 J3196 hI3195 ai3194 bi3194 hmlp32_3196
        have e3198 : I3195 (ad g 1) 1 = L := hI3195.2
        have b3199 := BT_get hI3195.1 1 1 2 (0) (0) (900) (by decide) 1 (by decide) (by decide)
        rw [e3198] at b3199
        refine WP_iload dX10_rests_32 rfl ?_
        refine WP_iload dX10_rests_34 rfl ?_
        refine WQ_icmp_ge 83 dX10_rests_36 rfl (fun c3199 => ?_) (fun c3199 => ?_)
        · refine WP_iload dX10_rests_83 rfl ?_
          exact WP_iret dX10_rests_85 rfl ⟨⟨hI3195, rfl⟩, _, rfl⟩
        · refine WP_aload_n dX10_rests_39 rfl ?_
          refine WP_getr dX10_rests_40 fX10_83 rfl (lyx_is hy 0 10 rfl) (rfx hr 0 9 71 (by decide)) ?_
          refine WP_aload_n dX10_rests_43 rfl ?_
          refine WP_getr dX10_rests_44 fX10_33 rfl (lyx_is hy 0 10 rfl) (rfx hr 0 2 5 (by decide)) ?_
          refine WP_getr dX10_rests_47 fX10_102 rfl (lyx_is hy 5 0 rfl) hT ?_
          refine WP_iload dX10_rests_50 rfl ?_
          refine WP_iload_n dX10_rests_52 rfl ?_
          refine WP_callV3 (k := 1) dX10_rests_53 ⟨⟨⟨by decide, by decide⟩, zX1_start⟩, lX10_310, by decide, rfl, vX1_start.1, vX1_start.2⟩ (lyx_is hy 71 1 rfl) (sx_start_6 hy hr hI3195 i3194 a  (by omega) (by omega)) (Nat.le_of_ble_eq_true rfl) ?_
          intro r I3201 J3202 Ra hq
          obtain ⟨⟨hI3201, ec⟩, rfl⟩ := hq
          rw [ec]
          clear ec Ra
          have e3203 : I3201 (ad g 1) 1 = L := hI3201.2
          have b3204 := BT_get hI3201.1 1 1 2 (0) (0) (900) (by decide) 1 (by decide) (by decide)
          rw [e3203] at b3204
          refine WP_aload_n dX10_rests_56 rfl ?_
          refine WP_getr dX10_rests_57 fX10_83 rfl (lyx_is hy 0 10 rfl) (rfx hr 0 9 71 (by decide)) ?_
          refine WP_iload_n dX10_rests_60 rfl ?_
          refine WP_iload_n dX10_rests_61 rfl ?_
          refine WP_callV2 (k := 1) dX10_rests_62 ⟨⟨⟨by decide, by decide⟩, zX1_isAtRest⟩, lX10_325, by decide, rfl, vX1_isAtRest.1, vX1_isAtRest.2⟩ (lyx_is hy 71 1 rfl) (sx_isAtRest hy hr hI3201 b c  (by omega) (by omega)) (Nat.le_of_ble_eq_true rfl) ?_
          intro r I3205 J3206 Ra hq
          obtain ⟨⟨hI3205, ec⟩, v3207, rfl, av3207, bv3207⟩ := hq
          show WP _ _ _ _ (.int _ :: _) _ _ _ _
          rw [ec]
          clear ec Ra
          have e3208 : I3205 (ad g 1) 1 = L := hI3205.2
          have b3209 := BT_get hI3205.1 1 1 2 (0) (0) (900) (by decide) 1 (by decide) (by decide)
          rw [e3208] at b3209
          refine WQ_if_eq 77 dX10_rests_65 rfl (fun c3209 => ?_) (fun c3209 => ?_)
          · refine WP_iinc (ls' := [(0, _), (1, _), (2, _), (3, _), (4, _), (5, _), (6, _)]) dX10_rests_77 rfl (by decide) rfl ?_
            have hv3211 : (i3194 + Int32.ofInt (1)).toInt = i3194.toInt + (1) := ia_n rfl (by omega) (by omega)
            generalize i3194 + Int32.ofInt (1) = v3211 at hv3211 ⊢
            refine WP_goto 32 dX10_rests_80 rfl ?_
            exact WP_sub (fc rfl (fc rfl (fc rfl (fc rfl (fc rfl (fc rfl (fc rfl fn))))))) (ihlp32_3196 i3193 v3211 I3205 J3206 hI3205 (by omega) (by omega) (by omega))
          · refine WP_iload dX10_rests_68 rfl ?_
            refine WQ_iconst (1) (1) dX10_rests_70 rfl rfl (fun v3212 hv3212 => ?_)
            refine WP_iload dX10_rests_71 rfl ?_
            refine WQ_ishlu dX10_rests_73 (fun v3213 => ?_)
            refine WQ_ioru dX10_rests_74 (fun v3214 => ?_)
            refine WP_istore (ls' := [(0, _), (1, _), (2, _), (3, _), (4, _), (5, _), (6, _)]) dX10_rests_75 (by decide) rfl ?_
            refine WP_iinc (ls' := [(0, _), (1, _), (2, _), (3, _), (4, _), (5, _), (6, _)]) dX10_rests_77 rfl (by decide) rfl ?_
            have hv3215 : (i3194 + Int32.ofInt (1)).toInt = i3194.toInt + (1) := ia_n rfl (by omega) (by omega)
            generalize i3194 + Int32.ofInt (1) = v3215 at hv3215 ⊢
            refine WP_goto 32 dX10_rests_80 rfl ?_
            exact WP_sub (fc rfl (fc rfl (fc rfl (fc rfl (fc rfl (fc rfl (fc rfl fn))))))) (ihlp32_3196 v3214 v3215 I3205 J3206 hI3205 (by omega) (by omega) (by omega))
    exact WP_sub (fc rfl (fc rfl (fc rfl (fc rfl (fc rfl (fc rfl (fc rfl fn))))))) (lp32_3196 _ v3191 v3192 I J hI (by omega) (by omega) (Nat.lt_succ_self _))
  · refine WQ_bipush (-2) (-2) dX10_rests_9 rfl rfl (fun v3216 hv3216 => ?_)
    exact WP_iret dX10_rests_11 rfl ⟨⟨hI, rfl⟩, _, rfl⟩
set_option maxHeartbeats 4000000 in
set_option maxRecDepth 100000 in
theorem sx_isSort_27 {g : GG} {n : Int} {L : Int32} (hy : LyX g)  {I : pI} {J : pJ} {R : pR} (hr : RfX g R) (hT : R (ad g 5) 0 = some (ad g 27)) (hI : XI g n L I) (a : Int32)  : SP g mX10_isSort [.ref (ad g 0), .int a] I J R (fun r I' J' R' => (I' = I ∧ J' = J ∧ R' = R) ∧ ∃ v : Int32, r = some (.int v) ∧ 0 ≤ v.toInt ∧ v.toInt ≤ 1 ∧ (v.toInt = 1 → 0 ≤ a.toInt ∧ a.toInt ≤ 3)) := by
  refine SP_of ⟨by decide, rfl⟩ (Nat.le_of_ble_eq_true rfl) ?_
  have e3217 : I (ad g 1) 1 = L := hI.2
  have b3218 := BT_get hI.1 1 1 2 (0) (0) (900) (by decide) 1 (by decide) (by decide)
  rw [e3217] at b3218
  refine WP_iload_n dX10_isSort_0 rfl ?_
  refine WQ_if_lt 22 dX10_isSort_1 rfl (fun c3218 => ?_) (fun c3218 => ?_)
  · refine WQ_iconst (0) (0) dX10_isSort_22 rfl rfl (fun v3220 hv3220 => ?_)
    exact WP_zret dX10_isSort_23 rfl (nar_z (by omega)) ⟨⟨rfl, rfl, rfl⟩, _, rfl, by omega, by omega, by omega⟩
  · refine WP_iload_n dX10_isSort_4 rfl ?_
    refine WP_aload_n dX10_isSort_5 rfl ?_
    refine WP_getr dX10_isSort_6 fX10_33 rfl (lyx_is hy 0 10 rfl) (rfx hr 0 2 5 (by decide)) ?_
    refine WP_getr dX10_isSort_9 fX10_102 rfl (lyx_is hy 5 0 rfl) hT ?_
    refine WQ_geti dX10_isSort_12 fX10_114 rfl (lyx_is hy 27 7 rfl) (BT_get hI.1 27 1 2 (0) (0) (4) (by decide) 1 (by decide) (by decide)) (fun v3221 ev3221 av3221 bv3221 => ?_)
    refine WQ_icmp_ge 22 dX10_isSort_15 rfl (fun c3221 => ?_) (fun c3221 => ?_)
    · refine WQ_iconst (0) (0) dX10_isSort_22 rfl rfl (fun v3223 hv3223 => ?_)
      exact WP_zret dX10_isSort_23 rfl (nar_z (by omega)) ⟨⟨rfl, rfl, rfl⟩, _, rfl, by omega, by omega, by omega⟩
    · refine WQ_iconst (1) (1) dX10_isSort_18 rfl rfl (fun v3224 hv3224 => ?_)
      refine WP_goto 23 dX10_isSort_19 rfl ?_
      exact WP_zret dX10_isSort_23 rfl (nar_z (by omega)) ⟨⟨rfl, rfl, rfl⟩, _, rfl, by omega, by omega, by omega⟩
set_option maxHeartbeats 4000000 in
set_option maxRecDepth 100000 in
theorem sx_isThing_27 {g : GG} {n : Int} {L : Int32} (hy : LyX g)  {I : pI} {J : pJ} {R : pR} (hr : RfX g R) (hT : R (ad g 5) 0 = some (ad g 27)) (hI : XI g n L I) (a : Int32)  : SP g mX10_isThing [.ref (ad g 0), .int a] I J R (fun r I' J' R' => (I' = I ∧ J' = J ∧ R' = R) ∧ ∃ v : Int32, r = some (.int v) ∧ 0 ≤ v.toInt ∧ v.toInt ≤ 1 ∧ (v.toInt = 1 → 0 ≤ a.toInt ∧ a.toInt ≤ 2)) := by
  refine SP_of ⟨by decide, rfl⟩ (Nat.le_of_ble_eq_true rfl) ?_
  have e3225 : I (ad g 1) 1 = L := hI.2
  have b3226 := BT_get hI.1 1 1 2 (0) (0) (900) (by decide) 1 (by decide) (by decide)
  rw [e3225] at b3226
  refine WP_iload_n dX10_isThing_0 rfl ?_
  refine WQ_if_lt 22 dX10_isThing_1 rfl (fun c3226 => ?_) (fun c3226 => ?_)
  · refine WQ_iconst (0) (0) dX10_isThing_22 rfl rfl (fun v3228 hv3228 => ?_)
    exact WP_zret dX10_isThing_23 rfl (nar_z (by omega)) ⟨⟨rfl, rfl, rfl⟩, _, rfl, by omega, by omega, by omega⟩
  · refine WP_iload_n dX10_isThing_4 rfl ?_
    refine WP_aload_n dX10_isThing_5 rfl ?_
    refine WP_getr dX10_isThing_6 fX10_33 rfl (lyx_is hy 0 10 rfl) (rfx hr 0 2 5 (by decide)) ?_
    refine WP_getr dX10_isThing_9 fX10_102 rfl (lyx_is hy 5 0 rfl) hT ?_
    refine WQ_geti dX10_isThing_12 fX10_117 rfl (lyx_is hy 27 7 rfl) (BT_get hI.1 27 2 3 (0) (0) (3) (by decide) 2 (by decide) (by decide)) (fun v3229 ev3229 av3229 bv3229 => ?_)
    refine WQ_icmp_ge 22 dX10_isThing_15 rfl (fun c3229 => ?_) (fun c3229 => ?_)
    · refine WQ_iconst (0) (0) dX10_isThing_22 rfl rfl (fun v3231 hv3231 => ?_)
      exact WP_zret dX10_isThing_23 rfl (nar_z (by omega)) ⟨⟨rfl, rfl, rfl⟩, _, rfl, by omega, by omega, by omega⟩
    · refine WQ_iconst (1) (1) dX10_isThing_18 rfl rfl (fun v3232 hv3232 => ?_)
      refine WP_goto 23 dX10_isThing_19 rfl ?_
      exact WP_zret dX10_isThing_23 rfl (nar_z (by omega)) ⟨⟨rfl, rfl, rfl⟩, _, rfl, by omega, by omega, by omega⟩
set_option maxHeartbeats 4000000 in
set_option maxRecDepth 100000 in
theorem sx_isPerson_27 {g : GG} {n : Int} {L : Int32} (hy : LyX g)  {I : pI} {J : pJ} {R : pR} (hr : RfX g R) (hT : R (ad g 5) 0 = some (ad g 27)) (hI : XI g n L I) (a : Int32) (b : Int32) (c : Int32) (e : Int32)  : SP g mX10_isPerson [.ref (ad g 0), .int a, .int b, .int c, .int e] I J R (fun r I' J' R' => (I' = I ∧ J' = J ∧ R' = R) ∧ ∃ v : Int32, r = some (.int v) ∧ 0 ≤ v.toInt ∧ v.toInt ≤ 1 ∧ (v.toInt = 1 → (0 ≤ a.toInt ∧ a.toInt ≤ 3) ∧ (0 ≤ b.toInt ∧ b.toInt ≤ 6) ∧ (0 ≤ c.toInt ∧ c.toInt ≤ 60) ∧ (0 ≤ e.toInt ∧ e.toInt ≤ 5))) := by
  refine SP_of ⟨by decide, rfl⟩ (Nat.le_of_ble_eq_true rfl) ?_
  have e3233 : I (ad g 1) 1 = L := hI.2
  have b3234 := BT_get hI.1 1 1 2 (0) (0) (900) (by decide) 1 (by decide) (by decide)
  rw [e3233] at b3234
  refine WP_aload_n dX10_isPerson_0 rfl ?_
  refine WP_iload_n dX10_isPerson_1 rfl ?_
  refine WP_callV1 (k := 10) dX10_isPerson_2 ⟨⟨⟨by decide, by decide⟩, zX10_isSort⟩, lX10_152, by decide, rfl, vX10_isSort.1, vX10_isSort.2⟩ (lyx_is hy 0 10 rfl) (sx_isSort_27 hy hr hT hI a ) (Nat.le_of_ble_eq_true rfl) ?_
  intro r Ia Ja Ra hq
  obtain ⟨⟨ea, eb, ec⟩, v3235, rfl, av3235, bv3235, cv3235⟩ := hq
  show WP _ _ _ _ (.int _ :: _) _ _ _ _
  rw [ea, eb, ec]
  clear ea eb ec Ia Ja Ra
  refine WQ_if_eq 28 dX10_isPerson_5 rfl (fun c3235 => ?_) (fun c3235 => ?_)
  · refine WQ_iconst (0) (0) dX10_isPerson_28 rfl rfl (fun v3237 hv3237 => ?_)
    exact WP_zret dX10_isPerson_29 rfl (nar_z (by omega)) ⟨⟨rfl, rfl, rfl⟩, _, rfl, by omega, by omega, by omega⟩
  · refine WP_iload_n dX10_isPerson_8 rfl ?_
    refine WP_callS1 dX10_isPerson_9 ⟨⟨⟨by decide, by decide⟩, zX10_isDay⟩, lX10_156, tX10_isDay⟩ (sx_isDay hy hr hI b ) (Nat.le_of_ble_eq_true rfl) ?_
    intro r Ia Ja Ra hq
    obtain ⟨⟨ea, eb, ec⟩, v3238, rfl, av3238, bv3238, cv3238⟩ := hq
    show WP _ _ _ _ (.int _ :: _) _ _ _ _
    rw [ea, eb, ec]
    clear ea eb ec Ia Ja Ra
    refine WQ_if_eq 28 dX10_isPerson_12 rfl (fun c3238 => ?_) (fun c3238 => ?_)
    · refine WQ_iconst (0) (0) dX10_isPerson_28 rfl rfl (fun v3240 hv3240 => ?_)
      exact WP_zret dX10_isPerson_29 rfl (nar_z (by omega)) ⟨⟨rfl, rfl, rfl⟩, _, rfl, by omega, by omega, by omega⟩
    · refine WP_iload_n dX10_isPerson_15 rfl ?_
      refine WP_iload dX10_isPerson_16 rfl ?_
      refine WP_callS2 dX10_isPerson_18 ⟨⟨⟨by decide, by decide⟩, zX10_isHeld⟩, lX10_180, tX10_isHeld⟩ (sx_isHeld hy hr hI c e  ) (Nat.le_of_ble_eq_true rfl) ?_
      intro r Ia Ja Ra hq
      obtain ⟨⟨ea, eb, ec⟩, v3241, rfl, av3241, bv3241, cv3241⟩ := hq
      show WP _ _ _ _ (.int _ :: _) _ _ _ _
      rw [ea, eb, ec]
      clear ea eb ec Ia Ja Ra
      refine WQ_if_eq 28 dX10_isPerson_21 rfl (fun c3241 => ?_) (fun c3241 => ?_)
      · refine WQ_iconst (0) (0) dX10_isPerson_28 rfl rfl (fun v3243 hv3243 => ?_)
        exact WP_zret dX10_isPerson_29 rfl (nar_z (by omega)) ⟨⟨rfl, rfl, rfl⟩, _, rfl, by omega, by omega, by omega⟩
      · refine WQ_iconst (1) (1) dX10_isPerson_24 rfl rfl (fun v3244 hv3244 => ?_)
        refine WP_goto 29 dX10_isPerson_25 rfl ?_
        exact WP_zret dX10_isPerson_29 rfl (nar_z (by omega)) ⟨⟨rfl, rfl, rfl⟩, _, rfl, by omega, by omega, by omega⟩
set_option maxHeartbeats 4000000 in
set_option maxRecDepth 100000 in
theorem sx_told_27 {g : GG} {n : Int} {L : Int32} (hy : LyX g)  {I : pI} {J : pJ} {R : pR} (hr : RfX g R) (hT : R (ad g 5) 0 = some (ad g 27)) (hI : XI g n L I) (a : Int32)  : SP g mX10_told [.ref (ad g 0), .int a] I J R (fun r I' J' R' => (I' = I ∧ J' = J ∧ R' = R) ∧ ∃ v : Int32, r = some (.int v)) := by
  refine SP_of ⟨by decide, rfl⟩ (Nat.le_of_ble_eq_true rfl) ?_
  have e3245 : I (ad g 1) 1 = L := hI.2
  have b3246 := BT_get hI.1 1 1 2 (0) (0) (900) (by decide) 1 (by decide) (by decide)
  rw [e3245] at b3246
  refine WP_aload_n dX10_told_0 rfl ?_
  refine WP_getr dX10_told_1 fX10_33 rfl (lyx_is hy 0 10 rfl) (rfx hr 0 2 5 (by decide)) ?_
  refine WP_getr dX10_told_4 fX10_102 rfl (lyx_is hy 5 0 rfl) hT ?_
  refine WP_astore_n (ls' := [(0, _), (1, _), (2, _)]) dX10_told_7 (by decide) rfl ?_
  refine WP_iload_n dX10_told_8 rfl ?_
  refine WP_tab 60 dX10_told_9 rfl rfl (fun c3246 => ?_) (fun j off c3246 hj => ?_) (by decide)
  · refine WP_iload_n dX10_told_60 rfl ?_
    refine WQ_bipush (10) (10) dX10_told_61 rfl rfl (fun v3248 hv3248 => ?_)
    refine WQ_idivu dX10_told_63 (by omega) (fun v3249 => ?_)
    refine WP_istore_n (ls' := [(0, _), (1, _), (2, _), (3, _)]) dX10_told_64 (by decide) rfl ?_
    refine WP_iload_n dX10_told_65 rfl ?_
    refine WQ_bipush (10) (10) dX10_told_66 rfl rfl (fun v3250 hv3250 => ?_)
    refine WQ_iremi (10) dX10_told_68 hv3250 (by decide) (fun v3251 hv3251 => ?_)
    refine WP_istore (ls' := [(0, _), (1, _), (2, _), (3, _), (4, _)]) dX10_told_69 (by decide) rfl ?_
    refine WP_iload dX10_told_71 rfl ?_
    refine WQ_if_ge 78 dX10_told_73 rfl (fun c3251 => ?_) (fun c3251 => ?_)
    · refine WP_iload_n dX10_told_78 rfl ?_
      refine WQ_iconst (1) (1) dX10_told_79 rfl rfl (fun v3253 hv3253 => ?_)
      refine WQ_icmp_ne 102 dX10_told_80 rfl (fun c3253 => ?_) (fun c3253 => ?_)
      · refine WP_iload_n dX10_told_102 rfl ?_
        refine WQ_bipush (6) (6) dX10_told_103 rfl rfl (fun v3255 hv3255 => ?_)
        refine WQ_icmp_eq 114 dX10_told_105 rfl (fun c3255 => ?_) (fun c3255 => ?_)
        · refine WP_iload dX10_told_114 rfl ?_
          refine WP_aload_n dX10_told_116 rfl ?_
          refine WQ_geti dX10_told_117 fX10_117 rfl (lyx_is hy 27 7 rfl) (BT_get hI.1 27 2 3 (0) (0) (3) (by decide) 2 (by decide) (by decide)) (fun v3257 ev3257 av3257 bv3257 => ?_)
          have jn150_3262 : ∀ (v3262 : Int32), -1 ≤ v3262.toInt → v3262.toInt ≤ 1000 → WP g mX10_told 150 [(0, .ref (ad g 0)), (1, .int a), (2, .ref (ad g 27)), (3, .int v3249), (4, .int v3251)] [.int v3262] I J R (fun r I' J' R' => (I' = I ∧ J' = J ∧ R' = R) ∧ ∃ v : Int32, r = some (.int v)) := by
            intro v3262 av3262 bv3262
            exact WP_iret dX10_told_150 rfl ⟨⟨rfl, rfl, rfl⟩, _, rfl⟩
          refine WQ_icmp_ge 149 dX10_told_120 rfl (fun c3263 => ?_) (fun c3263 => ?_)
          · refine WQ_iconst (-1) (-1) dX10_told_149 rfl rfl (fun v3265 hv3265 => ?_)
            exact WP_sub (fc rfl (fc rfl (fc rfl (fc rfl (fc rfl fn))))) (jn150_3262 v3265 (by omega) (by omega))
          · refine WP_iload_n dX10_told_123 rfl ?_
            refine WQ_bipush (6) (6) dX10_told_124 rfl rfl (fun v3266 hv3266 => ?_)
            refine WQ_icmp_ne 139 dX10_told_126 rfl (fun c3266 => False.elim (by omega)) (fun c3266 => ?_)
            refine WP_aload_n dX10_told_129 rfl ?_
            refine WP_getr dX10_told_130 fX10_130 rfl (lyx_is hy 27 7 rfl) (rfx hr 27 14 37 (by decide)) ?_
            refine WP_iload dX10_told_133 rfl ?_
            refine WQ_iald dX10_told_135 (lyx_is hy 37 13 rfl) (lyx_n hy 37 3 rfl) (by omega) (by omega) (fun q hq => BT_get hI.1 37 0 3 (0) (0) (1000) (by decide) q (Nat.zero_le _) hq) (fun v3268 av3268 bv3268 ev3268 => ?_)
            clear ev3268
            refine WP_goto 150 dX10_told_136 rfl ?_
            exact WP_sub (fc rfl (fc rfl (fc rfl (fc rfl (fc rfl fn))))) (jn150_3262 v3268 (by omega) (by omega))
        · refine WP_iload_n dX10_told_108 rfl ?_
          refine WQ_bipush (7) (7) dX10_told_109 rfl rfl (fun v3269 hv3269 => ?_)
          refine WQ_icmp_ne 151 dX10_told_111 rfl (fun c3269 => ?_) (fun c3269 => ?_)
          · refine WP_iload dX10_told_151 rfl ?_
            refine WP_aload_n dX10_told_153 rfl ?_
            refine WQ_geti dX10_told_154 fX10_114 rfl (lyx_is hy 27 7 rfl) (BT_get hI.1 27 1 2 (0) (0) (4) (by decide) 1 (by decide) (by decide)) (fun v3271 ev3271 av3271 bv3271 => ?_)
            refine WQ_icmp_ge 170 dX10_told_157 rfl (fun c3271 => ?_) (fun c3271 => ?_)
            · refine WQ_iconst (-1) (-1) dX10_told_170 rfl rfl (fun v3273 hv3273 => ?_)
              exact WP_iret dX10_told_171 rfl ⟨⟨rfl, rfl, rfl⟩, _, rfl⟩
            · refine WP_aload_n dX10_told_160 rfl ?_
              refine WP_iload_n dX10_told_161 rfl ?_
              refine WP_iload dX10_told_162 rfl ?_
              refine WP_callS3 dX10_told_164 ⟨⟨⟨by decide, by decide⟩, zX10_toldOfSort⟩, lX10_136, tX10_toldOfSort⟩ (sx_toldOfSort_27 hy hr hI v3249 v3251  (by omega) (by omega)) (Nat.le_of_ble_eq_true rfl) ?_
              intro r Ia Ja Ra hq
              obtain ⟨⟨ea, eb, ec⟩, v3274, rfl⟩ := hq
              show WP _ _ _ _ (.int _ :: _) _ _ _ _
              rw [ea, eb, ec]
              clear ea eb ec Ia Ja Ra
              refine WP_goto 171 dX10_told_167 rfl ?_
              exact WP_iret dX10_told_171 rfl ⟨⟨rfl, rfl, rfl⟩, _, rfl⟩
          · refine WP_iload dX10_told_114 rfl ?_
            refine WP_aload_n dX10_told_116 rfl ?_
            refine WQ_geti dX10_told_117 fX10_117 rfl (lyx_is hy 27 7 rfl) (BT_get hI.1 27 2 3 (0) (0) (3) (by decide) 2 (by decide) (by decide)) (fun v3275 ev3275 av3275 bv3275 => ?_)
            have jn150_3280 : ∀ (v3280 : Int32), -1 ≤ v3280.toInt → v3280.toInt ≤ 9 → WP g mX10_told 150 [(0, .ref (ad g 0)), (1, .int a), (2, .ref (ad g 27)), (3, .int v3249), (4, .int v3251)] [.int v3280] I J R (fun r I' J' R' => (I' = I ∧ J' = J ∧ R' = R) ∧ ∃ v : Int32, r = some (.int v)) := by
              intro v3280 av3280 bv3280
              exact WP_iret dX10_told_150 rfl ⟨⟨rfl, rfl, rfl⟩, _, rfl⟩
            refine WQ_icmp_ge 149 dX10_told_120 rfl (fun c3281 => ?_) (fun c3281 => ?_)
            · refine WQ_iconst (-1) (-1) dX10_told_149 rfl rfl (fun v3283 hv3283 => ?_)
              exact WP_sub (fc rfl (fc rfl (fc rfl (fc rfl (fc rfl fn))))) (jn150_3280 v3283 (by omega) (by omega))
            · refine WP_iload_n dX10_told_123 rfl ?_
              refine WQ_bipush (6) (6) dX10_told_124 rfl rfl (fun v3284 hv3284 => ?_)
              refine WQ_icmp_ne 139 dX10_told_126 rfl (fun c3284 => ?_) (fun c3284 => False.elim (by omega))
              refine WP_aload_n dX10_told_139 rfl ?_
              refine WP_getr dX10_told_140 fX10_133 rfl (lyx_is hy 27 7 rfl) (rfx hr 27 15 38 (by decide)) ?_
              refine WP_iload dX10_told_143 rfl ?_
              refine WQ_iald dX10_told_145 (lyx_is hy 38 13 rfl) (lyx_n hy 38 3 rfl) (by omega) (by omega) (fun q hq => BT_get hI.1 38 0 3 (0) (0) (9) (by decide) q (Nat.zero_le _) hq) (fun v3286 av3286 bv3286 ev3286 => ?_)
              clear ev3286
              refine WP_goto 150 dX10_told_146 rfl ?_
              exact WP_sub (fc rfl (fc rfl (fc rfl (fc rfl (fc rfl fn))))) (jn150_3280 v3286 (by omega) (by omega))
      · refine WP_iload dX10_told_83 rfl ?_
        refine WQ_bipush (7) (7) dX10_told_85 rfl rfl (fun v3287 hv3287 => ?_)
        have jn101_3290 : ∀ (v3290 : Int32), -1 ≤ v3290.toInt → v3290.toInt ≤ 900 → WP g mX10_told 101 [(0, .ref (ad g 0)), (1, .int a), (2, .ref (ad g 27)), (3, .int v3249), (4, .int v3251)] [.int v3290] I J R (fun r I' J' R' => (I' = I ∧ J' = J ∧ R' = R) ∧ ∃ v : Int32, r = some (.int v)) := by
          intro v3290 av3290 bv3290
          exact WP_iret dX10_told_101 rfl ⟨⟨rfl, rfl, rfl⟩, _, rfl⟩
        refine WQ_icmp_ge 100 dX10_told_87 rfl (fun c3291 => ?_) (fun c3291 => ?_)
        · refine WQ_iconst (-1) (-1) dX10_told_100 rfl rfl (fun v3293 hv3293 => ?_)
          exact WP_sub (fc rfl (fc rfl (fc rfl (fc rfl (fc rfl fn))))) (jn101_3290 v3293 (by omega) (by omega))
        · refine WP_aload_n dX10_told_90 rfl ?_
          refine WP_getr dX10_told_91 fX10_126 rfl (lyx_is hy 27 7 rfl) (rfx hr 27 5 28 (by decide)) ?_
          refine WP_iload dX10_told_94 rfl ?_
          refine WQ_iald dX10_told_96 (lyx_is hy 28 13 rfl) (lyx_n hy 28 7 rfl) (by omega) (by omega) (fun q hq => BT_get hI.1 28 0 7 (0) (0) (900) (by decide) q (Nat.zero_le _) hq) (fun v3294 av3294 bv3294 ev3294 => ?_)
          clear ev3294
          refine WP_goto 101 dX10_told_97 rfl ?_
          exact WP_sub (fc rfl (fc rfl (fc rfl (fc rfl (fc rfl fn))))) (jn101_3290 v3294 (by omega) (by omega))
    · refine WQ_iconst (-1) (-1) dX10_told_76 rfl rfl (fun v3295 hv3295 => ?_)
      exact WP_iret dX10_told_77 rfl ⟨⟨rfl, rfl, rfl⟩, _, rfl⟩
  · have hlt : j < 4 := by have := (Array.getElem?_eq_some_iff.mp hj).1; simpa using this
    have hcs : (j = 0 ∧ off = 31) ∨ (j = 1 ∧ off = 36) ∨ (j = 2 ∧ off = 41) ∨ (j = 3 ∧ off = 46) := by
      match j, hlt, hj with
      | 0, _, hj => exact Or.inl ⟨rfl, (Option.some.inj hj).symm⟩
      | 1, _, hj => exact Or.inr (Or.inl ⟨rfl, (Option.some.inj hj).symm⟩)
      | 2, _, hj => exact Or.inr (Or.inr (Or.inl ⟨rfl, (Option.some.inj hj).symm⟩))
      | 3, _, hj => exact Or.inr (Or.inr (Or.inr (⟨rfl, (Option.some.inj hj).symm⟩)))
    clear hj hlt
    rcases hcs with ⟨rfl, rfl⟩ | ⟨rfl, rfl⟩ | ⟨rfl, rfl⟩ | ⟨rfl, rfl⟩
    · show WP _ _ 40 _ _ _ _ _ _
      refine WP_aload_n dX10_told_40 rfl ?_
      refine WQ_geti dX10_told_41 fX10_114 rfl (lyx_is hy 27 7 rfl) (BT_get hI.1 27 1 2 (0) (0) (4) (by decide) 1 (by decide) (by decide)) (fun v3296 ev3296 av3296 bv3296 => ?_)
      exact WP_iret dX10_told_44 rfl ⟨⟨rfl, rfl, rfl⟩, _, rfl⟩
    · show WP _ _ 45 _ _ _ _ _ _
      refine WP_aload_n dX10_told_45 rfl ?_
      refine WQ_geti dX10_told_46 fX10_117 rfl (lyx_is hy 27 7 rfl) (BT_get hI.1 27 2 3 (0) (0) (3) (by decide) 2 (by decide) (by decide)) (fun v3297 ev3297 av3297 bv3297 => ?_)
      exact WP_iret dX10_told_49 rfl ⟨⟨rfl, rfl, rfl⟩, _, rfl⟩
    · show WP _ _ 50 _ _ _ _ _ _
      refine WP_aload_n dX10_told_50 rfl ?_
      refine WQ_geti dX10_told_51 fX10_120 rfl (lyx_is hy 27 7 rfl) (BT_get hI.1 27 3 4 (-1) (0) (3) (by decide) 3 (by decide) (by decide)) (fun v3298 ev3298 av3298 bv3298 => ?_)
      exact WP_iret dX10_told_54 rfl ⟨⟨rfl, rfl, rfl⟩, _, rfl⟩
    · show WP _ _ 55 _ _ _ _ _ _
      refine WP_aload_n dX10_told_55 rfl ?_
      refine WQ_geti dX10_told_56 fX10_123 rfl (lyx_is hy 27 7 rfl) (BT_get hI.1 27 4 5 (-1) (0) (2) (by decide) 4 (by decide) (by decide)) (fun v3299 ev3299 av3299 bv3299 => ?_)
      exact WP_iret dX10_told_59 rfl ⟨⟨rfl, rfl, rfl⟩, _, rfl⟩
set_option maxHeartbeats 4000000 in
set_option maxRecDepth 100000 in
theorem sx_earns_27 {g : GG} {n : Int} {L : Int32} (hy : LyX g)  {I : pI} {J : pJ} {R : pR} (hr : RfX g R) (hT : R (ad g 5) 0 = some (ad g 27)) (hI : XI g n L I) (a : Int32) (b : Int32)  : SP g mX10_earns [.ref (ad g 0), .int a, .int b] I J R (fun r I' J' R' => (I' = I ∧ J' = J ∧ R' = R) ∧ ∃ v : Int32, r = some (.int v)) := by
  refine SP_of ⟨by decide, rfl⟩ (Nat.le_of_ble_eq_true rfl) ?_
  have e3300 : I (ad g 1) 1 = L := hI.2
  have b3301 := BT_get hI.1 1 1 2 (0) (0) (900) (by decide) 1 (by decide) (by decide)
  rw [e3300] at b3301
  refine WP_aload_n dX10_earns_0 rfl ?_
  refine WP_iload_n dX10_earns_1 rfl ?_
  refine WP_callV1 (k := 10) dX10_earns_2 ⟨⟨⟨by decide, by decide⟩, zX10_isSort⟩, lX10_152, by decide, rfl, vX10_isSort.1, vX10_isSort.2⟩ (lyx_is hy 0 10 rfl) (sx_isSort_27 hy hr hT hI a ) (Nat.le_of_ble_eq_true rfl) ?_
  intro r Ia Ja Ra hq
  obtain ⟨⟨ea, eb, ec⟩, v3302, rfl, av3302, bv3302, cv3302⟩ := hq
  show WP _ _ _ _ (.int _ :: _) _ _ _ _
  rw [ea, eb, ec]
  clear ea eb ec Ia Ja Ra
  have jn37_3311 : ∀ (v3311 : Int32), -2 ≤ v3311.toInt → v3311.toInt ≤ 20 → WP g mX10_earns 37 [(0, .ref (ad g 0)), (1, .int a), (2, .int b)] [.int v3311] I J R (fun r I' J' R' => (I' = I ∧ J' = J ∧ R' = R) ∧ ∃ v : Int32, r = some (.int v)) := by
    intro v3311 av3311 bv3311
    exact WP_iret dX10_earns_37 rfl ⟨⟨rfl, rfl, rfl⟩, _, rfl⟩
  refine WQ_if_eq 35 dX10_earns_5 rfl (fun c3312 => ?_) (fun c3312 => ?_)
  · refine WQ_bipush (-2) (-2) dX10_earns_35 rfl rfl (fun v3314 hv3314 => ?_)
    exact WP_sub (fc rfl (fc rfl (fc rfl fn))) (jn37_3311 v3314 (by omega) (by omega))
  · refine WP_iload_n dX10_earns_8 rfl ?_
    refine WP_callS1 dX10_earns_9 ⟨⟨⟨by decide, by decide⟩, zX10_isDay⟩, lX10_156, tX10_isDay⟩ (sx_isDay hy hr hI b ) (Nat.le_of_ble_eq_true rfl) ?_
    intro r Ia Ja Ra hq
    obtain ⟨⟨ea, eb, ec⟩, v3315, rfl, av3315, bv3315, cv3315⟩ := hq
    show WP _ _ _ _ (.int _ :: _) _ _ _ _
    rw [ea, eb, ec]
    clear ea eb ec Ia Ja Ra
    refine WQ_if_eq 35 dX10_earns_12 rfl (fun c3315 => ?_) (fun c3315 => ?_)
    · refine WQ_bipush (-2) (-2) dX10_earns_35 rfl rfl (fun v3317 hv3317 => ?_)
      exact WP_sub (fc rfl (fc rfl (fc rfl fn))) (jn37_3311 v3317 (by omega) (by omega))
    · refine WP_aload_n dX10_earns_15 rfl ?_
      refine WP_getr dX10_earns_16 fX10_33 rfl (lyx_is hy 0 10 rfl) (rfx hr 0 2 5 (by decide)) ?_
      refine WP_getr dX10_earns_19 fX10_102 rfl (lyx_is hy 5 0 rfl) hT ?_
      refine WP_getr dX10_earns_22 fX10_159 rfl (lyx_is hy 27 7 rfl) (rfx hr 27 10 33 (by decide)) ?_
      refine WP_iload_n dX10_earns_25 rfl ?_
      refine WQ_bipush (7) (7) dX10_earns_26 rfl rfl (fun v3318 hv3318 => ?_)
      refine WQ_imulk (7) dX10_earns_28 hv3318 (by omega) (by omega) (fun v3319 hv3319 => ?_)
      refine WP_iload_n dX10_earns_29 rfl ?_
      refine WQ_iadd dX10_earns_30 (by omega) (by omega) (fun v3320 hv3320 => ?_)
      refine WQ_iald dX10_earns_31 (lyx_is hy 33 13 rfl) (lyx_n hy 33 28 rfl) (by omega) (by omega) (fun q hq => BT_get hI.1 33 0 28 (0) (0) (20) (by decide) q (Nat.zero_le _) hq) (fun v3321 av3321 bv3321 ev3321 => ?_)
      clear ev3321
      refine WP_goto 37 dX10_earns_32 rfl ?_
      exact WP_sub (fc rfl (fc rfl (fc rfl fn))) (jn37_3311 v3321 (by omega) (by omega))
set_option maxHeartbeats 4000000 in
set_option maxRecDepth 100000 in
theorem sx_price_27 {g : GG} {n : Int} {L : Int32} (hy : LyX g)  {I : pI} {J : pJ} {R : pR} (hr : RfX g R) (hT : R (ad g 5) 0 = some (ad g 27)) (hI : XI g n L I) (a : Int32) (b : Int32)  : SP g mX10_price [.ref (ad g 0), .int a, .int b] I J R (fun r I' J' R' => (I' = I ∧ J' = J ∧ R' = R) ∧ ∃ v : Int32, r = some (.int v)) := by
  refine SP_of ⟨by decide, rfl⟩ (Nat.le_of_ble_eq_true rfl) ?_
  have e3322 : I (ad g 1) 1 = L := hI.2
  have b3323 := BT_get hI.1 1 1 2 (0) (0) (900) (by decide) 1 (by decide) (by decide)
  rw [e3322] at b3323
  refine WP_aload_n dX10_price_0 rfl ?_
  refine WP_iload_n dX10_price_1 rfl ?_
  refine WP_callV1 (k := 10) dX10_price_2 ⟨⟨⟨by decide, by decide⟩, zX10_isThing⟩, lX10_162, by decide, rfl, vX10_isThing.1, vX10_isThing.2⟩ (lyx_is hy 0 10 rfl) (sx_isThing_27 hy hr hT hI a ) (Nat.le_of_ble_eq_true rfl) ?_
  intro r Ia Ja Ra hq
  obtain ⟨⟨ea, eb, ec⟩, v3324, rfl, av3324, bv3324, cv3324⟩ := hq
  show WP _ _ _ _ (.int _ :: _) _ _ _ _
  rw [ea, eb, ec]
  clear ea eb ec Ia Ja Ra
  have jn34_3333 : ∀ (v3333 : Int32), -2 ≤ v3333.toInt → v3333.toInt ≤ 20 → WP g mX10_price 34 [(0, .ref (ad g 0)), (1, .int a), (2, .int b)] [.int v3333] I J R (fun r I' J' R' => (I' = I ∧ J' = J ∧ R' = R) ∧ ∃ v : Int32, r = some (.int v)) := by
    intro v3333 av3333 bv3333
    exact WP_iret dX10_price_34 rfl ⟨⟨rfl, rfl, rfl⟩, _, rfl⟩
  refine WQ_if_eq 32 dX10_price_5 rfl (fun c3334 => ?_) (fun c3334 => ?_)
  · refine WQ_bipush (-2) (-2) dX10_price_32 rfl rfl (fun v3336 hv3336 => ?_)
    exact WP_sub (fc rfl (fc rfl (fc rfl fn))) (jn34_3333 v3336 (by omega) (by omega))
  · refine WP_iload_n dX10_price_8 rfl ?_
    refine WP_callS1 dX10_price_9 ⟨⟨⟨by decide, by decide⟩, zX10_isDay⟩, lX10_156, tX10_isDay⟩ (sx_isDay hy hr hI b ) (Nat.le_of_ble_eq_true rfl) ?_
    intro r Ia Ja Ra hq
    obtain ⟨⟨ea, eb, ec⟩, v3337, rfl, av3337, bv3337, cv3337⟩ := hq
    show WP _ _ _ _ (.int _ :: _) _ _ _ _
    rw [ea, eb, ec]
    clear ea eb ec Ia Ja Ra
    refine WQ_if_eq 32 dX10_price_12 rfl (fun c3337 => ?_) (fun c3337 => ?_)
    · refine WQ_bipush (-2) (-2) dX10_price_32 rfl rfl (fun v3339 hv3339 => ?_)
      exact WP_sub (fc rfl (fc rfl (fc rfl fn))) (jn34_3333 v3339 (by omega) (by omega))
    · refine WP_aload_n dX10_price_15 rfl ?_
      refine WP_getr dX10_price_16 fX10_33 rfl (lyx_is hy 0 10 rfl) (rfx hr 0 2 5 (by decide)) ?_
      refine WP_getr dX10_price_19 fX10_165 rfl (lyx_is hy 5 0 rfl) (rfx hr 5 1 22 (by decide)) ?_
      refine WP_iload_n dX10_price_22 rfl ?_
      refine WQ_bipush (7) (7) dX10_price_23 rfl rfl (fun v3340 hv3340 => ?_)
      refine WQ_imulk (7) dX10_price_25 hv3340 (by omega) (by omega) (fun v3341 hv3341 => ?_)
      refine WP_iload_n dX10_price_26 rfl ?_
      refine WQ_iadd dX10_price_27 (by omega) (by omega) (fun v3342 hv3342 => ?_)
      refine WQ_iald dX10_price_28 (lyx_is hy 22 13 rfl) (lyx_n hy 22 21 rfl) (by omega) (by omega) (fun q hq => BT_get hI.1 22 0 21 (0) (0) (20) (by decide) q (Nat.zero_le _) hq) (fun v3343 av3343 bv3343 ev3343 => ?_)
      clear ev3343
      refine WP_goto 34 dX10_price_29 rfl ?_
      exact WP_sub (fc rfl (fc rfl (fc rfl fn))) (jn34_3333 v3343 (by omega) (by omega))
set_option maxHeartbeats 4000000 in
set_option maxRecDepth 100000 in
theorem sx_made_27 {g : GG} {n : Int} {L : Int32} (hy : LyX g)  {I : pI} {J : pJ} {R : pR} (hr : RfX g R) (hT : R (ad g 5) 0 = some (ad g 27)) (hI : XI g n L I) (a : Int32) (b : Int32)  : SP g mX10_made [.ref (ad g 0), .int a, .int b] I J R (fun r I' J' R' => (I' = I ∧ J' = J ∧ R' = R) ∧ ∃ v : Int32, r = some (.int v)) := by
  refine SP_of ⟨by decide, rfl⟩ (Nat.le_of_ble_eq_true rfl) ?_
  have e3344 : I (ad g 1) 1 = L := hI.2
  have b3345 := BT_get hI.1 1 1 2 (0) (0) (900) (by decide) 1 (by decide) (by decide)
  rw [e3344] at b3345
  refine WP_aload_n dX10_made_0 rfl ?_
  refine WP_iload_n dX10_made_1 rfl ?_
  refine WP_callV1 (k := 10) dX10_made_2 ⟨⟨⟨by decide, by decide⟩, zX10_isThing⟩, lX10_162, by decide, rfl, vX10_isThing.1, vX10_isThing.2⟩ (lyx_is hy 0 10 rfl) (sx_isThing_27 hy hr hT hI a ) (Nat.le_of_ble_eq_true rfl) ?_
  intro r Ia Ja Ra hq
  obtain ⟨⟨ea, eb, ec⟩, v3346, rfl, av3346, bv3346, cv3346⟩ := hq
  show WP _ _ _ _ (.int _ :: _) _ _ _ _
  rw [ea, eb, ec]
  clear ea eb ec Ia Ja Ra
  have jn37_3355 : ∀ (v3355 : Int32), -2 ≤ v3355.toInt → v3355.toInt ≤ 999 → WP g mX10_made 37 [(0, .ref (ad g 0)), (1, .int a), (2, .int b)] [.int v3355] I J R (fun r I' J' R' => (I' = I ∧ J' = J ∧ R' = R) ∧ ∃ v : Int32, r = some (.int v)) := by
    intro v3355 av3355 bv3355
    exact WP_iret dX10_made_37 rfl ⟨⟨rfl, rfl, rfl⟩, _, rfl⟩
  refine WQ_if_eq 35 dX10_made_5 rfl (fun c3356 => ?_) (fun c3356 => ?_)
  · refine WQ_bipush (-2) (-2) dX10_made_35 rfl rfl (fun v3358 hv3358 => ?_)
    exact WP_sub (fc rfl (fc rfl (fc rfl fn))) (jn37_3355 v3358 (by omega) (by omega))
  · refine WP_iload_n dX10_made_8 rfl ?_
    refine WP_callS1 dX10_made_9 ⟨⟨⟨by decide, by decide⟩, zX10_isDay⟩, lX10_156, tX10_isDay⟩ (sx_isDay hy hr hI b ) (Nat.le_of_ble_eq_true rfl) ?_
    intro r Ia Ja Ra hq
    obtain ⟨⟨ea, eb, ec⟩, v3359, rfl, av3359, bv3359, cv3359⟩ := hq
    show WP _ _ _ _ (.int _ :: _) _ _ _ _
    rw [ea, eb, ec]
    clear ea eb ec Ia Ja Ra
    refine WQ_if_eq 35 dX10_made_12 rfl (fun c3359 => ?_) (fun c3359 => ?_)
    · refine WQ_bipush (-2) (-2) dX10_made_35 rfl rfl (fun v3361 hv3361 => ?_)
      exact WP_sub (fc rfl (fc rfl (fc rfl fn))) (jn37_3355 v3361 (by omega) (by omega))
    · refine WP_aload_n dX10_made_15 rfl ?_
      refine WP_getr dX10_made_16 fX10_33 rfl (lyx_is hy 0 10 rfl) (rfx hr 0 2 5 (by decide)) ?_
      refine WP_getr dX10_made_19 fX10_102 rfl (lyx_is hy 5 0 rfl) hT ?_
      refine WP_getr dX10_made_22 fX10_168 rfl (lyx_is hy 27 7 rfl) (rfx hr 27 17 40 (by decide)) ?_
      refine WP_iload_n dX10_made_25 rfl ?_
      refine WQ_bipush (7) (7) dX10_made_26 rfl rfl (fun v3362 hv3362 => ?_)
      refine WQ_imulk (7) dX10_made_28 hv3362 (by omega) (by omega) (fun v3363 hv3363 => ?_)
      refine WP_iload_n dX10_made_29 rfl ?_
      refine WQ_iadd dX10_made_30 (by omega) (by omega) (fun v3364 hv3364 => ?_)
      refine WQ_iald dX10_made_31 (lyx_is hy 40 13 rfl) (lyx_n hy 40 21 rfl) (by omega) (by omega) (fun q hq => BT_get hI.1 40 0 21 (-1) (0) (999) (by decide) q (Nat.zero_le _) hq) (fun v3365 av3365 bv3365 ev3365 => ?_)
      clear ev3365
      refine WP_goto 37 dX10_made_32 rfl ?_
      exact WP_sub (fc rfl (fc rfl (fc rfl fn))) (jn37_3355 v3365 (by omega) (by omega))
set_option maxHeartbeats 4000000 in
set_option maxRecDepth 100000 in
theorem sx_wants_27 {g : GG} {n : Int} {L : Int32} (hy : LyX g)  {I : pI} {J : pJ} {R : pR} (hr : RfX g R) (hT : R (ad g 5) 0 = some (ad g 27)) (hI : XI g n L I) (a : Int32) (b : Int32) (c : Int32)  : SP g mX10_wants [.ref (ad g 0), .int a, .int b, .int c] I J R (fun r I' J' R' => (I' = I ∧ J' = J ∧ R' = R) ∧ ∃ v : Int32, r = some (.int v)) := by
  refine SP_of ⟨by decide, rfl⟩ (Nat.le_of_ble_eq_true rfl) ?_
  have e3366 : I (ad g 1) 1 = L := hI.2
  have b3367 := BT_get hI.1 1 1 2 (0) (0) (900) (by decide) 1 (by decide) (by decide)
  rw [e3366] at b3367
  refine WP_aload_n dX10_wants_0 rfl ?_
  refine WP_iload_n dX10_wants_1 rfl ?_
  refine WP_callV1 (k := 10) dX10_wants_2 ⟨⟨⟨by decide, by decide⟩, zX10_isSort⟩, lX10_152, by decide, rfl, vX10_isSort.1, vX10_isSort.2⟩ (lyx_is hy 0 10 rfl) (sx_isSort_27 hy hr hT hI a ) (Nat.le_of_ble_eq_true rfl) ?_
  intro r Ia Ja Ra hq
  obtain ⟨⟨ea, eb, ec⟩, v3368, rfl, av3368, bv3368, cv3368⟩ := hq
  show WP _ _ _ _ (.int _ :: _) _ _ _ _
  rw [ea, eb, ec]
  clear ea eb ec Ia Ja Ra
  refine WQ_if_eq 15 dX10_wants_5 rfl (fun c3368 => ?_) (fun c3368 => ?_)
  · refine WQ_bipush (-2) (-2) dX10_wants_15 rfl rfl (fun v3370 hv3370 => ?_)
    exact WP_iret dX10_wants_17 rfl ⟨⟨rfl, rfl, rfl⟩, _, rfl⟩
  · refine WP_iload_n dX10_wants_8 rfl ?_
    refine WP_callS1 dX10_wants_9 ⟨⟨⟨by decide, by decide⟩, zX10_isDay⟩, lX10_156, tX10_isDay⟩ (sx_isDay hy hr hI b ) (Nat.le_of_ble_eq_true rfl) ?_
    intro r Ia Ja Ra hq
    obtain ⟨⟨ea, eb, ec⟩, v3371, rfl, av3371, bv3371, cv3371⟩ := hq
    show WP _ _ _ _ (.int _ :: _) _ _ _ _
    rw [ea, eb, ec]
    clear ea eb ec Ia Ja Ra
    refine WQ_if_ne 18 dX10_wants_12 rfl (fun c3371 => ?_) (fun c3371 => ?_)
    · refine WP_iload_n dX10_wants_18 rfl ?_
      refine WQ_bipush (7) (7) dX10_wants_19 rfl rfl (fun v3373 hv3373 => ?_)
      refine WQ_imulk (7) dX10_wants_21 hv3373 (by omega) (by omega) (fun v3374 hv3374 => ?_)
      refine WP_iload_n dX10_wants_22 rfl ?_
      refine WQ_iadd dX10_wants_23 (by omega) (by omega) (fun v3375 hv3375 => ?_)
      refine WP_istore (ls' := [(0, _), (1, _), (2, _), (3, _), (4, _)]) dX10_wants_24 (by decide) rfl ?_
      refine WP_iload_n dX10_wants_26 rfl ?_
      refine WP_tab 94 dX10_wants_27 rfl rfl (fun c3375 => ?_) (fun j off c3375 hj => ?_) (by decide)
      · refine WQ_bipush (-2) (-2) dX10_wants_94 rfl rfl (fun v3377 hv3377 => ?_)
        exact WP_iret dX10_wants_96 rfl ⟨⟨rfl, rfl, rfl⟩, _, rfl⟩
      · have hlt : j < 3 := by have := (Array.getElem?_eq_some_iff.mp hj).1; simpa using this
        have hcs : (j = 0 ∧ off = 25) ∨ (j = 1 ∧ off = 39) ∨ (j = 2 ∧ off = 53) := by
          match j, hlt, hj with
          | 0, _, hj => exact Or.inl ⟨rfl, (Option.some.inj hj).symm⟩
          | 1, _, hj => exact Or.inr (Or.inl ⟨rfl, (Option.some.inj hj).symm⟩)
          | 2, _, hj => exact Or.inr (Or.inr (⟨rfl, (Option.some.inj hj).symm⟩))
        clear hj hlt
        rcases hcs with ⟨rfl, rfl⟩ | ⟨rfl, rfl⟩ | ⟨rfl, rfl⟩
        · show WP _ _ 52 _ _ _ _ _ _
          refine WP_aload_n dX10_wants_52 rfl ?_
          refine WP_getr dX10_wants_53 fX10_33 rfl (lyx_is hy 0 10 rfl) (rfx hr 0 2 5 (by decide)) ?_
          refine WP_getr dX10_wants_56 fX10_102 rfl (lyx_is hy 5 0 rfl) hT ?_
          refine WP_getr dX10_wants_59 fX10_171 rfl (lyx_is hy 27 7 rfl) (rfx hr 27 11 34 (by decide)) ?_
          refine WP_iload dX10_wants_62 rfl ?_
          refine WQ_iald dX10_wants_64 (lyx_is hy 34 13 rfl) (lyx_n hy 34 28 rfl) (by omega) (by omega) (fun q hq => BT_get hI.1 34 0 28 (-1) (0) (2) (by decide) q (Nat.zero_le _) hq) (fun v3378 av3378 bv3378 ev3378 => ?_)
          clear ev3378
          exact WP_iret dX10_wants_65 rfl ⟨⟨rfl, rfl, rfl⟩, _, rfl⟩
        · show WP _ _ 66 _ _ _ _ _ _
          refine WP_aload_n dX10_wants_66 rfl ?_
          refine WP_getr dX10_wants_67 fX10_33 rfl (lyx_is hy 0 10 rfl) (rfx hr 0 2 5 (by decide)) ?_
          refine WP_getr dX10_wants_70 fX10_102 rfl (lyx_is hy 5 0 rfl) hT ?_
          refine WP_getr dX10_wants_73 fX10_174 rfl (lyx_is hy 27 7 rfl) (rfx hr 27 12 35 (by decide)) ?_
          refine WP_iload dX10_wants_76 rfl ?_
          refine WQ_iald dX10_wants_78 (lyx_is hy 35 13 rfl) (lyx_n hy 35 28 rfl) (by omega) (by omega) (fun q hq => BT_get hI.1 35 0 28 (0) (0) (3) (by decide) q (Nat.zero_le _) hq) (fun v3379 av3379 bv3379 ev3379 => ?_)
          clear ev3379
          exact WP_iret dX10_wants_79 rfl ⟨⟨rfl, rfl, rfl⟩, _, rfl⟩
        · show WP _ _ 80 _ _ _ _ _ _
          refine WP_aload_n dX10_wants_80 rfl ?_
          refine WP_getr dX10_wants_81 fX10_33 rfl (lyx_is hy 0 10 rfl) (rfx hr 0 2 5 (by decide)) ?_
          refine WP_getr dX10_wants_84 fX10_102 rfl (lyx_is hy 5 0 rfl) hT ?_
          refine WP_getr dX10_wants_87 fX10_177 rfl (lyx_is hy 27 7 rfl) (rfx hr 27 13 36 (by decide)) ?_
          refine WP_iload dX10_wants_90 rfl ?_
          refine WQ_iald dX10_wants_92 (lyx_is hy 36 13 rfl) (lyx_n hy 36 28 rfl) (by omega) (by omega) (fun q hq => BT_get hI.1 36 0 28 (0) (0) (99) (by decide) q (Nat.zero_le _) hq) (fun v3380 av3380 bv3380 ev3380 => ?_)
          clear ev3380
          exact WP_iret dX10_wants_93 rfl ⟨⟨rfl, rfl, rfl⟩, _, rfl⟩
    · refine WQ_bipush (-2) (-2) dX10_wants_15 rfl rfl (fun v3381 hv3381 => ?_)
      exact WP_iret dX10_wants_17 rfl ⟨⟨rfl, rfl, rfl⟩, _, rfl⟩
set_option maxHeartbeats 4000000 in
set_option maxRecDepth 100000 in
theorem sx_night_27 {g : GG} {n : Int} {L : Int32} (hy : LyX g)  {I : pI} {J : pJ} {R : pR} (hr : RfX g R) (hT : R (ad g 5) 0 = some (ad g 27)) (hI : XI g n L I) (a : Int32) (b : Int32) (c : Int32)  : SP g mX10_night [.ref (ad g 0), .int a, .int b, .int c] I J R (fun r I' J' R' => (I' = I ∧ J' = J ∧ R' = R) ∧ ∃ v : Int32, r = some (.int v)) := by
  refine SP_of ⟨by decide, rfl⟩ (Nat.le_of_ble_eq_true rfl) ?_
  have e3382 : I (ad g 1) 1 = L := hI.2
  have b3383 := BT_get hI.1 1 1 2 (0) (0) (900) (by decide) 1 (by decide) (by decide)
  rw [e3382] at b3383
  refine WP_iload_n dX10_night_0 rfl ?_
  refine WP_iload_n dX10_night_1 rfl ?_
  refine WP_callS2 dX10_night_2 ⟨⟨⟨by decide, by decide⟩, zX10_isHeld⟩, lX10_180, tX10_isHeld⟩ (sx_isHeld hy hr hI a b  ) (Nat.le_of_ble_eq_true rfl) ?_
  intro r Ia Ja Ra hq
  obtain ⟨⟨ea, eb, ec⟩, v3384, rfl, av3384, bv3384, cv3384⟩ := hq
  show WP _ _ _ _ (.int _ :: _) _ _ _ _
  rw [ea, eb, ec]
  clear ea eb ec Ia Ja Ra
  refine WQ_if_eq 32 dX10_night_5 rfl (fun c3384 => ?_) (fun c3384 => ?_)
  · refine WQ_bipush (-2) (-2) dX10_night_32 rfl rfl (fun v3386 hv3386 => ?_)
    exact WP_iret dX10_night_34 rfl ⟨⟨rfl, rfl, rfl⟩, _, rfl⟩
  · refine WP_iload_n dX10_night_8 rfl ?_
    refine WP_callS1 dX10_night_9 ⟨⟨⟨by decide, by decide⟩, zX10_isDay⟩, lX10_156, tX10_isDay⟩ (sx_isDay hy hr hI c ) (Nat.le_of_ble_eq_true rfl) ?_
    intro r Ia Ja Ra hq
    obtain ⟨⟨ea, eb, ec⟩, v3387, rfl, av3387, bv3387, cv3387⟩ := hq
    show WP _ _ _ _ (.int _ :: _) _ _ _ _
    rw [ea, eb, ec]
    clear ea eb ec Ia Ja Ra
    refine WQ_if_eq 32 dX10_night_12 rfl (fun c3387 => ?_) (fun c3387 => ?_)
    · refine WQ_bipush (-2) (-2) dX10_night_32 rfl rfl (fun v3389 hv3389 => ?_)
      exact WP_iret dX10_night_34 rfl ⟨⟨rfl, rfl, rfl⟩, _, rfl⟩
    · refine WP_aload_n dX10_night_15 rfl ?_
      refine WP_getr dX10_night_16 fX10_33 rfl (lyx_is hy 0 10 rfl) (rfx hr 0 2 5 (by decide)) ?_
      refine WP_getr dX10_night_19 fX10_102 rfl (lyx_is hy 5 0 rfl) hT ?_
      refine WQ_geti dX10_night_22 fX10_117 rfl (lyx_is hy 27 7 rfl) (BT_get hI.1 27 2 3 (0) (0) (3) (by decide) 2 (by decide) (by decide)) (fun v3390 ev3390 av3390 bv3390 => ?_)
      refine WQ_if_ne 35 dX10_night_25 rfl (fun c3390 => ?_) (fun c3390 => ?_)
      · refine WP_aload_n dX10_night_35 rfl ?_
        refine WP_getr dX10_night_36 fX10_33 rfl (lyx_is hy 0 10 rfl) (rfx hr 0 2 5 (by decide)) ?_
        refine WP_iload_n dX10_night_39 rfl ?_
        refine WP_iload_n dX10_night_40 rfl ?_
        refine WP_iload_n dX10_night_41 rfl ?_
        refine WP_callV3 (k := 0) dX10_night_42 ⟨⟨⟨by decide, by decide⟩, zX0_coinsBehind⟩, lX10_184, by decide, rfl, vX0_coinsBehind.1, vX0_coinsBehind.2⟩ (lyx_is hy 5 0 rfl) (sx_coinsBehind hy hr hI a b c (by omega) (by omega) (by omega) (by omega) (by omega) (by omega)) (Nat.le_of_ble_eq_true rfl) ?_
        intro r Ia Ja Ra hq
        obtain ⟨⟨ea, eb, ec⟩, v3392, rfl, av3392, bv3392⟩ := hq
        show WP _ _ _ _ (.int _ :: _) _ _ _ _
        rw [ea, eb, ec]
        clear ea eb ec Ia Ja Ra
        exact WP_iret dX10_night_45 rfl ⟨⟨rfl, rfl, rfl⟩, _, rfl⟩
      · refine WP_iload_n dX10_night_28 rfl ?_
        refine WQ_if_le 35 dX10_night_29 rfl (fun c3392 => ?_) (fun c3392 => ?_)
        · refine WP_aload_n dX10_night_35 rfl ?_
          refine WP_getr dX10_night_36 fX10_33 rfl (lyx_is hy 0 10 rfl) (rfx hr 0 2 5 (by decide)) ?_
          refine WP_iload_n dX10_night_39 rfl ?_
          refine WP_iload_n dX10_night_40 rfl ?_
          refine WP_iload_n dX10_night_41 rfl ?_
          refine WP_callV3 (k := 0) dX10_night_42 ⟨⟨⟨by decide, by decide⟩, zX0_coinsBehind⟩, lX10_184, by decide, rfl, vX0_coinsBehind.1, vX0_coinsBehind.2⟩ (lyx_is hy 5 0 rfl) (sx_coinsBehind hy hr hI a b c (by omega) (by omega) (by omega) (by omega) (by omega) (by omega)) (Nat.le_of_ble_eq_true rfl) ?_
          intro r Ia Ja Ra hq
          obtain ⟨⟨ea, eb, ec⟩, v3394, rfl, av3394, bv3394⟩ := hq
          show WP _ _ _ _ (.int _ :: _) _ _ _ _
          rw [ea, eb, ec]
          clear ea eb ec Ia Ja Ra
          exact WP_iret dX10_night_45 rfl ⟨⟨rfl, rfl, rfl⟩, _, rfl⟩
        · refine WQ_bipush (-2) (-2) dX10_night_32 rfl rfl (fun v3395 hv3395 => ?_)
          exact WP_iret dX10_night_34 rfl ⟨⟨rfl, rfl, rfl⟩, _, rfl⟩
set_option maxHeartbeats 4000000 in
set_option maxRecDepth 100000 in
theorem sx_count_27 {g : GG} {n : Int} {L : Int32} (hy : LyX g)  {I : pI} {J : pJ} {R : pR} (hr : RfX g R) (hT : R (ad g 5) 0 = some (ad g 27)) (hI : XI g n L I) (a : Int32)  : SP g mX10_count [.ref (ad g 0), .int a] I J R (fun r I' J' R' => (I' = I ∧ J' = J ∧ R' = R) ∧ ∃ v : Int32, r = some (.int v)) := by
  refine SP_of ⟨by decide, rfl⟩ (Nat.le_of_ble_eq_true rfl) ?_
  have e3396 : I (ad g 1) 1 = L := hI.2
  have b3397 := BT_get hI.1 1 1 2 (0) (0) (900) (by decide) 1 (by decide) (by decide)
  rw [e3396] at b3397
  refine WP_iload_n dX10_count_0 rfl ?_
  have jn33_3401 : ∀ (v3401 : Int32), WP g mX10_count 33 [(0, .ref (ad g 0)), (1, .int a)] [.int v3401] I J R (fun r I' J' R' => (I' = I ∧ J' = J ∧ R' = R) ∧ ∃ v : Int32, r = some (.int v)) := by
    intro v3401 
    exact WP_iret dX10_count_33 rfl ⟨⟨rfl, rfl, rfl⟩, _, rfl⟩
  refine WX_if_ne 17 dX10_count_1 rfl ?_ ?_
  · refine WP_iload_n dX10_count_17 rfl ?_
    refine WQ_iconst (1) (1) dX10_count_18 rfl rfl (fun v3403 hv3403 => ?_)
    refine WX_icmp_ne 32 dX10_count_19 rfl ?_ ?_
    · refine WQ_iconst (-1) (-1) dX10_count_32 rfl rfl (fun v3404 hv3404 => ?_)
      exact WP_sub (fc rfl (fc rfl fn)) (jn33_3401 v3404)
    · refine WP_aload_n dX10_count_22 rfl ?_
      refine WP_getr dX10_count_23 fX10_12 rfl (lyx_is hy 0 10 rfl) (rfx hr 0 0 1 (by decide)) ?_
      refine WQ_getim dX10_count_26 fX10_90 rfl (lyx_is hy 1 5 rfl) e3396 ?_
      refine WP_goto 33 dX10_count_29 rfl ?_
      exact WP_sub (fc rfl (fc rfl fn)) (jn33_3401 L)
  · refine WP_aload_n dX10_count_4 rfl ?_
    refine WP_getr dX10_count_5 fX10_33 rfl (lyx_is hy 0 10 rfl) (rfx hr 0 2 5 (by decide)) ?_
    refine WP_getr dX10_count_8 fX10_102 rfl (lyx_is hy 5 0 rfl) hT ?_
    refine WQ_getiu dX10_count_11 fX10_105 rfl (lyx_is hy 27 7 rfl) (fun v3405 ev3405 => ?_)
    refine WP_goto 33 dX10_count_14 rfl ?_
    exact WP_sub (fc rfl (fc rfl fn)) (jn33_3401 v3405)
set_option maxHeartbeats 4000000 in
set_option maxRecDepth 100000 in
theorem sx_way_27 {g : GG} {n : Int} {L : Int32} (hy : LyX g)  {I : pI} {J : pJ} {R : pR} (hr : RfX g R) (hT : R (ad g 5) 0 = some (ad g 27)) (hI : XI g n L I) (a : Int32) (b : Int32)  : SP g mX10_way [.ref (ad g 0), .int a, .int b] I J R (fun r I' J' R' => (XI g n L I' ∧ R' = R) ∧ ∃ v : Int32, r = some (.int v)) := by
  refine SP_of ⟨by decide, rfl⟩ (Nat.le_of_ble_eq_true rfl) ?_
  have e3406 : I (ad g 1) 1 = L := hI.2
  have b3407 := BT_get hI.1 1 1 2 (0) (0) (900) (by decide) 1 (by decide) (by decide)
  rw [e3406] at b3407
  refine WP_aload_n dX10_way_0 rfl ?_
  refine WP_iload_n dX10_way_1 rfl ?_
  refine WP_callV1 (k := 10) dX10_way_2 ⟨⟨⟨by decide, by decide⟩, zX10_isSort⟩, lX10_152, by decide, rfl, vX10_isSort.1, vX10_isSort.2⟩ (lyx_is hy 0 10 rfl) (sx_isSort_27 hy hr hT hI a ) (Nat.le_of_ble_eq_true rfl) ?_
  intro r Ia Ja Ra hq
  obtain ⟨⟨ea, eb, ec⟩, v3408, rfl, av3408, bv3408, cv3408⟩ := hq
  show WP _ _ _ _ (.int _ :: _) _ _ _ _
  rw [ea, eb, ec]
  clear ea eb ec Ia Ja Ra
  refine WQ_if_eq 15 dX10_way_5 rfl (fun c3408 => ?_) (fun c3408 => ?_)
  · refine WQ_bipush (-2) (-2) dX10_way_15 rfl rfl (fun v3410 hv3410 => ?_)
    exact WP_iret dX10_way_17 rfl ⟨⟨hI, rfl⟩, _, rfl⟩
  · refine WP_iload_n dX10_way_8 rfl ?_
    refine WP_callS1 dX10_way_9 ⟨⟨⟨by decide, by decide⟩, zX10_isWay⟩, lX10_219, tX10_isWay⟩ (sx_isWay hy hr hI b ) (Nat.le_of_ble_eq_true rfl) ?_
    intro r Ia Ja Ra hq
    obtain ⟨⟨ea, eb, ec⟩, v3411, rfl, av3411, bv3411, cv3411⟩ := hq
    show WP _ _ _ _ (.int _ :: _) _ _ _ _
    rw [ea, eb, ec]
    clear ea eb ec Ia Ja Ra
    refine WQ_if_ne 18 dX10_way_12 rfl (fun c3411 => ?_) (fun c3411 => ?_)
    · refine WP_aload_n dX10_way_18 rfl ?_
      refine WP_getr dX10_way_19 fX10_62 rfl (lyx_is hy 0 10 rfl) (rfx hr 0 5 53 (by decide)) ?_
      refine WP_getr dX10_way_22 fX10_225 rfl (lyx_is hy 53 4 rfl) (rfx hr 53 4 54 (by decide)) ?_
      refine WP_iload_n dX10_way_25 rfl ?_
      refine WQ_ialdu dX10_way_26 (lyx_is hy 54 13 rfl) (lyx_n hy 54 4 rfl) (by omega) (by omega) (fun v3413 => ?_)
      refine WP_istore_n (ls' := [(0, _), (1, _), (2, _), (3, _)]) dX10_way_27 (by decide) rfl ?_
      refine WP_aload_n dX10_way_28 rfl ?_
      refine WP_getr dX10_way_29 fX10_62 rfl (lyx_is hy 0 10 rfl) (rfx hr 0 5 53 (by decide)) ?_
      refine WP_getr dX10_way_32 fX10_225 rfl (lyx_is hy 53 4 rfl) (rfx hr 53 4 54 (by decide)) ?_
      refine WP_iload_n dX10_way_35 rfl ?_
      refine WP_iload_n dX10_way_36 rfl ?_
      refine WQ_iast dX10_way_37 (lyx_is hy 54 13 rfl) (lyx_n hy 54 4 rfl) (by omega) (by omega) (fun I3414 eI3414 => ?_)
      have hI3414 : XI g n L I3414 := by rw [eI3414]; exact (xi_r0 hy hI (c := 54) (by decide) (Or.inl (by decide)) (by decide))
      have e3415 : I3414 (ad g 1) 1 = L := by rw [eI3414, pp_ne _ _ (Or.inl (lyx_ne hy (by decide) (by decide) (by decide)))]; exact e3406
      clear eI3414
      refine WP_iload_n dX10_way_38 rfl ?_
      exact WP_iret dX10_way_39 rfl ⟨⟨hI3414, rfl⟩, _, rfl⟩
    · refine WQ_bipush (-2) (-2) dX10_way_15 rfl rfl (fun v3416 hv3416 => ?_)
      exact WP_iret dX10_way_17 rfl ⟨⟨hI, rfl⟩, _, rfl⟩
set_option maxHeartbeats 4000000 in
set_option maxRecDepth 100000 in
theorem sx_run_27 {g : GG} {n : Int} {L : Int32} (hy : LyX g)  {I : pI} {J : pJ} {R : pR} (hr : RfX g R) (hT : R (ad g 5) 0 = some (ad g 27)) (hI : XI g n L I) (a : Int32) (b : Int32)  : SP g mX10_run [.ref (ad g 0), .int a, .int b] I J R (fun r I' J' R' => (I' = I ∧ J' = J ∧ R' = R) ∧ ∃ v : Int32, r = some (.int v)) := by
  refine SP_of ⟨by decide, rfl⟩ (Nat.le_of_ble_eq_true rfl) ?_
  have e3417 : I (ad g 1) 1 = L := hI.2
  have b3418 := BT_get hI.1 1 1 2 (0) (0) (900) (by decide) 1 (by decide) (by decide)
  rw [e3417] at b3418
  refine WP_aload_n dX10_run_0 rfl ?_
  refine WP_iload_n dX10_run_1 rfl ?_
  refine WP_callV1 (k := 10) dX10_run_2 ⟨⟨⟨by decide, by decide⟩, zX10_isSort⟩, lX10_152, by decide, rfl, vX10_isSort.1, vX10_isSort.2⟩ (lyx_is hy 0 10 rfl) (sx_isSort_27 hy hr hT hI a ) (Nat.le_of_ble_eq_true rfl) ?_
  intro r Ia Ja Ra hq
  obtain ⟨⟨ea, eb, ec⟩, v3419, rfl, av3419, bv3419, cv3419⟩ := hq
  show WP _ _ _ _ (.int _ :: _) _ _ _ _
  rw [ea, eb, ec]
  clear ea eb ec Ia Ja Ra
  refine WQ_if_eq 18 dX10_run_5 rfl (fun c3419 => ?_) (fun c3419 => ?_)
  · refine WQ_bipush (-2) (-2) dX10_run_18 rfl rfl (fun v3421 hv3421 => ?_)
    exact WP_iret dX10_run_20 rfl ⟨⟨rfl, rfl, rfl⟩, _, rfl⟩
  · refine WP_iload_n dX10_run_8 rfl ?_
    refine WQ_if_lt 18 dX10_run_9 rfl (fun c3421 => ?_) (fun c3421 => ?_)
    · refine WQ_bipush (-2) (-2) dX10_run_18 rfl rfl (fun v3423 hv3423 => ?_)
      exact WP_iret dX10_run_20 rfl ⟨⟨rfl, rfl, rfl⟩, _, rfl⟩
    · refine WP_iload_n dX10_run_12 rfl ?_
      refine WQ_bipush (7) (7) dX10_run_13 rfl rfl (fun v3424 hv3424 => ?_)
      refine WQ_icmp_lt 21 dX10_run_15 rfl (fun c3424 => ?_) (fun c3424 => ?_)
      · refine WP_aload_n dX10_run_21 rfl ?_
        refine WP_getr dX10_run_22 fX10_62 rfl (lyx_is hy 0 10 rfl) (rfx hr 0 5 53 (by decide)) ?_
        refine WP_getr dX10_run_25 fX10_235 rfl (lyx_is hy 53 4 rfl) (rfx hr 53 5 55 (by decide)) ?_
        refine WP_iload_n dX10_run_28 rfl ?_
        refine WQ_bipush (7) (7) dX10_run_29 rfl rfl (fun v3426 hv3426 => ?_)
        refine WQ_imulk (7) dX10_run_31 hv3426 (by omega) (by omega) (fun v3427 hv3427 => ?_)
        refine WP_iload_n dX10_run_32 rfl ?_
        refine WQ_iadd dX10_run_33 (by omega) (by omega) (fun v3428 hv3428 => ?_)
        refine WQ_ialdu dX10_run_34 (lyx_is hy 55 13 rfl) (lyx_n hy 55 28 rfl) (by omega) (by omega) (fun v3429 => ?_)
        exact WP_iret dX10_run_35 rfl ⟨⟨rfl, rfl, rfl⟩, _, rfl⟩
      · refine WQ_bipush (-2) (-2) dX10_run_18 rfl rfl (fun v3430 hv3430 => ?_)
        exact WP_iret dX10_run_20 rfl ⟨⟨rfl, rfl, rfl⟩, _, rfl⟩
set_option maxHeartbeats 4000000 in
set_option maxRecDepth 100000 in
theorem sx_anew_27 {g : GG} {n : Int} {L : Int32} (hy : LyX g)  {I : pI} {J : pJ} {R : pR} (hr : RfX g R) (hT : R (ad g 5) 0 = some (ad g 27)) (hI : XI g n L I)   (hn : 0 ≤ n) : SP g mX10_anew [.ref (ad g 0)] I J R (fun r I' J' R' => (XI g n L I' ∧ R' = R) ∧ ∃ v : Int32, r = some (.int v)) := by
  refine SP_of ⟨by decide, rfl⟩ (Nat.le_of_ble_eq_true rfl) ?_
  have e3431 : I (ad g 1) 1 = L := hI.2
  have b3432 := BT_get hI.1 1 1 2 (0) (0) (900) (by decide) 1 (by decide) (by decide)
  rw [e3431] at b3432
  refine WP_aload_n dX10_anew_0 rfl ?_
  refine WP_getr dX10_anew_1 fX10_62 rfl (lyx_is hy 0 10 rfl) (rfx hr 0 5 53 (by decide)) ?_
  refine WQ_getiu dX10_anew_4 fX10_232 rfl (lyx_is hy 53 4 rfl) (fun v3433 ev3433 => ?_)
  refine WP_istore_n (ls' := [(0, _), (1, _)]) dX10_anew_7 (by decide) rfl ?_
  refine WP_aload_n dX10_anew_8 rfl ?_
  refine WP_getr dX10_anew_9 fX10_62 rfl (lyx_is hy 0 10 rfl) (rfx hr 0 5 53 (by decide)) ?_
  refine WP_aload_n dX10_anew_12 rfl ?_
  refine WP_getr dX10_anew_13 fX10_33 rfl (lyx_is hy 0 10 rfl) (rfx hr 0 2 5 (by decide)) ?_
  refine WP_getr dX10_anew_16 fX10_102 rfl (lyx_is hy 5 0 rfl) hT ?_
  refine WP_callV1 (k := 4) dX10_anew_19 ⟨⟨⟨by decide, by decide⟩, zX4_begin⟩, lX10_246, by decide, rfl, vX4_begin.1, vX4_begin.2⟩ (lyx_is hy 53 4 rfl) (sx_begin_53_27 hy hr hI   (by omega)) (Nat.le_of_ble_eq_true rfl) ?_
  intro r I3434 J3435 Ra hq
  obtain ⟨⟨hI3434, ec⟩, rfl⟩ := hq
  rw [ec]
  clear ec Ra
  have e3436 : I3434 (ad g 1) 1 = L := hI3434.2
  have b3437 := BT_get hI3434.1 1 1 2 (0) (0) (900) (by decide) 1 (by decide) (by decide)
  rw [e3436] at b3437
  refine WP_iload_n dX10_anew_22 rfl ?_
  exact WP_iret dX10_anew_23 rfl ⟨⟨hI3434, rfl⟩, _, rfl⟩
set_option maxHeartbeats 4000000 in
set_option maxRecDepth 100000 in
theorem sx_settle_27 {g : GG} {n : Int} {L : Int32} (hy : LyX g)  {I : pI} {J : pJ} {R : pR} (hr : RfX g R) (hT : R (ad g 5) 0 = some (ad g 27)) (hI : XI g n L I)   (hn : 0 ≤ n) : SP g mX10_settle [.ref (ad g 0)] I J R (fun r I' J' R' => (XI g n L I' ∧ R' = R) ∧ r = none) := by
  refine SP_of ⟨by decide, rfl⟩ (Nat.le_of_ble_eq_true rfl) ?_
  have e3438 : I (ad g 1) 1 = L := hI.2
  have b3439 := BT_get hI.1 1 1 2 (0) (0) (900) (by decide) 1 (by decide) (by decide)
  rw [e3438] at b3439
  refine WP_aload_n dX10_settle_0 rfl ?_
  refine WP_getr dX10_settle_1 fX10_33 rfl (lyx_is hy 0 10 rfl) (rfx hr 0 2 5 (by decide)) ?_
  refine WP_callV0 (k := 0) dX10_settle_4 ⟨⟨⟨by decide, by decide⟩, zX0_open⟩, lX10_332, by decide, rfl, vX0_open.1, vX0_open.2⟩ (lyx_is hy 5 0 rfl) (sx_open_27 hy hr hT hI  ) (Nat.le_of_ble_eq_true rfl) ?_
  intro r I3440 J3441 Ra hq
  obtain ⟨⟨hI3440, ec⟩, rfl⟩ := hq
  rw [ec]
  clear ec Ra
  have e3442 : I3440 (ad g 1) 1 = L := hI3440.2
  have b3443 := BT_get hI3440.1 1 1 2 (0) (0) (900) (by decide) 1 (by decide) (by decide)
  rw [e3442] at b3443
  refine WP_aload_n dX10_settle_7 rfl ?_
  refine WP_getr dX10_settle_8 fX10_62 rfl (lyx_is hy 0 10 rfl) (rfx hr 0 5 53 (by decide)) ?_
  refine WP_aload_n dX10_settle_11 rfl ?_
  refine WP_getr dX10_settle_12 fX10_33 rfl (lyx_is hy 0 10 rfl) (rfx hr 0 2 5 (by decide)) ?_
  refine WP_getr dX10_settle_15 fX10_102 rfl (lyx_is hy 5 0 rfl) hT ?_
  refine WP_callV1 (k := 4) dX10_settle_18 ⟨⟨⟨by decide, by decide⟩, zX4_begin⟩, lX10_246, by decide, rfl, vX4_begin.1, vX4_begin.2⟩ (lyx_is hy 53 4 rfl) (sx_begin_53_27 hy hr hI3440   (by omega)) (Nat.le_of_ble_eq_true rfl) ?_
  intro r I3444 J3445 Ra hq
  obtain ⟨⟨hI3444, ec⟩, rfl⟩ := hq
  rw [ec]
  clear ec Ra
  have e3446 : I3444 (ad g 1) 1 = L := hI3444.2
  have b3447 := BT_get hI3444.1 1 1 2 (0) (0) (900) (by decide) 1 (by decide) (by decide)
  rw [e3446] at b3447
  refine WP_aload_n dX10_settle_21 rfl ?_
  refine WP_getr dX10_settle_22 fX10_62 rfl (lyx_is hy 0 10 rfl) (rfx hr 0 5 53 (by decide)) ?_
  refine WP_getr dX10_settle_25 fX10_225 rfl (lyx_is hy 53 4 rfl) (rfx hr 53 4 54 (by decide)) ?_
  refine WQ_iconst (1) (1) dX10_settle_28 rfl rfl (fun v3448 hv3448 => ?_)
  refine WP_callS2u dX10_settle_29 ⟨⟨⟨by decide, by decide⟩, zJ7_fill_53178⟩, lX10_335, tJ7_fill_53178⟩ (s_fill hy hr 54 4 rfl rfl (by decide) v3448) (Nat.le_of_ble_eq_true rfl) ?_
  obtain ⟨I3449, eI3449⟩ : ∃ I9 : pI, I9 = fi I3444 (ad g 54) 4 v3448 := ⟨_, rfl⟩
  rw [← eI3449]
  have hI3449 : XI g n L I3449 := by rw [eI3449]; exact (xi_fill0 hy hI3444 54 4 v3448 (by decide) (by decide))
  have e3450 : I3449 (ad g 1) 1 = L := by rw [eI3449, fi_off (lyx_ne hy (by decide) (by decide) (by decide))]; exact e3446
  clear eI3449
  refine WQ_iconst (0) (0) dX10_settle_32 rfl rfl (fun v3451 hv3451 => ?_)
  refine WP_istore_n (ls' := [(0, _), (1, _)]) dX10_settle_33 (by decide) rfl ?_
  have lp34_3454 : ∀ (mz : Nat) (i3452 : Int32) (I3453 : pI) (J3454 : pJ), XI g n L I3453 → 0 ≤ i3452.toInt → i3452.toInt ≤ 3 → (4 - i3452.toInt).toNat < mz → WP g mX10_settle 34 [(0, .ref (ad g 0)), (1, .int i3452)] [] I3453 J3454 R (fun r I' J' R' => (XI g n L I' ∧ R' = R) ∧ r = none) := by
    intro mz
    induction mz with
    | zero =>
      intro i3452 I3453 J3454 hI3453 ai3452 bi3452 hmlp34_3454
      exact absurd hmlp34_3454 (Nat.not_lt_zero _)
    | succ mz ihlp34_3454 =>
      intro i3452 I3453 J3454 hI3453 ai3452 bi3452 hmlp34_3454
      have e3456 : I3453 (ad g 1) 1 = L := hI3453.2
      have b3457 := BT_get hI3453.1 1 1 2 (0) (0) (900) (by decide) 1 (by decide) (by decide)
      rw [e3456] at b3457
      refine WP_iload_n dX10_settle_34 rfl ?_
      refine WQ_iconst (3) (3) dX10_settle_35 rfl rfl (fun v3458 hv3458 => ?_)
      refine WQ_icmp_ge 55 dX10_settle_36 rfl (fun c3458 => ?_) (fun c3458 => ?_)
      · refine WP_aload_n dX10_settle_55 rfl ?_
        refine WP_getr dX10_settle_56 fX10_83 rfl (lyx_is hy 0 10 rfl) (rfx hr 0 9 71 (by decide)) ?_
        refine WP_callV0 (k := 1) dX10_settle_59 ⟨⟨⟨by decide, by decide⟩, zX1_forget⟩, lX10_341, by decide, rfl, vX1_forget.1, vX1_forget.2⟩ (lyx_is hy 71 1 rfl) (sx_mforget hy hr hI3453  ) (Nat.le_of_ble_eq_true rfl) ?_
        intro r I3460 J3461 Ra hq
        obtain ⟨⟨hI3460, ec⟩, rfl⟩ := hq
        rw [ec]
        clear ec Ra
        have e3462 : I3460 (ad g 1) 1 = L := hI3460.2
        have b3463 := BT_get hI3460.1 1 1 2 (0) (0) (900) (by decide) 1 (by decide) (by decide)
        rw [e3462] at b3463
        refine WP_aload_n dX10_settle_62 rfl ?_
        refine WQ_iconst (-1) (-1) dX10_settle_63 rfl rfl (fun v3464 hv3464 => ?_)
        refine WQ_puti dX10_settle_64 fX10_263 rfl rfl (lyx_is hy 0 10 rfl) (fun I3465 eI3465 => ?_)
        have hI3465 : XI g n L I3465 := by rw [eI3465]; exact (xi_f0 hy hI3460 (c := 0) (by decide) (Or.inl (by decide)) (by decide))
        have e3466 : I3465 (ad g 1) 1 = L := by rw [eI3465, pp_ne _ _ (Or.inl (lyx_ne hy (by decide) (by decide) (by decide)))]; exact e3462
        have e3467 : I3465 (ad g 0) 11 = v3464 := by rw [eI3465, pp_self]
        clear eI3465
        exact WP_vret dX10_settle_67 rfl ⟨⟨hI3465, rfl⟩, rfl⟩
      · refine WP_aload_n dX10_settle_39 rfl ?_
        refine WP_getr dX10_settle_40 fX10_69 rfl (lyx_is hy 0 10 rfl) (rfx hr 0 7 59 (by decide)) ?_
        refine WP_iload_n dX10_settle_43 rfl ?_
        rcases (show i3452.toInt = 0 ∨ i3452.toInt = 1 ∨ i3452.toInt = 2 by omega) with k3468 | k3469 | k3470
        · refine WQ_aald (q := 0) dX10_settle_44 (lyx_is hy 59 16 rfl) (lyx_n hy 59 3 rfl) k3468 (by decide) (rfx hr 59 0 60 (by decide)) ?_
          refine WQ_iconst (-1) (-1) dX10_settle_45 rfl rfl (fun v3471 hv3471 => ?_)
          refine WQ_puti dX10_settle_46 fX10_232 rfl rfl (lyx_is hy 60 4 rfl) (fun I3472 eI3472 => ?_)
          have hI3472 : XI g n L I3472 := by rw [eI3472]; exact (xi_f0 hy hI3453 (c := 60) (by decide) (Or.inl (by decide)) (by decide))
          have e3473 : I3472 (ad g 1) 1 = L := by rw [eI3472, pp_ne _ _ (Or.inl (lyx_ne hy (by decide) (by decide) (by decide)))]; exact e3456
          have e3474 : I3472 (ad g 60) 0 = v3471 := by rw [eI3472, pp_self]
          clear eI3472
          refine WP_iinc (ls' := [(0, _), (1, _)]) dX10_settle_49 rfl (by decide) rfl ?_
          have hv3475 : (i3452 + Int32.ofInt (1)).toInt = i3452.toInt + (1) := ia_n rfl (by omega) (by omega)
          generalize i3452 + Int32.ofInt (1) = v3475 at hv3475 ⊢
          refine WP_goto 34 dX10_settle_52 rfl ?_
          exact WP_sub (fc rfl (fc rfl fn)) (ihlp34_3454 v3475 I3472 J3454 hI3472 (by omega) (by omega) (by omega))
        · refine WQ_aald (q := 1) dX10_settle_44 (lyx_is hy 59 16 rfl) (lyx_n hy 59 3 rfl) k3469 (by decide) (rfx hr 59 1 63 (by decide)) ?_
          refine WQ_iconst (-1) (-1) dX10_settle_45 rfl rfl (fun v3476 hv3476 => ?_)
          refine WQ_puti dX10_settle_46 fX10_232 rfl rfl (lyx_is hy 63 4 rfl) (fun I3477 eI3477 => ?_)
          have hI3477 : XI g n L I3477 := by rw [eI3477]; exact (xi_f0 hy hI3453 (c := 63) (by decide) (Or.inl (by decide)) (by decide))
          have e3478 : I3477 (ad g 1) 1 = L := by rw [eI3477, pp_ne _ _ (Or.inl (lyx_ne hy (by decide) (by decide) (by decide)))]; exact e3456
          have e3479 : I3477 (ad g 63) 0 = v3476 := by rw [eI3477, pp_self]
          clear eI3477
          refine WP_iinc (ls' := [(0, _), (1, _)]) dX10_settle_49 rfl (by decide) rfl ?_
          have hv3480 : (i3452 + Int32.ofInt (1)).toInt = i3452.toInt + (1) := ia_n rfl (by omega) (by omega)
          generalize i3452 + Int32.ofInt (1) = v3480 at hv3480 ⊢
          refine WP_goto 34 dX10_settle_52 rfl ?_
          exact WP_sub (fc rfl (fc rfl fn)) (ihlp34_3454 v3480 I3477 J3454 hI3477 (by omega) (by omega) (by omega))
        · refine WQ_aald (q := 2) dX10_settle_44 (lyx_is hy 59 16 rfl) (lyx_n hy 59 3 rfl) k3470 (by decide) (rfx hr 59 2 66 (by decide)) ?_
          refine WQ_iconst (-1) (-1) dX10_settle_45 rfl rfl (fun v3481 hv3481 => ?_)
          refine WQ_puti dX10_settle_46 fX10_232 rfl rfl (lyx_is hy 66 4 rfl) (fun I3482 eI3482 => ?_)
          have hI3482 : XI g n L I3482 := by rw [eI3482]; exact (xi_f0 hy hI3453 (c := 66) (by decide) (Or.inl (by decide)) (by decide))
          have e3483 : I3482 (ad g 1) 1 = L := by rw [eI3482, pp_ne _ _ (Or.inl (lyx_ne hy (by decide) (by decide) (by decide)))]; exact e3456
          have e3484 : I3482 (ad g 66) 0 = v3481 := by rw [eI3482, pp_self]
          clear eI3482
          refine WP_iinc (ls' := [(0, _), (1, _)]) dX10_settle_49 rfl (by decide) rfl ?_
          have hv3485 : (i3452 + Int32.ofInt (1)).toInt = i3452.toInt + (1) := ia_n rfl (by omega) (by omega)
          generalize i3452 + Int32.ofInt (1) = v3485 at hv3485 ⊢
          refine WP_goto 34 dX10_settle_52 rfl ?_
          exact WP_sub (fc rfl (fc rfl fn)) (ihlp34_3454 v3485 I3482 J3454 hI3482 (by omega) (by omega) (by omega))
  exact WP_sub (fc rfl (fc rfl fn)) (lp34_3454 _ v3451 I3449 J3445 hI3449 (by omega) (by omega) (Nat.lt_succ_self _))
set_option maxHeartbeats 4000000 in
set_option maxRecDepth 100000 in
theorem sx_meet_27 {g : GG} {n : Int} {L : Int32} (hy : LyX g)  {I : pI} {J : pJ} {R : pR} (hr : RfX g R) (hT : R (ad g 5) 0 = some (ad g 27)) (hI : XI g n L I) (a : Int32) (b : Int32) (c : Int32) (e : Int32) (f : Int32) (h : Int32)  : SP g mX10_meet [.ref (ad g 0), .int a, .int b, .int c, .int e, .int f, .int h] I J R (fun r I' J' R' => (XI g n L I' ∧ R' = R) ∧ ∃ v : Int32, r = some (.int v)) := by
  refine SP_of ⟨by decide, rfl⟩ (Nat.le_of_ble_eq_true rfl) ?_
  have e3486 : I (ad g 1) 1 = L := hI.2
  have b3487 := BT_get hI.1 1 1 2 (0) (0) (900) (by decide) 1 (by decide) (by decide)
  rw [e3486] at b3487
  refine WP_aload_n dX10_meet_0 rfl ?_
  refine WP_iload_n dX10_meet_1 rfl ?_
  refine WP_callV1 (k := 10) dX10_meet_2 ⟨⟨⟨by decide, by decide⟩, zX10_isSort⟩, lX10_152, by decide, rfl, vX10_isSort.1, vX10_isSort.2⟩ (lyx_is hy 0 10 rfl) (sx_isSort_27 hy hr hT hI a ) (Nat.le_of_ble_eq_true rfl) ?_
  intro r Ia Ja Ra hq
  obtain ⟨⟨ea, eb, ec⟩, v3488, rfl, av3488, bv3488, cv3488⟩ := hq
  show WP _ _ _ _ (.int _ :: _) _ _ _ _
  rw [ea, eb, ec]
  clear ea eb ec Ia Ja Ra
  refine WQ_if_eq 39 dX10_meet_5 rfl (fun c3488 => ?_) (fun c3488 => ?_)
  · refine WP_ldcw (-1000000) dX10_meet_39 kX10_309 ?_
    obtain ⟨v3490, hv3490, ev3490⟩ : ∃ v : Int32, v.toInt = -1000000 ∧ ((-1000000) : Int32) = v := ⟨(-1000000), rfl, rfl⟩
    rw [ev3490]; clear ev3490
    exact WP_iret dX10_meet_42 rfl ⟨⟨hI, rfl⟩, _, rfl⟩
  · refine WP_iload_n dX10_meet_8 rfl ?_
    refine WQ_if_lt 39 dX10_meet_9 rfl (fun c3490 => ?_) (fun c3490 => ?_)
    · refine WP_ldcw (-1000000) dX10_meet_39 kX10_309 ?_
      obtain ⟨v3492, hv3492, ev3492⟩ : ∃ v : Int32, v.toInt = -1000000 ∧ ((-1000000) : Int32) = v := ⟨(-1000000), rfl, rfl⟩
      rw [ev3492]; clear ev3492
      exact WP_iret dX10_meet_42 rfl ⟨⟨hI, rfl⟩, _, rfl⟩
    · refine WP_iload_n dX10_meet_12 rfl ?_
      refine WQ_iconst (1) (1) dX10_meet_13 rfl rfl (fun v3493 hv3493 => ?_)
      refine WP_aload_n dX10_meet_14 rfl ?_
      refine WP_getr dX10_meet_15 fX10_33 rfl (lyx_is hy 0 10 rfl) (rfx hr 0 2 5 (by decide)) ?_
      refine WP_getr dX10_meet_18 fX10_102 rfl (lyx_is hy 5 0 rfl) hT ?_
      refine WQ_geti dX10_meet_21 fX10_114 rfl (lyx_is hy 27 7 rfl) (BT_get hI.1 27 1 2 (0) (0) (4) (by decide) 1 (by decide) (by decide)) (fun v3494 ev3494 av3494 bv3494 => ?_)
      refine WQ_ishl1 dX10_meet_24 hv3493 (by omega) (by omega) (fun v3495 av3495 bv3495 => ?_)
      refine WQ_icmp_ge 39 dX10_meet_25 rfl (fun c3495 => ?_) (fun c3495 => ?_)
      · refine WP_ldcw (-1000000) dX10_meet_39 kX10_309 ?_
        obtain ⟨v3497, hv3497, ev3497⟩ : ∃ v : Int32, v.toInt = -1000000 ∧ ((-1000000) : Int32) = v := ⟨(-1000000), rfl, rfl⟩
        rw [ev3497]; clear ev3497
        exact WP_iret dX10_meet_42 rfl ⟨⟨hI, rfl⟩, _, rfl⟩
      · refine WP_iload_n dX10_meet_28 rfl ?_
        refine WP_iload dX10_meet_29 rfl ?_
        refine WP_iload dX10_meet_31 rfl ?_
        refine WP_callS3 dX10_meet_33 ⟨⟨⟨by decide, by decide⟩, zX10_isMeeting⟩, lX10_306, tX10_isMeeting⟩ (sx_isMeeting hy hr hI c e f   ) (Nat.le_of_ble_eq_true rfl) ?_
        intro r Ia Ja Ra hq
        obtain ⟨⟨ea, eb, ec⟩, v3498, rfl, av3498, bv3498, cv3498⟩ := hq
        show WP _ _ _ _ (.int _ :: _) _ _ _ _
        rw [ea, eb, ec]
        clear ea eb ec Ia Ja Ra
        refine WQ_if_ne 43 dX10_meet_36 rfl (fun c3498 => ?_) (fun c3498 => ?_)
        · refine WP_iload dX10_meet_43 rfl ?_
          refine WQ_if_eq 58 dX10_meet_45 rfl (fun c3499 => ?_) (fun c3499 => ?_)
          · refine WP_aload_n dX10_meet_58 rfl ?_
            refine WP_getr dX10_meet_59 fX10_83 rfl (lyx_is hy 0 10 rfl) (rfx hr 0 9 71 (by decide)) ?_
            refine WP_aload_n dX10_meet_62 rfl ?_
            refine WP_getr dX10_meet_63 fX10_33 rfl (lyx_is hy 0 10 rfl) (rfx hr 0 2 5 (by decide)) ?_
            refine WP_getr dX10_meet_66 fX10_102 rfl (lyx_is hy 5 0 rfl) hT ?_
            refine WP_iload_n dX10_meet_69 rfl ?_
            refine WP_iload_n dX10_meet_70 rfl ?_
            refine WP_callV3 (k := 1) dX10_meet_71 ⟨⟨⟨by decide, by decide⟩, zX1_start⟩, lX10_310, by decide, rfl, vX1_start.1, vX1_start.2⟩ (lyx_is hy 71 1 rfl) (sx_start_27 hy hr hI b c  (by omega) (by omega)) (Nat.le_of_ble_eq_true rfl) ?_
            intro r I3501 J3502 Ra hq
            obtain ⟨⟨hI3501, ec⟩, rfl⟩ := hq
            rw [ec]
            clear ec Ra
            have e3503 : I3501 (ad g 1) 1 = L := hI3501.2
            have b3504 := BT_get hI3501.1 1 1 2 (0) (0) (900) (by decide) 1 (by decide) (by decide)
            rw [e3503] at b3504
            refine WP_aload_n dX10_meet_74 rfl ?_
            refine WP_getr dX10_meet_75 fX10_83 rfl (lyx_is hy 0 10 rfl) (rfx hr 0 9 71 (by decide)) ?_
            refine WP_iload_n dX10_meet_78 rfl ?_
            refine WP_iload dX10_meet_79 rfl ?_
            refine WP_iload dX10_meet_81 rfl ?_
            refine WP_callV3 (k := 1) dX10_meet_83 ⟨⟨⟨by decide, by decide⟩, zX1_goOn⟩, lX10_314, by decide, rfl, vX1_goOn.1, vX1_goOn.2⟩ (lyx_is hy 71 1 rfl) (sx_goOn hy hr hI3501 a e f (by omega) (by omega)  (by omega) (by omega)) (Nat.le_of_ble_eq_true rfl) ?_
            intro r I3505 J3506 Ra hq
            obtain ⟨⟨hI3505, ec⟩, rfl⟩ := hq
            rw [ec]
            clear ec Ra
            have e3507 : I3505 (ad g 1) 1 = L := hI3505.2
            have b3508 := BT_get hI3505.1 1 1 2 (0) (0) (900) (by decide) 1 (by decide) (by decide)
            rw [e3507] at b3508
            refine WP_iload dX10_meet_86 rfl ?_
            refine WQ_if_ne 101 dX10_meet_88 rfl (fun c3509 => False.elim (by omega)) (fun c3509 => ?_)
            refine WP_aload_n dX10_meet_91 rfl ?_
            refine WP_getr dX10_meet_92 fX10_83 rfl (lyx_is hy 0 10 rfl) (rfx hr 0 9 71 (by decide)) ?_
            refine WQ_getl dX10_meet_95 fX10_318 rfl (lyx_is hy 71 1 rfl) (fun l3511 el3511 => ?_)
            refine WP_goto 108 dX10_meet_98 rfl ?_
            refine WQ_l2i dX10_meet_108 (fun v3512 => ?_)
            exact WP_iret dX10_meet_109 rfl ⟨⟨hI3505, rfl⟩, _, rfl⟩
          · refine WP_iload dX10_meet_48 rfl ?_
            refine WQ_iconst (1) (1) dX10_meet_50 rfl rfl (fun v3513 hv3513 => ?_)
            refine WQ_icmp_eq 58 dX10_meet_51 rfl (fun c3513 => ?_) (fun c3513 => ?_)
            · refine WP_aload_n dX10_meet_58 rfl ?_
              refine WP_getr dX10_meet_59 fX10_83 rfl (lyx_is hy 0 10 rfl) (rfx hr 0 9 71 (by decide)) ?_
              refine WP_aload_n dX10_meet_62 rfl ?_
              refine WP_getr dX10_meet_63 fX10_33 rfl (lyx_is hy 0 10 rfl) (rfx hr 0 2 5 (by decide)) ?_
              refine WP_getr dX10_meet_66 fX10_102 rfl (lyx_is hy 5 0 rfl) hT ?_
              refine WP_iload_n dX10_meet_69 rfl ?_
              refine WP_iload_n dX10_meet_70 rfl ?_
              refine WP_callV3 (k := 1) dX10_meet_71 ⟨⟨⟨by decide, by decide⟩, zX1_start⟩, lX10_310, by decide, rfl, vX1_start.1, vX1_start.2⟩ (lyx_is hy 71 1 rfl) (sx_start_27 hy hr hI b c  (by omega) (by omega)) (Nat.le_of_ble_eq_true rfl) ?_
              intro r I3515 J3516 Ra hq
              obtain ⟨⟨hI3515, ec⟩, rfl⟩ := hq
              rw [ec]
              clear ec Ra
              have e3517 : I3515 (ad g 1) 1 = L := hI3515.2
              have b3518 := BT_get hI3515.1 1 1 2 (0) (0) (900) (by decide) 1 (by decide) (by decide)
              rw [e3517] at b3518
              refine WP_aload_n dX10_meet_74 rfl ?_
              refine WP_getr dX10_meet_75 fX10_83 rfl (lyx_is hy 0 10 rfl) (rfx hr 0 9 71 (by decide)) ?_
              refine WP_iload_n dX10_meet_78 rfl ?_
              refine WP_iload dX10_meet_79 rfl ?_
              refine WP_iload dX10_meet_81 rfl ?_
              refine WP_callV3 (k := 1) dX10_meet_83 ⟨⟨⟨by decide, by decide⟩, zX1_goOn⟩, lX10_314, by decide, rfl, vX1_goOn.1, vX1_goOn.2⟩ (lyx_is hy 71 1 rfl) (sx_goOn hy hr hI3515 a e f (by omega) (by omega)  (by omega) (by omega)) (Nat.le_of_ble_eq_true rfl) ?_
              intro r I3519 J3520 Ra hq
              obtain ⟨⟨hI3519, ec⟩, rfl⟩ := hq
              rw [ec]
              clear ec Ra
              have e3521 : I3519 (ad g 1) 1 = L := hI3519.2
              have b3522 := BT_get hI3519.1 1 1 2 (0) (0) (900) (by decide) 1 (by decide) (by decide)
              rw [e3521] at b3522
              refine WP_iload dX10_meet_86 rfl ?_
              refine WQ_if_ne 101 dX10_meet_88 rfl (fun c3523 => ?_) (fun c3523 => False.elim (by omega))
              refine WP_aload_n dX10_meet_101 rfl ?_
              refine WP_getr dX10_meet_102 fX10_83 rfl (lyx_is hy 0 10 rfl) (rfx hr 0 9 71 (by decide)) ?_
              refine WQ_getl dX10_meet_105 fX10_322 rfl (lyx_is hy 71 1 rfl) (fun l3525 el3525 => ?_)
              refine WQ_l2i dX10_meet_108 (fun v3526 => ?_)
              exact WP_iret dX10_meet_109 rfl ⟨⟨hI3519, rfl⟩, _, rfl⟩
            · refine WP_ldcw (-1000000) dX10_meet_54 kX10_309 ?_
              obtain ⟨v3527, hv3527, ev3527⟩ : ∃ v : Int32, v.toInt = -1000000 ∧ ((-1000000) : Int32) = v := ⟨(-1000000), rfl, rfl⟩
              rw [ev3527]; clear ev3527
              exact WP_iret dX10_meet_57 rfl ⟨⟨hI, rfl⟩, _, rfl⟩
        · refine WP_ldcw (-1000000) dX10_meet_39 kX10_309 ?_
          obtain ⟨v3528, hv3528, ev3528⟩ : ∃ v : Int32, v.toInt = -1000000 ∧ ((-1000000) : Int32) = v := ⟨(-1000000), rfl, rfl⟩
          rw [ev3528]; clear ev3528
          exact WP_iret dX10_meet_42 rfl ⟨⟨hI, rfl⟩, _, rfl⟩
set_option maxHeartbeats 4000000 in
set_option maxRecDepth 100000 in
theorem sx_rests_27 {g : GG} {n : Int} {L : Int32} (hy : LyX g)  {I : pI} {J : pJ} {R : pR} (hr : RfX g R) (hT : R (ad g 5) 0 = some (ad g 27)) (hI : XI g n L I) (a : Int32) (b : Int32) (c : Int32)  : SP g mX10_rests [.ref (ad g 0), .int a, .int b, .int c] I J R (fun r I' J' R' => (XI g n L I' ∧ R' = R) ∧ ∃ v : Int32, r = some (.int v)) := by
  refine SP_of ⟨by decide, rfl⟩ (Nat.le_of_ble_eq_true rfl) ?_
  have e3529 : I (ad g 1) 1 = L := hI.2
  have b3530 := BT_get hI.1 1 1 2 (0) (0) (900) (by decide) 1 (by decide) (by decide)
  rw [e3529] at b3530
  refine WP_iload_n dX10_rests_0 rfl ?_
  refine WP_iload_n dX10_rests_1 rfl ?_
  refine WP_iload_n dX10_rests_2 rfl ?_
  refine WP_callS3 dX10_rests_3 ⟨⟨⟨by decide, by decide⟩, zX10_isMeeting⟩, lX10_306, tX10_isMeeting⟩ (sx_isMeeting hy hr hI a b c   ) (Nat.le_of_ble_eq_true rfl) ?_
  intro r Ia Ja Ra hq
  obtain ⟨⟨ea, eb, ec⟩, v3531, rfl, av3531, bv3531, cv3531⟩ := hq
  show WP _ _ _ _ (.int _ :: _) _ _ _ _
  rw [ea, eb, ec]
  clear ea eb ec Ia Ja Ra
  refine WQ_if_ne 12 dX10_rests_6 rfl (fun c3531 => ?_) (fun c3531 => ?_)
  · refine WQ_iconst (1) (1) dX10_rests_12 rfl rfl (fun v3533 hv3533 => ?_)
    refine WP_aload_n dX10_rests_13 rfl ?_
    refine WP_getr dX10_rests_14 fX10_33 rfl (lyx_is hy 0 10 rfl) (rfx hr 0 2 5 (by decide)) ?_
    refine WP_getr dX10_rests_17 fX10_102 rfl (lyx_is hy 5 0 rfl) hT ?_
    refine WQ_geti dX10_rests_20 fX10_114 rfl (lyx_is hy 27 7 rfl) (BT_get hI.1 27 1 2 (0) (0) (4) (by decide) 1 (by decide) (by decide)) (fun v3534 ev3534 av3534 bv3534 => ?_)
    refine WQ_ishl1 dX10_rests_23 hv3533 (by omega) (by omega) (fun v3535 av3535 bv3535 => ?_)
    refine WP_istore (ls' := [(0, _), (1, _), (2, _), (3, _), (4, _)]) dX10_rests_24 (by decide) rfl ?_
    refine WQ_iconst (0) (0) dX10_rests_26 rfl rfl (fun v3536 hv3536 => ?_)
    refine WP_istore (ls' := [(0, _), (1, _), (2, _), (3, _), (4, _), (5, _)]) dX10_rests_27 (by decide) rfl ?_
    refine WQ_iconst (0) (0) dX10_rests_29 rfl rfl (fun v3537 hv3537 => ?_)
    refine WP_istore (ls' := [(0, _), (1, _), (2, _), (3, _), (4, _), (5, _), (6, _)]) dX10_rests_30 (by decide) rfl ?_
    have lp32_3541 : ∀ (mz : Nat) (i3538 : Int32) (i3539 : Int32) (I3540 : pI) (J3541 : pJ), XI g n L I3540 → 0 ≤ i3539.toInt → i3539.toInt ≤ 16 → (17 - i3539.toInt).toNat < mz → WP g mX10_rests 32 [(0, .ref (ad g 0)), (1, .int a), (2, .int b), (3, .int c), (4, .int v3535), (5, .int i3538), (6, .int i3539)] [] I3540 J3541 R (fun r I' J' R' => (XI g n L I' ∧ R' = R) ∧ ∃ v : Int32, r = some (.int v)) := by
      intro mz
      induction mz with
      | zero =>
        intro i3538 i3539 I3540 J3541 hI3540 ai3539 bi3539 hmlp32_3541
        exact absurd hmlp32_3541 (Nat.not_lt_zero _)
      | succ mz ihlp32_3541 =>
        intro i3538 i3539 I3540 J3541 hI3540 ai3539 bi3539 hmlp32_3541
        have e3543 : I3540 (ad g 1) 1 = L := hI3540.2
        have b3544 := BT_get hI3540.1 1 1 2 (0) (0) (900) (by decide) 1 (by decide) (by decide)
        rw [e3543] at b3544
        refine WP_iload dX10_rests_32 rfl ?_
        refine WP_iload dX10_rests_34 rfl ?_
        refine WQ_icmp_ge 83 dX10_rests_36 rfl (fun c3544 => ?_) (fun c3544 => ?_)
        · refine WP_iload dX10_rests_83 rfl ?_
          exact WP_iret dX10_rests_85 rfl ⟨⟨hI3540, rfl⟩, _, rfl⟩
        · refine WP_aload_n dX10_rests_39 rfl ?_
          refine WP_getr dX10_rests_40 fX10_83 rfl (lyx_is hy 0 10 rfl) (rfx hr 0 9 71 (by decide)) ?_
          refine WP_aload_n dX10_rests_43 rfl ?_
          refine WP_getr dX10_rests_44 fX10_33 rfl (lyx_is hy 0 10 rfl) (rfx hr 0 2 5 (by decide)) ?_
          refine WP_getr dX10_rests_47 fX10_102 rfl (lyx_is hy 5 0 rfl) hT ?_
          refine WP_iload dX10_rests_50 rfl ?_
          refine WP_iload_n dX10_rests_52 rfl ?_
          refine WP_callV3 (k := 1) dX10_rests_53 ⟨⟨⟨by decide, by decide⟩, zX1_start⟩, lX10_310, by decide, rfl, vX1_start.1, vX1_start.2⟩ (lyx_is hy 71 1 rfl) (sx_start_27 hy hr hI3540 i3539 a  (by omega) (by omega)) (Nat.le_of_ble_eq_true rfl) ?_
          intro r I3546 J3547 Ra hq
          obtain ⟨⟨hI3546, ec⟩, rfl⟩ := hq
          rw [ec]
          clear ec Ra
          have e3548 : I3546 (ad g 1) 1 = L := hI3546.2
          have b3549 := BT_get hI3546.1 1 1 2 (0) (0) (900) (by decide) 1 (by decide) (by decide)
          rw [e3548] at b3549
          refine WP_aload_n dX10_rests_56 rfl ?_
          refine WP_getr dX10_rests_57 fX10_83 rfl (lyx_is hy 0 10 rfl) (rfx hr 0 9 71 (by decide)) ?_
          refine WP_iload_n dX10_rests_60 rfl ?_
          refine WP_iload_n dX10_rests_61 rfl ?_
          refine WP_callV2 (k := 1) dX10_rests_62 ⟨⟨⟨by decide, by decide⟩, zX1_isAtRest⟩, lX10_325, by decide, rfl, vX1_isAtRest.1, vX1_isAtRest.2⟩ (lyx_is hy 71 1 rfl) (sx_isAtRest hy hr hI3546 b c  (by omega) (by omega)) (Nat.le_of_ble_eq_true rfl) ?_
          intro r I3550 J3551 Ra hq
          obtain ⟨⟨hI3550, ec⟩, v3552, rfl, av3552, bv3552⟩ := hq
          show WP _ _ _ _ (.int _ :: _) _ _ _ _
          rw [ec]
          clear ec Ra
          have e3553 : I3550 (ad g 1) 1 = L := hI3550.2
          have b3554 := BT_get hI3550.1 1 1 2 (0) (0) (900) (by decide) 1 (by decide) (by decide)
          rw [e3553] at b3554
          refine WQ_if_eq 77 dX10_rests_65 rfl (fun c3554 => ?_) (fun c3554 => ?_)
          · refine WP_iinc (ls' := [(0, _), (1, _), (2, _), (3, _), (4, _), (5, _), (6, _)]) dX10_rests_77 rfl (by decide) rfl ?_
            have hv3556 : (i3539 + Int32.ofInt (1)).toInt = i3539.toInt + (1) := ia_n rfl (by omega) (by omega)
            generalize i3539 + Int32.ofInt (1) = v3556 at hv3556 ⊢
            refine WP_goto 32 dX10_rests_80 rfl ?_
            exact WP_sub (fc rfl (fc rfl (fc rfl (fc rfl (fc rfl (fc rfl (fc rfl fn))))))) (ihlp32_3541 i3538 v3556 I3550 J3551 hI3550 (by omega) (by omega) (by omega))
          · refine WP_iload dX10_rests_68 rfl ?_
            refine WQ_iconst (1) (1) dX10_rests_70 rfl rfl (fun v3557 hv3557 => ?_)
            refine WP_iload dX10_rests_71 rfl ?_
            refine WQ_ishlu dX10_rests_73 (fun v3558 => ?_)
            refine WQ_ioru dX10_rests_74 (fun v3559 => ?_)
            refine WP_istore (ls' := [(0, _), (1, _), (2, _), (3, _), (4, _), (5, _), (6, _)]) dX10_rests_75 (by decide) rfl ?_
            refine WP_iinc (ls' := [(0, _), (1, _), (2, _), (3, _), (4, _), (5, _), (6, _)]) dX10_rests_77 rfl (by decide) rfl ?_
            have hv3560 : (i3539 + Int32.ofInt (1)).toInt = i3539.toInt + (1) := ia_n rfl (by omega) (by omega)
            generalize i3539 + Int32.ofInt (1) = v3560 at hv3560 ⊢
            refine WP_goto 32 dX10_rests_80 rfl ?_
            exact WP_sub (fc rfl (fc rfl (fc rfl (fc rfl (fc rfl (fc rfl (fc rfl fn))))))) (ihlp32_3541 v3559 v3560 I3550 J3551 hI3550 (by omega) (by omega) (by omega))
    exact WP_sub (fc rfl (fc rfl (fc rfl (fc rfl (fc rfl (fc rfl (fc rfl fn))))))) (lp32_3541 _ v3536 v3537 I J hI (by omega) (by omega) (Nat.lt_succ_self _))
  · refine WQ_bipush (-2) (-2) dX10_rests_9 rfl rfl (fun v3561 hv3561 => ?_)
    exact WP_iret dX10_rests_11 rfl ⟨⟨hI, rfl⟩, _, rfl⟩
set_option maxHeartbeats 4000000 in
set_option maxRecDepth 100000 in
theorem sx_keep {g : GG} {n : Int} {L : Int32} (hy : LyX g)  {I : pI} {J : pJ} {R : pR} (hr : RfX g R) (hI : XI g n L I) (a : Int32)  : SP g mX10_keep [.ref (ad g 0), .int a] I J R (fun r I' J' R' => (XI g n L I' ∧ R' = R) ∧ ∃ v : Int32, r = some (.int v)) := by
  refine SP_of ⟨by decide, rfl⟩ (Nat.le_of_ble_eq_true rfl) ?_
  have e3562 : I (ad g 1) 1 = L := hI.2
  have b3563 := BT_get hI.1 1 1 2 (0) (0) (900) (by decide) 1 (by decide) (by decide)
  rw [e3562] at b3563
  refine WP_iload_n dX10_keep_0 rfl ?_
  refine WQ_if_lt 9 dX10_keep_1 rfl (fun c3563 => ?_) (fun c3563 => ?_)
  · refine WQ_bipush (-2) (-2) dX10_keep_9 rfl rfl (fun v3565 hv3565 => ?_)
    exact WP_iret dX10_keep_11 rfl ⟨⟨hI, rfl⟩, _, rfl⟩
  · refine WP_iload_n dX10_keep_4 rfl ?_
    refine WQ_iconst (3) (3) dX10_keep_5 rfl rfl (fun v3566 hv3566 => ?_)
    refine WQ_icmp_lt 12 dX10_keep_6 rfl (fun c3566 => ?_) (fun c3566 => ?_)
    · refine WP_aload_n dX10_keep_12 rfl ?_
      refine WP_getr dX10_keep_13 fX10_69 rfl (lyx_is hy 0 10 rfl) (rfx hr 0 7 59 (by decide)) ?_
      refine WP_iload_n dX10_keep_16 rfl ?_
      rcases (show a.toInt = 0 ∨ a.toInt = 1 ∨ a.toInt = 2 by omega) with k3568 | k3569 | k3570
      · refine WQ_aald (q := 0) dX10_keep_17 (lyx_is hy 59 16 rfl) (lyx_n hy 59 3 rfl) k3568 (by decide) (rfx hr 59 0 60 (by decide)) ?_
        refine WP_aload_n dX10_keep_18 rfl ?_
        refine WP_getr dX10_keep_19 fX10_62 rfl (lyx_is hy 0 10 rfl) (rfx hr 0 5 53 (by decide)) ?_
        refine WP_callV1 (k := 4) dX10_keep_22 ⟨⟨⟨by decide, by decide⟩, zX4_become⟩, lX10_249, by decide, rfl, vX4_become.1, vX4_become.2⟩ (lyx_is hy 60 4 rfl) (sx_become_60_53 hy hr hI  ) (Nat.le_of_ble_eq_true rfl) ?_
        intro r I3571 J3572 Ra hq
        obtain ⟨⟨hI3571, ec⟩, rfl⟩ := hq
        rw [ec]
        clear ec Ra
        have e3573 : I3571 (ad g 1) 1 = L := hI3571.2
        have b3574 := BT_get hI3571.1 1 1 2 (0) (0) (900) (by decide) 1 (by decide) (by decide)
        rw [e3573] at b3574
        refine WP_aload_n dX10_keep_25 rfl ?_
        refine WP_getr dX10_keep_26 fX10_62 rfl (lyx_is hy 0 10 rfl) (rfx hr 0 5 53 (by decide)) ?_
        refine WQ_getiu dX10_keep_29 fX10_232 rfl (lyx_is hy 53 4 rfl) (fun v3575 ev3575 => ?_)
        exact WP_iret dX10_keep_32 rfl ⟨⟨hI3571, rfl⟩, _, rfl⟩
      · refine WQ_aald (q := 1) dX10_keep_17 (lyx_is hy 59 16 rfl) (lyx_n hy 59 3 rfl) k3569 (by decide) (rfx hr 59 1 63 (by decide)) ?_
        refine WP_aload_n dX10_keep_18 rfl ?_
        refine WP_getr dX10_keep_19 fX10_62 rfl (lyx_is hy 0 10 rfl) (rfx hr 0 5 53 (by decide)) ?_
        refine WP_callV1 (k := 4) dX10_keep_22 ⟨⟨⟨by decide, by decide⟩, zX4_become⟩, lX10_249, by decide, rfl, vX4_become.1, vX4_become.2⟩ (lyx_is hy 63 4 rfl) (sx_become_63_53 hy hr hI  ) (Nat.le_of_ble_eq_true rfl) ?_
        intro r I3576 J3577 Ra hq
        obtain ⟨⟨hI3576, ec⟩, rfl⟩ := hq
        rw [ec]
        clear ec Ra
        have e3578 : I3576 (ad g 1) 1 = L := hI3576.2
        have b3579 := BT_get hI3576.1 1 1 2 (0) (0) (900) (by decide) 1 (by decide) (by decide)
        rw [e3578] at b3579
        refine WP_aload_n dX10_keep_25 rfl ?_
        refine WP_getr dX10_keep_26 fX10_62 rfl (lyx_is hy 0 10 rfl) (rfx hr 0 5 53 (by decide)) ?_
        refine WQ_getiu dX10_keep_29 fX10_232 rfl (lyx_is hy 53 4 rfl) (fun v3580 ev3580 => ?_)
        exact WP_iret dX10_keep_32 rfl ⟨⟨hI3576, rfl⟩, _, rfl⟩
      · refine WQ_aald (q := 2) dX10_keep_17 (lyx_is hy 59 16 rfl) (lyx_n hy 59 3 rfl) k3570 (by decide) (rfx hr 59 2 66 (by decide)) ?_
        refine WP_aload_n dX10_keep_18 rfl ?_
        refine WP_getr dX10_keep_19 fX10_62 rfl (lyx_is hy 0 10 rfl) (rfx hr 0 5 53 (by decide)) ?_
        refine WP_callV1 (k := 4) dX10_keep_22 ⟨⟨⟨by decide, by decide⟩, zX4_become⟩, lX10_249, by decide, rfl, vX4_become.1, vX4_become.2⟩ (lyx_is hy 66 4 rfl) (sx_become_66_53 hy hr hI  ) (Nat.le_of_ble_eq_true rfl) ?_
        intro r I3581 J3582 Ra hq
        obtain ⟨⟨hI3581, ec⟩, rfl⟩ := hq
        rw [ec]
        clear ec Ra
        have e3583 : I3581 (ad g 1) 1 = L := hI3581.2
        have b3584 := BT_get hI3581.1 1 1 2 (0) (0) (900) (by decide) 1 (by decide) (by decide)
        rw [e3583] at b3584
        refine WP_aload_n dX10_keep_25 rfl ?_
        refine WP_getr dX10_keep_26 fX10_62 rfl (lyx_is hy 0 10 rfl) (rfx hr 0 5 53 (by decide)) ?_
        refine WQ_getiu dX10_keep_29 fX10_232 rfl (lyx_is hy 53 4 rfl) (fun v3585 ev3585 => ?_)
        exact WP_iret dX10_keep_32 rfl ⟨⟨hI3581, rfl⟩, _, rfl⟩
    · refine WQ_bipush (-2) (-2) dX10_keep_9 rfl rfl (fun v3586 hv3586 => ?_)
      exact WP_iret dX10_keep_11 rfl ⟨⟨hI, rfl⟩, _, rfl⟩
set_option maxHeartbeats 4000000 in
set_option maxRecDepth 100000 in
theorem sx_take {g : GG} {n : Int} {L : Int32} (hy : LyX g)  {I : pI} {J : pJ} {R : pR} (hr : RfX g R) (hI : XI g n L I) (a : Int32)  : SP g mX10_take [.ref (ad g 0), .int a] I J R (fun r I' J' R' => (XI g n L I' ∧ R' = R) ∧ ∃ v : Int32, r = some (.int v)) := by
  refine SP_of ⟨by decide, rfl⟩ (Nat.le_of_ble_eq_true rfl) ?_
  have e3587 : I (ad g 1) 1 = L := hI.2
  have b3588 := BT_get hI.1 1 1 2 (0) (0) (900) (by decide) 1 (by decide) (by decide)
  rw [e3587] at b3588
  refine WP_iload_n dX10_take_0 rfl ?_
  refine WQ_if_lt 9 dX10_take_1 rfl (fun c3588 => ?_) (fun c3588 => ?_)
  · refine WQ_bipush (-2) (-2) dX10_take_9 rfl rfl (fun v3590 hv3590 => ?_)
    exact WP_iret dX10_take_11 rfl ⟨⟨hI, rfl⟩, _, rfl⟩
  · refine WP_iload_n dX10_take_4 rfl ?_
    refine WQ_iconst (3) (3) dX10_take_5 rfl rfl (fun v3591 hv3591 => ?_)
    refine WQ_icmp_lt 12 dX10_take_6 rfl (fun c3591 => ?_) (fun c3591 => ?_)
    · refine WP_aload_n dX10_take_12 rfl ?_
      refine WP_getr dX10_take_13 fX10_69 rfl (lyx_is hy 0 10 rfl) (rfx hr 0 7 59 (by decide)) ?_
      refine WP_iload_n dX10_take_16 rfl ?_
      rcases (show a.toInt = 0 ∨ a.toInt = 1 ∨ a.toInt = 2 by omega) with k3593 | k3594 | k3595
      · refine WQ_aald (q := 0) dX10_take_17 (lyx_is hy 59 16 rfl) (lyx_n hy 59 3 rfl) k3593 (by decide) (rfx hr 59 0 60 (by decide)) ?_
        refine WQ_getiu dX10_take_18 fX10_232 rfl (lyx_is hy 60 4 rfl) (fun v3596 ev3596 => ?_)
        refine WQ_iconst (-1) (-1) dX10_take_21 rfl rfl (fun v3597 hv3597 => ?_)
        refine WQ_icmp_ne 28 dX10_take_22 rfl (fun c3597 => ?_) (fun c3597 => ?_)
        · refine WP_aload_n dX10_take_28 rfl ?_
          refine WP_getr dX10_take_29 fX10_62 rfl (lyx_is hy 0 10 rfl) (rfx hr 0 5 53 (by decide)) ?_
          refine WP_aload_n dX10_take_32 rfl ?_
          refine WP_getr dX10_take_33 fX10_69 rfl (lyx_is hy 0 10 rfl) (rfx hr 0 7 59 (by decide)) ?_
          refine WP_iload_n dX10_take_36 rfl ?_
          rcases (show a.toInt = 0 ∨ a.toInt = 1 ∨ a.toInt = 2 by omega) with k3599 | k3600 | k3601
          · refine WQ_aald (q := 0) dX10_take_37 (lyx_is hy 59 16 rfl) (lyx_n hy 59 3 rfl) k3599 (by decide) (rfx hr 59 0 60 (by decide)) ?_
            refine WP_callV1 (k := 4) dX10_take_38 ⟨⟨⟨by decide, by decide⟩, zX4_become⟩, lX10_249, by decide, rfl, vX4_become.1, vX4_become.2⟩ (lyx_is hy 53 4 rfl) (sx_become_53_60 hy hr hI  ) (Nat.le_of_ble_eq_true rfl) ?_
            intro r I3602 J3603 Ra hq
            obtain ⟨⟨hI3602, ec⟩, rfl⟩ := hq
            rw [ec]
            clear ec Ra
            have e3604 : I3602 (ad g 1) 1 = L := hI3602.2
            have b3605 := BT_get hI3602.1 1 1 2 (0) (0) (900) (by decide) 1 (by decide) (by decide)
            rw [e3604] at b3605
            refine WP_aload_n dX10_take_41 rfl ?_
            refine WP_getr dX10_take_42 fX10_62 rfl (lyx_is hy 0 10 rfl) (rfx hr 0 5 53 (by decide)) ?_
            refine WQ_getiu dX10_take_45 fX10_232 rfl (lyx_is hy 53 4 rfl) (fun v3606 ev3606 => ?_)
            exact WP_iret dX10_take_48 rfl ⟨⟨hI3602, rfl⟩, _, rfl⟩
          · refine WQ_aald (q := 1) dX10_take_37 (lyx_is hy 59 16 rfl) (lyx_n hy 59 3 rfl) k3600 (by decide) (rfx hr 59 1 63 (by decide)) ?_
            refine WP_callV1 (k := 4) dX10_take_38 ⟨⟨⟨by decide, by decide⟩, zX4_become⟩, lX10_249, by decide, rfl, vX4_become.1, vX4_become.2⟩ (lyx_is hy 53 4 rfl) (sx_become_53_63 hy hr hI  ) (Nat.le_of_ble_eq_true rfl) ?_
            intro r I3607 J3608 Ra hq
            obtain ⟨⟨hI3607, ec⟩, rfl⟩ := hq
            rw [ec]
            clear ec Ra
            have e3609 : I3607 (ad g 1) 1 = L := hI3607.2
            have b3610 := BT_get hI3607.1 1 1 2 (0) (0) (900) (by decide) 1 (by decide) (by decide)
            rw [e3609] at b3610
            refine WP_aload_n dX10_take_41 rfl ?_
            refine WP_getr dX10_take_42 fX10_62 rfl (lyx_is hy 0 10 rfl) (rfx hr 0 5 53 (by decide)) ?_
            refine WQ_getiu dX10_take_45 fX10_232 rfl (lyx_is hy 53 4 rfl) (fun v3611 ev3611 => ?_)
            exact WP_iret dX10_take_48 rfl ⟨⟨hI3607, rfl⟩, _, rfl⟩
          · refine WQ_aald (q := 2) dX10_take_37 (lyx_is hy 59 16 rfl) (lyx_n hy 59 3 rfl) k3601 (by decide) (rfx hr 59 2 66 (by decide)) ?_
            refine WP_callV1 (k := 4) dX10_take_38 ⟨⟨⟨by decide, by decide⟩, zX4_become⟩, lX10_249, by decide, rfl, vX4_become.1, vX4_become.2⟩ (lyx_is hy 53 4 rfl) (sx_become_53_66 hy hr hI  ) (Nat.le_of_ble_eq_true rfl) ?_
            intro r I3612 J3613 Ra hq
            obtain ⟨⟨hI3612, ec⟩, rfl⟩ := hq
            rw [ec]
            clear ec Ra
            have e3614 : I3612 (ad g 1) 1 = L := hI3612.2
            have b3615 := BT_get hI3612.1 1 1 2 (0) (0) (900) (by decide) 1 (by decide) (by decide)
            rw [e3614] at b3615
            refine WP_aload_n dX10_take_41 rfl ?_
            refine WP_getr dX10_take_42 fX10_62 rfl (lyx_is hy 0 10 rfl) (rfx hr 0 5 53 (by decide)) ?_
            refine WQ_getiu dX10_take_45 fX10_232 rfl (lyx_is hy 53 4 rfl) (fun v3616 ev3616 => ?_)
            exact WP_iret dX10_take_48 rfl ⟨⟨hI3612, rfl⟩, _, rfl⟩
        · refine WQ_bipush (-4) (-4) dX10_take_25 rfl rfl (fun v3617 hv3617 => ?_)
          exact WP_iret dX10_take_27 rfl ⟨⟨hI, rfl⟩, _, rfl⟩
      · refine WQ_aald (q := 1) dX10_take_17 (lyx_is hy 59 16 rfl) (lyx_n hy 59 3 rfl) k3594 (by decide) (rfx hr 59 1 63 (by decide)) ?_
        refine WQ_getiu dX10_take_18 fX10_232 rfl (lyx_is hy 63 4 rfl) (fun v3618 ev3618 => ?_)
        refine WQ_iconst (-1) (-1) dX10_take_21 rfl rfl (fun v3619 hv3619 => ?_)
        refine WQ_icmp_ne 28 dX10_take_22 rfl (fun c3619 => ?_) (fun c3619 => ?_)
        · refine WP_aload_n dX10_take_28 rfl ?_
          refine WP_getr dX10_take_29 fX10_62 rfl (lyx_is hy 0 10 rfl) (rfx hr 0 5 53 (by decide)) ?_
          refine WP_aload_n dX10_take_32 rfl ?_
          refine WP_getr dX10_take_33 fX10_69 rfl (lyx_is hy 0 10 rfl) (rfx hr 0 7 59 (by decide)) ?_
          refine WP_iload_n dX10_take_36 rfl ?_
          rcases (show a.toInt = 0 ∨ a.toInt = 1 ∨ a.toInt = 2 by omega) with k3621 | k3622 | k3623
          · refine WQ_aald (q := 0) dX10_take_37 (lyx_is hy 59 16 rfl) (lyx_n hy 59 3 rfl) k3621 (by decide) (rfx hr 59 0 60 (by decide)) ?_
            refine WP_callV1 (k := 4) dX10_take_38 ⟨⟨⟨by decide, by decide⟩, zX4_become⟩, lX10_249, by decide, rfl, vX4_become.1, vX4_become.2⟩ (lyx_is hy 53 4 rfl) (sx_become_53_60 hy hr hI  ) (Nat.le_of_ble_eq_true rfl) ?_
            intro r I3624 J3625 Ra hq
            obtain ⟨⟨hI3624, ec⟩, rfl⟩ := hq
            rw [ec]
            clear ec Ra
            have e3626 : I3624 (ad g 1) 1 = L := hI3624.2
            have b3627 := BT_get hI3624.1 1 1 2 (0) (0) (900) (by decide) 1 (by decide) (by decide)
            rw [e3626] at b3627
            refine WP_aload_n dX10_take_41 rfl ?_
            refine WP_getr dX10_take_42 fX10_62 rfl (lyx_is hy 0 10 rfl) (rfx hr 0 5 53 (by decide)) ?_
            refine WQ_getiu dX10_take_45 fX10_232 rfl (lyx_is hy 53 4 rfl) (fun v3628 ev3628 => ?_)
            exact WP_iret dX10_take_48 rfl ⟨⟨hI3624, rfl⟩, _, rfl⟩
          · refine WQ_aald (q := 1) dX10_take_37 (lyx_is hy 59 16 rfl) (lyx_n hy 59 3 rfl) k3622 (by decide) (rfx hr 59 1 63 (by decide)) ?_
            refine WP_callV1 (k := 4) dX10_take_38 ⟨⟨⟨by decide, by decide⟩, zX4_become⟩, lX10_249, by decide, rfl, vX4_become.1, vX4_become.2⟩ (lyx_is hy 53 4 rfl) (sx_become_53_63 hy hr hI  ) (Nat.le_of_ble_eq_true rfl) ?_
            intro r I3629 J3630 Ra hq
            obtain ⟨⟨hI3629, ec⟩, rfl⟩ := hq
            rw [ec]
            clear ec Ra
            have e3631 : I3629 (ad g 1) 1 = L := hI3629.2
            have b3632 := BT_get hI3629.1 1 1 2 (0) (0) (900) (by decide) 1 (by decide) (by decide)
            rw [e3631] at b3632
            refine WP_aload_n dX10_take_41 rfl ?_
            refine WP_getr dX10_take_42 fX10_62 rfl (lyx_is hy 0 10 rfl) (rfx hr 0 5 53 (by decide)) ?_
            refine WQ_getiu dX10_take_45 fX10_232 rfl (lyx_is hy 53 4 rfl) (fun v3633 ev3633 => ?_)
            exact WP_iret dX10_take_48 rfl ⟨⟨hI3629, rfl⟩, _, rfl⟩
          · refine WQ_aald (q := 2) dX10_take_37 (lyx_is hy 59 16 rfl) (lyx_n hy 59 3 rfl) k3623 (by decide) (rfx hr 59 2 66 (by decide)) ?_
            refine WP_callV1 (k := 4) dX10_take_38 ⟨⟨⟨by decide, by decide⟩, zX4_become⟩, lX10_249, by decide, rfl, vX4_become.1, vX4_become.2⟩ (lyx_is hy 53 4 rfl) (sx_become_53_66 hy hr hI  ) (Nat.le_of_ble_eq_true rfl) ?_
            intro r I3634 J3635 Ra hq
            obtain ⟨⟨hI3634, ec⟩, rfl⟩ := hq
            rw [ec]
            clear ec Ra
            have e3636 : I3634 (ad g 1) 1 = L := hI3634.2
            have b3637 := BT_get hI3634.1 1 1 2 (0) (0) (900) (by decide) 1 (by decide) (by decide)
            rw [e3636] at b3637
            refine WP_aload_n dX10_take_41 rfl ?_
            refine WP_getr dX10_take_42 fX10_62 rfl (lyx_is hy 0 10 rfl) (rfx hr 0 5 53 (by decide)) ?_
            refine WQ_getiu dX10_take_45 fX10_232 rfl (lyx_is hy 53 4 rfl) (fun v3638 ev3638 => ?_)
            exact WP_iret dX10_take_48 rfl ⟨⟨hI3634, rfl⟩, _, rfl⟩
        · refine WQ_bipush (-4) (-4) dX10_take_25 rfl rfl (fun v3639 hv3639 => ?_)
          exact WP_iret dX10_take_27 rfl ⟨⟨hI, rfl⟩, _, rfl⟩
      · refine WQ_aald (q := 2) dX10_take_17 (lyx_is hy 59 16 rfl) (lyx_n hy 59 3 rfl) k3595 (by decide) (rfx hr 59 2 66 (by decide)) ?_
        refine WQ_getiu dX10_take_18 fX10_232 rfl (lyx_is hy 66 4 rfl) (fun v3640 ev3640 => ?_)
        refine WQ_iconst (-1) (-1) dX10_take_21 rfl rfl (fun v3641 hv3641 => ?_)
        refine WQ_icmp_ne 28 dX10_take_22 rfl (fun c3641 => ?_) (fun c3641 => ?_)
        · refine WP_aload_n dX10_take_28 rfl ?_
          refine WP_getr dX10_take_29 fX10_62 rfl (lyx_is hy 0 10 rfl) (rfx hr 0 5 53 (by decide)) ?_
          refine WP_aload_n dX10_take_32 rfl ?_
          refine WP_getr dX10_take_33 fX10_69 rfl (lyx_is hy 0 10 rfl) (rfx hr 0 7 59 (by decide)) ?_
          refine WP_iload_n dX10_take_36 rfl ?_
          rcases (show a.toInt = 0 ∨ a.toInt = 1 ∨ a.toInt = 2 by omega) with k3643 | k3644 | k3645
          · refine WQ_aald (q := 0) dX10_take_37 (lyx_is hy 59 16 rfl) (lyx_n hy 59 3 rfl) k3643 (by decide) (rfx hr 59 0 60 (by decide)) ?_
            refine WP_callV1 (k := 4) dX10_take_38 ⟨⟨⟨by decide, by decide⟩, zX4_become⟩, lX10_249, by decide, rfl, vX4_become.1, vX4_become.2⟩ (lyx_is hy 53 4 rfl) (sx_become_53_60 hy hr hI  ) (Nat.le_of_ble_eq_true rfl) ?_
            intro r I3646 J3647 Ra hq
            obtain ⟨⟨hI3646, ec⟩, rfl⟩ := hq
            rw [ec]
            clear ec Ra
            have e3648 : I3646 (ad g 1) 1 = L := hI3646.2
            have b3649 := BT_get hI3646.1 1 1 2 (0) (0) (900) (by decide) 1 (by decide) (by decide)
            rw [e3648] at b3649
            refine WP_aload_n dX10_take_41 rfl ?_
            refine WP_getr dX10_take_42 fX10_62 rfl (lyx_is hy 0 10 rfl) (rfx hr 0 5 53 (by decide)) ?_
            refine WQ_getiu dX10_take_45 fX10_232 rfl (lyx_is hy 53 4 rfl) (fun v3650 ev3650 => ?_)
            exact WP_iret dX10_take_48 rfl ⟨⟨hI3646, rfl⟩, _, rfl⟩
          · refine WQ_aald (q := 1) dX10_take_37 (lyx_is hy 59 16 rfl) (lyx_n hy 59 3 rfl) k3644 (by decide) (rfx hr 59 1 63 (by decide)) ?_
            refine WP_callV1 (k := 4) dX10_take_38 ⟨⟨⟨by decide, by decide⟩, zX4_become⟩, lX10_249, by decide, rfl, vX4_become.1, vX4_become.2⟩ (lyx_is hy 53 4 rfl) (sx_become_53_63 hy hr hI  ) (Nat.le_of_ble_eq_true rfl) ?_
            intro r I3651 J3652 Ra hq
            obtain ⟨⟨hI3651, ec⟩, rfl⟩ := hq
            rw [ec]
            clear ec Ra
            have e3653 : I3651 (ad g 1) 1 = L := hI3651.2
            have b3654 := BT_get hI3651.1 1 1 2 (0) (0) (900) (by decide) 1 (by decide) (by decide)
            rw [e3653] at b3654
            refine WP_aload_n dX10_take_41 rfl ?_
            refine WP_getr dX10_take_42 fX10_62 rfl (lyx_is hy 0 10 rfl) (rfx hr 0 5 53 (by decide)) ?_
            refine WQ_getiu dX10_take_45 fX10_232 rfl (lyx_is hy 53 4 rfl) (fun v3655 ev3655 => ?_)
            exact WP_iret dX10_take_48 rfl ⟨⟨hI3651, rfl⟩, _, rfl⟩
          · refine WQ_aald (q := 2) dX10_take_37 (lyx_is hy 59 16 rfl) (lyx_n hy 59 3 rfl) k3645 (by decide) (rfx hr 59 2 66 (by decide)) ?_
            refine WP_callV1 (k := 4) dX10_take_38 ⟨⟨⟨by decide, by decide⟩, zX4_become⟩, lX10_249, by decide, rfl, vX4_become.1, vX4_become.2⟩ (lyx_is hy 53 4 rfl) (sx_become_53_66 hy hr hI  ) (Nat.le_of_ble_eq_true rfl) ?_
            intro r I3656 J3657 Ra hq
            obtain ⟨⟨hI3656, ec⟩, rfl⟩ := hq
            rw [ec]
            clear ec Ra
            have e3658 : I3656 (ad g 1) 1 = L := hI3656.2
            have b3659 := BT_get hI3656.1 1 1 2 (0) (0) (900) (by decide) 1 (by decide) (by decide)
            rw [e3658] at b3659
            refine WP_aload_n dX10_take_41 rfl ?_
            refine WP_getr dX10_take_42 fX10_62 rfl (lyx_is hy 0 10 rfl) (rfx hr 0 5 53 (by decide)) ?_
            refine WQ_getiu dX10_take_45 fX10_232 rfl (lyx_is hy 53 4 rfl) (fun v3660 ev3660 => ?_)
            exact WP_iret dX10_take_48 rfl ⟨⟨hI3656, rfl⟩, _, rfl⟩
        · refine WQ_bipush (-4) (-4) dX10_take_25 rfl rfl (fun v3661 hv3661 => ?_)
          exact WP_iret dX10_take_27 rfl ⟨⟨hI, rfl⟩, _, rfl⟩
    · refine WQ_bipush (-2) (-2) dX10_take_9 rfl rfl (fun v3662 hv3662 => ?_)
      exact WP_iret dX10_take_11 rfl ⟨⟨hI, rfl⟩, _, rfl⟩
