set_option maxHeartbeats 4000000 in
set_option maxRecDepth 100000 in
theorem sx_feed {g : GG} {n : Int} {L : Int32} (hy : LyX g)  {I : pI} {J : pJ} {R : pR} (hr : RfX g R) (hI : XI g n L I) (a : Int32) (b : Int32) (c : Int32) (e : Int32) (f : Int32)  : SP g mX10_feed [.ref (ad g 0), .int a, .int b, .int c, .int e, .int f] I J R (fun r I' J' R' => ((∃ L2 : Int32, XI g n L2 I' ∧ (880 < L.toInt ∧ L2.toInt = L.toInt ∨ L.toInt ≤ 880 ∧ L2.toInt = L.toInt + 20)) ∧ R' = R) ∧ ∃ v : Int32, r = some (.int v) ∧ (880 < L.toInt ∧ v.toInt = -3 ∨ L.toInt ≤ 880 ∧ v.toInt = L.toInt + 20)) := by
  refine SP_of ⟨by decide, rfl⟩ (Nat.le_of_ble_eq_true rfl) ?_
  have e2676 : I (ad g 1) 1 = L := hI.2
  have b2677 := BT_get hI.1 1 1 2 (0) (0) (900) (by decide) 1 (by decide) (by decide)
  rw [e2676] at b2677
  refine WP_aload_n dX10_feed_0 rfl ?_
  refine WP_getr dX10_feed_1 fX10_12 rfl (lyx_is hy 0 10 rfl) (rfx hr 0 0 1 (by decide)) ?_
  refine WQ_getim dX10_feed_4 fX10_90 rfl (lyx_is hy 1 5 rfl) e2676 ?_
  refine WQ_bipush (20) (20) dX10_feed_7 rfl rfl (fun v2678 hv2678 => ?_)
  refine WQ_iadd dX10_feed_9 (by omega) (by omega) (fun v2679 hv2679 => ?_)
  refine WQ_sipush (900) (900) dX10_feed_10 rfl rfl (fun v2680 hv2680 => ?_)
  refine WQ_icmp_le 19 dX10_feed_13 rfl (fun c2680 => ?_) (fun c2680 => ?_)
  · refine WP_aload_n dX10_feed_19 rfl ?_
    refine WP_getr dX10_feed_20 fX10_12 rfl (lyx_is hy 0 10 rfl) (rfx hr 0 0 1 (by decide)) ?_
    refine WP_iload_n dX10_feed_23 rfl ?_
    refine WP_callV1 (k := 5) dX10_feed_24 ⟨⟨⟨by decide, by decide⟩, zX5_put⟩, lX10_94, by decide, rfl, vX5_put.1, vX5_put.2⟩ (lyx_is hy 1 5 rfl) (sx_put hy hr hI a  (by omega)) (Nat.le_of_ble_eq_true rfl) ?_
    intro r I2682 J2683 Ra hq
    obtain ⟨⟨⟨L2684, hI2682, qL2684⟩, ec⟩, rfl⟩ := hq
    rw [ec]
    clear ec Ra
    have e2685 : I2682 (ad g 1) 1 = L2684 := hI2682.2
    have b2686 := BT_get hI2682.1 1 1 2 (0) (0) (900) (by decide) 1 (by decide) (by decide)
    rw [e2685] at b2686
    refine WP_aload_n dX10_feed_27 rfl ?_
    refine WP_getr dX10_feed_28 fX10_12 rfl (lyx_is hy 0 10 rfl) (rfx hr 0 0 1 (by decide)) ?_
    refine WP_iload_n dX10_feed_31 rfl ?_
    refine WP_callV1 (k := 5) dX10_feed_32 ⟨⟨⟨by decide, by decide⟩, zX5_put⟩, lX10_94, by decide, rfl, vX5_put.1, vX5_put.2⟩ (lyx_is hy 1 5 rfl) (sx_put hy hr hI2682 b  (by omega)) (Nat.le_of_ble_eq_true rfl) ?_
    intro r I2687 J2688 Ra hq
    obtain ⟨⟨⟨L2689, hI2687, qL2689⟩, ec⟩, rfl⟩ := hq
    rw [ec]
    clear ec Ra
    have e2690 : I2687 (ad g 1) 1 = L2689 := hI2687.2
    have b2691 := BT_get hI2687.1 1 1 2 (0) (0) (900) (by decide) 1 (by decide) (by decide)
    rw [e2690] at b2691
    refine WP_aload_n dX10_feed_35 rfl ?_
    refine WP_getr dX10_feed_36 fX10_12 rfl (lyx_is hy 0 10 rfl) (rfx hr 0 0 1 (by decide)) ?_
    refine WP_iload_n dX10_feed_39 rfl ?_
    refine WP_callV1 (k := 5) dX10_feed_40 ⟨⟨⟨by decide, by decide⟩, zX5_put⟩, lX10_94, by decide, rfl, vX5_put.1, vX5_put.2⟩ (lyx_is hy 1 5 rfl) (sx_put hy hr hI2687 c  (by omega)) (Nat.le_of_ble_eq_true rfl) ?_
    intro r I2692 J2693 Ra hq
    obtain ⟨⟨⟨L2694, hI2692, qL2694⟩, ec⟩, rfl⟩ := hq
    rw [ec]
    clear ec Ra
    have e2695 : I2692 (ad g 1) 1 = L2694 := hI2692.2
    have b2696 := BT_get hI2692.1 1 1 2 (0) (0) (900) (by decide) 1 (by decide) (by decide)
    rw [e2695] at b2696
    refine WP_aload_n dX10_feed_43 rfl ?_
    refine WP_getr dX10_feed_44 fX10_12 rfl (lyx_is hy 0 10 rfl) (rfx hr 0 0 1 (by decide)) ?_
    refine WP_iload dX10_feed_47 rfl ?_
    refine WP_callV1 (k := 5) dX10_feed_49 ⟨⟨⟨by decide, by decide⟩, zX5_put⟩, lX10_94, by decide, rfl, vX5_put.1, vX5_put.2⟩ (lyx_is hy 1 5 rfl) (sx_put hy hr hI2692 e  (by omega)) (Nat.le_of_ble_eq_true rfl) ?_
    intro r I2697 J2698 Ra hq
    obtain ⟨⟨⟨L2699, hI2697, qL2699⟩, ec⟩, rfl⟩ := hq
    rw [ec]
    clear ec Ra
    have e2700 : I2697 (ad g 1) 1 = L2699 := hI2697.2
    have b2701 := BT_get hI2697.1 1 1 2 (0) (0) (900) (by decide) 1 (by decide) (by decide)
    rw [e2700] at b2701
    refine WP_aload_n dX10_feed_52 rfl ?_
    refine WP_getr dX10_feed_53 fX10_12 rfl (lyx_is hy 0 10 rfl) (rfx hr 0 0 1 (by decide)) ?_
    refine WP_iload dX10_feed_56 rfl ?_
    refine WP_callV1 (k := 5) dX10_feed_58 ⟨⟨⟨by decide, by decide⟩, zX5_put⟩, lX10_94, by decide, rfl, vX5_put.1, vX5_put.2⟩ (lyx_is hy 1 5 rfl) (sx_put hy hr hI2697 f  (by omega)) (Nat.le_of_ble_eq_true rfl) ?_
    intro r I2702 J2703 Ra hq
    obtain ⟨⟨⟨L2704, hI2702, qL2704⟩, ec⟩, rfl⟩ := hq
    rw [ec]
    clear ec Ra
    have e2705 : I2702 (ad g 1) 1 = L2704 := hI2702.2
    have b2706 := BT_get hI2702.1 1 1 2 (0) (0) (900) (by decide) 1 (by decide) (by decide)
    rw [e2705] at b2706
    refine WP_aload_n dX10_feed_61 rfl ?_
    refine WP_getr dX10_feed_62 fX10_12 rfl (lyx_is hy 0 10 rfl) (rfx hr 0 0 1 (by decide)) ?_
    refine WQ_getim dX10_feed_65 fX10_90 rfl (lyx_is hy 1 5 rfl) e2705 ?_
    exact WP_iret dX10_feed_68 rfl ⟨⟨⟨_, hI2702, by omega⟩, rfl⟩, _, rfl, by omega⟩
  · refine WQ_bipush (-3) (-3) dX10_feed_16 rfl rfl (fun v2707 hv2707 => ?_)
    exact WP_iret dX10_feed_18 rfl ⟨⟨⟨_, hI, by omega⟩, rfl⟩, _, rfl, by omega⟩
set_option maxHeartbeats 4000000 in
set_option maxRecDepth 100000 in
theorem sx_end {g : GG} {n : Int} {L : Int32} (hy : LyX g)  {I : pI} {J : pJ} {R : pR} (hr : RfX g R) (hI : XI g n L I) (a : Int32)  : SP g mX10_end [.ref (ad g 0), .int a] I J R (fun r I' J' R' => ((∃ L2 : Int32, XI g n L2 I' ∧ ((0 ≤ a.toInt ∧ a.toInt ≤ L.toInt) ∧ L2.toInt = a.toInt ∨ ¬ (0 ≤ a.toInt ∧ a.toInt ≤ L.toInt) ∧ L2.toInt = L.toInt)) ∧ R' = R) ∧ ∃ v : Int32, r = some (.int v) ∧ ((0 ≤ a.toInt ∧ a.toInt ≤ L.toInt) ∧ v.toInt = a.toInt ∨ ¬ (0 ≤ a.toInt ∧ a.toInt ≤ L.toInt) ∧ v.toInt = -1)) := by
  refine SP_of ⟨by decide, rfl⟩ (Nat.le_of_ble_eq_true rfl) ?_
  have e2708 : I (ad g 1) 1 = L := hI.2
  have b2709 := BT_get hI.1 1 1 2 (0) (0) (900) (by decide) 1 (by decide) (by decide)
  rw [e2708] at b2709
  refine WP_iload_n dX10_end_0 rfl ?_
  refine WQ_if_lt 15 dX10_end_1 rfl (fun c2709 => ?_) (fun c2709 => ?_)
  · refine WQ_iconst (-1) (-1) dX10_end_15 rfl rfl (fun v2711 hv2711 => ?_)
    exact WP_iret dX10_end_16 rfl ⟨⟨⟨_, hI, by omega⟩, rfl⟩, _, rfl, by omega⟩
  · refine WP_iload_n dX10_end_4 rfl ?_
    refine WP_aload_n dX10_end_5 rfl ?_
    refine WP_getr dX10_end_6 fX10_12 rfl (lyx_is hy 0 10 rfl) (rfx hr 0 0 1 (by decide)) ?_
    refine WQ_getim dX10_end_9 fX10_90 rfl (lyx_is hy 1 5 rfl) e2708 ?_
    refine WQ_icmp_le 17 dX10_end_12 rfl (fun c2711 => ?_) (fun c2711 => ?_)
    · refine WP_aload_n dX10_end_17 rfl ?_
      refine WP_getr dX10_end_18 fX10_12 rfl (lyx_is hy 0 10 rfl) (rfx hr 0 0 1 (by decide)) ?_
      refine WP_iload_n dX10_end_21 rfl ?_
      refine WQ_puti dX10_end_22 fX10_90 rfl rfl (lyx_is hy 1 5 rfl) (fun I2713 eI2713 => ?_)
      have hI2713 : XI g n a I2713 := by rw [eI2713]; exact (xi_len hy hI (by omega) (by omega))
      have e2714 : I2713 (ad g 1) 1 = a := by rw [eI2713, pp_self]
      clear eI2713
      refine WP_iload_n dX10_end_25 rfl ?_
      exact WP_iret dX10_end_26 rfl ⟨⟨⟨_, hI2713, by omega⟩, rfl⟩, _, rfl, by omega⟩
    · refine WQ_iconst (-1) (-1) dX10_end_15 rfl rfl (fun v2715 hv2715 => ?_)
      exact WP_iret dX10_end_16 rfl ⟨⟨⟨_, hI, by omega⟩, rfl⟩, _, rfl, by omega⟩
set_option maxHeartbeats 4000000 in
set_option maxRecDepth 100000 in
theorem sx_fault {g : GG} {n : Int} {L : Int32} (hy : LyX g)  {I : pI} {J : pJ} {R : pR} (hr : RfX g R) (hI : XI g n L I) (a : Int32)  : SP g mX10_fault [.ref (ad g 0), .int a] I J R (fun r I' J' R' => (I' = I ∧ J' = J ∧ R' = R) ∧ ∃ v : Int32, r = some (.int v)) := by
  refine SP_of ⟨by decide, rfl⟩ (Nat.le_of_ble_eq_true rfl) ?_
  have e2716 : I (ad g 1) 1 = L := hI.2
  have b2717 := BT_get hI.1 1 1 2 (0) (0) (900) (by decide) 1 (by decide) (by decide)
  rw [e2716] at b2717
  refine WP_iload_n dX10_fault_0 rfl ?_
  have jn30_2722 : ∀ (v2722 : Int32), WP g mX10_fault 30 [(0, .ref (ad g 0)), (1, .int a)] [.int v2722] I J R (fun r I' J' R' => (I' = I ∧ J' = J ∧ R' = R) ∧ ∃ v : Int32, r = some (.int v)) := by
    intro v2722 
    exact WP_iret dX10_fault_30 rfl ⟨⟨rfl, rfl, rfl⟩, _, rfl⟩
  refine WX_if_ne 14 dX10_fault_1 rfl ?_ ?_
  · refine WP_iload_n dX10_fault_14 rfl ?_
    refine WQ_iconst (1) (1) dX10_fault_15 rfl rfl (fun v2724 hv2724 => ?_)
    refine WX_icmp_ne 29 dX10_fault_16 rfl ?_ ?_
    · refine WQ_iconst (-1) (-1) dX10_fault_29 rfl rfl (fun v2725 hv2725 => ?_)
      exact WP_sub (fc rfl (fc rfl fn)) (jn30_2722 v2725)
    · refine WP_aload_n dX10_fault_19 rfl ?_
      refine WP_getr dX10_fault_20 fX10_21 rfl (lyx_is hy 0 10 rfl) (rfx hr 0 1 3 (by decide)) ?_
      refine WQ_getiu dX10_fault_23 fX10_111 rfl (lyx_is hy 3 3 rfl) (fun v2726 ev2726 => ?_)
      refine WP_goto 30 dX10_fault_26 rfl ?_
      exact WP_sub (fc rfl (fc rfl fn)) (jn30_2722 v2726)
  · refine WP_aload_n dX10_fault_4 rfl ?_
    refine WP_getr dX10_fault_5 fX10_21 rfl (lyx_is hy 0 10 rfl) (rfx hr 0 1 3 (by decide)) ?_
    refine WQ_getiu dX10_fault_8 fX10_108 rfl (lyx_is hy 3 3 rfl) (fun v2727 ev2727 => ?_)
    refine WP_goto 30 dX10_fault_11 rfl ?_
    exact WP_sub (fc rfl (fc rfl fn)) (jn30_2722 v2727)
set_option maxHeartbeats 4000000 in
set_option maxRecDepth 100000 in
theorem sx_restTurns {g : GG} {n : Int} {L : Int32} (hy : LyX g)  {I : pI} {J : pJ} {R : pR} (hr : RfX g R) (hI : XI g n L I)   : SP g mX10_restTurns [.ref (ad g 0)] I J R (fun r I' J' R' => (I' = I ∧ J' = J ∧ R' = R) ∧ ∃ v : Int32, r = some (.int v)) := by
  refine SP_of ⟨by decide, rfl⟩ (Nat.le_of_ble_eq_true rfl) ?_
  have e2728 : I (ad g 1) 1 = L := hI.2
  have b2729 := BT_get hI.1 1 1 2 (0) (0) (900) (by decide) 1 (by decide) (by decide)
  rw [e2728] at b2729
  refine WP_aload_n dX10_restTurns_0 rfl ?_
  refine WQ_getiu dX10_restTurns_1 fX10_263 rfl (lyx_is hy 0 10 rfl) (fun v2730 ev2730 => ?_)
  exact WP_iret dX10_restTurns_4 rfl ⟨⟨rfl, rfl, rfl⟩, _, rfl⟩
set_option maxHeartbeats 4000000 in
set_option maxRecDepth 100000 in
theorem sx_all {g : GG} {n : Int} {L : Int32} (hy : LyX g)  {I : pI} {J : pJ} {R : pR} (hr : RfX g R) (hI : XI g n L I) (a : Int32)  : SP g mX10_all [.ref (ad g 0), .int a] I J R (fun r I' J' R' => (I' = I ∧ J' = J ∧ R' = R) ∧ ∃ v : Int32, r = some (.int v)) := by
  refine SP_of ⟨by decide, rfl⟩ (Nat.le_of_ble_eq_true rfl) ?_
  have e2731 : I (ad g 1) 1 = L := hI.2
  have b2732 := BT_get hI.1 1 1 2 (0) (0) (900) (by decide) 1 (by decide) (by decide)
  rw [e2731] at b2732
  refine WP_iload_n dX10_all_0 rfl ?_
  refine WP_tab 64 dX10_all_1 rfl rfl (fun c2732 => ?_) (fun j off c2732 hj => ?_) (by decide)
  · refine WQ_iconst (-1) (-1) dX10_all_64 rfl rfl (fun v2734 hv2734 => ?_)
    exact WP_iret dX10_all_65 rfl ⟨⟨rfl, rfl, rfl⟩, _, rfl⟩
  · have hlt : j < 4 := by have := (Array.getElem?_eq_some_iff.mp hj).1; simpa using this
    have hcs : (j = 0 ∧ off = 31) ∨ (j = 1 ∧ off = 39) ∨ (j = 2 ∧ off = 47) ∨ (j = 3 ∧ off = 55) := by
      match j, hlt, hj with
      | 0, _, hj => exact Or.inl ⟨rfl, (Option.some.inj hj).symm⟩
      | 1, _, hj => exact Or.inr (Or.inl ⟨rfl, (Option.some.inj hj).symm⟩)
      | 2, _, hj => exact Or.inr (Or.inr (Or.inl ⟨rfl, (Option.some.inj hj).symm⟩))
      | 3, _, hj => exact Or.inr (Or.inr (Or.inr (⟨rfl, (Option.some.inj hj).symm⟩)))
    clear hj hlt
    rcases hcs with ⟨rfl, rfl⟩ | ⟨rfl, rfl⟩ | ⟨rfl, rfl⟩ | ⟨rfl, rfl⟩
    · show WP _ _ 32 _ _ _ _ _ _
      refine WP_aload_n dX10_all_32 rfl ?_
      refine WP_getr dX10_all_33 fX10_62 rfl (lyx_is hy 0 10 rfl) (rfx hr 0 5 53 (by decide)) ?_
      refine WQ_geti dX10_all_36 fX10_238 rfl (lyx_is hy 53 4 rfl) (BT_get hI.1 53 1 2 (0) (23760) (0) (by decide) 1 (by decide) (by decide)) (fun v2735 ev2735 av2735 bv2735 => ?_)
      exact WP_iret dX10_all_39 rfl ⟨⟨rfl, rfl, rfl⟩, _, rfl⟩
    · show WP _ _ 40 _ _ _ _ _ _
      refine WP_aload_n dX10_all_40 rfl ?_
      refine WP_getr dX10_all_41 fX10_62 rfl (lyx_is hy 0 10 rfl) (rfx hr 0 5 53 (by decide)) ?_
      refine WQ_getiu dX10_all_44 fX10_232 rfl (lyx_is hy 53 4 rfl) (fun v2736 ev2736 => ?_)
      exact WP_iret dX10_all_47 rfl ⟨⟨rfl, rfl, rfl⟩, _, rfl⟩
    · show WP _ _ 48 _ _ _ _ _ _
      refine WP_aload_n dX10_all_48 rfl ?_
      refine WP_getr dX10_all_49 fX10_62 rfl (lyx_is hy 0 10 rfl) (rfx hr 0 5 53 (by decide)) ?_
      refine WP_callV0 (k := 4) dX10_all_52 ⟨⟨⟨by decide, by decide⟩, zX4_round⟩, lX10_239, by decide, rfl, vX4_round.1, vX4_round.2⟩ (lyx_is hy 53 4 rfl) (sx_round hy hr hI  ) (Nat.le_of_ble_eq_true rfl) ?_
      intro r Ia Ja Ra hq
      obtain ⟨⟨ea, eb, ec⟩, v2737, rfl⟩ := hq
      show WP _ _ _ _ (.int _ :: _) _ _ _ _
      rw [ea, eb, ec]
      clear ea eb ec Ia Ja Ra
      exact WP_iret dX10_all_55 rfl ⟨⟨rfl, rfl, rfl⟩, _, rfl⟩
    · show WP _ _ 56 _ _ _ _ _ _
      refine WP_aload_n dX10_all_56 rfl ?_
      refine WP_getr dX10_all_57 fX10_62 rfl (lyx_is hy 0 10 rfl) (rfx hr 0 5 53 (by decide)) ?_
      refine WQ_getiu dX10_all_60 fX10_243 rfl (lyx_is hy 53 4 rfl) (fun v2738 ev2738 => ?_)
      exact WP_iret dX10_all_63 rfl ⟨⟨rfl, rfl, rfl⟩, _, rfl⟩
set_option maxHeartbeats 4000000 in
set_option maxRecDepth 100000 in
theorem sx_lend {g : GG} {n : Int} {L : Int32} (hy : LyX g)  {I : pI} {J : pJ} {R : pR} (hr : RfX g R) (hI : XI g n L I) (c : Int32) (w : Int32) (y : Int32) (wh : Int32)  : SP g mX10_lend [.ref (ad g 0), .int c, .int w, .int y, .int wh] I J R (fun r I' J' R' => (I' = I ∧ J' = J ∧ R' = R) ∧ ∃ v : Int32, r = some (.int v)) := by
  refine SP_of ⟨by decide, rfl⟩ (Nat.le_of_ble_eq_true rfl) ?_
  have e2739 : I (ad g 1) 1 = L := hI.2
  have b2740 := BT_get hI.1 1 1 2 (0) (0) (900) (by decide) 1 (by decide) (by decide)
  rw [e2739] at b2740
  refine WP_iload_n dX10_lend_0 rfl ?_
  refine WQ_iconst (0) (0) dX10_lend_1 rfl rfl (fun v2741 hv2741 => ?_)
  refine WQ_sipush (999) (999) dX10_lend_2 rfl rfl (fun v2742 hv2742 => ?_)
  refine WP_callS3 dX10_lend_5 ⟨⟨⟨by decide, by decide⟩, zX10_within⟩, lX10_206, tX10_within⟩ (sx_within hy hr hI c v2741 v2742   ) (Nat.le_of_ble_eq_true rfl) ?_
  intro r Ia Ja Ra hq
  obtain ⟨⟨ea, eb, ec⟩, v2743, rfl, av2743, bv2743, cv2743⟩ := hq
  show WP _ _ _ _ (.int _ :: _) _ _ _ _
  rw [ea, eb, ec]
  clear ea eb ec Ia Ja Ra
  refine WQ_if_eq 32 dX10_lend_8 rfl (fun c2743 => ?_) (fun c2743 => ?_)
  · refine WQ_bipush (-2) (-2) dX10_lend_32 rfl rfl (fun v2745 hv2745 => ?_)
    exact WP_iret dX10_lend_34 rfl ⟨⟨rfl, rfl, rfl⟩, _, rfl⟩
  · refine WP_iload_n dX10_lend_11 rfl ?_
    refine WQ_iconst (0) (0) dX10_lend_12 rfl rfl (fun v2746 hv2746 => ?_)
    refine WQ_bipush (52) (52) dX10_lend_13 rfl rfl (fun v2747 hv2747 => ?_)
    refine WP_callS3 dX10_lend_15 ⟨⟨⟨by decide, by decide⟩, zX10_within⟩, lX10_206, tX10_within⟩ (sx_within hy hr hI w v2746 v2747   ) (Nat.le_of_ble_eq_true rfl) ?_
    intro r Ia Ja Ra hq
    obtain ⟨⟨ea, eb, ec⟩, v2748, rfl, av2748, bv2748, cv2748⟩ := hq
    show WP _ _ _ _ (.int _ :: _) _ _ _ _
    rw [ea, eb, ec]
    clear ea eb ec Ia Ja Ra
    refine WQ_if_eq 32 dX10_lend_18 rfl (fun c2748 => ?_) (fun c2748 => ?_)
    · refine WQ_bipush (-2) (-2) dX10_lend_32 rfl rfl (fun v2750 hv2750 => ?_)
      exact WP_iret dX10_lend_34 rfl ⟨⟨rfl, rfl, rfl⟩, _, rfl⟩
    · refine WP_iload_n dX10_lend_21 rfl ?_
      refine WQ_iconst (0) (0) dX10_lend_22 rfl rfl (fun v2751 hv2751 => ?_)
      refine WQ_sipush (1000) (1000) dX10_lend_23 rfl rfl (fun v2752 hv2752 => ?_)
      refine WP_callS3 dX10_lend_26 ⟨⟨⟨by decide, by decide⟩, zX10_within⟩, lX10_206, tX10_within⟩ (sx_within hy hr hI y v2751 v2752   ) (Nat.le_of_ble_eq_true rfl) ?_
      intro r Ia Ja Ra hq
      obtain ⟨⟨ea, eb, ec⟩, v2753, rfl, av2753, bv2753, cv2753⟩ := hq
      show WP _ _ _ _ (.int _ :: _) _ _ _ _
      rw [ea, eb, ec]
      clear ea eb ec Ia Ja Ra
      refine WQ_if_ne 35 dX10_lend_29 rfl (fun c2753 => ?_) (fun c2753 => ?_)
      · refine WP_iload dX10_lend_35 rfl ?_
        refine WQ_if_eq 49 dX10_lend_37 rfl (fun c2754 => ?_) (fun c2754 => ?_)
        · refine WP_iload_n dX10_lend_49 rfl ?_
          refine WP_istore (ls' := [(0, _), (1, _), (2, _), (3, _), (4, _), (5, _)]) dX10_lend_50 (by decide) rfl ?_
          refine WQ_iconst (0) (0) dX10_lend_52 rfl rfl (fun v2756 hv2756 => ?_)
          refine WP_istore (ls' := [(0, _), (1, _), (2, _), (3, _), (4, _), (5, _), (6, _)]) dX10_lend_53 (by decide) rfl ?_
          have lp55_2758 : ∀ (mz : Nat) (i2757 : Int32) (i2758 : Int32), 0 ≤ i2757.toInt → i2757.toInt ≤ 999 → 0 ≤ i2758.toInt → i2758.toInt ≤ 52 → (53 - i2758.toInt).toNat < mz → WP g mX10_lend 55 [(0, .ref (ad g 0)), (1, .int c), (2, .int w), (3, .int y), (4, .int wh), (5, .int i2757), (6, .int i2758)] [] I J R (fun r I' J' R' => (I' = I ∧ J' = J ∧ R' = R) ∧ ∃ v : Int32, r = some (.int v)) := by
            intro mz
            induction mz with
            | zero =>
              intro i2757 i2758 ai2757 bi2757 ai2758 bi2758 hmlp55_2758
              exact absurd hmlp55_2758 (Nat.not_lt_zero _)
            | succ mz ihlp55_2758 =>
              intro i2757 i2758 ai2757 bi2757 ai2758 bi2758 hmlp55_2758
              refine WP_iload dX10_lend_55 rfl ?_
              refine WP_iload_n dX10_lend_57 rfl ?_
              refine WQ_icmp_ge 98 dX10_lend_58 rfl (fun c2759 => ?_) (fun c2759 => ?_)
              · refine WP_iload dX10_lend_98 rfl ?_
                exact WP_iret dX10_lend_100 rfl ⟨⟨rfl, rfl, rfl⟩, _, rfl⟩
              · refine WP_iload dX10_lend_61 rfl ?_
                have jn90_2766 : ∀ (v2766 : Int32), 0 ≤ v2766.toInt → v2766.toInt ≤ 999 → WP g mX10_lend 90 [(0, .ref (ad g 0)), (1, .int c), (2, .int w), (3, .int y), (4, .int wh), (5, .int i2757), (6, .int i2758)] [.int v2766] I J R (fun r I' J' R' => (I' = I ∧ J' = J ∧ R' = R) ∧ ∃ v : Int32, r = some (.int v)) := by
                  intro v2766 av2766 bv2766
                  refine WP_istore (ls' := [(0, _), (1, _), (2, _), (3, _), (4, _), (5, _), (6, _)]) dX10_lend_90 (by decide) rfl ?_
                  refine WP_iinc (ls' := [(0, _), (1, _), (2, _), (3, _), (4, _), (5, _), (6, _)]) dX10_lend_92 rfl (by decide) rfl ?_
                  have hv2768 : (i2758 + Int32.ofInt (1)).toInt = i2758.toInt + (1) := ia_n rfl (by omega) (by omega)
                  generalize i2758 + Int32.ofInt (1) = v2768 at hv2768 ⊢
                  refine WP_goto 55 dX10_lend_95 rfl ?_
                  exact WP_sub (fc rfl (fc rfl (fc rfl (fc rfl (fc rfl (fc rfl (fc rfl fn))))))) (ihlp55_2758 v2766 v2768 (by omega) (by omega) (by omega) (by omega) (by omega))
                refine WQ_if_ne 81 dX10_lend_63 rfl (fun c2768 => False.elim (by omega)) (fun c2768 => ?_)
                refine WP_iload dX10_lend_66 rfl ?_
                refine WQ_sipush (1000) (1000) dX10_lend_68 rfl rfl (fun v2770 hv2770 => ?_)
                refine WP_iload_n dX10_lend_71 rfl ?_
                refine WQ_isub dX10_lend_72 (by omega) (by omega) (fun v2771 hv2771 => ?_)
                refine WQ_imulb (999) (1000) dX10_lend_73 ⟨by omega, by omega⟩ ⟨by omega, by omega⟩ (by decide) (fun v2772 pv2772 av2772 bv2772 cv2772 => ?_)
                refine WQ_sipush (1000) (1000) dX10_lend_74 rfl rfl (fun v2773 hv2773 => ?_)
                refine WQ_idivk (1000) dX10_lend_77 hv2773 (by decide) (by omega) (fun v2774 hv2774 => ?_)
                refine WP_goto 90 dX10_lend_78 rfl ?_
                exact WP_sub (fc rfl (fc rfl (fc rfl (fc rfl (fc rfl (fc rfl (fc rfl fn))))))) (jn90_2766 v2774 (by omega) (by omega))
          exact WP_sub (fc rfl (fc rfl (fc rfl (fc rfl (fc rfl (fc rfl (fc rfl fn))))))) (lp55_2758 _ c v2756 (by omega) (by omega) (by omega) (by omega) (Nat.lt_succ_self _))
        · refine WP_iload dX10_lend_40 rfl ?_
          refine WQ_iconst (1) (1) dX10_lend_42 rfl rfl (fun v2775 hv2775 => ?_)
          refine WQ_icmp_eq 49 dX10_lend_43 rfl (fun c2775 => ?_) (fun c2775 => ?_)
          · refine WP_iload_n dX10_lend_49 rfl ?_
            refine WP_istore (ls' := [(0, _), (1, _), (2, _), (3, _), (4, _), (5, _)]) dX10_lend_50 (by decide) rfl ?_
            refine WQ_iconst (0) (0) dX10_lend_52 rfl rfl (fun v2777 hv2777 => ?_)
            refine WP_istore (ls' := [(0, _), (1, _), (2, _), (3, _), (4, _), (5, _), (6, _)]) dX10_lend_53 (by decide) rfl ?_
            have lp55_2779 : ∀ (mz : Nat) (i2778 : Int32) (i2779 : Int32), 0 ≤ i2778.toInt → i2778.toInt ≤ 999 → 0 ≤ i2779.toInt → i2779.toInt ≤ 52 → (53 - i2779.toInt).toNat < mz → WP g mX10_lend 55 [(0, .ref (ad g 0)), (1, .int c), (2, .int w), (3, .int y), (4, .int wh), (5, .int i2778), (6, .int i2779)] [] I J R (fun r I' J' R' => (I' = I ∧ J' = J ∧ R' = R) ∧ ∃ v : Int32, r = some (.int v)) := by
              intro mz
              induction mz with
              | zero =>
                intro i2778 i2779 ai2778 bi2778 ai2779 bi2779 hmlp55_2779
                exact absurd hmlp55_2779 (Nat.not_lt_zero _)
              | succ mz ihlp55_2779 =>
                intro i2778 i2779 ai2778 bi2778 ai2779 bi2779 hmlp55_2779
                refine WP_iload dX10_lend_55 rfl ?_
                refine WP_iload_n dX10_lend_57 rfl ?_
                refine WQ_icmp_ge 98 dX10_lend_58 rfl (fun c2780 => ?_) (fun c2780 => ?_)
                · refine WP_iload dX10_lend_98 rfl ?_
                  exact WP_iret dX10_lend_100 rfl ⟨⟨rfl, rfl, rfl⟩, _, rfl⟩
                · refine WP_iload dX10_lend_61 rfl ?_
                  have jn90_2783 : ∀ (v2783 : Int32), 0 ≤ v2783.toInt → v2783.toInt ≤ 999 → WP g mX10_lend 90 [(0, .ref (ad g 0)), (1, .int c), (2, .int w), (3, .int y), (4, .int wh), (5, .int i2778), (6, .int i2779)] [.int v2783] I J R (fun r I' J' R' => (I' = I ∧ J' = J ∧ R' = R) ∧ ∃ v : Int32, r = some (.int v)) := by
                    intro v2783 av2783 bv2783
                    refine WP_istore (ls' := [(0, _), (1, _), (2, _), (3, _), (4, _), (5, _), (6, _)]) dX10_lend_90 (by decide) rfl ?_
                    refine WP_iinc (ls' := [(0, _), (1, _), (2, _), (3, _), (4, _), (5, _), (6, _)]) dX10_lend_92 rfl (by decide) rfl ?_
                    have hv2785 : (i2779 + Int32.ofInt (1)).toInt = i2779.toInt + (1) := ia_n rfl (by omega) (by omega)
                    generalize i2779 + Int32.ofInt (1) = v2785 at hv2785 ⊢
                    refine WP_goto 55 dX10_lend_95 rfl ?_
                    exact WP_sub (fc rfl (fc rfl (fc rfl (fc rfl (fc rfl (fc rfl (fc rfl fn))))))) (ihlp55_2779 v2783 v2785 (by omega) (by omega) (by omega) (by omega) (by omega))
                  refine WQ_if_ne 81 dX10_lend_63 rfl (fun c2785 => ?_) (fun c2785 => False.elim (by omega))
                  refine WP_aload_n dX10_lend_81 rfl ?_
                  refine WP_getr dX10_lend_82 fX10_33 rfl (lyx_is hy 0 10 rfl) (rfx hr 0 2 5 (by decide)) ?_
                  refine WP_iload dX10_lend_85 rfl ?_
                  refine WP_callV1 (k := 0) dX10_lend_87 ⟨⟨⟨by decide, by decide⟩, zX0_heldForWeek⟩, lX10_289, by decide, rfl, vX0_heldForWeek.1, vX0_heldForWeek.2⟩ (lyx_is hy 5 0 rfl) (sx_heldForWeek hy hr hI i2778 (by omega) (by omega)) (Nat.le_of_ble_eq_true rfl) ?_
                  intro r Ia Ja Ra hq
                  obtain ⟨⟨ea, eb, ec⟩, v2787, rfl, av2787, bv2787⟩ := hq
                  show WP _ _ _ _ (.int _ :: _) _ _ _ _
                  rw [ea, eb, ec]
                  clear ea eb ec Ia Ja Ra
                  exact WP_sub (fc rfl (fc rfl (fc rfl (fc rfl (fc rfl (fc rfl (fc rfl fn))))))) (jn90_2783 v2787 (by omega) (by omega))
            exact WP_sub (fc rfl (fc rfl (fc rfl (fc rfl (fc rfl (fc rfl (fc rfl fn))))))) (lp55_2779 _ c v2777 (by omega) (by omega) (by omega) (by omega) (Nat.lt_succ_self _))
          · refine WQ_bipush (-2) (-2) dX10_lend_46 rfl rfl (fun v2788 hv2788 => ?_)
            exact WP_iret dX10_lend_48 rfl ⟨⟨rfl, rfl, rfl⟩, _, rfl⟩
      · refine WQ_bipush (-2) (-2) dX10_lend_32 rfl rfl (fun v2789 hv2789 => ?_)
        exact WP_iret dX10_lend_34 rfl ⟨⟨rfl, rfl, rfl⟩, _, rfl⟩
set_option maxHeartbeats 4000000 in
set_option maxRecDepth 100000 in
theorem sx_early {g : GG} {n : Int} {L : Int32} (hy : LyX g)  {I : pI} {J : pJ} {R : pR} (hr : RfX g R) (hI : XI g n L I) (c : Int32) (dd : Int32) (da : Int32)  : SP g mX10_early [.ref (ad g 0), .int c, .int dd, .int da] I J R (fun r I' J' R' => (I' = I ∧ J' = J ∧ R' = R) ∧ ∃ v : Int32, r = some (.int v)) := by
  refine SP_of ⟨by decide, rfl⟩ (Nat.le_of_ble_eq_true rfl) ?_
  have e2790 : I (ad g 1) 1 = L := hI.2
  have b2791 := BT_get hI.1 1 1 2 (0) (0) (900) (by decide) 1 (by decide) (by decide)
  rw [e2790] at b2791
  refine WP_iload_n dX10_early_0 rfl ?_
  refine WQ_iconst (0) (0) dX10_early_1 rfl rfl (fun v2792 hv2792 => ?_)
  refine WQ_sipush (999) (999) dX10_early_2 rfl rfl (fun v2793 hv2793 => ?_)
  refine WP_callS3 dX10_early_5 ⟨⟨⟨by decide, by decide⟩, zX10_within⟩, lX10_206, tX10_within⟩ (sx_within hy hr hI c v2792 v2793   ) (Nat.le_of_ble_eq_true rfl) ?_
  intro r Ia Ja Ra hq
  obtain ⟨⟨ea, eb, ec⟩, v2794, rfl, av2794, bv2794, cv2794⟩ := hq
  show WP _ _ _ _ (.int _ :: _) _ _ _ _
  rw [ea, eb, ec]
  clear ea eb ec Ia Ja Ra
  refine WQ_if_eq 28 dX10_early_8 rfl (fun c2794 => ?_) (fun c2794 => ?_)
  · refine WQ_bipush (-2) (-2) dX10_early_28 rfl rfl (fun v2796 hv2796 => ?_)
    exact WP_iret dX10_early_30 rfl ⟨⟨rfl, rfl, rfl⟩, _, rfl⟩
  · refine WP_iload_n dX10_early_11 rfl ?_
    refine WQ_iconst (0) (0) dX10_early_12 rfl rfl (fun v2797 hv2797 => ?_)
    refine WQ_bipush (60) (60) dX10_early_13 rfl rfl (fun v2798 hv2798 => ?_)
    refine WP_callS3 dX10_early_15 ⟨⟨⟨by decide, by decide⟩, zX10_within⟩, lX10_206, tX10_within⟩ (sx_within hy hr hI dd v2797 v2798   ) (Nat.le_of_ble_eq_true rfl) ?_
    intro r Ia Ja Ra hq
    obtain ⟨⟨ea, eb, ec⟩, v2799, rfl, av2799, bv2799, cv2799⟩ := hq
    show WP _ _ _ _ (.int _ :: _) _ _ _ _
    rw [ea, eb, ec]
    clear ea eb ec Ia Ja Ra
    refine WQ_if_eq 28 dX10_early_18 rfl (fun c2799 => ?_) (fun c2799 => ?_)
    · refine WQ_bipush (-2) (-2) dX10_early_28 rfl rfl (fun v2801 hv2801 => ?_)
      exact WP_iret dX10_early_30 rfl ⟨⟨rfl, rfl, rfl⟩, _, rfl⟩
    · refine WP_iload_n dX10_early_21 rfl ?_
      refine WP_callS1 dX10_early_22 ⟨⟨⟨by decide, by decide⟩, zX10_isDay⟩, lX10_156, tX10_isDay⟩ (sx_isDay hy hr hI da ) (Nat.le_of_ble_eq_true rfl) ?_
      intro r Ia Ja Ra hq
      obtain ⟨⟨ea, eb, ec⟩, v2802, rfl, av2802, bv2802, cv2802⟩ := hq
      show WP _ _ _ _ (.int _ :: _) _ _ _ _
      rw [ea, eb, ec]
      clear ea eb ec Ia Ja Ra
      refine WQ_if_ne 31 dX10_early_25 rfl (fun c2802 => ?_) (fun c2802 => ?_)
      · refine WP_iload_n dX10_early_31 rfl ?_
        refine WP_istore (ls' := [(0, _), (1, _), (2, _), (3, _), (4, _)]) dX10_early_32 (by decide) rfl ?_
        refine WP_iload_n dX10_early_34 rfl ?_
        refine WQ_iconst (1) (1) dX10_early_35 rfl rfl (fun v2804 hv2804 => ?_)
        refine WQ_isub dX10_early_36 (by omega) (by omega) (fun v2805 hv2805 => ?_)
        refine WP_istore (ls' := [(0, _), (1, _), (2, _), (3, _), (4, _), (5, _)]) dX10_early_37 (by decide) rfl ?_
        have lp39_2807 : ∀ (mz : Nat) (i2806 : Int32) (i2807 : Int32), 0 ≤ i2806.toInt → i2806.toInt ≤ 999 → -1 ≤ i2807.toInt → i2807.toInt ≤ 59 → (i2807.toInt + 1).toNat < mz → WP g mX10_early 39 [(0, .ref (ad g 0)), (1, .int c), (2, .int dd), (3, .int da), (4, .int i2806), (5, .int i2807)] [] I J R (fun r I' J' R' => (I' = I ∧ J' = J ∧ R' = R) ∧ ∃ v : Int32, r = some (.int v)) := by
          intro mz
          induction mz with
          | zero =>
            intro i2806 i2807 ai2806 bi2806 ai2807 bi2807 hmlp39_2807
            exact absurd hmlp39_2807 (Nat.not_lt_zero _)
          | succ mz ihlp39_2807 =>
            intro i2806 i2807 ai2806 bi2806 ai2807 bi2807 hmlp39_2807
            refine WP_iload dX10_early_39 rfl ?_
            refine WQ_if_lt 78 dX10_early_41 rfl (fun c2808 => ?_) (fun c2808 => ?_)
            · refine WP_iload dX10_early_78 rfl ?_
              exact WP_iret dX10_early_80 rfl ⟨⟨rfl, rfl, rfl⟩, _, rfl⟩
            · refine WP_aload_n dX10_early_44 rfl ?_
              refine WP_getr dX10_early_45 fX10_33 rfl (lyx_is hy 0 10 rfl) (rfx hr 0 2 5 (by decide)) ?_
              refine WP_iload dX10_early_48 rfl ?_
              refine WP_iload_n dX10_early_50 rfl ?_
              refine WP_iload dX10_early_51 rfl ?_
              refine WQ_iadd dX10_early_53 (by omega) (by omega) (fun v2810 hv2810 => ?_)
              refine WQ_bipush (7) (7) dX10_early_54 rfl rfl (fun v2811 hv2811 => ?_)
              refine WQ_iremk (7) dX10_early_56 hv2811 (by decide) (by omega) (fun v2812 hv2812 => ?_)
              refine WP_callV2 (k := 0) dX10_early_57 ⟨⟨⟨by decide, by decide⟩, zX0_neededAhead⟩, lX10_293, by decide, rfl, vX0_neededAhead.1, vX0_neededAhead.2⟩ (lyx_is hy 5 0 rfl) (sx_neededAhead hy hr hI i2806 v2812 (by omega) (by omega) (by omega) (by omega)) (Nat.le_of_ble_eq_true rfl) ?_
              intro r Ia Ja Ra hq
              obtain ⟨⟨ea, eb, ec⟩, v2813, rfl, av2813, bv2813⟩ := hq
              show WP _ _ _ _ (.int _ :: _) _ _ _ _
              rw [ea, eb, ec]
              clear ea eb ec Ia Ja Ra
              refine WP_istore (ls' := [(0, _), (1, _), (2, _), (3, _), (4, _), (5, _)]) dX10_early_60 (by decide) rfl ?_
              refine WP_iload dX10_early_62 rfl ?_
              refine WQ_sipush (999) (999) dX10_early_64 rfl rfl (fun v2814 hv2814 => ?_)
              refine WQ_icmp_le 72 dX10_early_67 rfl (fun c2814 => ?_) (fun c2814 => ?_)
              · refine WP_iinc (ls' := [(0, _), (1, _), (2, _), (3, _), (4, _), (5, _)]) dX10_early_72 rfl (by decide) rfl ?_
                have hv2816 : (i2807 + Int32.ofInt (-1)).toInt = i2807.toInt + (-1) := ia_n rfl (by omega) (by omega)
                generalize i2807 + Int32.ofInt (-1) = v2816 at hv2816 ⊢
                refine WP_goto 39 dX10_early_75 rfl ?_
                exact WP_sub (fc rfl (fc rfl (fc rfl (fc rfl (fc rfl (fc rfl fn)))))) (ihlp39_2807 v2813 v2816 (by omega) (by omega) (by omega) (by omega) (by omega))
              · refine WQ_iconst (-1) (-1) dX10_early_70 rfl rfl (fun v2817 hv2817 => ?_)
                exact WP_iret dX10_early_71 rfl ⟨⟨rfl, rfl, rfl⟩, _, rfl⟩
        exact WP_sub (fc rfl (fc rfl (fc rfl (fc rfl (fc rfl (fc rfl fn)))))) (lp39_2807 _ c v2805 (by omega) (by omega) (by omega) (by omega) (Nat.lt_succ_self _))
      · refine WQ_bipush (-2) (-2) dX10_early_28 rfl rfl (fun v2818 hv2818 => ?_)
        exact WP_iret dX10_early_30 rfl ⟨⟨rfl, rfl, rfl⟩, _, rfl⟩
set_option maxHeartbeats 4000000 in
set_option maxRecDepth 100000 in
theorem sx_toldOfSort_6 {g : GG} {n : Int} {L : Int32} (hy : LyX g)  {I : pI} {J : pJ} {R : pR} (hr : RfX g R) (hI : XI g n L I) (ro : Int32) (so : Int32) (so_lo : 0 ≤ so.toInt) (so_hi : so.toInt ≤ 3) : SP g mX10_toldOfSort [.ref (ad g 6), .int ro, .int so] I J R (fun r I' J' R' => (I' = I ∧ J' = J ∧ R' = R) ∧ ∃ v : Int32, r = some (.int v)) := by
  refine SP_of ⟨by decide, rfl⟩ (Nat.le_of_ble_eq_true rfl) ?_
  have e2819 : I (ad g 1) 1 = L := hI.2
  have b2820 := BT_get hI.1 1 1 2 (0) (0) (900) (by decide) 1 (by decide) (by decide)
  rw [e2819] at b2820
  refine WP_iload_n dX10_toldOfSort_0 rfl ?_
  refine WP_tab 60 dX10_toldOfSort_1 rfl rfl (fun c2820 => ?_) (fun j off c2820 hj => ?_) (by decide)
  · refine WQ_iconst (-1) (-1) dX10_toldOfSort_60 rfl rfl (fun v2822 hv2822 => ?_)
    exact WP_iret dX10_toldOfSort_61 rfl ⟨⟨rfl, rfl, rfl⟩, _, rfl⟩
  · have hlt : j < 4 := by have := (Array.getElem?_eq_some_iff.mp hj).1; simpa using this
    have hcs : (j = 0 ∧ off = 31) ∨ (j = 1 ∧ off = 38) ∨ (j = 2 ∧ off = 45) ∨ (j = 3 ∧ off = 52) := by
      match j, hlt, hj with
      | 0, _, hj => exact Or.inl ⟨rfl, (Option.some.inj hj).symm⟩
      | 1, _, hj => exact Or.inr (Or.inl ⟨rfl, (Option.some.inj hj).symm⟩)
      | 2, _, hj => exact Or.inr (Or.inr (Or.inl ⟨rfl, (Option.some.inj hj).symm⟩))
      | 3, _, hj => exact Or.inr (Or.inr (Or.inr (⟨rfl, (Option.some.inj hj).symm⟩)))
    clear hj hlt
    rcases hcs with ⟨rfl, rfl⟩ | ⟨rfl, rfl⟩ | ⟨rfl, rfl⟩ | ⟨rfl, rfl⟩
    · show WP _ _ 32 _ _ _ _ _ _
      refine WP_aload_n dX10_toldOfSort_32 rfl ?_
      refine WP_getr dX10_toldOfSort_33 fX10_140 rfl (lyx_is hy 6 7 rfl) (rfx hr 6 6 8 (by decide)) ?_
      refine WP_iload_n dX10_toldOfSort_36 rfl ?_
      refine WQ_iald dX10_toldOfSort_37 (lyx_is hy 8 13 rfl) (lyx_n hy 8 4 rfl) (by omega) (by omega) (fun q hq => BT_get hI.1 8 0 4 (0) (0) (99) (by decide) q (Nat.zero_le _) hq) (fun v2823 av2823 bv2823 ev2823 => ?_)
      clear ev2823
      exact WP_iret dX10_toldOfSort_38 rfl ⟨⟨rfl, rfl, rfl⟩, _, rfl⟩
    · show WP _ _ 39 _ _ _ _ _ _
      refine WP_aload_n dX10_toldOfSort_39 rfl ?_
      refine WP_getr dX10_toldOfSort_40 fX10_143 rfl (lyx_is hy 6 7 rfl) (rfx hr 6 7 9 (by decide)) ?_
      refine WP_iload_n dX10_toldOfSort_43 rfl ?_
      refine WQ_iald dX10_toldOfSort_44 (lyx_is hy 9 13 rfl) (lyx_n hy 9 4 rfl) (by omega) (by omega) (fun q hq => BT_get hI.1 9 0 4 (0) (0) (1000) (by decide) q (Nat.zero_le _) hq) (fun v2824 av2824 bv2824 ev2824 => ?_)
      clear ev2824
      exact WP_iret dX10_toldOfSort_45 rfl ⟨⟨rfl, rfl, rfl⟩, _, rfl⟩
    · show WP _ _ 46 _ _ _ _ _ _
      refine WP_aload_n dX10_toldOfSort_46 rfl ?_
      refine WP_getr dX10_toldOfSort_47 fX10_146 rfl (lyx_is hy 6 7 rfl) (rfx hr 6 8 10 (by decide)) ?_
      refine WP_iload_n dX10_toldOfSort_50 rfl ?_
      refine WQ_iald dX10_toldOfSort_51 (lyx_is hy 10 13 rfl) (lyx_n hy 10 4 rfl) (by omega) (by omega) (fun q hq => BT_get hI.1 10 0 4 (0) (0) (60) (by decide) q (Nat.zero_le _) hq) (fun v2825 av2825 bv2825 ev2825 => ?_)
      clear ev2825
      exact WP_iret dX10_toldOfSort_52 rfl ⟨⟨rfl, rfl, rfl⟩, _, rfl⟩
    · show WP _ _ 53 _ _ _ _ _ _
      refine WP_aload_n dX10_toldOfSort_53 rfl ?_
      refine WP_getr dX10_toldOfSort_54 fX10_149 rfl (lyx_is hy 6 7 rfl) (rfx hr 6 9 11 (by decide)) ?_
      refine WP_iload_n dX10_toldOfSort_57 rfl ?_
      refine WQ_ialdu dX10_toldOfSort_58 (lyx_is hy 11 13 rfl) (lyx_n hy 11 4 rfl) (by omega) (by omega) (fun v2826 => ?_)
      exact WP_iret dX10_toldOfSort_59 rfl ⟨⟨rfl, rfl, rfl⟩, _, rfl⟩
set_option maxHeartbeats 4000000 in
set_option maxRecDepth 100000 in
theorem sx_toldOfSort_27 {g : GG} {n : Int} {L : Int32} (hy : LyX g)  {I : pI} {J : pJ} {R : pR} (hr : RfX g R) (hI : XI g n L I) (ro : Int32) (so : Int32) (so_lo : 0 ≤ so.toInt) (so_hi : so.toInt ≤ 3) : SP g mX10_toldOfSort [.ref (ad g 27), .int ro, .int so] I J R (fun r I' J' R' => (I' = I ∧ J' = J ∧ R' = R) ∧ ∃ v : Int32, r = some (.int v)) := by
  refine SP_of ⟨by decide, rfl⟩ (Nat.le_of_ble_eq_true rfl) ?_
  have e2827 : I (ad g 1) 1 = L := hI.2
  have b2828 := BT_get hI.1 1 1 2 (0) (0) (900) (by decide) 1 (by decide) (by decide)
  rw [e2827] at b2828
  refine WP_iload_n dX10_toldOfSort_0 rfl ?_
  refine WP_tab 60 dX10_toldOfSort_1 rfl rfl (fun c2828 => ?_) (fun j off c2828 hj => ?_) (by decide)
  · refine WQ_iconst (-1) (-1) dX10_toldOfSort_60 rfl rfl (fun v2830 hv2830 => ?_)
    exact WP_iret dX10_toldOfSort_61 rfl ⟨⟨rfl, rfl, rfl⟩, _, rfl⟩
  · have hlt : j < 4 := by have := (Array.getElem?_eq_some_iff.mp hj).1; simpa using this
    have hcs : (j = 0 ∧ off = 31) ∨ (j = 1 ∧ off = 38) ∨ (j = 2 ∧ off = 45) ∨ (j = 3 ∧ off = 52) := by
      match j, hlt, hj with
      | 0, _, hj => exact Or.inl ⟨rfl, (Option.some.inj hj).symm⟩
      | 1, _, hj => exact Or.inr (Or.inl ⟨rfl, (Option.some.inj hj).symm⟩)
      | 2, _, hj => exact Or.inr (Or.inr (Or.inl ⟨rfl, (Option.some.inj hj).symm⟩))
      | 3, _, hj => exact Or.inr (Or.inr (Or.inr (⟨rfl, (Option.some.inj hj).symm⟩)))
    clear hj hlt
    rcases hcs with ⟨rfl, rfl⟩ | ⟨rfl, rfl⟩ | ⟨rfl, rfl⟩ | ⟨rfl, rfl⟩
    · show WP _ _ 32 _ _ _ _ _ _
      refine WP_aload_n dX10_toldOfSort_32 rfl ?_
      refine WP_getr dX10_toldOfSort_33 fX10_140 rfl (lyx_is hy 27 7 rfl) (rfx hr 27 6 29 (by decide)) ?_
      refine WP_iload_n dX10_toldOfSort_36 rfl ?_
      refine WQ_iald dX10_toldOfSort_37 (lyx_is hy 29 13 rfl) (lyx_n hy 29 4 rfl) (by omega) (by omega) (fun q hq => BT_get hI.1 29 0 4 (0) (0) (99) (by decide) q (Nat.zero_le _) hq) (fun v2831 av2831 bv2831 ev2831 => ?_)
      clear ev2831
      exact WP_iret dX10_toldOfSort_38 rfl ⟨⟨rfl, rfl, rfl⟩, _, rfl⟩
    · show WP _ _ 39 _ _ _ _ _ _
      refine WP_aload_n dX10_toldOfSort_39 rfl ?_
      refine WP_getr dX10_toldOfSort_40 fX10_143 rfl (lyx_is hy 27 7 rfl) (rfx hr 27 7 30 (by decide)) ?_
      refine WP_iload_n dX10_toldOfSort_43 rfl ?_
      refine WQ_iald dX10_toldOfSort_44 (lyx_is hy 30 13 rfl) (lyx_n hy 30 4 rfl) (by omega) (by omega) (fun q hq => BT_get hI.1 30 0 4 (0) (0) (1000) (by decide) q (Nat.zero_le _) hq) (fun v2832 av2832 bv2832 ev2832 => ?_)
      clear ev2832
      exact WP_iret dX10_toldOfSort_45 rfl ⟨⟨rfl, rfl, rfl⟩, _, rfl⟩
    · show WP _ _ 46 _ _ _ _ _ _
      refine WP_aload_n dX10_toldOfSort_46 rfl ?_
      refine WP_getr dX10_toldOfSort_47 fX10_146 rfl (lyx_is hy 27 7 rfl) (rfx hr 27 8 31 (by decide)) ?_
      refine WP_iload_n dX10_toldOfSort_50 rfl ?_
      refine WQ_iald dX10_toldOfSort_51 (lyx_is hy 31 13 rfl) (lyx_n hy 31 4 rfl) (by omega) (by omega) (fun q hq => BT_get hI.1 31 0 4 (0) (0) (60) (by decide) q (Nat.zero_le _) hq) (fun v2833 av2833 bv2833 ev2833 => ?_)
      clear ev2833
      exact WP_iret dX10_toldOfSort_52 rfl ⟨⟨rfl, rfl, rfl⟩, _, rfl⟩
    · show WP _ _ 53 _ _ _ _ _ _
      refine WP_aload_n dX10_toldOfSort_53 rfl ?_
      refine WP_getr dX10_toldOfSort_54 fX10_149 rfl (lyx_is hy 27 7 rfl) (rfx hr 27 9 32 (by decide)) ?_
      refine WP_iload_n dX10_toldOfSort_57 rfl ?_
      refine WQ_ialdu dX10_toldOfSort_58 (lyx_is hy 32 13 rfl) (lyx_n hy 32 4 rfl) (by omega) (by omega) (fun v2834 => ?_)
      exact WP_iret dX10_toldOfSort_59 rfl ⟨⟨rfl, rfl, rfl⟩, _, rfl⟩
set_option maxHeartbeats 4000000 in
set_option maxRecDepth 100000 in
theorem sx_isSort_6 {g : GG} {n : Int} {L : Int32} (hy : LyX g)  {I : pI} {J : pJ} {R : pR} (hr : RfX g R) (hT : R (ad g 5) 0 = some (ad g 6)) (hI : XI g n L I) (a : Int32)  : SP g mX10_isSort [.ref (ad g 0), .int a] I J R (fun r I' J' R' => (I' = I ∧ J' = J ∧ R' = R) ∧ ∃ v : Int32, r = some (.int v) ∧ 0 ≤ v.toInt ∧ v.toInt ≤ 1 ∧ (v.toInt = 1 → 0 ≤ a.toInt ∧ a.toInt ≤ 3)) := by
  refine SP_of ⟨by decide, rfl⟩ (Nat.le_of_ble_eq_true rfl) ?_
  have e2835 : I (ad g 1) 1 = L := hI.2
  have b2836 := BT_get hI.1 1 1 2 (0) (0) (900) (by decide) 1 (by decide) (by decide)
  rw [e2835] at b2836
  refine WP_iload_n dX10_isSort_0 rfl ?_
  refine WQ_if_lt 22 dX10_isSort_1 rfl (fun c2836 => ?_) (fun c2836 => ?_)
  · refine WQ_iconst (0) (0) dX10_isSort_22 rfl rfl (fun v2838 hv2838 => ?_)
    exact WP_zret dX10_isSort_23 rfl (nar_z (by omega)) ⟨⟨rfl, rfl, rfl⟩, _, rfl, by omega, by omega, by omega⟩
  · refine WP_iload_n dX10_isSort_4 rfl ?_
    refine WP_aload_n dX10_isSort_5 rfl ?_
    refine WP_getr dX10_isSort_6 fX10_33 rfl (lyx_is hy 0 10 rfl) (rfx hr 0 2 5 (by decide)) ?_
    refine WP_getr dX10_isSort_9 fX10_102 rfl (lyx_is hy 5 0 rfl) hT ?_
    refine WQ_geti dX10_isSort_12 fX10_114 rfl (lyx_is hy 6 7 rfl) (BT_get hI.1 6 1 2 (0) (0) (4) (by decide) 1 (by decide) (by decide)) (fun v2839 ev2839 av2839 bv2839 => ?_)
    refine WQ_icmp_ge 22 dX10_isSort_15 rfl (fun c2839 => ?_) (fun c2839 => ?_)
    · refine WQ_iconst (0) (0) dX10_isSort_22 rfl rfl (fun v2841 hv2841 => ?_)
      exact WP_zret dX10_isSort_23 rfl (nar_z (by omega)) ⟨⟨rfl, rfl, rfl⟩, _, rfl, by omega, by omega, by omega⟩
    · refine WQ_iconst (1) (1) dX10_isSort_18 rfl rfl (fun v2842 hv2842 => ?_)
      refine WP_goto 23 dX10_isSort_19 rfl ?_
      exact WP_zret dX10_isSort_23 rfl (nar_z (by omega)) ⟨⟨rfl, rfl, rfl⟩, _, rfl, by omega, by omega, by omega⟩
set_option maxHeartbeats 4000000 in
set_option maxRecDepth 100000 in
theorem sx_isThing_6 {g : GG} {n : Int} {L : Int32} (hy : LyX g)  {I : pI} {J : pJ} {R : pR} (hr : RfX g R) (hT : R (ad g 5) 0 = some (ad g 6)) (hI : XI g n L I) (a : Int32)  : SP g mX10_isThing [.ref (ad g 0), .int a] I J R (fun r I' J' R' => (I' = I ∧ J' = J ∧ R' = R) ∧ ∃ v : Int32, r = some (.int v) ∧ 0 ≤ v.toInt ∧ v.toInt ≤ 1 ∧ (v.toInt = 1 → 0 ≤ a.toInt ∧ a.toInt ≤ 2)) := by
  refine SP_of ⟨by decide, rfl⟩ (Nat.le_of_ble_eq_true rfl) ?_
  have e2843 : I (ad g 1) 1 = L := hI.2
  have b2844 := BT_get hI.1 1 1 2 (0) (0) (900) (by decide) 1 (by decide) (by decide)
  rw [e2843] at b2844
  refine WP_iload_n dX10_isThing_0 rfl ?_
  refine WQ_if_lt 22 dX10_isThing_1 rfl (fun c2844 => ?_) (fun c2844 => ?_)
  · refine WQ_iconst (0) (0) dX10_isThing_22 rfl rfl (fun v2846 hv2846 => ?_)
    exact WP_zret dX10_isThing_23 rfl (nar_z (by omega)) ⟨⟨rfl, rfl, rfl⟩, _, rfl, by omega, by omega, by omega⟩
  · refine WP_iload_n dX10_isThing_4 rfl ?_
    refine WP_aload_n dX10_isThing_5 rfl ?_
    refine WP_getr dX10_isThing_6 fX10_33 rfl (lyx_is hy 0 10 rfl) (rfx hr 0 2 5 (by decide)) ?_
    refine WP_getr dX10_isThing_9 fX10_102 rfl (lyx_is hy 5 0 rfl) hT ?_
    refine WQ_geti dX10_isThing_12 fX10_117 rfl (lyx_is hy 6 7 rfl) (BT_get hI.1 6 2 3 (0) (0) (3) (by decide) 2 (by decide) (by decide)) (fun v2847 ev2847 av2847 bv2847 => ?_)
    refine WQ_icmp_ge 22 dX10_isThing_15 rfl (fun c2847 => ?_) (fun c2847 => ?_)
    · refine WQ_iconst (0) (0) dX10_isThing_22 rfl rfl (fun v2849 hv2849 => ?_)
      exact WP_zret dX10_isThing_23 rfl (nar_z (by omega)) ⟨⟨rfl, rfl, rfl⟩, _, rfl, by omega, by omega, by omega⟩
    · refine WQ_iconst (1) (1) dX10_isThing_18 rfl rfl (fun v2850 hv2850 => ?_)
      refine WP_goto 23 dX10_isThing_19 rfl ?_
      exact WP_zret dX10_isThing_23 rfl (nar_z (by omega)) ⟨⟨rfl, rfl, rfl⟩, _, rfl, by omega, by omega, by omega⟩
set_option maxHeartbeats 4000000 in
set_option maxRecDepth 100000 in
theorem sx_isPerson_6 {g : GG} {n : Int} {L : Int32} (hy : LyX g)  {I : pI} {J : pJ} {R : pR} (hr : RfX g R) (hT : R (ad g 5) 0 = some (ad g 6)) (hI : XI g n L I) (a : Int32) (b : Int32) (c : Int32) (e : Int32)  : SP g mX10_isPerson [.ref (ad g 0), .int a, .int b, .int c, .int e] I J R (fun r I' J' R' => (I' = I ∧ J' = J ∧ R' = R) ∧ ∃ v : Int32, r = some (.int v) ∧ 0 ≤ v.toInt ∧ v.toInt ≤ 1 ∧ (v.toInt = 1 → (0 ≤ a.toInt ∧ a.toInt ≤ 3) ∧ (0 ≤ b.toInt ∧ b.toInt ≤ 6) ∧ (0 ≤ c.toInt ∧ c.toInt ≤ 60) ∧ (0 ≤ e.toInt ∧ e.toInt ≤ 5))) := by
  refine SP_of ⟨by decide, rfl⟩ (Nat.le_of_ble_eq_true rfl) ?_
  have e2851 : I (ad g 1) 1 = L := hI.2
  have b2852 := BT_get hI.1 1 1 2 (0) (0) (900) (by decide) 1 (by decide) (by decide)
  rw [e2851] at b2852
  refine WP_aload_n dX10_isPerson_0 rfl ?_
  refine WP_iload_n dX10_isPerson_1 rfl ?_
  refine WP_callV1 (k := 10) dX10_isPerson_2 ⟨⟨⟨by decide, by decide⟩, zX10_isSort⟩, lX10_152, by decide, rfl, vX10_isSort.1, vX10_isSort.2⟩ (lyx_is hy 0 10 rfl) (sx_isSort_6 hy hr hT hI a ) (Nat.le_of_ble_eq_true rfl) ?_
  intro r Ia Ja Ra hq
  obtain ⟨⟨ea, eb, ec⟩, v2853, rfl, av2853, bv2853, cv2853⟩ := hq
  show WP _ _ _ _ (.int _ :: _) _ _ _ _
  rw [ea, eb, ec]
  clear ea eb ec Ia Ja Ra
  refine WQ_if_eq 28 dX10_isPerson_5 rfl (fun c2853 => ?_) (fun c2853 => ?_)
  · refine WQ_iconst (0) (0) dX10_isPerson_28 rfl rfl (fun v2855 hv2855 => ?_)
    exact WP_zret dX10_isPerson_29 rfl (nar_z (by omega)) ⟨⟨rfl, rfl, rfl⟩, _, rfl, by omega, by omega, by omega⟩
  · refine WP_iload_n dX10_isPerson_8 rfl ?_
    refine WP_callS1 dX10_isPerson_9 ⟨⟨⟨by decide, by decide⟩, zX10_isDay⟩, lX10_156, tX10_isDay⟩ (sx_isDay hy hr hI b ) (Nat.le_of_ble_eq_true rfl) ?_
    intro r Ia Ja Ra hq
    obtain ⟨⟨ea, eb, ec⟩, v2856, rfl, av2856, bv2856, cv2856⟩ := hq
    show WP _ _ _ _ (.int _ :: _) _ _ _ _
    rw [ea, eb, ec]
    clear ea eb ec Ia Ja Ra
    refine WQ_if_eq 28 dX10_isPerson_12 rfl (fun c2856 => ?_) (fun c2856 => ?_)
    · refine WQ_iconst (0) (0) dX10_isPerson_28 rfl rfl (fun v2858 hv2858 => ?_)
      exact WP_zret dX10_isPerson_29 rfl (nar_z (by omega)) ⟨⟨rfl, rfl, rfl⟩, _, rfl, by omega, by omega, by omega⟩
    · refine WP_iload_n dX10_isPerson_15 rfl ?_
      refine WP_iload dX10_isPerson_16 rfl ?_
      refine WP_callS2 dX10_isPerson_18 ⟨⟨⟨by decide, by decide⟩, zX10_isHeld⟩, lX10_180, tX10_isHeld⟩ (sx_isHeld hy hr hI c e  ) (Nat.le_of_ble_eq_true rfl) ?_
      intro r Ia Ja Ra hq
      obtain ⟨⟨ea, eb, ec⟩, v2859, rfl, av2859, bv2859, cv2859⟩ := hq
      show WP _ _ _ _ (.int _ :: _) _ _ _ _
      rw [ea, eb, ec]
      clear ea eb ec Ia Ja Ra
      refine WQ_if_eq 28 dX10_isPerson_21 rfl (fun c2859 => ?_) (fun c2859 => ?_)
      · refine WQ_iconst (0) (0) dX10_isPerson_28 rfl rfl (fun v2861 hv2861 => ?_)
        exact WP_zret dX10_isPerson_29 rfl (nar_z (by omega)) ⟨⟨rfl, rfl, rfl⟩, _, rfl, by omega, by omega, by omega⟩
      · refine WQ_iconst (1) (1) dX10_isPerson_24 rfl rfl (fun v2862 hv2862 => ?_)
        refine WP_goto 29 dX10_isPerson_25 rfl ?_
        exact WP_zret dX10_isPerson_29 rfl (nar_z (by omega)) ⟨⟨rfl, rfl, rfl⟩, _, rfl, by omega, by omega, by omega⟩
set_option maxHeartbeats 4000000 in
set_option maxRecDepth 100000 in
theorem sx_told_6 {g : GG} {n : Int} {L : Int32} (hy : LyX g)  {I : pI} {J : pJ} {R : pR} (hr : RfX g R) (hT : R (ad g 5) 0 = some (ad g 6)) (hI : XI g n L I) (a : Int32)  : SP g mX10_told [.ref (ad g 0), .int a] I J R (fun r I' J' R' => (I' = I ∧ J' = J ∧ R' = R) ∧ ∃ v : Int32, r = some (.int v)) := by
  refine SP_of ⟨by decide, rfl⟩ (Nat.le_of_ble_eq_true rfl) ?_
  have e2863 : I (ad g 1) 1 = L := hI.2
  have b2864 := BT_get hI.1 1 1 2 (0) (0) (900) (by decide) 1 (by decide) (by decide)
  rw [e2863] at b2864
  refine WP_aload_n dX10_told_0 rfl ?_
  refine WP_getr dX10_told_1 fX10_33 rfl (lyx_is hy 0 10 rfl) (rfx hr 0 2 5 (by decide)) ?_
  refine WP_getr dX10_told_4 fX10_102 rfl (lyx_is hy 5 0 rfl) hT ?_
  refine WP_astore_n (ls' := [(0, _), (1, _), (2, _)]) dX10_told_7 (by decide) rfl ?_
  refine WP_iload_n dX10_told_8 rfl ?_
  refine WP_tab 60 dX10_told_9 rfl rfl (fun c2864 => ?_) (fun j off c2864 hj => ?_) (by decide)
  · refine WP_iload_n dX10_told_60 rfl ?_
    refine WQ_bipush (10) (10) dX10_told_61 rfl rfl (fun v2866 hv2866 => ?_)
    refine WQ_idivu dX10_told_63 (by omega) (fun v2867 => ?_)
    refine WP_istore_n (ls' := [(0, _), (1, _), (2, _), (3, _)]) dX10_told_64 (by decide) rfl ?_
    refine WP_iload_n dX10_told_65 rfl ?_
    refine WQ_bipush (10) (10) dX10_told_66 rfl rfl (fun v2868 hv2868 => ?_)
    refine WQ_iremi (10) dX10_told_68 hv2868 (by decide) (fun v2869 hv2869 => ?_)
    refine WP_istore (ls' := [(0, _), (1, _), (2, _), (3, _), (4, _)]) dX10_told_69 (by decide) rfl ?_
    refine WP_iload dX10_told_71 rfl ?_
    refine WQ_if_ge 78 dX10_told_73 rfl (fun c2869 => ?_) (fun c2869 => ?_)
    · refine WP_iload_n dX10_told_78 rfl ?_
      refine WQ_iconst (1) (1) dX10_told_79 rfl rfl (fun v2871 hv2871 => ?_)
      refine WQ_icmp_ne 102 dX10_told_80 rfl (fun c2871 => ?_) (fun c2871 => ?_)
      · refine WP_iload_n dX10_told_102 rfl ?_
        refine WQ_bipush (6) (6) dX10_told_103 rfl rfl (fun v2873 hv2873 => ?_)
        refine WQ_icmp_eq 114 dX10_told_105 rfl (fun c2873 => ?_) (fun c2873 => ?_)
        · refine WP_iload dX10_told_114 rfl ?_
          refine WP_aload_n dX10_told_116 rfl ?_
          refine WQ_geti dX10_told_117 fX10_117 rfl (lyx_is hy 6 7 rfl) (BT_get hI.1 6 2 3 (0) (0) (3) (by decide) 2 (by decide) (by decide)) (fun v2875 ev2875 av2875 bv2875 => ?_)
          have jn150_2880 : ∀ (v2880 : Int32), -1 ≤ v2880.toInt → v2880.toInt ≤ 1000 → WP g mX10_told 150 [(0, .ref (ad g 0)), (1, .int a), (2, .ref (ad g 6)), (3, .int v2867), (4, .int v2869)] [.int v2880] I J R (fun r I' J' R' => (I' = I ∧ J' = J ∧ R' = R) ∧ ∃ v : Int32, r = some (.int v)) := by
            intro v2880 av2880 bv2880
            exact WP_iret dX10_told_150 rfl ⟨⟨rfl, rfl, rfl⟩, _, rfl⟩
          refine WQ_icmp_ge 149 dX10_told_120 rfl (fun c2881 => ?_) (fun c2881 => ?_)
          · refine WQ_iconst (-1) (-1) dX10_told_149 rfl rfl (fun v2883 hv2883 => ?_)
            exact WP_sub (fc rfl (fc rfl (fc rfl (fc rfl (fc rfl fn))))) (jn150_2880 v2883 (by omega) (by omega))
          · refine WP_iload_n dX10_told_123 rfl ?_
            refine WQ_bipush (6) (6) dX10_told_124 rfl rfl (fun v2884 hv2884 => ?_)
            refine WQ_icmp_ne 139 dX10_told_126 rfl (fun c2884 => False.elim (by omega)) (fun c2884 => ?_)
            refine WP_aload_n dX10_told_129 rfl ?_
            refine WP_getr dX10_told_130 fX10_130 rfl (lyx_is hy 6 7 rfl) (rfx hr 6 14 16 (by decide)) ?_
            refine WP_iload dX10_told_133 rfl ?_
            refine WQ_iald dX10_told_135 (lyx_is hy 16 13 rfl) (lyx_n hy 16 3 rfl) (by omega) (by omega) (fun q hq => BT_get hI.1 16 0 3 (0) (0) (1000) (by decide) q (Nat.zero_le _) hq) (fun v2886 av2886 bv2886 ev2886 => ?_)
            clear ev2886
            refine WP_goto 150 dX10_told_136 rfl ?_
            exact WP_sub (fc rfl (fc rfl (fc rfl (fc rfl (fc rfl fn))))) (jn150_2880 v2886 (by omega) (by omega))
        · refine WP_iload_n dX10_told_108 rfl ?_
          refine WQ_bipush (7) (7) dX10_told_109 rfl rfl (fun v2887 hv2887 => ?_)
          refine WQ_icmp_ne 151 dX10_told_111 rfl (fun c2887 => ?_) (fun c2887 => ?_)
          · refine WP_iload dX10_told_151 rfl ?_
            refine WP_aload_n dX10_told_153 rfl ?_
            refine WQ_geti dX10_told_154 fX10_114 rfl (lyx_is hy 6 7 rfl) (BT_get hI.1 6 1 2 (0) (0) (4) (by decide) 1 (by decide) (by decide)) (fun v2889 ev2889 av2889 bv2889 => ?_)
            refine WQ_icmp_ge 170 dX10_told_157 rfl (fun c2889 => ?_) (fun c2889 => ?_)
            · refine WQ_iconst (-1) (-1) dX10_told_170 rfl rfl (fun v2891 hv2891 => ?_)
              exact WP_iret dX10_told_171 rfl ⟨⟨rfl, rfl, rfl⟩, _, rfl⟩
            · refine WP_aload_n dX10_told_160 rfl ?_
              refine WP_iload_n dX10_told_161 rfl ?_
              refine WP_iload dX10_told_162 rfl ?_
              refine WP_callS3 dX10_told_164 ⟨⟨⟨by decide, by decide⟩, zX10_toldOfSort⟩, lX10_136, tX10_toldOfSort⟩ (sx_toldOfSort_6 hy hr hI v2867 v2869  (by omega) (by omega)) (Nat.le_of_ble_eq_true rfl) ?_
              intro r Ia Ja Ra hq
              obtain ⟨⟨ea, eb, ec⟩, v2892, rfl⟩ := hq
              show WP _ _ _ _ (.int _ :: _) _ _ _ _
              rw [ea, eb, ec]
              clear ea eb ec Ia Ja Ra
              refine WP_goto 171 dX10_told_167 rfl ?_
              exact WP_iret dX10_told_171 rfl ⟨⟨rfl, rfl, rfl⟩, _, rfl⟩
          · refine WP_iload dX10_told_114 rfl ?_
            refine WP_aload_n dX10_told_116 rfl ?_
            refine WQ_geti dX10_told_117 fX10_117 rfl (lyx_is hy 6 7 rfl) (BT_get hI.1 6 2 3 (0) (0) (3) (by decide) 2 (by decide) (by decide)) (fun v2893 ev2893 av2893 bv2893 => ?_)
            have jn150_2898 : ∀ (v2898 : Int32), -1 ≤ v2898.toInt → v2898.toInt ≤ 9 → WP g mX10_told 150 [(0, .ref (ad g 0)), (1, .int a), (2, .ref (ad g 6)), (3, .int v2867), (4, .int v2869)] [.int v2898] I J R (fun r I' J' R' => (I' = I ∧ J' = J ∧ R' = R) ∧ ∃ v : Int32, r = some (.int v)) := by
              intro v2898 av2898 bv2898
              exact WP_iret dX10_told_150 rfl ⟨⟨rfl, rfl, rfl⟩, _, rfl⟩
            refine WQ_icmp_ge 149 dX10_told_120 rfl (fun c2899 => ?_) (fun c2899 => ?_)
            · refine WQ_iconst (-1) (-1) dX10_told_149 rfl rfl (fun v2901 hv2901 => ?_)
              exact WP_sub (fc rfl (fc rfl (fc rfl (fc rfl (fc rfl fn))))) (jn150_2898 v2901 (by omega) (by omega))
            · refine WP_iload_n dX10_told_123 rfl ?_
              refine WQ_bipush (6) (6) dX10_told_124 rfl rfl (fun v2902 hv2902 => ?_)
              refine WQ_icmp_ne 139 dX10_told_126 rfl (fun c2902 => ?_) (fun c2902 => False.elim (by omega))
              refine WP_aload_n dX10_told_139 rfl ?_
              refine WP_getr dX10_told_140 fX10_133 rfl (lyx_is hy 6 7 rfl) (rfx hr 6 15 17 (by decide)) ?_
              refine WP_iload dX10_told_143 rfl ?_
              refine WQ_iald dX10_told_145 (lyx_is hy 17 13 rfl) (lyx_n hy 17 3 rfl) (by omega) (by omega) (fun q hq => BT_get hI.1 17 0 3 (0) (0) (9) (by decide) q (Nat.zero_le _) hq) (fun v2904 av2904 bv2904 ev2904 => ?_)
              clear ev2904
              refine WP_goto 150 dX10_told_146 rfl ?_
              exact WP_sub (fc rfl (fc rfl (fc rfl (fc rfl (fc rfl fn))))) (jn150_2898 v2904 (by omega) (by omega))
      · refine WP_iload dX10_told_83 rfl ?_
        refine WQ_bipush (7) (7) dX10_told_85 rfl rfl (fun v2905 hv2905 => ?_)
        have jn101_2908 : ∀ (v2908 : Int32), -1 ≤ v2908.toInt → v2908.toInt ≤ 900 → WP g mX10_told 101 [(0, .ref (ad g 0)), (1, .int a), (2, .ref (ad g 6)), (3, .int v2867), (4, .int v2869)] [.int v2908] I J R (fun r I' J' R' => (I' = I ∧ J' = J ∧ R' = R) ∧ ∃ v : Int32, r = some (.int v)) := by
          intro v2908 av2908 bv2908
          exact WP_iret dX10_told_101 rfl ⟨⟨rfl, rfl, rfl⟩, _, rfl⟩
        refine WQ_icmp_ge 100 dX10_told_87 rfl (fun c2909 => ?_) (fun c2909 => ?_)
        · refine WQ_iconst (-1) (-1) dX10_told_100 rfl rfl (fun v2911 hv2911 => ?_)
          exact WP_sub (fc rfl (fc rfl (fc rfl (fc rfl (fc rfl fn))))) (jn101_2908 v2911 (by omega) (by omega))
        · refine WP_aload_n dX10_told_90 rfl ?_
          refine WP_getr dX10_told_91 fX10_126 rfl (lyx_is hy 6 7 rfl) (rfx hr 6 5 7 (by decide)) ?_
          refine WP_iload dX10_told_94 rfl ?_
          refine WQ_iald dX10_told_96 (lyx_is hy 7 13 rfl) (lyx_n hy 7 7 rfl) (by omega) (by omega) (fun q hq => BT_get hI.1 7 0 7 (0) (0) (900) (by decide) q (Nat.zero_le _) hq) (fun v2912 av2912 bv2912 ev2912 => ?_)
          clear ev2912
          refine WP_goto 101 dX10_told_97 rfl ?_
          exact WP_sub (fc rfl (fc rfl (fc rfl (fc rfl (fc rfl fn))))) (jn101_2908 v2912 (by omega) (by omega))
    · refine WQ_iconst (-1) (-1) dX10_told_76 rfl rfl (fun v2913 hv2913 => ?_)
      exact WP_iret dX10_told_77 rfl ⟨⟨rfl, rfl, rfl⟩, _, rfl⟩
  · have hlt : j < 4 := by have := (Array.getElem?_eq_some_iff.mp hj).1; simpa using this
    have hcs : (j = 0 ∧ off = 31) ∨ (j = 1 ∧ off = 36) ∨ (j = 2 ∧ off = 41) ∨ (j = 3 ∧ off = 46) := by
      match j, hlt, hj with
      | 0, _, hj => exact Or.inl ⟨rfl, (Option.some.inj hj).symm⟩
      | 1, _, hj => exact Or.inr (Or.inl ⟨rfl, (Option.some.inj hj).symm⟩)
      | 2, _, hj => exact Or.inr (Or.inr (Or.inl ⟨rfl, (Option.some.inj hj).symm⟩))
      | 3, _, hj => exact Or.inr (Or.inr (Or.inr (⟨rfl, (Option.some.inj hj).symm⟩)))
    clear hj hlt
    rcases hcs with ⟨rfl, rfl⟩ | ⟨rfl, rfl⟩ | ⟨rfl, rfl⟩ | ⟨rfl, rfl⟩
    · show WP _ _ 40 _ _ _ _ _ _
      refine WP_aload_n dX10_told_40 rfl ?_
      refine WQ_geti dX10_told_41 fX10_114 rfl (lyx_is hy 6 7 rfl) (BT_get hI.1 6 1 2 (0) (0) (4) (by decide) 1 (by decide) (by decide)) (fun v2914 ev2914 av2914 bv2914 => ?_)
      exact WP_iret dX10_told_44 rfl ⟨⟨rfl, rfl, rfl⟩, _, rfl⟩
    · show WP _ _ 45 _ _ _ _ _ _
      refine WP_aload_n dX10_told_45 rfl ?_
      refine WQ_geti dX10_told_46 fX10_117 rfl (lyx_is hy 6 7 rfl) (BT_get hI.1 6 2 3 (0) (0) (3) (by decide) 2 (by decide) (by decide)) (fun v2915 ev2915 av2915 bv2915 => ?_)
      exact WP_iret dX10_told_49 rfl ⟨⟨rfl, rfl, rfl⟩, _, rfl⟩
    · show WP _ _ 50 _ _ _ _ _ _
      refine WP_aload_n dX10_told_50 rfl ?_
      refine WQ_geti dX10_told_51 fX10_120 rfl (lyx_is hy 6 7 rfl) (BT_get hI.1 6 3 4 (-1) (0) (3) (by decide) 3 (by decide) (by decide)) (fun v2916 ev2916 av2916 bv2916 => ?_)
      exact WP_iret dX10_told_54 rfl ⟨⟨rfl, rfl, rfl⟩, _, rfl⟩
    · show WP _ _ 55 _ _ _ _ _ _
      refine WP_aload_n dX10_told_55 rfl ?_
      refine WQ_geti dX10_told_56 fX10_123 rfl (lyx_is hy 6 7 rfl) (BT_get hI.1 6 4 5 (-1) (0) (2) (by decide) 4 (by decide) (by decide)) (fun v2917 ev2917 av2917 bv2917 => ?_)
      exact WP_iret dX10_told_59 rfl ⟨⟨rfl, rfl, rfl⟩, _, rfl⟩
set_option maxHeartbeats 4000000 in
set_option maxRecDepth 100000 in
theorem sx_earns_6 {g : GG} {n : Int} {L : Int32} (hy : LyX g)  {I : pI} {J : pJ} {R : pR} (hr : RfX g R) (hT : R (ad g 5) 0 = some (ad g 6)) (hI : XI g n L I) (a : Int32) (b : Int32)  : SP g mX10_earns [.ref (ad g 0), .int a, .int b] I J R (fun r I' J' R' => (I' = I ∧ J' = J ∧ R' = R) ∧ ∃ v : Int32, r = some (.int v)) := by
  refine SP_of ⟨by decide, rfl⟩ (Nat.le_of_ble_eq_true rfl) ?_
  have e2918 : I (ad g 1) 1 = L := hI.2
  have b2919 := BT_get hI.1 1 1 2 (0) (0) (900) (by decide) 1 (by decide) (by decide)
  rw [e2918] at b2919
  refine WP_aload_n dX10_earns_0 rfl ?_
  refine WP_iload_n dX10_earns_1 rfl ?_
  refine WP_callV1 (k := 10) dX10_earns_2 ⟨⟨⟨by decide, by decide⟩, zX10_isSort⟩, lX10_152, by decide, rfl, vX10_isSort.1, vX10_isSort.2⟩ (lyx_is hy 0 10 rfl) (sx_isSort_6 hy hr hT hI a ) (Nat.le_of_ble_eq_true rfl) ?_
  intro r Ia Ja Ra hq
  obtain ⟨⟨ea, eb, ec⟩, v2920, rfl, av2920, bv2920, cv2920⟩ := hq
  show WP _ _ _ _ (.int _ :: _) _ _ _ _
  rw [ea, eb, ec]
  clear ea eb ec Ia Ja Ra
  have jn37_2929 : ∀ (v2929 : Int32), -2 ≤ v2929.toInt → v2929.toInt ≤ 20 → WP g mX10_earns 37 [(0, .ref (ad g 0)), (1, .int a), (2, .int b)] [.int v2929] I J R (fun r I' J' R' => (I' = I ∧ J' = J ∧ R' = R) ∧ ∃ v : Int32, r = some (.int v)) := by
    intro v2929 av2929 bv2929
    exact WP_iret dX10_earns_37 rfl ⟨⟨rfl, rfl, rfl⟩, _, rfl⟩
  refine WQ_if_eq 35 dX10_earns_5 rfl (fun c2930 => ?_) (fun c2930 => ?_)
  · refine WQ_bipush (-2) (-2) dX10_earns_35 rfl rfl (fun v2932 hv2932 => ?_)
    exact WP_sub (fc rfl (fc rfl (fc rfl fn))) (jn37_2929 v2932 (by omega) (by omega))
  · refine WP_iload_n dX10_earns_8 rfl ?_
    refine WP_callS1 dX10_earns_9 ⟨⟨⟨by decide, by decide⟩, zX10_isDay⟩, lX10_156, tX10_isDay⟩ (sx_isDay hy hr hI b ) (Nat.le_of_ble_eq_true rfl) ?_
    intro r Ia Ja Ra hq
    obtain ⟨⟨ea, eb, ec⟩, v2933, rfl, av2933, bv2933, cv2933⟩ := hq
    show WP _ _ _ _ (.int _ :: _) _ _ _ _
    rw [ea, eb, ec]
    clear ea eb ec Ia Ja Ra
    refine WQ_if_eq 35 dX10_earns_12 rfl (fun c2933 => ?_) (fun c2933 => ?_)
    · refine WQ_bipush (-2) (-2) dX10_earns_35 rfl rfl (fun v2935 hv2935 => ?_)
      exact WP_sub (fc rfl (fc rfl (fc rfl fn))) (jn37_2929 v2935 (by omega) (by omega))
    · refine WP_aload_n dX10_earns_15 rfl ?_
      refine WP_getr dX10_earns_16 fX10_33 rfl (lyx_is hy 0 10 rfl) (rfx hr 0 2 5 (by decide)) ?_
      refine WP_getr dX10_earns_19 fX10_102 rfl (lyx_is hy 5 0 rfl) hT ?_
      refine WP_getr dX10_earns_22 fX10_159 rfl (lyx_is hy 6 7 rfl) (rfx hr 6 10 12 (by decide)) ?_
      refine WP_iload_n dX10_earns_25 rfl ?_
      refine WQ_bipush (7) (7) dX10_earns_26 rfl rfl (fun v2936 hv2936 => ?_)
      refine WQ_imulk (7) dX10_earns_28 hv2936 (by omega) (by omega) (fun v2937 hv2937 => ?_)
      refine WP_iload_n dX10_earns_29 rfl ?_
      refine WQ_iadd dX10_earns_30 (by omega) (by omega) (fun v2938 hv2938 => ?_)
      refine WQ_iald dX10_earns_31 (lyx_is hy 12 13 rfl) (lyx_n hy 12 28 rfl) (by omega) (by omega) (fun q hq => BT_get hI.1 12 0 28 (0) (0) (20) (by decide) q (Nat.zero_le _) hq) (fun v2939 av2939 bv2939 ev2939 => ?_)
      clear ev2939
      refine WP_goto 37 dX10_earns_32 rfl ?_
      exact WP_sub (fc rfl (fc rfl (fc rfl fn))) (jn37_2929 v2939 (by omega) (by omega))
set_option maxHeartbeats 4000000 in
set_option maxRecDepth 100000 in
theorem sx_price_6 {g : GG} {n : Int} {L : Int32} (hy : LyX g)  {I : pI} {J : pJ} {R : pR} (hr : RfX g R) (hT : R (ad g 5) 0 = some (ad g 6)) (hI : XI g n L I) (a : Int32) (b : Int32)  : SP g mX10_price [.ref (ad g 0), .int a, .int b] I J R (fun r I' J' R' => (I' = I ∧ J' = J ∧ R' = R) ∧ ∃ v : Int32, r = some (.int v)) := by
  refine SP_of ⟨by decide, rfl⟩ (Nat.le_of_ble_eq_true rfl) ?_
  have e2940 : I (ad g 1) 1 = L := hI.2
  have b2941 := BT_get hI.1 1 1 2 (0) (0) (900) (by decide) 1 (by decide) (by decide)
  rw [e2940] at b2941
  refine WP_aload_n dX10_price_0 rfl ?_
  refine WP_iload_n dX10_price_1 rfl ?_
  refine WP_callV1 (k := 10) dX10_price_2 ⟨⟨⟨by decide, by decide⟩, zX10_isThing⟩, lX10_162, by decide, rfl, vX10_isThing.1, vX10_isThing.2⟩ (lyx_is hy 0 10 rfl) (sx_isThing_6 hy hr hT hI a ) (Nat.le_of_ble_eq_true rfl) ?_
  intro r Ia Ja Ra hq
  obtain ⟨⟨ea, eb, ec⟩, v2942, rfl, av2942, bv2942, cv2942⟩ := hq
  show WP _ _ _ _ (.int _ :: _) _ _ _ _
  rw [ea, eb, ec]
  clear ea eb ec Ia Ja Ra
  have jn34_2951 : ∀ (v2951 : Int32), -2 ≤ v2951.toInt → v2951.toInt ≤ 20 → WP g mX10_price 34 [(0, .ref (ad g 0)), (1, .int a), (2, .int b)] [.int v2951] I J R (fun r I' J' R' => (I' = I ∧ J' = J ∧ R' = R) ∧ ∃ v : Int32, r = some (.int v)) := by
    intro v2951 av2951 bv2951
    exact WP_iret dX10_price_34 rfl ⟨⟨rfl, rfl, rfl⟩, _, rfl⟩
  refine WQ_if_eq 32 dX10_price_5 rfl (fun c2952 => ?_) (fun c2952 => ?_)
  · refine WQ_bipush (-2) (-2) dX10_price_32 rfl rfl (fun v2954 hv2954 => ?_)
    exact WP_sub (fc rfl (fc rfl (fc rfl fn))) (jn34_2951 v2954 (by omega) (by omega))
  · refine WP_iload_n dX10_price_8 rfl ?_
    refine WP_callS1 dX10_price_9 ⟨⟨⟨by decide, by decide⟩, zX10_isDay⟩, lX10_156, tX10_isDay⟩ (sx_isDay hy hr hI b ) (Nat.le_of_ble_eq_true rfl) ?_
    intro r Ia Ja Ra hq
    obtain ⟨⟨ea, eb, ec⟩, v2955, rfl, av2955, bv2955, cv2955⟩ := hq
    show WP _ _ _ _ (.int _ :: _) _ _ _ _
    rw [ea, eb, ec]
    clear ea eb ec Ia Ja Ra
    refine WQ_if_eq 32 dX10_price_12 rfl (fun c2955 => ?_) (fun c2955 => ?_)
    · refine WQ_bipush (-2) (-2) dX10_price_32 rfl rfl (fun v2957 hv2957 => ?_)
      exact WP_sub (fc rfl (fc rfl (fc rfl fn))) (jn34_2951 v2957 (by omega) (by omega))
    · refine WP_aload_n dX10_price_15 rfl ?_
      refine WP_getr dX10_price_16 fX10_33 rfl (lyx_is hy 0 10 rfl) (rfx hr 0 2 5 (by decide)) ?_
      refine WP_getr dX10_price_19 fX10_165 rfl (lyx_is hy 5 0 rfl) (rfx hr 5 1 22 (by decide)) ?_
      refine WP_iload_n dX10_price_22 rfl ?_
      refine WQ_bipush (7) (7) dX10_price_23 rfl rfl (fun v2958 hv2958 => ?_)
      refine WQ_imulk (7) dX10_price_25 hv2958 (by omega) (by omega) (fun v2959 hv2959 => ?_)
      refine WP_iload_n dX10_price_26 rfl ?_
      refine WQ_iadd dX10_price_27 (by omega) (by omega) (fun v2960 hv2960 => ?_)
      refine WQ_iald dX10_price_28 (lyx_is hy 22 13 rfl) (lyx_n hy 22 21 rfl) (by omega) (by omega) (fun q hq => BT_get hI.1 22 0 21 (0) (0) (20) (by decide) q (Nat.zero_le _) hq) (fun v2961 av2961 bv2961 ev2961 => ?_)
      clear ev2961
      refine WP_goto 34 dX10_price_29 rfl ?_
      exact WP_sub (fc rfl (fc rfl (fc rfl fn))) (jn34_2951 v2961 (by omega) (by omega))
set_option maxHeartbeats 4000000 in
set_option maxRecDepth 100000 in
theorem sx_made_6 {g : GG} {n : Int} {L : Int32} (hy : LyX g)  {I : pI} {J : pJ} {R : pR} (hr : RfX g R) (hT : R (ad g 5) 0 = some (ad g 6)) (hI : XI g n L I) (a : Int32) (b : Int32)  : SP g mX10_made [.ref (ad g 0), .int a, .int b] I J R (fun r I' J' R' => (I' = I ∧ J' = J ∧ R' = R) ∧ ∃ v : Int32, r = some (.int v)) := by
  refine SP_of ⟨by decide, rfl⟩ (Nat.le_of_ble_eq_true rfl) ?_
  have e2962 : I (ad g 1) 1 = L := hI.2
  have b2963 := BT_get hI.1 1 1 2 (0) (0) (900) (by decide) 1 (by decide) (by decide)
  rw [e2962] at b2963
  refine WP_aload_n dX10_made_0 rfl ?_
  refine WP_iload_n dX10_made_1 rfl ?_
  refine WP_callV1 (k := 10) dX10_made_2 ⟨⟨⟨by decide, by decide⟩, zX10_isThing⟩, lX10_162, by decide, rfl, vX10_isThing.1, vX10_isThing.2⟩ (lyx_is hy 0 10 rfl) (sx_isThing_6 hy hr hT hI a ) (Nat.le_of_ble_eq_true rfl) ?_
  intro r Ia Ja Ra hq
  obtain ⟨⟨ea, eb, ec⟩, v2964, rfl, av2964, bv2964, cv2964⟩ := hq
  show WP _ _ _ _ (.int _ :: _) _ _ _ _
  rw [ea, eb, ec]
  clear ea eb ec Ia Ja Ra
  have jn37_2973 : ∀ (v2973 : Int32), -2 ≤ v2973.toInt → v2973.toInt ≤ 999 → WP g mX10_made 37 [(0, .ref (ad g 0)), (1, .int a), (2, .int b)] [.int v2973] I J R (fun r I' J' R' => (I' = I ∧ J' = J ∧ R' = R) ∧ ∃ v : Int32, r = some (.int v)) := by
    intro v2973 av2973 bv2973
    exact WP_iret dX10_made_37 rfl ⟨⟨rfl, rfl, rfl⟩, _, rfl⟩
  refine WQ_if_eq 35 dX10_made_5 rfl (fun c2974 => ?_) (fun c2974 => ?_)
  · refine WQ_bipush (-2) (-2) dX10_made_35 rfl rfl (fun v2976 hv2976 => ?_)
    exact WP_sub (fc rfl (fc rfl (fc rfl fn))) (jn37_2973 v2976 (by omega) (by omega))
  · refine WP_iload_n dX10_made_8 rfl ?_
    refine WP_callS1 dX10_made_9 ⟨⟨⟨by decide, by decide⟩, zX10_isDay⟩, lX10_156, tX10_isDay⟩ (sx_isDay hy hr hI b ) (Nat.le_of_ble_eq_true rfl) ?_
    intro r Ia Ja Ra hq
    obtain ⟨⟨ea, eb, ec⟩, v2977, rfl, av2977, bv2977, cv2977⟩ := hq
    show WP _ _ _ _ (.int _ :: _) _ _ _ _
    rw [ea, eb, ec]
    clear ea eb ec Ia Ja Ra
    refine WQ_if_eq 35 dX10_made_12 rfl (fun c2977 => ?_) (fun c2977 => ?_)
    · refine WQ_bipush (-2) (-2) dX10_made_35 rfl rfl (fun v2979 hv2979 => ?_)
      exact WP_sub (fc rfl (fc rfl (fc rfl fn))) (jn37_2973 v2979 (by omega) (by omega))
    · refine WP_aload_n dX10_made_15 rfl ?_
      refine WP_getr dX10_made_16 fX10_33 rfl (lyx_is hy 0 10 rfl) (rfx hr 0 2 5 (by decide)) ?_
      refine WP_getr dX10_made_19 fX10_102 rfl (lyx_is hy 5 0 rfl) hT ?_
      refine WP_getr dX10_made_22 fX10_168 rfl (lyx_is hy 6 7 rfl) (rfx hr 6 17 19 (by decide)) ?_
      refine WP_iload_n dX10_made_25 rfl ?_
      refine WQ_bipush (7) (7) dX10_made_26 rfl rfl (fun v2980 hv2980 => ?_)
      refine WQ_imulk (7) dX10_made_28 hv2980 (by omega) (by omega) (fun v2981 hv2981 => ?_)
      refine WP_iload_n dX10_made_29 rfl ?_
      refine WQ_iadd dX10_made_30 (by omega) (by omega) (fun v2982 hv2982 => ?_)
      refine WQ_iald dX10_made_31 (lyx_is hy 19 13 rfl) (lyx_n hy 19 21 rfl) (by omega) (by omega) (fun q hq => BT_get hI.1 19 0 21 (-1) (0) (999) (by decide) q (Nat.zero_le _) hq) (fun v2983 av2983 bv2983 ev2983 => ?_)
      clear ev2983
      refine WP_goto 37 dX10_made_32 rfl ?_
      exact WP_sub (fc rfl (fc rfl (fc rfl fn))) (jn37_2973 v2983 (by omega) (by omega))
set_option maxHeartbeats 4000000 in
set_option maxRecDepth 100000 in
theorem sx_wants_6 {g : GG} {n : Int} {L : Int32} (hy : LyX g)  {I : pI} {J : pJ} {R : pR} (hr : RfX g R) (hT : R (ad g 5) 0 = some (ad g 6)) (hI : XI g n L I) (a : Int32) (b : Int32) (c : Int32)  : SP g mX10_wants [.ref (ad g 0), .int a, .int b, .int c] I J R (fun r I' J' R' => (I' = I ∧ J' = J ∧ R' = R) ∧ ∃ v : Int32, r = some (.int v)) := by
  refine SP_of ⟨by decide, rfl⟩ (Nat.le_of_ble_eq_true rfl) ?_
  have e2984 : I (ad g 1) 1 = L := hI.2
  have b2985 := BT_get hI.1 1 1 2 (0) (0) (900) (by decide) 1 (by decide) (by decide)
  rw [e2984] at b2985
  refine WP_aload_n dX10_wants_0 rfl ?_
  refine WP_iload_n dX10_wants_1 rfl ?_
  refine WP_callV1 (k := 10) dX10_wants_2 ⟨⟨⟨by decide, by decide⟩, zX10_isSort⟩, lX10_152, by decide, rfl, vX10_isSort.1, vX10_isSort.2⟩ (lyx_is hy 0 10 rfl) (sx_isSort_6 hy hr hT hI a ) (Nat.le_of_ble_eq_true rfl) ?_
  intro r Ia Ja Ra hq
  obtain ⟨⟨ea, eb, ec⟩, v2986, rfl, av2986, bv2986, cv2986⟩ := hq
  show WP _ _ _ _ (.int _ :: _) _ _ _ _
  rw [ea, eb, ec]
  clear ea eb ec Ia Ja Ra
  refine WQ_if_eq 15 dX10_wants_5 rfl (fun c2986 => ?_) (fun c2986 => ?_)
  · refine WQ_bipush (-2) (-2) dX10_wants_15 rfl rfl (fun v2988 hv2988 => ?_)
    exact WP_iret dX10_wants_17 rfl ⟨⟨rfl, rfl, rfl⟩, _, rfl⟩
  · refine WP_iload_n dX10_wants_8 rfl ?_
    refine WP_callS1 dX10_wants_9 ⟨⟨⟨by decide, by decide⟩, zX10_isDay⟩, lX10_156, tX10_isDay⟩ (sx_isDay hy hr hI b ) (Nat.le_of_ble_eq_true rfl) ?_
    intro r Ia Ja Ra hq
    obtain ⟨⟨ea, eb, ec⟩, v2989, rfl, av2989, bv2989, cv2989⟩ := hq
    show WP _ _ _ _ (.int _ :: _) _ _ _ _
    rw [ea, eb, ec]
    clear ea eb ec Ia Ja Ra
    refine WQ_if_ne 18 dX10_wants_12 rfl (fun c2989 => ?_) (fun c2989 => ?_)
    · refine WP_iload_n dX10_wants_18 rfl ?_
      refine WQ_bipush (7) (7) dX10_wants_19 rfl rfl (fun v2991 hv2991 => ?_)
      refine WQ_imulk (7) dX10_wants_21 hv2991 (by omega) (by omega) (fun v2992 hv2992 => ?_)
      refine WP_iload_n dX10_wants_22 rfl ?_
      refine WQ_iadd dX10_wants_23 (by omega) (by omega) (fun v2993 hv2993 => ?_)
      refine WP_istore (ls' := [(0, _), (1, _), (2, _), (3, _), (4, _)]) dX10_wants_24 (by decide) rfl ?_
      refine WP_iload_n dX10_wants_26 rfl ?_
      refine WP_tab 94 dX10_wants_27 rfl rfl (fun c2993 => ?_) (fun j off c2993 hj => ?_) (by decide)
      · refine WQ_bipush (-2) (-2) dX10_wants_94 rfl rfl (fun v2995 hv2995 => ?_)
        exact WP_iret dX10_wants_96 rfl ⟨⟨rfl, rfl, rfl⟩, _, rfl⟩
      · have hlt : j < 3 := by have := (Array.getElem?_eq_some_iff.mp hj).1; simpa using this
        have hcs : (j = 0 ∧ off = 25) ∨ (j = 1 ∧ off = 39) ∨ (j = 2 ∧ off = 53) := by
          match j, hlt, hj with
          | 0, _, hj => exact Or.inl ⟨rfl, (Option.some.inj hj).symm⟩
          | 1, _, hj => exact Or.inr (Or.inl ⟨rfl, (Option.some.inj hj).symm⟩)
          | 2, _, hj => exact Or.inr (Or.inr (⟨rfl, (Option.some.inj hj).symm⟩))
        clear hj hlt
        rcases hcs with ⟨rfl, rfl⟩ | ⟨rfl, rfl⟩ | ⟨rfl, rfl⟩
        · show WP _ _ 52 _ _ _ _ _ _
          refine WP_aload_n dX10_wants_52 rfl ?_
          refine WP_getr dX10_wants_53 fX10_33 rfl (lyx_is hy 0 10 rfl) (rfx hr 0 2 5 (by decide)) ?_
          refine WP_getr dX10_wants_56 fX10_102 rfl (lyx_is hy 5 0 rfl) hT ?_
          refine WP_getr dX10_wants_59 fX10_171 rfl (lyx_is hy 6 7 rfl) (rfx hr 6 11 13 (by decide)) ?_
          refine WP_iload dX10_wants_62 rfl ?_
          refine WQ_iald dX10_wants_64 (lyx_is hy 13 13 rfl) (lyx_n hy 13 28 rfl) (by omega) (by omega) (fun q hq => BT_get hI.1 13 0 28 (-1) (0) (2) (by decide) q (Nat.zero_le _) hq) (fun v2996 av2996 bv2996 ev2996 => ?_)
          clear ev2996
          exact WP_iret dX10_wants_65 rfl ⟨⟨rfl, rfl, rfl⟩, _, rfl⟩
        · show WP _ _ 66 _ _ _ _ _ _
          refine WP_aload_n dX10_wants_66 rfl ?_
          refine WP_getr dX10_wants_67 fX10_33 rfl (lyx_is hy 0 10 rfl) (rfx hr 0 2 5 (by decide)) ?_
          refine WP_getr dX10_wants_70 fX10_102 rfl (lyx_is hy 5 0 rfl) hT ?_
          refine WP_getr dX10_wants_73 fX10_174 rfl (lyx_is hy 6 7 rfl) (rfx hr 6 12 14 (by decide)) ?_
          refine WP_iload dX10_wants_76 rfl ?_
          refine WQ_iald dX10_wants_78 (lyx_is hy 14 13 rfl) (lyx_n hy 14 28 rfl) (by omega) (by omega) (fun q hq => BT_get hI.1 14 0 28 (0) (0) (3) (by decide) q (Nat.zero_le _) hq) (fun v2997 av2997 bv2997 ev2997 => ?_)
          clear ev2997
          exact WP_iret dX10_wants_79 rfl ⟨⟨rfl, rfl, rfl⟩, _, rfl⟩
        · show WP _ _ 80 _ _ _ _ _ _
          refine WP_aload_n dX10_wants_80 rfl ?_
          refine WP_getr dX10_wants_81 fX10_33 rfl (lyx_is hy 0 10 rfl) (rfx hr 0 2 5 (by decide)) ?_
          refine WP_getr dX10_wants_84 fX10_102 rfl (lyx_is hy 5 0 rfl) hT ?_
          refine WP_getr dX10_wants_87 fX10_177 rfl (lyx_is hy 6 7 rfl) (rfx hr 6 13 15 (by decide)) ?_
          refine WP_iload dX10_wants_90 rfl ?_
          refine WQ_iald dX10_wants_92 (lyx_is hy 15 13 rfl) (lyx_n hy 15 28 rfl) (by omega) (by omega) (fun q hq => BT_get hI.1 15 0 28 (0) (0) (99) (by decide) q (Nat.zero_le _) hq) (fun v2998 av2998 bv2998 ev2998 => ?_)
          clear ev2998
          exact WP_iret dX10_wants_93 rfl ⟨⟨rfl, rfl, rfl⟩, _, rfl⟩
    · refine WQ_bipush (-2) (-2) dX10_wants_15 rfl rfl (fun v2999 hv2999 => ?_)
      exact WP_iret dX10_wants_17 rfl ⟨⟨rfl, rfl, rfl⟩, _, rfl⟩
set_option maxHeartbeats 4000000 in
set_option maxRecDepth 100000 in
theorem sx_night_6 {g : GG} {n : Int} {L : Int32} (hy : LyX g)  {I : pI} {J : pJ} {R : pR} (hr : RfX g R) (hT : R (ad g 5) 0 = some (ad g 6)) (hI : XI g n L I) (a : Int32) (b : Int32) (c : Int32)  : SP g mX10_night [.ref (ad g 0), .int a, .int b, .int c] I J R (fun r I' J' R' => (I' = I ∧ J' = J ∧ R' = R) ∧ ∃ v : Int32, r = some (.int v)) := by
  refine SP_of ⟨by decide, rfl⟩ (Nat.le_of_ble_eq_true rfl) ?_
  have e3000 : I (ad g 1) 1 = L := hI.2
  have b3001 := BT_get hI.1 1 1 2 (0) (0) (900) (by decide) 1 (by decide) (by decide)
  rw [e3000] at b3001
  refine WP_iload_n dX10_night_0 rfl ?_
  refine WP_iload_n dX10_night_1 rfl ?_
  refine WP_callS2 dX10_night_2 ⟨⟨⟨by decide, by decide⟩, zX10_isHeld⟩, lX10_180, tX10_isHeld⟩ (sx_isHeld hy hr hI a b  ) (Nat.le_of_ble_eq_true rfl) ?_
  intro r Ia Ja Ra hq
  obtain ⟨⟨ea, eb, ec⟩, v3002, rfl, av3002, bv3002, cv3002⟩ := hq
  show WP _ _ _ _ (.int _ :: _) _ _ _ _
  rw [ea, eb, ec]
  clear ea eb ec Ia Ja Ra
  refine WQ_if_eq 32 dX10_night_5 rfl (fun c3002 => ?_) (fun c3002 => ?_)
  · refine WQ_bipush (-2) (-2) dX10_night_32 rfl rfl (fun v3004 hv3004 => ?_)
    exact WP_iret dX10_night_34 rfl ⟨⟨rfl, rfl, rfl⟩, _, rfl⟩
  · refine WP_iload_n dX10_night_8 rfl ?_
    refine WP_callS1 dX10_night_9 ⟨⟨⟨by decide, by decide⟩, zX10_isDay⟩, lX10_156, tX10_isDay⟩ (sx_isDay hy hr hI c ) (Nat.le_of_ble_eq_true rfl) ?_
    intro r Ia Ja Ra hq
    obtain ⟨⟨ea, eb, ec⟩, v3005, rfl, av3005, bv3005, cv3005⟩ := hq
    show WP _ _ _ _ (.int _ :: _) _ _ _ _
    rw [ea, eb, ec]
    clear ea eb ec Ia Ja Ra
    refine WQ_if_eq 32 dX10_night_12 rfl (fun c3005 => ?_) (fun c3005 => ?_)
    · refine WQ_bipush (-2) (-2) dX10_night_32 rfl rfl (fun v3007 hv3007 => ?_)
      exact WP_iret dX10_night_34 rfl ⟨⟨rfl, rfl, rfl⟩, _, rfl⟩
    · refine WP_aload_n dX10_night_15 rfl ?_
      refine WP_getr dX10_night_16 fX10_33 rfl (lyx_is hy 0 10 rfl) (rfx hr 0 2 5 (by decide)) ?_
      refine WP_getr dX10_night_19 fX10_102 rfl (lyx_is hy 5 0 rfl) hT ?_
      refine WQ_geti dX10_night_22 fX10_117 rfl (lyx_is hy 6 7 rfl) (BT_get hI.1 6 2 3 (0) (0) (3) (by decide) 2 (by decide) (by decide)) (fun v3008 ev3008 av3008 bv3008 => ?_)
      refine WQ_if_ne 35 dX10_night_25 rfl (fun c3008 => ?_) (fun c3008 => ?_)
      · refine WP_aload_n dX10_night_35 rfl ?_
        refine WP_getr dX10_night_36 fX10_33 rfl (lyx_is hy 0 10 rfl) (rfx hr 0 2 5 (by decide)) ?_
        refine WP_iload_n dX10_night_39 rfl ?_
        refine WP_iload_n dX10_night_40 rfl ?_
        refine WP_iload_n dX10_night_41 rfl ?_
        refine WP_callV3 (k := 0) dX10_night_42 ⟨⟨⟨by decide, by decide⟩, zX0_coinsBehind⟩, lX10_184, by decide, rfl, vX0_coinsBehind.1, vX0_coinsBehind.2⟩ (lyx_is hy 5 0 rfl) (sx_coinsBehind hy hr hI a b c (by omega) (by omega) (by omega) (by omega) (by omega) (by omega)) (Nat.le_of_ble_eq_true rfl) ?_
        intro r Ia Ja Ra hq
        obtain ⟨⟨ea, eb, ec⟩, v3010, rfl, av3010, bv3010⟩ := hq
        show WP _ _ _ _ (.int _ :: _) _ _ _ _
        rw [ea, eb, ec]
        clear ea eb ec Ia Ja Ra
        exact WP_iret dX10_night_45 rfl ⟨⟨rfl, rfl, rfl⟩, _, rfl⟩
      · refine WP_iload_n dX10_night_28 rfl ?_
        refine WQ_if_le 35 dX10_night_29 rfl (fun c3010 => ?_) (fun c3010 => ?_)
        · refine WP_aload_n dX10_night_35 rfl ?_
          refine WP_getr dX10_night_36 fX10_33 rfl (lyx_is hy 0 10 rfl) (rfx hr 0 2 5 (by decide)) ?_
          refine WP_iload_n dX10_night_39 rfl ?_
          refine WP_iload_n dX10_night_40 rfl ?_
          refine WP_iload_n dX10_night_41 rfl ?_
          refine WP_callV3 (k := 0) dX10_night_42 ⟨⟨⟨by decide, by decide⟩, zX0_coinsBehind⟩, lX10_184, by decide, rfl, vX0_coinsBehind.1, vX0_coinsBehind.2⟩ (lyx_is hy 5 0 rfl) (sx_coinsBehind hy hr hI a b c (by omega) (by omega) (by omega) (by omega) (by omega) (by omega)) (Nat.le_of_ble_eq_true rfl) ?_
          intro r Ia Ja Ra hq
          obtain ⟨⟨ea, eb, ec⟩, v3012, rfl, av3012, bv3012⟩ := hq
          show WP _ _ _ _ (.int _ :: _) _ _ _ _
          rw [ea, eb, ec]
          clear ea eb ec Ia Ja Ra
          exact WP_iret dX10_night_45 rfl ⟨⟨rfl, rfl, rfl⟩, _, rfl⟩
        · refine WQ_bipush (-2) (-2) dX10_night_32 rfl rfl (fun v3013 hv3013 => ?_)
          exact WP_iret dX10_night_34 rfl ⟨⟨rfl, rfl, rfl⟩, _, rfl⟩
set_option maxHeartbeats 4000000 in
set_option maxRecDepth 100000 in
theorem sx_count_6 {g : GG} {n : Int} {L : Int32} (hy : LyX g)  {I : pI} {J : pJ} {R : pR} (hr : RfX g R) (hT : R (ad g 5) 0 = some (ad g 6)) (hI : XI g n L I) (a : Int32)  : SP g mX10_count [.ref (ad g 0), .int a] I J R (fun r I' J' R' => (I' = I ∧ J' = J ∧ R' = R) ∧ ∃ v : Int32, r = some (.int v)) := by
  refine SP_of ⟨by decide, rfl⟩ (Nat.le_of_ble_eq_true rfl) ?_
  have e3014 : I (ad g 1) 1 = L := hI.2
  have b3015 := BT_get hI.1 1 1 2 (0) (0) (900) (by decide) 1 (by decide) (by decide)
  rw [e3014] at b3015
  refine WP_iload_n dX10_count_0 rfl ?_
  have jn33_3019 : ∀ (v3019 : Int32), WP g mX10_count 33 [(0, .ref (ad g 0)), (1, .int a)] [.int v3019] I J R (fun r I' J' R' => (I' = I ∧ J' = J ∧ R' = R) ∧ ∃ v : Int32, r = some (.int v)) := by
    intro v3019 
    exact WP_iret dX10_count_33 rfl ⟨⟨rfl, rfl, rfl⟩, _, rfl⟩
  refine WX_if_ne 17 dX10_count_1 rfl ?_ ?_
  · refine WP_iload_n dX10_count_17 rfl ?_
    refine WQ_iconst (1) (1) dX10_count_18 rfl rfl (fun v3021 hv3021 => ?_)
    refine WX_icmp_ne 32 dX10_count_19 rfl ?_ ?_
    · refine WQ_iconst (-1) (-1) dX10_count_32 rfl rfl (fun v3022 hv3022 => ?_)
      exact WP_sub (fc rfl (fc rfl fn)) (jn33_3019 v3022)
    · refine WP_aload_n dX10_count_22 rfl ?_
      refine WP_getr dX10_count_23 fX10_12 rfl (lyx_is hy 0 10 rfl) (rfx hr 0 0 1 (by decide)) ?_
      refine WQ_getim dX10_count_26 fX10_90 rfl (lyx_is hy 1 5 rfl) e3014 ?_
      refine WP_goto 33 dX10_count_29 rfl ?_
      exact WP_sub (fc rfl (fc rfl fn)) (jn33_3019 L)
  · refine WP_aload_n dX10_count_4 rfl ?_
    refine WP_getr dX10_count_5 fX10_33 rfl (lyx_is hy 0 10 rfl) (rfx hr 0 2 5 (by decide)) ?_
    refine WP_getr dX10_count_8 fX10_102 rfl (lyx_is hy 5 0 rfl) hT ?_
    refine WQ_getiu dX10_count_11 fX10_105 rfl (lyx_is hy 6 7 rfl) (fun v3023 ev3023 => ?_)
    refine WP_goto 33 dX10_count_14 rfl ?_
    exact WP_sub (fc rfl (fc rfl fn)) (jn33_3019 v3023)
set_option maxHeartbeats 4000000 in
set_option maxRecDepth 100000 in
theorem sx_way_6 {g : GG} {n : Int} {L : Int32} (hy : LyX g)  {I : pI} {J : pJ} {R : pR} (hr : RfX g R) (hT : R (ad g 5) 0 = some (ad g 6)) (hI : XI g n L I) (a : Int32) (b : Int32)  : SP g mX10_way [.ref (ad g 0), .int a, .int b] I J R (fun r I' J' R' => (XI g n L I' ∧ R' = R) ∧ ∃ v : Int32, r = some (.int v)) := by
  refine SP_of ⟨by decide, rfl⟩ (Nat.le_of_ble_eq_true rfl) ?_
  have e3024 : I (ad g 1) 1 = L := hI.2
  have b3025 := BT_get hI.1 1 1 2 (0) (0) (900) (by decide) 1 (by decide) (by decide)
  rw [e3024] at b3025
  refine WP_aload_n dX10_way_0 rfl ?_
  refine WP_iload_n dX10_way_1 rfl ?_
  refine WP_callV1 (k := 10) dX10_way_2 ⟨⟨⟨by decide, by decide⟩, zX10_isSort⟩, lX10_152, by decide, rfl, vX10_isSort.1, vX10_isSort.2⟩ (lyx_is hy 0 10 rfl) (sx_isSort_6 hy hr hT hI a ) (Nat.le_of_ble_eq_true rfl) ?_
  intro r Ia Ja Ra hq
  obtain ⟨⟨ea, eb, ec⟩, v3026, rfl, av3026, bv3026, cv3026⟩ := hq
  show WP _ _ _ _ (.int _ :: _) _ _ _ _
  rw [ea, eb, ec]
  clear ea eb ec Ia Ja Ra
  refine WQ_if_eq 15 dX10_way_5 rfl (fun c3026 => ?_) (fun c3026 => ?_)
  · refine WQ_bipush (-2) (-2) dX10_way_15 rfl rfl (fun v3028 hv3028 => ?_)
    exact WP_iret dX10_way_17 rfl ⟨⟨hI, rfl⟩, _, rfl⟩
  · refine WP_iload_n dX10_way_8 rfl ?_
    refine WP_callS1 dX10_way_9 ⟨⟨⟨by decide, by decide⟩, zX10_isWay⟩, lX10_219, tX10_isWay⟩ (sx_isWay hy hr hI b ) (Nat.le_of_ble_eq_true rfl) ?_
    intro r Ia Ja Ra hq
    obtain ⟨⟨ea, eb, ec⟩, v3029, rfl, av3029, bv3029, cv3029⟩ := hq
    show WP _ _ _ _ (.int _ :: _) _ _ _ _
    rw [ea, eb, ec]
    clear ea eb ec Ia Ja Ra
    refine WQ_if_ne 18 dX10_way_12 rfl (fun c3029 => ?_) (fun c3029 => ?_)
    · refine WP_aload_n dX10_way_18 rfl ?_
      refine WP_getr dX10_way_19 fX10_62 rfl (lyx_is hy 0 10 rfl) (rfx hr 0 5 53 (by decide)) ?_
      refine WP_getr dX10_way_22 fX10_225 rfl (lyx_is hy 53 4 rfl) (rfx hr 53 4 54 (by decide)) ?_
      refine WP_iload_n dX10_way_25 rfl ?_
      refine WQ_ialdu dX10_way_26 (lyx_is hy 54 13 rfl) (lyx_n hy 54 4 rfl) (by omega) (by omega) (fun v3031 => ?_)
      refine WP_istore_n (ls' := [(0, _), (1, _), (2, _), (3, _)]) dX10_way_27 (by decide) rfl ?_
      refine WP_aload_n dX10_way_28 rfl ?_
      refine WP_getr dX10_way_29 fX10_62 rfl (lyx_is hy 0 10 rfl) (rfx hr 0 5 53 (by decide)) ?_
      refine WP_getr dX10_way_32 fX10_225 rfl (lyx_is hy 53 4 rfl) (rfx hr 53 4 54 (by decide)) ?_
      refine WP_iload_n dX10_way_35 rfl ?_
      refine WP_iload_n dX10_way_36 rfl ?_
      refine WQ_iast dX10_way_37 (lyx_is hy 54 13 rfl) (lyx_n hy 54 4 rfl) (by omega) (by omega) (fun I3032 eI3032 => ?_)
      have hI3032 : XI g n L I3032 := by rw [eI3032]; exact (xi_r0 hy hI (c := 54) (by decide) (Or.inl (by decide)) (by decide))
      have e3033 : I3032 (ad g 1) 1 = L := by rw [eI3032, pp_ne _ _ (Or.inl (lyx_ne hy (by decide) (by decide) (by decide)))]; exact e3024
      clear eI3032
      refine WP_iload_n dX10_way_38 rfl ?_
      exact WP_iret dX10_way_39 rfl ⟨⟨hI3032, rfl⟩, _, rfl⟩
    · refine WQ_bipush (-2) (-2) dX10_way_15 rfl rfl (fun v3034 hv3034 => ?_)
      exact WP_iret dX10_way_17 rfl ⟨⟨hI, rfl⟩, _, rfl⟩
set_option maxHeartbeats 4000000 in
set_option maxRecDepth 100000 in
theorem sx_run_6 {g : GG} {n : Int} {L : Int32} (hy : LyX g)  {I : pI} {J : pJ} {R : pR} (hr : RfX g R) (hT : R (ad g 5) 0 = some (ad g 6)) (hI : XI g n L I) (a : Int32) (b : Int32)  : SP g mX10_run [.ref (ad g 0), .int a, .int b] I J R (fun r I' J' R' => (I' = I ∧ J' = J ∧ R' = R) ∧ ∃ v : Int32, r = some (.int v)) := by
  refine SP_of ⟨by decide, rfl⟩ (Nat.le_of_ble_eq_true rfl) ?_
  have e3035 : I (ad g 1) 1 = L := hI.2
  have b3036 := BT_get hI.1 1 1 2 (0) (0) (900) (by decide) 1 (by decide) (by decide)
  rw [e3035] at b3036
  refine WP_aload_n dX10_run_0 rfl ?_
  refine WP_iload_n dX10_run_1 rfl ?_
  refine WP_callV1 (k := 10) dX10_run_2 ⟨⟨⟨by decide, by decide⟩, zX10_isSort⟩, lX10_152, by decide, rfl, vX10_isSort.1, vX10_isSort.2⟩ (lyx_is hy 0 10 rfl) (sx_isSort_6 hy hr hT hI a ) (Nat.le_of_ble_eq_true rfl) ?_
  intro r Ia Ja Ra hq
  obtain ⟨⟨ea, eb, ec⟩, v3037, rfl, av3037, bv3037, cv3037⟩ := hq
  show WP _ _ _ _ (.int _ :: _) _ _ _ _
  rw [ea, eb, ec]
  clear ea eb ec Ia Ja Ra
  refine WQ_if_eq 18 dX10_run_5 rfl (fun c3037 => ?_) (fun c3037 => ?_)
  · refine WQ_bipush (-2) (-2) dX10_run_18 rfl rfl (fun v3039 hv3039 => ?_)
    exact WP_iret dX10_run_20 rfl ⟨⟨rfl, rfl, rfl⟩, _, rfl⟩
  · refine WP_iload_n dX10_run_8 rfl ?_
    refine WQ_if_lt 18 dX10_run_9 rfl (fun c3039 => ?_) (fun c3039 => ?_)
    · refine WQ_bipush (-2) (-2) dX10_run_18 rfl rfl (fun v3041 hv3041 => ?_)
      exact WP_iret dX10_run_20 rfl ⟨⟨rfl, rfl, rfl⟩, _, rfl⟩
    · refine WP_iload_n dX10_run_12 rfl ?_
      refine WQ_bipush (7) (7) dX10_run_13 rfl rfl (fun v3042 hv3042 => ?_)
      refine WQ_icmp_lt 21 dX10_run_15 rfl (fun c3042 => ?_) (fun c3042 => ?_)
      · refine WP_aload_n dX10_run_21 rfl ?_
        refine WP_getr dX10_run_22 fX10_62 rfl (lyx_is hy 0 10 rfl) (rfx hr 0 5 53 (by decide)) ?_
        refine WP_getr dX10_run_25 fX10_235 rfl (lyx_is hy 53 4 rfl) (rfx hr 53 5 55 (by decide)) ?_
        refine WP_iload_n dX10_run_28 rfl ?_
        refine WQ_bipush (7) (7) dX10_run_29 rfl rfl (fun v3044 hv3044 => ?_)
        refine WQ_imulk (7) dX10_run_31 hv3044 (by omega) (by omega) (fun v3045 hv3045 => ?_)
        refine WP_iload_n dX10_run_32 rfl ?_
        refine WQ_iadd dX10_run_33 (by omega) (by omega) (fun v3046 hv3046 => ?_)
        refine WQ_ialdu dX10_run_34 (lyx_is hy 55 13 rfl) (lyx_n hy 55 28 rfl) (by omega) (by omega) (fun v3047 => ?_)
        exact WP_iret dX10_run_35 rfl ⟨⟨rfl, rfl, rfl⟩, _, rfl⟩
      · refine WQ_bipush (-2) (-2) dX10_run_18 rfl rfl (fun v3048 hv3048 => ?_)
        exact WP_iret dX10_run_20 rfl ⟨⟨rfl, rfl, rfl⟩, _, rfl⟩
set_option maxHeartbeats 4000000 in
set_option maxRecDepth 100000 in
theorem sx_anew_6 {g : GG} {n : Int} {L : Int32} (hy : LyX g)  {I : pI} {J : pJ} {R : pR} (hr : RfX g R) (hT : R (ad g 5) 0 = some (ad g 6)) (hI : XI g n L I)   (hn : 0 ≤ n) : SP g mX10_anew [.ref (ad g 0)] I J R (fun r I' J' R' => (XI g n L I' ∧ R' = R) ∧ ∃ v : Int32, r = some (.int v)) := by
  refine SP_of ⟨by decide, rfl⟩ (Nat.le_of_ble_eq_true rfl) ?_
  have e3049 : I (ad g 1) 1 = L := hI.2
  have b3050 := BT_get hI.1 1 1 2 (0) (0) (900) (by decide) 1 (by decide) (by decide)
  rw [e3049] at b3050
  refine WP_aload_n dX10_anew_0 rfl ?_
  refine WP_getr dX10_anew_1 fX10_62 rfl (lyx_is hy 0 10 rfl) (rfx hr 0 5 53 (by decide)) ?_
  refine WQ_getiu dX10_anew_4 fX10_232 rfl (lyx_is hy 53 4 rfl) (fun v3051 ev3051 => ?_)
  refine WP_istore_n (ls' := [(0, _), (1, _)]) dX10_anew_7 (by decide) rfl ?_
  refine WP_aload_n dX10_anew_8 rfl ?_
  refine WP_getr dX10_anew_9 fX10_62 rfl (lyx_is hy 0 10 rfl) (rfx hr 0 5 53 (by decide)) ?_
  refine WP_aload_n dX10_anew_12 rfl ?_
  refine WP_getr dX10_anew_13 fX10_33 rfl (lyx_is hy 0 10 rfl) (rfx hr 0 2 5 (by decide)) ?_
  refine WP_getr dX10_anew_16 fX10_102 rfl (lyx_is hy 5 0 rfl) hT ?_
  refine WP_callV1 (k := 4) dX10_anew_19 ⟨⟨⟨by decide, by decide⟩, zX4_begin⟩, lX10_246, by decide, rfl, vX4_begin.1, vX4_begin.2⟩ (lyx_is hy 53 4 rfl) (sx_begin_53_6 hy hr hI   (by omega)) (Nat.le_of_ble_eq_true rfl) ?_
  intro r I3052 J3053 Ra hq
  obtain ⟨⟨hI3052, ec⟩, rfl⟩ := hq
  rw [ec]
  clear ec Ra
  have e3054 : I3052 (ad g 1) 1 = L := hI3052.2
  have b3055 := BT_get hI3052.1 1 1 2 (0) (0) (900) (by decide) 1 (by decide) (by decide)
  rw [e3054] at b3055
  refine WP_iload_n dX10_anew_22 rfl ?_
  exact WP_iret dX10_anew_23 rfl ⟨⟨hI3052, rfl⟩, _, rfl⟩
set_option maxHeartbeats 4000000 in
set_option maxRecDepth 100000 in
theorem sx_settle_6 {g : GG} {n : Int} {L : Int32} (hy : LyX g)  {I : pI} {J : pJ} {R : pR} (hr : RfX g R) (hT : R (ad g 5) 0 = some (ad g 6)) (hI : XI g n L I)   (hn : 0 ≤ n) : SP g mX10_settle [.ref (ad g 0)] I J R (fun r I' J' R' => (XI g n L I' ∧ R' = R) ∧ r = none) := by
  refine SP_of ⟨by decide, rfl⟩ (Nat.le_of_ble_eq_true rfl) ?_
  have e3056 : I (ad g 1) 1 = L := hI.2
  have b3057 := BT_get hI.1 1 1 2 (0) (0) (900) (by decide) 1 (by decide) (by decide)
  rw [e3056] at b3057
  refine WP_aload_n dX10_settle_0 rfl ?_
  refine WP_getr dX10_settle_1 fX10_33 rfl (lyx_is hy 0 10 rfl) (rfx hr 0 2 5 (by decide)) ?_
  refine WP_callV0 (k := 0) dX10_settle_4 ⟨⟨⟨by decide, by decide⟩, zX0_open⟩, lX10_332, by decide, rfl, vX0_open.1, vX0_open.2⟩ (lyx_is hy 5 0 rfl) (sx_open_6 hy hr hT hI  ) (Nat.le_of_ble_eq_true rfl) ?_
  intro r I3058 J3059 Ra hq
  obtain ⟨⟨hI3058, ec⟩, rfl⟩ := hq
  rw [ec]
  clear ec Ra
  have e3060 : I3058 (ad g 1) 1 = L := hI3058.2
  have b3061 := BT_get hI3058.1 1 1 2 (0) (0) (900) (by decide) 1 (by decide) (by decide)
  rw [e3060] at b3061
  refine WP_aload_n dX10_settle_7 rfl ?_
  refine WP_getr dX10_settle_8 fX10_62 rfl (lyx_is hy 0 10 rfl) (rfx hr 0 5 53 (by decide)) ?_
  refine WP_aload_n dX10_settle_11 rfl ?_
  refine WP_getr dX10_settle_12 fX10_33 rfl (lyx_is hy 0 10 rfl) (rfx hr 0 2 5 (by decide)) ?_
  refine WP_getr dX10_settle_15 fX10_102 rfl (lyx_is hy 5 0 rfl) hT ?_
  refine WP_callV1 (k := 4) dX10_settle_18 ⟨⟨⟨by decide, by decide⟩, zX4_begin⟩, lX10_246, by decide, rfl, vX4_begin.1, vX4_begin.2⟩ (lyx_is hy 53 4 rfl) (sx_begin_53_6 hy hr hI3058   (by omega)) (Nat.le_of_ble_eq_true rfl) ?_
  intro r I3062 J3063 Ra hq
  obtain ⟨⟨hI3062, ec⟩, rfl⟩ := hq
  rw [ec]
  clear ec Ra
  have e3064 : I3062 (ad g 1) 1 = L := hI3062.2
  have b3065 := BT_get hI3062.1 1 1 2 (0) (0) (900) (by decide) 1 (by decide) (by decide)
  rw [e3064] at b3065
  refine WP_aload_n dX10_settle_21 rfl ?_
  refine WP_getr dX10_settle_22 fX10_62 rfl (lyx_is hy 0 10 rfl) (rfx hr 0 5 53 (by decide)) ?_
  refine WP_getr dX10_settle_25 fX10_225 rfl (lyx_is hy 53 4 rfl) (rfx hr 53 4 54 (by decide)) ?_
  refine WQ_iconst (1) (1) dX10_settle_28 rfl rfl (fun v3066 hv3066 => ?_)
  refine WP_callS2u dX10_settle_29 ⟨⟨⟨by decide, by decide⟩, zJ7_fill_53178⟩, lX10_335, tJ7_fill_53178⟩ (s_fill hy hr 54 4 rfl rfl (by decide) v3066) (Nat.le_of_ble_eq_true rfl) ?_
  obtain ⟨I3067, eI3067⟩ : ∃ I9 : pI, I9 = fi I3062 (ad g 54) 4 v3066 := ⟨_, rfl⟩
  rw [← eI3067]
  have hI3067 : XI g n L I3067 := by rw [eI3067]; exact (xi_fill0 hy hI3062 54 4 v3066 (by decide) (by decide))
  have e3068 : I3067 (ad g 1) 1 = L := by rw [eI3067, fi_off (lyx_ne hy (by decide) (by decide) (by decide))]; exact e3064
  clear eI3067
  refine WQ_iconst (0) (0) dX10_settle_32 rfl rfl (fun v3069 hv3069 => ?_)
  refine WP_istore_n (ls' := [(0, _), (1, _)]) dX10_settle_33 (by decide) rfl ?_
  have lp34_3072 : ∀ (mz : Nat) (i3070 : Int32) (I3071 : pI) (J3072 : pJ), XI g n L I3071 → 0 ≤ i3070.toInt → i3070.toInt ≤ 3 → (4 - i3070.toInt).toNat < mz → WP g mX10_settle 34 [(0, .ref (ad g 0)), (1, .int i3070)] [] I3071 J3072 R (fun r I' J' R' => (XI g n L I' ∧ R' = R) ∧ r = none) := by
    intro mz
    induction mz with
    | zero =>
      intro i3070 I3071 J3072 hI3071 ai3070 bi3070 hmlp34_3072
      exact absurd hmlp34_3072 (Nat.not_lt_zero _)
    | succ mz ihlp34_3072 =>
      intro i3070 I3071 J3072 hI3071 ai3070 bi3070 hmlp34_3072
      have e3074 : I3071 (ad g 1) 1 = L := hI3071.2
      have b3075 := BT_get hI3071.1 1 1 2 (0) (0) (900) (by decide) 1 (by decide) (by decide)
      rw [e3074] at b3075
      refine WP_iload_n dX10_settle_34 rfl ?_
      refine WQ_iconst (3) (3) dX10_settle_35 rfl rfl (fun v3076 hv3076 => ?_)
      refine WQ_icmp_ge 55 dX10_settle_36 rfl (fun c3076 => ?_) (fun c3076 => ?_)
      · refine WP_aload_n dX10_settle_55 rfl ?_
        refine WP_getr dX10_settle_56 fX10_83 rfl (lyx_is hy 0 10 rfl) (rfx hr 0 9 71 (by decide)) ?_
        refine WP_callV0 (k := 1) dX10_settle_59 ⟨⟨⟨by decide, by decide⟩, zX1_forget⟩, lX10_341, by decide, rfl, vX1_forget.1, vX1_forget.2⟩ (lyx_is hy 71 1 rfl) (sx_mforget hy hr hI3071  ) (Nat.le_of_ble_eq_true rfl) ?_
        intro r I3078 J3079 Ra hq
        obtain ⟨⟨hI3078, ec⟩, rfl⟩ := hq
        rw [ec]
        clear ec Ra
        have e3080 : I3078 (ad g 1) 1 = L := hI3078.2
        have b3081 := BT_get hI3078.1 1 1 2 (0) (0) (900) (by decide) 1 (by decide) (by decide)
        rw [e3080] at b3081
        refine WP_aload_n dX10_settle_62 rfl ?_
        refine WQ_iconst (-1) (-1) dX10_settle_63 rfl rfl (fun v3082 hv3082 => ?_)
        refine WQ_puti dX10_settle_64 fX10_263 rfl rfl (lyx_is hy 0 10 rfl) (fun I3083 eI3083 => ?_)
        have hI3083 : XI g n L I3083 := by rw [eI3083]; exact (xi_f0 hy hI3078 (c := 0) (by decide) (Or.inl (by decide)) (by decide))
        have e3084 : I3083 (ad g 1) 1 = L := by rw [eI3083, pp_ne _ _ (Or.inl (lyx_ne hy (by decide) (by decide) (by decide)))]; exact e3080
        have e3085 : I3083 (ad g 0) 11 = v3082 := by rw [eI3083, pp_self]
        clear eI3083
        exact WP_vret dX10_settle_67 rfl ⟨⟨hI3083, rfl⟩, rfl⟩
      · refine WP_aload_n dX10_settle_39 rfl ?_
        refine WP_getr dX10_settle_40 fX10_69 rfl (lyx_is hy 0 10 rfl) (rfx hr 0 7 59 (by decide)) ?_
        refine WP_iload_n dX10_settle_43 rfl ?_
        rcases (show i3070.toInt = 0 ∨ i3070.toInt = 1 ∨ i3070.toInt = 2 by omega) with k3086 | k3087 | k3088
        · refine WQ_aald (q := 0) dX10_settle_44 (lyx_is hy 59 16 rfl) (lyx_n hy 59 3 rfl) k3086 (by decide) (rfx hr 59 0 60 (by decide)) ?_
          refine WQ_iconst (-1) (-1) dX10_settle_45 rfl rfl (fun v3089 hv3089 => ?_)
          refine WQ_puti dX10_settle_46 fX10_232 rfl rfl (lyx_is hy 60 4 rfl) (fun I3090 eI3090 => ?_)
          have hI3090 : XI g n L I3090 := by rw [eI3090]; exact (xi_f0 hy hI3071 (c := 60) (by decide) (Or.inl (by decide)) (by decide))
          have e3091 : I3090 (ad g 1) 1 = L := by rw [eI3090, pp_ne _ _ (Or.inl (lyx_ne hy (by decide) (by decide) (by decide)))]; exact e3074
          have e3092 : I3090 (ad g 60) 0 = v3089 := by rw [eI3090, pp_self]
          clear eI3090
          refine WP_iinc (ls' := [(0, _), (1, _)]) dX10_settle_49 rfl (by decide) rfl ?_
          have hv3093 : (i3070 + Int32.ofInt (1)).toInt = i3070.toInt + (1) := ia_n rfl (by omega) (by omega)
          generalize i3070 + Int32.ofInt (1) = v3093 at hv3093 ⊢
          refine WP_goto 34 dX10_settle_52 rfl ?_
          exact WP_sub (fc rfl (fc rfl fn)) (ihlp34_3072 v3093 I3090 J3072 hI3090 (by omega) (by omega) (by omega))
        · refine WQ_aald (q := 1) dX10_settle_44 (lyx_is hy 59 16 rfl) (lyx_n hy 59 3 rfl) k3087 (by decide) (rfx hr 59 1 63 (by decide)) ?_
          refine WQ_iconst (-1) (-1) dX10_settle_45 rfl rfl (fun v3094 hv3094 => ?_)
          refine WQ_puti dX10_settle_46 fX10_232 rfl rfl (lyx_is hy 63 4 rfl) (fun I3095 eI3095 => ?_)
          have hI3095 : XI g n L I3095 := by rw [eI3095]; exact (xi_f0 hy hI3071 (c := 63) (by decide) (Or.inl (by decide)) (by decide))
          have e3096 : I3095 (ad g 1) 1 = L := by rw [eI3095, pp_ne _ _ (Or.inl (lyx_ne hy (by decide) (by decide) (by decide)))]; exact e3074
          have e3097 : I3095 (ad g 63) 0 = v3094 := by rw [eI3095, pp_self]
          clear eI3095
          refine WP_iinc (ls' := [(0, _), (1, _)]) dX10_settle_49 rfl (by decide) rfl ?_
          have hv3098 : (i3070 + Int32.ofInt (1)).toInt = i3070.toInt + (1) := ia_n rfl (by omega) (by omega)
          generalize i3070 + Int32.ofInt (1) = v3098 at hv3098 ⊢
          refine WP_goto 34 dX10_settle_52 rfl ?_
          exact WP_sub (fc rfl (fc rfl fn)) (ihlp34_3072 v3098 I3095 J3072 hI3095 (by omega) (by omega) (by omega))
        · refine WQ_aald (q := 2) dX10_settle_44 (lyx_is hy 59 16 rfl) (lyx_n hy 59 3 rfl) k3088 (by decide) (rfx hr 59 2 66 (by decide)) ?_
          refine WQ_iconst (-1) (-1) dX10_settle_45 rfl rfl (fun v3099 hv3099 => ?_)
          refine WQ_puti dX10_settle_46 fX10_232 rfl rfl (lyx_is hy 66 4 rfl) (fun I3100 eI3100 => ?_)
          have hI3100 : XI g n L I3100 := by rw [eI3100]; exact (xi_f0 hy hI3071 (c := 66) (by decide) (Or.inl (by decide)) (by decide))
          have e3101 : I3100 (ad g 1) 1 = L := by rw [eI3100, pp_ne _ _ (Or.inl (lyx_ne hy (by decide) (by decide) (by decide)))]; exact e3074
          have e3102 : I3100 (ad g 66) 0 = v3099 := by rw [eI3100, pp_self]
          clear eI3100
          refine WP_iinc (ls' := [(0, _), (1, _)]) dX10_settle_49 rfl (by decide) rfl ?_
          have hv3103 : (i3070 + Int32.ofInt (1)).toInt = i3070.toInt + (1) := ia_n rfl (by omega) (by omega)
          generalize i3070 + Int32.ofInt (1) = v3103 at hv3103 ⊢
          refine WP_goto 34 dX10_settle_52 rfl ?_
          exact WP_sub (fc rfl (fc rfl fn)) (ihlp34_3072 v3103 I3100 J3072 hI3100 (by omega) (by omega) (by omega))
  exact WP_sub (fc rfl (fc rfl fn)) (lp34_3072 _ v3069 I3067 J3063 hI3067 (by omega) (by omega) (Nat.lt_succ_self _))
set_option maxHeartbeats 4000000 in
set_option maxRecDepth 100000 in
theorem sx_meet_6 {g : GG} {n : Int} {L : Int32} (hy : LyX g)  {I : pI} {J : pJ} {R : pR} (hr : RfX g R) (hT : R (ad g 5) 0 = some (ad g 6)) (hI : XI g n L I) (a : Int32) (b : Int32) (c : Int32) (e : Int32) (f : Int32) (h : Int32)  : SP g mX10_meet [.ref (ad g 0), .int a, .int b, .int c, .int e, .int f, .int h] I J R (fun r I' J' R' => (XI g n L I' ∧ R' = R) ∧ ∃ v : Int32, r = some (.int v)) := by
  refine SP_of ⟨by decide, rfl⟩ (Nat.le_of_ble_eq_true rfl) ?_
  have e3104 : I (ad g 1) 1 = L := hI.2
  have b3105 := BT_get hI.1 1 1 2 (0) (0) (900) (by decide) 1 (by decide) (by decide)
  rw [e3104] at b3105
  refine WP_aload_n dX10_meet_0 rfl ?_
  refine WP_iload_n dX10_meet_1 rfl ?_
  refine WP_callV1 (k := 10) dX10_meet_2 ⟨⟨⟨by decide, by decide⟩, zX10_isSort⟩, lX10_152, by decide, rfl, vX10_isSort.1, vX10_isSort.2⟩ (lyx_is hy 0 10 rfl) (sx_isSort_6 hy hr hT hI a ) (Nat.le_of_ble_eq_true rfl) ?_
  intro r Ia Ja Ra hq
  obtain ⟨⟨ea, eb, ec⟩, v3106, rfl, av3106, bv3106, cv3106⟩ := hq
  show WP _ _ _ _ (.int _ :: _) _ _ _ _
  rw [ea, eb, ec]
  clear ea eb ec Ia Ja Ra
  refine WQ_if_eq 39 dX10_meet_5 rfl (fun c3106 => ?_) (fun c3106 => ?_)
  · refine WP_ldcw (-1000000) dX10_meet_39 kX10_309 ?_
    obtain ⟨v3108, hv3108, ev3108⟩ : ∃ v : Int32, v.toInt = -1000000 ∧ ((-1000000) : Int32) = v := ⟨(-1000000), rfl, rfl⟩
    rw [ev3108]; clear ev3108
    exact WP_iret dX10_meet_42 rfl ⟨⟨hI, rfl⟩, _, rfl⟩
  · refine WP_iload_n dX10_meet_8 rfl ?_
    refine WQ_if_lt 39 dX10_meet_9 rfl (fun c3108 => ?_) (fun c3108 => ?_)
    · refine WP_ldcw (-1000000) dX10_meet_39 kX10_309 ?_
      obtain ⟨v3110, hv3110, ev3110⟩ : ∃ v : Int32, v.toInt = -1000000 ∧ ((-1000000) : Int32) = v := ⟨(-1000000), rfl, rfl⟩
      rw [ev3110]; clear ev3110
      exact WP_iret dX10_meet_42 rfl ⟨⟨hI, rfl⟩, _, rfl⟩
    · refine WP_iload_n dX10_meet_12 rfl ?_
      refine WQ_iconst (1) (1) dX10_meet_13 rfl rfl (fun v3111 hv3111 => ?_)
      refine WP_aload_n dX10_meet_14 rfl ?_
      refine WP_getr dX10_meet_15 fX10_33 rfl (lyx_is hy 0 10 rfl) (rfx hr 0 2 5 (by decide)) ?_
      refine WP_getr dX10_meet_18 fX10_102 rfl (lyx_is hy 5 0 rfl) hT ?_
      refine WQ_geti dX10_meet_21 fX10_114 rfl (lyx_is hy 6 7 rfl) (BT_get hI.1 6 1 2 (0) (0) (4) (by decide) 1 (by decide) (by decide)) (fun v3112 ev3112 av3112 bv3112 => ?_)
      refine WQ_ishl1 dX10_meet_24 hv3111 (by omega) (by omega) (fun v3113 av3113 bv3113 => ?_)
      refine WQ_icmp_ge 39 dX10_meet_25 rfl (fun c3113 => ?_) (fun c3113 => ?_)
      · refine WP_ldcw (-1000000) dX10_meet_39 kX10_309 ?_
        obtain ⟨v3115, hv3115, ev3115⟩ : ∃ v : Int32, v.toInt = -1000000 ∧ ((-1000000) : Int32) = v := ⟨(-1000000), rfl, rfl⟩
        rw [ev3115]; clear ev3115
        exact WP_iret dX10_meet_42 rfl ⟨⟨hI, rfl⟩, _, rfl⟩
      · refine WP_iload_n dX10_meet_28 rfl ?_
        refine WP_iload dX10_meet_29 rfl ?_
        refine WP_iload dX10_meet_31 rfl ?_
        refine WP_callS3 dX10_meet_33 ⟨⟨⟨by decide, by decide⟩, zX10_isMeeting⟩, lX10_306, tX10_isMeeting⟩ (sx_isMeeting hy hr hI c e f   ) (Nat.le_of_ble_eq_true rfl) ?_
        intro r Ia Ja Ra hq
        obtain ⟨⟨ea, eb, ec⟩, v3116, rfl, av3116, bv3116, cv3116⟩ := hq
        show WP _ _ _ _ (.int _ :: _) _ _ _ _
        rw [ea, eb, ec]
        clear ea eb ec Ia Ja Ra
        refine WQ_if_ne 43 dX10_meet_36 rfl (fun c3116 => ?_) (fun c3116 => ?_)
        · refine WP_iload dX10_meet_43 rfl ?_
          refine WQ_if_eq 58 dX10_meet_45 rfl (fun c3117 => ?_) (fun c3117 => ?_)
          · refine WP_aload_n dX10_meet_58 rfl ?_
            refine WP_getr dX10_meet_59 fX10_83 rfl (lyx_is hy 0 10 rfl) (rfx hr 0 9 71 (by decide)) ?_
            refine WP_aload_n dX10_meet_62 rfl ?_
            refine WP_getr dX10_meet_63 fX10_33 rfl (lyx_is hy 0 10 rfl) (rfx hr 0 2 5 (by decide)) ?_
            refine WP_getr dX10_meet_66 fX10_102 rfl (lyx_is hy 5 0 rfl) hT ?_
            refine WP_iload_n dX10_meet_69 rfl ?_
            refine WP_iload_n dX10_meet_70 rfl ?_
            refine WP_callV3 (k := 1) dX10_meet_71 ⟨⟨⟨by decide, by decide⟩, zX1_start⟩, lX10_310, by decide, rfl, vX1_start.1, vX1_start.2⟩ (lyx_is hy 71 1 rfl) (sx_start_6 hy hr hI b c  (by omega) (by omega)) (Nat.le_of_ble_eq_true rfl) ?_
            intro r I3119 J3120 Ra hq
            obtain ⟨⟨hI3119, ec⟩, rfl⟩ := hq
            rw [ec]
            clear ec Ra
            have e3121 : I3119 (ad g 1) 1 = L := hI3119.2
            have b3122 := BT_get hI3119.1 1 1 2 (0) (0) (900) (by decide) 1 (by decide) (by decide)
            rw [e3121] at b3122
            refine WP_aload_n dX10_meet_74 rfl ?_
            refine WP_getr dX10_meet_75 fX10_83 rfl (lyx_is hy 0 10 rfl) (rfx hr 0 9 71 (by decide)) ?_
            refine WP_iload_n dX10_meet_78 rfl ?_
            refine WP_iload dX10_meet_79 rfl ?_
            refine WP_iload dX10_meet_81 rfl ?_
            refine WP_callV3 (k := 1) dX10_meet_83 ⟨⟨⟨by decide, by decide⟩, zX1_goOn⟩, lX10_314, by decide, rfl, vX1_goOn.1, vX1_goOn.2⟩ (lyx_is hy 71 1 rfl) (sx_goOn hy hr hI3119 a e f (by omega) (by omega)  (by omega) (by omega)) (Nat.le_of_ble_eq_true rfl) ?_
            intro r I3123 J3124 Ra hq
            obtain ⟨⟨hI3123, ec⟩, rfl⟩ := hq
            rw [ec]
            clear ec Ra
            have e3125 : I3123 (ad g 1) 1 = L := hI3123.2
            have b3126 := BT_get hI3123.1 1 1 2 (0) (0) (900) (by decide) 1 (by decide) (by decide)
            rw [e3125] at b3126
            refine WP_iload dX10_meet_86 rfl ?_
            refine WQ_if_ne 101 dX10_meet_88 rfl (fun c3127 => False.elim (by omega)) (fun c3127 => ?_)
            refine WP_aload_n dX10_meet_91 rfl ?_
            refine WP_getr dX10_meet_92 fX10_83 rfl (lyx_is hy 0 10 rfl) (rfx hr 0 9 71 (by decide)) ?_
            refine WQ_getl dX10_meet_95 fX10_318 rfl (lyx_is hy 71 1 rfl) (fun l3129 el3129 => ?_)
            refine WP_goto 108 dX10_meet_98 rfl ?_
            refine WQ_l2i dX10_meet_108 (fun v3130 => ?_)
            exact WP_iret dX10_meet_109 rfl ⟨⟨hI3123, rfl⟩, _, rfl⟩
          · refine WP_iload dX10_meet_48 rfl ?_
            refine WQ_iconst (1) (1) dX10_meet_50 rfl rfl (fun v3131 hv3131 => ?_)
            refine WQ_icmp_eq 58 dX10_meet_51 rfl (fun c3131 => ?_) (fun c3131 => ?_)
            · refine WP_aload_n dX10_meet_58 rfl ?_
              refine WP_getr dX10_meet_59 fX10_83 rfl (lyx_is hy 0 10 rfl) (rfx hr 0 9 71 (by decide)) ?_
              refine WP_aload_n dX10_meet_62 rfl ?_
              refine WP_getr dX10_meet_63 fX10_33 rfl (lyx_is hy 0 10 rfl) (rfx hr 0 2 5 (by decide)) ?_
              refine WP_getr dX10_meet_66 fX10_102 rfl (lyx_is hy 5 0 rfl) hT ?_
              refine WP_iload_n dX10_meet_69 rfl ?_
              refine WP_iload_n dX10_meet_70 rfl ?_
              refine WP_callV3 (k := 1) dX10_meet_71 ⟨⟨⟨by decide, by decide⟩, zX1_start⟩, lX10_310, by decide, rfl, vX1_start.1, vX1_start.2⟩ (lyx_is hy 71 1 rfl) (sx_start_6 hy hr hI b c  (by omega) (by omega)) (Nat.le_of_ble_eq_true rfl) ?_
              intro r I3133 J3134 Ra hq
              obtain ⟨⟨hI3133, ec⟩, rfl⟩ := hq
              rw [ec]
              clear ec Ra
              have e3135 : I3133 (ad g 1) 1 = L := hI3133.2
              have b3136 := BT_get hI3133.1 1 1 2 (0) (0) (900) (by decide) 1 (by decide) (by decide)
              rw [e3135] at b3136
              refine WP_aload_n dX10_meet_74 rfl ?_
              refine WP_getr dX10_meet_75 fX10_83 rfl (lyx_is hy 0 10 rfl) (rfx hr 0 9 71 (by decide)) ?_
              refine WP_iload_n dX10_meet_78 rfl ?_
              refine WP_iload dX10_meet_79 rfl ?_
              refine WP_iload dX10_meet_81 rfl ?_
              refine WP_callV3 (k := 1) dX10_meet_83 ⟨⟨⟨by decide, by decide⟩, zX1_goOn⟩, lX10_314, by decide, rfl, vX1_goOn.1, vX1_goOn.2⟩ (lyx_is hy 71 1 rfl) (sx_goOn hy hr hI3133 a e f (by omega) (by omega)  (by omega) (by omega)) (Nat.le_of_ble_eq_true rfl) ?_
              intro r I3137 J3138 Ra hq
              obtain ⟨⟨hI3137, ec⟩, rfl⟩ := hq
              rw [ec]
              clear ec Ra
              have e3139 : I3137 (ad g 1) 1 = L := hI3137.2
              have b3140 := BT_get hI3137.1 1 1 2 (0) (0) (900) (by decide) 1 (by decide) (by decide)
              rw [e3139] at b3140
              refine WP_iload dX10_meet_86 rfl ?_
              refine WQ_if_ne 101 dX10_meet_88 rfl (fun c3141 => ?_) (fun c3141 => False.elim (by omega))
              refine WP_aload_n dX10_meet_101 rfl ?_
              refine WP_getr dX10_meet_102 fX10_83 rfl (lyx_is hy 0 10 rfl) (rfx hr 0 9 71 (by decide)) ?_
              refine WQ_getl dX10_meet_105 fX10_322 rfl (lyx_is hy 71 1 rfl) (fun l3143 el3143 => ?_)
              refine WQ_l2i dX10_meet_108 (fun v3144 => ?_)
              exact WP_iret dX10_meet_109 rfl ⟨⟨hI3137, rfl⟩, _, rfl⟩
            · refine WP_ldcw (-1000000) dX10_meet_54 kX10_309 ?_
              obtain ⟨v3145, hv3145, ev3145⟩ : ∃ v : Int32, v.toInt = -1000000 ∧ ((-1000000) : Int32) = v := ⟨(-1000000), rfl, rfl⟩
              rw [ev3145]; clear ev3145
              exact WP_iret dX10_meet_57 rfl ⟨⟨hI, rfl⟩, _, rfl⟩
        · refine WP_ldcw (-1000000) dX10_meet_39 kX10_309 ?_
          obtain ⟨v3146, hv3146, ev3146⟩ : ∃ v : Int32, v.toInt = -1000000 ∧ ((-1000000) : Int32) = v := ⟨(-1000000), rfl, rfl⟩
          rw [ev3146]; clear ev3146
          exact WP_iret dX10_meet_42 rfl ⟨⟨hI, rfl⟩, _, rfl⟩
set_option maxHeartbeats 4000000 in
set_option maxRecDepth 100000 in
theorem sx_rests_6 {g : GG} {n : Int} {L : Int32} (hy : LyX g)  {I : pI} {J : pJ} {R : pR} (hr : RfX g R) (hT : R (ad g 5) 0 = some (ad g 6)) (hI : XI g n L I) (a : Int32) (b : Int32) (c : Int32)  : SP g mX10_rests [.ref (ad g 0), .int a, .int b, .int c] I J R (fun r I' J' R' => (XI g n L I' ∧ R' = R) ∧ ∃ v : Int32, r = some (.int v)) := by
  refine SP_of ⟨by decide, rfl⟩ (Nat.le_of_ble_eq_true rfl) ?_
  have e3147 : I (ad g 1) 1 = L := hI.2
  have b3148 := BT_get hI.1 1 1 2 (0) (0) (900) (by decide) 1 (by decide) (by decide)
  rw [e3147] at b3148
  refine WP_iload_n dX10_rests_0 rfl ?_
  refine WP_iload_n dX10_rests_1 rfl ?_
  refine WP_iload_n dX10_rests_2 rfl ?_
  refine WP_callS3 dX10_rests_3 ⟨⟨⟨by decide, by decide⟩, zX10_isMeeting⟩, lX10_306, tX10_isMeeting⟩ (sx_isMeeting hy hr hI a b c   ) (Nat.le_of_ble_eq_true rfl) ?_
  intro r Ia Ja Ra hq
  obtain ⟨⟨ea, eb, ec⟩, v3149, rfl, av3149, bv3149, cv3149⟩ := hq
  show WP _ _ _ _ (.int _ :: _) _ _ _ _
  rw [ea, eb, ec]
  clear ea eb ec Ia Ja Ra
  refine WQ_if_ne 12 dX10_rests_6 rfl (fun c3149 => ?_) (fun c3149 => ?_)
  · refine WQ_iconst (1) (1) dX10_rests_12 rfl rfl (fun v3151 hv3151 => ?_)
    refine WP_aload_n dX10_rests_13 rfl ?_
    refine WP_getr dX10_rests_14 fX10_33 rfl (lyx_is hy 0 10 rfl) (rfx hr 0 2 5 (by decide)) ?_
    refine WP_getr dX10_rests_17 fX10_102 rfl (lyx_is hy 5 0 rfl) hT ?_
    refine WQ_geti dX10_rests_20 fX10_114 rfl (lyx_is hy 6 7 rfl) (BT_get hI.1 6 1 2 (0) (0) (4) (by decide) 1 (by decide) (by decide)) (fun v3152 ev3152 av3152 bv3152 => ?_)
    refine WQ_ishl1 dX10_rests_23 hv3151 (by omega) (by omega) (fun v3153 av3153 bv3153 => ?_)
    refine WP_istore (ls' := [(0, _), (1, _), (2, _), (3, _), (4, _)]) dX10_rests_24 (by decide) rfl ?_
    refine WQ_iconst (0) (0) dX10_rests_26 rfl rfl (fun v3154 hv3154 => ?_)
    refine WP_istore (ls' := [(0, _), (1, _), (2, _), (3, _), (4, _), (5, _)]) dX10_rests_27 (by decide) rfl ?_
    refine WQ_iconst (0) (0) dX10_rests_29 rfl rfl (fun v3155 hv3155 => ?_)
    refine WP_istore (ls' := [(0, _), (1, _), (2, _), (3, _), (4, _), (5, _), (6, _)]) dX10_rests_30 (by decide) rfl ?_
    have lp32_3159 : ∀ (mz : Nat) (i3156 : Int32) (i3157 : Int32) (I3158 : pI) (J3159 : pJ), XI g n L I3158 → 0 ≤ i3157.toInt → i3157.toInt ≤ 16 → (17 - i3157.toInt).toNat < mz → WP g mX10_rests 32 [(0, .ref (ad g 0)), (1, .int a), (2, .int b), (3, .int c), (4, .int v3153), (5, .int i3156), (6, .int i3157)] [] I3158 J3159 R (fun r I' J' R' => (XI g n L I' ∧ R' = R) ∧ ∃ v : Int32, r = some (.int v)) := by
      intro mz
      induction mz with
      | zero =>
        intro i3156 i3157 I3158 J3159 hI3158 ai3157 bi3157 hmlp32_3159
        exact absurd hmlp32_3159 (Nat.not_lt_zero _)
      | succ mz ihlp32_3159 =>
        intro i3156 i3157 I3158 J3159 hI3158 ai3157 bi3157 hmlp32_3159
        have e3161 : I3158 (ad g 1) 1 = L := hI3158.2
        have b3162 := BT_get hI3158.1 1 1 2 (0) (0) (900) (by decide) 1 (by decide) (by decide)
        rw [e3161] at b3162
        refine WP_iload dX10_rests_32 rfl ?_
        refine WP_iload dX10_rests_34 rfl ?_
        refine WQ_icmp_ge 83 dX10_rests_36 rfl (fun c3162 => ?_) (fun c3162 => ?_)
        · refine WP_iload dX10_rests_83 rfl ?_
          exact WP_iret dX10_rests_85 rfl ⟨⟨hI3158, rfl⟩, _, rfl⟩
        · refine WP_aload_n dX10_rests_39 rfl ?_
          refine WP_getr dX10_rests_40 fX10_83 rfl (lyx_is hy 0 10 rfl) (rfx hr 0 9 71 (by decide)) ?_
          refine WP_aload_n dX10_rests_43 rfl ?_
          refine WP_getr dX10_rests_44 fX10_33 rfl (lyx_is hy 0 10 rfl) (rfx hr 0 2 5 (by decide)) ?_
          refine WP_getr dX10_rests_47 fX10_102 rfl (lyx_is hy 5 0 rfl) hT ?_
          refine WP_iload dX10_rests_50 rfl ?_
          refine WP_iload_n dX10_rests_52 rfl ?_
          refine WP_callV3 (k := 1) dX10_rests_53 ⟨⟨⟨by decide, by decide⟩, zX1_start⟩, lX10_310, by decide, rfl, vX1_start.1, vX1_start.2⟩ (lyx_is hy 71 1 rfl) (sx_start_6 hy hr hI3158 i3157 a  (by omega) (by omega)) (Nat.le_of_ble_eq_true rfl) ?_
          intro r I3164 J3165 Ra hq
          obtain ⟨⟨hI3164, ec⟩, rfl⟩ := hq
          rw [ec]
          clear ec Ra
          have e3166 : I3164 (ad g 1) 1 = L := hI3164.2
          have b3167 := BT_get hI3164.1 1 1 2 (0) (0) (900) (by decide) 1 (by decide) (by decide)
          rw [e3166] at b3167
          refine WP_aload_n dX10_rests_56 rfl ?_
          refine WP_getr dX10_rests_57 fX10_83 rfl (lyx_is hy 0 10 rfl) (rfx hr 0 9 71 (by decide)) ?_
          refine WP_iload_n dX10_rests_60 rfl ?_
          refine WP_iload_n dX10_rests_61 rfl ?_
          refine WP_callV2 (k := 1) dX10_rests_62 ⟨⟨⟨by decide, by decide⟩, zX1_isAtRest⟩, lX10_325, by decide, rfl, vX1_isAtRest.1, vX1_isAtRest.2⟩ (lyx_is hy 71 1 rfl) (sx_isAtRest hy hr hI3164 b c  (by omega) (by omega)) (Nat.le_of_ble_eq_true rfl) ?_
          intro r I3168 J3169 Ra hq
          obtain ⟨⟨hI3168, ec⟩, v3170, rfl, av3170, bv3170⟩ := hq
          show WP _ _ _ _ (.int _ :: _) _ _ _ _
          rw [ec]
          clear ec Ra
          have e3171 : I3168 (ad g 1) 1 = L := hI3168.2
          have b3172 := BT_get hI3168.1 1 1 2 (0) (0) (900) (by decide) 1 (by decide) (by decide)
          rw [e3171] at b3172
          refine WQ_if_eq 77 dX10_rests_65 rfl (fun c3172 => ?_) (fun c3172 => ?_)
          · refine WP_iinc (ls' := [(0, _), (1, _), (2, _), (3, _), (4, _), (5, _), (6, _)]) dX10_rests_77 rfl (by decide) rfl ?_
            have hv3174 : (i3157 + Int32.ofInt (1)).toInt = i3157.toInt + (1) := ia_n rfl (by omega) (by omega)
            generalize i3157 + Int32.ofInt (1) = v3174 at hv3174 ⊢
            refine WP_goto 32 dX10_rests_80 rfl ?_
            exact WP_sub (fc rfl (fc rfl (fc rfl (fc rfl (fc rfl (fc rfl (fc rfl fn))))))) (ihlp32_3159 i3156 v3174 I3168 J3169 hI3168 (by omega) (by omega) (by omega))
          · refine WP_iload dX10_rests_68 rfl ?_
            refine WQ_iconst (1) (1) dX10_rests_70 rfl rfl (fun v3175 hv3175 => ?_)
            refine WP_iload dX10_rests_71 rfl ?_
            refine WQ_ishlu dX10_rests_73 (fun v3176 => ?_)
            refine WQ_ioru dX10_rests_74 (fun v3177 => ?_)
            refine WP_istore (ls' := [(0, _), (1, _), (2, _), (3, _), (4, _), (5, _), (6, _)]) dX10_rests_75 (by decide) rfl ?_
            refine WP_iinc (ls' := [(0, _), (1, _), (2, _), (3, _), (4, _), (5, _), (6, _)]) dX10_rests_77 rfl (by decide) rfl ?_
            have hv3178 : (i3157 + Int32.ofInt (1)).toInt = i3157.toInt + (1) := ia_n rfl (by omega) (by omega)
            generalize i3157 + Int32.ofInt (1) = v3178 at hv3178 ⊢
            refine WP_goto 32 dX10_rests_80 rfl ?_
            exact WP_sub (fc rfl (fc rfl (fc rfl (fc rfl (fc rfl (fc rfl (fc rfl fn))))))) (ihlp32_3159 v3177 v3178 I3168 J3169 hI3168 (by omega) (by omega) (by omega))
    exact WP_sub (fc rfl (fc rfl (fc rfl (fc rfl (fc rfl (fc rfl (fc rfl fn))))))) (lp32_3159 _ v3154 v3155 I J hI (by omega) (by omega) (Nat.lt_succ_self _))
  · refine WQ_bipush (-2) (-2) dX10_rests_9 rfl rfl (fun v3179 hv3179 => ?_)
    exact WP_iret dX10_rests_11 rfl ⟨⟨hI, rfl⟩, _, rfl⟩
set_option maxHeartbeats 4000000 in
set_option maxRecDepth 100000 in
theorem sx_isSort_27 {g : GG} {n : Int} {L : Int32} (hy : LyX g)  {I : pI} {J : pJ} {R : pR} (hr : RfX g R) (hT : R (ad g 5) 0 = some (ad g 27)) (hI : XI g n L I) (a : Int32)  : SP g mX10_isSort [.ref (ad g 0), .int a] I J R (fun r I' J' R' => (I' = I ∧ J' = J ∧ R' = R) ∧ ∃ v : Int32, r = some (.int v) ∧ 0 ≤ v.toInt ∧ v.toInt ≤ 1 ∧ (v.toInt = 1 → 0 ≤ a.toInt ∧ a.toInt ≤ 3)) := by
  refine SP_of ⟨by decide, rfl⟩ (Nat.le_of_ble_eq_true rfl) ?_
  have e3180 : I (ad g 1) 1 = L := hI.2
  have b3181 := BT_get hI.1 1 1 2 (0) (0) (900) (by decide) 1 (by decide) (by decide)
  rw [e3180] at b3181
  refine WP_iload_n dX10_isSort_0 rfl ?_
  refine WQ_if_lt 22 dX10_isSort_1 rfl (fun c3181 => ?_) (fun c3181 => ?_)
  · refine WQ_iconst (0) (0) dX10_isSort_22 rfl rfl (fun v3183 hv3183 => ?_)
    exact WP_zret dX10_isSort_23 rfl (nar_z (by omega)) ⟨⟨rfl, rfl, rfl⟩, _, rfl, by omega, by omega, by omega⟩
  · refine WP_iload_n dX10_isSort_4 rfl ?_
    refine WP_aload_n dX10_isSort_5 rfl ?_
    refine WP_getr dX10_isSort_6 fX10_33 rfl (lyx_is hy 0 10 rfl) (rfx hr 0 2 5 (by decide)) ?_
    refine WP_getr dX10_isSort_9 fX10_102 rfl (lyx_is hy 5 0 rfl) hT ?_
    refine WQ_geti dX10_isSort_12 fX10_114 rfl (lyx_is hy 27 7 rfl) (BT_get hI.1 27 1 2 (0) (0) (4) (by decide) 1 (by decide) (by decide)) (fun v3184 ev3184 av3184 bv3184 => ?_)
    refine WQ_icmp_ge 22 dX10_isSort_15 rfl (fun c3184 => ?_) (fun c3184 => ?_)
    · refine WQ_iconst (0) (0) dX10_isSort_22 rfl rfl (fun v3186 hv3186 => ?_)
      exact WP_zret dX10_isSort_23 rfl (nar_z (by omega)) ⟨⟨rfl, rfl, rfl⟩, _, rfl, by omega, by omega, by omega⟩
    · refine WQ_iconst (1) (1) dX10_isSort_18 rfl rfl (fun v3187 hv3187 => ?_)
      refine WP_goto 23 dX10_isSort_19 rfl ?_
      exact WP_zret dX10_isSort_23 rfl (nar_z (by omega)) ⟨⟨rfl, rfl, rfl⟩, _, rfl, by omega, by omega, by omega⟩
set_option maxHeartbeats 4000000 in
set_option maxRecDepth 100000 in
theorem sx_isThing_27 {g : GG} {n : Int} {L : Int32} (hy : LyX g)  {I : pI} {J : pJ} {R : pR} (hr : RfX g R) (hT : R (ad g 5) 0 = some (ad g 27)) (hI : XI g n L I) (a : Int32)  : SP g mX10_isThing [.ref (ad g 0), .int a] I J R (fun r I' J' R' => (I' = I ∧ J' = J ∧ R' = R) ∧ ∃ v : Int32, r = some (.int v) ∧ 0 ≤ v.toInt ∧ v.toInt ≤ 1 ∧ (v.toInt = 1 → 0 ≤ a.toInt ∧ a.toInt ≤ 2)) := by
  refine SP_of ⟨by decide, rfl⟩ (Nat.le_of_ble_eq_true rfl) ?_
  have e3188 : I (ad g 1) 1 = L := hI.2
  have b3189 := BT_get hI.1 1 1 2 (0) (0) (900) (by decide) 1 (by decide) (by decide)
  rw [e3188] at b3189
  refine WP_iload_n dX10_isThing_0 rfl ?_
  refine WQ_if_lt 22 dX10_isThing_1 rfl (fun c3189 => ?_) (fun c3189 => ?_)
  · refine WQ_iconst (0) (0) dX10_isThing_22 rfl rfl (fun v3191 hv3191 => ?_)
    exact WP_zret dX10_isThing_23 rfl (nar_z (by omega)) ⟨⟨rfl, rfl, rfl⟩, _, rfl, by omega, by omega, by omega⟩
  · refine WP_iload_n dX10_isThing_4 rfl ?_
    refine WP_aload_n dX10_isThing_5 rfl ?_
    refine WP_getr dX10_isThing_6 fX10_33 rfl (lyx_is hy 0 10 rfl) (rfx hr 0 2 5 (by decide)) ?_
    refine WP_getr dX10_isThing_9 fX10_102 rfl (lyx_is hy 5 0 rfl) hT ?_
    refine WQ_geti dX10_isThing_12 fX10_117 rfl (lyx_is hy 27 7 rfl) (BT_get hI.1 27 2 3 (0) (0) (3) (by decide) 2 (by decide) (by decide)) (fun v3192 ev3192 av3192 bv3192 => ?_)
    refine WQ_icmp_ge 22 dX10_isThing_15 rfl (fun c3192 => ?_) (fun c3192 => ?_)
    · refine WQ_iconst (0) (0) dX10_isThing_22 rfl rfl (fun v3194 hv3194 => ?_)
      exact WP_zret dX10_isThing_23 rfl (nar_z (by omega)) ⟨⟨rfl, rfl, rfl⟩, _, rfl, by omega, by omega, by omega⟩
    · refine WQ_iconst (1) (1) dX10_isThing_18 rfl rfl (fun v3195 hv3195 => ?_)
      refine WP_goto 23 dX10_isThing_19 rfl ?_
      exact WP_zret dX10_isThing_23 rfl (nar_z (by omega)) ⟨⟨rfl, rfl, rfl⟩, _, rfl, by omega, by omega, by omega⟩
set_option maxHeartbeats 4000000 in
set_option maxRecDepth 100000 in
theorem sx_isPerson_27 {g : GG} {n : Int} {L : Int32} (hy : LyX g)  {I : pI} {J : pJ} {R : pR} (hr : RfX g R) (hT : R (ad g 5) 0 = some (ad g 27)) (hI : XI g n L I) (a : Int32) (b : Int32) (c : Int32) (e : Int32)  : SP g mX10_isPerson [.ref (ad g 0), .int a, .int b, .int c, .int e] I J R (fun r I' J' R' => (I' = I ∧ J' = J ∧ R' = R) ∧ ∃ v : Int32, r = some (.int v) ∧ 0 ≤ v.toInt ∧ v.toInt ≤ 1 ∧ (v.toInt = 1 → (0 ≤ a.toInt ∧ a.toInt ≤ 3) ∧ (0 ≤ b.toInt ∧ b.toInt ≤ 6) ∧ (0 ≤ c.toInt ∧ c.toInt ≤ 60) ∧ (0 ≤ e.toInt ∧ e.toInt ≤ 5))) := by
  refine SP_of ⟨by decide, rfl⟩ (Nat.le_of_ble_eq_true rfl) ?_
  have e3196 : I (ad g 1) 1 = L := hI.2
  have b3197 := BT_get hI.1 1 1 2 (0) (0) (900) (by decide) 1 (by decide) (by decide)
  rw [e3196] at b3197
  refine WP_aload_n dX10_isPerson_0 rfl ?_
  refine WP_iload_n dX10_isPerson_1 rfl ?_
  refine WP_callV1 (k := 10) dX10_isPerson_2 ⟨⟨⟨by decide, by decide⟩, zX10_isSort⟩, lX10_152, by decide, rfl, vX10_isSort.1, vX10_isSort.2⟩ (lyx_is hy 0 10 rfl) (sx_isSort_27 hy hr hT hI a ) (Nat.le_of_ble_eq_true rfl) ?_
  intro r Ia Ja Ra hq
  obtain ⟨⟨ea, eb, ec⟩, v3198, rfl, av3198, bv3198, cv3198⟩ := hq
  show WP _ _ _ _ (.int _ :: _) _ _ _ _
  rw [ea, eb, ec]
  clear ea eb ec Ia Ja Ra
  refine WQ_if_eq 28 dX10_isPerson_5 rfl (fun c3198 => ?_) (fun c3198 => ?_)
  · refine WQ_iconst (0) (0) dX10_isPerson_28 rfl rfl (fun v3200 hv3200 => ?_)
    exact WP_zret dX10_isPerson_29 rfl (nar_z (by omega)) ⟨⟨rfl, rfl, rfl⟩, _, rfl, by omega, by omega, by omega⟩
  · refine WP_iload_n dX10_isPerson_8 rfl ?_
    refine WP_callS1 dX10_isPerson_9 ⟨⟨⟨by decide, by decide⟩, zX10_isDay⟩, lX10_156, tX10_isDay⟩ (sx_isDay hy hr hI b ) (Nat.le_of_ble_eq_true rfl) ?_
    intro r Ia Ja Ra hq
    obtain ⟨⟨ea, eb, ec⟩, v3201, rfl, av3201, bv3201, cv3201⟩ := hq
    show WP _ _ _ _ (.int _ :: _) _ _ _ _
    rw [ea, eb, ec]
    clear ea eb ec Ia Ja Ra
    refine WQ_if_eq 28 dX10_isPerson_12 rfl (fun c3201 => ?_) (fun c3201 => ?_)
    · refine WQ_iconst (0) (0) dX10_isPerson_28 rfl rfl (fun v3203 hv3203 => ?_)
      exact WP_zret dX10_isPerson_29 rfl (nar_z (by omega)) ⟨⟨rfl, rfl, rfl⟩, _, rfl, by omega, by omega, by omega⟩
    · refine WP_iload_n dX10_isPerson_15 rfl ?_
      refine WP_iload dX10_isPerson_16 rfl ?_
      refine WP_callS2 dX10_isPerson_18 ⟨⟨⟨by decide, by decide⟩, zX10_isHeld⟩, lX10_180, tX10_isHeld⟩ (sx_isHeld hy hr hI c e  ) (Nat.le_of_ble_eq_true rfl) ?_
      intro r Ia Ja Ra hq
      obtain ⟨⟨ea, eb, ec⟩, v3204, rfl, av3204, bv3204, cv3204⟩ := hq
      show WP _ _ _ _ (.int _ :: _) _ _ _ _
      rw [ea, eb, ec]
      clear ea eb ec Ia Ja Ra
      refine WQ_if_eq 28 dX10_isPerson_21 rfl (fun c3204 => ?_) (fun c3204 => ?_)
      · refine WQ_iconst (0) (0) dX10_isPerson_28 rfl rfl (fun v3206 hv3206 => ?_)
        exact WP_zret dX10_isPerson_29 rfl (nar_z (by omega)) ⟨⟨rfl, rfl, rfl⟩, _, rfl, by omega, by omega, by omega⟩
      · refine WQ_iconst (1) (1) dX10_isPerson_24 rfl rfl (fun v3207 hv3207 => ?_)
        refine WP_goto 29 dX10_isPerson_25 rfl ?_
        exact WP_zret dX10_isPerson_29 rfl (nar_z (by omega)) ⟨⟨rfl, rfl, rfl⟩, _, rfl, by omega, by omega, by omega⟩
set_option maxHeartbeats 4000000 in
set_option maxRecDepth 100000 in
theorem sx_told_27 {g : GG} {n : Int} {L : Int32} (hy : LyX g)  {I : pI} {J : pJ} {R : pR} (hr : RfX g R) (hT : R (ad g 5) 0 = some (ad g 27)) (hI : XI g n L I) (a : Int32)  : SP g mX10_told [.ref (ad g 0), .int a] I J R (fun r I' J' R' => (I' = I ∧ J' = J ∧ R' = R) ∧ ∃ v : Int32, r = some (.int v)) := by
  refine SP_of ⟨by decide, rfl⟩ (Nat.le_of_ble_eq_true rfl) ?_
  have e3208 : I (ad g 1) 1 = L := hI.2
  have b3209 := BT_get hI.1 1 1 2 (0) (0) (900) (by decide) 1 (by decide) (by decide)
  rw [e3208] at b3209
  refine WP_aload_n dX10_told_0 rfl ?_
  refine WP_getr dX10_told_1 fX10_33 rfl (lyx_is hy 0 10 rfl) (rfx hr 0 2 5 (by decide)) ?_
  refine WP_getr dX10_told_4 fX10_102 rfl (lyx_is hy 5 0 rfl) hT ?_
  refine WP_astore_n (ls' := [(0, _), (1, _), (2, _)]) dX10_told_7 (by decide) rfl ?_
  refine WP_iload_n dX10_told_8 rfl ?_
  refine WP_tab 60 dX10_told_9 rfl rfl (fun c3209 => ?_) (fun j off c3209 hj => ?_) (by decide)
  · refine WP_iload_n dX10_told_60 rfl ?_
    refine WQ_bipush (10) (10) dX10_told_61 rfl rfl (fun v3211 hv3211 => ?_)
    refine WQ_idivu dX10_told_63 (by omega) (fun v3212 => ?_)
    refine WP_istore_n (ls' := [(0, _), (1, _), (2, _), (3, _)]) dX10_told_64 (by decide) rfl ?_
    refine WP_iload_n dX10_told_65 rfl ?_
    refine WQ_bipush (10) (10) dX10_told_66 rfl rfl (fun v3213 hv3213 => ?_)
    refine WQ_iremi (10) dX10_told_68 hv3213 (by decide) (fun v3214 hv3214 => ?_)
    refine WP_istore (ls' := [(0, _), (1, _), (2, _), (3, _), (4, _)]) dX10_told_69 (by decide) rfl ?_
    refine WP_iload dX10_told_71 rfl ?_
    refine WQ_if_ge 78 dX10_told_73 rfl (fun c3214 => ?_) (fun c3214 => ?_)
    · refine WP_iload_n dX10_told_78 rfl ?_
      refine WQ_iconst (1) (1) dX10_told_79 rfl rfl (fun v3216 hv3216 => ?_)
      refine WQ_icmp_ne 102 dX10_told_80 rfl (fun c3216 => ?_) (fun c3216 => ?_)
      · refine WP_iload_n dX10_told_102 rfl ?_
        refine WQ_bipush (6) (6) dX10_told_103 rfl rfl (fun v3218 hv3218 => ?_)
        refine WQ_icmp_eq 114 dX10_told_105 rfl (fun c3218 => ?_) (fun c3218 => ?_)
        · refine WP_iload dX10_told_114 rfl ?_
          refine WP_aload_n dX10_told_116 rfl ?_
          refine WQ_geti dX10_told_117 fX10_117 rfl (lyx_is hy 27 7 rfl) (BT_get hI.1 27 2 3 (0) (0) (3) (by decide) 2 (by decide) (by decide)) (fun v3220 ev3220 av3220 bv3220 => ?_)
          have jn150_3225 : ∀ (v3225 : Int32), -1 ≤ v3225.toInt → v3225.toInt ≤ 1000 → WP g mX10_told 150 [(0, .ref (ad g 0)), (1, .int a), (2, .ref (ad g 27)), (3, .int v3212), (4, .int v3214)] [.int v3225] I J R (fun r I' J' R' => (I' = I ∧ J' = J ∧ R' = R) ∧ ∃ v : Int32, r = some (.int v)) := by
            intro v3225 av3225 bv3225
            exact WP_iret dX10_told_150 rfl ⟨⟨rfl, rfl, rfl⟩, _, rfl⟩
          refine WQ_icmp_ge 149 dX10_told_120 rfl (fun c3226 => ?_) (fun c3226 => ?_)
          · refine WQ_iconst (-1) (-1) dX10_told_149 rfl rfl (fun v3228 hv3228 => ?_)
            exact WP_sub (fc rfl (fc rfl (fc rfl (fc rfl (fc rfl fn))))) (jn150_3225 v3228 (by omega) (by omega))
          · refine WP_iload_n dX10_told_123 rfl ?_
            refine WQ_bipush (6) (6) dX10_told_124 rfl rfl (fun v3229 hv3229 => ?_)
            refine WQ_icmp_ne 139 dX10_told_126 rfl (fun c3229 => False.elim (by omega)) (fun c3229 => ?_)
            refine WP_aload_n dX10_told_129 rfl ?_
            refine WP_getr dX10_told_130 fX10_130 rfl (lyx_is hy 27 7 rfl) (rfx hr 27 14 37 (by decide)) ?_
            refine WP_iload dX10_told_133 rfl ?_
            refine WQ_iald dX10_told_135 (lyx_is hy 37 13 rfl) (lyx_n hy 37 3 rfl) (by omega) (by omega) (fun q hq => BT_get hI.1 37 0 3 (0) (0) (1000) (by decide) q (Nat.zero_le _) hq) (fun v3231 av3231 bv3231 ev3231 => ?_)
            clear ev3231
            refine WP_goto 150 dX10_told_136 rfl ?_
            exact WP_sub (fc rfl (fc rfl (fc rfl (fc rfl (fc rfl fn))))) (jn150_3225 v3231 (by omega) (by omega))
        · refine WP_iload_n dX10_told_108 rfl ?_
          refine WQ_bipush (7) (7) dX10_told_109 rfl rfl (fun v3232 hv3232 => ?_)
          refine WQ_icmp_ne 151 dX10_told_111 rfl (fun c3232 => ?_) (fun c3232 => ?_)
          · refine WP_iload dX10_told_151 rfl ?_
            refine WP_aload_n dX10_told_153 rfl ?_
            refine WQ_geti dX10_told_154 fX10_114 rfl (lyx_is hy 27 7 rfl) (BT_get hI.1 27 1 2 (0) (0) (4) (by decide) 1 (by decide) (by decide)) (fun v3234 ev3234 av3234 bv3234 => ?_)
            refine WQ_icmp_ge 170 dX10_told_157 rfl (fun c3234 => ?_) (fun c3234 => ?_)
            · refine WQ_iconst (-1) (-1) dX10_told_170 rfl rfl (fun v3236 hv3236 => ?_)
              exact WP_iret dX10_told_171 rfl ⟨⟨rfl, rfl, rfl⟩, _, rfl⟩
            · refine WP_aload_n dX10_told_160 rfl ?_
              refine WP_iload_n dX10_told_161 rfl ?_
              refine WP_iload dX10_told_162 rfl ?_
              refine WP_callS3 dX10_told_164 ⟨⟨⟨by decide, by decide⟩, zX10_toldOfSort⟩, lX10_136, tX10_toldOfSort⟩ (sx_toldOfSort_27 hy hr hI v3212 v3214  (by omega) (by omega)) (Nat.le_of_ble_eq_true rfl) ?_
              intro r Ia Ja Ra hq
              obtain ⟨⟨ea, eb, ec⟩, v3237, rfl⟩ := hq
              show WP _ _ _ _ (.int _ :: _) _ _ _ _
              rw [ea, eb, ec]
              clear ea eb ec Ia Ja Ra
              refine WP_goto 171 dX10_told_167 rfl ?_
              exact WP_iret dX10_told_171 rfl ⟨⟨rfl, rfl, rfl⟩, _, rfl⟩
          · refine WP_iload dX10_told_114 rfl ?_
            refine WP_aload_n dX10_told_116 rfl ?_
            refine WQ_geti dX10_told_117 fX10_117 rfl (lyx_is hy 27 7 rfl) (BT_get hI.1 27 2 3 (0) (0) (3) (by decide) 2 (by decide) (by decide)) (fun v3238 ev3238 av3238 bv3238 => ?_)
            have jn150_3243 : ∀ (v3243 : Int32), -1 ≤ v3243.toInt → v3243.toInt ≤ 9 → WP g mX10_told 150 [(0, .ref (ad g 0)), (1, .int a), (2, .ref (ad g 27)), (3, .int v3212), (4, .int v3214)] [.int v3243] I J R (fun r I' J' R' => (I' = I ∧ J' = J ∧ R' = R) ∧ ∃ v : Int32, r = some (.int v)) := by
              intro v3243 av3243 bv3243
              exact WP_iret dX10_told_150 rfl ⟨⟨rfl, rfl, rfl⟩, _, rfl⟩
            refine WQ_icmp_ge 149 dX10_told_120 rfl (fun c3244 => ?_) (fun c3244 => ?_)
            · refine WQ_iconst (-1) (-1) dX10_told_149 rfl rfl (fun v3246 hv3246 => ?_)
              exact WP_sub (fc rfl (fc rfl (fc rfl (fc rfl (fc rfl fn))))) (jn150_3243 v3246 (by omega) (by omega))
            · refine WP_iload_n dX10_told_123 rfl ?_
              refine WQ_bipush (6) (6) dX10_told_124 rfl rfl (fun v3247 hv3247 => ?_)
              refine WQ_icmp_ne 139 dX10_told_126 rfl (fun c3247 => ?_) (fun c3247 => False.elim (by omega))
              refine WP_aload_n dX10_told_139 rfl ?_
              refine WP_getr dX10_told_140 fX10_133 rfl (lyx_is hy 27 7 rfl) (rfx hr 27 15 38 (by decide)) ?_
              refine WP_iload dX10_told_143 rfl ?_
              refine WQ_iald dX10_told_145 (lyx_is hy 38 13 rfl) (lyx_n hy 38 3 rfl) (by omega) (by omega) (fun q hq => BT_get hI.1 38 0 3 (0) (0) (9) (by decide) q (Nat.zero_le _) hq) (fun v3249 av3249 bv3249 ev3249 => ?_)
              clear ev3249
              refine WP_goto 150 dX10_told_146 rfl ?_
              exact WP_sub (fc rfl (fc rfl (fc rfl (fc rfl (fc rfl fn))))) (jn150_3243 v3249 (by omega) (by omega))
      · refine WP_iload dX10_told_83 rfl ?_
        refine WQ_bipush (7) (7) dX10_told_85 rfl rfl (fun v3250 hv3250 => ?_)
        have jn101_3253 : ∀ (v3253 : Int32), -1 ≤ v3253.toInt → v3253.toInt ≤ 900 → WP g mX10_told 101 [(0, .ref (ad g 0)), (1, .int a), (2, .ref (ad g 27)), (3, .int v3212), (4, .int v3214)] [.int v3253] I J R (fun r I' J' R' => (I' = I ∧ J' = J ∧ R' = R) ∧ ∃ v : Int32, r = some (.int v)) := by
          intro v3253 av3253 bv3253
          exact WP_iret dX10_told_101 rfl ⟨⟨rfl, rfl, rfl⟩, _, rfl⟩
        refine WQ_icmp_ge 100 dX10_told_87 rfl (fun c3254 => ?_) (fun c3254 => ?_)
        · refine WQ_iconst (-1) (-1) dX10_told_100 rfl rfl (fun v3256 hv3256 => ?_)
          exact WP_sub (fc rfl (fc rfl (fc rfl (fc rfl (fc rfl fn))))) (jn101_3253 v3256 (by omega) (by omega))
        · refine WP_aload_n dX10_told_90 rfl ?_
          refine WP_getr dX10_told_91 fX10_126 rfl (lyx_is hy 27 7 rfl) (rfx hr 27 5 28 (by decide)) ?_
          refine WP_iload dX10_told_94 rfl ?_
          refine WQ_iald dX10_told_96 (lyx_is hy 28 13 rfl) (lyx_n hy 28 7 rfl) (by omega) (by omega) (fun q hq => BT_get hI.1 28 0 7 (0) (0) (900) (by decide) q (Nat.zero_le _) hq) (fun v3257 av3257 bv3257 ev3257 => ?_)
          clear ev3257
          refine WP_goto 101 dX10_told_97 rfl ?_
          exact WP_sub (fc rfl (fc rfl (fc rfl (fc rfl (fc rfl fn))))) (jn101_3253 v3257 (by omega) (by omega))
    · refine WQ_iconst (-1) (-1) dX10_told_76 rfl rfl (fun v3258 hv3258 => ?_)
      exact WP_iret dX10_told_77 rfl ⟨⟨rfl, rfl, rfl⟩, _, rfl⟩
  · have hlt : j < 4 := by have := (Array.getElem?_eq_some_iff.mp hj).1; simpa using this
    have hcs : (j = 0 ∧ off = 31) ∨ (j = 1 ∧ off = 36) ∨ (j = 2 ∧ off = 41) ∨ (j = 3 ∧ off = 46) := by
      match j, hlt, hj with
      | 0, _, hj => exact Or.inl ⟨rfl, (Option.some.inj hj).symm⟩
      | 1, _, hj => exact Or.inr (Or.inl ⟨rfl, (Option.some.inj hj).symm⟩)
      | 2, _, hj => exact Or.inr (Or.inr (Or.inl ⟨rfl, (Option.some.inj hj).symm⟩))
      | 3, _, hj => exact Or.inr (Or.inr (Or.inr (⟨rfl, (Option.some.inj hj).symm⟩)))
    clear hj hlt
    rcases hcs with ⟨rfl, rfl⟩ | ⟨rfl, rfl⟩ | ⟨rfl, rfl⟩ | ⟨rfl, rfl⟩
    · show WP _ _ 40 _ _ _ _ _ _
      refine WP_aload_n dX10_told_40 rfl ?_
      refine WQ_geti dX10_told_41 fX10_114 rfl (lyx_is hy 27 7 rfl) (BT_get hI.1 27 1 2 (0) (0) (4) (by decide) 1 (by decide) (by decide)) (fun v3259 ev3259 av3259 bv3259 => ?_)
      exact WP_iret dX10_told_44 rfl ⟨⟨rfl, rfl, rfl⟩, _, rfl⟩
    · show WP _ _ 45 _ _ _ _ _ _
      refine WP_aload_n dX10_told_45 rfl ?_
      refine WQ_geti dX10_told_46 fX10_117 rfl (lyx_is hy 27 7 rfl) (BT_get hI.1 27 2 3 (0) (0) (3) (by decide) 2 (by decide) (by decide)) (fun v3260 ev3260 av3260 bv3260 => ?_)
      exact WP_iret dX10_told_49 rfl ⟨⟨rfl, rfl, rfl⟩, _, rfl⟩
    · show WP _ _ 50 _ _ _ _ _ _
      refine WP_aload_n dX10_told_50 rfl ?_
      refine WQ_geti dX10_told_51 fX10_120 rfl (lyx_is hy 27 7 rfl) (BT_get hI.1 27 3 4 (-1) (0) (3) (by decide) 3 (by decide) (by decide)) (fun v3261 ev3261 av3261 bv3261 => ?_)
      exact WP_iret dX10_told_54 rfl ⟨⟨rfl, rfl, rfl⟩, _, rfl⟩
    · show WP _ _ 55 _ _ _ _ _ _
      refine WP_aload_n dX10_told_55 rfl ?_
      refine WQ_geti dX10_told_56 fX10_123 rfl (lyx_is hy 27 7 rfl) (BT_get hI.1 27 4 5 (-1) (0) (2) (by decide) 4 (by decide) (by decide)) (fun v3262 ev3262 av3262 bv3262 => ?_)
      exact WP_iret dX10_told_59 rfl ⟨⟨rfl, rfl, rfl⟩, _, rfl⟩
set_option maxHeartbeats 4000000 in
set_option maxRecDepth 100000 in
theorem sx_earns_27 {g : GG} {n : Int} {L : Int32} (hy : LyX g)  {I : pI} {J : pJ} {R : pR} (hr : RfX g R) (hT : R (ad g 5) 0 = some (ad g 27)) (hI : XI g n L I) (a : Int32) (b : Int32)  : SP g mX10_earns [.ref (ad g 0), .int a, .int b] I J R (fun r I' J' R' => (I' = I ∧ J' = J ∧ R' = R) ∧ ∃ v : Int32, r = some (.int v)) := by
  refine SP_of ⟨by decide, rfl⟩ (Nat.le_of_ble_eq_true rfl) ?_
  have e3263 : I (ad g 1) 1 = L := hI.2
  have b3264 := BT_get hI.1 1 1 2 (0) (0) (900) (by decide) 1 (by decide) (by decide)
  rw [e3263] at b3264
  refine WP_aload_n dX10_earns_0 rfl ?_
  refine WP_iload_n dX10_earns_1 rfl ?_
  refine WP_callV1 (k := 10) dX10_earns_2 ⟨⟨⟨by decide, by decide⟩, zX10_isSort⟩, lX10_152, by decide, rfl, vX10_isSort.1, vX10_isSort.2⟩ (lyx_is hy 0 10 rfl) (sx_isSort_27 hy hr hT hI a ) (Nat.le_of_ble_eq_true rfl) ?_
  intro r Ia Ja Ra hq
  obtain ⟨⟨ea, eb, ec⟩, v3265, rfl, av3265, bv3265, cv3265⟩ := hq
  show WP _ _ _ _ (.int _ :: _) _ _ _ _
  rw [ea, eb, ec]
  clear ea eb ec Ia Ja Ra
  have jn37_3274 : ∀ (v3274 : Int32), -2 ≤ v3274.toInt → v3274.toInt ≤ 20 → WP g mX10_earns 37 [(0, .ref (ad g 0)), (1, .int a), (2, .int b)] [.int v3274] I J R (fun r I' J' R' => (I' = I ∧ J' = J ∧ R' = R) ∧ ∃ v : Int32, r = some (.int v)) := by
    intro v3274 av3274 bv3274
    exact WP_iret dX10_earns_37 rfl ⟨⟨rfl, rfl, rfl⟩, _, rfl⟩
  refine WQ_if_eq 35 dX10_earns_5 rfl (fun c3275 => ?_) (fun c3275 => ?_)
  · refine WQ_bipush (-2) (-2) dX10_earns_35 rfl rfl (fun v3277 hv3277 => ?_)
    exact WP_sub (fc rfl (fc rfl (fc rfl fn))) (jn37_3274 v3277 (by omega) (by omega))
  · refine WP_iload_n dX10_earns_8 rfl ?_
    refine WP_callS1 dX10_earns_9 ⟨⟨⟨by decide, by decide⟩, zX10_isDay⟩, lX10_156, tX10_isDay⟩ (sx_isDay hy hr hI b ) (Nat.le_of_ble_eq_true rfl) ?_
    intro r Ia Ja Ra hq
    obtain ⟨⟨ea, eb, ec⟩, v3278, rfl, av3278, bv3278, cv3278⟩ := hq
    show WP _ _ _ _ (.int _ :: _) _ _ _ _
    rw [ea, eb, ec]
    clear ea eb ec Ia Ja Ra
    refine WQ_if_eq 35 dX10_earns_12 rfl (fun c3278 => ?_) (fun c3278 => ?_)
    · refine WQ_bipush (-2) (-2) dX10_earns_35 rfl rfl (fun v3280 hv3280 => ?_)
      exact WP_sub (fc rfl (fc rfl (fc rfl fn))) (jn37_3274 v3280 (by omega) (by omega))
    · refine WP_aload_n dX10_earns_15 rfl ?_
      refine WP_getr dX10_earns_16 fX10_33 rfl (lyx_is hy 0 10 rfl) (rfx hr 0 2 5 (by decide)) ?_
      refine WP_getr dX10_earns_19 fX10_102 rfl (lyx_is hy 5 0 rfl) hT ?_
      refine WP_getr dX10_earns_22 fX10_159 rfl (lyx_is hy 27 7 rfl) (rfx hr 27 10 33 (by decide)) ?_
      refine WP_iload_n dX10_earns_25 rfl ?_
      refine WQ_bipush (7) (7) dX10_earns_26 rfl rfl (fun v3281 hv3281 => ?_)
      refine WQ_imulk (7) dX10_earns_28 hv3281 (by omega) (by omega) (fun v3282 hv3282 => ?_)
      refine WP_iload_n dX10_earns_29 rfl ?_
      refine WQ_iadd dX10_earns_30 (by omega) (by omega) (fun v3283 hv3283 => ?_)
      refine WQ_iald dX10_earns_31 (lyx_is hy 33 13 rfl) (lyx_n hy 33 28 rfl) (by omega) (by omega) (fun q hq => BT_get hI.1 33 0 28 (0) (0) (20) (by decide) q (Nat.zero_le _) hq) (fun v3284 av3284 bv3284 ev3284 => ?_)
      clear ev3284
      refine WP_goto 37 dX10_earns_32 rfl ?_
      exact WP_sub (fc rfl (fc rfl (fc rfl fn))) (jn37_3274 v3284 (by omega) (by omega))
set_option maxHeartbeats 4000000 in
set_option maxRecDepth 100000 in
theorem sx_price_27 {g : GG} {n : Int} {L : Int32} (hy : LyX g)  {I : pI} {J : pJ} {R : pR} (hr : RfX g R) (hT : R (ad g 5) 0 = some (ad g 27)) (hI : XI g n L I) (a : Int32) (b : Int32)  : SP g mX10_price [.ref (ad g 0), .int a, .int b] I J R (fun r I' J' R' => (I' = I ∧ J' = J ∧ R' = R) ∧ ∃ v : Int32, r = some (.int v)) := by
  refine SP_of ⟨by decide, rfl⟩ (Nat.le_of_ble_eq_true rfl) ?_
  have e3285 : I (ad g 1) 1 = L := hI.2
  have b3286 := BT_get hI.1 1 1 2 (0) (0) (900) (by decide) 1 (by decide) (by decide)
  rw [e3285] at b3286
  refine WP_aload_n dX10_price_0 rfl ?_
  refine WP_iload_n dX10_price_1 rfl ?_
  refine WP_callV1 (k := 10) dX10_price_2 ⟨⟨⟨by decide, by decide⟩, zX10_isThing⟩, lX10_162, by decide, rfl, vX10_isThing.1, vX10_isThing.2⟩ (lyx_is hy 0 10 rfl) (sx_isThing_27 hy hr hT hI a ) (Nat.le_of_ble_eq_true rfl) ?_
  intro r Ia Ja Ra hq
  obtain ⟨⟨ea, eb, ec⟩, v3287, rfl, av3287, bv3287, cv3287⟩ := hq
  show WP _ _ _ _ (.int _ :: _) _ _ _ _
  rw [ea, eb, ec]
  clear ea eb ec Ia Ja Ra
  have jn34_3296 : ∀ (v3296 : Int32), -2 ≤ v3296.toInt → v3296.toInt ≤ 20 → WP g mX10_price 34 [(0, .ref (ad g 0)), (1, .int a), (2, .int b)] [.int v3296] I J R (fun r I' J' R' => (I' = I ∧ J' = J ∧ R' = R) ∧ ∃ v : Int32, r = some (.int v)) := by
    intro v3296 av3296 bv3296
    exact WP_iret dX10_price_34 rfl ⟨⟨rfl, rfl, rfl⟩, _, rfl⟩
  refine WQ_if_eq 32 dX10_price_5 rfl (fun c3297 => ?_) (fun c3297 => ?_)
  · refine WQ_bipush (-2) (-2) dX10_price_32 rfl rfl (fun v3299 hv3299 => ?_)
    exact WP_sub (fc rfl (fc rfl (fc rfl fn))) (jn34_3296 v3299 (by omega) (by omega))
  · refine WP_iload_n dX10_price_8 rfl ?_
    refine WP_callS1 dX10_price_9 ⟨⟨⟨by decide, by decide⟩, zX10_isDay⟩, lX10_156, tX10_isDay⟩ (sx_isDay hy hr hI b ) (Nat.le_of_ble_eq_true rfl) ?_
    intro r Ia Ja Ra hq
    obtain ⟨⟨ea, eb, ec⟩, v3300, rfl, av3300, bv3300, cv3300⟩ := hq
    show WP _ _ _ _ (.int _ :: _) _ _ _ _
    rw [ea, eb, ec]
    clear ea eb ec Ia Ja Ra
    refine WQ_if_eq 32 dX10_price_12 rfl (fun c3300 => ?_) (fun c3300 => ?_)
    · refine WQ_bipush (-2) (-2) dX10_price_32 rfl rfl (fun v3302 hv3302 => ?_)
      exact WP_sub (fc rfl (fc rfl (fc rfl fn))) (jn34_3296 v3302 (by omega) (by omega))
    · refine WP_aload_n dX10_price_15 rfl ?_
      refine WP_getr dX10_price_16 fX10_33 rfl (lyx_is hy 0 10 rfl) (rfx hr 0 2 5 (by decide)) ?_
      refine WP_getr dX10_price_19 fX10_165 rfl (lyx_is hy 5 0 rfl) (rfx hr 5 1 22 (by decide)) ?_
      refine WP_iload_n dX10_price_22 rfl ?_
      refine WQ_bipush (7) (7) dX10_price_23 rfl rfl (fun v3303 hv3303 => ?_)
      refine WQ_imulk (7) dX10_price_25 hv3303 (by omega) (by omega) (fun v3304 hv3304 => ?_)
      refine WP_iload_n dX10_price_26 rfl ?_
      refine WQ_iadd dX10_price_27 (by omega) (by omega) (fun v3305 hv3305 => ?_)
      refine WQ_iald dX10_price_28 (lyx_is hy 22 13 rfl) (lyx_n hy 22 21 rfl) (by omega) (by omega) (fun q hq => BT_get hI.1 22 0 21 (0) (0) (20) (by decide) q (Nat.zero_le _) hq) (fun v3306 av3306 bv3306 ev3306 => ?_)
      clear ev3306
      refine WP_goto 34 dX10_price_29 rfl ?_
      exact WP_sub (fc rfl (fc rfl (fc rfl fn))) (jn34_3296 v3306 (by omega) (by omega))
set_option maxHeartbeats 4000000 in
set_option maxRecDepth 100000 in
theorem sx_made_27 {g : GG} {n : Int} {L : Int32} (hy : LyX g)  {I : pI} {J : pJ} {R : pR} (hr : RfX g R) (hT : R (ad g 5) 0 = some (ad g 27)) (hI : XI g n L I) (a : Int32) (b : Int32)  : SP g mX10_made [.ref (ad g 0), .int a, .int b] I J R (fun r I' J' R' => (I' = I ∧ J' = J ∧ R' = R) ∧ ∃ v : Int32, r = some (.int v)) := by
  refine SP_of ⟨by decide, rfl⟩ (Nat.le_of_ble_eq_true rfl) ?_
  have e3307 : I (ad g 1) 1 = L := hI.2
  have b3308 := BT_get hI.1 1 1 2 (0) (0) (900) (by decide) 1 (by decide) (by decide)
  rw [e3307] at b3308
  refine WP_aload_n dX10_made_0 rfl ?_
  refine WP_iload_n dX10_made_1 rfl ?_
  refine WP_callV1 (k := 10) dX10_made_2 ⟨⟨⟨by decide, by decide⟩, zX10_isThing⟩, lX10_162, by decide, rfl, vX10_isThing.1, vX10_isThing.2⟩ (lyx_is hy 0 10 rfl) (sx_isThing_27 hy hr hT hI a ) (Nat.le_of_ble_eq_true rfl) ?_
  intro r Ia Ja Ra hq
  obtain ⟨⟨ea, eb, ec⟩, v3309, rfl, av3309, bv3309, cv3309⟩ := hq
  show WP _ _ _ _ (.int _ :: _) _ _ _ _
  rw [ea, eb, ec]
  clear ea eb ec Ia Ja Ra
  have jn37_3318 : ∀ (v3318 : Int32), -2 ≤ v3318.toInt → v3318.toInt ≤ 999 → WP g mX10_made 37 [(0, .ref (ad g 0)), (1, .int a), (2, .int b)] [.int v3318] I J R (fun r I' J' R' => (I' = I ∧ J' = J ∧ R' = R) ∧ ∃ v : Int32, r = some (.int v)) := by
    intro v3318 av3318 bv3318
    exact WP_iret dX10_made_37 rfl ⟨⟨rfl, rfl, rfl⟩, _, rfl⟩
  refine WQ_if_eq 35 dX10_made_5 rfl (fun c3319 => ?_) (fun c3319 => ?_)
  · refine WQ_bipush (-2) (-2) dX10_made_35 rfl rfl (fun v3321 hv3321 => ?_)
    exact WP_sub (fc rfl (fc rfl (fc rfl fn))) (jn37_3318 v3321 (by omega) (by omega))
  · refine WP_iload_n dX10_made_8 rfl ?_
    refine WP_callS1 dX10_made_9 ⟨⟨⟨by decide, by decide⟩, zX10_isDay⟩, lX10_156, tX10_isDay⟩ (sx_isDay hy hr hI b ) (Nat.le_of_ble_eq_true rfl) ?_
    intro r Ia Ja Ra hq
    obtain ⟨⟨ea, eb, ec⟩, v3322, rfl, av3322, bv3322, cv3322⟩ := hq
    show WP _ _ _ _ (.int _ :: _) _ _ _ _
    rw [ea, eb, ec]
    clear ea eb ec Ia Ja Ra
    refine WQ_if_eq 35 dX10_made_12 rfl (fun c3322 => ?_) (fun c3322 => ?_)
    · refine WQ_bipush (-2) (-2) dX10_made_35 rfl rfl (fun v3324 hv3324 => ?_)
      exact WP_sub (fc rfl (fc rfl (fc rfl fn))) (jn37_3318 v3324 (by omega) (by omega))
    · refine WP_aload_n dX10_made_15 rfl ?_
      refine WP_getr dX10_made_16 fX10_33 rfl (lyx_is hy 0 10 rfl) (rfx hr 0 2 5 (by decide)) ?_
      refine WP_getr dX10_made_19 fX10_102 rfl (lyx_is hy 5 0 rfl) hT ?_
      refine WP_getr dX10_made_22 fX10_168 rfl (lyx_is hy 27 7 rfl) (rfx hr 27 17 40 (by decide)) ?_
      refine WP_iload_n dX10_made_25 rfl ?_
      refine WQ_bipush (7) (7) dX10_made_26 rfl rfl (fun v3325 hv3325 => ?_)
      refine WQ_imulk (7) dX10_made_28 hv3325 (by omega) (by omega) (fun v3326 hv3326 => ?_)
      refine WP_iload_n dX10_made_29 rfl ?_
      refine WQ_iadd dX10_made_30 (by omega) (by omega) (fun v3327 hv3327 => ?_)
      refine WQ_iald dX10_made_31 (lyx_is hy 40 13 rfl) (lyx_n hy 40 21 rfl) (by omega) (by omega) (fun q hq => BT_get hI.1 40 0 21 (-1) (0) (999) (by decide) q (Nat.zero_le _) hq) (fun v3328 av3328 bv3328 ev3328 => ?_)
      clear ev3328
      refine WP_goto 37 dX10_made_32 rfl ?_
      exact WP_sub (fc rfl (fc rfl (fc rfl fn))) (jn37_3318 v3328 (by omega) (by omega))
set_option maxHeartbeats 4000000 in
set_option maxRecDepth 100000 in
theorem sx_wants_27 {g : GG} {n : Int} {L : Int32} (hy : LyX g)  {I : pI} {J : pJ} {R : pR} (hr : RfX g R) (hT : R (ad g 5) 0 = some (ad g 27)) (hI : XI g n L I) (a : Int32) (b : Int32) (c : Int32)  : SP g mX10_wants [.ref (ad g 0), .int a, .int b, .int c] I J R (fun r I' J' R' => (I' = I ∧ J' = J ∧ R' = R) ∧ ∃ v : Int32, r = some (.int v)) := by
  refine SP_of ⟨by decide, rfl⟩ (Nat.le_of_ble_eq_true rfl) ?_
  have e3329 : I (ad g 1) 1 = L := hI.2
  have b3330 := BT_get hI.1 1 1 2 (0) (0) (900) (by decide) 1 (by decide) (by decide)
  rw [e3329] at b3330
  refine WP_aload_n dX10_wants_0 rfl ?_
  refine WP_iload_n dX10_wants_1 rfl ?_
  refine WP_callV1 (k := 10) dX10_wants_2 ⟨⟨⟨by decide, by decide⟩, zX10_isSort⟩, lX10_152, by decide, rfl, vX10_isSort.1, vX10_isSort.2⟩ (lyx_is hy 0 10 rfl) (sx_isSort_27 hy hr hT hI a ) (Nat.le_of_ble_eq_true rfl) ?_
  intro r Ia Ja Ra hq
  obtain ⟨⟨ea, eb, ec⟩, v3331, rfl, av3331, bv3331, cv3331⟩ := hq
  show WP _ _ _ _ (.int _ :: _) _ _ _ _
  rw [ea, eb, ec]
  clear ea eb ec Ia Ja Ra
  refine WQ_if_eq 15 dX10_wants_5 rfl (fun c3331 => ?_) (fun c3331 => ?_)
  · refine WQ_bipush (-2) (-2) dX10_wants_15 rfl rfl (fun v3333 hv3333 => ?_)
    exact WP_iret dX10_wants_17 rfl ⟨⟨rfl, rfl, rfl⟩, _, rfl⟩
  · refine WP_iload_n dX10_wants_8 rfl ?_
    refine WP_callS1 dX10_wants_9 ⟨⟨⟨by decide, by decide⟩, zX10_isDay⟩, lX10_156, tX10_isDay⟩ (sx_isDay hy hr hI b ) (Nat.le_of_ble_eq_true rfl) ?_
    intro r Ia Ja Ra hq
    obtain ⟨⟨ea, eb, ec⟩, v3334, rfl, av3334, bv3334, cv3334⟩ := hq
    show WP _ _ _ _ (.int _ :: _) _ _ _ _
    rw [ea, eb, ec]
    clear ea eb ec Ia Ja Ra
    refine WQ_if_ne 18 dX10_wants_12 rfl (fun c3334 => ?_) (fun c3334 => ?_)
    · refine WP_iload_n dX10_wants_18 rfl ?_
      refine WQ_bipush (7) (7) dX10_wants_19 rfl rfl (fun v3336 hv3336 => ?_)
      refine WQ_imulk (7) dX10_wants_21 hv3336 (by omega) (by omega) (fun v3337 hv3337 => ?_)
      refine WP_iload_n dX10_wants_22 rfl ?_
      refine WQ_iadd dX10_wants_23 (by omega) (by omega) (fun v3338 hv3338 => ?_)
      refine WP_istore (ls' := [(0, _), (1, _), (2, _), (3, _), (4, _)]) dX10_wants_24 (by decide) rfl ?_
      refine WP_iload_n dX10_wants_26 rfl ?_
      refine WP_tab 94 dX10_wants_27 rfl rfl (fun c3338 => ?_) (fun j off c3338 hj => ?_) (by decide)
      · refine WQ_bipush (-2) (-2) dX10_wants_94 rfl rfl (fun v3340 hv3340 => ?_)
        exact WP_iret dX10_wants_96 rfl ⟨⟨rfl, rfl, rfl⟩, _, rfl⟩
      · have hlt : j < 3 := by have := (Array.getElem?_eq_some_iff.mp hj).1; simpa using this
        have hcs : (j = 0 ∧ off = 25) ∨ (j = 1 ∧ off = 39) ∨ (j = 2 ∧ off = 53) := by
          match j, hlt, hj with
          | 0, _, hj => exact Or.inl ⟨rfl, (Option.some.inj hj).symm⟩
          | 1, _, hj => exact Or.inr (Or.inl ⟨rfl, (Option.some.inj hj).symm⟩)
          | 2, _, hj => exact Or.inr (Or.inr (⟨rfl, (Option.some.inj hj).symm⟩))
        clear hj hlt
        rcases hcs with ⟨rfl, rfl⟩ | ⟨rfl, rfl⟩ | ⟨rfl, rfl⟩
        · show WP _ _ 52 _ _ _ _ _ _
          refine WP_aload_n dX10_wants_52 rfl ?_
          refine WP_getr dX10_wants_53 fX10_33 rfl (lyx_is hy 0 10 rfl) (rfx hr 0 2 5 (by decide)) ?_
          refine WP_getr dX10_wants_56 fX10_102 rfl (lyx_is hy 5 0 rfl) hT ?_
          refine WP_getr dX10_wants_59 fX10_171 rfl (lyx_is hy 27 7 rfl) (rfx hr 27 11 34 (by decide)) ?_
          refine WP_iload dX10_wants_62 rfl ?_
          refine WQ_iald dX10_wants_64 (lyx_is hy 34 13 rfl) (lyx_n hy 34 28 rfl) (by omega) (by omega) (fun q hq => BT_get hI.1 34 0 28 (-1) (0) (2) (by decide) q (Nat.zero_le _) hq) (fun v3341 av3341 bv3341 ev3341 => ?_)
          clear ev3341
          exact WP_iret dX10_wants_65 rfl ⟨⟨rfl, rfl, rfl⟩, _, rfl⟩
        · show WP _ _ 66 _ _ _ _ _ _
          refine WP_aload_n dX10_wants_66 rfl ?_
          refine WP_getr dX10_wants_67 fX10_33 rfl (lyx_is hy 0 10 rfl) (rfx hr 0 2 5 (by decide)) ?_
          refine WP_getr dX10_wants_70 fX10_102 rfl (lyx_is hy 5 0 rfl) hT ?_
          refine WP_getr dX10_wants_73 fX10_174 rfl (lyx_is hy 27 7 rfl) (rfx hr 27 12 35 (by decide)) ?_
          refine WP_iload dX10_wants_76 rfl ?_
          refine WQ_iald dX10_wants_78 (lyx_is hy 35 13 rfl) (lyx_n hy 35 28 rfl) (by omega) (by omega) (fun q hq => BT_get hI.1 35 0 28 (0) (0) (3) (by decide) q (Nat.zero_le _) hq) (fun v3342 av3342 bv3342 ev3342 => ?_)
          clear ev3342
          exact WP_iret dX10_wants_79 rfl ⟨⟨rfl, rfl, rfl⟩, _, rfl⟩
        · show WP _ _ 80 _ _ _ _ _ _
          refine WP_aload_n dX10_wants_80 rfl ?_
          refine WP_getr dX10_wants_81 fX10_33 rfl (lyx_is hy 0 10 rfl) (rfx hr 0 2 5 (by decide)) ?_
          refine WP_getr dX10_wants_84 fX10_102 rfl (lyx_is hy 5 0 rfl) hT ?_
          refine WP_getr dX10_wants_87 fX10_177 rfl (lyx_is hy 27 7 rfl) (rfx hr 27 13 36 (by decide)) ?_
          refine WP_iload dX10_wants_90 rfl ?_
          refine WQ_iald dX10_wants_92 (lyx_is hy 36 13 rfl) (lyx_n hy 36 28 rfl) (by omega) (by omega) (fun q hq => BT_get hI.1 36 0 28 (0) (0) (99) (by decide) q (Nat.zero_le _) hq) (fun v3343 av3343 bv3343 ev3343 => ?_)
          clear ev3343
          exact WP_iret dX10_wants_93 rfl ⟨⟨rfl, rfl, rfl⟩, _, rfl⟩
    · refine WQ_bipush (-2) (-2) dX10_wants_15 rfl rfl (fun v3344 hv3344 => ?_)
      exact WP_iret dX10_wants_17 rfl ⟨⟨rfl, rfl, rfl⟩, _, rfl⟩
set_option maxHeartbeats 4000000 in
set_option maxRecDepth 100000 in
theorem sx_night_27 {g : GG} {n : Int} {L : Int32} (hy : LyX g)  {I : pI} {J : pJ} {R : pR} (hr : RfX g R) (hT : R (ad g 5) 0 = some (ad g 27)) (hI : XI g n L I) (a : Int32) (b : Int32) (c : Int32)  : SP g mX10_night [.ref (ad g 0), .int a, .int b, .int c] I J R (fun r I' J' R' => (I' = I ∧ J' = J ∧ R' = R) ∧ ∃ v : Int32, r = some (.int v)) := by
  refine SP_of ⟨by decide, rfl⟩ (Nat.le_of_ble_eq_true rfl) ?_
  have e3345 : I (ad g 1) 1 = L := hI.2
  have b3346 := BT_get hI.1 1 1 2 (0) (0) (900) (by decide) 1 (by decide) (by decide)
  rw [e3345] at b3346
  refine WP_iload_n dX10_night_0 rfl ?_
  refine WP_iload_n dX10_night_1 rfl ?_
  refine WP_callS2 dX10_night_2 ⟨⟨⟨by decide, by decide⟩, zX10_isHeld⟩, lX10_180, tX10_isHeld⟩ (sx_isHeld hy hr hI a b  ) (Nat.le_of_ble_eq_true rfl) ?_
  intro r Ia Ja Ra hq
  obtain ⟨⟨ea, eb, ec⟩, v3347, rfl, av3347, bv3347, cv3347⟩ := hq
  show WP _ _ _ _ (.int _ :: _) _ _ _ _
  rw [ea, eb, ec]
  clear ea eb ec Ia Ja Ra
  refine WQ_if_eq 32 dX10_night_5 rfl (fun c3347 => ?_) (fun c3347 => ?_)
  · refine WQ_bipush (-2) (-2) dX10_night_32 rfl rfl (fun v3349 hv3349 => ?_)
    exact WP_iret dX10_night_34 rfl ⟨⟨rfl, rfl, rfl⟩, _, rfl⟩
  · refine WP_iload_n dX10_night_8 rfl ?_
    refine WP_callS1 dX10_night_9 ⟨⟨⟨by decide, by decide⟩, zX10_isDay⟩, lX10_156, tX10_isDay⟩ (sx_isDay hy hr hI c ) (Nat.le_of_ble_eq_true rfl) ?_
    intro r Ia Ja Ra hq
    obtain ⟨⟨ea, eb, ec⟩, v3350, rfl, av3350, bv3350, cv3350⟩ := hq
    show WP _ _ _ _ (.int _ :: _) _ _ _ _
    rw [ea, eb, ec]
    clear ea eb ec Ia Ja Ra
    refine WQ_if_eq 32 dX10_night_12 rfl (fun c3350 => ?_) (fun c3350 => ?_)
    · refine WQ_bipush (-2) (-2) dX10_night_32 rfl rfl (fun v3352 hv3352 => ?_)
      exact WP_iret dX10_night_34 rfl ⟨⟨rfl, rfl, rfl⟩, _, rfl⟩
    · refine WP_aload_n dX10_night_15 rfl ?_
      refine WP_getr dX10_night_16 fX10_33 rfl (lyx_is hy 0 10 rfl) (rfx hr 0 2 5 (by decide)) ?_
      refine WP_getr dX10_night_19 fX10_102 rfl (lyx_is hy 5 0 rfl) hT ?_
      refine WQ_geti dX10_night_22 fX10_117 rfl (lyx_is hy 27 7 rfl) (BT_get hI.1 27 2 3 (0) (0) (3) (by decide) 2 (by decide) (by decide)) (fun v3353 ev3353 av3353 bv3353 => ?_)
      refine WQ_if_ne 35 dX10_night_25 rfl (fun c3353 => ?_) (fun c3353 => ?_)
      · refine WP_aload_n dX10_night_35 rfl ?_
        refine WP_getr dX10_night_36 fX10_33 rfl (lyx_is hy 0 10 rfl) (rfx hr 0 2 5 (by decide)) ?_
        refine WP_iload_n dX10_night_39 rfl ?_
        refine WP_iload_n dX10_night_40 rfl ?_
        refine WP_iload_n dX10_night_41 rfl ?_
        refine WP_callV3 (k := 0) dX10_night_42 ⟨⟨⟨by decide, by decide⟩, zX0_coinsBehind⟩, lX10_184, by decide, rfl, vX0_coinsBehind.1, vX0_coinsBehind.2⟩ (lyx_is hy 5 0 rfl) (sx_coinsBehind hy hr hI a b c (by omega) (by omega) (by omega) (by omega) (by omega) (by omega)) (Nat.le_of_ble_eq_true rfl) ?_
        intro r Ia Ja Ra hq
        obtain ⟨⟨ea, eb, ec⟩, v3355, rfl, av3355, bv3355⟩ := hq
        show WP _ _ _ _ (.int _ :: _) _ _ _ _
        rw [ea, eb, ec]
        clear ea eb ec Ia Ja Ra
        exact WP_iret dX10_night_45 rfl ⟨⟨rfl, rfl, rfl⟩, _, rfl⟩
      · refine WP_iload_n dX10_night_28 rfl ?_
        refine WQ_if_le 35 dX10_night_29 rfl (fun c3355 => ?_) (fun c3355 => ?_)
        · refine WP_aload_n dX10_night_35 rfl ?_
          refine WP_getr dX10_night_36 fX10_33 rfl (lyx_is hy 0 10 rfl) (rfx hr 0 2 5 (by decide)) ?_
          refine WP_iload_n dX10_night_39 rfl ?_
          refine WP_iload_n dX10_night_40 rfl ?_
          refine WP_iload_n dX10_night_41 rfl ?_
          refine WP_callV3 (k := 0) dX10_night_42 ⟨⟨⟨by decide, by decide⟩, zX0_coinsBehind⟩, lX10_184, by decide, rfl, vX0_coinsBehind.1, vX0_coinsBehind.2⟩ (lyx_is hy 5 0 rfl) (sx_coinsBehind hy hr hI a b c (by omega) (by omega) (by omega) (by omega) (by omega) (by omega)) (Nat.le_of_ble_eq_true rfl) ?_
          intro r Ia Ja Ra hq
          obtain ⟨⟨ea, eb, ec⟩, v3357, rfl, av3357, bv3357⟩ := hq
          show WP _ _ _ _ (.int _ :: _) _ _ _ _
          rw [ea, eb, ec]
          clear ea eb ec Ia Ja Ra
          exact WP_iret dX10_night_45 rfl ⟨⟨rfl, rfl, rfl⟩, _, rfl⟩
        · refine WQ_bipush (-2) (-2) dX10_night_32 rfl rfl (fun v3358 hv3358 => ?_)
          exact WP_iret dX10_night_34 rfl ⟨⟨rfl, rfl, rfl⟩, _, rfl⟩
set_option maxHeartbeats 4000000 in
set_option maxRecDepth 100000 in
theorem sx_count_27 {g : GG} {n : Int} {L : Int32} (hy : LyX g)  {I : pI} {J : pJ} {R : pR} (hr : RfX g R) (hT : R (ad g 5) 0 = some (ad g 27)) (hI : XI g n L I) (a : Int32)  : SP g mX10_count [.ref (ad g 0), .int a] I J R (fun r I' J' R' => (I' = I ∧ J' = J ∧ R' = R) ∧ ∃ v : Int32, r = some (.int v)) := by
  refine SP_of ⟨by decide, rfl⟩ (Nat.le_of_ble_eq_true rfl) ?_
  have e3359 : I (ad g 1) 1 = L := hI.2
  have b3360 := BT_get hI.1 1 1 2 (0) (0) (900) (by decide) 1 (by decide) (by decide)
  rw [e3359] at b3360
  refine WP_iload_n dX10_count_0 rfl ?_
  have jn33_3364 : ∀ (v3364 : Int32), WP g mX10_count 33 [(0, .ref (ad g 0)), (1, .int a)] [.int v3364] I J R (fun r I' J' R' => (I' = I ∧ J' = J ∧ R' = R) ∧ ∃ v : Int32, r = some (.int v)) := by
    intro v3364 
    exact WP_iret dX10_count_33 rfl ⟨⟨rfl, rfl, rfl⟩, _, rfl⟩
  refine WX_if_ne 17 dX10_count_1 rfl ?_ ?_
  · refine WP_iload_n dX10_count_17 rfl ?_
    refine WQ_iconst (1) (1) dX10_count_18 rfl rfl (fun v3366 hv3366 => ?_)
    refine WX_icmp_ne 32 dX10_count_19 rfl ?_ ?_
    · refine WQ_iconst (-1) (-1) dX10_count_32 rfl rfl (fun v3367 hv3367 => ?_)
      exact WP_sub (fc rfl (fc rfl fn)) (jn33_3364 v3367)
    · refine WP_aload_n dX10_count_22 rfl ?_
      refine WP_getr dX10_count_23 fX10_12 rfl (lyx_is hy 0 10 rfl) (rfx hr 0 0 1 (by decide)) ?_
      refine WQ_getim dX10_count_26 fX10_90 rfl (lyx_is hy 1 5 rfl) e3359 ?_
      refine WP_goto 33 dX10_count_29 rfl ?_
      exact WP_sub (fc rfl (fc rfl fn)) (jn33_3364 L)
  · refine WP_aload_n dX10_count_4 rfl ?_
    refine WP_getr dX10_count_5 fX10_33 rfl (lyx_is hy 0 10 rfl) (rfx hr 0 2 5 (by decide)) ?_
    refine WP_getr dX10_count_8 fX10_102 rfl (lyx_is hy 5 0 rfl) hT ?_
    refine WQ_getiu dX10_count_11 fX10_105 rfl (lyx_is hy 27 7 rfl) (fun v3368 ev3368 => ?_)
    refine WP_goto 33 dX10_count_14 rfl ?_
    exact WP_sub (fc rfl (fc rfl fn)) (jn33_3364 v3368)
set_option maxHeartbeats 4000000 in
set_option maxRecDepth 100000 in
theorem sx_way_27 {g : GG} {n : Int} {L : Int32} (hy : LyX g)  {I : pI} {J : pJ} {R : pR} (hr : RfX g R) (hT : R (ad g 5) 0 = some (ad g 27)) (hI : XI g n L I) (a : Int32) (b : Int32)  : SP g mX10_way [.ref (ad g 0), .int a, .int b] I J R (fun r I' J' R' => (XI g n L I' ∧ R' = R) ∧ ∃ v : Int32, r = some (.int v)) := by
  refine SP_of ⟨by decide, rfl⟩ (Nat.le_of_ble_eq_true rfl) ?_
  have e3369 : I (ad g 1) 1 = L := hI.2
  have b3370 := BT_get hI.1 1 1 2 (0) (0) (900) (by decide) 1 (by decide) (by decide)
  rw [e3369] at b3370
  refine WP_aload_n dX10_way_0 rfl ?_
  refine WP_iload_n dX10_way_1 rfl ?_
  refine WP_callV1 (k := 10) dX10_way_2 ⟨⟨⟨by decide, by decide⟩, zX10_isSort⟩, lX10_152, by decide, rfl, vX10_isSort.1, vX10_isSort.2⟩ (lyx_is hy 0 10 rfl) (sx_isSort_27 hy hr hT hI a ) (Nat.le_of_ble_eq_true rfl) ?_
  intro r Ia Ja Ra hq
  obtain ⟨⟨ea, eb, ec⟩, v3371, rfl, av3371, bv3371, cv3371⟩ := hq
  show WP _ _ _ _ (.int _ :: _) _ _ _ _
  rw [ea, eb, ec]
  clear ea eb ec Ia Ja Ra
  refine WQ_if_eq 15 dX10_way_5 rfl (fun c3371 => ?_) (fun c3371 => ?_)
  · refine WQ_bipush (-2) (-2) dX10_way_15 rfl rfl (fun v3373 hv3373 => ?_)
    exact WP_iret dX10_way_17 rfl ⟨⟨hI, rfl⟩, _, rfl⟩
  · refine WP_iload_n dX10_way_8 rfl ?_
    refine WP_callS1 dX10_way_9 ⟨⟨⟨by decide, by decide⟩, zX10_isWay⟩, lX10_219, tX10_isWay⟩ (sx_isWay hy hr hI b ) (Nat.le_of_ble_eq_true rfl) ?_
    intro r Ia Ja Ra hq
    obtain ⟨⟨ea, eb, ec⟩, v3374, rfl, av3374, bv3374, cv3374⟩ := hq
    show WP _ _ _ _ (.int _ :: _) _ _ _ _
    rw [ea, eb, ec]
    clear ea eb ec Ia Ja Ra
    refine WQ_if_ne 18 dX10_way_12 rfl (fun c3374 => ?_) (fun c3374 => ?_)
    · refine WP_aload_n dX10_way_18 rfl ?_
      refine WP_getr dX10_way_19 fX10_62 rfl (lyx_is hy 0 10 rfl) (rfx hr 0 5 53 (by decide)) ?_
      refine WP_getr dX10_way_22 fX10_225 rfl (lyx_is hy 53 4 rfl) (rfx hr 53 4 54 (by decide)) ?_
      refine WP_iload_n dX10_way_25 rfl ?_
      refine WQ_ialdu dX10_way_26 (lyx_is hy 54 13 rfl) (lyx_n hy 54 4 rfl) (by omega) (by omega) (fun v3376 => ?_)
      refine WP_istore_n (ls' := [(0, _), (1, _), (2, _), (3, _)]) dX10_way_27 (by decide) rfl ?_
      refine WP_aload_n dX10_way_28 rfl ?_
      refine WP_getr dX10_way_29 fX10_62 rfl (lyx_is hy 0 10 rfl) (rfx hr 0 5 53 (by decide)) ?_
      refine WP_getr dX10_way_32 fX10_225 rfl (lyx_is hy 53 4 rfl) (rfx hr 53 4 54 (by decide)) ?_
      refine WP_iload_n dX10_way_35 rfl ?_
      refine WP_iload_n dX10_way_36 rfl ?_
      refine WQ_iast dX10_way_37 (lyx_is hy 54 13 rfl) (lyx_n hy 54 4 rfl) (by omega) (by omega) (fun I3377 eI3377 => ?_)
      have hI3377 : XI g n L I3377 := by rw [eI3377]; exact (xi_r0 hy hI (c := 54) (by decide) (Or.inl (by decide)) (by decide))
      have e3378 : I3377 (ad g 1) 1 = L := by rw [eI3377, pp_ne _ _ (Or.inl (lyx_ne hy (by decide) (by decide) (by decide)))]; exact e3369
      clear eI3377
      refine WP_iload_n dX10_way_38 rfl ?_
      exact WP_iret dX10_way_39 rfl ⟨⟨hI3377, rfl⟩, _, rfl⟩
    · refine WQ_bipush (-2) (-2) dX10_way_15 rfl rfl (fun v3379 hv3379 => ?_)
      exact WP_iret dX10_way_17 rfl ⟨⟨hI, rfl⟩, _, rfl⟩
set_option maxHeartbeats 4000000 in
set_option maxRecDepth 100000 in
theorem sx_run_27 {g : GG} {n : Int} {L : Int32} (hy : LyX g)  {I : pI} {J : pJ} {R : pR} (hr : RfX g R) (hT : R (ad g 5) 0 = some (ad g 27)) (hI : XI g n L I) (a : Int32) (b : Int32)  : SP g mX10_run [.ref (ad g 0), .int a, .int b] I J R (fun r I' J' R' => (I' = I ∧ J' = J ∧ R' = R) ∧ ∃ v : Int32, r = some (.int v)) := by
  refine SP_of ⟨by decide, rfl⟩ (Nat.le_of_ble_eq_true rfl) ?_
  have e3380 : I (ad g 1) 1 = L := hI.2
  have b3381 := BT_get hI.1 1 1 2 (0) (0) (900) (by decide) 1 (by decide) (by decide)
  rw [e3380] at b3381
  refine WP_aload_n dX10_run_0 rfl ?_
  refine WP_iload_n dX10_run_1 rfl ?_
  refine WP_callV1 (k := 10) dX10_run_2 ⟨⟨⟨by decide, by decide⟩, zX10_isSort⟩, lX10_152, by decide, rfl, vX10_isSort.1, vX10_isSort.2⟩ (lyx_is hy 0 10 rfl) (sx_isSort_27 hy hr hT hI a ) (Nat.le_of_ble_eq_true rfl) ?_
  intro r Ia Ja Ra hq
  obtain ⟨⟨ea, eb, ec⟩, v3382, rfl, av3382, bv3382, cv3382⟩ := hq
  show WP _ _ _ _ (.int _ :: _) _ _ _ _
  rw [ea, eb, ec]
  clear ea eb ec Ia Ja Ra
  refine WQ_if_eq 18 dX10_run_5 rfl (fun c3382 => ?_) (fun c3382 => ?_)
  · refine WQ_bipush (-2) (-2) dX10_run_18 rfl rfl (fun v3384 hv3384 => ?_)
    exact WP_iret dX10_run_20 rfl ⟨⟨rfl, rfl, rfl⟩, _, rfl⟩
  · refine WP_iload_n dX10_run_8 rfl ?_
    refine WQ_if_lt 18 dX10_run_9 rfl (fun c3384 => ?_) (fun c3384 => ?_)
    · refine WQ_bipush (-2) (-2) dX10_run_18 rfl rfl (fun v3386 hv3386 => ?_)
      exact WP_iret dX10_run_20 rfl ⟨⟨rfl, rfl, rfl⟩, _, rfl⟩
    · refine WP_iload_n dX10_run_12 rfl ?_
      refine WQ_bipush (7) (7) dX10_run_13 rfl rfl (fun v3387 hv3387 => ?_)
      refine WQ_icmp_lt 21 dX10_run_15 rfl (fun c3387 => ?_) (fun c3387 => ?_)
      · refine WP_aload_n dX10_run_21 rfl ?_
        refine WP_getr dX10_run_22 fX10_62 rfl (lyx_is hy 0 10 rfl) (rfx hr 0 5 53 (by decide)) ?_
        refine WP_getr dX10_run_25 fX10_235 rfl (lyx_is hy 53 4 rfl) (rfx hr 53 5 55 (by decide)) ?_
        refine WP_iload_n dX10_run_28 rfl ?_
        refine WQ_bipush (7) (7) dX10_run_29 rfl rfl (fun v3389 hv3389 => ?_)
        refine WQ_imulk (7) dX10_run_31 hv3389 (by omega) (by omega) (fun v3390 hv3390 => ?_)
        refine WP_iload_n dX10_run_32 rfl ?_
        refine WQ_iadd dX10_run_33 (by omega) (by omega) (fun v3391 hv3391 => ?_)
        refine WQ_ialdu dX10_run_34 (lyx_is hy 55 13 rfl) (lyx_n hy 55 28 rfl) (by omega) (by omega) (fun v3392 => ?_)
        exact WP_iret dX10_run_35 rfl ⟨⟨rfl, rfl, rfl⟩, _, rfl⟩
      · refine WQ_bipush (-2) (-2) dX10_run_18 rfl rfl (fun v3393 hv3393 => ?_)
        exact WP_iret dX10_run_20 rfl ⟨⟨rfl, rfl, rfl⟩, _, rfl⟩
set_option maxHeartbeats 4000000 in
set_option maxRecDepth 100000 in
theorem sx_anew_27 {g : GG} {n : Int} {L : Int32} (hy : LyX g)  {I : pI} {J : pJ} {R : pR} (hr : RfX g R) (hT : R (ad g 5) 0 = some (ad g 27)) (hI : XI g n L I)   (hn : 0 ≤ n) : SP g mX10_anew [.ref (ad g 0)] I J R (fun r I' J' R' => (XI g n L I' ∧ R' = R) ∧ ∃ v : Int32, r = some (.int v)) := by
  refine SP_of ⟨by decide, rfl⟩ (Nat.le_of_ble_eq_true rfl) ?_
  have e3394 : I (ad g 1) 1 = L := hI.2
  have b3395 := BT_get hI.1 1 1 2 (0) (0) (900) (by decide) 1 (by decide) (by decide)
  rw [e3394] at b3395
  refine WP_aload_n dX10_anew_0 rfl ?_
  refine WP_getr dX10_anew_1 fX10_62 rfl (lyx_is hy 0 10 rfl) (rfx hr 0 5 53 (by decide)) ?_
  refine WQ_getiu dX10_anew_4 fX10_232 rfl (lyx_is hy 53 4 rfl) (fun v3396 ev3396 => ?_)
  refine WP_istore_n (ls' := [(0, _), (1, _)]) dX10_anew_7 (by decide) rfl ?_
  refine WP_aload_n dX10_anew_8 rfl ?_
  refine WP_getr dX10_anew_9 fX10_62 rfl (lyx_is hy 0 10 rfl) (rfx hr 0 5 53 (by decide)) ?_
  refine WP_aload_n dX10_anew_12 rfl ?_
  refine WP_getr dX10_anew_13 fX10_33 rfl (lyx_is hy 0 10 rfl) (rfx hr 0 2 5 (by decide)) ?_
  refine WP_getr dX10_anew_16 fX10_102 rfl (lyx_is hy 5 0 rfl) hT ?_
  refine WP_callV1 (k := 4) dX10_anew_19 ⟨⟨⟨by decide, by decide⟩, zX4_begin⟩, lX10_246, by decide, rfl, vX4_begin.1, vX4_begin.2⟩ (lyx_is hy 53 4 rfl) (sx_begin_53_27 hy hr hI   (by omega)) (Nat.le_of_ble_eq_true rfl) ?_
  intro r I3397 J3398 Ra hq
  obtain ⟨⟨hI3397, ec⟩, rfl⟩ := hq
  rw [ec]
  clear ec Ra
  have e3399 : I3397 (ad g 1) 1 = L := hI3397.2
  have b3400 := BT_get hI3397.1 1 1 2 (0) (0) (900) (by decide) 1 (by decide) (by decide)
  rw [e3399] at b3400
  refine WP_iload_n dX10_anew_22 rfl ?_
  exact WP_iret dX10_anew_23 rfl ⟨⟨hI3397, rfl⟩, _, rfl⟩
set_option maxHeartbeats 4000000 in
set_option maxRecDepth 100000 in
theorem sx_settle_27 {g : GG} {n : Int} {L : Int32} (hy : LyX g)  {I : pI} {J : pJ} {R : pR} (hr : RfX g R) (hT : R (ad g 5) 0 = some (ad g 27)) (hI : XI g n L I)   (hn : 0 ≤ n) : SP g mX10_settle [.ref (ad g 0)] I J R (fun r I' J' R' => (XI g n L I' ∧ R' = R) ∧ r = none) := by
  refine SP_of ⟨by decide, rfl⟩ (Nat.le_of_ble_eq_true rfl) ?_
  have e3401 : I (ad g 1) 1 = L := hI.2
  have b3402 := BT_get hI.1 1 1 2 (0) (0) (900) (by decide) 1 (by decide) (by decide)
  rw [e3401] at b3402
  refine WP_aload_n dX10_settle_0 rfl ?_
  refine WP_getr dX10_settle_1 fX10_33 rfl (lyx_is hy 0 10 rfl) (rfx hr 0 2 5 (by decide)) ?_
  refine WP_callV0 (k := 0) dX10_settle_4 ⟨⟨⟨by decide, by decide⟩, zX0_open⟩, lX10_332, by decide, rfl, vX0_open.1, vX0_open.2⟩ (lyx_is hy 5 0 rfl) (sx_open_27 hy hr hT hI  ) (Nat.le_of_ble_eq_true rfl) ?_
  intro r I3403 J3404 Ra hq
  obtain ⟨⟨hI3403, ec⟩, rfl⟩ := hq
  rw [ec]
  clear ec Ra
  have e3405 : I3403 (ad g 1) 1 = L := hI3403.2
  have b3406 := BT_get hI3403.1 1 1 2 (0) (0) (900) (by decide) 1 (by decide) (by decide)
  rw [e3405] at b3406
  refine WP_aload_n dX10_settle_7 rfl ?_
  refine WP_getr dX10_settle_8 fX10_62 rfl (lyx_is hy 0 10 rfl) (rfx hr 0 5 53 (by decide)) ?_
  refine WP_aload_n dX10_settle_11 rfl ?_
  refine WP_getr dX10_settle_12 fX10_33 rfl (lyx_is hy 0 10 rfl) (rfx hr 0 2 5 (by decide)) ?_
  refine WP_getr dX10_settle_15 fX10_102 rfl (lyx_is hy 5 0 rfl) hT ?_
  refine WP_callV1 (k := 4) dX10_settle_18 ⟨⟨⟨by decide, by decide⟩, zX4_begin⟩, lX10_246, by decide, rfl, vX4_begin.1, vX4_begin.2⟩ (lyx_is hy 53 4 rfl) (sx_begin_53_27 hy hr hI3403   (by omega)) (Nat.le_of_ble_eq_true rfl) ?_
  intro r I3407 J3408 Ra hq
  obtain ⟨⟨hI3407, ec⟩, rfl⟩ := hq
  rw [ec]
  clear ec Ra
  have e3409 : I3407 (ad g 1) 1 = L := hI3407.2
  have b3410 := BT_get hI3407.1 1 1 2 (0) (0) (900) (by decide) 1 (by decide) (by decide)
  rw [e3409] at b3410
  refine WP_aload_n dX10_settle_21 rfl ?_
  refine WP_getr dX10_settle_22 fX10_62 rfl (lyx_is hy 0 10 rfl) (rfx hr 0 5 53 (by decide)) ?_
  refine WP_getr dX10_settle_25 fX10_225 rfl (lyx_is hy 53 4 rfl) (rfx hr 53 4 54 (by decide)) ?_
  refine WQ_iconst (1) (1) dX10_settle_28 rfl rfl (fun v3411 hv3411 => ?_)
  refine WP_callS2u dX10_settle_29 ⟨⟨⟨by decide, by decide⟩, zJ7_fill_53178⟩, lX10_335, tJ7_fill_53178⟩ (s_fill hy hr 54 4 rfl rfl (by decide) v3411) (Nat.le_of_ble_eq_true rfl) ?_
  obtain ⟨I3412, eI3412⟩ : ∃ I9 : pI, I9 = fi I3407 (ad g 54) 4 v3411 := ⟨_, rfl⟩
  rw [← eI3412]
  have hI3412 : XI g n L I3412 := by rw [eI3412]; exact (xi_fill0 hy hI3407 54 4 v3411 (by decide) (by decide))
  have e3413 : I3412 (ad g 1) 1 = L := by rw [eI3412, fi_off (lyx_ne hy (by decide) (by decide) (by decide))]; exact e3409
  clear eI3412
  refine WQ_iconst (0) (0) dX10_settle_32 rfl rfl (fun v3414 hv3414 => ?_)
  refine WP_istore_n (ls' := [(0, _), (1, _)]) dX10_settle_33 (by decide) rfl ?_
  have lp34_3417 : ∀ (mz : Nat) (i3415 : Int32) (I3416 : pI) (J3417 : pJ), XI g n L I3416 → 0 ≤ i3415.toInt → i3415.toInt ≤ 3 → (4 - i3415.toInt).toNat < mz → WP g mX10_settle 34 [(0, .ref (ad g 0)), (1, .int i3415)] [] I3416 J3417 R (fun r I' J' R' => (XI g n L I' ∧ R' = R) ∧ r = none) := by
    intro mz
    induction mz with
    | zero =>
      intro i3415 I3416 J3417 hI3416 ai3415 bi3415 hmlp34_3417
      exact absurd hmlp34_3417 (Nat.not_lt_zero _)
    | succ mz ihlp34_3417 =>
      intro i3415 I3416 J3417 hI3416 ai3415 bi3415 hmlp34_3417
      have e3419 : I3416 (ad g 1) 1 = L := hI3416.2
      have b3420 := BT_get hI3416.1 1 1 2 (0) (0) (900) (by decide) 1 (by decide) (by decide)
      rw [e3419] at b3420
      refine WP_iload_n dX10_settle_34 rfl ?_
      refine WQ_iconst (3) (3) dX10_settle_35 rfl rfl (fun v3421 hv3421 => ?_)
      refine WQ_icmp_ge 55 dX10_settle_36 rfl (fun c3421 => ?_) (fun c3421 => ?_)
      · refine WP_aload_n dX10_settle_55 rfl ?_
        refine WP_getr dX10_settle_56 fX10_83 rfl (lyx_is hy 0 10 rfl) (rfx hr 0 9 71 (by decide)) ?_
        refine WP_callV0 (k := 1) dX10_settle_59 ⟨⟨⟨by decide, by decide⟩, zX1_forget⟩, lX10_341, by decide, rfl, vX1_forget.1, vX1_forget.2⟩ (lyx_is hy 71 1 rfl) (sx_mforget hy hr hI3416  ) (Nat.le_of_ble_eq_true rfl) ?_
        intro r I3423 J3424 Ra hq
        obtain ⟨⟨hI3423, ec⟩, rfl⟩ := hq
        rw [ec]
        clear ec Ra
        have e3425 : I3423 (ad g 1) 1 = L := hI3423.2
        have b3426 := BT_get hI3423.1 1 1 2 (0) (0) (900) (by decide) 1 (by decide) (by decide)
        rw [e3425] at b3426
        refine WP_aload_n dX10_settle_62 rfl ?_
        refine WQ_iconst (-1) (-1) dX10_settle_63 rfl rfl (fun v3427 hv3427 => ?_)
        refine WQ_puti dX10_settle_64 fX10_263 rfl rfl (lyx_is hy 0 10 rfl) (fun I3428 eI3428 => ?_)
        have hI3428 : XI g n L I3428 := by rw [eI3428]; exact (xi_f0 hy hI3423 (c := 0) (by decide) (Or.inl (by decide)) (by decide))
        have e3429 : I3428 (ad g 1) 1 = L := by rw [eI3428, pp_ne _ _ (Or.inl (lyx_ne hy (by decide) (by decide) (by decide)))]; exact e3425
        have e3430 : I3428 (ad g 0) 11 = v3427 := by rw [eI3428, pp_self]
        clear eI3428
        exact WP_vret dX10_settle_67 rfl ⟨⟨hI3428, rfl⟩, rfl⟩
      · refine WP_aload_n dX10_settle_39 rfl ?_
        refine WP_getr dX10_settle_40 fX10_69 rfl (lyx_is hy 0 10 rfl) (rfx hr 0 7 59 (by decide)) ?_
        refine WP_iload_n dX10_settle_43 rfl ?_
        rcases (show i3415.toInt = 0 ∨ i3415.toInt = 1 ∨ i3415.toInt = 2 by omega) with k3431 | k3432 | k3433
        · refine WQ_aald (q := 0) dX10_settle_44 (lyx_is hy 59 16 rfl) (lyx_n hy 59 3 rfl) k3431 (by decide) (rfx hr 59 0 60 (by decide)) ?_
          refine WQ_iconst (-1) (-1) dX10_settle_45 rfl rfl (fun v3434 hv3434 => ?_)
          refine WQ_puti dX10_settle_46 fX10_232 rfl rfl (lyx_is hy 60 4 rfl) (fun I3435 eI3435 => ?_)
          have hI3435 : XI g n L I3435 := by rw [eI3435]; exact (xi_f0 hy hI3416 (c := 60) (by decide) (Or.inl (by decide)) (by decide))
          have e3436 : I3435 (ad g 1) 1 = L := by rw [eI3435, pp_ne _ _ (Or.inl (lyx_ne hy (by decide) (by decide) (by decide)))]; exact e3419
          have e3437 : I3435 (ad g 60) 0 = v3434 := by rw [eI3435, pp_self]
          clear eI3435
          refine WP_iinc (ls' := [(0, _), (1, _)]) dX10_settle_49 rfl (by decide) rfl ?_
          have hv3438 : (i3415 + Int32.ofInt (1)).toInt = i3415.toInt + (1) := ia_n rfl (by omega) (by omega)
          generalize i3415 + Int32.ofInt (1) = v3438 at hv3438 ⊢
          refine WP_goto 34 dX10_settle_52 rfl ?_
          exact WP_sub (fc rfl (fc rfl fn)) (ihlp34_3417 v3438 I3435 J3417 hI3435 (by omega) (by omega) (by omega))
        · refine WQ_aald (q := 1) dX10_settle_44 (lyx_is hy 59 16 rfl) (lyx_n hy 59 3 rfl) k3432 (by decide) (rfx hr 59 1 63 (by decide)) ?_
          refine WQ_iconst (-1) (-1) dX10_settle_45 rfl rfl (fun v3439 hv3439 => ?_)
          refine WQ_puti dX10_settle_46 fX10_232 rfl rfl (lyx_is hy 63 4 rfl) (fun I3440 eI3440 => ?_)
          have hI3440 : XI g n L I3440 := by rw [eI3440]; exact (xi_f0 hy hI3416 (c := 63) (by decide) (Or.inl (by decide)) (by decide))
          have e3441 : I3440 (ad g 1) 1 = L := by rw [eI3440, pp_ne _ _ (Or.inl (lyx_ne hy (by decide) (by decide) (by decide)))]; exact e3419
          have e3442 : I3440 (ad g 63) 0 = v3439 := by rw [eI3440, pp_self]
          clear eI3440
          refine WP_iinc (ls' := [(0, _), (1, _)]) dX10_settle_49 rfl (by decide) rfl ?_
          have hv3443 : (i3415 + Int32.ofInt (1)).toInt = i3415.toInt + (1) := ia_n rfl (by omega) (by omega)
          generalize i3415 + Int32.ofInt (1) = v3443 at hv3443 ⊢
          refine WP_goto 34 dX10_settle_52 rfl ?_
          exact WP_sub (fc rfl (fc rfl fn)) (ihlp34_3417 v3443 I3440 J3417 hI3440 (by omega) (by omega) (by omega))
        · refine WQ_aald (q := 2) dX10_settle_44 (lyx_is hy 59 16 rfl) (lyx_n hy 59 3 rfl) k3433 (by decide) (rfx hr 59 2 66 (by decide)) ?_
          refine WQ_iconst (-1) (-1) dX10_settle_45 rfl rfl (fun v3444 hv3444 => ?_)
          refine WQ_puti dX10_settle_46 fX10_232 rfl rfl (lyx_is hy 66 4 rfl) (fun I3445 eI3445 => ?_)
          have hI3445 : XI g n L I3445 := by rw [eI3445]; exact (xi_f0 hy hI3416 (c := 66) (by decide) (Or.inl (by decide)) (by decide))
          have e3446 : I3445 (ad g 1) 1 = L := by rw [eI3445, pp_ne _ _ (Or.inl (lyx_ne hy (by decide) (by decide) (by decide)))]; exact e3419
          have e3447 : I3445 (ad g 66) 0 = v3444 := by rw [eI3445, pp_self]
          clear eI3445
          refine WP_iinc (ls' := [(0, _), (1, _)]) dX10_settle_49 rfl (by decide) rfl ?_
          have hv3448 : (i3415 + Int32.ofInt (1)).toInt = i3415.toInt + (1) := ia_n rfl (by omega) (by omega)
          generalize i3415 + Int32.ofInt (1) = v3448 at hv3448 ⊢
          refine WP_goto 34 dX10_settle_52 rfl ?_
          exact WP_sub (fc rfl (fc rfl fn)) (ihlp34_3417 v3448 I3445 J3417 hI3445 (by omega) (by omega) (by omega))
  exact WP_sub (fc rfl (fc rfl fn)) (lp34_3417 _ v3414 I3412 J3408 hI3412 (by omega) (by omega) (Nat.lt_succ_self _))
set_option maxHeartbeats 4000000 in
set_option maxRecDepth 100000 in
theorem sx_meet_27 {g : GG} {n : Int} {L : Int32} (hy : LyX g)  {I : pI} {J : pJ} {R : pR} (hr : RfX g R) (hT : R (ad g 5) 0 = some (ad g 27)) (hI : XI g n L I) (a : Int32) (b : Int32) (c : Int32) (e : Int32) (f : Int32) (h : Int32)  : SP g mX10_meet [.ref (ad g 0), .int a, .int b, .int c, .int e, .int f, .int h] I J R (fun r I' J' R' => (XI g n L I' ∧ R' = R) ∧ ∃ v : Int32, r = some (.int v)) := by
  refine SP_of ⟨by decide, rfl⟩ (Nat.le_of_ble_eq_true rfl) ?_
  have e3449 : I (ad g 1) 1 = L := hI.2
  have b3450 := BT_get hI.1 1 1 2 (0) (0) (900) (by decide) 1 (by decide) (by decide)
  rw [e3449] at b3450
  refine WP_aload_n dX10_meet_0 rfl ?_
  refine WP_iload_n dX10_meet_1 rfl ?_
  refine WP_callV1 (k := 10) dX10_meet_2 ⟨⟨⟨by decide, by decide⟩, zX10_isSort⟩, lX10_152, by decide, rfl, vX10_isSort.1, vX10_isSort.2⟩ (lyx_is hy 0 10 rfl) (sx_isSort_27 hy hr hT hI a ) (Nat.le_of_ble_eq_true rfl) ?_
  intro r Ia Ja Ra hq
  obtain ⟨⟨ea, eb, ec⟩, v3451, rfl, av3451, bv3451, cv3451⟩ := hq
  show WP _ _ _ _ (.int _ :: _) _ _ _ _
  rw [ea, eb, ec]
  clear ea eb ec Ia Ja Ra
  refine WQ_if_eq 39 dX10_meet_5 rfl (fun c3451 => ?_) (fun c3451 => ?_)
  · refine WP_ldcw (-1000000) dX10_meet_39 kX10_309 ?_
    obtain ⟨v3453, hv3453, ev3453⟩ : ∃ v : Int32, v.toInt = -1000000 ∧ ((-1000000) : Int32) = v := ⟨(-1000000), rfl, rfl⟩
    rw [ev3453]; clear ev3453
    exact WP_iret dX10_meet_42 rfl ⟨⟨hI, rfl⟩, _, rfl⟩
  · refine WP_iload_n dX10_meet_8 rfl ?_
    refine WQ_if_lt 39 dX10_meet_9 rfl (fun c3453 => ?_) (fun c3453 => ?_)
    · refine WP_ldcw (-1000000) dX10_meet_39 kX10_309 ?_
      obtain ⟨v3455, hv3455, ev3455⟩ : ∃ v : Int32, v.toInt = -1000000 ∧ ((-1000000) : Int32) = v := ⟨(-1000000), rfl, rfl⟩
      rw [ev3455]; clear ev3455
      exact WP_iret dX10_meet_42 rfl ⟨⟨hI, rfl⟩, _, rfl⟩
    · refine WP_iload_n dX10_meet_12 rfl ?_
      refine WQ_iconst (1) (1) dX10_meet_13 rfl rfl (fun v3456 hv3456 => ?_)
      refine WP_aload_n dX10_meet_14 rfl ?_
      refine WP_getr dX10_meet_15 fX10_33 rfl (lyx_is hy 0 10 rfl) (rfx hr 0 2 5 (by decide)) ?_
      refine WP_getr dX10_meet_18 fX10_102 rfl (lyx_is hy 5 0 rfl) hT ?_
      refine WQ_geti dX10_meet_21 fX10_114 rfl (lyx_is hy 27 7 rfl) (BT_get hI.1 27 1 2 (0) (0) (4) (by decide) 1 (by decide) (by decide)) (fun v3457 ev3457 av3457 bv3457 => ?_)
      refine WQ_ishl1 dX10_meet_24 hv3456 (by omega) (by omega) (fun v3458 av3458 bv3458 => ?_)
      refine WQ_icmp_ge 39 dX10_meet_25 rfl (fun c3458 => ?_) (fun c3458 => ?_)
      · refine WP_ldcw (-1000000) dX10_meet_39 kX10_309 ?_
        obtain ⟨v3460, hv3460, ev3460⟩ : ∃ v : Int32, v.toInt = -1000000 ∧ ((-1000000) : Int32) = v := ⟨(-1000000), rfl, rfl⟩
        rw [ev3460]; clear ev3460
        exact WP_iret dX10_meet_42 rfl ⟨⟨hI, rfl⟩, _, rfl⟩
      · refine WP_iload_n dX10_meet_28 rfl ?_
        refine WP_iload dX10_meet_29 rfl ?_
        refine WP_iload dX10_meet_31 rfl ?_
        refine WP_callS3 dX10_meet_33 ⟨⟨⟨by decide, by decide⟩, zX10_isMeeting⟩, lX10_306, tX10_isMeeting⟩ (sx_isMeeting hy hr hI c e f   ) (Nat.le_of_ble_eq_true rfl) ?_
        intro r Ia Ja Ra hq
        obtain ⟨⟨ea, eb, ec⟩, v3461, rfl, av3461, bv3461, cv3461⟩ := hq
        show WP _ _ _ _ (.int _ :: _) _ _ _ _
        rw [ea, eb, ec]
        clear ea eb ec Ia Ja Ra
        refine WQ_if_ne 43 dX10_meet_36 rfl (fun c3461 => ?_) (fun c3461 => ?_)
        · refine WP_iload dX10_meet_43 rfl ?_
          refine WQ_if_eq 58 dX10_meet_45 rfl (fun c3462 => ?_) (fun c3462 => ?_)
          · refine WP_aload_n dX10_meet_58 rfl ?_
            refine WP_getr dX10_meet_59 fX10_83 rfl (lyx_is hy 0 10 rfl) (rfx hr 0 9 71 (by decide)) ?_
            refine WP_aload_n dX10_meet_62 rfl ?_
            refine WP_getr dX10_meet_63 fX10_33 rfl (lyx_is hy 0 10 rfl) (rfx hr 0 2 5 (by decide)) ?_
            refine WP_getr dX10_meet_66 fX10_102 rfl (lyx_is hy 5 0 rfl) hT ?_
            refine WP_iload_n dX10_meet_69 rfl ?_
            refine WP_iload_n dX10_meet_70 rfl ?_
            refine WP_callV3 (k := 1) dX10_meet_71 ⟨⟨⟨by decide, by decide⟩, zX1_start⟩, lX10_310, by decide, rfl, vX1_start.1, vX1_start.2⟩ (lyx_is hy 71 1 rfl) (sx_start_27 hy hr hI b c  (by omega) (by omega)) (Nat.le_of_ble_eq_true rfl) ?_
            intro r I3464 J3465 Ra hq
            obtain ⟨⟨hI3464, ec⟩, rfl⟩ := hq
            rw [ec]
            clear ec Ra
            have e3466 : I3464 (ad g 1) 1 = L := hI3464.2
            have b3467 := BT_get hI3464.1 1 1 2 (0) (0) (900) (by decide) 1 (by decide) (by decide)
            rw [e3466] at b3467
            refine WP_aload_n dX10_meet_74 rfl ?_
            refine WP_getr dX10_meet_75 fX10_83 rfl (lyx_is hy 0 10 rfl) (rfx hr 0 9 71 (by decide)) ?_
            refine WP_iload_n dX10_meet_78 rfl ?_
            refine WP_iload dX10_meet_79 rfl ?_
            refine WP_iload dX10_meet_81 rfl ?_
            refine WP_callV3 (k := 1) dX10_meet_83 ⟨⟨⟨by decide, by decide⟩, zX1_goOn⟩, lX10_314, by decide, rfl, vX1_goOn.1, vX1_goOn.2⟩ (lyx_is hy 71 1 rfl) (sx_goOn hy hr hI3464 a e f (by omega) (by omega)  (by omega) (by omega)) (Nat.le_of_ble_eq_true rfl) ?_
            intro r I3468 J3469 Ra hq
            obtain ⟨⟨hI3468, ec⟩, rfl⟩ := hq
            rw [ec]
            clear ec Ra
            have e3470 : I3468 (ad g 1) 1 = L := hI3468.2
            have b3471 := BT_get hI3468.1 1 1 2 (0) (0) (900) (by decide) 1 (by decide) (by decide)
            rw [e3470] at b3471
            refine WP_iload dX10_meet_86 rfl ?_
            refine WQ_if_ne 101 dX10_meet_88 rfl (fun c3472 => False.elim (by omega)) (fun c3472 => ?_)
            refine WP_aload_n dX10_meet_91 rfl ?_
            refine WP_getr dX10_meet_92 fX10_83 rfl (lyx_is hy 0 10 rfl) (rfx hr 0 9 71 (by decide)) ?_
            refine WQ_getl dX10_meet_95 fX10_318 rfl (lyx_is hy 71 1 rfl) (fun l3474 el3474 => ?_)
            refine WP_goto 108 dX10_meet_98 rfl ?_
            refine WQ_l2i dX10_meet_108 (fun v3475 => ?_)
            exact WP_iret dX10_meet_109 rfl ⟨⟨hI3468, rfl⟩, _, rfl⟩
          · refine WP_iload dX10_meet_48 rfl ?_
            refine WQ_iconst (1) (1) dX10_meet_50 rfl rfl (fun v3476 hv3476 => ?_)
            refine WQ_icmp_eq 58 dX10_meet_51 rfl (fun c3476 => ?_) (fun c3476 => ?_)
            · refine WP_aload_n dX10_meet_58 rfl ?_
              refine WP_getr dX10_meet_59 fX10_83 rfl (lyx_is hy 0 10 rfl) (rfx hr 0 9 71 (by decide)) ?_
              refine WP_aload_n dX10_meet_62 rfl ?_
              refine WP_getr dX10_meet_63 fX10_33 rfl (lyx_is hy 0 10 rfl) (rfx hr 0 2 5 (by decide)) ?_
              refine WP_getr dX10_meet_66 fX10_102 rfl (lyx_is hy 5 0 rfl) hT ?_
              refine WP_iload_n dX10_meet_69 rfl ?_
              refine WP_iload_n dX10_meet_70 rfl ?_
              refine WP_callV3 (k := 1) dX10_meet_71 ⟨⟨⟨by decide, by decide⟩, zX1_start⟩, lX10_310, by decide, rfl, vX1_start.1, vX1_start.2⟩ (lyx_is hy 71 1 rfl) (sx_start_27 hy hr hI b c  (by omega) (by omega)) (Nat.le_of_ble_eq_true rfl) ?_
              intro r I3478 J3479 Ra hq
              obtain ⟨⟨hI3478, ec⟩, rfl⟩ := hq
              rw [ec]
              clear ec Ra
              have e3480 : I3478 (ad g 1) 1 = L := hI3478.2
              have b3481 := BT_get hI3478.1 1 1 2 (0) (0) (900) (by decide) 1 (by decide) (by decide)
              rw [e3480] at b3481
              refine WP_aload_n dX10_meet_74 rfl ?_
              refine WP_getr dX10_meet_75 fX10_83 rfl (lyx_is hy 0 10 rfl) (rfx hr 0 9 71 (by decide)) ?_
              refine WP_iload_n dX10_meet_78 rfl ?_
              refine WP_iload dX10_meet_79 rfl ?_
              refine WP_iload dX10_meet_81 rfl ?_
              refine WP_callV3 (k := 1) dX10_meet_83 ⟨⟨⟨by decide, by decide⟩, zX1_goOn⟩, lX10_314, by decide, rfl, vX1_goOn.1, vX1_goOn.2⟩ (lyx_is hy 71 1 rfl) (sx_goOn hy hr hI3478 a e f (by omega) (by omega)  (by omega) (by omega)) (Nat.le_of_ble_eq_true rfl) ?_
              intro r I3482 J3483 Ra hq
              obtain ⟨⟨hI3482, ec⟩, rfl⟩ := hq
              rw [ec]
              clear ec Ra
              have e3484 : I3482 (ad g 1) 1 = L := hI3482.2
              have b3485 := BT_get hI3482.1 1 1 2 (0) (0) (900) (by decide) 1 (by decide) (by decide)
              rw [e3484] at b3485
              refine WP_iload dX10_meet_86 rfl ?_
              refine WQ_if_ne 101 dX10_meet_88 rfl (fun c3486 => ?_) (fun c3486 => False.elim (by omega))
              refine WP_aload_n dX10_meet_101 rfl ?_
              refine WP_getr dX10_meet_102 fX10_83 rfl (lyx_is hy 0 10 rfl) (rfx hr 0 9 71 (by decide)) ?_
              refine WQ_getl dX10_meet_105 fX10_322 rfl (lyx_is hy 71 1 rfl) (fun l3488 el3488 => ?_)
              refine WQ_l2i dX10_meet_108 (fun v3489 => ?_)
              exact WP_iret dX10_meet_109 rfl ⟨⟨hI3482, rfl⟩, _, rfl⟩
            · refine WP_ldcw (-1000000) dX10_meet_54 kX10_309 ?_
              obtain ⟨v3490, hv3490, ev3490⟩ : ∃ v : Int32, v.toInt = -1000000 ∧ ((-1000000) : Int32) = v := ⟨(-1000000), rfl, rfl⟩
              rw [ev3490]; clear ev3490
              exact WP_iret dX10_meet_57 rfl ⟨⟨hI, rfl⟩, _, rfl⟩
        · refine WP_ldcw (-1000000) dX10_meet_39 kX10_309 ?_
          obtain ⟨v3491, hv3491, ev3491⟩ : ∃ v : Int32, v.toInt = -1000000 ∧ ((-1000000) : Int32) = v := ⟨(-1000000), rfl, rfl⟩
          rw [ev3491]; clear ev3491
          exact WP_iret dX10_meet_42 rfl ⟨⟨hI, rfl⟩, _, rfl⟩
set_option maxHeartbeats 4000000 in
set_option maxRecDepth 100000 in
theorem sx_rests_27 {g : GG} {n : Int} {L : Int32} (hy : LyX g)  {I : pI} {J : pJ} {R : pR} (hr : RfX g R) (hT : R (ad g 5) 0 = some (ad g 27)) (hI : XI g n L I) (a : Int32) (b : Int32) (c : Int32)  : SP g mX10_rests [.ref (ad g 0), .int a, .int b, .int c] I J R (fun r I' J' R' => (XI g n L I' ∧ R' = R) ∧ ∃ v : Int32, r = some (.int v)) := by
  refine SP_of ⟨by decide, rfl⟩ (Nat.le_of_ble_eq_true rfl) ?_
  have e3492 : I (ad g 1) 1 = L := hI.2
  have b3493 := BT_get hI.1 1 1 2 (0) (0) (900) (by decide) 1 (by decide) (by decide)
  rw [e3492] at b3493
  refine WP_iload_n dX10_rests_0 rfl ?_
  refine WP_iload_n dX10_rests_1 rfl ?_
  refine WP_iload_n dX10_rests_2 rfl ?_
  refine WP_callS3 dX10_rests_3 ⟨⟨⟨by decide, by decide⟩, zX10_isMeeting⟩, lX10_306, tX10_isMeeting⟩ (sx_isMeeting hy hr hI a b c   ) (Nat.le_of_ble_eq_true rfl) ?_
  intro r Ia Ja Ra hq
  obtain ⟨⟨ea, eb, ec⟩, v3494, rfl, av3494, bv3494, cv3494⟩ := hq
  show WP _ _ _ _ (.int _ :: _) _ _ _ _
  rw [ea, eb, ec]
  clear ea eb ec Ia Ja Ra
  refine WQ_if_ne 12 dX10_rests_6 rfl (fun c3494 => ?_) (fun c3494 => ?_)
  · refine WQ_iconst (1) (1) dX10_rests_12 rfl rfl (fun v3496 hv3496 => ?_)
    refine WP_aload_n dX10_rests_13 rfl ?_
    refine WP_getr dX10_rests_14 fX10_33 rfl (lyx_is hy 0 10 rfl) (rfx hr 0 2 5 (by decide)) ?_
    refine WP_getr dX10_rests_17 fX10_102 rfl (lyx_is hy 5 0 rfl) hT ?_
    refine WQ_geti dX10_rests_20 fX10_114 rfl (lyx_is hy 27 7 rfl) (BT_get hI.1 27 1 2 (0) (0) (4) (by decide) 1 (by decide) (by decide)) (fun v3497 ev3497 av3497 bv3497 => ?_)
    refine WQ_ishl1 dX10_rests_23 hv3496 (by omega) (by omega) (fun v3498 av3498 bv3498 => ?_)
    refine WP_istore (ls' := [(0, _), (1, _), (2, _), (3, _), (4, _)]) dX10_rests_24 (by decide) rfl ?_
    refine WQ_iconst (0) (0) dX10_rests_26 rfl rfl (fun v3499 hv3499 => ?_)
    refine WP_istore (ls' := [(0, _), (1, _), (2, _), (3, _), (4, _), (5, _)]) dX10_rests_27 (by decide) rfl ?_
    refine WQ_iconst (0) (0) dX10_rests_29 rfl rfl (fun v3500 hv3500 => ?_)
    refine WP_istore (ls' := [(0, _), (1, _), (2, _), (3, _), (4, _), (5, _), (6, _)]) dX10_rests_30 (by decide) rfl ?_
    have lp32_3504 : ∀ (mz : Nat) (i3501 : Int32) (i3502 : Int32) (I3503 : pI) (J3504 : pJ), XI g n L I3503 → 0 ≤ i3502.toInt → i3502.toInt ≤ 16 → (17 - i3502.toInt).toNat < mz → WP g mX10_rests 32 [(0, .ref (ad g 0)), (1, .int a), (2, .int b), (3, .int c), (4, .int v3498), (5, .int i3501), (6, .int i3502)] [] I3503 J3504 R (fun r I' J' R' => (XI g n L I' ∧ R' = R) ∧ ∃ v : Int32, r = some (.int v)) := by
      intro mz
      induction mz with
      | zero =>
        intro i3501 i3502 I3503 J3504 hI3503 ai3502 bi3502 hmlp32_3504
        exact absurd hmlp32_3504 (Nat.not_lt_zero _)
      | succ mz ihlp32_3504 =>
        intro i3501 i3502 I3503 J3504 hI3503 ai3502 bi3502 hmlp32_3504
        have e3506 : I3503 (ad g 1) 1 = L := hI3503.2
        have b3507 := BT_get hI3503.1 1 1 2 (0) (0) (900) (by decide) 1 (by decide) (by decide)
        rw [e3506] at b3507
        refine WP_iload dX10_rests_32 rfl ?_
        refine WP_iload dX10_rests_34 rfl ?_
        refine WQ_icmp_ge 83 dX10_rests_36 rfl (fun c3507 => ?_) (fun c3507 => ?_)
        · refine WP_iload dX10_rests_83 rfl ?_
          exact WP_iret dX10_rests_85 rfl ⟨⟨hI3503, rfl⟩, _, rfl⟩
        · refine WP_aload_n dX10_rests_39 rfl ?_
          refine WP_getr dX10_rests_40 fX10_83 rfl (lyx_is hy 0 10 rfl) (rfx hr 0 9 71 (by decide)) ?_
          refine WP_aload_n dX10_rests_43 rfl ?_
          refine WP_getr dX10_rests_44 fX10_33 rfl (lyx_is hy 0 10 rfl) (rfx hr 0 2 5 (by decide)) ?_
          refine WP_getr dX10_rests_47 fX10_102 rfl (lyx_is hy 5 0 rfl) hT ?_
          refine WP_iload dX10_rests_50 rfl ?_
          refine WP_iload_n dX10_rests_52 rfl ?_
          refine WP_callV3 (k := 1) dX10_rests_53 ⟨⟨⟨by decide, by decide⟩, zX1_start⟩, lX10_310, by decide, rfl, vX1_start.1, vX1_start.2⟩ (lyx_is hy 71 1 rfl) (sx_start_27 hy hr hI3503 i3502 a  (by omega) (by omega)) (Nat.le_of_ble_eq_true rfl) ?_
          intro r I3509 J3510 Ra hq
          obtain ⟨⟨hI3509, ec⟩, rfl⟩ := hq
          rw [ec]
          clear ec Ra
          have e3511 : I3509 (ad g 1) 1 = L := hI3509.2
          have b3512 := BT_get hI3509.1 1 1 2 (0) (0) (900) (by decide) 1 (by decide) (by decide)
          rw [e3511] at b3512
          refine WP_aload_n dX10_rests_56 rfl ?_
          refine WP_getr dX10_rests_57 fX10_83 rfl (lyx_is hy 0 10 rfl) (rfx hr 0 9 71 (by decide)) ?_
          refine WP_iload_n dX10_rests_60 rfl ?_
          refine WP_iload_n dX10_rests_61 rfl ?_
          refine WP_callV2 (k := 1) dX10_rests_62 ⟨⟨⟨by decide, by decide⟩, zX1_isAtRest⟩, lX10_325, by decide, rfl, vX1_isAtRest.1, vX1_isAtRest.2⟩ (lyx_is hy 71 1 rfl) (sx_isAtRest hy hr hI3509 b c  (by omega) (by omega)) (Nat.le_of_ble_eq_true rfl) ?_
          intro r I3513 J3514 Ra hq
          obtain ⟨⟨hI3513, ec⟩, v3515, rfl, av3515, bv3515⟩ := hq
          show WP _ _ _ _ (.int _ :: _) _ _ _ _
          rw [ec]
          clear ec Ra
          have e3516 : I3513 (ad g 1) 1 = L := hI3513.2
          have b3517 := BT_get hI3513.1 1 1 2 (0) (0) (900) (by decide) 1 (by decide) (by decide)
          rw [e3516] at b3517
          refine WQ_if_eq 77 dX10_rests_65 rfl (fun c3517 => ?_) (fun c3517 => ?_)
          · refine WP_iinc (ls' := [(0, _), (1, _), (2, _), (3, _), (4, _), (5, _), (6, _)]) dX10_rests_77 rfl (by decide) rfl ?_
            have hv3519 : (i3502 + Int32.ofInt (1)).toInt = i3502.toInt + (1) := ia_n rfl (by omega) (by omega)
            generalize i3502 + Int32.ofInt (1) = v3519 at hv3519 ⊢
            refine WP_goto 32 dX10_rests_80 rfl ?_
            exact WP_sub (fc rfl (fc rfl (fc rfl (fc rfl (fc rfl (fc rfl (fc rfl fn))))))) (ihlp32_3504 i3501 v3519 I3513 J3514 hI3513 (by omega) (by omega) (by omega))
          · refine WP_iload dX10_rests_68 rfl ?_
            refine WQ_iconst (1) (1) dX10_rests_70 rfl rfl (fun v3520 hv3520 => ?_)
            refine WP_iload dX10_rests_71 rfl ?_
            refine WQ_ishlu dX10_rests_73 (fun v3521 => ?_)
            refine WQ_ioru dX10_rests_74 (fun v3522 => ?_)
            refine WP_istore (ls' := [(0, _), (1, _), (2, _), (3, _), (4, _), (5, _), (6, _)]) dX10_rests_75 (by decide) rfl ?_
            refine WP_iinc (ls' := [(0, _), (1, _), (2, _), (3, _), (4, _), (5, _), (6, _)]) dX10_rests_77 rfl (by decide) rfl ?_
            have hv3523 : (i3502 + Int32.ofInt (1)).toInt = i3502.toInt + (1) := ia_n rfl (by omega) (by omega)
            generalize i3502 + Int32.ofInt (1) = v3523 at hv3523 ⊢
            refine WP_goto 32 dX10_rests_80 rfl ?_
            exact WP_sub (fc rfl (fc rfl (fc rfl (fc rfl (fc rfl (fc rfl (fc rfl fn))))))) (ihlp32_3504 v3522 v3523 I3513 J3514 hI3513 (by omega) (by omega) (by omega))
    exact WP_sub (fc rfl (fc rfl (fc rfl (fc rfl (fc rfl (fc rfl (fc rfl fn))))))) (lp32_3504 _ v3499 v3500 I J hI (by omega) (by omega) (Nat.lt_succ_self _))
  · refine WQ_bipush (-2) (-2) dX10_rests_9 rfl rfl (fun v3524 hv3524 => ?_)
    exact WP_iret dX10_rests_11 rfl ⟨⟨hI, rfl⟩, _, rfl⟩
set_option maxHeartbeats 4000000 in
set_option maxRecDepth 100000 in
theorem sx_keep {g : GG} {n : Int} {L : Int32} (hy : LyX g)  {I : pI} {J : pJ} {R : pR} (hr : RfX g R) (hI : XI g n L I) (a : Int32)  : SP g mX10_keep [.ref (ad g 0), .int a] I J R (fun r I' J' R' => (XI g n L I' ∧ R' = R) ∧ ∃ v : Int32, r = some (.int v)) := by
  refine SP_of ⟨by decide, rfl⟩ (Nat.le_of_ble_eq_true rfl) ?_
  have e3525 : I (ad g 1) 1 = L := hI.2
  have b3526 := BT_get hI.1 1 1 2 (0) (0) (900) (by decide) 1 (by decide) (by decide)
  rw [e3525] at b3526
  refine WP_iload_n dX10_keep_0 rfl ?_
  refine WQ_if_lt 9 dX10_keep_1 rfl (fun c3526 => ?_) (fun c3526 => ?_)
  · refine WQ_bipush (-2) (-2) dX10_keep_9 rfl rfl (fun v3528 hv3528 => ?_)
    exact WP_iret dX10_keep_11 rfl ⟨⟨hI, rfl⟩, _, rfl⟩
  · refine WP_iload_n dX10_keep_4 rfl ?_
    refine WQ_iconst (3) (3) dX10_keep_5 rfl rfl (fun v3529 hv3529 => ?_)
    refine WQ_icmp_lt 12 dX10_keep_6 rfl (fun c3529 => ?_) (fun c3529 => ?_)
    · refine WP_aload_n dX10_keep_12 rfl ?_
      refine WP_getr dX10_keep_13 fX10_69 rfl (lyx_is hy 0 10 rfl) (rfx hr 0 7 59 (by decide)) ?_
      refine WP_iload_n dX10_keep_16 rfl ?_
      rcases (show a.toInt = 0 ∨ a.toInt = 1 ∨ a.toInt = 2 by omega) with k3531 | k3532 | k3533
      · refine WQ_aald (q := 0) dX10_keep_17 (lyx_is hy 59 16 rfl) (lyx_n hy 59 3 rfl) k3531 (by decide) (rfx hr 59 0 60 (by decide)) ?_
        refine WP_aload_n dX10_keep_18 rfl ?_
        refine WP_getr dX10_keep_19 fX10_62 rfl (lyx_is hy 0 10 rfl) (rfx hr 0 5 53 (by decide)) ?_
        refine WP_callV1 (k := 4) dX10_keep_22 ⟨⟨⟨by decide, by decide⟩, zX4_become⟩, lX10_249, by decide, rfl, vX4_become.1, vX4_become.2⟩ (lyx_is hy 60 4 rfl) (sx_become_60_53 hy hr hI  ) (Nat.le_of_ble_eq_true rfl) ?_
        intro r I3534 J3535 Ra hq
        obtain ⟨⟨hI3534, ec⟩, rfl⟩ := hq
        rw [ec]
        clear ec Ra
        have e3536 : I3534 (ad g 1) 1 = L := hI3534.2
        have b3537 := BT_get hI3534.1 1 1 2 (0) (0) (900) (by decide) 1 (by decide) (by decide)
        rw [e3536] at b3537
        refine WP_aload_n dX10_keep_25 rfl ?_
        refine WP_getr dX10_keep_26 fX10_62 rfl (lyx_is hy 0 10 rfl) (rfx hr 0 5 53 (by decide)) ?_
        refine WQ_getiu dX10_keep_29 fX10_232 rfl (lyx_is hy 53 4 rfl) (fun v3538 ev3538 => ?_)
        exact WP_iret dX10_keep_32 rfl ⟨⟨hI3534, rfl⟩, _, rfl⟩
      · refine WQ_aald (q := 1) dX10_keep_17 (lyx_is hy 59 16 rfl) (lyx_n hy 59 3 rfl) k3532 (by decide) (rfx hr 59 1 63 (by decide)) ?_
        refine WP_aload_n dX10_keep_18 rfl ?_
        refine WP_getr dX10_keep_19 fX10_62 rfl (lyx_is hy 0 10 rfl) (rfx hr 0 5 53 (by decide)) ?_
        refine WP_callV1 (k := 4) dX10_keep_22 ⟨⟨⟨by decide, by decide⟩, zX4_become⟩, lX10_249, by decide, rfl, vX4_become.1, vX4_become.2⟩ (lyx_is hy 63 4 rfl) (sx_become_63_53 hy hr hI  ) (Nat.le_of_ble_eq_true rfl) ?_
        intro r I3539 J3540 Ra hq
        obtain ⟨⟨hI3539, ec⟩, rfl⟩ := hq
        rw [ec]
        clear ec Ra
        have e3541 : I3539 (ad g 1) 1 = L := hI3539.2
        have b3542 := BT_get hI3539.1 1 1 2 (0) (0) (900) (by decide) 1 (by decide) (by decide)
        rw [e3541] at b3542
        refine WP_aload_n dX10_keep_25 rfl ?_
        refine WP_getr dX10_keep_26 fX10_62 rfl (lyx_is hy 0 10 rfl) (rfx hr 0 5 53 (by decide)) ?_
        refine WQ_getiu dX10_keep_29 fX10_232 rfl (lyx_is hy 53 4 rfl) (fun v3543 ev3543 => ?_)
        exact WP_iret dX10_keep_32 rfl ⟨⟨hI3539, rfl⟩, _, rfl⟩
      · refine WQ_aald (q := 2) dX10_keep_17 (lyx_is hy 59 16 rfl) (lyx_n hy 59 3 rfl) k3533 (by decide) (rfx hr 59 2 66 (by decide)) ?_
        refine WP_aload_n dX10_keep_18 rfl ?_
        refine WP_getr dX10_keep_19 fX10_62 rfl (lyx_is hy 0 10 rfl) (rfx hr 0 5 53 (by decide)) ?_
        refine WP_callV1 (k := 4) dX10_keep_22 ⟨⟨⟨by decide, by decide⟩, zX4_become⟩, lX10_249, by decide, rfl, vX4_become.1, vX4_become.2⟩ (lyx_is hy 66 4 rfl) (sx_become_66_53 hy hr hI  ) (Nat.le_of_ble_eq_true rfl) ?_
        intro r I3544 J3545 Ra hq
        obtain ⟨⟨hI3544, ec⟩, rfl⟩ := hq
        rw [ec]
        clear ec Ra
        have e3546 : I3544 (ad g 1) 1 = L := hI3544.2
        have b3547 := BT_get hI3544.1 1 1 2 (0) (0) (900) (by decide) 1 (by decide) (by decide)
        rw [e3546] at b3547
        refine WP_aload_n dX10_keep_25 rfl ?_
        refine WP_getr dX10_keep_26 fX10_62 rfl (lyx_is hy 0 10 rfl) (rfx hr 0 5 53 (by decide)) ?_
        refine WQ_getiu dX10_keep_29 fX10_232 rfl (lyx_is hy 53 4 rfl) (fun v3548 ev3548 => ?_)
        exact WP_iret dX10_keep_32 rfl ⟨⟨hI3544, rfl⟩, _, rfl⟩
    · refine WQ_bipush (-2) (-2) dX10_keep_9 rfl rfl (fun v3549 hv3549 => ?_)
      exact WP_iret dX10_keep_11 rfl ⟨⟨hI, rfl⟩, _, rfl⟩
set_option maxHeartbeats 4000000 in
set_option maxRecDepth 100000 in
theorem sx_take {g : GG} {n : Int} {L : Int32} (hy : LyX g)  {I : pI} {J : pJ} {R : pR} (hr : RfX g R) (hI : XI g n L I) (a : Int32)  : SP g mX10_take [.ref (ad g 0), .int a] I J R (fun r I' J' R' => (XI g n L I' ∧ R' = R) ∧ ∃ v : Int32, r = some (.int v)) := by
  refine SP_of ⟨by decide, rfl⟩ (Nat.le_of_ble_eq_true rfl) ?_
  have e3550 : I (ad g 1) 1 = L := hI.2
  have b3551 := BT_get hI.1 1 1 2 (0) (0) (900) (by decide) 1 (by decide) (by decide)
  rw [e3550] at b3551
  refine WP_iload_n dX10_take_0 rfl ?_
  refine WQ_if_lt 9 dX10_take_1 rfl (fun c3551 => ?_) (fun c3551 => ?_)
  · refine WQ_bipush (-2) (-2) dX10_take_9 rfl rfl (fun v3553 hv3553 => ?_)
    exact WP_iret dX10_take_11 rfl ⟨⟨hI, rfl⟩, _, rfl⟩
  · refine WP_iload_n dX10_take_4 rfl ?_
    refine WQ_iconst (3) (3) dX10_take_5 rfl rfl (fun v3554 hv3554 => ?_)
    refine WQ_icmp_lt 12 dX10_take_6 rfl (fun c3554 => ?_) (fun c3554 => ?_)
    · refine WP_aload_n dX10_take_12 rfl ?_
      refine WP_getr dX10_take_13 fX10_69 rfl (lyx_is hy 0 10 rfl) (rfx hr 0 7 59 (by decide)) ?_
      refine WP_iload_n dX10_take_16 rfl ?_
      rcases (show a.toInt = 0 ∨ a.toInt = 1 ∨ a.toInt = 2 by omega) with k3556 | k3557 | k3558
      · refine WQ_aald (q := 0) dX10_take_17 (lyx_is hy 59 16 rfl) (lyx_n hy 59 3 rfl) k3556 (by decide) (rfx hr 59 0 60 (by decide)) ?_
        refine WQ_getiu dX10_take_18 fX10_232 rfl (lyx_is hy 60 4 rfl) (fun v3559 ev3559 => ?_)
        refine WQ_iconst (-1) (-1) dX10_take_21 rfl rfl (fun v3560 hv3560 => ?_)
        refine WQ_icmp_ne 28 dX10_take_22 rfl (fun c3560 => ?_) (fun c3560 => ?_)
        · refine WP_aload_n dX10_take_28 rfl ?_
          refine WP_getr dX10_take_29 fX10_62 rfl (lyx_is hy 0 10 rfl) (rfx hr 0 5 53 (by decide)) ?_
          refine WP_aload_n dX10_take_32 rfl ?_
          refine WP_getr dX10_take_33 fX10_69 rfl (lyx_is hy 0 10 rfl) (rfx hr 0 7 59 (by decide)) ?_
          refine WP_iload_n dX10_take_36 rfl ?_
          rcases (show a.toInt = 0 ∨ a.toInt = 1 ∨ a.toInt = 2 by omega) with k3562 | k3563 | k3564
          · refine WQ_aald (q := 0) dX10_take_37 (lyx_is hy 59 16 rfl) (lyx_n hy 59 3 rfl) k3562 (by decide) (rfx hr 59 0 60 (by decide)) ?_
            refine WP_callV1 (k := 4) dX10_take_38 ⟨⟨⟨by decide, by decide⟩, zX4_become⟩, lX10_249, by decide, rfl, vX4_become.1, vX4_become.2⟩ (lyx_is hy 53 4 rfl) (sx_become_53_60 hy hr hI  ) (Nat.le_of_ble_eq_true rfl) ?_
            intro r I3565 J3566 Ra hq
            obtain ⟨⟨hI3565, ec⟩, rfl⟩ := hq
            rw [ec]
            clear ec Ra
            have e3567 : I3565 (ad g 1) 1 = L := hI3565.2
            have b3568 := BT_get hI3565.1 1 1 2 (0) (0) (900) (by decide) 1 (by decide) (by decide)
            rw [e3567] at b3568
            refine WP_aload_n dX10_take_41 rfl ?_
            refine WP_getr dX10_take_42 fX10_62 rfl (lyx_is hy 0 10 rfl) (rfx hr 0 5 53 (by decide)) ?_
            refine WQ_getiu dX10_take_45 fX10_232 rfl (lyx_is hy 53 4 rfl) (fun v3569 ev3569 => ?_)
            exact WP_iret dX10_take_48 rfl ⟨⟨hI3565, rfl⟩, _, rfl⟩
          · refine WQ_aald (q := 1) dX10_take_37 (lyx_is hy 59 16 rfl) (lyx_n hy 59 3 rfl) k3563 (by decide) (rfx hr 59 1 63 (by decide)) ?_
            refine WP_callV1 (k := 4) dX10_take_38 ⟨⟨⟨by decide, by decide⟩, zX4_become⟩, lX10_249, by decide, rfl, vX4_become.1, vX4_become.2⟩ (lyx_is hy 53 4 rfl) (sx_become_53_63 hy hr hI  ) (Nat.le_of_ble_eq_true rfl) ?_
            intro r I3570 J3571 Ra hq
            obtain ⟨⟨hI3570, ec⟩, rfl⟩ := hq
            rw [ec]
            clear ec Ra
            have e3572 : I3570 (ad g 1) 1 = L := hI3570.2
            have b3573 := BT_get hI3570.1 1 1 2 (0) (0) (900) (by decide) 1 (by decide) (by decide)
            rw [e3572] at b3573
            refine WP_aload_n dX10_take_41 rfl ?_
            refine WP_getr dX10_take_42 fX10_62 rfl (lyx_is hy 0 10 rfl) (rfx hr 0 5 53 (by decide)) ?_
            refine WQ_getiu dX10_take_45 fX10_232 rfl (lyx_is hy 53 4 rfl) (fun v3574 ev3574 => ?_)
            exact WP_iret dX10_take_48 rfl ⟨⟨hI3570, rfl⟩, _, rfl⟩
          · refine WQ_aald (q := 2) dX10_take_37 (lyx_is hy 59 16 rfl) (lyx_n hy 59 3 rfl) k3564 (by decide) (rfx hr 59 2 66 (by decide)) ?_
            refine WP_callV1 (k := 4) dX10_take_38 ⟨⟨⟨by decide, by decide⟩, zX4_become⟩, lX10_249, by decide, rfl, vX4_become.1, vX4_become.2⟩ (lyx_is hy 53 4 rfl) (sx_become_53_66 hy hr hI  ) (Nat.le_of_ble_eq_true rfl) ?_
            intro r I3575 J3576 Ra hq
            obtain ⟨⟨hI3575, ec⟩, rfl⟩ := hq
            rw [ec]
            clear ec Ra
            have e3577 : I3575 (ad g 1) 1 = L := hI3575.2
            have b3578 := BT_get hI3575.1 1 1 2 (0) (0) (900) (by decide) 1 (by decide) (by decide)
            rw [e3577] at b3578
            refine WP_aload_n dX10_take_41 rfl ?_
            refine WP_getr dX10_take_42 fX10_62 rfl (lyx_is hy 0 10 rfl) (rfx hr 0 5 53 (by decide)) ?_
            refine WQ_getiu dX10_take_45 fX10_232 rfl (lyx_is hy 53 4 rfl) (fun v3579 ev3579 => ?_)
            exact WP_iret dX10_take_48 rfl ⟨⟨hI3575, rfl⟩, _, rfl⟩
        · refine WQ_bipush (-4) (-4) dX10_take_25 rfl rfl (fun v3580 hv3580 => ?_)
          exact WP_iret dX10_take_27 rfl ⟨⟨hI, rfl⟩, _, rfl⟩
      · refine WQ_aald (q := 1) dX10_take_17 (lyx_is hy 59 16 rfl) (lyx_n hy 59 3 rfl) k3557 (by decide) (rfx hr 59 1 63 (by decide)) ?_
        refine WQ_getiu dX10_take_18 fX10_232 rfl (lyx_is hy 63 4 rfl) (fun v3581 ev3581 => ?_)
        refine WQ_iconst (-1) (-1) dX10_take_21 rfl rfl (fun v3582 hv3582 => ?_)
        refine WQ_icmp_ne 28 dX10_take_22 rfl (fun c3582 => ?_) (fun c3582 => ?_)
        · refine WP_aload_n dX10_take_28 rfl ?_
          refine WP_getr dX10_take_29 fX10_62 rfl (lyx_is hy 0 10 rfl) (rfx hr 0 5 53 (by decide)) ?_
          refine WP_aload_n dX10_take_32 rfl ?_
          refine WP_getr dX10_take_33 fX10_69 rfl (lyx_is hy 0 10 rfl) (rfx hr 0 7 59 (by decide)) ?_
          refine WP_iload_n dX10_take_36 rfl ?_
          rcases (show a.toInt = 0 ∨ a.toInt = 1 ∨ a.toInt = 2 by omega) with k3584 | k3585 | k3586
          · refine WQ_aald (q := 0) dX10_take_37 (lyx_is hy 59 16 rfl) (lyx_n hy 59 3 rfl) k3584 (by decide) (rfx hr 59 0 60 (by decide)) ?_
            refine WP_callV1 (k := 4) dX10_take_38 ⟨⟨⟨by decide, by decide⟩, zX4_become⟩, lX10_249, by decide, rfl, vX4_become.1, vX4_become.2⟩ (lyx_is hy 53 4 rfl) (sx_become_53_60 hy hr hI  ) (Nat.le_of_ble_eq_true rfl) ?_
            intro r I3587 J3588 Ra hq
            obtain ⟨⟨hI3587, ec⟩, rfl⟩ := hq
            rw [ec]
            clear ec Ra
            have e3589 : I3587 (ad g 1) 1 = L := hI3587.2
            have b3590 := BT_get hI3587.1 1 1 2 (0) (0) (900) (by decide) 1 (by decide) (by decide)
            rw [e3589] at b3590
            refine WP_aload_n dX10_take_41 rfl ?_
            refine WP_getr dX10_take_42 fX10_62 rfl (lyx_is hy 0 10 rfl) (rfx hr 0 5 53 (by decide)) ?_
            refine WQ_getiu dX10_take_45 fX10_232 rfl (lyx_is hy 53 4 rfl) (fun v3591 ev3591 => ?_)
            exact WP_iret dX10_take_48 rfl ⟨⟨hI3587, rfl⟩, _, rfl⟩
          · refine WQ_aald (q := 1) dX10_take_37 (lyx_is hy 59 16 rfl) (lyx_n hy 59 3 rfl) k3585 (by decide) (rfx hr 59 1 63 (by decide)) ?_
            refine WP_callV1 (k := 4) dX10_take_38 ⟨⟨⟨by decide, by decide⟩, zX4_become⟩, lX10_249, by decide, rfl, vX4_become.1, vX4_become.2⟩ (lyx_is hy 53 4 rfl) (sx_become_53_63 hy hr hI  ) (Nat.le_of_ble_eq_true rfl) ?_
            intro r I3592 J3593 Ra hq
            obtain ⟨⟨hI3592, ec⟩, rfl⟩ := hq
            rw [ec]
            clear ec Ra
            have e3594 : I3592 (ad g 1) 1 = L := hI3592.2
            have b3595 := BT_get hI3592.1 1 1 2 (0) (0) (900) (by decide) 1 (by decide) (by decide)
            rw [e3594] at b3595
            refine WP_aload_n dX10_take_41 rfl ?_
            refine WP_getr dX10_take_42 fX10_62 rfl (lyx_is hy 0 10 rfl) (rfx hr 0 5 53 (by decide)) ?_
            refine WQ_getiu dX10_take_45 fX10_232 rfl (lyx_is hy 53 4 rfl) (fun v3596 ev3596 => ?_)
            exact WP_iret dX10_take_48 rfl ⟨⟨hI3592, rfl⟩, _, rfl⟩
          · refine WQ_aald (q := 2) dX10_take_37 (lyx_is hy 59 16 rfl) (lyx_n hy 59 3 rfl) k3586 (by decide) (rfx hr 59 2 66 (by decide)) ?_
            refine WP_callV1 (k := 4) dX10_take_38 ⟨⟨⟨by decide, by decide⟩, zX4_become⟩, lX10_249, by decide, rfl, vX4_become.1, vX4_become.2⟩ (lyx_is hy 53 4 rfl) (sx_become_53_66 hy hr hI  ) (Nat.le_of_ble_eq_true rfl) ?_
            intro r I3597 J3598 Ra hq
            obtain ⟨⟨hI3597, ec⟩, rfl⟩ := hq
            rw [ec]
            clear ec Ra
            have e3599 : I3597 (ad g 1) 1 = L := hI3597.2
            have b3600 := BT_get hI3597.1 1 1 2 (0) (0) (900) (by decide) 1 (by decide) (by decide)
            rw [e3599] at b3600
            refine WP_aload_n dX10_take_41 rfl ?_
            refine WP_getr dX10_take_42 fX10_62 rfl (lyx_is hy 0 10 rfl) (rfx hr 0 5 53 (by decide)) ?_
            refine WQ_getiu dX10_take_45 fX10_232 rfl (lyx_is hy 53 4 rfl) (fun v3601 ev3601 => ?_)
            exact WP_iret dX10_take_48 rfl ⟨⟨hI3597, rfl⟩, _, rfl⟩
        · refine WQ_bipush (-4) (-4) dX10_take_25 rfl rfl (fun v3602 hv3602 => ?_)
          exact WP_iret dX10_take_27 rfl ⟨⟨hI, rfl⟩, _, rfl⟩
      · refine WQ_aald (q := 2) dX10_take_17 (lyx_is hy 59 16 rfl) (lyx_n hy 59 3 rfl) k3558 (by decide) (rfx hr 59 2 66 (by decide)) ?_
        refine WQ_getiu dX10_take_18 fX10_232 rfl (lyx_is hy 66 4 rfl) (fun v3603 ev3603 => ?_)
        refine WQ_iconst (-1) (-1) dX10_take_21 rfl rfl (fun v3604 hv3604 => ?_)
        refine WQ_icmp_ne 28 dX10_take_22 rfl (fun c3604 => ?_) (fun c3604 => ?_)
        · refine WP_aload_n dX10_take_28 rfl ?_
          refine WP_getr dX10_take_29 fX10_62 rfl (lyx_is hy 0 10 rfl) (rfx hr 0 5 53 (by decide)) ?_
          refine WP_aload_n dX10_take_32 rfl ?_
          refine WP_getr dX10_take_33 fX10_69 rfl (lyx_is hy 0 10 rfl) (rfx hr 0 7 59 (by decide)) ?_
          refine WP_iload_n dX10_take_36 rfl ?_
          rcases (show a.toInt = 0 ∨ a.toInt = 1 ∨ a.toInt = 2 by omega) with k3606 | k3607 | k3608
          · refine WQ_aald (q := 0) dX10_take_37 (lyx_is hy 59 16 rfl) (lyx_n hy 59 3 rfl) k3606 (by decide) (rfx hr 59 0 60 (by decide)) ?_
            refine WP_callV1 (k := 4) dX10_take_38 ⟨⟨⟨by decide, by decide⟩, zX4_become⟩, lX10_249, by decide, rfl, vX4_become.1, vX4_become.2⟩ (lyx_is hy 53 4 rfl) (sx_become_53_60 hy hr hI  ) (Nat.le_of_ble_eq_true rfl) ?_
            intro r I3609 J3610 Ra hq
            obtain ⟨⟨hI3609, ec⟩, rfl⟩ := hq
            rw [ec]
            clear ec Ra
            have e3611 : I3609 (ad g 1) 1 = L := hI3609.2
            have b3612 := BT_get hI3609.1 1 1 2 (0) (0) (900) (by decide) 1 (by decide) (by decide)
            rw [e3611] at b3612
            refine WP_aload_n dX10_take_41 rfl ?_
            refine WP_getr dX10_take_42 fX10_62 rfl (lyx_is hy 0 10 rfl) (rfx hr 0 5 53 (by decide)) ?_
            refine WQ_getiu dX10_take_45 fX10_232 rfl (lyx_is hy 53 4 rfl) (fun v3613 ev3613 => ?_)
            exact WP_iret dX10_take_48 rfl ⟨⟨hI3609, rfl⟩, _, rfl⟩
          · refine WQ_aald (q := 1) dX10_take_37 (lyx_is hy 59 16 rfl) (lyx_n hy 59 3 rfl) k3607 (by decide) (rfx hr 59 1 63 (by decide)) ?_
            refine WP_callV1 (k := 4) dX10_take_38 ⟨⟨⟨by decide, by decide⟩, zX4_become⟩, lX10_249, by decide, rfl, vX4_become.1, vX4_become.2⟩ (lyx_is hy 53 4 rfl) (sx_become_53_63 hy hr hI  ) (Nat.le_of_ble_eq_true rfl) ?_
            intro r I3614 J3615 Ra hq
            obtain ⟨⟨hI3614, ec⟩, rfl⟩ := hq
            rw [ec]
            clear ec Ra
            have e3616 : I3614 (ad g 1) 1 = L := hI3614.2
            have b3617 := BT_get hI3614.1 1 1 2 (0) (0) (900) (by decide) 1 (by decide) (by decide)
            rw [e3616] at b3617
            refine WP_aload_n dX10_take_41 rfl ?_
            refine WP_getr dX10_take_42 fX10_62 rfl (lyx_is hy 0 10 rfl) (rfx hr 0 5 53 (by decide)) ?_
            refine WQ_getiu dX10_take_45 fX10_232 rfl (lyx_is hy 53 4 rfl) (fun v3618 ev3618 => ?_)
            exact WP_iret dX10_take_48 rfl ⟨⟨hI3614, rfl⟩, _, rfl⟩
          · refine WQ_aald (q := 2) dX10_take_37 (lyx_is hy 59 16 rfl) (lyx_n hy 59 3 rfl) k3608 (by decide) (rfx hr 59 2 66 (by decide)) ?_
            refine WP_callV1 (k := 4) dX10_take_38 ⟨⟨⟨by decide, by decide⟩, zX4_become⟩, lX10_249, by decide, rfl, vX4_become.1, vX4_become.2⟩ (lyx_is hy 53 4 rfl) (sx_become_53_66 hy hr hI  ) (Nat.le_of_ble_eq_true rfl) ?_
            intro r I3619 J3620 Ra hq
            obtain ⟨⟨hI3619, ec⟩, rfl⟩ := hq
            rw [ec]
            clear ec Ra
            have e3621 : I3619 (ad g 1) 1 = L := hI3619.2
            have b3622 := BT_get hI3619.1 1 1 2 (0) (0) (900) (by decide) 1 (by decide) (by decide)
            rw [e3621] at b3622
            refine WP_aload_n dX10_take_41 rfl ?_
            refine WP_getr dX10_take_42 fX10_62 rfl (lyx_is hy 0 10 rfl) (rfx hr 0 5 53 (by decide)) ?_
            refine WQ_getiu dX10_take_45 fX10_232 rfl (lyx_is hy 53 4 rfl) (fun v3623 ev3623 => ?_)
            exact WP_iret dX10_take_48 rfl ⟨⟨hI3619, rfl⟩, _, rfl⟩
        · refine WQ_bipush (-4) (-4) dX10_take_25 rfl rfl (fun v3624 hv3624 => ?_)
          exact WP_iret dX10_take_27 rfl ⟨⟨hI, rfl⟩, _, rfl⟩
    · refine WQ_bipush (-2) (-2) dX10_take_9 rfl rfl (fun v3625 hv3625 => ?_)
      exact WP_iret dX10_take_11 rfl ⟨⟨hI, rfl⟩, _, rfl⟩
