set_option maxHeartbeats 4000000 in
set_option maxRecDepth 100000 in
theorem sx_afford {g : GG} {n : Int} {L : Int32} (hy : LyX g)  {I : pI} {J : pJ} {R : pR} (hr : RfX g R) (hI : XI g n L I) (co : Int32) (pr : Int32) (co_lo : 0 ≤ co.toInt) (co_hi : co.toInt ≤ 60) (pr_lo : 0 ≤ pr.toInt) (pr_hi : pr.toInt ≤ 20) : SP g mX10_affordable [.int co, .int pr] I J R (fun r I' J' R' => (I' = I ∧ J' = J ∧ R' = R) ∧ ∃ v : Int32, r = some (.int v) ∧ 0 ≤ v.toInt ∧ v.toInt ≤ 60 ∧ v.toInt * pr.toInt ≤ co.toInt) := by
  refine SP_of ⟨by decide, rfl⟩ (Nat.le_of_ble_eq_true rfl) ?_
  have e7638 : I (ad g 1) 1 = L := hI.2
  have b7639 := BT_get hI.1 1 1 2 (0) (0) (900) (by decide) 1 (by decide) (by decide)
  rw [e7638] at b7639
  refine WP_iload_n dX10_affordable_0 rfl ?_
  refine WQ_iconst (1) (1) dX10_affordable_1 rfl rfl (fun v7640 hv7640 => ?_)
  refine WQ_icmp_ge 9 dX10_affordable_2 rfl (fun c7640 => ?_) (fun c7640 => ?_)
  · refine WP_iload_n dX10_affordable_9 rfl ?_
    refine WP_iload_n dX10_affordable_10 rfl ?_
    refine WQ_idivb dX10_affordable_11 (by omega) (by omega) (fun v7642 pv7642 av7642 bv7642 cv7642 => ?_)
    exact WP_iret dX10_affordable_12 rfl ⟨⟨rfl, rfl, rfl⟩, _, rfl, by omega, by omega, (by first | omega | (have hz : v7642.toInt = 0 := (by omega); rw [hz]; omega))⟩
  · refine WQ_iconst (0) (0) dX10_affordable_5 rfl rfl (fun v7643 hv7643 => ?_)
    refine WP_goto 12 dX10_affordable_6 rfl ?_
    exact WP_iret dX10_affordable_12 rfl ⟨⟨rfl, rfl, rfl⟩, _, rfl, by omega, by omega, (by first | omega | (have hz : v7643.toInt = 0 := (by omega); rw [hz]; omega))⟩
set_option maxHeartbeats 4000000 in
set_option maxRecDepth 100000 in
theorem sx_mfs_50 {g : GG} {n : Int} {L : Int32} (hy : LyX g)  {I : pI} {J : pJ} {R : pR} (hr : RfX g R) (hI : XI g n L I) (st : Int32) (st_lo : 0 ≤ st.toInt) (st_hi : st.toInt ≤ 5) : SP g mX6_mostFromStore [.ref (ad g 50), .int st] I J R (fun r I' J' R' => (I' = I ∧ J' = J ∧ R' = R) ∧ ∃ v : Int32, r = some (.int v) ∧ 0 ≤ v.toInt ∧ v.toInt ≤ 3 ∧ (v.toInt ≤ st.toInt ∧ v.toInt ≤ (I (ad g 50) 1).toInt)) := by
  refine SP_of ⟨by decide, rfl⟩ (Nat.le_of_ble_eq_true rfl) ?_
  have e7644 : I (ad g 1) 1 = L := hI.2
  have b7645 := BT_get hI.1 1 1 2 (0) (0) (900) (by decide) 1 (by decide) (by decide)
  rw [e7644] at b7645
  refine WP_aload_n dX6_mostFromStore_0 rfl ?_
  refine WQ_geti dX6_mostFromStore_1 fX6_60 rfl (lyx_is hy 50 6 rfl) (BT_get hI.1 50 7 8 (0) (0) (1) (by decide) 7 (by decide) (by decide)) (fun v7646 ev7646 av7646 bv7646 => ?_)
  refine WQ_if_ne 11 dX6_mostFromStore_4 rfl (fun c7646 => ?_) (fun c7646 => ?_)
  · refine WP_iload_n dX6_mostFromStore_11 rfl ?_
    refine WP_aload_n dX6_mostFromStore_12 rfl ?_
    refine WQ_geti dX6_mostFromStore_13 fX6_36 rfl (lyx_is hy 50 6 rfl) (BT_get hI.1 50 1 2 (0) (0) (3) (by decide) 1 (by decide) (by decide)) (fun v7648 ev7648 av7648 bv7648 => ?_)
    refine WQ_icmp_ge 23 dX6_mostFromStore_16 rfl (fun c7648 => ?_) (fun c7648 => ?_)
    · refine WP_aload_n dX6_mostFromStore_23 rfl ?_
      refine WQ_getim dX6_mostFromStore_24 fX6_36 rfl (lyx_is hy 50 6 rfl) ev7648 ?_
      exact WP_iret dX6_mostFromStore_27 rfl ⟨⟨rfl, rfl, rfl⟩, _, rfl, by omega, by omega, by (try rw [ev7648]); omega⟩
    · refine WP_iload_n dX6_mostFromStore_19 rfl ?_
      refine WP_goto 27 dX6_mostFromStore_20 rfl ?_
      exact WP_iret dX6_mostFromStore_27 rfl ⟨⟨rfl, rfl, rfl⟩, _, rfl, by omega, by omega, by (try rw [ev7648]); omega⟩
  · refine WQ_iconst (0) (0) dX6_mostFromStore_7 rfl rfl (fun v7650 hv7650 => ?_)
    refine WP_goto 27 dX6_mostFromStore_8 rfl ?_
    obtain ⟨w7651, ew7651⟩ : ∃ w : Int32, I (ad g 50) 1 = w := ⟨_, rfl⟩
    have bw7651 := BT_get hI.1 50 1 2 (0) (0) (3) (by decide) 1 (by decide) (by decide)
    rw [ew7651] at bw7651
    exact WP_iret dX6_mostFromStore_27 rfl ⟨⟨rfl, rfl, rfl⟩, _, rfl, by omega, by omega, by (try rw [ew7651]); omega⟩
set_option maxHeartbeats 4000000 in
set_option maxRecDepth 100000 in
theorem sx_habit {g : GG} {n : Int} {L : Int32} (hy : LyX g)  {I : pI} {J : pJ} {R : pR} (hr : RfX g R) (hI : XI g n L I) (wa : Int32) (co : Int32) (st : Int32) (wa_lo : 0 ≤ wa.toInt) (wa_hi : wa.toInt ≤ 4) (co_lo : 0 ≤ co.toInt) (co_hi : co.toInt ≤ 60) (st_lo : 0 ≤ st.toInt) (st_hi : st.toInt ≤ 5) : SP g mX6_habit [.ref (ad g 50), .int wa, .int co, .int st] I J R (fun r I' J' R' => (I' = I ∧ J' = J ∧ R' = R) ∧ ∃ v : Int32, r = some (.int v) ∧ 0 ≤ v.toInt ∧ v.toInt ≤ 47 ∧ (v.toInt / 4 % 4 ≤ st.toInt ∧ st.toInt - v.toInt / 4 % 4 + v.toInt / 16 ≤ 5 ∧ (v.toInt % 4) * (I (ad g 50) 3).toInt + (v.toInt / 16) * (I (ad g 50) 4).toInt ≤ co.toInt)) := by
  refine SP_of ⟨by decide, rfl⟩ (Nat.le_of_ble_eq_true rfl) ?_
  have e7652 : I (ad g 1) 1 = L := hI.2
  have b7653 := BT_get hI.1 1 1 2 (0) (0) (900) (by decide) 1 (by decide) (by decide)
  rw [e7652] at b7653
  refine WP_iload_n dX6_habit_0 rfl ?_
  refine WQ_iconst (4) (4) dX6_habit_1 rfl rfl (fun v7654 hv7654 => ?_)
  refine WQ_icmp_ne 7 dX6_habit_2 rfl (fun c7654 => ?_) (fun c7654 => ?_)
  · refine WP_iload_n dX6_habit_7 rfl ?_
    refine WQ_iconst (2) (2) dX6_habit_8 rfl rfl (fun v7656 hv7656 => ?_)
    refine WQ_icmp_ne 20 dX6_habit_9 rfl (fun c7656 => ?_) (fun c7656 => ?_)
    · refine WQ_iconst (0) (0) dX6_habit_20 rfl rfl (fun v7658 hv7658 => ?_)
      refine WP_istore (ls' := [(0, _), (1, _), (2, _), (3, _), (4, _)]) dX6_habit_21 (by decide) rfl ?_
      refine WP_aload_n dX6_habit_23 rfl ?_
      refine WQ_geti dX6_habit_24 fX6_54 rfl (lyx_is hy 50 6 rfl) (BT_get hI.1 50 5 6 (0) (0) (3) (by decide) 5 (by decide) (by decide)) (fun v7659 ev7659 av7659 bv7659 => ?_)
      refine WP_aload_n dX6_habit_27 rfl ?_
      refine WQ_geti dX6_habit_28 fX6_36 rfl (lyx_is hy 50 6 rfl) (BT_get hI.1 50 1 2 (0) (0) (3) (by decide) 1 (by decide) (by decide)) (fun v7660 ev7660 av7660 bv7660 => ?_)
      refine WP_iload dX6_habit_31 rfl ?_
      refine WQ_isub dX6_habit_33 (by omega) (by omega) (fun v7661 hv7661 => ?_)
      refine WQ_min dX6_habit_34 lX6_78 ⟨by decide, Nat.le_of_ble_eq_true rfl⟩ (fun v7662 av7662 bv7662 cv7662 => ?_)
      refine WP_iload_n dX6_habit_37 rfl ?_
      refine WP_aload_n dX6_habit_38 rfl ?_
      refine WQ_geti dX6_habit_39 fX6_48 rfl (lyx_is hy 50 6 rfl) (BT_get hI.1 50 3 4 (0) (0) (20) (by decide) 3 (by decide) (by decide)) (fun v7663 ev7663 av7663 bv7663 => ?_)
      refine WP_callN2 dX6_habit_42 ⟨⟨⟨by decide, by decide⟩, zX10_affordable⟩, lX6_83, tX10_affordable⟩ (sx_afford hy hr hI co v7663 (by omega) (by omega) (by omega) (by omega)) (Nat.le_of_ble_eq_true rfl) ?_
      intro r Ia Ja Ra hq
      obtain ⟨⟨ea, eb, ec⟩, v7664, rfl, av7664, bv7664, cv7664⟩ := hq
      show WP _ _ _ _ (.int _ :: _) _ _ _ _
      rw [ea, eb, ec]
      clear ea eb ec Ia Ja Ra
      refine WQ_min dX6_habit_45 lX6_78 ⟨by decide, Nat.le_of_ble_eq_true rfl⟩ (fun v7665 av7665 bv7665 cv7665 => ?_)
      refine WP_istore (ls' := [(0, _), (1, _), (2, _), (3, _), (4, _), (5, _)]) dX6_habit_48 (by decide) rfl ?_
      refine WP_iload_n dX6_habit_50 rfl ?_
      refine WQ_iconst (2) (2) dX6_habit_51 rfl rfl (fun v7666 hv7666 => ?_)
      refine WQ_icmp_eq 72 dX6_habit_52 rfl (fun c7666 => ?_) (fun c7666 => ?_)
      · refine WQ_iconst (0) (0) dX6_habit_72 rfl rfl (fun v7668 hv7668 => ?_)
        refine WP_istore (ls' := [(0, _), (1, _), (2, _), (3, _), (4, _), (5, _), (6, _)]) dX6_habit_73 (by decide) rfl ?_
        refine WP_iload_n dX6_habit_75 rfl ?_
        refine WQ_if_eq 91 dX6_habit_76 rfl (fun c7668 => False.elim (by omega)) (fun c7668 => ?_)
        refine WP_iload_n dX6_habit_79 rfl ?_
        refine WQ_iconst (2) (2) dX6_habit_80 rfl rfl (fun v7670 hv7670 => ?_)
        refine WQ_icmp_ne 133 dX6_habit_81 rfl (fun c7670 => False.elim (by omega)) (fun c7670 => ?_)
        refine WP_aload_n dX6_habit_84 rfl ?_
        refine WQ_geti dX6_habit_85 fX6_67 rfl (lyx_is hy 50 6 rfl) (BT_get hI.1 50 8 9 (0) (0) (1) (by decide) 8 (by decide) (by decide)) (fun v7672 ev7672 av7672 bv7672 => ?_)
        refine WQ_if_eq 133 dX6_habit_88 rfl (fun c7672 => ?_) (fun c7672 => ?_)
        · refine WQ_bipush (16) (16) dX6_habit_133 rfl rfl (fun v7674 hv7674 => ?_)
          refine WP_iload dX6_habit_135 rfl ?_
          refine WQ_imulk (0) dX6_habit_137 hv7668 (by omega) (by omega) (fun v7675 hv7675 => ?_)
          refine WQ_iconst (4) (4) dX6_habit_138 rfl rfl (fun v7676 hv7676 => ?_)
          refine WP_iload dX6_habit_139 rfl ?_
          refine WQ_imulk (0) dX6_habit_141 hv7658 (by omega) (by omega) (fun v7677 hv7677 => ?_)
          refine WQ_iadd dX6_habit_142 (by omega) (by omega) (fun v7678 hv7678 => ?_)
          refine WP_iload dX6_habit_143 rfl ?_
          refine WQ_iadd dX6_habit_145 (by omega) (by omega) (fun v7679 hv7679 => ?_)
          obtain ⟨w7680, ew7680⟩ : ∃ w : Int32, I (ad g 50) 4 = w := ⟨_, rfl⟩
          have bw7680 := BT_get hI.1 50 4 5 (0) (0) (20) (by decide) 4 (by decide) (by decide)
          rw [ew7680] at bw7680
          exact WP_iret dX6_habit_146 rfl ⟨⟨rfl, rfl, rfl⟩, _, rfl, by omega, by omega, (by
                have ee : v7679.toInt % 4 = v7665.toInt := by omega
                have es : v7679.toInt / 16 = v7668.toInt := by omega
                have ef : v7679.toInt / 4 % 4 = v7658.toInt := by omega
                rw [ee, es, ef, ev7663, ew7680]
                have k1 : v7665.toInt * v7663.toInt ≤ v7664.toInt * v7663.toInt := Int.mul_le_mul_of_nonneg_right (by omega) (by omega)
                have k2 : v7668.toInt * w7680.toInt = 0 := by rw [show v7668.toInt = 0 by omega]; simp
                exact ⟨by omega, by omega, by omega⟩)⟩
        · refine WQ_iconst (5) (5) dX6_habit_91 rfl rfl (fun v7681 hv7681 => ?_)
          refine WP_iload_n dX6_habit_92 rfl ?_
          refine WQ_isub dX6_habit_93 (by omega) (by omega) (fun v7682 hv7682 => ?_)
          refine WP_iload dX6_habit_94 rfl ?_
          refine WQ_iadd dX6_habit_96 (by omega) (by omega) (fun v7683 hv7683 => ?_)
          refine WP_istore (ls' := [(0, _), (1, _), (2, _), (3, _), (4, _), (5, _), (6, _), (7, _)]) dX6_habit_97 (by decide) rfl ?_
          refine WP_iload_n dX6_habit_99 rfl ?_
          refine WP_iload dX6_habit_100 rfl ?_
          refine WP_aload_n dX6_habit_102 rfl ?_
          refine WQ_getim dX6_habit_103 fX6_48 rfl (lyx_is hy 50 6 rfl) ev7663 ?_
          refine WQ_imulb (3) (20) dX6_habit_106 ⟨by omega, by omega⟩ ⟨by omega, by omega⟩ (by decide) (fun v7684 pv7684 av7684 bv7684 cv7684 => ?_)
          have k0 : v7665.toInt * v7663.toInt ≤ v7664.toInt * v7663.toInt := Int.mul_le_mul_of_nonneg_right (by omega) (by omega)
          refine WQ_isub dX6_habit_107 (by omega) (by omega) (fun v7685 hv7685 => ?_)
          refine WP_aload_n dX6_habit_108 rfl ?_
          refine WQ_geti dX6_habit_109 fX6_51 rfl (lyx_is hy 50 6 rfl) (BT_get hI.1 50 4 5 (0) (0) (20) (by decide) 4 (by decide) (by decide)) (fun v7686 ev7686 av7686 bv7686 => ?_)
          refine WP_callN2 dX6_habit_112 ⟨⟨⟨by decide, by decide⟩, zX10_affordable⟩, lX6_83, tX10_affordable⟩ (sx_afford hy hr hI v7685 v7686 (by omega) (by omega) (by omega) (by omega)) (Nat.le_of_ble_eq_true rfl) ?_
          intro r Ia Ja Ra hq
          obtain ⟨⟨ea, eb, ec⟩, v7687, rfl, av7687, bv7687, cv7687⟩ := hq
          show WP _ _ _ _ (.int _ :: _) _ _ _ _
          rw [ea, eb, ec]
          clear ea eb ec Ia Ja Ra
          refine WP_istore (ls' := [(0, _), (1, _), (2, _), (3, _), (4, _), (5, _), (6, _), (7, _), (8, _)]) dX6_habit_115 (by decide) rfl ?_
          refine WP_aload_n dX6_habit_117 rfl ?_
          refine WQ_geti dX6_habit_118 fX6_57 rfl (lyx_is hy 50 6 rfl) (BT_get hI.1 50 6 7 (0) (0) (2) (by decide) 6 (by decide) (by decide)) (fun v7688 ev7688 av7688 bv7688 => ?_)
          refine WP_iload dX6_habit_121 rfl ?_
          refine WQ_min dX6_habit_123 lX6_78 ⟨by decide, Nat.le_of_ble_eq_true rfl⟩ (fun v7689 av7689 bv7689 cv7689 => ?_)
          refine WP_iload dX6_habit_126 rfl ?_
          refine WQ_min dX6_habit_128 lX6_78 ⟨by decide, Nat.le_of_ble_eq_true rfl⟩ (fun v7690 av7690 bv7690 cv7690 => ?_)
          refine WP_istore (ls' := [(0, _), (1, _), (2, _), (3, _), (4, _), (5, _), (6, _), (7, _), (8, _)]) dX6_habit_131 (by decide) rfl ?_
          refine WQ_bipush (16) (16) dX6_habit_133 rfl rfl (fun v7691 hv7691 => ?_)
          refine WP_iload dX6_habit_135 rfl ?_
          refine WQ_imulK (16) dX6_habit_137 hv7691 (by omega) (by omega) (fun v7692 hv7692 => ?_)
          refine WQ_iconst (4) (4) dX6_habit_138 rfl rfl (fun v7693 hv7693 => ?_)
          refine WP_iload dX6_habit_139 rfl ?_
          refine WQ_imulk (0) dX6_habit_141 hv7658 (by omega) (by omega) (fun v7694 hv7694 => ?_)
          refine WQ_iadd dX6_habit_142 (by omega) (by omega) (fun v7695 hv7695 => ?_)
          refine WP_iload dX6_habit_143 rfl ?_
          refine WQ_iadd dX6_habit_145 (by omega) (by omega) (fun v7696 hv7696 => ?_)
          exact WP_iret dX6_habit_146 rfl ⟨⟨rfl, rfl, rfl⟩, _, rfl, by omega, by omega, (by
                have ee : v7696.toInt % 4 = v7665.toInt := by omega
                have es : v7696.toInt / 16 = v7690.toInt := by omega
                have ef : v7696.toInt / 4 % 4 = v7658.toInt := by omega
                rw [ee, es, ef, ev7663, ev7686]
                have k1 : v7665.toInt * v7663.toInt ≤ v7664.toInt * v7663.toInt := Int.mul_le_mul_of_nonneg_right (by omega) (by omega)
                have k2 : v7690.toInt * v7686.toInt ≤ v7687.toInt * v7686.toInt := Int.mul_le_mul_of_nonneg_right (by omega) (by omega)
                exact ⟨by omega, by omega, by omega⟩)⟩
      · refine WP_aload_n dX6_habit_55 rfl ?_
        refine WQ_getim dX6_habit_56 fX6_36 rfl (lyx_is hy 50 6 rfl) ev7660 ?_
        refine WP_iload dX6_habit_59 rfl ?_
        refine WQ_isub dX6_habit_61 (by omega) (by omega) (fun v7697 hv7697 => ?_)
        refine WP_aload_n dX6_habit_62 rfl ?_
        refine WP_iload_n dX6_habit_63 rfl ?_
        refine WP_callV1 (k := 6) dX6_habit_64 ⟨⟨⟨by decide, by decide⟩, zX6_mostFromStore⟩, lX6_70, by decide, rfl, vX6_mostFromStore.1, vX6_mostFromStore.2⟩ (lyx_is hy 50 6 rfl) (sx_mfs_50 hy hr hI st (by omega) (by omega)) (Nat.le_of_ble_eq_true rfl) ?_
        intro r Ia Ja Ra hq
        obtain ⟨⟨ea, eb, ec⟩, v7698, rfl, av7698, bv7698, cv7698⟩ := hq
        show WP _ _ _ _ (.int _ :: _) _ _ _ _
        rw [ea, eb, ec]
        clear ea eb ec Ia Ja Ra
        rw [ev7660] at cv7698
        refine WQ_min dX6_habit_67 lX6_78 ⟨by decide, Nat.le_of_ble_eq_true rfl⟩ (fun v7699 av7699 bv7699 cv7699 => ?_)
        refine WP_istore (ls' := [(0, _), (1, _), (2, _), (3, _), (4, _), (5, _)]) dX6_habit_70 (by decide) rfl ?_
        refine WQ_iconst (0) (0) dX6_habit_72 rfl rfl (fun v7700 hv7700 => ?_)
        refine WP_istore (ls' := [(0, _), (1, _), (2, _), (3, _), (4, _), (5, _), (6, _)]) dX6_habit_73 (by decide) rfl ?_
        refine WP_iload_n dX6_habit_75 rfl ?_
        refine WQ_if_eq 91 dX6_habit_76 rfl (fun c7700 => ?_) (fun c7700 => ?_)
        · refine WQ_iconst (5) (5) dX6_habit_91 rfl rfl (fun v7702 hv7702 => ?_)
          refine WP_iload_n dX6_habit_92 rfl ?_
          refine WQ_isub dX6_habit_93 (by omega) (by omega) (fun v7703 hv7703 => ?_)
          refine WP_iload dX6_habit_94 rfl ?_
          refine WQ_iadd dX6_habit_96 (by omega) (by omega) (fun v7704 hv7704 => ?_)
          refine WP_istore (ls' := [(0, _), (1, _), (2, _), (3, _), (4, _), (5, _), (6, _), (7, _)]) dX6_habit_97 (by decide) rfl ?_
          refine WP_iload_n dX6_habit_99 rfl ?_
          refine WP_iload dX6_habit_100 rfl ?_
          refine WP_aload_n dX6_habit_102 rfl ?_
          refine WQ_getim dX6_habit_103 fX6_48 rfl (lyx_is hy 50 6 rfl) ev7663 ?_
          refine WQ_imulb (3) (20) dX6_habit_106 ⟨by omega, by omega⟩ ⟨by omega, by omega⟩ (by decide) (fun v7705 pv7705 av7705 bv7705 cv7705 => ?_)
          have k0 : v7665.toInt * v7663.toInt ≤ v7664.toInt * v7663.toInt := Int.mul_le_mul_of_nonneg_right (by omega) (by omega)
          refine WQ_isub dX6_habit_107 (by omega) (by omega) (fun v7706 hv7706 => ?_)
          refine WP_aload_n dX6_habit_108 rfl ?_
          refine WQ_geti dX6_habit_109 fX6_51 rfl (lyx_is hy 50 6 rfl) (BT_get hI.1 50 4 5 (0) (0) (20) (by decide) 4 (by decide) (by decide)) (fun v7707 ev7707 av7707 bv7707 => ?_)
          refine WP_callN2 dX6_habit_112 ⟨⟨⟨by decide, by decide⟩, zX10_affordable⟩, lX6_83, tX10_affordable⟩ (sx_afford hy hr hI v7706 v7707 (by omega) (by omega) (by omega) (by omega)) (Nat.le_of_ble_eq_true rfl) ?_
          intro r Ia Ja Ra hq
          obtain ⟨⟨ea, eb, ec⟩, v7708, rfl, av7708, bv7708, cv7708⟩ := hq
          show WP _ _ _ _ (.int _ :: _) _ _ _ _
          rw [ea, eb, ec]
          clear ea eb ec Ia Ja Ra
          refine WP_istore (ls' := [(0, _), (1, _), (2, _), (3, _), (4, _), (5, _), (6, _), (7, _), (8, _)]) dX6_habit_115 (by decide) rfl ?_
          refine WP_aload_n dX6_habit_117 rfl ?_
          refine WQ_geti dX6_habit_118 fX6_57 rfl (lyx_is hy 50 6 rfl) (BT_get hI.1 50 6 7 (0) (0) (2) (by decide) 6 (by decide) (by decide)) (fun v7709 ev7709 av7709 bv7709 => ?_)
          refine WP_iload dX6_habit_121 rfl ?_
          refine WQ_min dX6_habit_123 lX6_78 ⟨by decide, Nat.le_of_ble_eq_true rfl⟩ (fun v7710 av7710 bv7710 cv7710 => ?_)
          refine WP_iload dX6_habit_126 rfl ?_
          refine WQ_min dX6_habit_128 lX6_78 ⟨by decide, Nat.le_of_ble_eq_true rfl⟩ (fun v7711 av7711 bv7711 cv7711 => ?_)
          refine WP_istore (ls' := [(0, _), (1, _), (2, _), (3, _), (4, _), (5, _), (6, _), (7, _), (8, _)]) dX6_habit_131 (by decide) rfl ?_
          refine WQ_bipush (16) (16) dX6_habit_133 rfl rfl (fun v7712 hv7712 => ?_)
          refine WP_iload dX6_habit_135 rfl ?_
          refine WQ_imulK (16) dX6_habit_137 hv7712 (by omega) (by omega) (fun v7713 hv7713 => ?_)
          refine WQ_iconst (4) (4) dX6_habit_138 rfl rfl (fun v7714 hv7714 => ?_)
          refine WP_iload dX6_habit_139 rfl ?_
          refine WQ_imulK (4) dX6_habit_141 hv7714 (by omega) (by omega) (fun v7715 hv7715 => ?_)
          refine WQ_iadd dX6_habit_142 (by omega) (by omega) (fun v7716 hv7716 => ?_)
          refine WP_iload dX6_habit_143 rfl ?_
          refine WQ_iadd dX6_habit_145 (by omega) (by omega) (fun v7717 hv7717 => ?_)
          exact WP_iret dX6_habit_146 rfl ⟨⟨rfl, rfl, rfl⟩, _, rfl, by omega, by omega, (by
                have ee : v7717.toInt % 4 = v7665.toInt := by omega
                have es : v7717.toInt / 16 = v7711.toInt := by omega
                have ef : v7717.toInt / 4 % 4 = v7699.toInt := by omega
                rw [ee, es, ef, ev7663, ev7707]
                have k1 : v7665.toInt * v7663.toInt ≤ v7664.toInt * v7663.toInt := Int.mul_le_mul_of_nonneg_right (by omega) (by omega)
                have k2 : v7711.toInt * v7707.toInt ≤ v7708.toInt * v7707.toInt := Int.mul_le_mul_of_nonneg_right (by omega) (by omega)
                exact ⟨by omega, by omega, by omega⟩)⟩
        · refine WP_iload_n dX6_habit_79 rfl ?_
          refine WQ_iconst (2) (2) dX6_habit_80 rfl rfl (fun v7718 hv7718 => ?_)
          refine WQ_icmp_ne 133 dX6_habit_81 rfl (fun c7718 => ?_) (fun c7718 => ?_)
          · refine WQ_bipush (16) (16) dX6_habit_133 rfl rfl (fun v7720 hv7720 => ?_)
            refine WP_iload dX6_habit_135 rfl ?_
            refine WQ_imulk (0) dX6_habit_137 hv7700 (by omega) (by omega) (fun v7721 hv7721 => ?_)
            refine WQ_iconst (4) (4) dX6_habit_138 rfl rfl (fun v7722 hv7722 => ?_)
            refine WP_iload dX6_habit_139 rfl ?_
            refine WQ_imulK (4) dX6_habit_141 hv7722 (by omega) (by omega) (fun v7723 hv7723 => ?_)
            refine WQ_iadd dX6_habit_142 (by omega) (by omega) (fun v7724 hv7724 => ?_)
            refine WP_iload dX6_habit_143 rfl ?_
            refine WQ_iadd dX6_habit_145 (by omega) (by omega) (fun v7725 hv7725 => ?_)
            obtain ⟨w7726, ew7726⟩ : ∃ w : Int32, I (ad g 50) 4 = w := ⟨_, rfl⟩
            have bw7726 := BT_get hI.1 50 4 5 (0) (0) (20) (by decide) 4 (by decide) (by decide)
            rw [ew7726] at bw7726
            exact WP_iret dX6_habit_146 rfl ⟨⟨rfl, rfl, rfl⟩, _, rfl, by omega, by omega, (by
                  have ee : v7725.toInt % 4 = v7665.toInt := by omega
                  have es : v7725.toInt / 16 = v7700.toInt := by omega
                  have ef : v7725.toInt / 4 % 4 = v7699.toInt := by omega
                  rw [ee, es, ef, ev7663, ew7726]
                  have k1 : v7665.toInt * v7663.toInt ≤ v7664.toInt * v7663.toInt := Int.mul_le_mul_of_nonneg_right (by omega) (by omega)
                  have k2 : v7700.toInt * w7726.toInt = 0 := by rw [show v7700.toInt = 0 by omega]; simp
                  exact ⟨by omega, by omega, by omega⟩)⟩
          · refine WP_aload_n dX6_habit_84 rfl ?_
            refine WQ_geti dX6_habit_85 fX6_67 rfl (lyx_is hy 50 6 rfl) (BT_get hI.1 50 8 9 (0) (0) (1) (by decide) 8 (by decide) (by decide)) (fun v7727 ev7727 av7727 bv7727 => ?_)
            refine WQ_if_eq 133 dX6_habit_88 rfl (fun c7727 => ?_) (fun c7727 => ?_)
            · refine WQ_bipush (16) (16) dX6_habit_133 rfl rfl (fun v7729 hv7729 => ?_)
              refine WP_iload dX6_habit_135 rfl ?_
              refine WQ_imulk (0) dX6_habit_137 hv7700 (by omega) (by omega) (fun v7730 hv7730 => ?_)
              refine WQ_iconst (4) (4) dX6_habit_138 rfl rfl (fun v7731 hv7731 => ?_)
              refine WP_iload dX6_habit_139 rfl ?_
              refine WQ_imulK (4) dX6_habit_141 hv7731 (by omega) (by omega) (fun v7732 hv7732 => ?_)
              refine WQ_iadd dX6_habit_142 (by omega) (by omega) (fun v7733 hv7733 => ?_)
              refine WP_iload dX6_habit_143 rfl ?_
              refine WQ_iadd dX6_habit_145 (by omega) (by omega) (fun v7734 hv7734 => ?_)
              obtain ⟨w7735, ew7735⟩ : ∃ w : Int32, I (ad g 50) 4 = w := ⟨_, rfl⟩
              have bw7735 := BT_get hI.1 50 4 5 (0) (0) (20) (by decide) 4 (by decide) (by decide)
              rw [ew7735] at bw7735
              exact WP_iret dX6_habit_146 rfl ⟨⟨rfl, rfl, rfl⟩, _, rfl, by omega, by omega, (by
                    have ee : v7734.toInt % 4 = v7665.toInt := by omega
                    have es : v7734.toInt / 16 = v7700.toInt := by omega
                    have ef : v7734.toInt / 4 % 4 = v7699.toInt := by omega
                    rw [ee, es, ef, ev7663, ew7735]
                    have k1 : v7665.toInt * v7663.toInt ≤ v7664.toInt * v7663.toInt := Int.mul_le_mul_of_nonneg_right (by omega) (by omega)
                    have k2 : v7700.toInt * w7735.toInt = 0 := by rw [show v7700.toInt = 0 by omega]; simp
                    exact ⟨by omega, by omega, by omega⟩)⟩
            · refine WQ_iconst (5) (5) dX6_habit_91 rfl rfl (fun v7736 hv7736 => ?_)
              refine WP_iload_n dX6_habit_92 rfl ?_
              refine WQ_isub dX6_habit_93 (by omega) (by omega) (fun v7737 hv7737 => ?_)
              refine WP_iload dX6_habit_94 rfl ?_
              refine WQ_iadd dX6_habit_96 (by omega) (by omega) (fun v7738 hv7738 => ?_)
              refine WP_istore (ls' := [(0, _), (1, _), (2, _), (3, _), (4, _), (5, _), (6, _), (7, _)]) dX6_habit_97 (by decide) rfl ?_
              refine WP_iload_n dX6_habit_99 rfl ?_
              refine WP_iload dX6_habit_100 rfl ?_
              refine WP_aload_n dX6_habit_102 rfl ?_
              refine WQ_getim dX6_habit_103 fX6_48 rfl (lyx_is hy 50 6 rfl) ev7663 ?_
              refine WQ_imulb (3) (20) dX6_habit_106 ⟨by omega, by omega⟩ ⟨by omega, by omega⟩ (by decide) (fun v7739 pv7739 av7739 bv7739 cv7739 => ?_)
              have k0 : v7665.toInt * v7663.toInt ≤ v7664.toInt * v7663.toInt := Int.mul_le_mul_of_nonneg_right (by omega) (by omega)
              refine WQ_isub dX6_habit_107 (by omega) (by omega) (fun v7740 hv7740 => ?_)
              refine WP_aload_n dX6_habit_108 rfl ?_
              refine WQ_geti dX6_habit_109 fX6_51 rfl (lyx_is hy 50 6 rfl) (BT_get hI.1 50 4 5 (0) (0) (20) (by decide) 4 (by decide) (by decide)) (fun v7741 ev7741 av7741 bv7741 => ?_)
              refine WP_callN2 dX6_habit_112 ⟨⟨⟨by decide, by decide⟩, zX10_affordable⟩, lX6_83, tX10_affordable⟩ (sx_afford hy hr hI v7740 v7741 (by omega) (by omega) (by omega) (by omega)) (Nat.le_of_ble_eq_true rfl) ?_
              intro r Ia Ja Ra hq
              obtain ⟨⟨ea, eb, ec⟩, v7742, rfl, av7742, bv7742, cv7742⟩ := hq
              show WP _ _ _ _ (.int _ :: _) _ _ _ _
              rw [ea, eb, ec]
              clear ea eb ec Ia Ja Ra
              refine WP_istore (ls' := [(0, _), (1, _), (2, _), (3, _), (4, _), (5, _), (6, _), (7, _), (8, _)]) dX6_habit_115 (by decide) rfl ?_
              refine WP_aload_n dX6_habit_117 rfl ?_
              refine WQ_geti dX6_habit_118 fX6_57 rfl (lyx_is hy 50 6 rfl) (BT_get hI.1 50 6 7 (0) (0) (2) (by decide) 6 (by decide) (by decide)) (fun v7743 ev7743 av7743 bv7743 => ?_)
              refine WP_iload dX6_habit_121 rfl ?_
              refine WQ_min dX6_habit_123 lX6_78 ⟨by decide, Nat.le_of_ble_eq_true rfl⟩ (fun v7744 av7744 bv7744 cv7744 => ?_)
              refine WP_iload dX6_habit_126 rfl ?_
              refine WQ_min dX6_habit_128 lX6_78 ⟨by decide, Nat.le_of_ble_eq_true rfl⟩ (fun v7745 av7745 bv7745 cv7745 => ?_)
              refine WP_istore (ls' := [(0, _), (1, _), (2, _), (3, _), (4, _), (5, _), (6, _), (7, _), (8, _)]) dX6_habit_131 (by decide) rfl ?_
              refine WQ_bipush (16) (16) dX6_habit_133 rfl rfl (fun v7746 hv7746 => ?_)
              refine WP_iload dX6_habit_135 rfl ?_
              refine WQ_imulK (16) dX6_habit_137 hv7746 (by omega) (by omega) (fun v7747 hv7747 => ?_)
              refine WQ_iconst (4) (4) dX6_habit_138 rfl rfl (fun v7748 hv7748 => ?_)
              refine WP_iload dX6_habit_139 rfl ?_
              refine WQ_imulK (4) dX6_habit_141 hv7748 (by omega) (by omega) (fun v7749 hv7749 => ?_)
              refine WQ_iadd dX6_habit_142 (by omega) (by omega) (fun v7750 hv7750 => ?_)
              refine WP_iload dX6_habit_143 rfl ?_
              refine WQ_iadd dX6_habit_145 (by omega) (by omega) (fun v7751 hv7751 => ?_)
              exact WP_iret dX6_habit_146 rfl ⟨⟨rfl, rfl, rfl⟩, _, rfl, by omega, by omega, (by
                    have ee : v7751.toInt % 4 = v7665.toInt := by omega
                    have es : v7751.toInt / 16 = v7745.toInt := by omega
                    have ef : v7751.toInt / 4 % 4 = v7699.toInt := by omega
                    rw [ee, es, ef, ev7663, ev7741]
                    have k1 : v7665.toInt * v7663.toInt ≤ v7664.toInt * v7663.toInt := Int.mul_le_mul_of_nonneg_right (by omega) (by omega)
                    have k2 : v7745.toInt * v7741.toInt ≤ v7742.toInt * v7741.toInt := Int.mul_le_mul_of_nonneg_right (by omega) (by omega)
                    exact ⟨by omega, by omega, by omega⟩)⟩
    · refine WP_aload_n dX6_habit_12 rfl ?_
      refine WP_iload_n dX6_habit_13 rfl ?_
      refine WP_callV1 (k := 6) dX6_habit_14 ⟨⟨⟨by decide, by decide⟩, zX6_mostFromStore⟩, lX6_70, by decide, rfl, vX6_mostFromStore.1, vX6_mostFromStore.2⟩ (lyx_is hy 50 6 rfl) (sx_mfs_50 hy hr hI st (by omega) (by omega)) (Nat.le_of_ble_eq_true rfl) ?_
      intro r Ia Ja Ra hq
      obtain ⟨⟨ea, eb, ec⟩, v7752, rfl, av7752, bv7752, cv7752⟩ := hq
      show WP _ _ _ _ (.int _ :: _) _ _ _ _
      rw [ea, eb, ec]
      clear ea eb ec Ia Ja Ra
      obtain ⟨w7753, ew7753⟩ : ∃ w : Int32, I (ad g 50) 1 = w := ⟨_, rfl⟩
      have bw7753 := BT_get hI.1 50 1 2 (0) (0) (3) (by decide) 1 (by decide) (by decide)
      rw [ew7753] at bw7753
      rw [ew7753] at cv7752
      refine WP_goto 21 dX6_habit_17 rfl ?_
      refine WP_istore (ls' := [(0, _), (1, _), (2, _), (3, _), (4, _)]) dX6_habit_21 (by decide) rfl ?_
      refine WP_aload_n dX6_habit_23 rfl ?_
      refine WQ_geti dX6_habit_24 fX6_54 rfl (lyx_is hy 50 6 rfl) (BT_get hI.1 50 5 6 (0) (0) (3) (by decide) 5 (by decide) (by decide)) (fun v7754 ev7754 av7754 bv7754 => ?_)
      refine WP_aload_n dX6_habit_27 rfl ?_
      refine WQ_getim dX6_habit_28 fX6_36 rfl (lyx_is hy 50 6 rfl) ew7753 ?_
      refine WP_iload dX6_habit_31 rfl ?_
      refine WQ_isub dX6_habit_33 (by omega) (by omega) (fun v7755 hv7755 => ?_)
      refine WQ_min dX6_habit_34 lX6_78 ⟨by decide, Nat.le_of_ble_eq_true rfl⟩ (fun v7756 av7756 bv7756 cv7756 => ?_)
      refine WP_iload_n dX6_habit_37 rfl ?_
      refine WP_aload_n dX6_habit_38 rfl ?_
      refine WQ_geti dX6_habit_39 fX6_48 rfl (lyx_is hy 50 6 rfl) (BT_get hI.1 50 3 4 (0) (0) (20) (by decide) 3 (by decide) (by decide)) (fun v7757 ev7757 av7757 bv7757 => ?_)
      refine WP_callN2 dX6_habit_42 ⟨⟨⟨by decide, by decide⟩, zX10_affordable⟩, lX6_83, tX10_affordable⟩ (sx_afford hy hr hI co v7757 (by omega) (by omega) (by omega) (by omega)) (Nat.le_of_ble_eq_true rfl) ?_
      intro r Ia Ja Ra hq
      obtain ⟨⟨ea, eb, ec⟩, v7758, rfl, av7758, bv7758, cv7758⟩ := hq
      show WP _ _ _ _ (.int _ :: _) _ _ _ _
      rw [ea, eb, ec]
      clear ea eb ec Ia Ja Ra
      refine WQ_min dX6_habit_45 lX6_78 ⟨by decide, Nat.le_of_ble_eq_true rfl⟩ (fun v7759 av7759 bv7759 cv7759 => ?_)
      refine WP_istore (ls' := [(0, _), (1, _), (2, _), (3, _), (4, _), (5, _)]) dX6_habit_48 (by decide) rfl ?_
      refine WP_iload_n dX6_habit_50 rfl ?_
      refine WQ_iconst (2) (2) dX6_habit_51 rfl rfl (fun v7760 hv7760 => ?_)
      refine WQ_icmp_eq 72 dX6_habit_52 rfl (fun c7760 => ?_) (fun c7760 => False.elim (by omega))
      refine WQ_iconst (0) (0) dX6_habit_72 rfl rfl (fun v7762 hv7762 => ?_)
      refine WP_istore (ls' := [(0, _), (1, _), (2, _), (3, _), (4, _), (5, _), (6, _)]) dX6_habit_73 (by decide) rfl ?_
      refine WP_iload_n dX6_habit_75 rfl ?_
      refine WQ_if_eq 91 dX6_habit_76 rfl (fun c7762 => False.elim (by omega)) (fun c7762 => ?_)
      refine WP_iload_n dX6_habit_79 rfl ?_
      refine WQ_iconst (2) (2) dX6_habit_80 rfl rfl (fun v7764 hv7764 => ?_)
      refine WQ_icmp_ne 133 dX6_habit_81 rfl (fun c7764 => False.elim (by omega)) (fun c7764 => ?_)
      refine WP_aload_n dX6_habit_84 rfl ?_
      refine WQ_geti dX6_habit_85 fX6_67 rfl (lyx_is hy 50 6 rfl) (BT_get hI.1 50 8 9 (0) (0) (1) (by decide) 8 (by decide) (by decide)) (fun v7766 ev7766 av7766 bv7766 => ?_)
      refine WQ_if_eq 133 dX6_habit_88 rfl (fun c7766 => ?_) (fun c7766 => ?_)
      · refine WQ_bipush (16) (16) dX6_habit_133 rfl rfl (fun v7768 hv7768 => ?_)
        refine WP_iload dX6_habit_135 rfl ?_
        refine WQ_imulk (0) dX6_habit_137 hv7762 (by omega) (by omega) (fun v7769 hv7769 => ?_)
        refine WQ_iconst (4) (4) dX6_habit_138 rfl rfl (fun v7770 hv7770 => ?_)
        refine WP_iload dX6_habit_139 rfl ?_
        refine WQ_imulK (4) dX6_habit_141 hv7770 (by omega) (by omega) (fun v7771 hv7771 => ?_)
        refine WQ_iadd dX6_habit_142 (by omega) (by omega) (fun v7772 hv7772 => ?_)
        refine WP_iload dX6_habit_143 rfl ?_
        refine WQ_iadd dX6_habit_145 (by omega) (by omega) (fun v7773 hv7773 => ?_)
        obtain ⟨w7774, ew7774⟩ : ∃ w : Int32, I (ad g 50) 4 = w := ⟨_, rfl⟩
        have bw7774 := BT_get hI.1 50 4 5 (0) (0) (20) (by decide) 4 (by decide) (by decide)
        rw [ew7774] at bw7774
        exact WP_iret dX6_habit_146 rfl ⟨⟨rfl, rfl, rfl⟩, _, rfl, by omega, by omega, (by
              have ee : v7773.toInt % 4 = v7759.toInt := by omega
              have es : v7773.toInt / 16 = v7762.toInt := by omega
              have ef : v7773.toInt / 4 % 4 = v7752.toInt := by omega
              rw [ee, es, ef, ev7757, ew7774]
              have k1 : v7759.toInt * v7757.toInt ≤ v7758.toInt * v7757.toInt := Int.mul_le_mul_of_nonneg_right (by omega) (by omega)
              have k2 : v7762.toInt * w7774.toInt = 0 := by rw [show v7762.toInt = 0 by omega]; simp
              exact ⟨by omega, by omega, by omega⟩)⟩
      · refine WQ_iconst (5) (5) dX6_habit_91 rfl rfl (fun v7775 hv7775 => ?_)
        refine WP_iload_n dX6_habit_92 rfl ?_
        refine WQ_isub dX6_habit_93 (by omega) (by omega) (fun v7776 hv7776 => ?_)
        refine WP_iload dX6_habit_94 rfl ?_
        refine WQ_iadd dX6_habit_96 (by omega) (by omega) (fun v7777 hv7777 => ?_)
        refine WP_istore (ls' := [(0, _), (1, _), (2, _), (3, _), (4, _), (5, _), (6, _), (7, _)]) dX6_habit_97 (by decide) rfl ?_
        refine WP_iload_n dX6_habit_99 rfl ?_
        refine WP_iload dX6_habit_100 rfl ?_
        refine WP_aload_n dX6_habit_102 rfl ?_
        refine WQ_getim dX6_habit_103 fX6_48 rfl (lyx_is hy 50 6 rfl) ev7757 ?_
        refine WQ_imulb (3) (20) dX6_habit_106 ⟨by omega, by omega⟩ ⟨by omega, by omega⟩ (by decide) (fun v7778 pv7778 av7778 bv7778 cv7778 => ?_)
        have k0 : v7759.toInt * v7757.toInt ≤ v7758.toInt * v7757.toInt := Int.mul_le_mul_of_nonneg_right (by omega) (by omega)
        refine WQ_isub dX6_habit_107 (by omega) (by omega) (fun v7779 hv7779 => ?_)
        refine WP_aload_n dX6_habit_108 rfl ?_
        refine WQ_geti dX6_habit_109 fX6_51 rfl (lyx_is hy 50 6 rfl) (BT_get hI.1 50 4 5 (0) (0) (20) (by decide) 4 (by decide) (by decide)) (fun v7780 ev7780 av7780 bv7780 => ?_)
        refine WP_callN2 dX6_habit_112 ⟨⟨⟨by decide, by decide⟩, zX10_affordable⟩, lX6_83, tX10_affordable⟩ (sx_afford hy hr hI v7779 v7780 (by omega) (by omega) (by omega) (by omega)) (Nat.le_of_ble_eq_true rfl) ?_
        intro r Ia Ja Ra hq
        obtain ⟨⟨ea, eb, ec⟩, v7781, rfl, av7781, bv7781, cv7781⟩ := hq
        show WP _ _ _ _ (.int _ :: _) _ _ _ _
        rw [ea, eb, ec]
        clear ea eb ec Ia Ja Ra
        refine WP_istore (ls' := [(0, _), (1, _), (2, _), (3, _), (4, _), (5, _), (6, _), (7, _), (8, _)]) dX6_habit_115 (by decide) rfl ?_
        refine WP_aload_n dX6_habit_117 rfl ?_
        refine WQ_geti dX6_habit_118 fX6_57 rfl (lyx_is hy 50 6 rfl) (BT_get hI.1 50 6 7 (0) (0) (2) (by decide) 6 (by decide) (by decide)) (fun v7782 ev7782 av7782 bv7782 => ?_)
        refine WP_iload dX6_habit_121 rfl ?_
        refine WQ_min dX6_habit_123 lX6_78 ⟨by decide, Nat.le_of_ble_eq_true rfl⟩ (fun v7783 av7783 bv7783 cv7783 => ?_)
        refine WP_iload dX6_habit_126 rfl ?_
        refine WQ_min dX6_habit_128 lX6_78 ⟨by decide, Nat.le_of_ble_eq_true rfl⟩ (fun v7784 av7784 bv7784 cv7784 => ?_)
        refine WP_istore (ls' := [(0, _), (1, _), (2, _), (3, _), (4, _), (5, _), (6, _), (7, _), (8, _)]) dX6_habit_131 (by decide) rfl ?_
        refine WQ_bipush (16) (16) dX6_habit_133 rfl rfl (fun v7785 hv7785 => ?_)
        refine WP_iload dX6_habit_135 rfl ?_
        refine WQ_imulK (16) dX6_habit_137 hv7785 (by omega) (by omega) (fun v7786 hv7786 => ?_)
        refine WQ_iconst (4) (4) dX6_habit_138 rfl rfl (fun v7787 hv7787 => ?_)
        refine WP_iload dX6_habit_139 rfl ?_
        refine WQ_imulK (4) dX6_habit_141 hv7787 (by omega) (by omega) (fun v7788 hv7788 => ?_)
        refine WQ_iadd dX6_habit_142 (by omega) (by omega) (fun v7789 hv7789 => ?_)
        refine WP_iload dX6_habit_143 rfl ?_
        refine WQ_iadd dX6_habit_145 (by omega) (by omega) (fun v7790 hv7790 => ?_)
        exact WP_iret dX6_habit_146 rfl ⟨⟨rfl, rfl, rfl⟩, _, rfl, by omega, by omega, (by
              have ee : v7790.toInt % 4 = v7759.toInt := by omega
              have es : v7790.toInt / 16 = v7784.toInt := by omega
              have ef : v7790.toInt / 4 % 4 = v7752.toInt := by omega
              rw [ee, es, ef, ev7757, ev7780]
              have k1 : v7759.toInt * v7757.toInt ≤ v7758.toInt * v7757.toInt := Int.mul_le_mul_of_nonneg_right (by omega) (by omega)
              have k2 : v7784.toInt * v7780.toInt ≤ v7781.toInt * v7780.toInt := Int.mul_le_mul_of_nonneg_right (by omega) (by omega)
              exact ⟨by omega, by omega, by omega⟩)⟩
  · refine WQ_iconst (0) (0) dX6_habit_5 rfl rfl (fun v7791 hv7791 => ?_)
    exact WP_iret dX6_habit_6 rfl ⟨⟨rfl, rfl, rfl⟩, _, rfl, by omega, by omega, (by have hz : v7791.toInt = 0 := (by omega); rw [hz]; refine ⟨by omega, by omega, ?_⟩; simp; omega)⟩
