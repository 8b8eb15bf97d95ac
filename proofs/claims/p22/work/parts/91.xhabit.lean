set_option maxHeartbeats 4000000 in
set_option maxRecDepth 100000 in
theorem sx_afford {g : GG} {n : Int} {L : Int32} (hy : LyX g)  {I : pI} {J : pJ} {R : pR} (hr : RfX g R) (hI : XI g n L I) (co : Int32) (pr : Int32) (co_lo : 0 ≤ co.toInt) (co_hi : co.toInt ≤ 60) (pr_lo : 0 ≤ pr.toInt) (pr_hi : pr.toInt ≤ 20) : SP g mX10_affordable [.int co, .int pr] I J R (fun r I' J' R' => (I' = I ∧ J' = J ∧ R' = R) ∧ ∃ v : Int32, r = some (.int v) ∧ 0 ≤ v.toInt ∧ v.toInt ≤ 60 ∧ v.toInt * pr.toInt ≤ co.toInt) := by
  refine SP_of ⟨by decide, rfl⟩ (Nat.le_of_ble_eq_true rfl) ?_
  have e7638 : I (ad g 1) 1 = L := hI.2
  have b7639 := BT_get hI.1 1 1 2 (0) (0) (900) (by decide) 1 (by decide) (by decide)
  rw [e7638] at b7639
  refine WP_iload_n dX10_affordable_0 rfl ?_
  refine WQ_iconst (1) (1) dX10_affordable_1 rfl rfl (fun v7640 hv7640 => ?_)
  refine WQ_icmp_ge 9 dX10_affordable_2 rfl (fun c7640 => ?_) (fun c7640 => ?_)
  · refine WP_iload_n dX10_affordable_9 rfl ?_
    refine WP_iload_n dX10_affordable_10 rfl ?_
    refine WQ_idivb dX10_affordable_11 (by omega) (by omega) (fun v7642 pv7642 av7642 bv7642 cv7642 => ?_)
    exact WP_iret dX10_affordable_12 rfl ⟨⟨rfl, rfl, rfl⟩, _, rfl, by omega, by omega, (by first | omega | (have hz : v7642.toInt = 0 := (by omega); rw [hz]; omega))⟩
  · refine WQ_iconst (0) (0) dX10_affordable_5 rfl rfl (fun v7643 hv7643 => ?_)
    refine WP_goto 12 dX10_affordable_6 rfl ?_
    exact WP_iret dX10_affordable_12 rfl ⟨⟨rfl, rfl, rfl⟩, _, rfl, by omega, by omega, (by first | omega | (have hz : v7643.toInt = 0 := (by omega); rw [hz]; omega))⟩
set_option maxHeartbeats 4000000 in
set_option maxRecDepth 100000 in
theorem sx_mfs_50 {g : GG} {n : Int} {L : Int32} (hy : LyX g)  {I : pI} {J : pJ} {R : pR} (hr : RfX g R) (hI : XI g n L I) (st : Int32) (st_lo : 0 ≤ st.toInt) (st_hi : st.toInt ≤ 5) : SP g mX6_mostFromStore [.ref (ad g 50), .int st] I J R (fun r I' J' R' => (I' = I ∧ J' = J ∧ R' = R) ∧ ∃ v : Int32, r = some (.int v) ∧ 0 ≤ v.toInt ∧ v.toInt ≤ 3 ∧ (v.toInt ≤ st.toInt ∧ v.toInt ≤ (I (ad g 50) 1).toInt)) := by
  refine SP_of ⟨by decide, rfl⟩ (Nat.le_of_ble_eq_true rfl) ?_
  have e7644 : I (ad g 1) 1 = L := hI.2
  have b7645 := BT_get hI.1 1 1 2 (0) (0) (900) (by decide) 1 (by decide) (by decide)
  rw [e7644] at b7645
  refine WP_aload_n dX6_mostFromStore_0 rfl ?_
  refine WQ_geti dX6_mostFromStore_1 fX6_60 rfl (lyx_is hy 50 6 rfl) (BT_get hI.1 50 7 8 (0) (0) (1) (by decide) 7 (by decide) (by decide)) (fun v7646 ev7646 av7646 bv7646 => ?_)
  refine WQ_if_ne 11 dX6_mostFromStore_4 rfl (fun c7646 => ?_) (fun c7646 => ?_)
  · refine WP_iload_n dX6_mostFromStore_11 rfl ?_
    refine WP_aload_n dX6_mostFromStore_12 rfl ?_
    refine WQ_geti dX6_mostFromStore_13 fX6_36 rfl (lyx_is hy 50 6 rfl) (BT_get hI.1 50 1 2 (0) (0) (3) (by decide) 1 (by decide) (by decide)) (fun v7648 ev7648 av7648 bv7648 => ?_)
    refine WQ_icmp_ge 23 dX6_mostFromStore_16 rfl (fun c7648 => ?_) (fun c7648 => ?_)
    · refine WP_aload_n dX6_mostFromStore_23 rfl ?_
      refine WQ_getim dX6_mostFromStore_24 fX6_36 rfl (lyx_is hy 50 6 rfl) ev7648 ?_
      exact WP_iret dX6_mostFromStore_27 rfl ⟨⟨rfl, rfl, rfl⟩, _, rfl, by omega, by omega, by (try rw [ev7648]); omega⟩
    · refine WP_iload_n dX6_mostFromStore_19 rfl ?_
      refine WP_goto 27 dX6_mostFromStore_20 rfl ?_
      exact WP_iret dX6_mostFromStore_27 rfl ⟨⟨rfl, rfl, rfl⟩, _, rfl, by omega, by omega, by (try rw [ev7648]); omega⟩
  · refine WQ_iconst (0) (0) dX6_mostFromStore_7 rfl rfl (fun v7650 hv7650 => ?_)
    refine WP_goto 27 dX6_mostFromStore_8 rfl ?_
    obtain ⟨w7651, ew7651⟩ : ∃ w : Int32, I (ad g 50) 1 = w := ⟨_, rfl⟩
    have bw7651 := BT_get hI.1 50 1 2 (0) (0) (3) (by decide) 1 (by decide) (by decide)
    rw [ew7651] at bw7651
    exact WP_iret dX6_mostFromStore_27 rfl ⟨⟨rfl, rfl, rfl⟩, _, rfl, by omega, by omega, by (try rw [ew7651]); omega⟩
