set_option maxHeartbeats 4000000 in
set_option maxRecDepth 100000 in
theorem sx_faultAhead_6_0 {g : GG} {n : Int} {L : Int32} (hy : LyX g)  {I : pI} {J : pJ} {R : pR} (hr : RfX g R) (hI : XI g n L I) (cz : Int32) (cz_lo : 0 ≤ cz.toInt) (cz_hi : cz.toInt ≤ 0) : SP g mX7_faultAhead [.ref (ad g 6), .int cz] I J R (fun r I' J' R' => (I' = I ∧ J' = J ∧ R' = R) ∧ ∃ v : Int32, r = some (.int v) ∧ 0 ≤ v.toInt ∧ v.toInt ≤ 4) := by
  refine SP_of ⟨by decide, rfl⟩ (Nat.le_of_ble_eq_true rfl) ?_
  have e15748 : I (ad g 1) 1 = L := hI.2
  have b15749 := BT_get hI.1 1 1 2 (0) (0) (900) (by decide) 1 (by decide) (by decide)
  rw [e15748] at b15749
  refine WP_iload_n dX7_faultAhead_0 rfl ?_
  refine WQ_iconst (1) (1) dX7_faultAhead_1 rfl rfl (fun v15750 hv15750 => ?_)
  refine WQ_icmp_ne 13 dX7_faultAhead_2 rfl (fun c15750 => ?_) (fun c15750 => False.elim (by omega))
  refine WP_iload_n dX7_faultAhead_13 rfl ?_
  refine WQ_iconst (2) (2) dX7_faultAhead_14 rfl rfl (fun v15752 hv15752 => ?_)
  refine WQ_icmp_ne 28 dX7_faultAhead_15 rfl (fun c15752 => ?_) (fun c15752 => False.elim (by omega))
  refine WP_iload_n dX7_faultAhead_28 rfl ?_
  refine WQ_bipush (8) (8) dX7_faultAhead_29 rfl rfl (fun v15754 hv15754 => ?_)
  have jn55_15758 : ∀ (v15758 : Int32), 0 ≤ v15758.toInt → v15758.toInt ≤ 0 → WP g mX7_faultAhead 55 [(0, .ref (ad g 6)), (1, .int cz)] [.int v15758] I J R (fun r I' J' R' => (I' = I ∧ J' = J ∧ R' = R) ∧ ∃ v : Int32, r = some (.int v) ∧ 0 ≤ v.toInt ∧ v.toInt ≤ 4) := by
    intro v15758 av15758 bv15758
    exact WP_iret dX7_faultAhead_55 rfl ⟨⟨rfl, rfl, rfl⟩, _, rfl, by omega, by omega⟩
  refine WQ_icmp_eq 40 dX7_faultAhead_31 rfl (fun c15759 => False.elim (by omega)) (fun c15759 => ?_)
  refine WP_iload_n dX7_faultAhead_34 rfl ?_
  refine WQ_bipush (9) (9) dX7_faultAhead_35 rfl rfl (fun v15761 hv15761 => ?_)
  refine WQ_icmp_ne 54 dX7_faultAhead_37 rfl (fun c15761 => ?_) (fun c15761 => False.elim (by omega))
  refine WQ_iconst (0) (0) dX7_faultAhead_54 rfl rfl (fun v15763 hv15763 => ?_)
  exact WP_sub (fc rfl (fc rfl fn)) (jn55_15758 v15763 (by omega) (by omega))
set_option maxHeartbeats 4000000 in
set_option maxRecDepth 100000 in
theorem sx_faultAhead_6_1 {g : GG} {n : Int} {L : Int32} (hy : LyX g)  {I : pI} {J : pJ} {R : pR} (hr : RfX g R) (hI : XI g n L I) (cz : Int32) (cz_lo : 1 ≤ cz.toInt) (cz_hi : cz.toInt ≤ 1) : SP g mX7_faultAhead [.ref (ad g 6), .int cz] I J R (fun r I' J' R' => (I' = I ∧ J' = J ∧ R' = R) ∧ ∃ v : Int32, r = some (.int v) ∧ 0 ≤ v.toInt ∧ v.toInt ≤ 4 ∧ (v.toInt = 0 → (I (ad g 6) 1).toInt ≤ 3)) := by
  refine SP_of ⟨by decide, rfl⟩ (Nat.le_of_ble_eq_true rfl) ?_
  have e15764 : I (ad g 1) 1 = L := hI.2
  have b15765 := BT_get hI.1 1 1 2 (0) (0) (900) (by decide) 1 (by decide) (by decide)
  rw [e15764] at b15765
  refine WP_iload_n dX7_faultAhead_0 rfl ?_
  refine WQ_iconst (1) (1) dX7_faultAhead_1 rfl rfl (fun v15766 hv15766 => ?_)
  refine WQ_icmp_ne 13 dX7_faultAhead_2 rfl (fun c15766 => False.elim (by omega)) (fun c15766 => ?_)
  refine WP_aload_n dX7_faultAhead_5 rfl ?_
  refine WQ_geti dX7_faultAhead_6 fX7_65 rfl (lyx_is hy 6 7 rfl) (BT_get hI.1 6 1 2 (0) (0) (4) (by decide) 1 (by decide) (by decide)) (fun v15768 ev15768 av15768 bv15768 => ?_)
  refine WQ_iconst (4) (4) dX7_faultAhead_9 rfl rfl (fun v15769 hv15769 => ?_)
  refine WQ_icmp_eq 26 dX7_faultAhead_10 rfl (fun c15769 => ?_) (fun c15769 => ?_)
  · refine WQ_iconst (4) (4) dX7_faultAhead_26 rfl rfl (fun v15771 hv15771 => ?_)
    exact WP_iret dX7_faultAhead_27 rfl ⟨⟨rfl, rfl, rfl⟩, _, rfl, by omega, by omega, by (try rw [ev15768]); omega⟩
  · refine WP_iload_n dX7_faultAhead_13 rfl ?_
    refine WQ_iconst (2) (2) dX7_faultAhead_14 rfl rfl (fun v15772 hv15772 => ?_)
    refine WQ_icmp_ne 28 dX7_faultAhead_15 rfl (fun c15772 => ?_) (fun c15772 => False.elim (by omega))
    refine WP_iload_n dX7_faultAhead_28 rfl ?_
    refine WQ_bipush (8) (8) dX7_faultAhead_29 rfl rfl (fun v15774 hv15774 => ?_)
    refine WQ_icmp_eq 40 dX7_faultAhead_31 rfl (fun c15774 => False.elim (by omega)) (fun c15774 => ?_)
    refine WP_iload_n dX7_faultAhead_34 rfl ?_
    refine WQ_bipush (9) (9) dX7_faultAhead_35 rfl rfl (fun v15776 hv15776 => ?_)
    refine WQ_icmp_ne 54 dX7_faultAhead_37 rfl (fun c15776 => ?_) (fun c15776 => False.elim (by omega))
    refine WQ_iconst (0) (0) dX7_faultAhead_54 rfl rfl (fun v15778 hv15778 => ?_)
    exact WP_iret dX7_faultAhead_55 rfl ⟨⟨rfl, rfl, rfl⟩, _, rfl, by omega, by omega, by (try rw [ev15768]); omega⟩
set_option maxHeartbeats 4000000 in
set_option maxRecDepth 100000 in
theorem sx_faultAhead_6_2 {g : GG} {n : Int} {L : Int32} (hy : LyX g)  {I : pI} {J : pJ} {R : pR} (hr : RfX g R) (hI : XI g n L I) (cz : Int32) (cz_lo : 2 ≤ cz.toInt) (cz_hi : cz.toInt ≤ 2) : SP g mX7_faultAhead [.ref (ad g 6), .int cz] I J R (fun r I' J' R' => (I' = I ∧ J' = J ∧ R' = R) ∧ ∃ v : Int32, r = some (.int v) ∧ 0 ≤ v.toInt ∧ v.toInt ≤ 4 ∧ (v.toInt = 0 → (I (ad g 6) 2).toInt ≤ 2)) := by
  refine SP_of ⟨by decide, rfl⟩ (Nat.le_of_ble_eq_true rfl) ?_
  have e15779 : I (ad g 1) 1 = L := hI.2
  have b15780 := BT_get hI.1 1 1 2 (0) (0) (900) (by decide) 1 (by decide) (by decide)
  rw [e15779] at b15780
  refine WP_iload_n dX7_faultAhead_0 rfl ?_
  refine WQ_iconst (1) (1) dX7_faultAhead_1 rfl rfl (fun v15781 hv15781 => ?_)
  refine WQ_icmp_ne 13 dX7_faultAhead_2 rfl (fun c15781 => ?_) (fun c15781 => False.elim (by omega))
  refine WP_iload_n dX7_faultAhead_13 rfl ?_
  refine WQ_iconst (2) (2) dX7_faultAhead_14 rfl rfl (fun v15783 hv15783 => ?_)
  refine WQ_icmp_ne 28 dX7_faultAhead_15 rfl (fun c15783 => False.elim (by omega)) (fun c15783 => ?_)
  refine WP_aload_n dX7_faultAhead_18 rfl ?_
  refine WQ_geti dX7_faultAhead_19 fX7_68 rfl (lyx_is hy 6 7 rfl) (BT_get hI.1 6 2 3 (0) (0) (3) (by decide) 2 (by decide) (by decide)) (fun v15785 ev15785 av15785 bv15785 => ?_)
  refine WQ_iconst (3) (3) dX7_faultAhead_22 rfl rfl (fun v15786 hv15786 => ?_)
  refine WQ_icmp_ne 28 dX7_faultAhead_23 rfl (fun c15786 => ?_) (fun c15786 => ?_)
  · refine WP_iload_n dX7_faultAhead_28 rfl ?_
    refine WQ_bipush (8) (8) dX7_faultAhead_29 rfl rfl (fun v15788 hv15788 => ?_)
    refine WQ_icmp_eq 40 dX7_faultAhead_31 rfl (fun c15788 => False.elim (by omega)) (fun c15788 => ?_)
    refine WP_iload_n dX7_faultAhead_34 rfl ?_
    refine WQ_bipush (9) (9) dX7_faultAhead_35 rfl rfl (fun v15790 hv15790 => ?_)
    refine WQ_icmp_ne 54 dX7_faultAhead_37 rfl (fun c15790 => ?_) (fun c15790 => False.elim (by omega))
    refine WQ_iconst (0) (0) dX7_faultAhead_54 rfl rfl (fun v15792 hv15792 => ?_)
    exact WP_iret dX7_faultAhead_55 rfl ⟨⟨rfl, rfl, rfl⟩, _, rfl, by omega, by omega, by (try rw [ev15785]); omega⟩
  · refine WQ_iconst (4) (4) dX7_faultAhead_26 rfl rfl (fun v15793 hv15793 => ?_)
    exact WP_iret dX7_faultAhead_27 rfl ⟨⟨rfl, rfl, rfl⟩, _, rfl, by omega, by omega, by (try rw [ev15785]); omega⟩
set_option maxHeartbeats 4000000 in
set_option maxRecDepth 100000 in
theorem sx_faultAhead_6_3 {g : GG} {n : Int} {L : Int32} (hy : LyX g)  {I : pI} {J : pJ} {R : pR} (hr : RfX g R) (hI : XI g n L I) (cz : Int32) (cz_lo : 3 ≤ cz.toInt) (cz_hi : cz.toInt ≤ 3) : SP g mX7_faultAhead [.ref (ad g 6), .int cz] I J R (fun r I' J' R' => (I' = I ∧ J' = J ∧ R' = R) ∧ ∃ v : Int32, r = some (.int v) ∧ 0 ≤ v.toInt ∧ v.toInt ≤ 4) := by
  refine SP_of ⟨by decide, rfl⟩ (Nat.le_of_ble_eq_true rfl) ?_
  have e15794 : I (ad g 1) 1 = L := hI.2
  have b15795 := BT_get hI.1 1 1 2 (0) (0) (900) (by decide) 1 (by decide) (by decide)
  rw [e15794] at b15795
  refine WP_iload_n dX7_faultAhead_0 rfl ?_
  refine WQ_iconst (1) (1) dX7_faultAhead_1 rfl rfl (fun v15796 hv15796 => ?_)
  refine WQ_icmp_ne 13 dX7_faultAhead_2 rfl (fun c15796 => ?_) (fun c15796 => False.elim (by omega))
  refine WP_iload_n dX7_faultAhead_13 rfl ?_
  refine WQ_iconst (2) (2) dX7_faultAhead_14 rfl rfl (fun v15798 hv15798 => ?_)
  refine WQ_icmp_ne 28 dX7_faultAhead_15 rfl (fun c15798 => ?_) (fun c15798 => False.elim (by omega))
  refine WP_iload_n dX7_faultAhead_28 rfl ?_
  refine WQ_bipush (8) (8) dX7_faultAhead_29 rfl rfl (fun v15800 hv15800 => ?_)
  have jn55_15804 : ∀ (v15804 : Int32), 0 ≤ v15804.toInt → v15804.toInt ≤ 0 → WP g mX7_faultAhead 55 [(0, .ref (ad g 6)), (1, .int cz)] [.int v15804] I J R (fun r I' J' R' => (I' = I ∧ J' = J ∧ R' = R) ∧ ∃ v : Int32, r = some (.int v) ∧ 0 ≤ v.toInt ∧ v.toInt ≤ 4) := by
    intro v15804 av15804 bv15804
    exact WP_iret dX7_faultAhead_55 rfl ⟨⟨rfl, rfl, rfl⟩, _, rfl, by omega, by omega⟩
  refine WQ_icmp_eq 40 dX7_faultAhead_31 rfl (fun c15805 => False.elim (by omega)) (fun c15805 => ?_)
  refine WP_iload_n dX7_faultAhead_34 rfl ?_
  refine WQ_bipush (9) (9) dX7_faultAhead_35 rfl rfl (fun v15807 hv15807 => ?_)
  refine WQ_icmp_ne 54 dX7_faultAhead_37 rfl (fun c15807 => ?_) (fun c15807 => False.elim (by omega))
  refine WQ_iconst (0) (0) dX7_faultAhead_54 rfl rfl (fun v15809 hv15809 => ?_)
  exact WP_sub (fc rfl (fc rfl fn)) (jn55_15804 v15809 (by omega) (by omega))
set_option maxHeartbeats 4000000 in
set_option maxRecDepth 100000 in
theorem sx_faultAhead_6_4 {g : GG} {n : Int} {L : Int32} (hy : LyX g)  {I : pI} {J : pJ} {R : pR} (hr : RfX g R) (hI : XI g n L I) (cz : Int32) (cz_lo : 4 ≤ cz.toInt) (cz_hi : cz.toInt ≤ 4) : SP g mX7_faultAhead [.ref (ad g 6), .int cz] I J R (fun r I' J' R' => (I' = I ∧ J' = J ∧ R' = R) ∧ ∃ v : Int32, r = some (.int v) ∧ 0 ≤ v.toInt ∧ v.toInt ≤ 4) := by
  refine SP_of ⟨by decide, rfl⟩ (Nat.le_of_ble_eq_true rfl) ?_
  have e15810 : I (ad g 1) 1 = L := hI.2
  have b15811 := BT_get hI.1 1 1 2 (0) (0) (900) (by decide) 1 (by decide) (by decide)
  rw [e15810] at b15811
  refine WP_iload_n dX7_faultAhead_0 rfl ?_
  refine WQ_iconst (1) (1) dX7_faultAhead_1 rfl rfl (fun v15812 hv15812 => ?_)
  refine WQ_icmp_ne 13 dX7_faultAhead_2 rfl (fun c15812 => ?_) (fun c15812 => False.elim (by omega))
  refine WP_iload_n dX7_faultAhead_13 rfl ?_
  refine WQ_iconst (2) (2) dX7_faultAhead_14 rfl rfl (fun v15814 hv15814 => ?_)
  refine WQ_icmp_ne 28 dX7_faultAhead_15 rfl (fun c15814 => ?_) (fun c15814 => False.elim (by omega))
  refine WP_iload_n dX7_faultAhead_28 rfl ?_
  refine WQ_bipush (8) (8) dX7_faultAhead_29 rfl rfl (fun v15816 hv15816 => ?_)
  have jn55_15820 : ∀ (v15820 : Int32), 0 ≤ v15820.toInt → v15820.toInt ≤ 0 → WP g mX7_faultAhead 55 [(0, .ref (ad g 6)), (1, .int cz)] [.int v15820] I J R (fun r I' J' R' => (I' = I ∧ J' = J ∧ R' = R) ∧ ∃ v : Int32, r = some (.int v) ∧ 0 ≤ v.toInt ∧ v.toInt ≤ 4) := by
    intro v15820 av15820 bv15820
    exact WP_iret dX7_faultAhead_55 rfl ⟨⟨rfl, rfl, rfl⟩, _, rfl, by omega, by omega⟩
  refine WQ_icmp_eq 40 dX7_faultAhead_31 rfl (fun c15821 => False.elim (by omega)) (fun c15821 => ?_)
  refine WP_iload_n dX7_faultAhead_34 rfl ?_
  refine WQ_bipush (9) (9) dX7_faultAhead_35 rfl rfl (fun v15823 hv15823 => ?_)
  refine WQ_icmp_ne 54 dX7_faultAhead_37 rfl (fun c15823 => ?_) (fun c15823 => False.elim (by omega))
  refine WQ_iconst (0) (0) dX7_faultAhead_54 rfl rfl (fun v15825 hv15825 => ?_)
  exact WP_sub (fc rfl (fc rfl fn)) (jn55_15820 v15825 (by omega) (by omega))
set_option maxHeartbeats 4000000 in
set_option maxRecDepth 100000 in
theorem sx_faultAhead_6_5 {g : GG} {n : Int} {L : Int32} (hy : LyX g)  {I : pI} {J : pJ} {R : pR} (hr : RfX g R) (hI : XI g n L I) (cz : Int32) (cz_lo : 5 ≤ cz.toInt) (cz_hi : cz.toInt ≤ 5) : SP g mX7_faultAhead [.ref (ad g 6), .int cz] I J R (fun r I' J' R' => (I' = I ∧ J' = J ∧ R' = R) ∧ ∃ v : Int32, r = some (.int v) ∧ 0 ≤ v.toInt ∧ v.toInt ≤ 4) := by
  refine SP_of ⟨by decide, rfl⟩ (Nat.le_of_ble_eq_true rfl) ?_
  have e15826 : I (ad g 1) 1 = L := hI.2
  have b15827 := BT_get hI.1 1 1 2 (0) (0) (900) (by decide) 1 (by decide) (by decide)
  rw [e15826] at b15827
  refine WP_iload_n dX7_faultAhead_0 rfl ?_
  refine WQ_iconst (1) (1) dX7_faultAhead_1 rfl rfl (fun v15828 hv15828 => ?_)
  refine WQ_icmp_ne 13 dX7_faultAhead_2 rfl (fun c15828 => ?_) (fun c15828 => False.elim (by omega))
  refine WP_iload_n dX7_faultAhead_13 rfl ?_
  refine WQ_iconst (2) (2) dX7_faultAhead_14 rfl rfl (fun v15830 hv15830 => ?_)
  refine WQ_icmp_ne 28 dX7_faultAhead_15 rfl (fun c15830 => ?_) (fun c15830 => False.elim (by omega))
  refine WP_iload_n dX7_faultAhead_28 rfl ?_
  refine WQ_bipush (8) (8) dX7_faultAhead_29 rfl rfl (fun v15832 hv15832 => ?_)
  have jn55_15836 : ∀ (v15836 : Int32), 0 ≤ v15836.toInt → v15836.toInt ≤ 0 → WP g mX7_faultAhead 55 [(0, .ref (ad g 6)), (1, .int cz)] [.int v15836] I J R (fun r I' J' R' => (I' = I ∧ J' = J ∧ R' = R) ∧ ∃ v : Int32, r = some (.int v) ∧ 0 ≤ v.toInt ∧ v.toInt ≤ 4) := by
    intro v15836 av15836 bv15836
    exact WP_iret dX7_faultAhead_55 rfl ⟨⟨rfl, rfl, rfl⟩, _, rfl, by omega, by omega⟩
  refine WQ_icmp_eq 40 dX7_faultAhead_31 rfl (fun c15837 => False.elim (by omega)) (fun c15837 => ?_)
  refine WP_iload_n dX7_faultAhead_34 rfl ?_
  refine WQ_bipush (9) (9) dX7_faultAhead_35 rfl rfl (fun v15839 hv15839 => ?_)
  refine WQ_icmp_ne 54 dX7_faultAhead_37 rfl (fun c15839 => ?_) (fun c15839 => False.elim (by omega))
  refine WQ_iconst (0) (0) dX7_faultAhead_54 rfl rfl (fun v15841 hv15841 => ?_)
  exact WP_sub (fc rfl (fc rfl fn)) (jn55_15836 v15841 (by omega) (by omega))
set_option maxHeartbeats 4000000 in
set_option maxRecDepth 100000 in
theorem sx_faultAhead_6_6 {g : GG} {n : Int} {L : Int32} (hy : LyX g)  {I : pI} {J : pJ} {R : pR} (hr : RfX g R) (hI : XI g n L I) (cz : Int32) (cz_lo : 6 ≤ cz.toInt) (cz_hi : cz.toInt ≤ 6) : SP g mX7_faultAhead [.ref (ad g 6), .int cz] I J R (fun r I' J' R' => (I' = I ∧ J' = J ∧ R' = R) ∧ ∃ v : Int32, r = some (.int v) ∧ 0 ≤ v.toInt ∧ v.toInt ≤ 4) := by
  refine SP_of ⟨by decide, rfl⟩ (Nat.le_of_ble_eq_true rfl) ?_
  have e15842 : I (ad g 1) 1 = L := hI.2
  have b15843 := BT_get hI.1 1 1 2 (0) (0) (900) (by decide) 1 (by decide) (by decide)
  rw [e15842] at b15843
  refine WP_iload_n dX7_faultAhead_0 rfl ?_
  refine WQ_iconst (1) (1) dX7_faultAhead_1 rfl rfl (fun v15844 hv15844 => ?_)
  refine WQ_icmp_ne 13 dX7_faultAhead_2 rfl (fun c15844 => ?_) (fun c15844 => False.elim (by omega))
  refine WP_iload_n dX7_faultAhead_13 rfl ?_
  refine WQ_iconst (2) (2) dX7_faultAhead_14 rfl rfl (fun v15846 hv15846 => ?_)
  refine WQ_icmp_ne 28 dX7_faultAhead_15 rfl (fun c15846 => ?_) (fun c15846 => False.elim (by omega))
  refine WP_iload_n dX7_faultAhead_28 rfl ?_
  refine WQ_bipush (8) (8) dX7_faultAhead_29 rfl rfl (fun v15848 hv15848 => ?_)
  have jn55_15852 : ∀ (v15852 : Int32), 0 ≤ v15852.toInt → v15852.toInt ≤ 0 → WP g mX7_faultAhead 55 [(0, .ref (ad g 6)), (1, .int cz)] [.int v15852] I J R (fun r I' J' R' => (I' = I ∧ J' = J ∧ R' = R) ∧ ∃ v : Int32, r = some (.int v) ∧ 0 ≤ v.toInt ∧ v.toInt ≤ 4) := by
    intro v15852 av15852 bv15852
    exact WP_iret dX7_faultAhead_55 rfl ⟨⟨rfl, rfl, rfl⟩, _, rfl, by omega, by omega⟩
  refine WQ_icmp_eq 40 dX7_faultAhead_31 rfl (fun c15853 => False.elim (by omega)) (fun c15853 => ?_)
  refine WP_iload_n dX7_faultAhead_34 rfl ?_
  refine WQ_bipush (9) (9) dX7_faultAhead_35 rfl rfl (fun v15855 hv15855 => ?_)
  refine WQ_icmp_ne 54 dX7_faultAhead_37 rfl (fun c15855 => ?_) (fun c15855 => False.elim (by omega))
  refine WQ_iconst (0) (0) dX7_faultAhead_54 rfl rfl (fun v15857 hv15857 => ?_)
  exact WP_sub (fc rfl (fc rfl fn)) (jn55_15852 v15857 (by omega) (by omega))
set_option maxHeartbeats 4000000 in
set_option maxRecDepth 100000 in
theorem sx_faultAhead_6_7 {g : GG} {n : Int} {L : Int32} (hy : LyX g)  {I : pI} {J : pJ} {R : pR} (hr : RfX g R) (hI : XI g n L I) (cz : Int32) (cz_lo : 7 ≤ cz.toInt) (cz_hi : cz.toInt ≤ 7) : SP g mX7_faultAhead [.ref (ad g 6), .int cz] I J R (fun r I' J' R' => (I' = I ∧ J' = J ∧ R' = R) ∧ ∃ v : Int32, r = some (.int v) ∧ 0 ≤ v.toInt ∧ v.toInt ≤ 4) := by
  refine SP_of ⟨by decide, rfl⟩ (Nat.le_of_ble_eq_true rfl) ?_
  have e15858 : I (ad g 1) 1 = L := hI.2
  have b15859 := BT_get hI.1 1 1 2 (0) (0) (900) (by decide) 1 (by decide) (by decide)
  rw [e15858] at b15859
  refine WP_iload_n dX7_faultAhead_0 rfl ?_
  refine WQ_iconst (1) (1) dX7_faultAhead_1 rfl rfl (fun v15860 hv15860 => ?_)
  refine WQ_icmp_ne 13 dX7_faultAhead_2 rfl (fun c15860 => ?_) (fun c15860 => False.elim (by omega))
  refine WP_iload_n dX7_faultAhead_13 rfl ?_
  refine WQ_iconst (2) (2) dX7_faultAhead_14 rfl rfl (fun v15862 hv15862 => ?_)
  refine WQ_icmp_ne 28 dX7_faultAhead_15 rfl (fun c15862 => ?_) (fun c15862 => False.elim (by omega))
  refine WP_iload_n dX7_faultAhead_28 rfl ?_
  refine WQ_bipush (8) (8) dX7_faultAhead_29 rfl rfl (fun v15864 hv15864 => ?_)
  have jn55_15868 : ∀ (v15868 : Int32), 0 ≤ v15868.toInt → v15868.toInt ≤ 0 → WP g mX7_faultAhead 55 [(0, .ref (ad g 6)), (1, .int cz)] [.int v15868] I J R (fun r I' J' R' => (I' = I ∧ J' = J ∧ R' = R) ∧ ∃ v : Int32, r = some (.int v) ∧ 0 ≤ v.toInt ∧ v.toInt ≤ 4) := by
    intro v15868 av15868 bv15868
    exact WP_iret dX7_faultAhead_55 rfl ⟨⟨rfl, rfl, rfl⟩, _, rfl, by omega, by omega⟩
  refine WQ_icmp_eq 40 dX7_faultAhead_31 rfl (fun c15869 => False.elim (by omega)) (fun c15869 => ?_)
  refine WP_iload_n dX7_faultAhead_34 rfl ?_
  refine WQ_bipush (9) (9) dX7_faultAhead_35 rfl rfl (fun v15871 hv15871 => ?_)
  refine WQ_icmp_ne 54 dX7_faultAhead_37 rfl (fun c15871 => ?_) (fun c15871 => False.elim (by omega))
  refine WQ_iconst (0) (0) dX7_faultAhead_54 rfl rfl (fun v15873 hv15873 => ?_)
  exact WP_sub (fc rfl (fc rfl fn)) (jn55_15868 v15873 (by omega) (by omega))
set_option maxHeartbeats 4000000 in
set_option maxRecDepth 100000 in
theorem sx_faultAhead_6_8 {g : GG} {n : Int} {L : Int32} (hy : LyX g)  {I : pI} {J : pJ} {R : pR} (hr : RfX g R) (hI : XI g n L I) (cz : Int32) (cz_lo : 8 ≤ cz.toInt) (cz_hi : cz.toInt ≤ 8) : SP g mX7_faultAhead [.ref (ad g 6), .int cz] I J R (fun r I' J' R' => (I' = I ∧ J' = J ∧ R' = R) ∧ ∃ v : Int32, r = some (.int v) ∧ 0 ≤ v.toInt ∧ v.toInt ≤ 4) := by
  refine SP_of ⟨by decide, rfl⟩ (Nat.le_of_ble_eq_true rfl) ?_
  have e15874 : I (ad g 1) 1 = L := hI.2
  have b15875 := BT_get hI.1 1 1 2 (0) (0) (900) (by decide) 1 (by decide) (by decide)
  rw [e15874] at b15875
  refine WP_iload_n dX7_faultAhead_0 rfl ?_
  refine WQ_iconst (1) (1) dX7_faultAhead_1 rfl rfl (fun v15876 hv15876 => ?_)
  refine WQ_icmp_ne 13 dX7_faultAhead_2 rfl (fun c15876 => ?_) (fun c15876 => False.elim (by omega))
  refine WP_iload_n dX7_faultAhead_13 rfl ?_
  refine WQ_iconst (2) (2) dX7_faultAhead_14 rfl rfl (fun v15878 hv15878 => ?_)
  refine WQ_icmp_ne 28 dX7_faultAhead_15 rfl (fun c15878 => ?_) (fun c15878 => False.elim (by omega))
  refine WP_iload_n dX7_faultAhead_28 rfl ?_
  refine WQ_bipush (8) (8) dX7_faultAhead_29 rfl rfl (fun v15880 hv15880 => ?_)
  have jn55_15887 : ∀ (v15887 : Int32), 0 ≤ v15887.toInt → v15887.toInt ≤ 3 → WP g mX7_faultAhead 55 [(0, .ref (ad g 6)), (1, .int cz)] [.int v15887] I J R (fun r I' J' R' => (I' = I ∧ J' = J ∧ R' = R) ∧ ∃ v : Int32, r = some (.int v) ∧ 0 ≤ v.toInt ∧ v.toInt ≤ 4) := by
    intro v15887 av15887 bv15887
    exact WP_iret dX7_faultAhead_55 rfl ⟨⟨rfl, rfl, rfl⟩, _, rfl, by omega, by omega⟩
  refine WQ_icmp_eq 40 dX7_faultAhead_31 rfl (fun c15888 => ?_) (fun c15888 => False.elim (by omega))
  refine WP_aload_n dX7_faultAhead_40 rfl ?_
  refine WP_iload_n dX7_faultAhead_41 rfl ?_
  refine WQ_iconst (0) (0) dX7_faultAhead_42 rfl rfl (fun v15890 hv15890 => ?_)
  refine WQ_iconst (0) (0) dX7_faultAhead_43 rfl rfl (fun v15891 hv15891 => ?_)
  refine WP_callV3 (k := 7) dX7_faultAhead_44 ⟨⟨⟨by decide, by decide⟩, zX7_isTold⟩, lX7_87, by decide, rfl, vX7_isTold.1, vX7_isTold.2⟩ (lyx_is hy 6 7 rfl) (sx_isTold_6 hy hr hI cz v15890 v15891 (by omega) (by omega) (by omega) (by omega) ) (Nat.le_of_ble_eq_true rfl) ?_
  intro r Ia Ja Ra hq
  obtain ⟨⟨ea, eb, ec⟩, v15892, rfl, av15892, bv15892⟩ := hq
  show WP _ _ _ _ (.int _ :: _) _ _ _ _
  rw [ea, eb, ec]
  clear ea eb ec Ia Ja Ra
  refine WQ_if_eq 54 dX7_faultAhead_47 rfl (fun c15892 => ?_) (fun c15892 => ?_)
  · refine WQ_iconst (0) (0) dX7_faultAhead_54 rfl rfl (fun v15894 hv15894 => ?_)
    exact WP_sub (fc rfl (fc rfl fn)) (jn55_15887 v15894 (by omega) (by omega))
  · refine WQ_iconst (3) (3) dX7_faultAhead_50 rfl rfl (fun v15895 hv15895 => ?_)
    refine WP_goto 55 dX7_faultAhead_51 rfl ?_
    exact WP_sub (fc rfl (fc rfl fn)) (jn55_15887 v15895 (by omega) (by omega))
set_option maxHeartbeats 4000000 in
set_option maxRecDepth 100000 in
theorem sx_faultAhead_6_9 {g : GG} {n : Int} {L : Int32} (hy : LyX g)  {I : pI} {J : pJ} {R : pR} (hr : RfX g R) (hI : XI g n L I) (cz : Int32) (cz_lo : 9 ≤ cz.toInt) (cz_hi : cz.toInt ≤ 9) : SP g mX7_faultAhead [.ref (ad g 6), .int cz] I J R (fun r I' J' R' => (I' = I ∧ J' = J ∧ R' = R) ∧ ∃ v : Int32, r = some (.int v) ∧ 0 ≤ v.toInt ∧ v.toInt ≤ 4) := by
  refine SP_of ⟨by decide, rfl⟩ (Nat.le_of_ble_eq_true rfl) ?_
  have e15896 : I (ad g 1) 1 = L := hI.2
  have b15897 := BT_get hI.1 1 1 2 (0) (0) (900) (by decide) 1 (by decide) (by decide)
  rw [e15896] at b15897
  refine WP_iload_n dX7_faultAhead_0 rfl ?_
  refine WQ_iconst (1) (1) dX7_faultAhead_1 rfl rfl (fun v15898 hv15898 => ?_)
  refine WQ_icmp_ne 13 dX7_faultAhead_2 rfl (fun c15898 => ?_) (fun c15898 => False.elim (by omega))
  refine WP_iload_n dX7_faultAhead_13 rfl ?_
  refine WQ_iconst (2) (2) dX7_faultAhead_14 rfl rfl (fun v15900 hv15900 => ?_)
  refine WQ_icmp_ne 28 dX7_faultAhead_15 rfl (fun c15900 => ?_) (fun c15900 => False.elim (by omega))
  refine WP_iload_n dX7_faultAhead_28 rfl ?_
  refine WQ_bipush (8) (8) dX7_faultAhead_29 rfl rfl (fun v15902 hv15902 => ?_)
  have jn55_15911 : ∀ (v15911 : Int32), 0 ≤ v15911.toInt → v15911.toInt ≤ 3 → WP g mX7_faultAhead 55 [(0, .ref (ad g 6)), (1, .int cz)] [.int v15911] I J R (fun r I' J' R' => (I' = I ∧ J' = J ∧ R' = R) ∧ ∃ v : Int32, r = some (.int v) ∧ 0 ≤ v.toInt ∧ v.toInt ≤ 4) := by
    intro v15911 av15911 bv15911
    exact WP_iret dX7_faultAhead_55 rfl ⟨⟨rfl, rfl, rfl⟩, _, rfl, by omega, by omega⟩
  refine WQ_icmp_eq 40 dX7_faultAhead_31 rfl (fun c15912 => False.elim (by omega)) (fun c15912 => ?_)
  refine WP_iload_n dX7_faultAhead_34 rfl ?_
  refine WQ_bipush (9) (9) dX7_faultAhead_35 rfl rfl (fun v15914 hv15914 => ?_)
  refine WQ_icmp_ne 54 dX7_faultAhead_37 rfl (fun c15914 => False.elim (by omega)) (fun c15914 => ?_)
  refine WP_aload_n dX7_faultAhead_40 rfl ?_
  refine WP_iload_n dX7_faultAhead_41 rfl ?_
  refine WQ_iconst (0) (0) dX7_faultAhead_42 rfl rfl (fun v15916 hv15916 => ?_)
  refine WQ_iconst (0) (0) dX7_faultAhead_43 rfl rfl (fun v15917 hv15917 => ?_)
  refine WP_callV3 (k := 7) dX7_faultAhead_44 ⟨⟨⟨by decide, by decide⟩, zX7_isTold⟩, lX7_87, by decide, rfl, vX7_isTold.1, vX7_isTold.2⟩ (lyx_is hy 6 7 rfl) (sx_isTold_6 hy hr hI cz v15916 v15917 (by omega) (by omega) (by omega) (by omega) ) (Nat.le_of_ble_eq_true rfl) ?_
  intro r Ia Ja Ra hq
  obtain ⟨⟨ea, eb, ec⟩, v15918, rfl, av15918, bv15918⟩ := hq
  show WP _ _ _ _ (.int _ :: _) _ _ _ _
  rw [ea, eb, ec]
  clear ea eb ec Ia Ja Ra
  refine WQ_if_eq 54 dX7_faultAhead_47 rfl (fun c15918 => ?_) (fun c15918 => ?_)
  · refine WQ_iconst (0) (0) dX7_faultAhead_54 rfl rfl (fun v15920 hv15920 => ?_)
    exact WP_sub (fc rfl (fc rfl fn)) (jn55_15911 v15920 (by omega) (by omega))
  · refine WQ_iconst (3) (3) dX7_faultAhead_50 rfl rfl (fun v15921 hv15921 => ?_)
    refine WP_goto 55 dX7_faultAhead_51 rfl ?_
    exact WP_sub (fc rfl (fc rfl fn)) (jn55_15911 v15921 (by omega) (by omega))
set_option maxHeartbeats 4000000 in
set_option maxRecDepth 100000 in
theorem sx_parts_6_0 {g : GG} {n : Int} {L : Int32} (hy : LyX g) {aK aV : Nat → Nat} {fo : Option Nat} (hz : HZ g aK aV fo)  {I : pI} {J : pJ} {R : pR} (hr : RfX g R) (hI : XI g n L I) (cz : Int32) (cz_lo : 0 ≤ cz.toInt) (cz_hi : cz.toInt ≤ 0) : SP g mX3_faultInParts [.ref (ad g 3), .int cz, .ref (ad g 6)] I J R (fun r I' J' R' => (XI g n L I' ∧ R' = R ∧ True ∧ I' (ad g 6) 1 = I (ad g 6) 1 ∧ I' (ad g 6) 2 = I (ad g 6) 2) ∧ ∃ v : Int32, r = some (.int v) ∧ 0 ≤ v.toInt ∧ v.toInt ≤ 5 ∧ (v.toInt = 0 → (I' (ad g 4) 0).toInt ≤ 6 ∧ (I' (ad g 4) 1).toInt ≤ 900)) := by
  refine SP_of ⟨by decide, rfl⟩ (Nat.le_of_ble_eq_true rfl) ?_
  have e15922 : I (ad g 1) 1 = L := hI.2
  have b15923 := BT_get hI.1 1 1 2 (0) (0) (900) (by decide) 1 (by decide) (by decide)
  rw [e15922] at b15923
  obtain ⟨w15924, ew15924⟩ : ∃ w : Int32, I (ad g 6) 1 = w := ⟨_, rfl⟩
  have bw15924 := BT_get hI.1 6 1 2 (0) (0) (4) (by decide) 1 (by decide) (by decide)
  rw [ew15924] at bw15924
  obtain ⟨w15925, ew15925⟩ : ∃ w : Int32, I (ad g 6) 2 = w := ⟨_, rfl⟩
  have bw15925 := BT_get hI.1 6 2 3 (0) (0) (3) (by decide) 2 (by decide) (by decide)
  rw [ew15925] at bw15925
  refine WP_iload_n dX3_faultInParts_0 rfl ?_
  refine WP_callS1 dX3_faultInParts_1 ⟨⟨⟨by decide, by decide⟩, zX3_shapeOf⟩, lX3_84, tX3_shapeOf⟩ (sx_shapeOf hy hz hr hI cz (by omega) (by omega)) (Nat.le_of_ble_eq_true rfl) ?_
  intro r Ia Ja Ra hq
  obtain ⟨⟨ea, eb, ec⟩, rfl⟩ := hq
  show WP _ _ _ _ (.ref _ :: _) _ _ _ _
  rw [show 10 + cz.toInt.toNat = 10 by omega]
  rw [ea, eb, ec]
  clear ea eb ec Ia Ja Ra
  refine WP_astore_n (ls' := [(0, _), (1, _), (2, _), (3, _)]) dX3_faultInParts_4 (by decide) rfl ?_
  refine WQ_iconst (0) (0) dX3_faultInParts_5 rfl rfl (fun v15926 hv15926 => ?_)
  refine WP_istore (ls' := [(0, _), (1, _), (2, _), (3, _), (4, _)]) dX3_faultInParts_6 (by decide) rfl ?_
  refine WP_iload dX3_faultInParts_8 rfl ?_
  refine WP_aload_n dX3_faultInParts_10 rfl ?_
  refine WS_call hz (i := 10) (by omega) dX3_faultInParts_11 ⟨⟨by decide, by decide⟩, zJ0_length_8abf5⟩ lX3_87 vJ0_length_8abf5 (As := []) (rest := [.int v15926]) (j_length hz (i := 10) (by omega)) rfl rfl (Nat.le_of_ble_eq_true rfl) ?_
  intro r Ia Ja Ra hq
  obtain ⟨⟨ea, eb, ec⟩, v15927, rfl, cv15927⟩ := hq
  show WP _ _ _ _ (.int _ :: _) _ _ _ _
  rw [ea, eb, ec]
  clear ea eb ec Ia Ja Ra
  have hv15927 : v15927.toInt = 2 := cv15927.trans rfl
  refine WQ_icmp_ge 125 dX3_faultInParts_14 rfl (fun c15927 => False.elim (by omega)) (fun c15927 => ?_)
  refine WP_iload dX3_faultInParts_17 rfl ?_
  refine WQ_iconst (5) (5) dX3_faultInParts_19 rfl rfl (fun v15929 hv15929 => ?_)
  refine WQ_icmp_ge 125 dX3_faultInParts_20 rfl (fun c15929 => False.elim (by omega)) (fun c15929 => ?_)
  refine WP_aload_n dX3_faultInParts_23 rfl ?_
  refine WP_iload dX3_faultInParts_24 rfl ?_
  refine WS_call hz (i := 10) (by omega) dX3_faultInParts_26 ⟨⟨by decide, by decide⟩, zJ0_charAt_5068e⟩ lX3_92 vJ0_charAt_5068e (As := [.int v15926]) (rest := []) (j_charAt hz (i := 10) (k := v15926) (by omega) (by omega) (by have z9 : ((liN.getD 10 0 : Nat) : Int) = 2 := rfl; omega)) rfl rfl (Nat.le_of_ble_eq_true rfl) ?_
  intro r Ia Ja Ra hq
  obtain ⟨⟨ea, eb, ec⟩, v15931, rfl, cv15931⟩ := hq
  show WP _ _ _ _ (.int _ :: _) _ _ _ _
  rw [ea, eb, ec]
  clear ea eb ec Ia Ja Ra
  have hv15931 : v15931.toInt = 68 := cv15931.trans (by rw [show v15926.toInt.toNat = 0 by omega]; rfl)
  refine WP_istore (ls' := [(0, _), (1, _), (2, _), (3, _), (4, _), (5, _)]) dX3_faultInParts_29 (by decide) rfl ?_
  refine WP_iload dX3_faultInParts_31 rfl ?_
  refine WQ_bipush (97) (97) dX3_faultInParts_33 rfl rfl (fun v15932 hv15932 => ?_)
  refine WQ_icmp_lt 49 dX3_faultInParts_35 rfl (fun c15932 => ?_) (fun c15932 => False.elim (by omega))
  refine WQ_iconst (0) (0) dX3_faultInParts_49 rfl rfl (fun v15934 hv15934 => ?_)
  refine WP_istore (ls' := [(0, _), (1, _), (2, _), (3, _), (4, _), (5, _), (6, _)]) dX3_faultInParts_50 (by decide) rfl ?_
  refine WP_aload_n dX3_faultInParts_52 rfl ?_
  refine WP_getr dX3_faultInParts_53 fX3_15 rfl (lyx_is hy 3 3 rfl) (rfx hr 3 2 1 (by decide)) ?_
  refine WQ_geti dX3_faultInParts_56 fX3_43 rfl (lyx_is hy 1 5 rfl) (BT_get hI.1 1 2 3 (0) (0) (4) (by decide) 2 (by decide) (by decide)) (fun v15935 ev15935 av15935 bv15935 => ?_)
  refine WP_iload dX3_faultInParts_59 rfl ?_
  refine WQ_if_eq 68 dX3_faultInParts_61 rfl (fun c15935 => ?_) (fun c15935 => False.elim (by omega))
  refine WQ_iconst (2) (2) dX3_faultInParts_68 rfl rfl (fun v15937 hv15937 => ?_)
  refine WQ_icmp_eq 74 dX3_faultInParts_69 rfl (fun c15937 => ?_) (fun c15937 => ?_)
  · refine WP_iload dX3_faultInParts_74 rfl ?_
    refine WQ_if_eq 92 dX3_faultInParts_76 rfl (fun c15938 => ?_) (fun c15938 => False.elim (by omega))
    refine WP_aload_n dX3_faultInParts_92 rfl ?_
    refine WP_iload dX3_faultInParts_93 rfl ?_
    refine WP_iload_n dX3_faultInParts_95 rfl ?_
    refine WP_iload dX3_faultInParts_96 rfl ?_
    refine WP_aload_n dX3_faultInParts_98 rfl ?_
    refine WP_callV4 (k := 3) dX3_faultInParts_99 ⟨⟨⟨by decide, by decide⟩, zX3_faultOfNumber⟩, lX3_100, by decide, rfl, vX3_faultOfNumber.1, vX3_faultOfNumber.2⟩ (lyx_is hy 3 3 rfl) (sx_part_6_0_0 hy hr hI v15931 cz v15926 (by omega) (by omega) (by omega) (by omega) (by omega) (by omega)) (Nat.le_of_ble_eq_true rfl) ?_
    intro r I15940 J15941 Ra hq
    obtain ⟨⟨hI15940, ec, ⟨pI15940, sI15940_6_1, sI15940_6_2⟩⟩, v15942, rfl, av15942, bv15942, cv15942⟩ := hq
    show WP _ _ _ _ (.int _ :: _) _ _ _ _
    rw [ec]
    clear ec Ra
    have e15943 : I15940 (ad g 6) 1 = w15924 := by rw [sI15940_6_1]; exact ew15924
    have e15944 : I15940 (ad g 6) 2 = w15925 := by rw [sI15940_6_2]; exact ew15925
    have e15945 : I15940 (ad g 1) 1 = L := hI15940.2
    have b15946 := BT_get hI15940.1 1 1 2 (0) (0) (900) (by decide) 1 (by decide) (by decide)
    rw [e15945] at b15946
    obtain ⟨w15947, ew15947⟩ : ∃ w : Int32, I15940 (ad g 4) 0 = w := ⟨_, rfl⟩
    have bw15947 := BT_get hI15940.1 4 0 5 (0) (0) (1000) (by decide) 0 (by decide) (by decide)
    rw [ew15947] at bw15947
    rw [ew15947] at cv15942
    refine WP_istore (ls' := [(0, _), (1, _), (2, _), (3, _), (4, _), (5, _), (6, _), (7, _)]) dX3_faultInParts_102 (by decide) rfl ?_
    refine WP_iload dX3_faultInParts_104 rfl ?_
    refine WQ_if_eq 112 dX3_faultInParts_106 rfl (fun c15947 => ?_) (fun c15947 => ?_)
    · refine WP_aload_n dX3_faultInParts_112 rfl ?_
      refine WP_getr dX3_faultInParts_113 fX3_15 rfl (lyx_is hy 3 3 rfl) (rfx hr 3 2 1 (by decide)) ?_
      refine WP_callV0 (k := 5) dX3_faultInParts_116 ⟨⟨⟨by decide, by decide⟩, zX5_next⟩, lX3_40, by decide, rfl, vX5_next.1, vX5_next.2⟩ (lyx_is hy 1 5 rfl) (sx_nextf hy hr hI15940  ) (Nat.le_of_ble_eq_true rfl) ?_
      intro r I15949 J15950 Ra hq
      obtain ⟨⟨hI15949, ec, fiI15949⟩, rfl⟩ := hq
      rw [ec]
      clear ec Ra
      have e15951 : I15949 (ad g 6) 1 = w15924 := by rw [fz_at fiI15949 6 (by decide) (by decide)]; exact e15943
      have e15952 : I15949 (ad g 6) 2 = w15925 := by rw [fz_at fiI15949 6 (by decide) (by decide)]; exact e15944
      have e15953 : I15949 (ad g 4) 0 = w15947 := by rw [fz_at fiI15949 4 (by decide) (by decide)]; exact ew15947
      have e15954 : I15949 (ad g 1) 1 = L := hI15949.2
      have b15955 := BT_get hI15949.1 1 1 2 (0) (0) (900) (by decide) 1 (by decide) (by decide)
      rw [e15954] at b15955
      refine WP_iinc (ls' := [(0, _), (1, _), (2, _), (3, _), (4, _), (5, _), (6, _), (7, _)]) dX3_faultInParts_119 rfl (by decide) rfl ?_
      have hv15956 : (v15926 + Int32.ofInt (1)).toInt = v15926.toInt + (1) := ia_n rfl (by omega) (by omega)
      generalize v15926 + Int32.ofInt (1) = v15956 at hv15956 ⊢
      refine WP_goto 8 dX3_faultInParts_122 rfl ?_
      refine WP_iload dX3_faultInParts_8 rfl ?_
      refine WP_aload_n dX3_faultInParts_10 rfl ?_
      refine WS_call hz (i := 10) (by omega) dX3_faultInParts_11 ⟨⟨by decide, by decide⟩, zJ0_length_8abf5⟩ lX3_87 vJ0_length_8abf5 (As := []) (rest := [.int v15956]) (j_length hz (i := 10) (by omega)) rfl rfl (Nat.le_of_ble_eq_true rfl) ?_
      intro r Ia Ja Ra hq
      obtain ⟨⟨ea, eb, ec⟩, v15957, rfl, cv15957⟩ := hq
      show WP _ _ _ _ (.int _ :: _) _ _ _ _
      rw [ea, eb, ec]
      clear ea eb ec Ia Ja Ra
      have hv15957 : v15957.toInt = 2 := cv15957.trans rfl
      refine WQ_icmp_ge 125 dX3_faultInParts_14 rfl (fun c15957 => False.elim (by omega)) (fun c15957 => ?_)
      refine WP_iload dX3_faultInParts_17 rfl ?_
      refine WQ_iconst (5) (5) dX3_faultInParts_19 rfl rfl (fun v15959 hv15959 => ?_)
      refine WQ_icmp_ge 125 dX3_faultInParts_20 rfl (fun c15959 => False.elim (by omega)) (fun c15959 => ?_)
      refine WP_aload_n dX3_faultInParts_23 rfl ?_
      refine WP_iload dX3_faultInParts_24 rfl ?_
      refine WS_call hz (i := 10) (by omega) dX3_faultInParts_26 ⟨⟨by decide, by decide⟩, zJ0_charAt_5068e⟩ lX3_92 vJ0_charAt_5068e (As := [.int v15956]) (rest := []) (j_charAt hz (i := 10) (k := v15956) (by omega) (by omega) (by have z9 : ((liN.getD 10 0 : Nat) : Int) = 2 := rfl; omega)) rfl rfl (Nat.le_of_ble_eq_true rfl) ?_
      intro r Ia Ja Ra hq
      obtain ⟨⟨ea, eb, ec⟩, v15961, rfl, cv15961⟩ := hq
      show WP _ _ _ _ (.int _ :: _) _ _ _ _
      rw [ea, eb, ec]
      clear ea eb ec Ia Ja Ra
      have hv15961 : v15961.toInt = 76 := cv15961.trans (by rw [show v15956.toInt.toNat = 1 by omega]; rfl)
      refine WP_istore (ls' := [(0, _), (1, _), (2, _), (3, _), (4, _), (5, _), (6, _), (7, _)]) dX3_faultInParts_29 (by decide) rfl ?_
      refine WP_iload dX3_faultInParts_31 rfl ?_
      refine WQ_bipush (97) (97) dX3_faultInParts_33 rfl rfl (fun v15962 hv15962 => ?_)
      refine WQ_icmp_lt 49 dX3_faultInParts_35 rfl (fun c15962 => ?_) (fun c15962 => False.elim (by omega))
      refine WQ_iconst (0) (0) dX3_faultInParts_49 rfl rfl (fun v15964 hv15964 => ?_)
      refine WP_istore (ls' := [(0, _), (1, _), (2, _), (3, _), (4, _), (5, _), (6, _), (7, _)]) dX3_faultInParts_50 (by decide) rfl ?_
      refine WP_aload_n dX3_faultInParts_52 rfl ?_
      refine WP_getr dX3_faultInParts_53 fX3_15 rfl (lyx_is hy 3 3 rfl) (rfx hr 3 2 1 (by decide)) ?_
      refine WQ_geti dX3_faultInParts_56 fX3_43 rfl (lyx_is hy 1 5 rfl) (BT_get hI15949.1 1 2 3 (0) (0) (4) (by decide) 2 (by decide) (by decide)) (fun v15965 ev15965 av15965 bv15965 => ?_)
      refine WP_iload dX3_faultInParts_59 rfl ?_
      refine WQ_if_eq 68 dX3_faultInParts_61 rfl (fun c15965 => ?_) (fun c15965 => False.elim (by omega))
      refine WQ_iconst (2) (2) dX3_faultInParts_68 rfl rfl (fun v15967 hv15967 => ?_)
      refine WQ_icmp_eq 74 dX3_faultInParts_69 rfl (fun c15967 => ?_) (fun c15967 => ?_)
      · refine WP_iload dX3_faultInParts_74 rfl ?_
        refine WQ_if_eq 92 dX3_faultInParts_76 rfl (fun c15968 => ?_) (fun c15968 => False.elim (by omega))
        refine WP_aload_n dX3_faultInParts_92 rfl ?_
        refine WP_iload dX3_faultInParts_93 rfl ?_
        refine WP_iload_n dX3_faultInParts_95 rfl ?_
        refine WP_iload dX3_faultInParts_96 rfl ?_
        refine WP_aload_n dX3_faultInParts_98 rfl ?_
        refine WP_callV4 (k := 3) dX3_faultInParts_99 ⟨⟨⟨by decide, by decide⟩, zX3_faultOfNumber⟩, lX3_100, by decide, rfl, vX3_faultOfNumber.1, vX3_faultOfNumber.2⟩ (lyx_is hy 3 3 rfl) (sx_part_6_0_1 hy hr hI15949 v15961 cz v15956 (by omega) (by omega) (by omega) (by omega) (by omega) (by omega)) (Nat.le_of_ble_eq_true rfl) ?_
        intro r I15970 J15971 Ra hq
        obtain ⟨⟨hI15970, ec, ⟨pI15970, sI15970_4_0, sI15970_6_1, sI15970_6_2⟩⟩, v15972, rfl, av15972, bv15972, cv15972⟩ := hq
        show WP _ _ _ _ (.int _ :: _) _ _ _ _
        rw [ec]
        clear ec Ra
        have e15973 : I15970 (ad g 4) 0 = w15947 := by rw [sI15970_4_0]; exact e15953
        have e15974 : I15970 (ad g 6) 1 = w15924 := by rw [sI15970_6_1]; exact e15951
        have e15975 : I15970 (ad g 6) 2 = w15925 := by rw [sI15970_6_2]; exact e15952
        have e15976 : I15970 (ad g 1) 1 = L := hI15970.2
        have b15977 := BT_get hI15970.1 1 1 2 (0) (0) (900) (by decide) 1 (by decide) (by decide)
        rw [e15976] at b15977
        obtain ⟨w15978, ew15978⟩ : ∃ w : Int32, I15970 (ad g 4) 1 = w := ⟨_, rfl⟩
        have bw15978 := BT_get hI15970.1 4 0 5 (0) (0) (1000) (by decide) 1 (by decide) (by decide)
        rw [ew15978] at bw15978
        rw [ew15978] at cv15972
        refine WP_istore (ls' := [(0, _), (1, _), (2, _), (3, _), (4, _), (5, _), (6, _), (7, _)]) dX3_faultInParts_102 (by decide) rfl ?_
        refine WP_iload dX3_faultInParts_104 rfl ?_
        refine WQ_if_eq 112 dX3_faultInParts_106 rfl (fun c15978 => ?_) (fun c15978 => ?_)
        · refine WP_aload_n dX3_faultInParts_112 rfl ?_
          refine WP_getr dX3_faultInParts_113 fX3_15 rfl (lyx_is hy 3 3 rfl) (rfx hr 3 2 1 (by decide)) ?_
          refine WP_callV0 (k := 5) dX3_faultInParts_116 ⟨⟨⟨by decide, by decide⟩, zX5_next⟩, lX3_40, by decide, rfl, vX5_next.1, vX5_next.2⟩ (lyx_is hy 1 5 rfl) (sx_nextf hy hr hI15970  ) (Nat.le_of_ble_eq_true rfl) ?_
          intro r I15980 J15981 Ra hq
          obtain ⟨⟨hI15980, ec, fiI15980⟩, rfl⟩ := hq
          rw [ec]
          clear ec Ra
          have e15982 : I15980 (ad g 4) 0 = w15947 := by rw [fz_at fiI15980 4 (by decide) (by decide)]; exact e15973
          have e15983 : I15980 (ad g 6) 1 = w15924 := by rw [fz_at fiI15980 6 (by decide) (by decide)]; exact e15974
          have e15984 : I15980 (ad g 6) 2 = w15925 := by rw [fz_at fiI15980 6 (by decide) (by decide)]; exact e15975
          have e15985 : I15980 (ad g 4) 1 = w15978 := by rw [fz_at fiI15980 4 (by decide) (by decide)]; exact ew15978
          have e15986 : I15980 (ad g 1) 1 = L := hI15980.2
          have b15987 := BT_get hI15980.1 1 1 2 (0) (0) (900) (by decide) 1 (by decide) (by decide)
          rw [e15986] at b15987
          refine WP_iinc (ls' := [(0, _), (1, _), (2, _), (3, _), (4, _), (5, _), (6, _), (7, _)]) dX3_faultInParts_119 rfl (by decide) rfl ?_
          have hv15988 : (v15956 + Int32.ofInt (1)).toInt = v15956.toInt + (1) := ia_n rfl (by omega) (by omega)
          generalize v15956 + Int32.ofInt (1) = v15988 at hv15988 ⊢
          refine WP_goto 8 dX3_faultInParts_122 rfl ?_
          refine WP_iload dX3_faultInParts_8 rfl ?_
          refine WP_aload_n dX3_faultInParts_10 rfl ?_
          refine WS_call hz (i := 10) (by omega) dX3_faultInParts_11 ⟨⟨by decide, by decide⟩, zJ0_length_8abf5⟩ lX3_87 vJ0_length_8abf5 (As := []) (rest := [.int v15988]) (j_length hz (i := 10) (by omega)) rfl rfl (Nat.le_of_ble_eq_true rfl) ?_
          intro r Ia Ja Ra hq
          obtain ⟨⟨ea, eb, ec⟩, v15989, rfl, cv15989⟩ := hq
          show WP _ _ _ _ (.int _ :: _) _ _ _ _
          rw [ea, eb, ec]
          clear ea eb ec Ia Ja Ra
          have hv15989 : v15989.toInt = 2 := cv15989.trans rfl
          refine WQ_icmp_ge 125 dX3_faultInParts_14 rfl (fun c15989 => ?_) (fun c15989 => False.elim (by omega))
          refine WP_aload_n dX3_faultInParts_125 rfl ?_
          refine WP_getr dX3_faultInParts_126 fX3_15 rfl (lyx_is hy 3 3 rfl) (rfx hr 3 2 1 (by decide)) ?_
          refine WQ_geti dX3_faultInParts_129 fX3_43 rfl (lyx_is hy 1 5 rfl) (BT_get hI15980.1 1 2 3 (0) (0) (4) (by decide) 2 (by decide) (by decide)) (fun v15991 ev15991 av15991 bv15991 => ?_)
          refine WQ_iconst (3) (3) dX3_faultInParts_132 rfl rfl (fun v15992 hv15992 => ?_)
          refine WQ_icmp_ne 140 dX3_faultInParts_133 rfl (fun c15992 => ?_) (fun c15992 => ?_)
          · refine WQ_iconst (1) (1) dX3_faultInParts_140 rfl rfl (fun v15994 hv15994 => ?_)
            exact WP_iret dX3_faultInParts_141 rfl ⟨⟨hI15980, rfl, ⟨trivial, (by rw [e15983, ew15924] <;> exact (eq32 _ _).mpr (by omega)), (by rw [e15984, ew15925] <;> exact (eq32 _ _).mpr (by omega))⟩⟩, _, rfl, by omega, by omega, by (try rw [e15982]; try rw [e15985]); omega⟩
          · refine WQ_iconst (0) (0) dX3_faultInParts_136 rfl rfl (fun v15995 hv15995 => ?_)
            refine WP_goto 141 dX3_faultInParts_137 rfl ?_
            exact WP_iret dX3_faultInParts_141 rfl ⟨⟨hI15980, rfl, ⟨trivial, (by rw [e15983, ew15924] <;> exact (eq32 _ _).mpr (by omega)), (by rw [e15984, ew15925] <;> exact (eq32 _ _).mpr (by omega))⟩⟩, _, rfl, by omega, by omega, by (try rw [e15982]; try rw [e15985]); omega⟩
        · refine WP_iload dX3_faultInParts_109 rfl ?_
          exact WP_iret dX3_faultInParts_111 rfl ⟨⟨hI15970, rfl, ⟨trivial, (by rw [e15974, ew15924] <;> exact (eq32 _ _).mpr (by omega)), (by rw [e15975, ew15925] <;> exact (eq32 _ _).mpr (by omega))⟩⟩, _, rfl, by omega, by omega, by (try rw [e15973]; try rw [ew15978]); omega⟩
      · refine WQ_iconst (1) (1) dX3_faultInParts_72 rfl rfl (fun v15996 hv15996 => ?_)
        obtain ⟨w15997, ew15997⟩ : ∃ w : Int32, I15949 (ad g 4) 1 = w := ⟨_, rfl⟩
        have bw15997 := BT_get hI15949.1 4 0 5 (0) (0) (1000) (by decide) 1 (by decide) (by decide)
        rw [ew15997] at bw15997
        exact WP_iret dX3_faultInParts_73 rfl ⟨⟨hI15949, rfl, ⟨trivial, (by rw [e15951, ew15924] <;> exact (eq32 _ _).mpr (by omega)), (by rw [e15952, ew15925] <;> exact (eq32 _ _).mpr (by omega))⟩⟩, _, rfl, by omega, by omega, by (try rw [e15953]; try rw [ew15997]); omega⟩
    · refine WP_iload dX3_faultInParts_109 rfl ?_
      obtain ⟨w15998, ew15998⟩ : ∃ w : Int32, I15940 (ad g 4) 1 = w := ⟨_, rfl⟩
      have bw15998 := BT_get hI15940.1 4 0 5 (0) (0) (1000) (by decide) 1 (by decide) (by decide)
      rw [ew15998] at bw15998
      exact WP_iret dX3_faultInParts_111 rfl ⟨⟨hI15940, rfl, ⟨trivial, (by rw [e15943, ew15924] <;> exact (eq32 _ _).mpr (by omega)), (by rw [e15944, ew15925] <;> exact (eq32 _ _).mpr (by omega))⟩⟩, _, rfl, by omega, by omega, by (try rw [ew15947]; try rw [ew15998]); omega⟩
  · refine WQ_iconst (1) (1) dX3_faultInParts_72 rfl rfl (fun v15999 hv15999 => ?_)
    obtain ⟨w16000, ew16000⟩ : ∃ w : Int32, I (ad g 4) 0 = w := ⟨_, rfl⟩
    have bw16000 := BT_get hI.1 4 0 5 (0) (0) (1000) (by decide) 0 (by decide) (by decide)
    rw [ew16000] at bw16000
    obtain ⟨w16001, ew16001⟩ : ∃ w : Int32, I (ad g 4) 1 = w := ⟨_, rfl⟩
    have bw16001 := BT_get hI.1 4 0 5 (0) (0) (1000) (by decide) 1 (by decide) (by decide)
    rw [ew16001] at bw16001
    exact WP_iret dX3_faultInParts_73 rfl ⟨⟨hI, rfl, ⟨trivial, rfl, rfl⟩⟩, _, rfl, by omega, by omega, by (try rw [ew16000]; try rw [ew16001]); omega⟩
set_option maxHeartbeats 4000000 in
set_option maxRecDepth 100000 in
theorem sx_parts_6_1 {g : GG} {n : Int} {L : Int32} (hy : LyX g) {aK aV : Nat → Nat} {fo : Option Nat} (hz : HZ g aK aV fo)  {I : pI} {J : pJ} {R : pR} (hr : RfX g R) (hI : XI g n L I) (cz : Int32) (cz_lo : 1 ≤ cz.toInt) (cz_hi : cz.toInt ≤ 1) (hb : (I (ad g 6) 1).toInt ≤ 3) : SP g mX3_faultInParts [.ref (ad g 3), .int cz, .ref (ad g 6)] I J R (fun r I' J' R' => (XI g n L I' ∧ R' = R ∧ True ∧ I' (ad g 6) 1 = I (ad g 6) 1 ∧ I' (ad g 6) 2 = I (ad g 6) 2) ∧ ∃ v : Int32, r = some (.int v) ∧ 0 ≤ v.toInt ∧ v.toInt ≤ 5 ∧ (v.toInt = 0 → (I' (ad g 4) 1).toInt ≤ 99 ∧ (I' (ad g 4) 2).toInt ≤ 1000 ∧ (I' (ad g 4) 3).toInt ≤ 60)) := by
  refine SP_of ⟨by decide, rfl⟩ (Nat.le_of_ble_eq_true rfl) ?_
  have e16002 : I (ad g 1) 1 = L := hI.2
  have b16003 := BT_get hI.1 1 1 2 (0) (0) (900) (by decide) 1 (by decide) (by decide)
  rw [e16002] at b16003
  obtain ⟨w16004, ew16004⟩ : ∃ w : Int32, I (ad g 6) 1 = w := ⟨_, rfl⟩
  have bw16004 := BT_get hI.1 6 1 2 (0) (0) (4) (by decide) 1 (by decide) (by decide)
  rw [ew16004] at bw16004
  obtain ⟨w16005, ew16005⟩ : ∃ w : Int32, I (ad g 6) 2 = w := ⟨_, rfl⟩
  have bw16005 := BT_get hI.1 6 2 3 (0) (0) (3) (by decide) 2 (by decide) (by decide)
  rw [ew16005] at bw16005
  rw [ew16004] at hb
  refine WP_iload_n dX3_faultInParts_0 rfl ?_
  refine WP_callS1 dX3_faultInParts_1 ⟨⟨⟨by decide, by decide⟩, zX3_shapeOf⟩, lX3_84, tX3_shapeOf⟩ (sx_shapeOf hy hz hr hI cz (by omega) (by omega)) (Nat.le_of_ble_eq_true rfl) ?_
  intro r Ia Ja Ra hq
  obtain ⟨⟨ea, eb, ec⟩, rfl⟩ := hq
  show WP _ _ _ _ (.ref _ :: _) _ _ _ _
  rw [show 10 + cz.toInt.toNat = 11 by omega]
  rw [ea, eb, ec]
  clear ea eb ec Ia Ja Ra
  refine WP_astore_n (ls' := [(0, _), (1, _), (2, _), (3, _)]) dX3_faultInParts_4 (by decide) rfl ?_
  refine WQ_iconst (0) (0) dX3_faultInParts_5 rfl rfl (fun v16006 hv16006 => ?_)
  refine WP_istore (ls' := [(0, _), (1, _), (2, _), (3, _), (4, _)]) dX3_faultInParts_6 (by decide) rfl ?_
  refine WP_iload dX3_faultInParts_8 rfl ?_
  refine WP_aload_n dX3_faultInParts_10 rfl ?_
  refine WS_call hz (i := 11) (by omega) dX3_faultInParts_11 ⟨⟨by decide, by decide⟩, zJ0_length_8abf5⟩ lX3_87 vJ0_length_8abf5 (As := []) (rest := [.int v16006]) (j_length hz (i := 11) (by omega)) rfl rfl (Nat.le_of_ble_eq_true rfl) ?_
  intro r Ia Ja Ra hq
  obtain ⟨⟨ea, eb, ec⟩, v16007, rfl, cv16007⟩ := hq
  show WP _ _ _ _ (.int _ :: _) _ _ _ _
  rw [ea, eb, ec]
  clear ea eb ec Ia Ja Ra
  have hv16007 : v16007.toInt = 4 := cv16007.trans rfl
  refine WQ_icmp_ge 125 dX3_faultInParts_14 rfl (fun c16007 => False.elim (by omega)) (fun c16007 => ?_)
  refine WP_iload dX3_faultInParts_17 rfl ?_
  refine WQ_iconst (5) (5) dX3_faultInParts_19 rfl rfl (fun v16009 hv16009 => ?_)
  refine WQ_icmp_ge 125 dX3_faultInParts_20 rfl (fun c16009 => False.elim (by omega)) (fun c16009 => ?_)
  refine WP_aload_n dX3_faultInParts_23 rfl ?_
  refine WP_iload dX3_faultInParts_24 rfl ?_
  refine WS_call hz (i := 11) (by omega) dX3_faultInParts_26 ⟨⟨by decide, by decide⟩, zJ0_charAt_5068e⟩ lX3_92 vJ0_charAt_5068e (As := [.int v16006]) (rest := []) (j_charAt hz (i := 11) (k := v16006) (by omega) (by omega) (by have z9 : ((liN.getD 11 0 : Nat) : Int) = 4 := rfl; omega)) rfl rfl (Nat.le_of_ble_eq_true rfl) ?_
  intro r Ia Ja Ra hq
  obtain ⟨⟨ea, eb, ec⟩, v16011, rfl, cv16011⟩ := hq
  show WP _ _ _ _ (.int _ :: _) _ _ _ _
  rw [ea, eb, ec]
  clear ea eb ec Ia Ja Ra
  have hv16011 : v16011.toInt = 110 := cv16011.trans (by rw [show v16006.toInt.toNat = 0 by omega]; rfl)
  refine WP_istore (ls' := [(0, _), (1, _), (2, _), (3, _), (4, _), (5, _)]) dX3_faultInParts_29 (by decide) rfl ?_
  refine WP_iload dX3_faultInParts_31 rfl ?_
  refine WQ_bipush (97) (97) dX3_faultInParts_33 rfl rfl (fun v16012 hv16012 => ?_)
  refine WQ_icmp_lt 49 dX3_faultInParts_35 rfl (fun c16012 => False.elim (by omega)) (fun c16012 => ?_)
  refine WP_iload dX3_faultInParts_38 rfl ?_
  refine WQ_bipush (122) (122) dX3_faultInParts_40 rfl rfl (fun v16014 hv16014 => ?_)
  refine WQ_icmp_gt 49 dX3_faultInParts_42 rfl (fun c16014 => False.elim (by omega)) (fun c16014 => ?_)
  refine WQ_iconst (1) (1) dX3_faultInParts_45 rfl rfl (fun v16016 hv16016 => ?_)
  refine WP_goto 50 dX3_faultInParts_46 rfl ?_
  refine WP_istore (ls' := [(0, _), (1, _), (2, _), (3, _), (4, _), (5, _), (6, _)]) dX3_faultInParts_50 (by decide) rfl ?_
  refine WP_aload_n dX3_faultInParts_52 rfl ?_
  refine WP_getr dX3_faultInParts_53 fX3_15 rfl (lyx_is hy 3 3 rfl) (rfx hr 3 2 1 (by decide)) ?_
  refine WQ_geti dX3_faultInParts_56 fX3_43 rfl (lyx_is hy 1 5 rfl) (BT_get hI.1 1 2 3 (0) (0) (4) (by decide) 2 (by decide) (by decide)) (fun v16017 ev16017 av16017 bv16017 => ?_)
  refine WP_iload dX3_faultInParts_59 rfl ?_
  refine WQ_if_eq 68 dX3_faultInParts_61 rfl (fun c16017 => False.elim (by omega)) (fun c16017 => ?_)
  refine WQ_iconst (1) (1) dX3_faultInParts_64 rfl rfl (fun v16019 hv16019 => ?_)
  refine WP_goto 69 dX3_faultInParts_65 rfl ?_
  refine WQ_icmp_eq 74 dX3_faultInParts_69 rfl (fun c16019 => ?_) (fun c16019 => ?_)
  · refine WP_iload dX3_faultInParts_74 rfl ?_
    refine WQ_if_eq 92 dX3_faultInParts_76 rfl (fun c16020 => False.elim (by omega)) (fun c16020 => ?_)
    refine WP_aload_n dX3_faultInParts_79 rfl ?_
    refine WP_iload dX3_faultInParts_80 rfl ?_
    refine WP_iload_n dX3_faultInParts_82 rfl ?_
    refine WP_iload dX3_faultInParts_83 rfl ?_
    refine WP_aload_n dX3_faultInParts_85 rfl ?_
    refine WP_callV4 (k := 3) dX3_faultInParts_86 ⟨⟨⟨by decide, by decide⟩, zX3_faultOfName⟩, lX3_96, by decide, rfl, vX3_faultOfName.1, vX3_faultOfName.2⟩ (lyx_is hy 3 3 rfl) (sx_part_6_1_0 hy hr hI v16011 cz v16006 (by omega) (by omega) (by omega) (by omega) (by omega) (by omega) (by rw [ew16004]; omega)) (Nat.le_of_ble_eq_true rfl) ?_
    intro r I16022 J16023 Ra hq
    obtain ⟨⟨hI16022, ec, ⟨pI16022, sI16022_6_1, sI16022_6_2⟩⟩, v16024, rfl, av16024, bv16024⟩ := hq
    show WP _ _ _ _ (.int _ :: _) _ _ _ _
    rw [ec]
    clear ec Ra
    have e16025 : I16022 (ad g 6) 1 = w16004 := by rw [sI16022_6_1]; exact ew16004
    have e16026 : I16022 (ad g 6) 2 = w16005 := by rw [sI16022_6_2]; exact ew16005
    have e16027 : I16022 (ad g 1) 1 = L := hI16022.2
    have b16028 := BT_get hI16022.1 1 1 2 (0) (0) (900) (by decide) 1 (by decide) (by decide)
    rw [e16027] at b16028
    refine WP_goto 102 dX3_faultInParts_89 rfl ?_
    refine WP_istore (ls' := [(0, _), (1, _), (2, _), (3, _), (4, _), (5, _), (6, _), (7, _)]) dX3_faultInParts_102 (by decide) rfl ?_
    refine WP_iload dX3_faultInParts_104 rfl ?_
    refine WQ_if_eq 112 dX3_faultInParts_106 rfl (fun c16028 => ?_) (fun c16028 => ?_)
    · refine WP_aload_n dX3_faultInParts_112 rfl ?_
      refine WP_getr dX3_faultInParts_113 fX3_15 rfl (lyx_is hy 3 3 rfl) (rfx hr 3 2 1 (by decide)) ?_
      refine WP_callV0 (k := 5) dX3_faultInParts_116 ⟨⟨⟨by decide, by decide⟩, zX5_next⟩, lX3_40, by decide, rfl, vX5_next.1, vX5_next.2⟩ (lyx_is hy 1 5 rfl) (sx_nextf hy hr hI16022  ) (Nat.le_of_ble_eq_true rfl) ?_
      intro r I16030 J16031 Ra hq
      obtain ⟨⟨hI16030, ec, fiI16030⟩, rfl⟩ := hq
      rw [ec]
      clear ec Ra
      have e16032 : I16030 (ad g 6) 1 = w16004 := by rw [fz_at fiI16030 6 (by decide) (by decide)]; exact e16025
      have e16033 : I16030 (ad g 6) 2 = w16005 := by rw [fz_at fiI16030 6 (by decide) (by decide)]; exact e16026
      have e16034 : I16030 (ad g 1) 1 = L := hI16030.2
      have b16035 := BT_get hI16030.1 1 1 2 (0) (0) (900) (by decide) 1 (by decide) (by decide)
      rw [e16034] at b16035
      refine WP_iinc (ls' := [(0, _), (1, _), (2, _), (3, _), (4, _), (5, _), (6, _), (7, _)]) dX3_faultInParts_119 rfl (by decide) rfl ?_
      have hv16036 : (v16006 + Int32.ofInt (1)).toInt = v16006.toInt + (1) := ia_n rfl (by omega) (by omega)
      generalize v16006 + Int32.ofInt (1) = v16036 at hv16036 ⊢
      refine WP_goto 8 dX3_faultInParts_122 rfl ?_
      refine WP_iload dX3_faultInParts_8 rfl ?_
      refine WP_aload_n dX3_faultInParts_10 rfl ?_
      refine WS_call hz (i := 11) (by omega) dX3_faultInParts_11 ⟨⟨by decide, by decide⟩, zJ0_length_8abf5⟩ lX3_87 vJ0_length_8abf5 (As := []) (rest := [.int v16036]) (j_length hz (i := 11) (by omega)) rfl rfl (Nat.le_of_ble_eq_true rfl) ?_
      intro r Ia Ja Ra hq
      obtain ⟨⟨ea, eb, ec⟩, v16037, rfl, cv16037⟩ := hq
      show WP _ _ _ _ (.int _ :: _) _ _ _ _
      rw [ea, eb, ec]
      clear ea eb ec Ia Ja Ra
      have hv16037 : v16037.toInt = 4 := cv16037.trans rfl
      refine WQ_icmp_ge 125 dX3_faultInParts_14 rfl (fun c16037 => False.elim (by omega)) (fun c16037 => ?_)
      refine WP_iload dX3_faultInParts_17 rfl ?_
      refine WQ_iconst (5) (5) dX3_faultInParts_19 rfl rfl (fun v16039 hv16039 => ?_)
      refine WQ_icmp_ge 125 dX3_faultInParts_20 rfl (fun c16039 => False.elim (by omega)) (fun c16039 => ?_)
      refine WP_aload_n dX3_faultInParts_23 rfl ?_
      refine WP_iload dX3_faultInParts_24 rfl ?_
      refine WS_call hz (i := 11) (by omega) dX3_faultInParts_26 ⟨⟨by decide, by decide⟩, zJ0_charAt_5068e⟩ lX3_92 vJ0_charAt_5068e (As := [.int v16036]) (rest := []) (j_charAt hz (i := 11) (k := v16036) (by omega) (by omega) (by have z9 : ((liN.getD 11 0 : Nat) : Int) = 4 := rfl; omega)) rfl rfl (Nat.le_of_ble_eq_true rfl) ?_
      intro r Ia Ja Ra hq
      obtain ⟨⟨ea, eb, ec⟩, v16041, rfl, cv16041⟩ := hq
      show WP _ _ _ _ (.int _ :: _) _ _ _ _
      rw [ea, eb, ec]
      clear ea eb ec Ia Ja Ra
      have hv16041 : v16041.toInt = 80 := cv16041.trans (by rw [show v16036.toInt.toNat = 1 by omega]; rfl)
      refine WP_istore (ls' := [(0, _), (1, _), (2, _), (3, _), (4, _), (5, _), (6, _), (7, _)]) dX3_faultInParts_29 (by decide) rfl ?_
      refine WP_iload dX3_faultInParts_31 rfl ?_
      refine WQ_bipush (97) (97) dX3_faultInParts_33 rfl rfl (fun v16042 hv16042 => ?_)
      refine WQ_icmp_lt 49 dX3_faultInParts_35 rfl (fun c16042 => ?_) (fun c16042 => False.elim (by omega))
      refine WQ_iconst (0) (0) dX3_faultInParts_49 rfl rfl (fun v16044 hv16044 => ?_)
      refine WP_istore (ls' := [(0, _), (1, _), (2, _), (3, _), (4, _), (5, _), (6, _), (7, _)]) dX3_faultInParts_50 (by decide) rfl ?_
      refine WP_aload_n dX3_faultInParts_52 rfl ?_
      refine WP_getr dX3_faultInParts_53 fX3_15 rfl (lyx_is hy 3 3 rfl) (rfx hr 3 2 1 (by decide)) ?_
      refine WQ_geti dX3_faultInParts_56 fX3_43 rfl (lyx_is hy 1 5 rfl) (BT_get hI16030.1 1 2 3 (0) (0) (4) (by decide) 2 (by decide) (by decide)) (fun v16045 ev16045 av16045 bv16045 => ?_)
      refine WP_iload dX3_faultInParts_59 rfl ?_
      refine WQ_if_eq 68 dX3_faultInParts_61 rfl (fun c16045 => ?_) (fun c16045 => False.elim (by omega))
      refine WQ_iconst (2) (2) dX3_faultInParts_68 rfl rfl (fun v16047 hv16047 => ?_)
      refine WQ_icmp_eq 74 dX3_faultInParts_69 rfl (fun c16047 => ?_) (fun c16047 => ?_)
      · refine WP_iload dX3_faultInParts_74 rfl ?_
        refine WQ_if_eq 92 dX3_faultInParts_76 rfl (fun c16048 => ?_) (fun c16048 => False.elim (by omega))
        refine WP_aload_n dX3_faultInParts_92 rfl ?_
        refine WP_iload dX3_faultInParts_93 rfl ?_
        refine WP_iload_n dX3_faultInParts_95 rfl ?_
        refine WP_iload dX3_faultInParts_96 rfl ?_
        refine WP_aload_n dX3_faultInParts_98 rfl ?_
        refine WP_callV4 (k := 3) dX3_faultInParts_99 ⟨⟨⟨by decide, by decide⟩, zX3_faultOfNumber⟩, lX3_100, by decide, rfl, vX3_faultOfNumber.1, vX3_faultOfNumber.2⟩ (lyx_is hy 3 3 rfl) (sx_part_6_1_1 hy hr hI16030 v16041 cz v16036 (by omega) (by omega) (by omega) (by omega) (by omega) (by omega)) (Nat.le_of_ble_eq_true rfl) ?_
        intro r I16050 J16051 Ra hq
        obtain ⟨⟨hI16050, ec, ⟨pI16050, sI16050_4_0, sI16050_6_1, sI16050_6_2⟩⟩, v16052, rfl, av16052, bv16052, cv16052⟩ := hq
        show WP _ _ _ _ (.int _ :: _) _ _ _ _
        rw [ec]
        clear ec Ra
        have e16053 : I16050 (ad g 6) 1 = w16004 := by rw [sI16050_6_1]; exact e16032
        have e16054 : I16050 (ad g 6) 2 = w16005 := by rw [sI16050_6_2]; exact e16033
        have e16055 : I16050 (ad g 1) 1 = L := hI16050.2
        have b16056 := BT_get hI16050.1 1 1 2 (0) (0) (900) (by decide) 1 (by decide) (by decide)
        rw [e16055] at b16056
        obtain ⟨w16057, ew16057⟩ : ∃ w : Int32, I16050 (ad g 4) 1 = w := ⟨_, rfl⟩
        have bw16057 := BT_get hI16050.1 4 0 5 (0) (0) (1000) (by decide) 1 (by decide) (by decide)
        rw [ew16057] at bw16057
        rw [ew16057] at cv16052
        refine WP_istore (ls' := [(0, _), (1, _), (2, _), (3, _), (4, _), (5, _), (6, _), (7, _)]) dX3_faultInParts_102 (by decide) rfl ?_
        refine WP_iload dX3_faultInParts_104 rfl ?_
        refine WQ_if_eq 112 dX3_faultInParts_106 rfl (fun c16057 => ?_) (fun c16057 => ?_)
        · refine WP_aload_n dX3_faultInParts_112 rfl ?_
          refine WP_getr dX3_faultInParts_113 fX3_15 rfl (lyx_is hy 3 3 rfl) (rfx hr 3 2 1 (by decide)) ?_
          refine WP_callV0 (k := 5) dX3_faultInParts_116 ⟨⟨⟨by decide, by decide⟩, zX5_next⟩, lX3_40, by decide, rfl, vX5_next.1, vX5_next.2⟩ (lyx_is hy 1 5 rfl) (sx_nextf hy hr hI16050  ) (Nat.le_of_ble_eq_true rfl) ?_
          intro r I16059 J16060 Ra hq
          obtain ⟨⟨hI16059, ec, fiI16059⟩, rfl⟩ := hq
          rw [ec]
          clear ec Ra
          have e16061 : I16059 (ad g 6) 1 = w16004 := by rw [fz_at fiI16059 6 (by decide) (by decide)]; exact e16053
          have e16062 : I16059 (ad g 6) 2 = w16005 := by rw [fz_at fiI16059 6 (by decide) (by decide)]; exact e16054
          have e16063 : I16059 (ad g 4) 1 = w16057 := by rw [fz_at fiI16059 4 (by decide) (by decide)]; exact ew16057
          have e16064 : I16059 (ad g 1) 1 = L := hI16059.2
          have b16065 := BT_get hI16059.1 1 1 2 (0) (0) (900) (by decide) 1 (by decide) (by decide)
          rw [e16064] at b16065
          refine WP_iinc (ls' := [(0, _), (1, _), (2, _), (3, _), (4, _), (5, _), (6, _), (7, _)]) dX3_faultInParts_119 rfl (by decide) rfl ?_
          have hv16066 : (v16036 + Int32.ofInt (1)).toInt = v16036.toInt + (1) := ia_n rfl (by omega) (by omega)
          generalize v16036 + Int32.ofInt (1) = v16066 at hv16066 ⊢
          refine WP_goto 8 dX3_faultInParts_122 rfl ?_
          refine WP_iload dX3_faultInParts_8 rfl ?_
          refine WP_aload_n dX3_faultInParts_10 rfl ?_
          refine WS_call hz (i := 11) (by omega) dX3_faultInParts_11 ⟨⟨by decide, by decide⟩, zJ0_length_8abf5⟩ lX3_87 vJ0_length_8abf5 (As := []) (rest := [.int v16066]) (j_length hz (i := 11) (by omega)) rfl rfl (Nat.le_of_ble_eq_true rfl) ?_
          intro r Ia Ja Ra hq
          obtain ⟨⟨ea, eb, ec⟩, v16067, rfl, cv16067⟩ := hq
          show WP _ _ _ _ (.int _ :: _) _ _ _ _
          rw [ea, eb, ec]
          clear ea eb ec Ia Ja Ra
          have hv16067 : v16067.toInt = 4 := cv16067.trans rfl
          refine WQ_icmp_ge 125 dX3_faultInParts_14 rfl (fun c16067 => False.elim (by omega)) (fun c16067 => ?_)
          refine WP_iload dX3_faultInParts_17 rfl ?_
          refine WQ_iconst (5) (5) dX3_faultInParts_19 rfl rfl (fun v16069 hv16069 => ?_)
          refine WQ_icmp_ge 125 dX3_faultInParts_20 rfl (fun c16069 => False.elim (by omega)) (fun c16069 => ?_)
          refine WP_aload_n dX3_faultInParts_23 rfl ?_
          refine WP_iload dX3_faultInParts_24 rfl ?_
          refine WS_call hz (i := 11) (by omega) dX3_faultInParts_26 ⟨⟨by decide, by decide⟩, zJ0_charAt_5068e⟩ lX3_92 vJ0_charAt_5068e (As := [.int v16066]) (rest := []) (j_charAt hz (i := 11) (k := v16066) (by omega) (by omega) (by have z9 : ((liN.getD 11 0 : Nat) : Int) = 4 := rfl; omega)) rfl rfl (Nat.le_of_ble_eq_true rfl) ?_
          intro r Ia Ja Ra hq
          obtain ⟨⟨ea, eb, ec⟩, v16071, rfl, cv16071⟩ := hq
          show WP _ _ _ _ (.int _ :: _) _ _ _ _
          rw [ea, eb, ec]
          clear ea eb ec Ia Ja Ra
          have hv16071 : v16071.toInt = 72 := cv16071.trans (by rw [show v16066.toInt.toNat = 2 by omega]; rfl)
          refine WP_istore (ls' := [(0, _), (1, _), (2, _), (3, _), (4, _), (5, _), (6, _), (7, _)]) dX3_faultInParts_29 (by decide) rfl ?_
          refine WP_iload dX3_faultInParts_31 rfl ?_
          refine WQ_bipush (97) (97) dX3_faultInParts_33 rfl rfl (fun v16072 hv16072 => ?_)
          refine WQ_icmp_lt 49 dX3_faultInParts_35 rfl (fun c16072 => ?_) (fun c16072 => False.elim (by omega))
          refine WQ_iconst (0) (0) dX3_faultInParts_49 rfl rfl (fun v16074 hv16074 => ?_)
          refine WP_istore (ls' := [(0, _), (1, _), (2, _), (3, _), (4, _), (5, _), (6, _), (7, _)]) dX3_faultInParts_50 (by decide) rfl ?_
          refine WP_aload_n dX3_faultInParts_52 rfl ?_
          refine WP_getr dX3_faultInParts_53 fX3_15 rfl (lyx_is hy 3 3 rfl) (rfx hr 3 2 1 (by decide)) ?_
          refine WQ_geti dX3_faultInParts_56 fX3_43 rfl (lyx_is hy 1 5 rfl) (BT_get hI16059.1 1 2 3 (0) (0) (4) (by decide) 2 (by decide) (by decide)) (fun v16075 ev16075 av16075 bv16075 => ?_)
          refine WP_iload dX3_faultInParts_59 rfl ?_
          refine WQ_if_eq 68 dX3_faultInParts_61 rfl (fun c16075 => ?_) (fun c16075 => False.elim (by omega))
          refine WQ_iconst (2) (2) dX3_faultInParts_68 rfl rfl (fun v16077 hv16077 => ?_)
          refine WQ_icmp_eq 74 dX3_faultInParts_69 rfl (fun c16077 => ?_) (fun c16077 => ?_)
          · refine WP_iload dX3_faultInParts_74 rfl ?_
            refine WQ_if_eq 92 dX3_faultInParts_76 rfl (fun c16078 => ?_) (fun c16078 => False.elim (by omega))
            refine WP_aload_n dX3_faultInParts_92 rfl ?_
            refine WP_iload dX3_faultInParts_93 rfl ?_
            refine WP_iload_n dX3_faultInParts_95 rfl ?_
            refine WP_iload dX3_faultInParts_96 rfl ?_
            refine WP_aload_n dX3_faultInParts_98 rfl ?_
            refine WP_callV4 (k := 3) dX3_faultInParts_99 ⟨⟨⟨by decide, by decide⟩, zX3_faultOfNumber⟩, lX3_100, by decide, rfl, vX3_faultOfNumber.1, vX3_faultOfNumber.2⟩ (lyx_is hy 3 3 rfl) (sx_part_6_1_2 hy hr hI16059 v16071 cz v16066 (by omega) (by omega) (by omega) (by omega) (by omega) (by omega)) (Nat.le_of_ble_eq_true rfl) ?_
            intro r I16080 J16081 Ra hq
            obtain ⟨⟨hI16080, ec, ⟨pI16080, sI16080_4_0, sI16080_4_1, sI16080_6_1, sI16080_6_2⟩⟩, v16082, rfl, av16082, bv16082, cv16082⟩ := hq
            show WP _ _ _ _ (.int _ :: _) _ _ _ _
            rw [ec]
            clear ec Ra
            have e16083 : I16080 (ad g 4) 1 = w16057 := by rw [sI16080_4_1]; exact e16063
            have e16084 : I16080 (ad g 6) 1 = w16004 := by rw [sI16080_6_1]; exact e16061
            have e16085 : I16080 (ad g 6) 2 = w16005 := by rw [sI16080_6_2]; exact e16062
            have e16086 : I16080 (ad g 1) 1 = L := hI16080.2
            have b16087 := BT_get hI16080.1 1 1 2 (0) (0) (900) (by decide) 1 (by decide) (by decide)
            rw [e16086] at b16087
            obtain ⟨w16088, ew16088⟩ : ∃ w : Int32, I16080 (ad g 4) 2 = w := ⟨_, rfl⟩
            have bw16088 := BT_get hI16080.1 4 0 5 (0) (0) (1000) (by decide) 2 (by decide) (by decide)
            rw [ew16088] at bw16088
            rw [ew16088] at cv16082
            refine WP_istore (ls' := [(0, _), (1, _), (2, _), (3, _), (4, _), (5, _), (6, _), (7, _)]) dX3_faultInParts_102 (by decide) rfl ?_
            refine WP_iload dX3_faultInParts_104 rfl ?_
            refine WQ_if_eq 112 dX3_faultInParts_106 rfl (fun c16088 => ?_) (fun c16088 => ?_)
            · refine WP_aload_n dX3_faultInParts_112 rfl ?_
              refine WP_getr dX3_faultInParts_113 fX3_15 rfl (lyx_is hy 3 3 rfl) (rfx hr 3 2 1 (by decide)) ?_
              refine WP_callV0 (k := 5) dX3_faultInParts_116 ⟨⟨⟨by decide, by decide⟩, zX5_next⟩, lX3_40, by decide, rfl, vX5_next.1, vX5_next.2⟩ (lyx_is hy 1 5 rfl) (sx_nextf hy hr hI16080  ) (Nat.le_of_ble_eq_true rfl) ?_
              intro r I16090 J16091 Ra hq
              obtain ⟨⟨hI16090, ec, fiI16090⟩, rfl⟩ := hq
              rw [ec]
              clear ec Ra
              have e16092 : I16090 (ad g 4) 1 = w16057 := by rw [fz_at fiI16090 4 (by decide) (by decide)]; exact e16083
              have e16093 : I16090 (ad g 6) 1 = w16004 := by rw [fz_at fiI16090 6 (by decide) (by decide)]; exact e16084
              have e16094 : I16090 (ad g 6) 2 = w16005 := by rw [fz_at fiI16090 6 (by decide) (by decide)]; exact e16085
              have e16095 : I16090 (ad g 4) 2 = w16088 := by rw [fz_at fiI16090 4 (by decide) (by decide)]; exact ew16088
              have e16096 : I16090 (ad g 1) 1 = L := hI16090.2
              have b16097 := BT_get hI16090.1 1 1 2 (0) (0) (900) (by decide) 1 (by decide) (by decide)
              rw [e16096] at b16097
              refine WP_iinc (ls' := [(0, _), (1, _), (2, _), (3, _), (4, _), (5, _), (6, _), (7, _)]) dX3_faultInParts_119 rfl (by decide) rfl ?_
              have hv16098 : (v16066 + Int32.ofInt (1)).toInt = v16066.toInt + (1) := ia_n rfl (by omega) (by omega)
              generalize v16066 + Int32.ofInt (1) = v16098 at hv16098 ⊢
              refine WP_goto 8 dX3_faultInParts_122 rfl ?_
              refine WP_iload dX3_faultInParts_8 rfl ?_
              refine WP_aload_n dX3_faultInParts_10 rfl ?_
              refine WS_call hz (i := 11) (by omega) dX3_faultInParts_11 ⟨⟨by decide, by decide⟩, zJ0_length_8abf5⟩ lX3_87 vJ0_length_8abf5 (As := []) (rest := [.int v16098]) (j_length hz (i := 11) (by omega)) rfl rfl (Nat.le_of_ble_eq_true rfl) ?_
              intro r Ia Ja Ra hq
              obtain ⟨⟨ea, eb, ec⟩, v16099, rfl, cv16099⟩ := hq
              show WP _ _ _ _ (.int _ :: _) _ _ _ _
              rw [ea, eb, ec]
              clear ea eb ec Ia Ja Ra
              have hv16099 : v16099.toInt = 4 := cv16099.trans rfl
              refine WQ_icmp_ge 125 dX3_faultInParts_14 rfl (fun c16099 => False.elim (by omega)) (fun c16099 => ?_)
              refine WP_iload dX3_faultInParts_17 rfl ?_
              refine WQ_iconst (5) (5) dX3_faultInParts_19 rfl rfl (fun v16101 hv16101 => ?_)
              refine WQ_icmp_ge 125 dX3_faultInParts_20 rfl (fun c16101 => False.elim (by omega)) (fun c16101 => ?_)
              refine WP_aload_n dX3_faultInParts_23 rfl ?_
              refine WP_iload dX3_faultInParts_24 rfl ?_
              refine WS_call hz (i := 11) (by omega) dX3_faultInParts_26 ⟨⟨by decide, by decide⟩, zJ0_charAt_5068e⟩ lX3_92 vJ0_charAt_5068e (As := [.int v16098]) (rest := []) (j_charAt hz (i := 11) (k := v16098) (by omega) (by omega) (by have z9 : ((liN.getD 11 0 : Nat) : Int) = 4 := rfl; omega)) rfl rfl (Nat.le_of_ble_eq_true rfl) ?_
              intro r Ia Ja Ra hq
              obtain ⟨⟨ea, eb, ec⟩, v16103, rfl, cv16103⟩ := hq
              show WP _ _ _ _ (.int _ :: _) _ _ _ _
              rw [ea, eb, ec]
              clear ea eb ec Ia Ja Ra
              have hv16103 : v16103.toInt = 67 := cv16103.trans (by rw [show v16098.toInt.toNat = 3 by omega]; rfl)
              refine WP_istore (ls' := [(0, _), (1, _), (2, _), (3, _), (4, _), (5, _), (6, _), (7, _)]) dX3_faultInParts_29 (by decide) rfl ?_
              refine WP_iload dX3_faultInParts_31 rfl ?_
              refine WQ_bipush (97) (97) dX3_faultInParts_33 rfl rfl (fun v16104 hv16104 => ?_)
              refine WQ_icmp_lt 49 dX3_faultInParts_35 rfl (fun c16104 => ?_) (fun c16104 => False.elim (by omega))
              refine WQ_iconst (0) (0) dX3_faultInParts_49 rfl rfl (fun v16106 hv16106 => ?_)
              refine WP_istore (ls' := [(0, _), (1, _), (2, _), (3, _), (4, _), (5, _), (6, _), (7, _)]) dX3_faultInParts_50 (by decide) rfl ?_
              refine WP_aload_n dX3_faultInParts_52 rfl ?_
              refine WP_getr dX3_faultInParts_53 fX3_15 rfl (lyx_is hy 3 3 rfl) (rfx hr 3 2 1 (by decide)) ?_
              refine WQ_geti dX3_faultInParts_56 fX3_43 rfl (lyx_is hy 1 5 rfl) (BT_get hI16090.1 1 2 3 (0) (0) (4) (by decide) 2 (by decide) (by decide)) (fun v16107 ev16107 av16107 bv16107 => ?_)
              refine WP_iload dX3_faultInParts_59 rfl ?_
              refine WQ_if_eq 68 dX3_faultInParts_61 rfl (fun c16107 => ?_) (fun c16107 => False.elim (by omega))
              refine WQ_iconst (2) (2) dX3_faultInParts_68 rfl rfl (fun v16109 hv16109 => ?_)
              refine WQ_icmp_eq 74 dX3_faultInParts_69 rfl (fun c16109 => ?_) (fun c16109 => ?_)
              · refine WP_iload dX3_faultInParts_74 rfl ?_
                refine WQ_if_eq 92 dX3_faultInParts_76 rfl (fun c16110 => ?_) (fun c16110 => False.elim (by omega))
                refine WP_aload_n dX3_faultInParts_92 rfl ?_
                refine WP_iload dX3_faultInParts_93 rfl ?_
                refine WP_iload_n dX3_faultInParts_95 rfl ?_
                refine WP_iload dX3_faultInParts_96 rfl ?_
                refine WP_aload_n dX3_faultInParts_98 rfl ?_
                refine WP_callV4 (k := 3) dX3_faultInParts_99 ⟨⟨⟨by decide, by decide⟩, zX3_faultOfNumber⟩, lX3_100, by decide, rfl, vX3_faultOfNumber.1, vX3_faultOfNumber.2⟩ (lyx_is hy 3 3 rfl) (sx_part_6_1_3 hy hr hI16090 v16103 cz v16098 (by omega) (by omega) (by omega) (by omega) (by omega) (by omega)) (Nat.le_of_ble_eq_true rfl) ?_
                intro r I16112 J16113 Ra hq
                obtain ⟨⟨hI16112, ec, ⟨pI16112, sI16112_4_0, sI16112_4_1, sI16112_4_2, sI16112_6_1, sI16112_6_2⟩⟩, v16114, rfl, av16114, bv16114, cv16114⟩ := hq
                show WP _ _ _ _ (.int _ :: _) _ _ _ _
                rw [ec]
                clear ec Ra
                have e16115 : I16112 (ad g 4) 1 = w16057 := by rw [sI16112_4_1]; exact e16092
                have e16116 : I16112 (ad g 4) 2 = w16088 := by rw [sI16112_4_2]; exact e16095
                have e16117 : I16112 (ad g 6) 1 = w16004 := by rw [sI16112_6_1]; exact e16093
                have e16118 : I16112 (ad g 6) 2 = w16005 := by rw [sI16112_6_2]; exact e16094
                have e16119 : I16112 (ad g 1) 1 = L := hI16112.2
                have b16120 := BT_get hI16112.1 1 1 2 (0) (0) (900) (by decide) 1 (by decide) (by decide)
                rw [e16119] at b16120
                obtain ⟨w16121, ew16121⟩ : ∃ w : Int32, I16112 (ad g 4) 3 = w := ⟨_, rfl⟩
                have bw16121 := BT_get hI16112.1 4 0 5 (0) (0) (1000) (by decide) 3 (by decide) (by decide)
                rw [ew16121] at bw16121
                rw [ew16121] at cv16114
                refine WP_istore (ls' := [(0, _), (1, _), (2, _), (3, _), (4, _), (5, _), (6, _), (7, _)]) dX3_faultInParts_102 (by decide) rfl ?_
                refine WP_iload dX3_faultInParts_104 rfl ?_
                refine WQ_if_eq 112 dX3_faultInParts_106 rfl (fun c16121 => ?_) (fun c16121 => ?_)
                · refine WP_aload_n dX3_faultInParts_112 rfl ?_
                  refine WP_getr dX3_faultInParts_113 fX3_15 rfl (lyx_is hy 3 3 rfl) (rfx hr 3 2 1 (by decide)) ?_
                  refine WP_callV0 (k := 5) dX3_faultInParts_116 ⟨⟨⟨by decide, by decide⟩, zX5_next⟩, lX3_40, by decide, rfl, vX5_next.1, vX5_next.2⟩ (lyx_is hy 1 5 rfl) (sx_nextf hy hr hI16112  ) (Nat.le_of_ble_eq_true rfl) ?_
                  intro r I16123 J16124 Ra hq
                  obtain ⟨⟨hI16123, ec, fiI16123⟩, rfl⟩ := hq
                  rw [ec]
                  clear ec Ra
                  have e16125 : I16123 (ad g 4) 1 = w16057 := by rw [fz_at fiI16123 4 (by decide) (by decide)]; exact e16115
                  have e16126 : I16123 (ad g 4) 2 = w16088 := by rw [fz_at fiI16123 4 (by decide) (by decide)]; exact e16116
                  have e16127 : I16123 (ad g 6) 1 = w16004 := by rw [fz_at fiI16123 6 (by decide) (by decide)]; exact e16117
                  have e16128 : I16123 (ad g 6) 2 = w16005 := by rw [fz_at fiI16123 6 (by decide) (by decide)]; exact e16118
                  have e16129 : I16123 (ad g 4) 3 = w16121 := by rw [fz_at fiI16123 4 (by decide) (by decide)]; exact ew16121
                  have e16130 : I16123 (ad g 1) 1 = L := hI16123.2
                  have b16131 := BT_get hI16123.1 1 1 2 (0) (0) (900) (by decide) 1 (by decide) (by decide)
                  rw [e16130] at b16131
                  refine WP_iinc (ls' := [(0, _), (1, _), (2, _), (3, _), (4, _), (5, _), (6, _), (7, _)]) dX3_faultInParts_119 rfl (by decide) rfl ?_
                  have hv16132 : (v16098 + Int32.ofInt (1)).toInt = v16098.toInt + (1) := ia_n rfl (by omega) (by omega)
                  generalize v16098 + Int32.ofInt (1) = v16132 at hv16132 ⊢
                  refine WP_goto 8 dX3_faultInParts_122 rfl ?_
                  refine WP_iload dX3_faultInParts_8 rfl ?_
                  refine WP_aload_n dX3_faultInParts_10 rfl ?_
                  refine WS_call hz (i := 11) (by omega) dX3_faultInParts_11 ⟨⟨by decide, by decide⟩, zJ0_length_8abf5⟩ lX3_87 vJ0_length_8abf5 (As := []) (rest := [.int v16132]) (j_length hz (i := 11) (by omega)) rfl rfl (Nat.le_of_ble_eq_true rfl) ?_
                  intro r Ia Ja Ra hq
                  obtain ⟨⟨ea, eb, ec⟩, v16133, rfl, cv16133⟩ := hq
                  show WP _ _ _ _ (.int _ :: _) _ _ _ _
                  rw [ea, eb, ec]
                  clear ea eb ec Ia Ja Ra
                  have hv16133 : v16133.toInt = 4 := cv16133.trans rfl
                  refine WQ_icmp_ge 125 dX3_faultInParts_14 rfl (fun c16133 => ?_) (fun c16133 => False.elim (by omega))
                  refine WP_aload_n dX3_faultInParts_125 rfl ?_
                  refine WP_getr dX3_faultInParts_126 fX3_15 rfl (lyx_is hy 3 3 rfl) (rfx hr 3 2 1 (by decide)) ?_
                  refine WQ_geti dX3_faultInParts_129 fX3_43 rfl (lyx_is hy 1 5 rfl) (BT_get hI16123.1 1 2 3 (0) (0) (4) (by decide) 2 (by decide) (by decide)) (fun v16135 ev16135 av16135 bv16135 => ?_)
                  refine WQ_iconst (3) (3) dX3_faultInParts_132 rfl rfl (fun v16136 hv16136 => ?_)
                  refine WQ_icmp_ne 140 dX3_faultInParts_133 rfl (fun c16136 => ?_) (fun c16136 => ?_)
                  · refine WQ_iconst (1) (1) dX3_faultInParts_140 rfl rfl (fun v16138 hv16138 => ?_)
                    exact WP_iret dX3_faultInParts_141 rfl ⟨⟨hI16123, rfl, ⟨trivial, (by rw [e16127, ew16004] <;> exact (eq32 _ _).mpr (by omega)), (by rw [e16128, ew16005] <;> exact (eq32 _ _).mpr (by omega))⟩⟩, _, rfl, by omega, by omega, by (try rw [e16125]; try rw [e16126]; try rw [e16129]); omega⟩
                  · refine WQ_iconst (0) (0) dX3_faultInParts_136 rfl rfl (fun v16139 hv16139 => ?_)
                    refine WP_goto 141 dX3_faultInParts_137 rfl ?_
                    exact WP_iret dX3_faultInParts_141 rfl ⟨⟨hI16123, rfl, ⟨trivial, (by rw [e16127, ew16004] <;> exact (eq32 _ _).mpr (by omega)), (by rw [e16128, ew16005] <;> exact (eq32 _ _).mpr (by omega))⟩⟩, _, rfl, by omega, by omega, by (try rw [e16125]; try rw [e16126]; try rw [e16129]); omega⟩
                · refine WP_iload dX3_faultInParts_109 rfl ?_
                  exact WP_iret dX3_faultInParts_111 rfl ⟨⟨hI16112, rfl, ⟨trivial, (by rw [e16117, ew16004] <;> exact (eq32 _ _).mpr (by omega)), (by rw [e16118, ew16005] <;> exact (eq32 _ _).mpr (by omega))⟩⟩, _, rfl, by omega, by omega, by (try rw [e16115]; try rw [e16116]; try rw [ew16121]); omega⟩
              · refine WQ_iconst (1) (1) dX3_faultInParts_72 rfl rfl (fun v16140 hv16140 => ?_)
                obtain ⟨w16141, ew16141⟩ : ∃ w : Int32, I16090 (ad g 4) 3 = w := ⟨_, rfl⟩
                have bw16141 := BT_get hI16090.1 4 0 5 (0) (0) (1000) (by decide) 3 (by decide) (by decide)
                rw [ew16141] at bw16141
                exact WP_iret dX3_faultInParts_73 rfl ⟨⟨hI16090, rfl, ⟨trivial, (by rw [e16093, ew16004] <;> exact (eq32 _ _).mpr (by omega)), (by rw [e16094, ew16005] <;> exact (eq32 _ _).mpr (by omega))⟩⟩, _, rfl, by omega, by omega, by (try rw [e16092]; try rw [e16095]; try rw [ew16141]); omega⟩
            · refine WP_iload dX3_faultInParts_109 rfl ?_
              obtain ⟨w16142, ew16142⟩ : ∃ w : Int32, I16080 (ad g 4) 3 = w := ⟨_, rfl⟩
              have bw16142 := BT_get hI16080.1 4 0 5 (0) (0) (1000) (by decide) 3 (by decide) (by decide)
              rw [ew16142] at bw16142
              exact WP_iret dX3_faultInParts_111 rfl ⟨⟨hI16080, rfl, ⟨trivial, (by rw [e16084, ew16004] <;> exact (eq32 _ _).mpr (by omega)), (by rw [e16085, ew16005] <;> exact (eq32 _ _).mpr (by omega))⟩⟩, _, rfl, by omega, by omega, by (try rw [e16083]; try rw [ew16088]; try rw [ew16142]); omega⟩
          · refine WQ_iconst (1) (1) dX3_faultInParts_72 rfl rfl (fun v16143 hv16143 => ?_)
            obtain ⟨w16144, ew16144⟩ : ∃ w : Int32, I16059 (ad g 4) 2 = w := ⟨_, rfl⟩
            have bw16144 := BT_get hI16059.1 4 0 5 (0) (0) (1000) (by decide) 2 (by decide) (by decide)
            rw [ew16144] at bw16144
            obtain ⟨w16145, ew16145⟩ : ∃ w : Int32, I16059 (ad g 4) 3 = w := ⟨_, rfl⟩
            have bw16145 := BT_get hI16059.1 4 0 5 (0) (0) (1000) (by decide) 3 (by decide) (by decide)
            rw [ew16145] at bw16145
            exact WP_iret dX3_faultInParts_73 rfl ⟨⟨hI16059, rfl, ⟨trivial, (by rw [e16061, ew16004] <;> exact (eq32 _ _).mpr (by omega)), (by rw [e16062, ew16005] <;> exact (eq32 _ _).mpr (by omega))⟩⟩, _, rfl, by omega, by omega, by (try rw [e16063]; try rw [ew16144]; try rw [ew16145]); omega⟩
        · refine WP_iload dX3_faultInParts_109 rfl ?_
          obtain ⟨w16146, ew16146⟩ : ∃ w : Int32, I16050 (ad g 4) 2 = w := ⟨_, rfl⟩
          have bw16146 := BT_get hI16050.1 4 0 5 (0) (0) (1000) (by decide) 2 (by decide) (by decide)
          rw [ew16146] at bw16146
          obtain ⟨w16147, ew16147⟩ : ∃ w : Int32, I16050 (ad g 4) 3 = w := ⟨_, rfl⟩
          have bw16147 := BT_get hI16050.1 4 0 5 (0) (0) (1000) (by decide) 3 (by decide) (by decide)
          rw [ew16147] at bw16147
          exact WP_iret dX3_faultInParts_111 rfl ⟨⟨hI16050, rfl, ⟨trivial, (by rw [e16053, ew16004] <;> exact (eq32 _ _).mpr (by omega)), (by rw [e16054, ew16005] <;> exact (eq32 _ _).mpr (by omega))⟩⟩, _, rfl, by omega, by omega, by (try rw [ew16057]; try rw [ew16146]; try rw [ew16147]); omega⟩
      · refine WQ_iconst (1) (1) dX3_faultInParts_72 rfl rfl (fun v16148 hv16148 => ?_)
        obtain ⟨w16149, ew16149⟩ : ∃ w : Int32, I16030 (ad g 4) 1 = w := ⟨_, rfl⟩
        have bw16149 := BT_get hI16030.1 4 0 5 (0) (0) (1000) (by decide) 1 (by decide) (by decide)
        rw [ew16149] at bw16149
        obtain ⟨w16150, ew16150⟩ : ∃ w : Int32, I16030 (ad g 4) 2 = w := ⟨_, rfl⟩
        have bw16150 := BT_get hI16030.1 4 0 5 (0) (0) (1000) (by decide) 2 (by decide) (by decide)
        rw [ew16150] at bw16150
        obtain ⟨w16151, ew16151⟩ : ∃ w : Int32, I16030 (ad g 4) 3 = w := ⟨_, rfl⟩
        have bw16151 := BT_get hI16030.1 4 0 5 (0) (0) (1000) (by decide) 3 (by decide) (by decide)
        rw [ew16151] at bw16151
        exact WP_iret dX3_faultInParts_73 rfl ⟨⟨hI16030, rfl, ⟨trivial, (by rw [e16032, ew16004] <;> exact (eq32 _ _).mpr (by omega)), (by rw [e16033, ew16005] <;> exact (eq32 _ _).mpr (by omega))⟩⟩, _, rfl, by omega, by omega, by (try rw [ew16149]; try rw [ew16150]; try rw [ew16151]); omega⟩
    · refine WP_iload dX3_faultInParts_109 rfl ?_
      obtain ⟨w16152, ew16152⟩ : ∃ w : Int32, I16022 (ad g 4) 1 = w := ⟨_, rfl⟩
      have bw16152 := BT_get hI16022.1 4 0 5 (0) (0) (1000) (by decide) 1 (by decide) (by decide)
      rw [ew16152] at bw16152
      obtain ⟨w16153, ew16153⟩ : ∃ w : Int32, I16022 (ad g 4) 2 = w := ⟨_, rfl⟩
      have bw16153 := BT_get hI16022.1 4 0 5 (0) (0) (1000) (by decide) 2 (by decide) (by decide)
      rw [ew16153] at bw16153
      obtain ⟨w16154, ew16154⟩ : ∃ w : Int32, I16022 (ad g 4) 3 = w := ⟨_, rfl⟩
      have bw16154 := BT_get hI16022.1 4 0 5 (0) (0) (1000) (by decide) 3 (by decide) (by decide)
      rw [ew16154] at bw16154
      exact WP_iret dX3_faultInParts_111 rfl ⟨⟨hI16022, rfl, ⟨trivial, (by rw [e16025, ew16004] <;> exact (eq32 _ _).mpr (by omega)), (by rw [e16026, ew16005] <;> exact (eq32 _ _).mpr (by omega))⟩⟩, _, rfl, by omega, by omega, by (try rw [ew16152]; try rw [ew16153]; try rw [ew16154]); omega⟩
  · refine WQ_iconst (1) (1) dX3_faultInParts_72 rfl rfl (fun v16155 hv16155 => ?_)
    obtain ⟨w16156, ew16156⟩ : ∃ w : Int32, I (ad g 4) 1 = w := ⟨_, rfl⟩
    have bw16156 := BT_get hI.1 4 0 5 (0) (0) (1000) (by decide) 1 (by decide) (by decide)
    rw [ew16156] at bw16156
    obtain ⟨w16157, ew16157⟩ : ∃ w : Int32, I (ad g 4) 2 = w := ⟨_, rfl⟩
    have bw16157 := BT_get hI.1 4 0 5 (0) (0) (1000) (by decide) 2 (by decide) (by decide)
    rw [ew16157] at bw16157
    obtain ⟨w16158, ew16158⟩ : ∃ w : Int32, I (ad g 4) 3 = w := ⟨_, rfl⟩
    have bw16158 := BT_get hI.1 4 0 5 (0) (0) (1000) (by decide) 3 (by decide) (by decide)
    rw [ew16158] at bw16158
    exact WP_iret dX3_faultInParts_73 rfl ⟨⟨hI, rfl, ⟨trivial, rfl, rfl⟩⟩, _, rfl, by omega, by omega, by (try rw [ew16156]; try rw [ew16157]; try rw [ew16158]); omega⟩
set_option maxHeartbeats 4000000 in
set_option maxRecDepth 100000 in
theorem sx_parts_6_2 {g : GG} {n : Int} {L : Int32} (hy : LyX g) {aK aV : Nat → Nat} {fo : Option Nat} (hz : HZ g aK aV fo)  {I : pI} {J : pJ} {R : pR} (hr : RfX g R) (hI : XI g n L I) (cz : Int32) (cz_lo : 2 ≤ cz.toInt) (cz_hi : cz.toInt ≤ 2) (hb : (I (ad g 6) 2).toInt ≤ 2) : SP g mX3_faultInParts [.ref (ad g 3), .int cz, .ref (ad g 6)] I J R (fun r I' J' R' => (XI g n L I' ∧ R' = R ∧ True ∧ I' (ad g 6) 1 = I (ad g 6) 1 ∧ I' (ad g 6) 2 = I (ad g 6) 2) ∧ ∃ v : Int32, r = some (.int v) ∧ 0 ≤ v.toInt ∧ v.toInt ≤ 5 ∧ (v.toInt = 0 → (I' (ad g 4) 1).toInt ≤ 1000 ∧ (I' (ad g 4) 2).toInt ≤ 9)) := by
  refine SP_of ⟨by decide, rfl⟩ (Nat.le_of_ble_eq_true rfl) ?_
  have e16159 : I (ad g 1) 1 = L := hI.2
  have b16160 := BT_get hI.1 1 1 2 (0) (0) (900) (by decide) 1 (by decide) (by decide)
  rw [e16159] at b16160
  obtain ⟨w16161, ew16161⟩ : ∃ w : Int32, I (ad g 6) 1 = w := ⟨_, rfl⟩
  have bw16161 := BT_get hI.1 6 1 2 (0) (0) (4) (by decide) 1 (by decide) (by decide)
  rw [ew16161] at bw16161
  obtain ⟨w16162, ew16162⟩ : ∃ w : Int32, I (ad g 6) 2 = w := ⟨_, rfl⟩
  have bw16162 := BT_get hI.1 6 2 3 (0) (0) (3) (by decide) 2 (by decide) (by decide)
  rw [ew16162] at bw16162
  rw [ew16162] at hb
  refine WP_iload_n dX3_faultInParts_0 rfl ?_
  refine WP_callS1 dX3_faultInParts_1 ⟨⟨⟨by decide, by decide⟩, zX3_shapeOf⟩, lX3_84, tX3_shapeOf⟩ (sx_shapeOf hy hz hr hI cz (by omega) (by omega)) (Nat.le_of_ble_eq_true rfl) ?_
  intro r Ia Ja Ra hq
  obtain ⟨⟨ea, eb, ec⟩, rfl⟩ := hq
  show WP _ _ _ _ (.ref _ :: _) _ _ _ _
  rw [show 10 + cz.toInt.toNat = 12 by omega]
  rw [ea, eb, ec]
  clear ea eb ec Ia Ja Ra
  refine WP_astore_n (ls' := [(0, _), (1, _), (2, _), (3, _)]) dX3_faultInParts_4 (by decide) rfl ?_
  refine WQ_iconst (0) (0) dX3_faultInParts_5 rfl rfl (fun v16163 hv16163 => ?_)
  refine WP_istore (ls' := [(0, _), (1, _), (2, _), (3, _), (4, _)]) dX3_faultInParts_6 (by decide) rfl ?_
  refine WP_iload dX3_faultInParts_8 rfl ?_
  refine WP_aload_n dX3_faultInParts_10 rfl ?_
  refine WS_call hz (i := 12) (by omega) dX3_faultInParts_11 ⟨⟨by decide, by decide⟩, zJ0_length_8abf5⟩ lX3_87 vJ0_length_8abf5 (As := []) (rest := [.int v16163]) (j_length hz (i := 12) (by omega)) rfl rfl (Nat.le_of_ble_eq_true rfl) ?_
  intro r Ia Ja Ra hq
  obtain ⟨⟨ea, eb, ec⟩, v16164, rfl, cv16164⟩ := hq
  show WP _ _ _ _ (.int _ :: _) _ _ _ _
  rw [ea, eb, ec]
  clear ea eb ec Ia Ja Ra
  have hv16164 : v16164.toInt = 3 := cv16164.trans rfl
  refine WQ_icmp_ge 125 dX3_faultInParts_14 rfl (fun c16164 => False.elim (by omega)) (fun c16164 => ?_)
  refine WP_iload dX3_faultInParts_17 rfl ?_
  refine WQ_iconst (5) (5) dX3_faultInParts_19 rfl rfl (fun v16166 hv16166 => ?_)
  refine WQ_icmp_ge 125 dX3_faultInParts_20 rfl (fun c16166 => False.elim (by omega)) (fun c16166 => ?_)
  refine WP_aload_n dX3_faultInParts_23 rfl ?_
  refine WP_iload dX3_faultInParts_24 rfl ?_
  refine WS_call hz (i := 12) (by omega) dX3_faultInParts_26 ⟨⟨by decide, by decide⟩, zJ0_charAt_5068e⟩ lX3_92 vJ0_charAt_5068e (As := [.int v16163]) (rest := []) (j_charAt hz (i := 12) (k := v16163) (by omega) (by omega) (by have z9 : ((liN.getD 12 0 : Nat) : Int) = 3 := rfl; omega)) rfl rfl (Nat.le_of_ble_eq_true rfl) ?_
  intro r Ia Ja Ra hq
  obtain ⟨⟨ea, eb, ec⟩, v16168, rfl, cv16168⟩ := hq
  show WP _ _ _ _ (.int _ :: _) _ _ _ _
  rw [ea, eb, ec]
  clear ea eb ec Ia Ja Ra
  have hv16168 : v16168.toInt = 109 := cv16168.trans (by rw [show v16163.toInt.toNat = 0 by omega]; rfl)
  refine WP_istore (ls' := [(0, _), (1, _), (2, _), (3, _), (4, _), (5, _)]) dX3_faultInParts_29 (by decide) rfl ?_
  refine WP_iload dX3_faultInParts_31 rfl ?_
  refine WQ_bipush (97) (97) dX3_faultInParts_33 rfl rfl (fun v16169 hv16169 => ?_)
  refine WQ_icmp_lt 49 dX3_faultInParts_35 rfl (fun c16169 => False.elim (by omega)) (fun c16169 => ?_)
  refine WP_iload dX3_faultInParts_38 rfl ?_
  refine WQ_bipush (122) (122) dX3_faultInParts_40 rfl rfl (fun v16171 hv16171 => ?_)
  refine WQ_icmp_gt 49 dX3_faultInParts_42 rfl (fun c16171 => False.elim (by omega)) (fun c16171 => ?_)
  refine WQ_iconst (1) (1) dX3_faultInParts_45 rfl rfl (fun v16173 hv16173 => ?_)
  refine WP_goto 50 dX3_faultInParts_46 rfl ?_
  refine WP_istore (ls' := [(0, _), (1, _), (2, _), (3, _), (4, _), (5, _), (6, _)]) dX3_faultInParts_50 (by decide) rfl ?_
  refine WP_aload_n dX3_faultInParts_52 rfl ?_
  refine WP_getr dX3_faultInParts_53 fX3_15 rfl (lyx_is hy 3 3 rfl) (rfx hr 3 2 1 (by decide)) ?_
  refine WQ_geti dX3_faultInParts_56 fX3_43 rfl (lyx_is hy 1 5 rfl) (BT_get hI.1 1 2 3 (0) (0) (4) (by decide) 2 (by decide) (by decide)) (fun v16174 ev16174 av16174 bv16174 => ?_)
  refine WP_iload dX3_faultInParts_59 rfl ?_
  refine WQ_if_eq 68 dX3_faultInParts_61 rfl (fun c16174 => False.elim (by omega)) (fun c16174 => ?_)
  refine WQ_iconst (1) (1) dX3_faultInParts_64 rfl rfl (fun v16176 hv16176 => ?_)
  refine WP_goto 69 dX3_faultInParts_65 rfl ?_
  refine WQ_icmp_eq 74 dX3_faultInParts_69 rfl (fun c16176 => ?_) (fun c16176 => ?_)
  · refine WP_iload dX3_faultInParts_74 rfl ?_
    refine WQ_if_eq 92 dX3_faultInParts_76 rfl (fun c16177 => False.elim (by omega)) (fun c16177 => ?_)
    refine WP_aload_n dX3_faultInParts_79 rfl ?_
    refine WP_iload dX3_faultInParts_80 rfl ?_
    refine WP_iload_n dX3_faultInParts_82 rfl ?_
    refine WP_iload dX3_faultInParts_83 rfl ?_
    refine WP_aload_n dX3_faultInParts_85 rfl ?_
    refine WP_callV4 (k := 3) dX3_faultInParts_86 ⟨⟨⟨by decide, by decide⟩, zX3_faultOfName⟩, lX3_96, by decide, rfl, vX3_faultOfName.1, vX3_faultOfName.2⟩ (lyx_is hy 3 3 rfl) (sx_part_6_2_0 hy hr hI v16168 cz v16163 (by omega) (by omega) (by omega) (by omega) (by omega) (by omega) (by rw [ew16162]; omega)) (Nat.le_of_ble_eq_true rfl) ?_
    intro r I16179 J16180 Ra hq
    obtain ⟨⟨hI16179, ec, ⟨pI16179, sI16179_6_1, sI16179_6_2⟩⟩, v16181, rfl, av16181, bv16181⟩ := hq
    show WP _ _ _ _ (.int _ :: _) _ _ _ _
    rw [ec]
    clear ec Ra
    have e16182 : I16179 (ad g 6) 1 = w16161 := by rw [sI16179_6_1]; exact ew16161
    have e16183 : I16179 (ad g 6) 2 = w16162 := by rw [sI16179_6_2]; exact ew16162
    have e16184 : I16179 (ad g 1) 1 = L := hI16179.2
    have b16185 := BT_get hI16179.1 1 1 2 (0) (0) (900) (by decide) 1 (by decide) (by decide)
    rw [e16184] at b16185
    refine WP_goto 102 dX3_faultInParts_89 rfl ?_
    refine WP_istore (ls' := [(0, _), (1, _), (2, _), (3, _), (4, _), (5, _), (6, _), (7, _)]) dX3_faultInParts_102 (by decide) rfl ?_
    refine WP_iload dX3_faultInParts_104 rfl ?_
    refine WQ_if_eq 112 dX3_faultInParts_106 rfl (fun c16185 => ?_) (fun c16185 => ?_)
    · refine WP_aload_n dX3_faultInParts_112 rfl ?_
      refine WP_getr dX3_faultInParts_113 fX3_15 rfl (lyx_is hy 3 3 rfl) (rfx hr 3 2 1 (by decide)) ?_
      refine WP_callV0 (k := 5) dX3_faultInParts_116 ⟨⟨⟨by decide, by decide⟩, zX5_next⟩, lX3_40, by decide, rfl, vX5_next.1, vX5_next.2⟩ (lyx_is hy 1 5 rfl) (sx_nextf hy hr hI16179  ) (Nat.le_of_ble_eq_true rfl) ?_
      intro r I16187 J16188 Ra hq
      obtain ⟨⟨hI16187, ec, fiI16187⟩, rfl⟩ := hq
      rw [ec]
      clear ec Ra
      have e16189 : I16187 (ad g 6) 1 = w16161 := by rw [fz_at fiI16187 6 (by decide) (by decide)]; exact e16182
      have e16190 : I16187 (ad g 6) 2 = w16162 := by rw [fz_at fiI16187 6 (by decide) (by decide)]; exact e16183
      have e16191 : I16187 (ad g 1) 1 = L := hI16187.2
      have b16192 := BT_get hI16187.1 1 1 2 (0) (0) (900) (by decide) 1 (by decide) (by decide)
      rw [e16191] at b16192
      refine WP_iinc (ls' := [(0, _), (1, _), (2, _), (3, _), (4, _), (5, _), (6, _), (7, _)]) dX3_faultInParts_119 rfl (by decide) rfl ?_
      have hv16193 : (v16163 + Int32.ofInt (1)).toInt = v16163.toInt + (1) := ia_n rfl (by omega) (by omega)
      generalize v16163 + Int32.ofInt (1) = v16193 at hv16193 ⊢
      refine WP_goto 8 dX3_faultInParts_122 rfl ?_
      refine WP_iload dX3_faultInParts_8 rfl ?_
      refine WP_aload_n dX3_faultInParts_10 rfl ?_
      refine WS_call hz (i := 12) (by omega) dX3_faultInParts_11 ⟨⟨by decide, by decide⟩, zJ0_length_8abf5⟩ lX3_87 vJ0_length_8abf5 (As := []) (rest := [.int v16193]) (j_length hz (i := 12) (by omega)) rfl rfl (Nat.le_of_ble_eq_true rfl) ?_
      intro r Ia Ja Ra hq
      obtain ⟨⟨ea, eb, ec⟩, v16194, rfl, cv16194⟩ := hq
      show WP _ _ _ _ (.int _ :: _) _ _ _ _
      rw [ea, eb, ec]
      clear ea eb ec Ia Ja Ra
      have hv16194 : v16194.toInt = 3 := cv16194.trans rfl
      refine WQ_icmp_ge 125 dX3_faultInParts_14 rfl (fun c16194 => False.elim (by omega)) (fun c16194 => ?_)
      refine WP_iload dX3_faultInParts_17 rfl ?_
      refine WQ_iconst (5) (5) dX3_faultInParts_19 rfl rfl (fun v16196 hv16196 => ?_)
      refine WQ_icmp_ge 125 dX3_faultInParts_20 rfl (fun c16196 => False.elim (by omega)) (fun c16196 => ?_)
      refine WP_aload_n dX3_faultInParts_23 rfl ?_
      refine WP_iload dX3_faultInParts_24 rfl ?_
      refine WS_call hz (i := 12) (by omega) dX3_faultInParts_26 ⟨⟨by decide, by decide⟩, zJ0_charAt_5068e⟩ lX3_92 vJ0_charAt_5068e (As := [.int v16193]) (rest := []) (j_charAt hz (i := 12) (k := v16193) (by omega) (by omega) (by have z9 : ((liN.getD 12 0 : Nat) : Int) = 3 := rfl; omega)) rfl rfl (Nat.le_of_ble_eq_true rfl) ?_
      intro r Ia Ja Ra hq
      obtain ⟨⟨ea, eb, ec⟩, v16198, rfl, cv16198⟩ := hq
      show WP _ _ _ _ (.int _ :: _) _ _ _ _
      rw [ea, eb, ec]
      clear ea eb ec Ia Ja Ra
      have hv16198 : v16198.toInt = 72 := cv16198.trans (by rw [show v16193.toInt.toNat = 1 by omega]; rfl)
      refine WP_istore (ls' := [(0, _), (1, _), (2, _), (3, _), (4, _), (5, _), (6, _), (7, _)]) dX3_faultInParts_29 (by decide) rfl ?_
      refine WP_iload dX3_faultInParts_31 rfl ?_
      refine WQ_bipush (97) (97) dX3_faultInParts_33 rfl rfl (fun v16199 hv16199 => ?_)
      refine WQ_icmp_lt 49 dX3_faultInParts_35 rfl (fun c16199 => ?_) (fun c16199 => False.elim (by omega))
      refine WQ_iconst (0) (0) dX3_faultInParts_49 rfl rfl (fun v16201 hv16201 => ?_)
      refine WP_istore (ls' := [(0, _), (1, _), (2, _), (3, _), (4, _), (5, _), (6, _), (7, _)]) dX3_faultInParts_50 (by decide) rfl ?_
      refine WP_aload_n dX3_faultInParts_52 rfl ?_
      refine WP_getr dX3_faultInParts_53 fX3_15 rfl (lyx_is hy 3 3 rfl) (rfx hr 3 2 1 (by decide)) ?_
      refine WQ_geti dX3_faultInParts_56 fX3_43 rfl (lyx_is hy 1 5 rfl) (BT_get hI16187.1 1 2 3 (0) (0) (4) (by decide) 2 (by decide) (by decide)) (fun v16202 ev16202 av16202 bv16202 => ?_)
      refine WP_iload dX3_faultInParts_59 rfl ?_
      refine WQ_if_eq 68 dX3_faultInParts_61 rfl (fun c16202 => ?_) (fun c16202 => False.elim (by omega))
      refine WQ_iconst (2) (2) dX3_faultInParts_68 rfl rfl (fun v16204 hv16204 => ?_)
      refine WQ_icmp_eq 74 dX3_faultInParts_69 rfl (fun c16204 => ?_) (fun c16204 => ?_)
      · refine WP_iload dX3_faultInParts_74 rfl ?_
        refine WQ_if_eq 92 dX3_faultInParts_76 rfl (fun c16205 => ?_) (fun c16205 => False.elim (by omega))
        refine WP_aload_n dX3_faultInParts_92 rfl ?_
        refine WP_iload dX3_faultInParts_93 rfl ?_
        refine WP_iload_n dX3_faultInParts_95 rfl ?_
        refine WP_iload dX3_faultInParts_96 rfl ?_
        refine WP_aload_n dX3_faultInParts_98 rfl ?_
        refine WP_callV4 (k := 3) dX3_faultInParts_99 ⟨⟨⟨by decide, by decide⟩, zX3_faultOfNumber⟩, lX3_100, by decide, rfl, vX3_faultOfNumber.1, vX3_faultOfNumber.2⟩ (lyx_is hy 3 3 rfl) (sx_part_6_2_1 hy hr hI16187 v16198 cz v16193 (by omega) (by omega) (by omega) (by omega) (by omega) (by omega)) (Nat.le_of_ble_eq_true rfl) ?_
        intro r I16207 J16208 Ra hq
        obtain ⟨⟨hI16207, ec, ⟨pI16207, sI16207_4_0, sI16207_6_1, sI16207_6_2⟩⟩, v16209, rfl, av16209, bv16209, cv16209⟩ := hq
        show WP _ _ _ _ (.int _ :: _) _ _ _ _
        rw [ec]
        clear ec Ra
        have e16210 : I16207 (ad g 6) 1 = w16161 := by rw [sI16207_6_1]; exact e16189
        have e16211 : I16207 (ad g 6) 2 = w16162 := by rw [sI16207_6_2]; exact e16190
        have e16212 : I16207 (ad g 1) 1 = L := hI16207.2
        have b16213 := BT_get hI16207.1 1 1 2 (0) (0) (900) (by decide) 1 (by decide) (by decide)
        rw [e16212] at b16213
        obtain ⟨w16214, ew16214⟩ : ∃ w : Int32, I16207 (ad g 4) 1 = w := ⟨_, rfl⟩
        have bw16214 := BT_get hI16207.1 4 0 5 (0) (0) (1000) (by decide) 1 (by decide) (by decide)
        rw [ew16214] at bw16214
        rw [ew16214] at cv16209
        refine WP_istore (ls' := [(0, _), (1, _), (2, _), (3, _), (4, _), (5, _), (6, _), (7, _)]) dX3_faultInParts_102 (by decide) rfl ?_
        refine WP_iload dX3_faultInParts_104 rfl ?_
        refine WQ_if_eq 112 dX3_faultInParts_106 rfl (fun c16214 => ?_) (fun c16214 => ?_)
        · refine WP_aload_n dX3_faultInParts_112 rfl ?_
          refine WP_getr dX3_faultInParts_113 fX3_15 rfl (lyx_is hy 3 3 rfl) (rfx hr 3 2 1 (by decide)) ?_
          refine WP_callV0 (k := 5) dX3_faultInParts_116 ⟨⟨⟨by decide, by decide⟩, zX5_next⟩, lX3_40, by decide, rfl, vX5_next.1, vX5_next.2⟩ (lyx_is hy 1 5 rfl) (sx_nextf hy hr hI16207  ) (Nat.le_of_ble_eq_true rfl) ?_
          intro r I16216 J16217 Ra hq
          obtain ⟨⟨hI16216, ec, fiI16216⟩, rfl⟩ := hq
          rw [ec]
          clear ec Ra
          have e16218 : I16216 (ad g 6) 1 = w16161 := by rw [fz_at fiI16216 6 (by decide) (by decide)]; exact e16210
          have e16219 : I16216 (ad g 6) 2 = w16162 := by rw [fz_at fiI16216 6 (by decide) (by decide)]; exact e16211
          have e16220 : I16216 (ad g 4) 1 = w16214 := by rw [fz_at fiI16216 4 (by decide) (by decide)]; exact ew16214
          have e16221 : I16216 (ad g 1) 1 = L := hI16216.2
          have b16222 := BT_get hI16216.1 1 1 2 (0) (0) (900) (by decide) 1 (by decide) (by decide)
          rw [e16221] at b16222
          refine WP_iinc (ls' := [(0, _), (1, _), (2, _), (3, _), (4, _), (5, _), (6, _), (7, _)]) dX3_faultInParts_119 rfl (by decide) rfl ?_
          have hv16223 : (v16193 + Int32.ofInt (1)).toInt = v16193.toInt + (1) := ia_n rfl (by omega) (by omega)
          generalize v16193 + Int32.ofInt (1) = v16223 at hv16223 ⊢
          refine WP_goto 8 dX3_faultInParts_122 rfl ?_
          refine WP_iload dX3_faultInParts_8 rfl ?_
          refine WP_aload_n dX3_faultInParts_10 rfl ?_
          refine WS_call hz (i := 12) (by omega) dX3_faultInParts_11 ⟨⟨by decide, by decide⟩, zJ0_length_8abf5⟩ lX3_87 vJ0_length_8abf5 (As := []) (rest := [.int v16223]) (j_length hz (i := 12) (by omega)) rfl rfl (Nat.le_of_ble_eq_true rfl) ?_
          intro r Ia Ja Ra hq
          obtain ⟨⟨ea, eb, ec⟩, v16224, rfl, cv16224⟩ := hq
          show WP _ _ _ _ (.int _ :: _) _ _ _ _
          rw [ea, eb, ec]
          clear ea eb ec Ia Ja Ra
          have hv16224 : v16224.toInt = 3 := cv16224.trans rfl
          refine WQ_icmp_ge 125 dX3_faultInParts_14 rfl (fun c16224 => False.elim (by omega)) (fun c16224 => ?_)
          refine WP_iload dX3_faultInParts_17 rfl ?_
          refine WQ_iconst (5) (5) dX3_faultInParts_19 rfl rfl (fun v16226 hv16226 => ?_)
          refine WQ_icmp_ge 125 dX3_faultInParts_20 rfl (fun c16226 => False.elim (by omega)) (fun c16226 => ?_)
          refine WP_aload_n dX3_faultInParts_23 rfl ?_
          refine WP_iload dX3_faultInParts_24 rfl ?_
          refine WS_call hz (i := 12) (by omega) dX3_faultInParts_26 ⟨⟨by decide, by decide⟩, zJ0_charAt_5068e⟩ lX3_92 vJ0_charAt_5068e (As := [.int v16223]) (rest := []) (j_charAt hz (i := 12) (k := v16223) (by omega) (by omega) (by have z9 : ((liN.getD 12 0 : Nat) : Int) = 3 := rfl; omega)) rfl rfl (Nat.le_of_ble_eq_true rfl) ?_
          intro r Ia Ja Ra hq
          obtain ⟨⟨ea, eb, ec⟩, v16228, rfl, cv16228⟩ := hq
          show WP _ _ _ _ (.int _ :: _) _ _ _ _
          rw [ea, eb, ec]
          clear ea eb ec Ia Ja Ra
          have hv16228 : v16228.toInt = 71 := cv16228.trans (by rw [show v16223.toInt.toNat = 2 by omega]; rfl)
          refine WP_istore (ls' := [(0, _), (1, _), (2, _), (3, _), (4, _), (5, _), (6, _), (7, _)]) dX3_faultInParts_29 (by decide) rfl ?_
          refine WP_iload dX3_faultInParts_31 rfl ?_
          refine WQ_bipush (97) (97) dX3_faultInParts_33 rfl rfl (fun v16229 hv16229 => ?_)
          refine WQ_icmp_lt 49 dX3_faultInParts_35 rfl (fun c16229 => ?_) (fun c16229 => False.elim (by omega))
          refine WQ_iconst (0) (0) dX3_faultInParts_49 rfl rfl (fun v16231 hv16231 => ?_)
          refine WP_istore (ls' := [(0, _), (1, _), (2, _), (3, _), (4, _), (5, _), (6, _), (7, _)]) dX3_faultInParts_50 (by decide) rfl ?_
          refine WP_aload_n dX3_faultInParts_52 rfl ?_
          refine WP_getr dX3_faultInParts_53 fX3_15 rfl (lyx_is hy 3 3 rfl) (rfx hr 3 2 1 (by decide)) ?_
          refine WQ_geti dX3_faultInParts_56 fX3_43 rfl (lyx_is hy 1 5 rfl) (BT_get hI16216.1 1 2 3 (0) (0) (4) (by decide) 2 (by decide) (by decide)) (fun v16232 ev16232 av16232 bv16232 => ?_)
          refine WP_iload dX3_faultInParts_59 rfl ?_
          refine WQ_if_eq 68 dX3_faultInParts_61 rfl (fun c16232 => ?_) (fun c16232 => False.elim (by omega))
          refine WQ_iconst (2) (2) dX3_faultInParts_68 rfl rfl (fun v16234 hv16234 => ?_)
          refine WQ_icmp_eq 74 dX3_faultInParts_69 rfl (fun c16234 => ?_) (fun c16234 => ?_)
          · refine WP_iload dX3_faultInParts_74 rfl ?_
            refine WQ_if_eq 92 dX3_faultInParts_76 rfl (fun c16235 => ?_) (fun c16235 => False.elim (by omega))
            refine WP_aload_n dX3_faultInParts_92 rfl ?_
            refine WP_iload dX3_faultInParts_93 rfl ?_
            refine WP_iload_n dX3_faultInParts_95 rfl ?_
            refine WP_iload dX3_faultInParts_96 rfl ?_
            refine WP_aload_n dX3_faultInParts_98 rfl ?_
            refine WP_callV4 (k := 3) dX3_faultInParts_99 ⟨⟨⟨by decide, by decide⟩, zX3_faultOfNumber⟩, lX3_100, by decide, rfl, vX3_faultOfNumber.1, vX3_faultOfNumber.2⟩ (lyx_is hy 3 3 rfl) (sx_part_6_2_2 hy hr hI16216 v16228 cz v16223 (by omega) (by omega) (by omega) (by omega) (by omega) (by omega)) (Nat.le_of_ble_eq_true rfl) ?_
            intro r I16237 J16238 Ra hq
            obtain ⟨⟨hI16237, ec, ⟨pI16237, sI16237_4_0, sI16237_4_1, sI16237_6_1, sI16237_6_2⟩⟩, v16239, rfl, av16239, bv16239, cv16239⟩ := hq
            show WP _ _ _ _ (.int _ :: _) _ _ _ _
            rw [ec]
            clear ec Ra
            have e16240 : I16237 (ad g 4) 1 = w16214 := by rw [sI16237_4_1]; exact e16220
            have e16241 : I16237 (ad g 6) 1 = w16161 := by rw [sI16237_6_1]; exact e16218
            have e16242 : I16237 (ad g 6) 2 = w16162 := by rw [sI16237_6_2]; exact e16219
            have e16243 : I16237 (ad g 1) 1 = L := hI16237.2
            have b16244 := BT_get hI16237.1 1 1 2 (0) (0) (900) (by decide) 1 (by decide) (by decide)
            rw [e16243] at b16244
            obtain ⟨w16245, ew16245⟩ : ∃ w : Int32, I16237 (ad g 4) 2 = w := ⟨_, rfl⟩
            have bw16245 := BT_get hI16237.1 4 0 5 (0) (0) (1000) (by decide) 2 (by decide) (by decide)
            rw [ew16245] at bw16245
            rw [ew16245] at cv16239
            refine WP_istore (ls' := [(0, _), (1, _), (2, _), (3, _), (4, _), (5, _), (6, _), (7, _)]) dX3_faultInParts_102 (by decide) rfl ?_
            refine WP_iload dX3_faultInParts_104 rfl ?_
            refine WQ_if_eq 112 dX3_faultInParts_106 rfl (fun c16245 => ?_) (fun c16245 => ?_)
            · refine WP_aload_n dX3_faultInParts_112 rfl ?_
              refine WP_getr dX3_faultInParts_113 fX3_15 rfl (lyx_is hy 3 3 rfl) (rfx hr 3 2 1 (by decide)) ?_
              refine WP_callV0 (k := 5) dX3_faultInParts_116 ⟨⟨⟨by decide, by decide⟩, zX5_next⟩, lX3_40, by decide, rfl, vX5_next.1, vX5_next.2⟩ (lyx_is hy 1 5 rfl) (sx_nextf hy hr hI16237  ) (Nat.le_of_ble_eq_true rfl) ?_
              intro r I16247 J16248 Ra hq
              obtain ⟨⟨hI16247, ec, fiI16247⟩, rfl⟩ := hq
              rw [ec]
              clear ec Ra
              have e16249 : I16247 (ad g 4) 1 = w16214 := by rw [fz_at fiI16247 4 (by decide) (by decide)]; exact e16240
              have e16250 : I16247 (ad g 6) 1 = w16161 := by rw [fz_at fiI16247 6 (by decide) (by decide)]; exact e16241
              have e16251 : I16247 (ad g 6) 2 = w16162 := by rw [fz_at fiI16247 6 (by decide) (by decide)]; exact e16242
              have e16252 : I16247 (ad g 4) 2 = w16245 := by rw [fz_at fiI16247 4 (by decide) (by decide)]; exact ew16245
              have e16253 : I16247 (ad g 1) 1 = L := hI16247.2
              have b16254 := BT_get hI16247.1 1 1 2 (0) (0) (900) (by decide) 1 (by decide) (by decide)
              rw [e16253] at b16254
              refine WP_iinc (ls' := [(0, _), (1, _), (2, _), (3, _), (4, _), (5, _), (6, _), (7, _)]) dX3_faultInParts_119 rfl (by decide) rfl ?_
              have hv16255 : (v16223 + Int32.ofInt (1)).toInt = v16223.toInt + (1) := ia_n rfl (by omega) (by omega)
              generalize v16223 + Int32.ofInt (1) = v16255 at hv16255 ⊢
              refine WP_goto 8 dX3_faultInParts_122 rfl ?_
              refine WP_iload dX3_faultInParts_8 rfl ?_
              refine WP_aload_n dX3_faultInParts_10 rfl ?_
              refine WS_call hz (i := 12) (by omega) dX3_faultInParts_11 ⟨⟨by decide, by decide⟩, zJ0_length_8abf5⟩ lX3_87 vJ0_length_8abf5 (As := []) (rest := [.int v16255]) (j_length hz (i := 12) (by omega)) rfl rfl (Nat.le_of_ble_eq_true rfl) ?_
              intro r Ia Ja Ra hq
              obtain ⟨⟨ea, eb, ec⟩, v16256, rfl, cv16256⟩ := hq
              show WP _ _ _ _ (.int _ :: _) _ _ _ _
              rw [ea, eb, ec]
              clear ea eb ec Ia Ja Ra
              have hv16256 : v16256.toInt = 3 := cv16256.trans rfl
              refine WQ_icmp_ge 125 dX3_faultInParts_14 rfl (fun c16256 => ?_) (fun c16256 => False.elim (by omega))
              refine WP_aload_n dX3_faultInParts_125 rfl ?_
              refine WP_getr dX3_faultInParts_126 fX3_15 rfl (lyx_is hy 3 3 rfl) (rfx hr 3 2 1 (by decide)) ?_
              refine WQ_geti dX3_faultInParts_129 fX3_43 rfl (lyx_is hy 1 5 rfl) (BT_get hI16247.1 1 2 3 (0) (0) (4) (by decide) 2 (by decide) (by decide)) (fun v16258 ev16258 av16258 bv16258 => ?_)
              refine WQ_iconst (3) (3) dX3_faultInParts_132 rfl rfl (fun v16259 hv16259 => ?_)
              refine WQ_icmp_ne 140 dX3_faultInParts_133 rfl (fun c16259 => ?_) (fun c16259 => ?_)
              · refine WQ_iconst (1) (1) dX3_faultInParts_140 rfl rfl (fun v16261 hv16261 => ?_)
                exact WP_iret dX3_faultInParts_141 rfl ⟨⟨hI16247, rfl, ⟨trivial, (by rw [e16250, ew16161] <;> exact (eq32 _ _).mpr (by omega)), (by rw [e16251, ew16162] <;> exact (eq32 _ _).mpr (by omega))⟩⟩, _, rfl, by omega, by omega, by (try rw [e16249]; try rw [e16252]); omega⟩
              · refine WQ_iconst (0) (0) dX3_faultInParts_136 rfl rfl (fun v16262 hv16262 => ?_)
                refine WP_goto 141 dX3_faultInParts_137 rfl ?_
                exact WP_iret dX3_faultInParts_141 rfl ⟨⟨hI16247, rfl, ⟨trivial, (by rw [e16250, ew16161] <;> exact (eq32 _ _).mpr (by omega)), (by rw [e16251, ew16162] <;> exact (eq32 _ _).mpr (by omega))⟩⟩, _, rfl, by omega, by omega, by (try rw [e16249]; try rw [e16252]); omega⟩
            · refine WP_iload dX3_faultInParts_109 rfl ?_
              exact WP_iret dX3_faultInParts_111 rfl ⟨⟨hI16237, rfl, ⟨trivial, (by rw [e16241, ew16161] <;> exact (eq32 _ _).mpr (by omega)), (by rw [e16242, ew16162] <;> exact (eq32 _ _).mpr (by omega))⟩⟩, _, rfl, by omega, by omega, by (try rw [e16240]; try rw [ew16245]); omega⟩
          · refine WQ_iconst (1) (1) dX3_faultInParts_72 rfl rfl (fun v16263 hv16263 => ?_)
            obtain ⟨w16264, ew16264⟩ : ∃ w : Int32, I16216 (ad g 4) 2 = w := ⟨_, rfl⟩
            have bw16264 := BT_get hI16216.1 4 0 5 (0) (0) (1000) (by decide) 2 (by decide) (by decide)
            rw [ew16264] at bw16264
            exact WP_iret dX3_faultInParts_73 rfl ⟨⟨hI16216, rfl, ⟨trivial, (by rw [e16218, ew16161] <;> exact (eq32 _ _).mpr (by omega)), (by rw [e16219, ew16162] <;> exact (eq32 _ _).mpr (by omega))⟩⟩, _, rfl, by omega, by omega, by (try rw [e16220]; try rw [ew16264]); omega⟩
        · refine WP_iload dX3_faultInParts_109 rfl ?_
          obtain ⟨w16265, ew16265⟩ : ∃ w : Int32, I16207 (ad g 4) 2 = w := ⟨_, rfl⟩
          have bw16265 := BT_get hI16207.1 4 0 5 (0) (0) (1000) (by decide) 2 (by decide) (by decide)
          rw [ew16265] at bw16265
          exact WP_iret dX3_faultInParts_111 rfl ⟨⟨hI16207, rfl, ⟨trivial, (by rw [e16210, ew16161] <;> exact (eq32 _ _).mpr (by omega)), (by rw [e16211, ew16162] <;> exact (eq32 _ _).mpr (by omega))⟩⟩, _, rfl, by omega, by omega, by (try rw [ew16214]; try rw [ew16265]); omega⟩
      · refine WQ_iconst (1) (1) dX3_faultInParts_72 rfl rfl (fun v16266 hv16266 => ?_)
        obtain ⟨w16267, ew16267⟩ : ∃ w : Int32, I16187 (ad g 4) 1 = w := ⟨_, rfl⟩
        have bw16267 := BT_get hI16187.1 4 0 5 (0) (0) (1000) (by decide) 1 (by decide) (by decide)
        rw [ew16267] at bw16267
        obtain ⟨w16268, ew16268⟩ : ∃ w : Int32, I16187 (ad g 4) 2 = w := ⟨_, rfl⟩
        have bw16268 := BT_get hI16187.1 4 0 5 (0) (0) (1000) (by decide) 2 (by decide) (by decide)
        rw [ew16268] at bw16268
        exact WP_iret dX3_faultInParts_73 rfl ⟨⟨hI16187, rfl, ⟨trivial, (by rw [e16189, ew16161] <;> exact (eq32 _ _).mpr (by omega)), (by rw [e16190, ew16162] <;> exact (eq32 _ _).mpr (by omega))⟩⟩, _, rfl, by omega, by omega, by (try rw [ew16267]; try rw [ew16268]); omega⟩
    · refine WP_iload dX3_faultInParts_109 rfl ?_
      obtain ⟨w16269, ew16269⟩ : ∃ w : Int32, I16179 (ad g 4) 1 = w := ⟨_, rfl⟩
      have bw16269 := BT_get hI16179.1 4 0 5 (0) (0) (1000) (by decide) 1 (by decide) (by decide)
      rw [ew16269] at bw16269
      obtain ⟨w16270, ew16270⟩ : ∃ w : Int32, I16179 (ad g 4) 2 = w := ⟨_, rfl⟩
      have bw16270 := BT_get hI16179.1 4 0 5 (0) (0) (1000) (by decide) 2 (by decide) (by decide)
      rw [ew16270] at bw16270
      exact WP_iret dX3_faultInParts_111 rfl ⟨⟨hI16179, rfl, ⟨trivial, (by rw [e16182, ew16161] <;> exact (eq32 _ _).mpr (by omega)), (by rw [e16183, ew16162] <;> exact (eq32 _ _).mpr (by omega))⟩⟩, _, rfl, by omega, by omega, by (try rw [ew16269]; try rw [ew16270]); omega⟩
  · refine WQ_iconst (1) (1) dX3_faultInParts_72 rfl rfl (fun v16271 hv16271 => ?_)
    obtain ⟨w16272, ew16272⟩ : ∃ w : Int32, I (ad g 4) 1 = w := ⟨_, rfl⟩
    have bw16272 := BT_get hI.1 4 0 5 (0) (0) (1000) (by decide) 1 (by decide) (by decide)
    rw [ew16272] at bw16272
    obtain ⟨w16273, ew16273⟩ : ∃ w : Int32, I (ad g 4) 2 = w := ⟨_, rfl⟩
    have bw16273 := BT_get hI.1 4 0 5 (0) (0) (1000) (by decide) 2 (by decide) (by decide)
    rw [ew16273] at bw16273
    exact WP_iret dX3_faultInParts_73 rfl ⟨⟨hI, rfl, ⟨trivial, rfl, rfl⟩⟩, _, rfl, by omega, by omega, by (try rw [ew16272]; try rw [ew16273]); omega⟩
set_option maxHeartbeats 4000000 in
set_option maxRecDepth 100000 in
theorem sx_parts_6_3 {g : GG} {n : Int} {L : Int32} (hy : LyX g) {aK aV : Nat → Nat} {fo : Option Nat} (hz : HZ g aK aV fo)  {I : pI} {J : pJ} {R : pR} (hr : RfX g R) (hI : XI g n L I) (cz : Int32) (cz_lo : 3 ≤ cz.toInt) (cz_hi : cz.toInt ≤ 3) : SP g mX3_faultInParts [.ref (ad g 3), .int cz, .ref (ad g 6)] I J R (fun r I' J' R' => (XI g n L I' ∧ R' = R ∧ True ∧ I' (ad g 6) 1 = I (ad g 6) 1 ∧ I' (ad g 6) 2 = I (ad g 6) 2) ∧ ∃ v : Int32, r = some (.int v) ∧ 0 ≤ v.toInt ∧ v.toInt ≤ 5 ∧ (v.toInt = 0 → (I' (ad g 4) 0).toInt ≤ 3 ∧ (I' (ad g 4) 1).toInt ≤ 6 ∧ (I' (ad g 4) 2).toInt ≤ 20)) := by
  refine SP_of ⟨by decide, rfl⟩ (Nat.le_of_ble_eq_true rfl) ?_
  have e16274 : I (ad g 1) 1 = L := hI.2
  have b16275 := BT_get hI.1 1 1 2 (0) (0) (900) (by decide) 1 (by decide) (by decide)
  rw [e16274] at b16275
  obtain ⟨w16276, ew16276⟩ : ∃ w : Int32, I (ad g 6) 1 = w := ⟨_, rfl⟩
  have bw16276 := BT_get hI.1 6 1 2 (0) (0) (4) (by decide) 1 (by decide) (by decide)
  rw [ew16276] at bw16276
  obtain ⟨w16277, ew16277⟩ : ∃ w : Int32, I (ad g 6) 2 = w := ⟨_, rfl⟩
  have bw16277 := BT_get hI.1 6 2 3 (0) (0) (3) (by decide) 2 (by decide) (by decide)
  rw [ew16277] at bw16277
  refine WP_iload_n dX3_faultInParts_0 rfl ?_
  refine WP_callS1 dX3_faultInParts_1 ⟨⟨⟨by decide, by decide⟩, zX3_shapeOf⟩, lX3_84, tX3_shapeOf⟩ (sx_shapeOf hy hz hr hI cz (by omega) (by omega)) (Nat.le_of_ble_eq_true rfl) ?_
  intro r Ia Ja Ra hq
  obtain ⟨⟨ea, eb, ec⟩, rfl⟩ := hq
  show WP _ _ _ _ (.ref _ :: _) _ _ _ _
  rw [show 10 + cz.toInt.toNat = 13 by omega]
  rw [ea, eb, ec]
  clear ea eb ec Ia Ja Ra
  refine WP_astore_n (ls' := [(0, _), (1, _), (2, _), (3, _)]) dX3_faultInParts_4 (by decide) rfl ?_
  refine WQ_iconst (0) (0) dX3_faultInParts_5 rfl rfl (fun v16278 hv16278 => ?_)
  refine WP_istore (ls' := [(0, _), (1, _), (2, _), (3, _), (4, _)]) dX3_faultInParts_6 (by decide) rfl ?_
  refine WP_iload dX3_faultInParts_8 rfl ?_
  refine WP_aload_n dX3_faultInParts_10 rfl ?_
  refine WS_call hz (i := 13) (by omega) dX3_faultInParts_11 ⟨⟨by decide, by decide⟩, zJ0_length_8abf5⟩ lX3_87 vJ0_length_8abf5 (As := []) (rest := [.int v16278]) (j_length hz (i := 13) (by omega)) rfl rfl (Nat.le_of_ble_eq_true rfl) ?_
  intro r Ia Ja Ra hq
  obtain ⟨⟨ea, eb, ec⟩, v16279, rfl, cv16279⟩ := hq
  show WP _ _ _ _ (.int _ :: _) _ _ _ _
  rw [ea, eb, ec]
  clear ea eb ec Ia Ja Ra
  have hv16279 : v16279.toInt = 3 := cv16279.trans rfl
  refine WQ_icmp_ge 125 dX3_faultInParts_14 rfl (fun c16279 => False.elim (by omega)) (fun c16279 => ?_)
  refine WP_iload dX3_faultInParts_17 rfl ?_
  refine WQ_iconst (5) (5) dX3_faultInParts_19 rfl rfl (fun v16281 hv16281 => ?_)
  refine WQ_icmp_ge 125 dX3_faultInParts_20 rfl (fun c16281 => False.elim (by omega)) (fun c16281 => ?_)
  refine WP_aload_n dX3_faultInParts_23 rfl ?_
  refine WP_iload dX3_faultInParts_24 rfl ?_
  refine WS_call hz (i := 13) (by omega) dX3_faultInParts_26 ⟨⟨by decide, by decide⟩, zJ0_charAt_5068e⟩ lX3_92 vJ0_charAt_5068e (As := [.int v16278]) (rest := []) (j_charAt hz (i := 13) (k := v16278) (by omega) (by omega) (by have z9 : ((liN.getD 13 0 : Nat) : Int) = 3 := rfl; omega)) rfl rfl (Nat.le_of_ble_eq_true rfl) ?_
  intro r Ia Ja Ra hq
  obtain ⟨⟨ea, eb, ec⟩, v16283, rfl, cv16283⟩ := hq
  show WP _ _ _ _ (.int _ :: _) _ _ _ _
  rw [ea, eb, ec]
  clear ea eb ec Ia Ja Ra
  have hv16283 : v16283.toInt = 115 := cv16283.trans (by rw [show v16278.toInt.toNat = 0 by omega]; rfl)
  refine WP_istore (ls' := [(0, _), (1, _), (2, _), (3, _), (4, _), (5, _)]) dX3_faultInParts_29 (by decide) rfl ?_
  refine WP_iload dX3_faultInParts_31 rfl ?_
  refine WQ_bipush (97) (97) dX3_faultInParts_33 rfl rfl (fun v16284 hv16284 => ?_)
  refine WQ_icmp_lt 49 dX3_faultInParts_35 rfl (fun c16284 => False.elim (by omega)) (fun c16284 => ?_)
  refine WP_iload dX3_faultInParts_38 rfl ?_
  refine WQ_bipush (122) (122) dX3_faultInParts_40 rfl rfl (fun v16286 hv16286 => ?_)
  refine WQ_icmp_gt 49 dX3_faultInParts_42 rfl (fun c16286 => False.elim (by omega)) (fun c16286 => ?_)
  refine WQ_iconst (1) (1) dX3_faultInParts_45 rfl rfl (fun v16288 hv16288 => ?_)
  refine WP_goto 50 dX3_faultInParts_46 rfl ?_
  refine WP_istore (ls' := [(0, _), (1, _), (2, _), (3, _), (4, _), (5, _), (6, _)]) dX3_faultInParts_50 (by decide) rfl ?_
  refine WP_aload_n dX3_faultInParts_52 rfl ?_
  refine WP_getr dX3_faultInParts_53 fX3_15 rfl (lyx_is hy 3 3 rfl) (rfx hr 3 2 1 (by decide)) ?_
  refine WQ_geti dX3_faultInParts_56 fX3_43 rfl (lyx_is hy 1 5 rfl) (BT_get hI.1 1 2 3 (0) (0) (4) (by decide) 2 (by decide) (by decide)) (fun v16289 ev16289 av16289 bv16289 => ?_)
  refine WP_iload dX3_faultInParts_59 rfl ?_
  refine WQ_if_eq 68 dX3_faultInParts_61 rfl (fun c16289 => False.elim (by omega)) (fun c16289 => ?_)
  refine WQ_iconst (1) (1) dX3_faultInParts_64 rfl rfl (fun v16291 hv16291 => ?_)
  refine WP_goto 69 dX3_faultInParts_65 rfl ?_
  refine WQ_icmp_eq 74 dX3_faultInParts_69 rfl (fun c16291 => ?_) (fun c16291 => ?_)
  · refine WP_iload dX3_faultInParts_74 rfl ?_
    refine WQ_if_eq 92 dX3_faultInParts_76 rfl (fun c16292 => False.elim (by omega)) (fun c16292 => ?_)
    refine WP_aload_n dX3_faultInParts_79 rfl ?_
    refine WP_iload dX3_faultInParts_80 rfl ?_
    refine WP_iload_n dX3_faultInParts_82 rfl ?_
    refine WP_iload dX3_faultInParts_83 rfl ?_
    refine WP_aload_n dX3_faultInParts_85 rfl ?_
    refine WP_callV4 (k := 3) dX3_faultInParts_86 ⟨⟨⟨by decide, by decide⟩, zX3_faultOfName⟩, lX3_96, by decide, rfl, vX3_faultOfName.1, vX3_faultOfName.2⟩ (lyx_is hy 3 3 rfl) (sx_part_6_3_0 hy hr hI v16283 cz v16278 (by omega) (by omega) (by omega) (by omega) (by omega) (by omega)) (Nat.le_of_ble_eq_true rfl) ?_
    intro r I16294 J16295 Ra hq
    obtain ⟨⟨hI16294, ec, ⟨pI16294, sI16294_6_1, sI16294_6_2⟩⟩, v16296, rfl, av16296, bv16296, cv16296⟩ := hq
    show WP _ _ _ _ (.int _ :: _) _ _ _ _
    rw [ec]
    clear ec Ra
    have e16297 : I16294 (ad g 6) 1 = w16276 := by rw [sI16294_6_1]; exact ew16276
    have e16298 : I16294 (ad g 6) 2 = w16277 := by rw [sI16294_6_2]; exact ew16277
    have e16299 : I16294 (ad g 1) 1 = L := hI16294.2
    have b16300 := BT_get hI16294.1 1 1 2 (0) (0) (900) (by decide) 1 (by decide) (by decide)
    rw [e16299] at b16300
    obtain ⟨w16301, ew16301⟩ : ∃ w : Int32, I16294 (ad g 4) 0 = w := ⟨_, rfl⟩
    have bw16301 := BT_get hI16294.1 4 0 5 (0) (0) (1000) (by decide) 0 (by decide) (by decide)
    rw [ew16301] at bw16301
    rw [ew16301] at cv16296
    refine WP_goto 102 dX3_faultInParts_89 rfl ?_
    refine WP_istore (ls' := [(0, _), (1, _), (2, _), (3, _), (4, _), (5, _), (6, _), (7, _)]) dX3_faultInParts_102 (by decide) rfl ?_
    refine WP_iload dX3_faultInParts_104 rfl ?_
    refine WQ_if_eq 112 dX3_faultInParts_106 rfl (fun c16301 => ?_) (fun c16301 => ?_)
    · refine WP_aload_n dX3_faultInParts_112 rfl ?_
      refine WP_getr dX3_faultInParts_113 fX3_15 rfl (lyx_is hy 3 3 rfl) (rfx hr 3 2 1 (by decide)) ?_
      refine WP_callV0 (k := 5) dX3_faultInParts_116 ⟨⟨⟨by decide, by decide⟩, zX5_next⟩, lX3_40, by decide, rfl, vX5_next.1, vX5_next.2⟩ (lyx_is hy 1 5 rfl) (sx_nextf hy hr hI16294  ) (Nat.le_of_ble_eq_true rfl) ?_
      intro r I16303 J16304 Ra hq
      obtain ⟨⟨hI16303, ec, fiI16303⟩, rfl⟩ := hq
      rw [ec]
      clear ec Ra
      have e16305 : I16303 (ad g 6) 1 = w16276 := by rw [fz_at fiI16303 6 (by decide) (by decide)]; exact e16297
      have e16306 : I16303 (ad g 6) 2 = w16277 := by rw [fz_at fiI16303 6 (by decide) (by decide)]; exact e16298
      have e16307 : I16303 (ad g 4) 0 = w16301 := by rw [fz_at fiI16303 4 (by decide) (by decide)]; exact ew16301
      have e16308 : I16303 (ad g 1) 1 = L := hI16303.2
      have b16309 := BT_get hI16303.1 1 1 2 (0) (0) (900) (by decide) 1 (by decide) (by decide)
      rw [e16308] at b16309
      refine WP_iinc (ls' := [(0, _), (1, _), (2, _), (3, _), (4, _), (5, _), (6, _), (7, _)]) dX3_faultInParts_119 rfl (by decide) rfl ?_
      have hv16310 : (v16278 + Int32.ofInt (1)).toInt = v16278.toInt + (1) := ia_n rfl (by omega) (by omega)
      generalize v16278 + Int32.ofInt (1) = v16310 at hv16310 ⊢
      refine WP_goto 8 dX3_faultInParts_122 rfl ?_
      refine WP_iload dX3_faultInParts_8 rfl ?_
      refine WP_aload_n dX3_faultInParts_10 rfl ?_
      refine WS_call hz (i := 13) (by omega) dX3_faultInParts_11 ⟨⟨by decide, by decide⟩, zJ0_length_8abf5⟩ lX3_87 vJ0_length_8abf5 (As := []) (rest := [.int v16310]) (j_length hz (i := 13) (by omega)) rfl rfl (Nat.le_of_ble_eq_true rfl) ?_
      intro r Ia Ja Ra hq
      obtain ⟨⟨ea, eb, ec⟩, v16311, rfl, cv16311⟩ := hq
      show WP _ _ _ _ (.int _ :: _) _ _ _ _
      rw [ea, eb, ec]
      clear ea eb ec Ia Ja Ra
      have hv16311 : v16311.toInt = 3 := cv16311.trans rfl
      refine WQ_icmp_ge 125 dX3_faultInParts_14 rfl (fun c16311 => False.elim (by omega)) (fun c16311 => ?_)
      refine WP_iload dX3_faultInParts_17 rfl ?_
      refine WQ_iconst (5) (5) dX3_faultInParts_19 rfl rfl (fun v16313 hv16313 => ?_)
      refine WQ_icmp_ge 125 dX3_faultInParts_20 rfl (fun c16313 => False.elim (by omega)) (fun c16313 => ?_)
      refine WP_aload_n dX3_faultInParts_23 rfl ?_
      refine WP_iload dX3_faultInParts_24 rfl ?_
      refine WS_call hz (i := 13) (by omega) dX3_faultInParts_26 ⟨⟨by decide, by decide⟩, zJ0_charAt_5068e⟩ lX3_92 vJ0_charAt_5068e (As := [.int v16310]) (rest := []) (j_charAt hz (i := 13) (k := v16310) (by omega) (by omega) (by have z9 : ((liN.getD 13 0 : Nat) : Int) = 3 := rfl; omega)) rfl rfl (Nat.le_of_ble_eq_true rfl) ?_
      intro r Ia Ja Ra hq
      obtain ⟨⟨ea, eb, ec⟩, v16315, rfl, cv16315⟩ := hq
      show WP _ _ _ _ (.int _ :: _) _ _ _ _
      rw [ea, eb, ec]
      clear ea eb ec Ia Ja Ra
      have hv16315 : v16315.toInt = 68 := cv16315.trans (by rw [show v16310.toInt.toNat = 1 by omega]; rfl)
      refine WP_istore (ls' := [(0, _), (1, _), (2, _), (3, _), (4, _), (5, _), (6, _), (7, _)]) dX3_faultInParts_29 (by decide) rfl ?_
      refine WP_iload dX3_faultInParts_31 rfl ?_
      refine WQ_bipush (97) (97) dX3_faultInParts_33 rfl rfl (fun v16316 hv16316 => ?_)
      refine WQ_icmp_lt 49 dX3_faultInParts_35 rfl (fun c16316 => ?_) (fun c16316 => False.elim (by omega))
      refine WQ_iconst (0) (0) dX3_faultInParts_49 rfl rfl (fun v16318 hv16318 => ?_)
      refine WP_istore (ls' := [(0, _), (1, _), (2, _), (3, _), (4, _), (5, _), (6, _), (7, _)]) dX3_faultInParts_50 (by decide) rfl ?_
      refine WP_aload_n dX3_faultInParts_52 rfl ?_
      refine WP_getr dX3_faultInParts_53 fX3_15 rfl (lyx_is hy 3 3 rfl) (rfx hr 3 2 1 (by decide)) ?_
      refine WQ_geti dX3_faultInParts_56 fX3_43 rfl (lyx_is hy 1 5 rfl) (BT_get hI16303.1 1 2 3 (0) (0) (4) (by decide) 2 (by decide) (by decide)) (fun v16319 ev16319 av16319 bv16319 => ?_)
      refine WP_iload dX3_faultInParts_59 rfl ?_
      refine WQ_if_eq 68 dX3_faultInParts_61 rfl (fun c16319 => ?_) (fun c16319 => False.elim (by omega))
      refine WQ_iconst (2) (2) dX3_faultInParts_68 rfl rfl (fun v16321 hv16321 => ?_)
      refine WQ_icmp_eq 74 dX3_faultInParts_69 rfl (fun c16321 => ?_) (fun c16321 => ?_)
      · refine WP_iload dX3_faultInParts_74 rfl ?_
        refine WQ_if_eq 92 dX3_faultInParts_76 rfl (fun c16322 => ?_) (fun c16322 => False.elim (by omega))
        refine WP_aload_n dX3_faultInParts_92 rfl ?_
        refine WP_iload dX3_faultInParts_93 rfl ?_
        refine WP_iload_n dX3_faultInParts_95 rfl ?_
        refine WP_iload dX3_faultInParts_96 rfl ?_
        refine WP_aload_n dX3_faultInParts_98 rfl ?_
        refine WP_callV4 (k := 3) dX3_faultInParts_99 ⟨⟨⟨by decide, by decide⟩, zX3_faultOfNumber⟩, lX3_100, by decide, rfl, vX3_faultOfNumber.1, vX3_faultOfNumber.2⟩ (lyx_is hy 3 3 rfl) (sx_part_6_3_1 hy hr hI16303 v16315 cz v16310 (by omega) (by omega) (by omega) (by omega) (by omega) (by omega) (by rw [e16307]; omega)) (Nat.le_of_ble_eq_true rfl) ?_
        intro r I16324 J16325 Ra hq
        obtain ⟨⟨hI16324, ec, ⟨pI16324, sI16324_4_0, sI16324_6_1, sI16324_6_2⟩⟩, v16326, rfl, av16326, bv16326, cv16326⟩ := hq
        show WP _ _ _ _ (.int _ :: _) _ _ _ _
        rw [ec]
        clear ec Ra
        have e16327 : I16324 (ad g 4) 0 = w16301 := by rw [sI16324_4_0]; exact e16307
        have e16328 : I16324 (ad g 6) 1 = w16276 := by rw [sI16324_6_1]; exact e16305
        have e16329 : I16324 (ad g 6) 2 = w16277 := by rw [sI16324_6_2]; exact e16306
        have e16330 : I16324 (ad g 1) 1 = L := hI16324.2
        have b16331 := BT_get hI16324.1 1 1 2 (0) (0) (900) (by decide) 1 (by decide) (by decide)
        rw [e16330] at b16331
        obtain ⟨w16332, ew16332⟩ : ∃ w : Int32, I16324 (ad g 4) 1 = w := ⟨_, rfl⟩
        have bw16332 := BT_get hI16324.1 4 0 5 (0) (0) (1000) (by decide) 1 (by decide) (by decide)
        rw [ew16332] at bw16332
        rw [ew16332] at cv16326
        refine WP_istore (ls' := [(0, _), (1, _), (2, _), (3, _), (4, _), (5, _), (6, _), (7, _)]) dX3_faultInParts_102 (by decide) rfl ?_
        refine WP_iload dX3_faultInParts_104 rfl ?_
        refine WQ_if_eq 112 dX3_faultInParts_106 rfl (fun c16332 => ?_) (fun c16332 => ?_)
        · refine WP_aload_n dX3_faultInParts_112 rfl ?_
          refine WP_getr dX3_faultInParts_113 fX3_15 rfl (lyx_is hy 3 3 rfl) (rfx hr 3 2 1 (by decide)) ?_
          refine WP_callV0 (k := 5) dX3_faultInParts_116 ⟨⟨⟨by decide, by decide⟩, zX5_next⟩, lX3_40, by decide, rfl, vX5_next.1, vX5_next.2⟩ (lyx_is hy 1 5 rfl) (sx_nextf hy hr hI16324  ) (Nat.le_of_ble_eq_true rfl) ?_
          intro r I16334 J16335 Ra hq
          obtain ⟨⟨hI16334, ec, fiI16334⟩, rfl⟩ := hq
          rw [ec]
          clear ec Ra
          have e16336 : I16334 (ad g 4) 0 = w16301 := by rw [fz_at fiI16334 4 (by decide) (by decide)]; exact e16327
          have e16337 : I16334 (ad g 6) 1 = w16276 := by rw [fz_at fiI16334 6 (by decide) (by decide)]; exact e16328
          have e16338 : I16334 (ad g 6) 2 = w16277 := by rw [fz_at fiI16334 6 (by decide) (by decide)]; exact e16329
          have e16339 : I16334 (ad g 4) 1 = w16332 := by rw [fz_at fiI16334 4 (by decide) (by decide)]; exact ew16332
          have e16340 : I16334 (ad g 1) 1 = L := hI16334.2
          have b16341 := BT_get hI16334.1 1 1 2 (0) (0) (900) (by decide) 1 (by decide) (by decide)
          rw [e16340] at b16341
          refine WP_iinc (ls' := [(0, _), (1, _), (2, _), (3, _), (4, _), (5, _), (6, _), (7, _)]) dX3_faultInParts_119 rfl (by decide) rfl ?_
          have hv16342 : (v16310 + Int32.ofInt (1)).toInt = v16310.toInt + (1) := ia_n rfl (by omega) (by omega)
          generalize v16310 + Int32.ofInt (1) = v16342 at hv16342 ⊢
          refine WP_goto 8 dX3_faultInParts_122 rfl ?_
          refine WP_iload dX3_faultInParts_8 rfl ?_
          refine WP_aload_n dX3_faultInParts_10 rfl ?_
          refine WS_call hz (i := 13) (by omega) dX3_faultInParts_11 ⟨⟨by decide, by decide⟩, zJ0_length_8abf5⟩ lX3_87 vJ0_length_8abf5 (As := []) (rest := [.int v16342]) (j_length hz (i := 13) (by omega)) rfl rfl (Nat.le_of_ble_eq_true rfl) ?_
          intro r Ia Ja Ra hq
          obtain ⟨⟨ea, eb, ec⟩, v16343, rfl, cv16343⟩ := hq
          show WP _ _ _ _ (.int _ :: _) _ _ _ _
          rw [ea, eb, ec]
          clear ea eb ec Ia Ja Ra
          have hv16343 : v16343.toInt = 3 := cv16343.trans rfl
          refine WQ_icmp_ge 125 dX3_faultInParts_14 rfl (fun c16343 => False.elim (by omega)) (fun c16343 => ?_)
          refine WP_iload dX3_faultInParts_17 rfl ?_
          refine WQ_iconst (5) (5) dX3_faultInParts_19 rfl rfl (fun v16345 hv16345 => ?_)
          refine WQ_icmp_ge 125 dX3_faultInParts_20 rfl (fun c16345 => False.elim (by omega)) (fun c16345 => ?_)
          refine WP_aload_n dX3_faultInParts_23 rfl ?_
          refine WP_iload dX3_faultInParts_24 rfl ?_
          refine WS_call hz (i := 13) (by omega) dX3_faultInParts_26 ⟨⟨by decide, by decide⟩, zJ0_charAt_5068e⟩ lX3_92 vJ0_charAt_5068e (As := [.int v16342]) (rest := []) (j_charAt hz (i := 13) (k := v16342) (by omega) (by omega) (by have z9 : ((liN.getD 13 0 : Nat) : Int) = 3 := rfl; omega)) rfl rfl (Nat.le_of_ble_eq_true rfl) ?_
          intro r Ia Ja Ra hq
          obtain ⟨⟨ea, eb, ec⟩, v16347, rfl, cv16347⟩ := hq
          show WP _ _ _ _ (.int _ :: _) _ _ _ _
          rw [ea, eb, ec]
          clear ea eb ec Ia Ja Ra
          have hv16347 : v16347.toInt = 69 := cv16347.trans (by rw [show v16342.toInt.toNat = 2 by omega]; rfl)
          refine WP_istore (ls' := [(0, _), (1, _), (2, _), (3, _), (4, _), (5, _), (6, _), (7, _)]) dX3_faultInParts_29 (by decide) rfl ?_
          refine WP_iload dX3_faultInParts_31 rfl ?_
          refine WQ_bipush (97) (97) dX3_faultInParts_33 rfl rfl (fun v16348 hv16348 => ?_)
          refine WQ_icmp_lt 49 dX3_faultInParts_35 rfl (fun c16348 => ?_) (fun c16348 => False.elim (by omega))
          refine WQ_iconst (0) (0) dX3_faultInParts_49 rfl rfl (fun v16350 hv16350 => ?_)
          refine WP_istore (ls' := [(0, _), (1, _), (2, _), (3, _), (4, _), (5, _), (6, _), (7, _)]) dX3_faultInParts_50 (by decide) rfl ?_
          refine WP_aload_n dX3_faultInParts_52 rfl ?_
          refine WP_getr dX3_faultInParts_53 fX3_15 rfl (lyx_is hy 3 3 rfl) (rfx hr 3 2 1 (by decide)) ?_
          refine WQ_geti dX3_faultInParts_56 fX3_43 rfl (lyx_is hy 1 5 rfl) (BT_get hI16334.1 1 2 3 (0) (0) (4) (by decide) 2 (by decide) (by decide)) (fun v16351 ev16351 av16351 bv16351 => ?_)
          refine WP_iload dX3_faultInParts_59 rfl ?_
          refine WQ_if_eq 68 dX3_faultInParts_61 rfl (fun c16351 => ?_) (fun c16351 => False.elim (by omega))
          refine WQ_iconst (2) (2) dX3_faultInParts_68 rfl rfl (fun v16353 hv16353 => ?_)
          refine WQ_icmp_eq 74 dX3_faultInParts_69 rfl (fun c16353 => ?_) (fun c16353 => ?_)
          · refine WP_iload dX3_faultInParts_74 rfl ?_
            refine WQ_if_eq 92 dX3_faultInParts_76 rfl (fun c16354 => ?_) (fun c16354 => False.elim (by omega))
            refine WP_aload_n dX3_faultInParts_92 rfl ?_
            refine WP_iload dX3_faultInParts_93 rfl ?_
            refine WP_iload_n dX3_faultInParts_95 rfl ?_
            refine WP_iload dX3_faultInParts_96 rfl ?_
            refine WP_aload_n dX3_faultInParts_98 rfl ?_
            refine WP_callV4 (k := 3) dX3_faultInParts_99 ⟨⟨⟨by decide, by decide⟩, zX3_faultOfNumber⟩, lX3_100, by decide, rfl, vX3_faultOfNumber.1, vX3_faultOfNumber.2⟩ (lyx_is hy 3 3 rfl) (sx_part_6_3_2 hy hr hI16334 v16347 cz v16342 (by omega) (by omega) (by omega) (by omega) (by omega) (by omega)) (Nat.le_of_ble_eq_true rfl) ?_
            intro r I16356 J16357 Ra hq
            obtain ⟨⟨hI16356, ec, ⟨pI16356, sI16356_4_0, sI16356_4_1, sI16356_6_1, sI16356_6_2⟩⟩, v16358, rfl, av16358, bv16358, cv16358⟩ := hq
            show WP _ _ _ _ (.int _ :: _) _ _ _ _
            rw [ec]
            clear ec Ra
            have e16359 : I16356 (ad g 4) 0 = w16301 := by rw [sI16356_4_0]; exact e16336
            have e16360 : I16356 (ad g 4) 1 = w16332 := by rw [sI16356_4_1]; exact e16339
            have e16361 : I16356 (ad g 6) 1 = w16276 := by rw [sI16356_6_1]; exact e16337
            have e16362 : I16356 (ad g 6) 2 = w16277 := by rw [sI16356_6_2]; exact e16338
            have e16363 : I16356 (ad g 1) 1 = L := hI16356.2
            have b16364 := BT_get hI16356.1 1 1 2 (0) (0) (900) (by decide) 1 (by decide) (by decide)
            rw [e16363] at b16364
            obtain ⟨w16365, ew16365⟩ : ∃ w : Int32, I16356 (ad g 4) 2 = w := ⟨_, rfl⟩
            have bw16365 := BT_get hI16356.1 4 0 5 (0) (0) (1000) (by decide) 2 (by decide) (by decide)
            rw [ew16365] at bw16365
            rw [ew16365] at cv16358
            refine WP_istore (ls' := [(0, _), (1, _), (2, _), (3, _), (4, _), (5, _), (6, _), (7, _)]) dX3_faultInParts_102 (by decide) rfl ?_
            refine WP_iload dX3_faultInParts_104 rfl ?_
            refine WQ_if_eq 112 dX3_faultInParts_106 rfl (fun c16365 => ?_) (fun c16365 => ?_)
            · refine WP_aload_n dX3_faultInParts_112 rfl ?_
              refine WP_getr dX3_faultInParts_113 fX3_15 rfl (lyx_is hy 3 3 rfl) (rfx hr 3 2 1 (by decide)) ?_
              refine WP_callV0 (k := 5) dX3_faultInParts_116 ⟨⟨⟨by decide, by decide⟩, zX5_next⟩, lX3_40, by decide, rfl, vX5_next.1, vX5_next.2⟩ (lyx_is hy 1 5 rfl) (sx_nextf hy hr hI16356  ) (Nat.le_of_ble_eq_true rfl) ?_
              intro r I16367 J16368 Ra hq
              obtain ⟨⟨hI16367, ec, fiI16367⟩, rfl⟩ := hq
              rw [ec]
              clear ec Ra
              have e16369 : I16367 (ad g 4) 0 = w16301 := by rw [fz_at fiI16367 4 (by decide) (by decide)]; exact e16359
              have e16370 : I16367 (ad g 4) 1 = w16332 := by rw [fz_at fiI16367 4 (by decide) (by decide)]; exact e16360
              have e16371 : I16367 (ad g 6) 1 = w16276 := by rw [fz_at fiI16367 6 (by decide) (by decide)]; exact e16361
              have e16372 : I16367 (ad g 6) 2 = w16277 := by rw [fz_at fiI16367 6 (by decide) (by decide)]; exact e16362
              have e16373 : I16367 (ad g 4) 2 = w16365 := by rw [fz_at fiI16367 4 (by decide) (by decide)]; exact ew16365
              have e16374 : I16367 (ad g 1) 1 = L := hI16367.2
              have b16375 := BT_get hI16367.1 1 1 2 (0) (0) (900) (by decide) 1 (by decide) (by decide)
              rw [e16374] at b16375
              refine WP_iinc (ls' := [(0, _), (1, _), (2, _), (3, _), (4, _), (5, _), (6, _), (7, _)]) dX3_faultInParts_119 rfl (by decide) rfl ?_
              have hv16376 : (v16342 + Int32.ofInt (1)).toInt = v16342.toInt + (1) := ia_n rfl (by omega) (by omega)
              generalize v16342 + Int32.ofInt (1) = v16376 at hv16376 ⊢
              refine WP_goto 8 dX3_faultInParts_122 rfl ?_
              refine WP_iload dX3_faultInParts_8 rfl ?_
              refine WP_aload_n dX3_faultInParts_10 rfl ?_
              refine WS_call hz (i := 13) (by omega) dX3_faultInParts_11 ⟨⟨by decide, by decide⟩, zJ0_length_8abf5⟩ lX3_87 vJ0_length_8abf5 (As := []) (rest := [.int v16376]) (j_length hz (i := 13) (by omega)) rfl rfl (Nat.le_of_ble_eq_true rfl) ?_
              intro r Ia Ja Ra hq
              obtain ⟨⟨ea, eb, ec⟩, v16377, rfl, cv16377⟩ := hq
              show WP _ _ _ _ (.int _ :: _) _ _ _ _
              rw [ea, eb, ec]
              clear ea eb ec Ia Ja Ra
              have hv16377 : v16377.toInt = 3 := cv16377.trans rfl
              refine WQ_icmp_ge 125 dX3_faultInParts_14 rfl (fun c16377 => ?_) (fun c16377 => False.elim (by omega))
              refine WP_aload_n dX3_faultInParts_125 rfl ?_
              refine WP_getr dX3_faultInParts_126 fX3_15 rfl (lyx_is hy 3 3 rfl) (rfx hr 3 2 1 (by decide)) ?_
              refine WQ_geti dX3_faultInParts_129 fX3_43 rfl (lyx_is hy 1 5 rfl) (BT_get hI16367.1 1 2 3 (0) (0) (4) (by decide) 2 (by decide) (by decide)) (fun v16379 ev16379 av16379 bv16379 => ?_)
              refine WQ_iconst (3) (3) dX3_faultInParts_132 rfl rfl (fun v16380 hv16380 => ?_)
              refine WQ_icmp_ne 140 dX3_faultInParts_133 rfl (fun c16380 => ?_) (fun c16380 => ?_)
              · refine WQ_iconst (1) (1) dX3_faultInParts_140 rfl rfl (fun v16382 hv16382 => ?_)
                exact WP_iret dX3_faultInParts_141 rfl ⟨⟨hI16367, rfl, ⟨trivial, (by rw [e16371, ew16276] <;> exact (eq32 _ _).mpr (by omega)), (by rw [e16372, ew16277] <;> exact (eq32 _ _).mpr (by omega))⟩⟩, _, rfl, by omega, by omega, by (try rw [e16369]; try rw [e16370]; try rw [e16373]); omega⟩
              · refine WQ_iconst (0) (0) dX3_faultInParts_136 rfl rfl (fun v16383 hv16383 => ?_)
                refine WP_goto 141 dX3_faultInParts_137 rfl ?_
                exact WP_iret dX3_faultInParts_141 rfl ⟨⟨hI16367, rfl, ⟨trivial, (by rw [e16371, ew16276] <;> exact (eq32 _ _).mpr (by omega)), (by rw [e16372, ew16277] <;> exact (eq32 _ _).mpr (by omega))⟩⟩, _, rfl, by omega, by omega, by (try rw [e16369]; try rw [e16370]; try rw [e16373]); omega⟩
            · refine WP_iload dX3_faultInParts_109 rfl ?_
              exact WP_iret dX3_faultInParts_111 rfl ⟨⟨hI16356, rfl, ⟨trivial, (by rw [e16361, ew16276] <;> exact (eq32 _ _).mpr (by omega)), (by rw [e16362, ew16277] <;> exact (eq32 _ _).mpr (by omega))⟩⟩, _, rfl, by omega, by omega, by (try rw [e16359]; try rw [e16360]; try rw [ew16365]); omega⟩
          · refine WQ_iconst (1) (1) dX3_faultInParts_72 rfl rfl (fun v16384 hv16384 => ?_)
            obtain ⟨w16385, ew16385⟩ : ∃ w : Int32, I16334 (ad g 4) 2 = w := ⟨_, rfl⟩
            have bw16385 := BT_get hI16334.1 4 0 5 (0) (0) (1000) (by decide) 2 (by decide) (by decide)
            rw [ew16385] at bw16385
            exact WP_iret dX3_faultInParts_73 rfl ⟨⟨hI16334, rfl, ⟨trivial, (by rw [e16337, ew16276] <;> exact (eq32 _ _).mpr (by omega)), (by rw [e16338, ew16277] <;> exact (eq32 _ _).mpr (by omega))⟩⟩, _, rfl, by omega, by omega, by (try rw [e16336]; try rw [e16339]; try rw [ew16385]); omega⟩
        · refine WP_iload dX3_faultInParts_109 rfl ?_
          obtain ⟨w16386, ew16386⟩ : ∃ w : Int32, I16324 (ad g 4) 2 = w := ⟨_, rfl⟩
          have bw16386 := BT_get hI16324.1 4 0 5 (0) (0) (1000) (by decide) 2 (by decide) (by decide)
          rw [ew16386] at bw16386
          exact WP_iret dX3_faultInParts_111 rfl ⟨⟨hI16324, rfl, ⟨trivial, (by rw [e16328, ew16276] <;> exact (eq32 _ _).mpr (by omega)), (by rw [e16329, ew16277] <;> exact (eq32 _ _).mpr (by omega))⟩⟩, _, rfl, by omega, by omega, by (try rw [e16327]; try rw [ew16332]; try rw [ew16386]); omega⟩
      · refine WQ_iconst (1) (1) dX3_faultInParts_72 rfl rfl (fun v16387 hv16387 => ?_)
        obtain ⟨w16388, ew16388⟩ : ∃ w : Int32, I16303 (ad g 4) 1 = w := ⟨_, rfl⟩
        have bw16388 := BT_get hI16303.1 4 0 5 (0) (0) (1000) (by decide) 1 (by decide) (by decide)
        rw [ew16388] at bw16388
        obtain ⟨w16389, ew16389⟩ : ∃ w : Int32, I16303 (ad g 4) 2 = w := ⟨_, rfl⟩
        have bw16389 := BT_get hI16303.1 4 0 5 (0) (0) (1000) (by decide) 2 (by decide) (by decide)
        rw [ew16389] at bw16389
        exact WP_iret dX3_faultInParts_73 rfl ⟨⟨hI16303, rfl, ⟨trivial, (by rw [e16305, ew16276] <;> exact (eq32 _ _).mpr (by omega)), (by rw [e16306, ew16277] <;> exact (eq32 _ _).mpr (by omega))⟩⟩, _, rfl, by omega, by omega, by (try rw [e16307]; try rw [ew16388]; try rw [ew16389]); omega⟩
    · refine WP_iload dX3_faultInParts_109 rfl ?_
      obtain ⟨w16390, ew16390⟩ : ∃ w : Int32, I16294 (ad g 4) 1 = w := ⟨_, rfl⟩
      have bw16390 := BT_get hI16294.1 4 0 5 (0) (0) (1000) (by decide) 1 (by decide) (by decide)
      rw [ew16390] at bw16390
      obtain ⟨w16391, ew16391⟩ : ∃ w : Int32, I16294 (ad g 4) 2 = w := ⟨_, rfl⟩
      have bw16391 := BT_get hI16294.1 4 0 5 (0) (0) (1000) (by decide) 2 (by decide) (by decide)
      rw [ew16391] at bw16391
      exact WP_iret dX3_faultInParts_111 rfl ⟨⟨hI16294, rfl, ⟨trivial, (by rw [e16297, ew16276] <;> exact (eq32 _ _).mpr (by omega)), (by rw [e16298, ew16277] <;> exact (eq32 _ _).mpr (by omega))⟩⟩, _, rfl, by omega, by omega, by (try rw [ew16301]; try rw [ew16390]; try rw [ew16391]); omega⟩
  · refine WQ_iconst (1) (1) dX3_faultInParts_72 rfl rfl (fun v16392 hv16392 => ?_)
    obtain ⟨w16393, ew16393⟩ : ∃ w : Int32, I (ad g 4) 0 = w := ⟨_, rfl⟩
    have bw16393 := BT_get hI.1 4 0 5 (0) (0) (1000) (by decide) 0 (by decide) (by decide)
    rw [ew16393] at bw16393
    obtain ⟨w16394, ew16394⟩ : ∃ w : Int32, I (ad g 4) 1 = w := ⟨_, rfl⟩
    have bw16394 := BT_get hI.1 4 0 5 (0) (0) (1000) (by decide) 1 (by decide) (by decide)
    rw [ew16394] at bw16394
    obtain ⟨w16395, ew16395⟩ : ∃ w : Int32, I (ad g 4) 2 = w := ⟨_, rfl⟩
    have bw16395 := BT_get hI.1 4 0 5 (0) (0) (1000) (by decide) 2 (by decide) (by decide)
    rw [ew16395] at bw16395
    exact WP_iret dX3_faultInParts_73 rfl ⟨⟨hI, rfl, ⟨trivial, rfl, rfl⟩⟩, _, rfl, by omega, by omega, by (try rw [ew16393]; try rw [ew16394]; try rw [ew16395]); omega⟩
set_option maxHeartbeats 4000000 in
set_option maxRecDepth 100000 in
theorem sx_parts_6_4 {g : GG} {n : Int} {L : Int32} (hy : LyX g) {aK aV : Nat → Nat} {fo : Option Nat} (hz : HZ g aK aV fo)  {I : pI} {J : pJ} {R : pR} (hr : RfX g R) (hI : XI g n L I) (cz : Int32) (cz_lo : 4 ≤ cz.toInt) (cz_hi : cz.toInt ≤ 4) : SP g mX3_faultInParts [.ref (ad g 3), .int cz, .ref (ad g 6)] I J R (fun r I' J' R' => (XI g n L I' ∧ R' = R ∧ True ∧ I' (ad g 6) 1 = I (ad g 6) 1 ∧ I' (ad g 6) 2 = I (ad g 6) 2) ∧ ∃ v : Int32, r = some (.int v) ∧ 0 ≤ v.toInt ∧ v.toInt ≤ 5 ∧ (v.toInt = 0 → (I' (ad g 4) 0).toInt ≤ 2 ∧ (I' (ad g 4) 1).toInt ≤ 6 ∧ (I' (ad g 4) 2).toInt ≤ 20)) := by
  refine SP_of ⟨by decide, rfl⟩ (Nat.le_of_ble_eq_true rfl) ?_
  have e16396 : I (ad g 1) 1 = L := hI.2
  have b16397 := BT_get hI.1 1 1 2 (0) (0) (900) (by decide) 1 (by decide) (by decide)
  rw [e16396] at b16397
  obtain ⟨w16398, ew16398⟩ : ∃ w : Int32, I (ad g 6) 1 = w := ⟨_, rfl⟩
  have bw16398 := BT_get hI.1 6 1 2 (0) (0) (4) (by decide) 1 (by decide) (by decide)
  rw [ew16398] at bw16398
  obtain ⟨w16399, ew16399⟩ : ∃ w : Int32, I (ad g 6) 2 = w := ⟨_, rfl⟩
  have bw16399 := BT_get hI.1 6 2 3 (0) (0) (3) (by decide) 2 (by decide) (by decide)
  rw [ew16399] at bw16399
  refine WP_iload_n dX3_faultInParts_0 rfl ?_
  refine WP_callS1 dX3_faultInParts_1 ⟨⟨⟨by decide, by decide⟩, zX3_shapeOf⟩, lX3_84, tX3_shapeOf⟩ (sx_shapeOf hy hz hr hI cz (by omega) (by omega)) (Nat.le_of_ble_eq_true rfl) ?_
  intro r Ia Ja Ra hq
  obtain ⟨⟨ea, eb, ec⟩, rfl⟩ := hq
  show WP _ _ _ _ (.ref _ :: _) _ _ _ _
  rw [show 10 + cz.toInt.toNat = 14 by omega]
  rw [ea, eb, ec]
  clear ea eb ec Ia Ja Ra
  refine WP_astore_n (ls' := [(0, _), (1, _), (2, _), (3, _)]) dX3_faultInParts_4 (by decide) rfl ?_
  refine WQ_iconst (0) (0) dX3_faultInParts_5 rfl rfl (fun v16400 hv16400 => ?_)
  refine WP_istore (ls' := [(0, _), (1, _), (2, _), (3, _), (4, _)]) dX3_faultInParts_6 (by decide) rfl ?_
  refine WP_iload dX3_faultInParts_8 rfl ?_
  refine WP_aload_n dX3_faultInParts_10 rfl ?_
  refine WS_call hz (i := 14) (by omega) dX3_faultInParts_11 ⟨⟨by decide, by decide⟩, zJ0_length_8abf5⟩ lX3_87 vJ0_length_8abf5 (As := []) (rest := [.int v16400]) (j_length hz (i := 14) (by omega)) rfl rfl (Nat.le_of_ble_eq_true rfl) ?_
  intro r Ia Ja Ra hq
  obtain ⟨⟨ea, eb, ec⟩, v16401, rfl, cv16401⟩ := hq
  show WP _ _ _ _ (.int _ :: _) _ _ _ _
  rw [ea, eb, ec]
  clear ea eb ec Ia Ja Ra
  have hv16401 : v16401.toInt = 3 := cv16401.trans rfl
  refine WQ_icmp_ge 125 dX3_faultInParts_14 rfl (fun c16401 => False.elim (by omega)) (fun c16401 => ?_)
  refine WP_iload dX3_faultInParts_17 rfl ?_
  refine WQ_iconst (5) (5) dX3_faultInParts_19 rfl rfl (fun v16403 hv16403 => ?_)
  refine WQ_icmp_ge 125 dX3_faultInParts_20 rfl (fun c16403 => False.elim (by omega)) (fun c16403 => ?_)
  refine WP_aload_n dX3_faultInParts_23 rfl ?_
  refine WP_iload dX3_faultInParts_24 rfl ?_
  refine WS_call hz (i := 14) (by omega) dX3_faultInParts_26 ⟨⟨by decide, by decide⟩, zJ0_charAt_5068e⟩ lX3_92 vJ0_charAt_5068e (As := [.int v16400]) (rest := []) (j_charAt hz (i := 14) (k := v16400) (by omega) (by omega) (by have z9 : ((liN.getD 14 0 : Nat) : Int) = 3 := rfl; omega)) rfl rfl (Nat.le_of_ble_eq_true rfl) ?_
  intro r Ia Ja Ra hq
  obtain ⟨⟨ea, eb, ec⟩, v16405, rfl, cv16405⟩ := hq
  show WP _ _ _ _ (.int _ :: _) _ _ _ _
  rw [ea, eb, ec]
  clear ea eb ec Ia Ja Ra
  have hv16405 : v16405.toInt = 116 := cv16405.trans (by rw [show v16400.toInt.toNat = 0 by omega]; rfl)
  refine WP_istore (ls' := [(0, _), (1, _), (2, _), (3, _), (4, _), (5, _)]) dX3_faultInParts_29 (by decide) rfl ?_
  refine WP_iload dX3_faultInParts_31 rfl ?_
  refine WQ_bipush (97) (97) dX3_faultInParts_33 rfl rfl (fun v16406 hv16406 => ?_)
  refine WQ_icmp_lt 49 dX3_faultInParts_35 rfl (fun c16406 => False.elim (by omega)) (fun c16406 => ?_)
  refine WP_iload dX3_faultInParts_38 rfl ?_
  refine WQ_bipush (122) (122) dX3_faultInParts_40 rfl rfl (fun v16408 hv16408 => ?_)
  refine WQ_icmp_gt 49 dX3_faultInParts_42 rfl (fun c16408 => False.elim (by omega)) (fun c16408 => ?_)
  refine WQ_iconst (1) (1) dX3_faultInParts_45 rfl rfl (fun v16410 hv16410 => ?_)
  refine WP_goto 50 dX3_faultInParts_46 rfl ?_
  refine WP_istore (ls' := [(0, _), (1, _), (2, _), (3, _), (4, _), (5, _), (6, _)]) dX3_faultInParts_50 (by decide) rfl ?_
  refine WP_aload_n dX3_faultInParts_52 rfl ?_
  refine WP_getr dX3_faultInParts_53 fX3_15 rfl (lyx_is hy 3 3 rfl) (rfx hr 3 2 1 (by decide)) ?_
  refine WQ_geti dX3_faultInParts_56 fX3_43 rfl (lyx_is hy 1 5 rfl) (BT_get hI.1 1 2 3 (0) (0) (4) (by decide) 2 (by decide) (by decide)) (fun v16411 ev16411 av16411 bv16411 => ?_)
  refine WP_iload dX3_faultInParts_59 rfl ?_
  refine WQ_if_eq 68 dX3_faultInParts_61 rfl (fun c16411 => False.elim (by omega)) (fun c16411 => ?_)
  refine WQ_iconst (1) (1) dX3_faultInParts_64 rfl rfl (fun v16413 hv16413 => ?_)
  refine WP_goto 69 dX3_faultInParts_65 rfl ?_
  refine WQ_icmp_eq 74 dX3_faultInParts_69 rfl (fun c16413 => ?_) (fun c16413 => ?_)
  · refine WP_iload dX3_faultInParts_74 rfl ?_
    refine WQ_if_eq 92 dX3_faultInParts_76 rfl (fun c16414 => False.elim (by omega)) (fun c16414 => ?_)
    refine WP_aload_n dX3_faultInParts_79 rfl ?_
    refine WP_iload dX3_faultInParts_80 rfl ?_
    refine WP_iload_n dX3_faultInParts_82 rfl ?_
    refine WP_iload dX3_faultInParts_83 rfl ?_
    refine WP_aload_n dX3_faultInParts_85 rfl ?_
    refine WP_callV4 (k := 3) dX3_faultInParts_86 ⟨⟨⟨by decide, by decide⟩, zX3_faultOfName⟩, lX3_96, by decide, rfl, vX3_faultOfName.1, vX3_faultOfName.2⟩ (lyx_is hy 3 3 rfl) (sx_part_6_4_0 hy hr hI v16405 cz v16400 (by omega) (by omega) (by omega) (by omega) (by omega) (by omega)) (Nat.le_of_ble_eq_true rfl) ?_
    intro r I16416 J16417 Ra hq
    obtain ⟨⟨hI16416, ec, ⟨pI16416, sI16416_6_1, sI16416_6_2⟩⟩, v16418, rfl, av16418, bv16418, cv16418⟩ := hq
    show WP _ _ _ _ (.int _ :: _) _ _ _ _
    rw [ec]
    clear ec Ra
    have e16419 : I16416 (ad g 6) 1 = w16398 := by rw [sI16416_6_1]; exact ew16398
    have e16420 : I16416 (ad g 6) 2 = w16399 := by rw [sI16416_6_2]; exact ew16399
    have e16421 : I16416 (ad g 1) 1 = L := hI16416.2
    have b16422 := BT_get hI16416.1 1 1 2 (0) (0) (900) (by decide) 1 (by decide) (by decide)
    rw [e16421] at b16422
    obtain ⟨w16423, ew16423⟩ : ∃ w : Int32, I16416 (ad g 4) 0 = w := ⟨_, rfl⟩
    have bw16423 := BT_get hI16416.1 4 0 5 (0) (0) (1000) (by decide) 0 (by decide) (by decide)
    rw [ew16423] at bw16423
    rw [ew16423] at cv16418
    refine WP_goto 102 dX3_faultInParts_89 rfl ?_
    refine WP_istore (ls' := [(0, _), (1, _), (2, _), (3, _), (4, _), (5, _), (6, _), (7, _)]) dX3_faultInParts_102 (by decide) rfl ?_
    refine WP_iload dX3_faultInParts_104 rfl ?_
    refine WQ_if_eq 112 dX3_faultInParts_106 rfl (fun c16423 => ?_) (fun c16423 => ?_)
    · refine WP_aload_n dX3_faultInParts_112 rfl ?_
      refine WP_getr dX3_faultInParts_113 fX3_15 rfl (lyx_is hy 3 3 rfl) (rfx hr 3 2 1 (by decide)) ?_
      refine WP_callV0 (k := 5) dX3_faultInParts_116 ⟨⟨⟨by decide, by decide⟩, zX5_next⟩, lX3_40, by decide, rfl, vX5_next.1, vX5_next.2⟩ (lyx_is hy 1 5 rfl) (sx_nextf hy hr hI16416  ) (Nat.le_of_ble_eq_true rfl) ?_
      intro r I16425 J16426 Ra hq
      obtain ⟨⟨hI16425, ec, fiI16425⟩, rfl⟩ := hq
      rw [ec]
      clear ec Ra
      have e16427 : I16425 (ad g 6) 1 = w16398 := by rw [fz_at fiI16425 6 (by decide) (by decide)]; exact e16419
      have e16428 : I16425 (ad g 6) 2 = w16399 := by rw [fz_at fiI16425 6 (by decide) (by decide)]; exact e16420
      have e16429 : I16425 (ad g 4) 0 = w16423 := by rw [fz_at fiI16425 4 (by decide) (by decide)]; exact ew16423
      have e16430 : I16425 (ad g 1) 1 = L := hI16425.2
      have b16431 := BT_get hI16425.1 1 1 2 (0) (0) (900) (by decide) 1 (by decide) (by decide)
      rw [e16430] at b16431
      refine WP_iinc (ls' := [(0, _), (1, _), (2, _), (3, _), (4, _), (5, _), (6, _), (7, _)]) dX3_faultInParts_119 rfl (by decide) rfl ?_
      have hv16432 : (v16400 + Int32.ofInt (1)).toInt = v16400.toInt + (1) := ia_n rfl (by omega) (by omega)
      generalize v16400 + Int32.ofInt (1) = v16432 at hv16432 ⊢
      refine WP_goto 8 dX3_faultInParts_122 rfl ?_
      refine WP_iload dX3_faultInParts_8 rfl ?_
      refine WP_aload_n dX3_faultInParts_10 rfl ?_
      refine WS_call hz (i := 14) (by omega) dX3_faultInParts_11 ⟨⟨by decide, by decide⟩, zJ0_length_8abf5⟩ lX3_87 vJ0_length_8abf5 (As := []) (rest := [.int v16432]) (j_length hz (i := 14) (by omega)) rfl rfl (Nat.le_of_ble_eq_true rfl) ?_
      intro r Ia Ja Ra hq
      obtain ⟨⟨ea, eb, ec⟩, v16433, rfl, cv16433⟩ := hq
      show WP _ _ _ _ (.int _ :: _) _ _ _ _
      rw [ea, eb, ec]
      clear ea eb ec Ia Ja Ra
      have hv16433 : v16433.toInt = 3 := cv16433.trans rfl
      refine WQ_icmp_ge 125 dX3_faultInParts_14 rfl (fun c16433 => False.elim (by omega)) (fun c16433 => ?_)
      refine WP_iload dX3_faultInParts_17 rfl ?_
      refine WQ_iconst (5) (5) dX3_faultInParts_19 rfl rfl (fun v16435 hv16435 => ?_)
      refine WQ_icmp_ge 125 dX3_faultInParts_20 rfl (fun c16435 => False.elim (by omega)) (fun c16435 => ?_)
      refine WP_aload_n dX3_faultInParts_23 rfl ?_
      refine WP_iload dX3_faultInParts_24 rfl ?_
      refine WS_call hz (i := 14) (by omega) dX3_faultInParts_26 ⟨⟨by decide, by decide⟩, zJ0_charAt_5068e⟩ lX3_92 vJ0_charAt_5068e (As := [.int v16432]) (rest := []) (j_charAt hz (i := 14) (k := v16432) (by omega) (by omega) (by have z9 : ((liN.getD 14 0 : Nat) : Int) = 3 := rfl; omega)) rfl rfl (Nat.le_of_ble_eq_true rfl) ?_
      intro r Ia Ja Ra hq
      obtain ⟨⟨ea, eb, ec⟩, v16437, rfl, cv16437⟩ := hq
      show WP _ _ _ _ (.int _ :: _) _ _ _ _
      rw [ea, eb, ec]
      clear ea eb ec Ia Ja Ra
      have hv16437 : v16437.toInt = 68 := cv16437.trans (by rw [show v16432.toInt.toNat = 1 by omega]; rfl)
      refine WP_istore (ls' := [(0, _), (1, _), (2, _), (3, _), (4, _), (5, _), (6, _), (7, _)]) dX3_faultInParts_29 (by decide) rfl ?_
      refine WP_iload dX3_faultInParts_31 rfl ?_
      refine WQ_bipush (97) (97) dX3_faultInParts_33 rfl rfl (fun v16438 hv16438 => ?_)
      refine WQ_icmp_lt 49 dX3_faultInParts_35 rfl (fun c16438 => ?_) (fun c16438 => False.elim (by omega))
      refine WQ_iconst (0) (0) dX3_faultInParts_49 rfl rfl (fun v16440 hv16440 => ?_)
      refine WP_istore (ls' := [(0, _), (1, _), (2, _), (3, _), (4, _), (5, _), (6, _), (7, _)]) dX3_faultInParts_50 (by decide) rfl ?_
      refine WP_aload_n dX3_faultInParts_52 rfl ?_
      refine WP_getr dX3_faultInParts_53 fX3_15 rfl (lyx_is hy 3 3 rfl) (rfx hr 3 2 1 (by decide)) ?_
      refine WQ_geti dX3_faultInParts_56 fX3_43 rfl (lyx_is hy 1 5 rfl) (BT_get hI16425.1 1 2 3 (0) (0) (4) (by decide) 2 (by decide) (by decide)) (fun v16441 ev16441 av16441 bv16441 => ?_)
      refine WP_iload dX3_faultInParts_59 rfl ?_
      refine WQ_if_eq 68 dX3_faultInParts_61 rfl (fun c16441 => ?_) (fun c16441 => False.elim (by omega))
      refine WQ_iconst (2) (2) dX3_faultInParts_68 rfl rfl (fun v16443 hv16443 => ?_)
      refine WQ_icmp_eq 74 dX3_faultInParts_69 rfl (fun c16443 => ?_) (fun c16443 => ?_)
      · refine WP_iload dX3_faultInParts_74 rfl ?_
        refine WQ_if_eq 92 dX3_faultInParts_76 rfl (fun c16444 => ?_) (fun c16444 => False.elim (by omega))
        refine WP_aload_n dX3_faultInParts_92 rfl ?_
        refine WP_iload dX3_faultInParts_93 rfl ?_
        refine WP_iload_n dX3_faultInParts_95 rfl ?_
        refine WP_iload dX3_faultInParts_96 rfl ?_
        refine WP_aload_n dX3_faultInParts_98 rfl ?_
        refine WP_callV4 (k := 3) dX3_faultInParts_99 ⟨⟨⟨by decide, by decide⟩, zX3_faultOfNumber⟩, lX3_100, by decide, rfl, vX3_faultOfNumber.1, vX3_faultOfNumber.2⟩ (lyx_is hy 3 3 rfl) (sx_part_6_4_1 hy hr hI16425 v16437 cz v16432 (by omega) (by omega) (by omega) (by omega) (by omega) (by omega) (by rw [e16429]; omega)) (Nat.le_of_ble_eq_true rfl) ?_
        intro r I16446 J16447 Ra hq
        obtain ⟨⟨hI16446, ec, ⟨pI16446, sI16446_4_0, sI16446_6_1, sI16446_6_2⟩⟩, v16448, rfl, av16448, bv16448, cv16448⟩ := hq
        show WP _ _ _ _ (.int _ :: _) _ _ _ _
        rw [ec]
        clear ec Ra
        have e16449 : I16446 (ad g 4) 0 = w16423 := by rw [sI16446_4_0]; exact e16429
        have e16450 : I16446 (ad g 6) 1 = w16398 := by rw [sI16446_6_1]; exact e16427
        have e16451 : I16446 (ad g 6) 2 = w16399 := by rw [sI16446_6_2]; exact e16428
        have e16452 : I16446 (ad g 1) 1 = L := hI16446.2
        have b16453 := BT_get hI16446.1 1 1 2 (0) (0) (900) (by decide) 1 (by decide) (by decide)
        rw [e16452] at b16453
        obtain ⟨w16454, ew16454⟩ : ∃ w : Int32, I16446 (ad g 4) 1 = w := ⟨_, rfl⟩
        have bw16454 := BT_get hI16446.1 4 0 5 (0) (0) (1000) (by decide) 1 (by decide) (by decide)
        rw [ew16454] at bw16454
        rw [ew16454] at cv16448
        refine WP_istore (ls' := [(0, _), (1, _), (2, _), (3, _), (4, _), (5, _), (6, _), (7, _)]) dX3_faultInParts_102 (by decide) rfl ?_
        refine WP_iload dX3_faultInParts_104 rfl ?_
        refine WQ_if_eq 112 dX3_faultInParts_106 rfl (fun c16454 => ?_) (fun c16454 => ?_)
        · refine WP_aload_n dX3_faultInParts_112 rfl ?_
          refine WP_getr dX3_faultInParts_113 fX3_15 rfl (lyx_is hy 3 3 rfl) (rfx hr 3 2 1 (by decide)) ?_
          refine WP_callV0 (k := 5) dX3_faultInParts_116 ⟨⟨⟨by decide, by decide⟩, zX5_next⟩, lX3_40, by decide, rfl, vX5_next.1, vX5_next.2⟩ (lyx_is hy 1 5 rfl) (sx_nextf hy hr hI16446  ) (Nat.le_of_ble_eq_true rfl) ?_
          intro r I16456 J16457 Ra hq
          obtain ⟨⟨hI16456, ec, fiI16456⟩, rfl⟩ := hq
          rw [ec]
          clear ec Ra
          have e16458 : I16456 (ad g 4) 0 = w16423 := by rw [fz_at fiI16456 4 (by decide) (by decide)]; exact e16449
          have e16459 : I16456 (ad g 6) 1 = w16398 := by rw [fz_at fiI16456 6 (by decide) (by decide)]; exact e16450
          have e16460 : I16456 (ad g 6) 2 = w16399 := by rw [fz_at fiI16456 6 (by decide) (by decide)]; exact e16451
          have e16461 : I16456 (ad g 4) 1 = w16454 := by rw [fz_at fiI16456 4 (by decide) (by decide)]; exact ew16454
          have e16462 : I16456 (ad g 1) 1 = L := hI16456.2
          have b16463 := BT_get hI16456.1 1 1 2 (0) (0) (900) (by decide) 1 (by decide) (by decide)
          rw [e16462] at b16463
          refine WP_iinc (ls' := [(0, _), (1, _), (2, _), (3, _), (4, _), (5, _), (6, _), (7, _)]) dX3_faultInParts_119 rfl (by decide) rfl ?_
          have hv16464 : (v16432 + Int32.ofInt (1)).toInt = v16432.toInt + (1) := ia_n rfl (by omega) (by omega)
          generalize v16432 + Int32.ofInt (1) = v16464 at hv16464 ⊢
          refine WP_goto 8 dX3_faultInParts_122 rfl ?_
          refine WP_iload dX3_faultInParts_8 rfl ?_
          refine WP_aload_n dX3_faultInParts_10 rfl ?_
          refine WS_call hz (i := 14) (by omega) dX3_faultInParts_11 ⟨⟨by decide, by decide⟩, zJ0_length_8abf5⟩ lX3_87 vJ0_length_8abf5 (As := []) (rest := [.int v16464]) (j_length hz (i := 14) (by omega)) rfl rfl (Nat.le_of_ble_eq_true rfl) ?_
          intro r Ia Ja Ra hq
          obtain ⟨⟨ea, eb, ec⟩, v16465, rfl, cv16465⟩ := hq
          show WP _ _ _ _ (.int _ :: _) _ _ _ _
          rw [ea, eb, ec]
          clear ea eb ec Ia Ja Ra
          have hv16465 : v16465.toInt = 3 := cv16465.trans rfl
          refine WQ_icmp_ge 125 dX3_faultInParts_14 rfl (fun c16465 => False.elim (by omega)) (fun c16465 => ?_)
          refine WP_iload dX3_faultInParts_17 rfl ?_
          refine WQ_iconst (5) (5) dX3_faultInParts_19 rfl rfl (fun v16467 hv16467 => ?_)
          refine WQ_icmp_ge 125 dX3_faultInParts_20 rfl (fun c16467 => False.elim (by omega)) (fun c16467 => ?_)
          refine WP_aload_n dX3_faultInParts_23 rfl ?_
          refine WP_iload dX3_faultInParts_24 rfl ?_
          refine WS_call hz (i := 14) (by omega) dX3_faultInParts_26 ⟨⟨by decide, by decide⟩, zJ0_charAt_5068e⟩ lX3_92 vJ0_charAt_5068e (As := [.int v16464]) (rest := []) (j_charAt hz (i := 14) (k := v16464) (by omega) (by omega) (by have z9 : ((liN.getD 14 0 : Nat) : Int) = 3 := rfl; omega)) rfl rfl (Nat.le_of_ble_eq_true rfl) ?_
          intro r Ia Ja Ra hq
          obtain ⟨⟨ea, eb, ec⟩, v16469, rfl, cv16469⟩ := hq
          show WP _ _ _ _ (.int _ :: _) _ _ _ _
          rw [ea, eb, ec]
          clear ea eb ec Ia Ja Ra
          have hv16469 : v16469.toInt = 69 := cv16469.trans (by rw [show v16464.toInt.toNat = 2 by omega]; rfl)
          refine WP_istore (ls' := [(0, _), (1, _), (2, _), (3, _), (4, _), (5, _), (6, _), (7, _)]) dX3_faultInParts_29 (by decide) rfl ?_
          refine WP_iload dX3_faultInParts_31 rfl ?_
          refine WQ_bipush (97) (97) dX3_faultInParts_33 rfl rfl (fun v16470 hv16470 => ?_)
          refine WQ_icmp_lt 49 dX3_faultInParts_35 rfl (fun c16470 => ?_) (fun c16470 => False.elim (by omega))
          refine WQ_iconst (0) (0) dX3_faultInParts_49 rfl rfl (fun v16472 hv16472 => ?_)
          refine WP_istore (ls' := [(0, _), (1, _), (2, _), (3, _), (4, _), (5, _), (6, _), (7, _)]) dX3_faultInParts_50 (by decide) rfl ?_
          refine WP_aload_n dX3_faultInParts_52 rfl ?_
          refine WP_getr dX3_faultInParts_53 fX3_15 rfl (lyx_is hy 3 3 rfl) (rfx hr 3 2 1 (by decide)) ?_
          refine WQ_geti dX3_faultInParts_56 fX3_43 rfl (lyx_is hy 1 5 rfl) (BT_get hI16456.1 1 2 3 (0) (0) (4) (by decide) 2 (by decide) (by decide)) (fun v16473 ev16473 av16473 bv16473 => ?_)
          refine WP_iload dX3_faultInParts_59 rfl ?_
          refine WQ_if_eq 68 dX3_faultInParts_61 rfl (fun c16473 => ?_) (fun c16473 => False.elim (by omega))
          refine WQ_iconst (2) (2) dX3_faultInParts_68 rfl rfl (fun v16475 hv16475 => ?_)
          refine WQ_icmp_eq 74 dX3_faultInParts_69 rfl (fun c16475 => ?_) (fun c16475 => ?_)
          · refine WP_iload dX3_faultInParts_74 rfl ?_
            refine WQ_if_eq 92 dX3_faultInParts_76 rfl (fun c16476 => ?_) (fun c16476 => False.elim (by omega))
            refine WP_aload_n dX3_faultInParts_92 rfl ?_
            refine WP_iload dX3_faultInParts_93 rfl ?_
            refine WP_iload_n dX3_faultInParts_95 rfl ?_
            refine WP_iload dX3_faultInParts_96 rfl ?_
            refine WP_aload_n dX3_faultInParts_98 rfl ?_
            refine WP_callV4 (k := 3) dX3_faultInParts_99 ⟨⟨⟨by decide, by decide⟩, zX3_faultOfNumber⟩, lX3_100, by decide, rfl, vX3_faultOfNumber.1, vX3_faultOfNumber.2⟩ (lyx_is hy 3 3 rfl) (sx_part_6_4_2 hy hr hI16456 v16469 cz v16464 (by omega) (by omega) (by omega) (by omega) (by omega) (by omega)) (Nat.le_of_ble_eq_true rfl) ?_
            intro r I16478 J16479 Ra hq
            obtain ⟨⟨hI16478, ec, ⟨pI16478, sI16478_4_0, sI16478_4_1, sI16478_6_1, sI16478_6_2⟩⟩, v16480, rfl, av16480, bv16480, cv16480⟩ := hq
            show WP _ _ _ _ (.int _ :: _) _ _ _ _
            rw [ec]
            clear ec Ra
            have e16481 : I16478 (ad g 4) 0 = w16423 := by rw [sI16478_4_0]; exact e16458
            have e16482 : I16478 (ad g 4) 1 = w16454 := by rw [sI16478_4_1]; exact e16461
            have e16483 : I16478 (ad g 6) 1 = w16398 := by rw [sI16478_6_1]; exact e16459
            have e16484 : I16478 (ad g 6) 2 = w16399 := by rw [sI16478_6_2]; exact e16460
            have e16485 : I16478 (ad g 1) 1 = L := hI16478.2
            have b16486 := BT_get hI16478.1 1 1 2 (0) (0) (900) (by decide) 1 (by decide) (by decide)
            rw [e16485] at b16486
            obtain ⟨w16487, ew16487⟩ : ∃ w : Int32, I16478 (ad g 4) 2 = w := ⟨_, rfl⟩
            have bw16487 := BT_get hI16478.1 4 0 5 (0) (0) (1000) (by decide) 2 (by decide) (by decide)
            rw [ew16487] at bw16487
            rw [ew16487] at cv16480
            refine WP_istore (ls' := [(0, _), (1, _), (2, _), (3, _), (4, _), (5, _), (6, _), (7, _)]) dX3_faultInParts_102 (by decide) rfl ?_
            refine WP_iload dX3_faultInParts_104 rfl ?_
            refine WQ_if_eq 112 dX3_faultInParts_106 rfl (fun c16487 => ?_) (fun c16487 => ?_)
            · refine WP_aload_n dX3_faultInParts_112 rfl ?_
              refine WP_getr dX3_faultInParts_113 fX3_15 rfl (lyx_is hy 3 3 rfl) (rfx hr 3 2 1 (by decide)) ?_
              refine WP_callV0 (k := 5) dX3_faultInParts_116 ⟨⟨⟨by decide, by decide⟩, zX5_next⟩, lX3_40, by decide, rfl, vX5_next.1, vX5_next.2⟩ (lyx_is hy 1 5 rfl) (sx_nextf hy hr hI16478  ) (Nat.le_of_ble_eq_true rfl) ?_
              intro r I16489 J16490 Ra hq
              obtain ⟨⟨hI16489, ec, fiI16489⟩, rfl⟩ := hq
              rw [ec]
              clear ec Ra
              have e16491 : I16489 (ad g 4) 0 = w16423 := by rw [fz_at fiI16489 4 (by decide) (by decide)]; exact e16481
              have e16492 : I16489 (ad g 4) 1 = w16454 := by rw [fz_at fiI16489 4 (by decide) (by decide)]; exact e16482
              have e16493 : I16489 (ad g 6) 1 = w16398 := by rw [fz_at fiI16489 6 (by decide) (by decide)]; exact e16483
              have e16494 : I16489 (ad g 6) 2 = w16399 := by rw [fz_at fiI16489 6 (by decide) (by decide)]; exact e16484
              have e16495 : I16489 (ad g 4) 2 = w16487 := by rw [fz_at fiI16489 4 (by decide) (by decide)]; exact ew16487
              have e16496 : I16489 (ad g 1) 1 = L := hI16489.2
              have b16497 := BT_get hI16489.1 1 1 2 (0) (0) (900) (by decide) 1 (by decide) (by decide)
              rw [e16496] at b16497
              refine WP_iinc (ls' := [(0, _), (1, _), (2, _), (3, _), (4, _), (5, _), (6, _), (7, _)]) dX3_faultInParts_119 rfl (by decide) rfl ?_
              have hv16498 : (v16464 + Int32.ofInt (1)).toInt = v16464.toInt + (1) := ia_n rfl (by omega) (by omega)
              generalize v16464 + Int32.ofInt (1) = v16498 at hv16498 ⊢
              refine WP_goto 8 dX3_faultInParts_122 rfl ?_
              refine WP_iload dX3_faultInParts_8 rfl ?_
              refine WP_aload_n dX3_faultInParts_10 rfl ?_
              refine WS_call hz (i := 14) (by omega) dX3_faultInParts_11 ⟨⟨by decide, by decide⟩, zJ0_length_8abf5⟩ lX3_87 vJ0_length_8abf5 (As := []) (rest := [.int v16498]) (j_length hz (i := 14) (by omega)) rfl rfl (Nat.le_of_ble_eq_true rfl) ?_
              intro r Ia Ja Ra hq
              obtain ⟨⟨ea, eb, ec⟩, v16499, rfl, cv16499⟩ := hq
              show WP _ _ _ _ (.int _ :: _) _ _ _ _
              rw [ea, eb, ec]
              clear ea eb ec Ia Ja Ra
              have hv16499 : v16499.toInt = 3 := cv16499.trans rfl
              refine WQ_icmp_ge 125 dX3_faultInParts_14 rfl (fun c16499 => ?_) (fun c16499 => False.elim (by omega))
              refine WP_aload_n dX3_faultInParts_125 rfl ?_
              refine WP_getr dX3_faultInParts_126 fX3_15 rfl (lyx_is hy 3 3 rfl) (rfx hr 3 2 1 (by decide)) ?_
              refine WQ_geti dX3_faultInParts_129 fX3_43 rfl (lyx_is hy 1 5 rfl) (BT_get hI16489.1 1 2 3 (0) (0) (4) (by decide) 2 (by decide) (by decide)) (fun v16501 ev16501 av16501 bv16501 => ?_)
              refine WQ_iconst (3) (3) dX3_faultInParts_132 rfl rfl (fun v16502 hv16502 => ?_)
              refine WQ_icmp_ne 140 dX3_faultInParts_133 rfl (fun c16502 => ?_) (fun c16502 => ?_)
              · refine WQ_iconst (1) (1) dX3_faultInParts_140 rfl rfl (fun v16504 hv16504 => ?_)
                exact WP_iret dX3_faultInParts_141 rfl ⟨⟨hI16489, rfl, ⟨trivial, (by rw [e16493, ew16398] <;> exact (eq32 _ _).mpr (by omega)), (by rw [e16494, ew16399] <;> exact (eq32 _ _).mpr (by omega))⟩⟩, _, rfl, by omega, by omega, by (try rw [e16491]; try rw [e16492]; try rw [e16495]); omega⟩
              · refine WQ_iconst (0) (0) dX3_faultInParts_136 rfl rfl (fun v16505 hv16505 => ?_)
                refine WP_goto 141 dX3_faultInParts_137 rfl ?_
                exact WP_iret dX3_faultInParts_141 rfl ⟨⟨hI16489, rfl, ⟨trivial, (by rw [e16493, ew16398] <;> exact (eq32 _ _).mpr (by omega)), (by rw [e16494, ew16399] <;> exact (eq32 _ _).mpr (by omega))⟩⟩, _, rfl, by omega, by omega, by (try rw [e16491]; try rw [e16492]; try rw [e16495]); omega⟩
            · refine WP_iload dX3_faultInParts_109 rfl ?_
              exact WP_iret dX3_faultInParts_111 rfl ⟨⟨hI16478, rfl, ⟨trivial, (by rw [e16483, ew16398] <;> exact (eq32 _ _).mpr (by omega)), (by rw [e16484, ew16399] <;> exact (eq32 _ _).mpr (by omega))⟩⟩, _, rfl, by omega, by omega, by (try rw [e16481]; try rw [e16482]; try rw [ew16487]); omega⟩
          · refine WQ_iconst (1) (1) dX3_faultInParts_72 rfl rfl (fun v16506 hv16506 => ?_)
            obtain ⟨w16507, ew16507⟩ : ∃ w : Int32, I16456 (ad g 4) 2 = w := ⟨_, rfl⟩
            have bw16507 := BT_get hI16456.1 4 0 5 (0) (0) (1000) (by decide) 2 (by decide) (by decide)
            rw [ew16507] at bw16507
            exact WP_iret dX3_faultInParts_73 rfl ⟨⟨hI16456, rfl, ⟨trivial, (by rw [e16459, ew16398] <;> exact (eq32 _ _).mpr (by omega)), (by rw [e16460, ew16399] <;> exact (eq32 _ _).mpr (by omega))⟩⟩, _, rfl, by omega, by omega, by (try rw [e16458]; try rw [e16461]; try rw [ew16507]); omega⟩
        · refine WP_iload dX3_faultInParts_109 rfl ?_
          obtain ⟨w16508, ew16508⟩ : ∃ w : Int32, I16446 (ad g 4) 2 = w := ⟨_, rfl⟩
          have bw16508 := BT_get hI16446.1 4 0 5 (0) (0) (1000) (by decide) 2 (by decide) (by decide)
          rw [ew16508] at bw16508
          exact WP_iret dX3_faultInParts_111 rfl ⟨⟨hI16446, rfl, ⟨trivial, (by rw [e16450, ew16398] <;> exact (eq32 _ _).mpr (by omega)), (by rw [e16451, ew16399] <;> exact (eq32 _ _).mpr (by omega))⟩⟩, _, rfl, by omega, by omega, by (try rw [e16449]; try rw [ew16454]; try rw [ew16508]); omega⟩
      · refine WQ_iconst (1) (1) dX3_faultInParts_72 rfl rfl (fun v16509 hv16509 => ?_)
        obtain ⟨w16510, ew16510⟩ : ∃ w : Int32, I16425 (ad g 4) 1 = w := ⟨_, rfl⟩
        have bw16510 := BT_get hI16425.1 4 0 5 (0) (0) (1000) (by decide) 1 (by decide) (by decide)
        rw [ew16510] at bw16510
        obtain ⟨w16511, ew16511⟩ : ∃ w : Int32, I16425 (ad g 4) 2 = w := ⟨_, rfl⟩
        have bw16511 := BT_get hI16425.1 4 0 5 (0) (0) (1000) (by decide) 2 (by decide) (by decide)
        rw [ew16511] at bw16511
        exact WP_iret dX3_faultInParts_73 rfl ⟨⟨hI16425, rfl, ⟨trivial, (by rw [e16427, ew16398] <;> exact (eq32 _ _).mpr (by omega)), (by rw [e16428, ew16399] <;> exact (eq32 _ _).mpr (by omega))⟩⟩, _, rfl, by omega, by omega, by (try rw [e16429]; try rw [ew16510]; try rw [ew16511]); omega⟩
    · refine WP_iload dX3_faultInParts_109 rfl ?_
      obtain ⟨w16512, ew16512⟩ : ∃ w : Int32, I16416 (ad g 4) 1 = w := ⟨_, rfl⟩
      have bw16512 := BT_get hI16416.1 4 0 5 (0) (0) (1000) (by decide) 1 (by decide) (by decide)
      rw [ew16512] at bw16512
      obtain ⟨w16513, ew16513⟩ : ∃ w : Int32, I16416 (ad g 4) 2 = w := ⟨_, rfl⟩
      have bw16513 := BT_get hI16416.1 4 0 5 (0) (0) (1000) (by decide) 2 (by decide) (by decide)
      rw [ew16513] at bw16513
      exact WP_iret dX3_faultInParts_111 rfl ⟨⟨hI16416, rfl, ⟨trivial, (by rw [e16419, ew16398] <;> exact (eq32 _ _).mpr (by omega)), (by rw [e16420, ew16399] <;> exact (eq32 _ _).mpr (by omega))⟩⟩, _, rfl, by omega, by omega, by (try rw [ew16423]; try rw [ew16512]; try rw [ew16513]); omega⟩
  · refine WQ_iconst (1) (1) dX3_faultInParts_72 rfl rfl (fun v16514 hv16514 => ?_)
    obtain ⟨w16515, ew16515⟩ : ∃ w : Int32, I (ad g 4) 0 = w := ⟨_, rfl⟩
    have bw16515 := BT_get hI.1 4 0 5 (0) (0) (1000) (by decide) 0 (by decide) (by decide)
    rw [ew16515] at bw16515
    obtain ⟨w16516, ew16516⟩ : ∃ w : Int32, I (ad g 4) 1 = w := ⟨_, rfl⟩
    have bw16516 := BT_get hI.1 4 0 5 (0) (0) (1000) (by decide) 1 (by decide) (by decide)
    rw [ew16516] at bw16516
    obtain ⟨w16517, ew16517⟩ : ∃ w : Int32, I (ad g 4) 2 = w := ⟨_, rfl⟩
    have bw16517 := BT_get hI.1 4 0 5 (0) (0) (1000) (by decide) 2 (by decide) (by decide)
    rw [ew16517] at bw16517
    exact WP_iret dX3_faultInParts_73 rfl ⟨⟨hI, rfl, ⟨trivial, rfl, rfl⟩⟩, _, rfl, by omega, by omega, by (try rw [ew16515]; try rw [ew16516]; try rw [ew16517]); omega⟩
set_option maxHeartbeats 4000000 in
set_option maxRecDepth 100000 in
theorem sx_parts_6_5 {g : GG} {n : Int} {L : Int32} (hy : LyX g) {aK aV : Nat → Nat} {fo : Option Nat} (hz : HZ g aK aV fo)  {I : pI} {J : pJ} {R : pR} (hr : RfX g R) (hI : XI g n L I) (cz : Int32) (cz_lo : 5 ≤ cz.toInt) (cz_hi : cz.toInt ≤ 5) : SP g mX3_faultInParts [.ref (ad g 3), .int cz, .ref (ad g 6)] I J R (fun r I' J' R' => (XI g n L I' ∧ R' = R ∧ True ∧ I' (ad g 6) 1 = I (ad g 6) 1 ∧ I' (ad g 6) 2 = I (ad g 6) 2) ∧ ∃ v : Int32, r = some (.int v) ∧ 0 ≤ v.toInt ∧ v.toInt ≤ 5 ∧ (v.toInt = 0 → (I' (ad g 4) 0).toInt ≤ 2 ∧ (I' (ad g 4) 1).toInt ≤ 6 ∧ (I' (ad g 4) 2).toInt ≤ 999)) := by
  refine SP_of ⟨by decide, rfl⟩ (Nat.le_of_ble_eq_true rfl) ?_
  have e16518 : I (ad g 1) 1 = L := hI.2
  have b16519 := BT_get hI.1 1 1 2 (0) (0) (900) (by decide) 1 (by decide) (by decide)
  rw [e16518] at b16519
  obtain ⟨w16520, ew16520⟩ : ∃ w : Int32, I (ad g 6) 1 = w := ⟨_, rfl⟩
  have bw16520 := BT_get hI.1 6 1 2 (0) (0) (4) (by decide) 1 (by decide) (by decide)
  rw [ew16520] at bw16520
  obtain ⟨w16521, ew16521⟩ : ∃ w : Int32, I (ad g 6) 2 = w := ⟨_, rfl⟩
  have bw16521 := BT_get hI.1 6 2 3 (0) (0) (3) (by decide) 2 (by decide) (by decide)
  rw [ew16521] at bw16521
  refine WP_iload_n dX3_faultInParts_0 rfl ?_
  refine WP_callS1 dX3_faultInParts_1 ⟨⟨⟨by decide, by decide⟩, zX3_shapeOf⟩, lX3_84, tX3_shapeOf⟩ (sx_shapeOf hy hz hr hI cz (by omega) (by omega)) (Nat.le_of_ble_eq_true rfl) ?_
  intro r Ia Ja Ra hq
  obtain ⟨⟨ea, eb, ec⟩, rfl⟩ := hq
  show WP _ _ _ _ (.ref _ :: _) _ _ _ _
  rw [show 10 + cz.toInt.toNat = 15 by omega]
  rw [ea, eb, ec]
  clear ea eb ec Ia Ja Ra
  refine WP_astore_n (ls' := [(0, _), (1, _), (2, _), (3, _)]) dX3_faultInParts_4 (by decide) rfl ?_
  refine WQ_iconst (0) (0) dX3_faultInParts_5 rfl rfl (fun v16522 hv16522 => ?_)
  refine WP_istore (ls' := [(0, _), (1, _), (2, _), (3, _), (4, _)]) dX3_faultInParts_6 (by decide) rfl ?_
  refine WP_iload dX3_faultInParts_8 rfl ?_
  refine WP_aload_n dX3_faultInParts_10 rfl ?_
  refine WS_call hz (i := 15) (by omega) dX3_faultInParts_11 ⟨⟨by decide, by decide⟩, zJ0_length_8abf5⟩ lX3_87 vJ0_length_8abf5 (As := []) (rest := [.int v16522]) (j_length hz (i := 15) (by omega)) rfl rfl (Nat.le_of_ble_eq_true rfl) ?_
  intro r Ia Ja Ra hq
  obtain ⟨⟨ea, eb, ec⟩, v16523, rfl, cv16523⟩ := hq
  show WP _ _ _ _ (.int _ :: _) _ _ _ _
  rw [ea, eb, ec]
  clear ea eb ec Ia Ja Ra
  have hv16523 : v16523.toInt = 3 := cv16523.trans rfl
  refine WQ_icmp_ge 125 dX3_faultInParts_14 rfl (fun c16523 => False.elim (by omega)) (fun c16523 => ?_)
  refine WP_iload dX3_faultInParts_17 rfl ?_
  refine WQ_iconst (5) (5) dX3_faultInParts_19 rfl rfl (fun v16525 hv16525 => ?_)
  refine WQ_icmp_ge 125 dX3_faultInParts_20 rfl (fun c16525 => False.elim (by omega)) (fun c16525 => ?_)
  refine WP_aload_n dX3_faultInParts_23 rfl ?_
  refine WP_iload dX3_faultInParts_24 rfl ?_
  refine WS_call hz (i := 15) (by omega) dX3_faultInParts_26 ⟨⟨by decide, by decide⟩, zJ0_charAt_5068e⟩ lX3_92 vJ0_charAt_5068e (As := [.int v16522]) (rest := []) (j_charAt hz (i := 15) (k := v16522) (by omega) (by omega) (by have z9 : ((liN.getD 15 0 : Nat) : Int) = 3 := rfl; omega)) rfl rfl (Nat.le_of_ble_eq_true rfl) ?_
  intro r Ia Ja Ra hq
  obtain ⟨⟨ea, eb, ec⟩, v16527, rfl, cv16527⟩ := hq
  show WP _ _ _ _ (.int _ :: _) _ _ _ _
  rw [ea, eb, ec]
  clear ea eb ec Ia Ja Ra
  have hv16527 : v16527.toInt = 116 := cv16527.trans (by rw [show v16522.toInt.toNat = 0 by omega]; rfl)
  refine WP_istore (ls' := [(0, _), (1, _), (2, _), (3, _), (4, _), (5, _)]) dX3_faultInParts_29 (by decide) rfl ?_
  refine WP_iload dX3_faultInParts_31 rfl ?_
  refine WQ_bipush (97) (97) dX3_faultInParts_33 rfl rfl (fun v16528 hv16528 => ?_)
  refine WQ_icmp_lt 49 dX3_faultInParts_35 rfl (fun c16528 => False.elim (by omega)) (fun c16528 => ?_)
  refine WP_iload dX3_faultInParts_38 rfl ?_
  refine WQ_bipush (122) (122) dX3_faultInParts_40 rfl rfl (fun v16530 hv16530 => ?_)
  refine WQ_icmp_gt 49 dX3_faultInParts_42 rfl (fun c16530 => False.elim (by omega)) (fun c16530 => ?_)
  refine WQ_iconst (1) (1) dX3_faultInParts_45 rfl rfl (fun v16532 hv16532 => ?_)
  refine WP_goto 50 dX3_faultInParts_46 rfl ?_
  refine WP_istore (ls' := [(0, _), (1, _), (2, _), (3, _), (4, _), (5, _), (6, _)]) dX3_faultInParts_50 (by decide) rfl ?_
  refine WP_aload_n dX3_faultInParts_52 rfl ?_
  refine WP_getr dX3_faultInParts_53 fX3_15 rfl (lyx_is hy 3 3 rfl) (rfx hr 3 2 1 (by decide)) ?_
  refine WQ_geti dX3_faultInParts_56 fX3_43 rfl (lyx_is hy 1 5 rfl) (BT_get hI.1 1 2 3 (0) (0) (4) (by decide) 2 (by decide) (by decide)) (fun v16533 ev16533 av16533 bv16533 => ?_)
  refine WP_iload dX3_faultInParts_59 rfl ?_
  refine WQ_if_eq 68 dX3_faultInParts_61 rfl (fun c16533 => False.elim (by omega)) (fun c16533 => ?_)
  refine WQ_iconst (1) (1) dX3_faultInParts_64 rfl rfl (fun v16535 hv16535 => ?_)
  refine WP_goto 69 dX3_faultInParts_65 rfl ?_
  refine WQ_icmp_eq 74 dX3_faultInParts_69 rfl (fun c16535 => ?_) (fun c16535 => ?_)
  · refine WP_iload dX3_faultInParts_74 rfl ?_
    refine WQ_if_eq 92 dX3_faultInParts_76 rfl (fun c16536 => False.elim (by omega)) (fun c16536 => ?_)
    refine WP_aload_n dX3_faultInParts_79 rfl ?_
    refine WP_iload dX3_faultInParts_80 rfl ?_
    refine WP_iload_n dX3_faultInParts_82 rfl ?_
    refine WP_iload dX3_faultInParts_83 rfl ?_
    refine WP_aload_n dX3_faultInParts_85 rfl ?_
    refine WP_callV4 (k := 3) dX3_faultInParts_86 ⟨⟨⟨by decide, by decide⟩, zX3_faultOfName⟩, lX3_96, by decide, rfl, vX3_faultOfName.1, vX3_faultOfName.2⟩ (lyx_is hy 3 3 rfl) (sx_part_6_5_0 hy hr hI v16527 cz v16522 (by omega) (by omega) (by omega) (by omega) (by omega) (by omega)) (Nat.le_of_ble_eq_true rfl) ?_
    intro r I16538 J16539 Ra hq
    obtain ⟨⟨hI16538, ec, ⟨pI16538, sI16538_6_1, sI16538_6_2⟩⟩, v16540, rfl, av16540, bv16540, cv16540⟩ := hq
    show WP _ _ _ _ (.int _ :: _) _ _ _ _
    rw [ec]
    clear ec Ra
    have e16541 : I16538 (ad g 6) 1 = w16520 := by rw [sI16538_6_1]; exact ew16520
    have e16542 : I16538 (ad g 6) 2 = w16521 := by rw [sI16538_6_2]; exact ew16521
    have e16543 : I16538 (ad g 1) 1 = L := hI16538.2
    have b16544 := BT_get hI16538.1 1 1 2 (0) (0) (900) (by decide) 1 (by decide) (by decide)
    rw [e16543] at b16544
    obtain ⟨w16545, ew16545⟩ : ∃ w : Int32, I16538 (ad g 4) 0 = w := ⟨_, rfl⟩
    have bw16545 := BT_get hI16538.1 4 0 5 (0) (0) (1000) (by decide) 0 (by decide) (by decide)
    rw [ew16545] at bw16545
    rw [ew16545] at cv16540
    refine WP_goto 102 dX3_faultInParts_89 rfl ?_
    refine WP_istore (ls' := [(0, _), (1, _), (2, _), (3, _), (4, _), (5, _), (6, _), (7, _)]) dX3_faultInParts_102 (by decide) rfl ?_
    refine WP_iload dX3_faultInParts_104 rfl ?_
    refine WQ_if_eq 112 dX3_faultInParts_106 rfl (fun c16545 => ?_) (fun c16545 => ?_)
    · refine WP_aload_n dX3_faultInParts_112 rfl ?_
      refine WP_getr dX3_faultInParts_113 fX3_15 rfl (lyx_is hy 3 3 rfl) (rfx hr 3 2 1 (by decide)) ?_
      refine WP_callV0 (k := 5) dX3_faultInParts_116 ⟨⟨⟨by decide, by decide⟩, zX5_next⟩, lX3_40, by decide, rfl, vX5_next.1, vX5_next.2⟩ (lyx_is hy 1 5 rfl) (sx_nextf hy hr hI16538  ) (Nat.le_of_ble_eq_true rfl) ?_
      intro r I16547 J16548 Ra hq
      obtain ⟨⟨hI16547, ec, fiI16547⟩, rfl⟩ := hq
      rw [ec]
      clear ec Ra
      have e16549 : I16547 (ad g 6) 1 = w16520 := by rw [fz_at fiI16547 6 (by decide) (by decide)]; exact e16541
      have e16550 : I16547 (ad g 6) 2 = w16521 := by rw [fz_at fiI16547 6 (by decide) (by decide)]; exact e16542
      have e16551 : I16547 (ad g 4) 0 = w16545 := by rw [fz_at fiI16547 4 (by decide) (by decide)]; exact ew16545
      have e16552 : I16547 (ad g 1) 1 = L := hI16547.2
      have b16553 := BT_get hI16547.1 1 1 2 (0) (0) (900) (by decide) 1 (by decide) (by decide)
      rw [e16552] at b16553
      refine WP_iinc (ls' := [(0, _), (1, _), (2, _), (3, _), (4, _), (5, _), (6, _), (7, _)]) dX3_faultInParts_119 rfl (by decide) rfl ?_
      have hv16554 : (v16522 + Int32.ofInt (1)).toInt = v16522.toInt + (1) := ia_n rfl (by omega) (by omega)
      generalize v16522 + Int32.ofInt (1) = v16554 at hv16554 ⊢
      refine WP_goto 8 dX3_faultInParts_122 rfl ?_
      refine WP_iload dX3_faultInParts_8 rfl ?_
      refine WP_aload_n dX3_faultInParts_10 rfl ?_
      refine WS_call hz (i := 15) (by omega) dX3_faultInParts_11 ⟨⟨by decide, by decide⟩, zJ0_length_8abf5⟩ lX3_87 vJ0_length_8abf5 (As := []) (rest := [.int v16554]) (j_length hz (i := 15) (by omega)) rfl rfl (Nat.le_of_ble_eq_true rfl) ?_
      intro r Ia Ja Ra hq
      obtain ⟨⟨ea, eb, ec⟩, v16555, rfl, cv16555⟩ := hq
      show WP _ _ _ _ (.int _ :: _) _ _ _ _
      rw [ea, eb, ec]
      clear ea eb ec Ia Ja Ra
      have hv16555 : v16555.toInt = 3 := cv16555.trans rfl
      refine WQ_icmp_ge 125 dX3_faultInParts_14 rfl (fun c16555 => False.elim (by omega)) (fun c16555 => ?_)
      refine WP_iload dX3_faultInParts_17 rfl ?_
      refine WQ_iconst (5) (5) dX3_faultInParts_19 rfl rfl (fun v16557 hv16557 => ?_)
      refine WQ_icmp_ge 125 dX3_faultInParts_20 rfl (fun c16557 => False.elim (by omega)) (fun c16557 => ?_)
      refine WP_aload_n dX3_faultInParts_23 rfl ?_
      refine WP_iload dX3_faultInParts_24 rfl ?_
      refine WS_call hz (i := 15) (by omega) dX3_faultInParts_26 ⟨⟨by decide, by decide⟩, zJ0_charAt_5068e⟩ lX3_92 vJ0_charAt_5068e (As := [.int v16554]) (rest := []) (j_charAt hz (i := 15) (k := v16554) (by omega) (by omega) (by have z9 : ((liN.getD 15 0 : Nat) : Int) = 3 := rfl; omega)) rfl rfl (Nat.le_of_ble_eq_true rfl) ?_
      intro r Ia Ja Ra hq
      obtain ⟨⟨ea, eb, ec⟩, v16559, rfl, cv16559⟩ := hq
      show WP _ _ _ _ (.int _ :: _) _ _ _ _
      rw [ea, eb, ec]
      clear ea eb ec Ia Ja Ra
      have hv16559 : v16559.toInt = 68 := cv16559.trans (by rw [show v16554.toInt.toNat = 1 by omega]; rfl)
      refine WP_istore (ls' := [(0, _), (1, _), (2, _), (3, _), (4, _), (5, _), (6, _), (7, _)]) dX3_faultInParts_29 (by decide) rfl ?_
      refine WP_iload dX3_faultInParts_31 rfl ?_
      refine WQ_bipush (97) (97) dX3_faultInParts_33 rfl rfl (fun v16560 hv16560 => ?_)
      refine WQ_icmp_lt 49 dX3_faultInParts_35 rfl (fun c16560 => ?_) (fun c16560 => False.elim (by omega))
      refine WQ_iconst (0) (0) dX3_faultInParts_49 rfl rfl (fun v16562 hv16562 => ?_)
      refine WP_istore (ls' := [(0, _), (1, _), (2, _), (3, _), (4, _), (5, _), (6, _), (7, _)]) dX3_faultInParts_50 (by decide) rfl ?_
      refine WP_aload_n dX3_faultInParts_52 rfl ?_
      refine WP_getr dX3_faultInParts_53 fX3_15 rfl (lyx_is hy 3 3 rfl) (rfx hr 3 2 1 (by decide)) ?_
      refine WQ_geti dX3_faultInParts_56 fX3_43 rfl (lyx_is hy 1 5 rfl) (BT_get hI16547.1 1 2 3 (0) (0) (4) (by decide) 2 (by decide) (by decide)) (fun v16563 ev16563 av16563 bv16563 => ?_)
      refine WP_iload dX3_faultInParts_59 rfl ?_
      refine WQ_if_eq 68 dX3_faultInParts_61 rfl (fun c16563 => ?_) (fun c16563 => False.elim (by omega))
      refine WQ_iconst (2) (2) dX3_faultInParts_68 rfl rfl (fun v16565 hv16565 => ?_)
      refine WQ_icmp_eq 74 dX3_faultInParts_69 rfl (fun c16565 => ?_) (fun c16565 => ?_)
      · refine WP_iload dX3_faultInParts_74 rfl ?_
        refine WQ_if_eq 92 dX3_faultInParts_76 rfl (fun c16566 => ?_) (fun c16566 => False.elim (by omega))
        refine WP_aload_n dX3_faultInParts_92 rfl ?_
        refine WP_iload dX3_faultInParts_93 rfl ?_
        refine WP_iload_n dX3_faultInParts_95 rfl ?_
        refine WP_iload dX3_faultInParts_96 rfl ?_
        refine WP_aload_n dX3_faultInParts_98 rfl ?_
        refine WP_callV4 (k := 3) dX3_faultInParts_99 ⟨⟨⟨by decide, by decide⟩, zX3_faultOfNumber⟩, lX3_100, by decide, rfl, vX3_faultOfNumber.1, vX3_faultOfNumber.2⟩ (lyx_is hy 3 3 rfl) (sx_part_6_5_1 hy hr hI16547 v16559 cz v16554 (by omega) (by omega) (by omega) (by omega) (by omega) (by omega) (by rw [e16551]; omega)) (Nat.le_of_ble_eq_true rfl) ?_
        intro r I16568 J16569 Ra hq
        obtain ⟨⟨hI16568, ec, ⟨pI16568, sI16568_4_0, sI16568_6_1, sI16568_6_2⟩⟩, v16570, rfl, av16570, bv16570, cv16570⟩ := hq
        show WP _ _ _ _ (.int _ :: _) _ _ _ _
        rw [ec]
        clear ec Ra
        have e16571 : I16568 (ad g 4) 0 = w16545 := by rw [sI16568_4_0]; exact e16551
        have e16572 : I16568 (ad g 6) 1 = w16520 := by rw [sI16568_6_1]; exact e16549
        have e16573 : I16568 (ad g 6) 2 = w16521 := by rw [sI16568_6_2]; exact e16550
        have e16574 : I16568 (ad g 1) 1 = L := hI16568.2
        have b16575 := BT_get hI16568.1 1 1 2 (0) (0) (900) (by decide) 1 (by decide) (by decide)
        rw [e16574] at b16575
        obtain ⟨w16576, ew16576⟩ : ∃ w : Int32, I16568 (ad g 4) 1 = w := ⟨_, rfl⟩
        have bw16576 := BT_get hI16568.1 4 0 5 (0) (0) (1000) (by decide) 1 (by decide) (by decide)
        rw [ew16576] at bw16576
        rw [ew16576] at cv16570
        refine WP_istore (ls' := [(0, _), (1, _), (2, _), (3, _), (4, _), (5, _), (6, _), (7, _)]) dX3_faultInParts_102 (by decide) rfl ?_
        refine WP_iload dX3_faultInParts_104 rfl ?_
        refine WQ_if_eq 112 dX3_faultInParts_106 rfl (fun c16576 => ?_) (fun c16576 => ?_)
        · refine WP_aload_n dX3_faultInParts_112 rfl ?_
          refine WP_getr dX3_faultInParts_113 fX3_15 rfl (lyx_is hy 3 3 rfl) (rfx hr 3 2 1 (by decide)) ?_
          refine WP_callV0 (k := 5) dX3_faultInParts_116 ⟨⟨⟨by decide, by decide⟩, zX5_next⟩, lX3_40, by decide, rfl, vX5_next.1, vX5_next.2⟩ (lyx_is hy 1 5 rfl) (sx_nextf hy hr hI16568  ) (Nat.le_of_ble_eq_true rfl) ?_
          intro r I16578 J16579 Ra hq
          obtain ⟨⟨hI16578, ec, fiI16578⟩, rfl⟩ := hq
          rw [ec]
          clear ec Ra
          have e16580 : I16578 (ad g 4) 0 = w16545 := by rw [fz_at fiI16578 4 (by decide) (by decide)]; exact e16571
          have e16581 : I16578 (ad g 6) 1 = w16520 := by rw [fz_at fiI16578 6 (by decide) (by decide)]; exact e16572
          have e16582 : I16578 (ad g 6) 2 = w16521 := by rw [fz_at fiI16578 6 (by decide) (by decide)]; exact e16573
          have e16583 : I16578 (ad g 4) 1 = w16576 := by rw [fz_at fiI16578 4 (by decide) (by decide)]; exact ew16576
          have e16584 : I16578 (ad g 1) 1 = L := hI16578.2
          have b16585 := BT_get hI16578.1 1 1 2 (0) (0) (900) (by decide) 1 (by decide) (by decide)
          rw [e16584] at b16585
          refine WP_iinc (ls' := [(0, _), (1, _), (2, _), (3, _), (4, _), (5, _), (6, _), (7, _)]) dX3_faultInParts_119 rfl (by decide) rfl ?_
          have hv16586 : (v16554 + Int32.ofInt (1)).toInt = v16554.toInt + (1) := ia_n rfl (by omega) (by omega)
          generalize v16554 + Int32.ofInt (1) = v16586 at hv16586 ⊢
          refine WP_goto 8 dX3_faultInParts_122 rfl ?_
          refine WP_iload dX3_faultInParts_8 rfl ?_
          refine WP_aload_n dX3_faultInParts_10 rfl ?_
          refine WS_call hz (i := 15) (by omega) dX3_faultInParts_11 ⟨⟨by decide, by decide⟩, zJ0_length_8abf5⟩ lX3_87 vJ0_length_8abf5 (As := []) (rest := [.int v16586]) (j_length hz (i := 15) (by omega)) rfl rfl (Nat.le_of_ble_eq_true rfl) ?_
          intro r Ia Ja Ra hq
          obtain ⟨⟨ea, eb, ec⟩, v16587, rfl, cv16587⟩ := hq
          show WP _ _ _ _ (.int _ :: _) _ _ _ _
          rw [ea, eb, ec]
          clear ea eb ec Ia Ja Ra
          have hv16587 : v16587.toInt = 3 := cv16587.trans rfl
          refine WQ_icmp_ge 125 dX3_faultInParts_14 rfl (fun c16587 => False.elim (by omega)) (fun c16587 => ?_)
          refine WP_iload dX3_faultInParts_17 rfl ?_
          refine WQ_iconst (5) (5) dX3_faultInParts_19 rfl rfl (fun v16589 hv16589 => ?_)
          refine WQ_icmp_ge 125 dX3_faultInParts_20 rfl (fun c16589 => False.elim (by omega)) (fun c16589 => ?_)
          refine WP_aload_n dX3_faultInParts_23 rfl ?_
          refine WP_iload dX3_faultInParts_24 rfl ?_
          refine WS_call hz (i := 15) (by omega) dX3_faultInParts_26 ⟨⟨by decide, by decide⟩, zJ0_charAt_5068e⟩ lX3_92 vJ0_charAt_5068e (As := [.int v16586]) (rest := []) (j_charAt hz (i := 15) (k := v16586) (by omega) (by omega) (by have z9 : ((liN.getD 15 0 : Nat) : Int) = 3 := rfl; omega)) rfl rfl (Nat.le_of_ble_eq_true rfl) ?_
          intro r Ia Ja Ra hq
          obtain ⟨⟨ea, eb, ec⟩, v16591, rfl, cv16591⟩ := hq
          show WP _ _ _ _ (.int _ :: _) _ _ _ _
          rw [ea, eb, ec]
          clear ea eb ec Ia Ja Ra
          have hv16591 : v16591.toInt = 77 := cv16591.trans (by rw [show v16586.toInt.toNat = 2 by omega]; rfl)
          refine WP_istore (ls' := [(0, _), (1, _), (2, _), (3, _), (4, _), (5, _), (6, _), (7, _)]) dX3_faultInParts_29 (by decide) rfl ?_
          refine WP_iload dX3_faultInParts_31 rfl ?_
          refine WQ_bipush (97) (97) dX3_faultInParts_33 rfl rfl (fun v16592 hv16592 => ?_)
          refine WQ_icmp_lt 49 dX3_faultInParts_35 rfl (fun c16592 => ?_) (fun c16592 => False.elim (by omega))
          refine WQ_iconst (0) (0) dX3_faultInParts_49 rfl rfl (fun v16594 hv16594 => ?_)
          refine WP_istore (ls' := [(0, _), (1, _), (2, _), (3, _), (4, _), (5, _), (6, _), (7, _)]) dX3_faultInParts_50 (by decide) rfl ?_
          refine WP_aload_n dX3_faultInParts_52 rfl ?_
          refine WP_getr dX3_faultInParts_53 fX3_15 rfl (lyx_is hy 3 3 rfl) (rfx hr 3 2 1 (by decide)) ?_
          refine WQ_geti dX3_faultInParts_56 fX3_43 rfl (lyx_is hy 1 5 rfl) (BT_get hI16578.1 1 2 3 (0) (0) (4) (by decide) 2 (by decide) (by decide)) (fun v16595 ev16595 av16595 bv16595 => ?_)
          refine WP_iload dX3_faultInParts_59 rfl ?_
          refine WQ_if_eq 68 dX3_faultInParts_61 rfl (fun c16595 => ?_) (fun c16595 => False.elim (by omega))
          refine WQ_iconst (2) (2) dX3_faultInParts_68 rfl rfl (fun v16597 hv16597 => ?_)
          refine WQ_icmp_eq 74 dX3_faultInParts_69 rfl (fun c16597 => ?_) (fun c16597 => ?_)
          · refine WP_iload dX3_faultInParts_74 rfl ?_
            refine WQ_if_eq 92 dX3_faultInParts_76 rfl (fun c16598 => ?_) (fun c16598 => False.elim (by omega))
            refine WP_aload_n dX3_faultInParts_92 rfl ?_
            refine WP_iload dX3_faultInParts_93 rfl ?_
            refine WP_iload_n dX3_faultInParts_95 rfl ?_
            refine WP_iload dX3_faultInParts_96 rfl ?_
            refine WP_aload_n dX3_faultInParts_98 rfl ?_
            refine WP_callV4 (k := 3) dX3_faultInParts_99 ⟨⟨⟨by decide, by decide⟩, zX3_faultOfNumber⟩, lX3_100, by decide, rfl, vX3_faultOfNumber.1, vX3_faultOfNumber.2⟩ (lyx_is hy 3 3 rfl) (sx_part_6_5_2 hy hr hI16578 v16591 cz v16586 (by omega) (by omega) (by omega) (by omega) (by omega) (by omega)) (Nat.le_of_ble_eq_true rfl) ?_
            intro r I16600 J16601 Ra hq
            obtain ⟨⟨hI16600, ec, ⟨pI16600, sI16600_4_0, sI16600_4_1, sI16600_6_1, sI16600_6_2⟩⟩, v16602, rfl, av16602, bv16602, cv16602⟩ := hq
            show WP _ _ _ _ (.int _ :: _) _ _ _ _
            rw [ec]
            clear ec Ra
            have e16603 : I16600 (ad g 4) 0 = w16545 := by rw [sI16600_4_0]; exact e16580
            have e16604 : I16600 (ad g 4) 1 = w16576 := by rw [sI16600_4_1]; exact e16583
            have e16605 : I16600 (ad g 6) 1 = w16520 := by rw [sI16600_6_1]; exact e16581
            have e16606 : I16600 (ad g 6) 2 = w16521 := by rw [sI16600_6_2]; exact e16582
            have e16607 : I16600 (ad g 1) 1 = L := hI16600.2
            have b16608 := BT_get hI16600.1 1 1 2 (0) (0) (900) (by decide) 1 (by decide) (by decide)
            rw [e16607] at b16608
            obtain ⟨w16609, ew16609⟩ : ∃ w : Int32, I16600 (ad g 4) 2 = w := ⟨_, rfl⟩
            have bw16609 := BT_get hI16600.1 4 0 5 (0) (0) (1000) (by decide) 2 (by decide) (by decide)
            rw [ew16609] at bw16609
            rw [ew16609] at cv16602
            refine WP_istore (ls' := [(0, _), (1, _), (2, _), (3, _), (4, _), (5, _), (6, _), (7, _)]) dX3_faultInParts_102 (by decide) rfl ?_
            refine WP_iload dX3_faultInParts_104 rfl ?_
            refine WQ_if_eq 112 dX3_faultInParts_106 rfl (fun c16609 => ?_) (fun c16609 => ?_)
            · refine WP_aload_n dX3_faultInParts_112 rfl ?_
              refine WP_getr dX3_faultInParts_113 fX3_15 rfl (lyx_is hy 3 3 rfl) (rfx hr 3 2 1 (by decide)) ?_
              refine WP_callV0 (k := 5) dX3_faultInParts_116 ⟨⟨⟨by decide, by decide⟩, zX5_next⟩, lX3_40, by decide, rfl, vX5_next.1, vX5_next.2⟩ (lyx_is hy 1 5 rfl) (sx_nextf hy hr hI16600  ) (Nat.le_of_ble_eq_true rfl) ?_
              intro r I16611 J16612 Ra hq
              obtain ⟨⟨hI16611, ec, fiI16611⟩, rfl⟩ := hq
              rw [ec]
              clear ec Ra
              have e16613 : I16611 (ad g 4) 0 = w16545 := by rw [fz_at fiI16611 4 (by decide) (by decide)]; exact e16603
              have e16614 : I16611 (ad g 4) 1 = w16576 := by rw [fz_at fiI16611 4 (by decide) (by decide)]; exact e16604
              have e16615 : I16611 (ad g 6) 1 = w16520 := by rw [fz_at fiI16611 6 (by decide) (by decide)]; exact e16605
              have e16616 : I16611 (ad g 6) 2 = w16521 := by rw [fz_at fiI16611 6 (by decide) (by decide)]; exact e16606
              have e16617 : I16611 (ad g 4) 2 = w16609 := by rw [fz_at fiI16611 4 (by decide) (by decide)]; exact ew16609
              have e16618 : I16611 (ad g 1) 1 = L := hI16611.2
              have b16619 := BT_get hI16611.1 1 1 2 (0) (0) (900) (by decide) 1 (by decide) (by decide)
              rw [e16618] at b16619
              refine WP_iinc (ls' := [(0, _), (1, _), (2, _), (3, _), (4, _), (5, _), (6, _), (7, _)]) dX3_faultInParts_119 rfl (by decide) rfl ?_
              have hv16620 : (v16586 + Int32.ofInt (1)).toInt = v16586.toInt + (1) := ia_n rfl (by omega) (by omega)
              generalize v16586 + Int32.ofInt (1) = v16620 at hv16620 ⊢
              refine WP_goto 8 dX3_faultInParts_122 rfl ?_
              refine WP_iload dX3_faultInParts_8 rfl ?_
              refine WP_aload_n dX3_faultInParts_10 rfl ?_
              refine WS_call hz (i := 15) (by omega) dX3_faultInParts_11 ⟨⟨by decide, by decide⟩, zJ0_length_8abf5⟩ lX3_87 vJ0_length_8abf5 (As := []) (rest := [.int v16620]) (j_length hz (i := 15) (by omega)) rfl rfl (Nat.le_of_ble_eq_true rfl) ?_
              intro r Ia Ja Ra hq
              obtain ⟨⟨ea, eb, ec⟩, v16621, rfl, cv16621⟩ := hq
              show WP _ _ _ _ (.int _ :: _) _ _ _ _
              rw [ea, eb, ec]
              clear ea eb ec Ia Ja Ra
              have hv16621 : v16621.toInt = 3 := cv16621.trans rfl
              refine WQ_icmp_ge 125 dX3_faultInParts_14 rfl (fun c16621 => ?_) (fun c16621 => False.elim (by omega))
              refine WP_aload_n dX3_faultInParts_125 rfl ?_
              refine WP_getr dX3_faultInParts_126 fX3_15 rfl (lyx_is hy 3 3 rfl) (rfx hr 3 2 1 (by decide)) ?_
              refine WQ_geti dX3_faultInParts_129 fX3_43 rfl (lyx_is hy 1 5 rfl) (BT_get hI16611.1 1 2 3 (0) (0) (4) (by decide) 2 (by decide) (by decide)) (fun v16623 ev16623 av16623 bv16623 => ?_)
              refine WQ_iconst (3) (3) dX3_faultInParts_132 rfl rfl (fun v16624 hv16624 => ?_)
              refine WQ_icmp_ne 140 dX3_faultInParts_133 rfl (fun c16624 => ?_) (fun c16624 => ?_)
              · refine WQ_iconst (1) (1) dX3_faultInParts_140 rfl rfl (fun v16626 hv16626 => ?_)
                exact WP_iret dX3_faultInParts_141 rfl ⟨⟨hI16611, rfl, ⟨trivial, (by rw [e16615, ew16520] <;> exact (eq32 _ _).mpr (by omega)), (by rw [e16616, ew16521] <;> exact (eq32 _ _).mpr (by omega))⟩⟩, _, rfl, by omega, by omega, by (try rw [e16613]; try rw [e16614]; try rw [e16617]); omega⟩
              · refine WQ_iconst (0) (0) dX3_faultInParts_136 rfl rfl (fun v16627 hv16627 => ?_)
                refine WP_goto 141 dX3_faultInParts_137 rfl ?_
                exact WP_iret dX3_faultInParts_141 rfl ⟨⟨hI16611, rfl, ⟨trivial, (by rw [e16615, ew16520] <;> exact (eq32 _ _).mpr (by omega)), (by rw [e16616, ew16521] <;> exact (eq32 _ _).mpr (by omega))⟩⟩, _, rfl, by omega, by omega, by (try rw [e16613]; try rw [e16614]; try rw [e16617]); omega⟩
            · refine WP_iload dX3_faultInParts_109 rfl ?_
              exact WP_iret dX3_faultInParts_111 rfl ⟨⟨hI16600, rfl, ⟨trivial, (by rw [e16605, ew16520] <;> exact (eq32 _ _).mpr (by omega)), (by rw [e16606, ew16521] <;> exact (eq32 _ _).mpr (by omega))⟩⟩, _, rfl, by omega, by omega, by (try rw [e16603]; try rw [e16604]; try rw [ew16609]); omega⟩
          · refine WQ_iconst (1) (1) dX3_faultInParts_72 rfl rfl (fun v16628 hv16628 => ?_)
            obtain ⟨w16629, ew16629⟩ : ∃ w : Int32, I16578 (ad g 4) 2 = w := ⟨_, rfl⟩
            have bw16629 := BT_get hI16578.1 4 0 5 (0) (0) (1000) (by decide) 2 (by decide) (by decide)
            rw [ew16629] at bw16629
            exact WP_iret dX3_faultInParts_73 rfl ⟨⟨hI16578, rfl, ⟨trivial, (by rw [e16581, ew16520] <;> exact (eq32 _ _).mpr (by omega)), (by rw [e16582, ew16521] <;> exact (eq32 _ _).mpr (by omega))⟩⟩, _, rfl, by omega, by omega, by (try rw [e16580]; try rw [e16583]; try rw [ew16629]); omega⟩
        · refine WP_iload dX3_faultInParts_109 rfl ?_
          obtain ⟨w16630, ew16630⟩ : ∃ w : Int32, I16568 (ad g 4) 2 = w := ⟨_, rfl⟩
          have bw16630 := BT_get hI16568.1 4 0 5 (0) (0) (1000) (by decide) 2 (by decide) (by decide)
          rw [ew16630] at bw16630
          exact WP_iret dX3_faultInParts_111 rfl ⟨⟨hI16568, rfl, ⟨trivial, (by rw [e16572, ew16520] <;> exact (eq32 _ _).mpr (by omega)), (by rw [e16573, ew16521] <;> exact (eq32 _ _).mpr (by omega))⟩⟩, _, rfl, by omega, by omega, by (try rw [e16571]; try rw [ew16576]; try rw [ew16630]); omega⟩
      · refine WQ_iconst (1) (1) dX3_faultInParts_72 rfl rfl (fun v16631 hv16631 => ?_)
        obtain ⟨w16632, ew16632⟩ : ∃ w : Int32, I16547 (ad g 4) 1 = w := ⟨_, rfl⟩
        have bw16632 := BT_get hI16547.1 4 0 5 (0) (0) (1000) (by decide) 1 (by decide) (by decide)
        rw [ew16632] at bw16632
        obtain ⟨w16633, ew16633⟩ : ∃ w : Int32, I16547 (ad g 4) 2 = w := ⟨_, rfl⟩
        have bw16633 := BT_get hI16547.1 4 0 5 (0) (0) (1000) (by decide) 2 (by decide) (by decide)
        rw [ew16633] at bw16633
        exact WP_iret dX3_faultInParts_73 rfl ⟨⟨hI16547, rfl, ⟨trivial, (by rw [e16549, ew16520] <;> exact (eq32 _ _).mpr (by omega)), (by rw [e16550, ew16521] <;> exact (eq32 _ _).mpr (by omega))⟩⟩, _, rfl, by omega, by omega, by (try rw [e16551]; try rw [ew16632]; try rw [ew16633]); omega⟩
    · refine WP_iload dX3_faultInParts_109 rfl ?_
      obtain ⟨w16634, ew16634⟩ : ∃ w : Int32, I16538 (ad g 4) 1 = w := ⟨_, rfl⟩
      have bw16634 := BT_get hI16538.1 4 0 5 (0) (0) (1000) (by decide) 1 (by decide) (by decide)
      rw [ew16634] at bw16634
      obtain ⟨w16635, ew16635⟩ : ∃ w : Int32, I16538 (ad g 4) 2 = w := ⟨_, rfl⟩
      have bw16635 := BT_get hI16538.1 4 0 5 (0) (0) (1000) (by decide) 2 (by decide) (by decide)
      rw [ew16635] at bw16635
      exact WP_iret dX3_faultInParts_111 rfl ⟨⟨hI16538, rfl, ⟨trivial, (by rw [e16541, ew16520] <;> exact (eq32 _ _).mpr (by omega)), (by rw [e16542, ew16521] <;> exact (eq32 _ _).mpr (by omega))⟩⟩, _, rfl, by omega, by omega, by (try rw [ew16545]; try rw [ew16634]; try rw [ew16635]); omega⟩
  · refine WQ_iconst (1) (1) dX3_faultInParts_72 rfl rfl (fun v16636 hv16636 => ?_)
    obtain ⟨w16637, ew16637⟩ : ∃ w : Int32, I (ad g 4) 0 = w := ⟨_, rfl⟩
    have bw16637 := BT_get hI.1 4 0 5 (0) (0) (1000) (by decide) 0 (by decide) (by decide)
    rw [ew16637] at bw16637
    obtain ⟨w16638, ew16638⟩ : ∃ w : Int32, I (ad g 4) 1 = w := ⟨_, rfl⟩
    have bw16638 := BT_get hI.1 4 0 5 (0) (0) (1000) (by decide) 1 (by decide) (by decide)
    rw [ew16638] at bw16638
    obtain ⟨w16639, ew16639⟩ : ∃ w : Int32, I (ad g 4) 2 = w := ⟨_, rfl⟩
    have bw16639 := BT_get hI.1 4 0 5 (0) (0) (1000) (by decide) 2 (by decide) (by decide)
    rw [ew16639] at bw16639
    exact WP_iret dX3_faultInParts_73 rfl ⟨⟨hI, rfl, ⟨trivial, rfl, rfl⟩⟩, _, rfl, by omega, by omega, by (try rw [ew16637]; try rw [ew16638]; try rw [ew16639]); omega⟩
set_option maxHeartbeats 4000000 in
set_option maxRecDepth 100000 in
theorem sx_parts_6_6 {g : GG} {n : Int} {L : Int32} (hy : LyX g) {aK aV : Nat → Nat} {fo : Option Nat} (hz : HZ g aK aV fo)  {I : pI} {J : pJ} {R : pR} (hr : RfX g R) (hI : XI g n L I) (cz : Int32) (cz_lo : 6 ≤ cz.toInt) (cz_hi : cz.toInt ≤ 6) : SP g mX3_faultInParts [.ref (ad g 3), .int cz, .ref (ad g 6)] I J R (fun r I' J' R' => (XI g n L I' ∧ R' = R ∧ True ∧ I' (ad g 6) 1 = I (ad g 6) 1 ∧ I' (ad g 6) 2 = I (ad g 6) 2) ∧ ∃ v : Int32, r = some (.int v) ∧ 0 ≤ v.toInt ∧ v.toInt ≤ 5 ∧ (v.toInt = 0 → (I' (ad g 4) 0).toInt ≤ 3 ∧ (I' (ad g 4) 1).toInt ≤ 2 ∧ (I' (ad g 4) 2).toInt ≤ 6 ∧ (I' (ad g 4) 3).toInt ≤ 3 ∧ (I' (ad g 4) 4).toInt ≤ 99)) := by
  refine SP_of ⟨by decide, rfl⟩ (Nat.le_of_ble_eq_true rfl) ?_
  have e16640 : I (ad g 1) 1 = L := hI.2
  have b16641 := BT_get hI.1 1 1 2 (0) (0) (900) (by decide) 1 (by decide) (by decide)
  rw [e16640] at b16641
  obtain ⟨w16642, ew16642⟩ : ∃ w : Int32, I (ad g 6) 1 = w := ⟨_, rfl⟩
  have bw16642 := BT_get hI.1 6 1 2 (0) (0) (4) (by decide) 1 (by decide) (by decide)
  rw [ew16642] at bw16642
  obtain ⟨w16643, ew16643⟩ : ∃ w : Int32, I (ad g 6) 2 = w := ⟨_, rfl⟩
  have bw16643 := BT_get hI.1 6 2 3 (0) (0) (3) (by decide) 2 (by decide) (by decide)
  rw [ew16643] at bw16643
  refine WP_iload_n dX3_faultInParts_0 rfl ?_
  refine WP_callS1 dX3_faultInParts_1 ⟨⟨⟨by decide, by decide⟩, zX3_shapeOf⟩, lX3_84, tX3_shapeOf⟩ (sx_shapeOf hy hz hr hI cz (by omega) (by omega)) (Nat.le_of_ble_eq_true rfl) ?_
  intro r Ia Ja Ra hq
  obtain ⟨⟨ea, eb, ec⟩, rfl⟩ := hq
  show WP _ _ _ _ (.ref _ :: _) _ _ _ _
  rw [show 10 + cz.toInt.toNat = 16 by omega]
  rw [ea, eb, ec]
  clear ea eb ec Ia Ja Ra
  refine WP_astore_n (ls' := [(0, _), (1, _), (2, _), (3, _)]) dX3_faultInParts_4 (by decide) rfl ?_
  refine WQ_iconst (0) (0) dX3_faultInParts_5 rfl rfl (fun v16644 hv16644 => ?_)
  refine WP_istore (ls' := [(0, _), (1, _), (2, _), (3, _), (4, _)]) dX3_faultInParts_6 (by decide) rfl ?_
  refine WP_iload dX3_faultInParts_8 rfl ?_
  refine WP_aload_n dX3_faultInParts_10 rfl ?_
  refine WS_call hz (i := 16) (by omega) dX3_faultInParts_11 ⟨⟨by decide, by decide⟩, zJ0_length_8abf5⟩ lX3_87 vJ0_length_8abf5 (As := []) (rest := [.int v16644]) (j_length hz (i := 16) (by omega)) rfl rfl (Nat.le_of_ble_eq_true rfl) ?_
  intro r Ia Ja Ra hq
  obtain ⟨⟨ea, eb, ec⟩, v16645, rfl, cv16645⟩ := hq
  show WP _ _ _ _ (.int _ :: _) _ _ _ _
  rw [ea, eb, ec]
  clear ea eb ec Ia Ja Ra
  have hv16645 : v16645.toInt = 5 := cv16645.trans rfl
  refine WQ_icmp_ge 125 dX3_faultInParts_14 rfl (fun c16645 => False.elim (by omega)) (fun c16645 => ?_)
  refine WP_iload dX3_faultInParts_17 rfl ?_
  refine WQ_iconst (5) (5) dX3_faultInParts_19 rfl rfl (fun v16647 hv16647 => ?_)
  refine WQ_icmp_ge 125 dX3_faultInParts_20 rfl (fun c16647 => False.elim (by omega)) (fun c16647 => ?_)
  refine WP_aload_n dX3_faultInParts_23 rfl ?_
  refine WP_iload dX3_faultInParts_24 rfl ?_
  refine WS_call hz (i := 16) (by omega) dX3_faultInParts_26 ⟨⟨by decide, by decide⟩, zJ0_charAt_5068e⟩ lX3_92 vJ0_charAt_5068e (As := [.int v16644]) (rest := []) (j_charAt hz (i := 16) (k := v16644) (by omega) (by omega) (by have z9 : ((liN.getD 16 0 : Nat) : Int) = 5 := rfl; omega)) rfl rfl (Nat.le_of_ble_eq_true rfl) ?_
  intro r Ia Ja Ra hq
  obtain ⟨⟨ea, eb, ec⟩, v16649, rfl, cv16649⟩ := hq
  show WP _ _ _ _ (.int _ :: _) _ _ _ _
  rw [ea, eb, ec]
  clear ea eb ec Ia Ja Ra
  have hv16649 : v16649.toInt = 115 := cv16649.trans (by rw [show v16644.toInt.toNat = 0 by omega]; rfl)
  refine WP_istore (ls' := [(0, _), (1, _), (2, _), (3, _), (4, _), (5, _)]) dX3_faultInParts_29 (by decide) rfl ?_
  refine WP_iload dX3_faultInParts_31 rfl ?_
  refine WQ_bipush (97) (97) dX3_faultInParts_33 rfl rfl (fun v16650 hv16650 => ?_)
  refine WQ_icmp_lt 49 dX3_faultInParts_35 rfl (fun c16650 => False.elim (by omega)) (fun c16650 => ?_)
  refine WP_iload dX3_faultInParts_38 rfl ?_
  refine WQ_bipush (122) (122) dX3_faultInParts_40 rfl rfl (fun v16652 hv16652 => ?_)
  refine WQ_icmp_gt 49 dX3_faultInParts_42 rfl (fun c16652 => False.elim (by omega)) (fun c16652 => ?_)
  refine WQ_iconst (1) (1) dX3_faultInParts_45 rfl rfl (fun v16654 hv16654 => ?_)
  refine WP_goto 50 dX3_faultInParts_46 rfl ?_
  refine WP_istore (ls' := [(0, _), (1, _), (2, _), (3, _), (4, _), (5, _), (6, _)]) dX3_faultInParts_50 (by decide) rfl ?_
  refine WP_aload_n dX3_faultInParts_52 rfl ?_
  refine WP_getr dX3_faultInParts_53 fX3_15 rfl (lyx_is hy 3 3 rfl) (rfx hr 3 2 1 (by decide)) ?_
  refine WQ_geti dX3_faultInParts_56 fX3_43 rfl (lyx_is hy 1 5 rfl) (BT_get hI.1 1 2 3 (0) (0) (4) (by decide) 2 (by decide) (by decide)) (fun v16655 ev16655 av16655 bv16655 => ?_)
  refine WP_iload dX3_faultInParts_59 rfl ?_
  refine WQ_if_eq 68 dX3_faultInParts_61 rfl (fun c16655 => False.elim (by omega)) (fun c16655 => ?_)
  refine WQ_iconst (1) (1) dX3_faultInParts_64 rfl rfl (fun v16657 hv16657 => ?_)
  refine WP_goto 69 dX3_faultInParts_65 rfl ?_
  refine WQ_icmp_eq 74 dX3_faultInParts_69 rfl (fun c16657 => ?_) (fun c16657 => ?_)
  · refine WP_iload dX3_faultInParts_74 rfl ?_
    refine WQ_if_eq 92 dX3_faultInParts_76 rfl (fun c16658 => False.elim (by omega)) (fun c16658 => ?_)
    refine WP_aload_n dX3_faultInParts_79 rfl ?_
    refine WP_iload dX3_faultInParts_80 rfl ?_
    refine WP_iload_n dX3_faultInParts_82 rfl ?_
    refine WP_iload dX3_faultInParts_83 rfl ?_
    refine WP_aload_n dX3_faultInParts_85 rfl ?_
    refine WP_callV4 (k := 3) dX3_faultInParts_86 ⟨⟨⟨by decide, by decide⟩, zX3_faultOfName⟩, lX3_96, by decide, rfl, vX3_faultOfName.1, vX3_faultOfName.2⟩ (lyx_is hy 3 3 rfl) (sx_part_6_6_0 hy hr hI v16649 cz v16644 (by omega) (by omega) (by omega) (by omega) (by omega) (by omega)) (Nat.le_of_ble_eq_true rfl) ?_
    intro r I16660 J16661 Ra hq
    obtain ⟨⟨hI16660, ec, ⟨pI16660, sI16660_6_1, sI16660_6_2⟩⟩, v16662, rfl, av16662, bv16662, cv16662⟩ := hq
    show WP _ _ _ _ (.int _ :: _) _ _ _ _
    rw [ec]
    clear ec Ra
    have e16663 : I16660 (ad g 6) 1 = w16642 := by rw [sI16660_6_1]; exact ew16642
    have e16664 : I16660 (ad g 6) 2 = w16643 := by rw [sI16660_6_2]; exact ew16643
    have e16665 : I16660 (ad g 1) 1 = L := hI16660.2
    have b16666 := BT_get hI16660.1 1 1 2 (0) (0) (900) (by decide) 1 (by decide) (by decide)
    rw [e16665] at b16666
    obtain ⟨w16667, ew16667⟩ : ∃ w : Int32, I16660 (ad g 4) 0 = w := ⟨_, rfl⟩
    have bw16667 := BT_get hI16660.1 4 0 5 (0) (0) (1000) (by decide) 0 (by decide) (by decide)
    rw [ew16667] at bw16667
    rw [ew16667] at cv16662
    refine WP_goto 102 dX3_faultInParts_89 rfl ?_
    refine WP_istore (ls' := [(0, _), (1, _), (2, _), (3, _), (4, _), (5, _), (6, _), (7, _)]) dX3_faultInParts_102 (by decide) rfl ?_
    refine WP_iload dX3_faultInParts_104 rfl ?_
    refine WQ_if_eq 112 dX3_faultInParts_106 rfl (fun c16667 => ?_) (fun c16667 => ?_)
    · refine WP_aload_n dX3_faultInParts_112 rfl ?_
      refine WP_getr dX3_faultInParts_113 fX3_15 rfl (lyx_is hy 3 3 rfl) (rfx hr 3 2 1 (by decide)) ?_
      refine WP_callV0 (k := 5) dX3_faultInParts_116 ⟨⟨⟨by decide, by decide⟩, zX5_next⟩, lX3_40, by decide, rfl, vX5_next.1, vX5_next.2⟩ (lyx_is hy 1 5 rfl) (sx_nextf hy hr hI16660  ) (Nat.le_of_ble_eq_true rfl) ?_
      intro r I16669 J16670 Ra hq
      obtain ⟨⟨hI16669, ec, fiI16669⟩, rfl⟩ := hq
      rw [ec]
      clear ec Ra
      have e16671 : I16669 (ad g 6) 1 = w16642 := by rw [fz_at fiI16669 6 (by decide) (by decide)]; exact e16663
      have e16672 : I16669 (ad g 6) 2 = w16643 := by rw [fz_at fiI16669 6 (by decide) (by decide)]; exact e16664
      have e16673 : I16669 (ad g 4) 0 = w16667 := by rw [fz_at fiI16669 4 (by decide) (by decide)]; exact ew16667
      have e16674 : I16669 (ad g 1) 1 = L := hI16669.2
      have b16675 := BT_get hI16669.1 1 1 2 (0) (0) (900) (by decide) 1 (by decide) (by decide)
      rw [e16674] at b16675
      refine WP_iinc (ls' := [(0, _), (1, _), (2, _), (3, _), (4, _), (5, _), (6, _), (7, _)]) dX3_faultInParts_119 rfl (by decide) rfl ?_
      have hv16676 : (v16644 + Int32.ofInt (1)).toInt = v16644.toInt + (1) := ia_n rfl (by omega) (by omega)
      generalize v16644 + Int32.ofInt (1) = v16676 at hv16676 ⊢
      refine WP_goto 8 dX3_faultInParts_122 rfl ?_
      refine WP_iload dX3_faultInParts_8 rfl ?_
      refine WP_aload_n dX3_faultInParts_10 rfl ?_
      refine WS_call hz (i := 16) (by omega) dX3_faultInParts_11 ⟨⟨by decide, by decide⟩, zJ0_length_8abf5⟩ lX3_87 vJ0_length_8abf5 (As := []) (rest := [.int v16676]) (j_length hz (i := 16) (by omega)) rfl rfl (Nat.le_of_ble_eq_true rfl) ?_
      intro r Ia Ja Ra hq
      obtain ⟨⟨ea, eb, ec⟩, v16677, rfl, cv16677⟩ := hq
      show WP _ _ _ _ (.int _ :: _) _ _ _ _
      rw [ea, eb, ec]
      clear ea eb ec Ia Ja Ra
      have hv16677 : v16677.toInt = 5 := cv16677.trans rfl
      refine WQ_icmp_ge 125 dX3_faultInParts_14 rfl (fun c16677 => False.elim (by omega)) (fun c16677 => ?_)
      refine WP_iload dX3_faultInParts_17 rfl ?_
      refine WQ_iconst (5) (5) dX3_faultInParts_19 rfl rfl (fun v16679 hv16679 => ?_)
      refine WQ_icmp_ge 125 dX3_faultInParts_20 rfl (fun c16679 => False.elim (by omega)) (fun c16679 => ?_)
      refine WP_aload_n dX3_faultInParts_23 rfl ?_
      refine WP_iload dX3_faultInParts_24 rfl ?_
      refine WS_call hz (i := 16) (by omega) dX3_faultInParts_26 ⟨⟨by decide, by decide⟩, zJ0_charAt_5068e⟩ lX3_92 vJ0_charAt_5068e (As := [.int v16676]) (rest := []) (j_charAt hz (i := 16) (k := v16676) (by omega) (by omega) (by have z9 : ((liN.getD 16 0 : Nat) : Int) = 5 := rfl; omega)) rfl rfl (Nat.le_of_ble_eq_true rfl) ?_
      intro r Ia Ja Ra hq
      obtain ⟨⟨ea, eb, ec⟩, v16681, rfl, cv16681⟩ := hq
      show WP _ _ _ _ (.int _ :: _) _ _ _ _
      rw [ea, eb, ec]
      clear ea eb ec Ia Ja Ra
      have hv16681 : v16681.toInt = 116 := cv16681.trans (by rw [show v16676.toInt.toNat = 1 by omega]; rfl)
      refine WP_istore (ls' := [(0, _), (1, _), (2, _), (3, _), (4, _), (5, _), (6, _), (7, _)]) dX3_faultInParts_29 (by decide) rfl ?_
      refine WP_iload dX3_faultInParts_31 rfl ?_
      refine WQ_bipush (97) (97) dX3_faultInParts_33 rfl rfl (fun v16682 hv16682 => ?_)
      refine WQ_icmp_lt 49 dX3_faultInParts_35 rfl (fun c16682 => False.elim (by omega)) (fun c16682 => ?_)
      refine WP_iload dX3_faultInParts_38 rfl ?_
      refine WQ_bipush (122) (122) dX3_faultInParts_40 rfl rfl (fun v16684 hv16684 => ?_)
      refine WQ_icmp_gt 49 dX3_faultInParts_42 rfl (fun c16684 => False.elim (by omega)) (fun c16684 => ?_)
      refine WQ_iconst (1) (1) dX3_faultInParts_45 rfl rfl (fun v16686 hv16686 => ?_)
      refine WP_goto 50 dX3_faultInParts_46 rfl ?_
      refine WP_istore (ls' := [(0, _), (1, _), (2, _), (3, _), (4, _), (5, _), (6, _), (7, _)]) dX3_faultInParts_50 (by decide) rfl ?_
      refine WP_aload_n dX3_faultInParts_52 rfl ?_
      refine WP_getr dX3_faultInParts_53 fX3_15 rfl (lyx_is hy 3 3 rfl) (rfx hr 3 2 1 (by decide)) ?_
      refine WQ_geti dX3_faultInParts_56 fX3_43 rfl (lyx_is hy 1 5 rfl) (BT_get hI16669.1 1 2 3 (0) (0) (4) (by decide) 2 (by decide) (by decide)) (fun v16687 ev16687 av16687 bv16687 => ?_)
      refine WP_iload dX3_faultInParts_59 rfl ?_
      refine WQ_if_eq 68 dX3_faultInParts_61 rfl (fun c16687 => False.elim (by omega)) (fun c16687 => ?_)
      refine WQ_iconst (1) (1) dX3_faultInParts_64 rfl rfl (fun v16689 hv16689 => ?_)
      refine WP_goto 69 dX3_faultInParts_65 rfl ?_
      refine WQ_icmp_eq 74 dX3_faultInParts_69 rfl (fun c16689 => ?_) (fun c16689 => ?_)
      · refine WP_iload dX3_faultInParts_74 rfl ?_
        refine WQ_if_eq 92 dX3_faultInParts_76 rfl (fun c16690 => False.elim (by omega)) (fun c16690 => ?_)
        refine WP_aload_n dX3_faultInParts_79 rfl ?_
        refine WP_iload dX3_faultInParts_80 rfl ?_
        refine WP_iload_n dX3_faultInParts_82 rfl ?_
        refine WP_iload dX3_faultInParts_83 rfl ?_
        refine WP_aload_n dX3_faultInParts_85 rfl ?_
        refine WP_callV4 (k := 3) dX3_faultInParts_86 ⟨⟨⟨by decide, by decide⟩, zX3_faultOfName⟩, lX3_96, by decide, rfl, vX3_faultOfName.1, vX3_faultOfName.2⟩ (lyx_is hy 3 3 rfl) (sx_part_6_6_1 hy hr hI16669 v16681 cz v16676 (by omega) (by omega) (by omega) (by omega) (by omega) (by omega)) (Nat.le_of_ble_eq_true rfl) ?_
        intro r I16692 J16693 Ra hq
        obtain ⟨⟨hI16692, ec, ⟨pI16692, sI16692_4_0, sI16692_6_1, sI16692_6_2⟩⟩, v16694, rfl, av16694, bv16694, cv16694⟩ := hq
        show WP _ _ _ _ (.int _ :: _) _ _ _ _
        rw [ec]
        clear ec Ra
        have e16695 : I16692 (ad g 4) 0 = w16667 := by rw [sI16692_4_0]; exact e16673
        have e16696 : I16692 (ad g 6) 1 = w16642 := by rw [sI16692_6_1]; exact e16671
        have e16697 : I16692 (ad g 6) 2 = w16643 := by rw [sI16692_6_2]; exact e16672
        have e16698 : I16692 (ad g 1) 1 = L := hI16692.2
        have b16699 := BT_get hI16692.1 1 1 2 (0) (0) (900) (by decide) 1 (by decide) (by decide)
        rw [e16698] at b16699
        obtain ⟨w16700, ew16700⟩ : ∃ w : Int32, I16692 (ad g 4) 1 = w := ⟨_, rfl⟩
        have bw16700 := BT_get hI16692.1 4 0 5 (0) (0) (1000) (by decide) 1 (by decide) (by decide)
        rw [ew16700] at bw16700
        rw [ew16700] at cv16694
        refine WP_goto 102 dX3_faultInParts_89 rfl ?_
        refine WP_istore (ls' := [(0, _), (1, _), (2, _), (3, _), (4, _), (5, _), (6, _), (7, _)]) dX3_faultInParts_102 (by decide) rfl ?_
        refine WP_iload dX3_faultInParts_104 rfl ?_
        refine WQ_if_eq 112 dX3_faultInParts_106 rfl (fun c16700 => ?_) (fun c16700 => ?_)
        · refine WP_aload_n dX3_faultInParts_112 rfl ?_
          refine WP_getr dX3_faultInParts_113 fX3_15 rfl (lyx_is hy 3 3 rfl) (rfx hr 3 2 1 (by decide)) ?_
          refine WP_callV0 (k := 5) dX3_faultInParts_116 ⟨⟨⟨by decide, by decide⟩, zX5_next⟩, lX3_40, by decide, rfl, vX5_next.1, vX5_next.2⟩ (lyx_is hy 1 5 rfl) (sx_nextf hy hr hI16692  ) (Nat.le_of_ble_eq_true rfl) ?_
          intro r I16702 J16703 Ra hq
          obtain ⟨⟨hI16702, ec, fiI16702⟩, rfl⟩ := hq
          rw [ec]
          clear ec Ra
          have e16704 : I16702 (ad g 4) 0 = w16667 := by rw [fz_at fiI16702 4 (by decide) (by decide)]; exact e16695
          have e16705 : I16702 (ad g 6) 1 = w16642 := by rw [fz_at fiI16702 6 (by decide) (by decide)]; exact e16696
          have e16706 : I16702 (ad g 6) 2 = w16643 := by rw [fz_at fiI16702 6 (by decide) (by decide)]; exact e16697
          have e16707 : I16702 (ad g 4) 1 = w16700 := by rw [fz_at fiI16702 4 (by decide) (by decide)]; exact ew16700
          have e16708 : I16702 (ad g 1) 1 = L := hI16702.2
          have b16709 := BT_get hI16702.1 1 1 2 (0) (0) (900) (by decide) 1 (by decide) (by decide)
          rw [e16708] at b16709
          refine WP_iinc (ls' := [(0, _), (1, _), (2, _), (3, _), (4, _), (5, _), (6, _), (7, _)]) dX3_faultInParts_119 rfl (by decide) rfl ?_
          have hv16710 : (v16676 + Int32.ofInt (1)).toInt = v16676.toInt + (1) := ia_n rfl (by omega) (by omega)
          generalize v16676 + Int32.ofInt (1) = v16710 at hv16710 ⊢
          refine WP_goto 8 dX3_faultInParts_122 rfl ?_
          refine WP_iload dX3_faultInParts_8 rfl ?_
          refine WP_aload_n dX3_faultInParts_10 rfl ?_
          refine WS_call hz (i := 16) (by omega) dX3_faultInParts_11 ⟨⟨by decide, by decide⟩, zJ0_length_8abf5⟩ lX3_87 vJ0_length_8abf5 (As := []) (rest := [.int v16710]) (j_length hz (i := 16) (by omega)) rfl rfl (Nat.le_of_ble_eq_true rfl) ?_
          intro r Ia Ja Ra hq
          obtain ⟨⟨ea, eb, ec⟩, v16711, rfl, cv16711⟩ := hq
          show WP _ _ _ _ (.int _ :: _) _ _ _ _
          rw [ea, eb, ec]
          clear ea eb ec Ia Ja Ra
          have hv16711 : v16711.toInt = 5 := cv16711.trans rfl
          refine WQ_icmp_ge 125 dX3_faultInParts_14 rfl (fun c16711 => False.elim (by omega)) (fun c16711 => ?_)
          refine WP_iload dX3_faultInParts_17 rfl ?_
          refine WQ_iconst (5) (5) dX3_faultInParts_19 rfl rfl (fun v16713 hv16713 => ?_)
          refine WQ_icmp_ge 125 dX3_faultInParts_20 rfl (fun c16713 => False.elim (by omega)) (fun c16713 => ?_)
          refine WP_aload_n dX3_faultInParts_23 rfl ?_
          refine WP_iload dX3_faultInParts_24 rfl ?_
          refine WS_call hz (i := 16) (by omega) dX3_faultInParts_26 ⟨⟨by decide, by decide⟩, zJ0_charAt_5068e⟩ lX3_92 vJ0_charAt_5068e (As := [.int v16710]) (rest := []) (j_charAt hz (i := 16) (k := v16710) (by omega) (by omega) (by have z9 : ((liN.getD 16 0 : Nat) : Int) = 5 := rfl; omega)) rfl rfl (Nat.le_of_ble_eq_true rfl) ?_
          intro r Ia Ja Ra hq
          obtain ⟨⟨ea, eb, ec⟩, v16715, rfl, cv16715⟩ := hq
          show WP _ _ _ _ (.int _ :: _) _ _ _ _
          rw [ea, eb, ec]
          clear ea eb ec Ia Ja Ra
          have hv16715 : v16715.toInt = 68 := cv16715.trans (by rw [show v16710.toInt.toNat = 2 by omega]; rfl)
          refine WP_istore (ls' := [(0, _), (1, _), (2, _), (3, _), (4, _), (5, _), (6, _), (7, _)]) dX3_faultInParts_29 (by decide) rfl ?_
          refine WP_iload dX3_faultInParts_31 rfl ?_
          refine WQ_bipush (97) (97) dX3_faultInParts_33 rfl rfl (fun v16716 hv16716 => ?_)
          refine WQ_icmp_lt 49 dX3_faultInParts_35 rfl (fun c16716 => ?_) (fun c16716 => False.elim (by omega))
          refine WQ_iconst (0) (0) dX3_faultInParts_49 rfl rfl (fun v16718 hv16718 => ?_)
          refine WP_istore (ls' := [(0, _), (1, _), (2, _), (3, _), (4, _), (5, _), (6, _), (7, _)]) dX3_faultInParts_50 (by decide) rfl ?_
          refine WP_aload_n dX3_faultInParts_52 rfl ?_
          refine WP_getr dX3_faultInParts_53 fX3_15 rfl (lyx_is hy 3 3 rfl) (rfx hr 3 2 1 (by decide)) ?_
          refine WQ_geti dX3_faultInParts_56 fX3_43 rfl (lyx_is hy 1 5 rfl) (BT_get hI16702.1 1 2 3 (0) (0) (4) (by decide) 2 (by decide) (by decide)) (fun v16719 ev16719 av16719 bv16719 => ?_)
          refine WP_iload dX3_faultInParts_59 rfl ?_
          refine WQ_if_eq 68 dX3_faultInParts_61 rfl (fun c16719 => ?_) (fun c16719 => False.elim (by omega))
          refine WQ_iconst (2) (2) dX3_faultInParts_68 rfl rfl (fun v16721 hv16721 => ?_)
          refine WQ_icmp_eq 74 dX3_faultInParts_69 rfl (fun c16721 => ?_) (fun c16721 => ?_)
          · refine WP_iload dX3_faultInParts_74 rfl ?_
            refine WQ_if_eq 92 dX3_faultInParts_76 rfl (fun c16722 => ?_) (fun c16722 => False.elim (by omega))
            refine WP_aload_n dX3_faultInParts_92 rfl ?_
            refine WP_iload dX3_faultInParts_93 rfl ?_
            refine WP_iload_n dX3_faultInParts_95 rfl ?_
            refine WP_iload dX3_faultInParts_96 rfl ?_
            refine WP_aload_n dX3_faultInParts_98 rfl ?_
            refine WP_callV4 (k := 3) dX3_faultInParts_99 ⟨⟨⟨by decide, by decide⟩, zX3_faultOfNumber⟩, lX3_100, by decide, rfl, vX3_faultOfNumber.1, vX3_faultOfNumber.2⟩ (lyx_is hy 3 3 rfl) (sx_part_6_6_2 hy hr hI16702 v16715 cz v16710 (by omega) (by omega) (by omega) (by omega) (by omega) (by omega) (by rw [e16704]; omega)) (Nat.le_of_ble_eq_true rfl) ?_
            intro r I16724 J16725 Ra hq
            obtain ⟨⟨hI16724, ec, ⟨pI16724, sI16724_4_0, sI16724_4_1, sI16724_6_1, sI16724_6_2⟩⟩, v16726, rfl, av16726, bv16726, cv16726⟩ := hq
            show WP _ _ _ _ (.int _ :: _) _ _ _ _
            rw [ec]
            clear ec Ra
            have e16727 : I16724 (ad g 4) 0 = w16667 := by rw [sI16724_4_0]; exact e16704
            have e16728 : I16724 (ad g 4) 1 = w16700 := by rw [sI16724_4_1]; exact e16707
            have e16729 : I16724 (ad g 6) 1 = w16642 := by rw [sI16724_6_1]; exact e16705
            have e16730 : I16724 (ad g 6) 2 = w16643 := by rw [sI16724_6_2]; exact e16706
            have e16731 : I16724 (ad g 1) 1 = L := hI16724.2
            have b16732 := BT_get hI16724.1 1 1 2 (0) (0) (900) (by decide) 1 (by decide) (by decide)
            rw [e16731] at b16732
            obtain ⟨w16733, ew16733⟩ : ∃ w : Int32, I16724 (ad g 4) 2 = w := ⟨_, rfl⟩
            have bw16733 := BT_get hI16724.1 4 0 5 (0) (0) (1000) (by decide) 2 (by decide) (by decide)
            rw [ew16733] at bw16733
            rw [ew16733] at cv16726
            refine WP_istore (ls' := [(0, _), (1, _), (2, _), (3, _), (4, _), (5, _), (6, _), (7, _)]) dX3_faultInParts_102 (by decide) rfl ?_
            refine WP_iload dX3_faultInParts_104 rfl ?_
            refine WQ_if_eq 112 dX3_faultInParts_106 rfl (fun c16733 => ?_) (fun c16733 => ?_)
            · refine WP_aload_n dX3_faultInParts_112 rfl ?_
              refine WP_getr dX3_faultInParts_113 fX3_15 rfl (lyx_is hy 3 3 rfl) (rfx hr 3 2 1 (by decide)) ?_
              refine WP_callV0 (k := 5) dX3_faultInParts_116 ⟨⟨⟨by decide, by decide⟩, zX5_next⟩, lX3_40, by decide, rfl, vX5_next.1, vX5_next.2⟩ (lyx_is hy 1 5 rfl) (sx_nextf hy hr hI16724  ) (Nat.le_of_ble_eq_true rfl) ?_
              intro r I16735 J16736 Ra hq
              obtain ⟨⟨hI16735, ec, fiI16735⟩, rfl⟩ := hq
              rw [ec]
              clear ec Ra
              have e16737 : I16735 (ad g 4) 0 = w16667 := by rw [fz_at fiI16735 4 (by decide) (by decide)]; exact e16727
              have e16738 : I16735 (ad g 4) 1 = w16700 := by rw [fz_at fiI16735 4 (by decide) (by decide)]; exact e16728
              have e16739 : I16735 (ad g 6) 1 = w16642 := by rw [fz_at fiI16735 6 (by decide) (by decide)]; exact e16729
              have e16740 : I16735 (ad g 6) 2 = w16643 := by rw [fz_at fiI16735 6 (by decide) (by decide)]; exact e16730
              have e16741 : I16735 (ad g 4) 2 = w16733 := by rw [fz_at fiI16735 4 (by decide) (by decide)]; exact ew16733
              have e16742 : I16735 (ad g 1) 1 = L := hI16735.2
              have b16743 := BT_get hI16735.1 1 1 2 (0) (0) (900) (by decide) 1 (by decide) (by decide)
              rw [e16742] at b16743
              refine WP_iinc (ls' := [(0, _), (1, _), (2, _), (3, _), (4, _), (5, _), (6, _), (7, _)]) dX3_faultInParts_119 rfl (by decide) rfl ?_
              have hv16744 : (v16710 + Int32.ofInt (1)).toInt = v16710.toInt + (1) := ia_n rfl (by omega) (by omega)
              generalize v16710 + Int32.ofInt (1) = v16744 at hv16744 ⊢
              refine WP_goto 8 dX3_faultInParts_122 rfl ?_
              refine WP_iload dX3_faultInParts_8 rfl ?_
              refine WP_aload_n dX3_faultInParts_10 rfl ?_
              refine WS_call hz (i := 16) (by omega) dX3_faultInParts_11 ⟨⟨by decide, by decide⟩, zJ0_length_8abf5⟩ lX3_87 vJ0_length_8abf5 (As := []) (rest := [.int v16744]) (j_length hz (i := 16) (by omega)) rfl rfl (Nat.le_of_ble_eq_true rfl) ?_
              intro r Ia Ja Ra hq
              obtain ⟨⟨ea, eb, ec⟩, v16745, rfl, cv16745⟩ := hq
              show WP _ _ _ _ (.int _ :: _) _ _ _ _
              rw [ea, eb, ec]
              clear ea eb ec Ia Ja Ra
              have hv16745 : v16745.toInt = 5 := cv16745.trans rfl
              refine WQ_icmp_ge 125 dX3_faultInParts_14 rfl (fun c16745 => False.elim (by omega)) (fun c16745 => ?_)
              refine WP_iload dX3_faultInParts_17 rfl ?_
              refine WQ_iconst (5) (5) dX3_faultInParts_19 rfl rfl (fun v16747 hv16747 => ?_)
              refine WQ_icmp_ge 125 dX3_faultInParts_20 rfl (fun c16747 => False.elim (by omega)) (fun c16747 => ?_)
              refine WP_aload_n dX3_faultInParts_23 rfl ?_
              refine WP_iload dX3_faultInParts_24 rfl ?_
              refine WS_call hz (i := 16) (by omega) dX3_faultInParts_26 ⟨⟨by decide, by decide⟩, zJ0_charAt_5068e⟩ lX3_92 vJ0_charAt_5068e (As := [.int v16744]) (rest := []) (j_charAt hz (i := 16) (k := v16744) (by omega) (by omega) (by have z9 : ((liN.getD 16 0 : Nat) : Int) = 5 := rfl; omega)) rfl rfl (Nat.le_of_ble_eq_true rfl) ?_
              intro r Ia Ja Ra hq
              obtain ⟨⟨ea, eb, ec⟩, v16749, rfl, cv16749⟩ := hq
              show WP _ _ _ _ (.int _ :: _) _ _ _ _
              rw [ea, eb, ec]
              clear ea eb ec Ia Ja Ra
              have hv16749 : v16749.toInt = 85 := cv16749.trans (by rw [show v16744.toInt.toNat = 3 by omega]; rfl)
              refine WP_istore (ls' := [(0, _), (1, _), (2, _), (3, _), (4, _), (5, _), (6, _), (7, _)]) dX3_faultInParts_29 (by decide) rfl ?_
              refine WP_iload dX3_faultInParts_31 rfl ?_
              refine WQ_bipush (97) (97) dX3_faultInParts_33 rfl rfl (fun v16750 hv16750 => ?_)
              refine WQ_icmp_lt 49 dX3_faultInParts_35 rfl (fun c16750 => ?_) (fun c16750 => False.elim (by omega))
              refine WQ_iconst (0) (0) dX3_faultInParts_49 rfl rfl (fun v16752 hv16752 => ?_)
              refine WP_istore (ls' := [(0, _), (1, _), (2, _), (3, _), (4, _), (5, _), (6, _), (7, _)]) dX3_faultInParts_50 (by decide) rfl ?_
              refine WP_aload_n dX3_faultInParts_52 rfl ?_
              refine WP_getr dX3_faultInParts_53 fX3_15 rfl (lyx_is hy 3 3 rfl) (rfx hr 3 2 1 (by decide)) ?_
              refine WQ_geti dX3_faultInParts_56 fX3_43 rfl (lyx_is hy 1 5 rfl) (BT_get hI16735.1 1 2 3 (0) (0) (4) (by decide) 2 (by decide) (by decide)) (fun v16753 ev16753 av16753 bv16753 => ?_)
              refine WP_iload dX3_faultInParts_59 rfl ?_
              refine WQ_if_eq 68 dX3_faultInParts_61 rfl (fun c16753 => ?_) (fun c16753 => False.elim (by omega))
              refine WQ_iconst (2) (2) dX3_faultInParts_68 rfl rfl (fun v16755 hv16755 => ?_)
              refine WQ_icmp_eq 74 dX3_faultInParts_69 rfl (fun c16755 => ?_) (fun c16755 => ?_)
              · refine WP_iload dX3_faultInParts_74 rfl ?_
                refine WQ_if_eq 92 dX3_faultInParts_76 rfl (fun c16756 => ?_) (fun c16756 => False.elim (by omega))
                refine WP_aload_n dX3_faultInParts_92 rfl ?_
                refine WP_iload dX3_faultInParts_93 rfl ?_
                refine WP_iload_n dX3_faultInParts_95 rfl ?_
                refine WP_iload dX3_faultInParts_96 rfl ?_
                refine WP_aload_n dX3_faultInParts_98 rfl ?_
                refine WP_callV4 (k := 3) dX3_faultInParts_99 ⟨⟨⟨by decide, by decide⟩, zX3_faultOfNumber⟩, lX3_100, by decide, rfl, vX3_faultOfNumber.1, vX3_faultOfNumber.2⟩ (lyx_is hy 3 3 rfl) (sx_part_6_6_3 hy hr hI16735 v16749 cz v16744 (by omega) (by omega) (by omega) (by omega) (by omega) (by omega)) (Nat.le_of_ble_eq_true rfl) ?_
                intro r I16758 J16759 Ra hq
                obtain ⟨⟨hI16758, ec, ⟨pI16758, sI16758_4_0, sI16758_4_1, sI16758_4_2, sI16758_6_1, sI16758_6_2⟩⟩, v16760, rfl, av16760, bv16760, cv16760⟩ := hq
                show WP _ _ _ _ (.int _ :: _) _ _ _ _
                rw [ec]
                clear ec Ra
                have e16761 : I16758 (ad g 4) 0 = w16667 := by rw [sI16758_4_0]; exact e16737
                have e16762 : I16758 (ad g 4) 1 = w16700 := by rw [sI16758_4_1]; exact e16738
                have e16763 : I16758 (ad g 4) 2 = w16733 := by rw [sI16758_4_2]; exact e16741
                have e16764 : I16758 (ad g 6) 1 = w16642 := by rw [sI16758_6_1]; exact e16739
                have e16765 : I16758 (ad g 6) 2 = w16643 := by rw [sI16758_6_2]; exact e16740
                have e16766 : I16758 (ad g 1) 1 = L := hI16758.2
                have b16767 := BT_get hI16758.1 1 1 2 (0) (0) (900) (by decide) 1 (by decide) (by decide)
                rw [e16766] at b16767
                obtain ⟨w16768, ew16768⟩ : ∃ w : Int32, I16758 (ad g 4) 3 = w := ⟨_, rfl⟩
                have bw16768 := BT_get hI16758.1 4 0 5 (0) (0) (1000) (by decide) 3 (by decide) (by decide)
                rw [ew16768] at bw16768
                rw [ew16768] at cv16760
                refine WP_istore (ls' := [(0, _), (1, _), (2, _), (3, _), (4, _), (5, _), (6, _), (7, _)]) dX3_faultInParts_102 (by decide) rfl ?_
                refine WP_iload dX3_faultInParts_104 rfl ?_
                refine WQ_if_eq 112 dX3_faultInParts_106 rfl (fun c16768 => ?_) (fun c16768 => ?_)
                · refine WP_aload_n dX3_faultInParts_112 rfl ?_
                  refine WP_getr dX3_faultInParts_113 fX3_15 rfl (lyx_is hy 3 3 rfl) (rfx hr 3 2 1 (by decide)) ?_
                  refine WP_callV0 (k := 5) dX3_faultInParts_116 ⟨⟨⟨by decide, by decide⟩, zX5_next⟩, lX3_40, by decide, rfl, vX5_next.1, vX5_next.2⟩ (lyx_is hy 1 5 rfl) (sx_nextf hy hr hI16758  ) (Nat.le_of_ble_eq_true rfl) ?_
                  intro r I16770 J16771 Ra hq
                  obtain ⟨⟨hI16770, ec, fiI16770⟩, rfl⟩ := hq
                  rw [ec]
                  clear ec Ra
                  have e16772 : I16770 (ad g 4) 0 = w16667 := by rw [fz_at fiI16770 4 (by decide) (by decide)]; exact e16761
                  have e16773 : I16770 (ad g 4) 1 = w16700 := by rw [fz_at fiI16770 4 (by decide) (by decide)]; exact e16762
                  have e16774 : I16770 (ad g 4) 2 = w16733 := by rw [fz_at fiI16770 4 (by decide) (by decide)]; exact e16763
                  have e16775 : I16770 (ad g 6) 1 = w16642 := by rw [fz_at fiI16770 6 (by decide) (by decide)]; exact e16764
                  have e16776 : I16770 (ad g 6) 2 = w16643 := by rw [fz_at fiI16770 6 (by decide) (by decide)]; exact e16765
                  have e16777 : I16770 (ad g 4) 3 = w16768 := by rw [fz_at fiI16770 4 (by decide) (by decide)]; exact ew16768
                  have e16778 : I16770 (ad g 1) 1 = L := hI16770.2
                  have b16779 := BT_get hI16770.1 1 1 2 (0) (0) (900) (by decide) 1 (by decide) (by decide)
                  rw [e16778] at b16779
                  refine WP_iinc (ls' := [(0, _), (1, _), (2, _), (3, _), (4, _), (5, _), (6, _), (7, _)]) dX3_faultInParts_119 rfl (by decide) rfl ?_
                  have hv16780 : (v16744 + Int32.ofInt (1)).toInt = v16744.toInt + (1) := ia_n rfl (by omega) (by omega)
                  generalize v16744 + Int32.ofInt (1) = v16780 at hv16780 ⊢
                  refine WP_goto 8 dX3_faultInParts_122 rfl ?_
                  refine WP_iload dX3_faultInParts_8 rfl ?_
                  refine WP_aload_n dX3_faultInParts_10 rfl ?_
                  refine WS_call hz (i := 16) (by omega) dX3_faultInParts_11 ⟨⟨by decide, by decide⟩, zJ0_length_8abf5⟩ lX3_87 vJ0_length_8abf5 (As := []) (rest := [.int v16780]) (j_length hz (i := 16) (by omega)) rfl rfl (Nat.le_of_ble_eq_true rfl) ?_
                  intro r Ia Ja Ra hq
                  obtain ⟨⟨ea, eb, ec⟩, v16781, rfl, cv16781⟩ := hq
                  show WP _ _ _ _ (.int _ :: _) _ _ _ _
                  rw [ea, eb, ec]
                  clear ea eb ec Ia Ja Ra
                  have hv16781 : v16781.toInt = 5 := cv16781.trans rfl
                  refine WQ_icmp_ge 125 dX3_faultInParts_14 rfl (fun c16781 => False.elim (by omega)) (fun c16781 => ?_)
                  refine WP_iload dX3_faultInParts_17 rfl ?_
                  refine WQ_iconst (5) (5) dX3_faultInParts_19 rfl rfl (fun v16783 hv16783 => ?_)
                  refine WQ_icmp_ge 125 dX3_faultInParts_20 rfl (fun c16783 => False.elim (by omega)) (fun c16783 => ?_)
                  refine WP_aload_n dX3_faultInParts_23 rfl ?_
                  refine WP_iload dX3_faultInParts_24 rfl ?_
                  refine WS_call hz (i := 16) (by omega) dX3_faultInParts_26 ⟨⟨by decide, by decide⟩, zJ0_charAt_5068e⟩ lX3_92 vJ0_charAt_5068e (As := [.int v16780]) (rest := []) (j_charAt hz (i := 16) (k := v16780) (by omega) (by omega) (by have z9 : ((liN.getD 16 0 : Nat) : Int) = 5 := rfl; omega)) rfl rfl (Nat.le_of_ble_eq_true rfl) ?_
                  intro r Ia Ja Ra hq
                  obtain ⟨⟨ea, eb, ec⟩, v16785, rfl, cv16785⟩ := hq
                  show WP _ _ _ _ (.int _ :: _) _ _ _ _
                  rw [ea, eb, ec]
                  clear ea eb ec Ia Ja Ra
                  have hv16785 : v16785.toInt = 86 := cv16785.trans (by rw [show v16780.toInt.toNat = 4 by omega]; rfl)
                  refine WP_istore (ls' := [(0, _), (1, _), (2, _), (3, _), (4, _), (5, _), (6, _), (7, _)]) dX3_faultInParts_29 (by decide) rfl ?_
                  refine WP_iload dX3_faultInParts_31 rfl ?_
                  refine WQ_bipush (97) (97) dX3_faultInParts_33 rfl rfl (fun v16786 hv16786 => ?_)
                  refine WQ_icmp_lt 49 dX3_faultInParts_35 rfl (fun c16786 => ?_) (fun c16786 => False.elim (by omega))
                  refine WQ_iconst (0) (0) dX3_faultInParts_49 rfl rfl (fun v16788 hv16788 => ?_)
                  refine WP_istore (ls' := [(0, _), (1, _), (2, _), (3, _), (4, _), (5, _), (6, _), (7, _)]) dX3_faultInParts_50 (by decide) rfl ?_
                  refine WP_aload_n dX3_faultInParts_52 rfl ?_
                  refine WP_getr dX3_faultInParts_53 fX3_15 rfl (lyx_is hy 3 3 rfl) (rfx hr 3 2 1 (by decide)) ?_
                  refine WQ_geti dX3_faultInParts_56 fX3_43 rfl (lyx_is hy 1 5 rfl) (BT_get hI16770.1 1 2 3 (0) (0) (4) (by decide) 2 (by decide) (by decide)) (fun v16789 ev16789 av16789 bv16789 => ?_)
                  refine WP_iload dX3_faultInParts_59 rfl ?_
                  refine WQ_if_eq 68 dX3_faultInParts_61 rfl (fun c16789 => ?_) (fun c16789 => False.elim (by omega))
                  refine WQ_iconst (2) (2) dX3_faultInParts_68 rfl rfl (fun v16791 hv16791 => ?_)
                  refine WQ_icmp_eq 74 dX3_faultInParts_69 rfl (fun c16791 => ?_) (fun c16791 => ?_)
                  · refine WP_iload dX3_faultInParts_74 rfl ?_
                    refine WQ_if_eq 92 dX3_faultInParts_76 rfl (fun c16792 => ?_) (fun c16792 => False.elim (by omega))
                    refine WP_aload_n dX3_faultInParts_92 rfl ?_
                    refine WP_iload dX3_faultInParts_93 rfl ?_
                    refine WP_iload_n dX3_faultInParts_95 rfl ?_
                    refine WP_iload dX3_faultInParts_96 rfl ?_
                    refine WP_aload_n dX3_faultInParts_98 rfl ?_
                    refine WP_callV4 (k := 3) dX3_faultInParts_99 ⟨⟨⟨by decide, by decide⟩, zX3_faultOfNumber⟩, lX3_100, by decide, rfl, vX3_faultOfNumber.1, vX3_faultOfNumber.2⟩ (lyx_is hy 3 3 rfl) (sx_part_6_6_4 hy hr hI16770 v16785 cz v16780 (by omega) (by omega) (by omega) (by omega) (by omega) (by omega)) (Nat.le_of_ble_eq_true rfl) ?_
                    intro r I16794 J16795 Ra hq
                    obtain ⟨⟨hI16794, ec, ⟨pI16794, sI16794_4_0, sI16794_4_1, sI16794_4_2, sI16794_4_3, sI16794_6_1, sI16794_6_2⟩⟩, v16796, rfl, av16796, bv16796, cv16796⟩ := hq
                    show WP _ _ _ _ (.int _ :: _) _ _ _ _
                    rw [ec]
                    clear ec Ra
                    have e16797 : I16794 (ad g 4) 0 = w16667 := by rw [sI16794_4_0]; exact e16772
                    have e16798 : I16794 (ad g 4) 1 = w16700 := by rw [sI16794_4_1]; exact e16773
                    have e16799 : I16794 (ad g 4) 2 = w16733 := by rw [sI16794_4_2]; exact e16774
                    have e16800 : I16794 (ad g 4) 3 = w16768 := by rw [sI16794_4_3]; exact e16777
                    have e16801 : I16794 (ad g 6) 1 = w16642 := by rw [sI16794_6_1]; exact e16775
                    have e16802 : I16794 (ad g 6) 2 = w16643 := by rw [sI16794_6_2]; exact e16776
                    have e16803 : I16794 (ad g 1) 1 = L := hI16794.2
                    have b16804 := BT_get hI16794.1 1 1 2 (0) (0) (900) (by decide) 1 (by decide) (by decide)
                    rw [e16803] at b16804
                    obtain ⟨w16805, ew16805⟩ : ∃ w : Int32, I16794 (ad g 4) 4 = w := ⟨_, rfl⟩
                    have bw16805 := BT_get hI16794.1 4 0 5 (0) (0) (1000) (by decide) 4 (by decide) (by decide)
                    rw [ew16805] at bw16805
                    rw [ew16805] at cv16796
                    refine WP_istore (ls' := [(0, _), (1, _), (2, _), (3, _), (4, _), (5, _), (6, _), (7, _)]) dX3_faultInParts_102 (by decide) rfl ?_
                    refine WP_iload dX3_faultInParts_104 rfl ?_
                    refine WQ_if_eq 112 dX3_faultInParts_106 rfl (fun c16805 => ?_) (fun c16805 => ?_)
                    · refine WP_aload_n dX3_faultInParts_112 rfl ?_
                      refine WP_getr dX3_faultInParts_113 fX3_15 rfl (lyx_is hy 3 3 rfl) (rfx hr 3 2 1 (by decide)) ?_
                      refine WP_callV0 (k := 5) dX3_faultInParts_116 ⟨⟨⟨by decide, by decide⟩, zX5_next⟩, lX3_40, by decide, rfl, vX5_next.1, vX5_next.2⟩ (lyx_is hy 1 5 rfl) (sx_nextf hy hr hI16794  ) (Nat.le_of_ble_eq_true rfl) ?_
                      intro r I16807 J16808 Ra hq
                      obtain ⟨⟨hI16807, ec, fiI16807⟩, rfl⟩ := hq
                      rw [ec]
                      clear ec Ra
                      have e16809 : I16807 (ad g 4) 0 = w16667 := by rw [fz_at fiI16807 4 (by decide) (by decide)]; exact e16797
                      have e16810 : I16807 (ad g 4) 1 = w16700 := by rw [fz_at fiI16807 4 (by decide) (by decide)]; exact e16798
                      have e16811 : I16807 (ad g 4) 2 = w16733 := by rw [fz_at fiI16807 4 (by decide) (by decide)]; exact e16799
                      have e16812 : I16807 (ad g 4) 3 = w16768 := by rw [fz_at fiI16807 4 (by decide) (by decide)]; exact e16800
                      have e16813 : I16807 (ad g 6) 1 = w16642 := by rw [fz_at fiI16807 6 (by decide) (by decide)]; exact e16801
                      have e16814 : I16807 (ad g 6) 2 = w16643 := by rw [fz_at fiI16807 6 (by decide) (by decide)]; exact e16802
                      have e16815 : I16807 (ad g 4) 4 = w16805 := by rw [fz_at fiI16807 4 (by decide) (by decide)]; exact ew16805
                      have e16816 : I16807 (ad g 1) 1 = L := hI16807.2
                      have b16817 := BT_get hI16807.1 1 1 2 (0) (0) (900) (by decide) 1 (by decide) (by decide)
                      rw [e16816] at b16817
                      refine WP_iinc (ls' := [(0, _), (1, _), (2, _), (3, _), (4, _), (5, _), (6, _), (7, _)]) dX3_faultInParts_119 rfl (by decide) rfl ?_
                      have hv16818 : (v16780 + Int32.ofInt (1)).toInt = v16780.toInt + (1) := ia_n rfl (by omega) (by omega)
                      generalize v16780 + Int32.ofInt (1) = v16818 at hv16818 ⊢
                      refine WP_goto 8 dX3_faultInParts_122 rfl ?_
                      refine WP_iload dX3_faultInParts_8 rfl ?_
                      refine WP_aload_n dX3_faultInParts_10 rfl ?_
                      refine WS_call hz (i := 16) (by omega) dX3_faultInParts_11 ⟨⟨by decide, by decide⟩, zJ0_length_8abf5⟩ lX3_87 vJ0_length_8abf5 (As := []) (rest := [.int v16818]) (j_length hz (i := 16) (by omega)) rfl rfl (Nat.le_of_ble_eq_true rfl) ?_
                      intro r Ia Ja Ra hq
                      obtain ⟨⟨ea, eb, ec⟩, v16819, rfl, cv16819⟩ := hq
                      show WP _ _ _ _ (.int _ :: _) _ _ _ _
                      rw [ea, eb, ec]
                      clear ea eb ec Ia Ja Ra
                      have hv16819 : v16819.toInt = 5 := cv16819.trans rfl
                      refine WQ_icmp_ge 125 dX3_faultInParts_14 rfl (fun c16819 => ?_) (fun c16819 => False.elim (by omega))
                      refine WP_aload_n dX3_faultInParts_125 rfl ?_
                      refine WP_getr dX3_faultInParts_126 fX3_15 rfl (lyx_is hy 3 3 rfl) (rfx hr 3 2 1 (by decide)) ?_
                      refine WQ_geti dX3_faultInParts_129 fX3_43 rfl (lyx_is hy 1 5 rfl) (BT_get hI16807.1 1 2 3 (0) (0) (4) (by decide) 2 (by decide) (by decide)) (fun v16821 ev16821 av16821 bv16821 => ?_)
                      refine WQ_iconst (3) (3) dX3_faultInParts_132 rfl rfl (fun v16822 hv16822 => ?_)
                      refine WQ_icmp_ne 140 dX3_faultInParts_133 rfl (fun c16822 => ?_) (fun c16822 => ?_)
                      · refine WQ_iconst (1) (1) dX3_faultInParts_140 rfl rfl (fun v16824 hv16824 => ?_)
                        exact WP_iret dX3_faultInParts_141 rfl ⟨⟨hI16807, rfl, ⟨trivial, (by rw [e16813, ew16642] <;> exact (eq32 _ _).mpr (by omega)), (by rw [e16814, ew16643] <;> exact (eq32 _ _).mpr (by omega))⟩⟩, _, rfl, by omega, by omega, by (try rw [e16809]; try rw [e16810]; try rw [e16811]; try rw [e16812]; try rw [e16815]); omega⟩
                      · refine WQ_iconst (0) (0) dX3_faultInParts_136 rfl rfl (fun v16825 hv16825 => ?_)
                        refine WP_goto 141 dX3_faultInParts_137 rfl ?_
                        exact WP_iret dX3_faultInParts_141 rfl ⟨⟨hI16807, rfl, ⟨trivial, (by rw [e16813, ew16642] <;> exact (eq32 _ _).mpr (by omega)), (by rw [e16814, ew16643] <;> exact (eq32 _ _).mpr (by omega))⟩⟩, _, rfl, by omega, by omega, by (try rw [e16809]; try rw [e16810]; try rw [e16811]; try rw [e16812]; try rw [e16815]); omega⟩
                    · refine WP_iload dX3_faultInParts_109 rfl ?_
                      exact WP_iret dX3_faultInParts_111 rfl ⟨⟨hI16794, rfl, ⟨trivial, (by rw [e16801, ew16642] <;> exact (eq32 _ _).mpr (by omega)), (by rw [e16802, ew16643] <;> exact (eq32 _ _).mpr (by omega))⟩⟩, _, rfl, by omega, by omega, by (try rw [e16797]; try rw [e16798]; try rw [e16799]; try rw [e16800]; try rw [ew16805]); omega⟩
                  · refine WQ_iconst (1) (1) dX3_faultInParts_72 rfl rfl (fun v16826 hv16826 => ?_)
                    obtain ⟨w16827, ew16827⟩ : ∃ w : Int32, I16770 (ad g 4) 4 = w := ⟨_, rfl⟩
                    have bw16827 := BT_get hI16770.1 4 0 5 (0) (0) (1000) (by decide) 4 (by decide) (by decide)
                    rw [ew16827] at bw16827
                    exact WP_iret dX3_faultInParts_73 rfl ⟨⟨hI16770, rfl, ⟨trivial, (by rw [e16775, ew16642] <;> exact (eq32 _ _).mpr (by omega)), (by rw [e16776, ew16643] <;> exact (eq32 _ _).mpr (by omega))⟩⟩, _, rfl, by omega, by omega, by (try rw [e16772]; try rw [e16773]; try rw [e16774]; try rw [e16777]; try rw [ew16827]); omega⟩
                · refine WP_iload dX3_faultInParts_109 rfl ?_
                  obtain ⟨w16828, ew16828⟩ : ∃ w : Int32, I16758 (ad g 4) 4 = w := ⟨_, rfl⟩
                  have bw16828 := BT_get hI16758.1 4 0 5 (0) (0) (1000) (by decide) 4 (by decide) (by decide)
                  rw [ew16828] at bw16828
                  exact WP_iret dX3_faultInParts_111 rfl ⟨⟨hI16758, rfl, ⟨trivial, (by rw [e16764, ew16642] <;> exact (eq32 _ _).mpr (by omega)), (by rw [e16765, ew16643] <;> exact (eq32 _ _).mpr (by omega))⟩⟩, _, rfl, by omega, by omega, by (try rw [e16761]; try rw [e16762]; try rw [e16763]; try rw [ew16768]; try rw [ew16828]); omega⟩
              · refine WQ_iconst (1) (1) dX3_faultInParts_72 rfl rfl (fun v16829 hv16829 => ?_)
                obtain ⟨w16830, ew16830⟩ : ∃ w : Int32, I16735 (ad g 4) 3 = w := ⟨_, rfl⟩
                have bw16830 := BT_get hI16735.1 4 0 5 (0) (0) (1000) (by decide) 3 (by decide) (by decide)
                rw [ew16830] at bw16830
                obtain ⟨w16831, ew16831⟩ : ∃ w : Int32, I16735 (ad g 4) 4 = w := ⟨_, rfl⟩
                have bw16831 := BT_get hI16735.1 4 0 5 (0) (0) (1000) (by decide) 4 (by decide) (by decide)
                rw [ew16831] at bw16831
                exact WP_iret dX3_faultInParts_73 rfl ⟨⟨hI16735, rfl, ⟨trivial, (by rw [e16739, ew16642] <;> exact (eq32 _ _).mpr (by omega)), (by rw [e16740, ew16643] <;> exact (eq32 _ _).mpr (by omega))⟩⟩, _, rfl, by omega, by omega, by (try rw [e16737]; try rw [e16738]; try rw [e16741]; try rw [ew16830]; try rw [ew16831]); omega⟩
            · refine WP_iload dX3_faultInParts_109 rfl ?_
              obtain ⟨w16832, ew16832⟩ : ∃ w : Int32, I16724 (ad g 4) 3 = w := ⟨_, rfl⟩
              have bw16832 := BT_get hI16724.1 4 0 5 (0) (0) (1000) (by decide) 3 (by decide) (by decide)
              rw [ew16832] at bw16832
              obtain ⟨w16833, ew16833⟩ : ∃ w : Int32, I16724 (ad g 4) 4 = w := ⟨_, rfl⟩
              have bw16833 := BT_get hI16724.1 4 0 5 (0) (0) (1000) (by decide) 4 (by decide) (by decide)
              rw [ew16833] at bw16833
              exact WP_iret dX3_faultInParts_111 rfl ⟨⟨hI16724, rfl, ⟨trivial, (by rw [e16729, ew16642] <;> exact (eq32 _ _).mpr (by omega)), (by rw [e16730, ew16643] <;> exact (eq32 _ _).mpr (by omega))⟩⟩, _, rfl, by omega, by omega, by (try rw [e16727]; try rw [e16728]; try rw [ew16733]; try rw [ew16832]; try rw [ew16833]); omega⟩
          · refine WQ_iconst (1) (1) dX3_faultInParts_72 rfl rfl (fun v16834 hv16834 => ?_)
            obtain ⟨w16835, ew16835⟩ : ∃ w : Int32, I16702 (ad g 4) 2 = w := ⟨_, rfl⟩
            have bw16835 := BT_get hI16702.1 4 0 5 (0) (0) (1000) (by decide) 2 (by decide) (by decide)
            rw [ew16835] at bw16835
            obtain ⟨w16836, ew16836⟩ : ∃ w : Int32, I16702 (ad g 4) 3 = w := ⟨_, rfl⟩
            have bw16836 := BT_get hI16702.1 4 0 5 (0) (0) (1000) (by decide) 3 (by decide) (by decide)
            rw [ew16836] at bw16836
            obtain ⟨w16837, ew16837⟩ : ∃ w : Int32, I16702 (ad g 4) 4 = w := ⟨_, rfl⟩
            have bw16837 := BT_get hI16702.1 4 0 5 (0) (0) (1000) (by decide) 4 (by decide) (by decide)
            rw [ew16837] at bw16837
            exact WP_iret dX3_faultInParts_73 rfl ⟨⟨hI16702, rfl, ⟨trivial, (by rw [e16705, ew16642] <;> exact (eq32 _ _).mpr (by omega)), (by rw [e16706, ew16643] <;> exact (eq32 _ _).mpr (by omega))⟩⟩, _, rfl, by omega, by omega, by (try rw [e16704]; try rw [e16707]; try rw [ew16835]; try rw [ew16836]; try rw [ew16837]); omega⟩
        · refine WP_iload dX3_faultInParts_109 rfl ?_
          obtain ⟨w16838, ew16838⟩ : ∃ w : Int32, I16692 (ad g 4) 2 = w := ⟨_, rfl⟩
          have bw16838 := BT_get hI16692.1 4 0 5 (0) (0) (1000) (by decide) 2 (by decide) (by decide)
          rw [ew16838] at bw16838
          obtain ⟨w16839, ew16839⟩ : ∃ w : Int32, I16692 (ad g 4) 3 = w := ⟨_, rfl⟩
          have bw16839 := BT_get hI16692.1 4 0 5 (0) (0) (1000) (by decide) 3 (by decide) (by decide)
          rw [ew16839] at bw16839
          obtain ⟨w16840, ew16840⟩ : ∃ w : Int32, I16692 (ad g 4) 4 = w := ⟨_, rfl⟩
          have bw16840 := BT_get hI16692.1 4 0 5 (0) (0) (1000) (by decide) 4 (by decide) (by decide)
          rw [ew16840] at bw16840
          exact WP_iret dX3_faultInParts_111 rfl ⟨⟨hI16692, rfl, ⟨trivial, (by rw [e16696, ew16642] <;> exact (eq32 _ _).mpr (by omega)), (by rw [e16697, ew16643] <;> exact (eq32 _ _).mpr (by omega))⟩⟩, _, rfl, by omega, by omega, by (try rw [e16695]; try rw [ew16700]; try rw [ew16838]; try rw [ew16839]; try rw [ew16840]); omega⟩
      · refine WQ_iconst (1) (1) dX3_faultInParts_72 rfl rfl (fun v16841 hv16841 => ?_)
        obtain ⟨w16842, ew16842⟩ : ∃ w : Int32, I16669 (ad g 4) 1 = w := ⟨_, rfl⟩
        have bw16842 := BT_get hI16669.1 4 0 5 (0) (0) (1000) (by decide) 1 (by decide) (by decide)
        rw [ew16842] at bw16842
        obtain ⟨w16843, ew16843⟩ : ∃ w : Int32, I16669 (ad g 4) 2 = w := ⟨_, rfl⟩
        have bw16843 := BT_get hI16669.1 4 0 5 (0) (0) (1000) (by decide) 2 (by decide) (by decide)
        rw [ew16843] at bw16843
        obtain ⟨w16844, ew16844⟩ : ∃ w : Int32, I16669 (ad g 4) 3 = w := ⟨_, rfl⟩
        have bw16844 := BT_get hI16669.1 4 0 5 (0) (0) (1000) (by decide) 3 (by decide) (by decide)
        rw [ew16844] at bw16844
        obtain ⟨w16845, ew16845⟩ : ∃ w : Int32, I16669 (ad g 4) 4 = w := ⟨_, rfl⟩
        have bw16845 := BT_get hI16669.1 4 0 5 (0) (0) (1000) (by decide) 4 (by decide) (by decide)
        rw [ew16845] at bw16845
        exact WP_iret dX3_faultInParts_73 rfl ⟨⟨hI16669, rfl, ⟨trivial, (by rw [e16671, ew16642] <;> exact (eq32 _ _).mpr (by omega)), (by rw [e16672, ew16643] <;> exact (eq32 _ _).mpr (by omega))⟩⟩, _, rfl, by omega, by omega, by (try rw [e16673]; try rw [ew16842]; try rw [ew16843]; try rw [ew16844]; try rw [ew16845]); omega⟩
    · refine WP_iload dX3_faultInParts_109 rfl ?_
      obtain ⟨w16846, ew16846⟩ : ∃ w : Int32, I16660 (ad g 4) 1 = w := ⟨_, rfl⟩
      have bw16846 := BT_get hI16660.1 4 0 5 (0) (0) (1000) (by decide) 1 (by decide) (by decide)
      rw [ew16846] at bw16846
      obtain ⟨w16847, ew16847⟩ : ∃ w : Int32, I16660 (ad g 4) 2 = w := ⟨_, rfl⟩
      have bw16847 := BT_get hI16660.1 4 0 5 (0) (0) (1000) (by decide) 2 (by decide) (by decide)
      rw [ew16847] at bw16847
      obtain ⟨w16848, ew16848⟩ : ∃ w : Int32, I16660 (ad g 4) 3 = w := ⟨_, rfl⟩
      have bw16848 := BT_get hI16660.1 4 0 5 (0) (0) (1000) (by decide) 3 (by decide) (by decide)
      rw [ew16848] at bw16848
      obtain ⟨w16849, ew16849⟩ : ∃ w : Int32, I16660 (ad g 4) 4 = w := ⟨_, rfl⟩
      have bw16849 := BT_get hI16660.1 4 0 5 (0) (0) (1000) (by decide) 4 (by decide) (by decide)
      rw [ew16849] at bw16849
      exact WP_iret dX3_faultInParts_111 rfl ⟨⟨hI16660, rfl, ⟨trivial, (by rw [e16663, ew16642] <;> exact (eq32 _ _).mpr (by omega)), (by rw [e16664, ew16643] <;> exact (eq32 _ _).mpr (by omega))⟩⟩, _, rfl, by omega, by omega, by (try rw [ew16667]; try rw [ew16846]; try rw [ew16847]; try rw [ew16848]; try rw [ew16849]); omega⟩
  · refine WQ_iconst (1) (1) dX3_faultInParts_72 rfl rfl (fun v16850 hv16850 => ?_)
    obtain ⟨w16851, ew16851⟩ : ∃ w : Int32, I (ad g 4) 0 = w := ⟨_, rfl⟩
    have bw16851 := BT_get hI.1 4 0 5 (0) (0) (1000) (by decide) 0 (by decide) (by decide)
    rw [ew16851] at bw16851
    obtain ⟨w16852, ew16852⟩ : ∃ w : Int32, I (ad g 4) 1 = w := ⟨_, rfl⟩
    have bw16852 := BT_get hI.1 4 0 5 (0) (0) (1000) (by decide) 1 (by decide) (by decide)
    rw [ew16852] at bw16852
    obtain ⟨w16853, ew16853⟩ : ∃ w : Int32, I (ad g 4) 2 = w := ⟨_, rfl⟩
    have bw16853 := BT_get hI.1 4 0 5 (0) (0) (1000) (by decide) 2 (by decide) (by decide)
    rw [ew16853] at bw16853
    obtain ⟨w16854, ew16854⟩ : ∃ w : Int32, I (ad g 4) 3 = w := ⟨_, rfl⟩
    have bw16854 := BT_get hI.1 4 0 5 (0) (0) (1000) (by decide) 3 (by decide) (by decide)
    rw [ew16854] at bw16854
    obtain ⟨w16855, ew16855⟩ : ∃ w : Int32, I (ad g 4) 4 = w := ⟨_, rfl⟩
    have bw16855 := BT_get hI.1 4 0 5 (0) (0) (1000) (by decide) 4 (by decide) (by decide)
    rw [ew16855] at bw16855
    exact WP_iret dX3_faultInParts_73 rfl ⟨⟨hI, rfl, ⟨trivial, rfl, rfl⟩⟩, _, rfl, by omega, by omega, by (try rw [ew16851]; try rw [ew16852]; try rw [ew16853]; try rw [ew16854]; try rw [ew16855]); omega⟩
set_option maxHeartbeats 4000000 in
set_option maxRecDepth 100000 in
theorem sx_parts_6_7 {g : GG} {n : Int} {L : Int32} (hy : LyX g) {aK aV : Nat → Nat} {fo : Option Nat} (hz : HZ g aK aV fo)  {I : pI} {J : pJ} {R : pR} (hr : RfX g R) (hI : XI g n L I) (cz : Int32) (cz_lo : 7 ≤ cz.toInt) (cz_hi : cz.toInt ≤ 7) : SP g mX3_faultInParts [.ref (ad g 3), .int cz, .ref (ad g 6)] I J R (fun r I' J' R' => (XI g n L I' ∧ R' = R ∧ True ∧ I' (ad g 6) 1 = I (ad g 6) 1 ∧ I' (ad g 6) 2 = I (ad g 6) 2) ∧ ∃ v : Int32, r = some (.int v) ∧ 0 ≤ v.toInt ∧ v.toInt ≤ 5 ∧ (v.toInt = 0 → (I' (ad g 4) 0).toInt ≤ 3)) := by
  refine SP_of ⟨by decide, rfl⟩ (Nat.le_of_ble_eq_true rfl) ?_
  have e16856 : I (ad g 1) 1 = L := hI.2
  have b16857 := BT_get hI.1 1 1 2 (0) (0) (900) (by decide) 1 (by decide) (by decide)
  rw [e16856] at b16857
  obtain ⟨w16858, ew16858⟩ : ∃ w : Int32, I (ad g 6) 1 = w := ⟨_, rfl⟩
  have bw16858 := BT_get hI.1 6 1 2 (0) (0) (4) (by decide) 1 (by decide) (by decide)
  rw [ew16858] at bw16858
  obtain ⟨w16859, ew16859⟩ : ∃ w : Int32, I (ad g 6) 2 = w := ⟨_, rfl⟩
  have bw16859 := BT_get hI.1 6 2 3 (0) (0) (3) (by decide) 2 (by decide) (by decide)
  rw [ew16859] at bw16859
  refine WP_iload_n dX3_faultInParts_0 rfl ?_
  refine WP_callS1 dX3_faultInParts_1 ⟨⟨⟨by decide, by decide⟩, zX3_shapeOf⟩, lX3_84, tX3_shapeOf⟩ (sx_shapeOf hy hz hr hI cz (by omega) (by omega)) (Nat.le_of_ble_eq_true rfl) ?_
  intro r Ia Ja Ra hq
  obtain ⟨⟨ea, eb, ec⟩, rfl⟩ := hq
  show WP _ _ _ _ (.ref _ :: _) _ _ _ _
  rw [show 10 + cz.toInt.toNat = 17 by omega]
  rw [ea, eb, ec]
  clear ea eb ec Ia Ja Ra
  refine WP_astore_n (ls' := [(0, _), (1, _), (2, _), (3, _)]) dX3_faultInParts_4 (by decide) rfl ?_
  refine WQ_iconst (0) (0) dX3_faultInParts_5 rfl rfl (fun v16860 hv16860 => ?_)
  refine WP_istore (ls' := [(0, _), (1, _), (2, _), (3, _), (4, _)]) dX3_faultInParts_6 (by decide) rfl ?_
  refine WP_iload dX3_faultInParts_8 rfl ?_
  refine WP_aload_n dX3_faultInParts_10 rfl ?_
  refine WS_call hz (i := 17) (by omega) dX3_faultInParts_11 ⟨⟨by decide, by decide⟩, zJ0_length_8abf5⟩ lX3_87 vJ0_length_8abf5 (As := []) (rest := [.int v16860]) (j_length hz (i := 17) (by omega)) rfl rfl (Nat.le_of_ble_eq_true rfl) ?_
  intro r Ia Ja Ra hq
  obtain ⟨⟨ea, eb, ec⟩, v16861, rfl, cv16861⟩ := hq
  show WP _ _ _ _ (.int _ :: _) _ _ _ _
  rw [ea, eb, ec]
  clear ea eb ec Ia Ja Ra
  have hv16861 : v16861.toInt = 2 := cv16861.trans rfl
  refine WQ_icmp_ge 125 dX3_faultInParts_14 rfl (fun c16861 => False.elim (by omega)) (fun c16861 => ?_)
  refine WP_iload dX3_faultInParts_17 rfl ?_
  refine WQ_iconst (5) (5) dX3_faultInParts_19 rfl rfl (fun v16863 hv16863 => ?_)
  refine WQ_icmp_ge 125 dX3_faultInParts_20 rfl (fun c16863 => False.elim (by omega)) (fun c16863 => ?_)
  refine WP_aload_n dX3_faultInParts_23 rfl ?_
  refine WP_iload dX3_faultInParts_24 rfl ?_
  refine WS_call hz (i := 17) (by omega) dX3_faultInParts_26 ⟨⟨by decide, by decide⟩, zJ0_charAt_5068e⟩ lX3_92 vJ0_charAt_5068e (As := [.int v16860]) (rest := []) (j_charAt hz (i := 17) (k := v16860) (by omega) (by omega) (by have z9 : ((liN.getD 17 0 : Nat) : Int) = 2 := rfl; omega)) rfl rfl (Nat.le_of_ble_eq_true rfl) ?_
  intro r Ia Ja Ra hq
  obtain ⟨⟨ea, eb, ec⟩, v16865, rfl, cv16865⟩ := hq
  show WP _ _ _ _ (.int _ :: _) _ _ _ _
  rw [ea, eb, ec]
  clear ea eb ec Ia Ja Ra
  have hv16865 : v16865.toInt = 115 := cv16865.trans (by rw [show v16860.toInt.toNat = 0 by omega]; rfl)
  refine WP_istore (ls' := [(0, _), (1, _), (2, _), (3, _), (4, _), (5, _)]) dX3_faultInParts_29 (by decide) rfl ?_
  refine WP_iload dX3_faultInParts_31 rfl ?_
  refine WQ_bipush (97) (97) dX3_faultInParts_33 rfl rfl (fun v16866 hv16866 => ?_)
  refine WQ_icmp_lt 49 dX3_faultInParts_35 rfl (fun c16866 => False.elim (by omega)) (fun c16866 => ?_)
  refine WP_iload dX3_faultInParts_38 rfl ?_
  refine WQ_bipush (122) (122) dX3_faultInParts_40 rfl rfl (fun v16868 hv16868 => ?_)
  refine WQ_icmp_gt 49 dX3_faultInParts_42 rfl (fun c16868 => False.elim (by omega)) (fun c16868 => ?_)
  refine WQ_iconst (1) (1) dX3_faultInParts_45 rfl rfl (fun v16870 hv16870 => ?_)
  refine WP_goto 50 dX3_faultInParts_46 rfl ?_
  refine WP_istore (ls' := [(0, _), (1, _), (2, _), (3, _), (4, _), (5, _), (6, _)]) dX3_faultInParts_50 (by decide) rfl ?_
  refine WP_aload_n dX3_faultInParts_52 rfl ?_
  refine WP_getr dX3_faultInParts_53 fX3_15 rfl (lyx_is hy 3 3 rfl) (rfx hr 3 2 1 (by decide)) ?_
  refine WQ_geti dX3_faultInParts_56 fX3_43 rfl (lyx_is hy 1 5 rfl) (BT_get hI.1 1 2 3 (0) (0) (4) (by decide) 2 (by decide) (by decide)) (fun v16871 ev16871 av16871 bv16871 => ?_)
  refine WP_iload dX3_faultInParts_59 rfl ?_
  refine WQ_if_eq 68 dX3_faultInParts_61 rfl (fun c16871 => False.elim (by omega)) (fun c16871 => ?_)
  refine WQ_iconst (1) (1) dX3_faultInParts_64 rfl rfl (fun v16873 hv16873 => ?_)
  refine WP_goto 69 dX3_faultInParts_65 rfl ?_
  refine WQ_icmp_eq 74 dX3_faultInParts_69 rfl (fun c16873 => ?_) (fun c16873 => ?_)
  · refine WP_iload dX3_faultInParts_74 rfl ?_
    refine WQ_if_eq 92 dX3_faultInParts_76 rfl (fun c16874 => False.elim (by omega)) (fun c16874 => ?_)
    refine WP_aload_n dX3_faultInParts_79 rfl ?_
    refine WP_iload dX3_faultInParts_80 rfl ?_
    refine WP_iload_n dX3_faultInParts_82 rfl ?_
    refine WP_iload dX3_faultInParts_83 rfl ?_
    refine WP_aload_n dX3_faultInParts_85 rfl ?_
    refine WP_callV4 (k := 3) dX3_faultInParts_86 ⟨⟨⟨by decide, by decide⟩, zX3_faultOfName⟩, lX3_96, by decide, rfl, vX3_faultOfName.1, vX3_faultOfName.2⟩ (lyx_is hy 3 3 rfl) (sx_part_6_7_0 hy hr hI v16865 cz v16860 (by omega) (by omega) (by omega) (by omega) (by omega) (by omega)) (Nat.le_of_ble_eq_true rfl) ?_
    intro r I16876 J16877 Ra hq
    obtain ⟨⟨hI16876, ec, ⟨pI16876, sI16876_6_1, sI16876_6_2⟩⟩, v16878, rfl, av16878, bv16878, cv16878⟩ := hq
    show WP _ _ _ _ (.int _ :: _) _ _ _ _
    rw [ec]
    clear ec Ra
    have e16879 : I16876 (ad g 6) 1 = w16858 := by rw [sI16876_6_1]; exact ew16858
    have e16880 : I16876 (ad g 6) 2 = w16859 := by rw [sI16876_6_2]; exact ew16859
    have e16881 : I16876 (ad g 1) 1 = L := hI16876.2
    have b16882 := BT_get hI16876.1 1 1 2 (0) (0) (900) (by decide) 1 (by decide) (by decide)
    rw [e16881] at b16882
    obtain ⟨w16883, ew16883⟩ : ∃ w : Int32, I16876 (ad g 4) 0 = w := ⟨_, rfl⟩
    have bw16883 := BT_get hI16876.1 4 0 5 (0) (0) (1000) (by decide) 0 (by decide) (by decide)
    rw [ew16883] at bw16883
    rw [ew16883] at cv16878
    refine WP_goto 102 dX3_faultInParts_89 rfl ?_
    refine WP_istore (ls' := [(0, _), (1, _), (2, _), (3, _), (4, _), (5, _), (6, _), (7, _)]) dX3_faultInParts_102 (by decide) rfl ?_
    refine WP_iload dX3_faultInParts_104 rfl ?_
    refine WQ_if_eq 112 dX3_faultInParts_106 rfl (fun c16883 => ?_) (fun c16883 => ?_)
    · refine WP_aload_n dX3_faultInParts_112 rfl ?_
      refine WP_getr dX3_faultInParts_113 fX3_15 rfl (lyx_is hy 3 3 rfl) (rfx hr 3 2 1 (by decide)) ?_
      refine WP_callV0 (k := 5) dX3_faultInParts_116 ⟨⟨⟨by decide, by decide⟩, zX5_next⟩, lX3_40, by decide, rfl, vX5_next.1, vX5_next.2⟩ (lyx_is hy 1 5 rfl) (sx_nextf hy hr hI16876  ) (Nat.le_of_ble_eq_true rfl) ?_
      intro r I16885 J16886 Ra hq
      obtain ⟨⟨hI16885, ec, fiI16885⟩, rfl⟩ := hq
      rw [ec]
      clear ec Ra
      have e16887 : I16885 (ad g 6) 1 = w16858 := by rw [fz_at fiI16885 6 (by decide) (by decide)]; exact e16879
      have e16888 : I16885 (ad g 6) 2 = w16859 := by rw [fz_at fiI16885 6 (by decide) (by decide)]; exact e16880
      have e16889 : I16885 (ad g 4) 0 = w16883 := by rw [fz_at fiI16885 4 (by decide) (by decide)]; exact ew16883
      have e16890 : I16885 (ad g 1) 1 = L := hI16885.2
      have b16891 := BT_get hI16885.1 1 1 2 (0) (0) (900) (by decide) 1 (by decide) (by decide)
      rw [e16890] at b16891
      refine WP_iinc (ls' := [(0, _), (1, _), (2, _), (3, _), (4, _), (5, _), (6, _), (7, _)]) dX3_faultInParts_119 rfl (by decide) rfl ?_
      have hv16892 : (v16860 + Int32.ofInt (1)).toInt = v16860.toInt + (1) := ia_n rfl (by omega) (by omega)
      generalize v16860 + Int32.ofInt (1) = v16892 at hv16892 ⊢
      refine WP_goto 8 dX3_faultInParts_122 rfl ?_
      refine WP_iload dX3_faultInParts_8 rfl ?_
      refine WP_aload_n dX3_faultInParts_10 rfl ?_
      refine WS_call hz (i := 17) (by omega) dX3_faultInParts_11 ⟨⟨by decide, by decide⟩, zJ0_length_8abf5⟩ lX3_87 vJ0_length_8abf5 (As := []) (rest := [.int v16892]) (j_length hz (i := 17) (by omega)) rfl rfl (Nat.le_of_ble_eq_true rfl) ?_
      intro r Ia Ja Ra hq
      obtain ⟨⟨ea, eb, ec⟩, v16893, rfl, cv16893⟩ := hq
      show WP _ _ _ _ (.int _ :: _) _ _ _ _
      rw [ea, eb, ec]
      clear ea eb ec Ia Ja Ra
      have hv16893 : v16893.toInt = 2 := cv16893.trans rfl
      refine WQ_icmp_ge 125 dX3_faultInParts_14 rfl (fun c16893 => False.elim (by omega)) (fun c16893 => ?_)
      refine WP_iload dX3_faultInParts_17 rfl ?_
      refine WQ_iconst (5) (5) dX3_faultInParts_19 rfl rfl (fun v16895 hv16895 => ?_)
      refine WQ_icmp_ge 125 dX3_faultInParts_20 rfl (fun c16895 => False.elim (by omega)) (fun c16895 => ?_)
      refine WP_aload_n dX3_faultInParts_23 rfl ?_
      refine WP_iload dX3_faultInParts_24 rfl ?_
      refine WS_call hz (i := 17) (by omega) dX3_faultInParts_26 ⟨⟨by decide, by decide⟩, zJ0_charAt_5068e⟩ lX3_92 vJ0_charAt_5068e (As := [.int v16892]) (rest := []) (j_charAt hz (i := 17) (k := v16892) (by omega) (by omega) (by have z9 : ((liN.getD 17 0 : Nat) : Int) = 2 := rfl; omega)) rfl rfl (Nat.le_of_ble_eq_true rfl) ?_
      intro r Ia Ja Ra hq
      obtain ⟨⟨ea, eb, ec⟩, v16897, rfl, cv16897⟩ := hq
      show WP _ _ _ _ (.int _ :: _) _ _ _ _
      rw [ea, eb, ec]
      clear ea eb ec Ia Ja Ra
      have hv16897 : v16897.toInt = 73 := cv16897.trans (by rw [show v16892.toInt.toNat = 1 by omega]; rfl)
      refine WP_istore (ls' := [(0, _), (1, _), (2, _), (3, _), (4, _), (5, _), (6, _), (7, _)]) dX3_faultInParts_29 (by decide) rfl ?_
      refine WP_iload dX3_faultInParts_31 rfl ?_
      refine WQ_bipush (97) (97) dX3_faultInParts_33 rfl rfl (fun v16898 hv16898 => ?_)
      refine WQ_icmp_lt 49 dX3_faultInParts_35 rfl (fun c16898 => ?_) (fun c16898 => False.elim (by omega))
      refine WQ_iconst (0) (0) dX3_faultInParts_49 rfl rfl (fun v16900 hv16900 => ?_)
      refine WP_istore (ls' := [(0, _), (1, _), (2, _), (3, _), (4, _), (5, _), (6, _), (7, _)]) dX3_faultInParts_50 (by decide) rfl ?_
      refine WP_aload_n dX3_faultInParts_52 rfl ?_
      refine WP_getr dX3_faultInParts_53 fX3_15 rfl (lyx_is hy 3 3 rfl) (rfx hr 3 2 1 (by decide)) ?_
      refine WQ_geti dX3_faultInParts_56 fX3_43 rfl (lyx_is hy 1 5 rfl) (BT_get hI16885.1 1 2 3 (0) (0) (4) (by decide) 2 (by decide) (by decide)) (fun v16901 ev16901 av16901 bv16901 => ?_)
      refine WP_iload dX3_faultInParts_59 rfl ?_
      refine WQ_if_eq 68 dX3_faultInParts_61 rfl (fun c16901 => ?_) (fun c16901 => False.elim (by omega))
      refine WQ_iconst (2) (2) dX3_faultInParts_68 rfl rfl (fun v16903 hv16903 => ?_)
      refine WQ_icmp_eq 74 dX3_faultInParts_69 rfl (fun c16903 => ?_) (fun c16903 => ?_)
      · refine WP_iload dX3_faultInParts_74 rfl ?_
        refine WQ_if_eq 92 dX3_faultInParts_76 rfl (fun c16904 => ?_) (fun c16904 => False.elim (by omega))
        refine WP_aload_n dX3_faultInParts_92 rfl ?_
        refine WP_iload dX3_faultInParts_93 rfl ?_
        refine WP_iload_n dX3_faultInParts_95 rfl ?_
        refine WP_iload dX3_faultInParts_96 rfl ?_
        refine WP_aload_n dX3_faultInParts_98 rfl ?_
        refine WP_callV4 (k := 3) dX3_faultInParts_99 ⟨⟨⟨by decide, by decide⟩, zX3_faultOfNumber⟩, lX3_100, by decide, rfl, vX3_faultOfNumber.1, vX3_faultOfNumber.2⟩ (lyx_is hy 3 3 rfl) (sx_part_6_7_1 hy hr hI16885 v16897 cz v16892 (by omega) (by omega) (by omega) (by omega) (by omega) (by omega)) (Nat.le_of_ble_eq_true rfl) ?_
        intro r I16906 J16907 Ra hq
        obtain ⟨⟨hI16906, ec, ⟨pI16906, sI16906_4_0, sI16906_6_1, sI16906_6_2⟩⟩, v16908, rfl, av16908, bv16908, cv16908⟩ := hq
        show WP _ _ _ _ (.int _ :: _) _ _ _ _
        rw [ec]
        clear ec Ra
        have e16909 : I16906 (ad g 4) 0 = w16883 := by rw [sI16906_4_0]; exact e16889
        have e16910 : I16906 (ad g 6) 1 = w16858 := by rw [sI16906_6_1]; exact e16887
        have e16911 : I16906 (ad g 6) 2 = w16859 := by rw [sI16906_6_2]; exact e16888
        have e16912 : I16906 (ad g 1) 1 = L := hI16906.2
        have b16913 := BT_get hI16906.1 1 1 2 (0) (0) (900) (by decide) 1 (by decide) (by decide)
        rw [e16912] at b16913
        obtain ⟨w16914, ew16914⟩ : ∃ w : Int32, I16906 (ad g 4) 1 = w := ⟨_, rfl⟩
        have bw16914 := BT_get hI16906.1 4 0 5 (0) (0) (1000) (by decide) 1 (by decide) (by decide)
        rw [ew16914] at bw16914
        rw [ew16914] at cv16908
        refine WP_istore (ls' := [(0, _), (1, _), (2, _), (3, _), (4, _), (5, _), (6, _), (7, _)]) dX3_faultInParts_102 (by decide) rfl ?_
        refine WP_iload dX3_faultInParts_104 rfl ?_
        refine WQ_if_eq 112 dX3_faultInParts_106 rfl (fun c16914 => ?_) (fun c16914 => ?_)
        · refine WP_aload_n dX3_faultInParts_112 rfl ?_
          refine WP_getr dX3_faultInParts_113 fX3_15 rfl (lyx_is hy 3 3 rfl) (rfx hr 3 2 1 (by decide)) ?_
          refine WP_callV0 (k := 5) dX3_faultInParts_116 ⟨⟨⟨by decide, by decide⟩, zX5_next⟩, lX3_40, by decide, rfl, vX5_next.1, vX5_next.2⟩ (lyx_is hy 1 5 rfl) (sx_nextf hy hr hI16906  ) (Nat.le_of_ble_eq_true rfl) ?_
          intro r I16916 J16917 Ra hq
          obtain ⟨⟨hI16916, ec, fiI16916⟩, rfl⟩ := hq
          rw [ec]
          clear ec Ra
          have e16918 : I16916 (ad g 4) 0 = w16883 := by rw [fz_at fiI16916 4 (by decide) (by decide)]; exact e16909
          have e16919 : I16916 (ad g 6) 1 = w16858 := by rw [fz_at fiI16916 6 (by decide) (by decide)]; exact e16910
          have e16920 : I16916 (ad g 6) 2 = w16859 := by rw [fz_at fiI16916 6 (by decide) (by decide)]; exact e16911
          have e16921 : I16916 (ad g 4) 1 = w16914 := by rw [fz_at fiI16916 4 (by decide) (by decide)]; exact ew16914
          have e16922 : I16916 (ad g 1) 1 = L := hI16916.2
          have b16923 := BT_get hI16916.1 1 1 2 (0) (0) (900) (by decide) 1 (by decide) (by decide)
          rw [e16922] at b16923
          refine WP_iinc (ls' := [(0, _), (1, _), (2, _), (3, _), (4, _), (5, _), (6, _), (7, _)]) dX3_faultInParts_119 rfl (by decide) rfl ?_
          have hv16924 : (v16892 + Int32.ofInt (1)).toInt = v16892.toInt + (1) := ia_n rfl (by omega) (by omega)
          generalize v16892 + Int32.ofInt (1) = v16924 at hv16924 ⊢
          refine WP_goto 8 dX3_faultInParts_122 rfl ?_
          refine WP_iload dX3_faultInParts_8 rfl ?_
          refine WP_aload_n dX3_faultInParts_10 rfl ?_
          refine WS_call hz (i := 17) (by omega) dX3_faultInParts_11 ⟨⟨by decide, by decide⟩, zJ0_length_8abf5⟩ lX3_87 vJ0_length_8abf5 (As := []) (rest := [.int v16924]) (j_length hz (i := 17) (by omega)) rfl rfl (Nat.le_of_ble_eq_true rfl) ?_
          intro r Ia Ja Ra hq
          obtain ⟨⟨ea, eb, ec⟩, v16925, rfl, cv16925⟩ := hq
          show WP _ _ _ _ (.int _ :: _) _ _ _ _
          rw [ea, eb, ec]
          clear ea eb ec Ia Ja Ra
          have hv16925 : v16925.toInt = 2 := cv16925.trans rfl
          refine WQ_icmp_ge 125 dX3_faultInParts_14 rfl (fun c16925 => ?_) (fun c16925 => False.elim (by omega))
          refine WP_aload_n dX3_faultInParts_125 rfl ?_
          refine WP_getr dX3_faultInParts_126 fX3_15 rfl (lyx_is hy 3 3 rfl) (rfx hr 3 2 1 (by decide)) ?_
          refine WQ_geti dX3_faultInParts_129 fX3_43 rfl (lyx_is hy 1 5 rfl) (BT_get hI16916.1 1 2 3 (0) (0) (4) (by decide) 2 (by decide) (by decide)) (fun v16927 ev16927 av16927 bv16927 => ?_)
          refine WQ_iconst (3) (3) dX3_faultInParts_132 rfl rfl (fun v16928 hv16928 => ?_)
          refine WQ_icmp_ne 140 dX3_faultInParts_133 rfl (fun c16928 => ?_) (fun c16928 => ?_)
          · refine WQ_iconst (1) (1) dX3_faultInParts_140 rfl rfl (fun v16930 hv16930 => ?_)
            exact WP_iret dX3_faultInParts_141 rfl ⟨⟨hI16916, rfl, ⟨trivial, (by rw [e16919, ew16858] <;> exact (eq32 _ _).mpr (by omega)), (by rw [e16920, ew16859] <;> exact (eq32 _ _).mpr (by omega))⟩⟩, _, rfl, by omega, by omega, by (try rw [e16918]); omega⟩
          · refine WQ_iconst (0) (0) dX3_faultInParts_136 rfl rfl (fun v16931 hv16931 => ?_)
            refine WP_goto 141 dX3_faultInParts_137 rfl ?_
            exact WP_iret dX3_faultInParts_141 rfl ⟨⟨hI16916, rfl, ⟨trivial, (by rw [e16919, ew16858] <;> exact (eq32 _ _).mpr (by omega)), (by rw [e16920, ew16859] <;> exact (eq32 _ _).mpr (by omega))⟩⟩, _, rfl, by omega, by omega, by (try rw [e16918]); omega⟩
        · refine WP_iload dX3_faultInParts_109 rfl ?_
          exact WP_iret dX3_faultInParts_111 rfl ⟨⟨hI16906, rfl, ⟨trivial, (by rw [e16910, ew16858] <;> exact (eq32 _ _).mpr (by omega)), (by rw [e16911, ew16859] <;> exact (eq32 _ _).mpr (by omega))⟩⟩, _, rfl, by omega, by omega, by (try rw [e16909]); omega⟩
      · refine WQ_iconst (1) (1) dX3_faultInParts_72 rfl rfl (fun v16932 hv16932 => ?_)
        exact WP_iret dX3_faultInParts_73 rfl ⟨⟨hI16885, rfl, ⟨trivial, (by rw [e16887, ew16858] <;> exact (eq32 _ _).mpr (by omega)), (by rw [e16888, ew16859] <;> exact (eq32 _ _).mpr (by omega))⟩⟩, _, rfl, by omega, by omega, by (try rw [e16889]); omega⟩
    · refine WP_iload dX3_faultInParts_109 rfl ?_
      exact WP_iret dX3_faultInParts_111 rfl ⟨⟨hI16876, rfl, ⟨trivial, (by rw [e16879, ew16858] <;> exact (eq32 _ _).mpr (by omega)), (by rw [e16880, ew16859] <;> exact (eq32 _ _).mpr (by omega))⟩⟩, _, rfl, by omega, by omega, by (try rw [ew16883]); omega⟩
  · refine WQ_iconst (1) (1) dX3_faultInParts_72 rfl rfl (fun v16933 hv16933 => ?_)
    obtain ⟨w16934, ew16934⟩ : ∃ w : Int32, I (ad g 4) 0 = w := ⟨_, rfl⟩
    have bw16934 := BT_get hI.1 4 0 5 (0) (0) (1000) (by decide) 0 (by decide) (by decide)
    rw [ew16934] at bw16934
    exact WP_iret dX3_faultInParts_73 rfl ⟨⟨hI, rfl, ⟨trivial, rfl, rfl⟩⟩, _, rfl, by omega, by omega, by (try rw [ew16934]); omega⟩
set_option maxHeartbeats 4000000 in
set_option maxRecDepth 100000 in
theorem sx_parts_6_8 {g : GG} {n : Int} {L : Int32} (hy : LyX g) {aK aV : Nat → Nat} {fo : Option Nat} (hz : HZ g aK aV fo)  {I : pI} {J : pJ} {R : pR} (hr : RfX g R) (hI : XI g n L I) (cz : Int32) (cz_lo : 8 ≤ cz.toInt) (cz_hi : cz.toInt ≤ 8) : SP g mX3_faultInParts [.ref (ad g 3), .int cz, .ref (ad g 6)] I J R (fun r I' J' R' => (XI g n L I' ∧ R' = R ∧ True ∧ I' (ad g 6) 1 = I (ad g 6) 1 ∧ I' (ad g 6) 2 = I (ad g 6) 2) ∧ ∃ v : Int32, r = some (.int v) ∧ 0 ≤ v.toInt ∧ v.toInt ≤ 5 ∧ (v.toInt = 0 → (I' (ad g 4) 0).toInt ≤ 3)) := by
  refine SP_of ⟨by decide, rfl⟩ (Nat.le_of_ble_eq_true rfl) ?_
  have e16935 : I (ad g 1) 1 = L := hI.2
  have b16936 := BT_get hI.1 1 1 2 (0) (0) (900) (by decide) 1 (by decide) (by decide)
  rw [e16935] at b16936
  obtain ⟨w16937, ew16937⟩ : ∃ w : Int32, I (ad g 6) 1 = w := ⟨_, rfl⟩
  have bw16937 := BT_get hI.1 6 1 2 (0) (0) (4) (by decide) 1 (by decide) (by decide)
  rw [ew16937] at bw16937
  obtain ⟨w16938, ew16938⟩ : ∃ w : Int32, I (ad g 6) 2 = w := ⟨_, rfl⟩
  have bw16938 := BT_get hI.1 6 2 3 (0) (0) (3) (by decide) 2 (by decide) (by decide)
  rw [ew16938] at bw16938
  refine WP_iload_n dX3_faultInParts_0 rfl ?_
  refine WP_callS1 dX3_faultInParts_1 ⟨⟨⟨by decide, by decide⟩, zX3_shapeOf⟩, lX3_84, tX3_shapeOf⟩ (sx_shapeOf hy hz hr hI cz (by omega) (by omega)) (Nat.le_of_ble_eq_true rfl) ?_
  intro r Ia Ja Ra hq
  obtain ⟨⟨ea, eb, ec⟩, rfl⟩ := hq
  show WP _ _ _ _ (.ref _ :: _) _ _ _ _
  rw [show 10 + cz.toInt.toNat = 18 by omega]
  rw [ea, eb, ec]
  clear ea eb ec Ia Ja Ra
  refine WP_astore_n (ls' := [(0, _), (1, _), (2, _), (3, _)]) dX3_faultInParts_4 (by decide) rfl ?_
  refine WQ_iconst (0) (0) dX3_faultInParts_5 rfl rfl (fun v16939 hv16939 => ?_)
  refine WP_istore (ls' := [(0, _), (1, _), (2, _), (3, _), (4, _)]) dX3_faultInParts_6 (by decide) rfl ?_
  refine WP_iload dX3_faultInParts_8 rfl ?_
  refine WP_aload_n dX3_faultInParts_10 rfl ?_
  refine WS_call hz (i := 18) (by omega) dX3_faultInParts_11 ⟨⟨by decide, by decide⟩, zJ0_length_8abf5⟩ lX3_87 vJ0_length_8abf5 (As := []) (rest := [.int v16939]) (j_length hz (i := 18) (by omega)) rfl rfl (Nat.le_of_ble_eq_true rfl) ?_
  intro r Ia Ja Ra hq
  obtain ⟨⟨ea, eb, ec⟩, v16940, rfl, cv16940⟩ := hq
  show WP _ _ _ _ (.int _ :: _) _ _ _ _
  rw [ea, eb, ec]
  clear ea eb ec Ia Ja Ra
  have hv16940 : v16940.toInt = 1 := cv16940.trans rfl
  refine WQ_icmp_ge 125 dX3_faultInParts_14 rfl (fun c16940 => False.elim (by omega)) (fun c16940 => ?_)
  refine WP_iload dX3_faultInParts_17 rfl ?_
  refine WQ_iconst (5) (5) dX3_faultInParts_19 rfl rfl (fun v16942 hv16942 => ?_)
  refine WQ_icmp_ge 125 dX3_faultInParts_20 rfl (fun c16942 => False.elim (by omega)) (fun c16942 => ?_)
  refine WP_aload_n dX3_faultInParts_23 rfl ?_
  refine WP_iload dX3_faultInParts_24 rfl ?_
  refine WS_call hz (i := 18) (by omega) dX3_faultInParts_26 ⟨⟨by decide, by decide⟩, zJ0_charAt_5068e⟩ lX3_92 vJ0_charAt_5068e (As := [.int v16939]) (rest := []) (j_charAt hz (i := 18) (k := v16939) (by omega) (by omega) (by have z9 : ((liN.getD 18 0 : Nat) : Int) = 1 := rfl; omega)) rfl rfl (Nat.le_of_ble_eq_true rfl) ?_
  intro r Ia Ja Ra hq
  obtain ⟨⟨ea, eb, ec⟩, v16944, rfl, cv16944⟩ := hq
  show WP _ _ _ _ (.int _ :: _) _ _ _ _
  rw [ea, eb, ec]
  clear ea eb ec Ia Ja Ra
  have hv16944 : v16944.toInt = 115 := cv16944.trans (by rw [show v16939.toInt.toNat = 0 by omega]; rfl)
  refine WP_istore (ls' := [(0, _), (1, _), (2, _), (3, _), (4, _), (5, _)]) dX3_faultInParts_29 (by decide) rfl ?_
  refine WP_iload dX3_faultInParts_31 rfl ?_
  refine WQ_bipush (97) (97) dX3_faultInParts_33 rfl rfl (fun v16945 hv16945 => ?_)
  refine WQ_icmp_lt 49 dX3_faultInParts_35 rfl (fun c16945 => False.elim (by omega)) (fun c16945 => ?_)
  refine WP_iload dX3_faultInParts_38 rfl ?_
  refine WQ_bipush (122) (122) dX3_faultInParts_40 rfl rfl (fun v16947 hv16947 => ?_)
  refine WQ_icmp_gt 49 dX3_faultInParts_42 rfl (fun c16947 => False.elim (by omega)) (fun c16947 => ?_)
  refine WQ_iconst (1) (1) dX3_faultInParts_45 rfl rfl (fun v16949 hv16949 => ?_)
  refine WP_goto 50 dX3_faultInParts_46 rfl ?_
  refine WP_istore (ls' := [(0, _), (1, _), (2, _), (3, _), (4, _), (5, _), (6, _)]) dX3_faultInParts_50 (by decide) rfl ?_
  refine WP_aload_n dX3_faultInParts_52 rfl ?_
  refine WP_getr dX3_faultInParts_53 fX3_15 rfl (lyx_is hy 3 3 rfl) (rfx hr 3 2 1 (by decide)) ?_
  refine WQ_geti dX3_faultInParts_56 fX3_43 rfl (lyx_is hy 1 5 rfl) (BT_get hI.1 1 2 3 (0) (0) (4) (by decide) 2 (by decide) (by decide)) (fun v16950 ev16950 av16950 bv16950 => ?_)
  refine WP_iload dX3_faultInParts_59 rfl ?_
  refine WQ_if_eq 68 dX3_faultInParts_61 rfl (fun c16950 => False.elim (by omega)) (fun c16950 => ?_)
  refine WQ_iconst (1) (1) dX3_faultInParts_64 rfl rfl (fun v16952 hv16952 => ?_)
  refine WP_goto 69 dX3_faultInParts_65 rfl ?_
  refine WQ_icmp_eq 74 dX3_faultInParts_69 rfl (fun c16952 => ?_) (fun c16952 => ?_)
  · refine WP_iload dX3_faultInParts_74 rfl ?_
    refine WQ_if_eq 92 dX3_faultInParts_76 rfl (fun c16953 => False.elim (by omega)) (fun c16953 => ?_)
    refine WP_aload_n dX3_faultInParts_79 rfl ?_
    refine WP_iload dX3_faultInParts_80 rfl ?_
    refine WP_iload_n dX3_faultInParts_82 rfl ?_
    refine WP_iload dX3_faultInParts_83 rfl ?_
    refine WP_aload_n dX3_faultInParts_85 rfl ?_
    refine WP_callV4 (k := 3) dX3_faultInParts_86 ⟨⟨⟨by decide, by decide⟩, zX3_faultOfName⟩, lX3_96, by decide, rfl, vX3_faultOfName.1, vX3_faultOfName.2⟩ (lyx_is hy 3 3 rfl) (sx_part_6_8_0 hy hr hI v16944 cz v16939 (by omega) (by omega) (by omega) (by omega) (by omega) (by omega)) (Nat.le_of_ble_eq_true rfl) ?_
    intro r I16955 J16956 Ra hq
    obtain ⟨⟨hI16955, ec, ⟨pI16955, sI16955_6_1, sI16955_6_2⟩⟩, v16957, rfl, av16957, bv16957, cv16957⟩ := hq
    show WP _ _ _ _ (.int _ :: _) _ _ _ _
    rw [ec]
    clear ec Ra
    have e16958 : I16955 (ad g 6) 1 = w16937 := by rw [sI16955_6_1]; exact ew16937
    have e16959 : I16955 (ad g 6) 2 = w16938 := by rw [sI16955_6_2]; exact ew16938
    have e16960 : I16955 (ad g 1) 1 = L := hI16955.2
    have b16961 := BT_get hI16955.1 1 1 2 (0) (0) (900) (by decide) 1 (by decide) (by decide)
    rw [e16960] at b16961
    obtain ⟨w16962, ew16962⟩ : ∃ w : Int32, I16955 (ad g 4) 0 = w := ⟨_, rfl⟩
    have bw16962 := BT_get hI16955.1 4 0 5 (0) (0) (1000) (by decide) 0 (by decide) (by decide)
    rw [ew16962] at bw16962
    rw [ew16962] at cv16957
    refine WP_goto 102 dX3_faultInParts_89 rfl ?_
    refine WP_istore (ls' := [(0, _), (1, _), (2, _), (3, _), (4, _), (5, _), (6, _), (7, _)]) dX3_faultInParts_102 (by decide) rfl ?_
    refine WP_iload dX3_faultInParts_104 rfl ?_
    refine WQ_if_eq 112 dX3_faultInParts_106 rfl (fun c16962 => ?_) (fun c16962 => ?_)
    · refine WP_aload_n dX3_faultInParts_112 rfl ?_
      refine WP_getr dX3_faultInParts_113 fX3_15 rfl (lyx_is hy 3 3 rfl) (rfx hr 3 2 1 (by decide)) ?_
      refine WP_callV0 (k := 5) dX3_faultInParts_116 ⟨⟨⟨by decide, by decide⟩, zX5_next⟩, lX3_40, by decide, rfl, vX5_next.1, vX5_next.2⟩ (lyx_is hy 1 5 rfl) (sx_nextf hy hr hI16955  ) (Nat.le_of_ble_eq_true rfl) ?_
      intro r I16964 J16965 Ra hq
      obtain ⟨⟨hI16964, ec, fiI16964⟩, rfl⟩ := hq
      rw [ec]
      clear ec Ra
      have e16966 : I16964 (ad g 6) 1 = w16937 := by rw [fz_at fiI16964 6 (by decide) (by decide)]; exact e16958
      have e16967 : I16964 (ad g 6) 2 = w16938 := by rw [fz_at fiI16964 6 (by decide) (by decide)]; exact e16959
      have e16968 : I16964 (ad g 4) 0 = w16962 := by rw [fz_at fiI16964 4 (by decide) (by decide)]; exact ew16962
      have e16969 : I16964 (ad g 1) 1 = L := hI16964.2
      have b16970 := BT_get hI16964.1 1 1 2 (0) (0) (900) (by decide) 1 (by decide) (by decide)
      rw [e16969] at b16970
      refine WP_iinc (ls' := [(0, _), (1, _), (2, _), (3, _), (4, _), (5, _), (6, _), (7, _)]) dX3_faultInParts_119 rfl (by decide) rfl ?_
      have hv16971 : (v16939 + Int32.ofInt (1)).toInt = v16939.toInt + (1) := ia_n rfl (by omega) (by omega)
      generalize v16939 + Int32.ofInt (1) = v16971 at hv16971 ⊢
      refine WP_goto 8 dX3_faultInParts_122 rfl ?_
      refine WP_iload dX3_faultInParts_8 rfl ?_
      refine WP_aload_n dX3_faultInParts_10 rfl ?_
      refine WS_call hz (i := 18) (by omega) dX3_faultInParts_11 ⟨⟨by decide, by decide⟩, zJ0_length_8abf5⟩ lX3_87 vJ0_length_8abf5 (As := []) (rest := [.int v16971]) (j_length hz (i := 18) (by omega)) rfl rfl (Nat.le_of_ble_eq_true rfl) ?_
      intro r Ia Ja Ra hq
      obtain ⟨⟨ea, eb, ec⟩, v16972, rfl, cv16972⟩ := hq
      show WP _ _ _ _ (.int _ :: _) _ _ _ _
      rw [ea, eb, ec]
      clear ea eb ec Ia Ja Ra
      have hv16972 : v16972.toInt = 1 := cv16972.trans rfl
      refine WQ_icmp_ge 125 dX3_faultInParts_14 rfl (fun c16972 => ?_) (fun c16972 => False.elim (by omega))
      refine WP_aload_n dX3_faultInParts_125 rfl ?_
      refine WP_getr dX3_faultInParts_126 fX3_15 rfl (lyx_is hy 3 3 rfl) (rfx hr 3 2 1 (by decide)) ?_
      refine WQ_geti dX3_faultInParts_129 fX3_43 rfl (lyx_is hy 1 5 rfl) (BT_get hI16964.1 1 2 3 (0) (0) (4) (by decide) 2 (by decide) (by decide)) (fun v16974 ev16974 av16974 bv16974 => ?_)
      refine WQ_iconst (3) (3) dX3_faultInParts_132 rfl rfl (fun v16975 hv16975 => ?_)
      refine WQ_icmp_ne 140 dX3_faultInParts_133 rfl (fun c16975 => ?_) (fun c16975 => ?_)
      · refine WQ_iconst (1) (1) dX3_faultInParts_140 rfl rfl (fun v16977 hv16977 => ?_)
        exact WP_iret dX3_faultInParts_141 rfl ⟨⟨hI16964, rfl, ⟨trivial, (by rw [e16966, ew16937] <;> exact (eq32 _ _).mpr (by omega)), (by rw [e16967, ew16938] <;> exact (eq32 _ _).mpr (by omega))⟩⟩, _, rfl, by omega, by omega, by (try rw [e16968]); omega⟩
      · refine WQ_iconst (0) (0) dX3_faultInParts_136 rfl rfl (fun v16978 hv16978 => ?_)
        refine WP_goto 141 dX3_faultInParts_137 rfl ?_
        exact WP_iret dX3_faultInParts_141 rfl ⟨⟨hI16964, rfl, ⟨trivial, (by rw [e16966, ew16937] <;> exact (eq32 _ _).mpr (by omega)), (by rw [e16967, ew16938] <;> exact (eq32 _ _).mpr (by omega))⟩⟩, _, rfl, by omega, by omega, by (try rw [e16968]); omega⟩
    · refine WP_iload dX3_faultInParts_109 rfl ?_
      exact WP_iret dX3_faultInParts_111 rfl ⟨⟨hI16955, rfl, ⟨trivial, (by rw [e16958, ew16937] <;> exact (eq32 _ _).mpr (by omega)), (by rw [e16959, ew16938] <;> exact (eq32 _ _).mpr (by omega))⟩⟩, _, rfl, by omega, by omega, by (try rw [ew16962]); omega⟩
  · refine WQ_iconst (1) (1) dX3_faultInParts_72 rfl rfl (fun v16979 hv16979 => ?_)
    obtain ⟨w16980, ew16980⟩ : ∃ w : Int32, I (ad g 4) 0 = w := ⟨_, rfl⟩
    have bw16980 := BT_get hI.1 4 0 5 (0) (0) (1000) (by decide) 0 (by decide) (by decide)
    rw [ew16980] at bw16980
    exact WP_iret dX3_faultInParts_73 rfl ⟨⟨hI, rfl, ⟨trivial, rfl, rfl⟩⟩, _, rfl, by omega, by omega, by (try rw [ew16980]); omega⟩
set_option maxHeartbeats 4000000 in
set_option maxRecDepth 100000 in
theorem sx_parts_6_9 {g : GG} {n : Int} {L : Int32} (hy : LyX g) {aK aV : Nat → Nat} {fo : Option Nat} (hz : HZ g aK aV fo)  {I : pI} {J : pJ} {R : pR} (hr : RfX g R) (hI : XI g n L I) (cz : Int32) (cz_lo : 9 ≤ cz.toInt) (cz_hi : cz.toInt ≤ 9) : SP g mX3_faultInParts [.ref (ad g 3), .int cz, .ref (ad g 6)] I J R (fun r I' J' R' => (XI g n L I' ∧ R' = R ∧ True ∧ I' (ad g 6) 1 = I (ad g 6) 1 ∧ I' (ad g 6) 2 = I (ad g 6) 2) ∧ ∃ v : Int32, r = some (.int v) ∧ 0 ≤ v.toInt ∧ v.toInt ≤ 5 ∧ (v.toInt = 0 → (I' (ad g 4) 0).toInt ≤ 2)) := by
  refine SP_of ⟨by decide, rfl⟩ (Nat.le_of_ble_eq_true rfl) ?_
  have e16981 : I (ad g 1) 1 = L := hI.2
  have b16982 := BT_get hI.1 1 1 2 (0) (0) (900) (by decide) 1 (by decide) (by decide)
  rw [e16981] at b16982
  obtain ⟨w16983, ew16983⟩ : ∃ w : Int32, I (ad g 6) 1 = w := ⟨_, rfl⟩
  have bw16983 := BT_get hI.1 6 1 2 (0) (0) (4) (by decide) 1 (by decide) (by decide)
  rw [ew16983] at bw16983
  obtain ⟨w16984, ew16984⟩ : ∃ w : Int32, I (ad g 6) 2 = w := ⟨_, rfl⟩
  have bw16984 := BT_get hI.1 6 2 3 (0) (0) (3) (by decide) 2 (by decide) (by decide)
  rw [ew16984] at bw16984
  refine WP_iload_n dX3_faultInParts_0 rfl ?_
  refine WP_callS1 dX3_faultInParts_1 ⟨⟨⟨by decide, by decide⟩, zX3_shapeOf⟩, lX3_84, tX3_shapeOf⟩ (sx_shapeOf hy hz hr hI cz (by omega) (by omega)) (Nat.le_of_ble_eq_true rfl) ?_
  intro r Ia Ja Ra hq
  obtain ⟨⟨ea, eb, ec⟩, rfl⟩ := hq
  show WP _ _ _ _ (.ref _ :: _) _ _ _ _
  rw [show 10 + cz.toInt.toNat = 19 by omega]
  rw [ea, eb, ec]
  clear ea eb ec Ia Ja Ra
  refine WP_astore_n (ls' := [(0, _), (1, _), (2, _), (3, _)]) dX3_faultInParts_4 (by decide) rfl ?_
  refine WQ_iconst (0) (0) dX3_faultInParts_5 rfl rfl (fun v16985 hv16985 => ?_)
  refine WP_istore (ls' := [(0, _), (1, _), (2, _), (3, _), (4, _)]) dX3_faultInParts_6 (by decide) rfl ?_
  refine WP_iload dX3_faultInParts_8 rfl ?_
  refine WP_aload_n dX3_faultInParts_10 rfl ?_
  refine WS_call hz (i := 19) (by omega) dX3_faultInParts_11 ⟨⟨by decide, by decide⟩, zJ0_length_8abf5⟩ lX3_87 vJ0_length_8abf5 (As := []) (rest := [.int v16985]) (j_length hz (i := 19) (by omega)) rfl rfl (Nat.le_of_ble_eq_true rfl) ?_
  intro r Ia Ja Ra hq
  obtain ⟨⟨ea, eb, ec⟩, v16986, rfl, cv16986⟩ := hq
  show WP _ _ _ _ (.int _ :: _) _ _ _ _
  rw [ea, eb, ec]
  clear ea eb ec Ia Ja Ra
  have hv16986 : v16986.toInt = 1 := cv16986.trans rfl
  refine WQ_icmp_ge 125 dX3_faultInParts_14 rfl (fun c16986 => False.elim (by omega)) (fun c16986 => ?_)
  refine WP_iload dX3_faultInParts_17 rfl ?_
  refine WQ_iconst (5) (5) dX3_faultInParts_19 rfl rfl (fun v16988 hv16988 => ?_)
  refine WQ_icmp_ge 125 dX3_faultInParts_20 rfl (fun c16988 => False.elim (by omega)) (fun c16988 => ?_)
  refine WP_aload_n dX3_faultInParts_23 rfl ?_
  refine WP_iload dX3_faultInParts_24 rfl ?_
  refine WS_call hz (i := 19) (by omega) dX3_faultInParts_26 ⟨⟨by decide, by decide⟩, zJ0_charAt_5068e⟩ lX3_92 vJ0_charAt_5068e (As := [.int v16985]) (rest := []) (j_charAt hz (i := 19) (k := v16985) (by omega) (by omega) (by have z9 : ((liN.getD 19 0 : Nat) : Int) = 1 := rfl; omega)) rfl rfl (Nat.le_of_ble_eq_true rfl) ?_
  intro r Ia Ja Ra hq
  obtain ⟨⟨ea, eb, ec⟩, v16990, rfl, cv16990⟩ := hq
  show WP _ _ _ _ (.int _ :: _) _ _ _ _
  rw [ea, eb, ec]
  clear ea eb ec Ia Ja Ra
  have hv16990 : v16990.toInt = 116 := cv16990.trans (by rw [show v16985.toInt.toNat = 0 by omega]; rfl)
  refine WP_istore (ls' := [(0, _), (1, _), (2, _), (3, _), (4, _), (5, _)]) dX3_faultInParts_29 (by decide) rfl ?_
  refine WP_iload dX3_faultInParts_31 rfl ?_
  refine WQ_bipush (97) (97) dX3_faultInParts_33 rfl rfl (fun v16991 hv16991 => ?_)
  refine WQ_icmp_lt 49 dX3_faultInParts_35 rfl (fun c16991 => False.elim (by omega)) (fun c16991 => ?_)
  refine WP_iload dX3_faultInParts_38 rfl ?_
  refine WQ_bipush (122) (122) dX3_faultInParts_40 rfl rfl (fun v16993 hv16993 => ?_)
  refine WQ_icmp_gt 49 dX3_faultInParts_42 rfl (fun c16993 => False.elim (by omega)) (fun c16993 => ?_)
  refine WQ_iconst (1) (1) dX3_faultInParts_45 rfl rfl (fun v16995 hv16995 => ?_)
  refine WP_goto 50 dX3_faultInParts_46 rfl ?_
  refine WP_istore (ls' := [(0, _), (1, _), (2, _), (3, _), (4, _), (5, _), (6, _)]) dX3_faultInParts_50 (by decide) rfl ?_
  refine WP_aload_n dX3_faultInParts_52 rfl ?_
  refine WP_getr dX3_faultInParts_53 fX3_15 rfl (lyx_is hy 3 3 rfl) (rfx hr 3 2 1 (by decide)) ?_
  refine WQ_geti dX3_faultInParts_56 fX3_43 rfl (lyx_is hy 1 5 rfl) (BT_get hI.1 1 2 3 (0) (0) (4) (by decide) 2 (by decide) (by decide)) (fun v16996 ev16996 av16996 bv16996 => ?_)
  refine WP_iload dX3_faultInParts_59 rfl ?_
  refine WQ_if_eq 68 dX3_faultInParts_61 rfl (fun c16996 => False.elim (by omega)) (fun c16996 => ?_)
  refine WQ_iconst (1) (1) dX3_faultInParts_64 rfl rfl (fun v16998 hv16998 => ?_)
  refine WP_goto 69 dX3_faultInParts_65 rfl ?_
  refine WQ_icmp_eq 74 dX3_faultInParts_69 rfl (fun c16998 => ?_) (fun c16998 => ?_)
  · refine WP_iload dX3_faultInParts_74 rfl ?_
    refine WQ_if_eq 92 dX3_faultInParts_76 rfl (fun c16999 => False.elim (by omega)) (fun c16999 => ?_)
    refine WP_aload_n dX3_faultInParts_79 rfl ?_
    refine WP_iload dX3_faultInParts_80 rfl ?_
    refine WP_iload_n dX3_faultInParts_82 rfl ?_
    refine WP_iload dX3_faultInParts_83 rfl ?_
    refine WP_aload_n dX3_faultInParts_85 rfl ?_
    refine WP_callV4 (k := 3) dX3_faultInParts_86 ⟨⟨⟨by decide, by decide⟩, zX3_faultOfName⟩, lX3_96, by decide, rfl, vX3_faultOfName.1, vX3_faultOfName.2⟩ (lyx_is hy 3 3 rfl) (sx_part_6_9_0 hy hr hI v16990 cz v16985 (by omega) (by omega) (by omega) (by omega) (by omega) (by omega)) (Nat.le_of_ble_eq_true rfl) ?_
    intro r I17001 J17002 Ra hq
    obtain ⟨⟨hI17001, ec, ⟨pI17001, sI17001_6_1, sI17001_6_2⟩⟩, v17003, rfl, av17003, bv17003, cv17003⟩ := hq
    show WP _ _ _ _ (.int _ :: _) _ _ _ _
    rw [ec]
    clear ec Ra
    have e17004 : I17001 (ad g 6) 1 = w16983 := by rw [sI17001_6_1]; exact ew16983
    have e17005 : I17001 (ad g 6) 2 = w16984 := by rw [sI17001_6_2]; exact ew16984
    have e17006 : I17001 (ad g 1) 1 = L := hI17001.2
    have b17007 := BT_get hI17001.1 1 1 2 (0) (0) (900) (by decide) 1 (by decide) (by decide)
    rw [e17006] at b17007
    obtain ⟨w17008, ew17008⟩ : ∃ w : Int32, I17001 (ad g 4) 0 = w := ⟨_, rfl⟩
    have bw17008 := BT_get hI17001.1 4 0 5 (0) (0) (1000) (by decide) 0 (by decide) (by decide)
    rw [ew17008] at bw17008
    rw [ew17008] at cv17003
    refine WP_goto 102 dX3_faultInParts_89 rfl ?_
    refine WP_istore (ls' := [(0, _), (1, _), (2, _), (3, _), (4, _), (5, _), (6, _), (7, _)]) dX3_faultInParts_102 (by decide) rfl ?_
    refine WP_iload dX3_faultInParts_104 rfl ?_
    refine WQ_if_eq 112 dX3_faultInParts_106 rfl (fun c17008 => ?_) (fun c17008 => ?_)
    · refine WP_aload_n dX3_faultInParts_112 rfl ?_
      refine WP_getr dX3_faultInParts_113 fX3_15 rfl (lyx_is hy 3 3 rfl) (rfx hr 3 2 1 (by decide)) ?_
      refine WP_callV0 (k := 5) dX3_faultInParts_116 ⟨⟨⟨by decide, by decide⟩, zX5_next⟩, lX3_40, by decide, rfl, vX5_next.1, vX5_next.2⟩ (lyx_is hy 1 5 rfl) (sx_nextf hy hr hI17001  ) (Nat.le_of_ble_eq_true rfl) ?_
      intro r I17010 J17011 Ra hq
      obtain ⟨⟨hI17010, ec, fiI17010⟩, rfl⟩ := hq
      rw [ec]
      clear ec Ra
      have e17012 : I17010 (ad g 6) 1 = w16983 := by rw [fz_at fiI17010 6 (by decide) (by decide)]; exact e17004
      have e17013 : I17010 (ad g 6) 2 = w16984 := by rw [fz_at fiI17010 6 (by decide) (by decide)]; exact e17005
      have e17014 : I17010 (ad g 4) 0 = w17008 := by rw [fz_at fiI17010 4 (by decide) (by decide)]; exact ew17008
      have e17015 : I17010 (ad g 1) 1 = L := hI17010.2
      have b17016 := BT_get hI17010.1 1 1 2 (0) (0) (900) (by decide) 1 (by decide) (by decide)
      rw [e17015] at b17016
      refine WP_iinc (ls' := [(0, _), (1, _), (2, _), (3, _), (4, _), (5, _), (6, _), (7, _)]) dX3_faultInParts_119 rfl (by decide) rfl ?_
      have hv17017 : (v16985 + Int32.ofInt (1)).toInt = v16985.toInt + (1) := ia_n rfl (by omega) (by omega)
      generalize v16985 + Int32.ofInt (1) = v17017 at hv17017 ⊢
      refine WP_goto 8 dX3_faultInParts_122 rfl ?_
      refine WP_iload dX3_faultInParts_8 rfl ?_
      refine WP_aload_n dX3_faultInParts_10 rfl ?_
      refine WS_call hz (i := 19) (by omega) dX3_faultInParts_11 ⟨⟨by decide, by decide⟩, zJ0_length_8abf5⟩ lX3_87 vJ0_length_8abf5 (As := []) (rest := [.int v17017]) (j_length hz (i := 19) (by omega)) rfl rfl (Nat.le_of_ble_eq_true rfl) ?_
      intro r Ia Ja Ra hq
      obtain ⟨⟨ea, eb, ec⟩, v17018, rfl, cv17018⟩ := hq
      show WP _ _ _ _ (.int _ :: _) _ _ _ _
      rw [ea, eb, ec]
      clear ea eb ec Ia Ja Ra
      have hv17018 : v17018.toInt = 1 := cv17018.trans rfl
      refine WQ_icmp_ge 125 dX3_faultInParts_14 rfl (fun c17018 => ?_) (fun c17018 => False.elim (by omega))
      refine WP_aload_n dX3_faultInParts_125 rfl ?_
      refine WP_getr dX3_faultInParts_126 fX3_15 rfl (lyx_is hy 3 3 rfl) (rfx hr 3 2 1 (by decide)) ?_
      refine WQ_geti dX3_faultInParts_129 fX3_43 rfl (lyx_is hy 1 5 rfl) (BT_get hI17010.1 1 2 3 (0) (0) (4) (by decide) 2 (by decide) (by decide)) (fun v17020 ev17020 av17020 bv17020 => ?_)
      refine WQ_iconst (3) (3) dX3_faultInParts_132 rfl rfl (fun v17021 hv17021 => ?_)
      refine WQ_icmp_ne 140 dX3_faultInParts_133 rfl (fun c17021 => ?_) (fun c17021 => ?_)
      · refine WQ_iconst (1) (1) dX3_faultInParts_140 rfl rfl (fun v17023 hv17023 => ?_)
        exact WP_iret dX3_faultInParts_141 rfl ⟨⟨hI17010, rfl, ⟨trivial, (by rw [e17012, ew16983] <;> exact (eq32 _ _).mpr (by omega)), (by rw [e17013, ew16984] <;> exact (eq32 _ _).mpr (by omega))⟩⟩, _, rfl, by omega, by omega, by (try rw [e17014]); omega⟩
      · refine WQ_iconst (0) (0) dX3_faultInParts_136 rfl rfl (fun v17024 hv17024 => ?_)
        refine WP_goto 141 dX3_faultInParts_137 rfl ?_
        exact WP_iret dX3_faultInParts_141 rfl ⟨⟨hI17010, rfl, ⟨trivial, (by rw [e17012, ew16983] <;> exact (eq32 _ _).mpr (by omega)), (by rw [e17013, ew16984] <;> exact (eq32 _ _).mpr (by omega))⟩⟩, _, rfl, by omega, by omega, by (try rw [e17014]); omega⟩
    · refine WP_iload dX3_faultInParts_109 rfl ?_
      exact WP_iret dX3_faultInParts_111 rfl ⟨⟨hI17001, rfl, ⟨trivial, (by rw [e17004, ew16983] <;> exact (eq32 _ _).mpr (by omega)), (by rw [e17005, ew16984] <;> exact (eq32 _ _).mpr (by omega))⟩⟩, _, rfl, by omega, by omega, by (try rw [ew17008]); omega⟩
  · refine WQ_iconst (1) (1) dX3_faultInParts_72 rfl rfl (fun v17025 hv17025 => ?_)
    obtain ⟨w17026, ew17026⟩ : ∃ w : Int32, I (ad g 4) 0 = w := ⟨_, rfl⟩
    have bw17026 := BT_get hI.1 4 0 5 (0) (0) (1000) (by decide) 0 (by decide) (by decide)
    rw [ew17026] at bw17026
    exact WP_iret dX3_faultInParts_73 rfl ⟨⟨hI, rfl, ⟨trivial, rfl, rfl⟩⟩, _, rfl, by omega, by omega, by (try rw [ew17026]); omega⟩
set_option maxHeartbeats 4000000 in
set_option maxRecDepth 100000 in
theorem sx_parts_6_10 {g : GG} {n : Int} {L : Int32} (hy : LyX g) {aK aV : Nat → Nat} {fo : Option Nat} (hz : HZ g aK aV fo)  {I : pI} {J : pJ} {R : pR} (hr : RfX g R) (hI : XI g n L I) (cz : Int32) (cz_lo : 10 ≤ cz.toInt) (cz_hi : cz.toInt ≤ 10) : SP g mX3_faultInParts [.ref (ad g 3), .int cz, .ref (ad g 6)] I J R (fun r I' J' R' => (XI g n L I' ∧ R' = R ∧ True ∧ I' (ad g 6) 1 = I (ad g 6) 1 ∧ I' (ad g 6) 2 = I (ad g 6) 2) ∧ ∃ v : Int32, r = some (.int v) ∧ 0 ≤ v.toInt ∧ v.toInt ≤ 5 ∧ (v.toInt = 0 → (I' (ad g 4) 0).toInt ≤ 3 ∧ (I' (ad g 4) 1).toInt ≤ 2 ∧ (I' (ad g 4) 2).toInt ≤ 6 ∧ (I' (ad g 4) 3).toInt ≤ 3 ∧ (I' (ad g 4) 4).toInt ≤ 99)) := by
  refine SP_of ⟨by decide, rfl⟩ (Nat.le_of_ble_eq_true rfl) ?_
  have e17027 : I (ad g 1) 1 = L := hI.2
  have b17028 := BT_get hI.1 1 1 2 (0) (0) (900) (by decide) 1 (by decide) (by decide)
  rw [e17027] at b17028
  obtain ⟨w17029, ew17029⟩ : ∃ w : Int32, I (ad g 6) 1 = w := ⟨_, rfl⟩
  have bw17029 := BT_get hI.1 6 1 2 (0) (0) (4) (by decide) 1 (by decide) (by decide)
  rw [ew17029] at bw17029
  obtain ⟨w17030, ew17030⟩ : ∃ w : Int32, I (ad g 6) 2 = w := ⟨_, rfl⟩
  have bw17030 := BT_get hI.1 6 2 3 (0) (0) (3) (by decide) 2 (by decide) (by decide)
  rw [ew17030] at bw17030
  refine WP_iload_n dX3_faultInParts_0 rfl ?_
  refine WP_callS1 dX3_faultInParts_1 ⟨⟨⟨by decide, by decide⟩, zX3_shapeOf⟩, lX3_84, tX3_shapeOf⟩ (sx_shapeOf hy hz hr hI cz (by omega) (by omega)) (Nat.le_of_ble_eq_true rfl) ?_
  intro r Ia Ja Ra hq
  obtain ⟨⟨ea, eb, ec⟩, rfl⟩ := hq
  show WP _ _ _ _ (.ref _ :: _) _ _ _ _
  rw [show 10 + cz.toInt.toNat = 20 by omega]
  rw [ea, eb, ec]
  clear ea eb ec Ia Ja Ra
  refine WP_astore_n (ls' := [(0, _), (1, _), (2, _), (3, _)]) dX3_faultInParts_4 (by decide) rfl ?_
  refine WQ_iconst (0) (0) dX3_faultInParts_5 rfl rfl (fun v17031 hv17031 => ?_)
  refine WP_istore (ls' := [(0, _), (1, _), (2, _), (3, _), (4, _)]) dX3_faultInParts_6 (by decide) rfl ?_
  refine WP_iload dX3_faultInParts_8 rfl ?_
  refine WP_aload_n dX3_faultInParts_10 rfl ?_
  refine WS_call hz (i := 20) (by omega) dX3_faultInParts_11 ⟨⟨by decide, by decide⟩, zJ0_length_8abf5⟩ lX3_87 vJ0_length_8abf5 (As := []) (rest := [.int v17031]) (j_length hz (i := 20) (by omega)) rfl rfl (Nat.le_of_ble_eq_true rfl) ?_
  intro r Ia Ja Ra hq
  obtain ⟨⟨ea, eb, ec⟩, v17032, rfl, cv17032⟩ := hq
  show WP _ _ _ _ (.int _ :: _) _ _ _ _
  rw [ea, eb, ec]
  clear ea eb ec Ia Ja Ra
  have hv17032 : v17032.toInt = 5 := cv17032.trans rfl
  refine WQ_icmp_ge 125 dX3_faultInParts_14 rfl (fun c17032 => False.elim (by omega)) (fun c17032 => ?_)
  refine WP_iload dX3_faultInParts_17 rfl ?_
  refine WQ_iconst (5) (5) dX3_faultInParts_19 rfl rfl (fun v17034 hv17034 => ?_)
  refine WQ_icmp_ge 125 dX3_faultInParts_20 rfl (fun c17034 => False.elim (by omega)) (fun c17034 => ?_)
  refine WP_aload_n dX3_faultInParts_23 rfl ?_
  refine WP_iload dX3_faultInParts_24 rfl ?_
  refine WS_call hz (i := 20) (by omega) dX3_faultInParts_26 ⟨⟨by decide, by decide⟩, zJ0_charAt_5068e⟩ lX3_92 vJ0_charAt_5068e (As := [.int v17031]) (rest := []) (j_charAt hz (i := 20) (k := v17031) (by omega) (by omega) (by have z9 : ((liN.getD 20 0 : Nat) : Int) = 5 := rfl; omega)) rfl rfl (Nat.le_of_ble_eq_true rfl) ?_
  intro r Ia Ja Ra hq
  obtain ⟨⟨ea, eb, ec⟩, v17036, rfl, cv17036⟩ := hq
  show WP _ _ _ _ (.int _ :: _) _ _ _ _
  rw [ea, eb, ec]
  clear ea eb ec Ia Ja Ra
  have hv17036 : v17036.toInt = 115 := cv17036.trans (by rw [show v17031.toInt.toNat = 0 by omega]; rfl)
  refine WP_istore (ls' := [(0, _), (1, _), (2, _), (3, _), (4, _), (5, _)]) dX3_faultInParts_29 (by decide) rfl ?_
  refine WP_iload dX3_faultInParts_31 rfl ?_
  refine WQ_bipush (97) (97) dX3_faultInParts_33 rfl rfl (fun v17037 hv17037 => ?_)
  refine WQ_icmp_lt 49 dX3_faultInParts_35 rfl (fun c17037 => False.elim (by omega)) (fun c17037 => ?_)
  refine WP_iload dX3_faultInParts_38 rfl ?_
  refine WQ_bipush (122) (122) dX3_faultInParts_40 rfl rfl (fun v17039 hv17039 => ?_)
  refine WQ_icmp_gt 49 dX3_faultInParts_42 rfl (fun c17039 => False.elim (by omega)) (fun c17039 => ?_)
  refine WQ_iconst (1) (1) dX3_faultInParts_45 rfl rfl (fun v17041 hv17041 => ?_)
  refine WP_goto 50 dX3_faultInParts_46 rfl ?_
  refine WP_istore (ls' := [(0, _), (1, _), (2, _), (3, _), (4, _), (5, _), (6, _)]) dX3_faultInParts_50 (by decide) rfl ?_
  refine WP_aload_n dX3_faultInParts_52 rfl ?_
  refine WP_getr dX3_faultInParts_53 fX3_15 rfl (lyx_is hy 3 3 rfl) (rfx hr 3 2 1 (by decide)) ?_
  refine WQ_geti dX3_faultInParts_56 fX3_43 rfl (lyx_is hy 1 5 rfl) (BT_get hI.1 1 2 3 (0) (0) (4) (by decide) 2 (by decide) (by decide)) (fun v17042 ev17042 av17042 bv17042 => ?_)
  refine WP_iload dX3_faultInParts_59 rfl ?_
  refine WQ_if_eq 68 dX3_faultInParts_61 rfl (fun c17042 => False.elim (by omega)) (fun c17042 => ?_)
  refine WQ_iconst (1) (1) dX3_faultInParts_64 rfl rfl (fun v17044 hv17044 => ?_)
  refine WP_goto 69 dX3_faultInParts_65 rfl ?_
  refine WQ_icmp_eq 74 dX3_faultInParts_69 rfl (fun c17044 => ?_) (fun c17044 => ?_)
  · refine WP_iload dX3_faultInParts_74 rfl ?_
    refine WQ_if_eq 92 dX3_faultInParts_76 rfl (fun c17045 => False.elim (by omega)) (fun c17045 => ?_)
    refine WP_aload_n dX3_faultInParts_79 rfl ?_
    refine WP_iload dX3_faultInParts_80 rfl ?_
    refine WP_iload_n dX3_faultInParts_82 rfl ?_
    refine WP_iload dX3_faultInParts_83 rfl ?_
    refine WP_aload_n dX3_faultInParts_85 rfl ?_
    refine WP_callV4 (k := 3) dX3_faultInParts_86 ⟨⟨⟨by decide, by decide⟩, zX3_faultOfName⟩, lX3_96, by decide, rfl, vX3_faultOfName.1, vX3_faultOfName.2⟩ (lyx_is hy 3 3 rfl) (sx_part_6_10_0 hy hr hI v17036 cz v17031 (by omega) (by omega) (by omega) (by omega) (by omega) (by omega)) (Nat.le_of_ble_eq_true rfl) ?_
    intro r I17047 J17048 Ra hq
    obtain ⟨⟨hI17047, ec, ⟨pI17047, sI17047_6_1, sI17047_6_2⟩⟩, v17049, rfl, av17049, bv17049, cv17049⟩ := hq
    show WP _ _ _ _ (.int _ :: _) _ _ _ _
    rw [ec]
    clear ec Ra
    have e17050 : I17047 (ad g 6) 1 = w17029 := by rw [sI17047_6_1]; exact ew17029
    have e17051 : I17047 (ad g 6) 2 = w17030 := by rw [sI17047_6_2]; exact ew17030
    have e17052 : I17047 (ad g 1) 1 = L := hI17047.2
    have b17053 := BT_get hI17047.1 1 1 2 (0) (0) (900) (by decide) 1 (by decide) (by decide)
    rw [e17052] at b17053
    obtain ⟨w17054, ew17054⟩ : ∃ w : Int32, I17047 (ad g 4) 0 = w := ⟨_, rfl⟩
    have bw17054 := BT_get hI17047.1 4 0 5 (0) (0) (1000) (by decide) 0 (by decide) (by decide)
    rw [ew17054] at bw17054
    rw [ew17054] at cv17049
    refine WP_goto 102 dX3_faultInParts_89 rfl ?_
    refine WP_istore (ls' := [(0, _), (1, _), (2, _), (3, _), (4, _), (5, _), (6, _), (7, _)]) dX3_faultInParts_102 (by decide) rfl ?_
    refine WP_iload dX3_faultInParts_104 rfl ?_
    refine WQ_if_eq 112 dX3_faultInParts_106 rfl (fun c17054 => ?_) (fun c17054 => ?_)
    · refine WP_aload_n dX3_faultInParts_112 rfl ?_
      refine WP_getr dX3_faultInParts_113 fX3_15 rfl (lyx_is hy 3 3 rfl) (rfx hr 3 2 1 (by decide)) ?_
      refine WP_callV0 (k := 5) dX3_faultInParts_116 ⟨⟨⟨by decide, by decide⟩, zX5_next⟩, lX3_40, by decide, rfl, vX5_next.1, vX5_next.2⟩ (lyx_is hy 1 5 rfl) (sx_nextf hy hr hI17047  ) (Nat.le_of_ble_eq_true rfl) ?_
      intro r I17056 J17057 Ra hq
      obtain ⟨⟨hI17056, ec, fiI17056⟩, rfl⟩ := hq
      rw [ec]
      clear ec Ra
      have e17058 : I17056 (ad g 6) 1 = w17029 := by rw [fz_at fiI17056 6 (by decide) (by decide)]; exact e17050
      have e17059 : I17056 (ad g 6) 2 = w17030 := by rw [fz_at fiI17056 6 (by decide) (by decide)]; exact e17051
      have e17060 : I17056 (ad g 4) 0 = w17054 := by rw [fz_at fiI17056 4 (by decide) (by decide)]; exact ew17054
      have e17061 : I17056 (ad g 1) 1 = L := hI17056.2
      have b17062 := BT_get hI17056.1 1 1 2 (0) (0) (900) (by decide) 1 (by decide) (by decide)
      rw [e17061] at b17062
      refine WP_iinc (ls' := [(0, _), (1, _), (2, _), (3, _), (4, _), (5, _), (6, _), (7, _)]) dX3_faultInParts_119 rfl (by decide) rfl ?_
      have hv17063 : (v17031 + Int32.ofInt (1)).toInt = v17031.toInt + (1) := ia_n rfl (by omega) (by omega)
      generalize v17031 + Int32.ofInt (1) = v17063 at hv17063 ⊢
      refine WP_goto 8 dX3_faultInParts_122 rfl ?_
      refine WP_iload dX3_faultInParts_8 rfl ?_
      refine WP_aload_n dX3_faultInParts_10 rfl ?_
      refine WS_call hz (i := 20) (by omega) dX3_faultInParts_11 ⟨⟨by decide, by decide⟩, zJ0_length_8abf5⟩ lX3_87 vJ0_length_8abf5 (As := []) (rest := [.int v17063]) (j_length hz (i := 20) (by omega)) rfl rfl (Nat.le_of_ble_eq_true rfl) ?_
      intro r Ia Ja Ra hq
      obtain ⟨⟨ea, eb, ec⟩, v17064, rfl, cv17064⟩ := hq
      show WP _ _ _ _ (.int _ :: _) _ _ _ _
      rw [ea, eb, ec]
      clear ea eb ec Ia Ja Ra
      have hv17064 : v17064.toInt = 5 := cv17064.trans rfl
      refine WQ_icmp_ge 125 dX3_faultInParts_14 rfl (fun c17064 => False.elim (by omega)) (fun c17064 => ?_)
      refine WP_iload dX3_faultInParts_17 rfl ?_
      refine WQ_iconst (5) (5) dX3_faultInParts_19 rfl rfl (fun v17066 hv17066 => ?_)
      refine WQ_icmp_ge 125 dX3_faultInParts_20 rfl (fun c17066 => False.elim (by omega)) (fun c17066 => ?_)
      refine WP_aload_n dX3_faultInParts_23 rfl ?_
      refine WP_iload dX3_faultInParts_24 rfl ?_
      refine WS_call hz (i := 20) (by omega) dX3_faultInParts_26 ⟨⟨by decide, by decide⟩, zJ0_charAt_5068e⟩ lX3_92 vJ0_charAt_5068e (As := [.int v17063]) (rest := []) (j_charAt hz (i := 20) (k := v17063) (by omega) (by omega) (by have z9 : ((liN.getD 20 0 : Nat) : Int) = 5 := rfl; omega)) rfl rfl (Nat.le_of_ble_eq_true rfl) ?_
      intro r Ia Ja Ra hq
      obtain ⟨⟨ea, eb, ec⟩, v17068, rfl, cv17068⟩ := hq
      show WP _ _ _ _ (.int _ :: _) _ _ _ _
      rw [ea, eb, ec]
      clear ea eb ec Ia Ja Ra
      have hv17068 : v17068.toInt = 116 := cv17068.trans (by rw [show v17063.toInt.toNat = 1 by omega]; rfl)
      refine WP_istore (ls' := [(0, _), (1, _), (2, _), (3, _), (4, _), (5, _), (6, _), (7, _)]) dX3_faultInParts_29 (by decide) rfl ?_
      refine WP_iload dX3_faultInParts_31 rfl ?_
      refine WQ_bipush (97) (97) dX3_faultInParts_33 rfl rfl (fun v17069 hv17069 => ?_)
      refine WQ_icmp_lt 49 dX3_faultInParts_35 rfl (fun c17069 => False.elim (by omega)) (fun c17069 => ?_)
      refine WP_iload dX3_faultInParts_38 rfl ?_
      refine WQ_bipush (122) (122) dX3_faultInParts_40 rfl rfl (fun v17071 hv17071 => ?_)
      refine WQ_icmp_gt 49 dX3_faultInParts_42 rfl (fun c17071 => False.elim (by omega)) (fun c17071 => ?_)
      refine WQ_iconst (1) (1) dX3_faultInParts_45 rfl rfl (fun v17073 hv17073 => ?_)
      refine WP_goto 50 dX3_faultInParts_46 rfl ?_
      refine WP_istore (ls' := [(0, _), (1, _), (2, _), (3, _), (4, _), (5, _), (6, _), (7, _)]) dX3_faultInParts_50 (by decide) rfl ?_
      refine WP_aload_n dX3_faultInParts_52 rfl ?_
      refine WP_getr dX3_faultInParts_53 fX3_15 rfl (lyx_is hy 3 3 rfl) (rfx hr 3 2 1 (by decide)) ?_
      refine WQ_geti dX3_faultInParts_56 fX3_43 rfl (lyx_is hy 1 5 rfl) (BT_get hI17056.1 1 2 3 (0) (0) (4) (by decide) 2 (by decide) (by decide)) (fun v17074 ev17074 av17074 bv17074 => ?_)
      refine WP_iload dX3_faultInParts_59 rfl ?_
      refine WQ_if_eq 68 dX3_faultInParts_61 rfl (fun c17074 => False.elim (by omega)) (fun c17074 => ?_)
      refine WQ_iconst (1) (1) dX3_faultInParts_64 rfl rfl (fun v17076 hv17076 => ?_)
      refine WP_goto 69 dX3_faultInParts_65 rfl ?_
      refine WQ_icmp_eq 74 dX3_faultInParts_69 rfl (fun c17076 => ?_) (fun c17076 => ?_)
      · refine WP_iload dX3_faultInParts_74 rfl ?_
        refine WQ_if_eq 92 dX3_faultInParts_76 rfl (fun c17077 => False.elim (by omega)) (fun c17077 => ?_)
        refine WP_aload_n dX3_faultInParts_79 rfl ?_
        refine WP_iload dX3_faultInParts_80 rfl ?_
        refine WP_iload_n dX3_faultInParts_82 rfl ?_
        refine WP_iload dX3_faultInParts_83 rfl ?_
        refine WP_aload_n dX3_faultInParts_85 rfl ?_
        refine WP_callV4 (k := 3) dX3_faultInParts_86 ⟨⟨⟨by decide, by decide⟩, zX3_faultOfName⟩, lX3_96, by decide, rfl, vX3_faultOfName.1, vX3_faultOfName.2⟩ (lyx_is hy 3 3 rfl) (sx_part_6_10_1 hy hr hI17056 v17068 cz v17063 (by omega) (by omega) (by omega) (by omega) (by omega) (by omega)) (Nat.le_of_ble_eq_true rfl) ?_
        intro r I17079 J17080 Ra hq
        obtain ⟨⟨hI17079, ec, ⟨pI17079, sI17079_4_0, sI17079_6_1, sI17079_6_2⟩⟩, v17081, rfl, av17081, bv17081, cv17081⟩ := hq
        show WP _ _ _ _ (.int _ :: _) _ _ _ _
        rw [ec]
        clear ec Ra
        have e17082 : I17079 (ad g 4) 0 = w17054 := by rw [sI17079_4_0]; exact e17060
        have e17083 : I17079 (ad g 6) 1 = w17029 := by rw [sI17079_6_1]; exact e17058
        have e17084 : I17079 (ad g 6) 2 = w17030 := by rw [sI17079_6_2]; exact e17059
        have e17085 : I17079 (ad g 1) 1 = L := hI17079.2
        have b17086 := BT_get hI17079.1 1 1 2 (0) (0) (900) (by decide) 1 (by decide) (by decide)
        rw [e17085] at b17086
        obtain ⟨w17087, ew17087⟩ : ∃ w : Int32, I17079 (ad g 4) 1 = w := ⟨_, rfl⟩
        have bw17087 := BT_get hI17079.1 4 0 5 (0) (0) (1000) (by decide) 1 (by decide) (by decide)
        rw [ew17087] at bw17087
        rw [ew17087] at cv17081
        refine WP_goto 102 dX3_faultInParts_89 rfl ?_
        refine WP_istore (ls' := [(0, _), (1, _), (2, _), (3, _), (4, _), (5, _), (6, _), (7, _)]) dX3_faultInParts_102 (by decide) rfl ?_
        refine WP_iload dX3_faultInParts_104 rfl ?_
        refine WQ_if_eq 112 dX3_faultInParts_106 rfl (fun c17087 => ?_) (fun c17087 => ?_)
        · refine WP_aload_n dX3_faultInParts_112 rfl ?_
          refine WP_getr dX3_faultInParts_113 fX3_15 rfl (lyx_is hy 3 3 rfl) (rfx hr 3 2 1 (by decide)) ?_
          refine WP_callV0 (k := 5) dX3_faultInParts_116 ⟨⟨⟨by decide, by decide⟩, zX5_next⟩, lX3_40, by decide, rfl, vX5_next.1, vX5_next.2⟩ (lyx_is hy 1 5 rfl) (sx_nextf hy hr hI17079  ) (Nat.le_of_ble_eq_true rfl) ?_
          intro r I17089 J17090 Ra hq
          obtain ⟨⟨hI17089, ec, fiI17089⟩, rfl⟩ := hq
          rw [ec]
          clear ec Ra
          have e17091 : I17089 (ad g 4) 0 = w17054 := by rw [fz_at fiI17089 4 (by decide) (by decide)]; exact e17082
          have e17092 : I17089 (ad g 6) 1 = w17029 := by rw [fz_at fiI17089 6 (by decide) (by decide)]; exact e17083
          have e17093 : I17089 (ad g 6) 2 = w17030 := by rw [fz_at fiI17089 6 (by decide) (by decide)]; exact e17084
          have e17094 : I17089 (ad g 4) 1 = w17087 := by rw [fz_at fiI17089 4 (by decide) (by decide)]; exact ew17087
          have e17095 : I17089 (ad g 1) 1 = L := hI17089.2
          have b17096 := BT_get hI17089.1 1 1 2 (0) (0) (900) (by decide) 1 (by decide) (by decide)
          rw [e17095] at b17096
          refine WP_iinc (ls' := [(0, _), (1, _), (2, _), (3, _), (4, _), (5, _), (6, _), (7, _)]) dX3_faultInParts_119 rfl (by decide) rfl ?_
          have hv17097 : (v17063 + Int32.ofInt (1)).toInt = v17063.toInt + (1) := ia_n rfl (by omega) (by omega)
          generalize v17063 + Int32.ofInt (1) = v17097 at hv17097 ⊢
          refine WP_goto 8 dX3_faultInParts_122 rfl ?_
          refine WP_iload dX3_faultInParts_8 rfl ?_
          refine WP_aload_n dX3_faultInParts_10 rfl ?_
          refine WS_call hz (i := 20) (by omega) dX3_faultInParts_11 ⟨⟨by decide, by decide⟩, zJ0_length_8abf5⟩ lX3_87 vJ0_length_8abf5 (As := []) (rest := [.int v17097]) (j_length hz (i := 20) (by omega)) rfl rfl (Nat.le_of_ble_eq_true rfl) ?_
          intro r Ia Ja Ra hq
          obtain ⟨⟨ea, eb, ec⟩, v17098, rfl, cv17098⟩ := hq
          show WP _ _ _ _ (.int _ :: _) _ _ _ _
          rw [ea, eb, ec]
          clear ea eb ec Ia Ja Ra
          have hv17098 : v17098.toInt = 5 := cv17098.trans rfl
          refine WQ_icmp_ge 125 dX3_faultInParts_14 rfl (fun c17098 => False.elim (by omega)) (fun c17098 => ?_)
          refine WP_iload dX3_faultInParts_17 rfl ?_
          refine WQ_iconst (5) (5) dX3_faultInParts_19 rfl rfl (fun v17100 hv17100 => ?_)
          refine WQ_icmp_ge 125 dX3_faultInParts_20 rfl (fun c17100 => False.elim (by omega)) (fun c17100 => ?_)
          refine WP_aload_n dX3_faultInParts_23 rfl ?_
          refine WP_iload dX3_faultInParts_24 rfl ?_
          refine WS_call hz (i := 20) (by omega) dX3_faultInParts_26 ⟨⟨by decide, by decide⟩, zJ0_charAt_5068e⟩ lX3_92 vJ0_charAt_5068e (As := [.int v17097]) (rest := []) (j_charAt hz (i := 20) (k := v17097) (by omega) (by omega) (by have z9 : ((liN.getD 20 0 : Nat) : Int) = 5 := rfl; omega)) rfl rfl (Nat.le_of_ble_eq_true rfl) ?_
          intro r Ia Ja Ra hq
          obtain ⟨⟨ea, eb, ec⟩, v17102, rfl, cv17102⟩ := hq
          show WP _ _ _ _ (.int _ :: _) _ _ _ _
          rw [ea, eb, ec]
          clear ea eb ec Ia Ja Ra
          have hv17102 : v17102.toInt = 68 := cv17102.trans (by rw [show v17097.toInt.toNat = 2 by omega]; rfl)
          refine WP_istore (ls' := [(0, _), (1, _), (2, _), (3, _), (4, _), (5, _), (6, _), (7, _)]) dX3_faultInParts_29 (by decide) rfl ?_
          refine WP_iload dX3_faultInParts_31 rfl ?_
          refine WQ_bipush (97) (97) dX3_faultInParts_33 rfl rfl (fun v17103 hv17103 => ?_)
          refine WQ_icmp_lt 49 dX3_faultInParts_35 rfl (fun c17103 => ?_) (fun c17103 => False.elim (by omega))
          refine WQ_iconst (0) (0) dX3_faultInParts_49 rfl rfl (fun v17105 hv17105 => ?_)
          refine WP_istore (ls' := [(0, _), (1, _), (2, _), (3, _), (4, _), (5, _), (6, _), (7, _)]) dX3_faultInParts_50 (by decide) rfl ?_
          refine WP_aload_n dX3_faultInParts_52 rfl ?_
          refine WP_getr dX3_faultInParts_53 fX3_15 rfl (lyx_is hy 3 3 rfl) (rfx hr 3 2 1 (by decide)) ?_
          refine WQ_geti dX3_faultInParts_56 fX3_43 rfl (lyx_is hy 1 5 rfl) (BT_get hI17089.1 1 2 3 (0) (0) (4) (by decide) 2 (by decide) (by decide)) (fun v17106 ev17106 av17106 bv17106 => ?_)
          refine WP_iload dX3_faultInParts_59 rfl ?_
          refine WQ_if_eq 68 dX3_faultInParts_61 rfl (fun c17106 => ?_) (fun c17106 => False.elim (by omega))
          refine WQ_iconst (2) (2) dX3_faultInParts_68 rfl rfl (fun v17108 hv17108 => ?_)
          refine WQ_icmp_eq 74 dX3_faultInParts_69 rfl (fun c17108 => ?_) (fun c17108 => ?_)
          · refine WP_iload dX3_faultInParts_74 rfl ?_
            refine WQ_if_eq 92 dX3_faultInParts_76 rfl (fun c17109 => ?_) (fun c17109 => False.elim (by omega))
            refine WP_aload_n dX3_faultInParts_92 rfl ?_
            refine WP_iload dX3_faultInParts_93 rfl ?_
            refine WP_iload_n dX3_faultInParts_95 rfl ?_
            refine WP_iload dX3_faultInParts_96 rfl ?_
            refine WP_aload_n dX3_faultInParts_98 rfl ?_
            refine WP_callV4 (k := 3) dX3_faultInParts_99 ⟨⟨⟨by decide, by decide⟩, zX3_faultOfNumber⟩, lX3_100, by decide, rfl, vX3_faultOfNumber.1, vX3_faultOfNumber.2⟩ (lyx_is hy 3 3 rfl) (sx_part_6_10_2 hy hr hI17089 v17102 cz v17097 (by omega) (by omega) (by omega) (by omega) (by omega) (by omega) (by rw [e17091]; omega)) (Nat.le_of_ble_eq_true rfl) ?_
            intro r I17111 J17112 Ra hq
            obtain ⟨⟨hI17111, ec, ⟨pI17111, sI17111_4_0, sI17111_4_1, sI17111_6_1, sI17111_6_2⟩⟩, v17113, rfl, av17113, bv17113, cv17113⟩ := hq
            show WP _ _ _ _ (.int _ :: _) _ _ _ _
            rw [ec]
            clear ec Ra
            have e17114 : I17111 (ad g 4) 0 = w17054 := by rw [sI17111_4_0]; exact e17091
            have e17115 : I17111 (ad g 4) 1 = w17087 := by rw [sI17111_4_1]; exact e17094
            have e17116 : I17111 (ad g 6) 1 = w17029 := by rw [sI17111_6_1]; exact e17092
            have e17117 : I17111 (ad g 6) 2 = w17030 := by rw [sI17111_6_2]; exact e17093
            have e17118 : I17111 (ad g 1) 1 = L := hI17111.2
            have b17119 := BT_get hI17111.1 1 1 2 (0) (0) (900) (by decide) 1 (by decide) (by decide)
            rw [e17118] at b17119
            obtain ⟨w17120, ew17120⟩ : ∃ w : Int32, I17111 (ad g 4) 2 = w := ⟨_, rfl⟩
            have bw17120 := BT_get hI17111.1 4 0 5 (0) (0) (1000) (by decide) 2 (by decide) (by decide)
            rw [ew17120] at bw17120
            rw [ew17120] at cv17113
            refine WP_istore (ls' := [(0, _), (1, _), (2, _), (3, _), (4, _), (5, _), (6, _), (7, _)]) dX3_faultInParts_102 (by decide) rfl ?_
            refine WP_iload dX3_faultInParts_104 rfl ?_
            refine WQ_if_eq 112 dX3_faultInParts_106 rfl (fun c17120 => ?_) (fun c17120 => ?_)
            · refine WP_aload_n dX3_faultInParts_112 rfl ?_
              refine WP_getr dX3_faultInParts_113 fX3_15 rfl (lyx_is hy 3 3 rfl) (rfx hr 3 2 1 (by decide)) ?_
              refine WP_callV0 (k := 5) dX3_faultInParts_116 ⟨⟨⟨by decide, by decide⟩, zX5_next⟩, lX3_40, by decide, rfl, vX5_next.1, vX5_next.2⟩ (lyx_is hy 1 5 rfl) (sx_nextf hy hr hI17111  ) (Nat.le_of_ble_eq_true rfl) ?_
              intro r I17122 J17123 Ra hq
              obtain ⟨⟨hI17122, ec, fiI17122⟩, rfl⟩ := hq
              rw [ec]
              clear ec Ra
              have e17124 : I17122 (ad g 4) 0 = w17054 := by rw [fz_at fiI17122 4 (by decide) (by decide)]; exact e17114
              have e17125 : I17122 (ad g 4) 1 = w17087 := by rw [fz_at fiI17122 4 (by decide) (by decide)]; exact e17115
              have e17126 : I17122 (ad g 6) 1 = w17029 := by rw [fz_at fiI17122 6 (by decide) (by decide)]; exact e17116
              have e17127 : I17122 (ad g 6) 2 = w17030 := by rw [fz_at fiI17122 6 (by decide) (by decide)]; exact e17117
              have e17128 : I17122 (ad g 4) 2 = w17120 := by rw [fz_at fiI17122 4 (by decide) (by decide)]; exact ew17120
              have e17129 : I17122 (ad g 1) 1 = L := hI17122.2
              have b17130 := BT_get hI17122.1 1 1 2 (0) (0) (900) (by decide) 1 (by decide) (by decide)
              rw [e17129] at b17130
              refine WP_iinc (ls' := [(0, _), (1, _), (2, _), (3, _), (4, _), (5, _), (6, _), (7, _)]) dX3_faultInParts_119 rfl (by decide) rfl ?_
              have hv17131 : (v17097 + Int32.ofInt (1)).toInt = v17097.toInt + (1) := ia_n rfl (by omega) (by omega)
              generalize v17097 + Int32.ofInt (1) = v17131 at hv17131 ⊢
              refine WP_goto 8 dX3_faultInParts_122 rfl ?_
              refine WP_iload dX3_faultInParts_8 rfl ?_
              refine WP_aload_n dX3_faultInParts_10 rfl ?_
              refine WS_call hz (i := 20) (by omega) dX3_faultInParts_11 ⟨⟨by decide, by decide⟩, zJ0_length_8abf5⟩ lX3_87 vJ0_length_8abf5 (As := []) (rest := [.int v17131]) (j_length hz (i := 20) (by omega)) rfl rfl (Nat.le_of_ble_eq_true rfl) ?_
              intro r Ia Ja Ra hq
              obtain ⟨⟨ea, eb, ec⟩, v17132, rfl, cv17132⟩ := hq
              show WP _ _ _ _ (.int _ :: _) _ _ _ _
              rw [ea, eb, ec]
              clear ea eb ec Ia Ja Ra
              have hv17132 : v17132.toInt = 5 := cv17132.trans rfl
              refine WQ_icmp_ge 125 dX3_faultInParts_14 rfl (fun c17132 => False.elim (by omega)) (fun c17132 => ?_)
              refine WP_iload dX3_faultInParts_17 rfl ?_
              refine WQ_iconst (5) (5) dX3_faultInParts_19 rfl rfl (fun v17134 hv17134 => ?_)
              refine WQ_icmp_ge 125 dX3_faultInParts_20 rfl (fun c17134 => False.elim (by omega)) (fun c17134 => ?_)
              refine WP_aload_n dX3_faultInParts_23 rfl ?_
              refine WP_iload dX3_faultInParts_24 rfl ?_
              refine WS_call hz (i := 20) (by omega) dX3_faultInParts_26 ⟨⟨by decide, by decide⟩, zJ0_charAt_5068e⟩ lX3_92 vJ0_charAt_5068e (As := [.int v17131]) (rest := []) (j_charAt hz (i := 20) (k := v17131) (by omega) (by omega) (by have z9 : ((liN.getD 20 0 : Nat) : Int) = 5 := rfl; omega)) rfl rfl (Nat.le_of_ble_eq_true rfl) ?_
              intro r Ia Ja Ra hq
              obtain ⟨⟨ea, eb, ec⟩, v17136, rfl, cv17136⟩ := hq
              show WP _ _ _ _ (.int _ :: _) _ _ _ _
              rw [ea, eb, ec]
              clear ea eb ec Ia Ja Ra
              have hv17136 : v17136.toInt = 85 := cv17136.trans (by rw [show v17131.toInt.toNat = 3 by omega]; rfl)
              refine WP_istore (ls' := [(0, _), (1, _), (2, _), (3, _), (4, _), (5, _), (6, _), (7, _)]) dX3_faultInParts_29 (by decide) rfl ?_
              refine WP_iload dX3_faultInParts_31 rfl ?_
              refine WQ_bipush (97) (97) dX3_faultInParts_33 rfl rfl (fun v17137 hv17137 => ?_)
              refine WQ_icmp_lt 49 dX3_faultInParts_35 rfl (fun c17137 => ?_) (fun c17137 => False.elim (by omega))
              refine WQ_iconst (0) (0) dX3_faultInParts_49 rfl rfl (fun v17139 hv17139 => ?_)
              refine WP_istore (ls' := [(0, _), (1, _), (2, _), (3, _), (4, _), (5, _), (6, _), (7, _)]) dX3_faultInParts_50 (by decide) rfl ?_
              refine WP_aload_n dX3_faultInParts_52 rfl ?_
              refine WP_getr dX3_faultInParts_53 fX3_15 rfl (lyx_is hy 3 3 rfl) (rfx hr 3 2 1 (by decide)) ?_
              refine WQ_geti dX3_faultInParts_56 fX3_43 rfl (lyx_is hy 1 5 rfl) (BT_get hI17122.1 1 2 3 (0) (0) (4) (by decide) 2 (by decide) (by decide)) (fun v17140 ev17140 av17140 bv17140 => ?_)
              refine WP_iload dX3_faultInParts_59 rfl ?_
              refine WQ_if_eq 68 dX3_faultInParts_61 rfl (fun c17140 => ?_) (fun c17140 => False.elim (by omega))
              refine WQ_iconst (2) (2) dX3_faultInParts_68 rfl rfl (fun v17142 hv17142 => ?_)
              refine WQ_icmp_eq 74 dX3_faultInParts_69 rfl (fun c17142 => ?_) (fun c17142 => ?_)
              · refine WP_iload dX3_faultInParts_74 rfl ?_
                refine WQ_if_eq 92 dX3_faultInParts_76 rfl (fun c17143 => ?_) (fun c17143 => False.elim (by omega))
                refine WP_aload_n dX3_faultInParts_92 rfl ?_
                refine WP_iload dX3_faultInParts_93 rfl ?_
                refine WP_iload_n dX3_faultInParts_95 rfl ?_
                refine WP_iload dX3_faultInParts_96 rfl ?_
                refine WP_aload_n dX3_faultInParts_98 rfl ?_
                refine WP_callV4 (k := 3) dX3_faultInParts_99 ⟨⟨⟨by decide, by decide⟩, zX3_faultOfNumber⟩, lX3_100, by decide, rfl, vX3_faultOfNumber.1, vX3_faultOfNumber.2⟩ (lyx_is hy 3 3 rfl) (sx_part_6_10_3 hy hr hI17122 v17136 cz v17131 (by omega) (by omega) (by omega) (by omega) (by omega) (by omega)) (Nat.le_of_ble_eq_true rfl) ?_
                intro r I17145 J17146 Ra hq
                obtain ⟨⟨hI17145, ec, ⟨pI17145, sI17145_4_0, sI17145_4_1, sI17145_4_2, sI17145_6_1, sI17145_6_2⟩⟩, v17147, rfl, av17147, bv17147, cv17147⟩ := hq
                show WP _ _ _ _ (.int _ :: _) _ _ _ _
                rw [ec]
                clear ec Ra
                have e17148 : I17145 (ad g 4) 0 = w17054 := by rw [sI17145_4_0]; exact e17124
                have e17149 : I17145 (ad g 4) 1 = w17087 := by rw [sI17145_4_1]; exact e17125
                have e17150 : I17145 (ad g 4) 2 = w17120 := by rw [sI17145_4_2]; exact e17128
                have e17151 : I17145 (ad g 6) 1 = w17029 := by rw [sI17145_6_1]; exact e17126
                have e17152 : I17145 (ad g 6) 2 = w17030 := by rw [sI17145_6_2]; exact e17127
                have e17153 : I17145 (ad g 1) 1 = L := hI17145.2
                have b17154 := BT_get hI17145.1 1 1 2 (0) (0) (900) (by decide) 1 (by decide) (by decide)
                rw [e17153] at b17154
                obtain ⟨w17155, ew17155⟩ : ∃ w : Int32, I17145 (ad g 4) 3 = w := ⟨_, rfl⟩
                have bw17155 := BT_get hI17145.1 4 0 5 (0) (0) (1000) (by decide) 3 (by decide) (by decide)
                rw [ew17155] at bw17155
                rw [ew17155] at cv17147
                refine WP_istore (ls' := [(0, _), (1, _), (2, _), (3, _), (4, _), (5, _), (6, _), (7, _)]) dX3_faultInParts_102 (by decide) rfl ?_
                refine WP_iload dX3_faultInParts_104 rfl ?_
                refine WQ_if_eq 112 dX3_faultInParts_106 rfl (fun c17155 => ?_) (fun c17155 => ?_)
                · refine WP_aload_n dX3_faultInParts_112 rfl ?_
                  refine WP_getr dX3_faultInParts_113 fX3_15 rfl (lyx_is hy 3 3 rfl) (rfx hr 3 2 1 (by decide)) ?_
                  refine WP_callV0 (k := 5) dX3_faultInParts_116 ⟨⟨⟨by decide, by decide⟩, zX5_next⟩, lX3_40, by decide, rfl, vX5_next.1, vX5_next.2⟩ (lyx_is hy 1 5 rfl) (sx_nextf hy hr hI17145  ) (Nat.le_of_ble_eq_true rfl) ?_
                  intro r I17157 J17158 Ra hq
                  obtain ⟨⟨hI17157, ec, fiI17157⟩, rfl⟩ := hq
                  rw [ec]
                  clear ec Ra
                  have e17159 : I17157 (ad g 4) 0 = w17054 := by rw [fz_at fiI17157 4 (by decide) (by decide)]; exact e17148
                  have e17160 : I17157 (ad g 4) 1 = w17087 := by rw [fz_at fiI17157 4 (by decide) (by decide)]; exact e17149
                  have e17161 : I17157 (ad g 4) 2 = w17120 := by rw [fz_at fiI17157 4 (by decide) (by decide)]; exact e17150
                  have e17162 : I17157 (ad g 6) 1 = w17029 := by rw [fz_at fiI17157 6 (by decide) (by decide)]; exact e17151
                  have e17163 : I17157 (ad g 6) 2 = w17030 := by rw [fz_at fiI17157 6 (by decide) (by decide)]; exact e17152
                  have e17164 : I17157 (ad g 4) 3 = w17155 := by rw [fz_at fiI17157 4 (by decide) (by decide)]; exact ew17155
                  have e17165 : I17157 (ad g 1) 1 = L := hI17157.2
                  have b17166 := BT_get hI17157.1 1 1 2 (0) (0) (900) (by decide) 1 (by decide) (by decide)
                  rw [e17165] at b17166
                  refine WP_iinc (ls' := [(0, _), (1, _), (2, _), (3, _), (4, _), (5, _), (6, _), (7, _)]) dX3_faultInParts_119 rfl (by decide) rfl ?_
                  have hv17167 : (v17131 + Int32.ofInt (1)).toInt = v17131.toInt + (1) := ia_n rfl (by omega) (by omega)
                  generalize v17131 + Int32.ofInt (1) = v17167 at hv17167 ⊢
                  refine WP_goto 8 dX3_faultInParts_122 rfl ?_
                  refine WP_iload dX3_faultInParts_8 rfl ?_
                  refine WP_aload_n dX3_faultInParts_10 rfl ?_
                  refine WS_call hz (i := 20) (by omega) dX3_faultInParts_11 ⟨⟨by decide, by decide⟩, zJ0_length_8abf5⟩ lX3_87 vJ0_length_8abf5 (As := []) (rest := [.int v17167]) (j_length hz (i := 20) (by omega)) rfl rfl (Nat.le_of_ble_eq_true rfl) ?_
                  intro r Ia Ja Ra hq
                  obtain ⟨⟨ea, eb, ec⟩, v17168, rfl, cv17168⟩ := hq
                  show WP _ _ _ _ (.int _ :: _) _ _ _ _
                  rw [ea, eb, ec]
                  clear ea eb ec Ia Ja Ra
                  have hv17168 : v17168.toInt = 5 := cv17168.trans rfl
                  refine WQ_icmp_ge 125 dX3_faultInParts_14 rfl (fun c17168 => False.elim (by omega)) (fun c17168 => ?_)
                  refine WP_iload dX3_faultInParts_17 rfl ?_
                  refine WQ_iconst (5) (5) dX3_faultInParts_19 rfl rfl (fun v17170 hv17170 => ?_)
                  refine WQ_icmp_ge 125 dX3_faultInParts_20 rfl (fun c17170 => False.elim (by omega)) (fun c17170 => ?_)
                  refine WP_aload_n dX3_faultInParts_23 rfl ?_
                  refine WP_iload dX3_faultInParts_24 rfl ?_
                  refine WS_call hz (i := 20) (by omega) dX3_faultInParts_26 ⟨⟨by decide, by decide⟩, zJ0_charAt_5068e⟩ lX3_92 vJ0_charAt_5068e (As := [.int v17167]) (rest := []) (j_charAt hz (i := 20) (k := v17167) (by omega) (by omega) (by have z9 : ((liN.getD 20 0 : Nat) : Int) = 5 := rfl; omega)) rfl rfl (Nat.le_of_ble_eq_true rfl) ?_
                  intro r Ia Ja Ra hq
                  obtain ⟨⟨ea, eb, ec⟩, v17172, rfl, cv17172⟩ := hq
                  show WP _ _ _ _ (.int _ :: _) _ _ _ _
                  rw [ea, eb, ec]
                  clear ea eb ec Ia Ja Ra
                  have hv17172 : v17172.toInt = 80 := cv17172.trans (by rw [show v17167.toInt.toNat = 4 by omega]; rfl)
                  refine WP_istore (ls' := [(0, _), (1, _), (2, _), (3, _), (4, _), (5, _), (6, _), (7, _)]) dX3_faultInParts_29 (by decide) rfl ?_
                  refine WP_iload dX3_faultInParts_31 rfl ?_
                  refine WQ_bipush (97) (97) dX3_faultInParts_33 rfl rfl (fun v17173 hv17173 => ?_)
                  refine WQ_icmp_lt 49 dX3_faultInParts_35 rfl (fun c17173 => ?_) (fun c17173 => False.elim (by omega))
                  refine WQ_iconst (0) (0) dX3_faultInParts_49 rfl rfl (fun v17175 hv17175 => ?_)
                  refine WP_istore (ls' := [(0, _), (1, _), (2, _), (3, _), (4, _), (5, _), (6, _), (7, _)]) dX3_faultInParts_50 (by decide) rfl ?_
                  refine WP_aload_n dX3_faultInParts_52 rfl ?_
                  refine WP_getr dX3_faultInParts_53 fX3_15 rfl (lyx_is hy 3 3 rfl) (rfx hr 3 2 1 (by decide)) ?_
                  refine WQ_geti dX3_faultInParts_56 fX3_43 rfl (lyx_is hy 1 5 rfl) (BT_get hI17157.1 1 2 3 (0) (0) (4) (by decide) 2 (by decide) (by decide)) (fun v17176 ev17176 av17176 bv17176 => ?_)
                  refine WP_iload dX3_faultInParts_59 rfl ?_
                  refine WQ_if_eq 68 dX3_faultInParts_61 rfl (fun c17176 => ?_) (fun c17176 => False.elim (by omega))
                  refine WQ_iconst (2) (2) dX3_faultInParts_68 rfl rfl (fun v17178 hv17178 => ?_)
                  refine WQ_icmp_eq 74 dX3_faultInParts_69 rfl (fun c17178 => ?_) (fun c17178 => ?_)
                  · refine WP_iload dX3_faultInParts_74 rfl ?_
                    refine WQ_if_eq 92 dX3_faultInParts_76 rfl (fun c17179 => ?_) (fun c17179 => False.elim (by omega))
                    refine WP_aload_n dX3_faultInParts_92 rfl ?_
                    refine WP_iload dX3_faultInParts_93 rfl ?_
                    refine WP_iload_n dX3_faultInParts_95 rfl ?_
                    refine WP_iload dX3_faultInParts_96 rfl ?_
                    refine WP_aload_n dX3_faultInParts_98 rfl ?_
                    refine WP_callV4 (k := 3) dX3_faultInParts_99 ⟨⟨⟨by decide, by decide⟩, zX3_faultOfNumber⟩, lX3_100, by decide, rfl, vX3_faultOfNumber.1, vX3_faultOfNumber.2⟩ (lyx_is hy 3 3 rfl) (sx_part_6_10_4 hy hr hI17157 v17172 cz v17167 (by omega) (by omega) (by omega) (by omega) (by omega) (by omega)) (Nat.le_of_ble_eq_true rfl) ?_
                    intro r I17181 J17182 Ra hq
                    obtain ⟨⟨hI17181, ec, ⟨pI17181, sI17181_4_0, sI17181_4_1, sI17181_4_2, sI17181_4_3, sI17181_6_1, sI17181_6_2⟩⟩, v17183, rfl, av17183, bv17183, cv17183⟩ := hq
                    show WP _ _ _ _ (.int _ :: _) _ _ _ _
                    rw [ec]
                    clear ec Ra
                    have e17184 : I17181 (ad g 4) 0 = w17054 := by rw [sI17181_4_0]; exact e17159
                    have e17185 : I17181 (ad g 4) 1 = w17087 := by rw [sI17181_4_1]; exact e17160
                    have e17186 : I17181 (ad g 4) 2 = w17120 := by rw [sI17181_4_2]; exact e17161
                    have e17187 : I17181 (ad g 4) 3 = w17155 := by rw [sI17181_4_3]; exact e17164
                    have e17188 : I17181 (ad g 6) 1 = w17029 := by rw [sI17181_6_1]; exact e17162
                    have e17189 : I17181 (ad g 6) 2 = w17030 := by rw [sI17181_6_2]; exact e17163
                    have e17190 : I17181 (ad g 1) 1 = L := hI17181.2
                    have b17191 := BT_get hI17181.1 1 1 2 (0) (0) (900) (by decide) 1 (by decide) (by decide)
                    rw [e17190] at b17191
                    obtain ⟨w17192, ew17192⟩ : ∃ w : Int32, I17181 (ad g 4) 4 = w := ⟨_, rfl⟩
                    have bw17192 := BT_get hI17181.1 4 0 5 (0) (0) (1000) (by decide) 4 (by decide) (by decide)
                    rw [ew17192] at bw17192
                    rw [ew17192] at cv17183
                    refine WP_istore (ls' := [(0, _), (1, _), (2, _), (3, _), (4, _), (5, _), (6, _), (7, _)]) dX3_faultInParts_102 (by decide) rfl ?_
                    refine WP_iload dX3_faultInParts_104 rfl ?_
                    refine WQ_if_eq 112 dX3_faultInParts_106 rfl (fun c17192 => ?_) (fun c17192 => ?_)
                    · refine WP_aload_n dX3_faultInParts_112 rfl ?_
                      refine WP_getr dX3_faultInParts_113 fX3_15 rfl (lyx_is hy 3 3 rfl) (rfx hr 3 2 1 (by decide)) ?_
                      refine WP_callV0 (k := 5) dX3_faultInParts_116 ⟨⟨⟨by decide, by decide⟩, zX5_next⟩, lX3_40, by decide, rfl, vX5_next.1, vX5_next.2⟩ (lyx_is hy 1 5 rfl) (sx_nextf hy hr hI17181  ) (Nat.le_of_ble_eq_true rfl) ?_
                      intro r I17194 J17195 Ra hq
                      obtain ⟨⟨hI17194, ec, fiI17194⟩, rfl⟩ := hq
                      rw [ec]
                      clear ec Ra
                      have e17196 : I17194 (ad g 4) 0 = w17054 := by rw [fz_at fiI17194 4 (by decide) (by decide)]; exact e17184
                      have e17197 : I17194 (ad g 4) 1 = w17087 := by rw [fz_at fiI17194 4 (by decide) (by decide)]; exact e17185
                      have e17198 : I17194 (ad g 4) 2 = w17120 := by rw [fz_at fiI17194 4 (by decide) (by decide)]; exact e17186
                      have e17199 : I17194 (ad g 4) 3 = w17155 := by rw [fz_at fiI17194 4 (by decide) (by decide)]; exact e17187
                      have e17200 : I17194 (ad g 6) 1 = w17029 := by rw [fz_at fiI17194 6 (by decide) (by decide)]; exact e17188
                      have e17201 : I17194 (ad g 6) 2 = w17030 := by rw [fz_at fiI17194 6 (by decide) (by decide)]; exact e17189
                      have e17202 : I17194 (ad g 4) 4 = w17192 := by rw [fz_at fiI17194 4 (by decide) (by decide)]; exact ew17192
                      have e17203 : I17194 (ad g 1) 1 = L := hI17194.2
                      have b17204 := BT_get hI17194.1 1 1 2 (0) (0) (900) (by decide) 1 (by decide) (by decide)
                      rw [e17203] at b17204
                      refine WP_iinc (ls' := [(0, _), (1, _), (2, _), (3, _), (4, _), (5, _), (6, _), (7, _)]) dX3_faultInParts_119 rfl (by decide) rfl ?_
                      have hv17205 : (v17167 + Int32.ofInt (1)).toInt = v17167.toInt + (1) := ia_n rfl (by omega) (by omega)
                      generalize v17167 + Int32.ofInt (1) = v17205 at hv17205 ⊢
                      refine WP_goto 8 dX3_faultInParts_122 rfl ?_
                      refine WP_iload dX3_faultInParts_8 rfl ?_
                      refine WP_aload_n dX3_faultInParts_10 rfl ?_
                      refine WS_call hz (i := 20) (by omega) dX3_faultInParts_11 ⟨⟨by decide, by decide⟩, zJ0_length_8abf5⟩ lX3_87 vJ0_length_8abf5 (As := []) (rest := [.int v17205]) (j_length hz (i := 20) (by omega)) rfl rfl (Nat.le_of_ble_eq_true rfl) ?_
                      intro r Ia Ja Ra hq
                      obtain ⟨⟨ea, eb, ec⟩, v17206, rfl, cv17206⟩ := hq
                      show WP _ _ _ _ (.int _ :: _) _ _ _ _
                      rw [ea, eb, ec]
                      clear ea eb ec Ia Ja Ra
                      have hv17206 : v17206.toInt = 5 := cv17206.trans rfl
                      refine WQ_icmp_ge 125 dX3_faultInParts_14 rfl (fun c17206 => ?_) (fun c17206 => False.elim (by omega))
                      refine WP_aload_n dX3_faultInParts_125 rfl ?_
                      refine WP_getr dX3_faultInParts_126 fX3_15 rfl (lyx_is hy 3 3 rfl) (rfx hr 3 2 1 (by decide)) ?_
                      refine WQ_geti dX3_faultInParts_129 fX3_43 rfl (lyx_is hy 1 5 rfl) (BT_get hI17194.1 1 2 3 (0) (0) (4) (by decide) 2 (by decide) (by decide)) (fun v17208 ev17208 av17208 bv17208 => ?_)
                      refine WQ_iconst (3) (3) dX3_faultInParts_132 rfl rfl (fun v17209 hv17209 => ?_)
                      refine WQ_icmp_ne 140 dX3_faultInParts_133 rfl (fun c17209 => ?_) (fun c17209 => ?_)
                      · refine WQ_iconst (1) (1) dX3_faultInParts_140 rfl rfl (fun v17211 hv17211 => ?_)
                        exact WP_iret dX3_faultInParts_141 rfl ⟨⟨hI17194, rfl, ⟨trivial, (by rw [e17200, ew17029] <;> exact (eq32 _ _).mpr (by omega)), (by rw [e17201, ew17030] <;> exact (eq32 _ _).mpr (by omega))⟩⟩, _, rfl, by omega, by omega, by (try rw [e17196]; try rw [e17197]; try rw [e17198]; try rw [e17199]; try rw [e17202]); omega⟩
                      · refine WQ_iconst (0) (0) dX3_faultInParts_136 rfl rfl (fun v17212 hv17212 => ?_)
                        refine WP_goto 141 dX3_faultInParts_137 rfl ?_
                        exact WP_iret dX3_faultInParts_141 rfl ⟨⟨hI17194, rfl, ⟨trivial, (by rw [e17200, ew17029] <;> exact (eq32 _ _).mpr (by omega)), (by rw [e17201, ew17030] <;> exact (eq32 _ _).mpr (by omega))⟩⟩, _, rfl, by omega, by omega, by (try rw [e17196]; try rw [e17197]; try rw [e17198]; try rw [e17199]; try rw [e17202]); omega⟩
                    · refine WP_iload dX3_faultInParts_109 rfl ?_
                      exact WP_iret dX3_faultInParts_111 rfl ⟨⟨hI17181, rfl, ⟨trivial, (by rw [e17188, ew17029] <;> exact (eq32 _ _).mpr (by omega)), (by rw [e17189, ew17030] <;> exact (eq32 _ _).mpr (by omega))⟩⟩, _, rfl, by omega, by omega, by (try rw [e17184]; try rw [e17185]; try rw [e17186]; try rw [e17187]; try rw [ew17192]); omega⟩
                  · refine WQ_iconst (1) (1) dX3_faultInParts_72 rfl rfl (fun v17213 hv17213 => ?_)
                    obtain ⟨w17214, ew17214⟩ : ∃ w : Int32, I17157 (ad g 4) 4 = w := ⟨_, rfl⟩
                    have bw17214 := BT_get hI17157.1 4 0 5 (0) (0) (1000) (by decide) 4 (by decide) (by decide)
                    rw [ew17214] at bw17214
                    exact WP_iret dX3_faultInParts_73 rfl ⟨⟨hI17157, rfl, ⟨trivial, (by rw [e17162, ew17029] <;> exact (eq32 _ _).mpr (by omega)), (by rw [e17163, ew17030] <;> exact (eq32 _ _).mpr (by omega))⟩⟩, _, rfl, by omega, by omega, by (try rw [e17159]; try rw [e17160]; try rw [e17161]; try rw [e17164]; try rw [ew17214]); omega⟩
                · refine WP_iload dX3_faultInParts_109 rfl ?_
                  obtain ⟨w17215, ew17215⟩ : ∃ w : Int32, I17145 (ad g 4) 4 = w := ⟨_, rfl⟩
                  have bw17215 := BT_get hI17145.1 4 0 5 (0) (0) (1000) (by decide) 4 (by decide) (by decide)
                  rw [ew17215] at bw17215
                  exact WP_iret dX3_faultInParts_111 rfl ⟨⟨hI17145, rfl, ⟨trivial, (by rw [e17151, ew17029] <;> exact (eq32 _ _).mpr (by omega)), (by rw [e17152, ew17030] <;> exact (eq32 _ _).mpr (by omega))⟩⟩, _, rfl, by omega, by omega, by (try rw [e17148]; try rw [e17149]; try rw [e17150]; try rw [ew17155]; try rw [ew17215]); omega⟩
              · refine WQ_iconst (1) (1) dX3_faultInParts_72 rfl rfl (fun v17216 hv17216 => ?_)
                obtain ⟨w17217, ew17217⟩ : ∃ w : Int32, I17122 (ad g 4) 3 = w := ⟨_, rfl⟩
                have bw17217 := BT_get hI17122.1 4 0 5 (0) (0) (1000) (by decide) 3 (by decide) (by decide)
                rw [ew17217] at bw17217
                obtain ⟨w17218, ew17218⟩ : ∃ w : Int32, I17122 (ad g 4) 4 = w := ⟨_, rfl⟩
                have bw17218 := BT_get hI17122.1 4 0 5 (0) (0) (1000) (by decide) 4 (by decide) (by decide)
                rw [ew17218] at bw17218
                exact WP_iret dX3_faultInParts_73 rfl ⟨⟨hI17122, rfl, ⟨trivial, (by rw [e17126, ew17029] <;> exact (eq32 _ _).mpr (by omega)), (by rw [e17127, ew17030] <;> exact (eq32 _ _).mpr (by omega))⟩⟩, _, rfl, by omega, by omega, by (try rw [e17124]; try rw [e17125]; try rw [e17128]; try rw [ew17217]; try rw [ew17218]); omega⟩
            · refine WP_iload dX3_faultInParts_109 rfl ?_
              obtain ⟨w17219, ew17219⟩ : ∃ w : Int32, I17111 (ad g 4) 3 = w := ⟨_, rfl⟩
              have bw17219 := BT_get hI17111.1 4 0 5 (0) (0) (1000) (by decide) 3 (by decide) (by decide)
              rw [ew17219] at bw17219
              obtain ⟨w17220, ew17220⟩ : ∃ w : Int32, I17111 (ad g 4) 4 = w := ⟨_, rfl⟩
              have bw17220 := BT_get hI17111.1 4 0 5 (0) (0) (1000) (by decide) 4 (by decide) (by decide)
              rw [ew17220] at bw17220
              exact WP_iret dX3_faultInParts_111 rfl ⟨⟨hI17111, rfl, ⟨trivial, (by rw [e17116, ew17029] <;> exact (eq32 _ _).mpr (by omega)), (by rw [e17117, ew17030] <;> exact (eq32 _ _).mpr (by omega))⟩⟩, _, rfl, by omega, by omega, by (try rw [e17114]; try rw [e17115]; try rw [ew17120]; try rw [ew17219]; try rw [ew17220]); omega⟩
          · refine WQ_iconst (1) (1) dX3_faultInParts_72 rfl rfl (fun v17221 hv17221 => ?_)
            obtain ⟨w17222, ew17222⟩ : ∃ w : Int32, I17089 (ad g 4) 2 = w := ⟨_, rfl⟩
            have bw17222 := BT_get hI17089.1 4 0 5 (0) (0) (1000) (by decide) 2 (by decide) (by decide)
            rw [ew17222] at bw17222
            obtain ⟨w17223, ew17223⟩ : ∃ w : Int32, I17089 (ad g 4) 3 = w := ⟨_, rfl⟩
            have bw17223 := BT_get hI17089.1 4 0 5 (0) (0) (1000) (by decide) 3 (by decide) (by decide)
            rw [ew17223] at bw17223
            obtain ⟨w17224, ew17224⟩ : ∃ w : Int32, I17089 (ad g 4) 4 = w := ⟨_, rfl⟩
            have bw17224 := BT_get hI17089.1 4 0 5 (0) (0) (1000) (by decide) 4 (by decide) (by decide)
            rw [ew17224] at bw17224
            exact WP_iret dX3_faultInParts_73 rfl ⟨⟨hI17089, rfl, ⟨trivial, (by rw [e17092, ew17029] <;> exact (eq32 _ _).mpr (by omega)), (by rw [e17093, ew17030] <;> exact (eq32 _ _).mpr (by omega))⟩⟩, _, rfl, by omega, by omega, by (try rw [e17091]; try rw [e17094]; try rw [ew17222]; try rw [ew17223]; try rw [ew17224]); omega⟩
        · refine WP_iload dX3_faultInParts_109 rfl ?_
          obtain ⟨w17225, ew17225⟩ : ∃ w : Int32, I17079 (ad g 4) 2 = w := ⟨_, rfl⟩
          have bw17225 := BT_get hI17079.1 4 0 5 (0) (0) (1000) (by decide) 2 (by decide) (by decide)
          rw [ew17225] at bw17225
          obtain ⟨w17226, ew17226⟩ : ∃ w : Int32, I17079 (ad g 4) 3 = w := ⟨_, rfl⟩
          have bw17226 := BT_get hI17079.1 4 0 5 (0) (0) (1000) (by decide) 3 (by decide) (by decide)
          rw [ew17226] at bw17226
          obtain ⟨w17227, ew17227⟩ : ∃ w : Int32, I17079 (ad g 4) 4 = w := ⟨_, rfl⟩
          have bw17227 := BT_get hI17079.1 4 0 5 (0) (0) (1000) (by decide) 4 (by decide) (by decide)
          rw [ew17227] at bw17227
          exact WP_iret dX3_faultInParts_111 rfl ⟨⟨hI17079, rfl, ⟨trivial, (by rw [e17083, ew17029] <;> exact (eq32 _ _).mpr (by omega)), (by rw [e17084, ew17030] <;> exact (eq32 _ _).mpr (by omega))⟩⟩, _, rfl, by omega, by omega, by (try rw [e17082]; try rw [ew17087]; try rw [ew17225]; try rw [ew17226]; try rw [ew17227]); omega⟩
      · refine WQ_iconst (1) (1) dX3_faultInParts_72 rfl rfl (fun v17228 hv17228 => ?_)
        obtain ⟨w17229, ew17229⟩ : ∃ w : Int32, I17056 (ad g 4) 1 = w := ⟨_, rfl⟩
        have bw17229 := BT_get hI17056.1 4 0 5 (0) (0) (1000) (by decide) 1 (by decide) (by decide)
        rw [ew17229] at bw17229
        obtain ⟨w17230, ew17230⟩ : ∃ w : Int32, I17056 (ad g 4) 2 = w := ⟨_, rfl⟩
        have bw17230 := BT_get hI17056.1 4 0 5 (0) (0) (1000) (by decide) 2 (by decide) (by decide)
        rw [ew17230] at bw17230
        obtain ⟨w17231, ew17231⟩ : ∃ w : Int32, I17056 (ad g 4) 3 = w := ⟨_, rfl⟩
        have bw17231 := BT_get hI17056.1 4 0 5 (0) (0) (1000) (by decide) 3 (by decide) (by decide)
        rw [ew17231] at bw17231
        obtain ⟨w17232, ew17232⟩ : ∃ w : Int32, I17056 (ad g 4) 4 = w := ⟨_, rfl⟩
        have bw17232 := BT_get hI17056.1 4 0 5 (0) (0) (1000) (by decide) 4 (by decide) (by decide)
        rw [ew17232] at bw17232
        exact WP_iret dX3_faultInParts_73 rfl ⟨⟨hI17056, rfl, ⟨trivial, (by rw [e17058, ew17029] <;> exact (eq32 _ _).mpr (by omega)), (by rw [e17059, ew17030] <;> exact (eq32 _ _).mpr (by omega))⟩⟩, _, rfl, by omega, by omega, by (try rw [e17060]; try rw [ew17229]; try rw [ew17230]; try rw [ew17231]; try rw [ew17232]); omega⟩
    · refine WP_iload dX3_faultInParts_109 rfl ?_
      obtain ⟨w17233, ew17233⟩ : ∃ w : Int32, I17047 (ad g 4) 1 = w := ⟨_, rfl⟩
      have bw17233 := BT_get hI17047.1 4 0 5 (0) (0) (1000) (by decide) 1 (by decide) (by decide)
      rw [ew17233] at bw17233
      obtain ⟨w17234, ew17234⟩ : ∃ w : Int32, I17047 (ad g 4) 2 = w := ⟨_, rfl⟩
      have bw17234 := BT_get hI17047.1 4 0 5 (0) (0) (1000) (by decide) 2 (by decide) (by decide)
      rw [ew17234] at bw17234
      obtain ⟨w17235, ew17235⟩ : ∃ w : Int32, I17047 (ad g 4) 3 = w := ⟨_, rfl⟩
      have bw17235 := BT_get hI17047.1 4 0 5 (0) (0) (1000) (by decide) 3 (by decide) (by decide)
      rw [ew17235] at bw17235
      obtain ⟨w17236, ew17236⟩ : ∃ w : Int32, I17047 (ad g 4) 4 = w := ⟨_, rfl⟩
      have bw17236 := BT_get hI17047.1 4 0 5 (0) (0) (1000) (by decide) 4 (by decide) (by decide)
      rw [ew17236] at bw17236
      exact WP_iret dX3_faultInParts_111 rfl ⟨⟨hI17047, rfl, ⟨trivial, (by rw [e17050, ew17029] <;> exact (eq32 _ _).mpr (by omega)), (by rw [e17051, ew17030] <;> exact (eq32 _ _).mpr (by omega))⟩⟩, _, rfl, by omega, by omega, by (try rw [ew17054]; try rw [ew17233]; try rw [ew17234]; try rw [ew17235]; try rw [ew17236]); omega⟩
  · refine WQ_iconst (1) (1) dX3_faultInParts_72 rfl rfl (fun v17237 hv17237 => ?_)
    obtain ⟨w17238, ew17238⟩ : ∃ w : Int32, I (ad g 4) 0 = w := ⟨_, rfl⟩
    have bw17238 := BT_get hI.1 4 0 5 (0) (0) (1000) (by decide) 0 (by decide) (by decide)
    rw [ew17238] at bw17238
    obtain ⟨w17239, ew17239⟩ : ∃ w : Int32, I (ad g 4) 1 = w := ⟨_, rfl⟩
    have bw17239 := BT_get hI.1 4 0 5 (0) (0) (1000) (by decide) 1 (by decide) (by decide)
    rw [ew17239] at bw17239
    obtain ⟨w17240, ew17240⟩ : ∃ w : Int32, I (ad g 4) 2 = w := ⟨_, rfl⟩
    have bw17240 := BT_get hI.1 4 0 5 (0) (0) (1000) (by decide) 2 (by decide) (by decide)
    rw [ew17240] at bw17240
    obtain ⟨w17241, ew17241⟩ : ∃ w : Int32, I (ad g 4) 3 = w := ⟨_, rfl⟩
    have bw17241 := BT_get hI.1 4 0 5 (0) (0) (1000) (by decide) 3 (by decide) (by decide)
    rw [ew17241] at bw17241
    obtain ⟨w17242, ew17242⟩ : ∃ w : Int32, I (ad g 4) 4 = w := ⟨_, rfl⟩
    have bw17242 := BT_get hI.1 4 0 5 (0) (0) (1000) (by decide) 4 (by decide) (by decide)
    rw [ew17242] at bw17242
    exact WP_iret dX3_faultInParts_73 rfl ⟨⟨hI, rfl, ⟨trivial, rfl, rfl⟩⟩, _, rfl, by omega, by omega, by (try rw [ew17238]; try rw [ew17239]; try rw [ew17240]; try rw [ew17241]; try rw [ew17242]); omega⟩
set_option maxHeartbeats 4000000 in
set_option maxRecDepth 100000 in
theorem sx_parts_6_11 {g : GG} {n : Int} {L : Int32} (hy : LyX g) {aK aV : Nat → Nat} {fo : Option Nat} (hz : HZ g aK aV fo)  {I : pI} {J : pJ} {R : pR} (hr : RfX g R) (hI : XI g n L I) (cz : Int32) (cz_lo : 11 ≤ cz.toInt) (cz_hi : cz.toInt ≤ 11) : SP g mX3_faultInParts [.ref (ad g 3), .int cz, .ref (ad g 6)] I J R (fun r I' J' R' => (XI g n L I' ∧ R' = R ∧ True ∧ I' (ad g 6) 1 = I (ad g 6) 1 ∧ I' (ad g 6) 2 = I (ad g 6) 2) ∧ ∃ v : Int32, r = some (.int v) ∧ 0 ≤ v.toInt ∧ v.toInt ≤ 5 ∧ (v.toInt = 0 → (I' (ad g 4) 0).toInt ≤ 99 ∧ (I' (ad g 4) 1).toInt ≤ 99)) := by
  refine SP_of ⟨by decide, rfl⟩ (Nat.le_of_ble_eq_true rfl) ?_
  have e17243 : I (ad g 1) 1 = L := hI.2
  have b17244 := BT_get hI.1 1 1 2 (0) (0) (900) (by decide) 1 (by decide) (by decide)
  rw [e17243] at b17244
  obtain ⟨w17245, ew17245⟩ : ∃ w : Int32, I (ad g 6) 1 = w := ⟨_, rfl⟩
  have bw17245 := BT_get hI.1 6 1 2 (0) (0) (4) (by decide) 1 (by decide) (by decide)
  rw [ew17245] at bw17245
  obtain ⟨w17246, ew17246⟩ : ∃ w : Int32, I (ad g 6) 2 = w := ⟨_, rfl⟩
  have bw17246 := BT_get hI.1 6 2 3 (0) (0) (3) (by decide) 2 (by decide) (by decide)
  rw [ew17246] at bw17246
  refine WP_iload_n dX3_faultInParts_0 rfl ?_
  refine WP_callS1 dX3_faultInParts_1 ⟨⟨⟨by decide, by decide⟩, zX3_shapeOf⟩, lX3_84, tX3_shapeOf⟩ (sx_shapeOf hy hz hr hI cz (by omega) (by omega)) (Nat.le_of_ble_eq_true rfl) ?_
  intro r Ia Ja Ra hq
  obtain ⟨⟨ea, eb, ec⟩, rfl⟩ := hq
  show WP _ _ _ _ (.ref _ :: _) _ _ _ _
  rw [show 10 + cz.toInt.toNat = 21 by omega]
  rw [ea, eb, ec]
  clear ea eb ec Ia Ja Ra
  refine WP_astore_n (ls' := [(0, _), (1, _), (2, _), (3, _)]) dX3_faultInParts_4 (by decide) rfl ?_
  refine WQ_iconst (0) (0) dX3_faultInParts_5 rfl rfl (fun v17247 hv17247 => ?_)
  refine WP_istore (ls' := [(0, _), (1, _), (2, _), (3, _), (4, _)]) dX3_faultInParts_6 (by decide) rfl ?_
  refine WP_iload dX3_faultInParts_8 rfl ?_
  refine WP_aload_n dX3_faultInParts_10 rfl ?_
  refine WS_call hz (i := 21) (by omega) dX3_faultInParts_11 ⟨⟨by decide, by decide⟩, zJ0_length_8abf5⟩ lX3_87 vJ0_length_8abf5 (As := []) (rest := [.int v17247]) (j_length hz (i := 21) (by omega)) rfl rfl (Nat.le_of_ble_eq_true rfl) ?_
  intro r Ia Ja Ra hq
  obtain ⟨⟨ea, eb, ec⟩, v17248, rfl, cv17248⟩ := hq
  show WP _ _ _ _ (.int _ :: _) _ _ _ _
  rw [ea, eb, ec]
  clear ea eb ec Ia Ja Ra
  have hv17248 : v17248.toInt = 2 := cv17248.trans rfl
  refine WQ_icmp_ge 125 dX3_faultInParts_14 rfl (fun c17248 => False.elim (by omega)) (fun c17248 => ?_)
  refine WP_iload dX3_faultInParts_17 rfl ?_
  refine WQ_iconst (5) (5) dX3_faultInParts_19 rfl rfl (fun v17250 hv17250 => ?_)
  refine WQ_icmp_ge 125 dX3_faultInParts_20 rfl (fun c17250 => False.elim (by omega)) (fun c17250 => ?_)
  refine WP_aload_n dX3_faultInParts_23 rfl ?_
  refine WP_iload dX3_faultInParts_24 rfl ?_
  refine WS_call hz (i := 21) (by omega) dX3_faultInParts_26 ⟨⟨by decide, by decide⟩, zJ0_charAt_5068e⟩ lX3_92 vJ0_charAt_5068e (As := [.int v17247]) (rest := []) (j_charAt hz (i := 21) (k := v17247) (by omega) (by omega) (by have z9 : ((liN.getD 21 0 : Nat) : Int) = 2 := rfl; omega)) rfl rfl (Nat.le_of_ble_eq_true rfl) ?_
  intro r Ia Ja Ra hq
  obtain ⟨⟨ea, eb, ec⟩, v17252, rfl, cv17252⟩ := hq
  show WP _ _ _ _ (.int _ :: _) _ _ _ _
  rw [ea, eb, ec]
  clear ea eb ec Ia Ja Ra
  have hv17252 : v17252.toInt = 86 := cv17252.trans (by rw [show v17247.toInt.toNat = 0 by omega]; rfl)
  refine WP_istore (ls' := [(0, _), (1, _), (2, _), (3, _), (4, _), (5, _)]) dX3_faultInParts_29 (by decide) rfl ?_
  refine WP_iload dX3_faultInParts_31 rfl ?_
  refine WQ_bipush (97) (97) dX3_faultInParts_33 rfl rfl (fun v17253 hv17253 => ?_)
  refine WQ_icmp_lt 49 dX3_faultInParts_35 rfl (fun c17253 => ?_) (fun c17253 => False.elim (by omega))
  refine WQ_iconst (0) (0) dX3_faultInParts_49 rfl rfl (fun v17255 hv17255 => ?_)
  refine WP_istore (ls' := [(0, _), (1, _), (2, _), (3, _), (4, _), (5, _), (6, _)]) dX3_faultInParts_50 (by decide) rfl ?_
  refine WP_aload_n dX3_faultInParts_52 rfl ?_
  refine WP_getr dX3_faultInParts_53 fX3_15 rfl (lyx_is hy 3 3 rfl) (rfx hr 3 2 1 (by decide)) ?_
  refine WQ_geti dX3_faultInParts_56 fX3_43 rfl (lyx_is hy 1 5 rfl) (BT_get hI.1 1 2 3 (0) (0) (4) (by decide) 2 (by decide) (by decide)) (fun v17256 ev17256 av17256 bv17256 => ?_)
  refine WP_iload dX3_faultInParts_59 rfl ?_
  refine WQ_if_eq 68 dX3_faultInParts_61 rfl (fun c17256 => ?_) (fun c17256 => False.elim (by omega))
  refine WQ_iconst (2) (2) dX3_faultInParts_68 rfl rfl (fun v17258 hv17258 => ?_)
  refine WQ_icmp_eq 74 dX3_faultInParts_69 rfl (fun c17258 => ?_) (fun c17258 => ?_)
  · refine WP_iload dX3_faultInParts_74 rfl ?_
    refine WQ_if_eq 92 dX3_faultInParts_76 rfl (fun c17259 => ?_) (fun c17259 => False.elim (by omega))
    refine WP_aload_n dX3_faultInParts_92 rfl ?_
    refine WP_iload dX3_faultInParts_93 rfl ?_
    refine WP_iload_n dX3_faultInParts_95 rfl ?_
    refine WP_iload dX3_faultInParts_96 rfl ?_
    refine WP_aload_n dX3_faultInParts_98 rfl ?_
    refine WP_callV4 (k := 3) dX3_faultInParts_99 ⟨⟨⟨by decide, by decide⟩, zX3_faultOfNumber⟩, lX3_100, by decide, rfl, vX3_faultOfNumber.1, vX3_faultOfNumber.2⟩ (lyx_is hy 3 3 rfl) (sx_part_6_11_0 hy hr hI v17252 cz v17247 (by omega) (by omega) (by omega) (by omega) (by omega) (by omega)) (Nat.le_of_ble_eq_true rfl) ?_
    intro r I17261 J17262 Ra hq
    obtain ⟨⟨hI17261, ec, ⟨pI17261, sI17261_6_1, sI17261_6_2⟩⟩, v17263, rfl, av17263, bv17263, cv17263⟩ := hq
    show WP _ _ _ _ (.int _ :: _) _ _ _ _
    rw [ec]
    clear ec Ra
    have e17264 : I17261 (ad g 6) 1 = w17245 := by rw [sI17261_6_1]; exact ew17245
    have e17265 : I17261 (ad g 6) 2 = w17246 := by rw [sI17261_6_2]; exact ew17246
    have e17266 : I17261 (ad g 1) 1 = L := hI17261.2
    have b17267 := BT_get hI17261.1 1 1 2 (0) (0) (900) (by decide) 1 (by decide) (by decide)
    rw [e17266] at b17267
    obtain ⟨w17268, ew17268⟩ : ∃ w : Int32, I17261 (ad g 4) 0 = w := ⟨_, rfl⟩
    have bw17268 := BT_get hI17261.1 4 0 5 (0) (0) (1000) (by decide) 0 (by decide) (by decide)
    rw [ew17268] at bw17268
    rw [ew17268] at cv17263
    refine WP_istore (ls' := [(0, _), (1, _), (2, _), (3, _), (4, _), (5, _), (6, _), (7, _)]) dX3_faultInParts_102 (by decide) rfl ?_
    refine WP_iload dX3_faultInParts_104 rfl ?_
    refine WQ_if_eq 112 dX3_faultInParts_106 rfl (fun c17268 => ?_) (fun c17268 => ?_)
    · refine WP_aload_n dX3_faultInParts_112 rfl ?_
      refine WP_getr dX3_faultInParts_113 fX3_15 rfl (lyx_is hy 3 3 rfl) (rfx hr 3 2 1 (by decide)) ?_
      refine WP_callV0 (k := 5) dX3_faultInParts_116 ⟨⟨⟨by decide, by decide⟩, zX5_next⟩, lX3_40, by decide, rfl, vX5_next.1, vX5_next.2⟩ (lyx_is hy 1 5 rfl) (sx_nextf hy hr hI17261  ) (Nat.le_of_ble_eq_true rfl) ?_
      intro r I17270 J17271 Ra hq
      obtain ⟨⟨hI17270, ec, fiI17270⟩, rfl⟩ := hq
      rw [ec]
      clear ec Ra
      have e17272 : I17270 (ad g 6) 1 = w17245 := by rw [fz_at fiI17270 6 (by decide) (by decide)]; exact e17264
      have e17273 : I17270 (ad g 6) 2 = w17246 := by rw [fz_at fiI17270 6 (by decide) (by decide)]; exact e17265
      have e17274 : I17270 (ad g 4) 0 = w17268 := by rw [fz_at fiI17270 4 (by decide) (by decide)]; exact ew17268
      have e17275 : I17270 (ad g 1) 1 = L := hI17270.2
      have b17276 := BT_get hI17270.1 1 1 2 (0) (0) (900) (by decide) 1 (by decide) (by decide)
      rw [e17275] at b17276
      refine WP_iinc (ls' := [(0, _), (1, _), (2, _), (3, _), (4, _), (5, _), (6, _), (7, _)]) dX3_faultInParts_119 rfl (by decide) rfl ?_
      have hv17277 : (v17247 + Int32.ofInt (1)).toInt = v17247.toInt + (1) := ia_n rfl (by omega) (by omega)
      generalize v17247 + Int32.ofInt (1) = v17277 at hv17277 ⊢
      refine WP_goto 8 dX3_faultInParts_122 rfl ?_
      refine WP_iload dX3_faultInParts_8 rfl ?_
      refine WP_aload_n dX3_faultInParts_10 rfl ?_
      refine WS_call hz (i := 21) (by omega) dX3_faultInParts_11 ⟨⟨by decide, by decide⟩, zJ0_length_8abf5⟩ lX3_87 vJ0_length_8abf5 (As := []) (rest := [.int v17277]) (j_length hz (i := 21) (by omega)) rfl rfl (Nat.le_of_ble_eq_true rfl) ?_
      intro r Ia Ja Ra hq
      obtain ⟨⟨ea, eb, ec⟩, v17278, rfl, cv17278⟩ := hq
      show WP _ _ _ _ (.int _ :: _) _ _ _ _
      rw [ea, eb, ec]
      clear ea eb ec Ia Ja Ra
      have hv17278 : v17278.toInt = 2 := cv17278.trans rfl
      refine WQ_icmp_ge 125 dX3_faultInParts_14 rfl (fun c17278 => False.elim (by omega)) (fun c17278 => ?_)
      refine WP_iload dX3_faultInParts_17 rfl ?_
      refine WQ_iconst (5) (5) dX3_faultInParts_19 rfl rfl (fun v17280 hv17280 => ?_)
      refine WQ_icmp_ge 125 dX3_faultInParts_20 rfl (fun c17280 => False.elim (by omega)) (fun c17280 => ?_)
      refine WP_aload_n dX3_faultInParts_23 rfl ?_
      refine WP_iload dX3_faultInParts_24 rfl ?_
      refine WS_call hz (i := 21) (by omega) dX3_faultInParts_26 ⟨⟨by decide, by decide⟩, zJ0_charAt_5068e⟩ lX3_92 vJ0_charAt_5068e (As := [.int v17277]) (rest := []) (j_charAt hz (i := 21) (k := v17277) (by omega) (by omega) (by have z9 : ((liN.getD 21 0 : Nat) : Int) = 2 := rfl; omega)) rfl rfl (Nat.le_of_ble_eq_true rfl) ?_
      intro r Ia Ja Ra hq
      obtain ⟨⟨ea, eb, ec⟩, v17282, rfl, cv17282⟩ := hq
      show WP _ _ _ _ (.int _ :: _) _ _ _ _
      rw [ea, eb, ec]
      clear ea eb ec Ia Ja Ra
      have hv17282 : v17282.toInt = 86 := cv17282.trans (by rw [show v17277.toInt.toNat = 1 by omega]; rfl)
      refine WP_istore (ls' := [(0, _), (1, _), (2, _), (3, _), (4, _), (5, _), (6, _), (7, _)]) dX3_faultInParts_29 (by decide) rfl ?_
      refine WP_iload dX3_faultInParts_31 rfl ?_
      refine WQ_bipush (97) (97) dX3_faultInParts_33 rfl rfl (fun v17283 hv17283 => ?_)
      refine WQ_icmp_lt 49 dX3_faultInParts_35 rfl (fun c17283 => ?_) (fun c17283 => False.elim (by omega))
      refine WQ_iconst (0) (0) dX3_faultInParts_49 rfl rfl (fun v17285 hv17285 => ?_)
      refine WP_istore (ls' := [(0, _), (1, _), (2, _), (3, _), (4, _), (5, _), (6, _), (7, _)]) dX3_faultInParts_50 (by decide) rfl ?_
      refine WP_aload_n dX3_faultInParts_52 rfl ?_
      refine WP_getr dX3_faultInParts_53 fX3_15 rfl (lyx_is hy 3 3 rfl) (rfx hr 3 2 1 (by decide)) ?_
      refine WQ_geti dX3_faultInParts_56 fX3_43 rfl (lyx_is hy 1 5 rfl) (BT_get hI17270.1 1 2 3 (0) (0) (4) (by decide) 2 (by decide) (by decide)) (fun v17286 ev17286 av17286 bv17286 => ?_)
      refine WP_iload dX3_faultInParts_59 rfl ?_
      refine WQ_if_eq 68 dX3_faultInParts_61 rfl (fun c17286 => ?_) (fun c17286 => False.elim (by omega))
      refine WQ_iconst (2) (2) dX3_faultInParts_68 rfl rfl (fun v17288 hv17288 => ?_)
      refine WQ_icmp_eq 74 dX3_faultInParts_69 rfl (fun c17288 => ?_) (fun c17288 => ?_)
      · refine WP_iload dX3_faultInParts_74 rfl ?_
        refine WQ_if_eq 92 dX3_faultInParts_76 rfl (fun c17289 => ?_) (fun c17289 => False.elim (by omega))
        refine WP_aload_n dX3_faultInParts_92 rfl ?_
        refine WP_iload dX3_faultInParts_93 rfl ?_
        refine WP_iload_n dX3_faultInParts_95 rfl ?_
        refine WP_iload dX3_faultInParts_96 rfl ?_
        refine WP_aload_n dX3_faultInParts_98 rfl ?_
        refine WP_callV4 (k := 3) dX3_faultInParts_99 ⟨⟨⟨by decide, by decide⟩, zX3_faultOfNumber⟩, lX3_100, by decide, rfl, vX3_faultOfNumber.1, vX3_faultOfNumber.2⟩ (lyx_is hy 3 3 rfl) (sx_part_6_11_1 hy hr hI17270 v17282 cz v17277 (by omega) (by omega) (by omega) (by omega) (by omega) (by omega)) (Nat.le_of_ble_eq_true rfl) ?_
        intro r I17291 J17292 Ra hq
        obtain ⟨⟨hI17291, ec, ⟨pI17291, sI17291_4_0, sI17291_6_1, sI17291_6_2⟩⟩, v17293, rfl, av17293, bv17293, cv17293⟩ := hq
        show WP _ _ _ _ (.int _ :: _) _ _ _ _
        rw [ec]
        clear ec Ra
        have e17294 : I17291 (ad g 4) 0 = w17268 := by rw [sI17291_4_0]; exact e17274
        have e17295 : I17291 (ad g 6) 1 = w17245 := by rw [sI17291_6_1]; exact e17272
        have e17296 : I17291 (ad g 6) 2 = w17246 := by rw [sI17291_6_2]; exact e17273
        have e17297 : I17291 (ad g 1) 1 = L := hI17291.2
        have b17298 := BT_get hI17291.1 1 1 2 (0) (0) (900) (by decide) 1 (by decide) (by decide)
        rw [e17297] at b17298
        obtain ⟨w17299, ew17299⟩ : ∃ w : Int32, I17291 (ad g 4) 1 = w := ⟨_, rfl⟩
        have bw17299 := BT_get hI17291.1 4 0 5 (0) (0) (1000) (by decide) 1 (by decide) (by decide)
        rw [ew17299] at bw17299
        rw [ew17299] at cv17293
        refine WP_istore (ls' := [(0, _), (1, _), (2, _), (3, _), (4, _), (5, _), (6, _), (7, _)]) dX3_faultInParts_102 (by decide) rfl ?_
        refine WP_iload dX3_faultInParts_104 rfl ?_
        refine WQ_if_eq 112 dX3_faultInParts_106 rfl (fun c17299 => ?_) (fun c17299 => ?_)
        · refine WP_aload_n dX3_faultInParts_112 rfl ?_
          refine WP_getr dX3_faultInParts_113 fX3_15 rfl (lyx_is hy 3 3 rfl) (rfx hr 3 2 1 (by decide)) ?_
          refine WP_callV0 (k := 5) dX3_faultInParts_116 ⟨⟨⟨by decide, by decide⟩, zX5_next⟩, lX3_40, by decide, rfl, vX5_next.1, vX5_next.2⟩ (lyx_is hy 1 5 rfl) (sx_nextf hy hr hI17291  ) (Nat.le_of_ble_eq_true rfl) ?_
          intro r I17301 J17302 Ra hq
          obtain ⟨⟨hI17301, ec, fiI17301⟩, rfl⟩ := hq
          rw [ec]
          clear ec Ra
          have e17303 : I17301 (ad g 4) 0 = w17268 := by rw [fz_at fiI17301 4 (by decide) (by decide)]; exact e17294
          have e17304 : I17301 (ad g 6) 1 = w17245 := by rw [fz_at fiI17301 6 (by decide) (by decide)]; exact e17295
          have e17305 : I17301 (ad g 6) 2 = w17246 := by rw [fz_at fiI17301 6 (by decide) (by decide)]; exact e17296
          have e17306 : I17301 (ad g 4) 1 = w17299 := by rw [fz_at fiI17301 4 (by decide) (by decide)]; exact ew17299
          have e17307 : I17301 (ad g 1) 1 = L := hI17301.2
          have b17308 := BT_get hI17301.1 1 1 2 (0) (0) (900) (by decide) 1 (by decide) (by decide)
          rw [e17307] at b17308
          refine WP_iinc (ls' := [(0, _), (1, _), (2, _), (3, _), (4, _), (5, _), (6, _), (7, _)]) dX3_faultInParts_119 rfl (by decide) rfl ?_
          have hv17309 : (v17277 + Int32.ofInt (1)).toInt = v17277.toInt + (1) := ia_n rfl (by omega) (by omega)
          generalize v17277 + Int32.ofInt (1) = v17309 at hv17309 ⊢
          refine WP_goto 8 dX3_faultInParts_122 rfl ?_
          refine WP_iload dX3_faultInParts_8 rfl ?_
          refine WP_aload_n dX3_faultInParts_10 rfl ?_
          refine WS_call hz (i := 21) (by omega) dX3_faultInParts_11 ⟨⟨by decide, by decide⟩, zJ0_length_8abf5⟩ lX3_87 vJ0_length_8abf5 (As := []) (rest := [.int v17309]) (j_length hz (i := 21) (by omega)) rfl rfl (Nat.le_of_ble_eq_true rfl) ?_
          intro r Ia Ja Ra hq
          obtain ⟨⟨ea, eb, ec⟩, v17310, rfl, cv17310⟩ := hq
          show WP _ _ _ _ (.int _ :: _) _ _ _ _
          rw [ea, eb, ec]
          clear ea eb ec Ia Ja Ra
          have hv17310 : v17310.toInt = 2 := cv17310.trans rfl
          refine WQ_icmp_ge 125 dX3_faultInParts_14 rfl (fun c17310 => ?_) (fun c17310 => False.elim (by omega))
          refine WP_aload_n dX3_faultInParts_125 rfl ?_
          refine WP_getr dX3_faultInParts_126 fX3_15 rfl (lyx_is hy 3 3 rfl) (rfx hr 3 2 1 (by decide)) ?_
          refine WQ_geti dX3_faultInParts_129 fX3_43 rfl (lyx_is hy 1 5 rfl) (BT_get hI17301.1 1 2 3 (0) (0) (4) (by decide) 2 (by decide) (by decide)) (fun v17312 ev17312 av17312 bv17312 => ?_)
          refine WQ_iconst (3) (3) dX3_faultInParts_132 rfl rfl (fun v17313 hv17313 => ?_)
          refine WQ_icmp_ne 140 dX3_faultInParts_133 rfl (fun c17313 => ?_) (fun c17313 => ?_)
          · refine WQ_iconst (1) (1) dX3_faultInParts_140 rfl rfl (fun v17315 hv17315 => ?_)
            exact WP_iret dX3_faultInParts_141 rfl ⟨⟨hI17301, rfl, ⟨trivial, (by rw [e17304, ew17245] <;> exact (eq32 _ _).mpr (by omega)), (by rw [e17305, ew17246] <;> exact (eq32 _ _).mpr (by omega))⟩⟩, _, rfl, by omega, by omega, by (try rw [e17303]; try rw [e17306]); omega⟩
          · refine WQ_iconst (0) (0) dX3_faultInParts_136 rfl rfl (fun v17316 hv17316 => ?_)
            refine WP_goto 141 dX3_faultInParts_137 rfl ?_
            exact WP_iret dX3_faultInParts_141 rfl ⟨⟨hI17301, rfl, ⟨trivial, (by rw [e17304, ew17245] <;> exact (eq32 _ _).mpr (by omega)), (by rw [e17305, ew17246] <;> exact (eq32 _ _).mpr (by omega))⟩⟩, _, rfl, by omega, by omega, by (try rw [e17303]; try rw [e17306]); omega⟩
        · refine WP_iload dX3_faultInParts_109 rfl ?_
          exact WP_iret dX3_faultInParts_111 rfl ⟨⟨hI17291, rfl, ⟨trivial, (by rw [e17295, ew17245] <;> exact (eq32 _ _).mpr (by omega)), (by rw [e17296, ew17246] <;> exact (eq32 _ _).mpr (by omega))⟩⟩, _, rfl, by omega, by omega, by (try rw [e17294]; try rw [ew17299]); omega⟩
      · refine WQ_iconst (1) (1) dX3_faultInParts_72 rfl rfl (fun v17317 hv17317 => ?_)
        obtain ⟨w17318, ew17318⟩ : ∃ w : Int32, I17270 (ad g 4) 1 = w := ⟨_, rfl⟩
        have bw17318 := BT_get hI17270.1 4 0 5 (0) (0) (1000) (by decide) 1 (by decide) (by decide)
        rw [ew17318] at bw17318
        exact WP_iret dX3_faultInParts_73 rfl ⟨⟨hI17270, rfl, ⟨trivial, (by rw [e17272, ew17245] <;> exact (eq32 _ _).mpr (by omega)), (by rw [e17273, ew17246] <;> exact (eq32 _ _).mpr (by omega))⟩⟩, _, rfl, by omega, by omega, by (try rw [e17274]; try rw [ew17318]); omega⟩
    · refine WP_iload dX3_faultInParts_109 rfl ?_
      obtain ⟨w17319, ew17319⟩ : ∃ w : Int32, I17261 (ad g 4) 1 = w := ⟨_, rfl⟩
      have bw17319 := BT_get hI17261.1 4 0 5 (0) (0) (1000) (by decide) 1 (by decide) (by decide)
      rw [ew17319] at bw17319
      exact WP_iret dX3_faultInParts_111 rfl ⟨⟨hI17261, rfl, ⟨trivial, (by rw [e17264, ew17245] <;> exact (eq32 _ _).mpr (by omega)), (by rw [e17265, ew17246] <;> exact (eq32 _ _).mpr (by omega))⟩⟩, _, rfl, by omega, by omega, by (try rw [ew17268]; try rw [ew17319]); omega⟩
  · refine WQ_iconst (1) (1) dX3_faultInParts_72 rfl rfl (fun v17320 hv17320 => ?_)
    obtain ⟨w17321, ew17321⟩ : ∃ w : Int32, I (ad g 4) 0 = w := ⟨_, rfl⟩
    have bw17321 := BT_get hI.1 4 0 5 (0) (0) (1000) (by decide) 0 (by decide) (by decide)
    rw [ew17321] at bw17321
    obtain ⟨w17322, ew17322⟩ : ∃ w : Int32, I (ad g 4) 1 = w := ⟨_, rfl⟩
    have bw17322 := BT_get hI.1 4 0 5 (0) (0) (1000) (by decide) 1 (by decide) (by decide)
    rw [ew17322] at bw17322
    exact WP_iret dX3_faultInParts_73 rfl ⟨⟨hI, rfl, ⟨trivial, rfl, rfl⟩⟩, _, rfl, by omega, by omega, by (try rw [ew17321]; try rw [ew17322]); omega⟩
set_option maxHeartbeats 4000000 in
set_option maxRecDepth 100000 in
theorem sx_faultAhead_27_0 {g : GG} {n : Int} {L : Int32} (hy : LyX g)  {I : pI} {J : pJ} {R : pR} (hr : RfX g R) (hI : XI g n L I) (cz : Int32) (cz_lo : 0 ≤ cz.toInt) (cz_hi : cz.toInt ≤ 0) : SP g mX7_faultAhead [.ref (ad g 27), .int cz] I J R (fun r I' J' R' => (I' = I ∧ J' = J ∧ R' = R) ∧ ∃ v : Int32, r = some (.int v) ∧ 0 ≤ v.toInt ∧ v.toInt ≤ 4) := by
  refine SP_of ⟨by decide, rfl⟩ (Nat.le_of_ble_eq_true rfl) ?_
  have e17323 : I (ad g 1) 1 = L := hI.2
  have b17324 := BT_get hI.1 1 1 2 (0) (0) (900) (by decide) 1 (by decide) (by decide)
  rw [e17323] at b17324
  refine WP_iload_n dX7_faultAhead_0 rfl ?_
  refine WQ_iconst (1) (1) dX7_faultAhead_1 rfl rfl (fun v17325 hv17325 => ?_)
  refine WQ_icmp_ne 13 dX7_faultAhead_2 rfl (fun c17325 => ?_) (fun c17325 => False.elim (by omega))
  refine WP_iload_n dX7_faultAhead_13 rfl ?_
  refine WQ_iconst (2) (2) dX7_faultAhead_14 rfl rfl (fun v17327 hv17327 => ?_)
  refine WQ_icmp_ne 28 dX7_faultAhead_15 rfl (fun c17327 => ?_) (fun c17327 => False.elim (by omega))
  refine WP_iload_n dX7_faultAhead_28 rfl ?_
  refine WQ_bipush (8) (8) dX7_faultAhead_29 rfl rfl (fun v17329 hv17329 => ?_)
  have jn55_17333 : ∀ (v17333 : Int32), 0 ≤ v17333.toInt → v17333.toInt ≤ 0 → WP g mX7_faultAhead 55 [(0, .ref (ad g 27)), (1, .int cz)] [.int v17333] I J R (fun r I' J' R' => (I' = I ∧ J' = J ∧ R' = R) ∧ ∃ v : Int32, r = some (.int v) ∧ 0 ≤ v.toInt ∧ v.toInt ≤ 4) := by
    intro v17333 av17333 bv17333
    exact WP_iret dX7_faultAhead_55 rfl ⟨⟨rfl, rfl, rfl⟩, _, rfl, by omega, by omega⟩
  refine WQ_icmp_eq 40 dX7_faultAhead_31 rfl (fun c17334 => False.elim (by omega)) (fun c17334 => ?_)
  refine WP_iload_n dX7_faultAhead_34 rfl ?_
  refine WQ_bipush (9) (9) dX7_faultAhead_35 rfl rfl (fun v17336 hv17336 => ?_)
  refine WQ_icmp_ne 54 dX7_faultAhead_37 rfl (fun c17336 => ?_) (fun c17336 => False.elim (by omega))
  refine WQ_iconst (0) (0) dX7_faultAhead_54 rfl rfl (fun v17338 hv17338 => ?_)
  exact WP_sub (fc rfl (fc rfl fn)) (jn55_17333 v17338 (by omega) (by omega))
set_option maxHeartbeats 4000000 in
set_option maxRecDepth 100000 in
theorem sx_faultAhead_27_1 {g : GG} {n : Int} {L : Int32} (hy : LyX g)  {I : pI} {J : pJ} {R : pR} (hr : RfX g R) (hI : XI g n L I) (cz : Int32) (cz_lo : 1 ≤ cz.toInt) (cz_hi : cz.toInt ≤ 1) : SP g mX7_faultAhead [.ref (ad g 27), .int cz] I J R (fun r I' J' R' => (I' = I ∧ J' = J ∧ R' = R) ∧ ∃ v : Int32, r = some (.int v) ∧ 0 ≤ v.toInt ∧ v.toInt ≤ 4 ∧ (v.toInt = 0 → (I (ad g 27) 1).toInt ≤ 3)) := by
  refine SP_of ⟨by decide, rfl⟩ (Nat.le_of_ble_eq_true rfl) ?_
  have e17339 : I (ad g 1) 1 = L := hI.2
  have b17340 := BT_get hI.1 1 1 2 (0) (0) (900) (by decide) 1 (by decide) (by decide)
  rw [e17339] at b17340
  refine WP_iload_n dX7_faultAhead_0 rfl ?_
  refine WQ_iconst (1) (1) dX7_faultAhead_1 rfl rfl (fun v17341 hv17341 => ?_)
  refine WQ_icmp_ne 13 dX7_faultAhead_2 rfl (fun c17341 => False.elim (by omega)) (fun c17341 => ?_)
  refine WP_aload_n dX7_faultAhead_5 rfl ?_
  refine WQ_geti dX7_faultAhead_6 fX7_65 rfl (lyx_is hy 27 7 rfl) (BT_get hI.1 27 1 2 (0) (0) (4) (by decide) 1 (by decide) (by decide)) (fun v17343 ev17343 av17343 bv17343 => ?_)
  refine WQ_iconst (4) (4) dX7_faultAhead_9 rfl rfl (fun v17344 hv17344 => ?_)
  refine WQ_icmp_eq 26 dX7_faultAhead_10 rfl (fun c17344 => ?_) (fun c17344 => ?_)
  · refine WQ_iconst (4) (4) dX7_faultAhead_26 rfl rfl (fun v17346 hv17346 => ?_)
    exact WP_iret dX7_faultAhead_27 rfl ⟨⟨rfl, rfl, rfl⟩, _, rfl, by omega, by omega, by (try rw [ev17343]); omega⟩
  · refine WP_iload_n dX7_faultAhead_13 rfl ?_
    refine WQ_iconst (2) (2) dX7_faultAhead_14 rfl rfl (fun v17347 hv17347 => ?_)
    refine WQ_icmp_ne 28 dX7_faultAhead_15 rfl (fun c17347 => ?_) (fun c17347 => False.elim (by omega))
    refine WP_iload_n dX7_faultAhead_28 rfl ?_
    refine WQ_bipush (8) (8) dX7_faultAhead_29 rfl rfl (fun v17349 hv17349 => ?_)
    refine WQ_icmp_eq 40 dX7_faultAhead_31 rfl (fun c17349 => False.elim (by omega)) (fun c17349 => ?_)
    refine WP_iload_n dX7_faultAhead_34 rfl ?_
    refine WQ_bipush (9) (9) dX7_faultAhead_35 rfl rfl (fun v17351 hv17351 => ?_)
    refine WQ_icmp_ne 54 dX7_faultAhead_37 rfl (fun c17351 => ?_) (fun c17351 => False.elim (by omega))
    refine WQ_iconst (0) (0) dX7_faultAhead_54 rfl rfl (fun v17353 hv17353 => ?_)
    exact WP_iret dX7_faultAhead_55 rfl ⟨⟨rfl, rfl, rfl⟩, _, rfl, by omega, by omega, by (try rw [ev17343]); omega⟩
set_option maxHeartbeats 4000000 in
set_option maxRecDepth 100000 in
theorem sx_faultAhead_27_2 {g : GG} {n : Int} {L : Int32} (hy : LyX g)  {I : pI} {J : pJ} {R : pR} (hr : RfX g R) (hI : XI g n L I) (cz : Int32) (cz_lo : 2 ≤ cz.toInt) (cz_hi : cz.toInt ≤ 2) : SP g mX7_faultAhead [.ref (ad g 27), .int cz] I J R (fun r I' J' R' => (I' = I ∧ J' = J ∧ R' = R) ∧ ∃ v : Int32, r = some (.int v) ∧ 0 ≤ v.toInt ∧ v.toInt ≤ 4 ∧ (v.toInt = 0 → (I (ad g 27) 2).toInt ≤ 2)) := by
  refine SP_of ⟨by decide, rfl⟩ (Nat.le_of_ble_eq_true rfl) ?_
  have e17354 : I (ad g 1) 1 = L := hI.2
  have b17355 := BT_get hI.1 1 1 2 (0) (0) (900) (by decide) 1 (by decide) (by decide)
  rw [e17354] at b17355
  refine WP_iload_n dX7_faultAhead_0 rfl ?_
  refine WQ_iconst (1) (1) dX7_faultAhead_1 rfl rfl (fun v17356 hv17356 => ?_)
  refine WQ_icmp_ne 13 dX7_faultAhead_2 rfl (fun c17356 => ?_) (fun c17356 => False.elim (by omega))
  refine WP_iload_n dX7_faultAhead_13 rfl ?_
  refine WQ_iconst (2) (2) dX7_faultAhead_14 rfl rfl (fun v17358 hv17358 => ?_)
  refine WQ_icmp_ne 28 dX7_faultAhead_15 rfl (fun c17358 => False.elim (by omega)) (fun c17358 => ?_)
  refine WP_aload_n dX7_faultAhead_18 rfl ?_
  refine WQ_geti dX7_faultAhead_19 fX7_68 rfl (lyx_is hy 27 7 rfl) (BT_get hI.1 27 2 3 (0) (0) (3) (by decide) 2 (by decide) (by decide)) (fun v17360 ev17360 av17360 bv17360 => ?_)
  refine WQ_iconst (3) (3) dX7_faultAhead_22 rfl rfl (fun v17361 hv17361 => ?_)
  refine WQ_icmp_ne 28 dX7_faultAhead_23 rfl (fun c17361 => ?_) (fun c17361 => ?_)
  · refine WP_iload_n dX7_faultAhead_28 rfl ?_
    refine WQ_bipush (8) (8) dX7_faultAhead_29 rfl rfl (fun v17363 hv17363 => ?_)
    refine WQ_icmp_eq 40 dX7_faultAhead_31 rfl (fun c17363 => False.elim (by omega)) (fun c17363 => ?_)
    refine WP_iload_n dX7_faultAhead_34 rfl ?_
    refine WQ_bipush (9) (9) dX7_faultAhead_35 rfl rfl (fun v17365 hv17365 => ?_)
    refine WQ_icmp_ne 54 dX7_faultAhead_37 rfl (fun c17365 => ?_) (fun c17365 => False.elim (by omega))
    refine WQ_iconst (0) (0) dX7_faultAhead_54 rfl rfl (fun v17367 hv17367 => ?_)
    exact WP_iret dX7_faultAhead_55 rfl ⟨⟨rfl, rfl, rfl⟩, _, rfl, by omega, by omega, by (try rw [ev17360]); omega⟩
  · refine WQ_iconst (4) (4) dX7_faultAhead_26 rfl rfl (fun v17368 hv17368 => ?_)
    exact WP_iret dX7_faultAhead_27 rfl ⟨⟨rfl, rfl, rfl⟩, _, rfl, by omega, by omega, by (try rw [ev17360]); omega⟩
set_option maxHeartbeats 4000000 in
set_option maxRecDepth 100000 in
theorem sx_faultAhead_27_3 {g : GG} {n : Int} {L : Int32} (hy : LyX g)  {I : pI} {J : pJ} {R : pR} (hr : RfX g R) (hI : XI g n L I) (cz : Int32) (cz_lo : 3 ≤ cz.toInt) (cz_hi : cz.toInt ≤ 3) : SP g mX7_faultAhead [.ref (ad g 27), .int cz] I J R (fun r I' J' R' => (I' = I ∧ J' = J ∧ R' = R) ∧ ∃ v : Int32, r = some (.int v) ∧ 0 ≤ v.toInt ∧ v.toInt ≤ 4) := by
  refine SP_of ⟨by decide, rfl⟩ (Nat.le_of_ble_eq_true rfl) ?_
  have e17369 : I (ad g 1) 1 = L := hI.2
  have b17370 := BT_get hI.1 1 1 2 (0) (0) (900) (by decide) 1 (by decide) (by decide)
  rw [e17369] at b17370
  refine WP_iload_n dX7_faultAhead_0 rfl ?_
  refine WQ_iconst (1) (1) dX7_faultAhead_1 rfl rfl (fun v17371 hv17371 => ?_)
  refine WQ_icmp_ne 13 dX7_faultAhead_2 rfl (fun c17371 => ?_) (fun c17371 => False.elim (by omega))
  refine WP_iload_n dX7_faultAhead_13 rfl ?_
  refine WQ_iconst (2) (2) dX7_faultAhead_14 rfl rfl (fun v17373 hv17373 => ?_)
  refine WQ_icmp_ne 28 dX7_faultAhead_15 rfl (fun c17373 => ?_) (fun c17373 => False.elim (by omega))
  refine WP_iload_n dX7_faultAhead_28 rfl ?_
  refine WQ_bipush (8) (8) dX7_faultAhead_29 rfl rfl (fun v17375 hv17375 => ?_)
  have jn55_17379 : ∀ (v17379 : Int32), 0 ≤ v17379.toInt → v17379.toInt ≤ 0 → WP g mX7_faultAhead 55 [(0, .ref (ad g 27)), (1, .int cz)] [.int v17379] I J R (fun r I' J' R' => (I' = I ∧ J' = J ∧ R' = R) ∧ ∃ v : Int32, r = some (.int v) ∧ 0 ≤ v.toInt ∧ v.toInt ≤ 4) := by
    intro v17379 av17379 bv17379
    exact WP_iret dX7_faultAhead_55 rfl ⟨⟨rfl, rfl, rfl⟩, _, rfl, by omega, by omega⟩
  refine WQ_icmp_eq 40 dX7_faultAhead_31 rfl (fun c17380 => False.elim (by omega)) (fun c17380 => ?_)
  refine WP_iload_n dX7_faultAhead_34 rfl ?_
  refine WQ_bipush (9) (9) dX7_faultAhead_35 rfl rfl (fun v17382 hv17382 => ?_)
  refine WQ_icmp_ne 54 dX7_faultAhead_37 rfl (fun c17382 => ?_) (fun c17382 => False.elim (by omega))
  refine WQ_iconst (0) (0) dX7_faultAhead_54 rfl rfl (fun v17384 hv17384 => ?_)
  exact WP_sub (fc rfl (fc rfl fn)) (jn55_17379 v17384 (by omega) (by omega))
set_option maxHeartbeats 4000000 in
set_option maxRecDepth 100000 in
theorem sx_faultAhead_27_4 {g : GG} {n : Int} {L : Int32} (hy : LyX g)  {I : pI} {J : pJ} {R : pR} (hr : RfX g R) (hI : XI g n L I) (cz : Int32) (cz_lo : 4 ≤ cz.toInt) (cz_hi : cz.toInt ≤ 4) : SP g mX7_faultAhead [.ref (ad g 27), .int cz] I J R (fun r I' J' R' => (I' = I ∧ J' = J ∧ R' = R) ∧ ∃ v : Int32, r = some (.int v) ∧ 0 ≤ v.toInt ∧ v.toInt ≤ 4) := by
  refine SP_of ⟨by decide, rfl⟩ (Nat.le_of_ble_eq_true rfl) ?_
  have e17385 : I (ad g 1) 1 = L := hI.2
  have b17386 := BT_get hI.1 1 1 2 (0) (0) (900) (by decide) 1 (by decide) (by decide)
  rw [e17385] at b17386
  refine WP_iload_n dX7_faultAhead_0 rfl ?_
  refine WQ_iconst (1) (1) dX7_faultAhead_1 rfl rfl (fun v17387 hv17387 => ?_)
  refine WQ_icmp_ne 13 dX7_faultAhead_2 rfl (fun c17387 => ?_) (fun c17387 => False.elim (by omega))
  refine WP_iload_n dX7_faultAhead_13 rfl ?_
  refine WQ_iconst (2) (2) dX7_faultAhead_14 rfl rfl (fun v17389 hv17389 => ?_)
  refine WQ_icmp_ne 28 dX7_faultAhead_15 rfl (fun c17389 => ?_) (fun c17389 => False.elim (by omega))
  refine WP_iload_n dX7_faultAhead_28 rfl ?_
  refine WQ_bipush (8) (8) dX7_faultAhead_29 rfl rfl (fun v17391 hv17391 => ?_)
  have jn55_17395 : ∀ (v17395 : Int32), 0 ≤ v17395.toInt → v17395.toInt ≤ 0 → WP g mX7_faultAhead 55 [(0, .ref (ad g 27)), (1, .int cz)] [.int v17395] I J R (fun r I' J' R' => (I' = I ∧ J' = J ∧ R' = R) ∧ ∃ v : Int32, r = some (.int v) ∧ 0 ≤ v.toInt ∧ v.toInt ≤ 4) := by
    intro v17395 av17395 bv17395
    exact WP_iret dX7_faultAhead_55 rfl ⟨⟨rfl, rfl, rfl⟩, _, rfl, by omega, by omega⟩
  refine WQ_icmp_eq 40 dX7_faultAhead_31 rfl (fun c17396 => False.elim (by omega)) (fun c17396 => ?_)
  refine WP_iload_n dX7_faultAhead_34 rfl ?_
  refine WQ_bipush (9) (9) dX7_faultAhead_35 rfl rfl (fun v17398 hv17398 => ?_)
  refine WQ_icmp_ne 54 dX7_faultAhead_37 rfl (fun c17398 => ?_) (fun c17398 => False.elim (by omega))
  refine WQ_iconst (0) (0) dX7_faultAhead_54 rfl rfl (fun v17400 hv17400 => ?_)
  exact WP_sub (fc rfl (fc rfl fn)) (jn55_17395 v17400 (by omega) (by omega))
set_option maxHeartbeats 4000000 in
set_option maxRecDepth 100000 in
theorem sx_faultAhead_27_5 {g : GG} {n : Int} {L : Int32} (hy : LyX g)  {I : pI} {J : pJ} {R : pR} (hr : RfX g R) (hI : XI g n L I) (cz : Int32) (cz_lo : 5 ≤ cz.toInt) (cz_hi : cz.toInt ≤ 5) : SP g mX7_faultAhead [.ref (ad g 27), .int cz] I J R (fun r I' J' R' => (I' = I ∧ J' = J ∧ R' = R) ∧ ∃ v : Int32, r = some (.int v) ∧ 0 ≤ v.toInt ∧ v.toInt ≤ 4) := by
  refine SP_of ⟨by decide, rfl⟩ (Nat.le_of_ble_eq_true rfl) ?_
  have e17401 : I (ad g 1) 1 = L := hI.2
  have b17402 := BT_get hI.1 1 1 2 (0) (0) (900) (by decide) 1 (by decide) (by decide)
  rw [e17401] at b17402
  refine WP_iload_n dX7_faultAhead_0 rfl ?_
  refine WQ_iconst (1) (1) dX7_faultAhead_1 rfl rfl (fun v17403 hv17403 => ?_)
  refine WQ_icmp_ne 13 dX7_faultAhead_2 rfl (fun c17403 => ?_) (fun c17403 => False.elim (by omega))
  refine WP_iload_n dX7_faultAhead_13 rfl ?_
  refine WQ_iconst (2) (2) dX7_faultAhead_14 rfl rfl (fun v17405 hv17405 => ?_)
  refine WQ_icmp_ne 28 dX7_faultAhead_15 rfl (fun c17405 => ?_) (fun c17405 => False.elim (by omega))
  refine WP_iload_n dX7_faultAhead_28 rfl ?_
  refine WQ_bipush (8) (8) dX7_faultAhead_29 rfl rfl (fun v17407 hv17407 => ?_)
  have jn55_17411 : ∀ (v17411 : Int32), 0 ≤ v17411.toInt → v17411.toInt ≤ 0 → WP g mX7_faultAhead 55 [(0, .ref (ad g 27)), (1, .int cz)] [.int v17411] I J R (fun r I' J' R' => (I' = I ∧ J' = J ∧ R' = R) ∧ ∃ v : Int32, r = some (.int v) ∧ 0 ≤ v.toInt ∧ v.toInt ≤ 4) := by
    intro v17411 av17411 bv17411
    exact WP_iret dX7_faultAhead_55 rfl ⟨⟨rfl, rfl, rfl⟩, _, rfl, by omega, by omega⟩
  refine WQ_icmp_eq 40 dX7_faultAhead_31 rfl (fun c17412 => False.elim (by omega)) (fun c17412 => ?_)
  refine WP_iload_n dX7_faultAhead_34 rfl ?_
  refine WQ_bipush (9) (9) dX7_faultAhead_35 rfl rfl (fun v17414 hv17414 => ?_)
  refine WQ_icmp_ne 54 dX7_faultAhead_37 rfl (fun c17414 => ?_) (fun c17414 => False.elim (by omega))
  refine WQ_iconst (0) (0) dX7_faultAhead_54 rfl rfl (fun v17416 hv17416 => ?_)
  exact WP_sub (fc rfl (fc rfl fn)) (jn55_17411 v17416 (by omega) (by omega))
set_option maxHeartbeats 4000000 in
set_option maxRecDepth 100000 in
theorem sx_faultAhead_27_6 {g : GG} {n : Int} {L : Int32} (hy : LyX g)  {I : pI} {J : pJ} {R : pR} (hr : RfX g R) (hI : XI g n L I) (cz : Int32) (cz_lo : 6 ≤ cz.toInt) (cz_hi : cz.toInt ≤ 6) : SP g mX7_faultAhead [.ref (ad g 27), .int cz] I J R (fun r I' J' R' => (I' = I ∧ J' = J ∧ R' = R) ∧ ∃ v : Int32, r = some (.int v) ∧ 0 ≤ v.toInt ∧ v.toInt ≤ 4) := by
  refine SP_of ⟨by decide, rfl⟩ (Nat.le_of_ble_eq_true rfl) ?_
  have e17417 : I (ad g 1) 1 = L := hI.2
  have b17418 := BT_get hI.1 1 1 2 (0) (0) (900) (by decide) 1 (by decide) (by decide)
  rw [e17417] at b17418
  refine WP_iload_n dX7_faultAhead_0 rfl ?_
  refine WQ_iconst (1) (1) dX7_faultAhead_1 rfl rfl (fun v17419 hv17419 => ?_)
  refine WQ_icmp_ne 13 dX7_faultAhead_2 rfl (fun c17419 => ?_) (fun c17419 => False.elim (by omega))
  refine WP_iload_n dX7_faultAhead_13 rfl ?_
  refine WQ_iconst (2) (2) dX7_faultAhead_14 rfl rfl (fun v17421 hv17421 => ?_)
  refine WQ_icmp_ne 28 dX7_faultAhead_15 rfl (fun c17421 => ?_) (fun c17421 => False.elim (by omega))
  refine WP_iload_n dX7_faultAhead_28 rfl ?_
  refine WQ_bipush (8) (8) dX7_faultAhead_29 rfl rfl (fun v17423 hv17423 => ?_)
  have jn55_17427 : ∀ (v17427 : Int32), 0 ≤ v17427.toInt → v17427.toInt ≤ 0 → WP g mX7_faultAhead 55 [(0, .ref (ad g 27)), (1, .int cz)] [.int v17427] I J R (fun r I' J' R' => (I' = I ∧ J' = J ∧ R' = R) ∧ ∃ v : Int32, r = some (.int v) ∧ 0 ≤ v.toInt ∧ v.toInt ≤ 4) := by
    intro v17427 av17427 bv17427
    exact WP_iret dX7_faultAhead_55 rfl ⟨⟨rfl, rfl, rfl⟩, _, rfl, by omega, by omega⟩
  refine WQ_icmp_eq 40 dX7_faultAhead_31 rfl (fun c17428 => False.elim (by omega)) (fun c17428 => ?_)
  refine WP_iload_n dX7_faultAhead_34 rfl ?_
  refine WQ_bipush (9) (9) dX7_faultAhead_35 rfl rfl (fun v17430 hv17430 => ?_)
  refine WQ_icmp_ne 54 dX7_faultAhead_37 rfl (fun c17430 => ?_) (fun c17430 => False.elim (by omega))
  refine WQ_iconst (0) (0) dX7_faultAhead_54 rfl rfl (fun v17432 hv17432 => ?_)
  exact WP_sub (fc rfl (fc rfl fn)) (jn55_17427 v17432 (by omega) (by omega))
set_option maxHeartbeats 4000000 in
set_option maxRecDepth 100000 in
theorem sx_faultAhead_27_7 {g : GG} {n : Int} {L : Int32} (hy : LyX g)  {I : pI} {J : pJ} {R : pR} (hr : RfX g R) (hI : XI g n L I) (cz : Int32) (cz_lo : 7 ≤ cz.toInt) (cz_hi : cz.toInt ≤ 7) : SP g mX7_faultAhead [.ref (ad g 27), .int cz] I J R (fun r I' J' R' => (I' = I ∧ J' = J ∧ R' = R) ∧ ∃ v : Int32, r = some (.int v) ∧ 0 ≤ v.toInt ∧ v.toInt ≤ 4) := by
  refine SP_of ⟨by decide, rfl⟩ (Nat.le_of_ble_eq_true rfl) ?_
  have e17433 : I (ad g 1) 1 = L := hI.2
  have b17434 := BT_get hI.1 1 1 2 (0) (0) (900) (by decide) 1 (by decide) (by decide)
  rw [e17433] at b17434
  refine WP_iload_n dX7_faultAhead_0 rfl ?_
  refine WQ_iconst (1) (1) dX7_faultAhead_1 rfl rfl (fun v17435 hv17435 => ?_)
  refine WQ_icmp_ne 13 dX7_faultAhead_2 rfl (fun c17435 => ?_) (fun c17435 => False.elim (by omega))
  refine WP_iload_n dX7_faultAhead_13 rfl ?_
  refine WQ_iconst (2) (2) dX7_faultAhead_14 rfl rfl (fun v17437 hv17437 => ?_)
  refine WQ_icmp_ne 28 dX7_faultAhead_15 rfl (fun c17437 => ?_) (fun c17437 => False.elim (by omega))
  refine WP_iload_n dX7_faultAhead_28 rfl ?_
  refine WQ_bipush (8) (8) dX7_faultAhead_29 rfl rfl (fun v17439 hv17439 => ?_)
  have jn55_17443 : ∀ (v17443 : Int32), 0 ≤ v17443.toInt → v17443.toInt ≤ 0 → WP g mX7_faultAhead 55 [(0, .ref (ad g 27)), (1, .int cz)] [.int v17443] I J R (fun r I' J' R' => (I' = I ∧ J' = J ∧ R' = R) ∧ ∃ v : Int32, r = some (.int v) ∧ 0 ≤ v.toInt ∧ v.toInt ≤ 4) := by
    intro v17443 av17443 bv17443
    exact WP_iret dX7_faultAhead_55 rfl ⟨⟨rfl, rfl, rfl⟩, _, rfl, by omega, by omega⟩
  refine WQ_icmp_eq 40 dX7_faultAhead_31 rfl (fun c17444 => False.elim (by omega)) (fun c17444 => ?_)
  refine WP_iload_n dX7_faultAhead_34 rfl ?_
  refine WQ_bipush (9) (9) dX7_faultAhead_35 rfl rfl (fun v17446 hv17446 => ?_)
  refine WQ_icmp_ne 54 dX7_faultAhead_37 rfl (fun c17446 => ?_) (fun c17446 => False.elim (by omega))
  refine WQ_iconst (0) (0) dX7_faultAhead_54 rfl rfl (fun v17448 hv17448 => ?_)
  exact WP_sub (fc rfl (fc rfl fn)) (jn55_17443 v17448 (by omega) (by omega))
set_option maxHeartbeats 4000000 in
set_option maxRecDepth 100000 in
theorem sx_faultAhead_27_8 {g : GG} {n : Int} {L : Int32} (hy : LyX g)  {I : pI} {J : pJ} {R : pR} (hr : RfX g R) (hI : XI g n L I) (cz : Int32) (cz_lo : 8 ≤ cz.toInt) (cz_hi : cz.toInt ≤ 8) : SP g mX7_faultAhead [.ref (ad g 27), .int cz] I J R (fun r I' J' R' => (I' = I ∧ J' = J ∧ R' = R) ∧ ∃ v : Int32, r = some (.int v) ∧ 0 ≤ v.toInt ∧ v.toInt ≤ 4) := by
  refine SP_of ⟨by decide, rfl⟩ (Nat.le_of_ble_eq_true rfl) ?_
  have e17449 : I (ad g 1) 1 = L := hI.2
  have b17450 := BT_get hI.1 1 1 2 (0) (0) (900) (by decide) 1 (by decide) (by decide)
  rw [e17449] at b17450
  refine WP_iload_n dX7_faultAhead_0 rfl ?_
  refine WQ_iconst (1) (1) dX7_faultAhead_1 rfl rfl (fun v17451 hv17451 => ?_)
  refine WQ_icmp_ne 13 dX7_faultAhead_2 rfl (fun c17451 => ?_) (fun c17451 => False.elim (by omega))
  refine WP_iload_n dX7_faultAhead_13 rfl ?_
  refine WQ_iconst (2) (2) dX7_faultAhead_14 rfl rfl (fun v17453 hv17453 => ?_)
  refine WQ_icmp_ne 28 dX7_faultAhead_15 rfl (fun c17453 => ?_) (fun c17453 => False.elim (by omega))
  refine WP_iload_n dX7_faultAhead_28 rfl ?_
  refine WQ_bipush (8) (8) dX7_faultAhead_29 rfl rfl (fun v17455 hv17455 => ?_)
  have jn55_17462 : ∀ (v17462 : Int32), 0 ≤ v17462.toInt → v17462.toInt ≤ 3 → WP g mX7_faultAhead 55 [(0, .ref (ad g 27)), (1, .int cz)] [.int v17462] I J R (fun r I' J' R' => (I' = I ∧ J' = J ∧ R' = R) ∧ ∃ v : Int32, r = some (.int v) ∧ 0 ≤ v.toInt ∧ v.toInt ≤ 4) := by
    intro v17462 av17462 bv17462
    exact WP_iret dX7_faultAhead_55 rfl ⟨⟨rfl, rfl, rfl⟩, _, rfl, by omega, by omega⟩
  refine WQ_icmp_eq 40 dX7_faultAhead_31 rfl (fun c17463 => ?_) (fun c17463 => False.elim (by omega))
  refine WP_aload_n dX7_faultAhead_40 rfl ?_
  refine WP_iload_n dX7_faultAhead_41 rfl ?_
  refine WQ_iconst (0) (0) dX7_faultAhead_42 rfl rfl (fun v17465 hv17465 => ?_)
  refine WQ_iconst (0) (0) dX7_faultAhead_43 rfl rfl (fun v17466 hv17466 => ?_)
  refine WP_callV3 (k := 7) dX7_faultAhead_44 ⟨⟨⟨by decide, by decide⟩, zX7_isTold⟩, lX7_87, by decide, rfl, vX7_isTold.1, vX7_isTold.2⟩ (lyx_is hy 27 7 rfl) (sx_isTold_27 hy hr hI cz v17465 v17466 (by omega) (by omega) (by omega) (by omega) ) (Nat.le_of_ble_eq_true rfl) ?_
  intro r Ia Ja Ra hq
  obtain ⟨⟨ea, eb, ec⟩, v17467, rfl, av17467, bv17467⟩ := hq
  show WP _ _ _ _ (.int _ :: _) _ _ _ _
  rw [ea, eb, ec]
  clear ea eb ec Ia Ja Ra
  refine WQ_if_eq 54 dX7_faultAhead_47 rfl (fun c17467 => ?_) (fun c17467 => ?_)
  · refine WQ_iconst (0) (0) dX7_faultAhead_54 rfl rfl (fun v17469 hv17469 => ?_)
    exact WP_sub (fc rfl (fc rfl fn)) (jn55_17462 v17469 (by omega) (by omega))
  · refine WQ_iconst (3) (3) dX7_faultAhead_50 rfl rfl (fun v17470 hv17470 => ?_)
    refine WP_goto 55 dX7_faultAhead_51 rfl ?_
    exact WP_sub (fc rfl (fc rfl fn)) (jn55_17462 v17470 (by omega) (by omega))
set_option maxHeartbeats 4000000 in
set_option maxRecDepth 100000 in
theorem sx_faultAhead_27_9 {g : GG} {n : Int} {L : Int32} (hy : LyX g)  {I : pI} {J : pJ} {R : pR} (hr : RfX g R) (hI : XI g n L I) (cz : Int32) (cz_lo : 9 ≤ cz.toInt) (cz_hi : cz.toInt ≤ 9) : SP g mX7_faultAhead [.ref (ad g 27), .int cz] I J R (fun r I' J' R' => (I' = I ∧ J' = J ∧ R' = R) ∧ ∃ v : Int32, r = some (.int v) ∧ 0 ≤ v.toInt ∧ v.toInt ≤ 4) := by
  refine SP_of ⟨by decide, rfl⟩ (Nat.le_of_ble_eq_true rfl) ?_
  have e17471 : I (ad g 1) 1 = L := hI.2
  have b17472 := BT_get hI.1 1 1 2 (0) (0) (900) (by decide) 1 (by decide) (by decide)
  rw [e17471] at b17472
  refine WP_iload_n dX7_faultAhead_0 rfl ?_
  refine WQ_iconst (1) (1) dX7_faultAhead_1 rfl rfl (fun v17473 hv17473 => ?_)
  refine WQ_icmp_ne 13 dX7_faultAhead_2 rfl (fun c17473 => ?_) (fun c17473 => False.elim (by omega))
  refine WP_iload_n dX7_faultAhead_13 rfl ?_
  refine WQ_iconst (2) (2) dX7_faultAhead_14 rfl rfl (fun v17475 hv17475 => ?_)
  refine WQ_icmp_ne 28 dX7_faultAhead_15 rfl (fun c17475 => ?_) (fun c17475 => False.elim (by omega))
  refine WP_iload_n dX7_faultAhead_28 rfl ?_
  refine WQ_bipush (8) (8) dX7_faultAhead_29 rfl rfl (fun v17477 hv17477 => ?_)
  have jn55_17486 : ∀ (v17486 : Int32), 0 ≤ v17486.toInt → v17486.toInt ≤ 3 → WP g mX7_faultAhead 55 [(0, .ref (ad g 27)), (1, .int cz)] [.int v17486] I J R (fun r I' J' R' => (I' = I ∧ J' = J ∧ R' = R) ∧ ∃ v : Int32, r = some (.int v) ∧ 0 ≤ v.toInt ∧ v.toInt ≤ 4) := by
    intro v17486 av17486 bv17486
    exact WP_iret dX7_faultAhead_55 rfl ⟨⟨rfl, rfl, rfl⟩, _, rfl, by omega, by omega⟩
  refine WQ_icmp_eq 40 dX7_faultAhead_31 rfl (fun c17487 => False.elim (by omega)) (fun c17487 => ?_)
  refine WP_iload_n dX7_faultAhead_34 rfl ?_
  refine WQ_bipush (9) (9) dX7_faultAhead_35 rfl rfl (fun v17489 hv17489 => ?_)
  refine WQ_icmp_ne 54 dX7_faultAhead_37 rfl (fun c17489 => False.elim (by omega)) (fun c17489 => ?_)
  refine WP_aload_n dX7_faultAhead_40 rfl ?_
  refine WP_iload_n dX7_faultAhead_41 rfl ?_
  refine WQ_iconst (0) (0) dX7_faultAhead_42 rfl rfl (fun v17491 hv17491 => ?_)
  refine WQ_iconst (0) (0) dX7_faultAhead_43 rfl rfl (fun v17492 hv17492 => ?_)
  refine WP_callV3 (k := 7) dX7_faultAhead_44 ⟨⟨⟨by decide, by decide⟩, zX7_isTold⟩, lX7_87, by decide, rfl, vX7_isTold.1, vX7_isTold.2⟩ (lyx_is hy 27 7 rfl) (sx_isTold_27 hy hr hI cz v17491 v17492 (by omega) (by omega) (by omega) (by omega) ) (Nat.le_of_ble_eq_true rfl) ?_
  intro r Ia Ja Ra hq
  obtain ⟨⟨ea, eb, ec⟩, v17493, rfl, av17493, bv17493⟩ := hq
  show WP _ _ _ _ (.int _ :: _) _ _ _ _
  rw [ea, eb, ec]
  clear ea eb ec Ia Ja Ra
  refine WQ_if_eq 54 dX7_faultAhead_47 rfl (fun c17493 => ?_) (fun c17493 => ?_)
  · refine WQ_iconst (0) (0) dX7_faultAhead_54 rfl rfl (fun v17495 hv17495 => ?_)
    exact WP_sub (fc rfl (fc rfl fn)) (jn55_17486 v17495 (by omega) (by omega))
  · refine WQ_iconst (3) (3) dX7_faultAhead_50 rfl rfl (fun v17496 hv17496 => ?_)
    refine WP_goto 55 dX7_faultAhead_51 rfl ?_
    exact WP_sub (fc rfl (fc rfl fn)) (jn55_17486 v17496 (by omega) (by omega))
set_option maxHeartbeats 4000000 in
set_option maxRecDepth 100000 in
theorem sx_parts_27_0 {g : GG} {n : Int} {L : Int32} (hy : LyX g) {aK aV : Nat → Nat} {fo : Option Nat} (hz : HZ g aK aV fo)  {I : pI} {J : pJ} {R : pR} (hr : RfX g R) (hI : XI g n L I) (cz : Int32) (cz_lo : 0 ≤ cz.toInt) (cz_hi : cz.toInt ≤ 0) : SP g mX3_faultInParts [.ref (ad g 3), .int cz, .ref (ad g 27)] I J R (fun r I' J' R' => (XI g n L I' ∧ R' = R ∧ True ∧ I' (ad g 27) 1 = I (ad g 27) 1 ∧ I' (ad g 27) 2 = I (ad g 27) 2) ∧ ∃ v : Int32, r = some (.int v) ∧ 0 ≤ v.toInt ∧ v.toInt ≤ 5 ∧ (v.toInt = 0 → (I' (ad g 4) 0).toInt ≤ 6 ∧ (I' (ad g 4) 1).toInt ≤ 900)) := by
  refine SP_of ⟨by decide, rfl⟩ (Nat.le_of_ble_eq_true rfl) ?_
  have e17497 : I (ad g 1) 1 = L := hI.2
  have b17498 := BT_get hI.1 1 1 2 (0) (0) (900) (by decide) 1 (by decide) (by decide)
  rw [e17497] at b17498
  obtain ⟨w17499, ew17499⟩ : ∃ w : Int32, I (ad g 27) 1 = w := ⟨_, rfl⟩
  have bw17499 := BT_get hI.1 27 1 2 (0) (0) (4) (by decide) 1 (by decide) (by decide)
  rw [ew17499] at bw17499
  obtain ⟨w17500, ew17500⟩ : ∃ w : Int32, I (ad g 27) 2 = w := ⟨_, rfl⟩
  have bw17500 := BT_get hI.1 27 2 3 (0) (0) (3) (by decide) 2 (by decide) (by decide)
  rw [ew17500] at bw17500
  refine WP_iload_n dX3_faultInParts_0 rfl ?_
  refine WP_callS1 dX3_faultInParts_1 ⟨⟨⟨by decide, by decide⟩, zX3_shapeOf⟩, lX3_84, tX3_shapeOf⟩ (sx_shapeOf hy hz hr hI cz (by omega) (by omega)) (Nat.le_of_ble_eq_true rfl) ?_
  intro r Ia Ja Ra hq
  obtain ⟨⟨ea, eb, ec⟩, rfl⟩ := hq
  show WP _ _ _ _ (.ref _ :: _) _ _ _ _
  rw [show 10 + cz.toInt.toNat = 10 by omega]
  rw [ea, eb, ec]
  clear ea eb ec Ia Ja Ra
  refine WP_astore_n (ls' := [(0, _), (1, _), (2, _), (3, _)]) dX3_faultInParts_4 (by decide) rfl ?_
  refine WQ_iconst (0) (0) dX3_faultInParts_5 rfl rfl (fun v17501 hv17501 => ?_)
  refine WP_istore (ls' := [(0, _), (1, _), (2, _), (3, _), (4, _)]) dX3_faultInParts_6 (by decide) rfl ?_
  refine WP_iload dX3_faultInParts_8 rfl ?_
  refine WP_aload_n dX3_faultInParts_10 rfl ?_
  refine WS_call hz (i := 10) (by omega) dX3_faultInParts_11 ⟨⟨by decide, by decide⟩, zJ0_length_8abf5⟩ lX3_87 vJ0_length_8abf5 (As := []) (rest := [.int v17501]) (j_length hz (i := 10) (by omega)) rfl rfl (Nat.le_of_ble_eq_true rfl) ?_
  intro r Ia Ja Ra hq
  obtain ⟨⟨ea, eb, ec⟩, v17502, rfl, cv17502⟩ := hq
  show WP _ _ _ _ (.int _ :: _) _ _ _ _
  rw [ea, eb, ec]
  clear ea eb ec Ia Ja Ra
  have hv17502 : v17502.toInt = 2 := cv17502.trans rfl
  refine WQ_icmp_ge 125 dX3_faultInParts_14 rfl (fun c17502 => False.elim (by omega)) (fun c17502 => ?_)
  refine WP_iload dX3_faultInParts_17 rfl ?_
  refine WQ_iconst (5) (5) dX3_faultInParts_19 rfl rfl (fun v17504 hv17504 => ?_)
  refine WQ_icmp_ge 125 dX3_faultInParts_20 rfl (fun c17504 => False.elim (by omega)) (fun c17504 => ?_)
  refine WP_aload_n dX3_faultInParts_23 rfl ?_
  refine WP_iload dX3_faultInParts_24 rfl ?_
  refine WS_call hz (i := 10) (by omega) dX3_faultInParts_26 ⟨⟨by decide, by decide⟩, zJ0_charAt_5068e⟩ lX3_92 vJ0_charAt_5068e (As := [.int v17501]) (rest := []) (j_charAt hz (i := 10) (k := v17501) (by omega) (by omega) (by have z9 : ((liN.getD 10 0 : Nat) : Int) = 2 := rfl; omega)) rfl rfl (Nat.le_of_ble_eq_true rfl) ?_
  intro r Ia Ja Ra hq
  obtain ⟨⟨ea, eb, ec⟩, v17506, rfl, cv17506⟩ := hq
  show WP _ _ _ _ (.int _ :: _) _ _ _ _
  rw [ea, eb, ec]
  clear ea eb ec Ia Ja Ra
  have hv17506 : v17506.toInt = 68 := cv17506.trans (by rw [show v17501.toInt.toNat = 0 by omega]; rfl)
  refine WP_istore (ls' := [(0, _), (1, _), (2, _), (3, _), (4, _), (5, _)]) dX3_faultInParts_29 (by decide) rfl ?_
  refine WP_iload dX3_faultInParts_31 rfl ?_
  refine WQ_bipush (97) (97) dX3_faultInParts_33 rfl rfl (fun v17507 hv17507 => ?_)
  refine WQ_icmp_lt 49 dX3_faultInParts_35 rfl (fun c17507 => ?_) (fun c17507 => False.elim (by omega))
  refine WQ_iconst (0) (0) dX3_faultInParts_49 rfl rfl (fun v17509 hv17509 => ?_)
  refine WP_istore (ls' := [(0, _), (1, _), (2, _), (3, _), (4, _), (5, _), (6, _)]) dX3_faultInParts_50 (by decide) rfl ?_
  refine WP_aload_n dX3_faultInParts_52 rfl ?_
  refine WP_getr dX3_faultInParts_53 fX3_15 rfl (lyx_is hy 3 3 rfl) (rfx hr 3 2 1 (by decide)) ?_
  refine WQ_geti dX3_faultInParts_56 fX3_43 rfl (lyx_is hy 1 5 rfl) (BT_get hI.1 1 2 3 (0) (0) (4) (by decide) 2 (by decide) (by decide)) (fun v17510 ev17510 av17510 bv17510 => ?_)
  refine WP_iload dX3_faultInParts_59 rfl ?_
  refine WQ_if_eq 68 dX3_faultInParts_61 rfl (fun c17510 => ?_) (fun c17510 => False.elim (by omega))
  refine WQ_iconst (2) (2) dX3_faultInParts_68 rfl rfl (fun v17512 hv17512 => ?_)
  refine WQ_icmp_eq 74 dX3_faultInParts_69 rfl (fun c17512 => ?_) (fun c17512 => ?_)
  · refine WP_iload dX3_faultInParts_74 rfl ?_
    refine WQ_if_eq 92 dX3_faultInParts_76 rfl (fun c17513 => ?_) (fun c17513 => False.elim (by omega))
    refine WP_aload_n dX3_faultInParts_92 rfl ?_
    refine WP_iload dX3_faultInParts_93 rfl ?_
    refine WP_iload_n dX3_faultInParts_95 rfl ?_
    refine WP_iload dX3_faultInParts_96 rfl ?_
    refine WP_aload_n dX3_faultInParts_98 rfl ?_
    refine WP_callV4 (k := 3) dX3_faultInParts_99 ⟨⟨⟨by decide, by decide⟩, zX3_faultOfNumber⟩, lX3_100, by decide, rfl, vX3_faultOfNumber.1, vX3_faultOfNumber.2⟩ (lyx_is hy 3 3 rfl) (sx_part_27_0_0 hy hr hI v17506 cz v17501 (by omega) (by omega) (by omega) (by omega) (by omega) (by omega)) (Nat.le_of_ble_eq_true rfl) ?_
    intro r I17515 J17516 Ra hq
    obtain ⟨⟨hI17515, ec, ⟨pI17515, sI17515_27_1, sI17515_27_2⟩⟩, v17517, rfl, av17517, bv17517, cv17517⟩ := hq
    show WP _ _ _ _ (.int _ :: _) _ _ _ _
    rw [ec]
    clear ec Ra
    have e17518 : I17515 (ad g 27) 1 = w17499 := by rw [sI17515_27_1]; exact ew17499
    have e17519 : I17515 (ad g 27) 2 = w17500 := by rw [sI17515_27_2]; exact ew17500
    have e17520 : I17515 (ad g 1) 1 = L := hI17515.2
    have b17521 := BT_get hI17515.1 1 1 2 (0) (0) (900) (by decide) 1 (by decide) (by decide)
    rw [e17520] at b17521
    obtain ⟨w17522, ew17522⟩ : ∃ w : Int32, I17515 (ad g 4) 0 = w := ⟨_, rfl⟩
    have bw17522 := BT_get hI17515.1 4 0 5 (0) (0) (1000) (by decide) 0 (by decide) (by decide)
    rw [ew17522] at bw17522
    rw [ew17522] at cv17517
    refine WP_istore (ls' := [(0, _), (1, _), (2, _), (3, _), (4, _), (5, _), (6, _), (7, _)]) dX3_faultInParts_102 (by decide) rfl ?_
    refine WP_iload dX3_faultInParts_104 rfl ?_
    refine WQ_if_eq 112 dX3_faultInParts_106 rfl (fun c17522 => ?_) (fun c17522 => ?_)
    · refine WP_aload_n dX3_faultInParts_112 rfl ?_
      refine WP_getr dX3_faultInParts_113 fX3_15 rfl (lyx_is hy 3 3 rfl) (rfx hr 3 2 1 (by decide)) ?_
      refine WP_callV0 (k := 5) dX3_faultInParts_116 ⟨⟨⟨by decide, by decide⟩, zX5_next⟩, lX3_40, by decide, rfl, vX5_next.1, vX5_next.2⟩ (lyx_is hy 1 5 rfl) (sx_nextf hy hr hI17515  ) (Nat.le_of_ble_eq_true rfl) ?_
      intro r I17524 J17525 Ra hq
      obtain ⟨⟨hI17524, ec, fiI17524⟩, rfl⟩ := hq
      rw [ec]
      clear ec Ra
      have e17526 : I17524 (ad g 27) 1 = w17499 := by rw [fz_at fiI17524 27 (by decide) (by decide)]; exact e17518
      have e17527 : I17524 (ad g 27) 2 = w17500 := by rw [fz_at fiI17524 27 (by decide) (by decide)]; exact e17519
      have e17528 : I17524 (ad g 4) 0 = w17522 := by rw [fz_at fiI17524 4 (by decide) (by decide)]; exact ew17522
      have e17529 : I17524 (ad g 1) 1 = L := hI17524.2
      have b17530 := BT_get hI17524.1 1 1 2 (0) (0) (900) (by decide) 1 (by decide) (by decide)
      rw [e17529] at b17530
      refine WP_iinc (ls' := [(0, _), (1, _), (2, _), (3, _), (4, _), (5, _), (6, _), (7, _)]) dX3_faultInParts_119 rfl (by decide) rfl ?_
      have hv17531 : (v17501 + Int32.ofInt (1)).toInt = v17501.toInt + (1) := ia_n rfl (by omega) (by omega)
      generalize v17501 + Int32.ofInt (1) = v17531 at hv17531 ⊢
      refine WP_goto 8 dX3_faultInParts_122 rfl ?_
      refine WP_iload dX3_faultInParts_8 rfl ?_
      refine WP_aload_n dX3_faultInParts_10 rfl ?_
      refine WS_call hz (i := 10) (by omega) dX3_faultInParts_11 ⟨⟨by decide, by decide⟩, zJ0_length_8abf5⟩ lX3_87 vJ0_length_8abf5 (As := []) (rest := [.int v17531]) (j_length hz (i := 10) (by omega)) rfl rfl (Nat.le_of_ble_eq_true rfl) ?_
      intro r Ia Ja Ra hq
      obtain ⟨⟨ea, eb, ec⟩, v17532, rfl, cv17532⟩ := hq
      show WP _ _ _ _ (.int _ :: _) _ _ _ _
      rw [ea, eb, ec]
      clear ea eb ec Ia Ja Ra
      have hv17532 : v17532.toInt = 2 := cv17532.trans rfl
      refine WQ_icmp_ge 125 dX3_faultInParts_14 rfl (fun c17532 => False.elim (by omega)) (fun c17532 => ?_)
      refine WP_iload dX3_faultInParts_17 rfl ?_
      refine WQ_iconst (5) (5) dX3_faultInParts_19 rfl rfl (fun v17534 hv17534 => ?_)
      refine WQ_icmp_ge 125 dX3_faultInParts_20 rfl (fun c17534 => False.elim (by omega)) (fun c17534 => ?_)
      refine WP_aload_n dX3_faultInParts_23 rfl ?_
      refine WP_iload dX3_faultInParts_24 rfl ?_
      refine WS_call hz (i := 10) (by omega) dX3_faultInParts_26 ⟨⟨by decide, by decide⟩, zJ0_charAt_5068e⟩ lX3_92 vJ0_charAt_5068e (As := [.int v17531]) (rest := []) (j_charAt hz (i := 10) (k := v17531) (by omega) (by omega) (by have z9 : ((liN.getD 10 0 : Nat) : Int) = 2 := rfl; omega)) rfl rfl (Nat.le_of_ble_eq_true rfl) ?_
      intro r Ia Ja Ra hq
      obtain ⟨⟨ea, eb, ec⟩, v17536, rfl, cv17536⟩ := hq
      show WP _ _ _ _ (.int _ :: _) _ _ _ _
      rw [ea, eb, ec]
      clear ea eb ec Ia Ja Ra
      have hv17536 : v17536.toInt = 76 := cv17536.trans (by rw [show v17531.toInt.toNat = 1 by omega]; rfl)
      refine WP_istore (ls' := [(0, _), (1, _), (2, _), (3, _), (4, _), (5, _), (6, _), (7, _)]) dX3_faultInParts_29 (by decide) rfl ?_
      refine WP_iload dX3_faultInParts_31 rfl ?_
      refine WQ_bipush (97) (97) dX3_faultInParts_33 rfl rfl (fun v17537 hv17537 => ?_)
      refine WQ_icmp_lt 49 dX3_faultInParts_35 rfl (fun c17537 => ?_) (fun c17537 => False.elim (by omega))
      refine WQ_iconst (0) (0) dX3_faultInParts_49 rfl rfl (fun v17539 hv17539 => ?_)
      refine WP_istore (ls' := [(0, _), (1, _), (2, _), (3, _), (4, _), (5, _), (6, _), (7, _)]) dX3_faultInParts_50 (by decide) rfl ?_
      refine WP_aload_n dX3_faultInParts_52 rfl ?_
      refine WP_getr dX3_faultInParts_53 fX3_15 rfl (lyx_is hy 3 3 rfl) (rfx hr 3 2 1 (by decide)) ?_
      refine WQ_geti dX3_faultInParts_56 fX3_43 rfl (lyx_is hy 1 5 rfl) (BT_get hI17524.1 1 2 3 (0) (0) (4) (by decide) 2 (by decide) (by decide)) (fun v17540 ev17540 av17540 bv17540 => ?_)
      refine WP_iload dX3_faultInParts_59 rfl ?_
      refine WQ_if_eq 68 dX3_faultInParts_61 rfl (fun c17540 => ?_) (fun c17540 => False.elim (by omega))
      refine WQ_iconst (2) (2) dX3_faultInParts_68 rfl rfl (fun v17542 hv17542 => ?_)
      refine WQ_icmp_eq 74 dX3_faultInParts_69 rfl (fun c17542 => ?_) (fun c17542 => ?_)
      · refine WP_iload dX3_faultInParts_74 rfl ?_
        refine WQ_if_eq 92 dX3_faultInParts_76 rfl (fun c17543 => ?_) (fun c17543 => False.elim (by omega))
        refine WP_aload_n dX3_faultInParts_92 rfl ?_
        refine WP_iload dX3_faultInParts_93 rfl ?_
        refine WP_iload_n dX3_faultInParts_95 rfl ?_
        refine WP_iload dX3_faultInParts_96 rfl ?_
        refine WP_aload_n dX3_faultInParts_98 rfl ?_
        refine WP_callV4 (k := 3) dX3_faultInParts_99 ⟨⟨⟨by decide, by decide⟩, zX3_faultOfNumber⟩, lX3_100, by decide, rfl, vX3_faultOfNumber.1, vX3_faultOfNumber.2⟩ (lyx_is hy 3 3 rfl) (sx_part_27_0_1 hy hr hI17524 v17536 cz v17531 (by omega) (by omega) (by omega) (by omega) (by omega) (by omega)) (Nat.le_of_ble_eq_true rfl) ?_
        intro r I17545 J17546 Ra hq
        obtain ⟨⟨hI17545, ec, ⟨pI17545, sI17545_4_0, sI17545_27_1, sI17545_27_2⟩⟩, v17547, rfl, av17547, bv17547, cv17547⟩ := hq
        show WP _ _ _ _ (.int _ :: _) _ _ _ _
        rw [ec]
        clear ec Ra
        have e17548 : I17545 (ad g 4) 0 = w17522 := by rw [sI17545_4_0]; exact e17528
        have e17549 : I17545 (ad g 27) 1 = w17499 := by rw [sI17545_27_1]; exact e17526
        have e17550 : I17545 (ad g 27) 2 = w17500 := by rw [sI17545_27_2]; exact e17527
        have e17551 : I17545 (ad g 1) 1 = L := hI17545.2
        have b17552 := BT_get hI17545.1 1 1 2 (0) (0) (900) (by decide) 1 (by decide) (by decide)
        rw [e17551] at b17552
        obtain ⟨w17553, ew17553⟩ : ∃ w : Int32, I17545 (ad g 4) 1 = w := ⟨_, rfl⟩
        have bw17553 := BT_get hI17545.1 4 0 5 (0) (0) (1000) (by decide) 1 (by decide) (by decide)
        rw [ew17553] at bw17553
        rw [ew17553] at cv17547
        refine WP_istore (ls' := [(0, _), (1, _), (2, _), (3, _), (4, _), (5, _), (6, _), (7, _)]) dX3_faultInParts_102 (by decide) rfl ?_
        refine WP_iload dX3_faultInParts_104 rfl ?_
        refine WQ_if_eq 112 dX3_faultInParts_106 rfl (fun c17553 => ?_) (fun c17553 => ?_)
        · refine WP_aload_n dX3_faultInParts_112 rfl ?_
          refine WP_getr dX3_faultInParts_113 fX3_15 rfl (lyx_is hy 3 3 rfl) (rfx hr 3 2 1 (by decide)) ?_
          refine WP_callV0 (k := 5) dX3_faultInParts_116 ⟨⟨⟨by decide, by decide⟩, zX5_next⟩, lX3_40, by decide, rfl, vX5_next.1, vX5_next.2⟩ (lyx_is hy 1 5 rfl) (sx_nextf hy hr hI17545  ) (Nat.le_of_ble_eq_true rfl) ?_
          intro r I17555 J17556 Ra hq
          obtain ⟨⟨hI17555, ec, fiI17555⟩, rfl⟩ := hq
          rw [ec]
          clear ec Ra
          have e17557 : I17555 (ad g 4) 0 = w17522 := by rw [fz_at fiI17555 4 (by decide) (by decide)]; exact e17548
          have e17558 : I17555 (ad g 27) 1 = w17499 := by rw [fz_at fiI17555 27 (by decide) (by decide)]; exact e17549
          have e17559 : I17555 (ad g 27) 2 = w17500 := by rw [fz_at fiI17555 27 (by decide) (by decide)]; exact e17550
          have e17560 : I17555 (ad g 4) 1 = w17553 := by rw [fz_at fiI17555 4 (by decide) (by decide)]; exact ew17553
          have e17561 : I17555 (ad g 1) 1 = L := hI17555.2
          have b17562 := BT_get hI17555.1 1 1 2 (0) (0) (900) (by decide) 1 (by decide) (by decide)
          rw [e17561] at b17562
          refine WP_iinc (ls' := [(0, _), (1, _), (2, _), (3, _), (4, _), (5, _), (6, _), (7, _)]) dX3_faultInParts_119 rfl (by decide) rfl ?_
          have hv17563 : (v17531 + Int32.ofInt (1)).toInt = v17531.toInt + (1) := ia_n rfl (by omega) (by omega)
          generalize v17531 + Int32.ofInt (1) = v17563 at hv17563 ⊢
          refine WP_goto 8 dX3_faultInParts_122 rfl ?_
          refine WP_iload dX3_faultInParts_8 rfl ?_
          refine WP_aload_n dX3_faultInParts_10 rfl ?_
          refine WS_call hz (i := 10) (by omega) dX3_faultInParts_11 ⟨⟨by decide, by decide⟩, zJ0_length_8abf5⟩ lX3_87 vJ0_length_8abf5 (As := []) (rest := [.int v17563]) (j_length hz (i := 10) (by omega)) rfl rfl (Nat.le_of_ble_eq_true rfl) ?_
          intro r Ia Ja Ra hq
          obtain ⟨⟨ea, eb, ec⟩, v17564, rfl, cv17564⟩ := hq
          show WP _ _ _ _ (.int _ :: _) _ _ _ _
          rw [ea, eb, ec]
          clear ea eb ec Ia Ja Ra
          have hv17564 : v17564.toInt = 2 := cv17564.trans rfl
          refine WQ_icmp_ge 125 dX3_faultInParts_14 rfl (fun c17564 => ?_) (fun c17564 => False.elim (by omega))
          refine WP_aload_n dX3_faultInParts_125 rfl ?_
          refine WP_getr dX3_faultInParts_126 fX3_15 rfl (lyx_is hy 3 3 rfl) (rfx hr 3 2 1 (by decide)) ?_
          refine WQ_geti dX3_faultInParts_129 fX3_43 rfl (lyx_is hy 1 5 rfl) (BT_get hI17555.1 1 2 3 (0) (0) (4) (by decide) 2 (by decide) (by decide)) (fun v17566 ev17566 av17566 bv17566 => ?_)
          refine WQ_iconst (3) (3) dX3_faultInParts_132 rfl rfl (fun v17567 hv17567 => ?_)
          refine WQ_icmp_ne 140 dX3_faultInParts_133 rfl (fun c17567 => ?_) (fun c17567 => ?_)
          · refine WQ_iconst (1) (1) dX3_faultInParts_140 rfl rfl (fun v17569 hv17569 => ?_)
            exact WP_iret dX3_faultInParts_141 rfl ⟨⟨hI17555, rfl, ⟨trivial, (by rw [e17558, ew17499] <;> exact (eq32 _ _).mpr (by omega)), (by rw [e17559, ew17500] <;> exact (eq32 _ _).mpr (by omega))⟩⟩, _, rfl, by omega, by omega, by (try rw [e17557]; try rw [e17560]); omega⟩
          · refine WQ_iconst (0) (0) dX3_faultInParts_136 rfl rfl (fun v17570 hv17570 => ?_)
            refine WP_goto 141 dX3_faultInParts_137 rfl ?_
            exact WP_iret dX3_faultInParts_141 rfl ⟨⟨hI17555, rfl, ⟨trivial, (by rw [e17558, ew17499] <;> exact (eq32 _ _).mpr (by omega)), (by rw [e17559, ew17500] <;> exact (eq32 _ _).mpr (by omega))⟩⟩, _, rfl, by omega, by omega, by (try rw [e17557]; try rw [e17560]); omega⟩
        · refine WP_iload dX3_faultInParts_109 rfl ?_
          exact WP_iret dX3_faultInParts_111 rfl ⟨⟨hI17545, rfl, ⟨trivial, (by rw [e17549, ew17499] <;> exact (eq32 _ _).mpr (by omega)), (by rw [e17550, ew17500] <;> exact (eq32 _ _).mpr (by omega))⟩⟩, _, rfl, by omega, by omega, by (try rw [e17548]; try rw [ew17553]); omega⟩
      · refine WQ_iconst (1) (1) dX3_faultInParts_72 rfl rfl (fun v17571 hv17571 => ?_)
        obtain ⟨w17572, ew17572⟩ : ∃ w : Int32, I17524 (ad g 4) 1 = w := ⟨_, rfl⟩
        have bw17572 := BT_get hI17524.1 4 0 5 (0) (0) (1000) (by decide) 1 (by decide) (by decide)
        rw [ew17572] at bw17572
        exact WP_iret dX3_faultInParts_73 rfl ⟨⟨hI17524, rfl, ⟨trivial, (by rw [e17526, ew17499] <;> exact (eq32 _ _).mpr (by omega)), (by rw [e17527, ew17500] <;> exact (eq32 _ _).mpr (by omega))⟩⟩, _, rfl, by omega, by omega, by (try rw [e17528]; try rw [ew17572]); omega⟩
    · refine WP_iload dX3_faultInParts_109 rfl ?_
      obtain ⟨w17573, ew17573⟩ : ∃ w : Int32, I17515 (ad g 4) 1 = w := ⟨_, rfl⟩
      have bw17573 := BT_get hI17515.1 4 0 5 (0) (0) (1000) (by decide) 1 (by decide) (by decide)
      rw [ew17573] at bw17573
      exact WP_iret dX3_faultInParts_111 rfl ⟨⟨hI17515, rfl, ⟨trivial, (by rw [e17518, ew17499] <;> exact (eq32 _ _).mpr (by omega)), (by rw [e17519, ew17500] <;> exact (eq32 _ _).mpr (by omega))⟩⟩, _, rfl, by omega, by omega, by (try rw [ew17522]; try rw [ew17573]); omega⟩
  · refine WQ_iconst (1) (1) dX3_faultInParts_72 rfl rfl (fun v17574 hv17574 => ?_)
    obtain ⟨w17575, ew17575⟩ : ∃ w : Int32, I (ad g 4) 0 = w := ⟨_, rfl⟩
    have bw17575 := BT_get hI.1 4 0 5 (0) (0) (1000) (by decide) 0 (by decide) (by decide)
    rw [ew17575] at bw17575
    obtain ⟨w17576, ew17576⟩ : ∃ w : Int32, I (ad g 4) 1 = w := ⟨_, rfl⟩
    have bw17576 := BT_get hI.1 4 0 5 (0) (0) (1000) (by decide) 1 (by decide) (by decide)
    rw [ew17576] at bw17576
    exact WP_iret dX3_faultInParts_73 rfl ⟨⟨hI, rfl, ⟨trivial, rfl, rfl⟩⟩, _, rfl, by omega, by omega, by (try rw [ew17575]; try rw [ew17576]); omega⟩
set_option maxHeartbeats 4000000 in
set_option maxRecDepth 100000 in
theorem sx_parts_27_1 {g : GG} {n : Int} {L : Int32} (hy : LyX g) {aK aV : Nat → Nat} {fo : Option Nat} (hz : HZ g aK aV fo)  {I : pI} {J : pJ} {R : pR} (hr : RfX g R) (hI : XI g n L I) (cz : Int32) (cz_lo : 1 ≤ cz.toInt) (cz_hi : cz.toInt ≤ 1) (hb : (I (ad g 27) 1).toInt ≤ 3) : SP g mX3_faultInParts [.ref (ad g 3), .int cz, .ref (ad g 27)] I J R (fun r I' J' R' => (XI g n L I' ∧ R' = R ∧ True ∧ I' (ad g 27) 1 = I (ad g 27) 1 ∧ I' (ad g 27) 2 = I (ad g 27) 2) ∧ ∃ v : Int32, r = some (.int v) ∧ 0 ≤ v.toInt ∧ v.toInt ≤ 5 ∧ (v.toInt = 0 → (I' (ad g 4) 1).toInt ≤ 99 ∧ (I' (ad g 4) 2).toInt ≤ 1000 ∧ (I' (ad g 4) 3).toInt ≤ 60)) := by
  refine SP_of ⟨by decide, rfl⟩ (Nat.le_of_ble_eq_true rfl) ?_
  have e17577 : I (ad g 1) 1 = L := hI.2
  have b17578 := BT_get hI.1 1 1 2 (0) (0) (900) (by decide) 1 (by decide) (by decide)
  rw [e17577] at b17578
  obtain ⟨w17579, ew17579⟩ : ∃ w : Int32, I (ad g 27) 1 = w := ⟨_, rfl⟩
  have bw17579 := BT_get hI.1 27 1 2 (0) (0) (4) (by decide) 1 (by decide) (by decide)
  rw [ew17579] at bw17579
  obtain ⟨w17580, ew17580⟩ : ∃ w : Int32, I (ad g 27) 2 = w := ⟨_, rfl⟩
  have bw17580 := BT_get hI.1 27 2 3 (0) (0) (3) (by decide) 2 (by decide) (by decide)
  rw [ew17580] at bw17580
  rw [ew17579] at hb
  refine WP_iload_n dX3_faultInParts_0 rfl ?_
  refine WP_callS1 dX3_faultInParts_1 ⟨⟨⟨by decide, by decide⟩, zX3_shapeOf⟩, lX3_84, tX3_shapeOf⟩ (sx_shapeOf hy hz hr hI cz (by omega) (by omega)) (Nat.le_of_ble_eq_true rfl) ?_
  intro r Ia Ja Ra hq
  obtain ⟨⟨ea, eb, ec⟩, rfl⟩ := hq
  show WP _ _ _ _ (.ref _ :: _) _ _ _ _
  rw [show 10 + cz.toInt.toNat = 11 by omega]
  rw [ea, eb, ec]
  clear ea eb ec Ia Ja Ra
  refine WP_astore_n (ls' := [(0, _), (1, _), (2, _), (3, _)]) dX3_faultInParts_4 (by decide) rfl ?_
  refine WQ_iconst (0) (0) dX3_faultInParts_5 rfl rfl (fun v17581 hv17581 => ?_)
  refine WP_istore (ls' := [(0, _), (1, _), (2, _), (3, _), (4, _)]) dX3_faultInParts_6 (by decide) rfl ?_
  refine WP_iload dX3_faultInParts_8 rfl ?_
  refine WP_aload_n dX3_faultInParts_10 rfl ?_
  refine WS_call hz (i := 11) (by omega) dX3_faultInParts_11 ⟨⟨by decide, by decide⟩, zJ0_length_8abf5⟩ lX3_87 vJ0_length_8abf5 (As := []) (rest := [.int v17581]) (j_length hz (i := 11) (by omega)) rfl rfl (Nat.le_of_ble_eq_true rfl) ?_
  intro r Ia Ja Ra hq
  obtain ⟨⟨ea, eb, ec⟩, v17582, rfl, cv17582⟩ := hq
  show WP _ _ _ _ (.int _ :: _) _ _ _ _
  rw [ea, eb, ec]
  clear ea eb ec Ia Ja Ra
  have hv17582 : v17582.toInt = 4 := cv17582.trans rfl
  refine WQ_icmp_ge 125 dX3_faultInParts_14 rfl (fun c17582 => False.elim (by omega)) (fun c17582 => ?_)
  refine WP_iload dX3_faultInParts_17 rfl ?_
  refine WQ_iconst (5) (5) dX3_faultInParts_19 rfl rfl (fun v17584 hv17584 => ?_)
  refine WQ_icmp_ge 125 dX3_faultInParts_20 rfl (fun c17584 => False.elim (by omega)) (fun c17584 => ?_)
  refine WP_aload_n dX3_faultInParts_23 rfl ?_
  refine WP_iload dX3_faultInParts_24 rfl ?_
  refine WS_call hz (i := 11) (by omega) dX3_faultInParts_26 ⟨⟨by decide, by decide⟩, zJ0_charAt_5068e⟩ lX3_92 vJ0_charAt_5068e (As := [.int v17581]) (rest := []) (j_charAt hz (i := 11) (k := v17581) (by omega) (by omega) (by have z9 : ((liN.getD 11 0 : Nat) : Int) = 4 := rfl; omega)) rfl rfl (Nat.le_of_ble_eq_true rfl) ?_
  intro r Ia Ja Ra hq
  obtain ⟨⟨ea, eb, ec⟩, v17586, rfl, cv17586⟩ := hq
  show WP _ _ _ _ (.int _ :: _) _ _ _ _
  rw [ea, eb, ec]
  clear ea eb ec Ia Ja Ra
  have hv17586 : v17586.toInt = 110 := cv17586.trans (by rw [show v17581.toInt.toNat = 0 by omega]; rfl)
  refine WP_istore (ls' := [(0, _), (1, _), (2, _), (3, _), (4, _), (5, _)]) dX3_faultInParts_29 (by decide) rfl ?_
  refine WP_iload dX3_faultInParts_31 rfl ?_
  refine WQ_bipush (97) (97) dX3_faultInParts_33 rfl rfl (fun v17587 hv17587 => ?_)
  refine WQ_icmp_lt 49 dX3_faultInParts_35 rfl (fun c17587 => False.elim (by omega)) (fun c17587 => ?_)
  refine WP_iload dX3_faultInParts_38 rfl ?_
  refine WQ_bipush (122) (122) dX3_faultInParts_40 rfl rfl (fun v17589 hv17589 => ?_)
  refine WQ_icmp_gt 49 dX3_faultInParts_42 rfl (fun c17589 => False.elim (by omega)) (fun c17589 => ?_)
  refine WQ_iconst (1) (1) dX3_faultInParts_45 rfl rfl (fun v17591 hv17591 => ?_)
  refine WP_goto 50 dX3_faultInParts_46 rfl ?_
  refine WP_istore (ls' := [(0, _), (1, _), (2, _), (3, _), (4, _), (5, _), (6, _)]) dX3_faultInParts_50 (by decide) rfl ?_
  refine WP_aload_n dX3_faultInParts_52 rfl ?_
  refine WP_getr dX3_faultInParts_53 fX3_15 rfl (lyx_is hy 3 3 rfl) (rfx hr 3 2 1 (by decide)) ?_
  refine WQ_geti dX3_faultInParts_56 fX3_43 rfl (lyx_is hy 1 5 rfl) (BT_get hI.1 1 2 3 (0) (0) (4) (by decide) 2 (by decide) (by decide)) (fun v17592 ev17592 av17592 bv17592 => ?_)
  refine WP_iload dX3_faultInParts_59 rfl ?_
  refine WQ_if_eq 68 dX3_faultInParts_61 rfl (fun c17592 => False.elim (by omega)) (fun c17592 => ?_)
  refine WQ_iconst (1) (1) dX3_faultInParts_64 rfl rfl (fun v17594 hv17594 => ?_)
  refine WP_goto 69 dX3_faultInParts_65 rfl ?_
  refine WQ_icmp_eq 74 dX3_faultInParts_69 rfl (fun c17594 => ?_) (fun c17594 => ?_)
  · refine WP_iload dX3_faultInParts_74 rfl ?_
    refine WQ_if_eq 92 dX3_faultInParts_76 rfl (fun c17595 => False.elim (by omega)) (fun c17595 => ?_)
    refine WP_aload_n dX3_faultInParts_79 rfl ?_
    refine WP_iload dX3_faultInParts_80 rfl ?_
    refine WP_iload_n dX3_faultInParts_82 rfl ?_
    refine WP_iload dX3_faultInParts_83 rfl ?_
    refine WP_aload_n dX3_faultInParts_85 rfl ?_
    refine WP_callV4 (k := 3) dX3_faultInParts_86 ⟨⟨⟨by decide, by decide⟩, zX3_faultOfName⟩, lX3_96, by decide, rfl, vX3_faultOfName.1, vX3_faultOfName.2⟩ (lyx_is hy 3 3 rfl) (sx_part_27_1_0 hy hr hI v17586 cz v17581 (by omega) (by omega) (by omega) (by omega) (by omega) (by omega) (by rw [ew17579]; omega)) (Nat.le_of_ble_eq_true rfl) ?_
    intro r I17597 J17598 Ra hq
    obtain ⟨⟨hI17597, ec, ⟨pI17597, sI17597_27_1, sI17597_27_2⟩⟩, v17599, rfl, av17599, bv17599⟩ := hq
    show WP _ _ _ _ (.int _ :: _) _ _ _ _
    rw [ec]
    clear ec Ra
    have e17600 : I17597 (ad g 27) 1 = w17579 := by rw [sI17597_27_1]; exact ew17579
    have e17601 : I17597 (ad g 27) 2 = w17580 := by rw [sI17597_27_2]; exact ew17580
    have e17602 : I17597 (ad g 1) 1 = L := hI17597.2
    have b17603 := BT_get hI17597.1 1 1 2 (0) (0) (900) (by decide) 1 (by decide) (by decide)
    rw [e17602] at b17603
    refine WP_goto 102 dX3_faultInParts_89 rfl ?_
    refine WP_istore (ls' := [(0, _), (1, _), (2, _), (3, _), (4, _), (5, _), (6, _), (7, _)]) dX3_faultInParts_102 (by decide) rfl ?_
    refine WP_iload dX3_faultInParts_104 rfl ?_
    refine WQ_if_eq 112 dX3_faultInParts_106 rfl (fun c17603 => ?_) (fun c17603 => ?_)
    · refine WP_aload_n dX3_faultInParts_112 rfl ?_
      refine WP_getr dX3_faultInParts_113 fX3_15 rfl (lyx_is hy 3 3 rfl) (rfx hr 3 2 1 (by decide)) ?_
      refine WP_callV0 (k := 5) dX3_faultInParts_116 ⟨⟨⟨by decide, by decide⟩, zX5_next⟩, lX3_40, by decide, rfl, vX5_next.1, vX5_next.2⟩ (lyx_is hy 1 5 rfl) (sx_nextf hy hr hI17597  ) (Nat.le_of_ble_eq_true rfl) ?_
      intro r I17605 J17606 Ra hq
      obtain ⟨⟨hI17605, ec, fiI17605⟩, rfl⟩ := hq
      rw [ec]
      clear ec Ra
      have e17607 : I17605 (ad g 27) 1 = w17579 := by rw [fz_at fiI17605 27 (by decide) (by decide)]; exact e17600
      have e17608 : I17605 (ad g 27) 2 = w17580 := by rw [fz_at fiI17605 27 (by decide) (by decide)]; exact e17601
      have e17609 : I17605 (ad g 1) 1 = L := hI17605.2
      have b17610 := BT_get hI17605.1 1 1 2 (0) (0) (900) (by decide) 1 (by decide) (by decide)
      rw [e17609] at b17610
      refine WP_iinc (ls' := [(0, _), (1, _), (2, _), (3, _), (4, _), (5, _), (6, _), (7, _)]) dX3_faultInParts_119 rfl (by decide) rfl ?_
      have hv17611 : (v17581 + Int32.ofInt (1)).toInt = v17581.toInt + (1) := ia_n rfl (by omega) (by omega)
      generalize v17581 + Int32.ofInt (1) = v17611 at hv17611 ⊢
      refine WP_goto 8 dX3_faultInParts_122 rfl ?_
      refine WP_iload dX3_faultInParts_8 rfl ?_
      refine WP_aload_n dX3_faultInParts_10 rfl ?_
      refine WS_call hz (i := 11) (by omega) dX3_faultInParts_11 ⟨⟨by decide, by decide⟩, zJ0_length_8abf5⟩ lX3_87 vJ0_length_8abf5 (As := []) (rest := [.int v17611]) (j_length hz (i := 11) (by omega)) rfl rfl (Nat.le_of_ble_eq_true rfl) ?_
      intro r Ia Ja Ra hq
      obtain ⟨⟨ea, eb, ec⟩, v17612, rfl, cv17612⟩ := hq
      show WP _ _ _ _ (.int _ :: _) _ _ _ _
      rw [ea, eb, ec]
      clear ea eb ec Ia Ja Ra
      have hv17612 : v17612.toInt = 4 := cv17612.trans rfl
      refine WQ_icmp_ge 125 dX3_faultInParts_14 rfl (fun c17612 => False.elim (by omega)) (fun c17612 => ?_)
      refine WP_iload dX3_faultInParts_17 rfl ?_
      refine WQ_iconst (5) (5) dX3_faultInParts_19 rfl rfl (fun v17614 hv17614 => ?_)
      refine WQ_icmp_ge 125 dX3_faultInParts_20 rfl (fun c17614 => False.elim (by omega)) (fun c17614 => ?_)
      refine WP_aload_n dX3_faultInParts_23 rfl ?_
      refine WP_iload dX3_faultInParts_24 rfl ?_
      refine WS_call hz (i := 11) (by omega) dX3_faultInParts_26 ⟨⟨by decide, by decide⟩, zJ0_charAt_5068e⟩ lX3_92 vJ0_charAt_5068e (As := [.int v17611]) (rest := []) (j_charAt hz (i := 11) (k := v17611) (by omega) (by omega) (by have z9 : ((liN.getD 11 0 : Nat) : Int) = 4 := rfl; omega)) rfl rfl (Nat.le_of_ble_eq_true rfl) ?_
      intro r Ia Ja Ra hq
      obtain ⟨⟨ea, eb, ec⟩, v17616, rfl, cv17616⟩ := hq
      show WP _ _ _ _ (.int _ :: _) _ _ _ _
      rw [ea, eb, ec]
      clear ea eb ec Ia Ja Ra
      have hv17616 : v17616.toInt = 80 := cv17616.trans (by rw [show v17611.toInt.toNat = 1 by omega]; rfl)
      refine WP_istore (ls' := [(0, _), (1, _), (2, _), (3, _), (4, _), (5, _), (6, _), (7, _)]) dX3_faultInParts_29 (by decide) rfl ?_
      refine WP_iload dX3_faultInParts_31 rfl ?_
      refine WQ_bipush (97) (97) dX3_faultInParts_33 rfl rfl (fun v17617 hv17617 => ?_)
      refine WQ_icmp_lt 49 dX3_faultInParts_35 rfl (fun c17617 => ?_) (fun c17617 => False.elim (by omega))
      refine WQ_iconst (0) (0) dX3_faultInParts_49 rfl rfl (fun v17619 hv17619 => ?_)
      refine WP_istore (ls' := [(0, _), (1, _), (2, _), (3, _), (4, _), (5, _), (6, _), (7, _)]) dX3_faultInParts_50 (by decide) rfl ?_
      refine WP_aload_n dX3_faultInParts_52 rfl ?_
      refine WP_getr dX3_faultInParts_53 fX3_15 rfl (lyx_is hy 3 3 rfl) (rfx hr 3 2 1 (by decide)) ?_
      refine WQ_geti dX3_faultInParts_56 fX3_43 rfl (lyx_is hy 1 5 rfl) (BT_get hI17605.1 1 2 3 (0) (0) (4) (by decide) 2 (by decide) (by decide)) (fun v17620 ev17620 av17620 bv17620 => ?_)
      refine WP_iload dX3_faultInParts_59 rfl ?_
      refine WQ_if_eq 68 dX3_faultInParts_61 rfl (fun c17620 => ?_) (fun c17620 => False.elim (by omega))
      refine WQ_iconst (2) (2) dX3_faultInParts_68 rfl rfl (fun v17622 hv17622 => ?_)
      refine WQ_icmp_eq 74 dX3_faultInParts_69 rfl (fun c17622 => ?_) (fun c17622 => ?_)
      · refine WP_iload dX3_faultInParts_74 rfl ?_
        refine WQ_if_eq 92 dX3_faultInParts_76 rfl (fun c17623 => ?_) (fun c17623 => False.elim (by omega))
        refine WP_aload_n dX3_faultInParts_92 rfl ?_
        refine WP_iload dX3_faultInParts_93 rfl ?_
        refine WP_iload_n dX3_faultInParts_95 rfl ?_
        refine WP_iload dX3_faultInParts_96 rfl ?_
        refine WP_aload_n dX3_faultInParts_98 rfl ?_
        refine WP_callV4 (k := 3) dX3_faultInParts_99 ⟨⟨⟨by decide, by decide⟩, zX3_faultOfNumber⟩, lX3_100, by decide, rfl, vX3_faultOfNumber.1, vX3_faultOfNumber.2⟩ (lyx_is hy 3 3 rfl) (sx_part_27_1_1 hy hr hI17605 v17616 cz v17611 (by omega) (by omega) (by omega) (by omega) (by omega) (by omega)) (Nat.le_of_ble_eq_true rfl) ?_
        intro r I17625 J17626 Ra hq
        obtain ⟨⟨hI17625, ec, ⟨pI17625, sI17625_4_0, sI17625_27_1, sI17625_27_2⟩⟩, v17627, rfl, av17627, bv17627, cv17627⟩ := hq
        show WP _ _ _ _ (.int _ :: _) _ _ _ _
        rw [ec]
        clear ec Ra
        have e17628 : I17625 (ad g 27) 1 = w17579 := by rw [sI17625_27_1]; exact e17607
        have e17629 : I17625 (ad g 27) 2 = w17580 := by rw [sI17625_27_2]; exact e17608
        have e17630 : I17625 (ad g 1) 1 = L := hI17625.2
        have b17631 := BT_get hI17625.1 1 1 2 (0) (0) (900) (by decide) 1 (by decide) (by decide)
        rw [e17630] at b17631
        obtain ⟨w17632, ew17632⟩ : ∃ w : Int32, I17625 (ad g 4) 1 = w := ⟨_, rfl⟩
        have bw17632 := BT_get hI17625.1 4 0 5 (0) (0) (1000) (by decide) 1 (by decide) (by decide)
        rw [ew17632] at bw17632
        rw [ew17632] at cv17627
        refine WP_istore (ls' := [(0, _), (1, _), (2, _), (3, _), (4, _), (5, _), (6, _), (7, _)]) dX3_faultInParts_102 (by decide) rfl ?_
        refine WP_iload dX3_faultInParts_104 rfl ?_
        refine WQ_if_eq 112 dX3_faultInParts_106 rfl (fun c17632 => ?_) (fun c17632 => ?_)
        · refine WP_aload_n dX3_faultInParts_112 rfl ?_
          refine WP_getr dX3_faultInParts_113 fX3_15 rfl (lyx_is hy 3 3 rfl) (rfx hr 3 2 1 (by decide)) ?_
          refine WP_callV0 (k := 5) dX3_faultInParts_116 ⟨⟨⟨by decide, by decide⟩, zX5_next⟩, lX3_40, by decide, rfl, vX5_next.1, vX5_next.2⟩ (lyx_is hy 1 5 rfl) (sx_nextf hy hr hI17625  ) (Nat.le_of_ble_eq_true rfl) ?_
          intro r I17634 J17635 Ra hq
          obtain ⟨⟨hI17634, ec, fiI17634⟩, rfl⟩ := hq
          rw [ec]
          clear ec Ra
          have e17636 : I17634 (ad g 27) 1 = w17579 := by rw [fz_at fiI17634 27 (by decide) (by decide)]; exact e17628
          have e17637 : I17634 (ad g 27) 2 = w17580 := by rw [fz_at fiI17634 27 (by decide) (by decide)]; exact e17629
          have e17638 : I17634 (ad g 4) 1 = w17632 := by rw [fz_at fiI17634 4 (by decide) (by decide)]; exact ew17632
          have e17639 : I17634 (ad g 1) 1 = L := hI17634.2
          have b17640 := BT_get hI17634.1 1 1 2 (0) (0) (900) (by decide) 1 (by decide) (by decide)
          rw [e17639] at b17640
          refine WP_iinc (ls' := [(0, _), (1, _), (2, _), (3, _), (4, _), (5, _), (6, _), (7, _)]) dX3_faultInParts_119 rfl (by decide) rfl ?_
          have hv17641 : (v17611 + Int32.ofInt (1)).toInt = v17611.toInt + (1) := ia_n rfl (by omega) (by omega)
          generalize v17611 + Int32.ofInt (1) = v17641 at hv17641 ⊢
          refine WP_goto 8 dX3_faultInParts_122 rfl ?_
          refine WP_iload dX3_faultInParts_8 rfl ?_
          refine WP_aload_n dX3_faultInParts_10 rfl ?_
          refine WS_call hz (i := 11) (by omega) dX3_faultInParts_11 ⟨⟨by decide, by decide⟩, zJ0_length_8abf5⟩ lX3_87 vJ0_length_8abf5 (As := []) (rest := [.int v17641]) (j_length hz (i := 11) (by omega)) rfl rfl (Nat.le_of_ble_eq_true rfl) ?_
          intro r Ia Ja Ra hq
          obtain ⟨⟨ea, eb, ec⟩, v17642, rfl, cv17642⟩ := hq
          show WP _ _ _ _ (.int _ :: _) _ _ _ _
          rw [ea, eb, ec]
          clear ea eb ec Ia Ja Ra
          have hv17642 : v17642.toInt = 4 := cv17642.trans rfl
          refine WQ_icmp_ge 125 dX3_faultInParts_14 rfl (fun c17642 => False.elim (by omega)) (fun c17642 => ?_)
          refine WP_iload dX3_faultInParts_17 rfl ?_
          refine WQ_iconst (5) (5) dX3_faultInParts_19 rfl rfl (fun v17644 hv17644 => ?_)
          refine WQ_icmp_ge 125 dX3_faultInParts_20 rfl (fun c17644 => False.elim (by omega)) (fun c17644 => ?_)
          refine WP_aload_n dX3_faultInParts_23 rfl ?_
          refine WP_iload dX3_faultInParts_24 rfl ?_
          refine WS_call hz (i := 11) (by omega) dX3_faultInParts_26 ⟨⟨by decide, by decide⟩, zJ0_charAt_5068e⟩ lX3_92 vJ0_charAt_5068e (As := [.int v17641]) (rest := []) (j_charAt hz (i := 11) (k := v17641) (by omega) (by omega) (by have z9 : ((liN.getD 11 0 : Nat) : Int) = 4 := rfl; omega)) rfl rfl (Nat.le_of_ble_eq_true rfl) ?_
          intro r Ia Ja Ra hq
          obtain ⟨⟨ea, eb, ec⟩, v17646, rfl, cv17646⟩ := hq
          show WP _ _ _ _ (.int _ :: _) _ _ _ _
          rw [ea, eb, ec]
          clear ea eb ec Ia Ja Ra
          have hv17646 : v17646.toInt = 72 := cv17646.trans (by rw [show v17641.toInt.toNat = 2 by omega]; rfl)
          refine WP_istore (ls' := [(0, _), (1, _), (2, _), (3, _), (4, _), (5, _), (6, _), (7, _)]) dX3_faultInParts_29 (by decide) rfl ?_
          refine WP_iload dX3_faultInParts_31 rfl ?_
          refine WQ_bipush (97) (97) dX3_faultInParts_33 rfl rfl (fun v17647 hv17647 => ?_)
          refine WQ_icmp_lt 49 dX3_faultInParts_35 rfl (fun c17647 => ?_) (fun c17647 => False.elim (by omega))
          refine WQ_iconst (0) (0) dX3_faultInParts_49 rfl rfl (fun v17649 hv17649 => ?_)
          refine WP_istore (ls' := [(0, _), (1, _), (2, _), (3, _), (4, _), (5, _), (6, _), (7, _)]) dX3_faultInParts_50 (by decide) rfl ?_
          refine WP_aload_n dX3_faultInParts_52 rfl ?_
          refine WP_getr dX3_faultInParts_53 fX3_15 rfl (lyx_is hy 3 3 rfl) (rfx hr 3 2 1 (by decide)) ?_
          refine WQ_geti dX3_faultInParts_56 fX3_43 rfl (lyx_is hy 1 5 rfl) (BT_get hI17634.1 1 2 3 (0) (0) (4) (by decide) 2 (by decide) (by decide)) (fun v17650 ev17650 av17650 bv17650 => ?_)
          refine WP_iload dX3_faultInParts_59 rfl ?_
          refine WQ_if_eq 68 dX3_faultInParts_61 rfl (fun c17650 => ?_) (fun c17650 => False.elim (by omega))
          refine WQ_iconst (2) (2) dX3_faultInParts_68 rfl rfl (fun v17652 hv17652 => ?_)
          refine WQ_icmp_eq 74 dX3_faultInParts_69 rfl (fun c17652 => ?_) (fun c17652 => ?_)
          · refine WP_iload dX3_faultInParts_74 rfl ?_
            refine WQ_if_eq 92 dX3_faultInParts_76 rfl (fun c17653 => ?_) (fun c17653 => False.elim (by omega))
            refine WP_aload_n dX3_faultInParts_92 rfl ?_
            refine WP_iload dX3_faultInParts_93 rfl ?_
            refine WP_iload_n dX3_faultInParts_95 rfl ?_
            refine WP_iload dX3_faultInParts_96 rfl ?_
            refine WP_aload_n dX3_faultInParts_98 rfl ?_
            refine WP_callV4 (k := 3) dX3_faultInParts_99 ⟨⟨⟨by decide, by decide⟩, zX3_faultOfNumber⟩, lX3_100, by decide, rfl, vX3_faultOfNumber.1, vX3_faultOfNumber.2⟩ (lyx_is hy 3 3 rfl) (sx_part_27_1_2 hy hr hI17634 v17646 cz v17641 (by omega) (by omega) (by omega) (by omega) (by omega) (by omega)) (Nat.le_of_ble_eq_true rfl) ?_
            intro r I17655 J17656 Ra hq
            obtain ⟨⟨hI17655, ec, ⟨pI17655, sI17655_4_0, sI17655_4_1, sI17655_27_1, sI17655_27_2⟩⟩, v17657, rfl, av17657, bv17657, cv17657⟩ := hq
            show WP _ _ _ _ (.int _ :: _) _ _ _ _
            rw [ec]
            clear ec Ra
            have e17658 : I17655 (ad g 4) 1 = w17632 := by rw [sI17655_4_1]; exact e17638
            have e17659 : I17655 (ad g 27) 1 = w17579 := by rw [sI17655_27_1]; exact e17636
            have e17660 : I17655 (ad g 27) 2 = w17580 := by rw [sI17655_27_2]; exact e17637
            have e17661 : I17655 (ad g 1) 1 = L := hI17655.2
            have b17662 := BT_get hI17655.1 1 1 2 (0) (0) (900) (by decide) 1 (by decide) (by decide)
            rw [e17661] at b17662
            obtain ⟨w17663, ew17663⟩ : ∃ w : Int32, I17655 (ad g 4) 2 = w := ⟨_, rfl⟩
            have bw17663 := BT_get hI17655.1 4 0 5 (0) (0) (1000) (by decide) 2 (by decide) (by decide)
            rw [ew17663] at bw17663
            rw [ew17663] at cv17657
            refine WP_istore (ls' := [(0, _), (1, _), (2, _), (3, _), (4, _), (5, _), (6, _), (7, _)]) dX3_faultInParts_102 (by decide) rfl ?_
            refine WP_iload dX3_faultInParts_104 rfl ?_
            refine WQ_if_eq 112 dX3_faultInParts_106 rfl (fun c17663 => ?_) (fun c17663 => ?_)
            · refine WP_aload_n dX3_faultInParts_112 rfl ?_
              refine WP_getr dX3_faultInParts_113 fX3_15 rfl (lyx_is hy 3 3 rfl) (rfx hr 3 2 1 (by decide)) ?_
              refine WP_callV0 (k := 5) dX3_faultInParts_116 ⟨⟨⟨by decide, by decide⟩, zX5_next⟩, lX3_40, by decide, rfl, vX5_next.1, vX5_next.2⟩ (lyx_is hy 1 5 rfl) (sx_nextf hy hr hI17655  ) (Nat.le_of_ble_eq_true rfl) ?_
              intro r I17665 J17666 Ra hq
              obtain ⟨⟨hI17665, ec, fiI17665⟩, rfl⟩ := hq
              rw [ec]
              clear ec Ra
              have e17667 : I17665 (ad g 4) 1 = w17632 := by rw [fz_at fiI17665 4 (by decide) (by decide)]; exact e17658
              have e17668 : I17665 (ad g 27) 1 = w17579 := by rw [fz_at fiI17665 27 (by decide) (by decide)]; exact e17659
              have e17669 : I17665 (ad g 27) 2 = w17580 := by rw [fz_at fiI17665 27 (by decide) (by decide)]; exact e17660
              have e17670 : I17665 (ad g 4) 2 = w17663 := by rw [fz_at fiI17665 4 (by decide) (by decide)]; exact ew17663
              have e17671 : I17665 (ad g 1) 1 = L := hI17665.2
              have b17672 := BT_get hI17665.1 1 1 2 (0) (0) (900) (by decide) 1 (by decide) (by decide)
              rw [e17671] at b17672
              refine WP_iinc (ls' := [(0, _), (1, _), (2, _), (3, _), (4, _), (5, _), (6, _), (7, _)]) dX3_faultInParts_119 rfl (by decide) rfl ?_
              have hv17673 : (v17641 + Int32.ofInt (1)).toInt = v17641.toInt + (1) := ia_n rfl (by omega) (by omega)
              generalize v17641 + Int32.ofInt (1) = v17673 at hv17673 ⊢
              refine WP_goto 8 dX3_faultInParts_122 rfl ?_
              refine WP_iload dX3_faultInParts_8 rfl ?_
              refine WP_aload_n dX3_faultInParts_10 rfl ?_
              refine WS_call hz (i := 11) (by omega) dX3_faultInParts_11 ⟨⟨by decide, by decide⟩, zJ0_length_8abf5⟩ lX3_87 vJ0_length_8abf5 (As := []) (rest := [.int v17673]) (j_length hz (i := 11) (by omega)) rfl rfl (Nat.le_of_ble_eq_true rfl) ?_
              intro r Ia Ja Ra hq
              obtain ⟨⟨ea, eb, ec⟩, v17674, rfl, cv17674⟩ := hq
              show WP _ _ _ _ (.int _ :: _) _ _ _ _
              rw [ea, eb, ec]
              clear ea eb ec Ia Ja Ra
              have hv17674 : v17674.toInt = 4 := cv17674.trans rfl
              refine WQ_icmp_ge 125 dX3_faultInParts_14 rfl (fun c17674 => False.elim (by omega)) (fun c17674 => ?_)
              refine WP_iload dX3_faultInParts_17 rfl ?_
              refine WQ_iconst (5) (5) dX3_faultInParts_19 rfl rfl (fun v17676 hv17676 => ?_)
              refine WQ_icmp_ge 125 dX3_faultInParts_20 rfl (fun c17676 => False.elim (by omega)) (fun c17676 => ?_)
              refine WP_aload_n dX3_faultInParts_23 rfl ?_
              refine WP_iload dX3_faultInParts_24 rfl ?_
              refine WS_call hz (i := 11) (by omega) dX3_faultInParts_26 ⟨⟨by decide, by decide⟩, zJ0_charAt_5068e⟩ lX3_92 vJ0_charAt_5068e (As := [.int v17673]) (rest := []) (j_charAt hz (i := 11) (k := v17673) (by omega) (by omega) (by have z9 : ((liN.getD 11 0 : Nat) : Int) = 4 := rfl; omega)) rfl rfl (Nat.le_of_ble_eq_true rfl) ?_
              intro r Ia Ja Ra hq
              obtain ⟨⟨ea, eb, ec⟩, v17678, rfl, cv17678⟩ := hq
              show WP _ _ _ _ (.int _ :: _) _ _ _ _
              rw [ea, eb, ec]
              clear ea eb ec Ia Ja Ra
              have hv17678 : v17678.toInt = 67 := cv17678.trans (by rw [show v17673.toInt.toNat = 3 by omega]; rfl)
              refine WP_istore (ls' := [(0, _), (1, _), (2, _), (3, _), (4, _), (5, _), (6, _), (7, _)]) dX3_faultInParts_29 (by decide) rfl ?_
              refine WP_iload dX3_faultInParts_31 rfl ?_
              refine WQ_bipush (97) (97) dX3_faultInParts_33 rfl rfl (fun v17679 hv17679 => ?_)
              refine WQ_icmp_lt 49 dX3_faultInParts_35 rfl (fun c17679 => ?_) (fun c17679 => False.elim (by omega))
              refine WQ_iconst (0) (0) dX3_faultInParts_49 rfl rfl (fun v17681 hv17681 => ?_)
              refine WP_istore (ls' := [(0, _), (1, _), (2, _), (3, _), (4, _), (5, _), (6, _), (7, _)]) dX3_faultInParts_50 (by decide) rfl ?_
              refine WP_aload_n dX3_faultInParts_52 rfl ?_
              refine WP_getr dX3_faultInParts_53 fX3_15 rfl (lyx_is hy 3 3 rfl) (rfx hr 3 2 1 (by decide)) ?_
              refine WQ_geti dX3_faultInParts_56 fX3_43 rfl (lyx_is hy 1 5 rfl) (BT_get hI17665.1 1 2 3 (0) (0) (4) (by decide) 2 (by decide) (by decide)) (fun v17682 ev17682 av17682 bv17682 => ?_)
              refine WP_iload dX3_faultInParts_59 rfl ?_
              refine WQ_if_eq 68 dX3_faultInParts_61 rfl (fun c17682 => ?_) (fun c17682 => False.elim (by omega))
              refine WQ_iconst (2) (2) dX3_faultInParts_68 rfl rfl (fun v17684 hv17684 => ?_)
              refine WQ_icmp_eq 74 dX3_faultInParts_69 rfl (fun c17684 => ?_) (fun c17684 => ?_)
              · refine WP_iload dX3_faultInParts_74 rfl ?_
                refine WQ_if_eq 92 dX3_faultInParts_76 rfl (fun c17685 => ?_) (fun c17685 => False.elim (by omega))
                refine WP_aload_n dX3_faultInParts_92 rfl ?_
                refine WP_iload dX3_faultInParts_93 rfl ?_
                refine WP_iload_n dX3_faultInParts_95 rfl ?_
                refine WP_iload dX3_faultInParts_96 rfl ?_
                refine WP_aload_n dX3_faultInParts_98 rfl ?_
                refine WP_callV4 (k := 3) dX3_faultInParts_99 ⟨⟨⟨by decide, by decide⟩, zX3_faultOfNumber⟩, lX3_100, by decide, rfl, vX3_faultOfNumber.1, vX3_faultOfNumber.2⟩ (lyx_is hy 3 3 rfl) (sx_part_27_1_3 hy hr hI17665 v17678 cz v17673 (by omega) (by omega) (by omega) (by omega) (by omega) (by omega)) (Nat.le_of_ble_eq_true rfl) ?_
                intro r I17687 J17688 Ra hq
                obtain ⟨⟨hI17687, ec, ⟨pI17687, sI17687_4_0, sI17687_4_1, sI17687_4_2, sI17687_27_1, sI17687_27_2⟩⟩, v17689, rfl, av17689, bv17689, cv17689⟩ := hq
                show WP _ _ _ _ (.int _ :: _) _ _ _ _
                rw [ec]
                clear ec Ra
                have e17690 : I17687 (ad g 4) 1 = w17632 := by rw [sI17687_4_1]; exact e17667
                have e17691 : I17687 (ad g 4) 2 = w17663 := by rw [sI17687_4_2]; exact e17670
                have e17692 : I17687 (ad g 27) 1 = w17579 := by rw [sI17687_27_1]; exact e17668
                have e17693 : I17687 (ad g 27) 2 = w17580 := by rw [sI17687_27_2]; exact e17669
                have e17694 : I17687 (ad g 1) 1 = L := hI17687.2
                have b17695 := BT_get hI17687.1 1 1 2 (0) (0) (900) (by decide) 1 (by decide) (by decide)
                rw [e17694] at b17695
                obtain ⟨w17696, ew17696⟩ : ∃ w : Int32, I17687 (ad g 4) 3 = w := ⟨_, rfl⟩
                have bw17696 := BT_get hI17687.1 4 0 5 (0) (0) (1000) (by decide) 3 (by decide) (by decide)
                rw [ew17696] at bw17696
                rw [ew17696] at cv17689
                refine WP_istore (ls' := [(0, _), (1, _), (2, _), (3, _), (4, _), (5, _), (6, _), (7, _)]) dX3_faultInParts_102 (by decide) rfl ?_
                refine WP_iload dX3_faultInParts_104 rfl ?_
                refine WQ_if_eq 112 dX3_faultInParts_106 rfl (fun c17696 => ?_) (fun c17696 => ?_)
                · refine WP_aload_n dX3_faultInParts_112 rfl ?_
                  refine WP_getr dX3_faultInParts_113 fX3_15 rfl (lyx_is hy 3 3 rfl) (rfx hr 3 2 1 (by decide)) ?_
                  refine WP_callV0 (k := 5) dX3_faultInParts_116 ⟨⟨⟨by decide, by decide⟩, zX5_next⟩, lX3_40, by decide, rfl, vX5_next.1, vX5_next.2⟩ (lyx_is hy 1 5 rfl) (sx_nextf hy hr hI17687  ) (Nat.le_of_ble_eq_true rfl) ?_
                  intro r I17698 J17699 Ra hq
                  obtain ⟨⟨hI17698, ec, fiI17698⟩, rfl⟩ := hq
                  rw [ec]
                  clear ec Ra
                  have e17700 : I17698 (ad g 4) 1 = w17632 := by rw [fz_at fiI17698 4 (by decide) (by decide)]; exact e17690
                  have e17701 : I17698 (ad g 4) 2 = w17663 := by rw [fz_at fiI17698 4 (by decide) (by decide)]; exact e17691
                  have e17702 : I17698 (ad g 27) 1 = w17579 := by rw [fz_at fiI17698 27 (by decide) (by decide)]; exact e17692
                  have e17703 : I17698 (ad g 27) 2 = w17580 := by rw [fz_at fiI17698 27 (by decide) (by decide)]; exact e17693
                  have e17704 : I17698 (ad g 4) 3 = w17696 := by rw [fz_at fiI17698 4 (by decide) (by decide)]; exact ew17696
                  have e17705 : I17698 (ad g 1) 1 = L := hI17698.2
                  have b17706 := BT_get hI17698.1 1 1 2 (0) (0) (900) (by decide) 1 (by decide) (by decide)
                  rw [e17705] at b17706
                  refine WP_iinc (ls' := [(0, _), (1, _), (2, _), (3, _), (4, _), (5, _), (6, _), (7, _)]) dX3_faultInParts_119 rfl (by decide) rfl ?_
                  have hv17707 : (v17673 + Int32.ofInt (1)).toInt = v17673.toInt + (1) := ia_n rfl (by omega) (by omega)
                  generalize v17673 + Int32.ofInt (1) = v17707 at hv17707 ⊢
                  refine WP_goto 8 dX3_faultInParts_122 rfl ?_
                  refine WP_iload dX3_faultInParts_8 rfl ?_
                  refine WP_aload_n dX3_faultInParts_10 rfl ?_
                  refine WS_call hz (i := 11) (by omega) dX3_faultInParts_11 ⟨⟨by decide, by decide⟩, zJ0_length_8abf5⟩ lX3_87 vJ0_length_8abf5 (As := []) (rest := [.int v17707]) (j_length hz (i := 11) (by omega)) rfl rfl (Nat.le_of_ble_eq_true rfl) ?_
                  intro r Ia Ja Ra hq
                  obtain ⟨⟨ea, eb, ec⟩, v17708, rfl, cv17708⟩ := hq
                  show WP _ _ _ _ (.int _ :: _) _ _ _ _
                  rw [ea, eb, ec]
                  clear ea eb ec Ia Ja Ra
                  have hv17708 : v17708.toInt = 4 := cv17708.trans rfl
                  refine WQ_icmp_ge 125 dX3_faultInParts_14 rfl (fun c17708 => ?_) (fun c17708 => False.elim (by omega))
                  refine WP_aload_n dX3_faultInParts_125 rfl ?_
                  refine WP_getr dX3_faultInParts_126 fX3_15 rfl (lyx_is hy 3 3 rfl) (rfx hr 3 2 1 (by decide)) ?_
                  refine WQ_geti dX3_faultInParts_129 fX3_43 rfl (lyx_is hy 1 5 rfl) (BT_get hI17698.1 1 2 3 (0) (0) (4) (by decide) 2 (by decide) (by decide)) (fun v17710 ev17710 av17710 bv17710 => ?_)
                  refine WQ_iconst (3) (3) dX3_faultInParts_132 rfl rfl (fun v17711 hv17711 => ?_)
                  refine WQ_icmp_ne 140 dX3_faultInParts_133 rfl (fun c17711 => ?_) (fun c17711 => ?_)
                  · refine WQ_iconst (1) (1) dX3_faultInParts_140 rfl rfl (fun v17713 hv17713 => ?_)
                    exact WP_iret dX3_faultInParts_141 rfl ⟨⟨hI17698, rfl, ⟨trivial, (by rw [e17702, ew17579] <;> exact (eq32 _ _).mpr (by omega)), (by rw [e17703, ew17580] <;> exact (eq32 _ _).mpr (by omega))⟩⟩, _, rfl, by omega, by omega, by (try rw [e17700]; try rw [e17701]; try rw [e17704]); omega⟩
                  · refine WQ_iconst (0) (0) dX3_faultInParts_136 rfl rfl (fun v17714 hv17714 => ?_)
                    refine WP_goto 141 dX3_faultInParts_137 rfl ?_
                    exact WP_iret dX3_faultInParts_141 rfl ⟨⟨hI17698, rfl, ⟨trivial, (by rw [e17702, ew17579] <;> exact (eq32 _ _).mpr (by omega)), (by rw [e17703, ew17580] <;> exact (eq32 _ _).mpr (by omega))⟩⟩, _, rfl, by omega, by omega, by (try rw [e17700]; try rw [e17701]; try rw [e17704]); omega⟩
                · refine WP_iload dX3_faultInParts_109 rfl ?_
                  exact WP_iret dX3_faultInParts_111 rfl ⟨⟨hI17687, rfl, ⟨trivial, (by rw [e17692, ew17579] <;> exact (eq32 _ _).mpr (by omega)), (by rw [e17693, ew17580] <;> exact (eq32 _ _).mpr (by omega))⟩⟩, _, rfl, by omega, by omega, by (try rw [e17690]; try rw [e17691]; try rw [ew17696]); omega⟩
              · refine WQ_iconst (1) (1) dX3_faultInParts_72 rfl rfl (fun v17715 hv17715 => ?_)
                obtain ⟨w17716, ew17716⟩ : ∃ w : Int32, I17665 (ad g 4) 3 = w := ⟨_, rfl⟩
                have bw17716 := BT_get hI17665.1 4 0 5 (0) (0) (1000) (by decide) 3 (by decide) (by decide)
                rw [ew17716] at bw17716
                exact WP_iret dX3_faultInParts_73 rfl ⟨⟨hI17665, rfl, ⟨trivial, (by rw [e17668, ew17579] <;> exact (eq32 _ _).mpr (by omega)), (by rw [e17669, ew17580] <;> exact (eq32 _ _).mpr (by omega))⟩⟩, _, rfl, by omega, by omega, by (try rw [e17667]; try rw [e17670]; try rw [ew17716]); omega⟩
            · refine WP_iload dX3_faultInParts_109 rfl ?_
              obtain ⟨w17717, ew17717⟩ : ∃ w : Int32, I17655 (ad g 4) 3 = w := ⟨_, rfl⟩
              have bw17717 := BT_get hI17655.1 4 0 5 (0) (0) (1000) (by decide) 3 (by decide) (by decide)
              rw [ew17717] at bw17717
              exact WP_iret dX3_faultInParts_111 rfl ⟨⟨hI17655, rfl, ⟨trivial, (by rw [e17659, ew17579] <;> exact (eq32 _ _).mpr (by omega)), (by rw [e17660, ew17580] <;> exact (eq32 _ _).mpr (by omega))⟩⟩, _, rfl, by omega, by omega, by (try rw [e17658]; try rw [ew17663]; try rw [ew17717]); omega⟩
          · refine WQ_iconst (1) (1) dX3_faultInParts_72 rfl rfl (fun v17718 hv17718 => ?_)
            obtain ⟨w17719, ew17719⟩ : ∃ w : Int32, I17634 (ad g 4) 2 = w := ⟨_, rfl⟩
            have bw17719 := BT_get hI17634.1 4 0 5 (0) (0) (1000) (by decide) 2 (by decide) (by decide)
            rw [ew17719] at bw17719
            obtain ⟨w17720, ew17720⟩ : ∃ w : Int32, I17634 (ad g 4) 3 = w := ⟨_, rfl⟩
            have bw17720 := BT_get hI17634.1 4 0 5 (0) (0) (1000) (by decide) 3 (by decide) (by decide)
            rw [ew17720] at bw17720
            exact WP_iret dX3_faultInParts_73 rfl ⟨⟨hI17634, rfl, ⟨trivial, (by rw [e17636, ew17579] <;> exact (eq32 _ _).mpr (by omega)), (by rw [e17637, ew17580] <;> exact (eq32 _ _).mpr (by omega))⟩⟩, _, rfl, by omega, by omega, by (try rw [e17638]; try rw [ew17719]; try rw [ew17720]); omega⟩
        · refine WP_iload dX3_faultInParts_109 rfl ?_
          obtain ⟨w17721, ew17721⟩ : ∃ w : Int32, I17625 (ad g 4) 2 = w := ⟨_, rfl⟩
          have bw17721 := BT_get hI17625.1 4 0 5 (0) (0) (1000) (by decide) 2 (by decide) (by decide)
          rw [ew17721] at bw17721
          obtain ⟨w17722, ew17722⟩ : ∃ w : Int32, I17625 (ad g 4) 3 = w := ⟨_, rfl⟩
          have bw17722 := BT_get hI17625.1 4 0 5 (0) (0) (1000) (by decide) 3 (by decide) (by decide)
          rw [ew17722] at bw17722
          exact WP_iret dX3_faultInParts_111 rfl ⟨⟨hI17625, rfl, ⟨trivial, (by rw [e17628, ew17579] <;> exact (eq32 _ _).mpr (by omega)), (by rw [e17629, ew17580] <;> exact (eq32 _ _).mpr (by omega))⟩⟩, _, rfl, by omega, by omega, by (try rw [ew17632]; try rw [ew17721]; try rw [ew17722]); omega⟩
      · refine WQ_iconst (1) (1) dX3_faultInParts_72 rfl rfl (fun v17723 hv17723 => ?_)
        obtain ⟨w17724, ew17724⟩ : ∃ w : Int32, I17605 (ad g 4) 1 = w := ⟨_, rfl⟩
        have bw17724 := BT_get hI17605.1 4 0 5 (0) (0) (1000) (by decide) 1 (by decide) (by decide)
        rw [ew17724] at bw17724
        obtain ⟨w17725, ew17725⟩ : ∃ w : Int32, I17605 (ad g 4) 2 = w := ⟨_, rfl⟩
        have bw17725 := BT_get hI17605.1 4 0 5 (0) (0) (1000) (by decide) 2 (by decide) (by decide)
        rw [ew17725] at bw17725
        obtain ⟨w17726, ew17726⟩ : ∃ w : Int32, I17605 (ad g 4) 3 = w := ⟨_, rfl⟩
        have bw17726 := BT_get hI17605.1 4 0 5 (0) (0) (1000) (by decide) 3 (by decide) (by decide)
        rw [ew17726] at bw17726
        exact WP_iret dX3_faultInParts_73 rfl ⟨⟨hI17605, rfl, ⟨trivial, (by rw [e17607, ew17579] <;> exact (eq32 _ _).mpr (by omega)), (by rw [e17608, ew17580] <;> exact (eq32 _ _).mpr (by omega))⟩⟩, _, rfl, by omega, by omega, by (try rw [ew17724]; try rw [ew17725]; try rw [ew17726]); omega⟩
    · refine WP_iload dX3_faultInParts_109 rfl ?_
      obtain ⟨w17727, ew17727⟩ : ∃ w : Int32, I17597 (ad g 4) 1 = w := ⟨_, rfl⟩
      have bw17727 := BT_get hI17597.1 4 0 5 (0) (0) (1000) (by decide) 1 (by decide) (by decide)
      rw [ew17727] at bw17727
      obtain ⟨w17728, ew17728⟩ : ∃ w : Int32, I17597 (ad g 4) 2 = w := ⟨_, rfl⟩
      have bw17728 := BT_get hI17597.1 4 0 5 (0) (0) (1000) (by decide) 2 (by decide) (by decide)
      rw [ew17728] at bw17728
      obtain ⟨w17729, ew17729⟩ : ∃ w : Int32, I17597 (ad g 4) 3 = w := ⟨_, rfl⟩
      have bw17729 := BT_get hI17597.1 4 0 5 (0) (0) (1000) (by decide) 3 (by decide) (by decide)
      rw [ew17729] at bw17729
      exact WP_iret dX3_faultInParts_111 rfl ⟨⟨hI17597, rfl, ⟨trivial, (by rw [e17600, ew17579] <;> exact (eq32 _ _).mpr (by omega)), (by rw [e17601, ew17580] <;> exact (eq32 _ _).mpr (by omega))⟩⟩, _, rfl, by omega, by omega, by (try rw [ew17727]; try rw [ew17728]; try rw [ew17729]); omega⟩
  · refine WQ_iconst (1) (1) dX3_faultInParts_72 rfl rfl (fun v17730 hv17730 => ?_)
    obtain ⟨w17731, ew17731⟩ : ∃ w : Int32, I (ad g 4) 1 = w := ⟨_, rfl⟩
    have bw17731 := BT_get hI.1 4 0 5 (0) (0) (1000) (by decide) 1 (by decide) (by decide)
    rw [ew17731] at bw17731
    obtain ⟨w17732, ew17732⟩ : ∃ w : Int32, I (ad g 4) 2 = w := ⟨_, rfl⟩
    have bw17732 := BT_get hI.1 4 0 5 (0) (0) (1000) (by decide) 2 (by decide) (by decide)
    rw [ew17732] at bw17732
    obtain ⟨w17733, ew17733⟩ : ∃ w : Int32, I (ad g 4) 3 = w := ⟨_, rfl⟩
    have bw17733 := BT_get hI.1 4 0 5 (0) (0) (1000) (by decide) 3 (by decide) (by decide)
    rw [ew17733] at bw17733
    exact WP_iret dX3_faultInParts_73 rfl ⟨⟨hI, rfl, ⟨trivial, rfl, rfl⟩⟩, _, rfl, by omega, by omega, by (try rw [ew17731]; try rw [ew17732]; try rw [ew17733]); omega⟩
set_option maxHeartbeats 4000000 in
set_option maxRecDepth 100000 in
theorem sx_parts_27_2 {g : GG} {n : Int} {L : Int32} (hy : LyX g) {aK aV : Nat → Nat} {fo : Option Nat} (hz : HZ g aK aV fo)  {I : pI} {J : pJ} {R : pR} (hr : RfX g R) (hI : XI g n L I) (cz : Int32) (cz_lo : 2 ≤ cz.toInt) (cz_hi : cz.toInt ≤ 2) (hb : (I (ad g 27) 2).toInt ≤ 2) : SP g mX3_faultInParts [.ref (ad g 3), .int cz, .ref (ad g 27)] I J R (fun r I' J' R' => (XI g n L I' ∧ R' = R ∧ True ∧ I' (ad g 27) 1 = I (ad g 27) 1 ∧ I' (ad g 27) 2 = I (ad g 27) 2) ∧ ∃ v : Int32, r = some (.int v) ∧ 0 ≤ v.toInt ∧ v.toInt ≤ 5 ∧ (v.toInt = 0 → (I' (ad g 4) 1).toInt ≤ 1000 ∧ (I' (ad g 4) 2).toInt ≤ 9)) := by
  refine SP_of ⟨by decide, rfl⟩ (Nat.le_of_ble_eq_true rfl) ?_
  have e17734 : I (ad g 1) 1 = L := hI.2
  have b17735 := BT_get hI.1 1 1 2 (0) (0) (900) (by decide) 1 (by decide) (by decide)
  rw [e17734] at b17735
  obtain ⟨w17736, ew17736⟩ : ∃ w : Int32, I (ad g 27) 1 = w := ⟨_, rfl⟩
  have bw17736 := BT_get hI.1 27 1 2 (0) (0) (4) (by decide) 1 (by decide) (by decide)
  rw [ew17736] at bw17736
  obtain ⟨w17737, ew17737⟩ : ∃ w : Int32, I (ad g 27) 2 = w := ⟨_, rfl⟩
  have bw17737 := BT_get hI.1 27 2 3 (0) (0) (3) (by decide) 2 (by decide) (by decide)
  rw [ew17737] at bw17737
  rw [ew17737] at hb
  refine WP_iload_n dX3_faultInParts_0 rfl ?_
  refine WP_callS1 dX3_faultInParts_1 ⟨⟨⟨by decide, by decide⟩, zX3_shapeOf⟩, lX3_84, tX3_shapeOf⟩ (sx_shapeOf hy hz hr hI cz (by omega) (by omega)) (Nat.le_of_ble_eq_true rfl) ?_
  intro r Ia Ja Ra hq
  obtain ⟨⟨ea, eb, ec⟩, rfl⟩ := hq
  show WP _ _ _ _ (.ref _ :: _) _ _ _ _
  rw [show 10 + cz.toInt.toNat = 12 by omega]
  rw [ea, eb, ec]
  clear ea eb ec Ia Ja Ra
  refine WP_astore_n (ls' := [(0, _), (1, _), (2, _), (3, _)]) dX3_faultInParts_4 (by decide) rfl ?_
  refine WQ_iconst (0) (0) dX3_faultInParts_5 rfl rfl (fun v17738 hv17738 => ?_)
  refine WP_istore (ls' := [(0, _), (1, _), (2, _), (3, _), (4, _)]) dX3_faultInParts_6 (by decide) rfl ?_
  refine WP_iload dX3_faultInParts_8 rfl ?_
  refine WP_aload_n dX3_faultInParts_10 rfl ?_
  refine WS_call hz (i := 12) (by omega) dX3_faultInParts_11 ⟨⟨by decide, by decide⟩, zJ0_length_8abf5⟩ lX3_87 vJ0_length_8abf5 (As := []) (rest := [.int v17738]) (j_length hz (i := 12) (by omega)) rfl rfl (Nat.le_of_ble_eq_true rfl) ?_
  intro r Ia Ja Ra hq
  obtain ⟨⟨ea, eb, ec⟩, v17739, rfl, cv17739⟩ := hq
  show WP _ _ _ _ (.int _ :: _) _ _ _ _
  rw [ea, eb, ec]
  clear ea eb ec Ia Ja Ra
  have hv17739 : v17739.toInt = 3 := cv17739.trans rfl
  refine WQ_icmp_ge 125 dX3_faultInParts_14 rfl (fun c17739 => False.elim (by omega)) (fun c17739 => ?_)
  refine WP_iload dX3_faultInParts_17 rfl ?_
  refine WQ_iconst (5) (5) dX3_faultInParts_19 rfl rfl (fun v17741 hv17741 => ?_)
  refine WQ_icmp_ge 125 dX3_faultInParts_20 rfl (fun c17741 => False.elim (by omega)) (fun c17741 => ?_)
  refine WP_aload_n dX3_faultInParts_23 rfl ?_
  refine WP_iload dX3_faultInParts_24 rfl ?_
  refine WS_call hz (i := 12) (by omega) dX3_faultInParts_26 ⟨⟨by decide, by decide⟩, zJ0_charAt_5068e⟩ lX3_92 vJ0_charAt_5068e (As := [.int v17738]) (rest := []) (j_charAt hz (i := 12) (k := v17738) (by omega) (by omega) (by have z9 : ((liN.getD 12 0 : Nat) : Int) = 3 := rfl; omega)) rfl rfl (Nat.le_of_ble_eq_true rfl) ?_
  intro r Ia Ja Ra hq
  obtain ⟨⟨ea, eb, ec⟩, v17743, rfl, cv17743⟩ := hq
  show WP _ _ _ _ (.int _ :: _) _ _ _ _
  rw [ea, eb, ec]
  clear ea eb ec Ia Ja Ra
  have hv17743 : v17743.toInt = 109 := cv17743.trans (by rw [show v17738.toInt.toNat = 0 by omega]; rfl)
  refine WP_istore (ls' := [(0, _), (1, _), (2, _), (3, _), (4, _), (5, _)]) dX3_faultInParts_29 (by decide) rfl ?_
  refine WP_iload dX3_faultInParts_31 rfl ?_
  refine WQ_bipush (97) (97) dX3_faultInParts_33 rfl rfl (fun v17744 hv17744 => ?_)
  refine WQ_icmp_lt 49 dX3_faultInParts_35 rfl (fun c17744 => False.elim (by omega)) (fun c17744 => ?_)
  refine WP_iload dX3_faultInParts_38 rfl ?_
  refine WQ_bipush (122) (122) dX3_faultInParts_40 rfl rfl (fun v17746 hv17746 => ?_)
  refine WQ_icmp_gt 49 dX3_faultInParts_42 rfl (fun c17746 => False.elim (by omega)) (fun c17746 => ?_)
  refine WQ_iconst (1) (1) dX3_faultInParts_45 rfl rfl (fun v17748 hv17748 => ?_)
  refine WP_goto 50 dX3_faultInParts_46 rfl ?_
  refine WP_istore (ls' := [(0, _), (1, _), (2, _), (3, _), (4, _), (5, _), (6, _)]) dX3_faultInParts_50 (by decide) rfl ?_
  refine WP_aload_n dX3_faultInParts_52 rfl ?_
  refine WP_getr dX3_faultInParts_53 fX3_15 rfl (lyx_is hy 3 3 rfl) (rfx hr 3 2 1 (by decide)) ?_
  refine WQ_geti dX3_faultInParts_56 fX3_43 rfl (lyx_is hy 1 5 rfl) (BT_get hI.1 1 2 3 (0) (0) (4) (by decide) 2 (by decide) (by decide)) (fun v17749 ev17749 av17749 bv17749 => ?_)
  refine WP_iload dX3_faultInParts_59 rfl ?_
  refine WQ_if_eq 68 dX3_faultInParts_61 rfl (fun c17749 => False.elim (by omega)) (fun c17749 => ?_)
  refine WQ_iconst (1) (1) dX3_faultInParts_64 rfl rfl (fun v17751 hv17751 => ?_)
  refine WP_goto 69 dX3_faultInParts_65 rfl ?_
  refine WQ_icmp_eq 74 dX3_faultInParts_69 rfl (fun c17751 => ?_) (fun c17751 => ?_)
  · refine WP_iload dX3_faultInParts_74 rfl ?_
    refine WQ_if_eq 92 dX3_faultInParts_76 rfl (fun c17752 => False.elim (by omega)) (fun c17752 => ?_)
    refine WP_aload_n dX3_faultInParts_79 rfl ?_
    refine WP_iload dX3_faultInParts_80 rfl ?_
    refine WP_iload_n dX3_faultInParts_82 rfl ?_
    refine WP_iload dX3_faultInParts_83 rfl ?_
    refine WP_aload_n dX3_faultInParts_85 rfl ?_
    refine WP_callV4 (k := 3) dX3_faultInParts_86 ⟨⟨⟨by decide, by decide⟩, zX3_faultOfName⟩, lX3_96, by decide, rfl, vX3_faultOfName.1, vX3_faultOfName.2⟩ (lyx_is hy 3 3 rfl) (sx_part_27_2_0 hy hr hI v17743 cz v17738 (by omega) (by omega) (by omega) (by omega) (by omega) (by omega) (by rw [ew17737]; omega)) (Nat.le_of_ble_eq_true rfl) ?_
    intro r I17754 J17755 Ra hq
    obtain ⟨⟨hI17754, ec, ⟨pI17754, sI17754_27_1, sI17754_27_2⟩⟩, v17756, rfl, av17756, bv17756⟩ := hq
    show WP _ _ _ _ (.int _ :: _) _ _ _ _
    rw [ec]
    clear ec Ra
    have e17757 : I17754 (ad g 27) 1 = w17736 := by rw [sI17754_27_1]; exact ew17736
    have e17758 : I17754 (ad g 27) 2 = w17737 := by rw [sI17754_27_2]; exact ew17737
    have e17759 : I17754 (ad g 1) 1 = L := hI17754.2
    have b17760 := BT_get hI17754.1 1 1 2 (0) (0) (900) (by decide) 1 (by decide) (by decide)
    rw [e17759] at b17760
    refine WP_goto 102 dX3_faultInParts_89 rfl ?_
    refine WP_istore (ls' := [(0, _), (1, _), (2, _), (3, _), (4, _), (5, _), (6, _), (7, _)]) dX3_faultInParts_102 (by decide) rfl ?_
    refine WP_iload dX3_faultInParts_104 rfl ?_
    refine WQ_if_eq 112 dX3_faultInParts_106 rfl (fun c17760 => ?_) (fun c17760 => ?_)
    · refine WP_aload_n dX3_faultInParts_112 rfl ?_
      refine WP_getr dX3_faultInParts_113 fX3_15 rfl (lyx_is hy 3 3 rfl) (rfx hr 3 2 1 (by decide)) ?_
      refine WP_callV0 (k := 5) dX3_faultInParts_116 ⟨⟨⟨by decide, by decide⟩, zX5_next⟩, lX3_40, by decide, rfl, vX5_next.1, vX5_next.2⟩ (lyx_is hy 1 5 rfl) (sx_nextf hy hr hI17754  ) (Nat.le_of_ble_eq_true rfl) ?_
      intro r I17762 J17763 Ra hq
      obtain ⟨⟨hI17762, ec, fiI17762⟩, rfl⟩ := hq
      rw [ec]
      clear ec Ra
      have e17764 : I17762 (ad g 27) 1 = w17736 := by rw [fz_at fiI17762 27 (by decide) (by decide)]; exact e17757
      have e17765 : I17762 (ad g 27) 2 = w17737 := by rw [fz_at fiI17762 27 (by decide) (by decide)]; exact e17758
      have e17766 : I17762 (ad g 1) 1 = L := hI17762.2
      have b17767 := BT_get hI17762.1 1 1 2 (0) (0) (900) (by decide) 1 (by decide) (by decide)
      rw [e17766] at b17767
      refine WP_iinc (ls' := [(0, _), (1, _), (2, _), (3, _), (4, _), (5, _), (6, _), (7, _)]) dX3_faultInParts_119 rfl (by decide) rfl ?_
      have hv17768 : (v17738 + Int32.ofInt (1)).toInt = v17738.toInt + (1) := ia_n rfl (by omega) (by omega)
      generalize v17738 + Int32.ofInt (1) = v17768 at hv17768 ⊢
      refine WP_goto 8 dX3_faultInParts_122 rfl ?_
      refine WP_iload dX3_faultInParts_8 rfl ?_
      refine WP_aload_n dX3_faultInParts_10 rfl ?_
      refine WS_call hz (i := 12) (by omega) dX3_faultInParts_11 ⟨⟨by decide, by decide⟩, zJ0_length_8abf5⟩ lX3_87 vJ0_length_8abf5 (As := []) (rest := [.int v17768]) (j_length hz (i := 12) (by omega)) rfl rfl (Nat.le_of_ble_eq_true rfl) ?_
      intro r Ia Ja Ra hq
      obtain ⟨⟨ea, eb, ec⟩, v17769, rfl, cv17769⟩ := hq
      show WP _ _ _ _ (.int _ :: _) _ _ _ _
      rw [ea, eb, ec]
      clear ea eb ec Ia Ja Ra
      have hv17769 : v17769.toInt = 3 := cv17769.trans rfl
      refine WQ_icmp_ge 125 dX3_faultInParts_14 rfl (fun c17769 => False.elim (by omega)) (fun c17769 => ?_)
      refine WP_iload dX3_faultInParts_17 rfl ?_
      refine WQ_iconst (5) (5) dX3_faultInParts_19 rfl rfl (fun v17771 hv17771 => ?_)
      refine WQ_icmp_ge 125 dX3_faultInParts_20 rfl (fun c17771 => False.elim (by omega)) (fun c17771 => ?_)
      refine WP_aload_n dX3_faultInParts_23 rfl ?_
      refine WP_iload dX3_faultInParts_24 rfl ?_
      refine WS_call hz (i := 12) (by omega) dX3_faultInParts_26 ⟨⟨by decide, by decide⟩, zJ0_charAt_5068e⟩ lX3_92 vJ0_charAt_5068e (As := [.int v17768]) (rest := []) (j_charAt hz (i := 12) (k := v17768) (by omega) (by omega) (by have z9 : ((liN.getD 12 0 : Nat) : Int) = 3 := rfl; omega)) rfl rfl (Nat.le_of_ble_eq_true rfl) ?_
      intro r Ia Ja Ra hq
      obtain ⟨⟨ea, eb, ec⟩, v17773, rfl, cv17773⟩ := hq
      show WP _ _ _ _ (.int _ :: _) _ _ _ _
      rw [ea, eb, ec]
      clear ea eb ec Ia Ja Ra
      have hv17773 : v17773.toInt = 72 := cv17773.trans (by rw [show v17768.toInt.toNat = 1 by omega]; rfl)
      refine WP_istore (ls' := [(0, _), (1, _), (2, _), (3, _), (4, _), (5, _), (6, _), (7, _)]) dX3_faultInParts_29 (by decide) rfl ?_
      refine WP_iload dX3_faultInParts_31 rfl ?_
      refine WQ_bipush (97) (97) dX3_faultInParts_33 rfl rfl (fun v17774 hv17774 => ?_)
      refine WQ_icmp_lt 49 dX3_faultInParts_35 rfl (fun c17774 => ?_) (fun c17774 => False.elim (by omega))
      refine WQ_iconst (0) (0) dX3_faultInParts_49 rfl rfl (fun v17776 hv17776 => ?_)
      refine WP_istore (ls' := [(0, _), (1, _), (2, _), (3, _), (4, _), (5, _), (6, _), (7, _)]) dX3_faultInParts_50 (by decide) rfl ?_
      refine WP_aload_n dX3_faultInParts_52 rfl ?_
      refine WP_getr dX3_faultInParts_53 fX3_15 rfl (lyx_is hy 3 3 rfl) (rfx hr 3 2 1 (by decide)) ?_
      refine WQ_geti dX3_faultInParts_56 fX3_43 rfl (lyx_is hy 1 5 rfl) (BT_get hI17762.1 1 2 3 (0) (0) (4) (by decide) 2 (by decide) (by decide)) (fun v17777 ev17777 av17777 bv17777 => ?_)
      refine WP_iload dX3_faultInParts_59 rfl ?_
      refine WQ_if_eq 68 dX3_faultInParts_61 rfl (fun c17777 => ?_) (fun c17777 => False.elim (by omega))
      refine WQ_iconst (2) (2) dX3_faultInParts_68 rfl rfl (fun v17779 hv17779 => ?_)
      refine WQ_icmp_eq 74 dX3_faultInParts_69 rfl (fun c17779 => ?_) (fun c17779 => ?_)
      · refine WP_iload dX3_faultInParts_74 rfl ?_
        refine WQ_if_eq 92 dX3_faultInParts_76 rfl (fun c17780 => ?_) (fun c17780 => False.elim (by omega))
        refine WP_aload_n dX3_faultInParts_92 rfl ?_
        refine WP_iload dX3_faultInParts_93 rfl ?_
        refine WP_iload_n dX3_faultInParts_95 rfl ?_
        refine WP_iload dX3_faultInParts_96 rfl ?_
        refine WP_aload_n dX3_faultInParts_98 rfl ?_
        refine WP_callV4 (k := 3) dX3_faultInParts_99 ⟨⟨⟨by decide, by decide⟩, zX3_faultOfNumber⟩, lX3_100, by decide, rfl, vX3_faultOfNumber.1, vX3_faultOfNumber.2⟩ (lyx_is hy 3 3 rfl) (sx_part_27_2_1 hy hr hI17762 v17773 cz v17768 (by omega) (by omega) (by omega) (by omega) (by omega) (by omega)) (Nat.le_of_ble_eq_true rfl) ?_
        intro r I17782 J17783 Ra hq
        obtain ⟨⟨hI17782, ec, ⟨pI17782, sI17782_4_0, sI17782_27_1, sI17782_27_2⟩⟩, v17784, rfl, av17784, bv17784, cv17784⟩ := hq
        show WP _ _ _ _ (.int _ :: _) _ _ _ _
        rw [ec]
        clear ec Ra
        have e17785 : I17782 (ad g 27) 1 = w17736 := by rw [sI17782_27_1]; exact e17764
        have e17786 : I17782 (ad g 27) 2 = w17737 := by rw [sI17782_27_2]; exact e17765
        have e17787 : I17782 (ad g 1) 1 = L := hI17782.2
        have b17788 := BT_get hI17782.1 1 1 2 (0) (0) (900) (by decide) 1 (by decide) (by decide)
        rw [e17787] at b17788
        obtain ⟨w17789, ew17789⟩ : ∃ w : Int32, I17782 (ad g 4) 1 = w := ⟨_, rfl⟩
        have bw17789 := BT_get hI17782.1 4 0 5 (0) (0) (1000) (by decide) 1 (by decide) (by decide)
        rw [ew17789] at bw17789
        rw [ew17789] at cv17784
        refine WP_istore (ls' := [(0, _), (1, _), (2, _), (3, _), (4, _), (5, _), (6, _), (7, _)]) dX3_faultInParts_102 (by decide) rfl ?_
        refine WP_iload dX3_faultInParts_104 rfl ?_
        refine WQ_if_eq 112 dX3_faultInParts_106 rfl (fun c17789 => ?_) (fun c17789 => ?_)
        · refine WP_aload_n dX3_faultInParts_112 rfl ?_
          refine WP_getr dX3_faultInParts_113 fX3_15 rfl (lyx_is hy 3 3 rfl) (rfx hr 3 2 1 (by decide)) ?_
          refine WP_callV0 (k := 5) dX3_faultInParts_116 ⟨⟨⟨by decide, by decide⟩, zX5_next⟩, lX3_40, by decide, rfl, vX5_next.1, vX5_next.2⟩ (lyx_is hy 1 5 rfl) (sx_nextf hy hr hI17782  ) (Nat.le_of_ble_eq_true rfl) ?_
          intro r I17791 J17792 Ra hq
          obtain ⟨⟨hI17791, ec, fiI17791⟩, rfl⟩ := hq
          rw [ec]
          clear ec Ra
          have e17793 : I17791 (ad g 27) 1 = w17736 := by rw [fz_at fiI17791 27 (by decide) (by decide)]; exact e17785
          have e17794 : I17791 (ad g 27) 2 = w17737 := by rw [fz_at fiI17791 27 (by decide) (by decide)]; exact e17786
          have e17795 : I17791 (ad g 4) 1 = w17789 := by rw [fz_at fiI17791 4 (by decide) (by decide)]; exact ew17789
          have e17796 : I17791 (ad g 1) 1 = L := hI17791.2
          have b17797 := BT_get hI17791.1 1 1 2 (0) (0) (900) (by decide) 1 (by decide) (by decide)
          rw [e17796] at b17797
          refine WP_iinc (ls' := [(0, _), (1, _), (2, _), (3, _), (4, _), (5, _), (6, _), (7, _)]) dX3_faultInParts_119 rfl (by decide) rfl ?_
          have hv17798 : (v17768 + Int32.ofInt (1)).toInt = v17768.toInt + (1) := ia_n rfl (by omega) (by omega)
          generalize v17768 + Int32.ofInt (1) = v17798 at hv17798 ⊢
          refine WP_goto 8 dX3_faultInParts_122 rfl ?_
          refine WP_iload dX3_faultInParts_8 rfl ?_
          refine WP_aload_n dX3_faultInParts_10 rfl ?_
          refine WS_call hz (i := 12) (by omega) dX3_faultInParts_11 ⟨⟨by decide, by decide⟩, zJ0_length_8abf5⟩ lX3_87 vJ0_length_8abf5 (As := []) (rest := [.int v17798]) (j_length hz (i := 12) (by omega)) rfl rfl (Nat.le_of_ble_eq_true rfl) ?_
          intro r Ia Ja Ra hq
          obtain ⟨⟨ea, eb, ec⟩, v17799, rfl, cv17799⟩ := hq
          show WP _ _ _ _ (.int _ :: _) _ _ _ _
          rw [ea, eb, ec]
          clear ea eb ec Ia Ja Ra
          have hv17799 : v17799.toInt = 3 := cv17799.trans rfl
          refine WQ_icmp_ge 125 dX3_faultInParts_14 rfl (fun c17799 => False.elim (by omega)) (fun c17799 => ?_)
          refine WP_iload dX3_faultInParts_17 rfl ?_
          refine WQ_iconst (5) (5) dX3_faultInParts_19 rfl rfl (fun v17801 hv17801 => ?_)
          refine WQ_icmp_ge 125 dX3_faultInParts_20 rfl (fun c17801 => False.elim (by omega)) (fun c17801 => ?_)
          refine WP_aload_n dX3_faultInParts_23 rfl ?_
          refine WP_iload dX3_faultInParts_24 rfl ?_
          refine WS_call hz (i := 12) (by omega) dX3_faultInParts_26 ⟨⟨by decide, by decide⟩, zJ0_charAt_5068e⟩ lX3_92 vJ0_charAt_5068e (As := [.int v17798]) (rest := []) (j_charAt hz (i := 12) (k := v17798) (by omega) (by omega) (by have z9 : ((liN.getD 12 0 : Nat) : Int) = 3 := rfl; omega)) rfl rfl (Nat.le_of_ble_eq_true rfl) ?_
          intro r Ia Ja Ra hq
          obtain ⟨⟨ea, eb, ec⟩, v17803, rfl, cv17803⟩ := hq
          show WP _ _ _ _ (.int _ :: _) _ _ _ _
          rw [ea, eb, ec]
          clear ea eb ec Ia Ja Ra
          have hv17803 : v17803.toInt = 71 := cv17803.trans (by rw [show v17798.toInt.toNat = 2 by omega]; rfl)
          refine WP_istore (ls' := [(0, _), (1, _), (2, _), (3, _), (4, _), (5, _), (6, _), (7, _)]) dX3_faultInParts_29 (by decide) rfl ?_
          refine WP_iload dX3_faultInParts_31 rfl ?_
          refine WQ_bipush (97) (97) dX3_faultInParts_33 rfl rfl (fun v17804 hv17804 => ?_)
          refine WQ_icmp_lt 49 dX3_faultInParts_35 rfl (fun c17804 => ?_) (fun c17804 => False.elim (by omega))
          refine WQ_iconst (0) (0) dX3_faultInParts_49 rfl rfl (fun v17806 hv17806 => ?_)
          refine WP_istore (ls' := [(0, _), (1, _), (2, _), (3, _), (4, _), (5, _), (6, _), (7, _)]) dX3_faultInParts_50 (by decide) rfl ?_
          refine WP_aload_n dX3_faultInParts_52 rfl ?_
          refine WP_getr dX3_faultInParts_53 fX3_15 rfl (lyx_is hy 3 3 rfl) (rfx hr 3 2 1 (by decide)) ?_
          refine WQ_geti dX3_faultInParts_56 fX3_43 rfl (lyx_is hy 1 5 rfl) (BT_get hI17791.1 1 2 3 (0) (0) (4) (by decide) 2 (by decide) (by decide)) (fun v17807 ev17807 av17807 bv17807 => ?_)
          refine WP_iload dX3_faultInParts_59 rfl ?_
          refine WQ_if_eq 68 dX3_faultInParts_61 rfl (fun c17807 => ?_) (fun c17807 => False.elim (by omega))
          refine WQ_iconst (2) (2) dX3_faultInParts_68 rfl rfl (fun v17809 hv17809 => ?_)
          refine WQ_icmp_eq 74 dX3_faultInParts_69 rfl (fun c17809 => ?_) (fun c17809 => ?_)
          · refine WP_iload dX3_faultInParts_74 rfl ?_
            refine WQ_if_eq 92 dX3_faultInParts_76 rfl (fun c17810 => ?_) (fun c17810 => False.elim (by omega))
            refine WP_aload_n dX3_faultInParts_92 rfl ?_
            refine WP_iload dX3_faultInParts_93 rfl ?_
            refine WP_iload_n dX3_faultInParts_95 rfl ?_
            refine WP_iload dX3_faultInParts_96 rfl ?_
            refine WP_aload_n dX3_faultInParts_98 rfl ?_
            refine WP_callV4 (k := 3) dX3_faultInParts_99 ⟨⟨⟨by decide, by decide⟩, zX3_faultOfNumber⟩, lX3_100, by decide, rfl, vX3_faultOfNumber.1, vX3_faultOfNumber.2⟩ (lyx_is hy 3 3 rfl) (sx_part_27_2_2 hy hr hI17791 v17803 cz v17798 (by omega) (by omega) (by omega) (by omega) (by omega) (by omega)) (Nat.le_of_ble_eq_true rfl) ?_
            intro r I17812 J17813 Ra hq
            obtain ⟨⟨hI17812, ec, ⟨pI17812, sI17812_4_0, sI17812_4_1, sI17812_27_1, sI17812_27_2⟩⟩, v17814, rfl, av17814, bv17814, cv17814⟩ := hq
            show WP _ _ _ _ (.int _ :: _) _ _ _ _
            rw [ec]
            clear ec Ra
            have e17815 : I17812 (ad g 4) 1 = w17789 := by rw [sI17812_4_1]; exact e17795
            have e17816 : I17812 (ad g 27) 1 = w17736 := by rw [sI17812_27_1]; exact e17793
            have e17817 : I17812 (ad g 27) 2 = w17737 := by rw [sI17812_27_2]; exact e17794
            have e17818 : I17812 (ad g 1) 1 = L := hI17812.2
            have b17819 := BT_get hI17812.1 1 1 2 (0) (0) (900) (by decide) 1 (by decide) (by decide)
            rw [e17818] at b17819
            obtain ⟨w17820, ew17820⟩ : ∃ w : Int32, I17812 (ad g 4) 2 = w := ⟨_, rfl⟩
            have bw17820 := BT_get hI17812.1 4 0 5 (0) (0) (1000) (by decide) 2 (by decide) (by decide)
            rw [ew17820] at bw17820
            rw [ew17820] at cv17814
            refine WP_istore (ls' := [(0, _), (1, _), (2, _), (3, _), (4, _), (5, _), (6, _), (7, _)]) dX3_faultInParts_102 (by decide) rfl ?_
            refine WP_iload dX3_faultInParts_104 rfl ?_
            refine WQ_if_eq 112 dX3_faultInParts_106 rfl (fun c17820 => ?_) (fun c17820 => ?_)
            · refine WP_aload_n dX3_faultInParts_112 rfl ?_
              refine WP_getr dX3_faultInParts_113 fX3_15 rfl (lyx_is hy 3 3 rfl) (rfx hr 3 2 1 (by decide)) ?_
              refine WP_callV0 (k := 5) dX3_faultInParts_116 ⟨⟨⟨by decide, by decide⟩, zX5_next⟩, lX3_40, by decide, rfl, vX5_next.1, vX5_next.2⟩ (lyx_is hy 1 5 rfl) (sx_nextf hy hr hI17812  ) (Nat.le_of_ble_eq_true rfl) ?_
              intro r I17822 J17823 Ra hq
              obtain ⟨⟨hI17822, ec, fiI17822⟩, rfl⟩ := hq
              rw [ec]
              clear ec Ra
              have e17824 : I17822 (ad g 4) 1 = w17789 := by rw [fz_at fiI17822 4 (by decide) (by decide)]; exact e17815
              have e17825 : I17822 (ad g 27) 1 = w17736 := by rw [fz_at fiI17822 27 (by decide) (by decide)]; exact e17816
              have e17826 : I17822 (ad g 27) 2 = w17737 := by rw [fz_at fiI17822 27 (by decide) (by decide)]; exact e17817
              have e17827 : I17822 (ad g 4) 2 = w17820 := by rw [fz_at fiI17822 4 (by decide) (by decide)]; exact ew17820
              have e17828 : I17822 (ad g 1) 1 = L := hI17822.2
              have b17829 := BT_get hI17822.1 1 1 2 (0) (0) (900) (by decide) 1 (by decide) (by decide)
              rw [e17828] at b17829
              refine WP_iinc (ls' := [(0, _), (1, _), (2, _), (3, _), (4, _), (5, _), (6, _), (7, _)]) dX3_faultInParts_119 rfl (by decide) rfl ?_
              have hv17830 : (v17798 + Int32.ofInt (1)).toInt = v17798.toInt + (1) := ia_n rfl (by omega) (by omega)
              generalize v17798 + Int32.ofInt (1) = v17830 at hv17830 ⊢
              refine WP_goto 8 dX3_faultInParts_122 rfl ?_
              refine WP_iload dX3_faultInParts_8 rfl ?_
              refine WP_aload_n dX3_faultInParts_10 rfl ?_
              refine WS_call hz (i := 12) (by omega) dX3_faultInParts_11 ⟨⟨by decide, by decide⟩, zJ0_length_8abf5⟩ lX3_87 vJ0_length_8abf5 (As := []) (rest := [.int v17830]) (j_length hz (i := 12) (by omega)) rfl rfl (Nat.le_of_ble_eq_true rfl) ?_
              intro r Ia Ja Ra hq
              obtain ⟨⟨ea, eb, ec⟩, v17831, rfl, cv17831⟩ := hq
              show WP _ _ _ _ (.int _ :: _) _ _ _ _
              rw [ea, eb, ec]
              clear ea eb ec Ia Ja Ra
              have hv17831 : v17831.toInt = 3 := cv17831.trans rfl
              refine WQ_icmp_ge 125 dX3_faultInParts_14 rfl (fun c17831 => ?_) (fun c17831 => False.elim (by omega))
              refine WP_aload_n dX3_faultInParts_125 rfl ?_
              refine WP_getr dX3_faultInParts_126 fX3_15 rfl (lyx_is hy 3 3 rfl) (rfx hr 3 2 1 (by decide)) ?_
              refine WQ_geti dX3_faultInParts_129 fX3_43 rfl (lyx_is hy 1 5 rfl) (BT_get hI17822.1 1 2 3 (0) (0) (4) (by decide) 2 (by decide) (by decide)) (fun v17833 ev17833 av17833 bv17833 => ?_)
              refine WQ_iconst (3) (3) dX3_faultInParts_132 rfl rfl (fun v17834 hv17834 => ?_)
              refine WQ_icmp_ne 140 dX3_faultInParts_133 rfl (fun c17834 => ?_) (fun c17834 => ?_)
              · refine WQ_iconst (1) (1) dX3_faultInParts_140 rfl rfl (fun v17836 hv17836 => ?_)
                exact WP_iret dX3_faultInParts_141 rfl ⟨⟨hI17822, rfl, ⟨trivial, (by rw [e17825, ew17736] <;> exact (eq32 _ _).mpr (by omega)), (by rw [e17826, ew17737] <;> exact (eq32 _ _).mpr (by omega))⟩⟩, _, rfl, by omega, by omega, by (try rw [e17824]; try rw [e17827]); omega⟩
              · refine WQ_iconst (0) (0) dX3_faultInParts_136 rfl rfl (fun v17837 hv17837 => ?_)
                refine WP_goto 141 dX3_faultInParts_137 rfl ?_
                exact WP_iret dX3_faultInParts_141 rfl ⟨⟨hI17822, rfl, ⟨trivial, (by rw [e17825, ew17736] <;> exact (eq32 _ _).mpr (by omega)), (by rw [e17826, ew17737] <;> exact (eq32 _ _).mpr (by omega))⟩⟩, _, rfl, by omega, by omega, by (try rw [e17824]; try rw [e17827]); omega⟩
            · refine WP_iload dX3_faultInParts_109 rfl ?_
              exact WP_iret dX3_faultInParts_111 rfl ⟨⟨hI17812, rfl, ⟨trivial, (by rw [e17816, ew17736] <;> exact (eq32 _ _).mpr (by omega)), (by rw [e17817, ew17737] <;> exact (eq32 _ _).mpr (by omega))⟩⟩, _, rfl, by omega, by omega, by (try rw [e17815]; try rw [ew17820]); omega⟩
          · refine WQ_iconst (1) (1) dX3_faultInParts_72 rfl rfl (fun v17838 hv17838 => ?_)
            obtain ⟨w17839, ew17839⟩ : ∃ w : Int32, I17791 (ad g 4) 2 = w := ⟨_, rfl⟩
            have bw17839 := BT_get hI17791.1 4 0 5 (0) (0) (1000) (by decide) 2 (by decide) (by decide)
            rw [ew17839] at bw17839
            exact WP_iret dX3_faultInParts_73 rfl ⟨⟨hI17791, rfl, ⟨trivial, (by rw [e17793, ew17736] <;> exact (eq32 _ _).mpr (by omega)), (by rw [e17794, ew17737] <;> exact (eq32 _ _).mpr (by omega))⟩⟩, _, rfl, by omega, by omega, by (try rw [e17795]; try rw [ew17839]); omega⟩
        · refine WP_iload dX3_faultInParts_109 rfl ?_
          obtain ⟨w17840, ew17840⟩ : ∃ w : Int32, I17782 (ad g 4) 2 = w := ⟨_, rfl⟩
          have bw17840 := BT_get hI17782.1 4 0 5 (0) (0) (1000) (by decide) 2 (by decide) (by decide)
          rw [ew17840] at bw17840
          exact WP_iret dX3_faultInParts_111 rfl ⟨⟨hI17782, rfl, ⟨trivial, (by rw [e17785, ew17736] <;> exact (eq32 _ _).mpr (by omega)), (by rw [e17786, ew17737] <;> exact (eq32 _ _).mpr (by omega))⟩⟩, _, rfl, by omega, by omega, by (try rw [ew17789]; try rw [ew17840]); omega⟩
      · refine WQ_iconst (1) (1) dX3_faultInParts_72 rfl rfl (fun v17841 hv17841 => ?_)
        obtain ⟨w17842, ew17842⟩ : ∃ w : Int32, I17762 (ad g 4) 1 = w := ⟨_, rfl⟩
        have bw17842 := BT_get hI17762.1 4 0 5 (0) (0) (1000) (by decide) 1 (by decide) (by decide)
        rw [ew17842] at bw17842
        obtain ⟨w17843, ew17843⟩ : ∃ w : Int32, I17762 (ad g 4) 2 = w := ⟨_, rfl⟩
        have bw17843 := BT_get hI17762.1 4 0 5 (0) (0) (1000) (by decide) 2 (by decide) (by decide)
        rw [ew17843] at bw17843
        exact WP_iret dX3_faultInParts_73 rfl ⟨⟨hI17762, rfl, ⟨trivial, (by rw [e17764, ew17736] <;> exact (eq32 _ _).mpr (by omega)), (by rw [e17765, ew17737] <;> exact (eq32 _ _).mpr (by omega))⟩⟩, _, rfl, by omega, by omega, by (try rw [ew17842]; try rw [ew17843]); omega⟩
    · refine WP_iload dX3_faultInParts_109 rfl ?_
      obtain ⟨w17844, ew17844⟩ : ∃ w : Int32, I17754 (ad g 4) 1 = w := ⟨_, rfl⟩
      have bw17844 := BT_get hI17754.1 4 0 5 (0) (0) (1000) (by decide) 1 (by decide) (by decide)
      rw [ew17844] at bw17844
      obtain ⟨w17845, ew17845⟩ : ∃ w : Int32, I17754 (ad g 4) 2 = w := ⟨_, rfl⟩
      have bw17845 := BT_get hI17754.1 4 0 5 (0) (0) (1000) (by decide) 2 (by decide) (by decide)
      rw [ew17845] at bw17845
      exact WP_iret dX3_faultInParts_111 rfl ⟨⟨hI17754, rfl, ⟨trivial, (by rw [e17757, ew17736] <;> exact (eq32 _ _).mpr (by omega)), (by rw [e17758, ew17737] <;> exact (eq32 _ _).mpr (by omega))⟩⟩, _, rfl, by omega, by omega, by (try rw [ew17844]; try rw [ew17845]); omega⟩
  · refine WQ_iconst (1) (1) dX3_faultInParts_72 rfl rfl (fun v17846 hv17846 => ?_)
    obtain ⟨w17847, ew17847⟩ : ∃ w : Int32, I (ad g 4) 1 = w := ⟨_, rfl⟩
    have bw17847 := BT_get hI.1 4 0 5 (0) (0) (1000) (by decide) 1 (by decide) (by decide)
    rw [ew17847] at bw17847
    obtain ⟨w17848, ew17848⟩ : ∃ w : Int32, I (ad g 4) 2 = w := ⟨_, rfl⟩
    have bw17848 := BT_get hI.1 4 0 5 (0) (0) (1000) (by decide) 2 (by decide) (by decide)
    rw [ew17848] at bw17848
    exact WP_iret dX3_faultInParts_73 rfl ⟨⟨hI, rfl, ⟨trivial, rfl, rfl⟩⟩, _, rfl, by omega, by omega, by (try rw [ew17847]; try rw [ew17848]); omega⟩
set_option maxHeartbeats 4000000 in
set_option maxRecDepth 100000 in
theorem sx_parts_27_3 {g : GG} {n : Int} {L : Int32} (hy : LyX g) {aK aV : Nat → Nat} {fo : Option Nat} (hz : HZ g aK aV fo)  {I : pI} {J : pJ} {R : pR} (hr : RfX g R) (hI : XI g n L I) (cz : Int32) (cz_lo : 3 ≤ cz.toInt) (cz_hi : cz.toInt ≤ 3) : SP g mX3_faultInParts [.ref (ad g 3), .int cz, .ref (ad g 27)] I J R (fun r I' J' R' => (XI g n L I' ∧ R' = R ∧ True ∧ I' (ad g 27) 1 = I (ad g 27) 1 ∧ I' (ad g 27) 2 = I (ad g 27) 2) ∧ ∃ v : Int32, r = some (.int v) ∧ 0 ≤ v.toInt ∧ v.toInt ≤ 5 ∧ (v.toInt = 0 → (I' (ad g 4) 0).toInt ≤ 3 ∧ (I' (ad g 4) 1).toInt ≤ 6 ∧ (I' (ad g 4) 2).toInt ≤ 20)) := by
  refine SP_of ⟨by decide, rfl⟩ (Nat.le_of_ble_eq_true rfl) ?_
  have e17849 : I (ad g 1) 1 = L := hI.2
  have b17850 := BT_get hI.1 1 1 2 (0) (0) (900) (by decide) 1 (by decide) (by decide)
  rw [e17849] at b17850
  obtain ⟨w17851, ew17851⟩ : ∃ w : Int32, I (ad g 27) 1 = w := ⟨_, rfl⟩
  have bw17851 := BT_get hI.1 27 1 2 (0) (0) (4) (by decide) 1 (by decide) (by decide)
  rw [ew17851] at bw17851
  obtain ⟨w17852, ew17852⟩ : ∃ w : Int32, I (ad g 27) 2 = w := ⟨_, rfl⟩
  have bw17852 := BT_get hI.1 27 2 3 (0) (0) (3) (by decide) 2 (by decide) (by decide)
  rw [ew17852] at bw17852
  refine WP_iload_n dX3_faultInParts_0 rfl ?_
  refine WP_callS1 dX3_faultInParts_1 ⟨⟨⟨by decide, by decide⟩, zX3_shapeOf⟩, lX3_84, tX3_shapeOf⟩ (sx_shapeOf hy hz hr hI cz (by omega) (by omega)) (Nat.le_of_ble_eq_true rfl) ?_
  intro r Ia Ja Ra hq
  obtain ⟨⟨ea, eb, ec⟩, rfl⟩ := hq
  show WP _ _ _ _ (.ref _ :: _) _ _ _ _
  rw [show 10 + cz.toInt.toNat = 13 by omega]
  rw [ea, eb, ec]
  clear ea eb ec Ia Ja Ra
  refine WP_astore_n (ls' := [(0, _), (1, _), (2, _), (3, _)]) dX3_faultInParts_4 (by decide) rfl ?_
  refine WQ_iconst (0) (0) dX3_faultInParts_5 rfl rfl (fun v17853 hv17853 => ?_)
  refine WP_istore (ls' := [(0, _), (1, _), (2, _), (3, _), (4, _)]) dX3_faultInParts_6 (by decide) rfl ?_
  refine WP_iload dX3_faultInParts_8 rfl ?_
  refine WP_aload_n dX3_faultInParts_10 rfl ?_
  refine WS_call hz (i := 13) (by omega) dX3_faultInParts_11 ⟨⟨by decide, by decide⟩, zJ0_length_8abf5⟩ lX3_87 vJ0_length_8abf5 (As := []) (rest := [.int v17853]) (j_length hz (i := 13) (by omega)) rfl rfl (Nat.le_of_ble_eq_true rfl) ?_
  intro r Ia Ja Ra hq
  obtain ⟨⟨ea, eb, ec⟩, v17854, rfl, cv17854⟩ := hq
  show WP _ _ _ _ (.int _ :: _) _ _ _ _
  rw [ea, eb, ec]
  clear ea eb ec Ia Ja Ra
  have hv17854 : v17854.toInt = 3 := cv17854.trans rfl
  refine WQ_icmp_ge 125 dX3_faultInParts_14 rfl (fun c17854 => False.elim (by omega)) (fun c17854 => ?_)
  refine WP_iload dX3_faultInParts_17 rfl ?_
  refine WQ_iconst (5) (5) dX3_faultInParts_19 rfl rfl (fun v17856 hv17856 => ?_)
  refine WQ_icmp_ge 125 dX3_faultInParts_20 rfl (fun c17856 => False.elim (by omega)) (fun c17856 => ?_)
  refine WP_aload_n dX3_faultInParts_23 rfl ?_
  refine WP_iload dX3_faultInParts_24 rfl ?_
  refine WS_call hz (i := 13) (by omega) dX3_faultInParts_26 ⟨⟨by decide, by decide⟩, zJ0_charAt_5068e⟩ lX3_92 vJ0_charAt_5068e (As := [.int v17853]) (rest := []) (j_charAt hz (i := 13) (k := v17853) (by omega) (by omega) (by have z9 : ((liN.getD 13 0 : Nat) : Int) = 3 := rfl; omega)) rfl rfl (Nat.le_of_ble_eq_true rfl) ?_
  intro r Ia Ja Ra hq
  obtain ⟨⟨ea, eb, ec⟩, v17858, rfl, cv17858⟩ := hq
  show WP _ _ _ _ (.int _ :: _) _ _ _ _
  rw [ea, eb, ec]
  clear ea eb ec Ia Ja Ra
  have hv17858 : v17858.toInt = 115 := cv17858.trans (by rw [show v17853.toInt.toNat = 0 by omega]; rfl)
  refine WP_istore (ls' := [(0, _), (1, _), (2, _), (3, _), (4, _), (5, _)]) dX3_faultInParts_29 (by decide) rfl ?_
  refine WP_iload dX3_faultInParts_31 rfl ?_
  refine WQ_bipush (97) (97) dX3_faultInParts_33 rfl rfl (fun v17859 hv17859 => ?_)
  refine WQ_icmp_lt 49 dX3_faultInParts_35 rfl (fun c17859 => False.elim (by omega)) (fun c17859 => ?_)
  refine WP_iload dX3_faultInParts_38 rfl ?_
  refine WQ_bipush (122) (122) dX3_faultInParts_40 rfl rfl (fun v17861 hv17861 => ?_)
  refine WQ_icmp_gt 49 dX3_faultInParts_42 rfl (fun c17861 => False.elim (by omega)) (fun c17861 => ?_)
  refine WQ_iconst (1) (1) dX3_faultInParts_45 rfl rfl (fun v17863 hv17863 => ?_)
  refine WP_goto 50 dX3_faultInParts_46 rfl ?_
  refine WP_istore (ls' := [(0, _), (1, _), (2, _), (3, _), (4, _), (5, _), (6, _)]) dX3_faultInParts_50 (by decide) rfl ?_
  refine WP_aload_n dX3_faultInParts_52 rfl ?_
  refine WP_getr dX3_faultInParts_53 fX3_15 rfl (lyx_is hy 3 3 rfl) (rfx hr 3 2 1 (by decide)) ?_
  refine WQ_geti dX3_faultInParts_56 fX3_43 rfl (lyx_is hy 1 5 rfl) (BT_get hI.1 1 2 3 (0) (0) (4) (by decide) 2 (by decide) (by decide)) (fun v17864 ev17864 av17864 bv17864 => ?_)
  refine WP_iload dX3_faultInParts_59 rfl ?_
  refine WQ_if_eq 68 dX3_faultInParts_61 rfl (fun c17864 => False.elim (by omega)) (fun c17864 => ?_)
  refine WQ_iconst (1) (1) dX3_faultInParts_64 rfl rfl (fun v17866 hv17866 => ?_)
  refine WP_goto 69 dX3_faultInParts_65 rfl ?_
  refine WQ_icmp_eq 74 dX3_faultInParts_69 rfl (fun c17866 => ?_) (fun c17866 => ?_)
  · refine WP_iload dX3_faultInParts_74 rfl ?_
    refine WQ_if_eq 92 dX3_faultInParts_76 rfl (fun c17867 => False.elim (by omega)) (fun c17867 => ?_)
    refine WP_aload_n dX3_faultInParts_79 rfl ?_
    refine WP_iload dX3_faultInParts_80 rfl ?_
    refine WP_iload_n dX3_faultInParts_82 rfl ?_
    refine WP_iload dX3_faultInParts_83 rfl ?_
    refine WP_aload_n dX3_faultInParts_85 rfl ?_
    refine WP_callV4 (k := 3) dX3_faultInParts_86 ⟨⟨⟨by decide, by decide⟩, zX3_faultOfName⟩, lX3_96, by decide, rfl, vX3_faultOfName.1, vX3_faultOfName.2⟩ (lyx_is hy 3 3 rfl) (sx_part_27_3_0 hy hr hI v17858 cz v17853 (by omega) (by omega) (by omega) (by omega) (by omega) (by omega)) (Nat.le_of_ble_eq_true rfl) ?_
    intro r I17869 J17870 Ra hq
    obtain ⟨⟨hI17869, ec, ⟨pI17869, sI17869_27_1, sI17869_27_2⟩⟩, v17871, rfl, av17871, bv17871, cv17871⟩ := hq
    show WP _ _ _ _ (.int _ :: _) _ _ _ _
    rw [ec]
    clear ec Ra
    have e17872 : I17869 (ad g 27) 1 = w17851 := by rw [sI17869_27_1]; exact ew17851
    have e17873 : I17869 (ad g 27) 2 = w17852 := by rw [sI17869_27_2]; exact ew17852
    have e17874 : I17869 (ad g 1) 1 = L := hI17869.2
    have b17875 := BT_get hI17869.1 1 1 2 (0) (0) (900) (by decide) 1 (by decide) (by decide)
    rw [e17874] at b17875
    obtain ⟨w17876, ew17876⟩ : ∃ w : Int32, I17869 (ad g 4) 0 = w := ⟨_, rfl⟩
    have bw17876 := BT_get hI17869.1 4 0 5 (0) (0) (1000) (by decide) 0 (by decide) (by decide)
    rw [ew17876] at bw17876
    rw [ew17876] at cv17871
    refine WP_goto 102 dX3_faultInParts_89 rfl ?_
    refine WP_istore (ls' := [(0, _), (1, _), (2, _), (3, _), (4, _), (5, _), (6, _), (7, _)]) dX3_faultInParts_102 (by decide) rfl ?_
    refine WP_iload dX3_faultInParts_104 rfl ?_
    refine WQ_if_eq 112 dX3_faultInParts_106 rfl (fun c17876 => ?_) (fun c17876 => ?_)
    · refine WP_aload_n dX3_faultInParts_112 rfl ?_
      refine WP_getr dX3_faultInParts_113 fX3_15 rfl (lyx_is hy 3 3 rfl) (rfx hr 3 2 1 (by decide)) ?_
      refine WP_callV0 (k := 5) dX3_faultInParts_116 ⟨⟨⟨by decide, by decide⟩, zX5_next⟩, lX3_40, by decide, rfl, vX5_next.1, vX5_next.2⟩ (lyx_is hy 1 5 rfl) (sx_nextf hy hr hI17869  ) (Nat.le_of_ble_eq_true rfl) ?_
      intro r I17878 J17879 Ra hq
      obtain ⟨⟨hI17878, ec, fiI17878⟩, rfl⟩ := hq
      rw [ec]
      clear ec Ra
      have e17880 : I17878 (ad g 27) 1 = w17851 := by rw [fz_at fiI17878 27 (by decide) (by decide)]; exact e17872
      have e17881 : I17878 (ad g 27) 2 = w17852 := by rw [fz_at fiI17878 27 (by decide) (by decide)]; exact e17873
      have e17882 : I17878 (ad g 4) 0 = w17876 := by rw [fz_at fiI17878 4 (by decide) (by decide)]; exact ew17876
      have e17883 : I17878 (ad g 1) 1 = L := hI17878.2
      have b17884 := BT_get hI17878.1 1 1 2 (0) (0) (900) (by decide) 1 (by decide) (by decide)
      rw [e17883] at b17884
      refine WP_iinc (ls' := [(0, _), (1, _), (2, _), (3, _), (4, _), (5, _), (6, _), (7, _)]) dX3_faultInParts_119 rfl (by decide) rfl ?_
      have hv17885 : (v17853 + Int32.ofInt (1)).toInt = v17853.toInt + (1) := ia_n rfl (by omega) (by omega)
      generalize v17853 + Int32.ofInt (1) = v17885 at hv17885 ⊢
      refine WP_goto 8 dX3_faultInParts_122 rfl ?_
      refine WP_iload dX3_faultInParts_8 rfl ?_
      refine WP_aload_n dX3_faultInParts_10 rfl ?_
      refine WS_call hz (i := 13) (by omega) dX3_faultInParts_11 ⟨⟨by decide, by decide⟩, zJ0_length_8abf5⟩ lX3_87 vJ0_length_8abf5 (As := []) (rest := [.int v17885]) (j_length hz (i := 13) (by omega)) rfl rfl (Nat.le_of_ble_eq_true rfl) ?_
      intro r Ia Ja Ra hq
      obtain ⟨⟨ea, eb, ec⟩, v17886, rfl, cv17886⟩ := hq
      show WP _ _ _ _ (.int _ :: _) _ _ _ _
      rw [ea, eb, ec]
      clear ea eb ec Ia Ja Ra
      have hv17886 : v17886.toInt = 3 := cv17886.trans rfl
      refine WQ_icmp_ge 125 dX3_faultInParts_14 rfl (fun c17886 => False.elim (by omega)) (fun c17886 => ?_)
      refine WP_iload dX3_faultInParts_17 rfl ?_
      refine WQ_iconst (5) (5) dX3_faultInParts_19 rfl rfl (fun v17888 hv17888 => ?_)
      refine WQ_icmp_ge 125 dX3_faultInParts_20 rfl (fun c17888 => False.elim (by omega)) (fun c17888 => ?_)
      refine WP_aload_n dX3_faultInParts_23 rfl ?_
      refine WP_iload dX3_faultInParts_24 rfl ?_
      refine WS_call hz (i := 13) (by omega) dX3_faultInParts_26 ⟨⟨by decide, by decide⟩, zJ0_charAt_5068e⟩ lX3_92 vJ0_charAt_5068e (As := [.int v17885]) (rest := []) (j_charAt hz (i := 13) (k := v17885) (by omega) (by omega) (by have z9 : ((liN.getD 13 0 : Nat) : Int) = 3 := rfl; omega)) rfl rfl (Nat.le_of_ble_eq_true rfl) ?_
      intro r Ia Ja Ra hq
      obtain ⟨⟨ea, eb, ec⟩, v17890, rfl, cv17890⟩ := hq
      show WP _ _ _ _ (.int _ :: _) _ _ _ _
      rw [ea, eb, ec]
      clear ea eb ec Ia Ja Ra
      have hv17890 : v17890.toInt = 68 := cv17890.trans (by rw [show v17885.toInt.toNat = 1 by omega]; rfl)
      refine WP_istore (ls' := [(0, _), (1, _), (2, _), (3, _), (4, _), (5, _), (6, _), (7, _)]) dX3_faultInParts_29 (by decide) rfl ?_
      refine WP_iload dX3_faultInParts_31 rfl ?_
      refine WQ_bipush (97) (97) dX3_faultInParts_33 rfl rfl (fun v17891 hv17891 => ?_)
      refine WQ_icmp_lt 49 dX3_faultInParts_35 rfl (fun c17891 => ?_) (fun c17891 => False.elim (by omega))
      refine WQ_iconst (0) (0) dX3_faultInParts_49 rfl rfl (fun v17893 hv17893 => ?_)
      refine WP_istore (ls' := [(0, _), (1, _), (2, _), (3, _), (4, _), (5, _), (6, _), (7, _)]) dX3_faultInParts_50 (by decide) rfl ?_
      refine WP_aload_n dX3_faultInParts_52 rfl ?_
      refine WP_getr dX3_faultInParts_53 fX3_15 rfl (lyx_is hy 3 3 rfl) (rfx hr 3 2 1 (by decide)) ?_
      refine WQ_geti dX3_faultInParts_56 fX3_43 rfl (lyx_is hy 1 5 rfl) (BT_get hI17878.1 1 2 3 (0) (0) (4) (by decide) 2 (by decide) (by decide)) (fun v17894 ev17894 av17894 bv17894 => ?_)
      refine WP_iload dX3_faultInParts_59 rfl ?_
      refine WQ_if_eq 68 dX3_faultInParts_61 rfl (fun c17894 => ?_) (fun c17894 => False.elim (by omega))
      refine WQ_iconst (2) (2) dX3_faultInParts_68 rfl rfl (fun v17896 hv17896 => ?_)
      refine WQ_icmp_eq 74 dX3_faultInParts_69 rfl (fun c17896 => ?_) (fun c17896 => ?_)
      · refine WP_iload dX3_faultInParts_74 rfl ?_
        refine WQ_if_eq 92 dX3_faultInParts_76 rfl (fun c17897 => ?_) (fun c17897 => False.elim (by omega))
        refine WP_aload_n dX3_faultInParts_92 rfl ?_
        refine WP_iload dX3_faultInParts_93 rfl ?_
        refine WP_iload_n dX3_faultInParts_95 rfl ?_
        refine WP_iload dX3_faultInParts_96 rfl ?_
        refine WP_aload_n dX3_faultInParts_98 rfl ?_
        refine WP_callV4 (k := 3) dX3_faultInParts_99 ⟨⟨⟨by decide, by decide⟩, zX3_faultOfNumber⟩, lX3_100, by decide, rfl, vX3_faultOfNumber.1, vX3_faultOfNumber.2⟩ (lyx_is hy 3 3 rfl) (sx_part_27_3_1 hy hr hI17878 v17890 cz v17885 (by omega) (by omega) (by omega) (by omega) (by omega) (by omega) (by rw [e17882]; omega)) (Nat.le_of_ble_eq_true rfl) ?_
        intro r I17899 J17900 Ra hq
        obtain ⟨⟨hI17899, ec, ⟨pI17899, sI17899_4_0, sI17899_27_1, sI17899_27_2⟩⟩, v17901, rfl, av17901, bv17901, cv17901⟩ := hq
        show WP _ _ _ _ (.int _ :: _) _ _ _ _
        rw [ec]
        clear ec Ra
        have e17902 : I17899 (ad g 4) 0 = w17876 := by rw [sI17899_4_0]; exact e17882
        have e17903 : I17899 (ad g 27) 1 = w17851 := by rw [sI17899_27_1]; exact e17880
        have e17904 : I17899 (ad g 27) 2 = w17852 := by rw [sI17899_27_2]; exact e17881
        have e17905 : I17899 (ad g 1) 1 = L := hI17899.2
        have b17906 := BT_get hI17899.1 1 1 2 (0) (0) (900) (by decide) 1 (by decide) (by decide)
        rw [e17905] at b17906
        obtain ⟨w17907, ew17907⟩ : ∃ w : Int32, I17899 (ad g 4) 1 = w := ⟨_, rfl⟩
        have bw17907 := BT_get hI17899.1 4 0 5 (0) (0) (1000) (by decide) 1 (by decide) (by decide)
        rw [ew17907] at bw17907
        rw [ew17907] at cv17901
        refine WP_istore (ls' := [(0, _), (1, _), (2, _), (3, _), (4, _), (5, _), (6, _), (7, _)]) dX3_faultInParts_102 (by decide) rfl ?_
        refine WP_iload dX3_faultInParts_104 rfl ?_
        refine WQ_if_eq 112 dX3_faultInParts_106 rfl (fun c17907 => ?_) (fun c17907 => ?_)
        · refine WP_aload_n dX3_faultInParts_112 rfl ?_
          refine WP_getr dX3_faultInParts_113 fX3_15 rfl (lyx_is hy 3 3 rfl) (rfx hr 3 2 1 (by decide)) ?_
          refine WP_callV0 (k := 5) dX3_faultInParts_116 ⟨⟨⟨by decide, by decide⟩, zX5_next⟩, lX3_40, by decide, rfl, vX5_next.1, vX5_next.2⟩ (lyx_is hy 1 5 rfl) (sx_nextf hy hr hI17899  ) (Nat.le_of_ble_eq_true rfl) ?_
          intro r I17909 J17910 Ra hq
          obtain ⟨⟨hI17909, ec, fiI17909⟩, rfl⟩ := hq
          rw [ec]
          clear ec Ra
          have e17911 : I17909 (ad g 4) 0 = w17876 := by rw [fz_at fiI17909 4 (by decide) (by decide)]; exact e17902
          have e17912 : I17909 (ad g 27) 1 = w17851 := by rw [fz_at fiI17909 27 (by decide) (by decide)]; exact e17903
          have e17913 : I17909 (ad g 27) 2 = w17852 := by rw [fz_at fiI17909 27 (by decide) (by decide)]; exact e17904
          have e17914 : I17909 (ad g 4) 1 = w17907 := by rw [fz_at fiI17909 4 (by decide) (by decide)]; exact ew17907
          have e17915 : I17909 (ad g 1) 1 = L := hI17909.2
          have b17916 := BT_get hI17909.1 1 1 2 (0) (0) (900) (by decide) 1 (by decide) (by decide)
          rw [e17915] at b17916
          refine WP_iinc (ls' := [(0, _), (1, _), (2, _), (3, _), (4, _), (5, _), (6, _), (7, _)]) dX3_faultInParts_119 rfl (by decide) rfl ?_
          have hv17917 : (v17885 + Int32.ofInt (1)).toInt = v17885.toInt + (1) := ia_n rfl (by omega) (by omega)
          generalize v17885 + Int32.ofInt (1) = v17917 at hv17917 ⊢
          refine WP_goto 8 dX3_faultInParts_122 rfl ?_
          refine WP_iload dX3_faultInParts_8 rfl ?_
          refine WP_aload_n dX3_faultInParts_10 rfl ?_
          refine WS_call hz (i := 13) (by omega) dX3_faultInParts_11 ⟨⟨by decide, by decide⟩, zJ0_length_8abf5⟩ lX3_87 vJ0_length_8abf5 (As := []) (rest := [.int v17917]) (j_length hz (i := 13) (by omega)) rfl rfl (Nat.le_of_ble_eq_true rfl) ?_
          intro r Ia Ja Ra hq
          obtain ⟨⟨ea, eb, ec⟩, v17918, rfl, cv17918⟩ := hq
          show WP _ _ _ _ (.int _ :: _) _ _ _ _
          rw [ea, eb, ec]
          clear ea eb ec Ia Ja Ra
          have hv17918 : v17918.toInt = 3 := cv17918.trans rfl
          refine WQ_icmp_ge 125 dX3_faultInParts_14 rfl (fun c17918 => False.elim (by omega)) (fun c17918 => ?_)
          refine WP_iload dX3_faultInParts_17 rfl ?_
          refine WQ_iconst (5) (5) dX3_faultInParts_19 rfl rfl (fun v17920 hv17920 => ?_)
          refine WQ_icmp_ge 125 dX3_faultInParts_20 rfl (fun c17920 => False.elim (by omega)) (fun c17920 => ?_)
          refine WP_aload_n dX3_faultInParts_23 rfl ?_
          refine WP_iload dX3_faultInParts_24 rfl ?_
          refine WS_call hz (i := 13) (by omega) dX3_faultInParts_26 ⟨⟨by decide, by decide⟩, zJ0_charAt_5068e⟩ lX3_92 vJ0_charAt_5068e (As := [.int v17917]) (rest := []) (j_charAt hz (i := 13) (k := v17917) (by omega) (by omega) (by have z9 : ((liN.getD 13 0 : Nat) : Int) = 3 := rfl; omega)) rfl rfl (Nat.le_of_ble_eq_true rfl) ?_
          intro r Ia Ja Ra hq
          obtain ⟨⟨ea, eb, ec⟩, v17922, rfl, cv17922⟩ := hq
          show WP _ _ _ _ (.int _ :: _) _ _ _ _
          rw [ea, eb, ec]
          clear ea eb ec Ia Ja Ra
          have hv17922 : v17922.toInt = 69 := cv17922.trans (by rw [show v17917.toInt.toNat = 2 by omega]; rfl)
          refine WP_istore (ls' := [(0, _), (1, _), (2, _), (3, _), (4, _), (5, _), (6, _), (7, _)]) dX3_faultInParts_29 (by decide) rfl ?_
          refine WP_iload dX3_faultInParts_31 rfl ?_
          refine WQ_bipush (97) (97) dX3_faultInParts_33 rfl rfl (fun v17923 hv17923 => ?_)
          refine WQ_icmp_lt 49 dX3_faultInParts_35 rfl (fun c17923 => ?_) (fun c17923 => False.elim (by omega))
          refine WQ_iconst (0) (0) dX3_faultInParts_49 rfl rfl (fun v17925 hv17925 => ?_)
          refine WP_istore (ls' := [(0, _), (1, _), (2, _), (3, _), (4, _), (5, _), (6, _), (7, _)]) dX3_faultInParts_50 (by decide) rfl ?_
          refine WP_aload_n dX3_faultInParts_52 rfl ?_
          refine WP_getr dX3_faultInParts_53 fX3_15 rfl (lyx_is hy 3 3 rfl) (rfx hr 3 2 1 (by decide)) ?_
          refine WQ_geti dX3_faultInParts_56 fX3_43 rfl (lyx_is hy 1 5 rfl) (BT_get hI17909.1 1 2 3 (0) (0) (4) (by decide) 2 (by decide) (by decide)) (fun v17926 ev17926 av17926 bv17926 => ?_)
          refine WP_iload dX3_faultInParts_59 rfl ?_
          refine WQ_if_eq 68 dX3_faultInParts_61 rfl (fun c17926 => ?_) (fun c17926 => False.elim (by omega))
          refine WQ_iconst (2) (2) dX3_faultInParts_68 rfl rfl (fun v17928 hv17928 => ?_)
          refine WQ_icmp_eq 74 dX3_faultInParts_69 rfl (fun c17928 => ?_) (fun c17928 => ?_)
          · refine WP_iload dX3_faultInParts_74 rfl ?_
            refine WQ_if_eq 92 dX3_faultInParts_76 rfl (fun c17929 => ?_) (fun c17929 => False.elim (by omega))
            refine WP_aload_n dX3_faultInParts_92 rfl ?_
            refine WP_iload dX3_faultInParts_93 rfl ?_
            refine WP_iload_n dX3_faultInParts_95 rfl ?_
            refine WP_iload dX3_faultInParts_96 rfl ?_
            refine WP_aload_n dX3_faultInParts_98 rfl ?_
            refine WP_callV4 (k := 3) dX3_faultInParts_99 ⟨⟨⟨by decide, by decide⟩, zX3_faultOfNumber⟩, lX3_100, by decide, rfl, vX3_faultOfNumber.1, vX3_faultOfNumber.2⟩ (lyx_is hy 3 3 rfl) (sx_part_27_3_2 hy hr hI17909 v17922 cz v17917 (by omega) (by omega) (by omega) (by omega) (by omega) (by omega)) (Nat.le_of_ble_eq_true rfl) ?_
            intro r I17931 J17932 Ra hq
            obtain ⟨⟨hI17931, ec, ⟨pI17931, sI17931_4_0, sI17931_4_1, sI17931_27_1, sI17931_27_2⟩⟩, v17933, rfl, av17933, bv17933, cv17933⟩ := hq
            show WP _ _ _ _ (.int _ :: _) _ _ _ _
            rw [ec]
            clear ec Ra
            have e17934 : I17931 (ad g 4) 0 = w17876 := by rw [sI17931_4_0]; exact e17911
            have e17935 : I17931 (ad g 4) 1 = w17907 := by rw [sI17931_4_1]; exact e17914
            have e17936 : I17931 (ad g 27) 1 = w17851 := by rw [sI17931_27_1]; exact e17912
            have e17937 : I17931 (ad g 27) 2 = w17852 := by rw [sI17931_27_2]; exact e17913
            have e17938 : I17931 (ad g 1) 1 = L := hI17931.2
            have b17939 := BT_get hI17931.1 1 1 2 (0) (0) (900) (by decide) 1 (by decide) (by decide)
            rw [e17938] at b17939
            obtain ⟨w17940, ew17940⟩ : ∃ w : Int32, I17931 (ad g 4) 2 = w := ⟨_, rfl⟩
            have bw17940 := BT_get hI17931.1 4 0 5 (0) (0) (1000) (by decide) 2 (by decide) (by decide)
            rw [ew17940] at bw17940
            rw [ew17940] at cv17933
            refine WP_istore (ls' := [(0, _), (1, _), (2, _), (3, _), (4, _), (5, _), (6, _), (7, _)]) dX3_faultInParts_102 (by decide) rfl ?_
            refine WP_iload dX3_faultInParts_104 rfl ?_
            refine WQ_if_eq 112 dX3_faultInParts_106 rfl (fun c17940 => ?_) (fun c17940 => ?_)
            · refine WP_aload_n dX3_faultInParts_112 rfl ?_
              refine WP_getr dX3_faultInParts_113 fX3_15 rfl (lyx_is hy 3 3 rfl) (rfx hr 3 2 1 (by decide)) ?_
              refine WP_callV0 (k := 5) dX3_faultInParts_116 ⟨⟨⟨by decide, by decide⟩, zX5_next⟩, lX3_40, by decide, rfl, vX5_next.1, vX5_next.2⟩ (lyx_is hy 1 5 rfl) (sx_nextf hy hr hI17931  ) (Nat.le_of_ble_eq_true rfl) ?_
              intro r I17942 J17943 Ra hq
              obtain ⟨⟨hI17942, ec, fiI17942⟩, rfl⟩ := hq
              rw [ec]
              clear ec Ra
              have e17944 : I17942 (ad g 4) 0 = w17876 := by rw [fz_at fiI17942 4 (by decide) (by decide)]; exact e17934
              have e17945 : I17942 (ad g 4) 1 = w17907 := by rw [fz_at fiI17942 4 (by decide) (by decide)]; exact e17935
              have e17946 : I17942 (ad g 27) 1 = w17851 := by rw [fz_at fiI17942 27 (by decide) (by decide)]; exact e17936
              have e17947 : I17942 (ad g 27) 2 = w17852 := by rw [fz_at fiI17942 27 (by decide) (by decide)]; exact e17937
              have e17948 : I17942 (ad g 4) 2 = w17940 := by rw [fz_at fiI17942 4 (by decide) (by decide)]; exact ew17940
              have e17949 : I17942 (ad g 1) 1 = L := hI17942.2
              have b17950 := BT_get hI17942.1 1 1 2 (0) (0) (900) (by decide) 1 (by decide) (by decide)
              rw [e17949] at b17950
              refine WP_iinc (ls' := [(0, _), (1, _), (2, _), (3, _), (4, _), (5, _), (6, _), (7, _)]) dX3_faultInParts_119 rfl (by decide) rfl ?_
              have hv17951 : (v17917 + Int32.ofInt (1)).toInt = v17917.toInt + (1) := ia_n rfl (by omega) (by omega)
              generalize v17917 + Int32.ofInt (1) = v17951 at hv17951 ⊢
              refine WP_goto 8 dX3_faultInParts_122 rfl ?_
              refine WP_iload dX3_faultInParts_8 rfl ?_
              refine WP_aload_n dX3_faultInParts_10 rfl ?_
              refine WS_call hz (i := 13) (by omega) dX3_faultInParts_11 ⟨⟨by decide, by decide⟩, zJ0_length_8abf5⟩ lX3_87 vJ0_length_8abf5 (As := []) (rest := [.int v17951]) (j_length hz (i := 13) (by omega)) rfl rfl (Nat.le_of_ble_eq_true rfl) ?_
              intro r Ia Ja Ra hq
              obtain ⟨⟨ea, eb, ec⟩, v17952, rfl, cv17952⟩ := hq
              show WP _ _ _ _ (.int _ :: _) _ _ _ _
              rw [ea, eb, ec]
              clear ea eb ec Ia Ja Ra
              have hv17952 : v17952.toInt = 3 := cv17952.trans rfl
              refine WQ_icmp_ge 125 dX3_faultInParts_14 rfl (fun c17952 => ?_) (fun c17952 => False.elim (by omega))
              refine WP_aload_n dX3_faultInParts_125 rfl ?_
              refine WP_getr dX3_faultInParts_126 fX3_15 rfl (lyx_is hy 3 3 rfl) (rfx hr 3 2 1 (by decide)) ?_
              refine WQ_geti dX3_faultInParts_129 fX3_43 rfl (lyx_is hy 1 5 rfl) (BT_get hI17942.1 1 2 3 (0) (0) (4) (by decide) 2 (by decide) (by decide)) (fun v17954 ev17954 av17954 bv17954 => ?_)
              refine WQ_iconst (3) (3) dX3_faultInParts_132 rfl rfl (fun v17955 hv17955 => ?_)
              refine WQ_icmp_ne 140 dX3_faultInParts_133 rfl (fun c17955 => ?_) (fun c17955 => ?_)
              · refine WQ_iconst (1) (1) dX3_faultInParts_140 rfl rfl (fun v17957 hv17957 => ?_)
                exact WP_iret dX3_faultInParts_141 rfl ⟨⟨hI17942, rfl, ⟨trivial, (by rw [e17946, ew17851] <;> exact (eq32 _ _).mpr (by omega)), (by rw [e17947, ew17852] <;> exact (eq32 _ _).mpr (by omega))⟩⟩, _, rfl, by omega, by omega, by (try rw [e17944]; try rw [e17945]; try rw [e17948]); omega⟩
              · refine WQ_iconst (0) (0) dX3_faultInParts_136 rfl rfl (fun v17958 hv17958 => ?_)
                refine WP_goto 141 dX3_faultInParts_137 rfl ?_
                exact WP_iret dX3_faultInParts_141 rfl ⟨⟨hI17942, rfl, ⟨trivial, (by rw [e17946, ew17851] <;> exact (eq32 _ _).mpr (by omega)), (by rw [e17947, ew17852] <;> exact (eq32 _ _).mpr (by omega))⟩⟩, _, rfl, by omega, by omega, by (try rw [e17944]; try rw [e17945]; try rw [e17948]); omega⟩
            · refine WP_iload dX3_faultInParts_109 rfl ?_
              exact WP_iret dX3_faultInParts_111 rfl ⟨⟨hI17931, rfl, ⟨trivial, (by rw [e17936, ew17851] <;> exact (eq32 _ _).mpr (by omega)), (by rw [e17937, ew17852] <;> exact (eq32 _ _).mpr (by omega))⟩⟩, _, rfl, by omega, by omega, by (try rw [e17934]; try rw [e17935]; try rw [ew17940]); omega⟩
          · refine WQ_iconst (1) (1) dX3_faultInParts_72 rfl rfl (fun v17959 hv17959 => ?_)
            obtain ⟨w17960, ew17960⟩ : ∃ w : Int32, I17909 (ad g 4) 2 = w := ⟨_, rfl⟩
            have bw17960 := BT_get hI17909.1 4 0 5 (0) (0) (1000) (by decide) 2 (by decide) (by decide)
            rw [ew17960] at bw17960
            exact WP_iret dX3_faultInParts_73 rfl ⟨⟨hI17909, rfl, ⟨trivial, (by rw [e17912, ew17851] <;> exact (eq32 _ _).mpr (by omega)), (by rw [e17913, ew17852] <;> exact (eq32 _ _).mpr (by omega))⟩⟩, _, rfl, by omega, by omega, by (try rw [e17911]; try rw [e17914]; try rw [ew17960]); omega⟩
        · refine WP_iload dX3_faultInParts_109 rfl ?_
          obtain ⟨w17961, ew17961⟩ : ∃ w : Int32, I17899 (ad g 4) 2 = w := ⟨_, rfl⟩
          have bw17961 := BT_get hI17899.1 4 0 5 (0) (0) (1000) (by decide) 2 (by decide) (by decide)
          rw [ew17961] at bw17961
          exact WP_iret dX3_faultInParts_111 rfl ⟨⟨hI17899, rfl, ⟨trivial, (by rw [e17903, ew17851] <;> exact (eq32 _ _).mpr (by omega)), (by rw [e17904, ew17852] <;> exact (eq32 _ _).mpr (by omega))⟩⟩, _, rfl, by omega, by omega, by (try rw [e17902]; try rw [ew17907]; try rw [ew17961]); omega⟩
      · refine WQ_iconst (1) (1) dX3_faultInParts_72 rfl rfl (fun v17962 hv17962 => ?_)
        obtain ⟨w17963, ew17963⟩ : ∃ w : Int32, I17878 (ad g 4) 1 = w := ⟨_, rfl⟩
        have bw17963 := BT_get hI17878.1 4 0 5 (0) (0) (1000) (by decide) 1 (by decide) (by decide)
        rw [ew17963] at bw17963
        obtain ⟨w17964, ew17964⟩ : ∃ w : Int32, I17878 (ad g 4) 2 = w := ⟨_, rfl⟩
        have bw17964 := BT_get hI17878.1 4 0 5 (0) (0) (1000) (by decide) 2 (by decide) (by decide)
        rw [ew17964] at bw17964
        exact WP_iret dX3_faultInParts_73 rfl ⟨⟨hI17878, rfl, ⟨trivial, (by rw [e17880, ew17851] <;> exact (eq32 _ _).mpr (by omega)), (by rw [e17881, ew17852] <;> exact (eq32 _ _).mpr (by omega))⟩⟩, _, rfl, by omega, by omega, by (try rw [e17882]; try rw [ew17963]; try rw [ew17964]); omega⟩
    · refine WP_iload dX3_faultInParts_109 rfl ?_
      obtain ⟨w17965, ew17965⟩ : ∃ w : Int32, I17869 (ad g 4) 1 = w := ⟨_, rfl⟩
      have bw17965 := BT_get hI17869.1 4 0 5 (0) (0) (1000) (by decide) 1 (by decide) (by decide)
      rw [ew17965] at bw17965
      obtain ⟨w17966, ew17966⟩ : ∃ w : Int32, I17869 (ad g 4) 2 = w := ⟨_, rfl⟩
      have bw17966 := BT_get hI17869.1 4 0 5 (0) (0) (1000) (by decide) 2 (by decide) (by decide)
      rw [ew17966] at bw17966
      exact WP_iret dX3_faultInParts_111 rfl ⟨⟨hI17869, rfl, ⟨trivial, (by rw [e17872, ew17851] <;> exact (eq32 _ _).mpr (by omega)), (by rw [e17873, ew17852] <;> exact (eq32 _ _).mpr (by omega))⟩⟩, _, rfl, by omega, by omega, by (try rw [ew17876]; try rw [ew17965]; try rw [ew17966]); omega⟩
  · refine WQ_iconst (1) (1) dX3_faultInParts_72 rfl rfl (fun v17967 hv17967 => ?_)
    obtain ⟨w17968, ew17968⟩ : ∃ w : Int32, I (ad g 4) 0 = w := ⟨_, rfl⟩
    have bw17968 := BT_get hI.1 4 0 5 (0) (0) (1000) (by decide) 0 (by decide) (by decide)
    rw [ew17968] at bw17968
    obtain ⟨w17969, ew17969⟩ : ∃ w : Int32, I (ad g 4) 1 = w := ⟨_, rfl⟩
    have bw17969 := BT_get hI.1 4 0 5 (0) (0) (1000) (by decide) 1 (by decide) (by decide)
    rw [ew17969] at bw17969
    obtain ⟨w17970, ew17970⟩ : ∃ w : Int32, I (ad g 4) 2 = w := ⟨_, rfl⟩
    have bw17970 := BT_get hI.1 4 0 5 (0) (0) (1000) (by decide) 2 (by decide) (by decide)
    rw [ew17970] at bw17970
    exact WP_iret dX3_faultInParts_73 rfl ⟨⟨hI, rfl, ⟨trivial, rfl, rfl⟩⟩, _, rfl, by omega, by omega, by (try rw [ew17968]; try rw [ew17969]; try rw [ew17970]); omega⟩
set_option maxHeartbeats 4000000 in
set_option maxRecDepth 100000 in
theorem sx_parts_27_4 {g : GG} {n : Int} {L : Int32} (hy : LyX g) {aK aV : Nat → Nat} {fo : Option Nat} (hz : HZ g aK aV fo)  {I : pI} {J : pJ} {R : pR} (hr : RfX g R) (hI : XI g n L I) (cz : Int32) (cz_lo : 4 ≤ cz.toInt) (cz_hi : cz.toInt ≤ 4) : SP g mX3_faultInParts [.ref (ad g 3), .int cz, .ref (ad g 27)] I J R (fun r I' J' R' => (XI g n L I' ∧ R' = R ∧ True ∧ I' (ad g 27) 1 = I (ad g 27) 1 ∧ I' (ad g 27) 2 = I (ad g 27) 2) ∧ ∃ v : Int32, r = some (.int v) ∧ 0 ≤ v.toInt ∧ v.toInt ≤ 5 ∧ (v.toInt = 0 → (I' (ad g 4) 0).toInt ≤ 2 ∧ (I' (ad g 4) 1).toInt ≤ 6 ∧ (I' (ad g 4) 2).toInt ≤ 20)) := by
  refine SP_of ⟨by decide, rfl⟩ (Nat.le_of_ble_eq_true rfl) ?_
  have e17971 : I (ad g 1) 1 = L := hI.2
  have b17972 := BT_get hI.1 1 1 2 (0) (0) (900) (by decide) 1 (by decide) (by decide)
  rw [e17971] at b17972
  obtain ⟨w17973, ew17973⟩ : ∃ w : Int32, I (ad g 27) 1 = w := ⟨_, rfl⟩
  have bw17973 := BT_get hI.1 27 1 2 (0) (0) (4) (by decide) 1 (by decide) (by decide)
  rw [ew17973] at bw17973
  obtain ⟨w17974, ew17974⟩ : ∃ w : Int32, I (ad g 27) 2 = w := ⟨_, rfl⟩
  have bw17974 := BT_get hI.1 27 2 3 (0) (0) (3) (by decide) 2 (by decide) (by decide)
  rw [ew17974] at bw17974
  refine WP_iload_n dX3_faultInParts_0 rfl ?_
  refine WP_callS1 dX3_faultInParts_1 ⟨⟨⟨by decide, by decide⟩, zX3_shapeOf⟩, lX3_84, tX3_shapeOf⟩ (sx_shapeOf hy hz hr hI cz (by omega) (by omega)) (Nat.le_of_ble_eq_true rfl) ?_
  intro r Ia Ja Ra hq
  obtain ⟨⟨ea, eb, ec⟩, rfl⟩ := hq
  show WP _ _ _ _ (.ref _ :: _) _ _ _ _
  rw [show 10 + cz.toInt.toNat = 14 by omega]
  rw [ea, eb, ec]
  clear ea eb ec Ia Ja Ra
  refine WP_astore_n (ls' := [(0, _), (1, _), (2, _), (3, _)]) dX3_faultInParts_4 (by decide) rfl ?_
  refine WQ_iconst (0) (0) dX3_faultInParts_5 rfl rfl (fun v17975 hv17975 => ?_)
  refine WP_istore (ls' := [(0, _), (1, _), (2, _), (3, _), (4, _)]) dX3_faultInParts_6 (by decide) rfl ?_
  refine WP_iload dX3_faultInParts_8 rfl ?_
  refine WP_aload_n dX3_faultInParts_10 rfl ?_
  refine WS_call hz (i := 14) (by omega) dX3_faultInParts_11 ⟨⟨by decide, by decide⟩, zJ0_length_8abf5⟩ lX3_87 vJ0_length_8abf5 (As := []) (rest := [.int v17975]) (j_length hz (i := 14) (by omega)) rfl rfl (Nat.le_of_ble_eq_true rfl) ?_
  intro r Ia Ja Ra hq
  obtain ⟨⟨ea, eb, ec⟩, v17976, rfl, cv17976⟩ := hq
  show WP _ _ _ _ (.int _ :: _) _ _ _ _
  rw [ea, eb, ec]
  clear ea eb ec Ia Ja Ra
  have hv17976 : v17976.toInt = 3 := cv17976.trans rfl
  refine WQ_icmp_ge 125 dX3_faultInParts_14 rfl (fun c17976 => False.elim (by omega)) (fun c17976 => ?_)
  refine WP_iload dX3_faultInParts_17 rfl ?_
  refine WQ_iconst (5) (5) dX3_faultInParts_19 rfl rfl (fun v17978 hv17978 => ?_)
  refine WQ_icmp_ge 125 dX3_faultInParts_20 rfl (fun c17978 => False.elim (by omega)) (fun c17978 => ?_)
  refine WP_aload_n dX3_faultInParts_23 rfl ?_
  refine WP_iload dX3_faultInParts_24 rfl ?_
  refine WS_call hz (i := 14) (by omega) dX3_faultInParts_26 ⟨⟨by decide, by decide⟩, zJ0_charAt_5068e⟩ lX3_92 vJ0_charAt_5068e (As := [.int v17975]) (rest := []) (j_charAt hz (i := 14) (k := v17975) (by omega) (by omega) (by have z9 : ((liN.getD 14 0 : Nat) : Int) = 3 := rfl; omega)) rfl rfl (Nat.le_of_ble_eq_true rfl) ?_
  intro r Ia Ja Ra hq
  obtain ⟨⟨ea, eb, ec⟩, v17980, rfl, cv17980⟩ := hq
  show WP _ _ _ _ (.int _ :: _) _ _ _ _
  rw [ea, eb, ec]
  clear ea eb ec Ia Ja Ra
  have hv17980 : v17980.toInt = 116 := cv17980.trans (by rw [show v17975.toInt.toNat = 0 by omega]; rfl)
  refine WP_istore (ls' := [(0, _), (1, _), (2, _), (3, _), (4, _), (5, _)]) dX3_faultInParts_29 (by decide) rfl ?_
  refine WP_iload dX3_faultInParts_31 rfl ?_
  refine WQ_bipush (97) (97) dX3_faultInParts_33 rfl rfl (fun v17981 hv17981 => ?_)
  refine WQ_icmp_lt 49 dX3_faultInParts_35 rfl (fun c17981 => False.elim (by omega)) (fun c17981 => ?_)
  refine WP_iload dX3_faultInParts_38 rfl ?_
  refine WQ_bipush (122) (122) dX3_faultInParts_40 rfl rfl (fun v17983 hv17983 => ?_)
  refine WQ_icmp_gt 49 dX3_faultInParts_42 rfl (fun c17983 => False.elim (by omega)) (fun c17983 => ?_)
  refine WQ_iconst (1) (1) dX3_faultInParts_45 rfl rfl (fun v17985 hv17985 => ?_)
  refine WP_goto 50 dX3_faultInParts_46 rfl ?_
  refine WP_istore (ls' := [(0, _), (1, _), (2, _), (3, _), (4, _), (5, _), (6, _)]) dX3_faultInParts_50 (by decide) rfl ?_
  refine WP_aload_n dX3_faultInParts_52 rfl ?_
  refine WP_getr dX3_faultInParts_53 fX3_15 rfl (lyx_is hy 3 3 rfl) (rfx hr 3 2 1 (by decide)) ?_
  refine WQ_geti dX3_faultInParts_56 fX3_43 rfl (lyx_is hy 1 5 rfl) (BT_get hI.1 1 2 3 (0) (0) (4) (by decide) 2 (by decide) (by decide)) (fun v17986 ev17986 av17986 bv17986 => ?_)
  refine WP_iload dX3_faultInParts_59 rfl ?_
  refine WQ_if_eq 68 dX3_faultInParts_61 rfl (fun c17986 => False.elim (by omega)) (fun c17986 => ?_)
  refine WQ_iconst (1) (1) dX3_faultInParts_64 rfl rfl (fun v17988 hv17988 => ?_)
  refine WP_goto 69 dX3_faultInParts_65 rfl ?_
  refine WQ_icmp_eq 74 dX3_faultInParts_69 rfl (fun c17988 => ?_) (fun c17988 => ?_)
  · refine WP_iload dX3_faultInParts_74 rfl ?_
    refine WQ_if_eq 92 dX3_faultInParts_76 rfl (fun c17989 => False.elim (by omega)) (fun c17989 => ?_)
    refine WP_aload_n dX3_faultInParts_79 rfl ?_
    refine WP_iload dX3_faultInParts_80 rfl ?_
    refine WP_iload_n dX3_faultInParts_82 rfl ?_
    refine WP_iload dX3_faultInParts_83 rfl ?_
    refine WP_aload_n dX3_faultInParts_85 rfl ?_
    refine WP_callV4 (k := 3) dX3_faultInParts_86 ⟨⟨⟨by decide, by decide⟩, zX3_faultOfName⟩, lX3_96, by decide, rfl, vX3_faultOfName.1, vX3_faultOfName.2⟩ (lyx_is hy 3 3 rfl) (sx_part_27_4_0 hy hr hI v17980 cz v17975 (by omega) (by omega) (by omega) (by omega) (by omega) (by omega)) (Nat.le_of_ble_eq_true rfl) ?_
    intro r I17991 J17992 Ra hq
    obtain ⟨⟨hI17991, ec, ⟨pI17991, sI17991_27_1, sI17991_27_2⟩⟩, v17993, rfl, av17993, bv17993, cv17993⟩ := hq
    show WP _ _ _ _ (.int _ :: _) _ _ _ _
    rw [ec]
    clear ec Ra
    have e17994 : I17991 (ad g 27) 1 = w17973 := by rw [sI17991_27_1]; exact ew17973
    have e17995 : I17991 (ad g 27) 2 = w17974 := by rw [sI17991_27_2]; exact ew17974
    have e17996 : I17991 (ad g 1) 1 = L := hI17991.2
    have b17997 := BT_get hI17991.1 1 1 2 (0) (0) (900) (by decide) 1 (by decide) (by decide)
    rw [e17996] at b17997
    obtain ⟨w17998, ew17998⟩ : ∃ w : Int32, I17991 (ad g 4) 0 = w := ⟨_, rfl⟩
    have bw17998 := BT_get hI17991.1 4 0 5 (0) (0) (1000) (by decide) 0 (by decide) (by decide)
    rw [ew17998] at bw17998
    rw [ew17998] at cv17993
    refine WP_goto 102 dX3_faultInParts_89 rfl ?_
    refine WP_istore (ls' := [(0, _), (1, _), (2, _), (3, _), (4, _), (5, _), (6, _), (7, _)]) dX3_faultInParts_102 (by decide) rfl ?_
    refine WP_iload dX3_faultInParts_104 rfl ?_
    refine WQ_if_eq 112 dX3_faultInParts_106 rfl (fun c17998 => ?_) (fun c17998 => ?_)
    · refine WP_aload_n dX3_faultInParts_112 rfl ?_
      refine WP_getr dX3_faultInParts_113 fX3_15 rfl (lyx_is hy 3 3 rfl) (rfx hr 3 2 1 (by decide)) ?_
      refine WP_callV0 (k := 5) dX3_faultInParts_116 ⟨⟨⟨by decide, by decide⟩, zX5_next⟩, lX3_40, by decide, rfl, vX5_next.1, vX5_next.2⟩ (lyx_is hy 1 5 rfl) (sx_nextf hy hr hI17991  ) (Nat.le_of_ble_eq_true rfl) ?_
      intro r I18000 J18001 Ra hq
      obtain ⟨⟨hI18000, ec, fiI18000⟩, rfl⟩ := hq
      rw [ec]
      clear ec Ra
      have e18002 : I18000 (ad g 27) 1 = w17973 := by rw [fz_at fiI18000 27 (by decide) (by decide)]; exact e17994
      have e18003 : I18000 (ad g 27) 2 = w17974 := by rw [fz_at fiI18000 27 (by decide) (by decide)]; exact e17995
      have e18004 : I18000 (ad g 4) 0 = w17998 := by rw [fz_at fiI18000 4 (by decide) (by decide)]; exact ew17998
      have e18005 : I18000 (ad g 1) 1 = L := hI18000.2
      have b18006 := BT_get hI18000.1 1 1 2 (0) (0) (900) (by decide) 1 (by decide) (by decide)
      rw [e18005] at b18006
      refine WP_iinc (ls' := [(0, _), (1, _), (2, _), (3, _), (4, _), (5, _), (6, _), (7, _)]) dX3_faultInParts_119 rfl (by decide) rfl ?_
      have hv18007 : (v17975 + Int32.ofInt (1)).toInt = v17975.toInt + (1) := ia_n rfl (by omega) (by omega)
      generalize v17975 + Int32.ofInt (1) = v18007 at hv18007 ⊢
      refine WP_goto 8 dX3_faultInParts_122 rfl ?_
      refine WP_iload dX3_faultInParts_8 rfl ?_
      refine WP_aload_n dX3_faultInParts_10 rfl ?_
      refine WS_call hz (i := 14) (by omega) dX3_faultInParts_11 ⟨⟨by decide, by decide⟩, zJ0_length_8abf5⟩ lX3_87 vJ0_length_8abf5 (As := []) (rest := [.int v18007]) (j_length hz (i := 14) (by omega)) rfl rfl (Nat.le_of_ble_eq_true rfl) ?_
      intro r Ia Ja Ra hq
      obtain ⟨⟨ea, eb, ec⟩, v18008, rfl, cv18008⟩ := hq
      show WP _ _ _ _ (.int _ :: _) _ _ _ _
      rw [ea, eb, ec]
      clear ea eb ec Ia Ja Ra
      have hv18008 : v18008.toInt = 3 := cv18008.trans rfl
      refine WQ_icmp_ge 125 dX3_faultInParts_14 rfl (fun c18008 => False.elim (by omega)) (fun c18008 => ?_)
      refine WP_iload dX3_faultInParts_17 rfl ?_
      refine WQ_iconst (5) (5) dX3_faultInParts_19 rfl rfl (fun v18010 hv18010 => ?_)
      refine WQ_icmp_ge 125 dX3_faultInParts_20 rfl (fun c18010 => False.elim (by omega)) (fun c18010 => ?_)
      refine WP_aload_n dX3_faultInParts_23 rfl ?_
      refine WP_iload dX3_faultInParts_24 rfl ?_
      refine WS_call hz (i := 14) (by omega) dX3_faultInParts_26 ⟨⟨by decide, by decide⟩, zJ0_charAt_5068e⟩ lX3_92 vJ0_charAt_5068e (As := [.int v18007]) (rest := []) (j_charAt hz (i := 14) (k := v18007) (by omega) (by omega) (by have z9 : ((liN.getD 14 0 : Nat) : Int) = 3 := rfl; omega)) rfl rfl (Nat.le_of_ble_eq_true rfl) ?_
      intro r Ia Ja Ra hq
      obtain ⟨⟨ea, eb, ec⟩, v18012, rfl, cv18012⟩ := hq
      show WP _ _ _ _ (.int _ :: _) _ _ _ _
      rw [ea, eb, ec]
      clear ea eb ec Ia Ja Ra
      have hv18012 : v18012.toInt = 68 := cv18012.trans (by rw [show v18007.toInt.toNat = 1 by omega]; rfl)
      refine WP_istore (ls' := [(0, _), (1, _), (2, _), (3, _), (4, _), (5, _), (6, _), (7, _)]) dX3_faultInParts_29 (by decide) rfl ?_
      refine WP_iload dX3_faultInParts_31 rfl ?_
      refine WQ_bipush (97) (97) dX3_faultInParts_33 rfl rfl (fun v18013 hv18013 => ?_)
      refine WQ_icmp_lt 49 dX3_faultInParts_35 rfl (fun c18013 => ?_) (fun c18013 => False.elim (by omega))
      refine WQ_iconst (0) (0) dX3_faultInParts_49 rfl rfl (fun v18015 hv18015 => ?_)
      refine WP_istore (ls' := [(0, _), (1, _), (2, _), (3, _), (4, _), (5, _), (6, _), (7, _)]) dX3_faultInParts_50 (by decide) rfl ?_
      refine WP_aload_n dX3_faultInParts_52 rfl ?_
      refine WP_getr dX3_faultInParts_53 fX3_15 rfl (lyx_is hy 3 3 rfl) (rfx hr 3 2 1 (by decide)) ?_
      refine WQ_geti dX3_faultInParts_56 fX3_43 rfl (lyx_is hy 1 5 rfl) (BT_get hI18000.1 1 2 3 (0) (0) (4) (by decide) 2 (by decide) (by decide)) (fun v18016 ev18016 av18016 bv18016 => ?_)
      refine WP_iload dX3_faultInParts_59 rfl ?_
      refine WQ_if_eq 68 dX3_faultInParts_61 rfl (fun c18016 => ?_) (fun c18016 => False.elim (by omega))
      refine WQ_iconst (2) (2) dX3_faultInParts_68 rfl rfl (fun v18018 hv18018 => ?_)
      refine WQ_icmp_eq 74 dX3_faultInParts_69 rfl (fun c18018 => ?_) (fun c18018 => ?_)
      · refine WP_iload dX3_faultInParts_74 rfl ?_
        refine WQ_if_eq 92 dX3_faultInParts_76 rfl (fun c18019 => ?_) (fun c18019 => False.elim (by omega))
        refine WP_aload_n dX3_faultInParts_92 rfl ?_
        refine WP_iload dX3_faultInParts_93 rfl ?_
        refine WP_iload_n dX3_faultInParts_95 rfl ?_
        refine WP_iload dX3_faultInParts_96 rfl ?_
        refine WP_aload_n dX3_faultInParts_98 rfl ?_
        refine WP_callV4 (k := 3) dX3_faultInParts_99 ⟨⟨⟨by decide, by decide⟩, zX3_faultOfNumber⟩, lX3_100, by decide, rfl, vX3_faultOfNumber.1, vX3_faultOfNumber.2⟩ (lyx_is hy 3 3 rfl) (sx_part_27_4_1 hy hr hI18000 v18012 cz v18007 (by omega) (by omega) (by omega) (by omega) (by omega) (by omega) (by rw [e18004]; omega)) (Nat.le_of_ble_eq_true rfl) ?_
        intro r I18021 J18022 Ra hq
        obtain ⟨⟨hI18021, ec, ⟨pI18021, sI18021_4_0, sI18021_27_1, sI18021_27_2⟩⟩, v18023, rfl, av18023, bv18023, cv18023⟩ := hq
        show WP _ _ _ _ (.int _ :: _) _ _ _ _
        rw [ec]
        clear ec Ra
        have e18024 : I18021 (ad g 4) 0 = w17998 := by rw [sI18021_4_0]; exact e18004
        have e18025 : I18021 (ad g 27) 1 = w17973 := by rw [sI18021_27_1]; exact e18002
        have e18026 : I18021 (ad g 27) 2 = w17974 := by rw [sI18021_27_2]; exact e18003
        have e18027 : I18021 (ad g 1) 1 = L := hI18021.2
        have b18028 := BT_get hI18021.1 1 1 2 (0) (0) (900) (by decide) 1 (by decide) (by decide)
        rw [e18027] at b18028
        obtain ⟨w18029, ew18029⟩ : ∃ w : Int32, I18021 (ad g 4) 1 = w := ⟨_, rfl⟩
        have bw18029 := BT_get hI18021.1 4 0 5 (0) (0) (1000) (by decide) 1 (by decide) (by decide)
        rw [ew18029] at bw18029
        rw [ew18029] at cv18023
        refine WP_istore (ls' := [(0, _), (1, _), (2, _), (3, _), (4, _), (5, _), (6, _), (7, _)]) dX3_faultInParts_102 (by decide) rfl ?_
        refine WP_iload dX3_faultInParts_104 rfl ?_
        refine WQ_if_eq 112 dX3_faultInParts_106 rfl (fun c18029 => ?_) (fun c18029 => ?_)
        · refine WP_aload_n dX3_faultInParts_112 rfl ?_
          refine WP_getr dX3_faultInParts_113 fX3_15 rfl (lyx_is hy 3 3 rfl) (rfx hr 3 2 1 (by decide)) ?_
          refine WP_callV0 (k := 5) dX3_faultInParts_116 ⟨⟨⟨by decide, by decide⟩, zX5_next⟩, lX3_40, by decide, rfl, vX5_next.1, vX5_next.2⟩ (lyx_is hy 1 5 rfl) (sx_nextf hy hr hI18021  ) (Nat.le_of_ble_eq_true rfl) ?_
          intro r I18031 J18032 Ra hq
          obtain ⟨⟨hI18031, ec, fiI18031⟩, rfl⟩ := hq
          rw [ec]
          clear ec Ra
          have e18033 : I18031 (ad g 4) 0 = w17998 := by rw [fz_at fiI18031 4 (by decide) (by decide)]; exact e18024
          have e18034 : I18031 (ad g 27) 1 = w17973 := by rw [fz_at fiI18031 27 (by decide) (by decide)]; exact e18025
          have e18035 : I18031 (ad g 27) 2 = w17974 := by rw [fz_at fiI18031 27 (by decide) (by decide)]; exact e18026
          have e18036 : I18031 (ad g 4) 1 = w18029 := by rw [fz_at fiI18031 4 (by decide) (by decide)]; exact ew18029
          have e18037 : I18031 (ad g 1) 1 = L := hI18031.2
          have b18038 := BT_get hI18031.1 1 1 2 (0) (0) (900) (by decide) 1 (by decide) (by decide)
          rw [e18037] at b18038
          refine WP_iinc (ls' := [(0, _), (1, _), (2, _), (3, _), (4, _), (5, _), (6, _), (7, _)]) dX3_faultInParts_119 rfl (by decide) rfl ?_
          have hv18039 : (v18007 + Int32.ofInt (1)).toInt = v18007.toInt + (1) := ia_n rfl (by omega) (by omega)
          generalize v18007 + Int32.ofInt (1) = v18039 at hv18039 ⊢
          refine WP_goto 8 dX3_faultInParts_122 rfl ?_
          refine WP_iload dX3_faultInParts_8 rfl ?_
          refine WP_aload_n dX3_faultInParts_10 rfl ?_
          refine WS_call hz (i := 14) (by omega) dX3_faultInParts_11 ⟨⟨by decide, by decide⟩, zJ0_length_8abf5⟩ lX3_87 vJ0_length_8abf5 (As := []) (rest := [.int v18039]) (j_length hz (i := 14) (by omega)) rfl rfl (Nat.le_of_ble_eq_true rfl) ?_
          intro r Ia Ja Ra hq
          obtain ⟨⟨ea, eb, ec⟩, v18040, rfl, cv18040⟩ := hq
          show WP _ _ _ _ (.int _ :: _) _ _ _ _
          rw [ea, eb, ec]
          clear ea eb ec Ia Ja Ra
          have hv18040 : v18040.toInt = 3 := cv18040.trans rfl
          refine WQ_icmp_ge 125 dX3_faultInParts_14 rfl (fun c18040 => False.elim (by omega)) (fun c18040 => ?_)
          refine WP_iload dX3_faultInParts_17 rfl ?_
          refine WQ_iconst (5) (5) dX3_faultInParts_19 rfl rfl (fun v18042 hv18042 => ?_)
          refine WQ_icmp_ge 125 dX3_faultInParts_20 rfl (fun c18042 => False.elim (by omega)) (fun c18042 => ?_)
          refine WP_aload_n dX3_faultInParts_23 rfl ?_
          refine WP_iload dX3_faultInParts_24 rfl ?_
          refine WS_call hz (i := 14) (by omega) dX3_faultInParts_26 ⟨⟨by decide, by decide⟩, zJ0_charAt_5068e⟩ lX3_92 vJ0_charAt_5068e (As := [.int v18039]) (rest := []) (j_charAt hz (i := 14) (k := v18039) (by omega) (by omega) (by have z9 : ((liN.getD 14 0 : Nat) : Int) = 3 := rfl; omega)) rfl rfl (Nat.le_of_ble_eq_true rfl) ?_
          intro r Ia Ja Ra hq
          obtain ⟨⟨ea, eb, ec⟩, v18044, rfl, cv18044⟩ := hq
          show WP _ _ _ _ (.int _ :: _) _ _ _ _
          rw [ea, eb, ec]
          clear ea eb ec Ia Ja Ra
          have hv18044 : v18044.toInt = 69 := cv18044.trans (by rw [show v18039.toInt.toNat = 2 by omega]; rfl)
          refine WP_istore (ls' := [(0, _), (1, _), (2, _), (3, _), (4, _), (5, _), (6, _), (7, _)]) dX3_faultInParts_29 (by decide) rfl ?_
          refine WP_iload dX3_faultInParts_31 rfl ?_
          refine WQ_bipush (97) (97) dX3_faultInParts_33 rfl rfl (fun v18045 hv18045 => ?_)
          refine WQ_icmp_lt 49 dX3_faultInParts_35 rfl (fun c18045 => ?_) (fun c18045 => False.elim (by omega))
          refine WQ_iconst (0) (0) dX3_faultInParts_49 rfl rfl (fun v18047 hv18047 => ?_)
          refine WP_istore (ls' := [(0, _), (1, _), (2, _), (3, _), (4, _), (5, _), (6, _), (7, _)]) dX3_faultInParts_50 (by decide) rfl ?_
          refine WP_aload_n dX3_faultInParts_52 rfl ?_
          refine WP_getr dX3_faultInParts_53 fX3_15 rfl (lyx_is hy 3 3 rfl) (rfx hr 3 2 1 (by decide)) ?_
          refine WQ_geti dX3_faultInParts_56 fX3_43 rfl (lyx_is hy 1 5 rfl) (BT_get hI18031.1 1 2 3 (0) (0) (4) (by decide) 2 (by decide) (by decide)) (fun v18048 ev18048 av18048 bv18048 => ?_)
          refine WP_iload dX3_faultInParts_59 rfl ?_
          refine WQ_if_eq 68 dX3_faultInParts_61 rfl (fun c18048 => ?_) (fun c18048 => False.elim (by omega))
          refine WQ_iconst (2) (2) dX3_faultInParts_68 rfl rfl (fun v18050 hv18050 => ?_)
          refine WQ_icmp_eq 74 dX3_faultInParts_69 rfl (fun c18050 => ?_) (fun c18050 => ?_)
          · refine WP_iload dX3_faultInParts_74 rfl ?_
            refine WQ_if_eq 92 dX3_faultInParts_76 rfl (fun c18051 => ?_) (fun c18051 => False.elim (by omega))
            refine WP_aload_n dX3_faultInParts_92 rfl ?_
            refine WP_iload dX3_faultInParts_93 rfl ?_
            refine WP_iload_n dX3_faultInParts_95 rfl ?_
            refine WP_iload dX3_faultInParts_96 rfl ?_
            refine WP_aload_n dX3_faultInParts_98 rfl ?_
            refine WP_callV4 (k := 3) dX3_faultInParts_99 ⟨⟨⟨by decide, by decide⟩, zX3_faultOfNumber⟩, lX3_100, by decide, rfl, vX3_faultOfNumber.1, vX3_faultOfNumber.2⟩ (lyx_is hy 3 3 rfl) (sx_part_27_4_2 hy hr hI18031 v18044 cz v18039 (by omega) (by omega) (by omega) (by omega) (by omega) (by omega)) (Nat.le_of_ble_eq_true rfl) ?_
            intro r I18053 J18054 Ra hq
            obtain ⟨⟨hI18053, ec, ⟨pI18053, sI18053_4_0, sI18053_4_1, sI18053_27_1, sI18053_27_2⟩⟩, v18055, rfl, av18055, bv18055, cv18055⟩ := hq
            show WP _ _ _ _ (.int _ :: _) _ _ _ _
            rw [ec]
            clear ec Ra
            have e18056 : I18053 (ad g 4) 0 = w17998 := by rw [sI18053_4_0]; exact e18033
            have e18057 : I18053 (ad g 4) 1 = w18029 := by rw [sI18053_4_1]; exact e18036
            have e18058 : I18053 (ad g 27) 1 = w17973 := by rw [sI18053_27_1]; exact e18034
            have e18059 : I18053 (ad g 27) 2 = w17974 := by rw [sI18053_27_2]; exact e18035
            have e18060 : I18053 (ad g 1) 1 = L := hI18053.2
            have b18061 := BT_get hI18053.1 1 1 2 (0) (0) (900) (by decide) 1 (by decide) (by decide)
            rw [e18060] at b18061
            obtain ⟨w18062, ew18062⟩ : ∃ w : Int32, I18053 (ad g 4) 2 = w := ⟨_, rfl⟩
            have bw18062 := BT_get hI18053.1 4 0 5 (0) (0) (1000) (by decide) 2 (by decide) (by decide)
            rw [ew18062] at bw18062
            rw [ew18062] at cv18055
            refine WP_istore (ls' := [(0, _), (1, _), (2, _), (3, _), (4, _), (5, _), (6, _), (7, _)]) dX3_faultInParts_102 (by decide) rfl ?_
            refine WP_iload dX3_faultInParts_104 rfl ?_
            refine WQ_if_eq 112 dX3_faultInParts_106 rfl (fun c18062 => ?_) (fun c18062 => ?_)
            · refine WP_aload_n dX3_faultInParts_112 rfl ?_
              refine WP_getr dX3_faultInParts_113 fX3_15 rfl (lyx_is hy 3 3 rfl) (rfx hr 3 2 1 (by decide)) ?_
              refine WP_callV0 (k := 5) dX3_faultInParts_116 ⟨⟨⟨by decide, by decide⟩, zX5_next⟩, lX3_40, by decide, rfl, vX5_next.1, vX5_next.2⟩ (lyx_is hy 1 5 rfl) (sx_nextf hy hr hI18053  ) (Nat.le_of_ble_eq_true rfl) ?_
              intro r I18064 J18065 Ra hq
              obtain ⟨⟨hI18064, ec, fiI18064⟩, rfl⟩ := hq
              rw [ec]
              clear ec Ra
              have e18066 : I18064 (ad g 4) 0 = w17998 := by rw [fz_at fiI18064 4 (by decide) (by decide)]; exact e18056
              have e18067 : I18064 (ad g 4) 1 = w18029 := by rw [fz_at fiI18064 4 (by decide) (by decide)]; exact e18057
              have e18068 : I18064 (ad g 27) 1 = w17973 := by rw [fz_at fiI18064 27 (by decide) (by decide)]; exact e18058
              have e18069 : I18064 (ad g 27) 2 = w17974 := by rw [fz_at fiI18064 27 (by decide) (by decide)]; exact e18059
              have e18070 : I18064 (ad g 4) 2 = w18062 := by rw [fz_at fiI18064 4 (by decide) (by decide)]; exact ew18062
              have e18071 : I18064 (ad g 1) 1 = L := hI18064.2
              have b18072 := BT_get hI18064.1 1 1 2 (0) (0) (900) (by decide) 1 (by decide) (by decide)
              rw [e18071] at b18072
              refine WP_iinc (ls' := [(0, _), (1, _), (2, _), (3, _), (4, _), (5, _), (6, _), (7, _)]) dX3_faultInParts_119 rfl (by decide) rfl ?_
              have hv18073 : (v18039 + Int32.ofInt (1)).toInt = v18039.toInt + (1) := ia_n rfl (by omega) (by omega)
              generalize v18039 + Int32.ofInt (1) = v18073 at hv18073 ⊢
              refine WP_goto 8 dX3_faultInParts_122 rfl ?_
              refine WP_iload dX3_faultInParts_8 rfl ?_
              refine WP_aload_n dX3_faultInParts_10 rfl ?_
              refine WS_call hz (i := 14) (by omega) dX3_faultInParts_11 ⟨⟨by decide, by decide⟩, zJ0_length_8abf5⟩ lX3_87 vJ0_length_8abf5 (As := []) (rest := [.int v18073]) (j_length hz (i := 14) (by omega)) rfl rfl (Nat.le_of_ble_eq_true rfl) ?_
              intro r Ia Ja Ra hq
              obtain ⟨⟨ea, eb, ec⟩, v18074, rfl, cv18074⟩ := hq
              show WP _ _ _ _ (.int _ :: _) _ _ _ _
              rw [ea, eb, ec]
              clear ea eb ec Ia Ja Ra
              have hv18074 : v18074.toInt = 3 := cv18074.trans rfl
              refine WQ_icmp_ge 125 dX3_faultInParts_14 rfl (fun c18074 => ?_) (fun c18074 => False.elim (by omega))
              refine WP_aload_n dX3_faultInParts_125 rfl ?_
              refine WP_getr dX3_faultInParts_126 fX3_15 rfl (lyx_is hy 3 3 rfl) (rfx hr 3 2 1 (by decide)) ?_
              refine WQ_geti dX3_faultInParts_129 fX3_43 rfl (lyx_is hy 1 5 rfl) (BT_get hI18064.1 1 2 3 (0) (0) (4) (by decide) 2 (by decide) (by decide)) (fun v18076 ev18076 av18076 bv18076 => ?_)
              refine WQ_iconst (3) (3) dX3_faultInParts_132 rfl rfl (fun v18077 hv18077 => ?_)
              refine WQ_icmp_ne 140 dX3_faultInParts_133 rfl (fun c18077 => ?_) (fun c18077 => ?_)
              · refine WQ_iconst (1) (1) dX3_faultInParts_140 rfl rfl (fun v18079 hv18079 => ?_)
                exact WP_iret dX3_faultInParts_141 rfl ⟨⟨hI18064, rfl, ⟨trivial, (by rw [e18068, ew17973] <;> exact (eq32 _ _).mpr (by omega)), (by rw [e18069, ew17974] <;> exact (eq32 _ _).mpr (by omega))⟩⟩, _, rfl, by omega, by omega, by (try rw [e18066]; try rw [e18067]; try rw [e18070]); omega⟩
              · refine WQ_iconst (0) (0) dX3_faultInParts_136 rfl rfl (fun v18080 hv18080 => ?_)
                refine WP_goto 141 dX3_faultInParts_137 rfl ?_
                exact WP_iret dX3_faultInParts_141 rfl ⟨⟨hI18064, rfl, ⟨trivial, (by rw [e18068, ew17973] <;> exact (eq32 _ _).mpr (by omega)), (by rw [e18069, ew17974] <;> exact (eq32 _ _).mpr (by omega))⟩⟩, _, rfl, by omega, by omega, by (try rw [e18066]; try rw [e18067]; try rw [e18070]); omega⟩
            · refine WP_iload dX3_faultInParts_109 rfl ?_
              exact WP_iret dX3_faultInParts_111 rfl ⟨⟨hI18053, rfl, ⟨trivial, (by rw [e18058, ew17973] <;> exact (eq32 _ _).mpr (by omega)), (by rw [e18059, ew17974] <;> exact (eq32 _ _).mpr (by omega))⟩⟩, _, rfl, by omega, by omega, by (try rw [e18056]; try rw [e18057]; try rw [ew18062]); omega⟩
          · refine WQ_iconst (1) (1) dX3_faultInParts_72 rfl rfl (fun v18081 hv18081 => ?_)
            obtain ⟨w18082, ew18082⟩ : ∃ w : Int32, I18031 (ad g 4) 2 = w := ⟨_, rfl⟩
            have bw18082 := BT_get hI18031.1 4 0 5 (0) (0) (1000) (by decide) 2 (by decide) (by decide)
            rw [ew18082] at bw18082
            exact WP_iret dX3_faultInParts_73 rfl ⟨⟨hI18031, rfl, ⟨trivial, (by rw [e18034, ew17973] <;> exact (eq32 _ _).mpr (by omega)), (by rw [e18035, ew17974] <;> exact (eq32 _ _).mpr (by omega))⟩⟩, _, rfl, by omega, by omega, by (try rw [e18033]; try rw [e18036]; try rw [ew18082]); omega⟩
        · refine WP_iload dX3_faultInParts_109 rfl ?_
          obtain ⟨w18083, ew18083⟩ : ∃ w : Int32, I18021 (ad g 4) 2 = w := ⟨_, rfl⟩
          have bw18083 := BT_get hI18021.1 4 0 5 (0) (0) (1000) (by decide) 2 (by decide) (by decide)
          rw [ew18083] at bw18083
          exact WP_iret dX3_faultInParts_111 rfl ⟨⟨hI18021, rfl, ⟨trivial, (by rw [e18025, ew17973] <;> exact (eq32 _ _).mpr (by omega)), (by rw [e18026, ew17974] <;> exact (eq32 _ _).mpr (by omega))⟩⟩, _, rfl, by omega, by omega, by (try rw [e18024]; try rw [ew18029]; try rw [ew18083]); omega⟩
      · refine WQ_iconst (1) (1) dX3_faultInParts_72 rfl rfl (fun v18084 hv18084 => ?_)
        obtain ⟨w18085, ew18085⟩ : ∃ w : Int32, I18000 (ad g 4) 1 = w := ⟨_, rfl⟩
        have bw18085 := BT_get hI18000.1 4 0 5 (0) (0) (1000) (by decide) 1 (by decide) (by decide)
        rw [ew18085] at bw18085
        obtain ⟨w18086, ew18086⟩ : ∃ w : Int32, I18000 (ad g 4) 2 = w := ⟨_, rfl⟩
        have bw18086 := BT_get hI18000.1 4 0 5 (0) (0) (1000) (by decide) 2 (by decide) (by decide)
        rw [ew18086] at bw18086
        exact WP_iret dX3_faultInParts_73 rfl ⟨⟨hI18000, rfl, ⟨trivial, (by rw [e18002, ew17973] <;> exact (eq32 _ _).mpr (by omega)), (by rw [e18003, ew17974] <;> exact (eq32 _ _).mpr (by omega))⟩⟩, _, rfl, by omega, by omega, by (try rw [e18004]; try rw [ew18085]; try rw [ew18086]); omega⟩
    · refine WP_iload dX3_faultInParts_109 rfl ?_
      obtain ⟨w18087, ew18087⟩ : ∃ w : Int32, I17991 (ad g 4) 1 = w := ⟨_, rfl⟩
      have bw18087 := BT_get hI17991.1 4 0 5 (0) (0) (1000) (by decide) 1 (by decide) (by decide)
      rw [ew18087] at bw18087
      obtain ⟨w18088, ew18088⟩ : ∃ w : Int32, I17991 (ad g 4) 2 = w := ⟨_, rfl⟩
      have bw18088 := BT_get hI17991.1 4 0 5 (0) (0) (1000) (by decide) 2 (by decide) (by decide)
      rw [ew18088] at bw18088
      exact WP_iret dX3_faultInParts_111 rfl ⟨⟨hI17991, rfl, ⟨trivial, (by rw [e17994, ew17973] <;> exact (eq32 _ _).mpr (by omega)), (by rw [e17995, ew17974] <;> exact (eq32 _ _).mpr (by omega))⟩⟩, _, rfl, by omega, by omega, by (try rw [ew17998]; try rw [ew18087]; try rw [ew18088]); omega⟩
  · refine WQ_iconst (1) (1) dX3_faultInParts_72 rfl rfl (fun v18089 hv18089 => ?_)
    obtain ⟨w18090, ew18090⟩ : ∃ w : Int32, I (ad g 4) 0 = w := ⟨_, rfl⟩
    have bw18090 := BT_get hI.1 4 0 5 (0) (0) (1000) (by decide) 0 (by decide) (by decide)
    rw [ew18090] at bw18090
    obtain ⟨w18091, ew18091⟩ : ∃ w : Int32, I (ad g 4) 1 = w := ⟨_, rfl⟩
    have bw18091 := BT_get hI.1 4 0 5 (0) (0) (1000) (by decide) 1 (by decide) (by decide)
    rw [ew18091] at bw18091
    obtain ⟨w18092, ew18092⟩ : ∃ w : Int32, I (ad g 4) 2 = w := ⟨_, rfl⟩
    have bw18092 := BT_get hI.1 4 0 5 (0) (0) (1000) (by decide) 2 (by decide) (by decide)
    rw [ew18092] at bw18092
    exact WP_iret dX3_faultInParts_73 rfl ⟨⟨hI, rfl, ⟨trivial, rfl, rfl⟩⟩, _, rfl, by omega, by omega, by (try rw [ew18090]; try rw [ew18091]; try rw [ew18092]); omega⟩
set_option maxHeartbeats 4000000 in
set_option maxRecDepth 100000 in
theorem sx_parts_27_5 {g : GG} {n : Int} {L : Int32} (hy : LyX g) {aK aV : Nat → Nat} {fo : Option Nat} (hz : HZ g aK aV fo)  {I : pI} {J : pJ} {R : pR} (hr : RfX g R) (hI : XI g n L I) (cz : Int32) (cz_lo : 5 ≤ cz.toInt) (cz_hi : cz.toInt ≤ 5) : SP g mX3_faultInParts [.ref (ad g 3), .int cz, .ref (ad g 27)] I J R (fun r I' J' R' => (XI g n L I' ∧ R' = R ∧ True ∧ I' (ad g 27) 1 = I (ad g 27) 1 ∧ I' (ad g 27) 2 = I (ad g 27) 2) ∧ ∃ v : Int32, r = some (.int v) ∧ 0 ≤ v.toInt ∧ v.toInt ≤ 5 ∧ (v.toInt = 0 → (I' (ad g 4) 0).toInt ≤ 2 ∧ (I' (ad g 4) 1).toInt ≤ 6 ∧ (I' (ad g 4) 2).toInt ≤ 999)) := by
  refine SP_of ⟨by decide, rfl⟩ (Nat.le_of_ble_eq_true rfl) ?_
  have e18093 : I (ad g 1) 1 = L := hI.2
  have b18094 := BT_get hI.1 1 1 2 (0) (0) (900) (by decide) 1 (by decide) (by decide)
  rw [e18093] at b18094
  obtain ⟨w18095, ew18095⟩ : ∃ w : Int32, I (ad g 27) 1 = w := ⟨_, rfl⟩
  have bw18095 := BT_get hI.1 27 1 2 (0) (0) (4) (by decide) 1 (by decide) (by decide)
  rw [ew18095] at bw18095
  obtain ⟨w18096, ew18096⟩ : ∃ w : Int32, I (ad g 27) 2 = w := ⟨_, rfl⟩
  have bw18096 := BT_get hI.1 27 2 3 (0) (0) (3) (by decide) 2 (by decide) (by decide)
  rw [ew18096] at bw18096
  refine WP_iload_n dX3_faultInParts_0 rfl ?_
  refine WP_callS1 dX3_faultInParts_1 ⟨⟨⟨by decide, by decide⟩, zX3_shapeOf⟩, lX3_84, tX3_shapeOf⟩ (sx_shapeOf hy hz hr hI cz (by omega) (by omega)) (Nat.le_of_ble_eq_true rfl) ?_
  intro r Ia Ja Ra hq
  obtain ⟨⟨ea, eb, ec⟩, rfl⟩ := hq
  show WP _ _ _ _ (.ref _ :: _) _ _ _ _
  rw [show 10 + cz.toInt.toNat = 15 by omega]
  rw [ea, eb, ec]
  clear ea eb ec Ia Ja Ra
  refine WP_astore_n (ls' := [(0, _), (1, _), (2, _), (3, _)]) dX3_faultInParts_4 (by decide) rfl ?_
  refine WQ_iconst (0) (0) dX3_faultInParts_5 rfl rfl (fun v18097 hv18097 => ?_)
  refine WP_istore (ls' := [(0, _), (1, _), (2, _), (3, _), (4, _)]) dX3_faultInParts_6 (by decide) rfl ?_
  refine WP_iload dX3_faultInParts_8 rfl ?_
  refine WP_aload_n dX3_faultInParts_10 rfl ?_
  refine WS_call hz (i := 15) (by omega) dX3_faultInParts_11 ⟨⟨by decide, by decide⟩, zJ0_length_8abf5⟩ lX3_87 vJ0_length_8abf5 (As := []) (rest := [.int v18097]) (j_length hz (i := 15) (by omega)) rfl rfl (Nat.le_of_ble_eq_true rfl) ?_
  intro r Ia Ja Ra hq
  obtain ⟨⟨ea, eb, ec⟩, v18098, rfl, cv18098⟩ := hq
  show WP _ _ _ _ (.int _ :: _) _ _ _ _
  rw [ea, eb, ec]
  clear ea eb ec Ia Ja Ra
  have hv18098 : v18098.toInt = 3 := cv18098.trans rfl
  refine WQ_icmp_ge 125 dX3_faultInParts_14 rfl (fun c18098 => False.elim (by omega)) (fun c18098 => ?_)
  refine WP_iload dX3_faultInParts_17 rfl ?_
  refine WQ_iconst (5) (5) dX3_faultInParts_19 rfl rfl (fun v18100 hv18100 => ?_)
  refine WQ_icmp_ge 125 dX3_faultInParts_20 rfl (fun c18100 => False.elim (by omega)) (fun c18100 => ?_)
  refine WP_aload_n dX3_faultInParts_23 rfl ?_
  refine WP_iload dX3_faultInParts_24 rfl ?_
  refine WS_call hz (i := 15) (by omega) dX3_faultInParts_26 ⟨⟨by decide, by decide⟩, zJ0_charAt_5068e⟩ lX3_92 vJ0_charAt_5068e (As := [.int v18097]) (rest := []) (j_charAt hz (i := 15) (k := v18097) (by omega) (by omega) (by have z9 : ((liN.getD 15 0 : Nat) : Int) = 3 := rfl; omega)) rfl rfl (Nat.le_of_ble_eq_true rfl) ?_
  intro r Ia Ja Ra hq
  obtain ⟨⟨ea, eb, ec⟩, v18102, rfl, cv18102⟩ := hq
  show WP _ _ _ _ (.int _ :: _) _ _ _ _
  rw [ea, eb, ec]
  clear ea eb ec Ia Ja Ra
  have hv18102 : v18102.toInt = 116 := cv18102.trans (by rw [show v18097.toInt.toNat = 0 by omega]; rfl)
  refine WP_istore (ls' := [(0, _), (1, _), (2, _), (3, _), (4, _), (5, _)]) dX3_faultInParts_29 (by decide) rfl ?_
  refine WP_iload dX3_faultInParts_31 rfl ?_
  refine WQ_bipush (97) (97) dX3_faultInParts_33 rfl rfl (fun v18103 hv18103 => ?_)
  refine WQ_icmp_lt 49 dX3_faultInParts_35 rfl (fun c18103 => False.elim (by omega)) (fun c18103 => ?_)
  refine WP_iload dX3_faultInParts_38 rfl ?_
  refine WQ_bipush (122) (122) dX3_faultInParts_40 rfl rfl (fun v18105 hv18105 => ?_)
  refine WQ_icmp_gt 49 dX3_faultInParts_42 rfl (fun c18105 => False.elim (by omega)) (fun c18105 => ?_)
  refine WQ_iconst (1) (1) dX3_faultInParts_45 rfl rfl (fun v18107 hv18107 => ?_)
  refine WP_goto 50 dX3_faultInParts_46 rfl ?_
  refine WP_istore (ls' := [(0, _), (1, _), (2, _), (3, _), (4, _), (5, _), (6, _)]) dX3_faultInParts_50 (by decide) rfl ?_
  refine WP_aload_n dX3_faultInParts_52 rfl ?_
  refine WP_getr dX3_faultInParts_53 fX3_15 rfl (lyx_is hy 3 3 rfl) (rfx hr 3 2 1 (by decide)) ?_
  refine WQ_geti dX3_faultInParts_56 fX3_43 rfl (lyx_is hy 1 5 rfl) (BT_get hI.1 1 2 3 (0) (0) (4) (by decide) 2 (by decide) (by decide)) (fun v18108 ev18108 av18108 bv18108 => ?_)
  refine WP_iload dX3_faultInParts_59 rfl ?_
  refine WQ_if_eq 68 dX3_faultInParts_61 rfl (fun c18108 => False.elim (by omega)) (fun c18108 => ?_)
  refine WQ_iconst (1) (1) dX3_faultInParts_64 rfl rfl (fun v18110 hv18110 => ?_)
  refine WP_goto 69 dX3_faultInParts_65 rfl ?_
  refine WQ_icmp_eq 74 dX3_faultInParts_69 rfl (fun c18110 => ?_) (fun c18110 => ?_)
  · refine WP_iload dX3_faultInParts_74 rfl ?_
    refine WQ_if_eq 92 dX3_faultInParts_76 rfl (fun c18111 => False.elim (by omega)) (fun c18111 => ?_)
    refine WP_aload_n dX3_faultInParts_79 rfl ?_
    refine WP_iload dX3_faultInParts_80 rfl ?_
    refine WP_iload_n dX3_faultInParts_82 rfl ?_
    refine WP_iload dX3_faultInParts_83 rfl ?_
    refine WP_aload_n dX3_faultInParts_85 rfl ?_
    refine WP_callV4 (k := 3) dX3_faultInParts_86 ⟨⟨⟨by decide, by decide⟩, zX3_faultOfName⟩, lX3_96, by decide, rfl, vX3_faultOfName.1, vX3_faultOfName.2⟩ (lyx_is hy 3 3 rfl) (sx_part_27_5_0 hy hr hI v18102 cz v18097 (by omega) (by omega) (by omega) (by omega) (by omega) (by omega)) (Nat.le_of_ble_eq_true rfl) ?_
    intro r I18113 J18114 Ra hq
    obtain ⟨⟨hI18113, ec, ⟨pI18113, sI18113_27_1, sI18113_27_2⟩⟩, v18115, rfl, av18115, bv18115, cv18115⟩ := hq
    show WP _ _ _ _ (.int _ :: _) _ _ _ _
    rw [ec]
    clear ec Ra
    have e18116 : I18113 (ad g 27) 1 = w18095 := by rw [sI18113_27_1]; exact ew18095
    have e18117 : I18113 (ad g 27) 2 = w18096 := by rw [sI18113_27_2]; exact ew18096
    have e18118 : I18113 (ad g 1) 1 = L := hI18113.2
    have b18119 := BT_get hI18113.1 1 1 2 (0) (0) (900) (by decide) 1 (by decide) (by decide)
    rw [e18118] at b18119
    obtain ⟨w18120, ew18120⟩ : ∃ w : Int32, I18113 (ad g 4) 0 = w := ⟨_, rfl⟩
    have bw18120 := BT_get hI18113.1 4 0 5 (0) (0) (1000) (by decide) 0 (by decide) (by decide)
    rw [ew18120] at bw18120
    rw [ew18120] at cv18115
    refine WP_goto 102 dX3_faultInParts_89 rfl ?_
    refine WP_istore (ls' := [(0, _), (1, _), (2, _), (3, _), (4, _), (5, _), (6, _), (7, _)]) dX3_faultInParts_102 (by decide) rfl ?_
    refine WP_iload dX3_faultInParts_104 rfl ?_
    refine WQ_if_eq 112 dX3_faultInParts_106 rfl (fun c18120 => ?_) (fun c18120 => ?_)
    · refine WP_aload_n dX3_faultInParts_112 rfl ?_
      refine WP_getr dX3_faultInParts_113 fX3_15 rfl (lyx_is hy 3 3 rfl) (rfx hr 3 2 1 (by decide)) ?_
      refine WP_callV0 (k := 5) dX3_faultInParts_116 ⟨⟨⟨by decide, by decide⟩, zX5_next⟩, lX3_40, by decide, rfl, vX5_next.1, vX5_next.2⟩ (lyx_is hy 1 5 rfl) (sx_nextf hy hr hI18113  ) (Nat.le_of_ble_eq_true rfl) ?_
      intro r I18122 J18123 Ra hq
      obtain ⟨⟨hI18122, ec, fiI18122⟩, rfl⟩ := hq
      rw [ec]
      clear ec Ra
      have e18124 : I18122 (ad g 27) 1 = w18095 := by rw [fz_at fiI18122 27 (by decide) (by decide)]; exact e18116
      have e18125 : I18122 (ad g 27) 2 = w18096 := by rw [fz_at fiI18122 27 (by decide) (by decide)]; exact e18117
      have e18126 : I18122 (ad g 4) 0 = w18120 := by rw [fz_at fiI18122 4 (by decide) (by decide)]; exact ew18120
      have e18127 : I18122 (ad g 1) 1 = L := hI18122.2
      have b18128 := BT_get hI18122.1 1 1 2 (0) (0) (900) (by decide) 1 (by decide) (by decide)
      rw [e18127] at b18128
      refine WP_iinc (ls' := [(0, _), (1, _), (2, _), (3, _), (4, _), (5, _), (6, _), (7, _)]) dX3_faultInParts_119 rfl (by decide) rfl ?_
      have hv18129 : (v18097 + Int32.ofInt (1)).toInt = v18097.toInt + (1) := ia_n rfl (by omega) (by omega)
      generalize v18097 + Int32.ofInt (1) = v18129 at hv18129 ⊢
      refine WP_goto 8 dX3_faultInParts_122 rfl ?_
      refine WP_iload dX3_faultInParts_8 rfl ?_
      refine WP_aload_n dX3_faultInParts_10 rfl ?_
      refine WS_call hz (i := 15) (by omega) dX3_faultInParts_11 ⟨⟨by decide, by decide⟩, zJ0_length_8abf5⟩ lX3_87 vJ0_length_8abf5 (As := []) (rest := [.int v18129]) (j_length hz (i := 15) (by omega)) rfl rfl (Nat.le_of_ble_eq_true rfl) ?_
      intro r Ia Ja Ra hq
      obtain ⟨⟨ea, eb, ec⟩, v18130, rfl, cv18130⟩ := hq
      show WP _ _ _ _ (.int _ :: _) _ _ _ _
      rw [ea, eb, ec]
      clear ea eb ec Ia Ja Ra
      have hv18130 : v18130.toInt = 3 := cv18130.trans rfl
      refine WQ_icmp_ge 125 dX3_faultInParts_14 rfl (fun c18130 => False.elim (by omega)) (fun c18130 => ?_)
      refine WP_iload dX3_faultInParts_17 rfl ?_
      refine WQ_iconst (5) (5) dX3_faultInParts_19 rfl rfl (fun v18132 hv18132 => ?_)
      refine WQ_icmp_ge 125 dX3_faultInParts_20 rfl (fun c18132 => False.elim (by omega)) (fun c18132 => ?_)
      refine WP_aload_n dX3_faultInParts_23 rfl ?_
      refine WP_iload dX3_faultInParts_24 rfl ?_
      refine WS_call hz (i := 15) (by omega) dX3_faultInParts_26 ⟨⟨by decide, by decide⟩, zJ0_charAt_5068e⟩ lX3_92 vJ0_charAt_5068e (As := [.int v18129]) (rest := []) (j_charAt hz (i := 15) (k := v18129) (by omega) (by omega) (by have z9 : ((liN.getD 15 0 : Nat) : Int) = 3 := rfl; omega)) rfl rfl (Nat.le_of_ble_eq_true rfl) ?_
      intro r Ia Ja Ra hq
      obtain ⟨⟨ea, eb, ec⟩, v18134, rfl, cv18134⟩ := hq
      show WP _ _ _ _ (.int _ :: _) _ _ _ _
      rw [ea, eb, ec]
      clear ea eb ec Ia Ja Ra
      have hv18134 : v18134.toInt = 68 := cv18134.trans (by rw [show v18129.toInt.toNat = 1 by omega]; rfl)
      refine WP_istore (ls' := [(0, _), (1, _), (2, _), (3, _), (4, _), (5, _), (6, _), (7, _)]) dX3_faultInParts_29 (by decide) rfl ?_
      refine WP_iload dX3_faultInParts_31 rfl ?_
      refine WQ_bipush (97) (97) dX3_faultInParts_33 rfl rfl (fun v18135 hv18135 => ?_)
      refine WQ_icmp_lt 49 dX3_faultInParts_35 rfl (fun c18135 => ?_) (fun c18135 => False.elim (by omega))
      refine WQ_iconst (0) (0) dX3_faultInParts_49 rfl rfl (fun v18137 hv18137 => ?_)
      refine WP_istore (ls' := [(0, _), (1, _), (2, _), (3, _), (4, _), (5, _), (6, _), (7, _)]) dX3_faultInParts_50 (by decide) rfl ?_
      refine WP_aload_n dX3_faultInParts_52 rfl ?_
      refine WP_getr dX3_faultInParts_53 fX3_15 rfl (lyx_is hy 3 3 rfl) (rfx hr 3 2 1 (by decide)) ?_
      refine WQ_geti dX3_faultInParts_56 fX3_43 rfl (lyx_is hy 1 5 rfl) (BT_get hI18122.1 1 2 3 (0) (0) (4) (by decide) 2 (by decide) (by decide)) (fun v18138 ev18138 av18138 bv18138 => ?_)
      refine WP_iload dX3_faultInParts_59 rfl ?_
      refine WQ_if_eq 68 dX3_faultInParts_61 rfl (fun c18138 => ?_) (fun c18138 => False.elim (by omega))
      refine WQ_iconst (2) (2) dX3_faultInParts_68 rfl rfl (fun v18140 hv18140 => ?_)
      refine WQ_icmp_eq 74 dX3_faultInParts_69 rfl (fun c18140 => ?_) (fun c18140 => ?_)
      · refine WP_iload dX3_faultInParts_74 rfl ?_
        refine WQ_if_eq 92 dX3_faultInParts_76 rfl (fun c18141 => ?_) (fun c18141 => False.elim (by omega))
        refine WP_aload_n dX3_faultInParts_92 rfl ?_
        refine WP_iload dX3_faultInParts_93 rfl ?_
        refine WP_iload_n dX3_faultInParts_95 rfl ?_
        refine WP_iload dX3_faultInParts_96 rfl ?_
        refine WP_aload_n dX3_faultInParts_98 rfl ?_
        refine WP_callV4 (k := 3) dX3_faultInParts_99 ⟨⟨⟨by decide, by decide⟩, zX3_faultOfNumber⟩, lX3_100, by decide, rfl, vX3_faultOfNumber.1, vX3_faultOfNumber.2⟩ (lyx_is hy 3 3 rfl) (sx_part_27_5_1 hy hr hI18122 v18134 cz v18129 (by omega) (by omega) (by omega) (by omega) (by omega) (by omega) (by rw [e18126]; omega)) (Nat.le_of_ble_eq_true rfl) ?_
        intro r I18143 J18144 Ra hq
        obtain ⟨⟨hI18143, ec, ⟨pI18143, sI18143_4_0, sI18143_27_1, sI18143_27_2⟩⟩, v18145, rfl, av18145, bv18145, cv18145⟩ := hq
        show WP _ _ _ _ (.int _ :: _) _ _ _ _
        rw [ec]
        clear ec Ra
        have e18146 : I18143 (ad g 4) 0 = w18120 := by rw [sI18143_4_0]; exact e18126
        have e18147 : I18143 (ad g 27) 1 = w18095 := by rw [sI18143_27_1]; exact e18124
        have e18148 : I18143 (ad g 27) 2 = w18096 := by rw [sI18143_27_2]; exact e18125
        have e18149 : I18143 (ad g 1) 1 = L := hI18143.2
        have b18150 := BT_get hI18143.1 1 1 2 (0) (0) (900) (by decide) 1 (by decide) (by decide)
        rw [e18149] at b18150
        obtain ⟨w18151, ew18151⟩ : ∃ w : Int32, I18143 (ad g 4) 1 = w := ⟨_, rfl⟩
        have bw18151 := BT_get hI18143.1 4 0 5 (0) (0) (1000) (by decide) 1 (by decide) (by decide)
        rw [ew18151] at bw18151
        rw [ew18151] at cv18145
        refine WP_istore (ls' := [(0, _), (1, _), (2, _), (3, _), (4, _), (5, _), (6, _), (7, _)]) dX3_faultInParts_102 (by decide) rfl ?_
        refine WP_iload dX3_faultInParts_104 rfl ?_
        refine WQ_if_eq 112 dX3_faultInParts_106 rfl (fun c18151 => ?_) (fun c18151 => ?_)
        · refine WP_aload_n dX3_faultInParts_112 rfl ?_
          refine WP_getr dX3_faultInParts_113 fX3_15 rfl (lyx_is hy 3 3 rfl) (rfx hr 3 2 1 (by decide)) ?_
          refine WP_callV0 (k := 5) dX3_faultInParts_116 ⟨⟨⟨by decide, by decide⟩, zX5_next⟩, lX3_40, by decide, rfl, vX5_next.1, vX5_next.2⟩ (lyx_is hy 1 5 rfl) (sx_nextf hy hr hI18143  ) (Nat.le_of_ble_eq_true rfl) ?_
          intro r I18153 J18154 Ra hq
          obtain ⟨⟨hI18153, ec, fiI18153⟩, rfl⟩ := hq
          rw [ec]
          clear ec Ra
          have e18155 : I18153 (ad g 4) 0 = w18120 := by rw [fz_at fiI18153 4 (by decide) (by decide)]; exact e18146
          have e18156 : I18153 (ad g 27) 1 = w18095 := by rw [fz_at fiI18153 27 (by decide) (by decide)]; exact e18147
          have e18157 : I18153 (ad g 27) 2 = w18096 := by rw [fz_at fiI18153 27 (by decide) (by decide)]; exact e18148
          have e18158 : I18153 (ad g 4) 1 = w18151 := by rw [fz_at fiI18153 4 (by decide) (by decide)]; exact ew18151
          have e18159 : I18153 (ad g 1) 1 = L := hI18153.2
          have b18160 := BT_get hI18153.1 1 1 2 (0) (0) (900) (by decide) 1 (by decide) (by decide)
          rw [e18159] at b18160
          refine WP_iinc (ls' := [(0, _), (1, _), (2, _), (3, _), (4, _), (5, _), (6, _), (7, _)]) dX3_faultInParts_119 rfl (by decide) rfl ?_
          have hv18161 : (v18129 + Int32.ofInt (1)).toInt = v18129.toInt + (1) := ia_n rfl (by omega) (by omega)
          generalize v18129 + Int32.ofInt (1) = v18161 at hv18161 ⊢
          refine WP_goto 8 dX3_faultInParts_122 rfl ?_
          refine WP_iload dX3_faultInParts_8 rfl ?_
          refine WP_aload_n dX3_faultInParts_10 rfl ?_
          refine WS_call hz (i := 15) (by omega) dX3_faultInParts_11 ⟨⟨by decide, by decide⟩, zJ0_length_8abf5⟩ lX3_87 vJ0_length_8abf5 (As := []) (rest := [.int v18161]) (j_length hz (i := 15) (by omega)) rfl rfl (Nat.le_of_ble_eq_true rfl) ?_
          intro r Ia Ja Ra hq
          obtain ⟨⟨ea, eb, ec⟩, v18162, rfl, cv18162⟩ := hq
          show WP _ _ _ _ (.int _ :: _) _ _ _ _
          rw [ea, eb, ec]
          clear ea eb ec Ia Ja Ra
          have hv18162 : v18162.toInt = 3 := cv18162.trans rfl
          refine WQ_icmp_ge 125 dX3_faultInParts_14 rfl (fun c18162 => False.elim (by omega)) (fun c18162 => ?_)
          refine WP_iload dX3_faultInParts_17 rfl ?_
          refine WQ_iconst (5) (5) dX3_faultInParts_19 rfl rfl (fun v18164 hv18164 => ?_)
          refine WQ_icmp_ge 125 dX3_faultInParts_20 rfl (fun c18164 => False.elim (by omega)) (fun c18164 => ?_)
          refine WP_aload_n dX3_faultInParts_23 rfl ?_
          refine WP_iload dX3_faultInParts_24 rfl ?_
          refine WS_call hz (i := 15) (by omega) dX3_faultInParts_26 ⟨⟨by decide, by decide⟩, zJ0_charAt_5068e⟩ lX3_92 vJ0_charAt_5068e (As := [.int v18161]) (rest := []) (j_charAt hz (i := 15) (k := v18161) (by omega) (by omega) (by have z9 : ((liN.getD 15 0 : Nat) : Int) = 3 := rfl; omega)) rfl rfl (Nat.le_of_ble_eq_true rfl) ?_
          intro r Ia Ja Ra hq
          obtain ⟨⟨ea, eb, ec⟩, v18166, rfl, cv18166⟩ := hq
          show WP _ _ _ _ (.int _ :: _) _ _ _ _
          rw [ea, eb, ec]
          clear ea eb ec Ia Ja Ra
          have hv18166 : v18166.toInt = 77 := cv18166.trans (by rw [show v18161.toInt.toNat = 2 by omega]; rfl)
          refine WP_istore (ls' := [(0, _), (1, _), (2, _), (3, _), (4, _), (5, _), (6, _), (7, _)]) dX3_faultInParts_29 (by decide) rfl ?_
          refine WP_iload dX3_faultInParts_31 rfl ?_
          refine WQ_bipush (97) (97) dX3_faultInParts_33 rfl rfl (fun v18167 hv18167 => ?_)
          refine WQ_icmp_lt 49 dX3_faultInParts_35 rfl (fun c18167 => ?_) (fun c18167 => False.elim (by omega))
          refine WQ_iconst (0) (0) dX3_faultInParts_49 rfl rfl (fun v18169 hv18169 => ?_)
          refine WP_istore (ls' := [(0, _), (1, _), (2, _), (3, _), (4, _), (5, _), (6, _), (7, _)]) dX3_faultInParts_50 (by decide) rfl ?_
          refine WP_aload_n dX3_faultInParts_52 rfl ?_
          refine WP_getr dX3_faultInParts_53 fX3_15 rfl (lyx_is hy 3 3 rfl) (rfx hr 3 2 1 (by decide)) ?_
          refine WQ_geti dX3_faultInParts_56 fX3_43 rfl (lyx_is hy 1 5 rfl) (BT_get hI18153.1 1 2 3 (0) (0) (4) (by decide) 2 (by decide) (by decide)) (fun v18170 ev18170 av18170 bv18170 => ?_)
          refine WP_iload dX3_faultInParts_59 rfl ?_
          refine WQ_if_eq 68 dX3_faultInParts_61 rfl (fun c18170 => ?_) (fun c18170 => False.elim (by omega))
          refine WQ_iconst (2) (2) dX3_faultInParts_68 rfl rfl (fun v18172 hv18172 => ?_)
          refine WQ_icmp_eq 74 dX3_faultInParts_69 rfl (fun c18172 => ?_) (fun c18172 => ?_)
          · refine WP_iload dX3_faultInParts_74 rfl ?_
            refine WQ_if_eq 92 dX3_faultInParts_76 rfl (fun c18173 => ?_) (fun c18173 => False.elim (by omega))
            refine WP_aload_n dX3_faultInParts_92 rfl ?_
            refine WP_iload dX3_faultInParts_93 rfl ?_
            refine WP_iload_n dX3_faultInParts_95 rfl ?_
            refine WP_iload dX3_faultInParts_96 rfl ?_
            refine WP_aload_n dX3_faultInParts_98 rfl ?_
            refine WP_callV4 (k := 3) dX3_faultInParts_99 ⟨⟨⟨by decide, by decide⟩, zX3_faultOfNumber⟩, lX3_100, by decide, rfl, vX3_faultOfNumber.1, vX3_faultOfNumber.2⟩ (lyx_is hy 3 3 rfl) (sx_part_27_5_2 hy hr hI18153 v18166 cz v18161 (by omega) (by omega) (by omega) (by omega) (by omega) (by omega)) (Nat.le_of_ble_eq_true rfl) ?_
            intro r I18175 J18176 Ra hq
            obtain ⟨⟨hI18175, ec, ⟨pI18175, sI18175_4_0, sI18175_4_1, sI18175_27_1, sI18175_27_2⟩⟩, v18177, rfl, av18177, bv18177, cv18177⟩ := hq
            show WP _ _ _ _ (.int _ :: _) _ _ _ _
            rw [ec]
            clear ec Ra
            have e18178 : I18175 (ad g 4) 0 = w18120 := by rw [sI18175_4_0]; exact e18155
            have e18179 : I18175 (ad g 4) 1 = w18151 := by rw [sI18175_4_1]; exact e18158
            have e18180 : I18175 (ad g 27) 1 = w18095 := by rw [sI18175_27_1]; exact e18156
            have e18181 : I18175 (ad g 27) 2 = w18096 := by rw [sI18175_27_2]; exact e18157
            have e18182 : I18175 (ad g 1) 1 = L := hI18175.2
            have b18183 := BT_get hI18175.1 1 1 2 (0) (0) (900) (by decide) 1 (by decide) (by decide)
            rw [e18182] at b18183
            obtain ⟨w18184, ew18184⟩ : ∃ w : Int32, I18175 (ad g 4) 2 = w := ⟨_, rfl⟩
            have bw18184 := BT_get hI18175.1 4 0 5 (0) (0) (1000) (by decide) 2 (by decide) (by decide)
            rw [ew18184] at bw18184
            rw [ew18184] at cv18177
            refine WP_istore (ls' := [(0, _), (1, _), (2, _), (3, _), (4, _), (5, _), (6, _), (7, _)]) dX3_faultInParts_102 (by decide) rfl ?_
            refine WP_iload dX3_faultInParts_104 rfl ?_
            refine WQ_if_eq 112 dX3_faultInParts_106 rfl (fun c18184 => ?_) (fun c18184 => ?_)
            · refine WP_aload_n dX3_faultInParts_112 rfl ?_
              refine WP_getr dX3_faultInParts_113 fX3_15 rfl (lyx_is hy 3 3 rfl) (rfx hr 3 2 1 (by decide)) ?_
              refine WP_callV0 (k := 5) dX3_faultInParts_116 ⟨⟨⟨by decide, by decide⟩, zX5_next⟩, lX3_40, by decide, rfl, vX5_next.1, vX5_next.2⟩ (lyx_is hy 1 5 rfl) (sx_nextf hy hr hI18175  ) (Nat.le_of_ble_eq_true rfl) ?_
              intro r I18186 J18187 Ra hq
              obtain ⟨⟨hI18186, ec, fiI18186⟩, rfl⟩ := hq
              rw [ec]
              clear ec Ra
              have e18188 : I18186 (ad g 4) 0 = w18120 := by rw [fz_at fiI18186 4 (by decide) (by decide)]; exact e18178
              have e18189 : I18186 (ad g 4) 1 = w18151 := by rw [fz_at fiI18186 4 (by decide) (by decide)]; exact e18179
              have e18190 : I18186 (ad g 27) 1 = w18095 := by rw [fz_at fiI18186 27 (by decide) (by decide)]; exact e18180
              have e18191 : I18186 (ad g 27) 2 = w18096 := by rw [fz_at fiI18186 27 (by decide) (by decide)]; exact e18181
              have e18192 : I18186 (ad g 4) 2 = w18184 := by rw [fz_at fiI18186 4 (by decide) (by decide)]; exact ew18184
              have e18193 : I18186 (ad g 1) 1 = L := hI18186.2
              have b18194 := BT_get hI18186.1 1 1 2 (0) (0) (900) (by decide) 1 (by decide) (by decide)
              rw [e18193] at b18194
              refine WP_iinc (ls' := [(0, _), (1, _), (2, _), (3, _), (4, _), (5, _), (6, _), (7, _)]) dX3_faultInParts_119 rfl (by decide) rfl ?_
              have hv18195 : (v18161 + Int32.ofInt (1)).toInt = v18161.toInt + (1) := ia_n rfl (by omega) (by omega)
              generalize v18161 + Int32.ofInt (1) = v18195 at hv18195 ⊢
              refine WP_goto 8 dX3_faultInParts_122 rfl ?_
              refine WP_iload dX3_faultInParts_8 rfl ?_
              refine WP_aload_n dX3_faultInParts_10 rfl ?_
              refine WS_call hz (i := 15) (by omega) dX3_faultInParts_11 ⟨⟨by decide, by decide⟩, zJ0_length_8abf5⟩ lX3_87 vJ0_length_8abf5 (As := []) (rest := [.int v18195]) (j_length hz (i := 15) (by omega)) rfl rfl (Nat.le_of_ble_eq_true rfl) ?_
              intro r Ia Ja Ra hq
              obtain ⟨⟨ea, eb, ec⟩, v18196, rfl, cv18196⟩ := hq
              show WP _ _ _ _ (.int _ :: _) _ _ _ _
              rw [ea, eb, ec]
              clear ea eb ec Ia Ja Ra
              have hv18196 : v18196.toInt = 3 := cv18196.trans rfl
              refine WQ_icmp_ge 125 dX3_faultInParts_14 rfl (fun c18196 => ?_) (fun c18196 => False.elim (by omega))
              refine WP_aload_n dX3_faultInParts_125 rfl ?_
              refine WP_getr dX3_faultInParts_126 fX3_15 rfl (lyx_is hy 3 3 rfl) (rfx hr 3 2 1 (by decide)) ?_
              refine WQ_geti dX3_faultInParts_129 fX3_43 rfl (lyx_is hy 1 5 rfl) (BT_get hI18186.1 1 2 3 (0) (0) (4) (by decide) 2 (by decide) (by decide)) (fun v18198 ev18198 av18198 bv18198 => ?_)
              refine WQ_iconst (3) (3) dX3_faultInParts_132 rfl rfl (fun v18199 hv18199 => ?_)
              refine WQ_icmp_ne 140 dX3_faultInParts_133 rfl (fun c18199 => ?_) (fun c18199 => ?_)
              · refine WQ_iconst (1) (1) dX3_faultInParts_140 rfl rfl (fun v18201 hv18201 => ?_)
                exact WP_iret dX3_faultInParts_141 rfl ⟨⟨hI18186, rfl, ⟨trivial, (by rw [e18190, ew18095] <;> exact (eq32 _ _).mpr (by omega)), (by rw [e18191, ew18096] <;> exact (eq32 _ _).mpr (by omega))⟩⟩, _, rfl, by omega, by omega, by (try rw [e18188]; try rw [e18189]; try rw [e18192]); omega⟩
              · refine WQ_iconst (0) (0) dX3_faultInParts_136 rfl rfl (fun v18202 hv18202 => ?_)
                refine WP_goto 141 dX3_faultInParts_137 rfl ?_
                exact WP_iret dX3_faultInParts_141 rfl ⟨⟨hI18186, rfl, ⟨trivial, (by rw [e18190, ew18095] <;> exact (eq32 _ _).mpr (by omega)), (by rw [e18191, ew18096] <;> exact (eq32 _ _).mpr (by omega))⟩⟩, _, rfl, by omega, by omega, by (try rw [e18188]; try rw [e18189]; try rw [e18192]); omega⟩
            · refine WP_iload dX3_faultInParts_109 rfl ?_
              exact WP_iret dX3_faultInParts_111 rfl ⟨⟨hI18175, rfl, ⟨trivial, (by rw [e18180, ew18095] <;> exact (eq32 _ _).mpr (by omega)), (by rw [e18181, ew18096] <;> exact (eq32 _ _).mpr (by omega))⟩⟩, _, rfl, by omega, by omega, by (try rw [e18178]; try rw [e18179]; try rw [ew18184]); omega⟩
          · refine WQ_iconst (1) (1) dX3_faultInParts_72 rfl rfl (fun v18203 hv18203 => ?_)
            obtain ⟨w18204, ew18204⟩ : ∃ w : Int32, I18153 (ad g 4) 2 = w := ⟨_, rfl⟩
            have bw18204 := BT_get hI18153.1 4 0 5 (0) (0) (1000) (by decide) 2 (by decide) (by decide)
            rw [ew18204] at bw18204
            exact WP_iret dX3_faultInParts_73 rfl ⟨⟨hI18153, rfl, ⟨trivial, (by rw [e18156, ew18095] <;> exact (eq32 _ _).mpr (by omega)), (by rw [e18157, ew18096] <;> exact (eq32 _ _).mpr (by omega))⟩⟩, _, rfl, by omega, by omega, by (try rw [e18155]; try rw [e18158]; try rw [ew18204]); omega⟩
        · refine WP_iload dX3_faultInParts_109 rfl ?_
          obtain ⟨w18205, ew18205⟩ : ∃ w : Int32, I18143 (ad g 4) 2 = w := ⟨_, rfl⟩
          have bw18205 := BT_get hI18143.1 4 0 5 (0) (0) (1000) (by decide) 2 (by decide) (by decide)
          rw [ew18205] at bw18205
          exact WP_iret dX3_faultInParts_111 rfl ⟨⟨hI18143, rfl, ⟨trivial, (by rw [e18147, ew18095] <;> exact (eq32 _ _).mpr (by omega)), (by rw [e18148, ew18096] <;> exact (eq32 _ _).mpr (by omega))⟩⟩, _, rfl, by omega, by omega, by (try rw [e18146]; try rw [ew18151]; try rw [ew18205]); omega⟩
      · refine WQ_iconst (1) (1) dX3_faultInParts_72 rfl rfl (fun v18206 hv18206 => ?_)
        obtain ⟨w18207, ew18207⟩ : ∃ w : Int32, I18122 (ad g 4) 1 = w := ⟨_, rfl⟩
        have bw18207 := BT_get hI18122.1 4 0 5 (0) (0) (1000) (by decide) 1 (by decide) (by decide)
        rw [ew18207] at bw18207
        obtain ⟨w18208, ew18208⟩ : ∃ w : Int32, I18122 (ad g 4) 2 = w := ⟨_, rfl⟩
        have bw18208 := BT_get hI18122.1 4 0 5 (0) (0) (1000) (by decide) 2 (by decide) (by decide)
        rw [ew18208] at bw18208
        exact WP_iret dX3_faultInParts_73 rfl ⟨⟨hI18122, rfl, ⟨trivial, (by rw [e18124, ew18095] <;> exact (eq32 _ _).mpr (by omega)), (by rw [e18125, ew18096] <;> exact (eq32 _ _).mpr (by omega))⟩⟩, _, rfl, by omega, by omega, by (try rw [e18126]; try rw [ew18207]; try rw [ew18208]); omega⟩
    · refine WP_iload dX3_faultInParts_109 rfl ?_
      obtain ⟨w18209, ew18209⟩ : ∃ w : Int32, I18113 (ad g 4) 1 = w := ⟨_, rfl⟩
      have bw18209 := BT_get hI18113.1 4 0 5 (0) (0) (1000) (by decide) 1 (by decide) (by decide)
      rw [ew18209] at bw18209
      obtain ⟨w18210, ew18210⟩ : ∃ w : Int32, I18113 (ad g 4) 2 = w := ⟨_, rfl⟩
      have bw18210 := BT_get hI18113.1 4 0 5 (0) (0) (1000) (by decide) 2 (by decide) (by decide)
      rw [ew18210] at bw18210
      exact WP_iret dX3_faultInParts_111 rfl ⟨⟨hI18113, rfl, ⟨trivial, (by rw [e18116, ew18095] <;> exact (eq32 _ _).mpr (by omega)), (by rw [e18117, ew18096] <;> exact (eq32 _ _).mpr (by omega))⟩⟩, _, rfl, by omega, by omega, by (try rw [ew18120]; try rw [ew18209]; try rw [ew18210]); omega⟩
  · refine WQ_iconst (1) (1) dX3_faultInParts_72 rfl rfl (fun v18211 hv18211 => ?_)
    obtain ⟨w18212, ew18212⟩ : ∃ w : Int32, I (ad g 4) 0 = w := ⟨_, rfl⟩
    have bw18212 := BT_get hI.1 4 0 5 (0) (0) (1000) (by decide) 0 (by decide) (by decide)
    rw [ew18212] at bw18212
    obtain ⟨w18213, ew18213⟩ : ∃ w : Int32, I (ad g 4) 1 = w := ⟨_, rfl⟩
    have bw18213 := BT_get hI.1 4 0 5 (0) (0) (1000) (by decide) 1 (by decide) (by decide)
    rw [ew18213] at bw18213
    obtain ⟨w18214, ew18214⟩ : ∃ w : Int32, I (ad g 4) 2 = w := ⟨_, rfl⟩
    have bw18214 := BT_get hI.1 4 0 5 (0) (0) (1000) (by decide) 2 (by decide) (by decide)
    rw [ew18214] at bw18214
    exact WP_iret dX3_faultInParts_73 rfl ⟨⟨hI, rfl, ⟨trivial, rfl, rfl⟩⟩, _, rfl, by omega, by omega, by (try rw [ew18212]; try rw [ew18213]; try rw [ew18214]); omega⟩
set_option maxHeartbeats 4000000 in
set_option maxRecDepth 100000 in
theorem sx_parts_27_6 {g : GG} {n : Int} {L : Int32} (hy : LyX g) {aK aV : Nat → Nat} {fo : Option Nat} (hz : HZ g aK aV fo)  {I : pI} {J : pJ} {R : pR} (hr : RfX g R) (hI : XI g n L I) (cz : Int32) (cz_lo : 6 ≤ cz.toInt) (cz_hi : cz.toInt ≤ 6) : SP g mX3_faultInParts [.ref (ad g 3), .int cz, .ref (ad g 27)] I J R (fun r I' J' R' => (XI g n L I' ∧ R' = R ∧ True ∧ I' (ad g 27) 1 = I (ad g 27) 1 ∧ I' (ad g 27) 2 = I (ad g 27) 2) ∧ ∃ v : Int32, r = some (.int v) ∧ 0 ≤ v.toInt ∧ v.toInt ≤ 5 ∧ (v.toInt = 0 → (I' (ad g 4) 0).toInt ≤ 3 ∧ (I' (ad g 4) 1).toInt ≤ 2 ∧ (I' (ad g 4) 2).toInt ≤ 6 ∧ (I' (ad g 4) 3).toInt ≤ 3 ∧ (I' (ad g 4) 4).toInt ≤ 99)) := by
  refine SP_of ⟨by decide, rfl⟩ (Nat.le_of_ble_eq_true rfl) ?_
  have e18215 : I (ad g 1) 1 = L := hI.2
  have b18216 := BT_get hI.1 1 1 2 (0) (0) (900) (by decide) 1 (by decide) (by decide)
  rw [e18215] at b18216
  obtain ⟨w18217, ew18217⟩ : ∃ w : Int32, I (ad g 27) 1 = w := ⟨_, rfl⟩
  have bw18217 := BT_get hI.1 27 1 2 (0) (0) (4) (by decide) 1 (by decide) (by decide)
  rw [ew18217] at bw18217
  obtain ⟨w18218, ew18218⟩ : ∃ w : Int32, I (ad g 27) 2 = w := ⟨_, rfl⟩
  have bw18218 := BT_get hI.1 27 2 3 (0) (0) (3) (by decide) 2 (by decide) (by decide)
  rw [ew18218] at bw18218
  refine WP_iload_n dX3_faultInParts_0 rfl ?_
  refine WP_callS1 dX3_faultInParts_1 ⟨⟨⟨by decide, by decide⟩, zX3_shapeOf⟩, lX3_84, tX3_shapeOf⟩ (sx_shapeOf hy hz hr hI cz (by omega) (by omega)) (Nat.le_of_ble_eq_true rfl) ?_
  intro r Ia Ja Ra hq
  obtain ⟨⟨ea, eb, ec⟩, rfl⟩ := hq
  show WP _ _ _ _ (.ref _ :: _) _ _ _ _
  rw [show 10 + cz.toInt.toNat = 16 by omega]
  rw [ea, eb, ec]
  clear ea eb ec Ia Ja Ra
  refine WP_astore_n (ls' := [(0, _), (1, _), (2, _), (3, _)]) dX3_faultInParts_4 (by decide) rfl ?_
  refine WQ_iconst (0) (0) dX3_faultInParts_5 rfl rfl (fun v18219 hv18219 => ?_)
  refine WP_istore (ls' := [(0, _), (1, _), (2, _), (3, _), (4, _)]) dX3_faultInParts_6 (by decide) rfl ?_
  refine WP_iload dX3_faultInParts_8 rfl ?_
  refine WP_aload_n dX3_faultInParts_10 rfl ?_
  refine WS_call hz (i := 16) (by omega) dX3_faultInParts_11 ⟨⟨by decide, by decide⟩, zJ0_length_8abf5⟩ lX3_87 vJ0_length_8abf5 (As := []) (rest := [.int v18219]) (j_length hz (i := 16) (by omega)) rfl rfl (Nat.le_of_ble_eq_true rfl) ?_
  intro r Ia Ja Ra hq
  obtain ⟨⟨ea, eb, ec⟩, v18220, rfl, cv18220⟩ := hq
  show WP _ _ _ _ (.int _ :: _) _ _ _ _
  rw [ea, eb, ec]
  clear ea eb ec Ia Ja Ra
  have hv18220 : v18220.toInt = 5 := cv18220.trans rfl
  refine WQ_icmp_ge 125 dX3_faultInParts_14 rfl (fun c18220 => False.elim (by omega)) (fun c18220 => ?_)
  refine WP_iload dX3_faultInParts_17 rfl ?_
  refine WQ_iconst (5) (5) dX3_faultInParts_19 rfl rfl (fun v18222 hv18222 => ?_)
  refine WQ_icmp_ge 125 dX3_faultInParts_20 rfl (fun c18222 => False.elim (by omega)) (fun c18222 => ?_)
  refine WP_aload_n dX3_faultInParts_23 rfl ?_
  refine WP_iload dX3_faultInParts_24 rfl ?_
  refine WS_call hz (i := 16) (by omega) dX3_faultInParts_26 ⟨⟨by decide, by decide⟩, zJ0_charAt_5068e⟩ lX3_92 vJ0_charAt_5068e (As := [.int v18219]) (rest := []) (j_charAt hz (i := 16) (k := v18219) (by omega) (by omega) (by have z9 : ((liN.getD 16 0 : Nat) : Int) = 5 := rfl; omega)) rfl rfl (Nat.le_of_ble_eq_true rfl) ?_
  intro r Ia Ja Ra hq
  obtain ⟨⟨ea, eb, ec⟩, v18224, rfl, cv18224⟩ := hq
  show WP _ _ _ _ (.int _ :: _) _ _ _ _
  rw [ea, eb, ec]
  clear ea eb ec Ia Ja Ra
  have hv18224 : v18224.toInt = 115 := cv18224.trans (by rw [show v18219.toInt.toNat = 0 by omega]; rfl)
  refine WP_istore (ls' := [(0, _), (1, _), (2, _), (3, _), (4, _), (5, _)]) dX3_faultInParts_29 (by decide) rfl ?_
  refine WP_iload dX3_faultInParts_31 rfl ?_
  refine WQ_bipush (97) (97) dX3_faultInParts_33 rfl rfl (fun v18225 hv18225 => ?_)
  refine WQ_icmp_lt 49 dX3_faultInParts_35 rfl (fun c18225 => False.elim (by omega)) (fun c18225 => ?_)
  refine WP_iload dX3_faultInParts_38 rfl ?_
  refine WQ_bipush (122) (122) dX3_faultInParts_40 rfl rfl (fun v18227 hv18227 => ?_)
  refine WQ_icmp_gt 49 dX3_faultInParts_42 rfl (fun c18227 => False.elim (by omega)) (fun c18227 => ?_)
  refine WQ_iconst (1) (1) dX3_faultInParts_45 rfl rfl (fun v18229 hv18229 => ?_)
  refine WP_goto 50 dX3_faultInParts_46 rfl ?_
  refine WP_istore (ls' := [(0, _), (1, _), (2, _), (3, _), (4, _), (5, _), (6, _)]) dX3_faultInParts_50 (by decide) rfl ?_
  refine WP_aload_n dX3_faultInParts_52 rfl ?_
  refine WP_getr dX3_faultInParts_53 fX3_15 rfl (lyx_is hy 3 3 rfl) (rfx hr 3 2 1 (by decide)) ?_
  refine WQ_geti dX3_faultInParts_56 fX3_43 rfl (lyx_is hy 1 5 rfl) (BT_get hI.1 1 2 3 (0) (0) (4) (by decide) 2 (by decide) (by decide)) (fun v18230 ev18230 av18230 bv18230 => ?_)
  refine WP_iload dX3_faultInParts_59 rfl ?_
  refine WQ_if_eq 68 dX3_faultInParts_61 rfl (fun c18230 => False.elim (by omega)) (fun c18230 => ?_)
  refine WQ_iconst (1) (1) dX3_faultInParts_64 rfl rfl (fun v18232 hv18232 => ?_)
  refine WP_goto 69 dX3_faultInParts_65 rfl ?_
  refine WQ_icmp_eq 74 dX3_faultInParts_69 rfl (fun c18232 => ?_) (fun c18232 => ?_)
  · refine WP_iload dX3_faultInParts_74 rfl ?_
    refine WQ_if_eq 92 dX3_faultInParts_76 rfl (fun c18233 => False.elim (by omega)) (fun c18233 => ?_)
    refine WP_aload_n dX3_faultInParts_79 rfl ?_
    refine WP_iload dX3_faultInParts_80 rfl ?_
    refine WP_iload_n dX3_faultInParts_82 rfl ?_
    refine WP_iload dX3_faultInParts_83 rfl ?_
    refine WP_aload_n dX3_faultInParts_85 rfl ?_
    refine WP_callV4 (k := 3) dX3_faultInParts_86 ⟨⟨⟨by decide, by decide⟩, zX3_faultOfName⟩, lX3_96, by decide, rfl, vX3_faultOfName.1, vX3_faultOfName.2⟩ (lyx_is hy 3 3 rfl) (sx_part_27_6_0 hy hr hI v18224 cz v18219 (by omega) (by omega) (by omega) (by omega) (by omega) (by omega)) (Nat.le_of_ble_eq_true rfl) ?_
    intro r I18235 J18236 Ra hq
    obtain ⟨⟨hI18235, ec, ⟨pI18235, sI18235_27_1, sI18235_27_2⟩⟩, v18237, rfl, av18237, bv18237, cv18237⟩ := hq
    show WP _ _ _ _ (.int _ :: _) _ _ _ _
    rw [ec]
    clear ec Ra
    have e18238 : I18235 (ad g 27) 1 = w18217 := by rw [sI18235_27_1]; exact ew18217
    have e18239 : I18235 (ad g 27) 2 = w18218 := by rw [sI18235_27_2]; exact ew18218
    have e18240 : I18235 (ad g 1) 1 = L := hI18235.2
    have b18241 := BT_get hI18235.1 1 1 2 (0) (0) (900) (by decide) 1 (by decide) (by decide)
    rw [e18240] at b18241
    obtain ⟨w18242, ew18242⟩ : ∃ w : Int32, I18235 (ad g 4) 0 = w := ⟨_, rfl⟩
    have bw18242 := BT_get hI18235.1 4 0 5 (0) (0) (1000) (by decide) 0 (by decide) (by decide)
    rw [ew18242] at bw18242
    rw [ew18242] at cv18237
    refine WP_goto 102 dX3_faultInParts_89 rfl ?_
    refine WP_istore (ls' := [(0, _), (1, _), (2, _), (3, _), (4, _), (5, _), (6, _), (7, _)]) dX3_faultInParts_102 (by decide) rfl ?_
    refine WP_iload dX3_faultInParts_104 rfl ?_
    refine WQ_if_eq 112 dX3_faultInParts_106 rfl (fun c18242 => ?_) (fun c18242 => ?_)
    · refine WP_aload_n dX3_faultInParts_112 rfl ?_
      refine WP_getr dX3_faultInParts_113 fX3_15 rfl (lyx_is hy 3 3 rfl) (rfx hr 3 2 1 (by decide)) ?_
      refine WP_callV0 (k := 5) dX3_faultInParts_116 ⟨⟨⟨by decide, by decide⟩, zX5_next⟩, lX3_40, by decide, rfl, vX5_next.1, vX5_next.2⟩ (lyx_is hy 1 5 rfl) (sx_nextf hy hr hI18235  ) (Nat.le_of_ble_eq_true rfl) ?_
      intro r I18244 J18245 Ra hq
      obtain ⟨⟨hI18244, ec, fiI18244⟩, rfl⟩ := hq
      rw [ec]
      clear ec Ra
      have e18246 : I18244 (ad g 27) 1 = w18217 := by rw [fz_at fiI18244 27 (by decide) (by decide)]; exact e18238
      have e18247 : I18244 (ad g 27) 2 = w18218 := by rw [fz_at fiI18244 27 (by decide) (by decide)]; exact e18239
      have e18248 : I18244 (ad g 4) 0 = w18242 := by rw [fz_at fiI18244 4 (by decide) (by decide)]; exact ew18242
      have e18249 : I18244 (ad g 1) 1 = L := hI18244.2
      have b18250 := BT_get hI18244.1 1 1 2 (0) (0) (900) (by decide) 1 (by decide) (by decide)
      rw [e18249] at b18250
      refine WP_iinc (ls' := [(0, _), (1, _), (2, _), (3, _), (4, _), (5, _), (6, _), (7, _)]) dX3_faultInParts_119 rfl (by decide) rfl ?_
      have hv18251 : (v18219 + Int32.ofInt (1)).toInt = v18219.toInt + (1) := ia_n rfl (by omega) (by omega)
      generalize v18219 + Int32.ofInt (1) = v18251 at hv18251 ⊢
      refine WP_goto 8 dX3_faultInParts_122 rfl ?_
      refine WP_iload dX3_faultInParts_8 rfl ?_
      refine WP_aload_n dX3_faultInParts_10 rfl ?_
      refine WS_call hz (i := 16) (by omega) dX3_faultInParts_11 ⟨⟨by decide, by decide⟩, zJ0_length_8abf5⟩ lX3_87 vJ0_length_8abf5 (As := []) (rest := [.int v18251]) (j_length hz (i := 16) (by omega)) rfl rfl (Nat.le_of_ble_eq_true rfl) ?_
      intro r Ia Ja Ra hq
      obtain ⟨⟨ea, eb, ec⟩, v18252, rfl, cv18252⟩ := hq
      show WP _ _ _ _ (.int _ :: _) _ _ _ _
      rw [ea, eb, ec]
      clear ea eb ec Ia Ja Ra
      have hv18252 : v18252.toInt = 5 := cv18252.trans rfl
      refine WQ_icmp_ge 125 dX3_faultInParts_14 rfl (fun c18252 => False.elim (by omega)) (fun c18252 => ?_)
      refine WP_iload dX3_faultInParts_17 rfl ?_
      refine WQ_iconst (5) (5) dX3_faultInParts_19 rfl rfl (fun v18254 hv18254 => ?_)
      refine WQ_icmp_ge 125 dX3_faultInParts_20 rfl (fun c18254 => False.elim (by omega)) (fun c18254 => ?_)
      refine WP_aload_n dX3_faultInParts_23 rfl ?_
      refine WP_iload dX3_faultInParts_24 rfl ?_
      refine WS_call hz (i := 16) (by omega) dX3_faultInParts_26 ⟨⟨by decide, by decide⟩, zJ0_charAt_5068e⟩ lX3_92 vJ0_charAt_5068e (As := [.int v18251]) (rest := []) (j_charAt hz (i := 16) (k := v18251) (by omega) (by omega) (by have z9 : ((liN.getD 16 0 : Nat) : Int) = 5 := rfl; omega)) rfl rfl (Nat.le_of_ble_eq_true rfl) ?_
      intro r Ia Ja Ra hq
      obtain ⟨⟨ea, eb, ec⟩, v18256, rfl, cv18256⟩ := hq
      show WP _ _ _ _ (.int _ :: _) _ _ _ _
      rw [ea, eb, ec]
      clear ea eb ec Ia Ja Ra
      have hv18256 : v18256.toInt = 116 := cv18256.trans (by rw [show v18251.toInt.toNat = 1 by omega]; rfl)
      refine WP_istore (ls' := [(0, _), (1, _), (2, _), (3, _), (4, _), (5, _), (6, _), (7, _)]) dX3_faultInParts_29 (by decide) rfl ?_
      refine WP_iload dX3_faultInParts_31 rfl ?_
      refine WQ_bipush (97) (97) dX3_faultInParts_33 rfl rfl (fun v18257 hv18257 => ?_)
      refine WQ_icmp_lt 49 dX3_faultInParts_35 rfl (fun c18257 => False.elim (by omega)) (fun c18257 => ?_)
      refine WP_iload dX3_faultInParts_38 rfl ?_
      refine WQ_bipush (122) (122) dX3_faultInParts_40 rfl rfl (fun v18259 hv18259 => ?_)
      refine WQ_icmp_gt 49 dX3_faultInParts_42 rfl (fun c18259 => False.elim (by omega)) (fun c18259 => ?_)
      refine WQ_iconst (1) (1) dX3_faultInParts_45 rfl rfl (fun v18261 hv18261 => ?_)
      refine WP_goto 50 dX3_faultInParts_46 rfl ?_
      refine WP_istore (ls' := [(0, _), (1, _), (2, _), (3, _), (4, _), (5, _), (6, _), (7, _)]) dX3_faultInParts_50 (by decide) rfl ?_
      refine WP_aload_n dX3_faultInParts_52 rfl ?_
      refine WP_getr dX3_faultInParts_53 fX3_15 rfl (lyx_is hy 3 3 rfl) (rfx hr 3 2 1 (by decide)) ?_
      refine WQ_geti dX3_faultInParts_56 fX3_43 rfl (lyx_is hy 1 5 rfl) (BT_get hI18244.1 1 2 3 (0) (0) (4) (by decide) 2 (by decide) (by decide)) (fun v18262 ev18262 av18262 bv18262 => ?_)
      refine WP_iload dX3_faultInParts_59 rfl ?_
      refine WQ_if_eq 68 dX3_faultInParts_61 rfl (fun c18262 => False.elim (by omega)) (fun c18262 => ?_)
      refine WQ_iconst (1) (1) dX3_faultInParts_64 rfl rfl (fun v18264 hv18264 => ?_)
      refine WP_goto 69 dX3_faultInParts_65 rfl ?_
      refine WQ_icmp_eq 74 dX3_faultInParts_69 rfl (fun c18264 => ?_) (fun c18264 => ?_)
      · refine WP_iload dX3_faultInParts_74 rfl ?_
        refine WQ_if_eq 92 dX3_faultInParts_76 rfl (fun c18265 => False.elim (by omega)) (fun c18265 => ?_)
        refine WP_aload_n dX3_faultInParts_79 rfl ?_
        refine WP_iload dX3_faultInParts_80 rfl ?_
        refine WP_iload_n dX3_faultInParts_82 rfl ?_
        refine WP_iload dX3_faultInParts_83 rfl ?_
        refine WP_aload_n dX3_faultInParts_85 rfl ?_
        refine WP_callV4 (k := 3) dX3_faultInParts_86 ⟨⟨⟨by decide, by decide⟩, zX3_faultOfName⟩, lX3_96, by decide, rfl, vX3_faultOfName.1, vX3_faultOfName.2⟩ (lyx_is hy 3 3 rfl) (sx_part_27_6_1 hy hr hI18244 v18256 cz v18251 (by omega) (by omega) (by omega) (by omega) (by omega) (by omega)) (Nat.le_of_ble_eq_true rfl) ?_
        intro r I18267 J18268 Ra hq
        obtain ⟨⟨hI18267, ec, ⟨pI18267, sI18267_4_0, sI18267_27_1, sI18267_27_2⟩⟩, v18269, rfl, av18269, bv18269, cv18269⟩ := hq
        show WP _ _ _ _ (.int _ :: _) _ _ _ _
        rw [ec]
        clear ec Ra
        have e18270 : I18267 (ad g 4) 0 = w18242 := by rw [sI18267_4_0]; exact e18248
        have e18271 : I18267 (ad g 27) 1 = w18217 := by rw [sI18267_27_1]; exact e18246
        have e18272 : I18267 (ad g 27) 2 = w18218 := by rw [sI18267_27_2]; exact e18247
        have e18273 : I18267 (ad g 1) 1 = L := hI18267.2
        have b18274 := BT_get hI18267.1 1 1 2 (0) (0) (900) (by decide) 1 (by decide) (by decide)
        rw [e18273] at b18274
        obtain ⟨w18275, ew18275⟩ : ∃ w : Int32, I18267 (ad g 4) 1 = w := ⟨_, rfl⟩
        have bw18275 := BT_get hI18267.1 4 0 5 (0) (0) (1000) (by decide) 1 (by decide) (by decide)
        rw [ew18275] at bw18275
        rw [ew18275] at cv18269
        refine WP_goto 102 dX3_faultInParts_89 rfl ?_
        refine WP_istore (ls' := [(0, _), (1, _), (2, _), (3, _), (4, _), (5, _), (6, _), (7, _)]) dX3_faultInParts_102 (by decide) rfl ?_
        refine WP_iload dX3_faultInParts_104 rfl ?_
        refine WQ_if_eq 112 dX3_faultInParts_106 rfl (fun c18275 => ?_) (fun c18275 => ?_)
        · refine WP_aload_n dX3_faultInParts_112 rfl ?_
          refine WP_getr dX3_faultInParts_113 fX3_15 rfl (lyx_is hy 3 3 rfl) (rfx hr 3 2 1 (by decide)) ?_
          refine WP_callV0 (k := 5) dX3_faultInParts_116 ⟨⟨⟨by decide, by decide⟩, zX5_next⟩, lX3_40, by decide, rfl, vX5_next.1, vX5_next.2⟩ (lyx_is hy 1 5 rfl) (sx_nextf hy hr hI18267  ) (Nat.le_of_ble_eq_true rfl) ?_
          intro r I18277 J18278 Ra hq
          obtain ⟨⟨hI18277, ec, fiI18277⟩, rfl⟩ := hq
          rw [ec]
          clear ec Ra
          have e18279 : I18277 (ad g 4) 0 = w18242 := by rw [fz_at fiI18277 4 (by decide) (by decide)]; exact e18270
          have e18280 : I18277 (ad g 27) 1 = w18217 := by rw [fz_at fiI18277 27 (by decide) (by decide)]; exact e18271
          have e18281 : I18277 (ad g 27) 2 = w18218 := by rw [fz_at fiI18277 27 (by decide) (by decide)]; exact e18272
          have e18282 : I18277 (ad g 4) 1 = w18275 := by rw [fz_at fiI18277 4 (by decide) (by decide)]; exact ew18275
          have e18283 : I18277 (ad g 1) 1 = L := hI18277.2
          have b18284 := BT_get hI18277.1 1 1 2 (0) (0) (900) (by decide) 1 (by decide) (by decide)
          rw [e18283] at b18284
          refine WP_iinc (ls' := [(0, _), (1, _), (2, _), (3, _), (4, _), (5, _), (6, _), (7, _)]) dX3_faultInParts_119 rfl (by decide) rfl ?_
          have hv18285 : (v18251 + Int32.ofInt (1)).toInt = v18251.toInt + (1) := ia_n rfl (by omega) (by omega)
          generalize v18251 + Int32.ofInt (1) = v18285 at hv18285 ⊢
          refine WP_goto 8 dX3_faultInParts_122 rfl ?_
          refine WP_iload dX3_faultInParts_8 rfl ?_
          refine WP_aload_n dX3_faultInParts_10 rfl ?_
          refine WS_call hz (i := 16) (by omega) dX3_faultInParts_11 ⟨⟨by decide, by decide⟩, zJ0_length_8abf5⟩ lX3_87 vJ0_length_8abf5 (As := []) (rest := [.int v18285]) (j_length hz (i := 16) (by omega)) rfl rfl (Nat.le_of_ble_eq_true rfl) ?_
          intro r Ia Ja Ra hq
          obtain ⟨⟨ea, eb, ec⟩, v18286, rfl, cv18286⟩ := hq
          show WP _ _ _ _ (.int _ :: _) _ _ _ _
          rw [ea, eb, ec]
          clear ea eb ec Ia Ja Ra
          have hv18286 : v18286.toInt = 5 := cv18286.trans rfl
          refine WQ_icmp_ge 125 dX3_faultInParts_14 rfl (fun c18286 => False.elim (by omega)) (fun c18286 => ?_)
          refine WP_iload dX3_faultInParts_17 rfl ?_
          refine WQ_iconst (5) (5) dX3_faultInParts_19 rfl rfl (fun v18288 hv18288 => ?_)
          refine WQ_icmp_ge 125 dX3_faultInParts_20 rfl (fun c18288 => False.elim (by omega)) (fun c18288 => ?_)
          refine WP_aload_n dX3_faultInParts_23 rfl ?_
          refine WP_iload dX3_faultInParts_24 rfl ?_
          refine WS_call hz (i := 16) (by omega) dX3_faultInParts_26 ⟨⟨by decide, by decide⟩, zJ0_charAt_5068e⟩ lX3_92 vJ0_charAt_5068e (As := [.int v18285]) (rest := []) (j_charAt hz (i := 16) (k := v18285) (by omega) (by omega) (by have z9 : ((liN.getD 16 0 : Nat) : Int) = 5 := rfl; omega)) rfl rfl (Nat.le_of_ble_eq_true rfl) ?_
          intro r Ia Ja Ra hq
          obtain ⟨⟨ea, eb, ec⟩, v18290, rfl, cv18290⟩ := hq
          show WP _ _ _ _ (.int _ :: _) _ _ _ _
          rw [ea, eb, ec]
          clear ea eb ec Ia Ja Ra
          have hv18290 : v18290.toInt = 68 := cv18290.trans (by rw [show v18285.toInt.toNat = 2 by omega]; rfl)
          refine WP_istore (ls' := [(0, _), (1, _), (2, _), (3, _), (4, _), (5, _), (6, _), (7, _)]) dX3_faultInParts_29 (by decide) rfl ?_
          refine WP_iload dX3_faultInParts_31 rfl ?_
          refine WQ_bipush (97) (97) dX3_faultInParts_33 rfl rfl (fun v18291 hv18291 => ?_)
          refine WQ_icmp_lt 49 dX3_faultInParts_35 rfl (fun c18291 => ?_) (fun c18291 => False.elim (by omega))
          refine WQ_iconst (0) (0) dX3_faultInParts_49 rfl rfl (fun v18293 hv18293 => ?_)
          refine WP_istore (ls' := [(0, _), (1, _), (2, _), (3, _), (4, _), (5, _), (6, _), (7, _)]) dX3_faultInParts_50 (by decide) rfl ?_
          refine WP_aload_n dX3_faultInParts_52 rfl ?_
          refine WP_getr dX3_faultInParts_53 fX3_15 rfl (lyx_is hy 3 3 rfl) (rfx hr 3 2 1 (by decide)) ?_
          refine WQ_geti dX3_faultInParts_56 fX3_43 rfl (lyx_is hy 1 5 rfl) (BT_get hI18277.1 1 2 3 (0) (0) (4) (by decide) 2 (by decide) (by decide)) (fun v18294 ev18294 av18294 bv18294 => ?_)
          refine WP_iload dX3_faultInParts_59 rfl ?_
          refine WQ_if_eq 68 dX3_faultInParts_61 rfl (fun c18294 => ?_) (fun c18294 => False.elim (by omega))
          refine WQ_iconst (2) (2) dX3_faultInParts_68 rfl rfl (fun v18296 hv18296 => ?_)
          refine WQ_icmp_eq 74 dX3_faultInParts_69 rfl (fun c18296 => ?_) (fun c18296 => ?_)
          · refine WP_iload dX3_faultInParts_74 rfl ?_
            refine WQ_if_eq 92 dX3_faultInParts_76 rfl (fun c18297 => ?_) (fun c18297 => False.elim (by omega))
            refine WP_aload_n dX3_faultInParts_92 rfl ?_
            refine WP_iload dX3_faultInParts_93 rfl ?_
            refine WP_iload_n dX3_faultInParts_95 rfl ?_
            refine WP_iload dX3_faultInParts_96 rfl ?_
            refine WP_aload_n dX3_faultInParts_98 rfl ?_
            refine WP_callV4 (k := 3) dX3_faultInParts_99 ⟨⟨⟨by decide, by decide⟩, zX3_faultOfNumber⟩, lX3_100, by decide, rfl, vX3_faultOfNumber.1, vX3_faultOfNumber.2⟩ (lyx_is hy 3 3 rfl) (sx_part_27_6_2 hy hr hI18277 v18290 cz v18285 (by omega) (by omega) (by omega) (by omega) (by omega) (by omega) (by rw [e18279]; omega)) (Nat.le_of_ble_eq_true rfl) ?_
            intro r I18299 J18300 Ra hq
            obtain ⟨⟨hI18299, ec, ⟨pI18299, sI18299_4_0, sI18299_4_1, sI18299_27_1, sI18299_27_2⟩⟩, v18301, rfl, av18301, bv18301, cv18301⟩ := hq
            show WP _ _ _ _ (.int _ :: _) _ _ _ _
            rw [ec]
            clear ec Ra
            have e18302 : I18299 (ad g 4) 0 = w18242 := by rw [sI18299_4_0]; exact e18279
            have e18303 : I18299 (ad g 4) 1 = w18275 := by rw [sI18299_4_1]; exact e18282
            have e18304 : I18299 (ad g 27) 1 = w18217 := by rw [sI18299_27_1]; exact e18280
            have e18305 : I18299 (ad g 27) 2 = w18218 := by rw [sI18299_27_2]; exact e18281
            have e18306 : I18299 (ad g 1) 1 = L := hI18299.2
            have b18307 := BT_get hI18299.1 1 1 2 (0) (0) (900) (by decide) 1 (by decide) (by decide)
            rw [e18306] at b18307
            obtain ⟨w18308, ew18308⟩ : ∃ w : Int32, I18299 (ad g 4) 2 = w := ⟨_, rfl⟩
            have bw18308 := BT_get hI18299.1 4 0 5 (0) (0) (1000) (by decide) 2 (by decide) (by decide)
            rw [ew18308] at bw18308
            rw [ew18308] at cv18301
            refine WP_istore (ls' := [(0, _), (1, _), (2, _), (3, _), (4, _), (5, _), (6, _), (7, _)]) dX3_faultInParts_102 (by decide) rfl ?_
            refine WP_iload dX3_faultInParts_104 rfl ?_
            refine WQ_if_eq 112 dX3_faultInParts_106 rfl (fun c18308 => ?_) (fun c18308 => ?_)
            · refine WP_aload_n dX3_faultInParts_112 rfl ?_
              refine WP_getr dX3_faultInParts_113 fX3_15 rfl (lyx_is hy 3 3 rfl) (rfx hr 3 2 1 (by decide)) ?_
              refine WP_callV0 (k := 5) dX3_faultInParts_116 ⟨⟨⟨by decide, by decide⟩, zX5_next⟩, lX3_40, by decide, rfl, vX5_next.1, vX5_next.2⟩ (lyx_is hy 1 5 rfl) (sx_nextf hy hr hI18299  ) (Nat.le_of_ble_eq_true rfl) ?_
              intro r I18310 J18311 Ra hq
              obtain ⟨⟨hI18310, ec, fiI18310⟩, rfl⟩ := hq
              rw [ec]
              clear ec Ra
              have e18312 : I18310 (ad g 4) 0 = w18242 := by rw [fz_at fiI18310 4 (by decide) (by decide)]; exact e18302
              have e18313 : I18310 (ad g 4) 1 = w18275 := by rw [fz_at fiI18310 4 (by decide) (by decide)]; exact e18303
              have e18314 : I18310 (ad g 27) 1 = w18217 := by rw [fz_at fiI18310 27 (by decide) (by decide)]; exact e18304
              have e18315 : I18310 (ad g 27) 2 = w18218 := by rw [fz_at fiI18310 27 (by decide) (by decide)]; exact e18305
              have e18316 : I18310 (ad g 4) 2 = w18308 := by rw [fz_at fiI18310 4 (by decide) (by decide)]; exact ew18308
              have e18317 : I18310 (ad g 1) 1 = L := hI18310.2
              have b18318 := BT_get hI18310.1 1 1 2 (0) (0) (900) (by decide) 1 (by decide) (by decide)
              rw [e18317] at b18318
              refine WP_iinc (ls' := [(0, _), (1, _), (2, _), (3, _), (4, _), (5, _), (6, _), (7, _)]) dX3_faultInParts_119 rfl (by decide) rfl ?_
              have hv18319 : (v18285 + Int32.ofInt (1)).toInt = v18285.toInt + (1) := ia_n rfl (by omega) (by omega)
              generalize v18285 + Int32.ofInt (1) = v18319 at hv18319 ⊢
              refine WP_goto 8 dX3_faultInParts_122 rfl ?_
              refine WP_iload dX3_faultInParts_8 rfl ?_
              refine WP_aload_n dX3_faultInParts_10 rfl ?_
              refine WS_call hz (i := 16) (by omega) dX3_faultInParts_11 ⟨⟨by decide, by decide⟩, zJ0_length_8abf5⟩ lX3_87 vJ0_length_8abf5 (As := []) (rest := [.int v18319]) (j_length hz (i := 16) (by omega)) rfl rfl (Nat.le_of_ble_eq_true rfl) ?_
              intro r Ia Ja Ra hq
              obtain ⟨⟨ea, eb, ec⟩, v18320, rfl, cv18320⟩ := hq
              show WP _ _ _ _ (.int _ :: _) _ _ _ _
              rw [ea, eb, ec]
              clear ea eb ec Ia Ja Ra
              have hv18320 : v18320.toInt = 5 := cv18320.trans rfl
              refine WQ_icmp_ge 125 dX3_faultInParts_14 rfl (fun c18320 => False.elim (by omega)) (fun c18320 => ?_)
              refine WP_iload dX3_faultInParts_17 rfl ?_
              refine WQ_iconst (5) (5) dX3_faultInParts_19 rfl rfl (fun v18322 hv18322 => ?_)
              refine WQ_icmp_ge 125 dX3_faultInParts_20 rfl (fun c18322 => False.elim (by omega)) (fun c18322 => ?_)
              refine WP_aload_n dX3_faultInParts_23 rfl ?_
              refine WP_iload dX3_faultInParts_24 rfl ?_
              refine WS_call hz (i := 16) (by omega) dX3_faultInParts_26 ⟨⟨by decide, by decide⟩, zJ0_charAt_5068e⟩ lX3_92 vJ0_charAt_5068e (As := [.int v18319]) (rest := []) (j_charAt hz (i := 16) (k := v18319) (by omega) (by omega) (by have z9 : ((liN.getD 16 0 : Nat) : Int) = 5 := rfl; omega)) rfl rfl (Nat.le_of_ble_eq_true rfl) ?_
              intro r Ia Ja Ra hq
              obtain ⟨⟨ea, eb, ec⟩, v18324, rfl, cv18324⟩ := hq
              show WP _ _ _ _ (.int _ :: _) _ _ _ _
              rw [ea, eb, ec]
              clear ea eb ec Ia Ja Ra
              have hv18324 : v18324.toInt = 85 := cv18324.trans (by rw [show v18319.toInt.toNat = 3 by omega]; rfl)
              refine WP_istore (ls' := [(0, _), (1, _), (2, _), (3, _), (4, _), (5, _), (6, _), (7, _)]) dX3_faultInParts_29 (by decide) rfl ?_
              refine WP_iload dX3_faultInParts_31 rfl ?_
              refine WQ_bipush (97) (97) dX3_faultInParts_33 rfl rfl (fun v18325 hv18325 => ?_)
              refine WQ_icmp_lt 49 dX3_faultInParts_35 rfl (fun c18325 => ?_) (fun c18325 => False.elim (by omega))
              refine WQ_iconst (0) (0) dX3_faultInParts_49 rfl rfl (fun v18327 hv18327 => ?_)
              refine WP_istore (ls' := [(0, _), (1, _), (2, _), (3, _), (4, _), (5, _), (6, _), (7, _)]) dX3_faultInParts_50 (by decide) rfl ?_
              refine WP_aload_n dX3_faultInParts_52 rfl ?_
              refine WP_getr dX3_faultInParts_53 fX3_15 rfl (lyx_is hy 3 3 rfl) (rfx hr 3 2 1 (by decide)) ?_
              refine WQ_geti dX3_faultInParts_56 fX3_43 rfl (lyx_is hy 1 5 rfl) (BT_get hI18310.1 1 2 3 (0) (0) (4) (by decide) 2 (by decide) (by decide)) (fun v18328 ev18328 av18328 bv18328 => ?_)
              refine WP_iload dX3_faultInParts_59 rfl ?_
              refine WQ_if_eq 68 dX3_faultInParts_61 rfl (fun c18328 => ?_) (fun c18328 => False.elim (by omega))
              refine WQ_iconst (2) (2) dX3_faultInParts_68 rfl rfl (fun v18330 hv18330 => ?_)
              refine WQ_icmp_eq 74 dX3_faultInParts_69 rfl (fun c18330 => ?_) (fun c18330 => ?_)
              · refine WP_iload dX3_faultInParts_74 rfl ?_
                refine WQ_if_eq 92 dX3_faultInParts_76 rfl (fun c18331 => ?_) (fun c18331 => False.elim (by omega))
                refine WP_aload_n dX3_faultInParts_92 rfl ?_
                refine WP_iload dX3_faultInParts_93 rfl ?_
                refine WP_iload_n dX3_faultInParts_95 rfl ?_
                refine WP_iload dX3_faultInParts_96 rfl ?_
                refine WP_aload_n dX3_faultInParts_98 rfl ?_
                refine WP_callV4 (k := 3) dX3_faultInParts_99 ⟨⟨⟨by decide, by decide⟩, zX3_faultOfNumber⟩, lX3_100, by decide, rfl, vX3_faultOfNumber.1, vX3_faultOfNumber.2⟩ (lyx_is hy 3 3 rfl) (sx_part_27_6_3 hy hr hI18310 v18324 cz v18319 (by omega) (by omega) (by omega) (by omega) (by omega) (by omega)) (Nat.le_of_ble_eq_true rfl) ?_
                intro r I18333 J18334 Ra hq
                obtain ⟨⟨hI18333, ec, ⟨pI18333, sI18333_4_0, sI18333_4_1, sI18333_4_2, sI18333_27_1, sI18333_27_2⟩⟩, v18335, rfl, av18335, bv18335, cv18335⟩ := hq
                show WP _ _ _ _ (.int _ :: _) _ _ _ _
                rw [ec]
                clear ec Ra
                have e18336 : I18333 (ad g 4) 0 = w18242 := by rw [sI18333_4_0]; exact e18312
                have e18337 : I18333 (ad g 4) 1 = w18275 := by rw [sI18333_4_1]; exact e18313
                have e18338 : I18333 (ad g 4) 2 = w18308 := by rw [sI18333_4_2]; exact e18316
                have e18339 : I18333 (ad g 27) 1 = w18217 := by rw [sI18333_27_1]; exact e18314
                have e18340 : I18333 (ad g 27) 2 = w18218 := by rw [sI18333_27_2]; exact e18315
                have e18341 : I18333 (ad g 1) 1 = L := hI18333.2
                have b18342 := BT_get hI18333.1 1 1 2 (0) (0) (900) (by decide) 1 (by decide) (by decide)
                rw [e18341] at b18342
                obtain ⟨w18343, ew18343⟩ : ∃ w : Int32, I18333 (ad g 4) 3 = w := ⟨_, rfl⟩
                have bw18343 := BT_get hI18333.1 4 0 5 (0) (0) (1000) (by decide) 3 (by decide) (by decide)
                rw [ew18343] at bw18343
                rw [ew18343] at cv18335
                refine WP_istore (ls' := [(0, _), (1, _), (2, _), (3, _), (4, _), (5, _), (6, _), (7, _)]) dX3_faultInParts_102 (by decide) rfl ?_
                refine WP_iload dX3_faultInParts_104 rfl ?_
                refine WQ_if_eq 112 dX3_faultInParts_106 rfl (fun c18343 => ?_) (fun c18343 => ?_)
                · refine WP_aload_n dX3_faultInParts_112 rfl ?_
                  refine WP_getr dX3_faultInParts_113 fX3_15 rfl (lyx_is hy 3 3 rfl) (rfx hr 3 2 1 (by decide)) ?_
                  refine WP_callV0 (k := 5) dX3_faultInParts_116 ⟨⟨⟨by decide, by decide⟩, zX5_next⟩, lX3_40, by decide, rfl, vX5_next.1, vX5_next.2⟩ (lyx_is hy 1 5 rfl) (sx_nextf hy hr hI18333  ) (Nat.le_of_ble_eq_true rfl) ?_
                  intro r I18345 J18346 Ra hq
                  obtain ⟨⟨hI18345, ec, fiI18345⟩, rfl⟩ := hq
                  rw [ec]
                  clear ec Ra
                  have e18347 : I18345 (ad g 4) 0 = w18242 := by rw [fz_at fiI18345 4 (by decide) (by decide)]; exact e18336
                  have e18348 : I18345 (ad g 4) 1 = w18275 := by rw [fz_at fiI18345 4 (by decide) (by decide)]; exact e18337
                  have e18349 : I18345 (ad g 4) 2 = w18308 := by rw [fz_at fiI18345 4 (by decide) (by decide)]; exact e18338
                  have e18350 : I18345 (ad g 27) 1 = w18217 := by rw [fz_at fiI18345 27 (by decide) (by decide)]; exact e18339
                  have e18351 : I18345 (ad g 27) 2 = w18218 := by rw [fz_at fiI18345 27 (by decide) (by decide)]; exact e18340
                  have e18352 : I18345 (ad g 4) 3 = w18343 := by rw [fz_at fiI18345 4 (by decide) (by decide)]; exact ew18343
                  have e18353 : I18345 (ad g 1) 1 = L := hI18345.2
                  have b18354 := BT_get hI18345.1 1 1 2 (0) (0) (900) (by decide) 1 (by decide) (by decide)
                  rw [e18353] at b18354
                  refine WP_iinc (ls' := [(0, _), (1, _), (2, _), (3, _), (4, _), (5, _), (6, _), (7, _)]) dX3_faultInParts_119 rfl (by decide) rfl ?_
                  have hv18355 : (v18319 + Int32.ofInt (1)).toInt = v18319.toInt + (1) := ia_n rfl (by omega) (by omega)
                  generalize v18319 + Int32.ofInt (1) = v18355 at hv18355 ⊢
                  refine WP_goto 8 dX3_faultInParts_122 rfl ?_
                  refine WP_iload dX3_faultInParts_8 rfl ?_
                  refine WP_aload_n dX3_faultInParts_10 rfl ?_
                  refine WS_call hz (i := 16) (by omega) dX3_faultInParts_11 ⟨⟨by decide, by decide⟩, zJ0_length_8abf5⟩ lX3_87 vJ0_length_8abf5 (As := []) (rest := [.int v18355]) (j_length hz (i := 16) (by omega)) rfl rfl (Nat.le_of_ble_eq_true rfl) ?_
                  intro r Ia Ja Ra hq
                  obtain ⟨⟨ea, eb, ec⟩, v18356, rfl, cv18356⟩ := hq
                  show WP _ _ _ _ (.int _ :: _) _ _ _ _
                  rw [ea, eb, ec]
                  clear ea eb ec Ia Ja Ra
                  have hv18356 : v18356.toInt = 5 := cv18356.trans rfl
                  refine WQ_icmp_ge 125 dX3_faultInParts_14 rfl (fun c18356 => False.elim (by omega)) (fun c18356 => ?_)
                  refine WP_iload dX3_faultInParts_17 rfl ?_
                  refine WQ_iconst (5) (5) dX3_faultInParts_19 rfl rfl (fun v18358 hv18358 => ?_)
                  refine WQ_icmp_ge 125 dX3_faultInParts_20 rfl (fun c18358 => False.elim (by omega)) (fun c18358 => ?_)
                  refine WP_aload_n dX3_faultInParts_23 rfl ?_
                  refine WP_iload dX3_faultInParts_24 rfl ?_
                  refine WS_call hz (i := 16) (by omega) dX3_faultInParts_26 ⟨⟨by decide, by decide⟩, zJ0_charAt_5068e⟩ lX3_92 vJ0_charAt_5068e (As := [.int v18355]) (rest := []) (j_charAt hz (i := 16) (k := v18355) (by omega) (by omega) (by have z9 : ((liN.getD 16 0 : Nat) : Int) = 5 := rfl; omega)) rfl rfl (Nat.le_of_ble_eq_true rfl) ?_
                  intro r Ia Ja Ra hq
                  obtain ⟨⟨ea, eb, ec⟩, v18360, rfl, cv18360⟩ := hq
                  show WP _ _ _ _ (.int _ :: _) _ _ _ _
                  rw [ea, eb, ec]
                  clear ea eb ec Ia Ja Ra
                  have hv18360 : v18360.toInt = 86 := cv18360.trans (by rw [show v18355.toInt.toNat = 4 by omega]; rfl)
                  refine WP_istore (ls' := [(0, _), (1, _), (2, _), (3, _), (4, _), (5, _), (6, _), (7, _)]) dX3_faultInParts_29 (by decide) rfl ?_
                  refine WP_iload dX3_faultInParts_31 rfl ?_
                  refine WQ_bipush (97) (97) dX3_faultInParts_33 rfl rfl (fun v18361 hv18361 => ?_)
                  refine WQ_icmp_lt 49 dX3_faultInParts_35 rfl (fun c18361 => ?_) (fun c18361 => False.elim (by omega))
                  refine WQ_iconst (0) (0) dX3_faultInParts_49 rfl rfl (fun v18363 hv18363 => ?_)
                  refine WP_istore (ls' := [(0, _), (1, _), (2, _), (3, _), (4, _), (5, _), (6, _), (7, _)]) dX3_faultInParts_50 (by decide) rfl ?_
                  refine WP_aload_n dX3_faultInParts_52 rfl ?_
                  refine WP_getr dX3_faultInParts_53 fX3_15 rfl (lyx_is hy 3 3 rfl) (rfx hr 3 2 1 (by decide)) ?_
                  refine WQ_geti dX3_faultInParts_56 fX3_43 rfl (lyx_is hy 1 5 rfl) (BT_get hI18345.1 1 2 3 (0) (0) (4) (by decide) 2 (by decide) (by decide)) (fun v18364 ev18364 av18364 bv18364 => ?_)
                  refine WP_iload dX3_faultInParts_59 rfl ?_
                  refine WQ_if_eq 68 dX3_faultInParts_61 rfl (fun c18364 => ?_) (fun c18364 => False.elim (by omega))
                  refine WQ_iconst (2) (2) dX3_faultInParts_68 rfl rfl (fun v18366 hv18366 => ?_)
                  refine WQ_icmp_eq 74 dX3_faultInParts_69 rfl (fun c18366 => ?_) (fun c18366 => ?_)
                  · refine WP_iload dX3_faultInParts_74 rfl ?_
                    refine WQ_if_eq 92 dX3_faultInParts_76 rfl (fun c18367 => ?_) (fun c18367 => False.elim (by omega))
                    refine WP_aload_n dX3_faultInParts_92 rfl ?_
                    refine WP_iload dX3_faultInParts_93 rfl ?_
                    refine WP_iload_n dX3_faultInParts_95 rfl ?_
                    refine WP_iload dX3_faultInParts_96 rfl ?_
                    refine WP_aload_n dX3_faultInParts_98 rfl ?_
                    refine WP_callV4 (k := 3) dX3_faultInParts_99 ⟨⟨⟨by decide, by decide⟩, zX3_faultOfNumber⟩, lX3_100, by decide, rfl, vX3_faultOfNumber.1, vX3_faultOfNumber.2⟩ (lyx_is hy 3 3 rfl) (sx_part_27_6_4 hy hr hI18345 v18360 cz v18355 (by omega) (by omega) (by omega) (by omega) (by omega) (by omega)) (Nat.le_of_ble_eq_true rfl) ?_
                    intro r I18369 J18370 Ra hq
                    obtain ⟨⟨hI18369, ec, ⟨pI18369, sI18369_4_0, sI18369_4_1, sI18369_4_2, sI18369_4_3, sI18369_27_1, sI18369_27_2⟩⟩, v18371, rfl, av18371, bv18371, cv18371⟩ := hq
                    show WP _ _ _ _ (.int _ :: _) _ _ _ _
                    rw [ec]
                    clear ec Ra
                    have e18372 : I18369 (ad g 4) 0 = w18242 := by rw [sI18369_4_0]; exact e18347
                    have e18373 : I18369 (ad g 4) 1 = w18275 := by rw [sI18369_4_1]; exact e18348
                    have e18374 : I18369 (ad g 4) 2 = w18308 := by rw [sI18369_4_2]; exact e18349
                    have e18375 : I18369 (ad g 4) 3 = w18343 := by rw [sI18369_4_3]; exact e18352
                    have e18376 : I18369 (ad g 27) 1 = w18217 := by rw [sI18369_27_1]; exact e18350
                    have e18377 : I18369 (ad g 27) 2 = w18218 := by rw [sI18369_27_2]; exact e18351
                    have e18378 : I18369 (ad g 1) 1 = L := hI18369.2
                    have b18379 := BT_get hI18369.1 1 1 2 (0) (0) (900) (by decide) 1 (by decide) (by decide)
                    rw [e18378] at b18379
                    obtain ⟨w18380, ew18380⟩ : ∃ w : Int32, I18369 (ad g 4) 4 = w := ⟨_, rfl⟩
                    have bw18380 := BT_get hI18369.1 4 0 5 (0) (0) (1000) (by decide) 4 (by decide) (by decide)
                    rw [ew18380] at bw18380
                    rw [ew18380] at cv18371
                    refine WP_istore (ls' := [(0, _), (1, _), (2, _), (3, _), (4, _), (5, _), (6, _), (7, _)]) dX3_faultInParts_102 (by decide) rfl ?_
                    refine WP_iload dX3_faultInParts_104 rfl ?_
                    refine WQ_if_eq 112 dX3_faultInParts_106 rfl (fun c18380 => ?_) (fun c18380 => ?_)
                    · refine WP_aload_n dX3_faultInParts_112 rfl ?_
                      refine WP_getr dX3_faultInParts_113 fX3_15 rfl (lyx_is hy 3 3 rfl) (rfx hr 3 2 1 (by decide)) ?_
                      refine WP_callV0 (k := 5) dX3_faultInParts_116 ⟨⟨⟨by decide, by decide⟩, zX5_next⟩, lX3_40, by decide, rfl, vX5_next.1, vX5_next.2⟩ (lyx_is hy 1 5 rfl) (sx_nextf hy hr hI18369  ) (Nat.le_of_ble_eq_true rfl) ?_
                      intro r I18382 J18383 Ra hq
                      obtain ⟨⟨hI18382, ec, fiI18382⟩, rfl⟩ := hq
                      rw [ec]
                      clear ec Ra
                      have e18384 : I18382 (ad g 4) 0 = w18242 := by rw [fz_at fiI18382 4 (by decide) (by decide)]; exact e18372
                      have e18385 : I18382 (ad g 4) 1 = w18275 := by rw [fz_at fiI18382 4 (by decide) (by decide)]; exact e18373
                      have e18386 : I18382 (ad g 4) 2 = w18308 := by rw [fz_at fiI18382 4 (by decide) (by decide)]; exact e18374
                      have e18387 : I18382 (ad g 4) 3 = w18343 := by rw [fz_at fiI18382 4 (by decide) (by decide)]; exact e18375
                      have e18388 : I18382 (ad g 27) 1 = w18217 := by rw [fz_at fiI18382 27 (by decide) (by decide)]; exact e18376
                      have e18389 : I18382 (ad g 27) 2 = w18218 := by rw [fz_at fiI18382 27 (by decide) (by decide)]; exact e18377
                      have e18390 : I18382 (ad g 4) 4 = w18380 := by rw [fz_at fiI18382 4 (by decide) (by decide)]; exact ew18380
                      have e18391 : I18382 (ad g 1) 1 = L := hI18382.2
                      have b18392 := BT_get hI18382.1 1 1 2 (0) (0) (900) (by decide) 1 (by decide) (by decide)
                      rw [e18391] at b18392
                      refine WP_iinc (ls' := [(0, _), (1, _), (2, _), (3, _), (4, _), (5, _), (6, _), (7, _)]) dX3_faultInParts_119 rfl (by decide) rfl ?_
                      have hv18393 : (v18355 + Int32.ofInt (1)).toInt = v18355.toInt + (1) := ia_n rfl (by omega) (by omega)
                      generalize v18355 + Int32.ofInt (1) = v18393 at hv18393 ⊢
                      refine WP_goto 8 dX3_faultInParts_122 rfl ?_
                      refine WP_iload dX3_faultInParts_8 rfl ?_
                      refine WP_aload_n dX3_faultInParts_10 rfl ?_
                      refine WS_call hz (i := 16) (by omega) dX3_faultInParts_11 ⟨⟨by decide, by decide⟩, zJ0_length_8abf5⟩ lX3_87 vJ0_length_8abf5 (As := []) (rest := [.int v18393]) (j_length hz (i := 16) (by omega)) rfl rfl (Nat.le_of_ble_eq_true rfl) ?_
                      intro r Ia Ja Ra hq
                      obtain ⟨⟨ea, eb, ec⟩, v18394, rfl, cv18394⟩ := hq
                      show WP _ _ _ _ (.int _ :: _) _ _ _ _
                      rw [ea, eb, ec]
                      clear ea eb ec Ia Ja Ra
                      have hv18394 : v18394.toInt = 5 := cv18394.trans rfl
                      refine WQ_icmp_ge 125 dX3_faultInParts_14 rfl (fun c18394 => ?_) (fun c18394 => False.elim (by omega))
                      refine WP_aload_n dX3_faultInParts_125 rfl ?_
                      refine WP_getr dX3_faultInParts_126 fX3_15 rfl (lyx_is hy 3 3 rfl) (rfx hr 3 2 1 (by decide)) ?_
                      refine WQ_geti dX3_faultInParts_129 fX3_43 rfl (lyx_is hy 1 5 rfl) (BT_get hI18382.1 1 2 3 (0) (0) (4) (by decide) 2 (by decide) (by decide)) (fun v18396 ev18396 av18396 bv18396 => ?_)
                      refine WQ_iconst (3) (3) dX3_faultInParts_132 rfl rfl (fun v18397 hv18397 => ?_)
                      refine WQ_icmp_ne 140 dX3_faultInParts_133 rfl (fun c18397 => ?_) (fun c18397 => ?_)
                      · refine WQ_iconst (1) (1) dX3_faultInParts_140 rfl rfl (fun v18399 hv18399 => ?_)
                        exact WP_iret dX3_faultInParts_141 rfl ⟨⟨hI18382, rfl, ⟨trivial, (by rw [e18388, ew18217] <;> exact (eq32 _ _).mpr (by omega)), (by rw [e18389, ew18218] <;> exact (eq32 _ _).mpr (by omega))⟩⟩, _, rfl, by omega, by omega, by (try rw [e18384]; try rw [e18385]; try rw [e18386]; try rw [e18387]; try rw [e18390]); omega⟩
                      · refine WQ_iconst (0) (0) dX3_faultInParts_136 rfl rfl (fun v18400 hv18400 => ?_)
                        refine WP_goto 141 dX3_faultInParts_137 rfl ?_
                        exact WP_iret dX3_faultInParts_141 rfl ⟨⟨hI18382, rfl, ⟨trivial, (by rw [e18388, ew18217] <;> exact (eq32 _ _).mpr (by omega)), (by rw [e18389, ew18218] <;> exact (eq32 _ _).mpr (by omega))⟩⟩, _, rfl, by omega, by omega, by (try rw [e18384]; try rw [e18385]; try rw [e18386]; try rw [e18387]; try rw [e18390]); omega⟩
                    · refine WP_iload dX3_faultInParts_109 rfl ?_
                      exact WP_iret dX3_faultInParts_111 rfl ⟨⟨hI18369, rfl, ⟨trivial, (by rw [e18376, ew18217] <;> exact (eq32 _ _).mpr (by omega)), (by rw [e18377, ew18218] <;> exact (eq32 _ _).mpr (by omega))⟩⟩, _, rfl, by omega, by omega, by (try rw [e18372]; try rw [e18373]; try rw [e18374]; try rw [e18375]; try rw [ew18380]); omega⟩
                  · refine WQ_iconst (1) (1) dX3_faultInParts_72 rfl rfl (fun v18401 hv18401 => ?_)
                    obtain ⟨w18402, ew18402⟩ : ∃ w : Int32, I18345 (ad g 4) 4 = w := ⟨_, rfl⟩
                    have bw18402 := BT_get hI18345.1 4 0 5 (0) (0) (1000) (by decide) 4 (by decide) (by decide)
                    rw [ew18402] at bw18402
                    exact WP_iret dX3_faultInParts_73 rfl ⟨⟨hI18345, rfl, ⟨trivial, (by rw [e18350, ew18217] <;> exact (eq32 _ _).mpr (by omega)), (by rw [e18351, ew18218] <;> exact (eq32 _ _).mpr (by omega))⟩⟩, _, rfl, by omega, by omega, by (try rw [e18347]; try rw [e18348]; try rw [e18349]; try rw [e18352]; try rw [ew18402]); omega⟩
                · refine WP_iload dX3_faultInParts_109 rfl ?_
                  obtain ⟨w18403, ew18403⟩ : ∃ w : Int32, I18333 (ad g 4) 4 = w := ⟨_, rfl⟩
                  have bw18403 := BT_get hI18333.1 4 0 5 (0) (0) (1000) (by decide) 4 (by decide) (by decide)
                  rw [ew18403] at bw18403
                  exact WP_iret dX3_faultInParts_111 rfl ⟨⟨hI18333, rfl, ⟨trivial, (by rw [e18339, ew18217] <;> exact (eq32 _ _).mpr (by omega)), (by rw [e18340, ew18218] <;> exact (eq32 _ _).mpr (by omega))⟩⟩, _, rfl, by omega, by omega, by (try rw [e18336]; try rw [e18337]; try rw [e18338]; try rw [ew18343]; try rw [ew18403]); omega⟩
              · refine WQ_iconst (1) (1) dX3_faultInParts_72 rfl rfl (fun v18404 hv18404 => ?_)
                obtain ⟨w18405, ew18405⟩ : ∃ w : Int32, I18310 (ad g 4) 3 = w := ⟨_, rfl⟩
                have bw18405 := BT_get hI18310.1 4 0 5 (0) (0) (1000) (by decide) 3 (by decide) (by decide)
                rw [ew18405] at bw18405
                obtain ⟨w18406, ew18406⟩ : ∃ w : Int32, I18310 (ad g 4) 4 = w := ⟨_, rfl⟩
                have bw18406 := BT_get hI18310.1 4 0 5 (0) (0) (1000) (by decide) 4 (by decide) (by decide)
                rw [ew18406] at bw18406
                exact WP_iret dX3_faultInParts_73 rfl ⟨⟨hI18310, rfl, ⟨trivial, (by rw [e18314, ew18217] <;> exact (eq32 _ _).mpr (by omega)), (by rw [e18315, ew18218] <;> exact (eq32 _ _).mpr (by omega))⟩⟩, _, rfl, by omega, by omega, by (try rw [e18312]; try rw [e18313]; try rw [e18316]; try rw [ew18405]; try rw [ew18406]); omega⟩
            · refine WP_iload dX3_faultInParts_109 rfl ?_
              obtain ⟨w18407, ew18407⟩ : ∃ w : Int32, I18299 (ad g 4) 3 = w := ⟨_, rfl⟩
              have bw18407 := BT_get hI18299.1 4 0 5 (0) (0) (1000) (by decide) 3 (by decide) (by decide)
              rw [ew18407] at bw18407
              obtain ⟨w18408, ew18408⟩ : ∃ w : Int32, I18299 (ad g 4) 4 = w := ⟨_, rfl⟩
              have bw18408 := BT_get hI18299.1 4 0 5 (0) (0) (1000) (by decide) 4 (by decide) (by decide)
              rw [ew18408] at bw18408
              exact WP_iret dX3_faultInParts_111 rfl ⟨⟨hI18299, rfl, ⟨trivial, (by rw [e18304, ew18217] <;> exact (eq32 _ _).mpr (by omega)), (by rw [e18305, ew18218] <;> exact (eq32 _ _).mpr (by omega))⟩⟩, _, rfl, by omega, by omega, by (try rw [e18302]; try rw [e18303]; try rw [ew18308]; try rw [ew18407]; try rw [ew18408]); omega⟩
          · refine WQ_iconst (1) (1) dX3_faultInParts_72 rfl rfl (fun v18409 hv18409 => ?_)
            obtain ⟨w18410, ew18410⟩ : ∃ w : Int32, I18277 (ad g 4) 2 = w := ⟨_, rfl⟩
            have bw18410 := BT_get hI18277.1 4 0 5 (0) (0) (1000) (by decide) 2 (by decide) (by decide)
            rw [ew18410] at bw18410
            obtain ⟨w18411, ew18411⟩ : ∃ w : Int32, I18277 (ad g 4) 3 = w := ⟨_, rfl⟩
            have bw18411 := BT_get hI18277.1 4 0 5 (0) (0) (1000) (by decide) 3 (by decide) (by decide)
            rw [ew18411] at bw18411
            obtain ⟨w18412, ew18412⟩ : ∃ w : Int32, I18277 (ad g 4) 4 = w := ⟨_, rfl⟩
            have bw18412 := BT_get hI18277.1 4 0 5 (0) (0) (1000) (by decide) 4 (by decide) (by decide)
            rw [ew18412] at bw18412
            exact WP_iret dX3_faultInParts_73 rfl ⟨⟨hI18277, rfl, ⟨trivial, (by rw [e18280, ew18217] <;> exact (eq32 _ _).mpr (by omega)), (by rw [e18281, ew18218] <;> exact (eq32 _ _).mpr (by omega))⟩⟩, _, rfl, by omega, by omega, by (try rw [e18279]; try rw [e18282]; try rw [ew18410]; try rw [ew18411]; try rw [ew18412]); omega⟩
        · refine WP_iload dX3_faultInParts_109 rfl ?_
          obtain ⟨w18413, ew18413⟩ : ∃ w : Int32, I18267 (ad g 4) 2 = w := ⟨_, rfl⟩
          have bw18413 := BT_get hI18267.1 4 0 5 (0) (0) (1000) (by decide) 2 (by decide) (by decide)
          rw [ew18413] at bw18413
          obtain ⟨w18414, ew18414⟩ : ∃ w : Int32, I18267 (ad g 4) 3 = w := ⟨_, rfl⟩
          have bw18414 := BT_get hI18267.1 4 0 5 (0) (0) (1000) (by decide) 3 (by decide) (by decide)
          rw [ew18414] at bw18414
          obtain ⟨w18415, ew18415⟩ : ∃ w : Int32, I18267 (ad g 4) 4 = w := ⟨_, rfl⟩
          have bw18415 := BT_get hI18267.1 4 0 5 (0) (0) (1000) (by decide) 4 (by decide) (by decide)
          rw [ew18415] at bw18415
          exact WP_iret dX3_faultInParts_111 rfl ⟨⟨hI18267, rfl, ⟨trivial, (by rw [e18271, ew18217] <;> exact (eq32 _ _).mpr (by omega)), (by rw [e18272, ew18218] <;> exact (eq32 _ _).mpr (by omega))⟩⟩, _, rfl, by omega, by omega, by (try rw [e18270]; try rw [ew18275]; try rw [ew18413]; try rw [ew18414]; try rw [ew18415]); omega⟩
      · refine WQ_iconst (1) (1) dX3_faultInParts_72 rfl rfl (fun v18416 hv18416 => ?_)
        obtain ⟨w18417, ew18417⟩ : ∃ w : Int32, I18244 (ad g 4) 1 = w := ⟨_, rfl⟩
        have bw18417 := BT_get hI18244.1 4 0 5 (0) (0) (1000) (by decide) 1 (by decide) (by decide)
        rw [ew18417] at bw18417
        obtain ⟨w18418, ew18418⟩ : ∃ w : Int32, I18244 (ad g 4) 2 = w := ⟨_, rfl⟩
        have bw18418 := BT_get hI18244.1 4 0 5 (0) (0) (1000) (by decide) 2 (by decide) (by decide)
        rw [ew18418] at bw18418
        obtain ⟨w18419, ew18419⟩ : ∃ w : Int32, I18244 (ad g 4) 3 = w := ⟨_, rfl⟩
        have bw18419 := BT_get hI18244.1 4 0 5 (0) (0) (1000) (by decide) 3 (by decide) (by decide)
        rw [ew18419] at bw18419
        obtain ⟨w18420, ew18420⟩ : ∃ w : Int32, I18244 (ad g 4) 4 = w := ⟨_, rfl⟩
        have bw18420 := BT_get hI18244.1 4 0 5 (0) (0) (1000) (by decide) 4 (by decide) (by decide)
        rw [ew18420] at bw18420
        exact WP_iret dX3_faultInParts_73 rfl ⟨⟨hI18244, rfl, ⟨trivial, (by rw [e18246, ew18217] <;> exact (eq32 _ _).mpr (by omega)), (by rw [e18247, ew18218] <;> exact (eq32 _ _).mpr (by omega))⟩⟩, _, rfl, by omega, by omega, by (try rw [e18248]; try rw [ew18417]; try rw [ew18418]; try rw [ew18419]; try rw [ew18420]); omega⟩
    · refine WP_iload dX3_faultInParts_109 rfl ?_
      obtain ⟨w18421, ew18421⟩ : ∃ w : Int32, I18235 (ad g 4) 1 = w := ⟨_, rfl⟩
      have bw18421 := BT_get hI18235.1 4 0 5 (0) (0) (1000) (by decide) 1 (by decide) (by decide)
      rw [ew18421] at bw18421
      obtain ⟨w18422, ew18422⟩ : ∃ w : Int32, I18235 (ad g 4) 2 = w := ⟨_, rfl⟩
      have bw18422 := BT_get hI18235.1 4 0 5 (0) (0) (1000) (by decide) 2 (by decide) (by decide)
      rw [ew18422] at bw18422
      obtain ⟨w18423, ew18423⟩ : ∃ w : Int32, I18235 (ad g 4) 3 = w := ⟨_, rfl⟩
      have bw18423 := BT_get hI18235.1 4 0 5 (0) (0) (1000) (by decide) 3 (by decide) (by decide)
      rw [ew18423] at bw18423
      obtain ⟨w18424, ew18424⟩ : ∃ w : Int32, I18235 (ad g 4) 4 = w := ⟨_, rfl⟩
      have bw18424 := BT_get hI18235.1 4 0 5 (0) (0) (1000) (by decide) 4 (by decide) (by decide)
      rw [ew18424] at bw18424
      exact WP_iret dX3_faultInParts_111 rfl ⟨⟨hI18235, rfl, ⟨trivial, (by rw [e18238, ew18217] <;> exact (eq32 _ _).mpr (by omega)), (by rw [e18239, ew18218] <;> exact (eq32 _ _).mpr (by omega))⟩⟩, _, rfl, by omega, by omega, by (try rw [ew18242]; try rw [ew18421]; try rw [ew18422]; try rw [ew18423]; try rw [ew18424]); omega⟩
  · refine WQ_iconst (1) (1) dX3_faultInParts_72 rfl rfl (fun v18425 hv18425 => ?_)
    obtain ⟨w18426, ew18426⟩ : ∃ w : Int32, I (ad g 4) 0 = w := ⟨_, rfl⟩
    have bw18426 := BT_get hI.1 4 0 5 (0) (0) (1000) (by decide) 0 (by decide) (by decide)
    rw [ew18426] at bw18426
    obtain ⟨w18427, ew18427⟩ : ∃ w : Int32, I (ad g 4) 1 = w := ⟨_, rfl⟩
    have bw18427 := BT_get hI.1 4 0 5 (0) (0) (1000) (by decide) 1 (by decide) (by decide)
    rw [ew18427] at bw18427
    obtain ⟨w18428, ew18428⟩ : ∃ w : Int32, I (ad g 4) 2 = w := ⟨_, rfl⟩
    have bw18428 := BT_get hI.1 4 0 5 (0) (0) (1000) (by decide) 2 (by decide) (by decide)
    rw [ew18428] at bw18428
    obtain ⟨w18429, ew18429⟩ : ∃ w : Int32, I (ad g 4) 3 = w := ⟨_, rfl⟩
    have bw18429 := BT_get hI.1 4 0 5 (0) (0) (1000) (by decide) 3 (by decide) (by decide)
    rw [ew18429] at bw18429
    obtain ⟨w18430, ew18430⟩ : ∃ w : Int32, I (ad g 4) 4 = w := ⟨_, rfl⟩
    have bw18430 := BT_get hI.1 4 0 5 (0) (0) (1000) (by decide) 4 (by decide) (by decide)
    rw [ew18430] at bw18430
    exact WP_iret dX3_faultInParts_73 rfl ⟨⟨hI, rfl, ⟨trivial, rfl, rfl⟩⟩, _, rfl, by omega, by omega, by (try rw [ew18426]; try rw [ew18427]; try rw [ew18428]; try rw [ew18429]; try rw [ew18430]); omega⟩
set_option maxHeartbeats 4000000 in
set_option maxRecDepth 100000 in
theorem sx_parts_27_7 {g : GG} {n : Int} {L : Int32} (hy : LyX g) {aK aV : Nat → Nat} {fo : Option Nat} (hz : HZ g aK aV fo)  {I : pI} {J : pJ} {R : pR} (hr : RfX g R) (hI : XI g n L I) (cz : Int32) (cz_lo : 7 ≤ cz.toInt) (cz_hi : cz.toInt ≤ 7) : SP g mX3_faultInParts [.ref (ad g 3), .int cz, .ref (ad g 27)] I J R (fun r I' J' R' => (XI g n L I' ∧ R' = R ∧ True ∧ I' (ad g 27) 1 = I (ad g 27) 1 ∧ I' (ad g 27) 2 = I (ad g 27) 2) ∧ ∃ v : Int32, r = some (.int v) ∧ 0 ≤ v.toInt ∧ v.toInt ≤ 5 ∧ (v.toInt = 0 → (I' (ad g 4) 0).toInt ≤ 3)) := by
  refine SP_of ⟨by decide, rfl⟩ (Nat.le_of_ble_eq_true rfl) ?_
  have e18431 : I (ad g 1) 1 = L := hI.2
  have b18432 := BT_get hI.1 1 1 2 (0) (0) (900) (by decide) 1 (by decide) (by decide)
  rw [e18431] at b18432
  obtain ⟨w18433, ew18433⟩ : ∃ w : Int32, I (ad g 27) 1 = w := ⟨_, rfl⟩
  have bw18433 := BT_get hI.1 27 1 2 (0) (0) (4) (by decide) 1 (by decide) (by decide)
  rw [ew18433] at bw18433
  obtain ⟨w18434, ew18434⟩ : ∃ w : Int32, I (ad g 27) 2 = w := ⟨_, rfl⟩
  have bw18434 := BT_get hI.1 27 2 3 (0) (0) (3) (by decide) 2 (by decide) (by decide)
  rw [ew18434] at bw18434
  refine WP_iload_n dX3_faultInParts_0 rfl ?_
  refine WP_callS1 dX3_faultInParts_1 ⟨⟨⟨by decide, by decide⟩, zX3_shapeOf⟩, lX3_84, tX3_shapeOf⟩ (sx_shapeOf hy hz hr hI cz (by omega) (by omega)) (Nat.le_of_ble_eq_true rfl) ?_
  intro r Ia Ja Ra hq
  obtain ⟨⟨ea, eb, ec⟩, rfl⟩ := hq
  show WP _ _ _ _ (.ref _ :: _) _ _ _ _
  rw [show 10 + cz.toInt.toNat = 17 by omega]
  rw [ea, eb, ec]
  clear ea eb ec Ia Ja Ra
  refine WP_astore_n (ls' := [(0, _), (1, _), (2, _), (3, _)]) dX3_faultInParts_4 (by decide) rfl ?_
  refine WQ_iconst (0) (0) dX3_faultInParts_5 rfl rfl (fun v18435 hv18435 => ?_)
  refine WP_istore (ls' := [(0, _), (1, _), (2, _), (3, _), (4, _)]) dX3_faultInParts_6 (by decide) rfl ?_
  refine WP_iload dX3_faultInParts_8 rfl ?_
  refine WP_aload_n dX3_faultInParts_10 rfl ?_
  refine WS_call hz (i := 17) (by omega) dX3_faultInParts_11 ⟨⟨by decide, by decide⟩, zJ0_length_8abf5⟩ lX3_87 vJ0_length_8abf5 (As := []) (rest := [.int v18435]) (j_length hz (i := 17) (by omega)) rfl rfl (Nat.le_of_ble_eq_true rfl) ?_
  intro r Ia Ja Ra hq
  obtain ⟨⟨ea, eb, ec⟩, v18436, rfl, cv18436⟩ := hq
  show WP _ _ _ _ (.int _ :: _) _ _ _ _
  rw [ea, eb, ec]
  clear ea eb ec Ia Ja Ra
  have hv18436 : v18436.toInt = 2 := cv18436.trans rfl
  refine WQ_icmp_ge 125 dX3_faultInParts_14 rfl (fun c18436 => False.elim (by omega)) (fun c18436 => ?_)
  refine WP_iload dX3_faultInParts_17 rfl ?_
  refine WQ_iconst (5) (5) dX3_faultInParts_19 rfl rfl (fun v18438 hv18438 => ?_)
  refine WQ_icmp_ge 125 dX3_faultInParts_20 rfl (fun c18438 => False.elim (by omega)) (fun c18438 => ?_)
  refine WP_aload_n dX3_faultInParts_23 rfl ?_
  refine WP_iload dX3_faultInParts_24 rfl ?_
  refine WS_call hz (i := 17) (by omega) dX3_faultInParts_26 ⟨⟨by decide, by decide⟩, zJ0_charAt_5068e⟩ lX3_92 vJ0_charAt_5068e (As := [.int v18435]) (rest := []) (j_charAt hz (i := 17) (k := v18435) (by omega) (by omega) (by have z9 : ((liN.getD 17 0 : Nat) : Int) = 2 := rfl; omega)) rfl rfl (Nat.le_of_ble_eq_true rfl) ?_
  intro r Ia Ja Ra hq
  obtain ⟨⟨ea, eb, ec⟩, v18440, rfl, cv18440⟩ := hq
  show WP _ _ _ _ (.int _ :: _) _ _ _ _
  rw [ea, eb, ec]
  clear ea eb ec Ia Ja Ra
  have hv18440 : v18440.toInt = 115 := cv18440.trans (by rw [show v18435.toInt.toNat = 0 by omega]; rfl)
  refine WP_istore (ls' := [(0, _), (1, _), (2, _), (3, _), (4, _), (5, _)]) dX3_faultInParts_29 (by decide) rfl ?_
  refine WP_iload dX3_faultInParts_31 rfl ?_
  refine WQ_bipush (97) (97) dX3_faultInParts_33 rfl rfl (fun v18441 hv18441 => ?_)
  refine WQ_icmp_lt 49 dX3_faultInParts_35 rfl (fun c18441 => False.elim (by omega)) (fun c18441 => ?_)
  refine WP_iload dX3_faultInParts_38 rfl ?_
  refine WQ_bipush (122) (122) dX3_faultInParts_40 rfl rfl (fun v18443 hv18443 => ?_)
  refine WQ_icmp_gt 49 dX3_faultInParts_42 rfl (fun c18443 => False.elim (by omega)) (fun c18443 => ?_)
  refine WQ_iconst (1) (1) dX3_faultInParts_45 rfl rfl (fun v18445 hv18445 => ?_)
  refine WP_goto 50 dX3_faultInParts_46 rfl ?_
  refine WP_istore (ls' := [(0, _), (1, _), (2, _), (3, _), (4, _), (5, _), (6, _)]) dX3_faultInParts_50 (by decide) rfl ?_
  refine WP_aload_n dX3_faultInParts_52 rfl ?_
  refine WP_getr dX3_faultInParts_53 fX3_15 rfl (lyx_is hy 3 3 rfl) (rfx hr 3 2 1 (by decide)) ?_
  refine WQ_geti dX3_faultInParts_56 fX3_43 rfl (lyx_is hy 1 5 rfl) (BT_get hI.1 1 2 3 (0) (0) (4) (by decide) 2 (by decide) (by decide)) (fun v18446 ev18446 av18446 bv18446 => ?_)
  refine WP_iload dX3_faultInParts_59 rfl ?_
  refine WQ_if_eq 68 dX3_faultInParts_61 rfl (fun c18446 => False.elim (by omega)) (fun c18446 => ?_)
  refine WQ_iconst (1) (1) dX3_faultInParts_64 rfl rfl (fun v18448 hv18448 => ?_)
  refine WP_goto 69 dX3_faultInParts_65 rfl ?_
  refine WQ_icmp_eq 74 dX3_faultInParts_69 rfl (fun c18448 => ?_) (fun c18448 => ?_)
  · refine WP_iload dX3_faultInParts_74 rfl ?_
    refine WQ_if_eq 92 dX3_faultInParts_76 rfl (fun c18449 => False.elim (by omega)) (fun c18449 => ?_)
    refine WP_aload_n dX3_faultInParts_79 rfl ?_
    refine WP_iload dX3_faultInParts_80 rfl ?_
    refine WP_iload_n dX3_faultInParts_82 rfl ?_
    refine WP_iload dX3_faultInParts_83 rfl ?_
    refine WP_aload_n dX3_faultInParts_85 rfl ?_
    refine WP_callV4 (k := 3) dX3_faultInParts_86 ⟨⟨⟨by decide, by decide⟩, zX3_faultOfName⟩, lX3_96, by decide, rfl, vX3_faultOfName.1, vX3_faultOfName.2⟩ (lyx_is hy 3 3 rfl) (sx_part_27_7_0 hy hr hI v18440 cz v18435 (by omega) (by omega) (by omega) (by omega) (by omega) (by omega)) (Nat.le_of_ble_eq_true rfl) ?_
    intro r I18451 J18452 Ra hq
    obtain ⟨⟨hI18451, ec, ⟨pI18451, sI18451_27_1, sI18451_27_2⟩⟩, v18453, rfl, av18453, bv18453, cv18453⟩ := hq
    show WP _ _ _ _ (.int _ :: _) _ _ _ _
    rw [ec]
    clear ec Ra
    have e18454 : I18451 (ad g 27) 1 = w18433 := by rw [sI18451_27_1]; exact ew18433
    have e18455 : I18451 (ad g 27) 2 = w18434 := by rw [sI18451_27_2]; exact ew18434
    have e18456 : I18451 (ad g 1) 1 = L := hI18451.2
    have b18457 := BT_get hI18451.1 1 1 2 (0) (0) (900) (by decide) 1 (by decide) (by decide)
    rw [e18456] at b18457
    obtain ⟨w18458, ew18458⟩ : ∃ w : Int32, I18451 (ad g 4) 0 = w := ⟨_, rfl⟩
    have bw18458 := BT_get hI18451.1 4 0 5 (0) (0) (1000) (by decide) 0 (by decide) (by decide)
    rw [ew18458] at bw18458
    rw [ew18458] at cv18453
    refine WP_goto 102 dX3_faultInParts_89 rfl ?_
    refine WP_istore (ls' := [(0, _), (1, _), (2, _), (3, _), (4, _), (5, _), (6, _), (7, _)]) dX3_faultInParts_102 (by decide) rfl ?_
    refine WP_iload dX3_faultInParts_104 rfl ?_
    refine WQ_if_eq 112 dX3_faultInParts_106 rfl (fun c18458 => ?_) (fun c18458 => ?_)
    · refine WP_aload_n dX3_faultInParts_112 rfl ?_
      refine WP_getr dX3_faultInParts_113 fX3_15 rfl (lyx_is hy 3 3 rfl) (rfx hr 3 2 1 (by decide)) ?_
      refine WP_callV0 (k := 5) dX3_faultInParts_116 ⟨⟨⟨by decide, by decide⟩, zX5_next⟩, lX3_40, by decide, rfl, vX5_next.1, vX5_next.2⟩ (lyx_is hy 1 5 rfl) (sx_nextf hy hr hI18451  ) (Nat.le_of_ble_eq_true rfl) ?_
      intro r I18460 J18461 Ra hq
      obtain ⟨⟨hI18460, ec, fiI18460⟩, rfl⟩ := hq
      rw [ec]
      clear ec Ra
      have e18462 : I18460 (ad g 27) 1 = w18433 := by rw [fz_at fiI18460 27 (by decide) (by decide)]; exact e18454
      have e18463 : I18460 (ad g 27) 2 = w18434 := by rw [fz_at fiI18460 27 (by decide) (by decide)]; exact e18455
      have e18464 : I18460 (ad g 4) 0 = w18458 := by rw [fz_at fiI18460 4 (by decide) (by decide)]; exact ew18458
      have e18465 : I18460 (ad g 1) 1 = L := hI18460.2
      have b18466 := BT_get hI18460.1 1 1 2 (0) (0) (900) (by decide) 1 (by decide) (by decide)
      rw [e18465] at b18466
      refine WP_iinc (ls' := [(0, _), (1, _), (2, _), (3, _), (4, _), (5, _), (6, _), (7, _)]) dX3_faultInParts_119 rfl (by decide) rfl ?_
      have hv18467 : (v18435 + Int32.ofInt (1)).toInt = v18435.toInt + (1) := ia_n rfl (by omega) (by omega)
      generalize v18435 + Int32.ofInt (1) = v18467 at hv18467 ⊢
      refine WP_goto 8 dX3_faultInParts_122 rfl ?_
      refine WP_iload dX3_faultInParts_8 rfl ?_
      refine WP_aload_n dX3_faultInParts_10 rfl ?_
      refine WS_call hz (i := 17) (by omega) dX3_faultInParts_11 ⟨⟨by decide, by decide⟩, zJ0_length_8abf5⟩ lX3_87 vJ0_length_8abf5 (As := []) (rest := [.int v18467]) (j_length hz (i := 17) (by omega)) rfl rfl (Nat.le_of_ble_eq_true rfl) ?_
      intro r Ia Ja Ra hq
      obtain ⟨⟨ea, eb, ec⟩, v18468, rfl, cv18468⟩ := hq
      show WP _ _ _ _ (.int _ :: _) _ _ _ _
      rw [ea, eb, ec]
      clear ea eb ec Ia Ja Ra
      have hv18468 : v18468.toInt = 2 := cv18468.trans rfl
      refine WQ_icmp_ge 125 dX3_faultInParts_14 rfl (fun c18468 => False.elim (by omega)) (fun c18468 => ?_)
      refine WP_iload dX3_faultInParts_17 rfl ?_
      refine WQ_iconst (5) (5) dX3_faultInParts_19 rfl rfl (fun v18470 hv18470 => ?_)
      refine WQ_icmp_ge 125 dX3_faultInParts_20 rfl (fun c18470 => False.elim (by omega)) (fun c18470 => ?_)
      refine WP_aload_n dX3_faultInParts_23 rfl ?_
      refine WP_iload dX3_faultInParts_24 rfl ?_
      refine WS_call hz (i := 17) (by omega) dX3_faultInParts_26 ⟨⟨by decide, by decide⟩, zJ0_charAt_5068e⟩ lX3_92 vJ0_charAt_5068e (As := [.int v18467]) (rest := []) (j_charAt hz (i := 17) (k := v18467) (by omega) (by omega) (by have z9 : ((liN.getD 17 0 : Nat) : Int) = 2 := rfl; omega)) rfl rfl (Nat.le_of_ble_eq_true rfl) ?_
      intro r Ia Ja Ra hq
      obtain ⟨⟨ea, eb, ec⟩, v18472, rfl, cv18472⟩ := hq
      show WP _ _ _ _ (.int _ :: _) _ _ _ _
      rw [ea, eb, ec]
      clear ea eb ec Ia Ja Ra
      have hv18472 : v18472.toInt = 73 := cv18472.trans (by rw [show v18467.toInt.toNat = 1 by omega]; rfl)
      refine WP_istore (ls' := [(0, _), (1, _), (2, _), (3, _), (4, _), (5, _), (6, _), (7, _)]) dX3_faultInParts_29 (by decide) rfl ?_
      refine WP_iload dX3_faultInParts_31 rfl ?_
      refine WQ_bipush (97) (97) dX3_faultInParts_33 rfl rfl (fun v18473 hv18473 => ?_)
      refine WQ_icmp_lt 49 dX3_faultInParts_35 rfl (fun c18473 => ?_) (fun c18473 => False.elim (by omega))
      refine WQ_iconst (0) (0) dX3_faultInParts_49 rfl rfl (fun v18475 hv18475 => ?_)
      refine WP_istore (ls' := [(0, _), (1, _), (2, _), (3, _), (4, _), (5, _), (6, _), (7, _)]) dX3_faultInParts_50 (by decide) rfl ?_
      refine WP_aload_n dX3_faultInParts_52 rfl ?_
      refine WP_getr dX3_faultInParts_53 fX3_15 rfl (lyx_is hy 3 3 rfl) (rfx hr 3 2 1 (by decide)) ?_
      refine WQ_geti dX3_faultInParts_56 fX3_43 rfl (lyx_is hy 1 5 rfl) (BT_get hI18460.1 1 2 3 (0) (0) (4) (by decide) 2 (by decide) (by decide)) (fun v18476 ev18476 av18476 bv18476 => ?_)
      refine WP_iload dX3_faultInParts_59 rfl ?_
      refine WQ_if_eq 68 dX3_faultInParts_61 rfl (fun c18476 => ?_) (fun c18476 => False.elim (by omega))
      refine WQ_iconst (2) (2) dX3_faultInParts_68 rfl rfl (fun v18478 hv18478 => ?_)
      refine WQ_icmp_eq 74 dX3_faultInParts_69 rfl (fun c18478 => ?_) (fun c18478 => ?_)
      · refine WP_iload dX3_faultInParts_74 rfl ?_
        refine WQ_if_eq 92 dX3_faultInParts_76 rfl (fun c18479 => ?_) (fun c18479 => False.elim (by omega))
        refine WP_aload_n dX3_faultInParts_92 rfl ?_
        refine WP_iload dX3_faultInParts_93 rfl ?_
        refine WP_iload_n dX3_faultInParts_95 rfl ?_
        refine WP_iload dX3_faultInParts_96 rfl ?_
        refine WP_aload_n dX3_faultInParts_98 rfl ?_
        refine WP_callV4 (k := 3) dX3_faultInParts_99 ⟨⟨⟨by decide, by decide⟩, zX3_faultOfNumber⟩, lX3_100, by decide, rfl, vX3_faultOfNumber.1, vX3_faultOfNumber.2⟩ (lyx_is hy 3 3 rfl) (sx_part_27_7_1 hy hr hI18460 v18472 cz v18467 (by omega) (by omega) (by omega) (by omega) (by omega) (by omega)) (Nat.le_of_ble_eq_true rfl) ?_
        intro r I18481 J18482 Ra hq
        obtain ⟨⟨hI18481, ec, ⟨pI18481, sI18481_4_0, sI18481_27_1, sI18481_27_2⟩⟩, v18483, rfl, av18483, bv18483, cv18483⟩ := hq
        show WP _ _ _ _ (.int _ :: _) _ _ _ _
        rw [ec]
        clear ec Ra
        have e18484 : I18481 (ad g 4) 0 = w18458 := by rw [sI18481_4_0]; exact e18464
        have e18485 : I18481 (ad g 27) 1 = w18433 := by rw [sI18481_27_1]; exact e18462
        have e18486 : I18481 (ad g 27) 2 = w18434 := by rw [sI18481_27_2]; exact e18463
        have e18487 : I18481 (ad g 1) 1 = L := hI18481.2
        have b18488 := BT_get hI18481.1 1 1 2 (0) (0) (900) (by decide) 1 (by decide) (by decide)
        rw [e18487] at b18488
        obtain ⟨w18489, ew18489⟩ : ∃ w : Int32, I18481 (ad g 4) 1 = w := ⟨_, rfl⟩
        have bw18489 := BT_get hI18481.1 4 0 5 (0) (0) (1000) (by decide) 1 (by decide) (by decide)
        rw [ew18489] at bw18489
        rw [ew18489] at cv18483
        refine WP_istore (ls' := [(0, _), (1, _), (2, _), (3, _), (4, _), (5, _), (6, _), (7, _)]) dX3_faultInParts_102 (by decide) rfl ?_
        refine WP_iload dX3_faultInParts_104 rfl ?_
        refine WQ_if_eq 112 dX3_faultInParts_106 rfl (fun c18489 => ?_) (fun c18489 => ?_)
        · refine WP_aload_n dX3_faultInParts_112 rfl ?_
          refine WP_getr dX3_faultInParts_113 fX3_15 rfl (lyx_is hy 3 3 rfl) (rfx hr 3 2 1 (by decide)) ?_
          refine WP_callV0 (k := 5) dX3_faultInParts_116 ⟨⟨⟨by decide, by decide⟩, zX5_next⟩, lX3_40, by decide, rfl, vX5_next.1, vX5_next.2⟩ (lyx_is hy 1 5 rfl) (sx_nextf hy hr hI18481  ) (Nat.le_of_ble_eq_true rfl) ?_
          intro r I18491 J18492 Ra hq
          obtain ⟨⟨hI18491, ec, fiI18491⟩, rfl⟩ := hq
          rw [ec]
          clear ec Ra
          have e18493 : I18491 (ad g 4) 0 = w18458 := by rw [fz_at fiI18491 4 (by decide) (by decide)]; exact e18484
          have e18494 : I18491 (ad g 27) 1 = w18433 := by rw [fz_at fiI18491 27 (by decide) (by decide)]; exact e18485
          have e18495 : I18491 (ad g 27) 2 = w18434 := by rw [fz_at fiI18491 27 (by decide) (by decide)]; exact e18486
          have e18496 : I18491 (ad g 4) 1 = w18489 := by rw [fz_at fiI18491 4 (by decide) (by decide)]; exact ew18489
          have e18497 : I18491 (ad g 1) 1 = L := hI18491.2
          have b18498 := BT_get hI18491.1 1 1 2 (0) (0) (900) (by decide) 1 (by decide) (by decide)
          rw [e18497] at b18498
          refine WP_iinc (ls' := [(0, _), (1, _), (2, _), (3, _), (4, _), (5, _), (6, _), (7, _)]) dX3_faultInParts_119 rfl (by decide) rfl ?_
          have hv18499 : (v18467 + Int32.ofInt (1)).toInt = v18467.toInt + (1) := ia_n rfl (by omega) (by omega)
          generalize v18467 + Int32.ofInt (1) = v18499 at hv18499 ⊢
          refine WP_goto 8 dX3_faultInParts_122 rfl ?_
          refine WP_iload dX3_faultInParts_8 rfl ?_
          refine WP_aload_n dX3_faultInParts_10 rfl ?_
          refine WS_call hz (i := 17) (by omega) dX3_faultInParts_11 ⟨⟨by decide, by decide⟩, zJ0_length_8abf5⟩ lX3_87 vJ0_length_8abf5 (As := []) (rest := [.int v18499]) (j_length hz (i := 17) (by omega)) rfl rfl (Nat.le_of_ble_eq_true rfl) ?_
          intro r Ia Ja Ra hq
          obtain ⟨⟨ea, eb, ec⟩, v18500, rfl, cv18500⟩ := hq
          show WP _ _ _ _ (.int _ :: _) _ _ _ _
          rw [ea, eb, ec]
          clear ea eb ec Ia Ja Ra
          have hv18500 : v18500.toInt = 2 := cv18500.trans rfl
          refine WQ_icmp_ge 125 dX3_faultInParts_14 rfl (fun c18500 => ?_) (fun c18500 => False.elim (by omega))
          refine WP_aload_n dX3_faultInParts_125 rfl ?_
          refine WP_getr dX3_faultInParts_126 fX3_15 rfl (lyx_is hy 3 3 rfl) (rfx hr 3 2 1 (by decide)) ?_
          refine WQ_geti dX3_faultInParts_129 fX3_43 rfl (lyx_is hy 1 5 rfl) (BT_get hI18491.1 1 2 3 (0) (0) (4) (by decide) 2 (by decide) (by decide)) (fun v18502 ev18502 av18502 bv18502 => ?_)
          refine WQ_iconst (3) (3) dX3_faultInParts_132 rfl rfl (fun v18503 hv18503 => ?_)
          refine WQ_icmp_ne 140 dX3_faultInParts_133 rfl (fun c18503 => ?_) (fun c18503 => ?_)
          · refine WQ_iconst (1) (1) dX3_faultInParts_140 rfl rfl (fun v18505 hv18505 => ?_)
            exact WP_iret dX3_faultInParts_141 rfl ⟨⟨hI18491, rfl, ⟨trivial, (by rw [e18494, ew18433] <;> exact (eq32 _ _).mpr (by omega)), (by rw [e18495, ew18434] <;> exact (eq32 _ _).mpr (by omega))⟩⟩, _, rfl, by omega, by omega, by (try rw [e18493]); omega⟩
          · refine WQ_iconst (0) (0) dX3_faultInParts_136 rfl rfl (fun v18506 hv18506 => ?_)
            refine WP_goto 141 dX3_faultInParts_137 rfl ?_
            exact WP_iret dX3_faultInParts_141 rfl ⟨⟨hI18491, rfl, ⟨trivial, (by rw [e18494, ew18433] <;> exact (eq32 _ _).mpr (by omega)), (by rw [e18495, ew18434] <;> exact (eq32 _ _).mpr (by omega))⟩⟩, _, rfl, by omega, by omega, by (try rw [e18493]); omega⟩
        · refine WP_iload dX3_faultInParts_109 rfl ?_
          exact WP_iret dX3_faultInParts_111 rfl ⟨⟨hI18481, rfl, ⟨trivial, (by rw [e18485, ew18433] <;> exact (eq32 _ _).mpr (by omega)), (by rw [e18486, ew18434] <;> exact (eq32 _ _).mpr (by omega))⟩⟩, _, rfl, by omega, by omega, by (try rw [e18484]); omega⟩
      · refine WQ_iconst (1) (1) dX3_faultInParts_72 rfl rfl (fun v18507 hv18507 => ?_)
        exact WP_iret dX3_faultInParts_73 rfl ⟨⟨hI18460, rfl, ⟨trivial, (by rw [e18462, ew18433] <;> exact (eq32 _ _).mpr (by omega)), (by rw [e18463, ew18434] <;> exact (eq32 _ _).mpr (by omega))⟩⟩, _, rfl, by omega, by omega, by (try rw [e18464]); omega⟩
    · refine WP_iload dX3_faultInParts_109 rfl ?_
      exact WP_iret dX3_faultInParts_111 rfl ⟨⟨hI18451, rfl, ⟨trivial, (by rw [e18454, ew18433] <;> exact (eq32 _ _).mpr (by omega)), (by rw [e18455, ew18434] <;> exact (eq32 _ _).mpr (by omega))⟩⟩, _, rfl, by omega, by omega, by (try rw [ew18458]); omega⟩
  · refine WQ_iconst (1) (1) dX3_faultInParts_72 rfl rfl (fun v18508 hv18508 => ?_)
    obtain ⟨w18509, ew18509⟩ : ∃ w : Int32, I (ad g 4) 0 = w := ⟨_, rfl⟩
    have bw18509 := BT_get hI.1 4 0 5 (0) (0) (1000) (by decide) 0 (by decide) (by decide)
    rw [ew18509] at bw18509
    exact WP_iret dX3_faultInParts_73 rfl ⟨⟨hI, rfl, ⟨trivial, rfl, rfl⟩⟩, _, rfl, by omega, by omega, by (try rw [ew18509]); omega⟩
set_option maxHeartbeats 4000000 in
set_option maxRecDepth 100000 in
theorem sx_parts_27_8 {g : GG} {n : Int} {L : Int32} (hy : LyX g) {aK aV : Nat → Nat} {fo : Option Nat} (hz : HZ g aK aV fo)  {I : pI} {J : pJ} {R : pR} (hr : RfX g R) (hI : XI g n L I) (cz : Int32) (cz_lo : 8 ≤ cz.toInt) (cz_hi : cz.toInt ≤ 8) : SP g mX3_faultInParts [.ref (ad g 3), .int cz, .ref (ad g 27)] I J R (fun r I' J' R' => (XI g n L I' ∧ R' = R ∧ True ∧ I' (ad g 27) 1 = I (ad g 27) 1 ∧ I' (ad g 27) 2 = I (ad g 27) 2) ∧ ∃ v : Int32, r = some (.int v) ∧ 0 ≤ v.toInt ∧ v.toInt ≤ 5 ∧ (v.toInt = 0 → (I' (ad g 4) 0).toInt ≤ 3)) := by
  refine SP_of ⟨by decide, rfl⟩ (Nat.le_of_ble_eq_true rfl) ?_
  have e18510 : I (ad g 1) 1 = L := hI.2
  have b18511 := BT_get hI.1 1 1 2 (0) (0) (900) (by decide) 1 (by decide) (by decide)
  rw [e18510] at b18511
  obtain ⟨w18512, ew18512⟩ : ∃ w : Int32, I (ad g 27) 1 = w := ⟨_, rfl⟩
  have bw18512 := BT_get hI.1 27 1 2 (0) (0) (4) (by decide) 1 (by decide) (by decide)
  rw [ew18512] at bw18512
  obtain ⟨w18513, ew18513⟩ : ∃ w : Int32, I (ad g 27) 2 = w := ⟨_, rfl⟩
  have bw18513 := BT_get hI.1 27 2 3 (0) (0) (3) (by decide) 2 (by decide) (by decide)
  rw [ew18513] at bw18513
  refine WP_iload_n dX3_faultInParts_0 rfl ?_
  refine WP_callS1 dX3_faultInParts_1 ⟨⟨⟨by decide, by decide⟩, zX3_shapeOf⟩, lX3_84, tX3_shapeOf⟩ (sx_shapeOf hy hz hr hI cz (by omega) (by omega)) (Nat.le_of_ble_eq_true rfl) ?_
  intro r Ia Ja Ra hq
  obtain ⟨⟨ea, eb, ec⟩, rfl⟩ := hq
  show WP _ _ _ _ (.ref _ :: _) _ _ _ _
  rw [show 10 + cz.toInt.toNat = 18 by omega]
  rw [ea, eb, ec]
  clear ea eb ec Ia Ja Ra
  refine WP_astore_n (ls' := [(0, _), (1, _), (2, _), (3, _)]) dX3_faultInParts_4 (by decide) rfl ?_
  refine WQ_iconst (0) (0) dX3_faultInParts_5 rfl rfl (fun v18514 hv18514 => ?_)
  refine WP_istore (ls' := [(0, _), (1, _), (2, _), (3, _), (4, _)]) dX3_faultInParts_6 (by decide) rfl ?_
  refine WP_iload dX3_faultInParts_8 rfl ?_
  refine WP_aload_n dX3_faultInParts_10 rfl ?_
  refine WS_call hz (i := 18) (by omega) dX3_faultInParts_11 ⟨⟨by decide, by decide⟩, zJ0_length_8abf5⟩ lX3_87 vJ0_length_8abf5 (As := []) (rest := [.int v18514]) (j_length hz (i := 18) (by omega)) rfl rfl (Nat.le_of_ble_eq_true rfl) ?_
  intro r Ia Ja Ra hq
  obtain ⟨⟨ea, eb, ec⟩, v18515, rfl, cv18515⟩ := hq
  show WP _ _ _ _ (.int _ :: _) _ _ _ _
  rw [ea, eb, ec]
  clear ea eb ec Ia Ja Ra
  have hv18515 : v18515.toInt = 1 := cv18515.trans rfl
  refine WQ_icmp_ge 125 dX3_faultInParts_14 rfl (fun c18515 => False.elim (by omega)) (fun c18515 => ?_)
  refine WP_iload dX3_faultInParts_17 rfl ?_
  refine WQ_iconst (5) (5) dX3_faultInParts_19 rfl rfl (fun v18517 hv18517 => ?_)
  refine WQ_icmp_ge 125 dX3_faultInParts_20 rfl (fun c18517 => False.elim (by omega)) (fun c18517 => ?_)
  refine WP_aload_n dX3_faultInParts_23 rfl ?_
  refine WP_iload dX3_faultInParts_24 rfl ?_
  refine WS_call hz (i := 18) (by omega) dX3_faultInParts_26 ⟨⟨by decide, by decide⟩, zJ0_charAt_5068e⟩ lX3_92 vJ0_charAt_5068e (As := [.int v18514]) (rest := []) (j_charAt hz (i := 18) (k := v18514) (by omega) (by omega) (by have z9 : ((liN.getD 18 0 : Nat) : Int) = 1 := rfl; omega)) rfl rfl (Nat.le_of_ble_eq_true rfl) ?_
  intro r Ia Ja Ra hq
  obtain ⟨⟨ea, eb, ec⟩, v18519, rfl, cv18519⟩ := hq
  show WP _ _ _ _ (.int _ :: _) _ _ _ _
  rw [ea, eb, ec]
  clear ea eb ec Ia Ja Ra
  have hv18519 : v18519.toInt = 115 := cv18519.trans (by rw [show v18514.toInt.toNat = 0 by omega]; rfl)
  refine WP_istore (ls' := [(0, _), (1, _), (2, _), (3, _), (4, _), (5, _)]) dX3_faultInParts_29 (by decide) rfl ?_
  refine WP_iload dX3_faultInParts_31 rfl ?_
  refine WQ_bipush (97) (97) dX3_faultInParts_33 rfl rfl (fun v18520 hv18520 => ?_)
  refine WQ_icmp_lt 49 dX3_faultInParts_35 rfl (fun c18520 => False.elim (by omega)) (fun c18520 => ?_)
  refine WP_iload dX3_faultInParts_38 rfl ?_
  refine WQ_bipush (122) (122) dX3_faultInParts_40 rfl rfl (fun v18522 hv18522 => ?_)
  refine WQ_icmp_gt 49 dX3_faultInParts_42 rfl (fun c18522 => False.elim (by omega)) (fun c18522 => ?_)
  refine WQ_iconst (1) (1) dX3_faultInParts_45 rfl rfl (fun v18524 hv18524 => ?_)
  refine WP_goto 50 dX3_faultInParts_46 rfl ?_
  refine WP_istore (ls' := [(0, _), (1, _), (2, _), (3, _), (4, _), (5, _), (6, _)]) dX3_faultInParts_50 (by decide) rfl ?_
  refine WP_aload_n dX3_faultInParts_52 rfl ?_
  refine WP_getr dX3_faultInParts_53 fX3_15 rfl (lyx_is hy 3 3 rfl) (rfx hr 3 2 1 (by decide)) ?_
  refine WQ_geti dX3_faultInParts_56 fX3_43 rfl (lyx_is hy 1 5 rfl) (BT_get hI.1 1 2 3 (0) (0) (4) (by decide) 2 (by decide) (by decide)) (fun v18525 ev18525 av18525 bv18525 => ?_)
  refine WP_iload dX3_faultInParts_59 rfl ?_
  refine WQ_if_eq 68 dX3_faultInParts_61 rfl (fun c18525 => False.elim (by omega)) (fun c18525 => ?_)
  refine WQ_iconst (1) (1) dX3_faultInParts_64 rfl rfl (fun v18527 hv18527 => ?_)
  refine WP_goto 69 dX3_faultInParts_65 rfl ?_
  refine WQ_icmp_eq 74 dX3_faultInParts_69 rfl (fun c18527 => ?_) (fun c18527 => ?_)
  · refine WP_iload dX3_faultInParts_74 rfl ?_
    refine WQ_if_eq 92 dX3_faultInParts_76 rfl (fun c18528 => False.elim (by omega)) (fun c18528 => ?_)
    refine WP_aload_n dX3_faultInParts_79 rfl ?_
    refine WP_iload dX3_faultInParts_80 rfl ?_
    refine WP_iload_n dX3_faultInParts_82 rfl ?_
    refine WP_iload dX3_faultInParts_83 rfl ?_
    refine WP_aload_n dX3_faultInParts_85 rfl ?_
    refine WP_callV4 (k := 3) dX3_faultInParts_86 ⟨⟨⟨by decide, by decide⟩, zX3_faultOfName⟩, lX3_96, by decide, rfl, vX3_faultOfName.1, vX3_faultOfName.2⟩ (lyx_is hy 3 3 rfl) (sx_part_27_8_0 hy hr hI v18519 cz v18514 (by omega) (by omega) (by omega) (by omega) (by omega) (by omega)) (Nat.le_of_ble_eq_true rfl) ?_
    intro r I18530 J18531 Ra hq
    obtain ⟨⟨hI18530, ec, ⟨pI18530, sI18530_27_1, sI18530_27_2⟩⟩, v18532, rfl, av18532, bv18532, cv18532⟩ := hq
    show WP _ _ _ _ (.int _ :: _) _ _ _ _
    rw [ec]
    clear ec Ra
    have e18533 : I18530 (ad g 27) 1 = w18512 := by rw [sI18530_27_1]; exact ew18512
    have e18534 : I18530 (ad g 27) 2 = w18513 := by rw [sI18530_27_2]; exact ew18513
    have e18535 : I18530 (ad g 1) 1 = L := hI18530.2
    have b18536 := BT_get hI18530.1 1 1 2 (0) (0) (900) (by decide) 1 (by decide) (by decide)
    rw [e18535] at b18536
    obtain ⟨w18537, ew18537⟩ : ∃ w : Int32, I18530 (ad g 4) 0 = w := ⟨_, rfl⟩
    have bw18537 := BT_get hI18530.1 4 0 5 (0) (0) (1000) (by decide) 0 (by decide) (by decide)
    rw [ew18537] at bw18537
    rw [ew18537] at cv18532
    refine WP_goto 102 dX3_faultInParts_89 rfl ?_
    refine WP_istore (ls' := [(0, _), (1, _), (2, _), (3, _), (4, _), (5, _), (6, _), (7, _)]) dX3_faultInParts_102 (by decide) rfl ?_
    refine WP_iload dX3_faultInParts_104 rfl ?_
    refine WQ_if_eq 112 dX3_faultInParts_106 rfl (fun c18537 => ?_) (fun c18537 => ?_)
    · refine WP_aload_n dX3_faultInParts_112 rfl ?_
      refine WP_getr dX3_faultInParts_113 fX3_15 rfl (lyx_is hy 3 3 rfl) (rfx hr 3 2 1 (by decide)) ?_
      refine WP_callV0 (k := 5) dX3_faultInParts_116 ⟨⟨⟨by decide, by decide⟩, zX5_next⟩, lX3_40, by decide, rfl, vX5_next.1, vX5_next.2⟩ (lyx_is hy 1 5 rfl) (sx_nextf hy hr hI18530  ) (Nat.le_of_ble_eq_true rfl) ?_
      intro r I18539 J18540 Ra hq
      obtain ⟨⟨hI18539, ec, fiI18539⟩, rfl⟩ := hq
      rw [ec]
      clear ec Ra
      have e18541 : I18539 (ad g 27) 1 = w18512 := by rw [fz_at fiI18539 27 (by decide) (by decide)]; exact e18533
      have e18542 : I18539 (ad g 27) 2 = w18513 := by rw [fz_at fiI18539 27 (by decide) (by decide)]; exact e18534
      have e18543 : I18539 (ad g 4) 0 = w18537 := by rw [fz_at fiI18539 4 (by decide) (by decide)]; exact ew18537
      have e18544 : I18539 (ad g 1) 1 = L := hI18539.2
      have b18545 := BT_get hI18539.1 1 1 2 (0) (0) (900) (by decide) 1 (by decide) (by decide)
      rw [e18544] at b18545
      refine WP_iinc (ls' := [(0, _), (1, _), (2, _), (3, _), (4, _), (5, _), (6, _), (7, _)]) dX3_faultInParts_119 rfl (by decide) rfl ?_
      have hv18546 : (v18514 + Int32.ofInt (1)).toInt = v18514.toInt + (1) := ia_n rfl (by omega) (by omega)
      generalize v18514 + Int32.ofInt (1) = v18546 at hv18546 ⊢
      refine WP_goto 8 dX3_faultInParts_122 rfl ?_
      refine WP_iload dX3_faultInParts_8 rfl ?_
      refine WP_aload_n dX3_faultInParts_10 rfl ?_
      refine WS_call hz (i := 18) (by omega) dX3_faultInParts_11 ⟨⟨by decide, by decide⟩, zJ0_length_8abf5⟩ lX3_87 vJ0_length_8abf5 (As := []) (rest := [.int v18546]) (j_length hz (i := 18) (by omega)) rfl rfl (Nat.le_of_ble_eq_true rfl) ?_
      intro r Ia Ja Ra hq
      obtain ⟨⟨ea, eb, ec⟩, v18547, rfl, cv18547⟩ := hq
      show WP _ _ _ _ (.int _ :: _) _ _ _ _
      rw [ea, eb, ec]
      clear ea eb ec Ia Ja Ra
      have hv18547 : v18547.toInt = 1 := cv18547.trans rfl
      refine WQ_icmp_ge 125 dX3_faultInParts_14 rfl (fun c18547 => ?_) (fun c18547 => False.elim (by omega))
      refine WP_aload_n dX3_faultInParts_125 rfl ?_
      refine WP_getr dX3_faultInParts_126 fX3_15 rfl (lyx_is hy 3 3 rfl) (rfx hr 3 2 1 (by decide)) ?_
      refine WQ_geti dX3_faultInParts_129 fX3_43 rfl (lyx_is hy 1 5 rfl) (BT_get hI18539.1 1 2 3 (0) (0) (4) (by decide) 2 (by decide) (by decide)) (fun v18549 ev18549 av18549 bv18549 => ?_)
      refine WQ_iconst (3) (3) dX3_faultInParts_132 rfl rfl (fun v18550 hv18550 => ?_)
      refine WQ_icmp_ne 140 dX3_faultInParts_133 rfl (fun c18550 => ?_) (fun c18550 => ?_)
      · refine WQ_iconst (1) (1) dX3_faultInParts_140 rfl rfl (fun v18552 hv18552 => ?_)
        exact WP_iret dX3_faultInParts_141 rfl ⟨⟨hI18539, rfl, ⟨trivial, (by rw [e18541, ew18512] <;> exact (eq32 _ _).mpr (by omega)), (by rw [e18542, ew18513] <;> exact (eq32 _ _).mpr (by omega))⟩⟩, _, rfl, by omega, by omega, by (try rw [e18543]); omega⟩
      · refine WQ_iconst (0) (0) dX3_faultInParts_136 rfl rfl (fun v18553 hv18553 => ?_)
        refine WP_goto 141 dX3_faultInParts_137 rfl ?_
        exact WP_iret dX3_faultInParts_141 rfl ⟨⟨hI18539, rfl, ⟨trivial, (by rw [e18541, ew18512] <;> exact (eq32 _ _).mpr (by omega)), (by rw [e18542, ew18513] <;> exact (eq32 _ _).mpr (by omega))⟩⟩, _, rfl, by omega, by omega, by (try rw [e18543]); omega⟩
    · refine WP_iload dX3_faultInParts_109 rfl ?_
      exact WP_iret dX3_faultInParts_111 rfl ⟨⟨hI18530, rfl, ⟨trivial, (by rw [e18533, ew18512] <;> exact (eq32 _ _).mpr (by omega)), (by rw [e18534, ew18513] <;> exact (eq32 _ _).mpr (by omega))⟩⟩, _, rfl, by omega, by omega, by (try rw [ew18537]); omega⟩
  · refine WQ_iconst (1) (1) dX3_faultInParts_72 rfl rfl (fun v18554 hv18554 => ?_)
    obtain ⟨w18555, ew18555⟩ : ∃ w : Int32, I (ad g 4) 0 = w := ⟨_, rfl⟩
    have bw18555 := BT_get hI.1 4 0 5 (0) (0) (1000) (by decide) 0 (by decide) (by decide)
    rw [ew18555] at bw18555
    exact WP_iret dX3_faultInParts_73 rfl ⟨⟨hI, rfl, ⟨trivial, rfl, rfl⟩⟩, _, rfl, by omega, by omega, by (try rw [ew18555]); omega⟩
set_option maxHeartbeats 4000000 in
set_option maxRecDepth 100000 in
theorem sx_parts_27_9 {g : GG} {n : Int} {L : Int32} (hy : LyX g) {aK aV : Nat → Nat} {fo : Option Nat} (hz : HZ g aK aV fo)  {I : pI} {J : pJ} {R : pR} (hr : RfX g R) (hI : XI g n L I) (cz : Int32) (cz_lo : 9 ≤ cz.toInt) (cz_hi : cz.toInt ≤ 9) : SP g mX3_faultInParts [.ref (ad g 3), .int cz, .ref (ad g 27)] I J R (fun r I' J' R' => (XI g n L I' ∧ R' = R ∧ True ∧ I' (ad g 27) 1 = I (ad g 27) 1 ∧ I' (ad g 27) 2 = I (ad g 27) 2) ∧ ∃ v : Int32, r = some (.int v) ∧ 0 ≤ v.toInt ∧ v.toInt ≤ 5 ∧ (v.toInt = 0 → (I' (ad g 4) 0).toInt ≤ 2)) := by
  refine SP_of ⟨by decide, rfl⟩ (Nat.le_of_ble_eq_true rfl) ?_
  have e18556 : I (ad g 1) 1 = L := hI.2
  have b18557 := BT_get hI.1 1 1 2 (0) (0) (900) (by decide) 1 (by decide) (by decide)
  rw [e18556] at b18557
  obtain ⟨w18558, ew18558⟩ : ∃ w : Int32, I (ad g 27) 1 = w := ⟨_, rfl⟩
  have bw18558 := BT_get hI.1 27 1 2 (0) (0) (4) (by decide) 1 (by decide) (by decide)
  rw [ew18558] at bw18558
  obtain ⟨w18559, ew18559⟩ : ∃ w : Int32, I (ad g 27) 2 = w := ⟨_, rfl⟩
  have bw18559 := BT_get hI.1 27 2 3 (0) (0) (3) (by decide) 2 (by decide) (by decide)
  rw [ew18559] at bw18559
  refine WP_iload_n dX3_faultInParts_0 rfl ?_
  refine WP_callS1 dX3_faultInParts_1 ⟨⟨⟨by decide, by decide⟩, zX3_shapeOf⟩, lX3_84, tX3_shapeOf⟩ (sx_shapeOf hy hz hr hI cz (by omega) (by omega)) (Nat.le_of_ble_eq_true rfl) ?_
  intro r Ia Ja Ra hq
  obtain ⟨⟨ea, eb, ec⟩, rfl⟩ := hq
  show WP _ _ _ _ (.ref _ :: _) _ _ _ _
  rw [show 10 + cz.toInt.toNat = 19 by omega]
  rw [ea, eb, ec]
  clear ea eb ec Ia Ja Ra
  refine WP_astore_n (ls' := [(0, _), (1, _), (2, _), (3, _)]) dX3_faultInParts_4 (by decide) rfl ?_
  refine WQ_iconst (0) (0) dX3_faultInParts_5 rfl rfl (fun v18560 hv18560 => ?_)
  refine WP_istore (ls' := [(0, _), (1, _), (2, _), (3, _), (4, _)]) dX3_faultInParts_6 (by decide) rfl ?_
  refine WP_iload dX3_faultInParts_8 rfl ?_
  refine WP_aload_n dX3_faultInParts_10 rfl ?_
  refine WS_call hz (i := 19) (by omega) dX3_faultInParts_11 ⟨⟨by decide, by decide⟩, zJ0_length_8abf5⟩ lX3_87 vJ0_length_8abf5 (As := []) (rest := [.int v18560]) (j_length hz (i := 19) (by omega)) rfl rfl (Nat.le_of_ble_eq_true rfl) ?_
  intro r Ia Ja Ra hq
  obtain ⟨⟨ea, eb, ec⟩, v18561, rfl, cv18561⟩ := hq
  show WP _ _ _ _ (.int _ :: _) _ _ _ _
  rw [ea, eb, ec]
  clear ea eb ec Ia Ja Ra
  have hv18561 : v18561.toInt = 1 := cv18561.trans rfl
  refine WQ_icmp_ge 125 dX3_faultInParts_14 rfl (fun c18561 => False.elim (by omega)) (fun c18561 => ?_)
  refine WP_iload dX3_faultInParts_17 rfl ?_
  refine WQ_iconst (5) (5) dX3_faultInParts_19 rfl rfl (fun v18563 hv18563 => ?_)
  refine WQ_icmp_ge 125 dX3_faultInParts_20 rfl (fun c18563 => False.elim (by omega)) (fun c18563 => ?_)
  refine WP_aload_n dX3_faultInParts_23 rfl ?_
  refine WP_iload dX3_faultInParts_24 rfl ?_
  refine WS_call hz (i := 19) (by omega) dX3_faultInParts_26 ⟨⟨by decide, by decide⟩, zJ0_charAt_5068e⟩ lX3_92 vJ0_charAt_5068e (As := [.int v18560]) (rest := []) (j_charAt hz (i := 19) (k := v18560) (by omega) (by omega) (by have z9 : ((liN.getD 19 0 : Nat) : Int) = 1 := rfl; omega)) rfl rfl (Nat.le_of_ble_eq_true rfl) ?_
  intro r Ia Ja Ra hq
  obtain ⟨⟨ea, eb, ec⟩, v18565, rfl, cv18565⟩ := hq
  show WP _ _ _ _ (.int _ :: _) _ _ _ _
  rw [ea, eb, ec]
  clear ea eb ec Ia Ja Ra
  have hv18565 : v18565.toInt = 116 := cv18565.trans (by rw [show v18560.toInt.toNat = 0 by omega]; rfl)
  refine WP_istore (ls' := [(0, _), (1, _), (2, _), (3, _), (4, _), (5, _)]) dX3_faultInParts_29 (by decide) rfl ?_
  refine WP_iload dX3_faultInParts_31 rfl ?_
  refine WQ_bipush (97) (97) dX3_faultInParts_33 rfl rfl (fun v18566 hv18566 => ?_)
  refine WQ_icmp_lt 49 dX3_faultInParts_35 rfl (fun c18566 => False.elim (by omega)) (fun c18566 => ?_)
  refine WP_iload dX3_faultInParts_38 rfl ?_
  refine WQ_bipush (122) (122) dX3_faultInParts_40 rfl rfl (fun v18568 hv18568 => ?_)
  refine WQ_icmp_gt 49 dX3_faultInParts_42 rfl (fun c18568 => False.elim (by omega)) (fun c18568 => ?_)
  refine WQ_iconst (1) (1) dX3_faultInParts_45 rfl rfl (fun v18570 hv18570 => ?_)
  refine WP_goto 50 dX3_faultInParts_46 rfl ?_
  refine WP_istore (ls' := [(0, _), (1, _), (2, _), (3, _), (4, _), (5, _), (6, _)]) dX3_faultInParts_50 (by decide) rfl ?_
  refine WP_aload_n dX3_faultInParts_52 rfl ?_
  refine WP_getr dX3_faultInParts_53 fX3_15 rfl (lyx_is hy 3 3 rfl) (rfx hr 3 2 1 (by decide)) ?_
  refine WQ_geti dX3_faultInParts_56 fX3_43 rfl (lyx_is hy 1 5 rfl) (BT_get hI.1 1 2 3 (0) (0) (4) (by decide) 2 (by decide) (by decide)) (fun v18571 ev18571 av18571 bv18571 => ?_)
  refine WP_iload dX3_faultInParts_59 rfl ?_
  refine WQ_if_eq 68 dX3_faultInParts_61 rfl (fun c18571 => False.elim (by omega)) (fun c18571 => ?_)
  refine WQ_iconst (1) (1) dX3_faultInParts_64 rfl rfl (fun v18573 hv18573 => ?_)
  refine WP_goto 69 dX3_faultInParts_65 rfl ?_
  refine WQ_icmp_eq 74 dX3_faultInParts_69 rfl (fun c18573 => ?_) (fun c18573 => ?_)
  · refine WP_iload dX3_faultInParts_74 rfl ?_
    refine WQ_if_eq 92 dX3_faultInParts_76 rfl (fun c18574 => False.elim (by omega)) (fun c18574 => ?_)
    refine WP_aload_n dX3_faultInParts_79 rfl ?_
    refine WP_iload dX3_faultInParts_80 rfl ?_
    refine WP_iload_n dX3_faultInParts_82 rfl ?_
    refine WP_iload dX3_faultInParts_83 rfl ?_
    refine WP_aload_n dX3_faultInParts_85 rfl ?_
    refine WP_callV4 (k := 3) dX3_faultInParts_86 ⟨⟨⟨by decide, by decide⟩, zX3_faultOfName⟩, lX3_96, by decide, rfl, vX3_faultOfName.1, vX3_faultOfName.2⟩ (lyx_is hy 3 3 rfl) (sx_part_27_9_0 hy hr hI v18565 cz v18560 (by omega) (by omega) (by omega) (by omega) (by omega) (by omega)) (Nat.le_of_ble_eq_true rfl) ?_
    intro r I18576 J18577 Ra hq
    obtain ⟨⟨hI18576, ec, ⟨pI18576, sI18576_27_1, sI18576_27_2⟩⟩, v18578, rfl, av18578, bv18578, cv18578⟩ := hq
    show WP _ _ _ _ (.int _ :: _) _ _ _ _
    rw [ec]
    clear ec Ra
    have e18579 : I18576 (ad g 27) 1 = w18558 := by rw [sI18576_27_1]; exact ew18558
    have e18580 : I18576 (ad g 27) 2 = w18559 := by rw [sI18576_27_2]; exact ew18559
    have e18581 : I18576 (ad g 1) 1 = L := hI18576.2
    have b18582 := BT_get hI18576.1 1 1 2 (0) (0) (900) (by decide) 1 (by decide) (by decide)
    rw [e18581] at b18582
    obtain ⟨w18583, ew18583⟩ : ∃ w : Int32, I18576 (ad g 4) 0 = w := ⟨_, rfl⟩
    have bw18583 := BT_get hI18576.1 4 0 5 (0) (0) (1000) (by decide) 0 (by decide) (by decide)
    rw [ew18583] at bw18583
    rw [ew18583] at cv18578
    refine WP_goto 102 dX3_faultInParts_89 rfl ?_
    refine WP_istore (ls' := [(0, _), (1, _), (2, _), (3, _), (4, _), (5, _), (6, _), (7, _)]) dX3_faultInParts_102 (by decide) rfl ?_
    refine WP_iload dX3_faultInParts_104 rfl ?_
    refine WQ_if_eq 112 dX3_faultInParts_106 rfl (fun c18583 => ?_) (fun c18583 => ?_)
    · refine WP_aload_n dX3_faultInParts_112 rfl ?_
      refine WP_getr dX3_faultInParts_113 fX3_15 rfl (lyx_is hy 3 3 rfl) (rfx hr 3 2 1 (by decide)) ?_
      refine WP_callV0 (k := 5) dX3_faultInParts_116 ⟨⟨⟨by decide, by decide⟩, zX5_next⟩, lX3_40, by decide, rfl, vX5_next.1, vX5_next.2⟩ (lyx_is hy 1 5 rfl) (sx_nextf hy hr hI18576  ) (Nat.le_of_ble_eq_true rfl) ?_
      intro r I18585 J18586 Ra hq
      obtain ⟨⟨hI18585, ec, fiI18585⟩, rfl⟩ := hq
      rw [ec]
      clear ec Ra
      have e18587 : I18585 (ad g 27) 1 = w18558 := by rw [fz_at fiI18585 27 (by decide) (by decide)]; exact e18579
      have e18588 : I18585 (ad g 27) 2 = w18559 := by rw [fz_at fiI18585 27 (by decide) (by decide)]; exact e18580
      have e18589 : I18585 (ad g 4) 0 = w18583 := by rw [fz_at fiI18585 4 (by decide) (by decide)]; exact ew18583
      have e18590 : I18585 (ad g 1) 1 = L := hI18585.2
      have b18591 := BT_get hI18585.1 1 1 2 (0) (0) (900) (by decide) 1 (by decide) (by decide)
      rw [e18590] at b18591
      refine WP_iinc (ls' := [(0, _), (1, _), (2, _), (3, _), (4, _), (5, _), (6, _), (7, _)]) dX3_faultInParts_119 rfl (by decide) rfl ?_
      have hv18592 : (v18560 + Int32.ofInt (1)).toInt = v18560.toInt + (1) := ia_n rfl (by omega) (by omega)
      generalize v18560 + Int32.ofInt (1) = v18592 at hv18592 ⊢
      refine WP_goto 8 dX3_faultInParts_122 rfl ?_
      refine WP_iload dX3_faultInParts_8 rfl ?_
      refine WP_aload_n dX3_faultInParts_10 rfl ?_
      refine WS_call hz (i := 19) (by omega) dX3_faultInParts_11 ⟨⟨by decide, by decide⟩, zJ0_length_8abf5⟩ lX3_87 vJ0_length_8abf5 (As := []) (rest := [.int v18592]) (j_length hz (i := 19) (by omega)) rfl rfl (Nat.le_of_ble_eq_true rfl) ?_
      intro r Ia Ja Ra hq
      obtain ⟨⟨ea, eb, ec⟩, v18593, rfl, cv18593⟩ := hq
      show WP _ _ _ _ (.int _ :: _) _ _ _ _
      rw [ea, eb, ec]
      clear ea eb ec Ia Ja Ra
      have hv18593 : v18593.toInt = 1 := cv18593.trans rfl
      refine WQ_icmp_ge 125 dX3_faultInParts_14 rfl (fun c18593 => ?_) (fun c18593 => False.elim (by omega))
      refine WP_aload_n dX3_faultInParts_125 rfl ?_
      refine WP_getr dX3_faultInParts_126 fX3_15 rfl (lyx_is hy 3 3 rfl) (rfx hr 3 2 1 (by decide)) ?_
      refine WQ_geti dX3_faultInParts_129 fX3_43 rfl (lyx_is hy 1 5 rfl) (BT_get hI18585.1 1 2 3 (0) (0) (4) (by decide) 2 (by decide) (by decide)) (fun v18595 ev18595 av18595 bv18595 => ?_)
      refine WQ_iconst (3) (3) dX3_faultInParts_132 rfl rfl (fun v18596 hv18596 => ?_)
      refine WQ_icmp_ne 140 dX3_faultInParts_133 rfl (fun c18596 => ?_) (fun c18596 => ?_)
      · refine WQ_iconst (1) (1) dX3_faultInParts_140 rfl rfl (fun v18598 hv18598 => ?_)
        exact WP_iret dX3_faultInParts_141 rfl ⟨⟨hI18585, rfl, ⟨trivial, (by rw [e18587, ew18558] <;> exact (eq32 _ _).mpr (by omega)), (by rw [e18588, ew18559] <;> exact (eq32 _ _).mpr (by omega))⟩⟩, _, rfl, by omega, by omega, by (try rw [e18589]); omega⟩
      · refine WQ_iconst (0) (0) dX3_faultInParts_136 rfl rfl (fun v18599 hv18599 => ?_)
        refine WP_goto 141 dX3_faultInParts_137 rfl ?_
        exact WP_iret dX3_faultInParts_141 rfl ⟨⟨hI18585, rfl, ⟨trivial, (by rw [e18587, ew18558] <;> exact (eq32 _ _).mpr (by omega)), (by rw [e18588, ew18559] <;> exact (eq32 _ _).mpr (by omega))⟩⟩, _, rfl, by omega, by omega, by (try rw [e18589]); omega⟩
    · refine WP_iload dX3_faultInParts_109 rfl ?_
      exact WP_iret dX3_faultInParts_111 rfl ⟨⟨hI18576, rfl, ⟨trivial, (by rw [e18579, ew18558] <;> exact (eq32 _ _).mpr (by omega)), (by rw [e18580, ew18559] <;> exact (eq32 _ _).mpr (by omega))⟩⟩, _, rfl, by omega, by omega, by (try rw [ew18583]); omega⟩
  · refine WQ_iconst (1) (1) dX3_faultInParts_72 rfl rfl (fun v18600 hv18600 => ?_)
    obtain ⟨w18601, ew18601⟩ : ∃ w : Int32, I (ad g 4) 0 = w := ⟨_, rfl⟩
    have bw18601 := BT_get hI.1 4 0 5 (0) (0) (1000) (by decide) 0 (by decide) (by decide)
    rw [ew18601] at bw18601
    exact WP_iret dX3_faultInParts_73 rfl ⟨⟨hI, rfl, ⟨trivial, rfl, rfl⟩⟩, _, rfl, by omega, by omega, by (try rw [ew18601]); omega⟩
set_option maxHeartbeats 4000000 in
set_option maxRecDepth 100000 in
theorem sx_parts_27_10 {g : GG} {n : Int} {L : Int32} (hy : LyX g) {aK aV : Nat → Nat} {fo : Option Nat} (hz : HZ g aK aV fo)  {I : pI} {J : pJ} {R : pR} (hr : RfX g R) (hI : XI g n L I) (cz : Int32) (cz_lo : 10 ≤ cz.toInt) (cz_hi : cz.toInt ≤ 10) : SP g mX3_faultInParts [.ref (ad g 3), .int cz, .ref (ad g 27)] I J R (fun r I' J' R' => (XI g n L I' ∧ R' = R ∧ True ∧ I' (ad g 27) 1 = I (ad g 27) 1 ∧ I' (ad g 27) 2 = I (ad g 27) 2) ∧ ∃ v : Int32, r = some (.int v) ∧ 0 ≤ v.toInt ∧ v.toInt ≤ 5 ∧ (v.toInt = 0 → (I' (ad g 4) 0).toInt ≤ 3 ∧ (I' (ad g 4) 1).toInt ≤ 2 ∧ (I' (ad g 4) 2).toInt ≤ 6 ∧ (I' (ad g 4) 3).toInt ≤ 3 ∧ (I' (ad g 4) 4).toInt ≤ 99)) := by
  refine SP_of ⟨by decide, rfl⟩ (Nat.le_of_ble_eq_true rfl) ?_
  have e18602 : I (ad g 1) 1 = L := hI.2
  have b18603 := BT_get hI.1 1 1 2 (0) (0) (900) (by decide) 1 (by decide) (by decide)
  rw [e18602] at b18603
  obtain ⟨w18604, ew18604⟩ : ∃ w : Int32, I (ad g 27) 1 = w := ⟨_, rfl⟩
  have bw18604 := BT_get hI.1 27 1 2 (0) (0) (4) (by decide) 1 (by decide) (by decide)
  rw [ew18604] at bw18604
  obtain ⟨w18605, ew18605⟩ : ∃ w : Int32, I (ad g 27) 2 = w := ⟨_, rfl⟩
  have bw18605 := BT_get hI.1 27 2 3 (0) (0) (3) (by decide) 2 (by decide) (by decide)
  rw [ew18605] at bw18605
  refine WP_iload_n dX3_faultInParts_0 rfl ?_
  refine WP_callS1 dX3_faultInParts_1 ⟨⟨⟨by decide, by decide⟩, zX3_shapeOf⟩, lX3_84, tX3_shapeOf⟩ (sx_shapeOf hy hz hr hI cz (by omega) (by omega)) (Nat.le_of_ble_eq_true rfl) ?_
  intro r Ia Ja Ra hq
  obtain ⟨⟨ea, eb, ec⟩, rfl⟩ := hq
  show WP _ _ _ _ (.ref _ :: _) _ _ _ _
  rw [show 10 + cz.toInt.toNat = 20 by omega]
  rw [ea, eb, ec]
  clear ea eb ec Ia Ja Ra
  refine WP_astore_n (ls' := [(0, _), (1, _), (2, _), (3, _)]) dX3_faultInParts_4 (by decide) rfl ?_
  refine WQ_iconst (0) (0) dX3_faultInParts_5 rfl rfl (fun v18606 hv18606 => ?_)
  refine WP_istore (ls' := [(0, _), (1, _), (2, _), (3, _), (4, _)]) dX3_faultInParts_6 (by decide) rfl ?_
  refine WP_iload dX3_faultInParts_8 rfl ?_
  refine WP_aload_n dX3_faultInParts_10 rfl ?_
  refine WS_call hz (i := 20) (by omega) dX3_faultInParts_11 ⟨⟨by decide, by decide⟩, zJ0_length_8abf5⟩ lX3_87 vJ0_length_8abf5 (As := []) (rest := [.int v18606]) (j_length hz (i := 20) (by omega)) rfl rfl (Nat.le_of_ble_eq_true rfl) ?_
  intro r Ia Ja Ra hq
  obtain ⟨⟨ea, eb, ec⟩, v18607, rfl, cv18607⟩ := hq
  show WP _ _ _ _ (.int _ :: _) _ _ _ _
  rw [ea, eb, ec]
  clear ea eb ec Ia Ja Ra
  have hv18607 : v18607.toInt = 5 := cv18607.trans rfl
  refine WQ_icmp_ge 125 dX3_faultInParts_14 rfl (fun c18607 => False.elim (by omega)) (fun c18607 => ?_)
  refine WP_iload dX3_faultInParts_17 rfl ?_
  refine WQ_iconst (5) (5) dX3_faultInParts_19 rfl rfl (fun v18609 hv18609 => ?_)
  refine WQ_icmp_ge 125 dX3_faultInParts_20 rfl (fun c18609 => False.elim (by omega)) (fun c18609 => ?_)
  refine WP_aload_n dX3_faultInParts_23 rfl ?_
  refine WP_iload dX3_faultInParts_24 rfl ?_
  refine WS_call hz (i := 20) (by omega) dX3_faultInParts_26 ⟨⟨by decide, by decide⟩, zJ0_charAt_5068e⟩ lX3_92 vJ0_charAt_5068e (As := [.int v18606]) (rest := []) (j_charAt hz (i := 20) (k := v18606) (by omega) (by omega) (by have z9 : ((liN.getD 20 0 : Nat) : Int) = 5 := rfl; omega)) rfl rfl (Nat.le_of_ble_eq_true rfl) ?_
  intro r Ia Ja Ra hq
  obtain ⟨⟨ea, eb, ec⟩, v18611, rfl, cv18611⟩ := hq
  show WP _ _ _ _ (.int _ :: _) _ _ _ _
  rw [ea, eb, ec]
  clear ea eb ec Ia Ja Ra
  have hv18611 : v18611.toInt = 115 := cv18611.trans (by rw [show v18606.toInt.toNat = 0 by omega]; rfl)
  refine WP_istore (ls' := [(0, _), (1, _), (2, _), (3, _), (4, _), (5, _)]) dX3_faultInParts_29 (by decide) rfl ?_
  refine WP_iload dX3_faultInParts_31 rfl ?_
  refine WQ_bipush (97) (97) dX3_faultInParts_33 rfl rfl (fun v18612 hv18612 => ?_)
  refine WQ_icmp_lt 49 dX3_faultInParts_35 rfl (fun c18612 => False.elim (by omega)) (fun c18612 => ?_)
  refine WP_iload dX3_faultInParts_38 rfl ?_
  refine WQ_bipush (122) (122) dX3_faultInParts_40 rfl rfl (fun v18614 hv18614 => ?_)
  refine WQ_icmp_gt 49 dX3_faultInParts_42 rfl (fun c18614 => False.elim (by omega)) (fun c18614 => ?_)
  refine WQ_iconst (1) (1) dX3_faultInParts_45 rfl rfl (fun v18616 hv18616 => ?_)
  refine WP_goto 50 dX3_faultInParts_46 rfl ?_
  refine WP_istore (ls' := [(0, _), (1, _), (2, _), (3, _), (4, _), (5, _), (6, _)]) dX3_faultInParts_50 (by decide) rfl ?_
  refine WP_aload_n dX3_faultInParts_52 rfl ?_
  refine WP_getr dX3_faultInParts_53 fX3_15 rfl (lyx_is hy 3 3 rfl) (rfx hr 3 2 1 (by decide)) ?_
  refine WQ_geti dX3_faultInParts_56 fX3_43 rfl (lyx_is hy 1 5 rfl) (BT_get hI.1 1 2 3 (0) (0) (4) (by decide) 2 (by decide) (by decide)) (fun v18617 ev18617 av18617 bv18617 => ?_)
  refine WP_iload dX3_faultInParts_59 rfl ?_
  refine WQ_if_eq 68 dX3_faultInParts_61 rfl (fun c18617 => False.elim (by omega)) (fun c18617 => ?_)
  refine WQ_iconst (1) (1) dX3_faultInParts_64 rfl rfl (fun v18619 hv18619 => ?_)
  refine WP_goto 69 dX3_faultInParts_65 rfl ?_
  refine WQ_icmp_eq 74 dX3_faultInParts_69 rfl (fun c18619 => ?_) (fun c18619 => ?_)
  · refine WP_iload dX3_faultInParts_74 rfl ?_
    refine WQ_if_eq 92 dX3_faultInParts_76 rfl (fun c18620 => False.elim (by omega)) (fun c18620 => ?_)
    refine WP_aload_n dX3_faultInParts_79 rfl ?_
    refine WP_iload dX3_faultInParts_80 rfl ?_
    refine WP_iload_n dX3_faultInParts_82 rfl ?_
    refine WP_iload dX3_faultInParts_83 rfl ?_
    refine WP_aload_n dX3_faultInParts_85 rfl ?_
    refine WP_callV4 (k := 3) dX3_faultInParts_86 ⟨⟨⟨by decide, by decide⟩, zX3_faultOfName⟩, lX3_96, by decide, rfl, vX3_faultOfName.1, vX3_faultOfName.2⟩ (lyx_is hy 3 3 rfl) (sx_part_27_10_0 hy hr hI v18611 cz v18606 (by omega) (by omega) (by omega) (by omega) (by omega) (by omega)) (Nat.le_of_ble_eq_true rfl) ?_
    intro r I18622 J18623 Ra hq
    obtain ⟨⟨hI18622, ec, ⟨pI18622, sI18622_27_1, sI18622_27_2⟩⟩, v18624, rfl, av18624, bv18624, cv18624⟩ := hq
    show WP _ _ _ _ (.int _ :: _) _ _ _ _
    rw [ec]
    clear ec Ra
    have e18625 : I18622 (ad g 27) 1 = w18604 := by rw [sI18622_27_1]; exact ew18604
    have e18626 : I18622 (ad g 27) 2 = w18605 := by rw [sI18622_27_2]; exact ew18605
    have e18627 : I18622 (ad g 1) 1 = L := hI18622.2
    have b18628 := BT_get hI18622.1 1 1 2 (0) (0) (900) (by decide) 1 (by decide) (by decide)
    rw [e18627] at b18628
    obtain ⟨w18629, ew18629⟩ : ∃ w : Int32, I18622 (ad g 4) 0 = w := ⟨_, rfl⟩
    have bw18629 := BT_get hI18622.1 4 0 5 (0) (0) (1000) (by decide) 0 (by decide) (by decide)
    rw [ew18629] at bw18629
    rw [ew18629] at cv18624
    refine WP_goto 102 dX3_faultInParts_89 rfl ?_
    refine WP_istore (ls' := [(0, _), (1, _), (2, _), (3, _), (4, _), (5, _), (6, _), (7, _)]) dX3_faultInParts_102 (by decide) rfl ?_
    refine WP_iload dX3_faultInParts_104 rfl ?_
    refine WQ_if_eq 112 dX3_faultInParts_106 rfl (fun c18629 => ?_) (fun c18629 => ?_)
    · refine WP_aload_n dX3_faultInParts_112 rfl ?_
      refine WP_getr dX3_faultInParts_113 fX3_15 rfl (lyx_is hy 3 3 rfl) (rfx hr 3 2 1 (by decide)) ?_
      refine WP_callV0 (k := 5) dX3_faultInParts_116 ⟨⟨⟨by decide, by decide⟩, zX5_next⟩, lX3_40, by decide, rfl, vX5_next.1, vX5_next.2⟩ (lyx_is hy 1 5 rfl) (sx_nextf hy hr hI18622  ) (Nat.le_of_ble_eq_true rfl) ?_
      intro r I18631 J18632 Ra hq
      obtain ⟨⟨hI18631, ec, fiI18631⟩, rfl⟩ := hq
      rw [ec]
      clear ec Ra
      have e18633 : I18631 (ad g 27) 1 = w18604 := by rw [fz_at fiI18631 27 (by decide) (by decide)]; exact e18625
      have e18634 : I18631 (ad g 27) 2 = w18605 := by rw [fz_at fiI18631 27 (by decide) (by decide)]; exact e18626
      have e18635 : I18631 (ad g 4) 0 = w18629 := by rw [fz_at fiI18631 4 (by decide) (by decide)]; exact ew18629
      have e18636 : I18631 (ad g 1) 1 = L := hI18631.2
      have b18637 := BT_get hI18631.1 1 1 2 (0) (0) (900) (by decide) 1 (by decide) (by decide)
      rw [e18636] at b18637
      refine WP_iinc (ls' := [(0, _), (1, _), (2, _), (3, _), (4, _), (5, _), (6, _), (7, _)]) dX3_faultInParts_119 rfl (by decide) rfl ?_
      have hv18638 : (v18606 + Int32.ofInt (1)).toInt = v18606.toInt + (1) := ia_n rfl (by omega) (by omega)
      generalize v18606 + Int32.ofInt (1) = v18638 at hv18638 ⊢
      refine WP_goto 8 dX3_faultInParts_122 rfl ?_
      refine WP_iload dX3_faultInParts_8 rfl ?_
      refine WP_aload_n dX3_faultInParts_10 rfl ?_
      refine WS_call hz (i := 20) (by omega) dX3_faultInParts_11 ⟨⟨by decide, by decide⟩, zJ0_length_8abf5⟩ lX3_87 vJ0_length_8abf5 (As := []) (rest := [.int v18638]) (j_length hz (i := 20) (by omega)) rfl rfl (Nat.le_of_ble_eq_true rfl) ?_
      intro r Ia Ja Ra hq
      obtain ⟨⟨ea, eb, ec⟩, v18639, rfl, cv18639⟩ := hq
      show WP _ _ _ _ (.int _ :: _) _ _ _ _
      rw [ea, eb, ec]
      clear ea eb ec Ia Ja Ra
      have hv18639 : v18639.toInt = 5 := cv18639.trans rfl
      refine WQ_icmp_ge 125 dX3_faultInParts_14 rfl (fun c18639 => False.elim (by omega)) (fun c18639 => ?_)
      refine WP_iload dX3_faultInParts_17 rfl ?_
      refine WQ_iconst (5) (5) dX3_faultInParts_19 rfl rfl (fun v18641 hv18641 => ?_)
      refine WQ_icmp_ge 125 dX3_faultInParts_20 rfl (fun c18641 => False.elim (by omega)) (fun c18641 => ?_)
      refine WP_aload_n dX3_faultInParts_23 rfl ?_
      refine WP_iload dX3_faultInParts_24 rfl ?_
      refine WS_call hz (i := 20) (by omega) dX3_faultInParts_26 ⟨⟨by decide, by decide⟩, zJ0_charAt_5068e⟩ lX3_92 vJ0_charAt_5068e (As := [.int v18638]) (rest := []) (j_charAt hz (i := 20) (k := v18638) (by omega) (by omega) (by have z9 : ((liN.getD 20 0 : Nat) : Int) = 5 := rfl; omega)) rfl rfl (Nat.le_of_ble_eq_true rfl) ?_
      intro r Ia Ja Ra hq
      obtain ⟨⟨ea, eb, ec⟩, v18643, rfl, cv18643⟩ := hq
      show WP _ _ _ _ (.int _ :: _) _ _ _ _
      rw [ea, eb, ec]
      clear ea eb ec Ia Ja Ra
      have hv18643 : v18643.toInt = 116 := cv18643.trans (by rw [show v18638.toInt.toNat = 1 by omega]; rfl)
      refine WP_istore (ls' := [(0, _), (1, _), (2, _), (3, _), (4, _), (5, _), (6, _), (7, _)]) dX3_faultInParts_29 (by decide) rfl ?_
      refine WP_iload dX3_faultInParts_31 rfl ?_
      refine WQ_bipush (97) (97) dX3_faultInParts_33 rfl rfl (fun v18644 hv18644 => ?_)
      refine WQ_icmp_lt 49 dX3_faultInParts_35 rfl (fun c18644 => False.elim (by omega)) (fun c18644 => ?_)
      refine WP_iload dX3_faultInParts_38 rfl ?_
      refine WQ_bipush (122) (122) dX3_faultInParts_40 rfl rfl (fun v18646 hv18646 => ?_)
      refine WQ_icmp_gt 49 dX3_faultInParts_42 rfl (fun c18646 => False.elim (by omega)) (fun c18646 => ?_)
      refine WQ_iconst (1) (1) dX3_faultInParts_45 rfl rfl (fun v18648 hv18648 => ?_)
      refine WP_goto 50 dX3_faultInParts_46 rfl ?_
      refine WP_istore (ls' := [(0, _), (1, _), (2, _), (3, _), (4, _), (5, _), (6, _), (7, _)]) dX3_faultInParts_50 (by decide) rfl ?_
      refine WP_aload_n dX3_faultInParts_52 rfl ?_
      refine WP_getr dX3_faultInParts_53 fX3_15 rfl (lyx_is hy 3 3 rfl) (rfx hr 3 2 1 (by decide)) ?_
      refine WQ_geti dX3_faultInParts_56 fX3_43 rfl (lyx_is hy 1 5 rfl) (BT_get hI18631.1 1 2 3 (0) (0) (4) (by decide) 2 (by decide) (by decide)) (fun v18649 ev18649 av18649 bv18649 => ?_)
      refine WP_iload dX3_faultInParts_59 rfl ?_
      refine WQ_if_eq 68 dX3_faultInParts_61 rfl (fun c18649 => False.elim (by omega)) (fun c18649 => ?_)
      refine WQ_iconst (1) (1) dX3_faultInParts_64 rfl rfl (fun v18651 hv18651 => ?_)
      refine WP_goto 69 dX3_faultInParts_65 rfl ?_
      refine WQ_icmp_eq 74 dX3_faultInParts_69 rfl (fun c18651 => ?_) (fun c18651 => ?_)
      · refine WP_iload dX3_faultInParts_74 rfl ?_
        refine WQ_if_eq 92 dX3_faultInParts_76 rfl (fun c18652 => False.elim (by omega)) (fun c18652 => ?_)
        refine WP_aload_n dX3_faultInParts_79 rfl ?_
        refine WP_iload dX3_faultInParts_80 rfl ?_
        refine WP_iload_n dX3_faultInParts_82 rfl ?_
        refine WP_iload dX3_faultInParts_83 rfl ?_
        refine WP_aload_n dX3_faultInParts_85 rfl ?_
        refine WP_callV4 (k := 3) dX3_faultInParts_86 ⟨⟨⟨by decide, by decide⟩, zX3_faultOfName⟩, lX3_96, by decide, rfl, vX3_faultOfName.1, vX3_faultOfName.2⟩ (lyx_is hy 3 3 rfl) (sx_part_27_10_1 hy hr hI18631 v18643 cz v18638 (by omega) (by omega) (by omega) (by omega) (by omega) (by omega)) (Nat.le_of_ble_eq_true rfl) ?_
        intro r I18654 J18655 Ra hq
        obtain ⟨⟨hI18654, ec, ⟨pI18654, sI18654_4_0, sI18654_27_1, sI18654_27_2⟩⟩, v18656, rfl, av18656, bv18656, cv18656⟩ := hq
        show WP _ _ _ _ (.int _ :: _) _ _ _ _
        rw [ec]
        clear ec Ra
        have e18657 : I18654 (ad g 4) 0 = w18629 := by rw [sI18654_4_0]; exact e18635
        have e18658 : I18654 (ad g 27) 1 = w18604 := by rw [sI18654_27_1]; exact e18633
        have e18659 : I18654 (ad g 27) 2 = w18605 := by rw [sI18654_27_2]; exact e18634
        have e18660 : I18654 (ad g 1) 1 = L := hI18654.2
        have b18661 := BT_get hI18654.1 1 1 2 (0) (0) (900) (by decide) 1 (by decide) (by decide)
        rw [e18660] at b18661
        obtain ⟨w18662, ew18662⟩ : ∃ w : Int32, I18654 (ad g 4) 1 = w := ⟨_, rfl⟩
        have bw18662 := BT_get hI18654.1 4 0 5 (0) (0) (1000) (by decide) 1 (by decide) (by decide)
        rw [ew18662] at bw18662
        rw [ew18662] at cv18656
        refine WP_goto 102 dX3_faultInParts_89 rfl ?_
        refine WP_istore (ls' := [(0, _), (1, _), (2, _), (3, _), (4, _), (5, _), (6, _), (7, _)]) dX3_faultInParts_102 (by decide) rfl ?_
        refine WP_iload dX3_faultInParts_104 rfl ?_
        refine WQ_if_eq 112 dX3_faultInParts_106 rfl (fun c18662 => ?_) (fun c18662 => ?_)
        · refine WP_aload_n dX3_faultInParts_112 rfl ?_
          refine WP_getr dX3_faultInParts_113 fX3_15 rfl (lyx_is hy 3 3 rfl) (rfx hr 3 2 1 (by decide)) ?_
          refine WP_callV0 (k := 5) dX3_faultInParts_116 ⟨⟨⟨by decide, by decide⟩, zX5_next⟩, lX3_40, by decide, rfl, vX5_next.1, vX5_next.2⟩ (lyx_is hy 1 5 rfl) (sx_nextf hy hr hI18654  ) (Nat.le_of_ble_eq_true rfl) ?_
          intro r I18664 J18665 Ra hq
          obtain ⟨⟨hI18664, ec, fiI18664⟩, rfl⟩ := hq
          rw [ec]
          clear ec Ra
          have e18666 : I18664 (ad g 4) 0 = w18629 := by rw [fz_at fiI18664 4 (by decide) (by decide)]; exact e18657
          have e18667 : I18664 (ad g 27) 1 = w18604 := by rw [fz_at fiI18664 27 (by decide) (by decide)]; exact e18658
          have e18668 : I18664 (ad g 27) 2 = w18605 := by rw [fz_at fiI18664 27 (by decide) (by decide)]; exact e18659
          have e18669 : I18664 (ad g 4) 1 = w18662 := by rw [fz_at fiI18664 4 (by decide) (by decide)]; exact ew18662
          have e18670 : I18664 (ad g 1) 1 = L := hI18664.2
          have b18671 := BT_get hI18664.1 1 1 2 (0) (0) (900) (by decide) 1 (by decide) (by decide)
          rw [e18670] at b18671
          refine WP_iinc (ls' := [(0, _), (1, _), (2, _), (3, _), (4, _), (5, _), (6, _), (7, _)]) dX3_faultInParts_119 rfl (by decide) rfl ?_
          have hv18672 : (v18638 + Int32.ofInt (1)).toInt = v18638.toInt + (1) := ia_n rfl (by omega) (by omega)
          generalize v18638 + Int32.ofInt (1) = v18672 at hv18672 ⊢
          refine WP_goto 8 dX3_faultInParts_122 rfl ?_
          refine WP_iload dX3_faultInParts_8 rfl ?_
          refine WP_aload_n dX3_faultInParts_10 rfl ?_
          refine WS_call hz (i := 20) (by omega) dX3_faultInParts_11 ⟨⟨by decide, by decide⟩, zJ0_length_8abf5⟩ lX3_87 vJ0_length_8abf5 (As := []) (rest := [.int v18672]) (j_length hz (i := 20) (by omega)) rfl rfl (Nat.le_of_ble_eq_true rfl) ?_
          intro r Ia Ja Ra hq
          obtain ⟨⟨ea, eb, ec⟩, v18673, rfl, cv18673⟩ := hq
          show WP _ _ _ _ (.int _ :: _) _ _ _ _
          rw [ea, eb, ec]
          clear ea eb ec Ia Ja Ra
          have hv18673 : v18673.toInt = 5 := cv18673.trans rfl
          refine WQ_icmp_ge 125 dX3_faultInParts_14 rfl (fun c18673 => False.elim (by omega)) (fun c18673 => ?_)
          refine WP_iload dX3_faultInParts_17 rfl ?_
          refine WQ_iconst (5) (5) dX3_faultInParts_19 rfl rfl (fun v18675 hv18675 => ?_)
          refine WQ_icmp_ge 125 dX3_faultInParts_20 rfl (fun c18675 => False.elim (by omega)) (fun c18675 => ?_)
          refine WP_aload_n dX3_faultInParts_23 rfl ?_
          refine WP_iload dX3_faultInParts_24 rfl ?_
          refine WS_call hz (i := 20) (by omega) dX3_faultInParts_26 ⟨⟨by decide, by decide⟩, zJ0_charAt_5068e⟩ lX3_92 vJ0_charAt_5068e (As := [.int v18672]) (rest := []) (j_charAt hz (i := 20) (k := v18672) (by omega) (by omega) (by have z9 : ((liN.getD 20 0 : Nat) : Int) = 5 := rfl; omega)) rfl rfl (Nat.le_of_ble_eq_true rfl) ?_
          intro r Ia Ja Ra hq
          obtain ⟨⟨ea, eb, ec⟩, v18677, rfl, cv18677⟩ := hq
          show WP _ _ _ _ (.int _ :: _) _ _ _ _
          rw [ea, eb, ec]
          clear ea eb ec Ia Ja Ra
          have hv18677 : v18677.toInt = 68 := cv18677.trans (by rw [show v18672.toInt.toNat = 2 by omega]; rfl)
          refine WP_istore (ls' := [(0, _), (1, _), (2, _), (3, _), (4, _), (5, _), (6, _), (7, _)]) dX3_faultInParts_29 (by decide) rfl ?_
          refine WP_iload dX3_faultInParts_31 rfl ?_
          refine WQ_bipush (97) (97) dX3_faultInParts_33 rfl rfl (fun v18678 hv18678 => ?_)
          refine WQ_icmp_lt 49 dX3_faultInParts_35 rfl (fun c18678 => ?_) (fun c18678 => False.elim (by omega))
          refine WQ_iconst (0) (0) dX3_faultInParts_49 rfl rfl (fun v18680 hv18680 => ?_)
          refine WP_istore (ls' := [(0, _), (1, _), (2, _), (3, _), (4, _), (5, _), (6, _), (7, _)]) dX3_faultInParts_50 (by decide) rfl ?_
          refine WP_aload_n dX3_faultInParts_52 rfl ?_
          refine WP_getr dX3_faultInParts_53 fX3_15 rfl (lyx_is hy 3 3 rfl) (rfx hr 3 2 1 (by decide)) ?_
          refine WQ_geti dX3_faultInParts_56 fX3_43 rfl (lyx_is hy 1 5 rfl) (BT_get hI18664.1 1 2 3 (0) (0) (4) (by decide) 2 (by decide) (by decide)) (fun v18681 ev18681 av18681 bv18681 => ?_)
          refine WP_iload dX3_faultInParts_59 rfl ?_
          refine WQ_if_eq 68 dX3_faultInParts_61 rfl (fun c18681 => ?_) (fun c18681 => False.elim (by omega))
          refine WQ_iconst (2) (2) dX3_faultInParts_68 rfl rfl (fun v18683 hv18683 => ?_)
          refine WQ_icmp_eq 74 dX3_faultInParts_69 rfl (fun c18683 => ?_) (fun c18683 => ?_)
          · refine WP_iload dX3_faultInParts_74 rfl ?_
            refine WQ_if_eq 92 dX3_faultInParts_76 rfl (fun c18684 => ?_) (fun c18684 => False.elim (by omega))
            refine WP_aload_n dX3_faultInParts_92 rfl ?_
            refine WP_iload dX3_faultInParts_93 rfl ?_
            refine WP_iload_n dX3_faultInParts_95 rfl ?_
            refine WP_iload dX3_faultInParts_96 rfl ?_
            refine WP_aload_n dX3_faultInParts_98 rfl ?_
            refine WP_callV4 (k := 3) dX3_faultInParts_99 ⟨⟨⟨by decide, by decide⟩, zX3_faultOfNumber⟩, lX3_100, by decide, rfl, vX3_faultOfNumber.1, vX3_faultOfNumber.2⟩ (lyx_is hy 3 3 rfl) (sx_part_27_10_2 hy hr hI18664 v18677 cz v18672 (by omega) (by omega) (by omega) (by omega) (by omega) (by omega) (by rw [e18666]; omega)) (Nat.le_of_ble_eq_true rfl) ?_
            intro r I18686 J18687 Ra hq
            obtain ⟨⟨hI18686, ec, ⟨pI18686, sI18686_4_0, sI18686_4_1, sI18686_27_1, sI18686_27_2⟩⟩, v18688, rfl, av18688, bv18688, cv18688⟩ := hq
            show WP _ _ _ _ (.int _ :: _) _ _ _ _
            rw [ec]
            clear ec Ra
            have e18689 : I18686 (ad g 4) 0 = w18629 := by rw [sI18686_4_0]; exact e18666
            have e18690 : I18686 (ad g 4) 1 = w18662 := by rw [sI18686_4_1]; exact e18669
            have e18691 : I18686 (ad g 27) 1 = w18604 := by rw [sI18686_27_1]; exact e18667
            have e18692 : I18686 (ad g 27) 2 = w18605 := by rw [sI18686_27_2]; exact e18668
            have e18693 : I18686 (ad g 1) 1 = L := hI18686.2
            have b18694 := BT_get hI18686.1 1 1 2 (0) (0) (900) (by decide) 1 (by decide) (by decide)
            rw [e18693] at b18694
            obtain ⟨w18695, ew18695⟩ : ∃ w : Int32, I18686 (ad g 4) 2 = w := ⟨_, rfl⟩
            have bw18695 := BT_get hI18686.1 4 0 5 (0) (0) (1000) (by decide) 2 (by decide) (by decide)
            rw [ew18695] at bw18695
            rw [ew18695] at cv18688
            refine WP_istore (ls' := [(0, _), (1, _), (2, _), (3, _), (4, _), (5, _), (6, _), (7, _)]) dX3_faultInParts_102 (by decide) rfl ?_
            refine WP_iload dX3_faultInParts_104 rfl ?_
            refine WQ_if_eq 112 dX3_faultInParts_106 rfl (fun c18695 => ?_) (fun c18695 => ?_)
            · refine WP_aload_n dX3_faultInParts_112 rfl ?_
              refine WP_getr dX3_faultInParts_113 fX3_15 rfl (lyx_is hy 3 3 rfl) (rfx hr 3 2 1 (by decide)) ?_
              refine WP_callV0 (k := 5) dX3_faultInParts_116 ⟨⟨⟨by decide, by decide⟩, zX5_next⟩, lX3_40, by decide, rfl, vX5_next.1, vX5_next.2⟩ (lyx_is hy 1 5 rfl) (sx_nextf hy hr hI18686  ) (Nat.le_of_ble_eq_true rfl) ?_
              intro r I18697 J18698 Ra hq
              obtain ⟨⟨hI18697, ec, fiI18697⟩, rfl⟩ := hq
              rw [ec]
              clear ec Ra
              have e18699 : I18697 (ad g 4) 0 = w18629 := by rw [fz_at fiI18697 4 (by decide) (by decide)]; exact e18689
              have e18700 : I18697 (ad g 4) 1 = w18662 := by rw [fz_at fiI18697 4 (by decide) (by decide)]; exact e18690
              have e18701 : I18697 (ad g 27) 1 = w18604 := by rw [fz_at fiI18697 27 (by decide) (by decide)]; exact e18691
              have e18702 : I18697 (ad g 27) 2 = w18605 := by rw [fz_at fiI18697 27 (by decide) (by decide)]; exact e18692
              have e18703 : I18697 (ad g 4) 2 = w18695 := by rw [fz_at fiI18697 4 (by decide) (by decide)]; exact ew18695
              have e18704 : I18697 (ad g 1) 1 = L := hI18697.2
              have b18705 := BT_get hI18697.1 1 1 2 (0) (0) (900) (by decide) 1 (by decide) (by decide)
              rw [e18704] at b18705
              refine WP_iinc (ls' := [(0, _), (1, _), (2, _), (3, _), (4, _), (5, _), (6, _), (7, _)]) dX3_faultInParts_119 rfl (by decide) rfl ?_
              have hv18706 : (v18672 + Int32.ofInt (1)).toInt = v18672.toInt + (1) := ia_n rfl (by omega) (by omega)
              generalize v18672 + Int32.ofInt (1) = v18706 at hv18706 ⊢
              refine WP_goto 8 dX3_faultInParts_122 rfl ?_
              refine WP_iload dX3_faultInParts_8 rfl ?_
              refine WP_aload_n dX3_faultInParts_10 rfl ?_
              refine WS_call hz (i := 20) (by omega) dX3_faultInParts_11 ⟨⟨by decide, by decide⟩, zJ0_length_8abf5⟩ lX3_87 vJ0_length_8abf5 (As := []) (rest := [.int v18706]) (j_length hz (i := 20) (by omega)) rfl rfl (Nat.le_of_ble_eq_true rfl) ?_
              intro r Ia Ja Ra hq
              obtain ⟨⟨ea, eb, ec⟩, v18707, rfl, cv18707⟩ := hq
              show WP _ _ _ _ (.int _ :: _) _ _ _ _
              rw [ea, eb, ec]
              clear ea eb ec Ia Ja Ra
              have hv18707 : v18707.toInt = 5 := cv18707.trans rfl
              refine WQ_icmp_ge 125 dX3_faultInParts_14 rfl (fun c18707 => False.elim (by omega)) (fun c18707 => ?_)
              refine WP_iload dX3_faultInParts_17 rfl ?_
              refine WQ_iconst (5) (5) dX3_faultInParts_19 rfl rfl (fun v18709 hv18709 => ?_)
              refine WQ_icmp_ge 125 dX3_faultInParts_20 rfl (fun c18709 => False.elim (by omega)) (fun c18709 => ?_)
              refine WP_aload_n dX3_faultInParts_23 rfl ?_
              refine WP_iload dX3_faultInParts_24 rfl ?_
              refine WS_call hz (i := 20) (by omega) dX3_faultInParts_26 ⟨⟨by decide, by decide⟩, zJ0_charAt_5068e⟩ lX3_92 vJ0_charAt_5068e (As := [.int v18706]) (rest := []) (j_charAt hz (i := 20) (k := v18706) (by omega) (by omega) (by have z9 : ((liN.getD 20 0 : Nat) : Int) = 5 := rfl; omega)) rfl rfl (Nat.le_of_ble_eq_true rfl) ?_
              intro r Ia Ja Ra hq
              obtain ⟨⟨ea, eb, ec⟩, v18711, rfl, cv18711⟩ := hq
              show WP _ _ _ _ (.int _ :: _) _ _ _ _
              rw [ea, eb, ec]
              clear ea eb ec Ia Ja Ra
              have hv18711 : v18711.toInt = 85 := cv18711.trans (by rw [show v18706.toInt.toNat = 3 by omega]; rfl)
              refine WP_istore (ls' := [(0, _), (1, _), (2, _), (3, _), (4, _), (5, _), (6, _), (7, _)]) dX3_faultInParts_29 (by decide) rfl ?_
              refine WP_iload dX3_faultInParts_31 rfl ?_
              refine WQ_bipush (97) (97) dX3_faultInParts_33 rfl rfl (fun v18712 hv18712 => ?_)
              refine WQ_icmp_lt 49 dX3_faultInParts_35 rfl (fun c18712 => ?_) (fun c18712 => False.elim (by omega))
              refine WQ_iconst (0) (0) dX3_faultInParts_49 rfl rfl (fun v18714 hv18714 => ?_)
              refine WP_istore (ls' := [(0, _), (1, _), (2, _), (3, _), (4, _), (5, _), (6, _), (7, _)]) dX3_faultInParts_50 (by decide) rfl ?_
              refine WP_aload_n dX3_faultInParts_52 rfl ?_
              refine WP_getr dX3_faultInParts_53 fX3_15 rfl (lyx_is hy 3 3 rfl) (rfx hr 3 2 1 (by decide)) ?_
              refine WQ_geti dX3_faultInParts_56 fX3_43 rfl (lyx_is hy 1 5 rfl) (BT_get hI18697.1 1 2 3 (0) (0) (4) (by decide) 2 (by decide) (by decide)) (fun v18715 ev18715 av18715 bv18715 => ?_)
              refine WP_iload dX3_faultInParts_59 rfl ?_
              refine WQ_if_eq 68 dX3_faultInParts_61 rfl (fun c18715 => ?_) (fun c18715 => False.elim (by omega))
              refine WQ_iconst (2) (2) dX3_faultInParts_68 rfl rfl (fun v18717 hv18717 => ?_)
              refine WQ_icmp_eq 74 dX3_faultInParts_69 rfl (fun c18717 => ?_) (fun c18717 => ?_)
              · refine WP_iload dX3_faultInParts_74 rfl ?_
                refine WQ_if_eq 92 dX3_faultInParts_76 rfl (fun c18718 => ?_) (fun c18718 => False.elim (by omega))
                refine WP_aload_n dX3_faultInParts_92 rfl ?_
                refine WP_iload dX3_faultInParts_93 rfl ?_
                refine WP_iload_n dX3_faultInParts_95 rfl ?_
                refine WP_iload dX3_faultInParts_96 rfl ?_
                refine WP_aload_n dX3_faultInParts_98 rfl ?_
                refine WP_callV4 (k := 3) dX3_faultInParts_99 ⟨⟨⟨by decide, by decide⟩, zX3_faultOfNumber⟩, lX3_100, by decide, rfl, vX3_faultOfNumber.1, vX3_faultOfNumber.2⟩ (lyx_is hy 3 3 rfl) (sx_part_27_10_3 hy hr hI18697 v18711 cz v18706 (by omega) (by omega) (by omega) (by omega) (by omega) (by omega)) (Nat.le_of_ble_eq_true rfl) ?_
                intro r I18720 J18721 Ra hq
                obtain ⟨⟨hI18720, ec, ⟨pI18720, sI18720_4_0, sI18720_4_1, sI18720_4_2, sI18720_27_1, sI18720_27_2⟩⟩, v18722, rfl, av18722, bv18722, cv18722⟩ := hq
                show WP _ _ _ _ (.int _ :: _) _ _ _ _
                rw [ec]
                clear ec Ra
                have e18723 : I18720 (ad g 4) 0 = w18629 := by rw [sI18720_4_0]; exact e18699
                have e18724 : I18720 (ad g 4) 1 = w18662 := by rw [sI18720_4_1]; exact e18700
                have e18725 : I18720 (ad g 4) 2 = w18695 := by rw [sI18720_4_2]; exact e18703
                have e18726 : I18720 (ad g 27) 1 = w18604 := by rw [sI18720_27_1]; exact e18701
                have e18727 : I18720 (ad g 27) 2 = w18605 := by rw [sI18720_27_2]; exact e18702
                have e18728 : I18720 (ad g 1) 1 = L := hI18720.2
                have b18729 := BT_get hI18720.1 1 1 2 (0) (0) (900) (by decide) 1 (by decide) (by decide)
                rw [e18728] at b18729
                obtain ⟨w18730, ew18730⟩ : ∃ w : Int32, I18720 (ad g 4) 3 = w := ⟨_, rfl⟩
                have bw18730 := BT_get hI18720.1 4 0 5 (0) (0) (1000) (by decide) 3 (by decide) (by decide)
                rw [ew18730] at bw18730
                rw [ew18730] at cv18722
                refine WP_istore (ls' := [(0, _), (1, _), (2, _), (3, _), (4, _), (5, _), (6, _), (7, _)]) dX3_faultInParts_102 (by decide) rfl ?_
                refine WP_iload dX3_faultInParts_104 rfl ?_
                refine WQ_if_eq 112 dX3_faultInParts_106 rfl (fun c18730 => ?_) (fun c18730 => ?_)
                · refine WP_aload_n dX3_faultInParts_112 rfl ?_
                  refine WP_getr dX3_faultInParts_113 fX3_15 rfl (lyx_is hy 3 3 rfl) (rfx hr 3 2 1 (by decide)) ?_
                  refine WP_callV0 (k := 5) dX3_faultInParts_116 ⟨⟨⟨by decide, by decide⟩, zX5_next⟩, lX3_40, by decide, rfl, vX5_next.1, vX5_next.2⟩ (lyx_is hy 1 5 rfl) (sx_nextf hy hr hI18720  ) (Nat.le_of_ble_eq_true rfl) ?_
                  intro r I18732 J18733 Ra hq
                  obtain ⟨⟨hI18732, ec, fiI18732⟩, rfl⟩ := hq
                  rw [ec]
                  clear ec Ra
                  have e18734 : I18732 (ad g 4) 0 = w18629 := by rw [fz_at fiI18732 4 (by decide) (by decide)]; exact e18723
                  have e18735 : I18732 (ad g 4) 1 = w18662 := by rw [fz_at fiI18732 4 (by decide) (by decide)]; exact e18724
                  have e18736 : I18732 (ad g 4) 2 = w18695 := by rw [fz_at fiI18732 4 (by decide) (by decide)]; exact e18725
                  have e18737 : I18732 (ad g 27) 1 = w18604 := by rw [fz_at fiI18732 27 (by decide) (by decide)]; exact e18726
                  have e18738 : I18732 (ad g 27) 2 = w18605 := by rw [fz_at fiI18732 27 (by decide) (by decide)]; exact e18727
                  have e18739 : I18732 (ad g 4) 3 = w18730 := by rw [fz_at fiI18732 4 (by decide) (by decide)]; exact ew18730
                  have e18740 : I18732 (ad g 1) 1 = L := hI18732.2
                  have b18741 := BT_get hI18732.1 1 1 2 (0) (0) (900) (by decide) 1 (by decide) (by decide)
                  rw [e18740] at b18741
                  refine WP_iinc (ls' := [(0, _), (1, _), (2, _), (3, _), (4, _), (5, _), (6, _), (7, _)]) dX3_faultInParts_119 rfl (by decide) rfl ?_
                  have hv18742 : (v18706 + Int32.ofInt (1)).toInt = v18706.toInt + (1) := ia_n rfl (by omega) (by omega)
                  generalize v18706 + Int32.ofInt (1) = v18742 at hv18742 ⊢
                  refine WP_goto 8 dX3_faultInParts_122 rfl ?_
                  refine WP_iload dX3_faultInParts_8 rfl ?_
                  refine WP_aload_n dX3_faultInParts_10 rfl ?_
                  refine WS_call hz (i := 20) (by omega) dX3_faultInParts_11 ⟨⟨by decide, by decide⟩, zJ0_length_8abf5⟩ lX3_87 vJ0_length_8abf5 (As := []) (rest := [.int v18742]) (j_length hz (i := 20) (by omega)) rfl rfl (Nat.le_of_ble_eq_true rfl) ?_
                  intro r Ia Ja Ra hq
                  obtain ⟨⟨ea, eb, ec⟩, v18743, rfl, cv18743⟩ := hq
                  show WP _ _ _ _ (.int _ :: _) _ _ _ _
                  rw [ea, eb, ec]
                  clear ea eb ec Ia Ja Ra
                  have hv18743 : v18743.toInt = 5 := cv18743.trans rfl
                  refine WQ_icmp_ge 125 dX3_faultInParts_14 rfl (fun c18743 => False.elim (by omega)) (fun c18743 => ?_)
                  refine WP_iload dX3_faultInParts_17 rfl ?_
                  refine WQ_iconst (5) (5) dX3_faultInParts_19 rfl rfl (fun v18745 hv18745 => ?_)
                  refine WQ_icmp_ge 125 dX3_faultInParts_20 rfl (fun c18745 => False.elim (by omega)) (fun c18745 => ?_)
                  refine WP_aload_n dX3_faultInParts_23 rfl ?_
                  refine WP_iload dX3_faultInParts_24 rfl ?_
                  refine WS_call hz (i := 20) (by omega) dX3_faultInParts_26 ⟨⟨by decide, by decide⟩, zJ0_charAt_5068e⟩ lX3_92 vJ0_charAt_5068e (As := [.int v18742]) (rest := []) (j_charAt hz (i := 20) (k := v18742) (by omega) (by omega) (by have z9 : ((liN.getD 20 0 : Nat) : Int) = 5 := rfl; omega)) rfl rfl (Nat.le_of_ble_eq_true rfl) ?_
                  intro r Ia Ja Ra hq
                  obtain ⟨⟨ea, eb, ec⟩, v18747, rfl, cv18747⟩ := hq
                  show WP _ _ _ _ (.int _ :: _) _ _ _ _
                  rw [ea, eb, ec]
                  clear ea eb ec Ia Ja Ra
                  have hv18747 : v18747.toInt = 80 := cv18747.trans (by rw [show v18742.toInt.toNat = 4 by omega]; rfl)
                  refine WP_istore (ls' := [(0, _), (1, _), (2, _), (3, _), (4, _), (5, _), (6, _), (7, _)]) dX3_faultInParts_29 (by decide) rfl ?_
                  refine WP_iload dX3_faultInParts_31 rfl ?_
                  refine WQ_bipush (97) (97) dX3_faultInParts_33 rfl rfl (fun v18748 hv18748 => ?_)
                  refine WQ_icmp_lt 49 dX3_faultInParts_35 rfl (fun c18748 => ?_) (fun c18748 => False.elim (by omega))
                  refine WQ_iconst (0) (0) dX3_faultInParts_49 rfl rfl (fun v18750 hv18750 => ?_)
                  refine WP_istore (ls' := [(0, _), (1, _), (2, _), (3, _), (4, _), (5, _), (6, _), (7, _)]) dX3_faultInParts_50 (by decide) rfl ?_
                  refine WP_aload_n dX3_faultInParts_52 rfl ?_
                  refine WP_getr dX3_faultInParts_53 fX3_15 rfl (lyx_is hy 3 3 rfl) (rfx hr 3 2 1 (by decide)) ?_
                  refine WQ_geti dX3_faultInParts_56 fX3_43 rfl (lyx_is hy 1 5 rfl) (BT_get hI18732.1 1 2 3 (0) (0) (4) (by decide) 2 (by decide) (by decide)) (fun v18751 ev18751 av18751 bv18751 => ?_)
                  refine WP_iload dX3_faultInParts_59 rfl ?_
                  refine WQ_if_eq 68 dX3_faultInParts_61 rfl (fun c18751 => ?_) (fun c18751 => False.elim (by omega))
                  refine WQ_iconst (2) (2) dX3_faultInParts_68 rfl rfl (fun v18753 hv18753 => ?_)
                  refine WQ_icmp_eq 74 dX3_faultInParts_69 rfl (fun c18753 => ?_) (fun c18753 => ?_)
                  · refine WP_iload dX3_faultInParts_74 rfl ?_
                    refine WQ_if_eq 92 dX3_faultInParts_76 rfl (fun c18754 => ?_) (fun c18754 => False.elim (by omega))
                    refine WP_aload_n dX3_faultInParts_92 rfl ?_
                    refine WP_iload dX3_faultInParts_93 rfl ?_
                    refine WP_iload_n dX3_faultInParts_95 rfl ?_
                    refine WP_iload dX3_faultInParts_96 rfl ?_
                    refine WP_aload_n dX3_faultInParts_98 rfl ?_
                    refine WP_callV4 (k := 3) dX3_faultInParts_99 ⟨⟨⟨by decide, by decide⟩, zX3_faultOfNumber⟩, lX3_100, by decide, rfl, vX3_faultOfNumber.1, vX3_faultOfNumber.2⟩ (lyx_is hy 3 3 rfl) (sx_part_27_10_4 hy hr hI18732 v18747 cz v18742 (by omega) (by omega) (by omega) (by omega) (by omega) (by omega)) (Nat.le_of_ble_eq_true rfl) ?_
                    intro r I18756 J18757 Ra hq
                    obtain ⟨⟨hI18756, ec, ⟨pI18756, sI18756_4_0, sI18756_4_1, sI18756_4_2, sI18756_4_3, sI18756_27_1, sI18756_27_2⟩⟩, v18758, rfl, av18758, bv18758, cv18758⟩ := hq
                    show WP _ _ _ _ (.int _ :: _) _ _ _ _
                    rw [ec]
                    clear ec Ra
                    have e18759 : I18756 (ad g 4) 0 = w18629 := by rw [sI18756_4_0]; exact e18734
                    have e18760 : I18756 (ad g 4) 1 = w18662 := by rw [sI18756_4_1]; exact e18735
                    have e18761 : I18756 (ad g 4) 2 = w18695 := by rw [sI18756_4_2]; exact e18736
                    have e18762 : I18756 (ad g 4) 3 = w18730 := by rw [sI18756_4_3]; exact e18739
                    have e18763 : I18756 (ad g 27) 1 = w18604 := by rw [sI18756_27_1]; exact e18737
                    have e18764 : I18756 (ad g 27) 2 = w18605 := by rw [sI18756_27_2]; exact e18738
                    have e18765 : I18756 (ad g 1) 1 = L := hI18756.2
                    have b18766 := BT_get hI18756.1 1 1 2 (0) (0) (900) (by decide) 1 (by decide) (by decide)
                    rw [e18765] at b18766
                    obtain ⟨w18767, ew18767⟩ : ∃ w : Int32, I18756 (ad g 4) 4 = w := ⟨_, rfl⟩
                    have bw18767 := BT_get hI18756.1 4 0 5 (0) (0) (1000) (by decide) 4 (by decide) (by decide)
                    rw [ew18767] at bw18767
                    rw [ew18767] at cv18758
                    refine WP_istore (ls' := [(0, _), (1, _), (2, _), (3, _), (4, _), (5, _), (6, _), (7, _)]) dX3_faultInParts_102 (by decide) rfl ?_
                    refine WP_iload dX3_faultInParts_104 rfl ?_
                    refine WQ_if_eq 112 dX3_faultInParts_106 rfl (fun c18767 => ?_) (fun c18767 => ?_)
                    · refine WP_aload_n dX3_faultInParts_112 rfl ?_
                      refine WP_getr dX3_faultInParts_113 fX3_15 rfl (lyx_is hy 3 3 rfl) (rfx hr 3 2 1 (by decide)) ?_
                      refine WP_callV0 (k := 5) dX3_faultInParts_116 ⟨⟨⟨by decide, by decide⟩, zX5_next⟩, lX3_40, by decide, rfl, vX5_next.1, vX5_next.2⟩ (lyx_is hy 1 5 rfl) (sx_nextf hy hr hI18756  ) (Nat.le_of_ble_eq_true rfl) ?_
                      intro r I18769 J18770 Ra hq
                      obtain ⟨⟨hI18769, ec, fiI18769⟩, rfl⟩ := hq
                      rw [ec]
                      clear ec Ra
                      have e18771 : I18769 (ad g 4) 0 = w18629 := by rw [fz_at fiI18769 4 (by decide) (by decide)]; exact e18759
                      have e18772 : I18769 (ad g 4) 1 = w18662 := by rw [fz_at fiI18769 4 (by decide) (by decide)]; exact e18760
                      have e18773 : I18769 (ad g 4) 2 = w18695 := by rw [fz_at fiI18769 4 (by decide) (by decide)]; exact e18761
                      have e18774 : I18769 (ad g 4) 3 = w18730 := by rw [fz_at fiI18769 4 (by decide) (by decide)]; exact e18762
                      have e18775 : I18769 (ad g 27) 1 = w18604 := by rw [fz_at fiI18769 27 (by decide) (by decide)]; exact e18763
                      have e18776 : I18769 (ad g 27) 2 = w18605 := by rw [fz_at fiI18769 27 (by decide) (by decide)]; exact e18764
                      have e18777 : I18769 (ad g 4) 4 = w18767 := by rw [fz_at fiI18769 4 (by decide) (by decide)]; exact ew18767
                      have e18778 : I18769 (ad g 1) 1 = L := hI18769.2
                      have b18779 := BT_get hI18769.1 1 1 2 (0) (0) (900) (by decide) 1 (by decide) (by decide)
                      rw [e18778] at b18779
                      refine WP_iinc (ls' := [(0, _), (1, _), (2, _), (3, _), (4, _), (5, _), (6, _), (7, _)]) dX3_faultInParts_119 rfl (by decide) rfl ?_
                      have hv18780 : (v18742 + Int32.ofInt (1)).toInt = v18742.toInt + (1) := ia_n rfl (by omega) (by omega)
                      generalize v18742 + Int32.ofInt (1) = v18780 at hv18780 ⊢
                      refine WP_goto 8 dX3_faultInParts_122 rfl ?_
                      refine WP_iload dX3_faultInParts_8 rfl ?_
                      refine WP_aload_n dX3_faultInParts_10 rfl ?_
                      refine WS_call hz (i := 20) (by omega) dX3_faultInParts_11 ⟨⟨by decide, by decide⟩, zJ0_length_8abf5⟩ lX3_87 vJ0_length_8abf5 (As := []) (rest := [.int v18780]) (j_length hz (i := 20) (by omega)) rfl rfl (Nat.le_of_ble_eq_true rfl) ?_
                      intro r Ia Ja Ra hq
                      obtain ⟨⟨ea, eb, ec⟩, v18781, rfl, cv18781⟩ := hq
                      show WP _ _ _ _ (.int _ :: _) _ _ _ _
                      rw [ea, eb, ec]
                      clear ea eb ec Ia Ja Ra
                      have hv18781 : v18781.toInt = 5 := cv18781.trans rfl
                      refine WQ_icmp_ge 125 dX3_faultInParts_14 rfl (fun c18781 => ?_) (fun c18781 => False.elim (by omega))
                      refine WP_aload_n dX3_faultInParts_125 rfl ?_
                      refine WP_getr dX3_faultInParts_126 fX3_15 rfl (lyx_is hy 3 3 rfl) (rfx hr 3 2 1 (by decide)) ?_
                      refine WQ_geti dX3_faultInParts_129 fX3_43 rfl (lyx_is hy 1 5 rfl) (BT_get hI18769.1 1 2 3 (0) (0) (4) (by decide) 2 (by decide) (by decide)) (fun v18783 ev18783 av18783 bv18783 => ?_)
                      refine WQ_iconst (3) (3) dX3_faultInParts_132 rfl rfl (fun v18784 hv18784 => ?_)
                      refine WQ_icmp_ne 140 dX3_faultInParts_133 rfl (fun c18784 => ?_) (fun c18784 => ?_)
                      · refine WQ_iconst (1) (1) dX3_faultInParts_140 rfl rfl (fun v18786 hv18786 => ?_)
                        exact WP_iret dX3_faultInParts_141 rfl ⟨⟨hI18769, rfl, ⟨trivial, (by rw [e18775, ew18604] <;> exact (eq32 _ _).mpr (by omega)), (by rw [e18776, ew18605] <;> exact (eq32 _ _).mpr (by omega))⟩⟩, _, rfl, by omega, by omega, by (try rw [e18771]; try rw [e18772]; try rw [e18773]; try rw [e18774]; try rw [e18777]); omega⟩
                      · refine WQ_iconst (0) (0) dX3_faultInParts_136 rfl rfl (fun v18787 hv18787 => ?_)
                        refine WP_goto 141 dX3_faultInParts_137 rfl ?_
                        exact WP_iret dX3_faultInParts_141 rfl ⟨⟨hI18769, rfl, ⟨trivial, (by rw [e18775, ew18604] <;> exact (eq32 _ _).mpr (by omega)), (by rw [e18776, ew18605] <;> exact (eq32 _ _).mpr (by omega))⟩⟩, _, rfl, by omega, by omega, by (try rw [e18771]; try rw [e18772]; try rw [e18773]; try rw [e18774]; try rw [e18777]); omega⟩
                    · refine WP_iload dX3_faultInParts_109 rfl ?_
                      exact WP_iret dX3_faultInParts_111 rfl ⟨⟨hI18756, rfl, ⟨trivial, (by rw [e18763, ew18604] <;> exact (eq32 _ _).mpr (by omega)), (by rw [e18764, ew18605] <;> exact (eq32 _ _).mpr (by omega))⟩⟩, _, rfl, by omega, by omega, by (try rw [e18759]; try rw [e18760]; try rw [e18761]; try rw [e18762]; try rw [ew18767]); omega⟩
                  · refine WQ_iconst (1) (1) dX3_faultInParts_72 rfl rfl (fun v18788 hv18788 => ?_)
                    obtain ⟨w18789, ew18789⟩ : ∃ w : Int32, I18732 (ad g 4) 4 = w := ⟨_, rfl⟩
                    have bw18789 := BT_get hI18732.1 4 0 5 (0) (0) (1000) (by decide) 4 (by decide) (by decide)
                    rw [ew18789] at bw18789
                    exact WP_iret dX3_faultInParts_73 rfl ⟨⟨hI18732, rfl, ⟨trivial, (by rw [e18737, ew18604] <;> exact (eq32 _ _).mpr (by omega)), (by rw [e18738, ew18605] <;> exact (eq32 _ _).mpr (by omega))⟩⟩, _, rfl, by omega, by omega, by (try rw [e18734]; try rw [e18735]; try rw [e18736]; try rw [e18739]; try rw [ew18789]); omega⟩
                · refine WP_iload dX3_faultInParts_109 rfl ?_
                  obtain ⟨w18790, ew18790⟩ : ∃ w : Int32, I18720 (ad g 4) 4 = w := ⟨_, rfl⟩
                  have bw18790 := BT_get hI18720.1 4 0 5 (0) (0) (1000) (by decide) 4 (by decide) (by decide)
                  rw [ew18790] at bw18790
                  exact WP_iret dX3_faultInParts_111 rfl ⟨⟨hI18720, rfl, ⟨trivial, (by rw [e18726, ew18604] <;> exact (eq32 _ _).mpr (by omega)), (by rw [e18727, ew18605] <;> exact (eq32 _ _).mpr (by omega))⟩⟩, _, rfl, by omega, by omega, by (try rw [e18723]; try rw [e18724]; try rw [e18725]; try rw [ew18730]; try rw [ew18790]); omega⟩
              · refine WQ_iconst (1) (1) dX3_faultInParts_72 rfl rfl (fun v18791 hv18791 => ?_)
                obtain ⟨w18792, ew18792⟩ : ∃ w : Int32, I18697 (ad g 4) 3 = w := ⟨_, rfl⟩
                have bw18792 := BT_get hI18697.1 4 0 5 (0) (0) (1000) (by decide) 3 (by decide) (by decide)
                rw [ew18792] at bw18792
                obtain ⟨w18793, ew18793⟩ : ∃ w : Int32, I18697 (ad g 4) 4 = w := ⟨_, rfl⟩
                have bw18793 := BT_get hI18697.1 4 0 5 (0) (0) (1000) (by decide) 4 (by decide) (by decide)
                rw [ew18793] at bw18793
                exact WP_iret dX3_faultInParts_73 rfl ⟨⟨hI18697, rfl, ⟨trivial, (by rw [e18701, ew18604] <;> exact (eq32 _ _).mpr (by omega)), (by rw [e18702, ew18605] <;> exact (eq32 _ _).mpr (by omega))⟩⟩, _, rfl, by omega, by omega, by (try rw [e18699]; try rw [e18700]; try rw [e18703]; try rw [ew18792]; try rw [ew18793]); omega⟩
            · refine WP_iload dX3_faultInParts_109 rfl ?_
              obtain ⟨w18794, ew18794⟩ : ∃ w : Int32, I18686 (ad g 4) 3 = w := ⟨_, rfl⟩
              have bw18794 := BT_get hI18686.1 4 0 5 (0) (0) (1000) (by decide) 3 (by decide) (by decide)
              rw [ew18794] at bw18794
              obtain ⟨w18795, ew18795⟩ : ∃ w : Int32, I18686 (ad g 4) 4 = w := ⟨_, rfl⟩
              have bw18795 := BT_get hI18686.1 4 0 5 (0) (0) (1000) (by decide) 4 (by decide) (by decide)
              rw [ew18795] at bw18795
              exact WP_iret dX3_faultInParts_111 rfl ⟨⟨hI18686, rfl, ⟨trivial, (by rw [e18691, ew18604] <;> exact (eq32 _ _).mpr (by omega)), (by rw [e18692, ew18605] <;> exact (eq32 _ _).mpr (by omega))⟩⟩, _, rfl, by omega, by omega, by (try rw [e18689]; try rw [e18690]; try rw [ew18695]; try rw [ew18794]; try rw [ew18795]); omega⟩
          · refine WQ_iconst (1) (1) dX3_faultInParts_72 rfl rfl (fun v18796 hv18796 => ?_)
            obtain ⟨w18797, ew18797⟩ : ∃ w : Int32, I18664 (ad g 4) 2 = w := ⟨_, rfl⟩
            have bw18797 := BT_get hI18664.1 4 0 5 (0) (0) (1000) (by decide) 2 (by decide) (by decide)
            rw [ew18797] at bw18797
            obtain ⟨w18798, ew18798⟩ : ∃ w : Int32, I18664 (ad g 4) 3 = w := ⟨_, rfl⟩
            have bw18798 := BT_get hI18664.1 4 0 5 (0) (0) (1000) (by decide) 3 (by decide) (by decide)
            rw [ew18798] at bw18798
            obtain ⟨w18799, ew18799⟩ : ∃ w : Int32, I18664 (ad g 4) 4 = w := ⟨_, rfl⟩
            have bw18799 := BT_get hI18664.1 4 0 5 (0) (0) (1000) (by decide) 4 (by decide) (by decide)
            rw [ew18799] at bw18799
            exact WP_iret dX3_faultInParts_73 rfl ⟨⟨hI18664, rfl, ⟨trivial, (by rw [e18667, ew18604] <;> exact (eq32 _ _).mpr (by omega)), (by rw [e18668, ew18605] <;> exact (eq32 _ _).mpr (by omega))⟩⟩, _, rfl, by omega, by omega, by (try rw [e18666]; try rw [e18669]; try rw [ew18797]; try rw [ew18798]; try rw [ew18799]); omega⟩
        · refine WP_iload dX3_faultInParts_109 rfl ?_
          obtain ⟨w18800, ew18800⟩ : ∃ w : Int32, I18654 (ad g 4) 2 = w := ⟨_, rfl⟩
          have bw18800 := BT_get hI18654.1 4 0 5 (0) (0) (1000) (by decide) 2 (by decide) (by decide)
          rw [ew18800] at bw18800
          obtain ⟨w18801, ew18801⟩ : ∃ w : Int32, I18654 (ad g 4) 3 = w := ⟨_, rfl⟩
          have bw18801 := BT_get hI18654.1 4 0 5 (0) (0) (1000) (by decide) 3 (by decide) (by decide)
          rw [ew18801] at bw18801
          obtain ⟨w18802, ew18802⟩ : ∃ w : Int32, I18654 (ad g 4) 4 = w := ⟨_, rfl⟩
          have bw18802 := BT_get hI18654.1 4 0 5 (0) (0) (1000) (by decide) 4 (by decide) (by decide)
          rw [ew18802] at bw18802
          exact WP_iret dX3_faultInParts_111 rfl ⟨⟨hI18654, rfl, ⟨trivial, (by rw [e18658, ew18604] <;> exact (eq32 _ _).mpr (by omega)), (by rw [e18659, ew18605] <;> exact (eq32 _ _).mpr (by omega))⟩⟩, _, rfl, by omega, by omega, by (try rw [e18657]; try rw [ew18662]; try rw [ew18800]; try rw [ew18801]; try rw [ew18802]); omega⟩
      · refine WQ_iconst (1) (1) dX3_faultInParts_72 rfl rfl (fun v18803 hv18803 => ?_)
        obtain ⟨w18804, ew18804⟩ : ∃ w : Int32, I18631 (ad g 4) 1 = w := ⟨_, rfl⟩
        have bw18804 := BT_get hI18631.1 4 0 5 (0) (0) (1000) (by decide) 1 (by decide) (by decide)
        rw [ew18804] at bw18804
        obtain ⟨w18805, ew18805⟩ : ∃ w : Int32, I18631 (ad g 4) 2 = w := ⟨_, rfl⟩
        have bw18805 := BT_get hI18631.1 4 0 5 (0) (0) (1000) (by decide) 2 (by decide) (by decide)
        rw [ew18805] at bw18805
        obtain ⟨w18806, ew18806⟩ : ∃ w : Int32, I18631 (ad g 4) 3 = w := ⟨_, rfl⟩
        have bw18806 := BT_get hI18631.1 4 0 5 (0) (0) (1000) (by decide) 3 (by decide) (by decide)
        rw [ew18806] at bw18806
        obtain ⟨w18807, ew18807⟩ : ∃ w : Int32, I18631 (ad g 4) 4 = w := ⟨_, rfl⟩
        have bw18807 := BT_get hI18631.1 4 0 5 (0) (0) (1000) (by decide) 4 (by decide) (by decide)
        rw [ew18807] at bw18807
        exact WP_iret dX3_faultInParts_73 rfl ⟨⟨hI18631, rfl, ⟨trivial, (by rw [e18633, ew18604] <;> exact (eq32 _ _).mpr (by omega)), (by rw [e18634, ew18605] <;> exact (eq32 _ _).mpr (by omega))⟩⟩, _, rfl, by omega, by omega, by (try rw [e18635]; try rw [ew18804]; try rw [ew18805]; try rw [ew18806]; try rw [ew18807]); omega⟩
    · refine WP_iload dX3_faultInParts_109 rfl ?_
      obtain ⟨w18808, ew18808⟩ : ∃ w : Int32, I18622 (ad g 4) 1 = w := ⟨_, rfl⟩
      have bw18808 := BT_get hI18622.1 4 0 5 (0) (0) (1000) (by decide) 1 (by decide) (by decide)
      rw [ew18808] at bw18808
      obtain ⟨w18809, ew18809⟩ : ∃ w : Int32, I18622 (ad g 4) 2 = w := ⟨_, rfl⟩
      have bw18809 := BT_get hI18622.1 4 0 5 (0) (0) (1000) (by decide) 2 (by decide) (by decide)
      rw [ew18809] at bw18809
      obtain ⟨w18810, ew18810⟩ : ∃ w : Int32, I18622 (ad g 4) 3 = w := ⟨_, rfl⟩
      have bw18810 := BT_get hI18622.1 4 0 5 (0) (0) (1000) (by decide) 3 (by decide) (by decide)
      rw [ew18810] at bw18810
      obtain ⟨w18811, ew18811⟩ : ∃ w : Int32, I18622 (ad g 4) 4 = w := ⟨_, rfl⟩
      have bw18811 := BT_get hI18622.1 4 0 5 (0) (0) (1000) (by decide) 4 (by decide) (by decide)
      rw [ew18811] at bw18811
      exact WP_iret dX3_faultInParts_111 rfl ⟨⟨hI18622, rfl, ⟨trivial, (by rw [e18625, ew18604] <;> exact (eq32 _ _).mpr (by omega)), (by rw [e18626, ew18605] <;> exact (eq32 _ _).mpr (by omega))⟩⟩, _, rfl, by omega, by omega, by (try rw [ew18629]; try rw [ew18808]; try rw [ew18809]; try rw [ew18810]; try rw [ew18811]); omega⟩
  · refine WQ_iconst (1) (1) dX3_faultInParts_72 rfl rfl (fun v18812 hv18812 => ?_)
    obtain ⟨w18813, ew18813⟩ : ∃ w : Int32, I (ad g 4) 0 = w := ⟨_, rfl⟩
    have bw18813 := BT_get hI.1 4 0 5 (0) (0) (1000) (by decide) 0 (by decide) (by decide)
    rw [ew18813] at bw18813
    obtain ⟨w18814, ew18814⟩ : ∃ w : Int32, I (ad g 4) 1 = w := ⟨_, rfl⟩
    have bw18814 := BT_get hI.1 4 0 5 (0) (0) (1000) (by decide) 1 (by decide) (by decide)
    rw [ew18814] at bw18814
    obtain ⟨w18815, ew18815⟩ : ∃ w : Int32, I (ad g 4) 2 = w := ⟨_, rfl⟩
    have bw18815 := BT_get hI.1 4 0 5 (0) (0) (1000) (by decide) 2 (by decide) (by decide)
    rw [ew18815] at bw18815
    obtain ⟨w18816, ew18816⟩ : ∃ w : Int32, I (ad g 4) 3 = w := ⟨_, rfl⟩
    have bw18816 := BT_get hI.1 4 0 5 (0) (0) (1000) (by decide) 3 (by decide) (by decide)
    rw [ew18816] at bw18816
    obtain ⟨w18817, ew18817⟩ : ∃ w : Int32, I (ad g 4) 4 = w := ⟨_, rfl⟩
    have bw18817 := BT_get hI.1 4 0 5 (0) (0) (1000) (by decide) 4 (by decide) (by decide)
    rw [ew18817] at bw18817
    exact WP_iret dX3_faultInParts_73 rfl ⟨⟨hI, rfl, ⟨trivial, rfl, rfl⟩⟩, _, rfl, by omega, by omega, by (try rw [ew18813]; try rw [ew18814]; try rw [ew18815]; try rw [ew18816]; try rw [ew18817]); omega⟩
set_option maxHeartbeats 4000000 in
set_option maxRecDepth 100000 in
theorem sx_parts_27_11 {g : GG} {n : Int} {L : Int32} (hy : LyX g) {aK aV : Nat → Nat} {fo : Option Nat} (hz : HZ g aK aV fo)  {I : pI} {J : pJ} {R : pR} (hr : RfX g R) (hI : XI g n L I) (cz : Int32) (cz_lo : 11 ≤ cz.toInt) (cz_hi : cz.toInt ≤ 11) : SP g mX3_faultInParts [.ref (ad g 3), .int cz, .ref (ad g 27)] I J R (fun r I' J' R' => (XI g n L I' ∧ R' = R ∧ True ∧ I' (ad g 27) 1 = I (ad g 27) 1 ∧ I' (ad g 27) 2 = I (ad g 27) 2) ∧ ∃ v : Int32, r = some (.int v) ∧ 0 ≤ v.toInt ∧ v.toInt ≤ 5 ∧ (v.toInt = 0 → (I' (ad g 4) 0).toInt ≤ 99 ∧ (I' (ad g 4) 1).toInt ≤ 99)) := by
  refine SP_of ⟨by decide, rfl⟩ (Nat.le_of_ble_eq_true rfl) ?_
  have e18818 : I (ad g 1) 1 = L := hI.2
  have b18819 := BT_get hI.1 1 1 2 (0) (0) (900) (by decide) 1 (by decide) (by decide)
  rw [e18818] at b18819
  obtain ⟨w18820, ew18820⟩ : ∃ w : Int32, I (ad g 27) 1 = w := ⟨_, rfl⟩
  have bw18820 := BT_get hI.1 27 1 2 (0) (0) (4) (by decide) 1 (by decide) (by decide)
  rw [ew18820] at bw18820
  obtain ⟨w18821, ew18821⟩ : ∃ w : Int32, I (ad g 27) 2 = w := ⟨_, rfl⟩
  have bw18821 := BT_get hI.1 27 2 3 (0) (0) (3) (by decide) 2 (by decide) (by decide)
  rw [ew18821] at bw18821
  refine WP_iload_n dX3_faultInParts_0 rfl ?_
  refine WP_callS1 dX3_faultInParts_1 ⟨⟨⟨by decide, by decide⟩, zX3_shapeOf⟩, lX3_84, tX3_shapeOf⟩ (sx_shapeOf hy hz hr hI cz (by omega) (by omega)) (Nat.le_of_ble_eq_true rfl) ?_
  intro r Ia Ja Ra hq
  obtain ⟨⟨ea, eb, ec⟩, rfl⟩ := hq
  show WP _ _ _ _ (.ref _ :: _) _ _ _ _
  rw [show 10 + cz.toInt.toNat = 21 by omega]
  rw [ea, eb, ec]
  clear ea eb ec Ia Ja Ra
  refine WP_astore_n (ls' := [(0, _), (1, _), (2, _), (3, _)]) dX3_faultInParts_4 (by decide) rfl ?_
  refine WQ_iconst (0) (0) dX3_faultInParts_5 rfl rfl (fun v18822 hv18822 => ?_)
  refine WP_istore (ls' := [(0, _), (1, _), (2, _), (3, _), (4, _)]) dX3_faultInParts_6 (by decide) rfl ?_
  refine WP_iload dX3_faultInParts_8 rfl ?_
  refine WP_aload_n dX3_faultInParts_10 rfl ?_
  refine WS_call hz (i := 21) (by omega) dX3_faultInParts_11 ⟨⟨by decide, by decide⟩, zJ0_length_8abf5⟩ lX3_87 vJ0_length_8abf5 (As := []) (rest := [.int v18822]) (j_length hz (i := 21) (by omega)) rfl rfl (Nat.le_of_ble_eq_true rfl) ?_
  intro r Ia Ja Ra hq
  obtain ⟨⟨ea, eb, ec⟩, v18823, rfl, cv18823⟩ := hq
  show WP _ _ _ _ (.int _ :: _) _ _ _ _
  rw [ea, eb, ec]
  clear ea eb ec Ia Ja Ra
  have hv18823 : v18823.toInt = 2 := cv18823.trans rfl
  refine WQ_icmp_ge 125 dX3_faultInParts_14 rfl (fun c18823 => False.elim (by omega)) (fun c18823 => ?_)
  refine WP_iload dX3_faultInParts_17 rfl ?_
  refine WQ_iconst (5) (5) dX3_faultInParts_19 rfl rfl (fun v18825 hv18825 => ?_)
  refine WQ_icmp_ge 125 dX3_faultInParts_20 rfl (fun c18825 => False.elim (by omega)) (fun c18825 => ?_)
  refine WP_aload_n dX3_faultInParts_23 rfl ?_
  refine WP_iload dX3_faultInParts_24 rfl ?_
  refine WS_call hz (i := 21) (by omega) dX3_faultInParts_26 ⟨⟨by decide, by decide⟩, zJ0_charAt_5068e⟩ lX3_92 vJ0_charAt_5068e (As := [.int v18822]) (rest := []) (j_charAt hz (i := 21) (k := v18822) (by omega) (by omega) (by have z9 : ((liN.getD 21 0 : Nat) : Int) = 2 := rfl; omega)) rfl rfl (Nat.le_of_ble_eq_true rfl) ?_
  intro r Ia Ja Ra hq
  obtain ⟨⟨ea, eb, ec⟩, v18827, rfl, cv18827⟩ := hq
  show WP _ _ _ _ (.int _ :: _) _ _ _ _
  rw [ea, eb, ec]
  clear ea eb ec Ia Ja Ra
  have hv18827 : v18827.toInt = 86 := cv18827.trans (by rw [show v18822.toInt.toNat = 0 by omega]; rfl)
  refine WP_istore (ls' := [(0, _), (1, _), (2, _), (3, _), (4, _), (5, _)]) dX3_faultInParts_29 (by decide) rfl ?_
  refine WP_iload dX3_faultInParts_31 rfl ?_
  refine WQ_bipush (97) (97) dX3_faultInParts_33 rfl rfl (fun v18828 hv18828 => ?_)
  refine WQ_icmp_lt 49 dX3_faultInParts_35 rfl (fun c18828 => ?_) (fun c18828 => False.elim (by omega))
  refine WQ_iconst (0) (0) dX3_faultInParts_49 rfl rfl (fun v18830 hv18830 => ?_)
  refine WP_istore (ls' := [(0, _), (1, _), (2, _), (3, _), (4, _), (5, _), (6, _)]) dX3_faultInParts_50 (by decide) rfl ?_
  refine WP_aload_n dX3_faultInParts_52 rfl ?_
  refine WP_getr dX3_faultInParts_53 fX3_15 rfl (lyx_is hy 3 3 rfl) (rfx hr 3 2 1 (by decide)) ?_
  refine WQ_geti dX3_faultInParts_56 fX3_43 rfl (lyx_is hy 1 5 rfl) (BT_get hI.1 1 2 3 (0) (0) (4) (by decide) 2 (by decide) (by decide)) (fun v18831 ev18831 av18831 bv18831 => ?_)
  refine WP_iload dX3_faultInParts_59 rfl ?_
  refine WQ_if_eq 68 dX3_faultInParts_61 rfl (fun c18831 => ?_) (fun c18831 => False.elim (by omega))
  refine WQ_iconst (2) (2) dX3_faultInParts_68 rfl rfl (fun v18833 hv18833 => ?_)
  refine WQ_icmp_eq 74 dX3_faultInParts_69 rfl (fun c18833 => ?_) (fun c18833 => ?_)
  · refine WP_iload dX3_faultInParts_74 rfl ?_
    refine WQ_if_eq 92 dX3_faultInParts_76 rfl (fun c18834 => ?_) (fun c18834 => False.elim (by omega))
    refine WP_aload_n dX3_faultInParts_92 rfl ?_
    refine WP_iload dX3_faultInParts_93 rfl ?_
    refine WP_iload_n dX3_faultInParts_95 rfl ?_
    refine WP_iload dX3_faultInParts_96 rfl ?_
    refine WP_aload_n dX3_faultInParts_98 rfl ?_
    refine WP_callV4 (k := 3) dX3_faultInParts_99 ⟨⟨⟨by decide, by decide⟩, zX3_faultOfNumber⟩, lX3_100, by decide, rfl, vX3_faultOfNumber.1, vX3_faultOfNumber.2⟩ (lyx_is hy 3 3 rfl) (sx_part_27_11_0 hy hr hI v18827 cz v18822 (by omega) (by omega) (by omega) (by omega) (by omega) (by omega)) (Nat.le_of_ble_eq_true rfl) ?_
    intro r I18836 J18837 Ra hq
    obtain ⟨⟨hI18836, ec, ⟨pI18836, sI18836_27_1, sI18836_27_2⟩⟩, v18838, rfl, av18838, bv18838, cv18838⟩ := hq
    show WP _ _ _ _ (.int _ :: _) _ _ _ _
    rw [ec]
    clear ec Ra
    have e18839 : I18836 (ad g 27) 1 = w18820 := by rw [sI18836_27_1]; exact ew18820
    have e18840 : I18836 (ad g 27) 2 = w18821 := by rw [sI18836_27_2]; exact ew18821
    have e18841 : I18836 (ad g 1) 1 = L := hI18836.2
    have b18842 := BT_get hI18836.1 1 1 2 (0) (0) (900) (by decide) 1 (by decide) (by decide)
    rw [e18841] at b18842
    obtain ⟨w18843, ew18843⟩ : ∃ w : Int32, I18836 (ad g 4) 0 = w := ⟨_, rfl⟩
    have bw18843 := BT_get hI18836.1 4 0 5 (0) (0) (1000) (by decide) 0 (by decide) (by decide)
    rw [ew18843] at bw18843
    rw [ew18843] at cv18838
    refine WP_istore (ls' := [(0, _), (1, _), (2, _), (3, _), (4, _), (5, _), (6, _), (7, _)]) dX3_faultInParts_102 (by decide) rfl ?_
    refine WP_iload dX3_faultInParts_104 rfl ?_
    refine WQ_if_eq 112 dX3_faultInParts_106 rfl (fun c18843 => ?_) (fun c18843 => ?_)
    · refine WP_aload_n dX3_faultInParts_112 rfl ?_
      refine WP_getr dX3_faultInParts_113 fX3_15 rfl (lyx_is hy 3 3 rfl) (rfx hr 3 2 1 (by decide)) ?_
      refine WP_callV0 (k := 5) dX3_faultInParts_116 ⟨⟨⟨by decide, by decide⟩, zX5_next⟩, lX3_40, by decide, rfl, vX5_next.1, vX5_next.2⟩ (lyx_is hy 1 5 rfl) (sx_nextf hy hr hI18836  ) (Nat.le_of_ble_eq_true rfl) ?_
      intro r I18845 J18846 Ra hq
      obtain ⟨⟨hI18845, ec, fiI18845⟩, rfl⟩ := hq
      rw [ec]
      clear ec Ra
      have e18847 : I18845 (ad g 27) 1 = w18820 := by rw [fz_at fiI18845 27 (by decide) (by decide)]; exact e18839
      have e18848 : I18845 (ad g 27) 2 = w18821 := by rw [fz_at fiI18845 27 (by decide) (by decide)]; exact e18840
      have e18849 : I18845 (ad g 4) 0 = w18843 := by rw [fz_at fiI18845 4 (by decide) (by decide)]; exact ew18843
      have e18850 : I18845 (ad g 1) 1 = L := hI18845.2
      have b18851 := BT_get hI18845.1 1 1 2 (0) (0) (900) (by decide) 1 (by decide) (by decide)
      rw [e18850] at b18851
      refine WP_iinc (ls' := [(0, _), (1, _), (2, _), (3, _), (4, _), (5, _), (6, _), (7, _)]) dX3_faultInParts_119 rfl (by decide) rfl ?_
      have hv18852 : (v18822 + Int32.ofInt (1)).toInt = v18822.toInt + (1) := ia_n rfl (by omega) (by omega)
      generalize v18822 + Int32.ofInt (1) = v18852 at hv18852 ⊢
      refine WP_goto 8 dX3_faultInParts_122 rfl ?_
      refine WP_iload dX3_faultInParts_8 rfl ?_
      refine WP_aload_n dX3_faultInParts_10 rfl ?_
      refine WS_call hz (i := 21) (by omega) dX3_faultInParts_11 ⟨⟨by decide, by decide⟩, zJ0_length_8abf5⟩ lX3_87 vJ0_length_8abf5 (As := []) (rest := [.int v18852]) (j_length hz (i := 21) (by omega)) rfl rfl (Nat.le_of_ble_eq_true rfl) ?_
      intro r Ia Ja Ra hq
      obtain ⟨⟨ea, eb, ec⟩, v18853, rfl, cv18853⟩ := hq
      show WP _ _ _ _ (.int _ :: _) _ _ _ _
      rw [ea, eb, ec]
      clear ea eb ec Ia Ja Ra
      have hv18853 : v18853.toInt = 2 := cv18853.trans rfl
      refine WQ_icmp_ge 125 dX3_faultInParts_14 rfl (fun c18853 => False.elim (by omega)) (fun c18853 => ?_)
      refine WP_iload dX3_faultInParts_17 rfl ?_
      refine WQ_iconst (5) (5) dX3_faultInParts_19 rfl rfl (fun v18855 hv18855 => ?_)
      refine WQ_icmp_ge 125 dX3_faultInParts_20 rfl (fun c18855 => False.elim (by omega)) (fun c18855 => ?_)
      refine WP_aload_n dX3_faultInParts_23 rfl ?_
      refine WP_iload dX3_faultInParts_24 rfl ?_
      refine WS_call hz (i := 21) (by omega) dX3_faultInParts_26 ⟨⟨by decide, by decide⟩, zJ0_charAt_5068e⟩ lX3_92 vJ0_charAt_5068e (As := [.int v18852]) (rest := []) (j_charAt hz (i := 21) (k := v18852) (by omega) (by omega) (by have z9 : ((liN.getD 21 0 : Nat) : Int) = 2 := rfl; omega)) rfl rfl (Nat.le_of_ble_eq_true rfl) ?_
      intro r Ia Ja Ra hq
      obtain ⟨⟨ea, eb, ec⟩, v18857, rfl, cv18857⟩ := hq
      show WP _ _ _ _ (.int _ :: _) _ _ _ _
      rw [ea, eb, ec]
      clear ea eb ec Ia Ja Ra
      have hv18857 : v18857.toInt = 86 := cv18857.trans (by rw [show v18852.toInt.toNat = 1 by omega]; rfl)
      refine WP_istore (ls' := [(0, _), (1, _), (2, _), (3, _), (4, _), (5, _), (6, _), (7, _)]) dX3_faultInParts_29 (by decide) rfl ?_
      refine WP_iload dX3_faultInParts_31 rfl ?_
      refine WQ_bipush (97) (97) dX3_faultInParts_33 rfl rfl (fun v18858 hv18858 => ?_)
      refine WQ_icmp_lt 49 dX3_faultInParts_35 rfl (fun c18858 => ?_) (fun c18858 => False.elim (by omega))
      refine WQ_iconst (0) (0) dX3_faultInParts_49 rfl rfl (fun v18860 hv18860 => ?_)
      refine WP_istore (ls' := [(0, _), (1, _), (2, _), (3, _), (4, _), (5, _), (6, _), (7, _)]) dX3_faultInParts_50 (by decide) rfl ?_
      refine WP_aload_n dX3_faultInParts_52 rfl ?_
      refine WP_getr dX3_faultInParts_53 fX3_15 rfl (lyx_is hy 3 3 rfl) (rfx hr 3 2 1 (by decide)) ?_
      refine WQ_geti dX3_faultInParts_56 fX3_43 rfl (lyx_is hy 1 5 rfl) (BT_get hI18845.1 1 2 3 (0) (0) (4) (by decide) 2 (by decide) (by decide)) (fun v18861 ev18861 av18861 bv18861 => ?_)
      refine WP_iload dX3_faultInParts_59 rfl ?_
      refine WQ_if_eq 68 dX3_faultInParts_61 rfl (fun c18861 => ?_) (fun c18861 => False.elim (by omega))
      refine WQ_iconst (2) (2) dX3_faultInParts_68 rfl rfl (fun v18863 hv18863 => ?_)
      refine WQ_icmp_eq 74 dX3_faultInParts_69 rfl (fun c18863 => ?_) (fun c18863 => ?_)
      · refine WP_iload dX3_faultInParts_74 rfl ?_
        refine WQ_if_eq 92 dX3_faultInParts_76 rfl (fun c18864 => ?_) (fun c18864 => False.elim (by omega))
        refine WP_aload_n dX3_faultInParts_92 rfl ?_
        refine WP_iload dX3_faultInParts_93 rfl ?_
        refine WP_iload_n dX3_faultInParts_95 rfl ?_
        refine WP_iload dX3_faultInParts_96 rfl ?_
        refine WP_aload_n dX3_faultInParts_98 rfl ?_
        refine WP_callV4 (k := 3) dX3_faultInParts_99 ⟨⟨⟨by decide, by decide⟩, zX3_faultOfNumber⟩, lX3_100, by decide, rfl, vX3_faultOfNumber.1, vX3_faultOfNumber.2⟩ (lyx_is hy 3 3 rfl) (sx_part_27_11_1 hy hr hI18845 v18857 cz v18852 (by omega) (by omega) (by omega) (by omega) (by omega) (by omega)) (Nat.le_of_ble_eq_true rfl) ?_
        intro r I18866 J18867 Ra hq
        obtain ⟨⟨hI18866, ec, ⟨pI18866, sI18866_4_0, sI18866_27_1, sI18866_27_2⟩⟩, v18868, rfl, av18868, bv18868, cv18868⟩ := hq
        show WP _ _ _ _ (.int _ :: _) _ _ _ _
        rw [ec]
        clear ec Ra
        have e18869 : I18866 (ad g 4) 0 = w18843 := by rw [sI18866_4_0]; exact e18849
        have e18870 : I18866 (ad g 27) 1 = w18820 := by rw [sI18866_27_1]; exact e18847
        have e18871 : I18866 (ad g 27) 2 = w18821 := by rw [sI18866_27_2]; exact e18848
        have e18872 : I18866 (ad g 1) 1 = L := hI18866.2
        have b18873 := BT_get hI18866.1 1 1 2 (0) (0) (900) (by decide) 1 (by decide) (by decide)
        rw [e18872] at b18873
        obtain ⟨w18874, ew18874⟩ : ∃ w : Int32, I18866 (ad g 4) 1 = w := ⟨_, rfl⟩
        have bw18874 := BT_get hI18866.1 4 0 5 (0) (0) (1000) (by decide) 1 (by decide) (by decide)
        rw [ew18874] at bw18874
        rw [ew18874] at cv18868
        refine WP_istore (ls' := [(0, _), (1, _), (2, _), (3, _), (4, _), (5, _), (6, _), (7, _)]) dX3_faultInParts_102 (by decide) rfl ?_
        refine WP_iload dX3_faultInParts_104 rfl ?_
        refine WQ_if_eq 112 dX3_faultInParts_106 rfl (fun c18874 => ?_) (fun c18874 => ?_)
        · refine WP_aload_n dX3_faultInParts_112 rfl ?_
          refine WP_getr dX3_faultInParts_113 fX3_15 rfl (lyx_is hy 3 3 rfl) (rfx hr 3 2 1 (by decide)) ?_
          refine WP_callV0 (k := 5) dX3_faultInParts_116 ⟨⟨⟨by decide, by decide⟩, zX5_next⟩, lX3_40, by decide, rfl, vX5_next.1, vX5_next.2⟩ (lyx_is hy 1 5 rfl) (sx_nextf hy hr hI18866  ) (Nat.le_of_ble_eq_true rfl) ?_
          intro r I18876 J18877 Ra hq
          obtain ⟨⟨hI18876, ec, fiI18876⟩, rfl⟩ := hq
          rw [ec]
          clear ec Ra
          have e18878 : I18876 (ad g 4) 0 = w18843 := by rw [fz_at fiI18876 4 (by decide) (by decide)]; exact e18869
          have e18879 : I18876 (ad g 27) 1 = w18820 := by rw [fz_at fiI18876 27 (by decide) (by decide)]; exact e18870
          have e18880 : I18876 (ad g 27) 2 = w18821 := by rw [fz_at fiI18876 27 (by decide) (by decide)]; exact e18871
          have e18881 : I18876 (ad g 4) 1 = w18874 := by rw [fz_at fiI18876 4 (by decide) (by decide)]; exact ew18874
          have e18882 : I18876 (ad g 1) 1 = L := hI18876.2
          have b18883 := BT_get hI18876.1 1 1 2 (0) (0) (900) (by decide) 1 (by decide) (by decide)
          rw [e18882] at b18883
          refine WP_iinc (ls' := [(0, _), (1, _), (2, _), (3, _), (4, _), (5, _), (6, _), (7, _)]) dX3_faultInParts_119 rfl (by decide) rfl ?_
          have hv18884 : (v18852 + Int32.ofInt (1)).toInt = v18852.toInt + (1) := ia_n rfl (by omega) (by omega)
          generalize v18852 + Int32.ofInt (1) = v18884 at hv18884 ⊢
          refine WP_goto 8 dX3_faultInParts_122 rfl ?_
          refine WP_iload dX3_faultInParts_8 rfl ?_
          refine WP_aload_n dX3_faultInParts_10 rfl ?_
          refine WS_call hz (i := 21) (by omega) dX3_faultInParts_11 ⟨⟨by decide, by decide⟩, zJ0_length_8abf5⟩ lX3_87 vJ0_length_8abf5 (As := []) (rest := [.int v18884]) (j_length hz (i := 21) (by omega)) rfl rfl (Nat.le_of_ble_eq_true rfl) ?_
          intro r Ia Ja Ra hq
          obtain ⟨⟨ea, eb, ec⟩, v18885, rfl, cv18885⟩ := hq
          show WP _ _ _ _ (.int _ :: _) _ _ _ _
          rw [ea, eb, ec]
          clear ea eb ec Ia Ja Ra
          have hv18885 : v18885.toInt = 2 := cv18885.trans rfl
          refine WQ_icmp_ge 125 dX3_faultInParts_14 rfl (fun c18885 => ?_) (fun c18885 => False.elim (by omega))
          refine WP_aload_n dX3_faultInParts_125 rfl ?_
          refine WP_getr dX3_faultInParts_126 fX3_15 rfl (lyx_is hy 3 3 rfl) (rfx hr 3 2 1 (by decide)) ?_
          refine WQ_geti dX3_faultInParts_129 fX3_43 rfl (lyx_is hy 1 5 rfl) (BT_get hI18876.1 1 2 3 (0) (0) (4) (by decide) 2 (by decide) (by decide)) (fun v18887 ev18887 av18887 bv18887 => ?_)
          refine WQ_iconst (3) (3) dX3_faultInParts_132 rfl rfl (fun v18888 hv18888 => ?_)
          refine WQ_icmp_ne 140 dX3_faultInParts_133 rfl (fun c18888 => ?_) (fun c18888 => ?_)
          · refine WQ_iconst (1) (1) dX3_faultInParts_140 rfl rfl (fun v18890 hv18890 => ?_)
            exact WP_iret dX3_faultInParts_141 rfl ⟨⟨hI18876, rfl, ⟨trivial, (by rw [e18879, ew18820] <;> exact (eq32 _ _).mpr (by omega)), (by rw [e18880, ew18821] <;> exact (eq32 _ _).mpr (by omega))⟩⟩, _, rfl, by omega, by omega, by (try rw [e18878]; try rw [e18881]); omega⟩
          · refine WQ_iconst (0) (0) dX3_faultInParts_136 rfl rfl (fun v18891 hv18891 => ?_)
            refine WP_goto 141 dX3_faultInParts_137 rfl ?_
            exact WP_iret dX3_faultInParts_141 rfl ⟨⟨hI18876, rfl, ⟨trivial, (by rw [e18879, ew18820] <;> exact (eq32 _ _).mpr (by omega)), (by rw [e18880, ew18821] <;> exact (eq32 _ _).mpr (by omega))⟩⟩, _, rfl, by omega, by omega, by (try rw [e18878]; try rw [e18881]); omega⟩
        · refine WP_iload dX3_faultInParts_109 rfl ?_
          exact WP_iret dX3_faultInParts_111 rfl ⟨⟨hI18866, rfl, ⟨trivial, (by rw [e18870, ew18820] <;> exact (eq32 _ _).mpr (by omega)), (by rw [e18871, ew18821] <;> exact (eq32 _ _).mpr (by omega))⟩⟩, _, rfl, by omega, by omega, by (try rw [e18869]; try rw [ew18874]); omega⟩
      · refine WQ_iconst (1) (1) dX3_faultInParts_72 rfl rfl (fun v18892 hv18892 => ?_)
        obtain ⟨w18893, ew18893⟩ : ∃ w : Int32, I18845 (ad g 4) 1 = w := ⟨_, rfl⟩
        have bw18893 := BT_get hI18845.1 4 0 5 (0) (0) (1000) (by decide) 1 (by decide) (by decide)
        rw [ew18893] at bw18893
        exact WP_iret dX3_faultInParts_73 rfl ⟨⟨hI18845, rfl, ⟨trivial, (by rw [e18847, ew18820] <;> exact (eq32 _ _).mpr (by omega)), (by rw [e18848, ew18821] <;> exact (eq32 _ _).mpr (by omega))⟩⟩, _, rfl, by omega, by omega, by (try rw [e18849]; try rw [ew18893]); omega⟩
    · refine WP_iload dX3_faultInParts_109 rfl ?_
      obtain ⟨w18894, ew18894⟩ : ∃ w : Int32, I18836 (ad g 4) 1 = w := ⟨_, rfl⟩
      have bw18894 := BT_get hI18836.1 4 0 5 (0) (0) (1000) (by decide) 1 (by decide) (by decide)
      rw [ew18894] at bw18894
      exact WP_iret dX3_faultInParts_111 rfl ⟨⟨hI18836, rfl, ⟨trivial, (by rw [e18839, ew18820] <;> exact (eq32 _ _).mpr (by omega)), (by rw [e18840, ew18821] <;> exact (eq32 _ _).mpr (by omega))⟩⟩, _, rfl, by omega, by omega, by (try rw [ew18843]; try rw [ew18894]); omega⟩
  · refine WQ_iconst (1) (1) dX3_faultInParts_72 rfl rfl (fun v18895 hv18895 => ?_)
    obtain ⟨w18896, ew18896⟩ : ∃ w : Int32, I (ad g 4) 0 = w := ⟨_, rfl⟩
    have bw18896 := BT_get hI.1 4 0 5 (0) (0) (1000) (by decide) 0 (by decide) (by decide)
    rw [ew18896] at bw18896
    obtain ⟨w18897, ew18897⟩ : ∃ w : Int32, I (ad g 4) 1 = w := ⟨_, rfl⟩
    have bw18897 := BT_get hI.1 4 0 5 (0) (0) (1000) (by decide) 1 (by decide) (by decide)
    rw [ew18897] at bw18897
    exact WP_iret dX3_faultInParts_73 rfl ⟨⟨hI, rfl, ⟨trivial, rfl, rfl⟩⟩, _, rfl, by omega, by omega, by (try rw [ew18896]; try rw [ew18897]); omega⟩
