def LBx (i k : Nat) : Int := ((liB.getD i []).getD k 0).toInt
theorem LB_l : ∀ i, i < 10 → ∀ k, k < liN.getD i 0 → 97 ≤ LBx i k ∧ LBx i k ≤ 122 := by decide
theorem LB_w : ∀ i, i < 10 → wI (LBx i) 0 (liN.getD i 0) = KW i := by decide
theorem LB_n : ∀ i, i < 32 → liN.getD i 0 ≤ 5 := by decide
theorem LB_s : ∀ c, c < 12 → liN.getD (10 + c) 0 = (SHP c).length ∧ ∀ k, k < (SHP c).length → LBx (10 + c) k = ((SHP c).getD k 0 : Nat) := by decide
theorem kwd_go {w : Int} {j : Nat} (hj : j < 10) (h : KW j ≠ w) : kwd w (10 - j) j = kwd w (10 - (j + 1)) (j + 1) := by
  rw [show 10 - j = (10 - (j + 1)) + 1 by omega, kwd, if_neg h]
theorem kwd_at {w : Int} {j : Nat} (hj : j < 10) (h : KW j = w) : kwd w (10 - j) j = j := by
  rw [show 10 - j = (10 - (j + 1)) + 1 by omega, kwd, if_pos h]
set_option maxHeartbeats 4000000 in
set_option maxRecDepth 100000 in
theorem ex_leastOf {g : GG} {I : pI} {J : pJ} {R : pR} (hy : LyX g) (hr : RfX g R) {ch : Nat} (pt : Int32) (hch : pt.toInt = (ch : Int)) : SP g mX3_leastOf [.int pt] I J R (fun r I' J' R' => (I' = I ∧ J' = J ∧ R' = R) ∧ ∃ v : Int32, r = some (.int v) ∧ (v.toInt = loB ch)) := by
  refine SP_of ⟨by decide, rfl⟩ (Nat.le_of_ble_eq_true rfl) ?_
  refine WP_iload_n dX3_leastOf_0 rfl ?_
  refine WQ_bipush (80) (80) dX3_leastOf_1 rfl rfl (fun v1667 hv1667 => ?_)
  refine WQ_icmp_eq 24 dX3_leastOf_3 rfl (fun c1667 => ?_) (fun c1667 => ?_)
  · refine WQ_iconst (1) (1) dX3_leastOf_24 rfl rfl (fun v1669 hv1669 => ?_)
    refine WP_goto 29 dX3_leastOf_25 rfl ?_
    exact WP_iret dX3_leastOf_29 rfl ⟨⟨rfl, rfl, rfl⟩, v1669, rfl, by
      unfold loB
      split <;> omega⟩
  · refine WP_iload_n dX3_leastOf_6 rfl ?_
    refine WQ_bipush (69) (69) dX3_leastOf_7 rfl rfl (fun v1670 hv1670 => ?_)
    refine WQ_icmp_eq 24 dX3_leastOf_9 rfl (fun c1670 => ?_) (fun c1670 => ?_)
    · refine WQ_iconst (1) (1) dX3_leastOf_24 rfl rfl (fun v1672 hv1672 => ?_)
      refine WP_goto 29 dX3_leastOf_25 rfl ?_
      exact WP_iret dX3_leastOf_29 rfl ⟨⟨rfl, rfl, rfl⟩, v1672, rfl, by
        unfold loB
        split <;> omega⟩
    · refine WP_iload_n dX3_leastOf_12 rfl ?_
      refine WQ_bipush (85) (85) dX3_leastOf_13 rfl rfl (fun v1673 hv1673 => ?_)
      refine WQ_icmp_eq 24 dX3_leastOf_15 rfl (fun c1673 => ?_) (fun c1673 => ?_)
      · refine WQ_iconst (1) (1) dX3_leastOf_24 rfl rfl (fun v1675 hv1675 => ?_)
        refine WP_goto 29 dX3_leastOf_25 rfl ?_
        exact WP_iret dX3_leastOf_29 rfl ⟨⟨rfl, rfl, rfl⟩, v1675, rfl, by
          unfold loB
          split <;> omega⟩
      · refine WP_iload_n dX3_leastOf_18 rfl ?_
        refine WQ_bipush (73) (73) dX3_leastOf_19 rfl rfl (fun v1676 hv1676 => ?_)
        refine WQ_icmp_ne 28 dX3_leastOf_21 rfl (fun c1676 => ?_) (fun c1676 => ?_)
        · refine WQ_iconst (0) (0) dX3_leastOf_28 rfl rfl (fun v1678 hv1678 => ?_)
          exact WP_iret dX3_leastOf_29 rfl ⟨⟨rfl, rfl, rfl⟩, v1678, rfl, by
            unfold loB
            split <;> omega⟩
        · refine WQ_iconst (1) (1) dX3_leastOf_24 rfl rfl (fun v1679 hv1679 => ?_)
          refine WP_goto 29 dX3_leastOf_25 rfl ?_
          exact WP_iret dX3_leastOf_29 rfl ⟨⟨rfl, rfl, rfl⟩, v1679, rfl, by
            unfold loB
            split <;> omega⟩
set_option maxHeartbeats 4000000 in
set_option maxRecDepth 100000 in
theorem ex_mostOf {g : GG} {I : pI} {J : pJ} {R : pR} (hy : LyX g) (hr : RfX g R) {ch : Nat} (pt : Int32) (hch : pt.toInt = (ch : Int)) : SP g mX3_mostOf [.int pt] I J R (fun r I' J' R' => (I' = I ∧ J' = J ∧ R' = R) ∧ ∃ v : Int32, r = some (.int v) ∧ (v.toInt = hiB ch)) := by
  refine SP_of ⟨by decide, rfl⟩ (Nat.le_of_ble_eq_true rfl) ?_
  refine WP_iload_n dX3_mostOf_0 rfl ?_
  refine WP_tab 124 dX3_mostOf_1 rfl rfl (fun c1679 => ?_) (fun j off c1679 hj => ?_) (by decide)
  · refine WQ_bipush (99) (99) dX3_mostOf_124 rfl rfl (fun v1681 hv1681 => ?_)
    exact WP_iret dX3_mostOf_126 rfl ⟨⟨rfl, rfl, rfl⟩, v1681, rfl, by
      unfold hiB
      rw [if_neg (by omega)]
      rw [if_neg (by omega)]
      rw [if_neg (by omega)]
      rw [if_neg (by omega)]
      rw [if_neg (by omega)]
      rw [if_neg (by omega)]
      rw [if_neg (by omega)]
      rw [if_neg (by omega)]
      rw [if_neg (by omega)]
      rw [if_neg (by omega)]
      omega⟩
  · have hlt : j < 19 := by have := (Array.getElem?_eq_some_iff.mp hj).1; simpa using this
    have hcs : (j = 0 ∧ off = 105) ∨ (j = 1 ∧ off = 91) ∨ (j = 2 ∧ off = 111) ∨ (j = 3 ∧ off = 123) ∨ (j = 4 ∧ off = 108) ∨ (j = 5 ∧ off = 101) ∨ (j = 6 ∧ off = 120) ∨ (j = 7 ∧ off = 123) ∨ (j = 8 ∧ off = 123) ∨ (j = 9 ∧ off = 94) ∨ (j = 10 ∧ off = 114) ∨ (j = 11 ∧ off = 123) ∨ (j = 12 ∧ off = 123) ∨ (j = 13 ∧ off = 98) ∨ (j = 14 ∧ off = 123) ∨ (j = 15 ∧ off = 123) ∨ (j = 16 ∧ off = 123) ∨ (j = 17 ∧ off = 123) ∨ (j = 18 ∧ off = 118) := by
      match j, hlt, hj with
      | 0, _, hj => exact Or.inl ⟨rfl, (Option.some.inj hj).symm⟩
      | 1, _, hj => exact Or.inr (Or.inl ⟨rfl, (Option.some.inj hj).symm⟩)
      | 2, _, hj => exact Or.inr (Or.inr (Or.inl ⟨rfl, (Option.some.inj hj).symm⟩))
      | 3, _, hj => exact Or.inr (Or.inr (Or.inr (Or.inl ⟨rfl, (Option.some.inj hj).symm⟩)))
      | 4, _, hj => exact Or.inr (Or.inr (Or.inr (Or.inr (Or.inl ⟨rfl, (Option.some.inj hj).symm⟩))))
      | 5, _, hj => exact Or.inr (Or.inr (Or.inr (Or.inr (Or.inr (Or.inl ⟨rfl, (Option.some.inj hj).symm⟩)))))
      | 6, _, hj => exact Or.inr (Or.inr (Or.inr (Or.inr (Or.inr (Or.inr (Or.inl ⟨rfl, (Option.some.inj hj).symm⟩))))))
      | 7, _, hj => exact Or.inr (Or.inr (Or.inr (Or.inr (Or.inr (Or.inr (Or.inr (Or.inl ⟨rfl, (Option.some.inj hj).symm⟩)))))))
      | 8, _, hj => exact Or.inr (Or.inr (Or.inr (Or.inr (Or.inr (Or.inr (Or.inr (Or.inr (Or.inl ⟨rfl, (Option.some.inj hj).symm⟩))))))))
      | 9, _, hj => exact Or.inr (Or.inr (Or.inr (Or.inr (Or.inr (Or.inr (Or.inr (Or.inr (Or.inr (Or.inl ⟨rfl, (Option.some.inj hj).symm⟩)))))))))
      | 10, _, hj => exact Or.inr (Or.inr (Or.inr (Or.inr (Or.inr (Or.inr (Or.inr (Or.inr (Or.inr (Or.inr (Or.inl ⟨rfl, (Option.some.inj hj).symm⟩))))))))))
      | 11, _, hj => exact Or.inr (Or.inr (Or.inr (Or.inr (Or.inr (Or.inr (Or.inr (Or.inr (Or.inr (Or.inr (Or.inr (Or.inl ⟨rfl, (Option.some.inj hj).symm⟩)))))))))))
      | 12, _, hj => exact Or.inr (Or.inr (Or.inr (Or.inr (Or.inr (Or.inr (Or.inr (Or.inr (Or.inr (Or.inr (Or.inr (Or.inr (Or.inl ⟨rfl, (Option.some.inj hj).symm⟩))))))))))))
      | 13, _, hj => exact Or.inr (Or.inr (Or.inr (Or.inr (Or.inr (Or.inr (Or.inr (Or.inr (Or.inr (Or.inr (Or.inr (Or.inr (Or.inr (Or.inl ⟨rfl, (Option.some.inj hj).symm⟩)))))))))))))
      | 14, _, hj => exact Or.inr (Or.inr (Or.inr (Or.inr (Or.inr (Or.inr (Or.inr (Or.inr (Or.inr (Or.inr (Or.inr (Or.inr (Or.inr (Or.inr (Or.inl ⟨rfl, (Option.some.inj hj).symm⟩))))))))))))))
      | 15, _, hj => exact Or.inr (Or.inr (Or.inr (Or.inr (Or.inr (Or.inr (Or.inr (Or.inr (Or.inr (Or.inr (Or.inr (Or.inr (Or.inr (Or.inr (Or.inr (Or.inl ⟨rfl, (Option.some.inj hj).symm⟩)))))))))))))))
      | 16, _, hj => exact Or.inr (Or.inr (Or.inr (Or.inr (Or.inr (Or.inr (Or.inr (Or.inr (Or.inr (Or.inr (Or.inr (Or.inr (Or.inr (Or.inr (Or.inr (Or.inr (Or.inl ⟨rfl, (Option.some.inj hj).symm⟩))))))))))))))))
      | 17, _, hj => exact Or.inr (Or.inr (Or.inr (Or.inr (Or.inr (Or.inr (Or.inr (Or.inr (Or.inr (Or.inr (Or.inr (Or.inr (Or.inr (Or.inr (Or.inr (Or.inr (Or.inr (Or.inl ⟨rfl, (Option.some.inj hj).symm⟩)))))))))))))))))
      | 18, _, hj => exact Or.inr (Or.inr (Or.inr (Or.inr (Or.inr (Or.inr (Or.inr (Or.inr (Or.inr (Or.inr (Or.inr (Or.inr (Or.inr (Or.inr (Or.inr (Or.inr (Or.inr (Or.inr (⟨rfl, (Option.some.inj hj).symm⟩))))))))))))))))))
    clear hj hlt
    rcases hcs with ⟨rfl, rfl⟩ | ⟨rfl, rfl⟩ | ⟨rfl, rfl⟩ | ⟨rfl, rfl⟩ | ⟨rfl, rfl⟩ | ⟨rfl, rfl⟩ | ⟨rfl, rfl⟩ | ⟨rfl, rfl⟩ | ⟨rfl, rfl⟩ | ⟨rfl, rfl⟩ | ⟨rfl, rfl⟩ | ⟨rfl, rfl⟩ | ⟨rfl, rfl⟩ | ⟨rfl, rfl⟩ | ⟨rfl, rfl⟩ | ⟨rfl, rfl⟩ | ⟨rfl, rfl⟩ | ⟨rfl, rfl⟩ | ⟨rfl, rfl⟩
    · show WP _ _ 106 _ _ _ _ _ _
      refine WQ_bipush (60) (60) dX3_mostOf_106 rfl rfl (fun v1682 hv1682 => ?_)
      exact WP_iret dX3_mostOf_108 rfl ⟨⟨rfl, rfl, rfl⟩, v1682, rfl, by
        unfold hiB
        obtain rfl : ch = 67 := by omega
        exact hv1682⟩
    · show WP _ _ 92 _ _ _ _ _ _
      refine WQ_bipush (6) (6) dX3_mostOf_92 rfl rfl (fun v1683 hv1683 => ?_)
      exact WP_iret dX3_mostOf_94 rfl ⟨⟨rfl, rfl, rfl⟩, v1683, rfl, by
        unfold hiB
        obtain rfl : ch = 68 := by omega
        exact hv1683⟩
    · show WP _ _ 112 _ _ _ _ _ _
      refine WQ_bipush (20) (20) dX3_mostOf_112 rfl rfl (fun v1684 hv1684 => ?_)
      exact WP_iret dX3_mostOf_114 rfl ⟨⟨rfl, rfl, rfl⟩, v1684, rfl, by
        unfold hiB
        obtain rfl : ch = 69 := by omega
        exact hv1684⟩
    · show WP _ _ 124 _ _ _ _ _ _
      refine WQ_bipush (99) (99) dX3_mostOf_124 rfl rfl (fun v1685 hv1685 => ?_)
      exact WP_iret dX3_mostOf_126 rfl ⟨⟨rfl, rfl, rfl⟩, v1685, rfl, by
        unfold hiB
        rw [if_neg (by omega)]
        rw [if_neg (by omega)]
        rw [if_neg (by omega)]
        rw [if_neg (by omega)]
        rw [if_neg (by omega)]
        rw [if_neg (by omega)]
        rw [if_neg (by omega)]
        rw [if_neg (by omega)]
        rw [if_neg (by omega)]
        rw [if_neg (by omega)]
        omega⟩
    · show WP _ _ 109 _ _ _ _ _ _
      refine WQ_bipush (9) (9) dX3_mostOf_109 rfl rfl (fun v1686 hv1686 => ?_)
      exact WP_iret dX3_mostOf_111 rfl ⟨⟨rfl, rfl, rfl⟩, v1686, rfl, by
        unfold hiB
        obtain rfl : ch = 71 := by omega
        exact hv1686⟩
    · show WP _ _ 102 _ _ _ _ _ _
      refine WQ_sipush (1000) (1000) dX3_mostOf_102 rfl rfl (fun v1687 hv1687 => ?_)
      exact WP_iret dX3_mostOf_105 rfl ⟨⟨rfl, rfl, rfl⟩, v1687, rfl, by
        unfold hiB
        obtain rfl : ch = 72 := by omega
        exact hv1687⟩
    · show WP _ _ 121 _ _ _ _ _ _
      refine WQ_bipush (127) (127) dX3_mostOf_121 rfl rfl (fun v1688 hv1688 => ?_)
      exact WP_iret dX3_mostOf_123 rfl ⟨⟨rfl, rfl, rfl⟩, v1688, rfl, by
        unfold hiB
        obtain rfl : ch = 73 := by omega
        exact hv1688⟩
    · show WP _ _ 124 _ _ _ _ _ _
      refine WQ_bipush (99) (99) dX3_mostOf_124 rfl rfl (fun v1689 hv1689 => ?_)
      exact WP_iret dX3_mostOf_126 rfl ⟨⟨rfl, rfl, rfl⟩, v1689, rfl, by
        unfold hiB
        rw [if_neg (by omega)]
        rw [if_neg (by omega)]
        rw [if_neg (by omega)]
        rw [if_neg (by omega)]
        rw [if_neg (by omega)]
        rw [if_neg (by omega)]
        rw [if_neg (by omega)]
        rw [if_neg (by omega)]
        rw [if_neg (by omega)]
        rw [if_neg (by omega)]
        omega⟩
    · show WP _ _ 124 _ _ _ _ _ _
      refine WQ_bipush (99) (99) dX3_mostOf_124 rfl rfl (fun v1690 hv1690 => ?_)
      exact WP_iret dX3_mostOf_126 rfl ⟨⟨rfl, rfl, rfl⟩, v1690, rfl, by
        unfold hiB
        rw [if_neg (by omega)]
        rw [if_neg (by omega)]
        rw [if_neg (by omega)]
        rw [if_neg (by omega)]
        rw [if_neg (by omega)]
        rw [if_neg (by omega)]
        rw [if_neg (by omega)]
        rw [if_neg (by omega)]
        rw [if_neg (by omega)]
        rw [if_neg (by omega)]
        omega⟩
    · show WP _ _ 95 _ _ _ _ _ _
      refine WQ_sipush (900) (900) dX3_mostOf_95 rfl rfl (fun v1691 hv1691 => ?_)
      exact WP_iret dX3_mostOf_98 rfl ⟨⟨rfl, rfl, rfl⟩, v1691, rfl, by
        unfold hiB
        obtain rfl : ch = 76 := by omega
        exact hv1691⟩
    · show WP _ _ 115 _ _ _ _ _ _
      refine WQ_sipush (999) (999) dX3_mostOf_115 rfl rfl (fun v1692 hv1692 => ?_)
      exact WP_iret dX3_mostOf_118 rfl ⟨⟨rfl, rfl, rfl⟩, v1692, rfl, by
        unfold hiB
        obtain rfl : ch = 77 := by omega
        exact hv1692⟩
    · show WP _ _ 124 _ _ _ _ _ _
      refine WQ_bipush (99) (99) dX3_mostOf_124 rfl rfl (fun v1693 hv1693 => ?_)
      exact WP_iret dX3_mostOf_126 rfl ⟨⟨rfl, rfl, rfl⟩, v1693, rfl, by
        unfold hiB
        rw [if_neg (by omega)]
        rw [if_neg (by omega)]
        rw [if_neg (by omega)]
        rw [if_neg (by omega)]
        rw [if_neg (by omega)]
        rw [if_neg (by omega)]
        rw [if_neg (by omega)]
        rw [if_neg (by omega)]
        rw [if_neg (by omega)]
        rw [if_neg (by omega)]
        omega⟩
    · show WP _ _ 124 _ _ _ _ _ _
      refine WQ_bipush (99) (99) dX3_mostOf_124 rfl rfl (fun v1694 hv1694 => ?_)
      exact WP_iret dX3_mostOf_126 rfl ⟨⟨rfl, rfl, rfl⟩, v1694, rfl, by
        unfold hiB
        rw [if_neg (by omega)]
        rw [if_neg (by omega)]
        rw [if_neg (by omega)]
        rw [if_neg (by omega)]
        rw [if_neg (by omega)]
        rw [if_neg (by omega)]
        rw [if_neg (by omega)]
        rw [if_neg (by omega)]
        rw [if_neg (by omega)]
        rw [if_neg (by omega)]
        omega⟩
    · show WP _ _ 99 _ _ _ _ _ _
      refine WQ_bipush (99) (99) dX3_mostOf_99 rfl rfl (fun v1695 hv1695 => ?_)
      exact WP_iret dX3_mostOf_101 rfl ⟨⟨rfl, rfl, rfl⟩, v1695, rfl, by
        unfold hiB
        obtain rfl : ch = 80 := by omega
        exact hv1695⟩
    · show WP _ _ 124 _ _ _ _ _ _
      refine WQ_bipush (99) (99) dX3_mostOf_124 rfl rfl (fun v1696 hv1696 => ?_)
      exact WP_iret dX3_mostOf_126 rfl ⟨⟨rfl, rfl, rfl⟩, v1696, rfl, by
        unfold hiB
        rw [if_neg (by omega)]
        rw [if_neg (by omega)]
        rw [if_neg (by omega)]
        rw [if_neg (by omega)]
        rw [if_neg (by omega)]
        rw [if_neg (by omega)]
        rw [if_neg (by omega)]
        rw [if_neg (by omega)]
        rw [if_neg (by omega)]
        rw [if_neg (by omega)]
        omega⟩
    · show WP _ _ 124 _ _ _ _ _ _
      refine WQ_bipush (99) (99) dX3_mostOf_124 rfl rfl (fun v1697 hv1697 => ?_)
      exact WP_iret dX3_mostOf_126 rfl ⟨⟨rfl, rfl, rfl⟩, v1697, rfl, by
        unfold hiB
        rw [if_neg (by omega)]
        rw [if_neg (by omega)]
        rw [if_neg (by omega)]
        rw [if_neg (by omega)]
        rw [if_neg (by omega)]
        rw [if_neg (by omega)]
        rw [if_neg (by omega)]
        rw [if_neg (by omega)]
        rw [if_neg (by omega)]
        rw [if_neg (by omega)]
        omega⟩
    · show WP _ _ 124 _ _ _ _ _ _
      refine WQ_bipush (99) (99) dX3_mostOf_124 rfl rfl (fun v1698 hv1698 => ?_)
      exact WP_iret dX3_mostOf_126 rfl ⟨⟨rfl, rfl, rfl⟩, v1698, rfl, by
        unfold hiB
        rw [if_neg (by omega)]
        rw [if_neg (by omega)]
        rw [if_neg (by omega)]
        rw [if_neg (by omega)]
        rw [if_neg (by omega)]
        rw [if_neg (by omega)]
        rw [if_neg (by omega)]
        rw [if_neg (by omega)]
        rw [if_neg (by omega)]
        rw [if_neg (by omega)]
        omega⟩
    · show WP _ _ 124 _ _ _ _ _ _
      refine WQ_bipush (99) (99) dX3_mostOf_124 rfl rfl (fun v1699 hv1699 => ?_)
      exact WP_iret dX3_mostOf_126 rfl ⟨⟨rfl, rfl, rfl⟩, v1699, rfl, by
        unfold hiB
        rw [if_neg (by omega)]
        rw [if_neg (by omega)]
        rw [if_neg (by omega)]
        rw [if_neg (by omega)]
        rw [if_neg (by omega)]
        rw [if_neg (by omega)]
        rw [if_neg (by omega)]
        rw [if_neg (by omega)]
        rw [if_neg (by omega)]
        rw [if_neg (by omega)]
        omega⟩
    · show WP _ _ 119 _ _ _ _ _ _
      refine WQ_iconst (3) (3) dX3_mostOf_119 rfl rfl (fun v1700 hv1700 => ?_)
      exact WP_iret dX3_mostOf_120 rfl ⟨⟨rfl, rfl, rfl⟩, v1700, rfl, by
        unfold hiB
        obtain rfl : ch = 85 := by omega
        exact hv1700⟩
set_option maxHeartbeats 4000000 in
set_option maxRecDepth 100000 in
theorem ex_shapeOf {g : GG} {I : pI} {J : pJ} {R : pR} (hy : LyX g) (hr : RfX g R) {aK aV : Nat → Nat} {fo : Option Nat} (hz : HZ g aK aV fo) {c : Nat} (cl : Int32) (hc : cl.toInt = (c : Int)) (hc12 : c < 12) : SP g mX3_shapeOf [.int cl] I J R (fun r I' J' R' => (I' = I ∧ J' = J ∧ R' = R) ∧ r = some (.ref (aK (10 + c))) ∧ (True)) := by
  refine SP_of ⟨by decide, rfl⟩ (Nat.le_of_ble_eq_true rfl) ?_
  refine WP_iload_n dX3_shapeOf_0 rfl ?_
  refine WP_tab 93 dX3_shapeOf_1 rfl rfl (fun c1700 => ?_) (fun j off c1700 hj => ?_) (by decide)
  · obtain rfl : c = 11 := by omega
    refine WS_ldc hz 21 rfl dX3_shapeOf_93 ?_
    exact WP_aret dX3_shapeOf_95 rfl ⟨⟨rfl, rfl, rfl⟩, rfl, by
      trivial⟩
  · have hlt : j < 11 := by have := (Array.getElem?_eq_some_iff.mp hj).1; simpa using this
    have hcs : (j = 0 ∧ off = 59) ∨ (j = 1 ∧ off = 62) ∨ (j = 2 ∧ off = 65) ∨ (j = 3 ∧ off = 68) ∨ (j = 4 ∧ off = 71) ∨ (j = 5 ∧ off = 74) ∨ (j = 6 ∧ off = 77) ∨ (j = 7 ∧ off = 80) ∨ (j = 8 ∧ off = 83) ∨ (j = 9 ∧ off = 86) ∨ (j = 10 ∧ off = 89) := by
      match j, hlt, hj with
      | 0, _, hj => exact Or.inl ⟨rfl, (Option.some.inj hj).symm⟩
      | 1, _, hj => exact Or.inr (Or.inl ⟨rfl, (Option.some.inj hj).symm⟩)
      | 2, _, hj => exact Or.inr (Or.inr (Or.inl ⟨rfl, (Option.some.inj hj).symm⟩))
      | 3, _, hj => exact Or.inr (Or.inr (Or.inr (Or.inl ⟨rfl, (Option.some.inj hj).symm⟩)))
      | 4, _, hj => exact Or.inr (Or.inr (Or.inr (Or.inr (Or.inl ⟨rfl, (Option.some.inj hj).symm⟩))))
      | 5, _, hj => exact Or.inr (Or.inr (Or.inr (Or.inr (Or.inr (Or.inl ⟨rfl, (Option.some.inj hj).symm⟩)))))
      | 6, _, hj => exact Or.inr (Or.inr (Or.inr (Or.inr (Or.inr (Or.inr (Or.inl ⟨rfl, (Option.some.inj hj).symm⟩))))))
      | 7, _, hj => exact Or.inr (Or.inr (Or.inr (Or.inr (Or.inr (Or.inr (Or.inr (Or.inl ⟨rfl, (Option.some.inj hj).symm⟩)))))))
      | 8, _, hj => exact Or.inr (Or.inr (Or.inr (Or.inr (Or.inr (Or.inr (Or.inr (Or.inr (Or.inl ⟨rfl, (Option.some.inj hj).symm⟩))))))))
      | 9, _, hj => exact Or.inr (Or.inr (Or.inr (Or.inr (Or.inr (Or.inr (Or.inr (Or.inr (Or.inr (Or.inl ⟨rfl, (Option.some.inj hj).symm⟩)))))))))
      | 10, _, hj => exact Or.inr (Or.inr (Or.inr (Or.inr (Or.inr (Or.inr (Or.inr (Or.inr (Or.inr (Or.inr (⟨rfl, (Option.some.inj hj).symm⟩))))))))))
    clear hj hlt
    rcases hcs with ⟨rfl, rfl⟩ | ⟨rfl, rfl⟩ | ⟨rfl, rfl⟩ | ⟨rfl, rfl⟩ | ⟨rfl, rfl⟩ | ⟨rfl, rfl⟩ | ⟨rfl, rfl⟩ | ⟨rfl, rfl⟩ | ⟨rfl, rfl⟩ | ⟨rfl, rfl⟩ | ⟨rfl, rfl⟩
    · show WP _ _ 60 _ _ _ _ _ _
      obtain rfl : c = 0 := by omega
      refine WS_ldc hz 10 rfl dX3_shapeOf_60 ?_
      exact WP_aret dX3_shapeOf_62 rfl ⟨⟨rfl, rfl, rfl⟩, rfl, by
        trivial⟩
    · show WP _ _ 63 _ _ _ _ _ _
      obtain rfl : c = 1 := by omega
      refine WS_ldc hz 11 rfl dX3_shapeOf_63 ?_
      exact WP_aret dX3_shapeOf_65 rfl ⟨⟨rfl, rfl, rfl⟩, rfl, by
        trivial⟩
    · show WP _ _ 66 _ _ _ _ _ _
      obtain rfl : c = 2 := by omega
      refine WS_ldc hz 12 rfl dX3_shapeOf_66 ?_
      exact WP_aret dX3_shapeOf_68 rfl ⟨⟨rfl, rfl, rfl⟩, rfl, by
        trivial⟩
    · show WP _ _ 69 _ _ _ _ _ _
      obtain rfl : c = 3 := by omega
      refine WS_ldc hz 13 rfl dX3_shapeOf_69 ?_
      exact WP_aret dX3_shapeOf_71 rfl ⟨⟨rfl, rfl, rfl⟩, rfl, by
        trivial⟩
    · show WP _ _ 72 _ _ _ _ _ _
      obtain rfl : c = 4 := by omega
      refine WS_ldc hz 14 rfl dX3_shapeOf_72 ?_
      exact WP_aret dX3_shapeOf_74 rfl ⟨⟨rfl, rfl, rfl⟩, rfl, by
        trivial⟩
    · show WP _ _ 75 _ _ _ _ _ _
      obtain rfl : c = 5 := by omega
      refine WS_ldc hz 15 rfl dX3_shapeOf_75 ?_
      exact WP_aret dX3_shapeOf_77 rfl ⟨⟨rfl, rfl, rfl⟩, rfl, by
        trivial⟩
    · show WP _ _ 78 _ _ _ _ _ _
      obtain rfl : c = 6 := by omega
      refine WS_ldc hz 16 rfl dX3_shapeOf_78 ?_
      exact WP_aret dX3_shapeOf_80 rfl ⟨⟨rfl, rfl, rfl⟩, rfl, by
        trivial⟩
    · show WP _ _ 81 _ _ _ _ _ _
      obtain rfl : c = 7 := by omega
      refine WS_ldc hz 17 rfl dX3_shapeOf_81 ?_
      exact WP_aret dX3_shapeOf_83 rfl ⟨⟨rfl, rfl, rfl⟩, rfl, by
        trivial⟩
    · show WP _ _ 84 _ _ _ _ _ _
      obtain rfl : c = 8 := by omega
      refine WS_ldc hz 18 rfl dX3_shapeOf_84 ?_
      exact WP_aret dX3_shapeOf_86 rfl ⟨⟨rfl, rfl, rfl⟩, rfl, by
        trivial⟩
    · show WP _ _ 87 _ _ _ _ _ _
      obtain rfl : c = 9 := by omega
      refine WS_ldc hz 19 rfl dX3_shapeOf_87 ?_
      exact WP_aret dX3_shapeOf_89 rfl ⟨⟨rfl, rfl, rfl⟩, rfl, by
        trivial⟩
    · show WP _ _ 90 _ _ _ _ _ _
      obtain rfl : c = 10 := by omega
      refine WS_ldc hz 20 rfl dX3_shapeOf_90 ?_
      exact WP_aret dX3_shapeOf_92 rfl ⟨⟨rfl, rfl, rfl⟩, rfl, by
        trivial⟩
set_option maxHeartbeats 4000000 in
set_option maxRecDepth 100000 in
theorem ex_wordOf {g : GG} {I : pI} {J : pJ} {R : pR} (hy : LyX g) (hr : RfX g R) {aK aV : Nat → Nat} {fo : Option Nat} (hz : HZ g aK aV fo) {c : Nat} (cl : Int32) (hc : cl.toInt = (c : Int)) (hc12 : c < 10) : SP g mX3_wordOf [.int cl] I J R (fun r I' J' R' => (I' = I ∧ J' = J ∧ R' = R) ∧ r = some (.ref (aK (c))) ∧ (True)) := by
  refine SP_of ⟨by decide, rfl⟩ (Nat.le_of_ble_eq_true rfl) ?_
  refine WP_iload_n dX3_wordOf_0 rfl ?_
  refine WP_tab 79 dX3_wordOf_1 rfl rfl (fun c1701 => ?_) (fun j off c1701 hj => ?_) (by decide)
  · obtain rfl : c = 9 := by omega
    refine WS_ldc hz 9 rfl dX3_wordOf_79 ?_
    exact WP_aret dX3_wordOf_81 rfl ⟨⟨rfl, rfl, rfl⟩, rfl, by
      trivial⟩
  · have hlt : j < 9 := by have := (Array.getElem?_eq_some_iff.mp hj).1; simpa using this
    have hcs : (j = 0 ∧ off = 51) ∨ (j = 1 ∧ off = 54) ∨ (j = 2 ∧ off = 57) ∨ (j = 3 ∧ off = 60) ∨ (j = 4 ∧ off = 63) ∨ (j = 5 ∧ off = 66) ∨ (j = 6 ∧ off = 69) ∨ (j = 7 ∧ off = 72) ∨ (j = 8 ∧ off = 75) := by
      match j, hlt, hj with
      | 0, _, hj => exact Or.inl ⟨rfl, (Option.some.inj hj).symm⟩
      | 1, _, hj => exact Or.inr (Or.inl ⟨rfl, (Option.some.inj hj).symm⟩)
      | 2, _, hj => exact Or.inr (Or.inr (Or.inl ⟨rfl, (Option.some.inj hj).symm⟩))
      | 3, _, hj => exact Or.inr (Or.inr (Or.inr (Or.inl ⟨rfl, (Option.some.inj hj).symm⟩)))
      | 4, _, hj => exact Or.inr (Or.inr (Or.inr (Or.inr (Or.inl ⟨rfl, (Option.some.inj hj).symm⟩))))
      | 5, _, hj => exact Or.inr (Or.inr (Or.inr (Or.inr (Or.inr (Or.inl ⟨rfl, (Option.some.inj hj).symm⟩)))))
      | 6, _, hj => exact Or.inr (Or.inr (Or.inr (Or.inr (Or.inr (Or.inr (Or.inl ⟨rfl, (Option.some.inj hj).symm⟩))))))
      | 7, _, hj => exact Or.inr (Or.inr (Or.inr (Or.inr (Or.inr (Or.inr (Or.inr (Or.inl ⟨rfl, (Option.some.inj hj).symm⟩)))))))
      | 8, _, hj => exact Or.inr (Or.inr (Or.inr (Or.inr (Or.inr (Or.inr (Or.inr (Or.inr (⟨rfl, (Option.some.inj hj).symm⟩))))))))
    clear hj hlt
    rcases hcs with ⟨rfl, rfl⟩ | ⟨rfl, rfl⟩ | ⟨rfl, rfl⟩ | ⟨rfl, rfl⟩ | ⟨rfl, rfl⟩ | ⟨rfl, rfl⟩ | ⟨rfl, rfl⟩ | ⟨rfl, rfl⟩ | ⟨rfl, rfl⟩
    · show WP _ _ 52 _ _ _ _ _ _
      obtain rfl : c = 0 := by omega
      refine WS_ldc hz 0 rfl dX3_wordOf_52 ?_
      exact WP_aret dX3_wordOf_54 rfl ⟨⟨rfl, rfl, rfl⟩, rfl, by
        trivial⟩
    · show WP _ _ 55 _ _ _ _ _ _
      obtain rfl : c = 1 := by omega
      refine WS_ldc hz 1 rfl dX3_wordOf_55 ?_
      exact WP_aret dX3_wordOf_57 rfl ⟨⟨rfl, rfl, rfl⟩, rfl, by
        trivial⟩
    · show WP _ _ 58 _ _ _ _ _ _
      obtain rfl : c = 2 := by omega
      refine WS_ldc hz 2 rfl dX3_wordOf_58 ?_
      exact WP_aret dX3_wordOf_60 rfl ⟨⟨rfl, rfl, rfl⟩, rfl, by
        trivial⟩
    · show WP _ _ 61 _ _ _ _ _ _
      obtain rfl : c = 3 := by omega
      refine WS_ldc hz 3 rfl dX3_wordOf_61 ?_
      exact WP_aret dX3_wordOf_63 rfl ⟨⟨rfl, rfl, rfl⟩, rfl, by
        trivial⟩
    · show WP _ _ 64 _ _ _ _ _ _
      obtain rfl : c = 4 := by omega
      refine WS_ldc hz 4 rfl dX3_wordOf_64 ?_
      exact WP_aret dX3_wordOf_66 rfl ⟨⟨rfl, rfl, rfl⟩, rfl, by
        trivial⟩
    · show WP _ _ 67 _ _ _ _ _ _
      obtain rfl : c = 5 := by omega
      refine WS_ldc hz 5 rfl dX3_wordOf_67 ?_
      exact WP_aret dX3_wordOf_69 rfl ⟨⟨rfl, rfl, rfl⟩, rfl, by
        trivial⟩
    · show WP _ _ 70 _ _ _ _ _ _
      obtain rfl : c = 6 := by omega
      refine WS_ldc hz 6 rfl dX3_wordOf_70 ?_
      exact WP_aret dX3_wordOf_72 rfl ⟨⟨rfl, rfl, rfl⟩, rfl, by
        trivial⟩
    · show WP _ _ 73 _ _ _ _ _ _
      obtain rfl : c = 7 := by omega
      refine WS_ldc hz 7 rfl dX3_wordOf_73 ?_
      exact WP_aret dX3_wordOf_75 rfl ⟨⟨rfl, rfl, rfl⟩, rfl, by
        trivial⟩
    · show WP _ _ 76 _ _ _ _ _ _
      obtain rfl : c = 8 := by omega
      refine WS_ldc hz 8 rfl dX3_wordOf_76 ?_
      exact WP_aret dX3_wordOf_78 rfl ⟨⟨rfl, rfl, rfl⟩, rfl, by
        trivial⟩
set_option maxHeartbeats 4000000 in
set_option maxRecDepth 100000 in
theorem ex_lettersOf {g : GG} {I : pI} {J : pJ} {R : pR} (hy : LyX g) (hr : RfX g R) {aK aV : Nat → Nat} {fo : Option Nat} (hz : HZ g aK aV fo)  (i : Nat) (hi : i < 10) : SP g mX3_lettersOf [.ref (aK (i))] I J R (fun r I' J' R' => (I' = I ∧ J' = J ∧ R' = R) ∧ ∃ v : Int64, r = some (.long v) ∧ (v.toInt = KW i)) := by
  refine SP_of ⟨by decide, rfl⟩ (Nat.le_of_ble_eq_true rfl) ?_
  have hn5 := LB_n i (by omega)
  refine WP_lconst (0) dX3_lettersOf_0 rfl ?_
  obtain ⟨l1703, hl1703, el1703⟩ : ∃ v : Int64, v.toInt = 0 ∧ (0 : Int64) = v := ⟨_, rfl, rfl⟩
  rw [el1703]
  refine WP_lstore_n (ls' := [(0, _), (1, _)]) dX3_lettersOf_1 (by decide) rfl ?_
  refine WQ_iconst (0) (0) dX3_lettersOf_2 rfl rfl (fun v1704 hv1704 => ?_)
  refine WP_istore_n (ls' := [(0, _), (1, _), (3, _)]) dX3_lettersOf_3 (by decide) rfl ?_
  have lp1707 : ∀ (mz : Nat) (l1705 : Int64) (i1706 : Int32), (∃ j : Nat, i1706.toInt = (j : Int) ∧ j ≤ liN.getD i 0 ∧ l1705.toInt = wI (LBx i) 0 j) → (6 - i1706.toInt.toNat) < mz → WP g mX3_lettersOf 4 [(0, .ref (aK (i))), (1, .long l1705), (3, .int i1706)] [] I J R (fun r I' J' R' => (I' = I ∧ J' = J ∧ R' = R) ∧ ∃ v : Int64, r = some (.long v) ∧ (v.toInt = KW i)) := by
    intro mz
    induction mz with
    | zero =>
      intro l1705 i1706  hvlp1707 hmlp1707
      exact absurd hmlp1707 (Nat.not_lt_zero _)
    | succ mz ihlp1707 =>
      intro l1705 i1706  hvlp1707 hmlp1707
      obtain ⟨j, ij, ijn, iw⟩ := hvlp1707
      refine WP_iload_n dX3_lettersOf_4 rfl ?_
      refine WP_aload_n dX3_lettersOf_5 rfl ?_
      refine WS_call hz (i := i) (by omega) dX3_lettersOf_6 ⟨⟨by decide, by decide⟩, zJ0_length_8abf5⟩ lX3_87 vJ0_length_8abf5 (As := []) (rest := [.int i1706]) (j_length hz (i := i) (by omega)) rfl rfl (Nat.le_of_ble_eq_true rfl) ?_
      intro r Ia Ja Ra hq
      obtain ⟨⟨ea, eb, ec⟩, v1708, rfl, cv1708⟩ := hq
      show WP _ _ _ _ (.int _ :: _) _ _ _ _
      rw [ea, eb, ec]
      clear ea eb ec Ia Ja Ra
      have lv1708 := (li_len (i) (by omega)).2.2
      refine WQ_icmp_ge 30 dX3_lettersOf_9 rfl (fun c1708 => ?_) (fun c1708 => ?_)
      · refine WP_lload_n dX3_lettersOf_30 rfl ?_
        exact WP_lret dX3_lettersOf_31 rfl ⟨⟨rfl, rfl, rfl⟩, l1705, rfl, by
          rw [iw, ← LB_w i hi]
          rw [show j = liN.getD i 0 by omega]⟩
      · have hlj := LB_l i hi j (by omega)
        have hwb := wI_b (B := LBx i) (a := 0) (k := j) (fun q h1 h2 => LB_l i hi q (by omega))
        have hp := p256 j (by omega)
        refine WP_lload_n dX3_lettersOf_12 rfl ?_
        refine WQ_bipush (8) (8) dX3_lettersOf_13 rfl rfl (fun v1710 hv1710 => ?_)
        refine WP_lshl dX3_lettersOf_15 ?_
        obtain ⟨l1711, xl1711⟩ : ∃ v : Int64, v = l1705 <<< (v1710.toInt64 &&& 63) := ⟨_, rfl⟩
        rw [← xl1711]
        refine WP_aload_n dX3_lettersOf_16 rfl ?_
        refine WP_iload_n dX3_lettersOf_17 rfl ?_
        refine WS_call hz (i := i) (by omega) dX3_lettersOf_18 ⟨⟨by decide, by decide⟩, zJ0_charAt_5068e⟩ lX3_92 vJ0_charAt_5068e (As := [.int i1706]) (rest := [.long l1711]) (j_charAt hz (i := i) (k := i1706) (by omega) (by omega) (by omega)) rfl rfl (Nat.le_of_ble_eq_true rfl) ?_
        intro r Ia Ja Ra hq
        obtain ⟨⟨ea, eb, ec⟩, v1712, rfl, cv1712⟩ := hq
        show WP _ _ _ _ (.int _ :: _) _ _ _ _
        rw [ea, eb, ec]
        clear ea eb ec Ia Ja Ra
        have hbj : v1712.toInt = LBx i j := by
          rw [cv1712, show i1706.toInt.toNat = j by omega]
          rfl
        refine WP_i2l dX3_lettersOf_21 ?_
        obtain ⟨l1713, xl1713⟩ : ∃ v : Int64, v = v1712.toInt64 := ⟨_, rfl⟩
        rw [← xl1713]
        have hl1713 : l1713.toInt = v1712.toInt := by rw [xl1713]; exact t64 _
        refine WP_lor dX3_lettersOf_22 ?_
        obtain ⟨l1714, xl1714⟩ : ∃ v : Int64, v = l1711 ||| l1713 := ⟨_, rfl⟩
        rw [← xl1714]
        refine WP_lstore_n (ls' := [(0, _), (1, _), (3, _)]) dX3_lettersOf_23 (by decide) rfl ?_
        refine WP_iinc (ls' := [(0, _), (1, _), (3, _)]) dX3_lettersOf_24 rfl (by decide) rfl ?_
        have hv1715 : (i1706 + Int32.ofInt (1)).toInt = i1706.toInt + (1) := ia_n rfl (by omega) (by omega)
        generalize i1706 + Int32.ofInt (1) = v1715 at hv1715 ⊢
        refine WP_goto 4 dX3_lettersOf_27 rfl ?_
        refine WP_sub (fc rfl (fc rfl (fc rfl fn))) (ihlp1707 l1714 v1715  ?_ ?_)
        · refine ⟨j + 1, by omega, by omega, ?_⟩
          rw [wI, Nat.zero_add, ← iw, ← hbj, ← hl1713]
          exact lsor8 hv1710 xl1711 xl1714 (by omega) (by omega) (by omega) (by omega)
        · omega
  refine WP_sub (fc rfl (fc rfl (fc rfl fn))) (lp1707 _ l1703 v1704  ?_ (Nat.lt_succ_self _))
  · exact ⟨0, by omega, by omega, by show _ = (0 : Int); omega⟩
set_option maxHeartbeats 4000000 in
set_option maxRecDepth 100000 in
theorem ex_clauseAtHand {g : GG} {I : pI} {J : pJ} {R : pR} (hy : LyX g) (hr : RfX g R) {aK aV : Nat → Nat} {fo : Option Nat} (hz : HZ g aK aV fo) {B : Nat → Int} {n p : Nat}  (hC : CUX g B n p I J) : SP g mX3_clauseAtHand [.ref (ad g 3)] I J R (fun r I' J' R' => (I' = I ∧ J' = J ∧ R' = R) ∧ ∃ v : Int32, r = some (.int v) ∧ ((v.toInt = -1 ∧ cls B n p = 99) ∨ (v.toInt = (cls B n p : Nat) ∧ cls B n p < 10))) := by
  refine SP_of ⟨by decide, rfl⟩ (Nat.le_of_ble_eq_true rfl) ?_
  have c2 := hC.2.2.1
  have c5 := hC.2.2.2.2
  obtain ⟨w1716, ew1716⟩ : ∃ w : Int32, I (ad g 1) 2 = w := ⟨_, rfl⟩
  obtain ⟨w1717, ew1717⟩ : ∃ w : Int64, J (ad g 1) 5 = w := ⟨_, rfl⟩
  try simp only [ew1716, ew1717] at c2 c5
  refine WQ_iconst (0) (0) dX3_clauseAtHand_0 rfl rfl (fun v1718 hv1718 => ?_)
  refine WP_istore_n (ls' := [(0, _), (1, _)]) dX3_clauseAtHand_1 (by decide) rfl ?_
  have lp1720 : ∀ (mz : Nat) (i1719 : Int32), (∃ j : Nat, i1719.toInt = (j : Int) ∧ j ≤ 10 ∧ kwd (tW B n p) (10 - j) j = kwd (tW B n p) 10 0) → (10 - i1719.toInt.toNat) < mz → WP g mX3_clauseAtHand 2 [(0, .ref (ad g 3)), (1, .int i1719)] [] I J R (fun r I' J' R' => (I' = I ∧ J' = J ∧ R' = R) ∧ ∃ v : Int32, r = some (.int v) ∧ ((v.toInt = -1 ∧ cls B n p = 99) ∨ (v.toInt = (cls B n p : Nat) ∧ cls B n p < 10))) := by
    intro mz
    induction mz with
    | zero =>
      intro i1719  hvlp1720 hmlp1720
      exact absurd hmlp1720 (Nat.not_lt_zero _)
    | succ mz ihlp1720 =>
      intro i1719  hvlp1720 hmlp1720
      try simp only [ew1716, ew1717] at hvlp1720 hmlp1720
      obtain ⟨j, ij, ijn, ik⟩ := hvlp1720
      refine WP_aload_n dX3_clauseAtHand_2 rfl ?_
      refine WP_getr dX3_clauseAtHand_3 fX3_15 rfl (lyx_is hy 3 3 rfl) (rfx hr 3 2 1 (by decide)) ?_
      refine WQ_getim dX3_clauseAtHand_6 fX3_43 rfl (lyx_is hy 1 5 rfl) ew1716 ?_
      refine WQ_iconst (1) (1) dX3_clauseAtHand_9 rfl rfl (fun v1721 hv1721 => ?_)
      refine WQ_icmp_ne 45 dX3_clauseAtHand_10 rfl (fun c1721 => ?_) (fun c1721 => ?_)
      · refine WQ_iconst (-1) (-1) dX3_clauseAtHand_45 rfl rfl (fun v1723 hv1723 => ?_)
        exact WP_iret dX3_clauseAtHand_46 rfl ⟨⟨rfl, rfl, rfl⟩, v1723, rfl, by
          try simp only [ew1716, ew1717]
          refine Or.inl ⟨by omega, ?_⟩
          unfold cls
          split
          · rw [← ik, show j = 10 by omega]; rfl
          · rfl⟩
      · refine WP_iload_n dX3_clauseAtHand_13 rfl ?_
        refine WQ_bipush (10) (10) dX3_clauseAtHand_14 rfl rfl (fun v1724 hv1724 => ?_)
        refine WQ_icmp_ge 45 dX3_clauseAtHand_16 rfl (fun c1724 => ?_) (fun c1724 => ?_)
        · refine WQ_iconst (-1) (-1) dX3_clauseAtHand_45 rfl rfl (fun v1726 hv1726 => ?_)
          exact WP_iret dX3_clauseAtHand_46 rfl ⟨⟨rfl, rfl, rfl⟩, v1726, rfl, by
            try simp only [ew1716, ew1717]
            refine Or.inl ⟨by omega, ?_⟩
            unfold cls
            split
            · rw [← ik, show j = 10 by omega]; rfl
            · rfl⟩
        · refine WP_iload_n dX3_clauseAtHand_19 rfl ?_
          refine WP_callS1 dX3_clauseAtHand_20 ⟨⟨⟨by decide, by decide⟩, zX3_wordOf⟩, lX3_72, tX3_wordOf⟩ (ex_wordOf hy hr hz _  (c := j) (by omega) (by omega)) (Nat.le_of_ble_eq_true rfl) ?_
          intro r Ia Ja Ra hq
          obtain ⟨⟨ea, eb, ec⟩, er, p1727⟩ := hq
          rw [ea, eb, ec, er]
          clear ea eb ec er Ia Ja Ra r
          refine WP_callS1 dX3_clauseAtHand_23 ⟨⟨⟨by decide, by decide⟩, zX3_lettersOf⟩, lX3_76, tX3_lettersOf⟩ (ex_lettersOf hy hr hz _  (by omega)) (Nat.le_of_ble_eq_true rfl) ?_
          intro r Ia Ja Ra hq
          obtain ⟨⟨ea, eb, ec⟩, l1729, er, p1728⟩ := hq
          rw [ea, eb, ec, er]
          clear ea eb ec er Ia Ja Ra r
          refine WP_aload_n dX3_clauseAtHand_26 rfl ?_
          refine WP_getr dX3_clauseAtHand_27 fX3_15 rfl (lyx_is hy 3 3 rfl) (rfx hr 3 2 1 (by decide)) ?_
          refine WP_getl dX3_clauseAtHand_30 fX3_80 rfl (lyx_is hy 1 5 rfl) ?_
          rw [ew1717]
          refine WP_lcmp dX3_clauseAtHand_33 ?_
          obtain ⟨v1730, xv1730⟩ : ∃ v : Int32, v = lg_cmp l1729 w1717 := ⟨_, rfl⟩
          rw [← xv1730]
          have hv1730 := cmp_z l1729 w1717 v1730 xv1730
          refine WQ_if_ne 39 dX3_clauseAtHand_34 rfl (fun c1730 => ?_) (fun c1730 => ?_)
          · have hne : KW j ≠ tW B n p := by rw [← c5 (by omega), ← p1728]; omega
            refine WP_iinc (ls' := [(0, _), (1, _)]) dX3_clauseAtHand_39 rfl (by decide) rfl ?_
            have hv1732 : (i1719 + Int32.ofInt (1)).toInt = i1719.toInt + (1) := ia_n rfl (by omega) (by omega)
            generalize i1719 + Int32.ofInt (1) = v1732 at hv1732 ⊢
            refine WP_goto 2 dX3_clauseAtHand_42 rfl ?_
            refine WP_sub (fc rfl (fc rfl fn)) (ihlp1720 v1732  ?_ ?_)
            · try simp only [ew1716, ew1717]
              refine ⟨j + 1, by omega, by omega, ?_⟩
              rw [← kwd_go (by omega) hne]; exact ik
            · try simp only [ew1716, ew1717]
              omega
          · have hey : KW j = tW B n p := by rw [← c5 (by omega), ← p1728]; omega
            refine WP_iload_n dX3_clauseAtHand_37 rfl ?_
            exact WP_iret dX3_clauseAtHand_38 rfl ⟨⟨rfl, rfl, rfl⟩, i1719, rfl, by
              try simp only [ew1716, ew1717]
              have hcl : cls B n p = j := by
                unfold cls
                rw [if_pos (by omega), ← ik, kwd_at (by omega) hey]
              rw [hcl]
              exact Or.inr ⟨by omega, by omega⟩⟩
  refine WP_sub (fc rfl (fc rfl fn)) (lp1720 _ v1718  ?_ (Nat.lt_succ_self _))
  · try simp only [ew1716, ew1717]
    exact ⟨0, by omega, by omega, rfl⟩
set_option maxHeartbeats 4000000 in
set_option maxRecDepth 100000 in
theorem ex_note {g : GG} {I : pI} {J : pJ} {R : pR} (hy : LyX g) (hr : RfX g R)  (kd : Int32)  : SP g mX3_note [.ref (ad g 3), .int kd] I J R (fun r I' J' R' => R' = R ∧ FC g [3] I I' ∧ FC g [] J J' ∧ r = none ∧ (I' (ad g 3) 0 = kd ∧ (kd.toInt = 0 → (I' (ad g 3) 1).toInt = -1) ∧ (kd.toInt ≠ 0 → I' (ad g 3) 1 = I (ad g 1) 3))) := by
  refine SP_of ⟨by decide, rfl⟩ (Nat.le_of_ble_eq_true rfl) ?_
  have fI0 : FC g [3] I I := FC_rf
  have fJ0 : FC g [] J J := FC_rf
  obtain ⟨w1733, ew1733⟩ : ∃ w : Int32, I (ad g 3) 0 = w := ⟨_, rfl⟩
  obtain ⟨w1734, ew1734⟩ : ∃ w : Int32, I (ad g 3) 1 = w := ⟨_, rfl⟩
  obtain ⟨w1735, ew1735⟩ : ∃ w : Int32, I (ad g 1) 3 = w := ⟨_, rfl⟩
  refine WP_aload_n dX3_note_0 rfl ?_
  refine WP_iload_n dX3_note_1 rfl ?_
  refine WQ_puti dX3_note_2 fX3_19 rfl rfl (lyx_is hy 3 3 rfl) (fun I1736 eI1736 => ?_)
  have e1737 : I1736 (ad g 3) 1 = w1734 := by rw [eI1736, pp_ne _ _ (Or.inr (by decide))]; exact ew1734
  have e1738 : I1736 (ad g 1) 3 = w1735 := by rw [eI1736, pp_ne _ _ (Or.inl (lyx_ne hy (by decide) (by decide) (by decide)))]; exact ew1735
  have e1739 : I1736 (ad g 3) 0 = kd := by rw [eI1736, pp_self]
  have fI1740 : FC g [3] I I1736 := by rw [eI1736]; exact FC_pp fI0 (by decide)
  refine WP_aload_n dX3_note_5 rfl ?_
  refine WP_iload_n dX3_note_6 rfl ?_
  refine WQ_if_ne 14 dX3_note_7 rfl (fun c1740 => ?_) (fun c1740 => ?_)
  · refine WP_aload_n dX3_note_14 rfl ?_
    refine WP_getr dX3_note_15 fX3_15 rfl (lyx_is hy 3 3 rfl) (rfx hr 3 2 1 (by decide)) ?_
    refine WQ_getim dX3_note_18 fX3_69 rfl (lyx_is hy 1 5 rfl) e1738 ?_
    refine WQ_puti dX3_note_21 fX3_23 rfl rfl (lyx_is hy 3 3 rfl) (fun I1742 eI1742 => ?_)
    have e1743 : I1742 (ad g 1) 3 = w1735 := by rw [eI1742, pp_ne _ _ (Or.inl (lyx_ne hy (by decide) (by decide) (by decide)))]; exact e1738
    have e1744 : I1742 (ad g 3) 0 = kd := by rw [eI1742, pp_ne _ _ (Or.inr (by decide))]; exact e1739
    have e1745 : I1742 (ad g 3) 1 = w1735 := by rw [eI1742, pp_self]
    have fI1746 : FC g [3] I I1742 := by rw [eI1742]; exact FC_pp fI1740 (by decide)
    exact WP_vret dX3_note_24 rfl ⟨rfl, fI1746, fJ0, rfl, by
      try simp only [e1743, e1744, e1745, ew1733, ew1734, ew1735]
      refine ⟨by first | rfl | trivial, fun h => ?_, fun h => ?_⟩
      · first
        | omega
        | exact absurd h (by omega)
      · first
        | rfl
        | trivial
        | exact absurd (by omega) h⟩
  · refine WQ_iconst (-1) (-1) dX3_note_10 rfl rfl (fun v1747 hv1747 => ?_)
    refine WP_goto 21 dX3_note_11 rfl ?_
    refine WQ_puti dX3_note_21 fX3_23 rfl rfl (lyx_is hy 3 3 rfl) (fun I1748 eI1748 => ?_)
    have e1749 : I1748 (ad g 1) 3 = w1735 := by rw [eI1748, pp_ne _ _ (Or.inl (lyx_ne hy (by decide) (by decide) (by decide)))]; exact e1738
    have e1750 : I1748 (ad g 3) 0 = kd := by rw [eI1748, pp_ne _ _ (Or.inr (by decide))]; exact e1739
    have e1751 : I1748 (ad g 3) 1 = v1747 := by rw [eI1748, pp_self]
    have fI1752 : FC g [3] I I1748 := by rw [eI1748]; exact FC_pp fI1740 (by decide)
    exact WP_vret dX3_note_24 rfl ⟨rfl, fI1752, fJ0, rfl, by
      try simp only [e1749, e1750, e1751, ew1733, ew1734, ew1735]
      refine ⟨by first | rfl | trivial, fun h => ?_, fun h => ?_⟩
      · first
        | omega
        | exact absurd h (by omega)
      · first
        | rfl
        | trivial
        | exact absurd (by omega) h⟩
set_option maxHeartbeats 4000000 in
set_option maxRecDepth 100000 in
theorem ex_rewind {g : GG} {I : pI} {J : pJ} {R : pR} (hy : LyX g) (hr : RfX g R) {B : Nat → Int} {n : Nat}  (hT : TPX g B n I) : SP g mX5_rewind [.ref (ad g 1)] I J R (fun r I' J' R' => R' = R ∧ FC g [1] I I' ∧ FC g [] J J' ∧ r = none ∧ (TPX g B n I' ∧ (I' (ad g 1) 6).toInt = 0)) := by
  refine SP_of ⟨by decide, rfl⟩ (Nat.le_of_ble_eq_true rfl) ?_
  have fI0 : FC g [1] I I := FC_rf
  have fJ0 : FC g [] J J := FC_rf
  have hT1 := hT.1
  obtain ⟨w1753, ew1753⟩ : ∃ w : Int32, I (ad g 1) 1 = w := ⟨_, rfl⟩
  obtain ⟨w1754, ew1754⟩ : ∃ w : Int32, I (ad g 1) 6 = w := ⟨_, rfl⟩
  try simp only [ew1753, ew1754] at hT1
  refine WP_aload_n dX5_rewind_0 rfl ?_
  refine WQ_iconst (0) (0) dX5_rewind_1 rfl rfl (fun v1755 hv1755 => ?_)
  refine WQ_puti dX5_rewind_2 fX5_19 rfl rfl (lyx_is hy 1 5 rfl) (fun I1756 eI1756 => ?_)
  have e1757 : I1756 (ad g 1) 1 = w1753 := by rw [eI1756, pp_ne _ _ (Or.inr (by decide))]; exact ew1753
  have e1758 : I1756 (ad g 1) 6 = v1755 := by rw [eI1756, pp_self]
  have fI1759 : FC g [1] I I1756 := by rw [eI1756]; exact FC_pp fI0 (by decide)
  exact WP_vret dX5_rewind_5 rfl ⟨rfl, fI1759, fJ0, rfl, by
    try simp only [e1757, e1758, ew1753, ew1754]
    refine ⟨tpx_fc hy hT fI1759 (by rw [e1757]; exact hT1), by omega⟩⟩
