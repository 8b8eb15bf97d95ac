set_option maxHeartbeats 4000000 in
set_option maxRecDepth 100000 in
theorem sx_mforget {g : GG} {n : Int} {L : Int32} (hy : LyX g)  {I : pI} {J : pJ} {R : pR} (hr : RfX g R) (hI : XI g n L I)   : SP g mX1_forget [.ref (ad g 71)] I J R (fun r I' J' R' => (XI g n L I' ∧ R' = R) ∧ r = none) := by
  refine SP_of ⟨by decide, rfl⟩ (Nat.le_of_ble_eq_true rfl) ?_
  have e1675 : I (ad g 1) 1 = L := hI.2
  have b1676 := BT_get hI.1 1 1 2 (0) (0) (900) (by decide) 1 (by decide) (by decide)
  rw [e1675] at b1676
  refine WP_aload_n dX1_forget_0 rfl ?_
  refine WP_getr dX1_forget_1 fX1_15 rfl (lyx_is hy 71 1 rfl) (rfx hr 71 3 73 (by decide)) ?_
  refine WQ_iconst (0) (0) dX1_forget_4 rfl rfl (fun v1677 hv1677 => ?_)
  refine WP_callS2u dX1_forget_5 ⟨⟨⟨by decide, by decide⟩, zJ7_fill_53178⟩, lX1_22, tJ7_fill_53178⟩ (s_fill hy hr 73 8 rfl rfl (by decide) v1677) (Nat.le_of_ble_eq_true rfl) ?_
  obtain ⟨I1678, eI1678⟩ : ∃ I9 : pI, I9 = fi I (ad g 73) 8 v1677 := ⟨_, rfl⟩
  rw [← eI1678]
  have hI1678 : XI g n L I1678 := by rw [eI1678]; exact (xi_fill0 hy hI 73 8 v1677 (by decide) (by decide))
  have e1679 : I1678 (ad g 1) 1 = L := by rw [eI1678, fi_off (lyx_ne hy (by decide) (by decide) (by decide))]; exact e1675
  clear eI1678
  exact WP_vret dX1_forget_8 rfl ⟨⟨hI1678, rfl⟩, rfl⟩
set_option maxHeartbeats 4000000 in
set_option maxRecDepth 100000 in
theorem sx_takeDraft {g : GG} {n : Int} {L : Int32} (hy : LyX g)  {I : pI} {J : pJ} {R : pR} (hr : RfX g R) (hI : XI g n L I)   : SP g mX1_takeDraft [.ref (ad g 71)] I J R (fun r I' J' R' => (XI g n L I' ∧ R' = R) ∧ r = none) := by
  refine SP_of ⟨by decide, rfl⟩ (Nat.le_of_ble_eq_true rfl) ?_
  have e1680 : I (ad g 1) 1 = L := hI.2
  have b1681 := BT_get hI.1 1 1 2 (0) (0) (900) (by decide) 1 (by decide) (by decide)
  rw [e1680] at b1681
  refine WP_aload_n dX1_takeDraft_0 rfl ?_
  refine WP_getr dX1_takeDraft_1 fX1_9 rfl (lyx_is hy 71 1 rfl) (rfx hr 71 2 72 (by decide)) ?_
  refine WQ_iconst (0) (0) dX1_takeDraft_4 rfl rfl (fun v1682 hv1682 => ?_)
  refine WP_aload_n dX1_takeDraft_5 rfl ?_
  refine WP_getr dX1_takeDraft_6 fX1_15 rfl (lyx_is hy 71 1 rfl) (rfx hr 71 3 73 (by decide)) ?_
  refine WQ_iconst (0) (0) dX1_takeDraft_9 rfl rfl (fun v1683 hv1683 => ?_)
  refine WP_aload_n dX1_takeDraft_10 rfl ?_
  refine WP_getr dX1_takeDraft_11 fX1_15 rfl (lyx_is hy 71 1 rfl) (rfx hr 71 3 73 (by decide)) ?_
  refine WP_alen dX1_takeDraft_14 (lyx_is hy 73 13 rfl) (by decide) ?_
  rw [(lyx_n hy 73 8 rfl)]
  obtain ⟨v1684, hv1684, ev1684⟩ : ∃ v : Int32, v.toInt = 8 ∧ nI 8 = v := ⟨_, nI_toInt (by decide), rfl⟩
  rw [ev1684]; clear ev1684
  refine WQ_copy0 (N := 8) dX1_takeDraft_15 lX1_28 ⟨by decide, Nat.le_of_ble_eq_true rfl⟩ (lyx_is hy 72 13 rfl) (lyx_is hy 73 13 rfl) hv1682 hv1683 hv1684 (lyx_n hy 72 8 rfl) (lyx_n hy 73 8 rfl) (fun I1685 fI1685 oI1685 => ?_)
  have hI1685 : XI g n L I1685 := xi_copy hy hI 72 73 8 (by decide) (by decide) fI1685 oI1685
  clear fI1685 oI1685
  have e1686 : I1685 (ad g 1) 1 = L := hI1685.2
  have b1687 := BT_get hI1685.1 1 1 2 (0) (0) (900) (by decide) 1 (by decide) (by decide)
  rw [e1686] at b1687
  exact WP_vret dX1_takeDraft_18 rfl ⟨⟨hI1685, rfl⟩, rfl⟩
set_option maxHeartbeats 4000000 in
set_option maxRecDepth 100000 in
theorem sx_goOn {g : GG} {n : Int} {L : Int32} (hy : LyX g)  {I : pI} {J : pJ} {R : pR} (hr : RfX g R) (hI : XI g n L I) (so : Int32) (r : Int32) (t : Int32) (so_lo : 0 ≤ so.toInt) (so_hi : so.toInt ≤ 3) (t_lo : 0 ≤ t.toInt) (t_hi : t.toInt ≤ 40) : SP g mX1_goOn [.ref (ad g 71), .int so, .int r, .int t] I J R (fun r I' J' R' => (XI g n L I' ∧ R' = R) ∧ r = none) := by
  refine SP_of ⟨by decide, rfl⟩ (Nat.le_of_ble_eq_true rfl) ?_
  have e1688 : I (ad g 1) 1 = L := hI.2
  have b1689 := BT_get hI.1 1 1 2 (0) (0) (900) (by decide) 1 (by decide) (by decide)
  rw [e1688] at b1689
  refine WP_ldc2 (1000) dX1_goOn_0 klX1_50 ?_
  obtain ⟨l1690, hl1690, el1690⟩ : ∃ v : Int64, v.toInt = (1000) ∧ ((1000) : Int64) = v := ⟨_, rfl, rfl⟩
  rw [el1690]; clear el1690
  refine WP_aload_n dX1_goOn_3 rfl ?_
  refine WP_getr dX1_goOn_4 fX1_15 rfl (lyx_is hy 71 1 rfl) (rfx hr 71 3 73 (by decide)) ?_
  refine WQ_iconst (2) (2) dX1_goOn_7 rfl rfl (fun v1691 hv1691 => ?_)
  refine WP_iload_n dX1_goOn_8 rfl ?_
  refine WQ_imulK (2) dX1_goOn_9 hv1691 (by omega) (by omega) (fun v1692 hv1692 => ?_)
  refine WQ_ialdu dX1_goOn_10 (lyx_is hy 73 13 rfl) (lyx_n hy 73 8 rfl) (by omega) (by omega) (fun v1693 => ?_)
  refine WQ_i2l dX1_goOn_11 (fun l1694 hl1694 => ?_)
  refine WQ_lmul dX1_goOn_12 (fun l1695 => ?_)
  refine WP_lstore (ls' := [(0, _), (1, _), (2, _), (3, _), (4, _)]) dX1_goOn_13 (by decide) rfl ?_
  refine WP_ldc2 (1000) dX1_goOn_15 klX1_50 ?_
  obtain ⟨l1696, hl1696, el1696⟩ : ∃ v : Int64, v.toInt = (1000) ∧ ((1000) : Int64) = v := ⟨_, rfl, rfl⟩
  rw [el1696]; clear el1696
  refine WP_aload_n dX1_goOn_18 rfl ?_
  refine WP_getr dX1_goOn_19 fX1_15 rfl (lyx_is hy 71 1 rfl) (rfx hr 71 3 73 (by decide)) ?_
  refine WQ_iconst (2) (2) dX1_goOn_22 rfl rfl (fun v1697 hv1697 => ?_)
  refine WP_iload_n dX1_goOn_23 rfl ?_
  refine WQ_imulK (2) dX1_goOn_24 hv1697 (by omega) (by omega) (fun v1698 hv1698 => ?_)
  refine WQ_iconst (1) (1) dX1_goOn_25 rfl rfl (fun v1699 hv1699 => ?_)
  refine WQ_iadd dX1_goOn_26 (by omega) (by omega) (fun v1700 hv1700 => ?_)
  refine WQ_ialdu dX1_goOn_27 (lyx_is hy 73 13 rfl) (lyx_n hy 73 8 rfl) (by omega) (by omega) (fun v1701 => ?_)
  refine WQ_i2l dX1_goOn_28 (fun l1702 hl1702 => ?_)
  refine WQ_lmul dX1_goOn_29 (fun l1703 => ?_)
  refine WP_lstore (ls' := [(0, _), (1, _), (2, _), (3, _), (4, _), (6, _)]) dX1_goOn_30 (by decide) rfl ?_
  refine WP_aload_n dX1_goOn_32 rfl ?_
  refine WQ_getiu dX1_goOn_33 fX1_40 rfl (lyx_is hy 71 1 rfl) (fun v1704 ev1704 => ?_)
  refine WP_iload_n dX1_goOn_36 rfl ?_
  refine WQ_ishru dX1_goOn_37 (fun v1705 => ?_)
  refine WQ_iconst (1) (1) dX1_goOn_38 rfl rfl (fun v1706 hv1706 => ?_)
  refine WQ_iandu dX1_goOn_39 (fun v1707 => ?_)
  have jn48_1710 : ∀ (v1710 : Int32), 0 ≤ v1710.toInt → v1710.toInt ≤ 1 → WP g mX1_goOn 48 [(0, .ref (ad g 71)), (1, .int so), (2, .int r), (3, .int t), (4, .long l1695), (6, .long l1703)] [.int v1710] I J R (fun r I' J' R' => (XI g n L I' ∧ R' = R) ∧ r = none) := by
    intro v1710 av1710 bv1710
    refine WP_istore (ls' := [(0, _), (1, _), (2, _), (3, _), (4, _), (6, _), (8, _)]) dX1_goOn_48 (by decide) rfl ?_
    refine WP_aload_n dX1_goOn_50 rfl ?_
    refine WP_lconst (0) dX1_goOn_51 rfl ?_
    obtain ⟨l1712, hl1712, el1712⟩ : ∃ v : Int64, v.toInt = 0 ∧ (0 : Int64) = v := ⟨_, rfl, rfl⟩
    rw [el1712]; clear el1712
    refine WQ_putl dX1_goOn_52 fX1_52 rfl rfl (lyx_is hy 71 1 rfl) (fun J1713 eJ1713 => ?_)
    clear eJ1713
    refine WP_aload_n dX1_goOn_55 rfl ?_
    refine WP_lconst (0) dX1_goOn_56 rfl ?_
    obtain ⟨l1714, hl1714, el1714⟩ : ∃ v : Int64, v.toInt = 0 ∧ (0 : Int64) = v := ⟨_, rfl, rfl⟩
    rw [el1714]; clear el1714
    refine WQ_putl dX1_goOn_57 fX1_55 rfl rfl (lyx_is hy 71 1 rfl) (fun J1715 eJ1715 => ?_)
    clear eJ1715
    refine WQ_iconst (0) (0) dX1_goOn_60 rfl rfl (fun v1716 hv1716 => ?_)
    refine WP_istore (ls' := [(0, _), (1, _), (2, _), (3, _), (4, _), (6, _), (8, _), (9, _)]) dX1_goOn_61 (by decide) rfl ?_
    have lp63_1719 : ∀ (mz : Nat) (i1717 : Int32) (I1718 : pI) (J1719 : pJ), XI g n L I1718 → 0 ≤ i1717.toInt → i1717.toInt ≤ 40 → (41 - i1717.toInt).toNat < mz → WP g mX1_goOn 63 [(0, .ref (ad g 71)), (1, .int so), (2, .int r), (3, .int t), (4, .long l1695), (6, .long l1703), (8, .int v1710), (9, .int i1717)] [] I1718 J1719 R (fun r I' J' R' => (XI g n L I' ∧ R' = R) ∧ r = none) := by
      intro mz
      induction mz with
      | zero =>
        intro i1717 I1718 J1719 hI1718 ai1717 bi1717 hmlp63_1719
        exact absurd hmlp63_1719 (Nat.not_lt_zero _)
      | succ mz ihlp63_1719 =>
        intro i1717 I1718 J1719 hI1718 ai1717 bi1717 hmlp63_1719
        have e1721 : I1718 (ad g 1) 1 = L := hI1718.2
        have b1722 := BT_get hI1718.1 1 1 2 (0) (0) (900) (by decide) 1 (by decide) (by decide)
        rw [e1721] at b1722
        refine WP_iload dX1_goOn_63 rfl ?_
        refine WP_iload_n dX1_goOn_65 rfl ?_
        refine WQ_icmp_ge 173 dX1_goOn_66 rfl (fun c1722 => ?_) (fun c1722 => ?_)
        · exact WP_vret dX1_goOn_173 rfl ⟨⟨hI1718, rfl⟩, rfl⟩
        · refine WP_aload_n dX1_goOn_69 rfl ?_
          refine WQ_getl dX1_goOn_70 fX1_47 rfl (lyx_is hy 71 1 rfl) (fun l1724 el1724 => ?_)
          refine WP_lload dX1_goOn_73 rfl ?_
          refine WP_aload_n dX1_goOn_75 rfl ?_
          refine WQ_getl dX1_goOn_76 fX1_55 rfl (lyx_is hy 71 1 rfl) (fun l1725 el1725 => ?_)
          refine WQ_ladd dX1_goOn_79 (fun l1726 => ?_)
          refine WQ_lmul dX1_goOn_80 (fun l1727 => ?_)
          refine WP_ldc2 (1000) dX1_goOn_81 klX1_50 ?_
          obtain ⟨l1728, hl1728, el1728⟩ : ∃ v : Int64, v.toInt = (1000) ∧ ((1000) : Int64) = v := ⟨_, rfl, rfl⟩
          rw [el1728]; clear el1728
          refine WP_aload_n dX1_goOn_84 rfl ?_
          refine WP_getl dX1_goOn_85 fX1_47 rfl (lyx_is hy 71 1 rfl) ?_
          rw [el1724]
          refine WQ_lsub dX1_goOn_88 (fun l1729 => ?_)
          refine WP_aload_n dX1_goOn_89 rfl ?_
          refine WQ_getl dX1_goOn_90 fX1_52 rfl (lyx_is hy 71 1 rfl) (fun l1730 el1730 => ?_)
          refine WQ_lmul dX1_goOn_93 (fun l1731 => ?_)
          refine WQ_ladd dX1_goOn_94 (fun l1732 => ?_)
          refine WP_ldc2 (1000) dX1_goOn_95 klX1_50 ?_
          obtain ⟨l1733, hl1733, el1733⟩ : ∃ v : Int64, v.toInt = (1000) ∧ ((1000) : Int64) = v := ⟨_, rfl, rfl⟩
          rw [el1733]; clear el1733
          refine WQ_ldiv dX1_goOn_98 (by omega) (fun l1734 => ?_)
          refine WP_lstore (ls' := [(0, _), (1, _), (2, _), (3, _), (4, _), (6, _), (8, _), (9, _), (10, _)]) dX1_goOn_99 (by decide) rfl ?_
          refine WP_aload_n dX1_goOn_101 rfl ?_
          refine WP_getl dX1_goOn_102 fX1_52 rfl (lyx_is hy 71 1 rfl) ?_
          rw [el1730]
          refine WP_lload dX1_goOn_105 rfl ?_
          refine WQ_maxl dX1_goOn_107 lX1_58 ⟨by decide, Nat.le_of_ble_eq_true rfl⟩ (fun l1735 => ?_)
          refine WP_lstore (ls' := [(0, _), (1, _), (2, _), (3, _), (4, _), (6, _), (8, _), (9, _), (10, _), (12, _)]) dX1_goOn_110 (by decide) rfl ?_
          refine WP_iload dX1_goOn_112 rfl ?_
          refine WQ_if_eq 151 dX1_goOn_114 rfl (fun c1735 => ?_) (fun c1735 => ?_)
          · refine WP_aload_n dX1_goOn_151 rfl ?_
            refine WP_lload dX1_goOn_152 rfl ?_
            refine WP_lload dX1_goOn_154 rfl ?_
            refine WP_iload_n dX1_goOn_156 rfl ?_
            refine WQ_i2l dX1_goOn_157 (fun l1737 hl1737 => ?_)
            refine WQ_lmul dX1_goOn_158 (fun l1738 => ?_)
            refine WP_ldc2 (1000) dX1_goOn_159 klX1_50 ?_
            obtain ⟨l1739, hl1739, el1739⟩ : ∃ v : Int64, v.toInt = (1000) ∧ ((1000) : Int64) = v := ⟨_, rfl, rfl⟩
            rw [el1739]; clear el1739
            refine WQ_ldiv dX1_goOn_162 (by omega) (fun l1740 => ?_)
            refine WQ_lsub dX1_goOn_163 (fun l1741 => ?_)
            refine WQ_putl dX1_goOn_164 fX1_52 rfl rfl (lyx_is hy 71 1 rfl) (fun J1742 eJ1742 => ?_)
            clear eJ1742
            refine WP_iinc (ls' := [(0, _), (1, _), (2, _), (3, _), (4, _), (6, _), (8, _), (9, _), (10, _), (12, _)]) dX1_goOn_167 rfl (by decide) rfl ?_
            have hv1743 : (i1717 + Int32.ofInt (1)).toInt = i1717.toInt + (1) := ia_n rfl (by omega) (by omega)
            generalize i1717 + Int32.ofInt (1) = v1743 at hv1743 ⊢
            refine WP_goto 63 dX1_goOn_170 rfl ?_
            exact WP_sub (fc rfl (fc rfl (fc rfl (fc rfl (fc rfl (fc rfl (fc rfl (fc rfl fn)))))))) (ihlp63_1719 v1743 I1718 J1742 hI1718 (by omega) (by omega) (by omega))
          · refine WP_aload_n dX1_goOn_117 rfl ?_
            refine WP_aload_n dX1_goOn_118 rfl ?_
            refine WQ_getl dX1_goOn_119 fX1_43 rfl (lyx_is hy 71 1 rfl) (fun l1744 el1744 => ?_)
            refine WP_aload_n dX1_goOn_122 rfl ?_
            refine WP_getl dX1_goOn_123 fX1_52 rfl (lyx_is hy 71 1 rfl) ?_
            rw [el1730]
            refine WP_lload dX1_goOn_126 rfl ?_
            refine WQ_lsub dX1_goOn_128 (fun l1745 => ?_)
            refine WQ_lmul dX1_goOn_129 (fun l1746 => ?_)
            refine WP_ldc2 (1000) dX1_goOn_130 klX1_50 ?_
            obtain ⟨l1747, hl1747, el1747⟩ : ∃ v : Int64, v.toInt = (1000) ∧ ((1000) : Int64) = v := ⟨_, rfl, rfl⟩
            rw [el1747]; clear el1747
            refine WP_aload_n dX1_goOn_133 rfl ?_
            refine WP_getl dX1_goOn_134 fX1_43 rfl (lyx_is hy 71 1 rfl) ?_
            rw [el1744]
            refine WQ_lsub dX1_goOn_137 (fun l1748 => ?_)
            refine WP_aload_n dX1_goOn_138 rfl ?_
            refine WP_getl dX1_goOn_139 fX1_55 rfl (lyx_is hy 71 1 rfl) ?_
            rw [el1725]
            refine WQ_lmul dX1_goOn_142 (fun l1749 => ?_)
            refine WQ_ladd dX1_goOn_143 (fun l1750 => ?_)
            refine WP_ldc2 (1000) dX1_goOn_144 klX1_50 ?_
            obtain ⟨l1751, hl1751, el1751⟩ : ∃ v : Int64, v.toInt = (1000) ∧ ((1000) : Int64) = v := ⟨_, rfl, rfl⟩
            rw [el1751]; clear el1751
            refine WQ_ldiv dX1_goOn_147 (by omega) (fun l1752 => ?_)
            refine WQ_putl dX1_goOn_148 fX1_55 rfl rfl (lyx_is hy 71 1 rfl) (fun J1753 eJ1753 => ?_)
            clear eJ1753
            refine WP_aload_n dX1_goOn_151 rfl ?_
            refine WP_lload dX1_goOn_152 rfl ?_
            refine WP_lload dX1_goOn_154 rfl ?_
            refine WP_iload_n dX1_goOn_156 rfl ?_
            refine WQ_i2l dX1_goOn_157 (fun l1754 hl1754 => ?_)
            refine WQ_lmul dX1_goOn_158 (fun l1755 => ?_)
            refine WP_ldc2 (1000) dX1_goOn_159 klX1_50 ?_
            obtain ⟨l1756, hl1756, el1756⟩ : ∃ v : Int64, v.toInt = (1000) ∧ ((1000) : Int64) = v := ⟨_, rfl, rfl⟩
            rw [el1756]; clear el1756
            refine WQ_ldiv dX1_goOn_162 (by omega) (fun l1757 => ?_)
            refine WQ_lsub dX1_goOn_163 (fun l1758 => ?_)
            refine WQ_putl dX1_goOn_164 fX1_52 rfl rfl (lyx_is hy 71 1 rfl) (fun J1759 eJ1759 => ?_)
            clear eJ1759
            refine WP_iinc (ls' := [(0, _), (1, _), (2, _), (3, _), (4, _), (6, _), (8, _), (9, _), (10, _), (12, _)]) dX1_goOn_167 rfl (by decide) rfl ?_
            have hv1760 : (i1717 + Int32.ofInt (1)).toInt = i1717.toInt + (1) := ia_n rfl (by omega) (by omega)
            generalize i1717 + Int32.ofInt (1) = v1760 at hv1760 ⊢
            refine WP_goto 63 dX1_goOn_170 rfl ?_
            exact WP_sub (fc rfl (fc rfl (fc rfl (fc rfl (fc rfl (fc rfl (fc rfl (fc rfl fn)))))))) (ihlp63_1719 v1760 I1718 J1759 hI1718 (by omega) (by omega) (by omega))
    exact WP_sub (fc rfl (fc rfl (fc rfl (fc rfl (fc rfl (fc rfl (fc rfl (fc rfl fn)))))))) (lp63_1719 _ v1716 I J1715 hI (by omega) (by omega) (Nat.lt_succ_self _))
  refine WX_if_eq 47 dX1_goOn_40 rfl ?_ ?_
  · refine WQ_iconst (0) (0) dX1_goOn_47 rfl rfl (fun v1761 hv1761 => ?_)
    exact WP_sub (fc rfl (fc rfl (fc rfl (fc rfl (fc rfl (fc rfl fn)))))) (jn48_1710 v1761 (by omega) (by omega))
  · refine WQ_iconst (1) (1) dX1_goOn_43 rfl rfl (fun v1762 hv1762 => ?_)
    refine WP_goto 48 dX1_goOn_44 rfl ?_
    exact WP_sub (fc rfl (fc rfl (fc rfl (fc rfl (fc rfl (fc rfl fn)))))) (jn48_1710 v1762 (by omega) (by omega))
set_option maxHeartbeats 4000000 in
set_option maxRecDepth 100000 in
theorem sx_isAtRest {g : GG} {n : Int} {L : Int32} (hy : LyX g)  {I : pI} {J : pJ} {R : pR} (hr : RfX g R) (hI : XI g n L I) (r : Int32) (t : Int32) (t_lo : 0 ≤ t.toInt) (t_hi : t.toInt ≤ 40) : SP g mX1_isAtRest [.ref (ad g 71), .int r, .int t] I J R (fun r I' J' R' => (XI g n L I' ∧ R' = R) ∧ ∃ v : Int32, r = some (.int v) ∧ 0 ≤ v.toInt ∧ v.toInt ≤ 1) := by
  refine SP_of ⟨by decide, rfl⟩ (Nat.le_of_ble_eq_true rfl) ?_
  have e1763 : I (ad g 1) 1 = L := hI.2
  have b1764 := BT_get hI.1 1 1 2 (0) (0) (900) (by decide) 1 (by decide) (by decide)
  rw [e1763] at b1764
  refine WQ_iconst (0) (0) dX1_isAtRest_0 rfl rfl (fun v1765 hv1765 => ?_)
  refine WP_istore_n (ls' := [(0, _), (1, _), (2, _), (3, _)]) dX1_isAtRest_1 (by decide) rfl ?_
  have lp2_1768 : ∀ (mz : Nat) (i1766 : Int32) (I1767 : pI) (J1768 : pJ), XI g n L I1767 → 0 ≤ i1766.toInt → i1766.toInt ≤ 4 → (5 - i1766.toInt).toNat < mz → WP g mX1_isAtRest 2 [(0, .ref (ad g 71)), (1, .int r), (2, .int t), (3, .int i1766)] [] I1767 J1768 R (fun r I' J' R' => (XI g n L I' ∧ R' = R) ∧ ∃ v : Int32, r = some (.int v) ∧ 0 ≤ v.toInt ∧ v.toInt ≤ 1) := by
    intro mz
    induction mz with
    | zero =>
      intro i1766 I1767 J1768 hI1767 ai1766 bi1766 hmlp2_1768
      exact absurd hmlp2_1768 (Nat.not_lt_zero _)
    | succ mz ihlp2_1768 =>
      intro i1766 I1767 J1768 hI1767 ai1766 bi1766 hmlp2_1768
      have e1770 : I1767 (ad g 1) 1 = L := hI1767.2
      have b1771 := BT_get hI1767.1 1 1 2 (0) (0) (900) (by decide) 1 (by decide) (by decide)
      rw [e1770] at b1771
      refine WP_iload_n dX1_isAtRest_2 rfl ?_
      refine WP_aload_n dX1_isAtRest_3 rfl ?_
      refine WQ_geti dX1_isAtRest_4 fX1_18 rfl (lyx_is hy 71 1 rfl) (BT_get hI1767.1 71 4 5 (0) (0) (4) (by decide) 4 (by decide) (by decide)) (fun v1772 ev1772 av1772 bv1772 => ?_)
      refine WQ_icmp_ge 81 dX1_isAtRest_7 rfl (fun c1772 => ?_) (fun c1772 => ?_)
      · refine WQ_iconst (1) (1) dX1_isAtRest_81 rfl rfl (fun v1774 hv1774 => ?_)
        exact WP_zret dX1_isAtRest_82 rfl (nar_z (by omega)) ⟨⟨hI1767, rfl⟩, _, rfl, by omega, by omega⟩
      · refine WP_aload_n dX1_isAtRest_10 rfl ?_
        refine WP_iload_n dX1_isAtRest_11 rfl ?_
        refine WP_iload_n dX1_isAtRest_12 rfl ?_
        refine WP_iload_n dX1_isAtRest_13 rfl ?_
        refine WP_callV3 (k := 1) dX1_isAtRest_14 ⟨⟨⟨by decide, by decide⟩, zX1_goOn⟩, lX1_64, by decide, rfl, vX1_goOn.1, vX1_goOn.2⟩ (lyx_is hy 71 1 rfl) (sx_goOn hy hr hI1767 i1766 r t (by omega) (by omega)  (by omega) (by omega)) (Nat.le_of_ble_eq_true rfl) ?_
        intro r I1775 J1776 Ra hq
        obtain ⟨⟨hI1775, ec⟩, rfl⟩ := hq
        rw [ec]
        clear ec Ra
        have e1777 : I1775 (ad g 1) 1 = L := hI1775.2
        have b1778 := BT_get hI1775.1 1 1 2 (0) (0) (900) (by decide) 1 (by decide) (by decide)
        rw [e1777] at b1778
        refine WP_aload_n dX1_isAtRest_17 rfl ?_
        refine WQ_getl dX1_isAtRest_18 fX1_52 rfl (lyx_is hy 71 1 rfl) (fun l1779 el1779 => ?_)
        refine WP_aload_n dX1_isAtRest_21 rfl ?_
        refine WQ_getl dX1_isAtRest_22 fX1_55 rfl (lyx_is hy 71 1 rfl) (fun l1780 el1780 => ?_)
        refine WQ_lsub dX1_isAtRest_25 (fun l1781 => ?_)
        refine WP_ldc2 (1000) dX1_isAtRest_26 klX1_50 ?_
        obtain ⟨l1782, hl1782, el1782⟩ : ∃ v : Int64, v.toInt = (1000) ∧ ((1000) : Int64) = v := ⟨_, rfl, rfl⟩
        rw [el1782]; clear el1782
        refine WP_aload_n dX1_isAtRest_29 rfl ?_
        refine WP_getr dX1_isAtRest_30 fX1_15 rfl (lyx_is hy 71 1 rfl) (rfx hr 71 3 73 (by decide)) ?_
        refine WQ_iconst (2) (2) dX1_isAtRest_33 rfl rfl (fun v1783 hv1783 => ?_)
        refine WP_iload_n dX1_isAtRest_34 rfl ?_
        refine WQ_imulK (2) dX1_isAtRest_35 hv1783 (by omega) (by omega) (fun v1784 hv1784 => ?_)
        refine WQ_iconst (1) (1) dX1_isAtRest_36 rfl rfl (fun v1785 hv1785 => ?_)
        refine WQ_iadd dX1_isAtRest_37 (by omega) (by omega) (fun v1786 hv1786 => ?_)
        refine WQ_ialdu dX1_isAtRest_38 (lyx_is hy 73 13 rfl) (lyx_n hy 73 8 rfl) (by omega) (by omega) (fun v1787 => ?_)
        refine WQ_i2l dX1_isAtRest_39 (fun l1788 hl1788 => ?_)
        refine WQ_lmul dX1_isAtRest_40 (fun l1789 => ?_)
        refine WQ_lcmpu dX1_isAtRest_41 (fun v1790 => ?_)
        have jn50_1793 : ∀ (v1793 : Int32), 0 ≤ v1793.toInt → v1793.toInt ≤ 1 → WP g mX1_isAtRest 50 [(0, .ref (ad g 71)), (1, .int r), (2, .int t), (3, .int i1766)] [.int v1793] I1775 J1776 R (fun r I' J' R' => (XI g n L I' ∧ R' = R) ∧ ∃ v : Int32, r = some (.int v) ∧ 0 ≤ v.toInt ∧ v.toInt ≤ 1) := by
          intro v1793 av1793 bv1793
          refine WP_istore (ls' := [(0, _), (1, _), (2, _), (3, _), (4, _)]) dX1_isAtRest_50 (by decide) rfl ?_
          refine WP_iload dX1_isAtRest_52 rfl ?_
          refine WP_aload_n dX1_isAtRest_54 rfl ?_
          refine WQ_getiu dX1_isAtRest_55 fX1_40 rfl (lyx_is hy 71 1 rfl) (fun v1795 ev1795 => ?_)
          refine WP_iload_n dX1_isAtRest_58 rfl ?_
          refine WQ_ishru dX1_isAtRest_59 (fun v1796 => ?_)
          refine WQ_iconst (1) (1) dX1_isAtRest_60 rfl rfl (fun v1797 hv1797 => ?_)
          refine WQ_iandu dX1_isAtRest_61 (fun v1798 => ?_)
          have jn70_1801 : ∀ (v1801 : Int32), 0 ≤ v1801.toInt → v1801.toInt ≤ 1 → WP g mX1_isAtRest 70 [(0, .ref (ad g 71)), (1, .int r), (2, .int t), (3, .int i1766), (4, .int v1793)] [.int v1801, .int v1793] I1775 J1776 R (fun r I' J' R' => (XI g n L I' ∧ R' = R) ∧ ∃ v : Int32, r = some (.int v) ∧ 0 ≤ v.toInt ∧ v.toInt ≤ 1) := by
            intro v1801 av1801 bv1801
            refine WQ_icmp_eq 75 dX1_isAtRest_70 rfl (fun c1802 => ?_) (fun c1802 => ?_)
            · refine WP_iinc (ls' := [(0, _), (1, _), (2, _), (3, _), (4, _)]) dX1_isAtRest_75 rfl (by decide) rfl ?_
              have hv1804 : (i1766 + Int32.ofInt (1)).toInt = i1766.toInt + (1) := ia_n rfl (by omega) (by omega)
              generalize i1766 + Int32.ofInt (1) = v1804 at hv1804 ⊢
              refine WP_goto 2 dX1_isAtRest_78 rfl ?_
              exact WP_sub (fc rfl (fc rfl (fc rfl (fc rfl fn)))) (ihlp2_1768 v1804 I1775 J1776 hI1775 (by omega) (by omega) (by omega))
            · refine WQ_iconst (0) (0) dX1_isAtRest_73 rfl rfl (fun v1805 hv1805 => ?_)
              exact WP_zret dX1_isAtRest_74 rfl (nar_z (by omega)) ⟨⟨hI1775, rfl⟩, _, rfl, by omega, by omega⟩
          refine WX_if_eq 69 dX1_isAtRest_62 rfl ?_ ?_
          · refine WQ_iconst (0) (0) dX1_isAtRest_69 rfl rfl (fun v1806 hv1806 => ?_)
            exact WP_sub (fc rfl (fc rfl (fc rfl (fc rfl (fc rfl fn))))) (jn70_1801 v1806 (by omega) (by omega))
          · refine WQ_iconst (1) (1) dX1_isAtRest_65 rfl rfl (fun v1807 hv1807 => ?_)
            refine WP_goto 70 dX1_isAtRest_66 rfl ?_
            exact WP_sub (fc rfl (fc rfl (fc rfl (fc rfl (fc rfl fn))))) (jn70_1801 v1807 (by omega) (by omega))
        refine WX_if_lt 49 dX1_isAtRest_42 rfl ?_ ?_
        · refine WQ_iconst (0) (0) dX1_isAtRest_49 rfl rfl (fun v1808 hv1808 => ?_)
          exact WP_sub (fc rfl (fc rfl (fc rfl (fc rfl fn)))) (jn50_1793 v1808 (by omega) (by omega))
        · refine WQ_iconst (1) (1) dX1_isAtRest_45 rfl rfl (fun v1809 hv1809 => ?_)
          refine WP_goto 50 dX1_isAtRest_46 rfl ?_
          exact WP_sub (fc rfl (fc rfl (fc rfl (fc rfl fn)))) (jn50_1793 v1809 (by omega) (by omega))
  exact WP_sub (fc rfl (fc rfl (fc rfl (fc rfl fn)))) (lp2_1768 _ v1765 I J hI (by omega) (by omega) (Nat.lt_succ_self _))
set_option maxHeartbeats 4000000 in
set_option maxRecDepth 100000 in
theorem sx_start_6 {g : GG} {n : Int} {L : Int32} (hy : LyX g)  {I : pI} {J : pJ} {R : pR} (hr : RfX g R) (hI : XI g n L I) (se : Int32) (m : Int32) (m_lo : 0 ≤ m.toInt) (m_hi : m.toInt ≤ 100) : SP g mX1_start [.ref (ad g 71), .ref (ad g 6), .int se, .int m] I J R (fun r I' J' R' => (XI g n L I' ∧ R' = R) ∧ r = none) := by
  refine SP_of ⟨by decide, rfl⟩ (Nat.le_of_ble_eq_true rfl) ?_
  have e1810 : I (ad g 1) 1 = L := hI.2
  have b1811 := BT_get hI.1 1 1 2 (0) (0) (900) (by decide) 1 (by decide) (by decide)
  rw [e1810] at b1811
  refine WQ_iconst (0) (0) dX1_start_0 rfl rfl (fun v1812 hv1812 => ?_)
  refine WP_istore (ls' := [(0, _), (1, _), (2, _), (3, _), (4, _)]) dX1_start_1 (by decide) rfl ?_
  refine WQ_iconst (0) (0) dX1_start_3 rfl rfl (fun v1813 hv1813 => ?_)
  refine WP_istore (ls' := [(0, _), (1, _), (2, _), (3, _), (4, _), (5, _)]) dX1_start_4 (by decide) rfl ?_
  refine WQ_iconst (0) (0) dX1_start_6 rfl rfl (fun v1814 hv1814 => ?_)
  refine WP_istore (ls' := [(0, _), (1, _), (2, _), (3, _), (4, _), (5, _), (6, _)]) dX1_start_7 (by decide) rfl ?_
  have lp9_1817 : ∀ (mz : Nat) (i1815 : Int32) (i1816 : Int32) (i1817 : Int32), 0 ≤ i1816.toInt → i1816.toInt ≤ 396 → 0 ≤ i1817.toInt → i1817.toInt ≤ 4 → i1816.toInt ≤ 99 * i1817.toInt → (5 - i1817.toInt).toNat < mz → WP g mX1_start 9 [(0, .ref (ad g 71)), (1, .ref (ad g 6)), (2, .int se), (3, .int m), (4, .int i1815), (5, .int i1816), (6, .int i1817)] [] I J R (fun r I' J' R' => (XI g n L I' ∧ R' = R) ∧ r = none) := by
    intro mz
    induction mz with
    | zero =>
      intro i1815 i1816 i1817 ai1816 bi1816 ai1817 bi1817 j0_I hmlp9_1817
      exact absurd hmlp9_1817 (Nat.not_lt_zero _)
    | succ mz ihlp9_1817 =>
      intro i1815 i1816 i1817 ai1816 bi1816 ai1817 bi1817 j0_I hmlp9_1817
      refine WP_iload dX1_start_9 rfl ?_
      refine WP_aload_n dX1_start_11 rfl ?_
      refine WQ_geti dX1_start_12 fX1_34 rfl (lyx_is hy 6 7 rfl) (BT_get hI.1 6 1 2 (0) (0) (4) (by decide) 1 (by decide) (by decide)) (fun v1819 ev1819 av1819 bv1819 => ?_)
      refine WQ_icmp_ge 55 dX1_start_15 rfl (fun c1819 => ?_) (fun c1819 => ?_)
      · refine WP_aload_n dX1_start_55 rfl ?_
        refine WP_aload_n dX1_start_56 rfl ?_
        refine WQ_getim dX1_start_57 fX1_34 rfl (lyx_is hy 6 7 rfl) ev1819 ?_
        refine WQ_puti dX1_start_60 fX1_18 rfl rfl (lyx_is hy 71 1 rfl) (fun I1821 eI1821 => ?_)
        have hI1821 : XI g n L I1821 := by rw [eI1821]; exact (xi_f hy hI (c := 71) (0) (0) (4) (by decide) (Or.inl (by decide)) (by decide) (by omega) (by omega))
        have e1822 : I1821 (ad g 1) 1 = L := by rw [eI1821, pp_ne _ _ (Or.inl (lyx_ne hy (by decide) (by decide) (by decide)))]; exact e1810
        have e1823 : I1821 (ad g 6) 1 = v1819 := by rw [eI1821, pp_ne _ _ (Or.inl (lyx_ne hy (by decide) (by decide) (by decide)))]; exact ev1819
        have e1824 : I1821 (ad g 71) 4 = v1819 := by rw [eI1821, pp_self]
        clear eI1821
        refine WP_aload_n dX1_start_63 rfl ?_
        refine WP_iload_n dX1_start_64 rfl ?_
        refine WQ_puti dX1_start_65 fX1_40 rfl rfl (lyx_is hy 71 1 rfl) (fun I1825 eI1825 => ?_)
        have hI1825 : XI g n L I1825 := by rw [eI1825]; exact (xi_f0 hy hI1821 (c := 71) (by decide) (Or.inl (by decide)) (by decide))
        have e1826 : I1825 (ad g 1) 1 = L := by rw [eI1825, pp_ne _ _ (Or.inl (lyx_ne hy (by decide) (by decide) (by decide)))]; exact e1822
        have e1827 : I1825 (ad g 6) 1 = v1819 := by rw [eI1825, pp_ne _ _ (Or.inl (lyx_ne hy (by decide) (by decide) (by decide)))]; exact e1823
        have e1828 : I1825 (ad g 71) 4 = v1819 := by rw [eI1825, pp_ne _ _ (Or.inr (by decide))]; exact e1824
        have e1829 : I1825 (ad g 71) 5 = se := by rw [eI1825, pp_self]
        clear eI1825
        refine WP_aload_n dX1_start_68 rfl ?_
        refine WQ_bipush (10) (10) dX1_start_69 rfl rfl (fun v1830 hv1830 => ?_)
        refine WP_iload_n dX1_start_71 rfl ?_
        refine WQ_imulK (10) dX1_start_72 hv1830 (by omega) (by omega) (fun v1831 hv1831 => ?_)
        refine WQ_i2l dX1_start_73 (fun l1832 hl1832 => ?_)
        refine WQ_putl dX1_start_74 fX1_43 rfl rfl (lyx_is hy 71 1 rfl) (fun J1833 eJ1833 => ?_)
        clear eJ1833
        refine WP_aload_n dX1_start_77 rfl ?_
        refine WP_iload dX1_start_78 rfl ?_
        refine WQ_iconst (1) (1) dX1_start_80 rfl rfl (fun v1834 hv1834 => ?_)
        refine WQ_icmp_ge 88 dX1_start_81 rfl (fun c1834 => ?_) (fun c1834 => ?_)
        · refine WP_aload_n dX1_start_88 rfl ?_
          refine WQ_getl dX1_start_89 fX1_43 rfl (lyx_is hy 71 1 rfl) (fun l1836 el1836 => ?_)
          refine WP_iload dX1_start_92 rfl ?_
          refine WQ_i2l dX1_start_94 (fun l1837 hl1837 => ?_)
          refine WQ_lmul dX1_start_95 (fun l1838 => ?_)
          refine WP_iload dX1_start_96 rfl ?_
          refine WQ_i2l dX1_start_98 (fun l1839 hl1839 => ?_)
          refine WQ_ldiv dX1_start_99 (by omega) (fun l1840 => ?_)
          refine WQ_putl dX1_start_100 fX1_47 rfl rfl (lyx_is hy 71 1 rfl) (fun J1841 eJ1841 => ?_)
          clear eJ1841
          exact WP_vret dX1_start_103 rfl ⟨⟨hI1825, rfl⟩, rfl⟩
        · refine WP_lconst (0) dX1_start_84 rfl ?_
          obtain ⟨l1842, hl1842, el1842⟩ : ∃ v : Int64, v.toInt = 0 ∧ (0 : Int64) = v := ⟨_, rfl, rfl⟩
          rw [el1842]; clear el1842
          refine WP_goto 100 dX1_start_85 rfl ?_
          refine WQ_putl dX1_start_100 fX1_47 rfl rfl (lyx_is hy 71 1 rfl) (fun J1843 eJ1843 => ?_)
          clear eJ1843
          exact WP_vret dX1_start_103 rfl ⟨⟨hI1825, rfl⟩, rfl⟩
      · refine WP_iload dX1_start_18 rfl ?_
        refine WP_aload_n dX1_start_20 rfl ?_
        refine WP_getr dX1_start_21 fX1_37 rfl (lyx_is hy 6 7 rfl) (rfx hr 6 6 8 (by decide)) ?_
        refine WP_iload dX1_start_24 rfl ?_
        refine WQ_iald dX1_start_26 (lyx_is hy 8 13 rfl) (lyx_n hy 8 4 rfl) (by omega) (by omega) (fun q hq => BT_get hI.1 8 0 4 (0) (0) (99) (by decide) q (Nat.zero_le _) hq) (fun v1844 av1844 bv1844 ev1844 => ?_)
        clear ev1844
        refine WQ_iadd dX1_start_27 (by omega) (by omega) (fun v1845 hv1845 => ?_)
        refine WP_istore (ls' := [(0, _), (1, _), (2, _), (3, _), (4, _), (5, _), (6, _)]) dX1_start_28 (by decide) rfl ?_
        refine WP_iload dX1_start_30 rfl ?_
        refine WP_iload_n dX1_start_32 rfl ?_
        refine WP_iload dX1_start_33 rfl ?_
        refine WQ_ishru dX1_start_35 (fun v1846 => ?_)
        refine WQ_iconst (1) (1) dX1_start_36 rfl rfl (fun v1847 hv1847 => ?_)
        refine WQ_iandu dX1_start_37 (fun v1848 => ?_)
        refine WP_aload_n dX1_start_38 rfl ?_
        refine WP_getr dX1_start_39 fX1_37 rfl (lyx_is hy 6 7 rfl) (rfx hr 6 6 8 (by decide)) ?_
        refine WP_iload dX1_start_42 rfl ?_
        refine WQ_iald dX1_start_44 (lyx_is hy 8 13 rfl) (lyx_n hy 8 4 rfl) (by omega) (by omega) (fun q hq => BT_get hI.1 8 0 4 (0) (0) (99) (by decide) q (Nat.zero_le _) hq) (fun v1849 av1849 bv1849 ev1849 => ?_)
        clear ev1849
        refine WQ_imulu dX1_start_45 (fun v1850 => ?_)
        refine WQ_iaddu dX1_start_46 (fun v1851 => ?_)
        refine WP_istore (ls' := [(0, _), (1, _), (2, _), (3, _), (4, _), (5, _), (6, _)]) dX1_start_47 (by decide) rfl ?_
        refine WP_iinc (ls' := [(0, _), (1, _), (2, _), (3, _), (4, _), (5, _), (6, _)]) dX1_start_49 rfl (by decide) rfl ?_
        have hv1852 : (i1817 + Int32.ofInt (1)).toInt = i1817.toInt + (1) := ia_n rfl (by omega) (by omega)
        generalize i1817 + Int32.ofInt (1) = v1852 at hv1852 ⊢
        refine WP_goto 9 dX1_start_52 rfl ?_
        exact WP_sub (fc rfl (fc rfl (fc rfl (fc rfl (fc rfl (fc rfl (fc rfl fn))))))) (ihlp9_1817 v1851 v1845 v1852 (by omega) (by omega) (by omega) (by omega) (by omega) (by omega))
  exact WP_sub (fc rfl (fc rfl (fc rfl (fc rfl (fc rfl (fc rfl (fc rfl fn))))))) (lp9_1817 _ v1812 v1813 v1814 (by omega) (by omega) (by omega) (by omega) (by omega) (Nat.lt_succ_self _))
set_option maxHeartbeats 4000000 in
set_option maxRecDepth 100000 in
theorem sx_start_27 {g : GG} {n : Int} {L : Int32} (hy : LyX g)  {I : pI} {J : pJ} {R : pR} (hr : RfX g R) (hI : XI g n L I) (se : Int32) (m : Int32) (m_lo : 0 ≤ m.toInt) (m_hi : m.toInt ≤ 100) : SP g mX1_start [.ref (ad g 71), .ref (ad g 27), .int se, .int m] I J R (fun r I' J' R' => (XI g n L I' ∧ R' = R) ∧ r = none) := by
  refine SP_of ⟨by decide, rfl⟩ (Nat.le_of_ble_eq_true rfl) ?_
  have e1853 : I (ad g 1) 1 = L := hI.2
  have b1854 := BT_get hI.1 1 1 2 (0) (0) (900) (by decide) 1 (by decide) (by decide)
  rw [e1853] at b1854
  refine WQ_iconst (0) (0) dX1_start_0 rfl rfl (fun v1855 hv1855 => ?_)
  refine WP_istore (ls' := [(0, _), (1, _), (2, _), (3, _), (4, _)]) dX1_start_1 (by decide) rfl ?_
  refine WQ_iconst (0) (0) dX1_start_3 rfl rfl (fun v1856 hv1856 => ?_)
  refine WP_istore (ls' := [(0, _), (1, _), (2, _), (3, _), (4, _), (5, _)]) dX1_start_4 (by decide) rfl ?_
  refine WQ_iconst (0) (0) dX1_start_6 rfl rfl (fun v1857 hv1857 => ?_)
  refine WP_istore (ls' := [(0, _), (1, _), (2, _), (3, _), (4, _), (5, _), (6, _)]) dX1_start_7 (by decide) rfl ?_
  have lp9_1860 : ∀ (mz : Nat) (i1858 : Int32) (i1859 : Int32) (i1860 : Int32), 0 ≤ i1859.toInt → i1859.toInt ≤ 396 → 0 ≤ i1860.toInt → i1860.toInt ≤ 4 → i1859.toInt ≤ 99 * i1860.toInt → (5 - i1860.toInt).toNat < mz → WP g mX1_start 9 [(0, .ref (ad g 71)), (1, .ref (ad g 27)), (2, .int se), (3, .int m), (4, .int i1858), (5, .int i1859), (6, .int i1860)] [] I J R (fun r I' J' R' => (XI g n L I' ∧ R' = R) ∧ r = none) := by
    intro mz
    induction mz with
    | zero =>
      intro i1858 i1859 i1860 ai1859 bi1859 ai1860 bi1860 j0_I hmlp9_1860
      exact absurd hmlp9_1860 (Nat.not_lt_zero _)
    | succ mz ihlp9_1860 =>
      intro i1858 i1859 i1860 ai1859 bi1859 ai1860 bi1860 j0_I hmlp9_1860
      refine WP_iload dX1_start_9 rfl ?_
      refine WP_aload_n dX1_start_11 rfl ?_
      refine WQ_geti dX1_start_12 fX1_34 rfl (lyx_is hy 27 7 rfl) (BT_get hI.1 27 1 2 (0) (0) (4) (by decide) 1 (by decide) (by decide)) (fun v1862 ev1862 av1862 bv1862 => ?_)
      refine WQ_icmp_ge 55 dX1_start_15 rfl (fun c1862 => ?_) (fun c1862 => ?_)
      · refine WP_aload_n dX1_start_55 rfl ?_
        refine WP_aload_n dX1_start_56 rfl ?_
        refine WQ_getim dX1_start_57 fX1_34 rfl (lyx_is hy 27 7 rfl) ev1862 ?_
        refine WQ_puti dX1_start_60 fX1_18 rfl rfl (lyx_is hy 71 1 rfl) (fun I1864 eI1864 => ?_)
        have hI1864 : XI g n L I1864 := by rw [eI1864]; exact (xi_f hy hI (c := 71) (0) (0) (4) (by decide) (Or.inl (by decide)) (by decide) (by omega) (by omega))
        have e1865 : I1864 (ad g 1) 1 = L := by rw [eI1864, pp_ne _ _ (Or.inl (lyx_ne hy (by decide) (by decide) (by decide)))]; exact e1853
        have e1866 : I1864 (ad g 27) 1 = v1862 := by rw [eI1864, pp_ne _ _ (Or.inl (lyx_ne hy (by decide) (by decide) (by decide)))]; exact ev1862
        have e1867 : I1864 (ad g 71) 4 = v1862 := by rw [eI1864, pp_self]
        clear eI1864
        refine WP_aload_n dX1_start_63 rfl ?_
        refine WP_iload_n dX1_start_64 rfl ?_
        refine WQ_puti dX1_start_65 fX1_40 rfl rfl (lyx_is hy 71 1 rfl) (fun I1868 eI1868 => ?_)
        have hI1868 : XI g n L I1868 := by rw [eI1868]; exact (xi_f0 hy hI1864 (c := 71) (by decide) (Or.inl (by decide)) (by decide))
        have e1869 : I1868 (ad g 1) 1 = L := by rw [eI1868, pp_ne _ _ (Or.inl (lyx_ne hy (by decide) (by decide) (by decide)))]; exact e1865
        have e1870 : I1868 (ad g 27) 1 = v1862 := by rw [eI1868, pp_ne _ _ (Or.inl (lyx_ne hy (by decide) (by decide) (by decide)))]; exact e1866
        have e1871 : I1868 (ad g 71) 4 = v1862 := by rw [eI1868, pp_ne _ _ (Or.inr (by decide))]; exact e1867
        have e1872 : I1868 (ad g 71) 5 = se := by rw [eI1868, pp_self]
        clear eI1868
        refine WP_aload_n dX1_start_68 rfl ?_
        refine WQ_bipush (10) (10) dX1_start_69 rfl rfl (fun v1873 hv1873 => ?_)
        refine WP_iload_n dX1_start_71 rfl ?_
        refine WQ_imulK (10) dX1_start_72 hv1873 (by omega) (by omega) (fun v1874 hv1874 => ?_)
        refine WQ_i2l dX1_start_73 (fun l1875 hl1875 => ?_)
        refine WQ_putl dX1_start_74 fX1_43 rfl rfl (lyx_is hy 71 1 rfl) (fun J1876 eJ1876 => ?_)
        clear eJ1876
        refine WP_aload_n dX1_start_77 rfl ?_
        refine WP_iload dX1_start_78 rfl ?_
        refine WQ_iconst (1) (1) dX1_start_80 rfl rfl (fun v1877 hv1877 => ?_)
        refine WQ_icmp_ge 88 dX1_start_81 rfl (fun c1877 => ?_) (fun c1877 => ?_)
        · refine WP_aload_n dX1_start_88 rfl ?_
          refine WQ_getl dX1_start_89 fX1_43 rfl (lyx_is hy 71 1 rfl) (fun l1879 el1879 => ?_)
          refine WP_iload dX1_start_92 rfl ?_
          refine WQ_i2l dX1_start_94 (fun l1880 hl1880 => ?_)
          refine WQ_lmul dX1_start_95 (fun l1881 => ?_)
          refine WP_iload dX1_start_96 rfl ?_
          refine WQ_i2l dX1_start_98 (fun l1882 hl1882 => ?_)
          refine WQ_ldiv dX1_start_99 (by omega) (fun l1883 => ?_)
          refine WQ_putl dX1_start_100 fX1_47 rfl rfl (lyx_is hy 71 1 rfl) (fun J1884 eJ1884 => ?_)
          clear eJ1884
          exact WP_vret dX1_start_103 rfl ⟨⟨hI1868, rfl⟩, rfl⟩
        · refine WP_lconst (0) dX1_start_84 rfl ?_
          obtain ⟨l1885, hl1885, el1885⟩ : ∃ v : Int64, v.toInt = 0 ∧ (0 : Int64) = v := ⟨_, rfl, rfl⟩
          rw [el1885]; clear el1885
          refine WP_goto 100 dX1_start_85 rfl ?_
          refine WQ_putl dX1_start_100 fX1_47 rfl rfl (lyx_is hy 71 1 rfl) (fun J1886 eJ1886 => ?_)
          clear eJ1886
          exact WP_vret dX1_start_103 rfl ⟨⟨hI1868, rfl⟩, rfl⟩
      · refine WP_iload dX1_start_18 rfl ?_
        refine WP_aload_n dX1_start_20 rfl ?_
        refine WP_getr dX1_start_21 fX1_37 rfl (lyx_is hy 27 7 rfl) (rfx hr 27 6 29 (by decide)) ?_
        refine WP_iload dX1_start_24 rfl ?_
        refine WQ_iald dX1_start_26 (lyx_is hy 29 13 rfl) (lyx_n hy 29 4 rfl) (by omega) (by omega) (fun q hq => BT_get hI.1 29 0 4 (0) (0) (99) (by decide) q (Nat.zero_le _) hq) (fun v1887 av1887 bv1887 ev1887 => ?_)
        clear ev1887
        refine WQ_iadd dX1_start_27 (by omega) (by omega) (fun v1888 hv1888 => ?_)
        refine WP_istore (ls' := [(0, _), (1, _), (2, _), (3, _), (4, _), (5, _), (6, _)]) dX1_start_28 (by decide) rfl ?_
        refine WP_iload dX1_start_30 rfl ?_
        refine WP_iload_n dX1_start_32 rfl ?_
        refine WP_iload dX1_start_33 rfl ?_
        refine WQ_ishru dX1_start_35 (fun v1889 => ?_)
        refine WQ_iconst (1) (1) dX1_start_36 rfl rfl (fun v1890 hv1890 => ?_)
        refine WQ_iandu dX1_start_37 (fun v1891 => ?_)
        refine WP_aload_n dX1_start_38 rfl ?_
        refine WP_getr dX1_start_39 fX1_37 rfl (lyx_is hy 27 7 rfl) (rfx hr 27 6 29 (by decide)) ?_
        refine WP_iload dX1_start_42 rfl ?_
        refine WQ_iald dX1_start_44 (lyx_is hy 29 13 rfl) (lyx_n hy 29 4 rfl) (by omega) (by omega) (fun q hq => BT_get hI.1 29 0 4 (0) (0) (99) (by decide) q (Nat.zero_le _) hq) (fun v1892 av1892 bv1892 ev1892 => ?_)
        clear ev1892
        refine WQ_imulu dX1_start_45 (fun v1893 => ?_)
        refine WQ_iaddu dX1_start_46 (fun v1894 => ?_)
        refine WP_istore (ls' := [(0, _), (1, _), (2, _), (3, _), (4, _), (5, _), (6, _)]) dX1_start_47 (by decide) rfl ?_
        refine WP_iinc (ls' := [(0, _), (1, _), (2, _), (3, _), (4, _), (5, _), (6, _)]) dX1_start_49 rfl (by decide) rfl ?_
        have hv1895 : (i1860 + Int32.ofInt (1)).toInt = i1860.toInt + (1) := ia_n rfl (by omega) (by omega)
        generalize i1860 + Int32.ofInt (1) = v1895 at hv1895 ⊢
        refine WP_goto 9 dX1_start_52 rfl ?_
        exact WP_sub (fc rfl (fc rfl (fc rfl (fc rfl (fc rfl (fc rfl (fc rfl fn))))))) (ihlp9_1860 v1894 v1888 v1895 (by omega) (by omega) (by omega) (by omega) (by omega) (by omega))
  exact WP_sub (fc rfl (fc rfl (fc rfl (fc rfl (fc rfl (fc rfl (fc rfl fn))))))) (lp9_1860 _ v1855 v1856 v1857 (by omega) (by omega) (by omega) (by omega) (by omega) (Nat.lt_succ_self _))
