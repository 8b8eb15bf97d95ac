set_option maxHeartbeats 4000000 in
set_option maxRecDepth 100000 in
theorem sx_mforget {g : GG} {n : Int} {L : Int32} (hy : LyX g)  {I : pI} {J : pJ} {R : pR} (hr : RfX g R) (hI : XI g n L I)   : SP g mX1_forget [.ref (ad g 71)] I J R (fun r I' J' R' => (XI g n L I' ∧ R' = R ∧ fz 74 g [73] I I' ∧ fz 74 g [] J J') ∧ r = none) := by
  refine SP_of ⟨by decide, rfl⟩ (Nat.le_of_ble_eq_true rfl) ?_
  have e1777 : I (ad g 1) 1 = L := hI.2
  have b1778 := BT_get hI.1 1 1 2 (0) (0) (900) (by decide) 1 (by decide) (by decide)
  rw [e1777] at b1778
  have fr0 : fz 74 g [73] I I := fz_rf
  have frj0 : fz 74 g [] J J := fz_rf
  refine WP_aload_n dX1_forget_0 rfl ?_
  refine WP_getr dX1_forget_1 fX1_15 rfl (lyx_is hy 71 1 rfl) (rfx hr 71 3 73 (by decide)) ?_
  refine WQ_iconst (0) (0) dX1_forget_4 rfl rfl (fun v1779 hv1779 => ?_)
  refine WP_callS2u dX1_forget_5 ⟨⟨⟨by decide, by decide⟩, zJ7_fill_53178⟩, lX1_22, tJ7_fill_53178⟩ (s_fill hy hr 73 8 rfl rfl (by decide) v1779) (Nat.le_of_ble_eq_true rfl) ?_
  obtain ⟨I1780, eI1780⟩ : ∃ I9 : pI, I9 = fi I (ad g 73) 8 v1779 := ⟨_, rfl⟩
  rw [← eI1780]
  have hI1780 : XI g n L I1780 := by rw [eI1780]; exact (xi_fill0 hy hI 73 8 v1779 (by decide) (by decide))
  have e1781 : I1780 (ad g 1) 1 = L := by rw [eI1780, fi_off (lyx_ne hy (by decide) (by decide) (by decide))]; exact e1777
  have fr1782 : fz 74 g [73] I I1780 := by rw [eI1780]; exact fzx_fi hy fr0 (by decide) (by decide)
  clear eI1780
  exact WP_vret dX1_forget_8 rfl ⟨⟨hI1780, rfl, fr1782, frj0⟩, rfl⟩
set_option maxHeartbeats 4000000 in
set_option maxRecDepth 100000 in
theorem sx_takeDraft {g : GG} {n : Int} {L : Int32} (hy : LyX g)  {I : pI} {J : pJ} {R : pR} (hr : RfX g R) (hI : XI g n L I)   : SP g mX1_takeDraft [.ref (ad g 71)] I J R (fun r I' J' R' => (XI g n L I' ∧ R' = R ∧ fz 74 g [73] I I' ∧ fz 74 g [] J J') ∧ r = none) := by
  refine SP_of ⟨by decide, rfl⟩ (Nat.le_of_ble_eq_true rfl) ?_
  have e1783 : I (ad g 1) 1 = L := hI.2
  have b1784 := BT_get hI.1 1 1 2 (0) (0) (900) (by decide) 1 (by decide) (by decide)
  rw [e1783] at b1784
  have fr0 : fz 74 g [73] I I := fz_rf
  have frj0 : fz 74 g [] J J := fz_rf
  refine WP_aload_n dX1_takeDraft_0 rfl ?_
  refine WP_getr dX1_takeDraft_1 fX1_9 rfl (lyx_is hy 71 1 rfl) (rfx hr 71 2 72 (by decide)) ?_
  refine WQ_iconst (0) (0) dX1_takeDraft_4 rfl rfl (fun v1785 hv1785 => ?_)
  refine WP_aload_n dX1_takeDraft_5 rfl ?_
  refine WP_getr dX1_takeDraft_6 fX1_15 rfl (lyx_is hy 71 1 rfl) (rfx hr 71 3 73 (by decide)) ?_
  refine WQ_iconst (0) (0) dX1_takeDraft_9 rfl rfl (fun v1786 hv1786 => ?_)
  refine WP_aload_n dX1_takeDraft_10 rfl ?_
  refine WP_getr dX1_takeDraft_11 fX1_15 rfl (lyx_is hy 71 1 rfl) (rfx hr 71 3 73 (by decide)) ?_
  refine WP_alen dX1_takeDraft_14 (lyx_is hy 73 13 rfl) (by decide) ?_
  rw [(lyx_n hy 73 8 rfl)]
  obtain ⟨v1787, hv1787, ev1787⟩ : ∃ v : Int32, v.toInt = 8 ∧ nI 8 = v := ⟨_, nI_toInt (by decide), rfl⟩
  rw [ev1787]; clear ev1787
  refine WQ_copy0 (N := 8) dX1_takeDraft_15 lX1_28 ⟨by decide, Nat.le_of_ble_eq_true rfl⟩ (lyx_is hy 72 13 rfl) (lyx_is hy 73 13 rfl) hv1785 hv1786 hv1787 (lyx_n hy 72 8 rfl) (lyx_n hy 73 8 rfl) (fun I1788 fI1788 oI1788 => ?_)
  have hI1788 : XI g n L I1788 := xi_copy hy hI 72 73 8 (by decide) (by decide) fI1788 oI1788
  have fr1789 : fz 74 g [73] I I1788 := fzx_cp hy fr0 oI1788 (by decide) (by decide)
  clear fI1788 oI1788
  have e1790 : I1788 (ad g 1) 1 = L := hI1788.2
  have b1791 := BT_get hI1788.1 1 1 2 (0) (0) (900) (by decide) 1 (by decide) (by decide)
  rw [e1790] at b1791
  exact WP_vret dX1_takeDraft_18 rfl ⟨⟨hI1788, rfl, fr1789, frj0⟩, rfl⟩
set_option maxHeartbeats 4000000 in
set_option maxRecDepth 100000 in
theorem sx_goOn {g : GG} {n : Int} {L : Int32} (hy : LyX g)  {I : pI} {J : pJ} {R : pR} (hr : RfX g R) (hI : XI g n L I) (so : Int32) (r : Int32) (t : Int32) (so_lo : 0 ≤ so.toInt) (so_hi : so.toInt ≤ 3) (t_lo : 0 ≤ t.toInt) (t_hi : t.toInt ≤ 40) : SP g mX1_goOn [.ref (ad g 71), .int so, .int r, .int t] I J R (fun r I' J' R' => (XI g n L I' ∧ R' = R ∧ fz 74 g [] I I' ∧ fz 74 g [71] J J') ∧ r = none) := by
  refine SP_of ⟨by decide, rfl⟩ (Nat.le_of_ble_eq_true rfl) ?_
  have e1792 : I (ad g 1) 1 = L := hI.2
  have b1793 := BT_get hI.1 1 1 2 (0) (0) (900) (by decide) 1 (by decide) (by decide)
  rw [e1792] at b1793
  have fr0 : fz 74 g [] I I := fz_rf
  have frj0 : fz 74 g [71] J J := fz_rf
  refine WP_ldc2 (1000) dX1_goOn_0 klX1_50 ?_
  obtain ⟨l1794, hl1794, el1794⟩ : ∃ v : Int64, v.toInt = (1000) ∧ ((1000) : Int64) = v := ⟨_, rfl, rfl⟩
  rw [el1794]; clear el1794
  refine WP_aload_n dX1_goOn_3 rfl ?_
  refine WP_getr dX1_goOn_4 fX1_15 rfl (lyx_is hy 71 1 rfl) (rfx hr 71 3 73 (by decide)) ?_
  refine WQ_iconst (2) (2) dX1_goOn_7 rfl rfl (fun v1795 hv1795 => ?_)
  refine WP_iload_n dX1_goOn_8 rfl ?_
  refine WQ_imulK (2) dX1_goOn_9 hv1795 (by omega) (by omega) (fun v1796 hv1796 => ?_)
  refine WQ_ialdu dX1_goOn_10 (lyx_is hy 73 13 rfl) (lyx_n hy 73 8 rfl) (by omega) (by omega) (fun v1797 => ?_)
  refine WQ_i2l dX1_goOn_11 (fun l1798 hl1798 => ?_)
  refine WQ_lmul dX1_goOn_12 (fun l1799 => ?_)
  refine WP_lstore (ls' := [(0, _), (1, _), (2, _), (3, _), (4, _)]) dX1_goOn_13 (by decide) rfl ?_
  refine WP_ldc2 (1000) dX1_goOn_15 klX1_50 ?_
  obtain ⟨l1800, hl1800, el1800⟩ : ∃ v : Int64, v.toInt = (1000) ∧ ((1000) : Int64) = v := ⟨_, rfl, rfl⟩
  rw [el1800]; clear el1800
  refine WP_aload_n dX1_goOn_18 rfl ?_
  refine WP_getr dX1_goOn_19 fX1_15 rfl (lyx_is hy 71 1 rfl) (rfx hr 71 3 73 (by decide)) ?_
  refine WQ_iconst (2) (2) dX1_goOn_22 rfl rfl (fun v1801 hv1801 => ?_)
  refine WP_iload_n dX1_goOn_23 rfl ?_
  refine WQ_imulK (2) dX1_goOn_24 hv1801 (by omega) (by omega) (fun v1802 hv1802 => ?_)
  refine WQ_iconst (1) (1) dX1_goOn_25 rfl rfl (fun v1803 hv1803 => ?_)
  refine WQ_iadd dX1_goOn_26 (by omega) (by omega) (fun v1804 hv1804 => ?_)
  refine WQ_ialdu dX1_goOn_27 (lyx_is hy 73 13 rfl) (lyx_n hy 73 8 rfl) (by omega) (by omega) (fun v1805 => ?_)
  refine WQ_i2l dX1_goOn_28 (fun l1806 hl1806 => ?_)
  refine WQ_lmul dX1_goOn_29 (fun l1807 => ?_)
  refine WP_lstore (ls' := [(0, _), (1, _), (2, _), (3, _), (4, _), (6, _)]) dX1_goOn_30 (by decide) rfl ?_
  refine WP_aload_n dX1_goOn_32 rfl ?_
  refine WQ_getiu dX1_goOn_33 fX1_40 rfl (lyx_is hy 71 1 rfl) (fun v1808 ev1808 => ?_)
  refine WP_iload_n dX1_goOn_36 rfl ?_
  refine WQ_ishru dX1_goOn_37 (fun v1809 => ?_)
  refine WQ_iconst (1) (1) dX1_goOn_38 rfl rfl (fun v1810 hv1810 => ?_)
  refine WQ_iandu dX1_goOn_39 (fun v1811 => ?_)
  have jn48_1814 : ∀ (v1814 : Int32), 0 ≤ v1814.toInt → v1814.toInt ≤ 1 → WP g mX1_goOn 48 [(0, .ref (ad g 71)), (1, .int so), (2, .int r), (3, .int t), (4, .long l1799), (6, .long l1807)] [.int v1814] I J R (fun r I' J' R' => (XI g n L I' ∧ R' = R ∧ fz 74 g [] I I' ∧ fz 74 g [71] J J') ∧ r = none) := by
    intro v1814 av1814 bv1814
    refine WP_istore (ls' := [(0, _), (1, _), (2, _), (3, _), (4, _), (6, _), (8, _)]) dX1_goOn_48 (by decide) rfl ?_
    refine WP_aload_n dX1_goOn_50 rfl ?_
    refine WP_lconst (0) dX1_goOn_51 rfl ?_
    obtain ⟨l1816, hl1816, el1816⟩ : ∃ v : Int64, v.toInt = 0 ∧ (0 : Int64) = v := ⟨_, rfl, rfl⟩
    rw [el1816]; clear el1816
    refine WQ_putl dX1_goOn_52 fX1_52 rfl rfl (lyx_is hy 71 1 rfl) (fun J1817 eJ1817 => ?_)
    have fr1818 : fz 74 g [71] J J1817 := by rw [eJ1817]; exact fzx_pp hy frj0 (by decide) (by decide)
    clear eJ1817
    refine WP_aload_n dX1_goOn_55 rfl ?_
    refine WP_lconst (0) dX1_goOn_56 rfl ?_
    obtain ⟨l1819, hl1819, el1819⟩ : ∃ v : Int64, v.toInt = 0 ∧ (0 : Int64) = v := ⟨_, rfl, rfl⟩
    rw [el1819]; clear el1819
    refine WQ_putl dX1_goOn_57 fX1_55 rfl rfl (lyx_is hy 71 1 rfl) (fun J1820 eJ1820 => ?_)
    have fr1821 : fz 74 g [71] J J1820 := by rw [eJ1820]; exact fzx_pp hy fr1818 (by decide) (by decide)
    clear eJ1820
    refine WQ_iconst (0) (0) dX1_goOn_60 rfl rfl (fun v1822 hv1822 => ?_)
    refine WP_istore (ls' := [(0, _), (1, _), (2, _), (3, _), (4, _), (6, _), (8, _), (9, _)]) dX1_goOn_61 (by decide) rfl ?_
    have lp63_1825 : ∀ (mz : Nat) (i1823 : Int32) (I1824 : pI) (J1825 : pJ), XI g n L I1824 → fz 74 g [] I I1824 → fz 74 g [71] J J1825 → 0 ≤ i1823.toInt → i1823.toInt ≤ 40 → (41 - i1823.toInt).toNat < mz → WP g mX1_goOn 63 [(0, .ref (ad g 71)), (1, .int so), (2, .int r), (3, .int t), (4, .long l1799), (6, .long l1807), (8, .int v1814), (9, .int i1823)] [] I1824 J1825 R (fun r I' J' R' => (XI g n L I' ∧ R' = R ∧ fz 74 g [] I I' ∧ fz 74 g [71] J J') ∧ r = none) := by
      intro mz
      induction mz with
      | zero =>
        intro i1823 I1824 J1825 hI1824 fiI1824 fjJ1825 ai1823 bi1823 hmlp63_1825
        exact absurd hmlp63_1825 (Nat.not_lt_zero _)
      | succ mz ihlp63_1825 =>
        intro i1823 I1824 J1825 hI1824 fiI1824 fjJ1825 ai1823 bi1823 hmlp63_1825
        have e1827 : I1824 (ad g 1) 1 = L := hI1824.2
        have b1828 := BT_get hI1824.1 1 1 2 (0) (0) (900) (by decide) 1 (by decide) (by decide)
        rw [e1827] at b1828
        refine WP_iload dX1_goOn_63 rfl ?_
        refine WP_iload_n dX1_goOn_65 rfl ?_
        refine WQ_icmp_ge 173 dX1_goOn_66 rfl (fun c1828 => ?_) (fun c1828 => ?_)
        · exact WP_vret dX1_goOn_173 rfl ⟨⟨hI1824, rfl, fiI1824, fjJ1825⟩, rfl⟩
        · refine WP_aload_n dX1_goOn_69 rfl ?_
          refine WQ_getl dX1_goOn_70 fX1_47 rfl (lyx_is hy 71 1 rfl) (fun l1830 el1830 => ?_)
          refine WP_lload dX1_goOn_73 rfl ?_
          refine WP_aload_n dX1_goOn_75 rfl ?_
          refine WQ_getl dX1_goOn_76 fX1_55 rfl (lyx_is hy 71 1 rfl) (fun l1831 el1831 => ?_)
          refine WQ_ladd dX1_goOn_79 (fun l1832 => ?_)
          refine WQ_lmul dX1_goOn_80 (fun l1833 => ?_)
          refine WP_ldc2 (1000) dX1_goOn_81 klX1_50 ?_
          obtain ⟨l1834, hl1834, el1834⟩ : ∃ v : Int64, v.toInt = (1000) ∧ ((1000) : Int64) = v := ⟨_, rfl, rfl⟩
          rw [el1834]; clear el1834
          refine WP_aload_n dX1_goOn_84 rfl ?_
          refine WP_getl dX1_goOn_85 fX1_47 rfl (lyx_is hy 71 1 rfl) ?_
          rw [el1830]
          refine WQ_lsub dX1_goOn_88 (fun l1835 => ?_)
          refine WP_aload_n dX1_goOn_89 rfl ?_
          refine WQ_getl dX1_goOn_90 fX1_52 rfl (lyx_is hy 71 1 rfl) (fun l1836 el1836 => ?_)
          refine WQ_lmul dX1_goOn_93 (fun l1837 => ?_)
          refine WQ_ladd dX1_goOn_94 (fun l1838 => ?_)
          refine WP_ldc2 (1000) dX1_goOn_95 klX1_50 ?_
          obtain ⟨l1839, hl1839, el1839⟩ : ∃ v : Int64, v.toInt = (1000) ∧ ((1000) : Int64) = v := ⟨_, rfl, rfl⟩
          rw [el1839]; clear el1839
          refine WQ_ldiv dX1_goOn_98 (by omega) (fun l1840 => ?_)
          refine WP_lstore (ls' := [(0, _), (1, _), (2, _), (3, _), (4, _), (6, _), (8, _), (9, _), (10, _)]) dX1_goOn_99 (by decide) rfl ?_
          refine WP_aload_n dX1_goOn_101 rfl ?_
          refine WP_getl dX1_goOn_102 fX1_52 rfl (lyx_is hy 71 1 rfl) ?_
          rw [el1836]
          refine WP_lload dX1_goOn_105 rfl ?_
          refine WQ_maxl dX1_goOn_107 lX1_58 ⟨by decide, Nat.le_of_ble_eq_true rfl⟩ (fun l1841 => ?_)
          refine WP_lstore (ls' := [(0, _), (1, _), (2, _), (3, _), (4, _), (6, _), (8, _), (9, _), (10, _), (12, _)]) dX1_goOn_110 (by decide) rfl ?_
          refine WP_iload dX1_goOn_112 rfl ?_
          refine WQ_if_eq 151 dX1_goOn_114 rfl (fun c1841 => ?_) (fun c1841 => ?_)
          · refine WP_aload_n dX1_goOn_151 rfl ?_
            refine WP_lload dX1_goOn_152 rfl ?_
            refine WP_lload dX1_goOn_154 rfl ?_
            refine WP_iload_n dX1_goOn_156 rfl ?_
            refine WQ_i2l dX1_goOn_157 (fun l1843 hl1843 => ?_)
            refine WQ_lmul dX1_goOn_158 (fun l1844 => ?_)
            refine WP_ldc2 (1000) dX1_goOn_159 klX1_50 ?_
            obtain ⟨l1845, hl1845, el1845⟩ : ∃ v : Int64, v.toInt = (1000) ∧ ((1000) : Int64) = v := ⟨_, rfl, rfl⟩
            rw [el1845]; clear el1845
            refine WQ_ldiv dX1_goOn_162 (by omega) (fun l1846 => ?_)
            refine WQ_lsub dX1_goOn_163 (fun l1847 => ?_)
            refine WQ_putl dX1_goOn_164 fX1_52 rfl rfl (lyx_is hy 71 1 rfl) (fun J1848 eJ1848 => ?_)
            have fr1849 : fz 74 g [71] J J1848 := by rw [eJ1848]; exact fzx_pp hy fjJ1825 (by decide) (by decide)
            clear eJ1848
            refine WP_iinc (ls' := [(0, _), (1, _), (2, _), (3, _), (4, _), (6, _), (8, _), (9, _), (10, _), (12, _)]) dX1_goOn_167 rfl (by decide) rfl ?_
            have hv1850 : (i1823 + Int32.ofInt (1)).toInt = i1823.toInt + (1) := ia_n rfl (by omega) (by omega)
            generalize i1823 + Int32.ofInt (1) = v1850 at hv1850 ⊢
            refine WP_goto 63 dX1_goOn_170 rfl ?_
            exact WP_sub (fc rfl (fc rfl (fc rfl (fc rfl (fc rfl (fc rfl (fc rfl (fc rfl fn)))))))) (ihlp63_1825 v1850 I1824 J1848 hI1824 fiI1824 fr1849 (by omega) (by omega) (by omega))
          · refine WP_aload_n dX1_goOn_117 rfl ?_
            refine WP_aload_n dX1_goOn_118 rfl ?_
            refine WQ_getl dX1_goOn_119 fX1_43 rfl (lyx_is hy 71 1 rfl) (fun l1851 el1851 => ?_)
            refine WP_aload_n dX1_goOn_122 rfl ?_
            refine WP_getl dX1_goOn_123 fX1_52 rfl (lyx_is hy 71 1 rfl) ?_
            rw [el1836]
            refine WP_lload dX1_goOn_126 rfl ?_
            refine WQ_lsub dX1_goOn_128 (fun l1852 => ?_)
            refine WQ_lmul dX1_goOn_129 (fun l1853 => ?_)
            refine WP_ldc2 (1000) dX1_goOn_130 klX1_50 ?_
            obtain ⟨l1854, hl1854, el1854⟩ : ∃ v : Int64, v.toInt = (1000) ∧ ((1000) : Int64) = v := ⟨_, rfl, rfl⟩
            rw [el1854]; clear el1854
            refine WP_aload_n dX1_goOn_133 rfl ?_
            refine WP_getl dX1_goOn_134 fX1_43 rfl (lyx_is hy 71 1 rfl) ?_
            rw [el1851]
            refine WQ_lsub dX1_goOn_137 (fun l1855 => ?_)
            refine WP_aload_n dX1_goOn_138 rfl ?_
            refine WP_getl dX1_goOn_139 fX1_55 rfl (lyx_is hy 71 1 rfl) ?_
            rw [el1831]
            refine WQ_lmul dX1_goOn_142 (fun l1856 => ?_)
            refine WQ_ladd dX1_goOn_143 (fun l1857 => ?_)
            refine WP_ldc2 (1000) dX1_goOn_144 klX1_50 ?_
            obtain ⟨l1858, hl1858, el1858⟩ : ∃ v : Int64, v.toInt = (1000) ∧ ((1000) : Int64) = v := ⟨_, rfl, rfl⟩
            rw [el1858]; clear el1858
            refine WQ_ldiv dX1_goOn_147 (by omega) (fun l1859 => ?_)
            refine WQ_putl dX1_goOn_148 fX1_55 rfl rfl (lyx_is hy 71 1 rfl) (fun J1860 eJ1860 => ?_)
            have fr1861 : fz 74 g [71] J J1860 := by rw [eJ1860]; exact fzx_pp hy fjJ1825 (by decide) (by decide)
            clear eJ1860
            refine WP_aload_n dX1_goOn_151 rfl ?_
            refine WP_lload dX1_goOn_152 rfl ?_
            refine WP_lload dX1_goOn_154 rfl ?_
            refine WP_iload_n dX1_goOn_156 rfl ?_
            refine WQ_i2l dX1_goOn_157 (fun l1862 hl1862 => ?_)
            refine WQ_lmul dX1_goOn_158 (fun l1863 => ?_)
            refine WP_ldc2 (1000) dX1_goOn_159 klX1_50 ?_
            obtain ⟨l1864, hl1864, el1864⟩ : ∃ v : Int64, v.toInt = (1000) ∧ ((1000) : Int64) = v := ⟨_, rfl, rfl⟩
            rw [el1864]; clear el1864
            refine WQ_ldiv dX1_goOn_162 (by omega) (fun l1865 => ?_)
            refine WQ_lsub dX1_goOn_163 (fun l1866 => ?_)
            refine WQ_putl dX1_goOn_164 fX1_52 rfl rfl (lyx_is hy 71 1 rfl) (fun J1867 eJ1867 => ?_)
            have fr1868 : fz 74 g [71] J J1867 := by rw [eJ1867]; exact fzx_pp hy fr1861 (by decide) (by decide)
            clear eJ1867
            refine WP_iinc (ls' := [(0, _), (1, _), (2, _), (3, _), (4, _), (6, _), (8, _), (9, _), (10, _), (12, _)]) dX1_goOn_167 rfl (by decide) rfl ?_
            have hv1869 : (i1823 + Int32.ofInt (1)).toInt = i1823.toInt + (1) := ia_n rfl (by omega) (by omega)
            generalize i1823 + Int32.ofInt (1) = v1869 at hv1869 ⊢
            refine WP_goto 63 dX1_goOn_170 rfl ?_
            exact WP_sub (fc rfl (fc rfl (fc rfl (fc rfl (fc rfl (fc rfl (fc rfl (fc rfl fn)))))))) (ihlp63_1825 v1869 I1824 J1867 hI1824 fiI1824 fr1868 (by omega) (by omega) (by omega))
    exact WP_sub (fc rfl (fc rfl (fc rfl (fc rfl (fc rfl (fc rfl (fc rfl (fc rfl fn)))))))) (lp63_1825 _ v1822 I J1820 hI fr0 fr1821 (by omega) (by omega) (Nat.lt_succ_self _))
  refine WX_if_eq 47 dX1_goOn_40 rfl ?_ ?_
  · refine WQ_iconst (0) (0) dX1_goOn_47 rfl rfl (fun v1870 hv1870 => ?_)
    exact WP_sub (fc rfl (fc rfl (fc rfl (fc rfl (fc rfl (fc rfl fn)))))) (jn48_1814 v1870 (by omega) (by omega))
  · refine WQ_iconst (1) (1) dX1_goOn_43 rfl rfl (fun v1871 hv1871 => ?_)
    refine WP_goto 48 dX1_goOn_44 rfl ?_
    exact WP_sub (fc rfl (fc rfl (fc rfl (fc rfl (fc rfl (fc rfl fn)))))) (jn48_1814 v1871 (by omega) (by omega))
set_option maxHeartbeats 4000000 in
set_option maxRecDepth 100000 in
theorem sx_isAtRest {g : GG} {n : Int} {L : Int32} (hy : LyX g)  {I : pI} {J : pJ} {R : pR} (hr : RfX g R) (hI : XI g n L I) (r : Int32) (t : Int32) (t_lo : 0 ≤ t.toInt) (t_hi : t.toInt ≤ 40) : SP g mX1_isAtRest [.ref (ad g 71), .int r, .int t] I J R (fun r I' J' R' => (XI g n L I' ∧ R' = R ∧ fz 74 g [] I I' ∧ fz 74 g [71] J J') ∧ ∃ v : Int32, r = some (.int v) ∧ 0 ≤ v.toInt ∧ v.toInt ≤ 1) := by
  refine SP_of ⟨by decide, rfl⟩ (Nat.le_of_ble_eq_true rfl) ?_
  have e1872 : I (ad g 1) 1 = L := hI.2
  have b1873 := BT_get hI.1 1 1 2 (0) (0) (900) (by decide) 1 (by decide) (by decide)
  rw [e1872] at b1873
  have fr0 : fz 74 g [] I I := fz_rf
  have frj0 : fz 74 g [71] J J := fz_rf
  refine WQ_iconst (0) (0) dX1_isAtRest_0 rfl rfl (fun v1874 hv1874 => ?_)
  refine WP_istore_n (ls' := [(0, _), (1, _), (2, _), (3, _)]) dX1_isAtRest_1 (by decide) rfl ?_
  have lp2_1877 : ∀ (mz : Nat) (i1875 : Int32) (I1876 : pI) (J1877 : pJ), XI g n L I1876 → fz 74 g [] I I1876 → fz 74 g [71] J J1877 → 0 ≤ i1875.toInt → i1875.toInt ≤ 4 → (5 - i1875.toInt).toNat < mz → WP g mX1_isAtRest 2 [(0, .ref (ad g 71)), (1, .int r), (2, .int t), (3, .int i1875)] [] I1876 J1877 R (fun r I' J' R' => (XI g n L I' ∧ R' = R ∧ fz 74 g [] I I' ∧ fz 74 g [71] J J') ∧ ∃ v : Int32, r = some (.int v) ∧ 0 ≤ v.toInt ∧ v.toInt ≤ 1) := by
    intro mz
    induction mz with
    | zero =>
      intro i1875 I1876 J1877 hI1876 fiI1876 fjJ1877 ai1875 bi1875 hmlp2_1877
      exact absurd hmlp2_1877 (Nat.not_lt_zero _)
    | succ mz ihlp2_1877 =>
      intro i1875 I1876 J1877 hI1876 fiI1876 fjJ1877 ai1875 bi1875 hmlp2_1877
      have e1879 : I1876 (ad g 1) 1 = L := hI1876.2
      have b1880 := BT_get hI1876.1 1 1 2 (0) (0) (900) (by decide) 1 (by decide) (by decide)
      rw [e1879] at b1880
      refine WP_iload_n dX1_isAtRest_2 rfl ?_
      refine WP_aload_n dX1_isAtRest_3 rfl ?_
      refine WQ_geti dX1_isAtRest_4 fX1_18 rfl (lyx_is hy 71 1 rfl) (BT_get hI1876.1 71 4 5 (0) (0) (4) (by decide) 4 (by decide) (by decide)) (fun v1881 ev1881 av1881 bv1881 => ?_)
      refine WQ_icmp_ge 81 dX1_isAtRest_7 rfl (fun c1881 => ?_) (fun c1881 => ?_)
      · refine WQ_iconst (1) (1) dX1_isAtRest_81 rfl rfl (fun v1883 hv1883 => ?_)
        exact WP_zret dX1_isAtRest_82 rfl (nar_z (by omega)) ⟨⟨hI1876, rfl, fiI1876, fjJ1877⟩, _, rfl, by omega, by omega⟩
      · refine WP_aload_n dX1_isAtRest_10 rfl ?_
        refine WP_iload_n dX1_isAtRest_11 rfl ?_
        refine WP_iload_n dX1_isAtRest_12 rfl ?_
        refine WP_iload_n dX1_isAtRest_13 rfl ?_
        refine WP_callV3 (k := 1) dX1_isAtRest_14 ⟨⟨⟨by decide, by decide⟩, zX1_goOn⟩, lX1_64, by decide, rfl, vX1_goOn.1, vX1_goOn.2⟩ (lyx_is hy 71 1 rfl) (sx_goOn hy hr hI1876 i1875 r t (by omega) (by omega)  (by omega) (by omega)) (Nat.le_of_ble_eq_true rfl) ?_
        intro r I1884 J1885 Ra hq
        obtain ⟨⟨hI1884, ec, fiI1884, fjI1884⟩, rfl⟩ := hq
        rw [ec]
        clear ec Ra
        have fr1886 : fz 74 g [] I I1884 := fz_tr fiI1876 (fz_mono fiI1884 (by decide))
        have fr1887 : fz 74 g [71] J J1885 := fz_tr fjJ1877 (fz_mono fjI1884 (by decide))
        have e1888 : I1884 (ad g 1) 1 = L := hI1884.2
        have b1889 := BT_get hI1884.1 1 1 2 (0) (0) (900) (by decide) 1 (by decide) (by decide)
        rw [e1888] at b1889
        refine WP_aload_n dX1_isAtRest_17 rfl ?_
        refine WQ_getl dX1_isAtRest_18 fX1_52 rfl (lyx_is hy 71 1 rfl) (fun l1890 el1890 => ?_)
        refine WP_aload_n dX1_isAtRest_21 rfl ?_
        refine WQ_getl dX1_isAtRest_22 fX1_55 rfl (lyx_is hy 71 1 rfl) (fun l1891 el1891 => ?_)
        refine WQ_lsub dX1_isAtRest_25 (fun l1892 => ?_)
        refine WP_ldc2 (1000) dX1_isAtRest_26 klX1_50 ?_
        obtain ⟨l1893, hl1893, el1893⟩ : ∃ v : Int64, v.toInt = (1000) ∧ ((1000) : Int64) = v := ⟨_, rfl, rfl⟩
        rw [el1893]; clear el1893
        refine WP_aload_n dX1_isAtRest_29 rfl ?_
        refine WP_getr dX1_isAtRest_30 fX1_15 rfl (lyx_is hy 71 1 rfl) (rfx hr 71 3 73 (by decide)) ?_
        refine WQ_iconst (2) (2) dX1_isAtRest_33 rfl rfl (fun v1894 hv1894 => ?_)
        refine WP_iload_n dX1_isAtRest_34 rfl ?_
        refine WQ_imulK (2) dX1_isAtRest_35 hv1894 (by omega) (by omega) (fun v1895 hv1895 => ?_)
        refine WQ_iconst (1) (1) dX1_isAtRest_36 rfl rfl (fun v1896 hv1896 => ?_)
        refine WQ_iadd dX1_isAtRest_37 (by omega) (by omega) (fun v1897 hv1897 => ?_)
        refine WQ_ialdu dX1_isAtRest_38 (lyx_is hy 73 13 rfl) (lyx_n hy 73 8 rfl) (by omega) (by omega) (fun v1898 => ?_)
        refine WQ_i2l dX1_isAtRest_39 (fun l1899 hl1899 => ?_)
        refine WQ_lmul dX1_isAtRest_40 (fun l1900 => ?_)
        refine WQ_lcmpu dX1_isAtRest_41 (fun v1901 => ?_)
        have jn50_1904 : ∀ (v1904 : Int32), 0 ≤ v1904.toInt → v1904.toInt ≤ 1 → WP g mX1_isAtRest 50 [(0, .ref (ad g 71)), (1, .int r), (2, .int t), (3, .int i1875)] [.int v1904] I1884 J1885 R (fun r I' J' R' => (XI g n L I' ∧ R' = R ∧ fz 74 g [] I I' ∧ fz 74 g [71] J J') ∧ ∃ v : Int32, r = some (.int v) ∧ 0 ≤ v.toInt ∧ v.toInt ≤ 1) := by
          intro v1904 av1904 bv1904
          refine WP_istore (ls' := [(0, _), (1, _), (2, _), (3, _), (4, _)]) dX1_isAtRest_50 (by decide) rfl ?_
          refine WP_iload dX1_isAtRest_52 rfl ?_
          refine WP_aload_n dX1_isAtRest_54 rfl ?_
          refine WQ_getiu dX1_isAtRest_55 fX1_40 rfl (lyx_is hy 71 1 rfl) (fun v1906 ev1906 => ?_)
          refine WP_iload_n dX1_isAtRest_58 rfl ?_
          refine WQ_ishru dX1_isAtRest_59 (fun v1907 => ?_)
          refine WQ_iconst (1) (1) dX1_isAtRest_60 rfl rfl (fun v1908 hv1908 => ?_)
          refine WQ_iandu dX1_isAtRest_61 (fun v1909 => ?_)
          have jn70_1912 : ∀ (v1912 : Int32), 0 ≤ v1912.toInt → v1912.toInt ≤ 1 → WP g mX1_isAtRest 70 [(0, .ref (ad g 71)), (1, .int r), (2, .int t), (3, .int i1875), (4, .int v1904)] [.int v1912, .int v1904] I1884 J1885 R (fun r I' J' R' => (XI g n L I' ∧ R' = R ∧ fz 74 g [] I I' ∧ fz 74 g [71] J J') ∧ ∃ v : Int32, r = some (.int v) ∧ 0 ≤ v.toInt ∧ v.toInt ≤ 1) := by
            intro v1912 av1912 bv1912
            refine WQ_icmp_eq 75 dX1_isAtRest_70 rfl (fun c1913 => ?_) (fun c1913 => ?_)
            · refine WP_iinc (ls' := [(0, _), (1, _), (2, _), (3, _), (4, _)]) dX1_isAtRest_75 rfl (by decide) rfl ?_
              have hv1915 : (i1875 + Int32.ofInt (1)).toInt = i1875.toInt + (1) := ia_n rfl (by omega) (by omega)
              generalize i1875 + Int32.ofInt (1) = v1915 at hv1915 ⊢
              refine WP_goto 2 dX1_isAtRest_78 rfl ?_
              exact WP_sub (fc rfl (fc rfl (fc rfl (fc rfl fn)))) (ihlp2_1877 v1915 I1884 J1885 hI1884 fr1886 fr1887 (by omega) (by omega) (by omega))
            · refine WQ_iconst (0) (0) dX1_isAtRest_73 rfl rfl (fun v1916 hv1916 => ?_)
              exact WP_zret dX1_isAtRest_74 rfl (nar_z (by omega)) ⟨⟨hI1884, rfl, fr1886, fr1887⟩, _, rfl, by omega, by omega⟩
          refine WX_if_eq 69 dX1_isAtRest_62 rfl ?_ ?_
          · refine WQ_iconst (0) (0) dX1_isAtRest_69 rfl rfl (fun v1917 hv1917 => ?_)
            exact WP_sub (fc rfl (fc rfl (fc rfl (fc rfl (fc rfl fn))))) (jn70_1912 v1917 (by omega) (by omega))
          · refine WQ_iconst (1) (1) dX1_isAtRest_65 rfl rfl (fun v1918 hv1918 => ?_)
            refine WP_goto 70 dX1_isAtRest_66 rfl ?_
            exact WP_sub (fc rfl (fc rfl (fc rfl (fc rfl (fc rfl fn))))) (jn70_1912 v1918 (by omega) (by omega))
        refine WX_if_lt 49 dX1_isAtRest_42 rfl ?_ ?_
        · refine WQ_iconst (0) (0) dX1_isAtRest_49 rfl rfl (fun v1919 hv1919 => ?_)
          exact WP_sub (fc rfl (fc rfl (fc rfl (fc rfl fn)))) (jn50_1904 v1919 (by omega) (by omega))
        · refine WQ_iconst (1) (1) dX1_isAtRest_45 rfl rfl (fun v1920 hv1920 => ?_)
          refine WP_goto 50 dX1_isAtRest_46 rfl ?_
          exact WP_sub (fc rfl (fc rfl (fc rfl (fc rfl fn)))) (jn50_1904 v1920 (by omega) (by omega))
  exact WP_sub (fc rfl (fc rfl (fc rfl (fc rfl fn)))) (lp2_1877 _ v1874 I J hI fr0 frj0 (by omega) (by omega) (Nat.lt_succ_self _))
set_option maxHeartbeats 4000000 in
set_option maxRecDepth 100000 in
theorem sx_start_6 {g : GG} {n : Int} {L : Int32} (hy : LyX g)  {I : pI} {J : pJ} {R : pR} (hr : RfX g R) (hI : XI g n L I) (se : Int32) (m : Int32) (m_lo : 0 ≤ m.toInt) (m_hi : m.toInt ≤ 100) : SP g mX1_start [.ref (ad g 71), .ref (ad g 6), .int se, .int m] I J R (fun r I' J' R' => (XI g n L I' ∧ R' = R ∧ fz 74 g [71] I I' ∧ fz 74 g [71] J J') ∧ r = none) := by
  refine SP_of ⟨by decide, rfl⟩ (Nat.le_of_ble_eq_true rfl) ?_
  have e1921 : I (ad g 1) 1 = L := hI.2
  have b1922 := BT_get hI.1 1 1 2 (0) (0) (900) (by decide) 1 (by decide) (by decide)
  rw [e1921] at b1922
  have fr0 : fz 74 g [71] I I := fz_rf
  have frj0 : fz 74 g [71] J J := fz_rf
  refine WQ_iconst (0) (0) dX1_start_0 rfl rfl (fun v1923 hv1923 => ?_)
  refine WP_istore (ls' := [(0, _), (1, _), (2, _), (3, _), (4, _)]) dX1_start_1 (by decide) rfl ?_
  refine WQ_iconst (0) (0) dX1_start_3 rfl rfl (fun v1924 hv1924 => ?_)
  refine WP_istore (ls' := [(0, _), (1, _), (2, _), (3, _), (4, _), (5, _)]) dX1_start_4 (by decide) rfl ?_
  refine WQ_iconst (0) (0) dX1_start_6 rfl rfl (fun v1925 hv1925 => ?_)
  refine WP_istore (ls' := [(0, _), (1, _), (2, _), (3, _), (4, _), (5, _), (6, _)]) dX1_start_7 (by decide) rfl ?_
  have lp9_1928 : ∀ (mz : Nat) (i1926 : Int32) (i1927 : Int32) (i1928 : Int32), 0 ≤ i1927.toInt → i1927.toInt ≤ 396 → 0 ≤ i1928.toInt → i1928.toInt ≤ 4 → i1927.toInt ≤ 99 * i1928.toInt → (5 - i1928.toInt).toNat < mz → WP g mX1_start 9 [(0, .ref (ad g 71)), (1, .ref (ad g 6)), (2, .int se), (3, .int m), (4, .int i1926), (5, .int i1927), (6, .int i1928)] [] I J R (fun r I' J' R' => (XI g n L I' ∧ R' = R ∧ fz 74 g [71] I I' ∧ fz 74 g [71] J J') ∧ r = none) := by
    intro mz
    induction mz with
    | zero =>
      intro i1926 i1927 i1928 ai1927 bi1927 ai1928 bi1928 j0_I hmlp9_1928
      exact absurd hmlp9_1928 (Nat.not_lt_zero _)
    | succ mz ihlp9_1928 =>
      intro i1926 i1927 i1928 ai1927 bi1927 ai1928 bi1928 j0_I hmlp9_1928
      refine WP_iload dX1_start_9 rfl ?_
      refine WP_aload_n dX1_start_11 rfl ?_
      refine WQ_geti dX1_start_12 fX1_34 rfl (lyx_is hy 6 7 rfl) (BT_get hI.1 6 1 2 (0) (0) (4) (by decide) 1 (by decide) (by decide)) (fun v1930 ev1930 av1930 bv1930 => ?_)
      refine WQ_icmp_ge 55 dX1_start_15 rfl (fun c1930 => ?_) (fun c1930 => ?_)
      · refine WP_aload_n dX1_start_55 rfl ?_
        refine WP_aload_n dX1_start_56 rfl ?_
        refine WQ_getim dX1_start_57 fX1_34 rfl (lyx_is hy 6 7 rfl) ev1930 ?_
        refine WQ_puti dX1_start_60 fX1_18 rfl rfl (lyx_is hy 71 1 rfl) (fun I1932 eI1932 => ?_)
        have hI1932 : XI g n L I1932 := by rw [eI1932]; exact (xi_f hy hI (c := 71) (0) (0) (4) (by decide) (Or.inl (by decide)) (by decide) (by omega) (by omega))
        have e1933 : I1932 (ad g 1) 1 = L := by rw [eI1932, pp_ne _ _ (Or.inl (lyx_ne hy (by decide) (by decide) (by decide)))]; exact e1921
        have e1934 : I1932 (ad g 6) 1 = v1930 := by rw [eI1932, pp_ne _ _ (Or.inl (lyx_ne hy (by decide) (by decide) (by decide)))]; exact ev1930
        have e1935 : I1932 (ad g 71) 4 = v1930 := by rw [eI1932, pp_self]
        have fr1936 : fz 74 g [71] I I1932 := by rw [eI1932]; exact fzx_pp hy fr0 (by decide) (by decide)
        clear eI1932
        refine WP_aload_n dX1_start_63 rfl ?_
        refine WP_iload_n dX1_start_64 rfl ?_
        refine WQ_puti dX1_start_65 fX1_40 rfl rfl (lyx_is hy 71 1 rfl) (fun I1937 eI1937 => ?_)
        have hI1937 : XI g n L I1937 := by rw [eI1937]; exact (xi_f0 hy hI1932 (c := 71) (by decide) (Or.inl (by decide)) (by decide))
        have e1938 : I1937 (ad g 1) 1 = L := by rw [eI1937, pp_ne _ _ (Or.inl (lyx_ne hy (by decide) (by decide) (by decide)))]; exact e1933
        have e1939 : I1937 (ad g 6) 1 = v1930 := by rw [eI1937, pp_ne _ _ (Or.inl (lyx_ne hy (by decide) (by decide) (by decide)))]; exact e1934
        have e1940 : I1937 (ad g 71) 4 = v1930 := by rw [eI1937, pp_ne _ _ (Or.inr (by decide))]; exact e1935
        have e1941 : I1937 (ad g 71) 5 = se := by rw [eI1937, pp_self]
        have fr1942 : fz 74 g [71] I I1937 := by rw [eI1937]; exact fzx_pp hy fr1936 (by decide) (by decide)
        clear eI1937
        refine WP_aload_n dX1_start_68 rfl ?_
        refine WQ_bipush (10) (10) dX1_start_69 rfl rfl (fun v1943 hv1943 => ?_)
        refine WP_iload_n dX1_start_71 rfl ?_
        refine WQ_imulK (10) dX1_start_72 hv1943 (by omega) (by omega) (fun v1944 hv1944 => ?_)
        refine WQ_i2l dX1_start_73 (fun l1945 hl1945 => ?_)
        refine WQ_putl dX1_start_74 fX1_43 rfl rfl (lyx_is hy 71 1 rfl) (fun J1946 eJ1946 => ?_)
        have fr1947 : fz 74 g [71] J J1946 := by rw [eJ1946]; exact fzx_pp hy frj0 (by decide) (by decide)
        clear eJ1946
        refine WP_aload_n dX1_start_77 rfl ?_
        refine WP_iload dX1_start_78 rfl ?_
        refine WQ_iconst (1) (1) dX1_start_80 rfl rfl (fun v1948 hv1948 => ?_)
        refine WQ_icmp_ge 88 dX1_start_81 rfl (fun c1948 => ?_) (fun c1948 => ?_)
        · refine WP_aload_n dX1_start_88 rfl ?_
          refine WQ_getl dX1_start_89 fX1_43 rfl (lyx_is hy 71 1 rfl) (fun l1950 el1950 => ?_)
          refine WP_iload dX1_start_92 rfl ?_
          refine WQ_i2l dX1_start_94 (fun l1951 hl1951 => ?_)
          refine WQ_lmul dX1_start_95 (fun l1952 => ?_)
          refine WP_iload dX1_start_96 rfl ?_
          refine WQ_i2l dX1_start_98 (fun l1953 hl1953 => ?_)
          refine WQ_ldiv dX1_start_99 (by omega) (fun l1954 => ?_)
          refine WQ_putl dX1_start_100 fX1_47 rfl rfl (lyx_is hy 71 1 rfl) (fun J1955 eJ1955 => ?_)
          have fr1956 : fz 74 g [71] J J1955 := by rw [eJ1955]; exact fzx_pp hy fr1947 (by decide) (by decide)
          clear eJ1955
          exact WP_vret dX1_start_103 rfl ⟨⟨hI1937, rfl, fr1942, fr1956⟩, rfl⟩
        · refine WP_lconst (0) dX1_start_84 rfl ?_
          obtain ⟨l1957, hl1957, el1957⟩ : ∃ v : Int64, v.toInt = 0 ∧ (0 : Int64) = v := ⟨_, rfl, rfl⟩
          rw [el1957]; clear el1957
          refine WP_goto 100 dX1_start_85 rfl ?_
          refine WQ_putl dX1_start_100 fX1_47 rfl rfl (lyx_is hy 71 1 rfl) (fun J1958 eJ1958 => ?_)
          have fr1959 : fz 74 g [71] J J1958 := by rw [eJ1958]; exact fzx_pp hy fr1947 (by decide) (by decide)
          clear eJ1958
          exact WP_vret dX1_start_103 rfl ⟨⟨hI1937, rfl, fr1942, fr1959⟩, rfl⟩
      · refine WP_iload dX1_start_18 rfl ?_
        refine WP_aload_n dX1_start_20 rfl ?_
        refine WP_getr dX1_start_21 fX1_37 rfl (lyx_is hy 6 7 rfl) (rfx hr 6 6 8 (by decide)) ?_
        refine WP_iload dX1_start_24 rfl ?_
        refine WQ_iald dX1_start_26 (lyx_is hy 8 13 rfl) (lyx_n hy 8 4 rfl) (by omega) (by omega) (fun q hq => BT_get hI.1 8 0 4 (0) (0) (99) (by decide) q (Nat.zero_le _) hq) (fun v1960 av1960 bv1960 ev1960 => ?_)
        clear ev1960
        refine WQ_iadd dX1_start_27 (by omega) (by omega) (fun v1961 hv1961 => ?_)
        refine WP_istore (ls' := [(0, _), (1, _), (2, _), (3, _), (4, _), (5, _), (6, _)]) dX1_start_28 (by decide) rfl ?_
        refine WP_iload dX1_start_30 rfl ?_
        refine WP_iload_n dX1_start_32 rfl ?_
        refine WP_iload dX1_start_33 rfl ?_
        refine WQ_ishru dX1_start_35 (fun v1962 => ?_)
        refine WQ_iconst (1) (1) dX1_start_36 rfl rfl (fun v1963 hv1963 => ?_)
        refine WQ_iandu dX1_start_37 (fun v1964 => ?_)
        refine WP_aload_n dX1_start_38 rfl ?_
        refine WP_getr dX1_start_39 fX1_37 rfl (lyx_is hy 6 7 rfl) (rfx hr 6 6 8 (by decide)) ?_
        refine WP_iload dX1_start_42 rfl ?_
        refine WQ_iald dX1_start_44 (lyx_is hy 8 13 rfl) (lyx_n hy 8 4 rfl) (by omega) (by omega) (fun q hq => BT_get hI.1 8 0 4 (0) (0) (99) (by decide) q (Nat.zero_le _) hq) (fun v1965 av1965 bv1965 ev1965 => ?_)
        clear ev1965
        refine WQ_imulu dX1_start_45 (fun v1966 => ?_)
        refine WQ_iaddu dX1_start_46 (fun v1967 => ?_)
        refine WP_istore (ls' := [(0, _), (1, _), (2, _), (3, _), (4, _), (5, _), (6, _)]) dX1_start_47 (by decide) rfl ?_
        refine WP_iinc (ls' := [(0, _), (1, _), (2, _), (3, _), (4, _), (5, _), (6, _)]) dX1_start_49 rfl (by decide) rfl ?_
        have hv1968 : (i1928 + Int32.ofInt (1)).toInt = i1928.toInt + (1) := ia_n rfl (by omega) (by omega)
        generalize i1928 + Int32.ofInt (1) = v1968 at hv1968 ⊢
        refine WP_goto 9 dX1_start_52 rfl ?_
        exact WP_sub (fc rfl (fc rfl (fc rfl (fc rfl (fc rfl (fc rfl (fc rfl fn))))))) (ihlp9_1928 v1967 v1961 v1968 (by omega) (by omega) (by omega) (by omega) (by omega) (by omega))
  exact WP_sub (fc rfl (fc rfl (fc rfl (fc rfl (fc rfl (fc rfl (fc rfl fn))))))) (lp9_1928 _ v1923 v1924 v1925 (by omega) (by omega) (by omega) (by omega) (by omega) (Nat.lt_succ_self _))
set_option maxHeartbeats 4000000 in
set_option maxRecDepth 100000 in
theorem sx_start_27 {g : GG} {n : Int} {L : Int32} (hy : LyX g)  {I : pI} {J : pJ} {R : pR} (hr : RfX g R) (hI : XI g n L I) (se : Int32) (m : Int32) (m_lo : 0 ≤ m.toInt) (m_hi : m.toInt ≤ 100) : SP g mX1_start [.ref (ad g 71), .ref (ad g 27), .int se, .int m] I J R (fun r I' J' R' => (XI g n L I' ∧ R' = R ∧ fz 74 g [71] I I' ∧ fz 74 g [71] J J') ∧ r = none) := by
  refine SP_of ⟨by decide, rfl⟩ (Nat.le_of_ble_eq_true rfl) ?_
  have e1969 : I (ad g 1) 1 = L := hI.2
  have b1970 := BT_get hI.1 1 1 2 (0) (0) (900) (by decide) 1 (by decide) (by decide)
  rw [e1969] at b1970
  have fr0 : fz 74 g [71] I I := fz_rf
  have frj0 : fz 74 g [71] J J := fz_rf
  refine WQ_iconst (0) (0) dX1_start_0 rfl rfl (fun v1971 hv1971 => ?_)
  refine WP_istore (ls' := [(0, _), (1, _), (2, _), (3, _), (4, _)]) dX1_start_1 (by decide) rfl ?_
  refine WQ_iconst (0) (0) dX1_start_3 rfl rfl (fun v1972 hv1972 => ?_)
  refine WP_istore (ls' := [(0, _), (1, _), (2, _), (3, _), (4, _), (5, _)]) dX1_start_4 (by decide) rfl ?_
  refine WQ_iconst (0) (0) dX1_start_6 rfl rfl (fun v1973 hv1973 => ?_)
  refine WP_istore (ls' := [(0, _), (1, _), (2, _), (3, _), (4, _), (5, _), (6, _)]) dX1_start_7 (by decide) rfl ?_
  have lp9_1976 : ∀ (mz : Nat) (i1974 : Int32) (i1975 : Int32) (i1976 : Int32), 0 ≤ i1975.toInt → i1975.toInt ≤ 396 → 0 ≤ i1976.toInt → i1976.toInt ≤ 4 → i1975.toInt ≤ 99 * i1976.toInt → (5 - i1976.toInt).toNat < mz → WP g mX1_start 9 [(0, .ref (ad g 71)), (1, .ref (ad g 27)), (2, .int se), (3, .int m), (4, .int i1974), (5, .int i1975), (6, .int i1976)] [] I J R (fun r I' J' R' => (XI g n L I' ∧ R' = R ∧ fz 74 g [71] I I' ∧ fz 74 g [71] J J') ∧ r = none) := by
    intro mz
    induction mz with
    | zero =>
      intro i1974 i1975 i1976 ai1975 bi1975 ai1976 bi1976 j0_I hmlp9_1976
      exact absurd hmlp9_1976 (Nat.not_lt_zero _)
    | succ mz ihlp9_1976 =>
      intro i1974 i1975 i1976 ai1975 bi1975 ai1976 bi1976 j0_I hmlp9_1976
      refine WP_iload dX1_start_9 rfl ?_
      refine WP_aload_n dX1_start_11 rfl ?_
      refine WQ_geti dX1_start_12 fX1_34 rfl (lyx_is hy 27 7 rfl) (BT_get hI.1 27 1 2 (0) (0) (4) (by decide) 1 (by decide) (by decide)) (fun v1978 ev1978 av1978 bv1978 => ?_)
      refine WQ_icmp_ge 55 dX1_start_15 rfl (fun c1978 => ?_) (fun c1978 => ?_)
      · refine WP_aload_n dX1_start_55 rfl ?_
        refine WP_aload_n dX1_start_56 rfl ?_
        refine WQ_getim dX1_start_57 fX1_34 rfl (lyx_is hy 27 7 rfl) ev1978 ?_
        refine WQ_puti dX1_start_60 fX1_18 rfl rfl (lyx_is hy 71 1 rfl) (fun I1980 eI1980 => ?_)
        have hI1980 : XI g n L I1980 := by rw [eI1980]; exact (xi_f hy hI (c := 71) (0) (0) (4) (by decide) (Or.inl (by decide)) (by decide) (by omega) (by omega))
        have e1981 : I1980 (ad g 1) 1 = L := by rw [eI1980, pp_ne _ _ (Or.inl (lyx_ne hy (by decide) (by decide) (by decide)))]; exact e1969
        have e1982 : I1980 (ad g 27) 1 = v1978 := by rw [eI1980, pp_ne _ _ (Or.inl (lyx_ne hy (by decide) (by decide) (by decide)))]; exact ev1978
        have e1983 : I1980 (ad g 71) 4 = v1978 := by rw [eI1980, pp_self]
        have fr1984 : fz 74 g [71] I I1980 := by rw [eI1980]; exact fzx_pp hy fr0 (by decide) (by decide)
        clear eI1980
        refine WP_aload_n dX1_start_63 rfl ?_
        refine WP_iload_n dX1_start_64 rfl ?_
        refine WQ_puti dX1_start_65 fX1_40 rfl rfl (lyx_is hy 71 1 rfl) (fun I1985 eI1985 => ?_)
        have hI1985 : XI g n L I1985 := by rw [eI1985]; exact (xi_f0 hy hI1980 (c := 71) (by decide) (Or.inl (by decide)) (by decide))
        have e1986 : I1985 (ad g 1) 1 = L := by rw [eI1985, pp_ne _ _ (Or.inl (lyx_ne hy (by decide) (by decide) (by decide)))]; exact e1981
        have e1987 : I1985 (ad g 27) 1 = v1978 := by rw [eI1985, pp_ne _ _ (Or.inl (lyx_ne hy (by decide) (by decide) (by decide)))]; exact e1982
        have e1988 : I1985 (ad g 71) 4 = v1978 := by rw [eI1985, pp_ne _ _ (Or.inr (by decide))]; exact e1983
        have e1989 : I1985 (ad g 71) 5 = se := by rw [eI1985, pp_self]
        have fr1990 : fz 74 g [71] I I1985 := by rw [eI1985]; exact fzx_pp hy fr1984 (by decide) (by decide)
        clear eI1985
        refine WP_aload_n dX1_start_68 rfl ?_
        refine WQ_bipush (10) (10) dX1_start_69 rfl rfl (fun v1991 hv1991 => ?_)
        refine WP_iload_n dX1_start_71 rfl ?_
        refine WQ_imulK (10) dX1_start_72 hv1991 (by omega) (by omega) (fun v1992 hv1992 => ?_)
        refine WQ_i2l dX1_start_73 (fun l1993 hl1993 => ?_)
        refine WQ_putl dX1_start_74 fX1_43 rfl rfl (lyx_is hy 71 1 rfl) (fun J1994 eJ1994 => ?_)
        have fr1995 : fz 74 g [71] J J1994 := by rw [eJ1994]; exact fzx_pp hy frj0 (by decide) (by decide)
        clear eJ1994
        refine WP_aload_n dX1_start_77 rfl ?_
        refine WP_iload dX1_start_78 rfl ?_
        refine WQ_iconst (1) (1) dX1_start_80 rfl rfl (fun v1996 hv1996 => ?_)
        refine WQ_icmp_ge 88 dX1_start_81 rfl (fun c1996 => ?_) (fun c1996 => ?_)
        · refine WP_aload_n dX1_start_88 rfl ?_
          refine WQ_getl dX1_start_89 fX1_43 rfl (lyx_is hy 71 1 rfl) (fun l1998 el1998 => ?_)
          refine WP_iload dX1_start_92 rfl ?_
          refine WQ_i2l dX1_start_94 (fun l1999 hl1999 => ?_)
          refine WQ_lmul dX1_start_95 (fun l2000 => ?_)
          refine WP_iload dX1_start_96 rfl ?_
          refine WQ_i2l dX1_start_98 (fun l2001 hl2001 => ?_)
          refine WQ_ldiv dX1_start_99 (by omega) (fun l2002 => ?_)
          refine WQ_putl dX1_start_100 fX1_47 rfl rfl (lyx_is hy 71 1 rfl) (fun J2003 eJ2003 => ?_)
          have fr2004 : fz 74 g [71] J J2003 := by rw [eJ2003]; exact fzx_pp hy fr1995 (by decide) (by decide)
          clear eJ2003
          exact WP_vret dX1_start_103 rfl ⟨⟨hI1985, rfl, fr1990, fr2004⟩, rfl⟩
        · refine WP_lconst (0) dX1_start_84 rfl ?_
          obtain ⟨l2005, hl2005, el2005⟩ : ∃ v : Int64, v.toInt = 0 ∧ (0 : Int64) = v := ⟨_, rfl, rfl⟩
          rw [el2005]; clear el2005
          refine WP_goto 100 dX1_start_85 rfl ?_
          refine WQ_putl dX1_start_100 fX1_47 rfl rfl (lyx_is hy 71 1 rfl) (fun J2006 eJ2006 => ?_)
          have fr2007 : fz 74 g [71] J J2006 := by rw [eJ2006]; exact fzx_pp hy fr1995 (by decide) (by decide)
          clear eJ2006
          exact WP_vret dX1_start_103 rfl ⟨⟨hI1985, rfl, fr1990, fr2007⟩, rfl⟩
      · refine WP_iload dX1_start_18 rfl ?_
        refine WP_aload_n dX1_start_20 rfl ?_
        refine WP_getr dX1_start_21 fX1_37 rfl (lyx_is hy 27 7 rfl) (rfx hr 27 6 29 (by decide)) ?_
        refine WP_iload dX1_start_24 rfl ?_
        refine WQ_iald dX1_start_26 (lyx_is hy 29 13 rfl) (lyx_n hy 29 4 rfl) (by omega) (by omega) (fun q hq => BT_get hI.1 29 0 4 (0) (0) (99) (by decide) q (Nat.zero_le _) hq) (fun v2008 av2008 bv2008 ev2008 => ?_)
        clear ev2008
        refine WQ_iadd dX1_start_27 (by omega) (by omega) (fun v2009 hv2009 => ?_)
        refine WP_istore (ls' := [(0, _), (1, _), (2, _), (3, _), (4, _), (5, _), (6, _)]) dX1_start_28 (by decide) rfl ?_
        refine WP_iload dX1_start_30 rfl ?_
        refine WP_iload_n dX1_start_32 rfl ?_
        refine WP_iload dX1_start_33 rfl ?_
        refine WQ_ishru dX1_start_35 (fun v2010 => ?_)
        refine WQ_iconst (1) (1) dX1_start_36 rfl rfl (fun v2011 hv2011 => ?_)
        refine WQ_iandu dX1_start_37 (fun v2012 => ?_)
        refine WP_aload_n dX1_start_38 rfl ?_
        refine WP_getr dX1_start_39 fX1_37 rfl (lyx_is hy 27 7 rfl) (rfx hr 27 6 29 (by decide)) ?_
        refine WP_iload dX1_start_42 rfl ?_
        refine WQ_iald dX1_start_44 (lyx_is hy 29 13 rfl) (lyx_n hy 29 4 rfl) (by omega) (by omega) (fun q hq => BT_get hI.1 29 0 4 (0) (0) (99) (by decide) q (Nat.zero_le _) hq) (fun v2013 av2013 bv2013 ev2013 => ?_)
        clear ev2013
        refine WQ_imulu dX1_start_45 (fun v2014 => ?_)
        refine WQ_iaddu dX1_start_46 (fun v2015 => ?_)
        refine WP_istore (ls' := [(0, _), (1, _), (2, _), (3, _), (4, _), (5, _), (6, _)]) dX1_start_47 (by decide) rfl ?_
        refine WP_iinc (ls' := [(0, _), (1, _), (2, _), (3, _), (4, _), (5, _), (6, _)]) dX1_start_49 rfl (by decide) rfl ?_
        have hv2016 : (i1976 + Int32.ofInt (1)).toInt = i1976.toInt + (1) := ia_n rfl (by omega) (by omega)
        generalize i1976 + Int32.ofInt (1) = v2016 at hv2016 ⊢
        refine WP_goto 9 dX1_start_52 rfl ?_
        exact WP_sub (fc rfl (fc rfl (fc rfl (fc rfl (fc rfl (fc rfl (fc rfl fn))))))) (ihlp9_1976 v2015 v2009 v2016 (by omega) (by omega) (by omega) (by omega) (by omega) (by omega))
  exact WP_sub (fc rfl (fc rfl (fc rfl (fc rfl (fc rfl (fc rfl (fc rfl fn))))))) (lp9_1976 _ v1971 v1972 v1973 (by omega) (by omega) (by omega) (by omega) (by omega) (Nat.lt_succ_self _))
