set_option maxHeartbeats 4000000 in
set_option maxRecDepth 100000 in
theorem sx_loadx_44_6 {g : GG} {n : Int} {L : Int32} (hy : LyX g)  {I : pI} {J : pJ} {R : pR} (hr : RfX g R) (hT : R (ad g 5) 0 = some (ad g 6)) (hI : XI g n L I) (so : Int32) (da : Int32) (so_lo : 0 ≤ so.toInt) (so_hi : so.toInt ≤ 3) (da_lo : 0 ≤ da.toInt) (da_hi : da.toInt ≤ 6) : SP g mX6_load [.ref (ad g 44), .ref (ad g 5), .int so, .int da] I J R (fun r I' J' R' => (XI g n L I' ∧ R' = R ∧ fz 74 g [44] I I' ∧ J' = J ∧ LD g 6 I so.toInt da.toInt (I' (ad g 44))) ∧ r = none) := by
  refine SP_of ⟨by decide, rfl⟩ (Nat.le_of_ble_eq_true rfl) ?_
  have e7799 : I (ad g 1) 1 = L := hI.2
  have b7800 := BT_get hI.1 1 1 2 (0) (0) (900) (by decide) 1 (by decide) (by decide)
  rw [e7799] at b7800
  have fr0 : fz 74 g [44] I I := fz_rf
  refine WP_aload_n dX6_load_0 rfl ?_
  refine WP_getr dX6_load_1 fX6_15 rfl (lyx_is hy 5 0 rfl) hT ?_
  refine WP_astore (ls' := [(0, _), (1, _), (2, _), (3, _), (4, _)]) dX6_load_4 (by decide) rfl ?_
  refine WP_iload_n dX6_load_6 rfl ?_
  refine WQ_bipush (7) (7) dX6_load_7 rfl rfl (fun v7801 hv7801 => ?_)
  refine WQ_imulk (7) dX6_load_9 hv7801 (by omega) (by omega) (fun v7802 hv7802 => ?_)
  refine WP_iload_n dX6_load_10 rfl ?_
  refine WQ_iadd dX6_load_11 (by omega) (by omega) (fun v7803 hv7803 => ?_)
  refine WP_istore (ls' := [(0, _), (1, _), (2, _), (3, _), (4, _), (5, _)]) dX6_load_12 (by decide) rfl ?_
  refine WP_aload dX6_load_14 rfl ?_
  refine WQ_geti dX6_load_16 fX6_21 rfl (lyx_is hy 6 7 rfl) (BT_get hI.1 6 4 5 (-1) (0) (2) (by decide) 4 (by decide) (by decide)) (fun v7804 ev7804 av7804 bv7804 => ?_)
  have est : I (ad g 6) 4 = v7804 := ev7804
  refine WP_istore (ls' := [(0, _), (1, _), (2, _), (3, _), (4, _), (5, _), (6, _)]) dX6_load_19 (by decide) rfl ?_
  refine WP_aload dX6_load_21 rfl ?_
  refine WP_getr dX6_load_23 fX6_26 rfl (lyx_is hy 6 7 rfl) (rfx hr 6 9 11 (by decide)) ?_
  refine WP_iload_n dX6_load_26 rfl ?_
  refine WQ_ialdx dX6_load_27 (lyx_is hy 11 13 rfl) (lyx_n hy 11 4 rfl) (by omega) (by omega) (fun v7805 zv7805 => ?_)
  have yv7805 : I (ad g 11) (so.toInt).toNat = v7805 := by rw [← fz_at fr0 11 (by decide) (by decide), show (so.toInt).toNat = so.toInt.toNat by omega]; exact zv7805
  refine WP_iload_n dX6_load_28 rfl ?_
  refine WQ_ishrx dX6_load_29 (fun v7806 xv7806 => ?_)
  refine WQ_iconst (1) (1) dX6_load_30 rfl rfl (fun v7807 hv7807 => ?_)
  refine WQ_iandx dX6_load_31 (fun v7808 xv7808 => ?_)
  refine WQ_if_eq 39 dX6_load_32 rfl (fun c7808 => ?_) (fun c7808 => ?_)
  · refine WQ_iconst (0) (0) dX6_load_39 rfl rfl (fun v7810 hv7810 => ?_)
    refine WP_istore (ls' := [(0, _), (1, _), (2, _), (3, _), (4, _), (5, _), (6, _), (7, _)]) dX6_load_40 (by decide) rfl ?_
    refine WP_aload_n dX6_load_42 rfl ?_
    refine WP_aload dX6_load_43 rfl ?_
    refine WP_getr dX6_load_45 fX6_30 rfl (lyx_is hy 6 7 rfl) (rfx hr 6 11 13 (by decide)) ?_
    refine WP_iload dX6_load_48 rfl ?_
    refine WQ_ialdb dX6_load_50 (lyx_is hy 13 13 rfl) (lyx_n hy 13 28 rfl) (by omega) (by omega) (fun q hq => BT_get hI.1 13 0 28 (-1) (0) (2) (by decide) q (Nat.zero_le _) hq) (fun v7811 av7811 bv7811 zv7811 => ?_)
    have yv7811 : I (ad g 13) (7 * so.toInt + da.toInt).toNat = v7811 := by rw [← fz_at fr0 13 (by decide) (by decide), show (7 * so.toInt + da.toInt).toNat = v7803.toInt.toNat by omega]; exact zv7811
    refine WQ_puti dX6_load_51 fX6_9 rfl rfl (lyx_is hy 44 6 rfl) (fun I7812 eI7812 => ?_)
    have hI7812 : XI g n L I7812 := by rw [eI7812]; exact (xi_f hy hI (c := 44) (-1) (0) (2) (by decide) (Or.inl (by decide)) (by decide) (by omega) (by omega))
    have e7813 : I7812 (ad g 1) 1 = L := by rw [eI7812, pp_ne _ _ (Or.inl (lyx_ne hy (by decide) (by decide) (by decide)))]; exact e7799
    have e7814 : I7812 (ad g 6) 4 = v7804 := by rw [eI7812, pp_ne _ _ (Or.inl (lyx_ne hy (by decide) (by decide) (by decide)))]; exact ev7804
    have e7815 : I7812 (ad g 44) 0 = v7811 := by rw [eI7812, pp_self]
    have fr7816 : fz 74 g [44] I I7812 := by rw [eI7812]; exact fzx_pp hy fr0 (by decide) (by decide)
    clear eI7812
    refine WP_aload_n dX6_load_54 rfl ?_
    refine WP_aload dX6_load_55 rfl ?_
    refine WP_getr dX6_load_57 fX6_33 rfl (lyx_is hy 6 7 rfl) (rfx hr 6 12 14 (by decide)) ?_
    refine WP_iload dX6_load_60 rfl ?_
    refine WQ_ialdb dX6_load_62 (lyx_is hy 14 13 rfl) (lyx_n hy 14 28 rfl) (by omega) (by omega) (fun q hq => BT_get hI7812.1 14 0 28 (0) (0) (3) (by decide) q (Nat.zero_le _) hq) (fun v7817 av7817 bv7817 zv7817 => ?_)
    have yv7817 : I (ad g 14) (7 * so.toInt + da.toInt).toNat = v7817 := by rw [← fz_at fr7816 14 (by decide) (by decide), show (7 * so.toInt + da.toInt).toNat = v7803.toInt.toNat by omega]; exact zv7817
    refine WQ_puti dX6_load_63 fX6_36 rfl rfl (lyx_is hy 44 6 rfl) (fun I7818 eI7818 => ?_)
    have hI7818 : XI g n L I7818 := by rw [eI7818]; exact (xi_f hy hI7812 (c := 44) (0) (0) (3) (by decide) (Or.inl (by decide)) (by decide) (by omega) (by omega))
    have e7819 : I7818 (ad g 1) 1 = L := by rw [eI7818, pp_ne _ _ (Or.inl (lyx_ne hy (by decide) (by decide) (by decide)))]; exact e7813
    have e7820 : I7818 (ad g 6) 4 = v7804 := by rw [eI7818, pp_ne _ _ (Or.inl (lyx_ne hy (by decide) (by decide) (by decide)))]; exact e7814
    have e7821 : I7818 (ad g 44) 0 = v7811 := by rw [eI7818, pp_ne _ _ (Or.inr (by decide))]; exact e7815
    have e7822 : I7818 (ad g 44) 1 = v7817 := by rw [eI7818, pp_self]
    have fr7823 : fz 74 g [44] I I7818 := by rw [eI7818]; exact fzx_pp hy fr7816 (by decide) (by decide)
    clear eI7818
    refine WP_aload_n dX6_load_66 rfl ?_
    refine WP_aload dX6_load_67 rfl ?_
    refine WP_getr dX6_load_69 fX6_39 rfl (lyx_is hy 6 7 rfl) (rfx hr 6 13 15 (by decide)) ?_
    refine WP_iload dX6_load_72 rfl ?_
    refine WQ_ialdb dX6_load_74 (lyx_is hy 15 13 rfl) (lyx_n hy 15 28 rfl) (by omega) (by omega) (fun q hq => BT_get hI7818.1 15 0 28 (0) (0) (99) (by decide) q (Nat.zero_le _) hq) (fun v7824 av7824 bv7824 zv7824 => ?_)
    have yv7824 : I (ad g 15) (7 * so.toInt + da.toInt).toNat = v7824 := by rw [← fz_at fr7823 15 (by decide) (by decide), show (7 * so.toInt + da.toInt).toNat = v7803.toInt.toNat by omega]; exact zv7824
    refine WQ_puti dX6_load_75 fX6_42 rfl rfl (lyx_is hy 44 6 rfl) (fun I7825 eI7825 => ?_)
    have hI7825 : XI g n L I7825 := by rw [eI7825]; exact (xi_f hy hI7818 (c := 44) (0) (0) (99) (by decide) (Or.inl (by decide)) (by decide) (by omega) (by omega))
    have e7826 : I7825 (ad g 1) 1 = L := by rw [eI7825, pp_ne _ _ (Or.inl (lyx_ne hy (by decide) (by decide) (by decide)))]; exact e7819
    have e7827 : I7825 (ad g 6) 4 = v7804 := by rw [eI7825, pp_ne _ _ (Or.inl (lyx_ne hy (by decide) (by decide) (by decide)))]; exact e7820
    have e7828 : I7825 (ad g 44) 0 = v7811 := by rw [eI7825, pp_ne _ _ (Or.inr (by decide))]; exact e7821
    have e7829 : I7825 (ad g 44) 1 = v7817 := by rw [eI7825, pp_ne _ _ (Or.inr (by decide))]; exact e7822
    have e7830 : I7825 (ad g 44) 2 = v7824 := by rw [eI7825, pp_self]
    have fr7831 : fz 74 g [44] I I7825 := by rw [eI7825]; exact fzx_pp hy fr7823 (by decide) (by decide)
    clear eI7825
    refine WP_aload_n dX6_load_78 rfl ?_
    refine WP_aload_n dX6_load_79 rfl ?_
    refine WQ_getim dX6_load_80 fX6_9 rfl (lyx_is hy 44 6 rfl) e7828 ?_
    refine WQ_iconst (-1) (-1) dX6_load_83 rfl rfl (fun v7832 hv7832 => ?_)
    refine WQ_icmp_ne 91 dX6_load_84 rfl (fun c7832 => ?_) (fun c7832 => ?_)
    · refine WP_aload_n dX6_load_91 rfl ?_
      refine WP_getr dX6_load_92 fX6_45 rfl (lyx_is hy 5 0 rfl) (rfx hr 5 1 22 (by decide)) ?_
      refine WP_aload_n dX6_load_95 rfl ?_
      refine WQ_getim dX6_load_96 fX6_9 rfl (lyx_is hy 44 6 rfl) e7828 ?_
      refine WQ_bipush (7) (7) dX6_load_99 rfl rfl (fun v7834 hv7834 => ?_)
      refine WQ_imulk (7) dX6_load_101 hv7834 (by omega) (by omega) (fun v7835 hv7835 => ?_)
      refine WP_iload_n dX6_load_102 rfl ?_
      refine WQ_iadd dX6_load_103 (by omega) (by omega) (fun v7836 hv7836 => ?_)
      refine WQ_ialdb dX6_load_104 (lyx_is hy 22 13 rfl) (lyx_n hy 22 21 rfl) (by omega) (by omega) (fun q hq => BT_get hI7825.1 22 0 21 (0) (0) (20) (by decide) q (Nat.zero_le _) hq) (fun v7837 av7837 bv7837 zv7837 => ?_)
      have yv7837 : I (ad g 22) (7 * v7811.toInt + da.toInt).toNat = v7837 := by rw [← fz_at fr7831 22 (by decide) (by decide), show (7 * v7811.toInt + da.toInt).toNat = v7836.toInt.toNat by omega]; exact zv7837
      refine WQ_puti dX6_load_105 fX6_48 rfl rfl (lyx_is hy 44 6 rfl) (fun I7838 eI7838 => ?_)
      have hI7838 : XI g n L I7838 := by rw [eI7838]; exact (xi_f hy hI7825 (c := 44) (0) (0) (20) (by decide) (Or.inl (by decide)) (by decide) (by omega) (by omega))
      have e7839 : I7838 (ad g 1) 1 = L := by rw [eI7838, pp_ne _ _ (Or.inl (lyx_ne hy (by decide) (by decide) (by decide)))]; exact e7826
      have e7840 : I7838 (ad g 6) 4 = v7804 := by rw [eI7838, pp_ne _ _ (Or.inl (lyx_ne hy (by decide) (by decide) (by decide)))]; exact e7827
      have e7841 : I7838 (ad g 44) 0 = v7811 := by rw [eI7838, pp_ne _ _ (Or.inr (by decide))]; exact e7828
      have e7842 : I7838 (ad g 44) 1 = v7817 := by rw [eI7838, pp_ne _ _ (Or.inr (by decide))]; exact e7829
      have e7843 : I7838 (ad g 44) 2 = v7824 := by rw [eI7838, pp_ne _ _ (Or.inr (by decide))]; exact e7830
      have e7844 : I7838 (ad g 44) 3 = v7837 := by rw [eI7838, pp_self]
      have fr7845 : fz 74 g [44] I I7838 := by rw [eI7838]; exact fzx_pp hy fr7831 (by decide) (by decide)
      clear eI7838
      refine WP_aload_n dX6_load_108 rfl ?_
      refine WP_iload dX6_load_109 rfl ?_
      refine WQ_iconst (-1) (-1) dX6_load_111 rfl rfl (fun v7846 hv7846 => ?_)
      refine WQ_icmp_ne 119 dX6_load_112 rfl (fun c7846 => ?_) (fun c7846 => ?_)
      · refine WP_aload_n dX6_load_119 rfl ?_
        refine WP_getr dX6_load_120 fX6_45 rfl (lyx_is hy 5 0 rfl) (rfx hr 5 1 22 (by decide)) ?_
        refine WP_iload dX6_load_123 rfl ?_
        refine WQ_bipush (7) (7) dX6_load_125 rfl rfl (fun v7848 hv7848 => ?_)
        refine WQ_imulk (7) dX6_load_127 hv7848 (by omega) (by omega) (fun v7849 hv7849 => ?_)
        refine WP_iload_n dX6_load_128 rfl ?_
        refine WQ_iadd dX6_load_129 (by omega) (by omega) (fun v7850 hv7850 => ?_)
        refine WQ_ialdb dX6_load_130 (lyx_is hy 22 13 rfl) (lyx_n hy 22 21 rfl) (by omega) (by omega) (fun q hq => BT_get hI7838.1 22 0 21 (0) (0) (20) (by decide) q (Nat.zero_le _) hq) (fun v7851 av7851 bv7851 zv7851 => ?_)
        have yv7851 : I (ad g 22) (7 * v7804.toInt + da.toInt).toNat = v7851 := by rw [← fz_at fr7845 22 (by decide) (by decide), show (7 * v7804.toInt + da.toInt).toNat = v7850.toInt.toNat by omega]; exact zv7851
        refine WQ_puti dX6_load_131 fX6_51 rfl rfl (lyx_is hy 44 6 rfl) (fun I7852 eI7852 => ?_)
        have hI7852 : XI g n L I7852 := by rw [eI7852]; exact (xi_f hy hI7838 (c := 44) (0) (0) (20) (by decide) (Or.inl (by decide)) (by decide) (by omega) (by omega))
        have e7853 : I7852 (ad g 1) 1 = L := by rw [eI7852, pp_ne _ _ (Or.inl (lyx_ne hy (by decide) (by decide) (by decide)))]; exact e7839
        have e7854 : I7852 (ad g 6) 4 = v7804 := by rw [eI7852, pp_ne _ _ (Or.inl (lyx_ne hy (by decide) (by decide) (by decide)))]; exact e7840
        have e7855 : I7852 (ad g 44) 0 = v7811 := by rw [eI7852, pp_ne _ _ (Or.inr (by decide))]; exact e7841
        have e7856 : I7852 (ad g 44) 1 = v7817 := by rw [eI7852, pp_ne _ _ (Or.inr (by decide))]; exact e7842
        have e7857 : I7852 (ad g 44) 2 = v7824 := by rw [eI7852, pp_ne _ _ (Or.inr (by decide))]; exact e7843
        have e7858 : I7852 (ad g 44) 3 = v7837 := by rw [eI7852, pp_ne _ _ (Or.inr (by decide))]; exact e7844
        have e7859 : I7852 (ad g 44) 4 = v7851 := by rw [eI7852, pp_self]
        have fr7860 : fz 74 g [44] I I7852 := by rw [eI7852]; exact fzx_pp hy fr7845 (by decide) (by decide)
        clear eI7852
        refine WP_aload_n dX6_load_134 rfl ?_
        refine WP_iload dX6_load_135 rfl ?_
        refine WQ_if_eq 144 dX6_load_137 rfl (fun c7860 => ?_) (fun c7860 => False.elim (by omega))
        refine WP_aload_n dX6_load_144 rfl ?_
        refine WQ_getim dX6_load_145 fX6_36 rfl (lyx_is hy 44 6 rfl) e7856 ?_
        refine WQ_puti dX6_load_148 fX6_54 rfl rfl (lyx_is hy 44 6 rfl) (fun I7862 eI7862 => ?_)
        have hI7862 : XI g n L I7862 := by rw [eI7862]; exact (xi_f hy hI7852 (c := 44) (0) (0) (3) (by decide) (Or.inl (by decide)) (by decide) (by omega) (by omega))
        have e7863 : I7862 (ad g 1) 1 = L := by rw [eI7862, pp_ne _ _ (Or.inl (lyx_ne hy (by decide) (by decide) (by decide)))]; exact e7853
        have e7864 : I7862 (ad g 6) 4 = v7804 := by rw [eI7862, pp_ne _ _ (Or.inl (lyx_ne hy (by decide) (by decide) (by decide)))]; exact e7854
        have e7865 : I7862 (ad g 44) 0 = v7811 := by rw [eI7862, pp_ne _ _ (Or.inr (by decide))]; exact e7855
        have e7866 : I7862 (ad g 44) 1 = v7817 := by rw [eI7862, pp_ne _ _ (Or.inr (by decide))]; exact e7856
        have e7867 : I7862 (ad g 44) 2 = v7824 := by rw [eI7862, pp_ne _ _ (Or.inr (by decide))]; exact e7857
        have e7868 : I7862 (ad g 44) 3 = v7837 := by rw [eI7862, pp_ne _ _ (Or.inr (by decide))]; exact e7858
        have e7869 : I7862 (ad g 44) 4 = v7851 := by rw [eI7862, pp_ne _ _ (Or.inr (by decide))]; exact e7859
        have e7870 : I7862 (ad g 44) 5 = v7817 := by rw [eI7862, pp_self]
        have fr7871 : fz 74 g [44] I I7862 := by rw [eI7862]; exact fzx_pp hy fr7860 (by decide) (by decide)
        clear eI7862
        refine WP_aload_n dX6_load_151 rfl ?_
        refine WP_iload dX6_load_152 rfl ?_
        refine WQ_if_ne 163 dX6_load_154 rfl (fun c7871 => False.elim (by omega)) (fun c7871 => ?_)
        refine WP_iload dX6_load_157 rfl ?_
        refine WQ_iconst (-1) (-1) dX6_load_159 rfl rfl (fun v7873 hv7873 => ?_)
        refine WQ_icmp_ne 167 dX6_load_160 rfl (fun c7873 => ?_) (fun c7873 => False.elim (by omega))
        refine WQ_iconst (2) (2) dX6_load_167 rfl rfl (fun v7875 hv7875 => ?_)
        refine WQ_puti dX6_load_168 fX6_57 rfl rfl (lyx_is hy 44 6 rfl) (fun I7876 eI7876 => ?_)
        have hI7876 : XI g n L I7876 := by rw [eI7876]; exact (xi_f hy hI7862 (c := 44) (0) (0) (2) (by decide) (Or.inl (by decide)) (by decide) (by omega) (by omega))
        have e7877 : I7876 (ad g 1) 1 = L := by rw [eI7876, pp_ne _ _ (Or.inl (lyx_ne hy (by decide) (by decide) (by decide)))]; exact e7863
        have e7878 : I7876 (ad g 6) 4 = v7804 := by rw [eI7876, pp_ne _ _ (Or.inl (lyx_ne hy (by decide) (by decide) (by decide)))]; exact e7864
        have e7879 : I7876 (ad g 44) 0 = v7811 := by rw [eI7876, pp_ne _ _ (Or.inr (by decide))]; exact e7865
        have e7880 : I7876 (ad g 44) 1 = v7817 := by rw [eI7876, pp_ne _ _ (Or.inr (by decide))]; exact e7866
        have e7881 : I7876 (ad g 44) 2 = v7824 := by rw [eI7876, pp_ne _ _ (Or.inr (by decide))]; exact e7867
        have e7882 : I7876 (ad g 44) 3 = v7837 := by rw [eI7876, pp_ne _ _ (Or.inr (by decide))]; exact e7868
        have e7883 : I7876 (ad g 44) 4 = v7851 := by rw [eI7876, pp_ne _ _ (Or.inr (by decide))]; exact e7869
        have e7884 : I7876 (ad g 44) 5 = v7817 := by rw [eI7876, pp_ne _ _ (Or.inr (by decide))]; exact e7870
        have e7885 : I7876 (ad g 44) 6 = v7875 := by rw [eI7876, pp_self]
        have fr7886 : fz 74 g [44] I I7876 := by rw [eI7876]; exact fzx_pp hy fr7871 (by decide) (by decide)
        clear eI7876
        refine WP_aload_n dX6_load_171 rfl ?_
        refine WP_aload_n dX6_load_172 rfl ?_
        refine WQ_getim dX6_load_173 fX6_9 rfl (lyx_is hy 44 6 rfl) e7879 ?_
        refine WQ_iconst (-1) (-1) dX6_load_176 rfl rfl (fun v7887 hv7887 => ?_)
        refine WQ_icmp_eq 193 dX6_load_177 rfl (fun c7887 => False.elim (by omega)) (fun c7887 => ?_)
        refine WP_aload_n dX6_load_180 rfl ?_
        refine WQ_getim dX6_load_181 fX6_9 rfl (lyx_is hy 44 6 rfl) e7879 ?_
        refine WP_iload dX6_load_184 rfl ?_
        refine WQ_icmp_ne 193 dX6_load_186 rfl (fun c7888 => ?_) (fun c7888 => ?_)
        · refine WQ_iconst (0) (0) dX6_load_193 rfl rfl (fun v7890 hv7890 => ?_)
          refine WQ_putz dX6_load_194 fX6_60 rfl rfl (by omega) (lyx_is hy 44 6 rfl) (fun I7891 eI7891 => ?_)
          have hI7891 : XI g n L I7891 := by rw [eI7891]; exact (xi_f hy hI7876 (c := 44) (0) (0) (1) (by decide) (Or.inl (by decide)) (by decide) (by omega) (by omega))
          have e7892 : I7891 (ad g 1) 1 = L := by rw [eI7891, pp_ne _ _ (Or.inl (lyx_ne hy (by decide) (by decide) (by decide)))]; exact e7877
          have e7893 : I7891 (ad g 6) 4 = v7804 := by rw [eI7891, pp_ne _ _ (Or.inl (lyx_ne hy (by decide) (by decide) (by decide)))]; exact e7878
          have e7894 : I7891 (ad g 44) 0 = v7811 := by rw [eI7891, pp_ne _ _ (Or.inr (by decide))]; exact e7879
          have e7895 : I7891 (ad g 44) 1 = v7817 := by rw [eI7891, pp_ne _ _ (Or.inr (by decide))]; exact e7880
          have e7896 : I7891 (ad g 44) 2 = v7824 := by rw [eI7891, pp_ne _ _ (Or.inr (by decide))]; exact e7881
          have e7897 : I7891 (ad g 44) 3 = v7837 := by rw [eI7891, pp_ne _ _ (Or.inr (by decide))]; exact e7882
          have e7898 : I7891 (ad g 44) 4 = v7851 := by rw [eI7891, pp_ne _ _ (Or.inr (by decide))]; exact e7883
          have e7899 : I7891 (ad g 44) 5 = v7817 := by rw [eI7891, pp_ne _ _ (Or.inr (by decide))]; exact e7884
          have e7900 : I7891 (ad g 44) 6 = v7875 := by rw [eI7891, pp_ne _ _ (Or.inr (by decide))]; exact e7885
          have e7901 : I7891 (ad g 44) 7 = v7890 := by rw [eI7891, pp_self]
          have fr7902 : fz 74 g [44] I I7891 := by rw [eI7891]; exact fzx_pp hy fr7886 (by decide) (by decide)
          clear eI7891
          refine WP_aload_n dX6_load_197 rfl ?_
          refine WP_aload_n dX6_load_198 rfl ?_
          refine WP_getr dX6_load_199 fX6_64 rfl (lyx_is hy 5 0 rfl) (rfx hr 5 2 23 (by decide)) ?_
          refine WP_iload_n dX6_load_202 rfl ?_
          refine WQ_iald dX6_load_203 (lyx_is hy 23 13 rfl) (lyx_n hy 23 7 rfl) (by omega) (by omega) (fun q hq => BT_get hI7891.1 23 0 7 (0) (0) (900) (by decide) q (Nat.zero_le _) hq) (fun v7903 av7903 bv7903 ev7903 => ?_)
          clear ev7903
          refine WQ_if_le 211 dX6_load_204 rfl (fun c7903 => ?_) (fun c7903 => ?_)
          · refine WQ_iconst (0) (0) dX6_load_211 rfl rfl (fun v7905 hv7905 => ?_)
            refine WQ_putz dX6_load_212 fX6_67 rfl rfl (by omega) (lyx_is hy 44 6 rfl) (fun I7906 eI7906 => ?_)
            have hI7906 : XI g n L I7906 := by rw [eI7906]; exact (xi_f hy hI7891 (c := 44) (0) (0) (1) (by decide) (Or.inl (by decide)) (by decide) (by omega) (by omega))
            have e7907 : I7906 (ad g 1) 1 = L := by rw [eI7906, pp_ne _ _ (Or.inl (lyx_ne hy (by decide) (by decide) (by decide)))]; exact e7892
            have e7908 : I7906 (ad g 6) 4 = v7804 := by rw [eI7906, pp_ne _ _ (Or.inl (lyx_ne hy (by decide) (by decide) (by decide)))]; exact e7893
            have e7909 : I7906 (ad g 44) 0 = v7811 := by rw [eI7906, pp_ne _ _ (Or.inr (by decide))]; exact e7894
            have e7910 : I7906 (ad g 44) 1 = v7817 := by rw [eI7906, pp_ne _ _ (Or.inr (by decide))]; exact e7895
            have e7911 : I7906 (ad g 44) 2 = v7824 := by rw [eI7906, pp_ne _ _ (Or.inr (by decide))]; exact e7896
            have e7912 : I7906 (ad g 44) 3 = v7837 := by rw [eI7906, pp_ne _ _ (Or.inr (by decide))]; exact e7897
            have e7913 : I7906 (ad g 44) 4 = v7851 := by rw [eI7906, pp_ne _ _ (Or.inr (by decide))]; exact e7898
            have e7914 : I7906 (ad g 44) 5 = v7817 := by rw [eI7906, pp_ne _ _ (Or.inr (by decide))]; exact e7899
            have e7915 : I7906 (ad g 44) 6 = v7875 := by rw [eI7906, pp_ne _ _ (Or.inr (by decide))]; exact e7900
            have e7916 : I7906 (ad g 44) 7 = v7890 := by rw [eI7906, pp_ne _ _ (Or.inr (by decide))]; exact e7901
            have e7917 : I7906 (ad g 44) 8 = v7905 := by rw [eI7906, pp_self]
            have fr7918 : fz 74 g [44] I I7906 := by rw [eI7906]; exact fzx_pp hy fr7902 (by decide) (by decide)
            clear eI7906
            exact WP_vret dX6_load_215 rfl ⟨⟨hI7906, rfl, fr7918, rfl, (by
                  have yill : I (ad g (6 + 5)) so.toInt.toNat >>> (nI da.toInt.toNat &&& 31) &&& 1 = v7808 := by rw [show I (ad g (6 + 5)) so.toInt.toNat = v7805 from yv7805, show nI da.toInt.toNat = da from (eq32 _ _).mpr (by rw [nI_toInt (by omega)]; omega), xv7808, xv7806, (eq32 v7807 1).mpr hv7807]
                  have yst : I (ad g 6) 4 = v7804 := est
                  unfold LD
                  simp only [e7909, e7910, e7911, e7912, e7913, e7914, e7915, e7916, yill, yst, show I (ad g (6 + 7)) _ = _ from yv7811, show I (ad g (6 + 8)) _ = _ from yv7817, show I (ad g (6 + 9)) _ = _ from yv7824, yv7837, yv7851, true_and, and_true]
                  omega)⟩, rfl⟩
          · refine WQ_iconst (1) (1) dX6_load_207 rfl rfl (fun v7919 hv7919 => ?_)
            refine WP_goto 212 dX6_load_208 rfl ?_
            refine WQ_putz dX6_load_212 fX6_67 rfl rfl (by omega) (lyx_is hy 44 6 rfl) (fun I7920 eI7920 => ?_)
            have hI7920 : XI g n L I7920 := by rw [eI7920]; exact (xi_f hy hI7891 (c := 44) (0) (0) (1) (by decide) (Or.inl (by decide)) (by decide) (by omega) (by omega))
            have e7921 : I7920 (ad g 1) 1 = L := by rw [eI7920, pp_ne _ _ (Or.inl (lyx_ne hy (by decide) (by decide) (by decide)))]; exact e7892
            have e7922 : I7920 (ad g 6) 4 = v7804 := by rw [eI7920, pp_ne _ _ (Or.inl (lyx_ne hy (by decide) (by decide) (by decide)))]; exact e7893
            have e7923 : I7920 (ad g 44) 0 = v7811 := by rw [eI7920, pp_ne _ _ (Or.inr (by decide))]; exact e7894
            have e7924 : I7920 (ad g 44) 1 = v7817 := by rw [eI7920, pp_ne _ _ (Or.inr (by decide))]; exact e7895
            have e7925 : I7920 (ad g 44) 2 = v7824 := by rw [eI7920, pp_ne _ _ (Or.inr (by decide))]; exact e7896
            have e7926 : I7920 (ad g 44) 3 = v7837 := by rw [eI7920, pp_ne _ _ (Or.inr (by decide))]; exact e7897
            have e7927 : I7920 (ad g 44) 4 = v7851 := by rw [eI7920, pp_ne _ _ (Or.inr (by decide))]; exact e7898
            have e7928 : I7920 (ad g 44) 5 = v7817 := by rw [eI7920, pp_ne _ _ (Or.inr (by decide))]; exact e7899
            have e7929 : I7920 (ad g 44) 6 = v7875 := by rw [eI7920, pp_ne _ _ (Or.inr (by decide))]; exact e7900
            have e7930 : I7920 (ad g 44) 7 = v7890 := by rw [eI7920, pp_ne _ _ (Or.inr (by decide))]; exact e7901
            have e7931 : I7920 (ad g 44) 8 = v7919 := by rw [eI7920, pp_self]
            have fr7932 : fz 74 g [44] I I7920 := by rw [eI7920]; exact fzx_pp hy fr7902 (by decide) (by decide)
            clear eI7920
            exact WP_vret dX6_load_215 rfl ⟨⟨hI7920, rfl, fr7932, rfl, (by
                  have yill : I (ad g (6 + 5)) so.toInt.toNat >>> (nI da.toInt.toNat &&& 31) &&& 1 = v7808 := by rw [show I (ad g (6 + 5)) so.toInt.toNat = v7805 from yv7805, show nI da.toInt.toNat = da from (eq32 _ _).mpr (by rw [nI_toInt (by omega)]; omega), xv7808, xv7806, (eq32 v7807 1).mpr hv7807]
                  have yst : I (ad g 6) 4 = v7804 := est
                  unfold LD
                  simp only [e7923, e7924, e7925, e7926, e7927, e7928, e7929, e7930, yill, yst, show I (ad g (6 + 7)) _ = _ from yv7811, show I (ad g (6 + 8)) _ = _ from yv7817, show I (ad g (6 + 9)) _ = _ from yv7824, yv7837, yv7851, true_and, and_true]
                  omega)⟩, rfl⟩
        · refine WQ_iconst (1) (1) dX6_load_189 rfl rfl (fun v7933 hv7933 => ?_)
          refine WP_goto 194 dX6_load_190 rfl ?_
          refine WQ_putz dX6_load_194 fX6_60 rfl rfl (by omega) (lyx_is hy 44 6 rfl) (fun I7934 eI7934 => ?_)
          have hI7934 : XI g n L I7934 := by rw [eI7934]; exact (xi_f hy hI7876 (c := 44) (0) (0) (1) (by decide) (Or.inl (by decide)) (by decide) (by omega) (by omega))
          have e7935 : I7934 (ad g 1) 1 = L := by rw [eI7934, pp_ne _ _ (Or.inl (lyx_ne hy (by decide) (by decide) (by decide)))]; exact e7877
          have e7936 : I7934 (ad g 6) 4 = v7804 := by rw [eI7934, pp_ne _ _ (Or.inl (lyx_ne hy (by decide) (by decide) (by decide)))]; exact e7878
          have e7937 : I7934 (ad g 44) 0 = v7811 := by rw [eI7934, pp_ne _ _ (Or.inr (by decide))]; exact e7879
          have e7938 : I7934 (ad g 44) 1 = v7817 := by rw [eI7934, pp_ne _ _ (Or.inr (by decide))]; exact e7880
          have e7939 : I7934 (ad g 44) 2 = v7824 := by rw [eI7934, pp_ne _ _ (Or.inr (by decide))]; exact e7881
          have e7940 : I7934 (ad g 44) 3 = v7837 := by rw [eI7934, pp_ne _ _ (Or.inr (by decide))]; exact e7882
          have e7941 : I7934 (ad g 44) 4 = v7851 := by rw [eI7934, pp_ne _ _ (Or.inr (by decide))]; exact e7883
          have e7942 : I7934 (ad g 44) 5 = v7817 := by rw [eI7934, pp_ne _ _ (Or.inr (by decide))]; exact e7884
          have e7943 : I7934 (ad g 44) 6 = v7875 := by rw [eI7934, pp_ne _ _ (Or.inr (by decide))]; exact e7885
          have e7944 : I7934 (ad g 44) 7 = v7933 := by rw [eI7934, pp_self]
          have fr7945 : fz 74 g [44] I I7934 := by rw [eI7934]; exact fzx_pp hy fr7886 (by decide) (by decide)
          clear eI7934
          refine WP_aload_n dX6_load_197 rfl ?_
          refine WP_aload_n dX6_load_198 rfl ?_
          refine WP_getr dX6_load_199 fX6_64 rfl (lyx_is hy 5 0 rfl) (rfx hr 5 2 23 (by decide)) ?_
          refine WP_iload_n dX6_load_202 rfl ?_
          refine WQ_iald dX6_load_203 (lyx_is hy 23 13 rfl) (lyx_n hy 23 7 rfl) (by omega) (by omega) (fun q hq => BT_get hI7934.1 23 0 7 (0) (0) (900) (by decide) q (Nat.zero_le _) hq) (fun v7946 av7946 bv7946 ev7946 => ?_)
          clear ev7946
          refine WQ_if_le 211 dX6_load_204 rfl (fun c7946 => ?_) (fun c7946 => ?_)
          · refine WQ_iconst (0) (0) dX6_load_211 rfl rfl (fun v7948 hv7948 => ?_)
            refine WQ_putz dX6_load_212 fX6_67 rfl rfl (by omega) (lyx_is hy 44 6 rfl) (fun I7949 eI7949 => ?_)
            have hI7949 : XI g n L I7949 := by rw [eI7949]; exact (xi_f hy hI7934 (c := 44) (0) (0) (1) (by decide) (Or.inl (by decide)) (by decide) (by omega) (by omega))
            have e7950 : I7949 (ad g 1) 1 = L := by rw [eI7949, pp_ne _ _ (Or.inl (lyx_ne hy (by decide) (by decide) (by decide)))]; exact e7935
            have e7951 : I7949 (ad g 6) 4 = v7804 := by rw [eI7949, pp_ne _ _ (Or.inl (lyx_ne hy (by decide) (by decide) (by decide)))]; exact e7936
            have e7952 : I7949 (ad g 44) 0 = v7811 := by rw [eI7949, pp_ne _ _ (Or.inr (by decide))]; exact e7937
            have e7953 : I7949 (ad g 44) 1 = v7817 := by rw [eI7949, pp_ne _ _ (Or.inr (by decide))]; exact e7938
            have e7954 : I7949 (ad g 44) 2 = v7824 := by rw [eI7949, pp_ne _ _ (Or.inr (by decide))]; exact e7939
            have e7955 : I7949 (ad g 44) 3 = v7837 := by rw [eI7949, pp_ne _ _ (Or.inr (by decide))]; exact e7940
            have e7956 : I7949 (ad g 44) 4 = v7851 := by rw [eI7949, pp_ne _ _ (Or.inr (by decide))]; exact e7941
            have e7957 : I7949 (ad g 44) 5 = v7817 := by rw [eI7949, pp_ne _ _ (Or.inr (by decide))]; exact e7942
            have e7958 : I7949 (ad g 44) 6 = v7875 := by rw [eI7949, pp_ne _ _ (Or.inr (by decide))]; exact e7943
            have e7959 : I7949 (ad g 44) 7 = v7933 := by rw [eI7949, pp_ne _ _ (Or.inr (by decide))]; exact e7944
            have e7960 : I7949 (ad g 44) 8 = v7948 := by rw [eI7949, pp_self]
            have fr7961 : fz 74 g [44] I I7949 := by rw [eI7949]; exact fzx_pp hy fr7945 (by decide) (by decide)
            clear eI7949
            exact WP_vret dX6_load_215 rfl ⟨⟨hI7949, rfl, fr7961, rfl, (by
                  have yill : I (ad g (6 + 5)) so.toInt.toNat >>> (nI da.toInt.toNat &&& 31) &&& 1 = v7808 := by rw [show I (ad g (6 + 5)) so.toInt.toNat = v7805 from yv7805, show nI da.toInt.toNat = da from (eq32 _ _).mpr (by rw [nI_toInt (by omega)]; omega), xv7808, xv7806, (eq32 v7807 1).mpr hv7807]
                  have yst : I (ad g 6) 4 = v7804 := est
                  unfold LD
                  simp only [e7952, e7953, e7954, e7955, e7956, e7957, e7958, e7959, yill, yst, show I (ad g (6 + 7)) _ = _ from yv7811, show I (ad g (6 + 8)) _ = _ from yv7817, show I (ad g (6 + 9)) _ = _ from yv7824, yv7837, yv7851, true_and, and_true]
                  omega)⟩, rfl⟩
          · refine WQ_iconst (1) (1) dX6_load_207 rfl rfl (fun v7962 hv7962 => ?_)
            refine WP_goto 212 dX6_load_208 rfl ?_
            refine WQ_putz dX6_load_212 fX6_67 rfl rfl (by omega) (lyx_is hy 44 6 rfl) (fun I7963 eI7963 => ?_)
            have hI7963 : XI g n L I7963 := by rw [eI7963]; exact (xi_f hy hI7934 (c := 44) (0) (0) (1) (by decide) (Or.inl (by decide)) (by decide) (by omega) (by omega))
            have e7964 : I7963 (ad g 1) 1 = L := by rw [eI7963, pp_ne _ _ (Or.inl (lyx_ne hy (by decide) (by decide) (by decide)))]; exact e7935
            have e7965 : I7963 (ad g 6) 4 = v7804 := by rw [eI7963, pp_ne _ _ (Or.inl (lyx_ne hy (by decide) (by decide) (by decide)))]; exact e7936
            have e7966 : I7963 (ad g 44) 0 = v7811 := by rw [eI7963, pp_ne _ _ (Or.inr (by decide))]; exact e7937
            have e7967 : I7963 (ad g 44) 1 = v7817 := by rw [eI7963, pp_ne _ _ (Or.inr (by decide))]; exact e7938
            have e7968 : I7963 (ad g 44) 2 = v7824 := by rw [eI7963, pp_ne _ _ (Or.inr (by decide))]; exact e7939
            have e7969 : I7963 (ad g 44) 3 = v7837 := by rw [eI7963, pp_ne _ _ (Or.inr (by decide))]; exact e7940
            have e7970 : I7963 (ad g 44) 4 = v7851 := by rw [eI7963, pp_ne _ _ (Or.inr (by decide))]; exact e7941
            have e7971 : I7963 (ad g 44) 5 = v7817 := by rw [eI7963, pp_ne _ _ (Or.inr (by decide))]; exact e7942
            have e7972 : I7963 (ad g 44) 6 = v7875 := by rw [eI7963, pp_ne _ _ (Or.inr (by decide))]; exact e7943
            have e7973 : I7963 (ad g 44) 7 = v7933 := by rw [eI7963, pp_ne _ _ (Or.inr (by decide))]; exact e7944
            have e7974 : I7963 (ad g 44) 8 = v7962 := by rw [eI7963, pp_self]
            have fr7975 : fz 74 g [44] I I7963 := by rw [eI7963]; exact fzx_pp hy fr7945 (by decide) (by decide)
            clear eI7963
            exact WP_vret dX6_load_215 rfl ⟨⟨hI7963, rfl, fr7975, rfl, (by
                  have yill : I (ad g (6 + 5)) so.toInt.toNat >>> (nI da.toInt.toNat &&& 31) &&& 1 = v7808 := by rw [show I (ad g (6 + 5)) so.toInt.toNat = v7805 from yv7805, show nI da.toInt.toNat = da from (eq32 _ _).mpr (by rw [nI_toInt (by omega)]; omega), xv7808, xv7806, (eq32 v7807 1).mpr hv7807]
                  have yst : I (ad g 6) 4 = v7804 := est
                  unfold LD
                  simp only [e7966, e7967, e7968, e7969, e7970, e7971, e7972, e7973, yill, yst, show I (ad g (6 + 7)) _ = _ from yv7811, show I (ad g (6 + 8)) _ = _ from yv7817, show I (ad g (6 + 9)) _ = _ from yv7824, yv7837, yv7851, true_and, and_true]
                  omega)⟩, rfl⟩
      · refine WQ_iconst (0) (0) dX6_load_115 rfl rfl (fun v7976 hv7976 => ?_)
        refine WP_goto 131 dX6_load_116 rfl ?_
        refine WQ_puti dX6_load_131 fX6_51 rfl rfl (lyx_is hy 44 6 rfl) (fun I7977 eI7977 => ?_)
        have hI7977 : XI g n L I7977 := by rw [eI7977]; exact (xi_f hy hI7838 (c := 44) (0) (0) (20) (by decide) (Or.inl (by decide)) (by decide) (by omega) (by omega))
        have e7978 : I7977 (ad g 1) 1 = L := by rw [eI7977, pp_ne _ _ (Or.inl (lyx_ne hy (by decide) (by decide) (by decide)))]; exact e7839
        have e7979 : I7977 (ad g 6) 4 = v7804 := by rw [eI7977, pp_ne _ _ (Or.inl (lyx_ne hy (by decide) (by decide) (by decide)))]; exact e7840
        have e7980 : I7977 (ad g 44) 0 = v7811 := by rw [eI7977, pp_ne _ _ (Or.inr (by decide))]; exact e7841
        have e7981 : I7977 (ad g 44) 1 = v7817 := by rw [eI7977, pp_ne _ _ (Or.inr (by decide))]; exact e7842
        have e7982 : I7977 (ad g 44) 2 = v7824 := by rw [eI7977, pp_ne _ _ (Or.inr (by decide))]; exact e7843
        have e7983 : I7977 (ad g 44) 3 = v7837 := by rw [eI7977, pp_ne _ _ (Or.inr (by decide))]; exact e7844
        have e7984 : I7977 (ad g 44) 4 = v7976 := by rw [eI7977, pp_self]
        have fr7985 : fz 74 g [44] I I7977 := by rw [eI7977]; exact fzx_pp hy fr7845 (by decide) (by decide)
        clear eI7977
        refine WP_aload_n dX6_load_134 rfl ?_
        refine WP_iload dX6_load_135 rfl ?_
        refine WQ_if_eq 144 dX6_load_137 rfl (fun c7985 => ?_) (fun c7985 => False.elim (by omega))
        refine WP_aload_n dX6_load_144 rfl ?_
        refine WQ_getim dX6_load_145 fX6_36 rfl (lyx_is hy 44 6 rfl) e7981 ?_
        refine WQ_puti dX6_load_148 fX6_54 rfl rfl (lyx_is hy 44 6 rfl) (fun I7987 eI7987 => ?_)
        have hI7987 : XI g n L I7987 := by rw [eI7987]; exact (xi_f hy hI7977 (c := 44) (0) (0) (3) (by decide) (Or.inl (by decide)) (by decide) (by omega) (by omega))
        have e7988 : I7987 (ad g 1) 1 = L := by rw [eI7987, pp_ne _ _ (Or.inl (lyx_ne hy (by decide) (by decide) (by decide)))]; exact e7978
        have e7989 : I7987 (ad g 6) 4 = v7804 := by rw [eI7987, pp_ne _ _ (Or.inl (lyx_ne hy (by decide) (by decide) (by decide)))]; exact e7979
        have e7990 : I7987 (ad g 44) 0 = v7811 := by rw [eI7987, pp_ne _ _ (Or.inr (by decide))]; exact e7980
        have e7991 : I7987 (ad g 44) 1 = v7817 := by rw [eI7987, pp_ne _ _ (Or.inr (by decide))]; exact e7981
        have e7992 : I7987 (ad g 44) 2 = v7824 := by rw [eI7987, pp_ne _ _ (Or.inr (by decide))]; exact e7982
        have e7993 : I7987 (ad g 44) 3 = v7837 := by rw [eI7987, pp_ne _ _ (Or.inr (by decide))]; exact e7983
        have e7994 : I7987 (ad g 44) 4 = v7976 := by rw [eI7987, pp_ne _ _ (Or.inr (by decide))]; exact e7984
        have e7995 : I7987 (ad g 44) 5 = v7817 := by rw [eI7987, pp_self]
        have fr7996 : fz 74 g [44] I I7987 := by rw [eI7987]; exact fzx_pp hy fr7985 (by decide) (by decide)
        clear eI7987
        refine WP_aload_n dX6_load_151 rfl ?_
        refine WP_iload dX6_load_152 rfl ?_
        refine WQ_if_ne 163 dX6_load_154 rfl (fun c7996 => False.elim (by omega)) (fun c7996 => ?_)
        refine WP_iload dX6_load_157 rfl ?_
        refine WQ_iconst (-1) (-1) dX6_load_159 rfl rfl (fun v7998 hv7998 => ?_)
        refine WQ_icmp_ne 167 dX6_load_160 rfl (fun c7998 => False.elim (by omega)) (fun c7998 => ?_)
        refine WQ_iconst (0) (0) dX6_load_163 rfl rfl (fun v8000 hv8000 => ?_)
        refine WP_goto 168 dX6_load_164 rfl ?_
        refine WQ_puti dX6_load_168 fX6_57 rfl rfl (lyx_is hy 44 6 rfl) (fun I8001 eI8001 => ?_)
        have hI8001 : XI g n L I8001 := by rw [eI8001]; exact (xi_f hy hI7987 (c := 44) (0) (0) (2) (by decide) (Or.inl (by decide)) (by decide) (by omega) (by omega))
        have e8002 : I8001 (ad g 1) 1 = L := by rw [eI8001, pp_ne _ _ (Or.inl (lyx_ne hy (by decide) (by decide) (by decide)))]; exact e7988
        have e8003 : I8001 (ad g 6) 4 = v7804 := by rw [eI8001, pp_ne _ _ (Or.inl (lyx_ne hy (by decide) (by decide) (by decide)))]; exact e7989
        have e8004 : I8001 (ad g 44) 0 = v7811 := by rw [eI8001, pp_ne _ _ (Or.inr (by decide))]; exact e7990
        have e8005 : I8001 (ad g 44) 1 = v7817 := by rw [eI8001, pp_ne _ _ (Or.inr (by decide))]; exact e7991
        have e8006 : I8001 (ad g 44) 2 = v7824 := by rw [eI8001, pp_ne _ _ (Or.inr (by decide))]; exact e7992
        have e8007 : I8001 (ad g 44) 3 = v7837 := by rw [eI8001, pp_ne _ _ (Or.inr (by decide))]; exact e7993
        have e8008 : I8001 (ad g 44) 4 = v7976 := by rw [eI8001, pp_ne _ _ (Or.inr (by decide))]; exact e7994
        have e8009 : I8001 (ad g 44) 5 = v7817 := by rw [eI8001, pp_ne _ _ (Or.inr (by decide))]; exact e7995
        have e8010 : I8001 (ad g 44) 6 = v8000 := by rw [eI8001, pp_self]
        have fr8011 : fz 74 g [44] I I8001 := by rw [eI8001]; exact fzx_pp hy fr7996 (by decide) (by decide)
        clear eI8001
        refine WP_aload_n dX6_load_171 rfl ?_
        refine WP_aload_n dX6_load_172 rfl ?_
        refine WQ_getim dX6_load_173 fX6_9 rfl (lyx_is hy 44 6 rfl) e8004 ?_
        refine WQ_iconst (-1) (-1) dX6_load_176 rfl rfl (fun v8012 hv8012 => ?_)
        refine WQ_icmp_eq 193 dX6_load_177 rfl (fun c8012 => False.elim (by omega)) (fun c8012 => ?_)
        refine WP_aload_n dX6_load_180 rfl ?_
        refine WQ_getim dX6_load_181 fX6_9 rfl (lyx_is hy 44 6 rfl) e8004 ?_
        refine WP_iload dX6_load_184 rfl ?_
        refine WQ_icmp_ne 193 dX6_load_186 rfl (fun c8013 => ?_) (fun c8013 => False.elim (by omega))
        refine WQ_iconst (0) (0) dX6_load_193 rfl rfl (fun v8015 hv8015 => ?_)
        refine WQ_putz dX6_load_194 fX6_60 rfl rfl (by omega) (lyx_is hy 44 6 rfl) (fun I8016 eI8016 => ?_)
        have hI8016 : XI g n L I8016 := by rw [eI8016]; exact (xi_f hy hI8001 (c := 44) (0) (0) (1) (by decide) (Or.inl (by decide)) (by decide) (by omega) (by omega))
        have e8017 : I8016 (ad g 1) 1 = L := by rw [eI8016, pp_ne _ _ (Or.inl (lyx_ne hy (by decide) (by decide) (by decide)))]; exact e8002
        have e8018 : I8016 (ad g 6) 4 = v7804 := by rw [eI8016, pp_ne _ _ (Or.inl (lyx_ne hy (by decide) (by decide) (by decide)))]; exact e8003
        have e8019 : I8016 (ad g 44) 0 = v7811 := by rw [eI8016, pp_ne _ _ (Or.inr (by decide))]; exact e8004
        have e8020 : I8016 (ad g 44) 1 = v7817 := by rw [eI8016, pp_ne _ _ (Or.inr (by decide))]; exact e8005
        have e8021 : I8016 (ad g 44) 2 = v7824 := by rw [eI8016, pp_ne _ _ (Or.inr (by decide))]; exact e8006
        have e8022 : I8016 (ad g 44) 3 = v7837 := by rw [eI8016, pp_ne _ _ (Or.inr (by decide))]; exact e8007
        have e8023 : I8016 (ad g 44) 4 = v7976 := by rw [eI8016, pp_ne _ _ (Or.inr (by decide))]; exact e8008
        have e8024 : I8016 (ad g 44) 5 = v7817 := by rw [eI8016, pp_ne _ _ (Or.inr (by decide))]; exact e8009
        have e8025 : I8016 (ad g 44) 6 = v8000 := by rw [eI8016, pp_ne _ _ (Or.inr (by decide))]; exact e8010
        have e8026 : I8016 (ad g 44) 7 = v8015 := by rw [eI8016, pp_self]
        have fr8027 : fz 74 g [44] I I8016 := by rw [eI8016]; exact fzx_pp hy fr8011 (by decide) (by decide)
        clear eI8016
        refine WP_aload_n dX6_load_197 rfl ?_
        refine WP_aload_n dX6_load_198 rfl ?_
        refine WP_getr dX6_load_199 fX6_64 rfl (lyx_is hy 5 0 rfl) (rfx hr 5 2 23 (by decide)) ?_
        refine WP_iload_n dX6_load_202 rfl ?_
        refine WQ_iald dX6_load_203 (lyx_is hy 23 13 rfl) (lyx_n hy 23 7 rfl) (by omega) (by omega) (fun q hq => BT_get hI8016.1 23 0 7 (0) (0) (900) (by decide) q (Nat.zero_le _) hq) (fun v8028 av8028 bv8028 ev8028 => ?_)
        clear ev8028
        refine WQ_if_le 211 dX6_load_204 rfl (fun c8028 => ?_) (fun c8028 => ?_)
        · refine WQ_iconst (0) (0) dX6_load_211 rfl rfl (fun v8030 hv8030 => ?_)
          refine WQ_putz dX6_load_212 fX6_67 rfl rfl (by omega) (lyx_is hy 44 6 rfl) (fun I8031 eI8031 => ?_)
          have hI8031 : XI g n L I8031 := by rw [eI8031]; exact (xi_f hy hI8016 (c := 44) (0) (0) (1) (by decide) (Or.inl (by decide)) (by decide) (by omega) (by omega))
          have e8032 : I8031 (ad g 1) 1 = L := by rw [eI8031, pp_ne _ _ (Or.inl (lyx_ne hy (by decide) (by decide) (by decide)))]; exact e8017
          have e8033 : I8031 (ad g 6) 4 = v7804 := by rw [eI8031, pp_ne _ _ (Or.inl (lyx_ne hy (by decide) (by decide) (by decide)))]; exact e8018
          have e8034 : I8031 (ad g 44) 0 = v7811 := by rw [eI8031, pp_ne _ _ (Or.inr (by decide))]; exact e8019
          have e8035 : I8031 (ad g 44) 1 = v7817 := by rw [eI8031, pp_ne _ _ (Or.inr (by decide))]; exact e8020
          have e8036 : I8031 (ad g 44) 2 = v7824 := by rw [eI8031, pp_ne _ _ (Or.inr (by decide))]; exact e8021
          have e8037 : I8031 (ad g 44) 3 = v7837 := by rw [eI8031, pp_ne _ _ (Or.inr (by decide))]; exact e8022
          have e8038 : I8031 (ad g 44) 4 = v7976 := by rw [eI8031, pp_ne _ _ (Or.inr (by decide))]; exact e8023
          have e8039 : I8031 (ad g 44) 5 = v7817 := by rw [eI8031, pp_ne _ _ (Or.inr (by decide))]; exact e8024
          have e8040 : I8031 (ad g 44) 6 = v8000 := by rw [eI8031, pp_ne _ _ (Or.inr (by decide))]; exact e8025
          have e8041 : I8031 (ad g 44) 7 = v8015 := by rw [eI8031, pp_ne _ _ (Or.inr (by decide))]; exact e8026
          have e8042 : I8031 (ad g 44) 8 = v8030 := by rw [eI8031, pp_self]
          have fr8043 : fz 74 g [44] I I8031 := by rw [eI8031]; exact fzx_pp hy fr8027 (by decide) (by decide)
          clear eI8031
          exact WP_vret dX6_load_215 rfl ⟨⟨hI8031, rfl, fr8043, rfl, (by
                have yill : I (ad g (6 + 5)) so.toInt.toNat >>> (nI da.toInt.toNat &&& 31) &&& 1 = v7808 := by rw [show I (ad g (6 + 5)) so.toInt.toNat = v7805 from yv7805, show nI da.toInt.toNat = da from (eq32 _ _).mpr (by rw [nI_toInt (by omega)]; omega), xv7808, xv7806, (eq32 v7807 1).mpr hv7807]
                have yst : I (ad g 6) 4 = v7804 := est
                unfold LD
                simp only [e8034, e8035, e8036, e8037, e8038, e8039, e8040, e8041, yill, yst, show I (ad g (6 + 7)) _ = _ from yv7811, show I (ad g (6 + 8)) _ = _ from yv7817, show I (ad g (6 + 9)) _ = _ from yv7824, yv7837, true_and, and_true]
                omega)⟩, rfl⟩
        · refine WQ_iconst (1) (1) dX6_load_207 rfl rfl (fun v8044 hv8044 => ?_)
          refine WP_goto 212 dX6_load_208 rfl ?_
          refine WQ_putz dX6_load_212 fX6_67 rfl rfl (by omega) (lyx_is hy 44 6 rfl) (fun I8045 eI8045 => ?_)
          have hI8045 : XI g n L I8045 := by rw [eI8045]; exact (xi_f hy hI8016 (c := 44) (0) (0) (1) (by decide) (Or.inl (by decide)) (by decide) (by omega) (by omega))
          have e8046 : I8045 (ad g 1) 1 = L := by rw [eI8045, pp_ne _ _ (Or.inl (lyx_ne hy (by decide) (by decide) (by decide)))]; exact e8017
          have e8047 : I8045 (ad g 6) 4 = v7804 := by rw [eI8045, pp_ne _ _ (Or.inl (lyx_ne hy (by decide) (by decide) (by decide)))]; exact e8018
          have e8048 : I8045 (ad g 44) 0 = v7811 := by rw [eI8045, pp_ne _ _ (Or.inr (by decide))]; exact e8019
          have e8049 : I8045 (ad g 44) 1 = v7817 := by rw [eI8045, pp_ne _ _ (Or.inr (by decide))]; exact e8020
          have e8050 : I8045 (ad g 44) 2 = v7824 := by rw [eI8045, pp_ne _ _ (Or.inr (by decide))]; exact e8021
          have e8051 : I8045 (ad g 44) 3 = v7837 := by rw [eI8045, pp_ne _ _ (Or.inr (by decide))]; exact e8022
          have e8052 : I8045 (ad g 44) 4 = v7976 := by rw [eI8045, pp_ne _ _ (Or.inr (by decide))]; exact e8023
          have e8053 : I8045 (ad g 44) 5 = v7817 := by rw [eI8045, pp_ne _ _ (Or.inr (by decide))]; exact e8024
          have e8054 : I8045 (ad g 44) 6 = v8000 := by rw [eI8045, pp_ne _ _ (Or.inr (by decide))]; exact e8025
          have e8055 : I8045 (ad g 44) 7 = v8015 := by rw [eI8045, pp_ne _ _ (Or.inr (by decide))]; exact e8026
          have e8056 : I8045 (ad g 44) 8 = v8044 := by rw [eI8045, pp_self]
          have fr8057 : fz 74 g [44] I I8045 := by rw [eI8045]; exact fzx_pp hy fr8027 (by decide) (by decide)
          clear eI8045
          exact WP_vret dX6_load_215 rfl ⟨⟨hI8045, rfl, fr8057, rfl, (by
                have yill : I (ad g (6 + 5)) so.toInt.toNat >>> (nI da.toInt.toNat &&& 31) &&& 1 = v7808 := by rw [show I (ad g (6 + 5)) so.toInt.toNat = v7805 from yv7805, show nI da.toInt.toNat = da from (eq32 _ _).mpr (by rw [nI_toInt (by omega)]; omega), xv7808, xv7806, (eq32 v7807 1).mpr hv7807]
                have yst : I (ad g 6) 4 = v7804 := est
                unfold LD
                simp only [e8048, e8049, e8050, e8051, e8052, e8053, e8054, e8055, yill, yst, show I (ad g (6 + 7)) _ = _ from yv7811, show I (ad g (6 + 8)) _ = _ from yv7817, show I (ad g (6 + 9)) _ = _ from yv7824, yv7837, true_and, and_true]
                omega)⟩, rfl⟩
    · refine WQ_iconst (0) (0) dX6_load_87 rfl rfl (fun v8058 hv8058 => ?_)
      refine WP_goto 105 dX6_load_88 rfl ?_
      refine WQ_puti dX6_load_105 fX6_48 rfl rfl (lyx_is hy 44 6 rfl) (fun I8059 eI8059 => ?_)
      have hI8059 : XI g n L I8059 := by rw [eI8059]; exact (xi_f hy hI7825 (c := 44) (0) (0) (20) (by decide) (Or.inl (by decide)) (by decide) (by omega) (by omega))
      have e8060 : I8059 (ad g 1) 1 = L := by rw [eI8059, pp_ne _ _ (Or.inl (lyx_ne hy (by decide) (by decide) (by decide)))]; exact e7826
      have e8061 : I8059 (ad g 6) 4 = v7804 := by rw [eI8059, pp_ne _ _ (Or.inl (lyx_ne hy (by decide) (by decide) (by decide)))]; exact e7827
      have e8062 : I8059 (ad g 44) 0 = v7811 := by rw [eI8059, pp_ne _ _ (Or.inr (by decide))]; exact e7828
      have e8063 : I8059 (ad g 44) 1 = v7817 := by rw [eI8059, pp_ne _ _ (Or.inr (by decide))]; exact e7829
      have e8064 : I8059 (ad g 44) 2 = v7824 := by rw [eI8059, pp_ne _ _ (Or.inr (by decide))]; exact e7830
      have e8065 : I8059 (ad g 44) 3 = v8058 := by rw [eI8059, pp_self]
      have fr8066 : fz 74 g [44] I I8059 := by rw [eI8059]; exact fzx_pp hy fr7831 (by decide) (by decide)
      clear eI8059
      refine WP_aload_n dX6_load_108 rfl ?_
      refine WP_iload dX6_load_109 rfl ?_
      refine WQ_iconst (-1) (-1) dX6_load_111 rfl rfl (fun v8067 hv8067 => ?_)
      refine WQ_icmp_ne 119 dX6_load_112 rfl (fun c8067 => ?_) (fun c8067 => ?_)
      · refine WP_aload_n dX6_load_119 rfl ?_
        refine WP_getr dX6_load_120 fX6_45 rfl (lyx_is hy 5 0 rfl) (rfx hr 5 1 22 (by decide)) ?_
        refine WP_iload dX6_load_123 rfl ?_
        refine WQ_bipush (7) (7) dX6_load_125 rfl rfl (fun v8069 hv8069 => ?_)
        refine WQ_imulk (7) dX6_load_127 hv8069 (by omega) (by omega) (fun v8070 hv8070 => ?_)
        refine WP_iload_n dX6_load_128 rfl ?_
        refine WQ_iadd dX6_load_129 (by omega) (by omega) (fun v8071 hv8071 => ?_)
        refine WQ_ialdb dX6_load_130 (lyx_is hy 22 13 rfl) (lyx_n hy 22 21 rfl) (by omega) (by omega) (fun q hq => BT_get hI8059.1 22 0 21 (0) (0) (20) (by decide) q (Nat.zero_le _) hq) (fun v8072 av8072 bv8072 zv8072 => ?_)
        have yv8072 : I (ad g 22) (7 * v7804.toInt + da.toInt).toNat = v8072 := by rw [← fz_at fr8066 22 (by decide) (by decide), show (7 * v7804.toInt + da.toInt).toNat = v8071.toInt.toNat by omega]; exact zv8072
        refine WQ_puti dX6_load_131 fX6_51 rfl rfl (lyx_is hy 44 6 rfl) (fun I8073 eI8073 => ?_)
        have hI8073 : XI g n L I8073 := by rw [eI8073]; exact (xi_f hy hI8059 (c := 44) (0) (0) (20) (by decide) (Or.inl (by decide)) (by decide) (by omega) (by omega))
        have e8074 : I8073 (ad g 1) 1 = L := by rw [eI8073, pp_ne _ _ (Or.inl (lyx_ne hy (by decide) (by decide) (by decide)))]; exact e8060
        have e8075 : I8073 (ad g 6) 4 = v7804 := by rw [eI8073, pp_ne _ _ (Or.inl (lyx_ne hy (by decide) (by decide) (by decide)))]; exact e8061
        have e8076 : I8073 (ad g 44) 0 = v7811 := by rw [eI8073, pp_ne _ _ (Or.inr (by decide))]; exact e8062
        have e8077 : I8073 (ad g 44) 1 = v7817 := by rw [eI8073, pp_ne _ _ (Or.inr (by decide))]; exact e8063
        have e8078 : I8073 (ad g 44) 2 = v7824 := by rw [eI8073, pp_ne _ _ (Or.inr (by decide))]; exact e8064
        have e8079 : I8073 (ad g 44) 3 = v8058 := by rw [eI8073, pp_ne _ _ (Or.inr (by decide))]; exact e8065
        have e8080 : I8073 (ad g 44) 4 = v8072 := by rw [eI8073, pp_self]
        have fr8081 : fz 74 g [44] I I8073 := by rw [eI8073]; exact fzx_pp hy fr8066 (by decide) (by decide)
        clear eI8073
        refine WP_aload_n dX6_load_134 rfl ?_
        refine WP_iload dX6_load_135 rfl ?_
        refine WQ_if_eq 144 dX6_load_137 rfl (fun c8081 => ?_) (fun c8081 => False.elim (by omega))
        refine WP_aload_n dX6_load_144 rfl ?_
        refine WQ_getim dX6_load_145 fX6_36 rfl (lyx_is hy 44 6 rfl) e8077 ?_
        refine WQ_puti dX6_load_148 fX6_54 rfl rfl (lyx_is hy 44 6 rfl) (fun I8083 eI8083 => ?_)
        have hI8083 : XI g n L I8083 := by rw [eI8083]; exact (xi_f hy hI8073 (c := 44) (0) (0) (3) (by decide) (Or.inl (by decide)) (by decide) (by omega) (by omega))
        have e8084 : I8083 (ad g 1) 1 = L := by rw [eI8083, pp_ne _ _ (Or.inl (lyx_ne hy (by decide) (by decide) (by decide)))]; exact e8074
        have e8085 : I8083 (ad g 6) 4 = v7804 := by rw [eI8083, pp_ne _ _ (Or.inl (lyx_ne hy (by decide) (by decide) (by decide)))]; exact e8075
        have e8086 : I8083 (ad g 44) 0 = v7811 := by rw [eI8083, pp_ne _ _ (Or.inr (by decide))]; exact e8076
        have e8087 : I8083 (ad g 44) 1 = v7817 := by rw [eI8083, pp_ne _ _ (Or.inr (by decide))]; exact e8077
        have e8088 : I8083 (ad g 44) 2 = v7824 := by rw [eI8083, pp_ne _ _ (Or.inr (by decide))]; exact e8078
        have e8089 : I8083 (ad g 44) 3 = v8058 := by rw [eI8083, pp_ne _ _ (Or.inr (by decide))]; exact e8079
        have e8090 : I8083 (ad g 44) 4 = v8072 := by rw [eI8083, pp_ne _ _ (Or.inr (by decide))]; exact e8080
        have e8091 : I8083 (ad g 44) 5 = v7817 := by rw [eI8083, pp_self]
        have fr8092 : fz 74 g [44] I I8083 := by rw [eI8083]; exact fzx_pp hy fr8081 (by decide) (by decide)
        clear eI8083
        refine WP_aload_n dX6_load_151 rfl ?_
        refine WP_iload dX6_load_152 rfl ?_
        refine WQ_if_ne 163 dX6_load_154 rfl (fun c8092 => False.elim (by omega)) (fun c8092 => ?_)
        refine WP_iload dX6_load_157 rfl ?_
        refine WQ_iconst (-1) (-1) dX6_load_159 rfl rfl (fun v8094 hv8094 => ?_)
        refine WQ_icmp_ne 167 dX6_load_160 rfl (fun c8094 => ?_) (fun c8094 => False.elim (by omega))
        refine WQ_iconst (2) (2) dX6_load_167 rfl rfl (fun v8096 hv8096 => ?_)
        refine WQ_puti dX6_load_168 fX6_57 rfl rfl (lyx_is hy 44 6 rfl) (fun I8097 eI8097 => ?_)
        have hI8097 : XI g n L I8097 := by rw [eI8097]; exact (xi_f hy hI8083 (c := 44) (0) (0) (2) (by decide) (Or.inl (by decide)) (by decide) (by omega) (by omega))
        have e8098 : I8097 (ad g 1) 1 = L := by rw [eI8097, pp_ne _ _ (Or.inl (lyx_ne hy (by decide) (by decide) (by decide)))]; exact e8084
        have e8099 : I8097 (ad g 6) 4 = v7804 := by rw [eI8097, pp_ne _ _ (Or.inl (lyx_ne hy (by decide) (by decide) (by decide)))]; exact e8085
        have e8100 : I8097 (ad g 44) 0 = v7811 := by rw [eI8097, pp_ne _ _ (Or.inr (by decide))]; exact e8086
        have e8101 : I8097 (ad g 44) 1 = v7817 := by rw [eI8097, pp_ne _ _ (Or.inr (by decide))]; exact e8087
        have e8102 : I8097 (ad g 44) 2 = v7824 := by rw [eI8097, pp_ne _ _ (Or.inr (by decide))]; exact e8088
        have e8103 : I8097 (ad g 44) 3 = v8058 := by rw [eI8097, pp_ne _ _ (Or.inr (by decide))]; exact e8089
        have e8104 : I8097 (ad g 44) 4 = v8072 := by rw [eI8097, pp_ne _ _ (Or.inr (by decide))]; exact e8090
        have e8105 : I8097 (ad g 44) 5 = v7817 := by rw [eI8097, pp_ne _ _ (Or.inr (by decide))]; exact e8091
        have e8106 : I8097 (ad g 44) 6 = v8096 := by rw [eI8097, pp_self]
        have fr8107 : fz 74 g [44] I I8097 := by rw [eI8097]; exact fzx_pp hy fr8092 (by decide) (by decide)
        clear eI8097
        refine WP_aload_n dX6_load_171 rfl ?_
        refine WP_aload_n dX6_load_172 rfl ?_
        refine WQ_getim dX6_load_173 fX6_9 rfl (lyx_is hy 44 6 rfl) e8100 ?_
        refine WQ_iconst (-1) (-1) dX6_load_176 rfl rfl (fun v8108 hv8108 => ?_)
        refine WQ_icmp_eq 193 dX6_load_177 rfl (fun c8108 => ?_) (fun c8108 => False.elim (by omega))
        refine WQ_iconst (0) (0) dX6_load_193 rfl rfl (fun v8110 hv8110 => ?_)
        refine WQ_putz dX6_load_194 fX6_60 rfl rfl (by omega) (lyx_is hy 44 6 rfl) (fun I8111 eI8111 => ?_)
        have hI8111 : XI g n L I8111 := by rw [eI8111]; exact (xi_f hy hI8097 (c := 44) (0) (0) (1) (by decide) (Or.inl (by decide)) (by decide) (by omega) (by omega))
        have e8112 : I8111 (ad g 1) 1 = L := by rw [eI8111, pp_ne _ _ (Or.inl (lyx_ne hy (by decide) (by decide) (by decide)))]; exact e8098
        have e8113 : I8111 (ad g 6) 4 = v7804 := by rw [eI8111, pp_ne _ _ (Or.inl (lyx_ne hy (by decide) (by decide) (by decide)))]; exact e8099
        have e8114 : I8111 (ad g 44) 0 = v7811 := by rw [eI8111, pp_ne _ _ (Or.inr (by decide))]; exact e8100
        have e8115 : I8111 (ad g 44) 1 = v7817 := by rw [eI8111, pp_ne _ _ (Or.inr (by decide))]; exact e8101
        have e8116 : I8111 (ad g 44) 2 = v7824 := by rw [eI8111, pp_ne _ _ (Or.inr (by decide))]; exact e8102
        have e8117 : I8111 (ad g 44) 3 = v8058 := by rw [eI8111, pp_ne _ _ (Or.inr (by decide))]; exact e8103
        have e8118 : I8111 (ad g 44) 4 = v8072 := by rw [eI8111, pp_ne _ _ (Or.inr (by decide))]; exact e8104
        have e8119 : I8111 (ad g 44) 5 = v7817 := by rw [eI8111, pp_ne _ _ (Or.inr (by decide))]; exact e8105
        have e8120 : I8111 (ad g 44) 6 = v8096 := by rw [eI8111, pp_ne _ _ (Or.inr (by decide))]; exact e8106
        have e8121 : I8111 (ad g 44) 7 = v8110 := by rw [eI8111, pp_self]
        have fr8122 : fz 74 g [44] I I8111 := by rw [eI8111]; exact fzx_pp hy fr8107 (by decide) (by decide)
        clear eI8111
        refine WP_aload_n dX6_load_197 rfl ?_
        refine WP_aload_n dX6_load_198 rfl ?_
        refine WP_getr dX6_load_199 fX6_64 rfl (lyx_is hy 5 0 rfl) (rfx hr 5 2 23 (by decide)) ?_
        refine WP_iload_n dX6_load_202 rfl ?_
        refine WQ_iald dX6_load_203 (lyx_is hy 23 13 rfl) (lyx_n hy 23 7 rfl) (by omega) (by omega) (fun q hq => BT_get hI8111.1 23 0 7 (0) (0) (900) (by decide) q (Nat.zero_le _) hq) (fun v8123 av8123 bv8123 ev8123 => ?_)
        clear ev8123
        refine WQ_if_le 211 dX6_load_204 rfl (fun c8123 => ?_) (fun c8123 => ?_)
        · refine WQ_iconst (0) (0) dX6_load_211 rfl rfl (fun v8125 hv8125 => ?_)
          refine WQ_putz dX6_load_212 fX6_67 rfl rfl (by omega) (lyx_is hy 44 6 rfl) (fun I8126 eI8126 => ?_)
          have hI8126 : XI g n L I8126 := by rw [eI8126]; exact (xi_f hy hI8111 (c := 44) (0) (0) (1) (by decide) (Or.inl (by decide)) (by decide) (by omega) (by omega))
          have e8127 : I8126 (ad g 1) 1 = L := by rw [eI8126, pp_ne _ _ (Or.inl (lyx_ne hy (by decide) (by decide) (by decide)))]; exact e8112
          have e8128 : I8126 (ad g 6) 4 = v7804 := by rw [eI8126, pp_ne _ _ (Or.inl (lyx_ne hy (by decide) (by decide) (by decide)))]; exact e8113
          have e8129 : I8126 (ad g 44) 0 = v7811 := by rw [eI8126, pp_ne _ _ (Or.inr (by decide))]; exact e8114
          have e8130 : I8126 (ad g 44) 1 = v7817 := by rw [eI8126, pp_ne _ _ (Or.inr (by decide))]; exact e8115
          have e8131 : I8126 (ad g 44) 2 = v7824 := by rw [eI8126, pp_ne _ _ (Or.inr (by decide))]; exact e8116
          have e8132 : I8126 (ad g 44) 3 = v8058 := by rw [eI8126, pp_ne _ _ (Or.inr (by decide))]; exact e8117
          have e8133 : I8126 (ad g 44) 4 = v8072 := by rw [eI8126, pp_ne _ _ (Or.inr (by decide))]; exact e8118
          have e8134 : I8126 (ad g 44) 5 = v7817 := by rw [eI8126, pp_ne _ _ (Or.inr (by decide))]; exact e8119
          have e8135 : I8126 (ad g 44) 6 = v8096 := by rw [eI8126, pp_ne _ _ (Or.inr (by decide))]; exact e8120
          have e8136 : I8126 (ad g 44) 7 = v8110 := by rw [eI8126, pp_ne _ _ (Or.inr (by decide))]; exact e8121
          have e8137 : I8126 (ad g 44) 8 = v8125 := by rw [eI8126, pp_self]
          have fr8138 : fz 74 g [44] I I8126 := by rw [eI8126]; exact fzx_pp hy fr8122 (by decide) (by decide)
          clear eI8126
          exact WP_vret dX6_load_215 rfl ⟨⟨hI8126, rfl, fr8138, rfl, (by
                have yill : I (ad g (6 + 5)) so.toInt.toNat >>> (nI da.toInt.toNat &&& 31) &&& 1 = v7808 := by rw [show I (ad g (6 + 5)) so.toInt.toNat = v7805 from yv7805, show nI da.toInt.toNat = da from (eq32 _ _).mpr (by rw [nI_toInt (by omega)]; omega), xv7808, xv7806, (eq32 v7807 1).mpr hv7807]
                have yst : I (ad g 6) 4 = v7804 := est
                unfold LD
                simp only [e8129, e8130, e8131, e8132, e8133, e8134, e8135, e8136, yill, yst, show I (ad g (6 + 7)) _ = _ from yv7811, show I (ad g (6 + 8)) _ = _ from yv7817, show I (ad g (6 + 9)) _ = _ from yv7824, yv8072, true_and, and_true]
                omega)⟩, rfl⟩
        · refine WQ_iconst (1) (1) dX6_load_207 rfl rfl (fun v8139 hv8139 => ?_)
          refine WP_goto 212 dX6_load_208 rfl ?_
          refine WQ_putz dX6_load_212 fX6_67 rfl rfl (by omega) (lyx_is hy 44 6 rfl) (fun I8140 eI8140 => ?_)
          have hI8140 : XI g n L I8140 := by rw [eI8140]; exact (xi_f hy hI8111 (c := 44) (0) (0) (1) (by decide) (Or.inl (by decide)) (by decide) (by omega) (by omega))
          have e8141 : I8140 (ad g 1) 1 = L := by rw [eI8140, pp_ne _ _ (Or.inl (lyx_ne hy (by decide) (by decide) (by decide)))]; exact e8112
          have e8142 : I8140 (ad g 6) 4 = v7804 := by rw [eI8140, pp_ne _ _ (Or.inl (lyx_ne hy (by decide) (by decide) (by decide)))]; exact e8113
          have e8143 : I8140 (ad g 44) 0 = v7811 := by rw [eI8140, pp_ne _ _ (Or.inr (by decide))]; exact e8114
          have e8144 : I8140 (ad g 44) 1 = v7817 := by rw [eI8140, pp_ne _ _ (Or.inr (by decide))]; exact e8115
          have e8145 : I8140 (ad g 44) 2 = v7824 := by rw [eI8140, pp_ne _ _ (Or.inr (by decide))]; exact e8116
          have e8146 : I8140 (ad g 44) 3 = v8058 := by rw [eI8140, pp_ne _ _ (Or.inr (by decide))]; exact e8117
          have e8147 : I8140 (ad g 44) 4 = v8072 := by rw [eI8140, pp_ne _ _ (Or.inr (by decide))]; exact e8118
          have e8148 : I8140 (ad g 44) 5 = v7817 := by rw [eI8140, pp_ne _ _ (Or.inr (by decide))]; exact e8119
          have e8149 : I8140 (ad g 44) 6 = v8096 := by rw [eI8140, pp_ne _ _ (Or.inr (by decide))]; exact e8120
          have e8150 : I8140 (ad g 44) 7 = v8110 := by rw [eI8140, pp_ne _ _ (Or.inr (by decide))]; exact e8121
          have e8151 : I8140 (ad g 44) 8 = v8139 := by rw [eI8140, pp_self]
          have fr8152 : fz 74 g [44] I I8140 := by rw [eI8140]; exact fzx_pp hy fr8122 (by decide) (by decide)
          clear eI8140
          exact WP_vret dX6_load_215 rfl ⟨⟨hI8140, rfl, fr8152, rfl, (by
                have yill : I (ad g (6 + 5)) so.toInt.toNat >>> (nI da.toInt.toNat &&& 31) &&& 1 = v7808 := by rw [show I (ad g (6 + 5)) so.toInt.toNat = v7805 from yv7805, show nI da.toInt.toNat = da from (eq32 _ _).mpr (by rw [nI_toInt (by omega)]; omega), xv7808, xv7806, (eq32 v7807 1).mpr hv7807]
                have yst : I (ad g 6) 4 = v7804 := est
                unfold LD
                simp only [e8143, e8144, e8145, e8146, e8147, e8148, e8149, e8150, yill, yst, show I (ad g (6 + 7)) _ = _ from yv7811, show I (ad g (6 + 8)) _ = _ from yv7817, show I (ad g (6 + 9)) _ = _ from yv7824, yv8072, true_and, and_true]
                omega)⟩, rfl⟩
      · refine WQ_iconst (0) (0) dX6_load_115 rfl rfl (fun v8153 hv8153 => ?_)
        refine WP_goto 131 dX6_load_116 rfl ?_
        refine WQ_puti dX6_load_131 fX6_51 rfl rfl (lyx_is hy 44 6 rfl) (fun I8154 eI8154 => ?_)
        have hI8154 : XI g n L I8154 := by rw [eI8154]; exact (xi_f hy hI8059 (c := 44) (0) (0) (20) (by decide) (Or.inl (by decide)) (by decide) (by omega) (by omega))
        have e8155 : I8154 (ad g 1) 1 = L := by rw [eI8154, pp_ne _ _ (Or.inl (lyx_ne hy (by decide) (by decide) (by decide)))]; exact e8060
        have e8156 : I8154 (ad g 6) 4 = v7804 := by rw [eI8154, pp_ne _ _ (Or.inl (lyx_ne hy (by decide) (by decide) (by decide)))]; exact e8061
        have e8157 : I8154 (ad g 44) 0 = v7811 := by rw [eI8154, pp_ne _ _ (Or.inr (by decide))]; exact e8062
        have e8158 : I8154 (ad g 44) 1 = v7817 := by rw [eI8154, pp_ne _ _ (Or.inr (by decide))]; exact e8063
        have e8159 : I8154 (ad g 44) 2 = v7824 := by rw [eI8154, pp_ne _ _ (Or.inr (by decide))]; exact e8064
        have e8160 : I8154 (ad g 44) 3 = v8058 := by rw [eI8154, pp_ne _ _ (Or.inr (by decide))]; exact e8065
        have e8161 : I8154 (ad g 44) 4 = v8153 := by rw [eI8154, pp_self]
        have fr8162 : fz 74 g [44] I I8154 := by rw [eI8154]; exact fzx_pp hy fr8066 (by decide) (by decide)
        clear eI8154
        refine WP_aload_n dX6_load_134 rfl ?_
        refine WP_iload dX6_load_135 rfl ?_
        refine WQ_if_eq 144 dX6_load_137 rfl (fun c8162 => ?_) (fun c8162 => False.elim (by omega))
        refine WP_aload_n dX6_load_144 rfl ?_
        refine WQ_getim dX6_load_145 fX6_36 rfl (lyx_is hy 44 6 rfl) e8158 ?_
        refine WQ_puti dX6_load_148 fX6_54 rfl rfl (lyx_is hy 44 6 rfl) (fun I8164 eI8164 => ?_)
        have hI8164 : XI g n L I8164 := by rw [eI8164]; exact (xi_f hy hI8154 (c := 44) (0) (0) (3) (by decide) (Or.inl (by decide)) (by decide) (by omega) (by omega))
        have e8165 : I8164 (ad g 1) 1 = L := by rw [eI8164, pp_ne _ _ (Or.inl (lyx_ne hy (by decide) (by decide) (by decide)))]; exact e8155
        have e8166 : I8164 (ad g 6) 4 = v7804 := by rw [eI8164, pp_ne _ _ (Or.inl (lyx_ne hy (by decide) (by decide) (by decide)))]; exact e8156
        have e8167 : I8164 (ad g 44) 0 = v7811 := by rw [eI8164, pp_ne _ _ (Or.inr (by decide))]; exact e8157
        have e8168 : I8164 (ad g 44) 1 = v7817 := by rw [eI8164, pp_ne _ _ (Or.inr (by decide))]; exact e8158
        have e8169 : I8164 (ad g 44) 2 = v7824 := by rw [eI8164, pp_ne _ _ (Or.inr (by decide))]; exact e8159
        have e8170 : I8164 (ad g 44) 3 = v8058 := by rw [eI8164, pp_ne _ _ (Or.inr (by decide))]; exact e8160
        have e8171 : I8164 (ad g 44) 4 = v8153 := by rw [eI8164, pp_ne _ _ (Or.inr (by decide))]; exact e8161
        have e8172 : I8164 (ad g 44) 5 = v7817 := by rw [eI8164, pp_self]
        have fr8173 : fz 74 g [44] I I8164 := by rw [eI8164]; exact fzx_pp hy fr8162 (by decide) (by decide)
        clear eI8164
        refine WP_aload_n dX6_load_151 rfl ?_
        refine WP_iload dX6_load_152 rfl ?_
        refine WQ_if_ne 163 dX6_load_154 rfl (fun c8173 => False.elim (by omega)) (fun c8173 => ?_)
        refine WP_iload dX6_load_157 rfl ?_
        refine WQ_iconst (-1) (-1) dX6_load_159 rfl rfl (fun v8175 hv8175 => ?_)
        refine WQ_icmp_ne 167 dX6_load_160 rfl (fun c8175 => False.elim (by omega)) (fun c8175 => ?_)
        refine WQ_iconst (0) (0) dX6_load_163 rfl rfl (fun v8177 hv8177 => ?_)
        refine WP_goto 168 dX6_load_164 rfl ?_
        refine WQ_puti dX6_load_168 fX6_57 rfl rfl (lyx_is hy 44 6 rfl) (fun I8178 eI8178 => ?_)
        have hI8178 : XI g n L I8178 := by rw [eI8178]; exact (xi_f hy hI8164 (c := 44) (0) (0) (2) (by decide) (Or.inl (by decide)) (by decide) (by omega) (by omega))
        have e8179 : I8178 (ad g 1) 1 = L := by rw [eI8178, pp_ne _ _ (Or.inl (lyx_ne hy (by decide) (by decide) (by decide)))]; exact e8165
        have e8180 : I8178 (ad g 6) 4 = v7804 := by rw [eI8178, pp_ne _ _ (Or.inl (lyx_ne hy (by decide) (by decide) (by decide)))]; exact e8166
        have e8181 : I8178 (ad g 44) 0 = v7811 := by rw [eI8178, pp_ne _ _ (Or.inr (by decide))]; exact e8167
        have e8182 : I8178 (ad g 44) 1 = v7817 := by rw [eI8178, pp_ne _ _ (Or.inr (by decide))]; exact e8168
        have e8183 : I8178 (ad g 44) 2 = v7824 := by rw [eI8178, pp_ne _ _ (Or.inr (by decide))]; exact e8169
        have e8184 : I8178 (ad g 44) 3 = v8058 := by rw [eI8178, pp_ne _ _ (Or.inr (by decide))]; exact e8170
        have e8185 : I8178 (ad g 44) 4 = v8153 := by rw [eI8178, pp_ne _ _ (Or.inr (by decide))]; exact e8171
        have e8186 : I8178 (ad g 44) 5 = v7817 := by rw [eI8178, pp_ne _ _ (Or.inr (by decide))]; exact e8172
        have e8187 : I8178 (ad g 44) 6 = v8177 := by rw [eI8178, pp_self]
        have fr8188 : fz 74 g [44] I I8178 := by rw [eI8178]; exact fzx_pp hy fr8173 (by decide) (by decide)
        clear eI8178
        refine WP_aload_n dX6_load_171 rfl ?_
        refine WP_aload_n dX6_load_172 rfl ?_
        refine WQ_getim dX6_load_173 fX6_9 rfl (lyx_is hy 44 6 rfl) e8181 ?_
        refine WQ_iconst (-1) (-1) dX6_load_176 rfl rfl (fun v8189 hv8189 => ?_)
        refine WQ_icmp_eq 193 dX6_load_177 rfl (fun c8189 => ?_) (fun c8189 => False.elim (by omega))
        refine WQ_iconst (0) (0) dX6_load_193 rfl rfl (fun v8191 hv8191 => ?_)
        refine WQ_putz dX6_load_194 fX6_60 rfl rfl (by omega) (lyx_is hy 44 6 rfl) (fun I8192 eI8192 => ?_)
        have hI8192 : XI g n L I8192 := by rw [eI8192]; exact (xi_f hy hI8178 (c := 44) (0) (0) (1) (by decide) (Or.inl (by decide)) (by decide) (by omega) (by omega))
        have e8193 : I8192 (ad g 1) 1 = L := by rw [eI8192, pp_ne _ _ (Or.inl (lyx_ne hy (by decide) (by decide) (by decide)))]; exact e8179
        have e8194 : I8192 (ad g 6) 4 = v7804 := by rw [eI8192, pp_ne _ _ (Or.inl (lyx_ne hy (by decide) (by decide) (by decide)))]; exact e8180
        have e8195 : I8192 (ad g 44) 0 = v7811 := by rw [eI8192, pp_ne _ _ (Or.inr (by decide))]; exact e8181
        have e8196 : I8192 (ad g 44) 1 = v7817 := by rw [eI8192, pp_ne _ _ (Or.inr (by decide))]; exact e8182
        have e8197 : I8192 (ad g 44) 2 = v7824 := by rw [eI8192, pp_ne _ _ (Or.inr (by decide))]; exact e8183
        have e8198 : I8192 (ad g 44) 3 = v8058 := by rw [eI8192, pp_ne _ _ (Or.inr (by decide))]; exact e8184
        have e8199 : I8192 (ad g 44) 4 = v8153 := by rw [eI8192, pp_ne _ _ (Or.inr (by decide))]; exact e8185
        have e8200 : I8192 (ad g 44) 5 = v7817 := by rw [eI8192, pp_ne _ _ (Or.inr (by decide))]; exact e8186
        have e8201 : I8192 (ad g 44) 6 = v8177 := by rw [eI8192, pp_ne _ _ (Or.inr (by decide))]; exact e8187
        have e8202 : I8192 (ad g 44) 7 = v8191 := by rw [eI8192, pp_self]
        have fr8203 : fz 74 g [44] I I8192 := by rw [eI8192]; exact fzx_pp hy fr8188 (by decide) (by decide)
        clear eI8192
        refine WP_aload_n dX6_load_197 rfl ?_
        refine WP_aload_n dX6_load_198 rfl ?_
        refine WP_getr dX6_load_199 fX6_64 rfl (lyx_is hy 5 0 rfl) (rfx hr 5 2 23 (by decide)) ?_
        refine WP_iload_n dX6_load_202 rfl ?_
        refine WQ_iald dX6_load_203 (lyx_is hy 23 13 rfl) (lyx_n hy 23 7 rfl) (by omega) (by omega) (fun q hq => BT_get hI8192.1 23 0 7 (0) (0) (900) (by decide) q (Nat.zero_le _) hq) (fun v8204 av8204 bv8204 ev8204 => ?_)
        clear ev8204
        refine WQ_if_le 211 dX6_load_204 rfl (fun c8204 => ?_) (fun c8204 => ?_)
        · refine WQ_iconst (0) (0) dX6_load_211 rfl rfl (fun v8206 hv8206 => ?_)
          refine WQ_putz dX6_load_212 fX6_67 rfl rfl (by omega) (lyx_is hy 44 6 rfl) (fun I8207 eI8207 => ?_)
          have hI8207 : XI g n L I8207 := by rw [eI8207]; exact (xi_f hy hI8192 (c := 44) (0) (0) (1) (by decide) (Or.inl (by decide)) (by decide) (by omega) (by omega))
          have e8208 : I8207 (ad g 1) 1 = L := by rw [eI8207, pp_ne _ _ (Or.inl (lyx_ne hy (by decide) (by decide) (by decide)))]; exact e8193
          have e8209 : I8207 (ad g 6) 4 = v7804 := by rw [eI8207, pp_ne _ _ (Or.inl (lyx_ne hy (by decide) (by decide) (by decide)))]; exact e8194
          have e8210 : I8207 (ad g 44) 0 = v7811 := by rw [eI8207, pp_ne _ _ (Or.inr (by decide))]; exact e8195
          have e8211 : I8207 (ad g 44) 1 = v7817 := by rw [eI8207, pp_ne _ _ (Or.inr (by decide))]; exact e8196
          have e8212 : I8207 (ad g 44) 2 = v7824 := by rw [eI8207, pp_ne _ _ (Or.inr (by decide))]; exact e8197
          have e8213 : I8207 (ad g 44) 3 = v8058 := by rw [eI8207, pp_ne _ _ (Or.inr (by decide))]; exact e8198
          have e8214 : I8207 (ad g 44) 4 = v8153 := by rw [eI8207, pp_ne _ _ (Or.inr (by decide))]; exact e8199
          have e8215 : I8207 (ad g 44) 5 = v7817 := by rw [eI8207, pp_ne _ _ (Or.inr (by decide))]; exact e8200
          have e8216 : I8207 (ad g 44) 6 = v8177 := by rw [eI8207, pp_ne _ _ (Or.inr (by decide))]; exact e8201
          have e8217 : I8207 (ad g 44) 7 = v8191 := by rw [eI8207, pp_ne _ _ (Or.inr (by decide))]; exact e8202
          have e8218 : I8207 (ad g 44) 8 = v8206 := by rw [eI8207, pp_self]
          have fr8219 : fz 74 g [44] I I8207 := by rw [eI8207]; exact fzx_pp hy fr8203 (by decide) (by decide)
          clear eI8207
          exact WP_vret dX6_load_215 rfl ⟨⟨hI8207, rfl, fr8219, rfl, (by
                have yill : I (ad g (6 + 5)) so.toInt.toNat >>> (nI da.toInt.toNat &&& 31) &&& 1 = v7808 := by rw [show I (ad g (6 + 5)) so.toInt.toNat = v7805 from yv7805, show nI da.toInt.toNat = da from (eq32 _ _).mpr (by rw [nI_toInt (by omega)]; omega), xv7808, xv7806, (eq32 v7807 1).mpr hv7807]
                have yst : I (ad g 6) 4 = v7804 := est
                unfold LD
                simp only [e8210, e8211, e8212, e8213, e8214, e8215, e8216, e8217, yill, yst, show I (ad g (6 + 7)) _ = _ from yv7811, show I (ad g (6 + 8)) _ = _ from yv7817, show I (ad g (6 + 9)) _ = _ from yv7824, true_and, and_true]
                omega)⟩, rfl⟩
        · refine WQ_iconst (1) (1) dX6_load_207 rfl rfl (fun v8220 hv8220 => ?_)
          refine WP_goto 212 dX6_load_208 rfl ?_
          refine WQ_putz dX6_load_212 fX6_67 rfl rfl (by omega) (lyx_is hy 44 6 rfl) (fun I8221 eI8221 => ?_)
          have hI8221 : XI g n L I8221 := by rw [eI8221]; exact (xi_f hy hI8192 (c := 44) (0) (0) (1) (by decide) (Or.inl (by decide)) (by decide) (by omega) (by omega))
          have e8222 : I8221 (ad g 1) 1 = L := by rw [eI8221, pp_ne _ _ (Or.inl (lyx_ne hy (by decide) (by decide) (by decide)))]; exact e8193
          have e8223 : I8221 (ad g 6) 4 = v7804 := by rw [eI8221, pp_ne _ _ (Or.inl (lyx_ne hy (by decide) (by decide) (by decide)))]; exact e8194
          have e8224 : I8221 (ad g 44) 0 = v7811 := by rw [eI8221, pp_ne _ _ (Or.inr (by decide))]; exact e8195
          have e8225 : I8221 (ad g 44) 1 = v7817 := by rw [eI8221, pp_ne _ _ (Or.inr (by decide))]; exact e8196
          have e8226 : I8221 (ad g 44) 2 = v7824 := by rw [eI8221, pp_ne _ _ (Or.inr (by decide))]; exact e8197
          have e8227 : I8221 (ad g 44) 3 = v8058 := by rw [eI8221, pp_ne _ _ (Or.inr (by decide))]; exact e8198
          have e8228 : I8221 (ad g 44) 4 = v8153 := by rw [eI8221, pp_ne _ _ (Or.inr (by decide))]; exact e8199
          have e8229 : I8221 (ad g 44) 5 = v7817 := by rw [eI8221, pp_ne _ _ (Or.inr (by decide))]; exact e8200
          have e8230 : I8221 (ad g 44) 6 = v8177 := by rw [eI8221, pp_ne _ _ (Or.inr (by decide))]; exact e8201
          have e8231 : I8221 (ad g 44) 7 = v8191 := by rw [eI8221, pp_ne _ _ (Or.inr (by decide))]; exact e8202
          have e8232 : I8221 (ad g 44) 8 = v8220 := by rw [eI8221, pp_self]
          have fr8233 : fz 74 g [44] I I8221 := by rw [eI8221]; exact fzx_pp hy fr8203 (by decide) (by decide)
          clear eI8221
          exact WP_vret dX6_load_215 rfl ⟨⟨hI8221, rfl, fr8233, rfl, (by
                have yill : I (ad g (6 + 5)) so.toInt.toNat >>> (nI da.toInt.toNat &&& 31) &&& 1 = v7808 := by rw [show I (ad g (6 + 5)) so.toInt.toNat = v7805 from yv7805, show nI da.toInt.toNat = da from (eq32 _ _).mpr (by rw [nI_toInt (by omega)]; omega), xv7808, xv7806, (eq32 v7807 1).mpr hv7807]
                have yst : I (ad g 6) 4 = v7804 := est
                unfold LD
                simp only [e8224, e8225, e8226, e8227, e8228, e8229, e8230, e8231, yill, yst, show I (ad g (6 + 7)) _ = _ from yv7811, show I (ad g (6 + 8)) _ = _ from yv7817, show I (ad g (6 + 9)) _ = _ from yv7824, true_and, and_true]
                omega)⟩, rfl⟩
  · refine WQ_iconst (1) (1) dX6_load_35 rfl rfl (fun v8234 hv8234 => ?_)
    refine WP_goto 40 dX6_load_36 rfl ?_
    refine WP_istore (ls' := [(0, _), (1, _), (2, _), (3, _), (4, _), (5, _), (6, _), (7, _)]) dX6_load_40 (by decide) rfl ?_
    refine WP_aload_n dX6_load_42 rfl ?_
    refine WP_aload dX6_load_43 rfl ?_
    refine WP_getr dX6_load_45 fX6_30 rfl (lyx_is hy 6 7 rfl) (rfx hr 6 11 13 (by decide)) ?_
    refine WP_iload dX6_load_48 rfl ?_
    refine WQ_ialdb dX6_load_50 (lyx_is hy 13 13 rfl) (lyx_n hy 13 28 rfl) (by omega) (by omega) (fun q hq => BT_get hI.1 13 0 28 (-1) (0) (2) (by decide) q (Nat.zero_le _) hq) (fun v8235 av8235 bv8235 zv8235 => ?_)
    have yv8235 : I (ad g 13) (7 * so.toInt + da.toInt).toNat = v8235 := by rw [← fz_at fr0 13 (by decide) (by decide), show (7 * so.toInt + da.toInt).toNat = v7803.toInt.toNat by omega]; exact zv8235
    refine WQ_puti dX6_load_51 fX6_9 rfl rfl (lyx_is hy 44 6 rfl) (fun I8236 eI8236 => ?_)
    have hI8236 : XI g n L I8236 := by rw [eI8236]; exact (xi_f hy hI (c := 44) (-1) (0) (2) (by decide) (Or.inl (by decide)) (by decide) (by omega) (by omega))
    have e8237 : I8236 (ad g 1) 1 = L := by rw [eI8236, pp_ne _ _ (Or.inl (lyx_ne hy (by decide) (by decide) (by decide)))]; exact e7799
    have e8238 : I8236 (ad g 6) 4 = v7804 := by rw [eI8236, pp_ne _ _ (Or.inl (lyx_ne hy (by decide) (by decide) (by decide)))]; exact ev7804
    have e8239 : I8236 (ad g 44) 0 = v8235 := by rw [eI8236, pp_self]
    have fr8240 : fz 74 g [44] I I8236 := by rw [eI8236]; exact fzx_pp hy fr0 (by decide) (by decide)
    clear eI8236
    refine WP_aload_n dX6_load_54 rfl ?_
    refine WP_aload dX6_load_55 rfl ?_
    refine WP_getr dX6_load_57 fX6_33 rfl (lyx_is hy 6 7 rfl) (rfx hr 6 12 14 (by decide)) ?_
    refine WP_iload dX6_load_60 rfl ?_
    refine WQ_ialdb dX6_load_62 (lyx_is hy 14 13 rfl) (lyx_n hy 14 28 rfl) (by omega) (by omega) (fun q hq => BT_get hI8236.1 14 0 28 (0) (0) (3) (by decide) q (Nat.zero_le _) hq) (fun v8241 av8241 bv8241 zv8241 => ?_)
    have yv8241 : I (ad g 14) (7 * so.toInt + da.toInt).toNat = v8241 := by rw [← fz_at fr8240 14 (by decide) (by decide), show (7 * so.toInt + da.toInt).toNat = v7803.toInt.toNat by omega]; exact zv8241
    refine WQ_puti dX6_load_63 fX6_36 rfl rfl (lyx_is hy 44 6 rfl) (fun I8242 eI8242 => ?_)
    have hI8242 : XI g n L I8242 := by rw [eI8242]; exact (xi_f hy hI8236 (c := 44) (0) (0) (3) (by decide) (Or.inl (by decide)) (by decide) (by omega) (by omega))
    have e8243 : I8242 (ad g 1) 1 = L := by rw [eI8242, pp_ne _ _ (Or.inl (lyx_ne hy (by decide) (by decide) (by decide)))]; exact e8237
    have e8244 : I8242 (ad g 6) 4 = v7804 := by rw [eI8242, pp_ne _ _ (Or.inl (lyx_ne hy (by decide) (by decide) (by decide)))]; exact e8238
    have e8245 : I8242 (ad g 44) 0 = v8235 := by rw [eI8242, pp_ne _ _ (Or.inr (by decide))]; exact e8239
    have e8246 : I8242 (ad g 44) 1 = v8241 := by rw [eI8242, pp_self]
    have fr8247 : fz 74 g [44] I I8242 := by rw [eI8242]; exact fzx_pp hy fr8240 (by decide) (by decide)
    clear eI8242
    refine WP_aload_n dX6_load_66 rfl ?_
    refine WP_aload dX6_load_67 rfl ?_
    refine WP_getr dX6_load_69 fX6_39 rfl (lyx_is hy 6 7 rfl) (rfx hr 6 13 15 (by decide)) ?_
    refine WP_iload dX6_load_72 rfl ?_
    refine WQ_ialdb dX6_load_74 (lyx_is hy 15 13 rfl) (lyx_n hy 15 28 rfl) (by omega) (by omega) (fun q hq => BT_get hI8242.1 15 0 28 (0) (0) (99) (by decide) q (Nat.zero_le _) hq) (fun v8248 av8248 bv8248 zv8248 => ?_)
    have yv8248 : I (ad g 15) (7 * so.toInt + da.toInt).toNat = v8248 := by rw [← fz_at fr8247 15 (by decide) (by decide), show (7 * so.toInt + da.toInt).toNat = v7803.toInt.toNat by omega]; exact zv8248
    refine WQ_puti dX6_load_75 fX6_42 rfl rfl (lyx_is hy 44 6 rfl) (fun I8249 eI8249 => ?_)
    have hI8249 : XI g n L I8249 := by rw [eI8249]; exact (xi_f hy hI8242 (c := 44) (0) (0) (99) (by decide) (Or.inl (by decide)) (by decide) (by omega) (by omega))
    have e8250 : I8249 (ad g 1) 1 = L := by rw [eI8249, pp_ne _ _ (Or.inl (lyx_ne hy (by decide) (by decide) (by decide)))]; exact e8243
    have e8251 : I8249 (ad g 6) 4 = v7804 := by rw [eI8249, pp_ne _ _ (Or.inl (lyx_ne hy (by decide) (by decide) (by decide)))]; exact e8244
    have e8252 : I8249 (ad g 44) 0 = v8235 := by rw [eI8249, pp_ne _ _ (Or.inr (by decide))]; exact e8245
    have e8253 : I8249 (ad g 44) 1 = v8241 := by rw [eI8249, pp_ne _ _ (Or.inr (by decide))]; exact e8246
    have e8254 : I8249 (ad g 44) 2 = v8248 := by rw [eI8249, pp_self]
    have fr8255 : fz 74 g [44] I I8249 := by rw [eI8249]; exact fzx_pp hy fr8247 (by decide) (by decide)
    clear eI8249
    refine WP_aload_n dX6_load_78 rfl ?_
    refine WP_aload_n dX6_load_79 rfl ?_
    refine WQ_getim dX6_load_80 fX6_9 rfl (lyx_is hy 44 6 rfl) e8252 ?_
    refine WQ_iconst (-1) (-1) dX6_load_83 rfl rfl (fun v8256 hv8256 => ?_)
    refine WQ_icmp_ne 91 dX6_load_84 rfl (fun c8256 => ?_) (fun c8256 => ?_)
    · refine WP_aload_n dX6_load_91 rfl ?_
      refine WP_getr dX6_load_92 fX6_45 rfl (lyx_is hy 5 0 rfl) (rfx hr 5 1 22 (by decide)) ?_
      refine WP_aload_n dX6_load_95 rfl ?_
      refine WQ_getim dX6_load_96 fX6_9 rfl (lyx_is hy 44 6 rfl) e8252 ?_
      refine WQ_bipush (7) (7) dX6_load_99 rfl rfl (fun v8258 hv8258 => ?_)
      refine WQ_imulk (7) dX6_load_101 hv8258 (by omega) (by omega) (fun v8259 hv8259 => ?_)
      refine WP_iload_n dX6_load_102 rfl ?_
      refine WQ_iadd dX6_load_103 (by omega) (by omega) (fun v8260 hv8260 => ?_)
      refine WQ_ialdb dX6_load_104 (lyx_is hy 22 13 rfl) (lyx_n hy 22 21 rfl) (by omega) (by omega) (fun q hq => BT_get hI8249.1 22 0 21 (0) (0) (20) (by decide) q (Nat.zero_le _) hq) (fun v8261 av8261 bv8261 zv8261 => ?_)
      have yv8261 : I (ad g 22) (7 * v8235.toInt + da.toInt).toNat = v8261 := by rw [← fz_at fr8255 22 (by decide) (by decide), show (7 * v8235.toInt + da.toInt).toNat = v8260.toInt.toNat by omega]; exact zv8261
      refine WQ_puti dX6_load_105 fX6_48 rfl rfl (lyx_is hy 44 6 rfl) (fun I8262 eI8262 => ?_)
      have hI8262 : XI g n L I8262 := by rw [eI8262]; exact (xi_f hy hI8249 (c := 44) (0) (0) (20) (by decide) (Or.inl (by decide)) (by decide) (by omega) (by omega))
      have e8263 : I8262 (ad g 1) 1 = L := by rw [eI8262, pp_ne _ _ (Or.inl (lyx_ne hy (by decide) (by decide) (by decide)))]; exact e8250
      have e8264 : I8262 (ad g 6) 4 = v7804 := by rw [eI8262, pp_ne _ _ (Or.inl (lyx_ne hy (by decide) (by decide) (by decide)))]; exact e8251
      have e8265 : I8262 (ad g 44) 0 = v8235 := by rw [eI8262, pp_ne _ _ (Or.inr (by decide))]; exact e8252
      have e8266 : I8262 (ad g 44) 1 = v8241 := by rw [eI8262, pp_ne _ _ (Or.inr (by decide))]; exact e8253
      have e8267 : I8262 (ad g 44) 2 = v8248 := by rw [eI8262, pp_ne _ _ (Or.inr (by decide))]; exact e8254
      have e8268 : I8262 (ad g 44) 3 = v8261 := by rw [eI8262, pp_self]
      have fr8269 : fz 74 g [44] I I8262 := by rw [eI8262]; exact fzx_pp hy fr8255 (by decide) (by decide)
      clear eI8262
      refine WP_aload_n dX6_load_108 rfl ?_
      refine WP_iload dX6_load_109 rfl ?_
      refine WQ_iconst (-1) (-1) dX6_load_111 rfl rfl (fun v8270 hv8270 => ?_)
      refine WQ_icmp_ne 119 dX6_load_112 rfl (fun c8270 => ?_) (fun c8270 => ?_)
      · refine WP_aload_n dX6_load_119 rfl ?_
        refine WP_getr dX6_load_120 fX6_45 rfl (lyx_is hy 5 0 rfl) (rfx hr 5 1 22 (by decide)) ?_
        refine WP_iload dX6_load_123 rfl ?_
        refine WQ_bipush (7) (7) dX6_load_125 rfl rfl (fun v8272 hv8272 => ?_)
        refine WQ_imulk (7) dX6_load_127 hv8272 (by omega) (by omega) (fun v8273 hv8273 => ?_)
        refine WP_iload_n dX6_load_128 rfl ?_
        refine WQ_iadd dX6_load_129 (by omega) (by omega) (fun v8274 hv8274 => ?_)
        refine WQ_ialdb dX6_load_130 (lyx_is hy 22 13 rfl) (lyx_n hy 22 21 rfl) (by omega) (by omega) (fun q hq => BT_get hI8262.1 22 0 21 (0) (0) (20) (by decide) q (Nat.zero_le _) hq) (fun v8275 av8275 bv8275 zv8275 => ?_)
        have yv8275 : I (ad g 22) (7 * v7804.toInt + da.toInt).toNat = v8275 := by rw [← fz_at fr8269 22 (by decide) (by decide), show (7 * v7804.toInt + da.toInt).toNat = v8274.toInt.toNat by omega]; exact zv8275
        refine WQ_puti dX6_load_131 fX6_51 rfl rfl (lyx_is hy 44 6 rfl) (fun I8276 eI8276 => ?_)
        have hI8276 : XI g n L I8276 := by rw [eI8276]; exact (xi_f hy hI8262 (c := 44) (0) (0) (20) (by decide) (Or.inl (by decide)) (by decide) (by omega) (by omega))
        have e8277 : I8276 (ad g 1) 1 = L := by rw [eI8276, pp_ne _ _ (Or.inl (lyx_ne hy (by decide) (by decide) (by decide)))]; exact e8263
        have e8278 : I8276 (ad g 6) 4 = v7804 := by rw [eI8276, pp_ne _ _ (Or.inl (lyx_ne hy (by decide) (by decide) (by decide)))]; exact e8264
        have e8279 : I8276 (ad g 44) 0 = v8235 := by rw [eI8276, pp_ne _ _ (Or.inr (by decide))]; exact e8265
        have e8280 : I8276 (ad g 44) 1 = v8241 := by rw [eI8276, pp_ne _ _ (Or.inr (by decide))]; exact e8266
        have e8281 : I8276 (ad g 44) 2 = v8248 := by rw [eI8276, pp_ne _ _ (Or.inr (by decide))]; exact e8267
        have e8282 : I8276 (ad g 44) 3 = v8261 := by rw [eI8276, pp_ne _ _ (Or.inr (by decide))]; exact e8268
        have e8283 : I8276 (ad g 44) 4 = v8275 := by rw [eI8276, pp_self]
        have fr8284 : fz 74 g [44] I I8276 := by rw [eI8276]; exact fzx_pp hy fr8269 (by decide) (by decide)
        clear eI8276
        refine WP_aload_n dX6_load_134 rfl ?_
        refine WP_iload dX6_load_135 rfl ?_
        refine WQ_if_eq 144 dX6_load_137 rfl (fun c8284 => False.elim (by omega)) (fun c8284 => ?_)
        refine WQ_iconst (0) (0) dX6_load_140 rfl rfl (fun v8286 hv8286 => ?_)
        refine WP_goto 148 dX6_load_141 rfl ?_
        refine WQ_puti dX6_load_148 fX6_54 rfl rfl (lyx_is hy 44 6 rfl) (fun I8287 eI8287 => ?_)
        have hI8287 : XI g n L I8287 := by rw [eI8287]; exact (xi_f hy hI8276 (c := 44) (0) (0) (3) (by decide) (Or.inl (by decide)) (by decide) (by omega) (by omega))
        have e8288 : I8287 (ad g 1) 1 = L := by rw [eI8287, pp_ne _ _ (Or.inl (lyx_ne hy (by decide) (by decide) (by decide)))]; exact e8277
        have e8289 : I8287 (ad g 6) 4 = v7804 := by rw [eI8287, pp_ne _ _ (Or.inl (lyx_ne hy (by decide) (by decide) (by decide)))]; exact e8278
        have e8290 : I8287 (ad g 44) 0 = v8235 := by rw [eI8287, pp_ne _ _ (Or.inr (by decide))]; exact e8279
        have e8291 : I8287 (ad g 44) 1 = v8241 := by rw [eI8287, pp_ne _ _ (Or.inr (by decide))]; exact e8280
        have e8292 : I8287 (ad g 44) 2 = v8248 := by rw [eI8287, pp_ne _ _ (Or.inr (by decide))]; exact e8281
        have e8293 : I8287 (ad g 44) 3 = v8261 := by rw [eI8287, pp_ne _ _ (Or.inr (by decide))]; exact e8282
        have e8294 : I8287 (ad g 44) 4 = v8275 := by rw [eI8287, pp_ne _ _ (Or.inr (by decide))]; exact e8283
        have e8295 : I8287 (ad g 44) 5 = v8286 := by rw [eI8287, pp_self]
        have fr8296 : fz 74 g [44] I I8287 := by rw [eI8287]; exact fzx_pp hy fr8284 (by decide) (by decide)
        clear eI8287
        refine WP_aload_n dX6_load_151 rfl ?_
        refine WP_iload dX6_load_152 rfl ?_
        refine WQ_if_ne 163 dX6_load_154 rfl (fun c8296 => ?_) (fun c8296 => False.elim (by omega))
        refine WQ_iconst (0) (0) dX6_load_163 rfl rfl (fun v8298 hv8298 => ?_)
        refine WP_goto 168 dX6_load_164 rfl ?_
        refine WQ_puti dX6_load_168 fX6_57 rfl rfl (lyx_is hy 44 6 rfl) (fun I8299 eI8299 => ?_)
        have hI8299 : XI g n L I8299 := by rw [eI8299]; exact (xi_f hy hI8287 (c := 44) (0) (0) (2) (by decide) (Or.inl (by decide)) (by decide) (by omega) (by omega))
        have e8300 : I8299 (ad g 1) 1 = L := by rw [eI8299, pp_ne _ _ (Or.inl (lyx_ne hy (by decide) (by decide) (by decide)))]; exact e8288
        have e8301 : I8299 (ad g 6) 4 = v7804 := by rw [eI8299, pp_ne _ _ (Or.inl (lyx_ne hy (by decide) (by decide) (by decide)))]; exact e8289
        have e8302 : I8299 (ad g 44) 0 = v8235 := by rw [eI8299, pp_ne _ _ (Or.inr (by decide))]; exact e8290
        have e8303 : I8299 (ad g 44) 1 = v8241 := by rw [eI8299, pp_ne _ _ (Or.inr (by decide))]; exact e8291
        have e8304 : I8299 (ad g 44) 2 = v8248 := by rw [eI8299, pp_ne _ _ (Or.inr (by decide))]; exact e8292
        have e8305 : I8299 (ad g 44) 3 = v8261 := by rw [eI8299, pp_ne _ _ (Or.inr (by decide))]; exact e8293
        have e8306 : I8299 (ad g 44) 4 = v8275 := by rw [eI8299, pp_ne _ _ (Or.inr (by decide))]; exact e8294
        have e8307 : I8299 (ad g 44) 5 = v8286 := by rw [eI8299, pp_ne _ _ (Or.inr (by decide))]; exact e8295
        have e8308 : I8299 (ad g 44) 6 = v8298 := by rw [eI8299, pp_self]
        have fr8309 : fz 74 g [44] I I8299 := by rw [eI8299]; exact fzx_pp hy fr8296 (by decide) (by decide)
        clear eI8299
        refine WP_aload_n dX6_load_171 rfl ?_
        refine WP_aload_n dX6_load_172 rfl ?_
        refine WQ_getim dX6_load_173 fX6_9 rfl (lyx_is hy 44 6 rfl) e8302 ?_
        refine WQ_iconst (-1) (-1) dX6_load_176 rfl rfl (fun v8310 hv8310 => ?_)
        refine WQ_icmp_eq 193 dX6_load_177 rfl (fun c8310 => False.elim (by omega)) (fun c8310 => ?_)
        refine WP_aload_n dX6_load_180 rfl ?_
        refine WQ_getim dX6_load_181 fX6_9 rfl (lyx_is hy 44 6 rfl) e8302 ?_
        refine WP_iload dX6_load_184 rfl ?_
        refine WQ_icmp_ne 193 dX6_load_186 rfl (fun c8311 => ?_) (fun c8311 => ?_)
        · refine WQ_iconst (0) (0) dX6_load_193 rfl rfl (fun v8313 hv8313 => ?_)
          refine WQ_putz dX6_load_194 fX6_60 rfl rfl (by omega) (lyx_is hy 44 6 rfl) (fun I8314 eI8314 => ?_)
          have hI8314 : XI g n L I8314 := by rw [eI8314]; exact (xi_f hy hI8299 (c := 44) (0) (0) (1) (by decide) (Or.inl (by decide)) (by decide) (by omega) (by omega))
          have e8315 : I8314 (ad g 1) 1 = L := by rw [eI8314, pp_ne _ _ (Or.inl (lyx_ne hy (by decide) (by decide) (by decide)))]; exact e8300
          have e8316 : I8314 (ad g 6) 4 = v7804 := by rw [eI8314, pp_ne _ _ (Or.inl (lyx_ne hy (by decide) (by decide) (by decide)))]; exact e8301
          have e8317 : I8314 (ad g 44) 0 = v8235 := by rw [eI8314, pp_ne _ _ (Or.inr (by decide))]; exact e8302
          have e8318 : I8314 (ad g 44) 1 = v8241 := by rw [eI8314, pp_ne _ _ (Or.inr (by decide))]; exact e8303
          have e8319 : I8314 (ad g 44) 2 = v8248 := by rw [eI8314, pp_ne _ _ (Or.inr (by decide))]; exact e8304
          have e8320 : I8314 (ad g 44) 3 = v8261 := by rw [eI8314, pp_ne _ _ (Or.inr (by decide))]; exact e8305
          have e8321 : I8314 (ad g 44) 4 = v8275 := by rw [eI8314, pp_ne _ _ (Or.inr (by decide))]; exact e8306
          have e8322 : I8314 (ad g 44) 5 = v8286 := by rw [eI8314, pp_ne _ _ (Or.inr (by decide))]; exact e8307
          have e8323 : I8314 (ad g 44) 6 = v8298 := by rw [eI8314, pp_ne _ _ (Or.inr (by decide))]; exact e8308
          have e8324 : I8314 (ad g 44) 7 = v8313 := by rw [eI8314, pp_self]
          have fr8325 : fz 74 g [44] I I8314 := by rw [eI8314]; exact fzx_pp hy fr8309 (by decide) (by decide)
          clear eI8314
          refine WP_aload_n dX6_load_197 rfl ?_
          refine WP_aload_n dX6_load_198 rfl ?_
          refine WP_getr dX6_load_199 fX6_64 rfl (lyx_is hy 5 0 rfl) (rfx hr 5 2 23 (by decide)) ?_
          refine WP_iload_n dX6_load_202 rfl ?_
          refine WQ_iald dX6_load_203 (lyx_is hy 23 13 rfl) (lyx_n hy 23 7 rfl) (by omega) (by omega) (fun q hq => BT_get hI8314.1 23 0 7 (0) (0) (900) (by decide) q (Nat.zero_le _) hq) (fun v8326 av8326 bv8326 ev8326 => ?_)
          clear ev8326
          refine WQ_if_le 211 dX6_load_204 rfl (fun c8326 => ?_) (fun c8326 => ?_)
          · refine WQ_iconst (0) (0) dX6_load_211 rfl rfl (fun v8328 hv8328 => ?_)
            refine WQ_putz dX6_load_212 fX6_67 rfl rfl (by omega) (lyx_is hy 44 6 rfl) (fun I8329 eI8329 => ?_)
            have hI8329 : XI g n L I8329 := by rw [eI8329]; exact (xi_f hy hI8314 (c := 44) (0) (0) (1) (by decide) (Or.inl (by decide)) (by decide) (by omega) (by omega))
            have e8330 : I8329 (ad g 1) 1 = L := by rw [eI8329, pp_ne _ _ (Or.inl (lyx_ne hy (by decide) (by decide) (by decide)))]; exact e8315
            have e8331 : I8329 (ad g 6) 4 = v7804 := by rw [eI8329, pp_ne _ _ (Or.inl (lyx_ne hy (by decide) (by decide) (by decide)))]; exact e8316
            have e8332 : I8329 (ad g 44) 0 = v8235 := by rw [eI8329, pp_ne _ _ (Or.inr (by decide))]; exact e8317
            have e8333 : I8329 (ad g 44) 1 = v8241 := by rw [eI8329, pp_ne _ _ (Or.inr (by decide))]; exact e8318
            have e8334 : I8329 (ad g 44) 2 = v8248 := by rw [eI8329, pp_ne _ _ (Or.inr (by decide))]; exact e8319
            have e8335 : I8329 (ad g 44) 3 = v8261 := by rw [eI8329, pp_ne _ _ (Or.inr (by decide))]; exact e8320
            have e8336 : I8329 (ad g 44) 4 = v8275 := by rw [eI8329, pp_ne _ _ (Or.inr (by decide))]; exact e8321
            have e8337 : I8329 (ad g 44) 5 = v8286 := by rw [eI8329, pp_ne _ _ (Or.inr (by decide))]; exact e8322
            have e8338 : I8329 (ad g 44) 6 = v8298 := by rw [eI8329, pp_ne _ _ (Or.inr (by decide))]; exact e8323
            have e8339 : I8329 (ad g 44) 7 = v8313 := by rw [eI8329, pp_ne _ _ (Or.inr (by decide))]; exact e8324
            have e8340 : I8329 (ad g 44) 8 = v8328 := by rw [eI8329, pp_self]
            have fr8341 : fz 74 g [44] I I8329 := by rw [eI8329]; exact fzx_pp hy fr8325 (by decide) (by decide)
            clear eI8329
            exact WP_vret dX6_load_215 rfl ⟨⟨hI8329, rfl, fr8341, rfl, (by
                  have yill : I (ad g (6 + 5)) so.toInt.toNat >>> (nI da.toInt.toNat &&& 31) &&& 1 = v7808 := by rw [show I (ad g (6 + 5)) so.toInt.toNat = v7805 from yv7805, show nI da.toInt.toNat = da from (eq32 _ _).mpr (by rw [nI_toInt (by omega)]; omega), xv7808, xv7806, (eq32 v7807 1).mpr hv7807]
                  have yst : I (ad g 6) 4 = v7804 := est
                  unfold LD
                  simp only [e8332, e8333, e8334, e8335, e8336, e8337, e8338, e8339, yill, yst, show I (ad g (6 + 7)) _ = _ from yv8235, show I (ad g (6 + 8)) _ = _ from yv8241, show I (ad g (6 + 9)) _ = _ from yv8248, yv8261, yv8275, true_and, and_true]
                  omega)⟩, rfl⟩
          · refine WQ_iconst (1) (1) dX6_load_207 rfl rfl (fun v8342 hv8342 => ?_)
            refine WP_goto 212 dX6_load_208 rfl ?_
            refine WQ_putz dX6_load_212 fX6_67 rfl rfl (by omega) (lyx_is hy 44 6 rfl) (fun I8343 eI8343 => ?_)
            have hI8343 : XI g n L I8343 := by rw [eI8343]; exact (xi_f hy hI8314 (c := 44) (0) (0) (1) (by decide) (Or.inl (by decide)) (by decide) (by omega) (by omega))
            have e8344 : I8343 (ad g 1) 1 = L := by rw [eI8343, pp_ne _ _ (Or.inl (lyx_ne hy (by decide) (by decide) (by decide)))]; exact e8315
            have e8345 : I8343 (ad g 6) 4 = v7804 := by rw [eI8343, pp_ne _ _ (Or.inl (lyx_ne hy (by decide) (by decide) (by decide)))]; exact e8316
            have e8346 : I8343 (ad g 44) 0 = v8235 := by rw [eI8343, pp_ne _ _ (Or.inr (by decide))]; exact e8317
            have e8347 : I8343 (ad g 44) 1 = v8241 := by rw [eI8343, pp_ne _ _ (Or.inr (by decide))]; exact e8318
            have e8348 : I8343 (ad g 44) 2 = v8248 := by rw [eI8343, pp_ne _ _ (Or.inr (by decide))]; exact e8319
            have e8349 : I8343 (ad g 44) 3 = v8261 := by rw [eI8343, pp_ne _ _ (Or.inr (by decide))]; exact e8320
            have e8350 : I8343 (ad g 44) 4 = v8275 := by rw [eI8343, pp_ne _ _ (Or.inr (by decide))]; exact e8321
            have e8351 : I8343 (ad g 44) 5 = v8286 := by rw [eI8343, pp_ne _ _ (Or.inr (by decide))]; exact e8322
            have e8352 : I8343 (ad g 44) 6 = v8298 := by rw [eI8343, pp_ne _ _ (Or.inr (by decide))]; exact e8323
            have e8353 : I8343 (ad g 44) 7 = v8313 := by rw [eI8343, pp_ne _ _ (Or.inr (by decide))]; exact e8324
            have e8354 : I8343 (ad g 44) 8 = v8342 := by rw [eI8343, pp_self]
            have fr8355 : fz 74 g [44] I I8343 := by rw [eI8343]; exact fzx_pp hy fr8325 (by decide) (by decide)
            clear eI8343
            exact WP_vret dX6_load_215 rfl ⟨⟨hI8343, rfl, fr8355, rfl, (by
                  have yill : I (ad g (6 + 5)) so.toInt.toNat >>> (nI da.toInt.toNat &&& 31) &&& 1 = v7808 := by rw [show I (ad g (6 + 5)) so.toInt.toNat = v7805 from yv7805, show nI da.toInt.toNat = da from (eq32 _ _).mpr (by rw [nI_toInt (by omega)]; omega), xv7808, xv7806, (eq32 v7807 1).mpr hv7807]
                  have yst : I (ad g 6) 4 = v7804 := est
                  unfold LD
                  simp only [e8346, e8347, e8348, e8349, e8350, e8351, e8352, e8353, yill, yst, show I (ad g (6 + 7)) _ = _ from yv8235, show I (ad g (6 + 8)) _ = _ from yv8241, show I (ad g (6 + 9)) _ = _ from yv8248, yv8261, yv8275, true_and, and_true]
                  omega)⟩, rfl⟩
        · refine WQ_iconst (1) (1) dX6_load_189 rfl rfl (fun v8356 hv8356 => ?_)
          refine WP_goto 194 dX6_load_190 rfl ?_
          refine WQ_putz dX6_load_194 fX6_60 rfl rfl (by omega) (lyx_is hy 44 6 rfl) (fun I8357 eI8357 => ?_)
          have hI8357 : XI g n L I8357 := by rw [eI8357]; exact (xi_f hy hI8299 (c := 44) (0) (0) (1) (by decide) (Or.inl (by decide)) (by decide) (by omega) (by omega))
          have e8358 : I8357 (ad g 1) 1 = L := by rw [eI8357, pp_ne _ _ (Or.inl (lyx_ne hy (by decide) (by decide) (by decide)))]; exact e8300
          have e8359 : I8357 (ad g 6) 4 = v7804 := by rw [eI8357, pp_ne _ _ (Or.inl (lyx_ne hy (by decide) (by decide) (by decide)))]; exact e8301
          have e8360 : I8357 (ad g 44) 0 = v8235 := by rw [eI8357, pp_ne _ _ (Or.inr (by decide))]; exact e8302
          have e8361 : I8357 (ad g 44) 1 = v8241 := by rw [eI8357, pp_ne _ _ (Or.inr (by decide))]; exact e8303
          have e8362 : I8357 (ad g 44) 2 = v8248 := by rw [eI8357, pp_ne _ _ (Or.inr (by decide))]; exact e8304
          have e8363 : I8357 (ad g 44) 3 = v8261 := by rw [eI8357, pp_ne _ _ (Or.inr (by decide))]; exact e8305
          have e8364 : I8357 (ad g 44) 4 = v8275 := by rw [eI8357, pp_ne _ _ (Or.inr (by decide))]; exact e8306
          have e8365 : I8357 (ad g 44) 5 = v8286 := by rw [eI8357, pp_ne _ _ (Or.inr (by decide))]; exact e8307
          have e8366 : I8357 (ad g 44) 6 = v8298 := by rw [eI8357, pp_ne _ _ (Or.inr (by decide))]; exact e8308
          have e8367 : I8357 (ad g 44) 7 = v8356 := by rw [eI8357, pp_self]
          have fr8368 : fz 74 g [44] I I8357 := by rw [eI8357]; exact fzx_pp hy fr8309 (by decide) (by decide)
          clear eI8357
          refine WP_aload_n dX6_load_197 rfl ?_
          refine WP_aload_n dX6_load_198 rfl ?_
          refine WP_getr dX6_load_199 fX6_64 rfl (lyx_is hy 5 0 rfl) (rfx hr 5 2 23 (by decide)) ?_
          refine WP_iload_n dX6_load_202 rfl ?_
          refine WQ_iald dX6_load_203 (lyx_is hy 23 13 rfl) (lyx_n hy 23 7 rfl) (by omega) (by omega) (fun q hq => BT_get hI8357.1 23 0 7 (0) (0) (900) (by decide) q (Nat.zero_le _) hq) (fun v8369 av8369 bv8369 ev8369 => ?_)
          clear ev8369
          refine WQ_if_le 211 dX6_load_204 rfl (fun c8369 => ?_) (fun c8369 => ?_)
          · refine WQ_iconst (0) (0) dX6_load_211 rfl rfl (fun v8371 hv8371 => ?_)
            refine WQ_putz dX6_load_212 fX6_67 rfl rfl (by omega) (lyx_is hy 44 6 rfl) (fun I8372 eI8372 => ?_)
            have hI8372 : XI g n L I8372 := by rw [eI8372]; exact (xi_f hy hI8357 (c := 44) (0) (0) (1) (by decide) (Or.inl (by decide)) (by decide) (by omega) (by omega))
            have e8373 : I8372 (ad g 1) 1 = L := by rw [eI8372, pp_ne _ _ (Or.inl (lyx_ne hy (by decide) (by decide) (by decide)))]; exact e8358
            have e8374 : I8372 (ad g 6) 4 = v7804 := by rw [eI8372, pp_ne _ _ (Or.inl (lyx_ne hy (by decide) (by decide) (by decide)))]; exact e8359
            have e8375 : I8372 (ad g 44) 0 = v8235 := by rw [eI8372, pp_ne _ _ (Or.inr (by decide))]; exact e8360
            have e8376 : I8372 (ad g 44) 1 = v8241 := by rw [eI8372, pp_ne _ _ (Or.inr (by decide))]; exact e8361
            have e8377 : I8372 (ad g 44) 2 = v8248 := by rw [eI8372, pp_ne _ _ (Or.inr (by decide))]; exact e8362
            have e8378 : I8372 (ad g 44) 3 = v8261 := by rw [eI8372, pp_ne _ _ (Or.inr (by decide))]; exact e8363
            have e8379 : I8372 (ad g 44) 4 = v8275 := by rw [eI8372, pp_ne _ _ (Or.inr (by decide))]; exact e8364
            have e8380 : I8372 (ad g 44) 5 = v8286 := by rw [eI8372, pp_ne _ _ (Or.inr (by decide))]; exact e8365
            have e8381 : I8372 (ad g 44) 6 = v8298 := by rw [eI8372, pp_ne _ _ (Or.inr (by decide))]; exact e8366
            have e8382 : I8372 (ad g 44) 7 = v8356 := by rw [eI8372, pp_ne _ _ (Or.inr (by decide))]; exact e8367
            have e8383 : I8372 (ad g 44) 8 = v8371 := by rw [eI8372, pp_self]
            have fr8384 : fz 74 g [44] I I8372 := by rw [eI8372]; exact fzx_pp hy fr8368 (by decide) (by decide)
            clear eI8372
            exact WP_vret dX6_load_215 rfl ⟨⟨hI8372, rfl, fr8384, rfl, (by
                  have yill : I (ad g (6 + 5)) so.toInt.toNat >>> (nI da.toInt.toNat &&& 31) &&& 1 = v7808 := by rw [show I (ad g (6 + 5)) so.toInt.toNat = v7805 from yv7805, show nI da.toInt.toNat = da from (eq32 _ _).mpr (by rw [nI_toInt (by omega)]; omega), xv7808, xv7806, (eq32 v7807 1).mpr hv7807]
                  have yst : I (ad g 6) 4 = v7804 := est
                  unfold LD
                  simp only [e8375, e8376, e8377, e8378, e8379, e8380, e8381, e8382, yill, yst, show I (ad g (6 + 7)) _ = _ from yv8235, show I (ad g (6 + 8)) _ = _ from yv8241, show I (ad g (6 + 9)) _ = _ from yv8248, yv8261, yv8275, true_and, and_true]
                  omega)⟩, rfl⟩
          · refine WQ_iconst (1) (1) dX6_load_207 rfl rfl (fun v8385 hv8385 => ?_)
            refine WP_goto 212 dX6_load_208 rfl ?_
            refine WQ_putz dX6_load_212 fX6_67 rfl rfl (by omega) (lyx_is hy 44 6 rfl) (fun I8386 eI8386 => ?_)
            have hI8386 : XI g n L I8386 := by rw [eI8386]; exact (xi_f hy hI8357 (c := 44) (0) (0) (1) (by decide) (Or.inl (by decide)) (by decide) (by omega) (by omega))
            have e8387 : I8386 (ad g 1) 1 = L := by rw [eI8386, pp_ne _ _ (Or.inl (lyx_ne hy (by decide) (by decide) (by decide)))]; exact e8358
            have e8388 : I8386 (ad g 6) 4 = v7804 := by rw [eI8386, pp_ne _ _ (Or.inl (lyx_ne hy (by decide) (by decide) (by decide)))]; exact e8359
            have e8389 : I8386 (ad g 44) 0 = v8235 := by rw [eI8386, pp_ne _ _ (Or.inr (by decide))]; exact e8360
            have e8390 : I8386 (ad g 44) 1 = v8241 := by rw [eI8386, pp_ne _ _ (Or.inr (by decide))]; exact e8361
            have e8391 : I8386 (ad g 44) 2 = v8248 := by rw [eI8386, pp_ne _ _ (Or.inr (by decide))]; exact e8362
            have e8392 : I8386 (ad g 44) 3 = v8261 := by rw [eI8386, pp_ne _ _ (Or.inr (by decide))]; exact e8363
            have e8393 : I8386 (ad g 44) 4 = v8275 := by rw [eI8386, pp_ne _ _ (Or.inr (by decide))]; exact e8364
            have e8394 : I8386 (ad g 44) 5 = v8286 := by rw [eI8386, pp_ne _ _ (Or.inr (by decide))]; exact e8365
            have e8395 : I8386 (ad g 44) 6 = v8298 := by rw [eI8386, pp_ne _ _ (Or.inr (by decide))]; exact e8366
            have e8396 : I8386 (ad g 44) 7 = v8356 := by rw [eI8386, pp_ne _ _ (Or.inr (by decide))]; exact e8367
            have e8397 : I8386 (ad g 44) 8 = v8385 := by rw [eI8386, pp_self]
            have fr8398 : fz 74 g [44] I I8386 := by rw [eI8386]; exact fzx_pp hy fr8368 (by decide) (by decide)
            clear eI8386
            exact WP_vret dX6_load_215 rfl ⟨⟨hI8386, rfl, fr8398, rfl, (by
                  have yill : I (ad g (6 + 5)) so.toInt.toNat >>> (nI da.toInt.toNat &&& 31) &&& 1 = v7808 := by rw [show I (ad g (6 + 5)) so.toInt.toNat = v7805 from yv7805, show nI da.toInt.toNat = da from (eq32 _ _).mpr (by rw [nI_toInt (by omega)]; omega), xv7808, xv7806, (eq32 v7807 1).mpr hv7807]
                  have yst : I (ad g 6) 4 = v7804 := est
                  unfold LD
                  simp only [e8389, e8390, e8391, e8392, e8393, e8394, e8395, e8396, yill, yst, show I (ad g (6 + 7)) _ = _ from yv8235, show I (ad g (6 + 8)) _ = _ from yv8241, show I (ad g (6 + 9)) _ = _ from yv8248, yv8261, yv8275, true_and, and_true]
                  omega)⟩, rfl⟩
      · refine WQ_iconst (0) (0) dX6_load_115 rfl rfl (fun v8399 hv8399 => ?_)
        refine WP_goto 131 dX6_load_116 rfl ?_
        refine WQ_puti dX6_load_131 fX6_51 rfl rfl (lyx_is hy 44 6 rfl) (fun I8400 eI8400 => ?_)
        have hI8400 : XI g n L I8400 := by rw [eI8400]; exact (xi_f hy hI8262 (c := 44) (0) (0) (20) (by decide) (Or.inl (by decide)) (by decide) (by omega) (by omega))
        have e8401 : I8400 (ad g 1) 1 = L := by rw [eI8400, pp_ne _ _ (Or.inl (lyx_ne hy (by decide) (by decide) (by decide)))]; exact e8263
        have e8402 : I8400 (ad g 6) 4 = v7804 := by rw [eI8400, pp_ne _ _ (Or.inl (lyx_ne hy (by decide) (by decide) (by decide)))]; exact e8264
        have e8403 : I8400 (ad g 44) 0 = v8235 := by rw [eI8400, pp_ne _ _ (Or.inr (by decide))]; exact e8265
        have e8404 : I8400 (ad g 44) 1 = v8241 := by rw [eI8400, pp_ne _ _ (Or.inr (by decide))]; exact e8266
        have e8405 : I8400 (ad g 44) 2 = v8248 := by rw [eI8400, pp_ne _ _ (Or.inr (by decide))]; exact e8267
        have e8406 : I8400 (ad g 44) 3 = v8261 := by rw [eI8400, pp_ne _ _ (Or.inr (by decide))]; exact e8268
        have e8407 : I8400 (ad g 44) 4 = v8399 := by rw [eI8400, pp_self]
        have fr8408 : fz 74 g [44] I I8400 := by rw [eI8400]; exact fzx_pp hy fr8269 (by decide) (by decide)
        clear eI8400
        refine WP_aload_n dX6_load_134 rfl ?_
        refine WP_iload dX6_load_135 rfl ?_
        refine WQ_if_eq 144 dX6_load_137 rfl (fun c8408 => False.elim (by omega)) (fun c8408 => ?_)
        refine WQ_iconst (0) (0) dX6_load_140 rfl rfl (fun v8410 hv8410 => ?_)
        refine WP_goto 148 dX6_load_141 rfl ?_
        refine WQ_puti dX6_load_148 fX6_54 rfl rfl (lyx_is hy 44 6 rfl) (fun I8411 eI8411 => ?_)
        have hI8411 : XI g n L I8411 := by rw [eI8411]; exact (xi_f hy hI8400 (c := 44) (0) (0) (3) (by decide) (Or.inl (by decide)) (by decide) (by omega) (by omega))
        have e8412 : I8411 (ad g 1) 1 = L := by rw [eI8411, pp_ne _ _ (Or.inl (lyx_ne hy (by decide) (by decide) (by decide)))]; exact e8401
        have e8413 : I8411 (ad g 6) 4 = v7804 := by rw [eI8411, pp_ne _ _ (Or.inl (lyx_ne hy (by decide) (by decide) (by decide)))]; exact e8402
        have e8414 : I8411 (ad g 44) 0 = v8235 := by rw [eI8411, pp_ne _ _ (Or.inr (by decide))]; exact e8403
        have e8415 : I8411 (ad g 44) 1 = v8241 := by rw [eI8411, pp_ne _ _ (Or.inr (by decide))]; exact e8404
        have e8416 : I8411 (ad g 44) 2 = v8248 := by rw [eI8411, pp_ne _ _ (Or.inr (by decide))]; exact e8405
        have e8417 : I8411 (ad g 44) 3 = v8261 := by rw [eI8411, pp_ne _ _ (Or.inr (by decide))]; exact e8406
        have e8418 : I8411 (ad g 44) 4 = v8399 := by rw [eI8411, pp_ne _ _ (Or.inr (by decide))]; exact e8407
        have e8419 : I8411 (ad g 44) 5 = v8410 := by rw [eI8411, pp_self]
        have fr8420 : fz 74 g [44] I I8411 := by rw [eI8411]; exact fzx_pp hy fr8408 (by decide) (by decide)
        clear eI8411
        refine WP_aload_n dX6_load_151 rfl ?_
        refine WP_iload dX6_load_152 rfl ?_
        refine WQ_if_ne 163 dX6_load_154 rfl (fun c8420 => ?_) (fun c8420 => False.elim (by omega))
        refine WQ_iconst (0) (0) dX6_load_163 rfl rfl (fun v8422 hv8422 => ?_)
        refine WP_goto 168 dX6_load_164 rfl ?_
        refine WQ_puti dX6_load_168 fX6_57 rfl rfl (lyx_is hy 44 6 rfl) (fun I8423 eI8423 => ?_)
        have hI8423 : XI g n L I8423 := by rw [eI8423]; exact (xi_f hy hI8411 (c := 44) (0) (0) (2) (by decide) (Or.inl (by decide)) (by decide) (by omega) (by omega))
        have e8424 : I8423 (ad g 1) 1 = L := by rw [eI8423, pp_ne _ _ (Or.inl (lyx_ne hy (by decide) (by decide) (by decide)))]; exact e8412
        have e8425 : I8423 (ad g 6) 4 = v7804 := by rw [eI8423, pp_ne _ _ (Or.inl (lyx_ne hy (by decide) (by decide) (by decide)))]; exact e8413
        have e8426 : I8423 (ad g 44) 0 = v8235 := by rw [eI8423, pp_ne _ _ (Or.inr (by decide))]; exact e8414
        have e8427 : I8423 (ad g 44) 1 = v8241 := by rw [eI8423, pp_ne _ _ (Or.inr (by decide))]; exact e8415
        have e8428 : I8423 (ad g 44) 2 = v8248 := by rw [eI8423, pp_ne _ _ (Or.inr (by decide))]; exact e8416
        have e8429 : I8423 (ad g 44) 3 = v8261 := by rw [eI8423, pp_ne _ _ (Or.inr (by decide))]; exact e8417
        have e8430 : I8423 (ad g 44) 4 = v8399 := by rw [eI8423, pp_ne _ _ (Or.inr (by decide))]; exact e8418
        have e8431 : I8423 (ad g 44) 5 = v8410 := by rw [eI8423, pp_ne _ _ (Or.inr (by decide))]; exact e8419
        have e8432 : I8423 (ad g 44) 6 = v8422 := by rw [eI8423, pp_self]
        have fr8433 : fz 74 g [44] I I8423 := by rw [eI8423]; exact fzx_pp hy fr8420 (by decide) (by decide)
        clear eI8423
        refine WP_aload_n dX6_load_171 rfl ?_
        refine WP_aload_n dX6_load_172 rfl ?_
        refine WQ_getim dX6_load_173 fX6_9 rfl (lyx_is hy 44 6 rfl) e8426 ?_
        refine WQ_iconst (-1) (-1) dX6_load_176 rfl rfl (fun v8434 hv8434 => ?_)
        refine WQ_icmp_eq 193 dX6_load_177 rfl (fun c8434 => False.elim (by omega)) (fun c8434 => ?_)
        refine WP_aload_n dX6_load_180 rfl ?_
        refine WQ_getim dX6_load_181 fX6_9 rfl (lyx_is hy 44 6 rfl) e8426 ?_
        refine WP_iload dX6_load_184 rfl ?_
        refine WQ_icmp_ne 193 dX6_load_186 rfl (fun c8435 => ?_) (fun c8435 => False.elim (by omega))
        refine WQ_iconst (0) (0) dX6_load_193 rfl rfl (fun v8437 hv8437 => ?_)
        refine WQ_putz dX6_load_194 fX6_60 rfl rfl (by omega) (lyx_is hy 44 6 rfl) (fun I8438 eI8438 => ?_)
        have hI8438 : XI g n L I8438 := by rw [eI8438]; exact (xi_f hy hI8423 (c := 44) (0) (0) (1) (by decide) (Or.inl (by decide)) (by decide) (by omega) (by omega))
        have e8439 : I8438 (ad g 1) 1 = L := by rw [eI8438, pp_ne _ _ (Or.inl (lyx_ne hy (by decide) (by decide) (by decide)))]; exact e8424
        have e8440 : I8438 (ad g 6) 4 = v7804 := by rw [eI8438, pp_ne _ _ (Or.inl (lyx_ne hy (by decide) (by decide) (by decide)))]; exact e8425
        have e8441 : I8438 (ad g 44) 0 = v8235 := by rw [eI8438, pp_ne _ _ (Or.inr (by decide))]; exact e8426
        have e8442 : I8438 (ad g 44) 1 = v8241 := by rw [eI8438, pp_ne _ _ (Or.inr (by decide))]; exact e8427
        have e8443 : I8438 (ad g 44) 2 = v8248 := by rw [eI8438, pp_ne _ _ (Or.inr (by decide))]; exact e8428
        have e8444 : I8438 (ad g 44) 3 = v8261 := by rw [eI8438, pp_ne _ _ (Or.inr (by decide))]; exact e8429
        have e8445 : I8438 (ad g 44) 4 = v8399 := by rw [eI8438, pp_ne _ _ (Or.inr (by decide))]; exact e8430
        have e8446 : I8438 (ad g 44) 5 = v8410 := by rw [eI8438, pp_ne _ _ (Or.inr (by decide))]; exact e8431
        have e8447 : I8438 (ad g 44) 6 = v8422 := by rw [eI8438, pp_ne _ _ (Or.inr (by decide))]; exact e8432
        have e8448 : I8438 (ad g 44) 7 = v8437 := by rw [eI8438, pp_self]
        have fr8449 : fz 74 g [44] I I8438 := by rw [eI8438]; exact fzx_pp hy fr8433 (by decide) (by decide)
        clear eI8438
        refine WP_aload_n dX6_load_197 rfl ?_
        refine WP_aload_n dX6_load_198 rfl ?_
        refine WP_getr dX6_load_199 fX6_64 rfl (lyx_is hy 5 0 rfl) (rfx hr 5 2 23 (by decide)) ?_
        refine WP_iload_n dX6_load_202 rfl ?_
        refine WQ_iald dX6_load_203 (lyx_is hy 23 13 rfl) (lyx_n hy 23 7 rfl) (by omega) (by omega) (fun q hq => BT_get hI8438.1 23 0 7 (0) (0) (900) (by decide) q (Nat.zero_le _) hq) (fun v8450 av8450 bv8450 ev8450 => ?_)
        clear ev8450
        refine WQ_if_le 211 dX6_load_204 rfl (fun c8450 => ?_) (fun c8450 => ?_)
        · refine WQ_iconst (0) (0) dX6_load_211 rfl rfl (fun v8452 hv8452 => ?_)
          refine WQ_putz dX6_load_212 fX6_67 rfl rfl (by omega) (lyx_is hy 44 6 rfl) (fun I8453 eI8453 => ?_)
          have hI8453 : XI g n L I8453 := by rw [eI8453]; exact (xi_f hy hI8438 (c := 44) (0) (0) (1) (by decide) (Or.inl (by decide)) (by decide) (by omega) (by omega))
          have e8454 : I8453 (ad g 1) 1 = L := by rw [eI8453, pp_ne _ _ (Or.inl (lyx_ne hy (by decide) (by decide) (by decide)))]; exact e8439
          have e8455 : I8453 (ad g 6) 4 = v7804 := by rw [eI8453, pp_ne _ _ (Or.inl (lyx_ne hy (by decide) (by decide) (by decide)))]; exact e8440
          have e8456 : I8453 (ad g 44) 0 = v8235 := by rw [eI8453, pp_ne _ _ (Or.inr (by decide))]; exact e8441
          have e8457 : I8453 (ad g 44) 1 = v8241 := by rw [eI8453, pp_ne _ _ (Or.inr (by decide))]; exact e8442
          have e8458 : I8453 (ad g 44) 2 = v8248 := by rw [eI8453, pp_ne _ _ (Or.inr (by decide))]; exact e8443
          have e8459 : I8453 (ad g 44) 3 = v8261 := by rw [eI8453, pp_ne _ _ (Or.inr (by decide))]; exact e8444
          have e8460 : I8453 (ad g 44) 4 = v8399 := by rw [eI8453, pp_ne _ _ (Or.inr (by decide))]; exact e8445
          have e8461 : I8453 (ad g 44) 5 = v8410 := by rw [eI8453, pp_ne _ _ (Or.inr (by decide))]; exact e8446
          have e8462 : I8453 (ad g 44) 6 = v8422 := by rw [eI8453, pp_ne _ _ (Or.inr (by decide))]; exact e8447
          have e8463 : I8453 (ad g 44) 7 = v8437 := by rw [eI8453, pp_ne _ _ (Or.inr (by decide))]; exact e8448
          have e8464 : I8453 (ad g 44) 8 = v8452 := by rw [eI8453, pp_self]
          have fr8465 : fz 74 g [44] I I8453 := by rw [eI8453]; exact fzx_pp hy fr8449 (by decide) (by decide)
          clear eI8453
          exact WP_vret dX6_load_215 rfl ⟨⟨hI8453, rfl, fr8465, rfl, (by
                have yill : I (ad g (6 + 5)) so.toInt.toNat >>> (nI da.toInt.toNat &&& 31) &&& 1 = v7808 := by rw [show I (ad g (6 + 5)) so.toInt.toNat = v7805 from yv7805, show nI da.toInt.toNat = da from (eq32 _ _).mpr (by rw [nI_toInt (by omega)]; omega), xv7808, xv7806, (eq32 v7807 1).mpr hv7807]
                have yst : I (ad g 6) 4 = v7804 := est
                unfold LD
                simp only [e8456, e8457, e8458, e8459, e8460, e8461, e8462, e8463, yill, yst, show I (ad g (6 + 7)) _ = _ from yv8235, show I (ad g (6 + 8)) _ = _ from yv8241, show I (ad g (6 + 9)) _ = _ from yv8248, yv8261, true_and, and_true]
                omega)⟩, rfl⟩
        · refine WQ_iconst (1) (1) dX6_load_207 rfl rfl (fun v8466 hv8466 => ?_)
          refine WP_goto 212 dX6_load_208 rfl ?_
          refine WQ_putz dX6_load_212 fX6_67 rfl rfl (by omega) (lyx_is hy 44 6 rfl) (fun I8467 eI8467 => ?_)
          have hI8467 : XI g n L I8467 := by rw [eI8467]; exact (xi_f hy hI8438 (c := 44) (0) (0) (1) (by decide) (Or.inl (by decide)) (by decide) (by omega) (by omega))
          have e8468 : I8467 (ad g 1) 1 = L := by rw [eI8467, pp_ne _ _ (Or.inl (lyx_ne hy (by decide) (by decide) (by decide)))]; exact e8439
          have e8469 : I8467 (ad g 6) 4 = v7804 := by rw [eI8467, pp_ne _ _ (Or.inl (lyx_ne hy (by decide) (by decide) (by decide)))]; exact e8440
          have e8470 : I8467 (ad g 44) 0 = v8235 := by rw [eI8467, pp_ne _ _ (Or.inr (by decide))]; exact e8441
          have e8471 : I8467 (ad g 44) 1 = v8241 := by rw [eI8467, pp_ne _ _ (Or.inr (by decide))]; exact e8442
          have e8472 : I8467 (ad g 44) 2 = v8248 := by rw [eI8467, pp_ne _ _ (Or.inr (by decide))]; exact e8443
          have e8473 : I8467 (ad g 44) 3 = v8261 := by rw [eI8467, pp_ne _ _ (Or.inr (by decide))]; exact e8444
          have e8474 : I8467 (ad g 44) 4 = v8399 := by rw [eI8467, pp_ne _ _ (Or.inr (by decide))]; exact e8445
          have e8475 : I8467 (ad g 44) 5 = v8410 := by rw [eI8467, pp_ne _ _ (Or.inr (by decide))]; exact e8446
          have e8476 : I8467 (ad g 44) 6 = v8422 := by rw [eI8467, pp_ne _ _ (Or.inr (by decide))]; exact e8447
          have e8477 : I8467 (ad g 44) 7 = v8437 := by rw [eI8467, pp_ne _ _ (Or.inr (by decide))]; exact e8448
          have e8478 : I8467 (ad g 44) 8 = v8466 := by rw [eI8467, pp_self]
          have fr8479 : fz 74 g [44] I I8467 := by rw [eI8467]; exact fzx_pp hy fr8449 (by decide) (by decide)
          clear eI8467
          exact WP_vret dX6_load_215 rfl ⟨⟨hI8467, rfl, fr8479, rfl, (by
                have yill : I (ad g (6 + 5)) so.toInt.toNat >>> (nI da.toInt.toNat &&& 31) &&& 1 = v7808 := by rw [show I (ad g (6 + 5)) so.toInt.toNat = v7805 from yv7805, show nI da.toInt.toNat = da from (eq32 _ _).mpr (by rw [nI_toInt (by omega)]; omega), xv7808, xv7806, (eq32 v7807 1).mpr hv7807]
                have yst : I (ad g 6) 4 = v7804 := est
                unfold LD
                simp only [e8470, e8471, e8472, e8473, e8474, e8475, e8476, e8477, yill, yst, show I (ad g (6 + 7)) _ = _ from yv8235, show I (ad g (6 + 8)) _ = _ from yv8241, show I (ad g (6 + 9)) _ = _ from yv8248, yv8261, true_and, and_true]
                omega)⟩, rfl⟩
    · refine WQ_iconst (0) (0) dX6_load_87 rfl rfl (fun v8480 hv8480 => ?_)
      refine WP_goto 105 dX6_load_88 rfl ?_
      refine WQ_puti dX6_load_105 fX6_48 rfl rfl (lyx_is hy 44 6 rfl) (fun I8481 eI8481 => ?_)
      have hI8481 : XI g n L I8481 := by rw [eI8481]; exact (xi_f hy hI8249 (c := 44) (0) (0) (20) (by decide) (Or.inl (by decide)) (by decide) (by omega) (by omega))
      have e8482 : I8481 (ad g 1) 1 = L := by rw [eI8481, pp_ne _ _ (Or.inl (lyx_ne hy (by decide) (by decide) (by decide)))]; exact e8250
      have e8483 : I8481 (ad g 6) 4 = v7804 := by rw [eI8481, pp_ne _ _ (Or.inl (lyx_ne hy (by decide) (by decide) (by decide)))]; exact e8251
      have e8484 : I8481 (ad g 44) 0 = v8235 := by rw [eI8481, pp_ne _ _ (Or.inr (by decide))]; exact e8252
      have e8485 : I8481 (ad g 44) 1 = v8241 := by rw [eI8481, pp_ne _ _ (Or.inr (by decide))]; exact e8253
      have e8486 : I8481 (ad g 44) 2 = v8248 := by rw [eI8481, pp_ne _ _ (Or.inr (by decide))]; exact e8254
      have e8487 : I8481 (ad g 44) 3 = v8480 := by rw [eI8481, pp_self]
      have fr8488 : fz 74 g [44] I I8481 := by rw [eI8481]; exact fzx_pp hy fr8255 (by decide) (by decide)
      clear eI8481
      refine WP_aload_n dX6_load_108 rfl ?_
      refine WP_iload dX6_load_109 rfl ?_
      refine WQ_iconst (-1) (-1) dX6_load_111 rfl rfl (fun v8489 hv8489 => ?_)
      refine WQ_icmp_ne 119 dX6_load_112 rfl (fun c8489 => ?_) (fun c8489 => ?_)
      · refine WP_aload_n dX6_load_119 rfl ?_
        refine WP_getr dX6_load_120 fX6_45 rfl (lyx_is hy 5 0 rfl) (rfx hr 5 1 22 (by decide)) ?_
        refine WP_iload dX6_load_123 rfl ?_
        refine WQ_bipush (7) (7) dX6_load_125 rfl rfl (fun v8491 hv8491 => ?_)
        refine WQ_imulk (7) dX6_load_127 hv8491 (by omega) (by omega) (fun v8492 hv8492 => ?_)
        refine WP_iload_n dX6_load_128 rfl ?_
        refine WQ_iadd dX6_load_129 (by omega) (by omega) (fun v8493 hv8493 => ?_)
        refine WQ_ialdb dX6_load_130 (lyx_is hy 22 13 rfl) (lyx_n hy 22 21 rfl) (by omega) (by omega) (fun q hq => BT_get hI8481.1 22 0 21 (0) (0) (20) (by decide) q (Nat.zero_le _) hq) (fun v8494 av8494 bv8494 zv8494 => ?_)
        have yv8494 : I (ad g 22) (7 * v7804.toInt + da.toInt).toNat = v8494 := by rw [← fz_at fr8488 22 (by decide) (by decide), show (7 * v7804.toInt + da.toInt).toNat = v8493.toInt.toNat by omega]; exact zv8494
        refine WQ_puti dX6_load_131 fX6_51 rfl rfl (lyx_is hy 44 6 rfl) (fun I8495 eI8495 => ?_)
        have hI8495 : XI g n L I8495 := by rw [eI8495]; exact (xi_f hy hI8481 (c := 44) (0) (0) (20) (by decide) (Or.inl (by decide)) (by decide) (by omega) (by omega))
        have e8496 : I8495 (ad g 1) 1 = L := by rw [eI8495, pp_ne _ _ (Or.inl (lyx_ne hy (by decide) (by decide) (by decide)))]; exact e8482
        have e8497 : I8495 (ad g 6) 4 = v7804 := by rw [eI8495, pp_ne _ _ (Or.inl (lyx_ne hy (by decide) (by decide) (by decide)))]; exact e8483
        have e8498 : I8495 (ad g 44) 0 = v8235 := by rw [eI8495, pp_ne _ _ (Or.inr (by decide))]; exact e8484
        have e8499 : I8495 (ad g 44) 1 = v8241 := by rw [eI8495, pp_ne _ _ (Or.inr (by decide))]; exact e8485
        have e8500 : I8495 (ad g 44) 2 = v8248 := by rw [eI8495, pp_ne _ _ (Or.inr (by decide))]; exact e8486
        have e8501 : I8495 (ad g 44) 3 = v8480 := by rw [eI8495, pp_ne _ _ (Or.inr (by decide))]; exact e8487
        have e8502 : I8495 (ad g 44) 4 = v8494 := by rw [eI8495, pp_self]
        have fr8503 : fz 74 g [44] I I8495 := by rw [eI8495]; exact fzx_pp hy fr8488 (by decide) (by decide)
        clear eI8495
        refine WP_aload_n dX6_load_134 rfl ?_
        refine WP_iload dX6_load_135 rfl ?_
        refine WQ_if_eq 144 dX6_load_137 rfl (fun c8503 => False.elim (by omega)) (fun c8503 => ?_)
        refine WQ_iconst (0) (0) dX6_load_140 rfl rfl (fun v8505 hv8505 => ?_)
        refine WP_goto 148 dX6_load_141 rfl ?_
        refine WQ_puti dX6_load_148 fX6_54 rfl rfl (lyx_is hy 44 6 rfl) (fun I8506 eI8506 => ?_)
        have hI8506 : XI g n L I8506 := by rw [eI8506]; exact (xi_f hy hI8495 (c := 44) (0) (0) (3) (by decide) (Or.inl (by decide)) (by decide) (by omega) (by omega))
        have e8507 : I8506 (ad g 1) 1 = L := by rw [eI8506, pp_ne _ _ (Or.inl (lyx_ne hy (by decide) (by decide) (by decide)))]; exact e8496
        have e8508 : I8506 (ad g 6) 4 = v7804 := by rw [eI8506, pp_ne _ _ (Or.inl (lyx_ne hy (by decide) (by decide) (by decide)))]; exact e8497
        have e8509 : I8506 (ad g 44) 0 = v8235 := by rw [eI8506, pp_ne _ _ (Or.inr (by decide))]; exact e8498
        have e8510 : I8506 (ad g 44) 1 = v8241 := by rw [eI8506, pp_ne _ _ (Or.inr (by decide))]; exact e8499
        have e8511 : I8506 (ad g 44) 2 = v8248 := by rw [eI8506, pp_ne _ _ (Or.inr (by decide))]; exact e8500
        have e8512 : I8506 (ad g 44) 3 = v8480 := by rw [eI8506, pp_ne _ _ (Or.inr (by decide))]; exact e8501
        have e8513 : I8506 (ad g 44) 4 = v8494 := by rw [eI8506, pp_ne _ _ (Or.inr (by decide))]; exact e8502
        have e8514 : I8506 (ad g 44) 5 = v8505 := by rw [eI8506, pp_self]
        have fr8515 : fz 74 g [44] I I8506 := by rw [eI8506]; exact fzx_pp hy fr8503 (by decide) (by decide)
        clear eI8506
        refine WP_aload_n dX6_load_151 rfl ?_
        refine WP_iload dX6_load_152 rfl ?_
        refine WQ_if_ne 163 dX6_load_154 rfl (fun c8515 => ?_) (fun c8515 => False.elim (by omega))
        refine WQ_iconst (0) (0) dX6_load_163 rfl rfl (fun v8517 hv8517 => ?_)
        refine WP_goto 168 dX6_load_164 rfl ?_
        refine WQ_puti dX6_load_168 fX6_57 rfl rfl (lyx_is hy 44 6 rfl) (fun I8518 eI8518 => ?_)
        have hI8518 : XI g n L I8518 := by rw [eI8518]; exact (xi_f hy hI8506 (c := 44) (0) (0) (2) (by decide) (Or.inl (by decide)) (by decide) (by omega) (by omega))
        have e8519 : I8518 (ad g 1) 1 = L := by rw [eI8518, pp_ne _ _ (Or.inl (lyx_ne hy (by decide) (by decide) (by decide)))]; exact e8507
        have e8520 : I8518 (ad g 6) 4 = v7804 := by rw [eI8518, pp_ne _ _ (Or.inl (lyx_ne hy (by decide) (by decide) (by decide)))]; exact e8508
        have e8521 : I8518 (ad g 44) 0 = v8235 := by rw [eI8518, pp_ne _ _ (Or.inr (by decide))]; exact e8509
        have e8522 : I8518 (ad g 44) 1 = v8241 := by rw [eI8518, pp_ne _ _ (Or.inr (by decide))]; exact e8510
        have e8523 : I8518 (ad g 44) 2 = v8248 := by rw [eI8518, pp_ne _ _ (Or.inr (by decide))]; exact e8511
        have e8524 : I8518 (ad g 44) 3 = v8480 := by rw [eI8518, pp_ne _ _ (Or.inr (by decide))]; exact e8512
        have e8525 : I8518 (ad g 44) 4 = v8494 := by rw [eI8518, pp_ne _ _ (Or.inr (by decide))]; exact e8513
        have e8526 : I8518 (ad g 44) 5 = v8505 := by rw [eI8518, pp_ne _ _ (Or.inr (by decide))]; exact e8514
        have e8527 : I8518 (ad g 44) 6 = v8517 := by rw [eI8518, pp_self]
        have fr8528 : fz 74 g [44] I I8518 := by rw [eI8518]; exact fzx_pp hy fr8515 (by decide) (by decide)
        clear eI8518
        refine WP_aload_n dX6_load_171 rfl ?_
        refine WP_aload_n dX6_load_172 rfl ?_
        refine WQ_getim dX6_load_173 fX6_9 rfl (lyx_is hy 44 6 rfl) e8521 ?_
        refine WQ_iconst (-1) (-1) dX6_load_176 rfl rfl (fun v8529 hv8529 => ?_)
        refine WQ_icmp_eq 193 dX6_load_177 rfl (fun c8529 => ?_) (fun c8529 => False.elim (by omega))
        refine WQ_iconst (0) (0) dX6_load_193 rfl rfl (fun v8531 hv8531 => ?_)
        refine WQ_putz dX6_load_194 fX6_60 rfl rfl (by omega) (lyx_is hy 44 6 rfl) (fun I8532 eI8532 => ?_)
        have hI8532 : XI g n L I8532 := by rw [eI8532]; exact (xi_f hy hI8518 (c := 44) (0) (0) (1) (by decide) (Or.inl (by decide)) (by decide) (by omega) (by omega))
        have e8533 : I8532 (ad g 1) 1 = L := by rw [eI8532, pp_ne _ _ (Or.inl (lyx_ne hy (by decide) (by decide) (by decide)))]; exact e8519
        have e8534 : I8532 (ad g 6) 4 = v7804 := by rw [eI8532, pp_ne _ _ (Or.inl (lyx_ne hy (by decide) (by decide) (by decide)))]; exact e8520
        have e8535 : I8532 (ad g 44) 0 = v8235 := by rw [eI8532, pp_ne _ _ (Or.inr (by decide))]; exact e8521
        have e8536 : I8532 (ad g 44) 1 = v8241 := by rw [eI8532, pp_ne _ _ (Or.inr (by decide))]; exact e8522
        have e8537 : I8532 (ad g 44) 2 = v8248 := by rw [eI8532, pp_ne _ _ (Or.inr (by decide))]; exact e8523
        have e8538 : I8532 (ad g 44) 3 = v8480 := by rw [eI8532, pp_ne _ _ (Or.inr (by decide))]; exact e8524
        have e8539 : I8532 (ad g 44) 4 = v8494 := by rw [eI8532, pp_ne _ _ (Or.inr (by decide))]; exact e8525
        have e8540 : I8532 (ad g 44) 5 = v8505 := by rw [eI8532, pp_ne _ _ (Or.inr (by decide))]; exact e8526
        have e8541 : I8532 (ad g 44) 6 = v8517 := by rw [eI8532, pp_ne _ _ (Or.inr (by decide))]; exact e8527
        have e8542 : I8532 (ad g 44) 7 = v8531 := by rw [eI8532, pp_self]
        have fr8543 : fz 74 g [44] I I8532 := by rw [eI8532]; exact fzx_pp hy fr8528 (by decide) (by decide)
        clear eI8532
        refine WP_aload_n dX6_load_197 rfl ?_
        refine WP_aload_n dX6_load_198 rfl ?_
        refine WP_getr dX6_load_199 fX6_64 rfl (lyx_is hy 5 0 rfl) (rfx hr 5 2 23 (by decide)) ?_
        refine WP_iload_n dX6_load_202 rfl ?_
        refine WQ_iald dX6_load_203 (lyx_is hy 23 13 rfl) (lyx_n hy 23 7 rfl) (by omega) (by omega) (fun q hq => BT_get hI8532.1 23 0 7 (0) (0) (900) (by decide) q (Nat.zero_le _) hq) (fun v8544 av8544 bv8544 ev8544 => ?_)
        clear ev8544
        refine WQ_if_le 211 dX6_load_204 rfl (fun c8544 => ?_) (fun c8544 => ?_)
        · refine WQ_iconst (0) (0) dX6_load_211 rfl rfl (fun v8546 hv8546 => ?_)
          refine WQ_putz dX6_load_212 fX6_67 rfl rfl (by omega) (lyx_is hy 44 6 rfl) (fun I8547 eI8547 => ?_)
          have hI8547 : XI g n L I8547 := by rw [eI8547]; exact (xi_f hy hI8532 (c := 44) (0) (0) (1) (by decide) (Or.inl (by decide)) (by decide) (by omega) (by omega))
          have e8548 : I8547 (ad g 1) 1 = L := by rw [eI8547, pp_ne _ _ (Or.inl (lyx_ne hy (by decide) (by decide) (by decide)))]; exact e8533
          have e8549 : I8547 (ad g 6) 4 = v7804 := by rw [eI8547, pp_ne _ _ (Or.inl (lyx_ne hy (by decide) (by decide) (by decide)))]; exact e8534
          have e8550 : I8547 (ad g 44) 0 = v8235 := by rw [eI8547, pp_ne _ _ (Or.inr (by decide))]; exact e8535
          have e8551 : I8547 (ad g 44) 1 = v8241 := by rw [eI8547, pp_ne _ _ (Or.inr (by decide))]; exact e8536
          have e8552 : I8547 (ad g 44) 2 = v8248 := by rw [eI8547, pp_ne _ _ (Or.inr (by decide))]; exact e8537
          have e8553 : I8547 (ad g 44) 3 = v8480 := by rw [eI8547, pp_ne _ _ (Or.inr (by decide))]; exact e8538
          have e8554 : I8547 (ad g 44) 4 = v8494 := by rw [eI8547, pp_ne _ _ (Or.inr (by decide))]; exact e8539
          have e8555 : I8547 (ad g 44) 5 = v8505 := by rw [eI8547, pp_ne _ _ (Or.inr (by decide))]; exact e8540
          have e8556 : I8547 (ad g 44) 6 = v8517 := by rw [eI8547, pp_ne _ _ (Or.inr (by decide))]; exact e8541
          have e8557 : I8547 (ad g 44) 7 = v8531 := by rw [eI8547, pp_ne _ _ (Or.inr (by decide))]; exact e8542
          have e8558 : I8547 (ad g 44) 8 = v8546 := by rw [eI8547, pp_self]
          have fr8559 : fz 74 g [44] I I8547 := by rw [eI8547]; exact fzx_pp hy fr8543 (by decide) (by decide)
          clear eI8547
          exact WP_vret dX6_load_215 rfl ⟨⟨hI8547, rfl, fr8559, rfl, (by
                have yill : I (ad g (6 + 5)) so.toInt.toNat >>> (nI da.toInt.toNat &&& 31) &&& 1 = v7808 := by rw [show I (ad g (6 + 5)) so.toInt.toNat = v7805 from yv7805, show nI da.toInt.toNat = da from (eq32 _ _).mpr (by rw [nI_toInt (by omega)]; omega), xv7808, xv7806, (eq32 v7807 1).mpr hv7807]
                have yst : I (ad g 6) 4 = v7804 := est
                unfold LD
                simp only [e8550, e8551, e8552, e8553, e8554, e8555, e8556, e8557, yill, yst, show I (ad g (6 + 7)) _ = _ from yv8235, show I (ad g (6 + 8)) _ = _ from yv8241, show I (ad g (6 + 9)) _ = _ from yv8248, yv8494, true_and, and_true]
                omega)⟩, rfl⟩
        · refine WQ_iconst (1) (1) dX6_load_207 rfl rfl (fun v8560 hv8560 => ?_)
          refine WP_goto 212 dX6_load_208 rfl ?_
          refine WQ_putz dX6_load_212 fX6_67 rfl rfl (by omega) (lyx_is hy 44 6 rfl) (fun I8561 eI8561 => ?_)
          have hI8561 : XI g n L I8561 := by rw [eI8561]; exact (xi_f hy hI8532 (c := 44) (0) (0) (1) (by decide) (Or.inl (by decide)) (by decide) (by omega) (by omega))
          have e8562 : I8561 (ad g 1) 1 = L := by rw [eI8561, pp_ne _ _ (Or.inl (lyx_ne hy (by decide) (by decide) (by decide)))]; exact e8533
          have e8563 : I8561 (ad g 6) 4 = v7804 := by rw [eI8561, pp_ne _ _ (Or.inl (lyx_ne hy (by decide) (by decide) (by decide)))]; exact e8534
          have e8564 : I8561 (ad g 44) 0 = v8235 := by rw [eI8561, pp_ne _ _ (Or.inr (by decide))]; exact e8535
          have e8565 : I8561 (ad g 44) 1 = v8241 := by rw [eI8561, pp_ne _ _ (Or.inr (by decide))]; exact e8536
          have e8566 : I8561 (ad g 44) 2 = v8248 := by rw [eI8561, pp_ne _ _ (Or.inr (by decide))]; exact e8537
          have e8567 : I8561 (ad g 44) 3 = v8480 := by rw [eI8561, pp_ne _ _ (Or.inr (by decide))]; exact e8538
          have e8568 : I8561 (ad g 44) 4 = v8494 := by rw [eI8561, pp_ne _ _ (Or.inr (by decide))]; exact e8539
          have e8569 : I8561 (ad g 44) 5 = v8505 := by rw [eI8561, pp_ne _ _ (Or.inr (by decide))]; exact e8540
          have e8570 : I8561 (ad g 44) 6 = v8517 := by rw [eI8561, pp_ne _ _ (Or.inr (by decide))]; exact e8541
          have e8571 : I8561 (ad g 44) 7 = v8531 := by rw [eI8561, pp_ne _ _ (Or.inr (by decide))]; exact e8542
          have e8572 : I8561 (ad g 44) 8 = v8560 := by rw [eI8561, pp_self]
          have fr8573 : fz 74 g [44] I I8561 := by rw [eI8561]; exact fzx_pp hy fr8543 (by decide) (by decide)
          clear eI8561
          exact WP_vret dX6_load_215 rfl ⟨⟨hI8561, rfl, fr8573, rfl, (by
                have yill : I (ad g (6 + 5)) so.toInt.toNat >>> (nI da.toInt.toNat &&& 31) &&& 1 = v7808 := by rw [show I (ad g (6 + 5)) so.toInt.toNat = v7805 from yv7805, show nI da.toInt.toNat = da from (eq32 _ _).mpr (by rw [nI_toInt (by omega)]; omega), xv7808, xv7806, (eq32 v7807 1).mpr hv7807]
                have yst : I (ad g 6) 4 = v7804 := est
                unfold LD
                simp only [e8564, e8565, e8566, e8567, e8568, e8569, e8570, e8571, yill, yst, show I (ad g (6 + 7)) _ = _ from yv8235, show I (ad g (6 + 8)) _ = _ from yv8241, show I (ad g (6 + 9)) _ = _ from yv8248, yv8494, true_and, and_true]
                omega)⟩, rfl⟩
      · refine WQ_iconst (0) (0) dX6_load_115 rfl rfl (fun v8574 hv8574 => ?_)
        refine WP_goto 131 dX6_load_116 rfl ?_
        refine WQ_puti dX6_load_131 fX6_51 rfl rfl (lyx_is hy 44 6 rfl) (fun I8575 eI8575 => ?_)
        have hI8575 : XI g n L I8575 := by rw [eI8575]; exact (xi_f hy hI8481 (c := 44) (0) (0) (20) (by decide) (Or.inl (by decide)) (by decide) (by omega) (by omega))
        have e8576 : I8575 (ad g 1) 1 = L := by rw [eI8575, pp_ne _ _ (Or.inl (lyx_ne hy (by decide) (by decide) (by decide)))]; exact e8482
        have e8577 : I8575 (ad g 6) 4 = v7804 := by rw [eI8575, pp_ne _ _ (Or.inl (lyx_ne hy (by decide) (by decide) (by decide)))]; exact e8483
        have e8578 : I8575 (ad g 44) 0 = v8235 := by rw [eI8575, pp_ne _ _ (Or.inr (by decide))]; exact e8484
        have e8579 : I8575 (ad g 44) 1 = v8241 := by rw [eI8575, pp_ne _ _ (Or.inr (by decide))]; exact e8485
        have e8580 : I8575 (ad g 44) 2 = v8248 := by rw [eI8575, pp_ne _ _ (Or.inr (by decide))]; exact e8486
        have e8581 : I8575 (ad g 44) 3 = v8480 := by rw [eI8575, pp_ne _ _ (Or.inr (by decide))]; exact e8487
        have e8582 : I8575 (ad g 44) 4 = v8574 := by rw [eI8575, pp_self]
        have fr8583 : fz 74 g [44] I I8575 := by rw [eI8575]; exact fzx_pp hy fr8488 (by decide) (by decide)
        clear eI8575
        refine WP_aload_n dX6_load_134 rfl ?_
        refine WP_iload dX6_load_135 rfl ?_
        refine WQ_if_eq 144 dX6_load_137 rfl (fun c8583 => False.elim (by omega)) (fun c8583 => ?_)
        refine WQ_iconst (0) (0) dX6_load_140 rfl rfl (fun v8585 hv8585 => ?_)
        refine WP_goto 148 dX6_load_141 rfl ?_
        refine WQ_puti dX6_load_148 fX6_54 rfl rfl (lyx_is hy 44 6 rfl) (fun I8586 eI8586 => ?_)
        have hI8586 : XI g n L I8586 := by rw [eI8586]; exact (xi_f hy hI8575 (c := 44) (0) (0) (3) (by decide) (Or.inl (by decide)) (by decide) (by omega) (by omega))
        have e8587 : I8586 (ad g 1) 1 = L := by rw [eI8586, pp_ne _ _ (Or.inl (lyx_ne hy (by decide) (by decide) (by decide)))]; exact e8576
        have e8588 : I8586 (ad g 6) 4 = v7804 := by rw [eI8586, pp_ne _ _ (Or.inl (lyx_ne hy (by decide) (by decide) (by decide)))]; exact e8577
        have e8589 : I8586 (ad g 44) 0 = v8235 := by rw [eI8586, pp_ne _ _ (Or.inr (by decide))]; exact e8578
        have e8590 : I8586 (ad g 44) 1 = v8241 := by rw [eI8586, pp_ne _ _ (Or.inr (by decide))]; exact e8579
        have e8591 : I8586 (ad g 44) 2 = v8248 := by rw [eI8586, pp_ne _ _ (Or.inr (by decide))]; exact e8580
        have e8592 : I8586 (ad g 44) 3 = v8480 := by rw [eI8586, pp_ne _ _ (Or.inr (by decide))]; exact e8581
        have e8593 : I8586 (ad g 44) 4 = v8574 := by rw [eI8586, pp_ne _ _ (Or.inr (by decide))]; exact e8582
        have e8594 : I8586 (ad g 44) 5 = v8585 := by rw [eI8586, pp_self]
        have fr8595 : fz 74 g [44] I I8586 := by rw [eI8586]; exact fzx_pp hy fr8583 (by decide) (by decide)
        clear eI8586
        refine WP_aload_n dX6_load_151 rfl ?_
        refine WP_iload dX6_load_152 rfl ?_
        refine WQ_if_ne 163 dX6_load_154 rfl (fun c8595 => ?_) (fun c8595 => False.elim (by omega))
        refine WQ_iconst (0) (0) dX6_load_163 rfl rfl (fun v8597 hv8597 => ?_)
        refine WP_goto 168 dX6_load_164 rfl ?_
        refine WQ_puti dX6_load_168 fX6_57 rfl rfl (lyx_is hy 44 6 rfl) (fun I8598 eI8598 => ?_)
        have hI8598 : XI g n L I8598 := by rw [eI8598]; exact (xi_f hy hI8586 (c := 44) (0) (0) (2) (by decide) (Or.inl (by decide)) (by decide) (by omega) (by omega))
        have e8599 : I8598 (ad g 1) 1 = L := by rw [eI8598, pp_ne _ _ (Or.inl (lyx_ne hy (by decide) (by decide) (by decide)))]; exact e8587
        have e8600 : I8598 (ad g 6) 4 = v7804 := by rw [eI8598, pp_ne _ _ (Or.inl (lyx_ne hy (by decide) (by decide) (by decide)))]; exact e8588
        have e8601 : I8598 (ad g 44) 0 = v8235 := by rw [eI8598, pp_ne _ _ (Or.inr (by decide))]; exact e8589
        have e8602 : I8598 (ad g 44) 1 = v8241 := by rw [eI8598, pp_ne _ _ (Or.inr (by decide))]; exact e8590
        have e8603 : I8598 (ad g 44) 2 = v8248 := by rw [eI8598, pp_ne _ _ (Or.inr (by decide))]; exact e8591
        have e8604 : I8598 (ad g 44) 3 = v8480 := by rw [eI8598, pp_ne _ _ (Or.inr (by decide))]; exact e8592
        have e8605 : I8598 (ad g 44) 4 = v8574 := by rw [eI8598, pp_ne _ _ (Or.inr (by decide))]; exact e8593
        have e8606 : I8598 (ad g 44) 5 = v8585 := by rw [eI8598, pp_ne _ _ (Or.inr (by decide))]; exact e8594
        have e8607 : I8598 (ad g 44) 6 = v8597 := by rw [eI8598, pp_self]
        have fr8608 : fz 74 g [44] I I8598 := by rw [eI8598]; exact fzx_pp hy fr8595 (by decide) (by decide)
        clear eI8598
        refine WP_aload_n dX6_load_171 rfl ?_
        refine WP_aload_n dX6_load_172 rfl ?_
        refine WQ_getim dX6_load_173 fX6_9 rfl (lyx_is hy 44 6 rfl) e8601 ?_
        refine WQ_iconst (-1) (-1) dX6_load_176 rfl rfl (fun v8609 hv8609 => ?_)
        refine WQ_icmp_eq 193 dX6_load_177 rfl (fun c8609 => ?_) (fun c8609 => False.elim (by omega))
        refine WQ_iconst (0) (0) dX6_load_193 rfl rfl (fun v8611 hv8611 => ?_)
        refine WQ_putz dX6_load_194 fX6_60 rfl rfl (by omega) (lyx_is hy 44 6 rfl) (fun I8612 eI8612 => ?_)
        have hI8612 : XI g n L I8612 := by rw [eI8612]; exact (xi_f hy hI8598 (c := 44) (0) (0) (1) (by decide) (Or.inl (by decide)) (by decide) (by omega) (by omega))
        have e8613 : I8612 (ad g 1) 1 = L := by rw [eI8612, pp_ne _ _ (Or.inl (lyx_ne hy (by decide) (by decide) (by decide)))]; exact e8599
        have e8614 : I8612 (ad g 6) 4 = v7804 := by rw [eI8612, pp_ne _ _ (Or.inl (lyx_ne hy (by decide) (by decide) (by decide)))]; exact e8600
        have e8615 : I8612 (ad g 44) 0 = v8235 := by rw [eI8612, pp_ne _ _ (Or.inr (by decide))]; exact e8601
        have e8616 : I8612 (ad g 44) 1 = v8241 := by rw [eI8612, pp_ne _ _ (Or.inr (by decide))]; exact e8602
        have e8617 : I8612 (ad g 44) 2 = v8248 := by rw [eI8612, pp_ne _ _ (Or.inr (by decide))]; exact e8603
        have e8618 : I8612 (ad g 44) 3 = v8480 := by rw [eI8612, pp_ne _ _ (Or.inr (by decide))]; exact e8604
        have e8619 : I8612 (ad g 44) 4 = v8574 := by rw [eI8612, pp_ne _ _ (Or.inr (by decide))]; exact e8605
        have e8620 : I8612 (ad g 44) 5 = v8585 := by rw [eI8612, pp_ne _ _ (Or.inr (by decide))]; exact e8606
        have e8621 : I8612 (ad g 44) 6 = v8597 := by rw [eI8612, pp_ne _ _ (Or.inr (by decide))]; exact e8607
        have e8622 : I8612 (ad g 44) 7 = v8611 := by rw [eI8612, pp_self]
        have fr8623 : fz 74 g [44] I I8612 := by rw [eI8612]; exact fzx_pp hy fr8608 (by decide) (by decide)
        clear eI8612
        refine WP_aload_n dX6_load_197 rfl ?_
        refine WP_aload_n dX6_load_198 rfl ?_
        refine WP_getr dX6_load_199 fX6_64 rfl (lyx_is hy 5 0 rfl) (rfx hr 5 2 23 (by decide)) ?_
        refine WP_iload_n dX6_load_202 rfl ?_
        refine WQ_iald dX6_load_203 (lyx_is hy 23 13 rfl) (lyx_n hy 23 7 rfl) (by omega) (by omega) (fun q hq => BT_get hI8612.1 23 0 7 (0) (0) (900) (by decide) q (Nat.zero_le _) hq) (fun v8624 av8624 bv8624 ev8624 => ?_)
        clear ev8624
        refine WQ_if_le 211 dX6_load_204 rfl (fun c8624 => ?_) (fun c8624 => ?_)
        · refine WQ_iconst (0) (0) dX6_load_211 rfl rfl (fun v8626 hv8626 => ?_)
          refine WQ_putz dX6_load_212 fX6_67 rfl rfl (by omega) (lyx_is hy 44 6 rfl) (fun I8627 eI8627 => ?_)
          have hI8627 : XI g n L I8627 := by rw [eI8627]; exact (xi_f hy hI8612 (c := 44) (0) (0) (1) (by decide) (Or.inl (by decide)) (by decide) (by omega) (by omega))
          have e8628 : I8627 (ad g 1) 1 = L := by rw [eI8627, pp_ne _ _ (Or.inl (lyx_ne hy (by decide) (by decide) (by decide)))]; exact e8613
          have e8629 : I8627 (ad g 6) 4 = v7804 := by rw [eI8627, pp_ne _ _ (Or.inl (lyx_ne hy (by decide) (by decide) (by decide)))]; exact e8614
          have e8630 : I8627 (ad g 44) 0 = v8235 := by rw [eI8627, pp_ne _ _ (Or.inr (by decide))]; exact e8615
          have e8631 : I8627 (ad g 44) 1 = v8241 := by rw [eI8627, pp_ne _ _ (Or.inr (by decide))]; exact e8616
          have e8632 : I8627 (ad g 44) 2 = v8248 := by rw [eI8627, pp_ne _ _ (Or.inr (by decide))]; exact e8617
          have e8633 : I8627 (ad g 44) 3 = v8480 := by rw [eI8627, pp_ne _ _ (Or.inr (by decide))]; exact e8618
          have e8634 : I8627 (ad g 44) 4 = v8574 := by rw [eI8627, pp_ne _ _ (Or.inr (by decide))]; exact e8619
          have e8635 : I8627 (ad g 44) 5 = v8585 := by rw [eI8627, pp_ne _ _ (Or.inr (by decide))]; exact e8620
          have e8636 : I8627 (ad g 44) 6 = v8597 := by rw [eI8627, pp_ne _ _ (Or.inr (by decide))]; exact e8621
          have e8637 : I8627 (ad g 44) 7 = v8611 := by rw [eI8627, pp_ne _ _ (Or.inr (by decide))]; exact e8622
          have e8638 : I8627 (ad g 44) 8 = v8626 := by rw [eI8627, pp_self]
          have fr8639 : fz 74 g [44] I I8627 := by rw [eI8627]; exact fzx_pp hy fr8623 (by decide) (by decide)
          clear eI8627
          exact WP_vret dX6_load_215 rfl ⟨⟨hI8627, rfl, fr8639, rfl, (by
                have yill : I (ad g (6 + 5)) so.toInt.toNat >>> (nI da.toInt.toNat &&& 31) &&& 1 = v7808 := by rw [show I (ad g (6 + 5)) so.toInt.toNat = v7805 from yv7805, show nI da.toInt.toNat = da from (eq32 _ _).mpr (by rw [nI_toInt (by omega)]; omega), xv7808, xv7806, (eq32 v7807 1).mpr hv7807]
                have yst : I (ad g 6) 4 = v7804 := est
                unfold LD
                simp only [e8630, e8631, e8632, e8633, e8634, e8635, e8636, e8637, yill, yst, show I (ad g (6 + 7)) _ = _ from yv8235, show I (ad g (6 + 8)) _ = _ from yv8241, show I (ad g (6 + 9)) _ = _ from yv8248, true_and, and_true]
                omega)⟩, rfl⟩
        · refine WQ_iconst (1) (1) dX6_load_207 rfl rfl (fun v8640 hv8640 => ?_)
          refine WP_goto 212 dX6_load_208 rfl ?_
          refine WQ_putz dX6_load_212 fX6_67 rfl rfl (by omega) (lyx_is hy 44 6 rfl) (fun I8641 eI8641 => ?_)
          have hI8641 : XI g n L I8641 := by rw [eI8641]; exact (xi_f hy hI8612 (c := 44) (0) (0) (1) (by decide) (Or.inl (by decide)) (by decide) (by omega) (by omega))
          have e8642 : I8641 (ad g 1) 1 = L := by rw [eI8641, pp_ne _ _ (Or.inl (lyx_ne hy (by decide) (by decide) (by decide)))]; exact e8613
          have e8643 : I8641 (ad g 6) 4 = v7804 := by rw [eI8641, pp_ne _ _ (Or.inl (lyx_ne hy (by decide) (by decide) (by decide)))]; exact e8614
          have e8644 : I8641 (ad g 44) 0 = v8235 := by rw [eI8641, pp_ne _ _ (Or.inr (by decide))]; exact e8615
          have e8645 : I8641 (ad g 44) 1 = v8241 := by rw [eI8641, pp_ne _ _ (Or.inr (by decide))]; exact e8616
          have e8646 : I8641 (ad g 44) 2 = v8248 := by rw [eI8641, pp_ne _ _ (Or.inr (by decide))]; exact e8617
          have e8647 : I8641 (ad g 44) 3 = v8480 := by rw [eI8641, pp_ne _ _ (Or.inr (by decide))]; exact e8618
          have e8648 : I8641 (ad g 44) 4 = v8574 := by rw [eI8641, pp_ne _ _ (Or.inr (by decide))]; exact e8619
          have e8649 : I8641 (ad g 44) 5 = v8585 := by rw [eI8641, pp_ne _ _ (Or.inr (by decide))]; exact e8620
          have e8650 : I8641 (ad g 44) 6 = v8597 := by rw [eI8641, pp_ne _ _ (Or.inr (by decide))]; exact e8621
          have e8651 : I8641 (ad g 44) 7 = v8611 := by rw [eI8641, pp_ne _ _ (Or.inr (by decide))]; exact e8622
          have e8652 : I8641 (ad g 44) 8 = v8640 := by rw [eI8641, pp_self]
          have fr8653 : fz 74 g [44] I I8641 := by rw [eI8641]; exact fzx_pp hy fr8623 (by decide) (by decide)
          clear eI8641
          exact WP_vret dX6_load_215 rfl ⟨⟨hI8641, rfl, fr8653, rfl, (by
                have yill : I (ad g (6 + 5)) so.toInt.toNat >>> (nI da.toInt.toNat &&& 31) &&& 1 = v7808 := by rw [show I (ad g (6 + 5)) so.toInt.toNat = v7805 from yv7805, show nI da.toInt.toNat = da from (eq32 _ _).mpr (by rw [nI_toInt (by omega)]; omega), xv7808, xv7806, (eq32 v7807 1).mpr hv7807]
                have yst : I (ad g 6) 4 = v7804 := est
                unfold LD
                simp only [e8644, e8645, e8646, e8647, e8648, e8649, e8650, e8651, yill, yst, show I (ad g (6 + 7)) _ = _ from yv8235, show I (ad g (6 + 8)) _ = _ from yv8241, show I (ad g (6 + 9)) _ = _ from yv8248, true_and, and_true]
                omega)⟩, rfl⟩
set_option maxHeartbeats 4000000 in
set_option maxRecDepth 100000 in
theorem sx_loadx_44_27 {g : GG} {n : Int} {L : Int32} (hy : LyX g)  {I : pI} {J : pJ} {R : pR} (hr : RfX g R) (hT : R (ad g 5) 0 = some (ad g 27)) (hI : XI g n L I) (so : Int32) (da : Int32) (so_lo : 0 ≤ so.toInt) (so_hi : so.toInt ≤ 3) (da_lo : 0 ≤ da.toInt) (da_hi : da.toInt ≤ 6) : SP g mX6_load [.ref (ad g 44), .ref (ad g 5), .int so, .int da] I J R (fun r I' J' R' => (XI g n L I' ∧ R' = R ∧ fz 74 g [44] I I' ∧ J' = J ∧ LD g 27 I so.toInt da.toInt (I' (ad g 44))) ∧ r = none) := by
  refine SP_of ⟨by decide, rfl⟩ (Nat.le_of_ble_eq_true rfl) ?_
  have e8654 : I (ad g 1) 1 = L := hI.2
  have b8655 := BT_get hI.1 1 1 2 (0) (0) (900) (by decide) 1 (by decide) (by decide)
  rw [e8654] at b8655
  have fr0 : fz 74 g [44] I I := fz_rf
  refine WP_aload_n dX6_load_0 rfl ?_
  refine WP_getr dX6_load_1 fX6_15 rfl (lyx_is hy 5 0 rfl) hT ?_
  refine WP_astore (ls' := [(0, _), (1, _), (2, _), (3, _), (4, _)]) dX6_load_4 (by decide) rfl ?_
  refine WP_iload_n dX6_load_6 rfl ?_
  refine WQ_bipush (7) (7) dX6_load_7 rfl rfl (fun v8656 hv8656 => ?_)
  refine WQ_imulk (7) dX6_load_9 hv8656 (by omega) (by omega) (fun v8657 hv8657 => ?_)
  refine WP_iload_n dX6_load_10 rfl ?_
  refine WQ_iadd dX6_load_11 (by omega) (by omega) (fun v8658 hv8658 => ?_)
  refine WP_istore (ls' := [(0, _), (1, _), (2, _), (3, _), (4, _), (5, _)]) dX6_load_12 (by decide) rfl ?_
  refine WP_aload dX6_load_14 rfl ?_
  refine WQ_geti dX6_load_16 fX6_21 rfl (lyx_is hy 27 7 rfl) (BT_get hI.1 27 4 5 (-1) (0) (2) (by decide) 4 (by decide) (by decide)) (fun v8659 ev8659 av8659 bv8659 => ?_)
  have est : I (ad g 27) 4 = v8659 := ev8659
  refine WP_istore (ls' := [(0, _), (1, _), (2, _), (3, _), (4, _), (5, _), (6, _)]) dX6_load_19 (by decide) rfl ?_
  refine WP_aload dX6_load_21 rfl ?_
  refine WP_getr dX6_load_23 fX6_26 rfl (lyx_is hy 27 7 rfl) (rfx hr 27 9 32 (by decide)) ?_
  refine WP_iload_n dX6_load_26 rfl ?_
  refine WQ_ialdx dX6_load_27 (lyx_is hy 32 13 rfl) (lyx_n hy 32 4 rfl) (by omega) (by omega) (fun v8660 zv8660 => ?_)
  have yv8660 : I (ad g 32) (so.toInt).toNat = v8660 := by rw [← fz_at fr0 32 (by decide) (by decide), show (so.toInt).toNat = so.toInt.toNat by omega]; exact zv8660
  refine WP_iload_n dX6_load_28 rfl ?_
  refine WQ_ishrx dX6_load_29 (fun v8661 xv8661 => ?_)
  refine WQ_iconst (1) (1) dX6_load_30 rfl rfl (fun v8662 hv8662 => ?_)
  refine WQ_iandx dX6_load_31 (fun v8663 xv8663 => ?_)
  refine WQ_if_eq 39 dX6_load_32 rfl (fun c8663 => ?_) (fun c8663 => ?_)
  · refine WQ_iconst (0) (0) dX6_load_39 rfl rfl (fun v8665 hv8665 => ?_)
    refine WP_istore (ls' := [(0, _), (1, _), (2, _), (3, _), (4, _), (5, _), (6, _), (7, _)]) dX6_load_40 (by decide) rfl ?_
    refine WP_aload_n dX6_load_42 rfl ?_
    refine WP_aload dX6_load_43 rfl ?_
    refine WP_getr dX6_load_45 fX6_30 rfl (lyx_is hy 27 7 rfl) (rfx hr 27 11 34 (by decide)) ?_
    refine WP_iload dX6_load_48 rfl ?_
    refine WQ_ialdb dX6_load_50 (lyx_is hy 34 13 rfl) (lyx_n hy 34 28 rfl) (by omega) (by omega) (fun q hq => BT_get hI.1 34 0 28 (-1) (0) (2) (by decide) q (Nat.zero_le _) hq) (fun v8666 av8666 bv8666 zv8666 => ?_)
    have yv8666 : I (ad g 34) (7 * so.toInt + da.toInt).toNat = v8666 := by rw [← fz_at fr0 34 (by decide) (by decide), show (7 * so.toInt + da.toInt).toNat = v8658.toInt.toNat by omega]; exact zv8666
    refine WQ_puti dX6_load_51 fX6_9 rfl rfl (lyx_is hy 44 6 rfl) (fun I8667 eI8667 => ?_)
    have hI8667 : XI g n L I8667 := by rw [eI8667]; exact (xi_f hy hI (c := 44) (-1) (0) (2) (by decide) (Or.inl (by decide)) (by decide) (by omega) (by omega))
    have e8668 : I8667 (ad g 1) 1 = L := by rw [eI8667, pp_ne _ _ (Or.inl (lyx_ne hy (by decide) (by decide) (by decide)))]; exact e8654
    have e8669 : I8667 (ad g 27) 4 = v8659 := by rw [eI8667, pp_ne _ _ (Or.inl (lyx_ne hy (by decide) (by decide) (by decide)))]; exact ev8659
    have e8670 : I8667 (ad g 44) 0 = v8666 := by rw [eI8667, pp_self]
    have fr8671 : fz 74 g [44] I I8667 := by rw [eI8667]; exact fzx_pp hy fr0 (by decide) (by decide)
    clear eI8667
    refine WP_aload_n dX6_load_54 rfl ?_
    refine WP_aload dX6_load_55 rfl ?_
    refine WP_getr dX6_load_57 fX6_33 rfl (lyx_is hy 27 7 rfl) (rfx hr 27 12 35 (by decide)) ?_
    refine WP_iload dX6_load_60 rfl ?_
    refine WQ_ialdb dX6_load_62 (lyx_is hy 35 13 rfl) (lyx_n hy 35 28 rfl) (by omega) (by omega) (fun q hq => BT_get hI8667.1 35 0 28 (0) (0) (3) (by decide) q (Nat.zero_le _) hq) (fun v8672 av8672 bv8672 zv8672 => ?_)
    have yv8672 : I (ad g 35) (7 * so.toInt + da.toInt).toNat = v8672 := by rw [← fz_at fr8671 35 (by decide) (by decide), show (7 * so.toInt + da.toInt).toNat = v8658.toInt.toNat by omega]; exact zv8672
    refine WQ_puti dX6_load_63 fX6_36 rfl rfl (lyx_is hy 44 6 rfl) (fun I8673 eI8673 => ?_)
    have hI8673 : XI g n L I8673 := by rw [eI8673]; exact (xi_f hy hI8667 (c := 44) (0) (0) (3) (by decide) (Or.inl (by decide)) (by decide) (by omega) (by omega))
    have e8674 : I8673 (ad g 1) 1 = L := by rw [eI8673, pp_ne _ _ (Or.inl (lyx_ne hy (by decide) (by decide) (by decide)))]; exact e8668
    have e8675 : I8673 (ad g 27) 4 = v8659 := by rw [eI8673, pp_ne _ _ (Or.inl (lyx_ne hy (by decide) (by decide) (by decide)))]; exact e8669
    have e8676 : I8673 (ad g 44) 0 = v8666 := by rw [eI8673, pp_ne _ _ (Or.inr (by decide))]; exact e8670
    have e8677 : I8673 (ad g 44) 1 = v8672 := by rw [eI8673, pp_self]
    have fr8678 : fz 74 g [44] I I8673 := by rw [eI8673]; exact fzx_pp hy fr8671 (by decide) (by decide)
    clear eI8673
    refine WP_aload_n dX6_load_66 rfl ?_
    refine WP_aload dX6_load_67 rfl ?_
    refine WP_getr dX6_load_69 fX6_39 rfl (lyx_is hy 27 7 rfl) (rfx hr 27 13 36 (by decide)) ?_
    refine WP_iload dX6_load_72 rfl ?_
    refine WQ_ialdb dX6_load_74 (lyx_is hy 36 13 rfl) (lyx_n hy 36 28 rfl) (by omega) (by omega) (fun q hq => BT_get hI8673.1 36 0 28 (0) (0) (99) (by decide) q (Nat.zero_le _) hq) (fun v8679 av8679 bv8679 zv8679 => ?_)
    have yv8679 : I (ad g 36) (7 * so.toInt + da.toInt).toNat = v8679 := by rw [← fz_at fr8678 36 (by decide) (by decide), show (7 * so.toInt + da.toInt).toNat = v8658.toInt.toNat by omega]; exact zv8679
    refine WQ_puti dX6_load_75 fX6_42 rfl rfl (lyx_is hy 44 6 rfl) (fun I8680 eI8680 => ?_)
    have hI8680 : XI g n L I8680 := by rw [eI8680]; exact (xi_f hy hI8673 (c := 44) (0) (0) (99) (by decide) (Or.inl (by decide)) (by decide) (by omega) (by omega))
    have e8681 : I8680 (ad g 1) 1 = L := by rw [eI8680, pp_ne _ _ (Or.inl (lyx_ne hy (by decide) (by decide) (by decide)))]; exact e8674
    have e8682 : I8680 (ad g 27) 4 = v8659 := by rw [eI8680, pp_ne _ _ (Or.inl (lyx_ne hy (by decide) (by decide) (by decide)))]; exact e8675
    have e8683 : I8680 (ad g 44) 0 = v8666 := by rw [eI8680, pp_ne _ _ (Or.inr (by decide))]; exact e8676
    have e8684 : I8680 (ad g 44) 1 = v8672 := by rw [eI8680, pp_ne _ _ (Or.inr (by decide))]; exact e8677
    have e8685 : I8680 (ad g 44) 2 = v8679 := by rw [eI8680, pp_self]
    have fr8686 : fz 74 g [44] I I8680 := by rw [eI8680]; exact fzx_pp hy fr8678 (by decide) (by decide)
    clear eI8680
    refine WP_aload_n dX6_load_78 rfl ?_
    refine WP_aload_n dX6_load_79 rfl ?_
    refine WQ_getim dX6_load_80 fX6_9 rfl (lyx_is hy 44 6 rfl) e8683 ?_
    refine WQ_iconst (-1) (-1) dX6_load_83 rfl rfl (fun v8687 hv8687 => ?_)
    refine WQ_icmp_ne 91 dX6_load_84 rfl (fun c8687 => ?_) (fun c8687 => ?_)
    · refine WP_aload_n dX6_load_91 rfl ?_
      refine WP_getr dX6_load_92 fX6_45 rfl (lyx_is hy 5 0 rfl) (rfx hr 5 1 22 (by decide)) ?_
      refine WP_aload_n dX6_load_95 rfl ?_
      refine WQ_getim dX6_load_96 fX6_9 rfl (lyx_is hy 44 6 rfl) e8683 ?_
      refine WQ_bipush (7) (7) dX6_load_99 rfl rfl (fun v8689 hv8689 => ?_)
      refine WQ_imulk (7) dX6_load_101 hv8689 (by omega) (by omega) (fun v8690 hv8690 => ?_)
      refine WP_iload_n dX6_load_102 rfl ?_
      refine WQ_iadd dX6_load_103 (by omega) (by omega) (fun v8691 hv8691 => ?_)
      refine WQ_ialdb dX6_load_104 (lyx_is hy 22 13 rfl) (lyx_n hy 22 21 rfl) (by omega) (by omega) (fun q hq => BT_get hI8680.1 22 0 21 (0) (0) (20) (by decide) q (Nat.zero_le _) hq) (fun v8692 av8692 bv8692 zv8692 => ?_)
      have yv8692 : I (ad g 22) (7 * v8666.toInt + da.toInt).toNat = v8692 := by rw [← fz_at fr8686 22 (by decide) (by decide), show (7 * v8666.toInt + da.toInt).toNat = v8691.toInt.toNat by omega]; exact zv8692
      refine WQ_puti dX6_load_105 fX6_48 rfl rfl (lyx_is hy 44 6 rfl) (fun I8693 eI8693 => ?_)
      have hI8693 : XI g n L I8693 := by rw [eI8693]; exact (xi_f hy hI8680 (c := 44) (0) (0) (20) (by decide) (Or.inl (by decide)) (by decide) (by omega) (by omega))
      have e8694 : I8693 (ad g 1) 1 = L := by rw [eI8693, pp_ne _ _ (Or.inl (lyx_ne hy (by decide) (by decide) (by decide)))]; exact e8681
      have e8695 : I8693 (ad g 27) 4 = v8659 := by rw [eI8693, pp_ne _ _ (Or.inl (lyx_ne hy (by decide) (by decide) (by decide)))]; exact e8682
      have e8696 : I8693 (ad g 44) 0 = v8666 := by rw [eI8693, pp_ne _ _ (Or.inr (by decide))]; exact e8683
      have e8697 : I8693 (ad g 44) 1 = v8672 := by rw [eI8693, pp_ne _ _ (Or.inr (by decide))]; exact e8684
      have e8698 : I8693 (ad g 44) 2 = v8679 := by rw [eI8693, pp_ne _ _ (Or.inr (by decide))]; exact e8685
      have e8699 : I8693 (ad g 44) 3 = v8692 := by rw [eI8693, pp_self]
      have fr8700 : fz 74 g [44] I I8693 := by rw [eI8693]; exact fzx_pp hy fr8686 (by decide) (by decide)
      clear eI8693
      refine WP_aload_n dX6_load_108 rfl ?_
      refine WP_iload dX6_load_109 rfl ?_
      refine WQ_iconst (-1) (-1) dX6_load_111 rfl rfl (fun v8701 hv8701 => ?_)
      refine WQ_icmp_ne 119 dX6_load_112 rfl (fun c8701 => ?_) (fun c8701 => ?_)
      · refine WP_aload_n dX6_load_119 rfl ?_
        refine WP_getr dX6_load_120 fX6_45 rfl (lyx_is hy 5 0 rfl) (rfx hr 5 1 22 (by decide)) ?_
        refine WP_iload dX6_load_123 rfl ?_
        refine WQ_bipush (7) (7) dX6_load_125 rfl rfl (fun v8703 hv8703 => ?_)
        refine WQ_imulk (7) dX6_load_127 hv8703 (by omega) (by omega) (fun v8704 hv8704 => ?_)
        refine WP_iload_n dX6_load_128 rfl ?_
        refine WQ_iadd dX6_load_129 (by omega) (by omega) (fun v8705 hv8705 => ?_)
        refine WQ_ialdb dX6_load_130 (lyx_is hy 22 13 rfl) (lyx_n hy 22 21 rfl) (by omega) (by omega) (fun q hq => BT_get hI8693.1 22 0 21 (0) (0) (20) (by decide) q (Nat.zero_le _) hq) (fun v8706 av8706 bv8706 zv8706 => ?_)
        have yv8706 : I (ad g 22) (7 * v8659.toInt + da.toInt).toNat = v8706 := by rw [← fz_at fr8700 22 (by decide) (by decide), show (7 * v8659.toInt + da.toInt).toNat = v8705.toInt.toNat by omega]; exact zv8706
        refine WQ_puti dX6_load_131 fX6_51 rfl rfl (lyx_is hy 44 6 rfl) (fun I8707 eI8707 => ?_)
        have hI8707 : XI g n L I8707 := by rw [eI8707]; exact (xi_f hy hI8693 (c := 44) (0) (0) (20) (by decide) (Or.inl (by decide)) (by decide) (by omega) (by omega))
        have e8708 : I8707 (ad g 1) 1 = L := by rw [eI8707, pp_ne _ _ (Or.inl (lyx_ne hy (by decide) (by decide) (by decide)))]; exact e8694
        have e8709 : I8707 (ad g 27) 4 = v8659 := by rw [eI8707, pp_ne _ _ (Or.inl (lyx_ne hy (by decide) (by decide) (by decide)))]; exact e8695
        have e8710 : I8707 (ad g 44) 0 = v8666 := by rw [eI8707, pp_ne _ _ (Or.inr (by decide))]; exact e8696
        have e8711 : I8707 (ad g 44) 1 = v8672 := by rw [eI8707, pp_ne _ _ (Or.inr (by decide))]; exact e8697
        have e8712 : I8707 (ad g 44) 2 = v8679 := by rw [eI8707, pp_ne _ _ (Or.inr (by decide))]; exact e8698
        have e8713 : I8707 (ad g 44) 3 = v8692 := by rw [eI8707, pp_ne _ _ (Or.inr (by decide))]; exact e8699
        have e8714 : I8707 (ad g 44) 4 = v8706 := by rw [eI8707, pp_self]
        have fr8715 : fz 74 g [44] I I8707 := by rw [eI8707]; exact fzx_pp hy fr8700 (by decide) (by decide)
        clear eI8707
        refine WP_aload_n dX6_load_134 rfl ?_
        refine WP_iload dX6_load_135 rfl ?_
        refine WQ_if_eq 144 dX6_load_137 rfl (fun c8715 => ?_) (fun c8715 => False.elim (by omega))
        refine WP_aload_n dX6_load_144 rfl ?_
        refine WQ_getim dX6_load_145 fX6_36 rfl (lyx_is hy 44 6 rfl) e8711 ?_
        refine WQ_puti dX6_load_148 fX6_54 rfl rfl (lyx_is hy 44 6 rfl) (fun I8717 eI8717 => ?_)
        have hI8717 : XI g n L I8717 := by rw [eI8717]; exact (xi_f hy hI8707 (c := 44) (0) (0) (3) (by decide) (Or.inl (by decide)) (by decide) (by omega) (by omega))
        have e8718 : I8717 (ad g 1) 1 = L := by rw [eI8717, pp_ne _ _ (Or.inl (lyx_ne hy (by decide) (by decide) (by decide)))]; exact e8708
        have e8719 : I8717 (ad g 27) 4 = v8659 := by rw [eI8717, pp_ne _ _ (Or.inl (lyx_ne hy (by decide) (by decide) (by decide)))]; exact e8709
        have e8720 : I8717 (ad g 44) 0 = v8666 := by rw [eI8717, pp_ne _ _ (Or.inr (by decide))]; exact e8710
        have e8721 : I8717 (ad g 44) 1 = v8672 := by rw [eI8717, pp_ne _ _ (Or.inr (by decide))]; exact e8711
        have e8722 : I8717 (ad g 44) 2 = v8679 := by rw [eI8717, pp_ne _ _ (Or.inr (by decide))]; exact e8712
        have e8723 : I8717 (ad g 44) 3 = v8692 := by rw [eI8717, pp_ne _ _ (Or.inr (by decide))]; exact e8713
        have e8724 : I8717 (ad g 44) 4 = v8706 := by rw [eI8717, pp_ne _ _ (Or.inr (by decide))]; exact e8714
        have e8725 : I8717 (ad g 44) 5 = v8672 := by rw [eI8717, pp_self]
        have fr8726 : fz 74 g [44] I I8717 := by rw [eI8717]; exact fzx_pp hy fr8715 (by decide) (by decide)
        clear eI8717
        refine WP_aload_n dX6_load_151 rfl ?_
        refine WP_iload dX6_load_152 rfl ?_
        refine WQ_if_ne 163 dX6_load_154 rfl (fun c8726 => False.elim (by omega)) (fun c8726 => ?_)
        refine WP_iload dX6_load_157 rfl ?_
        refine WQ_iconst (-1) (-1) dX6_load_159 rfl rfl (fun v8728 hv8728 => ?_)
        refine WQ_icmp_ne 167 dX6_load_160 rfl (fun c8728 => ?_) (fun c8728 => False.elim (by omega))
        refine WQ_iconst (2) (2) dX6_load_167 rfl rfl (fun v8730 hv8730 => ?_)
        refine WQ_puti dX6_load_168 fX6_57 rfl rfl (lyx_is hy 44 6 rfl) (fun I8731 eI8731 => ?_)
        have hI8731 : XI g n L I8731 := by rw [eI8731]; exact (xi_f hy hI8717 (c := 44) (0) (0) (2) (by decide) (Or.inl (by decide)) (by decide) (by omega) (by omega))
        have e8732 : I8731 (ad g 1) 1 = L := by rw [eI8731, pp_ne _ _ (Or.inl (lyx_ne hy (by decide) (by decide) (by decide)))]; exact e8718
        have e8733 : I8731 (ad g 27) 4 = v8659 := by rw [eI8731, pp_ne _ _ (Or.inl (lyx_ne hy (by decide) (by decide) (by decide)))]; exact e8719
        have e8734 : I8731 (ad g 44) 0 = v8666 := by rw [eI8731, pp_ne _ _ (Or.inr (by decide))]; exact e8720
        have e8735 : I8731 (ad g 44) 1 = v8672 := by rw [eI8731, pp_ne _ _ (Or.inr (by decide))]; exact e8721
        have e8736 : I8731 (ad g 44) 2 = v8679 := by rw [eI8731, pp_ne _ _ (Or.inr (by decide))]; exact e8722
        have e8737 : I8731 (ad g 44) 3 = v8692 := by rw [eI8731, pp_ne _ _ (Or.inr (by decide))]; exact e8723
        have e8738 : I8731 (ad g 44) 4 = v8706 := by rw [eI8731, pp_ne _ _ (Or.inr (by decide))]; exact e8724
        have e8739 : I8731 (ad g 44) 5 = v8672 := by rw [eI8731, pp_ne _ _ (Or.inr (by decide))]; exact e8725
        have e8740 : I8731 (ad g 44) 6 = v8730 := by rw [eI8731, pp_self]
        have fr8741 : fz 74 g [44] I I8731 := by rw [eI8731]; exact fzx_pp hy fr8726 (by decide) (by decide)
        clear eI8731
        refine WP_aload_n dX6_load_171 rfl ?_
        refine WP_aload_n dX6_load_172 rfl ?_
        refine WQ_getim dX6_load_173 fX6_9 rfl (lyx_is hy 44 6 rfl) e8734 ?_
        refine WQ_iconst (-1) (-1) dX6_load_176 rfl rfl (fun v8742 hv8742 => ?_)
        refine WQ_icmp_eq 193 dX6_load_177 rfl (fun c8742 => False.elim (by omega)) (fun c8742 => ?_)
        refine WP_aload_n dX6_load_180 rfl ?_
        refine WQ_getim dX6_load_181 fX6_9 rfl (lyx_is hy 44 6 rfl) e8734 ?_
        refine WP_iload dX6_load_184 rfl ?_
        refine WQ_icmp_ne 193 dX6_load_186 rfl (fun c8743 => ?_) (fun c8743 => ?_)
        · refine WQ_iconst (0) (0) dX6_load_193 rfl rfl (fun v8745 hv8745 => ?_)
          refine WQ_putz dX6_load_194 fX6_60 rfl rfl (by omega) (lyx_is hy 44 6 rfl) (fun I8746 eI8746 => ?_)
          have hI8746 : XI g n L I8746 := by rw [eI8746]; exact (xi_f hy hI8731 (c := 44) (0) (0) (1) (by decide) (Or.inl (by decide)) (by decide) (by omega) (by omega))
          have e8747 : I8746 (ad g 1) 1 = L := by rw [eI8746, pp_ne _ _ (Or.inl (lyx_ne hy (by decide) (by decide) (by decide)))]; exact e8732
          have e8748 : I8746 (ad g 27) 4 = v8659 := by rw [eI8746, pp_ne _ _ (Or.inl (lyx_ne hy (by decide) (by decide) (by decide)))]; exact e8733
          have e8749 : I8746 (ad g 44) 0 = v8666 := by rw [eI8746, pp_ne _ _ (Or.inr (by decide))]; exact e8734
          have e8750 : I8746 (ad g 44) 1 = v8672 := by rw [eI8746, pp_ne _ _ (Or.inr (by decide))]; exact e8735
          have e8751 : I8746 (ad g 44) 2 = v8679 := by rw [eI8746, pp_ne _ _ (Or.inr (by decide))]; exact e8736
          have e8752 : I8746 (ad g 44) 3 = v8692 := by rw [eI8746, pp_ne _ _ (Or.inr (by decide))]; exact e8737
          have e8753 : I8746 (ad g 44) 4 = v8706 := by rw [eI8746, pp_ne _ _ (Or.inr (by decide))]; exact e8738
          have e8754 : I8746 (ad g 44) 5 = v8672 := by rw [eI8746, pp_ne _ _ (Or.inr (by decide))]; exact e8739
          have e8755 : I8746 (ad g 44) 6 = v8730 := by rw [eI8746, pp_ne _ _ (Or.inr (by decide))]; exact e8740
          have e8756 : I8746 (ad g 44) 7 = v8745 := by rw [eI8746, pp_self]
          have fr8757 : fz 74 g [44] I I8746 := by rw [eI8746]; exact fzx_pp hy fr8741 (by decide) (by decide)
          clear eI8746
          refine WP_aload_n dX6_load_197 rfl ?_
          refine WP_aload_n dX6_load_198 rfl ?_
          refine WP_getr dX6_load_199 fX6_64 rfl (lyx_is hy 5 0 rfl) (rfx hr 5 2 23 (by decide)) ?_
          refine WP_iload_n dX6_load_202 rfl ?_
          refine WQ_iald dX6_load_203 (lyx_is hy 23 13 rfl) (lyx_n hy 23 7 rfl) (by omega) (by omega) (fun q hq => BT_get hI8746.1 23 0 7 (0) (0) (900) (by decide) q (Nat.zero_le _) hq) (fun v8758 av8758 bv8758 ev8758 => ?_)
          clear ev8758
          refine WQ_if_le 211 dX6_load_204 rfl (fun c8758 => ?_) (fun c8758 => ?_)
          · refine WQ_iconst (0) (0) dX6_load_211 rfl rfl (fun v8760 hv8760 => ?_)
            refine WQ_putz dX6_load_212 fX6_67 rfl rfl (by omega) (lyx_is hy 44 6 rfl) (fun I8761 eI8761 => ?_)
            have hI8761 : XI g n L I8761 := by rw [eI8761]; exact (xi_f hy hI8746 (c := 44) (0) (0) (1) (by decide) (Or.inl (by decide)) (by decide) (by omega) (by omega))
            have e8762 : I8761 (ad g 1) 1 = L := by rw [eI8761, pp_ne _ _ (Or.inl (lyx_ne hy (by decide) (by decide) (by decide)))]; exact e8747
            have e8763 : I8761 (ad g 27) 4 = v8659 := by rw [eI8761, pp_ne _ _ (Or.inl (lyx_ne hy (by decide) (by decide) (by decide)))]; exact e8748
            have e8764 : I8761 (ad g 44) 0 = v8666 := by rw [eI8761, pp_ne _ _ (Or.inr (by decide))]; exact e8749
            have e8765 : I8761 (ad g 44) 1 = v8672 := by rw [eI8761, pp_ne _ _ (Or.inr (by decide))]; exact e8750
            have e8766 : I8761 (ad g 44) 2 = v8679 := by rw [eI8761, pp_ne _ _ (Or.inr (by decide))]; exact e8751
            have e8767 : I8761 (ad g 44) 3 = v8692 := by rw [eI8761, pp_ne _ _ (Or.inr (by decide))]; exact e8752
            have e8768 : I8761 (ad g 44) 4 = v8706 := by rw [eI8761, pp_ne _ _ (Or.inr (by decide))]; exact e8753
            have e8769 : I8761 (ad g 44) 5 = v8672 := by rw [eI8761, pp_ne _ _ (Or.inr (by decide))]; exact e8754
            have e8770 : I8761 (ad g 44) 6 = v8730 := by rw [eI8761, pp_ne _ _ (Or.inr (by decide))]; exact e8755
            have e8771 : I8761 (ad g 44) 7 = v8745 := by rw [eI8761, pp_ne _ _ (Or.inr (by decide))]; exact e8756
            have e8772 : I8761 (ad g 44) 8 = v8760 := by rw [eI8761, pp_self]
            have fr8773 : fz 74 g [44] I I8761 := by rw [eI8761]; exact fzx_pp hy fr8757 (by decide) (by decide)
            clear eI8761
            exact WP_vret dX6_load_215 rfl ⟨⟨hI8761, rfl, fr8773, rfl, (by
                  have yill : I (ad g (27 + 5)) so.toInt.toNat >>> (nI da.toInt.toNat &&& 31) &&& 1 = v8663 := by rw [show I (ad g (27 + 5)) so.toInt.toNat = v8660 from yv8660, show nI da.toInt.toNat = da from (eq32 _ _).mpr (by rw [nI_toInt (by omega)]; omega), xv8663, xv8661, (eq32 v8662 1).mpr hv8662]
                  have yst : I (ad g 27) 4 = v8659 := est
                  unfold LD
                  simp only [e8764, e8765, e8766, e8767, e8768, e8769, e8770, e8771, yill, yst, show I (ad g (27 + 7)) _ = _ from yv8666, show I (ad g (27 + 8)) _ = _ from yv8672, show I (ad g (27 + 9)) _ = _ from yv8679, yv8692, yv8706, true_and, and_true]
                  omega)⟩, rfl⟩
          · refine WQ_iconst (1) (1) dX6_load_207 rfl rfl (fun v8774 hv8774 => ?_)
            refine WP_goto 212 dX6_load_208 rfl ?_
            refine WQ_putz dX6_load_212 fX6_67 rfl rfl (by omega) (lyx_is hy 44 6 rfl) (fun I8775 eI8775 => ?_)
            have hI8775 : XI g n L I8775 := by rw [eI8775]; exact (xi_f hy hI8746 (c := 44) (0) (0) (1) (by decide) (Or.inl (by decide)) (by decide) (by omega) (by omega))
            have e8776 : I8775 (ad g 1) 1 = L := by rw [eI8775, pp_ne _ _ (Or.inl (lyx_ne hy (by decide) (by decide) (by decide)))]; exact e8747
            have e8777 : I8775 (ad g 27) 4 = v8659 := by rw [eI8775, pp_ne _ _ (Or.inl (lyx_ne hy (by decide) (by decide) (by decide)))]; exact e8748
            have e8778 : I8775 (ad g 44) 0 = v8666 := by rw [eI8775, pp_ne _ _ (Or.inr (by decide))]; exact e8749
            have e8779 : I8775 (ad g 44) 1 = v8672 := by rw [eI8775, pp_ne _ _ (Or.inr (by decide))]; exact e8750
            have e8780 : I8775 (ad g 44) 2 = v8679 := by rw [eI8775, pp_ne _ _ (Or.inr (by decide))]; exact e8751
            have e8781 : I8775 (ad g 44) 3 = v8692 := by rw [eI8775, pp_ne _ _ (Or.inr (by decide))]; exact e8752
            have e8782 : I8775 (ad g 44) 4 = v8706 := by rw [eI8775, pp_ne _ _ (Or.inr (by decide))]; exact e8753
            have e8783 : I8775 (ad g 44) 5 = v8672 := by rw [eI8775, pp_ne _ _ (Or.inr (by decide))]; exact e8754
            have e8784 : I8775 (ad g 44) 6 = v8730 := by rw [eI8775, pp_ne _ _ (Or.inr (by decide))]; exact e8755
            have e8785 : I8775 (ad g 44) 7 = v8745 := by rw [eI8775, pp_ne _ _ (Or.inr (by decide))]; exact e8756
            have e8786 : I8775 (ad g 44) 8 = v8774 := by rw [eI8775, pp_self]
            have fr8787 : fz 74 g [44] I I8775 := by rw [eI8775]; exact fzx_pp hy fr8757 (by decide) (by decide)
            clear eI8775
            exact WP_vret dX6_load_215 rfl ⟨⟨hI8775, rfl, fr8787, rfl, (by
                  have yill : I (ad g (27 + 5)) so.toInt.toNat >>> (nI da.toInt.toNat &&& 31) &&& 1 = v8663 := by rw [show I (ad g (27 + 5)) so.toInt.toNat = v8660 from yv8660, show nI da.toInt.toNat = da from (eq32 _ _).mpr (by rw [nI_toInt (by omega)]; omega), xv8663, xv8661, (eq32 v8662 1).mpr hv8662]
                  have yst : I (ad g 27) 4 = v8659 := est
                  unfold LD
                  simp only [e8778, e8779, e8780, e8781, e8782, e8783, e8784, e8785, yill, yst, show I (ad g (27 + 7)) _ = _ from yv8666, show I (ad g (27 + 8)) _ = _ from yv8672, show I (ad g (27 + 9)) _ = _ from yv8679, yv8692, yv8706, true_and, and_true]
                  omega)⟩, rfl⟩
        · refine WQ_iconst (1) (1) dX6_load_189 rfl rfl (fun v8788 hv8788 => ?_)
          refine WP_goto 194 dX6_load_190 rfl ?_
          refine WQ_putz dX6_load_194 fX6_60 rfl rfl (by omega) (lyx_is hy 44 6 rfl) (fun I8789 eI8789 => ?_)
          have hI8789 : XI g n L I8789 := by rw [eI8789]; exact (xi_f hy hI8731 (c := 44) (0) (0) (1) (by decide) (Or.inl (by decide)) (by decide) (by omega) (by omega))
          have e8790 : I8789 (ad g 1) 1 = L := by rw [eI8789, pp_ne _ _ (Or.inl (lyx_ne hy (by decide) (by decide) (by decide)))]; exact e8732
          have e8791 : I8789 (ad g 27) 4 = v8659 := by rw [eI8789, pp_ne _ _ (Or.inl (lyx_ne hy (by decide) (by decide) (by decide)))]; exact e8733
          have e8792 : I8789 (ad g 44) 0 = v8666 := by rw [eI8789, pp_ne _ _ (Or.inr (by decide))]; exact e8734
          have e8793 : I8789 (ad g 44) 1 = v8672 := by rw [eI8789, pp_ne _ _ (Or.inr (by decide))]; exact e8735
          have e8794 : I8789 (ad g 44) 2 = v8679 := by rw [eI8789, pp_ne _ _ (Or.inr (by decide))]; exact e8736
          have e8795 : I8789 (ad g 44) 3 = v8692 := by rw [eI8789, pp_ne _ _ (Or.inr (by decide))]; exact e8737
          have e8796 : I8789 (ad g 44) 4 = v8706 := by rw [eI8789, pp_ne _ _ (Or.inr (by decide))]; exact e8738
          have e8797 : I8789 (ad g 44) 5 = v8672 := by rw [eI8789, pp_ne _ _ (Or.inr (by decide))]; exact e8739
          have e8798 : I8789 (ad g 44) 6 = v8730 := by rw [eI8789, pp_ne _ _ (Or.inr (by decide))]; exact e8740
          have e8799 : I8789 (ad g 44) 7 = v8788 := by rw [eI8789, pp_self]
          have fr8800 : fz 74 g [44] I I8789 := by rw [eI8789]; exact fzx_pp hy fr8741 (by decide) (by decide)
          clear eI8789
          refine WP_aload_n dX6_load_197 rfl ?_
          refine WP_aload_n dX6_load_198 rfl ?_
          refine WP_getr dX6_load_199 fX6_64 rfl (lyx_is hy 5 0 rfl) (rfx hr 5 2 23 (by decide)) ?_
          refine WP_iload_n dX6_load_202 rfl ?_
          refine WQ_iald dX6_load_203 (lyx_is hy 23 13 rfl) (lyx_n hy 23 7 rfl) (by omega) (by omega) (fun q hq => BT_get hI8789.1 23 0 7 (0) (0) (900) (by decide) q (Nat.zero_le _) hq) (fun v8801 av8801 bv8801 ev8801 => ?_)
          clear ev8801
          refine WQ_if_le 211 dX6_load_204 rfl (fun c8801 => ?_) (fun c8801 => ?_)
          · refine WQ_iconst (0) (0) dX6_load_211 rfl rfl (fun v8803 hv8803 => ?_)
            refine WQ_putz dX6_load_212 fX6_67 rfl rfl (by omega) (lyx_is hy 44 6 rfl) (fun I8804 eI8804 => ?_)
            have hI8804 : XI g n L I8804 := by rw [eI8804]; exact (xi_f hy hI8789 (c := 44) (0) (0) (1) (by decide) (Or.inl (by decide)) (by decide) (by omega) (by omega))
            have e8805 : I8804 (ad g 1) 1 = L := by rw [eI8804, pp_ne _ _ (Or.inl (lyx_ne hy (by decide) (by decide) (by decide)))]; exact e8790
            have e8806 : I8804 (ad g 27) 4 = v8659 := by rw [eI8804, pp_ne _ _ (Or.inl (lyx_ne hy (by decide) (by decide) (by decide)))]; exact e8791
            have e8807 : I8804 (ad g 44) 0 = v8666 := by rw [eI8804, pp_ne _ _ (Or.inr (by decide))]; exact e8792
            have e8808 : I8804 (ad g 44) 1 = v8672 := by rw [eI8804, pp_ne _ _ (Or.inr (by decide))]; exact e8793
            have e8809 : I8804 (ad g 44) 2 = v8679 := by rw [eI8804, pp_ne _ _ (Or.inr (by decide))]; exact e8794
            have e8810 : I8804 (ad g 44) 3 = v8692 := by rw [eI8804, pp_ne _ _ (Or.inr (by decide))]; exact e8795
            have e8811 : I8804 (ad g 44) 4 = v8706 := by rw [eI8804, pp_ne _ _ (Or.inr (by decide))]; exact e8796
            have e8812 : I8804 (ad g 44) 5 = v8672 := by rw [eI8804, pp_ne _ _ (Or.inr (by decide))]; exact e8797
            have e8813 : I8804 (ad g 44) 6 = v8730 := by rw [eI8804, pp_ne _ _ (Or.inr (by decide))]; exact e8798
            have e8814 : I8804 (ad g 44) 7 = v8788 := by rw [eI8804, pp_ne _ _ (Or.inr (by decide))]; exact e8799
            have e8815 : I8804 (ad g 44) 8 = v8803 := by rw [eI8804, pp_self]
            have fr8816 : fz 74 g [44] I I8804 := by rw [eI8804]; exact fzx_pp hy fr8800 (by decide) (by decide)
            clear eI8804
            exact WP_vret dX6_load_215 rfl ⟨⟨hI8804, rfl, fr8816, rfl, (by
                  have yill : I (ad g (27 + 5)) so.toInt.toNat >>> (nI da.toInt.toNat &&& 31) &&& 1 = v8663 := by rw [show I (ad g (27 + 5)) so.toInt.toNat = v8660 from yv8660, show nI da.toInt.toNat = da from (eq32 _ _).mpr (by rw [nI_toInt (by omega)]; omega), xv8663, xv8661, (eq32 v8662 1).mpr hv8662]
                  have yst : I (ad g 27) 4 = v8659 := est
                  unfold LD
                  simp only [e8807, e8808, e8809, e8810, e8811, e8812, e8813, e8814, yill, yst, show I (ad g (27 + 7)) _ = _ from yv8666, show I (ad g (27 + 8)) _ = _ from yv8672, show I (ad g (27 + 9)) _ = _ from yv8679, yv8692, yv8706, true_and, and_true]
                  omega)⟩, rfl⟩
          · refine WQ_iconst (1) (1) dX6_load_207 rfl rfl (fun v8817 hv8817 => ?_)
            refine WP_goto 212 dX6_load_208 rfl ?_
            refine WQ_putz dX6_load_212 fX6_67 rfl rfl (by omega) (lyx_is hy 44 6 rfl) (fun I8818 eI8818 => ?_)
            have hI8818 : XI g n L I8818 := by rw [eI8818]; exact (xi_f hy hI8789 (c := 44) (0) (0) (1) (by decide) (Or.inl (by decide)) (by decide) (by omega) (by omega))
            have e8819 : I8818 (ad g 1) 1 = L := by rw [eI8818, pp_ne _ _ (Or.inl (lyx_ne hy (by decide) (by decide) (by decide)))]; exact e8790
            have e8820 : I8818 (ad g 27) 4 = v8659 := by rw [eI8818, pp_ne _ _ (Or.inl (lyx_ne hy (by decide) (by decide) (by decide)))]; exact e8791
            have e8821 : I8818 (ad g 44) 0 = v8666 := by rw [eI8818, pp_ne _ _ (Or.inr (by decide))]; exact e8792
            have e8822 : I8818 (ad g 44) 1 = v8672 := by rw [eI8818, pp_ne _ _ (Or.inr (by decide))]; exact e8793
            have e8823 : I8818 (ad g 44) 2 = v8679 := by rw [eI8818, pp_ne _ _ (Or.inr (by decide))]; exact e8794
            have e8824 : I8818 (ad g 44) 3 = v8692 := by rw [eI8818, pp_ne _ _ (Or.inr (by decide))]; exact e8795
            have e8825 : I8818 (ad g 44) 4 = v8706 := by rw [eI8818, pp_ne _ _ (Or.inr (by decide))]; exact e8796
            have e8826 : I8818 (ad g 44) 5 = v8672 := by rw [eI8818, pp_ne _ _ (Or.inr (by decide))]; exact e8797
            have e8827 : I8818 (ad g 44) 6 = v8730 := by rw [eI8818, pp_ne _ _ (Or.inr (by decide))]; exact e8798
            have e8828 : I8818 (ad g 44) 7 = v8788 := by rw [eI8818, pp_ne _ _ (Or.inr (by decide))]; exact e8799
            have e8829 : I8818 (ad g 44) 8 = v8817 := by rw [eI8818, pp_self]
            have fr8830 : fz 74 g [44] I I8818 := by rw [eI8818]; exact fzx_pp hy fr8800 (by decide) (by decide)
            clear eI8818
            exact WP_vret dX6_load_215 rfl ⟨⟨hI8818, rfl, fr8830, rfl, (by
                  have yill : I (ad g (27 + 5)) so.toInt.toNat >>> (nI da.toInt.toNat &&& 31) &&& 1 = v8663 := by rw [show I (ad g (27 + 5)) so.toInt.toNat = v8660 from yv8660, show nI da.toInt.toNat = da from (eq32 _ _).mpr (by rw [nI_toInt (by omega)]; omega), xv8663, xv8661, (eq32 v8662 1).mpr hv8662]
                  have yst : I (ad g 27) 4 = v8659 := est
                  unfold LD
                  simp only [e8821, e8822, e8823, e8824, e8825, e8826, e8827, e8828, yill, yst, show I (ad g (27 + 7)) _ = _ from yv8666, show I (ad g (27 + 8)) _ = _ from yv8672, show I (ad g (27 + 9)) _ = _ from yv8679, yv8692, yv8706, true_and, and_true]
                  omega)⟩, rfl⟩
      · refine WQ_iconst (0) (0) dX6_load_115 rfl rfl (fun v8831 hv8831 => ?_)
        refine WP_goto 131 dX6_load_116 rfl ?_
        refine WQ_puti dX6_load_131 fX6_51 rfl rfl (lyx_is hy 44 6 rfl) (fun I8832 eI8832 => ?_)
        have hI8832 : XI g n L I8832 := by rw [eI8832]; exact (xi_f hy hI8693 (c := 44) (0) (0) (20) (by decide) (Or.inl (by decide)) (by decide) (by omega) (by omega))
        have e8833 : I8832 (ad g 1) 1 = L := by rw [eI8832, pp_ne _ _ (Or.inl (lyx_ne hy (by decide) (by decide) (by decide)))]; exact e8694
        have e8834 : I8832 (ad g 27) 4 = v8659 := by rw [eI8832, pp_ne _ _ (Or.inl (lyx_ne hy (by decide) (by decide) (by decide)))]; exact e8695
        have e8835 : I8832 (ad g 44) 0 = v8666 := by rw [eI8832, pp_ne _ _ (Or.inr (by decide))]; exact e8696
        have e8836 : I8832 (ad g 44) 1 = v8672 := by rw [eI8832, pp_ne _ _ (Or.inr (by decide))]; exact e8697
        have e8837 : I8832 (ad g 44) 2 = v8679 := by rw [eI8832, pp_ne _ _ (Or.inr (by decide))]; exact e8698
        have e8838 : I8832 (ad g 44) 3 = v8692 := by rw [eI8832, pp_ne _ _ (Or.inr (by decide))]; exact e8699
        have e8839 : I8832 (ad g 44) 4 = v8831 := by rw [eI8832, pp_self]
        have fr8840 : fz 74 g [44] I I8832 := by rw [eI8832]; exact fzx_pp hy fr8700 (by decide) (by decide)
        clear eI8832
        refine WP_aload_n dX6_load_134 rfl ?_
        refine WP_iload dX6_load_135 rfl ?_
        refine WQ_if_eq 144 dX6_load_137 rfl (fun c8840 => ?_) (fun c8840 => False.elim (by omega))
        refine WP_aload_n dX6_load_144 rfl ?_
        refine WQ_getim dX6_load_145 fX6_36 rfl (lyx_is hy 44 6 rfl) e8836 ?_
        refine WQ_puti dX6_load_148 fX6_54 rfl rfl (lyx_is hy 44 6 rfl) (fun I8842 eI8842 => ?_)
        have hI8842 : XI g n L I8842 := by rw [eI8842]; exact (xi_f hy hI8832 (c := 44) (0) (0) (3) (by decide) (Or.inl (by decide)) (by decide) (by omega) (by omega))
        have e8843 : I8842 (ad g 1) 1 = L := by rw [eI8842, pp_ne _ _ (Or.inl (lyx_ne hy (by decide) (by decide) (by decide)))]; exact e8833
        have e8844 : I8842 (ad g 27) 4 = v8659 := by rw [eI8842, pp_ne _ _ (Or.inl (lyx_ne hy (by decide) (by decide) (by decide)))]; exact e8834
        have e8845 : I8842 (ad g 44) 0 = v8666 := by rw [eI8842, pp_ne _ _ (Or.inr (by decide))]; exact e8835
        have e8846 : I8842 (ad g 44) 1 = v8672 := by rw [eI8842, pp_ne _ _ (Or.inr (by decide))]; exact e8836
        have e8847 : I8842 (ad g 44) 2 = v8679 := by rw [eI8842, pp_ne _ _ (Or.inr (by decide))]; exact e8837
        have e8848 : I8842 (ad g 44) 3 = v8692 := by rw [eI8842, pp_ne _ _ (Or.inr (by decide))]; exact e8838
        have e8849 : I8842 (ad g 44) 4 = v8831 := by rw [eI8842, pp_ne _ _ (Or.inr (by decide))]; exact e8839
        have e8850 : I8842 (ad g 44) 5 = v8672 := by rw [eI8842, pp_self]
        have fr8851 : fz 74 g [44] I I8842 := by rw [eI8842]; exact fzx_pp hy fr8840 (by decide) (by decide)
        clear eI8842
        refine WP_aload_n dX6_load_151 rfl ?_
        refine WP_iload dX6_load_152 rfl ?_
        refine WQ_if_ne 163 dX6_load_154 rfl (fun c8851 => False.elim (by omega)) (fun c8851 => ?_)
        refine WP_iload dX6_load_157 rfl ?_
        refine WQ_iconst (-1) (-1) dX6_load_159 rfl rfl (fun v8853 hv8853 => ?_)
        refine WQ_icmp_ne 167 dX6_load_160 rfl (fun c8853 => False.elim (by omega)) (fun c8853 => ?_)
        refine WQ_iconst (0) (0) dX6_load_163 rfl rfl (fun v8855 hv8855 => ?_)
        refine WP_goto 168 dX6_load_164 rfl ?_
        refine WQ_puti dX6_load_168 fX6_57 rfl rfl (lyx_is hy 44 6 rfl) (fun I8856 eI8856 => ?_)
        have hI8856 : XI g n L I8856 := by rw [eI8856]; exact (xi_f hy hI8842 (c := 44) (0) (0) (2) (by decide) (Or.inl (by decide)) (by decide) (by omega) (by omega))
        have e8857 : I8856 (ad g 1) 1 = L := by rw [eI8856, pp_ne _ _ (Or.inl (lyx_ne hy (by decide) (by decide) (by decide)))]; exact e8843
        have e8858 : I8856 (ad g 27) 4 = v8659 := by rw [eI8856, pp_ne _ _ (Or.inl (lyx_ne hy (by decide) (by decide) (by decide)))]; exact e8844
        have e8859 : I8856 (ad g 44) 0 = v8666 := by rw [eI8856, pp_ne _ _ (Or.inr (by decide))]; exact e8845
        have e8860 : I8856 (ad g 44) 1 = v8672 := by rw [eI8856, pp_ne _ _ (Or.inr (by decide))]; exact e8846
        have e8861 : I8856 (ad g 44) 2 = v8679 := by rw [eI8856, pp_ne _ _ (Or.inr (by decide))]; exact e8847
        have e8862 : I8856 (ad g 44) 3 = v8692 := by rw [eI8856, pp_ne _ _ (Or.inr (by decide))]; exact e8848
        have e8863 : I8856 (ad g 44) 4 = v8831 := by rw [eI8856, pp_ne _ _ (Or.inr (by decide))]; exact e8849
        have e8864 : I8856 (ad g 44) 5 = v8672 := by rw [eI8856, pp_ne _ _ (Or.inr (by decide))]; exact e8850
        have e8865 : I8856 (ad g 44) 6 = v8855 := by rw [eI8856, pp_self]
        have fr8866 : fz 74 g [44] I I8856 := by rw [eI8856]; exact fzx_pp hy fr8851 (by decide) (by decide)
        clear eI8856
        refine WP_aload_n dX6_load_171 rfl ?_
        refine WP_aload_n dX6_load_172 rfl ?_
        refine WQ_getim dX6_load_173 fX6_9 rfl (lyx_is hy 44 6 rfl) e8859 ?_
        refine WQ_iconst (-1) (-1) dX6_load_176 rfl rfl (fun v8867 hv8867 => ?_)
        refine WQ_icmp_eq 193 dX6_load_177 rfl (fun c8867 => False.elim (by omega)) (fun c8867 => ?_)
        refine WP_aload_n dX6_load_180 rfl ?_
        refine WQ_getim dX6_load_181 fX6_9 rfl (lyx_is hy 44 6 rfl) e8859 ?_
        refine WP_iload dX6_load_184 rfl ?_
        refine WQ_icmp_ne 193 dX6_load_186 rfl (fun c8868 => ?_) (fun c8868 => False.elim (by omega))
        refine WQ_iconst (0) (0) dX6_load_193 rfl rfl (fun v8870 hv8870 => ?_)
        refine WQ_putz dX6_load_194 fX6_60 rfl rfl (by omega) (lyx_is hy 44 6 rfl) (fun I8871 eI8871 => ?_)
        have hI8871 : XI g n L I8871 := by rw [eI8871]; exact (xi_f hy hI8856 (c := 44) (0) (0) (1) (by decide) (Or.inl (by decide)) (by decide) (by omega) (by omega))
        have e8872 : I8871 (ad g 1) 1 = L := by rw [eI8871, pp_ne _ _ (Or.inl (lyx_ne hy (by decide) (by decide) (by decide)))]; exact e8857
        have e8873 : I8871 (ad g 27) 4 = v8659 := by rw [eI8871, pp_ne _ _ (Or.inl (lyx_ne hy (by decide) (by decide) (by decide)))]; exact e8858
        have e8874 : I8871 (ad g 44) 0 = v8666 := by rw [eI8871, pp_ne _ _ (Or.inr (by decide))]; exact e8859
        have e8875 : I8871 (ad g 44) 1 = v8672 := by rw [eI8871, pp_ne _ _ (Or.inr (by decide))]; exact e8860
        have e8876 : I8871 (ad g 44) 2 = v8679 := by rw [eI8871, pp_ne _ _ (Or.inr (by decide))]; exact e8861
        have e8877 : I8871 (ad g 44) 3 = v8692 := by rw [eI8871, pp_ne _ _ (Or.inr (by decide))]; exact e8862
        have e8878 : I8871 (ad g 44) 4 = v8831 := by rw [eI8871, pp_ne _ _ (Or.inr (by decide))]; exact e8863
        have e8879 : I8871 (ad g 44) 5 = v8672 := by rw [eI8871, pp_ne _ _ (Or.inr (by decide))]; exact e8864
        have e8880 : I8871 (ad g 44) 6 = v8855 := by rw [eI8871, pp_ne _ _ (Or.inr (by decide))]; exact e8865
        have e8881 : I8871 (ad g 44) 7 = v8870 := by rw [eI8871, pp_self]
        have fr8882 : fz 74 g [44] I I8871 := by rw [eI8871]; exact fzx_pp hy fr8866 (by decide) (by decide)
        clear eI8871
        refine WP_aload_n dX6_load_197 rfl ?_
        refine WP_aload_n dX6_load_198 rfl ?_
        refine WP_getr dX6_load_199 fX6_64 rfl (lyx_is hy 5 0 rfl) (rfx hr 5 2 23 (by decide)) ?_
        refine WP_iload_n dX6_load_202 rfl ?_
        refine WQ_iald dX6_load_203 (lyx_is hy 23 13 rfl) (lyx_n hy 23 7 rfl) (by omega) (by omega) (fun q hq => BT_get hI8871.1 23 0 7 (0) (0) (900) (by decide) q (Nat.zero_le _) hq) (fun v8883 av8883 bv8883 ev8883 => ?_)
        clear ev8883
        refine WQ_if_le 211 dX6_load_204 rfl (fun c8883 => ?_) (fun c8883 => ?_)
        · refine WQ_iconst (0) (0) dX6_load_211 rfl rfl (fun v8885 hv8885 => ?_)
          refine WQ_putz dX6_load_212 fX6_67 rfl rfl (by omega) (lyx_is hy 44 6 rfl) (fun I8886 eI8886 => ?_)
          have hI8886 : XI g n L I8886 := by rw [eI8886]; exact (xi_f hy hI8871 (c := 44) (0) (0) (1) (by decide) (Or.inl (by decide)) (by decide) (by omega) (by omega))
          have e8887 : I8886 (ad g 1) 1 = L := by rw [eI8886, pp_ne _ _ (Or.inl (lyx_ne hy (by decide) (by decide) (by decide)))]; exact e8872
          have e8888 : I8886 (ad g 27) 4 = v8659 := by rw [eI8886, pp_ne _ _ (Or.inl (lyx_ne hy (by decide) (by decide) (by decide)))]; exact e8873
          have e8889 : I8886 (ad g 44) 0 = v8666 := by rw [eI8886, pp_ne _ _ (Or.inr (by decide))]; exact e8874
          have e8890 : I8886 (ad g 44) 1 = v8672 := by rw [eI8886, pp_ne _ _ (Or.inr (by decide))]; exact e8875
          have e8891 : I8886 (ad g 44) 2 = v8679 := by rw [eI8886, pp_ne _ _ (Or.inr (by decide))]; exact e8876
          have e8892 : I8886 (ad g 44) 3 = v8692 := by rw [eI8886, pp_ne _ _ (Or.inr (by decide))]; exact e8877
          have e8893 : I8886 (ad g 44) 4 = v8831 := by rw [eI8886, pp_ne _ _ (Or.inr (by decide))]; exact e8878
          have e8894 : I8886 (ad g 44) 5 = v8672 := by rw [eI8886, pp_ne _ _ (Or.inr (by decide))]; exact e8879
          have e8895 : I8886 (ad g 44) 6 = v8855 := by rw [eI8886, pp_ne _ _ (Or.inr (by decide))]; exact e8880
          have e8896 : I8886 (ad g 44) 7 = v8870 := by rw [eI8886, pp_ne _ _ (Or.inr (by decide))]; exact e8881
          have e8897 : I8886 (ad g 44) 8 = v8885 := by rw [eI8886, pp_self]
          have fr8898 : fz 74 g [44] I I8886 := by rw [eI8886]; exact fzx_pp hy fr8882 (by decide) (by decide)
          clear eI8886
          exact WP_vret dX6_load_215 rfl ⟨⟨hI8886, rfl, fr8898, rfl, (by
                have yill : I (ad g (27 + 5)) so.toInt.toNat >>> (nI da.toInt.toNat &&& 31) &&& 1 = v8663 := by rw [show I (ad g (27 + 5)) so.toInt.toNat = v8660 from yv8660, show nI da.toInt.toNat = da from (eq32 _ _).mpr (by rw [nI_toInt (by omega)]; omega), xv8663, xv8661, (eq32 v8662 1).mpr hv8662]
                have yst : I (ad g 27) 4 = v8659 := est
                unfold LD
                simp only [e8889, e8890, e8891, e8892, e8893, e8894, e8895, e8896, yill, yst, show I (ad g (27 + 7)) _ = _ from yv8666, show I (ad g (27 + 8)) _ = _ from yv8672, show I (ad g (27 + 9)) _ = _ from yv8679, yv8692, true_and, and_true]
                omega)⟩, rfl⟩
        · refine WQ_iconst (1) (1) dX6_load_207 rfl rfl (fun v8899 hv8899 => ?_)
          refine WP_goto 212 dX6_load_208 rfl ?_
          refine WQ_putz dX6_load_212 fX6_67 rfl rfl (by omega) (lyx_is hy 44 6 rfl) (fun I8900 eI8900 => ?_)
          have hI8900 : XI g n L I8900 := by rw [eI8900]; exact (xi_f hy hI8871 (c := 44) (0) (0) (1) (by decide) (Or.inl (by decide)) (by decide) (by omega) (by omega))
          have e8901 : I8900 (ad g 1) 1 = L := by rw [eI8900, pp_ne _ _ (Or.inl (lyx_ne hy (by decide) (by decide) (by decide)))]; exact e8872
          have e8902 : I8900 (ad g 27) 4 = v8659 := by rw [eI8900, pp_ne _ _ (Or.inl (lyx_ne hy (by decide) (by decide) (by decide)))]; exact e8873
          have e8903 : I8900 (ad g 44) 0 = v8666 := by rw [eI8900, pp_ne _ _ (Or.inr (by decide))]; exact e8874
          have e8904 : I8900 (ad g 44) 1 = v8672 := by rw [eI8900, pp_ne _ _ (Or.inr (by decide))]; exact e8875
          have e8905 : I8900 (ad g 44) 2 = v8679 := by rw [eI8900, pp_ne _ _ (Or.inr (by decide))]; exact e8876
          have e8906 : I8900 (ad g 44) 3 = v8692 := by rw [eI8900, pp_ne _ _ (Or.inr (by decide))]; exact e8877
          have e8907 : I8900 (ad g 44) 4 = v8831 := by rw [eI8900, pp_ne _ _ (Or.inr (by decide))]; exact e8878
          have e8908 : I8900 (ad g 44) 5 = v8672 := by rw [eI8900, pp_ne _ _ (Or.inr (by decide))]; exact e8879
          have e8909 : I8900 (ad g 44) 6 = v8855 := by rw [eI8900, pp_ne _ _ (Or.inr (by decide))]; exact e8880
          have e8910 : I8900 (ad g 44) 7 = v8870 := by rw [eI8900, pp_ne _ _ (Or.inr (by decide))]; exact e8881
          have e8911 : I8900 (ad g 44) 8 = v8899 := by rw [eI8900, pp_self]
          have fr8912 : fz 74 g [44] I I8900 := by rw [eI8900]; exact fzx_pp hy fr8882 (by decide) (by decide)
          clear eI8900
          exact WP_vret dX6_load_215 rfl ⟨⟨hI8900, rfl, fr8912, rfl, (by
                have yill : I (ad g (27 + 5)) so.toInt.toNat >>> (nI da.toInt.toNat &&& 31) &&& 1 = v8663 := by rw [show I (ad g (27 + 5)) so.toInt.toNat = v8660 from yv8660, show nI da.toInt.toNat = da from (eq32 _ _).mpr (by rw [nI_toInt (by omega)]; omega), xv8663, xv8661, (eq32 v8662 1).mpr hv8662]
                have yst : I (ad g 27) 4 = v8659 := est
                unfold LD
                simp only [e8903, e8904, e8905, e8906, e8907, e8908, e8909, e8910, yill, yst, show I (ad g (27 + 7)) _ = _ from yv8666, show I (ad g (27 + 8)) _ = _ from yv8672, show I (ad g (27 + 9)) _ = _ from yv8679, yv8692, true_and, and_true]
                omega)⟩, rfl⟩
    · refine WQ_iconst (0) (0) dX6_load_87 rfl rfl (fun v8913 hv8913 => ?_)
      refine WP_goto 105 dX6_load_88 rfl ?_
      refine WQ_puti dX6_load_105 fX6_48 rfl rfl (lyx_is hy 44 6 rfl) (fun I8914 eI8914 => ?_)
      have hI8914 : XI g n L I8914 := by rw [eI8914]; exact (xi_f hy hI8680 (c := 44) (0) (0) (20) (by decide) (Or.inl (by decide)) (by decide) (by omega) (by omega))
      have e8915 : I8914 (ad g 1) 1 = L := by rw [eI8914, pp_ne _ _ (Or.inl (lyx_ne hy (by decide) (by decide) (by decide)))]; exact e8681
      have e8916 : I8914 (ad g 27) 4 = v8659 := by rw [eI8914, pp_ne _ _ (Or.inl (lyx_ne hy (by decide) (by decide) (by decide)))]; exact e8682
      have e8917 : I8914 (ad g 44) 0 = v8666 := by rw [eI8914, pp_ne _ _ (Or.inr (by decide))]; exact e8683
      have e8918 : I8914 (ad g 44) 1 = v8672 := by rw [eI8914, pp_ne _ _ (Or.inr (by decide))]; exact e8684
      have e8919 : I8914 (ad g 44) 2 = v8679 := by rw [eI8914, pp_ne _ _ (Or.inr (by decide))]; exact e8685
      have e8920 : I8914 (ad g 44) 3 = v8913 := by rw [eI8914, pp_self]
      have fr8921 : fz 74 g [44] I I8914 := by rw [eI8914]; exact fzx_pp hy fr8686 (by decide) (by decide)
      clear eI8914
      refine WP_aload_n dX6_load_108 rfl ?_
      refine WP_iload dX6_load_109 rfl ?_
      refine WQ_iconst (-1) (-1) dX6_load_111 rfl rfl (fun v8922 hv8922 => ?_)
      refine WQ_icmp_ne 119 dX6_load_112 rfl (fun c8922 => ?_) (fun c8922 => ?_)
      · refine WP_aload_n dX6_load_119 rfl ?_
        refine WP_getr dX6_load_120 fX6_45 rfl (lyx_is hy 5 0 rfl) (rfx hr 5 1 22 (by decide)) ?_
        refine WP_iload dX6_load_123 rfl ?_
        refine WQ_bipush (7) (7) dX6_load_125 rfl rfl (fun v8924 hv8924 => ?_)
        refine WQ_imulk (7) dX6_load_127 hv8924 (by omega) (by omega) (fun v8925 hv8925 => ?_)
        refine WP_iload_n dX6_load_128 rfl ?_
        refine WQ_iadd dX6_load_129 (by omega) (by omega) (fun v8926 hv8926 => ?_)
        refine WQ_ialdb dX6_load_130 (lyx_is hy 22 13 rfl) (lyx_n hy 22 21 rfl) (by omega) (by omega) (fun q hq => BT_get hI8914.1 22 0 21 (0) (0) (20) (by decide) q (Nat.zero_le _) hq) (fun v8927 av8927 bv8927 zv8927 => ?_)
        have yv8927 : I (ad g 22) (7 * v8659.toInt + da.toInt).toNat = v8927 := by rw [← fz_at fr8921 22 (by decide) (by decide), show (7 * v8659.toInt + da.toInt).toNat = v8926.toInt.toNat by omega]; exact zv8927
        refine WQ_puti dX6_load_131 fX6_51 rfl rfl (lyx_is hy 44 6 rfl) (fun I8928 eI8928 => ?_)
        have hI8928 : XI g n L I8928 := by rw [eI8928]; exact (xi_f hy hI8914 (c := 44) (0) (0) (20) (by decide) (Or.inl (by decide)) (by decide) (by omega) (by omega))
        have e8929 : I8928 (ad g 1) 1 = L := by rw [eI8928, pp_ne _ _ (Or.inl (lyx_ne hy (by decide) (by decide) (by decide)))]; exact e8915
        have e8930 : I8928 (ad g 27) 4 = v8659 := by rw [eI8928, pp_ne _ _ (Or.inl (lyx_ne hy (by decide) (by decide) (by decide)))]; exact e8916
        have e8931 : I8928 (ad g 44) 0 = v8666 := by rw [eI8928, pp_ne _ _ (Or.inr (by decide))]; exact e8917
        have e8932 : I8928 (ad g 44) 1 = v8672 := by rw [eI8928, pp_ne _ _ (Or.inr (by decide))]; exact e8918
        have e8933 : I8928 (ad g 44) 2 = v8679 := by rw [eI8928, pp_ne _ _ (Or.inr (by decide))]; exact e8919
        have e8934 : I8928 (ad g 44) 3 = v8913 := by rw [eI8928, pp_ne _ _ (Or.inr (by decide))]; exact e8920
        have e8935 : I8928 (ad g 44) 4 = v8927 := by rw [eI8928, pp_self]
        have fr8936 : fz 74 g [44] I I8928 := by rw [eI8928]; exact fzx_pp hy fr8921 (by decide) (by decide)
        clear eI8928
        refine WP_aload_n dX6_load_134 rfl ?_
        refine WP_iload dX6_load_135 rfl ?_
        refine WQ_if_eq 144 dX6_load_137 rfl (fun c8936 => ?_) (fun c8936 => False.elim (by omega))
        refine WP_aload_n dX6_load_144 rfl ?_
        refine WQ_getim dX6_load_145 fX6_36 rfl (lyx_is hy 44 6 rfl) e8932 ?_
        refine WQ_puti dX6_load_148 fX6_54 rfl rfl (lyx_is hy 44 6 rfl) (fun I8938 eI8938 => ?_)
        have hI8938 : XI g n L I8938 := by rw [eI8938]; exact (xi_f hy hI8928 (c := 44) (0) (0) (3) (by decide) (Or.inl (by decide)) (by decide) (by omega) (by omega))
        have e8939 : I8938 (ad g 1) 1 = L := by rw [eI8938, pp_ne _ _ (Or.inl (lyx_ne hy (by decide) (by decide) (by decide)))]; exact e8929
        have e8940 : I8938 (ad g 27) 4 = v8659 := by rw [eI8938, pp_ne _ _ (Or.inl (lyx_ne hy (by decide) (by decide) (by decide)))]; exact e8930
        have e8941 : I8938 (ad g 44) 0 = v8666 := by rw [eI8938, pp_ne _ _ (Or.inr (by decide))]; exact e8931
        have e8942 : I8938 (ad g 44) 1 = v8672 := by rw [eI8938, pp_ne _ _ (Or.inr (by decide))]; exact e8932
        have e8943 : I8938 (ad g 44) 2 = v8679 := by rw [eI8938, pp_ne _ _ (Or.inr (by decide))]; exact e8933
        have e8944 : I8938 (ad g 44) 3 = v8913 := by rw [eI8938, pp_ne _ _ (Or.inr (by decide))]; exact e8934
        have e8945 : I8938 (ad g 44) 4 = v8927 := by rw [eI8938, pp_ne _ _ (Or.inr (by decide))]; exact e8935
        have e8946 : I8938 (ad g 44) 5 = v8672 := by rw [eI8938, pp_self]
        have fr8947 : fz 74 g [44] I I8938 := by rw [eI8938]; exact fzx_pp hy fr8936 (by decide) (by decide)
        clear eI8938
        refine WP_aload_n dX6_load_151 rfl ?_
        refine WP_iload dX6_load_152 rfl ?_
        refine WQ_if_ne 163 dX6_load_154 rfl (fun c8947 => False.elim (by omega)) (fun c8947 => ?_)
        refine WP_iload dX6_load_157 rfl ?_
        refine WQ_iconst (-1) (-1) dX6_load_159 rfl rfl (fun v8949 hv8949 => ?_)
        refine WQ_icmp_ne 167 dX6_load_160 rfl (fun c8949 => ?_) (fun c8949 => False.elim (by omega))
        refine WQ_iconst (2) (2) dX6_load_167 rfl rfl (fun v8951 hv8951 => ?_)
        refine WQ_puti dX6_load_168 fX6_57 rfl rfl (lyx_is hy 44 6 rfl) (fun I8952 eI8952 => ?_)
        have hI8952 : XI g n L I8952 := by rw [eI8952]; exact (xi_f hy hI8938 (c := 44) (0) (0) (2) (by decide) (Or.inl (by decide)) (by decide) (by omega) (by omega))
        have e8953 : I8952 (ad g 1) 1 = L := by rw [eI8952, pp_ne _ _ (Or.inl (lyx_ne hy (by decide) (by decide) (by decide)))]; exact e8939
        have e8954 : I8952 (ad g 27) 4 = v8659 := by rw [eI8952, pp_ne _ _ (Or.inl (lyx_ne hy (by decide) (by decide) (by decide)))]; exact e8940
        have e8955 : I8952 (ad g 44) 0 = v8666 := by rw [eI8952, pp_ne _ _ (Or.inr (by decide))]; exact e8941
        have e8956 : I8952 (ad g 44) 1 = v8672 := by rw [eI8952, pp_ne _ _ (Or.inr (by decide))]; exact e8942
        have e8957 : I8952 (ad g 44) 2 = v8679 := by rw [eI8952, pp_ne _ _ (Or.inr (by decide))]; exact e8943
        have e8958 : I8952 (ad g 44) 3 = v8913 := by rw [eI8952, pp_ne _ _ (Or.inr (by decide))]; exact e8944
        have e8959 : I8952 (ad g 44) 4 = v8927 := by rw [eI8952, pp_ne _ _ (Or.inr (by decide))]; exact e8945
        have e8960 : I8952 (ad g 44) 5 = v8672 := by rw [eI8952, pp_ne _ _ (Or.inr (by decide))]; exact e8946
        have e8961 : I8952 (ad g 44) 6 = v8951 := by rw [eI8952, pp_self]
        have fr8962 : fz 74 g [44] I I8952 := by rw [eI8952]; exact fzx_pp hy fr8947 (by decide) (by decide)
        clear eI8952
        refine WP_aload_n dX6_load_171 rfl ?_
        refine WP_aload_n dX6_load_172 rfl ?_
        refine WQ_getim dX6_load_173 fX6_9 rfl (lyx_is hy 44 6 rfl) e8955 ?_
        refine WQ_iconst (-1) (-1) dX6_load_176 rfl rfl (fun v8963 hv8963 => ?_)
        refine WQ_icmp_eq 193 dX6_load_177 rfl (fun c8963 => ?_) (fun c8963 => False.elim (by omega))
        refine WQ_iconst (0) (0) dX6_load_193 rfl rfl (fun v8965 hv8965 => ?_)
        refine WQ_putz dX6_load_194 fX6_60 rfl rfl (by omega) (lyx_is hy 44 6 rfl) (fun I8966 eI8966 => ?_)
        have hI8966 : XI g n L I8966 := by rw [eI8966]; exact (xi_f hy hI8952 (c := 44) (0) (0) (1) (by decide) (Or.inl (by decide)) (by decide) (by omega) (by omega))
        have e8967 : I8966 (ad g 1) 1 = L := by rw [eI8966, pp_ne _ _ (Or.inl (lyx_ne hy (by decide) (by decide) (by decide)))]; exact e8953
        have e8968 : I8966 (ad g 27) 4 = v8659 := by rw [eI8966, pp_ne _ _ (Or.inl (lyx_ne hy (by decide) (by decide) (by decide)))]; exact e8954
        have e8969 : I8966 (ad g 44) 0 = v8666 := by rw [eI8966, pp_ne _ _ (Or.inr (by decide))]; exact e8955
        have e8970 : I8966 (ad g 44) 1 = v8672 := by rw [eI8966, pp_ne _ _ (Or.inr (by decide))]; exact e8956
        have e8971 : I8966 (ad g 44) 2 = v8679 := by rw [eI8966, pp_ne _ _ (Or.inr (by decide))]; exact e8957
        have e8972 : I8966 (ad g 44) 3 = v8913 := by rw [eI8966, pp_ne _ _ (Or.inr (by decide))]; exact e8958
        have e8973 : I8966 (ad g 44) 4 = v8927 := by rw [eI8966, pp_ne _ _ (Or.inr (by decide))]; exact e8959
        have e8974 : I8966 (ad g 44) 5 = v8672 := by rw [eI8966, pp_ne _ _ (Or.inr (by decide))]; exact e8960
        have e8975 : I8966 (ad g 44) 6 = v8951 := by rw [eI8966, pp_ne _ _ (Or.inr (by decide))]; exact e8961
        have e8976 : I8966 (ad g 44) 7 = v8965 := by rw [eI8966, pp_self]
        have fr8977 : fz 74 g [44] I I8966 := by rw [eI8966]; exact fzx_pp hy fr8962 (by decide) (by decide)
        clear eI8966
        refine WP_aload_n dX6_load_197 rfl ?_
        refine WP_aload_n dX6_load_198 rfl ?_
        refine WP_getr dX6_load_199 fX6_64 rfl (lyx_is hy 5 0 rfl) (rfx hr 5 2 23 (by decide)) ?_
        refine WP_iload_n dX6_load_202 rfl ?_
        refine WQ_iald dX6_load_203 (lyx_is hy 23 13 rfl) (lyx_n hy 23 7 rfl) (by omega) (by omega) (fun q hq => BT_get hI8966.1 23 0 7 (0) (0) (900) (by decide) q (Nat.zero_le _) hq) (fun v8978 av8978 bv8978 ev8978 => ?_)
        clear ev8978
        refine WQ_if_le 211 dX6_load_204 rfl (fun c8978 => ?_) (fun c8978 => ?_)
        · refine WQ_iconst (0) (0) dX6_load_211 rfl rfl (fun v8980 hv8980 => ?_)
          refine WQ_putz dX6_load_212 fX6_67 rfl rfl (by omega) (lyx_is hy 44 6 rfl) (fun I8981 eI8981 => ?_)
          have hI8981 : XI g n L I8981 := by rw [eI8981]; exact (xi_f hy hI8966 (c := 44) (0) (0) (1) (by decide) (Or.inl (by decide)) (by decide) (by omega) (by omega))
          have e8982 : I8981 (ad g 1) 1 = L := by rw [eI8981, pp_ne _ _ (Or.inl (lyx_ne hy (by decide) (by decide) (by decide)))]; exact e8967
          have e8983 : I8981 (ad g 27) 4 = v8659 := by rw [eI8981, pp_ne _ _ (Or.inl (lyx_ne hy (by decide) (by decide) (by decide)))]; exact e8968
          have e8984 : I8981 (ad g 44) 0 = v8666 := by rw [eI8981, pp_ne _ _ (Or.inr (by decide))]; exact e8969
          have e8985 : I8981 (ad g 44) 1 = v8672 := by rw [eI8981, pp_ne _ _ (Or.inr (by decide))]; exact e8970
          have e8986 : I8981 (ad g 44) 2 = v8679 := by rw [eI8981, pp_ne _ _ (Or.inr (by decide))]; exact e8971
          have e8987 : I8981 (ad g 44) 3 = v8913 := by rw [eI8981, pp_ne _ _ (Or.inr (by decide))]; exact e8972
          have e8988 : I8981 (ad g 44) 4 = v8927 := by rw [eI8981, pp_ne _ _ (Or.inr (by decide))]; exact e8973
          have e8989 : I8981 (ad g 44) 5 = v8672 := by rw [eI8981, pp_ne _ _ (Or.inr (by decide))]; exact e8974
          have e8990 : I8981 (ad g 44) 6 = v8951 := by rw [eI8981, pp_ne _ _ (Or.inr (by decide))]; exact e8975
          have e8991 : I8981 (ad g 44) 7 = v8965 := by rw [eI8981, pp_ne _ _ (Or.inr (by decide))]; exact e8976
          have e8992 : I8981 (ad g 44) 8 = v8980 := by rw [eI8981, pp_self]
          have fr8993 : fz 74 g [44] I I8981 := by rw [eI8981]; exact fzx_pp hy fr8977 (by decide) (by decide)
          clear eI8981
          exact WP_vret dX6_load_215 rfl ⟨⟨hI8981, rfl, fr8993, rfl, (by
                have yill : I (ad g (27 + 5)) so.toInt.toNat >>> (nI da.toInt.toNat &&& 31) &&& 1 = v8663 := by rw [show I (ad g (27 + 5)) so.toInt.toNat = v8660 from yv8660, show nI da.toInt.toNat = da from (eq32 _ _).mpr (by rw [nI_toInt (by omega)]; omega), xv8663, xv8661, (eq32 v8662 1).mpr hv8662]
                have yst : I (ad g 27) 4 = v8659 := est
                unfold LD
                simp only [e8984, e8985, e8986, e8987, e8988, e8989, e8990, e8991, yill, yst, show I (ad g (27 + 7)) _ = _ from yv8666, show I (ad g (27 + 8)) _ = _ from yv8672, show I (ad g (27 + 9)) _ = _ from yv8679, yv8927, true_and, and_true]
                omega)⟩, rfl⟩
        · refine WQ_iconst (1) (1) dX6_load_207 rfl rfl (fun v8994 hv8994 => ?_)
          refine WP_goto 212 dX6_load_208 rfl ?_
          refine WQ_putz dX6_load_212 fX6_67 rfl rfl (by omega) (lyx_is hy 44 6 rfl) (fun I8995 eI8995 => ?_)
          have hI8995 : XI g n L I8995 := by rw [eI8995]; exact (xi_f hy hI8966 (c := 44) (0) (0) (1) (by decide) (Or.inl (by decide)) (by decide) (by omega) (by omega))
          have e8996 : I8995 (ad g 1) 1 = L := by rw [eI8995, pp_ne _ _ (Or.inl (lyx_ne hy (by decide) (by decide) (by decide)))]; exact e8967
          have e8997 : I8995 (ad g 27) 4 = v8659 := by rw [eI8995, pp_ne _ _ (Or.inl (lyx_ne hy (by decide) (by decide) (by decide)))]; exact e8968
          have e8998 : I8995 (ad g 44) 0 = v8666 := by rw [eI8995, pp_ne _ _ (Or.inr (by decide))]; exact e8969
          have e8999 : I8995 (ad g 44) 1 = v8672 := by rw [eI8995, pp_ne _ _ (Or.inr (by decide))]; exact e8970
          have e9000 : I8995 (ad g 44) 2 = v8679 := by rw [eI8995, pp_ne _ _ (Or.inr (by decide))]; exact e8971
          have e9001 : I8995 (ad g 44) 3 = v8913 := by rw [eI8995, pp_ne _ _ (Or.inr (by decide))]; exact e8972
          have e9002 : I8995 (ad g 44) 4 = v8927 := by rw [eI8995, pp_ne _ _ (Or.inr (by decide))]; exact e8973
          have e9003 : I8995 (ad g 44) 5 = v8672 := by rw [eI8995, pp_ne _ _ (Or.inr (by decide))]; exact e8974
          have e9004 : I8995 (ad g 44) 6 = v8951 := by rw [eI8995, pp_ne _ _ (Or.inr (by decide))]; exact e8975
          have e9005 : I8995 (ad g 44) 7 = v8965 := by rw [eI8995, pp_ne _ _ (Or.inr (by decide))]; exact e8976
          have e9006 : I8995 (ad g 44) 8 = v8994 := by rw [eI8995, pp_self]
          have fr9007 : fz 74 g [44] I I8995 := by rw [eI8995]; exact fzx_pp hy fr8977 (by decide) (by decide)
          clear eI8995
          exact WP_vret dX6_load_215 rfl ⟨⟨hI8995, rfl, fr9007, rfl, (by
                have yill : I (ad g (27 + 5)) so.toInt.toNat >>> (nI da.toInt.toNat &&& 31) &&& 1 = v8663 := by rw [show I (ad g (27 + 5)) so.toInt.toNat = v8660 from yv8660, show nI da.toInt.toNat = da from (eq32 _ _).mpr (by rw [nI_toInt (by omega)]; omega), xv8663, xv8661, (eq32 v8662 1).mpr hv8662]
                have yst : I (ad g 27) 4 = v8659 := est
                unfold LD
                simp only [e8998, e8999, e9000, e9001, e9002, e9003, e9004, e9005, yill, yst, show I (ad g (27 + 7)) _ = _ from yv8666, show I (ad g (27 + 8)) _ = _ from yv8672, show I (ad g (27 + 9)) _ = _ from yv8679, yv8927, true_and, and_true]
                omega)⟩, rfl⟩
      · refine WQ_iconst (0) (0) dX6_load_115 rfl rfl (fun v9008 hv9008 => ?_)
        refine WP_goto 131 dX6_load_116 rfl ?_
        refine WQ_puti dX6_load_131 fX6_51 rfl rfl (lyx_is hy 44 6 rfl) (fun I9009 eI9009 => ?_)
        have hI9009 : XI g n L I9009 := by rw [eI9009]; exact (xi_f hy hI8914 (c := 44) (0) (0) (20) (by decide) (Or.inl (by decide)) (by decide) (by omega) (by omega))
        have e9010 : I9009 (ad g 1) 1 = L := by rw [eI9009, pp_ne _ _ (Or.inl (lyx_ne hy (by decide) (by decide) (by decide)))]; exact e8915
        have e9011 : I9009 (ad g 27) 4 = v8659 := by rw [eI9009, pp_ne _ _ (Or.inl (lyx_ne hy (by decide) (by decide) (by decide)))]; exact e8916
        have e9012 : I9009 (ad g 44) 0 = v8666 := by rw [eI9009, pp_ne _ _ (Or.inr (by decide))]; exact e8917
        have e9013 : I9009 (ad g 44) 1 = v8672 := by rw [eI9009, pp_ne _ _ (Or.inr (by decide))]; exact e8918
        have e9014 : I9009 (ad g 44) 2 = v8679 := by rw [eI9009, pp_ne _ _ (Or.inr (by decide))]; exact e8919
        have e9015 : I9009 (ad g 44) 3 = v8913 := by rw [eI9009, pp_ne _ _ (Or.inr (by decide))]; exact e8920
        have e9016 : I9009 (ad g 44) 4 = v9008 := by rw [eI9009, pp_self]
        have fr9017 : fz 74 g [44] I I9009 := by rw [eI9009]; exact fzx_pp hy fr8921 (by decide) (by decide)
        clear eI9009
        refine WP_aload_n dX6_load_134 rfl ?_
        refine WP_iload dX6_load_135 rfl ?_
        refine WQ_if_eq 144 dX6_load_137 rfl (fun c9017 => ?_) (fun c9017 => False.elim (by omega))
        refine WP_aload_n dX6_load_144 rfl ?_
        refine WQ_getim dX6_load_145 fX6_36 rfl (lyx_is hy 44 6 rfl) e9013 ?_
        refine WQ_puti dX6_load_148 fX6_54 rfl rfl (lyx_is hy 44 6 rfl) (fun I9019 eI9019 => ?_)
        have hI9019 : XI g n L I9019 := by rw [eI9019]; exact (xi_f hy hI9009 (c := 44) (0) (0) (3) (by decide) (Or.inl (by decide)) (by decide) (by omega) (by omega))
        have e9020 : I9019 (ad g 1) 1 = L := by rw [eI9019, pp_ne _ _ (Or.inl (lyx_ne hy (by decide) (by decide) (by decide)))]; exact e9010
        have e9021 : I9019 (ad g 27) 4 = v8659 := by rw [eI9019, pp_ne _ _ (Or.inl (lyx_ne hy (by decide) (by decide) (by decide)))]; exact e9011
        have e9022 : I9019 (ad g 44) 0 = v8666 := by rw [eI9019, pp_ne _ _ (Or.inr (by decide))]; exact e9012
        have e9023 : I9019 (ad g 44) 1 = v8672 := by rw [eI9019, pp_ne _ _ (Or.inr (by decide))]; exact e9013
        have e9024 : I9019 (ad g 44) 2 = v8679 := by rw [eI9019, pp_ne _ _ (Or.inr (by decide))]; exact e9014
        have e9025 : I9019 (ad g 44) 3 = v8913 := by rw [eI9019, pp_ne _ _ (Or.inr (by decide))]; exact e9015
        have e9026 : I9019 (ad g 44) 4 = v9008 := by rw [eI9019, pp_ne _ _ (Or.inr (by decide))]; exact e9016
        have e9027 : I9019 (ad g 44) 5 = v8672 := by rw [eI9019, pp_self]
        have fr9028 : fz 74 g [44] I I9019 := by rw [eI9019]; exact fzx_pp hy fr9017 (by decide) (by decide)
        clear eI9019
        refine WP_aload_n dX6_load_151 rfl ?_
        refine WP_iload dX6_load_152 rfl ?_
        refine WQ_if_ne 163 dX6_load_154 rfl (fun c9028 => False.elim (by omega)) (fun c9028 => ?_)
        refine WP_iload dX6_load_157 rfl ?_
        refine WQ_iconst (-1) (-1) dX6_load_159 rfl rfl (fun v9030 hv9030 => ?_)
        refine WQ_icmp_ne 167 dX6_load_160 rfl (fun c9030 => False.elim (by omega)) (fun c9030 => ?_)
        refine WQ_iconst (0) (0) dX6_load_163 rfl rfl (fun v9032 hv9032 => ?_)
        refine WP_goto 168 dX6_load_164 rfl ?_
        refine WQ_puti dX6_load_168 fX6_57 rfl rfl (lyx_is hy 44 6 rfl) (fun I9033 eI9033 => ?_)
        have hI9033 : XI g n L I9033 := by rw [eI9033]; exact (xi_f hy hI9019 (c := 44) (0) (0) (2) (by decide) (Or.inl (by decide)) (by decide) (by omega) (by omega))
        have e9034 : I9033 (ad g 1) 1 = L := by rw [eI9033, pp_ne _ _ (Or.inl (lyx_ne hy (by decide) (by decide) (by decide)))]; exact e9020
        have e9035 : I9033 (ad g 27) 4 = v8659 := by rw [eI9033, pp_ne _ _ (Or.inl (lyx_ne hy (by decide) (by decide) (by decide)))]; exact e9021
        have e9036 : I9033 (ad g 44) 0 = v8666 := by rw [eI9033, pp_ne _ _ (Or.inr (by decide))]; exact e9022
        have e9037 : I9033 (ad g 44) 1 = v8672 := by rw [eI9033, pp_ne _ _ (Or.inr (by decide))]; exact e9023
        have e9038 : I9033 (ad g 44) 2 = v8679 := by rw [eI9033, pp_ne _ _ (Or.inr (by decide))]; exact e9024
        have e9039 : I9033 (ad g 44) 3 = v8913 := by rw [eI9033, pp_ne _ _ (Or.inr (by decide))]; exact e9025
        have e9040 : I9033 (ad g 44) 4 = v9008 := by rw [eI9033, pp_ne _ _ (Or.inr (by decide))]; exact e9026
        have e9041 : I9033 (ad g 44) 5 = v8672 := by rw [eI9033, pp_ne _ _ (Or.inr (by decide))]; exact e9027
        have e9042 : I9033 (ad g 44) 6 = v9032 := by rw [eI9033, pp_self]
        have fr9043 : fz 74 g [44] I I9033 := by rw [eI9033]; exact fzx_pp hy fr9028 (by decide) (by decide)
        clear eI9033
        refine WP_aload_n dX6_load_171 rfl ?_
        refine WP_aload_n dX6_load_172 rfl ?_
        refine WQ_getim dX6_load_173 fX6_9 rfl (lyx_is hy 44 6 rfl) e9036 ?_
        refine WQ_iconst (-1) (-1) dX6_load_176 rfl rfl (fun v9044 hv9044 => ?_)
        refine WQ_icmp_eq 193 dX6_load_177 rfl (fun c9044 => ?_) (fun c9044 => False.elim (by omega))
        refine WQ_iconst (0) (0) dX6_load_193 rfl rfl (fun v9046 hv9046 => ?_)
        refine WQ_putz dX6_load_194 fX6_60 rfl rfl (by omega) (lyx_is hy 44 6 rfl) (fun I9047 eI9047 => ?_)
        have hI9047 : XI g n L I9047 := by rw [eI9047]; exact (xi_f hy hI9033 (c := 44) (0) (0) (1) (by decide) (Or.inl (by decide)) (by decide) (by omega) (by omega))
        have e9048 : I9047 (ad g 1) 1 = L := by rw [eI9047, pp_ne _ _ (Or.inl (lyx_ne hy (by decide) (by decide) (by decide)))]; exact e9034
        have e9049 : I9047 (ad g 27) 4 = v8659 := by rw [eI9047, pp_ne _ _ (Or.inl (lyx_ne hy (by decide) (by decide) (by decide)))]; exact e9035
        have e9050 : I9047 (ad g 44) 0 = v8666 := by rw [eI9047, pp_ne _ _ (Or.inr (by decide))]; exact e9036
        have e9051 : I9047 (ad g 44) 1 = v8672 := by rw [eI9047, pp_ne _ _ (Or.inr (by decide))]; exact e9037
        have e9052 : I9047 (ad g 44) 2 = v8679 := by rw [eI9047, pp_ne _ _ (Or.inr (by decide))]; exact e9038
        have e9053 : I9047 (ad g 44) 3 = v8913 := by rw [eI9047, pp_ne _ _ (Or.inr (by decide))]; exact e9039
        have e9054 : I9047 (ad g 44) 4 = v9008 := by rw [eI9047, pp_ne _ _ (Or.inr (by decide))]; exact e9040
        have e9055 : I9047 (ad g 44) 5 = v8672 := by rw [eI9047, pp_ne _ _ (Or.inr (by decide))]; exact e9041
        have e9056 : I9047 (ad g 44) 6 = v9032 := by rw [eI9047, pp_ne _ _ (Or.inr (by decide))]; exact e9042
        have e9057 : I9047 (ad g 44) 7 = v9046 := by rw [eI9047, pp_self]
        have fr9058 : fz 74 g [44] I I9047 := by rw [eI9047]; exact fzx_pp hy fr9043 (by decide) (by decide)
        clear eI9047
        refine WP_aload_n dX6_load_197 rfl ?_
        refine WP_aload_n dX6_load_198 rfl ?_
        refine WP_getr dX6_load_199 fX6_64 rfl (lyx_is hy 5 0 rfl) (rfx hr 5 2 23 (by decide)) ?_
        refine WP_iload_n dX6_load_202 rfl ?_
        refine WQ_iald dX6_load_203 (lyx_is hy 23 13 rfl) (lyx_n hy 23 7 rfl) (by omega) (by omega) (fun q hq => BT_get hI9047.1 23 0 7 (0) (0) (900) (by decide) q (Nat.zero_le _) hq) (fun v9059 av9059 bv9059 ev9059 => ?_)
        clear ev9059
        refine WQ_if_le 211 dX6_load_204 rfl (fun c9059 => ?_) (fun c9059 => ?_)
        · refine WQ_iconst (0) (0) dX6_load_211 rfl rfl (fun v9061 hv9061 => ?_)
          refine WQ_putz dX6_load_212 fX6_67 rfl rfl (by omega) (lyx_is hy 44 6 rfl) (fun I9062 eI9062 => ?_)
          have hI9062 : XI g n L I9062 := by rw [eI9062]; exact (xi_f hy hI9047 (c := 44) (0) (0) (1) (by decide) (Or.inl (by decide)) (by decide) (by omega) (by omega))
          have e9063 : I9062 (ad g 1) 1 = L := by rw [eI9062, pp_ne _ _ (Or.inl (lyx_ne hy (by decide) (by decide) (by decide)))]; exact e9048
          have e9064 : I9062 (ad g 27) 4 = v8659 := by rw [eI9062, pp_ne _ _ (Or.inl (lyx_ne hy (by decide) (by decide) (by decide)))]; exact e9049
          have e9065 : I9062 (ad g 44) 0 = v8666 := by rw [eI9062, pp_ne _ _ (Or.inr (by decide))]; exact e9050
          have e9066 : I9062 (ad g 44) 1 = v8672 := by rw [eI9062, pp_ne _ _ (Or.inr (by decide))]; exact e9051
          have e9067 : I9062 (ad g 44) 2 = v8679 := by rw [eI9062, pp_ne _ _ (Or.inr (by decide))]; exact e9052
          have e9068 : I9062 (ad g 44) 3 = v8913 := by rw [eI9062, pp_ne _ _ (Or.inr (by decide))]; exact e9053
          have e9069 : I9062 (ad g 44) 4 = v9008 := by rw [eI9062, pp_ne _ _ (Or.inr (by decide))]; exact e9054
          have e9070 : I9062 (ad g 44) 5 = v8672 := by rw [eI9062, pp_ne _ _ (Or.inr (by decide))]; exact e9055
          have e9071 : I9062 (ad g 44) 6 = v9032 := by rw [eI9062, pp_ne _ _ (Or.inr (by decide))]; exact e9056
          have e9072 : I9062 (ad g 44) 7 = v9046 := by rw [eI9062, pp_ne _ _ (Or.inr (by decide))]; exact e9057
          have e9073 : I9062 (ad g 44) 8 = v9061 := by rw [eI9062, pp_self]
          have fr9074 : fz 74 g [44] I I9062 := by rw [eI9062]; exact fzx_pp hy fr9058 (by decide) (by decide)
          clear eI9062
          exact WP_vret dX6_load_215 rfl ⟨⟨hI9062, rfl, fr9074, rfl, (by
                have yill : I (ad g (27 + 5)) so.toInt.toNat >>> (nI da.toInt.toNat &&& 31) &&& 1 = v8663 := by rw [show I (ad g (27 + 5)) so.toInt.toNat = v8660 from yv8660, show nI da.toInt.toNat = da from (eq32 _ _).mpr (by rw [nI_toInt (by omega)]; omega), xv8663, xv8661, (eq32 v8662 1).mpr hv8662]
                have yst : I (ad g 27) 4 = v8659 := est
                unfold LD
                simp only [e9065, e9066, e9067, e9068, e9069, e9070, e9071, e9072, yill, yst, show I (ad g (27 + 7)) _ = _ from yv8666, show I (ad g (27 + 8)) _ = _ from yv8672, show I (ad g (27 + 9)) _ = _ from yv8679, true_and, and_true]
                omega)⟩, rfl⟩
        · refine WQ_iconst (1) (1) dX6_load_207 rfl rfl (fun v9075 hv9075 => ?_)
          refine WP_goto 212 dX6_load_208 rfl ?_
          refine WQ_putz dX6_load_212 fX6_67 rfl rfl (by omega) (lyx_is hy 44 6 rfl) (fun I9076 eI9076 => ?_)
          have hI9076 : XI g n L I9076 := by rw [eI9076]; exact (xi_f hy hI9047 (c := 44) (0) (0) (1) (by decide) (Or.inl (by decide)) (by decide) (by omega) (by omega))
          have e9077 : I9076 (ad g 1) 1 = L := by rw [eI9076, pp_ne _ _ (Or.inl (lyx_ne hy (by decide) (by decide) (by decide)))]; exact e9048
          have e9078 : I9076 (ad g 27) 4 = v8659 := by rw [eI9076, pp_ne _ _ (Or.inl (lyx_ne hy (by decide) (by decide) (by decide)))]; exact e9049
          have e9079 : I9076 (ad g 44) 0 = v8666 := by rw [eI9076, pp_ne _ _ (Or.inr (by decide))]; exact e9050
          have e9080 : I9076 (ad g 44) 1 = v8672 := by rw [eI9076, pp_ne _ _ (Or.inr (by decide))]; exact e9051
          have e9081 : I9076 (ad g 44) 2 = v8679 := by rw [eI9076, pp_ne _ _ (Or.inr (by decide))]; exact e9052
          have e9082 : I9076 (ad g 44) 3 = v8913 := by rw [eI9076, pp_ne _ _ (Or.inr (by decide))]; exact e9053
          have e9083 : I9076 (ad g 44) 4 = v9008 := by rw [eI9076, pp_ne _ _ (Or.inr (by decide))]; exact e9054
          have e9084 : I9076 (ad g 44) 5 = v8672 := by rw [eI9076, pp_ne _ _ (Or.inr (by decide))]; exact e9055
          have e9085 : I9076 (ad g 44) 6 = v9032 := by rw [eI9076, pp_ne _ _ (Or.inr (by decide))]; exact e9056
          have e9086 : I9076 (ad g 44) 7 = v9046 := by rw [eI9076, pp_ne _ _ (Or.inr (by decide))]; exact e9057
          have e9087 : I9076 (ad g 44) 8 = v9075 := by rw [eI9076, pp_self]
          have fr9088 : fz 74 g [44] I I9076 := by rw [eI9076]; exact fzx_pp hy fr9058 (by decide) (by decide)
          clear eI9076
          exact WP_vret dX6_load_215 rfl ⟨⟨hI9076, rfl, fr9088, rfl, (by
                have yill : I (ad g (27 + 5)) so.toInt.toNat >>> (nI da.toInt.toNat &&& 31) &&& 1 = v8663 := by rw [show I (ad g (27 + 5)) so.toInt.toNat = v8660 from yv8660, show nI da.toInt.toNat = da from (eq32 _ _).mpr (by rw [nI_toInt (by omega)]; omega), xv8663, xv8661, (eq32 v8662 1).mpr hv8662]
                have yst : I (ad g 27) 4 = v8659 := est
                unfold LD
                simp only [e9079, e9080, e9081, e9082, e9083, e9084, e9085, e9086, yill, yst, show I (ad g (27 + 7)) _ = _ from yv8666, show I (ad g (27 + 8)) _ = _ from yv8672, show I (ad g (27 + 9)) _ = _ from yv8679, true_and, and_true]
                omega)⟩, rfl⟩
  · refine WQ_iconst (1) (1) dX6_load_35 rfl rfl (fun v9089 hv9089 => ?_)
    refine WP_goto 40 dX6_load_36 rfl ?_
    refine WP_istore (ls' := [(0, _), (1, _), (2, _), (3, _), (4, _), (5, _), (6, _), (7, _)]) dX6_load_40 (by decide) rfl ?_
    refine WP_aload_n dX6_load_42 rfl ?_
    refine WP_aload dX6_load_43 rfl ?_
    refine WP_getr dX6_load_45 fX6_30 rfl (lyx_is hy 27 7 rfl) (rfx hr 27 11 34 (by decide)) ?_
    refine WP_iload dX6_load_48 rfl ?_
    refine WQ_ialdb dX6_load_50 (lyx_is hy 34 13 rfl) (lyx_n hy 34 28 rfl) (by omega) (by omega) (fun q hq => BT_get hI.1 34 0 28 (-1) (0) (2) (by decide) q (Nat.zero_le _) hq) (fun v9090 av9090 bv9090 zv9090 => ?_)
    have yv9090 : I (ad g 34) (7 * so.toInt + da.toInt).toNat = v9090 := by rw [← fz_at fr0 34 (by decide) (by decide), show (7 * so.toInt + da.toInt).toNat = v8658.toInt.toNat by omega]; exact zv9090
    refine WQ_puti dX6_load_51 fX6_9 rfl rfl (lyx_is hy 44 6 rfl) (fun I9091 eI9091 => ?_)
    have hI9091 : XI g n L I9091 := by rw [eI9091]; exact (xi_f hy hI (c := 44) (-1) (0) (2) (by decide) (Or.inl (by decide)) (by decide) (by omega) (by omega))
    have e9092 : I9091 (ad g 1) 1 = L := by rw [eI9091, pp_ne _ _ (Or.inl (lyx_ne hy (by decide) (by decide) (by decide)))]; exact e8654
    have e9093 : I9091 (ad g 27) 4 = v8659 := by rw [eI9091, pp_ne _ _ (Or.inl (lyx_ne hy (by decide) (by decide) (by decide)))]; exact ev8659
    have e9094 : I9091 (ad g 44) 0 = v9090 := by rw [eI9091, pp_self]
    have fr9095 : fz 74 g [44] I I9091 := by rw [eI9091]; exact fzx_pp hy fr0 (by decide) (by decide)
    clear eI9091
    refine WP_aload_n dX6_load_54 rfl ?_
    refine WP_aload dX6_load_55 rfl ?_
    refine WP_getr dX6_load_57 fX6_33 rfl (lyx_is hy 27 7 rfl) (rfx hr 27 12 35 (by decide)) ?_
    refine WP_iload dX6_load_60 rfl ?_
    refine WQ_ialdb dX6_load_62 (lyx_is hy 35 13 rfl) (lyx_n hy 35 28 rfl) (by omega) (by omega) (fun q hq => BT_get hI9091.1 35 0 28 (0) (0) (3) (by decide) q (Nat.zero_le _) hq) (fun v9096 av9096 bv9096 zv9096 => ?_)
    have yv9096 : I (ad g 35) (7 * so.toInt + da.toInt).toNat = v9096 := by rw [← fz_at fr9095 35 (by decide) (by decide), show (7 * so.toInt + da.toInt).toNat = v8658.toInt.toNat by omega]; exact zv9096
    refine WQ_puti dX6_load_63 fX6_36 rfl rfl (lyx_is hy 44 6 rfl) (fun I9097 eI9097 => ?_)
    have hI9097 : XI g n L I9097 := by rw [eI9097]; exact (xi_f hy hI9091 (c := 44) (0) (0) (3) (by decide) (Or.inl (by decide)) (by decide) (by omega) (by omega))
    have e9098 : I9097 (ad g 1) 1 = L := by rw [eI9097, pp_ne _ _ (Or.inl (lyx_ne hy (by decide) (by decide) (by decide)))]; exact e9092
    have e9099 : I9097 (ad g 27) 4 = v8659 := by rw [eI9097, pp_ne _ _ (Or.inl (lyx_ne hy (by decide) (by decide) (by decide)))]; exact e9093
    have e9100 : I9097 (ad g 44) 0 = v9090 := by rw [eI9097, pp_ne _ _ (Or.inr (by decide))]; exact e9094
    have e9101 : I9097 (ad g 44) 1 = v9096 := by rw [eI9097, pp_self]
    have fr9102 : fz 74 g [44] I I9097 := by rw [eI9097]; exact fzx_pp hy fr9095 (by decide) (by decide)
    clear eI9097
    refine WP_aload_n dX6_load_66 rfl ?_
    refine WP_aload dX6_load_67 rfl ?_
    refine WP_getr dX6_load_69 fX6_39 rfl (lyx_is hy 27 7 rfl) (rfx hr 27 13 36 (by decide)) ?_
    refine WP_iload dX6_load_72 rfl ?_
    refine WQ_ialdb dX6_load_74 (lyx_is hy 36 13 rfl) (lyx_n hy 36 28 rfl) (by omega) (by omega) (fun q hq => BT_get hI9097.1 36 0 28 (0) (0) (99) (by decide) q (Nat.zero_le _) hq) (fun v9103 av9103 bv9103 zv9103 => ?_)
    have yv9103 : I (ad g 36) (7 * so.toInt + da.toInt).toNat = v9103 := by rw [← fz_at fr9102 36 (by decide) (by decide), show (7 * so.toInt + da.toInt).toNat = v8658.toInt.toNat by omega]; exact zv9103
    refine WQ_puti dX6_load_75 fX6_42 rfl rfl (lyx_is hy 44 6 rfl) (fun I9104 eI9104 => ?_)
    have hI9104 : XI g n L I9104 := by rw [eI9104]; exact (xi_f hy hI9097 (c := 44) (0) (0) (99) (by decide) (Or.inl (by decide)) (by decide) (by omega) (by omega))
    have e9105 : I9104 (ad g 1) 1 = L := by rw [eI9104, pp_ne _ _ (Or.inl (lyx_ne hy (by decide) (by decide) (by decide)))]; exact e9098
    have e9106 : I9104 (ad g 27) 4 = v8659 := by rw [eI9104, pp_ne _ _ (Or.inl (lyx_ne hy (by decide) (by decide) (by decide)))]; exact e9099
    have e9107 : I9104 (ad g 44) 0 = v9090 := by rw [eI9104, pp_ne _ _ (Or.inr (by decide))]; exact e9100
    have e9108 : I9104 (ad g 44) 1 = v9096 := by rw [eI9104, pp_ne _ _ (Or.inr (by decide))]; exact e9101
    have e9109 : I9104 (ad g 44) 2 = v9103 := by rw [eI9104, pp_self]
    have fr9110 : fz 74 g [44] I I9104 := by rw [eI9104]; exact fzx_pp hy fr9102 (by decide) (by decide)
    clear eI9104
    refine WP_aload_n dX6_load_78 rfl ?_
    refine WP_aload_n dX6_load_79 rfl ?_
    refine WQ_getim dX6_load_80 fX6_9 rfl (lyx_is hy 44 6 rfl) e9107 ?_
    refine WQ_iconst (-1) (-1) dX6_load_83 rfl rfl (fun v9111 hv9111 => ?_)
    refine WQ_icmp_ne 91 dX6_load_84 rfl (fun c9111 => ?_) (fun c9111 => ?_)
    · refine WP_aload_n dX6_load_91 rfl ?_
      refine WP_getr dX6_load_92 fX6_45 rfl (lyx_is hy 5 0 rfl) (rfx hr 5 1 22 (by decide)) ?_
      refine WP_aload_n dX6_load_95 rfl ?_
      refine WQ_getim dX6_load_96 fX6_9 rfl (lyx_is hy 44 6 rfl) e9107 ?_
      refine WQ_bipush (7) (7) dX6_load_99 rfl rfl (fun v9113 hv9113 => ?_)
      refine WQ_imulk (7) dX6_load_101 hv9113 (by omega) (by omega) (fun v9114 hv9114 => ?_)
      refine WP_iload_n dX6_load_102 rfl ?_
      refine WQ_iadd dX6_load_103 (by omega) (by omega) (fun v9115 hv9115 => ?_)
      refine WQ_ialdb dX6_load_104 (lyx_is hy 22 13 rfl) (lyx_n hy 22 21 rfl) (by omega) (by omega) (fun q hq => BT_get hI9104.1 22 0 21 (0) (0) (20) (by decide) q (Nat.zero_le _) hq) (fun v9116 av9116 bv9116 zv9116 => ?_)
      have yv9116 : I (ad g 22) (7 * v9090.toInt + da.toInt).toNat = v9116 := by rw [← fz_at fr9110 22 (by decide) (by decide), show (7 * v9090.toInt + da.toInt).toNat = v9115.toInt.toNat by omega]; exact zv9116
      refine WQ_puti dX6_load_105 fX6_48 rfl rfl (lyx_is hy 44 6 rfl) (fun I9117 eI9117 => ?_)
      have hI9117 : XI g n L I9117 := by rw [eI9117]; exact (xi_f hy hI9104 (c := 44) (0) (0) (20) (by decide) (Or.inl (by decide)) (by decide) (by omega) (by omega))
      have e9118 : I9117 (ad g 1) 1 = L := by rw [eI9117, pp_ne _ _ (Or.inl (lyx_ne hy (by decide) (by decide) (by decide)))]; exact e9105
      have e9119 : I9117 (ad g 27) 4 = v8659 := by rw [eI9117, pp_ne _ _ (Or.inl (lyx_ne hy (by decide) (by decide) (by decide)))]; exact e9106
      have e9120 : I9117 (ad g 44) 0 = v9090 := by rw [eI9117, pp_ne _ _ (Or.inr (by decide))]; exact e9107
      have e9121 : I9117 (ad g 44) 1 = v9096 := by rw [eI9117, pp_ne _ _ (Or.inr (by decide))]; exact e9108
      have e9122 : I9117 (ad g 44) 2 = v9103 := by rw [eI9117, pp_ne _ _ (Or.inr (by decide))]; exact e9109
      have e9123 : I9117 (ad g 44) 3 = v9116 := by rw [eI9117, pp_self]
      have fr9124 : fz 74 g [44] I I9117 := by rw [eI9117]; exact fzx_pp hy fr9110 (by decide) (by decide)
      clear eI9117
      refine WP_aload_n dX6_load_108 rfl ?_
      refine WP_iload dX6_load_109 rfl ?_
      refine WQ_iconst (-1) (-1) dX6_load_111 rfl rfl (fun v9125 hv9125 => ?_)
      refine WQ_icmp_ne 119 dX6_load_112 rfl (fun c9125 => ?_) (fun c9125 => ?_)
      · refine WP_aload_n dX6_load_119 rfl ?_
        refine WP_getr dX6_load_120 fX6_45 rfl (lyx_is hy 5 0 rfl) (rfx hr 5 1 22 (by decide)) ?_
        refine WP_iload dX6_load_123 rfl ?_
        refine WQ_bipush (7) (7) dX6_load_125 rfl rfl (fun v9127 hv9127 => ?_)
        refine WQ_imulk (7) dX6_load_127 hv9127 (by omega) (by omega) (fun v9128 hv9128 => ?_)
        refine WP_iload_n dX6_load_128 rfl ?_
        refine WQ_iadd dX6_load_129 (by omega) (by omega) (fun v9129 hv9129 => ?_)
        refine WQ_ialdb dX6_load_130 (lyx_is hy 22 13 rfl) (lyx_n hy 22 21 rfl) (by omega) (by omega) (fun q hq => BT_get hI9117.1 22 0 21 (0) (0) (20) (by decide) q (Nat.zero_le _) hq) (fun v9130 av9130 bv9130 zv9130 => ?_)
        have yv9130 : I (ad g 22) (7 * v8659.toInt + da.toInt).toNat = v9130 := by rw [← fz_at fr9124 22 (by decide) (by decide), show (7 * v8659.toInt + da.toInt).toNat = v9129.toInt.toNat by omega]; exact zv9130
        refine WQ_puti dX6_load_131 fX6_51 rfl rfl (lyx_is hy 44 6 rfl) (fun I9131 eI9131 => ?_)
        have hI9131 : XI g n L I9131 := by rw [eI9131]; exact (xi_f hy hI9117 (c := 44) (0) (0) (20) (by decide) (Or.inl (by decide)) (by decide) (by omega) (by omega))
        have e9132 : I9131 (ad g 1) 1 = L := by rw [eI9131, pp_ne _ _ (Or.inl (lyx_ne hy (by decide) (by decide) (by decide)))]; exact e9118
        have e9133 : I9131 (ad g 27) 4 = v8659 := by rw [eI9131, pp_ne _ _ (Or.inl (lyx_ne hy (by decide) (by decide) (by decide)))]; exact e9119
        have e9134 : I9131 (ad g 44) 0 = v9090 := by rw [eI9131, pp_ne _ _ (Or.inr (by decide))]; exact e9120
        have e9135 : I9131 (ad g 44) 1 = v9096 := by rw [eI9131, pp_ne _ _ (Or.inr (by decide))]; exact e9121
        have e9136 : I9131 (ad g 44) 2 = v9103 := by rw [eI9131, pp_ne _ _ (Or.inr (by decide))]; exact e9122
        have e9137 : I9131 (ad g 44) 3 = v9116 := by rw [eI9131, pp_ne _ _ (Or.inr (by decide))]; exact e9123
        have e9138 : I9131 (ad g 44) 4 = v9130 := by rw [eI9131, pp_self]
        have fr9139 : fz 74 g [44] I I9131 := by rw [eI9131]; exact fzx_pp hy fr9124 (by decide) (by decide)
        clear eI9131
        refine WP_aload_n dX6_load_134 rfl ?_
        refine WP_iload dX6_load_135 rfl ?_
        refine WQ_if_eq 144 dX6_load_137 rfl (fun c9139 => False.elim (by omega)) (fun c9139 => ?_)
        refine WQ_iconst (0) (0) dX6_load_140 rfl rfl (fun v9141 hv9141 => ?_)
        refine WP_goto 148 dX6_load_141 rfl ?_
        refine WQ_puti dX6_load_148 fX6_54 rfl rfl (lyx_is hy 44 6 rfl) (fun I9142 eI9142 => ?_)
        have hI9142 : XI g n L I9142 := by rw [eI9142]; exact (xi_f hy hI9131 (c := 44) (0) (0) (3) (by decide) (Or.inl (by decide)) (by decide) (by omega) (by omega))
        have e9143 : I9142 (ad g 1) 1 = L := by rw [eI9142, pp_ne _ _ (Or.inl (lyx_ne hy (by decide) (by decide) (by decide)))]; exact e9132
        have e9144 : I9142 (ad g 27) 4 = v8659 := by rw [eI9142, pp_ne _ _ (Or.inl (lyx_ne hy (by decide) (by decide) (by decide)))]; exact e9133
        have e9145 : I9142 (ad g 44) 0 = v9090 := by rw [eI9142, pp_ne _ _ (Or.inr (by decide))]; exact e9134
        have e9146 : I9142 (ad g 44) 1 = v9096 := by rw [eI9142, pp_ne _ _ (Or.inr (by decide))]; exact e9135
        have e9147 : I9142 (ad g 44) 2 = v9103 := by rw [eI9142, pp_ne _ _ (Or.inr (by decide))]; exact e9136
        have e9148 : I9142 (ad g 44) 3 = v9116 := by rw [eI9142, pp_ne _ _ (Or.inr (by decide))]; exact e9137
        have e9149 : I9142 (ad g 44) 4 = v9130 := by rw [eI9142, pp_ne _ _ (Or.inr (by decide))]; exact e9138
        have e9150 : I9142 (ad g 44) 5 = v9141 := by rw [eI9142, pp_self]
        have fr9151 : fz 74 g [44] I I9142 := by rw [eI9142]; exact fzx_pp hy fr9139 (by decide) (by decide)
        clear eI9142
        refine WP_aload_n dX6_load_151 rfl ?_
        refine WP_iload dX6_load_152 rfl ?_
        refine WQ_if_ne 163 dX6_load_154 rfl (fun c9151 => ?_) (fun c9151 => False.elim (by omega))
        refine WQ_iconst (0) (0) dX6_load_163 rfl rfl (fun v9153 hv9153 => ?_)
        refine WP_goto 168 dX6_load_164 rfl ?_
        refine WQ_puti dX6_load_168 fX6_57 rfl rfl (lyx_is hy 44 6 rfl) (fun I9154 eI9154 => ?_)
        have hI9154 : XI g n L I9154 := by rw [eI9154]; exact (xi_f hy hI9142 (c := 44) (0) (0) (2) (by decide) (Or.inl (by decide)) (by decide) (by omega) (by omega))
        have e9155 : I9154 (ad g 1) 1 = L := by rw [eI9154, pp_ne _ _ (Or.inl (lyx_ne hy (by decide) (by decide) (by decide)))]; exact e9143
        have e9156 : I9154 (ad g 27) 4 = v8659 := by rw [eI9154, pp_ne _ _ (Or.inl (lyx_ne hy (by decide) (by decide) (by decide)))]; exact e9144
        have e9157 : I9154 (ad g 44) 0 = v9090 := by rw [eI9154, pp_ne _ _ (Or.inr (by decide))]; exact e9145
        have e9158 : I9154 (ad g 44) 1 = v9096 := by rw [eI9154, pp_ne _ _ (Or.inr (by decide))]; exact e9146
        have e9159 : I9154 (ad g 44) 2 = v9103 := by rw [eI9154, pp_ne _ _ (Or.inr (by decide))]; exact e9147
        have e9160 : I9154 (ad g 44) 3 = v9116 := by rw [eI9154, pp_ne _ _ (Or.inr (by decide))]; exact e9148
        have e9161 : I9154 (ad g 44) 4 = v9130 := by rw [eI9154, pp_ne _ _ (Or.inr (by decide))]; exact e9149
        have e9162 : I9154 (ad g 44) 5 = v9141 := by rw [eI9154, pp_ne _ _ (Or.inr (by decide))]; exact e9150
        have e9163 : I9154 (ad g 44) 6 = v9153 := by rw [eI9154, pp_self]
        have fr9164 : fz 74 g [44] I I9154 := by rw [eI9154]; exact fzx_pp hy fr9151 (by decide) (by decide)
        clear eI9154
        refine WP_aload_n dX6_load_171 rfl ?_
        refine WP_aload_n dX6_load_172 rfl ?_
        refine WQ_getim dX6_load_173 fX6_9 rfl (lyx_is hy 44 6 rfl) e9157 ?_
        refine WQ_iconst (-1) (-1) dX6_load_176 rfl rfl (fun v9165 hv9165 => ?_)
        refine WQ_icmp_eq 193 dX6_load_177 rfl (fun c9165 => False.elim (by omega)) (fun c9165 => ?_)
        refine WP_aload_n dX6_load_180 rfl ?_
        refine WQ_getim dX6_load_181 fX6_9 rfl (lyx_is hy 44 6 rfl) e9157 ?_
        refine WP_iload dX6_load_184 rfl ?_
        refine WQ_icmp_ne 193 dX6_load_186 rfl (fun c9166 => ?_) (fun c9166 => ?_)
        · refine WQ_iconst (0) (0) dX6_load_193 rfl rfl (fun v9168 hv9168 => ?_)
          refine WQ_putz dX6_load_194 fX6_60 rfl rfl (by omega) (lyx_is hy 44 6 rfl) (fun I9169 eI9169 => ?_)
          have hI9169 : XI g n L I9169 := by rw [eI9169]; exact (xi_f hy hI9154 (c := 44) (0) (0) (1) (by decide) (Or.inl (by decide)) (by decide) (by omega) (by omega))
          have e9170 : I9169 (ad g 1) 1 = L := by rw [eI9169, pp_ne _ _ (Or.inl (lyx_ne hy (by decide) (by decide) (by decide)))]; exact e9155
          have e9171 : I9169 (ad g 27) 4 = v8659 := by rw [eI9169, pp_ne _ _ (Or.inl (lyx_ne hy (by decide) (by decide) (by decide)))]; exact e9156
          have e9172 : I9169 (ad g 44) 0 = v9090 := by rw [eI9169, pp_ne _ _ (Or.inr (by decide))]; exact e9157
          have e9173 : I9169 (ad g 44) 1 = v9096 := by rw [eI9169, pp_ne _ _ (Or.inr (by decide))]; exact e9158
          have e9174 : I9169 (ad g 44) 2 = v9103 := by rw [eI9169, pp_ne _ _ (Or.inr (by decide))]; exact e9159
          have e9175 : I9169 (ad g 44) 3 = v9116 := by rw [eI9169, pp_ne _ _ (Or.inr (by decide))]; exact e9160
          have e9176 : I9169 (ad g 44) 4 = v9130 := by rw [eI9169, pp_ne _ _ (Or.inr (by decide))]; exact e9161
          have e9177 : I9169 (ad g 44) 5 = v9141 := by rw [eI9169, pp_ne _ _ (Or.inr (by decide))]; exact e9162
          have e9178 : I9169 (ad g 44) 6 = v9153 := by rw [eI9169, pp_ne _ _ (Or.inr (by decide))]; exact e9163
          have e9179 : I9169 (ad g 44) 7 = v9168 := by rw [eI9169, pp_self]
          have fr9180 : fz 74 g [44] I I9169 := by rw [eI9169]; exact fzx_pp hy fr9164 (by decide) (by decide)
          clear eI9169
          refine WP_aload_n dX6_load_197 rfl ?_
          refine WP_aload_n dX6_load_198 rfl ?_
          refine WP_getr dX6_load_199 fX6_64 rfl (lyx_is hy 5 0 rfl) (rfx hr 5 2 23 (by decide)) ?_
          refine WP_iload_n dX6_load_202 rfl ?_
          refine WQ_iald dX6_load_203 (lyx_is hy 23 13 rfl) (lyx_n hy 23 7 rfl) (by omega) (by omega) (fun q hq => BT_get hI9169.1 23 0 7 (0) (0) (900) (by decide) q (Nat.zero_le _) hq) (fun v9181 av9181 bv9181 ev9181 => ?_)
          clear ev9181
          refine WQ_if_le 211 dX6_load_204 rfl (fun c9181 => ?_) (fun c9181 => ?_)
          · refine WQ_iconst (0) (0) dX6_load_211 rfl rfl (fun v9183 hv9183 => ?_)
            refine WQ_putz dX6_load_212 fX6_67 rfl rfl (by omega) (lyx_is hy 44 6 rfl) (fun I9184 eI9184 => ?_)
            have hI9184 : XI g n L I9184 := by rw [eI9184]; exact (xi_f hy hI9169 (c := 44) (0) (0) (1) (by decide) (Or.inl (by decide)) (by decide) (by omega) (by omega))
            have e9185 : I9184 (ad g 1) 1 = L := by rw [eI9184, pp_ne _ _ (Or.inl (lyx_ne hy (by decide) (by decide) (by decide)))]; exact e9170
            have e9186 : I9184 (ad g 27) 4 = v8659 := by rw [eI9184, pp_ne _ _ (Or.inl (lyx_ne hy (by decide) (by decide) (by decide)))]; exact e9171
            have e9187 : I9184 (ad g 44) 0 = v9090 := by rw [eI9184, pp_ne _ _ (Or.inr (by decide))]; exact e9172
            have e9188 : I9184 (ad g 44) 1 = v9096 := by rw [eI9184, pp_ne _ _ (Or.inr (by decide))]; exact e9173
            have e9189 : I9184 (ad g 44) 2 = v9103 := by rw [eI9184, pp_ne _ _ (Or.inr (by decide))]; exact e9174
            have e9190 : I9184 (ad g 44) 3 = v9116 := by rw [eI9184, pp_ne _ _ (Or.inr (by decide))]; exact e9175
            have e9191 : I9184 (ad g 44) 4 = v9130 := by rw [eI9184, pp_ne _ _ (Or.inr (by decide))]; exact e9176
            have e9192 : I9184 (ad g 44) 5 = v9141 := by rw [eI9184, pp_ne _ _ (Or.inr (by decide))]; exact e9177
            have e9193 : I9184 (ad g 44) 6 = v9153 := by rw [eI9184, pp_ne _ _ (Or.inr (by decide))]; exact e9178
            have e9194 : I9184 (ad g 44) 7 = v9168 := by rw [eI9184, pp_ne _ _ (Or.inr (by decide))]; exact e9179
            have e9195 : I9184 (ad g 44) 8 = v9183 := by rw [eI9184, pp_self]
            have fr9196 : fz 74 g [44] I I9184 := by rw [eI9184]; exact fzx_pp hy fr9180 (by decide) (by decide)
            clear eI9184
            exact WP_vret dX6_load_215 rfl ⟨⟨hI9184, rfl, fr9196, rfl, (by
                  have yill : I (ad g (27 + 5)) so.toInt.toNat >>> (nI da.toInt.toNat &&& 31) &&& 1 = v8663 := by rw [show I (ad g (27 + 5)) so.toInt.toNat = v8660 from yv8660, show nI da.toInt.toNat = da from (eq32 _ _).mpr (by rw [nI_toInt (by omega)]; omega), xv8663, xv8661, (eq32 v8662 1).mpr hv8662]
                  have yst : I (ad g 27) 4 = v8659 := est
                  unfold LD
                  simp only [e9187, e9188, e9189, e9190, e9191, e9192, e9193, e9194, yill, yst, show I (ad g (27 + 7)) _ = _ from yv9090, show I (ad g (27 + 8)) _ = _ from yv9096, show I (ad g (27 + 9)) _ = _ from yv9103, yv9116, yv9130, true_and, and_true]
                  omega)⟩, rfl⟩
          · refine WQ_iconst (1) (1) dX6_load_207 rfl rfl (fun v9197 hv9197 => ?_)
            refine WP_goto 212 dX6_load_208 rfl ?_
            refine WQ_putz dX6_load_212 fX6_67 rfl rfl (by omega) (lyx_is hy 44 6 rfl) (fun I9198 eI9198 => ?_)
            have hI9198 : XI g n L I9198 := by rw [eI9198]; exact (xi_f hy hI9169 (c := 44) (0) (0) (1) (by decide) (Or.inl (by decide)) (by decide) (by omega) (by omega))
            have e9199 : I9198 (ad g 1) 1 = L := by rw [eI9198, pp_ne _ _ (Or.inl (lyx_ne hy (by decide) (by decide) (by decide)))]; exact e9170
            have e9200 : I9198 (ad g 27) 4 = v8659 := by rw [eI9198, pp_ne _ _ (Or.inl (lyx_ne hy (by decide) (by decide) (by decide)))]; exact e9171
            have e9201 : I9198 (ad g 44) 0 = v9090 := by rw [eI9198, pp_ne _ _ (Or.inr (by decide))]; exact e9172
            have e9202 : I9198 (ad g 44) 1 = v9096 := by rw [eI9198, pp_ne _ _ (Or.inr (by decide))]; exact e9173
            have e9203 : I9198 (ad g 44) 2 = v9103 := by rw [eI9198, pp_ne _ _ (Or.inr (by decide))]; exact e9174
            have e9204 : I9198 (ad g 44) 3 = v9116 := by rw [eI9198, pp_ne _ _ (Or.inr (by decide))]; exact e9175
            have e9205 : I9198 (ad g 44) 4 = v9130 := by rw [eI9198, pp_ne _ _ (Or.inr (by decide))]; exact e9176
            have e9206 : I9198 (ad g 44) 5 = v9141 := by rw [eI9198, pp_ne _ _ (Or.inr (by decide))]; exact e9177
            have e9207 : I9198 (ad g 44) 6 = v9153 := by rw [eI9198, pp_ne _ _ (Or.inr (by decide))]; exact e9178
            have e9208 : I9198 (ad g 44) 7 = v9168 := by rw [eI9198, pp_ne _ _ (Or.inr (by decide))]; exact e9179
            have e9209 : I9198 (ad g 44) 8 = v9197 := by rw [eI9198, pp_self]
            have fr9210 : fz 74 g [44] I I9198 := by rw [eI9198]; exact fzx_pp hy fr9180 (by decide) (by decide)
            clear eI9198
            exact WP_vret dX6_load_215 rfl ⟨⟨hI9198, rfl, fr9210, rfl, (by
                  have yill : I (ad g (27 + 5)) so.toInt.toNat >>> (nI da.toInt.toNat &&& 31) &&& 1 = v8663 := by rw [show I (ad g (27 + 5)) so.toInt.toNat = v8660 from yv8660, show nI da.toInt.toNat = da from (eq32 _ _).mpr (by rw [nI_toInt (by omega)]; omega), xv8663, xv8661, (eq32 v8662 1).mpr hv8662]
                  have yst : I (ad g 27) 4 = v8659 := est
                  unfold LD
                  simp only [e9201, e9202, e9203, e9204, e9205, e9206, e9207, e9208, yill, yst, show I (ad g (27 + 7)) _ = _ from yv9090, show I (ad g (27 + 8)) _ = _ from yv9096, show I (ad g (27 + 9)) _ = _ from yv9103, yv9116, yv9130, true_and, and_true]
                  omega)⟩, rfl⟩
        · refine WQ_iconst (1) (1) dX6_load_189 rfl rfl (fun v9211 hv9211 => ?_)
          refine WP_goto 194 dX6_load_190 rfl ?_
          refine WQ_putz dX6_load_194 fX6_60 rfl rfl (by omega) (lyx_is hy 44 6 rfl) (fun I9212 eI9212 => ?_)
          have hI9212 : XI g n L I9212 := by rw [eI9212]; exact (xi_f hy hI9154 (c := 44) (0) (0) (1) (by decide) (Or.inl (by decide)) (by decide) (by omega) (by omega))
          have e9213 : I9212 (ad g 1) 1 = L := by rw [eI9212, pp_ne _ _ (Or.inl (lyx_ne hy (by decide) (by decide) (by decide)))]; exact e9155
          have e9214 : I9212 (ad g 27) 4 = v8659 := by rw [eI9212, pp_ne _ _ (Or.inl (lyx_ne hy (by decide) (by decide) (by decide)))]; exact e9156
          have e9215 : I9212 (ad g 44) 0 = v9090 := by rw [eI9212, pp_ne _ _ (Or.inr (by decide))]; exact e9157
          have e9216 : I9212 (ad g 44) 1 = v9096 := by rw [eI9212, pp_ne _ _ (Or.inr (by decide))]; exact e9158
          have e9217 : I9212 (ad g 44) 2 = v9103 := by rw [eI9212, pp_ne _ _ (Or.inr (by decide))]; exact e9159
          have e9218 : I9212 (ad g 44) 3 = v9116 := by rw [eI9212, pp_ne _ _ (Or.inr (by decide))]; exact e9160
          have e9219 : I9212 (ad g 44) 4 = v9130 := by rw [eI9212, pp_ne _ _ (Or.inr (by decide))]; exact e9161
          have e9220 : I9212 (ad g 44) 5 = v9141 := by rw [eI9212, pp_ne _ _ (Or.inr (by decide))]; exact e9162
          have e9221 : I9212 (ad g 44) 6 = v9153 := by rw [eI9212, pp_ne _ _ (Or.inr (by decide))]; exact e9163
          have e9222 : I9212 (ad g 44) 7 = v9211 := by rw [eI9212, pp_self]
          have fr9223 : fz 74 g [44] I I9212 := by rw [eI9212]; exact fzx_pp hy fr9164 (by decide) (by decide)
          clear eI9212
          refine WP_aload_n dX6_load_197 rfl ?_
          refine WP_aload_n dX6_load_198 rfl ?_
          refine WP_getr dX6_load_199 fX6_64 rfl (lyx_is hy 5 0 rfl) (rfx hr 5 2 23 (by decide)) ?_
          refine WP_iload_n dX6_load_202 rfl ?_
          refine WQ_iald dX6_load_203 (lyx_is hy 23 13 rfl) (lyx_n hy 23 7 rfl) (by omega) (by omega) (fun q hq => BT_get hI9212.1 23 0 7 (0) (0) (900) (by decide) q (Nat.zero_le _) hq) (fun v9224 av9224 bv9224 ev9224 => ?_)
          clear ev9224
          refine WQ_if_le 211 dX6_load_204 rfl (fun c9224 => ?_) (fun c9224 => ?_)
          · refine WQ_iconst (0) (0) dX6_load_211 rfl rfl (fun v9226 hv9226 => ?_)
            refine WQ_putz dX6_load_212 fX6_67 rfl rfl (by omega) (lyx_is hy 44 6 rfl) (fun I9227 eI9227 => ?_)
            have hI9227 : XI g n L I9227 := by rw [eI9227]; exact (xi_f hy hI9212 (c := 44) (0) (0) (1) (by decide) (Or.inl (by decide)) (by decide) (by omega) (by omega))
            have e9228 : I9227 (ad g 1) 1 = L := by rw [eI9227, pp_ne _ _ (Or.inl (lyx_ne hy (by decide) (by decide) (by decide)))]; exact e9213
            have e9229 : I9227 (ad g 27) 4 = v8659 := by rw [eI9227, pp_ne _ _ (Or.inl (lyx_ne hy (by decide) (by decide) (by decide)))]; exact e9214
            have e9230 : I9227 (ad g 44) 0 = v9090 := by rw [eI9227, pp_ne _ _ (Or.inr (by decide))]; exact e9215
            have e9231 : I9227 (ad g 44) 1 = v9096 := by rw [eI9227, pp_ne _ _ (Or.inr (by decide))]; exact e9216
            have e9232 : I9227 (ad g 44) 2 = v9103 := by rw [eI9227, pp_ne _ _ (Or.inr (by decide))]; exact e9217
            have e9233 : I9227 (ad g 44) 3 = v9116 := by rw [eI9227, pp_ne _ _ (Or.inr (by decide))]; exact e9218
            have e9234 : I9227 (ad g 44) 4 = v9130 := by rw [eI9227, pp_ne _ _ (Or.inr (by decide))]; exact e9219
            have e9235 : I9227 (ad g 44) 5 = v9141 := by rw [eI9227, pp_ne _ _ (Or.inr (by decide))]; exact e9220
            have e9236 : I9227 (ad g 44) 6 = v9153 := by rw [eI9227, pp_ne _ _ (Or.inr (by decide))]; exact e9221
            have e9237 : I9227 (ad g 44) 7 = v9211 := by rw [eI9227, pp_ne _ _ (Or.inr (by decide))]; exact e9222
            have e9238 : I9227 (ad g 44) 8 = v9226 := by rw [eI9227, pp_self]
            have fr9239 : fz 74 g [44] I I9227 := by rw [eI9227]; exact fzx_pp hy fr9223 (by decide) (by decide)
            clear eI9227
            exact WP_vret dX6_load_215 rfl ⟨⟨hI9227, rfl, fr9239, rfl, (by
                  have yill : I (ad g (27 + 5)) so.toInt.toNat >>> (nI da.toInt.toNat &&& 31) &&& 1 = v8663 := by rw [show I (ad g (27 + 5)) so.toInt.toNat = v8660 from yv8660, show nI da.toInt.toNat = da from (eq32 _ _).mpr (by rw [nI_toInt (by omega)]; omega), xv8663, xv8661, (eq32 v8662 1).mpr hv8662]
                  have yst : I (ad g 27) 4 = v8659 := est
                  unfold LD
                  simp only [e9230, e9231, e9232, e9233, e9234, e9235, e9236, e9237, yill, yst, show I (ad g (27 + 7)) _ = _ from yv9090, show I (ad g (27 + 8)) _ = _ from yv9096, show I (ad g (27 + 9)) _ = _ from yv9103, yv9116, yv9130, true_and, and_true]
                  omega)⟩, rfl⟩
          · refine WQ_iconst (1) (1) dX6_load_207 rfl rfl (fun v9240 hv9240 => ?_)
            refine WP_goto 212 dX6_load_208 rfl ?_
            refine WQ_putz dX6_load_212 fX6_67 rfl rfl (by omega) (lyx_is hy 44 6 rfl) (fun I9241 eI9241 => ?_)
            have hI9241 : XI g n L I9241 := by rw [eI9241]; exact (xi_f hy hI9212 (c := 44) (0) (0) (1) (by decide) (Or.inl (by decide)) (by decide) (by omega) (by omega))
            have e9242 : I9241 (ad g 1) 1 = L := by rw [eI9241, pp_ne _ _ (Or.inl (lyx_ne hy (by decide) (by decide) (by decide)))]; exact e9213
            have e9243 : I9241 (ad g 27) 4 = v8659 := by rw [eI9241, pp_ne _ _ (Or.inl (lyx_ne hy (by decide) (by decide) (by decide)))]; exact e9214
            have e9244 : I9241 (ad g 44) 0 = v9090 := by rw [eI9241, pp_ne _ _ (Or.inr (by decide))]; exact e9215
            have e9245 : I9241 (ad g 44) 1 = v9096 := by rw [eI9241, pp_ne _ _ (Or.inr (by decide))]; exact e9216
            have e9246 : I9241 (ad g 44) 2 = v9103 := by rw [eI9241, pp_ne _ _ (Or.inr (by decide))]; exact e9217
            have e9247 : I9241 (ad g 44) 3 = v9116 := by rw [eI9241, pp_ne _ _ (Or.inr (by decide))]; exact e9218
            have e9248 : I9241 (ad g 44) 4 = v9130 := by rw [eI9241, pp_ne _ _ (Or.inr (by decide))]; exact e9219
            have e9249 : I9241 (ad g 44) 5 = v9141 := by rw [eI9241, pp_ne _ _ (Or.inr (by decide))]; exact e9220
            have e9250 : I9241 (ad g 44) 6 = v9153 := by rw [eI9241, pp_ne _ _ (Or.inr (by decide))]; exact e9221
            have e9251 : I9241 (ad g 44) 7 = v9211 := by rw [eI9241, pp_ne _ _ (Or.inr (by decide))]; exact e9222
            have e9252 : I9241 (ad g 44) 8 = v9240 := by rw [eI9241, pp_self]
            have fr9253 : fz 74 g [44] I I9241 := by rw [eI9241]; exact fzx_pp hy fr9223 (by decide) (by decide)
            clear eI9241
            exact WP_vret dX6_load_215 rfl ⟨⟨hI9241, rfl, fr9253, rfl, (by
                  have yill : I (ad g (27 + 5)) so.toInt.toNat >>> (nI da.toInt.toNat &&& 31) &&& 1 = v8663 := by rw [show I (ad g (27 + 5)) so.toInt.toNat = v8660 from yv8660, show nI da.toInt.toNat = da from (eq32 _ _).mpr (by rw [nI_toInt (by omega)]; omega), xv8663, xv8661, (eq32 v8662 1).mpr hv8662]
                  have yst : I (ad g 27) 4 = v8659 := est
                  unfold LD
                  simp only [e9244, e9245, e9246, e9247, e9248, e9249, e9250, e9251, yill, yst, show I (ad g (27 + 7)) _ = _ from yv9090, show I (ad g (27 + 8)) _ = _ from yv9096, show I (ad g (27 + 9)) _ = _ from yv9103, yv9116, yv9130, true_and, and_true]
                  omega)⟩, rfl⟩
      · refine WQ_iconst (0) (0) dX6_load_115 rfl rfl (fun v9254 hv9254 => ?_)
        refine WP_goto 131 dX6_load_116 rfl ?_
        refine WQ_puti dX6_load_131 fX6_51 rfl rfl (lyx_is hy 44 6 rfl) (fun I9255 eI9255 => ?_)
        have hI9255 : XI g n L I9255 := by rw [eI9255]; exact (xi_f hy hI9117 (c := 44) (0) (0) (20) (by decide) (Or.inl (by decide)) (by decide) (by omega) (by omega))
        have e9256 : I9255 (ad g 1) 1 = L := by rw [eI9255, pp_ne _ _ (Or.inl (lyx_ne hy (by decide) (by decide) (by decide)))]; exact e9118
        have e9257 : I9255 (ad g 27) 4 = v8659 := by rw [eI9255, pp_ne _ _ (Or.inl (lyx_ne hy (by decide) (by decide) (by decide)))]; exact e9119
        have e9258 : I9255 (ad g 44) 0 = v9090 := by rw [eI9255, pp_ne _ _ (Or.inr (by decide))]; exact e9120
        have e9259 : I9255 (ad g 44) 1 = v9096 := by rw [eI9255, pp_ne _ _ (Or.inr (by decide))]; exact e9121
        have e9260 : I9255 (ad g 44) 2 = v9103 := by rw [eI9255, pp_ne _ _ (Or.inr (by decide))]; exact e9122
        have e9261 : I9255 (ad g 44) 3 = v9116 := by rw [eI9255, pp_ne _ _ (Or.inr (by decide))]; exact e9123
        have e9262 : I9255 (ad g 44) 4 = v9254 := by rw [eI9255, pp_self]
        have fr9263 : fz 74 g [44] I I9255 := by rw [eI9255]; exact fzx_pp hy fr9124 (by decide) (by decide)
        clear eI9255
        refine WP_aload_n dX6_load_134 rfl ?_
        refine WP_iload dX6_load_135 rfl ?_
        refine WQ_if_eq 144 dX6_load_137 rfl (fun c9263 => False.elim (by omega)) (fun c9263 => ?_)
        refine WQ_iconst (0) (0) dX6_load_140 rfl rfl (fun v9265 hv9265 => ?_)
        refine WP_goto 148 dX6_load_141 rfl ?_
        refine WQ_puti dX6_load_148 fX6_54 rfl rfl (lyx_is hy 44 6 rfl) (fun I9266 eI9266 => ?_)
        have hI9266 : XI g n L I9266 := by rw [eI9266]; exact (xi_f hy hI9255 (c := 44) (0) (0) (3) (by decide) (Or.inl (by decide)) (by decide) (by omega) (by omega))
        have e9267 : I9266 (ad g 1) 1 = L := by rw [eI9266, pp_ne _ _ (Or.inl (lyx_ne hy (by decide) (by decide) (by decide)))]; exact e9256
        have e9268 : I9266 (ad g 27) 4 = v8659 := by rw [eI9266, pp_ne _ _ (Or.inl (lyx_ne hy (by decide) (by decide) (by decide)))]; exact e9257
        have e9269 : I9266 (ad g 44) 0 = v9090 := by rw [eI9266, pp_ne _ _ (Or.inr (by decide))]; exact e9258
        have e9270 : I9266 (ad g 44) 1 = v9096 := by rw [eI9266, pp_ne _ _ (Or.inr (by decide))]; exact e9259
        have e9271 : I9266 (ad g 44) 2 = v9103 := by rw [eI9266, pp_ne _ _ (Or.inr (by decide))]; exact e9260
        have e9272 : I9266 (ad g 44) 3 = v9116 := by rw [eI9266, pp_ne _ _ (Or.inr (by decide))]; exact e9261
        have e9273 : I9266 (ad g 44) 4 = v9254 := by rw [eI9266, pp_ne _ _ (Or.inr (by decide))]; exact e9262
        have e9274 : I9266 (ad g 44) 5 = v9265 := by rw [eI9266, pp_self]
        have fr9275 : fz 74 g [44] I I9266 := by rw [eI9266]; exact fzx_pp hy fr9263 (by decide) (by decide)
        clear eI9266
        refine WP_aload_n dX6_load_151 rfl ?_
        refine WP_iload dX6_load_152 rfl ?_
        refine WQ_if_ne 163 dX6_load_154 rfl (fun c9275 => ?_) (fun c9275 => False.elim (by omega))
        refine WQ_iconst (0) (0) dX6_load_163 rfl rfl (fun v9277 hv9277 => ?_)
        refine WP_goto 168 dX6_load_164 rfl ?_
        refine WQ_puti dX6_load_168 fX6_57 rfl rfl (lyx_is hy 44 6 rfl) (fun I9278 eI9278 => ?_)
        have hI9278 : XI g n L I9278 := by rw [eI9278]; exact (xi_f hy hI9266 (c := 44) (0) (0) (2) (by decide) (Or.inl (by decide)) (by decide) (by omega) (by omega))
        have e9279 : I9278 (ad g 1) 1 = L := by rw [eI9278, pp_ne _ _ (Or.inl (lyx_ne hy (by decide) (by decide) (by decide)))]; exact e9267
        have e9280 : I9278 (ad g 27) 4 = v8659 := by rw [eI9278, pp_ne _ _ (Or.inl (lyx_ne hy (by decide) (by decide) (by decide)))]; exact e9268
        have e9281 : I9278 (ad g 44) 0 = v9090 := by rw [eI9278, pp_ne _ _ (Or.inr (by decide))]; exact e9269
        have e9282 : I9278 (ad g 44) 1 = v9096 := by rw [eI9278, pp_ne _ _ (Or.inr (by decide))]; exact e9270
        have e9283 : I9278 (ad g 44) 2 = v9103 := by rw [eI9278, pp_ne _ _ (Or.inr (by decide))]; exact e9271
        have e9284 : I9278 (ad g 44) 3 = v9116 := by rw [eI9278, pp_ne _ _ (Or.inr (by decide))]; exact e9272
        have e9285 : I9278 (ad g 44) 4 = v9254 := by rw [eI9278, pp_ne _ _ (Or.inr (by decide))]; exact e9273
        have e9286 : I9278 (ad g 44) 5 = v9265 := by rw [eI9278, pp_ne _ _ (Or.inr (by decide))]; exact e9274
        have e9287 : I9278 (ad g 44) 6 = v9277 := by rw [eI9278, pp_self]
        have fr9288 : fz 74 g [44] I I9278 := by rw [eI9278]; exact fzx_pp hy fr9275 (by decide) (by decide)
        clear eI9278
        refine WP_aload_n dX6_load_171 rfl ?_
        refine WP_aload_n dX6_load_172 rfl ?_
        refine WQ_getim dX6_load_173 fX6_9 rfl (lyx_is hy 44 6 rfl) e9281 ?_
        refine WQ_iconst (-1) (-1) dX6_load_176 rfl rfl (fun v9289 hv9289 => ?_)
        refine WQ_icmp_eq 193 dX6_load_177 rfl (fun c9289 => False.elim (by omega)) (fun c9289 => ?_)
        refine WP_aload_n dX6_load_180 rfl ?_
        refine WQ_getim dX6_load_181 fX6_9 rfl (lyx_is hy 44 6 rfl) e9281 ?_
        refine WP_iload dX6_load_184 rfl ?_
        refine WQ_icmp_ne 193 dX6_load_186 rfl (fun c9290 => ?_) (fun c9290 => False.elim (by omega))
        refine WQ_iconst (0) (0) dX6_load_193 rfl rfl (fun v9292 hv9292 => ?_)
        refine WQ_putz dX6_load_194 fX6_60 rfl rfl (by omega) (lyx_is hy 44 6 rfl) (fun I9293 eI9293 => ?_)
        have hI9293 : XI g n L I9293 := by rw [eI9293]; exact (xi_f hy hI9278 (c := 44) (0) (0) (1) (by decide) (Or.inl (by decide)) (by decide) (by omega) (by omega))
        have e9294 : I9293 (ad g 1) 1 = L := by rw [eI9293, pp_ne _ _ (Or.inl (lyx_ne hy (by decide) (by decide) (by decide)))]; exact e9279
        have e9295 : I9293 (ad g 27) 4 = v8659 := by rw [eI9293, pp_ne _ _ (Or.inl (lyx_ne hy (by decide) (by decide) (by decide)))]; exact e9280
        have e9296 : I9293 (ad g 44) 0 = v9090 := by rw [eI9293, pp_ne _ _ (Or.inr (by decide))]; exact e9281
        have e9297 : I9293 (ad g 44) 1 = v9096 := by rw [eI9293, pp_ne _ _ (Or.inr (by decide))]; exact e9282
        have e9298 : I9293 (ad g 44) 2 = v9103 := by rw [eI9293, pp_ne _ _ (Or.inr (by decide))]; exact e9283
        have e9299 : I9293 (ad g 44) 3 = v9116 := by rw [eI9293, pp_ne _ _ (Or.inr (by decide))]; exact e9284
        have e9300 : I9293 (ad g 44) 4 = v9254 := by rw [eI9293, pp_ne _ _ (Or.inr (by decide))]; exact e9285
        have e9301 : I9293 (ad g 44) 5 = v9265 := by rw [eI9293, pp_ne _ _ (Or.inr (by decide))]; exact e9286
        have e9302 : I9293 (ad g 44) 6 = v9277 := by rw [eI9293, pp_ne _ _ (Or.inr (by decide))]; exact e9287
        have e9303 : I9293 (ad g 44) 7 = v9292 := by rw [eI9293, pp_self]
        have fr9304 : fz 74 g [44] I I9293 := by rw [eI9293]; exact fzx_pp hy fr9288 (by decide) (by decide)
        clear eI9293
        refine WP_aload_n dX6_load_197 rfl ?_
        refine WP_aload_n dX6_load_198 rfl ?_
        refine WP_getr dX6_load_199 fX6_64 rfl (lyx_is hy 5 0 rfl) (rfx hr 5 2 23 (by decide)) ?_
        refine WP_iload_n dX6_load_202 rfl ?_
        refine WQ_iald dX6_load_203 (lyx_is hy 23 13 rfl) (lyx_n hy 23 7 rfl) (by omega) (by omega) (fun q hq => BT_get hI9293.1 23 0 7 (0) (0) (900) (by decide) q (Nat.zero_le _) hq) (fun v9305 av9305 bv9305 ev9305 => ?_)
        clear ev9305
        refine WQ_if_le 211 dX6_load_204 rfl (fun c9305 => ?_) (fun c9305 => ?_)
        · refine WQ_iconst (0) (0) dX6_load_211 rfl rfl (fun v9307 hv9307 => ?_)
          refine WQ_putz dX6_load_212 fX6_67 rfl rfl (by omega) (lyx_is hy 44 6 rfl) (fun I9308 eI9308 => ?_)
          have hI9308 : XI g n L I9308 := by rw [eI9308]; exact (xi_f hy hI9293 (c := 44) (0) (0) (1) (by decide) (Or.inl (by decide)) (by decide) (by omega) (by omega))
          have e9309 : I9308 (ad g 1) 1 = L := by rw [eI9308, pp_ne _ _ (Or.inl (lyx_ne hy (by decide) (by decide) (by decide)))]; exact e9294
          have e9310 : I9308 (ad g 27) 4 = v8659 := by rw [eI9308, pp_ne _ _ (Or.inl (lyx_ne hy (by decide) (by decide) (by decide)))]; exact e9295
          have e9311 : I9308 (ad g 44) 0 = v9090 := by rw [eI9308, pp_ne _ _ (Or.inr (by decide))]; exact e9296
          have e9312 : I9308 (ad g 44) 1 = v9096 := by rw [eI9308, pp_ne _ _ (Or.inr (by decide))]; exact e9297
          have e9313 : I9308 (ad g 44) 2 = v9103 := by rw [eI9308, pp_ne _ _ (Or.inr (by decide))]; exact e9298
          have e9314 : I9308 (ad g 44) 3 = v9116 := by rw [eI9308, pp_ne _ _ (Or.inr (by decide))]; exact e9299
          have e9315 : I9308 (ad g 44) 4 = v9254 := by rw [eI9308, pp_ne _ _ (Or.inr (by decide))]; exact e9300
          have e9316 : I9308 (ad g 44) 5 = v9265 := by rw [eI9308, pp_ne _ _ (Or.inr (by decide))]; exact e9301
          have e9317 : I9308 (ad g 44) 6 = v9277 := by rw [eI9308, pp_ne _ _ (Or.inr (by decide))]; exact e9302
          have e9318 : I9308 (ad g 44) 7 = v9292 := by rw [eI9308, pp_ne _ _ (Or.inr (by decide))]; exact e9303
          have e9319 : I9308 (ad g 44) 8 = v9307 := by rw [eI9308, pp_self]
          have fr9320 : fz 74 g [44] I I9308 := by rw [eI9308]; exact fzx_pp hy fr9304 (by decide) (by decide)
          clear eI9308
          exact WP_vret dX6_load_215 rfl ⟨⟨hI9308, rfl, fr9320, rfl, (by
                have yill : I (ad g (27 + 5)) so.toInt.toNat >>> (nI da.toInt.toNat &&& 31) &&& 1 = v8663 := by rw [show I (ad g (27 + 5)) so.toInt.toNat = v8660 from yv8660, show nI da.toInt.toNat = da from (eq32 _ _).mpr (by rw [nI_toInt (by omega)]; omega), xv8663, xv8661, (eq32 v8662 1).mpr hv8662]
                have yst : I (ad g 27) 4 = v8659 := est
                unfold LD
                simp only [e9311, e9312, e9313, e9314, e9315, e9316, e9317, e9318, yill, yst, show I (ad g (27 + 7)) _ = _ from yv9090, show I (ad g (27 + 8)) _ = _ from yv9096, show I (ad g (27 + 9)) _ = _ from yv9103, yv9116, true_and, and_true]
                omega)⟩, rfl⟩
        · refine WQ_iconst (1) (1) dX6_load_207 rfl rfl (fun v9321 hv9321 => ?_)
          refine WP_goto 212 dX6_load_208 rfl ?_
          refine WQ_putz dX6_load_212 fX6_67 rfl rfl (by omega) (lyx_is hy 44 6 rfl) (fun I9322 eI9322 => ?_)
          have hI9322 : XI g n L I9322 := by rw [eI9322]; exact (xi_f hy hI9293 (c := 44) (0) (0) (1) (by decide) (Or.inl (by decide)) (by decide) (by omega) (by omega))
          have e9323 : I9322 (ad g 1) 1 = L := by rw [eI9322, pp_ne _ _ (Or.inl (lyx_ne hy (by decide) (by decide) (by decide)))]; exact e9294
          have e9324 : I9322 (ad g 27) 4 = v8659 := by rw [eI9322, pp_ne _ _ (Or.inl (lyx_ne hy (by decide) (by decide) (by decide)))]; exact e9295
          have e9325 : I9322 (ad g 44) 0 = v9090 := by rw [eI9322, pp_ne _ _ (Or.inr (by decide))]; exact e9296
          have e9326 : I9322 (ad g 44) 1 = v9096 := by rw [eI9322, pp_ne _ _ (Or.inr (by decide))]; exact e9297
          have e9327 : I9322 (ad g 44) 2 = v9103 := by rw [eI9322, pp_ne _ _ (Or.inr (by decide))]; exact e9298
          have e9328 : I9322 (ad g 44) 3 = v9116 := by rw [eI9322, pp_ne _ _ (Or.inr (by decide))]; exact e9299
          have e9329 : I9322 (ad g 44) 4 = v9254 := by rw [eI9322, pp_ne _ _ (Or.inr (by decide))]; exact e9300
          have e9330 : I9322 (ad g 44) 5 = v9265 := by rw [eI9322, pp_ne _ _ (Or.inr (by decide))]; exact e9301
          have e9331 : I9322 (ad g 44) 6 = v9277 := by rw [eI9322, pp_ne _ _ (Or.inr (by decide))]; exact e9302
          have e9332 : I9322 (ad g 44) 7 = v9292 := by rw [eI9322, pp_ne _ _ (Or.inr (by decide))]; exact e9303
          have e9333 : I9322 (ad g 44) 8 = v9321 := by rw [eI9322, pp_self]
          have fr9334 : fz 74 g [44] I I9322 := by rw [eI9322]; exact fzx_pp hy fr9304 (by decide) (by decide)
          clear eI9322
          exact WP_vret dX6_load_215 rfl ⟨⟨hI9322, rfl, fr9334, rfl, (by
                have yill : I (ad g (27 + 5)) so.toInt.toNat >>> (nI da.toInt.toNat &&& 31) &&& 1 = v8663 := by rw [show I (ad g (27 + 5)) so.toInt.toNat = v8660 from yv8660, show nI da.toInt.toNat = da from (eq32 _ _).mpr (by rw [nI_toInt (by omega)]; omega), xv8663, xv8661, (eq32 v8662 1).mpr hv8662]
                have yst : I (ad g 27) 4 = v8659 := est
                unfold LD
                simp only [e9325, e9326, e9327, e9328, e9329, e9330, e9331, e9332, yill, yst, show I (ad g (27 + 7)) _ = _ from yv9090, show I (ad g (27 + 8)) _ = _ from yv9096, show I (ad g (27 + 9)) _ = _ from yv9103, yv9116, true_and, and_true]
                omega)⟩, rfl⟩
    · refine WQ_iconst (0) (0) dX6_load_87 rfl rfl (fun v9335 hv9335 => ?_)
      refine WP_goto 105 dX6_load_88 rfl ?_
      refine WQ_puti dX6_load_105 fX6_48 rfl rfl (lyx_is hy 44 6 rfl) (fun I9336 eI9336 => ?_)
      have hI9336 : XI g n L I9336 := by rw [eI9336]; exact (xi_f hy hI9104 (c := 44) (0) (0) (20) (by decide) (Or.inl (by decide)) (by decide) (by omega) (by omega))
      have e9337 : I9336 (ad g 1) 1 = L := by rw [eI9336, pp_ne _ _ (Or.inl (lyx_ne hy (by decide) (by decide) (by decide)))]; exact e9105
      have e9338 : I9336 (ad g 27) 4 = v8659 := by rw [eI9336, pp_ne _ _ (Or.inl (lyx_ne hy (by decide) (by decide) (by decide)))]; exact e9106
      have e9339 : I9336 (ad g 44) 0 = v9090 := by rw [eI9336, pp_ne _ _ (Or.inr (by decide))]; exact e9107
      have e9340 : I9336 (ad g 44) 1 = v9096 := by rw [eI9336, pp_ne _ _ (Or.inr (by decide))]; exact e9108
      have e9341 : I9336 (ad g 44) 2 = v9103 := by rw [eI9336, pp_ne _ _ (Or.inr (by decide))]; exact e9109
      have e9342 : I9336 (ad g 44) 3 = v9335 := by rw [eI9336, pp_self]
      have fr9343 : fz 74 g [44] I I9336 := by rw [eI9336]; exact fzx_pp hy fr9110 (by decide) (by decide)
      clear eI9336
      refine WP_aload_n dX6_load_108 rfl ?_
      refine WP_iload dX6_load_109 rfl ?_
      refine WQ_iconst (-1) (-1) dX6_load_111 rfl rfl (fun v9344 hv9344 => ?_)
      refine WQ_icmp_ne 119 dX6_load_112 rfl (fun c9344 => ?_) (fun c9344 => ?_)
      · refine WP_aload_n dX6_load_119 rfl ?_
        refine WP_getr dX6_load_120 fX6_45 rfl (lyx_is hy 5 0 rfl) (rfx hr 5 1 22 (by decide)) ?_
        refine WP_iload dX6_load_123 rfl ?_
        refine WQ_bipush (7) (7) dX6_load_125 rfl rfl (fun v9346 hv9346 => ?_)
        refine WQ_imulk (7) dX6_load_127 hv9346 (by omega) (by omega) (fun v9347 hv9347 => ?_)
        refine WP_iload_n dX6_load_128 rfl ?_
        refine WQ_iadd dX6_load_129 (by omega) (by omega) (fun v9348 hv9348 => ?_)
        refine WQ_ialdb dX6_load_130 (lyx_is hy 22 13 rfl) (lyx_n hy 22 21 rfl) (by omega) (by omega) (fun q hq => BT_get hI9336.1 22 0 21 (0) (0) (20) (by decide) q (Nat.zero_le _) hq) (fun v9349 av9349 bv9349 zv9349 => ?_)
        have yv9349 : I (ad g 22) (7 * v8659.toInt + da.toInt).toNat = v9349 := by rw [← fz_at fr9343 22 (by decide) (by decide), show (7 * v8659.toInt + da.toInt).toNat = v9348.toInt.toNat by omega]; exact zv9349
        refine WQ_puti dX6_load_131 fX6_51 rfl rfl (lyx_is hy 44 6 rfl) (fun I9350 eI9350 => ?_)
        have hI9350 : XI g n L I9350 := by rw [eI9350]; exact (xi_f hy hI9336 (c := 44) (0) (0) (20) (by decide) (Or.inl (by decide)) (by decide) (by omega) (by omega))
        have e9351 : I9350 (ad g 1) 1 = L := by rw [eI9350, pp_ne _ _ (Or.inl (lyx_ne hy (by decide) (by decide) (by decide)))]; exact e9337
        have e9352 : I9350 (ad g 27) 4 = v8659 := by rw [eI9350, pp_ne _ _ (Or.inl (lyx_ne hy (by decide) (by decide) (by decide)))]; exact e9338
        have e9353 : I9350 (ad g 44) 0 = v9090 := by rw [eI9350, pp_ne _ _ (Or.inr (by decide))]; exact e9339
        have e9354 : I9350 (ad g 44) 1 = v9096 := by rw [eI9350, pp_ne _ _ (Or.inr (by decide))]; exact e9340
        have e9355 : I9350 (ad g 44) 2 = v9103 := by rw [eI9350, pp_ne _ _ (Or.inr (by decide))]; exact e9341
        have e9356 : I9350 (ad g 44) 3 = v9335 := by rw [eI9350, pp_ne _ _ (Or.inr (by decide))]; exact e9342
        have e9357 : I9350 (ad g 44) 4 = v9349 := by rw [eI9350, pp_self]
        have fr9358 : fz 74 g [44] I I9350 := by rw [eI9350]; exact fzx_pp hy fr9343 (by decide) (by decide)
        clear eI9350
        refine WP_aload_n dX6_load_134 rfl ?_
        refine WP_iload dX6_load_135 rfl ?_
        refine WQ_if_eq 144 dX6_load_137 rfl (fun c9358 => False.elim (by omega)) (fun c9358 => ?_)
        refine WQ_iconst (0) (0) dX6_load_140 rfl rfl (fun v9360 hv9360 => ?_)
        refine WP_goto 148 dX6_load_141 rfl ?_
        refine WQ_puti dX6_load_148 fX6_54 rfl rfl (lyx_is hy 44 6 rfl) (fun I9361 eI9361 => ?_)
        have hI9361 : XI g n L I9361 := by rw [eI9361]; exact (xi_f hy hI9350 (c := 44) (0) (0) (3) (by decide) (Or.inl (by decide)) (by decide) (by omega) (by omega))
        have e9362 : I9361 (ad g 1) 1 = L := by rw [eI9361, pp_ne _ _ (Or.inl (lyx_ne hy (by decide) (by decide) (by decide)))]; exact e9351
        have e9363 : I9361 (ad g 27) 4 = v8659 := by rw [eI9361, pp_ne _ _ (Or.inl (lyx_ne hy (by decide) (by decide) (by decide)))]; exact e9352
        have e9364 : I9361 (ad g 44) 0 = v9090 := by rw [eI9361, pp_ne _ _ (Or.inr (by decide))]; exact e9353
        have e9365 : I9361 (ad g 44) 1 = v9096 := by rw [eI9361, pp_ne _ _ (Or.inr (by decide))]; exact e9354
        have e9366 : I9361 (ad g 44) 2 = v9103 := by rw [eI9361, pp_ne _ _ (Or.inr (by decide))]; exact e9355
        have e9367 : I9361 (ad g 44) 3 = v9335 := by rw [eI9361, pp_ne _ _ (Or.inr (by decide))]; exact e9356
        have e9368 : I9361 (ad g 44) 4 = v9349 := by rw [eI9361, pp_ne _ _ (Or.inr (by decide))]; exact e9357
        have e9369 : I9361 (ad g 44) 5 = v9360 := by rw [eI9361, pp_self]
        have fr9370 : fz 74 g [44] I I9361 := by rw [eI9361]; exact fzx_pp hy fr9358 (by decide) (by decide)
        clear eI9361
        refine WP_aload_n dX6_load_151 rfl ?_
        refine WP_iload dX6_load_152 rfl ?_
        refine WQ_if_ne 163 dX6_load_154 rfl (fun c9370 => ?_) (fun c9370 => False.elim (by omega))
        refine WQ_iconst (0) (0) dX6_load_163 rfl rfl (fun v9372 hv9372 => ?_)
        refine WP_goto 168 dX6_load_164 rfl ?_
        refine WQ_puti dX6_load_168 fX6_57 rfl rfl (lyx_is hy 44 6 rfl) (fun I9373 eI9373 => ?_)
        have hI9373 : XI g n L I9373 := by rw [eI9373]; exact (xi_f hy hI9361 (c := 44) (0) (0) (2) (by decide) (Or.inl (by decide)) (by decide) (by omega) (by omega))
        have e9374 : I9373 (ad g 1) 1 = L := by rw [eI9373, pp_ne _ _ (Or.inl (lyx_ne hy (by decide) (by decide) (by decide)))]; exact e9362
        have e9375 : I9373 (ad g 27) 4 = v8659 := by rw [eI9373, pp_ne _ _ (Or.inl (lyx_ne hy (by decide) (by decide) (by decide)))]; exact e9363
        have e9376 : I9373 (ad g 44) 0 = v9090 := by rw [eI9373, pp_ne _ _ (Or.inr (by decide))]; exact e9364
        have e9377 : I9373 (ad g 44) 1 = v9096 := by rw [eI9373, pp_ne _ _ (Or.inr (by decide))]; exact e9365
        have e9378 : I9373 (ad g 44) 2 = v9103 := by rw [eI9373, pp_ne _ _ (Or.inr (by decide))]; exact e9366
        have e9379 : I9373 (ad g 44) 3 = v9335 := by rw [eI9373, pp_ne _ _ (Or.inr (by decide))]; exact e9367
        have e9380 : I9373 (ad g 44) 4 = v9349 := by rw [eI9373, pp_ne _ _ (Or.inr (by decide))]; exact e9368
        have e9381 : I9373 (ad g 44) 5 = v9360 := by rw [eI9373, pp_ne _ _ (Or.inr (by decide))]; exact e9369
        have e9382 : I9373 (ad g 44) 6 = v9372 := by rw [eI9373, pp_self]
        have fr9383 : fz 74 g [44] I I9373 := by rw [eI9373]; exact fzx_pp hy fr9370 (by decide) (by decide)
        clear eI9373
        refine WP_aload_n dX6_load_171 rfl ?_
        refine WP_aload_n dX6_load_172 rfl ?_
        refine WQ_getim dX6_load_173 fX6_9 rfl (lyx_is hy 44 6 rfl) e9376 ?_
        refine WQ_iconst (-1) (-1) dX6_load_176 rfl rfl (fun v9384 hv9384 => ?_)
        refine WQ_icmp_eq 193 dX6_load_177 rfl (fun c9384 => ?_) (fun c9384 => False.elim (by omega))
        refine WQ_iconst (0) (0) dX6_load_193 rfl rfl (fun v9386 hv9386 => ?_)
        refine WQ_putz dX6_load_194 fX6_60 rfl rfl (by omega) (lyx_is hy 44 6 rfl) (fun I9387 eI9387 => ?_)
        have hI9387 : XI g n L I9387 := by rw [eI9387]; exact (xi_f hy hI9373 (c := 44) (0) (0) (1) (by decide) (Or.inl (by decide)) (by decide) (by omega) (by omega))
        have e9388 : I9387 (ad g 1) 1 = L := by rw [eI9387, pp_ne _ _ (Or.inl (lyx_ne hy (by decide) (by decide) (by decide)))]; exact e9374
        have e9389 : I9387 (ad g 27) 4 = v8659 := by rw [eI9387, pp_ne _ _ (Or.inl (lyx_ne hy (by decide) (by decide) (by decide)))]; exact e9375
        have e9390 : I9387 (ad g 44) 0 = v9090 := by rw [eI9387, pp_ne _ _ (Or.inr (by decide))]; exact e9376
        have e9391 : I9387 (ad g 44) 1 = v9096 := by rw [eI9387, pp_ne _ _ (Or.inr (by decide))]; exact e9377
        have e9392 : I9387 (ad g 44) 2 = v9103 := by rw [eI9387, pp_ne _ _ (Or.inr (by decide))]; exact e9378
        have e9393 : I9387 (ad g 44) 3 = v9335 := by rw [eI9387, pp_ne _ _ (Or.inr (by decide))]; exact e9379
        have e9394 : I9387 (ad g 44) 4 = v9349 := by rw [eI9387, pp_ne _ _ (Or.inr (by decide))]; exact e9380
        have e9395 : I9387 (ad g 44) 5 = v9360 := by rw [eI9387, pp_ne _ _ (Or.inr (by decide))]; exact e9381
        have e9396 : I9387 (ad g 44) 6 = v9372 := by rw [eI9387, pp_ne _ _ (Or.inr (by decide))]; exact e9382
        have e9397 : I9387 (ad g 44) 7 = v9386 := by rw [eI9387, pp_self]
        have fr9398 : fz 74 g [44] I I9387 := by rw [eI9387]; exact fzx_pp hy fr9383 (by decide) (by decide)
        clear eI9387
        refine WP_aload_n dX6_load_197 rfl ?_
        refine WP_aload_n dX6_load_198 rfl ?_
        refine WP_getr dX6_load_199 fX6_64 rfl (lyx_is hy 5 0 rfl) (rfx hr 5 2 23 (by decide)) ?_
        refine WP_iload_n dX6_load_202 rfl ?_
        refine WQ_iald dX6_load_203 (lyx_is hy 23 13 rfl) (lyx_n hy 23 7 rfl) (by omega) (by omega) (fun q hq => BT_get hI9387.1 23 0 7 (0) (0) (900) (by decide) q (Nat.zero_le _) hq) (fun v9399 av9399 bv9399 ev9399 => ?_)
        clear ev9399
        refine WQ_if_le 211 dX6_load_204 rfl (fun c9399 => ?_) (fun c9399 => ?_)
        · refine WQ_iconst (0) (0) dX6_load_211 rfl rfl (fun v9401 hv9401 => ?_)
          refine WQ_putz dX6_load_212 fX6_67 rfl rfl (by omega) (lyx_is hy 44 6 rfl) (fun I9402 eI9402 => ?_)
          have hI9402 : XI g n L I9402 := by rw [eI9402]; exact (xi_f hy hI9387 (c := 44) (0) (0) (1) (by decide) (Or.inl (by decide)) (by decide) (by omega) (by omega))
          have e9403 : I9402 (ad g 1) 1 = L := by rw [eI9402, pp_ne _ _ (Or.inl (lyx_ne hy (by decide) (by decide) (by decide)))]; exact e9388
          have e9404 : I9402 (ad g 27) 4 = v8659 := by rw [eI9402, pp_ne _ _ (Or.inl (lyx_ne hy (by decide) (by decide) (by decide)))]; exact e9389
          have e9405 : I9402 (ad g 44) 0 = v9090 := by rw [eI9402, pp_ne _ _ (Or.inr (by decide))]; exact e9390
          have e9406 : I9402 (ad g 44) 1 = v9096 := by rw [eI9402, pp_ne _ _ (Or.inr (by decide))]; exact e9391
          have e9407 : I9402 (ad g 44) 2 = v9103 := by rw [eI9402, pp_ne _ _ (Or.inr (by decide))]; exact e9392
          have e9408 : I9402 (ad g 44) 3 = v9335 := by rw [eI9402, pp_ne _ _ (Or.inr (by decide))]; exact e9393
          have e9409 : I9402 (ad g 44) 4 = v9349 := by rw [eI9402, pp_ne _ _ (Or.inr (by decide))]; exact e9394
          have e9410 : I9402 (ad g 44) 5 = v9360 := by rw [eI9402, pp_ne _ _ (Or.inr (by decide))]; exact e9395
          have e9411 : I9402 (ad g 44) 6 = v9372 := by rw [eI9402, pp_ne _ _ (Or.inr (by decide))]; exact e9396
          have e9412 : I9402 (ad g 44) 7 = v9386 := by rw [eI9402, pp_ne _ _ (Or.inr (by decide))]; exact e9397
          have e9413 : I9402 (ad g 44) 8 = v9401 := by rw [eI9402, pp_self]
          have fr9414 : fz 74 g [44] I I9402 := by rw [eI9402]; exact fzx_pp hy fr9398 (by decide) (by decide)
          clear eI9402
          exact WP_vret dX6_load_215 rfl ⟨⟨hI9402, rfl, fr9414, rfl, (by
                have yill : I (ad g (27 + 5)) so.toInt.toNat >>> (nI da.toInt.toNat &&& 31) &&& 1 = v8663 := by rw [show I (ad g (27 + 5)) so.toInt.toNat = v8660 from yv8660, show nI da.toInt.toNat = da from (eq32 _ _).mpr (by rw [nI_toInt (by omega)]; omega), xv8663, xv8661, (eq32 v8662 1).mpr hv8662]
                have yst : I (ad g 27) 4 = v8659 := est
                unfold LD
                simp only [e9405, e9406, e9407, e9408, e9409, e9410, e9411, e9412, yill, yst, show I (ad g (27 + 7)) _ = _ from yv9090, show I (ad g (27 + 8)) _ = _ from yv9096, show I (ad g (27 + 9)) _ = _ from yv9103, yv9349, true_and, and_true]
                omega)⟩, rfl⟩
        · refine WQ_iconst (1) (1) dX6_load_207 rfl rfl (fun v9415 hv9415 => ?_)
          refine WP_goto 212 dX6_load_208 rfl ?_
          refine WQ_putz dX6_load_212 fX6_67 rfl rfl (by omega) (lyx_is hy 44 6 rfl) (fun I9416 eI9416 => ?_)
          have hI9416 : XI g n L I9416 := by rw [eI9416]; exact (xi_f hy hI9387 (c := 44) (0) (0) (1) (by decide) (Or.inl (by decide)) (by decide) (by omega) (by omega))
          have e9417 : I9416 (ad g 1) 1 = L := by rw [eI9416, pp_ne _ _ (Or.inl (lyx_ne hy (by decide) (by decide) (by decide)))]; exact e9388
          have e9418 : I9416 (ad g 27) 4 = v8659 := by rw [eI9416, pp_ne _ _ (Or.inl (lyx_ne hy (by decide) (by decide) (by decide)))]; exact e9389
          have e9419 : I9416 (ad g 44) 0 = v9090 := by rw [eI9416, pp_ne _ _ (Or.inr (by decide))]; exact e9390
          have e9420 : I9416 (ad g 44) 1 = v9096 := by rw [eI9416, pp_ne _ _ (Or.inr (by decide))]; exact e9391
          have e9421 : I9416 (ad g 44) 2 = v9103 := by rw [eI9416, pp_ne _ _ (Or.inr (by decide))]; exact e9392
          have e9422 : I9416 (ad g 44) 3 = v9335 := by rw [eI9416, pp_ne _ _ (Or.inr (by decide))]; exact e9393
          have e9423 : I9416 (ad g 44) 4 = v9349 := by rw [eI9416, pp_ne _ _ (Or.inr (by decide))]; exact e9394
          have e9424 : I9416 (ad g 44) 5 = v9360 := by rw [eI9416, pp_ne _ _ (Or.inr (by decide))]; exact e9395
          have e9425 : I9416 (ad g 44) 6 = v9372 := by rw [eI9416, pp_ne _ _ (Or.inr (by decide))]; exact e9396
          have e9426 : I9416 (ad g 44) 7 = v9386 := by rw [eI9416, pp_ne _ _ (Or.inr (by decide))]; exact e9397
          have e9427 : I9416 (ad g 44) 8 = v9415 := by rw [eI9416, pp_self]
          have fr9428 : fz 74 g [44] I I9416 := by rw [eI9416]; exact fzx_pp hy fr9398 (by decide) (by decide)
          clear eI9416
          exact WP_vret dX6_load_215 rfl ⟨⟨hI9416, rfl, fr9428, rfl, (by
                have yill : I (ad g (27 + 5)) so.toInt.toNat >>> (nI da.toInt.toNat &&& 31) &&& 1 = v8663 := by rw [show I (ad g (27 + 5)) so.toInt.toNat = v8660 from yv8660, show nI da.toInt.toNat = da from (eq32 _ _).mpr (by rw [nI_toInt (by omega)]; omega), xv8663, xv8661, (eq32 v8662 1).mpr hv8662]
                have yst : I (ad g 27) 4 = v8659 := est
                unfold LD
                simp only [e9419, e9420, e9421, e9422, e9423, e9424, e9425, e9426, yill, yst, show I (ad g (27 + 7)) _ = _ from yv9090, show I (ad g (27 + 8)) _ = _ from yv9096, show I (ad g (27 + 9)) _ = _ from yv9103, yv9349, true_and, and_true]
                omega)⟩, rfl⟩
      · refine WQ_iconst (0) (0) dX6_load_115 rfl rfl (fun v9429 hv9429 => ?_)
        refine WP_goto 131 dX6_load_116 rfl ?_
        refine WQ_puti dX6_load_131 fX6_51 rfl rfl (lyx_is hy 44 6 rfl) (fun I9430 eI9430 => ?_)
        have hI9430 : XI g n L I9430 := by rw [eI9430]; exact (xi_f hy hI9336 (c := 44) (0) (0) (20) (by decide) (Or.inl (by decide)) (by decide) (by omega) (by omega))
        have e9431 : I9430 (ad g 1) 1 = L := by rw [eI9430, pp_ne _ _ (Or.inl (lyx_ne hy (by decide) (by decide) (by decide)))]; exact e9337
        have e9432 : I9430 (ad g 27) 4 = v8659 := by rw [eI9430, pp_ne _ _ (Or.inl (lyx_ne hy (by decide) (by decide) (by decide)))]; exact e9338
        have e9433 : I9430 (ad g 44) 0 = v9090 := by rw [eI9430, pp_ne _ _ (Or.inr (by decide))]; exact e9339
        have e9434 : I9430 (ad g 44) 1 = v9096 := by rw [eI9430, pp_ne _ _ (Or.inr (by decide))]; exact e9340
        have e9435 : I9430 (ad g 44) 2 = v9103 := by rw [eI9430, pp_ne _ _ (Or.inr (by decide))]; exact e9341
        have e9436 : I9430 (ad g 44) 3 = v9335 := by rw [eI9430, pp_ne _ _ (Or.inr (by decide))]; exact e9342
        have e9437 : I9430 (ad g 44) 4 = v9429 := by rw [eI9430, pp_self]
        have fr9438 : fz 74 g [44] I I9430 := by rw [eI9430]; exact fzx_pp hy fr9343 (by decide) (by decide)
        clear eI9430
        refine WP_aload_n dX6_load_134 rfl ?_
        refine WP_iload dX6_load_135 rfl ?_
        refine WQ_if_eq 144 dX6_load_137 rfl (fun c9438 => False.elim (by omega)) (fun c9438 => ?_)
        refine WQ_iconst (0) (0) dX6_load_140 rfl rfl (fun v9440 hv9440 => ?_)
        refine WP_goto 148 dX6_load_141 rfl ?_
        refine WQ_puti dX6_load_148 fX6_54 rfl rfl (lyx_is hy 44 6 rfl) (fun I9441 eI9441 => ?_)
        have hI9441 : XI g n L I9441 := by rw [eI9441]; exact (xi_f hy hI9430 (c := 44) (0) (0) (3) (by decide) (Or.inl (by decide)) (by decide) (by omega) (by omega))
        have e9442 : I9441 (ad g 1) 1 = L := by rw [eI9441, pp_ne _ _ (Or.inl (lyx_ne hy (by decide) (by decide) (by decide)))]; exact e9431
        have e9443 : I9441 (ad g 27) 4 = v8659 := by rw [eI9441, pp_ne _ _ (Or.inl (lyx_ne hy (by decide) (by decide) (by decide)))]; exact e9432
        have e9444 : I9441 (ad g 44) 0 = v9090 := by rw [eI9441, pp_ne _ _ (Or.inr (by decide))]; exact e9433
        have e9445 : I9441 (ad g 44) 1 = v9096 := by rw [eI9441, pp_ne _ _ (Or.inr (by decide))]; exact e9434
        have e9446 : I9441 (ad g 44) 2 = v9103 := by rw [eI9441, pp_ne _ _ (Or.inr (by decide))]; exact e9435
        have e9447 : I9441 (ad g 44) 3 = v9335 := by rw [eI9441, pp_ne _ _ (Or.inr (by decide))]; exact e9436
        have e9448 : I9441 (ad g 44) 4 = v9429 := by rw [eI9441, pp_ne _ _ (Or.inr (by decide))]; exact e9437
        have e9449 : I9441 (ad g 44) 5 = v9440 := by rw [eI9441, pp_self]
        have fr9450 : fz 74 g [44] I I9441 := by rw [eI9441]; exact fzx_pp hy fr9438 (by decide) (by decide)
        clear eI9441
        refine WP_aload_n dX6_load_151 rfl ?_
        refine WP_iload dX6_load_152 rfl ?_
        refine WQ_if_ne 163 dX6_load_154 rfl (fun c9450 => ?_) (fun c9450 => False.elim (by omega))
        refine WQ_iconst (0) (0) dX6_load_163 rfl rfl (fun v9452 hv9452 => ?_)
        refine WP_goto 168 dX6_load_164 rfl ?_
        refine WQ_puti dX6_load_168 fX6_57 rfl rfl (lyx_is hy 44 6 rfl) (fun I9453 eI9453 => ?_)
        have hI9453 : XI g n L I9453 := by rw [eI9453]; exact (xi_f hy hI9441 (c := 44) (0) (0) (2) (by decide) (Or.inl (by decide)) (by decide) (by omega) (by omega))
        have e9454 : I9453 (ad g 1) 1 = L := by rw [eI9453, pp_ne _ _ (Or.inl (lyx_ne hy (by decide) (by decide) (by decide)))]; exact e9442
        have e9455 : I9453 (ad g 27) 4 = v8659 := by rw [eI9453, pp_ne _ _ (Or.inl (lyx_ne hy (by decide) (by decide) (by decide)))]; exact e9443
        have e9456 : I9453 (ad g 44) 0 = v9090 := by rw [eI9453, pp_ne _ _ (Or.inr (by decide))]; exact e9444
        have e9457 : I9453 (ad g 44) 1 = v9096 := by rw [eI9453, pp_ne _ _ (Or.inr (by decide))]; exact e9445
        have e9458 : I9453 (ad g 44) 2 = v9103 := by rw [eI9453, pp_ne _ _ (Or.inr (by decide))]; exact e9446
        have e9459 : I9453 (ad g 44) 3 = v9335 := by rw [eI9453, pp_ne _ _ (Or.inr (by decide))]; exact e9447
        have e9460 : I9453 (ad g 44) 4 = v9429 := by rw [eI9453, pp_ne _ _ (Or.inr (by decide))]; exact e9448
        have e9461 : I9453 (ad g 44) 5 = v9440 := by rw [eI9453, pp_ne _ _ (Or.inr (by decide))]; exact e9449
        have e9462 : I9453 (ad g 44) 6 = v9452 := by rw [eI9453, pp_self]
        have fr9463 : fz 74 g [44] I I9453 := by rw [eI9453]; exact fzx_pp hy fr9450 (by decide) (by decide)
        clear eI9453
        refine WP_aload_n dX6_load_171 rfl ?_
        refine WP_aload_n dX6_load_172 rfl ?_
        refine WQ_getim dX6_load_173 fX6_9 rfl (lyx_is hy 44 6 rfl) e9456 ?_
        refine WQ_iconst (-1) (-1) dX6_load_176 rfl rfl (fun v9464 hv9464 => ?_)
        refine WQ_icmp_eq 193 dX6_load_177 rfl (fun c9464 => ?_) (fun c9464 => False.elim (by omega))
        refine WQ_iconst (0) (0) dX6_load_193 rfl rfl (fun v9466 hv9466 => ?_)
        refine WQ_putz dX6_load_194 fX6_60 rfl rfl (by omega) (lyx_is hy 44 6 rfl) (fun I9467 eI9467 => ?_)
        have hI9467 : XI g n L I9467 := by rw [eI9467]; exact (xi_f hy hI9453 (c := 44) (0) (0) (1) (by decide) (Or.inl (by decide)) (by decide) (by omega) (by omega))
        have e9468 : I9467 (ad g 1) 1 = L := by rw [eI9467, pp_ne _ _ (Or.inl (lyx_ne hy (by decide) (by decide) (by decide)))]; exact e9454
        have e9469 : I9467 (ad g 27) 4 = v8659 := by rw [eI9467, pp_ne _ _ (Or.inl (lyx_ne hy (by decide) (by decide) (by decide)))]; exact e9455
        have e9470 : I9467 (ad g 44) 0 = v9090 := by rw [eI9467, pp_ne _ _ (Or.inr (by decide))]; exact e9456
        have e9471 : I9467 (ad g 44) 1 = v9096 := by rw [eI9467, pp_ne _ _ (Or.inr (by decide))]; exact e9457
        have e9472 : I9467 (ad g 44) 2 = v9103 := by rw [eI9467, pp_ne _ _ (Or.inr (by decide))]; exact e9458
        have e9473 : I9467 (ad g 44) 3 = v9335 := by rw [eI9467, pp_ne _ _ (Or.inr (by decide))]; exact e9459
        have e9474 : I9467 (ad g 44) 4 = v9429 := by rw [eI9467, pp_ne _ _ (Or.inr (by decide))]; exact e9460
        have e9475 : I9467 (ad g 44) 5 = v9440 := by rw [eI9467, pp_ne _ _ (Or.inr (by decide))]; exact e9461
        have e9476 : I9467 (ad g 44) 6 = v9452 := by rw [eI9467, pp_ne _ _ (Or.inr (by decide))]; exact e9462
        have e9477 : I9467 (ad g 44) 7 = v9466 := by rw [eI9467, pp_self]
        have fr9478 : fz 74 g [44] I I9467 := by rw [eI9467]; exact fzx_pp hy fr9463 (by decide) (by decide)
        clear eI9467
        refine WP_aload_n dX6_load_197 rfl ?_
        refine WP_aload_n dX6_load_198 rfl ?_
        refine WP_getr dX6_load_199 fX6_64 rfl (lyx_is hy 5 0 rfl) (rfx hr 5 2 23 (by decide)) ?_
        refine WP_iload_n dX6_load_202 rfl ?_
        refine WQ_iald dX6_load_203 (lyx_is hy 23 13 rfl) (lyx_n hy 23 7 rfl) (by omega) (by omega) (fun q hq => BT_get hI9467.1 23 0 7 (0) (0) (900) (by decide) q (Nat.zero_le _) hq) (fun v9479 av9479 bv9479 ev9479 => ?_)
        clear ev9479
        refine WQ_if_le 211 dX6_load_204 rfl (fun c9479 => ?_) (fun c9479 => ?_)
        · refine WQ_iconst (0) (0) dX6_load_211 rfl rfl (fun v9481 hv9481 => ?_)
          refine WQ_putz dX6_load_212 fX6_67 rfl rfl (by omega) (lyx_is hy 44 6 rfl) (fun I9482 eI9482 => ?_)
          have hI9482 : XI g n L I9482 := by rw [eI9482]; exact (xi_f hy hI9467 (c := 44) (0) (0) (1) (by decide) (Or.inl (by decide)) (by decide) (by omega) (by omega))
          have e9483 : I9482 (ad g 1) 1 = L := by rw [eI9482, pp_ne _ _ (Or.inl (lyx_ne hy (by decide) (by decide) (by decide)))]; exact e9468
          have e9484 : I9482 (ad g 27) 4 = v8659 := by rw [eI9482, pp_ne _ _ (Or.inl (lyx_ne hy (by decide) (by decide) (by decide)))]; exact e9469
          have e9485 : I9482 (ad g 44) 0 = v9090 := by rw [eI9482, pp_ne _ _ (Or.inr (by decide))]; exact e9470
          have e9486 : I9482 (ad g 44) 1 = v9096 := by rw [eI9482, pp_ne _ _ (Or.inr (by decide))]; exact e9471
          have e9487 : I9482 (ad g 44) 2 = v9103 := by rw [eI9482, pp_ne _ _ (Or.inr (by decide))]; exact e9472
          have e9488 : I9482 (ad g 44) 3 = v9335 := by rw [eI9482, pp_ne _ _ (Or.inr (by decide))]; exact e9473
          have e9489 : I9482 (ad g 44) 4 = v9429 := by rw [eI9482, pp_ne _ _ (Or.inr (by decide))]; exact e9474
          have e9490 : I9482 (ad g 44) 5 = v9440 := by rw [eI9482, pp_ne _ _ (Or.inr (by decide))]; exact e9475
          have e9491 : I9482 (ad g 44) 6 = v9452 := by rw [eI9482, pp_ne _ _ (Or.inr (by decide))]; exact e9476
          have e9492 : I9482 (ad g 44) 7 = v9466 := by rw [eI9482, pp_ne _ _ (Or.inr (by decide))]; exact e9477
          have e9493 : I9482 (ad g 44) 8 = v9481 := by rw [eI9482, pp_self]
          have fr9494 : fz 74 g [44] I I9482 := by rw [eI9482]; exact fzx_pp hy fr9478 (by decide) (by decide)
          clear eI9482
          exact WP_vret dX6_load_215 rfl ⟨⟨hI9482, rfl, fr9494, rfl, (by
                have yill : I (ad g (27 + 5)) so.toInt.toNat >>> (nI da.toInt.toNat &&& 31) &&& 1 = v8663 := by rw [show I (ad g (27 + 5)) so.toInt.toNat = v8660 from yv8660, show nI da.toInt.toNat = da from (eq32 _ _).mpr (by rw [nI_toInt (by omega)]; omega), xv8663, xv8661, (eq32 v8662 1).mpr hv8662]
                have yst : I (ad g 27) 4 = v8659 := est
                unfold LD
                simp only [e9485, e9486, e9487, e9488, e9489, e9490, e9491, e9492, yill, yst, show I (ad g (27 + 7)) _ = _ from yv9090, show I (ad g (27 + 8)) _ = _ from yv9096, show I (ad g (27 + 9)) _ = _ from yv9103, true_and, and_true]
                omega)⟩, rfl⟩
        · refine WQ_iconst (1) (1) dX6_load_207 rfl rfl (fun v9495 hv9495 => ?_)
          refine WP_goto 212 dX6_load_208 rfl ?_
          refine WQ_putz dX6_load_212 fX6_67 rfl rfl (by omega) (lyx_is hy 44 6 rfl) (fun I9496 eI9496 => ?_)
          have hI9496 : XI g n L I9496 := by rw [eI9496]; exact (xi_f hy hI9467 (c := 44) (0) (0) (1) (by decide) (Or.inl (by decide)) (by decide) (by omega) (by omega))
          have e9497 : I9496 (ad g 1) 1 = L := by rw [eI9496, pp_ne _ _ (Or.inl (lyx_ne hy (by decide) (by decide) (by decide)))]; exact e9468
          have e9498 : I9496 (ad g 27) 4 = v8659 := by rw [eI9496, pp_ne _ _ (Or.inl (lyx_ne hy (by decide) (by decide) (by decide)))]; exact e9469
          have e9499 : I9496 (ad g 44) 0 = v9090 := by rw [eI9496, pp_ne _ _ (Or.inr (by decide))]; exact e9470
          have e9500 : I9496 (ad g 44) 1 = v9096 := by rw [eI9496, pp_ne _ _ (Or.inr (by decide))]; exact e9471
          have e9501 : I9496 (ad g 44) 2 = v9103 := by rw [eI9496, pp_ne _ _ (Or.inr (by decide))]; exact e9472
          have e9502 : I9496 (ad g 44) 3 = v9335 := by rw [eI9496, pp_ne _ _ (Or.inr (by decide))]; exact e9473
          have e9503 : I9496 (ad g 44) 4 = v9429 := by rw [eI9496, pp_ne _ _ (Or.inr (by decide))]; exact e9474
          have e9504 : I9496 (ad g 44) 5 = v9440 := by rw [eI9496, pp_ne _ _ (Or.inr (by decide))]; exact e9475
          have e9505 : I9496 (ad g 44) 6 = v9452 := by rw [eI9496, pp_ne _ _ (Or.inr (by decide))]; exact e9476
          have e9506 : I9496 (ad g 44) 7 = v9466 := by rw [eI9496, pp_ne _ _ (Or.inr (by decide))]; exact e9477
          have e9507 : I9496 (ad g 44) 8 = v9495 := by rw [eI9496, pp_self]
          have fr9508 : fz 74 g [44] I I9496 := by rw [eI9496]; exact fzx_pp hy fr9478 (by decide) (by decide)
          clear eI9496
          exact WP_vret dX6_load_215 rfl ⟨⟨hI9496, rfl, fr9508, rfl, (by
                have yill : I (ad g (27 + 5)) so.toInt.toNat >>> (nI da.toInt.toNat &&& 31) &&& 1 = v8663 := by rw [show I (ad g (27 + 5)) so.toInt.toNat = v8660 from yv8660, show nI da.toInt.toNat = da from (eq32 _ _).mpr (by rw [nI_toInt (by omega)]; omega), xv8663, xv8661, (eq32 v8662 1).mpr hv8662]
                have yst : I (ad g 27) 4 = v8659 := est
                unfold LD
                simp only [e9499, e9500, e9501, e9502, e9503, e9504, e9505, e9506, yill, yst, show I (ad g (27 + 7)) _ = _ from yv9090, show I (ad g (27 + 8)) _ = _ from yv9096, show I (ad g (27 + 9)) _ = _ from yv9103, true_and, and_true]
                omega)⟩, rfl⟩
set_option maxHeartbeats 4000000 in
set_option maxRecDepth 100000 in
theorem sx_loadx_50_6 {g : GG} {n : Int} {L : Int32} (hy : LyX g)  {I : pI} {J : pJ} {R : pR} (hr : RfX g R) (hT : R (ad g 5) 0 = some (ad g 6)) (hI : XI g n L I) (so : Int32) (da : Int32) (so_lo : 0 ≤ so.toInt) (so_hi : so.toInt ≤ 3) (da_lo : 0 ≤ da.toInt) (da_hi : da.toInt ≤ 6) : SP g mX6_load [.ref (ad g 50), .ref (ad g 5), .int so, .int da] I J R (fun r I' J' R' => (XI g n L I' ∧ R' = R ∧ fz 74 g [50] I I' ∧ J' = J ∧ LD g 6 I so.toInt da.toInt (I' (ad g 50))) ∧ r = none) := by
  refine SP_of ⟨by decide, rfl⟩ (Nat.le_of_ble_eq_true rfl) ?_
  have e9509 : I (ad g 1) 1 = L := hI.2
  have b9510 := BT_get hI.1 1 1 2 (0) (0) (900) (by decide) 1 (by decide) (by decide)
  rw [e9509] at b9510
  have fr0 : fz 74 g [50] I I := fz_rf
  refine WP_aload_n dX6_load_0 rfl ?_
  refine WP_getr dX6_load_1 fX6_15 rfl (lyx_is hy 5 0 rfl) hT ?_
  refine WP_astore (ls' := [(0, _), (1, _), (2, _), (3, _), (4, _)]) dX6_load_4 (by decide) rfl ?_
  refine WP_iload_n dX6_load_6 rfl ?_
  refine WQ_bipush (7) (7) dX6_load_7 rfl rfl (fun v9511 hv9511 => ?_)
  refine WQ_imulk (7) dX6_load_9 hv9511 (by omega) (by omega) (fun v9512 hv9512 => ?_)
  refine WP_iload_n dX6_load_10 rfl ?_
  refine WQ_iadd dX6_load_11 (by omega) (by omega) (fun v9513 hv9513 => ?_)
  refine WP_istore (ls' := [(0, _), (1, _), (2, _), (3, _), (4, _), (5, _)]) dX6_load_12 (by decide) rfl ?_
  refine WP_aload dX6_load_14 rfl ?_
  refine WQ_geti dX6_load_16 fX6_21 rfl (lyx_is hy 6 7 rfl) (BT_get hI.1 6 4 5 (-1) (0) (2) (by decide) 4 (by decide) (by decide)) (fun v9514 ev9514 av9514 bv9514 => ?_)
  have est : I (ad g 6) 4 = v9514 := ev9514
  refine WP_istore (ls' := [(0, _), (1, _), (2, _), (3, _), (4, _), (5, _), (6, _)]) dX6_load_19 (by decide) rfl ?_
  refine WP_aload dX6_load_21 rfl ?_
  refine WP_getr dX6_load_23 fX6_26 rfl (lyx_is hy 6 7 rfl) (rfx hr 6 9 11 (by decide)) ?_
  refine WP_iload_n dX6_load_26 rfl ?_
  refine WQ_ialdx dX6_load_27 (lyx_is hy 11 13 rfl) (lyx_n hy 11 4 rfl) (by omega) (by omega) (fun v9515 zv9515 => ?_)
  have yv9515 : I (ad g 11) (so.toInt).toNat = v9515 := by rw [← fz_at fr0 11 (by decide) (by decide), show (so.toInt).toNat = so.toInt.toNat by omega]; exact zv9515
  refine WP_iload_n dX6_load_28 rfl ?_
  refine WQ_ishrx dX6_load_29 (fun v9516 xv9516 => ?_)
  refine WQ_iconst (1) (1) dX6_load_30 rfl rfl (fun v9517 hv9517 => ?_)
  refine WQ_iandx dX6_load_31 (fun v9518 xv9518 => ?_)
  refine WQ_if_eq 39 dX6_load_32 rfl (fun c9518 => ?_) (fun c9518 => ?_)
  · refine WQ_iconst (0) (0) dX6_load_39 rfl rfl (fun v9520 hv9520 => ?_)
    refine WP_istore (ls' := [(0, _), (1, _), (2, _), (3, _), (4, _), (5, _), (6, _), (7, _)]) dX6_load_40 (by decide) rfl ?_
    refine WP_aload_n dX6_load_42 rfl ?_
    refine WP_aload dX6_load_43 rfl ?_
    refine WP_getr dX6_load_45 fX6_30 rfl (lyx_is hy 6 7 rfl) (rfx hr 6 11 13 (by decide)) ?_
    refine WP_iload dX6_load_48 rfl ?_
    refine WQ_ialdb dX6_load_50 (lyx_is hy 13 13 rfl) (lyx_n hy 13 28 rfl) (by omega) (by omega) (fun q hq => BT_get hI.1 13 0 28 (-1) (0) (2) (by decide) q (Nat.zero_le _) hq) (fun v9521 av9521 bv9521 zv9521 => ?_)
    have yv9521 : I (ad g 13) (7 * so.toInt + da.toInt).toNat = v9521 := by rw [← fz_at fr0 13 (by decide) (by decide), show (7 * so.toInt + da.toInt).toNat = v9513.toInt.toNat by omega]; exact zv9521
    refine WQ_puti dX6_load_51 fX6_9 rfl rfl (lyx_is hy 50 6 rfl) (fun I9522 eI9522 => ?_)
    have hI9522 : XI g n L I9522 := by rw [eI9522]; exact (xi_f hy hI (c := 50) (-1) (0) (2) (by decide) (Or.inl (by decide)) (by decide) (by omega) (by omega))
    have e9523 : I9522 (ad g 1) 1 = L := by rw [eI9522, pp_ne _ _ (Or.inl (lyx_ne hy (by decide) (by decide) (by decide)))]; exact e9509
    have e9524 : I9522 (ad g 6) 4 = v9514 := by rw [eI9522, pp_ne _ _ (Or.inl (lyx_ne hy (by decide) (by decide) (by decide)))]; exact ev9514
    have e9525 : I9522 (ad g 50) 0 = v9521 := by rw [eI9522, pp_self]
    have fr9526 : fz 74 g [50] I I9522 := by rw [eI9522]; exact fzx_pp hy fr0 (by decide) (by decide)
    clear eI9522
    refine WP_aload_n dX6_load_54 rfl ?_
    refine WP_aload dX6_load_55 rfl ?_
    refine WP_getr dX6_load_57 fX6_33 rfl (lyx_is hy 6 7 rfl) (rfx hr 6 12 14 (by decide)) ?_
    refine WP_iload dX6_load_60 rfl ?_
    refine WQ_ialdb dX6_load_62 (lyx_is hy 14 13 rfl) (lyx_n hy 14 28 rfl) (by omega) (by omega) (fun q hq => BT_get hI9522.1 14 0 28 (0) (0) (3) (by decide) q (Nat.zero_le _) hq) (fun v9527 av9527 bv9527 zv9527 => ?_)
    have yv9527 : I (ad g 14) (7 * so.toInt + da.toInt).toNat = v9527 := by rw [← fz_at fr9526 14 (by decide) (by decide), show (7 * so.toInt + da.toInt).toNat = v9513.toInt.toNat by omega]; exact zv9527
    refine WQ_puti dX6_load_63 fX6_36 rfl rfl (lyx_is hy 50 6 rfl) (fun I9528 eI9528 => ?_)
    have hI9528 : XI g n L I9528 := by rw [eI9528]; exact (xi_f hy hI9522 (c := 50) (0) (0) (3) (by decide) (Or.inl (by decide)) (by decide) (by omega) (by omega))
    have e9529 : I9528 (ad g 1) 1 = L := by rw [eI9528, pp_ne _ _ (Or.inl (lyx_ne hy (by decide) (by decide) (by decide)))]; exact e9523
    have e9530 : I9528 (ad g 6) 4 = v9514 := by rw [eI9528, pp_ne _ _ (Or.inl (lyx_ne hy (by decide) (by decide) (by decide)))]; exact e9524
    have e9531 : I9528 (ad g 50) 0 = v9521 := by rw [eI9528, pp_ne _ _ (Or.inr (by decide))]; exact e9525
    have e9532 : I9528 (ad g 50) 1 = v9527 := by rw [eI9528, pp_self]
    have fr9533 : fz 74 g [50] I I9528 := by rw [eI9528]; exact fzx_pp hy fr9526 (by decide) (by decide)
    clear eI9528
    refine WP_aload_n dX6_load_66 rfl ?_
    refine WP_aload dX6_load_67 rfl ?_
    refine WP_getr dX6_load_69 fX6_39 rfl (lyx_is hy 6 7 rfl) (rfx hr 6 13 15 (by decide)) ?_
    refine WP_iload dX6_load_72 rfl ?_
    refine WQ_ialdb dX6_load_74 (lyx_is hy 15 13 rfl) (lyx_n hy 15 28 rfl) (by omega) (by omega) (fun q hq => BT_get hI9528.1 15 0 28 (0) (0) (99) (by decide) q (Nat.zero_le _) hq) (fun v9534 av9534 bv9534 zv9534 => ?_)
    have yv9534 : I (ad g 15) (7 * so.toInt + da.toInt).toNat = v9534 := by rw [← fz_at fr9533 15 (by decide) (by decide), show (7 * so.toInt + da.toInt).toNat = v9513.toInt.toNat by omega]; exact zv9534
    refine WQ_puti dX6_load_75 fX6_42 rfl rfl (lyx_is hy 50 6 rfl) (fun I9535 eI9535 => ?_)
    have hI9535 : XI g n L I9535 := by rw [eI9535]; exact (xi_f hy hI9528 (c := 50) (0) (0) (99) (by decide) (Or.inl (by decide)) (by decide) (by omega) (by omega))
    have e9536 : I9535 (ad g 1) 1 = L := by rw [eI9535, pp_ne _ _ (Or.inl (lyx_ne hy (by decide) (by decide) (by decide)))]; exact e9529
    have e9537 : I9535 (ad g 6) 4 = v9514 := by rw [eI9535, pp_ne _ _ (Or.inl (lyx_ne hy (by decide) (by decide) (by decide)))]; exact e9530
    have e9538 : I9535 (ad g 50) 0 = v9521 := by rw [eI9535, pp_ne _ _ (Or.inr (by decide))]; exact e9531
    have e9539 : I9535 (ad g 50) 1 = v9527 := by rw [eI9535, pp_ne _ _ (Or.inr (by decide))]; exact e9532
    have e9540 : I9535 (ad g 50) 2 = v9534 := by rw [eI9535, pp_self]
    have fr9541 : fz 74 g [50] I I9535 := by rw [eI9535]; exact fzx_pp hy fr9533 (by decide) (by decide)
    clear eI9535
    refine WP_aload_n dX6_load_78 rfl ?_
    refine WP_aload_n dX6_load_79 rfl ?_
    refine WQ_getim dX6_load_80 fX6_9 rfl (lyx_is hy 50 6 rfl) e9538 ?_
    refine WQ_iconst (-1) (-1) dX6_load_83 rfl rfl (fun v9542 hv9542 => ?_)
    refine WQ_icmp_ne 91 dX6_load_84 rfl (fun c9542 => ?_) (fun c9542 => ?_)
    · refine WP_aload_n dX6_load_91 rfl ?_
      refine WP_getr dX6_load_92 fX6_45 rfl (lyx_is hy 5 0 rfl) (rfx hr 5 1 22 (by decide)) ?_
      refine WP_aload_n dX6_load_95 rfl ?_
      refine WQ_getim dX6_load_96 fX6_9 rfl (lyx_is hy 50 6 rfl) e9538 ?_
      refine WQ_bipush (7) (7) dX6_load_99 rfl rfl (fun v9544 hv9544 => ?_)
      refine WQ_imulk (7) dX6_load_101 hv9544 (by omega) (by omega) (fun v9545 hv9545 => ?_)
      refine WP_iload_n dX6_load_102 rfl ?_
      refine WQ_iadd dX6_load_103 (by omega) (by omega) (fun v9546 hv9546 => ?_)
      refine WQ_ialdb dX6_load_104 (lyx_is hy 22 13 rfl) (lyx_n hy 22 21 rfl) (by omega) (by omega) (fun q hq => BT_get hI9535.1 22 0 21 (0) (0) (20) (by decide) q (Nat.zero_le _) hq) (fun v9547 av9547 bv9547 zv9547 => ?_)
      have yv9547 : I (ad g 22) (7 * v9521.toInt + da.toInt).toNat = v9547 := by rw [← fz_at fr9541 22 (by decide) (by decide), show (7 * v9521.toInt + da.toInt).toNat = v9546.toInt.toNat by omega]; exact zv9547
      refine WQ_puti dX6_load_105 fX6_48 rfl rfl (lyx_is hy 50 6 rfl) (fun I9548 eI9548 => ?_)
      have hI9548 : XI g n L I9548 := by rw [eI9548]; exact (xi_f hy hI9535 (c := 50) (0) (0) (20) (by decide) (Or.inl (by decide)) (by decide) (by omega) (by omega))
      have e9549 : I9548 (ad g 1) 1 = L := by rw [eI9548, pp_ne _ _ (Or.inl (lyx_ne hy (by decide) (by decide) (by decide)))]; exact e9536
      have e9550 : I9548 (ad g 6) 4 = v9514 := by rw [eI9548, pp_ne _ _ (Or.inl (lyx_ne hy (by decide) (by decide) (by decide)))]; exact e9537
      have e9551 : I9548 (ad g 50) 0 = v9521 := by rw [eI9548, pp_ne _ _ (Or.inr (by decide))]; exact e9538
      have e9552 : I9548 (ad g 50) 1 = v9527 := by rw [eI9548, pp_ne _ _ (Or.inr (by decide))]; exact e9539
      have e9553 : I9548 (ad g 50) 2 = v9534 := by rw [eI9548, pp_ne _ _ (Or.inr (by decide))]; exact e9540
      have e9554 : I9548 (ad g 50) 3 = v9547 := by rw [eI9548, pp_self]
      have fr9555 : fz 74 g [50] I I9548 := by rw [eI9548]; exact fzx_pp hy fr9541 (by decide) (by decide)
      clear eI9548
      refine WP_aload_n dX6_load_108 rfl ?_
      refine WP_iload dX6_load_109 rfl ?_
      refine WQ_iconst (-1) (-1) dX6_load_111 rfl rfl (fun v9556 hv9556 => ?_)
      refine WQ_icmp_ne 119 dX6_load_112 rfl (fun c9556 => ?_) (fun c9556 => ?_)
      · refine WP_aload_n dX6_load_119 rfl ?_
        refine WP_getr dX6_load_120 fX6_45 rfl (lyx_is hy 5 0 rfl) (rfx hr 5 1 22 (by decide)) ?_
        refine WP_iload dX6_load_123 rfl ?_
        refine WQ_bipush (7) (7) dX6_load_125 rfl rfl (fun v9558 hv9558 => ?_)
        refine WQ_imulk (7) dX6_load_127 hv9558 (by omega) (by omega) (fun v9559 hv9559 => ?_)
        refine WP_iload_n dX6_load_128 rfl ?_
        refine WQ_iadd dX6_load_129 (by omega) (by omega) (fun v9560 hv9560 => ?_)
        refine WQ_ialdb dX6_load_130 (lyx_is hy 22 13 rfl) (lyx_n hy 22 21 rfl) (by omega) (by omega) (fun q hq => BT_get hI9548.1 22 0 21 (0) (0) (20) (by decide) q (Nat.zero_le _) hq) (fun v9561 av9561 bv9561 zv9561 => ?_)
        have yv9561 : I (ad g 22) (7 * v9514.toInt + da.toInt).toNat = v9561 := by rw [← fz_at fr9555 22 (by decide) (by decide), show (7 * v9514.toInt + da.toInt).toNat = v9560.toInt.toNat by omega]; exact zv9561
        refine WQ_puti dX6_load_131 fX6_51 rfl rfl (lyx_is hy 50 6 rfl) (fun I9562 eI9562 => ?_)
        have hI9562 : XI g n L I9562 := by rw [eI9562]; exact (xi_f hy hI9548 (c := 50) (0) (0) (20) (by decide) (Or.inl (by decide)) (by decide) (by omega) (by omega))
        have e9563 : I9562 (ad g 1) 1 = L := by rw [eI9562, pp_ne _ _ (Or.inl (lyx_ne hy (by decide) (by decide) (by decide)))]; exact e9549
        have e9564 : I9562 (ad g 6) 4 = v9514 := by rw [eI9562, pp_ne _ _ (Or.inl (lyx_ne hy (by decide) (by decide) (by decide)))]; exact e9550
        have e9565 : I9562 (ad g 50) 0 = v9521 := by rw [eI9562, pp_ne _ _ (Or.inr (by decide))]; exact e9551
        have e9566 : I9562 (ad g 50) 1 = v9527 := by rw [eI9562, pp_ne _ _ (Or.inr (by decide))]; exact e9552
        have e9567 : I9562 (ad g 50) 2 = v9534 := by rw [eI9562, pp_ne _ _ (Or.inr (by decide))]; exact e9553
        have e9568 : I9562 (ad g 50) 3 = v9547 := by rw [eI9562, pp_ne _ _ (Or.inr (by decide))]; exact e9554
        have e9569 : I9562 (ad g 50) 4 = v9561 := by rw [eI9562, pp_self]
        have fr9570 : fz 74 g [50] I I9562 := by rw [eI9562]; exact fzx_pp hy fr9555 (by decide) (by decide)
        clear eI9562
        refine WP_aload_n dX6_load_134 rfl ?_
        refine WP_iload dX6_load_135 rfl ?_
        refine WQ_if_eq 144 dX6_load_137 rfl (fun c9570 => ?_) (fun c9570 => False.elim (by omega))
        refine WP_aload_n dX6_load_144 rfl ?_
        refine WQ_getim dX6_load_145 fX6_36 rfl (lyx_is hy 50 6 rfl) e9566 ?_
        refine WQ_puti dX6_load_148 fX6_54 rfl rfl (lyx_is hy 50 6 rfl) (fun I9572 eI9572 => ?_)
        have hI9572 : XI g n L I9572 := by rw [eI9572]; exact (xi_f hy hI9562 (c := 50) (0) (0) (3) (by decide) (Or.inl (by decide)) (by decide) (by omega) (by omega))
        have e9573 : I9572 (ad g 1) 1 = L := by rw [eI9572, pp_ne _ _ (Or.inl (lyx_ne hy (by decide) (by decide) (by decide)))]; exact e9563
        have e9574 : I9572 (ad g 6) 4 = v9514 := by rw [eI9572, pp_ne _ _ (Or.inl (lyx_ne hy (by decide) (by decide) (by decide)))]; exact e9564
        have e9575 : I9572 (ad g 50) 0 = v9521 := by rw [eI9572, pp_ne _ _ (Or.inr (by decide))]; exact e9565
        have e9576 : I9572 (ad g 50) 1 = v9527 := by rw [eI9572, pp_ne _ _ (Or.inr (by decide))]; exact e9566
        have e9577 : I9572 (ad g 50) 2 = v9534 := by rw [eI9572, pp_ne _ _ (Or.inr (by decide))]; exact e9567
        have e9578 : I9572 (ad g 50) 3 = v9547 := by rw [eI9572, pp_ne _ _ (Or.inr (by decide))]; exact e9568
        have e9579 : I9572 (ad g 50) 4 = v9561 := by rw [eI9572, pp_ne _ _ (Or.inr (by decide))]; exact e9569
        have e9580 : I9572 (ad g 50) 5 = v9527 := by rw [eI9572, pp_self]
        have fr9581 : fz 74 g [50] I I9572 := by rw [eI9572]; exact fzx_pp hy fr9570 (by decide) (by decide)
        clear eI9572
        refine WP_aload_n dX6_load_151 rfl ?_
        refine WP_iload dX6_load_152 rfl ?_
        refine WQ_if_ne 163 dX6_load_154 rfl (fun c9581 => False.elim (by omega)) (fun c9581 => ?_)
        refine WP_iload dX6_load_157 rfl ?_
        refine WQ_iconst (-1) (-1) dX6_load_159 rfl rfl (fun v9583 hv9583 => ?_)
        refine WQ_icmp_ne 167 dX6_load_160 rfl (fun c9583 => ?_) (fun c9583 => False.elim (by omega))
        refine WQ_iconst (2) (2) dX6_load_167 rfl rfl (fun v9585 hv9585 => ?_)
        refine WQ_puti dX6_load_168 fX6_57 rfl rfl (lyx_is hy 50 6 rfl) (fun I9586 eI9586 => ?_)
        have hI9586 : XI g n L I9586 := by rw [eI9586]; exact (xi_f hy hI9572 (c := 50) (0) (0) (2) (by decide) (Or.inl (by decide)) (by decide) (by omega) (by omega))
        have e9587 : I9586 (ad g 1) 1 = L := by rw [eI9586, pp_ne _ _ (Or.inl (lyx_ne hy (by decide) (by decide) (by decide)))]; exact e9573
        have e9588 : I9586 (ad g 6) 4 = v9514 := by rw [eI9586, pp_ne _ _ (Or.inl (lyx_ne hy (by decide) (by decide) (by decide)))]; exact e9574
        have e9589 : I9586 (ad g 50) 0 = v9521 := by rw [eI9586, pp_ne _ _ (Or.inr (by decide))]; exact e9575
        have e9590 : I9586 (ad g 50) 1 = v9527 := by rw [eI9586, pp_ne _ _ (Or.inr (by decide))]; exact e9576
        have e9591 : I9586 (ad g 50) 2 = v9534 := by rw [eI9586, pp_ne _ _ (Or.inr (by decide))]; exact e9577
        have e9592 : I9586 (ad g 50) 3 = v9547 := by rw [eI9586, pp_ne _ _ (Or.inr (by decide))]; exact e9578
        have e9593 : I9586 (ad g 50) 4 = v9561 := by rw [eI9586, pp_ne _ _ (Or.inr (by decide))]; exact e9579
        have e9594 : I9586 (ad g 50) 5 = v9527 := by rw [eI9586, pp_ne _ _ (Or.inr (by decide))]; exact e9580
        have e9595 : I9586 (ad g 50) 6 = v9585 := by rw [eI9586, pp_self]
        have fr9596 : fz 74 g [50] I I9586 := by rw [eI9586]; exact fzx_pp hy fr9581 (by decide) (by decide)
        clear eI9586
        refine WP_aload_n dX6_load_171 rfl ?_
        refine WP_aload_n dX6_load_172 rfl ?_
        refine WQ_getim dX6_load_173 fX6_9 rfl (lyx_is hy 50 6 rfl) e9589 ?_
        refine WQ_iconst (-1) (-1) dX6_load_176 rfl rfl (fun v9597 hv9597 => ?_)
        refine WQ_icmp_eq 193 dX6_load_177 rfl (fun c9597 => False.elim (by omega)) (fun c9597 => ?_)
        refine WP_aload_n dX6_load_180 rfl ?_
        refine WQ_getim dX6_load_181 fX6_9 rfl (lyx_is hy 50 6 rfl) e9589 ?_
        refine WP_iload dX6_load_184 rfl ?_
        refine WQ_icmp_ne 193 dX6_load_186 rfl (fun c9598 => ?_) (fun c9598 => ?_)
        · refine WQ_iconst (0) (0) dX6_load_193 rfl rfl (fun v9600 hv9600 => ?_)
          refine WQ_putz dX6_load_194 fX6_60 rfl rfl (by omega) (lyx_is hy 50 6 rfl) (fun I9601 eI9601 => ?_)
          have hI9601 : XI g n L I9601 := by rw [eI9601]; exact (xi_f hy hI9586 (c := 50) (0) (0) (1) (by decide) (Or.inl (by decide)) (by decide) (by omega) (by omega))
          have e9602 : I9601 (ad g 1) 1 = L := by rw [eI9601, pp_ne _ _ (Or.inl (lyx_ne hy (by decide) (by decide) (by decide)))]; exact e9587
          have e9603 : I9601 (ad g 6) 4 = v9514 := by rw [eI9601, pp_ne _ _ (Or.inl (lyx_ne hy (by decide) (by decide) (by decide)))]; exact e9588
          have e9604 : I9601 (ad g 50) 0 = v9521 := by rw [eI9601, pp_ne _ _ (Or.inr (by decide))]; exact e9589
          have e9605 : I9601 (ad g 50) 1 = v9527 := by rw [eI9601, pp_ne _ _ (Or.inr (by decide))]; exact e9590
          have e9606 : I9601 (ad g 50) 2 = v9534 := by rw [eI9601, pp_ne _ _ (Or.inr (by decide))]; exact e9591
          have e9607 : I9601 (ad g 50) 3 = v9547 := by rw [eI9601, pp_ne _ _ (Or.inr (by decide))]; exact e9592
          have e9608 : I9601 (ad g 50) 4 = v9561 := by rw [eI9601, pp_ne _ _ (Or.inr (by decide))]; exact e9593
          have e9609 : I9601 (ad g 50) 5 = v9527 := by rw [eI9601, pp_ne _ _ (Or.inr (by decide))]; exact e9594
          have e9610 : I9601 (ad g 50) 6 = v9585 := by rw [eI9601, pp_ne _ _ (Or.inr (by decide))]; exact e9595
          have e9611 : I9601 (ad g 50) 7 = v9600 := by rw [eI9601, pp_self]
          have fr9612 : fz 74 g [50] I I9601 := by rw [eI9601]; exact fzx_pp hy fr9596 (by decide) (by decide)
          clear eI9601
          refine WP_aload_n dX6_load_197 rfl ?_
          refine WP_aload_n dX6_load_198 rfl ?_
          refine WP_getr dX6_load_199 fX6_64 rfl (lyx_is hy 5 0 rfl) (rfx hr 5 2 23 (by decide)) ?_
          refine WP_iload_n dX6_load_202 rfl ?_
          refine WQ_iald dX6_load_203 (lyx_is hy 23 13 rfl) (lyx_n hy 23 7 rfl) (by omega) (by omega) (fun q hq => BT_get hI9601.1 23 0 7 (0) (0) (900) (by decide) q (Nat.zero_le _) hq) (fun v9613 av9613 bv9613 ev9613 => ?_)
          clear ev9613
          refine WQ_if_le 211 dX6_load_204 rfl (fun c9613 => ?_) (fun c9613 => ?_)
          · refine WQ_iconst (0) (0) dX6_load_211 rfl rfl (fun v9615 hv9615 => ?_)
            refine WQ_putz dX6_load_212 fX6_67 rfl rfl (by omega) (lyx_is hy 50 6 rfl) (fun I9616 eI9616 => ?_)
            have hI9616 : XI g n L I9616 := by rw [eI9616]; exact (xi_f hy hI9601 (c := 50) (0) (0) (1) (by decide) (Or.inl (by decide)) (by decide) (by omega) (by omega))
            have e9617 : I9616 (ad g 1) 1 = L := by rw [eI9616, pp_ne _ _ (Or.inl (lyx_ne hy (by decide) (by decide) (by decide)))]; exact e9602
            have e9618 : I9616 (ad g 6) 4 = v9514 := by rw [eI9616, pp_ne _ _ (Or.inl (lyx_ne hy (by decide) (by decide) (by decide)))]; exact e9603
            have e9619 : I9616 (ad g 50) 0 = v9521 := by rw [eI9616, pp_ne _ _ (Or.inr (by decide))]; exact e9604
            have e9620 : I9616 (ad g 50) 1 = v9527 := by rw [eI9616, pp_ne _ _ (Or.inr (by decide))]; exact e9605
            have e9621 : I9616 (ad g 50) 2 = v9534 := by rw [eI9616, pp_ne _ _ (Or.inr (by decide))]; exact e9606
            have e9622 : I9616 (ad g 50) 3 = v9547 := by rw [eI9616, pp_ne _ _ (Or.inr (by decide))]; exact e9607
            have e9623 : I9616 (ad g 50) 4 = v9561 := by rw [eI9616, pp_ne _ _ (Or.inr (by decide))]; exact e9608
            have e9624 : I9616 (ad g 50) 5 = v9527 := by rw [eI9616, pp_ne _ _ (Or.inr (by decide))]; exact e9609
            have e9625 : I9616 (ad g 50) 6 = v9585 := by rw [eI9616, pp_ne _ _ (Or.inr (by decide))]; exact e9610
            have e9626 : I9616 (ad g 50) 7 = v9600 := by rw [eI9616, pp_ne _ _ (Or.inr (by decide))]; exact e9611
            have e9627 : I9616 (ad g 50) 8 = v9615 := by rw [eI9616, pp_self]
            have fr9628 : fz 74 g [50] I I9616 := by rw [eI9616]; exact fzx_pp hy fr9612 (by decide) (by decide)
            clear eI9616
            exact WP_vret dX6_load_215 rfl ⟨⟨hI9616, rfl, fr9628, rfl, (by
                  have yill : I (ad g (6 + 5)) so.toInt.toNat >>> (nI da.toInt.toNat &&& 31) &&& 1 = v9518 := by rw [show I (ad g (6 + 5)) so.toInt.toNat = v9515 from yv9515, show nI da.toInt.toNat = da from (eq32 _ _).mpr (by rw [nI_toInt (by omega)]; omega), xv9518, xv9516, (eq32 v9517 1).mpr hv9517]
                  have yst : I (ad g 6) 4 = v9514 := est
                  unfold LD
                  simp only [e9619, e9620, e9621, e9622, e9623, e9624, e9625, e9626, yill, yst, show I (ad g (6 + 7)) _ = _ from yv9521, show I (ad g (6 + 8)) _ = _ from yv9527, show I (ad g (6 + 9)) _ = _ from yv9534, yv9547, yv9561, true_and, and_true]
                  omega)⟩, rfl⟩
          · refine WQ_iconst (1) (1) dX6_load_207 rfl rfl (fun v9629 hv9629 => ?_)
            refine WP_goto 212 dX6_load_208 rfl ?_
            refine WQ_putz dX6_load_212 fX6_67 rfl rfl (by omega) (lyx_is hy 50 6 rfl) (fun I9630 eI9630 => ?_)
            have hI9630 : XI g n L I9630 := by rw [eI9630]; exact (xi_f hy hI9601 (c := 50) (0) (0) (1) (by decide) (Or.inl (by decide)) (by decide) (by omega) (by omega))
            have e9631 : I9630 (ad g 1) 1 = L := by rw [eI9630, pp_ne _ _ (Or.inl (lyx_ne hy (by decide) (by decide) (by decide)))]; exact e9602
            have e9632 : I9630 (ad g 6) 4 = v9514 := by rw [eI9630, pp_ne _ _ (Or.inl (lyx_ne hy (by decide) (by decide) (by decide)))]; exact e9603
            have e9633 : I9630 (ad g 50) 0 = v9521 := by rw [eI9630, pp_ne _ _ (Or.inr (by decide))]; exact e9604
            have e9634 : I9630 (ad g 50) 1 = v9527 := by rw [eI9630, pp_ne _ _ (Or.inr (by decide))]; exact e9605
            have e9635 : I9630 (ad g 50) 2 = v9534 := by rw [eI9630, pp_ne _ _ (Or.inr (by decide))]; exact e9606
            have e9636 : I9630 (ad g 50) 3 = v9547 := by rw [eI9630, pp_ne _ _ (Or.inr (by decide))]; exact e9607
            have e9637 : I9630 (ad g 50) 4 = v9561 := by rw [eI9630, pp_ne _ _ (Or.inr (by decide))]; exact e9608
            have e9638 : I9630 (ad g 50) 5 = v9527 := by rw [eI9630, pp_ne _ _ (Or.inr (by decide))]; exact e9609
            have e9639 : I9630 (ad g 50) 6 = v9585 := by rw [eI9630, pp_ne _ _ (Or.inr (by decide))]; exact e9610
            have e9640 : I9630 (ad g 50) 7 = v9600 := by rw [eI9630, pp_ne _ _ (Or.inr (by decide))]; exact e9611
            have e9641 : I9630 (ad g 50) 8 = v9629 := by rw [eI9630, pp_self]
            have fr9642 : fz 74 g [50] I I9630 := by rw [eI9630]; exact fzx_pp hy fr9612 (by decide) (by decide)
            clear eI9630
            exact WP_vret dX6_load_215 rfl ⟨⟨hI9630, rfl, fr9642, rfl, (by
                  have yill : I (ad g (6 + 5)) so.toInt.toNat >>> (nI da.toInt.toNat &&& 31) &&& 1 = v9518 := by rw [show I (ad g (6 + 5)) so.toInt.toNat = v9515 from yv9515, show nI da.toInt.toNat = da from (eq32 _ _).mpr (by rw [nI_toInt (by omega)]; omega), xv9518, xv9516, (eq32 v9517 1).mpr hv9517]
                  have yst : I (ad g 6) 4 = v9514 := est
                  unfold LD
                  simp only [e9633, e9634, e9635, e9636, e9637, e9638, e9639, e9640, yill, yst, show I (ad g (6 + 7)) _ = _ from yv9521, show I (ad g (6 + 8)) _ = _ from yv9527, show I (ad g (6 + 9)) _ = _ from yv9534, yv9547, yv9561, true_and, and_true]
                  omega)⟩, rfl⟩
        · refine WQ_iconst (1) (1) dX6_load_189 rfl rfl (fun v9643 hv9643 => ?_)
          refine WP_goto 194 dX6_load_190 rfl ?_
          refine WQ_putz dX6_load_194 fX6_60 rfl rfl (by omega) (lyx_is hy 50 6 rfl) (fun I9644 eI9644 => ?_)
          have hI9644 : XI g n L I9644 := by rw [eI9644]; exact (xi_f hy hI9586 (c := 50) (0) (0) (1) (by decide) (Or.inl (by decide)) (by decide) (by omega) (by omega))
          have e9645 : I9644 (ad g 1) 1 = L := by rw [eI9644, pp_ne _ _ (Or.inl (lyx_ne hy (by decide) (by decide) (by decide)))]; exact e9587
          have e9646 : I9644 (ad g 6) 4 = v9514 := by rw [eI9644, pp_ne _ _ (Or.inl (lyx_ne hy (by decide) (by decide) (by decide)))]; exact e9588
          have e9647 : I9644 (ad g 50) 0 = v9521 := by rw [eI9644, pp_ne _ _ (Or.inr (by decide))]; exact e9589
          have e9648 : I9644 (ad g 50) 1 = v9527 := by rw [eI9644, pp_ne _ _ (Or.inr (by decide))]; exact e9590
          have e9649 : I9644 (ad g 50) 2 = v9534 := by rw [eI9644, pp_ne _ _ (Or.inr (by decide))]; exact e9591
          have e9650 : I9644 (ad g 50) 3 = v9547 := by rw [eI9644, pp_ne _ _ (Or.inr (by decide))]; exact e9592
          have e9651 : I9644 (ad g 50) 4 = v9561 := by rw [eI9644, pp_ne _ _ (Or.inr (by decide))]; exact e9593
          have e9652 : I9644 (ad g 50) 5 = v9527 := by rw [eI9644, pp_ne _ _ (Or.inr (by decide))]; exact e9594
          have e9653 : I9644 (ad g 50) 6 = v9585 := by rw [eI9644, pp_ne _ _ (Or.inr (by decide))]; exact e9595
          have e9654 : I9644 (ad g 50) 7 = v9643 := by rw [eI9644, pp_self]
          have fr9655 : fz 74 g [50] I I9644 := by rw [eI9644]; exact fzx_pp hy fr9596 (by decide) (by decide)
          clear eI9644
          refine WP_aload_n dX6_load_197 rfl ?_
          refine WP_aload_n dX6_load_198 rfl ?_
          refine WP_getr dX6_load_199 fX6_64 rfl (lyx_is hy 5 0 rfl) (rfx hr 5 2 23 (by decide)) ?_
          refine WP_iload_n dX6_load_202 rfl ?_
          refine WQ_iald dX6_load_203 (lyx_is hy 23 13 rfl) (lyx_n hy 23 7 rfl) (by omega) (by omega) (fun q hq => BT_get hI9644.1 23 0 7 (0) (0) (900) (by decide) q (Nat.zero_le _) hq) (fun v9656 av9656 bv9656 ev9656 => ?_)
          clear ev9656
          refine WQ_if_le 211 dX6_load_204 rfl (fun c9656 => ?_) (fun c9656 => ?_)
          · refine WQ_iconst (0) (0) dX6_load_211 rfl rfl (fun v9658 hv9658 => ?_)
            refine WQ_putz dX6_load_212 fX6_67 rfl rfl (by omega) (lyx_is hy 50 6 rfl) (fun I9659 eI9659 => ?_)
            have hI9659 : XI g n L I9659 := by rw [eI9659]; exact (xi_f hy hI9644 (c := 50) (0) (0) (1) (by decide) (Or.inl (by decide)) (by decide) (by omega) (by omega))
            have e9660 : I9659 (ad g 1) 1 = L := by rw [eI9659, pp_ne _ _ (Or.inl (lyx_ne hy (by decide) (by decide) (by decide)))]; exact e9645
            have e9661 : I9659 (ad g 6) 4 = v9514 := by rw [eI9659, pp_ne _ _ (Or.inl (lyx_ne hy (by decide) (by decide) (by decide)))]; exact e9646
            have e9662 : I9659 (ad g 50) 0 = v9521 := by rw [eI9659, pp_ne _ _ (Or.inr (by decide))]; exact e9647
            have e9663 : I9659 (ad g 50) 1 = v9527 := by rw [eI9659, pp_ne _ _ (Or.inr (by decide))]; exact e9648
            have e9664 : I9659 (ad g 50) 2 = v9534 := by rw [eI9659, pp_ne _ _ (Or.inr (by decide))]; exact e9649
            have e9665 : I9659 (ad g 50) 3 = v9547 := by rw [eI9659, pp_ne _ _ (Or.inr (by decide))]; exact e9650
            have e9666 : I9659 (ad g 50) 4 = v9561 := by rw [eI9659, pp_ne _ _ (Or.inr (by decide))]; exact e9651
            have e9667 : I9659 (ad g 50) 5 = v9527 := by rw [eI9659, pp_ne _ _ (Or.inr (by decide))]; exact e9652
            have e9668 : I9659 (ad g 50) 6 = v9585 := by rw [eI9659, pp_ne _ _ (Or.inr (by decide))]; exact e9653
            have e9669 : I9659 (ad g 50) 7 = v9643 := by rw [eI9659, pp_ne _ _ (Or.inr (by decide))]; exact e9654
            have e9670 : I9659 (ad g 50) 8 = v9658 := by rw [eI9659, pp_self]
            have fr9671 : fz 74 g [50] I I9659 := by rw [eI9659]; exact fzx_pp hy fr9655 (by decide) (by decide)
            clear eI9659
            exact WP_vret dX6_load_215 rfl ⟨⟨hI9659, rfl, fr9671, rfl, (by
                  have yill : I (ad g (6 + 5)) so.toInt.toNat >>> (nI da.toInt.toNat &&& 31) &&& 1 = v9518 := by rw [show I (ad g (6 + 5)) so.toInt.toNat = v9515 from yv9515, show nI da.toInt.toNat = da from (eq32 _ _).mpr (by rw [nI_toInt (by omega)]; omega), xv9518, xv9516, (eq32 v9517 1).mpr hv9517]
                  have yst : I (ad g 6) 4 = v9514 := est
                  unfold LD
                  simp only [e9662, e9663, e9664, e9665, e9666, e9667, e9668, e9669, yill, yst, show I (ad g (6 + 7)) _ = _ from yv9521, show I (ad g (6 + 8)) _ = _ from yv9527, show I (ad g (6 + 9)) _ = _ from yv9534, yv9547, yv9561, true_and, and_true]
                  omega)⟩, rfl⟩
          · refine WQ_iconst (1) (1) dX6_load_207 rfl rfl (fun v9672 hv9672 => ?_)
            refine WP_goto 212 dX6_load_208 rfl ?_
            refine WQ_putz dX6_load_212 fX6_67 rfl rfl (by omega) (lyx_is hy 50 6 rfl) (fun I9673 eI9673 => ?_)
            have hI9673 : XI g n L I9673 := by rw [eI9673]; exact (xi_f hy hI9644 (c := 50) (0) (0) (1) (by decide) (Or.inl (by decide)) (by decide) (by omega) (by omega))
            have e9674 : I9673 (ad g 1) 1 = L := by rw [eI9673, pp_ne _ _ (Or.inl (lyx_ne hy (by decide) (by decide) (by decide)))]; exact e9645
            have e9675 : I9673 (ad g 6) 4 = v9514 := by rw [eI9673, pp_ne _ _ (Or.inl (lyx_ne hy (by decide) (by decide) (by decide)))]; exact e9646
            have e9676 : I9673 (ad g 50) 0 = v9521 := by rw [eI9673, pp_ne _ _ (Or.inr (by decide))]; exact e9647
            have e9677 : I9673 (ad g 50) 1 = v9527 := by rw [eI9673, pp_ne _ _ (Or.inr (by decide))]; exact e9648
            have e9678 : I9673 (ad g 50) 2 = v9534 := by rw [eI9673, pp_ne _ _ (Or.inr (by decide))]; exact e9649
            have e9679 : I9673 (ad g 50) 3 = v9547 := by rw [eI9673, pp_ne _ _ (Or.inr (by decide))]; exact e9650
            have e9680 : I9673 (ad g 50) 4 = v9561 := by rw [eI9673, pp_ne _ _ (Or.inr (by decide))]; exact e9651
            have e9681 : I9673 (ad g 50) 5 = v9527 := by rw [eI9673, pp_ne _ _ (Or.inr (by decide))]; exact e9652
            have e9682 : I9673 (ad g 50) 6 = v9585 := by rw [eI9673, pp_ne _ _ (Or.inr (by decide))]; exact e9653
            have e9683 : I9673 (ad g 50) 7 = v9643 := by rw [eI9673, pp_ne _ _ (Or.inr (by decide))]; exact e9654
            have e9684 : I9673 (ad g 50) 8 = v9672 := by rw [eI9673, pp_self]
            have fr9685 : fz 74 g [50] I I9673 := by rw [eI9673]; exact fzx_pp hy fr9655 (by decide) (by decide)
            clear eI9673
            exact WP_vret dX6_load_215 rfl ⟨⟨hI9673, rfl, fr9685, rfl, (by
                  have yill : I (ad g (6 + 5)) so.toInt.toNat >>> (nI da.toInt.toNat &&& 31) &&& 1 = v9518 := by rw [show I (ad g (6 + 5)) so.toInt.toNat = v9515 from yv9515, show nI da.toInt.toNat = da from (eq32 _ _).mpr (by rw [nI_toInt (by omega)]; omega), xv9518, xv9516, (eq32 v9517 1).mpr hv9517]
                  have yst : I (ad g 6) 4 = v9514 := est
                  unfold LD
                  simp only [e9676, e9677, e9678, e9679, e9680, e9681, e9682, e9683, yill, yst, show I (ad g (6 + 7)) _ = _ from yv9521, show I (ad g (6 + 8)) _ = _ from yv9527, show I (ad g (6 + 9)) _ = _ from yv9534, yv9547, yv9561, true_and, and_true]
                  omega)⟩, rfl⟩
      · refine WQ_iconst (0) (0) dX6_load_115 rfl rfl (fun v9686 hv9686 => ?_)
        refine WP_goto 131 dX6_load_116 rfl ?_
        refine WQ_puti dX6_load_131 fX6_51 rfl rfl (lyx_is hy 50 6 rfl) (fun I9687 eI9687 => ?_)
        have hI9687 : XI g n L I9687 := by rw [eI9687]; exact (xi_f hy hI9548 (c := 50) (0) (0) (20) (by decide) (Or.inl (by decide)) (by decide) (by omega) (by omega))
        have e9688 : I9687 (ad g 1) 1 = L := by rw [eI9687, pp_ne _ _ (Or.inl (lyx_ne hy (by decide) (by decide) (by decide)))]; exact e9549
        have e9689 : I9687 (ad g 6) 4 = v9514 := by rw [eI9687, pp_ne _ _ (Or.inl (lyx_ne hy (by decide) (by decide) (by decide)))]; exact e9550
        have e9690 : I9687 (ad g 50) 0 = v9521 := by rw [eI9687, pp_ne _ _ (Or.inr (by decide))]; exact e9551
        have e9691 : I9687 (ad g 50) 1 = v9527 := by rw [eI9687, pp_ne _ _ (Or.inr (by decide))]; exact e9552
        have e9692 : I9687 (ad g 50) 2 = v9534 := by rw [eI9687, pp_ne _ _ (Or.inr (by decide))]; exact e9553
        have e9693 : I9687 (ad g 50) 3 = v9547 := by rw [eI9687, pp_ne _ _ (Or.inr (by decide))]; exact e9554
        have e9694 : I9687 (ad g 50) 4 = v9686 := by rw [eI9687, pp_self]
        have fr9695 : fz 74 g [50] I I9687 := by rw [eI9687]; exact fzx_pp hy fr9555 (by decide) (by decide)
        clear eI9687
        refine WP_aload_n dX6_load_134 rfl ?_
        refine WP_iload dX6_load_135 rfl ?_
        refine WQ_if_eq 144 dX6_load_137 rfl (fun c9695 => ?_) (fun c9695 => False.elim (by omega))
        refine WP_aload_n dX6_load_144 rfl ?_
        refine WQ_getim dX6_load_145 fX6_36 rfl (lyx_is hy 50 6 rfl) e9691 ?_
        refine WQ_puti dX6_load_148 fX6_54 rfl rfl (lyx_is hy 50 6 rfl) (fun I9697 eI9697 => ?_)
        have hI9697 : XI g n L I9697 := by rw [eI9697]; exact (xi_f hy hI9687 (c := 50) (0) (0) (3) (by decide) (Or.inl (by decide)) (by decide) (by omega) (by omega))
        have e9698 : I9697 (ad g 1) 1 = L := by rw [eI9697, pp_ne _ _ (Or.inl (lyx_ne hy (by decide) (by decide) (by decide)))]; exact e9688
        have e9699 : I9697 (ad g 6) 4 = v9514 := by rw [eI9697, pp_ne _ _ (Or.inl (lyx_ne hy (by decide) (by decide) (by decide)))]; exact e9689
        have e9700 : I9697 (ad g 50) 0 = v9521 := by rw [eI9697, pp_ne _ _ (Or.inr (by decide))]; exact e9690
        have e9701 : I9697 (ad g 50) 1 = v9527 := by rw [eI9697, pp_ne _ _ (Or.inr (by decide))]; exact e9691
        have e9702 : I9697 (ad g 50) 2 = v9534 := by rw [eI9697, pp_ne _ _ (Or.inr (by decide))]; exact e9692
        have e9703 : I9697 (ad g 50) 3 = v9547 := by rw [eI9697, pp_ne _ _ (Or.inr (by decide))]; exact e9693
        have e9704 : I9697 (ad g 50) 4 = v9686 := by rw [eI9697, pp_ne _ _ (Or.inr (by decide))]; exact e9694
        have e9705 : I9697 (ad g 50) 5 = v9527 := by rw [eI9697, pp_self]
        have fr9706 : fz 74 g [50] I I9697 := by rw [eI9697]; exact fzx_pp hy fr9695 (by decide) (by decide)
        clear eI9697
        refine WP_aload_n dX6_load_151 rfl ?_
        refine WP_iload dX6_load_152 rfl ?_
        refine WQ_if_ne 163 dX6_load_154 rfl (fun c9706 => False.elim (by omega)) (fun c9706 => ?_)
        refine WP_iload dX6_load_157 rfl ?_
        refine WQ_iconst (-1) (-1) dX6_load_159 rfl rfl (fun v9708 hv9708 => ?_)
        refine WQ_icmp_ne 167 dX6_load_160 rfl (fun c9708 => False.elim (by omega)) (fun c9708 => ?_)
        refine WQ_iconst (0) (0) dX6_load_163 rfl rfl (fun v9710 hv9710 => ?_)
        refine WP_goto 168 dX6_load_164 rfl ?_
        refine WQ_puti dX6_load_168 fX6_57 rfl rfl (lyx_is hy 50 6 rfl) (fun I9711 eI9711 => ?_)
        have hI9711 : XI g n L I9711 := by rw [eI9711]; exact (xi_f hy hI9697 (c := 50) (0) (0) (2) (by decide) (Or.inl (by decide)) (by decide) (by omega) (by omega))
        have e9712 : I9711 (ad g 1) 1 = L := by rw [eI9711, pp_ne _ _ (Or.inl (lyx_ne hy (by decide) (by decide) (by decide)))]; exact e9698
        have e9713 : I9711 (ad g 6) 4 = v9514 := by rw [eI9711, pp_ne _ _ (Or.inl (lyx_ne hy (by decide) (by decide) (by decide)))]; exact e9699
        have e9714 : I9711 (ad g 50) 0 = v9521 := by rw [eI9711, pp_ne _ _ (Or.inr (by decide))]; exact e9700
        have e9715 : I9711 (ad g 50) 1 = v9527 := by rw [eI9711, pp_ne _ _ (Or.inr (by decide))]; exact e9701
        have e9716 : I9711 (ad g 50) 2 = v9534 := by rw [eI9711, pp_ne _ _ (Or.inr (by decide))]; exact e9702
        have e9717 : I9711 (ad g 50) 3 = v9547 := by rw [eI9711, pp_ne _ _ (Or.inr (by decide))]; exact e9703
        have e9718 : I9711 (ad g 50) 4 = v9686 := by rw [eI9711, pp_ne _ _ (Or.inr (by decide))]; exact e9704
        have e9719 : I9711 (ad g 50) 5 = v9527 := by rw [eI9711, pp_ne _ _ (Or.inr (by decide))]; exact e9705
        have e9720 : I9711 (ad g 50) 6 = v9710 := by rw [eI9711, pp_self]
        have fr9721 : fz 74 g [50] I I9711 := by rw [eI9711]; exact fzx_pp hy fr9706 (by decide) (by decide)
        clear eI9711
        refine WP_aload_n dX6_load_171 rfl ?_
        refine WP_aload_n dX6_load_172 rfl ?_
        refine WQ_getim dX6_load_173 fX6_9 rfl (lyx_is hy 50 6 rfl) e9714 ?_
        refine WQ_iconst (-1) (-1) dX6_load_176 rfl rfl (fun v9722 hv9722 => ?_)
        refine WQ_icmp_eq 193 dX6_load_177 rfl (fun c9722 => False.elim (by omega)) (fun c9722 => ?_)
        refine WP_aload_n dX6_load_180 rfl ?_
        refine WQ_getim dX6_load_181 fX6_9 rfl (lyx_is hy 50 6 rfl) e9714 ?_
        refine WP_iload dX6_load_184 rfl ?_
        refine WQ_icmp_ne 193 dX6_load_186 rfl (fun c9723 => ?_) (fun c9723 => False.elim (by omega))
        refine WQ_iconst (0) (0) dX6_load_193 rfl rfl (fun v9725 hv9725 => ?_)
        refine WQ_putz dX6_load_194 fX6_60 rfl rfl (by omega) (lyx_is hy 50 6 rfl) (fun I9726 eI9726 => ?_)
        have hI9726 : XI g n L I9726 := by rw [eI9726]; exact (xi_f hy hI9711 (c := 50) (0) (0) (1) (by decide) (Or.inl (by decide)) (by decide) (by omega) (by omega))
        have e9727 : I9726 (ad g 1) 1 = L := by rw [eI9726, pp_ne _ _ (Or.inl (lyx_ne hy (by decide) (by decide) (by decide)))]; exact e9712
        have e9728 : I9726 (ad g 6) 4 = v9514 := by rw [eI9726, pp_ne _ _ (Or.inl (lyx_ne hy (by decide) (by decide) (by decide)))]; exact e9713
        have e9729 : I9726 (ad g 50) 0 = v9521 := by rw [eI9726, pp_ne _ _ (Or.inr (by decide))]; exact e9714
        have e9730 : I9726 (ad g 50) 1 = v9527 := by rw [eI9726, pp_ne _ _ (Or.inr (by decide))]; exact e9715
        have e9731 : I9726 (ad g 50) 2 = v9534 := by rw [eI9726, pp_ne _ _ (Or.inr (by decide))]; exact e9716
        have e9732 : I9726 (ad g 50) 3 = v9547 := by rw [eI9726, pp_ne _ _ (Or.inr (by decide))]; exact e9717
        have e9733 : I9726 (ad g 50) 4 = v9686 := by rw [eI9726, pp_ne _ _ (Or.inr (by decide))]; exact e9718
        have e9734 : I9726 (ad g 50) 5 = v9527 := by rw [eI9726, pp_ne _ _ (Or.inr (by decide))]; exact e9719
        have e9735 : I9726 (ad g 50) 6 = v9710 := by rw [eI9726, pp_ne _ _ (Or.inr (by decide))]; exact e9720
        have e9736 : I9726 (ad g 50) 7 = v9725 := by rw [eI9726, pp_self]
        have fr9737 : fz 74 g [50] I I9726 := by rw [eI9726]; exact fzx_pp hy fr9721 (by decide) (by decide)
        clear eI9726
        refine WP_aload_n dX6_load_197 rfl ?_
        refine WP_aload_n dX6_load_198 rfl ?_
        refine WP_getr dX6_load_199 fX6_64 rfl (lyx_is hy 5 0 rfl) (rfx hr 5 2 23 (by decide)) ?_
        refine WP_iload_n dX6_load_202 rfl ?_
        refine WQ_iald dX6_load_203 (lyx_is hy 23 13 rfl) (lyx_n hy 23 7 rfl) (by omega) (by omega) (fun q hq => BT_get hI9726.1 23 0 7 (0) (0) (900) (by decide) q (Nat.zero_le _) hq) (fun v9738 av9738 bv9738 ev9738 => ?_)
        clear ev9738
        refine WQ_if_le 211 dX6_load_204 rfl (fun c9738 => ?_) (fun c9738 => ?_)
        · refine WQ_iconst (0) (0) dX6_load_211 rfl rfl (fun v9740 hv9740 => ?_)
          refine WQ_putz dX6_load_212 fX6_67 rfl rfl (by omega) (lyx_is hy 50 6 rfl) (fun I9741 eI9741 => ?_)
          have hI9741 : XI g n L I9741 := by rw [eI9741]; exact (xi_f hy hI9726 (c := 50) (0) (0) (1) (by decide) (Or.inl (by decide)) (by decide) (by omega) (by omega))
          have e9742 : I9741 (ad g 1) 1 = L := by rw [eI9741, pp_ne _ _ (Or.inl (lyx_ne hy (by decide) (by decide) (by decide)))]; exact e9727
          have e9743 : I9741 (ad g 6) 4 = v9514 := by rw [eI9741, pp_ne _ _ (Or.inl (lyx_ne hy (by decide) (by decide) (by decide)))]; exact e9728
          have e9744 : I9741 (ad g 50) 0 = v9521 := by rw [eI9741, pp_ne _ _ (Or.inr (by decide))]; exact e9729
          have e9745 : I9741 (ad g 50) 1 = v9527 := by rw [eI9741, pp_ne _ _ (Or.inr (by decide))]; exact e9730
          have e9746 : I9741 (ad g 50) 2 = v9534 := by rw [eI9741, pp_ne _ _ (Or.inr (by decide))]; exact e9731
          have e9747 : I9741 (ad g 50) 3 = v9547 := by rw [eI9741, pp_ne _ _ (Or.inr (by decide))]; exact e9732
          have e9748 : I9741 (ad g 50) 4 = v9686 := by rw [eI9741, pp_ne _ _ (Or.inr (by decide))]; exact e9733
          have e9749 : I9741 (ad g 50) 5 = v9527 := by rw [eI9741, pp_ne _ _ (Or.inr (by decide))]; exact e9734
          have e9750 : I9741 (ad g 50) 6 = v9710 := by rw [eI9741, pp_ne _ _ (Or.inr (by decide))]; exact e9735
          have e9751 : I9741 (ad g 50) 7 = v9725 := by rw [eI9741, pp_ne _ _ (Or.inr (by decide))]; exact e9736
          have e9752 : I9741 (ad g 50) 8 = v9740 := by rw [eI9741, pp_self]
          have fr9753 : fz 74 g [50] I I9741 := by rw [eI9741]; exact fzx_pp hy fr9737 (by decide) (by decide)
          clear eI9741
          exact WP_vret dX6_load_215 rfl ⟨⟨hI9741, rfl, fr9753, rfl, (by
                have yill : I (ad g (6 + 5)) so.toInt.toNat >>> (nI da.toInt.toNat &&& 31) &&& 1 = v9518 := by rw [show I (ad g (6 + 5)) so.toInt.toNat = v9515 from yv9515, show nI da.toInt.toNat = da from (eq32 _ _).mpr (by rw [nI_toInt (by omega)]; omega), xv9518, xv9516, (eq32 v9517 1).mpr hv9517]
                have yst : I (ad g 6) 4 = v9514 := est
                unfold LD
                simp only [e9744, e9745, e9746, e9747, e9748, e9749, e9750, e9751, yill, yst, show I (ad g (6 + 7)) _ = _ from yv9521, show I (ad g (6 + 8)) _ = _ from yv9527, show I (ad g (6 + 9)) _ = _ from yv9534, yv9547, true_and, and_true]
                omega)⟩, rfl⟩
        · refine WQ_iconst (1) (1) dX6_load_207 rfl rfl (fun v9754 hv9754 => ?_)
          refine WP_goto 212 dX6_load_208 rfl ?_
          refine WQ_putz dX6_load_212 fX6_67 rfl rfl (by omega) (lyx_is hy 50 6 rfl) (fun I9755 eI9755 => ?_)
          have hI9755 : XI g n L I9755 := by rw [eI9755]; exact (xi_f hy hI9726 (c := 50) (0) (0) (1) (by decide) (Or.inl (by decide)) (by decide) (by omega) (by omega))
          have e9756 : I9755 (ad g 1) 1 = L := by rw [eI9755, pp_ne _ _ (Or.inl (lyx_ne hy (by decide) (by decide) (by decide)))]; exact e9727
          have e9757 : I9755 (ad g 6) 4 = v9514 := by rw [eI9755, pp_ne _ _ (Or.inl (lyx_ne hy (by decide) (by decide) (by decide)))]; exact e9728
          have e9758 : I9755 (ad g 50) 0 = v9521 := by rw [eI9755, pp_ne _ _ (Or.inr (by decide))]; exact e9729
          have e9759 : I9755 (ad g 50) 1 = v9527 := by rw [eI9755, pp_ne _ _ (Or.inr (by decide))]; exact e9730
          have e9760 : I9755 (ad g 50) 2 = v9534 := by rw [eI9755, pp_ne _ _ (Or.inr (by decide))]; exact e9731
          have e9761 : I9755 (ad g 50) 3 = v9547 := by rw [eI9755, pp_ne _ _ (Or.inr (by decide))]; exact e9732
          have e9762 : I9755 (ad g 50) 4 = v9686 := by rw [eI9755, pp_ne _ _ (Or.inr (by decide))]; exact e9733
          have e9763 : I9755 (ad g 50) 5 = v9527 := by rw [eI9755, pp_ne _ _ (Or.inr (by decide))]; exact e9734
          have e9764 : I9755 (ad g 50) 6 = v9710 := by rw [eI9755, pp_ne _ _ (Or.inr (by decide))]; exact e9735
          have e9765 : I9755 (ad g 50) 7 = v9725 := by rw [eI9755, pp_ne _ _ (Or.inr (by decide))]; exact e9736
          have e9766 : I9755 (ad g 50) 8 = v9754 := by rw [eI9755, pp_self]
          have fr9767 : fz 74 g [50] I I9755 := by rw [eI9755]; exact fzx_pp hy fr9737 (by decide) (by decide)
          clear eI9755
          exact WP_vret dX6_load_215 rfl ⟨⟨hI9755, rfl, fr9767, rfl, (by
                have yill : I (ad g (6 + 5)) so.toInt.toNat >>> (nI da.toInt.toNat &&& 31) &&& 1 = v9518 := by rw [show I (ad g (6 + 5)) so.toInt.toNat = v9515 from yv9515, show nI da.toInt.toNat = da from (eq32 _ _).mpr (by rw [nI_toInt (by omega)]; omega), xv9518, xv9516, (eq32 v9517 1).mpr hv9517]
                have yst : I (ad g 6) 4 = v9514 := est
                unfold LD
                simp only [e9758, e9759, e9760, e9761, e9762, e9763, e9764, e9765, yill, yst, show I (ad g (6 + 7)) _ = _ from yv9521, show I (ad g (6 + 8)) _ = _ from yv9527, show I (ad g (6 + 9)) _ = _ from yv9534, yv9547, true_and, and_true]
                omega)⟩, rfl⟩
    · refine WQ_iconst (0) (0) dX6_load_87 rfl rfl (fun v9768 hv9768 => ?_)
      refine WP_goto 105 dX6_load_88 rfl ?_
      refine WQ_puti dX6_load_105 fX6_48 rfl rfl (lyx_is hy 50 6 rfl) (fun I9769 eI9769 => ?_)
      have hI9769 : XI g n L I9769 := by rw [eI9769]; exact (xi_f hy hI9535 (c := 50) (0) (0) (20) (by decide) (Or.inl (by decide)) (by decide) (by omega) (by omega))
      have e9770 : I9769 (ad g 1) 1 = L := by rw [eI9769, pp_ne _ _ (Or.inl (lyx_ne hy (by decide) (by decide) (by decide)))]; exact e9536
      have e9771 : I9769 (ad g 6) 4 = v9514 := by rw [eI9769, pp_ne _ _ (Or.inl (lyx_ne hy (by decide) (by decide) (by decide)))]; exact e9537
      have e9772 : I9769 (ad g 50) 0 = v9521 := by rw [eI9769, pp_ne _ _ (Or.inr (by decide))]; exact e9538
      have e9773 : I9769 (ad g 50) 1 = v9527 := by rw [eI9769, pp_ne _ _ (Or.inr (by decide))]; exact e9539
      have e9774 : I9769 (ad g 50) 2 = v9534 := by rw [eI9769, pp_ne _ _ (Or.inr (by decide))]; exact e9540
      have e9775 : I9769 (ad g 50) 3 = v9768 := by rw [eI9769, pp_self]
      have fr9776 : fz 74 g [50] I I9769 := by rw [eI9769]; exact fzx_pp hy fr9541 (by decide) (by decide)
      clear eI9769
      refine WP_aload_n dX6_load_108 rfl ?_
      refine WP_iload dX6_load_109 rfl ?_
      refine WQ_iconst (-1) (-1) dX6_load_111 rfl rfl (fun v9777 hv9777 => ?_)
      refine WQ_icmp_ne 119 dX6_load_112 rfl (fun c9777 => ?_) (fun c9777 => ?_)
      · refine WP_aload_n dX6_load_119 rfl ?_
        refine WP_getr dX6_load_120 fX6_45 rfl (lyx_is hy 5 0 rfl) (rfx hr 5 1 22 (by decide)) ?_
        refine WP_iload dX6_load_123 rfl ?_
        refine WQ_bipush (7) (7) dX6_load_125 rfl rfl (fun v9779 hv9779 => ?_)
        refine WQ_imulk (7) dX6_load_127 hv9779 (by omega) (by omega) (fun v9780 hv9780 => ?_)
        refine WP_iload_n dX6_load_128 rfl ?_
        refine WQ_iadd dX6_load_129 (by omega) (by omega) (fun v9781 hv9781 => ?_)
        refine WQ_ialdb dX6_load_130 (lyx_is hy 22 13 rfl) (lyx_n hy 22 21 rfl) (by omega) (by omega) (fun q hq => BT_get hI9769.1 22 0 21 (0) (0) (20) (by decide) q (Nat.zero_le _) hq) (fun v9782 av9782 bv9782 zv9782 => ?_)
        have yv9782 : I (ad g 22) (7 * v9514.toInt + da.toInt).toNat = v9782 := by rw [← fz_at fr9776 22 (by decide) (by decide), show (7 * v9514.toInt + da.toInt).toNat = v9781.toInt.toNat by omega]; exact zv9782
        refine WQ_puti dX6_load_131 fX6_51 rfl rfl (lyx_is hy 50 6 rfl) (fun I9783 eI9783 => ?_)
        have hI9783 : XI g n L I9783 := by rw [eI9783]; exact (xi_f hy hI9769 (c := 50) (0) (0) (20) (by decide) (Or.inl (by decide)) (by decide) (by omega) (by omega))
        have e9784 : I9783 (ad g 1) 1 = L := by rw [eI9783, pp_ne _ _ (Or.inl (lyx_ne hy (by decide) (by decide) (by decide)))]; exact e9770
        have e9785 : I9783 (ad g 6) 4 = v9514 := by rw [eI9783, pp_ne _ _ (Or.inl (lyx_ne hy (by decide) (by decide) (by decide)))]; exact e9771
        have e9786 : I9783 (ad g 50) 0 = v9521 := by rw [eI9783, pp_ne _ _ (Or.inr (by decide))]; exact e9772
        have e9787 : I9783 (ad g 50) 1 = v9527 := by rw [eI9783, pp_ne _ _ (Or.inr (by decide))]; exact e9773
        have e9788 : I9783 (ad g 50) 2 = v9534 := by rw [eI9783, pp_ne _ _ (Or.inr (by decide))]; exact e9774
        have e9789 : I9783 (ad g 50) 3 = v9768 := by rw [eI9783, pp_ne _ _ (Or.inr (by decide))]; exact e9775
        have e9790 : I9783 (ad g 50) 4 = v9782 := by rw [eI9783, pp_self]
        have fr9791 : fz 74 g [50] I I9783 := by rw [eI9783]; exact fzx_pp hy fr9776 (by decide) (by decide)
        clear eI9783
        refine WP_aload_n dX6_load_134 rfl ?_
        refine WP_iload dX6_load_135 rfl ?_
        refine WQ_if_eq 144 dX6_load_137 rfl (fun c9791 => ?_) (fun c9791 => False.elim (by omega))
        refine WP_aload_n dX6_load_144 rfl ?_
        refine WQ_getim dX6_load_145 fX6_36 rfl (lyx_is hy 50 6 rfl) e9787 ?_
        refine WQ_puti dX6_load_148 fX6_54 rfl rfl (lyx_is hy 50 6 rfl) (fun I9793 eI9793 => ?_)
        have hI9793 : XI g n L I9793 := by rw [eI9793]; exact (xi_f hy hI9783 (c := 50) (0) (0) (3) (by decide) (Or.inl (by decide)) (by decide) (by omega) (by omega))
        have e9794 : I9793 (ad g 1) 1 = L := by rw [eI9793, pp_ne _ _ (Or.inl (lyx_ne hy (by decide) (by decide) (by decide)))]; exact e9784
        have e9795 : I9793 (ad g 6) 4 = v9514 := by rw [eI9793, pp_ne _ _ (Or.inl (lyx_ne hy (by decide) (by decide) (by decide)))]; exact e9785
        have e9796 : I9793 (ad g 50) 0 = v9521 := by rw [eI9793, pp_ne _ _ (Or.inr (by decide))]; exact e9786
        have e9797 : I9793 (ad g 50) 1 = v9527 := by rw [eI9793, pp_ne _ _ (Or.inr (by decide))]; exact e9787
        have e9798 : I9793 (ad g 50) 2 = v9534 := by rw [eI9793, pp_ne _ _ (Or.inr (by decide))]; exact e9788
        have e9799 : I9793 (ad g 50) 3 = v9768 := by rw [eI9793, pp_ne _ _ (Or.inr (by decide))]; exact e9789
        have e9800 : I9793 (ad g 50) 4 = v9782 := by rw [eI9793, pp_ne _ _ (Or.inr (by decide))]; exact e9790
        have e9801 : I9793 (ad g 50) 5 = v9527 := by rw [eI9793, pp_self]
        have fr9802 : fz 74 g [50] I I9793 := by rw [eI9793]; exact fzx_pp hy fr9791 (by decide) (by decide)
        clear eI9793
        refine WP_aload_n dX6_load_151 rfl ?_
        refine WP_iload dX6_load_152 rfl ?_
        refine WQ_if_ne 163 dX6_load_154 rfl (fun c9802 => False.elim (by omega)) (fun c9802 => ?_)
        refine WP_iload dX6_load_157 rfl ?_
        refine WQ_iconst (-1) (-1) dX6_load_159 rfl rfl (fun v9804 hv9804 => ?_)
        refine WQ_icmp_ne 167 dX6_load_160 rfl (fun c9804 => ?_) (fun c9804 => False.elim (by omega))
        refine WQ_iconst (2) (2) dX6_load_167 rfl rfl (fun v9806 hv9806 => ?_)
        refine WQ_puti dX6_load_168 fX6_57 rfl rfl (lyx_is hy 50 6 rfl) (fun I9807 eI9807 => ?_)
        have hI9807 : XI g n L I9807 := by rw [eI9807]; exact (xi_f hy hI9793 (c := 50) (0) (0) (2) (by decide) (Or.inl (by decide)) (by decide) (by omega) (by omega))
        have e9808 : I9807 (ad g 1) 1 = L := by rw [eI9807, pp_ne _ _ (Or.inl (lyx_ne hy (by decide) (by decide) (by decide)))]; exact e9794
        have e9809 : I9807 (ad g 6) 4 = v9514 := by rw [eI9807, pp_ne _ _ (Or.inl (lyx_ne hy (by decide) (by decide) (by decide)))]; exact e9795
        have e9810 : I9807 (ad g 50) 0 = v9521 := by rw [eI9807, pp_ne _ _ (Or.inr (by decide))]; exact e9796
        have e9811 : I9807 (ad g 50) 1 = v9527 := by rw [eI9807, pp_ne _ _ (Or.inr (by decide))]; exact e9797
        have e9812 : I9807 (ad g 50) 2 = v9534 := by rw [eI9807, pp_ne _ _ (Or.inr (by decide))]; exact e9798
        have e9813 : I9807 (ad g 50) 3 = v9768 := by rw [eI9807, pp_ne _ _ (Or.inr (by decide))]; exact e9799
        have e9814 : I9807 (ad g 50) 4 = v9782 := by rw [eI9807, pp_ne _ _ (Or.inr (by decide))]; exact e9800
        have e9815 : I9807 (ad g 50) 5 = v9527 := by rw [eI9807, pp_ne _ _ (Or.inr (by decide))]; exact e9801
        have e9816 : I9807 (ad g 50) 6 = v9806 := by rw [eI9807, pp_self]
        have fr9817 : fz 74 g [50] I I9807 := by rw [eI9807]; exact fzx_pp hy fr9802 (by decide) (by decide)
        clear eI9807
        refine WP_aload_n dX6_load_171 rfl ?_
        refine WP_aload_n dX6_load_172 rfl ?_
        refine WQ_getim dX6_load_173 fX6_9 rfl (lyx_is hy 50 6 rfl) e9810 ?_
        refine WQ_iconst (-1) (-1) dX6_load_176 rfl rfl (fun v9818 hv9818 => ?_)
        refine WQ_icmp_eq 193 dX6_load_177 rfl (fun c9818 => ?_) (fun c9818 => False.elim (by omega))
        refine WQ_iconst (0) (0) dX6_load_193 rfl rfl (fun v9820 hv9820 => ?_)
        refine WQ_putz dX6_load_194 fX6_60 rfl rfl (by omega) (lyx_is hy 50 6 rfl) (fun I9821 eI9821 => ?_)
        have hI9821 : XI g n L I9821 := by rw [eI9821]; exact (xi_f hy hI9807 (c := 50) (0) (0) (1) (by decide) (Or.inl (by decide)) (by decide) (by omega) (by omega))
        have e9822 : I9821 (ad g 1) 1 = L := by rw [eI9821, pp_ne _ _ (Or.inl (lyx_ne hy (by decide) (by decide) (by decide)))]; exact e9808
        have e9823 : I9821 (ad g 6) 4 = v9514 := by rw [eI9821, pp_ne _ _ (Or.inl (lyx_ne hy (by decide) (by decide) (by decide)))]; exact e9809
        have e9824 : I9821 (ad g 50) 0 = v9521 := by rw [eI9821, pp_ne _ _ (Or.inr (by decide))]; exact e9810
        have e9825 : I9821 (ad g 50) 1 = v9527 := by rw [eI9821, pp_ne _ _ (Or.inr (by decide))]; exact e9811
        have e9826 : I9821 (ad g 50) 2 = v9534 := by rw [eI9821, pp_ne _ _ (Or.inr (by decide))]; exact e9812
        have e9827 : I9821 (ad g 50) 3 = v9768 := by rw [eI9821, pp_ne _ _ (Or.inr (by decide))]; exact e9813
        have e9828 : I9821 (ad g 50) 4 = v9782 := by rw [eI9821, pp_ne _ _ (Or.inr (by decide))]; exact e9814
        have e9829 : I9821 (ad g 50) 5 = v9527 := by rw [eI9821, pp_ne _ _ (Or.inr (by decide))]; exact e9815
        have e9830 : I9821 (ad g 50) 6 = v9806 := by rw [eI9821, pp_ne _ _ (Or.inr (by decide))]; exact e9816
        have e9831 : I9821 (ad g 50) 7 = v9820 := by rw [eI9821, pp_self]
        have fr9832 : fz 74 g [50] I I9821 := by rw [eI9821]; exact fzx_pp hy fr9817 (by decide) (by decide)
        clear eI9821
        refine WP_aload_n dX6_load_197 rfl ?_
        refine WP_aload_n dX6_load_198 rfl ?_
        refine WP_getr dX6_load_199 fX6_64 rfl (lyx_is hy 5 0 rfl) (rfx hr 5 2 23 (by decide)) ?_
        refine WP_iload_n dX6_load_202 rfl ?_
        refine WQ_iald dX6_load_203 (lyx_is hy 23 13 rfl) (lyx_n hy 23 7 rfl) (by omega) (by omega) (fun q hq => BT_get hI9821.1 23 0 7 (0) (0) (900) (by decide) q (Nat.zero_le _) hq) (fun v9833 av9833 bv9833 ev9833 => ?_)
        clear ev9833
        refine WQ_if_le 211 dX6_load_204 rfl (fun c9833 => ?_) (fun c9833 => ?_)
        · refine WQ_iconst (0) (0) dX6_load_211 rfl rfl (fun v9835 hv9835 => ?_)
          refine WQ_putz dX6_load_212 fX6_67 rfl rfl (by omega) (lyx_is hy 50 6 rfl) (fun I9836 eI9836 => ?_)
          have hI9836 : XI g n L I9836 := by rw [eI9836]; exact (xi_f hy hI9821 (c := 50) (0) (0) (1) (by decide) (Or.inl (by decide)) (by decide) (by omega) (by omega))
          have e9837 : I9836 (ad g 1) 1 = L := by rw [eI9836, pp_ne _ _ (Or.inl (lyx_ne hy (by decide) (by decide) (by decide)))]; exact e9822
          have e9838 : I9836 (ad g 6) 4 = v9514 := by rw [eI9836, pp_ne _ _ (Or.inl (lyx_ne hy (by decide) (by decide) (by decide)))]; exact e9823
          have e9839 : I9836 (ad g 50) 0 = v9521 := by rw [eI9836, pp_ne _ _ (Or.inr (by decide))]; exact e9824
          have e9840 : I9836 (ad g 50) 1 = v9527 := by rw [eI9836, pp_ne _ _ (Or.inr (by decide))]; exact e9825
          have e9841 : I9836 (ad g 50) 2 = v9534 := by rw [eI9836, pp_ne _ _ (Or.inr (by decide))]; exact e9826
          have e9842 : I9836 (ad g 50) 3 = v9768 := by rw [eI9836, pp_ne _ _ (Or.inr (by decide))]; exact e9827
          have e9843 : I9836 (ad g 50) 4 = v9782 := by rw [eI9836, pp_ne _ _ (Or.inr (by decide))]; exact e9828
          have e9844 : I9836 (ad g 50) 5 = v9527 := by rw [eI9836, pp_ne _ _ (Or.inr (by decide))]; exact e9829
          have e9845 : I9836 (ad g 50) 6 = v9806 := by rw [eI9836, pp_ne _ _ (Or.inr (by decide))]; exact e9830
          have e9846 : I9836 (ad g 50) 7 = v9820 := by rw [eI9836, pp_ne _ _ (Or.inr (by decide))]; exact e9831
          have e9847 : I9836 (ad g 50) 8 = v9835 := by rw [eI9836, pp_self]
          have fr9848 : fz 74 g [50] I I9836 := by rw [eI9836]; exact fzx_pp hy fr9832 (by decide) (by decide)
          clear eI9836
          exact WP_vret dX6_load_215 rfl ⟨⟨hI9836, rfl, fr9848, rfl, (by
                have yill : I (ad g (6 + 5)) so.toInt.toNat >>> (nI da.toInt.toNat &&& 31) &&& 1 = v9518 := by rw [show I (ad g (6 + 5)) so.toInt.toNat = v9515 from yv9515, show nI da.toInt.toNat = da from (eq32 _ _).mpr (by rw [nI_toInt (by omega)]; omega), xv9518, xv9516, (eq32 v9517 1).mpr hv9517]
                have yst : I (ad g 6) 4 = v9514 := est
                unfold LD
                simp only [e9839, e9840, e9841, e9842, e9843, e9844, e9845, e9846, yill, yst, show I (ad g (6 + 7)) _ = _ from yv9521, show I (ad g (6 + 8)) _ = _ from yv9527, show I (ad g (6 + 9)) _ = _ from yv9534, yv9782, true_and, and_true]
                omega)⟩, rfl⟩
        · refine WQ_iconst (1) (1) dX6_load_207 rfl rfl (fun v9849 hv9849 => ?_)
          refine WP_goto 212 dX6_load_208 rfl ?_
          refine WQ_putz dX6_load_212 fX6_67 rfl rfl (by omega) (lyx_is hy 50 6 rfl) (fun I9850 eI9850 => ?_)
          have hI9850 : XI g n L I9850 := by rw [eI9850]; exact (xi_f hy hI9821 (c := 50) (0) (0) (1) (by decide) (Or.inl (by decide)) (by decide) (by omega) (by omega))
          have e9851 : I9850 (ad g 1) 1 = L := by rw [eI9850, pp_ne _ _ (Or.inl (lyx_ne hy (by decide) (by decide) (by decide)))]; exact e9822
          have e9852 : I9850 (ad g 6) 4 = v9514 := by rw [eI9850, pp_ne _ _ (Or.inl (lyx_ne hy (by decide) (by decide) (by decide)))]; exact e9823
          have e9853 : I9850 (ad g 50) 0 = v9521 := by rw [eI9850, pp_ne _ _ (Or.inr (by decide))]; exact e9824
          have e9854 : I9850 (ad g 50) 1 = v9527 := by rw [eI9850, pp_ne _ _ (Or.inr (by decide))]; exact e9825
          have e9855 : I9850 (ad g 50) 2 = v9534 := by rw [eI9850, pp_ne _ _ (Or.inr (by decide))]; exact e9826
          have e9856 : I9850 (ad g 50) 3 = v9768 := by rw [eI9850, pp_ne _ _ (Or.inr (by decide))]; exact e9827
          have e9857 : I9850 (ad g 50) 4 = v9782 := by rw [eI9850, pp_ne _ _ (Or.inr (by decide))]; exact e9828
          have e9858 : I9850 (ad g 50) 5 = v9527 := by rw [eI9850, pp_ne _ _ (Or.inr (by decide))]; exact e9829
          have e9859 : I9850 (ad g 50) 6 = v9806 := by rw [eI9850, pp_ne _ _ (Or.inr (by decide))]; exact e9830
          have e9860 : I9850 (ad g 50) 7 = v9820 := by rw [eI9850, pp_ne _ _ (Or.inr (by decide))]; exact e9831
          have e9861 : I9850 (ad g 50) 8 = v9849 := by rw [eI9850, pp_self]
          have fr9862 : fz 74 g [50] I I9850 := by rw [eI9850]; exact fzx_pp hy fr9832 (by decide) (by decide)
          clear eI9850
          exact WP_vret dX6_load_215 rfl ⟨⟨hI9850, rfl, fr9862, rfl, (by
                have yill : I (ad g (6 + 5)) so.toInt.toNat >>> (nI da.toInt.toNat &&& 31) &&& 1 = v9518 := by rw [show I (ad g (6 + 5)) so.toInt.toNat = v9515 from yv9515, show nI da.toInt.toNat = da from (eq32 _ _).mpr (by rw [nI_toInt (by omega)]; omega), xv9518, xv9516, (eq32 v9517 1).mpr hv9517]
                have yst : I (ad g 6) 4 = v9514 := est
                unfold LD
                simp only [e9853, e9854, e9855, e9856, e9857, e9858, e9859, e9860, yill, yst, show I (ad g (6 + 7)) _ = _ from yv9521, show I (ad g (6 + 8)) _ = _ from yv9527, show I (ad g (6 + 9)) _ = _ from yv9534, yv9782, true_and, and_true]
                omega)⟩, rfl⟩
      · refine WQ_iconst (0) (0) dX6_load_115 rfl rfl (fun v9863 hv9863 => ?_)
        refine WP_goto 131 dX6_load_116 rfl ?_
        refine WQ_puti dX6_load_131 fX6_51 rfl rfl (lyx_is hy 50 6 rfl) (fun I9864 eI9864 => ?_)
        have hI9864 : XI g n L I9864 := by rw [eI9864]; exact (xi_f hy hI9769 (c := 50) (0) (0) (20) (by decide) (Or.inl (by decide)) (by decide) (by omega) (by omega))
        have e9865 : I9864 (ad g 1) 1 = L := by rw [eI9864, pp_ne _ _ (Or.inl (lyx_ne hy (by decide) (by decide) (by decide)))]; exact e9770
        have e9866 : I9864 (ad g 6) 4 = v9514 := by rw [eI9864, pp_ne _ _ (Or.inl (lyx_ne hy (by decide) (by decide) (by decide)))]; exact e9771
        have e9867 : I9864 (ad g 50) 0 = v9521 := by rw [eI9864, pp_ne _ _ (Or.inr (by decide))]; exact e9772
        have e9868 : I9864 (ad g 50) 1 = v9527 := by rw [eI9864, pp_ne _ _ (Or.inr (by decide))]; exact e9773
        have e9869 : I9864 (ad g 50) 2 = v9534 := by rw [eI9864, pp_ne _ _ (Or.inr (by decide))]; exact e9774
        have e9870 : I9864 (ad g 50) 3 = v9768 := by rw [eI9864, pp_ne _ _ (Or.inr (by decide))]; exact e9775
        have e9871 : I9864 (ad g 50) 4 = v9863 := by rw [eI9864, pp_self]
        have fr9872 : fz 74 g [50] I I9864 := by rw [eI9864]; exact fzx_pp hy fr9776 (by decide) (by decide)
        clear eI9864
        refine WP_aload_n dX6_load_134 rfl ?_
        refine WP_iload dX6_load_135 rfl ?_
        refine WQ_if_eq 144 dX6_load_137 rfl (fun c9872 => ?_) (fun c9872 => False.elim (by omega))
        refine WP_aload_n dX6_load_144 rfl ?_
        refine WQ_getim dX6_load_145 fX6_36 rfl (lyx_is hy 50 6 rfl) e9868 ?_
        refine WQ_puti dX6_load_148 fX6_54 rfl rfl (lyx_is hy 50 6 rfl) (fun I9874 eI9874 => ?_)
        have hI9874 : XI g n L I9874 := by rw [eI9874]; exact (xi_f hy hI9864 (c := 50) (0) (0) (3) (by decide) (Or.inl (by decide)) (by decide) (by omega) (by omega))
        have e9875 : I9874 (ad g 1) 1 = L := by rw [eI9874, pp_ne _ _ (Or.inl (lyx_ne hy (by decide) (by decide) (by decide)))]; exact e9865
        have e9876 : I9874 (ad g 6) 4 = v9514 := by rw [eI9874, pp_ne _ _ (Or.inl (lyx_ne hy (by decide) (by decide) (by decide)))]; exact e9866
        have e9877 : I9874 (ad g 50) 0 = v9521 := by rw [eI9874, pp_ne _ _ (Or.inr (by decide))]; exact e9867
        have e9878 : I9874 (ad g 50) 1 = v9527 := by rw [eI9874, pp_ne _ _ (Or.inr (by decide))]; exact e9868
        have e9879 : I9874 (ad g 50) 2 = v9534 := by rw [eI9874, pp_ne _ _ (Or.inr (by decide))]; exact e9869
        have e9880 : I9874 (ad g 50) 3 = v9768 := by rw [eI9874, pp_ne _ _ (Or.inr (by decide))]; exact e9870
        have e9881 : I9874 (ad g 50) 4 = v9863 := by rw [eI9874, pp_ne _ _ (Or.inr (by decide))]; exact e9871
        have e9882 : I9874 (ad g 50) 5 = v9527 := by rw [eI9874, pp_self]
        have fr9883 : fz 74 g [50] I I9874 := by rw [eI9874]; exact fzx_pp hy fr9872 (by decide) (by decide)
        clear eI9874
        refine WP_aload_n dX6_load_151 rfl ?_
        refine WP_iload dX6_load_152 rfl ?_
        refine WQ_if_ne 163 dX6_load_154 rfl (fun c9883 => False.elim (by omega)) (fun c9883 => ?_)
        refine WP_iload dX6_load_157 rfl ?_
        refine WQ_iconst (-1) (-1) dX6_load_159 rfl rfl (fun v9885 hv9885 => ?_)
        refine WQ_icmp_ne 167 dX6_load_160 rfl (fun c9885 => False.elim (by omega)) (fun c9885 => ?_)
        refine WQ_iconst (0) (0) dX6_load_163 rfl rfl (fun v9887 hv9887 => ?_)
        refine WP_goto 168 dX6_load_164 rfl ?_
        refine WQ_puti dX6_load_168 fX6_57 rfl rfl (lyx_is hy 50 6 rfl) (fun I9888 eI9888 => ?_)
        have hI9888 : XI g n L I9888 := by rw [eI9888]; exact (xi_f hy hI9874 (c := 50) (0) (0) (2) (by decide) (Or.inl (by decide)) (by decide) (by omega) (by omega))
        have e9889 : I9888 (ad g 1) 1 = L := by rw [eI9888, pp_ne _ _ (Or.inl (lyx_ne hy (by decide) (by decide) (by decide)))]; exact e9875
        have e9890 : I9888 (ad g 6) 4 = v9514 := by rw [eI9888, pp_ne _ _ (Or.inl (lyx_ne hy (by decide) (by decide) (by decide)))]; exact e9876
        have e9891 : I9888 (ad g 50) 0 = v9521 := by rw [eI9888, pp_ne _ _ (Or.inr (by decide))]; exact e9877
        have e9892 : I9888 (ad g 50) 1 = v9527 := by rw [eI9888, pp_ne _ _ (Or.inr (by decide))]; exact e9878
        have e9893 : I9888 (ad g 50) 2 = v9534 := by rw [eI9888, pp_ne _ _ (Or.inr (by decide))]; exact e9879
        have e9894 : I9888 (ad g 50) 3 = v9768 := by rw [eI9888, pp_ne _ _ (Or.inr (by decide))]; exact e9880
        have e9895 : I9888 (ad g 50) 4 = v9863 := by rw [eI9888, pp_ne _ _ (Or.inr (by decide))]; exact e9881
        have e9896 : I9888 (ad g 50) 5 = v9527 := by rw [eI9888, pp_ne _ _ (Or.inr (by decide))]; exact e9882
        have e9897 : I9888 (ad g 50) 6 = v9887 := by rw [eI9888, pp_self]
        have fr9898 : fz 74 g [50] I I9888 := by rw [eI9888]; exact fzx_pp hy fr9883 (by decide) (by decide)
        clear eI9888
        refine WP_aload_n dX6_load_171 rfl ?_
        refine WP_aload_n dX6_load_172 rfl ?_
        refine WQ_getim dX6_load_173 fX6_9 rfl (lyx_is hy 50 6 rfl) e9891 ?_
        refine WQ_iconst (-1) (-1) dX6_load_176 rfl rfl (fun v9899 hv9899 => ?_)
        refine WQ_icmp_eq 193 dX6_load_177 rfl (fun c9899 => ?_) (fun c9899 => False.elim (by omega))
        refine WQ_iconst (0) (0) dX6_load_193 rfl rfl (fun v9901 hv9901 => ?_)
        refine WQ_putz dX6_load_194 fX6_60 rfl rfl (by omega) (lyx_is hy 50 6 rfl) (fun I9902 eI9902 => ?_)
        have hI9902 : XI g n L I9902 := by rw [eI9902]; exact (xi_f hy hI9888 (c := 50) (0) (0) (1) (by decide) (Or.inl (by decide)) (by decide) (by omega) (by omega))
        have e9903 : I9902 (ad g 1) 1 = L := by rw [eI9902, pp_ne _ _ (Or.inl (lyx_ne hy (by decide) (by decide) (by decide)))]; exact e9889
        have e9904 : I9902 (ad g 6) 4 = v9514 := by rw [eI9902, pp_ne _ _ (Or.inl (lyx_ne hy (by decide) (by decide) (by decide)))]; exact e9890
        have e9905 : I9902 (ad g 50) 0 = v9521 := by rw [eI9902, pp_ne _ _ (Or.inr (by decide))]; exact e9891
        have e9906 : I9902 (ad g 50) 1 = v9527 := by rw [eI9902, pp_ne _ _ (Or.inr (by decide))]; exact e9892
        have e9907 : I9902 (ad g 50) 2 = v9534 := by rw [eI9902, pp_ne _ _ (Or.inr (by decide))]; exact e9893
        have e9908 : I9902 (ad g 50) 3 = v9768 := by rw [eI9902, pp_ne _ _ (Or.inr (by decide))]; exact e9894
        have e9909 : I9902 (ad g 50) 4 = v9863 := by rw [eI9902, pp_ne _ _ (Or.inr (by decide))]; exact e9895
        have e9910 : I9902 (ad g 50) 5 = v9527 := by rw [eI9902, pp_ne _ _ (Or.inr (by decide))]; exact e9896
        have e9911 : I9902 (ad g 50) 6 = v9887 := by rw [eI9902, pp_ne _ _ (Or.inr (by decide))]; exact e9897
        have e9912 : I9902 (ad g 50) 7 = v9901 := by rw [eI9902, pp_self]
        have fr9913 : fz 74 g [50] I I9902 := by rw [eI9902]; exact fzx_pp hy fr9898 (by decide) (by decide)
        clear eI9902
        refine WP_aload_n dX6_load_197 rfl ?_
        refine WP_aload_n dX6_load_198 rfl ?_
        refine WP_getr dX6_load_199 fX6_64 rfl (lyx_is hy 5 0 rfl) (rfx hr 5 2 23 (by decide)) ?_
        refine WP_iload_n dX6_load_202 rfl ?_
        refine WQ_iald dX6_load_203 (lyx_is hy 23 13 rfl) (lyx_n hy 23 7 rfl) (by omega) (by omega) (fun q hq => BT_get hI9902.1 23 0 7 (0) (0) (900) (by decide) q (Nat.zero_le _) hq) (fun v9914 av9914 bv9914 ev9914 => ?_)
        clear ev9914
        refine WQ_if_le 211 dX6_load_204 rfl (fun c9914 => ?_) (fun c9914 => ?_)
        · refine WQ_iconst (0) (0) dX6_load_211 rfl rfl (fun v9916 hv9916 => ?_)
          refine WQ_putz dX6_load_212 fX6_67 rfl rfl (by omega) (lyx_is hy 50 6 rfl) (fun I9917 eI9917 => ?_)
          have hI9917 : XI g n L I9917 := by rw [eI9917]; exact (xi_f hy hI9902 (c := 50) (0) (0) (1) (by decide) (Or.inl (by decide)) (by decide) (by omega) (by omega))
          have e9918 : I9917 (ad g 1) 1 = L := by rw [eI9917, pp_ne _ _ (Or.inl (lyx_ne hy (by decide) (by decide) (by decide)))]; exact e9903
          have e9919 : I9917 (ad g 6) 4 = v9514 := by rw [eI9917, pp_ne _ _ (Or.inl (lyx_ne hy (by decide) (by decide) (by decide)))]; exact e9904
          have e9920 : I9917 (ad g 50) 0 = v9521 := by rw [eI9917, pp_ne _ _ (Or.inr (by decide))]; exact e9905
          have e9921 : I9917 (ad g 50) 1 = v9527 := by rw [eI9917, pp_ne _ _ (Or.inr (by decide))]; exact e9906
          have e9922 : I9917 (ad g 50) 2 = v9534 := by rw [eI9917, pp_ne _ _ (Or.inr (by decide))]; exact e9907
          have e9923 : I9917 (ad g 50) 3 = v9768 := by rw [eI9917, pp_ne _ _ (Or.inr (by decide))]; exact e9908
          have e9924 : I9917 (ad g 50) 4 = v9863 := by rw [eI9917, pp_ne _ _ (Or.inr (by decide))]; exact e9909
          have e9925 : I9917 (ad g 50) 5 = v9527 := by rw [eI9917, pp_ne _ _ (Or.inr (by decide))]; exact e9910
          have e9926 : I9917 (ad g 50) 6 = v9887 := by rw [eI9917, pp_ne _ _ (Or.inr (by decide))]; exact e9911
          have e9927 : I9917 (ad g 50) 7 = v9901 := by rw [eI9917, pp_ne _ _ (Or.inr (by decide))]; exact e9912
          have e9928 : I9917 (ad g 50) 8 = v9916 := by rw [eI9917, pp_self]
          have fr9929 : fz 74 g [50] I I9917 := by rw [eI9917]; exact fzx_pp hy fr9913 (by decide) (by decide)
          clear eI9917
          exact WP_vret dX6_load_215 rfl ⟨⟨hI9917, rfl, fr9929, rfl, (by
                have yill : I (ad g (6 + 5)) so.toInt.toNat >>> (nI da.toInt.toNat &&& 31) &&& 1 = v9518 := by rw [show I (ad g (6 + 5)) so.toInt.toNat = v9515 from yv9515, show nI da.toInt.toNat = da from (eq32 _ _).mpr (by rw [nI_toInt (by omega)]; omega), xv9518, xv9516, (eq32 v9517 1).mpr hv9517]
                have yst : I (ad g 6) 4 = v9514 := est
                unfold LD
                simp only [e9920, e9921, e9922, e9923, e9924, e9925, e9926, e9927, yill, yst, show I (ad g (6 + 7)) _ = _ from yv9521, show I (ad g (6 + 8)) _ = _ from yv9527, show I (ad g (6 + 9)) _ = _ from yv9534, true_and, and_true]
                omega)⟩, rfl⟩
        · refine WQ_iconst (1) (1) dX6_load_207 rfl rfl (fun v9930 hv9930 => ?_)
          refine WP_goto 212 dX6_load_208 rfl ?_
          refine WQ_putz dX6_load_212 fX6_67 rfl rfl (by omega) (lyx_is hy 50 6 rfl) (fun I9931 eI9931 => ?_)
          have hI9931 : XI g n L I9931 := by rw [eI9931]; exact (xi_f hy hI9902 (c := 50) (0) (0) (1) (by decide) (Or.inl (by decide)) (by decide) (by omega) (by omega))
          have e9932 : I9931 (ad g 1) 1 = L := by rw [eI9931, pp_ne _ _ (Or.inl (lyx_ne hy (by decide) (by decide) (by decide)))]; exact e9903
          have e9933 : I9931 (ad g 6) 4 = v9514 := by rw [eI9931, pp_ne _ _ (Or.inl (lyx_ne hy (by decide) (by decide) (by decide)))]; exact e9904
          have e9934 : I9931 (ad g 50) 0 = v9521 := by rw [eI9931, pp_ne _ _ (Or.inr (by decide))]; exact e9905
          have e9935 : I9931 (ad g 50) 1 = v9527 := by rw [eI9931, pp_ne _ _ (Or.inr (by decide))]; exact e9906
          have e9936 : I9931 (ad g 50) 2 = v9534 := by rw [eI9931, pp_ne _ _ (Or.inr (by decide))]; exact e9907
          have e9937 : I9931 (ad g 50) 3 = v9768 := by rw [eI9931, pp_ne _ _ (Or.inr (by decide))]; exact e9908
          have e9938 : I9931 (ad g 50) 4 = v9863 := by rw [eI9931, pp_ne _ _ (Or.inr (by decide))]; exact e9909
          have e9939 : I9931 (ad g 50) 5 = v9527 := by rw [eI9931, pp_ne _ _ (Or.inr (by decide))]; exact e9910
          have e9940 : I9931 (ad g 50) 6 = v9887 := by rw [eI9931, pp_ne _ _ (Or.inr (by decide))]; exact e9911
          have e9941 : I9931 (ad g 50) 7 = v9901 := by rw [eI9931, pp_ne _ _ (Or.inr (by decide))]; exact e9912
          have e9942 : I9931 (ad g 50) 8 = v9930 := by rw [eI9931, pp_self]
          have fr9943 : fz 74 g [50] I I9931 := by rw [eI9931]; exact fzx_pp hy fr9913 (by decide) (by decide)
          clear eI9931
          exact WP_vret dX6_load_215 rfl ⟨⟨hI9931, rfl, fr9943, rfl, (by
                have yill : I (ad g (6 + 5)) so.toInt.toNat >>> (nI da.toInt.toNat &&& 31) &&& 1 = v9518 := by rw [show I (ad g (6 + 5)) so.toInt.toNat = v9515 from yv9515, show nI da.toInt.toNat = da from (eq32 _ _).mpr (by rw [nI_toInt (by omega)]; omega), xv9518, xv9516, (eq32 v9517 1).mpr hv9517]
                have yst : I (ad g 6) 4 = v9514 := est
                unfold LD
                simp only [e9934, e9935, e9936, e9937, e9938, e9939, e9940, e9941, yill, yst, show I (ad g (6 + 7)) _ = _ from yv9521, show I (ad g (6 + 8)) _ = _ from yv9527, show I (ad g (6 + 9)) _ = _ from yv9534, true_and, and_true]
                omega)⟩, rfl⟩
  · refine WQ_iconst (1) (1) dX6_load_35 rfl rfl (fun v9944 hv9944 => ?_)
    refine WP_goto 40 dX6_load_36 rfl ?_
    refine WP_istore (ls' := [(0, _), (1, _), (2, _), (3, _), (4, _), (5, _), (6, _), (7, _)]) dX6_load_40 (by decide) rfl ?_
    refine WP_aload_n dX6_load_42 rfl ?_
    refine WP_aload dX6_load_43 rfl ?_
    refine WP_getr dX6_load_45 fX6_30 rfl (lyx_is hy 6 7 rfl) (rfx hr 6 11 13 (by decide)) ?_
    refine WP_iload dX6_load_48 rfl ?_
    refine WQ_ialdb dX6_load_50 (lyx_is hy 13 13 rfl) (lyx_n hy 13 28 rfl) (by omega) (by omega) (fun q hq => BT_get hI.1 13 0 28 (-1) (0) (2) (by decide) q (Nat.zero_le _) hq) (fun v9945 av9945 bv9945 zv9945 => ?_)
    have yv9945 : I (ad g 13) (7 * so.toInt + da.toInt).toNat = v9945 := by rw [← fz_at fr0 13 (by decide) (by decide), show (7 * so.toInt + da.toInt).toNat = v9513.toInt.toNat by omega]; exact zv9945
    refine WQ_puti dX6_load_51 fX6_9 rfl rfl (lyx_is hy 50 6 rfl) (fun I9946 eI9946 => ?_)
    have hI9946 : XI g n L I9946 := by rw [eI9946]; exact (xi_f hy hI (c := 50) (-1) (0) (2) (by decide) (Or.inl (by decide)) (by decide) (by omega) (by omega))
    have e9947 : I9946 (ad g 1) 1 = L := by rw [eI9946, pp_ne _ _ (Or.inl (lyx_ne hy (by decide) (by decide) (by decide)))]; exact e9509
    have e9948 : I9946 (ad g 6) 4 = v9514 := by rw [eI9946, pp_ne _ _ (Or.inl (lyx_ne hy (by decide) (by decide) (by decide)))]; exact ev9514
    have e9949 : I9946 (ad g 50) 0 = v9945 := by rw [eI9946, pp_self]
    have fr9950 : fz 74 g [50] I I9946 := by rw [eI9946]; exact fzx_pp hy fr0 (by decide) (by decide)
    clear eI9946
    refine WP_aload_n dX6_load_54 rfl ?_
    refine WP_aload dX6_load_55 rfl ?_
    refine WP_getr dX6_load_57 fX6_33 rfl (lyx_is hy 6 7 rfl) (rfx hr 6 12 14 (by decide)) ?_
    refine WP_iload dX6_load_60 rfl ?_
    refine WQ_ialdb dX6_load_62 (lyx_is hy 14 13 rfl) (lyx_n hy 14 28 rfl) (by omega) (by omega) (fun q hq => BT_get hI9946.1 14 0 28 (0) (0) (3) (by decide) q (Nat.zero_le _) hq) (fun v9951 av9951 bv9951 zv9951 => ?_)
    have yv9951 : I (ad g 14) (7 * so.toInt + da.toInt).toNat = v9951 := by rw [← fz_at fr9950 14 (by decide) (by decide), show (7 * so.toInt + da.toInt).toNat = v9513.toInt.toNat by omega]; exact zv9951
    refine WQ_puti dX6_load_63 fX6_36 rfl rfl (lyx_is hy 50 6 rfl) (fun I9952 eI9952 => ?_)
    have hI9952 : XI g n L I9952 := by rw [eI9952]; exact (xi_f hy hI9946 (c := 50) (0) (0) (3) (by decide) (Or.inl (by decide)) (by decide) (by omega) (by omega))
    have e9953 : I9952 (ad g 1) 1 = L := by rw [eI9952, pp_ne _ _ (Or.inl (lyx_ne hy (by decide) (by decide) (by decide)))]; exact e9947
    have e9954 : I9952 (ad g 6) 4 = v9514 := by rw [eI9952, pp_ne _ _ (Or.inl (lyx_ne hy (by decide) (by decide) (by decide)))]; exact e9948
    have e9955 : I9952 (ad g 50) 0 = v9945 := by rw [eI9952, pp_ne _ _ (Or.inr (by decide))]; exact e9949
    have e9956 : I9952 (ad g 50) 1 = v9951 := by rw [eI9952, pp_self]
    have fr9957 : fz 74 g [50] I I9952 := by rw [eI9952]; exact fzx_pp hy fr9950 (by decide) (by decide)
    clear eI9952
    refine WP_aload_n dX6_load_66 rfl ?_
    refine WP_aload dX6_load_67 rfl ?_
    refine WP_getr dX6_load_69 fX6_39 rfl (lyx_is hy 6 7 rfl) (rfx hr 6 13 15 (by decide)) ?_
    refine WP_iload dX6_load_72 rfl ?_
    refine WQ_ialdb dX6_load_74 (lyx_is hy 15 13 rfl) (lyx_n hy 15 28 rfl) (by omega) (by omega) (fun q hq => BT_get hI9952.1 15 0 28 (0) (0) (99) (by decide) q (Nat.zero_le _) hq) (fun v9958 av9958 bv9958 zv9958 => ?_)
    have yv9958 : I (ad g 15) (7 * so.toInt + da.toInt).toNat = v9958 := by rw [← fz_at fr9957 15 (by decide) (by decide), show (7 * so.toInt + da.toInt).toNat = v9513.toInt.toNat by omega]; exact zv9958
    refine WQ_puti dX6_load_75 fX6_42 rfl rfl (lyx_is hy 50 6 rfl) (fun I9959 eI9959 => ?_)
    have hI9959 : XI g n L I9959 := by rw [eI9959]; exact (xi_f hy hI9952 (c := 50) (0) (0) (99) (by decide) (Or.inl (by decide)) (by decide) (by omega) (by omega))
    have e9960 : I9959 (ad g 1) 1 = L := by rw [eI9959, pp_ne _ _ (Or.inl (lyx_ne hy (by decide) (by decide) (by decide)))]; exact e9953
    have e9961 : I9959 (ad g 6) 4 = v9514 := by rw [eI9959, pp_ne _ _ (Or.inl (lyx_ne hy (by decide) (by decide) (by decide)))]; exact e9954
    have e9962 : I9959 (ad g 50) 0 = v9945 := by rw [eI9959, pp_ne _ _ (Or.inr (by decide))]; exact e9955
    have e9963 : I9959 (ad g 50) 1 = v9951 := by rw [eI9959, pp_ne _ _ (Or.inr (by decide))]; exact e9956
    have e9964 : I9959 (ad g 50) 2 = v9958 := by rw [eI9959, pp_self]
    have fr9965 : fz 74 g [50] I I9959 := by rw [eI9959]; exact fzx_pp hy fr9957 (by decide) (by decide)
    clear eI9959
    refine WP_aload_n dX6_load_78 rfl ?_
    refine WP_aload_n dX6_load_79 rfl ?_
    refine WQ_getim dX6_load_80 fX6_9 rfl (lyx_is hy 50 6 rfl) e9962 ?_
    refine WQ_iconst (-1) (-1) dX6_load_83 rfl rfl (fun v9966 hv9966 => ?_)
    refine WQ_icmp_ne 91 dX6_load_84 rfl (fun c9966 => ?_) (fun c9966 => ?_)
    · refine WP_aload_n dX6_load_91 rfl ?_
      refine WP_getr dX6_load_92 fX6_45 rfl (lyx_is hy 5 0 rfl) (rfx hr 5 1 22 (by decide)) ?_
      refine WP_aload_n dX6_load_95 rfl ?_
      refine WQ_getim dX6_load_96 fX6_9 rfl (lyx_is hy 50 6 rfl) e9962 ?_
      refine WQ_bipush (7) (7) dX6_load_99 rfl rfl (fun v9968 hv9968 => ?_)
      refine WQ_imulk (7) dX6_load_101 hv9968 (by omega) (by omega) (fun v9969 hv9969 => ?_)
      refine WP_iload_n dX6_load_102 rfl ?_
      refine WQ_iadd dX6_load_103 (by omega) (by omega) (fun v9970 hv9970 => ?_)
      refine WQ_ialdb dX6_load_104 (lyx_is hy 22 13 rfl) (lyx_n hy 22 21 rfl) (by omega) (by omega) (fun q hq => BT_get hI9959.1 22 0 21 (0) (0) (20) (by decide) q (Nat.zero_le _) hq) (fun v9971 av9971 bv9971 zv9971 => ?_)
      have yv9971 : I (ad g 22) (7 * v9945.toInt + da.toInt).toNat = v9971 := by rw [← fz_at fr9965 22 (by decide) (by decide), show (7 * v9945.toInt + da.toInt).toNat = v9970.toInt.toNat by omega]; exact zv9971
      refine WQ_puti dX6_load_105 fX6_48 rfl rfl (lyx_is hy 50 6 rfl) (fun I9972 eI9972 => ?_)
      have hI9972 : XI g n L I9972 := by rw [eI9972]; exact (xi_f hy hI9959 (c := 50) (0) (0) (20) (by decide) (Or.inl (by decide)) (by decide) (by omega) (by omega))
      have e9973 : I9972 (ad g 1) 1 = L := by rw [eI9972, pp_ne _ _ (Or.inl (lyx_ne hy (by decide) (by decide) (by decide)))]; exact e9960
      have e9974 : I9972 (ad g 6) 4 = v9514 := by rw [eI9972, pp_ne _ _ (Or.inl (lyx_ne hy (by decide) (by decide) (by decide)))]; exact e9961
      have e9975 : I9972 (ad g 50) 0 = v9945 := by rw [eI9972, pp_ne _ _ (Or.inr (by decide))]; exact e9962
      have e9976 : I9972 (ad g 50) 1 = v9951 := by rw [eI9972, pp_ne _ _ (Or.inr (by decide))]; exact e9963
      have e9977 : I9972 (ad g 50) 2 = v9958 := by rw [eI9972, pp_ne _ _ (Or.inr (by decide))]; exact e9964
      have e9978 : I9972 (ad g 50) 3 = v9971 := by rw [eI9972, pp_self]
      have fr9979 : fz 74 g [50] I I9972 := by rw [eI9972]; exact fzx_pp hy fr9965 (by decide) (by decide)
      clear eI9972
      refine WP_aload_n dX6_load_108 rfl ?_
      refine WP_iload dX6_load_109 rfl ?_
      refine WQ_iconst (-1) (-1) dX6_load_111 rfl rfl (fun v9980 hv9980 => ?_)
      refine WQ_icmp_ne 119 dX6_load_112 rfl (fun c9980 => ?_) (fun c9980 => ?_)
      · refine WP_aload_n dX6_load_119 rfl ?_
        refine WP_getr dX6_load_120 fX6_45 rfl (lyx_is hy 5 0 rfl) (rfx hr 5 1 22 (by decide)) ?_
        refine WP_iload dX6_load_123 rfl ?_
        refine WQ_bipush (7) (7) dX6_load_125 rfl rfl (fun v9982 hv9982 => ?_)
        refine WQ_imulk (7) dX6_load_127 hv9982 (by omega) (by omega) (fun v9983 hv9983 => ?_)
        refine WP_iload_n dX6_load_128 rfl ?_
        refine WQ_iadd dX6_load_129 (by omega) (by omega) (fun v9984 hv9984 => ?_)
        refine WQ_ialdb dX6_load_130 (lyx_is hy 22 13 rfl) (lyx_n hy 22 21 rfl) (by omega) (by omega) (fun q hq => BT_get hI9972.1 22 0 21 (0) (0) (20) (by decide) q (Nat.zero_le _) hq) (fun v9985 av9985 bv9985 zv9985 => ?_)
        have yv9985 : I (ad g 22) (7 * v9514.toInt + da.toInt).toNat = v9985 := by rw [← fz_at fr9979 22 (by decide) (by decide), show (7 * v9514.toInt + da.toInt).toNat = v9984.toInt.toNat by omega]; exact zv9985
        refine WQ_puti dX6_load_131 fX6_51 rfl rfl (lyx_is hy 50 6 rfl) (fun I9986 eI9986 => ?_)
        have hI9986 : XI g n L I9986 := by rw [eI9986]; exact (xi_f hy hI9972 (c := 50) (0) (0) (20) (by decide) (Or.inl (by decide)) (by decide) (by omega) (by omega))
        have e9987 : I9986 (ad g 1) 1 = L := by rw [eI9986, pp_ne _ _ (Or.inl (lyx_ne hy (by decide) (by decide) (by decide)))]; exact e9973
        have e9988 : I9986 (ad g 6) 4 = v9514 := by rw [eI9986, pp_ne _ _ (Or.inl (lyx_ne hy (by decide) (by decide) (by decide)))]; exact e9974
        have e9989 : I9986 (ad g 50) 0 = v9945 := by rw [eI9986, pp_ne _ _ (Or.inr (by decide))]; exact e9975
        have e9990 : I9986 (ad g 50) 1 = v9951 := by rw [eI9986, pp_ne _ _ (Or.inr (by decide))]; exact e9976
        have e9991 : I9986 (ad g 50) 2 = v9958 := by rw [eI9986, pp_ne _ _ (Or.inr (by decide))]; exact e9977
        have e9992 : I9986 (ad g 50) 3 = v9971 := by rw [eI9986, pp_ne _ _ (Or.inr (by decide))]; exact e9978
        have e9993 : I9986 (ad g 50) 4 = v9985 := by rw [eI9986, pp_self]
        have fr9994 : fz 74 g [50] I I9986 := by rw [eI9986]; exact fzx_pp hy fr9979 (by decide) (by decide)
        clear eI9986
        refine WP_aload_n dX6_load_134 rfl ?_
        refine WP_iload dX6_load_135 rfl ?_
        refine WQ_if_eq 144 dX6_load_137 rfl (fun c9994 => False.elim (by omega)) (fun c9994 => ?_)
        refine WQ_iconst (0) (0) dX6_load_140 rfl rfl (fun v9996 hv9996 => ?_)
        refine WP_goto 148 dX6_load_141 rfl ?_
        refine WQ_puti dX6_load_148 fX6_54 rfl rfl (lyx_is hy 50 6 rfl) (fun I9997 eI9997 => ?_)
        have hI9997 : XI g n L I9997 := by rw [eI9997]; exact (xi_f hy hI9986 (c := 50) (0) (0) (3) (by decide) (Or.inl (by decide)) (by decide) (by omega) (by omega))
        have e9998 : I9997 (ad g 1) 1 = L := by rw [eI9997, pp_ne _ _ (Or.inl (lyx_ne hy (by decide) (by decide) (by decide)))]; exact e9987
        have e9999 : I9997 (ad g 6) 4 = v9514 := by rw [eI9997, pp_ne _ _ (Or.inl (lyx_ne hy (by decide) (by decide) (by decide)))]; exact e9988
        have e10000 : I9997 (ad g 50) 0 = v9945 := by rw [eI9997, pp_ne _ _ (Or.inr (by decide))]; exact e9989
        have e10001 : I9997 (ad g 50) 1 = v9951 := by rw [eI9997, pp_ne _ _ (Or.inr (by decide))]; exact e9990
        have e10002 : I9997 (ad g 50) 2 = v9958 := by rw [eI9997, pp_ne _ _ (Or.inr (by decide))]; exact e9991
        have e10003 : I9997 (ad g 50) 3 = v9971 := by rw [eI9997, pp_ne _ _ (Or.inr (by decide))]; exact e9992
        have e10004 : I9997 (ad g 50) 4 = v9985 := by rw [eI9997, pp_ne _ _ (Or.inr (by decide))]; exact e9993
        have e10005 : I9997 (ad g 50) 5 = v9996 := by rw [eI9997, pp_self]
        have fr10006 : fz 74 g [50] I I9997 := by rw [eI9997]; exact fzx_pp hy fr9994 (by decide) (by decide)
        clear eI9997
        refine WP_aload_n dX6_load_151 rfl ?_
        refine WP_iload dX6_load_152 rfl ?_
        refine WQ_if_ne 163 dX6_load_154 rfl (fun c10006 => ?_) (fun c10006 => False.elim (by omega))
        refine WQ_iconst (0) (0) dX6_load_163 rfl rfl (fun v10008 hv10008 => ?_)
        refine WP_goto 168 dX6_load_164 rfl ?_
        refine WQ_puti dX6_load_168 fX6_57 rfl rfl (lyx_is hy 50 6 rfl) (fun I10009 eI10009 => ?_)
        have hI10009 : XI g n L I10009 := by rw [eI10009]; exact (xi_f hy hI9997 (c := 50) (0) (0) (2) (by decide) (Or.inl (by decide)) (by decide) (by omega) (by omega))
        have e10010 : I10009 (ad g 1) 1 = L := by rw [eI10009, pp_ne _ _ (Or.inl (lyx_ne hy (by decide) (by decide) (by decide)))]; exact e9998
        have e10011 : I10009 (ad g 6) 4 = v9514 := by rw [eI10009, pp_ne _ _ (Or.inl (lyx_ne hy (by decide) (by decide) (by decide)))]; exact e9999
        have e10012 : I10009 (ad g 50) 0 = v9945 := by rw [eI10009, pp_ne _ _ (Or.inr (by decide))]; exact e10000
        have e10013 : I10009 (ad g 50) 1 = v9951 := by rw [eI10009, pp_ne _ _ (Or.inr (by decide))]; exact e10001
        have e10014 : I10009 (ad g 50) 2 = v9958 := by rw [eI10009, pp_ne _ _ (Or.inr (by decide))]; exact e10002
        have e10015 : I10009 (ad g 50) 3 = v9971 := by rw [eI10009, pp_ne _ _ (Or.inr (by decide))]; exact e10003
        have e10016 : I10009 (ad g 50) 4 = v9985 := by rw [eI10009, pp_ne _ _ (Or.inr (by decide))]; exact e10004
        have e10017 : I10009 (ad g 50) 5 = v9996 := by rw [eI10009, pp_ne _ _ (Or.inr (by decide))]; exact e10005
        have e10018 : I10009 (ad g 50) 6 = v10008 := by rw [eI10009, pp_self]
        have fr10019 : fz 74 g [50] I I10009 := by rw [eI10009]; exact fzx_pp hy fr10006 (by decide) (by decide)
        clear eI10009
        refine WP_aload_n dX6_load_171 rfl ?_
        refine WP_aload_n dX6_load_172 rfl ?_
        refine WQ_getim dX6_load_173 fX6_9 rfl (lyx_is hy 50 6 rfl) e10012 ?_
        refine WQ_iconst (-1) (-1) dX6_load_176 rfl rfl (fun v10020 hv10020 => ?_)
        refine WQ_icmp_eq 193 dX6_load_177 rfl (fun c10020 => False.elim (by omega)) (fun c10020 => ?_)
        refine WP_aload_n dX6_load_180 rfl ?_
        refine WQ_getim dX6_load_181 fX6_9 rfl (lyx_is hy 50 6 rfl) e10012 ?_
        refine WP_iload dX6_load_184 rfl ?_
        refine WQ_icmp_ne 193 dX6_load_186 rfl (fun c10021 => ?_) (fun c10021 => ?_)
        · refine WQ_iconst (0) (0) dX6_load_193 rfl rfl (fun v10023 hv10023 => ?_)
          refine WQ_putz dX6_load_194 fX6_60 rfl rfl (by omega) (lyx_is hy 50 6 rfl) (fun I10024 eI10024 => ?_)
          have hI10024 : XI g n L I10024 := by rw [eI10024]; exact (xi_f hy hI10009 (c := 50) (0) (0) (1) (by decide) (Or.inl (by decide)) (by decide) (by omega) (by omega))
          have e10025 : I10024 (ad g 1) 1 = L := by rw [eI10024, pp_ne _ _ (Or.inl (lyx_ne hy (by decide) (by decide) (by decide)))]; exact e10010
          have e10026 : I10024 (ad g 6) 4 = v9514 := by rw [eI10024, pp_ne _ _ (Or.inl (lyx_ne hy (by decide) (by decide) (by decide)))]; exact e10011
          have e10027 : I10024 (ad g 50) 0 = v9945 := by rw [eI10024, pp_ne _ _ (Or.inr (by decide))]; exact e10012
          have e10028 : I10024 (ad g 50) 1 = v9951 := by rw [eI10024, pp_ne _ _ (Or.inr (by decide))]; exact e10013
          have e10029 : I10024 (ad g 50) 2 = v9958 := by rw [eI10024, pp_ne _ _ (Or.inr (by decide))]; exact e10014
          have e10030 : I10024 (ad g 50) 3 = v9971 := by rw [eI10024, pp_ne _ _ (Or.inr (by decide))]; exact e10015
          have e10031 : I10024 (ad g 50) 4 = v9985 := by rw [eI10024, pp_ne _ _ (Or.inr (by decide))]; exact e10016
          have e10032 : I10024 (ad g 50) 5 = v9996 := by rw [eI10024, pp_ne _ _ (Or.inr (by decide))]; exact e10017
          have e10033 : I10024 (ad g 50) 6 = v10008 := by rw [eI10024, pp_ne _ _ (Or.inr (by decide))]; exact e10018
          have e10034 : I10024 (ad g 50) 7 = v10023 := by rw [eI10024, pp_self]
          have fr10035 : fz 74 g [50] I I10024 := by rw [eI10024]; exact fzx_pp hy fr10019 (by decide) (by decide)
          clear eI10024
          refine WP_aload_n dX6_load_197 rfl ?_
          refine WP_aload_n dX6_load_198 rfl ?_
          refine WP_getr dX6_load_199 fX6_64 rfl (lyx_is hy 5 0 rfl) (rfx hr 5 2 23 (by decide)) ?_
          refine WP_iload_n dX6_load_202 rfl ?_
          refine WQ_iald dX6_load_203 (lyx_is hy 23 13 rfl) (lyx_n hy 23 7 rfl) (by omega) (by omega) (fun q hq => BT_get hI10024.1 23 0 7 (0) (0) (900) (by decide) q (Nat.zero_le _) hq) (fun v10036 av10036 bv10036 ev10036 => ?_)
          clear ev10036
          refine WQ_if_le 211 dX6_load_204 rfl (fun c10036 => ?_) (fun c10036 => ?_)
          · refine WQ_iconst (0) (0) dX6_load_211 rfl rfl (fun v10038 hv10038 => ?_)
            refine WQ_putz dX6_load_212 fX6_67 rfl rfl (by omega) (lyx_is hy 50 6 rfl) (fun I10039 eI10039 => ?_)
            have hI10039 : XI g n L I10039 := by rw [eI10039]; exact (xi_f hy hI10024 (c := 50) (0) (0) (1) (by decide) (Or.inl (by decide)) (by decide) (by omega) (by omega))
            have e10040 : I10039 (ad g 1) 1 = L := by rw [eI10039, pp_ne _ _ (Or.inl (lyx_ne hy (by decide) (by decide) (by decide)))]; exact e10025
            have e10041 : I10039 (ad g 6) 4 = v9514 := by rw [eI10039, pp_ne _ _ (Or.inl (lyx_ne hy (by decide) (by decide) (by decide)))]; exact e10026
            have e10042 : I10039 (ad g 50) 0 = v9945 := by rw [eI10039, pp_ne _ _ (Or.inr (by decide))]; exact e10027
            have e10043 : I10039 (ad g 50) 1 = v9951 := by rw [eI10039, pp_ne _ _ (Or.inr (by decide))]; exact e10028
            have e10044 : I10039 (ad g 50) 2 = v9958 := by rw [eI10039, pp_ne _ _ (Or.inr (by decide))]; exact e10029
            have e10045 : I10039 (ad g 50) 3 = v9971 := by rw [eI10039, pp_ne _ _ (Or.inr (by decide))]; exact e10030
            have e10046 : I10039 (ad g 50) 4 = v9985 := by rw [eI10039, pp_ne _ _ (Or.inr (by decide))]; exact e10031
            have e10047 : I10039 (ad g 50) 5 = v9996 := by rw [eI10039, pp_ne _ _ (Or.inr (by decide))]; exact e10032
            have e10048 : I10039 (ad g 50) 6 = v10008 := by rw [eI10039, pp_ne _ _ (Or.inr (by decide))]; exact e10033
            have e10049 : I10039 (ad g 50) 7 = v10023 := by rw [eI10039, pp_ne _ _ (Or.inr (by decide))]; exact e10034
            have e10050 : I10039 (ad g 50) 8 = v10038 := by rw [eI10039, pp_self]
            have fr10051 : fz 74 g [50] I I10039 := by rw [eI10039]; exact fzx_pp hy fr10035 (by decide) (by decide)
            clear eI10039
            exact WP_vret dX6_load_215 rfl ⟨⟨hI10039, rfl, fr10051, rfl, (by
                  have yill : I (ad g (6 + 5)) so.toInt.toNat >>> (nI da.toInt.toNat &&& 31) &&& 1 = v9518 := by rw [show I (ad g (6 + 5)) so.toInt.toNat = v9515 from yv9515, show nI da.toInt.toNat = da from (eq32 _ _).mpr (by rw [nI_toInt (by omega)]; omega), xv9518, xv9516, (eq32 v9517 1).mpr hv9517]
                  have yst : I (ad g 6) 4 = v9514 := est
                  unfold LD
                  simp only [e10042, e10043, e10044, e10045, e10046, e10047, e10048, e10049, yill, yst, show I (ad g (6 + 7)) _ = _ from yv9945, show I (ad g (6 + 8)) _ = _ from yv9951, show I (ad g (6 + 9)) _ = _ from yv9958, yv9971, yv9985, true_and, and_true]
                  omega)⟩, rfl⟩
          · refine WQ_iconst (1) (1) dX6_load_207 rfl rfl (fun v10052 hv10052 => ?_)
            refine WP_goto 212 dX6_load_208 rfl ?_
            refine WQ_putz dX6_load_212 fX6_67 rfl rfl (by omega) (lyx_is hy 50 6 rfl) (fun I10053 eI10053 => ?_)
            have hI10053 : XI g n L I10053 := by rw [eI10053]; exact (xi_f hy hI10024 (c := 50) (0) (0) (1) (by decide) (Or.inl (by decide)) (by decide) (by omega) (by omega))
            have e10054 : I10053 (ad g 1) 1 = L := by rw [eI10053, pp_ne _ _ (Or.inl (lyx_ne hy (by decide) (by decide) (by decide)))]; exact e10025
            have e10055 : I10053 (ad g 6) 4 = v9514 := by rw [eI10053, pp_ne _ _ (Or.inl (lyx_ne hy (by decide) (by decide) (by decide)))]; exact e10026
            have e10056 : I10053 (ad g 50) 0 = v9945 := by rw [eI10053, pp_ne _ _ (Or.inr (by decide))]; exact e10027
            have e10057 : I10053 (ad g 50) 1 = v9951 := by rw [eI10053, pp_ne _ _ (Or.inr (by decide))]; exact e10028
            have e10058 : I10053 (ad g 50) 2 = v9958 := by rw [eI10053, pp_ne _ _ (Or.inr (by decide))]; exact e10029
            have e10059 : I10053 (ad g 50) 3 = v9971 := by rw [eI10053, pp_ne _ _ (Or.inr (by decide))]; exact e10030
            have e10060 : I10053 (ad g 50) 4 = v9985 := by rw [eI10053, pp_ne _ _ (Or.inr (by decide))]; exact e10031
            have e10061 : I10053 (ad g 50) 5 = v9996 := by rw [eI10053, pp_ne _ _ (Or.inr (by decide))]; exact e10032
            have e10062 : I10053 (ad g 50) 6 = v10008 := by rw [eI10053, pp_ne _ _ (Or.inr (by decide))]; exact e10033
            have e10063 : I10053 (ad g 50) 7 = v10023 := by rw [eI10053, pp_ne _ _ (Or.inr (by decide))]; exact e10034
            have e10064 : I10053 (ad g 50) 8 = v10052 := by rw [eI10053, pp_self]
            have fr10065 : fz 74 g [50] I I10053 := by rw [eI10053]; exact fzx_pp hy fr10035 (by decide) (by decide)
            clear eI10053
            exact WP_vret dX6_load_215 rfl ⟨⟨hI10053, rfl, fr10065, rfl, (by
                  have yill : I (ad g (6 + 5)) so.toInt.toNat >>> (nI da.toInt.toNat &&& 31) &&& 1 = v9518 := by rw [show I (ad g (6 + 5)) so.toInt.toNat = v9515 from yv9515, show nI da.toInt.toNat = da from (eq32 _ _).mpr (by rw [nI_toInt (by omega)]; omega), xv9518, xv9516, (eq32 v9517 1).mpr hv9517]
                  have yst : I (ad g 6) 4 = v9514 := est
                  unfold LD
                  simp only [e10056, e10057, e10058, e10059, e10060, e10061, e10062, e10063, yill, yst, show I (ad g (6 + 7)) _ = _ from yv9945, show I (ad g (6 + 8)) _ = _ from yv9951, show I (ad g (6 + 9)) _ = _ from yv9958, yv9971, yv9985, true_and, and_true]
                  omega)⟩, rfl⟩
        · refine WQ_iconst (1) (1) dX6_load_189 rfl rfl (fun v10066 hv10066 => ?_)
          refine WP_goto 194 dX6_load_190 rfl ?_
          refine WQ_putz dX6_load_194 fX6_60 rfl rfl (by omega) (lyx_is hy 50 6 rfl) (fun I10067 eI10067 => ?_)
          have hI10067 : XI g n L I10067 := by rw [eI10067]; exact (xi_f hy hI10009 (c := 50) (0) (0) (1) (by decide) (Or.inl (by decide)) (by decide) (by omega) (by omega))
          have e10068 : I10067 (ad g 1) 1 = L := by rw [eI10067, pp_ne _ _ (Or.inl (lyx_ne hy (by decide) (by decide) (by decide)))]; exact e10010
          have e10069 : I10067 (ad g 6) 4 = v9514 := by rw [eI10067, pp_ne _ _ (Or.inl (lyx_ne hy (by decide) (by decide) (by decide)))]; exact e10011
          have e10070 : I10067 (ad g 50) 0 = v9945 := by rw [eI10067, pp_ne _ _ (Or.inr (by decide))]; exact e10012
          have e10071 : I10067 (ad g 50) 1 = v9951 := by rw [eI10067, pp_ne _ _ (Or.inr (by decide))]; exact e10013
          have e10072 : I10067 (ad g 50) 2 = v9958 := by rw [eI10067, pp_ne _ _ (Or.inr (by decide))]; exact e10014
          have e10073 : I10067 (ad g 50) 3 = v9971 := by rw [eI10067, pp_ne _ _ (Or.inr (by decide))]; exact e10015
          have e10074 : I10067 (ad g 50) 4 = v9985 := by rw [eI10067, pp_ne _ _ (Or.inr (by decide))]; exact e10016
          have e10075 : I10067 (ad g 50) 5 = v9996 := by rw [eI10067, pp_ne _ _ (Or.inr (by decide))]; exact e10017
          have e10076 : I10067 (ad g 50) 6 = v10008 := by rw [eI10067, pp_ne _ _ (Or.inr (by decide))]; exact e10018
          have e10077 : I10067 (ad g 50) 7 = v10066 := by rw [eI10067, pp_self]
          have fr10078 : fz 74 g [50] I I10067 := by rw [eI10067]; exact fzx_pp hy fr10019 (by decide) (by decide)
          clear eI10067
          refine WP_aload_n dX6_load_197 rfl ?_
          refine WP_aload_n dX6_load_198 rfl ?_
          refine WP_getr dX6_load_199 fX6_64 rfl (lyx_is hy 5 0 rfl) (rfx hr 5 2 23 (by decide)) ?_
          refine WP_iload_n dX6_load_202 rfl ?_
          refine WQ_iald dX6_load_203 (lyx_is hy 23 13 rfl) (lyx_n hy 23 7 rfl) (by omega) (by omega) (fun q hq => BT_get hI10067.1 23 0 7 (0) (0) (900) (by decide) q (Nat.zero_le _) hq) (fun v10079 av10079 bv10079 ev10079 => ?_)
          clear ev10079
          refine WQ_if_le 211 dX6_load_204 rfl (fun c10079 => ?_) (fun c10079 => ?_)
          · refine WQ_iconst (0) (0) dX6_load_211 rfl rfl (fun v10081 hv10081 => ?_)
            refine WQ_putz dX6_load_212 fX6_67 rfl rfl (by omega) (lyx_is hy 50 6 rfl) (fun I10082 eI10082 => ?_)
            have hI10082 : XI g n L I10082 := by rw [eI10082]; exact (xi_f hy hI10067 (c := 50) (0) (0) (1) (by decide) (Or.inl (by decide)) (by decide) (by omega) (by omega))
            have e10083 : I10082 (ad g 1) 1 = L := by rw [eI10082, pp_ne _ _ (Or.inl (lyx_ne hy (by decide) (by decide) (by decide)))]; exact e10068
            have e10084 : I10082 (ad g 6) 4 = v9514 := by rw [eI10082, pp_ne _ _ (Or.inl (lyx_ne hy (by decide) (by decide) (by decide)))]; exact e10069
            have e10085 : I10082 (ad g 50) 0 = v9945 := by rw [eI10082, pp_ne _ _ (Or.inr (by decide))]; exact e10070
            have e10086 : I10082 (ad g 50) 1 = v9951 := by rw [eI10082, pp_ne _ _ (Or.inr (by decide))]; exact e10071
            have e10087 : I10082 (ad g 50) 2 = v9958 := by rw [eI10082, pp_ne _ _ (Or.inr (by decide))]; exact e10072
            have e10088 : I10082 (ad g 50) 3 = v9971 := by rw [eI10082, pp_ne _ _ (Or.inr (by decide))]; exact e10073
            have e10089 : I10082 (ad g 50) 4 = v9985 := by rw [eI10082, pp_ne _ _ (Or.inr (by decide))]; exact e10074
            have e10090 : I10082 (ad g 50) 5 = v9996 := by rw [eI10082, pp_ne _ _ (Or.inr (by decide))]; exact e10075
            have e10091 : I10082 (ad g 50) 6 = v10008 := by rw [eI10082, pp_ne _ _ (Or.inr (by decide))]; exact e10076
            have e10092 : I10082 (ad g 50) 7 = v10066 := by rw [eI10082, pp_ne _ _ (Or.inr (by decide))]; exact e10077
            have e10093 : I10082 (ad g 50) 8 = v10081 := by rw [eI10082, pp_self]
            have fr10094 : fz 74 g [50] I I10082 := by rw [eI10082]; exact fzx_pp hy fr10078 (by decide) (by decide)
            clear eI10082
            exact WP_vret dX6_load_215 rfl ⟨⟨hI10082, rfl, fr10094, rfl, (by
                  have yill : I (ad g (6 + 5)) so.toInt.toNat >>> (nI da.toInt.toNat &&& 31) &&& 1 = v9518 := by rw [show I (ad g (6 + 5)) so.toInt.toNat = v9515 from yv9515, show nI da.toInt.toNat = da from (eq32 _ _).mpr (by rw [nI_toInt (by omega)]; omega), xv9518, xv9516, (eq32 v9517 1).mpr hv9517]
                  have yst : I (ad g 6) 4 = v9514 := est
                  unfold LD
                  simp only [e10085, e10086, e10087, e10088, e10089, e10090, e10091, e10092, yill, yst, show I (ad g (6 + 7)) _ = _ from yv9945, show I (ad g (6 + 8)) _ = _ from yv9951, show I (ad g (6 + 9)) _ = _ from yv9958, yv9971, yv9985, true_and, and_true]
                  omega)⟩, rfl⟩
          · refine WQ_iconst (1) (1) dX6_load_207 rfl rfl (fun v10095 hv10095 => ?_)
            refine WP_goto 212 dX6_load_208 rfl ?_
            refine WQ_putz dX6_load_212 fX6_67 rfl rfl (by omega) (lyx_is hy 50 6 rfl) (fun I10096 eI10096 => ?_)
            have hI10096 : XI g n L I10096 := by rw [eI10096]; exact (xi_f hy hI10067 (c := 50) (0) (0) (1) (by decide) (Or.inl (by decide)) (by decide) (by omega) (by omega))
            have e10097 : I10096 (ad g 1) 1 = L := by rw [eI10096, pp_ne _ _ (Or.inl (lyx_ne hy (by decide) (by decide) (by decide)))]; exact e10068
            have e10098 : I10096 (ad g 6) 4 = v9514 := by rw [eI10096, pp_ne _ _ (Or.inl (lyx_ne hy (by decide) (by decide) (by decide)))]; exact e10069
            have e10099 : I10096 (ad g 50) 0 = v9945 := by rw [eI10096, pp_ne _ _ (Or.inr (by decide))]; exact e10070
            have e10100 : I10096 (ad g 50) 1 = v9951 := by rw [eI10096, pp_ne _ _ (Or.inr (by decide))]; exact e10071
            have e10101 : I10096 (ad g 50) 2 = v9958 := by rw [eI10096, pp_ne _ _ (Or.inr (by decide))]; exact e10072
            have e10102 : I10096 (ad g 50) 3 = v9971 := by rw [eI10096, pp_ne _ _ (Or.inr (by decide))]; exact e10073
            have e10103 : I10096 (ad g 50) 4 = v9985 := by rw [eI10096, pp_ne _ _ (Or.inr (by decide))]; exact e10074
            have e10104 : I10096 (ad g 50) 5 = v9996 := by rw [eI10096, pp_ne _ _ (Or.inr (by decide))]; exact e10075
            have e10105 : I10096 (ad g 50) 6 = v10008 := by rw [eI10096, pp_ne _ _ (Or.inr (by decide))]; exact e10076
            have e10106 : I10096 (ad g 50) 7 = v10066 := by rw [eI10096, pp_ne _ _ (Or.inr (by decide))]; exact e10077
            have e10107 : I10096 (ad g 50) 8 = v10095 := by rw [eI10096, pp_self]
            have fr10108 : fz 74 g [50] I I10096 := by rw [eI10096]; exact fzx_pp hy fr10078 (by decide) (by decide)
            clear eI10096
            exact WP_vret dX6_load_215 rfl ⟨⟨hI10096, rfl, fr10108, rfl, (by
                  have yill : I (ad g (6 + 5)) so.toInt.toNat >>> (nI da.toInt.toNat &&& 31) &&& 1 = v9518 := by rw [show I (ad g (6 + 5)) so.toInt.toNat = v9515 from yv9515, show nI da.toInt.toNat = da from (eq32 _ _).mpr (by rw [nI_toInt (by omega)]; omega), xv9518, xv9516, (eq32 v9517 1).mpr hv9517]
                  have yst : I (ad g 6) 4 = v9514 := est
                  unfold LD
                  simp only [e10099, e10100, e10101, e10102, e10103, e10104, e10105, e10106, yill, yst, show I (ad g (6 + 7)) _ = _ from yv9945, show I (ad g (6 + 8)) _ = _ from yv9951, show I (ad g (6 + 9)) _ = _ from yv9958, yv9971, yv9985, true_and, and_true]
                  omega)⟩, rfl⟩
      · refine WQ_iconst (0) (0) dX6_load_115 rfl rfl (fun v10109 hv10109 => ?_)
        refine WP_goto 131 dX6_load_116 rfl ?_
        refine WQ_puti dX6_load_131 fX6_51 rfl rfl (lyx_is hy 50 6 rfl) (fun I10110 eI10110 => ?_)
        have hI10110 : XI g n L I10110 := by rw [eI10110]; exact (xi_f hy hI9972 (c := 50) (0) (0) (20) (by decide) (Or.inl (by decide)) (by decide) (by omega) (by omega))
        have e10111 : I10110 (ad g 1) 1 = L := by rw [eI10110, pp_ne _ _ (Or.inl (lyx_ne hy (by decide) (by decide) (by decide)))]; exact e9973
        have e10112 : I10110 (ad g 6) 4 = v9514 := by rw [eI10110, pp_ne _ _ (Or.inl (lyx_ne hy (by decide) (by decide) (by decide)))]; exact e9974
        have e10113 : I10110 (ad g 50) 0 = v9945 := by rw [eI10110, pp_ne _ _ (Or.inr (by decide))]; exact e9975
        have e10114 : I10110 (ad g 50) 1 = v9951 := by rw [eI10110, pp_ne _ _ (Or.inr (by decide))]; exact e9976
        have e10115 : I10110 (ad g 50) 2 = v9958 := by rw [eI10110, pp_ne _ _ (Or.inr (by decide))]; exact e9977
        have e10116 : I10110 (ad g 50) 3 = v9971 := by rw [eI10110, pp_ne _ _ (Or.inr (by decide))]; exact e9978
        have e10117 : I10110 (ad g 50) 4 = v10109 := by rw [eI10110, pp_self]
        have fr10118 : fz 74 g [50] I I10110 := by rw [eI10110]; exact fzx_pp hy fr9979 (by decide) (by decide)
        clear eI10110
        refine WP_aload_n dX6_load_134 rfl ?_
        refine WP_iload dX6_load_135 rfl ?_
        refine WQ_if_eq 144 dX6_load_137 rfl (fun c10118 => False.elim (by omega)) (fun c10118 => ?_)
        refine WQ_iconst (0) (0) dX6_load_140 rfl rfl (fun v10120 hv10120 => ?_)
        refine WP_goto 148 dX6_load_141 rfl ?_
        refine WQ_puti dX6_load_148 fX6_54 rfl rfl (lyx_is hy 50 6 rfl) (fun I10121 eI10121 => ?_)
        have hI10121 : XI g n L I10121 := by rw [eI10121]; exact (xi_f hy hI10110 (c := 50) (0) (0) (3) (by decide) (Or.inl (by decide)) (by decide) (by omega) (by omega))
        have e10122 : I10121 (ad g 1) 1 = L := by rw [eI10121, pp_ne _ _ (Or.inl (lyx_ne hy (by decide) (by decide) (by decide)))]; exact e10111
        have e10123 : I10121 (ad g 6) 4 = v9514 := by rw [eI10121, pp_ne _ _ (Or.inl (lyx_ne hy (by decide) (by decide) (by decide)))]; exact e10112
        have e10124 : I10121 (ad g 50) 0 = v9945 := by rw [eI10121, pp_ne _ _ (Or.inr (by decide))]; exact e10113
        have e10125 : I10121 (ad g 50) 1 = v9951 := by rw [eI10121, pp_ne _ _ (Or.inr (by decide))]; exact e10114
        have e10126 : I10121 (ad g 50) 2 = v9958 := by rw [eI10121, pp_ne _ _ (Or.inr (by decide))]; exact e10115
        have e10127 : I10121 (ad g 50) 3 = v9971 := by rw [eI10121, pp_ne _ _ (Or.inr (by decide))]; exact e10116
        have e10128 : I10121 (ad g 50) 4 = v10109 := by rw [eI10121, pp_ne _ _ (Or.inr (by decide))]; exact e10117
        have e10129 : I10121 (ad g 50) 5 = v10120 := by rw [eI10121, pp_self]
        have fr10130 : fz 74 g [50] I I10121 := by rw [eI10121]; exact fzx_pp hy fr10118 (by decide) (by decide)
        clear eI10121
        refine WP_aload_n dX6_load_151 rfl ?_
        refine WP_iload dX6_load_152 rfl ?_
        refine WQ_if_ne 163 dX6_load_154 rfl (fun c10130 => ?_) (fun c10130 => False.elim (by omega))
        refine WQ_iconst (0) (0) dX6_load_163 rfl rfl (fun v10132 hv10132 => ?_)
        refine WP_goto 168 dX6_load_164 rfl ?_
        refine WQ_puti dX6_load_168 fX6_57 rfl rfl (lyx_is hy 50 6 rfl) (fun I10133 eI10133 => ?_)
        have hI10133 : XI g n L I10133 := by rw [eI10133]; exact (xi_f hy hI10121 (c := 50) (0) (0) (2) (by decide) (Or.inl (by decide)) (by decide) (by omega) (by omega))
        have e10134 : I10133 (ad g 1) 1 = L := by rw [eI10133, pp_ne _ _ (Or.inl (lyx_ne hy (by decide) (by decide) (by decide)))]; exact e10122
        have e10135 : I10133 (ad g 6) 4 = v9514 := by rw [eI10133, pp_ne _ _ (Or.inl (lyx_ne hy (by decide) (by decide) (by decide)))]; exact e10123
        have e10136 : I10133 (ad g 50) 0 = v9945 := by rw [eI10133, pp_ne _ _ (Or.inr (by decide))]; exact e10124
        have e10137 : I10133 (ad g 50) 1 = v9951 := by rw [eI10133, pp_ne _ _ (Or.inr (by decide))]; exact e10125
        have e10138 : I10133 (ad g 50) 2 = v9958 := by rw [eI10133, pp_ne _ _ (Or.inr (by decide))]; exact e10126
        have e10139 : I10133 (ad g 50) 3 = v9971 := by rw [eI10133, pp_ne _ _ (Or.inr (by decide))]; exact e10127
        have e10140 : I10133 (ad g 50) 4 = v10109 := by rw [eI10133, pp_ne _ _ (Or.inr (by decide))]; exact e10128
        have e10141 : I10133 (ad g 50) 5 = v10120 := by rw [eI10133, pp_ne _ _ (Or.inr (by decide))]; exact e10129
        have e10142 : I10133 (ad g 50) 6 = v10132 := by rw [eI10133, pp_self]
        have fr10143 : fz 74 g [50] I I10133 := by rw [eI10133]; exact fzx_pp hy fr10130 (by decide) (by decide)
        clear eI10133
        refine WP_aload_n dX6_load_171 rfl ?_
        refine WP_aload_n dX6_load_172 rfl ?_
        refine WQ_getim dX6_load_173 fX6_9 rfl (lyx_is hy 50 6 rfl) e10136 ?_
        refine WQ_iconst (-1) (-1) dX6_load_176 rfl rfl (fun v10144 hv10144 => ?_)
        refine WQ_icmp_eq 193 dX6_load_177 rfl (fun c10144 => False.elim (by omega)) (fun c10144 => ?_)
        refine WP_aload_n dX6_load_180 rfl ?_
        refine WQ_getim dX6_load_181 fX6_9 rfl (lyx_is hy 50 6 rfl) e10136 ?_
        refine WP_iload dX6_load_184 rfl ?_
        refine WQ_icmp_ne 193 dX6_load_186 rfl (fun c10145 => ?_) (fun c10145 => False.elim (by omega))
        refine WQ_iconst (0) (0) dX6_load_193 rfl rfl (fun v10147 hv10147 => ?_)
        refine WQ_putz dX6_load_194 fX6_60 rfl rfl (by omega) (lyx_is hy 50 6 rfl) (fun I10148 eI10148 => ?_)
        have hI10148 : XI g n L I10148 := by rw [eI10148]; exact (xi_f hy hI10133 (c := 50) (0) (0) (1) (by decide) (Or.inl (by decide)) (by decide) (by omega) (by omega))
        have e10149 : I10148 (ad g 1) 1 = L := by rw [eI10148, pp_ne _ _ (Or.inl (lyx_ne hy (by decide) (by decide) (by decide)))]; exact e10134
        have e10150 : I10148 (ad g 6) 4 = v9514 := by rw [eI10148, pp_ne _ _ (Or.inl (lyx_ne hy (by decide) (by decide) (by decide)))]; exact e10135
        have e10151 : I10148 (ad g 50) 0 = v9945 := by rw [eI10148, pp_ne _ _ (Or.inr (by decide))]; exact e10136
        have e10152 : I10148 (ad g 50) 1 = v9951 := by rw [eI10148, pp_ne _ _ (Or.inr (by decide))]; exact e10137
        have e10153 : I10148 (ad g 50) 2 = v9958 := by rw [eI10148, pp_ne _ _ (Or.inr (by decide))]; exact e10138
        have e10154 : I10148 (ad g 50) 3 = v9971 := by rw [eI10148, pp_ne _ _ (Or.inr (by decide))]; exact e10139
        have e10155 : I10148 (ad g 50) 4 = v10109 := by rw [eI10148, pp_ne _ _ (Or.inr (by decide))]; exact e10140
        have e10156 : I10148 (ad g 50) 5 = v10120 := by rw [eI10148, pp_ne _ _ (Or.inr (by decide))]; exact e10141
        have e10157 : I10148 (ad g 50) 6 = v10132 := by rw [eI10148, pp_ne _ _ (Or.inr (by decide))]; exact e10142
        have e10158 : I10148 (ad g 50) 7 = v10147 := by rw [eI10148, pp_self]
        have fr10159 : fz 74 g [50] I I10148 := by rw [eI10148]; exact fzx_pp hy fr10143 (by decide) (by decide)
        clear eI10148
        refine WP_aload_n dX6_load_197 rfl ?_
        refine WP_aload_n dX6_load_198 rfl ?_
        refine WP_getr dX6_load_199 fX6_64 rfl (lyx_is hy 5 0 rfl) (rfx hr 5 2 23 (by decide)) ?_
        refine WP_iload_n dX6_load_202 rfl ?_
        refine WQ_iald dX6_load_203 (lyx_is hy 23 13 rfl) (lyx_n hy 23 7 rfl) (by omega) (by omega) (fun q hq => BT_get hI10148.1 23 0 7 (0) (0) (900) (by decide) q (Nat.zero_le _) hq) (fun v10160 av10160 bv10160 ev10160 => ?_)
        clear ev10160
        refine WQ_if_le 211 dX6_load_204 rfl (fun c10160 => ?_) (fun c10160 => ?_)
        · refine WQ_iconst (0) (0) dX6_load_211 rfl rfl (fun v10162 hv10162 => ?_)
          refine WQ_putz dX6_load_212 fX6_67 rfl rfl (by omega) (lyx_is hy 50 6 rfl) (fun I10163 eI10163 => ?_)
          have hI10163 : XI g n L I10163 := by rw [eI10163]; exact (xi_f hy hI10148 (c := 50) (0) (0) (1) (by decide) (Or.inl (by decide)) (by decide) (by omega) (by omega))
          have e10164 : I10163 (ad g 1) 1 = L := by rw [eI10163, pp_ne _ _ (Or.inl (lyx_ne hy (by decide) (by decide) (by decide)))]; exact e10149
          have e10165 : I10163 (ad g 6) 4 = v9514 := by rw [eI10163, pp_ne _ _ (Or.inl (lyx_ne hy (by decide) (by decide) (by decide)))]; exact e10150
          have e10166 : I10163 (ad g 50) 0 = v9945 := by rw [eI10163, pp_ne _ _ (Or.inr (by decide))]; exact e10151
          have e10167 : I10163 (ad g 50) 1 = v9951 := by rw [eI10163, pp_ne _ _ (Or.inr (by decide))]; exact e10152
          have e10168 : I10163 (ad g 50) 2 = v9958 := by rw [eI10163, pp_ne _ _ (Or.inr (by decide))]; exact e10153
          have e10169 : I10163 (ad g 50) 3 = v9971 := by rw [eI10163, pp_ne _ _ (Or.inr (by decide))]; exact e10154
          have e10170 : I10163 (ad g 50) 4 = v10109 := by rw [eI10163, pp_ne _ _ (Or.inr (by decide))]; exact e10155
          have e10171 : I10163 (ad g 50) 5 = v10120 := by rw [eI10163, pp_ne _ _ (Or.inr (by decide))]; exact e10156
          have e10172 : I10163 (ad g 50) 6 = v10132 := by rw [eI10163, pp_ne _ _ (Or.inr (by decide))]; exact e10157
          have e10173 : I10163 (ad g 50) 7 = v10147 := by rw [eI10163, pp_ne _ _ (Or.inr (by decide))]; exact e10158
          have e10174 : I10163 (ad g 50) 8 = v10162 := by rw [eI10163, pp_self]
          have fr10175 : fz 74 g [50] I I10163 := by rw [eI10163]; exact fzx_pp hy fr10159 (by decide) (by decide)
          clear eI10163
          exact WP_vret dX6_load_215 rfl ⟨⟨hI10163, rfl, fr10175, rfl, (by
                have yill : I (ad g (6 + 5)) so.toInt.toNat >>> (nI da.toInt.toNat &&& 31) &&& 1 = v9518 := by rw [show I (ad g (6 + 5)) so.toInt.toNat = v9515 from yv9515, show nI da.toInt.toNat = da from (eq32 _ _).mpr (by rw [nI_toInt (by omega)]; omega), xv9518, xv9516, (eq32 v9517 1).mpr hv9517]
                have yst : I (ad g 6) 4 = v9514 := est
                unfold LD
                simp only [e10166, e10167, e10168, e10169, e10170, e10171, e10172, e10173, yill, yst, show I (ad g (6 + 7)) _ = _ from yv9945, show I (ad g (6 + 8)) _ = _ from yv9951, show I (ad g (6 + 9)) _ = _ from yv9958, yv9971, true_and, and_true]
                omega)⟩, rfl⟩
        · refine WQ_iconst (1) (1) dX6_load_207 rfl rfl (fun v10176 hv10176 => ?_)
          refine WP_goto 212 dX6_load_208 rfl ?_
          refine WQ_putz dX6_load_212 fX6_67 rfl rfl (by omega) (lyx_is hy 50 6 rfl) (fun I10177 eI10177 => ?_)
          have hI10177 : XI g n L I10177 := by rw [eI10177]; exact (xi_f hy hI10148 (c := 50) (0) (0) (1) (by decide) (Or.inl (by decide)) (by decide) (by omega) (by omega))
          have e10178 : I10177 (ad g 1) 1 = L := by rw [eI10177, pp_ne _ _ (Or.inl (lyx_ne hy (by decide) (by decide) (by decide)))]; exact e10149
          have e10179 : I10177 (ad g 6) 4 = v9514 := by rw [eI10177, pp_ne _ _ (Or.inl (lyx_ne hy (by decide) (by decide) (by decide)))]; exact e10150
          have e10180 : I10177 (ad g 50) 0 = v9945 := by rw [eI10177, pp_ne _ _ (Or.inr (by decide))]; exact e10151
          have e10181 : I10177 (ad g 50) 1 = v9951 := by rw [eI10177, pp_ne _ _ (Or.inr (by decide))]; exact e10152
          have e10182 : I10177 (ad g 50) 2 = v9958 := by rw [eI10177, pp_ne _ _ (Or.inr (by decide))]; exact e10153
          have e10183 : I10177 (ad g 50) 3 = v9971 := by rw [eI10177, pp_ne _ _ (Or.inr (by decide))]; exact e10154
          have e10184 : I10177 (ad g 50) 4 = v10109 := by rw [eI10177, pp_ne _ _ (Or.inr (by decide))]; exact e10155
          have e10185 : I10177 (ad g 50) 5 = v10120 := by rw [eI10177, pp_ne _ _ (Or.inr (by decide))]; exact e10156
          have e10186 : I10177 (ad g 50) 6 = v10132 := by rw [eI10177, pp_ne _ _ (Or.inr (by decide))]; exact e10157
          have e10187 : I10177 (ad g 50) 7 = v10147 := by rw [eI10177, pp_ne _ _ (Or.inr (by decide))]; exact e10158
          have e10188 : I10177 (ad g 50) 8 = v10176 := by rw [eI10177, pp_self]
          have fr10189 : fz 74 g [50] I I10177 := by rw [eI10177]; exact fzx_pp hy fr10159 (by decide) (by decide)
          clear eI10177
          exact WP_vret dX6_load_215 rfl ⟨⟨hI10177, rfl, fr10189, rfl, (by
                have yill : I (ad g (6 + 5)) so.toInt.toNat >>> (nI da.toInt.toNat &&& 31) &&& 1 = v9518 := by rw [show I (ad g (6 + 5)) so.toInt.toNat = v9515 from yv9515, show nI da.toInt.toNat = da from (eq32 _ _).mpr (by rw [nI_toInt (by omega)]; omega), xv9518, xv9516, (eq32 v9517 1).mpr hv9517]
                have yst : I (ad g 6) 4 = v9514 := est
                unfold LD
                simp only [e10180, e10181, e10182, e10183, e10184, e10185, e10186, e10187, yill, yst, show I (ad g (6 + 7)) _ = _ from yv9945, show I (ad g (6 + 8)) _ = _ from yv9951, show I (ad g (6 + 9)) _ = _ from yv9958, yv9971, true_and, and_true]
                omega)⟩, rfl⟩
    · refine WQ_iconst (0) (0) dX6_load_87 rfl rfl (fun v10190 hv10190 => ?_)
      refine WP_goto 105 dX6_load_88 rfl ?_
      refine WQ_puti dX6_load_105 fX6_48 rfl rfl (lyx_is hy 50 6 rfl) (fun I10191 eI10191 => ?_)
      have hI10191 : XI g n L I10191 := by rw [eI10191]; exact (xi_f hy hI9959 (c := 50) (0) (0) (20) (by decide) (Or.inl (by decide)) (by decide) (by omega) (by omega))
      have e10192 : I10191 (ad g 1) 1 = L := by rw [eI10191, pp_ne _ _ (Or.inl (lyx_ne hy (by decide) (by decide) (by decide)))]; exact e9960
      have e10193 : I10191 (ad g 6) 4 = v9514 := by rw [eI10191, pp_ne _ _ (Or.inl (lyx_ne hy (by decide) (by decide) (by decide)))]; exact e9961
      have e10194 : I10191 (ad g 50) 0 = v9945 := by rw [eI10191, pp_ne _ _ (Or.inr (by decide))]; exact e9962
      have e10195 : I10191 (ad g 50) 1 = v9951 := by rw [eI10191, pp_ne _ _ (Or.inr (by decide))]; exact e9963
      have e10196 : I10191 (ad g 50) 2 = v9958 := by rw [eI10191, pp_ne _ _ (Or.inr (by decide))]; exact e9964
      have e10197 : I10191 (ad g 50) 3 = v10190 := by rw [eI10191, pp_self]
      have fr10198 : fz 74 g [50] I I10191 := by rw [eI10191]; exact fzx_pp hy fr9965 (by decide) (by decide)
      clear eI10191
      refine WP_aload_n dX6_load_108 rfl ?_
      refine WP_iload dX6_load_109 rfl ?_
      refine WQ_iconst (-1) (-1) dX6_load_111 rfl rfl (fun v10199 hv10199 => ?_)
      refine WQ_icmp_ne 119 dX6_load_112 rfl (fun c10199 => ?_) (fun c10199 => ?_)
      · refine WP_aload_n dX6_load_119 rfl ?_
        refine WP_getr dX6_load_120 fX6_45 rfl (lyx_is hy 5 0 rfl) (rfx hr 5 1 22 (by decide)) ?_
        refine WP_iload dX6_load_123 rfl ?_
        refine WQ_bipush (7) (7) dX6_load_125 rfl rfl (fun v10201 hv10201 => ?_)
        refine WQ_imulk (7) dX6_load_127 hv10201 (by omega) (by omega) (fun v10202 hv10202 => ?_)
        refine WP_iload_n dX6_load_128 rfl ?_
        refine WQ_iadd dX6_load_129 (by omega) (by omega) (fun v10203 hv10203 => ?_)
        refine WQ_ialdb dX6_load_130 (lyx_is hy 22 13 rfl) (lyx_n hy 22 21 rfl) (by omega) (by omega) (fun q hq => BT_get hI10191.1 22 0 21 (0) (0) (20) (by decide) q (Nat.zero_le _) hq) (fun v10204 av10204 bv10204 zv10204 => ?_)
        have yv10204 : I (ad g 22) (7 * v9514.toInt + da.toInt).toNat = v10204 := by rw [← fz_at fr10198 22 (by decide) (by decide), show (7 * v9514.toInt + da.toInt).toNat = v10203.toInt.toNat by omega]; exact zv10204
        refine WQ_puti dX6_load_131 fX6_51 rfl rfl (lyx_is hy 50 6 rfl) (fun I10205 eI10205 => ?_)
        have hI10205 : XI g n L I10205 := by rw [eI10205]; exact (xi_f hy hI10191 (c := 50) (0) (0) (20) (by decide) (Or.inl (by decide)) (by decide) (by omega) (by omega))
        have e10206 : I10205 (ad g 1) 1 = L := by rw [eI10205, pp_ne _ _ (Or.inl (lyx_ne hy (by decide) (by decide) (by decide)))]; exact e10192
        have e10207 : I10205 (ad g 6) 4 = v9514 := by rw [eI10205, pp_ne _ _ (Or.inl (lyx_ne hy (by decide) (by decide) (by decide)))]; exact e10193
        have e10208 : I10205 (ad g 50) 0 = v9945 := by rw [eI10205, pp_ne _ _ (Or.inr (by decide))]; exact e10194
        have e10209 : I10205 (ad g 50) 1 = v9951 := by rw [eI10205, pp_ne _ _ (Or.inr (by decide))]; exact e10195
        have e10210 : I10205 (ad g 50) 2 = v9958 := by rw [eI10205, pp_ne _ _ (Or.inr (by decide))]; exact e10196
        have e10211 : I10205 (ad g 50) 3 = v10190 := by rw [eI10205, pp_ne _ _ (Or.inr (by decide))]; exact e10197
        have e10212 : I10205 (ad g 50) 4 = v10204 := by rw [eI10205, pp_self]
        have fr10213 : fz 74 g [50] I I10205 := by rw [eI10205]; exact fzx_pp hy fr10198 (by decide) (by decide)
        clear eI10205
        refine WP_aload_n dX6_load_134 rfl ?_
        refine WP_iload dX6_load_135 rfl ?_
        refine WQ_if_eq 144 dX6_load_137 rfl (fun c10213 => False.elim (by omega)) (fun c10213 => ?_)
        refine WQ_iconst (0) (0) dX6_load_140 rfl rfl (fun v10215 hv10215 => ?_)
        refine WP_goto 148 dX6_load_141 rfl ?_
        refine WQ_puti dX6_load_148 fX6_54 rfl rfl (lyx_is hy 50 6 rfl) (fun I10216 eI10216 => ?_)
        have hI10216 : XI g n L I10216 := by rw [eI10216]; exact (xi_f hy hI10205 (c := 50) (0) (0) (3) (by decide) (Or.inl (by decide)) (by decide) (by omega) (by omega))
        have e10217 : I10216 (ad g 1) 1 = L := by rw [eI10216, pp_ne _ _ (Or.inl (lyx_ne hy (by decide) (by decide) (by decide)))]; exact e10206
        have e10218 : I10216 (ad g 6) 4 = v9514 := by rw [eI10216, pp_ne _ _ (Or.inl (lyx_ne hy (by decide) (by decide) (by decide)))]; exact e10207
        have e10219 : I10216 (ad g 50) 0 = v9945 := by rw [eI10216, pp_ne _ _ (Or.inr (by decide))]; exact e10208
        have e10220 : I10216 (ad g 50) 1 = v9951 := by rw [eI10216, pp_ne _ _ (Or.inr (by decide))]; exact e10209
        have e10221 : I10216 (ad g 50) 2 = v9958 := by rw [eI10216, pp_ne _ _ (Or.inr (by decide))]; exact e10210
        have e10222 : I10216 (ad g 50) 3 = v10190 := by rw [eI10216, pp_ne _ _ (Or.inr (by decide))]; exact e10211
        have e10223 : I10216 (ad g 50) 4 = v10204 := by rw [eI10216, pp_ne _ _ (Or.inr (by decide))]; exact e10212
        have e10224 : I10216 (ad g 50) 5 = v10215 := by rw [eI10216, pp_self]
        have fr10225 : fz 74 g [50] I I10216 := by rw [eI10216]; exact fzx_pp hy fr10213 (by decide) (by decide)
        clear eI10216
        refine WP_aload_n dX6_load_151 rfl ?_
        refine WP_iload dX6_load_152 rfl ?_
        refine WQ_if_ne 163 dX6_load_154 rfl (fun c10225 => ?_) (fun c10225 => False.elim (by omega))
        refine WQ_iconst (0) (0) dX6_load_163 rfl rfl (fun v10227 hv10227 => ?_)
        refine WP_goto 168 dX6_load_164 rfl ?_
        refine WQ_puti dX6_load_168 fX6_57 rfl rfl (lyx_is hy 50 6 rfl) (fun I10228 eI10228 => ?_)
        have hI10228 : XI g n L I10228 := by rw [eI10228]; exact (xi_f hy hI10216 (c := 50) (0) (0) (2) (by decide) (Or.inl (by decide)) (by decide) (by omega) (by omega))
        have e10229 : I10228 (ad g 1) 1 = L := by rw [eI10228, pp_ne _ _ (Or.inl (lyx_ne hy (by decide) (by decide) (by decide)))]; exact e10217
        have e10230 : I10228 (ad g 6) 4 = v9514 := by rw [eI10228, pp_ne _ _ (Or.inl (lyx_ne hy (by decide) (by decide) (by decide)))]; exact e10218
        have e10231 : I10228 (ad g 50) 0 = v9945 := by rw [eI10228, pp_ne _ _ (Or.inr (by decide))]; exact e10219
        have e10232 : I10228 (ad g 50) 1 = v9951 := by rw [eI10228, pp_ne _ _ (Or.inr (by decide))]; exact e10220
        have e10233 : I10228 (ad g 50) 2 = v9958 := by rw [eI10228, pp_ne _ _ (Or.inr (by decide))]; exact e10221
        have e10234 : I10228 (ad g 50) 3 = v10190 := by rw [eI10228, pp_ne _ _ (Or.inr (by decide))]; exact e10222
        have e10235 : I10228 (ad g 50) 4 = v10204 := by rw [eI10228, pp_ne _ _ (Or.inr (by decide))]; exact e10223
        have e10236 : I10228 (ad g 50) 5 = v10215 := by rw [eI10228, pp_ne _ _ (Or.inr (by decide))]; exact e10224
        have e10237 : I10228 (ad g 50) 6 = v10227 := by rw [eI10228, pp_self]
        have fr10238 : fz 74 g [50] I I10228 := by rw [eI10228]; exact fzx_pp hy fr10225 (by decide) (by decide)
        clear eI10228
        refine WP_aload_n dX6_load_171 rfl ?_
        refine WP_aload_n dX6_load_172 rfl ?_
        refine WQ_getim dX6_load_173 fX6_9 rfl (lyx_is hy 50 6 rfl) e10231 ?_
        refine WQ_iconst (-1) (-1) dX6_load_176 rfl rfl (fun v10239 hv10239 => ?_)
        refine WQ_icmp_eq 193 dX6_load_177 rfl (fun c10239 => ?_) (fun c10239 => False.elim (by omega))
        refine WQ_iconst (0) (0) dX6_load_193 rfl rfl (fun v10241 hv10241 => ?_)
        refine WQ_putz dX6_load_194 fX6_60 rfl rfl (by omega) (lyx_is hy 50 6 rfl) (fun I10242 eI10242 => ?_)
        have hI10242 : XI g n L I10242 := by rw [eI10242]; exact (xi_f hy hI10228 (c := 50) (0) (0) (1) (by decide) (Or.inl (by decide)) (by decide) (by omega) (by omega))
        have e10243 : I10242 (ad g 1) 1 = L := by rw [eI10242, pp_ne _ _ (Or.inl (lyx_ne hy (by decide) (by decide) (by decide)))]; exact e10229
        have e10244 : I10242 (ad g 6) 4 = v9514 := by rw [eI10242, pp_ne _ _ (Or.inl (lyx_ne hy (by decide) (by decide) (by decide)))]; exact e10230
        have e10245 : I10242 (ad g 50) 0 = v9945 := by rw [eI10242, pp_ne _ _ (Or.inr (by decide))]; exact e10231
        have e10246 : I10242 (ad g 50) 1 = v9951 := by rw [eI10242, pp_ne _ _ (Or.inr (by decide))]; exact e10232
        have e10247 : I10242 (ad g 50) 2 = v9958 := by rw [eI10242, pp_ne _ _ (Or.inr (by decide))]; exact e10233
        have e10248 : I10242 (ad g 50) 3 = v10190 := by rw [eI10242, pp_ne _ _ (Or.inr (by decide))]; exact e10234
        have e10249 : I10242 (ad g 50) 4 = v10204 := by rw [eI10242, pp_ne _ _ (Or.inr (by decide))]; exact e10235
        have e10250 : I10242 (ad g 50) 5 = v10215 := by rw [eI10242, pp_ne _ _ (Or.inr (by decide))]; exact e10236
        have e10251 : I10242 (ad g 50) 6 = v10227 := by rw [eI10242, pp_ne _ _ (Or.inr (by decide))]; exact e10237
        have e10252 : I10242 (ad g 50) 7 = v10241 := by rw [eI10242, pp_self]
        have fr10253 : fz 74 g [50] I I10242 := by rw [eI10242]; exact fzx_pp hy fr10238 (by decide) (by decide)
        clear eI10242
        refine WP_aload_n dX6_load_197 rfl ?_
        refine WP_aload_n dX6_load_198 rfl ?_
        refine WP_getr dX6_load_199 fX6_64 rfl (lyx_is hy 5 0 rfl) (rfx hr 5 2 23 (by decide)) ?_
        refine WP_iload_n dX6_load_202 rfl ?_
        refine WQ_iald dX6_load_203 (lyx_is hy 23 13 rfl) (lyx_n hy 23 7 rfl) (by omega) (by omega) (fun q hq => BT_get hI10242.1 23 0 7 (0) (0) (900) (by decide) q (Nat.zero_le _) hq) (fun v10254 av10254 bv10254 ev10254 => ?_)
        clear ev10254
        refine WQ_if_le 211 dX6_load_204 rfl (fun c10254 => ?_) (fun c10254 => ?_)
        · refine WQ_iconst (0) (0) dX6_load_211 rfl rfl (fun v10256 hv10256 => ?_)
          refine WQ_putz dX6_load_212 fX6_67 rfl rfl (by omega) (lyx_is hy 50 6 rfl) (fun I10257 eI10257 => ?_)
          have hI10257 : XI g n L I10257 := by rw [eI10257]; exact (xi_f hy hI10242 (c := 50) (0) (0) (1) (by decide) (Or.inl (by decide)) (by decide) (by omega) (by omega))
          have e10258 : I10257 (ad g 1) 1 = L := by rw [eI10257, pp_ne _ _ (Or.inl (lyx_ne hy (by decide) (by decide) (by decide)))]; exact e10243
          have e10259 : I10257 (ad g 6) 4 = v9514 := by rw [eI10257, pp_ne _ _ (Or.inl (lyx_ne hy (by decide) (by decide) (by decide)))]; exact e10244
          have e10260 : I10257 (ad g 50) 0 = v9945 := by rw [eI10257, pp_ne _ _ (Or.inr (by decide))]; exact e10245
          have e10261 : I10257 (ad g 50) 1 = v9951 := by rw [eI10257, pp_ne _ _ (Or.inr (by decide))]; exact e10246
          have e10262 : I10257 (ad g 50) 2 = v9958 := by rw [eI10257, pp_ne _ _ (Or.inr (by decide))]; exact e10247
          have e10263 : I10257 (ad g 50) 3 = v10190 := by rw [eI10257, pp_ne _ _ (Or.inr (by decide))]; exact e10248
          have e10264 : I10257 (ad g 50) 4 = v10204 := by rw [eI10257, pp_ne _ _ (Or.inr (by decide))]; exact e10249
          have e10265 : I10257 (ad g 50) 5 = v10215 := by rw [eI10257, pp_ne _ _ (Or.inr (by decide))]; exact e10250
          have e10266 : I10257 (ad g 50) 6 = v10227 := by rw [eI10257, pp_ne _ _ (Or.inr (by decide))]; exact e10251
          have e10267 : I10257 (ad g 50) 7 = v10241 := by rw [eI10257, pp_ne _ _ (Or.inr (by decide))]; exact e10252
          have e10268 : I10257 (ad g 50) 8 = v10256 := by rw [eI10257, pp_self]
          have fr10269 : fz 74 g [50] I I10257 := by rw [eI10257]; exact fzx_pp hy fr10253 (by decide) (by decide)
          clear eI10257
          exact WP_vret dX6_load_215 rfl ⟨⟨hI10257, rfl, fr10269, rfl, (by
                have yill : I (ad g (6 + 5)) so.toInt.toNat >>> (nI da.toInt.toNat &&& 31) &&& 1 = v9518 := by rw [show I (ad g (6 + 5)) so.toInt.toNat = v9515 from yv9515, show nI da.toInt.toNat = da from (eq32 _ _).mpr (by rw [nI_toInt (by omega)]; omega), xv9518, xv9516, (eq32 v9517 1).mpr hv9517]
                have yst : I (ad g 6) 4 = v9514 := est
                unfold LD
                simp only [e10260, e10261, e10262, e10263, e10264, e10265, e10266, e10267, yill, yst, show I (ad g (6 + 7)) _ = _ from yv9945, show I (ad g (6 + 8)) _ = _ from yv9951, show I (ad g (6 + 9)) _ = _ from yv9958, yv10204, true_and, and_true]
                omega)⟩, rfl⟩
        · refine WQ_iconst (1) (1) dX6_load_207 rfl rfl (fun v10270 hv10270 => ?_)
          refine WP_goto 212 dX6_load_208 rfl ?_
          refine WQ_putz dX6_load_212 fX6_67 rfl rfl (by omega) (lyx_is hy 50 6 rfl) (fun I10271 eI10271 => ?_)
          have hI10271 : XI g n L I10271 := by rw [eI10271]; exact (xi_f hy hI10242 (c := 50) (0) (0) (1) (by decide) (Or.inl (by decide)) (by decide) (by omega) (by omega))
          have e10272 : I10271 (ad g 1) 1 = L := by rw [eI10271, pp_ne _ _ (Or.inl (lyx_ne hy (by decide) (by decide) (by decide)))]; exact e10243
          have e10273 : I10271 (ad g 6) 4 = v9514 := by rw [eI10271, pp_ne _ _ (Or.inl (lyx_ne hy (by decide) (by decide) (by decide)))]; exact e10244
          have e10274 : I10271 (ad g 50) 0 = v9945 := by rw [eI10271, pp_ne _ _ (Or.inr (by decide))]; exact e10245
          have e10275 : I10271 (ad g 50) 1 = v9951 := by rw [eI10271, pp_ne _ _ (Or.inr (by decide))]; exact e10246
          have e10276 : I10271 (ad g 50) 2 = v9958 := by rw [eI10271, pp_ne _ _ (Or.inr (by decide))]; exact e10247
          have e10277 : I10271 (ad g 50) 3 = v10190 := by rw [eI10271, pp_ne _ _ (Or.inr (by decide))]; exact e10248
          have e10278 : I10271 (ad g 50) 4 = v10204 := by rw [eI10271, pp_ne _ _ (Or.inr (by decide))]; exact e10249
          have e10279 : I10271 (ad g 50) 5 = v10215 := by rw [eI10271, pp_ne _ _ (Or.inr (by decide))]; exact e10250
          have e10280 : I10271 (ad g 50) 6 = v10227 := by rw [eI10271, pp_ne _ _ (Or.inr (by decide))]; exact e10251
          have e10281 : I10271 (ad g 50) 7 = v10241 := by rw [eI10271, pp_ne _ _ (Or.inr (by decide))]; exact e10252
          have e10282 : I10271 (ad g 50) 8 = v10270 := by rw [eI10271, pp_self]
          have fr10283 : fz 74 g [50] I I10271 := by rw [eI10271]; exact fzx_pp hy fr10253 (by decide) (by decide)
          clear eI10271
          exact WP_vret dX6_load_215 rfl ⟨⟨hI10271, rfl, fr10283, rfl, (by
                have yill : I (ad g (6 + 5)) so.toInt.toNat >>> (nI da.toInt.toNat &&& 31) &&& 1 = v9518 := by rw [show I (ad g (6 + 5)) so.toInt.toNat = v9515 from yv9515, show nI da.toInt.toNat = da from (eq32 _ _).mpr (by rw [nI_toInt (by omega)]; omega), xv9518, xv9516, (eq32 v9517 1).mpr hv9517]
                have yst : I (ad g 6) 4 = v9514 := est
                unfold LD
                simp only [e10274, e10275, e10276, e10277, e10278, e10279, e10280, e10281, yill, yst, show I (ad g (6 + 7)) _ = _ from yv9945, show I (ad g (6 + 8)) _ = _ from yv9951, show I (ad g (6 + 9)) _ = _ from yv9958, yv10204, true_and, and_true]
                omega)⟩, rfl⟩
      · refine WQ_iconst (0) (0) dX6_load_115 rfl rfl (fun v10284 hv10284 => ?_)
        refine WP_goto 131 dX6_load_116 rfl ?_
        refine WQ_puti dX6_load_131 fX6_51 rfl rfl (lyx_is hy 50 6 rfl) (fun I10285 eI10285 => ?_)
        have hI10285 : XI g n L I10285 := by rw [eI10285]; exact (xi_f hy hI10191 (c := 50) (0) (0) (20) (by decide) (Or.inl (by decide)) (by decide) (by omega) (by omega))
        have e10286 : I10285 (ad g 1) 1 = L := by rw [eI10285, pp_ne _ _ (Or.inl (lyx_ne hy (by decide) (by decide) (by decide)))]; exact e10192
        have e10287 : I10285 (ad g 6) 4 = v9514 := by rw [eI10285, pp_ne _ _ (Or.inl (lyx_ne hy (by decide) (by decide) (by decide)))]; exact e10193
        have e10288 : I10285 (ad g 50) 0 = v9945 := by rw [eI10285, pp_ne _ _ (Or.inr (by decide))]; exact e10194
        have e10289 : I10285 (ad g 50) 1 = v9951 := by rw [eI10285, pp_ne _ _ (Or.inr (by decide))]; exact e10195
        have e10290 : I10285 (ad g 50) 2 = v9958 := by rw [eI10285, pp_ne _ _ (Or.inr (by decide))]; exact e10196
        have e10291 : I10285 (ad g 50) 3 = v10190 := by rw [eI10285, pp_ne _ _ (Or.inr (by decide))]; exact e10197
        have e10292 : I10285 (ad g 50) 4 = v10284 := by rw [eI10285, pp_self]
        have fr10293 : fz 74 g [50] I I10285 := by rw [eI10285]; exact fzx_pp hy fr10198 (by decide) (by decide)
        clear eI10285
        refine WP_aload_n dX6_load_134 rfl ?_
        refine WP_iload dX6_load_135 rfl ?_
        refine WQ_if_eq 144 dX6_load_137 rfl (fun c10293 => False.elim (by omega)) (fun c10293 => ?_)
        refine WQ_iconst (0) (0) dX6_load_140 rfl rfl (fun v10295 hv10295 => ?_)
        refine WP_goto 148 dX6_load_141 rfl ?_
        refine WQ_puti dX6_load_148 fX6_54 rfl rfl (lyx_is hy 50 6 rfl) (fun I10296 eI10296 => ?_)
        have hI10296 : XI g n L I10296 := by rw [eI10296]; exact (xi_f hy hI10285 (c := 50) (0) (0) (3) (by decide) (Or.inl (by decide)) (by decide) (by omega) (by omega))
        have e10297 : I10296 (ad g 1) 1 = L := by rw [eI10296, pp_ne _ _ (Or.inl (lyx_ne hy (by decide) (by decide) (by decide)))]; exact e10286
        have e10298 : I10296 (ad g 6) 4 = v9514 := by rw [eI10296, pp_ne _ _ (Or.inl (lyx_ne hy (by decide) (by decide) (by decide)))]; exact e10287
        have e10299 : I10296 (ad g 50) 0 = v9945 := by rw [eI10296, pp_ne _ _ (Or.inr (by decide))]; exact e10288
        have e10300 : I10296 (ad g 50) 1 = v9951 := by rw [eI10296, pp_ne _ _ (Or.inr (by decide))]; exact e10289
        have e10301 : I10296 (ad g 50) 2 = v9958 := by rw [eI10296, pp_ne _ _ (Or.inr (by decide))]; exact e10290
        have e10302 : I10296 (ad g 50) 3 = v10190 := by rw [eI10296, pp_ne _ _ (Or.inr (by decide))]; exact e10291
        have e10303 : I10296 (ad g 50) 4 = v10284 := by rw [eI10296, pp_ne _ _ (Or.inr (by decide))]; exact e10292
        have e10304 : I10296 (ad g 50) 5 = v10295 := by rw [eI10296, pp_self]
        have fr10305 : fz 74 g [50] I I10296 := by rw [eI10296]; exact fzx_pp hy fr10293 (by decide) (by decide)
        clear eI10296
        refine WP_aload_n dX6_load_151 rfl ?_
        refine WP_iload dX6_load_152 rfl ?_
        refine WQ_if_ne 163 dX6_load_154 rfl (fun c10305 => ?_) (fun c10305 => False.elim (by omega))
        refine WQ_iconst (0) (0) dX6_load_163 rfl rfl (fun v10307 hv10307 => ?_)
        refine WP_goto 168 dX6_load_164 rfl ?_
        refine WQ_puti dX6_load_168 fX6_57 rfl rfl (lyx_is hy 50 6 rfl) (fun I10308 eI10308 => ?_)
        have hI10308 : XI g n L I10308 := by rw [eI10308]; exact (xi_f hy hI10296 (c := 50) (0) (0) (2) (by decide) (Or.inl (by decide)) (by decide) (by omega) (by omega))
        have e10309 : I10308 (ad g 1) 1 = L := by rw [eI10308, pp_ne _ _ (Or.inl (lyx_ne hy (by decide) (by decide) (by decide)))]; exact e10297
        have e10310 : I10308 (ad g 6) 4 = v9514 := by rw [eI10308, pp_ne _ _ (Or.inl (lyx_ne hy (by decide) (by decide) (by decide)))]; exact e10298
        have e10311 : I10308 (ad g 50) 0 = v9945 := by rw [eI10308, pp_ne _ _ (Or.inr (by decide))]; exact e10299
        have e10312 : I10308 (ad g 50) 1 = v9951 := by rw [eI10308, pp_ne _ _ (Or.inr (by decide))]; exact e10300
        have e10313 : I10308 (ad g 50) 2 = v9958 := by rw [eI10308, pp_ne _ _ (Or.inr (by decide))]; exact e10301
        have e10314 : I10308 (ad g 50) 3 = v10190 := by rw [eI10308, pp_ne _ _ (Or.inr (by decide))]; exact e10302
        have e10315 : I10308 (ad g 50) 4 = v10284 := by rw [eI10308, pp_ne _ _ (Or.inr (by decide))]; exact e10303
        have e10316 : I10308 (ad g 50) 5 = v10295 := by rw [eI10308, pp_ne _ _ (Or.inr (by decide))]; exact e10304
        have e10317 : I10308 (ad g 50) 6 = v10307 := by rw [eI10308, pp_self]
        have fr10318 : fz 74 g [50] I I10308 := by rw [eI10308]; exact fzx_pp hy fr10305 (by decide) (by decide)
        clear eI10308
        refine WP_aload_n dX6_load_171 rfl ?_
        refine WP_aload_n dX6_load_172 rfl ?_
        refine WQ_getim dX6_load_173 fX6_9 rfl (lyx_is hy 50 6 rfl) e10311 ?_
        refine WQ_iconst (-1) (-1) dX6_load_176 rfl rfl (fun v10319 hv10319 => ?_)
        refine WQ_icmp_eq 193 dX6_load_177 rfl (fun c10319 => ?_) (fun c10319 => False.elim (by omega))
        refine WQ_iconst (0) (0) dX6_load_193 rfl rfl (fun v10321 hv10321 => ?_)
        refine WQ_putz dX6_load_194 fX6_60 rfl rfl (by omega) (lyx_is hy 50 6 rfl) (fun I10322 eI10322 => ?_)
        have hI10322 : XI g n L I10322 := by rw [eI10322]; exact (xi_f hy hI10308 (c := 50) (0) (0) (1) (by decide) (Or.inl (by decide)) (by decide) (by omega) (by omega))
        have e10323 : I10322 (ad g 1) 1 = L := by rw [eI10322, pp_ne _ _ (Or.inl (lyx_ne hy (by decide) (by decide) (by decide)))]; exact e10309
        have e10324 : I10322 (ad g 6) 4 = v9514 := by rw [eI10322, pp_ne _ _ (Or.inl (lyx_ne hy (by decide) (by decide) (by decide)))]; exact e10310
        have e10325 : I10322 (ad g 50) 0 = v9945 := by rw [eI10322, pp_ne _ _ (Or.inr (by decide))]; exact e10311
        have e10326 : I10322 (ad g 50) 1 = v9951 := by rw [eI10322, pp_ne _ _ (Or.inr (by decide))]; exact e10312
        have e10327 : I10322 (ad g 50) 2 = v9958 := by rw [eI10322, pp_ne _ _ (Or.inr (by decide))]; exact e10313
        have e10328 : I10322 (ad g 50) 3 = v10190 := by rw [eI10322, pp_ne _ _ (Or.inr (by decide))]; exact e10314
        have e10329 : I10322 (ad g 50) 4 = v10284 := by rw [eI10322, pp_ne _ _ (Or.inr (by decide))]; exact e10315
        have e10330 : I10322 (ad g 50) 5 = v10295 := by rw [eI10322, pp_ne _ _ (Or.inr (by decide))]; exact e10316
        have e10331 : I10322 (ad g 50) 6 = v10307 := by rw [eI10322, pp_ne _ _ (Or.inr (by decide))]; exact e10317
        have e10332 : I10322 (ad g 50) 7 = v10321 := by rw [eI10322, pp_self]
        have fr10333 : fz 74 g [50] I I10322 := by rw [eI10322]; exact fzx_pp hy fr10318 (by decide) (by decide)
        clear eI10322
        refine WP_aload_n dX6_load_197 rfl ?_
        refine WP_aload_n dX6_load_198 rfl ?_
        refine WP_getr dX6_load_199 fX6_64 rfl (lyx_is hy 5 0 rfl) (rfx hr 5 2 23 (by decide)) ?_
        refine WP_iload_n dX6_load_202 rfl ?_
        refine WQ_iald dX6_load_203 (lyx_is hy 23 13 rfl) (lyx_n hy 23 7 rfl) (by omega) (by omega) (fun q hq => BT_get hI10322.1 23 0 7 (0) (0) (900) (by decide) q (Nat.zero_le _) hq) (fun v10334 av10334 bv10334 ev10334 => ?_)
        clear ev10334
        refine WQ_if_le 211 dX6_load_204 rfl (fun c10334 => ?_) (fun c10334 => ?_)
        · refine WQ_iconst (0) (0) dX6_load_211 rfl rfl (fun v10336 hv10336 => ?_)
          refine WQ_putz dX6_load_212 fX6_67 rfl rfl (by omega) (lyx_is hy 50 6 rfl) (fun I10337 eI10337 => ?_)
          have hI10337 : XI g n L I10337 := by rw [eI10337]; exact (xi_f hy hI10322 (c := 50) (0) (0) (1) (by decide) (Or.inl (by decide)) (by decide) (by omega) (by omega))
          have e10338 : I10337 (ad g 1) 1 = L := by rw [eI10337, pp_ne _ _ (Or.inl (lyx_ne hy (by decide) (by decide) (by decide)))]; exact e10323
          have e10339 : I10337 (ad g 6) 4 = v9514 := by rw [eI10337, pp_ne _ _ (Or.inl (lyx_ne hy (by decide) (by decide) (by decide)))]; exact e10324
          have e10340 : I10337 (ad g 50) 0 = v9945 := by rw [eI10337, pp_ne _ _ (Or.inr (by decide))]; exact e10325
          have e10341 : I10337 (ad g 50) 1 = v9951 := by rw [eI10337, pp_ne _ _ (Or.inr (by decide))]; exact e10326
          have e10342 : I10337 (ad g 50) 2 = v9958 := by rw [eI10337, pp_ne _ _ (Or.inr (by decide))]; exact e10327
          have e10343 : I10337 (ad g 50) 3 = v10190 := by rw [eI10337, pp_ne _ _ (Or.inr (by decide))]; exact e10328
          have e10344 : I10337 (ad g 50) 4 = v10284 := by rw [eI10337, pp_ne _ _ (Or.inr (by decide))]; exact e10329
          have e10345 : I10337 (ad g 50) 5 = v10295 := by rw [eI10337, pp_ne _ _ (Or.inr (by decide))]; exact e10330
          have e10346 : I10337 (ad g 50) 6 = v10307 := by rw [eI10337, pp_ne _ _ (Or.inr (by decide))]; exact e10331
          have e10347 : I10337 (ad g 50) 7 = v10321 := by rw [eI10337, pp_ne _ _ (Or.inr (by decide))]; exact e10332
          have e10348 : I10337 (ad g 50) 8 = v10336 := by rw [eI10337, pp_self]
          have fr10349 : fz 74 g [50] I I10337 := by rw [eI10337]; exact fzx_pp hy fr10333 (by decide) (by decide)
          clear eI10337
          exact WP_vret dX6_load_215 rfl ⟨⟨hI10337, rfl, fr10349, rfl, (by
                have yill : I (ad g (6 + 5)) so.toInt.toNat >>> (nI da.toInt.toNat &&& 31) &&& 1 = v9518 := by rw [show I (ad g (6 + 5)) so.toInt.toNat = v9515 from yv9515, show nI da.toInt.toNat = da from (eq32 _ _).mpr (by rw [nI_toInt (by omega)]; omega), xv9518, xv9516, (eq32 v9517 1).mpr hv9517]
                have yst : I (ad g 6) 4 = v9514 := est
                unfold LD
                simp only [e10340, e10341, e10342, e10343, e10344, e10345, e10346, e10347, yill, yst, show I (ad g (6 + 7)) _ = _ from yv9945, show I (ad g (6 + 8)) _ = _ from yv9951, show I (ad g (6 + 9)) _ = _ from yv9958, true_and, and_true]
                omega)⟩, rfl⟩
        · refine WQ_iconst (1) (1) dX6_load_207 rfl rfl (fun v10350 hv10350 => ?_)
          refine WP_goto 212 dX6_load_208 rfl ?_
          refine WQ_putz dX6_load_212 fX6_67 rfl rfl (by omega) (lyx_is hy 50 6 rfl) (fun I10351 eI10351 => ?_)
          have hI10351 : XI g n L I10351 := by rw [eI10351]; exact (xi_f hy hI10322 (c := 50) (0) (0) (1) (by decide) (Or.inl (by decide)) (by decide) (by omega) (by omega))
          have e10352 : I10351 (ad g 1) 1 = L := by rw [eI10351, pp_ne _ _ (Or.inl (lyx_ne hy (by decide) (by decide) (by decide)))]; exact e10323
          have e10353 : I10351 (ad g 6) 4 = v9514 := by rw [eI10351, pp_ne _ _ (Or.inl (lyx_ne hy (by decide) (by decide) (by decide)))]; exact e10324
          have e10354 : I10351 (ad g 50) 0 = v9945 := by rw [eI10351, pp_ne _ _ (Or.inr (by decide))]; exact e10325
          have e10355 : I10351 (ad g 50) 1 = v9951 := by rw [eI10351, pp_ne _ _ (Or.inr (by decide))]; exact e10326
          have e10356 : I10351 (ad g 50) 2 = v9958 := by rw [eI10351, pp_ne _ _ (Or.inr (by decide))]; exact e10327
          have e10357 : I10351 (ad g 50) 3 = v10190 := by rw [eI10351, pp_ne _ _ (Or.inr (by decide))]; exact e10328
          have e10358 : I10351 (ad g 50) 4 = v10284 := by rw [eI10351, pp_ne _ _ (Or.inr (by decide))]; exact e10329
          have e10359 : I10351 (ad g 50) 5 = v10295 := by rw [eI10351, pp_ne _ _ (Or.inr (by decide))]; exact e10330
          have e10360 : I10351 (ad g 50) 6 = v10307 := by rw [eI10351, pp_ne _ _ (Or.inr (by decide))]; exact e10331
          have e10361 : I10351 (ad g 50) 7 = v10321 := by rw [eI10351, pp_ne _ _ (Or.inr (by decide))]; exact e10332
          have e10362 : I10351 (ad g 50) 8 = v10350 := by rw [eI10351, pp_self]
          have fr10363 : fz 74 g [50] I I10351 := by rw [eI10351]; exact fzx_pp hy fr10333 (by decide) (by decide)
          clear eI10351
          exact WP_vret dX6_load_215 rfl ⟨⟨hI10351, rfl, fr10363, rfl, (by
                have yill : I (ad g (6 + 5)) so.toInt.toNat >>> (nI da.toInt.toNat &&& 31) &&& 1 = v9518 := by rw [show I (ad g (6 + 5)) so.toInt.toNat = v9515 from yv9515, show nI da.toInt.toNat = da from (eq32 _ _).mpr (by rw [nI_toInt (by omega)]; omega), xv9518, xv9516, (eq32 v9517 1).mpr hv9517]
                have yst : I (ad g 6) 4 = v9514 := est
                unfold LD
                simp only [e10354, e10355, e10356, e10357, e10358, e10359, e10360, e10361, yill, yst, show I (ad g (6 + 7)) _ = _ from yv9945, show I (ad g (6 + 8)) _ = _ from yv9951, show I (ad g (6 + 9)) _ = _ from yv9958, true_and, and_true]
                omega)⟩, rfl⟩
set_option maxHeartbeats 4000000 in
set_option maxRecDepth 100000 in
theorem sx_loadx_50_27 {g : GG} {n : Int} {L : Int32} (hy : LyX g)  {I : pI} {J : pJ} {R : pR} (hr : RfX g R) (hT : R (ad g 5) 0 = some (ad g 27)) (hI : XI g n L I) (so : Int32) (da : Int32) (so_lo : 0 ≤ so.toInt) (so_hi : so.toInt ≤ 3) (da_lo : 0 ≤ da.toInt) (da_hi : da.toInt ≤ 6) : SP g mX6_load [.ref (ad g 50), .ref (ad g 5), .int so, .int da] I J R (fun r I' J' R' => (XI g n L I' ∧ R' = R ∧ fz 74 g [50] I I' ∧ J' = J ∧ LD g 27 I so.toInt da.toInt (I' (ad g 50))) ∧ r = none) := by
  refine SP_of ⟨by decide, rfl⟩ (Nat.le_of_ble_eq_true rfl) ?_
  have e10364 : I (ad g 1) 1 = L := hI.2
  have b10365 := BT_get hI.1 1 1 2 (0) (0) (900) (by decide) 1 (by decide) (by decide)
  rw [e10364] at b10365
  have fr0 : fz 74 g [50] I I := fz_rf
  refine WP_aload_n dX6_load_0 rfl ?_
  refine WP_getr dX6_load_1 fX6_15 rfl (lyx_is hy 5 0 rfl) hT ?_
  refine WP_astore (ls' := [(0, _), (1, _), (2, _), (3, _), (4, _)]) dX6_load_4 (by decide) rfl ?_
  refine WP_iload_n dX6_load_6 rfl ?_
  refine WQ_bipush (7) (7) dX6_load_7 rfl rfl (fun v10366 hv10366 => ?_)
  refine WQ_imulk (7) dX6_load_9 hv10366 (by omega) (by omega) (fun v10367 hv10367 => ?_)
  refine WP_iload_n dX6_load_10 rfl ?_
  refine WQ_iadd dX6_load_11 (by omega) (by omega) (fun v10368 hv10368 => ?_)
  refine WP_istore (ls' := [(0, _), (1, _), (2, _), (3, _), (4, _), (5, _)]) dX6_load_12 (by decide) rfl ?_
  refine WP_aload dX6_load_14 rfl ?_
  refine WQ_geti dX6_load_16 fX6_21 rfl (lyx_is hy 27 7 rfl) (BT_get hI.1 27 4 5 (-1) (0) (2) (by decide) 4 (by decide) (by decide)) (fun v10369 ev10369 av10369 bv10369 => ?_)
  have est : I (ad g 27) 4 = v10369 := ev10369
  refine WP_istore (ls' := [(0, _), (1, _), (2, _), (3, _), (4, _), (5, _), (6, _)]) dX6_load_19 (by decide) rfl ?_
  refine WP_aload dX6_load_21 rfl ?_
  refine WP_getr dX6_load_23 fX6_26 rfl (lyx_is hy 27 7 rfl) (rfx hr 27 9 32 (by decide)) ?_
  refine WP_iload_n dX6_load_26 rfl ?_
  refine WQ_ialdx dX6_load_27 (lyx_is hy 32 13 rfl) (lyx_n hy 32 4 rfl) (by omega) (by omega) (fun v10370 zv10370 => ?_)
  have yv10370 : I (ad g 32) (so.toInt).toNat = v10370 := by rw [← fz_at fr0 32 (by decide) (by decide), show (so.toInt).toNat = so.toInt.toNat by omega]; exact zv10370
  refine WP_iload_n dX6_load_28 rfl ?_
  refine WQ_ishrx dX6_load_29 (fun v10371 xv10371 => ?_)
  refine WQ_iconst (1) (1) dX6_load_30 rfl rfl (fun v10372 hv10372 => ?_)
  refine WQ_iandx dX6_load_31 (fun v10373 xv10373 => ?_)
  refine WQ_if_eq 39 dX6_load_32 rfl (fun c10373 => ?_) (fun c10373 => ?_)
  · refine WQ_iconst (0) (0) dX6_load_39 rfl rfl (fun v10375 hv10375 => ?_)
    refine WP_istore (ls' := [(0, _), (1, _), (2, _), (3, _), (4, _), (5, _), (6, _), (7, _)]) dX6_load_40 (by decide) rfl ?_
    refine WP_aload_n dX6_load_42 rfl ?_
    refine WP_aload dX6_load_43 rfl ?_
    refine WP_getr dX6_load_45 fX6_30 rfl (lyx_is hy 27 7 rfl) (rfx hr 27 11 34 (by decide)) ?_
    refine WP_iload dX6_load_48 rfl ?_
    refine WQ_ialdb dX6_load_50 (lyx_is hy 34 13 rfl) (lyx_n hy 34 28 rfl) (by omega) (by omega) (fun q hq => BT_get hI.1 34 0 28 (-1) (0) (2) (by decide) q (Nat.zero_le _) hq) (fun v10376 av10376 bv10376 zv10376 => ?_)
    have yv10376 : I (ad g 34) (7 * so.toInt + da.toInt).toNat = v10376 := by rw [← fz_at fr0 34 (by decide) (by decide), show (7 * so.toInt + da.toInt).toNat = v10368.toInt.toNat by omega]; exact zv10376
    refine WQ_puti dX6_load_51 fX6_9 rfl rfl (lyx_is hy 50 6 rfl) (fun I10377 eI10377 => ?_)
    have hI10377 : XI g n L I10377 := by rw [eI10377]; exact (xi_f hy hI (c := 50) (-1) (0) (2) (by decide) (Or.inl (by decide)) (by decide) (by omega) (by omega))
    have e10378 : I10377 (ad g 1) 1 = L := by rw [eI10377, pp_ne _ _ (Or.inl (lyx_ne hy (by decide) (by decide) (by decide)))]; exact e10364
    have e10379 : I10377 (ad g 27) 4 = v10369 := by rw [eI10377, pp_ne _ _ (Or.inl (lyx_ne hy (by decide) (by decide) (by decide)))]; exact ev10369
    have e10380 : I10377 (ad g 50) 0 = v10376 := by rw [eI10377, pp_self]
    have fr10381 : fz 74 g [50] I I10377 := by rw [eI10377]; exact fzx_pp hy fr0 (by decide) (by decide)
    clear eI10377
    refine WP_aload_n dX6_load_54 rfl ?_
    refine WP_aload dX6_load_55 rfl ?_
    refine WP_getr dX6_load_57 fX6_33 rfl (lyx_is hy 27 7 rfl) (rfx hr 27 12 35 (by decide)) ?_
    refine WP_iload dX6_load_60 rfl ?_
    refine WQ_ialdb dX6_load_62 (lyx_is hy 35 13 rfl) (lyx_n hy 35 28 rfl) (by omega) (by omega) (fun q hq => BT_get hI10377.1 35 0 28 (0) (0) (3) (by decide) q (Nat.zero_le _) hq) (fun v10382 av10382 bv10382 zv10382 => ?_)
    have yv10382 : I (ad g 35) (7 * so.toInt + da.toInt).toNat = v10382 := by rw [← fz_at fr10381 35 (by decide) (by decide), show (7 * so.toInt + da.toInt).toNat = v10368.toInt.toNat by omega]; exact zv10382
    refine WQ_puti dX6_load_63 fX6_36 rfl rfl (lyx_is hy 50 6 rfl) (fun I10383 eI10383 => ?_)
    have hI10383 : XI g n L I10383 := by rw [eI10383]; exact (xi_f hy hI10377 (c := 50) (0) (0) (3) (by decide) (Or.inl (by decide)) (by decide) (by omega) (by omega))
    have e10384 : I10383 (ad g 1) 1 = L := by rw [eI10383, pp_ne _ _ (Or.inl (lyx_ne hy (by decide) (by decide) (by decide)))]; exact e10378
    have e10385 : I10383 (ad g 27) 4 = v10369 := by rw [eI10383, pp_ne _ _ (Or.inl (lyx_ne hy (by decide) (by decide) (by decide)))]; exact e10379
    have e10386 : I10383 (ad g 50) 0 = v10376 := by rw [eI10383, pp_ne _ _ (Or.inr (by decide))]; exact e10380
    have e10387 : I10383 (ad g 50) 1 = v10382 := by rw [eI10383, pp_self]
    have fr10388 : fz 74 g [50] I I10383 := by rw [eI10383]; exact fzx_pp hy fr10381 (by decide) (by decide)
    clear eI10383
    refine WP_aload_n dX6_load_66 rfl ?_
    refine WP_aload dX6_load_67 rfl ?_
    refine WP_getr dX6_load_69 fX6_39 rfl (lyx_is hy 27 7 rfl) (rfx hr 27 13 36 (by decide)) ?_
    refine WP_iload dX6_load_72 rfl ?_
    refine WQ_ialdb dX6_load_74 (lyx_is hy 36 13 rfl) (lyx_n hy 36 28 rfl) (by omega) (by omega) (fun q hq => BT_get hI10383.1 36 0 28 (0) (0) (99) (by decide) q (Nat.zero_le _) hq) (fun v10389 av10389 bv10389 zv10389 => ?_)
    have yv10389 : I (ad g 36) (7 * so.toInt + da.toInt).toNat = v10389 := by rw [← fz_at fr10388 36 (by decide) (by decide), show (7 * so.toInt + da.toInt).toNat = v10368.toInt.toNat by omega]; exact zv10389
    refine WQ_puti dX6_load_75 fX6_42 rfl rfl (lyx_is hy 50 6 rfl) (fun I10390 eI10390 => ?_)
    have hI10390 : XI g n L I10390 := by rw [eI10390]; exact (xi_f hy hI10383 (c := 50) (0) (0) (99) (by decide) (Or.inl (by decide)) (by decide) (by omega) (by omega))
    have e10391 : I10390 (ad g 1) 1 = L := by rw [eI10390, pp_ne _ _ (Or.inl (lyx_ne hy (by decide) (by decide) (by decide)))]; exact e10384
    have e10392 : I10390 (ad g 27) 4 = v10369 := by rw [eI10390, pp_ne _ _ (Or.inl (lyx_ne hy (by decide) (by decide) (by decide)))]; exact e10385
    have e10393 : I10390 (ad g 50) 0 = v10376 := by rw [eI10390, pp_ne _ _ (Or.inr (by decide))]; exact e10386
    have e10394 : I10390 (ad g 50) 1 = v10382 := by rw [eI10390, pp_ne _ _ (Or.inr (by decide))]; exact e10387
    have e10395 : I10390 (ad g 50) 2 = v10389 := by rw [eI10390, pp_self]
    have fr10396 : fz 74 g [50] I I10390 := by rw [eI10390]; exact fzx_pp hy fr10388 (by decide) (by decide)
    clear eI10390
    refine WP_aload_n dX6_load_78 rfl ?_
    refine WP_aload_n dX6_load_79 rfl ?_
    refine WQ_getim dX6_load_80 fX6_9 rfl (lyx_is hy 50 6 rfl) e10393 ?_
    refine WQ_iconst (-1) (-1) dX6_load_83 rfl rfl (fun v10397 hv10397 => ?_)
    refine WQ_icmp_ne 91 dX6_load_84 rfl (fun c10397 => ?_) (fun c10397 => ?_)
    · refine WP_aload_n dX6_load_91 rfl ?_
      refine WP_getr dX6_load_92 fX6_45 rfl (lyx_is hy 5 0 rfl) (rfx hr 5 1 22 (by decide)) ?_
      refine WP_aload_n dX6_load_95 rfl ?_
      refine WQ_getim dX6_load_96 fX6_9 rfl (lyx_is hy 50 6 rfl) e10393 ?_
      refine WQ_bipush (7) (7) dX6_load_99 rfl rfl (fun v10399 hv10399 => ?_)
      refine WQ_imulk (7) dX6_load_101 hv10399 (by omega) (by omega) (fun v10400 hv10400 => ?_)
      refine WP_iload_n dX6_load_102 rfl ?_
      refine WQ_iadd dX6_load_103 (by omega) (by omega) (fun v10401 hv10401 => ?_)
      refine WQ_ialdb dX6_load_104 (lyx_is hy 22 13 rfl) (lyx_n hy 22 21 rfl) (by omega) (by omega) (fun q hq => BT_get hI10390.1 22 0 21 (0) (0) (20) (by decide) q (Nat.zero_le _) hq) (fun v10402 av10402 bv10402 zv10402 => ?_)
      have yv10402 : I (ad g 22) (7 * v10376.toInt + da.toInt).toNat = v10402 := by rw [← fz_at fr10396 22 (by decide) (by decide), show (7 * v10376.toInt + da.toInt).toNat = v10401.toInt.toNat by omega]; exact zv10402
      refine WQ_puti dX6_load_105 fX6_48 rfl rfl (lyx_is hy 50 6 rfl) (fun I10403 eI10403 => ?_)
      have hI10403 : XI g n L I10403 := by rw [eI10403]; exact (xi_f hy hI10390 (c := 50) (0) (0) (20) (by decide) (Or.inl (by decide)) (by decide) (by omega) (by omega))
      have e10404 : I10403 (ad g 1) 1 = L := by rw [eI10403, pp_ne _ _ (Or.inl (lyx_ne hy (by decide) (by decide) (by decide)))]; exact e10391
      have e10405 : I10403 (ad g 27) 4 = v10369 := by rw [eI10403, pp_ne _ _ (Or.inl (lyx_ne hy (by decide) (by decide) (by decide)))]; exact e10392
      have e10406 : I10403 (ad g 50) 0 = v10376 := by rw [eI10403, pp_ne _ _ (Or.inr (by decide))]; exact e10393
      have e10407 : I10403 (ad g 50) 1 = v10382 := by rw [eI10403, pp_ne _ _ (Or.inr (by decide))]; exact e10394
      have e10408 : I10403 (ad g 50) 2 = v10389 := by rw [eI10403, pp_ne _ _ (Or.inr (by decide))]; exact e10395
      have e10409 : I10403 (ad g 50) 3 = v10402 := by rw [eI10403, pp_self]
      have fr10410 : fz 74 g [50] I I10403 := by rw [eI10403]; exact fzx_pp hy fr10396 (by decide) (by decide)
      clear eI10403
      refine WP_aload_n dX6_load_108 rfl ?_
      refine WP_iload dX6_load_109 rfl ?_
      refine WQ_iconst (-1) (-1) dX6_load_111 rfl rfl (fun v10411 hv10411 => ?_)
      refine WQ_icmp_ne 119 dX6_load_112 rfl (fun c10411 => ?_) (fun c10411 => ?_)
      · refine WP_aload_n dX6_load_119 rfl ?_
        refine WP_getr dX6_load_120 fX6_45 rfl (lyx_is hy 5 0 rfl) (rfx hr 5 1 22 (by decide)) ?_
        refine WP_iload dX6_load_123 rfl ?_
        refine WQ_bipush (7) (7) dX6_load_125 rfl rfl (fun v10413 hv10413 => ?_)
        refine WQ_imulk (7) dX6_load_127 hv10413 (by omega) (by omega) (fun v10414 hv10414 => ?_)
        refine WP_iload_n dX6_load_128 rfl ?_
        refine WQ_iadd dX6_load_129 (by omega) (by omega) (fun v10415 hv10415 => ?_)
        refine WQ_ialdb dX6_load_130 (lyx_is hy 22 13 rfl) (lyx_n hy 22 21 rfl) (by omega) (by omega) (fun q hq => BT_get hI10403.1 22 0 21 (0) (0) (20) (by decide) q (Nat.zero_le _) hq) (fun v10416 av10416 bv10416 zv10416 => ?_)
        have yv10416 : I (ad g 22) (7 * v10369.toInt + da.toInt).toNat = v10416 := by rw [← fz_at fr10410 22 (by decide) (by decide), show (7 * v10369.toInt + da.toInt).toNat = v10415.toInt.toNat by omega]; exact zv10416
        refine WQ_puti dX6_load_131 fX6_51 rfl rfl (lyx_is hy 50 6 rfl) (fun I10417 eI10417 => ?_)
        have hI10417 : XI g n L I10417 := by rw [eI10417]; exact (xi_f hy hI10403 (c := 50) (0) (0) (20) (by decide) (Or.inl (by decide)) (by decide) (by omega) (by omega))
        have e10418 : I10417 (ad g 1) 1 = L := by rw [eI10417, pp_ne _ _ (Or.inl (lyx_ne hy (by decide) (by decide) (by decide)))]; exact e10404
        have e10419 : I10417 (ad g 27) 4 = v10369 := by rw [eI10417, pp_ne _ _ (Or.inl (lyx_ne hy (by decide) (by decide) (by decide)))]; exact e10405
        have e10420 : I10417 (ad g 50) 0 = v10376 := by rw [eI10417, pp_ne _ _ (Or.inr (by decide))]; exact e10406
        have e10421 : I10417 (ad g 50) 1 = v10382 := by rw [eI10417, pp_ne _ _ (Or.inr (by decide))]; exact e10407
        have e10422 : I10417 (ad g 50) 2 = v10389 := by rw [eI10417, pp_ne _ _ (Or.inr (by decide))]; exact e10408
        have e10423 : I10417 (ad g 50) 3 = v10402 := by rw [eI10417, pp_ne _ _ (Or.inr (by decide))]; exact e10409
        have e10424 : I10417 (ad g 50) 4 = v10416 := by rw [eI10417, pp_self]
        have fr10425 : fz 74 g [50] I I10417 := by rw [eI10417]; exact fzx_pp hy fr10410 (by decide) (by decide)
        clear eI10417
        refine WP_aload_n dX6_load_134 rfl ?_
        refine WP_iload dX6_load_135 rfl ?_
        refine WQ_if_eq 144 dX6_load_137 rfl (fun c10425 => ?_) (fun c10425 => False.elim (by omega))
        refine WP_aload_n dX6_load_144 rfl ?_
        refine WQ_getim dX6_load_145 fX6_36 rfl (lyx_is hy 50 6 rfl) e10421 ?_
        refine WQ_puti dX6_load_148 fX6_54 rfl rfl (lyx_is hy 50 6 rfl) (fun I10427 eI10427 => ?_)
        have hI10427 : XI g n L I10427 := by rw [eI10427]; exact (xi_f hy hI10417 (c := 50) (0) (0) (3) (by decide) (Or.inl (by decide)) (by decide) (by omega) (by omega))
        have e10428 : I10427 (ad g 1) 1 = L := by rw [eI10427, pp_ne _ _ (Or.inl (lyx_ne hy (by decide) (by decide) (by decide)))]; exact e10418
        have e10429 : I10427 (ad g 27) 4 = v10369 := by rw [eI10427, pp_ne _ _ (Or.inl (lyx_ne hy (by decide) (by decide) (by decide)))]; exact e10419
        have e10430 : I10427 (ad g 50) 0 = v10376 := by rw [eI10427, pp_ne _ _ (Or.inr (by decide))]; exact e10420
        have e10431 : I10427 (ad g 50) 1 = v10382 := by rw [eI10427, pp_ne _ _ (Or.inr (by decide))]; exact e10421
        have e10432 : I10427 (ad g 50) 2 = v10389 := by rw [eI10427, pp_ne _ _ (Or.inr (by decide))]; exact e10422
        have e10433 : I10427 (ad g 50) 3 = v10402 := by rw [eI10427, pp_ne _ _ (Or.inr (by decide))]; exact e10423
        have e10434 : I10427 (ad g 50) 4 = v10416 := by rw [eI10427, pp_ne _ _ (Or.inr (by decide))]; exact e10424
        have e10435 : I10427 (ad g 50) 5 = v10382 := by rw [eI10427, pp_self]
        have fr10436 : fz 74 g [50] I I10427 := by rw [eI10427]; exact fzx_pp hy fr10425 (by decide) (by decide)
        clear eI10427
        refine WP_aload_n dX6_load_151 rfl ?_
        refine WP_iload dX6_load_152 rfl ?_
        refine WQ_if_ne 163 dX6_load_154 rfl (fun c10436 => False.elim (by omega)) (fun c10436 => ?_)
        refine WP_iload dX6_load_157 rfl ?_
        refine WQ_iconst (-1) (-1) dX6_load_159 rfl rfl (fun v10438 hv10438 => ?_)
        refine WQ_icmp_ne 167 dX6_load_160 rfl (fun c10438 => ?_) (fun c10438 => False.elim (by omega))
        refine WQ_iconst (2) (2) dX6_load_167 rfl rfl (fun v10440 hv10440 => ?_)
        refine WQ_puti dX6_load_168 fX6_57 rfl rfl (lyx_is hy 50 6 rfl) (fun I10441 eI10441 => ?_)
        have hI10441 : XI g n L I10441 := by rw [eI10441]; exact (xi_f hy hI10427 (c := 50) (0) (0) (2) (by decide) (Or.inl (by decide)) (by decide) (by omega) (by omega))
        have e10442 : I10441 (ad g 1) 1 = L := by rw [eI10441, pp_ne _ _ (Or.inl (lyx_ne hy (by decide) (by decide) (by decide)))]; exact e10428
        have e10443 : I10441 (ad g 27) 4 = v10369 := by rw [eI10441, pp_ne _ _ (Or.inl (lyx_ne hy (by decide) (by decide) (by decide)))]; exact e10429
        have e10444 : I10441 (ad g 50) 0 = v10376 := by rw [eI10441, pp_ne _ _ (Or.inr (by decide))]; exact e10430
        have e10445 : I10441 (ad g 50) 1 = v10382 := by rw [eI10441, pp_ne _ _ (Or.inr (by decide))]; exact e10431
        have e10446 : I10441 (ad g 50) 2 = v10389 := by rw [eI10441, pp_ne _ _ (Or.inr (by decide))]; exact e10432
        have e10447 : I10441 (ad g 50) 3 = v10402 := by rw [eI10441, pp_ne _ _ (Or.inr (by decide))]; exact e10433
        have e10448 : I10441 (ad g 50) 4 = v10416 := by rw [eI10441, pp_ne _ _ (Or.inr (by decide))]; exact e10434
        have e10449 : I10441 (ad g 50) 5 = v10382 := by rw [eI10441, pp_ne _ _ (Or.inr (by decide))]; exact e10435
        have e10450 : I10441 (ad g 50) 6 = v10440 := by rw [eI10441, pp_self]
        have fr10451 : fz 74 g [50] I I10441 := by rw [eI10441]; exact fzx_pp hy fr10436 (by decide) (by decide)
        clear eI10441
        refine WP_aload_n dX6_load_171 rfl ?_
        refine WP_aload_n dX6_load_172 rfl ?_
        refine WQ_getim dX6_load_173 fX6_9 rfl (lyx_is hy 50 6 rfl) e10444 ?_
        refine WQ_iconst (-1) (-1) dX6_load_176 rfl rfl (fun v10452 hv10452 => ?_)
        refine WQ_icmp_eq 193 dX6_load_177 rfl (fun c10452 => False.elim (by omega)) (fun c10452 => ?_)
        refine WP_aload_n dX6_load_180 rfl ?_
        refine WQ_getim dX6_load_181 fX6_9 rfl (lyx_is hy 50 6 rfl) e10444 ?_
        refine WP_iload dX6_load_184 rfl ?_
        refine WQ_icmp_ne 193 dX6_load_186 rfl (fun c10453 => ?_) (fun c10453 => ?_)
        · refine WQ_iconst (0) (0) dX6_load_193 rfl rfl (fun v10455 hv10455 => ?_)
          refine WQ_putz dX6_load_194 fX6_60 rfl rfl (by omega) (lyx_is hy 50 6 rfl) (fun I10456 eI10456 => ?_)
          have hI10456 : XI g n L I10456 := by rw [eI10456]; exact (xi_f hy hI10441 (c := 50) (0) (0) (1) (by decide) (Or.inl (by decide)) (by decide) (by omega) (by omega))
          have e10457 : I10456 (ad g 1) 1 = L := by rw [eI10456, pp_ne _ _ (Or.inl (lyx_ne hy (by decide) (by decide) (by decide)))]; exact e10442
          have e10458 : I10456 (ad g 27) 4 = v10369 := by rw [eI10456, pp_ne _ _ (Or.inl (lyx_ne hy (by decide) (by decide) (by decide)))]; exact e10443
          have e10459 : I10456 (ad g 50) 0 = v10376 := by rw [eI10456, pp_ne _ _ (Or.inr (by decide))]; exact e10444
          have e10460 : I10456 (ad g 50) 1 = v10382 := by rw [eI10456, pp_ne _ _ (Or.inr (by decide))]; exact e10445
          have e10461 : I10456 (ad g 50) 2 = v10389 := by rw [eI10456, pp_ne _ _ (Or.inr (by decide))]; exact e10446
          have e10462 : I10456 (ad g 50) 3 = v10402 := by rw [eI10456, pp_ne _ _ (Or.inr (by decide))]; exact e10447
          have e10463 : I10456 (ad g 50) 4 = v10416 := by rw [eI10456, pp_ne _ _ (Or.inr (by decide))]; exact e10448
          have e10464 : I10456 (ad g 50) 5 = v10382 := by rw [eI10456, pp_ne _ _ (Or.inr (by decide))]; exact e10449
          have e10465 : I10456 (ad g 50) 6 = v10440 := by rw [eI10456, pp_ne _ _ (Or.inr (by decide))]; exact e10450
          have e10466 : I10456 (ad g 50) 7 = v10455 := by rw [eI10456, pp_self]
          have fr10467 : fz 74 g [50] I I10456 := by rw [eI10456]; exact fzx_pp hy fr10451 (by decide) (by decide)
          clear eI10456
          refine WP_aload_n dX6_load_197 rfl ?_
          refine WP_aload_n dX6_load_198 rfl ?_
          refine WP_getr dX6_load_199 fX6_64 rfl (lyx_is hy 5 0 rfl) (rfx hr 5 2 23 (by decide)) ?_
          refine WP_iload_n dX6_load_202 rfl ?_
          refine WQ_iald dX6_load_203 (lyx_is hy 23 13 rfl) (lyx_n hy 23 7 rfl) (by omega) (by omega) (fun q hq => BT_get hI10456.1 23 0 7 (0) (0) (900) (by decide) q (Nat.zero_le _) hq) (fun v10468 av10468 bv10468 ev10468 => ?_)
          clear ev10468
          refine WQ_if_le 211 dX6_load_204 rfl (fun c10468 => ?_) (fun c10468 => ?_)
          · refine WQ_iconst (0) (0) dX6_load_211 rfl rfl (fun v10470 hv10470 => ?_)
            refine WQ_putz dX6_load_212 fX6_67 rfl rfl (by omega) (lyx_is hy 50 6 rfl) (fun I10471 eI10471 => ?_)
            have hI10471 : XI g n L I10471 := by rw [eI10471]; exact (xi_f hy hI10456 (c := 50) (0) (0) (1) (by decide) (Or.inl (by decide)) (by decide) (by omega) (by omega))
            have e10472 : I10471 (ad g 1) 1 = L := by rw [eI10471, pp_ne _ _ (Or.inl (lyx_ne hy (by decide) (by decide) (by decide)))]; exact e10457
            have e10473 : I10471 (ad g 27) 4 = v10369 := by rw [eI10471, pp_ne _ _ (Or.inl (lyx_ne hy (by decide) (by decide) (by decide)))]; exact e10458
            have e10474 : I10471 (ad g 50) 0 = v10376 := by rw [eI10471, pp_ne _ _ (Or.inr (by decide))]; exact e10459
            have e10475 : I10471 (ad g 50) 1 = v10382 := by rw [eI10471, pp_ne _ _ (Or.inr (by decide))]; exact e10460
            have e10476 : I10471 (ad g 50) 2 = v10389 := by rw [eI10471, pp_ne _ _ (Or.inr (by decide))]; exact e10461
            have e10477 : I10471 (ad g 50) 3 = v10402 := by rw [eI10471, pp_ne _ _ (Or.inr (by decide))]; exact e10462
            have e10478 : I10471 (ad g 50) 4 = v10416 := by rw [eI10471, pp_ne _ _ (Or.inr (by decide))]; exact e10463
            have e10479 : I10471 (ad g 50) 5 = v10382 := by rw [eI10471, pp_ne _ _ (Or.inr (by decide))]; exact e10464
            have e10480 : I10471 (ad g 50) 6 = v10440 := by rw [eI10471, pp_ne _ _ (Or.inr (by decide))]; exact e10465
            have e10481 : I10471 (ad g 50) 7 = v10455 := by rw [eI10471, pp_ne _ _ (Or.inr (by decide))]; exact e10466
            have e10482 : I10471 (ad g 50) 8 = v10470 := by rw [eI10471, pp_self]
            have fr10483 : fz 74 g [50] I I10471 := by rw [eI10471]; exact fzx_pp hy fr10467 (by decide) (by decide)
            clear eI10471
            exact WP_vret dX6_load_215 rfl ⟨⟨hI10471, rfl, fr10483, rfl, (by
                  have yill : I (ad g (27 + 5)) so.toInt.toNat >>> (nI da.toInt.toNat &&& 31) &&& 1 = v10373 := by rw [show I (ad g (27 + 5)) so.toInt.toNat = v10370 from yv10370, show nI da.toInt.toNat = da from (eq32 _ _).mpr (by rw [nI_toInt (by omega)]; omega), xv10373, xv10371, (eq32 v10372 1).mpr hv10372]
                  have yst : I (ad g 27) 4 = v10369 := est
                  unfold LD
                  simp only [e10474, e10475, e10476, e10477, e10478, e10479, e10480, e10481, yill, yst, show I (ad g (27 + 7)) _ = _ from yv10376, show I (ad g (27 + 8)) _ = _ from yv10382, show I (ad g (27 + 9)) _ = _ from yv10389, yv10402, yv10416, true_and, and_true]
                  omega)⟩, rfl⟩
          · refine WQ_iconst (1) (1) dX6_load_207 rfl rfl (fun v10484 hv10484 => ?_)
            refine WP_goto 212 dX6_load_208 rfl ?_
            refine WQ_putz dX6_load_212 fX6_67 rfl rfl (by omega) (lyx_is hy 50 6 rfl) (fun I10485 eI10485 => ?_)
            have hI10485 : XI g n L I10485 := by rw [eI10485]; exact (xi_f hy hI10456 (c := 50) (0) (0) (1) (by decide) (Or.inl (by decide)) (by decide) (by omega) (by omega))
            have e10486 : I10485 (ad g 1) 1 = L := by rw [eI10485, pp_ne _ _ (Or.inl (lyx_ne hy (by decide) (by decide) (by decide)))]; exact e10457
            have e10487 : I10485 (ad g 27) 4 = v10369 := by rw [eI10485, pp_ne _ _ (Or.inl (lyx_ne hy (by decide) (by decide) (by decide)))]; exact e10458
            have e10488 : I10485 (ad g 50) 0 = v10376 := by rw [eI10485, pp_ne _ _ (Or.inr (by decide))]; exact e10459
            have e10489 : I10485 (ad g 50) 1 = v10382 := by rw [eI10485, pp_ne _ _ (Or.inr (by decide))]; exact e10460
            have e10490 : I10485 (ad g 50) 2 = v10389 := by rw [eI10485, pp_ne _ _ (Or.inr (by decide))]; exact e10461
            have e10491 : I10485 (ad g 50) 3 = v10402 := by rw [eI10485, pp_ne _ _ (Or.inr (by decide))]; exact e10462
            have e10492 : I10485 (ad g 50) 4 = v10416 := by rw [eI10485, pp_ne _ _ (Or.inr (by decide))]; exact e10463
            have e10493 : I10485 (ad g 50) 5 = v10382 := by rw [eI10485, pp_ne _ _ (Or.inr (by decide))]; exact e10464
            have e10494 : I10485 (ad g 50) 6 = v10440 := by rw [eI10485, pp_ne _ _ (Or.inr (by decide))]; exact e10465
            have e10495 : I10485 (ad g 50) 7 = v10455 := by rw [eI10485, pp_ne _ _ (Or.inr (by decide))]; exact e10466
            have e10496 : I10485 (ad g 50) 8 = v10484 := by rw [eI10485, pp_self]
            have fr10497 : fz 74 g [50] I I10485 := by rw [eI10485]; exact fzx_pp hy fr10467 (by decide) (by decide)
            clear eI10485
            exact WP_vret dX6_load_215 rfl ⟨⟨hI10485, rfl, fr10497, rfl, (by
                  have yill : I (ad g (27 + 5)) so.toInt.toNat >>> (nI da.toInt.toNat &&& 31) &&& 1 = v10373 := by rw [show I (ad g (27 + 5)) so.toInt.toNat = v10370 from yv10370, show nI da.toInt.toNat = da from (eq32 _ _).mpr (by rw [nI_toInt (by omega)]; omega), xv10373, xv10371, (eq32 v10372 1).mpr hv10372]
                  have yst : I (ad g 27) 4 = v10369 := est
                  unfold LD
                  simp only [e10488, e10489, e10490, e10491, e10492, e10493, e10494, e10495, yill, yst, show I (ad g (27 + 7)) _ = _ from yv10376, show I (ad g (27 + 8)) _ = _ from yv10382, show I (ad g (27 + 9)) _ = _ from yv10389, yv10402, yv10416, true_and, and_true]
                  omega)⟩, rfl⟩
        · refine WQ_iconst (1) (1) dX6_load_189 rfl rfl (fun v10498 hv10498 => ?_)
          refine WP_goto 194 dX6_load_190 rfl ?_
          refine WQ_putz dX6_load_194 fX6_60 rfl rfl (by omega) (lyx_is hy 50 6 rfl) (fun I10499 eI10499 => ?_)
          have hI10499 : XI g n L I10499 := by rw [eI10499]; exact (xi_f hy hI10441 (c := 50) (0) (0) (1) (by decide) (Or.inl (by decide)) (by decide) (by omega) (by omega))
          have e10500 : I10499 (ad g 1) 1 = L := by rw [eI10499, pp_ne _ _ (Or.inl (lyx_ne hy (by decide) (by decide) (by decide)))]; exact e10442
          have e10501 : I10499 (ad g 27) 4 = v10369 := by rw [eI10499, pp_ne _ _ (Or.inl (lyx_ne hy (by decide) (by decide) (by decide)))]; exact e10443
          have e10502 : I10499 (ad g 50) 0 = v10376 := by rw [eI10499, pp_ne _ _ (Or.inr (by decide))]; exact e10444
          have e10503 : I10499 (ad g 50) 1 = v10382 := by rw [eI10499, pp_ne _ _ (Or.inr (by decide))]; exact e10445
          have e10504 : I10499 (ad g 50) 2 = v10389 := by rw [eI10499, pp_ne _ _ (Or.inr (by decide))]; exact e10446
          have e10505 : I10499 (ad g 50) 3 = v10402 := by rw [eI10499, pp_ne _ _ (Or.inr (by decide))]; exact e10447
          have e10506 : I10499 (ad g 50) 4 = v10416 := by rw [eI10499, pp_ne _ _ (Or.inr (by decide))]; exact e10448
          have e10507 : I10499 (ad g 50) 5 = v10382 := by rw [eI10499, pp_ne _ _ (Or.inr (by decide))]; exact e10449
          have e10508 : I10499 (ad g 50) 6 = v10440 := by rw [eI10499, pp_ne _ _ (Or.inr (by decide))]; exact e10450
          have e10509 : I10499 (ad g 50) 7 = v10498 := by rw [eI10499, pp_self]
          have fr10510 : fz 74 g [50] I I10499 := by rw [eI10499]; exact fzx_pp hy fr10451 (by decide) (by decide)
          clear eI10499
          refine WP_aload_n dX6_load_197 rfl ?_
          refine WP_aload_n dX6_load_198 rfl ?_
          refine WP_getr dX6_load_199 fX6_64 rfl (lyx_is hy 5 0 rfl) (rfx hr 5 2 23 (by decide)) ?_
          refine WP_iload_n dX6_load_202 rfl ?_
          refine WQ_iald dX6_load_203 (lyx_is hy 23 13 rfl) (lyx_n hy 23 7 rfl) (by omega) (by omega) (fun q hq => BT_get hI10499.1 23 0 7 (0) (0) (900) (by decide) q (Nat.zero_le _) hq) (fun v10511 av10511 bv10511 ev10511 => ?_)
          clear ev10511
          refine WQ_if_le 211 dX6_load_204 rfl (fun c10511 => ?_) (fun c10511 => ?_)
          · refine WQ_iconst (0) (0) dX6_load_211 rfl rfl (fun v10513 hv10513 => ?_)
            refine WQ_putz dX6_load_212 fX6_67 rfl rfl (by omega) (lyx_is hy 50 6 rfl) (fun I10514 eI10514 => ?_)
            have hI10514 : XI g n L I10514 := by rw [eI10514]; exact (xi_f hy hI10499 (c := 50) (0) (0) (1) (by decide) (Or.inl (by decide)) (by decide) (by omega) (by omega))
            have e10515 : I10514 (ad g 1) 1 = L := by rw [eI10514, pp_ne _ _ (Or.inl (lyx_ne hy (by decide) (by decide) (by decide)))]; exact e10500
            have e10516 : I10514 (ad g 27) 4 = v10369 := by rw [eI10514, pp_ne _ _ (Or.inl (lyx_ne hy (by decide) (by decide) (by decide)))]; exact e10501
            have e10517 : I10514 (ad g 50) 0 = v10376 := by rw [eI10514, pp_ne _ _ (Or.inr (by decide))]; exact e10502
            have e10518 : I10514 (ad g 50) 1 = v10382 := by rw [eI10514, pp_ne _ _ (Or.inr (by decide))]; exact e10503
            have e10519 : I10514 (ad g 50) 2 = v10389 := by rw [eI10514, pp_ne _ _ (Or.inr (by decide))]; exact e10504
            have e10520 : I10514 (ad g 50) 3 = v10402 := by rw [eI10514, pp_ne _ _ (Or.inr (by decide))]; exact e10505
            have e10521 : I10514 (ad g 50) 4 = v10416 := by rw [eI10514, pp_ne _ _ (Or.inr (by decide))]; exact e10506
            have e10522 : I10514 (ad g 50) 5 = v10382 := by rw [eI10514, pp_ne _ _ (Or.inr (by decide))]; exact e10507
            have e10523 : I10514 (ad g 50) 6 = v10440 := by rw [eI10514, pp_ne _ _ (Or.inr (by decide))]; exact e10508
            have e10524 : I10514 (ad g 50) 7 = v10498 := by rw [eI10514, pp_ne _ _ (Or.inr (by decide))]; exact e10509
            have e10525 : I10514 (ad g 50) 8 = v10513 := by rw [eI10514, pp_self]
            have fr10526 : fz 74 g [50] I I10514 := by rw [eI10514]; exact fzx_pp hy fr10510 (by decide) (by decide)
            clear eI10514
            exact WP_vret dX6_load_215 rfl ⟨⟨hI10514, rfl, fr10526, rfl, (by
                  have yill : I (ad g (27 + 5)) so.toInt.toNat >>> (nI da.toInt.toNat &&& 31) &&& 1 = v10373 := by rw [show I (ad g (27 + 5)) so.toInt.toNat = v10370 from yv10370, show nI da.toInt.toNat = da from (eq32 _ _).mpr (by rw [nI_toInt (by omega)]; omega), xv10373, xv10371, (eq32 v10372 1).mpr hv10372]
                  have yst : I (ad g 27) 4 = v10369 := est
                  unfold LD
                  simp only [e10517, e10518, e10519, e10520, e10521, e10522, e10523, e10524, yill, yst, show I (ad g (27 + 7)) _ = _ from yv10376, show I (ad g (27 + 8)) _ = _ from yv10382, show I (ad g (27 + 9)) _ = _ from yv10389, yv10402, yv10416, true_and, and_true]
                  omega)⟩, rfl⟩
          · refine WQ_iconst (1) (1) dX6_load_207 rfl rfl (fun v10527 hv10527 => ?_)
            refine WP_goto 212 dX6_load_208 rfl ?_
            refine WQ_putz dX6_load_212 fX6_67 rfl rfl (by omega) (lyx_is hy 50 6 rfl) (fun I10528 eI10528 => ?_)
            have hI10528 : XI g n L I10528 := by rw [eI10528]; exact (xi_f hy hI10499 (c := 50) (0) (0) (1) (by decide) (Or.inl (by decide)) (by decide) (by omega) (by omega))
            have e10529 : I10528 (ad g 1) 1 = L := by rw [eI10528, pp_ne _ _ (Or.inl (lyx_ne hy (by decide) (by decide) (by decide)))]; exact e10500
            have e10530 : I10528 (ad g 27) 4 = v10369 := by rw [eI10528, pp_ne _ _ (Or.inl (lyx_ne hy (by decide) (by decide) (by decide)))]; exact e10501
            have e10531 : I10528 (ad g 50) 0 = v10376 := by rw [eI10528, pp_ne _ _ (Or.inr (by decide))]; exact e10502
            have e10532 : I10528 (ad g 50) 1 = v10382 := by rw [eI10528, pp_ne _ _ (Or.inr (by decide))]; exact e10503
            have e10533 : I10528 (ad g 50) 2 = v10389 := by rw [eI10528, pp_ne _ _ (Or.inr (by decide))]; exact e10504
            have e10534 : I10528 (ad g 50) 3 = v10402 := by rw [eI10528, pp_ne _ _ (Or.inr (by decide))]; exact e10505
            have e10535 : I10528 (ad g 50) 4 = v10416 := by rw [eI10528, pp_ne _ _ (Or.inr (by decide))]; exact e10506
            have e10536 : I10528 (ad g 50) 5 = v10382 := by rw [eI10528, pp_ne _ _ (Or.inr (by decide))]; exact e10507
            have e10537 : I10528 (ad g 50) 6 = v10440 := by rw [eI10528, pp_ne _ _ (Or.inr (by decide))]; exact e10508
            have e10538 : I10528 (ad g 50) 7 = v10498 := by rw [eI10528, pp_ne _ _ (Or.inr (by decide))]; exact e10509
            have e10539 : I10528 (ad g 50) 8 = v10527 := by rw [eI10528, pp_self]
            have fr10540 : fz 74 g [50] I I10528 := by rw [eI10528]; exact fzx_pp hy fr10510 (by decide) (by decide)
            clear eI10528
            exact WP_vret dX6_load_215 rfl ⟨⟨hI10528, rfl, fr10540, rfl, (by
                  have yill : I (ad g (27 + 5)) so.toInt.toNat >>> (nI da.toInt.toNat &&& 31) &&& 1 = v10373 := by rw [show I (ad g (27 + 5)) so.toInt.toNat = v10370 from yv10370, show nI da.toInt.toNat = da from (eq32 _ _).mpr (by rw [nI_toInt (by omega)]; omega), xv10373, xv10371, (eq32 v10372 1).mpr hv10372]
                  have yst : I (ad g 27) 4 = v10369 := est
                  unfold LD
                  simp only [e10531, e10532, e10533, e10534, e10535, e10536, e10537, e10538, yill, yst, show I (ad g (27 + 7)) _ = _ from yv10376, show I (ad g (27 + 8)) _ = _ from yv10382, show I (ad g (27 + 9)) _ = _ from yv10389, yv10402, yv10416, true_and, and_true]
                  omega)⟩, rfl⟩
      · refine WQ_iconst (0) (0) dX6_load_115 rfl rfl (fun v10541 hv10541 => ?_)
        refine WP_goto 131 dX6_load_116 rfl ?_
        refine WQ_puti dX6_load_131 fX6_51 rfl rfl (lyx_is hy 50 6 rfl) (fun I10542 eI10542 => ?_)
        have hI10542 : XI g n L I10542 := by rw [eI10542]; exact (xi_f hy hI10403 (c := 50) (0) (0) (20) (by decide) (Or.inl (by decide)) (by decide) (by omega) (by omega))
        have e10543 : I10542 (ad g 1) 1 = L := by rw [eI10542, pp_ne _ _ (Or.inl (lyx_ne hy (by decide) (by decide) (by decide)))]; exact e10404
        have e10544 : I10542 (ad g 27) 4 = v10369 := by rw [eI10542, pp_ne _ _ (Or.inl (lyx_ne hy (by decide) (by decide) (by decide)))]; exact e10405
        have e10545 : I10542 (ad g 50) 0 = v10376 := by rw [eI10542, pp_ne _ _ (Or.inr (by decide))]; exact e10406
        have e10546 : I10542 (ad g 50) 1 = v10382 := by rw [eI10542, pp_ne _ _ (Or.inr (by decide))]; exact e10407
        have e10547 : I10542 (ad g 50) 2 = v10389 := by rw [eI10542, pp_ne _ _ (Or.inr (by decide))]; exact e10408
        have e10548 : I10542 (ad g 50) 3 = v10402 := by rw [eI10542, pp_ne _ _ (Or.inr (by decide))]; exact e10409
        have e10549 : I10542 (ad g 50) 4 = v10541 := by rw [eI10542, pp_self]
        have fr10550 : fz 74 g [50] I I10542 := by rw [eI10542]; exact fzx_pp hy fr10410 (by decide) (by decide)
        clear eI10542
        refine WP_aload_n dX6_load_134 rfl ?_
        refine WP_iload dX6_load_135 rfl ?_
        refine WQ_if_eq 144 dX6_load_137 rfl (fun c10550 => ?_) (fun c10550 => False.elim (by omega))
        refine WP_aload_n dX6_load_144 rfl ?_
        refine WQ_getim dX6_load_145 fX6_36 rfl (lyx_is hy 50 6 rfl) e10546 ?_
        refine WQ_puti dX6_load_148 fX6_54 rfl rfl (lyx_is hy 50 6 rfl) (fun I10552 eI10552 => ?_)
        have hI10552 : XI g n L I10552 := by rw [eI10552]; exact (xi_f hy hI10542 (c := 50) (0) (0) (3) (by decide) (Or.inl (by decide)) (by decide) (by omega) (by omega))
        have e10553 : I10552 (ad g 1) 1 = L := by rw [eI10552, pp_ne _ _ (Or.inl (lyx_ne hy (by decide) (by decide) (by decide)))]; exact e10543
        have e10554 : I10552 (ad g 27) 4 = v10369 := by rw [eI10552, pp_ne _ _ (Or.inl (lyx_ne hy (by decide) (by decide) (by decide)))]; exact e10544
        have e10555 : I10552 (ad g 50) 0 = v10376 := by rw [eI10552, pp_ne _ _ (Or.inr (by decide))]; exact e10545
        have e10556 : I10552 (ad g 50) 1 = v10382 := by rw [eI10552, pp_ne _ _ (Or.inr (by decide))]; exact e10546
        have e10557 : I10552 (ad g 50) 2 = v10389 := by rw [eI10552, pp_ne _ _ (Or.inr (by decide))]; exact e10547
        have e10558 : I10552 (ad g 50) 3 = v10402 := by rw [eI10552, pp_ne _ _ (Or.inr (by decide))]; exact e10548
        have e10559 : I10552 (ad g 50) 4 = v10541 := by rw [eI10552, pp_ne _ _ (Or.inr (by decide))]; exact e10549
        have e10560 : I10552 (ad g 50) 5 = v10382 := by rw [eI10552, pp_self]
        have fr10561 : fz 74 g [50] I I10552 := by rw [eI10552]; exact fzx_pp hy fr10550 (by decide) (by decide)
        clear eI10552
        refine WP_aload_n dX6_load_151 rfl ?_
        refine WP_iload dX6_load_152 rfl ?_
        refine WQ_if_ne 163 dX6_load_154 rfl (fun c10561 => False.elim (by omega)) (fun c10561 => ?_)
        refine WP_iload dX6_load_157 rfl ?_
        refine WQ_iconst (-1) (-1) dX6_load_159 rfl rfl (fun v10563 hv10563 => ?_)
        refine WQ_icmp_ne 167 dX6_load_160 rfl (fun c10563 => False.elim (by omega)) (fun c10563 => ?_)
        refine WQ_iconst (0) (0) dX6_load_163 rfl rfl (fun v10565 hv10565 => ?_)
        refine WP_goto 168 dX6_load_164 rfl ?_
        refine WQ_puti dX6_load_168 fX6_57 rfl rfl (lyx_is hy 50 6 rfl) (fun I10566 eI10566 => ?_)
        have hI10566 : XI g n L I10566 := by rw [eI10566]; exact (xi_f hy hI10552 (c := 50) (0) (0) (2) (by decide) (Or.inl (by decide)) (by decide) (by omega) (by omega))
        have e10567 : I10566 (ad g 1) 1 = L := by rw [eI10566, pp_ne _ _ (Or.inl (lyx_ne hy (by decide) (by decide) (by decide)))]; exact e10553
        have e10568 : I10566 (ad g 27) 4 = v10369 := by rw [eI10566, pp_ne _ _ (Or.inl (lyx_ne hy (by decide) (by decide) (by decide)))]; exact e10554
        have e10569 : I10566 (ad g 50) 0 = v10376 := by rw [eI10566, pp_ne _ _ (Or.inr (by decide))]; exact e10555
        have e10570 : I10566 (ad g 50) 1 = v10382 := by rw [eI10566, pp_ne _ _ (Or.inr (by decide))]; exact e10556
        have e10571 : I10566 (ad g 50) 2 = v10389 := by rw [eI10566, pp_ne _ _ (Or.inr (by decide))]; exact e10557
        have e10572 : I10566 (ad g 50) 3 = v10402 := by rw [eI10566, pp_ne _ _ (Or.inr (by decide))]; exact e10558
        have e10573 : I10566 (ad g 50) 4 = v10541 := by rw [eI10566, pp_ne _ _ (Or.inr (by decide))]; exact e10559
        have e10574 : I10566 (ad g 50) 5 = v10382 := by rw [eI10566, pp_ne _ _ (Or.inr (by decide))]; exact e10560
        have e10575 : I10566 (ad g 50) 6 = v10565 := by rw [eI10566, pp_self]
        have fr10576 : fz 74 g [50] I I10566 := by rw [eI10566]; exact fzx_pp hy fr10561 (by decide) (by decide)
        clear eI10566
        refine WP_aload_n dX6_load_171 rfl ?_
        refine WP_aload_n dX6_load_172 rfl ?_
        refine WQ_getim dX6_load_173 fX6_9 rfl (lyx_is hy 50 6 rfl) e10569 ?_
        refine WQ_iconst (-1) (-1) dX6_load_176 rfl rfl (fun v10577 hv10577 => ?_)
        refine WQ_icmp_eq 193 dX6_load_177 rfl (fun c10577 => False.elim (by omega)) (fun c10577 => ?_)
        refine WP_aload_n dX6_load_180 rfl ?_
        refine WQ_getim dX6_load_181 fX6_9 rfl (lyx_is hy 50 6 rfl) e10569 ?_
        refine WP_iload dX6_load_184 rfl ?_
        refine WQ_icmp_ne 193 dX6_load_186 rfl (fun c10578 => ?_) (fun c10578 => False.elim (by omega))
        refine WQ_iconst (0) (0) dX6_load_193 rfl rfl (fun v10580 hv10580 => ?_)
        refine WQ_putz dX6_load_194 fX6_60 rfl rfl (by omega) (lyx_is hy 50 6 rfl) (fun I10581 eI10581 => ?_)
        have hI10581 : XI g n L I10581 := by rw [eI10581]; exact (xi_f hy hI10566 (c := 50) (0) (0) (1) (by decide) (Or.inl (by decide)) (by decide) (by omega) (by omega))
        have e10582 : I10581 (ad g 1) 1 = L := by rw [eI10581, pp_ne _ _ (Or.inl (lyx_ne hy (by decide) (by decide) (by decide)))]; exact e10567
        have e10583 : I10581 (ad g 27) 4 = v10369 := by rw [eI10581, pp_ne _ _ (Or.inl (lyx_ne hy (by decide) (by decide) (by decide)))]; exact e10568
        have e10584 : I10581 (ad g 50) 0 = v10376 := by rw [eI10581, pp_ne _ _ (Or.inr (by decide))]; exact e10569
        have e10585 : I10581 (ad g 50) 1 = v10382 := by rw [eI10581, pp_ne _ _ (Or.inr (by decide))]; exact e10570
        have e10586 : I10581 (ad g 50) 2 = v10389 := by rw [eI10581, pp_ne _ _ (Or.inr (by decide))]; exact e10571
        have e10587 : I10581 (ad g 50) 3 = v10402 := by rw [eI10581, pp_ne _ _ (Or.inr (by decide))]; exact e10572
        have e10588 : I10581 (ad g 50) 4 = v10541 := by rw [eI10581, pp_ne _ _ (Or.inr (by decide))]; exact e10573
        have e10589 : I10581 (ad g 50) 5 = v10382 := by rw [eI10581, pp_ne _ _ (Or.inr (by decide))]; exact e10574
        have e10590 : I10581 (ad g 50) 6 = v10565 := by rw [eI10581, pp_ne _ _ (Or.inr (by decide))]; exact e10575
        have e10591 : I10581 (ad g 50) 7 = v10580 := by rw [eI10581, pp_self]
        have fr10592 : fz 74 g [50] I I10581 := by rw [eI10581]; exact fzx_pp hy fr10576 (by decide) (by decide)
        clear eI10581
        refine WP_aload_n dX6_load_197 rfl ?_
        refine WP_aload_n dX6_load_198 rfl ?_
        refine WP_getr dX6_load_199 fX6_64 rfl (lyx_is hy 5 0 rfl) (rfx hr 5 2 23 (by decide)) ?_
        refine WP_iload_n dX6_load_202 rfl ?_
        refine WQ_iald dX6_load_203 (lyx_is hy 23 13 rfl) (lyx_n hy 23 7 rfl) (by omega) (by omega) (fun q hq => BT_get hI10581.1 23 0 7 (0) (0) (900) (by decide) q (Nat.zero_le _) hq) (fun v10593 av10593 bv10593 ev10593 => ?_)
        clear ev10593
        refine WQ_if_le 211 dX6_load_204 rfl (fun c10593 => ?_) (fun c10593 => ?_)
        · refine WQ_iconst (0) (0) dX6_load_211 rfl rfl (fun v10595 hv10595 => ?_)
          refine WQ_putz dX6_load_212 fX6_67 rfl rfl (by omega) (lyx_is hy 50 6 rfl) (fun I10596 eI10596 => ?_)
          have hI10596 : XI g n L I10596 := by rw [eI10596]; exact (xi_f hy hI10581 (c := 50) (0) (0) (1) (by decide) (Or.inl (by decide)) (by decide) (by omega) (by omega))
          have e10597 : I10596 (ad g 1) 1 = L := by rw [eI10596, pp_ne _ _ (Or.inl (lyx_ne hy (by decide) (by decide) (by decide)))]; exact e10582
          have e10598 : I10596 (ad g 27) 4 = v10369 := by rw [eI10596, pp_ne _ _ (Or.inl (lyx_ne hy (by decide) (by decide) (by decide)))]; exact e10583
          have e10599 : I10596 (ad g 50) 0 = v10376 := by rw [eI10596, pp_ne _ _ (Or.inr (by decide))]; exact e10584
          have e10600 : I10596 (ad g 50) 1 = v10382 := by rw [eI10596, pp_ne _ _ (Or.inr (by decide))]; exact e10585
          have e10601 : I10596 (ad g 50) 2 = v10389 := by rw [eI10596, pp_ne _ _ (Or.inr (by decide))]; exact e10586
          have e10602 : I10596 (ad g 50) 3 = v10402 := by rw [eI10596, pp_ne _ _ (Or.inr (by decide))]; exact e10587
          have e10603 : I10596 (ad g 50) 4 = v10541 := by rw [eI10596, pp_ne _ _ (Or.inr (by decide))]; exact e10588
          have e10604 : I10596 (ad g 50) 5 = v10382 := by rw [eI10596, pp_ne _ _ (Or.inr (by decide))]; exact e10589
          have e10605 : I10596 (ad g 50) 6 = v10565 := by rw [eI10596, pp_ne _ _ (Or.inr (by decide))]; exact e10590
          have e10606 : I10596 (ad g 50) 7 = v10580 := by rw [eI10596, pp_ne _ _ (Or.inr (by decide))]; exact e10591
          have e10607 : I10596 (ad g 50) 8 = v10595 := by rw [eI10596, pp_self]
          have fr10608 : fz 74 g [50] I I10596 := by rw [eI10596]; exact fzx_pp hy fr10592 (by decide) (by decide)
          clear eI10596
          exact WP_vret dX6_load_215 rfl ⟨⟨hI10596, rfl, fr10608, rfl, (by
                have yill : I (ad g (27 + 5)) so.toInt.toNat >>> (nI da.toInt.toNat &&& 31) &&& 1 = v10373 := by rw [show I (ad g (27 + 5)) so.toInt.toNat = v10370 from yv10370, show nI da.toInt.toNat = da from (eq32 _ _).mpr (by rw [nI_toInt (by omega)]; omega), xv10373, xv10371, (eq32 v10372 1).mpr hv10372]
                have yst : I (ad g 27) 4 = v10369 := est
                unfold LD
                simp only [e10599, e10600, e10601, e10602, e10603, e10604, e10605, e10606, yill, yst, show I (ad g (27 + 7)) _ = _ from yv10376, show I (ad g (27 + 8)) _ = _ from yv10382, show I (ad g (27 + 9)) _ = _ from yv10389, yv10402, true_and, and_true]
                omega)⟩, rfl⟩
        · refine WQ_iconst (1) (1) dX6_load_207 rfl rfl (fun v10609 hv10609 => ?_)
          refine WP_goto 212 dX6_load_208 rfl ?_
          refine WQ_putz dX6_load_212 fX6_67 rfl rfl (by omega) (lyx_is hy 50 6 rfl) (fun I10610 eI10610 => ?_)
          have hI10610 : XI g n L I10610 := by rw [eI10610]; exact (xi_f hy hI10581 (c := 50) (0) (0) (1) (by decide) (Or.inl (by decide)) (by decide) (by omega) (by omega))
          have e10611 : I10610 (ad g 1) 1 = L := by rw [eI10610, pp_ne _ _ (Or.inl (lyx_ne hy (by decide) (by decide) (by decide)))]; exact e10582
          have e10612 : I10610 (ad g 27) 4 = v10369 := by rw [eI10610, pp_ne _ _ (Or.inl (lyx_ne hy (by decide) (by decide) (by decide)))]; exact e10583
          have e10613 : I10610 (ad g 50) 0 = v10376 := by rw [eI10610, pp_ne _ _ (Or.inr (by decide))]; exact e10584
          have e10614 : I10610 (ad g 50) 1 = v10382 := by rw [eI10610, pp_ne _ _ (Or.inr (by decide))]; exact e10585
          have e10615 : I10610 (ad g 50) 2 = v10389 := by rw [eI10610, pp_ne _ _ (Or.inr (by decide))]; exact e10586
          have e10616 : I10610 (ad g 50) 3 = v10402 := by rw [eI10610, pp_ne _ _ (Or.inr (by decide))]; exact e10587
          have e10617 : I10610 (ad g 50) 4 = v10541 := by rw [eI10610, pp_ne _ _ (Or.inr (by decide))]; exact e10588
          have e10618 : I10610 (ad g 50) 5 = v10382 := by rw [eI10610, pp_ne _ _ (Or.inr (by decide))]; exact e10589
          have e10619 : I10610 (ad g 50) 6 = v10565 := by rw [eI10610, pp_ne _ _ (Or.inr (by decide))]; exact e10590
          have e10620 : I10610 (ad g 50) 7 = v10580 := by rw [eI10610, pp_ne _ _ (Or.inr (by decide))]; exact e10591
          have e10621 : I10610 (ad g 50) 8 = v10609 := by rw [eI10610, pp_self]
          have fr10622 : fz 74 g [50] I I10610 := by rw [eI10610]; exact fzx_pp hy fr10592 (by decide) (by decide)
          clear eI10610
          exact WP_vret dX6_load_215 rfl ⟨⟨hI10610, rfl, fr10622, rfl, (by
                have yill : I (ad g (27 + 5)) so.toInt.toNat >>> (nI da.toInt.toNat &&& 31) &&& 1 = v10373 := by rw [show I (ad g (27 + 5)) so.toInt.toNat = v10370 from yv10370, show nI da.toInt.toNat = da from (eq32 _ _).mpr (by rw [nI_toInt (by omega)]; omega), xv10373, xv10371, (eq32 v10372 1).mpr hv10372]
                have yst : I (ad g 27) 4 = v10369 := est
                unfold LD
                simp only [e10613, e10614, e10615, e10616, e10617, e10618, e10619, e10620, yill, yst, show I (ad g (27 + 7)) _ = _ from yv10376, show I (ad g (27 + 8)) _ = _ from yv10382, show I (ad g (27 + 9)) _ = _ from yv10389, yv10402, true_and, and_true]
                omega)⟩, rfl⟩
    · refine WQ_iconst (0) (0) dX6_load_87 rfl rfl (fun v10623 hv10623 => ?_)
      refine WP_goto 105 dX6_load_88 rfl ?_
      refine WQ_puti dX6_load_105 fX6_48 rfl rfl (lyx_is hy 50 6 rfl) (fun I10624 eI10624 => ?_)
      have hI10624 : XI g n L I10624 := by rw [eI10624]; exact (xi_f hy hI10390 (c := 50) (0) (0) (20) (by decide) (Or.inl (by decide)) (by decide) (by omega) (by omega))
      have e10625 : I10624 (ad g 1) 1 = L := by rw [eI10624, pp_ne _ _ (Or.inl (lyx_ne hy (by decide) (by decide) (by decide)))]; exact e10391
      have e10626 : I10624 (ad g 27) 4 = v10369 := by rw [eI10624, pp_ne _ _ (Or.inl (lyx_ne hy (by decide) (by decide) (by decide)))]; exact e10392
      have e10627 : I10624 (ad g 50) 0 = v10376 := by rw [eI10624, pp_ne _ _ (Or.inr (by decide))]; exact e10393
      have e10628 : I10624 (ad g 50) 1 = v10382 := by rw [eI10624, pp_ne _ _ (Or.inr (by decide))]; exact e10394
      have e10629 : I10624 (ad g 50) 2 = v10389 := by rw [eI10624, pp_ne _ _ (Or.inr (by decide))]; exact e10395
      have e10630 : I10624 (ad g 50) 3 = v10623 := by rw [eI10624, pp_self]
      have fr10631 : fz 74 g [50] I I10624 := by rw [eI10624]; exact fzx_pp hy fr10396 (by decide) (by decide)
      clear eI10624
      refine WP_aload_n dX6_load_108 rfl ?_
      refine WP_iload dX6_load_109 rfl ?_
      refine WQ_iconst (-1) (-1) dX6_load_111 rfl rfl (fun v10632 hv10632 => ?_)
      refine WQ_icmp_ne 119 dX6_load_112 rfl (fun c10632 => ?_) (fun c10632 => ?_)
      · refine WP_aload_n dX6_load_119 rfl ?_
        refine WP_getr dX6_load_120 fX6_45 rfl (lyx_is hy 5 0 rfl) (rfx hr 5 1 22 (by decide)) ?_
        refine WP_iload dX6_load_123 rfl ?_
        refine WQ_bipush (7) (7) dX6_load_125 rfl rfl (fun v10634 hv10634 => ?_)
        refine WQ_imulk (7) dX6_load_127 hv10634 (by omega) (by omega) (fun v10635 hv10635 => ?_)
        refine WP_iload_n dX6_load_128 rfl ?_
        refine WQ_iadd dX6_load_129 (by omega) (by omega) (fun v10636 hv10636 => ?_)
        refine WQ_ialdb dX6_load_130 (lyx_is hy 22 13 rfl) (lyx_n hy 22 21 rfl) (by omega) (by omega) (fun q hq => BT_get hI10624.1 22 0 21 (0) (0) (20) (by decide) q (Nat.zero_le _) hq) (fun v10637 av10637 bv10637 zv10637 => ?_)
        have yv10637 : I (ad g 22) (7 * v10369.toInt + da.toInt).toNat = v10637 := by rw [← fz_at fr10631 22 (by decide) (by decide), show (7 * v10369.toInt + da.toInt).toNat = v10636.toInt.toNat by omega]; exact zv10637
        refine WQ_puti dX6_load_131 fX6_51 rfl rfl (lyx_is hy 50 6 rfl) (fun I10638 eI10638 => ?_)
        have hI10638 : XI g n L I10638 := by rw [eI10638]; exact (xi_f hy hI10624 (c := 50) (0) (0) (20) (by decide) (Or.inl (by decide)) (by decide) (by omega) (by omega))
        have e10639 : I10638 (ad g 1) 1 = L := by rw [eI10638, pp_ne _ _ (Or.inl (lyx_ne hy (by decide) (by decide) (by decide)))]; exact e10625
        have e10640 : I10638 (ad g 27) 4 = v10369 := by rw [eI10638, pp_ne _ _ (Or.inl (lyx_ne hy (by decide) (by decide) (by decide)))]; exact e10626
        have e10641 : I10638 (ad g 50) 0 = v10376 := by rw [eI10638, pp_ne _ _ (Or.inr (by decide))]; exact e10627
        have e10642 : I10638 (ad g 50) 1 = v10382 := by rw [eI10638, pp_ne _ _ (Or.inr (by decide))]; exact e10628
        have e10643 : I10638 (ad g 50) 2 = v10389 := by rw [eI10638, pp_ne _ _ (Or.inr (by decide))]; exact e10629
        have e10644 : I10638 (ad g 50) 3 = v10623 := by rw [eI10638, pp_ne _ _ (Or.inr (by decide))]; exact e10630
        have e10645 : I10638 (ad g 50) 4 = v10637 := by rw [eI10638, pp_self]
        have fr10646 : fz 74 g [50] I I10638 := by rw [eI10638]; exact fzx_pp hy fr10631 (by decide) (by decide)
        clear eI10638
        refine WP_aload_n dX6_load_134 rfl ?_
        refine WP_iload dX6_load_135 rfl ?_
        refine WQ_if_eq 144 dX6_load_137 rfl (fun c10646 => ?_) (fun c10646 => False.elim (by omega))
        refine WP_aload_n dX6_load_144 rfl ?_
        refine WQ_getim dX6_load_145 fX6_36 rfl (lyx_is hy 50 6 rfl) e10642 ?_
        refine WQ_puti dX6_load_148 fX6_54 rfl rfl (lyx_is hy 50 6 rfl) (fun I10648 eI10648 => ?_)
        have hI10648 : XI g n L I10648 := by rw [eI10648]; exact (xi_f hy hI10638 (c := 50) (0) (0) (3) (by decide) (Or.inl (by decide)) (by decide) (by omega) (by omega))
        have e10649 : I10648 (ad g 1) 1 = L := by rw [eI10648, pp_ne _ _ (Or.inl (lyx_ne hy (by decide) (by decide) (by decide)))]; exact e10639
        have e10650 : I10648 (ad g 27) 4 = v10369 := by rw [eI10648, pp_ne _ _ (Or.inl (lyx_ne hy (by decide) (by decide) (by decide)))]; exact e10640
        have e10651 : I10648 (ad g 50) 0 = v10376 := by rw [eI10648, pp_ne _ _ (Or.inr (by decide))]; exact e10641
        have e10652 : I10648 (ad g 50) 1 = v10382 := by rw [eI10648, pp_ne _ _ (Or.inr (by decide))]; exact e10642
        have e10653 : I10648 (ad g 50) 2 = v10389 := by rw [eI10648, pp_ne _ _ (Or.inr (by decide))]; exact e10643
        have e10654 : I10648 (ad g 50) 3 = v10623 := by rw [eI10648, pp_ne _ _ (Or.inr (by decide))]; exact e10644
        have e10655 : I10648 (ad g 50) 4 = v10637 := by rw [eI10648, pp_ne _ _ (Or.inr (by decide))]; exact e10645
        have e10656 : I10648 (ad g 50) 5 = v10382 := by rw [eI10648, pp_self]
        have fr10657 : fz 74 g [50] I I10648 := by rw [eI10648]; exact fzx_pp hy fr10646 (by decide) (by decide)
        clear eI10648
        refine WP_aload_n dX6_load_151 rfl ?_
        refine WP_iload dX6_load_152 rfl ?_
        refine WQ_if_ne 163 dX6_load_154 rfl (fun c10657 => False.elim (by omega)) (fun c10657 => ?_)
        refine WP_iload dX6_load_157 rfl ?_
        refine WQ_iconst (-1) (-1) dX6_load_159 rfl rfl (fun v10659 hv10659 => ?_)
        refine WQ_icmp_ne 167 dX6_load_160 rfl (fun c10659 => ?_) (fun c10659 => False.elim (by omega))
        refine WQ_iconst (2) (2) dX6_load_167 rfl rfl (fun v10661 hv10661 => ?_)
        refine WQ_puti dX6_load_168 fX6_57 rfl rfl (lyx_is hy 50 6 rfl) (fun I10662 eI10662 => ?_)
        have hI10662 : XI g n L I10662 := by rw [eI10662]; exact (xi_f hy hI10648 (c := 50) (0) (0) (2) (by decide) (Or.inl (by decide)) (by decide) (by omega) (by omega))
        have e10663 : I10662 (ad g 1) 1 = L := by rw [eI10662, pp_ne _ _ (Or.inl (lyx_ne hy (by decide) (by decide) (by decide)))]; exact e10649
        have e10664 : I10662 (ad g 27) 4 = v10369 := by rw [eI10662, pp_ne _ _ (Or.inl (lyx_ne hy (by decide) (by decide) (by decide)))]; exact e10650
        have e10665 : I10662 (ad g 50) 0 = v10376 := by rw [eI10662, pp_ne _ _ (Or.inr (by decide))]; exact e10651
        have e10666 : I10662 (ad g 50) 1 = v10382 := by rw [eI10662, pp_ne _ _ (Or.inr (by decide))]; exact e10652
        have e10667 : I10662 (ad g 50) 2 = v10389 := by rw [eI10662, pp_ne _ _ (Or.inr (by decide))]; exact e10653
        have e10668 : I10662 (ad g 50) 3 = v10623 := by rw [eI10662, pp_ne _ _ (Or.inr (by decide))]; exact e10654
        have e10669 : I10662 (ad g 50) 4 = v10637 := by rw [eI10662, pp_ne _ _ (Or.inr (by decide))]; exact e10655
        have e10670 : I10662 (ad g 50) 5 = v10382 := by rw [eI10662, pp_ne _ _ (Or.inr (by decide))]; exact e10656
        have e10671 : I10662 (ad g 50) 6 = v10661 := by rw [eI10662, pp_self]
        have fr10672 : fz 74 g [50] I I10662 := by rw [eI10662]; exact fzx_pp hy fr10657 (by decide) (by decide)
        clear eI10662
        refine WP_aload_n dX6_load_171 rfl ?_
        refine WP_aload_n dX6_load_172 rfl ?_
        refine WQ_getim dX6_load_173 fX6_9 rfl (lyx_is hy 50 6 rfl) e10665 ?_
        refine WQ_iconst (-1) (-1) dX6_load_176 rfl rfl (fun v10673 hv10673 => ?_)
        refine WQ_icmp_eq 193 dX6_load_177 rfl (fun c10673 => ?_) (fun c10673 => False.elim (by omega))
        refine WQ_iconst (0) (0) dX6_load_193 rfl rfl (fun v10675 hv10675 => ?_)
        refine WQ_putz dX6_load_194 fX6_60 rfl rfl (by omega) (lyx_is hy 50 6 rfl) (fun I10676 eI10676 => ?_)
        have hI10676 : XI g n L I10676 := by rw [eI10676]; exact (xi_f hy hI10662 (c := 50) (0) (0) (1) (by decide) (Or.inl (by decide)) (by decide) (by omega) (by omega))
        have e10677 : I10676 (ad g 1) 1 = L := by rw [eI10676, pp_ne _ _ (Or.inl (lyx_ne hy (by decide) (by decide) (by decide)))]; exact e10663
        have e10678 : I10676 (ad g 27) 4 = v10369 := by rw [eI10676, pp_ne _ _ (Or.inl (lyx_ne hy (by decide) (by decide) (by decide)))]; exact e10664
        have e10679 : I10676 (ad g 50) 0 = v10376 := by rw [eI10676, pp_ne _ _ (Or.inr (by decide))]; exact e10665
        have e10680 : I10676 (ad g 50) 1 = v10382 := by rw [eI10676, pp_ne _ _ (Or.inr (by decide))]; exact e10666
        have e10681 : I10676 (ad g 50) 2 = v10389 := by rw [eI10676, pp_ne _ _ (Or.inr (by decide))]; exact e10667
        have e10682 : I10676 (ad g 50) 3 = v10623 := by rw [eI10676, pp_ne _ _ (Or.inr (by decide))]; exact e10668
        have e10683 : I10676 (ad g 50) 4 = v10637 := by rw [eI10676, pp_ne _ _ (Or.inr (by decide))]; exact e10669
        have e10684 : I10676 (ad g 50) 5 = v10382 := by rw [eI10676, pp_ne _ _ (Or.inr (by decide))]; exact e10670
        have e10685 : I10676 (ad g 50) 6 = v10661 := by rw [eI10676, pp_ne _ _ (Or.inr (by decide))]; exact e10671
        have e10686 : I10676 (ad g 50) 7 = v10675 := by rw [eI10676, pp_self]
        have fr10687 : fz 74 g [50] I I10676 := by rw [eI10676]; exact fzx_pp hy fr10672 (by decide) (by decide)
        clear eI10676
        refine WP_aload_n dX6_load_197 rfl ?_
        refine WP_aload_n dX6_load_198 rfl ?_
        refine WP_getr dX6_load_199 fX6_64 rfl (lyx_is hy 5 0 rfl) (rfx hr 5 2 23 (by decide)) ?_
        refine WP_iload_n dX6_load_202 rfl ?_
        refine WQ_iald dX6_load_203 (lyx_is hy 23 13 rfl) (lyx_n hy 23 7 rfl) (by omega) (by omega) (fun q hq => BT_get hI10676.1 23 0 7 (0) (0) (900) (by decide) q (Nat.zero_le _) hq) (fun v10688 av10688 bv10688 ev10688 => ?_)
        clear ev10688
        refine WQ_if_le 211 dX6_load_204 rfl (fun c10688 => ?_) (fun c10688 => ?_)
        · refine WQ_iconst (0) (0) dX6_load_211 rfl rfl (fun v10690 hv10690 => ?_)
          refine WQ_putz dX6_load_212 fX6_67 rfl rfl (by omega) (lyx_is hy 50 6 rfl) (fun I10691 eI10691 => ?_)
          have hI10691 : XI g n L I10691 := by rw [eI10691]; exact (xi_f hy hI10676 (c := 50) (0) (0) (1) (by decide) (Or.inl (by decide)) (by decide) (by omega) (by omega))
          have e10692 : I10691 (ad g 1) 1 = L := by rw [eI10691, pp_ne _ _ (Or.inl (lyx_ne hy (by decide) (by decide) (by decide)))]; exact e10677
          have e10693 : I10691 (ad g 27) 4 = v10369 := by rw [eI10691, pp_ne _ _ (Or.inl (lyx_ne hy (by decide) (by decide) (by decide)))]; exact e10678
          have e10694 : I10691 (ad g 50) 0 = v10376 := by rw [eI10691, pp_ne _ _ (Or.inr (by decide))]; exact e10679
          have e10695 : I10691 (ad g 50) 1 = v10382 := by rw [eI10691, pp_ne _ _ (Or.inr (by decide))]; exact e10680
          have e10696 : I10691 (ad g 50) 2 = v10389 := by rw [eI10691, pp_ne _ _ (Or.inr (by decide))]; exact e10681
          have e10697 : I10691 (ad g 50) 3 = v10623 := by rw [eI10691, pp_ne _ _ (Or.inr (by decide))]; exact e10682
          have e10698 : I10691 (ad g 50) 4 = v10637 := by rw [eI10691, pp_ne _ _ (Or.inr (by decide))]; exact e10683
          have e10699 : I10691 (ad g 50) 5 = v10382 := by rw [eI10691, pp_ne _ _ (Or.inr (by decide))]; exact e10684
          have e10700 : I10691 (ad g 50) 6 = v10661 := by rw [eI10691, pp_ne _ _ (Or.inr (by decide))]; exact e10685
          have e10701 : I10691 (ad g 50) 7 = v10675 := by rw [eI10691, pp_ne _ _ (Or.inr (by decide))]; exact e10686
          have e10702 : I10691 (ad g 50) 8 = v10690 := by rw [eI10691, pp_self]
          have fr10703 : fz 74 g [50] I I10691 := by rw [eI10691]; exact fzx_pp hy fr10687 (by decide) (by decide)
          clear eI10691
          exact WP_vret dX6_load_215 rfl ⟨⟨hI10691, rfl, fr10703, rfl, (by
                have yill : I (ad g (27 + 5)) so.toInt.toNat >>> (nI da.toInt.toNat &&& 31) &&& 1 = v10373 := by rw [show I (ad g (27 + 5)) so.toInt.toNat = v10370 from yv10370, show nI da.toInt.toNat = da from (eq32 _ _).mpr (by rw [nI_toInt (by omega)]; omega), xv10373, xv10371, (eq32 v10372 1).mpr hv10372]
                have yst : I (ad g 27) 4 = v10369 := est
                unfold LD
                simp only [e10694, e10695, e10696, e10697, e10698, e10699, e10700, e10701, yill, yst, show I (ad g (27 + 7)) _ = _ from yv10376, show I (ad g (27 + 8)) _ = _ from yv10382, show I (ad g (27 + 9)) _ = _ from yv10389, yv10637, true_and, and_true]
                omega)⟩, rfl⟩
        · refine WQ_iconst (1) (1) dX6_load_207 rfl rfl (fun v10704 hv10704 => ?_)
          refine WP_goto 212 dX6_load_208 rfl ?_
          refine WQ_putz dX6_load_212 fX6_67 rfl rfl (by omega) (lyx_is hy 50 6 rfl) (fun I10705 eI10705 => ?_)
          have hI10705 : XI g n L I10705 := by rw [eI10705]; exact (xi_f hy hI10676 (c := 50) (0) (0) (1) (by decide) (Or.inl (by decide)) (by decide) (by omega) (by omega))
          have e10706 : I10705 (ad g 1) 1 = L := by rw [eI10705, pp_ne _ _ (Or.inl (lyx_ne hy (by decide) (by decide) (by decide)))]; exact e10677
          have e10707 : I10705 (ad g 27) 4 = v10369 := by rw [eI10705, pp_ne _ _ (Or.inl (lyx_ne hy (by decide) (by decide) (by decide)))]; exact e10678
          have e10708 : I10705 (ad g 50) 0 = v10376 := by rw [eI10705, pp_ne _ _ (Or.inr (by decide))]; exact e10679
          have e10709 : I10705 (ad g 50) 1 = v10382 := by rw [eI10705, pp_ne _ _ (Or.inr (by decide))]; exact e10680
          have e10710 : I10705 (ad g 50) 2 = v10389 := by rw [eI10705, pp_ne _ _ (Or.inr (by decide))]; exact e10681
          have e10711 : I10705 (ad g 50) 3 = v10623 := by rw [eI10705, pp_ne _ _ (Or.inr (by decide))]; exact e10682
          have e10712 : I10705 (ad g 50) 4 = v10637 := by rw [eI10705, pp_ne _ _ (Or.inr (by decide))]; exact e10683
          have e10713 : I10705 (ad g 50) 5 = v10382 := by rw [eI10705, pp_ne _ _ (Or.inr (by decide))]; exact e10684
          have e10714 : I10705 (ad g 50) 6 = v10661 := by rw [eI10705, pp_ne _ _ (Or.inr (by decide))]; exact e10685
          have e10715 : I10705 (ad g 50) 7 = v10675 := by rw [eI10705, pp_ne _ _ (Or.inr (by decide))]; exact e10686
          have e10716 : I10705 (ad g 50) 8 = v10704 := by rw [eI10705, pp_self]
          have fr10717 : fz 74 g [50] I I10705 := by rw [eI10705]; exact fzx_pp hy fr10687 (by decide) (by decide)
          clear eI10705
          exact WP_vret dX6_load_215 rfl ⟨⟨hI10705, rfl, fr10717, rfl, (by
                have yill : I (ad g (27 + 5)) so.toInt.toNat >>> (nI da.toInt.toNat &&& 31) &&& 1 = v10373 := by rw [show I (ad g (27 + 5)) so.toInt.toNat = v10370 from yv10370, show nI da.toInt.toNat = da from (eq32 _ _).mpr (by rw [nI_toInt (by omega)]; omega), xv10373, xv10371, (eq32 v10372 1).mpr hv10372]
                have yst : I (ad g 27) 4 = v10369 := est
                unfold LD
                simp only [e10708, e10709, e10710, e10711, e10712, e10713, e10714, e10715, yill, yst, show I (ad g (27 + 7)) _ = _ from yv10376, show I (ad g (27 + 8)) _ = _ from yv10382, show I (ad g (27 + 9)) _ = _ from yv10389, yv10637, true_and, and_true]
                omega)⟩, rfl⟩
      · refine WQ_iconst (0) (0) dX6_load_115 rfl rfl (fun v10718 hv10718 => ?_)
        refine WP_goto 131 dX6_load_116 rfl ?_
        refine WQ_puti dX6_load_131 fX6_51 rfl rfl (lyx_is hy 50 6 rfl) (fun I10719 eI10719 => ?_)
        have hI10719 : XI g n L I10719 := by rw [eI10719]; exact (xi_f hy hI10624 (c := 50) (0) (0) (20) (by decide) (Or.inl (by decide)) (by decide) (by omega) (by omega))
        have e10720 : I10719 (ad g 1) 1 = L := by rw [eI10719, pp_ne _ _ (Or.inl (lyx_ne hy (by decide) (by decide) (by decide)))]; exact e10625
        have e10721 : I10719 (ad g 27) 4 = v10369 := by rw [eI10719, pp_ne _ _ (Or.inl (lyx_ne hy (by decide) (by decide) (by decide)))]; exact e10626
        have e10722 : I10719 (ad g 50) 0 = v10376 := by rw [eI10719, pp_ne _ _ (Or.inr (by decide))]; exact e10627
        have e10723 : I10719 (ad g 50) 1 = v10382 := by rw [eI10719, pp_ne _ _ (Or.inr (by decide))]; exact e10628
        have e10724 : I10719 (ad g 50) 2 = v10389 := by rw [eI10719, pp_ne _ _ (Or.inr (by decide))]; exact e10629
        have e10725 : I10719 (ad g 50) 3 = v10623 := by rw [eI10719, pp_ne _ _ (Or.inr (by decide))]; exact e10630
        have e10726 : I10719 (ad g 50) 4 = v10718 := by rw [eI10719, pp_self]
        have fr10727 : fz 74 g [50] I I10719 := by rw [eI10719]; exact fzx_pp hy fr10631 (by decide) (by decide)
        clear eI10719
        refine WP_aload_n dX6_load_134 rfl ?_
        refine WP_iload dX6_load_135 rfl ?_
        refine WQ_if_eq 144 dX6_load_137 rfl (fun c10727 => ?_) (fun c10727 => False.elim (by omega))
        refine WP_aload_n dX6_load_144 rfl ?_
        refine WQ_getim dX6_load_145 fX6_36 rfl (lyx_is hy 50 6 rfl) e10723 ?_
        refine WQ_puti dX6_load_148 fX6_54 rfl rfl (lyx_is hy 50 6 rfl) (fun I10729 eI10729 => ?_)
        have hI10729 : XI g n L I10729 := by rw [eI10729]; exact (xi_f hy hI10719 (c := 50) (0) (0) (3) (by decide) (Or.inl (by decide)) (by decide) (by omega) (by omega))
        have e10730 : I10729 (ad g 1) 1 = L := by rw [eI10729, pp_ne _ _ (Or.inl (lyx_ne hy (by decide) (by decide) (by decide)))]; exact e10720
        have e10731 : I10729 (ad g 27) 4 = v10369 := by rw [eI10729, pp_ne _ _ (Or.inl (lyx_ne hy (by decide) (by decide) (by decide)))]; exact e10721
        have e10732 : I10729 (ad g 50) 0 = v10376 := by rw [eI10729, pp_ne _ _ (Or.inr (by decide))]; exact e10722
        have e10733 : I10729 (ad g 50) 1 = v10382 := by rw [eI10729, pp_ne _ _ (Or.inr (by decide))]; exact e10723
        have e10734 : I10729 (ad g 50) 2 = v10389 := by rw [eI10729, pp_ne _ _ (Or.inr (by decide))]; exact e10724
        have e10735 : I10729 (ad g 50) 3 = v10623 := by rw [eI10729, pp_ne _ _ (Or.inr (by decide))]; exact e10725
        have e10736 : I10729 (ad g 50) 4 = v10718 := by rw [eI10729, pp_ne _ _ (Or.inr (by decide))]; exact e10726
        have e10737 : I10729 (ad g 50) 5 = v10382 := by rw [eI10729, pp_self]
        have fr10738 : fz 74 g [50] I I10729 := by rw [eI10729]; exact fzx_pp hy fr10727 (by decide) (by decide)
        clear eI10729
        refine WP_aload_n dX6_load_151 rfl ?_
        refine WP_iload dX6_load_152 rfl ?_
        refine WQ_if_ne 163 dX6_load_154 rfl (fun c10738 => False.elim (by omega)) (fun c10738 => ?_)
        refine WP_iload dX6_load_157 rfl ?_
        refine WQ_iconst (-1) (-1) dX6_load_159 rfl rfl (fun v10740 hv10740 => ?_)
        refine WQ_icmp_ne 167 dX6_load_160 rfl (fun c10740 => False.elim (by omega)) (fun c10740 => ?_)
        refine WQ_iconst (0) (0) dX6_load_163 rfl rfl (fun v10742 hv10742 => ?_)
        refine WP_goto 168 dX6_load_164 rfl ?_
        refine WQ_puti dX6_load_168 fX6_57 rfl rfl (lyx_is hy 50 6 rfl) (fun I10743 eI10743 => ?_)
        have hI10743 : XI g n L I10743 := by rw [eI10743]; exact (xi_f hy hI10729 (c := 50) (0) (0) (2) (by decide) (Or.inl (by decide)) (by decide) (by omega) (by omega))
        have e10744 : I10743 (ad g 1) 1 = L := by rw [eI10743, pp_ne _ _ (Or.inl (lyx_ne hy (by decide) (by decide) (by decide)))]; exact e10730
        have e10745 : I10743 (ad g 27) 4 = v10369 := by rw [eI10743, pp_ne _ _ (Or.inl (lyx_ne hy (by decide) (by decide) (by decide)))]; exact e10731
        have e10746 : I10743 (ad g 50) 0 = v10376 := by rw [eI10743, pp_ne _ _ (Or.inr (by decide))]; exact e10732
        have e10747 : I10743 (ad g 50) 1 = v10382 := by rw [eI10743, pp_ne _ _ (Or.inr (by decide))]; exact e10733
        have e10748 : I10743 (ad g 50) 2 = v10389 := by rw [eI10743, pp_ne _ _ (Or.inr (by decide))]; exact e10734
        have e10749 : I10743 (ad g 50) 3 = v10623 := by rw [eI10743, pp_ne _ _ (Or.inr (by decide))]; exact e10735
        have e10750 : I10743 (ad g 50) 4 = v10718 := by rw [eI10743, pp_ne _ _ (Or.inr (by decide))]; exact e10736
        have e10751 : I10743 (ad g 50) 5 = v10382 := by rw [eI10743, pp_ne _ _ (Or.inr (by decide))]; exact e10737
        have e10752 : I10743 (ad g 50) 6 = v10742 := by rw [eI10743, pp_self]
        have fr10753 : fz 74 g [50] I I10743 := by rw [eI10743]; exact fzx_pp hy fr10738 (by decide) (by decide)
        clear eI10743
        refine WP_aload_n dX6_load_171 rfl ?_
        refine WP_aload_n dX6_load_172 rfl ?_
        refine WQ_getim dX6_load_173 fX6_9 rfl (lyx_is hy 50 6 rfl) e10746 ?_
        refine WQ_iconst (-1) (-1) dX6_load_176 rfl rfl (fun v10754 hv10754 => ?_)
        refine WQ_icmp_eq 193 dX6_load_177 rfl (fun c10754 => ?_) (fun c10754 => False.elim (by omega))
        refine WQ_iconst (0) (0) dX6_load_193 rfl rfl (fun v10756 hv10756 => ?_)
        refine WQ_putz dX6_load_194 fX6_60 rfl rfl (by omega) (lyx_is hy 50 6 rfl) (fun I10757 eI10757 => ?_)
        have hI10757 : XI g n L I10757 := by rw [eI10757]; exact (xi_f hy hI10743 (c := 50) (0) (0) (1) (by decide) (Or.inl (by decide)) (by decide) (by omega) (by omega))
        have e10758 : I10757 (ad g 1) 1 = L := by rw [eI10757, pp_ne _ _ (Or.inl (lyx_ne hy (by decide) (by decide) (by decide)))]; exact e10744
        have e10759 : I10757 (ad g 27) 4 = v10369 := by rw [eI10757, pp_ne _ _ (Or.inl (lyx_ne hy (by decide) (by decide) (by decide)))]; exact e10745
        have e10760 : I10757 (ad g 50) 0 = v10376 := by rw [eI10757, pp_ne _ _ (Or.inr (by decide))]; exact e10746
        have e10761 : I10757 (ad g 50) 1 = v10382 := by rw [eI10757, pp_ne _ _ (Or.inr (by decide))]; exact e10747
        have e10762 : I10757 (ad g 50) 2 = v10389 := by rw [eI10757, pp_ne _ _ (Or.inr (by decide))]; exact e10748
        have e10763 : I10757 (ad g 50) 3 = v10623 := by rw [eI10757, pp_ne _ _ (Or.inr (by decide))]; exact e10749
        have e10764 : I10757 (ad g 50) 4 = v10718 := by rw [eI10757, pp_ne _ _ (Or.inr (by decide))]; exact e10750
        have e10765 : I10757 (ad g 50) 5 = v10382 := by rw [eI10757, pp_ne _ _ (Or.inr (by decide))]; exact e10751
        have e10766 : I10757 (ad g 50) 6 = v10742 := by rw [eI10757, pp_ne _ _ (Or.inr (by decide))]; exact e10752
        have e10767 : I10757 (ad g 50) 7 = v10756 := by rw [eI10757, pp_self]
        have fr10768 : fz 74 g [50] I I10757 := by rw [eI10757]; exact fzx_pp hy fr10753 (by decide) (by decide)
        clear eI10757
        refine WP_aload_n dX6_load_197 rfl ?_
        refine WP_aload_n dX6_load_198 rfl ?_
        refine WP_getr dX6_load_199 fX6_64 rfl (lyx_is hy 5 0 rfl) (rfx hr 5 2 23 (by decide)) ?_
        refine WP_iload_n dX6_load_202 rfl ?_
        refine WQ_iald dX6_load_203 (lyx_is hy 23 13 rfl) (lyx_n hy 23 7 rfl) (by omega) (by omega) (fun q hq => BT_get hI10757.1 23 0 7 (0) (0) (900) (by decide) q (Nat.zero_le _) hq) (fun v10769 av10769 bv10769 ev10769 => ?_)
        clear ev10769
        refine WQ_if_le 211 dX6_load_204 rfl (fun c10769 => ?_) (fun c10769 => ?_)
        · refine WQ_iconst (0) (0) dX6_load_211 rfl rfl (fun v10771 hv10771 => ?_)
          refine WQ_putz dX6_load_212 fX6_67 rfl rfl (by omega) (lyx_is hy 50 6 rfl) (fun I10772 eI10772 => ?_)
          have hI10772 : XI g n L I10772 := by rw [eI10772]; exact (xi_f hy hI10757 (c := 50) (0) (0) (1) (by decide) (Or.inl (by decide)) (by decide) (by omega) (by omega))
          have e10773 : I10772 (ad g 1) 1 = L := by rw [eI10772, pp_ne _ _ (Or.inl (lyx_ne hy (by decide) (by decide) (by decide)))]; exact e10758
          have e10774 : I10772 (ad g 27) 4 = v10369 := by rw [eI10772, pp_ne _ _ (Or.inl (lyx_ne hy (by decide) (by decide) (by decide)))]; exact e10759
          have e10775 : I10772 (ad g 50) 0 = v10376 := by rw [eI10772, pp_ne _ _ (Or.inr (by decide))]; exact e10760
          have e10776 : I10772 (ad g 50) 1 = v10382 := by rw [eI10772, pp_ne _ _ (Or.inr (by decide))]; exact e10761
          have e10777 : I10772 (ad g 50) 2 = v10389 := by rw [eI10772, pp_ne _ _ (Or.inr (by decide))]; exact e10762
          have e10778 : I10772 (ad g 50) 3 = v10623 := by rw [eI10772, pp_ne _ _ (Or.inr (by decide))]; exact e10763
          have e10779 : I10772 (ad g 50) 4 = v10718 := by rw [eI10772, pp_ne _ _ (Or.inr (by decide))]; exact e10764
          have e10780 : I10772 (ad g 50) 5 = v10382 := by rw [eI10772, pp_ne _ _ (Or.inr (by decide))]; exact e10765
          have e10781 : I10772 (ad g 50) 6 = v10742 := by rw [eI10772, pp_ne _ _ (Or.inr (by decide))]; exact e10766
          have e10782 : I10772 (ad g 50) 7 = v10756 := by rw [eI10772, pp_ne _ _ (Or.inr (by decide))]; exact e10767
          have e10783 : I10772 (ad g 50) 8 = v10771 := by rw [eI10772, pp_self]
          have fr10784 : fz 74 g [50] I I10772 := by rw [eI10772]; exact fzx_pp hy fr10768 (by decide) (by decide)
          clear eI10772
          exact WP_vret dX6_load_215 rfl ⟨⟨hI10772, rfl, fr10784, rfl, (by
                have yill : I (ad g (27 + 5)) so.toInt.toNat >>> (nI da.toInt.toNat &&& 31) &&& 1 = v10373 := by rw [show I (ad g (27 + 5)) so.toInt.toNat = v10370 from yv10370, show nI da.toInt.toNat = da from (eq32 _ _).mpr (by rw [nI_toInt (by omega)]; omega), xv10373, xv10371, (eq32 v10372 1).mpr hv10372]
                have yst : I (ad g 27) 4 = v10369 := est
                unfold LD
                simp only [e10775, e10776, e10777, e10778, e10779, e10780, e10781, e10782, yill, yst, show I (ad g (27 + 7)) _ = _ from yv10376, show I (ad g (27 + 8)) _ = _ from yv10382, show I (ad g (27 + 9)) _ = _ from yv10389, true_and, and_true]
                omega)⟩, rfl⟩
        · refine WQ_iconst (1) (1) dX6_load_207 rfl rfl (fun v10785 hv10785 => ?_)
          refine WP_goto 212 dX6_load_208 rfl ?_
          refine WQ_putz dX6_load_212 fX6_67 rfl rfl (by omega) (lyx_is hy 50 6 rfl) (fun I10786 eI10786 => ?_)
          have hI10786 : XI g n L I10786 := by rw [eI10786]; exact (xi_f hy hI10757 (c := 50) (0) (0) (1) (by decide) (Or.inl (by decide)) (by decide) (by omega) (by omega))
          have e10787 : I10786 (ad g 1) 1 = L := by rw [eI10786, pp_ne _ _ (Or.inl (lyx_ne hy (by decide) (by decide) (by decide)))]; exact e10758
          have e10788 : I10786 (ad g 27) 4 = v10369 := by rw [eI10786, pp_ne _ _ (Or.inl (lyx_ne hy (by decide) (by decide) (by decide)))]; exact e10759
          have e10789 : I10786 (ad g 50) 0 = v10376 := by rw [eI10786, pp_ne _ _ (Or.inr (by decide))]; exact e10760
          have e10790 : I10786 (ad g 50) 1 = v10382 := by rw [eI10786, pp_ne _ _ (Or.inr (by decide))]; exact e10761
          have e10791 : I10786 (ad g 50) 2 = v10389 := by rw [eI10786, pp_ne _ _ (Or.inr (by decide))]; exact e10762
          have e10792 : I10786 (ad g 50) 3 = v10623 := by rw [eI10786, pp_ne _ _ (Or.inr (by decide))]; exact e10763
          have e10793 : I10786 (ad g 50) 4 = v10718 := by rw [eI10786, pp_ne _ _ (Or.inr (by decide))]; exact e10764
          have e10794 : I10786 (ad g 50) 5 = v10382 := by rw [eI10786, pp_ne _ _ (Or.inr (by decide))]; exact e10765
          have e10795 : I10786 (ad g 50) 6 = v10742 := by rw [eI10786, pp_ne _ _ (Or.inr (by decide))]; exact e10766
          have e10796 : I10786 (ad g 50) 7 = v10756 := by rw [eI10786, pp_ne _ _ (Or.inr (by decide))]; exact e10767
          have e10797 : I10786 (ad g 50) 8 = v10785 := by rw [eI10786, pp_self]
          have fr10798 : fz 74 g [50] I I10786 := by rw [eI10786]; exact fzx_pp hy fr10768 (by decide) (by decide)
          clear eI10786
          exact WP_vret dX6_load_215 rfl ⟨⟨hI10786, rfl, fr10798, rfl, (by
                have yill : I (ad g (27 + 5)) so.toInt.toNat >>> (nI da.toInt.toNat &&& 31) &&& 1 = v10373 := by rw [show I (ad g (27 + 5)) so.toInt.toNat = v10370 from yv10370, show nI da.toInt.toNat = da from (eq32 _ _).mpr (by rw [nI_toInt (by omega)]; omega), xv10373, xv10371, (eq32 v10372 1).mpr hv10372]
                have yst : I (ad g 27) 4 = v10369 := est
                unfold LD
                simp only [e10789, e10790, e10791, e10792, e10793, e10794, e10795, e10796, yill, yst, show I (ad g (27 + 7)) _ = _ from yv10376, show I (ad g (27 + 8)) _ = _ from yv10382, show I (ad g (27 + 9)) _ = _ from yv10389, true_and, and_true]
                omega)⟩, rfl⟩
  · refine WQ_iconst (1) (1) dX6_load_35 rfl rfl (fun v10799 hv10799 => ?_)
    refine WP_goto 40 dX6_load_36 rfl ?_
    refine WP_istore (ls' := [(0, _), (1, _), (2, _), (3, _), (4, _), (5, _), (6, _), (7, _)]) dX6_load_40 (by decide) rfl ?_
    refine WP_aload_n dX6_load_42 rfl ?_
    refine WP_aload dX6_load_43 rfl ?_
    refine WP_getr dX6_load_45 fX6_30 rfl (lyx_is hy 27 7 rfl) (rfx hr 27 11 34 (by decide)) ?_
    refine WP_iload dX6_load_48 rfl ?_
    refine WQ_ialdb dX6_load_50 (lyx_is hy 34 13 rfl) (lyx_n hy 34 28 rfl) (by omega) (by omega) (fun q hq => BT_get hI.1 34 0 28 (-1) (0) (2) (by decide) q (Nat.zero_le _) hq) (fun v10800 av10800 bv10800 zv10800 => ?_)
    have yv10800 : I (ad g 34) (7 * so.toInt + da.toInt).toNat = v10800 := by rw [← fz_at fr0 34 (by decide) (by decide), show (7 * so.toInt + da.toInt).toNat = v10368.toInt.toNat by omega]; exact zv10800
    refine WQ_puti dX6_load_51 fX6_9 rfl rfl (lyx_is hy 50 6 rfl) (fun I10801 eI10801 => ?_)
    have hI10801 : XI g n L I10801 := by rw [eI10801]; exact (xi_f hy hI (c := 50) (-1) (0) (2) (by decide) (Or.inl (by decide)) (by decide) (by omega) (by omega))
    have e10802 : I10801 (ad g 1) 1 = L := by rw [eI10801, pp_ne _ _ (Or.inl (lyx_ne hy (by decide) (by decide) (by decide)))]; exact e10364
    have e10803 : I10801 (ad g 27) 4 = v10369 := by rw [eI10801, pp_ne _ _ (Or.inl (lyx_ne hy (by decide) (by decide) (by decide)))]; exact ev10369
    have e10804 : I10801 (ad g 50) 0 = v10800 := by rw [eI10801, pp_self]
    have fr10805 : fz 74 g [50] I I10801 := by rw [eI10801]; exact fzx_pp hy fr0 (by decide) (by decide)
    clear eI10801
    refine WP_aload_n dX6_load_54 rfl ?_
    refine WP_aload dX6_load_55 rfl ?_
    refine WP_getr dX6_load_57 fX6_33 rfl (lyx_is hy 27 7 rfl) (rfx hr 27 12 35 (by decide)) ?_
    refine WP_iload dX6_load_60 rfl ?_
    refine WQ_ialdb dX6_load_62 (lyx_is hy 35 13 rfl) (lyx_n hy 35 28 rfl) (by omega) (by omega) (fun q hq => BT_get hI10801.1 35 0 28 (0) (0) (3) (by decide) q (Nat.zero_le _) hq) (fun v10806 av10806 bv10806 zv10806 => ?_)
    have yv10806 : I (ad g 35) (7 * so.toInt + da.toInt).toNat = v10806 := by rw [← fz_at fr10805 35 (by decide) (by decide), show (7 * so.toInt + da.toInt).toNat = v10368.toInt.toNat by omega]; exact zv10806
    refine WQ_puti dX6_load_63 fX6_36 rfl rfl (lyx_is hy 50 6 rfl) (fun I10807 eI10807 => ?_)
    have hI10807 : XI g n L I10807 := by rw [eI10807]; exact (xi_f hy hI10801 (c := 50) (0) (0) (3) (by decide) (Or.inl (by decide)) (by decide) (by omega) (by omega))
    have e10808 : I10807 (ad g 1) 1 = L := by rw [eI10807, pp_ne _ _ (Or.inl (lyx_ne hy (by decide) (by decide) (by decide)))]; exact e10802
    have e10809 : I10807 (ad g 27) 4 = v10369 := by rw [eI10807, pp_ne _ _ (Or.inl (lyx_ne hy (by decide) (by decide) (by decide)))]; exact e10803
    have e10810 : I10807 (ad g 50) 0 = v10800 := by rw [eI10807, pp_ne _ _ (Or.inr (by decide))]; exact e10804
    have e10811 : I10807 (ad g 50) 1 = v10806 := by rw [eI10807, pp_self]
    have fr10812 : fz 74 g [50] I I10807 := by rw [eI10807]; exact fzx_pp hy fr10805 (by decide) (by decide)
    clear eI10807
    refine WP_aload_n dX6_load_66 rfl ?_
    refine WP_aload dX6_load_67 rfl ?_
    refine WP_getr dX6_load_69 fX6_39 rfl (lyx_is hy 27 7 rfl) (rfx hr 27 13 36 (by decide)) ?_
    refine WP_iload dX6_load_72 rfl ?_
    refine WQ_ialdb dX6_load_74 (lyx_is hy 36 13 rfl) (lyx_n hy 36 28 rfl) (by omega) (by omega) (fun q hq => BT_get hI10807.1 36 0 28 (0) (0) (99) (by decide) q (Nat.zero_le _) hq) (fun v10813 av10813 bv10813 zv10813 => ?_)
    have yv10813 : I (ad g 36) (7 * so.toInt + da.toInt).toNat = v10813 := by rw [← fz_at fr10812 36 (by decide) (by decide), show (7 * so.toInt + da.toInt).toNat = v10368.toInt.toNat by omega]; exact zv10813
    refine WQ_puti dX6_load_75 fX6_42 rfl rfl (lyx_is hy 50 6 rfl) (fun I10814 eI10814 => ?_)
    have hI10814 : XI g n L I10814 := by rw [eI10814]; exact (xi_f hy hI10807 (c := 50) (0) (0) (99) (by decide) (Or.inl (by decide)) (by decide) (by omega) (by omega))
    have e10815 : I10814 (ad g 1) 1 = L := by rw [eI10814, pp_ne _ _ (Or.inl (lyx_ne hy (by decide) (by decide) (by decide)))]; exact e10808
    have e10816 : I10814 (ad g 27) 4 = v10369 := by rw [eI10814, pp_ne _ _ (Or.inl (lyx_ne hy (by decide) (by decide) (by decide)))]; exact e10809
    have e10817 : I10814 (ad g 50) 0 = v10800 := by rw [eI10814, pp_ne _ _ (Or.inr (by decide))]; exact e10810
    have e10818 : I10814 (ad g 50) 1 = v10806 := by rw [eI10814, pp_ne _ _ (Or.inr (by decide))]; exact e10811
    have e10819 : I10814 (ad g 50) 2 = v10813 := by rw [eI10814, pp_self]
    have fr10820 : fz 74 g [50] I I10814 := by rw [eI10814]; exact fzx_pp hy fr10812 (by decide) (by decide)
    clear eI10814
    refine WP_aload_n dX6_load_78 rfl ?_
    refine WP_aload_n dX6_load_79 rfl ?_
    refine WQ_getim dX6_load_80 fX6_9 rfl (lyx_is hy 50 6 rfl) e10817 ?_
    refine WQ_iconst (-1) (-1) dX6_load_83 rfl rfl (fun v10821 hv10821 => ?_)
    refine WQ_icmp_ne 91 dX6_load_84 rfl (fun c10821 => ?_) (fun c10821 => ?_)
    · refine WP_aload_n dX6_load_91 rfl ?_
      refine WP_getr dX6_load_92 fX6_45 rfl (lyx_is hy 5 0 rfl) (rfx hr 5 1 22 (by decide)) ?_
      refine WP_aload_n dX6_load_95 rfl ?_
      refine WQ_getim dX6_load_96 fX6_9 rfl (lyx_is hy 50 6 rfl) e10817 ?_
      refine WQ_bipush (7) (7) dX6_load_99 rfl rfl (fun v10823 hv10823 => ?_)
      refine WQ_imulk (7) dX6_load_101 hv10823 (by omega) (by omega) (fun v10824 hv10824 => ?_)
      refine WP_iload_n dX6_load_102 rfl ?_
      refine WQ_iadd dX6_load_103 (by omega) (by omega) (fun v10825 hv10825 => ?_)
      refine WQ_ialdb dX6_load_104 (lyx_is hy 22 13 rfl) (lyx_n hy 22 21 rfl) (by omega) (by omega) (fun q hq => BT_get hI10814.1 22 0 21 (0) (0) (20) (by decide) q (Nat.zero_le _) hq) (fun v10826 av10826 bv10826 zv10826 => ?_)
      have yv10826 : I (ad g 22) (7 * v10800.toInt + da.toInt).toNat = v10826 := by rw [← fz_at fr10820 22 (by decide) (by decide), show (7 * v10800.toInt + da.toInt).toNat = v10825.toInt.toNat by omega]; exact zv10826
      refine WQ_puti dX6_load_105 fX6_48 rfl rfl (lyx_is hy 50 6 rfl) (fun I10827 eI10827 => ?_)
      have hI10827 : XI g n L I10827 := by rw [eI10827]; exact (xi_f hy hI10814 (c := 50) (0) (0) (20) (by decide) (Or.inl (by decide)) (by decide) (by omega) (by omega))
      have e10828 : I10827 (ad g 1) 1 = L := by rw [eI10827, pp_ne _ _ (Or.inl (lyx_ne hy (by decide) (by decide) (by decide)))]; exact e10815
      have e10829 : I10827 (ad g 27) 4 = v10369 := by rw [eI10827, pp_ne _ _ (Or.inl (lyx_ne hy (by decide) (by decide) (by decide)))]; exact e10816
      have e10830 : I10827 (ad g 50) 0 = v10800 := by rw [eI10827, pp_ne _ _ (Or.inr (by decide))]; exact e10817
      have e10831 : I10827 (ad g 50) 1 = v10806 := by rw [eI10827, pp_ne _ _ (Or.inr (by decide))]; exact e10818
      have e10832 : I10827 (ad g 50) 2 = v10813 := by rw [eI10827, pp_ne _ _ (Or.inr (by decide))]; exact e10819
      have e10833 : I10827 (ad g 50) 3 = v10826 := by rw [eI10827, pp_self]
      have fr10834 : fz 74 g [50] I I10827 := by rw [eI10827]; exact fzx_pp hy fr10820 (by decide) (by decide)
      clear eI10827
      refine WP_aload_n dX6_load_108 rfl ?_
      refine WP_iload dX6_load_109 rfl ?_
      refine WQ_iconst (-1) (-1) dX6_load_111 rfl rfl (fun v10835 hv10835 => ?_)
      refine WQ_icmp_ne 119 dX6_load_112 rfl (fun c10835 => ?_) (fun c10835 => ?_)
      · refine WP_aload_n dX6_load_119 rfl ?_
        refine WP_getr dX6_load_120 fX6_45 rfl (lyx_is hy 5 0 rfl) (rfx hr 5 1 22 (by decide)) ?_
        refine WP_iload dX6_load_123 rfl ?_
        refine WQ_bipush (7) (7) dX6_load_125 rfl rfl (fun v10837 hv10837 => ?_)
        refine WQ_imulk (7) dX6_load_127 hv10837 (by omega) (by omega) (fun v10838 hv10838 => ?_)
        refine WP_iload_n dX6_load_128 rfl ?_
        refine WQ_iadd dX6_load_129 (by omega) (by omega) (fun v10839 hv10839 => ?_)
        refine WQ_ialdb dX6_load_130 (lyx_is hy 22 13 rfl) (lyx_n hy 22 21 rfl) (by omega) (by omega) (fun q hq => BT_get hI10827.1 22 0 21 (0) (0) (20) (by decide) q (Nat.zero_le _) hq) (fun v10840 av10840 bv10840 zv10840 => ?_)
        have yv10840 : I (ad g 22) (7 * v10369.toInt + da.toInt).toNat = v10840 := by rw [← fz_at fr10834 22 (by decide) (by decide), show (7 * v10369.toInt + da.toInt).toNat = v10839.toInt.toNat by omega]; exact zv10840
        refine WQ_puti dX6_load_131 fX6_51 rfl rfl (lyx_is hy 50 6 rfl) (fun I10841 eI10841 => ?_)
        have hI10841 : XI g n L I10841 := by rw [eI10841]; exact (xi_f hy hI10827 (c := 50) (0) (0) (20) (by decide) (Or.inl (by decide)) (by decide) (by omega) (by omega))
        have e10842 : I10841 (ad g 1) 1 = L := by rw [eI10841, pp_ne _ _ (Or.inl (lyx_ne hy (by decide) (by decide) (by decide)))]; exact e10828
        have e10843 : I10841 (ad g 27) 4 = v10369 := by rw [eI10841, pp_ne _ _ (Or.inl (lyx_ne hy (by decide) (by decide) (by decide)))]; exact e10829
        have e10844 : I10841 (ad g 50) 0 = v10800 := by rw [eI10841, pp_ne _ _ (Or.inr (by decide))]; exact e10830
        have e10845 : I10841 (ad g 50) 1 = v10806 := by rw [eI10841, pp_ne _ _ (Or.inr (by decide))]; exact e10831
        have e10846 : I10841 (ad g 50) 2 = v10813 := by rw [eI10841, pp_ne _ _ (Or.inr (by decide))]; exact e10832
        have e10847 : I10841 (ad g 50) 3 = v10826 := by rw [eI10841, pp_ne _ _ (Or.inr (by decide))]; exact e10833
        have e10848 : I10841 (ad g 50) 4 = v10840 := by rw [eI10841, pp_self]
        have fr10849 : fz 74 g [50] I I10841 := by rw [eI10841]; exact fzx_pp hy fr10834 (by decide) (by decide)
        clear eI10841
        refine WP_aload_n dX6_load_134 rfl ?_
        refine WP_iload dX6_load_135 rfl ?_
        refine WQ_if_eq 144 dX6_load_137 rfl (fun c10849 => False.elim (by omega)) (fun c10849 => ?_)
        refine WQ_iconst (0) (0) dX6_load_140 rfl rfl (fun v10851 hv10851 => ?_)
        refine WP_goto 148 dX6_load_141 rfl ?_
        refine WQ_puti dX6_load_148 fX6_54 rfl rfl (lyx_is hy 50 6 rfl) (fun I10852 eI10852 => ?_)
        have hI10852 : XI g n L I10852 := by rw [eI10852]; exact (xi_f hy hI10841 (c := 50) (0) (0) (3) (by decide) (Or.inl (by decide)) (by decide) (by omega) (by omega))
        have e10853 : I10852 (ad g 1) 1 = L := by rw [eI10852, pp_ne _ _ (Or.inl (lyx_ne hy (by decide) (by decide) (by decide)))]; exact e10842
        have e10854 : I10852 (ad g 27) 4 = v10369 := by rw [eI10852, pp_ne _ _ (Or.inl (lyx_ne hy (by decide) (by decide) (by decide)))]; exact e10843
        have e10855 : I10852 (ad g 50) 0 = v10800 := by rw [eI10852, pp_ne _ _ (Or.inr (by decide))]; exact e10844
        have e10856 : I10852 (ad g 50) 1 = v10806 := by rw [eI10852, pp_ne _ _ (Or.inr (by decide))]; exact e10845
        have e10857 : I10852 (ad g 50) 2 = v10813 := by rw [eI10852, pp_ne _ _ (Or.inr (by decide))]; exact e10846
        have e10858 : I10852 (ad g 50) 3 = v10826 := by rw [eI10852, pp_ne _ _ (Or.inr (by decide))]; exact e10847
        have e10859 : I10852 (ad g 50) 4 = v10840 := by rw [eI10852, pp_ne _ _ (Or.inr (by decide))]; exact e10848
        have e10860 : I10852 (ad g 50) 5 = v10851 := by rw [eI10852, pp_self]
        have fr10861 : fz 74 g [50] I I10852 := by rw [eI10852]; exact fzx_pp hy fr10849 (by decide) (by decide)
        clear eI10852
        refine WP_aload_n dX6_load_151 rfl ?_
        refine WP_iload dX6_load_152 rfl ?_
        refine WQ_if_ne 163 dX6_load_154 rfl (fun c10861 => ?_) (fun c10861 => False.elim (by omega))
        refine WQ_iconst (0) (0) dX6_load_163 rfl rfl (fun v10863 hv10863 => ?_)
        refine WP_goto 168 dX6_load_164 rfl ?_
        refine WQ_puti dX6_load_168 fX6_57 rfl rfl (lyx_is hy 50 6 rfl) (fun I10864 eI10864 => ?_)
        have hI10864 : XI g n L I10864 := by rw [eI10864]; exact (xi_f hy hI10852 (c := 50) (0) (0) (2) (by decide) (Or.inl (by decide)) (by decide) (by omega) (by omega))
        have e10865 : I10864 (ad g 1) 1 = L := by rw [eI10864, pp_ne _ _ (Or.inl (lyx_ne hy (by decide) (by decide) (by decide)))]; exact e10853
        have e10866 : I10864 (ad g 27) 4 = v10369 := by rw [eI10864, pp_ne _ _ (Or.inl (lyx_ne hy (by decide) (by decide) (by decide)))]; exact e10854
        have e10867 : I10864 (ad g 50) 0 = v10800 := by rw [eI10864, pp_ne _ _ (Or.inr (by decide))]; exact e10855
        have e10868 : I10864 (ad g 50) 1 = v10806 := by rw [eI10864, pp_ne _ _ (Or.inr (by decide))]; exact e10856
        have e10869 : I10864 (ad g 50) 2 = v10813 := by rw [eI10864, pp_ne _ _ (Or.inr (by decide))]; exact e10857
        have e10870 : I10864 (ad g 50) 3 = v10826 := by rw [eI10864, pp_ne _ _ (Or.inr (by decide))]; exact e10858
        have e10871 : I10864 (ad g 50) 4 = v10840 := by rw [eI10864, pp_ne _ _ (Or.inr (by decide))]; exact e10859
        have e10872 : I10864 (ad g 50) 5 = v10851 := by rw [eI10864, pp_ne _ _ (Or.inr (by decide))]; exact e10860
        have e10873 : I10864 (ad g 50) 6 = v10863 := by rw [eI10864, pp_self]
        have fr10874 : fz 74 g [50] I I10864 := by rw [eI10864]; exact fzx_pp hy fr10861 (by decide) (by decide)
        clear eI10864
        refine WP_aload_n dX6_load_171 rfl ?_
        refine WP_aload_n dX6_load_172 rfl ?_
        refine WQ_getim dX6_load_173 fX6_9 rfl (lyx_is hy 50 6 rfl) e10867 ?_
        refine WQ_iconst (-1) (-1) dX6_load_176 rfl rfl (fun v10875 hv10875 => ?_)
        refine WQ_icmp_eq 193 dX6_load_177 rfl (fun c10875 => False.elim (by omega)) (fun c10875 => ?_)
        refine WP_aload_n dX6_load_180 rfl ?_
        refine WQ_getim dX6_load_181 fX6_9 rfl (lyx_is hy 50 6 rfl) e10867 ?_
        refine WP_iload dX6_load_184 rfl ?_
        refine WQ_icmp_ne 193 dX6_load_186 rfl (fun c10876 => ?_) (fun c10876 => ?_)
        · refine WQ_iconst (0) (0) dX6_load_193 rfl rfl (fun v10878 hv10878 => ?_)
          refine WQ_putz dX6_load_194 fX6_60 rfl rfl (by omega) (lyx_is hy 50 6 rfl) (fun I10879 eI10879 => ?_)
          have hI10879 : XI g n L I10879 := by rw [eI10879]; exact (xi_f hy hI10864 (c := 50) (0) (0) (1) (by decide) (Or.inl (by decide)) (by decide) (by omega) (by omega))
          have e10880 : I10879 (ad g 1) 1 = L := by rw [eI10879, pp_ne _ _ (Or.inl (lyx_ne hy (by decide) (by decide) (by decide)))]; exact e10865
          have e10881 : I10879 (ad g 27) 4 = v10369 := by rw [eI10879, pp_ne _ _ (Or.inl (lyx_ne hy (by decide) (by decide) (by decide)))]; exact e10866
          have e10882 : I10879 (ad g 50) 0 = v10800 := by rw [eI10879, pp_ne _ _ (Or.inr (by decide))]; exact e10867
          have e10883 : I10879 (ad g 50) 1 = v10806 := by rw [eI10879, pp_ne _ _ (Or.inr (by decide))]; exact e10868
          have e10884 : I10879 (ad g 50) 2 = v10813 := by rw [eI10879, pp_ne _ _ (Or.inr (by decide))]; exact e10869
          have e10885 : I10879 (ad g 50) 3 = v10826 := by rw [eI10879, pp_ne _ _ (Or.inr (by decide))]; exact e10870
          have e10886 : I10879 (ad g 50) 4 = v10840 := by rw [eI10879, pp_ne _ _ (Or.inr (by decide))]; exact e10871
          have e10887 : I10879 (ad g 50) 5 = v10851 := by rw [eI10879, pp_ne _ _ (Or.inr (by decide))]; exact e10872
          have e10888 : I10879 (ad g 50) 6 = v10863 := by rw [eI10879, pp_ne _ _ (Or.inr (by decide))]; exact e10873
          have e10889 : I10879 (ad g 50) 7 = v10878 := by rw [eI10879, pp_self]
          have fr10890 : fz 74 g [50] I I10879 := by rw [eI10879]; exact fzx_pp hy fr10874 (by decide) (by decide)
          clear eI10879
          refine WP_aload_n dX6_load_197 rfl ?_
          refine WP_aload_n dX6_load_198 rfl ?_
          refine WP_getr dX6_load_199 fX6_64 rfl (lyx_is hy 5 0 rfl) (rfx hr 5 2 23 (by decide)) ?_
          refine WP_iload_n dX6_load_202 rfl ?_
          refine WQ_iald dX6_load_203 (lyx_is hy 23 13 rfl) (lyx_n hy 23 7 rfl) (by omega) (by omega) (fun q hq => BT_get hI10879.1 23 0 7 (0) (0) (900) (by decide) q (Nat.zero_le _) hq) (fun v10891 av10891 bv10891 ev10891 => ?_)
          clear ev10891
          refine WQ_if_le 211 dX6_load_204 rfl (fun c10891 => ?_) (fun c10891 => ?_)
          · refine WQ_iconst (0) (0) dX6_load_211 rfl rfl (fun v10893 hv10893 => ?_)
            refine WQ_putz dX6_load_212 fX6_67 rfl rfl (by omega) (lyx_is hy 50 6 rfl) (fun I10894 eI10894 => ?_)
            have hI10894 : XI g n L I10894 := by rw [eI10894]; exact (xi_f hy hI10879 (c := 50) (0) (0) (1) (by decide) (Or.inl (by decide)) (by decide) (by omega) (by omega))
            have e10895 : I10894 (ad g 1) 1 = L := by rw [eI10894, pp_ne _ _ (Or.inl (lyx_ne hy (by decide) (by decide) (by decide)))]; exact e10880
            have e10896 : I10894 (ad g 27) 4 = v10369 := by rw [eI10894, pp_ne _ _ (Or.inl (lyx_ne hy (by decide) (by decide) (by decide)))]; exact e10881
            have e10897 : I10894 (ad g 50) 0 = v10800 := by rw [eI10894, pp_ne _ _ (Or.inr (by decide))]; exact e10882
            have e10898 : I10894 (ad g 50) 1 = v10806 := by rw [eI10894, pp_ne _ _ (Or.inr (by decide))]; exact e10883
            have e10899 : I10894 (ad g 50) 2 = v10813 := by rw [eI10894, pp_ne _ _ (Or.inr (by decide))]; exact e10884
            have e10900 : I10894 (ad g 50) 3 = v10826 := by rw [eI10894, pp_ne _ _ (Or.inr (by decide))]; exact e10885
            have e10901 : I10894 (ad g 50) 4 = v10840 := by rw [eI10894, pp_ne _ _ (Or.inr (by decide))]; exact e10886
            have e10902 : I10894 (ad g 50) 5 = v10851 := by rw [eI10894, pp_ne _ _ (Or.inr (by decide))]; exact e10887
            have e10903 : I10894 (ad g 50) 6 = v10863 := by rw [eI10894, pp_ne _ _ (Or.inr (by decide))]; exact e10888
            have e10904 : I10894 (ad g 50) 7 = v10878 := by rw [eI10894, pp_ne _ _ (Or.inr (by decide))]; exact e10889
            have e10905 : I10894 (ad g 50) 8 = v10893 := by rw [eI10894, pp_self]
            have fr10906 : fz 74 g [50] I I10894 := by rw [eI10894]; exact fzx_pp hy fr10890 (by decide) (by decide)
            clear eI10894
            exact WP_vret dX6_load_215 rfl ⟨⟨hI10894, rfl, fr10906, rfl, (by
                  have yill : I (ad g (27 + 5)) so.toInt.toNat >>> (nI da.toInt.toNat &&& 31) &&& 1 = v10373 := by rw [show I (ad g (27 + 5)) so.toInt.toNat = v10370 from yv10370, show nI da.toInt.toNat = da from (eq32 _ _).mpr (by rw [nI_toInt (by omega)]; omega), xv10373, xv10371, (eq32 v10372 1).mpr hv10372]
                  have yst : I (ad g 27) 4 = v10369 := est
                  unfold LD
                  simp only [e10897, e10898, e10899, e10900, e10901, e10902, e10903, e10904, yill, yst, show I (ad g (27 + 7)) _ = _ from yv10800, show I (ad g (27 + 8)) _ = _ from yv10806, show I (ad g (27 + 9)) _ = _ from yv10813, yv10826, yv10840, true_and, and_true]
                  omega)⟩, rfl⟩
          · refine WQ_iconst (1) (1) dX6_load_207 rfl rfl (fun v10907 hv10907 => ?_)
            refine WP_goto 212 dX6_load_208 rfl ?_
            refine WQ_putz dX6_load_212 fX6_67 rfl rfl (by omega) (lyx_is hy 50 6 rfl) (fun I10908 eI10908 => ?_)
            have hI10908 : XI g n L I10908 := by rw [eI10908]; exact (xi_f hy hI10879 (c := 50) (0) (0) (1) (by decide) (Or.inl (by decide)) (by decide) (by omega) (by omega))
            have e10909 : I10908 (ad g 1) 1 = L := by rw [eI10908, pp_ne _ _ (Or.inl (lyx_ne hy (by decide) (by decide) (by decide)))]; exact e10880
            have e10910 : I10908 (ad g 27) 4 = v10369 := by rw [eI10908, pp_ne _ _ (Or.inl (lyx_ne hy (by decide) (by decide) (by decide)))]; exact e10881
            have e10911 : I10908 (ad g 50) 0 = v10800 := by rw [eI10908, pp_ne _ _ (Or.inr (by decide))]; exact e10882
            have e10912 : I10908 (ad g 50) 1 = v10806 := by rw [eI10908, pp_ne _ _ (Or.inr (by decide))]; exact e10883
            have e10913 : I10908 (ad g 50) 2 = v10813 := by rw [eI10908, pp_ne _ _ (Or.inr (by decide))]; exact e10884
            have e10914 : I10908 (ad g 50) 3 = v10826 := by rw [eI10908, pp_ne _ _ (Or.inr (by decide))]; exact e10885
            have e10915 : I10908 (ad g 50) 4 = v10840 := by rw [eI10908, pp_ne _ _ (Or.inr (by decide))]; exact e10886
            have e10916 : I10908 (ad g 50) 5 = v10851 := by rw [eI10908, pp_ne _ _ (Or.inr (by decide))]; exact e10887
            have e10917 : I10908 (ad g 50) 6 = v10863 := by rw [eI10908, pp_ne _ _ (Or.inr (by decide))]; exact e10888
            have e10918 : I10908 (ad g 50) 7 = v10878 := by rw [eI10908, pp_ne _ _ (Or.inr (by decide))]; exact e10889
            have e10919 : I10908 (ad g 50) 8 = v10907 := by rw [eI10908, pp_self]
            have fr10920 : fz 74 g [50] I I10908 := by rw [eI10908]; exact fzx_pp hy fr10890 (by decide) (by decide)
            clear eI10908
            exact WP_vret dX6_load_215 rfl ⟨⟨hI10908, rfl, fr10920, rfl, (by
                  have yill : I (ad g (27 + 5)) so.toInt.toNat >>> (nI da.toInt.toNat &&& 31) &&& 1 = v10373 := by rw [show I (ad g (27 + 5)) so.toInt.toNat = v10370 from yv10370, show nI da.toInt.toNat = da from (eq32 _ _).mpr (by rw [nI_toInt (by omega)]; omega), xv10373, xv10371, (eq32 v10372 1).mpr hv10372]
                  have yst : I (ad g 27) 4 = v10369 := est
                  unfold LD
                  simp only [e10911, e10912, e10913, e10914, e10915, e10916, e10917, e10918, yill, yst, show I (ad g (27 + 7)) _ = _ from yv10800, show I (ad g (27 + 8)) _ = _ from yv10806, show I (ad g (27 + 9)) _ = _ from yv10813, yv10826, yv10840, true_and, and_true]
                  omega)⟩, rfl⟩
        · refine WQ_iconst (1) (1) dX6_load_189 rfl rfl (fun v10921 hv10921 => ?_)
          refine WP_goto 194 dX6_load_190 rfl ?_
          refine WQ_putz dX6_load_194 fX6_60 rfl rfl (by omega) (lyx_is hy 50 6 rfl) (fun I10922 eI10922 => ?_)
          have hI10922 : XI g n L I10922 := by rw [eI10922]; exact (xi_f hy hI10864 (c := 50) (0) (0) (1) (by decide) (Or.inl (by decide)) (by decide) (by omega) (by omega))
          have e10923 : I10922 (ad g 1) 1 = L := by rw [eI10922, pp_ne _ _ (Or.inl (lyx_ne hy (by decide) (by decide) (by decide)))]; exact e10865
          have e10924 : I10922 (ad g 27) 4 = v10369 := by rw [eI10922, pp_ne _ _ (Or.inl (lyx_ne hy (by decide) (by decide) (by decide)))]; exact e10866
          have e10925 : I10922 (ad g 50) 0 = v10800 := by rw [eI10922, pp_ne _ _ (Or.inr (by decide))]; exact e10867
          have e10926 : I10922 (ad g 50) 1 = v10806 := by rw [eI10922, pp_ne _ _ (Or.inr (by decide))]; exact e10868
          have e10927 : I10922 (ad g 50) 2 = v10813 := by rw [eI10922, pp_ne _ _ (Or.inr (by decide))]; exact e10869
          have e10928 : I10922 (ad g 50) 3 = v10826 := by rw [eI10922, pp_ne _ _ (Or.inr (by decide))]; exact e10870
          have e10929 : I10922 (ad g 50) 4 = v10840 := by rw [eI10922, pp_ne _ _ (Or.inr (by decide))]; exact e10871
          have e10930 : I10922 (ad g 50) 5 = v10851 := by rw [eI10922, pp_ne _ _ (Or.inr (by decide))]; exact e10872
          have e10931 : I10922 (ad g 50) 6 = v10863 := by rw [eI10922, pp_ne _ _ (Or.inr (by decide))]; exact e10873
          have e10932 : I10922 (ad g 50) 7 = v10921 := by rw [eI10922, pp_self]
          have fr10933 : fz 74 g [50] I I10922 := by rw [eI10922]; exact fzx_pp hy fr10874 (by decide) (by decide)
          clear eI10922
          refine WP_aload_n dX6_load_197 rfl ?_
          refine WP_aload_n dX6_load_198 rfl ?_
          refine WP_getr dX6_load_199 fX6_64 rfl (lyx_is hy 5 0 rfl) (rfx hr 5 2 23 (by decide)) ?_
          refine WP_iload_n dX6_load_202 rfl ?_
          refine WQ_iald dX6_load_203 (lyx_is hy 23 13 rfl) (lyx_n hy 23 7 rfl) (by omega) (by omega) (fun q hq => BT_get hI10922.1 23 0 7 (0) (0) (900) (by decide) q (Nat.zero_le _) hq) (fun v10934 av10934 bv10934 ev10934 => ?_)
          clear ev10934
          refine WQ_if_le 211 dX6_load_204 rfl (fun c10934 => ?_) (fun c10934 => ?_)
          · refine WQ_iconst (0) (0) dX6_load_211 rfl rfl (fun v10936 hv10936 => ?_)
            refine WQ_putz dX6_load_212 fX6_67 rfl rfl (by omega) (lyx_is hy 50 6 rfl) (fun I10937 eI10937 => ?_)
            have hI10937 : XI g n L I10937 := by rw [eI10937]; exact (xi_f hy hI10922 (c := 50) (0) (0) (1) (by decide) (Or.inl (by decide)) (by decide) (by omega) (by omega))
            have e10938 : I10937 (ad g 1) 1 = L := by rw [eI10937, pp_ne _ _ (Or.inl (lyx_ne hy (by decide) (by decide) (by decide)))]; exact e10923
            have e10939 : I10937 (ad g 27) 4 = v10369 := by rw [eI10937, pp_ne _ _ (Or.inl (lyx_ne hy (by decide) (by decide) (by decide)))]; exact e10924
            have e10940 : I10937 (ad g 50) 0 = v10800 := by rw [eI10937, pp_ne _ _ (Or.inr (by decide))]; exact e10925
            have e10941 : I10937 (ad g 50) 1 = v10806 := by rw [eI10937, pp_ne _ _ (Or.inr (by decide))]; exact e10926
            have e10942 : I10937 (ad g 50) 2 = v10813 := by rw [eI10937, pp_ne _ _ (Or.inr (by decide))]; exact e10927
            have e10943 : I10937 (ad g 50) 3 = v10826 := by rw [eI10937, pp_ne _ _ (Or.inr (by decide))]; exact e10928
            have e10944 : I10937 (ad g 50) 4 = v10840 := by rw [eI10937, pp_ne _ _ (Or.inr (by decide))]; exact e10929
            have e10945 : I10937 (ad g 50) 5 = v10851 := by rw [eI10937, pp_ne _ _ (Or.inr (by decide))]; exact e10930
            have e10946 : I10937 (ad g 50) 6 = v10863 := by rw [eI10937, pp_ne _ _ (Or.inr (by decide))]; exact e10931
            have e10947 : I10937 (ad g 50) 7 = v10921 := by rw [eI10937, pp_ne _ _ (Or.inr (by decide))]; exact e10932
            have e10948 : I10937 (ad g 50) 8 = v10936 := by rw [eI10937, pp_self]
            have fr10949 : fz 74 g [50] I I10937 := by rw [eI10937]; exact fzx_pp hy fr10933 (by decide) (by decide)
            clear eI10937
            exact WP_vret dX6_load_215 rfl ⟨⟨hI10937, rfl, fr10949, rfl, (by
                  have yill : I (ad g (27 + 5)) so.toInt.toNat >>> (nI da.toInt.toNat &&& 31) &&& 1 = v10373 := by rw [show I (ad g (27 + 5)) so.toInt.toNat = v10370 from yv10370, show nI da.toInt.toNat = da from (eq32 _ _).mpr (by rw [nI_toInt (by omega)]; omega), xv10373, xv10371, (eq32 v10372 1).mpr hv10372]
                  have yst : I (ad g 27) 4 = v10369 := est
                  unfold LD
                  simp only [e10940, e10941, e10942, e10943, e10944, e10945, e10946, e10947, yill, yst, show I (ad g (27 + 7)) _ = _ from yv10800, show I (ad g (27 + 8)) _ = _ from yv10806, show I (ad g (27 + 9)) _ = _ from yv10813, yv10826, yv10840, true_and, and_true]
                  omega)⟩, rfl⟩
          · refine WQ_iconst (1) (1) dX6_load_207 rfl rfl (fun v10950 hv10950 => ?_)
            refine WP_goto 212 dX6_load_208 rfl ?_
            refine WQ_putz dX6_load_212 fX6_67 rfl rfl (by omega) (lyx_is hy 50 6 rfl) (fun I10951 eI10951 => ?_)
            have hI10951 : XI g n L I10951 := by rw [eI10951]; exact (xi_f hy hI10922 (c := 50) (0) (0) (1) (by decide) (Or.inl (by decide)) (by decide) (by omega) (by omega))
            have e10952 : I10951 (ad g 1) 1 = L := by rw [eI10951, pp_ne _ _ (Or.inl (lyx_ne hy (by decide) (by decide) (by decide)))]; exact e10923
            have e10953 : I10951 (ad g 27) 4 = v10369 := by rw [eI10951, pp_ne _ _ (Or.inl (lyx_ne hy (by decide) (by decide) (by decide)))]; exact e10924
            have e10954 : I10951 (ad g 50) 0 = v10800 := by rw [eI10951, pp_ne _ _ (Or.inr (by decide))]; exact e10925
            have e10955 : I10951 (ad g 50) 1 = v10806 := by rw [eI10951, pp_ne _ _ (Or.inr (by decide))]; exact e10926
            have e10956 : I10951 (ad g 50) 2 = v10813 := by rw [eI10951, pp_ne _ _ (Or.inr (by decide))]; exact e10927
            have e10957 : I10951 (ad g 50) 3 = v10826 := by rw [eI10951, pp_ne _ _ (Or.inr (by decide))]; exact e10928
            have e10958 : I10951 (ad g 50) 4 = v10840 := by rw [eI10951, pp_ne _ _ (Or.inr (by decide))]; exact e10929
            have e10959 : I10951 (ad g 50) 5 = v10851 := by rw [eI10951, pp_ne _ _ (Or.inr (by decide))]; exact e10930
            have e10960 : I10951 (ad g 50) 6 = v10863 := by rw [eI10951, pp_ne _ _ (Or.inr (by decide))]; exact e10931
            have e10961 : I10951 (ad g 50) 7 = v10921 := by rw [eI10951, pp_ne _ _ (Or.inr (by decide))]; exact e10932
            have e10962 : I10951 (ad g 50) 8 = v10950 := by rw [eI10951, pp_self]
            have fr10963 : fz 74 g [50] I I10951 := by rw [eI10951]; exact fzx_pp hy fr10933 (by decide) (by decide)
            clear eI10951
            exact WP_vret dX6_load_215 rfl ⟨⟨hI10951, rfl, fr10963, rfl, (by
                  have yill : I (ad g (27 + 5)) so.toInt.toNat >>> (nI da.toInt.toNat &&& 31) &&& 1 = v10373 := by rw [show I (ad g (27 + 5)) so.toInt.toNat = v10370 from yv10370, show nI da.toInt.toNat = da from (eq32 _ _).mpr (by rw [nI_toInt (by omega)]; omega), xv10373, xv10371, (eq32 v10372 1).mpr hv10372]
                  have yst : I (ad g 27) 4 = v10369 := est
                  unfold LD
                  simp only [e10954, e10955, e10956, e10957, e10958, e10959, e10960, e10961, yill, yst, show I (ad g (27 + 7)) _ = _ from yv10800, show I (ad g (27 + 8)) _ = _ from yv10806, show I (ad g (27 + 9)) _ = _ from yv10813, yv10826, yv10840, true_and, and_true]
                  omega)⟩, rfl⟩
      · refine WQ_iconst (0) (0) dX6_load_115 rfl rfl (fun v10964 hv10964 => ?_)
        refine WP_goto 131 dX6_load_116 rfl ?_
        refine WQ_puti dX6_load_131 fX6_51 rfl rfl (lyx_is hy 50 6 rfl) (fun I10965 eI10965 => ?_)
        have hI10965 : XI g n L I10965 := by rw [eI10965]; exact (xi_f hy hI10827 (c := 50) (0) (0) (20) (by decide) (Or.inl (by decide)) (by decide) (by omega) (by omega))
        have e10966 : I10965 (ad g 1) 1 = L := by rw [eI10965, pp_ne _ _ (Or.inl (lyx_ne hy (by decide) (by decide) (by decide)))]; exact e10828
        have e10967 : I10965 (ad g 27) 4 = v10369 := by rw [eI10965, pp_ne _ _ (Or.inl (lyx_ne hy (by decide) (by decide) (by decide)))]; exact e10829
        have e10968 : I10965 (ad g 50) 0 = v10800 := by rw [eI10965, pp_ne _ _ (Or.inr (by decide))]; exact e10830
        have e10969 : I10965 (ad g 50) 1 = v10806 := by rw [eI10965, pp_ne _ _ (Or.inr (by decide))]; exact e10831
        have e10970 : I10965 (ad g 50) 2 = v10813 := by rw [eI10965, pp_ne _ _ (Or.inr (by decide))]; exact e10832
        have e10971 : I10965 (ad g 50) 3 = v10826 := by rw [eI10965, pp_ne _ _ (Or.inr (by decide))]; exact e10833
        have e10972 : I10965 (ad g 50) 4 = v10964 := by rw [eI10965, pp_self]
        have fr10973 : fz 74 g [50] I I10965 := by rw [eI10965]; exact fzx_pp hy fr10834 (by decide) (by decide)
        clear eI10965
        refine WP_aload_n dX6_load_134 rfl ?_
        refine WP_iload dX6_load_135 rfl ?_
        refine WQ_if_eq 144 dX6_load_137 rfl (fun c10973 => False.elim (by omega)) (fun c10973 => ?_)
        refine WQ_iconst (0) (0) dX6_load_140 rfl rfl (fun v10975 hv10975 => ?_)
        refine WP_goto 148 dX6_load_141 rfl ?_
        refine WQ_puti dX6_load_148 fX6_54 rfl rfl (lyx_is hy 50 6 rfl) (fun I10976 eI10976 => ?_)
        have hI10976 : XI g n L I10976 := by rw [eI10976]; exact (xi_f hy hI10965 (c := 50) (0) (0) (3) (by decide) (Or.inl (by decide)) (by decide) (by omega) (by omega))
        have e10977 : I10976 (ad g 1) 1 = L := by rw [eI10976, pp_ne _ _ (Or.inl (lyx_ne hy (by decide) (by decide) (by decide)))]; exact e10966
        have e10978 : I10976 (ad g 27) 4 = v10369 := by rw [eI10976, pp_ne _ _ (Or.inl (lyx_ne hy (by decide) (by decide) (by decide)))]; exact e10967
        have e10979 : I10976 (ad g 50) 0 = v10800 := by rw [eI10976, pp_ne _ _ (Or.inr (by decide))]; exact e10968
        have e10980 : I10976 (ad g 50) 1 = v10806 := by rw [eI10976, pp_ne _ _ (Or.inr (by decide))]; exact e10969
        have e10981 : I10976 (ad g 50) 2 = v10813 := by rw [eI10976, pp_ne _ _ (Or.inr (by decide))]; exact e10970
        have e10982 : I10976 (ad g 50) 3 = v10826 := by rw [eI10976, pp_ne _ _ (Or.inr (by decide))]; exact e10971
        have e10983 : I10976 (ad g 50) 4 = v10964 := by rw [eI10976, pp_ne _ _ (Or.inr (by decide))]; exact e10972
        have e10984 : I10976 (ad g 50) 5 = v10975 := by rw [eI10976, pp_self]
        have fr10985 : fz 74 g [50] I I10976 := by rw [eI10976]; exact fzx_pp hy fr10973 (by decide) (by decide)
        clear eI10976
        refine WP_aload_n dX6_load_151 rfl ?_
        refine WP_iload dX6_load_152 rfl ?_
        refine WQ_if_ne 163 dX6_load_154 rfl (fun c10985 => ?_) (fun c10985 => False.elim (by omega))
        refine WQ_iconst (0) (0) dX6_load_163 rfl rfl (fun v10987 hv10987 => ?_)
        refine WP_goto 168 dX6_load_164 rfl ?_
        refine WQ_puti dX6_load_168 fX6_57 rfl rfl (lyx_is hy 50 6 rfl) (fun I10988 eI10988 => ?_)
        have hI10988 : XI g n L I10988 := by rw [eI10988]; exact (xi_f hy hI10976 (c := 50) (0) (0) (2) (by decide) (Or.inl (by decide)) (by decide) (by omega) (by omega))
        have e10989 : I10988 (ad g 1) 1 = L := by rw [eI10988, pp_ne _ _ (Or.inl (lyx_ne hy (by decide) (by decide) (by decide)))]; exact e10977
        have e10990 : I10988 (ad g 27) 4 = v10369 := by rw [eI10988, pp_ne _ _ (Or.inl (lyx_ne hy (by decide) (by decide) (by decide)))]; exact e10978
        have e10991 : I10988 (ad g 50) 0 = v10800 := by rw [eI10988, pp_ne _ _ (Or.inr (by decide))]; exact e10979
        have e10992 : I10988 (ad g 50) 1 = v10806 := by rw [eI10988, pp_ne _ _ (Or.inr (by decide))]; exact e10980
        have e10993 : I10988 (ad g 50) 2 = v10813 := by rw [eI10988, pp_ne _ _ (Or.inr (by decide))]; exact e10981
        have e10994 : I10988 (ad g 50) 3 = v10826 := by rw [eI10988, pp_ne _ _ (Or.inr (by decide))]; exact e10982
        have e10995 : I10988 (ad g 50) 4 = v10964 := by rw [eI10988, pp_ne _ _ (Or.inr (by decide))]; exact e10983
        have e10996 : I10988 (ad g 50) 5 = v10975 := by rw [eI10988, pp_ne _ _ (Or.inr (by decide))]; exact e10984
        have e10997 : I10988 (ad g 50) 6 = v10987 := by rw [eI10988, pp_self]
        have fr10998 : fz 74 g [50] I I10988 := by rw [eI10988]; exact fzx_pp hy fr10985 (by decide) (by decide)
        clear eI10988
        refine WP_aload_n dX6_load_171 rfl ?_
        refine WP_aload_n dX6_load_172 rfl ?_
        refine WQ_getim dX6_load_173 fX6_9 rfl (lyx_is hy 50 6 rfl) e10991 ?_
        refine WQ_iconst (-1) (-1) dX6_load_176 rfl rfl (fun v10999 hv10999 => ?_)
        refine WQ_icmp_eq 193 dX6_load_177 rfl (fun c10999 => False.elim (by omega)) (fun c10999 => ?_)
        refine WP_aload_n dX6_load_180 rfl ?_
        refine WQ_getim dX6_load_181 fX6_9 rfl (lyx_is hy 50 6 rfl) e10991 ?_
        refine WP_iload dX6_load_184 rfl ?_
        refine WQ_icmp_ne 193 dX6_load_186 rfl (fun c11000 => ?_) (fun c11000 => False.elim (by omega))
        refine WQ_iconst (0) (0) dX6_load_193 rfl rfl (fun v11002 hv11002 => ?_)
        refine WQ_putz dX6_load_194 fX6_60 rfl rfl (by omega) (lyx_is hy 50 6 rfl) (fun I11003 eI11003 => ?_)
        have hI11003 : XI g n L I11003 := by rw [eI11003]; exact (xi_f hy hI10988 (c := 50) (0) (0) (1) (by decide) (Or.inl (by decide)) (by decide) (by omega) (by omega))
        have e11004 : I11003 (ad g 1) 1 = L := by rw [eI11003, pp_ne _ _ (Or.inl (lyx_ne hy (by decide) (by decide) (by decide)))]; exact e10989
        have e11005 : I11003 (ad g 27) 4 = v10369 := by rw [eI11003, pp_ne _ _ (Or.inl (lyx_ne hy (by decide) (by decide) (by decide)))]; exact e10990
        have e11006 : I11003 (ad g 50) 0 = v10800 := by rw [eI11003, pp_ne _ _ (Or.inr (by decide))]; exact e10991
        have e11007 : I11003 (ad g 50) 1 = v10806 := by rw [eI11003, pp_ne _ _ (Or.inr (by decide))]; exact e10992
        have e11008 : I11003 (ad g 50) 2 = v10813 := by rw [eI11003, pp_ne _ _ (Or.inr (by decide))]; exact e10993
        have e11009 : I11003 (ad g 50) 3 = v10826 := by rw [eI11003, pp_ne _ _ (Or.inr (by decide))]; exact e10994
        have e11010 : I11003 (ad g 50) 4 = v10964 := by rw [eI11003, pp_ne _ _ (Or.inr (by decide))]; exact e10995
        have e11011 : I11003 (ad g 50) 5 = v10975 := by rw [eI11003, pp_ne _ _ (Or.inr (by decide))]; exact e10996
        have e11012 : I11003 (ad g 50) 6 = v10987 := by rw [eI11003, pp_ne _ _ (Or.inr (by decide))]; exact e10997
        have e11013 : I11003 (ad g 50) 7 = v11002 := by rw [eI11003, pp_self]
        have fr11014 : fz 74 g [50] I I11003 := by rw [eI11003]; exact fzx_pp hy fr10998 (by decide) (by decide)
        clear eI11003
        refine WP_aload_n dX6_load_197 rfl ?_
        refine WP_aload_n dX6_load_198 rfl ?_
        refine WP_getr dX6_load_199 fX6_64 rfl (lyx_is hy 5 0 rfl) (rfx hr 5 2 23 (by decide)) ?_
        refine WP_iload_n dX6_load_202 rfl ?_
        refine WQ_iald dX6_load_203 (lyx_is hy 23 13 rfl) (lyx_n hy 23 7 rfl) (by omega) (by omega) (fun q hq => BT_get hI11003.1 23 0 7 (0) (0) (900) (by decide) q (Nat.zero_le _) hq) (fun v11015 av11015 bv11015 ev11015 => ?_)
        clear ev11015
        refine WQ_if_le 211 dX6_load_204 rfl (fun c11015 => ?_) (fun c11015 => ?_)
        · refine WQ_iconst (0) (0) dX6_load_211 rfl rfl (fun v11017 hv11017 => ?_)
          refine WQ_putz dX6_load_212 fX6_67 rfl rfl (by omega) (lyx_is hy 50 6 rfl) (fun I11018 eI11018 => ?_)
          have hI11018 : XI g n L I11018 := by rw [eI11018]; exact (xi_f hy hI11003 (c := 50) (0) (0) (1) (by decide) (Or.inl (by decide)) (by decide) (by omega) (by omega))
          have e11019 : I11018 (ad g 1) 1 = L := by rw [eI11018, pp_ne _ _ (Or.inl (lyx_ne hy (by decide) (by decide) (by decide)))]; exact e11004
          have e11020 : I11018 (ad g 27) 4 = v10369 := by rw [eI11018, pp_ne _ _ (Or.inl (lyx_ne hy (by decide) (by decide) (by decide)))]; exact e11005
          have e11021 : I11018 (ad g 50) 0 = v10800 := by rw [eI11018, pp_ne _ _ (Or.inr (by decide))]; exact e11006
          have e11022 : I11018 (ad g 50) 1 = v10806 := by rw [eI11018, pp_ne _ _ (Or.inr (by decide))]; exact e11007
          have e11023 : I11018 (ad g 50) 2 = v10813 := by rw [eI11018, pp_ne _ _ (Or.inr (by decide))]; exact e11008
          have e11024 : I11018 (ad g 50) 3 = v10826 := by rw [eI11018, pp_ne _ _ (Or.inr (by decide))]; exact e11009
          have e11025 : I11018 (ad g 50) 4 = v10964 := by rw [eI11018, pp_ne _ _ (Or.inr (by decide))]; exact e11010
          have e11026 : I11018 (ad g 50) 5 = v10975 := by rw [eI11018, pp_ne _ _ (Or.inr (by decide))]; exact e11011
          have e11027 : I11018 (ad g 50) 6 = v10987 := by rw [eI11018, pp_ne _ _ (Or.inr (by decide))]; exact e11012
          have e11028 : I11018 (ad g 50) 7 = v11002 := by rw [eI11018, pp_ne _ _ (Or.inr (by decide))]; exact e11013
          have e11029 : I11018 (ad g 50) 8 = v11017 := by rw [eI11018, pp_self]
          have fr11030 : fz 74 g [50] I I11018 := by rw [eI11018]; exact fzx_pp hy fr11014 (by decide) (by decide)
          clear eI11018
          exact WP_vret dX6_load_215 rfl ⟨⟨hI11018, rfl, fr11030, rfl, (by
                have yill : I (ad g (27 + 5)) so.toInt.toNat >>> (nI da.toInt.toNat &&& 31) &&& 1 = v10373 := by rw [show I (ad g (27 + 5)) so.toInt.toNat = v10370 from yv10370, show nI da.toInt.toNat = da from (eq32 _ _).mpr (by rw [nI_toInt (by omega)]; omega), xv10373, xv10371, (eq32 v10372 1).mpr hv10372]
                have yst : I (ad g 27) 4 = v10369 := est
                unfold LD
                simp only [e11021, e11022, e11023, e11024, e11025, e11026, e11027, e11028, yill, yst, show I (ad g (27 + 7)) _ = _ from yv10800, show I (ad g (27 + 8)) _ = _ from yv10806, show I (ad g (27 + 9)) _ = _ from yv10813, yv10826, true_and, and_true]
                omega)⟩, rfl⟩
        · refine WQ_iconst (1) (1) dX6_load_207 rfl rfl (fun v11031 hv11031 => ?_)
          refine WP_goto 212 dX6_load_208 rfl ?_
          refine WQ_putz dX6_load_212 fX6_67 rfl rfl (by omega) (lyx_is hy 50 6 rfl) (fun I11032 eI11032 => ?_)
          have hI11032 : XI g n L I11032 := by rw [eI11032]; exact (xi_f hy hI11003 (c := 50) (0) (0) (1) (by decide) (Or.inl (by decide)) (by decide) (by omega) (by omega))
          have e11033 : I11032 (ad g 1) 1 = L := by rw [eI11032, pp_ne _ _ (Or.inl (lyx_ne hy (by decide) (by decide) (by decide)))]; exact e11004
          have e11034 : I11032 (ad g 27) 4 = v10369 := by rw [eI11032, pp_ne _ _ (Or.inl (lyx_ne hy (by decide) (by decide) (by decide)))]; exact e11005
          have e11035 : I11032 (ad g 50) 0 = v10800 := by rw [eI11032, pp_ne _ _ (Or.inr (by decide))]; exact e11006
          have e11036 : I11032 (ad g 50) 1 = v10806 := by rw [eI11032, pp_ne _ _ (Or.inr (by decide))]; exact e11007
          have e11037 : I11032 (ad g 50) 2 = v10813 := by rw [eI11032, pp_ne _ _ (Or.inr (by decide))]; exact e11008
          have e11038 : I11032 (ad g 50) 3 = v10826 := by rw [eI11032, pp_ne _ _ (Or.inr (by decide))]; exact e11009
          have e11039 : I11032 (ad g 50) 4 = v10964 := by rw [eI11032, pp_ne _ _ (Or.inr (by decide))]; exact e11010
          have e11040 : I11032 (ad g 50) 5 = v10975 := by rw [eI11032, pp_ne _ _ (Or.inr (by decide))]; exact e11011
          have e11041 : I11032 (ad g 50) 6 = v10987 := by rw [eI11032, pp_ne _ _ (Or.inr (by decide))]; exact e11012
          have e11042 : I11032 (ad g 50) 7 = v11002 := by rw [eI11032, pp_ne _ _ (Or.inr (by decide))]; exact e11013
          have e11043 : I11032 (ad g 50) 8 = v11031 := by rw [eI11032, pp_self]
          have fr11044 : fz 74 g [50] I I11032 := by rw [eI11032]; exact fzx_pp hy fr11014 (by decide) (by decide)
          clear eI11032
          exact WP_vret dX6_load_215 rfl ⟨⟨hI11032, rfl, fr11044, rfl, (by
                have yill : I (ad g (27 + 5)) so.toInt.toNat >>> (nI da.toInt.toNat &&& 31) &&& 1 = v10373 := by rw [show I (ad g (27 + 5)) so.toInt.toNat = v10370 from yv10370, show nI da.toInt.toNat = da from (eq32 _ _).mpr (by rw [nI_toInt (by omega)]; omega), xv10373, xv10371, (eq32 v10372 1).mpr hv10372]
                have yst : I (ad g 27) 4 = v10369 := est
                unfold LD
                simp only [e11035, e11036, e11037, e11038, e11039, e11040, e11041, e11042, yill, yst, show I (ad g (27 + 7)) _ = _ from yv10800, show I (ad g (27 + 8)) _ = _ from yv10806, show I (ad g (27 + 9)) _ = _ from yv10813, yv10826, true_and, and_true]
                omega)⟩, rfl⟩
    · refine WQ_iconst (0) (0) dX6_load_87 rfl rfl (fun v11045 hv11045 => ?_)
      refine WP_goto 105 dX6_load_88 rfl ?_
      refine WQ_puti dX6_load_105 fX6_48 rfl rfl (lyx_is hy 50 6 rfl) (fun I11046 eI11046 => ?_)
      have hI11046 : XI g n L I11046 := by rw [eI11046]; exact (xi_f hy hI10814 (c := 50) (0) (0) (20) (by decide) (Or.inl (by decide)) (by decide) (by omega) (by omega))
      have e11047 : I11046 (ad g 1) 1 = L := by rw [eI11046, pp_ne _ _ (Or.inl (lyx_ne hy (by decide) (by decide) (by decide)))]; exact e10815
      have e11048 : I11046 (ad g 27) 4 = v10369 := by rw [eI11046, pp_ne _ _ (Or.inl (lyx_ne hy (by decide) (by decide) (by decide)))]; exact e10816
      have e11049 : I11046 (ad g 50) 0 = v10800 := by rw [eI11046, pp_ne _ _ (Or.inr (by decide))]; exact e10817
      have e11050 : I11046 (ad g 50) 1 = v10806 := by rw [eI11046, pp_ne _ _ (Or.inr (by decide))]; exact e10818
      have e11051 : I11046 (ad g 50) 2 = v10813 := by rw [eI11046, pp_ne _ _ (Or.inr (by decide))]; exact e10819
      have e11052 : I11046 (ad g 50) 3 = v11045 := by rw [eI11046, pp_self]
      have fr11053 : fz 74 g [50] I I11046 := by rw [eI11046]; exact fzx_pp hy fr10820 (by decide) (by decide)
      clear eI11046
      refine WP_aload_n dX6_load_108 rfl ?_
      refine WP_iload dX6_load_109 rfl ?_
      refine WQ_iconst (-1) (-1) dX6_load_111 rfl rfl (fun v11054 hv11054 => ?_)
      refine WQ_icmp_ne 119 dX6_load_112 rfl (fun c11054 => ?_) (fun c11054 => ?_)
      · refine WP_aload_n dX6_load_119 rfl ?_
        refine WP_getr dX6_load_120 fX6_45 rfl (lyx_is hy 5 0 rfl) (rfx hr 5 1 22 (by decide)) ?_
        refine WP_iload dX6_load_123 rfl ?_
        refine WQ_bipush (7) (7) dX6_load_125 rfl rfl (fun v11056 hv11056 => ?_)
        refine WQ_imulk (7) dX6_load_127 hv11056 (by omega) (by omega) (fun v11057 hv11057 => ?_)
        refine WP_iload_n dX6_load_128 rfl ?_
        refine WQ_iadd dX6_load_129 (by omega) (by omega) (fun v11058 hv11058 => ?_)
        refine WQ_ialdb dX6_load_130 (lyx_is hy 22 13 rfl) (lyx_n hy 22 21 rfl) (by omega) (by omega) (fun q hq => BT_get hI11046.1 22 0 21 (0) (0) (20) (by decide) q (Nat.zero_le _) hq) (fun v11059 av11059 bv11059 zv11059 => ?_)
        have yv11059 : I (ad g 22) (7 * v10369.toInt + da.toInt).toNat = v11059 := by rw [← fz_at fr11053 22 (by decide) (by decide), show (7 * v10369.toInt + da.toInt).toNat = v11058.toInt.toNat by omega]; exact zv11059
        refine WQ_puti dX6_load_131 fX6_51 rfl rfl (lyx_is hy 50 6 rfl) (fun I11060 eI11060 => ?_)
        have hI11060 : XI g n L I11060 := by rw [eI11060]; exact (xi_f hy hI11046 (c := 50) (0) (0) (20) (by decide) (Or.inl (by decide)) (by decide) (by omega) (by omega))
        have e11061 : I11060 (ad g 1) 1 = L := by rw [eI11060, pp_ne _ _ (Or.inl (lyx_ne hy (by decide) (by decide) (by decide)))]; exact e11047
        have e11062 : I11060 (ad g 27) 4 = v10369 := by rw [eI11060, pp_ne _ _ (Or.inl (lyx_ne hy (by decide) (by decide) (by decide)))]; exact e11048
        have e11063 : I11060 (ad g 50) 0 = v10800 := by rw [eI11060, pp_ne _ _ (Or.inr (by decide))]; exact e11049
        have e11064 : I11060 (ad g 50) 1 = v10806 := by rw [eI11060, pp_ne _ _ (Or.inr (by decide))]; exact e11050
        have e11065 : I11060 (ad g 50) 2 = v10813 := by rw [eI11060, pp_ne _ _ (Or.inr (by decide))]; exact e11051
        have e11066 : I11060 (ad g 50) 3 = v11045 := by rw [eI11060, pp_ne _ _ (Or.inr (by decide))]; exact e11052
        have e11067 : I11060 (ad g 50) 4 = v11059 := by rw [eI11060, pp_self]
        have fr11068 : fz 74 g [50] I I11060 := by rw [eI11060]; exact fzx_pp hy fr11053 (by decide) (by decide)
        clear eI11060
        refine WP_aload_n dX6_load_134 rfl ?_
        refine WP_iload dX6_load_135 rfl ?_
        refine WQ_if_eq 144 dX6_load_137 rfl (fun c11068 => False.elim (by omega)) (fun c11068 => ?_)
        refine WQ_iconst (0) (0) dX6_load_140 rfl rfl (fun v11070 hv11070 => ?_)
        refine WP_goto 148 dX6_load_141 rfl ?_
        refine WQ_puti dX6_load_148 fX6_54 rfl rfl (lyx_is hy 50 6 rfl) (fun I11071 eI11071 => ?_)
        have hI11071 : XI g n L I11071 := by rw [eI11071]; exact (xi_f hy hI11060 (c := 50) (0) (0) (3) (by decide) (Or.inl (by decide)) (by decide) (by omega) (by omega))
        have e11072 : I11071 (ad g 1) 1 = L := by rw [eI11071, pp_ne _ _ (Or.inl (lyx_ne hy (by decide) (by decide) (by decide)))]; exact e11061
        have e11073 : I11071 (ad g 27) 4 = v10369 := by rw [eI11071, pp_ne _ _ (Or.inl (lyx_ne hy (by decide) (by decide) (by decide)))]; exact e11062
        have e11074 : I11071 (ad g 50) 0 = v10800 := by rw [eI11071, pp_ne _ _ (Or.inr (by decide))]; exact e11063
        have e11075 : I11071 (ad g 50) 1 = v10806 := by rw [eI11071, pp_ne _ _ (Or.inr (by decide))]; exact e11064
        have e11076 : I11071 (ad g 50) 2 = v10813 := by rw [eI11071, pp_ne _ _ (Or.inr (by decide))]; exact e11065
        have e11077 : I11071 (ad g 50) 3 = v11045 := by rw [eI11071, pp_ne _ _ (Or.inr (by decide))]; exact e11066
        have e11078 : I11071 (ad g 50) 4 = v11059 := by rw [eI11071, pp_ne _ _ (Or.inr (by decide))]; exact e11067
        have e11079 : I11071 (ad g 50) 5 = v11070 := by rw [eI11071, pp_self]
        have fr11080 : fz 74 g [50] I I11071 := by rw [eI11071]; exact fzx_pp hy fr11068 (by decide) (by decide)
        clear eI11071
        refine WP_aload_n dX6_load_151 rfl ?_
        refine WP_iload dX6_load_152 rfl ?_
        refine WQ_if_ne 163 dX6_load_154 rfl (fun c11080 => ?_) (fun c11080 => False.elim (by omega))
        refine WQ_iconst (0) (0) dX6_load_163 rfl rfl (fun v11082 hv11082 => ?_)
        refine WP_goto 168 dX6_load_164 rfl ?_
        refine WQ_puti dX6_load_168 fX6_57 rfl rfl (lyx_is hy 50 6 rfl) (fun I11083 eI11083 => ?_)
        have hI11083 : XI g n L I11083 := by rw [eI11083]; exact (xi_f hy hI11071 (c := 50) (0) (0) (2) (by decide) (Or.inl (by decide)) (by decide) (by omega) (by omega))
        have e11084 : I11083 (ad g 1) 1 = L := by rw [eI11083, pp_ne _ _ (Or.inl (lyx_ne hy (by decide) (by decide) (by decide)))]; exact e11072
        have e11085 : I11083 (ad g 27) 4 = v10369 := by rw [eI11083, pp_ne _ _ (Or.inl (lyx_ne hy (by decide) (by decide) (by decide)))]; exact e11073
        have e11086 : I11083 (ad g 50) 0 = v10800 := by rw [eI11083, pp_ne _ _ (Or.inr (by decide))]; exact e11074
        have e11087 : I11083 (ad g 50) 1 = v10806 := by rw [eI11083, pp_ne _ _ (Or.inr (by decide))]; exact e11075
        have e11088 : I11083 (ad g 50) 2 = v10813 := by rw [eI11083, pp_ne _ _ (Or.inr (by decide))]; exact e11076
        have e11089 : I11083 (ad g 50) 3 = v11045 := by rw [eI11083, pp_ne _ _ (Or.inr (by decide))]; exact e11077
        have e11090 : I11083 (ad g 50) 4 = v11059 := by rw [eI11083, pp_ne _ _ (Or.inr (by decide))]; exact e11078
        have e11091 : I11083 (ad g 50) 5 = v11070 := by rw [eI11083, pp_ne _ _ (Or.inr (by decide))]; exact e11079
        have e11092 : I11083 (ad g 50) 6 = v11082 := by rw [eI11083, pp_self]
        have fr11093 : fz 74 g [50] I I11083 := by rw [eI11083]; exact fzx_pp hy fr11080 (by decide) (by decide)
        clear eI11083
        refine WP_aload_n dX6_load_171 rfl ?_
        refine WP_aload_n dX6_load_172 rfl ?_
        refine WQ_getim dX6_load_173 fX6_9 rfl (lyx_is hy 50 6 rfl) e11086 ?_
        refine WQ_iconst (-1) (-1) dX6_load_176 rfl rfl (fun v11094 hv11094 => ?_)
        refine WQ_icmp_eq 193 dX6_load_177 rfl (fun c11094 => ?_) (fun c11094 => False.elim (by omega))
        refine WQ_iconst (0) (0) dX6_load_193 rfl rfl (fun v11096 hv11096 => ?_)
        refine WQ_putz dX6_load_194 fX6_60 rfl rfl (by omega) (lyx_is hy 50 6 rfl) (fun I11097 eI11097 => ?_)
        have hI11097 : XI g n L I11097 := by rw [eI11097]; exact (xi_f hy hI11083 (c := 50) (0) (0) (1) (by decide) (Or.inl (by decide)) (by decide) (by omega) (by omega))
        have e11098 : I11097 (ad g 1) 1 = L := by rw [eI11097, pp_ne _ _ (Or.inl (lyx_ne hy (by decide) (by decide) (by decide)))]; exact e11084
        have e11099 : I11097 (ad g 27) 4 = v10369 := by rw [eI11097, pp_ne _ _ (Or.inl (lyx_ne hy (by decide) (by decide) (by decide)))]; exact e11085
        have e11100 : I11097 (ad g 50) 0 = v10800 := by rw [eI11097, pp_ne _ _ (Or.inr (by decide))]; exact e11086
        have e11101 : I11097 (ad g 50) 1 = v10806 := by rw [eI11097, pp_ne _ _ (Or.inr (by decide))]; exact e11087
        have e11102 : I11097 (ad g 50) 2 = v10813 := by rw [eI11097, pp_ne _ _ (Or.inr (by decide))]; exact e11088
        have e11103 : I11097 (ad g 50) 3 = v11045 := by rw [eI11097, pp_ne _ _ (Or.inr (by decide))]; exact e11089
        have e11104 : I11097 (ad g 50) 4 = v11059 := by rw [eI11097, pp_ne _ _ (Or.inr (by decide))]; exact e11090
        have e11105 : I11097 (ad g 50) 5 = v11070 := by rw [eI11097, pp_ne _ _ (Or.inr (by decide))]; exact e11091
        have e11106 : I11097 (ad g 50) 6 = v11082 := by rw [eI11097, pp_ne _ _ (Or.inr (by decide))]; exact e11092
        have e11107 : I11097 (ad g 50) 7 = v11096 := by rw [eI11097, pp_self]
        have fr11108 : fz 74 g [50] I I11097 := by rw [eI11097]; exact fzx_pp hy fr11093 (by decide) (by decide)
        clear eI11097
        refine WP_aload_n dX6_load_197 rfl ?_
        refine WP_aload_n dX6_load_198 rfl ?_
        refine WP_getr dX6_load_199 fX6_64 rfl (lyx_is hy 5 0 rfl) (rfx hr 5 2 23 (by decide)) ?_
        refine WP_iload_n dX6_load_202 rfl ?_
        refine WQ_iald dX6_load_203 (lyx_is hy 23 13 rfl) (lyx_n hy 23 7 rfl) (by omega) (by omega) (fun q hq => BT_get hI11097.1 23 0 7 (0) (0) (900) (by decide) q (Nat.zero_le _) hq) (fun v11109 av11109 bv11109 ev11109 => ?_)
        clear ev11109
        refine WQ_if_le 211 dX6_load_204 rfl (fun c11109 => ?_) (fun c11109 => ?_)
        · refine WQ_iconst (0) (0) dX6_load_211 rfl rfl (fun v11111 hv11111 => ?_)
          refine WQ_putz dX6_load_212 fX6_67 rfl rfl (by omega) (lyx_is hy 50 6 rfl) (fun I11112 eI11112 => ?_)
          have hI11112 : XI g n L I11112 := by rw [eI11112]; exact (xi_f hy hI11097 (c := 50) (0) (0) (1) (by decide) (Or.inl (by decide)) (by decide) (by omega) (by omega))
          have e11113 : I11112 (ad g 1) 1 = L := by rw [eI11112, pp_ne _ _ (Or.inl (lyx_ne hy (by decide) (by decide) (by decide)))]; exact e11098
          have e11114 : I11112 (ad g 27) 4 = v10369 := by rw [eI11112, pp_ne _ _ (Or.inl (lyx_ne hy (by decide) (by decide) (by decide)))]; exact e11099
          have e11115 : I11112 (ad g 50) 0 = v10800 := by rw [eI11112, pp_ne _ _ (Or.inr (by decide))]; exact e11100
          have e11116 : I11112 (ad g 50) 1 = v10806 := by rw [eI11112, pp_ne _ _ (Or.inr (by decide))]; exact e11101
          have e11117 : I11112 (ad g 50) 2 = v10813 := by rw [eI11112, pp_ne _ _ (Or.inr (by decide))]; exact e11102
          have e11118 : I11112 (ad g 50) 3 = v11045 := by rw [eI11112, pp_ne _ _ (Or.inr (by decide))]; exact e11103
          have e11119 : I11112 (ad g 50) 4 = v11059 := by rw [eI11112, pp_ne _ _ (Or.inr (by decide))]; exact e11104
          have e11120 : I11112 (ad g 50) 5 = v11070 := by rw [eI11112, pp_ne _ _ (Or.inr (by decide))]; exact e11105
          have e11121 : I11112 (ad g 50) 6 = v11082 := by rw [eI11112, pp_ne _ _ (Or.inr (by decide))]; exact e11106
          have e11122 : I11112 (ad g 50) 7 = v11096 := by rw [eI11112, pp_ne _ _ (Or.inr (by decide))]; exact e11107
          have e11123 : I11112 (ad g 50) 8 = v11111 := by rw [eI11112, pp_self]
          have fr11124 : fz 74 g [50] I I11112 := by rw [eI11112]; exact fzx_pp hy fr11108 (by decide) (by decide)
          clear eI11112
          exact WP_vret dX6_load_215 rfl ⟨⟨hI11112, rfl, fr11124, rfl, (by
                have yill : I (ad g (27 + 5)) so.toInt.toNat >>> (nI da.toInt.toNat &&& 31) &&& 1 = v10373 := by rw [show I (ad g (27 + 5)) so.toInt.toNat = v10370 from yv10370, show nI da.toInt.toNat = da from (eq32 _ _).mpr (by rw [nI_toInt (by omega)]; omega), xv10373, xv10371, (eq32 v10372 1).mpr hv10372]
                have yst : I (ad g 27) 4 = v10369 := est
                unfold LD
                simp only [e11115, e11116, e11117, e11118, e11119, e11120, e11121, e11122, yill, yst, show I (ad g (27 + 7)) _ = _ from yv10800, show I (ad g (27 + 8)) _ = _ from yv10806, show I (ad g (27 + 9)) _ = _ from yv10813, yv11059, true_and, and_true]
                omega)⟩, rfl⟩
        · refine WQ_iconst (1) (1) dX6_load_207 rfl rfl (fun v11125 hv11125 => ?_)
          refine WP_goto 212 dX6_load_208 rfl ?_
          refine WQ_putz dX6_load_212 fX6_67 rfl rfl (by omega) (lyx_is hy 50 6 rfl) (fun I11126 eI11126 => ?_)
          have hI11126 : XI g n L I11126 := by rw [eI11126]; exact (xi_f hy hI11097 (c := 50) (0) (0) (1) (by decide) (Or.inl (by decide)) (by decide) (by omega) (by omega))
          have e11127 : I11126 (ad g 1) 1 = L := by rw [eI11126, pp_ne _ _ (Or.inl (lyx_ne hy (by decide) (by decide) (by decide)))]; exact e11098
          have e11128 : I11126 (ad g 27) 4 = v10369 := by rw [eI11126, pp_ne _ _ (Or.inl (lyx_ne hy (by decide) (by decide) (by decide)))]; exact e11099
          have e11129 : I11126 (ad g 50) 0 = v10800 := by rw [eI11126, pp_ne _ _ (Or.inr (by decide))]; exact e11100
          have e11130 : I11126 (ad g 50) 1 = v10806 := by rw [eI11126, pp_ne _ _ (Or.inr (by decide))]; exact e11101
          have e11131 : I11126 (ad g 50) 2 = v10813 := by rw [eI11126, pp_ne _ _ (Or.inr (by decide))]; exact e11102
          have e11132 : I11126 (ad g 50) 3 = v11045 := by rw [eI11126, pp_ne _ _ (Or.inr (by decide))]; exact e11103
          have e11133 : I11126 (ad g 50) 4 = v11059 := by rw [eI11126, pp_ne _ _ (Or.inr (by decide))]; exact e11104
          have e11134 : I11126 (ad g 50) 5 = v11070 := by rw [eI11126, pp_ne _ _ (Or.inr (by decide))]; exact e11105
          have e11135 : I11126 (ad g 50) 6 = v11082 := by rw [eI11126, pp_ne _ _ (Or.inr (by decide))]; exact e11106
          have e11136 : I11126 (ad g 50) 7 = v11096 := by rw [eI11126, pp_ne _ _ (Or.inr (by decide))]; exact e11107
          have e11137 : I11126 (ad g 50) 8 = v11125 := by rw [eI11126, pp_self]
          have fr11138 : fz 74 g [50] I I11126 := by rw [eI11126]; exact fzx_pp hy fr11108 (by decide) (by decide)
          clear eI11126
          exact WP_vret dX6_load_215 rfl ⟨⟨hI11126, rfl, fr11138, rfl, (by
                have yill : I (ad g (27 + 5)) so.toInt.toNat >>> (nI da.toInt.toNat &&& 31) &&& 1 = v10373 := by rw [show I (ad g (27 + 5)) so.toInt.toNat = v10370 from yv10370, show nI da.toInt.toNat = da from (eq32 _ _).mpr (by rw [nI_toInt (by omega)]; omega), xv10373, xv10371, (eq32 v10372 1).mpr hv10372]
                have yst : I (ad g 27) 4 = v10369 := est
                unfold LD
                simp only [e11129, e11130, e11131, e11132, e11133, e11134, e11135, e11136, yill, yst, show I (ad g (27 + 7)) _ = _ from yv10800, show I (ad g (27 + 8)) _ = _ from yv10806, show I (ad g (27 + 9)) _ = _ from yv10813, yv11059, true_and, and_true]
                omega)⟩, rfl⟩
      · refine WQ_iconst (0) (0) dX6_load_115 rfl rfl (fun v11139 hv11139 => ?_)
        refine WP_goto 131 dX6_load_116 rfl ?_
        refine WQ_puti dX6_load_131 fX6_51 rfl rfl (lyx_is hy 50 6 rfl) (fun I11140 eI11140 => ?_)
        have hI11140 : XI g n L I11140 := by rw [eI11140]; exact (xi_f hy hI11046 (c := 50) (0) (0) (20) (by decide) (Or.inl (by decide)) (by decide) (by omega) (by omega))
        have e11141 : I11140 (ad g 1) 1 = L := by rw [eI11140, pp_ne _ _ (Or.inl (lyx_ne hy (by decide) (by decide) (by decide)))]; exact e11047
        have e11142 : I11140 (ad g 27) 4 = v10369 := by rw [eI11140, pp_ne _ _ (Or.inl (lyx_ne hy (by decide) (by decide) (by decide)))]; exact e11048
        have e11143 : I11140 (ad g 50) 0 = v10800 := by rw [eI11140, pp_ne _ _ (Or.inr (by decide))]; exact e11049
        have e11144 : I11140 (ad g 50) 1 = v10806 := by rw [eI11140, pp_ne _ _ (Or.inr (by decide))]; exact e11050
        have e11145 : I11140 (ad g 50) 2 = v10813 := by rw [eI11140, pp_ne _ _ (Or.inr (by decide))]; exact e11051
        have e11146 : I11140 (ad g 50) 3 = v11045 := by rw [eI11140, pp_ne _ _ (Or.inr (by decide))]; exact e11052
        have e11147 : I11140 (ad g 50) 4 = v11139 := by rw [eI11140, pp_self]
        have fr11148 : fz 74 g [50] I I11140 := by rw [eI11140]; exact fzx_pp hy fr11053 (by decide) (by decide)
        clear eI11140
        refine WP_aload_n dX6_load_134 rfl ?_
        refine WP_iload dX6_load_135 rfl ?_
        refine WQ_if_eq 144 dX6_load_137 rfl (fun c11148 => False.elim (by omega)) (fun c11148 => ?_)
        refine WQ_iconst (0) (0) dX6_load_140 rfl rfl (fun v11150 hv11150 => ?_)
        refine WP_goto 148 dX6_load_141 rfl ?_
        refine WQ_puti dX6_load_148 fX6_54 rfl rfl (lyx_is hy 50 6 rfl) (fun I11151 eI11151 => ?_)
        have hI11151 : XI g n L I11151 := by rw [eI11151]; exact (xi_f hy hI11140 (c := 50) (0) (0) (3) (by decide) (Or.inl (by decide)) (by decide) (by omega) (by omega))
        have e11152 : I11151 (ad g 1) 1 = L := by rw [eI11151, pp_ne _ _ (Or.inl (lyx_ne hy (by decide) (by decide) (by decide)))]; exact e11141
        have e11153 : I11151 (ad g 27) 4 = v10369 := by rw [eI11151, pp_ne _ _ (Or.inl (lyx_ne hy (by decide) (by decide) (by decide)))]; exact e11142
        have e11154 : I11151 (ad g 50) 0 = v10800 := by rw [eI11151, pp_ne _ _ (Or.inr (by decide))]; exact e11143
        have e11155 : I11151 (ad g 50) 1 = v10806 := by rw [eI11151, pp_ne _ _ (Or.inr (by decide))]; exact e11144
        have e11156 : I11151 (ad g 50) 2 = v10813 := by rw [eI11151, pp_ne _ _ (Or.inr (by decide))]; exact e11145
        have e11157 : I11151 (ad g 50) 3 = v11045 := by rw [eI11151, pp_ne _ _ (Or.inr (by decide))]; exact e11146
        have e11158 : I11151 (ad g 50) 4 = v11139 := by rw [eI11151, pp_ne _ _ (Or.inr (by decide))]; exact e11147
        have e11159 : I11151 (ad g 50) 5 = v11150 := by rw [eI11151, pp_self]
        have fr11160 : fz 74 g [50] I I11151 := by rw [eI11151]; exact fzx_pp hy fr11148 (by decide) (by decide)
        clear eI11151
        refine WP_aload_n dX6_load_151 rfl ?_
        refine WP_iload dX6_load_152 rfl ?_
        refine WQ_if_ne 163 dX6_load_154 rfl (fun c11160 => ?_) (fun c11160 => False.elim (by omega))
        refine WQ_iconst (0) (0) dX6_load_163 rfl rfl (fun v11162 hv11162 => ?_)
        refine WP_goto 168 dX6_load_164 rfl ?_
        refine WQ_puti dX6_load_168 fX6_57 rfl rfl (lyx_is hy 50 6 rfl) (fun I11163 eI11163 => ?_)
        have hI11163 : XI g n L I11163 := by rw [eI11163]; exact (xi_f hy hI11151 (c := 50) (0) (0) (2) (by decide) (Or.inl (by decide)) (by decide) (by omega) (by omega))
        have e11164 : I11163 (ad g 1) 1 = L := by rw [eI11163, pp_ne _ _ (Or.inl (lyx_ne hy (by decide) (by decide) (by decide)))]; exact e11152
        have e11165 : I11163 (ad g 27) 4 = v10369 := by rw [eI11163, pp_ne _ _ (Or.inl (lyx_ne hy (by decide) (by decide) (by decide)))]; exact e11153
        have e11166 : I11163 (ad g 50) 0 = v10800 := by rw [eI11163, pp_ne _ _ (Or.inr (by decide))]; exact e11154
        have e11167 : I11163 (ad g 50) 1 = v10806 := by rw [eI11163, pp_ne _ _ (Or.inr (by decide))]; exact e11155
        have e11168 : I11163 (ad g 50) 2 = v10813 := by rw [eI11163, pp_ne _ _ (Or.inr (by decide))]; exact e11156
        have e11169 : I11163 (ad g 50) 3 = v11045 := by rw [eI11163, pp_ne _ _ (Or.inr (by decide))]; exact e11157
        have e11170 : I11163 (ad g 50) 4 = v11139 := by rw [eI11163, pp_ne _ _ (Or.inr (by decide))]; exact e11158
        have e11171 : I11163 (ad g 50) 5 = v11150 := by rw [eI11163, pp_ne _ _ (Or.inr (by decide))]; exact e11159
        have e11172 : I11163 (ad g 50) 6 = v11162 := by rw [eI11163, pp_self]
        have fr11173 : fz 74 g [50] I I11163 := by rw [eI11163]; exact fzx_pp hy fr11160 (by decide) (by decide)
        clear eI11163
        refine WP_aload_n dX6_load_171 rfl ?_
        refine WP_aload_n dX6_load_172 rfl ?_
        refine WQ_getim dX6_load_173 fX6_9 rfl (lyx_is hy 50 6 rfl) e11166 ?_
        refine WQ_iconst (-1) (-1) dX6_load_176 rfl rfl (fun v11174 hv11174 => ?_)
        refine WQ_icmp_eq 193 dX6_load_177 rfl (fun c11174 => ?_) (fun c11174 => False.elim (by omega))
        refine WQ_iconst (0) (0) dX6_load_193 rfl rfl (fun v11176 hv11176 => ?_)
        refine WQ_putz dX6_load_194 fX6_60 rfl rfl (by omega) (lyx_is hy 50 6 rfl) (fun I11177 eI11177 => ?_)
        have hI11177 : XI g n L I11177 := by rw [eI11177]; exact (xi_f hy hI11163 (c := 50) (0) (0) (1) (by decide) (Or.inl (by decide)) (by decide) (by omega) (by omega))
        have e11178 : I11177 (ad g 1) 1 = L := by rw [eI11177, pp_ne _ _ (Or.inl (lyx_ne hy (by decide) (by decide) (by decide)))]; exact e11164
        have e11179 : I11177 (ad g 27) 4 = v10369 := by rw [eI11177, pp_ne _ _ (Or.inl (lyx_ne hy (by decide) (by decide) (by decide)))]; exact e11165
        have e11180 : I11177 (ad g 50) 0 = v10800 := by rw [eI11177, pp_ne _ _ (Or.inr (by decide))]; exact e11166
        have e11181 : I11177 (ad g 50) 1 = v10806 := by rw [eI11177, pp_ne _ _ (Or.inr (by decide))]; exact e11167
        have e11182 : I11177 (ad g 50) 2 = v10813 := by rw [eI11177, pp_ne _ _ (Or.inr (by decide))]; exact e11168
        have e11183 : I11177 (ad g 50) 3 = v11045 := by rw [eI11177, pp_ne _ _ (Or.inr (by decide))]; exact e11169
        have e11184 : I11177 (ad g 50) 4 = v11139 := by rw [eI11177, pp_ne _ _ (Or.inr (by decide))]; exact e11170
        have e11185 : I11177 (ad g 50) 5 = v11150 := by rw [eI11177, pp_ne _ _ (Or.inr (by decide))]; exact e11171
        have e11186 : I11177 (ad g 50) 6 = v11162 := by rw [eI11177, pp_ne _ _ (Or.inr (by decide))]; exact e11172
        have e11187 : I11177 (ad g 50) 7 = v11176 := by rw [eI11177, pp_self]
        have fr11188 : fz 74 g [50] I I11177 := by rw [eI11177]; exact fzx_pp hy fr11173 (by decide) (by decide)
        clear eI11177
        refine WP_aload_n dX6_load_197 rfl ?_
        refine WP_aload_n dX6_load_198 rfl ?_
        refine WP_getr dX6_load_199 fX6_64 rfl (lyx_is hy 5 0 rfl) (rfx hr 5 2 23 (by decide)) ?_
        refine WP_iload_n dX6_load_202 rfl ?_
        refine WQ_iald dX6_load_203 (lyx_is hy 23 13 rfl) (lyx_n hy 23 7 rfl) (by omega) (by omega) (fun q hq => BT_get hI11177.1 23 0 7 (0) (0) (900) (by decide) q (Nat.zero_le _) hq) (fun v11189 av11189 bv11189 ev11189 => ?_)
        clear ev11189
        refine WQ_if_le 211 dX6_load_204 rfl (fun c11189 => ?_) (fun c11189 => ?_)
        · refine WQ_iconst (0) (0) dX6_load_211 rfl rfl (fun v11191 hv11191 => ?_)
          refine WQ_putz dX6_load_212 fX6_67 rfl rfl (by omega) (lyx_is hy 50 6 rfl) (fun I11192 eI11192 => ?_)
          have hI11192 : XI g n L I11192 := by rw [eI11192]; exact (xi_f hy hI11177 (c := 50) (0) (0) (1) (by decide) (Or.inl (by decide)) (by decide) (by omega) (by omega))
          have e11193 : I11192 (ad g 1) 1 = L := by rw [eI11192, pp_ne _ _ (Or.inl (lyx_ne hy (by decide) (by decide) (by decide)))]; exact e11178
          have e11194 : I11192 (ad g 27) 4 = v10369 := by rw [eI11192, pp_ne _ _ (Or.inl (lyx_ne hy (by decide) (by decide) (by decide)))]; exact e11179
          have e11195 : I11192 (ad g 50) 0 = v10800 := by rw [eI11192, pp_ne _ _ (Or.inr (by decide))]; exact e11180
          have e11196 : I11192 (ad g 50) 1 = v10806 := by rw [eI11192, pp_ne _ _ (Or.inr (by decide))]; exact e11181
          have e11197 : I11192 (ad g 50) 2 = v10813 := by rw [eI11192, pp_ne _ _ (Or.inr (by decide))]; exact e11182
          have e11198 : I11192 (ad g 50) 3 = v11045 := by rw [eI11192, pp_ne _ _ (Or.inr (by decide))]; exact e11183
          have e11199 : I11192 (ad g 50) 4 = v11139 := by rw [eI11192, pp_ne _ _ (Or.inr (by decide))]; exact e11184
          have e11200 : I11192 (ad g 50) 5 = v11150 := by rw [eI11192, pp_ne _ _ (Or.inr (by decide))]; exact e11185
          have e11201 : I11192 (ad g 50) 6 = v11162 := by rw [eI11192, pp_ne _ _ (Or.inr (by decide))]; exact e11186
          have e11202 : I11192 (ad g 50) 7 = v11176 := by rw [eI11192, pp_ne _ _ (Or.inr (by decide))]; exact e11187
          have e11203 : I11192 (ad g 50) 8 = v11191 := by rw [eI11192, pp_self]
          have fr11204 : fz 74 g [50] I I11192 := by rw [eI11192]; exact fzx_pp hy fr11188 (by decide) (by decide)
          clear eI11192
          exact WP_vret dX6_load_215 rfl ⟨⟨hI11192, rfl, fr11204, rfl, (by
                have yill : I (ad g (27 + 5)) so.toInt.toNat >>> (nI da.toInt.toNat &&& 31) &&& 1 = v10373 := by rw [show I (ad g (27 + 5)) so.toInt.toNat = v10370 from yv10370, show nI da.toInt.toNat = da from (eq32 _ _).mpr (by rw [nI_toInt (by omega)]; omega), xv10373, xv10371, (eq32 v10372 1).mpr hv10372]
                have yst : I (ad g 27) 4 = v10369 := est
                unfold LD
                simp only [e11195, e11196, e11197, e11198, e11199, e11200, e11201, e11202, yill, yst, show I (ad g (27 + 7)) _ = _ from yv10800, show I (ad g (27 + 8)) _ = _ from yv10806, show I (ad g (27 + 9)) _ = _ from yv10813, true_and, and_true]
                omega)⟩, rfl⟩
        · refine WQ_iconst (1) (1) dX6_load_207 rfl rfl (fun v11205 hv11205 => ?_)
          refine WP_goto 212 dX6_load_208 rfl ?_
          refine WQ_putz dX6_load_212 fX6_67 rfl rfl (by omega) (lyx_is hy 50 6 rfl) (fun I11206 eI11206 => ?_)
          have hI11206 : XI g n L I11206 := by rw [eI11206]; exact (xi_f hy hI11177 (c := 50) (0) (0) (1) (by decide) (Or.inl (by decide)) (by decide) (by omega) (by omega))
          have e11207 : I11206 (ad g 1) 1 = L := by rw [eI11206, pp_ne _ _ (Or.inl (lyx_ne hy (by decide) (by decide) (by decide)))]; exact e11178
          have e11208 : I11206 (ad g 27) 4 = v10369 := by rw [eI11206, pp_ne _ _ (Or.inl (lyx_ne hy (by decide) (by decide) (by decide)))]; exact e11179
          have e11209 : I11206 (ad g 50) 0 = v10800 := by rw [eI11206, pp_ne _ _ (Or.inr (by decide))]; exact e11180
          have e11210 : I11206 (ad g 50) 1 = v10806 := by rw [eI11206, pp_ne _ _ (Or.inr (by decide))]; exact e11181
          have e11211 : I11206 (ad g 50) 2 = v10813 := by rw [eI11206, pp_ne _ _ (Or.inr (by decide))]; exact e11182
          have e11212 : I11206 (ad g 50) 3 = v11045 := by rw [eI11206, pp_ne _ _ (Or.inr (by decide))]; exact e11183
          have e11213 : I11206 (ad g 50) 4 = v11139 := by rw [eI11206, pp_ne _ _ (Or.inr (by decide))]; exact e11184
          have e11214 : I11206 (ad g 50) 5 = v11150 := by rw [eI11206, pp_ne _ _ (Or.inr (by decide))]; exact e11185
          have e11215 : I11206 (ad g 50) 6 = v11162 := by rw [eI11206, pp_ne _ _ (Or.inr (by decide))]; exact e11186
          have e11216 : I11206 (ad g 50) 7 = v11176 := by rw [eI11206, pp_ne _ _ (Or.inr (by decide))]; exact e11187
          have e11217 : I11206 (ad g 50) 8 = v11205 := by rw [eI11206, pp_self]
          have fr11218 : fz 74 g [50] I I11206 := by rw [eI11206]; exact fzx_pp hy fr11188 (by decide) (by decide)
          clear eI11206
          exact WP_vret dX6_load_215 rfl ⟨⟨hI11206, rfl, fr11218, rfl, (by
                have yill : I (ad g (27 + 5)) so.toInt.toNat >>> (nI da.toInt.toNat &&& 31) &&& 1 = v10373 := by rw [show I (ad g (27 + 5)) so.toInt.toNat = v10370 from yv10370, show nI da.toInt.toNat = da from (eq32 _ _).mpr (by rw [nI_toInt (by omega)]; omega), xv10373, xv10371, (eq32 v10372 1).mpr hv10372]
                have yst : I (ad g 27) 4 = v10369 := est
                unfold LD
                simp only [e11209, e11210, e11211, e11212, e11213, e11214, e11215, e11216, yill, yst, show I (ad g (27 + 7)) _ = _ from yv10800, show I (ad g (27 + 8)) _ = _ from yv10806, show I (ad g (27 + 9)) _ = _ from yv10813, true_and, and_true]
                omega)⟩, rfl⟩
