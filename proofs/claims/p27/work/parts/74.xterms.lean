set_option maxHeartbeats 4000000 in
set_option maxRecDepth 100000 in
theorem sx_mostFromStore_44 {g : GG} {n : Int} {L : Int32} (hy : LyX g)  {I : pI} {J : pJ} {R : pR} (hr : RfX g R) (hI : XI g n L I) (st : Int32) (st_lo : 0 ≤ st.toInt) (st_hi : st.toInt ≤ 5) : SP g mX6_mostFromStore [.ref (ad g 44), .int st] I J R (fun r I' J' R' => (I' = I ∧ J' = J ∧ R' = R) ∧ ∃ v : Int32, r = some (.int v) ∧ 0 ≤ v.toInt ∧ v.toInt ≤ 3 ∧ v.toInt ≤ st.toInt) := by
  refine SP_of ⟨by decide, rfl⟩ (Nat.le_of_ble_eq_true rfl) ?_
  have e785 : I (ad g 1) 1 = L := hI.2
  have b786 := BT_get hI.1 1 1 2 (0) (0) (900) (by decide) 1 (by decide) (by decide)
  rw [e785] at b786
  refine WP_aload_n dX6_mostFromStore_0 rfl ?_
  refine WQ_geti dX6_mostFromStore_1 fX6_60 rfl (lyx_is hy 44 6 rfl) (BT_get hI.1 44 7 8 (0) (0) (1) (by decide) 7 (by decide) (by decide)) (fun v787 ev787 av787 bv787 => ?_)
  refine WQ_if_ne 11 dX6_mostFromStore_4 rfl (fun c787 => ?_) (fun c787 => ?_)
  · refine WP_iload_n dX6_mostFromStore_11 rfl ?_
    refine WP_aload_n dX6_mostFromStore_12 rfl ?_
    refine WQ_geti dX6_mostFromStore_13 fX6_36 rfl (lyx_is hy 44 6 rfl) (BT_get hI.1 44 1 2 (0) (0) (3) (by decide) 1 (by decide) (by decide)) (fun v789 ev789 av789 bv789 => ?_)
    refine WQ_icmp_ge 23 dX6_mostFromStore_16 rfl (fun c789 => ?_) (fun c789 => ?_)
    · refine WP_aload_n dX6_mostFromStore_23 rfl ?_
      refine WQ_getim dX6_mostFromStore_24 fX6_36 rfl (lyx_is hy 44 6 rfl) ev789 ?_
      exact WP_iret dX6_mostFromStore_27 rfl ⟨⟨rfl, rfl, rfl⟩, _, rfl, by omega, by omega, by omega⟩
    · refine WP_iload_n dX6_mostFromStore_19 rfl ?_
      refine WP_goto 27 dX6_mostFromStore_20 rfl ?_
      exact WP_iret dX6_mostFromStore_27 rfl ⟨⟨rfl, rfl, rfl⟩, _, rfl, by omega, by omega, by omega⟩
  · refine WQ_iconst (0) (0) dX6_mostFromStore_7 rfl rfl (fun v791 hv791 => ?_)
    refine WP_goto 27 dX6_mostFromStore_8 rfl ?_
    exact WP_iret dX6_mostFromStore_27 rfl ⟨⟨rfl, rfl, rfl⟩, _, rfl, by omega, by omega, by omega⟩
set_option maxHeartbeats 4000000 in
set_option maxRecDepth 100000 in
theorem sx_priceOf_44 {g : GG} {n : Int} {L : Int32} (hy : LyX g)  {I : pI} {J : pJ} {R : pR} (hr : RfX g R) (hI : XI g n L I) (ea : Int32) (so : Int32) (ea_lo : 0 ≤ ea.toInt) (ea_hi : ea.toInt ≤ 3) (so_lo : 0 ≤ so.toInt) (so_hi : so.toInt ≤ 3) : SP g mX6_priceOf [.ref (ad g 44), .int ea, .int so] I J R (fun r I' J' R' => (I' = I ∧ J' = J ∧ R' = R) ∧ ∃ v : Int32, r = some (.int v) ∧ 0 ≤ v.toInt ∧ v.toInt ≤ 120) := by
  refine SP_of ⟨by decide, rfl⟩ (Nat.le_of_ble_eq_true rfl) ?_
  have e792 : I (ad g 1) 1 = L := hI.2
  have b793 := BT_get hI.1 1 1 2 (0) (0) (900) (by decide) 1 (by decide) (by decide)
  rw [e792] at b793
  refine WP_iload_n dX6_priceOf_0 rfl ?_
  refine WP_aload_n dX6_priceOf_1 rfl ?_
  refine WQ_geti dX6_priceOf_2 fX6_48 rfl (lyx_is hy 44 6 rfl) (BT_get hI.1 44 3 4 (0) (0) (20) (by decide) 3 (by decide) (by decide)) (fun v794 ev794 av794 bv794 => ?_)
  refine WQ_imulb (3) (20) dX6_priceOf_5 ⟨by omega, by omega⟩ ⟨by omega, by omega⟩ (by decide) (fun v795 pv795 av795 bv795 cv795 => ?_)
  refine WP_iload_n dX6_priceOf_6 rfl ?_
  refine WP_aload_n dX6_priceOf_7 rfl ?_
  refine WQ_geti dX6_priceOf_8 fX6_51 rfl (lyx_is hy 44 6 rfl) (BT_get hI.1 44 4 5 (0) (0) (20) (by decide) 4 (by decide) (by decide)) (fun v796 ev796 av796 bv796 => ?_)
  refine WQ_imulb (3) (20) dX6_priceOf_11 ⟨by omega, by omega⟩ ⟨by omega, by omega⟩ (by decide) (fun v797 pv797 av797 bv797 cv797 => ?_)
  refine WQ_iadd dX6_priceOf_12 (by omega) (by omega) (fun v798 hv798 => ?_)
  exact WP_iret dX6_priceOf_13 rfl ⟨⟨rfl, rfl, rfl⟩, _, rfl, by omega, by omega⟩
set_option maxHeartbeats 4000000 in
set_option maxRecDepth 100000 in
theorem sx_load_44_6 {g : GG} {n : Int} {L : Int32} (hy : LyX g)  {I : pI} {J : pJ} {R : pR} (hr : RfX g R) (hT : R (ad g 5) 0 = some (ad g 6)) (hI : XI g n L I) (so : Int32) (da : Int32) (so_lo : 0 ≤ so.toInt) (so_hi : so.toInt ≤ 3) (da_lo : 0 ≤ da.toInt) (da_hi : da.toInt ≤ 6) : SP g mX6_load [.ref (ad g 44), .ref (ad g 5), .int so, .int da] I J R (fun r I' J' R' => (XI g n L I' ∧ R' = R) ∧ r = none) := by
  refine SP_of ⟨by decide, rfl⟩ (Nat.le_of_ble_eq_true rfl) ?_
  have e799 : I (ad g 1) 1 = L := hI.2
  have b800 := BT_get hI.1 1 1 2 (0) (0) (900) (by decide) 1 (by decide) (by decide)
  rw [e799] at b800
  refine WP_aload_n dX6_load_0 rfl ?_
  refine WP_getr dX6_load_1 fX6_15 rfl (lyx_is hy 5 0 rfl) hT ?_
  refine WP_astore (ls' := [(0, _), (1, _), (2, _), (3, _), (4, _)]) dX6_load_4 (by decide) rfl ?_
  refine WP_iload_n dX6_load_6 rfl ?_
  refine WQ_bipush (7) (7) dX6_load_7 rfl rfl (fun v801 hv801 => ?_)
  refine WQ_imulk (7) dX6_load_9 hv801 (by omega) (by omega) (fun v802 hv802 => ?_)
  refine WP_iload_n dX6_load_10 rfl ?_
  refine WQ_iadd dX6_load_11 (by omega) (by omega) (fun v803 hv803 => ?_)
  refine WP_istore (ls' := [(0, _), (1, _), (2, _), (3, _), (4, _), (5, _)]) dX6_load_12 (by decide) rfl ?_
  refine WP_aload dX6_load_14 rfl ?_
  refine WQ_geti dX6_load_16 fX6_21 rfl (lyx_is hy 6 7 rfl) (BT_get hI.1 6 4 5 (-1) (0) (2) (by decide) 4 (by decide) (by decide)) (fun v804 ev804 av804 bv804 => ?_)
  refine WP_istore (ls' := [(0, _), (1, _), (2, _), (3, _), (4, _), (5, _), (6, _)]) dX6_load_19 (by decide) rfl ?_
  refine WP_aload dX6_load_21 rfl ?_
  refine WP_getr dX6_load_23 fX6_26 rfl (lyx_is hy 6 7 rfl) (rfx hr 6 9 11 (by decide)) ?_
  refine WP_iload_n dX6_load_26 rfl ?_
  refine WQ_ialdu dX6_load_27 (lyx_is hy 11 13 rfl) (lyx_n hy 11 4 rfl) (by omega) (by omega) (fun v805 => ?_)
  refine WP_iload_n dX6_load_28 rfl ?_
  refine WQ_ishru dX6_load_29 (fun v806 => ?_)
  refine WQ_iconst (1) (1) dX6_load_30 rfl rfl (fun v807 hv807 => ?_)
  refine WQ_iandu dX6_load_31 (fun v808 => ?_)
  have jn40_811 : ∀ (v811 : Int32), 0 ≤ v811.toInt → v811.toInt ≤ 1 → WP g mX6_load 40 [(0, .ref (ad g 44)), (1, .ref (ad g 5)), (2, .int so), (3, .int da), (4, .ref (ad g 6)), (5, .int v803), (6, .int v804)] [.int v811] I J R (fun r I' J' R' => (XI g n L I' ∧ R' = R) ∧ r = none) := by
    intro v811 av811 bv811
    refine WP_istore (ls' := [(0, _), (1, _), (2, _), (3, _), (4, _), (5, _), (6, _), (7, _)]) dX6_load_40 (by decide) rfl ?_
    refine WP_aload_n dX6_load_42 rfl ?_
    refine WP_aload dX6_load_43 rfl ?_
    refine WP_getr dX6_load_45 fX6_30 rfl (lyx_is hy 6 7 rfl) (rfx hr 6 11 13 (by decide)) ?_
    refine WP_iload dX6_load_48 rfl ?_
    refine WQ_iald dX6_load_50 (lyx_is hy 13 13 rfl) (lyx_n hy 13 28 rfl) (by omega) (by omega) (fun q hq => BT_get hI.1 13 0 28 (-1) (0) (2) (by decide) q (Nat.zero_le _) hq) (fun v813 av813 bv813 ev813 => ?_)
    clear ev813
    refine WQ_puti dX6_load_51 fX6_9 rfl rfl (lyx_is hy 44 6 rfl) (fun I814 eI814 => ?_)
    have hI814 : XI g n L I814 := by rw [eI814]; exact (xi_f hy hI (c := 44) (-1) (0) (2) (by decide) (Or.inl (by decide)) (by decide) (by omega) (by omega))
    have e815 : I814 (ad g 1) 1 = L := by rw [eI814, pp_ne _ _ (Or.inl (lyx_ne hy (by decide) (by decide) (by decide)))]; exact e799
    have e816 : I814 (ad g 6) 4 = v804 := by rw [eI814, pp_ne _ _ (Or.inl (lyx_ne hy (by decide) (by decide) (by decide)))]; exact ev804
    have e817 : I814 (ad g 44) 0 = v813 := by rw [eI814, pp_self]
    clear eI814
    refine WP_aload_n dX6_load_54 rfl ?_
    refine WP_aload dX6_load_55 rfl ?_
    refine WP_getr dX6_load_57 fX6_33 rfl (lyx_is hy 6 7 rfl) (rfx hr 6 12 14 (by decide)) ?_
    refine WP_iload dX6_load_60 rfl ?_
    refine WQ_iald dX6_load_62 (lyx_is hy 14 13 rfl) (lyx_n hy 14 28 rfl) (by omega) (by omega) (fun q hq => BT_get hI814.1 14 0 28 (0) (0) (3) (by decide) q (Nat.zero_le _) hq) (fun v818 av818 bv818 ev818 => ?_)
    clear ev818
    refine WQ_puti dX6_load_63 fX6_36 rfl rfl (lyx_is hy 44 6 rfl) (fun I819 eI819 => ?_)
    have hI819 : XI g n L I819 := by rw [eI819]; exact (xi_f hy hI814 (c := 44) (0) (0) (3) (by decide) (Or.inl (by decide)) (by decide) (by omega) (by omega))
    have e820 : I819 (ad g 1) 1 = L := by rw [eI819, pp_ne _ _ (Or.inl (lyx_ne hy (by decide) (by decide) (by decide)))]; exact e815
    have e821 : I819 (ad g 6) 4 = v804 := by rw [eI819, pp_ne _ _ (Or.inl (lyx_ne hy (by decide) (by decide) (by decide)))]; exact e816
    have e822 : I819 (ad g 44) 0 = v813 := by rw [eI819, pp_ne _ _ (Or.inr (by decide))]; exact e817
    have e823 : I819 (ad g 44) 1 = v818 := by rw [eI819, pp_self]
    clear eI819
    refine WP_aload_n dX6_load_66 rfl ?_
    refine WP_aload dX6_load_67 rfl ?_
    refine WP_getr dX6_load_69 fX6_39 rfl (lyx_is hy 6 7 rfl) (rfx hr 6 13 15 (by decide)) ?_
    refine WP_iload dX6_load_72 rfl ?_
    refine WQ_iald dX6_load_74 (lyx_is hy 15 13 rfl) (lyx_n hy 15 28 rfl) (by omega) (by omega) (fun q hq => BT_get hI819.1 15 0 28 (0) (0) (99) (by decide) q (Nat.zero_le _) hq) (fun v824 av824 bv824 ev824 => ?_)
    clear ev824
    refine WQ_puti dX6_load_75 fX6_42 rfl rfl (lyx_is hy 44 6 rfl) (fun I825 eI825 => ?_)
    have hI825 : XI g n L I825 := by rw [eI825]; exact (xi_f hy hI819 (c := 44) (0) (0) (99) (by decide) (Or.inl (by decide)) (by decide) (by omega) (by omega))
    have e826 : I825 (ad g 1) 1 = L := by rw [eI825, pp_ne _ _ (Or.inl (lyx_ne hy (by decide) (by decide) (by decide)))]; exact e820
    have e827 : I825 (ad g 6) 4 = v804 := by rw [eI825, pp_ne _ _ (Or.inl (lyx_ne hy (by decide) (by decide) (by decide)))]; exact e821
    have e828 : I825 (ad g 44) 0 = v813 := by rw [eI825, pp_ne _ _ (Or.inr (by decide))]; exact e822
    have e829 : I825 (ad g 44) 1 = v818 := by rw [eI825, pp_ne _ _ (Or.inr (by decide))]; exact e823
    have e830 : I825 (ad g 44) 2 = v824 := by rw [eI825, pp_self]
    clear eI825
    refine WP_aload_n dX6_load_78 rfl ?_
    refine WP_aload_n dX6_load_79 rfl ?_
    refine WQ_getim dX6_load_80 fX6_9 rfl (lyx_is hy 44 6 rfl) e828 ?_
    refine WQ_iconst (-1) (-1) dX6_load_83 rfl rfl (fun v831 hv831 => ?_)
    have jn105_837 : ∀ (v837 : Int32), 0 ≤ v837.toInt → v837.toInt ≤ 20 → WP g mX6_load 105 [(0, .ref (ad g 44)), (1, .ref (ad g 5)), (2, .int so), (3, .int da), (4, .ref (ad g 6)), (5, .int v803), (6, .int v804), (7, .int v811)] [.int v837, .ref (ad g 44)] I825 J R (fun r I' J' R' => (XI g n L I' ∧ R' = R) ∧ r = none) := by
      intro v837 av837 bv837
      refine WQ_puti dX6_load_105 fX6_48 rfl rfl (lyx_is hy 44 6 rfl) (fun I839 eI839 => ?_)
      have hI839 : XI g n L I839 := by rw [eI839]; exact (xi_f hy hI825 (c := 44) (0) (0) (20) (by decide) (Or.inl (by decide)) (by decide) (by omega) (by omega))
      have e840 : I839 (ad g 1) 1 = L := by rw [eI839, pp_ne _ _ (Or.inl (lyx_ne hy (by decide) (by decide) (by decide)))]; exact e826
      have e841 : I839 (ad g 6) 4 = v804 := by rw [eI839, pp_ne _ _ (Or.inl (lyx_ne hy (by decide) (by decide) (by decide)))]; exact e827
      have e842 : I839 (ad g 44) 0 = v813 := by rw [eI839, pp_ne _ _ (Or.inr (by decide))]; exact e828
      have e843 : I839 (ad g 44) 1 = v818 := by rw [eI839, pp_ne _ _ (Or.inr (by decide))]; exact e829
      have e844 : I839 (ad g 44) 2 = v824 := by rw [eI839, pp_ne _ _ (Or.inr (by decide))]; exact e830
      have e845 : I839 (ad g 44) 3 = v837 := by rw [eI839, pp_self]
      clear eI839
      refine WP_aload_n dX6_load_108 rfl ?_
      refine WP_iload dX6_load_109 rfl ?_
      refine WQ_iconst (-1) (-1) dX6_load_111 rfl rfl (fun v846 hv846 => ?_)
      have jn131_852 : ∀ (v852 : Int32), 0 ≤ v852.toInt → v852.toInt ≤ 20 → WP g mX6_load 131 [(0, .ref (ad g 44)), (1, .ref (ad g 5)), (2, .int so), (3, .int da), (4, .ref (ad g 6)), (5, .int v803), (6, .int v804), (7, .int v811)] [.int v852, .ref (ad g 44)] I839 J R (fun r I' J' R' => (XI g n L I' ∧ R' = R) ∧ r = none) := by
        intro v852 av852 bv852
        refine WQ_puti dX6_load_131 fX6_51 rfl rfl (lyx_is hy 44 6 rfl) (fun I854 eI854 => ?_)
        have hI854 : XI g n L I854 := by rw [eI854]; exact (xi_f hy hI839 (c := 44) (0) (0) (20) (by decide) (Or.inl (by decide)) (by decide) (by omega) (by omega))
        have e855 : I854 (ad g 1) 1 = L := by rw [eI854, pp_ne _ _ (Or.inl (lyx_ne hy (by decide) (by decide) (by decide)))]; exact e840
        have e856 : I854 (ad g 6) 4 = v804 := by rw [eI854, pp_ne _ _ (Or.inl (lyx_ne hy (by decide) (by decide) (by decide)))]; exact e841
        have e857 : I854 (ad g 44) 0 = v813 := by rw [eI854, pp_ne _ _ (Or.inr (by decide))]; exact e842
        have e858 : I854 (ad g 44) 1 = v818 := by rw [eI854, pp_ne _ _ (Or.inr (by decide))]; exact e843
        have e859 : I854 (ad g 44) 2 = v824 := by rw [eI854, pp_ne _ _ (Or.inr (by decide))]; exact e844
        have e860 : I854 (ad g 44) 3 = v837 := by rw [eI854, pp_ne _ _ (Or.inr (by decide))]; exact e845
        have e861 : I854 (ad g 44) 4 = v852 := by rw [eI854, pp_self]
        clear eI854
        refine WP_aload_n dX6_load_134 rfl ?_
        refine WP_iload dX6_load_135 rfl ?_
        have jn148_863 : ∀ (v863 : Int32), 0 ≤ v863.toInt → v863.toInt ≤ 3 → WP g mX6_load 148 [(0, .ref (ad g 44)), (1, .ref (ad g 5)), (2, .int so), (3, .int da), (4, .ref (ad g 6)), (5, .int v803), (6, .int v804), (7, .int v811)] [.int v863, .ref (ad g 44)] I854 J R (fun r I' J' R' => (XI g n L I' ∧ R' = R) ∧ r = none) := by
          intro v863 av863 bv863
          refine WQ_puti dX6_load_148 fX6_54 rfl rfl (lyx_is hy 44 6 rfl) (fun I865 eI865 => ?_)
          have hI865 : XI g n L I865 := by rw [eI865]; exact (xi_f hy hI854 (c := 44) (0) (0) (3) (by decide) (Or.inl (by decide)) (by decide) (by omega) (by omega))
          have e866 : I865 (ad g 1) 1 = L := by rw [eI865, pp_ne _ _ (Or.inl (lyx_ne hy (by decide) (by decide) (by decide)))]; exact e855
          have e867 : I865 (ad g 6) 4 = v804 := by rw [eI865, pp_ne _ _ (Or.inl (lyx_ne hy (by decide) (by decide) (by decide)))]; exact e856
          have e868 : I865 (ad g 44) 0 = v813 := by rw [eI865, pp_ne _ _ (Or.inr (by decide))]; exact e857
          have e869 : I865 (ad g 44) 1 = v818 := by rw [eI865, pp_ne _ _ (Or.inr (by decide))]; exact e858
          have e870 : I865 (ad g 44) 2 = v824 := by rw [eI865, pp_ne _ _ (Or.inr (by decide))]; exact e859
          have e871 : I865 (ad g 44) 3 = v837 := by rw [eI865, pp_ne _ _ (Or.inr (by decide))]; exact e860
          have e872 : I865 (ad g 44) 4 = v852 := by rw [eI865, pp_ne _ _ (Or.inr (by decide))]; exact e861
          have e873 : I865 (ad g 44) 5 = v863 := by rw [eI865, pp_self]
          clear eI865
          refine WP_aload_n dX6_load_151 rfl ?_
          refine WP_iload dX6_load_152 rfl ?_
          have jn168_879 : ∀ (v879 : Int32), 0 ≤ v879.toInt → v879.toInt ≤ 2 → WP g mX6_load 168 [(0, .ref (ad g 44)), (1, .ref (ad g 5)), (2, .int so), (3, .int da), (4, .ref (ad g 6)), (5, .int v803), (6, .int v804), (7, .int v811)] [.int v879, .ref (ad g 44)] I865 J R (fun r I' J' R' => (XI g n L I' ∧ R' = R) ∧ r = none) := by
            intro v879 av879 bv879
            refine WQ_puti dX6_load_168 fX6_57 rfl rfl (lyx_is hy 44 6 rfl) (fun I881 eI881 => ?_)
            have hI881 : XI g n L I881 := by rw [eI881]; exact (xi_f hy hI865 (c := 44) (0) (0) (2) (by decide) (Or.inl (by decide)) (by decide) (by omega) (by omega))
            have e882 : I881 (ad g 1) 1 = L := by rw [eI881, pp_ne _ _ (Or.inl (lyx_ne hy (by decide) (by decide) (by decide)))]; exact e866
            have e883 : I881 (ad g 6) 4 = v804 := by rw [eI881, pp_ne _ _ (Or.inl (lyx_ne hy (by decide) (by decide) (by decide)))]; exact e867
            have e884 : I881 (ad g 44) 0 = v813 := by rw [eI881, pp_ne _ _ (Or.inr (by decide))]; exact e868
            have e885 : I881 (ad g 44) 1 = v818 := by rw [eI881, pp_ne _ _ (Or.inr (by decide))]; exact e869
            have e886 : I881 (ad g 44) 2 = v824 := by rw [eI881, pp_ne _ _ (Or.inr (by decide))]; exact e870
            have e887 : I881 (ad g 44) 3 = v837 := by rw [eI881, pp_ne _ _ (Or.inr (by decide))]; exact e871
            have e888 : I881 (ad g 44) 4 = v852 := by rw [eI881, pp_ne _ _ (Or.inr (by decide))]; exact e872
            have e889 : I881 (ad g 44) 5 = v863 := by rw [eI881, pp_ne _ _ (Or.inr (by decide))]; exact e873
            have e890 : I881 (ad g 44) 6 = v879 := by rw [eI881, pp_self]
            clear eI881
            refine WP_aload_n dX6_load_171 rfl ?_
            refine WP_aload_n dX6_load_172 rfl ?_
            refine WQ_getim dX6_load_173 fX6_9 rfl (lyx_is hy 44 6 rfl) e884 ?_
            refine WQ_iconst (-1) (-1) dX6_load_176 rfl rfl (fun v891 hv891 => ?_)
            have jn194_896 : ∀ (v896 : Int32), 0 ≤ v896.toInt → v896.toInt ≤ 1 → WP g mX6_load 194 [(0, .ref (ad g 44)), (1, .ref (ad g 5)), (2, .int so), (3, .int da), (4, .ref (ad g 6)), (5, .int v803), (6, .int v804), (7, .int v811)] [.int v896, .ref (ad g 44)] I881 J R (fun r I' J' R' => (XI g n L I' ∧ R' = R) ∧ r = none) := by
              intro v896 av896 bv896
              refine WQ_putz dX6_load_194 fX6_60 rfl rfl (by omega) (lyx_is hy 44 6 rfl) (fun I898 eI898 => ?_)
              have hI898 : XI g n L I898 := by rw [eI898]; exact (xi_f hy hI881 (c := 44) (0) (0) (1) (by decide) (Or.inl (by decide)) (by decide) (by omega) (by omega))
              have e899 : I898 (ad g 1) 1 = L := by rw [eI898, pp_ne _ _ (Or.inl (lyx_ne hy (by decide) (by decide) (by decide)))]; exact e882
              have e900 : I898 (ad g 6) 4 = v804 := by rw [eI898, pp_ne _ _ (Or.inl (lyx_ne hy (by decide) (by decide) (by decide)))]; exact e883
              have e901 : I898 (ad g 44) 0 = v813 := by rw [eI898, pp_ne _ _ (Or.inr (by decide))]; exact e884
              have e902 : I898 (ad g 44) 1 = v818 := by rw [eI898, pp_ne _ _ (Or.inr (by decide))]; exact e885
              have e903 : I898 (ad g 44) 2 = v824 := by rw [eI898, pp_ne _ _ (Or.inr (by decide))]; exact e886
              have e904 : I898 (ad g 44) 3 = v837 := by rw [eI898, pp_ne _ _ (Or.inr (by decide))]; exact e887
              have e905 : I898 (ad g 44) 4 = v852 := by rw [eI898, pp_ne _ _ (Or.inr (by decide))]; exact e888
              have e906 : I898 (ad g 44) 5 = v863 := by rw [eI898, pp_ne _ _ (Or.inr (by decide))]; exact e889
              have e907 : I898 (ad g 44) 6 = v879 := by rw [eI898, pp_ne _ _ (Or.inr (by decide))]; exact e890
              have e908 : I898 (ad g 44) 7 = v896 := by rw [eI898, pp_self]
              clear eI898
              refine WP_aload_n dX6_load_197 rfl ?_
              refine WP_aload_n dX6_load_198 rfl ?_
              refine WP_getr dX6_load_199 fX6_64 rfl (lyx_is hy 5 0 rfl) (rfx hr 5 2 23 (by decide)) ?_
              refine WP_iload_n dX6_load_202 rfl ?_
              refine WQ_iald dX6_load_203 (lyx_is hy 23 13 rfl) (lyx_n hy 23 7 rfl) (by omega) (by omega) (fun q hq => BT_get hI898.1 23 0 7 (0) (0) (900) (by decide) q (Nat.zero_le _) hq) (fun v909 av909 bv909 ev909 => ?_)
              clear ev909
              have jn212_912 : ∀ (v912 : Int32), 0 ≤ v912.toInt → v912.toInt ≤ 1 → WP g mX6_load 212 [(0, .ref (ad g 44)), (1, .ref (ad g 5)), (2, .int so), (3, .int da), (4, .ref (ad g 6)), (5, .int v803), (6, .int v804), (7, .int v811)] [.int v912, .ref (ad g 44)] I898 J R (fun r I' J' R' => (XI g n L I' ∧ R' = R) ∧ r = none) := by
                intro v912 av912 bv912
                refine WQ_putz dX6_load_212 fX6_67 rfl rfl (by omega) (lyx_is hy 44 6 rfl) (fun I914 eI914 => ?_)
                have hI914 : XI g n L I914 := by rw [eI914]; exact (xi_f hy hI898 (c := 44) (0) (0) (1) (by decide) (Or.inl (by decide)) (by decide) (by omega) (by omega))
                have e915 : I914 (ad g 1) 1 = L := by rw [eI914, pp_ne _ _ (Or.inl (lyx_ne hy (by decide) (by decide) (by decide)))]; exact e899
                have e916 : I914 (ad g 6) 4 = v804 := by rw [eI914, pp_ne _ _ (Or.inl (lyx_ne hy (by decide) (by decide) (by decide)))]; exact e900
                have e917 : I914 (ad g 44) 0 = v813 := by rw [eI914, pp_ne _ _ (Or.inr (by decide))]; exact e901
                have e918 : I914 (ad g 44) 1 = v818 := by rw [eI914, pp_ne _ _ (Or.inr (by decide))]; exact e902
                have e919 : I914 (ad g 44) 2 = v824 := by rw [eI914, pp_ne _ _ (Or.inr (by decide))]; exact e903
                have e920 : I914 (ad g 44) 3 = v837 := by rw [eI914, pp_ne _ _ (Or.inr (by decide))]; exact e904
                have e921 : I914 (ad g 44) 4 = v852 := by rw [eI914, pp_ne _ _ (Or.inr (by decide))]; exact e905
                have e922 : I914 (ad g 44) 5 = v863 := by rw [eI914, pp_ne _ _ (Or.inr (by decide))]; exact e906
                have e923 : I914 (ad g 44) 6 = v879 := by rw [eI914, pp_ne _ _ (Or.inr (by decide))]; exact e907
                have e924 : I914 (ad g 44) 7 = v896 := by rw [eI914, pp_ne _ _ (Or.inr (by decide))]; exact e908
                have e925 : I914 (ad g 44) 8 = v912 := by rw [eI914, pp_self]
                clear eI914
                exact WP_vret dX6_load_215 rfl ⟨⟨hI914, rfl⟩, rfl⟩
              refine WQ_if_le 211 dX6_load_204 rfl (fun c925 => ?_) (fun c925 => ?_)
              · refine WQ_iconst (0) (0) dX6_load_211 rfl rfl (fun v927 hv927 => ?_)
                exact WP_sub (fc rfl (fc rfl (fc rfl (fc rfl (fc rfl (fc rfl (fc rfl (fc rfl fn)))))))) (jn212_912 v927 (by omega) (by omega))
              · refine WQ_iconst (1) (1) dX6_load_207 rfl rfl (fun v928 hv928 => ?_)
                refine WP_goto 212 dX6_load_208 rfl ?_
                exact WP_sub (fc rfl (fc rfl (fc rfl (fc rfl (fc rfl (fc rfl (fc rfl (fc rfl fn)))))))) (jn212_912 v928 (by omega) (by omega))
            refine WQ_icmp_eq 193 dX6_load_177 rfl (fun c928 => ?_) (fun c928 => ?_)
            · refine WQ_iconst (0) (0) dX6_load_193 rfl rfl (fun v930 hv930 => ?_)
              exact WP_sub (fc rfl (fc rfl (fc rfl (fc rfl (fc rfl (fc rfl (fc rfl (fc rfl fn)))))))) (jn194_896 v930 (by omega) (by omega))
            · refine WP_aload_n dX6_load_180 rfl ?_
              refine WQ_getim dX6_load_181 fX6_9 rfl (lyx_is hy 44 6 rfl) e884 ?_
              refine WP_iload dX6_load_184 rfl ?_
              refine WQ_icmp_ne 193 dX6_load_186 rfl (fun c930 => ?_) (fun c930 => ?_)
              · refine WQ_iconst (0) (0) dX6_load_193 rfl rfl (fun v932 hv932 => ?_)
                exact WP_sub (fc rfl (fc rfl (fc rfl (fc rfl (fc rfl (fc rfl (fc rfl (fc rfl fn)))))))) (jn194_896 v932 (by omega) (by omega))
              · refine WQ_iconst (1) (1) dX6_load_189 rfl rfl (fun v933 hv933 => ?_)
                refine WP_goto 194 dX6_load_190 rfl ?_
                exact WP_sub (fc rfl (fc rfl (fc rfl (fc rfl (fc rfl (fc rfl (fc rfl (fc rfl fn)))))))) (jn194_896 v933 (by omega) (by omega))
          refine WQ_if_ne 163 dX6_load_154 rfl (fun c933 => ?_) (fun c933 => ?_)
          · refine WQ_iconst (0) (0) dX6_load_163 rfl rfl (fun v935 hv935 => ?_)
            refine WP_goto 168 dX6_load_164 rfl ?_
            exact WP_sub (fc rfl (fc rfl (fc rfl (fc rfl (fc rfl (fc rfl (fc rfl (fc rfl fn)))))))) (jn168_879 v935 (by omega) (by omega))
          · refine WP_iload dX6_load_157 rfl ?_
            refine WQ_iconst (-1) (-1) dX6_load_159 rfl rfl (fun v936 hv936 => ?_)
            refine WQ_icmp_ne 167 dX6_load_160 rfl (fun c936 => ?_) (fun c936 => ?_)
            · refine WQ_iconst (2) (2) dX6_load_167 rfl rfl (fun v938 hv938 => ?_)
              exact WP_sub (fc rfl (fc rfl (fc rfl (fc rfl (fc rfl (fc rfl (fc rfl (fc rfl fn)))))))) (jn168_879 v938 (by omega) (by omega))
            · refine WQ_iconst (0) (0) dX6_load_163 rfl rfl (fun v939 hv939 => ?_)
              refine WP_goto 168 dX6_load_164 rfl ?_
              exact WP_sub (fc rfl (fc rfl (fc rfl (fc rfl (fc rfl (fc rfl (fc rfl (fc rfl fn)))))))) (jn168_879 v939 (by omega) (by omega))
        refine WQ_if_eq 144 dX6_load_137 rfl (fun c939 => ?_) (fun c939 => ?_)
        · refine WP_aload_n dX6_load_144 rfl ?_
          refine WQ_getim dX6_load_145 fX6_36 rfl (lyx_is hy 44 6 rfl) e858 ?_
          exact WP_sub (fc rfl (fc rfl (fc rfl (fc rfl (fc rfl (fc rfl (fc rfl (fc rfl fn)))))))) (jn148_863 v818 (by omega) (by omega))
        · refine WQ_iconst (0) (0) dX6_load_140 rfl rfl (fun v941 hv941 => ?_)
          refine WP_goto 148 dX6_load_141 rfl ?_
          exact WP_sub (fc rfl (fc rfl (fc rfl (fc rfl (fc rfl (fc rfl (fc rfl (fc rfl fn)))))))) (jn148_863 v941 (by omega) (by omega))
      refine WQ_icmp_ne 119 dX6_load_112 rfl (fun c941 => ?_) (fun c941 => ?_)
      · refine WP_aload_n dX6_load_119 rfl ?_
        refine WP_getr dX6_load_120 fX6_45 rfl (lyx_is hy 5 0 rfl) (rfx hr 5 1 22 (by decide)) ?_
        refine WP_iload dX6_load_123 rfl ?_
        refine WQ_bipush (7) (7) dX6_load_125 rfl rfl (fun v943 hv943 => ?_)
        refine WQ_imulk (7) dX6_load_127 hv943 (by omega) (by omega) (fun v944 hv944 => ?_)
        refine WP_iload_n dX6_load_128 rfl ?_
        refine WQ_iadd dX6_load_129 (by omega) (by omega) (fun v945 hv945 => ?_)
        refine WQ_iald dX6_load_130 (lyx_is hy 22 13 rfl) (lyx_n hy 22 21 rfl) (by omega) (by omega) (fun q hq => BT_get hI839.1 22 0 21 (0) (0) (20) (by decide) q (Nat.zero_le _) hq) (fun v946 av946 bv946 ev946 => ?_)
        clear ev946
        exact WP_sub (fc rfl (fc rfl (fc rfl (fc rfl (fc rfl (fc rfl (fc rfl (fc rfl fn)))))))) (jn131_852 v946 (by omega) (by omega))
      · refine WQ_iconst (0) (0) dX6_load_115 rfl rfl (fun v947 hv947 => ?_)
        refine WP_goto 131 dX6_load_116 rfl ?_
        exact WP_sub (fc rfl (fc rfl (fc rfl (fc rfl (fc rfl (fc rfl (fc rfl (fc rfl fn)))))))) (jn131_852 v947 (by omega) (by omega))
    refine WQ_icmp_ne 91 dX6_load_84 rfl (fun c947 => ?_) (fun c947 => ?_)
    · refine WP_aload_n dX6_load_91 rfl ?_
      refine WP_getr dX6_load_92 fX6_45 rfl (lyx_is hy 5 0 rfl) (rfx hr 5 1 22 (by decide)) ?_
      refine WP_aload_n dX6_load_95 rfl ?_
      refine WQ_getim dX6_load_96 fX6_9 rfl (lyx_is hy 44 6 rfl) e828 ?_
      refine WQ_bipush (7) (7) dX6_load_99 rfl rfl (fun v949 hv949 => ?_)
      refine WQ_imulk (7) dX6_load_101 hv949 (by omega) (by omega) (fun v950 hv950 => ?_)
      refine WP_iload_n dX6_load_102 rfl ?_
      refine WQ_iadd dX6_load_103 (by omega) (by omega) (fun v951 hv951 => ?_)
      refine WQ_iald dX6_load_104 (lyx_is hy 22 13 rfl) (lyx_n hy 22 21 rfl) (by omega) (by omega) (fun q hq => BT_get hI825.1 22 0 21 (0) (0) (20) (by decide) q (Nat.zero_le _) hq) (fun v952 av952 bv952 ev952 => ?_)
      clear ev952
      exact WP_sub (fc rfl (fc rfl (fc rfl (fc rfl (fc rfl (fc rfl (fc rfl (fc rfl fn)))))))) (jn105_837 v952 (by omega) (by omega))
    · refine WQ_iconst (0) (0) dX6_load_87 rfl rfl (fun v953 hv953 => ?_)
      refine WP_goto 105 dX6_load_88 rfl ?_
      exact WP_sub (fc rfl (fc rfl (fc rfl (fc rfl (fc rfl (fc rfl (fc rfl (fc rfl fn)))))))) (jn105_837 v953 (by omega) (by omega))
  refine WX_if_eq 39 dX6_load_32 rfl ?_ ?_
  · refine WQ_iconst (0) (0) dX6_load_39 rfl rfl (fun v954 hv954 => ?_)
    exact WP_sub (fc rfl (fc rfl (fc rfl (fc rfl (fc rfl (fc rfl (fc rfl fn))))))) (jn40_811 v954 (by omega) (by omega))
  · refine WQ_iconst (1) (1) dX6_load_35 rfl rfl (fun v955 hv955 => ?_)
    refine WP_goto 40 dX6_load_36 rfl ?_
    exact WP_sub (fc rfl (fc rfl (fc rfl (fc rfl (fc rfl (fc rfl (fc rfl fn))))))) (jn40_811 v955 (by omega) (by omega))
set_option maxHeartbeats 4000000 in
set_option maxRecDepth 100000 in
theorem sx_load_44_27 {g : GG} {n : Int} {L : Int32} (hy : LyX g)  {I : pI} {J : pJ} {R : pR} (hr : RfX g R) (hT : R (ad g 5) 0 = some (ad g 27)) (hI : XI g n L I) (so : Int32) (da : Int32) (so_lo : 0 ≤ so.toInt) (so_hi : so.toInt ≤ 3) (da_lo : 0 ≤ da.toInt) (da_hi : da.toInt ≤ 6) : SP g mX6_load [.ref (ad g 44), .ref (ad g 5), .int so, .int da] I J R (fun r I' J' R' => (XI g n L I' ∧ R' = R) ∧ r = none) := by
  refine SP_of ⟨by decide, rfl⟩ (Nat.le_of_ble_eq_true rfl) ?_
  have e956 : I (ad g 1) 1 = L := hI.2
  have b957 := BT_get hI.1 1 1 2 (0) (0) (900) (by decide) 1 (by decide) (by decide)
  rw [e956] at b957
  refine WP_aload_n dX6_load_0 rfl ?_
  refine WP_getr dX6_load_1 fX6_15 rfl (lyx_is hy 5 0 rfl) hT ?_
  refine WP_astore (ls' := [(0, _), (1, _), (2, _), (3, _), (4, _)]) dX6_load_4 (by decide) rfl ?_
  refine WP_iload_n dX6_load_6 rfl ?_
  refine WQ_bipush (7) (7) dX6_load_7 rfl rfl (fun v958 hv958 => ?_)
  refine WQ_imulk (7) dX6_load_9 hv958 (by omega) (by omega) (fun v959 hv959 => ?_)
  refine WP_iload_n dX6_load_10 rfl ?_
  refine WQ_iadd dX6_load_11 (by omega) (by omega) (fun v960 hv960 => ?_)
  refine WP_istore (ls' := [(0, _), (1, _), (2, _), (3, _), (4, _), (5, _)]) dX6_load_12 (by decide) rfl ?_
  refine WP_aload dX6_load_14 rfl ?_
  refine WQ_geti dX6_load_16 fX6_21 rfl (lyx_is hy 27 7 rfl) (BT_get hI.1 27 4 5 (-1) (0) (2) (by decide) 4 (by decide) (by decide)) (fun v961 ev961 av961 bv961 => ?_)
  refine WP_istore (ls' := [(0, _), (1, _), (2, _), (3, _), (4, _), (5, _), (6, _)]) dX6_load_19 (by decide) rfl ?_
  refine WP_aload dX6_load_21 rfl ?_
  refine WP_getr dX6_load_23 fX6_26 rfl (lyx_is hy 27 7 rfl) (rfx hr 27 9 32 (by decide)) ?_
  refine WP_iload_n dX6_load_26 rfl ?_
  refine WQ_ialdu dX6_load_27 (lyx_is hy 32 13 rfl) (lyx_n hy 32 4 rfl) (by omega) (by omega) (fun v962 => ?_)
  refine WP_iload_n dX6_load_28 rfl ?_
  refine WQ_ishru dX6_load_29 (fun v963 => ?_)
  refine WQ_iconst (1) (1) dX6_load_30 rfl rfl (fun v964 hv964 => ?_)
  refine WQ_iandu dX6_load_31 (fun v965 => ?_)
  have jn40_968 : ∀ (v968 : Int32), 0 ≤ v968.toInt → v968.toInt ≤ 1 → WP g mX6_load 40 [(0, .ref (ad g 44)), (1, .ref (ad g 5)), (2, .int so), (3, .int da), (4, .ref (ad g 27)), (5, .int v960), (6, .int v961)] [.int v968] I J R (fun r I' J' R' => (XI g n L I' ∧ R' = R) ∧ r = none) := by
    intro v968 av968 bv968
    refine WP_istore (ls' := [(0, _), (1, _), (2, _), (3, _), (4, _), (5, _), (6, _), (7, _)]) dX6_load_40 (by decide) rfl ?_
    refine WP_aload_n dX6_load_42 rfl ?_
    refine WP_aload dX6_load_43 rfl ?_
    refine WP_getr dX6_load_45 fX6_30 rfl (lyx_is hy 27 7 rfl) (rfx hr 27 11 34 (by decide)) ?_
    refine WP_iload dX6_load_48 rfl ?_
    refine WQ_iald dX6_load_50 (lyx_is hy 34 13 rfl) (lyx_n hy 34 28 rfl) (by omega) (by omega) (fun q hq => BT_get hI.1 34 0 28 (-1) (0) (2) (by decide) q (Nat.zero_le _) hq) (fun v970 av970 bv970 ev970 => ?_)
    clear ev970
    refine WQ_puti dX6_load_51 fX6_9 rfl rfl (lyx_is hy 44 6 rfl) (fun I971 eI971 => ?_)
    have hI971 : XI g n L I971 := by rw [eI971]; exact (xi_f hy hI (c := 44) (-1) (0) (2) (by decide) (Or.inl (by decide)) (by decide) (by omega) (by omega))
    have e972 : I971 (ad g 1) 1 = L := by rw [eI971, pp_ne _ _ (Or.inl (lyx_ne hy (by decide) (by decide) (by decide)))]; exact e956
    have e973 : I971 (ad g 27) 4 = v961 := by rw [eI971, pp_ne _ _ (Or.inl (lyx_ne hy (by decide) (by decide) (by decide)))]; exact ev961
    have e974 : I971 (ad g 44) 0 = v970 := by rw [eI971, pp_self]
    clear eI971
    refine WP_aload_n dX6_load_54 rfl ?_
    refine WP_aload dX6_load_55 rfl ?_
    refine WP_getr dX6_load_57 fX6_33 rfl (lyx_is hy 27 7 rfl) (rfx hr 27 12 35 (by decide)) ?_
    refine WP_iload dX6_load_60 rfl ?_
    refine WQ_iald dX6_load_62 (lyx_is hy 35 13 rfl) (lyx_n hy 35 28 rfl) (by omega) (by omega) (fun q hq => BT_get hI971.1 35 0 28 (0) (0) (3) (by decide) q (Nat.zero_le _) hq) (fun v975 av975 bv975 ev975 => ?_)
    clear ev975
    refine WQ_puti dX6_load_63 fX6_36 rfl rfl (lyx_is hy 44 6 rfl) (fun I976 eI976 => ?_)
    have hI976 : XI g n L I976 := by rw [eI976]; exact (xi_f hy hI971 (c := 44) (0) (0) (3) (by decide) (Or.inl (by decide)) (by decide) (by omega) (by omega))
    have e977 : I976 (ad g 1) 1 = L := by rw [eI976, pp_ne _ _ (Or.inl (lyx_ne hy (by decide) (by decide) (by decide)))]; exact e972
    have e978 : I976 (ad g 27) 4 = v961 := by rw [eI976, pp_ne _ _ (Or.inl (lyx_ne hy (by decide) (by decide) (by decide)))]; exact e973
    have e979 : I976 (ad g 44) 0 = v970 := by rw [eI976, pp_ne _ _ (Or.inr (by decide))]; exact e974
    have e980 : I976 (ad g 44) 1 = v975 := by rw [eI976, pp_self]
    clear eI976
    refine WP_aload_n dX6_load_66 rfl ?_
    refine WP_aload dX6_load_67 rfl ?_
    refine WP_getr dX6_load_69 fX6_39 rfl (lyx_is hy 27 7 rfl) (rfx hr 27 13 36 (by decide)) ?_
    refine WP_iload dX6_load_72 rfl ?_
    refine WQ_iald dX6_load_74 (lyx_is hy 36 13 rfl) (lyx_n hy 36 28 rfl) (by omega) (by omega) (fun q hq => BT_get hI976.1 36 0 28 (0) (0) (99) (by decide) q (Nat.zero_le _) hq) (fun v981 av981 bv981 ev981 => ?_)
    clear ev981
    refine WQ_puti dX6_load_75 fX6_42 rfl rfl (lyx_is hy 44 6 rfl) (fun I982 eI982 => ?_)
    have hI982 : XI g n L I982 := by rw [eI982]; exact (xi_f hy hI976 (c := 44) (0) (0) (99) (by decide) (Or.inl (by decide)) (by decide) (by omega) (by omega))
    have e983 : I982 (ad g 1) 1 = L := by rw [eI982, pp_ne _ _ (Or.inl (lyx_ne hy (by decide) (by decide) (by decide)))]; exact e977
    have e984 : I982 (ad g 27) 4 = v961 := by rw [eI982, pp_ne _ _ (Or.inl (lyx_ne hy (by decide) (by decide) (by decide)))]; exact e978
    have e985 : I982 (ad g 44) 0 = v970 := by rw [eI982, pp_ne _ _ (Or.inr (by decide))]; exact e979
    have e986 : I982 (ad g 44) 1 = v975 := by rw [eI982, pp_ne _ _ (Or.inr (by decide))]; exact e980
    have e987 : I982 (ad g 44) 2 = v981 := by rw [eI982, pp_self]
    clear eI982
    refine WP_aload_n dX6_load_78 rfl ?_
    refine WP_aload_n dX6_load_79 rfl ?_
    refine WQ_getim dX6_load_80 fX6_9 rfl (lyx_is hy 44 6 rfl) e985 ?_
    refine WQ_iconst (-1) (-1) dX6_load_83 rfl rfl (fun v988 hv988 => ?_)
    have jn105_994 : ∀ (v994 : Int32), 0 ≤ v994.toInt → v994.toInt ≤ 20 → WP g mX6_load 105 [(0, .ref (ad g 44)), (1, .ref (ad g 5)), (2, .int so), (3, .int da), (4, .ref (ad g 27)), (5, .int v960), (6, .int v961), (7, .int v968)] [.int v994, .ref (ad g 44)] I982 J R (fun r I' J' R' => (XI g n L I' ∧ R' = R) ∧ r = none) := by
      intro v994 av994 bv994
      refine WQ_puti dX6_load_105 fX6_48 rfl rfl (lyx_is hy 44 6 rfl) (fun I996 eI996 => ?_)
      have hI996 : XI g n L I996 := by rw [eI996]; exact (xi_f hy hI982 (c := 44) (0) (0) (20) (by decide) (Or.inl (by decide)) (by decide) (by omega) (by omega))
      have e997 : I996 (ad g 1) 1 = L := by rw [eI996, pp_ne _ _ (Or.inl (lyx_ne hy (by decide) (by decide) (by decide)))]; exact e983
      have e998 : I996 (ad g 27) 4 = v961 := by rw [eI996, pp_ne _ _ (Or.inl (lyx_ne hy (by decide) (by decide) (by decide)))]; exact e984
      have e999 : I996 (ad g 44) 0 = v970 := by rw [eI996, pp_ne _ _ (Or.inr (by decide))]; exact e985
      have e1000 : I996 (ad g 44) 1 = v975 := by rw [eI996, pp_ne _ _ (Or.inr (by decide))]; exact e986
      have e1001 : I996 (ad g 44) 2 = v981 := by rw [eI996, pp_ne _ _ (Or.inr (by decide))]; exact e987
      have e1002 : I996 (ad g 44) 3 = v994 := by rw [eI996, pp_self]
      clear eI996
      refine WP_aload_n dX6_load_108 rfl ?_
      refine WP_iload dX6_load_109 rfl ?_
      refine WQ_iconst (-1) (-1) dX6_load_111 rfl rfl (fun v1003 hv1003 => ?_)
      have jn131_1009 : ∀ (v1009 : Int32), 0 ≤ v1009.toInt → v1009.toInt ≤ 20 → WP g mX6_load 131 [(0, .ref (ad g 44)), (1, .ref (ad g 5)), (2, .int so), (3, .int da), (4, .ref (ad g 27)), (5, .int v960), (6, .int v961), (7, .int v968)] [.int v1009, .ref (ad g 44)] I996 J R (fun r I' J' R' => (XI g n L I' ∧ R' = R) ∧ r = none) := by
        intro v1009 av1009 bv1009
        refine WQ_puti dX6_load_131 fX6_51 rfl rfl (lyx_is hy 44 6 rfl) (fun I1011 eI1011 => ?_)
        have hI1011 : XI g n L I1011 := by rw [eI1011]; exact (xi_f hy hI996 (c := 44) (0) (0) (20) (by decide) (Or.inl (by decide)) (by decide) (by omega) (by omega))
        have e1012 : I1011 (ad g 1) 1 = L := by rw [eI1011, pp_ne _ _ (Or.inl (lyx_ne hy (by decide) (by decide) (by decide)))]; exact e997
        have e1013 : I1011 (ad g 27) 4 = v961 := by rw [eI1011, pp_ne _ _ (Or.inl (lyx_ne hy (by decide) (by decide) (by decide)))]; exact e998
        have e1014 : I1011 (ad g 44) 0 = v970 := by rw [eI1011, pp_ne _ _ (Or.inr (by decide))]; exact e999
        have e1015 : I1011 (ad g 44) 1 = v975 := by rw [eI1011, pp_ne _ _ (Or.inr (by decide))]; exact e1000
        have e1016 : I1011 (ad g 44) 2 = v981 := by rw [eI1011, pp_ne _ _ (Or.inr (by decide))]; exact e1001
        have e1017 : I1011 (ad g 44) 3 = v994 := by rw [eI1011, pp_ne _ _ (Or.inr (by decide))]; exact e1002
        have e1018 : I1011 (ad g 44) 4 = v1009 := by rw [eI1011, pp_self]
        clear eI1011
        refine WP_aload_n dX6_load_134 rfl ?_
        refine WP_iload dX6_load_135 rfl ?_
        have jn148_1020 : ∀ (v1020 : Int32), 0 ≤ v1020.toInt → v1020.toInt ≤ 3 → WP g mX6_load 148 [(0, .ref (ad g 44)), (1, .ref (ad g 5)), (2, .int so), (3, .int da), (4, .ref (ad g 27)), (5, .int v960), (6, .int v961), (7, .int v968)] [.int v1020, .ref (ad g 44)] I1011 J R (fun r I' J' R' => (XI g n L I' ∧ R' = R) ∧ r = none) := by
          intro v1020 av1020 bv1020
          refine WQ_puti dX6_load_148 fX6_54 rfl rfl (lyx_is hy 44 6 rfl) (fun I1022 eI1022 => ?_)
          have hI1022 : XI g n L I1022 := by rw [eI1022]; exact (xi_f hy hI1011 (c := 44) (0) (0) (3) (by decide) (Or.inl (by decide)) (by decide) (by omega) (by omega))
          have e1023 : I1022 (ad g 1) 1 = L := by rw [eI1022, pp_ne _ _ (Or.inl (lyx_ne hy (by decide) (by decide) (by decide)))]; exact e1012
          have e1024 : I1022 (ad g 27) 4 = v961 := by rw [eI1022, pp_ne _ _ (Or.inl (lyx_ne hy (by decide) (by decide) (by decide)))]; exact e1013
          have e1025 : I1022 (ad g 44) 0 = v970 := by rw [eI1022, pp_ne _ _ (Or.inr (by decide))]; exact e1014
          have e1026 : I1022 (ad g 44) 1 = v975 := by rw [eI1022, pp_ne _ _ (Or.inr (by decide))]; exact e1015
          have e1027 : I1022 (ad g 44) 2 = v981 := by rw [eI1022, pp_ne _ _ (Or.inr (by decide))]; exact e1016
          have e1028 : I1022 (ad g 44) 3 = v994 := by rw [eI1022, pp_ne _ _ (Or.inr (by decide))]; exact e1017
          have e1029 : I1022 (ad g 44) 4 = v1009 := by rw [eI1022, pp_ne _ _ (Or.inr (by decide))]; exact e1018
          have e1030 : I1022 (ad g 44) 5 = v1020 := by rw [eI1022, pp_self]
          clear eI1022
          refine WP_aload_n dX6_load_151 rfl ?_
          refine WP_iload dX6_load_152 rfl ?_
          have jn168_1036 : ∀ (v1036 : Int32), 0 ≤ v1036.toInt → v1036.toInt ≤ 2 → WP g mX6_load 168 [(0, .ref (ad g 44)), (1, .ref (ad g 5)), (2, .int so), (3, .int da), (4, .ref (ad g 27)), (5, .int v960), (6, .int v961), (7, .int v968)] [.int v1036, .ref (ad g 44)] I1022 J R (fun r I' J' R' => (XI g n L I' ∧ R' = R) ∧ r = none) := by
            intro v1036 av1036 bv1036
            refine WQ_puti dX6_load_168 fX6_57 rfl rfl (lyx_is hy 44 6 rfl) (fun I1038 eI1038 => ?_)
            have hI1038 : XI g n L I1038 := by rw [eI1038]; exact (xi_f hy hI1022 (c := 44) (0) (0) (2) (by decide) (Or.inl (by decide)) (by decide) (by omega) (by omega))
            have e1039 : I1038 (ad g 1) 1 = L := by rw [eI1038, pp_ne _ _ (Or.inl (lyx_ne hy (by decide) (by decide) (by decide)))]; exact e1023
            have e1040 : I1038 (ad g 27) 4 = v961 := by rw [eI1038, pp_ne _ _ (Or.inl (lyx_ne hy (by decide) (by decide) (by decide)))]; exact e1024
            have e1041 : I1038 (ad g 44) 0 = v970 := by rw [eI1038, pp_ne _ _ (Or.inr (by decide))]; exact e1025
            have e1042 : I1038 (ad g 44) 1 = v975 := by rw [eI1038, pp_ne _ _ (Or.inr (by decide))]; exact e1026
            have e1043 : I1038 (ad g 44) 2 = v981 := by rw [eI1038, pp_ne _ _ (Or.inr (by decide))]; exact e1027
            have e1044 : I1038 (ad g 44) 3 = v994 := by rw [eI1038, pp_ne _ _ (Or.inr (by decide))]; exact e1028
            have e1045 : I1038 (ad g 44) 4 = v1009 := by rw [eI1038, pp_ne _ _ (Or.inr (by decide))]; exact e1029
            have e1046 : I1038 (ad g 44) 5 = v1020 := by rw [eI1038, pp_ne _ _ (Or.inr (by decide))]; exact e1030
            have e1047 : I1038 (ad g 44) 6 = v1036 := by rw [eI1038, pp_self]
            clear eI1038
            refine WP_aload_n dX6_load_171 rfl ?_
            refine WP_aload_n dX6_load_172 rfl ?_
            refine WQ_getim dX6_load_173 fX6_9 rfl (lyx_is hy 44 6 rfl) e1041 ?_
            refine WQ_iconst (-1) (-1) dX6_load_176 rfl rfl (fun v1048 hv1048 => ?_)
            have jn194_1053 : ∀ (v1053 : Int32), 0 ≤ v1053.toInt → v1053.toInt ≤ 1 → WP g mX6_load 194 [(0, .ref (ad g 44)), (1, .ref (ad g 5)), (2, .int so), (3, .int da), (4, .ref (ad g 27)), (5, .int v960), (6, .int v961), (7, .int v968)] [.int v1053, .ref (ad g 44)] I1038 J R (fun r I' J' R' => (XI g n L I' ∧ R' = R) ∧ r = none) := by
              intro v1053 av1053 bv1053
              refine WQ_putz dX6_load_194 fX6_60 rfl rfl (by omega) (lyx_is hy 44 6 rfl) (fun I1055 eI1055 => ?_)
              have hI1055 : XI g n L I1055 := by rw [eI1055]; exact (xi_f hy hI1038 (c := 44) (0) (0) (1) (by decide) (Or.inl (by decide)) (by decide) (by omega) (by omega))
              have e1056 : I1055 (ad g 1) 1 = L := by rw [eI1055, pp_ne _ _ (Or.inl (lyx_ne hy (by decide) (by decide) (by decide)))]; exact e1039
              have e1057 : I1055 (ad g 27) 4 = v961 := by rw [eI1055, pp_ne _ _ (Or.inl (lyx_ne hy (by decide) (by decide) (by decide)))]; exact e1040
              have e1058 : I1055 (ad g 44) 0 = v970 := by rw [eI1055, pp_ne _ _ (Or.inr (by decide))]; exact e1041
              have e1059 : I1055 (ad g 44) 1 = v975 := by rw [eI1055, pp_ne _ _ (Or.inr (by decide))]; exact e1042
              have e1060 : I1055 (ad g 44) 2 = v981 := by rw [eI1055, pp_ne _ _ (Or.inr (by decide))]; exact e1043
              have e1061 : I1055 (ad g 44) 3 = v994 := by rw [eI1055, pp_ne _ _ (Or.inr (by decide))]; exact e1044
              have e1062 : I1055 (ad g 44) 4 = v1009 := by rw [eI1055, pp_ne _ _ (Or.inr (by decide))]; exact e1045
              have e1063 : I1055 (ad g 44) 5 = v1020 := by rw [eI1055, pp_ne _ _ (Or.inr (by decide))]; exact e1046
              have e1064 : I1055 (ad g 44) 6 = v1036 := by rw [eI1055, pp_ne _ _ (Or.inr (by decide))]; exact e1047
              have e1065 : I1055 (ad g 44) 7 = v1053 := by rw [eI1055, pp_self]
              clear eI1055
              refine WP_aload_n dX6_load_197 rfl ?_
              refine WP_aload_n dX6_load_198 rfl ?_
              refine WP_getr dX6_load_199 fX6_64 rfl (lyx_is hy 5 0 rfl) (rfx hr 5 2 23 (by decide)) ?_
              refine WP_iload_n dX6_load_202 rfl ?_
              refine WQ_iald dX6_load_203 (lyx_is hy 23 13 rfl) (lyx_n hy 23 7 rfl) (by omega) (by omega) (fun q hq => BT_get hI1055.1 23 0 7 (0) (0) (900) (by decide) q (Nat.zero_le _) hq) (fun v1066 av1066 bv1066 ev1066 => ?_)
              clear ev1066
              have jn212_1069 : ∀ (v1069 : Int32), 0 ≤ v1069.toInt → v1069.toInt ≤ 1 → WP g mX6_load 212 [(0, .ref (ad g 44)), (1, .ref (ad g 5)), (2, .int so), (3, .int da), (4, .ref (ad g 27)), (5, .int v960), (6, .int v961), (7, .int v968)] [.int v1069, .ref (ad g 44)] I1055 J R (fun r I' J' R' => (XI g n L I' ∧ R' = R) ∧ r = none) := by
                intro v1069 av1069 bv1069
                refine WQ_putz dX6_load_212 fX6_67 rfl rfl (by omega) (lyx_is hy 44 6 rfl) (fun I1071 eI1071 => ?_)
                have hI1071 : XI g n L I1071 := by rw [eI1071]; exact (xi_f hy hI1055 (c := 44) (0) (0) (1) (by decide) (Or.inl (by decide)) (by decide) (by omega) (by omega))
                have e1072 : I1071 (ad g 1) 1 = L := by rw [eI1071, pp_ne _ _ (Or.inl (lyx_ne hy (by decide) (by decide) (by decide)))]; exact e1056
                have e1073 : I1071 (ad g 27) 4 = v961 := by rw [eI1071, pp_ne _ _ (Or.inl (lyx_ne hy (by decide) (by decide) (by decide)))]; exact e1057
                have e1074 : I1071 (ad g 44) 0 = v970 := by rw [eI1071, pp_ne _ _ (Or.inr (by decide))]; exact e1058
                have e1075 : I1071 (ad g 44) 1 = v975 := by rw [eI1071, pp_ne _ _ (Or.inr (by decide))]; exact e1059
                have e1076 : I1071 (ad g 44) 2 = v981 := by rw [eI1071, pp_ne _ _ (Or.inr (by decide))]; exact e1060
                have e1077 : I1071 (ad g 44) 3 = v994 := by rw [eI1071, pp_ne _ _ (Or.inr (by decide))]; exact e1061
                have e1078 : I1071 (ad g 44) 4 = v1009 := by rw [eI1071, pp_ne _ _ (Or.inr (by decide))]; exact e1062
                have e1079 : I1071 (ad g 44) 5 = v1020 := by rw [eI1071, pp_ne _ _ (Or.inr (by decide))]; exact e1063
                have e1080 : I1071 (ad g 44) 6 = v1036 := by rw [eI1071, pp_ne _ _ (Or.inr (by decide))]; exact e1064
                have e1081 : I1071 (ad g 44) 7 = v1053 := by rw [eI1071, pp_ne _ _ (Or.inr (by decide))]; exact e1065
                have e1082 : I1071 (ad g 44) 8 = v1069 := by rw [eI1071, pp_self]
                clear eI1071
                exact WP_vret dX6_load_215 rfl ⟨⟨hI1071, rfl⟩, rfl⟩
              refine WQ_if_le 211 dX6_load_204 rfl (fun c1082 => ?_) (fun c1082 => ?_)
              · refine WQ_iconst (0) (0) dX6_load_211 rfl rfl (fun v1084 hv1084 => ?_)
                exact WP_sub (fc rfl (fc rfl (fc rfl (fc rfl (fc rfl (fc rfl (fc rfl (fc rfl fn)))))))) (jn212_1069 v1084 (by omega) (by omega))
              · refine WQ_iconst (1) (1) dX6_load_207 rfl rfl (fun v1085 hv1085 => ?_)
                refine WP_goto 212 dX6_load_208 rfl ?_
                exact WP_sub (fc rfl (fc rfl (fc rfl (fc rfl (fc rfl (fc rfl (fc rfl (fc rfl fn)))))))) (jn212_1069 v1085 (by omega) (by omega))
            refine WQ_icmp_eq 193 dX6_load_177 rfl (fun c1085 => ?_) (fun c1085 => ?_)
            · refine WQ_iconst (0) (0) dX6_load_193 rfl rfl (fun v1087 hv1087 => ?_)
              exact WP_sub (fc rfl (fc rfl (fc rfl (fc rfl (fc rfl (fc rfl (fc rfl (fc rfl fn)))))))) (jn194_1053 v1087 (by omega) (by omega))
            · refine WP_aload_n dX6_load_180 rfl ?_
              refine WQ_getim dX6_load_181 fX6_9 rfl (lyx_is hy 44 6 rfl) e1041 ?_
              refine WP_iload dX6_load_184 rfl ?_
              refine WQ_icmp_ne 193 dX6_load_186 rfl (fun c1087 => ?_) (fun c1087 => ?_)
              · refine WQ_iconst (0) (0) dX6_load_193 rfl rfl (fun v1089 hv1089 => ?_)
                exact WP_sub (fc rfl (fc rfl (fc rfl (fc rfl (fc rfl (fc rfl (fc rfl (fc rfl fn)))))))) (jn194_1053 v1089 (by omega) (by omega))
              · refine WQ_iconst (1) (1) dX6_load_189 rfl rfl (fun v1090 hv1090 => ?_)
                refine WP_goto 194 dX6_load_190 rfl ?_
                exact WP_sub (fc rfl (fc rfl (fc rfl (fc rfl (fc rfl (fc rfl (fc rfl (fc rfl fn)))))))) (jn194_1053 v1090 (by omega) (by omega))
          refine WQ_if_ne 163 dX6_load_154 rfl (fun c1090 => ?_) (fun c1090 => ?_)
          · refine WQ_iconst (0) (0) dX6_load_163 rfl rfl (fun v1092 hv1092 => ?_)
            refine WP_goto 168 dX6_load_164 rfl ?_
            exact WP_sub (fc rfl (fc rfl (fc rfl (fc rfl (fc rfl (fc rfl (fc rfl (fc rfl fn)))))))) (jn168_1036 v1092 (by omega) (by omega))
          · refine WP_iload dX6_load_157 rfl ?_
            refine WQ_iconst (-1) (-1) dX6_load_159 rfl rfl (fun v1093 hv1093 => ?_)
            refine WQ_icmp_ne 167 dX6_load_160 rfl (fun c1093 => ?_) (fun c1093 => ?_)
            · refine WQ_iconst (2) (2) dX6_load_167 rfl rfl (fun v1095 hv1095 => ?_)
              exact WP_sub (fc rfl (fc rfl (fc rfl (fc rfl (fc rfl (fc rfl (fc rfl (fc rfl fn)))))))) (jn168_1036 v1095 (by omega) (by omega))
            · refine WQ_iconst (0) (0) dX6_load_163 rfl rfl (fun v1096 hv1096 => ?_)
              refine WP_goto 168 dX6_load_164 rfl ?_
              exact WP_sub (fc rfl (fc rfl (fc rfl (fc rfl (fc rfl (fc rfl (fc rfl (fc rfl fn)))))))) (jn168_1036 v1096 (by omega) (by omega))
        refine WQ_if_eq 144 dX6_load_137 rfl (fun c1096 => ?_) (fun c1096 => ?_)
        · refine WP_aload_n dX6_load_144 rfl ?_
          refine WQ_getim dX6_load_145 fX6_36 rfl (lyx_is hy 44 6 rfl) e1015 ?_
          exact WP_sub (fc rfl (fc rfl (fc rfl (fc rfl (fc rfl (fc rfl (fc rfl (fc rfl fn)))))))) (jn148_1020 v975 (by omega) (by omega))
        · refine WQ_iconst (0) (0) dX6_load_140 rfl rfl (fun v1098 hv1098 => ?_)
          refine WP_goto 148 dX6_load_141 rfl ?_
          exact WP_sub (fc rfl (fc rfl (fc rfl (fc rfl (fc rfl (fc rfl (fc rfl (fc rfl fn)))))))) (jn148_1020 v1098 (by omega) (by omega))
      refine WQ_icmp_ne 119 dX6_load_112 rfl (fun c1098 => ?_) (fun c1098 => ?_)
      · refine WP_aload_n dX6_load_119 rfl ?_
        refine WP_getr dX6_load_120 fX6_45 rfl (lyx_is hy 5 0 rfl) (rfx hr 5 1 22 (by decide)) ?_
        refine WP_iload dX6_load_123 rfl ?_
        refine WQ_bipush (7) (7) dX6_load_125 rfl rfl (fun v1100 hv1100 => ?_)
        refine WQ_imulk (7) dX6_load_127 hv1100 (by omega) (by omega) (fun v1101 hv1101 => ?_)
        refine WP_iload_n dX6_load_128 rfl ?_
        refine WQ_iadd dX6_load_129 (by omega) (by omega) (fun v1102 hv1102 => ?_)
        refine WQ_iald dX6_load_130 (lyx_is hy 22 13 rfl) (lyx_n hy 22 21 rfl) (by omega) (by omega) (fun q hq => BT_get hI996.1 22 0 21 (0) (0) (20) (by decide) q (Nat.zero_le _) hq) (fun v1103 av1103 bv1103 ev1103 => ?_)
        clear ev1103
        exact WP_sub (fc rfl (fc rfl (fc rfl (fc rfl (fc rfl (fc rfl (fc rfl (fc rfl fn)))))))) (jn131_1009 v1103 (by omega) (by omega))
      · refine WQ_iconst (0) (0) dX6_load_115 rfl rfl (fun v1104 hv1104 => ?_)
        refine WP_goto 131 dX6_load_116 rfl ?_
        exact WP_sub (fc rfl (fc rfl (fc rfl (fc rfl (fc rfl (fc rfl (fc rfl (fc rfl fn)))))))) (jn131_1009 v1104 (by omega) (by omega))
    refine WQ_icmp_ne 91 dX6_load_84 rfl (fun c1104 => ?_) (fun c1104 => ?_)
    · refine WP_aload_n dX6_load_91 rfl ?_
      refine WP_getr dX6_load_92 fX6_45 rfl (lyx_is hy 5 0 rfl) (rfx hr 5 1 22 (by decide)) ?_
      refine WP_aload_n dX6_load_95 rfl ?_
      refine WQ_getim dX6_load_96 fX6_9 rfl (lyx_is hy 44 6 rfl) e985 ?_
      refine WQ_bipush (7) (7) dX6_load_99 rfl rfl (fun v1106 hv1106 => ?_)
      refine WQ_imulk (7) dX6_load_101 hv1106 (by omega) (by omega) (fun v1107 hv1107 => ?_)
      refine WP_iload_n dX6_load_102 rfl ?_
      refine WQ_iadd dX6_load_103 (by omega) (by omega) (fun v1108 hv1108 => ?_)
      refine WQ_iald dX6_load_104 (lyx_is hy 22 13 rfl) (lyx_n hy 22 21 rfl) (by omega) (by omega) (fun q hq => BT_get hI982.1 22 0 21 (0) (0) (20) (by decide) q (Nat.zero_le _) hq) (fun v1109 av1109 bv1109 ev1109 => ?_)
      clear ev1109
      exact WP_sub (fc rfl (fc rfl (fc rfl (fc rfl (fc rfl (fc rfl (fc rfl (fc rfl fn)))))))) (jn105_994 v1109 (by omega) (by omega))
    · refine WQ_iconst (0) (0) dX6_load_87 rfl rfl (fun v1110 hv1110 => ?_)
      refine WP_goto 105 dX6_load_88 rfl ?_
      exact WP_sub (fc rfl (fc rfl (fc rfl (fc rfl (fc rfl (fc rfl (fc rfl (fc rfl fn)))))))) (jn105_994 v1110 (by omega) (by omega))
  refine WX_if_eq 39 dX6_load_32 rfl ?_ ?_
  · refine WQ_iconst (0) (0) dX6_load_39 rfl rfl (fun v1111 hv1111 => ?_)
    exact WP_sub (fc rfl (fc rfl (fc rfl (fc rfl (fc rfl (fc rfl (fc rfl fn))))))) (jn40_968 v1111 (by omega) (by omega))
  · refine WQ_iconst (1) (1) dX6_load_35 rfl rfl (fun v1112 hv1112 => ?_)
    refine WP_goto 40 dX6_load_36 rfl ?_
    exact WP_sub (fc rfl (fc rfl (fc rfl (fc rfl (fc rfl (fc rfl (fc rfl fn))))))) (jn40_968 v1112 (by omega) (by omega))
set_option maxHeartbeats 4000000 in
set_option maxRecDepth 100000 in
theorem sx_mostFromStore_50 {g : GG} {n : Int} {L : Int32} (hy : LyX g)  {I : pI} {J : pJ} {R : pR} (hr : RfX g R) (hI : XI g n L I) (st : Int32) (st_lo : 0 ≤ st.toInt) (st_hi : st.toInt ≤ 5) : SP g mX6_mostFromStore [.ref (ad g 50), .int st] I J R (fun r I' J' R' => (I' = I ∧ J' = J ∧ R' = R) ∧ ∃ v : Int32, r = some (.int v) ∧ 0 ≤ v.toInt ∧ v.toInt ≤ 3 ∧ v.toInt ≤ st.toInt) := by
  refine SP_of ⟨by decide, rfl⟩ (Nat.le_of_ble_eq_true rfl) ?_
  have e1113 : I (ad g 1) 1 = L := hI.2
  have b1114 := BT_get hI.1 1 1 2 (0) (0) (900) (by decide) 1 (by decide) (by decide)
  rw [e1113] at b1114
  refine WP_aload_n dX6_mostFromStore_0 rfl ?_
  refine WQ_geti dX6_mostFromStore_1 fX6_60 rfl (lyx_is hy 50 6 rfl) (BT_get hI.1 50 7 8 (0) (0) (1) (by decide) 7 (by decide) (by decide)) (fun v1115 ev1115 av1115 bv1115 => ?_)
  refine WQ_if_ne 11 dX6_mostFromStore_4 rfl (fun c1115 => ?_) (fun c1115 => ?_)
  · refine WP_iload_n dX6_mostFromStore_11 rfl ?_
    refine WP_aload_n dX6_mostFromStore_12 rfl ?_
    refine WQ_geti dX6_mostFromStore_13 fX6_36 rfl (lyx_is hy 50 6 rfl) (BT_get hI.1 50 1 2 (0) (0) (3) (by decide) 1 (by decide) (by decide)) (fun v1117 ev1117 av1117 bv1117 => ?_)
    refine WQ_icmp_ge 23 dX6_mostFromStore_16 rfl (fun c1117 => ?_) (fun c1117 => ?_)
    · refine WP_aload_n dX6_mostFromStore_23 rfl ?_
      refine WQ_getim dX6_mostFromStore_24 fX6_36 rfl (lyx_is hy 50 6 rfl) ev1117 ?_
      exact WP_iret dX6_mostFromStore_27 rfl ⟨⟨rfl, rfl, rfl⟩, _, rfl, by omega, by omega, by omega⟩
    · refine WP_iload_n dX6_mostFromStore_19 rfl ?_
      refine WP_goto 27 dX6_mostFromStore_20 rfl ?_
      exact WP_iret dX6_mostFromStore_27 rfl ⟨⟨rfl, rfl, rfl⟩, _, rfl, by omega, by omega, by omega⟩
  · refine WQ_iconst (0) (0) dX6_mostFromStore_7 rfl rfl (fun v1119 hv1119 => ?_)
    refine WP_goto 27 dX6_mostFromStore_8 rfl ?_
    exact WP_iret dX6_mostFromStore_27 rfl ⟨⟨rfl, rfl, rfl⟩, _, rfl, by omega, by omega, by omega⟩
set_option maxHeartbeats 4000000 in
set_option maxRecDepth 100000 in
theorem sx_priceOf_50 {g : GG} {n : Int} {L : Int32} (hy : LyX g)  {I : pI} {J : pJ} {R : pR} (hr : RfX g R) (hI : XI g n L I) (ea : Int32) (so : Int32) (ea_lo : 0 ≤ ea.toInt) (ea_hi : ea.toInt ≤ 3) (so_lo : 0 ≤ so.toInt) (so_hi : so.toInt ≤ 3) : SP g mX6_priceOf [.ref (ad g 50), .int ea, .int so] I J R (fun r I' J' R' => (I' = I ∧ J' = J ∧ R' = R) ∧ ∃ v : Int32, r = some (.int v) ∧ 0 ≤ v.toInt ∧ v.toInt ≤ 120) := by
  refine SP_of ⟨by decide, rfl⟩ (Nat.le_of_ble_eq_true rfl) ?_
  have e1120 : I (ad g 1) 1 = L := hI.2
  have b1121 := BT_get hI.1 1 1 2 (0) (0) (900) (by decide) 1 (by decide) (by decide)
  rw [e1120] at b1121
  refine WP_iload_n dX6_priceOf_0 rfl ?_
  refine WP_aload_n dX6_priceOf_1 rfl ?_
  refine WQ_geti dX6_priceOf_2 fX6_48 rfl (lyx_is hy 50 6 rfl) (BT_get hI.1 50 3 4 (0) (0) (20) (by decide) 3 (by decide) (by decide)) (fun v1122 ev1122 av1122 bv1122 => ?_)
  refine WQ_imulb (3) (20) dX6_priceOf_5 ⟨by omega, by omega⟩ ⟨by omega, by omega⟩ (by decide) (fun v1123 pv1123 av1123 bv1123 cv1123 => ?_)
  refine WP_iload_n dX6_priceOf_6 rfl ?_
  refine WP_aload_n dX6_priceOf_7 rfl ?_
  refine WQ_geti dX6_priceOf_8 fX6_51 rfl (lyx_is hy 50 6 rfl) (BT_get hI.1 50 4 5 (0) (0) (20) (by decide) 4 (by decide) (by decide)) (fun v1124 ev1124 av1124 bv1124 => ?_)
  refine WQ_imulb (3) (20) dX6_priceOf_11 ⟨by omega, by omega⟩ ⟨by omega, by omega⟩ (by decide) (fun v1125 pv1125 av1125 bv1125 cv1125 => ?_)
  refine WQ_iadd dX6_priceOf_12 (by omega) (by omega) (fun v1126 hv1126 => ?_)
  exact WP_iret dX6_priceOf_13 rfl ⟨⟨rfl, rfl, rfl⟩, _, rfl, by omega, by omega⟩
set_option maxHeartbeats 4000000 in
set_option maxRecDepth 100000 in
theorem sx_load_50_6 {g : GG} {n : Int} {L : Int32} (hy : LyX g)  {I : pI} {J : pJ} {R : pR} (hr : RfX g R) (hT : R (ad g 5) 0 = some (ad g 6)) (hI : XI g n L I) (so : Int32) (da : Int32) (so_lo : 0 ≤ so.toInt) (so_hi : so.toInt ≤ 3) (da_lo : 0 ≤ da.toInt) (da_hi : da.toInt ≤ 6) : SP g mX6_load [.ref (ad g 50), .ref (ad g 5), .int so, .int da] I J R (fun r I' J' R' => (XI g n L I' ∧ R' = R) ∧ r = none) := by
  refine SP_of ⟨by decide, rfl⟩ (Nat.le_of_ble_eq_true rfl) ?_
  have e1127 : I (ad g 1) 1 = L := hI.2
  have b1128 := BT_get hI.1 1 1 2 (0) (0) (900) (by decide) 1 (by decide) (by decide)
  rw [e1127] at b1128
  refine WP_aload_n dX6_load_0 rfl ?_
  refine WP_getr dX6_load_1 fX6_15 rfl (lyx_is hy 5 0 rfl) hT ?_
  refine WP_astore (ls' := [(0, _), (1, _), (2, _), (3, _), (4, _)]) dX6_load_4 (by decide) rfl ?_
  refine WP_iload_n dX6_load_6 rfl ?_
  refine WQ_bipush (7) (7) dX6_load_7 rfl rfl (fun v1129 hv1129 => ?_)
  refine WQ_imulk (7) dX6_load_9 hv1129 (by omega) (by omega) (fun v1130 hv1130 => ?_)
  refine WP_iload_n dX6_load_10 rfl ?_
  refine WQ_iadd dX6_load_11 (by omega) (by omega) (fun v1131 hv1131 => ?_)
  refine WP_istore (ls' := [(0, _), (1, _), (2, _), (3, _), (4, _), (5, _)]) dX6_load_12 (by decide) rfl ?_
  refine WP_aload dX6_load_14 rfl ?_
  refine WQ_geti dX6_load_16 fX6_21 rfl (lyx_is hy 6 7 rfl) (BT_get hI.1 6 4 5 (-1) (0) (2) (by decide) 4 (by decide) (by decide)) (fun v1132 ev1132 av1132 bv1132 => ?_)
  refine WP_istore (ls' := [(0, _), (1, _), (2, _), (3, _), (4, _), (5, _), (6, _)]) dX6_load_19 (by decide) rfl ?_
  refine WP_aload dX6_load_21 rfl ?_
  refine WP_getr dX6_load_23 fX6_26 rfl (lyx_is hy 6 7 rfl) (rfx hr 6 9 11 (by decide)) ?_
  refine WP_iload_n dX6_load_26 rfl ?_
  refine WQ_ialdu dX6_load_27 (lyx_is hy 11 13 rfl) (lyx_n hy 11 4 rfl) (by omega) (by omega) (fun v1133 => ?_)
  refine WP_iload_n dX6_load_28 rfl ?_
  refine WQ_ishru dX6_load_29 (fun v1134 => ?_)
  refine WQ_iconst (1) (1) dX6_load_30 rfl rfl (fun v1135 hv1135 => ?_)
  refine WQ_iandu dX6_load_31 (fun v1136 => ?_)
  have jn40_1139 : ∀ (v1139 : Int32), 0 ≤ v1139.toInt → v1139.toInt ≤ 1 → WP g mX6_load 40 [(0, .ref (ad g 50)), (1, .ref (ad g 5)), (2, .int so), (3, .int da), (4, .ref (ad g 6)), (5, .int v1131), (6, .int v1132)] [.int v1139] I J R (fun r I' J' R' => (XI g n L I' ∧ R' = R) ∧ r = none) := by
    intro v1139 av1139 bv1139
    refine WP_istore (ls' := [(0, _), (1, _), (2, _), (3, _), (4, _), (5, _), (6, _), (7, _)]) dX6_load_40 (by decide) rfl ?_
    refine WP_aload_n dX6_load_42 rfl ?_
    refine WP_aload dX6_load_43 rfl ?_
    refine WP_getr dX6_load_45 fX6_30 rfl (lyx_is hy 6 7 rfl) (rfx hr 6 11 13 (by decide)) ?_
    refine WP_iload dX6_load_48 rfl ?_
    refine WQ_iald dX6_load_50 (lyx_is hy 13 13 rfl) (lyx_n hy 13 28 rfl) (by omega) (by omega) (fun q hq => BT_get hI.1 13 0 28 (-1) (0) (2) (by decide) q (Nat.zero_le _) hq) (fun v1141 av1141 bv1141 ev1141 => ?_)
    clear ev1141
    refine WQ_puti dX6_load_51 fX6_9 rfl rfl (lyx_is hy 50 6 rfl) (fun I1142 eI1142 => ?_)
    have hI1142 : XI g n L I1142 := by rw [eI1142]; exact (xi_f hy hI (c := 50) (-1) (0) (2) (by decide) (Or.inl (by decide)) (by decide) (by omega) (by omega))
    have e1143 : I1142 (ad g 1) 1 = L := by rw [eI1142, pp_ne _ _ (Or.inl (lyx_ne hy (by decide) (by decide) (by decide)))]; exact e1127
    have e1144 : I1142 (ad g 6) 4 = v1132 := by rw [eI1142, pp_ne _ _ (Or.inl (lyx_ne hy (by decide) (by decide) (by decide)))]; exact ev1132
    have e1145 : I1142 (ad g 50) 0 = v1141 := by rw [eI1142, pp_self]
    clear eI1142
    refine WP_aload_n dX6_load_54 rfl ?_
    refine WP_aload dX6_load_55 rfl ?_
    refine WP_getr dX6_load_57 fX6_33 rfl (lyx_is hy 6 7 rfl) (rfx hr 6 12 14 (by decide)) ?_
    refine WP_iload dX6_load_60 rfl ?_
    refine WQ_iald dX6_load_62 (lyx_is hy 14 13 rfl) (lyx_n hy 14 28 rfl) (by omega) (by omega) (fun q hq => BT_get hI1142.1 14 0 28 (0) (0) (3) (by decide) q (Nat.zero_le _) hq) (fun v1146 av1146 bv1146 ev1146 => ?_)
    clear ev1146
    refine WQ_puti dX6_load_63 fX6_36 rfl rfl (lyx_is hy 50 6 rfl) (fun I1147 eI1147 => ?_)
    have hI1147 : XI g n L I1147 := by rw [eI1147]; exact (xi_f hy hI1142 (c := 50) (0) (0) (3) (by decide) (Or.inl (by decide)) (by decide) (by omega) (by omega))
    have e1148 : I1147 (ad g 1) 1 = L := by rw [eI1147, pp_ne _ _ (Or.inl (lyx_ne hy (by decide) (by decide) (by decide)))]; exact e1143
    have e1149 : I1147 (ad g 6) 4 = v1132 := by rw [eI1147, pp_ne _ _ (Or.inl (lyx_ne hy (by decide) (by decide) (by decide)))]; exact e1144
    have e1150 : I1147 (ad g 50) 0 = v1141 := by rw [eI1147, pp_ne _ _ (Or.inr (by decide))]; exact e1145
    have e1151 : I1147 (ad g 50) 1 = v1146 := by rw [eI1147, pp_self]
    clear eI1147
    refine WP_aload_n dX6_load_66 rfl ?_
    refine WP_aload dX6_load_67 rfl ?_
    refine WP_getr dX6_load_69 fX6_39 rfl (lyx_is hy 6 7 rfl) (rfx hr 6 13 15 (by decide)) ?_
    refine WP_iload dX6_load_72 rfl ?_
    refine WQ_iald dX6_load_74 (lyx_is hy 15 13 rfl) (lyx_n hy 15 28 rfl) (by omega) (by omega) (fun q hq => BT_get hI1147.1 15 0 28 (0) (0) (99) (by decide) q (Nat.zero_le _) hq) (fun v1152 av1152 bv1152 ev1152 => ?_)
    clear ev1152
    refine WQ_puti dX6_load_75 fX6_42 rfl rfl (lyx_is hy 50 6 rfl) (fun I1153 eI1153 => ?_)
    have hI1153 : XI g n L I1153 := by rw [eI1153]; exact (xi_f hy hI1147 (c := 50) (0) (0) (99) (by decide) (Or.inl (by decide)) (by decide) (by omega) (by omega))
    have e1154 : I1153 (ad g 1) 1 = L := by rw [eI1153, pp_ne _ _ (Or.inl (lyx_ne hy (by decide) (by decide) (by decide)))]; exact e1148
    have e1155 : I1153 (ad g 6) 4 = v1132 := by rw [eI1153, pp_ne _ _ (Or.inl (lyx_ne hy (by decide) (by decide) (by decide)))]; exact e1149
    have e1156 : I1153 (ad g 50) 0 = v1141 := by rw [eI1153, pp_ne _ _ (Or.inr (by decide))]; exact e1150
    have e1157 : I1153 (ad g 50) 1 = v1146 := by rw [eI1153, pp_ne _ _ (Or.inr (by decide))]; exact e1151
    have e1158 : I1153 (ad g 50) 2 = v1152 := by rw [eI1153, pp_self]
    clear eI1153
    refine WP_aload_n dX6_load_78 rfl ?_
    refine WP_aload_n dX6_load_79 rfl ?_
    refine WQ_getim dX6_load_80 fX6_9 rfl (lyx_is hy 50 6 rfl) e1156 ?_
    refine WQ_iconst (-1) (-1) dX6_load_83 rfl rfl (fun v1159 hv1159 => ?_)
    have jn105_1165 : ∀ (v1165 : Int32), 0 ≤ v1165.toInt → v1165.toInt ≤ 20 → WP g mX6_load 105 [(0, .ref (ad g 50)), (1, .ref (ad g 5)), (2, .int so), (3, .int da), (4, .ref (ad g 6)), (5, .int v1131), (6, .int v1132), (7, .int v1139)] [.int v1165, .ref (ad g 50)] I1153 J R (fun r I' J' R' => (XI g n L I' ∧ R' = R) ∧ r = none) := by
      intro v1165 av1165 bv1165
      refine WQ_puti dX6_load_105 fX6_48 rfl rfl (lyx_is hy 50 6 rfl) (fun I1167 eI1167 => ?_)
      have hI1167 : XI g n L I1167 := by rw [eI1167]; exact (xi_f hy hI1153 (c := 50) (0) (0) (20) (by decide) (Or.inl (by decide)) (by decide) (by omega) (by omega))
      have e1168 : I1167 (ad g 1) 1 = L := by rw [eI1167, pp_ne _ _ (Or.inl (lyx_ne hy (by decide) (by decide) (by decide)))]; exact e1154
      have e1169 : I1167 (ad g 6) 4 = v1132 := by rw [eI1167, pp_ne _ _ (Or.inl (lyx_ne hy (by decide) (by decide) (by decide)))]; exact e1155
      have e1170 : I1167 (ad g 50) 0 = v1141 := by rw [eI1167, pp_ne _ _ (Or.inr (by decide))]; exact e1156
      have e1171 : I1167 (ad g 50) 1 = v1146 := by rw [eI1167, pp_ne _ _ (Or.inr (by decide))]; exact e1157
      have e1172 : I1167 (ad g 50) 2 = v1152 := by rw [eI1167, pp_ne _ _ (Or.inr (by decide))]; exact e1158
      have e1173 : I1167 (ad g 50) 3 = v1165 := by rw [eI1167, pp_self]
      clear eI1167
      refine WP_aload_n dX6_load_108 rfl ?_
      refine WP_iload dX6_load_109 rfl ?_
      refine WQ_iconst (-1) (-1) dX6_load_111 rfl rfl (fun v1174 hv1174 => ?_)
      have jn131_1180 : ∀ (v1180 : Int32), 0 ≤ v1180.toInt → v1180.toInt ≤ 20 → WP g mX6_load 131 [(0, .ref (ad g 50)), (1, .ref (ad g 5)), (2, .int so), (3, .int da), (4, .ref (ad g 6)), (5, .int v1131), (6, .int v1132), (7, .int v1139)] [.int v1180, .ref (ad g 50)] I1167 J R (fun r I' J' R' => (XI g n L I' ∧ R' = R) ∧ r = none) := by
        intro v1180 av1180 bv1180
        refine WQ_puti dX6_load_131 fX6_51 rfl rfl (lyx_is hy 50 6 rfl) (fun I1182 eI1182 => ?_)
        have hI1182 : XI g n L I1182 := by rw [eI1182]; exact (xi_f hy hI1167 (c := 50) (0) (0) (20) (by decide) (Or.inl (by decide)) (by decide) (by omega) (by omega))
        have e1183 : I1182 (ad g 1) 1 = L := by rw [eI1182, pp_ne _ _ (Or.inl (lyx_ne hy (by decide) (by decide) (by decide)))]; exact e1168
        have e1184 : I1182 (ad g 6) 4 = v1132 := by rw [eI1182, pp_ne _ _ (Or.inl (lyx_ne hy (by decide) (by decide) (by decide)))]; exact e1169
        have e1185 : I1182 (ad g 50) 0 = v1141 := by rw [eI1182, pp_ne _ _ (Or.inr (by decide))]; exact e1170
        have e1186 : I1182 (ad g 50) 1 = v1146 := by rw [eI1182, pp_ne _ _ (Or.inr (by decide))]; exact e1171
        have e1187 : I1182 (ad g 50) 2 = v1152 := by rw [eI1182, pp_ne _ _ (Or.inr (by decide))]; exact e1172
        have e1188 : I1182 (ad g 50) 3 = v1165 := by rw [eI1182, pp_ne _ _ (Or.inr (by decide))]; exact e1173
        have e1189 : I1182 (ad g 50) 4 = v1180 := by rw [eI1182, pp_self]
        clear eI1182
        refine WP_aload_n dX6_load_134 rfl ?_
        refine WP_iload dX6_load_135 rfl ?_
        have jn148_1191 : ∀ (v1191 : Int32), 0 ≤ v1191.toInt → v1191.toInt ≤ 3 → WP g mX6_load 148 [(0, .ref (ad g 50)), (1, .ref (ad g 5)), (2, .int so), (3, .int da), (4, .ref (ad g 6)), (5, .int v1131), (6, .int v1132), (7, .int v1139)] [.int v1191, .ref (ad g 50)] I1182 J R (fun r I' J' R' => (XI g n L I' ∧ R' = R) ∧ r = none) := by
          intro v1191 av1191 bv1191
          refine WQ_puti dX6_load_148 fX6_54 rfl rfl (lyx_is hy 50 6 rfl) (fun I1193 eI1193 => ?_)
          have hI1193 : XI g n L I1193 := by rw [eI1193]; exact (xi_f hy hI1182 (c := 50) (0) (0) (3) (by decide) (Or.inl (by decide)) (by decide) (by omega) (by omega))
          have e1194 : I1193 (ad g 1) 1 = L := by rw [eI1193, pp_ne _ _ (Or.inl (lyx_ne hy (by decide) (by decide) (by decide)))]; exact e1183
          have e1195 : I1193 (ad g 6) 4 = v1132 := by rw [eI1193, pp_ne _ _ (Or.inl (lyx_ne hy (by decide) (by decide) (by decide)))]; exact e1184
          have e1196 : I1193 (ad g 50) 0 = v1141 := by rw [eI1193, pp_ne _ _ (Or.inr (by decide))]; exact e1185
          have e1197 : I1193 (ad g 50) 1 = v1146 := by rw [eI1193, pp_ne _ _ (Or.inr (by decide))]; exact e1186
          have e1198 : I1193 (ad g 50) 2 = v1152 := by rw [eI1193, pp_ne _ _ (Or.inr (by decide))]; exact e1187
          have e1199 : I1193 (ad g 50) 3 = v1165 := by rw [eI1193, pp_ne _ _ (Or.inr (by decide))]; exact e1188
          have e1200 : I1193 (ad g 50) 4 = v1180 := by rw [eI1193, pp_ne _ _ (Or.inr (by decide))]; exact e1189
          have e1201 : I1193 (ad g 50) 5 = v1191 := by rw [eI1193, pp_self]
          clear eI1193
          refine WP_aload_n dX6_load_151 rfl ?_
          refine WP_iload dX6_load_152 rfl ?_
          have jn168_1207 : ∀ (v1207 : Int32), 0 ≤ v1207.toInt → v1207.toInt ≤ 2 → WP g mX6_load 168 [(0, .ref (ad g 50)), (1, .ref (ad g 5)), (2, .int so), (3, .int da), (4, .ref (ad g 6)), (5, .int v1131), (6, .int v1132), (7, .int v1139)] [.int v1207, .ref (ad g 50)] I1193 J R (fun r I' J' R' => (XI g n L I' ∧ R' = R) ∧ r = none) := by
            intro v1207 av1207 bv1207
            refine WQ_puti dX6_load_168 fX6_57 rfl rfl (lyx_is hy 50 6 rfl) (fun I1209 eI1209 => ?_)
            have hI1209 : XI g n L I1209 := by rw [eI1209]; exact (xi_f hy hI1193 (c := 50) (0) (0) (2) (by decide) (Or.inl (by decide)) (by decide) (by omega) (by omega))
            have e1210 : I1209 (ad g 1) 1 = L := by rw [eI1209, pp_ne _ _ (Or.inl (lyx_ne hy (by decide) (by decide) (by decide)))]; exact e1194
            have e1211 : I1209 (ad g 6) 4 = v1132 := by rw [eI1209, pp_ne _ _ (Or.inl (lyx_ne hy (by decide) (by decide) (by decide)))]; exact e1195
            have e1212 : I1209 (ad g 50) 0 = v1141 := by rw [eI1209, pp_ne _ _ (Or.inr (by decide))]; exact e1196
            have e1213 : I1209 (ad g 50) 1 = v1146 := by rw [eI1209, pp_ne _ _ (Or.inr (by decide))]; exact e1197
            have e1214 : I1209 (ad g 50) 2 = v1152 := by rw [eI1209, pp_ne _ _ (Or.inr (by decide))]; exact e1198
            have e1215 : I1209 (ad g 50) 3 = v1165 := by rw [eI1209, pp_ne _ _ (Or.inr (by decide))]; exact e1199
            have e1216 : I1209 (ad g 50) 4 = v1180 := by rw [eI1209, pp_ne _ _ (Or.inr (by decide))]; exact e1200
            have e1217 : I1209 (ad g 50) 5 = v1191 := by rw [eI1209, pp_ne _ _ (Or.inr (by decide))]; exact e1201
            have e1218 : I1209 (ad g 50) 6 = v1207 := by rw [eI1209, pp_self]
            clear eI1209
            refine WP_aload_n dX6_load_171 rfl ?_
            refine WP_aload_n dX6_load_172 rfl ?_
            refine WQ_getim dX6_load_173 fX6_9 rfl (lyx_is hy 50 6 rfl) e1212 ?_
            refine WQ_iconst (-1) (-1) dX6_load_176 rfl rfl (fun v1219 hv1219 => ?_)
            have jn194_1224 : ∀ (v1224 : Int32), 0 ≤ v1224.toInt → v1224.toInt ≤ 1 → WP g mX6_load 194 [(0, .ref (ad g 50)), (1, .ref (ad g 5)), (2, .int so), (3, .int da), (4, .ref (ad g 6)), (5, .int v1131), (6, .int v1132), (7, .int v1139)] [.int v1224, .ref (ad g 50)] I1209 J R (fun r I' J' R' => (XI g n L I' ∧ R' = R) ∧ r = none) := by
              intro v1224 av1224 bv1224
              refine WQ_putz dX6_load_194 fX6_60 rfl rfl (by omega) (lyx_is hy 50 6 rfl) (fun I1226 eI1226 => ?_)
              have hI1226 : XI g n L I1226 := by rw [eI1226]; exact (xi_f hy hI1209 (c := 50) (0) (0) (1) (by decide) (Or.inl (by decide)) (by decide) (by omega) (by omega))
              have e1227 : I1226 (ad g 1) 1 = L := by rw [eI1226, pp_ne _ _ (Or.inl (lyx_ne hy (by decide) (by decide) (by decide)))]; exact e1210
              have e1228 : I1226 (ad g 6) 4 = v1132 := by rw [eI1226, pp_ne _ _ (Or.inl (lyx_ne hy (by decide) (by decide) (by decide)))]; exact e1211
              have e1229 : I1226 (ad g 50) 0 = v1141 := by rw [eI1226, pp_ne _ _ (Or.inr (by decide))]; exact e1212
              have e1230 : I1226 (ad g 50) 1 = v1146 := by rw [eI1226, pp_ne _ _ (Or.inr (by decide))]; exact e1213
              have e1231 : I1226 (ad g 50) 2 = v1152 := by rw [eI1226, pp_ne _ _ (Or.inr (by decide))]; exact e1214
              have e1232 : I1226 (ad g 50) 3 = v1165 := by rw [eI1226, pp_ne _ _ (Or.inr (by decide))]; exact e1215
              have e1233 : I1226 (ad g 50) 4 = v1180 := by rw [eI1226, pp_ne _ _ (Or.inr (by decide))]; exact e1216
              have e1234 : I1226 (ad g 50) 5 = v1191 := by rw [eI1226, pp_ne _ _ (Or.inr (by decide))]; exact e1217
              have e1235 : I1226 (ad g 50) 6 = v1207 := by rw [eI1226, pp_ne _ _ (Or.inr (by decide))]; exact e1218
              have e1236 : I1226 (ad g 50) 7 = v1224 := by rw [eI1226, pp_self]
              clear eI1226
              refine WP_aload_n dX6_load_197 rfl ?_
              refine WP_aload_n dX6_load_198 rfl ?_
              refine WP_getr dX6_load_199 fX6_64 rfl (lyx_is hy 5 0 rfl) (rfx hr 5 2 23 (by decide)) ?_
              refine WP_iload_n dX6_load_202 rfl ?_
              refine WQ_iald dX6_load_203 (lyx_is hy 23 13 rfl) (lyx_n hy 23 7 rfl) (by omega) (by omega) (fun q hq => BT_get hI1226.1 23 0 7 (0) (0) (900) (by decide) q (Nat.zero_le _) hq) (fun v1237 av1237 bv1237 ev1237 => ?_)
              clear ev1237
              have jn212_1240 : ∀ (v1240 : Int32), 0 ≤ v1240.toInt → v1240.toInt ≤ 1 → WP g mX6_load 212 [(0, .ref (ad g 50)), (1, .ref (ad g 5)), (2, .int so), (3, .int da), (4, .ref (ad g 6)), (5, .int v1131), (6, .int v1132), (7, .int v1139)] [.int v1240, .ref (ad g 50)] I1226 J R (fun r I' J' R' => (XI g n L I' ∧ R' = R) ∧ r = none) := by
                intro v1240 av1240 bv1240
                refine WQ_putz dX6_load_212 fX6_67 rfl rfl (by omega) (lyx_is hy 50 6 rfl) (fun I1242 eI1242 => ?_)
                have hI1242 : XI g n L I1242 := by rw [eI1242]; exact (xi_f hy hI1226 (c := 50) (0) (0) (1) (by decide) (Or.inl (by decide)) (by decide) (by omega) (by omega))
                have e1243 : I1242 (ad g 1) 1 = L := by rw [eI1242, pp_ne _ _ (Or.inl (lyx_ne hy (by decide) (by decide) (by decide)))]; exact e1227
                have e1244 : I1242 (ad g 6) 4 = v1132 := by rw [eI1242, pp_ne _ _ (Or.inl (lyx_ne hy (by decide) (by decide) (by decide)))]; exact e1228
                have e1245 : I1242 (ad g 50) 0 = v1141 := by rw [eI1242, pp_ne _ _ (Or.inr (by decide))]; exact e1229
                have e1246 : I1242 (ad g 50) 1 = v1146 := by rw [eI1242, pp_ne _ _ (Or.inr (by decide))]; exact e1230
                have e1247 : I1242 (ad g 50) 2 = v1152 := by rw [eI1242, pp_ne _ _ (Or.inr (by decide))]; exact e1231
                have e1248 : I1242 (ad g 50) 3 = v1165 := by rw [eI1242, pp_ne _ _ (Or.inr (by decide))]; exact e1232
                have e1249 : I1242 (ad g 50) 4 = v1180 := by rw [eI1242, pp_ne _ _ (Or.inr (by decide))]; exact e1233
                have e1250 : I1242 (ad g 50) 5 = v1191 := by rw [eI1242, pp_ne _ _ (Or.inr (by decide))]; exact e1234
                have e1251 : I1242 (ad g 50) 6 = v1207 := by rw [eI1242, pp_ne _ _ (Or.inr (by decide))]; exact e1235
                have e1252 : I1242 (ad g 50) 7 = v1224 := by rw [eI1242, pp_ne _ _ (Or.inr (by decide))]; exact e1236
                have e1253 : I1242 (ad g 50) 8 = v1240 := by rw [eI1242, pp_self]
                clear eI1242
                exact WP_vret dX6_load_215 rfl ⟨⟨hI1242, rfl⟩, rfl⟩
              refine WQ_if_le 211 dX6_load_204 rfl (fun c1253 => ?_) (fun c1253 => ?_)
              · refine WQ_iconst (0) (0) dX6_load_211 rfl rfl (fun v1255 hv1255 => ?_)
                exact WP_sub (fc rfl (fc rfl (fc rfl (fc rfl (fc rfl (fc rfl (fc rfl (fc rfl fn)))))))) (jn212_1240 v1255 (by omega) (by omega))
              · refine WQ_iconst (1) (1) dX6_load_207 rfl rfl (fun v1256 hv1256 => ?_)
                refine WP_goto 212 dX6_load_208 rfl ?_
                exact WP_sub (fc rfl (fc rfl (fc rfl (fc rfl (fc rfl (fc rfl (fc rfl (fc rfl fn)))))))) (jn212_1240 v1256 (by omega) (by omega))
            refine WQ_icmp_eq 193 dX6_load_177 rfl (fun c1256 => ?_) (fun c1256 => ?_)
            · refine WQ_iconst (0) (0) dX6_load_193 rfl rfl (fun v1258 hv1258 => ?_)
              exact WP_sub (fc rfl (fc rfl (fc rfl (fc rfl (fc rfl (fc rfl (fc rfl (fc rfl fn)))))))) (jn194_1224 v1258 (by omega) (by omega))
            · refine WP_aload_n dX6_load_180 rfl ?_
              refine WQ_getim dX6_load_181 fX6_9 rfl (lyx_is hy 50 6 rfl) e1212 ?_
              refine WP_iload dX6_load_184 rfl ?_
              refine WQ_icmp_ne 193 dX6_load_186 rfl (fun c1258 => ?_) (fun c1258 => ?_)
              · refine WQ_iconst (0) (0) dX6_load_193 rfl rfl (fun v1260 hv1260 => ?_)
                exact WP_sub (fc rfl (fc rfl (fc rfl (fc rfl (fc rfl (fc rfl (fc rfl (fc rfl fn)))))))) (jn194_1224 v1260 (by omega) (by omega))
              · refine WQ_iconst (1) (1) dX6_load_189 rfl rfl (fun v1261 hv1261 => ?_)
                refine WP_goto 194 dX6_load_190 rfl ?_
                exact WP_sub (fc rfl (fc rfl (fc rfl (fc rfl (fc rfl (fc rfl (fc rfl (fc rfl fn)))))))) (jn194_1224 v1261 (by omega) (by omega))
          refine WQ_if_ne 163 dX6_load_154 rfl (fun c1261 => ?_) (fun c1261 => ?_)
          · refine WQ_iconst (0) (0) dX6_load_163 rfl rfl (fun v1263 hv1263 => ?_)
            refine WP_goto 168 dX6_load_164 rfl ?_
            exact WP_sub (fc rfl (fc rfl (fc rfl (fc rfl (fc rfl (fc rfl (fc rfl (fc rfl fn)))))))) (jn168_1207 v1263 (by omega) (by omega))
          · refine WP_iload dX6_load_157 rfl ?_
            refine WQ_iconst (-1) (-1) dX6_load_159 rfl rfl (fun v1264 hv1264 => ?_)
            refine WQ_icmp_ne 167 dX6_load_160 rfl (fun c1264 => ?_) (fun c1264 => ?_)
            · refine WQ_iconst (2) (2) dX6_load_167 rfl rfl (fun v1266 hv1266 => ?_)
              exact WP_sub (fc rfl (fc rfl (fc rfl (fc rfl (fc rfl (fc rfl (fc rfl (fc rfl fn)))))))) (jn168_1207 v1266 (by omega) (by omega))
            · refine WQ_iconst (0) (0) dX6_load_163 rfl rfl (fun v1267 hv1267 => ?_)
              refine WP_goto 168 dX6_load_164 rfl ?_
              exact WP_sub (fc rfl (fc rfl (fc rfl (fc rfl (fc rfl (fc rfl (fc rfl (fc rfl fn)))))))) (jn168_1207 v1267 (by omega) (by omega))
        refine WQ_if_eq 144 dX6_load_137 rfl (fun c1267 => ?_) (fun c1267 => ?_)
        · refine WP_aload_n dX6_load_144 rfl ?_
          refine WQ_getim dX6_load_145 fX6_36 rfl (lyx_is hy 50 6 rfl) e1186 ?_
          exact WP_sub (fc rfl (fc rfl (fc rfl (fc rfl (fc rfl (fc rfl (fc rfl (fc rfl fn)))))))) (jn148_1191 v1146 (by omega) (by omega))
        · refine WQ_iconst (0) (0) dX6_load_140 rfl rfl (fun v1269 hv1269 => ?_)
          refine WP_goto 148 dX6_load_141 rfl ?_
          exact WP_sub (fc rfl (fc rfl (fc rfl (fc rfl (fc rfl (fc rfl (fc rfl (fc rfl fn)))))))) (jn148_1191 v1269 (by omega) (by omega))
      refine WQ_icmp_ne 119 dX6_load_112 rfl (fun c1269 => ?_) (fun c1269 => ?_)
      · refine WP_aload_n dX6_load_119 rfl ?_
        refine WP_getr dX6_load_120 fX6_45 rfl (lyx_is hy 5 0 rfl) (rfx hr 5 1 22 (by decide)) ?_
        refine WP_iload dX6_load_123 rfl ?_
        refine WQ_bipush (7) (7) dX6_load_125 rfl rfl (fun v1271 hv1271 => ?_)
        refine WQ_imulk (7) dX6_load_127 hv1271 (by omega) (by omega) (fun v1272 hv1272 => ?_)
        refine WP_iload_n dX6_load_128 rfl ?_
        refine WQ_iadd dX6_load_129 (by omega) (by omega) (fun v1273 hv1273 => ?_)
        refine WQ_iald dX6_load_130 (lyx_is hy 22 13 rfl) (lyx_n hy 22 21 rfl) (by omega) (by omega) (fun q hq => BT_get hI1167.1 22 0 21 (0) (0) (20) (by decide) q (Nat.zero_le _) hq) (fun v1274 av1274 bv1274 ev1274 => ?_)
        clear ev1274
        exact WP_sub (fc rfl (fc rfl (fc rfl (fc rfl (fc rfl (fc rfl (fc rfl (fc rfl fn)))))))) (jn131_1180 v1274 (by omega) (by omega))
      · refine WQ_iconst (0) (0) dX6_load_115 rfl rfl (fun v1275 hv1275 => ?_)
        refine WP_goto 131 dX6_load_116 rfl ?_
        exact WP_sub (fc rfl (fc rfl (fc rfl (fc rfl (fc rfl (fc rfl (fc rfl (fc rfl fn)))))))) (jn131_1180 v1275 (by omega) (by omega))
    refine WQ_icmp_ne 91 dX6_load_84 rfl (fun c1275 => ?_) (fun c1275 => ?_)
    · refine WP_aload_n dX6_load_91 rfl ?_
      refine WP_getr dX6_load_92 fX6_45 rfl (lyx_is hy 5 0 rfl) (rfx hr 5 1 22 (by decide)) ?_
      refine WP_aload_n dX6_load_95 rfl ?_
      refine WQ_getim dX6_load_96 fX6_9 rfl (lyx_is hy 50 6 rfl) e1156 ?_
      refine WQ_bipush (7) (7) dX6_load_99 rfl rfl (fun v1277 hv1277 => ?_)
      refine WQ_imulk (7) dX6_load_101 hv1277 (by omega) (by omega) (fun v1278 hv1278 => ?_)
      refine WP_iload_n dX6_load_102 rfl ?_
      refine WQ_iadd dX6_load_103 (by omega) (by omega) (fun v1279 hv1279 => ?_)
      refine WQ_iald dX6_load_104 (lyx_is hy 22 13 rfl) (lyx_n hy 22 21 rfl) (by omega) (by omega) (fun q hq => BT_get hI1153.1 22 0 21 (0) (0) (20) (by decide) q (Nat.zero_le _) hq) (fun v1280 av1280 bv1280 ev1280 => ?_)
      clear ev1280
      exact WP_sub (fc rfl (fc rfl (fc rfl (fc rfl (fc rfl (fc rfl (fc rfl (fc rfl fn)))))))) (jn105_1165 v1280 (by omega) (by omega))
    · refine WQ_iconst (0) (0) dX6_load_87 rfl rfl (fun v1281 hv1281 => ?_)
      refine WP_goto 105 dX6_load_88 rfl ?_
      exact WP_sub (fc rfl (fc rfl (fc rfl (fc rfl (fc rfl (fc rfl (fc rfl (fc rfl fn)))))))) (jn105_1165 v1281 (by omega) (by omega))
  refine WX_if_eq 39 dX6_load_32 rfl ?_ ?_
  · refine WQ_iconst (0) (0) dX6_load_39 rfl rfl (fun v1282 hv1282 => ?_)
    exact WP_sub (fc rfl (fc rfl (fc rfl (fc rfl (fc rfl (fc rfl (fc rfl fn))))))) (jn40_1139 v1282 (by omega) (by omega))
  · refine WQ_iconst (1) (1) dX6_load_35 rfl rfl (fun v1283 hv1283 => ?_)
    refine WP_goto 40 dX6_load_36 rfl ?_
    exact WP_sub (fc rfl (fc rfl (fc rfl (fc rfl (fc rfl (fc rfl (fc rfl fn))))))) (jn40_1139 v1283 (by omega) (by omega))
set_option maxHeartbeats 4000000 in
set_option maxRecDepth 100000 in
theorem sx_load_50_27 {g : GG} {n : Int} {L : Int32} (hy : LyX g)  {I : pI} {J : pJ} {R : pR} (hr : RfX g R) (hT : R (ad g 5) 0 = some (ad g 27)) (hI : XI g n L I) (so : Int32) (da : Int32) (so_lo : 0 ≤ so.toInt) (so_hi : so.toInt ≤ 3) (da_lo : 0 ≤ da.toInt) (da_hi : da.toInt ≤ 6) : SP g mX6_load [.ref (ad g 50), .ref (ad g 5), .int so, .int da] I J R (fun r I' J' R' => (XI g n L I' ∧ R' = R) ∧ r = none) := by
  refine SP_of ⟨by decide, rfl⟩ (Nat.le_of_ble_eq_true rfl) ?_
  have e1284 : I (ad g 1) 1 = L := hI.2
  have b1285 := BT_get hI.1 1 1 2 (0) (0) (900) (by decide) 1 (by decide) (by decide)
  rw [e1284] at b1285
  refine WP_aload_n dX6_load_0 rfl ?_
  refine WP_getr dX6_load_1 fX6_15 rfl (lyx_is hy 5 0 rfl) hT ?_
  refine WP_astore (ls' := [(0, _), (1, _), (2, _), (3, _), (4, _)]) dX6_load_4 (by decide) rfl ?_
  refine WP_iload_n dX6_load_6 rfl ?_
  refine WQ_bipush (7) (7) dX6_load_7 rfl rfl (fun v1286 hv1286 => ?_)
  refine WQ_imulk (7) dX6_load_9 hv1286 (by omega) (by omega) (fun v1287 hv1287 => ?_)
  refine WP_iload_n dX6_load_10 rfl ?_
  refine WQ_iadd dX6_load_11 (by omega) (by omega) (fun v1288 hv1288 => ?_)
  refine WP_istore (ls' := [(0, _), (1, _), (2, _), (3, _), (4, _), (5, _)]) dX6_load_12 (by decide) rfl ?_
  refine WP_aload dX6_load_14 rfl ?_
  refine WQ_geti dX6_load_16 fX6_21 rfl (lyx_is hy 27 7 rfl) (BT_get hI.1 27 4 5 (-1) (0) (2) (by decide) 4 (by decide) (by decide)) (fun v1289 ev1289 av1289 bv1289 => ?_)
  refine WP_istore (ls' := [(0, _), (1, _), (2, _), (3, _), (4, _), (5, _), (6, _)]) dX6_load_19 (by decide) rfl ?_
  refine WP_aload dX6_load_21 rfl ?_
  refine WP_getr dX6_load_23 fX6_26 rfl (lyx_is hy 27 7 rfl) (rfx hr 27 9 32 (by decide)) ?_
  refine WP_iload_n dX6_load_26 rfl ?_
  refine WQ_ialdu dX6_load_27 (lyx_is hy 32 13 rfl) (lyx_n hy 32 4 rfl) (by omega) (by omega) (fun v1290 => ?_)
  refine WP_iload_n dX6_load_28 rfl ?_
  refine WQ_ishru dX6_load_29 (fun v1291 => ?_)
  refine WQ_iconst (1) (1) dX6_load_30 rfl rfl (fun v1292 hv1292 => ?_)
  refine WQ_iandu dX6_load_31 (fun v1293 => ?_)
  have jn40_1296 : ∀ (v1296 : Int32), 0 ≤ v1296.toInt → v1296.toInt ≤ 1 → WP g mX6_load 40 [(0, .ref (ad g 50)), (1, .ref (ad g 5)), (2, .int so), (3, .int da), (4, .ref (ad g 27)), (5, .int v1288), (6, .int v1289)] [.int v1296] I J R (fun r I' J' R' => (XI g n L I' ∧ R' = R) ∧ r = none) := by
    intro v1296 av1296 bv1296
    refine WP_istore (ls' := [(0, _), (1, _), (2, _), (3, _), (4, _), (5, _), (6, _), (7, _)]) dX6_load_40 (by decide) rfl ?_
    refine WP_aload_n dX6_load_42 rfl ?_
    refine WP_aload dX6_load_43 rfl ?_
    refine WP_getr dX6_load_45 fX6_30 rfl (lyx_is hy 27 7 rfl) (rfx hr 27 11 34 (by decide)) ?_
    refine WP_iload dX6_load_48 rfl ?_
    refine WQ_iald dX6_load_50 (lyx_is hy 34 13 rfl) (lyx_n hy 34 28 rfl) (by omega) (by omega) (fun q hq => BT_get hI.1 34 0 28 (-1) (0) (2) (by decide) q (Nat.zero_le _) hq) (fun v1298 av1298 bv1298 ev1298 => ?_)
    clear ev1298
    refine WQ_puti dX6_load_51 fX6_9 rfl rfl (lyx_is hy 50 6 rfl) (fun I1299 eI1299 => ?_)
    have hI1299 : XI g n L I1299 := by rw [eI1299]; exact (xi_f hy hI (c := 50) (-1) (0) (2) (by decide) (Or.inl (by decide)) (by decide) (by omega) (by omega))
    have e1300 : I1299 (ad g 1) 1 = L := by rw [eI1299, pp_ne _ _ (Or.inl (lyx_ne hy (by decide) (by decide) (by decide)))]; exact e1284
    have e1301 : I1299 (ad g 27) 4 = v1289 := by rw [eI1299, pp_ne _ _ (Or.inl (lyx_ne hy (by decide) (by decide) (by decide)))]; exact ev1289
    have e1302 : I1299 (ad g 50) 0 = v1298 := by rw [eI1299, pp_self]
    clear eI1299
    refine WP_aload_n dX6_load_54 rfl ?_
    refine WP_aload dX6_load_55 rfl ?_
    refine WP_getr dX6_load_57 fX6_33 rfl (lyx_is hy 27 7 rfl) (rfx hr 27 12 35 (by decide)) ?_
    refine WP_iload dX6_load_60 rfl ?_
    refine WQ_iald dX6_load_62 (lyx_is hy 35 13 rfl) (lyx_n hy 35 28 rfl) (by omega) (by omega) (fun q hq => BT_get hI1299.1 35 0 28 (0) (0) (3) (by decide) q (Nat.zero_le _) hq) (fun v1303 av1303 bv1303 ev1303 => ?_)
    clear ev1303
    refine WQ_puti dX6_load_63 fX6_36 rfl rfl (lyx_is hy 50 6 rfl) (fun I1304 eI1304 => ?_)
    have hI1304 : XI g n L I1304 := by rw [eI1304]; exact (xi_f hy hI1299 (c := 50) (0) (0) (3) (by decide) (Or.inl (by decide)) (by decide) (by omega) (by omega))
    have e1305 : I1304 (ad g 1) 1 = L := by rw [eI1304, pp_ne _ _ (Or.inl (lyx_ne hy (by decide) (by decide) (by decide)))]; exact e1300
    have e1306 : I1304 (ad g 27) 4 = v1289 := by rw [eI1304, pp_ne _ _ (Or.inl (lyx_ne hy (by decide) (by decide) (by decide)))]; exact e1301
    have e1307 : I1304 (ad g 50) 0 = v1298 := by rw [eI1304, pp_ne _ _ (Or.inr (by decide))]; exact e1302
    have e1308 : I1304 (ad g 50) 1 = v1303 := by rw [eI1304, pp_self]
    clear eI1304
    refine WP_aload_n dX6_load_66 rfl ?_
    refine WP_aload dX6_load_67 rfl ?_
    refine WP_getr dX6_load_69 fX6_39 rfl (lyx_is hy 27 7 rfl) (rfx hr 27 13 36 (by decide)) ?_
    refine WP_iload dX6_load_72 rfl ?_
    refine WQ_iald dX6_load_74 (lyx_is hy 36 13 rfl) (lyx_n hy 36 28 rfl) (by omega) (by omega) (fun q hq => BT_get hI1304.1 36 0 28 (0) (0) (99) (by decide) q (Nat.zero_le _) hq) (fun v1309 av1309 bv1309 ev1309 => ?_)
    clear ev1309
    refine WQ_puti dX6_load_75 fX6_42 rfl rfl (lyx_is hy 50 6 rfl) (fun I1310 eI1310 => ?_)
    have hI1310 : XI g n L I1310 := by rw [eI1310]; exact (xi_f hy hI1304 (c := 50) (0) (0) (99) (by decide) (Or.inl (by decide)) (by decide) (by omega) (by omega))
    have e1311 : I1310 (ad g 1) 1 = L := by rw [eI1310, pp_ne _ _ (Or.inl (lyx_ne hy (by decide) (by decide) (by decide)))]; exact e1305
    have e1312 : I1310 (ad g 27) 4 = v1289 := by rw [eI1310, pp_ne _ _ (Or.inl (lyx_ne hy (by decide) (by decide) (by decide)))]; exact e1306
    have e1313 : I1310 (ad g 50) 0 = v1298 := by rw [eI1310, pp_ne _ _ (Or.inr (by decide))]; exact e1307
    have e1314 : I1310 (ad g 50) 1 = v1303 := by rw [eI1310, pp_ne _ _ (Or.inr (by decide))]; exact e1308
    have e1315 : I1310 (ad g 50) 2 = v1309 := by rw [eI1310, pp_self]
    clear eI1310
    refine WP_aload_n dX6_load_78 rfl ?_
    refine WP_aload_n dX6_load_79 rfl ?_
    refine WQ_getim dX6_load_80 fX6_9 rfl (lyx_is hy 50 6 rfl) e1313 ?_
    refine WQ_iconst (-1) (-1) dX6_load_83 rfl rfl (fun v1316 hv1316 => ?_)
    have jn105_1322 : ∀ (v1322 : Int32), 0 ≤ v1322.toInt → v1322.toInt ≤ 20 → WP g mX6_load 105 [(0, .ref (ad g 50)), (1, .ref (ad g 5)), (2, .int so), (3, .int da), (4, .ref (ad g 27)), (5, .int v1288), (6, .int v1289), (7, .int v1296)] [.int v1322, .ref (ad g 50)] I1310 J R (fun r I' J' R' => (XI g n L I' ∧ R' = R) ∧ r = none) := by
      intro v1322 av1322 bv1322
      refine WQ_puti dX6_load_105 fX6_48 rfl rfl (lyx_is hy 50 6 rfl) (fun I1324 eI1324 => ?_)
      have hI1324 : XI g n L I1324 := by rw [eI1324]; exact (xi_f hy hI1310 (c := 50) (0) (0) (20) (by decide) (Or.inl (by decide)) (by decide) (by omega) (by omega))
      have e1325 : I1324 (ad g 1) 1 = L := by rw [eI1324, pp_ne _ _ (Or.inl (lyx_ne hy (by decide) (by decide) (by decide)))]; exact e1311
      have e1326 : I1324 (ad g 27) 4 = v1289 := by rw [eI1324, pp_ne _ _ (Or.inl (lyx_ne hy (by decide) (by decide) (by decide)))]; exact e1312
      have e1327 : I1324 (ad g 50) 0 = v1298 := by rw [eI1324, pp_ne _ _ (Or.inr (by decide))]; exact e1313
      have e1328 : I1324 (ad g 50) 1 = v1303 := by rw [eI1324, pp_ne _ _ (Or.inr (by decide))]; exact e1314
      have e1329 : I1324 (ad g 50) 2 = v1309 := by rw [eI1324, pp_ne _ _ (Or.inr (by decide))]; exact e1315
      have e1330 : I1324 (ad g 50) 3 = v1322 := by rw [eI1324, pp_self]
      clear eI1324
      refine WP_aload_n dX6_load_108 rfl ?_
      refine WP_iload dX6_load_109 rfl ?_
      refine WQ_iconst (-1) (-1) dX6_load_111 rfl rfl (fun v1331 hv1331 => ?_)
      have jn131_1337 : ∀ (v1337 : Int32), 0 ≤ v1337.toInt → v1337.toInt ≤ 20 → WP g mX6_load 131 [(0, .ref (ad g 50)), (1, .ref (ad g 5)), (2, .int so), (3, .int da), (4, .ref (ad g 27)), (5, .int v1288), (6, .int v1289), (7, .int v1296)] [.int v1337, .ref (ad g 50)] I1324 J R (fun r I' J' R' => (XI g n L I' ∧ R' = R) ∧ r = none) := by
        intro v1337 av1337 bv1337
        refine WQ_puti dX6_load_131 fX6_51 rfl rfl (lyx_is hy 50 6 rfl) (fun I1339 eI1339 => ?_)
        have hI1339 : XI g n L I1339 := by rw [eI1339]; exact (xi_f hy hI1324 (c := 50) (0) (0) (20) (by decide) (Or.inl (by decide)) (by decide) (by omega) (by omega))
        have e1340 : I1339 (ad g 1) 1 = L := by rw [eI1339, pp_ne _ _ (Or.inl (lyx_ne hy (by decide) (by decide) (by decide)))]; exact e1325
        have e1341 : I1339 (ad g 27) 4 = v1289 := by rw [eI1339, pp_ne _ _ (Or.inl (lyx_ne hy (by decide) (by decide) (by decide)))]; exact e1326
        have e1342 : I1339 (ad g 50) 0 = v1298 := by rw [eI1339, pp_ne _ _ (Or.inr (by decide))]; exact e1327
        have e1343 : I1339 (ad g 50) 1 = v1303 := by rw [eI1339, pp_ne _ _ (Or.inr (by decide))]; exact e1328
        have e1344 : I1339 (ad g 50) 2 = v1309 := by rw [eI1339, pp_ne _ _ (Or.inr (by decide))]; exact e1329
        have e1345 : I1339 (ad g 50) 3 = v1322 := by rw [eI1339, pp_ne _ _ (Or.inr (by decide))]; exact e1330
        have e1346 : I1339 (ad g 50) 4 = v1337 := by rw [eI1339, pp_self]
        clear eI1339
        refine WP_aload_n dX6_load_134 rfl ?_
        refine WP_iload dX6_load_135 rfl ?_
        have jn148_1348 : ∀ (v1348 : Int32), 0 ≤ v1348.toInt → v1348.toInt ≤ 3 → WP g mX6_load 148 [(0, .ref (ad g 50)), (1, .ref (ad g 5)), (2, .int so), (3, .int da), (4, .ref (ad g 27)), (5, .int v1288), (6, .int v1289), (7, .int v1296)] [.int v1348, .ref (ad g 50)] I1339 J R (fun r I' J' R' => (XI g n L I' ∧ R' = R) ∧ r = none) := by
          intro v1348 av1348 bv1348
          refine WQ_puti dX6_load_148 fX6_54 rfl rfl (lyx_is hy 50 6 rfl) (fun I1350 eI1350 => ?_)
          have hI1350 : XI g n L I1350 := by rw [eI1350]; exact (xi_f hy hI1339 (c := 50) (0) (0) (3) (by decide) (Or.inl (by decide)) (by decide) (by omega) (by omega))
          have e1351 : I1350 (ad g 1) 1 = L := by rw [eI1350, pp_ne _ _ (Or.inl (lyx_ne hy (by decide) (by decide) (by decide)))]; exact e1340
          have e1352 : I1350 (ad g 27) 4 = v1289 := by rw [eI1350, pp_ne _ _ (Or.inl (lyx_ne hy (by decide) (by decide) (by decide)))]; exact e1341
          have e1353 : I1350 (ad g 50) 0 = v1298 := by rw [eI1350, pp_ne _ _ (Or.inr (by decide))]; exact e1342
          have e1354 : I1350 (ad g 50) 1 = v1303 := by rw [eI1350, pp_ne _ _ (Or.inr (by decide))]; exact e1343
          have e1355 : I1350 (ad g 50) 2 = v1309 := by rw [eI1350, pp_ne _ _ (Or.inr (by decide))]; exact e1344
          have e1356 : I1350 (ad g 50) 3 = v1322 := by rw [eI1350, pp_ne _ _ (Or.inr (by decide))]; exact e1345
          have e1357 : I1350 (ad g 50) 4 = v1337 := by rw [eI1350, pp_ne _ _ (Or.inr (by decide))]; exact e1346
          have e1358 : I1350 (ad g 50) 5 = v1348 := by rw [eI1350, pp_self]
          clear eI1350
          refine WP_aload_n dX6_load_151 rfl ?_
          refine WP_iload dX6_load_152 rfl ?_
          have jn168_1364 : ∀ (v1364 : Int32), 0 ≤ v1364.toInt → v1364.toInt ≤ 2 → WP g mX6_load 168 [(0, .ref (ad g 50)), (1, .ref (ad g 5)), (2, .int so), (3, .int da), (4, .ref (ad g 27)), (5, .int v1288), (6, .int v1289), (7, .int v1296)] [.int v1364, .ref (ad g 50)] I1350 J R (fun r I' J' R' => (XI g n L I' ∧ R' = R) ∧ r = none) := by
            intro v1364 av1364 bv1364
            refine WQ_puti dX6_load_168 fX6_57 rfl rfl (lyx_is hy 50 6 rfl) (fun I1366 eI1366 => ?_)
            have hI1366 : XI g n L I1366 := by rw [eI1366]; exact (xi_f hy hI1350 (c := 50) (0) (0) (2) (by decide) (Or.inl (by decide)) (by decide) (by omega) (by omega))
            have e1367 : I1366 (ad g 1) 1 = L := by rw [eI1366, pp_ne _ _ (Or.inl (lyx_ne hy (by decide) (by decide) (by decide)))]; exact e1351
            have e1368 : I1366 (ad g 27) 4 = v1289 := by rw [eI1366, pp_ne _ _ (Or.inl (lyx_ne hy (by decide) (by decide) (by decide)))]; exact e1352
            have e1369 : I1366 (ad g 50) 0 = v1298 := by rw [eI1366, pp_ne _ _ (Or.inr (by decide))]; exact e1353
            have e1370 : I1366 (ad g 50) 1 = v1303 := by rw [eI1366, pp_ne _ _ (Or.inr (by decide))]; exact e1354
            have e1371 : I1366 (ad g 50) 2 = v1309 := by rw [eI1366, pp_ne _ _ (Or.inr (by decide))]; exact e1355
            have e1372 : I1366 (ad g 50) 3 = v1322 := by rw [eI1366, pp_ne _ _ (Or.inr (by decide))]; exact e1356
            have e1373 : I1366 (ad g 50) 4 = v1337 := by rw [eI1366, pp_ne _ _ (Or.inr (by decide))]; exact e1357
            have e1374 : I1366 (ad g 50) 5 = v1348 := by rw [eI1366, pp_ne _ _ (Or.inr (by decide))]; exact e1358
            have e1375 : I1366 (ad g 50) 6 = v1364 := by rw [eI1366, pp_self]
            clear eI1366
            refine WP_aload_n dX6_load_171 rfl ?_
            refine WP_aload_n dX6_load_172 rfl ?_
            refine WQ_getim dX6_load_173 fX6_9 rfl (lyx_is hy 50 6 rfl) e1369 ?_
            refine WQ_iconst (-1) (-1) dX6_load_176 rfl rfl (fun v1376 hv1376 => ?_)
            have jn194_1381 : ∀ (v1381 : Int32), 0 ≤ v1381.toInt → v1381.toInt ≤ 1 → WP g mX6_load 194 [(0, .ref (ad g 50)), (1, .ref (ad g 5)), (2, .int so), (3, .int da), (4, .ref (ad g 27)), (5, .int v1288), (6, .int v1289), (7, .int v1296)] [.int v1381, .ref (ad g 50)] I1366 J R (fun r I' J' R' => (XI g n L I' ∧ R' = R) ∧ r = none) := by
              intro v1381 av1381 bv1381
              refine WQ_putz dX6_load_194 fX6_60 rfl rfl (by omega) (lyx_is hy 50 6 rfl) (fun I1383 eI1383 => ?_)
              have hI1383 : XI g n L I1383 := by rw [eI1383]; exact (xi_f hy hI1366 (c := 50) (0) (0) (1) (by decide) (Or.inl (by decide)) (by decide) (by omega) (by omega))
              have e1384 : I1383 (ad g 1) 1 = L := by rw [eI1383, pp_ne _ _ (Or.inl (lyx_ne hy (by decide) (by decide) (by decide)))]; exact e1367
              have e1385 : I1383 (ad g 27) 4 = v1289 := by rw [eI1383, pp_ne _ _ (Or.inl (lyx_ne hy (by decide) (by decide) (by decide)))]; exact e1368
              have e1386 : I1383 (ad g 50) 0 = v1298 := by rw [eI1383, pp_ne _ _ (Or.inr (by decide))]; exact e1369
              have e1387 : I1383 (ad g 50) 1 = v1303 := by rw [eI1383, pp_ne _ _ (Or.inr (by decide))]; exact e1370
              have e1388 : I1383 (ad g 50) 2 = v1309 := by rw [eI1383, pp_ne _ _ (Or.inr (by decide))]; exact e1371
              have e1389 : I1383 (ad g 50) 3 = v1322 := by rw [eI1383, pp_ne _ _ (Or.inr (by decide))]; exact e1372
              have e1390 : I1383 (ad g 50) 4 = v1337 := by rw [eI1383, pp_ne _ _ (Or.inr (by decide))]; exact e1373
              have e1391 : I1383 (ad g 50) 5 = v1348 := by rw [eI1383, pp_ne _ _ (Or.inr (by decide))]; exact e1374
              have e1392 : I1383 (ad g 50) 6 = v1364 := by rw [eI1383, pp_ne _ _ (Or.inr (by decide))]; exact e1375
              have e1393 : I1383 (ad g 50) 7 = v1381 := by rw [eI1383, pp_self]
              clear eI1383
              refine WP_aload_n dX6_load_197 rfl ?_
              refine WP_aload_n dX6_load_198 rfl ?_
              refine WP_getr dX6_load_199 fX6_64 rfl (lyx_is hy 5 0 rfl) (rfx hr 5 2 23 (by decide)) ?_
              refine WP_iload_n dX6_load_202 rfl ?_
              refine WQ_iald dX6_load_203 (lyx_is hy 23 13 rfl) (lyx_n hy 23 7 rfl) (by omega) (by omega) (fun q hq => BT_get hI1383.1 23 0 7 (0) (0) (900) (by decide) q (Nat.zero_le _) hq) (fun v1394 av1394 bv1394 ev1394 => ?_)
              clear ev1394
              have jn212_1397 : ∀ (v1397 : Int32), 0 ≤ v1397.toInt → v1397.toInt ≤ 1 → WP g mX6_load 212 [(0, .ref (ad g 50)), (1, .ref (ad g 5)), (2, .int so), (3, .int da), (4, .ref (ad g 27)), (5, .int v1288), (6, .int v1289), (7, .int v1296)] [.int v1397, .ref (ad g 50)] I1383 J R (fun r I' J' R' => (XI g n L I' ∧ R' = R) ∧ r = none) := by
                intro v1397 av1397 bv1397
                refine WQ_putz dX6_load_212 fX6_67 rfl rfl (by omega) (lyx_is hy 50 6 rfl) (fun I1399 eI1399 => ?_)
                have hI1399 : XI g n L I1399 := by rw [eI1399]; exact (xi_f hy hI1383 (c := 50) (0) (0) (1) (by decide) (Or.inl (by decide)) (by decide) (by omega) (by omega))
                have e1400 : I1399 (ad g 1) 1 = L := by rw [eI1399, pp_ne _ _ (Or.inl (lyx_ne hy (by decide) (by decide) (by decide)))]; exact e1384
                have e1401 : I1399 (ad g 27) 4 = v1289 := by rw [eI1399, pp_ne _ _ (Or.inl (lyx_ne hy (by decide) (by decide) (by decide)))]; exact e1385
                have e1402 : I1399 (ad g 50) 0 = v1298 := by rw [eI1399, pp_ne _ _ (Or.inr (by decide))]; exact e1386
                have e1403 : I1399 (ad g 50) 1 = v1303 := by rw [eI1399, pp_ne _ _ (Or.inr (by decide))]; exact e1387
                have e1404 : I1399 (ad g 50) 2 = v1309 := by rw [eI1399, pp_ne _ _ (Or.inr (by decide))]; exact e1388
                have e1405 : I1399 (ad g 50) 3 = v1322 := by rw [eI1399, pp_ne _ _ (Or.inr (by decide))]; exact e1389
                have e1406 : I1399 (ad g 50) 4 = v1337 := by rw [eI1399, pp_ne _ _ (Or.inr (by decide))]; exact e1390
                have e1407 : I1399 (ad g 50) 5 = v1348 := by rw [eI1399, pp_ne _ _ (Or.inr (by decide))]; exact e1391
                have e1408 : I1399 (ad g 50) 6 = v1364 := by rw [eI1399, pp_ne _ _ (Or.inr (by decide))]; exact e1392
                have e1409 : I1399 (ad g 50) 7 = v1381 := by rw [eI1399, pp_ne _ _ (Or.inr (by decide))]; exact e1393
                have e1410 : I1399 (ad g 50) 8 = v1397 := by rw [eI1399, pp_self]
                clear eI1399
                exact WP_vret dX6_load_215 rfl ⟨⟨hI1399, rfl⟩, rfl⟩
              refine WQ_if_le 211 dX6_load_204 rfl (fun c1410 => ?_) (fun c1410 => ?_)
              · refine WQ_iconst (0) (0) dX6_load_211 rfl rfl (fun v1412 hv1412 => ?_)
                exact WP_sub (fc rfl (fc rfl (fc rfl (fc rfl (fc rfl (fc rfl (fc rfl (fc rfl fn)))))))) (jn212_1397 v1412 (by omega) (by omega))
              · refine WQ_iconst (1) (1) dX6_load_207 rfl rfl (fun v1413 hv1413 => ?_)
                refine WP_goto 212 dX6_load_208 rfl ?_
                exact WP_sub (fc rfl (fc rfl (fc rfl (fc rfl (fc rfl (fc rfl (fc rfl (fc rfl fn)))))))) (jn212_1397 v1413 (by omega) (by omega))
            refine WQ_icmp_eq 193 dX6_load_177 rfl (fun c1413 => ?_) (fun c1413 => ?_)
            · refine WQ_iconst (0) (0) dX6_load_193 rfl rfl (fun v1415 hv1415 => ?_)
              exact WP_sub (fc rfl (fc rfl (fc rfl (fc rfl (fc rfl (fc rfl (fc rfl (fc rfl fn)))))))) (jn194_1381 v1415 (by omega) (by omega))
            · refine WP_aload_n dX6_load_180 rfl ?_
              refine WQ_getim dX6_load_181 fX6_9 rfl (lyx_is hy 50 6 rfl) e1369 ?_
              refine WP_iload dX6_load_184 rfl ?_
              refine WQ_icmp_ne 193 dX6_load_186 rfl (fun c1415 => ?_) (fun c1415 => ?_)
              · refine WQ_iconst (0) (0) dX6_load_193 rfl rfl (fun v1417 hv1417 => ?_)
                exact WP_sub (fc rfl (fc rfl (fc rfl (fc rfl (fc rfl (fc rfl (fc rfl (fc rfl fn)))))))) (jn194_1381 v1417 (by omega) (by omega))
              · refine WQ_iconst (1) (1) dX6_load_189 rfl rfl (fun v1418 hv1418 => ?_)
                refine WP_goto 194 dX6_load_190 rfl ?_
                exact WP_sub (fc rfl (fc rfl (fc rfl (fc rfl (fc rfl (fc rfl (fc rfl (fc rfl fn)))))))) (jn194_1381 v1418 (by omega) (by omega))
          refine WQ_if_ne 163 dX6_load_154 rfl (fun c1418 => ?_) (fun c1418 => ?_)
          · refine WQ_iconst (0) (0) dX6_load_163 rfl rfl (fun v1420 hv1420 => ?_)
            refine WP_goto 168 dX6_load_164 rfl ?_
            exact WP_sub (fc rfl (fc rfl (fc rfl (fc rfl (fc rfl (fc rfl (fc rfl (fc rfl fn)))))))) (jn168_1364 v1420 (by omega) (by omega))
          · refine WP_iload dX6_load_157 rfl ?_
            refine WQ_iconst (-1) (-1) dX6_load_159 rfl rfl (fun v1421 hv1421 => ?_)
            refine WQ_icmp_ne 167 dX6_load_160 rfl (fun c1421 => ?_) (fun c1421 => ?_)
            · refine WQ_iconst (2) (2) dX6_load_167 rfl rfl (fun v1423 hv1423 => ?_)
              exact WP_sub (fc rfl (fc rfl (fc rfl (fc rfl (fc rfl (fc rfl (fc rfl (fc rfl fn)))))))) (jn168_1364 v1423 (by omega) (by omega))
            · refine WQ_iconst (0) (0) dX6_load_163 rfl rfl (fun v1424 hv1424 => ?_)
              refine WP_goto 168 dX6_load_164 rfl ?_
              exact WP_sub (fc rfl (fc rfl (fc rfl (fc rfl (fc rfl (fc rfl (fc rfl (fc rfl fn)))))))) (jn168_1364 v1424 (by omega) (by omega))
        refine WQ_if_eq 144 dX6_load_137 rfl (fun c1424 => ?_) (fun c1424 => ?_)
        · refine WP_aload_n dX6_load_144 rfl ?_
          refine WQ_getim dX6_load_145 fX6_36 rfl (lyx_is hy 50 6 rfl) e1343 ?_
          exact WP_sub (fc rfl (fc rfl (fc rfl (fc rfl (fc rfl (fc rfl (fc rfl (fc rfl fn)))))))) (jn148_1348 v1303 (by omega) (by omega))
        · refine WQ_iconst (0) (0) dX6_load_140 rfl rfl (fun v1426 hv1426 => ?_)
          refine WP_goto 148 dX6_load_141 rfl ?_
          exact WP_sub (fc rfl (fc rfl (fc rfl (fc rfl (fc rfl (fc rfl (fc rfl (fc rfl fn)))))))) (jn148_1348 v1426 (by omega) (by omega))
      refine WQ_icmp_ne 119 dX6_load_112 rfl (fun c1426 => ?_) (fun c1426 => ?_)
      · refine WP_aload_n dX6_load_119 rfl ?_
        refine WP_getr dX6_load_120 fX6_45 rfl (lyx_is hy 5 0 rfl) (rfx hr 5 1 22 (by decide)) ?_
        refine WP_iload dX6_load_123 rfl ?_
        refine WQ_bipush (7) (7) dX6_load_125 rfl rfl (fun v1428 hv1428 => ?_)
        refine WQ_imulk (7) dX6_load_127 hv1428 (by omega) (by omega) (fun v1429 hv1429 => ?_)
        refine WP_iload_n dX6_load_128 rfl ?_
        refine WQ_iadd dX6_load_129 (by omega) (by omega) (fun v1430 hv1430 => ?_)
        refine WQ_iald dX6_load_130 (lyx_is hy 22 13 rfl) (lyx_n hy 22 21 rfl) (by omega) (by omega) (fun q hq => BT_get hI1324.1 22 0 21 (0) (0) (20) (by decide) q (Nat.zero_le _) hq) (fun v1431 av1431 bv1431 ev1431 => ?_)
        clear ev1431
        exact WP_sub (fc rfl (fc rfl (fc rfl (fc rfl (fc rfl (fc rfl (fc rfl (fc rfl fn)))))))) (jn131_1337 v1431 (by omega) (by omega))
      · refine WQ_iconst (0) (0) dX6_load_115 rfl rfl (fun v1432 hv1432 => ?_)
        refine WP_goto 131 dX6_load_116 rfl ?_
        exact WP_sub (fc rfl (fc rfl (fc rfl (fc rfl (fc rfl (fc rfl (fc rfl (fc rfl fn)))))))) (jn131_1337 v1432 (by omega) (by omega))
    refine WQ_icmp_ne 91 dX6_load_84 rfl (fun c1432 => ?_) (fun c1432 => ?_)
    · refine WP_aload_n dX6_load_91 rfl ?_
      refine WP_getr dX6_load_92 fX6_45 rfl (lyx_is hy 5 0 rfl) (rfx hr 5 1 22 (by decide)) ?_
      refine WP_aload_n dX6_load_95 rfl ?_
      refine WQ_getim dX6_load_96 fX6_9 rfl (lyx_is hy 50 6 rfl) e1313 ?_
      refine WQ_bipush (7) (7) dX6_load_99 rfl rfl (fun v1434 hv1434 => ?_)
      refine WQ_imulk (7) dX6_load_101 hv1434 (by omega) (by omega) (fun v1435 hv1435 => ?_)
      refine WP_iload_n dX6_load_102 rfl ?_
      refine WQ_iadd dX6_load_103 (by omega) (by omega) (fun v1436 hv1436 => ?_)
      refine WQ_iald dX6_load_104 (lyx_is hy 22 13 rfl) (lyx_n hy 22 21 rfl) (by omega) (by omega) (fun q hq => BT_get hI1310.1 22 0 21 (0) (0) (20) (by decide) q (Nat.zero_le _) hq) (fun v1437 av1437 bv1437 ev1437 => ?_)
      clear ev1437
      exact WP_sub (fc rfl (fc rfl (fc rfl (fc rfl (fc rfl (fc rfl (fc rfl (fc rfl fn)))))))) (jn105_1322 v1437 (by omega) (by omega))
    · refine WQ_iconst (0) (0) dX6_load_87 rfl rfl (fun v1438 hv1438 => ?_)
      refine WP_goto 105 dX6_load_88 rfl ?_
      exact WP_sub (fc rfl (fc rfl (fc rfl (fc rfl (fc rfl (fc rfl (fc rfl (fc rfl fn)))))))) (jn105_1322 v1438 (by omega) (by omega))
  refine WX_if_eq 39 dX6_load_32 rfl ?_ ?_
  · refine WQ_iconst (0) (0) dX6_load_39 rfl rfl (fun v1439 hv1439 => ?_)
    exact WP_sub (fc rfl (fc rfl (fc rfl (fc rfl (fc rfl (fc rfl (fc rfl fn))))))) (jn40_1296 v1439 (by omega) (by omega))
  · refine WQ_iconst (1) (1) dX6_load_35 rfl rfl (fun v1440 hv1440 => ?_)
    refine WP_goto 40 dX6_load_36 rfl ?_
    exact WP_sub (fc rfl (fc rfl (fc rfl (fc rfl (fc rfl (fc rfl (fc rfl fn))))))) (jn40_1296 v1440 (by omega) (by omega))
