set_option maxHeartbeats 4000000 in
set_option maxRecDepth 100000 in
theorem sx_mostFromStore_44 {g : GG} {n : Int} {L : Int32} (hy : LyX g)  {I : pI} {J : pJ} {R : pR} (hr : RfX g R) (hI : XI g n L I) (st : Int32) (st_lo : 0 ≤ st.toInt) (st_hi : st.toInt ≤ 5) : SP g mX6_mostFromStore [.ref (ad g 44), .int st] I J R (fun r I' J' R' => (I' = I ∧ J' = J ∧ R' = R) ∧ ∃ v : Int32, r = some (.int v) ∧ 0 ≤ v.toInt ∧ v.toInt ≤ 3 ∧ v.toInt ≤ st.toInt) := by
  refine SP_of ⟨by decide, rfl⟩ (Nat.le_of_ble_eq_true rfl) ?_
  have e849 : I (ad g 1) 1 = L := hI.2
  have b850 := BT_get hI.1 1 1 2 (0) (0) (900) (by decide) 1 (by decide) (by decide)
  rw [e849] at b850
  refine WP_aload_n dX6_mostFromStore_0 rfl ?_
  refine WQ_geti dX6_mostFromStore_1 fX6_60 rfl (lyx_is hy 44 6 rfl) (BT_get hI.1 44 7 8 (0) (0) (1) (by decide) 7 (by decide) (by decide)) (fun v851 ev851 av851 bv851 => ?_)
  refine WQ_if_ne 11 dX6_mostFromStore_4 rfl (fun c851 => ?_) (fun c851 => ?_)
  · refine WP_iload_n dX6_mostFromStore_11 rfl ?_
    refine WP_aload_n dX6_mostFromStore_12 rfl ?_
    refine WQ_geti dX6_mostFromStore_13 fX6_36 rfl (lyx_is hy 44 6 rfl) (BT_get hI.1 44 1 2 (0) (0) (3) (by decide) 1 (by decide) (by decide)) (fun v853 ev853 av853 bv853 => ?_)
    refine WQ_icmp_ge 23 dX6_mostFromStore_16 rfl (fun c853 => ?_) (fun c853 => ?_)
    · refine WP_aload_n dX6_mostFromStore_23 rfl ?_
      refine WQ_getim dX6_mostFromStore_24 fX6_36 rfl (lyx_is hy 44 6 rfl) ev853 ?_
      exact WP_iret dX6_mostFromStore_27 rfl ⟨⟨rfl, rfl, rfl⟩, _, rfl, by omega, by omega, by omega⟩
    · refine WP_iload_n dX6_mostFromStore_19 rfl ?_
      refine WP_goto 27 dX6_mostFromStore_20 rfl ?_
      exact WP_iret dX6_mostFromStore_27 rfl ⟨⟨rfl, rfl, rfl⟩, _, rfl, by omega, by omega, by omega⟩
  · refine WQ_iconst (0) (0) dX6_mostFromStore_7 rfl rfl (fun v855 hv855 => ?_)
    refine WP_goto 27 dX6_mostFromStore_8 rfl ?_
    exact WP_iret dX6_mostFromStore_27 rfl ⟨⟨rfl, rfl, rfl⟩, _, rfl, by omega, by omega, by omega⟩
set_option maxHeartbeats 4000000 in
set_option maxRecDepth 100000 in
theorem sx_priceOf_44 {g : GG} {n : Int} {L : Int32} (hy : LyX g)  {I : pI} {J : pJ} {R : pR} (hr : RfX g R) (hI : XI g n L I) (ea : Int32) (so : Int32) (ea_lo : 0 ≤ ea.toInt) (ea_hi : ea.toInt ≤ 3) (so_lo : 0 ≤ so.toInt) (so_hi : so.toInt ≤ 3) : SP g mX6_priceOf [.ref (ad g 44), .int ea, .int so] I J R (fun r I' J' R' => (I' = I ∧ J' = J ∧ R' = R) ∧ ∃ v : Int32, r = some (.int v) ∧ 0 ≤ v.toInt ∧ v.toInt ≤ 120) := by
  refine SP_of ⟨by decide, rfl⟩ (Nat.le_of_ble_eq_true rfl) ?_
  have e856 : I (ad g 1) 1 = L := hI.2
  have b857 := BT_get hI.1 1 1 2 (0) (0) (900) (by decide) 1 (by decide) (by decide)
  rw [e856] at b857
  refine WP_iload_n dX6_priceOf_0 rfl ?_
  refine WP_aload_n dX6_priceOf_1 rfl ?_
  refine WQ_geti dX6_priceOf_2 fX6_48 rfl (lyx_is hy 44 6 rfl) (BT_get hI.1 44 3 4 (0) (0) (20) (by decide) 3 (by decide) (by decide)) (fun v858 ev858 av858 bv858 => ?_)
  refine WQ_imulb (3) (20) dX6_priceOf_5 ⟨by omega, by omega⟩ ⟨by omega, by omega⟩ (by decide) (fun v859 pv859 av859 bv859 cv859 => ?_)
  refine WP_iload_n dX6_priceOf_6 rfl ?_
  refine WP_aload_n dX6_priceOf_7 rfl ?_
  refine WQ_geti dX6_priceOf_8 fX6_51 rfl (lyx_is hy 44 6 rfl) (BT_get hI.1 44 4 5 (0) (0) (20) (by decide) 4 (by decide) (by decide)) (fun v860 ev860 av860 bv860 => ?_)
  refine WQ_imulb (3) (20) dX6_priceOf_11 ⟨by omega, by omega⟩ ⟨by omega, by omega⟩ (by decide) (fun v861 pv861 av861 bv861 cv861 => ?_)
  refine WQ_iadd dX6_priceOf_12 (by omega) (by omega) (fun v862 hv862 => ?_)
  exact WP_iret dX6_priceOf_13 rfl ⟨⟨rfl, rfl, rfl⟩, _, rfl, by omega, by omega⟩
set_option maxHeartbeats 4000000 in
set_option maxRecDepth 100000 in
theorem sx_load_44_6 {g : GG} {n : Int} {L : Int32} (hy : LyX g)  {I : pI} {J : pJ} {R : pR} (hr : RfX g R) (hT : R (ad g 5) 0 = some (ad g 6)) (hI : XI g n L I) (so : Int32) (da : Int32) (so_lo : 0 ≤ so.toInt) (so_hi : so.toInt ≤ 3) (da_lo : 0 ≤ da.toInt) (da_hi : da.toInt ≤ 6) : SP g mX6_load [.ref (ad g 44), .ref (ad g 5), .int so, .int da] I J R (fun r I' J' R' => (XI g n L I' ∧ R' = R ∧ fz 74 g [44] I I' ∧ fz 74 g [] J J') ∧ r = none) := by
  refine SP_of ⟨by decide, rfl⟩ (Nat.le_of_ble_eq_true rfl) ?_
  have e863 : I (ad g 1) 1 = L := hI.2
  have b864 := BT_get hI.1 1 1 2 (0) (0) (900) (by decide) 1 (by decide) (by decide)
  rw [e863] at b864
  have fr0 : fz 74 g [44] I I := fz_rf
  have frj0 : fz 74 g [] J J := fz_rf
  refine WP_aload_n dX6_load_0 rfl ?_
  refine WP_getr dX6_load_1 fX6_15 rfl (lyx_is hy 5 0 rfl) hT ?_
  refine WP_astore (ls' := [(0, _), (1, _), (2, _), (3, _), (4, _)]) dX6_load_4 (by decide) rfl ?_
  refine WP_iload_n dX6_load_6 rfl ?_
  refine WQ_bipush (7) (7) dX6_load_7 rfl rfl (fun v865 hv865 => ?_)
  refine WQ_imulk (7) dX6_load_9 hv865 (by omega) (by omega) (fun v866 hv866 => ?_)
  refine WP_iload_n dX6_load_10 rfl ?_
  refine WQ_iadd dX6_load_11 (by omega) (by omega) (fun v867 hv867 => ?_)
  refine WP_istore (ls' := [(0, _), (1, _), (2, _), (3, _), (4, _), (5, _)]) dX6_load_12 (by decide) rfl ?_
  refine WP_aload dX6_load_14 rfl ?_
  refine WQ_geti dX6_load_16 fX6_21 rfl (lyx_is hy 6 7 rfl) (BT_get hI.1 6 4 5 (-1) (0) (2) (by decide) 4 (by decide) (by decide)) (fun v868 ev868 av868 bv868 => ?_)
  refine WP_istore (ls' := [(0, _), (1, _), (2, _), (3, _), (4, _), (5, _), (6, _)]) dX6_load_19 (by decide) rfl ?_
  refine WP_aload dX6_load_21 rfl ?_
  refine WP_getr dX6_load_23 fX6_26 rfl (lyx_is hy 6 7 rfl) (rfx hr 6 9 11 (by decide)) ?_
  refine WP_iload_n dX6_load_26 rfl ?_
  refine WQ_ialdu dX6_load_27 (lyx_is hy 11 13 rfl) (lyx_n hy 11 4 rfl) (by omega) (by omega) (fun v869 => ?_)
  refine WP_iload_n dX6_load_28 rfl ?_
  refine WQ_ishru dX6_load_29 (fun v870 => ?_)
  refine WQ_iconst (1) (1) dX6_load_30 rfl rfl (fun v871 hv871 => ?_)
  refine WQ_iandu dX6_load_31 (fun v872 => ?_)
  have jn40_875 : ∀ (v875 : Int32), 0 ≤ v875.toInt → v875.toInt ≤ 1 → WP g mX6_load 40 [(0, .ref (ad g 44)), (1, .ref (ad g 5)), (2, .int so), (3, .int da), (4, .ref (ad g 6)), (5, .int v867), (6, .int v868)] [.int v875] I J R (fun r I' J' R' => (XI g n L I' ∧ R' = R ∧ fz 74 g [44] I I' ∧ fz 74 g [] J J') ∧ r = none) := by
    intro v875 av875 bv875
    refine WP_istore (ls' := [(0, _), (1, _), (2, _), (3, _), (4, _), (5, _), (6, _), (7, _)]) dX6_load_40 (by decide) rfl ?_
    refine WP_aload_n dX6_load_42 rfl ?_
    refine WP_aload dX6_load_43 rfl ?_
    refine WP_getr dX6_load_45 fX6_30 rfl (lyx_is hy 6 7 rfl) (rfx hr 6 11 13 (by decide)) ?_
    refine WP_iload dX6_load_48 rfl ?_
    refine WQ_iald dX6_load_50 (lyx_is hy 13 13 rfl) (lyx_n hy 13 28 rfl) (by omega) (by omega) (fun q hq => BT_get hI.1 13 0 28 (-1) (0) (2) (by decide) q (Nat.zero_le _) hq) (fun v877 av877 bv877 ev877 => ?_)
    clear ev877
    refine WQ_puti dX6_load_51 fX6_9 rfl rfl (lyx_is hy 44 6 rfl) (fun I878 eI878 => ?_)
    have hI878 : XI g n L I878 := by rw [eI878]; exact (xi_f hy hI (c := 44) (-1) (0) (2) (by decide) (Or.inl (by decide)) (by decide) (by omega) (by omega))
    have e879 : I878 (ad g 1) 1 = L := by rw [eI878, pp_ne _ _ (Or.inl (lyx_ne hy (by decide) (by decide) (by decide)))]; exact e863
    have e880 : I878 (ad g 6) 4 = v868 := by rw [eI878, pp_ne _ _ (Or.inl (lyx_ne hy (by decide) (by decide) (by decide)))]; exact ev868
    have e881 : I878 (ad g 44) 0 = v877 := by rw [eI878, pp_self]
    have fr882 : fz 74 g [44] I I878 := by rw [eI878]; exact fzx_pp hy fr0 (by decide) (by decide)
    clear eI878
    refine WP_aload_n dX6_load_54 rfl ?_
    refine WP_aload dX6_load_55 rfl ?_
    refine WP_getr dX6_load_57 fX6_33 rfl (lyx_is hy 6 7 rfl) (rfx hr 6 12 14 (by decide)) ?_
    refine WP_iload dX6_load_60 rfl ?_
    refine WQ_iald dX6_load_62 (lyx_is hy 14 13 rfl) (lyx_n hy 14 28 rfl) (by omega) (by omega) (fun q hq => BT_get hI878.1 14 0 28 (0) (0) (3) (by decide) q (Nat.zero_le _) hq) (fun v883 av883 bv883 ev883 => ?_)
    clear ev883
    refine WQ_puti dX6_load_63 fX6_36 rfl rfl (lyx_is hy 44 6 rfl) (fun I884 eI884 => ?_)
    have hI884 : XI g n L I884 := by rw [eI884]; exact (xi_f hy hI878 (c := 44) (0) (0) (3) (by decide) (Or.inl (by decide)) (by decide) (by omega) (by omega))
    have e885 : I884 (ad g 1) 1 = L := by rw [eI884, pp_ne _ _ (Or.inl (lyx_ne hy (by decide) (by decide) (by decide)))]; exact e879
    have e886 : I884 (ad g 6) 4 = v868 := by rw [eI884, pp_ne _ _ (Or.inl (lyx_ne hy (by decide) (by decide) (by decide)))]; exact e880
    have e887 : I884 (ad g 44) 0 = v877 := by rw [eI884, pp_ne _ _ (Or.inr (by decide))]; exact e881
    have e888 : I884 (ad g 44) 1 = v883 := by rw [eI884, pp_self]
    have fr889 : fz 74 g [44] I I884 := by rw [eI884]; exact fzx_pp hy fr882 (by decide) (by decide)
    clear eI884
    refine WP_aload_n dX6_load_66 rfl ?_
    refine WP_aload dX6_load_67 rfl ?_
    refine WP_getr dX6_load_69 fX6_39 rfl (lyx_is hy 6 7 rfl) (rfx hr 6 13 15 (by decide)) ?_
    refine WP_iload dX6_load_72 rfl ?_
    refine WQ_iald dX6_load_74 (lyx_is hy 15 13 rfl) (lyx_n hy 15 28 rfl) (by omega) (by omega) (fun q hq => BT_get hI884.1 15 0 28 (0) (0) (99) (by decide) q (Nat.zero_le _) hq) (fun v890 av890 bv890 ev890 => ?_)
    clear ev890
    refine WQ_puti dX6_load_75 fX6_42 rfl rfl (lyx_is hy 44 6 rfl) (fun I891 eI891 => ?_)
    have hI891 : XI g n L I891 := by rw [eI891]; exact (xi_f hy hI884 (c := 44) (0) (0) (99) (by decide) (Or.inl (by decide)) (by decide) (by omega) (by omega))
    have e892 : I891 (ad g 1) 1 = L := by rw [eI891, pp_ne _ _ (Or.inl (lyx_ne hy (by decide) (by decide) (by decide)))]; exact e885
    have e893 : I891 (ad g 6) 4 = v868 := by rw [eI891, pp_ne _ _ (Or.inl (lyx_ne hy (by decide) (by decide) (by decide)))]; exact e886
    have e894 : I891 (ad g 44) 0 = v877 := by rw [eI891, pp_ne _ _ (Or.inr (by decide))]; exact e887
    have e895 : I891 (ad g 44) 1 = v883 := by rw [eI891, pp_ne _ _ (Or.inr (by decide))]; exact e888
    have e896 : I891 (ad g 44) 2 = v890 := by rw [eI891, pp_self]
    have fr897 : fz 74 g [44] I I891 := by rw [eI891]; exact fzx_pp hy fr889 (by decide) (by decide)
    clear eI891
    refine WP_aload_n dX6_load_78 rfl ?_
    refine WP_aload_n dX6_load_79 rfl ?_
    refine WQ_getim dX6_load_80 fX6_9 rfl (lyx_is hy 44 6 rfl) e894 ?_
    refine WQ_iconst (-1) (-1) dX6_load_83 rfl rfl (fun v898 hv898 => ?_)
    have jn105_904 : ∀ (v904 : Int32), 0 ≤ v904.toInt → v904.toInt ≤ 20 → WP g mX6_load 105 [(0, .ref (ad g 44)), (1, .ref (ad g 5)), (2, .int so), (3, .int da), (4, .ref (ad g 6)), (5, .int v867), (6, .int v868), (7, .int v875)] [.int v904, .ref (ad g 44)] I891 J R (fun r I' J' R' => (XI g n L I' ∧ R' = R ∧ fz 74 g [44] I I' ∧ fz 74 g [] J J') ∧ r = none) := by
      intro v904 av904 bv904
      refine WQ_puti dX6_load_105 fX6_48 rfl rfl (lyx_is hy 44 6 rfl) (fun I906 eI906 => ?_)
      have hI906 : XI g n L I906 := by rw [eI906]; exact (xi_f hy hI891 (c := 44) (0) (0) (20) (by decide) (Or.inl (by decide)) (by decide) (by omega) (by omega))
      have e907 : I906 (ad g 1) 1 = L := by rw [eI906, pp_ne _ _ (Or.inl (lyx_ne hy (by decide) (by decide) (by decide)))]; exact e892
      have e908 : I906 (ad g 6) 4 = v868 := by rw [eI906, pp_ne _ _ (Or.inl (lyx_ne hy (by decide) (by decide) (by decide)))]; exact e893
      have e909 : I906 (ad g 44) 0 = v877 := by rw [eI906, pp_ne _ _ (Or.inr (by decide))]; exact e894
      have e910 : I906 (ad g 44) 1 = v883 := by rw [eI906, pp_ne _ _ (Or.inr (by decide))]; exact e895
      have e911 : I906 (ad g 44) 2 = v890 := by rw [eI906, pp_ne _ _ (Or.inr (by decide))]; exact e896
      have e912 : I906 (ad g 44) 3 = v904 := by rw [eI906, pp_self]
      have fr913 : fz 74 g [44] I I906 := by rw [eI906]; exact fzx_pp hy fr897 (by decide) (by decide)
      clear eI906
      refine WP_aload_n dX6_load_108 rfl ?_
      refine WP_iload dX6_load_109 rfl ?_
      refine WQ_iconst (-1) (-1) dX6_load_111 rfl rfl (fun v914 hv914 => ?_)
      have jn131_920 : ∀ (v920 : Int32), 0 ≤ v920.toInt → v920.toInt ≤ 20 → WP g mX6_load 131 [(0, .ref (ad g 44)), (1, .ref (ad g 5)), (2, .int so), (3, .int da), (4, .ref (ad g 6)), (5, .int v867), (6, .int v868), (7, .int v875)] [.int v920, .ref (ad g 44)] I906 J R (fun r I' J' R' => (XI g n L I' ∧ R' = R ∧ fz 74 g [44] I I' ∧ fz 74 g [] J J') ∧ r = none) := by
        intro v920 av920 bv920
        refine WQ_puti dX6_load_131 fX6_51 rfl rfl (lyx_is hy 44 6 rfl) (fun I922 eI922 => ?_)
        have hI922 : XI g n L I922 := by rw [eI922]; exact (xi_f hy hI906 (c := 44) (0) (0) (20) (by decide) (Or.inl (by decide)) (by decide) (by omega) (by omega))
        have e923 : I922 (ad g 1) 1 = L := by rw [eI922, pp_ne _ _ (Or.inl (lyx_ne hy (by decide) (by decide) (by decide)))]; exact e907
        have e924 : I922 (ad g 6) 4 = v868 := by rw [eI922, pp_ne _ _ (Or.inl (lyx_ne hy (by decide) (by decide) (by decide)))]; exact e908
        have e925 : I922 (ad g 44) 0 = v877 := by rw [eI922, pp_ne _ _ (Or.inr (by decide))]; exact e909
        have e926 : I922 (ad g 44) 1 = v883 := by rw [eI922, pp_ne _ _ (Or.inr (by decide))]; exact e910
        have e927 : I922 (ad g 44) 2 = v890 := by rw [eI922, pp_ne _ _ (Or.inr (by decide))]; exact e911
        have e928 : I922 (ad g 44) 3 = v904 := by rw [eI922, pp_ne _ _ (Or.inr (by decide))]; exact e912
        have e929 : I922 (ad g 44) 4 = v920 := by rw [eI922, pp_self]
        have fr930 : fz 74 g [44] I I922 := by rw [eI922]; exact fzx_pp hy fr913 (by decide) (by decide)
        clear eI922
        refine WP_aload_n dX6_load_134 rfl ?_
        refine WP_iload dX6_load_135 rfl ?_
        have jn148_932 : ∀ (v932 : Int32), 0 ≤ v932.toInt → v932.toInt ≤ 3 → WP g mX6_load 148 [(0, .ref (ad g 44)), (1, .ref (ad g 5)), (2, .int so), (3, .int da), (4, .ref (ad g 6)), (5, .int v867), (6, .int v868), (7, .int v875)] [.int v932, .ref (ad g 44)] I922 J R (fun r I' J' R' => (XI g n L I' ∧ R' = R ∧ fz 74 g [44] I I' ∧ fz 74 g [] J J') ∧ r = none) := by
          intro v932 av932 bv932
          refine WQ_puti dX6_load_148 fX6_54 rfl rfl (lyx_is hy 44 6 rfl) (fun I934 eI934 => ?_)
          have hI934 : XI g n L I934 := by rw [eI934]; exact (xi_f hy hI922 (c := 44) (0) (0) (3) (by decide) (Or.inl (by decide)) (by decide) (by omega) (by omega))
          have e935 : I934 (ad g 1) 1 = L := by rw [eI934, pp_ne _ _ (Or.inl (lyx_ne hy (by decide) (by decide) (by decide)))]; exact e923
          have e936 : I934 (ad g 6) 4 = v868 := by rw [eI934, pp_ne _ _ (Or.inl (lyx_ne hy (by decide) (by decide) (by decide)))]; exact e924
          have e937 : I934 (ad g 44) 0 = v877 := by rw [eI934, pp_ne _ _ (Or.inr (by decide))]; exact e925
          have e938 : I934 (ad g 44) 1 = v883 := by rw [eI934, pp_ne _ _ (Or.inr (by decide))]; exact e926
          have e939 : I934 (ad g 44) 2 = v890 := by rw [eI934, pp_ne _ _ (Or.inr (by decide))]; exact e927
          have e940 : I934 (ad g 44) 3 = v904 := by rw [eI934, pp_ne _ _ (Or.inr (by decide))]; exact e928
          have e941 : I934 (ad g 44) 4 = v920 := by rw [eI934, pp_ne _ _ (Or.inr (by decide))]; exact e929
          have e942 : I934 (ad g 44) 5 = v932 := by rw [eI934, pp_self]
          have fr943 : fz 74 g [44] I I934 := by rw [eI934]; exact fzx_pp hy fr930 (by decide) (by decide)
          clear eI934
          refine WP_aload_n dX6_load_151 rfl ?_
          refine WP_iload dX6_load_152 rfl ?_
          have jn168_949 : ∀ (v949 : Int32), 0 ≤ v949.toInt → v949.toInt ≤ 2 → WP g mX6_load 168 [(0, .ref (ad g 44)), (1, .ref (ad g 5)), (2, .int so), (3, .int da), (4, .ref (ad g 6)), (5, .int v867), (6, .int v868), (7, .int v875)] [.int v949, .ref (ad g 44)] I934 J R (fun r I' J' R' => (XI g n L I' ∧ R' = R ∧ fz 74 g [44] I I' ∧ fz 74 g [] J J') ∧ r = none) := by
            intro v949 av949 bv949
            refine WQ_puti dX6_load_168 fX6_57 rfl rfl (lyx_is hy 44 6 rfl) (fun I951 eI951 => ?_)
            have hI951 : XI g n L I951 := by rw [eI951]; exact (xi_f hy hI934 (c := 44) (0) (0) (2) (by decide) (Or.inl (by decide)) (by decide) (by omega) (by omega))
            have e952 : I951 (ad g 1) 1 = L := by rw [eI951, pp_ne _ _ (Or.inl (lyx_ne hy (by decide) (by decide) (by decide)))]; exact e935
            have e953 : I951 (ad g 6) 4 = v868 := by rw [eI951, pp_ne _ _ (Or.inl (lyx_ne hy (by decide) (by decide) (by decide)))]; exact e936
            have e954 : I951 (ad g 44) 0 = v877 := by rw [eI951, pp_ne _ _ (Or.inr (by decide))]; exact e937
            have e955 : I951 (ad g 44) 1 = v883 := by rw [eI951, pp_ne _ _ (Or.inr (by decide))]; exact e938
            have e956 : I951 (ad g 44) 2 = v890 := by rw [eI951, pp_ne _ _ (Or.inr (by decide))]; exact e939
            have e957 : I951 (ad g 44) 3 = v904 := by rw [eI951, pp_ne _ _ (Or.inr (by decide))]; exact e940
            have e958 : I951 (ad g 44) 4 = v920 := by rw [eI951, pp_ne _ _ (Or.inr (by decide))]; exact e941
            have e959 : I951 (ad g 44) 5 = v932 := by rw [eI951, pp_ne _ _ (Or.inr (by decide))]; exact e942
            have e960 : I951 (ad g 44) 6 = v949 := by rw [eI951, pp_self]
            have fr961 : fz 74 g [44] I I951 := by rw [eI951]; exact fzx_pp hy fr943 (by decide) (by decide)
            clear eI951
            refine WP_aload_n dX6_load_171 rfl ?_
            refine WP_aload_n dX6_load_172 rfl ?_
            refine WQ_getim dX6_load_173 fX6_9 rfl (lyx_is hy 44 6 rfl) e954 ?_
            refine WQ_iconst (-1) (-1) dX6_load_176 rfl rfl (fun v962 hv962 => ?_)
            have jn194_967 : ∀ (v967 : Int32), 0 ≤ v967.toInt → v967.toInt ≤ 1 → WP g mX6_load 194 [(0, .ref (ad g 44)), (1, .ref (ad g 5)), (2, .int so), (3, .int da), (4, .ref (ad g 6)), (5, .int v867), (6, .int v868), (7, .int v875)] [.int v967, .ref (ad g 44)] I951 J R (fun r I' J' R' => (XI g n L I' ∧ R' = R ∧ fz 74 g [44] I I' ∧ fz 74 g [] J J') ∧ r = none) := by
              intro v967 av967 bv967
              refine WQ_putz dX6_load_194 fX6_60 rfl rfl (by omega) (lyx_is hy 44 6 rfl) (fun I969 eI969 => ?_)
              have hI969 : XI g n L I969 := by rw [eI969]; exact (xi_f hy hI951 (c := 44) (0) (0) (1) (by decide) (Or.inl (by decide)) (by decide) (by omega) (by omega))
              have e970 : I969 (ad g 1) 1 = L := by rw [eI969, pp_ne _ _ (Or.inl (lyx_ne hy (by decide) (by decide) (by decide)))]; exact e952
              have e971 : I969 (ad g 6) 4 = v868 := by rw [eI969, pp_ne _ _ (Or.inl (lyx_ne hy (by decide) (by decide) (by decide)))]; exact e953
              have e972 : I969 (ad g 44) 0 = v877 := by rw [eI969, pp_ne _ _ (Or.inr (by decide))]; exact e954
              have e973 : I969 (ad g 44) 1 = v883 := by rw [eI969, pp_ne _ _ (Or.inr (by decide))]; exact e955
              have e974 : I969 (ad g 44) 2 = v890 := by rw [eI969, pp_ne _ _ (Or.inr (by decide))]; exact e956
              have e975 : I969 (ad g 44) 3 = v904 := by rw [eI969, pp_ne _ _ (Or.inr (by decide))]; exact e957
              have e976 : I969 (ad g 44) 4 = v920 := by rw [eI969, pp_ne _ _ (Or.inr (by decide))]; exact e958
              have e977 : I969 (ad g 44) 5 = v932 := by rw [eI969, pp_ne _ _ (Or.inr (by decide))]; exact e959
              have e978 : I969 (ad g 44) 6 = v949 := by rw [eI969, pp_ne _ _ (Or.inr (by decide))]; exact e960
              have e979 : I969 (ad g 44) 7 = v967 := by rw [eI969, pp_self]
              have fr980 : fz 74 g [44] I I969 := by rw [eI969]; exact fzx_pp hy fr961 (by decide) (by decide)
              clear eI969
              refine WP_aload_n dX6_load_197 rfl ?_
              refine WP_aload_n dX6_load_198 rfl ?_
              refine WP_getr dX6_load_199 fX6_64 rfl (lyx_is hy 5 0 rfl) (rfx hr 5 2 23 (by decide)) ?_
              refine WP_iload_n dX6_load_202 rfl ?_
              refine WQ_iald dX6_load_203 (lyx_is hy 23 13 rfl) (lyx_n hy 23 7 rfl) (by omega) (by omega) (fun q hq => BT_get hI969.1 23 0 7 (0) (0) (900) (by decide) q (Nat.zero_le _) hq) (fun v981 av981 bv981 ev981 => ?_)
              clear ev981
              have jn212_984 : ∀ (v984 : Int32), 0 ≤ v984.toInt → v984.toInt ≤ 1 → WP g mX6_load 212 [(0, .ref (ad g 44)), (1, .ref (ad g 5)), (2, .int so), (3, .int da), (4, .ref (ad g 6)), (5, .int v867), (6, .int v868), (7, .int v875)] [.int v984, .ref (ad g 44)] I969 J R (fun r I' J' R' => (XI g n L I' ∧ R' = R ∧ fz 74 g [44] I I' ∧ fz 74 g [] J J') ∧ r = none) := by
                intro v984 av984 bv984
                refine WQ_putz dX6_load_212 fX6_67 rfl rfl (by omega) (lyx_is hy 44 6 rfl) (fun I986 eI986 => ?_)
                have hI986 : XI g n L I986 := by rw [eI986]; exact (xi_f hy hI969 (c := 44) (0) (0) (1) (by decide) (Or.inl (by decide)) (by decide) (by omega) (by omega))
                have e987 : I986 (ad g 1) 1 = L := by rw [eI986, pp_ne _ _ (Or.inl (lyx_ne hy (by decide) (by decide) (by decide)))]; exact e970
                have e988 : I986 (ad g 6) 4 = v868 := by rw [eI986, pp_ne _ _ (Or.inl (lyx_ne hy (by decide) (by decide) (by decide)))]; exact e971
                have e989 : I986 (ad g 44) 0 = v877 := by rw [eI986, pp_ne _ _ (Or.inr (by decide))]; exact e972
                have e990 : I986 (ad g 44) 1 = v883 := by rw [eI986, pp_ne _ _ (Or.inr (by decide))]; exact e973
                have e991 : I986 (ad g 44) 2 = v890 := by rw [eI986, pp_ne _ _ (Or.inr (by decide))]; exact e974
                have e992 : I986 (ad g 44) 3 = v904 := by rw [eI986, pp_ne _ _ (Or.inr (by decide))]; exact e975
                have e993 : I986 (ad g 44) 4 = v920 := by rw [eI986, pp_ne _ _ (Or.inr (by decide))]; exact e976
                have e994 : I986 (ad g 44) 5 = v932 := by rw [eI986, pp_ne _ _ (Or.inr (by decide))]; exact e977
                have e995 : I986 (ad g 44) 6 = v949 := by rw [eI986, pp_ne _ _ (Or.inr (by decide))]; exact e978
                have e996 : I986 (ad g 44) 7 = v967 := by rw [eI986, pp_ne _ _ (Or.inr (by decide))]; exact e979
                have e997 : I986 (ad g 44) 8 = v984 := by rw [eI986, pp_self]
                have fr998 : fz 74 g [44] I I986 := by rw [eI986]; exact fzx_pp hy fr980 (by decide) (by decide)
                clear eI986
                exact WP_vret dX6_load_215 rfl ⟨⟨hI986, rfl, fr998, frj0⟩, rfl⟩
              refine WQ_if_le 211 dX6_load_204 rfl (fun c998 => ?_) (fun c998 => ?_)
              · refine WQ_iconst (0) (0) dX6_load_211 rfl rfl (fun v1000 hv1000 => ?_)
                exact WP_sub (fc rfl (fc rfl (fc rfl (fc rfl (fc rfl (fc rfl (fc rfl (fc rfl fn)))))))) (jn212_984 v1000 (by omega) (by omega))
              · refine WQ_iconst (1) (1) dX6_load_207 rfl rfl (fun v1001 hv1001 => ?_)
                refine WP_goto 212 dX6_load_208 rfl ?_
                exact WP_sub (fc rfl (fc rfl (fc rfl (fc rfl (fc rfl (fc rfl (fc rfl (fc rfl fn)))))))) (jn212_984 v1001 (by omega) (by omega))
            refine WQ_icmp_eq 193 dX6_load_177 rfl (fun c1001 => ?_) (fun c1001 => ?_)
            · refine WQ_iconst (0) (0) dX6_load_193 rfl rfl (fun v1003 hv1003 => ?_)
              exact WP_sub (fc rfl (fc rfl (fc rfl (fc rfl (fc rfl (fc rfl (fc rfl (fc rfl fn)))))))) (jn194_967 v1003 (by omega) (by omega))
            · refine WP_aload_n dX6_load_180 rfl ?_
              refine WQ_getim dX6_load_181 fX6_9 rfl (lyx_is hy 44 6 rfl) e954 ?_
              refine WP_iload dX6_load_184 rfl ?_
              refine WQ_icmp_ne 193 dX6_load_186 rfl (fun c1003 => ?_) (fun c1003 => ?_)
              · refine WQ_iconst (0) (0) dX6_load_193 rfl rfl (fun v1005 hv1005 => ?_)
                exact WP_sub (fc rfl (fc rfl (fc rfl (fc rfl (fc rfl (fc rfl (fc rfl (fc rfl fn)))))))) (jn194_967 v1005 (by omega) (by omega))
              · refine WQ_iconst (1) (1) dX6_load_189 rfl rfl (fun v1006 hv1006 => ?_)
                refine WP_goto 194 dX6_load_190 rfl ?_
                exact WP_sub (fc rfl (fc rfl (fc rfl (fc rfl (fc rfl (fc rfl (fc rfl (fc rfl fn)))))))) (jn194_967 v1006 (by omega) (by omega))
          refine WQ_if_ne 163 dX6_load_154 rfl (fun c1006 => ?_) (fun c1006 => ?_)
          · refine WQ_iconst (0) (0) dX6_load_163 rfl rfl (fun v1008 hv1008 => ?_)
            refine WP_goto 168 dX6_load_164 rfl ?_
            exact WP_sub (fc rfl (fc rfl (fc rfl (fc rfl (fc rfl (fc rfl (fc rfl (fc rfl fn)))))))) (jn168_949 v1008 (by omega) (by omega))
          · refine WP_iload dX6_load_157 rfl ?_
            refine WQ_iconst (-1) (-1) dX6_load_159 rfl rfl (fun v1009 hv1009 => ?_)
            refine WQ_icmp_ne 167 dX6_load_160 rfl (fun c1009 => ?_) (fun c1009 => ?_)
            · refine WQ_iconst (2) (2) dX6_load_167 rfl rfl (fun v1011 hv1011 => ?_)
              exact WP_sub (fc rfl (fc rfl (fc rfl (fc rfl (fc rfl (fc rfl (fc rfl (fc rfl fn)))))))) (jn168_949 v1011 (by omega) (by omega))
            · refine WQ_iconst (0) (0) dX6_load_163 rfl rfl (fun v1012 hv1012 => ?_)
              refine WP_goto 168 dX6_load_164 rfl ?_
              exact WP_sub (fc rfl (fc rfl (fc rfl (fc rfl (fc rfl (fc rfl (fc rfl (fc rfl fn)))))))) (jn168_949 v1012 (by omega) (by omega))
        refine WQ_if_eq 144 dX6_load_137 rfl (fun c1012 => ?_) (fun c1012 => ?_)
        · refine WP_aload_n dX6_load_144 rfl ?_
          refine WQ_getim dX6_load_145 fX6_36 rfl (lyx_is hy 44 6 rfl) e926 ?_
          exact WP_sub (fc rfl (fc rfl (fc rfl (fc rfl (fc rfl (fc rfl (fc rfl (fc rfl fn)))))))) (jn148_932 v883 (by omega) (by omega))
        · refine WQ_iconst (0) (0) dX6_load_140 rfl rfl (fun v1014 hv1014 => ?_)
          refine WP_goto 148 dX6_load_141 rfl ?_
          exact WP_sub (fc rfl (fc rfl (fc rfl (fc rfl (fc rfl (fc rfl (fc rfl (fc rfl fn)))))))) (jn148_932 v1014 (by omega) (by omega))
      refine WQ_icmp_ne 119 dX6_load_112 rfl (fun c1014 => ?_) (fun c1014 => ?_)
      · refine WP_aload_n dX6_load_119 rfl ?_
        refine WP_getr dX6_load_120 fX6_45 rfl (lyx_is hy 5 0 rfl) (rfx hr 5 1 22 (by decide)) ?_
        refine WP_iload dX6_load_123 rfl ?_
        refine WQ_bipush (7) (7) dX6_load_125 rfl rfl (fun v1016 hv1016 => ?_)
        refine WQ_imulk (7) dX6_load_127 hv1016 (by omega) (by omega) (fun v1017 hv1017 => ?_)
        refine WP_iload_n dX6_load_128 rfl ?_
        refine WQ_iadd dX6_load_129 (by omega) (by omega) (fun v1018 hv1018 => ?_)
        refine WQ_iald dX6_load_130 (lyx_is hy 22 13 rfl) (lyx_n hy 22 21 rfl) (by omega) (by omega) (fun q hq => BT_get hI906.1 22 0 21 (0) (0) (20) (by decide) q (Nat.zero_le _) hq) (fun v1019 av1019 bv1019 ev1019 => ?_)
        clear ev1019
        exact WP_sub (fc rfl (fc rfl (fc rfl (fc rfl (fc rfl (fc rfl (fc rfl (fc rfl fn)))))))) (jn131_920 v1019 (by omega) (by omega))
      · refine WQ_iconst (0) (0) dX6_load_115 rfl rfl (fun v1020 hv1020 => ?_)
        refine WP_goto 131 dX6_load_116 rfl ?_
        exact WP_sub (fc rfl (fc rfl (fc rfl (fc rfl (fc rfl (fc rfl (fc rfl (fc rfl fn)))))))) (jn131_920 v1020 (by omega) (by omega))
    refine WQ_icmp_ne 91 dX6_load_84 rfl (fun c1020 => ?_) (fun c1020 => ?_)
    · refine WP_aload_n dX6_load_91 rfl ?_
      refine WP_getr dX6_load_92 fX6_45 rfl (lyx_is hy 5 0 rfl) (rfx hr 5 1 22 (by decide)) ?_
      refine WP_aload_n dX6_load_95 rfl ?_
      refine WQ_getim dX6_load_96 fX6_9 rfl (lyx_is hy 44 6 rfl) e894 ?_
      refine WQ_bipush (7) (7) dX6_load_99 rfl rfl (fun v1022 hv1022 => ?_)
      refine WQ_imulk (7) dX6_load_101 hv1022 (by omega) (by omega) (fun v1023 hv1023 => ?_)
      refine WP_iload_n dX6_load_102 rfl ?_
      refine WQ_iadd dX6_load_103 (by omega) (by omega) (fun v1024 hv1024 => ?_)
      refine WQ_iald dX6_load_104 (lyx_is hy 22 13 rfl) (lyx_n hy 22 21 rfl) (by omega) (by omega) (fun q hq => BT_get hI891.1 22 0 21 (0) (0) (20) (by decide) q (Nat.zero_le _) hq) (fun v1025 av1025 bv1025 ev1025 => ?_)
      clear ev1025
      exact WP_sub (fc rfl (fc rfl (fc rfl (fc rfl (fc rfl (fc rfl (fc rfl (fc rfl fn)))))))) (jn105_904 v1025 (by omega) (by omega))
    · refine WQ_iconst (0) (0) dX6_load_87 rfl rfl (fun v1026 hv1026 => ?_)
      refine WP_goto 105 dX6_load_88 rfl ?_
      exact WP_sub (fc rfl (fc rfl (fc rfl (fc rfl (fc rfl (fc rfl (fc rfl (fc rfl fn)))))))) (jn105_904 v1026 (by omega) (by omega))
  refine WX_if_eq 39 dX6_load_32 rfl ?_ ?_
  · refine WQ_iconst (0) (0) dX6_load_39 rfl rfl (fun v1027 hv1027 => ?_)
    exact WP_sub (fc rfl (fc rfl (fc rfl (fc rfl (fc rfl (fc rfl (fc rfl fn))))))) (jn40_875 v1027 (by omega) (by omega))
  · refine WQ_iconst (1) (1) dX6_load_35 rfl rfl (fun v1028 hv1028 => ?_)
    refine WP_goto 40 dX6_load_36 rfl ?_
    exact WP_sub (fc rfl (fc rfl (fc rfl (fc rfl (fc rfl (fc rfl (fc rfl fn))))))) (jn40_875 v1028 (by omega) (by omega))
set_option maxHeartbeats 4000000 in
set_option maxRecDepth 100000 in
theorem sx_load_44_27 {g : GG} {n : Int} {L : Int32} (hy : LyX g)  {I : pI} {J : pJ} {R : pR} (hr : RfX g R) (hT : R (ad g 5) 0 = some (ad g 27)) (hI : XI g n L I) (so : Int32) (da : Int32) (so_lo : 0 ≤ so.toInt) (so_hi : so.toInt ≤ 3) (da_lo : 0 ≤ da.toInt) (da_hi : da.toInt ≤ 6) : SP g mX6_load [.ref (ad g 44), .ref (ad g 5), .int so, .int da] I J R (fun r I' J' R' => (XI g n L I' ∧ R' = R ∧ fz 74 g [44] I I' ∧ fz 74 g [] J J') ∧ r = none) := by
  refine SP_of ⟨by decide, rfl⟩ (Nat.le_of_ble_eq_true rfl) ?_
  have e1029 : I (ad g 1) 1 = L := hI.2
  have b1030 := BT_get hI.1 1 1 2 (0) (0) (900) (by decide) 1 (by decide) (by decide)
  rw [e1029] at b1030
  have fr0 : fz 74 g [44] I I := fz_rf
  have frj0 : fz 74 g [] J J := fz_rf
  refine WP_aload_n dX6_load_0 rfl ?_
  refine WP_getr dX6_load_1 fX6_15 rfl (lyx_is hy 5 0 rfl) hT ?_
  refine WP_astore (ls' := [(0, _), (1, _), (2, _), (3, _), (4, _)]) dX6_load_4 (by decide) rfl ?_
  refine WP_iload_n dX6_load_6 rfl ?_
  refine WQ_bipush (7) (7) dX6_load_7 rfl rfl (fun v1031 hv1031 => ?_)
  refine WQ_imulk (7) dX6_load_9 hv1031 (by omega) (by omega) (fun v1032 hv1032 => ?_)
  refine WP_iload_n dX6_load_10 rfl ?_
  refine WQ_iadd dX6_load_11 (by omega) (by omega) (fun v1033 hv1033 => ?_)
  refine WP_istore (ls' := [(0, _), (1, _), (2, _), (3, _), (4, _), (5, _)]) dX6_load_12 (by decide) rfl ?_
  refine WP_aload dX6_load_14 rfl ?_
  refine WQ_geti dX6_load_16 fX6_21 rfl (lyx_is hy 27 7 rfl) (BT_get hI.1 27 4 5 (-1) (0) (2) (by decide) 4 (by decide) (by decide)) (fun v1034 ev1034 av1034 bv1034 => ?_)
  refine WP_istore (ls' := [(0, _), (1, _), (2, _), (3, _), (4, _), (5, _), (6, _)]) dX6_load_19 (by decide) rfl ?_
  refine WP_aload dX6_load_21 rfl ?_
  refine WP_getr dX6_load_23 fX6_26 rfl (lyx_is hy 27 7 rfl) (rfx hr 27 9 32 (by decide)) ?_
  refine WP_iload_n dX6_load_26 rfl ?_
  refine WQ_ialdu dX6_load_27 (lyx_is hy 32 13 rfl) (lyx_n hy 32 4 rfl) (by omega) (by omega) (fun v1035 => ?_)
  refine WP_iload_n dX6_load_28 rfl ?_
  refine WQ_ishru dX6_load_29 (fun v1036 => ?_)
  refine WQ_iconst (1) (1) dX6_load_30 rfl rfl (fun v1037 hv1037 => ?_)
  refine WQ_iandu dX6_load_31 (fun v1038 => ?_)
  have jn40_1041 : ∀ (v1041 : Int32), 0 ≤ v1041.toInt → v1041.toInt ≤ 1 → WP g mX6_load 40 [(0, .ref (ad g 44)), (1, .ref (ad g 5)), (2, .int so), (3, .int da), (4, .ref (ad g 27)), (5, .int v1033), (6, .int v1034)] [.int v1041] I J R (fun r I' J' R' => (XI g n L I' ∧ R' = R ∧ fz 74 g [44] I I' ∧ fz 74 g [] J J') ∧ r = none) := by
    intro v1041 av1041 bv1041
    refine WP_istore (ls' := [(0, _), (1, _), (2, _), (3, _), (4, _), (5, _), (6, _), (7, _)]) dX6_load_40 (by decide) rfl ?_
    refine WP_aload_n dX6_load_42 rfl ?_
    refine WP_aload dX6_load_43 rfl ?_
    refine WP_getr dX6_load_45 fX6_30 rfl (lyx_is hy 27 7 rfl) (rfx hr 27 11 34 (by decide)) ?_
    refine WP_iload dX6_load_48 rfl ?_
    refine WQ_iald dX6_load_50 (lyx_is hy 34 13 rfl) (lyx_n hy 34 28 rfl) (by omega) (by omega) (fun q hq => BT_get hI.1 34 0 28 (-1) (0) (2) (by decide) q (Nat.zero_le _) hq) (fun v1043 av1043 bv1043 ev1043 => ?_)
    clear ev1043
    refine WQ_puti dX6_load_51 fX6_9 rfl rfl (lyx_is hy 44 6 rfl) (fun I1044 eI1044 => ?_)
    have hI1044 : XI g n L I1044 := by rw [eI1044]; exact (xi_f hy hI (c := 44) (-1) (0) (2) (by decide) (Or.inl (by decide)) (by decide) (by omega) (by omega))
    have e1045 : I1044 (ad g 1) 1 = L := by rw [eI1044, pp_ne _ _ (Or.inl (lyx_ne hy (by decide) (by decide) (by decide)))]; exact e1029
    have e1046 : I1044 (ad g 27) 4 = v1034 := by rw [eI1044, pp_ne _ _ (Or.inl (lyx_ne hy (by decide) (by decide) (by decide)))]; exact ev1034
    have e1047 : I1044 (ad g 44) 0 = v1043 := by rw [eI1044, pp_self]
    have fr1048 : fz 74 g [44] I I1044 := by rw [eI1044]; exact fzx_pp hy fr0 (by decide) (by decide)
    clear eI1044
    refine WP_aload_n dX6_load_54 rfl ?_
    refine WP_aload dX6_load_55 rfl ?_
    refine WP_getr dX6_load_57 fX6_33 rfl (lyx_is hy 27 7 rfl) (rfx hr 27 12 35 (by decide)) ?_
    refine WP_iload dX6_load_60 rfl ?_
    refine WQ_iald dX6_load_62 (lyx_is hy 35 13 rfl) (lyx_n hy 35 28 rfl) (by omega) (by omega) (fun q hq => BT_get hI1044.1 35 0 28 (0) (0) (3) (by decide) q (Nat.zero_le _) hq) (fun v1049 av1049 bv1049 ev1049 => ?_)
    clear ev1049
    refine WQ_puti dX6_load_63 fX6_36 rfl rfl (lyx_is hy 44 6 rfl) (fun I1050 eI1050 => ?_)
    have hI1050 : XI g n L I1050 := by rw [eI1050]; exact (xi_f hy hI1044 (c := 44) (0) (0) (3) (by decide) (Or.inl (by decide)) (by decide) (by omega) (by omega))
    have e1051 : I1050 (ad g 1) 1 = L := by rw [eI1050, pp_ne _ _ (Or.inl (lyx_ne hy (by decide) (by decide) (by decide)))]; exact e1045
    have e1052 : I1050 (ad g 27) 4 = v1034 := by rw [eI1050, pp_ne _ _ (Or.inl (lyx_ne hy (by decide) (by decide) (by decide)))]; exact e1046
    have e1053 : I1050 (ad g 44) 0 = v1043 := by rw [eI1050, pp_ne _ _ (Or.inr (by decide))]; exact e1047
    have e1054 : I1050 (ad g 44) 1 = v1049 := by rw [eI1050, pp_self]
    have fr1055 : fz 74 g [44] I I1050 := by rw [eI1050]; exact fzx_pp hy fr1048 (by decide) (by decide)
    clear eI1050
    refine WP_aload_n dX6_load_66 rfl ?_
    refine WP_aload dX6_load_67 rfl ?_
    refine WP_getr dX6_load_69 fX6_39 rfl (lyx_is hy 27 7 rfl) (rfx hr 27 13 36 (by decide)) ?_
    refine WP_iload dX6_load_72 rfl ?_
    refine WQ_iald dX6_load_74 (lyx_is hy 36 13 rfl) (lyx_n hy 36 28 rfl) (by omega) (by omega) (fun q hq => BT_get hI1050.1 36 0 28 (0) (0) (99) (by decide) q (Nat.zero_le _) hq) (fun v1056 av1056 bv1056 ev1056 => ?_)
    clear ev1056
    refine WQ_puti dX6_load_75 fX6_42 rfl rfl (lyx_is hy 44 6 rfl) (fun I1057 eI1057 => ?_)
    have hI1057 : XI g n L I1057 := by rw [eI1057]; exact (xi_f hy hI1050 (c := 44) (0) (0) (99) (by decide) (Or.inl (by decide)) (by decide) (by omega) (by omega))
    have e1058 : I1057 (ad g 1) 1 = L := by rw [eI1057, pp_ne _ _ (Or.inl (lyx_ne hy (by decide) (by decide) (by decide)))]; exact e1051
    have e1059 : I1057 (ad g 27) 4 = v1034 := by rw [eI1057, pp_ne _ _ (Or.inl (lyx_ne hy (by decide) (by decide) (by decide)))]; exact e1052
    have e1060 : I1057 (ad g 44) 0 = v1043 := by rw [eI1057, pp_ne _ _ (Or.inr (by decide))]; exact e1053
    have e1061 : I1057 (ad g 44) 1 = v1049 := by rw [eI1057, pp_ne _ _ (Or.inr (by decide))]; exact e1054
    have e1062 : I1057 (ad g 44) 2 = v1056 := by rw [eI1057, pp_self]
    have fr1063 : fz 74 g [44] I I1057 := by rw [eI1057]; exact fzx_pp hy fr1055 (by decide) (by decide)
    clear eI1057
    refine WP_aload_n dX6_load_78 rfl ?_
    refine WP_aload_n dX6_load_79 rfl ?_
    refine WQ_getim dX6_load_80 fX6_9 rfl (lyx_is hy 44 6 rfl) e1060 ?_
    refine WQ_iconst (-1) (-1) dX6_load_83 rfl rfl (fun v1064 hv1064 => ?_)
    have jn105_1070 : ∀ (v1070 : Int32), 0 ≤ v1070.toInt → v1070.toInt ≤ 20 → WP g mX6_load 105 [(0, .ref (ad g 44)), (1, .ref (ad g 5)), (2, .int so), (3, .int da), (4, .ref (ad g 27)), (5, .int v1033), (6, .int v1034), (7, .int v1041)] [.int v1070, .ref (ad g 44)] I1057 J R (fun r I' J' R' => (XI g n L I' ∧ R' = R ∧ fz 74 g [44] I I' ∧ fz 74 g [] J J') ∧ r = none) := by
      intro v1070 av1070 bv1070
      refine WQ_puti dX6_load_105 fX6_48 rfl rfl (lyx_is hy 44 6 rfl) (fun I1072 eI1072 => ?_)
      have hI1072 : XI g n L I1072 := by rw [eI1072]; exact (xi_f hy hI1057 (c := 44) (0) (0) (20) (by decide) (Or.inl (by decide)) (by decide) (by omega) (by omega))
      have e1073 : I1072 (ad g 1) 1 = L := by rw [eI1072, pp_ne _ _ (Or.inl (lyx_ne hy (by decide) (by decide) (by decide)))]; exact e1058
      have e1074 : I1072 (ad g 27) 4 = v1034 := by rw [eI1072, pp_ne _ _ (Or.inl (lyx_ne hy (by decide) (by decide) (by decide)))]; exact e1059
      have e1075 : I1072 (ad g 44) 0 = v1043 := by rw [eI1072, pp_ne _ _ (Or.inr (by decide))]; exact e1060
      have e1076 : I1072 (ad g 44) 1 = v1049 := by rw [eI1072, pp_ne _ _ (Or.inr (by decide))]; exact e1061
      have e1077 : I1072 (ad g 44) 2 = v1056 := by rw [eI1072, pp_ne _ _ (Or.inr (by decide))]; exact e1062
      have e1078 : I1072 (ad g 44) 3 = v1070 := by rw [eI1072, pp_self]
      have fr1079 : fz 74 g [44] I I1072 := by rw [eI1072]; exact fzx_pp hy fr1063 (by decide) (by decide)
      clear eI1072
      refine WP_aload_n dX6_load_108 rfl ?_
      refine WP_iload dX6_load_109 rfl ?_
      refine WQ_iconst (-1) (-1) dX6_load_111 rfl rfl (fun v1080 hv1080 => ?_)
      have jn131_1086 : ∀ (v1086 : Int32), 0 ≤ v1086.toInt → v1086.toInt ≤ 20 → WP g mX6_load 131 [(0, .ref (ad g 44)), (1, .ref (ad g 5)), (2, .int so), (3, .int da), (4, .ref (ad g 27)), (5, .int v1033), (6, .int v1034), (7, .int v1041)] [.int v1086, .ref (ad g 44)] I1072 J R (fun r I' J' R' => (XI g n L I' ∧ R' = R ∧ fz 74 g [44] I I' ∧ fz 74 g [] J J') ∧ r = none) := by
        intro v1086 av1086 bv1086
        refine WQ_puti dX6_load_131 fX6_51 rfl rfl (lyx_is hy 44 6 rfl) (fun I1088 eI1088 => ?_)
        have hI1088 : XI g n L I1088 := by rw [eI1088]; exact (xi_f hy hI1072 (c := 44) (0) (0) (20) (by decide) (Or.inl (by decide)) (by decide) (by omega) (by omega))
        have e1089 : I1088 (ad g 1) 1 = L := by rw [eI1088, pp_ne _ _ (Or.inl (lyx_ne hy (by decide) (by decide) (by decide)))]; exact e1073
        have e1090 : I1088 (ad g 27) 4 = v1034 := by rw [eI1088, pp_ne _ _ (Or.inl (lyx_ne hy (by decide) (by decide) (by decide)))]; exact e1074
        have e1091 : I1088 (ad g 44) 0 = v1043 := by rw [eI1088, pp_ne _ _ (Or.inr (by decide))]; exact e1075
        have e1092 : I1088 (ad g 44) 1 = v1049 := by rw [eI1088, pp_ne _ _ (Or.inr (by decide))]; exact e1076
        have e1093 : I1088 (ad g 44) 2 = v1056 := by rw [eI1088, pp_ne _ _ (Or.inr (by decide))]; exact e1077
        have e1094 : I1088 (ad g 44) 3 = v1070 := by rw [eI1088, pp_ne _ _ (Or.inr (by decide))]; exact e1078
        have e1095 : I1088 (ad g 44) 4 = v1086 := by rw [eI1088, pp_self]
        have fr1096 : fz 74 g [44] I I1088 := by rw [eI1088]; exact fzx_pp hy fr1079 (by decide) (by decide)
        clear eI1088
        refine WP_aload_n dX6_load_134 rfl ?_
        refine WP_iload dX6_load_135 rfl ?_
        have jn148_1098 : ∀ (v1098 : Int32), 0 ≤ v1098.toInt → v1098.toInt ≤ 3 → WP g mX6_load 148 [(0, .ref (ad g 44)), (1, .ref (ad g 5)), (2, .int so), (3, .int da), (4, .ref (ad g 27)), (5, .int v1033), (6, .int v1034), (7, .int v1041)] [.int v1098, .ref (ad g 44)] I1088 J R (fun r I' J' R' => (XI g n L I' ∧ R' = R ∧ fz 74 g [44] I I' ∧ fz 74 g [] J J') ∧ r = none) := by
          intro v1098 av1098 bv1098
          refine WQ_puti dX6_load_148 fX6_54 rfl rfl (lyx_is hy 44 6 rfl) (fun I1100 eI1100 => ?_)
          have hI1100 : XI g n L I1100 := by rw [eI1100]; exact (xi_f hy hI1088 (c := 44) (0) (0) (3) (by decide) (Or.inl (by decide)) (by decide) (by omega) (by omega))
          have e1101 : I1100 (ad g 1) 1 = L := by rw [eI1100, pp_ne _ _ (Or.inl (lyx_ne hy (by decide) (by decide) (by decide)))]; exact e1089
          have e1102 : I1100 (ad g 27) 4 = v1034 := by rw [eI1100, pp_ne _ _ (Or.inl (lyx_ne hy (by decide) (by decide) (by decide)))]; exact e1090
          have e1103 : I1100 (ad g 44) 0 = v1043 := by rw [eI1100, pp_ne _ _ (Or.inr (by decide))]; exact e1091
          have e1104 : I1100 (ad g 44) 1 = v1049 := by rw [eI1100, pp_ne _ _ (Or.inr (by decide))]; exact e1092
          have e1105 : I1100 (ad g 44) 2 = v1056 := by rw [eI1100, pp_ne _ _ (Or.inr (by decide))]; exact e1093
          have e1106 : I1100 (ad g 44) 3 = v1070 := by rw [eI1100, pp_ne _ _ (Or.inr (by decide))]; exact e1094
          have e1107 : I1100 (ad g 44) 4 = v1086 := by rw [eI1100, pp_ne _ _ (Or.inr (by decide))]; exact e1095
          have e1108 : I1100 (ad g 44) 5 = v1098 := by rw [eI1100, pp_self]
          have fr1109 : fz 74 g [44] I I1100 := by rw [eI1100]; exact fzx_pp hy fr1096 (by decide) (by decide)
          clear eI1100
          refine WP_aload_n dX6_load_151 rfl ?_
          refine WP_iload dX6_load_152 rfl ?_
          have jn168_1115 : ∀ (v1115 : Int32), 0 ≤ v1115.toInt → v1115.toInt ≤ 2 → WP g mX6_load 168 [(0, .ref (ad g 44)), (1, .ref (ad g 5)), (2, .int so), (3, .int da), (4, .ref (ad g 27)), (5, .int v1033), (6, .int v1034), (7, .int v1041)] [.int v1115, .ref (ad g 44)] I1100 J R (fun r I' J' R' => (XI g n L I' ∧ R' = R ∧ fz 74 g [44] I I' ∧ fz 74 g [] J J') ∧ r = none) := by
            intro v1115 av1115 bv1115
            refine WQ_puti dX6_load_168 fX6_57 rfl rfl (lyx_is hy 44 6 rfl) (fun I1117 eI1117 => ?_)
            have hI1117 : XI g n L I1117 := by rw [eI1117]; exact (xi_f hy hI1100 (c := 44) (0) (0) (2) (by decide) (Or.inl (by decide)) (by decide) (by omega) (by omega))
            have e1118 : I1117 (ad g 1) 1 = L := by rw [eI1117, pp_ne _ _ (Or.inl (lyx_ne hy (by decide) (by decide) (by decide)))]; exact e1101
            have e1119 : I1117 (ad g 27) 4 = v1034 := by rw [eI1117, pp_ne _ _ (Or.inl (lyx_ne hy (by decide) (by decide) (by decide)))]; exact e1102
            have e1120 : I1117 (ad g 44) 0 = v1043 := by rw [eI1117, pp_ne _ _ (Or.inr (by decide))]; exact e1103
            have e1121 : I1117 (ad g 44) 1 = v1049 := by rw [eI1117, pp_ne _ _ (Or.inr (by decide))]; exact e1104
            have e1122 : I1117 (ad g 44) 2 = v1056 := by rw [eI1117, pp_ne _ _ (Or.inr (by decide))]; exact e1105
            have e1123 : I1117 (ad g 44) 3 = v1070 := by rw [eI1117, pp_ne _ _ (Or.inr (by decide))]; exact e1106
            have e1124 : I1117 (ad g 44) 4 = v1086 := by rw [eI1117, pp_ne _ _ (Or.inr (by decide))]; exact e1107
            have e1125 : I1117 (ad g 44) 5 = v1098 := by rw [eI1117, pp_ne _ _ (Or.inr (by decide))]; exact e1108
            have e1126 : I1117 (ad g 44) 6 = v1115 := by rw [eI1117, pp_self]
            have fr1127 : fz 74 g [44] I I1117 := by rw [eI1117]; exact fzx_pp hy fr1109 (by decide) (by decide)
            clear eI1117
            refine WP_aload_n dX6_load_171 rfl ?_
            refine WP_aload_n dX6_load_172 rfl ?_
            refine WQ_getim dX6_load_173 fX6_9 rfl (lyx_is hy 44 6 rfl) e1120 ?_
            refine WQ_iconst (-1) (-1) dX6_load_176 rfl rfl (fun v1128 hv1128 => ?_)
            have jn194_1133 : ∀ (v1133 : Int32), 0 ≤ v1133.toInt → v1133.toInt ≤ 1 → WP g mX6_load 194 [(0, .ref (ad g 44)), (1, .ref (ad g 5)), (2, .int so), (3, .int da), (4, .ref (ad g 27)), (5, .int v1033), (6, .int v1034), (7, .int v1041)] [.int v1133, .ref (ad g 44)] I1117 J R (fun r I' J' R' => (XI g n L I' ∧ R' = R ∧ fz 74 g [44] I I' ∧ fz 74 g [] J J') ∧ r = none) := by
              intro v1133 av1133 bv1133
              refine WQ_putz dX6_load_194 fX6_60 rfl rfl (by omega) (lyx_is hy 44 6 rfl) (fun I1135 eI1135 => ?_)
              have hI1135 : XI g n L I1135 := by rw [eI1135]; exact (xi_f hy hI1117 (c := 44) (0) (0) (1) (by decide) (Or.inl (by decide)) (by decide) (by omega) (by omega))
              have e1136 : I1135 (ad g 1) 1 = L := by rw [eI1135, pp_ne _ _ (Or.inl (lyx_ne hy (by decide) (by decide) (by decide)))]; exact e1118
              have e1137 : I1135 (ad g 27) 4 = v1034 := by rw [eI1135, pp_ne _ _ (Or.inl (lyx_ne hy (by decide) (by decide) (by decide)))]; exact e1119
              have e1138 : I1135 (ad g 44) 0 = v1043 := by rw [eI1135, pp_ne _ _ (Or.inr (by decide))]; exact e1120
              have e1139 : I1135 (ad g 44) 1 = v1049 := by rw [eI1135, pp_ne _ _ (Or.inr (by decide))]; exact e1121
              have e1140 : I1135 (ad g 44) 2 = v1056 := by rw [eI1135, pp_ne _ _ (Or.inr (by decide))]; exact e1122
              have e1141 : I1135 (ad g 44) 3 = v1070 := by rw [eI1135, pp_ne _ _ (Or.inr (by decide))]; exact e1123
              have e1142 : I1135 (ad g 44) 4 = v1086 := by rw [eI1135, pp_ne _ _ (Or.inr (by decide))]; exact e1124
              have e1143 : I1135 (ad g 44) 5 = v1098 := by rw [eI1135, pp_ne _ _ (Or.inr (by decide))]; exact e1125
              have e1144 : I1135 (ad g 44) 6 = v1115 := by rw [eI1135, pp_ne _ _ (Or.inr (by decide))]; exact e1126
              have e1145 : I1135 (ad g 44) 7 = v1133 := by rw [eI1135, pp_self]
              have fr1146 : fz 74 g [44] I I1135 := by rw [eI1135]; exact fzx_pp hy fr1127 (by decide) (by decide)
              clear eI1135
              refine WP_aload_n dX6_load_197 rfl ?_
              refine WP_aload_n dX6_load_198 rfl ?_
              refine WP_getr dX6_load_199 fX6_64 rfl (lyx_is hy 5 0 rfl) (rfx hr 5 2 23 (by decide)) ?_
              refine WP_iload_n dX6_load_202 rfl ?_
              refine WQ_iald dX6_load_203 (lyx_is hy 23 13 rfl) (lyx_n hy 23 7 rfl) (by omega) (by omega) (fun q hq => BT_get hI1135.1 23 0 7 (0) (0) (900) (by decide) q (Nat.zero_le _) hq) (fun v1147 av1147 bv1147 ev1147 => ?_)
              clear ev1147
              have jn212_1150 : ∀ (v1150 : Int32), 0 ≤ v1150.toInt → v1150.toInt ≤ 1 → WP g mX6_load 212 [(0, .ref (ad g 44)), (1, .ref (ad g 5)), (2, .int so), (3, .int da), (4, .ref (ad g 27)), (5, .int v1033), (6, .int v1034), (7, .int v1041)] [.int v1150, .ref (ad g 44)] I1135 J R (fun r I' J' R' => (XI g n L I' ∧ R' = R ∧ fz 74 g [44] I I' ∧ fz 74 g [] J J') ∧ r = none) := by
                intro v1150 av1150 bv1150
                refine WQ_putz dX6_load_212 fX6_67 rfl rfl (by omega) (lyx_is hy 44 6 rfl) (fun I1152 eI1152 => ?_)
                have hI1152 : XI g n L I1152 := by rw [eI1152]; exact (xi_f hy hI1135 (c := 44) (0) (0) (1) (by decide) (Or.inl (by decide)) (by decide) (by omega) (by omega))
                have e1153 : I1152 (ad g 1) 1 = L := by rw [eI1152, pp_ne _ _ (Or.inl (lyx_ne hy (by decide) (by decide) (by decide)))]; exact e1136
                have e1154 : I1152 (ad g 27) 4 = v1034 := by rw [eI1152, pp_ne _ _ (Or.inl (lyx_ne hy (by decide) (by decide) (by decide)))]; exact e1137
                have e1155 : I1152 (ad g 44) 0 = v1043 := by rw [eI1152, pp_ne _ _ (Or.inr (by decide))]; exact e1138
                have e1156 : I1152 (ad g 44) 1 = v1049 := by rw [eI1152, pp_ne _ _ (Or.inr (by decide))]; exact e1139
                have e1157 : I1152 (ad g 44) 2 = v1056 := by rw [eI1152, pp_ne _ _ (Or.inr (by decide))]; exact e1140
                have e1158 : I1152 (ad g 44) 3 = v1070 := by rw [eI1152, pp_ne _ _ (Or.inr (by decide))]; exact e1141
                have e1159 : I1152 (ad g 44) 4 = v1086 := by rw [eI1152, pp_ne _ _ (Or.inr (by decide))]; exact e1142
                have e1160 : I1152 (ad g 44) 5 = v1098 := by rw [eI1152, pp_ne _ _ (Or.inr (by decide))]; exact e1143
                have e1161 : I1152 (ad g 44) 6 = v1115 := by rw [eI1152, pp_ne _ _ (Or.inr (by decide))]; exact e1144
                have e1162 : I1152 (ad g 44) 7 = v1133 := by rw [eI1152, pp_ne _ _ (Or.inr (by decide))]; exact e1145
                have e1163 : I1152 (ad g 44) 8 = v1150 := by rw [eI1152, pp_self]
                have fr1164 : fz 74 g [44] I I1152 := by rw [eI1152]; exact fzx_pp hy fr1146 (by decide) (by decide)
                clear eI1152
                exact WP_vret dX6_load_215 rfl ⟨⟨hI1152, rfl, fr1164, frj0⟩, rfl⟩
              refine WQ_if_le 211 dX6_load_204 rfl (fun c1164 => ?_) (fun c1164 => ?_)
              · refine WQ_iconst (0) (0) dX6_load_211 rfl rfl (fun v1166 hv1166 => ?_)
                exact WP_sub (fc rfl (fc rfl (fc rfl (fc rfl (fc rfl (fc rfl (fc rfl (fc rfl fn)))))))) (jn212_1150 v1166 (by omega) (by omega))
              · refine WQ_iconst (1) (1) dX6_load_207 rfl rfl (fun v1167 hv1167 => ?_)
                refine WP_goto 212 dX6_load_208 rfl ?_
                exact WP_sub (fc rfl (fc rfl (fc rfl (fc rfl (fc rfl (fc rfl (fc rfl (fc rfl fn)))))))) (jn212_1150 v1167 (by omega) (by omega))
            refine WQ_icmp_eq 193 dX6_load_177 rfl (fun c1167 => ?_) (fun c1167 => ?_)
            · refine WQ_iconst (0) (0) dX6_load_193 rfl rfl (fun v1169 hv1169 => ?_)
              exact WP_sub (fc rfl (fc rfl (fc rfl (fc rfl (fc rfl (fc rfl (fc rfl (fc rfl fn)))))))) (jn194_1133 v1169 (by omega) (by omega))
            · refine WP_aload_n dX6_load_180 rfl ?_
              refine WQ_getim dX6_load_181 fX6_9 rfl (lyx_is hy 44 6 rfl) e1120 ?_
              refine WP_iload dX6_load_184 rfl ?_
              refine WQ_icmp_ne 193 dX6_load_186 rfl (fun c1169 => ?_) (fun c1169 => ?_)
              · refine WQ_iconst (0) (0) dX6_load_193 rfl rfl (fun v1171 hv1171 => ?_)
                exact WP_sub (fc rfl (fc rfl (fc rfl (fc rfl (fc rfl (fc rfl (fc rfl (fc rfl fn)))))))) (jn194_1133 v1171 (by omega) (by omega))
              · refine WQ_iconst (1) (1) dX6_load_189 rfl rfl (fun v1172 hv1172 => ?_)
                refine WP_goto 194 dX6_load_190 rfl ?_
                exact WP_sub (fc rfl (fc rfl (fc rfl (fc rfl (fc rfl (fc rfl (fc rfl (fc rfl fn)))))))) (jn194_1133 v1172 (by omega) (by omega))
          refine WQ_if_ne 163 dX6_load_154 rfl (fun c1172 => ?_) (fun c1172 => ?_)
          · refine WQ_iconst (0) (0) dX6_load_163 rfl rfl (fun v1174 hv1174 => ?_)
            refine WP_goto 168 dX6_load_164 rfl ?_
            exact WP_sub (fc rfl (fc rfl (fc rfl (fc rfl (fc rfl (fc rfl (fc rfl (fc rfl fn)))))))) (jn168_1115 v1174 (by omega) (by omega))
          · refine WP_iload dX6_load_157 rfl ?_
            refine WQ_iconst (-1) (-1) dX6_load_159 rfl rfl (fun v1175 hv1175 => ?_)
            refine WQ_icmp_ne 167 dX6_load_160 rfl (fun c1175 => ?_) (fun c1175 => ?_)
            · refine WQ_iconst (2) (2) dX6_load_167 rfl rfl (fun v1177 hv1177 => ?_)
              exact WP_sub (fc rfl (fc rfl (fc rfl (fc rfl (fc rfl (fc rfl (fc rfl (fc rfl fn)))))))) (jn168_1115 v1177 (by omega) (by omega))
            · refine WQ_iconst (0) (0) dX6_load_163 rfl rfl (fun v1178 hv1178 => ?_)
              refine WP_goto 168 dX6_load_164 rfl ?_
              exact WP_sub (fc rfl (fc rfl (fc rfl (fc rfl (fc rfl (fc rfl (fc rfl (fc rfl fn)))))))) (jn168_1115 v1178 (by omega) (by omega))
        refine WQ_if_eq 144 dX6_load_137 rfl (fun c1178 => ?_) (fun c1178 => ?_)
        · refine WP_aload_n dX6_load_144 rfl ?_
          refine WQ_getim dX6_load_145 fX6_36 rfl (lyx_is hy 44 6 rfl) e1092 ?_
          exact WP_sub (fc rfl (fc rfl (fc rfl (fc rfl (fc rfl (fc rfl (fc rfl (fc rfl fn)))))))) (jn148_1098 v1049 (by omega) (by omega))
        · refine WQ_iconst (0) (0) dX6_load_140 rfl rfl (fun v1180 hv1180 => ?_)
          refine WP_goto 148 dX6_load_141 rfl ?_
          exact WP_sub (fc rfl (fc rfl (fc rfl (fc rfl (fc rfl (fc rfl (fc rfl (fc rfl fn)))))))) (jn148_1098 v1180 (by omega) (by omega))
      refine WQ_icmp_ne 119 dX6_load_112 rfl (fun c1180 => ?_) (fun c1180 => ?_)
      · refine WP_aload_n dX6_load_119 rfl ?_
        refine WP_getr dX6_load_120 fX6_45 rfl (lyx_is hy 5 0 rfl) (rfx hr 5 1 22 (by decide)) ?_
        refine WP_iload dX6_load_123 rfl ?_
        refine WQ_bipush (7) (7) dX6_load_125 rfl rfl (fun v1182 hv1182 => ?_)
        refine WQ_imulk (7) dX6_load_127 hv1182 (by omega) (by omega) (fun v1183 hv1183 => ?_)
        refine WP_iload_n dX6_load_128 rfl ?_
        refine WQ_iadd dX6_load_129 (by omega) (by omega) (fun v1184 hv1184 => ?_)
        refine WQ_iald dX6_load_130 (lyx_is hy 22 13 rfl) (lyx_n hy 22 21 rfl) (by omega) (by omega) (fun q hq => BT_get hI1072.1 22 0 21 (0) (0) (20) (by decide) q (Nat.zero_le _) hq) (fun v1185 av1185 bv1185 ev1185 => ?_)
        clear ev1185
        exact WP_sub (fc rfl (fc rfl (fc rfl (fc rfl (fc rfl (fc rfl (fc rfl (fc rfl fn)))))))) (jn131_1086 v1185 (by omega) (by omega))
      · refine WQ_iconst (0) (0) dX6_load_115 rfl rfl (fun v1186 hv1186 => ?_)
        refine WP_goto 131 dX6_load_116 rfl ?_
        exact WP_sub (fc rfl (fc rfl (fc rfl (fc rfl (fc rfl (fc rfl (fc rfl (fc rfl fn)))))))) (jn131_1086 v1186 (by omega) (by omega))
    refine WQ_icmp_ne 91 dX6_load_84 rfl (fun c1186 => ?_) (fun c1186 => ?_)
    · refine WP_aload_n dX6_load_91 rfl ?_
      refine WP_getr dX6_load_92 fX6_45 rfl (lyx_is hy 5 0 rfl) (rfx hr 5 1 22 (by decide)) ?_
      refine WP_aload_n dX6_load_95 rfl ?_
      refine WQ_getim dX6_load_96 fX6_9 rfl (lyx_is hy 44 6 rfl) e1060 ?_
      refine WQ_bipush (7) (7) dX6_load_99 rfl rfl (fun v1188 hv1188 => ?_)
      refine WQ_imulk (7) dX6_load_101 hv1188 (by omega) (by omega) (fun v1189 hv1189 => ?_)
      refine WP_iload_n dX6_load_102 rfl ?_
      refine WQ_iadd dX6_load_103 (by omega) (by omega) (fun v1190 hv1190 => ?_)
      refine WQ_iald dX6_load_104 (lyx_is hy 22 13 rfl) (lyx_n hy 22 21 rfl) (by omega) (by omega) (fun q hq => BT_get hI1057.1 22 0 21 (0) (0) (20) (by decide) q (Nat.zero_le _) hq) (fun v1191 av1191 bv1191 ev1191 => ?_)
      clear ev1191
      exact WP_sub (fc rfl (fc rfl (fc rfl (fc rfl (fc rfl (fc rfl (fc rfl (fc rfl fn)))))))) (jn105_1070 v1191 (by omega) (by omega))
    · refine WQ_iconst (0) (0) dX6_load_87 rfl rfl (fun v1192 hv1192 => ?_)
      refine WP_goto 105 dX6_load_88 rfl ?_
      exact WP_sub (fc rfl (fc rfl (fc rfl (fc rfl (fc rfl (fc rfl (fc rfl (fc rfl fn)))))))) (jn105_1070 v1192 (by omega) (by omega))
  refine WX_if_eq 39 dX6_load_32 rfl ?_ ?_
  · refine WQ_iconst (0) (0) dX6_load_39 rfl rfl (fun v1193 hv1193 => ?_)
    exact WP_sub (fc rfl (fc rfl (fc rfl (fc rfl (fc rfl (fc rfl (fc rfl fn))))))) (jn40_1041 v1193 (by omega) (by omega))
  · refine WQ_iconst (1) (1) dX6_load_35 rfl rfl (fun v1194 hv1194 => ?_)
    refine WP_goto 40 dX6_load_36 rfl ?_
    exact WP_sub (fc rfl (fc rfl (fc rfl (fc rfl (fc rfl (fc rfl (fc rfl fn))))))) (jn40_1041 v1194 (by omega) (by omega))
set_option maxHeartbeats 4000000 in
set_option maxRecDepth 100000 in
theorem sx_mostFromStore_50 {g : GG} {n : Int} {L : Int32} (hy : LyX g)  {I : pI} {J : pJ} {R : pR} (hr : RfX g R) (hI : XI g n L I) (st : Int32) (st_lo : 0 ≤ st.toInt) (st_hi : st.toInt ≤ 5) : SP g mX6_mostFromStore [.ref (ad g 50), .int st] I J R (fun r I' J' R' => (I' = I ∧ J' = J ∧ R' = R) ∧ ∃ v : Int32, r = some (.int v) ∧ 0 ≤ v.toInt ∧ v.toInt ≤ 3 ∧ v.toInt ≤ st.toInt) := by
  refine SP_of ⟨by decide, rfl⟩ (Nat.le_of_ble_eq_true rfl) ?_
  have e1195 : I (ad g 1) 1 = L := hI.2
  have b1196 := BT_get hI.1 1 1 2 (0) (0) (900) (by decide) 1 (by decide) (by decide)
  rw [e1195] at b1196
  refine WP_aload_n dX6_mostFromStore_0 rfl ?_
  refine WQ_geti dX6_mostFromStore_1 fX6_60 rfl (lyx_is hy 50 6 rfl) (BT_get hI.1 50 7 8 (0) (0) (1) (by decide) 7 (by decide) (by decide)) (fun v1197 ev1197 av1197 bv1197 => ?_)
  refine WQ_if_ne 11 dX6_mostFromStore_4 rfl (fun c1197 => ?_) (fun c1197 => ?_)
  · refine WP_iload_n dX6_mostFromStore_11 rfl ?_
    refine WP_aload_n dX6_mostFromStore_12 rfl ?_
    refine WQ_geti dX6_mostFromStore_13 fX6_36 rfl (lyx_is hy 50 6 rfl) (BT_get hI.1 50 1 2 (0) (0) (3) (by decide) 1 (by decide) (by decide)) (fun v1199 ev1199 av1199 bv1199 => ?_)
    refine WQ_icmp_ge 23 dX6_mostFromStore_16 rfl (fun c1199 => ?_) (fun c1199 => ?_)
    · refine WP_aload_n dX6_mostFromStore_23 rfl ?_
      refine WQ_getim dX6_mostFromStore_24 fX6_36 rfl (lyx_is hy 50 6 rfl) ev1199 ?_
      exact WP_iret dX6_mostFromStore_27 rfl ⟨⟨rfl, rfl, rfl⟩, _, rfl, by omega, by omega, by omega⟩
    · refine WP_iload_n dX6_mostFromStore_19 rfl ?_
      refine WP_goto 27 dX6_mostFromStore_20 rfl ?_
      exact WP_iret dX6_mostFromStore_27 rfl ⟨⟨rfl, rfl, rfl⟩, _, rfl, by omega, by omega, by omega⟩
  · refine WQ_iconst (0) (0) dX6_mostFromStore_7 rfl rfl (fun v1201 hv1201 => ?_)
    refine WP_goto 27 dX6_mostFromStore_8 rfl ?_
    exact WP_iret dX6_mostFromStore_27 rfl ⟨⟨rfl, rfl, rfl⟩, _, rfl, by omega, by omega, by omega⟩
set_option maxHeartbeats 4000000 in
set_option maxRecDepth 100000 in
theorem sx_priceOf_50 {g : GG} {n : Int} {L : Int32} (hy : LyX g)  {I : pI} {J : pJ} {R : pR} (hr : RfX g R) (hI : XI g n L I) (ea : Int32) (so : Int32) (ea_lo : 0 ≤ ea.toInt) (ea_hi : ea.toInt ≤ 3) (so_lo : 0 ≤ so.toInt) (so_hi : so.toInt ≤ 3) : SP g mX6_priceOf [.ref (ad g 50), .int ea, .int so] I J R (fun r I' J' R' => (I' = I ∧ J' = J ∧ R' = R) ∧ ∃ v : Int32, r = some (.int v) ∧ 0 ≤ v.toInt ∧ v.toInt ≤ 120) := by
  refine SP_of ⟨by decide, rfl⟩ (Nat.le_of_ble_eq_true rfl) ?_
  have e1202 : I (ad g 1) 1 = L := hI.2
  have b1203 := BT_get hI.1 1 1 2 (0) (0) (900) (by decide) 1 (by decide) (by decide)
  rw [e1202] at b1203
  refine WP_iload_n dX6_priceOf_0 rfl ?_
  refine WP_aload_n dX6_priceOf_1 rfl ?_
  refine WQ_geti dX6_priceOf_2 fX6_48 rfl (lyx_is hy 50 6 rfl) (BT_get hI.1 50 3 4 (0) (0) (20) (by decide) 3 (by decide) (by decide)) (fun v1204 ev1204 av1204 bv1204 => ?_)
  refine WQ_imulb (3) (20) dX6_priceOf_5 ⟨by omega, by omega⟩ ⟨by omega, by omega⟩ (by decide) (fun v1205 pv1205 av1205 bv1205 cv1205 => ?_)
  refine WP_iload_n dX6_priceOf_6 rfl ?_
  refine WP_aload_n dX6_priceOf_7 rfl ?_
  refine WQ_geti dX6_priceOf_8 fX6_51 rfl (lyx_is hy 50 6 rfl) (BT_get hI.1 50 4 5 (0) (0) (20) (by decide) 4 (by decide) (by decide)) (fun v1206 ev1206 av1206 bv1206 => ?_)
  refine WQ_imulb (3) (20) dX6_priceOf_11 ⟨by omega, by omega⟩ ⟨by omega, by omega⟩ (by decide) (fun v1207 pv1207 av1207 bv1207 cv1207 => ?_)
  refine WQ_iadd dX6_priceOf_12 (by omega) (by omega) (fun v1208 hv1208 => ?_)
  exact WP_iret dX6_priceOf_13 rfl ⟨⟨rfl, rfl, rfl⟩, _, rfl, by omega, by omega⟩
set_option maxHeartbeats 4000000 in
set_option maxRecDepth 100000 in
theorem sx_load_50_6 {g : GG} {n : Int} {L : Int32} (hy : LyX g)  {I : pI} {J : pJ} {R : pR} (hr : RfX g R) (hT : R (ad g 5) 0 = some (ad g 6)) (hI : XI g n L I) (so : Int32) (da : Int32) (so_lo : 0 ≤ so.toInt) (so_hi : so.toInt ≤ 3) (da_lo : 0 ≤ da.toInt) (da_hi : da.toInt ≤ 6) : SP g mX6_load [.ref (ad g 50), .ref (ad g 5), .int so, .int da] I J R (fun r I' J' R' => (XI g n L I' ∧ R' = R ∧ fz 74 g [50] I I' ∧ fz 74 g [] J J') ∧ r = none) := by
  refine SP_of ⟨by decide, rfl⟩ (Nat.le_of_ble_eq_true rfl) ?_
  have e1209 : I (ad g 1) 1 = L := hI.2
  have b1210 := BT_get hI.1 1 1 2 (0) (0) (900) (by decide) 1 (by decide) (by decide)
  rw [e1209] at b1210
  have fr0 : fz 74 g [50] I I := fz_rf
  have frj0 : fz 74 g [] J J := fz_rf
  refine WP_aload_n dX6_load_0 rfl ?_
  refine WP_getr dX6_load_1 fX6_15 rfl (lyx_is hy 5 0 rfl) hT ?_
  refine WP_astore (ls' := [(0, _), (1, _), (2, _), (3, _), (4, _)]) dX6_load_4 (by decide) rfl ?_
  refine WP_iload_n dX6_load_6 rfl ?_
  refine WQ_bipush (7) (7) dX6_load_7 rfl rfl (fun v1211 hv1211 => ?_)
  refine WQ_imulk (7) dX6_load_9 hv1211 (by omega) (by omega) (fun v1212 hv1212 => ?_)
  refine WP_iload_n dX6_load_10 rfl ?_
  refine WQ_iadd dX6_load_11 (by omega) (by omega) (fun v1213 hv1213 => ?_)
  refine WP_istore (ls' := [(0, _), (1, _), (2, _), (3, _), (4, _), (5, _)]) dX6_load_12 (by decide) rfl ?_
  refine WP_aload dX6_load_14 rfl ?_
  refine WQ_geti dX6_load_16 fX6_21 rfl (lyx_is hy 6 7 rfl) (BT_get hI.1 6 4 5 (-1) (0) (2) (by decide) 4 (by decide) (by decide)) (fun v1214 ev1214 av1214 bv1214 => ?_)
  refine WP_istore (ls' := [(0, _), (1, _), (2, _), (3, _), (4, _), (5, _), (6, _)]) dX6_load_19 (by decide) rfl ?_
  refine WP_aload dX6_load_21 rfl ?_
  refine WP_getr dX6_load_23 fX6_26 rfl (lyx_is hy 6 7 rfl) (rfx hr 6 9 11 (by decide)) ?_
  refine WP_iload_n dX6_load_26 rfl ?_
  refine WQ_ialdu dX6_load_27 (lyx_is hy 11 13 rfl) (lyx_n hy 11 4 rfl) (by omega) (by omega) (fun v1215 => ?_)
  refine WP_iload_n dX6_load_28 rfl ?_
  refine WQ_ishru dX6_load_29 (fun v1216 => ?_)
  refine WQ_iconst (1) (1) dX6_load_30 rfl rfl (fun v1217 hv1217 => ?_)
  refine WQ_iandu dX6_load_31 (fun v1218 => ?_)
  have jn40_1221 : ∀ (v1221 : Int32), 0 ≤ v1221.toInt → v1221.toInt ≤ 1 → WP g mX6_load 40 [(0, .ref (ad g 50)), (1, .ref (ad g 5)), (2, .int so), (3, .int da), (4, .ref (ad g 6)), (5, .int v1213), (6, .int v1214)] [.int v1221] I J R (fun r I' J' R' => (XI g n L I' ∧ R' = R ∧ fz 74 g [50] I I' ∧ fz 74 g [] J J') ∧ r = none) := by
    intro v1221 av1221 bv1221
    refine WP_istore (ls' := [(0, _), (1, _), (2, _), (3, _), (4, _), (5, _), (6, _), (7, _)]) dX6_load_40 (by decide) rfl ?_
    refine WP_aload_n dX6_load_42 rfl ?_
    refine WP_aload dX6_load_43 rfl ?_
    refine WP_getr dX6_load_45 fX6_30 rfl (lyx_is hy 6 7 rfl) (rfx hr 6 11 13 (by decide)) ?_
    refine WP_iload dX6_load_48 rfl ?_
    refine WQ_iald dX6_load_50 (lyx_is hy 13 13 rfl) (lyx_n hy 13 28 rfl) (by omega) (by omega) (fun q hq => BT_get hI.1 13 0 28 (-1) (0) (2) (by decide) q (Nat.zero_le _) hq) (fun v1223 av1223 bv1223 ev1223 => ?_)
    clear ev1223
    refine WQ_puti dX6_load_51 fX6_9 rfl rfl (lyx_is hy 50 6 rfl) (fun I1224 eI1224 => ?_)
    have hI1224 : XI g n L I1224 := by rw [eI1224]; exact (xi_f hy hI (c := 50) (-1) (0) (2) (by decide) (Or.inl (by decide)) (by decide) (by omega) (by omega))
    have e1225 : I1224 (ad g 1) 1 = L := by rw [eI1224, pp_ne _ _ (Or.inl (lyx_ne hy (by decide) (by decide) (by decide)))]; exact e1209
    have e1226 : I1224 (ad g 6) 4 = v1214 := by rw [eI1224, pp_ne _ _ (Or.inl (lyx_ne hy (by decide) (by decide) (by decide)))]; exact ev1214
    have e1227 : I1224 (ad g 50) 0 = v1223 := by rw [eI1224, pp_self]
    have fr1228 : fz 74 g [50] I I1224 := by rw [eI1224]; exact fzx_pp hy fr0 (by decide) (by decide)
    clear eI1224
    refine WP_aload_n dX6_load_54 rfl ?_
    refine WP_aload dX6_load_55 rfl ?_
    refine WP_getr dX6_load_57 fX6_33 rfl (lyx_is hy 6 7 rfl) (rfx hr 6 12 14 (by decide)) ?_
    refine WP_iload dX6_load_60 rfl ?_
    refine WQ_iald dX6_load_62 (lyx_is hy 14 13 rfl) (lyx_n hy 14 28 rfl) (by omega) (by omega) (fun q hq => BT_get hI1224.1 14 0 28 (0) (0) (3) (by decide) q (Nat.zero_le _) hq) (fun v1229 av1229 bv1229 ev1229 => ?_)
    clear ev1229
    refine WQ_puti dX6_load_63 fX6_36 rfl rfl (lyx_is hy 50 6 rfl) (fun I1230 eI1230 => ?_)
    have hI1230 : XI g n L I1230 := by rw [eI1230]; exact (xi_f hy hI1224 (c := 50) (0) (0) (3) (by decide) (Or.inl (by decide)) (by decide) (by omega) (by omega))
    have e1231 : I1230 (ad g 1) 1 = L := by rw [eI1230, pp_ne _ _ (Or.inl (lyx_ne hy (by decide) (by decide) (by decide)))]; exact e1225
    have e1232 : I1230 (ad g 6) 4 = v1214 := by rw [eI1230, pp_ne _ _ (Or.inl (lyx_ne hy (by decide) (by decide) (by decide)))]; exact e1226
    have e1233 : I1230 (ad g 50) 0 = v1223 := by rw [eI1230, pp_ne _ _ (Or.inr (by decide))]; exact e1227
    have e1234 : I1230 (ad g 50) 1 = v1229 := by rw [eI1230, pp_self]
    have fr1235 : fz 74 g [50] I I1230 := by rw [eI1230]; exact fzx_pp hy fr1228 (by decide) (by decide)
    clear eI1230
    refine WP_aload_n dX6_load_66 rfl ?_
    refine WP_aload dX6_load_67 rfl ?_
    refine WP_getr dX6_load_69 fX6_39 rfl (lyx_is hy 6 7 rfl) (rfx hr 6 13 15 (by decide)) ?_
    refine WP_iload dX6_load_72 rfl ?_
    refine WQ_iald dX6_load_74 (lyx_is hy 15 13 rfl) (lyx_n hy 15 28 rfl) (by omega) (by omega) (fun q hq => BT_get hI1230.1 15 0 28 (0) (0) (99) (by decide) q (Nat.zero_le _) hq) (fun v1236 av1236 bv1236 ev1236 => ?_)
    clear ev1236
    refine WQ_puti dX6_load_75 fX6_42 rfl rfl (lyx_is hy 50 6 rfl) (fun I1237 eI1237 => ?_)
    have hI1237 : XI g n L I1237 := by rw [eI1237]; exact (xi_f hy hI1230 (c := 50) (0) (0) (99) (by decide) (Or.inl (by decide)) (by decide) (by omega) (by omega))
    have e1238 : I1237 (ad g 1) 1 = L := by rw [eI1237, pp_ne _ _ (Or.inl (lyx_ne hy (by decide) (by decide) (by decide)))]; exact e1231
    have e1239 : I1237 (ad g 6) 4 = v1214 := by rw [eI1237, pp_ne _ _ (Or.inl (lyx_ne hy (by decide) (by decide) (by decide)))]; exact e1232
    have e1240 : I1237 (ad g 50) 0 = v1223 := by rw [eI1237, pp_ne _ _ (Or.inr (by decide))]; exact e1233
    have e1241 : I1237 (ad g 50) 1 = v1229 := by rw [eI1237, pp_ne _ _ (Or.inr (by decide))]; exact e1234
    have e1242 : I1237 (ad g 50) 2 = v1236 := by rw [eI1237, pp_self]
    have fr1243 : fz 74 g [50] I I1237 := by rw [eI1237]; exact fzx_pp hy fr1235 (by decide) (by decide)
    clear eI1237
    refine WP_aload_n dX6_load_78 rfl ?_
    refine WP_aload_n dX6_load_79 rfl ?_
    refine WQ_getim dX6_load_80 fX6_9 rfl (lyx_is hy 50 6 rfl) e1240 ?_
    refine WQ_iconst (-1) (-1) dX6_load_83 rfl rfl (fun v1244 hv1244 => ?_)
    have jn105_1250 : ∀ (v1250 : Int32), 0 ≤ v1250.toInt → v1250.toInt ≤ 20 → WP g mX6_load 105 [(0, .ref (ad g 50)), (1, .ref (ad g 5)), (2, .int so), (3, .int da), (4, .ref (ad g 6)), (5, .int v1213), (6, .int v1214), (7, .int v1221)] [.int v1250, .ref (ad g 50)] I1237 J R (fun r I' J' R' => (XI g n L I' ∧ R' = R ∧ fz 74 g [50] I I' ∧ fz 74 g [] J J') ∧ r = none) := by
      intro v1250 av1250 bv1250
      refine WQ_puti dX6_load_105 fX6_48 rfl rfl (lyx_is hy 50 6 rfl) (fun I1252 eI1252 => ?_)
      have hI1252 : XI g n L I1252 := by rw [eI1252]; exact (xi_f hy hI1237 (c := 50) (0) (0) (20) (by decide) (Or.inl (by decide)) (by decide) (by omega) (by omega))
      have e1253 : I1252 (ad g 1) 1 = L := by rw [eI1252, pp_ne _ _ (Or.inl (lyx_ne hy (by decide) (by decide) (by decide)))]; exact e1238
      have e1254 : I1252 (ad g 6) 4 = v1214 := by rw [eI1252, pp_ne _ _ (Or.inl (lyx_ne hy (by decide) (by decide) (by decide)))]; exact e1239
      have e1255 : I1252 (ad g 50) 0 = v1223 := by rw [eI1252, pp_ne _ _ (Or.inr (by decide))]; exact e1240
      have e1256 : I1252 (ad g 50) 1 = v1229 := by rw [eI1252, pp_ne _ _ (Or.inr (by decide))]; exact e1241
      have e1257 : I1252 (ad g 50) 2 = v1236 := by rw [eI1252, pp_ne _ _ (Or.inr (by decide))]; exact e1242
      have e1258 : I1252 (ad g 50) 3 = v1250 := by rw [eI1252, pp_self]
      have fr1259 : fz 74 g [50] I I1252 := by rw [eI1252]; exact fzx_pp hy fr1243 (by decide) (by decide)
      clear eI1252
      refine WP_aload_n dX6_load_108 rfl ?_
      refine WP_iload dX6_load_109 rfl ?_
      refine WQ_iconst (-1) (-1) dX6_load_111 rfl rfl (fun v1260 hv1260 => ?_)
      have jn131_1266 : ∀ (v1266 : Int32), 0 ≤ v1266.toInt → v1266.toInt ≤ 20 → WP g mX6_load 131 [(0, .ref (ad g 50)), (1, .ref (ad g 5)), (2, .int so), (3, .int da), (4, .ref (ad g 6)), (5, .int v1213), (6, .int v1214), (7, .int v1221)] [.int v1266, .ref (ad g 50)] I1252 J R (fun r I' J' R' => (XI g n L I' ∧ R' = R ∧ fz 74 g [50] I I' ∧ fz 74 g [] J J') ∧ r = none) := by
        intro v1266 av1266 bv1266
        refine WQ_puti dX6_load_131 fX6_51 rfl rfl (lyx_is hy 50 6 rfl) (fun I1268 eI1268 => ?_)
        have hI1268 : XI g n L I1268 := by rw [eI1268]; exact (xi_f hy hI1252 (c := 50) (0) (0) (20) (by decide) (Or.inl (by decide)) (by decide) (by omega) (by omega))
        have e1269 : I1268 (ad g 1) 1 = L := by rw [eI1268, pp_ne _ _ (Or.inl (lyx_ne hy (by decide) (by decide) (by decide)))]; exact e1253
        have e1270 : I1268 (ad g 6) 4 = v1214 := by rw [eI1268, pp_ne _ _ (Or.inl (lyx_ne hy (by decide) (by decide) (by decide)))]; exact e1254
        have e1271 : I1268 (ad g 50) 0 = v1223 := by rw [eI1268, pp_ne _ _ (Or.inr (by decide))]; exact e1255
        have e1272 : I1268 (ad g 50) 1 = v1229 := by rw [eI1268, pp_ne _ _ (Or.inr (by decide))]; exact e1256
        have e1273 : I1268 (ad g 50) 2 = v1236 := by rw [eI1268, pp_ne _ _ (Or.inr (by decide))]; exact e1257
        have e1274 : I1268 (ad g 50) 3 = v1250 := by rw [eI1268, pp_ne _ _ (Or.inr (by decide))]; exact e1258
        have e1275 : I1268 (ad g 50) 4 = v1266 := by rw [eI1268, pp_self]
        have fr1276 : fz 74 g [50] I I1268 := by rw [eI1268]; exact fzx_pp hy fr1259 (by decide) (by decide)
        clear eI1268
        refine WP_aload_n dX6_load_134 rfl ?_
        refine WP_iload dX6_load_135 rfl ?_
        have jn148_1278 : ∀ (v1278 : Int32), 0 ≤ v1278.toInt → v1278.toInt ≤ 3 → WP g mX6_load 148 [(0, .ref (ad g 50)), (1, .ref (ad g 5)), (2, .int so), (3, .int da), (4, .ref (ad g 6)), (5, .int v1213), (6, .int v1214), (7, .int v1221)] [.int v1278, .ref (ad g 50)] I1268 J R (fun r I' J' R' => (XI g n L I' ∧ R' = R ∧ fz 74 g [50] I I' ∧ fz 74 g [] J J') ∧ r = none) := by
          intro v1278 av1278 bv1278
          refine WQ_puti dX6_load_148 fX6_54 rfl rfl (lyx_is hy 50 6 rfl) (fun I1280 eI1280 => ?_)
          have hI1280 : XI g n L I1280 := by rw [eI1280]; exact (xi_f hy hI1268 (c := 50) (0) (0) (3) (by decide) (Or.inl (by decide)) (by decide) (by omega) (by omega))
          have e1281 : I1280 (ad g 1) 1 = L := by rw [eI1280, pp_ne _ _ (Or.inl (lyx_ne hy (by decide) (by decide) (by decide)))]; exact e1269
          have e1282 : I1280 (ad g 6) 4 = v1214 := by rw [eI1280, pp_ne _ _ (Or.inl (lyx_ne hy (by decide) (by decide) (by decide)))]; exact e1270
          have e1283 : I1280 (ad g 50) 0 = v1223 := by rw [eI1280, pp_ne _ _ (Or.inr (by decide))]; exact e1271
          have e1284 : I1280 (ad g 50) 1 = v1229 := by rw [eI1280, pp_ne _ _ (Or.inr (by decide))]; exact e1272
          have e1285 : I1280 (ad g 50) 2 = v1236 := by rw [eI1280, pp_ne _ _ (Or.inr (by decide))]; exact e1273
          have e1286 : I1280 (ad g 50) 3 = v1250 := by rw [eI1280, pp_ne _ _ (Or.inr (by decide))]; exact e1274
          have e1287 : I1280 (ad g 50) 4 = v1266 := by rw [eI1280, pp_ne _ _ (Or.inr (by decide))]; exact e1275
          have e1288 : I1280 (ad g 50) 5 = v1278 := by rw [eI1280, pp_self]
          have fr1289 : fz 74 g [50] I I1280 := by rw [eI1280]; exact fzx_pp hy fr1276 (by decide) (by decide)
          clear eI1280
          refine WP_aload_n dX6_load_151 rfl ?_
          refine WP_iload dX6_load_152 rfl ?_
          have jn168_1295 : ∀ (v1295 : Int32), 0 ≤ v1295.toInt → v1295.toInt ≤ 2 → WP g mX6_load 168 [(0, .ref (ad g 50)), (1, .ref (ad g 5)), (2, .int so), (3, .int da), (4, .ref (ad g 6)), (5, .int v1213), (6, .int v1214), (7, .int v1221)] [.int v1295, .ref (ad g 50)] I1280 J R (fun r I' J' R' => (XI g n L I' ∧ R' = R ∧ fz 74 g [50] I I' ∧ fz 74 g [] J J') ∧ r = none) := by
            intro v1295 av1295 bv1295
            refine WQ_puti dX6_load_168 fX6_57 rfl rfl (lyx_is hy 50 6 rfl) (fun I1297 eI1297 => ?_)
            have hI1297 : XI g n L I1297 := by rw [eI1297]; exact (xi_f hy hI1280 (c := 50) (0) (0) (2) (by decide) (Or.inl (by decide)) (by decide) (by omega) (by omega))
            have e1298 : I1297 (ad g 1) 1 = L := by rw [eI1297, pp_ne _ _ (Or.inl (lyx_ne hy (by decide) (by decide) (by decide)))]; exact e1281
            have e1299 : I1297 (ad g 6) 4 = v1214 := by rw [eI1297, pp_ne _ _ (Or.inl (lyx_ne hy (by decide) (by decide) (by decide)))]; exact e1282
            have e1300 : I1297 (ad g 50) 0 = v1223 := by rw [eI1297, pp_ne _ _ (Or.inr (by decide))]; exact e1283
            have e1301 : I1297 (ad g 50) 1 = v1229 := by rw [eI1297, pp_ne _ _ (Or.inr (by decide))]; exact e1284
            have e1302 : I1297 (ad g 50) 2 = v1236 := by rw [eI1297, pp_ne _ _ (Or.inr (by decide))]; exact e1285
            have e1303 : I1297 (ad g 50) 3 = v1250 := by rw [eI1297, pp_ne _ _ (Or.inr (by decide))]; exact e1286
            have e1304 : I1297 (ad g 50) 4 = v1266 := by rw [eI1297, pp_ne _ _ (Or.inr (by decide))]; exact e1287
            have e1305 : I1297 (ad g 50) 5 = v1278 := by rw [eI1297, pp_ne _ _ (Or.inr (by decide))]; exact e1288
            have e1306 : I1297 (ad g 50) 6 = v1295 := by rw [eI1297, pp_self]
            have fr1307 : fz 74 g [50] I I1297 := by rw [eI1297]; exact fzx_pp hy fr1289 (by decide) (by decide)
            clear eI1297
            refine WP_aload_n dX6_load_171 rfl ?_
            refine WP_aload_n dX6_load_172 rfl ?_
            refine WQ_getim dX6_load_173 fX6_9 rfl (lyx_is hy 50 6 rfl) e1300 ?_
            refine WQ_iconst (-1) (-1) dX6_load_176 rfl rfl (fun v1308 hv1308 => ?_)
            have jn194_1313 : ∀ (v1313 : Int32), 0 ≤ v1313.toInt → v1313.toInt ≤ 1 → WP g mX6_load 194 [(0, .ref (ad g 50)), (1, .ref (ad g 5)), (2, .int so), (3, .int da), (4, .ref (ad g 6)), (5, .int v1213), (6, .int v1214), (7, .int v1221)] [.int v1313, .ref (ad g 50)] I1297 J R (fun r I' J' R' => (XI g n L I' ∧ R' = R ∧ fz 74 g [50] I I' ∧ fz 74 g [] J J') ∧ r = none) := by
              intro v1313 av1313 bv1313
              refine WQ_putz dX6_load_194 fX6_60 rfl rfl (by omega) (lyx_is hy 50 6 rfl) (fun I1315 eI1315 => ?_)
              have hI1315 : XI g n L I1315 := by rw [eI1315]; exact (xi_f hy hI1297 (c := 50) (0) (0) (1) (by decide) (Or.inl (by decide)) (by decide) (by omega) (by omega))
              have e1316 : I1315 (ad g 1) 1 = L := by rw [eI1315, pp_ne _ _ (Or.inl (lyx_ne hy (by decide) (by decide) (by decide)))]; exact e1298
              have e1317 : I1315 (ad g 6) 4 = v1214 := by rw [eI1315, pp_ne _ _ (Or.inl (lyx_ne hy (by decide) (by decide) (by decide)))]; exact e1299
              have e1318 : I1315 (ad g 50) 0 = v1223 := by rw [eI1315, pp_ne _ _ (Or.inr (by decide))]; exact e1300
              have e1319 : I1315 (ad g 50) 1 = v1229 := by rw [eI1315, pp_ne _ _ (Or.inr (by decide))]; exact e1301
              have e1320 : I1315 (ad g 50) 2 = v1236 := by rw [eI1315, pp_ne _ _ (Or.inr (by decide))]; exact e1302
              have e1321 : I1315 (ad g 50) 3 = v1250 := by rw [eI1315, pp_ne _ _ (Or.inr (by decide))]; exact e1303
              have e1322 : I1315 (ad g 50) 4 = v1266 := by rw [eI1315, pp_ne _ _ (Or.inr (by decide))]; exact e1304
              have e1323 : I1315 (ad g 50) 5 = v1278 := by rw [eI1315, pp_ne _ _ (Or.inr (by decide))]; exact e1305
              have e1324 : I1315 (ad g 50) 6 = v1295 := by rw [eI1315, pp_ne _ _ (Or.inr (by decide))]; exact e1306
              have e1325 : I1315 (ad g 50) 7 = v1313 := by rw [eI1315, pp_self]
              have fr1326 : fz 74 g [50] I I1315 := by rw [eI1315]; exact fzx_pp hy fr1307 (by decide) (by decide)
              clear eI1315
              refine WP_aload_n dX6_load_197 rfl ?_
              refine WP_aload_n dX6_load_198 rfl ?_
              refine WP_getr dX6_load_199 fX6_64 rfl (lyx_is hy 5 0 rfl) (rfx hr 5 2 23 (by decide)) ?_
              refine WP_iload_n dX6_load_202 rfl ?_
              refine WQ_iald dX6_load_203 (lyx_is hy 23 13 rfl) (lyx_n hy 23 7 rfl) (by omega) (by omega) (fun q hq => BT_get hI1315.1 23 0 7 (0) (0) (900) (by decide) q (Nat.zero_le _) hq) (fun v1327 av1327 bv1327 ev1327 => ?_)
              clear ev1327
              have jn212_1330 : ∀ (v1330 : Int32), 0 ≤ v1330.toInt → v1330.toInt ≤ 1 → WP g mX6_load 212 [(0, .ref (ad g 50)), (1, .ref (ad g 5)), (2, .int so), (3, .int da), (4, .ref (ad g 6)), (5, .int v1213), (6, .int v1214), (7, .int v1221)] [.int v1330, .ref (ad g 50)] I1315 J R (fun r I' J' R' => (XI g n L I' ∧ R' = R ∧ fz 74 g [50] I I' ∧ fz 74 g [] J J') ∧ r = none) := by
                intro v1330 av1330 bv1330
                refine WQ_putz dX6_load_212 fX6_67 rfl rfl (by omega) (lyx_is hy 50 6 rfl) (fun I1332 eI1332 => ?_)
                have hI1332 : XI g n L I1332 := by rw [eI1332]; exact (xi_f hy hI1315 (c := 50) (0) (0) (1) (by decide) (Or.inl (by decide)) (by decide) (by omega) (by omega))
                have e1333 : I1332 (ad g 1) 1 = L := by rw [eI1332, pp_ne _ _ (Or.inl (lyx_ne hy (by decide) (by decide) (by decide)))]; exact e1316
                have e1334 : I1332 (ad g 6) 4 = v1214 := by rw [eI1332, pp_ne _ _ (Or.inl (lyx_ne hy (by decide) (by decide) (by decide)))]; exact e1317
                have e1335 : I1332 (ad g 50) 0 = v1223 := by rw [eI1332, pp_ne _ _ (Or.inr (by decide))]; exact e1318
                have e1336 : I1332 (ad g 50) 1 = v1229 := by rw [eI1332, pp_ne _ _ (Or.inr (by decide))]; exact e1319
                have e1337 : I1332 (ad g 50) 2 = v1236 := by rw [eI1332, pp_ne _ _ (Or.inr (by decide))]; exact e1320
                have e1338 : I1332 (ad g 50) 3 = v1250 := by rw [eI1332, pp_ne _ _ (Or.inr (by decide))]; exact e1321
                have e1339 : I1332 (ad g 50) 4 = v1266 := by rw [eI1332, pp_ne _ _ (Or.inr (by decide))]; exact e1322
                have e1340 : I1332 (ad g 50) 5 = v1278 := by rw [eI1332, pp_ne _ _ (Or.inr (by decide))]; exact e1323
                have e1341 : I1332 (ad g 50) 6 = v1295 := by rw [eI1332, pp_ne _ _ (Or.inr (by decide))]; exact e1324
                have e1342 : I1332 (ad g 50) 7 = v1313 := by rw [eI1332, pp_ne _ _ (Or.inr (by decide))]; exact e1325
                have e1343 : I1332 (ad g 50) 8 = v1330 := by rw [eI1332, pp_self]
                have fr1344 : fz 74 g [50] I I1332 := by rw [eI1332]; exact fzx_pp hy fr1326 (by decide) (by decide)
                clear eI1332
                exact WP_vret dX6_load_215 rfl ⟨⟨hI1332, rfl, fr1344, frj0⟩, rfl⟩
              refine WQ_if_le 211 dX6_load_204 rfl (fun c1344 => ?_) (fun c1344 => ?_)
              · refine WQ_iconst (0) (0) dX6_load_211 rfl rfl (fun v1346 hv1346 => ?_)
                exact WP_sub (fc rfl (fc rfl (fc rfl (fc rfl (fc rfl (fc rfl (fc rfl (fc rfl fn)))))))) (jn212_1330 v1346 (by omega) (by omega))
              · refine WQ_iconst (1) (1) dX6_load_207 rfl rfl (fun v1347 hv1347 => ?_)
                refine WP_goto 212 dX6_load_208 rfl ?_
                exact WP_sub (fc rfl (fc rfl (fc rfl (fc rfl (fc rfl (fc rfl (fc rfl (fc rfl fn)))))))) (jn212_1330 v1347 (by omega) (by omega))
            refine WQ_icmp_eq 193 dX6_load_177 rfl (fun c1347 => ?_) (fun c1347 => ?_)
            · refine WQ_iconst (0) (0) dX6_load_193 rfl rfl (fun v1349 hv1349 => ?_)
              exact WP_sub (fc rfl (fc rfl (fc rfl (fc rfl (fc rfl (fc rfl (fc rfl (fc rfl fn)))))))) (jn194_1313 v1349 (by omega) (by omega))
            · refine WP_aload_n dX6_load_180 rfl ?_
              refine WQ_getim dX6_load_181 fX6_9 rfl (lyx_is hy 50 6 rfl) e1300 ?_
              refine WP_iload dX6_load_184 rfl ?_
              refine WQ_icmp_ne 193 dX6_load_186 rfl (fun c1349 => ?_) (fun c1349 => ?_)
              · refine WQ_iconst (0) (0) dX6_load_193 rfl rfl (fun v1351 hv1351 => ?_)
                exact WP_sub (fc rfl (fc rfl (fc rfl (fc rfl (fc rfl (fc rfl (fc rfl (fc rfl fn)))))))) (jn194_1313 v1351 (by omega) (by omega))
              · refine WQ_iconst (1) (1) dX6_load_189 rfl rfl (fun v1352 hv1352 => ?_)
                refine WP_goto 194 dX6_load_190 rfl ?_
                exact WP_sub (fc rfl (fc rfl (fc rfl (fc rfl (fc rfl (fc rfl (fc rfl (fc rfl fn)))))))) (jn194_1313 v1352 (by omega) (by omega))
          refine WQ_if_ne 163 dX6_load_154 rfl (fun c1352 => ?_) (fun c1352 => ?_)
          · refine WQ_iconst (0) (0) dX6_load_163 rfl rfl (fun v1354 hv1354 => ?_)
            refine WP_goto 168 dX6_load_164 rfl ?_
            exact WP_sub (fc rfl (fc rfl (fc rfl (fc rfl (fc rfl (fc rfl (fc rfl (fc rfl fn)))))))) (jn168_1295 v1354 (by omega) (by omega))
          · refine WP_iload dX6_load_157 rfl ?_
            refine WQ_iconst (-1) (-1) dX6_load_159 rfl rfl (fun v1355 hv1355 => ?_)
            refine WQ_icmp_ne 167 dX6_load_160 rfl (fun c1355 => ?_) (fun c1355 => ?_)
            · refine WQ_iconst (2) (2) dX6_load_167 rfl rfl (fun v1357 hv1357 => ?_)
              exact WP_sub (fc rfl (fc rfl (fc rfl (fc rfl (fc rfl (fc rfl (fc rfl (fc rfl fn)))))))) (jn168_1295 v1357 (by omega) (by omega))
            · refine WQ_iconst (0) (0) dX6_load_163 rfl rfl (fun v1358 hv1358 => ?_)
              refine WP_goto 168 dX6_load_164 rfl ?_
              exact WP_sub (fc rfl (fc rfl (fc rfl (fc rfl (fc rfl (fc rfl (fc rfl (fc rfl fn)))))))) (jn168_1295 v1358 (by omega) (by omega))
        refine WQ_if_eq 144 dX6_load_137 rfl (fun c1358 => ?_) (fun c1358 => ?_)
        · refine WP_aload_n dX6_load_144 rfl ?_
          refine WQ_getim dX6_load_145 fX6_36 rfl (lyx_is hy 50 6 rfl) e1272 ?_
          exact WP_sub (fc rfl (fc rfl (fc rfl (fc rfl (fc rfl (fc rfl (fc rfl (fc rfl fn)))))))) (jn148_1278 v1229 (by omega) (by omega))
        · refine WQ_iconst (0) (0) dX6_load_140 rfl rfl (fun v1360 hv1360 => ?_)
          refine WP_goto 148 dX6_load_141 rfl ?_
          exact WP_sub (fc rfl (fc rfl (fc rfl (fc rfl (fc rfl (fc rfl (fc rfl (fc rfl fn)))))))) (jn148_1278 v1360 (by omega) (by omega))
      refine WQ_icmp_ne 119 dX6_load_112 rfl (fun c1360 => ?_) (fun c1360 => ?_)
      · refine WP_aload_n dX6_load_119 rfl ?_
        refine WP_getr dX6_load_120 fX6_45 rfl (lyx_is hy 5 0 rfl) (rfx hr 5 1 22 (by decide)) ?_
        refine WP_iload dX6_load_123 rfl ?_
        refine WQ_bipush (7) (7) dX6_load_125 rfl rfl (fun v1362 hv1362 => ?_)
        refine WQ_imulk (7) dX6_load_127 hv1362 (by omega) (by omega) (fun v1363 hv1363 => ?_)
        refine WP_iload_n dX6_load_128 rfl ?_
        refine WQ_iadd dX6_load_129 (by omega) (by omega) (fun v1364 hv1364 => ?_)
        refine WQ_iald dX6_load_130 (lyx_is hy 22 13 rfl) (lyx_n hy 22 21 rfl) (by omega) (by omega) (fun q hq => BT_get hI1252.1 22 0 21 (0) (0) (20) (by decide) q (Nat.zero_le _) hq) (fun v1365 av1365 bv1365 ev1365 => ?_)
        clear ev1365
        exact WP_sub (fc rfl (fc rfl (fc rfl (fc rfl (fc rfl (fc rfl (fc rfl (fc rfl fn)))))))) (jn131_1266 v1365 (by omega) (by omega))
      · refine WQ_iconst (0) (0) dX6_load_115 rfl rfl (fun v1366 hv1366 => ?_)
        refine WP_goto 131 dX6_load_116 rfl ?_
        exact WP_sub (fc rfl (fc rfl (fc rfl (fc rfl (fc rfl (fc rfl (fc rfl (fc rfl fn)))))))) (jn131_1266 v1366 (by omega) (by omega))
    refine WQ_icmp_ne 91 dX6_load_84 rfl (fun c1366 => ?_) (fun c1366 => ?_)
    · refine WP_aload_n dX6_load_91 rfl ?_
      refine WP_getr dX6_load_92 fX6_45 rfl (lyx_is hy 5 0 rfl) (rfx hr 5 1 22 (by decide)) ?_
      refine WP_aload_n dX6_load_95 rfl ?_
      refine WQ_getim dX6_load_96 fX6_9 rfl (lyx_is hy 50 6 rfl) e1240 ?_
      refine WQ_bipush (7) (7) dX6_load_99 rfl rfl (fun v1368 hv1368 => ?_)
      refine WQ_imulk (7) dX6_load_101 hv1368 (by omega) (by omega) (fun v1369 hv1369 => ?_)
      refine WP_iload_n dX6_load_102 rfl ?_
      refine WQ_iadd dX6_load_103 (by omega) (by omega) (fun v1370 hv1370 => ?_)
      refine WQ_iald dX6_load_104 (lyx_is hy 22 13 rfl) (lyx_n hy 22 21 rfl) (by omega) (by omega) (fun q hq => BT_get hI1237.1 22 0 21 (0) (0) (20) (by decide) q (Nat.zero_le _) hq) (fun v1371 av1371 bv1371 ev1371 => ?_)
      clear ev1371
      exact WP_sub (fc rfl (fc rfl (fc rfl (fc rfl (fc rfl (fc rfl (fc rfl (fc rfl fn)))))))) (jn105_1250 v1371 (by omega) (by omega))
    · refine WQ_iconst (0) (0) dX6_load_87 rfl rfl (fun v1372 hv1372 => ?_)
      refine WP_goto 105 dX6_load_88 rfl ?_
      exact WP_sub (fc rfl (fc rfl (fc rfl (fc rfl (fc rfl (fc rfl (fc rfl (fc rfl fn)))))))) (jn105_1250 v1372 (by omega) (by omega))
  refine WX_if_eq 39 dX6_load_32 rfl ?_ ?_
  · refine WQ_iconst (0) (0) dX6_load_39 rfl rfl (fun v1373 hv1373 => ?_)
    exact WP_sub (fc rfl (fc rfl (fc rfl (fc rfl (fc rfl (fc rfl (fc rfl fn))))))) (jn40_1221 v1373 (by omega) (by omega))
  · refine WQ_iconst (1) (1) dX6_load_35 rfl rfl (fun v1374 hv1374 => ?_)
    refine WP_goto 40 dX6_load_36 rfl ?_
    exact WP_sub (fc rfl (fc rfl (fc rfl (fc rfl (fc rfl (fc rfl (fc rfl fn))))))) (jn40_1221 v1374 (by omega) (by omega))
set_option maxHeartbeats 4000000 in
set_option maxRecDepth 100000 in
theorem sx_load_50_27 {g : GG} {n : Int} {L : Int32} (hy : LyX g)  {I : pI} {J : pJ} {R : pR} (hr : RfX g R) (hT : R (ad g 5) 0 = some (ad g 27)) (hI : XI g n L I) (so : Int32) (da : Int32) (so_lo : 0 ≤ so.toInt) (so_hi : so.toInt ≤ 3) (da_lo : 0 ≤ da.toInt) (da_hi : da.toInt ≤ 6) : SP g mX6_load [.ref (ad g 50), .ref (ad g 5), .int so, .int da] I J R (fun r I' J' R' => (XI g n L I' ∧ R' = R ∧ fz 74 g [50] I I' ∧ fz 74 g [] J J') ∧ r = none) := by
  refine SP_of ⟨by decide, rfl⟩ (Nat.le_of_ble_eq_true rfl) ?_
  have e1375 : I (ad g 1) 1 = L := hI.2
  have b1376 := BT_get hI.1 1 1 2 (0) (0) (900) (by decide) 1 (by decide) (by decide)
  rw [e1375] at b1376
  have fr0 : fz 74 g [50] I I := fz_rf
  have frj0 : fz 74 g [] J J := fz_rf
  refine WP_aload_n dX6_load_0 rfl ?_
  refine WP_getr dX6_load_1 fX6_15 rfl (lyx_is hy 5 0 rfl) hT ?_
  refine WP_astore (ls' := [(0, _), (1, _), (2, _), (3, _), (4, _)]) dX6_load_4 (by decide) rfl ?_
  refine WP_iload_n dX6_load_6 rfl ?_
  refine WQ_bipush (7) (7) dX6_load_7 rfl rfl (fun v1377 hv1377 => ?_)
  refine WQ_imulk (7) dX6_load_9 hv1377 (by omega) (by omega) (fun v1378 hv1378 => ?_)
  refine WP_iload_n dX6_load_10 rfl ?_
  refine WQ_iadd dX6_load_11 (by omega) (by omega) (fun v1379 hv1379 => ?_)
  refine WP_istore (ls' := [(0, _), (1, _), (2, _), (3, _), (4, _), (5, _)]) dX6_load_12 (by decide) rfl ?_
  refine WP_aload dX6_load_14 rfl ?_
  refine WQ_geti dX6_load_16 fX6_21 rfl (lyx_is hy 27 7 rfl) (BT_get hI.1 27 4 5 (-1) (0) (2) (by decide) 4 (by decide) (by decide)) (fun v1380 ev1380 av1380 bv1380 => ?_)
  refine WP_istore (ls' := [(0, _), (1, _), (2, _), (3, _), (4, _), (5, _), (6, _)]) dX6_load_19 (by decide) rfl ?_
  refine WP_aload dX6_load_21 rfl ?_
  refine WP_getr dX6_load_23 fX6_26 rfl (lyx_is hy 27 7 rfl) (rfx hr 27 9 32 (by decide)) ?_
  refine WP_iload_n dX6_load_26 rfl ?_
  refine WQ_ialdu dX6_load_27 (lyx_is hy 32 13 rfl) (lyx_n hy 32 4 rfl) (by omega) (by omega) (fun v1381 => ?_)
  refine WP_iload_n dX6_load_28 rfl ?_
  refine WQ_ishru dX6_load_29 (fun v1382 => ?_)
  refine WQ_iconst (1) (1) dX6_load_30 rfl rfl (fun v1383 hv1383 => ?_)
  refine WQ_iandu dX6_load_31 (fun v1384 => ?_)
  have jn40_1387 : ∀ (v1387 : Int32), 0 ≤ v1387.toInt → v1387.toInt ≤ 1 → WP g mX6_load 40 [(0, .ref (ad g 50)), (1, .ref (ad g 5)), (2, .int so), (3, .int da), (4, .ref (ad g 27)), (5, .int v1379), (6, .int v1380)] [.int v1387] I J R (fun r I' J' R' => (XI g n L I' ∧ R' = R ∧ fz 74 g [50] I I' ∧ fz 74 g [] J J') ∧ r = none) := by
    intro v1387 av1387 bv1387
    refine WP_istore (ls' := [(0, _), (1, _), (2, _), (3, _), (4, _), (5, _), (6, _), (7, _)]) dX6_load_40 (by decide) rfl ?_
    refine WP_aload_n dX6_load_42 rfl ?_
    refine WP_aload dX6_load_43 rfl ?_
    refine WP_getr dX6_load_45 fX6_30 rfl (lyx_is hy 27 7 rfl) (rfx hr 27 11 34 (by decide)) ?_
    refine WP_iload dX6_load_48 rfl ?_
    refine WQ_iald dX6_load_50 (lyx_is hy 34 13 rfl) (lyx_n hy 34 28 rfl) (by omega) (by omega) (fun q hq => BT_get hI.1 34 0 28 (-1) (0) (2) (by decide) q (Nat.zero_le _) hq) (fun v1389 av1389 bv1389 ev1389 => ?_)
    clear ev1389
    refine WQ_puti dX6_load_51 fX6_9 rfl rfl (lyx_is hy 50 6 rfl) (fun I1390 eI1390 => ?_)
    have hI1390 : XI g n L I1390 := by rw [eI1390]; exact (xi_f hy hI (c := 50) (-1) (0) (2) (by decide) (Or.inl (by decide)) (by decide) (by omega) (by omega))
    have e1391 : I1390 (ad g 1) 1 = L := by rw [eI1390, pp_ne _ _ (Or.inl (lyx_ne hy (by decide) (by decide) (by decide)))]; exact e1375
    have e1392 : I1390 (ad g 27) 4 = v1380 := by rw [eI1390, pp_ne _ _ (Or.inl (lyx_ne hy (by decide) (by decide) (by decide)))]; exact ev1380
    have e1393 : I1390 (ad g 50) 0 = v1389 := by rw [eI1390, pp_self]
    have fr1394 : fz 74 g [50] I I1390 := by rw [eI1390]; exact fzx_pp hy fr0 (by decide) (by decide)
    clear eI1390
    refine WP_aload_n dX6_load_54 rfl ?_
    refine WP_aload dX6_load_55 rfl ?_
    refine WP_getr dX6_load_57 fX6_33 rfl (lyx_is hy 27 7 rfl) (rfx hr 27 12 35 (by decide)) ?_
    refine WP_iload dX6_load_60 rfl ?_
    refine WQ_iald dX6_load_62 (lyx_is hy 35 13 rfl) (lyx_n hy 35 28 rfl) (by omega) (by omega) (fun q hq => BT_get hI1390.1 35 0 28 (0) (0) (3) (by decide) q (Nat.zero_le _) hq) (fun v1395 av1395 bv1395 ev1395 => ?_)
    clear ev1395
    refine WQ_puti dX6_load_63 fX6_36 rfl rfl (lyx_is hy 50 6 rfl) (fun I1396 eI1396 => ?_)
    have hI1396 : XI g n L I1396 := by rw [eI1396]; exact (xi_f hy hI1390 (c := 50) (0) (0) (3) (by decide) (Or.inl (by decide)) (by decide) (by omega) (by omega))
    have e1397 : I1396 (ad g 1) 1 = L := by rw [eI1396, pp_ne _ _ (Or.inl (lyx_ne hy (by decide) (by decide) (by decide)))]; exact e1391
    have e1398 : I1396 (ad g 27) 4 = v1380 := by rw [eI1396, pp_ne _ _ (Or.inl (lyx_ne hy (by decide) (by decide) (by decide)))]; exact e1392
    have e1399 : I1396 (ad g 50) 0 = v1389 := by rw [eI1396, pp_ne _ _ (Or.inr (by decide))]; exact e1393
    have e1400 : I1396 (ad g 50) 1 = v1395 := by rw [eI1396, pp_self]
    have fr1401 : fz 74 g [50] I I1396 := by rw [eI1396]; exact fzx_pp hy fr1394 (by decide) (by decide)
    clear eI1396
    refine WP_aload_n dX6_load_66 rfl ?_
    refine WP_aload dX6_load_67 rfl ?_
    refine WP_getr dX6_load_69 fX6_39 rfl (lyx_is hy 27 7 rfl) (rfx hr 27 13 36 (by decide)) ?_
    refine WP_iload dX6_load_72 rfl ?_
    refine WQ_iald dX6_load_74 (lyx_is hy 36 13 rfl) (lyx_n hy 36 28 rfl) (by omega) (by omega) (fun q hq => BT_get hI1396.1 36 0 28 (0) (0) (99) (by decide) q (Nat.zero_le _) hq) (fun v1402 av1402 bv1402 ev1402 => ?_)
    clear ev1402
    refine WQ_puti dX6_load_75 fX6_42 rfl rfl (lyx_is hy 50 6 rfl) (fun I1403 eI1403 => ?_)
    have hI1403 : XI g n L I1403 := by rw [eI1403]; exact (xi_f hy hI1396 (c := 50) (0) (0) (99) (by decide) (Or.inl (by decide)) (by decide) (by omega) (by omega))
    have e1404 : I1403 (ad g 1) 1 = L := by rw [eI1403, pp_ne _ _ (Or.inl (lyx_ne hy (by decide) (by decide) (by decide)))]; exact e1397
    have e1405 : I1403 (ad g 27) 4 = v1380 := by rw [eI1403, pp_ne _ _ (Or.inl (lyx_ne hy (by decide) (by decide) (by decide)))]; exact e1398
    have e1406 : I1403 (ad g 50) 0 = v1389 := by rw [eI1403, pp_ne _ _ (Or.inr (by decide))]; exact e1399
    have e1407 : I1403 (ad g 50) 1 = v1395 := by rw [eI1403, pp_ne _ _ (Or.inr (by decide))]; exact e1400
    have e1408 : I1403 (ad g 50) 2 = v1402 := by rw [eI1403, pp_self]
    have fr1409 : fz 74 g [50] I I1403 := by rw [eI1403]; exact fzx_pp hy fr1401 (by decide) (by decide)
    clear eI1403
    refine WP_aload_n dX6_load_78 rfl ?_
    refine WP_aload_n dX6_load_79 rfl ?_
    refine WQ_getim dX6_load_80 fX6_9 rfl (lyx_is hy 50 6 rfl) e1406 ?_
    refine WQ_iconst (-1) (-1) dX6_load_83 rfl rfl (fun v1410 hv1410 => ?_)
    have jn105_1416 : ∀ (v1416 : Int32), 0 ≤ v1416.toInt → v1416.toInt ≤ 20 → WP g mX6_load 105 [(0, .ref (ad g 50)), (1, .ref (ad g 5)), (2, .int so), (3, .int da), (4, .ref (ad g 27)), (5, .int v1379), (6, .int v1380), (7, .int v1387)] [.int v1416, .ref (ad g 50)] I1403 J R (fun r I' J' R' => (XI g n L I' ∧ R' = R ∧ fz 74 g [50] I I' ∧ fz 74 g [] J J') ∧ r = none) := by
      intro v1416 av1416 bv1416
      refine WQ_puti dX6_load_105 fX6_48 rfl rfl (lyx_is hy 50 6 rfl) (fun I1418 eI1418 => ?_)
      have hI1418 : XI g n L I1418 := by rw [eI1418]; exact (xi_f hy hI1403 (c := 50) (0) (0) (20) (by decide) (Or.inl (by decide)) (by decide) (by omega) (by omega))
      have e1419 : I1418 (ad g 1) 1 = L := by rw [eI1418, pp_ne _ _ (Or.inl (lyx_ne hy (by decide) (by decide) (by decide)))]; exact e1404
      have e1420 : I1418 (ad g 27) 4 = v1380 := by rw [eI1418, pp_ne _ _ (Or.inl (lyx_ne hy (by decide) (by decide) (by decide)))]; exact e1405
      have e1421 : I1418 (ad g 50) 0 = v1389 := by rw [eI1418, pp_ne _ _ (Or.inr (by decide))]; exact e1406
      have e1422 : I1418 (ad g 50) 1 = v1395 := by rw [eI1418, pp_ne _ _ (Or.inr (by decide))]; exact e1407
      have e1423 : I1418 (ad g 50) 2 = v1402 := by rw [eI1418, pp_ne _ _ (Or.inr (by decide))]; exact e1408
      have e1424 : I1418 (ad g 50) 3 = v1416 := by rw [eI1418, pp_self]
      have fr1425 : fz 74 g [50] I I1418 := by rw [eI1418]; exact fzx_pp hy fr1409 (by decide) (by decide)
      clear eI1418
      refine WP_aload_n dX6_load_108 rfl ?_
      refine WP_iload dX6_load_109 rfl ?_
      refine WQ_iconst (-1) (-1) dX6_load_111 rfl rfl (fun v1426 hv1426 => ?_)
      have jn131_1432 : ∀ (v1432 : Int32), 0 ≤ v1432.toInt → v1432.toInt ≤ 20 → WP g mX6_load 131 [(0, .ref (ad g 50)), (1, .ref (ad g 5)), (2, .int so), (3, .int da), (4, .ref (ad g 27)), (5, .int v1379), (6, .int v1380), (7, .int v1387)] [.int v1432, .ref (ad g 50)] I1418 J R (fun r I' J' R' => (XI g n L I' ∧ R' = R ∧ fz 74 g [50] I I' ∧ fz 74 g [] J J') ∧ r = none) := by
        intro v1432 av1432 bv1432
        refine WQ_puti dX6_load_131 fX6_51 rfl rfl (lyx_is hy 50 6 rfl) (fun I1434 eI1434 => ?_)
        have hI1434 : XI g n L I1434 := by rw [eI1434]; exact (xi_f hy hI1418 (c := 50) (0) (0) (20) (by decide) (Or.inl (by decide)) (by decide) (by omega) (by omega))
        have e1435 : I1434 (ad g 1) 1 = L := by rw [eI1434, pp_ne _ _ (Or.inl (lyx_ne hy (by decide) (by decide) (by decide)))]; exact e1419
        have e1436 : I1434 (ad g 27) 4 = v1380 := by rw [eI1434, pp_ne _ _ (Or.inl (lyx_ne hy (by decide) (by decide) (by decide)))]; exact e1420
        have e1437 : I1434 (ad g 50) 0 = v1389 := by rw [eI1434, pp_ne _ _ (Or.inr (by decide))]; exact e1421
        have e1438 : I1434 (ad g 50) 1 = v1395 := by rw [eI1434, pp_ne _ _ (Or.inr (by decide))]; exact e1422
        have e1439 : I1434 (ad g 50) 2 = v1402 := by rw [eI1434, pp_ne _ _ (Or.inr (by decide))]; exact e1423
        have e1440 : I1434 (ad g 50) 3 = v1416 := by rw [eI1434, pp_ne _ _ (Or.inr (by decide))]; exact e1424
        have e1441 : I1434 (ad g 50) 4 = v1432 := by rw [eI1434, pp_self]
        have fr1442 : fz 74 g [50] I I1434 := by rw [eI1434]; exact fzx_pp hy fr1425 (by decide) (by decide)
        clear eI1434
        refine WP_aload_n dX6_load_134 rfl ?_
        refine WP_iload dX6_load_135 rfl ?_
        have jn148_1444 : ∀ (v1444 : Int32), 0 ≤ v1444.toInt → v1444.toInt ≤ 3 → WP g mX6_load 148 [(0, .ref (ad g 50)), (1, .ref (ad g 5)), (2, .int so), (3, .int da), (4, .ref (ad g 27)), (5, .int v1379), (6, .int v1380), (7, .int v1387)] [.int v1444, .ref (ad g 50)] I1434 J R (fun r I' J' R' => (XI g n L I' ∧ R' = R ∧ fz 74 g [50] I I' ∧ fz 74 g [] J J') ∧ r = none) := by
          intro v1444 av1444 bv1444
          refine WQ_puti dX6_load_148 fX6_54 rfl rfl (lyx_is hy 50 6 rfl) (fun I1446 eI1446 => ?_)
          have hI1446 : XI g n L I1446 := by rw [eI1446]; exact (xi_f hy hI1434 (c := 50) (0) (0) (3) (by decide) (Or.inl (by decide)) (by decide) (by omega) (by omega))
          have e1447 : I1446 (ad g 1) 1 = L := by rw [eI1446, pp_ne _ _ (Or.inl (lyx_ne hy (by decide) (by decide) (by decide)))]; exact e1435
          have e1448 : I1446 (ad g 27) 4 = v1380 := by rw [eI1446, pp_ne _ _ (Or.inl (lyx_ne hy (by decide) (by decide) (by decide)))]; exact e1436
          have e1449 : I1446 (ad g 50) 0 = v1389 := by rw [eI1446, pp_ne _ _ (Or.inr (by decide))]; exact e1437
          have e1450 : I1446 (ad g 50) 1 = v1395 := by rw [eI1446, pp_ne _ _ (Or.inr (by decide))]; exact e1438
          have e1451 : I1446 (ad g 50) 2 = v1402 := by rw [eI1446, pp_ne _ _ (Or.inr (by decide))]; exact e1439
          have e1452 : I1446 (ad g 50) 3 = v1416 := by rw [eI1446, pp_ne _ _ (Or.inr (by decide))]; exact e1440
          have e1453 : I1446 (ad g 50) 4 = v1432 := by rw [eI1446, pp_ne _ _ (Or.inr (by decide))]; exact e1441
          have e1454 : I1446 (ad g 50) 5 = v1444 := by rw [eI1446, pp_self]
          have fr1455 : fz 74 g [50] I I1446 := by rw [eI1446]; exact fzx_pp hy fr1442 (by decide) (by decide)
          clear eI1446
          refine WP_aload_n dX6_load_151 rfl ?_
          refine WP_iload dX6_load_152 rfl ?_
          have jn168_1461 : ∀ (v1461 : Int32), 0 ≤ v1461.toInt → v1461.toInt ≤ 2 → WP g mX6_load 168 [(0, .ref (ad g 50)), (1, .ref (ad g 5)), (2, .int so), (3, .int da), (4, .ref (ad g 27)), (5, .int v1379), (6, .int v1380), (7, .int v1387)] [.int v1461, .ref (ad g 50)] I1446 J R (fun r I' J' R' => (XI g n L I' ∧ R' = R ∧ fz 74 g [50] I I' ∧ fz 74 g [] J J') ∧ r = none) := by
            intro v1461 av1461 bv1461
            refine WQ_puti dX6_load_168 fX6_57 rfl rfl (lyx_is hy 50 6 rfl) (fun I1463 eI1463 => ?_)
            have hI1463 : XI g n L I1463 := by rw [eI1463]; exact (xi_f hy hI1446 (c := 50) (0) (0) (2) (by decide) (Or.inl (by decide)) (by decide) (by omega) (by omega))
            have e1464 : I1463 (ad g 1) 1 = L := by rw [eI1463, pp_ne _ _ (Or.inl (lyx_ne hy (by decide) (by decide) (by decide)))]; exact e1447
            have e1465 : I1463 (ad g 27) 4 = v1380 := by rw [eI1463, pp_ne _ _ (Or.inl (lyx_ne hy (by decide) (by decide) (by decide)))]; exact e1448
            have e1466 : I1463 (ad g 50) 0 = v1389 := by rw [eI1463, pp_ne _ _ (Or.inr (by decide))]; exact e1449
            have e1467 : I1463 (ad g 50) 1 = v1395 := by rw [eI1463, pp_ne _ _ (Or.inr (by decide))]; exact e1450
            have e1468 : I1463 (ad g 50) 2 = v1402 := by rw [eI1463, pp_ne _ _ (Or.inr (by decide))]; exact e1451
            have e1469 : I1463 (ad g 50) 3 = v1416 := by rw [eI1463, pp_ne _ _ (Or.inr (by decide))]; exact e1452
            have e1470 : I1463 (ad g 50) 4 = v1432 := by rw [eI1463, pp_ne _ _ (Or.inr (by decide))]; exact e1453
            have e1471 : I1463 (ad g 50) 5 = v1444 := by rw [eI1463, pp_ne _ _ (Or.inr (by decide))]; exact e1454
            have e1472 : I1463 (ad g 50) 6 = v1461 := by rw [eI1463, pp_self]
            have fr1473 : fz 74 g [50] I I1463 := by rw [eI1463]; exact fzx_pp hy fr1455 (by decide) (by decide)
            clear eI1463
            refine WP_aload_n dX6_load_171 rfl ?_
            refine WP_aload_n dX6_load_172 rfl ?_
            refine WQ_getim dX6_load_173 fX6_9 rfl (lyx_is hy 50 6 rfl) e1466 ?_
            refine WQ_iconst (-1) (-1) dX6_load_176 rfl rfl (fun v1474 hv1474 => ?_)
            have jn194_1479 : ∀ (v1479 : Int32), 0 ≤ v1479.toInt → v1479.toInt ≤ 1 → WP g mX6_load 194 [(0, .ref (ad g 50)), (1, .ref (ad g 5)), (2, .int so), (3, .int da), (4, .ref (ad g 27)), (5, .int v1379), (6, .int v1380), (7, .int v1387)] [.int v1479, .ref (ad g 50)] I1463 J R (fun r I' J' R' => (XI g n L I' ∧ R' = R ∧ fz 74 g [50] I I' ∧ fz 74 g [] J J') ∧ r = none) := by
              intro v1479 av1479 bv1479
              refine WQ_putz dX6_load_194 fX6_60 rfl rfl (by omega) (lyx_is hy 50 6 rfl) (fun I1481 eI1481 => ?_)
              have hI1481 : XI g n L I1481 := by rw [eI1481]; exact (xi_f hy hI1463 (c := 50) (0) (0) (1) (by decide) (Or.inl (by decide)) (by decide) (by omega) (by omega))
              have e1482 : I1481 (ad g 1) 1 = L := by rw [eI1481, pp_ne _ _ (Or.inl (lyx_ne hy (by decide) (by decide) (by decide)))]; exact e1464
              have e1483 : I1481 (ad g 27) 4 = v1380 := by rw [eI1481, pp_ne _ _ (Or.inl (lyx_ne hy (by decide) (by decide) (by decide)))]; exact e1465
              have e1484 : I1481 (ad g 50) 0 = v1389 := by rw [eI1481, pp_ne _ _ (Or.inr (by decide))]; exact e1466
              have e1485 : I1481 (ad g 50) 1 = v1395 := by rw [eI1481, pp_ne _ _ (Or.inr (by decide))]; exact e1467
              have e1486 : I1481 (ad g 50) 2 = v1402 := by rw [eI1481, pp_ne _ _ (Or.inr (by decide))]; exact e1468
              have e1487 : I1481 (ad g 50) 3 = v1416 := by rw [eI1481, pp_ne _ _ (Or.inr (by decide))]; exact e1469
              have e1488 : I1481 (ad g 50) 4 = v1432 := by rw [eI1481, pp_ne _ _ (Or.inr (by decide))]; exact e1470
              have e1489 : I1481 (ad g 50) 5 = v1444 := by rw [eI1481, pp_ne _ _ (Or.inr (by decide))]; exact e1471
              have e1490 : I1481 (ad g 50) 6 = v1461 := by rw [eI1481, pp_ne _ _ (Or.inr (by decide))]; exact e1472
              have e1491 : I1481 (ad g 50) 7 = v1479 := by rw [eI1481, pp_self]
              have fr1492 : fz 74 g [50] I I1481 := by rw [eI1481]; exact fzx_pp hy fr1473 (by decide) (by decide)
              clear eI1481
              refine WP_aload_n dX6_load_197 rfl ?_
              refine WP_aload_n dX6_load_198 rfl ?_
              refine WP_getr dX6_load_199 fX6_64 rfl (lyx_is hy 5 0 rfl) (rfx hr 5 2 23 (by decide)) ?_
              refine WP_iload_n dX6_load_202 rfl ?_
              refine WQ_iald dX6_load_203 (lyx_is hy 23 13 rfl) (lyx_n hy 23 7 rfl) (by omega) (by omega) (fun q hq => BT_get hI1481.1 23 0 7 (0) (0) (900) (by decide) q (Nat.zero_le _) hq) (fun v1493 av1493 bv1493 ev1493 => ?_)
              clear ev1493
              have jn212_1496 : ∀ (v1496 : Int32), 0 ≤ v1496.toInt → v1496.toInt ≤ 1 → WP g mX6_load 212 [(0, .ref (ad g 50)), (1, .ref (ad g 5)), (2, .int so), (3, .int da), (4, .ref (ad g 27)), (5, .int v1379), (6, .int v1380), (7, .int v1387)] [.int v1496, .ref (ad g 50)] I1481 J R (fun r I' J' R' => (XI g n L I' ∧ R' = R ∧ fz 74 g [50] I I' ∧ fz 74 g [] J J') ∧ r = none) := by
                intro v1496 av1496 bv1496
                refine WQ_putz dX6_load_212 fX6_67 rfl rfl (by omega) (lyx_is hy 50 6 rfl) (fun I1498 eI1498 => ?_)
                have hI1498 : XI g n L I1498 := by rw [eI1498]; exact (xi_f hy hI1481 (c := 50) (0) (0) (1) (by decide) (Or.inl (by decide)) (by decide) (by omega) (by omega))
                have e1499 : I1498 (ad g 1) 1 = L := by rw [eI1498, pp_ne _ _ (Or.inl (lyx_ne hy (by decide) (by decide) (by decide)))]; exact e1482
                have e1500 : I1498 (ad g 27) 4 = v1380 := by rw [eI1498, pp_ne _ _ (Or.inl (lyx_ne hy (by decide) (by decide) (by decide)))]; exact e1483
                have e1501 : I1498 (ad g 50) 0 = v1389 := by rw [eI1498, pp_ne _ _ (Or.inr (by decide))]; exact e1484
                have e1502 : I1498 (ad g 50) 1 = v1395 := by rw [eI1498, pp_ne _ _ (Or.inr (by decide))]; exact e1485
                have e1503 : I1498 (ad g 50) 2 = v1402 := by rw [eI1498, pp_ne _ _ (Or.inr (by decide))]; exact e1486
                have e1504 : I1498 (ad g 50) 3 = v1416 := by rw [eI1498, pp_ne _ _ (Or.inr (by decide))]; exact e1487
                have e1505 : I1498 (ad g 50) 4 = v1432 := by rw [eI1498, pp_ne _ _ (Or.inr (by decide))]; exact e1488
                have e1506 : I1498 (ad g 50) 5 = v1444 := by rw [eI1498, pp_ne _ _ (Or.inr (by decide))]; exact e1489
                have e1507 : I1498 (ad g 50) 6 = v1461 := by rw [eI1498, pp_ne _ _ (Or.inr (by decide))]; exact e1490
                have e1508 : I1498 (ad g 50) 7 = v1479 := by rw [eI1498, pp_ne _ _ (Or.inr (by decide))]; exact e1491
                have e1509 : I1498 (ad g 50) 8 = v1496 := by rw [eI1498, pp_self]
                have fr1510 : fz 74 g [50] I I1498 := by rw [eI1498]; exact fzx_pp hy fr1492 (by decide) (by decide)
                clear eI1498
                exact WP_vret dX6_load_215 rfl ⟨⟨hI1498, rfl, fr1510, frj0⟩, rfl⟩
              refine WQ_if_le 211 dX6_load_204 rfl (fun c1510 => ?_) (fun c1510 => ?_)
              · refine WQ_iconst (0) (0) dX6_load_211 rfl rfl (fun v1512 hv1512 => ?_)
                exact WP_sub (fc rfl (fc rfl (fc rfl (fc rfl (fc rfl (fc rfl (fc rfl (fc rfl fn)))))))) (jn212_1496 v1512 (by omega) (by omega))
              · refine WQ_iconst (1) (1) dX6_load_207 rfl rfl (fun v1513 hv1513 => ?_)
                refine WP_goto 212 dX6_load_208 rfl ?_
                exact WP_sub (fc rfl (fc rfl (fc rfl (fc rfl (fc rfl (fc rfl (fc rfl (fc rfl fn)))))))) (jn212_1496 v1513 (by omega) (by omega))
            refine WQ_icmp_eq 193 dX6_load_177 rfl (fun c1513 => ?_) (fun c1513 => ?_)
            · refine WQ_iconst (0) (0) dX6_load_193 rfl rfl (fun v1515 hv1515 => ?_)
              exact WP_sub (fc rfl (fc rfl (fc rfl (fc rfl (fc rfl (fc rfl (fc rfl (fc rfl fn)))))))) (jn194_1479 v1515 (by omega) (by omega))
            · refine WP_aload_n dX6_load_180 rfl ?_
              refine WQ_getim dX6_load_181 fX6_9 rfl (lyx_is hy 50 6 rfl) e1466 ?_
              refine WP_iload dX6_load_184 rfl ?_
              refine WQ_icmp_ne 193 dX6_load_186 rfl (fun c1515 => ?_) (fun c1515 => ?_)
              · refine WQ_iconst (0) (0) dX6_load_193 rfl rfl (fun v1517 hv1517 => ?_)
                exact WP_sub (fc rfl (fc rfl (fc rfl (fc rfl (fc rfl (fc rfl (fc rfl (fc rfl fn)))))))) (jn194_1479 v1517 (by omega) (by omega))
              · refine WQ_iconst (1) (1) dX6_load_189 rfl rfl (fun v1518 hv1518 => ?_)
                refine WP_goto 194 dX6_load_190 rfl ?_
                exact WP_sub (fc rfl (fc rfl (fc rfl (fc rfl (fc rfl (fc rfl (fc rfl (fc rfl fn)))))))) (jn194_1479 v1518 (by omega) (by omega))
          refine WQ_if_ne 163 dX6_load_154 rfl (fun c1518 => ?_) (fun c1518 => ?_)
          · refine WQ_iconst (0) (0) dX6_load_163 rfl rfl (fun v1520 hv1520 => ?_)
            refine WP_goto 168 dX6_load_164 rfl ?_
            exact WP_sub (fc rfl (fc rfl (fc rfl (fc rfl (fc rfl (fc rfl (fc rfl (fc rfl fn)))))))) (jn168_1461 v1520 (by omega) (by omega))
          · refine WP_iload dX6_load_157 rfl ?_
            refine WQ_iconst (-1) (-1) dX6_load_159 rfl rfl (fun v1521 hv1521 => ?_)
            refine WQ_icmp_ne 167 dX6_load_160 rfl (fun c1521 => ?_) (fun c1521 => ?_)
            · refine WQ_iconst (2) (2) dX6_load_167 rfl rfl (fun v1523 hv1523 => ?_)
              exact WP_sub (fc rfl (fc rfl (fc rfl (fc rfl (fc rfl (fc rfl (fc rfl (fc rfl fn)))))))) (jn168_1461 v1523 (by omega) (by omega))
            · refine WQ_iconst (0) (0) dX6_load_163 rfl rfl (fun v1524 hv1524 => ?_)
              refine WP_goto 168 dX6_load_164 rfl ?_
              exact WP_sub (fc rfl (fc rfl (fc rfl (fc rfl (fc rfl (fc rfl (fc rfl (fc rfl fn)))))))) (jn168_1461 v1524 (by omega) (by omega))
        refine WQ_if_eq 144 dX6_load_137 rfl (fun c1524 => ?_) (fun c1524 => ?_)
        · refine WP_aload_n dX6_load_144 rfl ?_
          refine WQ_getim dX6_load_145 fX6_36 rfl (lyx_is hy 50 6 rfl) e1438 ?_
          exact WP_sub (fc rfl (fc rfl (fc rfl (fc rfl (fc rfl (fc rfl (fc rfl (fc rfl fn)))))))) (jn148_1444 v1395 (by omega) (by omega))
        · refine WQ_iconst (0) (0) dX6_load_140 rfl rfl (fun v1526 hv1526 => ?_)
          refine WP_goto 148 dX6_load_141 rfl ?_
          exact WP_sub (fc rfl (fc rfl (fc rfl (fc rfl (fc rfl (fc rfl (fc rfl (fc rfl fn)))))))) (jn148_1444 v1526 (by omega) (by omega))
      refine WQ_icmp_ne 119 dX6_load_112 rfl (fun c1526 => ?_) (fun c1526 => ?_)
      · refine WP_aload_n dX6_load_119 rfl ?_
        refine WP_getr dX6_load_120 fX6_45 rfl (lyx_is hy 5 0 rfl) (rfx hr 5 1 22 (by decide)) ?_
        refine WP_iload dX6_load_123 rfl ?_
        refine WQ_bipush (7) (7) dX6_load_125 rfl rfl (fun v1528 hv1528 => ?_)
        refine WQ_imulk (7) dX6_load_127 hv1528 (by omega) (by omega) (fun v1529 hv1529 => ?_)
        refine WP_iload_n dX6_load_128 rfl ?_
        refine WQ_iadd dX6_load_129 (by omega) (by omega) (fun v1530 hv1530 => ?_)
        refine WQ_iald dX6_load_130 (lyx_is hy 22 13 rfl) (lyx_n hy 22 21 rfl) (by omega) (by omega) (fun q hq => BT_get hI1418.1 22 0 21 (0) (0) (20) (by decide) q (Nat.zero_le _) hq) (fun v1531 av1531 bv1531 ev1531 => ?_)
        clear ev1531
        exact WP_sub (fc rfl (fc rfl (fc rfl (fc rfl (fc rfl (fc rfl (fc rfl (fc rfl fn)))))))) (jn131_1432 v1531 (by omega) (by omega))
      · refine WQ_iconst (0) (0) dX6_load_115 rfl rfl (fun v1532 hv1532 => ?_)
        refine WP_goto 131 dX6_load_116 rfl ?_
        exact WP_sub (fc rfl (fc rfl (fc rfl (fc rfl (fc rfl (fc rfl (fc rfl (fc rfl fn)))))))) (jn131_1432 v1532 (by omega) (by omega))
    refine WQ_icmp_ne 91 dX6_load_84 rfl (fun c1532 => ?_) (fun c1532 => ?_)
    · refine WP_aload_n dX6_load_91 rfl ?_
      refine WP_getr dX6_load_92 fX6_45 rfl (lyx_is hy 5 0 rfl) (rfx hr 5 1 22 (by decide)) ?_
      refine WP_aload_n dX6_load_95 rfl ?_
      refine WQ_getim dX6_load_96 fX6_9 rfl (lyx_is hy 50 6 rfl) e1406 ?_
      refine WQ_bipush (7) (7) dX6_load_99 rfl rfl (fun v1534 hv1534 => ?_)
      refine WQ_imulk (7) dX6_load_101 hv1534 (by omega) (by omega) (fun v1535 hv1535 => ?_)
      refine WP_iload_n dX6_load_102 rfl ?_
      refine WQ_iadd dX6_load_103 (by omega) (by omega) (fun v1536 hv1536 => ?_)
      refine WQ_iald dX6_load_104 (lyx_is hy 22 13 rfl) (lyx_n hy 22 21 rfl) (by omega) (by omega) (fun q hq => BT_get hI1403.1 22 0 21 (0) (0) (20) (by decide) q (Nat.zero_le _) hq) (fun v1537 av1537 bv1537 ev1537 => ?_)
      clear ev1537
      exact WP_sub (fc rfl (fc rfl (fc rfl (fc rfl (fc rfl (fc rfl (fc rfl (fc rfl fn)))))))) (jn105_1416 v1537 (by omega) (by omega))
    · refine WQ_iconst (0) (0) dX6_load_87 rfl rfl (fun v1538 hv1538 => ?_)
      refine WP_goto 105 dX6_load_88 rfl ?_
      exact WP_sub (fc rfl (fc rfl (fc rfl (fc rfl (fc rfl (fc rfl (fc rfl (fc rfl fn)))))))) (jn105_1416 v1538 (by omega) (by omega))
  refine WX_if_eq 39 dX6_load_32 rfl ?_ ?_
  · refine WQ_iconst (0) (0) dX6_load_39 rfl rfl (fun v1539 hv1539 => ?_)
    exact WP_sub (fc rfl (fc rfl (fc rfl (fc rfl (fc rfl (fc rfl (fc rfl fn))))))) (jn40_1387 v1539 (by omega) (by omega))
  · refine WQ_iconst (1) (1) dX6_load_35 rfl rfl (fun v1540 hv1540 => ?_)
    refine WP_goto 40 dX6_load_36 rfl ?_
    exact WP_sub (fc rfl (fc rfl (fc rfl (fc rfl (fc rfl (fc rfl (fc rfl fn))))))) (jn40_1387 v1540 (by omega) (by omega))
