set_option maxHeartbeats 4000000 in
set_option maxRecDepth 100000 in
theorem sx_fillJ_45 {g : GG} {n : Int} {L : Int32} (hy : LyX g)  {I : pI} {J : pJ} {R : pR} (hr : RfX g R) (hI : XI g n L I) (vv : Int64)  : SP g mJ7_fill_d0a16 [.ref (ad g 45), .long vv] I J R (fun r I' J' R' => (XI g n L I' ∧ R' = R) ∧ r = none) := by
  refine SP_of ⟨by decide, rfl⟩ (Nat.le_of_ble_eq_true rfl) ?_
  have e4846 : I (ad g 1) 1 = L := hI.2
  have b4847 := BT_get hI.1 1 1 2 (0) (0) (900) (by decide) 1 (by decide) (by decide)
  rw [e4846] at b4847
  refine WQ_iconst (0) (0) dJ7_fill_d0a16_0 rfl rfl (fun v4848 hv4848 => ?_)
  refine WP_istore_n (ls' := [(0, _), (1, _), (3, _)]) dJ7_fill_d0a16_1 (by decide) rfl ?_
  refine WP_aload_n dJ7_fill_d0a16_2 rfl ?_
  refine WP_alen dJ7_fill_d0a16_3 (lyx_is hy 45 14 rfl) (by decide) ?_
  rw [(lyx_n hy 45 168 rfl)]
  obtain ⟨v4849, hv4849, ev4849⟩ : ∃ v : Int32, v.toInt = 168 ∧ nI 168 = v := ⟨_, nI_toInt (by decide), rfl⟩
  rw [ev4849]; clear ev4849
  refine WP_istore (ls' := [(0, _), (1, _), (3, _), (4, _)]) dJ7_fill_d0a16_4 (by decide) rfl ?_
  have lp6_4852 : ∀ (mz : Nat) (i4850 : Int32) (I4851 : pI) (J4852 : pJ), XI g n L I4851 → 0 ≤ i4850.toInt → i4850.toInt ≤ 168 → i4850.toInt ≤ v4849.toInt → (169 - i4850.toInt).toNat < mz → WP g mJ7_fill_d0a16 6 [(0, .ref (ad g 45)), (1, .long vv), (3, .int i4850), (4, .int v4849)] [] I4851 J4852 R (fun r I' J' R' => (XI g n L I' ∧ R' = R) ∧ r = none) := by
    intro mz
    induction mz with
    | zero =>
      intro i4850 I4851 J4852 hI4851 ai4850 bi4850 j0_I4851 hmlp6_4852
      exact absurd hmlp6_4852 (Nat.not_lt_zero _)
    | succ mz ihlp6_4852 =>
      intro i4850 I4851 J4852 hI4851 ai4850 bi4850 j0_I4851 hmlp6_4852
      have e4854 : I4851 (ad g 1) 1 = L := hI4851.2
      have b4855 := BT_get hI4851.1 1 1 2 (0) (0) (900) (by decide) 1 (by decide) (by decide)
      rw [e4854] at b4855
      refine WP_iload_n dJ7_fill_d0a16_6 rfl ?_
      refine WP_iload dJ7_fill_d0a16_7 rfl ?_
      refine WQ_icmp_ge 22 dJ7_fill_d0a16_9 rfl (fun c4855 => ?_) (fun c4855 => ?_)
      · exact WP_vret dJ7_fill_d0a16_22 rfl ⟨⟨hI4851, rfl⟩, rfl⟩
      · refine WP_aload_n dJ7_fill_d0a16_12 rfl ?_
        refine WP_iload_n dJ7_fill_d0a16_13 rfl ?_
        refine WP_lload_n dJ7_fill_d0a16_14 rfl ?_
        refine WQ_last dJ7_fill_d0a16_15 (lyx_is hy 45 14 rfl) (lyx_n hy 45 168 rfl) (by omega) (by omega) (fun J4857 eJ4857 => ?_)
        clear eJ4857
        refine WP_iinc (ls' := [(0, _), (1, _), (3, _), (4, _)]) dJ7_fill_d0a16_16 rfl (by decide) rfl ?_
        have hv4858 : (i4850 + Int32.ofInt (1)).toInt = i4850.toInt + (1) := ia_n rfl (by omega) (by omega)
        generalize i4850 + Int32.ofInt (1) = v4858 at hv4858 ⊢
        refine WP_goto 6 dJ7_fill_d0a16_19 rfl ?_
        exact WP_sub (fc rfl (fc rfl (fc rfl (fc rfl fn)))) (ihlp6_4852 v4858 I4851 J4857 hI4851 (by omega) (by omega) (by omega) (by omega))
  exact WP_sub (fc rfl (fc rfl (fc rfl (fc rfl fn)))) (lp6_4852 _ v4848 I J hI (by omega) (by omega) (by omega) (Nat.lt_succ_self _))
set_option maxHeartbeats 4000000 in
set_option maxRecDepth 100000 in
theorem sx_fillJ_46 {g : GG} {n : Int} {L : Int32} (hy : LyX g)  {I : pI} {J : pJ} {R : pR} (hr : RfX g R) (hI : XI g n L I) (vv : Int64)  : SP g mJ7_fill_d0a16 [.ref (ad g 46), .long vv] I J R (fun r I' J' R' => (XI g n L I' ∧ R' = R) ∧ r = none) := by
  refine SP_of ⟨by decide, rfl⟩ (Nat.le_of_ble_eq_true rfl) ?_
  have e4859 : I (ad g 1) 1 = L := hI.2
  have b4860 := BT_get hI.1 1 1 2 (0) (0) (900) (by decide) 1 (by decide) (by decide)
  rw [e4859] at b4860
  refine WQ_iconst (0) (0) dJ7_fill_d0a16_0 rfl rfl (fun v4861 hv4861 => ?_)
  refine WP_istore_n (ls' := [(0, _), (1, _), (3, _)]) dJ7_fill_d0a16_1 (by decide) rfl ?_
  refine WP_aload_n dJ7_fill_d0a16_2 rfl ?_
  refine WP_alen dJ7_fill_d0a16_3 (lyx_is hy 46 14 rfl) (by decide) ?_
  rw [(lyx_n hy 46 6 rfl)]
  obtain ⟨v4862, hv4862, ev4862⟩ : ∃ v : Int32, v.toInt = 6 ∧ nI 6 = v := ⟨_, nI_toInt (by decide), rfl⟩
  rw [ev4862]; clear ev4862
  refine WP_istore (ls' := [(0, _), (1, _), (3, _), (4, _)]) dJ7_fill_d0a16_4 (by decide) rfl ?_
  have lp6_4865 : ∀ (mz : Nat) (i4863 : Int32) (I4864 : pI) (J4865 : pJ), XI g n L I4864 → 0 ≤ i4863.toInt → i4863.toInt ≤ 168 → i4863.toInt ≤ v4862.toInt → (169 - i4863.toInt).toNat < mz → WP g mJ7_fill_d0a16 6 [(0, .ref (ad g 46)), (1, .long vv), (3, .int i4863), (4, .int v4862)] [] I4864 J4865 R (fun r I' J' R' => (XI g n L I' ∧ R' = R) ∧ r = none) := by
    intro mz
    induction mz with
    | zero =>
      intro i4863 I4864 J4865 hI4864 ai4863 bi4863 j0_I4864 hmlp6_4865
      exact absurd hmlp6_4865 (Nat.not_lt_zero _)
    | succ mz ihlp6_4865 =>
      intro i4863 I4864 J4865 hI4864 ai4863 bi4863 j0_I4864 hmlp6_4865
      have e4867 : I4864 (ad g 1) 1 = L := hI4864.2
      have b4868 := BT_get hI4864.1 1 1 2 (0) (0) (900) (by decide) 1 (by decide) (by decide)
      rw [e4867] at b4868
      refine WP_iload_n dJ7_fill_d0a16_6 rfl ?_
      refine WP_iload dJ7_fill_d0a16_7 rfl ?_
      refine WQ_icmp_ge 22 dJ7_fill_d0a16_9 rfl (fun c4868 => ?_) (fun c4868 => ?_)
      · exact WP_vret dJ7_fill_d0a16_22 rfl ⟨⟨hI4864, rfl⟩, rfl⟩
      · refine WP_aload_n dJ7_fill_d0a16_12 rfl ?_
        refine WP_iload_n dJ7_fill_d0a16_13 rfl ?_
        refine WP_lload_n dJ7_fill_d0a16_14 rfl ?_
        refine WQ_last dJ7_fill_d0a16_15 (lyx_is hy 46 14 rfl) (lyx_n hy 46 6 rfl) (by omega) (by omega) (fun J4870 eJ4870 => ?_)
        clear eJ4870
        refine WP_iinc (ls' := [(0, _), (1, _), (3, _), (4, _)]) dJ7_fill_d0a16_16 rfl (by decide) rfl ?_
        have hv4871 : (i4863 + Int32.ofInt (1)).toInt = i4863.toInt + (1) := ia_n rfl (by omega) (by omega)
        generalize i4863 + Int32.ofInt (1) = v4871 at hv4871 ⊢
        refine WP_goto 6 dJ7_fill_d0a16_19 rfl ?_
        exact WP_sub (fc rfl (fc rfl (fc rfl (fc rfl fn)))) (ihlp6_4865 v4871 I4864 J4870 hI4864 (by omega) (by omega) (by omega) (by omega))
  exact WP_sub (fc rfl (fc rfl (fc rfl (fc rfl fn)))) (lp6_4865 _ v4861 I J hI (by omega) (by omega) (by omega) (Nat.lt_succ_self _))
set_option maxHeartbeats 4000000 in
set_option maxRecDepth 100000 in
theorem sx_withEarned {g : GG} {n : Int} {L : Int32} (hy : LyX g)  {I : pI} {J : pJ} {R : pR} (hr : RfX g R) (hI : XI g n L I) (ha : Int64) (ea : Int32) (ea_lo : 0 ≤ ea.toInt) (ea_hi : ea.toInt ≤ 20) : SP g mX2_withEarned [.long ha, .int ea] I J R (fun r I' J' R' => (I' = I ∧ J' = J ∧ R' = R) ∧ ∃ v : Int64, r = some (.long v)) := by
  refine SP_of ⟨by decide, rfl⟩ (Nat.le_of_ble_eq_true rfl) ?_
  have e4872 : I (ad g 1) 1 = L := hI.2
  have b4873 := BT_get hI.1 1 1 2 (0) (0) (900) (by decide) 1 (by decide) (by decide)
  rw [e4872] at b4873
  refine WP_ldc2 (1152921504606846976) dX2_withEarned_0 klX2_90 ?_
  obtain ⟨l4874, hl4874, el4874⟩ : ∃ v : Int64, v.toInt = (1152921504606846976) ∧ ((1152921504606846976) : Int64) = v := ⟨_, rfl, rfl⟩
  rw [el4874]; clear el4874
  refine WP_lstore_n (ls' := [(0, _), (2, _), (3, _)]) dX2_withEarned_3 (by decide) rfl ?_
  refine WP_lload_n dX2_withEarned_4 rfl ?_
  refine WP_iload_n dX2_withEarned_5 rfl ?_
  refine WQ_lshl dX2_withEarned_6 (fun l4875 => ?_)
  refine WP_lload_n dX2_withEarned_7 rfl ?_
  refine WP_lconst (1) dX2_withEarned_8 rfl ?_
  obtain ⟨l4876, hl4876, el4876⟩ : ∃ v : Int64, v.toInt = 1 ∧ (1 : Int64) = v := ⟨_, rfl, rfl⟩
  rw [el4876]; clear el4876
  refine WQ_lsubi dX2_withEarned_9 (by omega) (by omega) (fun l4877 hl4877 => ?_)
  refine WQ_land dX2_withEarned_10 (fun l4878 => ?_)
  refine WP_lstore (ls' := [(0, _), (2, _), (3, _), (5, _)]) dX2_withEarned_11 (by decide) rfl ?_
  refine WP_lload_n dX2_withEarned_13 rfl ?_
  refine WQ_bipush (60) (60) dX2_withEarned_14 rfl rfl (fun v4879 hv4879 => ?_)
  refine WP_iload_n dX2_withEarned_16 rfl ?_
  refine WQ_isub dX2_withEarned_17 (by omega) (by omega) (fun v4880 hv4880 => ?_)
  refine WQ_lushr dX2_withEarned_18 (fun l4881 => ?_)
  refine WP_lconst (0) dX2_withEarned_19 rfl ?_
  obtain ⟨l4882, hl4882, el4882⟩ : ∃ v : Int64, v.toInt = 0 ∧ (0 : Int64) = v := ⟨_, rfl, rfl⟩
  rw [el4882]; clear el4882
  refine WQ_lcmpu dX2_withEarned_20 (fun v4883 => ?_)
  refine WX_if_ne 29 dX2_withEarned_21 rfl ?_ ?_
  · refine WP_lload dX2_withEarned_29 rfl ?_
    refine WP_lload_n dX2_withEarned_31 rfl ?_
    refine WQ_lor dX2_withEarned_32 (fun l4885 => ?_)
    exact WP_lret dX2_withEarned_33 rfl ⟨⟨rfl, rfl, rfl⟩, _, rfl⟩
  · refine WP_lload dX2_withEarned_24 rfl ?_
    refine WP_goto 33 dX2_withEarned_26 rfl ?_
    exact WP_lret dX2_withEarned_33 rfl ⟨⟨rfl, rfl, rfl⟩, _, rfl⟩
set_option maxHeartbeats 4000000 in
set_option maxRecDepth 100000 in
theorem sx_spend {g : GG} {n : Int} {L : Int32} (hy : LyX g)  {I : pI} {J : pJ} {R : pR} (hr : RfX g R) (hI : XI g n L I) (co : Int64) (st : Int32) (mf : Int32) (st_lo : 0 ≤ st.toInt) (st_hi : st.toInt ≤ 5) (mf_lo : 0 ≤ mf.toInt) (mf_hi : mf.toInt ≤ 3) (hm : mf.toInt ≤ st.toInt) : SP g mX2_spend [.ref (ad g 43), .long co, .int st, .int mf] I J R (fun r I' J' R' => (XI g n L I' ∧ R' = R) ∧ r = none) := by
  refine SP_of ⟨by decide, rfl⟩ (Nat.le_of_ble_eq_true rfl) ?_
  have e4886 : I (ad g 1) 1 = L := hI.2
  have b4887 := BT_get hI.1 1 1 2 (0) (0) (900) (by decide) 1 (by decide) (by decide)
  rw [e4886] at b4887
  refine WQ_iconst (0) (0) dX2_spend_0 rfl rfl (fun v4888 hv4888 => ?_)
  refine WP_istore (ls' := [(0, _), (1, _), (3, _), (4, _), (5, _)]) dX2_spend_1 (by decide) rfl ?_
  have lp3_4891 : ∀ (mz : Nat) (i4889 : Int32) (I4890 : pI) (J4891 : pJ), XI g n L I4890 → 0 ≤ i4889.toInt → i4889.toInt ≤ 3 → (4 - i4889.toInt).toNat < mz → WP g mX2_spend 3 [(0, .ref (ad g 43)), (1, .long co), (3, .int st), (4, .int mf), (5, .int i4889)] [] I4890 J4891 R (fun r I' J' R' => (XI g n L I' ∧ R' = R) ∧ r = none) := by
    intro mz
    induction mz with
    | zero =>
      intro i4889 I4890 J4891 hI4890 ai4889 bi4889 hmlp3_4891
      exact absurd hmlp3_4891 (Nat.not_lt_zero _)
    | succ mz ihlp3_4891 =>
      intro i4889 I4890 J4891 hI4890 ai4889 bi4889 hmlp3_4891
      have e4893 : I4890 (ad g 1) 1 = L := hI4890.2
      have b4894 := BT_get hI4890.1 1 1 2 (0) (0) (900) (by decide) 1 (by decide) (by decide)
      rw [e4893] at b4894
      refine WP_iload dX2_spend_3 rfl ?_
      refine WP_aload_n dX2_spend_5 rfl ?_
      refine WP_getr dX2_spend_6 fX2_12 rfl (lyx_is hy 43 2 rfl) (rfx hr 43 3 44 (by decide)) ?_
      refine WQ_geti dX2_spend_9 fX2_92 rfl (lyx_is hy 44 6 rfl) (BT_get hI4890.1 44 6 7 (0) (0) (2) (by decide) 6 (by decide) (by decide)) (fun v4895 ev4895 av4895 bv4895 => ?_)
      refine WQ_icmp_gt 128 dX2_spend_12 rfl (fun c4895 => ?_) (fun c4895 => ?_)
      · exact WP_vret dX2_spend_128 rfl ⟨⟨hI4890, rfl⟩, rfl⟩
      · refine WQ_iconst (0) (0) dX2_spend_15 rfl rfl (fun v4897 hv4897 => ?_)
        refine WP_istore (ls' := [(0, _), (1, _), (3, _), (4, _), (5, _), (6, _)]) dX2_spend_16 (by decide) rfl ?_
        have lp18_4900 : ∀ (mz : Nat) (i4898 : Int32) (I4899 : pI) (J4900 : pJ), XI g n L I4899 → 0 ≤ i4898.toInt → i4898.toInt ≤ 4 → (5 - i4898.toInt).toNat < mz → WP g mX2_spend 18 [(0, .ref (ad g 43)), (1, .long co), (3, .int st), (4, .int mf), (5, .int i4889), (6, .int i4898)] [] I4899 J4900 R (fun r I' J' R' => (XI g n L I' ∧ R' = R) ∧ r = none) := by
          intro mz
          induction mz with
          | zero =>
            intro i4898 I4899 J4900 hI4899 ai4898 bi4898 hmlp18_4900
            exact absurd hmlp18_4900 (Nat.not_lt_zero _)
          | succ mz ihlp18_4900 =>
            intro i4898 I4899 J4900 hI4899 ai4898 bi4898 hmlp18_4900
            have e4902 : I4899 (ad g 1) 1 = L := hI4899.2
            have b4903 := BT_get hI4899.1 1 1 2 (0) (0) (900) (by decide) 1 (by decide) (by decide)
            rw [e4902] at b4903
            refine WP_iload dX2_spend_18 rfl ?_
            refine WP_iload dX2_spend_20 rfl ?_
            refine WQ_icmp_gt 122 dX2_spend_22 rfl (fun c4903 => ?_) (fun c4903 => ?_)
            · refine WP_iinc (ls' := [(0, _), (1, _), (3, _), (4, _), (5, _), (6, _)]) dX2_spend_122 rfl (by decide) rfl ?_
              have hv4905 : (i4889 + Int32.ofInt (1)).toInt = i4889.toInt + (1) := ia_n rfl (by omega) (by omega)
              generalize i4889 + Int32.ofInt (1) = v4905 at hv4905 ⊢
              refine WP_goto 3 dX2_spend_125 rfl ?_
              exact WP_sub (fc rfl (fc rfl (fc rfl (fc rfl (fc rfl fn))))) (ihlp3_4891 v4905 I4899 J4900 hI4899 (by omega) (by omega) (by omega))
            · refine WP_iload_n dX2_spend_25 rfl ?_
              refine WP_iload dX2_spend_26 rfl ?_
              refine WQ_isub dX2_spend_28 (by omega) (by omega) (fun v4906 hv4906 => ?_)
              refine WP_iload dX2_spend_29 rfl ?_
              refine WQ_iadd dX2_spend_31 (by omega) (by omega) (fun v4907 hv4907 => ?_)
              refine WP_istore (ls' := [(0, _), (1, _), (3, _), (4, _), (5, _), (6, _), (7, _)]) dX2_spend_32 (by decide) rfl ?_
              refine WP_aload_n dX2_spend_34 rfl ?_
              refine WP_getr dX2_spend_35 fX2_12 rfl (lyx_is hy 43 2 rfl) (rfx hr 43 3 44 (by decide)) ?_
              refine WQ_geti dX2_spend_38 fX2_95 rfl (lyx_is hy 44 6 rfl) (BT_get hI4899.1 44 5 6 (0) (0) (3) (by decide) 5 (by decide) (by decide)) (fun v4908 ev4908 av4908 bv4908 => ?_)
              refine WP_aload_n dX2_spend_41 rfl ?_
              refine WP_getr dX2_spend_42 fX2_12 rfl (lyx_is hy 43 2 rfl) (rfx hr 43 3 44 (by decide)) ?_
              refine WQ_geti dX2_spend_45 fX2_98 rfl (lyx_is hy 44 6 rfl) (BT_get hI4899.1 44 1 2 (0) (0) (3) (by decide) 1 (by decide) (by decide)) (fun v4909 ev4909 av4909 bv4909 => ?_)
              refine WP_iload dX2_spend_48 rfl ?_
              refine WQ_isub dX2_spend_50 (by omega) (by omega) (fun v4910 hv4910 => ?_)
              refine WQ_min dX2_spend_51 lX2_101 ⟨by decide, Nat.le_of_ble_eq_true rfl⟩ (fun v4911 av4911 bv4911 cv4911 => ?_)
              refine WP_istore (ls' := [(0, _), (1, _), (3, _), (4, _), (5, _), (6, _), (7, _), (8, _)]) dX2_spend_54 (by decide) rfl ?_
              refine WP_lload_n dX2_spend_56 rfl ?_
              refine WP_iload dX2_spend_57 rfl ?_
              refine WP_aload_n dX2_spend_59 rfl ?_
              refine WP_getr dX2_spend_60 fX2_12 rfl (lyx_is hy 43 2 rfl) (rfx hr 43 3 44 (by decide)) ?_
              refine WQ_geti dX2_spend_63 fX2_107 rfl (lyx_is hy 44 6 rfl) (BT_get hI4899.1 44 4 5 (0) (0) (20) (by decide) 4 (by decide) (by decide)) (fun v4912 ev4912 av4912 bv4912 => ?_)
              refine WQ_imulb (2) (20) dX2_spend_66 ⟨by omega, by omega⟩ ⟨by omega, by omega⟩ (by decide) (fun v4913 pv4913 av4913 bv4913 cv4913 => ?_)
              refine WQ_lushr dX2_spend_67 (fun l4914 => ?_)
              refine WP_lstore (ls' := [(0, _), (1, _), (3, _), (4, _), (5, _), (6, _), (7, _), (8, _), (9, _)]) dX2_spend_68 (by decide) rfl ?_
              refine WQ_iconst (0) (0) dX2_spend_70 rfl rfl (fun v4915 hv4915 => ?_)
              refine WP_istore (ls' := [(0, _), (1, _), (3, _), (4, _), (5, _), (6, _), (7, _), (8, _), (9, _), (11, _)]) dX2_spend_71 (by decide) rfl ?_
              have lp73_4919 : ∀ (mz : Nat) (l4916 : Int64) (i4917 : Int32) (I4918 : pI) (J4919 : pJ), XI g n L I4918 → 0 ≤ i4917.toInt → i4917.toInt ≤ 4 → (5 - i4917.toInt).toNat < mz → WP g mX2_spend 73 [(0, .ref (ad g 43)), (1, .long co), (3, .int st), (4, .int mf), (5, .int i4889), (6, .int i4898), (7, .int v4907), (8, .int v4911), (9, .long l4916), (11, .int i4917)] [] I4918 J4919 R (fun r I' J' R' => (XI g n L I' ∧ R' = R) ∧ r = none) := by
                intro mz
                induction mz with
                | zero =>
                  intro l4916 i4917 I4918 J4919 hI4918 ai4917 bi4917 hmlp73_4919
                  exact absurd hmlp73_4919 (Nat.not_lt_zero _)
                | succ mz ihlp73_4919 =>
                  intro l4916 i4917 I4918 J4919 hI4918 ai4917 bi4917 hmlp73_4919
                  have e4921 : I4918 (ad g 1) 1 = L := hI4918.2
                  have b4922 := BT_get hI4918.1 1 1 2 (0) (0) (900) (by decide) 1 (by decide) (by decide)
                  rw [e4921] at b4922
                  refine WP_iload dX2_spend_73 rfl ?_
                  refine WQ_iconst (5) (5) dX2_spend_75 rfl rfl (fun v4923 hv4923 => ?_)
                  refine WQ_icmp_gt 116 dX2_spend_76 rfl (fun c4923 => ?_) (fun c4923 => ?_)
                  · refine WP_iinc (ls' := [(0, _), (1, _), (3, _), (4, _), (5, _), (6, _), (7, _), (8, _), (9, _), (11, _)]) dX2_spend_116 rfl (by decide) rfl ?_
                    have hv4925 : (i4898 + Int32.ofInt (1)).toInt = i4898.toInt + (1) := ia_n rfl (by omega) (by omega)
                    generalize i4898 + Int32.ofInt (1) = v4925 at hv4925 ⊢
                    refine WP_goto 18 dX2_spend_119 rfl ?_
                    exact WP_sub (fc rfl (fc rfl (fc rfl (fc rfl (fc rfl (fc rfl fn)))))) (ihlp18_4900 v4925 I4918 J4919 hI4918 (by omega) (by omega) (by omega))
                  · refine WP_iload dX2_spend_79 rfl ?_
                    refine WP_iload dX2_spend_81 rfl ?_
                    refine WQ_icmp_gt 116 dX2_spend_83 rfl (fun c4925 => ?_) (fun c4925 => ?_)
                    · refine WP_iinc (ls' := [(0, _), (1, _), (3, _), (4, _), (5, _), (6, _), (7, _), (8, _), (9, _), (11, _)]) dX2_spend_116 rfl (by decide) rfl ?_
                      have hv4927 : (i4898 + Int32.ofInt (1)).toInt = i4898.toInt + (1) := ia_n rfl (by omega) (by omega)
                      generalize i4898 + Int32.ofInt (1) = v4927 at hv4927 ⊢
                      refine WP_goto 18 dX2_spend_119 rfl ?_
                      exact WP_sub (fc rfl (fc rfl (fc rfl (fc rfl (fc rfl (fc rfl fn)))))) (ihlp18_4900 v4927 I4918 J4919 hI4918 (by omega) (by omega) (by omega))
                    · refine WP_aload_n dX2_spend_86 rfl ?_
                      refine WP_getr dX2_spend_87 fX2_22 rfl (lyx_is hy 43 2 rfl) (rfx hr 43 5 46 (by decide)) ?_
                      refine WP_iload dX2_spend_90 rfl ?_
                      refine WP_dup2 dX2_spend_92 rfl rfl ?_
                      refine WQ_laldu dX2_spend_93 (lyx_is hy 46 14 rfl) (lyx_n hy 46 6 rfl) (by omega) (by omega) (fun l4928 => ?_)
                      refine WP_lload dX2_spend_94 rfl ?_
                      refine WQ_lor dX2_spend_96 (fun l4929 => ?_)
                      refine WQ_last dX2_spend_97 (lyx_is hy 46 14 rfl) (lyx_n hy 46 6 rfl) (by omega) (by omega) (fun J4930 eJ4930 => ?_)
                      clear eJ4930
                      refine WP_lload dX2_spend_98 rfl ?_
                      refine WP_aload_n dX2_spend_100 rfl ?_
                      refine WP_getr dX2_spend_101 fX2_12 rfl (lyx_is hy 43 2 rfl) (rfx hr 43 3 44 (by decide)) ?_
                      refine WQ_geti dX2_spend_104 fX2_110 rfl (lyx_is hy 44 6 rfl) (BT_get hI4918.1 44 3 4 (0) (0) (20) (by decide) 3 (by decide) (by decide)) (fun v4931 ev4931 av4931 bv4931 => ?_)
                      refine WQ_lushr dX2_spend_107 (fun l4932 => ?_)
                      refine WP_lstore (ls' := [(0, _), (1, _), (3, _), (4, _), (5, _), (6, _), (7, _), (8, _), (9, _), (11, _)]) dX2_spend_108 (by decide) rfl ?_
                      refine WP_iinc (ls' := [(0, _), (1, _), (3, _), (4, _), (5, _), (6, _), (7, _), (8, _), (9, _), (11, _)]) dX2_spend_110 rfl (by decide) rfl ?_
                      have hv4933 : (i4917 + Int32.ofInt (1)).toInt = i4917.toInt + (1) := ia_n rfl (by omega) (by omega)
                      generalize i4917 + Int32.ofInt (1) = v4933 at hv4933 ⊢
                      refine WP_goto 73 dX2_spend_113 rfl ?_
                      exact WP_sub (fc rfl (fc rfl (fc rfl (fc rfl (fc rfl (fc rfl (fc rfl (fc rfl (fc rfl (fc rfl fn)))))))))) (ihlp73_4919 l4932 v4933 I4918 J4930 hI4918 (by omega) (by omega) (by omega))
              exact WP_sub (fc rfl (fc rfl (fc rfl (fc rfl (fc rfl (fc rfl (fc rfl (fc rfl (fc rfl (fc rfl fn)))))))))) (lp73_4919 _ l4914 v4915 I4899 J4900 hI4899 (by omega) (by omega) (Nat.lt_succ_self _))
        exact WP_sub (fc rfl (fc rfl (fc rfl (fc rfl (fc rfl (fc rfl fn)))))) (lp18_4900 _ v4897 I4890 J4891 hI4890 (by omega) (by omega) (Nat.lt_succ_self _))
  exact WP_sub (fc rfl (fc rfl (fc rfl (fc rfl (fc rfl fn))))) (lp3_4891 _ v4888 I J hI (by omega) (by omega) (Nat.lt_succ_self _))
set_option maxHeartbeats 4000000 in
set_option maxRecDepth 100000 in
theorem sx_spread {g : GG} {n : Int} {L : Int32} (hy : LyX g)  {I : pI} {J : pJ} {R : pR} (hr : RfX g R) (hI : XI g n L I) (ea : Int32) (ah : Int32) (ea_lo : 0 ≤ ea.toInt) (ea_hi : ea.toInt ≤ 20) (ah_lo : 0 ≤ ah.toInt) (ah_hi : ah.toInt ≤ 27) : SP g mX2_spread [.ref (ad g 43), .int ea, .int ah] I J R (fun r I' J' R' => (XI g n L I' ∧ R' = R) ∧ r = none) := by
  refine SP_of ⟨by decide, rfl⟩ (Nat.le_of_ble_eq_true rfl) ?_
  have e4934 : I (ad g 1) 1 = L := hI.2
  have b4935 := BT_get hI.1 1 1 2 (0) (0) (900) (by decide) 1 (by decide) (by decide)
  rw [e4934] at b4935
  refine WP_aload_n dX2_spread_0 rfl ?_
  refine WP_getr dX2_spread_1 fX2_22 rfl (lyx_is hy 43 2 rfl) (rfx hr 43 5 46 (by decide)) ?_
  refine WP_lconst (0) dX2_spread_4 rfl ?_
  obtain ⟨l4936, hl4936, el4936⟩ : ∃ v : Int64, v.toInt = 0 ∧ (0 : Int64) = v := ⟨_, rfl, rfl⟩
  rw [el4936]; clear el4936
  refine WP_callS2 dX2_spread_5 ⟨⟨⟨by decide, by decide⟩, zJ7_fill_d0a16⟩, lX2_36, tJ7_fill_d0a16⟩ (sx_fillJ_46 hy hr hI l4936 ) (Nat.le_of_ble_eq_true rfl) ?_
  intro r I4937 J4938 Ra hq
  obtain ⟨⟨hI4937, ec⟩, rfl⟩ := hq
  rw [ec]
  clear ec Ra
  have e4939 : I4937 (ad g 1) 1 = L := hI4937.2
  have b4940 := BT_get hI4937.1 1 1 2 (0) (0) (900) (by decide) 1 (by decide) (by decide)
  rw [e4939] at b4940
  refine WQ_iconst (0) (0) dX2_spread_8 rfl rfl (fun v4941 hv4941 => ?_)
  refine WP_istore_n (ls' := [(0, _), (1, _), (2, _), (3, _)]) dX2_spread_9 (by decide) rfl ?_
  have lp10_4944 : ∀ (mz : Nat) (i4942 : Int32) (I4943 : pI) (J4944 : pJ), XI g n L I4943 → 0 ≤ i4942.toInt → i4942.toInt ≤ 6 → (7 - i4942.toInt).toNat < mz → WP g mX2_spread 10 [(0, .ref (ad g 43)), (1, .int ea), (2, .int ah), (3, .int i4942)] [] I4943 J4944 R (fun r I' J' R' => (XI g n L I' ∧ R' = R) ∧ r = none) := by
    intro mz
    induction mz with
    | zero =>
      intro i4942 I4943 J4944 hI4943 ai4942 bi4942 hmlp10_4944
      exact absurd hmlp10_4944 (Nat.not_lt_zero _)
    | succ mz ihlp10_4944 =>
      intro i4942 I4943 J4944 hI4943 ai4942 bi4942 hmlp10_4944
      have e4946 : I4943 (ad g 1) 1 = L := hI4943.2
      have b4947 := BT_get hI4943.1 1 1 2 (0) (0) (900) (by decide) 1 (by decide) (by decide)
      rw [e4946] at b4947
      refine WP_iload_n dX2_spread_10 rfl ?_
      refine WQ_bipush (6) (6) dX2_spread_11 rfl rfl (fun v4948 hv4948 => ?_)
      refine WQ_icmp_ge 61 dX2_spread_13 rfl (fun c4948 => ?_) (fun c4948 => ?_)
      · exact WP_vret dX2_spread_61 rfl ⟨⟨hI4943, rfl⟩, rfl⟩
      · refine WP_aload_n dX2_spread_16 rfl ?_
        refine WP_getr dX2_spread_17 fX2_18 rfl (lyx_is hy 43 2 rfl) (rfx hr 43 4 45 (by decide)) ?_
        refine WP_iload_n dX2_spread_20 rfl ?_
        refine WQ_bipush (6) (6) dX2_spread_21 rfl rfl (fun v4950 hv4950 => ?_)
        refine WQ_imulk (6) dX2_spread_23 hv4950 (by omega) (by omega) (fun v4951 hv4951 => ?_)
        refine WP_iload_n dX2_spread_24 rfl ?_
        refine WQ_iadd dX2_spread_25 (by omega) (by omega) (fun v4952 hv4952 => ?_)
        refine WQ_laldu dX2_spread_26 (lyx_is hy 45 14 rfl) (lyx_n hy 45 168 rfl) (by omega) (by omega) (fun l4953 => ?_)
        refine WP_lstore (ls' := [(0, _), (1, _), (2, _), (3, _), (4, _)]) dX2_spread_27 (by decide) rfl ?_
        refine WP_lload dX2_spread_29 rfl ?_
        refine WP_lconst (0) dX2_spread_31 rfl ?_
        obtain ⟨l4954, hl4954, el4954⟩ : ∃ v : Int64, v.toInt = 0 ∧ (0 : Int64) = v := ⟨_, rfl, rfl⟩
        rw [el4954]; clear el4954
        refine WQ_lcmpu dX2_spread_32 (fun v4955 => ?_)
        refine WX_if_eq 55 dX2_spread_33 rfl ?_ ?_
        · refine WP_iinc (ls' := [(0, _), (1, _), (2, _), (3, _), (4, _)]) dX2_spread_55 rfl (by decide) rfl ?_
          have hv4956 : (i4942 + Int32.ofInt (1)).toInt = i4942.toInt + (1) := ia_n rfl (by omega) (by omega)
          generalize i4942 + Int32.ofInt (1) = v4956 at hv4956 ⊢
          refine WP_goto 10 dX2_spread_58 rfl ?_
          exact WP_sub (fc rfl (fc rfl (fc rfl (fc rfl fn)))) (ihlp10_4944 v4956 I4943 J4944 hI4943 (by omega) (by omega) (by omega))
        · refine WP_aload_n dX2_spread_36 rfl ?_
          refine WP_lload dX2_spread_37 rfl ?_
          refine WP_iload_n dX2_spread_39 rfl ?_
          refine WP_callS2 dX2_spread_40 ⟨⟨⟨by decide, by decide⟩, zX2_withEarned⟩, lX2_78, tX2_withEarned⟩ (sx_withEarned hy hr hI4943 l4953 ea (by omega) (by omega)) (Nat.le_of_ble_eq_true rfl) ?_
          intro r Ia Ja Ra hq
          obtain ⟨⟨ea, eb, ec⟩, l4957, rfl⟩ := hq
          show WP _ _ _ _ (.long _ :: _) _ _ _ _
          rw [ea, eb, ec]
          clear ea eb ec Ia Ja Ra
          refine WP_iload_n dX2_spread_43 rfl ?_
          refine WP_aload_n dX2_spread_44 rfl ?_
          refine WP_getr dX2_spread_45 fX2_12 rfl (lyx_is hy 43 2 rfl) (rfx hr 43 3 44 (by decide)) ?_
          refine WP_iload_n dX2_spread_48 rfl ?_
          refine WP_callV1 (k := 6) dX2_spread_49 ⟨⟨⟨by decide, by decide⟩, zX6_mostFromStore⟩, lX2_82, by decide, rfl, vX6_mostFromStore.1, vX6_mostFromStore.2⟩ (lyx_is hy 44 6 rfl) (sx_mostFromStore_44 hy hr hI4943 i4942 (by omega) (by omega)) (Nat.le_of_ble_eq_true rfl) ?_
          intro r Ia Ja Ra hq
          obtain ⟨⟨ea, eb, ec⟩, v4958, rfl, av4958, bv4958, cv4958⟩ := hq
          show WP _ _ _ _ (.int _ :: _) _ _ _ _
          rw [ea, eb, ec]
          clear ea eb ec Ia Ja Ra
          refine WP_callV3 (k := 2) dX2_spread_52 ⟨⟨⟨by decide, by decide⟩, zX2_spend⟩, lX2_86, by decide, rfl, vX2_spend.1, vX2_spend.2⟩ (lyx_is hy 43 2 rfl) (sx_spend hy hr hI4943 l4957 i4942 v4958 (by omega) (by omega) (by omega) (by omega) (by omega)) (Nat.le_of_ble_eq_true rfl) ?_
          intro r I4959 J4960 Ra hq
          obtain ⟨⟨hI4959, ec⟩, rfl⟩ := hq
          rw [ec]
          clear ec Ra
          have e4961 : I4959 (ad g 1) 1 = L := hI4959.2
          have b4962 := BT_get hI4959.1 1 1 2 (0) (0) (900) (by decide) 1 (by decide) (by decide)
          rw [e4961] at b4962
          refine WP_iinc (ls' := [(0, _), (1, _), (2, _), (3, _), (4, _)]) dX2_spread_55 rfl (by decide) rfl ?_
          have hv4963 : (i4942 + Int32.ofInt (1)).toInt = i4942.toInt + (1) := ia_n rfl (by omega) (by omega)
          generalize i4942 + Int32.ofInt (1) = v4963 at hv4963 ⊢
          refine WP_goto 10 dX2_spread_58 rfl ?_
          exact WP_sub (fc rfl (fc rfl (fc rfl (fc rfl fn)))) (ihlp10_4944 v4963 I4959 J4960 hI4959 (by omega) (by omega) (by omega))
  exact WP_sub (fc rfl (fc rfl (fc rfl (fc rfl fn)))) (lp10_4944 _ v4941 I4937 J4938 hI4937 (by omega) (by omega) (Nat.lt_succ_self _))
set_option maxHeartbeats 4000000 in
set_option maxRecDepth 100000 in
theorem sx_psleep {g : GG} {n : Int} {L : Int32} (hy : LyX g)  {I : pI} {J : pJ} {R : pR} (hr : RfX g R) (hI : XI g n L I) (da : Int32) (ah : Int32) (da_lo : 0 ≤ da.toInt) (da_hi : da.toInt ≤ 6) (ah_lo : 0 ≤ ah.toInt) (ah_hi : ah.toInt ≤ 27) : SP g mX2_sleep [.ref (ad g 43), .int da, .int ah] I J R (fun r I' J' R' => (XI g n L I' ∧ R' = R) ∧ r = none) := by
  refine SP_of ⟨by decide, rfl⟩ (Nat.le_of_ble_eq_true rfl) ?_
  have e4964 : I (ad g 1) 1 = L := hI.2
  have b4965 := BT_get hI.1 1 1 2 (0) (0) (900) (by decide) 1 (by decide) (by decide)
  rw [e4964] at b4965
  refine WQ_iconst (0) (0) dX2_sleep_0 rfl rfl (fun v4966 hv4966 => ?_)
  refine WP_istore_n (ls' := [(0, _), (1, _), (2, _), (3, _)]) dX2_sleep_1 (by decide) rfl ?_
  have lp2_4969 : ∀ (mz : Nat) (i4967 : Int32) (I4968 : pI) (J4969 : pJ), XI g n L I4968 → 0 ≤ i4967.toInt → i4967.toInt ≤ 6 → (7 - i4967.toInt).toNat < mz → WP g mX2_sleep 2 [(0, .ref (ad g 43)), (1, .int da), (2, .int ah), (3, .int i4967)] [] I4968 J4969 R (fun r I' J' R' => (XI g n L I' ∧ R' = R) ∧ r = none) := by
    intro mz
    induction mz with
    | zero =>
      intro i4967 I4968 J4969 hI4968 ai4967 bi4967 hmlp2_4969
      exact absurd hmlp2_4969 (Nat.not_lt_zero _)
    | succ mz ihlp2_4969 =>
      intro i4967 I4968 J4969 hI4968 ai4967 bi4967 hmlp2_4969
      have e4971 : I4968 (ad g 1) 1 = L := hI4968.2
      have b4972 := BT_get hI4968.1 1 1 2 (0) (0) (900) (by decide) 1 (by decide) (by decide)
      rw [e4971] at b4972
      refine WP_iload_n dX2_sleep_2 rfl ?_
      refine WQ_bipush (6) (6) dX2_sleep_3 rfl rfl (fun v4973 hv4973 => ?_)
      refine WQ_icmp_ge 99 dX2_sleep_5 rfl (fun c4973 => ?_) (fun c4973 => ?_)
      · exact WP_vret dX2_sleep_99 rfl ⟨⟨hI4968, rfl⟩, rfl⟩
      · refine WP_aload_n dX2_sleep_8 rfl ?_
        refine WP_getr dX2_sleep_9 fX2_22 rfl (lyx_is hy 43 2 rfl) (rfx hr 43 5 46 (by decide)) ?_
        refine WP_iload_n dX2_sleep_12 rfl ?_
        refine WQ_laldu dX2_sleep_13 (lyx_is hy 46 14 rfl) (lyx_n hy 46 6 rfl) (by omega) (by omega) (fun l4975 => ?_)
        refine WP_lstore (ls' := [(0, _), (1, _), (2, _), (3, _), (4, _)]) dX2_sleep_14 (by decide) rfl ?_
        refine WP_iload_n dX2_sleep_16 rfl ?_
        refine WQ_bipush (6) (6) dX2_sleep_17 rfl rfl (fun v4976 hv4976 => ?_)
        refine WQ_imulk (6) dX2_sleep_19 hv4976 (by omega) (by omega) (fun v4977 hv4977 => ?_)
        refine WP_aload_n dX2_sleep_20 rfl ?_
        refine WP_getr dX2_sleep_21 fX2_32 rfl (lyx_is hy 43 2 rfl) (rfx hr 43 2 5 (by decide)) ?_
        refine WP_getr dX2_sleep_24 fX2_113 rfl (lyx_is hy 5 0 rfl) (rfx hr 5 5 26 (by decide)) ?_
        refine WP_iload_n dX2_sleep_27 rfl ?_
        refine WQ_iald dX2_sleep_28 (lyx_is hy 26 13 rfl) (lyx_n hy 26 6 rfl) (by omega) (by omega) (fun q hq => BT_get hI4968.1 26 0 6 (0) (0) (5) (by decide) q (Nat.zero_le _) hq) (fun v4978 av4978 bv4978 ev4978 => ?_)
        clear ev4978
        refine WQ_iadd dX2_sleep_29 (by omega) (by omega) (fun v4979 hv4979 => ?_)
        refine WP_istore (ls' := [(0, _), (1, _), (2, _), (3, _), (4, _), (6, _)]) dX2_sleep_30 (by decide) rfl ?_
        refine WQ_iconst (0) (0) dX2_sleep_32 rfl rfl (fun v4980 hv4980 => ?_)
        refine WP_istore (ls' := [(0, _), (1, _), (2, _), (3, _), (4, _), (6, _), (7, _)]) dX2_sleep_33 (by decide) rfl ?_
        have lp35_4983 : ∀ (mz : Nat) (i4981 : Int32) (I4982 : pI) (J4983 : pJ), XI g n L I4982 → 0 ≤ i4981.toInt → i4981.toInt ≤ 61 → (62 - i4981.toInt).toNat < mz → WP g mX2_sleep 35 [(0, .ref (ad g 43)), (1, .int da), (2, .int ah), (3, .int i4967), (4, .long l4975), (6, .int v4979), (7, .int i4981)] [] I4982 J4983 R (fun r I' J' R' => (XI g n L I' ∧ R' = R) ∧ r = none) := by
          intro mz
          induction mz with
          | zero =>
            intro i4981 I4982 J4983 hI4982 ai4981 bi4981 hmlp35_4983
            exact absurd hmlp35_4983 (Nat.not_lt_zero _)
          | succ mz ihlp35_4983 =>
            intro i4981 I4982 J4983 hI4982 ai4981 bi4981 hmlp35_4983
            have e4985 : I4982 (ad g 1) 1 = L := hI4982.2
            have b4986 := BT_get hI4982.1 1 1 2 (0) (0) (900) (by decide) 1 (by decide) (by decide)
            rw [e4985] at b4986
            refine WP_iload dX2_sleep_35 rfl ?_
            refine WQ_bipush (61) (61) dX2_sleep_37 rfl rfl (fun v4987 hv4987 => ?_)
            refine WQ_icmp_ge 93 dX2_sleep_39 rfl (fun c4987 => ?_) (fun c4987 => ?_)
            · refine WP_iinc (ls' := [(0, _), (1, _), (2, _), (3, _), (4, _), (6, _), (7, _)]) dX2_sleep_93 rfl (by decide) rfl ?_
              have hv4989 : (i4967 + Int32.ofInt (1)).toInt = i4967.toInt + (1) := ia_n rfl (by omega) (by omega)
              generalize i4967 + Int32.ofInt (1) = v4989 at hv4989 ⊢
              refine WP_goto 2 dX2_sleep_96 rfl ?_
              exact WP_sub (fc rfl (fc rfl (fc rfl (fc rfl fn)))) (ihlp2_4969 v4989 I4982 J4983 hI4982 (by omega) (by omega) (by omega))
            · refine WP_lload dX2_sleep_42 rfl ?_
              refine WP_iload dX2_sleep_44 rfl ?_
              refine WQ_lushr dX2_sleep_46 (fun l4990 => ?_)
              refine WP_lconst (0) dX2_sleep_47 rfl ?_
              obtain ⟨l4991, hl4991, el4991⟩ : ∃ v : Int64, v.toInt = 0 ∧ (0 : Int64) = v := ⟨_, rfl, rfl⟩
              rw [el4991]; clear el4991
              refine WQ_lcmpu dX2_sleep_48 (fun v4992 => ?_)
              refine WX_if_eq 93 dX2_sleep_49 rfl ?_ ?_
              · refine WP_iinc (ls' := [(0, _), (1, _), (2, _), (3, _), (4, _), (6, _), (7, _)]) dX2_sleep_93 rfl (by decide) rfl ?_
                have hv4993 : (i4967 + Int32.ofInt (1)).toInt = i4967.toInt + (1) := ia_n rfl (by omega) (by omega)
                generalize i4967 + Int32.ofInt (1) = v4993 at hv4993 ⊢
                refine WP_goto 2 dX2_sleep_96 rfl ?_
                exact WP_sub (fc rfl (fc rfl (fc rfl (fc rfl fn)))) (ihlp2_4969 v4993 I4982 J4983 hI4982 (by omega) (by omega) (by omega))
              · refine WP_lload dX2_sleep_52 rfl ?_
                refine WP_iload dX2_sleep_54 rfl ?_
                refine WQ_lushr dX2_sleep_56 (fun l4994 => ?_)
                refine WP_lconst (1) dX2_sleep_57 rfl ?_
                obtain ⟨l4995, hl4995, el4995⟩ : ∃ v : Int64, v.toInt = 1 ∧ (1 : Int64) = v := ⟨_, rfl, rfl⟩
                rw [el4995]; clear el4995
                refine WQ_land dX2_sleep_58 (fun l4996 => ?_)
                refine WP_lconst (0) dX2_sleep_59 rfl ?_
                obtain ⟨l4997, hl4997, el4997⟩ : ∃ v : Int64, v.toInt = 0 ∧ (0 : Int64) = v := ⟨_, rfl, rfl⟩
                rw [el4997]; clear el4997
                refine WQ_lcmpu dX2_sleep_60 (fun v4998 => ?_)
                refine WX_if_eq 87 dX2_sleep_61 rfl ?_ ?_
                · refine WP_iinc (ls' := [(0, _), (1, _), (2, _), (3, _), (4, _), (6, _), (7, _)]) dX2_sleep_87 rfl (by decide) rfl ?_
                  have hv4999 : (i4981 + Int32.ofInt (1)).toInt = i4981.toInt + (1) := ia_n rfl (by omega) (by omega)
                  generalize i4981 + Int32.ofInt (1) = v4999 at hv4999 ⊢
                  refine WP_goto 35 dX2_sleep_90 rfl ?_
                  exact WP_sub (fc rfl (fc rfl (fc rfl (fc rfl (fc rfl (fc rfl (fc rfl fn))))))) (ihlp35_4983 v4999 I4982 J4983 hI4982 (by omega) (by omega) (by omega))
                · refine WP_aload_n dX2_sleep_64 rfl ?_
                  refine WP_getr dX2_sleep_65 fX2_18 rfl (lyx_is hy 43 2 rfl) (rfx hr 43 4 45 (by decide)) ?_
                  refine WP_iload dX2_sleep_68 rfl ?_
                  refine WP_dup2 dX2_sleep_70 rfl rfl ?_
                  refine WQ_laldu dX2_sleep_71 (lyx_is hy 45 14 rfl) (lyx_n hy 45 168 rfl) (by omega) (by omega) (fun l5000 => ?_)
                  refine WP_lconst (1) dX2_sleep_72 rfl ?_
                  obtain ⟨l5001, hl5001, el5001⟩ : ∃ v : Int64, v.toInt = 1 ∧ (1 : Int64) = v := ⟨_, rfl, rfl⟩
                  rw [el5001]; clear el5001
                  refine WP_aload_n dX2_sleep_73 rfl ?_
                  refine WP_getr dX2_sleep_74 fX2_32 rfl (lyx_is hy 43 2 rfl) (rfx hr 43 2 5 (by decide)) ?_
                  refine WP_iload dX2_sleep_77 rfl ?_
                  refine WP_iload_n dX2_sleep_79 rfl ?_
                  refine WP_iload_n dX2_sleep_80 rfl ?_
                  refine WP_callV3 (k := 0) dX2_sleep_81 ⟨⟨⟨by decide, by decide⟩, zX0_coinsBehind⟩, lX2_116, by decide, rfl, vX0_coinsBehind.1, vX0_coinsBehind.2⟩ (lyx_is hy 5 0 rfl) (sx_coinsBehind hy hr hI4982 i4981 i4967 da (by omega) (by omega) (by omega) (by omega) (by omega) (by omega)) (Nat.le_of_ble_eq_true rfl) ?_
                  intro r Ia Ja Ra hq
                  obtain ⟨⟨ea, eb, ec⟩, v5002, rfl, av5002, bv5002⟩ := hq
                  show WP _ _ _ _ (.int _ :: _) _ _ _ _
                  rw [ea, eb, ec]
                  clear ea eb ec Ia Ja Ra
                  refine WQ_lshl dX2_sleep_84 (fun l5003 => ?_)
                  refine WQ_lor dX2_sleep_85 (fun l5004 => ?_)
                  refine WQ_last dX2_sleep_86 (lyx_is hy 45 14 rfl) (lyx_n hy 45 168 rfl) (by omega) (by omega) (fun J5005 eJ5005 => ?_)
                  clear eJ5005
                  refine WP_iinc (ls' := [(0, _), (1, _), (2, _), (3, _), (4, _), (6, _), (7, _)]) dX2_sleep_87 rfl (by decide) rfl ?_
                  have hv5006 : (i4981 + Int32.ofInt (1)).toInt = i4981.toInt + (1) := ia_n rfl (by omega) (by omega)
                  generalize i4981 + Int32.ofInt (1) = v5006 at hv5006 ⊢
                  refine WP_goto 35 dX2_sleep_90 rfl ?_
                  exact WP_sub (fc rfl (fc rfl (fc rfl (fc rfl (fc rfl (fc rfl (fc rfl fn))))))) (ihlp35_4983 v5006 I4982 J5005 hI4982 (by omega) (by omega) (by omega))
        exact WP_sub (fc rfl (fc rfl (fc rfl (fc rfl (fc rfl (fc rfl (fc rfl fn))))))) (lp35_4983 _ v4980 I4968 J4969 hI4968 (by omega) (by omega) (Nat.lt_succ_self _))
  exact WP_sub (fc rfl (fc rfl (fc rfl (fc rfl fn)))) (lp2_4969 _ v4966 I J hI (by omega) (by omega) (Nat.lt_succ_self _))
set_option maxHeartbeats 4000000 in
set_option maxRecDepth 100000 in
theorem sx_note {g : GG} {n : Int} {L : Int32} (hy : LyX g)  {I : pI} {J : pJ} {R : pR} (hr : RfX g R) (hI : XI g n L I) (k : Int32)  : SP g mX3_note [.ref (ad g 3), .int k] I J R (fun r I' J' R' => (XI g n L I' ∧ R' = R) ∧ r = none) := by
  refine SP_of ⟨by decide, rfl⟩ (Nat.le_of_ble_eq_true rfl) ?_
  have e5007 : I (ad g 1) 1 = L := hI.2
  have b5008 := BT_get hI.1 1 1 2 (0) (0) (900) (by decide) 1 (by decide) (by decide)
  rw [e5007] at b5008
  refine WP_aload_n dX3_note_0 rfl ?_
  refine WP_iload_n dX3_note_1 rfl ?_
  refine WQ_puti dX3_note_2 fX3_19 rfl rfl (lyx_is hy 3 3 rfl) (fun I5009 eI5009 => ?_)
  have hI5009 : XI g n L I5009 := by rw [eI5009]; exact (xi_f0 hy hI (c := 3) (by decide) (Or.inl (by decide)) (by decide))
  have e5010 : I5009 (ad g 1) 1 = L := by rw [eI5009, pp_ne _ _ (Or.inl (lyx_ne hy (by decide) (by decide) (by decide)))]; exact e5007
  have e5011 : I5009 (ad g 3) 0 = k := by rw [eI5009, pp_self]
  clear eI5009
  refine WP_aload_n dX3_note_5 rfl ?_
  refine WP_iload_n dX3_note_6 rfl ?_
  have jn21_5014 : ∀ (v5014 : Int32), -1 ≤ v5014.toInt → v5014.toInt ≤ 900 → WP g mX3_note 21 [(0, .ref (ad g 3)), (1, .int k)] [.int v5014, .ref (ad g 3)] I5009 J R (fun r I' J' R' => (XI g n L I' ∧ R' = R) ∧ r = none) := by
    intro v5014 av5014 bv5014
    refine WQ_puti dX3_note_21 fX3_23 rfl rfl (lyx_is hy 3 3 rfl) (fun I5016 eI5016 => ?_)
    have hI5016 : XI g n L I5016 := by rw [eI5016]; exact (xi_f0 hy hI5009 (c := 3) (by decide) (Or.inl (by decide)) (by decide))
    have e5017 : I5016 (ad g 1) 1 = L := by rw [eI5016, pp_ne _ _ (Or.inl (lyx_ne hy (by decide) (by decide) (by decide)))]; exact e5010
    have e5018 : I5016 (ad g 3) 0 = k := by rw [eI5016, pp_ne _ _ (Or.inr (by decide))]; exact e5011
    have e5019 : I5016 (ad g 3) 1 = v5014 := by rw [eI5016, pp_self]
    clear eI5016
    exact WP_vret dX3_note_24 rfl ⟨⟨hI5016, rfl⟩, rfl⟩
  refine WX_if_ne 14 dX3_note_7 rfl ?_ ?_
  · refine WP_aload_n dX3_note_14 rfl ?_
    refine WP_getr dX3_note_15 fX3_15 rfl (lyx_is hy 3 3 rfl) (rfx hr 3 2 1 (by decide)) ?_
    refine WQ_geti dX3_note_18 fX3_69 rfl (lyx_is hy 1 5 rfl) (BT_get hI5009.1 1 3 4 (0) (0) (900) (by decide) 3 (by decide) (by decide)) (fun v5020 ev5020 av5020 bv5020 => ?_)
    exact WP_sub (fc rfl (fc rfl fn)) (jn21_5014 v5020 (by omega) (by omega))
  · refine WQ_iconst (-1) (-1) dX3_note_10 rfl rfl (fun v5021 hv5021 => ?_)
    refine WP_goto 21 dX3_note_11 rfl ?_
    exact WP_sub (fc rfl (fc rfl fn)) (jn21_5014 v5021 (by omega) (by omega))
set_option maxHeartbeats 4000000 in
set_option maxRecDepth 100000 in
theorem sx_leastOf {g : GG} {n : Int} {L : Int32} (hy : LyX g)  {I : pI} {J : pJ} {R : pR} (hr : RfX g R) (hI : XI g n L I) (pa : Int32)  : SP g mX3_leastOf [.int pa] I J R (fun r I' J' R' => (I' = I ∧ J' = J ∧ R' = R) ∧ ∃ v : Int32, r = some (.int v) ∧ 0 ≤ v.toInt ∧ v.toInt ≤ 1) := by
  refine SP_of ⟨by decide, rfl⟩ (Nat.le_of_ble_eq_true rfl) ?_
  have e5022 : I (ad g 1) 1 = L := hI.2
  have b5023 := BT_get hI.1 1 1 2 (0) (0) (900) (by decide) 1 (by decide) (by decide)
  rw [e5022] at b5023
  refine WP_iload_n dX3_leastOf_0 rfl ?_
  refine WQ_bipush (80) (80) dX3_leastOf_1 rfl rfl (fun v5024 hv5024 => ?_)
  have jn29_5033 : ∀ (v5033 : Int32), 0 ≤ v5033.toInt → v5033.toInt ≤ 1 → WP g mX3_leastOf 29 [(0, .int pa)] [.int v5033] I J R (fun r I' J' R' => (I' = I ∧ J' = J ∧ R' = R) ∧ ∃ v : Int32, r = some (.int v) ∧ 0 ≤ v.toInt ∧ v.toInt ≤ 1) := by
    intro v5033 av5033 bv5033
    exact WP_iret dX3_leastOf_29 rfl ⟨⟨rfl, rfl, rfl⟩, _, rfl, by omega, by omega⟩
  refine WX_icmp_eq 24 dX3_leastOf_3 rfl ?_ ?_
  · refine WQ_iconst (1) (1) dX3_leastOf_24 rfl rfl (fun v5035 hv5035 => ?_)
    refine WP_goto 29 dX3_leastOf_25 rfl ?_
    exact WP_sub (fc rfl fn) (jn29_5033 v5035 (by omega) (by omega))
  · refine WP_iload_n dX3_leastOf_6 rfl ?_
    refine WQ_bipush (69) (69) dX3_leastOf_7 rfl rfl (fun v5036 hv5036 => ?_)
    refine WX_icmp_eq 24 dX3_leastOf_9 rfl ?_ ?_
    · refine WQ_iconst (1) (1) dX3_leastOf_24 rfl rfl (fun v5037 hv5037 => ?_)
      refine WP_goto 29 dX3_leastOf_25 rfl ?_
      exact WP_sub (fc rfl fn) (jn29_5033 v5037 (by omega) (by omega))
    · refine WP_iload_n dX3_leastOf_12 rfl ?_
      refine WQ_bipush (85) (85) dX3_leastOf_13 rfl rfl (fun v5038 hv5038 => ?_)
      refine WX_icmp_eq 24 dX3_leastOf_15 rfl ?_ ?_
      · refine WQ_iconst (1) (1) dX3_leastOf_24 rfl rfl (fun v5039 hv5039 => ?_)
        refine WP_goto 29 dX3_leastOf_25 rfl ?_
        exact WP_sub (fc rfl fn) (jn29_5033 v5039 (by omega) (by omega))
      · refine WP_iload_n dX3_leastOf_18 rfl ?_
        refine WQ_bipush (73) (73) dX3_leastOf_19 rfl rfl (fun v5040 hv5040 => ?_)
        refine WX_icmp_ne 28 dX3_leastOf_21 rfl ?_ ?_
        · refine WQ_iconst (0) (0) dX3_leastOf_28 rfl rfl (fun v5041 hv5041 => ?_)
          exact WP_sub (fc rfl fn) (jn29_5033 v5041 (by omega) (by omega))
        · refine WQ_iconst (1) (1) dX3_leastOf_24 rfl rfl (fun v5042 hv5042 => ?_)
          refine WP_goto 29 dX3_leastOf_25 rfl ?_
          exact WP_sub (fc rfl fn) (jn29_5033 v5042 (by omega) (by omega))
set_option maxHeartbeats 4000000 in
set_option maxRecDepth 100000 in
theorem sx_mostOf {g : GG} {n : Int} {L : Int32} (hy : LyX g)  {I : pI} {J : pJ} {R : pR} (hr : RfX g R) (hI : XI g n L I) (pa : Int32)  : SP g mX3_mostOf [.int pa] I J R (fun r I' J' R' => (I' = I ∧ J' = J ∧ R' = R) ∧ ∃ v : Int32, r = some (.int v) ∧ 0 ≤ v.toInt ∧ v.toInt ≤ 1000 ∧ ((pa.toInt = 68 → v.toInt = 6) ∧ (pa.toInt = 76 → v.toInt = 900) ∧ (pa.toInt = 80 → v.toInt = 99) ∧ (pa.toInt = 67 → v.toInt = 60) ∧ (pa.toInt = 71 → v.toInt = 9) ∧ (pa.toInt = 69 → v.toInt = 20) ∧ (pa.toInt = 77 → v.toInt = 999) ∧ (pa.toInt = 85 → v.toInt = 3) ∧ (pa.toInt = 73 → v.toInt = 127) ∧ (pa.toInt = 86 → v.toInt = 99))) := by
  refine SP_of ⟨by decide, rfl⟩ (Nat.le_of_ble_eq_true rfl) ?_
  have e5043 : I (ad g 1) 1 = L := hI.2
  have b5044 := BT_get hI.1 1 1 2 (0) (0) (900) (by decide) 1 (by decide) (by decide)
  rw [e5043] at b5044
  refine WP_iload_n dX3_mostOf_0 rfl ?_
  refine WP_tab 124 dX3_mostOf_1 rfl rfl (fun c5044 => ?_) (fun j off c5044 hj => ?_) (by decide)
  · refine WQ_bipush (99) (99) dX3_mostOf_124 rfl rfl (fun v5046 hv5046 => ?_)
    exact WP_iret dX3_mostOf_126 rfl ⟨⟨rfl, rfl, rfl⟩, _, rfl, by omega, by omega, by omega⟩
  · have hlt : j < 19 := by have := (Array.getElem?_eq_some_iff.mp hj).1; simpa using this
    have hcs : (j = 0 ∧ off = 105) ∨ (j = 1 ∧ off = 91) ∨ (j = 2 ∧ off = 111) ∨ (j = 3 ∧ off = 123) ∨ (j = 4 ∧ off = 108) ∨ (j = 5 ∧ off = 101) ∨ (j = 6 ∧ off = 120) ∨ (j = 7 ∧ off = 123) ∨ (j = 8 ∧ off = 123) ∨ (j = 9 ∧ off = 94) ∨ (j = 10 ∧ off = 114) ∨ (j = 11 ∧ off = 123) ∨ (j = 12 ∧ off = 123) ∨ (j = 13 ∧ off = 98) ∨ (j = 14 ∧ off = 123) ∨ (j = 15 ∧ off = 123) ∨ (j = 16 ∧ off = 123) ∨ (j = 17 ∧ off = 123) ∨ (j = 18 ∧ off = 118) := by
      match j, hlt, hj with
      | 0, _, hj => exact Or.inl ⟨rfl, (Option.some.inj hj).symm⟩
      | 1, _, hj => exact Or.inr (Or.inl ⟨rfl, (Option.some.inj hj).symm⟩)
      | 2, _, hj => exact Or.inr (Or.inr (Or.inl ⟨rfl, (Option.some.inj hj).symm⟩))
      | 3, _, hj => exact Or.inr (Or.inr (Or.inr (Or.inl ⟨rfl, (Option.some.inj hj).symm⟩)))
      | 4, _, hj => exact Or.inr (Or.inr (Or.inr (Or.inr (Or.inl ⟨rfl, (Option.some.inj hj).symm⟩))))
      | 5, _, hj => exact Or.inr (Or.inr (Or.inr (Or.inr (Or.inr (Or.inl ⟨rfl, (Option.some.inj hj).symm⟩)))))
      | 6, _, hj => exact Or.inr (Or.inr (Or.inr (Or.inr (Or.inr (Or.inr (Or.inl ⟨rfl, (Option.some.inj hj).symm⟩))))))
      | 7, _, hj => exact Or.inr (Or.inr (Or.inr (Or.inr (Or.inr (Or.inr (Or.inr (Or.inl ⟨rfl, (Option.some.inj hj).symm⟩)))))))
      | 8, _, hj => exact Or.inr (Or.inr (Or.inr (Or.inr (Or.inr (Or.inr (Or.inr (Or.inr (Or.inl ⟨rfl, (Option.some.inj hj).symm⟩))))))))
      | 9, _, hj => exact Or.inr (Or.inr (Or.inr (Or.inr (Or.inr (Or.inr (Or.inr (Or.inr (Or.inr (Or.inl ⟨rfl, (Option.some.inj hj).symm⟩)))))))))
      | 10, _, hj => exact Or.inr (Or.inr (Or.inr (Or.inr (Or.inr (Or.inr (Or.inr (Or.inr (Or.inr (Or.inr (Or.inl ⟨rfl, (Option.some.inj hj).symm⟩))))))))))
      | 11, _, hj => exact Or.inr (Or.inr (Or.inr (Or.inr (Or.inr (Or.inr (Or.inr (Or.inr (Or.inr (Or.inr (Or.inr (Or.inl ⟨rfl, (Option.some.inj hj).symm⟩)))))))))))
      | 12, _, hj => exact Or.inr (Or.inr (Or.inr (Or.inr (Or.inr (Or.inr (Or.inr (Or.inr (Or.inr (Or.inr (Or.inr (Or.inr (Or.inl ⟨rfl, (Option.some.inj hj).symm⟩))))))))))))
      | 13, _, hj => exact Or.inr (Or.inr (Or.inr (Or.inr (Or.inr (Or.inr (Or.inr (Or.inr (Or.inr (Or.inr (Or.inr (Or.inr (Or.inr (Or.inl ⟨rfl, (Option.some.inj hj).symm⟩)))))))))))))
      | 14, _, hj => exact Or.inr (Or.inr (Or.inr (Or.inr (Or.inr (Or.inr (Or.inr (Or.inr (Or.inr (Or.inr (Or.inr (Or.inr (Or.inr (Or.inr (Or.inl ⟨rfl, (Option.some.inj hj).symm⟩))))))))))))))
      | 15, _, hj => exact Or.inr (Or.inr (Or.inr (Or.inr (Or.inr (Or.inr (Or.inr (Or.inr (Or.inr (Or.inr (Or.inr (Or.inr (Or.inr (Or.inr (Or.inr (Or.inl ⟨rfl, (Option.some.inj hj).symm⟩)))))))))))))))
      | 16, _, hj => exact Or.inr (Or.inr (Or.inr (Or.inr (Or.inr (Or.inr (Or.inr (Or.inr (Or.inr (Or.inr (Or.inr (Or.inr (Or.inr (Or.inr (Or.inr (Or.inr (Or.inl ⟨rfl, (Option.some.inj hj).symm⟩))))))))))))))))
      | 17, _, hj => exact Or.inr (Or.inr (Or.inr (Or.inr (Or.inr (Or.inr (Or.inr (Or.inr (Or.inr (Or.inr (Or.inr (Or.inr (Or.inr (Or.inr (Or.inr (Or.inr (Or.inr (Or.inl ⟨rfl, (Option.some.inj hj).symm⟩)))))))))))))))))
      | 18, _, hj => exact Or.inr (Or.inr (Or.inr (Or.inr (Or.inr (Or.inr (Or.inr (Or.inr (Or.inr (Or.inr (Or.inr (Or.inr (Or.inr (Or.inr (Or.inr (Or.inr (Or.inr (Or.inr (⟨rfl, (Option.some.inj hj).symm⟩))))))))))))))))))
    clear hj hlt
    rcases hcs with ⟨rfl, rfl⟩ | ⟨rfl, rfl⟩ | ⟨rfl, rfl⟩ | ⟨rfl, rfl⟩ | ⟨rfl, rfl⟩ | ⟨rfl, rfl⟩ | ⟨rfl, rfl⟩ | ⟨rfl, rfl⟩ | ⟨rfl, rfl⟩ | ⟨rfl, rfl⟩ | ⟨rfl, rfl⟩ | ⟨rfl, rfl⟩ | ⟨rfl, rfl⟩ | ⟨rfl, rfl⟩ | ⟨rfl, rfl⟩ | ⟨rfl, rfl⟩ | ⟨rfl, rfl⟩ | ⟨rfl, rfl⟩ | ⟨rfl, rfl⟩
    · show WP _ _ 106 _ _ _ _ _ _
      refine WQ_bipush (60) (60) dX3_mostOf_106 rfl rfl (fun v5047 hv5047 => ?_)
      exact WP_iret dX3_mostOf_108 rfl ⟨⟨rfl, rfl, rfl⟩, _, rfl, by omega, by omega, by omega⟩
    · show WP _ _ 92 _ _ _ _ _ _
      refine WQ_bipush (6) (6) dX3_mostOf_92 rfl rfl (fun v5048 hv5048 => ?_)
      exact WP_iret dX3_mostOf_94 rfl ⟨⟨rfl, rfl, rfl⟩, _, rfl, by omega, by omega, by omega⟩
    · show WP _ _ 112 _ _ _ _ _ _
      refine WQ_bipush (20) (20) dX3_mostOf_112 rfl rfl (fun v5049 hv5049 => ?_)
      exact WP_iret dX3_mostOf_114 rfl ⟨⟨rfl, rfl, rfl⟩, _, rfl, by omega, by omega, by omega⟩
    · show WP _ _ 124 _ _ _ _ _ _
      refine WQ_bipush (99) (99) dX3_mostOf_124 rfl rfl (fun v5050 hv5050 => ?_)
      exact WP_iret dX3_mostOf_126 rfl ⟨⟨rfl, rfl, rfl⟩, _, rfl, by omega, by omega, by omega⟩
    · show WP _ _ 109 _ _ _ _ _ _
      refine WQ_bipush (9) (9) dX3_mostOf_109 rfl rfl (fun v5051 hv5051 => ?_)
      exact WP_iret dX3_mostOf_111 rfl ⟨⟨rfl, rfl, rfl⟩, _, rfl, by omega, by omega, by omega⟩
    · show WP _ _ 102 _ _ _ _ _ _
      refine WQ_sipush (1000) (1000) dX3_mostOf_102 rfl rfl (fun v5052 hv5052 => ?_)
      exact WP_iret dX3_mostOf_105 rfl ⟨⟨rfl, rfl, rfl⟩, _, rfl, by omega, by omega, by omega⟩
    · show WP _ _ 121 _ _ _ _ _ _
      refine WQ_bipush (127) (127) dX3_mostOf_121 rfl rfl (fun v5053 hv5053 => ?_)
      exact WP_iret dX3_mostOf_123 rfl ⟨⟨rfl, rfl, rfl⟩, _, rfl, by omega, by omega, by omega⟩
    · show WP _ _ 124 _ _ _ _ _ _
      refine WQ_bipush (99) (99) dX3_mostOf_124 rfl rfl (fun v5054 hv5054 => ?_)
      exact WP_iret dX3_mostOf_126 rfl ⟨⟨rfl, rfl, rfl⟩, _, rfl, by omega, by omega, by omega⟩
    · show WP _ _ 124 _ _ _ _ _ _
      refine WQ_bipush (99) (99) dX3_mostOf_124 rfl rfl (fun v5055 hv5055 => ?_)
      exact WP_iret dX3_mostOf_126 rfl ⟨⟨rfl, rfl, rfl⟩, _, rfl, by omega, by omega, by omega⟩
    · show WP _ _ 95 _ _ _ _ _ _
      refine WQ_sipush (900) (900) dX3_mostOf_95 rfl rfl (fun v5056 hv5056 => ?_)
      exact WP_iret dX3_mostOf_98 rfl ⟨⟨rfl, rfl, rfl⟩, _, rfl, by omega, by omega, by omega⟩
    · show WP _ _ 115 _ _ _ _ _ _
      refine WQ_sipush (999) (999) dX3_mostOf_115 rfl rfl (fun v5057 hv5057 => ?_)
      exact WP_iret dX3_mostOf_118 rfl ⟨⟨rfl, rfl, rfl⟩, _, rfl, by omega, by omega, by omega⟩
    · show WP _ _ 124 _ _ _ _ _ _
      refine WQ_bipush (99) (99) dX3_mostOf_124 rfl rfl (fun v5058 hv5058 => ?_)
      exact WP_iret dX3_mostOf_126 rfl ⟨⟨rfl, rfl, rfl⟩, _, rfl, by omega, by omega, by omega⟩
    · show WP _ _ 124 _ _ _ _ _ _
      refine WQ_bipush (99) (99) dX3_mostOf_124 rfl rfl (fun v5059 hv5059 => ?_)
      exact WP_iret dX3_mostOf_126 rfl ⟨⟨rfl, rfl, rfl⟩, _, rfl, by omega, by omega, by omega⟩
    · show WP _ _ 99 _ _ _ _ _ _
      refine WQ_bipush (99) (99) dX3_mostOf_99 rfl rfl (fun v5060 hv5060 => ?_)
      exact WP_iret dX3_mostOf_101 rfl ⟨⟨rfl, rfl, rfl⟩, _, rfl, by omega, by omega, by omega⟩
    · show WP _ _ 124 _ _ _ _ _ _
      refine WQ_bipush (99) (99) dX3_mostOf_124 rfl rfl (fun v5061 hv5061 => ?_)
      exact WP_iret dX3_mostOf_126 rfl ⟨⟨rfl, rfl, rfl⟩, _, rfl, by omega, by omega, by omega⟩
    · show WP _ _ 124 _ _ _ _ _ _
      refine WQ_bipush (99) (99) dX3_mostOf_124 rfl rfl (fun v5062 hv5062 => ?_)
      exact WP_iret dX3_mostOf_126 rfl ⟨⟨rfl, rfl, rfl⟩, _, rfl, by omega, by omega, by omega⟩
    · show WP _ _ 124 _ _ _ _ _ _
      refine WQ_bipush (99) (99) dX3_mostOf_124 rfl rfl (fun v5063 hv5063 => ?_)
      exact WP_iret dX3_mostOf_126 rfl ⟨⟨rfl, rfl, rfl⟩, _, rfl, by omega, by omega, by omega⟩
    · show WP _ _ 124 _ _ _ _ _ _
      refine WQ_bipush (99) (99) dX3_mostOf_124 rfl rfl (fun v5064 hv5064 => ?_)
      exact WP_iret dX3_mostOf_126 rfl ⟨⟨rfl, rfl, rfl⟩, _, rfl, by omega, by omega, by omega⟩
    · show WP _ _ 119 _ _ _ _ _ _
      refine WQ_iconst (3) (3) dX3_mostOf_119 rfl rfl (fun v5065 hv5065 => ?_)
      exact WP_iret dX3_mostOf_120 rfl ⟨⟨rfl, rfl, rfl⟩, _, rfl, by omega, by omega, by omega⟩
set_option maxHeartbeats 4000000 in
set_option maxRecDepth 100000 in
theorem sx_isLoss_6 {g : GG} {n : Int} {L : Int32} (hy : LyX g)  {I : pI} {J : pJ} {R : pR} (hr : RfX g R) (hI : XI g n L I)   (hb : (I (ad g 4) 0).toInt ≤ 3 ∧ (I (ad g 4) 2).toInt ≤ 6) : SP g mX7_isLoss [.ref (ad g 6), .ref (ad g 4)] I J R (fun r I' J' R' => (I' = I ∧ J' = J ∧ R' = R) ∧ ∃ v : Int32, r = some (.int v) ∧ 0 ≤ v.toInt ∧ v.toInt ≤ 1) := by
  refine SP_of ⟨by decide, rfl⟩ (Nat.le_of_ble_eq_true rfl) ?_
  have e5066 : I (ad g 1) 1 = L := hI.2
  have b5067 := BT_get hI.1 1 1 2 (0) (0) (900) (by decide) 1 (by decide) (by decide)
  rw [e5066] at b5067
  obtain ⟨w5068, ew5068⟩ : ∃ w : Int32, I (ad g 4) 0 = w := ⟨_, rfl⟩
  have bw5068 := BT_get hI.1 4 0 5 (0) (0) (1000) (by decide) 0 (by decide) (by decide)
  rw [ew5068] at bw5068
  obtain ⟨w5069, ew5069⟩ : ∃ w : Int32, I (ad g 4) 2 = w := ⟨_, rfl⟩
  have bw5069 := BT_get hI.1 4 0 5 (0) (0) (1000) (by decide) 2 (by decide) (by decide)
  rw [ew5069] at bw5069
  rw [ew5068, ew5069] at hb
  refine WP_aload_n dX7_isLoss_0 rfl ?_
  refine WQ_iconst (2) (2) dX7_isLoss_1 rfl rfl (fun v5070 hv5070 => ?_)
  refine WQ_ialdm (z := 2) dX7_isLoss_2 (lyx_is hy 4 13 rfl) (lyx_n hy 4 5 rfl) hv5070 (by decide) ew5069 ?_
  refine WP_istore_n (ls' := [(0, _), (1, _), (2, _)]) dX7_isLoss_3 (by decide) rfl ?_
  refine WP_aload_n dX7_isLoss_4 rfl ?_
  refine WQ_iconst (0) (0) dX7_isLoss_5 rfl rfl (fun v5072 hv5072 => ?_)
  refine WQ_ialdm (z := 0) dX7_isLoss_6 (lyx_is hy 4 13 rfl) (lyx_n hy 4 5 rfl) hv5072 (by decide) ew5068 ?_
  refine WQ_bipush (7) (7) dX7_isLoss_7 rfl rfl (fun v5074 hv5074 => ?_)
  refine WQ_imulk (7) dX7_isLoss_9 hv5074 (by omega) (by omega) (fun v5075 hv5075 => ?_)
  refine WP_iload_n dX7_isLoss_10 rfl ?_
  refine WQ_iadd dX7_isLoss_11 (by omega) (by omega) (fun v5076 hv5076 => ?_)
  refine WP_istore_n (ls' := [(0, _), (1, _), (2, _), (3, _)]) dX7_isLoss_12 (by decide) rfl ?_
  refine WP_aload_n dX7_isLoss_13 rfl ?_
  refine WP_getr dX7_isLoss_14 fX7_30 rfl (lyx_is hy 6 7 rfl) (rfx hr 6 11 13 (by decide)) ?_
  refine WP_iload_n dX7_isLoss_17 rfl ?_
  refine WQ_iald dX7_isLoss_18 (lyx_is hy 13 13 rfl) (lyx_n hy 13 28 rfl) (by omega) (by omega) (fun q hq => BT_get hI.1 13 0 28 (-1) (0) (2) (by decide) q (Nat.zero_le _) hq) (fun v5077 av5077 bv5077 ev5077 => ?_)
  clear ev5077
  refine WP_aload_n dX7_isLoss_19 rfl ?_
  refine WQ_iconst (1) (1) dX7_isLoss_20 rfl rfl (fun v5078 hv5078 => ?_)
  refine WQ_iald dX7_isLoss_21 (lyx_is hy 4 13 rfl) (lyx_n hy 4 5 rfl) (by omega) (by omega) (fun q hq => BT_get hI.1 4 0 5 (0) (0) (1000) (by decide) q (Nat.zero_le _) hq) (fun v5079 av5079 bv5079 ev5079 => ?_)
  clear ev5079
  refine WQ_icmp_ne 37 dX7_isLoss_22 rfl (fun c5079 => ?_) (fun c5079 => ?_)
  · refine WQ_iconst (1) (1) dX7_isLoss_37 rfl rfl (fun v5081 hv5081 => ?_)
    exact WP_zret dX7_isLoss_38 rfl (nar_z (by omega)) ⟨⟨rfl, rfl, rfl⟩, _, rfl, by omega, by omega⟩
  · refine WP_aload_n dX7_isLoss_25 rfl ?_
    refine WP_getr dX7_isLoss_26 fX7_33 rfl (lyx_is hy 6 7 rfl) (rfx hr 6 12 14 (by decide)) ?_
    refine WP_iload_n dX7_isLoss_29 rfl ?_
    refine WQ_iald dX7_isLoss_30 (lyx_is hy 14 13 rfl) (lyx_n hy 14 28 rfl) (by omega) (by omega) (fun q hq => BT_get hI.1 14 0 28 (0) (0) (3) (by decide) q (Nat.zero_le _) hq) (fun v5082 av5082 bv5082 ev5082 => ?_)
    clear ev5082
    refine WP_aload_n dX7_isLoss_31 rfl ?_
    refine WQ_iconst (3) (3) dX7_isLoss_32 rfl rfl (fun v5083 hv5083 => ?_)
    refine WQ_iald dX7_isLoss_33 (lyx_is hy 4 13 rfl) (lyx_n hy 4 5 rfl) (by omega) (by omega) (fun q hq => BT_get hI.1 4 0 5 (0) (0) (1000) (by decide) q (Nat.zero_le _) hq) (fun v5084 av5084 bv5084 ev5084 => ?_)
    clear ev5084
    refine WQ_icmp_ge 39 dX7_isLoss_34 rfl (fun c5084 => ?_) (fun c5084 => ?_)
    · refine WP_aload_n dX7_isLoss_39 rfl ?_
      refine WP_getr dX7_isLoss_40 fX7_36 rfl (lyx_is hy 6 7 rfl) (rfx hr 6 13 15 (by decide)) ?_
      refine WP_iload_n dX7_isLoss_43 rfl ?_
      refine WQ_iald dX7_isLoss_44 (lyx_is hy 15 13 rfl) (lyx_n hy 15 28 rfl) (by omega) (by omega) (fun q hq => BT_get hI.1 15 0 28 (0) (0) (99) (by decide) q (Nat.zero_le _) hq) (fun v5086 av5086 bv5086 ev5086 => ?_)
      clear ev5086
      refine WP_istore (ls' := [(0, _), (1, _), (2, _), (3, _), (4, _)]) dX7_isLoss_45 (by decide) rfl ?_
      refine WP_aload_n dX7_isLoss_47 rfl ?_
      refine WQ_iconst (4) (4) dX7_isLoss_48 rfl rfl (fun v5087 hv5087 => ?_)
      refine WQ_iald dX7_isLoss_49 (lyx_is hy 4 13 rfl) (lyx_n hy 4 5 rfl) (by omega) (by omega) (fun q hq => BT_get hI.1 4 0 5 (0) (0) (1000) (by decide) q (Nat.zero_le _) hq) (fun v5088 av5088 bv5088 ev5088 => ?_)
      clear ev5088
      refine WP_istore (ls' := [(0, _), (1, _), (2, _), (3, _), (4, _), (5, _)]) dX7_isLoss_50 (by decide) rfl ?_
      refine WP_aload_n dX7_isLoss_52 rfl ?_
      refine WP_getr dX7_isLoss_53 fX7_9 rfl (lyx_is hy 6 7 rfl) (rfx hr 6 5 7 (by decide)) ?_
      refine WP_iload_n dX7_isLoss_56 rfl ?_
      refine WQ_iald dX7_isLoss_57 (lyx_is hy 7 13 rfl) (lyx_n hy 7 7 rfl) (by omega) (by omega) (fun q hq => BT_get hI.1 7 0 7 (0) (0) (900) (by decide) q (Nat.zero_le _) hq) (fun v5089 av5089 bv5089 ev5089 => ?_)
      clear ev5089
      have jn88_5100 : ∀ (v5100 : Int32), 0 ≤ v5100.toInt → v5100.toInt ≤ 1 → WP g mX7_isLoss 88 [(0, .ref (ad g 6)), (1, .ref (ad g 4)), (2, .int w5069), (3, .int v5076), (4, .int v5086), (5, .int v5088)] [.int v5100] I J R (fun r I' J' R' => (I' = I ∧ J' = J ∧ R' = R) ∧ ∃ v : Int32, r = some (.int v) ∧ 0 ≤ v.toInt ∧ v.toInt ≤ 1) := by
        intro v5100 av5100 bv5100
        refine WP_istore (ls' := [(0, _), (1, _), (2, _), (3, _), (4, _), (5, _), (6, _)]) dX7_isLoss_88 (by decide) rfl ?_
        refine WP_iload dX7_isLoss_90 rfl ?_
        refine WP_iload dX7_isLoss_92 rfl ?_
        have jn107_5106 : ∀ (v5106 : Int32), 0 ≤ v5106.toInt → v5106.toInt ≤ 1 → WP g mX7_isLoss 107 [(0, .ref (ad g 6)), (1, .ref (ad g 4)), (2, .int w5069), (3, .int v5076), (4, .int v5086), (5, .int v5088), (6, .int v5100)] [.int v5106] I J R (fun r I' J' R' => (I' = I ∧ J' = J ∧ R' = R) ∧ ∃ v : Int32, r = some (.int v) ∧ 0 ≤ v.toInt ∧ v.toInt ≤ 1) := by
          intro v5106 av5106 bv5106
          exact WP_zret dX7_isLoss_107 rfl (nar_z (by omega)) ⟨⟨rfl, rfl, rfl⟩, _, rfl, by omega, by omega⟩
        refine WQ_icmp_ge 106 dX7_isLoss_94 rfl (fun c5107 => ?_) (fun c5107 => ?_)
        · refine WQ_iconst (0) (0) dX7_isLoss_106 rfl rfl (fun v5109 hv5109 => ?_)
          exact WP_sub (fc rfl (fc rfl (fc rfl (fc rfl (fc rfl (fc rfl (fc rfl fn))))))) (jn107_5106 v5109 (by omega) (by omega))
        · refine WP_iload dX7_isLoss_97 rfl ?_
          refine WQ_if_ne 106 dX7_isLoss_99 rfl (fun c5109 => ?_) (fun c5109 => ?_)
          · refine WQ_iconst (0) (0) dX7_isLoss_106 rfl rfl (fun v5111 hv5111 => ?_)
            exact WP_sub (fc rfl (fc rfl (fc rfl (fc rfl (fc rfl (fc rfl (fc rfl fn))))))) (jn107_5106 v5111 (by omega) (by omega))
          · refine WQ_iconst (1) (1) dX7_isLoss_102 rfl rfl (fun v5112 hv5112 => ?_)
            refine WP_goto 107 dX7_isLoss_103 rfl ?_
            exact WP_sub (fc rfl (fc rfl (fc rfl (fc rfl (fc rfl (fc rfl (fc rfl fn))))))) (jn107_5106 v5112 (by omega) (by omega))
      refine WQ_if_le 87 dX7_isLoss_58 rfl (fun c5112 => ?_) (fun c5112 => ?_)
      · refine WQ_iconst (0) (0) dX7_isLoss_87 rfl rfl (fun v5114 hv5114 => ?_)
        exact WP_sub (fc rfl (fc rfl (fc rfl (fc rfl (fc rfl (fc rfl fn)))))) (jn88_5100 v5114 (by omega) (by omega))
      · refine WP_iload dX7_isLoss_61 rfl ?_
        refine WQ_sipush (1000) (1000) dX7_isLoss_63 rfl rfl (fun v5115 hv5115 => ?_)
        refine WQ_imulk (1000) dX7_isLoss_66 hv5115 (by omega) (by omega) (fun v5116 hv5116 => ?_)
        refine WP_iload dX7_isLoss_67 rfl ?_
        refine WQ_sipush (1000) (1000) dX7_isLoss_69 rfl rfl (fun v5117 hv5117 => ?_)
        refine WP_aload_n dX7_isLoss_72 rfl ?_
        refine WP_getr dX7_isLoss_73 fX7_9 rfl (lyx_is hy 6 7 rfl) (rfx hr 6 5 7 (by decide)) ?_
        refine WP_iload_n dX7_isLoss_76 rfl ?_
        refine WQ_iald dX7_isLoss_77 (lyx_is hy 7 13 rfl) (lyx_n hy 7 7 rfl) (by omega) (by omega) (fun q hq => BT_get hI.1 7 0 7 (0) (0) (900) (by decide) q (Nat.zero_le _) hq) (fun v5118 av5118 bv5118 ev5118 => ?_)
        clear ev5118
        refine WQ_isub dX7_isLoss_78 (by omega) (by omega) (fun v5119 hv5119 => ?_)
        refine WQ_imulb (1000) (1000) dX7_isLoss_79 ⟨by omega, by omega⟩ ⟨by omega, by omega⟩ (by decide) (fun v5120 pv5120 av5120 bv5120 cv5120 => ?_)
        refine WQ_icmp_lt 87 dX7_isLoss_80 rfl (fun c5120 => ?_) (fun c5120 => ?_)
        · refine WQ_iconst (0) (0) dX7_isLoss_87 rfl rfl (fun v5122 hv5122 => ?_)
          exact WP_sub (fc rfl (fc rfl (fc rfl (fc rfl (fc rfl (fc rfl fn)))))) (jn88_5100 v5122 (by omega) (by omega))
        · refine WQ_iconst (1) (1) dX7_isLoss_83 rfl rfl (fun v5123 hv5123 => ?_)
          refine WP_goto 88 dX7_isLoss_84 rfl ?_
          exact WP_sub (fc rfl (fc rfl (fc rfl (fc rfl (fc rfl (fc rfl fn)))))) (jn88_5100 v5123 (by omega) (by omega))
    · refine WQ_iconst (1) (1) dX7_isLoss_37 rfl rfl (fun v5124 hv5124 => ?_)
      exact WP_zret dX7_isLoss_38 rfl (nar_z (by omega)) ⟨⟨rfl, rfl, rfl⟩, _, rfl, by omega, by omega⟩
set_option maxHeartbeats 4000000 in
set_option maxRecDepth 100000 in
theorem sx_isLoss_27 {g : GG} {n : Int} {L : Int32} (hy : LyX g)  {I : pI} {J : pJ} {R : pR} (hr : RfX g R) (hI : XI g n L I)   (hb : (I (ad g 4) 0).toInt ≤ 3 ∧ (I (ad g 4) 2).toInt ≤ 6) : SP g mX7_isLoss [.ref (ad g 27), .ref (ad g 4)] I J R (fun r I' J' R' => (I' = I ∧ J' = J ∧ R' = R) ∧ ∃ v : Int32, r = some (.int v) ∧ 0 ≤ v.toInt ∧ v.toInt ≤ 1) := by
  refine SP_of ⟨by decide, rfl⟩ (Nat.le_of_ble_eq_true rfl) ?_
  have e5125 : I (ad g 1) 1 = L := hI.2
  have b5126 := BT_get hI.1 1 1 2 (0) (0) (900) (by decide) 1 (by decide) (by decide)
  rw [e5125] at b5126
  obtain ⟨w5127, ew5127⟩ : ∃ w : Int32, I (ad g 4) 0 = w := ⟨_, rfl⟩
  have bw5127 := BT_get hI.1 4 0 5 (0) (0) (1000) (by decide) 0 (by decide) (by decide)
  rw [ew5127] at bw5127
  obtain ⟨w5128, ew5128⟩ : ∃ w : Int32, I (ad g 4) 2 = w := ⟨_, rfl⟩
  have bw5128 := BT_get hI.1 4 0 5 (0) (0) (1000) (by decide) 2 (by decide) (by decide)
  rw [ew5128] at bw5128
  rw [ew5127, ew5128] at hb
  refine WP_aload_n dX7_isLoss_0 rfl ?_
  refine WQ_iconst (2) (2) dX7_isLoss_1 rfl rfl (fun v5129 hv5129 => ?_)
  refine WQ_ialdm (z := 2) dX7_isLoss_2 (lyx_is hy 4 13 rfl) (lyx_n hy 4 5 rfl) hv5129 (by decide) ew5128 ?_
  refine WP_istore_n (ls' := [(0, _), (1, _), (2, _)]) dX7_isLoss_3 (by decide) rfl ?_
  refine WP_aload_n dX7_isLoss_4 rfl ?_
  refine WQ_iconst (0) (0) dX7_isLoss_5 rfl rfl (fun v5131 hv5131 => ?_)
  refine WQ_ialdm (z := 0) dX7_isLoss_6 (lyx_is hy 4 13 rfl) (lyx_n hy 4 5 rfl) hv5131 (by decide) ew5127 ?_
  refine WQ_bipush (7) (7) dX7_isLoss_7 rfl rfl (fun v5133 hv5133 => ?_)
  refine WQ_imulk (7) dX7_isLoss_9 hv5133 (by omega) (by omega) (fun v5134 hv5134 => ?_)
  refine WP_iload_n dX7_isLoss_10 rfl ?_
  refine WQ_iadd dX7_isLoss_11 (by omega) (by omega) (fun v5135 hv5135 => ?_)
  refine WP_istore_n (ls' := [(0, _), (1, _), (2, _), (3, _)]) dX7_isLoss_12 (by decide) rfl ?_
  refine WP_aload_n dX7_isLoss_13 rfl ?_
  refine WP_getr dX7_isLoss_14 fX7_30 rfl (lyx_is hy 27 7 rfl) (rfx hr 27 11 34 (by decide)) ?_
  refine WP_iload_n dX7_isLoss_17 rfl ?_
  refine WQ_iald dX7_isLoss_18 (lyx_is hy 34 13 rfl) (lyx_n hy 34 28 rfl) (by omega) (by omega) (fun q hq => BT_get hI.1 34 0 28 (-1) (0) (2) (by decide) q (Nat.zero_le _) hq) (fun v5136 av5136 bv5136 ev5136 => ?_)
  clear ev5136
  refine WP_aload_n dX7_isLoss_19 rfl ?_
  refine WQ_iconst (1) (1) dX7_isLoss_20 rfl rfl (fun v5137 hv5137 => ?_)
  refine WQ_iald dX7_isLoss_21 (lyx_is hy 4 13 rfl) (lyx_n hy 4 5 rfl) (by omega) (by omega) (fun q hq => BT_get hI.1 4 0 5 (0) (0) (1000) (by decide) q (Nat.zero_le _) hq) (fun v5138 av5138 bv5138 ev5138 => ?_)
  clear ev5138
  refine WQ_icmp_ne 37 dX7_isLoss_22 rfl (fun c5138 => ?_) (fun c5138 => ?_)
  · refine WQ_iconst (1) (1) dX7_isLoss_37 rfl rfl (fun v5140 hv5140 => ?_)
    exact WP_zret dX7_isLoss_38 rfl (nar_z (by omega)) ⟨⟨rfl, rfl, rfl⟩, _, rfl, by omega, by omega⟩
  · refine WP_aload_n dX7_isLoss_25 rfl ?_
    refine WP_getr dX7_isLoss_26 fX7_33 rfl (lyx_is hy 27 7 rfl) (rfx hr 27 12 35 (by decide)) ?_
    refine WP_iload_n dX7_isLoss_29 rfl ?_
    refine WQ_iald dX7_isLoss_30 (lyx_is hy 35 13 rfl) (lyx_n hy 35 28 rfl) (by omega) (by omega) (fun q hq => BT_get hI.1 35 0 28 (0) (0) (3) (by decide) q (Nat.zero_le _) hq) (fun v5141 av5141 bv5141 ev5141 => ?_)
    clear ev5141
    refine WP_aload_n dX7_isLoss_31 rfl ?_
    refine WQ_iconst (3) (3) dX7_isLoss_32 rfl rfl (fun v5142 hv5142 => ?_)
    refine WQ_iald dX7_isLoss_33 (lyx_is hy 4 13 rfl) (lyx_n hy 4 5 rfl) (by omega) (by omega) (fun q hq => BT_get hI.1 4 0 5 (0) (0) (1000) (by decide) q (Nat.zero_le _) hq) (fun v5143 av5143 bv5143 ev5143 => ?_)
    clear ev5143
    refine WQ_icmp_ge 39 dX7_isLoss_34 rfl (fun c5143 => ?_) (fun c5143 => ?_)
    · refine WP_aload_n dX7_isLoss_39 rfl ?_
      refine WP_getr dX7_isLoss_40 fX7_36 rfl (lyx_is hy 27 7 rfl) (rfx hr 27 13 36 (by decide)) ?_
      refine WP_iload_n dX7_isLoss_43 rfl ?_
      refine WQ_iald dX7_isLoss_44 (lyx_is hy 36 13 rfl) (lyx_n hy 36 28 rfl) (by omega) (by omega) (fun q hq => BT_get hI.1 36 0 28 (0) (0) (99) (by decide) q (Nat.zero_le _) hq) (fun v5145 av5145 bv5145 ev5145 => ?_)
      clear ev5145
      refine WP_istore (ls' := [(0, _), (1, _), (2, _), (3, _), (4, _)]) dX7_isLoss_45 (by decide) rfl ?_
      refine WP_aload_n dX7_isLoss_47 rfl ?_
      refine WQ_iconst (4) (4) dX7_isLoss_48 rfl rfl (fun v5146 hv5146 => ?_)
      refine WQ_iald dX7_isLoss_49 (lyx_is hy 4 13 rfl) (lyx_n hy 4 5 rfl) (by omega) (by omega) (fun q hq => BT_get hI.1 4 0 5 (0) (0) (1000) (by decide) q (Nat.zero_le _) hq) (fun v5147 av5147 bv5147 ev5147 => ?_)
      clear ev5147
      refine WP_istore (ls' := [(0, _), (1, _), (2, _), (3, _), (4, _), (5, _)]) dX7_isLoss_50 (by decide) rfl ?_
      refine WP_aload_n dX7_isLoss_52 rfl ?_
      refine WP_getr dX7_isLoss_53 fX7_9 rfl (lyx_is hy 27 7 rfl) (rfx hr 27 5 28 (by decide)) ?_
      refine WP_iload_n dX7_isLoss_56 rfl ?_
      refine WQ_iald dX7_isLoss_57 (lyx_is hy 28 13 rfl) (lyx_n hy 28 7 rfl) (by omega) (by omega) (fun q hq => BT_get hI.1 28 0 7 (0) (0) (900) (by decide) q (Nat.zero_le _) hq) (fun v5148 av5148 bv5148 ev5148 => ?_)
      clear ev5148
      have jn88_5159 : ∀ (v5159 : Int32), 0 ≤ v5159.toInt → v5159.toInt ≤ 1 → WP g mX7_isLoss 88 [(0, .ref (ad g 27)), (1, .ref (ad g 4)), (2, .int w5128), (3, .int v5135), (4, .int v5145), (5, .int v5147)] [.int v5159] I J R (fun r I' J' R' => (I' = I ∧ J' = J ∧ R' = R) ∧ ∃ v : Int32, r = some (.int v) ∧ 0 ≤ v.toInt ∧ v.toInt ≤ 1) := by
        intro v5159 av5159 bv5159
        refine WP_istore (ls' := [(0, _), (1, _), (2, _), (3, _), (4, _), (5, _), (6, _)]) dX7_isLoss_88 (by decide) rfl ?_
        refine WP_iload dX7_isLoss_90 rfl ?_
        refine WP_iload dX7_isLoss_92 rfl ?_
        have jn107_5165 : ∀ (v5165 : Int32), 0 ≤ v5165.toInt → v5165.toInt ≤ 1 → WP g mX7_isLoss 107 [(0, .ref (ad g 27)), (1, .ref (ad g 4)), (2, .int w5128), (3, .int v5135), (4, .int v5145), (5, .int v5147), (6, .int v5159)] [.int v5165] I J R (fun r I' J' R' => (I' = I ∧ J' = J ∧ R' = R) ∧ ∃ v : Int32, r = some (.int v) ∧ 0 ≤ v.toInt ∧ v.toInt ≤ 1) := by
          intro v5165 av5165 bv5165
          exact WP_zret dX7_isLoss_107 rfl (nar_z (by omega)) ⟨⟨rfl, rfl, rfl⟩, _, rfl, by omega, by omega⟩
        refine WQ_icmp_ge 106 dX7_isLoss_94 rfl (fun c5166 => ?_) (fun c5166 => ?_)
        · refine WQ_iconst (0) (0) dX7_isLoss_106 rfl rfl (fun v5168 hv5168 => ?_)
          exact WP_sub (fc rfl (fc rfl (fc rfl (fc rfl (fc rfl (fc rfl (fc rfl fn))))))) (jn107_5165 v5168 (by omega) (by omega))
        · refine WP_iload dX7_isLoss_97 rfl ?_
          refine WQ_if_ne 106 dX7_isLoss_99 rfl (fun c5168 => ?_) (fun c5168 => ?_)
          · refine WQ_iconst (0) (0) dX7_isLoss_106 rfl rfl (fun v5170 hv5170 => ?_)
            exact WP_sub (fc rfl (fc rfl (fc rfl (fc rfl (fc rfl (fc rfl (fc rfl fn))))))) (jn107_5165 v5170 (by omega) (by omega))
          · refine WQ_iconst (1) (1) dX7_isLoss_102 rfl rfl (fun v5171 hv5171 => ?_)
            refine WP_goto 107 dX7_isLoss_103 rfl ?_
            exact WP_sub (fc rfl (fc rfl (fc rfl (fc rfl (fc rfl (fc rfl (fc rfl fn))))))) (jn107_5165 v5171 (by omega) (by omega))
      refine WQ_if_le 87 dX7_isLoss_58 rfl (fun c5171 => ?_) (fun c5171 => ?_)
      · refine WQ_iconst (0) (0) dX7_isLoss_87 rfl rfl (fun v5173 hv5173 => ?_)
        exact WP_sub (fc rfl (fc rfl (fc rfl (fc rfl (fc rfl (fc rfl fn)))))) (jn88_5159 v5173 (by omega) (by omega))
      · refine WP_iload dX7_isLoss_61 rfl ?_
        refine WQ_sipush (1000) (1000) dX7_isLoss_63 rfl rfl (fun v5174 hv5174 => ?_)
        refine WQ_imulk (1000) dX7_isLoss_66 hv5174 (by omega) (by omega) (fun v5175 hv5175 => ?_)
        refine WP_iload dX7_isLoss_67 rfl ?_
        refine WQ_sipush (1000) (1000) dX7_isLoss_69 rfl rfl (fun v5176 hv5176 => ?_)
        refine WP_aload_n dX7_isLoss_72 rfl ?_
        refine WP_getr dX7_isLoss_73 fX7_9 rfl (lyx_is hy 27 7 rfl) (rfx hr 27 5 28 (by decide)) ?_
        refine WP_iload_n dX7_isLoss_76 rfl ?_
        refine WQ_iald dX7_isLoss_77 (lyx_is hy 28 13 rfl) (lyx_n hy 28 7 rfl) (by omega) (by omega) (fun q hq => BT_get hI.1 28 0 7 (0) (0) (900) (by decide) q (Nat.zero_le _) hq) (fun v5177 av5177 bv5177 ev5177 => ?_)
        clear ev5177
        refine WQ_isub dX7_isLoss_78 (by omega) (by omega) (fun v5178 hv5178 => ?_)
        refine WQ_imulb (1000) (1000) dX7_isLoss_79 ⟨by omega, by omega⟩ ⟨by omega, by omega⟩ (by decide) (fun v5179 pv5179 av5179 bv5179 cv5179 => ?_)
        refine WQ_icmp_lt 87 dX7_isLoss_80 rfl (fun c5179 => ?_) (fun c5179 => ?_)
        · refine WQ_iconst (0) (0) dX7_isLoss_87 rfl rfl (fun v5181 hv5181 => ?_)
          exact WP_sub (fc rfl (fc rfl (fc rfl (fc rfl (fc rfl (fc rfl fn)))))) (jn88_5159 v5181 (by omega) (by omega))
        · refine WQ_iconst (1) (1) dX7_isLoss_83 rfl rfl (fun v5182 hv5182 => ?_)
          refine WP_goto 88 dX7_isLoss_84 rfl ?_
          exact WP_sub (fc rfl (fc rfl (fc rfl (fc rfl (fc rfl (fc rfl fn)))))) (jn88_5159 v5182 (by omega) (by omega))
    · refine WQ_iconst (1) (1) dX7_isLoss_37 rfl rfl (fun v5183 hv5183 => ?_)
      exact WP_zret dX7_isLoss_38 rfl (nar_z (by omega)) ⟨⟨rfl, rfl, rfl⟩, _, rfl, by omega, by omega⟩
