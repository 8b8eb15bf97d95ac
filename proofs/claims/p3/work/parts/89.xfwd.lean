set_option maxHeartbeats 4000000 in
set_option maxRecDepth 100000 in
theorem sx_fillJ_45 {g : GG} {n : Int} {L : Int32} (hy : LyX g)  {I : pI} {J : pJ} {R : pR} (hr : RfX g R) (hI : XI g n L I) (vv : Int64)  : SP g mJ7_fill_d0a16 [.ref (ad g 45), .long vv] I J R (fun r I' J' R' => (XI g n L I' ∧ R' = R) ∧ r = none) := by
  refine SP_of ⟨by decide, rfl⟩ (Nat.le_of_ble_eq_true rfl) ?_
  have e4883 : I (ad g 1) 1 = L := hI.2
  have b4884 := BT_get hI.1 1 1 2 (0) (0) (900) (by decide) 1 (by decide) (by decide)
  rw [e4883] at b4884
  refine WQ_iconst (0) (0) dJ7_fill_d0a16_0 rfl rfl (fun v4885 hv4885 => ?_)
  refine WP_istore_n (ls' := [(0, _), (1, _), (3, _)]) dJ7_fill_d0a16_1 (by decide) rfl ?_
  refine WP_aload_n dJ7_fill_d0a16_2 rfl ?_
  refine WP_alen dJ7_fill_d0a16_3 (lyx_is hy 45 14 rfl) (by decide) ?_
  rw [(lyx_n hy 45 168 rfl)]
  obtain ⟨v4886, hv4886, ev4886⟩ : ∃ v : Int32, v.toInt = 168 ∧ nI 168 = v := ⟨_, nI_toInt (by decide), rfl⟩
  rw [ev4886]; clear ev4886
  refine WP_istore (ls' := [(0, _), (1, _), (3, _), (4, _)]) dJ7_fill_d0a16_4 (by decide) rfl ?_
  have lp6_4889 : ∀ (mz : Nat) (i4887 : Int32) (I4888 : pI) (J4889 : pJ), XI g n L I4888 → 0 ≤ i4887.toInt → i4887.toInt ≤ 168 → i4887.toInt ≤ v4886.toInt → (169 - i4887.toInt).toNat < mz → WP g mJ7_fill_d0a16 6 [(0, .ref (ad g 45)), (1, .long vv), (3, .int i4887), (4, .int v4886)] [] I4888 J4889 R (fun r I' J' R' => (XI g n L I' ∧ R' = R) ∧ r = none) := by
    intro mz
    induction mz with
    | zero =>
      intro i4887 I4888 J4889 hI4888 ai4887 bi4887 j0_I4888 hmlp6_4889
      exact absurd hmlp6_4889 (Nat.not_lt_zero _)
    | succ mz ihlp6_4889 =>
      intro i4887 I4888 J4889 hI4888 ai4887 bi4887 j0_I4888 hmlp6_4889
      have e4891 : I4888 (ad g 1) 1 = L := hI4888.2
      have b4892 := BT_get hI4888.1 1 1 2 (0) (0) (900) (by decide) 1 (by decide) (by decide)
      rw [e4891] at b4892
      refine WP_iload_n dJ7_fill_d0a16_6 rfl ?_
      refine WP_iload dJ7_fill_d0a16_7 rfl ?_
      refine WQ_icmp_ge 22 dJ7_fill_d0a16_9 rfl (fun c4892 => ?_) (fun c4892 => ?_)
      · exact WP_vret dJ7_fill_d0a16_22 rfl ⟨⟨hI4888, rfl⟩, rfl⟩
      · refine WP_aload_n dJ7_fill_d0a16_12 rfl ?_
        refine WP_iload_n dJ7_fill_d0a16_13 rfl ?_
        refine WP_lload_n dJ7_fill_d0a16_14 rfl ?_
        refine WQ_last dJ7_fill_d0a16_15 (lyx_is hy 45 14 rfl) (lyx_n hy 45 168 rfl) (by omega) (by omega) (fun J4894 eJ4894 => ?_)
        clear eJ4894
        refine WP_iinc (ls' := [(0, _), (1, _), (3, _), (4, _)]) dJ7_fill_d0a16_16 rfl (by decide) rfl ?_
        have hv4895 : (i4887 + Int32.ofInt (1)).toInt = i4887.toInt + (1) := ia_n rfl (by omega) (by omega)
        generalize i4887 + Int32.ofInt (1) = v4895 at hv4895 ⊢
        refine WP_goto 6 dJ7_fill_d0a16_19 rfl ?_
        exact WP_sub (fc rfl (fc rfl (fc rfl (fc rfl fn)))) (ihlp6_4889 v4895 I4888 J4894 hI4888 (by omega) (by omega) (by omega) (by omega))
  exact WP_sub (fc rfl (fc rfl (fc rfl (fc rfl fn)))) (lp6_4889 _ v4885 I J hI (by omega) (by omega) (by omega) (Nat.lt_succ_self _))
set_option maxHeartbeats 4000000 in
set_option maxRecDepth 100000 in
theorem sx_fillJ_46 {g : GG} {n : Int} {L : Int32} (hy : LyX g)  {I : pI} {J : pJ} {R : pR} (hr : RfX g R) (hI : XI g n L I) (vv : Int64)  : SP g mJ7_fill_d0a16 [.ref (ad g 46), .long vv] I J R (fun r I' J' R' => (XI g n L I' ∧ R' = R) ∧ r = none) := by
  refine SP_of ⟨by decide, rfl⟩ (Nat.le_of_ble_eq_true rfl) ?_
  have e4896 : I (ad g 1) 1 = L := hI.2
  have b4897 := BT_get hI.1 1 1 2 (0) (0) (900) (by decide) 1 (by decide) (by decide)
  rw [e4896] at b4897
  refine WQ_iconst (0) (0) dJ7_fill_d0a16_0 rfl rfl (fun v4898 hv4898 => ?_)
  refine WP_istore_n (ls' := [(0, _), (1, _), (3, _)]) dJ7_fill_d0a16_1 (by decide) rfl ?_
  refine WP_aload_n dJ7_fill_d0a16_2 rfl ?_
  refine WP_alen dJ7_fill_d0a16_3 (lyx_is hy 46 14 rfl) (by decide) ?_
  rw [(lyx_n hy 46 6 rfl)]
  obtain ⟨v4899, hv4899, ev4899⟩ : ∃ v : Int32, v.toInt = 6 ∧ nI 6 = v := ⟨_, nI_toInt (by decide), rfl⟩
  rw [ev4899]; clear ev4899
  refine WP_istore (ls' := [(0, _), (1, _), (3, _), (4, _)]) dJ7_fill_d0a16_4 (by decide) rfl ?_
  have lp6_4902 : ∀ (mz : Nat) (i4900 : Int32) (I4901 : pI) (J4902 : pJ), XI g n L I4901 → 0 ≤ i4900.toInt → i4900.toInt ≤ 168 → i4900.toInt ≤ v4899.toInt → (169 - i4900.toInt).toNat < mz → WP g mJ7_fill_d0a16 6 [(0, .ref (ad g 46)), (1, .long vv), (3, .int i4900), (4, .int v4899)] [] I4901 J4902 R (fun r I' J' R' => (XI g n L I' ∧ R' = R) ∧ r = none) := by
    intro mz
    induction mz with
    | zero =>
      intro i4900 I4901 J4902 hI4901 ai4900 bi4900 j0_I4901 hmlp6_4902
      exact absurd hmlp6_4902 (Nat.not_lt_zero _)
    | succ mz ihlp6_4902 =>
      intro i4900 I4901 J4902 hI4901 ai4900 bi4900 j0_I4901 hmlp6_4902
      have e4904 : I4901 (ad g 1) 1 = L := hI4901.2
      have b4905 := BT_get hI4901.1 1 1 2 (0) (0) (900) (by decide) 1 (by decide) (by decide)
      rw [e4904] at b4905
      refine WP_iload_n dJ7_fill_d0a16_6 rfl ?_
      refine WP_iload dJ7_fill_d0a16_7 rfl ?_
      refine WQ_icmp_ge 22 dJ7_fill_d0a16_9 rfl (fun c4905 => ?_) (fun c4905 => ?_)
      · exact WP_vret dJ7_fill_d0a16_22 rfl ⟨⟨hI4901, rfl⟩, rfl⟩
      · refine WP_aload_n dJ7_fill_d0a16_12 rfl ?_
        refine WP_iload_n dJ7_fill_d0a16_13 rfl ?_
        refine WP_lload_n dJ7_fill_d0a16_14 rfl ?_
        refine WQ_last dJ7_fill_d0a16_15 (lyx_is hy 46 14 rfl) (lyx_n hy 46 6 rfl) (by omega) (by omega) (fun J4907 eJ4907 => ?_)
        clear eJ4907
        refine WP_iinc (ls' := [(0, _), (1, _), (3, _), (4, _)]) dJ7_fill_d0a16_16 rfl (by decide) rfl ?_
        have hv4908 : (i4900 + Int32.ofInt (1)).toInt = i4900.toInt + (1) := ia_n rfl (by omega) (by omega)
        generalize i4900 + Int32.ofInt (1) = v4908 at hv4908 ⊢
        refine WP_goto 6 dJ7_fill_d0a16_19 rfl ?_
        exact WP_sub (fc rfl (fc rfl (fc rfl (fc rfl fn)))) (ihlp6_4902 v4908 I4901 J4907 hI4901 (by omega) (by omega) (by omega) (by omega))
  exact WP_sub (fc rfl (fc rfl (fc rfl (fc rfl fn)))) (lp6_4902 _ v4898 I J hI (by omega) (by omega) (by omega) (Nat.lt_succ_self _))
set_option maxHeartbeats 4000000 in
set_option maxRecDepth 100000 in
theorem sx_withEarned {g : GG} {n : Int} {L : Int32} (hy : LyX g)  {I : pI} {J : pJ} {R : pR} (hr : RfX g R) (hI : XI g n L I) (ha : Int64) (ea : Int32) (ea_lo : 0 ≤ ea.toInt) (ea_hi : ea.toInt ≤ 20) : SP g mX2_withEarned [.long ha, .int ea] I J R (fun r I' J' R' => (I' = I ∧ J' = J ∧ R' = R) ∧ ∃ v : Int64, r = some (.long v)) := by
  refine SP_of ⟨by decide, rfl⟩ (Nat.le_of_ble_eq_true rfl) ?_
  have e4909 : I (ad g 1) 1 = L := hI.2
  have b4910 := BT_get hI.1 1 1 2 (0) (0) (900) (by decide) 1 (by decide) (by decide)
  rw [e4909] at b4910
  refine WP_ldc2 (1152921504606846976) dX2_withEarned_0 klX2_90 ?_
  obtain ⟨l4911, hl4911, el4911⟩ : ∃ v : Int64, v.toInt = (1152921504606846976) ∧ ((1152921504606846976) : Int64) = v := ⟨_, rfl, rfl⟩
  rw [el4911]; clear el4911
  refine WP_lstore_n (ls' := [(0, _), (2, _), (3, _)]) dX2_withEarned_3 (by decide) rfl ?_
  refine WP_lload_n dX2_withEarned_4 rfl ?_
  refine WP_iload_n dX2_withEarned_5 rfl ?_
  refine WQ_lshl dX2_withEarned_6 (fun l4912 => ?_)
  refine WP_lload_n dX2_withEarned_7 rfl ?_
  refine WP_lconst (1) dX2_withEarned_8 rfl ?_
  obtain ⟨l4913, hl4913, el4913⟩ : ∃ v : Int64, v.toInt = 1 ∧ (1 : Int64) = v := ⟨_, rfl, rfl⟩
  rw [el4913]; clear el4913
  refine WQ_lsubi dX2_withEarned_9 (by omega) (by omega) (fun l4914 hl4914 => ?_)
  refine WQ_land dX2_withEarned_10 (fun l4915 => ?_)
  refine WP_lstore (ls' := [(0, _), (2, _), (3, _), (5, _)]) dX2_withEarned_11 (by decide) rfl ?_
  refine WP_lload_n dX2_withEarned_13 rfl ?_
  refine WQ_bipush (60) (60) dX2_withEarned_14 rfl rfl (fun v4916 hv4916 => ?_)
  refine WP_iload_n dX2_withEarned_16 rfl ?_
  refine WQ_isub dX2_withEarned_17 (by omega) (by omega) (fun v4917 hv4917 => ?_)
  refine WQ_lushr dX2_withEarned_18 (fun l4918 => ?_)
  refine WP_lconst (0) dX2_withEarned_19 rfl ?_
  obtain ⟨l4919, hl4919, el4919⟩ : ∃ v : Int64, v.toInt = 0 ∧ (0 : Int64) = v := ⟨_, rfl, rfl⟩
  rw [el4919]; clear el4919
  refine WQ_lcmpu dX2_withEarned_20 (fun v4920 => ?_)
  refine WX_if_ne 29 dX2_withEarned_21 rfl ?_ ?_
  · refine WP_lload dX2_withEarned_29 rfl ?_
    refine WP_lload_n dX2_withEarned_31 rfl ?_
    refine WQ_lor dX2_withEarned_32 (fun l4922 => ?_)
    exact WP_lret dX2_withEarned_33 rfl ⟨⟨rfl, rfl, rfl⟩, _, rfl⟩
  · refine WP_lload dX2_withEarned_24 rfl ?_
    refine WP_goto 33 dX2_withEarned_26 rfl ?_
    exact WP_lret dX2_withEarned_33 rfl ⟨⟨rfl, rfl, rfl⟩, _, rfl⟩
set_option maxHeartbeats 4000000 in
set_option maxRecDepth 100000 in
theorem sx_spend {g : GG} {n : Int} {L : Int32} (hy : LyX g)  {I : pI} {J : pJ} {R : pR} (hr : RfX g R) (hI : XI g n L I) (co : Int64) (st : Int32) (mf : Int32) (st_lo : 0 ≤ st.toInt) (st_hi : st.toInt ≤ 5) (mf_lo : 0 ≤ mf.toInt) (mf_hi : mf.toInt ≤ 3) (hm : mf.toInt ≤ st.toInt) : SP g mX2_spend [.ref (ad g 43), .long co, .int st, .int mf] I J R (fun r I' J' R' => (XI g n L I' ∧ R' = R) ∧ r = none) := by
  refine SP_of ⟨by decide, rfl⟩ (Nat.le_of_ble_eq_true rfl) ?_
  have e4923 : I (ad g 1) 1 = L := hI.2
  have b4924 := BT_get hI.1 1 1 2 (0) (0) (900) (by decide) 1 (by decide) (by decide)
  rw [e4923] at b4924
  refine WQ_iconst (0) (0) dX2_spend_0 rfl rfl (fun v4925 hv4925 => ?_)
  refine WP_istore (ls' := [(0, _), (1, _), (3, _), (4, _), (5, _)]) dX2_spend_1 (by decide) rfl ?_
  have lp3_4928 : ∀ (mz : Nat) (i4926 : Int32) (I4927 : pI) (J4928 : pJ), XI g n L I4927 → 0 ≤ i4926.toInt → i4926.toInt ≤ 3 → (4 - i4926.toInt).toNat < mz → WP g mX2_spend 3 [(0, .ref (ad g 43)), (1, .long co), (3, .int st), (4, .int mf), (5, .int i4926)] [] I4927 J4928 R (fun r I' J' R' => (XI g n L I' ∧ R' = R) ∧ r = none) := by
    intro mz
    induction mz with
    | zero =>
      intro i4926 I4927 J4928 hI4927 ai4926 bi4926 hmlp3_4928
      exact absurd hmlp3_4928 (Nat.not_lt_zero _)
    | succ mz ihlp3_4928 =>
      intro i4926 I4927 J4928 hI4927 ai4926 bi4926 hmlp3_4928
      have e4930 : I4927 (ad g 1) 1 = L := hI4927.2
      have b4931 := BT_get hI4927.1 1 1 2 (0) (0) (900) (by decide) 1 (by decide) (by decide)
      rw [e4930] at b4931
      refine WP_iload dX2_spend_3 rfl ?_
      refine WP_aload_n dX2_spend_5 rfl ?_
      refine WP_getr dX2_spend_6 fX2_12 rfl (lyx_is hy 43 2 rfl) (rfx hr 43 3 44 (by decide)) ?_
      refine WQ_geti dX2_spend_9 fX2_92 rfl (lyx_is hy 44 6 rfl) (BT_get hI4927.1 44 6 7 (0) (0) (2) (by decide) 6 (by decide) (by decide)) (fun v4932 ev4932 av4932 bv4932 => ?_)
      refine WQ_icmp_gt 128 dX2_spend_12 rfl (fun c4932 => ?_) (fun c4932 => ?_)
      · exact WP_vret dX2_spend_128 rfl ⟨⟨hI4927, rfl⟩, rfl⟩
      · refine WQ_iconst (0) (0) dX2_spend_15 rfl rfl (fun v4934 hv4934 => ?_)
        refine WP_istore (ls' := [(0, _), (1, _), (3, _), (4, _), (5, _), (6, _)]) dX2_spend_16 (by decide) rfl ?_
        have lp18_4937 : ∀ (mz : Nat) (i4935 : Int32) (I4936 : pI) (J4937 : pJ), XI g n L I4936 → 0 ≤ i4935.toInt → i4935.toInt ≤ 4 → (5 - i4935.toInt).toNat < mz → WP g mX2_spend 18 [(0, .ref (ad g 43)), (1, .long co), (3, .int st), (4, .int mf), (5, .int i4926), (6, .int i4935)] [] I4936 J4937 R (fun r I' J' R' => (XI g n L I' ∧ R' = R) ∧ r = none) := by
          intro mz
          induction mz with
          | zero =>
            intro i4935 I4936 J4937 hI4936 ai4935 bi4935 hmlp18_4937
            exact absurd hmlp18_4937 (Nat.not_lt_zero _)
          | succ mz ihlp18_4937 =>
            intro i4935 I4936 J4937 hI4936 ai4935 bi4935 hmlp18_4937
            have e4939 : I4936 (ad g 1) 1 = L := hI4936.2
            have b4940 := BT_get hI4936.1 1 1 2 (0) (0) (900) (by decide) 1 (by decide) (by decide)
            rw [e4939] at b4940
            refine WP_iload dX2_spend_18 rfl ?_
            refine WP_iload dX2_spend_20 rfl ?_
            refine WQ_icmp_gt 122 dX2_spend_22 rfl (fun c4940 => ?_) (fun c4940 => ?_)
            · refine WP_iinc (ls' := [(0, _), (1, _), (3, _), (4, _), (5, _), (6, _)]) dX2_spend_122 rfl (by decide) rfl ?_
              have hv4942 : (i4926 + Int32.ofInt (1)).toInt = i4926.toInt + (1) := ia_n rfl (by omega) (by omega)
              generalize i4926 + Int32.ofInt (1) = v4942 at hv4942 ⊢
              refine WP_goto 3 dX2_spend_125 rfl ?_
              exact WP_sub (fc rfl (fc rfl (fc rfl (fc rfl (fc rfl fn))))) (ihlp3_4928 v4942 I4936 J4937 hI4936 (by omega) (by omega) (by omega))
            · refine WP_iload_n dX2_spend_25 rfl ?_
              refine WP_iload dX2_spend_26 rfl ?_
              refine WQ_isub dX2_spend_28 (by omega) (by omega) (fun v4943 hv4943 => ?_)
              refine WP_iload dX2_spend_29 rfl ?_
              refine WQ_iadd dX2_spend_31 (by omega) (by omega) (fun v4944 hv4944 => ?_)
              refine WP_istore (ls' := [(0, _), (1, _), (3, _), (4, _), (5, _), (6, _), (7, _)]) dX2_spend_32 (by decide) rfl ?_
              refine WP_aload_n dX2_spend_34 rfl ?_
              refine WP_getr dX2_spend_35 fX2_12 rfl (lyx_is hy 43 2 rfl) (rfx hr 43 3 44 (by decide)) ?_
              refine WQ_geti dX2_spend_38 fX2_95 rfl (lyx_is hy 44 6 rfl) (BT_get hI4936.1 44 5 6 (0) (0) (3) (by decide) 5 (by decide) (by decide)) (fun v4945 ev4945 av4945 bv4945 => ?_)
              refine WP_aload_n dX2_spend_41 rfl ?_
              refine WP_getr dX2_spend_42 fX2_12 rfl (lyx_is hy 43 2 rfl) (rfx hr 43 3 44 (by decide)) ?_
              refine WQ_geti dX2_spend_45 fX2_98 rfl (lyx_is hy 44 6 rfl) (BT_get hI4936.1 44 1 2 (0) (0) (3) (by decide) 1 (by decide) (by decide)) (fun v4946 ev4946 av4946 bv4946 => ?_)
              refine WP_iload dX2_spend_48 rfl ?_
              refine WQ_isub dX2_spend_50 (by omega) (by omega) (fun v4947 hv4947 => ?_)
              refine WQ_min dX2_spend_51 lX2_101 ⟨by decide, Nat.le_of_ble_eq_true rfl⟩ (fun v4948 av4948 bv4948 cv4948 => ?_)
              refine WP_istore (ls' := [(0, _), (1, _), (3, _), (4, _), (5, _), (6, _), (7, _), (8, _)]) dX2_spend_54 (by decide) rfl ?_
              refine WP_lload_n dX2_spend_56 rfl ?_
              refine WP_iload dX2_spend_57 rfl ?_
              refine WP_aload_n dX2_spend_59 rfl ?_
              refine WP_getr dX2_spend_60 fX2_12 rfl (lyx_is hy 43 2 rfl) (rfx hr 43 3 44 (by decide)) ?_
              refine WQ_geti dX2_spend_63 fX2_107 rfl (lyx_is hy 44 6 rfl) (BT_get hI4936.1 44 4 5 (0) (0) (20) (by decide) 4 (by decide) (by decide)) (fun v4949 ev4949 av4949 bv4949 => ?_)
              refine WQ_imulb (2) (20) dX2_spend_66 ⟨by omega, by omega⟩ ⟨by omega, by omega⟩ (by decide) (fun v4950 pv4950 av4950 bv4950 cv4950 => ?_)
              refine WQ_lushr dX2_spend_67 (fun l4951 => ?_)
              refine WP_lstore (ls' := [(0, _), (1, _), (3, _), (4, _), (5, _), (6, _), (7, _), (8, _), (9, _)]) dX2_spend_68 (by decide) rfl ?_
              refine WQ_iconst (0) (0) dX2_spend_70 rfl rfl (fun v4952 hv4952 => ?_)
              refine WP_istore (ls' := [(0, _), (1, _), (3, _), (4, _), (5, _), (6, _), (7, _), (8, _), (9, _), (11, _)]) dX2_spend_71 (by decide) rfl ?_
              have lp73_4956 : ∀ (mz : Nat) (l4953 : Int64) (i4954 : Int32) (I4955 : pI) (J4956 : pJ), XI g n L I4955 → 0 ≤ i4954.toInt → i4954.toInt ≤ 4 → (5 - i4954.toInt).toNat < mz → WP g mX2_spend 73 [(0, .ref (ad g 43)), (1, .long co), (3, .int st), (4, .int mf), (5, .int i4926), (6, .int i4935), (7, .int v4944), (8, .int v4948), (9, .long l4953), (11, .int i4954)] [] I4955 J4956 R (fun r I' J' R' => (XI g n L I' ∧ R' = R) ∧ r = none) := by
                intro mz
                induction mz with
                | zero =>
                  intro l4953 i4954 I4955 J4956 hI4955 ai4954 bi4954 hmlp73_4956
                  exact absurd hmlp73_4956 (Nat.not_lt_zero _)
                | succ mz ihlp73_4956 =>
                  intro l4953 i4954 I4955 J4956 hI4955 ai4954 bi4954 hmlp73_4956
                  have e4958 : I4955 (ad g 1) 1 = L := hI4955.2
                  have b4959 := BT_get hI4955.1 1 1 2 (0) (0) (900) (by decide) 1 (by decide) (by decide)
                  rw [e4958] at b4959
                  refine WP_iload dX2_spend_73 rfl ?_
                  refine WQ_iconst (5) (5) dX2_spend_75 rfl rfl (fun v4960 hv4960 => ?_)
                  refine WQ_icmp_gt 116 dX2_spend_76 rfl (fun c4960 => ?_) (fun c4960 => ?_)
                  · refine WP_iinc (ls' := [(0, _), (1, _), (3, _), (4, _), (5, _), (6, _), (7, _), (8, _), (9, _), (11, _)]) dX2_spend_116 rfl (by decide) rfl ?_
                    have hv4962 : (i4935 + Int32.ofInt (1)).toInt = i4935.toInt + (1) := ia_n rfl (by omega) (by omega)
                    generalize i4935 + Int32.ofInt (1) = v4962 at hv4962 ⊢
                    refine WP_goto 18 dX2_spend_119 rfl ?_
                    exact WP_sub (fc rfl (fc rfl (fc rfl (fc rfl (fc rfl (fc rfl fn)))))) (ihlp18_4937 v4962 I4955 J4956 hI4955 (by omega) (by omega) (by omega))
                  · refine WP_iload dX2_spend_79 rfl ?_
                    refine WP_iload dX2_spend_81 rfl ?_
                    refine WQ_icmp_gt 116 dX2_spend_83 rfl (fun c4962 => ?_) (fun c4962 => ?_)
                    · refine WP_iinc (ls' := [(0, _), (1, _), (3, _), (4, _), (5, _), (6, _), (7, _), (8, _), (9, _), (11, _)]) dX2_spend_116 rfl (by decide) rfl ?_
                      have hv4964 : (i4935 + Int32.ofInt (1)).toInt = i4935.toInt + (1) := ia_n rfl (by omega) (by omega)
                      generalize i4935 + Int32.ofInt (1) = v4964 at hv4964 ⊢
                      refine WP_goto 18 dX2_spend_119 rfl ?_
                      exact WP_sub (fc rfl (fc rfl (fc rfl (fc rfl (fc rfl (fc rfl fn)))))) (ihlp18_4937 v4964 I4955 J4956 hI4955 (by omega) (by omega) (by omega))
                    · refine WP_aload_n dX2_spend_86 rfl ?_
                      refine WP_getr dX2_spend_87 fX2_22 rfl (lyx_is hy 43 2 rfl) (rfx hr 43 5 46 (by decide)) ?_
                      refine WP_iload dX2_spend_90 rfl ?_
                      refine WP_dup2 dX2_spend_92 rfl rfl ?_
                      refine WQ_laldu dX2_spend_93 (lyx_is hy 46 14 rfl) (lyx_n hy 46 6 rfl) (by omega) (by omega) (fun l4965 => ?_)
                      refine WP_lload dX2_spend_94 rfl ?_
                      refine WQ_lor dX2_spend_96 (fun l4966 => ?_)
                      refine WQ_last dX2_spend_97 (lyx_is hy 46 14 rfl) (lyx_n hy 46 6 rfl) (by omega) (by omega) (fun J4967 eJ4967 => ?_)
                      clear eJ4967
                      refine WP_lload dX2_spend_98 rfl ?_
                      refine WP_aload_n dX2_spend_100 rfl ?_
                      refine WP_getr dX2_spend_101 fX2_12 rfl (lyx_is hy 43 2 rfl) (rfx hr 43 3 44 (by decide)) ?_
                      refine WQ_geti dX2_spend_104 fX2_110 rfl (lyx_is hy 44 6 rfl) (BT_get hI4955.1 44 3 4 (0) (0) (20) (by decide) 3 (by decide) (by decide)) (fun v4968 ev4968 av4968 bv4968 => ?_)
                      refine WQ_lushr dX2_spend_107 (fun l4969 => ?_)
                      refine WP_lstore (ls' := [(0, _), (1, _), (3, _), (4, _), (5, _), (6, _), (7, _), (8, _), (9, _), (11, _)]) dX2_spend_108 (by decide) rfl ?_
                      refine WP_iinc (ls' := [(0, _), (1, _), (3, _), (4, _), (5, _), (6, _), (7, _), (8, _), (9, _), (11, _)]) dX2_spend_110 rfl (by decide) rfl ?_
                      have hv4970 : (i4954 + Int32.ofInt (1)).toInt = i4954.toInt + (1) := ia_n rfl (by omega) (by omega)
                      generalize i4954 + Int32.ofInt (1) = v4970 at hv4970 ⊢
                      refine WP_goto 73 dX2_spend_113 rfl ?_
                      exact WP_sub (fc rfl (fc rfl (fc rfl (fc rfl (fc rfl (fc rfl (fc rfl (fc rfl (fc rfl (fc rfl fn)))))))))) (ihlp73_4956 l4969 v4970 I4955 J4967 hI4955 (by omega) (by omega) (by omega))
              exact WP_sub (fc rfl (fc rfl (fc rfl (fc rfl (fc rfl (fc rfl (fc rfl (fc rfl (fc rfl (fc rfl fn)))))))))) (lp73_4956 _ l4951 v4952 I4936 J4937 hI4936 (by omega) (by omega) (Nat.lt_succ_self _))
        exact WP_sub (fc rfl (fc rfl (fc rfl (fc rfl (fc rfl (fc rfl fn)))))) (lp18_4937 _ v4934 I4927 J4928 hI4927 (by omega) (by omega) (Nat.lt_succ_self _))
  exact WP_sub (fc rfl (fc rfl (fc rfl (fc rfl (fc rfl fn))))) (lp3_4928 _ v4925 I J hI (by omega) (by omega) (Nat.lt_succ_self _))
set_option maxHeartbeats 4000000 in
set_option maxRecDepth 100000 in
theorem sx_spread {g : GG} {n : Int} {L : Int32} (hy : LyX g)  {I : pI} {J : pJ} {R : pR} (hr : RfX g R) (hI : XI g n L I) (ea : Int32) (ah : Int32) (ea_lo : 0 ≤ ea.toInt) (ea_hi : ea.toInt ≤ 20) (ah_lo : 0 ≤ ah.toInt) (ah_hi : ah.toInt ≤ 27) : SP g mX2_spread [.ref (ad g 43), .int ea, .int ah] I J R (fun r I' J' R' => (XI g n L I' ∧ R' = R) ∧ r = none) := by
  refine SP_of ⟨by decide, rfl⟩ (Nat.le_of_ble_eq_true rfl) ?_
  have e4971 : I (ad g 1) 1 = L := hI.2
  have b4972 := BT_get hI.1 1 1 2 (0) (0) (900) (by decide) 1 (by decide) (by decide)
  rw [e4971] at b4972
  refine WP_aload_n dX2_spread_0 rfl ?_
  refine WP_getr dX2_spread_1 fX2_22 rfl (lyx_is hy 43 2 rfl) (rfx hr 43 5 46 (by decide)) ?_
  refine WP_lconst (0) dX2_spread_4 rfl ?_
  obtain ⟨l4973, hl4973, el4973⟩ : ∃ v : Int64, v.toInt = 0 ∧ (0 : Int64) = v := ⟨_, rfl, rfl⟩
  rw [el4973]; clear el4973
  refine WP_callS2 dX2_spread_5 ⟨⟨⟨by decide, by decide⟩, zJ7_fill_d0a16⟩, lX2_36, tJ7_fill_d0a16⟩ (sx_fillJ_46 hy hr hI l4973 ) (Nat.le_of_ble_eq_true rfl) ?_
  intro r I4974 J4975 Ra hq
  obtain ⟨⟨hI4974, ec⟩, rfl⟩ := hq
  rw [ec]
  clear ec Ra
  have e4976 : I4974 (ad g 1) 1 = L := hI4974.2
  have b4977 := BT_get hI4974.1 1 1 2 (0) (0) (900) (by decide) 1 (by decide) (by decide)
  rw [e4976] at b4977
  refine WQ_iconst (0) (0) dX2_spread_8 rfl rfl (fun v4978 hv4978 => ?_)
  refine WP_istore_n (ls' := [(0, _), (1, _), (2, _), (3, _)]) dX2_spread_9 (by decide) rfl ?_
  have lp10_4981 : ∀ (mz : Nat) (i4979 : Int32) (I4980 : pI) (J4981 : pJ), XI g n L I4980 → 0 ≤ i4979.toInt → i4979.toInt ≤ 6 → (7 - i4979.toInt).toNat < mz → WP g mX2_spread 10 [(0, .ref (ad g 43)), (1, .int ea), (2, .int ah), (3, .int i4979)] [] I4980 J4981 R (fun r I' J' R' => (XI g n L I' ∧ R' = R) ∧ r = none) := by
    intro mz
    induction mz with
    | zero =>
      intro i4979 I4980 J4981 hI4980 ai4979 bi4979 hmlp10_4981
      exact absurd hmlp10_4981 (Nat.not_lt_zero _)
    | succ mz ihlp10_4981 =>
      intro i4979 I4980 J4981 hI4980 ai4979 bi4979 hmlp10_4981
      have e4983 : I4980 (ad g 1) 1 = L := hI4980.2
      have b4984 := BT_get hI4980.1 1 1 2 (0) (0) (900) (by decide) 1 (by decide) (by decide)
      rw [e4983] at b4984
      refine WP_iload_n dX2_spread_10 rfl ?_
      refine WQ_bipush (6) (6) dX2_spread_11 rfl rfl (fun v4985 hv4985 => ?_)
      refine WQ_icmp_ge 61 dX2_spread_13 rfl (fun c4985 => ?_) (fun c4985 => ?_)
      · exact WP_vret dX2_spread_61 rfl ⟨⟨hI4980, rfl⟩, rfl⟩
      · refine WP_aload_n dX2_spread_16 rfl ?_
        refine WP_getr dX2_spread_17 fX2_18 rfl (lyx_is hy 43 2 rfl) (rfx hr 43 4 45 (by decide)) ?_
        refine WP_iload_n dX2_spread_20 rfl ?_
        refine WQ_bipush (6) (6) dX2_spread_21 rfl rfl (fun v4987 hv4987 => ?_)
        refine WQ_imulk (6) dX2_spread_23 hv4987 (by omega) (by omega) (fun v4988 hv4988 => ?_)
        refine WP_iload_n dX2_spread_24 rfl ?_
        refine WQ_iadd dX2_spread_25 (by omega) (by omega) (fun v4989 hv4989 => ?_)
        refine WQ_laldu dX2_spread_26 (lyx_is hy 45 14 rfl) (lyx_n hy 45 168 rfl) (by omega) (by omega) (fun l4990 => ?_)
        refine WP_lstore (ls' := [(0, _), (1, _), (2, _), (3, _), (4, _)]) dX2_spread_27 (by decide) rfl ?_
        refine WP_lload dX2_spread_29 rfl ?_
        refine WP_lconst (0) dX2_spread_31 rfl ?_
        obtain ⟨l4991, hl4991, el4991⟩ : ∃ v : Int64, v.toInt = 0 ∧ (0 : Int64) = v := ⟨_, rfl, rfl⟩
        rw [el4991]; clear el4991
        refine WQ_lcmpu dX2_spread_32 (fun v4992 => ?_)
        refine WX_if_eq 55 dX2_spread_33 rfl ?_ ?_
        · refine WP_iinc (ls' := [(0, _), (1, _), (2, _), (3, _), (4, _)]) dX2_spread_55 rfl (by decide) rfl ?_
          have hv4993 : (i4979 + Int32.ofInt (1)).toInt = i4979.toInt + (1) := ia_n rfl (by omega) (by omega)
          generalize i4979 + Int32.ofInt (1) = v4993 at hv4993 ⊢
          refine WP_goto 10 dX2_spread_58 rfl ?_
          exact WP_sub (fc rfl (fc rfl (fc rfl (fc rfl fn)))) (ihlp10_4981 v4993 I4980 J4981 hI4980 (by omega) (by omega) (by omega))
        · refine WP_aload_n dX2_spread_36 rfl ?_
          refine WP_lload dX2_spread_37 rfl ?_
          refine WP_iload_n dX2_spread_39 rfl ?_
          refine WP_callS2 dX2_spread_40 ⟨⟨⟨by decide, by decide⟩, zX2_withEarned⟩, lX2_78, tX2_withEarned⟩ (sx_withEarned hy hr hI4980 l4990 ea (by omega) (by omega)) (Nat.le_of_ble_eq_true rfl) ?_
          intro r Ia Ja Ra hq
          obtain ⟨⟨ea, eb, ec⟩, l4994, rfl⟩ := hq
          show WP _ _ _ _ (.long _ :: _) _ _ _ _
          rw [ea, eb, ec]
          clear ea eb ec Ia Ja Ra
          refine WP_iload_n dX2_spread_43 rfl ?_
          refine WP_aload_n dX2_spread_44 rfl ?_
          refine WP_getr dX2_spread_45 fX2_12 rfl (lyx_is hy 43 2 rfl) (rfx hr 43 3 44 (by decide)) ?_
          refine WP_iload_n dX2_spread_48 rfl ?_
          refine WP_callV1 (k := 6) dX2_spread_49 ⟨⟨⟨by decide, by decide⟩, zX6_mostFromStore⟩, lX2_82, by decide, rfl, vX6_mostFromStore.1, vX6_mostFromStore.2⟩ (lyx_is hy 44 6 rfl) (sx_mostFromStore_44 hy hr hI4980 i4979 (by omega) (by omega)) (Nat.le_of_ble_eq_true rfl) ?_
          intro r Ia Ja Ra hq
          obtain ⟨⟨ea, eb, ec⟩, v4995, rfl, av4995, bv4995, cv4995⟩ := hq
          show WP _ _ _ _ (.int _ :: _) _ _ _ _
          rw [ea, eb, ec]
          clear ea eb ec Ia Ja Ra
          refine WP_callV3 (k := 2) dX2_spread_52 ⟨⟨⟨by decide, by decide⟩, zX2_spend⟩, lX2_86, by decide, rfl, vX2_spend.1, vX2_spend.2⟩ (lyx_is hy 43 2 rfl) (sx_spend hy hr hI4980 l4994 i4979 v4995 (by omega) (by omega) (by omega) (by omega) (by omega)) (Nat.le_of_ble_eq_true rfl) ?_
          intro r I4996 J4997 Ra hq
          obtain ⟨⟨hI4996, ec⟩, rfl⟩ := hq
          rw [ec]
          clear ec Ra
          have e4998 : I4996 (ad g 1) 1 = L := hI4996.2
          have b4999 := BT_get hI4996.1 1 1 2 (0) (0) (900) (by decide) 1 (by decide) (by decide)
          rw [e4998] at b4999
          refine WP_iinc (ls' := [(0, _), (1, _), (2, _), (3, _), (4, _)]) dX2_spread_55 rfl (by decide) rfl ?_
          have hv5000 : (i4979 + Int32.ofInt (1)).toInt = i4979.toInt + (1) := ia_n rfl (by omega) (by omega)
          generalize i4979 + Int32.ofInt (1) = v5000 at hv5000 ⊢
          refine WP_goto 10 dX2_spread_58 rfl ?_
          exact WP_sub (fc rfl (fc rfl (fc rfl (fc rfl fn)))) (ihlp10_4981 v5000 I4996 J4997 hI4996 (by omega) (by omega) (by omega))
  exact WP_sub (fc rfl (fc rfl (fc rfl (fc rfl fn)))) (lp10_4981 _ v4978 I4974 J4975 hI4974 (by omega) (by omega) (Nat.lt_succ_self _))
set_option maxHeartbeats 4000000 in
set_option maxRecDepth 100000 in
theorem sx_psleep {g : GG} {n : Int} {L : Int32} (hy : LyX g)  {I : pI} {J : pJ} {R : pR} (hr : RfX g R) (hI : XI g n L I) (da : Int32) (ah : Int32) (da_lo : 0 ≤ da.toInt) (da_hi : da.toInt ≤ 6) (ah_lo : 0 ≤ ah.toInt) (ah_hi : ah.toInt ≤ 27) : SP g mX2_sleep [.ref (ad g 43), .int da, .int ah] I J R (fun r I' J' R' => (XI g n L I' ∧ R' = R) ∧ r = none) := by
  refine SP_of ⟨by decide, rfl⟩ (Nat.le_of_ble_eq_true rfl) ?_
  have e5001 : I (ad g 1) 1 = L := hI.2
  have b5002 := BT_get hI.1 1 1 2 (0) (0) (900) (by decide) 1 (by decide) (by decide)
  rw [e5001] at b5002
  refine WQ_iconst (0) (0) dX2_sleep_0 rfl rfl (fun v5003 hv5003 => ?_)
  refine WP_istore_n (ls' := [(0, _), (1, _), (2, _), (3, _)]) dX2_sleep_1 (by decide) rfl ?_
  have lp2_5006 : ∀ (mz : Nat) (i5004 : Int32) (I5005 : pI) (J5006 : pJ), XI g n L I5005 → 0 ≤ i5004.toInt → i5004.toInt ≤ 6 → (7 - i5004.toInt).toNat < mz → WP g mX2_sleep 2 [(0, .ref (ad g 43)), (1, .int da), (2, .int ah), (3, .int i5004)] [] I5005 J5006 R (fun r I' J' R' => (XI g n L I' ∧ R' = R) ∧ r = none) := by
    intro mz
    induction mz with
    | zero =>
      intro i5004 I5005 J5006 hI5005 ai5004 bi5004 hmlp2_5006
      exact absurd hmlp2_5006 (Nat.not_lt_zero _)
    | succ mz ihlp2_5006 =>
      intro i5004 I5005 J5006 hI5005 ai5004 bi5004 hmlp2_5006
      have e5008 : I5005 (ad g 1) 1 = L := hI5005.2
      have b5009 := BT_get hI5005.1 1 1 2 (0) (0) (900) (by decide) 1 (by decide) (by decide)
      rw [e5008] at b5009
      refine WP_iload_n dX2_sleep_2 rfl ?_
      refine WQ_bipush (6) (6) dX2_sleep_3 rfl rfl (fun v5010 hv5010 => ?_)
      refine WQ_icmp_ge 99 dX2_sleep_5 rfl (fun c5010 => ?_) (fun c5010 => ?_)
      · exact WP_vret dX2_sleep_99 rfl ⟨⟨hI5005, rfl⟩, rfl⟩
      · refine WP_aload_n dX2_sleep_8 rfl ?_
        refine WP_getr dX2_sleep_9 fX2_22 rfl (lyx_is hy 43 2 rfl) (rfx hr 43 5 46 (by decide)) ?_
        refine WP_iload_n dX2_sleep_12 rfl ?_
        refine WQ_laldu dX2_sleep_13 (lyx_is hy 46 14 rfl) (lyx_n hy 46 6 rfl) (by omega) (by omega) (fun l5012 => ?_)
        refine WP_lstore (ls' := [(0, _), (1, _), (2, _), (3, _), (4, _)]) dX2_sleep_14 (by decide) rfl ?_
        refine WP_iload_n dX2_sleep_16 rfl ?_
        refine WQ_bipush (6) (6) dX2_sleep_17 rfl rfl (fun v5013 hv5013 => ?_)
        refine WQ_imulk (6) dX2_sleep_19 hv5013 (by omega) (by omega) (fun v5014 hv5014 => ?_)
        refine WP_aload_n dX2_sleep_20 rfl ?_
        refine WP_getr dX2_sleep_21 fX2_32 rfl (lyx_is hy 43 2 rfl) (rfx hr 43 2 5 (by decide)) ?_
        refine WP_getr dX2_sleep_24 fX2_113 rfl (lyx_is hy 5 0 rfl) (rfx hr 5 5 26 (by decide)) ?_
        refine WP_iload_n dX2_sleep_27 rfl ?_
        refine WQ_iald dX2_sleep_28 (lyx_is hy 26 13 rfl) (lyx_n hy 26 6 rfl) (by omega) (by omega) (fun q hq => BT_get hI5005.1 26 0 6 (0) (0) (5) (by decide) q (Nat.zero_le _) hq) (fun v5015 av5015 bv5015 ev5015 => ?_)
        clear ev5015
        refine WQ_iadd dX2_sleep_29 (by omega) (by omega) (fun v5016 hv5016 => ?_)
        refine WP_istore (ls' := [(0, _), (1, _), (2, _), (3, _), (4, _), (6, _)]) dX2_sleep_30 (by decide) rfl ?_
        refine WQ_iconst (0) (0) dX2_sleep_32 rfl rfl (fun v5017 hv5017 => ?_)
        refine WP_istore (ls' := [(0, _), (1, _), (2, _), (3, _), (4, _), (6, _), (7, _)]) dX2_sleep_33 (by decide) rfl ?_
        have lp35_5020 : ∀ (mz : Nat) (i5018 : Int32) (I5019 : pI) (J5020 : pJ), XI g n L I5019 → 0 ≤ i5018.toInt → i5018.toInt ≤ 61 → (62 - i5018.toInt).toNat < mz → WP g mX2_sleep 35 [(0, .ref (ad g 43)), (1, .int da), (2, .int ah), (3, .int i5004), (4, .long l5012), (6, .int v5016), (7, .int i5018)] [] I5019 J5020 R (fun r I' J' R' => (XI g n L I' ∧ R' = R) ∧ r = none) := by
          intro mz
          induction mz with
          | zero =>
            intro i5018 I5019 J5020 hI5019 ai5018 bi5018 hmlp35_5020
            exact absurd hmlp35_5020 (Nat.not_lt_zero _)
          | succ mz ihlp35_5020 =>
            intro i5018 I5019 J5020 hI5019 ai5018 bi5018 hmlp35_5020
            have e5022 : I5019 (ad g 1) 1 = L := hI5019.2
            have b5023 := BT_get hI5019.1 1 1 2 (0) (0) (900) (by decide) 1 (by decide) (by decide)
            rw [e5022] at b5023
            refine WP_iload dX2_sleep_35 rfl ?_
            refine WQ_bipush (61) (61) dX2_sleep_37 rfl rfl (fun v5024 hv5024 => ?_)
            refine WQ_icmp_ge 93 dX2_sleep_39 rfl (fun c5024 => ?_) (fun c5024 => ?_)
            · refine WP_iinc (ls' := [(0, _), (1, _), (2, _), (3, _), (4, _), (6, _), (7, _)]) dX2_sleep_93 rfl (by decide) rfl ?_
              have hv5026 : (i5004 + Int32.ofInt (1)).toInt = i5004.toInt + (1) := ia_n rfl (by omega) (by omega)
              generalize i5004 + Int32.ofInt (1) = v5026 at hv5026 ⊢
              refine WP_goto 2 dX2_sleep_96 rfl ?_
              exact WP_sub (fc rfl (fc rfl (fc rfl (fc rfl fn)))) (ihlp2_5006 v5026 I5019 J5020 hI5019 (by omega) (by omega) (by omega))
            · refine WP_lload dX2_sleep_42 rfl ?_
              refine WP_iload dX2_sleep_44 rfl ?_
              refine WQ_lushr dX2_sleep_46 (fun l5027 => ?_)
              refine WP_lconst (0) dX2_sleep_47 rfl ?_
              obtain ⟨l5028, hl5028, el5028⟩ : ∃ v : Int64, v.toInt = 0 ∧ (0 : Int64) = v := ⟨_, rfl, rfl⟩
              rw [el5028]; clear el5028
              refine WQ_lcmpu dX2_sleep_48 (fun v5029 => ?_)
              refine WX_if_eq 93 dX2_sleep_49 rfl ?_ ?_
              · refine WP_iinc (ls' := [(0, _), (1, _), (2, _), (3, _), (4, _), (6, _), (7, _)]) dX2_sleep_93 rfl (by decide) rfl ?_
                have hv5030 : (i5004 + Int32.ofInt (1)).toInt = i5004.toInt + (1) := ia_n rfl (by omega) (by omega)
                generalize i5004 + Int32.ofInt (1) = v5030 at hv5030 ⊢
                refine WP_goto 2 dX2_sleep_96 rfl ?_
                exact WP_sub (fc rfl (fc rfl (fc rfl (fc rfl fn)))) (ihlp2_5006 v5030 I5019 J5020 hI5019 (by omega) (by omega) (by omega))
              · refine WP_lload dX2_sleep_52 rfl ?_
                refine WP_iload dX2_sleep_54 rfl ?_
                refine WQ_lushr dX2_sleep_56 (fun l5031 => ?_)
                refine WP_lconst (1) dX2_sleep_57 rfl ?_
                obtain ⟨l5032, hl5032, el5032⟩ : ∃ v : Int64, v.toInt = 1 ∧ (1 : Int64) = v := ⟨_, rfl, rfl⟩
                rw [el5032]; clear el5032
                refine WQ_land dX2_sleep_58 (fun l5033 => ?_)
                refine WP_lconst (0) dX2_sleep_59 rfl ?_
                obtain ⟨l5034, hl5034, el5034⟩ : ∃ v : Int64, v.toInt = 0 ∧ (0 : Int64) = v := ⟨_, rfl, rfl⟩
                rw [el5034]; clear el5034
                refine WQ_lcmpu dX2_sleep_60 (fun v5035 => ?_)
                refine WX_if_eq 87 dX2_sleep_61 rfl ?_ ?_
                · refine WP_iinc (ls' := [(0, _), (1, _), (2, _), (3, _), (4, _), (6, _), (7, _)]) dX2_sleep_87 rfl (by decide) rfl ?_
                  have hv5036 : (i5018 + Int32.ofInt (1)).toInt = i5018.toInt + (1) := ia_n rfl (by omega) (by omega)
                  generalize i5018 + Int32.ofInt (1) = v5036 at hv5036 ⊢
                  refine WP_goto 35 dX2_sleep_90 rfl ?_
                  exact WP_sub (fc rfl (fc rfl (fc rfl (fc rfl (fc rfl (fc rfl (fc rfl fn))))))) (ihlp35_5020 v5036 I5019 J5020 hI5019 (by omega) (by omega) (by omega))
                · refine WP_aload_n dX2_sleep_64 rfl ?_
                  refine WP_getr dX2_sleep_65 fX2_18 rfl (lyx_is hy 43 2 rfl) (rfx hr 43 4 45 (by decide)) ?_
                  refine WP_iload dX2_sleep_68 rfl ?_
                  refine WP_dup2 dX2_sleep_70 rfl rfl ?_
                  refine WQ_laldu dX2_sleep_71 (lyx_is hy 45 14 rfl) (lyx_n hy 45 168 rfl) (by omega) (by omega) (fun l5037 => ?_)
                  refine WP_lconst (1) dX2_sleep_72 rfl ?_
                  obtain ⟨l5038, hl5038, el5038⟩ : ∃ v : Int64, v.toInt = 1 ∧ (1 : Int64) = v := ⟨_, rfl, rfl⟩
                  rw [el5038]; clear el5038
                  refine WP_aload_n dX2_sleep_73 rfl ?_
                  refine WP_getr dX2_sleep_74 fX2_32 rfl (lyx_is hy 43 2 rfl) (rfx hr 43 2 5 (by decide)) ?_
                  refine WP_iload dX2_sleep_77 rfl ?_
                  refine WP_iload_n dX2_sleep_79 rfl ?_
                  refine WP_iload_n dX2_sleep_80 rfl ?_
                  refine WP_callV3 (k := 0) dX2_sleep_81 ⟨⟨⟨by decide, by decide⟩, zX0_coinsBehind⟩, lX2_116, by decide, rfl, vX0_coinsBehind.1, vX0_coinsBehind.2⟩ (lyx_is hy 5 0 rfl) (sx_coinsBehind hy hr hI5019 i5018 i5004 da (by omega) (by omega) (by omega) (by omega) (by omega) (by omega)) (Nat.le_of_ble_eq_true rfl) ?_
                  intro r Ia Ja Ra hq
                  obtain ⟨⟨ea, eb, ec⟩, v5039, rfl, av5039, bv5039⟩ := hq
                  show WP _ _ _ _ (.int _ :: _) _ _ _ _
                  rw [ea, eb, ec]
                  clear ea eb ec Ia Ja Ra
                  refine WQ_lshl dX2_sleep_84 (fun l5040 => ?_)
                  refine WQ_lor dX2_sleep_85 (fun l5041 => ?_)
                  refine WQ_last dX2_sleep_86 (lyx_is hy 45 14 rfl) (lyx_n hy 45 168 rfl) (by omega) (by omega) (fun J5042 eJ5042 => ?_)
                  clear eJ5042
                  refine WP_iinc (ls' := [(0, _), (1, _), (2, _), (3, _), (4, _), (6, _), (7, _)]) dX2_sleep_87 rfl (by decide) rfl ?_
                  have hv5043 : (i5018 + Int32.ofInt (1)).toInt = i5018.toInt + (1) := ia_n rfl (by omega) (by omega)
                  generalize i5018 + Int32.ofInt (1) = v5043 at hv5043 ⊢
                  refine WP_goto 35 dX2_sleep_90 rfl ?_
                  exact WP_sub (fc rfl (fc rfl (fc rfl (fc rfl (fc rfl (fc rfl (fc rfl fn))))))) (ihlp35_5020 v5043 I5019 J5042 hI5019 (by omega) (by omega) (by omega))
        exact WP_sub (fc rfl (fc rfl (fc rfl (fc rfl (fc rfl (fc rfl (fc rfl fn))))))) (lp35_5020 _ v5017 I5005 J5006 hI5005 (by omega) (by omega) (Nat.lt_succ_self _))
  exact WP_sub (fc rfl (fc rfl (fc rfl (fc rfl fn)))) (lp2_5006 _ v5003 I J hI (by omega) (by omega) (Nat.lt_succ_self _))
set_option maxHeartbeats 4000000 in
set_option maxRecDepth 100000 in
theorem sx_note {g : GG} {n : Int} {L : Int32} (hy : LyX g)  {I : pI} {J : pJ} {R : pR} (hr : RfX g R) (hI : XI g n L I) (k : Int32)  : SP g mX3_note [.ref (ad g 3), .int k] I J R (fun r I' J' R' => (XI g n L I' ∧ R' = R) ∧ r = none) := by
  refine SP_of ⟨by decide, rfl⟩ (Nat.le_of_ble_eq_true rfl) ?_
  have e5044 : I (ad g 1) 1 = L := hI.2
  have b5045 := BT_get hI.1 1 1 2 (0) (0) (900) (by decide) 1 (by decide) (by decide)
  rw [e5044] at b5045
  refine WP_aload_n dX3_note_0 rfl ?_
  refine WP_iload_n dX3_note_1 rfl ?_
  refine WQ_puti dX3_note_2 fX3_19 rfl rfl (lyx_is hy 3 3 rfl) (fun I5046 eI5046 => ?_)
  have hI5046 : XI g n L I5046 := by rw [eI5046]; exact (xi_f0 hy hI (c := 3) (by decide) (Or.inl (by decide)) (by decide))
  have e5047 : I5046 (ad g 1) 1 = L := by rw [eI5046, pp_ne _ _ (Or.inl (lyx_ne hy (by decide) (by decide) (by decide)))]; exact e5044
  have e5048 : I5046 (ad g 3) 0 = k := by rw [eI5046, pp_self]
  clear eI5046
  refine WP_aload_n dX3_note_5 rfl ?_
  refine WP_iload_n dX3_note_6 rfl ?_
  have jn21_5051 : ∀ (v5051 : Int32), -1 ≤ v5051.toInt → v5051.toInt ≤ 900 → WP g mX3_note 21 [(0, .ref (ad g 3)), (1, .int k)] [.int v5051, .ref (ad g 3)] I5046 J R (fun r I' J' R' => (XI g n L I' ∧ R' = R) ∧ r = none) := by
    intro v5051 av5051 bv5051
    refine WQ_puti dX3_note_21 fX3_23 rfl rfl (lyx_is hy 3 3 rfl) (fun I5053 eI5053 => ?_)
    have hI5053 : XI g n L I5053 := by rw [eI5053]; exact (xi_f0 hy hI5046 (c := 3) (by decide) (Or.inl (by decide)) (by decide))
    have e5054 : I5053 (ad g 1) 1 = L := by rw [eI5053, pp_ne _ _ (Or.inl (lyx_ne hy (by decide) (by decide) (by decide)))]; exact e5047
    have e5055 : I5053 (ad g 3) 0 = k := by rw [eI5053, pp_ne _ _ (Or.inr (by decide))]; exact e5048
    have e5056 : I5053 (ad g 3) 1 = v5051 := by rw [eI5053, pp_self]
    clear eI5053
    exact WP_vret dX3_note_24 rfl ⟨⟨hI5053, rfl⟩, rfl⟩
  refine WX_if_ne 14 dX3_note_7 rfl ?_ ?_
  · refine WP_aload_n dX3_note_14 rfl ?_
    refine WP_getr dX3_note_15 fX3_15 rfl (lyx_is hy 3 3 rfl) (rfx hr 3 2 1 (by decide)) ?_
    refine WQ_geti dX3_note_18 fX3_69 rfl (lyx_is hy 1 5 rfl) (BT_get hI5046.1 1 3 4 (0) (0) (900) (by decide) 3 (by decide) (by decide)) (fun v5057 ev5057 av5057 bv5057 => ?_)
    exact WP_sub (fc rfl (fc rfl fn)) (jn21_5051 v5057 (by omega) (by omega))
  · refine WQ_iconst (-1) (-1) dX3_note_10 rfl rfl (fun v5058 hv5058 => ?_)
    refine WP_goto 21 dX3_note_11 rfl ?_
    exact WP_sub (fc rfl (fc rfl fn)) (jn21_5051 v5058 (by omega) (by omega))
set_option maxHeartbeats 4000000 in
set_option maxRecDepth 100000 in
theorem sx_leastOf {g : GG} {n : Int} {L : Int32} (hy : LyX g)  {I : pI} {J : pJ} {R : pR} (hr : RfX g R) (hI : XI g n L I) (pa : Int32)  : SP g mX3_leastOf [.int pa] I J R (fun r I' J' R' => (I' = I ∧ J' = J ∧ R' = R) ∧ ∃ v : Int32, r = some (.int v) ∧ 0 ≤ v.toInt ∧ v.toInt ≤ 1) := by
  refine SP_of ⟨by decide, rfl⟩ (Nat.le_of_ble_eq_true rfl) ?_
  have e5059 : I (ad g 1) 1 = L := hI.2
  have b5060 := BT_get hI.1 1 1 2 (0) (0) (900) (by decide) 1 (by decide) (by decide)
  rw [e5059] at b5060
  refine WP_iload_n dX3_leastOf_0 rfl ?_
  refine WQ_bipush (80) (80) dX3_leastOf_1 rfl rfl (fun v5061 hv5061 => ?_)
  have jn29_5070 : ∀ (v5070 : Int32), 0 ≤ v5070.toInt → v5070.toInt ≤ 1 → WP g mX3_leastOf 29 [(0, .int pa)] [.int v5070] I J R (fun r I' J' R' => (I' = I ∧ J' = J ∧ R' = R) ∧ ∃ v : Int32, r = some (.int v) ∧ 0 ≤ v.toInt ∧ v.toInt ≤ 1) := by
    intro v5070 av5070 bv5070
    exact WP_iret dX3_leastOf_29 rfl ⟨⟨rfl, rfl, rfl⟩, _, rfl, by omega, by omega⟩
  refine WX_icmp_eq 24 dX3_leastOf_3 rfl ?_ ?_
  · refine WQ_iconst (1) (1) dX3_leastOf_24 rfl rfl (fun v5072 hv5072 => ?_)
    refine WP_goto 29 dX3_leastOf_25 rfl ?_
    exact WP_sub (fc rfl fn) (jn29_5070 v5072 (by omega) (by omega))
  · refine WP_iload_n dX3_leastOf_6 rfl ?_
    refine WQ_bipush (69) (69) dX3_leastOf_7 rfl rfl (fun v5073 hv5073 => ?_)
    refine WX_icmp_eq 24 dX3_leastOf_9 rfl ?_ ?_
    · refine WQ_iconst (1) (1) dX3_leastOf_24 rfl rfl (fun v5074 hv5074 => ?_)
      refine WP_goto 29 dX3_leastOf_25 rfl ?_
      exact WP_sub (fc rfl fn) (jn29_5070 v5074 (by omega) (by omega))
    · refine WP_iload_n dX3_leastOf_12 rfl ?_
      refine WQ_bipush (85) (85) dX3_leastOf_13 rfl rfl (fun v5075 hv5075 => ?_)
      refine WX_icmp_eq 24 dX3_leastOf_15 rfl ?_ ?_
      · refine WQ_iconst (1) (1) dX3_leastOf_24 rfl rfl (fun v5076 hv5076 => ?_)
        refine WP_goto 29 dX3_leastOf_25 rfl ?_
        exact WP_sub (fc rfl fn) (jn29_5070 v5076 (by omega) (by omega))
      · refine WP_iload_n dX3_leastOf_18 rfl ?_
        refine WQ_bipush (73) (73) dX3_leastOf_19 rfl rfl (fun v5077 hv5077 => ?_)
        refine WX_icmp_ne 28 dX3_leastOf_21 rfl ?_ ?_
        · refine WQ_iconst (0) (0) dX3_leastOf_28 rfl rfl (fun v5078 hv5078 => ?_)
          exact WP_sub (fc rfl fn) (jn29_5070 v5078 (by omega) (by omega))
        · refine WQ_iconst (1) (1) dX3_leastOf_24 rfl rfl (fun v5079 hv5079 => ?_)
          refine WP_goto 29 dX3_leastOf_25 rfl ?_
          exact WP_sub (fc rfl fn) (jn29_5070 v5079 (by omega) (by omega))
set_option maxHeartbeats 4000000 in
set_option maxRecDepth 100000 in
theorem sx_mostOf {g : GG} {n : Int} {L : Int32} (hy : LyX g)  {I : pI} {J : pJ} {R : pR} (hr : RfX g R) (hI : XI g n L I) (pa : Int32)  : SP g mX3_mostOf [.int pa] I J R (fun r I' J' R' => (I' = I ∧ J' = J ∧ R' = R) ∧ ∃ v : Int32, r = some (.int v) ∧ 0 ≤ v.toInt ∧ v.toInt ≤ 1000 ∧ ((pa.toInt = 68 → v.toInt = 6) ∧ (pa.toInt = 76 → v.toInt = 900) ∧ (pa.toInt = 80 → v.toInt = 99) ∧ (pa.toInt = 67 → v.toInt = 60) ∧ (pa.toInt = 71 → v.toInt = 9) ∧ (pa.toInt = 69 → v.toInt = 20) ∧ (pa.toInt = 77 → v.toInt = 999) ∧ (pa.toInt = 85 → v.toInt = 3) ∧ (pa.toInt = 73 → v.toInt = 127) ∧ (pa.toInt = 86 → v.toInt = 99))) := by
  refine SP_of ⟨by decide, rfl⟩ (Nat.le_of_ble_eq_true rfl) ?_
  have e5080 : I (ad g 1) 1 = L := hI.2
  have b5081 := BT_get hI.1 1 1 2 (0) (0) (900) (by decide) 1 (by decide) (by decide)
  rw [e5080] at b5081
  refine WP_iload_n dX3_mostOf_0 rfl ?_
  refine WP_tab 124 dX3_mostOf_1 rfl rfl (fun c5081 => ?_) (fun j off c5081 hj => ?_) (by decide)
  · refine WQ_bipush (99) (99) dX3_mostOf_124 rfl rfl (fun v5083 hv5083 => ?_)
    exact WP_iret dX3_mostOf_126 rfl ⟨⟨rfl, rfl, rfl⟩, _, rfl, by omega, by omega, by omega⟩
  · have hlt : j < 19 := by have := (Array.getElem?_eq_some_iff.mp hj).1; simpa using this
    have hcs : (j = 0 ∧ off = 105) ∨ (j = 1 ∧ off = 91) ∨ (j = 2 ∧ off = 111) ∨ (j = 3 ∧ off = 123) ∨ (j = 4 ∧ off = 108) ∨ (j = 5 ∧ off = 101) ∨ (j = 6 ∧ off = 120) ∨ (j = 7 ∧ off = 123) ∨ (j = 8 ∧ off = 123) ∨ (j = 9 ∧ off = 94) ∨ (j = 10 ∧ off = 114) ∨ (j = 11 ∧ off = 123) ∨ (j = 12 ∧ off = 123) ∨ (j = 13 ∧ off = 98) ∨ (j = 14 ∧ off = 123) ∨ (j = 15 ∧ off = 123) ∨ (j = 16 ∧ off = 123) ∨ (j = 17 ∧ off = 123) ∨ (j = 18 ∧ off = 118) := by
      match j, hlt, hj with
      | 0, _, hj => exact Or.inl ⟨rfl, (Option.some.inj hj).symm⟩
      | 1, _, hj => exact Or.inr (Or.inl ⟨rfl, (Option.some.inj hj).symm⟩)
      | 2, _, hj => exact Or.inr (Or.inr (Or.inl ⟨rfl, (Option.some.inj hj).symm⟩))
      | 3, _, hj => exact Or.inr (Or.inr (Or.inr (Or.inl ⟨rfl, (Option.some.inj hj).symm⟩)))
      | 4, _, hj => exact Or.inr (Or.inr (Or.inr (Or.inr (Or.inl ⟨rfl, (Option.some.inj hj).symm⟩))))
      | 5, _, hj => exact Or.inr (Or.inr (Or.inr (Or.inr (Or.inr (Or.inl ⟨rfl, (Option.some.inj hj).symm⟩)))))
      | 6, _, hj => exact Or.inr (Or.inr (Or.inr (Or.inr (Or.inr (Or.inr (Or.inl ⟨rfl, (Option.some.inj hj).symm⟩))))))
      | 7, _, hj => exact Or.inr (Or.inr (Or.inr (Or.inr (Or.inr (Or.inr (Or.inr (Or.inl ⟨rfl, (Option.some.inj hj).symm⟩)))))))
      | 8, _, hj => exact Or.inr (Or.inr (Or.inr (Or.inr (Or.inr (Or.inr (Or.inr (Or.inr (Or.inl ⟨rfl, (Option.some.inj hj).symm⟩))))))))
      | 9, _, hj => exact Or.inr (Or.inr (Or.inr (Or.inr (Or.inr (Or.inr (Or.inr (Or.inr (Or.inr (Or.inl ⟨rfl, (Option.some.inj hj).symm⟩)))))))))
      | 10, _, hj => exact Or.inr (Or.inr (Or.inr (Or.inr (Or.inr (Or.inr (Or.inr (Or.inr (Or.inr (Or.inr (Or.inl ⟨rfl, (Option.some.inj hj).symm⟩))))))))))
      | 11, _, hj => exact Or.inr (Or.inr (Or.inr (Or.inr (Or.inr (Or.inr (Or.inr (Or.inr (Or.inr (Or.inr (Or.inr (Or.inl ⟨rfl, (Option.some.inj hj).symm⟩)))))))))))
      | 12, _, hj => exact Or.inr (Or.inr (Or.inr (Or.inr (Or.inr (Or.inr (Or.inr (Or.inr (Or.inr (Or.inr (Or.inr (Or.inr (Or.inl ⟨rfl, (Option.some.inj hj).symm⟩))))))))))))
      | 13, _, hj => exact Or.inr (Or.inr (Or.inr (Or.inr (Or.inr (Or.inr (Or.inr (Or.inr (Or.inr (Or.inr (Or.inr (Or.inr (Or.inr (Or.inl ⟨rfl, (Option.some.inj hj).symm⟩)))))))))))))
      | 14, _, hj => exact Or.inr (Or.inr (Or.inr (Or.inr (Or.inr (Or.inr (Or.inr (Or.inr (Or.inr (Or.inr (Or.inr (Or.inr (Or.inr (Or.inr (Or.inl ⟨rfl, (Option.some.inj hj).symm⟩))))))))))))))
      | 15, _, hj => exact Or.inr (Or.inr (Or.inr (Or.inr (Or.inr (Or.inr (Or.inr (Or.inr (Or.inr (Or.inr (Or.inr (Or.inr (Or.inr (Or.inr (Or.inr (Or.inl ⟨rfl, (Option.some.inj hj).symm⟩)))))))))))))))
      | 16, _, hj => exact Or.inr (Or.inr (Or.inr (Or.inr (Or.inr (Or.inr (Or.inr (Or.inr (Or.inr (Or.inr (Or.inr (Or.inr (Or.inr (Or.inr (Or.inr (Or.inr (Or.inl ⟨rfl, (Option.some.inj hj).symm⟩))))))))))))))))
      | 17, _, hj => exact Or.inr (Or.inr (Or.inr (Or.inr (Or.inr (Or.inr (Or.inr (Or.inr (Or.inr (Or.inr (Or.inr (Or.inr (Or.inr (Or.inr (Or.inr (Or.inr (Or.inr (Or.inl ⟨rfl, (Option.some.inj hj).symm⟩)))))))))))))))))
      | 18, _, hj => exact Or.inr (Or.inr (Or.inr (Or.inr (Or.inr (Or.inr (Or.inr (Or.inr (Or.inr (Or.inr (Or.inr (Or.inr (Or.inr (Or.inr (Or.inr (Or.inr (Or.inr (Or.inr (⟨rfl, (Option.some.inj hj).symm⟩))))))))))))))))))
    clear hj hlt
    rcases hcs with ⟨rfl, rfl⟩ | ⟨rfl, rfl⟩ | ⟨rfl, rfl⟩ | ⟨rfl, rfl⟩ | ⟨rfl, rfl⟩ | ⟨rfl, rfl⟩ | ⟨rfl, rfl⟩ | ⟨rfl, rfl⟩ | ⟨rfl, rfl⟩ | ⟨rfl, rfl⟩ | ⟨rfl, rfl⟩ | ⟨rfl, rfl⟩ | ⟨rfl, rfl⟩ | ⟨rfl, rfl⟩ | ⟨rfl, rfl⟩ | ⟨rfl, rfl⟩ | ⟨rfl, rfl⟩ | ⟨rfl, rfl⟩ | ⟨rfl, rfl⟩
    · show WP _ _ 106 _ _ _ _ _ _
      refine WQ_bipush (60) (60) dX3_mostOf_106 rfl rfl (fun v5084 hv5084 => ?_)
      exact WP_iret dX3_mostOf_108 rfl ⟨⟨rfl, rfl, rfl⟩, _, rfl, by omega, by omega, by omega⟩
    · show WP _ _ 92 _ _ _ _ _ _
      refine WQ_bipush (6) (6) dX3_mostOf_92 rfl rfl (fun v5085 hv5085 => ?_)
      exact WP_iret dX3_mostOf_94 rfl ⟨⟨rfl, rfl, rfl⟩, _, rfl, by omega, by omega, by omega⟩
    · show WP _ _ 112 _ _ _ _ _ _
      refine WQ_bipush (20) (20) dX3_mostOf_112 rfl rfl (fun v5086 hv5086 => ?_)
      exact WP_iret dX3_mostOf_114 rfl ⟨⟨rfl, rfl, rfl⟩, _, rfl, by omega, by omega, by omega⟩
    · show WP _ _ 124 _ _ _ _ _ _
      refine WQ_bipush (99) (99) dX3_mostOf_124 rfl rfl (fun v5087 hv5087 => ?_)
      exact WP_iret dX3_mostOf_126 rfl ⟨⟨rfl, rfl, rfl⟩, _, rfl, by omega, by omega, by omega⟩
    · show WP _ _ 109 _ _ _ _ _ _
      refine WQ_bipush (9) (9) dX3_mostOf_109 rfl rfl (fun v5088 hv5088 => ?_)
      exact WP_iret dX3_mostOf_111 rfl ⟨⟨rfl, rfl, rfl⟩, _, rfl, by omega, by omega, by omega⟩
    · show WP _ _ 102 _ _ _ _ _ _
      refine WQ_sipush (1000) (1000) dX3_mostOf_102 rfl rfl (fun v5089 hv5089 => ?_)
      exact WP_iret dX3_mostOf_105 rfl ⟨⟨rfl, rfl, rfl⟩, _, rfl, by omega, by omega, by omega⟩
    · show WP _ _ 121 _ _ _ _ _ _
      refine WQ_bipush (127) (127) dX3_mostOf_121 rfl rfl (fun v5090 hv5090 => ?_)
      exact WP_iret dX3_mostOf_123 rfl ⟨⟨rfl, rfl, rfl⟩, _, rfl, by omega, by omega, by omega⟩
    · show WP _ _ 124 _ _ _ _ _ _
      refine WQ_bipush (99) (99) dX3_mostOf_124 rfl rfl (fun v5091 hv5091 => ?_)
      exact WP_iret dX3_mostOf_126 rfl ⟨⟨rfl, rfl, rfl⟩, _, rfl, by omega, by omega, by omega⟩
    · show WP _ _ 124 _ _ _ _ _ _
      refine WQ_bipush (99) (99) dX3_mostOf_124 rfl rfl (fun v5092 hv5092 => ?_)
      exact WP_iret dX3_mostOf_126 rfl ⟨⟨rfl, rfl, rfl⟩, _, rfl, by omega, by omega, by omega⟩
    · show WP _ _ 95 _ _ _ _ _ _
      refine WQ_sipush (900) (900) dX3_mostOf_95 rfl rfl (fun v5093 hv5093 => ?_)
      exact WP_iret dX3_mostOf_98 rfl ⟨⟨rfl, rfl, rfl⟩, _, rfl, by omega, by omega, by omega⟩
    · show WP _ _ 115 _ _ _ _ _ _
      refine WQ_sipush (999) (999) dX3_mostOf_115 rfl rfl (fun v5094 hv5094 => ?_)
      exact WP_iret dX3_mostOf_118 rfl ⟨⟨rfl, rfl, rfl⟩, _, rfl, by omega, by omega, by omega⟩
    · show WP _ _ 124 _ _ _ _ _ _
      refine WQ_bipush (99) (99) dX3_mostOf_124 rfl rfl (fun v5095 hv5095 => ?_)
      exact WP_iret dX3_mostOf_126 rfl ⟨⟨rfl, rfl, rfl⟩, _, rfl, by omega, by omega, by omega⟩
    · show WP _ _ 124 _ _ _ _ _ _
      refine WQ_bipush (99) (99) dX3_mostOf_124 rfl rfl (fun v5096 hv5096 => ?_)
      exact WP_iret dX3_mostOf_126 rfl ⟨⟨rfl, rfl, rfl⟩, _, rfl, by omega, by omega, by omega⟩
    · show WP _ _ 99 _ _ _ _ _ _
      refine WQ_bipush (99) (99) dX3_mostOf_99 rfl rfl (fun v5097 hv5097 => ?_)
      exact WP_iret dX3_mostOf_101 rfl ⟨⟨rfl, rfl, rfl⟩, _, rfl, by omega, by omega, by omega⟩
    · show WP _ _ 124 _ _ _ _ _ _
      refine WQ_bipush (99) (99) dX3_mostOf_124 rfl rfl (fun v5098 hv5098 => ?_)
      exact WP_iret dX3_mostOf_126 rfl ⟨⟨rfl, rfl, rfl⟩, _, rfl, by omega, by omega, by omega⟩
    · show WP _ _ 124 _ _ _ _ _ _
      refine WQ_bipush (99) (99) dX3_mostOf_124 rfl rfl (fun v5099 hv5099 => ?_)
      exact WP_iret dX3_mostOf_126 rfl ⟨⟨rfl, rfl, rfl⟩, _, rfl, by omega, by omega, by omega⟩
    · show WP _ _ 124 _ _ _ _ _ _
      refine WQ_bipush (99) (99) dX3_mostOf_124 rfl rfl (fun v5100 hv5100 => ?_)
      exact WP_iret dX3_mostOf_126 rfl ⟨⟨rfl, rfl, rfl⟩, _, rfl, by omega, by omega, by omega⟩
    · show WP _ _ 124 _ _ _ _ _ _
      refine WQ_bipush (99) (99) dX3_mostOf_124 rfl rfl (fun v5101 hv5101 => ?_)
      exact WP_iret dX3_mostOf_126 rfl ⟨⟨rfl, rfl, rfl⟩, _, rfl, by omega, by omega, by omega⟩
    · show WP _ _ 119 _ _ _ _ _ _
      refine WQ_iconst (3) (3) dX3_mostOf_119 rfl rfl (fun v5102 hv5102 => ?_)
      exact WP_iret dX3_mostOf_120 rfl ⟨⟨rfl, rfl, rfl⟩, _, rfl, by omega, by omega, by omega⟩
set_option maxHeartbeats 4000000 in
set_option maxRecDepth 100000 in
theorem sx_isLoss_6 {g : GG} {n : Int} {L : Int32} (hy : LyX g)  {I : pI} {J : pJ} {R : pR} (hr : RfX g R) (hI : XI g n L I)   (hb : (I (ad g 4) 0).toInt ≤ 3 ∧ (I (ad g 4) 2).toInt ≤ 6) : SP g mX7_isLoss [.ref (ad g 6), .ref (ad g 4)] I J R (fun r I' J' R' => (I' = I ∧ J' = J ∧ R' = R) ∧ ∃ v : Int32, r = some (.int v) ∧ 0 ≤ v.toInt ∧ v.toInt ≤ 1) := by
  refine SP_of ⟨by decide, rfl⟩ (Nat.le_of_ble_eq_true rfl) ?_
  have e5103 : I (ad g 1) 1 = L := hI.2
  have b5104 := BT_get hI.1 1 1 2 (0) (0) (900) (by decide) 1 (by decide) (by decide)
  rw [e5103] at b5104
  obtain ⟨w5105, ew5105⟩ : ∃ w : Int32, I (ad g 4) 0 = w := ⟨_, rfl⟩
  have bw5105 := BT_get hI.1 4 0 5 (0) (0) (1000) (by decide) 0 (by decide) (by decide)
  rw [ew5105] at bw5105
  obtain ⟨w5106, ew5106⟩ : ∃ w : Int32, I (ad g 4) 2 = w := ⟨_, rfl⟩
  have bw5106 := BT_get hI.1 4 0 5 (0) (0) (1000) (by decide) 2 (by decide) (by decide)
  rw [ew5106] at bw5106
  rw [ew5105, ew5106] at hb
  refine WP_aload_n dX7_isLoss_0 rfl ?_
  refine WQ_iconst (2) (2) dX7_isLoss_1 rfl rfl (fun v5107 hv5107 => ?_)
  refine WQ_ialdm (z := 2) dX7_isLoss_2 (lyx_is hy 4 13 rfl) (lyx_n hy 4 5 rfl) hv5107 (by decide) ew5106 ?_
  refine WP_istore_n (ls' := [(0, _), (1, _), (2, _)]) dX7_isLoss_3 (by decide) rfl ?_
  refine WP_aload_n dX7_isLoss_4 rfl ?_
  refine WQ_iconst (0) (0) dX7_isLoss_5 rfl rfl (fun v5109 hv5109 => ?_)
  refine WQ_ialdm (z := 0) dX7_isLoss_6 (lyx_is hy 4 13 rfl) (lyx_n hy 4 5 rfl) hv5109 (by decide) ew5105 ?_
  refine WQ_bipush (7) (7) dX7_isLoss_7 rfl rfl (fun v5111 hv5111 => ?_)
  refine WQ_imulk (7) dX7_isLoss_9 hv5111 (by omega) (by omega) (fun v5112 hv5112 => ?_)
  refine WP_iload_n dX7_isLoss_10 rfl ?_
  refine WQ_iadd dX7_isLoss_11 (by omega) (by omega) (fun v5113 hv5113 => ?_)
  refine WP_istore_n (ls' := [(0, _), (1, _), (2, _), (3, _)]) dX7_isLoss_12 (by decide) rfl ?_
  refine WP_aload_n dX7_isLoss_13 rfl ?_
  refine WP_getr dX7_isLoss_14 fX7_30 rfl (lyx_is hy 6 7 rfl) (rfx hr 6 11 13 (by decide)) ?_
  refine WP_iload_n dX7_isLoss_17 rfl ?_
  refine WQ_iald dX7_isLoss_18 (lyx_is hy 13 13 rfl) (lyx_n hy 13 28 rfl) (by omega) (by omega) (fun q hq => BT_get hI.1 13 0 28 (-1) (0) (2) (by decide) q (Nat.zero_le _) hq) (fun v5114 av5114 bv5114 ev5114 => ?_)
  clear ev5114
  refine WP_aload_n dX7_isLoss_19 rfl ?_
  refine WQ_iconst (1) (1) dX7_isLoss_20 rfl rfl (fun v5115 hv5115 => ?_)
  refine WQ_iald dX7_isLoss_21 (lyx_is hy 4 13 rfl) (lyx_n hy 4 5 rfl) (by omega) (by omega) (fun q hq => BT_get hI.1 4 0 5 (0) (0) (1000) (by decide) q (Nat.zero_le _) hq) (fun v5116 av5116 bv5116 ev5116 => ?_)
  clear ev5116
  refine WQ_icmp_ne 37 dX7_isLoss_22 rfl (fun c5116 => ?_) (fun c5116 => ?_)
  · refine WQ_iconst (1) (1) dX7_isLoss_37 rfl rfl (fun v5118 hv5118 => ?_)
    exact WP_zret dX7_isLoss_38 rfl (nar_z (by omega)) ⟨⟨rfl, rfl, rfl⟩, _, rfl, by omega, by omega⟩
  · refine WP_aload_n dX7_isLoss_25 rfl ?_
    refine WP_getr dX7_isLoss_26 fX7_33 rfl (lyx_is hy 6 7 rfl) (rfx hr 6 12 14 (by decide)) ?_
    refine WP_iload_n dX7_isLoss_29 rfl ?_
    refine WQ_iald dX7_isLoss_30 (lyx_is hy 14 13 rfl) (lyx_n hy 14 28 rfl) (by omega) (by omega) (fun q hq => BT_get hI.1 14 0 28 (0) (0) (3) (by decide) q (Nat.zero_le _) hq) (fun v5119 av5119 bv5119 ev5119 => ?_)
    clear ev5119
    refine WP_aload_n dX7_isLoss_31 rfl ?_
    refine WQ_iconst (3) (3) dX7_isLoss_32 rfl rfl (fun v5120 hv5120 => ?_)
    refine WQ_iald dX7_isLoss_33 (lyx_is hy 4 13 rfl) (lyx_n hy 4 5 rfl) (by omega) (by omega) (fun q hq => BT_get hI.1 4 0 5 (0) (0) (1000) (by decide) q (Nat.zero_le _) hq) (fun v5121 av5121 bv5121 ev5121 => ?_)
    clear ev5121
    refine WQ_icmp_ge 39 dX7_isLoss_34 rfl (fun c5121 => ?_) (fun c5121 => ?_)
    · refine WP_aload_n dX7_isLoss_39 rfl ?_
      refine WP_getr dX7_isLoss_40 fX7_36 rfl (lyx_is hy 6 7 rfl) (rfx hr 6 13 15 (by decide)) ?_
      refine WP_iload_n dX7_isLoss_43 rfl ?_
      refine WQ_iald dX7_isLoss_44 (lyx_is hy 15 13 rfl) (lyx_n hy 15 28 rfl) (by omega) (by omega) (fun q hq => BT_get hI.1 15 0 28 (0) (0) (99) (by decide) q (Nat.zero_le _) hq) (fun v5123 av5123 bv5123 ev5123 => ?_)
      clear ev5123
      refine WP_istore (ls' := [(0, _), (1, _), (2, _), (3, _), (4, _)]) dX7_isLoss_45 (by decide) rfl ?_
      refine WP_aload_n dX7_isLoss_47 rfl ?_
      refine WQ_iconst (4) (4) dX7_isLoss_48 rfl rfl (fun v5124 hv5124 => ?_)
      refine WQ_iald dX7_isLoss_49 (lyx_is hy 4 13 rfl) (lyx_n hy 4 5 rfl) (by omega) (by omega) (fun q hq => BT_get hI.1 4 0 5 (0) (0) (1000) (by decide) q (Nat.zero_le _) hq) (fun v5125 av5125 bv5125 ev5125 => ?_)
      clear ev5125
      refine WP_istore (ls' := [(0, _), (1, _), (2, _), (3, _), (4, _), (5, _)]) dX7_isLoss_50 (by decide) rfl ?_
      refine WP_aload_n dX7_isLoss_52 rfl ?_
      refine WP_getr dX7_isLoss_53 fX7_9 rfl (lyx_is hy 6 7 rfl) (rfx hr 6 5 7 (by decide)) ?_
      refine WP_iload_n dX7_isLoss_56 rfl ?_
      refine WQ_iald dX7_isLoss_57 (lyx_is hy 7 13 rfl) (lyx_n hy 7 7 rfl) (by omega) (by omega) (fun q hq => BT_get hI.1 7 0 7 (0) (0) (900) (by decide) q (Nat.zero_le _) hq) (fun v5126 av5126 bv5126 ev5126 => ?_)
      clear ev5126
      have jn88_5137 : ∀ (v5137 : Int32), 0 ≤ v5137.toInt → v5137.toInt ≤ 1 → WP g mX7_isLoss 88 [(0, .ref (ad g 6)), (1, .ref (ad g 4)), (2, .int w5106), (3, .int v5113), (4, .int v5123), (5, .int v5125)] [.int v5137] I J R (fun r I' J' R' => (I' = I ∧ J' = J ∧ R' = R) ∧ ∃ v : Int32, r = some (.int v) ∧ 0 ≤ v.toInt ∧ v.toInt ≤ 1) := by
        intro v5137 av5137 bv5137
        refine WP_istore (ls' := [(0, _), (1, _), (2, _), (3, _), (4, _), (5, _), (6, _)]) dX7_isLoss_88 (by decide) rfl ?_
        refine WP_iload dX7_isLoss_90 rfl ?_
        refine WP_iload dX7_isLoss_92 rfl ?_
        have jn107_5143 : ∀ (v5143 : Int32), 0 ≤ v5143.toInt → v5143.toInt ≤ 1 → WP g mX7_isLoss 107 [(0, .ref (ad g 6)), (1, .ref (ad g 4)), (2, .int w5106), (3, .int v5113), (4, .int v5123), (5, .int v5125), (6, .int v5137)] [.int v5143] I J R (fun r I' J' R' => (I' = I ∧ J' = J ∧ R' = R) ∧ ∃ v : Int32, r = some (.int v) ∧ 0 ≤ v.toInt ∧ v.toInt ≤ 1) := by
          intro v5143 av5143 bv5143
          exact WP_zret dX7_isLoss_107 rfl (nar_z (by omega)) ⟨⟨rfl, rfl, rfl⟩, _, rfl, by omega, by omega⟩
        refine WQ_icmp_ge 106 dX7_isLoss_94 rfl (fun c5144 => ?_) (fun c5144 => ?_)
        · refine WQ_iconst (0) (0) dX7_isLoss_106 rfl rfl (fun v5146 hv5146 => ?_)
          exact WP_sub (fc rfl (fc rfl (fc rfl (fc rfl (fc rfl (fc rfl (fc rfl fn))))))) (jn107_5143 v5146 (by omega) (by omega))
        · refine WP_iload dX7_isLoss_97 rfl ?_
          refine WQ_if_ne 106 dX7_isLoss_99 rfl (fun c5146 => ?_) (fun c5146 => ?_)
          · refine WQ_iconst (0) (0) dX7_isLoss_106 rfl rfl (fun v5148 hv5148 => ?_)
            exact WP_sub (fc rfl (fc rfl (fc rfl (fc rfl (fc rfl (fc rfl (fc rfl fn))))))) (jn107_5143 v5148 (by omega) (by omega))
          · refine WQ_iconst (1) (1) dX7_isLoss_102 rfl rfl (fun v5149 hv5149 => ?_)
            refine WP_goto 107 dX7_isLoss_103 rfl ?_
            exact WP_sub (fc rfl (fc rfl (fc rfl (fc rfl (fc rfl (fc rfl (fc rfl fn))))))) (jn107_5143 v5149 (by omega) (by omega))
      refine WQ_if_le 87 dX7_isLoss_58 rfl (fun c5149 => ?_) (fun c5149 => ?_)
      · refine WQ_iconst (0) (0) dX7_isLoss_87 rfl rfl (fun v5151 hv5151 => ?_)
        exact WP_sub (fc rfl (fc rfl (fc rfl (fc rfl (fc rfl (fc rfl fn)))))) (jn88_5137 v5151 (by omega) (by omega))
      · refine WP_iload dX7_isLoss_61 rfl ?_
        refine WQ_sipush (1000) (1000) dX7_isLoss_63 rfl rfl (fun v5152 hv5152 => ?_)
        refine WQ_imulk (1000) dX7_isLoss_66 hv5152 (by omega) (by omega) (fun v5153 hv5153 => ?_)
        refine WP_iload dX7_isLoss_67 rfl ?_
        refine WQ_sipush (1000) (1000) dX7_isLoss_69 rfl rfl (fun v5154 hv5154 => ?_)
        refine WP_aload_n dX7_isLoss_72 rfl ?_
        refine WP_getr dX7_isLoss_73 fX7_9 rfl (lyx_is hy 6 7 rfl) (rfx hr 6 5 7 (by decide)) ?_
        refine WP_iload_n dX7_isLoss_76 rfl ?_
        refine WQ_iald dX7_isLoss_77 (lyx_is hy 7 13 rfl) (lyx_n hy 7 7 rfl) (by omega) (by omega) (fun q hq => BT_get hI.1 7 0 7 (0) (0) (900) (by decide) q (Nat.zero_le _) hq) (fun v5155 av5155 bv5155 ev5155 => ?_)
        clear ev5155
        refine WQ_isub dX7_isLoss_78 (by omega) (by omega) (fun v5156 hv5156 => ?_)
        refine WQ_imulb (1000) (1000) dX7_isLoss_79 ⟨by omega, by omega⟩ ⟨by omega, by omega⟩ (by decide) (fun v5157 pv5157 av5157 bv5157 cv5157 => ?_)
        refine WQ_icmp_lt 87 dX7_isLoss_80 rfl (fun c5157 => ?_) (fun c5157 => ?_)
        · refine WQ_iconst (0) (0) dX7_isLoss_87 rfl rfl (fun v5159 hv5159 => ?_)
          exact WP_sub (fc rfl (fc rfl (fc rfl (fc rfl (fc rfl (fc rfl fn)))))) (jn88_5137 v5159 (by omega) (by omega))
        · refine WQ_iconst (1) (1) dX7_isLoss_83 rfl rfl (fun v5160 hv5160 => ?_)
          refine WP_goto 88 dX7_isLoss_84 rfl ?_
          exact WP_sub (fc rfl (fc rfl (fc rfl (fc rfl (fc rfl (fc rfl fn)))))) (jn88_5137 v5160 (by omega) (by omega))
    · refine WQ_iconst (1) (1) dX7_isLoss_37 rfl rfl (fun v5161 hv5161 => ?_)
      exact WP_zret dX7_isLoss_38 rfl (nar_z (by omega)) ⟨⟨rfl, rfl, rfl⟩, _, rfl, by omega, by omega⟩
set_option maxHeartbeats 4000000 in
set_option maxRecDepth 100000 in
theorem sx_isLoss_27 {g : GG} {n : Int} {L : Int32} (hy : LyX g)  {I : pI} {J : pJ} {R : pR} (hr : RfX g R) (hI : XI g n L I)   (hb : (I (ad g 4) 0).toInt ≤ 3 ∧ (I (ad g 4) 2).toInt ≤ 6) : SP g mX7_isLoss [.ref (ad g 27), .ref (ad g 4)] I J R (fun r I' J' R' => (I' = I ∧ J' = J ∧ R' = R) ∧ ∃ v : Int32, r = some (.int v) ∧ 0 ≤ v.toInt ∧ v.toInt ≤ 1) := by
  refine SP_of ⟨by decide, rfl⟩ (Nat.le_of_ble_eq_true rfl) ?_
  have e5162 : I (ad g 1) 1 = L := hI.2
  have b5163 := BT_get hI.1 1 1 2 (0) (0) (900) (by decide) 1 (by decide) (by decide)
  rw [e5162] at b5163
  obtain ⟨w5164, ew5164⟩ : ∃ w : Int32, I (ad g 4) 0 = w := ⟨_, rfl⟩
  have bw5164 := BT_get hI.1 4 0 5 (0) (0) (1000) (by decide) 0 (by decide) (by decide)
  rw [ew5164] at bw5164
  obtain ⟨w5165, ew5165⟩ : ∃ w : Int32, I (ad g 4) 2 = w := ⟨_, rfl⟩
  have bw5165 := BT_get hI.1 4 0 5 (0) (0) (1000) (by decide) 2 (by decide) (by decide)
  rw [ew5165] at bw5165
  rw [ew5164, ew5165] at hb
  refine WP_aload_n dX7_isLoss_0 rfl ?_
  refine WQ_iconst (2) (2) dX7_isLoss_1 rfl rfl (fun v5166 hv5166 => ?_)
  refine WQ_ialdm (z := 2) dX7_isLoss_2 (lyx_is hy 4 13 rfl) (lyx_n hy 4 5 rfl) hv5166 (by decide) ew5165 ?_
  refine WP_istore_n (ls' := [(0, _), (1, _), (2, _)]) dX7_isLoss_3 (by decide) rfl ?_
  refine WP_aload_n dX7_isLoss_4 rfl ?_
  refine WQ_iconst (0) (0) dX7_isLoss_5 rfl rfl (fun v5168 hv5168 => ?_)
  refine WQ_ialdm (z := 0) dX7_isLoss_6 (lyx_is hy 4 13 rfl) (lyx_n hy 4 5 rfl) hv5168 (by decide) ew5164 ?_
  refine WQ_bipush (7) (7) dX7_isLoss_7 rfl rfl (fun v5170 hv5170 => ?_)
  refine WQ_imulk (7) dX7_isLoss_9 hv5170 (by omega) (by omega) (fun v5171 hv5171 => ?_)
  refine WP_iload_n dX7_isLoss_10 rfl ?_
  refine WQ_iadd dX7_isLoss_11 (by omega) (by omega) (fun v5172 hv5172 => ?_)
  refine WP_istore_n (ls' := [(0, _), (1, _), (2, _), (3, _)]) dX7_isLoss_12 (by decide) rfl ?_
  refine WP_aload_n dX7_isLoss_13 rfl ?_
  refine WP_getr dX7_isLoss_14 fX7_30 rfl (lyx_is hy 27 7 rfl) (rfx hr 27 11 34 (by decide)) ?_
  refine WP_iload_n dX7_isLoss_17 rfl ?_
  refine WQ_iald dX7_isLoss_18 (lyx_is hy 34 13 rfl) (lyx_n hy 34 28 rfl) (by omega) (by omega) (fun q hq => BT_get hI.1 34 0 28 (-1) (0) (2) (by decide) q (Nat.zero_le _) hq) (fun v5173 av5173 bv5173 ev5173 => ?_)
  clear ev5173
  refine WP_aload_n dX7_isLoss_19 rfl ?_
  refine WQ_iconst (1) (1) dX7_isLoss_20 rfl rfl (fun v5174 hv5174 => ?_)
  refine WQ_iald dX7_isLoss_21 (lyx_is hy 4 13 rfl) (lyx_n hy 4 5 rfl) (by omega) (by omega) (fun q hq => BT_get hI.1 4 0 5 (0) (0) (1000) (by decide) q (Nat.zero_le _) hq) (fun v5175 av5175 bv5175 ev5175 => ?_)
  clear ev5175
  refine WQ_icmp_ne 37 dX7_isLoss_22 rfl (fun c5175 => ?_) (fun c5175 => ?_)
  · refine WQ_iconst (1) (1) dX7_isLoss_37 rfl rfl (fun v5177 hv5177 => ?_)
    exact WP_zret dX7_isLoss_38 rfl (nar_z (by omega)) ⟨⟨rfl, rfl, rfl⟩, _, rfl, by omega, by omega⟩
  · refine WP_aload_n dX7_isLoss_25 rfl ?_
    refine WP_getr dX7_isLoss_26 fX7_33 rfl (lyx_is hy 27 7 rfl) (rfx hr 27 12 35 (by decide)) ?_
    refine WP_iload_n dX7_isLoss_29 rfl ?_
    refine WQ_iald dX7_isLoss_30 (lyx_is hy 35 13 rfl) (lyx_n hy 35 28 rfl) (by omega) (by omega) (fun q hq => BT_get hI.1 35 0 28 (0) (0) (3) (by decide) q (Nat.zero_le _) hq) (fun v5178 av5178 bv5178 ev5178 => ?_)
    clear ev5178
    refine WP_aload_n dX7_isLoss_31 rfl ?_
    refine WQ_iconst (3) (3) dX7_isLoss_32 rfl rfl (fun v5179 hv5179 => ?_)
    refine WQ_iald dX7_isLoss_33 (lyx_is hy 4 13 rfl) (lyx_n hy 4 5 rfl) (by omega) (by omega) (fun q hq => BT_get hI.1 4 0 5 (0) (0) (1000) (by decide) q (Nat.zero_le _) hq) (fun v5180 av5180 bv5180 ev5180 => ?_)
    clear ev5180
    refine WQ_icmp_ge 39 dX7_isLoss_34 rfl (fun c5180 => ?_) (fun c5180 => ?_)
    · refine WP_aload_n dX7_isLoss_39 rfl ?_
      refine WP_getr dX7_isLoss_40 fX7_36 rfl (lyx_is hy 27 7 rfl) (rfx hr 27 13 36 (by decide)) ?_
      refine WP_iload_n dX7_isLoss_43 rfl ?_
      refine WQ_iald dX7_isLoss_44 (lyx_is hy 36 13 rfl) (lyx_n hy 36 28 rfl) (by omega) (by omega) (fun q hq => BT_get hI.1 36 0 28 (0) (0) (99) (by decide) q (Nat.zero_le _) hq) (fun v5182 av5182 bv5182 ev5182 => ?_)
      clear ev5182
      refine WP_istore (ls' := [(0, _), (1, _), (2, _), (3, _), (4, _)]) dX7_isLoss_45 (by decide) rfl ?_
      refine WP_aload_n dX7_isLoss_47 rfl ?_
      refine WQ_iconst (4) (4) dX7_isLoss_48 rfl rfl (fun v5183 hv5183 => ?_)
      refine WQ_iald dX7_isLoss_49 (lyx_is hy 4 13 rfl) (lyx_n hy 4 5 rfl) (by omega) (by omega) (fun q hq => BT_get hI.1 4 0 5 (0) (0) (1000) (by decide) q (Nat.zero_le _) hq) (fun v5184 av5184 bv5184 ev5184 => ?_)
      clear ev5184
      refine WP_istore (ls' := [(0, _), (1, _), (2, _), (3, _), (4, _), (5, _)]) dX7_isLoss_50 (by decide) rfl ?_
      refine WP_aload_n dX7_isLoss_52 rfl ?_
      refine WP_getr dX7_isLoss_53 fX7_9 rfl (lyx_is hy 27 7 rfl) (rfx hr 27 5 28 (by decide)) ?_
      refine WP_iload_n dX7_isLoss_56 rfl ?_
      refine WQ_iald dX7_isLoss_57 (lyx_is hy 28 13 rfl) (lyx_n hy 28 7 rfl) (by omega) (by omega) (fun q hq => BT_get hI.1 28 0 7 (0) (0) (900) (by decide) q (Nat.zero_le _) hq) (fun v5185 av5185 bv5185 ev5185 => ?_)
      clear ev5185
      have jn88_5196 : ∀ (v5196 : Int32), 0 ≤ v5196.toInt → v5196.toInt ≤ 1 → WP g mX7_isLoss 88 [(0, .ref (ad g 27)), (1, .ref (ad g 4)), (2, .int w5165), (3, .int v5172), (4, .int v5182), (5, .int v5184)] [.int v5196] I J R (fun r I' J' R' => (I' = I ∧ J' = J ∧ R' = R) ∧ ∃ v : Int32, r = some (.int v) ∧ 0 ≤ v.toInt ∧ v.toInt ≤ 1) := by
        intro v5196 av5196 bv5196
        refine WP_istore (ls' := [(0, _), (1, _), (2, _), (3, _), (4, _), (5, _), (6, _)]) dX7_isLoss_88 (by decide) rfl ?_
        refine WP_iload dX7_isLoss_90 rfl ?_
        refine WP_iload dX7_isLoss_92 rfl ?_
        have jn107_5202 : ∀ (v5202 : Int32), 0 ≤ v5202.toInt → v5202.toInt ≤ 1 → WP g mX7_isLoss 107 [(0, .ref (ad g 27)), (1, .ref (ad g 4)), (2, .int w5165), (3, .int v5172), (4, .int v5182), (5, .int v5184), (6, .int v5196)] [.int v5202] I J R (fun r I' J' R' => (I' = I ∧ J' = J ∧ R' = R) ∧ ∃ v : Int32, r = some (.int v) ∧ 0 ≤ v.toInt ∧ v.toInt ≤ 1) := by
          intro v5202 av5202 bv5202
          exact WP_zret dX7_isLoss_107 rfl (nar_z (by omega)) ⟨⟨rfl, rfl, rfl⟩, _, rfl, by omega, by omega⟩
        refine WQ_icmp_ge 106 dX7_isLoss_94 rfl (fun c5203 => ?_) (fun c5203 => ?_)
        · refine WQ_iconst (0) (0) dX7_isLoss_106 rfl rfl (fun v5205 hv5205 => ?_)
          exact WP_sub (fc rfl (fc rfl (fc rfl (fc rfl (fc rfl (fc rfl (fc rfl fn))))))) (jn107_5202 v5205 (by omega) (by omega))
        · refine WP_iload dX7_isLoss_97 rfl ?_
          refine WQ_if_ne 106 dX7_isLoss_99 rfl (fun c5205 => ?_) (fun c5205 => ?_)
          · refine WQ_iconst (0) (0) dX7_isLoss_106 rfl rfl (fun v5207 hv5207 => ?_)
            exact WP_sub (fc rfl (fc rfl (fc rfl (fc rfl (fc rfl (fc rfl (fc rfl fn))))))) (jn107_5202 v5207 (by omega) (by omega))
          · refine WQ_iconst (1) (1) dX7_isLoss_102 rfl rfl (fun v5208 hv5208 => ?_)
            refine WP_goto 107 dX7_isLoss_103 rfl ?_
            exact WP_sub (fc rfl (fc rfl (fc rfl (fc rfl (fc rfl (fc rfl (fc rfl fn))))))) (jn107_5202 v5208 (by omega) (by omega))
      refine WQ_if_le 87 dX7_isLoss_58 rfl (fun c5208 => ?_) (fun c5208 => ?_)
      · refine WQ_iconst (0) (0) dX7_isLoss_87 rfl rfl (fun v5210 hv5210 => ?_)
        exact WP_sub (fc rfl (fc rfl (fc rfl (fc rfl (fc rfl (fc rfl fn)))))) (jn88_5196 v5210 (by omega) (by omega))
      · refine WP_iload dX7_isLoss_61 rfl ?_
        refine WQ_sipush (1000) (1000) dX7_isLoss_63 rfl rfl (fun v5211 hv5211 => ?_)
        refine WQ_imulk (1000) dX7_isLoss_66 hv5211 (by omega) (by omega) (fun v5212 hv5212 => ?_)
        refine WP_iload dX7_isLoss_67 rfl ?_
        refine WQ_sipush (1000) (1000) dX7_isLoss_69 rfl rfl (fun v5213 hv5213 => ?_)
        refine WP_aload_n dX7_isLoss_72 rfl ?_
        refine WP_getr dX7_isLoss_73 fX7_9 rfl (lyx_is hy 27 7 rfl) (rfx hr 27 5 28 (by decide)) ?_
        refine WP_iload_n dX7_isLoss_76 rfl ?_
        refine WQ_iald dX7_isLoss_77 (lyx_is hy 28 13 rfl) (lyx_n hy 28 7 rfl) (by omega) (by omega) (fun q hq => BT_get hI.1 28 0 7 (0) (0) (900) (by decide) q (Nat.zero_le _) hq) (fun v5214 av5214 bv5214 ev5214 => ?_)
        clear ev5214
        refine WQ_isub dX7_isLoss_78 (by omega) (by omega) (fun v5215 hv5215 => ?_)
        refine WQ_imulb (1000) (1000) dX7_isLoss_79 ⟨by omega, by omega⟩ ⟨by omega, by omega⟩ (by decide) (fun v5216 pv5216 av5216 bv5216 cv5216 => ?_)
        refine WQ_icmp_lt 87 dX7_isLoss_80 rfl (fun c5216 => ?_) (fun c5216 => ?_)
        · refine WQ_iconst (0) (0) dX7_isLoss_87 rfl rfl (fun v5218 hv5218 => ?_)
          exact WP_sub (fc rfl (fc rfl (fc rfl (fc rfl (fc rfl (fc rfl fn)))))) (jn88_5196 v5218 (by omega) (by omega))
        · refine WQ_iconst (1) (1) dX7_isLoss_83 rfl rfl (fun v5219 hv5219 => ?_)
          refine WP_goto 88 dX7_isLoss_84 rfl ?_
          exact WP_sub (fc rfl (fc rfl (fc rfl (fc rfl (fc rfl (fc rfl fn)))))) (jn88_5196 v5219 (by omega) (by omega))
    · refine WQ_iconst (1) (1) dX7_isLoss_37 rfl rfl (fun v5220 hv5220 => ?_)
      exact WP_zret dX7_isLoss_38 rfl (nar_z (by omega)) ⟨⟨rfl, rfl, rfl⟩, _, rfl, by omega, by omega⟩
