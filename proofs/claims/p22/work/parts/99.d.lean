set_option maxHeartbeats 4000000 in
set_option maxRecDepth 100000 in
theorem sx_passDay_53_6 {g : GG} {n : Int} {L : Int32} (hy : LyX g)  {I : pI} {J : pJ} {R : pR} (hr : RfX g R) (hP : NL g R) (hT : R (ad g 5) 0 = some (ad g 6)) (hI : XI g n L I) (bo : Int32) (bo_lo : 0 ≤ bo.toInt) (bo_hi : bo.toInt ≤ 1) (hn : 0 ≤ n ∧ n ≤ 40000) (hb : (I (ad g 53) 1).toInt ≤ 23760 * n + 0 - 23760 ∧ 0 ≤ (I (ad g 53) 0).toInt ∧ (I (ad g 53) 0).toInt ≤ 40000) : SP g mX9_passDay [.ref (ad g 49), .ref (ad g 53), .int bo] I J R (fun r I' J' R' => (XI g n L I' ∧ (RfX g R' ∧ (R' (ad g 5) 0 = R (ad g 5) 0 ∧ R' (ad g 0) 10 = R (ad g 0) 10) ∧ NL g R') ∧ fz 74 g [43, 44, 47, 48, 50, 51, 52, 53, 55] I I' ∧ fz 74 g [45, 46, 53] J J' ∧ ((I' (ad g 53) 1).toInt ≤ (I (ad g 53) 1).toInt + 23760 ∧ (I' (ad g 53) 0).toInt = (I (ad g 53) 0).toInt + 1)) ∧ r = none) := by
  refine SP_of ⟨by decide, rfl⟩ (Nat.le_of_ble_eq_true rfl) ?_
  have e14902 : I (ad g 1) 1 = L := hI.2
  have b14903 := BT_get hI.1 1 1 2 (0) (0) (900) (by decide) 1 (by decide) (by decide)
  rw [e14902] at b14903
  have fr0 : fz 74 g [43, 44, 47, 48, 50, 51, 52, 53, 55] I I := fz_rf
  have frj0 : fz 74 g [45, 46, 53] J J := fz_rf
  obtain ⟨w14904, ew14904⟩ : ∃ w : Int32, I (ad g 53) 1 = w := ⟨_, rfl⟩
  have bw14904 := BT_get hI.1 53 1 2 (0) (23760) (0) (by decide) 1 (by decide) (by decide)
  rw [ew14904] at bw14904
  obtain ⟨w14905, ew14905⟩ : ∃ w : Int32, I (ad g 53) 0 = w := ⟨_, rfl⟩
  rw [ew14904, ew14905] at hb
  refine WP_aload_n dX9_passDay_0 rfl ?_
  refine WQ_getim dX9_passDay_1 fX9_33 rfl (lyx_is hy 53 4 rfl) ew14905 ?_
  refine WQ_bipush (7) (7) dX9_passDay_4 rfl rfl (fun v14906 hv14906 => ?_)
  refine WQ_floorMod dX9_passDay_6 lX9_39 ⟨by decide, Nat.le_of_ble_eq_true rfl⟩ hv14906 (fun v14907 av14907 bv14907 => ?_)
  refine WP_istore_n (ls' := [(0, _), (1, _), (2, _), (3, _)]) dX9_passDay_9 (by decide) rfl ?_
  refine WP_iload_n dX9_passDay_10 rfl ?_
  refine WQ_if_ne 19 dX9_passDay_11 rfl (fun c14907 => ?_) (fun c14907 => ?_)
  · refine WQ_iconst (0) (0) dX9_passDay_19 rfl rfl (fun v14909 hv14909 => ?_)
    refine WP_istore (ls' := [(0, _), (1, _), (2, _), (3, _), (4, _)]) dX9_passDay_20 (by decide) rfl ?_
    have lp22_14914 : ∀ (mz : Nat) (i14910 : Int32) (I14911 : pI) (J14912 : pJ) (RI14911 : pR), RfX g RI14911 → RI14911 (ad g 5) 0 = some (ad g 6) → RI14911 (ad g 0) 10 = R (ad g 0) 10 → NL g RI14911 → XI g n L I14911 → fz 74 g [43, 44, 47, 48, 50, 51, 52, 53, 55] I I14911 → fz 74 g [45, 46, 53] J J14912 → ∀ (w14913 : Int32), I14911 (ad g 53) 1 = w14913 → ∀ (w14914 : Int32), I14911 (ad g 53) 0 = w14914 → 0 ≤ i14910.toInt → i14910.toInt ≤ 3 → w14913.toInt ≤ w14904.toInt → w14914.toInt = w14905.toInt → (4 - i14910.toInt).toNat < mz → WP g mX9_passDay 22 [(0, .ref (ad g 49)), (1, .ref (ad g 53)), (2, .int bo), (3, .int v14907), (4, .int i14910)] [] I14911 J14912 RI14911 (fun r I' J' R' => (XI g n L I' ∧ (RfX g R' ∧ (R' (ad g 5) 0 = R (ad g 5) 0 ∧ R' (ad g 0) 10 = R (ad g 0) 10) ∧ NL g R') ∧ fz 74 g [43, 44, 47, 48, 50, 51, 52, 53, 55] I I' ∧ fz 74 g [45, 46, 53] J J' ∧ ((I' (ad g 53) 1).toInt ≤ (I (ad g 53) 1).toInt + 23760 ∧ (I' (ad g 53) 0).toInt = (I (ad g 53) 0).toInt + 1)) ∧ r = none) := by
      intro mz
      induction mz with
      | zero =>
        intro i14910 I14911 J14912 RI14911 hrI14911 hTI14911 hSI14911 hPI14911 hI14911 fiI14911 fjJ14912 w14913 ew14913 w14914 ew14914 ai14910 bi14910 j0_I14911 j1_I14911 hmlp22_14914
        exact absurd hmlp22_14914 (Nat.not_lt_zero _)
      | succ mz ihlp22_14914 =>
        intro i14910 I14911 J14912 RI14911 hrI14911 hTI14911 hSI14911 hPI14911 hI14911 fiI14911 fjJ14912 w14913 ew14913 w14914 ew14914 ai14910 bi14910 j0_I14911 j1_I14911 hmlp22_14914
        have bw14913 := BT_get hI14911.1 53 1 2 (0) (23760) (0) (by decide) 1 (by decide) (by decide)
        rw [ew14913] at bw14913
        have e14916 : I14911 (ad g 1) 1 = L := hI14911.2
        have b14917 := BT_get hI14911.1 1 1 2 (0) (0) (900) (by decide) 1 (by decide) (by decide)
        rw [e14916] at b14917
        refine WP_iload dX9_passDay_22 rfl ?_
        refine WQ_iconst (3) (3) dX9_passDay_24 rfl rfl (fun v14918 hv14918 => ?_)
        refine WQ_icmp_ge 78 dX9_passDay_25 rfl (fun c14918 => ?_) (fun c14918 => ?_)
        · refine WQ_iconst (0) (0) dX9_passDay_78 rfl rfl (fun v14920 hv14920 => ?_)
          refine WP_istore (ls' := [(0, _), (1, _), (2, _), (3, _), (4, _)]) dX9_passDay_79 (by decide) rfl ?_
          have lp81_14925 : ∀ (mz : Nat) (i14921 : Int32) (I14922 : pI) (J14923 : pJ) (RI14922 : pR), RfX g RI14922 → RI14922 (ad g 5) 0 = some (ad g 6) → RI14922 (ad g 0) 10 = R (ad g 0) 10 → NL g RI14922 → XI g n L I14922 → fz 74 g [43, 44, 47, 48, 50, 51, 52, 53, 55] I I14922 → fz 74 g [45, 46, 53] J J14923 → ∀ (w14924 : Int32), I14922 (ad g 53) 1 = w14924 → ∀ (w14925 : Int32), I14922 (ad g 53) 0 = w14925 → 0 ≤ i14921.toInt → i14921.toInt ≤ 4 → w14924.toInt ≤ w14904.toInt + 5940 * i14921.toInt → w14925.toInt = w14905.toInt → (5 - i14921.toInt).toNat < mz → WP g mX9_passDay 81 [(0, .ref (ad g 49)), (1, .ref (ad g 53)), (2, .int bo), (3, .int v14907), (4, .int i14921)] [] I14922 J14923 RI14922 (fun r I' J' R' => (XI g n L I' ∧ (RfX g R' ∧ (R' (ad g 5) 0 = R (ad g 5) 0 ∧ R' (ad g 0) 10 = R (ad g 0) 10) ∧ NL g R') ∧ fz 74 g [43, 44, 47, 48, 50, 51, 52, 53, 55] I I' ∧ fz 74 g [45, 46, 53] J J' ∧ ((I' (ad g 53) 1).toInt ≤ (I (ad g 53) 1).toInt + 23760 ∧ (I' (ad g 53) 0).toInt = (I (ad g 53) 0).toInt + 1)) ∧ r = none) := by
            intro mz
            induction mz with
            | zero =>
              intro i14921 I14922 J14923 RI14922 hrI14922 hTI14922 hSI14922 hPI14922 hI14922 fiI14922 fjJ14923 w14924 ew14924 w14925 ew14925 ai14921 bi14921 j0_I14922 j1_I14922 hmlp81_14925
              exact absurd hmlp81_14925 (Nat.not_lt_zero _)
            | succ mz ihlp81_14925 =>
              intro i14921 I14922 J14923 RI14922 hrI14922 hTI14922 hSI14922 hPI14922 hI14922 fiI14922 fjJ14923 w14924 ew14924 w14925 ew14925 ai14921 bi14921 j0_I14922 j1_I14922 hmlp81_14925
              have bw14924 := BT_get hI14922.1 53 1 2 (0) (23760) (0) (by decide) 1 (by decide) (by decide)
              rw [ew14924] at bw14924
              have e14927 : I14922 (ad g 1) 1 = L := hI14922.2
              have b14928 := BT_get hI14922.1 1 1 2 (0) (0) (900) (by decide) 1 (by decide) (by decide)
              rw [e14927] at b14928
              refine WP_iload dX9_passDay_81 rfl ?_
              refine WP_aload_n dX9_passDay_83 rfl ?_
              refine WP_getr dX9_passDay_84 fX9_25 rfl (lyx_is hy 49 9 rfl) (rfx hrI14922 49 2 5 (by decide)) ?_
              refine WP_getr dX9_passDay_87 fX9_49 rfl (lyx_is hy 5 0 rfl) hTI14922 ?_
              refine WQ_geti dX9_passDay_90 fX9_61 rfl (lyx_is hy 6 7 rfl) (BT_get hI14922.1 6 1 2 (0) (0) (4) (by decide) 1 (by decide) (by decide)) (fun v14929 ev14929 av14929 bv14929 => ?_)
              refine WQ_icmp_ge 110 dX9_passDay_93 rfl (fun c14929 => ?_) (fun c14929 => ?_)
              · refine WP_aload_n dX9_passDay_110 rfl ?_
                refine WP_dup dX9_passDay_111 rfl ?_
                refine WQ_getim dX9_passDay_112 fX9_33 rfl (lyx_is hy 53 4 rfl) ew14925 ?_
                refine WQ_iconst (1) (1) dX9_passDay_115 rfl rfl (fun v14931 hv14931 => ?_)
                refine WQ_iadd dX9_passDay_116 (by omega) (by omega) (fun v14932 hv14932 => ?_)
                refine WQ_puti dX9_passDay_117 fX9_33 rfl rfl (lyx_is hy 53 4 rfl) (fun I14933 eI14933 => ?_)
                have hI14933 : XI g n L I14933 := by rw [eI14933]; exact (xi_f0 hy hI14922 (c := 53) (by decide) (Or.inl (by decide)) (by decide))
                have e14934 : I14933 (ad g 53) 1 = w14924 := by rw [eI14933, pp_ne _ _ (Or.inr (by decide))]; exact ew14924
                have e14935 : I14933 (ad g 1) 1 = L := by rw [eI14933, pp_ne _ _ (Or.inl (lyx_ne hy (by decide) (by decide) (by decide)))]; exact e14927
                have e14936 : I14933 (ad g 6) 1 = v14929 := by rw [eI14933, pp_ne _ _ (Or.inl (lyx_ne hy (by decide) (by decide) (by decide)))]; exact ev14929
                have e14937 : I14933 (ad g 53) 0 = v14932 := by rw [eI14933, pp_self]
                have fr14938 : fz 74 g [43, 44, 47, 48, 50, 51, 52, 53, 55] I I14933 := by rw [eI14933]; exact fzx_pp hy fiI14922 (by decide) (by decide)
                clear eI14933
                exact WP_vret dX9_passDay_120 rfl ⟨⟨hI14933, ⟨hrI14922, ⟨hTI14922.trans hT.symm, hSI14922⟩, hPI14922⟩, fr14938, fjJ14923, (by rw [e14934, ew14904, e14937, ew14905]; omega)⟩, rfl⟩
              · refine WP_aload_n dX9_passDay_96 rfl ?_
                refine WP_aload_n dX9_passDay_97 rfl ?_
                refine WP_iload dX9_passDay_98 rfl ?_
                refine WP_iload_n dX9_passDay_100 rfl ?_
                refine WP_callV3 (k := 9) dX9_passDay_101 ⟨⟨⟨by decide, by decide⟩, zX9_serve⟩, lX9_64, by decide, rfl, vX9_serve.1, vX9_serve.2⟩ (lyx_is hy 49 9 rfl) (sx_serve_53_6 hy hrI14922 hPI14922 hTI14922 hI14922 i14921 v14907 (by omega) (by omega) (by omega) (by omega) (by omega) (by rw [ew14924]; omega)) (Nat.le_of_ble_eq_true rfl) ?_
                intro r I14939 J14940 R14941 hq
                obtain ⟨⟨hI14939, ⟨hrI14939, ⟨htI14939, hsI14939⟩, hpI14939⟩, fiI14939, fjI14939, ⟨pI14939, sI14939_53_0⟩⟩, rfl⟩ := hq
                have ht_I14939 := htI14939.trans hTI14922
                have hs_I14939 : R14941 (ad g 0) 10 = R (ad g 0) 10 := hsI14939.trans hSI14922
                have fr14942 : fz 74 g [43, 44, 47, 48, 50, 51, 52, 53, 55] I I14939 := fz_tr fiI14922 (fz_mono fiI14939 (by decide))
                have fr14943 : fz 74 g [45, 46, 53] J J14940 := fz_tr fjJ14923 (fz_mono fjI14939 (by decide))
                have e14944 : I14939 (ad g 53) 0 = w14925 := by rw [sI14939_53_0]; exact ew14925
                have e14945 : I14939 (ad g 6) 1 = v14929 := by rw [fz_at fiI14939 6 (by decide) (by decide)]; exact ev14929
                have e14946 : I14939 (ad g 1) 1 = L := hI14939.2
                have b14947 := BT_get hI14939.1 1 1 2 (0) (0) (900) (by decide) 1 (by decide) (by decide)
                rw [e14946] at b14947
                obtain ⟨w14948, ew14948⟩ : ∃ w : Int32, I14939 (ad g 53) 1 = w := ⟨_, rfl⟩
                have bw14948 := BT_get hI14939.1 53 1 2 (0) (23760) (0) (by decide) 1 (by decide) (by decide)
                rw [ew14948] at bw14948
                rw [ew14948, ew14924] at pI14939
                refine WP_iinc (ls' := [(0, _), (1, _), (2, _), (3, _), (4, _)]) dX9_passDay_104 rfl (by decide) rfl ?_
                have hv14949 : (i14921 + Int32.ofInt (1)).toInt = i14921.toInt + (1) := ia_n rfl (by omega) (by omega)
                generalize i14921 + Int32.ofInt (1) = v14949 at hv14949 ⊢
                refine WP_goto 81 dX9_passDay_107 rfl ?_
                exact WP_sub (fc rfl (fc rfl (fc rfl (fc rfl (fc rfl fn))))) (ihlp81_14925 v14949 I14939 J14940 R14941 hrI14939 ht_I14939 hs_I14939 hpI14939 hI14939 fr14942 fr14943 w14948 ew14948 w14925 e14944 (by omega) (by omega) (by omega) (by omega) (by omega))
          exact WP_sub (fc rfl (fc rfl (fc rfl (fc rfl (fc rfl fn))))) (lp81_14925 _ v14920 I14911 J14912 RI14911 hrI14911 hTI14911 hSI14911 hPI14911 hI14911 fiI14911 fjJ14912 w14913 ew14913 w14914 ew14914 (by omega) (by omega) (by omega) (by omega) (Nat.lt_succ_self _))
        · refine WP_aload_n dX9_passDay_28 rfl ?_
          refine WP_getr dX9_passDay_29 fX9_25 rfl (lyx_is hy 49 9 rfl) (rfx hrI14911 49 2 5 (by decide)) ?_
          refine WP_getr dX9_passDay_32 fX9_49 rfl (lyx_is hy 5 0 rfl) hTI14911 ?_
          refine WP_getr dX9_passDay_35 fX9_55 rfl (lyx_is hy 6 7 rfl) (rfx hrI14911 6 17 19 (by decide)) ?_
          refine WP_iload dX9_passDay_38 rfl ?_
          refine WQ_bipush (7) (7) dX9_passDay_40 rfl rfl (fun v14950 hv14950 => ?_)
          refine WQ_imulk (7) dX9_passDay_42 hv14950 (by omega) (by omega) (fun v14951 hv14951 => ?_)
          refine WP_iload_n dX9_passDay_43 rfl ?_
          refine WQ_iadd dX9_passDay_44 (by omega) (by omega) (fun v14952 hv14952 => ?_)
          refine WQ_iald dX9_passDay_45 (lyx_is hy 19 13 rfl) (lyx_n hy 19 21 rfl) (by omega) (by omega) (fun q hq => BT_get hI14911.1 19 0 21 (-1) (0) (999) (by decide) q (Nat.zero_le _) hq) (fun v14953 av14953 bv14953 ev14953 => ?_)
          clear ev14953
          refine WP_istore (ls' := [(0, _), (1, _), (2, _), (3, _), (4, _), (5, _)]) dX9_passDay_46 (by decide) rfl ?_
          refine WP_aload_n dX9_passDay_48 rfl ?_
          refine WP_getr dX9_passDay_49 fX9_22 rfl (lyx_is hy 49 9 rfl) (rfx hrI14911 49 4 52 (by decide)) ?_
          refine WP_iload dX9_passDay_52 rfl ?_
          refine WP_iload_n dX9_passDay_54 rfl ?_
          have jn71_14958 : ∀ (v14958 : Int32), 0 ≤ v14958.toInt → v14958.toInt ≤ 1000000 → WP g mX9_passDay 71 [(0, .ref (ad g 49)), (1, .ref (ad g 53)), (2, .int bo), (3, .int v14907), (4, .int i14910), (5, .int v14953)] [.int v14958, .int i14910, .ref (ad g 52)] I14911 J14912 RI14911 (fun r I' J' R' => (XI g n L I' ∧ (RfX g R' ∧ (R' (ad g 5) 0 = R (ad g 5) 0 ∧ R' (ad g 0) 10 = R (ad g 0) 10) ∧ NL g R') ∧ fz 74 g [43, 44, 47, 48, 50, 51, 52, 53, 55] I I' ∧ fz 74 g [45, 46, 53] J J' ∧ ((I' (ad g 53) 1).toInt ≤ (I (ad g 53) 1).toInt + 23760 ∧ (I' (ad g 53) 0).toInt = (I (ad g 53) 0).toInt + 1)) ∧ r = none) := by
            intro v14958 av14958 bv14958
            refine WQ_iast dX9_passDay_71 (lyx_is hy 52 13 rfl) (lyx_n hy 52 3 rfl) (by omega) (by omega) (fun I14960 eI14960 => ?_)
            have hI14960 : XI g n L I14960 := by rw [eI14960]; exact (xi_r hy hI14911 (c := 52) (0) (0) (1000000) (by decide) (Or.inl (by decide)) (by decide) (by omega) (by omega))
            have e14961 : I14960 (ad g 53) 1 = w14913 := by rw [eI14960, pp_ne _ _ (Or.inl (lyx_ne hy (by decide) (by decide) (by decide)))]; exact ew14913
            have e14962 : I14960 (ad g 53) 0 = w14914 := by rw [eI14960, pp_ne _ _ (Or.inl (lyx_ne hy (by decide) (by decide) (by decide)))]; exact ew14914
            have e14963 : I14960 (ad g 1) 1 = L := by rw [eI14960, pp_ne _ _ (Or.inl (lyx_ne hy (by decide) (by decide) (by decide)))]; exact e14916
            have fr14964 : fz 74 g [43, 44, 47, 48, 50, 51, 52, 53, 55] I I14960 := by rw [eI14960]; exact fzx_pp hy fiI14911 (by decide) (by decide)
            clear eI14960
            refine WP_iinc (ls' := [(0, _), (1, _), (2, _), (3, _), (4, _), (5, _)]) dX9_passDay_72 rfl (by decide) rfl ?_
            have hv14965 : (i14910 + Int32.ofInt (1)).toInt = i14910.toInt + (1) := ia_n rfl (by omega) (by omega)
            generalize i14910 + Int32.ofInt (1) = v14965 at hv14965 ⊢
            refine WP_goto 22 dX9_passDay_75 rfl ?_
            exact WP_sub (fc rfl (fc rfl (fc rfl (fc rfl (fc rfl fn))))) (ihlp22_14914 v14965 I14960 J14912 RI14911 hrI14911 hTI14911 hSI14911 hPI14911 hI14960 fr14964 fjJ14912 w14913 e14961 w14914 e14962 (by omega) (by omega) (by omega) (by omega) (by omega))
          refine WQ_if_eq 69 dX9_passDay_55 rfl (fun c14965 => ?_) (fun c14965 => ?_)
          · refine WP_ldc (1000000) dX9_passDay_69 kX9_60 ?_
            obtain ⟨v14967, hv14967, ev14967⟩ : ∃ v : Int32, v.toInt = 1000000 ∧ ((1000000) : Int32) = v := ⟨(1000000), rfl, rfl⟩
            rw [ev14967]; clear ev14967
            exact WP_sub (fc rfl (fc rfl (fc rfl (fc rfl (fc rfl (fc rfl fn)))))) (jn71_14958 v14967 (by omega) (by omega))
          · refine WP_iload dX9_passDay_58 rfl ?_
            refine WQ_iconst (-1) (-1) dX9_passDay_60 rfl rfl (fun v14968 hv14968 => ?_)
            refine WQ_icmp_eq 69 dX9_passDay_61 rfl (fun c14968 => ?_) (fun c14968 => ?_)
            · refine WP_ldc (1000000) dX9_passDay_69 kX9_60 ?_
              obtain ⟨v14970, hv14970, ev14970⟩ : ∃ v : Int32, v.toInt = 1000000 ∧ ((1000000) : Int32) = v := ⟨(1000000), rfl, rfl⟩
              rw [ev14970]; clear ev14970
              exact WP_sub (fc rfl (fc rfl (fc rfl (fc rfl (fc rfl (fc rfl fn)))))) (jn71_14958 v14970 (by omega) (by omega))
            · refine WP_iload dX9_passDay_64 rfl ?_
              refine WP_goto 71 dX9_passDay_66 rfl ?_
              exact WP_sub (fc rfl (fc rfl (fc rfl (fc rfl (fc rfl (fc rfl fn)))))) (jn71_14958 v14953 (by omega) (by omega))
    exact WP_sub (fc rfl (fc rfl (fc rfl (fc rfl (fc rfl fn))))) (lp22_14914 _ v14909 I J R hr hT rfl hP hI fr0 frj0 w14904 ew14904 w14905 ew14905 (by omega) (by omega) (by omega) (by omega) (Nat.lt_succ_self _))
  · refine WP_aload_n dX9_passDay_14 rfl ?_
    refine WP_aload_n dX9_passDay_15 rfl ?_
    refine WP_callV1 (k := 9) dX9_passDay_16 ⟨⟨⟨by decide, by decide⟩, zX9_openChest⟩, lX9_45, by decide, rfl, vX9_openChest.1, vX9_openChest.2⟩ (lyx_is hy 49 9 rfl) (sx_openChestf_53_6 hy hr hT hI   (by omega)) (Nat.le_of_ble_eq_true rfl) ?_
    intro r I14971 J14972 Ra hq
    obtain ⟨⟨hI14971, ec, fiI14971, fjI14971, ⟨pI14971, sI14971_53_0⟩⟩, rfl⟩ := hq
    rw [ec]
    clear ec Ra
    have fr14973 : fz 74 g [43, 44, 47, 48, 50, 51, 52, 53, 55] I I14971 := fz_tr fr0 (fz_mono fiI14971 (by decide))
    have fr14974 : fz 74 g [45, 46, 53] J J14972 := fz_tr frj0 (fz_mono fjI14971 (by decide))
    have e14975 : I14971 (ad g 53) 0 = w14905 := by rw [sI14971_53_0]; exact ew14905
    have e14976 : I14971 (ad g 1) 1 = L := hI14971.2
    have b14977 := BT_get hI14971.1 1 1 2 (0) (0) (900) (by decide) 1 (by decide) (by decide)
    rw [e14976] at b14977
    obtain ⟨w14978, ew14978⟩ : ∃ w : Int32, I14971 (ad g 53) 1 = w := ⟨_, rfl⟩
    have bw14978 := BT_get hI14971.1 53 1 2 (0) (23760) (0) (by decide) 1 (by decide) (by decide)
    rw [ew14978] at bw14978
    rw [ew14978, ew14904] at pI14971
    refine WQ_iconst (0) (0) dX9_passDay_19 rfl rfl (fun v14979 hv14979 => ?_)
    refine WP_istore (ls' := [(0, _), (1, _), (2, _), (3, _), (4, _)]) dX9_passDay_20 (by decide) rfl ?_
    have lp22_14984 : ∀ (mz : Nat) (i14980 : Int32) (I14981 : pI) (J14982 : pJ) (RI14981 : pR), RfX g RI14981 → RI14981 (ad g 5) 0 = some (ad g 6) → RI14981 (ad g 0) 10 = R (ad g 0) 10 → NL g RI14981 → XI g n L I14981 → fz 74 g [43, 44, 47, 48, 50, 51, 52, 53, 55] I I14981 → fz 74 g [45, 46, 53] J J14982 → ∀ (w14983 : Int32), I14981 (ad g 53) 1 = w14983 → ∀ (w14984 : Int32), I14981 (ad g 53) 0 = w14984 → 0 ≤ i14980.toInt → i14980.toInt ≤ 3 → w14983.toInt ≤ w14904.toInt → w14984.toInt = w14905.toInt → (4 - i14980.toInt).toNat < mz → WP g mX9_passDay 22 [(0, .ref (ad g 49)), (1, .ref (ad g 53)), (2, .int bo), (3, .int v14907), (4, .int i14980)] [] I14981 J14982 RI14981 (fun r I' J' R' => (XI g n L I' ∧ (RfX g R' ∧ (R' (ad g 5) 0 = R (ad g 5) 0 ∧ R' (ad g 0) 10 = R (ad g 0) 10) ∧ NL g R') ∧ fz 74 g [43, 44, 47, 48, 50, 51, 52, 53, 55] I I' ∧ fz 74 g [45, 46, 53] J J' ∧ ((I' (ad g 53) 1).toInt ≤ (I (ad g 53) 1).toInt + 23760 ∧ (I' (ad g 53) 0).toInt = (I (ad g 53) 0).toInt + 1)) ∧ r = none) := by
      intro mz
      induction mz with
      | zero =>
        intro i14980 I14981 J14982 RI14981 hrI14981 hTI14981 hSI14981 hPI14981 hI14981 fiI14981 fjJ14982 w14983 ew14983 w14984 ew14984 ai14980 bi14980 j0_I14981 j1_I14981 hmlp22_14984
        exact absurd hmlp22_14984 (Nat.not_lt_zero _)
      | succ mz ihlp22_14984 =>
        intro i14980 I14981 J14982 RI14981 hrI14981 hTI14981 hSI14981 hPI14981 hI14981 fiI14981 fjJ14982 w14983 ew14983 w14984 ew14984 ai14980 bi14980 j0_I14981 j1_I14981 hmlp22_14984
        have bw14983 := BT_get hI14981.1 53 1 2 (0) (23760) (0) (by decide) 1 (by decide) (by decide)
        rw [ew14983] at bw14983
        have e14986 : I14981 (ad g 1) 1 = L := hI14981.2
        have b14987 := BT_get hI14981.1 1 1 2 (0) (0) (900) (by decide) 1 (by decide) (by decide)
        rw [e14986] at b14987
        refine WP_iload dX9_passDay_22 rfl ?_
        refine WQ_iconst (3) (3) dX9_passDay_24 rfl rfl (fun v14988 hv14988 => ?_)
        refine WQ_icmp_ge 78 dX9_passDay_25 rfl (fun c14988 => ?_) (fun c14988 => ?_)
        · refine WQ_iconst (0) (0) dX9_passDay_78 rfl rfl (fun v14990 hv14990 => ?_)
          refine WP_istore (ls' := [(0, _), (1, _), (2, _), (3, _), (4, _)]) dX9_passDay_79 (by decide) rfl ?_
          have lp81_14995 : ∀ (mz : Nat) (i14991 : Int32) (I14992 : pI) (J14993 : pJ) (RI14992 : pR), RfX g RI14992 → RI14992 (ad g 5) 0 = some (ad g 6) → RI14992 (ad g 0) 10 = R (ad g 0) 10 → NL g RI14992 → XI g n L I14992 → fz 74 g [43, 44, 47, 48, 50, 51, 52, 53, 55] I I14992 → fz 74 g [45, 46, 53] J J14993 → ∀ (w14994 : Int32), I14992 (ad g 53) 1 = w14994 → ∀ (w14995 : Int32), I14992 (ad g 53) 0 = w14995 → 0 ≤ i14991.toInt → i14991.toInt ≤ 4 → w14994.toInt ≤ w14904.toInt + 5940 * i14991.toInt → w14995.toInt = w14905.toInt → (5 - i14991.toInt).toNat < mz → WP g mX9_passDay 81 [(0, .ref (ad g 49)), (1, .ref (ad g 53)), (2, .int bo), (3, .int v14907), (4, .int i14991)] [] I14992 J14993 RI14992 (fun r I' J' R' => (XI g n L I' ∧ (RfX g R' ∧ (R' (ad g 5) 0 = R (ad g 5) 0 ∧ R' (ad g 0) 10 = R (ad g 0) 10) ∧ NL g R') ∧ fz 74 g [43, 44, 47, 48, 50, 51, 52, 53, 55] I I' ∧ fz 74 g [45, 46, 53] J J' ∧ ((I' (ad g 53) 1).toInt ≤ (I (ad g 53) 1).toInt + 23760 ∧ (I' (ad g 53) 0).toInt = (I (ad g 53) 0).toInt + 1)) ∧ r = none) := by
            intro mz
            induction mz with
            | zero =>
              intro i14991 I14992 J14993 RI14992 hrI14992 hTI14992 hSI14992 hPI14992 hI14992 fiI14992 fjJ14993 w14994 ew14994 w14995 ew14995 ai14991 bi14991 j0_I14992 j1_I14992 hmlp81_14995
              exact absurd hmlp81_14995 (Nat.not_lt_zero _)
            | succ mz ihlp81_14995 =>
              intro i14991 I14992 J14993 RI14992 hrI14992 hTI14992 hSI14992 hPI14992 hI14992 fiI14992 fjJ14993 w14994 ew14994 w14995 ew14995 ai14991 bi14991 j0_I14992 j1_I14992 hmlp81_14995
              have bw14994 := BT_get hI14992.1 53 1 2 (0) (23760) (0) (by decide) 1 (by decide) (by decide)
              rw [ew14994] at bw14994
              have e14997 : I14992 (ad g 1) 1 = L := hI14992.2
              have b14998 := BT_get hI14992.1 1 1 2 (0) (0) (900) (by decide) 1 (by decide) (by decide)
              rw [e14997] at b14998
              refine WP_iload dX9_passDay_81 rfl ?_
              refine WP_aload_n dX9_passDay_83 rfl ?_
              refine WP_getr dX9_passDay_84 fX9_25 rfl (lyx_is hy 49 9 rfl) (rfx hrI14992 49 2 5 (by decide)) ?_
              refine WP_getr dX9_passDay_87 fX9_49 rfl (lyx_is hy 5 0 rfl) hTI14992 ?_
              refine WQ_geti dX9_passDay_90 fX9_61 rfl (lyx_is hy 6 7 rfl) (BT_get hI14992.1 6 1 2 (0) (0) (4) (by decide) 1 (by decide) (by decide)) (fun v14999 ev14999 av14999 bv14999 => ?_)
              refine WQ_icmp_ge 110 dX9_passDay_93 rfl (fun c14999 => ?_) (fun c14999 => ?_)
              · refine WP_aload_n dX9_passDay_110 rfl ?_
                refine WP_dup dX9_passDay_111 rfl ?_
                refine WQ_getim dX9_passDay_112 fX9_33 rfl (lyx_is hy 53 4 rfl) ew14995 ?_
                refine WQ_iconst (1) (1) dX9_passDay_115 rfl rfl (fun v15001 hv15001 => ?_)
                refine WQ_iadd dX9_passDay_116 (by omega) (by omega) (fun v15002 hv15002 => ?_)
                refine WQ_puti dX9_passDay_117 fX9_33 rfl rfl (lyx_is hy 53 4 rfl) (fun I15003 eI15003 => ?_)
                have hI15003 : XI g n L I15003 := by rw [eI15003]; exact (xi_f0 hy hI14992 (c := 53) (by decide) (Or.inl (by decide)) (by decide))
                have e15004 : I15003 (ad g 53) 1 = w14994 := by rw [eI15003, pp_ne _ _ (Or.inr (by decide))]; exact ew14994
                have e15005 : I15003 (ad g 1) 1 = L := by rw [eI15003, pp_ne _ _ (Or.inl (lyx_ne hy (by decide) (by decide) (by decide)))]; exact e14997
                have e15006 : I15003 (ad g 6) 1 = v14999 := by rw [eI15003, pp_ne _ _ (Or.inl (lyx_ne hy (by decide) (by decide) (by decide)))]; exact ev14999
                have e15007 : I15003 (ad g 53) 0 = v15002 := by rw [eI15003, pp_self]
                have fr15008 : fz 74 g [43, 44, 47, 48, 50, 51, 52, 53, 55] I I15003 := by rw [eI15003]; exact fzx_pp hy fiI14992 (by decide) (by decide)
                clear eI15003
                exact WP_vret dX9_passDay_120 rfl ⟨⟨hI15003, ⟨hrI14992, ⟨hTI14992.trans hT.symm, hSI14992⟩, hPI14992⟩, fr15008, fjJ14993, (by rw [e15004, ew14904, e15007, ew14905]; omega)⟩, rfl⟩
              · refine WP_aload_n dX9_passDay_96 rfl ?_
                refine WP_aload_n dX9_passDay_97 rfl ?_
                refine WP_iload dX9_passDay_98 rfl ?_
                refine WP_iload_n dX9_passDay_100 rfl ?_
                refine WP_callV3 (k := 9) dX9_passDay_101 ⟨⟨⟨by decide, by decide⟩, zX9_serve⟩, lX9_64, by decide, rfl, vX9_serve.1, vX9_serve.2⟩ (lyx_is hy 49 9 rfl) (sx_serve_53_6 hy hrI14992 hPI14992 hTI14992 hI14992 i14991 v14907 (by omega) (by omega) (by omega) (by omega) (by omega) (by rw [ew14994]; omega)) (Nat.le_of_ble_eq_true rfl) ?_
                intro r I15009 J15010 R15011 hq
                obtain ⟨⟨hI15009, ⟨hrI15009, ⟨htI15009, hsI15009⟩, hpI15009⟩, fiI15009, fjI15009, ⟨pI15009, sI15009_53_0⟩⟩, rfl⟩ := hq
                have ht_I15009 := htI15009.trans hTI14992
                have hs_I15009 : R15011 (ad g 0) 10 = R (ad g 0) 10 := hsI15009.trans hSI14992
                have fr15012 : fz 74 g [43, 44, 47, 48, 50, 51, 52, 53, 55] I I15009 := fz_tr fiI14992 (fz_mono fiI15009 (by decide))
                have fr15013 : fz 74 g [45, 46, 53] J J15010 := fz_tr fjJ14993 (fz_mono fjI15009 (by decide))
                have e15014 : I15009 (ad g 53) 0 = w14995 := by rw [sI15009_53_0]; exact ew14995
                have e15015 : I15009 (ad g 6) 1 = v14999 := by rw [fz_at fiI15009 6 (by decide) (by decide)]; exact ev14999
                have e15016 : I15009 (ad g 1) 1 = L := hI15009.2
                have b15017 := BT_get hI15009.1 1 1 2 (0) (0) (900) (by decide) 1 (by decide) (by decide)
                rw [e15016] at b15017
                obtain ⟨w15018, ew15018⟩ : ∃ w : Int32, I15009 (ad g 53) 1 = w := ⟨_, rfl⟩
                have bw15018 := BT_get hI15009.1 53 1 2 (0) (23760) (0) (by decide) 1 (by decide) (by decide)
                rw [ew15018] at bw15018
                rw [ew15018, ew14994] at pI15009
                refine WP_iinc (ls' := [(0, _), (1, _), (2, _), (3, _), (4, _)]) dX9_passDay_104 rfl (by decide) rfl ?_
                have hv15019 : (i14991 + Int32.ofInt (1)).toInt = i14991.toInt + (1) := ia_n rfl (by omega) (by omega)
                generalize i14991 + Int32.ofInt (1) = v15019 at hv15019 ⊢
                refine WP_goto 81 dX9_passDay_107 rfl ?_
                exact WP_sub (fc rfl (fc rfl (fc rfl (fc rfl (fc rfl fn))))) (ihlp81_14995 v15019 I15009 J15010 R15011 hrI15009 ht_I15009 hs_I15009 hpI15009 hI15009 fr15012 fr15013 w15018 ew15018 w14995 e15014 (by omega) (by omega) (by omega) (by omega) (by omega))
          exact WP_sub (fc rfl (fc rfl (fc rfl (fc rfl (fc rfl fn))))) (lp81_14995 _ v14990 I14981 J14982 RI14981 hrI14981 hTI14981 hSI14981 hPI14981 hI14981 fiI14981 fjJ14982 w14983 ew14983 w14984 ew14984 (by omega) (by omega) (by omega) (by omega) (Nat.lt_succ_self _))
        · refine WP_aload_n dX9_passDay_28 rfl ?_
          refine WP_getr dX9_passDay_29 fX9_25 rfl (lyx_is hy 49 9 rfl) (rfx hrI14981 49 2 5 (by decide)) ?_
          refine WP_getr dX9_passDay_32 fX9_49 rfl (lyx_is hy 5 0 rfl) hTI14981 ?_
          refine WP_getr dX9_passDay_35 fX9_55 rfl (lyx_is hy 6 7 rfl) (rfx hrI14981 6 17 19 (by decide)) ?_
          refine WP_iload dX9_passDay_38 rfl ?_
          refine WQ_bipush (7) (7) dX9_passDay_40 rfl rfl (fun v15020 hv15020 => ?_)
          refine WQ_imulk (7) dX9_passDay_42 hv15020 (by omega) (by omega) (fun v15021 hv15021 => ?_)
          refine WP_iload_n dX9_passDay_43 rfl ?_
          refine WQ_iadd dX9_passDay_44 (by omega) (by omega) (fun v15022 hv15022 => ?_)
          refine WQ_iald dX9_passDay_45 (lyx_is hy 19 13 rfl) (lyx_n hy 19 21 rfl) (by omega) (by omega) (fun q hq => BT_get hI14981.1 19 0 21 (-1) (0) (999) (by decide) q (Nat.zero_le _) hq) (fun v15023 av15023 bv15023 ev15023 => ?_)
          clear ev15023
          refine WP_istore (ls' := [(0, _), (1, _), (2, _), (3, _), (4, _), (5, _)]) dX9_passDay_46 (by decide) rfl ?_
          refine WP_aload_n dX9_passDay_48 rfl ?_
          refine WP_getr dX9_passDay_49 fX9_22 rfl (lyx_is hy 49 9 rfl) (rfx hrI14981 49 4 52 (by decide)) ?_
          refine WP_iload dX9_passDay_52 rfl ?_
          refine WP_iload_n dX9_passDay_54 rfl ?_
          have jn71_15028 : ∀ (v15028 : Int32), 0 ≤ v15028.toInt → v15028.toInt ≤ 1000000 → WP g mX9_passDay 71 [(0, .ref (ad g 49)), (1, .ref (ad g 53)), (2, .int bo), (3, .int v14907), (4, .int i14980), (5, .int v15023)] [.int v15028, .int i14980, .ref (ad g 52)] I14981 J14982 RI14981 (fun r I' J' R' => (XI g n L I' ∧ (RfX g R' ∧ (R' (ad g 5) 0 = R (ad g 5) 0 ∧ R' (ad g 0) 10 = R (ad g 0) 10) ∧ NL g R') ∧ fz 74 g [43, 44, 47, 48, 50, 51, 52, 53, 55] I I' ∧ fz 74 g [45, 46, 53] J J' ∧ ((I' (ad g 53) 1).toInt ≤ (I (ad g 53) 1).toInt + 23760 ∧ (I' (ad g 53) 0).toInt = (I (ad g 53) 0).toInt + 1)) ∧ r = none) := by
            intro v15028 av15028 bv15028
            refine WQ_iast dX9_passDay_71 (lyx_is hy 52 13 rfl) (lyx_n hy 52 3 rfl) (by omega) (by omega) (fun I15030 eI15030 => ?_)
            have hI15030 : XI g n L I15030 := by rw [eI15030]; exact (xi_r hy hI14981 (c := 52) (0) (0) (1000000) (by decide) (Or.inl (by decide)) (by decide) (by omega) (by omega))
            have e15031 : I15030 (ad g 53) 1 = w14983 := by rw [eI15030, pp_ne _ _ (Or.inl (lyx_ne hy (by decide) (by decide) (by decide)))]; exact ew14983
            have e15032 : I15030 (ad g 53) 0 = w14984 := by rw [eI15030, pp_ne _ _ (Or.inl (lyx_ne hy (by decide) (by decide) (by decide)))]; exact ew14984
            have e15033 : I15030 (ad g 1) 1 = L := by rw [eI15030, pp_ne _ _ (Or.inl (lyx_ne hy (by decide) (by decide) (by decide)))]; exact e14986
            have fr15034 : fz 74 g [43, 44, 47, 48, 50, 51, 52, 53, 55] I I15030 := by rw [eI15030]; exact fzx_pp hy fiI14981 (by decide) (by decide)
            clear eI15030
            refine WP_iinc (ls' := [(0, _), (1, _), (2, _), (3, _), (4, _), (5, _)]) dX9_passDay_72 rfl (by decide) rfl ?_
            have hv15035 : (i14980 + Int32.ofInt (1)).toInt = i14980.toInt + (1) := ia_n rfl (by omega) (by omega)
            generalize i14980 + Int32.ofInt (1) = v15035 at hv15035 ⊢
            refine WP_goto 22 dX9_passDay_75 rfl ?_
            exact WP_sub (fc rfl (fc rfl (fc rfl (fc rfl (fc rfl fn))))) (ihlp22_14984 v15035 I15030 J14982 RI14981 hrI14981 hTI14981 hSI14981 hPI14981 hI15030 fr15034 fjJ14982 w14983 e15031 w14984 e15032 (by omega) (by omega) (by omega) (by omega) (by omega))
          refine WQ_if_eq 69 dX9_passDay_55 rfl (fun c15035 => ?_) (fun c15035 => ?_)
          · refine WP_ldc (1000000) dX9_passDay_69 kX9_60 ?_
            obtain ⟨v15037, hv15037, ev15037⟩ : ∃ v : Int32, v.toInt = 1000000 ∧ ((1000000) : Int32) = v := ⟨(1000000), rfl, rfl⟩
            rw [ev15037]; clear ev15037
            exact WP_sub (fc rfl (fc rfl (fc rfl (fc rfl (fc rfl (fc rfl fn)))))) (jn71_15028 v15037 (by omega) (by omega))
          · refine WP_iload dX9_passDay_58 rfl ?_
            refine WQ_iconst (-1) (-1) dX9_passDay_60 rfl rfl (fun v15038 hv15038 => ?_)
            refine WQ_icmp_eq 69 dX9_passDay_61 rfl (fun c15038 => ?_) (fun c15038 => ?_)
            · refine WP_ldc (1000000) dX9_passDay_69 kX9_60 ?_
              obtain ⟨v15040, hv15040, ev15040⟩ : ∃ v : Int32, v.toInt = 1000000 ∧ ((1000000) : Int32) = v := ⟨(1000000), rfl, rfl⟩
              rw [ev15040]; clear ev15040
              exact WP_sub (fc rfl (fc rfl (fc rfl (fc rfl (fc rfl (fc rfl fn)))))) (jn71_15028 v15040 (by omega) (by omega))
            · refine WP_iload dX9_passDay_64 rfl ?_
              refine WP_goto 71 dX9_passDay_66 rfl ?_
              exact WP_sub (fc rfl (fc rfl (fc rfl (fc rfl (fc rfl (fc rfl fn)))))) (jn71_15028 v15023 (by omega) (by omega))
    exact WP_sub (fc rfl (fc rfl (fc rfl (fc rfl (fc rfl fn))))) (lp22_14984 _ v14979 I14971 J14972 R hr hT rfl hP hI14971 fr14973 fr14974 w14978 ew14978 w14905 e14975 (by omega) (by omega) (by omega) (by omega) (Nat.lt_succ_self _))
set_option maxHeartbeats 4000000 in
set_option maxRecDepth 100000 in
theorem sx_passDay_53_27 {g : GG} {n : Int} {L : Int32} (hy : LyX g)  {I : pI} {J : pJ} {R : pR} (hr : RfX g R) (hP : NL g R) (hT : R (ad g 5) 0 = some (ad g 27)) (hI : XI g n L I) (bo : Int32) (bo_lo : 0 ≤ bo.toInt) (bo_hi : bo.toInt ≤ 1) (hn : 0 ≤ n ∧ n ≤ 40000) (hb : (I (ad g 53) 1).toInt ≤ 23760 * n + 0 - 23760 ∧ 0 ≤ (I (ad g 53) 0).toInt ∧ (I (ad g 53) 0).toInt ≤ 40000) : SP g mX9_passDay [.ref (ad g 49), .ref (ad g 53), .int bo] I J R (fun r I' J' R' => (XI g n L I' ∧ (RfX g R' ∧ (R' (ad g 5) 0 = R (ad g 5) 0 ∧ R' (ad g 0) 10 = R (ad g 0) 10) ∧ NL g R') ∧ fz 74 g [43, 44, 47, 48, 50, 51, 52, 53, 55] I I' ∧ fz 74 g [45, 46, 53] J J' ∧ ((I' (ad g 53) 1).toInt ≤ (I (ad g 53) 1).toInt + 23760 ∧ (I' (ad g 53) 0).toInt = (I (ad g 53) 0).toInt + 1)) ∧ r = none) := by
  refine SP_of ⟨by decide, rfl⟩ (Nat.le_of_ble_eq_true rfl) ?_
  have e15041 : I (ad g 1) 1 = L := hI.2
  have b15042 := BT_get hI.1 1 1 2 (0) (0) (900) (by decide) 1 (by decide) (by decide)
  rw [e15041] at b15042
  have fr0 : fz 74 g [43, 44, 47, 48, 50, 51, 52, 53, 55] I I := fz_rf
  have frj0 : fz 74 g [45, 46, 53] J J := fz_rf
  obtain ⟨w15043, ew15043⟩ : ∃ w : Int32, I (ad g 53) 1 = w := ⟨_, rfl⟩
  have bw15043 := BT_get hI.1 53 1 2 (0) (23760) (0) (by decide) 1 (by decide) (by decide)
  rw [ew15043] at bw15043
  obtain ⟨w15044, ew15044⟩ : ∃ w : Int32, I (ad g 53) 0 = w := ⟨_, rfl⟩
  rw [ew15043, ew15044] at hb
  refine WP_aload_n dX9_passDay_0 rfl ?_
  refine WQ_getim dX9_passDay_1 fX9_33 rfl (lyx_is hy 53 4 rfl) ew15044 ?_
  refine WQ_bipush (7) (7) dX9_passDay_4 rfl rfl (fun v15045 hv15045 => ?_)
  refine WQ_floorMod dX9_passDay_6 lX9_39 ⟨by decide, Nat.le_of_ble_eq_true rfl⟩ hv15045 (fun v15046 av15046 bv15046 => ?_)
  refine WP_istore_n (ls' := [(0, _), (1, _), (2, _), (3, _)]) dX9_passDay_9 (by decide) rfl ?_
  refine WP_iload_n dX9_passDay_10 rfl ?_
  refine WQ_if_ne 19 dX9_passDay_11 rfl (fun c15046 => ?_) (fun c15046 => ?_)
  · refine WQ_iconst (0) (0) dX9_passDay_19 rfl rfl (fun v15048 hv15048 => ?_)
    refine WP_istore (ls' := [(0, _), (1, _), (2, _), (3, _), (4, _)]) dX9_passDay_20 (by decide) rfl ?_
    have lp22_15053 : ∀ (mz : Nat) (i15049 : Int32) (I15050 : pI) (J15051 : pJ) (RI15050 : pR), RfX g RI15050 → RI15050 (ad g 5) 0 = some (ad g 27) → RI15050 (ad g 0) 10 = R (ad g 0) 10 → NL g RI15050 → XI g n L I15050 → fz 74 g [43, 44, 47, 48, 50, 51, 52, 53, 55] I I15050 → fz 74 g [45, 46, 53] J J15051 → ∀ (w15052 : Int32), I15050 (ad g 53) 1 = w15052 → ∀ (w15053 : Int32), I15050 (ad g 53) 0 = w15053 → 0 ≤ i15049.toInt → i15049.toInt ≤ 3 → w15052.toInt ≤ w15043.toInt → w15053.toInt = w15044.toInt → (4 - i15049.toInt).toNat < mz → WP g mX9_passDay 22 [(0, .ref (ad g 49)), (1, .ref (ad g 53)), (2, .int bo), (3, .int v15046), (4, .int i15049)] [] I15050 J15051 RI15050 (fun r I' J' R' => (XI g n L I' ∧ (RfX g R' ∧ (R' (ad g 5) 0 = R (ad g 5) 0 ∧ R' (ad g 0) 10 = R (ad g 0) 10) ∧ NL g R') ∧ fz 74 g [43, 44, 47, 48, 50, 51, 52, 53, 55] I I' ∧ fz 74 g [45, 46, 53] J J' ∧ ((I' (ad g 53) 1).toInt ≤ (I (ad g 53) 1).toInt + 23760 ∧ (I' (ad g 53) 0).toInt = (I (ad g 53) 0).toInt + 1)) ∧ r = none) := by
      intro mz
      induction mz with
      | zero =>
        intro i15049 I15050 J15051 RI15050 hrI15050 hTI15050 hSI15050 hPI15050 hI15050 fiI15050 fjJ15051 w15052 ew15052 w15053 ew15053 ai15049 bi15049 j0_I15050 j1_I15050 hmlp22_15053
        exact absurd hmlp22_15053 (Nat.not_lt_zero _)
      | succ mz ihlp22_15053 =>
        intro i15049 I15050 J15051 RI15050 hrI15050 hTI15050 hSI15050 hPI15050 hI15050 fiI15050 fjJ15051 w15052 ew15052 w15053 ew15053 ai15049 bi15049 j0_I15050 j1_I15050 hmlp22_15053
        have bw15052 := BT_get hI15050.1 53 1 2 (0) (23760) (0) (by decide) 1 (by decide) (by decide)
        rw [ew15052] at bw15052
        have e15055 : I15050 (ad g 1) 1 = L := hI15050.2
        have b15056 := BT_get hI15050.1 1 1 2 (0) (0) (900) (by decide) 1 (by decide) (by decide)
        rw [e15055] at b15056
        refine WP_iload dX9_passDay_22 rfl ?_
        refine WQ_iconst (3) (3) dX9_passDay_24 rfl rfl (fun v15057 hv15057 => ?_)
        refine WQ_icmp_ge 78 dX9_passDay_25 rfl (fun c15057 => ?_) (fun c15057 => ?_)
        · refine WQ_iconst (0) (0) dX9_passDay_78 rfl rfl (fun v15059 hv15059 => ?_)
          refine WP_istore (ls' := [(0, _), (1, _), (2, _), (3, _), (4, _)]) dX9_passDay_79 (by decide) rfl ?_
          have lp81_15064 : ∀ (mz : Nat) (i15060 : Int32) (I15061 : pI) (J15062 : pJ) (RI15061 : pR), RfX g RI15061 → RI15061 (ad g 5) 0 = some (ad g 27) → RI15061 (ad g 0) 10 = R (ad g 0) 10 → NL g RI15061 → XI g n L I15061 → fz 74 g [43, 44, 47, 48, 50, 51, 52, 53, 55] I I15061 → fz 74 g [45, 46, 53] J J15062 → ∀ (w15063 : Int32), I15061 (ad g 53) 1 = w15063 → ∀ (w15064 : Int32), I15061 (ad g 53) 0 = w15064 → 0 ≤ i15060.toInt → i15060.toInt ≤ 4 → w15063.toInt ≤ w15043.toInt + 5940 * i15060.toInt → w15064.toInt = w15044.toInt → (5 - i15060.toInt).toNat < mz → WP g mX9_passDay 81 [(0, .ref (ad g 49)), (1, .ref (ad g 53)), (2, .int bo), (3, .int v15046), (4, .int i15060)] [] I15061 J15062 RI15061 (fun r I' J' R' => (XI g n L I' ∧ (RfX g R' ∧ (R' (ad g 5) 0 = R (ad g 5) 0 ∧ R' (ad g 0) 10 = R (ad g 0) 10) ∧ NL g R') ∧ fz 74 g [43, 44, 47, 48, 50, 51, 52, 53, 55] I I' ∧ fz 74 g [45, 46, 53] J J' ∧ ((I' (ad g 53) 1).toInt ≤ (I (ad g 53) 1).toInt + 23760 ∧ (I' (ad g 53) 0).toInt = (I (ad g 53) 0).toInt + 1)) ∧ r = none) := by
            intro mz
            induction mz with
            | zero =>
              intro i15060 I15061 J15062 RI15061 hrI15061 hTI15061 hSI15061 hPI15061 hI15061 fiI15061 fjJ15062 w15063 ew15063 w15064 ew15064 ai15060 bi15060 j0_I15061 j1_I15061 hmlp81_15064
              exact absurd hmlp81_15064 (Nat.not_lt_zero _)
            | succ mz ihlp81_15064 =>
              intro i15060 I15061 J15062 RI15061 hrI15061 hTI15061 hSI15061 hPI15061 hI15061 fiI15061 fjJ15062 w15063 ew15063 w15064 ew15064 ai15060 bi15060 j0_I15061 j1_I15061 hmlp81_15064
              have bw15063 := BT_get hI15061.1 53 1 2 (0) (23760) (0) (by decide) 1 (by decide) (by decide)
              rw [ew15063] at bw15063
              have e15066 : I15061 (ad g 1) 1 = L := hI15061.2
              have b15067 := BT_get hI15061.1 1 1 2 (0) (0) (900) (by decide) 1 (by decide) (by decide)
              rw [e15066] at b15067
              refine WP_iload dX9_passDay_81 rfl ?_
              refine WP_aload_n dX9_passDay_83 rfl ?_
              refine WP_getr dX9_passDay_84 fX9_25 rfl (lyx_is hy 49 9 rfl) (rfx hrI15061 49 2 5 (by decide)) ?_
              refine WP_getr dX9_passDay_87 fX9_49 rfl (lyx_is hy 5 0 rfl) hTI15061 ?_
              refine WQ_geti dX9_passDay_90 fX9_61 rfl (lyx_is hy 27 7 rfl) (BT_get hI15061.1 27 1 2 (0) (0) (4) (by decide) 1 (by decide) (by decide)) (fun v15068 ev15068 av15068 bv15068 => ?_)
              refine WQ_icmp_ge 110 dX9_passDay_93 rfl (fun c15068 => ?_) (fun c15068 => ?_)
              · refine WP_aload_n dX9_passDay_110 rfl ?_
                refine WP_dup dX9_passDay_111 rfl ?_
                refine WQ_getim dX9_passDay_112 fX9_33 rfl (lyx_is hy 53 4 rfl) ew15064 ?_
                refine WQ_iconst (1) (1) dX9_passDay_115 rfl rfl (fun v15070 hv15070 => ?_)
                refine WQ_iadd dX9_passDay_116 (by omega) (by omega) (fun v15071 hv15071 => ?_)
                refine WQ_puti dX9_passDay_117 fX9_33 rfl rfl (lyx_is hy 53 4 rfl) (fun I15072 eI15072 => ?_)
                have hI15072 : XI g n L I15072 := by rw [eI15072]; exact (xi_f0 hy hI15061 (c := 53) (by decide) (Or.inl (by decide)) (by decide))
                have e15073 : I15072 (ad g 53) 1 = w15063 := by rw [eI15072, pp_ne _ _ (Or.inr (by decide))]; exact ew15063
                have e15074 : I15072 (ad g 1) 1 = L := by rw [eI15072, pp_ne _ _ (Or.inl (lyx_ne hy (by decide) (by decide) (by decide)))]; exact e15066
                have e15075 : I15072 (ad g 27) 1 = v15068 := by rw [eI15072, pp_ne _ _ (Or.inl (lyx_ne hy (by decide) (by decide) (by decide)))]; exact ev15068
                have e15076 : I15072 (ad g 53) 0 = v15071 := by rw [eI15072, pp_self]
                have fr15077 : fz 74 g [43, 44, 47, 48, 50, 51, 52, 53, 55] I I15072 := by rw [eI15072]; exact fzx_pp hy fiI15061 (by decide) (by decide)
                clear eI15072
                exact WP_vret dX9_passDay_120 rfl ⟨⟨hI15072, ⟨hrI15061, ⟨hTI15061.trans hT.symm, hSI15061⟩, hPI15061⟩, fr15077, fjJ15062, (by rw [e15073, ew15043, e15076, ew15044]; omega)⟩, rfl⟩
              · refine WP_aload_n dX9_passDay_96 rfl ?_
                refine WP_aload_n dX9_passDay_97 rfl ?_
                refine WP_iload dX9_passDay_98 rfl ?_
                refine WP_iload_n dX9_passDay_100 rfl ?_
                refine WP_callV3 (k := 9) dX9_passDay_101 ⟨⟨⟨by decide, by decide⟩, zX9_serve⟩, lX9_64, by decide, rfl, vX9_serve.1, vX9_serve.2⟩ (lyx_is hy 49 9 rfl) (sx_serve_53_27 hy hrI15061 hPI15061 hTI15061 hI15061 i15060 v15046 (by omega) (by omega) (by omega) (by omega) (by omega) (by rw [ew15063]; omega)) (Nat.le_of_ble_eq_true rfl) ?_
                intro r I15078 J15079 R15080 hq
                obtain ⟨⟨hI15078, ⟨hrI15078, ⟨htI15078, hsI15078⟩, hpI15078⟩, fiI15078, fjI15078, ⟨pI15078, sI15078_53_0⟩⟩, rfl⟩ := hq
                have ht_I15078 := htI15078.trans hTI15061
                have hs_I15078 : R15080 (ad g 0) 10 = R (ad g 0) 10 := hsI15078.trans hSI15061
                have fr15081 : fz 74 g [43, 44, 47, 48, 50, 51, 52, 53, 55] I I15078 := fz_tr fiI15061 (fz_mono fiI15078 (by decide))
                have fr15082 : fz 74 g [45, 46, 53] J J15079 := fz_tr fjJ15062 (fz_mono fjI15078 (by decide))
                have e15083 : I15078 (ad g 53) 0 = w15064 := by rw [sI15078_53_0]; exact ew15064
                have e15084 : I15078 (ad g 27) 1 = v15068 := by rw [fz_at fiI15078 27 (by decide) (by decide)]; exact ev15068
                have e15085 : I15078 (ad g 1) 1 = L := hI15078.2
                have b15086 := BT_get hI15078.1 1 1 2 (0) (0) (900) (by decide) 1 (by decide) (by decide)
                rw [e15085] at b15086
                obtain ⟨w15087, ew15087⟩ : ∃ w : Int32, I15078 (ad g 53) 1 = w := ⟨_, rfl⟩
                have bw15087 := BT_get hI15078.1 53 1 2 (0) (23760) (0) (by decide) 1 (by decide) (by decide)
                rw [ew15087] at bw15087
                rw [ew15087, ew15063] at pI15078
                refine WP_iinc (ls' := [(0, _), (1, _), (2, _), (3, _), (4, _)]) dX9_passDay_104 rfl (by decide) rfl ?_
                have hv15088 : (i15060 + Int32.ofInt (1)).toInt = i15060.toInt + (1) := ia_n rfl (by omega) (by omega)
                generalize i15060 + Int32.ofInt (1) = v15088 at hv15088 ⊢
                refine WP_goto 81 dX9_passDay_107 rfl ?_
                exact WP_sub (fc rfl (fc rfl (fc rfl (fc rfl (fc rfl fn))))) (ihlp81_15064 v15088 I15078 J15079 R15080 hrI15078 ht_I15078 hs_I15078 hpI15078 hI15078 fr15081 fr15082 w15087 ew15087 w15064 e15083 (by omega) (by omega) (by omega) (by omega) (by omega))
          exact WP_sub (fc rfl (fc rfl (fc rfl (fc rfl (fc rfl fn))))) (lp81_15064 _ v15059 I15050 J15051 RI15050 hrI15050 hTI15050 hSI15050 hPI15050 hI15050 fiI15050 fjJ15051 w15052 ew15052 w15053 ew15053 (by omega) (by omega) (by omega) (by omega) (Nat.lt_succ_self _))
        · refine WP_aload_n dX9_passDay_28 rfl ?_
          refine WP_getr dX9_passDay_29 fX9_25 rfl (lyx_is hy 49 9 rfl) (rfx hrI15050 49 2 5 (by decide)) ?_
          refine WP_getr dX9_passDay_32 fX9_49 rfl (lyx_is hy 5 0 rfl) hTI15050 ?_
          refine WP_getr dX9_passDay_35 fX9_55 rfl (lyx_is hy 27 7 rfl) (rfx hrI15050 27 17 40 (by decide)) ?_
          refine WP_iload dX9_passDay_38 rfl ?_
          refine WQ_bipush (7) (7) dX9_passDay_40 rfl rfl (fun v15089 hv15089 => ?_)
          refine WQ_imulk (7) dX9_passDay_42 hv15089 (by omega) (by omega) (fun v15090 hv15090 => ?_)
          refine WP_iload_n dX9_passDay_43 rfl ?_
          refine WQ_iadd dX9_passDay_44 (by omega) (by omega) (fun v15091 hv15091 => ?_)
          refine WQ_iald dX9_passDay_45 (lyx_is hy 40 13 rfl) (lyx_n hy 40 21 rfl) (by omega) (by omega) (fun q hq => BT_get hI15050.1 40 0 21 (-1) (0) (999) (by decide) q (Nat.zero_le _) hq) (fun v15092 av15092 bv15092 ev15092 => ?_)
          clear ev15092
          refine WP_istore (ls' := [(0, _), (1, _), (2, _), (3, _), (4, _), (5, _)]) dX9_passDay_46 (by decide) rfl ?_
          refine WP_aload_n dX9_passDay_48 rfl ?_
          refine WP_getr dX9_passDay_49 fX9_22 rfl (lyx_is hy 49 9 rfl) (rfx hrI15050 49 4 52 (by decide)) ?_
          refine WP_iload dX9_passDay_52 rfl ?_
          refine WP_iload_n dX9_passDay_54 rfl ?_
          have jn71_15097 : ∀ (v15097 : Int32), 0 ≤ v15097.toInt → v15097.toInt ≤ 1000000 → WP g mX9_passDay 71 [(0, .ref (ad g 49)), (1, .ref (ad g 53)), (2, .int bo), (3, .int v15046), (4, .int i15049), (5, .int v15092)] [.int v15097, .int i15049, .ref (ad g 52)] I15050 J15051 RI15050 (fun r I' J' R' => (XI g n L I' ∧ (RfX g R' ∧ (R' (ad g 5) 0 = R (ad g 5) 0 ∧ R' (ad g 0) 10 = R (ad g 0) 10) ∧ NL g R') ∧ fz 74 g [43, 44, 47, 48, 50, 51, 52, 53, 55] I I' ∧ fz 74 g [45, 46, 53] J J' ∧ ((I' (ad g 53) 1).toInt ≤ (I (ad g 53) 1).toInt + 23760 ∧ (I' (ad g 53) 0).toInt = (I (ad g 53) 0).toInt + 1)) ∧ r = none) := by
            intro v15097 av15097 bv15097
            refine WQ_iast dX9_passDay_71 (lyx_is hy 52 13 rfl) (lyx_n hy 52 3 rfl) (by omega) (by omega) (fun I15099 eI15099 => ?_)
            have hI15099 : XI g n L I15099 := by rw [eI15099]; exact (xi_r hy hI15050 (c := 52) (0) (0) (1000000) (by decide) (Or.inl (by decide)) (by decide) (by omega) (by omega))
            have e15100 : I15099 (ad g 53) 1 = w15052 := by rw [eI15099, pp_ne _ _ (Or.inl (lyx_ne hy (by decide) (by decide) (by decide)))]; exact ew15052
            have e15101 : I15099 (ad g 53) 0 = w15053 := by rw [eI15099, pp_ne _ _ (Or.inl (lyx_ne hy (by decide) (by decide) (by decide)))]; exact ew15053
            have e15102 : I15099 (ad g 1) 1 = L := by rw [eI15099, pp_ne _ _ (Or.inl (lyx_ne hy (by decide) (by decide) (by decide)))]; exact e15055
            have fr15103 : fz 74 g [43, 44, 47, 48, 50, 51, 52, 53, 55] I I15099 := by rw [eI15099]; exact fzx_pp hy fiI15050 (by decide) (by decide)
            clear eI15099
            refine WP_iinc (ls' := [(0, _), (1, _), (2, _), (3, _), (4, _), (5, _)]) dX9_passDay_72 rfl (by decide) rfl ?_
            have hv15104 : (i15049 + Int32.ofInt (1)).toInt = i15049.toInt + (1) := ia_n rfl (by omega) (by omega)
            generalize i15049 + Int32.ofInt (1) = v15104 at hv15104 ⊢
            refine WP_goto 22 dX9_passDay_75 rfl ?_
            exact WP_sub (fc rfl (fc rfl (fc rfl (fc rfl (fc rfl fn))))) (ihlp22_15053 v15104 I15099 J15051 RI15050 hrI15050 hTI15050 hSI15050 hPI15050 hI15099 fr15103 fjJ15051 w15052 e15100 w15053 e15101 (by omega) (by omega) (by omega) (by omega) (by omega))
          refine WQ_if_eq 69 dX9_passDay_55 rfl (fun c15104 => ?_) (fun c15104 => ?_)
          · refine WP_ldc (1000000) dX9_passDay_69 kX9_60 ?_
            obtain ⟨v15106, hv15106, ev15106⟩ : ∃ v : Int32, v.toInt = 1000000 ∧ ((1000000) : Int32) = v := ⟨(1000000), rfl, rfl⟩
            rw [ev15106]; clear ev15106
            exact WP_sub (fc rfl (fc rfl (fc rfl (fc rfl (fc rfl (fc rfl fn)))))) (jn71_15097 v15106 (by omega) (by omega))
          · refine WP_iload dX9_passDay_58 rfl ?_
            refine WQ_iconst (-1) (-1) dX9_passDay_60 rfl rfl (fun v15107 hv15107 => ?_)
            refine WQ_icmp_eq 69 dX9_passDay_61 rfl (fun c15107 => ?_) (fun c15107 => ?_)
            · refine WP_ldc (1000000) dX9_passDay_69 kX9_60 ?_
              obtain ⟨v15109, hv15109, ev15109⟩ : ∃ v : Int32, v.toInt = 1000000 ∧ ((1000000) : Int32) = v := ⟨(1000000), rfl, rfl⟩
              rw [ev15109]; clear ev15109
              exact WP_sub (fc rfl (fc rfl (fc rfl (fc rfl (fc rfl (fc rfl fn)))))) (jn71_15097 v15109 (by omega) (by omega))
            · refine WP_iload dX9_passDay_64 rfl ?_
              refine WP_goto 71 dX9_passDay_66 rfl ?_
              exact WP_sub (fc rfl (fc rfl (fc rfl (fc rfl (fc rfl (fc rfl fn)))))) (jn71_15097 v15092 (by omega) (by omega))
    exact WP_sub (fc rfl (fc rfl (fc rfl (fc rfl (fc rfl fn))))) (lp22_15053 _ v15048 I J R hr hT rfl hP hI fr0 frj0 w15043 ew15043 w15044 ew15044 (by omega) (by omega) (by omega) (by omega) (Nat.lt_succ_self _))
  · refine WP_aload_n dX9_passDay_14 rfl ?_
    refine WP_aload_n dX9_passDay_15 rfl ?_
    refine WP_callV1 (k := 9) dX9_passDay_16 ⟨⟨⟨by decide, by decide⟩, zX9_openChest⟩, lX9_45, by decide, rfl, vX9_openChest.1, vX9_openChest.2⟩ (lyx_is hy 49 9 rfl) (sx_openChestf_53_27 hy hr hT hI   (by omega)) (Nat.le_of_ble_eq_true rfl) ?_
    intro r I15110 J15111 Ra hq
    obtain ⟨⟨hI15110, ec, fiI15110, fjI15110, ⟨pI15110, sI15110_53_0⟩⟩, rfl⟩ := hq
    rw [ec]
    clear ec Ra
    have fr15112 : fz 74 g [43, 44, 47, 48, 50, 51, 52, 53, 55] I I15110 := fz_tr fr0 (fz_mono fiI15110 (by decide))
    have fr15113 : fz 74 g [45, 46, 53] J J15111 := fz_tr frj0 (fz_mono fjI15110 (by decide))
    have e15114 : I15110 (ad g 53) 0 = w15044 := by rw [sI15110_53_0]; exact ew15044
    have e15115 : I15110 (ad g 1) 1 = L := hI15110.2
    have b15116 := BT_get hI15110.1 1 1 2 (0) (0) (900) (by decide) 1 (by decide) (by decide)
    rw [e15115] at b15116
    obtain ⟨w15117, ew15117⟩ : ∃ w : Int32, I15110 (ad g 53) 1 = w := ⟨_, rfl⟩
    have bw15117 := BT_get hI15110.1 53 1 2 (0) (23760) (0) (by decide) 1 (by decide) (by decide)
    rw [ew15117] at bw15117
    rw [ew15117, ew15043] at pI15110
    refine WQ_iconst (0) (0) dX9_passDay_19 rfl rfl (fun v15118 hv15118 => ?_)
    refine WP_istore (ls' := [(0, _), (1, _), (2, _), (3, _), (4, _)]) dX9_passDay_20 (by decide) rfl ?_
    have lp22_15123 : ∀ (mz : Nat) (i15119 : Int32) (I15120 : pI) (J15121 : pJ) (RI15120 : pR), RfX g RI15120 → RI15120 (ad g 5) 0 = some (ad g 27) → RI15120 (ad g 0) 10 = R (ad g 0) 10 → NL g RI15120 → XI g n L I15120 → fz 74 g [43, 44, 47, 48, 50, 51, 52, 53, 55] I I15120 → fz 74 g [45, 46, 53] J J15121 → ∀ (w15122 : Int32), I15120 (ad g 53) 1 = w15122 → ∀ (w15123 : Int32), I15120 (ad g 53) 0 = w15123 → 0 ≤ i15119.toInt → i15119.toInt ≤ 3 → w15122.toInt ≤ w15043.toInt → w15123.toInt = w15044.toInt → (4 - i15119.toInt).toNat < mz → WP g mX9_passDay 22 [(0, .ref (ad g 49)), (1, .ref (ad g 53)), (2, .int bo), (3, .int v15046), (4, .int i15119)] [] I15120 J15121 RI15120 (fun r I' J' R' => (XI g n L I' ∧ (RfX g R' ∧ (R' (ad g 5) 0 = R (ad g 5) 0 ∧ R' (ad g 0) 10 = R (ad g 0) 10) ∧ NL g R') ∧ fz 74 g [43, 44, 47, 48, 50, 51, 52, 53, 55] I I' ∧ fz 74 g [45, 46, 53] J J' ∧ ((I' (ad g 53) 1).toInt ≤ (I (ad g 53) 1).toInt + 23760 ∧ (I' (ad g 53) 0).toInt = (I (ad g 53) 0).toInt + 1)) ∧ r = none) := by
      intro mz
      induction mz with
      | zero =>
        intro i15119 I15120 J15121 RI15120 hrI15120 hTI15120 hSI15120 hPI15120 hI15120 fiI15120 fjJ15121 w15122 ew15122 w15123 ew15123 ai15119 bi15119 j0_I15120 j1_I15120 hmlp22_15123
        exact absurd hmlp22_15123 (Nat.not_lt_zero _)
      | succ mz ihlp22_15123 =>
        intro i15119 I15120 J15121 RI15120 hrI15120 hTI15120 hSI15120 hPI15120 hI15120 fiI15120 fjJ15121 w15122 ew15122 w15123 ew15123 ai15119 bi15119 j0_I15120 j1_I15120 hmlp22_15123
        have bw15122 := BT_get hI15120.1 53 1 2 (0) (23760) (0) (by decide) 1 (by decide) (by decide)
        rw [ew15122] at bw15122
        have e15125 : I15120 (ad g 1) 1 = L := hI15120.2
        have b15126 := BT_get hI15120.1 1 1 2 (0) (0) (900) (by decide) 1 (by decide) (by decide)
        rw [e15125] at b15126
        refine WP_iload dX9_passDay_22 rfl ?_
        refine WQ_iconst (3) (3) dX9_passDay_24 rfl rfl (fun v15127 hv15127 => ?_)
        refine WQ_icmp_ge 78 dX9_passDay_25 rfl (fun c15127 => ?_) (fun c15127 => ?_)
        · refine WQ_iconst (0) (0) dX9_passDay_78 rfl rfl (fun v15129 hv15129 => ?_)
          refine WP_istore (ls' := [(0, _), (1, _), (2, _), (3, _), (4, _)]) dX9_passDay_79 (by decide) rfl ?_
          have lp81_15134 : ∀ (mz : Nat) (i15130 : Int32) (I15131 : pI) (J15132 : pJ) (RI15131 : pR), RfX g RI15131 → RI15131 (ad g 5) 0 = some (ad g 27) → RI15131 (ad g 0) 10 = R (ad g 0) 10 → NL g RI15131 → XI g n L I15131 → fz 74 g [43, 44, 47, 48, 50, 51, 52, 53, 55] I I15131 → fz 74 g [45, 46, 53] J J15132 → ∀ (w15133 : Int32), I15131 (ad g 53) 1 = w15133 → ∀ (w15134 : Int32), I15131 (ad g 53) 0 = w15134 → 0 ≤ i15130.toInt → i15130.toInt ≤ 4 → w15133.toInt ≤ w15043.toInt + 5940 * i15130.toInt → w15134.toInt = w15044.toInt → (5 - i15130.toInt).toNat < mz → WP g mX9_passDay 81 [(0, .ref (ad g 49)), (1, .ref (ad g 53)), (2, .int bo), (3, .int v15046), (4, .int i15130)] [] I15131 J15132 RI15131 (fun r I' J' R' => (XI g n L I' ∧ (RfX g R' ∧ (R' (ad g 5) 0 = R (ad g 5) 0 ∧ R' (ad g 0) 10 = R (ad g 0) 10) ∧ NL g R') ∧ fz 74 g [43, 44, 47, 48, 50, 51, 52, 53, 55] I I' ∧ fz 74 g [45, 46, 53] J J' ∧ ((I' (ad g 53) 1).toInt ≤ (I (ad g 53) 1).toInt + 23760 ∧ (I' (ad g 53) 0).toInt = (I (ad g 53) 0).toInt + 1)) ∧ r = none) := by
            intro mz
            induction mz with
            | zero =>
              intro i15130 I15131 J15132 RI15131 hrI15131 hTI15131 hSI15131 hPI15131 hI15131 fiI15131 fjJ15132 w15133 ew15133 w15134 ew15134 ai15130 bi15130 j0_I15131 j1_I15131 hmlp81_15134
              exact absurd hmlp81_15134 (Nat.not_lt_zero _)
            | succ mz ihlp81_15134 =>
              intro i15130 I15131 J15132 RI15131 hrI15131 hTI15131 hSI15131 hPI15131 hI15131 fiI15131 fjJ15132 w15133 ew15133 w15134 ew15134 ai15130 bi15130 j0_I15131 j1_I15131 hmlp81_15134
              have bw15133 := BT_get hI15131.1 53 1 2 (0) (23760) (0) (by decide) 1 (by decide) (by decide)
              rw [ew15133] at bw15133
              have e15136 : I15131 (ad g 1) 1 = L := hI15131.2
              have b15137 := BT_get hI15131.1 1 1 2 (0) (0) (900) (by decide) 1 (by decide) (by decide)
              rw [e15136] at b15137
              refine WP_iload dX9_passDay_81 rfl ?_
              refine WP_aload_n dX9_passDay_83 rfl ?_
              refine WP_getr dX9_passDay_84 fX9_25 rfl (lyx_is hy 49 9 rfl) (rfx hrI15131 49 2 5 (by decide)) ?_
              refine WP_getr dX9_passDay_87 fX9_49 rfl (lyx_is hy 5 0 rfl) hTI15131 ?_
              refine WQ_geti dX9_passDay_90 fX9_61 rfl (lyx_is hy 27 7 rfl) (BT_get hI15131.1 27 1 2 (0) (0) (4) (by decide) 1 (by decide) (by decide)) (fun v15138 ev15138 av15138 bv15138 => ?_)
              refine WQ_icmp_ge 110 dX9_passDay_93 rfl (fun c15138 => ?_) (fun c15138 => ?_)
              · refine WP_aload_n dX9_passDay_110 rfl ?_
                refine WP_dup dX9_passDay_111 rfl ?_
                refine WQ_getim dX9_passDay_112 fX9_33 rfl (lyx_is hy 53 4 rfl) ew15134 ?_
                refine WQ_iconst (1) (1) dX9_passDay_115 rfl rfl (fun v15140 hv15140 => ?_)
                refine WQ_iadd dX9_passDay_116 (by omega) (by omega) (fun v15141 hv15141 => ?_)
                refine WQ_puti dX9_passDay_117 fX9_33 rfl rfl (lyx_is hy 53 4 rfl) (fun I15142 eI15142 => ?_)
                have hI15142 : XI g n L I15142 := by rw [eI15142]; exact (xi_f0 hy hI15131 (c := 53) (by decide) (Or.inl (by decide)) (by decide))
                have e15143 : I15142 (ad g 53) 1 = w15133 := by rw [eI15142, pp_ne _ _ (Or.inr (by decide))]; exact ew15133
                have e15144 : I15142 (ad g 1) 1 = L := by rw [eI15142, pp_ne _ _ (Or.inl (lyx_ne hy (by decide) (by decide) (by decide)))]; exact e15136
                have e15145 : I15142 (ad g 27) 1 = v15138 := by rw [eI15142, pp_ne _ _ (Or.inl (lyx_ne hy (by decide) (by decide) (by decide)))]; exact ev15138
                have e15146 : I15142 (ad g 53) 0 = v15141 := by rw [eI15142, pp_self]
                have fr15147 : fz 74 g [43, 44, 47, 48, 50, 51, 52, 53, 55] I I15142 := by rw [eI15142]; exact fzx_pp hy fiI15131 (by decide) (by decide)
                clear eI15142
                exact WP_vret dX9_passDay_120 rfl ⟨⟨hI15142, ⟨hrI15131, ⟨hTI15131.trans hT.symm, hSI15131⟩, hPI15131⟩, fr15147, fjJ15132, (by rw [e15143, ew15043, e15146, ew15044]; omega)⟩, rfl⟩
              · refine WP_aload_n dX9_passDay_96 rfl ?_
                refine WP_aload_n dX9_passDay_97 rfl ?_
                refine WP_iload dX9_passDay_98 rfl ?_
                refine WP_iload_n dX9_passDay_100 rfl ?_
                refine WP_callV3 (k := 9) dX9_passDay_101 ⟨⟨⟨by decide, by decide⟩, zX9_serve⟩, lX9_64, by decide, rfl, vX9_serve.1, vX9_serve.2⟩ (lyx_is hy 49 9 rfl) (sx_serve_53_27 hy hrI15131 hPI15131 hTI15131 hI15131 i15130 v15046 (by omega) (by omega) (by omega) (by omega) (by omega) (by rw [ew15133]; omega)) (Nat.le_of_ble_eq_true rfl) ?_
                intro r I15148 J15149 R15150 hq
                obtain ⟨⟨hI15148, ⟨hrI15148, ⟨htI15148, hsI15148⟩, hpI15148⟩, fiI15148, fjI15148, ⟨pI15148, sI15148_53_0⟩⟩, rfl⟩ := hq
                have ht_I15148 := htI15148.trans hTI15131
                have hs_I15148 : R15150 (ad g 0) 10 = R (ad g 0) 10 := hsI15148.trans hSI15131
                have fr15151 : fz 74 g [43, 44, 47, 48, 50, 51, 52, 53, 55] I I15148 := fz_tr fiI15131 (fz_mono fiI15148 (by decide))
                have fr15152 : fz 74 g [45, 46, 53] J J15149 := fz_tr fjJ15132 (fz_mono fjI15148 (by decide))
                have e15153 : I15148 (ad g 53) 0 = w15134 := by rw [sI15148_53_0]; exact ew15134
                have e15154 : I15148 (ad g 27) 1 = v15138 := by rw [fz_at fiI15148 27 (by decide) (by decide)]; exact ev15138
                have e15155 : I15148 (ad g 1) 1 = L := hI15148.2
                have b15156 := BT_get hI15148.1 1 1 2 (0) (0) (900) (by decide) 1 (by decide) (by decide)
                rw [e15155] at b15156
                obtain ⟨w15157, ew15157⟩ : ∃ w : Int32, I15148 (ad g 53) 1 = w := ⟨_, rfl⟩
                have bw15157 := BT_get hI15148.1 53 1 2 (0) (23760) (0) (by decide) 1 (by decide) (by decide)
                rw [ew15157] at bw15157
                rw [ew15157, ew15133] at pI15148
                refine WP_iinc (ls' := [(0, _), (1, _), (2, _), (3, _), (4, _)]) dX9_passDay_104 rfl (by decide) rfl ?_
                have hv15158 : (i15130 + Int32.ofInt (1)).toInt = i15130.toInt + (1) := ia_n rfl (by omega) (by omega)
                generalize i15130 + Int32.ofInt (1) = v15158 at hv15158 ⊢
                refine WP_goto 81 dX9_passDay_107 rfl ?_
                exact WP_sub (fc rfl (fc rfl (fc rfl (fc rfl (fc rfl fn))))) (ihlp81_15134 v15158 I15148 J15149 R15150 hrI15148 ht_I15148 hs_I15148 hpI15148 hI15148 fr15151 fr15152 w15157 ew15157 w15134 e15153 (by omega) (by omega) (by omega) (by omega) (by omega))
          exact WP_sub (fc rfl (fc rfl (fc rfl (fc rfl (fc rfl fn))))) (lp81_15134 _ v15129 I15120 J15121 RI15120 hrI15120 hTI15120 hSI15120 hPI15120 hI15120 fiI15120 fjJ15121 w15122 ew15122 w15123 ew15123 (by omega) (by omega) (by omega) (by omega) (Nat.lt_succ_self _))
        · refine WP_aload_n dX9_passDay_28 rfl ?_
          refine WP_getr dX9_passDay_29 fX9_25 rfl (lyx_is hy 49 9 rfl) (rfx hrI15120 49 2 5 (by decide)) ?_
          refine WP_getr dX9_passDay_32 fX9_49 rfl (lyx_is hy 5 0 rfl) hTI15120 ?_
          refine WP_getr dX9_passDay_35 fX9_55 rfl (lyx_is hy 27 7 rfl) (rfx hrI15120 27 17 40 (by decide)) ?_
          refine WP_iload dX9_passDay_38 rfl ?_
          refine WQ_bipush (7) (7) dX9_passDay_40 rfl rfl (fun v15159 hv15159 => ?_)
          refine WQ_imulk (7) dX9_passDay_42 hv15159 (by omega) (by omega) (fun v15160 hv15160 => ?_)
          refine WP_iload_n dX9_passDay_43 rfl ?_
          refine WQ_iadd dX9_passDay_44 (by omega) (by omega) (fun v15161 hv15161 => ?_)
          refine WQ_iald dX9_passDay_45 (lyx_is hy 40 13 rfl) (lyx_n hy 40 21 rfl) (by omega) (by omega) (fun q hq => BT_get hI15120.1 40 0 21 (-1) (0) (999) (by decide) q (Nat.zero_le _) hq) (fun v15162 av15162 bv15162 ev15162 => ?_)
          clear ev15162
          refine WP_istore (ls' := [(0, _), (1, _), (2, _), (3, _), (4, _), (5, _)]) dX9_passDay_46 (by decide) rfl ?_
          refine WP_aload_n dX9_passDay_48 rfl ?_
          refine WP_getr dX9_passDay_49 fX9_22 rfl (lyx_is hy 49 9 rfl) (rfx hrI15120 49 4 52 (by decide)) ?_
          refine WP_iload dX9_passDay_52 rfl ?_
          refine WP_iload_n dX9_passDay_54 rfl ?_
          have jn71_15167 : ∀ (v15167 : Int32), 0 ≤ v15167.toInt → v15167.toInt ≤ 1000000 → WP g mX9_passDay 71 [(0, .ref (ad g 49)), (1, .ref (ad g 53)), (2, .int bo), (3, .int v15046), (4, .int i15119), (5, .int v15162)] [.int v15167, .int i15119, .ref (ad g 52)] I15120 J15121 RI15120 (fun r I' J' R' => (XI g n L I' ∧ (RfX g R' ∧ (R' (ad g 5) 0 = R (ad g 5) 0 ∧ R' (ad g 0) 10 = R (ad g 0) 10) ∧ NL g R') ∧ fz 74 g [43, 44, 47, 48, 50, 51, 52, 53, 55] I I' ∧ fz 74 g [45, 46, 53] J J' ∧ ((I' (ad g 53) 1).toInt ≤ (I (ad g 53) 1).toInt + 23760 ∧ (I' (ad g 53) 0).toInt = (I (ad g 53) 0).toInt + 1)) ∧ r = none) := by
            intro v15167 av15167 bv15167
            refine WQ_iast dX9_passDay_71 (lyx_is hy 52 13 rfl) (lyx_n hy 52 3 rfl) (by omega) (by omega) (fun I15169 eI15169 => ?_)
            have hI15169 : XI g n L I15169 := by rw [eI15169]; exact (xi_r hy hI15120 (c := 52) (0) (0) (1000000) (by decide) (Or.inl (by decide)) (by decide) (by omega) (by omega))
            have e15170 : I15169 (ad g 53) 1 = w15122 := by rw [eI15169, pp_ne _ _ (Or.inl (lyx_ne hy (by decide) (by decide) (by decide)))]; exact ew15122
            have e15171 : I15169 (ad g 53) 0 = w15123 := by rw [eI15169, pp_ne _ _ (Or.inl (lyx_ne hy (by decide) (by decide) (by decide)))]; exact ew15123
            have e15172 : I15169 (ad g 1) 1 = L := by rw [eI15169, pp_ne _ _ (Or.inl (lyx_ne hy (by decide) (by decide) (by decide)))]; exact e15125
            have fr15173 : fz 74 g [43, 44, 47, 48, 50, 51, 52, 53, 55] I I15169 := by rw [eI15169]; exact fzx_pp hy fiI15120 (by decide) (by decide)
            clear eI15169
            refine WP_iinc (ls' := [(0, _), (1, _), (2, _), (3, _), (4, _), (5, _)]) dX9_passDay_72 rfl (by decide) rfl ?_
            have hv15174 : (i15119 + Int32.ofInt (1)).toInt = i15119.toInt + (1) := ia_n rfl (by omega) (by omega)
            generalize i15119 + Int32.ofInt (1) = v15174 at hv15174 ⊢
            refine WP_goto 22 dX9_passDay_75 rfl ?_
            exact WP_sub (fc rfl (fc rfl (fc rfl (fc rfl (fc rfl fn))))) (ihlp22_15123 v15174 I15169 J15121 RI15120 hrI15120 hTI15120 hSI15120 hPI15120 hI15169 fr15173 fjJ15121 w15122 e15170 w15123 e15171 (by omega) (by omega) (by omega) (by omega) (by omega))
          refine WQ_if_eq 69 dX9_passDay_55 rfl (fun c15174 => ?_) (fun c15174 => ?_)
          · refine WP_ldc (1000000) dX9_passDay_69 kX9_60 ?_
            obtain ⟨v15176, hv15176, ev15176⟩ : ∃ v : Int32, v.toInt = 1000000 ∧ ((1000000) : Int32) = v := ⟨(1000000), rfl, rfl⟩
            rw [ev15176]; clear ev15176
            exact WP_sub (fc rfl (fc rfl (fc rfl (fc rfl (fc rfl (fc rfl fn)))))) (jn71_15167 v15176 (by omega) (by omega))
          · refine WP_iload dX9_passDay_58 rfl ?_
            refine WQ_iconst (-1) (-1) dX9_passDay_60 rfl rfl (fun v15177 hv15177 => ?_)
            refine WQ_icmp_eq 69 dX9_passDay_61 rfl (fun c15177 => ?_) (fun c15177 => ?_)
            · refine WP_ldc (1000000) dX9_passDay_69 kX9_60 ?_
              obtain ⟨v15179, hv15179, ev15179⟩ : ∃ v : Int32, v.toInt = 1000000 ∧ ((1000000) : Int32) = v := ⟨(1000000), rfl, rfl⟩
              rw [ev15179]; clear ev15179
              exact WP_sub (fc rfl (fc rfl (fc rfl (fc rfl (fc rfl (fc rfl fn)))))) (jn71_15167 v15179 (by omega) (by omega))
            · refine WP_iload dX9_passDay_64 rfl ?_
              refine WP_goto 71 dX9_passDay_66 rfl ?_
              exact WP_sub (fc rfl (fc rfl (fc rfl (fc rfl (fc rfl (fc rfl fn)))))) (jn71_15167 v15162 (by omega) (by omega))
    exact WP_sub (fc rfl (fc rfl (fc rfl (fc rfl (fc rfl fn))))) (lp22_15123 _ v15118 I15110 J15111 R hr hT rfl hP hI15110 fr15112 fr15113 w15117 ew15117 w15044 e15114 (by omega) (by omega) (by omega) (by omega) (Nat.lt_succ_self _))
set_option maxHeartbeats 4000000 in
set_option maxRecDepth 100000 in
theorem sx_passDay_56_6 {g : GG} {n : Int} {L : Int32} (hy : LyX g)  {I : pI} {J : pJ} {R : pR} (hr : RfX g R) (hP : NL g R) (hT : R (ad g 5) 0 = some (ad g 6)) (hI : XI g n L I) (bo : Int32) (bo_lo : 0 ≤ bo.toInt) (bo_hi : bo.toInt ≤ 1) (hn : 0 ≤ n ∧ n ≤ 40000) (hb : (I (ad g 56) 1).toInt ≤ 23760 * n + 700000 - 23760) : SP g mX9_passDay [.ref (ad g 49), .ref (ad g 56), .int bo] I J R (fun r I' J' R' => (XI g n L I' ∧ (RfX g R' ∧ (R' (ad g 5) 0 = R (ad g 5) 0 ∧ R' (ad g 0) 10 = R (ad g 0) 10) ∧ NL g R') ∧ fz 74 g [43, 44, 47, 48, 50, 51, 52, 56, 58] I I' ∧ fz 74 g [45, 46, 56] J J' ∧ (I' (ad g 56) 1).toInt ≤ (I (ad g 56) 1).toInt + 23760) ∧ r = none) := by
  refine SP_of ⟨by decide, rfl⟩ (Nat.le_of_ble_eq_true rfl) ?_
  have e15180 : I (ad g 1) 1 = L := hI.2
  have b15181 := BT_get hI.1 1 1 2 (0) (0) (900) (by decide) 1 (by decide) (by decide)
  rw [e15180] at b15181
  have fr0 : fz 74 g [43, 44, 47, 48, 50, 51, 52, 56, 58] I I := fz_rf
  have frj0 : fz 74 g [45, 46, 56] J J := fz_rf
  obtain ⟨w15182, ew15182⟩ : ∃ w : Int32, I (ad g 56) 1 = w := ⟨_, rfl⟩
  have bw15182 := BT_get hI.1 56 1 2 (0) (23760) (700000) (by decide) 1 (by decide) (by decide)
  rw [ew15182] at bw15182
  rw [ew15182] at hb
  refine WP_aload_n dX9_passDay_0 rfl ?_
  refine WQ_getiu dX9_passDay_1 fX9_33 rfl (lyx_is hy 56 4 rfl) (fun v15183 ev15183 => ?_)
  refine WQ_bipush (7) (7) dX9_passDay_4 rfl rfl (fun v15184 hv15184 => ?_)
  refine WQ_floorMod dX9_passDay_6 lX9_39 ⟨by decide, Nat.le_of_ble_eq_true rfl⟩ hv15184 (fun v15185 av15185 bv15185 => ?_)
  refine WP_istore_n (ls' := [(0, _), (1, _), (2, _), (3, _)]) dX9_passDay_9 (by decide) rfl ?_
  refine WP_iload_n dX9_passDay_10 rfl ?_
  refine WQ_if_ne 19 dX9_passDay_11 rfl (fun c15185 => ?_) (fun c15185 => ?_)
  · refine WQ_iconst (0) (0) dX9_passDay_19 rfl rfl (fun v15187 hv15187 => ?_)
    refine WP_istore (ls' := [(0, _), (1, _), (2, _), (3, _), (4, _)]) dX9_passDay_20 (by decide) rfl ?_
    have lp22_15191 : ∀ (mz : Nat) (i15188 : Int32) (I15189 : pI) (J15190 : pJ) (RI15189 : pR), RfX g RI15189 → RI15189 (ad g 5) 0 = some (ad g 6) → RI15189 (ad g 0) 10 = R (ad g 0) 10 → NL g RI15189 → XI g n L I15189 → fz 74 g [43, 44, 47, 48, 50, 51, 52, 56, 58] I I15189 → fz 74 g [45, 46, 56] J J15190 → ∀ (w15191 : Int32), I15189 (ad g 56) 1 = w15191 → 0 ≤ i15188.toInt → i15188.toInt ≤ 3 → w15191.toInt ≤ w15182.toInt → (4 - i15188.toInt).toNat < mz → WP g mX9_passDay 22 [(0, .ref (ad g 49)), (1, .ref (ad g 56)), (2, .int bo), (3, .int v15185), (4, .int i15188)] [] I15189 J15190 RI15189 (fun r I' J' R' => (XI g n L I' ∧ (RfX g R' ∧ (R' (ad g 5) 0 = R (ad g 5) 0 ∧ R' (ad g 0) 10 = R (ad g 0) 10) ∧ NL g R') ∧ fz 74 g [43, 44, 47, 48, 50, 51, 52, 56, 58] I I' ∧ fz 74 g [45, 46, 56] J J' ∧ (I' (ad g 56) 1).toInt ≤ (I (ad g 56) 1).toInt + 23760) ∧ r = none) := by
      intro mz
      induction mz with
      | zero =>
        intro i15188 I15189 J15190 RI15189 hrI15189 hTI15189 hSI15189 hPI15189 hI15189 fiI15189 fjJ15190 w15191 ew15191 ai15188 bi15188 j0_I15189 hmlp22_15191
        exact absurd hmlp22_15191 (Nat.not_lt_zero _)
      | succ mz ihlp22_15191 =>
        intro i15188 I15189 J15190 RI15189 hrI15189 hTI15189 hSI15189 hPI15189 hI15189 fiI15189 fjJ15190 w15191 ew15191 ai15188 bi15188 j0_I15189 hmlp22_15191
        have bw15191 := BT_get hI15189.1 56 1 2 (0) (23760) (700000) (by decide) 1 (by decide) (by decide)
        rw [ew15191] at bw15191
        have e15193 : I15189 (ad g 1) 1 = L := hI15189.2
        have b15194 := BT_get hI15189.1 1 1 2 (0) (0) (900) (by decide) 1 (by decide) (by decide)
        rw [e15193] at b15194
        refine WP_iload dX9_passDay_22 rfl ?_
        refine WQ_iconst (3) (3) dX9_passDay_24 rfl rfl (fun v15195 hv15195 => ?_)
        refine WQ_icmp_ge 78 dX9_passDay_25 rfl (fun c15195 => ?_) (fun c15195 => ?_)
        · refine WQ_iconst (0) (0) dX9_passDay_78 rfl rfl (fun v15197 hv15197 => ?_)
          refine WP_istore (ls' := [(0, _), (1, _), (2, _), (3, _), (4, _)]) dX9_passDay_79 (by decide) rfl ?_
          have lp81_15201 : ∀ (mz : Nat) (i15198 : Int32) (I15199 : pI) (J15200 : pJ) (RI15199 : pR), RfX g RI15199 → RI15199 (ad g 5) 0 = some (ad g 6) → RI15199 (ad g 0) 10 = R (ad g 0) 10 → NL g RI15199 → XI g n L I15199 → fz 74 g [43, 44, 47, 48, 50, 51, 52, 56, 58] I I15199 → fz 74 g [45, 46, 56] J J15200 → ∀ (w15201 : Int32), I15199 (ad g 56) 1 = w15201 → 0 ≤ i15198.toInt → i15198.toInt ≤ 4 → w15201.toInt ≤ w15182.toInt + 5940 * i15198.toInt → (5 - i15198.toInt).toNat < mz → WP g mX9_passDay 81 [(0, .ref (ad g 49)), (1, .ref (ad g 56)), (2, .int bo), (3, .int v15185), (4, .int i15198)] [] I15199 J15200 RI15199 (fun r I' J' R' => (XI g n L I' ∧ (RfX g R' ∧ (R' (ad g 5) 0 = R (ad g 5) 0 ∧ R' (ad g 0) 10 = R (ad g 0) 10) ∧ NL g R') ∧ fz 74 g [43, 44, 47, 48, 50, 51, 52, 56, 58] I I' ∧ fz 74 g [45, 46, 56] J J' ∧ (I' (ad g 56) 1).toInt ≤ (I (ad g 56) 1).toInt + 23760) ∧ r = none) := by
            intro mz
            induction mz with
            | zero =>
              intro i15198 I15199 J15200 RI15199 hrI15199 hTI15199 hSI15199 hPI15199 hI15199 fiI15199 fjJ15200 w15201 ew15201 ai15198 bi15198 j0_I15199 hmlp81_15201
              exact absurd hmlp81_15201 (Nat.not_lt_zero _)
            | succ mz ihlp81_15201 =>
              intro i15198 I15199 J15200 RI15199 hrI15199 hTI15199 hSI15199 hPI15199 hI15199 fiI15199 fjJ15200 w15201 ew15201 ai15198 bi15198 j0_I15199 hmlp81_15201
              have bw15201 := BT_get hI15199.1 56 1 2 (0) (23760) (700000) (by decide) 1 (by decide) (by decide)
              rw [ew15201] at bw15201
              have e15203 : I15199 (ad g 1) 1 = L := hI15199.2
              have b15204 := BT_get hI15199.1 1 1 2 (0) (0) (900) (by decide) 1 (by decide) (by decide)
              rw [e15203] at b15204
              refine WP_iload dX9_passDay_81 rfl ?_
              refine WP_aload_n dX9_passDay_83 rfl ?_
              refine WP_getr dX9_passDay_84 fX9_25 rfl (lyx_is hy 49 9 rfl) (rfx hrI15199 49 2 5 (by decide)) ?_
              refine WP_getr dX9_passDay_87 fX9_49 rfl (lyx_is hy 5 0 rfl) hTI15199 ?_
              refine WQ_geti dX9_passDay_90 fX9_61 rfl (lyx_is hy 6 7 rfl) (BT_get hI15199.1 6 1 2 (0) (0) (4) (by decide) 1 (by decide) (by decide)) (fun v15205 ev15205 av15205 bv15205 => ?_)
              refine WQ_icmp_ge 110 dX9_passDay_93 rfl (fun c15205 => ?_) (fun c15205 => ?_)
              · refine WP_aload_n dX9_passDay_110 rfl ?_
                refine WP_dup dX9_passDay_111 rfl ?_
                refine WQ_getiu dX9_passDay_112 fX9_33 rfl (lyx_is hy 56 4 rfl) (fun v15207 ev15207 => ?_)
                refine WQ_iconst (1) (1) dX9_passDay_115 rfl rfl (fun v15208 hv15208 => ?_)
                refine WQ_iaddu dX9_passDay_116 (fun v15209 => ?_)
                refine WQ_puti dX9_passDay_117 fX9_33 rfl rfl (lyx_is hy 56 4 rfl) (fun I15210 eI15210 => ?_)
                have hI15210 : XI g n L I15210 := by rw [eI15210]; exact (xi_f0 hy hI15199 (c := 56) (by decide) (Or.inl (by decide)) (by decide))
                have e15211 : I15210 (ad g 56) 1 = w15201 := by rw [eI15210, pp_ne _ _ (Or.inr (by decide))]; exact ew15201
                have e15212 : I15210 (ad g 1) 1 = L := by rw [eI15210, pp_ne _ _ (Or.inl (lyx_ne hy (by decide) (by decide) (by decide)))]; exact e15203
                have e15213 : I15210 (ad g 6) 1 = v15205 := by rw [eI15210, pp_ne _ _ (Or.inl (lyx_ne hy (by decide) (by decide) (by decide)))]; exact ev15205
                have e15214 : I15210 (ad g 56) 0 = v15209 := by rw [eI15210, pp_self]
                have fr15215 : fz 74 g [43, 44, 47, 48, 50, 51, 52, 56, 58] I I15210 := by rw [eI15210]; exact fzx_pp hy fiI15199 (by decide) (by decide)
                clear eI15210
                exact WP_vret dX9_passDay_120 rfl ⟨⟨hI15210, ⟨hrI15199, ⟨hTI15199.trans hT.symm, hSI15199⟩, hPI15199⟩, fr15215, fjJ15200, (by rw [e15211, ew15182]; omega)⟩, rfl⟩
              · refine WP_aload_n dX9_passDay_96 rfl ?_
                refine WP_aload_n dX9_passDay_97 rfl ?_
                refine WP_iload dX9_passDay_98 rfl ?_
                refine WP_iload_n dX9_passDay_100 rfl ?_
                refine WP_callV3 (k := 9) dX9_passDay_101 ⟨⟨⟨by decide, by decide⟩, zX9_serve⟩, lX9_64, by decide, rfl, vX9_serve.1, vX9_serve.2⟩ (lyx_is hy 49 9 rfl) (sx_serve_56_6 hy hrI15199 hPI15199 hTI15199 hI15199 i15198 v15185 (by omega) (by omega) (by omega) (by omega) (by omega) (by rw [ew15201]; omega)) (Nat.le_of_ble_eq_true rfl) ?_
                intro r I15216 J15217 R15218 hq
                obtain ⟨⟨hI15216, ⟨hrI15216, ⟨htI15216, hsI15216⟩, hpI15216⟩, fiI15216, fjI15216, pI15216⟩, rfl⟩ := hq
                have ht_I15216 := htI15216.trans hTI15199
                have hs_I15216 : R15218 (ad g 0) 10 = R (ad g 0) 10 := hsI15216.trans hSI15199
                have fr15219 : fz 74 g [43, 44, 47, 48, 50, 51, 52, 56, 58] I I15216 := fz_tr fiI15199 (fz_mono fiI15216 (by decide))
                have fr15220 : fz 74 g [45, 46, 56] J J15217 := fz_tr fjJ15200 (fz_mono fjI15216 (by decide))
                have e15221 : I15216 (ad g 6) 1 = v15205 := by rw [fz_at fiI15216 6 (by decide) (by decide)]; exact ev15205
                have e15222 : I15216 (ad g 1) 1 = L := hI15216.2
                have b15223 := BT_get hI15216.1 1 1 2 (0) (0) (900) (by decide) 1 (by decide) (by decide)
                rw [e15222] at b15223
                obtain ⟨w15224, ew15224⟩ : ∃ w : Int32, I15216 (ad g 56) 1 = w := ⟨_, rfl⟩
                have bw15224 := BT_get hI15216.1 56 1 2 (0) (23760) (700000) (by decide) 1 (by decide) (by decide)
                rw [ew15224] at bw15224
                rw [ew15224, ew15201] at pI15216
                refine WP_iinc (ls' := [(0, _), (1, _), (2, _), (3, _), (4, _)]) dX9_passDay_104 rfl (by decide) rfl ?_
                have hv15225 : (i15198 + Int32.ofInt (1)).toInt = i15198.toInt + (1) := ia_n rfl (by omega) (by omega)
                generalize i15198 + Int32.ofInt (1) = v15225 at hv15225 ⊢
                refine WP_goto 81 dX9_passDay_107 rfl ?_
                exact WP_sub (fc rfl (fc rfl (fc rfl (fc rfl (fc rfl fn))))) (ihlp81_15201 v15225 I15216 J15217 R15218 hrI15216 ht_I15216 hs_I15216 hpI15216 hI15216 fr15219 fr15220 w15224 ew15224 (by omega) (by omega) (by omega) (by omega))
          exact WP_sub (fc rfl (fc rfl (fc rfl (fc rfl (fc rfl fn))))) (lp81_15201 _ v15197 I15189 J15190 RI15189 hrI15189 hTI15189 hSI15189 hPI15189 hI15189 fiI15189 fjJ15190 w15191 ew15191 (by omega) (by omega) (by omega) (Nat.lt_succ_self _))
        · refine WP_aload_n dX9_passDay_28 rfl ?_
          refine WP_getr dX9_passDay_29 fX9_25 rfl (lyx_is hy 49 9 rfl) (rfx hrI15189 49 2 5 (by decide)) ?_
          refine WP_getr dX9_passDay_32 fX9_49 rfl (lyx_is hy 5 0 rfl) hTI15189 ?_
          refine WP_getr dX9_passDay_35 fX9_55 rfl (lyx_is hy 6 7 rfl) (rfx hrI15189 6 17 19 (by decide)) ?_
          refine WP_iload dX9_passDay_38 rfl ?_
          refine WQ_bipush (7) (7) dX9_passDay_40 rfl rfl (fun v15226 hv15226 => ?_)
          refine WQ_imulk (7) dX9_passDay_42 hv15226 (by omega) (by omega) (fun v15227 hv15227 => ?_)
          refine WP_iload_n dX9_passDay_43 rfl ?_
          refine WQ_iadd dX9_passDay_44 (by omega) (by omega) (fun v15228 hv15228 => ?_)
          refine WQ_iald dX9_passDay_45 (lyx_is hy 19 13 rfl) (lyx_n hy 19 21 rfl) (by omega) (by omega) (fun q hq => BT_get hI15189.1 19 0 21 (-1) (0) (999) (by decide) q (Nat.zero_le _) hq) (fun v15229 av15229 bv15229 ev15229 => ?_)
          clear ev15229
          refine WP_istore (ls' := [(0, _), (1, _), (2, _), (3, _), (4, _), (5, _)]) dX9_passDay_46 (by decide) rfl ?_
          refine WP_aload_n dX9_passDay_48 rfl ?_
          refine WP_getr dX9_passDay_49 fX9_22 rfl (lyx_is hy 49 9 rfl) (rfx hrI15189 49 4 52 (by decide)) ?_
          refine WP_iload dX9_passDay_52 rfl ?_
          refine WP_iload_n dX9_passDay_54 rfl ?_
          have jn71_15234 : ∀ (v15234 : Int32), 0 ≤ v15234.toInt → v15234.toInt ≤ 1000000 → WP g mX9_passDay 71 [(0, .ref (ad g 49)), (1, .ref (ad g 56)), (2, .int bo), (3, .int v15185), (4, .int i15188), (5, .int v15229)] [.int v15234, .int i15188, .ref (ad g 52)] I15189 J15190 RI15189 (fun r I' J' R' => (XI g n L I' ∧ (RfX g R' ∧ (R' (ad g 5) 0 = R (ad g 5) 0 ∧ R' (ad g 0) 10 = R (ad g 0) 10) ∧ NL g R') ∧ fz 74 g [43, 44, 47, 48, 50, 51, 52, 56, 58] I I' ∧ fz 74 g [45, 46, 56] J J' ∧ (I' (ad g 56) 1).toInt ≤ (I (ad g 56) 1).toInt + 23760) ∧ r = none) := by
            intro v15234 av15234 bv15234
            refine WQ_iast dX9_passDay_71 (lyx_is hy 52 13 rfl) (lyx_n hy 52 3 rfl) (by omega) (by omega) (fun I15236 eI15236 => ?_)
            have hI15236 : XI g n L I15236 := by rw [eI15236]; exact (xi_r hy hI15189 (c := 52) (0) (0) (1000000) (by decide) (Or.inl (by decide)) (by decide) (by omega) (by omega))
            have e15237 : I15236 (ad g 56) 1 = w15191 := by rw [eI15236, pp_ne _ _ (Or.inl (lyx_ne hy (by decide) (by decide) (by decide)))]; exact ew15191
            have e15238 : I15236 (ad g 1) 1 = L := by rw [eI15236, pp_ne _ _ (Or.inl (lyx_ne hy (by decide) (by decide) (by decide)))]; exact e15193
            have fr15239 : fz 74 g [43, 44, 47, 48, 50, 51, 52, 56, 58] I I15236 := by rw [eI15236]; exact fzx_pp hy fiI15189 (by decide) (by decide)
            clear eI15236
            refine WP_iinc (ls' := [(0, _), (1, _), (2, _), (3, _), (4, _), (5, _)]) dX9_passDay_72 rfl (by decide) rfl ?_
            have hv15240 : (i15188 + Int32.ofInt (1)).toInt = i15188.toInt + (1) := ia_n rfl (by omega) (by omega)
            generalize i15188 + Int32.ofInt (1) = v15240 at hv15240 ⊢
            refine WP_goto 22 dX9_passDay_75 rfl ?_
            exact WP_sub (fc rfl (fc rfl (fc rfl (fc rfl (fc rfl fn))))) (ihlp22_15191 v15240 I15236 J15190 RI15189 hrI15189 hTI15189 hSI15189 hPI15189 hI15236 fr15239 fjJ15190 w15191 e15237 (by omega) (by omega) (by omega) (by omega))
          refine WQ_if_eq 69 dX9_passDay_55 rfl (fun c15240 => ?_) (fun c15240 => ?_)
          · refine WP_ldc (1000000) dX9_passDay_69 kX9_60 ?_
            obtain ⟨v15242, hv15242, ev15242⟩ : ∃ v : Int32, v.toInt = 1000000 ∧ ((1000000) : Int32) = v := ⟨(1000000), rfl, rfl⟩
            rw [ev15242]; clear ev15242
            exact WP_sub (fc rfl (fc rfl (fc rfl (fc rfl (fc rfl (fc rfl fn)))))) (jn71_15234 v15242 (by omega) (by omega))
          · refine WP_iload dX9_passDay_58 rfl ?_
            refine WQ_iconst (-1) (-1) dX9_passDay_60 rfl rfl (fun v15243 hv15243 => ?_)
            refine WQ_icmp_eq 69 dX9_passDay_61 rfl (fun c15243 => ?_) (fun c15243 => ?_)
            · refine WP_ldc (1000000) dX9_passDay_69 kX9_60 ?_
              obtain ⟨v15245, hv15245, ev15245⟩ : ∃ v : Int32, v.toInt = 1000000 ∧ ((1000000) : Int32) = v := ⟨(1000000), rfl, rfl⟩
              rw [ev15245]; clear ev15245
              exact WP_sub (fc rfl (fc rfl (fc rfl (fc rfl (fc rfl (fc rfl fn)))))) (jn71_15234 v15245 (by omega) (by omega))
            · refine WP_iload dX9_passDay_64 rfl ?_
              refine WP_goto 71 dX9_passDay_66 rfl ?_
              exact WP_sub (fc rfl (fc rfl (fc rfl (fc rfl (fc rfl (fc rfl fn)))))) (jn71_15234 v15229 (by omega) (by omega))
    exact WP_sub (fc rfl (fc rfl (fc rfl (fc rfl (fc rfl fn))))) (lp22_15191 _ v15187 I J R hr hT rfl hP hI fr0 frj0 w15182 ew15182 (by omega) (by omega) (by omega) (Nat.lt_succ_self _))
  · refine WP_aload_n dX9_passDay_14 rfl ?_
    refine WP_aload_n dX9_passDay_15 rfl ?_
    refine WP_callV1 (k := 9) dX9_passDay_16 ⟨⟨⟨by decide, by decide⟩, zX9_openChest⟩, lX9_45, by decide, rfl, vX9_openChest.1, vX9_openChest.2⟩ (lyx_is hy 49 9 rfl) (sx_openChestf_56_6 hy hr hT hI   (by omega)) (Nat.le_of_ble_eq_true rfl) ?_
    intro r I15246 J15247 Ra hq
    obtain ⟨⟨hI15246, ec, fiI15246, fjI15246, pI15246⟩, rfl⟩ := hq
    rw [ec]
    clear ec Ra
    have fr15248 : fz 74 g [43, 44, 47, 48, 50, 51, 52, 56, 58] I I15246 := fz_tr fr0 (fz_mono fiI15246 (by decide))
    have fr15249 : fz 74 g [45, 46, 56] J J15247 := fz_tr frj0 (fz_mono fjI15246 (by decide))
    have e15250 : I15246 (ad g 1) 1 = L := hI15246.2
    have b15251 := BT_get hI15246.1 1 1 2 (0) (0) (900) (by decide) 1 (by decide) (by decide)
    rw [e15250] at b15251
    obtain ⟨w15252, ew15252⟩ : ∃ w : Int32, I15246 (ad g 56) 1 = w := ⟨_, rfl⟩
    have bw15252 := BT_get hI15246.1 56 1 2 (0) (23760) (700000) (by decide) 1 (by decide) (by decide)
    rw [ew15252] at bw15252
    rw [ew15252, ew15182] at pI15246
    refine WQ_iconst (0) (0) dX9_passDay_19 rfl rfl (fun v15253 hv15253 => ?_)
    refine WP_istore (ls' := [(0, _), (1, _), (2, _), (3, _), (4, _)]) dX9_passDay_20 (by decide) rfl ?_
    have lp22_15257 : ∀ (mz : Nat) (i15254 : Int32) (I15255 : pI) (J15256 : pJ) (RI15255 : pR), RfX g RI15255 → RI15255 (ad g 5) 0 = some (ad g 6) → RI15255 (ad g 0) 10 = R (ad g 0) 10 → NL g RI15255 → XI g n L I15255 → fz 74 g [43, 44, 47, 48, 50, 51, 52, 56, 58] I I15255 → fz 74 g [45, 46, 56] J J15256 → ∀ (w15257 : Int32), I15255 (ad g 56) 1 = w15257 → 0 ≤ i15254.toInt → i15254.toInt ≤ 3 → w15257.toInt ≤ w15182.toInt → (4 - i15254.toInt).toNat < mz → WP g mX9_passDay 22 [(0, .ref (ad g 49)), (1, .ref (ad g 56)), (2, .int bo), (3, .int v15185), (4, .int i15254)] [] I15255 J15256 RI15255 (fun r I' J' R' => (XI g n L I' ∧ (RfX g R' ∧ (R' (ad g 5) 0 = R (ad g 5) 0 ∧ R' (ad g 0) 10 = R (ad g 0) 10) ∧ NL g R') ∧ fz 74 g [43, 44, 47, 48, 50, 51, 52, 56, 58] I I' ∧ fz 74 g [45, 46, 56] J J' ∧ (I' (ad g 56) 1).toInt ≤ (I (ad g 56) 1).toInt + 23760) ∧ r = none) := by
      intro mz
      induction mz with
      | zero =>
        intro i15254 I15255 J15256 RI15255 hrI15255 hTI15255 hSI15255 hPI15255 hI15255 fiI15255 fjJ15256 w15257 ew15257 ai15254 bi15254 j0_I15255 hmlp22_15257
        exact absurd hmlp22_15257 (Nat.not_lt_zero _)
      | succ mz ihlp22_15257 =>
        intro i15254 I15255 J15256 RI15255 hrI15255 hTI15255 hSI15255 hPI15255 hI15255 fiI15255 fjJ15256 w15257 ew15257 ai15254 bi15254 j0_I15255 hmlp22_15257
        have bw15257 := BT_get hI15255.1 56 1 2 (0) (23760) (700000) (by decide) 1 (by decide) (by decide)
        rw [ew15257] at bw15257
        have e15259 : I15255 (ad g 1) 1 = L := hI15255.2
        have b15260 := BT_get hI15255.1 1 1 2 (0) (0) (900) (by decide) 1 (by decide) (by decide)
        rw [e15259] at b15260
        refine WP_iload dX9_passDay_22 rfl ?_
        refine WQ_iconst (3) (3) dX9_passDay_24 rfl rfl (fun v15261 hv15261 => ?_)
        refine WQ_icmp_ge 78 dX9_passDay_25 rfl (fun c15261 => ?_) (fun c15261 => ?_)
        · refine WQ_iconst (0) (0) dX9_passDay_78 rfl rfl (fun v15263 hv15263 => ?_)
          refine WP_istore (ls' := [(0, _), (1, _), (2, _), (3, _), (4, _)]) dX9_passDay_79 (by decide) rfl ?_
          have lp81_15267 : ∀ (mz : Nat) (i15264 : Int32) (I15265 : pI) (J15266 : pJ) (RI15265 : pR), RfX g RI15265 → RI15265 (ad g 5) 0 = some (ad g 6) → RI15265 (ad g 0) 10 = R (ad g 0) 10 → NL g RI15265 → XI g n L I15265 → fz 74 g [43, 44, 47, 48, 50, 51, 52, 56, 58] I I15265 → fz 74 g [45, 46, 56] J J15266 → ∀ (w15267 : Int32), I15265 (ad g 56) 1 = w15267 → 0 ≤ i15264.toInt → i15264.toInt ≤ 4 → w15267.toInt ≤ w15182.toInt + 5940 * i15264.toInt → (5 - i15264.toInt).toNat < mz → WP g mX9_passDay 81 [(0, .ref (ad g 49)), (1, .ref (ad g 56)), (2, .int bo), (3, .int v15185), (4, .int i15264)] [] I15265 J15266 RI15265 (fun r I' J' R' => (XI g n L I' ∧ (RfX g R' ∧ (R' (ad g 5) 0 = R (ad g 5) 0 ∧ R' (ad g 0) 10 = R (ad g 0) 10) ∧ NL g R') ∧ fz 74 g [43, 44, 47, 48, 50, 51, 52, 56, 58] I I' ∧ fz 74 g [45, 46, 56] J J' ∧ (I' (ad g 56) 1).toInt ≤ (I (ad g 56) 1).toInt + 23760) ∧ r = none) := by
            intro mz
            induction mz with
            | zero =>
              intro i15264 I15265 J15266 RI15265 hrI15265 hTI15265 hSI15265 hPI15265 hI15265 fiI15265 fjJ15266 w15267 ew15267 ai15264 bi15264 j0_I15265 hmlp81_15267
              exact absurd hmlp81_15267 (Nat.not_lt_zero _)
            | succ mz ihlp81_15267 =>
              intro i15264 I15265 J15266 RI15265 hrI15265 hTI15265 hSI15265 hPI15265 hI15265 fiI15265 fjJ15266 w15267 ew15267 ai15264 bi15264 j0_I15265 hmlp81_15267
              have bw15267 := BT_get hI15265.1 56 1 2 (0) (23760) (700000) (by decide) 1 (by decide) (by decide)
              rw [ew15267] at bw15267
              have e15269 : I15265 (ad g 1) 1 = L := hI15265.2
              have b15270 := BT_get hI15265.1 1 1 2 (0) (0) (900) (by decide) 1 (by decide) (by decide)
              rw [e15269] at b15270
              refine WP_iload dX9_passDay_81 rfl ?_
              refine WP_aload_n dX9_passDay_83 rfl ?_
              refine WP_getr dX9_passDay_84 fX9_25 rfl (lyx_is hy 49 9 rfl) (rfx hrI15265 49 2 5 (by decide)) ?_
              refine WP_getr dX9_passDay_87 fX9_49 rfl (lyx_is hy 5 0 rfl) hTI15265 ?_
              refine WQ_geti dX9_passDay_90 fX9_61 rfl (lyx_is hy 6 7 rfl) (BT_get hI15265.1 6 1 2 (0) (0) (4) (by decide) 1 (by decide) (by decide)) (fun v15271 ev15271 av15271 bv15271 => ?_)
              refine WQ_icmp_ge 110 dX9_passDay_93 rfl (fun c15271 => ?_) (fun c15271 => ?_)
              · refine WP_aload_n dX9_passDay_110 rfl ?_
                refine WP_dup dX9_passDay_111 rfl ?_
                refine WQ_getiu dX9_passDay_112 fX9_33 rfl (lyx_is hy 56 4 rfl) (fun v15273 ev15273 => ?_)
                refine WQ_iconst (1) (1) dX9_passDay_115 rfl rfl (fun v15274 hv15274 => ?_)
                refine WQ_iaddu dX9_passDay_116 (fun v15275 => ?_)
                refine WQ_puti dX9_passDay_117 fX9_33 rfl rfl (lyx_is hy 56 4 rfl) (fun I15276 eI15276 => ?_)
                have hI15276 : XI g n L I15276 := by rw [eI15276]; exact (xi_f0 hy hI15265 (c := 56) (by decide) (Or.inl (by decide)) (by decide))
                have e15277 : I15276 (ad g 56) 1 = w15267 := by rw [eI15276, pp_ne _ _ (Or.inr (by decide))]; exact ew15267
                have e15278 : I15276 (ad g 1) 1 = L := by rw [eI15276, pp_ne _ _ (Or.inl (lyx_ne hy (by decide) (by decide) (by decide)))]; exact e15269
                have e15279 : I15276 (ad g 6) 1 = v15271 := by rw [eI15276, pp_ne _ _ (Or.inl (lyx_ne hy (by decide) (by decide) (by decide)))]; exact ev15271
                have e15280 : I15276 (ad g 56) 0 = v15275 := by rw [eI15276, pp_self]
                have fr15281 : fz 74 g [43, 44, 47, 48, 50, 51, 52, 56, 58] I I15276 := by rw [eI15276]; exact fzx_pp hy fiI15265 (by decide) (by decide)
                clear eI15276
                exact WP_vret dX9_passDay_120 rfl ⟨⟨hI15276, ⟨hrI15265, ⟨hTI15265.trans hT.symm, hSI15265⟩, hPI15265⟩, fr15281, fjJ15266, (by rw [e15277, ew15182]; omega)⟩, rfl⟩
              · refine WP_aload_n dX9_passDay_96 rfl ?_
                refine WP_aload_n dX9_passDay_97 rfl ?_
                refine WP_iload dX9_passDay_98 rfl ?_
                refine WP_iload_n dX9_passDay_100 rfl ?_
                refine WP_callV3 (k := 9) dX9_passDay_101 ⟨⟨⟨by decide, by decide⟩, zX9_serve⟩, lX9_64, by decide, rfl, vX9_serve.1, vX9_serve.2⟩ (lyx_is hy 49 9 rfl) (sx_serve_56_6 hy hrI15265 hPI15265 hTI15265 hI15265 i15264 v15185 (by omega) (by omega) (by omega) (by omega) (by omega) (by rw [ew15267]; omega)) (Nat.le_of_ble_eq_true rfl) ?_
                intro r I15282 J15283 R15284 hq
                obtain ⟨⟨hI15282, ⟨hrI15282, ⟨htI15282, hsI15282⟩, hpI15282⟩, fiI15282, fjI15282, pI15282⟩, rfl⟩ := hq
                have ht_I15282 := htI15282.trans hTI15265
                have hs_I15282 : R15284 (ad g 0) 10 = R (ad g 0) 10 := hsI15282.trans hSI15265
                have fr15285 : fz 74 g [43, 44, 47, 48, 50, 51, 52, 56, 58] I I15282 := fz_tr fiI15265 (fz_mono fiI15282 (by decide))
                have fr15286 : fz 74 g [45, 46, 56] J J15283 := fz_tr fjJ15266 (fz_mono fjI15282 (by decide))
                have e15287 : I15282 (ad g 6) 1 = v15271 := by rw [fz_at fiI15282 6 (by decide) (by decide)]; exact ev15271
                have e15288 : I15282 (ad g 1) 1 = L := hI15282.2
                have b15289 := BT_get hI15282.1 1 1 2 (0) (0) (900) (by decide) 1 (by decide) (by decide)
                rw [e15288] at b15289
                obtain ⟨w15290, ew15290⟩ : ∃ w : Int32, I15282 (ad g 56) 1 = w := ⟨_, rfl⟩
                have bw15290 := BT_get hI15282.1 56 1 2 (0) (23760) (700000) (by decide) 1 (by decide) (by decide)
                rw [ew15290] at bw15290
                rw [ew15290, ew15267] at pI15282
                refine WP_iinc (ls' := [(0, _), (1, _), (2, _), (3, _), (4, _)]) dX9_passDay_104 rfl (by decide) rfl ?_
                have hv15291 : (i15264 + Int32.ofInt (1)).toInt = i15264.toInt + (1) := ia_n rfl (by omega) (by omega)
                generalize i15264 + Int32.ofInt (1) = v15291 at hv15291 ⊢
                refine WP_goto 81 dX9_passDay_107 rfl ?_
                exact WP_sub (fc rfl (fc rfl (fc rfl (fc rfl (fc rfl fn))))) (ihlp81_15267 v15291 I15282 J15283 R15284 hrI15282 ht_I15282 hs_I15282 hpI15282 hI15282 fr15285 fr15286 w15290 ew15290 (by omega) (by omega) (by omega) (by omega))
          exact WP_sub (fc rfl (fc rfl (fc rfl (fc rfl (fc rfl fn))))) (lp81_15267 _ v15263 I15255 J15256 RI15255 hrI15255 hTI15255 hSI15255 hPI15255 hI15255 fiI15255 fjJ15256 w15257 ew15257 (by omega) (by omega) (by omega) (Nat.lt_succ_self _))
        · refine WP_aload_n dX9_passDay_28 rfl ?_
          refine WP_getr dX9_passDay_29 fX9_25 rfl (lyx_is hy 49 9 rfl) (rfx hrI15255 49 2 5 (by decide)) ?_
          refine WP_getr dX9_passDay_32 fX9_49 rfl (lyx_is hy 5 0 rfl) hTI15255 ?_
          refine WP_getr dX9_passDay_35 fX9_55 rfl (lyx_is hy 6 7 rfl) (rfx hrI15255 6 17 19 (by decide)) ?_
          refine WP_iload dX9_passDay_38 rfl ?_
          refine WQ_bipush (7) (7) dX9_passDay_40 rfl rfl (fun v15292 hv15292 => ?_)
          refine WQ_imulk (7) dX9_passDay_42 hv15292 (by omega) (by omega) (fun v15293 hv15293 => ?_)
          refine WP_iload_n dX9_passDay_43 rfl ?_
          refine WQ_iadd dX9_passDay_44 (by omega) (by omega) (fun v15294 hv15294 => ?_)
          refine WQ_iald dX9_passDay_45 (lyx_is hy 19 13 rfl) (lyx_n hy 19 21 rfl) (by omega) (by omega) (fun q hq => BT_get hI15255.1 19 0 21 (-1) (0) (999) (by decide) q (Nat.zero_le _) hq) (fun v15295 av15295 bv15295 ev15295 => ?_)
          clear ev15295
          refine WP_istore (ls' := [(0, _), (1, _), (2, _), (3, _), (4, _), (5, _)]) dX9_passDay_46 (by decide) rfl ?_
          refine WP_aload_n dX9_passDay_48 rfl ?_
          refine WP_getr dX9_passDay_49 fX9_22 rfl (lyx_is hy 49 9 rfl) (rfx hrI15255 49 4 52 (by decide)) ?_
          refine WP_iload dX9_passDay_52 rfl ?_
          refine WP_iload_n dX9_passDay_54 rfl ?_
          have jn71_15300 : ∀ (v15300 : Int32), 0 ≤ v15300.toInt → v15300.toInt ≤ 1000000 → WP g mX9_passDay 71 [(0, .ref (ad g 49)), (1, .ref (ad g 56)), (2, .int bo), (3, .int v15185), (4, .int i15254), (5, .int v15295)] [.int v15300, .int i15254, .ref (ad g 52)] I15255 J15256 RI15255 (fun r I' J' R' => (XI g n L I' ∧ (RfX g R' ∧ (R' (ad g 5) 0 = R (ad g 5) 0 ∧ R' (ad g 0) 10 = R (ad g 0) 10) ∧ NL g R') ∧ fz 74 g [43, 44, 47, 48, 50, 51, 52, 56, 58] I I' ∧ fz 74 g [45, 46, 56] J J' ∧ (I' (ad g 56) 1).toInt ≤ (I (ad g 56) 1).toInt + 23760) ∧ r = none) := by
            intro v15300 av15300 bv15300
            refine WQ_iast dX9_passDay_71 (lyx_is hy 52 13 rfl) (lyx_n hy 52 3 rfl) (by omega) (by omega) (fun I15302 eI15302 => ?_)
            have hI15302 : XI g n L I15302 := by rw [eI15302]; exact (xi_r hy hI15255 (c := 52) (0) (0) (1000000) (by decide) (Or.inl (by decide)) (by decide) (by omega) (by omega))
            have e15303 : I15302 (ad g 56) 1 = w15257 := by rw [eI15302, pp_ne _ _ (Or.inl (lyx_ne hy (by decide) (by decide) (by decide)))]; exact ew15257
            have e15304 : I15302 (ad g 1) 1 = L := by rw [eI15302, pp_ne _ _ (Or.inl (lyx_ne hy (by decide) (by decide) (by decide)))]; exact e15259
            have fr15305 : fz 74 g [43, 44, 47, 48, 50, 51, 52, 56, 58] I I15302 := by rw [eI15302]; exact fzx_pp hy fiI15255 (by decide) (by decide)
            clear eI15302
            refine WP_iinc (ls' := [(0, _), (1, _), (2, _), (3, _), (4, _), (5, _)]) dX9_passDay_72 rfl (by decide) rfl ?_
            have hv15306 : (i15254 + Int32.ofInt (1)).toInt = i15254.toInt + (1) := ia_n rfl (by omega) (by omega)
            generalize i15254 + Int32.ofInt (1) = v15306 at hv15306 ⊢
            refine WP_goto 22 dX9_passDay_75 rfl ?_
            exact WP_sub (fc rfl (fc rfl (fc rfl (fc rfl (fc rfl fn))))) (ihlp22_15257 v15306 I15302 J15256 RI15255 hrI15255 hTI15255 hSI15255 hPI15255 hI15302 fr15305 fjJ15256 w15257 e15303 (by omega) (by omega) (by omega) (by omega))
          refine WQ_if_eq 69 dX9_passDay_55 rfl (fun c15306 => ?_) (fun c15306 => ?_)
          · refine WP_ldc (1000000) dX9_passDay_69 kX9_60 ?_
            obtain ⟨v15308, hv15308, ev15308⟩ : ∃ v : Int32, v.toInt = 1000000 ∧ ((1000000) : Int32) = v := ⟨(1000000), rfl, rfl⟩
            rw [ev15308]; clear ev15308
            exact WP_sub (fc rfl (fc rfl (fc rfl (fc rfl (fc rfl (fc rfl fn)))))) (jn71_15300 v15308 (by omega) (by omega))
          · refine WP_iload dX9_passDay_58 rfl ?_
            refine WQ_iconst (-1) (-1) dX9_passDay_60 rfl rfl (fun v15309 hv15309 => ?_)
            refine WQ_icmp_eq 69 dX9_passDay_61 rfl (fun c15309 => ?_) (fun c15309 => ?_)
            · refine WP_ldc (1000000) dX9_passDay_69 kX9_60 ?_
              obtain ⟨v15311, hv15311, ev15311⟩ : ∃ v : Int32, v.toInt = 1000000 ∧ ((1000000) : Int32) = v := ⟨(1000000), rfl, rfl⟩
              rw [ev15311]; clear ev15311
              exact WP_sub (fc rfl (fc rfl (fc rfl (fc rfl (fc rfl (fc rfl fn)))))) (jn71_15300 v15311 (by omega) (by omega))
            · refine WP_iload dX9_passDay_64 rfl ?_
              refine WP_goto 71 dX9_passDay_66 rfl ?_
              exact WP_sub (fc rfl (fc rfl (fc rfl (fc rfl (fc rfl (fc rfl fn)))))) (jn71_15300 v15295 (by omega) (by omega))
    exact WP_sub (fc rfl (fc rfl (fc rfl (fc rfl (fc rfl fn))))) (lp22_15257 _ v15253 I15246 J15247 R hr hT rfl hP hI15246 fr15248 fr15249 w15252 ew15252 (by omega) (by omega) (by omega) (Nat.lt_succ_self _))
set_option maxHeartbeats 4000000 in
set_option maxRecDepth 100000 in
theorem sx_passDay_56_27 {g : GG} {n : Int} {L : Int32} (hy : LyX g)  {I : pI} {J : pJ} {R : pR} (hr : RfX g R) (hP : NL g R) (hT : R (ad g 5) 0 = some (ad g 27)) (hI : XI g n L I) (bo : Int32) (bo_lo : 0 ≤ bo.toInt) (bo_hi : bo.toInt ≤ 1) (hn : 0 ≤ n ∧ n ≤ 40000) (hb : (I (ad g 56) 1).toInt ≤ 23760 * n + 700000 - 23760) : SP g mX9_passDay [.ref (ad g 49), .ref (ad g 56), .int bo] I J R (fun r I' J' R' => (XI g n L I' ∧ (RfX g R' ∧ (R' (ad g 5) 0 = R (ad g 5) 0 ∧ R' (ad g 0) 10 = R (ad g 0) 10) ∧ NL g R') ∧ fz 74 g [43, 44, 47, 48, 50, 51, 52, 56, 58] I I' ∧ fz 74 g [45, 46, 56] J J' ∧ (I' (ad g 56) 1).toInt ≤ (I (ad g 56) 1).toInt + 23760) ∧ r = none) := by
  refine SP_of ⟨by decide, rfl⟩ (Nat.le_of_ble_eq_true rfl) ?_
  have e15312 : I (ad g 1) 1 = L := hI.2
  have b15313 := BT_get hI.1 1 1 2 (0) (0) (900) (by decide) 1 (by decide) (by decide)
  rw [e15312] at b15313
  have fr0 : fz 74 g [43, 44, 47, 48, 50, 51, 52, 56, 58] I I := fz_rf
  have frj0 : fz 74 g [45, 46, 56] J J := fz_rf
  obtain ⟨w15314, ew15314⟩ : ∃ w : Int32, I (ad g 56) 1 = w := ⟨_, rfl⟩
  have bw15314 := BT_get hI.1 56 1 2 (0) (23760) (700000) (by decide) 1 (by decide) (by decide)
  rw [ew15314] at bw15314
  rw [ew15314] at hb
  refine WP_aload_n dX9_passDay_0 rfl ?_
  refine WQ_getiu dX9_passDay_1 fX9_33 rfl (lyx_is hy 56 4 rfl) (fun v15315 ev15315 => ?_)
  refine WQ_bipush (7) (7) dX9_passDay_4 rfl rfl (fun v15316 hv15316 => ?_)
  refine WQ_floorMod dX9_passDay_6 lX9_39 ⟨by decide, Nat.le_of_ble_eq_true rfl⟩ hv15316 (fun v15317 av15317 bv15317 => ?_)
  refine WP_istore_n (ls' := [(0, _), (1, _), (2, _), (3, _)]) dX9_passDay_9 (by decide) rfl ?_
  refine WP_iload_n dX9_passDay_10 rfl ?_
  refine WQ_if_ne 19 dX9_passDay_11 rfl (fun c15317 => ?_) (fun c15317 => ?_)
  · refine WQ_iconst (0) (0) dX9_passDay_19 rfl rfl (fun v15319 hv15319 => ?_)
    refine WP_istore (ls' := [(0, _), (1, _), (2, _), (3, _), (4, _)]) dX9_passDay_20 (by decide) rfl ?_
    have lp22_15323 : ∀ (mz : Nat) (i15320 : Int32) (I15321 : pI) (J15322 : pJ) (RI15321 : pR), RfX g RI15321 → RI15321 (ad g 5) 0 = some (ad g 27) → RI15321 (ad g 0) 10 = R (ad g 0) 10 → NL g RI15321 → XI g n L I15321 → fz 74 g [43, 44, 47, 48, 50, 51, 52, 56, 58] I I15321 → fz 74 g [45, 46, 56] J J15322 → ∀ (w15323 : Int32), I15321 (ad g 56) 1 = w15323 → 0 ≤ i15320.toInt → i15320.toInt ≤ 3 → w15323.toInt ≤ w15314.toInt → (4 - i15320.toInt).toNat < mz → WP g mX9_passDay 22 [(0, .ref (ad g 49)), (1, .ref (ad g 56)), (2, .int bo), (3, .int v15317), (4, .int i15320)] [] I15321 J15322 RI15321 (fun r I' J' R' => (XI g n L I' ∧ (RfX g R' ∧ (R' (ad g 5) 0 = R (ad g 5) 0 ∧ R' (ad g 0) 10 = R (ad g 0) 10) ∧ NL g R') ∧ fz 74 g [43, 44, 47, 48, 50, 51, 52, 56, 58] I I' ∧ fz 74 g [45, 46, 56] J J' ∧ (I' (ad g 56) 1).toInt ≤ (I (ad g 56) 1).toInt + 23760) ∧ r = none) := by
      intro mz
      induction mz with
      | zero =>
        intro i15320 I15321 J15322 RI15321 hrI15321 hTI15321 hSI15321 hPI15321 hI15321 fiI15321 fjJ15322 w15323 ew15323 ai15320 bi15320 j0_I15321 hmlp22_15323
        exact absurd hmlp22_15323 (Nat.not_lt_zero _)
      | succ mz ihlp22_15323 =>
        intro i15320 I15321 J15322 RI15321 hrI15321 hTI15321 hSI15321 hPI15321 hI15321 fiI15321 fjJ15322 w15323 ew15323 ai15320 bi15320 j0_I15321 hmlp22_15323
        have bw15323 := BT_get hI15321.1 56 1 2 (0) (23760) (700000) (by decide) 1 (by decide) (by decide)
        rw [ew15323] at bw15323
        have e15325 : I15321 (ad g 1) 1 = L := hI15321.2
        have b15326 := BT_get hI15321.1 1 1 2 (0) (0) (900) (by decide) 1 (by decide) (by decide)
        rw [e15325] at b15326
        refine WP_iload dX9_passDay_22 rfl ?_
        refine WQ_iconst (3) (3) dX9_passDay_24 rfl rfl (fun v15327 hv15327 => ?_)
        refine WQ_icmp_ge 78 dX9_passDay_25 rfl (fun c15327 => ?_) (fun c15327 => ?_)
        · refine WQ_iconst (0) (0) dX9_passDay_78 rfl rfl (fun v15329 hv15329 => ?_)
          refine WP_istore (ls' := [(0, _), (1, _), (2, _), (3, _), (4, _)]) dX9_passDay_79 (by decide) rfl ?_
          have lp81_15333 : ∀ (mz : Nat) (i15330 : Int32) (I15331 : pI) (J15332 : pJ) (RI15331 : pR), RfX g RI15331 → RI15331 (ad g 5) 0 = some (ad g 27) → RI15331 (ad g 0) 10 = R (ad g 0) 10 → NL g RI15331 → XI g n L I15331 → fz 74 g [43, 44, 47, 48, 50, 51, 52, 56, 58] I I15331 → fz 74 g [45, 46, 56] J J15332 → ∀ (w15333 : Int32), I15331 (ad g 56) 1 = w15333 → 0 ≤ i15330.toInt → i15330.toInt ≤ 4 → w15333.toInt ≤ w15314.toInt + 5940 * i15330.toInt → (5 - i15330.toInt).toNat < mz → WP g mX9_passDay 81 [(0, .ref (ad g 49)), (1, .ref (ad g 56)), (2, .int bo), (3, .int v15317), (4, .int i15330)] [] I15331 J15332 RI15331 (fun r I' J' R' => (XI g n L I' ∧ (RfX g R' ∧ (R' (ad g 5) 0 = R (ad g 5) 0 ∧ R' (ad g 0) 10 = R (ad g 0) 10) ∧ NL g R') ∧ fz 74 g [43, 44, 47, 48, 50, 51, 52, 56, 58] I I' ∧ fz 74 g [45, 46, 56] J J' ∧ (I' (ad g 56) 1).toInt ≤ (I (ad g 56) 1).toInt + 23760) ∧ r = none) := by
            intro mz
            induction mz with
            | zero =>
              intro i15330 I15331 J15332 RI15331 hrI15331 hTI15331 hSI15331 hPI15331 hI15331 fiI15331 fjJ15332 w15333 ew15333 ai15330 bi15330 j0_I15331 hmlp81_15333
              exact absurd hmlp81_15333 (Nat.not_lt_zero _)
            | succ mz ihlp81_15333 =>
              intro i15330 I15331 J15332 RI15331 hrI15331 hTI15331 hSI15331 hPI15331 hI15331 fiI15331 fjJ15332 w15333 ew15333 ai15330 bi15330 j0_I15331 hmlp81_15333
              have bw15333 := BT_get hI15331.1 56 1 2 (0) (23760) (700000) (by decide) 1 (by decide) (by decide)
              rw [ew15333] at bw15333
              have e15335 : I15331 (ad g 1) 1 = L := hI15331.2
              have b15336 := BT_get hI15331.1 1 1 2 (0) (0) (900) (by decide) 1 (by decide) (by decide)
              rw [e15335] at b15336
              refine WP_iload dX9_passDay_81 rfl ?_
              refine WP_aload_n dX9_passDay_83 rfl ?_
              refine WP_getr dX9_passDay_84 fX9_25 rfl (lyx_is hy 49 9 rfl) (rfx hrI15331 49 2 5 (by decide)) ?_
              refine WP_getr dX9_passDay_87 fX9_49 rfl (lyx_is hy 5 0 rfl) hTI15331 ?_
              refine WQ_geti dX9_passDay_90 fX9_61 rfl (lyx_is hy 27 7 rfl) (BT_get hI15331.1 27 1 2 (0) (0) (4) (by decide) 1 (by decide) (by decide)) (fun v15337 ev15337 av15337 bv15337 => ?_)
              refine WQ_icmp_ge 110 dX9_passDay_93 rfl (fun c15337 => ?_) (fun c15337 => ?_)
              · refine WP_aload_n dX9_passDay_110 rfl ?_
                refine WP_dup dX9_passDay_111 rfl ?_
                refine WQ_getiu dX9_passDay_112 fX9_33 rfl (lyx_is hy 56 4 rfl) (fun v15339 ev15339 => ?_)
                refine WQ_iconst (1) (1) dX9_passDay_115 rfl rfl (fun v15340 hv15340 => ?_)
                refine WQ_iaddu dX9_passDay_116 (fun v15341 => ?_)
                refine WQ_puti dX9_passDay_117 fX9_33 rfl rfl (lyx_is hy 56 4 rfl) (fun I15342 eI15342 => ?_)
                have hI15342 : XI g n L I15342 := by rw [eI15342]; exact (xi_f0 hy hI15331 (c := 56) (by decide) (Or.inl (by decide)) (by decide))
                have e15343 : I15342 (ad g 56) 1 = w15333 := by rw [eI15342, pp_ne _ _ (Or.inr (by decide))]; exact ew15333
                have e15344 : I15342 (ad g 1) 1 = L := by rw [eI15342, pp_ne _ _ (Or.inl (lyx_ne hy (by decide) (by decide) (by decide)))]; exact e15335
                have e15345 : I15342 (ad g 27) 1 = v15337 := by rw [eI15342, pp_ne _ _ (Or.inl (lyx_ne hy (by decide) (by decide) (by decide)))]; exact ev15337
                have e15346 : I15342 (ad g 56) 0 = v15341 := by rw [eI15342, pp_self]
                have fr15347 : fz 74 g [43, 44, 47, 48, 50, 51, 52, 56, 58] I I15342 := by rw [eI15342]; exact fzx_pp hy fiI15331 (by decide) (by decide)
                clear eI15342
                exact WP_vret dX9_passDay_120 rfl ⟨⟨hI15342, ⟨hrI15331, ⟨hTI15331.trans hT.symm, hSI15331⟩, hPI15331⟩, fr15347, fjJ15332, (by rw [e15343, ew15314]; omega)⟩, rfl⟩
              · refine WP_aload_n dX9_passDay_96 rfl ?_
                refine WP_aload_n dX9_passDay_97 rfl ?_
                refine WP_iload dX9_passDay_98 rfl ?_
                refine WP_iload_n dX9_passDay_100 rfl ?_
                refine WP_callV3 (k := 9) dX9_passDay_101 ⟨⟨⟨by decide, by decide⟩, zX9_serve⟩, lX9_64, by decide, rfl, vX9_serve.1, vX9_serve.2⟩ (lyx_is hy 49 9 rfl) (sx_serve_56_27 hy hrI15331 hPI15331 hTI15331 hI15331 i15330 v15317 (by omega) (by omega) (by omega) (by omega) (by omega) (by rw [ew15333]; omega)) (Nat.le_of_ble_eq_true rfl) ?_
                intro r I15348 J15349 R15350 hq
                obtain ⟨⟨hI15348, ⟨hrI15348, ⟨htI15348, hsI15348⟩, hpI15348⟩, fiI15348, fjI15348, pI15348⟩, rfl⟩ := hq
                have ht_I15348 := htI15348.trans hTI15331
                have hs_I15348 : R15350 (ad g 0) 10 = R (ad g 0) 10 := hsI15348.trans hSI15331
                have fr15351 : fz 74 g [43, 44, 47, 48, 50, 51, 52, 56, 58] I I15348 := fz_tr fiI15331 (fz_mono fiI15348 (by decide))
                have fr15352 : fz 74 g [45, 46, 56] J J15349 := fz_tr fjJ15332 (fz_mono fjI15348 (by decide))
                have e15353 : I15348 (ad g 27) 1 = v15337 := by rw [fz_at fiI15348 27 (by decide) (by decide)]; exact ev15337
                have e15354 : I15348 (ad g 1) 1 = L := hI15348.2
                have b15355 := BT_get hI15348.1 1 1 2 (0) (0) (900) (by decide) 1 (by decide) (by decide)
                rw [e15354] at b15355
                obtain ⟨w15356, ew15356⟩ : ∃ w : Int32, I15348 (ad g 56) 1 = w := ⟨_, rfl⟩
                have bw15356 := BT_get hI15348.1 56 1 2 (0) (23760) (700000) (by decide) 1 (by decide) (by decide)
                rw [ew15356] at bw15356
                rw [ew15356, ew15333] at pI15348
                refine WP_iinc (ls' := [(0, _), (1, _), (2, _), (3, _), (4, _)]) dX9_passDay_104 rfl (by decide) rfl ?_
                have hv15357 : (i15330 + Int32.ofInt (1)).toInt = i15330.toInt + (1) := ia_n rfl (by omega) (by omega)
                generalize i15330 + Int32.ofInt (1) = v15357 at hv15357 ⊢
                refine WP_goto 81 dX9_passDay_107 rfl ?_
                exact WP_sub (fc rfl (fc rfl (fc rfl (fc rfl (fc rfl fn))))) (ihlp81_15333 v15357 I15348 J15349 R15350 hrI15348 ht_I15348 hs_I15348 hpI15348 hI15348 fr15351 fr15352 w15356 ew15356 (by omega) (by omega) (by omega) (by omega))
          exact WP_sub (fc rfl (fc rfl (fc rfl (fc rfl (fc rfl fn))))) (lp81_15333 _ v15329 I15321 J15322 RI15321 hrI15321 hTI15321 hSI15321 hPI15321 hI15321 fiI15321 fjJ15322 w15323 ew15323 (by omega) (by omega) (by omega) (Nat.lt_succ_self _))
        · refine WP_aload_n dX9_passDay_28 rfl ?_
          refine WP_getr dX9_passDay_29 fX9_25 rfl (lyx_is hy 49 9 rfl) (rfx hrI15321 49 2 5 (by decide)) ?_
          refine WP_getr dX9_passDay_32 fX9_49 rfl (lyx_is hy 5 0 rfl) hTI15321 ?_
          refine WP_getr dX9_passDay_35 fX9_55 rfl (lyx_is hy 27 7 rfl) (rfx hrI15321 27 17 40 (by decide)) ?_
          refine WP_iload dX9_passDay_38 rfl ?_
          refine WQ_bipush (7) (7) dX9_passDay_40 rfl rfl (fun v15358 hv15358 => ?_)
          refine WQ_imulk (7) dX9_passDay_42 hv15358 (by omega) (by omega) (fun v15359 hv15359 => ?_)
          refine WP_iload_n dX9_passDay_43 rfl ?_
          refine WQ_iadd dX9_passDay_44 (by omega) (by omega) (fun v15360 hv15360 => ?_)
          refine WQ_iald dX9_passDay_45 (lyx_is hy 40 13 rfl) (lyx_n hy 40 21 rfl) (by omega) (by omega) (fun q hq => BT_get hI15321.1 40 0 21 (-1) (0) (999) (by decide) q (Nat.zero_le _) hq) (fun v15361 av15361 bv15361 ev15361 => ?_)
          clear ev15361
          refine WP_istore (ls' := [(0, _), (1, _), (2, _), (3, _), (4, _), (5, _)]) dX9_passDay_46 (by decide) rfl ?_
          refine WP_aload_n dX9_passDay_48 rfl ?_
          refine WP_getr dX9_passDay_49 fX9_22 rfl (lyx_is hy 49 9 rfl) (rfx hrI15321 49 4 52 (by decide)) ?_
          refine WP_iload dX9_passDay_52 rfl ?_
          refine WP_iload_n dX9_passDay_54 rfl ?_
          have jn71_15366 : ∀ (v15366 : Int32), 0 ≤ v15366.toInt → v15366.toInt ≤ 1000000 → WP g mX9_passDay 71 [(0, .ref (ad g 49)), (1, .ref (ad g 56)), (2, .int bo), (3, .int v15317), (4, .int i15320), (5, .int v15361)] [.int v15366, .int i15320, .ref (ad g 52)] I15321 J15322 RI15321 (fun r I' J' R' => (XI g n L I' ∧ (RfX g R' ∧ (R' (ad g 5) 0 = R (ad g 5) 0 ∧ R' (ad g 0) 10 = R (ad g 0) 10) ∧ NL g R') ∧ fz 74 g [43, 44, 47, 48, 50, 51, 52, 56, 58] I I' ∧ fz 74 g [45, 46, 56] J J' ∧ (I' (ad g 56) 1).toInt ≤ (I (ad g 56) 1).toInt + 23760) ∧ r = none) := by
            intro v15366 av15366 bv15366
            refine WQ_iast dX9_passDay_71 (lyx_is hy 52 13 rfl) (lyx_n hy 52 3 rfl) (by omega) (by omega) (fun I15368 eI15368 => ?_)
            have hI15368 : XI g n L I15368 := by rw [eI15368]; exact (xi_r hy hI15321 (c := 52) (0) (0) (1000000) (by decide) (Or.inl (by decide)) (by decide) (by omega) (by omega))
            have e15369 : I15368 (ad g 56) 1 = w15323 := by rw [eI15368, pp_ne _ _ (Or.inl (lyx_ne hy (by decide) (by decide) (by decide)))]; exact ew15323
            have e15370 : I15368 (ad g 1) 1 = L := by rw [eI15368, pp_ne _ _ (Or.inl (lyx_ne hy (by decide) (by decide) (by decide)))]; exact e15325
            have fr15371 : fz 74 g [43, 44, 47, 48, 50, 51, 52, 56, 58] I I15368 := by rw [eI15368]; exact fzx_pp hy fiI15321 (by decide) (by decide)
            clear eI15368
            refine WP_iinc (ls' := [(0, _), (1, _), (2, _), (3, _), (4, _), (5, _)]) dX9_passDay_72 rfl (by decide) rfl ?_
            have hv15372 : (i15320 + Int32.ofInt (1)).toInt = i15320.toInt + (1) := ia_n rfl (by omega) (by omega)
            generalize i15320 + Int32.ofInt (1) = v15372 at hv15372 ⊢
            refine WP_goto 22 dX9_passDay_75 rfl ?_
            exact WP_sub (fc rfl (fc rfl (fc rfl (fc rfl (fc rfl fn))))) (ihlp22_15323 v15372 I15368 J15322 RI15321 hrI15321 hTI15321 hSI15321 hPI15321 hI15368 fr15371 fjJ15322 w15323 e15369 (by omega) (by omega) (by omega) (by omega))
          refine WQ_if_eq 69 dX9_passDay_55 rfl (fun c15372 => ?_) (fun c15372 => ?_)
          · refine WP_ldc (1000000) dX9_passDay_69 kX9_60 ?_
            obtain ⟨v15374, hv15374, ev15374⟩ : ∃ v : Int32, v.toInt = 1000000 ∧ ((1000000) : Int32) = v := ⟨(1000000), rfl, rfl⟩
            rw [ev15374]; clear ev15374
            exact WP_sub (fc rfl (fc rfl (fc rfl (fc rfl (fc rfl (fc rfl fn)))))) (jn71_15366 v15374 (by omega) (by omega))
          · refine WP_iload dX9_passDay_58 rfl ?_
            refine WQ_iconst (-1) (-1) dX9_passDay_60 rfl rfl (fun v15375 hv15375 => ?_)
            refine WQ_icmp_eq 69 dX9_passDay_61 rfl (fun c15375 => ?_) (fun c15375 => ?_)
            · refine WP_ldc (1000000) dX9_passDay_69 kX9_60 ?_
              obtain ⟨v15377, hv15377, ev15377⟩ : ∃ v : Int32, v.toInt = 1000000 ∧ ((1000000) : Int32) = v := ⟨(1000000), rfl, rfl⟩
              rw [ev15377]; clear ev15377
              exact WP_sub (fc rfl (fc rfl (fc rfl (fc rfl (fc rfl (fc rfl fn)))))) (jn71_15366 v15377 (by omega) (by omega))
            · refine WP_iload dX9_passDay_64 rfl ?_
              refine WP_goto 71 dX9_passDay_66 rfl ?_
              exact WP_sub (fc rfl (fc rfl (fc rfl (fc rfl (fc rfl (fc rfl fn)))))) (jn71_15366 v15361 (by omega) (by omega))
    exact WP_sub (fc rfl (fc rfl (fc rfl (fc rfl (fc rfl fn))))) (lp22_15323 _ v15319 I J R hr hT rfl hP hI fr0 frj0 w15314 ew15314 (by omega) (by omega) (by omega) (Nat.lt_succ_self _))
  · refine WP_aload_n dX9_passDay_14 rfl ?_
    refine WP_aload_n dX9_passDay_15 rfl ?_
    refine WP_callV1 (k := 9) dX9_passDay_16 ⟨⟨⟨by decide, by decide⟩, zX9_openChest⟩, lX9_45, by decide, rfl, vX9_openChest.1, vX9_openChest.2⟩ (lyx_is hy 49 9 rfl) (sx_openChestf_56_27 hy hr hT hI   (by omega)) (Nat.le_of_ble_eq_true rfl) ?_
    intro r I15378 J15379 Ra hq
    obtain ⟨⟨hI15378, ec, fiI15378, fjI15378, pI15378⟩, rfl⟩ := hq
    rw [ec]
    clear ec Ra
    have fr15380 : fz 74 g [43, 44, 47, 48, 50, 51, 52, 56, 58] I I15378 := fz_tr fr0 (fz_mono fiI15378 (by decide))
    have fr15381 : fz 74 g [45, 46, 56] J J15379 := fz_tr frj0 (fz_mono fjI15378 (by decide))
    have e15382 : I15378 (ad g 1) 1 = L := hI15378.2
    have b15383 := BT_get hI15378.1 1 1 2 (0) (0) (900) (by decide) 1 (by decide) (by decide)
    rw [e15382] at b15383
    obtain ⟨w15384, ew15384⟩ : ∃ w : Int32, I15378 (ad g 56) 1 = w := ⟨_, rfl⟩
    have bw15384 := BT_get hI15378.1 56 1 2 (0) (23760) (700000) (by decide) 1 (by decide) (by decide)
    rw [ew15384] at bw15384
    rw [ew15384, ew15314] at pI15378
    refine WQ_iconst (0) (0) dX9_passDay_19 rfl rfl (fun v15385 hv15385 => ?_)
    refine WP_istore (ls' := [(0, _), (1, _), (2, _), (3, _), (4, _)]) dX9_passDay_20 (by decide) rfl ?_
    have lp22_15389 : ∀ (mz : Nat) (i15386 : Int32) (I15387 : pI) (J15388 : pJ) (RI15387 : pR), RfX g RI15387 → RI15387 (ad g 5) 0 = some (ad g 27) → RI15387 (ad g 0) 10 = R (ad g 0) 10 → NL g RI15387 → XI g n L I15387 → fz 74 g [43, 44, 47, 48, 50, 51, 52, 56, 58] I I15387 → fz 74 g [45, 46, 56] J J15388 → ∀ (w15389 : Int32), I15387 (ad g 56) 1 = w15389 → 0 ≤ i15386.toInt → i15386.toInt ≤ 3 → w15389.toInt ≤ w15314.toInt → (4 - i15386.toInt).toNat < mz → WP g mX9_passDay 22 [(0, .ref (ad g 49)), (1, .ref (ad g 56)), (2, .int bo), (3, .int v15317), (4, .int i15386)] [] I15387 J15388 RI15387 (fun r I' J' R' => (XI g n L I' ∧ (RfX g R' ∧ (R' (ad g 5) 0 = R (ad g 5) 0 ∧ R' (ad g 0) 10 = R (ad g 0) 10) ∧ NL g R') ∧ fz 74 g [43, 44, 47, 48, 50, 51, 52, 56, 58] I I' ∧ fz 74 g [45, 46, 56] J J' ∧ (I' (ad g 56) 1).toInt ≤ (I (ad g 56) 1).toInt + 23760) ∧ r = none) := by
      intro mz
      induction mz with
      | zero =>
        intro i15386 I15387 J15388 RI15387 hrI15387 hTI15387 hSI15387 hPI15387 hI15387 fiI15387 fjJ15388 w15389 ew15389 ai15386 bi15386 j0_I15387 hmlp22_15389
        exact absurd hmlp22_15389 (Nat.not_lt_zero _)
      | succ mz ihlp22_15389 =>
        intro i15386 I15387 J15388 RI15387 hrI15387 hTI15387 hSI15387 hPI15387 hI15387 fiI15387 fjJ15388 w15389 ew15389 ai15386 bi15386 j0_I15387 hmlp22_15389
        have bw15389 := BT_get hI15387.1 56 1 2 (0) (23760) (700000) (by decide) 1 (by decide) (by decide)
        rw [ew15389] at bw15389
        have e15391 : I15387 (ad g 1) 1 = L := hI15387.2
        have b15392 := BT_get hI15387.1 1 1 2 (0) (0) (900) (by decide) 1 (by decide) (by decide)
        rw [e15391] at b15392
        refine WP_iload dX9_passDay_22 rfl ?_
        refine WQ_iconst (3) (3) dX9_passDay_24 rfl rfl (fun v15393 hv15393 => ?_)
        refine WQ_icmp_ge 78 dX9_passDay_25 rfl (fun c15393 => ?_) (fun c15393 => ?_)
        · refine WQ_iconst (0) (0) dX9_passDay_78 rfl rfl (fun v15395 hv15395 => ?_)
          refine WP_istore (ls' := [(0, _), (1, _), (2, _), (3, _), (4, _)]) dX9_passDay_79 (by decide) rfl ?_
          have lp81_15399 : ∀ (mz : Nat) (i15396 : Int32) (I15397 : pI) (J15398 : pJ) (RI15397 : pR), RfX g RI15397 → RI15397 (ad g 5) 0 = some (ad g 27) → RI15397 (ad g 0) 10 = R (ad g 0) 10 → NL g RI15397 → XI g n L I15397 → fz 74 g [43, 44, 47, 48, 50, 51, 52, 56, 58] I I15397 → fz 74 g [45, 46, 56] J J15398 → ∀ (w15399 : Int32), I15397 (ad g 56) 1 = w15399 → 0 ≤ i15396.toInt → i15396.toInt ≤ 4 → w15399.toInt ≤ w15314.toInt + 5940 * i15396.toInt → (5 - i15396.toInt).toNat < mz → WP g mX9_passDay 81 [(0, .ref (ad g 49)), (1, .ref (ad g 56)), (2, .int bo), (3, .int v15317), (4, .int i15396)] [] I15397 J15398 RI15397 (fun r I' J' R' => (XI g n L I' ∧ (RfX g R' ∧ (R' (ad g 5) 0 = R (ad g 5) 0 ∧ R' (ad g 0) 10 = R (ad g 0) 10) ∧ NL g R') ∧ fz 74 g [43, 44, 47, 48, 50, 51, 52, 56, 58] I I' ∧ fz 74 g [45, 46, 56] J J' ∧ (I' (ad g 56) 1).toInt ≤ (I (ad g 56) 1).toInt + 23760) ∧ r = none) := by
            intro mz
            induction mz with
            | zero =>
              intro i15396 I15397 J15398 RI15397 hrI15397 hTI15397 hSI15397 hPI15397 hI15397 fiI15397 fjJ15398 w15399 ew15399 ai15396 bi15396 j0_I15397 hmlp81_15399
              exact absurd hmlp81_15399 (Nat.not_lt_zero _)
            | succ mz ihlp81_15399 =>
              intro i15396 I15397 J15398 RI15397 hrI15397 hTI15397 hSI15397 hPI15397 hI15397 fiI15397 fjJ15398 w15399 ew15399 ai15396 bi15396 j0_I15397 hmlp81_15399
              have bw15399 := BT_get hI15397.1 56 1 2 (0) (23760) (700000) (by decide) 1 (by decide) (by decide)
              rw [ew15399] at bw15399
              have e15401 : I15397 (ad g 1) 1 = L := hI15397.2
              have b15402 := BT_get hI15397.1 1 1 2 (0) (0) (900) (by decide) 1 (by decide) (by decide)
              rw [e15401] at b15402
              refine WP_iload dX9_passDay_81 rfl ?_
              refine WP_aload_n dX9_passDay_83 rfl ?_
              refine WP_getr dX9_passDay_84 fX9_25 rfl (lyx_is hy 49 9 rfl) (rfx hrI15397 49 2 5 (by decide)) ?_
              refine WP_getr dX9_passDay_87 fX9_49 rfl (lyx_is hy 5 0 rfl) hTI15397 ?_
              refine WQ_geti dX9_passDay_90 fX9_61 rfl (lyx_is hy 27 7 rfl) (BT_get hI15397.1 27 1 2 (0) (0) (4) (by decide) 1 (by decide) (by decide)) (fun v15403 ev15403 av15403 bv15403 => ?_)
              refine WQ_icmp_ge 110 dX9_passDay_93 rfl (fun c15403 => ?_) (fun c15403 => ?_)
              · refine WP_aload_n dX9_passDay_110 rfl ?_
                refine WP_dup dX9_passDay_111 rfl ?_
                refine WQ_getiu dX9_passDay_112 fX9_33 rfl (lyx_is hy 56 4 rfl) (fun v15405 ev15405 => ?_)
                refine WQ_iconst (1) (1) dX9_passDay_115 rfl rfl (fun v15406 hv15406 => ?_)
                refine WQ_iaddu dX9_passDay_116 (fun v15407 => ?_)
                refine WQ_puti dX9_passDay_117 fX9_33 rfl rfl (lyx_is hy 56 4 rfl) (fun I15408 eI15408 => ?_)
                have hI15408 : XI g n L I15408 := by rw [eI15408]; exact (xi_f0 hy hI15397 (c := 56) (by decide) (Or.inl (by decide)) (by decide))
                have e15409 : I15408 (ad g 56) 1 = w15399 := by rw [eI15408, pp_ne _ _ (Or.inr (by decide))]; exact ew15399
                have e15410 : I15408 (ad g 1) 1 = L := by rw [eI15408, pp_ne _ _ (Or.inl (lyx_ne hy (by decide) (by decide) (by decide)))]; exact e15401
                have e15411 : I15408 (ad g 27) 1 = v15403 := by rw [eI15408, pp_ne _ _ (Or.inl (lyx_ne hy (by decide) (by decide) (by decide)))]; exact ev15403
                have e15412 : I15408 (ad g 56) 0 = v15407 := by rw [eI15408, pp_self]
                have fr15413 : fz 74 g [43, 44, 47, 48, 50, 51, 52, 56, 58] I I15408 := by rw [eI15408]; exact fzx_pp hy fiI15397 (by decide) (by decide)
                clear eI15408
                exact WP_vret dX9_passDay_120 rfl ⟨⟨hI15408, ⟨hrI15397, ⟨hTI15397.trans hT.symm, hSI15397⟩, hPI15397⟩, fr15413, fjJ15398, (by rw [e15409, ew15314]; omega)⟩, rfl⟩
              · refine WP_aload_n dX9_passDay_96 rfl ?_
                refine WP_aload_n dX9_passDay_97 rfl ?_
                refine WP_iload dX9_passDay_98 rfl ?_
                refine WP_iload_n dX9_passDay_100 rfl ?_
                refine WP_callV3 (k := 9) dX9_passDay_101 ⟨⟨⟨by decide, by decide⟩, zX9_serve⟩, lX9_64, by decide, rfl, vX9_serve.1, vX9_serve.2⟩ (lyx_is hy 49 9 rfl) (sx_serve_56_27 hy hrI15397 hPI15397 hTI15397 hI15397 i15396 v15317 (by omega) (by omega) (by omega) (by omega) (by omega) (by rw [ew15399]; omega)) (Nat.le_of_ble_eq_true rfl) ?_
                intro r I15414 J15415 R15416 hq
                obtain ⟨⟨hI15414, ⟨hrI15414, ⟨htI15414, hsI15414⟩, hpI15414⟩, fiI15414, fjI15414, pI15414⟩, rfl⟩ := hq
                have ht_I15414 := htI15414.trans hTI15397
                have hs_I15414 : R15416 (ad g 0) 10 = R (ad g 0) 10 := hsI15414.trans hSI15397
                have fr15417 : fz 74 g [43, 44, 47, 48, 50, 51, 52, 56, 58] I I15414 := fz_tr fiI15397 (fz_mono fiI15414 (by decide))
                have fr15418 : fz 74 g [45, 46, 56] J J15415 := fz_tr fjJ15398 (fz_mono fjI15414 (by decide))
                have e15419 : I15414 (ad g 27) 1 = v15403 := by rw [fz_at fiI15414 27 (by decide) (by decide)]; exact ev15403
                have e15420 : I15414 (ad g 1) 1 = L := hI15414.2
                have b15421 := BT_get hI15414.1 1 1 2 (0) (0) (900) (by decide) 1 (by decide) (by decide)
                rw [e15420] at b15421
                obtain ⟨w15422, ew15422⟩ : ∃ w : Int32, I15414 (ad g 56) 1 = w := ⟨_, rfl⟩
                have bw15422 := BT_get hI15414.1 56 1 2 (0) (23760) (700000) (by decide) 1 (by decide) (by decide)
                rw [ew15422] at bw15422
                rw [ew15422, ew15399] at pI15414
                refine WP_iinc (ls' := [(0, _), (1, _), (2, _), (3, _), (4, _)]) dX9_passDay_104 rfl (by decide) rfl ?_
                have hv15423 : (i15396 + Int32.ofInt (1)).toInt = i15396.toInt + (1) := ia_n rfl (by omega) (by omega)
                generalize i15396 + Int32.ofInt (1) = v15423 at hv15423 ⊢
                refine WP_goto 81 dX9_passDay_107 rfl ?_
                exact WP_sub (fc rfl (fc rfl (fc rfl (fc rfl (fc rfl fn))))) (ihlp81_15399 v15423 I15414 J15415 R15416 hrI15414 ht_I15414 hs_I15414 hpI15414 hI15414 fr15417 fr15418 w15422 ew15422 (by omega) (by omega) (by omega) (by omega))
          exact WP_sub (fc rfl (fc rfl (fc rfl (fc rfl (fc rfl fn))))) (lp81_15399 _ v15395 I15387 J15388 RI15387 hrI15387 hTI15387 hSI15387 hPI15387 hI15387 fiI15387 fjJ15388 w15389 ew15389 (by omega) (by omega) (by omega) (Nat.lt_succ_self _))
        · refine WP_aload_n dX9_passDay_28 rfl ?_
          refine WP_getr dX9_passDay_29 fX9_25 rfl (lyx_is hy 49 9 rfl) (rfx hrI15387 49 2 5 (by decide)) ?_
          refine WP_getr dX9_passDay_32 fX9_49 rfl (lyx_is hy 5 0 rfl) hTI15387 ?_
          refine WP_getr dX9_passDay_35 fX9_55 rfl (lyx_is hy 27 7 rfl) (rfx hrI15387 27 17 40 (by decide)) ?_
          refine WP_iload dX9_passDay_38 rfl ?_
          refine WQ_bipush (7) (7) dX9_passDay_40 rfl rfl (fun v15424 hv15424 => ?_)
          refine WQ_imulk (7) dX9_passDay_42 hv15424 (by omega) (by omega) (fun v15425 hv15425 => ?_)
          refine WP_iload_n dX9_passDay_43 rfl ?_
          refine WQ_iadd dX9_passDay_44 (by omega) (by omega) (fun v15426 hv15426 => ?_)
          refine WQ_iald dX9_passDay_45 (lyx_is hy 40 13 rfl) (lyx_n hy 40 21 rfl) (by omega) (by omega) (fun q hq => BT_get hI15387.1 40 0 21 (-1) (0) (999) (by decide) q (Nat.zero_le _) hq) (fun v15427 av15427 bv15427 ev15427 => ?_)
          clear ev15427
          refine WP_istore (ls' := [(0, _), (1, _), (2, _), (3, _), (4, _), (5, _)]) dX9_passDay_46 (by decide) rfl ?_
          refine WP_aload_n dX9_passDay_48 rfl ?_
          refine WP_getr dX9_passDay_49 fX9_22 rfl (lyx_is hy 49 9 rfl) (rfx hrI15387 49 4 52 (by decide)) ?_
          refine WP_iload dX9_passDay_52 rfl ?_
          refine WP_iload_n dX9_passDay_54 rfl ?_
          have jn71_15432 : ∀ (v15432 : Int32), 0 ≤ v15432.toInt → v15432.toInt ≤ 1000000 → WP g mX9_passDay 71 [(0, .ref (ad g 49)), (1, .ref (ad g 56)), (2, .int bo), (3, .int v15317), (4, .int i15386), (5, .int v15427)] [.int v15432, .int i15386, .ref (ad g 52)] I15387 J15388 RI15387 (fun r I' J' R' => (XI g n L I' ∧ (RfX g R' ∧ (R' (ad g 5) 0 = R (ad g 5) 0 ∧ R' (ad g 0) 10 = R (ad g 0) 10) ∧ NL g R') ∧ fz 74 g [43, 44, 47, 48, 50, 51, 52, 56, 58] I I' ∧ fz 74 g [45, 46, 56] J J' ∧ (I' (ad g 56) 1).toInt ≤ (I (ad g 56) 1).toInt + 23760) ∧ r = none) := by
            intro v15432 av15432 bv15432
            refine WQ_iast dX9_passDay_71 (lyx_is hy 52 13 rfl) (lyx_n hy 52 3 rfl) (by omega) (by omega) (fun I15434 eI15434 => ?_)
            have hI15434 : XI g n L I15434 := by rw [eI15434]; exact (xi_r hy hI15387 (c := 52) (0) (0) (1000000) (by decide) (Or.inl (by decide)) (by decide) (by omega) (by omega))
            have e15435 : I15434 (ad g 56) 1 = w15389 := by rw [eI15434, pp_ne _ _ (Or.inl (lyx_ne hy (by decide) (by decide) (by decide)))]; exact ew15389
            have e15436 : I15434 (ad g 1) 1 = L := by rw [eI15434, pp_ne _ _ (Or.inl (lyx_ne hy (by decide) (by decide) (by decide)))]; exact e15391
            have fr15437 : fz 74 g [43, 44, 47, 48, 50, 51, 52, 56, 58] I I15434 := by rw [eI15434]; exact fzx_pp hy fiI15387 (by decide) (by decide)
            clear eI15434
            refine WP_iinc (ls' := [(0, _), (1, _), (2, _), (3, _), (4, _), (5, _)]) dX9_passDay_72 rfl (by decide) rfl ?_
            have hv15438 : (i15386 + Int32.ofInt (1)).toInt = i15386.toInt + (1) := ia_n rfl (by omega) (by omega)
            generalize i15386 + Int32.ofInt (1) = v15438 at hv15438 ⊢
            refine WP_goto 22 dX9_passDay_75 rfl ?_
            exact WP_sub (fc rfl (fc rfl (fc rfl (fc rfl (fc rfl fn))))) (ihlp22_15389 v15438 I15434 J15388 RI15387 hrI15387 hTI15387 hSI15387 hPI15387 hI15434 fr15437 fjJ15388 w15389 e15435 (by omega) (by omega) (by omega) (by omega))
          refine WQ_if_eq 69 dX9_passDay_55 rfl (fun c15438 => ?_) (fun c15438 => ?_)
          · refine WP_ldc (1000000) dX9_passDay_69 kX9_60 ?_
            obtain ⟨v15440, hv15440, ev15440⟩ : ∃ v : Int32, v.toInt = 1000000 ∧ ((1000000) : Int32) = v := ⟨(1000000), rfl, rfl⟩
            rw [ev15440]; clear ev15440
            exact WP_sub (fc rfl (fc rfl (fc rfl (fc rfl (fc rfl (fc rfl fn)))))) (jn71_15432 v15440 (by omega) (by omega))
          · refine WP_iload dX9_passDay_58 rfl ?_
            refine WQ_iconst (-1) (-1) dX9_passDay_60 rfl rfl (fun v15441 hv15441 => ?_)
            refine WQ_icmp_eq 69 dX9_passDay_61 rfl (fun c15441 => ?_) (fun c15441 => ?_)
            · refine WP_ldc (1000000) dX9_passDay_69 kX9_60 ?_
              obtain ⟨v15443, hv15443, ev15443⟩ : ∃ v : Int32, v.toInt = 1000000 ∧ ((1000000) : Int32) = v := ⟨(1000000), rfl, rfl⟩
              rw [ev15443]; clear ev15443
              exact WP_sub (fc rfl (fc rfl (fc rfl (fc rfl (fc rfl (fc rfl fn)))))) (jn71_15432 v15443 (by omega) (by omega))
            · refine WP_iload dX9_passDay_64 rfl ?_
              refine WP_goto 71 dX9_passDay_66 rfl ?_
              exact WP_sub (fc rfl (fc rfl (fc rfl (fc rfl (fc rfl (fc rfl fn)))))) (jn71_15432 v15427 (by omega) (by omega))
    exact WP_sub (fc rfl (fc rfl (fc rfl (fc rfl (fc rfl fn))))) (lp22_15389 _ v15385 I15378 J15379 R hr hT rfl hP hI15378 fr15380 fr15381 w15384 ew15384 (by omega) (by omega) (by omega) (Nat.lt_succ_self _))
