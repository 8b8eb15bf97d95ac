set_option maxHeartbeats 4000000 in
set_option maxRecDepth 100000 in
theorem sx_passDay_53_6 {g : GG} {n : Int} {L : Int32} (hy : LyX g)  {I : pI} {J : pJ} {R : pR} (hr : RfX g R) (hP : NL g R) (hT : R (ad g 5) 0 = some (ad g 6)) (hI : XI g n L I) (bo : Int32) (bo_lo : 0 ≤ bo.toInt) (bo_hi : bo.toInt ≤ 1) (hn : 0 ≤ n ∧ n ≤ 40000) (hb : (I (ad g 53) 1).toInt ≤ 23760 * n + 0 - 23760) : SP g mX9_passDay [.ref (ad g 49), .ref (ad g 53), .int bo] I J R (fun r I' J' R' => (XI g n L I' ∧ (RfX g R' ∧ (R' (ad g 5) 0 = R (ad g 5) 0 ∧ R' (ad g 0) 10 = R (ad g 0) 10) ∧ NL g R') ∧ fz 74 g [43, 44, 47, 48, 50, 51, 52, 53, 55] I I' ∧ fz 74 g [45, 46, 53] J J' ∧ (I' (ad g 53) 1).toInt ≤ (I (ad g 53) 1).toInt + 23760) ∧ r = none) := by
  refine SP_of ⟨by decide, rfl⟩ (Nat.le_of_ble_eq_true rfl) ?_
  have e14852 : I (ad g 1) 1 = L := hI.2
  have b14853 := BT_get hI.1 1 1 2 (0) (0) (900) (by decide) 1 (by decide) (by decide)
  rw [e14852] at b14853
  have fr0 : fz 74 g [43, 44, 47, 48, 50, 51, 52, 53, 55] I I := fz_rf
  have frj0 : fz 74 g [45, 46, 53] J J := fz_rf
  obtain ⟨w14854, ew14854⟩ : ∃ w : Int32, I (ad g 53) 1 = w := ⟨_, rfl⟩
  have bw14854 := BT_get hI.1 53 1 2 (0) (23760) (0) (by decide) 1 (by decide) (by decide)
  rw [ew14854] at bw14854
  rw [ew14854] at hb
  refine WP_aload_n dX9_passDay_0 rfl ?_
  refine WQ_getiu dX9_passDay_1 fX9_33 rfl (lyx_is hy 53 4 rfl) (fun v14855 ev14855 => ?_)
  refine WQ_bipush (7) (7) dX9_passDay_4 rfl rfl (fun v14856 hv14856 => ?_)
  refine WQ_floorMod dX9_passDay_6 lX9_39 ⟨by decide, Nat.le_of_ble_eq_true rfl⟩ hv14856 (fun v14857 av14857 bv14857 => ?_)
  refine WP_istore_n (ls' := [(0, _), (1, _), (2, _), (3, _)]) dX9_passDay_9 (by decide) rfl ?_
  refine WP_iload_n dX9_passDay_10 rfl ?_
  refine WQ_if_ne 19 dX9_passDay_11 rfl (fun c14857 => ?_) (fun c14857 => ?_)
  · refine WQ_iconst (0) (0) dX9_passDay_19 rfl rfl (fun v14859 hv14859 => ?_)
    refine WP_istore (ls' := [(0, _), (1, _), (2, _), (3, _), (4, _)]) dX9_passDay_20 (by decide) rfl ?_
    have lp22_14863 : ∀ (mz : Nat) (i14860 : Int32) (I14861 : pI) (J14862 : pJ) (RI14861 : pR), RfX g RI14861 → RI14861 (ad g 5) 0 = some (ad g 6) → RI14861 (ad g 0) 10 = R (ad g 0) 10 → NL g RI14861 → XI g n L I14861 → fz 74 g [43, 44, 47, 48, 50, 51, 52, 53, 55] I I14861 → fz 74 g [45, 46, 53] J J14862 → ∀ (w14863 : Int32), I14861 (ad g 53) 1 = w14863 → 0 ≤ i14860.toInt → i14860.toInt ≤ 3 → w14863.toInt ≤ w14854.toInt → (4 - i14860.toInt).toNat < mz → WP g mX9_passDay 22 [(0, .ref (ad g 49)), (1, .ref (ad g 53)), (2, .int bo), (3, .int v14857), (4, .int i14860)] [] I14861 J14862 RI14861 (fun r I' J' R' => (XI g n L I' ∧ (RfX g R' ∧ (R' (ad g 5) 0 = R (ad g 5) 0 ∧ R' (ad g 0) 10 = R (ad g 0) 10) ∧ NL g R') ∧ fz 74 g [43, 44, 47, 48, 50, 51, 52, 53, 55] I I' ∧ fz 74 g [45, 46, 53] J J' ∧ (I' (ad g 53) 1).toInt ≤ (I (ad g 53) 1).toInt + 23760) ∧ r = none) := by
      intro mz
      induction mz with
      | zero =>
        intro i14860 I14861 J14862 RI14861 hrI14861 hTI14861 hSI14861 hPI14861 hI14861 fiI14861 fjJ14862 w14863 ew14863 ai14860 bi14860 j0_I14861 hmlp22_14863
        exact absurd hmlp22_14863 (Nat.not_lt_zero _)
      | succ mz ihlp22_14863 =>
        intro i14860 I14861 J14862 RI14861 hrI14861 hTI14861 hSI14861 hPI14861 hI14861 fiI14861 fjJ14862 w14863 ew14863 ai14860 bi14860 j0_I14861 hmlp22_14863
        have bw14863 := BT_get hI14861.1 53 1 2 (0) (23760) (0) (by decide) 1 (by decide) (by decide)
        rw [ew14863] at bw14863
        have e14865 : I14861 (ad g 1) 1 = L := hI14861.2
        have b14866 := BT_get hI14861.1 1 1 2 (0) (0) (900) (by decide) 1 (by decide) (by decide)
        rw [e14865] at b14866
        refine WP_iload dX9_passDay_22 rfl ?_
        refine WQ_iconst (3) (3) dX9_passDay_24 rfl rfl (fun v14867 hv14867 => ?_)
        refine WQ_icmp_ge 78 dX9_passDay_25 rfl (fun c14867 => ?_) (fun c14867 => ?_)
        · refine WQ_iconst (0) (0) dX9_passDay_78 rfl rfl (fun v14869 hv14869 => ?_)
          refine WP_istore (ls' := [(0, _), (1, _), (2, _), (3, _), (4, _)]) dX9_passDay_79 (by decide) rfl ?_
          have lp81_14873 : ∀ (mz : Nat) (i14870 : Int32) (I14871 : pI) (J14872 : pJ) (RI14871 : pR), RfX g RI14871 → RI14871 (ad g 5) 0 = some (ad g 6) → RI14871 (ad g 0) 10 = R (ad g 0) 10 → NL g RI14871 → XI g n L I14871 → fz 74 g [43, 44, 47, 48, 50, 51, 52, 53, 55] I I14871 → fz 74 g [45, 46, 53] J J14872 → ∀ (w14873 : Int32), I14871 (ad g 53) 1 = w14873 → 0 ≤ i14870.toInt → i14870.toInt ≤ 4 → w14873.toInt ≤ w14854.toInt + 5940 * i14870.toInt → (5 - i14870.toInt).toNat < mz → WP g mX9_passDay 81 [(0, .ref (ad g 49)), (1, .ref (ad g 53)), (2, .int bo), (3, .int v14857), (4, .int i14870)] [] I14871 J14872 RI14871 (fun r I' J' R' => (XI g n L I' ∧ (RfX g R' ∧ (R' (ad g 5) 0 = R (ad g 5) 0 ∧ R' (ad g 0) 10 = R (ad g 0) 10) ∧ NL g R') ∧ fz 74 g [43, 44, 47, 48, 50, 51, 52, 53, 55] I I' ∧ fz 74 g [45, 46, 53] J J' ∧ (I' (ad g 53) 1).toInt ≤ (I (ad g 53) 1).toInt + 23760) ∧ r = none) := by
            intro mz
            induction mz with
            | zero =>
              intro i14870 I14871 J14872 RI14871 hrI14871 hTI14871 hSI14871 hPI14871 hI14871 fiI14871 fjJ14872 w14873 ew14873 ai14870 bi14870 j0_I14871 hmlp81_14873
              exact absurd hmlp81_14873 (Nat.not_lt_zero _)
            | succ mz ihlp81_14873 =>
              intro i14870 I14871 J14872 RI14871 hrI14871 hTI14871 hSI14871 hPI14871 hI14871 fiI14871 fjJ14872 w14873 ew14873 ai14870 bi14870 j0_I14871 hmlp81_14873
              have bw14873 := BT_get hI14871.1 53 1 2 (0) (23760) (0) (by decide) 1 (by decide) (by decide)
              rw [ew14873] at bw14873
              have e14875 : I14871 (ad g 1) 1 = L := hI14871.2
              have b14876 := BT_get hI14871.1 1 1 2 (0) (0) (900) (by decide) 1 (by decide) (by decide)
              rw [e14875] at b14876
              refine WP_iload dX9_passDay_81 rfl ?_
              refine WP_aload_n dX9_passDay_83 rfl ?_
              refine WP_getr dX9_passDay_84 fX9_25 rfl (lyx_is hy 49 9 rfl) (rfx hrI14871 49 2 5 (by decide)) ?_
              refine WP_getr dX9_passDay_87 fX9_49 rfl (lyx_is hy 5 0 rfl) hTI14871 ?_
              refine WQ_geti dX9_passDay_90 fX9_61 rfl (lyx_is hy 6 7 rfl) (BT_get hI14871.1 6 1 2 (0) (0) (4) (by decide) 1 (by decide) (by decide)) (fun v14877 ev14877 av14877 bv14877 => ?_)
              refine WQ_icmp_ge 110 dX9_passDay_93 rfl (fun c14877 => ?_) (fun c14877 => ?_)
              · refine WP_aload_n dX9_passDay_110 rfl ?_
                refine WP_dup dX9_passDay_111 rfl ?_
                refine WQ_getiu dX9_passDay_112 fX9_33 rfl (lyx_is hy 53 4 rfl) (fun v14879 ev14879 => ?_)
                refine WQ_iconst (1) (1) dX9_passDay_115 rfl rfl (fun v14880 hv14880 => ?_)
                refine WQ_iaddu dX9_passDay_116 (fun v14881 => ?_)
                refine WQ_puti dX9_passDay_117 fX9_33 rfl rfl (lyx_is hy 53 4 rfl) (fun I14882 eI14882 => ?_)
                have hI14882 : XI g n L I14882 := by rw [eI14882]; exact (xi_f0 hy hI14871 (c := 53) (by decide) (Or.inl (by decide)) (by decide))
                have e14883 : I14882 (ad g 53) 1 = w14873 := by rw [eI14882, pp_ne _ _ (Or.inr (by decide))]; exact ew14873
                have e14884 : I14882 (ad g 1) 1 = L := by rw [eI14882, pp_ne _ _ (Or.inl (lyx_ne hy (by decide) (by decide) (by decide)))]; exact e14875
                have e14885 : I14882 (ad g 6) 1 = v14877 := by rw [eI14882, pp_ne _ _ (Or.inl (lyx_ne hy (by decide) (by decide) (by decide)))]; exact ev14877
                have e14886 : I14882 (ad g 53) 0 = v14881 := by rw [eI14882, pp_self]
                have fr14887 : fz 74 g [43, 44, 47, 48, 50, 51, 52, 53, 55] I I14882 := by rw [eI14882]; exact fzx_pp hy fiI14871 (by decide) (by decide)
                clear eI14882
                exact WP_vret dX9_passDay_120 rfl ⟨⟨hI14882, ⟨hrI14871, ⟨hTI14871.trans hT.symm, hSI14871⟩, hPI14871⟩, fr14887, fjJ14872, (by rw [e14883, ew14854]; omega)⟩, rfl⟩
              · refine WP_aload_n dX9_passDay_96 rfl ?_
                refine WP_aload_n dX9_passDay_97 rfl ?_
                refine WP_iload dX9_passDay_98 rfl ?_
                refine WP_iload_n dX9_passDay_100 rfl ?_
                refine WP_callV3 (k := 9) dX9_passDay_101 ⟨⟨⟨by decide, by decide⟩, zX9_serve⟩, lX9_64, by decide, rfl, vX9_serve.1, vX9_serve.2⟩ (lyx_is hy 49 9 rfl) (sx_serve_53_6 hy hrI14871 hPI14871 hTI14871 hI14871 i14870 v14857 (by omega) (by omega) (by omega) (by omega) (by omega) (by rw [ew14873]; omega)) (Nat.le_of_ble_eq_true rfl) ?_
                intro r I14888 J14889 R14890 hq
                obtain ⟨⟨hI14888, ⟨hrI14888, ⟨htI14888, hsI14888⟩, hpI14888⟩, fiI14888, fjI14888, pI14888⟩, rfl⟩ := hq
                have ht_I14888 := htI14888.trans hTI14871
                have hs_I14888 : R14890 (ad g 0) 10 = R (ad g 0) 10 := hsI14888.trans hSI14871
                have fr14891 : fz 74 g [43, 44, 47, 48, 50, 51, 52, 53, 55] I I14888 := fz_tr fiI14871 (fz_mono fiI14888 (by decide))
                have fr14892 : fz 74 g [45, 46, 53] J J14889 := fz_tr fjJ14872 (fz_mono fjI14888 (by decide))
                have e14893 : I14888 (ad g 6) 1 = v14877 := by rw [fz_at fiI14888 6 (by decide) (by decide)]; exact ev14877
                have e14894 : I14888 (ad g 1) 1 = L := hI14888.2
                have b14895 := BT_get hI14888.1 1 1 2 (0) (0) (900) (by decide) 1 (by decide) (by decide)
                rw [e14894] at b14895
                obtain ⟨w14896, ew14896⟩ : ∃ w : Int32, I14888 (ad g 53) 1 = w := ⟨_, rfl⟩
                have bw14896 := BT_get hI14888.1 53 1 2 (0) (23760) (0) (by decide) 1 (by decide) (by decide)
                rw [ew14896] at bw14896
                rw [ew14896, ew14873] at pI14888
                refine WP_iinc (ls' := [(0, _), (1, _), (2, _), (3, _), (4, _)]) dX9_passDay_104 rfl (by decide) rfl ?_
                have hv14897 : (i14870 + Int32.ofInt (1)).toInt = i14870.toInt + (1) := ia_n rfl (by omega) (by omega)
                generalize i14870 + Int32.ofInt (1) = v14897 at hv14897 ⊢
                refine WP_goto 81 dX9_passDay_107 rfl ?_
                exact WP_sub (fc rfl (fc rfl (fc rfl (fc rfl (fc rfl fn))))) (ihlp81_14873 v14897 I14888 J14889 R14890 hrI14888 ht_I14888 hs_I14888 hpI14888 hI14888 fr14891 fr14892 w14896 ew14896 (by omega) (by omega) (by omega) (by omega))
          exact WP_sub (fc rfl (fc rfl (fc rfl (fc rfl (fc rfl fn))))) (lp81_14873 _ v14869 I14861 J14862 RI14861 hrI14861 hTI14861 hSI14861 hPI14861 hI14861 fiI14861 fjJ14862 w14863 ew14863 (by omega) (by omega) (by omega) (Nat.lt_succ_self _))
        · refine WP_aload_n dX9_passDay_28 rfl ?_
          refine WP_getr dX9_passDay_29 fX9_25 rfl (lyx_is hy 49 9 rfl) (rfx hrI14861 49 2 5 (by decide)) ?_
          refine WP_getr dX9_passDay_32 fX9_49 rfl (lyx_is hy 5 0 rfl) hTI14861 ?_
          refine WP_getr dX9_passDay_35 fX9_55 rfl (lyx_is hy 6 7 rfl) (rfx hrI14861 6 17 19 (by decide)) ?_
          refine WP_iload dX9_passDay_38 rfl ?_
          refine WQ_bipush (7) (7) dX9_passDay_40 rfl rfl (fun v14898 hv14898 => ?_)
          refine WQ_imulk (7) dX9_passDay_42 hv14898 (by omega) (by omega) (fun v14899 hv14899 => ?_)
          refine WP_iload_n dX9_passDay_43 rfl ?_
          refine WQ_iadd dX9_passDay_44 (by omega) (by omega) (fun v14900 hv14900 => ?_)
          refine WQ_iald dX9_passDay_45 (lyx_is hy 19 13 rfl) (lyx_n hy 19 21 rfl) (by omega) (by omega) (fun q hq => BT_get hI14861.1 19 0 21 (-1) (0) (999) (by decide) q (Nat.zero_le _) hq) (fun v14901 av14901 bv14901 ev14901 => ?_)
          clear ev14901
          refine WP_istore (ls' := [(0, _), (1, _), (2, _), (3, _), (4, _), (5, _)]) dX9_passDay_46 (by decide) rfl ?_
          refine WP_aload_n dX9_passDay_48 rfl ?_
          refine WP_getr dX9_passDay_49 fX9_22 rfl (lyx_is hy 49 9 rfl) (rfx hrI14861 49 4 52 (by decide)) ?_
          refine WP_iload dX9_passDay_52 rfl ?_
          refine WP_iload_n dX9_passDay_54 rfl ?_
          have jn71_14906 : ∀ (v14906 : Int32), 0 ≤ v14906.toInt → v14906.toInt ≤ 1000000 → WP g mX9_passDay 71 [(0, .ref (ad g 49)), (1, .ref (ad g 53)), (2, .int bo), (3, .int v14857), (4, .int i14860), (5, .int v14901)] [.int v14906, .int i14860, .ref (ad g 52)] I14861 J14862 RI14861 (fun r I' J' R' => (XI g n L I' ∧ (RfX g R' ∧ (R' (ad g 5) 0 = R (ad g 5) 0 ∧ R' (ad g 0) 10 = R (ad g 0) 10) ∧ NL g R') ∧ fz 74 g [43, 44, 47, 48, 50, 51, 52, 53, 55] I I' ∧ fz 74 g [45, 46, 53] J J' ∧ (I' (ad g 53) 1).toInt ≤ (I (ad g 53) 1).toInt + 23760) ∧ r = none) := by
            intro v14906 av14906 bv14906
            refine WQ_iast dX9_passDay_71 (lyx_is hy 52 13 rfl) (lyx_n hy 52 3 rfl) (by omega) (by omega) (fun I14908 eI14908 => ?_)
            have hI14908 : XI g n L I14908 := by rw [eI14908]; exact (xi_r hy hI14861 (c := 52) (0) (0) (1000000) (by decide) (Or.inl (by decide)) (by decide) (by omega) (by omega))
            have e14909 : I14908 (ad g 53) 1 = w14863 := by rw [eI14908, pp_ne _ _ (Or.inl (lyx_ne hy (by decide) (by decide) (by decide)))]; exact ew14863
            have e14910 : I14908 (ad g 1) 1 = L := by rw [eI14908, pp_ne _ _ (Or.inl (lyx_ne hy (by decide) (by decide) (by decide)))]; exact e14865
            have fr14911 : fz 74 g [43, 44, 47, 48, 50, 51, 52, 53, 55] I I14908 := by rw [eI14908]; exact fzx_pp hy fiI14861 (by decide) (by decide)
            clear eI14908
            refine WP_iinc (ls' := [(0, _), (1, _), (2, _), (3, _), (4, _), (5, _)]) dX9_passDay_72 rfl (by decide) rfl ?_
            have hv14912 : (i14860 + Int32.ofInt (1)).toInt = i14860.toInt + (1) := ia_n rfl (by omega) (by omega)
            generalize i14860 + Int32.ofInt (1) = v14912 at hv14912 ⊢
            refine WP_goto 22 dX9_passDay_75 rfl ?_
            exact WP_sub (fc rfl (fc rfl (fc rfl (fc rfl (fc rfl fn))))) (ihlp22_14863 v14912 I14908 J14862 RI14861 hrI14861 hTI14861 hSI14861 hPI14861 hI14908 fr14911 fjJ14862 w14863 e14909 (by omega) (by omega) (by omega) (by omega))
          refine WQ_if_eq 69 dX9_passDay_55 rfl (fun c14912 => ?_) (fun c14912 => ?_)
          · refine WP_ldc (1000000) dX9_passDay_69 kX9_60 ?_
            obtain ⟨v14914, hv14914, ev14914⟩ : ∃ v : Int32, v.toInt = 1000000 ∧ ((1000000) : Int32) = v := ⟨(1000000), rfl, rfl⟩
            rw [ev14914]; clear ev14914
            exact WP_sub (fc rfl (fc rfl (fc rfl (fc rfl (fc rfl (fc rfl fn)))))) (jn71_14906 v14914 (by omega) (by omega))
          · refine WP_iload dX9_passDay_58 rfl ?_
            refine WQ_iconst (-1) (-1) dX9_passDay_60 rfl rfl (fun v14915 hv14915 => ?_)
            refine WQ_icmp_eq 69 dX9_passDay_61 rfl (fun c14915 => ?_) (fun c14915 => ?_)
            · refine WP_ldc (1000000) dX9_passDay_69 kX9_60 ?_
              obtain ⟨v14917, hv14917, ev14917⟩ : ∃ v : Int32, v.toInt = 1000000 ∧ ((1000000) : Int32) = v := ⟨(1000000), rfl, rfl⟩
              rw [ev14917]; clear ev14917
              exact WP_sub (fc rfl (fc rfl (fc rfl (fc rfl (fc rfl (fc rfl fn)))))) (jn71_14906 v14917 (by omega) (by omega))
            · refine WP_iload dX9_passDay_64 rfl ?_
              refine WP_goto 71 dX9_passDay_66 rfl ?_
              exact WP_sub (fc rfl (fc rfl (fc rfl (fc rfl (fc rfl (fc rfl fn)))))) (jn71_14906 v14901 (by omega) (by omega))
    exact WP_sub (fc rfl (fc rfl (fc rfl (fc rfl (fc rfl fn))))) (lp22_14863 _ v14859 I J R hr hT rfl hP hI fr0 frj0 w14854 ew14854 (by omega) (by omega) (by omega) (Nat.lt_succ_self _))
  · refine WP_aload_n dX9_passDay_14 rfl ?_
    refine WP_aload_n dX9_passDay_15 rfl ?_
    refine WP_callV1 (k := 9) dX9_passDay_16 ⟨⟨⟨by decide, by decide⟩, zX9_openChest⟩, lX9_45, by decide, rfl, vX9_openChest.1, vX9_openChest.2⟩ (lyx_is hy 49 9 rfl) (sx_openChestf_53_6 hy hr hT hI   (by omega)) (Nat.le_of_ble_eq_true rfl) ?_
    intro r I14918 J14919 Ra hq
    obtain ⟨⟨hI14918, ec, fiI14918, fjI14918, pI14918⟩, rfl⟩ := hq
    rw [ec]
    clear ec Ra
    have fr14920 : fz 74 g [43, 44, 47, 48, 50, 51, 52, 53, 55] I I14918 := fz_tr fr0 (fz_mono fiI14918 (by decide))
    have fr14921 : fz 74 g [45, 46, 53] J J14919 := fz_tr frj0 (fz_mono fjI14918 (by decide))
    have e14922 : I14918 (ad g 1) 1 = L := hI14918.2
    have b14923 := BT_get hI14918.1 1 1 2 (0) (0) (900) (by decide) 1 (by decide) (by decide)
    rw [e14922] at b14923
    obtain ⟨w14924, ew14924⟩ : ∃ w : Int32, I14918 (ad g 53) 1 = w := ⟨_, rfl⟩
    have bw14924 := BT_get hI14918.1 53 1 2 (0) (23760) (0) (by decide) 1 (by decide) (by decide)
    rw [ew14924] at bw14924
    rw [ew14924, ew14854] at pI14918
    refine WQ_iconst (0) (0) dX9_passDay_19 rfl rfl (fun v14925 hv14925 => ?_)
    refine WP_istore (ls' := [(0, _), (1, _), (2, _), (3, _), (4, _)]) dX9_passDay_20 (by decide) rfl ?_
    have lp22_14929 : ∀ (mz : Nat) (i14926 : Int32) (I14927 : pI) (J14928 : pJ) (RI14927 : pR), RfX g RI14927 → RI14927 (ad g 5) 0 = some (ad g 6) → RI14927 (ad g 0) 10 = R (ad g 0) 10 → NL g RI14927 → XI g n L I14927 → fz 74 g [43, 44, 47, 48, 50, 51, 52, 53, 55] I I14927 → fz 74 g [45, 46, 53] J J14928 → ∀ (w14929 : Int32), I14927 (ad g 53) 1 = w14929 → 0 ≤ i14926.toInt → i14926.toInt ≤ 3 → w14929.toInt ≤ w14854.toInt → (4 - i14926.toInt).toNat < mz → WP g mX9_passDay 22 [(0, .ref (ad g 49)), (1, .ref (ad g 53)), (2, .int bo), (3, .int v14857), (4, .int i14926)] [] I14927 J14928 RI14927 (fun r I' J' R' => (XI g n L I' ∧ (RfX g R' ∧ (R' (ad g 5) 0 = R (ad g 5) 0 ∧ R' (ad g 0) 10 = R (ad g 0) 10) ∧ NL g R') ∧ fz 74 g [43, 44, 47, 48, 50, 51, 52, 53, 55] I I' ∧ fz 74 g [45, 46, 53] J J' ∧ (I' (ad g 53) 1).toInt ≤ (I (ad g 53) 1).toInt + 23760) ∧ r = none) := by
      intro mz
      induction mz with
      | zero =>
        intro i14926 I14927 J14928 RI14927 hrI14927 hTI14927 hSI14927 hPI14927 hI14927 fiI14927 fjJ14928 w14929 ew14929 ai14926 bi14926 j0_I14927 hmlp22_14929
        exact absurd hmlp22_14929 (Nat.not_lt_zero _)
      | succ mz ihlp22_14929 =>
        intro i14926 I14927 J14928 RI14927 hrI14927 hTI14927 hSI14927 hPI14927 hI14927 fiI14927 fjJ14928 w14929 ew14929 ai14926 bi14926 j0_I14927 hmlp22_14929
        have bw14929 := BT_get hI14927.1 53 1 2 (0) (23760) (0) (by decide) 1 (by decide) (by decide)
        rw [ew14929] at bw14929
        have e14931 : I14927 (ad g 1) 1 = L := hI14927.2
        have b14932 := BT_get hI14927.1 1 1 2 (0) (0) (900) (by decide) 1 (by decide) (by decide)
        rw [e14931] at b14932
        refine WP_iload dX9_passDay_22 rfl ?_
        refine WQ_iconst (3) (3) dX9_passDay_24 rfl rfl (fun v14933 hv14933 => ?_)
        refine WQ_icmp_ge 78 dX9_passDay_25 rfl (fun c14933 => ?_) (fun c14933 => ?_)
        · refine WQ_iconst (0) (0) dX9_passDay_78 rfl rfl (fun v14935 hv14935 => ?_)
          refine WP_istore (ls' := [(0, _), (1, _), (2, _), (3, _), (4, _)]) dX9_passDay_79 (by decide) rfl ?_
          have lp81_14939 : ∀ (mz : Nat) (i14936 : Int32) (I14937 : pI) (J14938 : pJ) (RI14937 : pR), RfX g RI14937 → RI14937 (ad g 5) 0 = some (ad g 6) → RI14937 (ad g 0) 10 = R (ad g 0) 10 → NL g RI14937 → XI g n L I14937 → fz 74 g [43, 44, 47, 48, 50, 51, 52, 53, 55] I I14937 → fz 74 g [45, 46, 53] J J14938 → ∀ (w14939 : Int32), I14937 (ad g 53) 1 = w14939 → 0 ≤ i14936.toInt → i14936.toInt ≤ 4 → w14939.toInt ≤ w14854.toInt + 5940 * i14936.toInt → (5 - i14936.toInt).toNat < mz → WP g mX9_passDay 81 [(0, .ref (ad g 49)), (1, .ref (ad g 53)), (2, .int bo), (3, .int v14857), (4, .int i14936)] [] I14937 J14938 RI14937 (fun r I' J' R' => (XI g n L I' ∧ (RfX g R' ∧ (R' (ad g 5) 0 = R (ad g 5) 0 ∧ R' (ad g 0) 10 = R (ad g 0) 10) ∧ NL g R') ∧ fz 74 g [43, 44, 47, 48, 50, 51, 52, 53, 55] I I' ∧ fz 74 g [45, 46, 53] J J' ∧ (I' (ad g 53) 1).toInt ≤ (I (ad g 53) 1).toInt + 23760) ∧ r = none) := by
            intro mz
            induction mz with
            | zero =>
              intro i14936 I14937 J14938 RI14937 hrI14937 hTI14937 hSI14937 hPI14937 hI14937 fiI14937 fjJ14938 w14939 ew14939 ai14936 bi14936 j0_I14937 hmlp81_14939
              exact absurd hmlp81_14939 (Nat.not_lt_zero _)
            | succ mz ihlp81_14939 =>
              intro i14936 I14937 J14938 RI14937 hrI14937 hTI14937 hSI14937 hPI14937 hI14937 fiI14937 fjJ14938 w14939 ew14939 ai14936 bi14936 j0_I14937 hmlp81_14939
              have bw14939 := BT_get hI14937.1 53 1 2 (0) (23760) (0) (by decide) 1 (by decide) (by decide)
              rw [ew14939] at bw14939
              have e14941 : I14937 (ad g 1) 1 = L := hI14937.2
              have b14942 := BT_get hI14937.1 1 1 2 (0) (0) (900) (by decide) 1 (by decide) (by decide)
              rw [e14941] at b14942
              refine WP_iload dX9_passDay_81 rfl ?_
              refine WP_aload_n dX9_passDay_83 rfl ?_
              refine WP_getr dX9_passDay_84 fX9_25 rfl (lyx_is hy 49 9 rfl) (rfx hrI14937 49 2 5 (by decide)) ?_
              refine WP_getr dX9_passDay_87 fX9_49 rfl (lyx_is hy 5 0 rfl) hTI14937 ?_
              refine WQ_geti dX9_passDay_90 fX9_61 rfl (lyx_is hy 6 7 rfl) (BT_get hI14937.1 6 1 2 (0) (0) (4) (by decide) 1 (by decide) (by decide)) (fun v14943 ev14943 av14943 bv14943 => ?_)
              refine WQ_icmp_ge 110 dX9_passDay_93 rfl (fun c14943 => ?_) (fun c14943 => ?_)
              · refine WP_aload_n dX9_passDay_110 rfl ?_
                refine WP_dup dX9_passDay_111 rfl ?_
                refine WQ_getiu dX9_passDay_112 fX9_33 rfl (lyx_is hy 53 4 rfl) (fun v14945 ev14945 => ?_)
                refine WQ_iconst (1) (1) dX9_passDay_115 rfl rfl (fun v14946 hv14946 => ?_)
                refine WQ_iaddu dX9_passDay_116 (fun v14947 => ?_)
                refine WQ_puti dX9_passDay_117 fX9_33 rfl rfl (lyx_is hy 53 4 rfl) (fun I14948 eI14948 => ?_)
                have hI14948 : XI g n L I14948 := by rw [eI14948]; exact (xi_f0 hy hI14937 (c := 53) (by decide) (Or.inl (by decide)) (by decide))
                have e14949 : I14948 (ad g 53) 1 = w14939 := by rw [eI14948, pp_ne _ _ (Or.inr (by decide))]; exact ew14939
                have e14950 : I14948 (ad g 1) 1 = L := by rw [eI14948, pp_ne _ _ (Or.inl (lyx_ne hy (by decide) (by decide) (by decide)))]; exact e14941
                have e14951 : I14948 (ad g 6) 1 = v14943 := by rw [eI14948, pp_ne _ _ (Or.inl (lyx_ne hy (by decide) (by decide) (by decide)))]; exact ev14943
                have e14952 : I14948 (ad g 53) 0 = v14947 := by rw [eI14948, pp_self]
                have fr14953 : fz 74 g [43, 44, 47, 48, 50, 51, 52, 53, 55] I I14948 := by rw [eI14948]; exact fzx_pp hy fiI14937 (by decide) (by decide)
                clear eI14948
                exact WP_vret dX9_passDay_120 rfl ⟨⟨hI14948, ⟨hrI14937, ⟨hTI14937.trans hT.symm, hSI14937⟩, hPI14937⟩, fr14953, fjJ14938, (by rw [e14949, ew14854]; omega)⟩, rfl⟩
              · refine WP_aload_n dX9_passDay_96 rfl ?_
                refine WP_aload_n dX9_passDay_97 rfl ?_
                refine WP_iload dX9_passDay_98 rfl ?_
                refine WP_iload_n dX9_passDay_100 rfl ?_
                refine WP_callV3 (k := 9) dX9_passDay_101 ⟨⟨⟨by decide, by decide⟩, zX9_serve⟩, lX9_64, by decide, rfl, vX9_serve.1, vX9_serve.2⟩ (lyx_is hy 49 9 rfl) (sx_serve_53_6 hy hrI14937 hPI14937 hTI14937 hI14937 i14936 v14857 (by omega) (by omega) (by omega) (by omega) (by omega) (by rw [ew14939]; omega)) (Nat.le_of_ble_eq_true rfl) ?_
                intro r I14954 J14955 R14956 hq
                obtain ⟨⟨hI14954, ⟨hrI14954, ⟨htI14954, hsI14954⟩, hpI14954⟩, fiI14954, fjI14954, pI14954⟩, rfl⟩ := hq
                have ht_I14954 := htI14954.trans hTI14937
                have hs_I14954 : R14956 (ad g 0) 10 = R (ad g 0) 10 := hsI14954.trans hSI14937
                have fr14957 : fz 74 g [43, 44, 47, 48, 50, 51, 52, 53, 55] I I14954 := fz_tr fiI14937 (fz_mono fiI14954 (by decide))
                have fr14958 : fz 74 g [45, 46, 53] J J14955 := fz_tr fjJ14938 (fz_mono fjI14954 (by decide))
                have e14959 : I14954 (ad g 6) 1 = v14943 := by rw [fz_at fiI14954 6 (by decide) (by decide)]; exact ev14943
                have e14960 : I14954 (ad g 1) 1 = L := hI14954.2
                have b14961 := BT_get hI14954.1 1 1 2 (0) (0) (900) (by decide) 1 (by decide) (by decide)
                rw [e14960] at b14961
                obtain ⟨w14962, ew14962⟩ : ∃ w : Int32, I14954 (ad g 53) 1 = w := ⟨_, rfl⟩
                have bw14962 := BT_get hI14954.1 53 1 2 (0) (23760) (0) (by decide) 1 (by decide) (by decide)
                rw [ew14962] at bw14962
                rw [ew14962, ew14939] at pI14954
                refine WP_iinc (ls' := [(0, _), (1, _), (2, _), (3, _), (4, _)]) dX9_passDay_104 rfl (by decide) rfl ?_
                have hv14963 : (i14936 + Int32.ofInt (1)).toInt = i14936.toInt + (1) := ia_n rfl (by omega) (by omega)
                generalize i14936 + Int32.ofInt (1) = v14963 at hv14963 ⊢
                refine WP_goto 81 dX9_passDay_107 rfl ?_
                exact WP_sub (fc rfl (fc rfl (fc rfl (fc rfl (fc rfl fn))))) (ihlp81_14939 v14963 I14954 J14955 R14956 hrI14954 ht_I14954 hs_I14954 hpI14954 hI14954 fr14957 fr14958 w14962 ew14962 (by omega) (by omega) (by omega) (by omega))
          exact WP_sub (fc rfl (fc rfl (fc rfl (fc rfl (fc rfl fn))))) (lp81_14939 _ v14935 I14927 J14928 RI14927 hrI14927 hTI14927 hSI14927 hPI14927 hI14927 fiI14927 fjJ14928 w14929 ew14929 (by omega) (by omega) (by omega) (Nat.lt_succ_self _))
        · refine WP_aload_n dX9_passDay_28 rfl ?_
          refine WP_getr dX9_passDay_29 fX9_25 rfl (lyx_is hy 49 9 rfl) (rfx hrI14927 49 2 5 (by decide)) ?_
          refine WP_getr dX9_passDay_32 fX9_49 rfl (lyx_is hy 5 0 rfl) hTI14927 ?_
          refine WP_getr dX9_passDay_35 fX9_55 rfl (lyx_is hy 6 7 rfl) (rfx hrI14927 6 17 19 (by decide)) ?_
          refine WP_iload dX9_passDay_38 rfl ?_
          refine WQ_bipush (7) (7) dX9_passDay_40 rfl rfl (fun v14964 hv14964 => ?_)
          refine WQ_imulk (7) dX9_passDay_42 hv14964 (by omega) (by omega) (fun v14965 hv14965 => ?_)
          refine WP_iload_n dX9_passDay_43 rfl ?_
          refine WQ_iadd dX9_passDay_44 (by omega) (by omega) (fun v14966 hv14966 => ?_)
          refine WQ_iald dX9_passDay_45 (lyx_is hy 19 13 rfl) (lyx_n hy 19 21 rfl) (by omega) (by omega) (fun q hq => BT_get hI14927.1 19 0 21 (-1) (0) (999) (by decide) q (Nat.zero_le _) hq) (fun v14967 av14967 bv14967 ev14967 => ?_)
          clear ev14967
          refine WP_istore (ls' := [(0, _), (1, _), (2, _), (3, _), (4, _), (5, _)]) dX9_passDay_46 (by decide) rfl ?_
          refine WP_aload_n dX9_passDay_48 rfl ?_
          refine WP_getr dX9_passDay_49 fX9_22 rfl (lyx_is hy 49 9 rfl) (rfx hrI14927 49 4 52 (by decide)) ?_
          refine WP_iload dX9_passDay_52 rfl ?_
          refine WP_iload_n dX9_passDay_54 rfl ?_
          have jn71_14972 : ∀ (v14972 : Int32), 0 ≤ v14972.toInt → v14972.toInt ≤ 1000000 → WP g mX9_passDay 71 [(0, .ref (ad g 49)), (1, .ref (ad g 53)), (2, .int bo), (3, .int v14857), (4, .int i14926), (5, .int v14967)] [.int v14972, .int i14926, .ref (ad g 52)] I14927 J14928 RI14927 (fun r I' J' R' => (XI g n L I' ∧ (RfX g R' ∧ (R' (ad g 5) 0 = R (ad g 5) 0 ∧ R' (ad g 0) 10 = R (ad g 0) 10) ∧ NL g R') ∧ fz 74 g [43, 44, 47, 48, 50, 51, 52, 53, 55] I I' ∧ fz 74 g [45, 46, 53] J J' ∧ (I' (ad g 53) 1).toInt ≤ (I (ad g 53) 1).toInt + 23760) ∧ r = none) := by
            intro v14972 av14972 bv14972
            refine WQ_iast dX9_passDay_71 (lyx_is hy 52 13 rfl) (lyx_n hy 52 3 rfl) (by omega) (by omega) (fun I14974 eI14974 => ?_)
            have hI14974 : XI g n L I14974 := by rw [eI14974]; exact (xi_r hy hI14927 (c := 52) (0) (0) (1000000) (by decide) (Or.inl (by decide)) (by decide) (by omega) (by omega))
            have e14975 : I14974 (ad g 53) 1 = w14929 := by rw [eI14974, pp_ne _ _ (Or.inl (lyx_ne hy (by decide) (by decide) (by decide)))]; exact ew14929
            have e14976 : I14974 (ad g 1) 1 = L := by rw [eI14974, pp_ne _ _ (Or.inl (lyx_ne hy (by decide) (by decide) (by decide)))]; exact e14931
            have fr14977 : fz 74 g [43, 44, 47, 48, 50, 51, 52, 53, 55] I I14974 := by rw [eI14974]; exact fzx_pp hy fiI14927 (by decide) (by decide)
            clear eI14974
            refine WP_iinc (ls' := [(0, _), (1, _), (2, _), (3, _), (4, _), (5, _)]) dX9_passDay_72 rfl (by decide) rfl ?_
            have hv14978 : (i14926 + Int32.ofInt (1)).toInt = i14926.toInt + (1) := ia_n rfl (by omega) (by omega)
            generalize i14926 + Int32.ofInt (1) = v14978 at hv14978 ⊢
            refine WP_goto 22 dX9_passDay_75 rfl ?_
            exact WP_sub (fc rfl (fc rfl (fc rfl (fc rfl (fc rfl fn))))) (ihlp22_14929 v14978 I14974 J14928 RI14927 hrI14927 hTI14927 hSI14927 hPI14927 hI14974 fr14977 fjJ14928 w14929 e14975 (by omega) (by omega) (by omega) (by omega))
          refine WQ_if_eq 69 dX9_passDay_55 rfl (fun c14978 => ?_) (fun c14978 => ?_)
          · refine WP_ldc (1000000) dX9_passDay_69 kX9_60 ?_
            obtain ⟨v14980, hv14980, ev14980⟩ : ∃ v : Int32, v.toInt = 1000000 ∧ ((1000000) : Int32) = v := ⟨(1000000), rfl, rfl⟩
            rw [ev14980]; clear ev14980
            exact WP_sub (fc rfl (fc rfl (fc rfl (fc rfl (fc rfl (fc rfl fn)))))) (jn71_14972 v14980 (by omega) (by omega))
          · refine WP_iload dX9_passDay_58 rfl ?_
            refine WQ_iconst (-1) (-1) dX9_passDay_60 rfl rfl (fun v14981 hv14981 => ?_)
            refine WQ_icmp_eq 69 dX9_passDay_61 rfl (fun c14981 => ?_) (fun c14981 => ?_)
            · refine WP_ldc (1000000) dX9_passDay_69 kX9_60 ?_
              obtain ⟨v14983, hv14983, ev14983⟩ : ∃ v : Int32, v.toInt = 1000000 ∧ ((1000000) : Int32) = v := ⟨(1000000), rfl, rfl⟩
              rw [ev14983]; clear ev14983
              exact WP_sub (fc rfl (fc rfl (fc rfl (fc rfl (fc rfl (fc rfl fn)))))) (jn71_14972 v14983 (by omega) (by omega))
            · refine WP_iload dX9_passDay_64 rfl ?_
              refine WP_goto 71 dX9_passDay_66 rfl ?_
              exact WP_sub (fc rfl (fc rfl (fc rfl (fc rfl (fc rfl (fc rfl fn)))))) (jn71_14972 v14967 (by omega) (by omega))
    exact WP_sub (fc rfl (fc rfl (fc rfl (fc rfl (fc rfl fn))))) (lp22_14929 _ v14925 I14918 J14919 R hr hT rfl hP hI14918 fr14920 fr14921 w14924 ew14924 (by omega) (by omega) (by omega) (Nat.lt_succ_self _))
set_option maxHeartbeats 4000000 in
set_option maxRecDepth 100000 in
theorem sx_passDay_53_27 {g : GG} {n : Int} {L : Int32} (hy : LyX g)  {I : pI} {J : pJ} {R : pR} (hr : RfX g R) (hP : NL g R) (hT : R (ad g 5) 0 = some (ad g 27)) (hI : XI g n L I) (bo : Int32) (bo_lo : 0 ≤ bo.toInt) (bo_hi : bo.toInt ≤ 1) (hn : 0 ≤ n ∧ n ≤ 40000) (hb : (I (ad g 53) 1).toInt ≤ 23760 * n + 0 - 23760) : SP g mX9_passDay [.ref (ad g 49), .ref (ad g 53), .int bo] I J R (fun r I' J' R' => (XI g n L I' ∧ (RfX g R' ∧ (R' (ad g 5) 0 = R (ad g 5) 0 ∧ R' (ad g 0) 10 = R (ad g 0) 10) ∧ NL g R') ∧ fz 74 g [43, 44, 47, 48, 50, 51, 52, 53, 55] I I' ∧ fz 74 g [45, 46, 53] J J' ∧ (I' (ad g 53) 1).toInt ≤ (I (ad g 53) 1).toInt + 23760) ∧ r = none) := by
  refine SP_of ⟨by decide, rfl⟩ (Nat.le_of_ble_eq_true rfl) ?_
  have e14984 : I (ad g 1) 1 = L := hI.2
  have b14985 := BT_get hI.1 1 1 2 (0) (0) (900) (by decide) 1 (by decide) (by decide)
  rw [e14984] at b14985
  have fr0 : fz 74 g [43, 44, 47, 48, 50, 51, 52, 53, 55] I I := fz_rf
  have frj0 : fz 74 g [45, 46, 53] J J := fz_rf
  obtain ⟨w14986, ew14986⟩ : ∃ w : Int32, I (ad g 53) 1 = w := ⟨_, rfl⟩
  have bw14986 := BT_get hI.1 53 1 2 (0) (23760) (0) (by decide) 1 (by decide) (by decide)
  rw [ew14986] at bw14986
  rw [ew14986] at hb
  refine WP_aload_n dX9_passDay_0 rfl ?_
  refine WQ_getiu dX9_passDay_1 fX9_33 rfl (lyx_is hy 53 4 rfl) (fun v14987 ev14987 => ?_)
  refine WQ_bipush (7) (7) dX9_passDay_4 rfl rfl (fun v14988 hv14988 => ?_)
  refine WQ_floorMod dX9_passDay_6 lX9_39 ⟨by decide, Nat.le_of_ble_eq_true rfl⟩ hv14988 (fun v14989 av14989 bv14989 => ?_)
  refine WP_istore_n (ls' := [(0, _), (1, _), (2, _), (3, _)]) dX9_passDay_9 (by decide) rfl ?_
  refine WP_iload_n dX9_passDay_10 rfl ?_
  refine WQ_if_ne 19 dX9_passDay_11 rfl (fun c14989 => ?_) (fun c14989 => ?_)
  · refine WQ_iconst (0) (0) dX9_passDay_19 rfl rfl (fun v14991 hv14991 => ?_)
    refine WP_istore (ls' := [(0, _), (1, _), (2, _), (3, _), (4, _)]) dX9_passDay_20 (by decide) rfl ?_
    have lp22_14995 : ∀ (mz : Nat) (i14992 : Int32) (I14993 : pI) (J14994 : pJ) (RI14993 : pR), RfX g RI14993 → RI14993 (ad g 5) 0 = some (ad g 27) → RI14993 (ad g 0) 10 = R (ad g 0) 10 → NL g RI14993 → XI g n L I14993 → fz 74 g [43, 44, 47, 48, 50, 51, 52, 53, 55] I I14993 → fz 74 g [45, 46, 53] J J14994 → ∀ (w14995 : Int32), I14993 (ad g 53) 1 = w14995 → 0 ≤ i14992.toInt → i14992.toInt ≤ 3 → w14995.toInt ≤ w14986.toInt → (4 - i14992.toInt).toNat < mz → WP g mX9_passDay 22 [(0, .ref (ad g 49)), (1, .ref (ad g 53)), (2, .int bo), (3, .int v14989), (4, .int i14992)] [] I14993 J14994 RI14993 (fun r I' J' R' => (XI g n L I' ∧ (RfX g R' ∧ (R' (ad g 5) 0 = R (ad g 5) 0 ∧ R' (ad g 0) 10 = R (ad g 0) 10) ∧ NL g R') ∧ fz 74 g [43, 44, 47, 48, 50, 51, 52, 53, 55] I I' ∧ fz 74 g [45, 46, 53] J J' ∧ (I' (ad g 53) 1).toInt ≤ (I (ad g 53) 1).toInt + 23760) ∧ r = none) := by
      intro mz
      induction mz with
      | zero =>
        intro i14992 I14993 J14994 RI14993 hrI14993 hTI14993 hSI14993 hPI14993 hI14993 fiI14993 fjJ14994 w14995 ew14995 ai14992 bi14992 j0_I14993 hmlp22_14995
        exact absurd hmlp22_14995 (Nat.not_lt_zero _)
      | succ mz ihlp22_14995 =>
        intro i14992 I14993 J14994 RI14993 hrI14993 hTI14993 hSI14993 hPI14993 hI14993 fiI14993 fjJ14994 w14995 ew14995 ai14992 bi14992 j0_I14993 hmlp22_14995
        have bw14995 := BT_get hI14993.1 53 1 2 (0) (23760) (0) (by decide) 1 (by decide) (by decide)
        rw [ew14995] at bw14995
        have e14997 : I14993 (ad g 1) 1 = L := hI14993.2
        have b14998 := BT_get hI14993.1 1 1 2 (0) (0) (900) (by decide) 1 (by decide) (by decide)
        rw [e14997] at b14998
        refine WP_iload dX9_passDay_22 rfl ?_
        refine WQ_iconst (3) (3) dX9_passDay_24 rfl rfl (fun v14999 hv14999 => ?_)
        refine WQ_icmp_ge 78 dX9_passDay_25 rfl (fun c14999 => ?_) (fun c14999 => ?_)
        · refine WQ_iconst (0) (0) dX9_passDay_78 rfl rfl (fun v15001 hv15001 => ?_)
          refine WP_istore (ls' := [(0, _), (1, _), (2, _), (3, _), (4, _)]) dX9_passDay_79 (by decide) rfl ?_
          have lp81_15005 : ∀ (mz : Nat) (i15002 : Int32) (I15003 : pI) (J15004 : pJ) (RI15003 : pR), RfX g RI15003 → RI15003 (ad g 5) 0 = some (ad g 27) → RI15003 (ad g 0) 10 = R (ad g 0) 10 → NL g RI15003 → XI g n L I15003 → fz 74 g [43, 44, 47, 48, 50, 51, 52, 53, 55] I I15003 → fz 74 g [45, 46, 53] J J15004 → ∀ (w15005 : Int32), I15003 (ad g 53) 1 = w15005 → 0 ≤ i15002.toInt → i15002.toInt ≤ 4 → w15005.toInt ≤ w14986.toInt + 5940 * i15002.toInt → (5 - i15002.toInt).toNat < mz → WP g mX9_passDay 81 [(0, .ref (ad g 49)), (1, .ref (ad g 53)), (2, .int bo), (3, .int v14989), (4, .int i15002)] [] I15003 J15004 RI15003 (fun r I' J' R' => (XI g n L I' ∧ (RfX g R' ∧ (R' (ad g 5) 0 = R (ad g 5) 0 ∧ R' (ad g 0) 10 = R (ad g 0) 10) ∧ NL g R') ∧ fz 74 g [43, 44, 47, 48, 50, 51, 52, 53, 55] I I' ∧ fz 74 g [45, 46, 53] J J' ∧ (I' (ad g 53) 1).toInt ≤ (I (ad g 53) 1).toInt + 23760) ∧ r = none) := by
            intro mz
            induction mz with
            | zero =>
              intro i15002 I15003 J15004 RI15003 hrI15003 hTI15003 hSI15003 hPI15003 hI15003 fiI15003 fjJ15004 w15005 ew15005 ai15002 bi15002 j0_I15003 hmlp81_15005
              exact absurd hmlp81_15005 (Nat.not_lt_zero _)
            | succ mz ihlp81_15005 =>
              intro i15002 I15003 J15004 RI15003 hrI15003 hTI15003 hSI15003 hPI15003 hI15003 fiI15003 fjJ15004 w15005 ew15005 ai15002 bi15002 j0_I15003 hmlp81_15005
              have bw15005 := BT_get hI15003.1 53 1 2 (0) (23760) (0) (by decide) 1 (by decide) (by decide)
              rw [ew15005] at bw15005
              have e15007 : I15003 (ad g 1) 1 = L := hI15003.2
              have b15008 := BT_get hI15003.1 1 1 2 (0) (0) (900) (by decide) 1 (by decide) (by decide)
              rw [e15007] at b15008
              refine WP_iload dX9_passDay_81 rfl ?_
              refine WP_aload_n dX9_passDay_83 rfl ?_
              refine WP_getr dX9_passDay_84 fX9_25 rfl (lyx_is hy 49 9 rfl) (rfx hrI15003 49 2 5 (by decide)) ?_
              refine WP_getr dX9_passDay_87 fX9_49 rfl (lyx_is hy 5 0 rfl) hTI15003 ?_
              refine WQ_geti dX9_passDay_90 fX9_61 rfl (lyx_is hy 27 7 rfl) (BT_get hI15003.1 27 1 2 (0) (0) (4) (by decide) 1 (by decide) (by decide)) (fun v15009 ev15009 av15009 bv15009 => ?_)
              refine WQ_icmp_ge 110 dX9_passDay_93 rfl (fun c15009 => ?_) (fun c15009 => ?_)
              · refine WP_aload_n dX9_passDay_110 rfl ?_
                refine WP_dup dX9_passDay_111 rfl ?_
                refine WQ_getiu dX9_passDay_112 fX9_33 rfl (lyx_is hy 53 4 rfl) (fun v15011 ev15011 => ?_)
                refine WQ_iconst (1) (1) dX9_passDay_115 rfl rfl (fun v15012 hv15012 => ?_)
                refine WQ_iaddu dX9_passDay_116 (fun v15013 => ?_)
                refine WQ_puti dX9_passDay_117 fX9_33 rfl rfl (lyx_is hy 53 4 rfl) (fun I15014 eI15014 => ?_)
                have hI15014 : XI g n L I15014 := by rw [eI15014]; exact (xi_f0 hy hI15003 (c := 53) (by decide) (Or.inl (by decide)) (by decide))
                have e15015 : I15014 (ad g 53) 1 = w15005 := by rw [eI15014, pp_ne _ _ (Or.inr (by decide))]; exact ew15005
                have e15016 : I15014 (ad g 1) 1 = L := by rw [eI15014, pp_ne _ _ (Or.inl (lyx_ne hy (by decide) (by decide) (by decide)))]; exact e15007
                have e15017 : I15014 (ad g 27) 1 = v15009 := by rw [eI15014, pp_ne _ _ (Or.inl (lyx_ne hy (by decide) (by decide) (by decide)))]; exact ev15009
                have e15018 : I15014 (ad g 53) 0 = v15013 := by rw [eI15014, pp_self]
                have fr15019 : fz 74 g [43, 44, 47, 48, 50, 51, 52, 53, 55] I I15014 := by rw [eI15014]; exact fzx_pp hy fiI15003 (by decide) (by decide)
                clear eI15014
                exact WP_vret dX9_passDay_120 rfl ⟨⟨hI15014, ⟨hrI15003, ⟨hTI15003.trans hT.symm, hSI15003⟩, hPI15003⟩, fr15019, fjJ15004, (by rw [e15015, ew14986]; omega)⟩, rfl⟩
              · refine WP_aload_n dX9_passDay_96 rfl ?_
                refine WP_aload_n dX9_passDay_97 rfl ?_
                refine WP_iload dX9_passDay_98 rfl ?_
                refine WP_iload_n dX9_passDay_100 rfl ?_
                refine WP_callV3 (k := 9) dX9_passDay_101 ⟨⟨⟨by decide, by decide⟩, zX9_serve⟩, lX9_64, by decide, rfl, vX9_serve.1, vX9_serve.2⟩ (lyx_is hy 49 9 rfl) (sx_serve_53_27 hy hrI15003 hPI15003 hTI15003 hI15003 i15002 v14989 (by omega) (by omega) (by omega) (by omega) (by omega) (by rw [ew15005]; omega)) (Nat.le_of_ble_eq_true rfl) ?_
                intro r I15020 J15021 R15022 hq
                obtain ⟨⟨hI15020, ⟨hrI15020, ⟨htI15020, hsI15020⟩, hpI15020⟩, fiI15020, fjI15020, pI15020⟩, rfl⟩ := hq
                have ht_I15020 := htI15020.trans hTI15003
                have hs_I15020 : R15022 (ad g 0) 10 = R (ad g 0) 10 := hsI15020.trans hSI15003
                have fr15023 : fz 74 g [43, 44, 47, 48, 50, 51, 52, 53, 55] I I15020 := fz_tr fiI15003 (fz_mono fiI15020 (by decide))
                have fr15024 : fz 74 g [45, 46, 53] J J15021 := fz_tr fjJ15004 (fz_mono fjI15020 (by decide))
                have e15025 : I15020 (ad g 27) 1 = v15009 := by rw [fz_at fiI15020 27 (by decide) (by decide)]; exact ev15009
                have e15026 : I15020 (ad g 1) 1 = L := hI15020.2
                have b15027 := BT_get hI15020.1 1 1 2 (0) (0) (900) (by decide) 1 (by decide) (by decide)
                rw [e15026] at b15027
                obtain ⟨w15028, ew15028⟩ : ∃ w : Int32, I15020 (ad g 53) 1 = w := ⟨_, rfl⟩
                have bw15028 := BT_get hI15020.1 53 1 2 (0) (23760) (0) (by decide) 1 (by decide) (by decide)
                rw [ew15028] at bw15028
                rw [ew15028, ew15005] at pI15020
                refine WP_iinc (ls' := [(0, _), (1, _), (2, _), (3, _), (4, _)]) dX9_passDay_104 rfl (by decide) rfl ?_
                have hv15029 : (i15002 + Int32.ofInt (1)).toInt = i15002.toInt + (1) := ia_n rfl (by omega) (by omega)
                generalize i15002 + Int32.ofInt (1) = v15029 at hv15029 ⊢
                refine WP_goto 81 dX9_passDay_107 rfl ?_
                exact WP_sub (fc rfl (fc rfl (fc rfl (fc rfl (fc rfl fn))))) (ihlp81_15005 v15029 I15020 J15021 R15022 hrI15020 ht_I15020 hs_I15020 hpI15020 hI15020 fr15023 fr15024 w15028 ew15028 (by omega) (by omega) (by omega) (by omega))
          exact WP_sub (fc rfl (fc rfl (fc rfl (fc rfl (fc rfl fn))))) (lp81_15005 _ v15001 I14993 J14994 RI14993 hrI14993 hTI14993 hSI14993 hPI14993 hI14993 fiI14993 fjJ14994 w14995 ew14995 (by omega) (by omega) (by omega) (Nat.lt_succ_self _))
        · refine WP_aload_n dX9_passDay_28 rfl ?_
          refine WP_getr dX9_passDay_29 fX9_25 rfl (lyx_is hy 49 9 rfl) (rfx hrI14993 49 2 5 (by decide)) ?_
          refine WP_getr dX9_passDay_32 fX9_49 rfl (lyx_is hy 5 0 rfl) hTI14993 ?_
          refine WP_getr dX9_passDay_35 fX9_55 rfl (lyx_is hy 27 7 rfl) (rfx hrI14993 27 17 40 (by decide)) ?_
          refine WP_iload dX9_passDay_38 rfl ?_
          refine WQ_bipush (7) (7) dX9_passDay_40 rfl rfl (fun v15030 hv15030 => ?_)
          refine WQ_imulk (7) dX9_passDay_42 hv15030 (by omega) (by omega) (fun v15031 hv15031 => ?_)
          refine WP_iload_n dX9_passDay_43 rfl ?_
          refine WQ_iadd dX9_passDay_44 (by omega) (by omega) (fun v15032 hv15032 => ?_)
          refine WQ_iald dX9_passDay_45 (lyx_is hy 40 13 rfl) (lyx_n hy 40 21 rfl) (by omega) (by omega) (fun q hq => BT_get hI14993.1 40 0 21 (-1) (0) (999) (by decide) q (Nat.zero_le _) hq) (fun v15033 av15033 bv15033 ev15033 => ?_)
          clear ev15033
          refine WP_istore (ls' := [(0, _), (1, _), (2, _), (3, _), (4, _), (5, _)]) dX9_passDay_46 (by decide) rfl ?_
          refine WP_aload_n dX9_passDay_48 rfl ?_
          refine WP_getr dX9_passDay_49 fX9_22 rfl (lyx_is hy 49 9 rfl) (rfx hrI14993 49 4 52 (by decide)) ?_
          refine WP_iload dX9_passDay_52 rfl ?_
          refine WP_iload_n dX9_passDay_54 rfl ?_
          have jn71_15038 : ∀ (v15038 : Int32), 0 ≤ v15038.toInt → v15038.toInt ≤ 1000000 → WP g mX9_passDay 71 [(0, .ref (ad g 49)), (1, .ref (ad g 53)), (2, .int bo), (3, .int v14989), (4, .int i14992), (5, .int v15033)] [.int v15038, .int i14992, .ref (ad g 52)] I14993 J14994 RI14993 (fun r I' J' R' => (XI g n L I' ∧ (RfX g R' ∧ (R' (ad g 5) 0 = R (ad g 5) 0 ∧ R' (ad g 0) 10 = R (ad g 0) 10) ∧ NL g R') ∧ fz 74 g [43, 44, 47, 48, 50, 51, 52, 53, 55] I I' ∧ fz 74 g [45, 46, 53] J J' ∧ (I' (ad g 53) 1).toInt ≤ (I (ad g 53) 1).toInt + 23760) ∧ r = none) := by
            intro v15038 av15038 bv15038
            refine WQ_iast dX9_passDay_71 (lyx_is hy 52 13 rfl) (lyx_n hy 52 3 rfl) (by omega) (by omega) (fun I15040 eI15040 => ?_)
            have hI15040 : XI g n L I15040 := by rw [eI15040]; exact (xi_r hy hI14993 (c := 52) (0) (0) (1000000) (by decide) (Or.inl (by decide)) (by decide) (by omega) (by omega))
            have e15041 : I15040 (ad g 53) 1 = w14995 := by rw [eI15040, pp_ne _ _ (Or.inl (lyx_ne hy (by decide) (by decide) (by decide)))]; exact ew14995
            have e15042 : I15040 (ad g 1) 1 = L := by rw [eI15040, pp_ne _ _ (Or.inl (lyx_ne hy (by decide) (by decide) (by decide)))]; exact e14997
            have fr15043 : fz 74 g [43, 44, 47, 48, 50, 51, 52, 53, 55] I I15040 := by rw [eI15040]; exact fzx_pp hy fiI14993 (by decide) (by decide)
            clear eI15040
            refine WP_iinc (ls' := [(0, _), (1, _), (2, _), (3, _), (4, _), (5, _)]) dX9_passDay_72 rfl (by decide) rfl ?_
            have hv15044 : (i14992 + Int32.ofInt (1)).toInt = i14992.toInt + (1) := ia_n rfl (by omega) (by omega)
            generalize i14992 + Int32.ofInt (1) = v15044 at hv15044 ⊢
            refine WP_goto 22 dX9_passDay_75 rfl ?_
            exact WP_sub (fc rfl (fc rfl (fc rfl (fc rfl (fc rfl fn))))) (ihlp22_14995 v15044 I15040 J14994 RI14993 hrI14993 hTI14993 hSI14993 hPI14993 hI15040 fr15043 fjJ14994 w14995 e15041 (by omega) (by omega) (by omega) (by omega))
          refine WQ_if_eq 69 dX9_passDay_55 rfl (fun c15044 => ?_) (fun c15044 => ?_)
          · refine WP_ldc (1000000) dX9_passDay_69 kX9_60 ?_
            obtain ⟨v15046, hv15046, ev15046⟩ : ∃ v : Int32, v.toInt = 1000000 ∧ ((1000000) : Int32) = v := ⟨(1000000), rfl, rfl⟩
            rw [ev15046]; clear ev15046
            exact WP_sub (fc rfl (fc rfl (fc rfl (fc rfl (fc rfl (fc rfl fn)))))) (jn71_15038 v15046 (by omega) (by omega))
          · refine WP_iload dX9_passDay_58 rfl ?_
            refine WQ_iconst (-1) (-1) dX9_passDay_60 rfl rfl (fun v15047 hv15047 => ?_)
            refine WQ_icmp_eq 69 dX9_passDay_61 rfl (fun c15047 => ?_) (fun c15047 => ?_)
            · refine WP_ldc (1000000) dX9_passDay_69 kX9_60 ?_
              obtain ⟨v15049, hv15049, ev15049⟩ : ∃ v : Int32, v.toInt = 1000000 ∧ ((1000000) : Int32) = v := ⟨(1000000), rfl, rfl⟩
              rw [ev15049]; clear ev15049
              exact WP_sub (fc rfl (fc rfl (fc rfl (fc rfl (fc rfl (fc rfl fn)))))) (jn71_15038 v15049 (by omega) (by omega))
            · refine WP_iload dX9_passDay_64 rfl ?_
              refine WP_goto 71 dX9_passDay_66 rfl ?_
              exact WP_sub (fc rfl (fc rfl (fc rfl (fc rfl (fc rfl (fc rfl fn)))))) (jn71_15038 v15033 (by omega) (by omega))
    exact WP_sub (fc rfl (fc rfl (fc rfl (fc rfl (fc rfl fn))))) (lp22_14995 _ v14991 I J R hr hT rfl hP hI fr0 frj0 w14986 ew14986 (by omega) (by omega) (by omega) (Nat.lt_succ_self _))
  · refine WP_aload_n dX9_passDay_14 rfl ?_
    refine WP_aload_n dX9_passDay_15 rfl ?_
    refine WP_callV1 (k := 9) dX9_passDay_16 ⟨⟨⟨by decide, by decide⟩, zX9_openChest⟩, lX9_45, by decide, rfl, vX9_openChest.1, vX9_openChest.2⟩ (lyx_is hy 49 9 rfl) (sx_openChestf_53_27 hy hr hT hI   (by omega)) (Nat.le_of_ble_eq_true rfl) ?_
    intro r I15050 J15051 Ra hq
    obtain ⟨⟨hI15050, ec, fiI15050, fjI15050, pI15050⟩, rfl⟩ := hq
    rw [ec]
    clear ec Ra
    have fr15052 : fz 74 g [43, 44, 47, 48, 50, 51, 52, 53, 55] I I15050 := fz_tr fr0 (fz_mono fiI15050 (by decide))
    have fr15053 : fz 74 g [45, 46, 53] J J15051 := fz_tr frj0 (fz_mono fjI15050 (by decide))
    have e15054 : I15050 (ad g 1) 1 = L := hI15050.2
    have b15055 := BT_get hI15050.1 1 1 2 (0) (0) (900) (by decide) 1 (by decide) (by decide)
    rw [e15054] at b15055
    obtain ⟨w15056, ew15056⟩ : ∃ w : Int32, I15050 (ad g 53) 1 = w := ⟨_, rfl⟩
    have bw15056 := BT_get hI15050.1 53 1 2 (0) (23760) (0) (by decide) 1 (by decide) (by decide)
    rw [ew15056] at bw15056
    rw [ew15056, ew14986] at pI15050
    refine WQ_iconst (0) (0) dX9_passDay_19 rfl rfl (fun v15057 hv15057 => ?_)
    refine WP_istore (ls' := [(0, _), (1, _), (2, _), (3, _), (4, _)]) dX9_passDay_20 (by decide) rfl ?_
    have lp22_15061 : ∀ (mz : Nat) (i15058 : Int32) (I15059 : pI) (J15060 : pJ) (RI15059 : pR), RfX g RI15059 → RI15059 (ad g 5) 0 = some (ad g 27) → RI15059 (ad g 0) 10 = R (ad g 0) 10 → NL g RI15059 → XI g n L I15059 → fz 74 g [43, 44, 47, 48, 50, 51, 52, 53, 55] I I15059 → fz 74 g [45, 46, 53] J J15060 → ∀ (w15061 : Int32), I15059 (ad g 53) 1 = w15061 → 0 ≤ i15058.toInt → i15058.toInt ≤ 3 → w15061.toInt ≤ w14986.toInt → (4 - i15058.toInt).toNat < mz → WP g mX9_passDay 22 [(0, .ref (ad g 49)), (1, .ref (ad g 53)), (2, .int bo), (3, .int v14989), (4, .int i15058)] [] I15059 J15060 RI15059 (fun r I' J' R' => (XI g n L I' ∧ (RfX g R' ∧ (R' (ad g 5) 0 = R (ad g 5) 0 ∧ R' (ad g 0) 10 = R (ad g 0) 10) ∧ NL g R') ∧ fz 74 g [43, 44, 47, 48, 50, 51, 52, 53, 55] I I' ∧ fz 74 g [45, 46, 53] J J' ∧ (I' (ad g 53) 1).toInt ≤ (I (ad g 53) 1).toInt + 23760) ∧ r = none) := by
      intro mz
      induction mz with
      | zero =>
        intro i15058 I15059 J15060 RI15059 hrI15059 hTI15059 hSI15059 hPI15059 hI15059 fiI15059 fjJ15060 w15061 ew15061 ai15058 bi15058 j0_I15059 hmlp22_15061
        exact absurd hmlp22_15061 (Nat.not_lt_zero _)
      | succ mz ihlp22_15061 =>
        intro i15058 I15059 J15060 RI15059 hrI15059 hTI15059 hSI15059 hPI15059 hI15059 fiI15059 fjJ15060 w15061 ew15061 ai15058 bi15058 j0_I15059 hmlp22_15061
        have bw15061 := BT_get hI15059.1 53 1 2 (0) (23760) (0) (by decide) 1 (by decide) (by decide)
        rw [ew15061] at bw15061
        have e15063 : I15059 (ad g 1) 1 = L := hI15059.2
        have b15064 := BT_get hI15059.1 1 1 2 (0) (0) (900) (by decide) 1 (by decide) (by decide)
        rw [e15063] at b15064
        refine WP_iload dX9_passDay_22 rfl ?_
        refine WQ_iconst (3) (3) dX9_passDay_24 rfl rfl (fun v15065 hv15065 => ?_)
        refine WQ_icmp_ge 78 dX9_passDay_25 rfl (fun c15065 => ?_) (fun c15065 => ?_)
        · refine WQ_iconst (0) (0) dX9_passDay_78 rfl rfl (fun v15067 hv15067 => ?_)
          refine WP_istore (ls' := [(0, _), (1, _), (2, _), (3, _), (4, _)]) dX9_passDay_79 (by decide) rfl ?_
          have lp81_15071 : ∀ (mz : Nat) (i15068 : Int32) (I15069 : pI) (J15070 : pJ) (RI15069 : pR), RfX g RI15069 → RI15069 (ad g 5) 0 = some (ad g 27) → RI15069 (ad g 0) 10 = R (ad g 0) 10 → NL g RI15069 → XI g n L I15069 → fz 74 g [43, 44, 47, 48, 50, 51, 52, 53, 55] I I15069 → fz 74 g [45, 46, 53] J J15070 → ∀ (w15071 : Int32), I15069 (ad g 53) 1 = w15071 → 0 ≤ i15068.toInt → i15068.toInt ≤ 4 → w15071.toInt ≤ w14986.toInt + 5940 * i15068.toInt → (5 - i15068.toInt).toNat < mz → WP g mX9_passDay 81 [(0, .ref (ad g 49)), (1, .ref (ad g 53)), (2, .int bo), (3, .int v14989), (4, .int i15068)] [] I15069 J15070 RI15069 (fun r I' J' R' => (XI g n L I' ∧ (RfX g R' ∧ (R' (ad g 5) 0 = R (ad g 5) 0 ∧ R' (ad g 0) 10 = R (ad g 0) 10) ∧ NL g R') ∧ fz 74 g [43, 44, 47, 48, 50, 51, 52, 53, 55] I I' ∧ fz 74 g [45, 46, 53] J J' ∧ (I' (ad g 53) 1).toInt ≤ (I (ad g 53) 1).toInt + 23760) ∧ r = none) := by
            intro mz
            induction mz with
            | zero =>
              intro i15068 I15069 J15070 RI15069 hrI15069 hTI15069 hSI15069 hPI15069 hI15069 fiI15069 fjJ15070 w15071 ew15071 ai15068 bi15068 j0_I15069 hmlp81_15071
              exact absurd hmlp81_15071 (Nat.not_lt_zero _)
            | succ mz ihlp81_15071 =>
              intro i15068 I15069 J15070 RI15069 hrI15069 hTI15069 hSI15069 hPI15069 hI15069 fiI15069 fjJ15070 w15071 ew15071 ai15068 bi15068 j0_I15069 hmlp81_15071
              have bw15071 := BT_get hI15069.1 53 1 2 (0) (23760) (0) (by decide) 1 (by decide) (by decide)
              rw [ew15071] at bw15071
              have e15073 : I15069 (ad g 1) 1 = L := hI15069.2
              have b15074 := BT_get hI15069.1 1 1 2 (0) (0) (900) (by decide) 1 (by decide) (by decide)
              rw [e15073] at b15074
              refine WP_iload dX9_passDay_81 rfl ?_
              refine WP_aload_n dX9_passDay_83 rfl ?_
              refine WP_getr dX9_passDay_84 fX9_25 rfl (lyx_is hy 49 9 rfl) (rfx hrI15069 49 2 5 (by decide)) ?_
              refine WP_getr dX9_passDay_87 fX9_49 rfl (lyx_is hy 5 0 rfl) hTI15069 ?_
              refine WQ_geti dX9_passDay_90 fX9_61 rfl (lyx_is hy 27 7 rfl) (BT_get hI15069.1 27 1 2 (0) (0) (4) (by decide) 1 (by decide) (by decide)) (fun v15075 ev15075 av15075 bv15075 => ?_)
              refine WQ_icmp_ge 110 dX9_passDay_93 rfl (fun c15075 => ?_) (fun c15075 => ?_)
              · refine WP_aload_n dX9_passDay_110 rfl ?_
                refine WP_dup dX9_passDay_111 rfl ?_
                refine WQ_getiu dX9_passDay_112 fX9_33 rfl (lyx_is hy 53 4 rfl) (fun v15077 ev15077 => ?_)
                refine WQ_iconst (1) (1) dX9_passDay_115 rfl rfl (fun v15078 hv15078 => ?_)
                refine WQ_iaddu dX9_passDay_116 (fun v15079 => ?_)
                refine WQ_puti dX9_passDay_117 fX9_33 rfl rfl (lyx_is hy 53 4 rfl) (fun I15080 eI15080 => ?_)
                have hI15080 : XI g n L I15080 := by rw [eI15080]; exact (xi_f0 hy hI15069 (c := 53) (by decide) (Or.inl (by decide)) (by decide))
                have e15081 : I15080 (ad g 53) 1 = w15071 := by rw [eI15080, pp_ne _ _ (Or.inr (by decide))]; exact ew15071
                have e15082 : I15080 (ad g 1) 1 = L := by rw [eI15080, pp_ne _ _ (Or.inl (lyx_ne hy (by decide) (by decide) (by decide)))]; exact e15073
                have e15083 : I15080 (ad g 27) 1 = v15075 := by rw [eI15080, pp_ne _ _ (Or.inl (lyx_ne hy (by decide) (by decide) (by decide)))]; exact ev15075
                have e15084 : I15080 (ad g 53) 0 = v15079 := by rw [eI15080, pp_self]
                have fr15085 : fz 74 g [43, 44, 47, 48, 50, 51, 52, 53, 55] I I15080 := by rw [eI15080]; exact fzx_pp hy fiI15069 (by decide) (by decide)
                clear eI15080
                exact WP_vret dX9_passDay_120 rfl ⟨⟨hI15080, ⟨hrI15069, ⟨hTI15069.trans hT.symm, hSI15069⟩, hPI15069⟩, fr15085, fjJ15070, (by rw [e15081, ew14986]; omega)⟩, rfl⟩
              · refine WP_aload_n dX9_passDay_96 rfl ?_
                refine WP_aload_n dX9_passDay_97 rfl ?_
                refine WP_iload dX9_passDay_98 rfl ?_
                refine WP_iload_n dX9_passDay_100 rfl ?_
                refine WP_callV3 (k := 9) dX9_passDay_101 ⟨⟨⟨by decide, by decide⟩, zX9_serve⟩, lX9_64, by decide, rfl, vX9_serve.1, vX9_serve.2⟩ (lyx_is hy 49 9 rfl) (sx_serve_53_27 hy hrI15069 hPI15069 hTI15069 hI15069 i15068 v14989 (by omega) (by omega) (by omega) (by omega) (by omega) (by rw [ew15071]; omega)) (Nat.le_of_ble_eq_true rfl) ?_
                intro r I15086 J15087 R15088 hq
                obtain ⟨⟨hI15086, ⟨hrI15086, ⟨htI15086, hsI15086⟩, hpI15086⟩, fiI15086, fjI15086, pI15086⟩, rfl⟩ := hq
                have ht_I15086 := htI15086.trans hTI15069
                have hs_I15086 : R15088 (ad g 0) 10 = R (ad g 0) 10 := hsI15086.trans hSI15069
                have fr15089 : fz 74 g [43, 44, 47, 48, 50, 51, 52, 53, 55] I I15086 := fz_tr fiI15069 (fz_mono fiI15086 (by decide))
                have fr15090 : fz 74 g [45, 46, 53] J J15087 := fz_tr fjJ15070 (fz_mono fjI15086 (by decide))
                have e15091 : I15086 (ad g 27) 1 = v15075 := by rw [fz_at fiI15086 27 (by decide) (by decide)]; exact ev15075
                have e15092 : I15086 (ad g 1) 1 = L := hI15086.2
                have b15093 := BT_get hI15086.1 1 1 2 (0) (0) (900) (by decide) 1 (by decide) (by decide)
                rw [e15092] at b15093
                obtain ⟨w15094, ew15094⟩ : ∃ w : Int32, I15086 (ad g 53) 1 = w := ⟨_, rfl⟩
                have bw15094 := BT_get hI15086.1 53 1 2 (0) (23760) (0) (by decide) 1 (by decide) (by decide)
                rw [ew15094] at bw15094
                rw [ew15094, ew15071] at pI15086
                refine WP_iinc (ls' := [(0, _), (1, _), (2, _), (3, _), (4, _)]) dX9_passDay_104 rfl (by decide) rfl ?_
                have hv15095 : (i15068 + Int32.ofInt (1)).toInt = i15068.toInt + (1) := ia_n rfl (by omega) (by omega)
                generalize i15068 + Int32.ofInt (1) = v15095 at hv15095 ⊢
                refine WP_goto 81 dX9_passDay_107 rfl ?_
                exact WP_sub (fc rfl (fc rfl (fc rfl (fc rfl (fc rfl fn))))) (ihlp81_15071 v15095 I15086 J15087 R15088 hrI15086 ht_I15086 hs_I15086 hpI15086 hI15086 fr15089 fr15090 w15094 ew15094 (by omega) (by omega) (by omega) (by omega))
          exact WP_sub (fc rfl (fc rfl (fc rfl (fc rfl (fc rfl fn))))) (lp81_15071 _ v15067 I15059 J15060 RI15059 hrI15059 hTI15059 hSI15059 hPI15059 hI15059 fiI15059 fjJ15060 w15061 ew15061 (by omega) (by omega) (by omega) (Nat.lt_succ_self _))
        · refine WP_aload_n dX9_passDay_28 rfl ?_
          refine WP_getr dX9_passDay_29 fX9_25 rfl (lyx_is hy 49 9 rfl) (rfx hrI15059 49 2 5 (by decide)) ?_
          refine WP_getr dX9_passDay_32 fX9_49 rfl (lyx_is hy 5 0 rfl) hTI15059 ?_
          refine WP_getr dX9_passDay_35 fX9_55 rfl (lyx_is hy 27 7 rfl) (rfx hrI15059 27 17 40 (by decide)) ?_
          refine WP_iload dX9_passDay_38 rfl ?_
          refine WQ_bipush (7) (7) dX9_passDay_40 rfl rfl (fun v15096 hv15096 => ?_)
          refine WQ_imulk (7) dX9_passDay_42 hv15096 (by omega) (by omega) (fun v15097 hv15097 => ?_)
          refine WP_iload_n dX9_passDay_43 rfl ?_
          refine WQ_iadd dX9_passDay_44 (by omega) (by omega) (fun v15098 hv15098 => ?_)
          refine WQ_iald dX9_passDay_45 (lyx_is hy 40 13 rfl) (lyx_n hy 40 21 rfl) (by omega) (by omega) (fun q hq => BT_get hI15059.1 40 0 21 (-1) (0) (999) (by decide) q (Nat.zero_le _) hq) (fun v15099 av15099 bv15099 ev15099 => ?_)
          clear ev15099
          refine WP_istore (ls' := [(0, _), (1, _), (2, _), (3, _), (4, _), (5, _)]) dX9_passDay_46 (by decide) rfl ?_
          refine WP_aload_n dX9_passDay_48 rfl ?_
          refine WP_getr dX9_passDay_49 fX9_22 rfl (lyx_is hy 49 9 rfl) (rfx hrI15059 49 4 52 (by decide)) ?_
          refine WP_iload dX9_passDay_52 rfl ?_
          refine WP_iload_n dX9_passDay_54 rfl ?_
          have jn71_15104 : ∀ (v15104 : Int32), 0 ≤ v15104.toInt → v15104.toInt ≤ 1000000 → WP g mX9_passDay 71 [(0, .ref (ad g 49)), (1, .ref (ad g 53)), (2, .int bo), (3, .int v14989), (4, .int i15058), (5, .int v15099)] [.int v15104, .int i15058, .ref (ad g 52)] I15059 J15060 RI15059 (fun r I' J' R' => (XI g n L I' ∧ (RfX g R' ∧ (R' (ad g 5) 0 = R (ad g 5) 0 ∧ R' (ad g 0) 10 = R (ad g 0) 10) ∧ NL g R') ∧ fz 74 g [43, 44, 47, 48, 50, 51, 52, 53, 55] I I' ∧ fz 74 g [45, 46, 53] J J' ∧ (I' (ad g 53) 1).toInt ≤ (I (ad g 53) 1).toInt + 23760) ∧ r = none) := by
            intro v15104 av15104 bv15104
            refine WQ_iast dX9_passDay_71 (lyx_is hy 52 13 rfl) (lyx_n hy 52 3 rfl) (by omega) (by omega) (fun I15106 eI15106 => ?_)
            have hI15106 : XI g n L I15106 := by rw [eI15106]; exact (xi_r hy hI15059 (c := 52) (0) (0) (1000000) (by decide) (Or.inl (by decide)) (by decide) (by omega) (by omega))
            have e15107 : I15106 (ad g 53) 1 = w15061 := by rw [eI15106, pp_ne _ _ (Or.inl (lyx_ne hy (by decide) (by decide) (by decide)))]; exact ew15061
            have e15108 : I15106 (ad g 1) 1 = L := by rw [eI15106, pp_ne _ _ (Or.inl (lyx_ne hy (by decide) (by decide) (by decide)))]; exact e15063
            have fr15109 : fz 74 g [43, 44, 47, 48, 50, 51, 52, 53, 55] I I15106 := by rw [eI15106]; exact fzx_pp hy fiI15059 (by decide) (by decide)
            clear eI15106
            refine WP_iinc (ls' := [(0, _), (1, _), (2, _), (3, _), (4, _), (5, _)]) dX9_passDay_72 rfl (by decide) rfl ?_
            have hv15110 : (i15058 + Int32.ofInt (1)).toInt = i15058.toInt + (1) := ia_n rfl (by omega) (by omega)
            generalize i15058 + Int32.ofInt (1) = v15110 at hv15110 ⊢
            refine WP_goto 22 dX9_passDay_75 rfl ?_
            exact WP_sub (fc rfl (fc rfl (fc rfl (fc rfl (fc rfl fn))))) (ihlp22_15061 v15110 I15106 J15060 RI15059 hrI15059 hTI15059 hSI15059 hPI15059 hI15106 fr15109 fjJ15060 w15061 e15107 (by omega) (by omega) (by omega) (by omega))
          refine WQ_if_eq 69 dX9_passDay_55 rfl (fun c15110 => ?_) (fun c15110 => ?_)
          · refine WP_ldc (1000000) dX9_passDay_69 kX9_60 ?_
            obtain ⟨v15112, hv15112, ev15112⟩ : ∃ v : Int32, v.toInt = 1000000 ∧ ((1000000) : Int32) = v := ⟨(1000000), rfl, rfl⟩
            rw [ev15112]; clear ev15112
            exact WP_sub (fc rfl (fc rfl (fc rfl (fc rfl (fc rfl (fc rfl fn)))))) (jn71_15104 v15112 (by omega) (by omega))
          · refine WP_iload dX9_passDay_58 rfl ?_
            refine WQ_iconst (-1) (-1) dX9_passDay_60 rfl rfl (fun v15113 hv15113 => ?_)
            refine WQ_icmp_eq 69 dX9_passDay_61 rfl (fun c15113 => ?_) (fun c15113 => ?_)
            · refine WP_ldc (1000000) dX9_passDay_69 kX9_60 ?_
              obtain ⟨v15115, hv15115, ev15115⟩ : ∃ v : Int32, v.toInt = 1000000 ∧ ((1000000) : Int32) = v := ⟨(1000000), rfl, rfl⟩
              rw [ev15115]; clear ev15115
              exact WP_sub (fc rfl (fc rfl (fc rfl (fc rfl (fc rfl (fc rfl fn)))))) (jn71_15104 v15115 (by omega) (by omega))
            · refine WP_iload dX9_passDay_64 rfl ?_
              refine WP_goto 71 dX9_passDay_66 rfl ?_
              exact WP_sub (fc rfl (fc rfl (fc rfl (fc rfl (fc rfl (fc rfl fn)))))) (jn71_15104 v15099 (by omega) (by omega))
    exact WP_sub (fc rfl (fc rfl (fc rfl (fc rfl (fc rfl fn))))) (lp22_15061 _ v15057 I15050 J15051 R hr hT rfl hP hI15050 fr15052 fr15053 w15056 ew15056 (by omega) (by omega) (by omega) (Nat.lt_succ_self _))
set_option maxHeartbeats 4000000 in
set_option maxRecDepth 100000 in
theorem sx_passDay_56_6 {g : GG} {n : Int} {L : Int32} (hy : LyX g)  {I : pI} {J : pJ} {R : pR} (hr : RfX g R) (hP : NL g R) (hT : R (ad g 5) 0 = some (ad g 6)) (hI : XI g n L I) (bo : Int32) (bo_lo : 0 ≤ bo.toInt) (bo_hi : bo.toInt ≤ 1) (hn : 0 ≤ n ∧ n ≤ 40000) (hb : (I (ad g 56) 1).toInt ≤ 23760 * n + 700000 - 23760) : SP g mX9_passDay [.ref (ad g 49), .ref (ad g 56), .int bo] I J R (fun r I' J' R' => (XI g n L I' ∧ (RfX g R' ∧ (R' (ad g 5) 0 = R (ad g 5) 0 ∧ R' (ad g 0) 10 = R (ad g 0) 10) ∧ NL g R') ∧ fz 74 g [43, 44, 47, 48, 50, 51, 52, 56, 58] I I' ∧ fz 74 g [45, 46, 56] J J' ∧ (I' (ad g 56) 1).toInt ≤ (I (ad g 56) 1).toInt + 23760) ∧ r = none) := by
  refine SP_of ⟨by decide, rfl⟩ (Nat.le_of_ble_eq_true rfl) ?_
  have e15116 : I (ad g 1) 1 = L := hI.2
  have b15117 := BT_get hI.1 1 1 2 (0) (0) (900) (by decide) 1 (by decide) (by decide)
  rw [e15116] at b15117
  have fr0 : fz 74 g [43, 44, 47, 48, 50, 51, 52, 56, 58] I I := fz_rf
  have frj0 : fz 74 g [45, 46, 56] J J := fz_rf
  obtain ⟨w15118, ew15118⟩ : ∃ w : Int32, I (ad g 56) 1 = w := ⟨_, rfl⟩
  have bw15118 := BT_get hI.1 56 1 2 (0) (23760) (700000) (by decide) 1 (by decide) (by decide)
  rw [ew15118] at bw15118
  rw [ew15118] at hb
  refine WP_aload_n dX9_passDay_0 rfl ?_
  refine WQ_getiu dX9_passDay_1 fX9_33 rfl (lyx_is hy 56 4 rfl) (fun v15119 ev15119 => ?_)
  refine WQ_bipush (7) (7) dX9_passDay_4 rfl rfl (fun v15120 hv15120 => ?_)
  refine WQ_floorMod dX9_passDay_6 lX9_39 ⟨by decide, Nat.le_of_ble_eq_true rfl⟩ hv15120 (fun v15121 av15121 bv15121 => ?_)
  refine WP_istore_n (ls' := [(0, _), (1, _), (2, _), (3, _)]) dX9_passDay_9 (by decide) rfl ?_
  refine WP_iload_n dX9_passDay_10 rfl ?_
  refine WQ_if_ne 19 dX9_passDay_11 rfl (fun c15121 => ?_) (fun c15121 => ?_)
  · refine WQ_iconst (0) (0) dX9_passDay_19 rfl rfl (fun v15123 hv15123 => ?_)
    refine WP_istore (ls' := [(0, _), (1, _), (2, _), (3, _), (4, _)]) dX9_passDay_20 (by decide) rfl ?_
    have lp22_15127 : ∀ (mz : Nat) (i15124 : Int32) (I15125 : pI) (J15126 : pJ) (RI15125 : pR), RfX g RI15125 → RI15125 (ad g 5) 0 = some (ad g 6) → RI15125 (ad g 0) 10 = R (ad g 0) 10 → NL g RI15125 → XI g n L I15125 → fz 74 g [43, 44, 47, 48, 50, 51, 52, 56, 58] I I15125 → fz 74 g [45, 46, 56] J J15126 → ∀ (w15127 : Int32), I15125 (ad g 56) 1 = w15127 → 0 ≤ i15124.toInt → i15124.toInt ≤ 3 → w15127.toInt ≤ w15118.toInt → (4 - i15124.toInt).toNat < mz → WP g mX9_passDay 22 [(0, .ref (ad g 49)), (1, .ref (ad g 56)), (2, .int bo), (3, .int v15121), (4, .int i15124)] [] I15125 J15126 RI15125 (fun r I' J' R' => (XI g n L I' ∧ (RfX g R' ∧ (R' (ad g 5) 0 = R (ad g 5) 0 ∧ R' (ad g 0) 10 = R (ad g 0) 10) ∧ NL g R') ∧ fz 74 g [43, 44, 47, 48, 50, 51, 52, 56, 58] I I' ∧ fz 74 g [45, 46, 56] J J' ∧ (I' (ad g 56) 1).toInt ≤ (I (ad g 56) 1).toInt + 23760) ∧ r = none) := by
      intro mz
      induction mz with
      | zero =>
        intro i15124 I15125 J15126 RI15125 hrI15125 hTI15125 hSI15125 hPI15125 hI15125 fiI15125 fjJ15126 w15127 ew15127 ai15124 bi15124 j0_I15125 hmlp22_15127
        exact absurd hmlp22_15127 (Nat.not_lt_zero _)
      | succ mz ihlp22_15127 =>
        intro i15124 I15125 J15126 RI15125 hrI15125 hTI15125 hSI15125 hPI15125 hI15125 fiI15125 fjJ15126 w15127 ew15127 ai15124 bi15124 j0_I15125 hmlp22_15127
        have bw15127 := BT_get hI15125.1 56 1 2 (0) (23760) (700000) (by decide) 1 (by decide) (by decide)
        rw [ew15127] at bw15127
        have e15129 : I15125 (ad g 1) 1 = L := hI15125.2
        have b15130 := BT_get hI15125.1 1 1 2 (0) (0) (900) (by decide) 1 (by decide) (by decide)
        rw [e15129] at b15130
        refine WP_iload dX9_passDay_22 rfl ?_
        refine WQ_iconst (3) (3) dX9_passDay_24 rfl rfl (fun v15131 hv15131 => ?_)
        refine WQ_icmp_ge 78 dX9_passDay_25 rfl (fun c15131 => ?_) (fun c15131 => ?_)
        · refine WQ_iconst (0) (0) dX9_passDay_78 rfl rfl (fun v15133 hv15133 => ?_)
          refine WP_istore (ls' := [(0, _), (1, _), (2, _), (3, _), (4, _)]) dX9_passDay_79 (by decide) rfl ?_
          have lp81_15137 : ∀ (mz : Nat) (i15134 : Int32) (I15135 : pI) (J15136 : pJ) (RI15135 : pR), RfX g RI15135 → RI15135 (ad g 5) 0 = some (ad g 6) → RI15135 (ad g 0) 10 = R (ad g 0) 10 → NL g RI15135 → XI g n L I15135 → fz 74 g [43, 44, 47, 48, 50, 51, 52, 56, 58] I I15135 → fz 74 g [45, 46, 56] J J15136 → ∀ (w15137 : Int32), I15135 (ad g 56) 1 = w15137 → 0 ≤ i15134.toInt → i15134.toInt ≤ 4 → w15137.toInt ≤ w15118.toInt + 5940 * i15134.toInt → (5 - i15134.toInt).toNat < mz → WP g mX9_passDay 81 [(0, .ref (ad g 49)), (1, .ref (ad g 56)), (2, .int bo), (3, .int v15121), (4, .int i15134)] [] I15135 J15136 RI15135 (fun r I' J' R' => (XI g n L I' ∧ (RfX g R' ∧ (R' (ad g 5) 0 = R (ad g 5) 0 ∧ R' (ad g 0) 10 = R (ad g 0) 10) ∧ NL g R') ∧ fz 74 g [43, 44, 47, 48, 50, 51, 52, 56, 58] I I' ∧ fz 74 g [45, 46, 56] J J' ∧ (I' (ad g 56) 1).toInt ≤ (I (ad g 56) 1).toInt + 23760) ∧ r = none) := by
            intro mz
            induction mz with
            | zero =>
              intro i15134 I15135 J15136 RI15135 hrI15135 hTI15135 hSI15135 hPI15135 hI15135 fiI15135 fjJ15136 w15137 ew15137 ai15134 bi15134 j0_I15135 hmlp81_15137
              exact absurd hmlp81_15137 (Nat.not_lt_zero _)
            | succ mz ihlp81_15137 =>
              intro i15134 I15135 J15136 RI15135 hrI15135 hTI15135 hSI15135 hPI15135 hI15135 fiI15135 fjJ15136 w15137 ew15137 ai15134 bi15134 j0_I15135 hmlp81_15137
              have bw15137 := BT_get hI15135.1 56 1 2 (0) (23760) (700000) (by decide) 1 (by decide) (by decide)
              rw [ew15137] at bw15137
              have e15139 : I15135 (ad g 1) 1 = L := hI15135.2
              have b15140 := BT_get hI15135.1 1 1 2 (0) (0) (900) (by decide) 1 (by decide) (by decide)
              rw [e15139] at b15140
              refine WP_iload dX9_passDay_81 rfl ?_
              refine WP_aload_n dX9_passDay_83 rfl ?_
              refine WP_getr dX9_passDay_84 fX9_25 rfl (lyx_is hy 49 9 rfl) (rfx hrI15135 49 2 5 (by decide)) ?_
              refine WP_getr dX9_passDay_87 fX9_49 rfl (lyx_is hy 5 0 rfl) hTI15135 ?_
              refine WQ_geti dX9_passDay_90 fX9_61 rfl (lyx_is hy 6 7 rfl) (BT_get hI15135.1 6 1 2 (0) (0) (4) (by decide) 1 (by decide) (by decide)) (fun v15141 ev15141 av15141 bv15141 => ?_)
              refine WQ_icmp_ge 110 dX9_passDay_93 rfl (fun c15141 => ?_) (fun c15141 => ?_)
              · refine WP_aload_n dX9_passDay_110 rfl ?_
                refine WP_dup dX9_passDay_111 rfl ?_
                refine WQ_getiu dX9_passDay_112 fX9_33 rfl (lyx_is hy 56 4 rfl) (fun v15143 ev15143 => ?_)
                refine WQ_iconst (1) (1) dX9_passDay_115 rfl rfl (fun v15144 hv15144 => ?_)
                refine WQ_iaddu dX9_passDay_116 (fun v15145 => ?_)
                refine WQ_puti dX9_passDay_117 fX9_33 rfl rfl (lyx_is hy 56 4 rfl) (fun I15146 eI15146 => ?_)
                have hI15146 : XI g n L I15146 := by rw [eI15146]; exact (xi_f0 hy hI15135 (c := 56) (by decide) (Or.inl (by decide)) (by decide))
                have e15147 : I15146 (ad g 56) 1 = w15137 := by rw [eI15146, pp_ne _ _ (Or.inr (by decide))]; exact ew15137
                have e15148 : I15146 (ad g 1) 1 = L := by rw [eI15146, pp_ne _ _ (Or.inl (lyx_ne hy (by decide) (by decide) (by decide)))]; exact e15139
                have e15149 : I15146 (ad g 6) 1 = v15141 := by rw [eI15146, pp_ne _ _ (Or.inl (lyx_ne hy (by decide) (by decide) (by decide)))]; exact ev15141
                have e15150 : I15146 (ad g 56) 0 = v15145 := by rw [eI15146, pp_self]
                have fr15151 : fz 74 g [43, 44, 47, 48, 50, 51, 52, 56, 58] I I15146 := by rw [eI15146]; exact fzx_pp hy fiI15135 (by decide) (by decide)
                clear eI15146
                exact WP_vret dX9_passDay_120 rfl ⟨⟨hI15146, ⟨hrI15135, ⟨hTI15135.trans hT.symm, hSI15135⟩, hPI15135⟩, fr15151, fjJ15136, (by rw [e15147, ew15118]; omega)⟩, rfl⟩
              · refine WP_aload_n dX9_passDay_96 rfl ?_
                refine WP_aload_n dX9_passDay_97 rfl ?_
                refine WP_iload dX9_passDay_98 rfl ?_
                refine WP_iload_n dX9_passDay_100 rfl ?_
                refine WP_callV3 (k := 9) dX9_passDay_101 ⟨⟨⟨by decide, by decide⟩, zX9_serve⟩, lX9_64, by decide, rfl, vX9_serve.1, vX9_serve.2⟩ (lyx_is hy 49 9 rfl) (sx_serve_56_6 hy hrI15135 hPI15135 hTI15135 hI15135 i15134 v15121 (by omega) (by omega) (by omega) (by omega) (by omega) (by rw [ew15137]; omega)) (Nat.le_of_ble_eq_true rfl) ?_
                intro r I15152 J15153 R15154 hq
                obtain ⟨⟨hI15152, ⟨hrI15152, ⟨htI15152, hsI15152⟩, hpI15152⟩, fiI15152, fjI15152, pI15152⟩, rfl⟩ := hq
                have ht_I15152 := htI15152.trans hTI15135
                have hs_I15152 : R15154 (ad g 0) 10 = R (ad g 0) 10 := hsI15152.trans hSI15135
                have fr15155 : fz 74 g [43, 44, 47, 48, 50, 51, 52, 56, 58] I I15152 := fz_tr fiI15135 (fz_mono fiI15152 (by decide))
                have fr15156 : fz 74 g [45, 46, 56] J J15153 := fz_tr fjJ15136 (fz_mono fjI15152 (by decide))
                have e15157 : I15152 (ad g 6) 1 = v15141 := by rw [fz_at fiI15152 6 (by decide) (by decide)]; exact ev15141
                have e15158 : I15152 (ad g 1) 1 = L := hI15152.2
                have b15159 := BT_get hI15152.1 1 1 2 (0) (0) (900) (by decide) 1 (by decide) (by decide)
                rw [e15158] at b15159
                obtain ⟨w15160, ew15160⟩ : ∃ w : Int32, I15152 (ad g 56) 1 = w := ⟨_, rfl⟩
                have bw15160 := BT_get hI15152.1 56 1 2 (0) (23760) (700000) (by decide) 1 (by decide) (by decide)
                rw [ew15160] at bw15160
                rw [ew15160, ew15137] at pI15152
                refine WP_iinc (ls' := [(0, _), (1, _), (2, _), (3, _), (4, _)]) dX9_passDay_104 rfl (by decide) rfl ?_
                have hv15161 : (i15134 + Int32.ofInt (1)).toInt = i15134.toInt + (1) := ia_n rfl (by omega) (by omega)
                generalize i15134 + Int32.ofInt (1) = v15161 at hv15161 ⊢
                refine WP_goto 81 dX9_passDay_107 rfl ?_
                exact WP_sub (fc rfl (fc rfl (fc rfl (fc rfl (fc rfl fn))))) (ihlp81_15137 v15161 I15152 J15153 R15154 hrI15152 ht_I15152 hs_I15152 hpI15152 hI15152 fr15155 fr15156 w15160 ew15160 (by omega) (by omega) (by omega) (by omega))
          exact WP_sub (fc rfl (fc rfl (fc rfl (fc rfl (fc rfl fn))))) (lp81_15137 _ v15133 I15125 J15126 RI15125 hrI15125 hTI15125 hSI15125 hPI15125 hI15125 fiI15125 fjJ15126 w15127 ew15127 (by omega) (by omega) (by omega) (Nat.lt_succ_self _))
        · refine WP_aload_n dX9_passDay_28 rfl ?_
          refine WP_getr dX9_passDay_29 fX9_25 rfl (lyx_is hy 49 9 rfl) (rfx hrI15125 49 2 5 (by decide)) ?_
          refine WP_getr dX9_passDay_32 fX9_49 rfl (lyx_is hy 5 0 rfl) hTI15125 ?_
          refine WP_getr dX9_passDay_35 fX9_55 rfl (lyx_is hy 6 7 rfl) (rfx hrI15125 6 17 19 (by decide)) ?_
          refine WP_iload dX9_passDay_38 rfl ?_
          refine WQ_bipush (7) (7) dX9_passDay_40 rfl rfl (fun v15162 hv15162 => ?_)
          refine WQ_imulk (7) dX9_passDay_42 hv15162 (by omega) (by omega) (fun v15163 hv15163 => ?_)
          refine WP_iload_n dX9_passDay_43 rfl ?_
          refine WQ_iadd dX9_passDay_44 (by omega) (by omega) (fun v15164 hv15164 => ?_)
          refine WQ_iald dX9_passDay_45 (lyx_is hy 19 13 rfl) (lyx_n hy 19 21 rfl) (by omega) (by omega) (fun q hq => BT_get hI15125.1 19 0 21 (-1) (0) (999) (by decide) q (Nat.zero_le _) hq) (fun v15165 av15165 bv15165 ev15165 => ?_)
          clear ev15165
          refine WP_istore (ls' := [(0, _), (1, _), (2, _), (3, _), (4, _), (5, _)]) dX9_passDay_46 (by decide) rfl ?_
          refine WP_aload_n dX9_passDay_48 rfl ?_
          refine WP_getr dX9_passDay_49 fX9_22 rfl (lyx_is hy 49 9 rfl) (rfx hrI15125 49 4 52 (by decide)) ?_
          refine WP_iload dX9_passDay_52 rfl ?_
          refine WP_iload_n dX9_passDay_54 rfl ?_
          have jn71_15170 : ∀ (v15170 : Int32), 0 ≤ v15170.toInt → v15170.toInt ≤ 1000000 → WP g mX9_passDay 71 [(0, .ref (ad g 49)), (1, .ref (ad g 56)), (2, .int bo), (3, .int v15121), (4, .int i15124), (5, .int v15165)] [.int v15170, .int i15124, .ref (ad g 52)] I15125 J15126 RI15125 (fun r I' J' R' => (XI g n L I' ∧ (RfX g R' ∧ (R' (ad g 5) 0 = R (ad g 5) 0 ∧ R' (ad g 0) 10 = R (ad g 0) 10) ∧ NL g R') ∧ fz 74 g [43, 44, 47, 48, 50, 51, 52, 56, 58] I I' ∧ fz 74 g [45, 46, 56] J J' ∧ (I' (ad g 56) 1).toInt ≤ (I (ad g 56) 1).toInt + 23760) ∧ r = none) := by
            intro v15170 av15170 bv15170
            refine WQ_iast dX9_passDay_71 (lyx_is hy 52 13 rfl) (lyx_n hy 52 3 rfl) (by omega) (by omega) (fun I15172 eI15172 => ?_)
            have hI15172 : XI g n L I15172 := by rw [eI15172]; exact (xi_r hy hI15125 (c := 52) (0) (0) (1000000) (by decide) (Or.inl (by decide)) (by decide) (by omega) (by omega))
            have e15173 : I15172 (ad g 56) 1 = w15127 := by rw [eI15172, pp_ne _ _ (Or.inl (lyx_ne hy (by decide) (by decide) (by decide)))]; exact ew15127
            have e15174 : I15172 (ad g 1) 1 = L := by rw [eI15172, pp_ne _ _ (Or.inl (lyx_ne hy (by decide) (by decide) (by decide)))]; exact e15129
            have fr15175 : fz 74 g [43, 44, 47, 48, 50, 51, 52, 56, 58] I I15172 := by rw [eI15172]; exact fzx_pp hy fiI15125 (by decide) (by decide)
            clear eI15172
            refine WP_iinc (ls' := [(0, _), (1, _), (2, _), (3, _), (4, _), (5, _)]) dX9_passDay_72 rfl (by decide) rfl ?_
            have hv15176 : (i15124 + Int32.ofInt (1)).toInt = i15124.toInt + (1) := ia_n rfl (by omega) (by omega)
            generalize i15124 + Int32.ofInt (1) = v15176 at hv15176 ⊢
            refine WP_goto 22 dX9_passDay_75 rfl ?_
            exact WP_sub (fc rfl (fc rfl (fc rfl (fc rfl (fc rfl fn))))) (ihlp22_15127 v15176 I15172 J15126 RI15125 hrI15125 hTI15125 hSI15125 hPI15125 hI15172 fr15175 fjJ15126 w15127 e15173 (by omega) (by omega) (by omega) (by omega))
          refine WQ_if_eq 69 dX9_passDay_55 rfl (fun c15176 => ?_) (fun c15176 => ?_)
          · refine WP_ldc (1000000) dX9_passDay_69 kX9_60 ?_
            obtain ⟨v15178, hv15178, ev15178⟩ : ∃ v : Int32, v.toInt = 1000000 ∧ ((1000000) : Int32) = v := ⟨(1000000), rfl, rfl⟩
            rw [ev15178]; clear ev15178
            exact WP_sub (fc rfl (fc rfl (fc rfl (fc rfl (fc rfl (fc rfl fn)))))) (jn71_15170 v15178 (by omega) (by omega))
          · refine WP_iload dX9_passDay_58 rfl ?_
            refine WQ_iconst (-1) (-1) dX9_passDay_60 rfl rfl (fun v15179 hv15179 => ?_)
            refine WQ_icmp_eq 69 dX9_passDay_61 rfl (fun c15179 => ?_) (fun c15179 => ?_)
            · refine WP_ldc (1000000) dX9_passDay_69 kX9_60 ?_
              obtain ⟨v15181, hv15181, ev15181⟩ : ∃ v : Int32, v.toInt = 1000000 ∧ ((1000000) : Int32) = v := ⟨(1000000), rfl, rfl⟩
              rw [ev15181]; clear ev15181
              exact WP_sub (fc rfl (fc rfl (fc rfl (fc rfl (fc rfl (fc rfl fn)))))) (jn71_15170 v15181 (by omega) (by omega))
            · refine WP_iload dX9_passDay_64 rfl ?_
              refine WP_goto 71 dX9_passDay_66 rfl ?_
              exact WP_sub (fc rfl (fc rfl (fc rfl (fc rfl (fc rfl (fc rfl fn)))))) (jn71_15170 v15165 (by omega) (by omega))
    exact WP_sub (fc rfl (fc rfl (fc rfl (fc rfl (fc rfl fn))))) (lp22_15127 _ v15123 I J R hr hT rfl hP hI fr0 frj0 w15118 ew15118 (by omega) (by omega) (by omega) (Nat.lt_succ_self _))
  · refine WP_aload_n dX9_passDay_14 rfl ?_
    refine WP_aload_n dX9_passDay_15 rfl ?_
    refine WP_callV1 (k := 9) dX9_passDay_16 ⟨⟨⟨by decide, by decide⟩, zX9_openChest⟩, lX9_45, by decide, rfl, vX9_openChest.1, vX9_openChest.2⟩ (lyx_is hy 49 9 rfl) (sx_openChestf_56_6 hy hr hT hI   (by omega)) (Nat.le_of_ble_eq_true rfl) ?_
    intro r I15182 J15183 Ra hq
    obtain ⟨⟨hI15182, ec, fiI15182, fjI15182, pI15182⟩, rfl⟩ := hq
    rw [ec]
    clear ec Ra
    have fr15184 : fz 74 g [43, 44, 47, 48, 50, 51, 52, 56, 58] I I15182 := fz_tr fr0 (fz_mono fiI15182 (by decide))
    have fr15185 : fz 74 g [45, 46, 56] J J15183 := fz_tr frj0 (fz_mono fjI15182 (by decide))
    have e15186 : I15182 (ad g 1) 1 = L := hI15182.2
    have b15187 := BT_get hI15182.1 1 1 2 (0) (0) (900) (by decide) 1 (by decide) (by decide)
    rw [e15186] at b15187
    obtain ⟨w15188, ew15188⟩ : ∃ w : Int32, I15182 (ad g 56) 1 = w := ⟨_, rfl⟩
    have bw15188 := BT_get hI15182.1 56 1 2 (0) (23760) (700000) (by decide) 1 (by decide) (by decide)
    rw [ew15188] at bw15188
    rw [ew15188, ew15118] at pI15182
    refine WQ_iconst (0) (0) dX9_passDay_19 rfl rfl (fun v15189 hv15189 => ?_)
    refine WP_istore (ls' := [(0, _), (1, _), (2, _), (3, _), (4, _)]) dX9_passDay_20 (by decide) rfl ?_
    have lp22_15193 : ∀ (mz : Nat) (i15190 : Int32) (I15191 : pI) (J15192 : pJ) (RI15191 : pR), RfX g RI15191 → RI15191 (ad g 5) 0 = some (ad g 6) → RI15191 (ad g 0) 10 = R (ad g 0) 10 → NL g RI15191 → XI g n L I15191 → fz 74 g [43, 44, 47, 48, 50, 51, 52, 56, 58] I I15191 → fz 74 g [45, 46, 56] J J15192 → ∀ (w15193 : Int32), I15191 (ad g 56) 1 = w15193 → 0 ≤ i15190.toInt → i15190.toInt ≤ 3 → w15193.toInt ≤ w15118.toInt → (4 - i15190.toInt).toNat < mz → WP g mX9_passDay 22 [(0, .ref (ad g 49)), (1, .ref (ad g 56)), (2, .int bo), (3, .int v15121), (4, .int i15190)] [] I15191 J15192 RI15191 (fun r I' J' R' => (XI g n L I' ∧ (RfX g R' ∧ (R' (ad g 5) 0 = R (ad g 5) 0 ∧ R' (ad g 0) 10 = R (ad g 0) 10) ∧ NL g R') ∧ fz 74 g [43, 44, 47, 48, 50, 51, 52, 56, 58] I I' ∧ fz 74 g [45, 46, 56] J J' ∧ (I' (ad g 56) 1).toInt ≤ (I (ad g 56) 1).toInt + 23760) ∧ r = none) := by
      intro mz
      induction mz with
      | zero =>
        intro i15190 I15191 J15192 RI15191 hrI15191 hTI15191 hSI15191 hPI15191 hI15191 fiI15191 fjJ15192 w15193 ew15193 ai15190 bi15190 j0_I15191 hmlp22_15193
        exact absurd hmlp22_15193 (Nat.not_lt_zero _)
      | succ mz ihlp22_15193 =>
        intro i15190 I15191 J15192 RI15191 hrI15191 hTI15191 hSI15191 hPI15191 hI15191 fiI15191 fjJ15192 w15193 ew15193 ai15190 bi15190 j0_I15191 hmlp22_15193
        have bw15193 := BT_get hI15191.1 56 1 2 (0) (23760) (700000) (by decide) 1 (by decide) (by decide)
        rw [ew15193] at bw15193
        have e15195 : I15191 (ad g 1) 1 = L := hI15191.2
        have b15196 := BT_get hI15191.1 1 1 2 (0) (0) (900) (by decide) 1 (by decide) (by decide)
        rw [e15195] at b15196
        refine WP_iload dX9_passDay_22 rfl ?_
        refine WQ_iconst (3) (3) dX9_passDay_24 rfl rfl (fun v15197 hv15197 => ?_)
        refine WQ_icmp_ge 78 dX9_passDay_25 rfl (fun c15197 => ?_) (fun c15197 => ?_)
        · refine WQ_iconst (0) (0) dX9_passDay_78 rfl rfl (fun v15199 hv15199 => ?_)
          refine WP_istore (ls' := [(0, _), (1, _), (2, _), (3, _), (4, _)]) dX9_passDay_79 (by decide) rfl ?_
          have lp81_15203 : ∀ (mz : Nat) (i15200 : Int32) (I15201 : pI) (J15202 : pJ) (RI15201 : pR), RfX g RI15201 → RI15201 (ad g 5) 0 = some (ad g 6) → RI15201 (ad g 0) 10 = R (ad g 0) 10 → NL g RI15201 → XI g n L I15201 → fz 74 g [43, 44, 47, 48, 50, 51, 52, 56, 58] I I15201 → fz 74 g [45, 46, 56] J J15202 → ∀ (w15203 : Int32), I15201 (ad g 56) 1 = w15203 → 0 ≤ i15200.toInt → i15200.toInt ≤ 4 → w15203.toInt ≤ w15118.toInt + 5940 * i15200.toInt → (5 - i15200.toInt).toNat < mz → WP g mX9_passDay 81 [(0, .ref (ad g 49)), (1, .ref (ad g 56)), (2, .int bo), (3, .int v15121), (4, .int i15200)] [] I15201 J15202 RI15201 (fun r I' J' R' => (XI g n L I' ∧ (RfX g R' ∧ (R' (ad g 5) 0 = R (ad g 5) 0 ∧ R' (ad g 0) 10 = R (ad g 0) 10) ∧ NL g R') ∧ fz 74 g [43, 44, 47, 48, 50, 51, 52, 56, 58] I I' ∧ fz 74 g [45, 46, 56] J J' ∧ (I' (ad g 56) 1).toInt ≤ (I (ad g 56) 1).toInt + 23760) ∧ r = none) := by
            intro mz
            induction mz with
            | zero =>
              intro i15200 I15201 J15202 RI15201 hrI15201 hTI15201 hSI15201 hPI15201 hI15201 fiI15201 fjJ15202 w15203 ew15203 ai15200 bi15200 j0_I15201 hmlp81_15203
              exact absurd hmlp81_15203 (Nat.not_lt_zero _)
            | succ mz ihlp81_15203 =>
              intro i15200 I15201 J15202 RI15201 hrI15201 hTI15201 hSI15201 hPI15201 hI15201 fiI15201 fjJ15202 w15203 ew15203 ai15200 bi15200 j0_I15201 hmlp81_15203
              have bw15203 := BT_get hI15201.1 56 1 2 (0) (23760) (700000) (by decide) 1 (by decide) (by decide)
              rw [ew15203] at bw15203
              have e15205 : I15201 (ad g 1) 1 = L := hI15201.2
              have b15206 := BT_get hI15201.1 1 1 2 (0) (0) (900) (by decide) 1 (by decide) (by decide)
              rw [e15205] at b15206
              refine WP_iload dX9_passDay_81 rfl ?_
              refine WP_aload_n dX9_passDay_83 rfl ?_
              refine WP_getr dX9_passDay_84 fX9_25 rfl (lyx_is hy 49 9 rfl) (rfx hrI15201 49 2 5 (by decide)) ?_
              refine WP_getr dX9_passDay_87 fX9_49 rfl (lyx_is hy 5 0 rfl) hTI15201 ?_
              refine WQ_geti dX9_passDay_90 fX9_61 rfl (lyx_is hy 6 7 rfl) (BT_get hI15201.1 6 1 2 (0) (0) (4) (by decide) 1 (by decide) (by decide)) (fun v15207 ev15207 av15207 bv15207 => ?_)
              refine WQ_icmp_ge 110 dX9_passDay_93 rfl (fun c15207 => ?_) (fun c15207 => ?_)
              · refine WP_aload_n dX9_passDay_110 rfl ?_
                refine WP_dup dX9_passDay_111 rfl ?_
                refine WQ_getiu dX9_passDay_112 fX9_33 rfl (lyx_is hy 56 4 rfl) (fun v15209 ev15209 => ?_)
                refine WQ_iconst (1) (1) dX9_passDay_115 rfl rfl (fun v15210 hv15210 => ?_)
                refine WQ_iaddu dX9_passDay_116 (fun v15211 => ?_)
                refine WQ_puti dX9_passDay_117 fX9_33 rfl rfl (lyx_is hy 56 4 rfl) (fun I15212 eI15212 => ?_)
                have hI15212 : XI g n L I15212 := by rw [eI15212]; exact (xi_f0 hy hI15201 (c := 56) (by decide) (Or.inl (by decide)) (by decide))
                have e15213 : I15212 (ad g 56) 1 = w15203 := by rw [eI15212, pp_ne _ _ (Or.inr (by decide))]; exact ew15203
                have e15214 : I15212 (ad g 1) 1 = L := by rw [eI15212, pp_ne _ _ (Or.inl (lyx_ne hy (by decide) (by decide) (by decide)))]; exact e15205
                have e15215 : I15212 (ad g 6) 1 = v15207 := by rw [eI15212, pp_ne _ _ (Or.inl (lyx_ne hy (by decide) (by decide) (by decide)))]; exact ev15207
                have e15216 : I15212 (ad g 56) 0 = v15211 := by rw [eI15212, pp_self]
                have fr15217 : fz 74 g [43, 44, 47, 48, 50, 51, 52, 56, 58] I I15212 := by rw [eI15212]; exact fzx_pp hy fiI15201 (by decide) (by decide)
                clear eI15212
                exact WP_vret dX9_passDay_120 rfl ⟨⟨hI15212, ⟨hrI15201, ⟨hTI15201.trans hT.symm, hSI15201⟩, hPI15201⟩, fr15217, fjJ15202, (by rw [e15213, ew15118]; omega)⟩, rfl⟩
              · refine WP_aload_n dX9_passDay_96 rfl ?_
                refine WP_aload_n dX9_passDay_97 rfl ?_
                refine WP_iload dX9_passDay_98 rfl ?_
                refine WP_iload_n dX9_passDay_100 rfl ?_
                refine WP_callV3 (k := 9) dX9_passDay_101 ⟨⟨⟨by decide, by decide⟩, zX9_serve⟩, lX9_64, by decide, rfl, vX9_serve.1, vX9_serve.2⟩ (lyx_is hy 49 9 rfl) (sx_serve_56_6 hy hrI15201 hPI15201 hTI15201 hI15201 i15200 v15121 (by omega) (by omega) (by omega) (by omega) (by omega) (by rw [ew15203]; omega)) (Nat.le_of_ble_eq_true rfl) ?_
                intro r I15218 J15219 R15220 hq
                obtain ⟨⟨hI15218, ⟨hrI15218, ⟨htI15218, hsI15218⟩, hpI15218⟩, fiI15218, fjI15218, pI15218⟩, rfl⟩ := hq
                have ht_I15218 := htI15218.trans hTI15201
                have hs_I15218 : R15220 (ad g 0) 10 = R (ad g 0) 10 := hsI15218.trans hSI15201
                have fr15221 : fz 74 g [43, 44, 47, 48, 50, 51, 52, 56, 58] I I15218 := fz_tr fiI15201 (fz_mono fiI15218 (by decide))
                have fr15222 : fz 74 g [45, 46, 56] J J15219 := fz_tr fjJ15202 (fz_mono fjI15218 (by decide))
                have e15223 : I15218 (ad g 6) 1 = v15207 := by rw [fz_at fiI15218 6 (by decide) (by decide)]; exact ev15207
                have e15224 : I15218 (ad g 1) 1 = L := hI15218.2
                have b15225 := BT_get hI15218.1 1 1 2 (0) (0) (900) (by decide) 1 (by decide) (by decide)
                rw [e15224] at b15225
                obtain ⟨w15226, ew15226⟩ : ∃ w : Int32, I15218 (ad g 56) 1 = w := ⟨_, rfl⟩
                have bw15226 := BT_get hI15218.1 56 1 2 (0) (23760) (700000) (by decide) 1 (by decide) (by decide)
                rw [ew15226] at bw15226
                rw [ew15226, ew15203] at pI15218
                refine WP_iinc (ls' := [(0, _), (1, _), (2, _), (3, _), (4, _)]) dX9_passDay_104 rfl (by decide) rfl ?_
                have hv15227 : (i15200 + Int32.ofInt (1)).toInt = i15200.toInt + (1) := ia_n rfl (by omega) (by omega)
                generalize i15200 + Int32.ofInt (1) = v15227 at hv15227 ⊢
                refine WP_goto 81 dX9_passDay_107 rfl ?_
                exact WP_sub (fc rfl (fc rfl (fc rfl (fc rfl (fc rfl fn))))) (ihlp81_15203 v15227 I15218 J15219 R15220 hrI15218 ht_I15218 hs_I15218 hpI15218 hI15218 fr15221 fr15222 w15226 ew15226 (by omega) (by omega) (by omega) (by omega))
          exact WP_sub (fc rfl (fc rfl (fc rfl (fc rfl (fc rfl fn))))) (lp81_15203 _ v15199 I15191 J15192 RI15191 hrI15191 hTI15191 hSI15191 hPI15191 hI15191 fiI15191 fjJ15192 w15193 ew15193 (by omega) (by omega) (by omega) (Nat.lt_succ_self _))
        · refine WP_aload_n dX9_passDay_28 rfl ?_
          refine WP_getr dX9_passDay_29 fX9_25 rfl (lyx_is hy 49 9 rfl) (rfx hrI15191 49 2 5 (by decide)) ?_
          refine WP_getr dX9_passDay_32 fX9_49 rfl (lyx_is hy 5 0 rfl) hTI15191 ?_
          refine WP_getr dX9_passDay_35 fX9_55 rfl (lyx_is hy 6 7 rfl) (rfx hrI15191 6 17 19 (by decide)) ?_
          refine WP_iload dX9_passDay_38 rfl ?_
          refine WQ_bipush (7) (7) dX9_passDay_40 rfl rfl (fun v15228 hv15228 => ?_)
          refine WQ_imulk (7) dX9_passDay_42 hv15228 (by omega) (by omega) (fun v15229 hv15229 => ?_)
          refine WP_iload_n dX9_passDay_43 rfl ?_
          refine WQ_iadd dX9_passDay_44 (by omega) (by omega) (fun v15230 hv15230 => ?_)
          refine WQ_iald dX9_passDay_45 (lyx_is hy 19 13 rfl) (lyx_n hy 19 21 rfl) (by omega) (by omega) (fun q hq => BT_get hI15191.1 19 0 21 (-1) (0) (999) (by decide) q (Nat.zero_le _) hq) (fun v15231 av15231 bv15231 ev15231 => ?_)
          clear ev15231
          refine WP_istore (ls' := [(0, _), (1, _), (2, _), (3, _), (4, _), (5, _)]) dX9_passDay_46 (by decide) rfl ?_
          refine WP_aload_n dX9_passDay_48 rfl ?_
          refine WP_getr dX9_passDay_49 fX9_22 rfl (lyx_is hy 49 9 rfl) (rfx hrI15191 49 4 52 (by decide)) ?_
          refine WP_iload dX9_passDay_52 rfl ?_
          refine WP_iload_n dX9_passDay_54 rfl ?_
          have jn71_15236 : ∀ (v15236 : Int32), 0 ≤ v15236.toInt → v15236.toInt ≤ 1000000 → WP g mX9_passDay 71 [(0, .ref (ad g 49)), (1, .ref (ad g 56)), (2, .int bo), (3, .int v15121), (4, .int i15190), (5, .int v15231)] [.int v15236, .int i15190, .ref (ad g 52)] I15191 J15192 RI15191 (fun r I' J' R' => (XI g n L I' ∧ (RfX g R' ∧ (R' (ad g 5) 0 = R (ad g 5) 0 ∧ R' (ad g 0) 10 = R (ad g 0) 10) ∧ NL g R') ∧ fz 74 g [43, 44, 47, 48, 50, 51, 52, 56, 58] I I' ∧ fz 74 g [45, 46, 56] J J' ∧ (I' (ad g 56) 1).toInt ≤ (I (ad g 56) 1).toInt + 23760) ∧ r = none) := by
            intro v15236 av15236 bv15236
            refine WQ_iast dX9_passDay_71 (lyx_is hy 52 13 rfl) (lyx_n hy 52 3 rfl) (by omega) (by omega) (fun I15238 eI15238 => ?_)
            have hI15238 : XI g n L I15238 := by rw [eI15238]; exact (xi_r hy hI15191 (c := 52) (0) (0) (1000000) (by decide) (Or.inl (by decide)) (by decide) (by omega) (by omega))
            have e15239 : I15238 (ad g 56) 1 = w15193 := by rw [eI15238, pp_ne _ _ (Or.inl (lyx_ne hy (by decide) (by decide) (by decide)))]; exact ew15193
            have e15240 : I15238 (ad g 1) 1 = L := by rw [eI15238, pp_ne _ _ (Or.inl (lyx_ne hy (by decide) (by decide) (by decide)))]; exact e15195
            have fr15241 : fz 74 g [43, 44, 47, 48, 50, 51, 52, 56, 58] I I15238 := by rw [eI15238]; exact fzx_pp hy fiI15191 (by decide) (by decide)
            clear eI15238
            refine WP_iinc (ls' := [(0, _), (1, _), (2, _), (3, _), (4, _), (5, _)]) dX9_passDay_72 rfl (by decide) rfl ?_
            have hv15242 : (i15190 + Int32.ofInt (1)).toInt = i15190.toInt + (1) := ia_n rfl (by omega) (by omega)
            generalize i15190 + Int32.ofInt (1) = v15242 at hv15242 ⊢
            refine WP_goto 22 dX9_passDay_75 rfl ?_
            exact WP_sub (fc rfl (fc rfl (fc rfl (fc rfl (fc rfl fn))))) (ihlp22_15193 v15242 I15238 J15192 RI15191 hrI15191 hTI15191 hSI15191 hPI15191 hI15238 fr15241 fjJ15192 w15193 e15239 (by omega) (by omega) (by omega) (by omega))
          refine WQ_if_eq 69 dX9_passDay_55 rfl (fun c15242 => ?_) (fun c15242 => ?_)
          · refine WP_ldc (1000000) dX9_passDay_69 kX9_60 ?_
            obtain ⟨v15244, hv15244, ev15244⟩ : ∃ v : Int32, v.toInt = 1000000 ∧ ((1000000) : Int32) = v := ⟨(1000000), rfl, rfl⟩
            rw [ev15244]; clear ev15244
            exact WP_sub (fc rfl (fc rfl (fc rfl (fc rfl (fc rfl (fc rfl fn)))))) (jn71_15236 v15244 (by omega) (by omega))
          · refine WP_iload dX9_passDay_58 rfl ?_
            refine WQ_iconst (-1) (-1) dX9_passDay_60 rfl rfl (fun v15245 hv15245 => ?_)
            refine WQ_icmp_eq 69 dX9_passDay_61 rfl (fun c15245 => ?_) (fun c15245 => ?_)
            · refine WP_ldc (1000000) dX9_passDay_69 kX9_60 ?_
              obtain ⟨v15247, hv15247, ev15247⟩ : ∃ v : Int32, v.toInt = 1000000 ∧ ((1000000) : Int32) = v := ⟨(1000000), rfl, rfl⟩
              rw [ev15247]; clear ev15247
              exact WP_sub (fc rfl (fc rfl (fc rfl (fc rfl (fc rfl (fc rfl fn)))))) (jn71_15236 v15247 (by omega) (by omega))
            · refine WP_iload dX9_passDay_64 rfl ?_
              refine WP_goto 71 dX9_passDay_66 rfl ?_
              exact WP_sub (fc rfl (fc rfl (fc rfl (fc rfl (fc rfl (fc rfl fn)))))) (jn71_15236 v15231 (by omega) (by omega))
    exact WP_sub (fc rfl (fc rfl (fc rfl (fc rfl (fc rfl fn))))) (lp22_15193 _ v15189 I15182 J15183 R hr hT rfl hP hI15182 fr15184 fr15185 w15188 ew15188 (by omega) (by omega) (by omega) (Nat.lt_succ_self _))
set_option maxHeartbeats 4000000 in
set_option maxRecDepth 100000 in
theorem sx_passDay_56_27 {g : GG} {n : Int} {L : Int32} (hy : LyX g)  {I : pI} {J : pJ} {R : pR} (hr : RfX g R) (hP : NL g R) (hT : R (ad g 5) 0 = some (ad g 27)) (hI : XI g n L I) (bo : Int32) (bo_lo : 0 ≤ bo.toInt) (bo_hi : bo.toInt ≤ 1) (hn : 0 ≤ n ∧ n ≤ 40000) (hb : (I (ad g 56) 1).toInt ≤ 23760 * n + 700000 - 23760) : SP g mX9_passDay [.ref (ad g 49), .ref (ad g 56), .int bo] I J R (fun r I' J' R' => (XI g n L I' ∧ (RfX g R' ∧ (R' (ad g 5) 0 = R (ad g 5) 0 ∧ R' (ad g 0) 10 = R (ad g 0) 10) ∧ NL g R') ∧ fz 74 g [43, 44, 47, 48, 50, 51, 52, 56, 58] I I' ∧ fz 74 g [45, 46, 56] J J' ∧ (I' (ad g 56) 1).toInt ≤ (I (ad g 56) 1).toInt + 23760) ∧ r = none) := by
  refine SP_of ⟨by decide, rfl⟩ (Nat.le_of_ble_eq_true rfl) ?_
  have e15248 : I (ad g 1) 1 = L := hI.2
  have b15249 := BT_get hI.1 1 1 2 (0) (0) (900) (by decide) 1 (by decide) (by decide)
  rw [e15248] at b15249
  have fr0 : fz 74 g [43, 44, 47, 48, 50, 51, 52, 56, 58] I I := fz_rf
  have frj0 : fz 74 g [45, 46, 56] J J := fz_rf
  obtain ⟨w15250, ew15250⟩ : ∃ w : Int32, I (ad g 56) 1 = w := ⟨_, rfl⟩
  have bw15250 := BT_get hI.1 56 1 2 (0) (23760) (700000) (by decide) 1 (by decide) (by decide)
  rw [ew15250] at bw15250
  rw [ew15250] at hb
  refine WP_aload_n dX9_passDay_0 rfl ?_
  refine WQ_getiu dX9_passDay_1 fX9_33 rfl (lyx_is hy 56 4 rfl) (fun v15251 ev15251 => ?_)
  refine WQ_bipush (7) (7) dX9_passDay_4 rfl rfl (fun v15252 hv15252 => ?_)
  refine WQ_floorMod dX9_passDay_6 lX9_39 ⟨by decide, Nat.le_of_ble_eq_true rfl⟩ hv15252 (fun v15253 av15253 bv15253 => ?_)
  refine WP_istore_n (ls' := [(0, _), (1, _), (2, _), (3, _)]) dX9_passDay_9 (by decide) rfl ?_
  refine WP_iload_n dX9_passDay_10 rfl ?_
  refine WQ_if_ne 19 dX9_passDay_11 rfl (fun c15253 => ?_) (fun c15253 => ?_)
  · refine WQ_iconst (0) (0) dX9_passDay_19 rfl rfl (fun v15255 hv15255 => ?_)
    refine WP_istore (ls' := [(0, _), (1, _), (2, _), (3, _), (4, _)]) dX9_passDay_20 (by decide) rfl ?_
    have lp22_15259 : ∀ (mz : Nat) (i15256 : Int32) (I15257 : pI) (J15258 : pJ) (RI15257 : pR), RfX g RI15257 → RI15257 (ad g 5) 0 = some (ad g 27) → RI15257 (ad g 0) 10 = R (ad g 0) 10 → NL g RI15257 → XI g n L I15257 → fz 74 g [43, 44, 47, 48, 50, 51, 52, 56, 58] I I15257 → fz 74 g [45, 46, 56] J J15258 → ∀ (w15259 : Int32), I15257 (ad g 56) 1 = w15259 → 0 ≤ i15256.toInt → i15256.toInt ≤ 3 → w15259.toInt ≤ w15250.toInt → (4 - i15256.toInt).toNat < mz → WP g mX9_passDay 22 [(0, .ref (ad g 49)), (1, .ref (ad g 56)), (2, .int bo), (3, .int v15253), (4, .int i15256)] [] I15257 J15258 RI15257 (fun r I' J' R' => (XI g n L I' ∧ (RfX g R' ∧ (R' (ad g 5) 0 = R (ad g 5) 0 ∧ R' (ad g 0) 10 = R (ad g 0) 10) ∧ NL g R') ∧ fz 74 g [43, 44, 47, 48, 50, 51, 52, 56, 58] I I' ∧ fz 74 g [45, 46, 56] J J' ∧ (I' (ad g 56) 1).toInt ≤ (I (ad g 56) 1).toInt + 23760) ∧ r = none) := by
      intro mz
      induction mz with
      | zero =>
        intro i15256 I15257 J15258 RI15257 hrI15257 hTI15257 hSI15257 hPI15257 hI15257 fiI15257 fjJ15258 w15259 ew15259 ai15256 bi15256 j0_I15257 hmlp22_15259
        exact absurd hmlp22_15259 (Nat.not_lt_zero _)
      | succ mz ihlp22_15259 =>
        intro i15256 I15257 J15258 RI15257 hrI15257 hTI15257 hSI15257 hPI15257 hI15257 fiI15257 fjJ15258 w15259 ew15259 ai15256 bi15256 j0_I15257 hmlp22_15259
        have bw15259 := BT_get hI15257.1 56 1 2 (0) (23760) (700000) (by decide) 1 (by decide) (by decide)
        rw [ew15259] at bw15259
        have e15261 : I15257 (ad g 1) 1 = L := hI15257.2
        have b15262 := BT_get hI15257.1 1 1 2 (0) (0) (900) (by decide) 1 (by decide) (by decide)
        rw [e15261] at b15262
        refine WP_iload dX9_passDay_22 rfl ?_
        refine WQ_iconst (3) (3) dX9_passDay_24 rfl rfl (fun v15263 hv15263 => ?_)
        refine WQ_icmp_ge 78 dX9_passDay_25 rfl (fun c15263 => ?_) (fun c15263 => ?_)
        · refine WQ_iconst (0) (0) dX9_passDay_78 rfl rfl (fun v15265 hv15265 => ?_)
          refine WP_istore (ls' := [(0, _), (1, _), (2, _), (3, _), (4, _)]) dX9_passDay_79 (by decide) rfl ?_
          have lp81_15269 : ∀ (mz : Nat) (i15266 : Int32) (I15267 : pI) (J15268 : pJ) (RI15267 : pR), RfX g RI15267 → RI15267 (ad g 5) 0 = some (ad g 27) → RI15267 (ad g 0) 10 = R (ad g 0) 10 → NL g RI15267 → XI g n L I15267 → fz 74 g [43, 44, 47, 48, 50, 51, 52, 56, 58] I I15267 → fz 74 g [45, 46, 56] J J15268 → ∀ (w15269 : Int32), I15267 (ad g 56) 1 = w15269 → 0 ≤ i15266.toInt → i15266.toInt ≤ 4 → w15269.toInt ≤ w15250.toInt + 5940 * i15266.toInt → (5 - i15266.toInt).toNat < mz → WP g mX9_passDay 81 [(0, .ref (ad g 49)), (1, .ref (ad g 56)), (2, .int bo), (3, .int v15253), (4, .int i15266)] [] I15267 J15268 RI15267 (fun r I' J' R' => (XI g n L I' ∧ (RfX g R' ∧ (R' (ad g 5) 0 = R (ad g 5) 0 ∧ R' (ad g 0) 10 = R (ad g 0) 10) ∧ NL g R') ∧ fz 74 g [43, 44, 47, 48, 50, 51, 52, 56, 58] I I' ∧ fz 74 g [45, 46, 56] J J' ∧ (I' (ad g 56) 1).toInt ≤ (I (ad g 56) 1).toInt + 23760) ∧ r = none) := by
            intro mz
            induction mz with
            | zero =>
              intro i15266 I15267 J15268 RI15267 hrI15267 hTI15267 hSI15267 hPI15267 hI15267 fiI15267 fjJ15268 w15269 ew15269 ai15266 bi15266 j0_I15267 hmlp81_15269
              exact absurd hmlp81_15269 (Nat.not_lt_zero _)
            | succ mz ihlp81_15269 =>
              intro i15266 I15267 J15268 RI15267 hrI15267 hTI15267 hSI15267 hPI15267 hI15267 fiI15267 fjJ15268 w15269 ew15269 ai15266 bi15266 j0_I15267 hmlp81_15269
              have bw15269 := BT_get hI15267.1 56 1 2 (0) (23760) (700000) (by decide) 1 (by decide) (by decide)
              rw [ew15269] at bw15269
              have e15271 : I15267 (ad g 1) 1 = L := hI15267.2
              have b15272 := BT_get hI15267.1 1 1 2 (0) (0) (900) (by decide) 1 (by decide) (by decide)
              rw [e15271] at b15272
              refine WP_iload dX9_passDay_81 rfl ?_
              refine WP_aload_n dX9_passDay_83 rfl ?_
              refine WP_getr dX9_passDay_84 fX9_25 rfl (lyx_is hy 49 9 rfl) (rfx hrI15267 49 2 5 (by decide)) ?_
              refine WP_getr dX9_passDay_87 fX9_49 rfl (lyx_is hy 5 0 rfl) hTI15267 ?_
              refine WQ_geti dX9_passDay_90 fX9_61 rfl (lyx_is hy 27 7 rfl) (BT_get hI15267.1 27 1 2 (0) (0) (4) (by decide) 1 (by decide) (by decide)) (fun v15273 ev15273 av15273 bv15273 => ?_)
              refine WQ_icmp_ge 110 dX9_passDay_93 rfl (fun c15273 => ?_) (fun c15273 => ?_)
              · refine WP_aload_n dX9_passDay_110 rfl ?_
                refine WP_dup dX9_passDay_111 rfl ?_
                refine WQ_getiu dX9_passDay_112 fX9_33 rfl (lyx_is hy 56 4 rfl) (fun v15275 ev15275 => ?_)
                refine WQ_iconst (1) (1) dX9_passDay_115 rfl rfl (fun v15276 hv15276 => ?_)
                refine WQ_iaddu dX9_passDay_116 (fun v15277 => ?_)
                refine WQ_puti dX9_passDay_117 fX9_33 rfl rfl (lyx_is hy 56 4 rfl) (fun I15278 eI15278 => ?_)
                have hI15278 : XI g n L I15278 := by rw [eI15278]; exact (xi_f0 hy hI15267 (c := 56) (by decide) (Or.inl (by decide)) (by decide))
                have e15279 : I15278 (ad g 56) 1 = w15269 := by rw [eI15278, pp_ne _ _ (Or.inr (by decide))]; exact ew15269
                have e15280 : I15278 (ad g 1) 1 = L := by rw [eI15278, pp_ne _ _ (Or.inl (lyx_ne hy (by decide) (by decide) (by decide)))]; exact e15271
                have e15281 : I15278 (ad g 27) 1 = v15273 := by rw [eI15278, pp_ne _ _ (Or.inl (lyx_ne hy (by decide) (by decide) (by decide)))]; exact ev15273
                have e15282 : I15278 (ad g 56) 0 = v15277 := by rw [eI15278, pp_self]
                have fr15283 : fz 74 g [43, 44, 47, 48, 50, 51, 52, 56, 58] I I15278 := by rw [eI15278]; exact fzx_pp hy fiI15267 (by decide) (by decide)
                clear eI15278
                exact WP_vret dX9_passDay_120 rfl ⟨⟨hI15278, ⟨hrI15267, ⟨hTI15267.trans hT.symm, hSI15267⟩, hPI15267⟩, fr15283, fjJ15268, (by rw [e15279, ew15250]; omega)⟩, rfl⟩
              · refine WP_aload_n dX9_passDay_96 rfl ?_
                refine WP_aload_n dX9_passDay_97 rfl ?_
                refine WP_iload dX9_passDay_98 rfl ?_
                refine WP_iload_n dX9_passDay_100 rfl ?_
                refine WP_callV3 (k := 9) dX9_passDay_101 ⟨⟨⟨by decide, by decide⟩, zX9_serve⟩, lX9_64, by decide, rfl, vX9_serve.1, vX9_serve.2⟩ (lyx_is hy 49 9 rfl) (sx_serve_56_27 hy hrI15267 hPI15267 hTI15267 hI15267 i15266 v15253 (by omega) (by omega) (by omega) (by omega) (by omega) (by rw [ew15269]; omega)) (Nat.le_of_ble_eq_true rfl) ?_
                intro r I15284 J15285 R15286 hq
                obtain ⟨⟨hI15284, ⟨hrI15284, ⟨htI15284, hsI15284⟩, hpI15284⟩, fiI15284, fjI15284, pI15284⟩, rfl⟩ := hq
                have ht_I15284 := htI15284.trans hTI15267
                have hs_I15284 : R15286 (ad g 0) 10 = R (ad g 0) 10 := hsI15284.trans hSI15267
                have fr15287 : fz 74 g [43, 44, 47, 48, 50, 51, 52, 56, 58] I I15284 := fz_tr fiI15267 (fz_mono fiI15284 (by decide))
                have fr15288 : fz 74 g [45, 46, 56] J J15285 := fz_tr fjJ15268 (fz_mono fjI15284 (by decide))
                have e15289 : I15284 (ad g 27) 1 = v15273 := by rw [fz_at fiI15284 27 (by decide) (by decide)]; exact ev15273
                have e15290 : I15284 (ad g 1) 1 = L := hI15284.2
                have b15291 := BT_get hI15284.1 1 1 2 (0) (0) (900) (by decide) 1 (by decide) (by decide)
                rw [e15290] at b15291
                obtain ⟨w15292, ew15292⟩ : ∃ w : Int32, I15284 (ad g 56) 1 = w := ⟨_, rfl⟩
                have bw15292 := BT_get hI15284.1 56 1 2 (0) (23760) (700000) (by decide) 1 (by decide) (by decide)
                rw [ew15292] at bw15292
                rw [ew15292, ew15269] at pI15284
                refine WP_iinc (ls' := [(0, _), (1, _), (2, _), (3, _), (4, _)]) dX9_passDay_104 rfl (by decide) rfl ?_
                have hv15293 : (i15266 + Int32.ofInt (1)).toInt = i15266.toInt + (1) := ia_n rfl (by omega) (by omega)
                generalize i15266 + Int32.ofInt (1) = v15293 at hv15293 ⊢
                refine WP_goto 81 dX9_passDay_107 rfl ?_
                exact WP_sub (fc rfl (fc rfl (fc rfl (fc rfl (fc rfl fn))))) (ihlp81_15269 v15293 I15284 J15285 R15286 hrI15284 ht_I15284 hs_I15284 hpI15284 hI15284 fr15287 fr15288 w15292 ew15292 (by omega) (by omega) (by omega) (by omega))
          exact WP_sub (fc rfl (fc rfl (fc rfl (fc rfl (fc rfl fn))))) (lp81_15269 _ v15265 I15257 J15258 RI15257 hrI15257 hTI15257 hSI15257 hPI15257 hI15257 fiI15257 fjJ15258 w15259 ew15259 (by omega) (by omega) (by omega) (Nat.lt_succ_self _))
        · refine WP_aload_n dX9_passDay_28 rfl ?_
          refine WP_getr dX9_passDay_29 fX9_25 rfl (lyx_is hy 49 9 rfl) (rfx hrI15257 49 2 5 (by decide)) ?_
          refine WP_getr dX9_passDay_32 fX9_49 rfl (lyx_is hy 5 0 rfl) hTI15257 ?_
          refine WP_getr dX9_passDay_35 fX9_55 rfl (lyx_is hy 27 7 rfl) (rfx hrI15257 27 17 40 (by decide)) ?_
          refine WP_iload dX9_passDay_38 rfl ?_
          refine WQ_bipush (7) (7) dX9_passDay_40 rfl rfl (fun v15294 hv15294 => ?_)
          refine WQ_imulk (7) dX9_passDay_42 hv15294 (by omega) (by omega) (fun v15295 hv15295 => ?_)
          refine WP_iload_n dX9_passDay_43 rfl ?_
          refine WQ_iadd dX9_passDay_44 (by omega) (by omega) (fun v15296 hv15296 => ?_)
          refine WQ_iald dX9_passDay_45 (lyx_is hy 40 13 rfl) (lyx_n hy 40 21 rfl) (by omega) (by omega) (fun q hq => BT_get hI15257.1 40 0 21 (-1) (0) (999) (by decide) q (Nat.zero_le _) hq) (fun v15297 av15297 bv15297 ev15297 => ?_)
          clear ev15297
          refine WP_istore (ls' := [(0, _), (1, _), (2, _), (3, _), (4, _), (5, _)]) dX9_passDay_46 (by decide) rfl ?_
          refine WP_aload_n dX9_passDay_48 rfl ?_
          refine WP_getr dX9_passDay_49 fX9_22 rfl (lyx_is hy 49 9 rfl) (rfx hrI15257 49 4 52 (by decide)) ?_
          refine WP_iload dX9_passDay_52 rfl ?_
          refine WP_iload_n dX9_passDay_54 rfl ?_
          have jn71_15302 : ∀ (v15302 : Int32), 0 ≤ v15302.toInt → v15302.toInt ≤ 1000000 → WP g mX9_passDay 71 [(0, .ref (ad g 49)), (1, .ref (ad g 56)), (2, .int bo), (3, .int v15253), (4, .int i15256), (5, .int v15297)] [.int v15302, .int i15256, .ref (ad g 52)] I15257 J15258 RI15257 (fun r I' J' R' => (XI g n L I' ∧ (RfX g R' ∧ (R' (ad g 5) 0 = R (ad g 5) 0 ∧ R' (ad g 0) 10 = R (ad g 0) 10) ∧ NL g R') ∧ fz 74 g [43, 44, 47, 48, 50, 51, 52, 56, 58] I I' ∧ fz 74 g [45, 46, 56] J J' ∧ (I' (ad g 56) 1).toInt ≤ (I (ad g 56) 1).toInt + 23760) ∧ r = none) := by
            intro v15302 av15302 bv15302
            refine WQ_iast dX9_passDay_71 (lyx_is hy 52 13 rfl) (lyx_n hy 52 3 rfl) (by omega) (by omega) (fun I15304 eI15304 => ?_)
            have hI15304 : XI g n L I15304 := by rw [eI15304]; exact (xi_r hy hI15257 (c := 52) (0) (0) (1000000) (by decide) (Or.inl (by decide)) (by decide) (by omega) (by omega))
            have e15305 : I15304 (ad g 56) 1 = w15259 := by rw [eI15304, pp_ne _ _ (Or.inl (lyx_ne hy (by decide) (by decide) (by decide)))]; exact ew15259
            have e15306 : I15304 (ad g 1) 1 = L := by rw [eI15304, pp_ne _ _ (Or.inl (lyx_ne hy (by decide) (by decide) (by decide)))]; exact e15261
            have fr15307 : fz 74 g [43, 44, 47, 48, 50, 51, 52, 56, 58] I I15304 := by rw [eI15304]; exact fzx_pp hy fiI15257 (by decide) (by decide)
            clear eI15304
            refine WP_iinc (ls' := [(0, _), (1, _), (2, _), (3, _), (4, _), (5, _)]) dX9_passDay_72 rfl (by decide) rfl ?_
            have hv15308 : (i15256 + Int32.ofInt (1)).toInt = i15256.toInt + (1) := ia_n rfl (by omega) (by omega)
            generalize i15256 + Int32.ofInt (1) = v15308 at hv15308 ⊢
            refine WP_goto 22 dX9_passDay_75 rfl ?_
            exact WP_sub (fc rfl (fc rfl (fc rfl (fc rfl (fc rfl fn))))) (ihlp22_15259 v15308 I15304 J15258 RI15257 hrI15257 hTI15257 hSI15257 hPI15257 hI15304 fr15307 fjJ15258 w15259 e15305 (by omega) (by omega) (by omega) (by omega))
          refine WQ_if_eq 69 dX9_passDay_55 rfl (fun c15308 => ?_) (fun c15308 => ?_)
          · refine WP_ldc (1000000) dX9_passDay_69 kX9_60 ?_
            obtain ⟨v15310, hv15310, ev15310⟩ : ∃ v : Int32, v.toInt = 1000000 ∧ ((1000000) : Int32) = v := ⟨(1000000), rfl, rfl⟩
            rw [ev15310]; clear ev15310
            exact WP_sub (fc rfl (fc rfl (fc rfl (fc rfl (fc rfl (fc rfl fn)))))) (jn71_15302 v15310 (by omega) (by omega))
          · refine WP_iload dX9_passDay_58 rfl ?_
            refine WQ_iconst (-1) (-1) dX9_passDay_60 rfl rfl (fun v15311 hv15311 => ?_)
            refine WQ_icmp_eq 69 dX9_passDay_61 rfl (fun c15311 => ?_) (fun c15311 => ?_)
            · refine WP_ldc (1000000) dX9_passDay_69 kX9_60 ?_
              obtain ⟨v15313, hv15313, ev15313⟩ : ∃ v : Int32, v.toInt = 1000000 ∧ ((1000000) : Int32) = v := ⟨(1000000), rfl, rfl⟩
              rw [ev15313]; clear ev15313
              exact WP_sub (fc rfl (fc rfl (fc rfl (fc rfl (fc rfl (fc rfl fn)))))) (jn71_15302 v15313 (by omega) (by omega))
            · refine WP_iload dX9_passDay_64 rfl ?_
              refine WP_goto 71 dX9_passDay_66 rfl ?_
              exact WP_sub (fc rfl (fc rfl (fc rfl (fc rfl (fc rfl (fc rfl fn)))))) (jn71_15302 v15297 (by omega) (by omega))
    exact WP_sub (fc rfl (fc rfl (fc rfl (fc rfl (fc rfl fn))))) (lp22_15259 _ v15255 I J R hr hT rfl hP hI fr0 frj0 w15250 ew15250 (by omega) (by omega) (by omega) (Nat.lt_succ_self _))
  · refine WP_aload_n dX9_passDay_14 rfl ?_
    refine WP_aload_n dX9_passDay_15 rfl ?_
    refine WP_callV1 (k := 9) dX9_passDay_16 ⟨⟨⟨by decide, by decide⟩, zX9_openChest⟩, lX9_45, by decide, rfl, vX9_openChest.1, vX9_openChest.2⟩ (lyx_is hy 49 9 rfl) (sx_openChestf_56_27 hy hr hT hI   (by omega)) (Nat.le_of_ble_eq_true rfl) ?_
    intro r I15314 J15315 Ra hq
    obtain ⟨⟨hI15314, ec, fiI15314, fjI15314, pI15314⟩, rfl⟩ := hq
    rw [ec]
    clear ec Ra
    have fr15316 : fz 74 g [43, 44, 47, 48, 50, 51, 52, 56, 58] I I15314 := fz_tr fr0 (fz_mono fiI15314 (by decide))
    have fr15317 : fz 74 g [45, 46, 56] J J15315 := fz_tr frj0 (fz_mono fjI15314 (by decide))
    have e15318 : I15314 (ad g 1) 1 = L := hI15314.2
    have b15319 := BT_get hI15314.1 1 1 2 (0) (0) (900) (by decide) 1 (by decide) (by decide)
    rw [e15318] at b15319
    obtain ⟨w15320, ew15320⟩ : ∃ w : Int32, I15314 (ad g 56) 1 = w := ⟨_, rfl⟩
    have bw15320 := BT_get hI15314.1 56 1 2 (0) (23760) (700000) (by decide) 1 (by decide) (by decide)
    rw [ew15320] at bw15320
    rw [ew15320, ew15250] at pI15314
    refine WQ_iconst (0) (0) dX9_passDay_19 rfl rfl (fun v15321 hv15321 => ?_)
    refine WP_istore (ls' := [(0, _), (1, _), (2, _), (3, _), (4, _)]) dX9_passDay_20 (by decide) rfl ?_
    have lp22_15325 : ∀ (mz : Nat) (i15322 : Int32) (I15323 : pI) (J15324 : pJ) (RI15323 : pR), RfX g RI15323 → RI15323 (ad g 5) 0 = some (ad g 27) → RI15323 (ad g 0) 10 = R (ad g 0) 10 → NL g RI15323 → XI g n L I15323 → fz 74 g [43, 44, 47, 48, 50, 51, 52, 56, 58] I I15323 → fz 74 g [45, 46, 56] J J15324 → ∀ (w15325 : Int32), I15323 (ad g 56) 1 = w15325 → 0 ≤ i15322.toInt → i15322.toInt ≤ 3 → w15325.toInt ≤ w15250.toInt → (4 - i15322.toInt).toNat < mz → WP g mX9_passDay 22 [(0, .ref (ad g 49)), (1, .ref (ad g 56)), (2, .int bo), (3, .int v15253), (4, .int i15322)] [] I15323 J15324 RI15323 (fun r I' J' R' => (XI g n L I' ∧ (RfX g R' ∧ (R' (ad g 5) 0 = R (ad g 5) 0 ∧ R' (ad g 0) 10 = R (ad g 0) 10) ∧ NL g R') ∧ fz 74 g [43, 44, 47, 48, 50, 51, 52, 56, 58] I I' ∧ fz 74 g [45, 46, 56] J J' ∧ (I' (ad g 56) 1).toInt ≤ (I (ad g 56) 1).toInt + 23760) ∧ r = none) := by
      intro mz
      induction mz with
      | zero =>
        intro i15322 I15323 J15324 RI15323 hrI15323 hTI15323 hSI15323 hPI15323 hI15323 fiI15323 fjJ15324 w15325 ew15325 ai15322 bi15322 j0_I15323 hmlp22_15325
        exact absurd hmlp22_15325 (Nat.not_lt_zero _)
      | succ mz ihlp22_15325 =>
        intro i15322 I15323 J15324 RI15323 hrI15323 hTI15323 hSI15323 hPI15323 hI15323 fiI15323 fjJ15324 w15325 ew15325 ai15322 bi15322 j0_I15323 hmlp22_15325
        have bw15325 := BT_get hI15323.1 56 1 2 (0) (23760) (700000) (by decide) 1 (by decide) (by decide)
        rw [ew15325] at bw15325
        have e15327 : I15323 (ad g 1) 1 = L := hI15323.2
        have b15328 := BT_get hI15323.1 1 1 2 (0) (0) (900) (by decide) 1 (by decide) (by decide)
        rw [e15327] at b15328
        refine WP_iload dX9_passDay_22 rfl ?_
        refine WQ_iconst (3) (3) dX9_passDay_24 rfl rfl (fun v15329 hv15329 => ?_)
        refine WQ_icmp_ge 78 dX9_passDay_25 rfl (fun c15329 => ?_) (fun c15329 => ?_)
        · refine WQ_iconst (0) (0) dX9_passDay_78 rfl rfl (fun v15331 hv15331 => ?_)
          refine WP_istore (ls' := [(0, _), (1, _), (2, _), (3, _), (4, _)]) dX9_passDay_79 (by decide) rfl ?_
          have lp81_15335 : ∀ (mz : Nat) (i15332 : Int32) (I15333 : pI) (J15334 : pJ) (RI15333 : pR), RfX g RI15333 → RI15333 (ad g 5) 0 = some (ad g 27) → RI15333 (ad g 0) 10 = R (ad g 0) 10 → NL g RI15333 → XI g n L I15333 → fz 74 g [43, 44, 47, 48, 50, 51, 52, 56, 58] I I15333 → fz 74 g [45, 46, 56] J J15334 → ∀ (w15335 : Int32), I15333 (ad g 56) 1 = w15335 → 0 ≤ i15332.toInt → i15332.toInt ≤ 4 → w15335.toInt ≤ w15250.toInt + 5940 * i15332.toInt → (5 - i15332.toInt).toNat < mz → WP g mX9_passDay 81 [(0, .ref (ad g 49)), (1, .ref (ad g 56)), (2, .int bo), (3, .int v15253), (4, .int i15332)] [] I15333 J15334 RI15333 (fun r I' J' R' => (XI g n L I' ∧ (RfX g R' ∧ (R' (ad g 5) 0 = R (ad g 5) 0 ∧ R' (ad g 0) 10 = R (ad g 0) 10) ∧ NL g R') ∧ fz 74 g [43, 44, 47, 48, 50, 51, 52, 56, 58] I I' ∧ fz 74 g [45, 46, 56] J J' ∧ (I' (ad g 56) 1).toInt ≤ (I (ad g 56) 1).toInt + 23760) ∧ r = none) := by
            intro mz
            induction mz with
            | zero =>
              intro i15332 I15333 J15334 RI15333 hrI15333 hTI15333 hSI15333 hPI15333 hI15333 fiI15333 fjJ15334 w15335 ew15335 ai15332 bi15332 j0_I15333 hmlp81_15335
              exact absurd hmlp81_15335 (Nat.not_lt_zero _)
            | succ mz ihlp81_15335 =>
              intro i15332 I15333 J15334 RI15333 hrI15333 hTI15333 hSI15333 hPI15333 hI15333 fiI15333 fjJ15334 w15335 ew15335 ai15332 bi15332 j0_I15333 hmlp81_15335
              have bw15335 := BT_get hI15333.1 56 1 2 (0) (23760) (700000) (by decide) 1 (by decide) (by decide)
              rw [ew15335] at bw15335
              have e15337 : I15333 (ad g 1) 1 = L := hI15333.2
              have b15338 := BT_get hI15333.1 1 1 2 (0) (0) (900) (by decide) 1 (by decide) (by decide)
              rw [e15337] at b15338
              refine WP_iload dX9_passDay_81 rfl ?_
              refine WP_aload_n dX9_passDay_83 rfl ?_
              refine WP_getr dX9_passDay_84 fX9_25 rfl (lyx_is hy 49 9 rfl) (rfx hrI15333 49 2 5 (by decide)) ?_
              refine WP_getr dX9_passDay_87 fX9_49 rfl (lyx_is hy 5 0 rfl) hTI15333 ?_
              refine WQ_geti dX9_passDay_90 fX9_61 rfl (lyx_is hy 27 7 rfl) (BT_get hI15333.1 27 1 2 (0) (0) (4) (by decide) 1 (by decide) (by decide)) (fun v15339 ev15339 av15339 bv15339 => ?_)
              refine WQ_icmp_ge 110 dX9_passDay_93 rfl (fun c15339 => ?_) (fun c15339 => ?_)
              · refine WP_aload_n dX9_passDay_110 rfl ?_
                refine WP_dup dX9_passDay_111 rfl ?_
                refine WQ_getiu dX9_passDay_112 fX9_33 rfl (lyx_is hy 56 4 rfl) (fun v15341 ev15341 => ?_)
                refine WQ_iconst (1) (1) dX9_passDay_115 rfl rfl (fun v15342 hv15342 => ?_)
                refine WQ_iaddu dX9_passDay_116 (fun v15343 => ?_)
                refine WQ_puti dX9_passDay_117 fX9_33 rfl rfl (lyx_is hy 56 4 rfl) (fun I15344 eI15344 => ?_)
                have hI15344 : XI g n L I15344 := by rw [eI15344]; exact (xi_f0 hy hI15333 (c := 56) (by decide) (Or.inl (by decide)) (by decide))
                have e15345 : I15344 (ad g 56) 1 = w15335 := by rw [eI15344, pp_ne _ _ (Or.inr (by decide))]; exact ew15335
                have e15346 : I15344 (ad g 1) 1 = L := by rw [eI15344, pp_ne _ _ (Or.inl (lyx_ne hy (by decide) (by decide) (by decide)))]; exact e15337
                have e15347 : I15344 (ad g 27) 1 = v15339 := by rw [eI15344, pp_ne _ _ (Or.inl (lyx_ne hy (by decide) (by decide) (by decide)))]; exact ev15339
                have e15348 : I15344 (ad g 56) 0 = v15343 := by rw [eI15344, pp_self]
                have fr15349 : fz 74 g [43, 44, 47, 48, 50, 51, 52, 56, 58] I I15344 := by rw [eI15344]; exact fzx_pp hy fiI15333 (by decide) (by decide)
                clear eI15344
                exact WP_vret dX9_passDay_120 rfl ⟨⟨hI15344, ⟨hrI15333, ⟨hTI15333.trans hT.symm, hSI15333⟩, hPI15333⟩, fr15349, fjJ15334, (by rw [e15345, ew15250]; omega)⟩, rfl⟩
              · refine WP_aload_n dX9_passDay_96 rfl ?_
                refine WP_aload_n dX9_passDay_97 rfl ?_
                refine WP_iload dX9_passDay_98 rfl ?_
                refine WP_iload_n dX9_passDay_100 rfl ?_
                refine WP_callV3 (k := 9) dX9_passDay_101 ⟨⟨⟨by decide, by decide⟩, zX9_serve⟩, lX9_64, by decide, rfl, vX9_serve.1, vX9_serve.2⟩ (lyx_is hy 49 9 rfl) (sx_serve_56_27 hy hrI15333 hPI15333 hTI15333 hI15333 i15332 v15253 (by omega) (by omega) (by omega) (by omega) (by omega) (by rw [ew15335]; omega)) (Nat.le_of_ble_eq_true rfl) ?_
                intro r I15350 J15351 R15352 hq
                obtain ⟨⟨hI15350, ⟨hrI15350, ⟨htI15350, hsI15350⟩, hpI15350⟩, fiI15350, fjI15350, pI15350⟩, rfl⟩ := hq
                have ht_I15350 := htI15350.trans hTI15333
                have hs_I15350 : R15352 (ad g 0) 10 = R (ad g 0) 10 := hsI15350.trans hSI15333
                have fr15353 : fz 74 g [43, 44, 47, 48, 50, 51, 52, 56, 58] I I15350 := fz_tr fiI15333 (fz_mono fiI15350 (by decide))
                have fr15354 : fz 74 g [45, 46, 56] J J15351 := fz_tr fjJ15334 (fz_mono fjI15350 (by decide))
                have e15355 : I15350 (ad g 27) 1 = v15339 := by rw [fz_at fiI15350 27 (by decide) (by decide)]; exact ev15339
                have e15356 : I15350 (ad g 1) 1 = L := hI15350.2
                have b15357 := BT_get hI15350.1 1 1 2 (0) (0) (900) (by decide) 1 (by decide) (by decide)
                rw [e15356] at b15357
                obtain ⟨w15358, ew15358⟩ : ∃ w : Int32, I15350 (ad g 56) 1 = w := ⟨_, rfl⟩
                have bw15358 := BT_get hI15350.1 56 1 2 (0) (23760) (700000) (by decide) 1 (by decide) (by decide)
                rw [ew15358] at bw15358
                rw [ew15358, ew15335] at pI15350
                refine WP_iinc (ls' := [(0, _), (1, _), (2, _), (3, _), (4, _)]) dX9_passDay_104 rfl (by decide) rfl ?_
                have hv15359 : (i15332 + Int32.ofInt (1)).toInt = i15332.toInt + (1) := ia_n rfl (by omega) (by omega)
                generalize i15332 + Int32.ofInt (1) = v15359 at hv15359 ⊢
                refine WP_goto 81 dX9_passDay_107 rfl ?_
                exact WP_sub (fc rfl (fc rfl (fc rfl (fc rfl (fc rfl fn))))) (ihlp81_15335 v15359 I15350 J15351 R15352 hrI15350 ht_I15350 hs_I15350 hpI15350 hI15350 fr15353 fr15354 w15358 ew15358 (by omega) (by omega) (by omega) (by omega))
          exact WP_sub (fc rfl (fc rfl (fc rfl (fc rfl (fc rfl fn))))) (lp81_15335 _ v15331 I15323 J15324 RI15323 hrI15323 hTI15323 hSI15323 hPI15323 hI15323 fiI15323 fjJ15324 w15325 ew15325 (by omega) (by omega) (by omega) (Nat.lt_succ_self _))
        · refine WP_aload_n dX9_passDay_28 rfl ?_
          refine WP_getr dX9_passDay_29 fX9_25 rfl (lyx_is hy 49 9 rfl) (rfx hrI15323 49 2 5 (by decide)) ?_
          refine WP_getr dX9_passDay_32 fX9_49 rfl (lyx_is hy 5 0 rfl) hTI15323 ?_
          refine WP_getr dX9_passDay_35 fX9_55 rfl (lyx_is hy 27 7 rfl) (rfx hrI15323 27 17 40 (by decide)) ?_
          refine WP_iload dX9_passDay_38 rfl ?_
          refine WQ_bipush (7) (7) dX9_passDay_40 rfl rfl (fun v15360 hv15360 => ?_)
          refine WQ_imulk (7) dX9_passDay_42 hv15360 (by omega) (by omega) (fun v15361 hv15361 => ?_)
          refine WP_iload_n dX9_passDay_43 rfl ?_
          refine WQ_iadd dX9_passDay_44 (by omega) (by omega) (fun v15362 hv15362 => ?_)
          refine WQ_iald dX9_passDay_45 (lyx_is hy 40 13 rfl) (lyx_n hy 40 21 rfl) (by omega) (by omega) (fun q hq => BT_get hI15323.1 40 0 21 (-1) (0) (999) (by decide) q (Nat.zero_le _) hq) (fun v15363 av15363 bv15363 ev15363 => ?_)
          clear ev15363
          refine WP_istore (ls' := [(0, _), (1, _), (2, _), (3, _), (4, _), (5, _)]) dX9_passDay_46 (by decide) rfl ?_
          refine WP_aload_n dX9_passDay_48 rfl ?_
          refine WP_getr dX9_passDay_49 fX9_22 rfl (lyx_is hy 49 9 rfl) (rfx hrI15323 49 4 52 (by decide)) ?_
          refine WP_iload dX9_passDay_52 rfl ?_
          refine WP_iload_n dX9_passDay_54 rfl ?_
          have jn71_15368 : ∀ (v15368 : Int32), 0 ≤ v15368.toInt → v15368.toInt ≤ 1000000 → WP g mX9_passDay 71 [(0, .ref (ad g 49)), (1, .ref (ad g 56)), (2, .int bo), (3, .int v15253), (4, .int i15322), (5, .int v15363)] [.int v15368, .int i15322, .ref (ad g 52)] I15323 J15324 RI15323 (fun r I' J' R' => (XI g n L I' ∧ (RfX g R' ∧ (R' (ad g 5) 0 = R (ad g 5) 0 ∧ R' (ad g 0) 10 = R (ad g 0) 10) ∧ NL g R') ∧ fz 74 g [43, 44, 47, 48, 50, 51, 52, 56, 58] I I' ∧ fz 74 g [45, 46, 56] J J' ∧ (I' (ad g 56) 1).toInt ≤ (I (ad g 56) 1).toInt + 23760) ∧ r = none) := by
            intro v15368 av15368 bv15368
            refine WQ_iast dX9_passDay_71 (lyx_is hy 52 13 rfl) (lyx_n hy 52 3 rfl) (by omega) (by omega) (fun I15370 eI15370 => ?_)
            have hI15370 : XI g n L I15370 := by rw [eI15370]; exact (xi_r hy hI15323 (c := 52) (0) (0) (1000000) (by decide) (Or.inl (by decide)) (by decide) (by omega) (by omega))
            have e15371 : I15370 (ad g 56) 1 = w15325 := by rw [eI15370, pp_ne _ _ (Or.inl (lyx_ne hy (by decide) (by decide) (by decide)))]; exact ew15325
            have e15372 : I15370 (ad g 1) 1 = L := by rw [eI15370, pp_ne _ _ (Or.inl (lyx_ne hy (by decide) (by decide) (by decide)))]; exact e15327
            have fr15373 : fz 74 g [43, 44, 47, 48, 50, 51, 52, 56, 58] I I15370 := by rw [eI15370]; exact fzx_pp hy fiI15323 (by decide) (by decide)
            clear eI15370
            refine WP_iinc (ls' := [(0, _), (1, _), (2, _), (3, _), (4, _), (5, _)]) dX9_passDay_72 rfl (by decide) rfl ?_
            have hv15374 : (i15322 + Int32.ofInt (1)).toInt = i15322.toInt + (1) := ia_n rfl (by omega) (by omega)
            generalize i15322 + Int32.ofInt (1) = v15374 at hv15374 ⊢
            refine WP_goto 22 dX9_passDay_75 rfl ?_
            exact WP_sub (fc rfl (fc rfl (fc rfl (fc rfl (fc rfl fn))))) (ihlp22_15325 v15374 I15370 J15324 RI15323 hrI15323 hTI15323 hSI15323 hPI15323 hI15370 fr15373 fjJ15324 w15325 e15371 (by omega) (by omega) (by omega) (by omega))
          refine WQ_if_eq 69 dX9_passDay_55 rfl (fun c15374 => ?_) (fun c15374 => ?_)
          · refine WP_ldc (1000000) dX9_passDay_69 kX9_60 ?_
            obtain ⟨v15376, hv15376, ev15376⟩ : ∃ v : Int32, v.toInt = 1000000 ∧ ((1000000) : Int32) = v := ⟨(1000000), rfl, rfl⟩
            rw [ev15376]; clear ev15376
            exact WP_sub (fc rfl (fc rfl (fc rfl (fc rfl (fc rfl (fc rfl fn)))))) (jn71_15368 v15376 (by omega) (by omega))
          · refine WP_iload dX9_passDay_58 rfl ?_
            refine WQ_iconst (-1) (-1) dX9_passDay_60 rfl rfl (fun v15377 hv15377 => ?_)
            refine WQ_icmp_eq 69 dX9_passDay_61 rfl (fun c15377 => ?_) (fun c15377 => ?_)
            · refine WP_ldc (1000000) dX9_passDay_69 kX9_60 ?_
              obtain ⟨v15379, hv15379, ev15379⟩ : ∃ v : Int32, v.toInt = 1000000 ∧ ((1000000) : Int32) = v := ⟨(1000000), rfl, rfl⟩
              rw [ev15379]; clear ev15379
              exact WP_sub (fc rfl (fc rfl (fc rfl (fc rfl (fc rfl (fc rfl fn)))))) (jn71_15368 v15379 (by omega) (by omega))
            · refine WP_iload dX9_passDay_64 rfl ?_
              refine WP_goto 71 dX9_passDay_66 rfl ?_
              exact WP_sub (fc rfl (fc rfl (fc rfl (fc rfl (fc rfl (fc rfl fn)))))) (jn71_15368 v15363 (by omega) (by omega))
    exact WP_sub (fc rfl (fc rfl (fc rfl (fc rfl (fc rfl fn))))) (lp22_15325 _ v15321 I15314 J15315 R hr hT rfl hP hI15314 fr15316 fr15317 w15320 ew15320 (by omega) (by omega) (by omega) (Nat.lt_succ_self _))
