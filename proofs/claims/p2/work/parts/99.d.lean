set_option maxHeartbeats 4000000 in
set_option maxRecDepth 100000 in
theorem sx_passDay_53_6 {g : GG} {n : Int} {L : Int32} (hy : LyX g)  {I : pI} {J : pJ} {R : pR} (hr : RfX g R) (hP : NL g R) (hT : R (ad g 5) 0 = some (ad g 6)) (hI : XI g n L I) (bo : Int32) (bo_lo : 0 ≤ bo.toInt) (bo_hi : bo.toInt ≤ 1) (hn : 0 ≤ n ∧ n ≤ 40000) (hb : (I (ad g 53) 1).toInt ≤ 23760 * n + 0 - 23760) : SP g mX9_passDay [.ref (ad g 49), .ref (ad g 53), .int bo] I J R (fun r I' J' R' => (XI g n L I' ∧ (RfX g R' ∧ (R' (ad g 5) 0 = R (ad g 5) 0 ∧ R' (ad g 0) 10 = R (ad g 0) 10) ∧ NL g R') ∧ fz 74 g [43, 44, 47, 48, 50, 51, 52, 53, 55] I I' ∧ (I' (ad g 53) 1).toInt ≤ (I (ad g 53) 1).toInt + 23760) ∧ r = none) := by
  refine SP_of ⟨by decide, rfl⟩ (Nat.le_of_ble_eq_true rfl) ?_
  have e14253 : I (ad g 1) 1 = L := hI.2
  have b14254 := BT_get hI.1 1 1 2 (0) (0) (900) (by decide) 1 (by decide) (by decide)
  rw [e14253] at b14254
  have fr0 : fz 74 g [43, 44, 47, 48, 50, 51, 52, 53, 55] I I := fz_rf
  obtain ⟨w14255, ew14255⟩ : ∃ w : Int32, I (ad g 53) 1 = w := ⟨_, rfl⟩
  have bw14255 := BT_get hI.1 53 1 2 (0) (23760) (0) (by decide) 1 (by decide) (by decide)
  rw [ew14255] at bw14255
  rw [ew14255] at hb
  refine WP_aload_n dX9_passDay_0 rfl ?_
  refine WQ_getiu dX9_passDay_1 fX9_33 rfl (lyx_is hy 53 4 rfl) (fun v14256 ev14256 => ?_)
  refine WQ_bipush (7) (7) dX9_passDay_4 rfl rfl (fun v14257 hv14257 => ?_)
  refine WQ_floorMod dX9_passDay_6 lX9_39 ⟨by decide, Nat.le_of_ble_eq_true rfl⟩ hv14257 (fun v14258 av14258 bv14258 => ?_)
  refine WP_istore_n (ls' := [(0, _), (1, _), (2, _), (3, _)]) dX9_passDay_9 (by decide) rfl ?_
  refine WP_iload_n dX9_passDay_10 rfl ?_
  refine WQ_if_ne 19 dX9_passDay_11 rfl (fun c14258 => ?_) (fun c14258 => ?_)
  · refine WQ_iconst (0) (0) dX9_passDay_19 rfl rfl (fun v14260 hv14260 => ?_)
    refine WP_istore (ls' := [(0, _), (1, _), (2, _), (3, _), (4, _)]) dX9_passDay_20 (by decide) rfl ?_
    have lp22_14264 : ∀ (mz : Nat) (i14261 : Int32) (I14262 : pI) (J14263 : pJ) (RI14262 : pR), RfX g RI14262 → RI14262 (ad g 5) 0 = some (ad g 6) → RI14262 (ad g 0) 10 = R (ad g 0) 10 → NL g RI14262 → XI g n L I14262 → fz 74 g [43, 44, 47, 48, 50, 51, 52, 53, 55] I I14262 → ∀ (w14264 : Int32), I14262 (ad g 53) 1 = w14264 → 0 ≤ i14261.toInt → i14261.toInt ≤ 3 → w14264.toInt ≤ w14255.toInt → (4 - i14261.toInt).toNat < mz → WP g mX9_passDay 22 [(0, .ref (ad g 49)), (1, .ref (ad g 53)), (2, .int bo), (3, .int v14258), (4, .int i14261)] [] I14262 J14263 RI14262 (fun r I' J' R' => (XI g n L I' ∧ (RfX g R' ∧ (R' (ad g 5) 0 = R (ad g 5) 0 ∧ R' (ad g 0) 10 = R (ad g 0) 10) ∧ NL g R') ∧ fz 74 g [43, 44, 47, 48, 50, 51, 52, 53, 55] I I' ∧ (I' (ad g 53) 1).toInt ≤ (I (ad g 53) 1).toInt + 23760) ∧ r = none) := by
      intro mz
      induction mz with
      | zero =>
        intro i14261 I14262 J14263 RI14262 hrI14262 hTI14262 hSI14262 hPI14262 hI14262 fiI14262 w14264 ew14264 ai14261 bi14261 j0_I14262 hmlp22_14264
        exact absurd hmlp22_14264 (Nat.not_lt_zero _)
      | succ mz ihlp22_14264 =>
        intro i14261 I14262 J14263 RI14262 hrI14262 hTI14262 hSI14262 hPI14262 hI14262 fiI14262 w14264 ew14264 ai14261 bi14261 j0_I14262 hmlp22_14264
        have bw14264 := BT_get hI14262.1 53 1 2 (0) (23760) (0) (by decide) 1 (by decide) (by decide)
        rw [ew14264] at bw14264
        have e14266 : I14262 (ad g 1) 1 = L := hI14262.2
        have b14267 := BT_get hI14262.1 1 1 2 (0) (0) (900) (by decide) 1 (by decide) (by decide)
        rw [e14266] at b14267
        refine WP_iload dX9_passDay_22 rfl ?_
        refine WQ_iconst (3) (3) dX9_passDay_24 rfl rfl (fun v14268 hv14268 => ?_)
        refine WQ_icmp_ge 78 dX9_passDay_25 rfl (fun c14268 => ?_) (fun c14268 => ?_)
        · refine WQ_iconst (0) (0) dX9_passDay_78 rfl rfl (fun v14270 hv14270 => ?_)
          refine WP_istore (ls' := [(0, _), (1, _), (2, _), (3, _), (4, _)]) dX9_passDay_79 (by decide) rfl ?_
          have lp81_14274 : ∀ (mz : Nat) (i14271 : Int32) (I14272 : pI) (J14273 : pJ) (RI14272 : pR), RfX g RI14272 → RI14272 (ad g 5) 0 = some (ad g 6) → RI14272 (ad g 0) 10 = R (ad g 0) 10 → NL g RI14272 → XI g n L I14272 → fz 74 g [43, 44, 47, 48, 50, 51, 52, 53, 55] I I14272 → ∀ (w14274 : Int32), I14272 (ad g 53) 1 = w14274 → 0 ≤ i14271.toInt → i14271.toInt ≤ 4 → w14274.toInt ≤ w14255.toInt + 5940 * i14271.toInt → (5 - i14271.toInt).toNat < mz → WP g mX9_passDay 81 [(0, .ref (ad g 49)), (1, .ref (ad g 53)), (2, .int bo), (3, .int v14258), (4, .int i14271)] [] I14272 J14273 RI14272 (fun r I' J' R' => (XI g n L I' ∧ (RfX g R' ∧ (R' (ad g 5) 0 = R (ad g 5) 0 ∧ R' (ad g 0) 10 = R (ad g 0) 10) ∧ NL g R') ∧ fz 74 g [43, 44, 47, 48, 50, 51, 52, 53, 55] I I' ∧ (I' (ad g 53) 1).toInt ≤ (I (ad g 53) 1).toInt + 23760) ∧ r = none) := by
            intro mz
            induction mz with
            | zero =>
              intro i14271 I14272 J14273 RI14272 hrI14272 hTI14272 hSI14272 hPI14272 hI14272 fiI14272 w14274 ew14274 ai14271 bi14271 j0_I14272 hmlp81_14274
              exact absurd hmlp81_14274 (Nat.not_lt_zero _)
            | succ mz ihlp81_14274 =>
              intro i14271 I14272 J14273 RI14272 hrI14272 hTI14272 hSI14272 hPI14272 hI14272 fiI14272 w14274 ew14274 ai14271 bi14271 j0_I14272 hmlp81_14274
              have bw14274 := BT_get hI14272.1 53 1 2 (0) (23760) (0) (by decide) 1 (by decide) (by decide)
              rw [ew14274] at bw14274
              have e14276 : I14272 (ad g 1) 1 = L := hI14272.2
              have b14277 := BT_get hI14272.1 1 1 2 (0) (0) (900) (by decide) 1 (by decide) (by decide)
              rw [e14276] at b14277
              refine WP_iload dX9_passDay_81 rfl ?_
              refine WP_aload_n dX9_passDay_83 rfl ?_
              refine WP_getr dX9_passDay_84 fX9_25 rfl (lyx_is hy 49 9 rfl) (rfx hrI14272 49 2 5 (by decide)) ?_
              refine WP_getr dX9_passDay_87 fX9_49 rfl (lyx_is hy 5 0 rfl) hTI14272 ?_
              refine WQ_geti dX9_passDay_90 fX9_61 rfl (lyx_is hy 6 7 rfl) (BT_get hI14272.1 6 1 2 (0) (0) (4) (by decide) 1 (by decide) (by decide)) (fun v14278 ev14278 av14278 bv14278 => ?_)
              refine WQ_icmp_ge 110 dX9_passDay_93 rfl (fun c14278 => ?_) (fun c14278 => ?_)
              · refine WP_aload_n dX9_passDay_110 rfl ?_
                refine WP_dup dX9_passDay_111 rfl ?_
                refine WQ_getiu dX9_passDay_112 fX9_33 rfl (lyx_is hy 53 4 rfl) (fun v14280 ev14280 => ?_)
                refine WQ_iconst (1) (1) dX9_passDay_115 rfl rfl (fun v14281 hv14281 => ?_)
                refine WQ_iaddu dX9_passDay_116 (fun v14282 => ?_)
                refine WQ_puti dX9_passDay_117 fX9_33 rfl rfl (lyx_is hy 53 4 rfl) (fun I14283 eI14283 => ?_)
                have hI14283 : XI g n L I14283 := by rw [eI14283]; exact (xi_f0 hy hI14272 (c := 53) (by decide) (Or.inl (by decide)) (by decide))
                have e14284 : I14283 (ad g 53) 1 = w14274 := by rw [eI14283, pp_ne _ _ (Or.inr (by decide))]; exact ew14274
                have e14285 : I14283 (ad g 1) 1 = L := by rw [eI14283, pp_ne _ _ (Or.inl (lyx_ne hy (by decide) (by decide) (by decide)))]; exact e14276
                have e14286 : I14283 (ad g 6) 1 = v14278 := by rw [eI14283, pp_ne _ _ (Or.inl (lyx_ne hy (by decide) (by decide) (by decide)))]; exact ev14278
                have e14287 : I14283 (ad g 53) 0 = v14282 := by rw [eI14283, pp_self]
                have fr14288 : fz 74 g [43, 44, 47, 48, 50, 51, 52, 53, 55] I I14283 := by rw [eI14283]; exact fzx_pp hy fiI14272 (by decide) (by decide)
                clear eI14283
                exact WP_vret dX9_passDay_120 rfl ⟨⟨hI14283, ⟨hrI14272, ⟨hTI14272.trans hT.symm, hSI14272⟩, hPI14272⟩, fr14288, (by rw [e14284, ew14255]; omega)⟩, rfl⟩
              · refine WP_aload_n dX9_passDay_96 rfl ?_
                refine WP_aload_n dX9_passDay_97 rfl ?_
                refine WP_iload dX9_passDay_98 rfl ?_
                refine WP_iload_n dX9_passDay_100 rfl ?_
                refine WP_callV3 (k := 9) dX9_passDay_101 ⟨⟨⟨by decide, by decide⟩, zX9_serve⟩, lX9_64, by decide, rfl, vX9_serve.1, vX9_serve.2⟩ (lyx_is hy 49 9 rfl) (sx_serve_53_6 hy hrI14272 hPI14272 hTI14272 hI14272 i14271 v14258 (by omega) (by omega) (by omega) (by omega) (by omega) (by rw [ew14274]; omega)) (Nat.le_of_ble_eq_true rfl) ?_
                intro r I14289 J14290 R14291 hq
                obtain ⟨⟨hI14289, ⟨hrI14289, ⟨htI14289, hsI14289⟩, hpI14289⟩, fiI14289, pI14289⟩, rfl⟩ := hq
                have ht_I14289 := htI14289.trans hTI14272
                have hs_I14289 : R14291 (ad g 0) 10 = R (ad g 0) 10 := hsI14289.trans hSI14272
                have fr14292 : fz 74 g [43, 44, 47, 48, 50, 51, 52, 53, 55] I I14289 := fz_tr fiI14272 (fz_mono fiI14289 (by decide))
                have e14293 : I14289 (ad g 6) 1 = v14278 := by rw [fz_at fiI14289 6 (by decide) (by decide)]; exact ev14278
                have e14294 : I14289 (ad g 1) 1 = L := hI14289.2
                have b14295 := BT_get hI14289.1 1 1 2 (0) (0) (900) (by decide) 1 (by decide) (by decide)
                rw [e14294] at b14295
                obtain ⟨w14296, ew14296⟩ : ∃ w : Int32, I14289 (ad g 53) 1 = w := ⟨_, rfl⟩
                have bw14296 := BT_get hI14289.1 53 1 2 (0) (23760) (0) (by decide) 1 (by decide) (by decide)
                rw [ew14296] at bw14296
                rw [ew14296, ew14274] at pI14289
                refine WP_iinc (ls' := [(0, _), (1, _), (2, _), (3, _), (4, _)]) dX9_passDay_104 rfl (by decide) rfl ?_
                have hv14297 : (i14271 + Int32.ofInt (1)).toInt = i14271.toInt + (1) := ia_n rfl (by omega) (by omega)
                generalize i14271 + Int32.ofInt (1) = v14297 at hv14297 ⊢
                refine WP_goto 81 dX9_passDay_107 rfl ?_
                exact WP_sub (fc rfl (fc rfl (fc rfl (fc rfl (fc rfl fn))))) (ihlp81_14274 v14297 I14289 J14290 R14291 hrI14289 ht_I14289 hs_I14289 hpI14289 hI14289 fr14292 w14296 ew14296 (by omega) (by omega) (by omega) (by omega))
          exact WP_sub (fc rfl (fc rfl (fc rfl (fc rfl (fc rfl fn))))) (lp81_14274 _ v14270 I14262 J14263 RI14262 hrI14262 hTI14262 hSI14262 hPI14262 hI14262 fiI14262 w14264 ew14264 (by omega) (by omega) (by omega) (Nat.lt_succ_self _))
        · refine WP_aload_n dX9_passDay_28 rfl ?_
          refine WP_getr dX9_passDay_29 fX9_25 rfl (lyx_is hy 49 9 rfl) (rfx hrI14262 49 2 5 (by decide)) ?_
          refine WP_getr dX9_passDay_32 fX9_49 rfl (lyx_is hy 5 0 rfl) hTI14262 ?_
          refine WP_getr dX9_passDay_35 fX9_55 rfl (lyx_is hy 6 7 rfl) (rfx hrI14262 6 17 19 (by decide)) ?_
          refine WP_iload dX9_passDay_38 rfl ?_
          refine WQ_bipush (7) (7) dX9_passDay_40 rfl rfl (fun v14298 hv14298 => ?_)
          refine WQ_imulk (7) dX9_passDay_42 hv14298 (by omega) (by omega) (fun v14299 hv14299 => ?_)
          refine WP_iload_n dX9_passDay_43 rfl ?_
          refine WQ_iadd dX9_passDay_44 (by omega) (by omega) (fun v14300 hv14300 => ?_)
          refine WQ_iald dX9_passDay_45 (lyx_is hy 19 13 rfl) (lyx_n hy 19 21 rfl) (by omega) (by omega) (fun q hq => BT_get hI14262.1 19 0 21 (-1) (0) (999) (by decide) q (Nat.zero_le _) hq) (fun v14301 av14301 bv14301 ev14301 => ?_)
          clear ev14301
          refine WP_istore (ls' := [(0, _), (1, _), (2, _), (3, _), (4, _), (5, _)]) dX9_passDay_46 (by decide) rfl ?_
          refine WP_aload_n dX9_passDay_48 rfl ?_
          refine WP_getr dX9_passDay_49 fX9_22 rfl (lyx_is hy 49 9 rfl) (rfx hrI14262 49 4 52 (by decide)) ?_
          refine WP_iload dX9_passDay_52 rfl ?_
          refine WP_iload_n dX9_passDay_54 rfl ?_
          have jn71_14306 : ∀ (v14306 : Int32), 0 ≤ v14306.toInt → v14306.toInt ≤ 1000000 → WP g mX9_passDay 71 [(0, .ref (ad g 49)), (1, .ref (ad g 53)), (2, .int bo), (3, .int v14258), (4, .int i14261), (5, .int v14301)] [.int v14306, .int i14261, .ref (ad g 52)] I14262 J14263 RI14262 (fun r I' J' R' => (XI g n L I' ∧ (RfX g R' ∧ (R' (ad g 5) 0 = R (ad g 5) 0 ∧ R' (ad g 0) 10 = R (ad g 0) 10) ∧ NL g R') ∧ fz 74 g [43, 44, 47, 48, 50, 51, 52, 53, 55] I I' ∧ (I' (ad g 53) 1).toInt ≤ (I (ad g 53) 1).toInt + 23760) ∧ r = none) := by
            intro v14306 av14306 bv14306
            refine WQ_iast dX9_passDay_71 (lyx_is hy 52 13 rfl) (lyx_n hy 52 3 rfl) (by omega) (by omega) (fun I14308 eI14308 => ?_)
            have hI14308 : XI g n L I14308 := by rw [eI14308]; exact (xi_r hy hI14262 (c := 52) (0) (0) (1000000) (by decide) (Or.inl (by decide)) (by decide) (by omega) (by omega))
            have e14309 : I14308 (ad g 53) 1 = w14264 := by rw [eI14308, pp_ne _ _ (Or.inl (lyx_ne hy (by decide) (by decide) (by decide)))]; exact ew14264
            have e14310 : I14308 (ad g 1) 1 = L := by rw [eI14308, pp_ne _ _ (Or.inl (lyx_ne hy (by decide) (by decide) (by decide)))]; exact e14266
            have fr14311 : fz 74 g [43, 44, 47, 48, 50, 51, 52, 53, 55] I I14308 := by rw [eI14308]; exact fzx_pp hy fiI14262 (by decide) (by decide)
            clear eI14308
            refine WP_iinc (ls' := [(0, _), (1, _), (2, _), (3, _), (4, _), (5, _)]) dX9_passDay_72 rfl (by decide) rfl ?_
            have hv14312 : (i14261 + Int32.ofInt (1)).toInt = i14261.toInt + (1) := ia_n rfl (by omega) (by omega)
            generalize i14261 + Int32.ofInt (1) = v14312 at hv14312 ⊢
            refine WP_goto 22 dX9_passDay_75 rfl ?_
            exact WP_sub (fc rfl (fc rfl (fc rfl (fc rfl (fc rfl fn))))) (ihlp22_14264 v14312 I14308 J14263 RI14262 hrI14262 hTI14262 hSI14262 hPI14262 hI14308 fr14311 w14264 e14309 (by omega) (by omega) (by omega) (by omega))
          refine WQ_if_eq 69 dX9_passDay_55 rfl (fun c14312 => ?_) (fun c14312 => ?_)
          · refine WP_ldc (1000000) dX9_passDay_69 kX9_60 ?_
            obtain ⟨v14314, hv14314, ev14314⟩ : ∃ v : Int32, v.toInt = 1000000 ∧ ((1000000) : Int32) = v := ⟨(1000000), rfl, rfl⟩
            rw [ev14314]; clear ev14314
            exact WP_sub (fc rfl (fc rfl (fc rfl (fc rfl (fc rfl (fc rfl fn)))))) (jn71_14306 v14314 (by omega) (by omega))
          · refine WP_iload dX9_passDay_58 rfl ?_
            refine WQ_iconst (-1) (-1) dX9_passDay_60 rfl rfl (fun v14315 hv14315 => ?_)
            refine WQ_icmp_eq 69 dX9_passDay_61 rfl (fun c14315 => ?_) (fun c14315 => ?_)
            · refine WP_ldc (1000000) dX9_passDay_69 kX9_60 ?_
              obtain ⟨v14317, hv14317, ev14317⟩ : ∃ v : Int32, v.toInt = 1000000 ∧ ((1000000) : Int32) = v := ⟨(1000000), rfl, rfl⟩
              rw [ev14317]; clear ev14317
              exact WP_sub (fc rfl (fc rfl (fc rfl (fc rfl (fc rfl (fc rfl fn)))))) (jn71_14306 v14317 (by omega) (by omega))
            · refine WP_iload dX9_passDay_64 rfl ?_
              refine WP_goto 71 dX9_passDay_66 rfl ?_
              exact WP_sub (fc rfl (fc rfl (fc rfl (fc rfl (fc rfl (fc rfl fn)))))) (jn71_14306 v14301 (by omega) (by omega))
    exact WP_sub (fc rfl (fc rfl (fc rfl (fc rfl (fc rfl fn))))) (lp22_14264 _ v14260 I J R hr hT rfl hP hI fr0 w14255 ew14255 (by omega) (by omega) (by omega) (Nat.lt_succ_self _))
  · refine WP_aload_n dX9_passDay_14 rfl ?_
    refine WP_aload_n dX9_passDay_15 rfl ?_
    refine WP_callV1 (k := 9) dX9_passDay_16 ⟨⟨⟨by decide, by decide⟩, zX9_openChest⟩, lX9_45, by decide, rfl, vX9_openChest.1, vX9_openChest.2⟩ (lyx_is hy 49 9 rfl) (sx_openChestf_53_6 hy hr hT hI   (by omega)) (Nat.le_of_ble_eq_true rfl) ?_
    intro r I14318 J14319 Ra hq
    obtain ⟨⟨hI14318, ec, fiI14318, pI14318⟩, rfl⟩ := hq
    rw [ec]
    clear ec Ra
    have fr14320 : fz 74 g [43, 44, 47, 48, 50, 51, 52, 53, 55] I I14318 := fz_tr fr0 (fz_mono fiI14318 (by decide))
    have e14321 : I14318 (ad g 1) 1 = L := hI14318.2
    have b14322 := BT_get hI14318.1 1 1 2 (0) (0) (900) (by decide) 1 (by decide) (by decide)
    rw [e14321] at b14322
    obtain ⟨w14323, ew14323⟩ : ∃ w : Int32, I14318 (ad g 53) 1 = w := ⟨_, rfl⟩
    have bw14323 := BT_get hI14318.1 53 1 2 (0) (23760) (0) (by decide) 1 (by decide) (by decide)
    rw [ew14323] at bw14323
    rw [ew14323, ew14255] at pI14318
    refine WQ_iconst (0) (0) dX9_passDay_19 rfl rfl (fun v14324 hv14324 => ?_)
    refine WP_istore (ls' := [(0, _), (1, _), (2, _), (3, _), (4, _)]) dX9_passDay_20 (by decide) rfl ?_
    have lp22_14328 : ∀ (mz : Nat) (i14325 : Int32) (I14326 : pI) (J14327 : pJ) (RI14326 : pR), RfX g RI14326 → RI14326 (ad g 5) 0 = some (ad g 6) → RI14326 (ad g 0) 10 = R (ad g 0) 10 → NL g RI14326 → XI g n L I14326 → fz 74 g [43, 44, 47, 48, 50, 51, 52, 53, 55] I I14326 → ∀ (w14328 : Int32), I14326 (ad g 53) 1 = w14328 → 0 ≤ i14325.toInt → i14325.toInt ≤ 3 → w14328.toInt ≤ w14255.toInt → (4 - i14325.toInt).toNat < mz → WP g mX9_passDay 22 [(0, .ref (ad g 49)), (1, .ref (ad g 53)), (2, .int bo), (3, .int v14258), (4, .int i14325)] [] I14326 J14327 RI14326 (fun r I' J' R' => (XI g n L I' ∧ (RfX g R' ∧ (R' (ad g 5) 0 = R (ad g 5) 0 ∧ R' (ad g 0) 10 = R (ad g 0) 10) ∧ NL g R') ∧ fz 74 g [43, 44, 47, 48, 50, 51, 52, 53, 55] I I' ∧ (I' (ad g 53) 1).toInt ≤ (I (ad g 53) 1).toInt + 23760) ∧ r = none) := by
      intro mz
      induction mz with
      | zero =>
        intro i14325 I14326 J14327 RI14326 hrI14326 hTI14326 hSI14326 hPI14326 hI14326 fiI14326 w14328 ew14328 ai14325 bi14325 j0_I14326 hmlp22_14328
        exact absurd hmlp22_14328 (Nat.not_lt_zero _)
      | succ mz ihlp22_14328 =>
        intro i14325 I14326 J14327 RI14326 hrI14326 hTI14326 hSI14326 hPI14326 hI14326 fiI14326 w14328 ew14328 ai14325 bi14325 j0_I14326 hmlp22_14328
        have bw14328 := BT_get hI14326.1 53 1 2 (0) (23760) (0) (by decide) 1 (by decide) (by decide)
        rw [ew14328] at bw14328
        have e14330 : I14326 (ad g 1) 1 = L := hI14326.2
        have b14331 := BT_get hI14326.1 1 1 2 (0) (0) (900) (by decide) 1 (by decide) (by decide)
        rw [e14330] at b14331
        refine WP_iload dX9_passDay_22 rfl ?_
        refine WQ_iconst (3) (3) dX9_passDay_24 rfl rfl (fun v14332 hv14332 => ?_)
        refine WQ_icmp_ge 78 dX9_passDay_25 rfl (fun c14332 => ?_) (fun c14332 => ?_)
        · refine WQ_iconst (0) (0) dX9_passDay_78 rfl rfl (fun v14334 hv14334 => ?_)
          refine WP_istore (ls' := [(0, _), (1, _), (2, _), (3, _), (4, _)]) dX9_passDay_79 (by decide) rfl ?_
          have lp81_14338 : ∀ (mz : Nat) (i14335 : Int32) (I14336 : pI) (J14337 : pJ) (RI14336 : pR), RfX g RI14336 → RI14336 (ad g 5) 0 = some (ad g 6) → RI14336 (ad g 0) 10 = R (ad g 0) 10 → NL g RI14336 → XI g n L I14336 → fz 74 g [43, 44, 47, 48, 50, 51, 52, 53, 55] I I14336 → ∀ (w14338 : Int32), I14336 (ad g 53) 1 = w14338 → 0 ≤ i14335.toInt → i14335.toInt ≤ 4 → w14338.toInt ≤ w14255.toInt + 5940 * i14335.toInt → (5 - i14335.toInt).toNat < mz → WP g mX9_passDay 81 [(0, .ref (ad g 49)), (1, .ref (ad g 53)), (2, .int bo), (3, .int v14258), (4, .int i14335)] [] I14336 J14337 RI14336 (fun r I' J' R' => (XI g n L I' ∧ (RfX g R' ∧ (R' (ad g 5) 0 = R (ad g 5) 0 ∧ R' (ad g 0) 10 = R (ad g 0) 10) ∧ NL g R') ∧ fz 74 g [43, 44, 47, 48, 50, 51, 52, 53, 55] I I' ∧ (I' (ad g 53) 1).toInt ≤ (I (ad g 53) 1).toInt + 23760) ∧ r = none) := by
            intro mz
            induction mz with
            | zero =>
              intro i14335 I14336 J14337 RI14336 hrI14336 hTI14336 hSI14336 hPI14336 hI14336 fiI14336 w14338 ew14338 ai14335 bi14335 j0_I14336 hmlp81_14338
              exact absurd hmlp81_14338 (Nat.not_lt_zero _)
            | succ mz ihlp81_14338 =>
              intro i14335 I14336 J14337 RI14336 hrI14336 hTI14336 hSI14336 hPI14336 hI14336 fiI14336 w14338 ew14338 ai14335 bi14335 j0_I14336 hmlp81_14338
              have bw14338 := BT_get hI14336.1 53 1 2 (0) (23760) (0) (by decide) 1 (by decide) (by decide)
              rw [ew14338] at bw14338
              have e14340 : I14336 (ad g 1) 1 = L := hI14336.2
              have b14341 := BT_get hI14336.1 1 1 2 (0) (0) (900) (by decide) 1 (by decide) (by decide)
              rw [e14340] at b14341
              refine WP_iload dX9_passDay_81 rfl ?_
              refine WP_aload_n dX9_passDay_83 rfl ?_
              refine WP_getr dX9_passDay_84 fX9_25 rfl (lyx_is hy 49 9 rfl) (rfx hrI14336 49 2 5 (by decide)) ?_
              refine WP_getr dX9_passDay_87 fX9_49 rfl (lyx_is hy 5 0 rfl) hTI14336 ?_
              refine WQ_geti dX9_passDay_90 fX9_61 rfl (lyx_is hy 6 7 rfl) (BT_get hI14336.1 6 1 2 (0) (0) (4) (by decide) 1 (by decide) (by decide)) (fun v14342 ev14342 av14342 bv14342 => ?_)
              refine WQ_icmp_ge 110 dX9_passDay_93 rfl (fun c14342 => ?_) (fun c14342 => ?_)
              · refine WP_aload_n dX9_passDay_110 rfl ?_
                refine WP_dup dX9_passDay_111 rfl ?_
                refine WQ_getiu dX9_passDay_112 fX9_33 rfl (lyx_is hy 53 4 rfl) (fun v14344 ev14344 => ?_)
                refine WQ_iconst (1) (1) dX9_passDay_115 rfl rfl (fun v14345 hv14345 => ?_)
                refine WQ_iaddu dX9_passDay_116 (fun v14346 => ?_)
                refine WQ_puti dX9_passDay_117 fX9_33 rfl rfl (lyx_is hy 53 4 rfl) (fun I14347 eI14347 => ?_)
                have hI14347 : XI g n L I14347 := by rw [eI14347]; exact (xi_f0 hy hI14336 (c := 53) (by decide) (Or.inl (by decide)) (by decide))
                have e14348 : I14347 (ad g 53) 1 = w14338 := by rw [eI14347, pp_ne _ _ (Or.inr (by decide))]; exact ew14338
                have e14349 : I14347 (ad g 1) 1 = L := by rw [eI14347, pp_ne _ _ (Or.inl (lyx_ne hy (by decide) (by decide) (by decide)))]; exact e14340
                have e14350 : I14347 (ad g 6) 1 = v14342 := by rw [eI14347, pp_ne _ _ (Or.inl (lyx_ne hy (by decide) (by decide) (by decide)))]; exact ev14342
                have e14351 : I14347 (ad g 53) 0 = v14346 := by rw [eI14347, pp_self]
                have fr14352 : fz 74 g [43, 44, 47, 48, 50, 51, 52, 53, 55] I I14347 := by rw [eI14347]; exact fzx_pp hy fiI14336 (by decide) (by decide)
                clear eI14347
                exact WP_vret dX9_passDay_120 rfl ⟨⟨hI14347, ⟨hrI14336, ⟨hTI14336.trans hT.symm, hSI14336⟩, hPI14336⟩, fr14352, (by rw [e14348, ew14255]; omega)⟩, rfl⟩
              · refine WP_aload_n dX9_passDay_96 rfl ?_
                refine WP_aload_n dX9_passDay_97 rfl ?_
                refine WP_iload dX9_passDay_98 rfl ?_
                refine WP_iload_n dX9_passDay_100 rfl ?_
                refine WP_callV3 (k := 9) dX9_passDay_101 ⟨⟨⟨by decide, by decide⟩, zX9_serve⟩, lX9_64, by decide, rfl, vX9_serve.1, vX9_serve.2⟩ (lyx_is hy 49 9 rfl) (sx_serve_53_6 hy hrI14336 hPI14336 hTI14336 hI14336 i14335 v14258 (by omega) (by omega) (by omega) (by omega) (by omega) (by rw [ew14338]; omega)) (Nat.le_of_ble_eq_true rfl) ?_
                intro r I14353 J14354 R14355 hq
                obtain ⟨⟨hI14353, ⟨hrI14353, ⟨htI14353, hsI14353⟩, hpI14353⟩, fiI14353, pI14353⟩, rfl⟩ := hq
                have ht_I14353 := htI14353.trans hTI14336
                have hs_I14353 : R14355 (ad g 0) 10 = R (ad g 0) 10 := hsI14353.trans hSI14336
                have fr14356 : fz 74 g [43, 44, 47, 48, 50, 51, 52, 53, 55] I I14353 := fz_tr fiI14336 (fz_mono fiI14353 (by decide))
                have e14357 : I14353 (ad g 6) 1 = v14342 := by rw [fz_at fiI14353 6 (by decide) (by decide)]; exact ev14342
                have e14358 : I14353 (ad g 1) 1 = L := hI14353.2
                have b14359 := BT_get hI14353.1 1 1 2 (0) (0) (900) (by decide) 1 (by decide) (by decide)
                rw [e14358] at b14359
                obtain ⟨w14360, ew14360⟩ : ∃ w : Int32, I14353 (ad g 53) 1 = w := ⟨_, rfl⟩
                have bw14360 := BT_get hI14353.1 53 1 2 (0) (23760) (0) (by decide) 1 (by decide) (by decide)
                rw [ew14360] at bw14360
                rw [ew14360, ew14338] at pI14353
                refine WP_iinc (ls' := [(0, _), (1, _), (2, _), (3, _), (4, _)]) dX9_passDay_104 rfl (by decide) rfl ?_
                have hv14361 : (i14335 + Int32.ofInt (1)).toInt = i14335.toInt + (1) := ia_n rfl (by omega) (by omega)
                generalize i14335 + Int32.ofInt (1) = v14361 at hv14361 ⊢
                refine WP_goto 81 dX9_passDay_107 rfl ?_
                exact WP_sub (fc rfl (fc rfl (fc rfl (fc rfl (fc rfl fn))))) (ihlp81_14338 v14361 I14353 J14354 R14355 hrI14353 ht_I14353 hs_I14353 hpI14353 hI14353 fr14356 w14360 ew14360 (by omega) (by omega) (by omega) (by omega))
          exact WP_sub (fc rfl (fc rfl (fc rfl (fc rfl (fc rfl fn))))) (lp81_14338 _ v14334 I14326 J14327 RI14326 hrI14326 hTI14326 hSI14326 hPI14326 hI14326 fiI14326 w14328 ew14328 (by omega) (by omega) (by omega) (Nat.lt_succ_self _))
        · refine WP_aload_n dX9_passDay_28 rfl ?_
          refine WP_getr dX9_passDay_29 fX9_25 rfl (lyx_is hy 49 9 rfl) (rfx hrI14326 49 2 5 (by decide)) ?_
          refine WP_getr dX9_passDay_32 fX9_49 rfl (lyx_is hy 5 0 rfl) hTI14326 ?_
          refine WP_getr dX9_passDay_35 fX9_55 rfl (lyx_is hy 6 7 rfl) (rfx hrI14326 6 17 19 (by decide)) ?_
          refine WP_iload dX9_passDay_38 rfl ?_
          refine WQ_bipush (7) (7) dX9_passDay_40 rfl rfl (fun v14362 hv14362 => ?_)
          refine WQ_imulk (7) dX9_passDay_42 hv14362 (by omega) (by omega) (fun v14363 hv14363 => ?_)
          refine WP_iload_n dX9_passDay_43 rfl ?_
          refine WQ_iadd dX9_passDay_44 (by omega) (by omega) (fun v14364 hv14364 => ?_)
          refine WQ_iald dX9_passDay_45 (lyx_is hy 19 13 rfl) (lyx_n hy 19 21 rfl) (by omega) (by omega) (fun q hq => BT_get hI14326.1 19 0 21 (-1) (0) (999) (by decide) q (Nat.zero_le _) hq) (fun v14365 av14365 bv14365 ev14365 => ?_)
          clear ev14365
          refine WP_istore (ls' := [(0, _), (1, _), (2, _), (3, _), (4, _), (5, _)]) dX9_passDay_46 (by decide) rfl ?_
          refine WP_aload_n dX9_passDay_48 rfl ?_
          refine WP_getr dX9_passDay_49 fX9_22 rfl (lyx_is hy 49 9 rfl) (rfx hrI14326 49 4 52 (by decide)) ?_
          refine WP_iload dX9_passDay_52 rfl ?_
          refine WP_iload_n dX9_passDay_54 rfl ?_
          have jn71_14370 : ∀ (v14370 : Int32), 0 ≤ v14370.toInt → v14370.toInt ≤ 1000000 → WP g mX9_passDay 71 [(0, .ref (ad g 49)), (1, .ref (ad g 53)), (2, .int bo), (3, .int v14258), (4, .int i14325), (5, .int v14365)] [.int v14370, .int i14325, .ref (ad g 52)] I14326 J14327 RI14326 (fun r I' J' R' => (XI g n L I' ∧ (RfX g R' ∧ (R' (ad g 5) 0 = R (ad g 5) 0 ∧ R' (ad g 0) 10 = R (ad g 0) 10) ∧ NL g R') ∧ fz 74 g [43, 44, 47, 48, 50, 51, 52, 53, 55] I I' ∧ (I' (ad g 53) 1).toInt ≤ (I (ad g 53) 1).toInt + 23760) ∧ r = none) := by
            intro v14370 av14370 bv14370
            refine WQ_iast dX9_passDay_71 (lyx_is hy 52 13 rfl) (lyx_n hy 52 3 rfl) (by omega) (by omega) (fun I14372 eI14372 => ?_)
            have hI14372 : XI g n L I14372 := by rw [eI14372]; exact (xi_r hy hI14326 (c := 52) (0) (0) (1000000) (by decide) (Or.inl (by decide)) (by decide) (by omega) (by omega))
            have e14373 : I14372 (ad g 53) 1 = w14328 := by rw [eI14372, pp_ne _ _ (Or.inl (lyx_ne hy (by decide) (by decide) (by decide)))]; exact ew14328
            have e14374 : I14372 (ad g 1) 1 = L := by rw [eI14372, pp_ne _ _ (Or.inl (lyx_ne hy (by decide) (by decide) (by decide)))]; exact e14330
            have fr14375 : fz 74 g [43, 44, 47, 48, 50, 51, 52, 53, 55] I I14372 := by rw [eI14372]; exact fzx_pp hy fiI14326 (by decide) (by decide)
            clear eI14372
            refine WP_iinc (ls' := [(0, _), (1, _), (2, _), (3, _), (4, _), (5, _)]) dX9_passDay_72 rfl (by decide) rfl ?_
            have hv14376 : (i14325 + Int32.ofInt (1)).toInt = i14325.toInt + (1) := ia_n rfl (by omega) (by omega)
            generalize i14325 + Int32.ofInt (1) = v14376 at hv14376 ⊢
            refine WP_goto 22 dX9_passDay_75 rfl ?_
            exact WP_sub (fc rfl (fc rfl (fc rfl (fc rfl (fc rfl fn))))) (ihlp22_14328 v14376 I14372 J14327 RI14326 hrI14326 hTI14326 hSI14326 hPI14326 hI14372 fr14375 w14328 e14373 (by omega) (by omega) (by omega) (by omega))
          refine WQ_if_eq 69 dX9_passDay_55 rfl (fun c14376 => ?_) (fun c14376 => ?_)
          · refine WP_ldc (1000000) dX9_passDay_69 kX9_60 ?_
            obtain ⟨v14378, hv14378, ev14378⟩ : ∃ v : Int32, v.toInt = 1000000 ∧ ((1000000) : Int32) = v := ⟨(1000000), rfl, rfl⟩
            rw [ev14378]; clear ev14378
            exact WP_sub (fc rfl (fc rfl (fc rfl (fc rfl (fc rfl (fc rfl fn)))))) (jn71_14370 v14378 (by omega) (by omega))
          · refine WP_iload dX9_passDay_58 rfl ?_
            refine WQ_iconst (-1) (-1) dX9_passDay_60 rfl rfl (fun v14379 hv14379 => ?_)
            refine WQ_icmp_eq 69 dX9_passDay_61 rfl (fun c14379 => ?_) (fun c14379 => ?_)
            · refine WP_ldc (1000000) dX9_passDay_69 kX9_60 ?_
              obtain ⟨v14381, hv14381, ev14381⟩ : ∃ v : Int32, v.toInt = 1000000 ∧ ((1000000) : Int32) = v := ⟨(1000000), rfl, rfl⟩
              rw [ev14381]; clear ev14381
              exact WP_sub (fc rfl (fc rfl (fc rfl (fc rfl (fc rfl (fc rfl fn)))))) (jn71_14370 v14381 (by omega) (by omega))
            · refine WP_iload dX9_passDay_64 rfl ?_
              refine WP_goto 71 dX9_passDay_66 rfl ?_
              exact WP_sub (fc rfl (fc rfl (fc rfl (fc rfl (fc rfl (fc rfl fn)))))) (jn71_14370 v14365 (by omega) (by omega))
    exact WP_sub (fc rfl (fc rfl (fc rfl (fc rfl (fc rfl fn))))) (lp22_14328 _ v14324 I14318 J14319 R hr hT rfl hP hI14318 fr14320 w14323 ew14323 (by omega) (by omega) (by omega) (Nat.lt_succ_self _))
set_option maxHeartbeats 4000000 in
set_option maxRecDepth 100000 in
theorem sx_passDay_53_27 {g : GG} {n : Int} {L : Int32} (hy : LyX g)  {I : pI} {J : pJ} {R : pR} (hr : RfX g R) (hP : NL g R) (hT : R (ad g 5) 0 = some (ad g 27)) (hI : XI g n L I) (bo : Int32) (bo_lo : 0 ≤ bo.toInt) (bo_hi : bo.toInt ≤ 1) (hn : 0 ≤ n ∧ n ≤ 40000) (hb : (I (ad g 53) 1).toInt ≤ 23760 * n + 0 - 23760) : SP g mX9_passDay [.ref (ad g 49), .ref (ad g 53), .int bo] I J R (fun r I' J' R' => (XI g n L I' ∧ (RfX g R' ∧ (R' (ad g 5) 0 = R (ad g 5) 0 ∧ R' (ad g 0) 10 = R (ad g 0) 10) ∧ NL g R') ∧ fz 74 g [43, 44, 47, 48, 50, 51, 52, 53, 55] I I' ∧ (I' (ad g 53) 1).toInt ≤ (I (ad g 53) 1).toInt + 23760) ∧ r = none) := by
  refine SP_of ⟨by decide, rfl⟩ (Nat.le_of_ble_eq_true rfl) ?_
  have e14382 : I (ad g 1) 1 = L := hI.2
  have b14383 := BT_get hI.1 1 1 2 (0) (0) (900) (by decide) 1 (by decide) (by decide)
  rw [e14382] at b14383
  have fr0 : fz 74 g [43, 44, 47, 48, 50, 51, 52, 53, 55] I I := fz_rf
  obtain ⟨w14384, ew14384⟩ : ∃ w : Int32, I (ad g 53) 1 = w := ⟨_, rfl⟩
  have bw14384 := BT_get hI.1 53 1 2 (0) (23760) (0) (by decide) 1 (by decide) (by decide)
  rw [ew14384] at bw14384
  rw [ew14384] at hb
  refine WP_aload_n dX9_passDay_0 rfl ?_
  refine WQ_getiu dX9_passDay_1 fX9_33 rfl (lyx_is hy 53 4 rfl) (fun v14385 ev14385 => ?_)
  refine WQ_bipush (7) (7) dX9_passDay_4 rfl rfl (fun v14386 hv14386 => ?_)
  refine WQ_floorMod dX9_passDay_6 lX9_39 ⟨by decide, Nat.le_of_ble_eq_true rfl⟩ hv14386 (fun v14387 av14387 bv14387 => ?_)
  refine WP_istore_n (ls' := [(0, _), (1, _), (2, _), (3, _)]) dX9_passDay_9 (by decide) rfl ?_
  refine WP_iload_n dX9_passDay_10 rfl ?_
  refine WQ_if_ne 19 dX9_passDay_11 rfl (fun c14387 => ?_) (fun c14387 => ?_)
  · refine WQ_iconst (0) (0) dX9_passDay_19 rfl rfl (fun v14389 hv14389 => ?_)
    refine WP_istore (ls' := [(0, _), (1, _), (2, _), (3, _), (4, _)]) dX9_passDay_20 (by decide) rfl ?_
    have lp22_14393 : ∀ (mz : Nat) (i14390 : Int32) (I14391 : pI) (J14392 : pJ) (RI14391 : pR), RfX g RI14391 → RI14391 (ad g 5) 0 = some (ad g 27) → RI14391 (ad g 0) 10 = R (ad g 0) 10 → NL g RI14391 → XI g n L I14391 → fz 74 g [43, 44, 47, 48, 50, 51, 52, 53, 55] I I14391 → ∀ (w14393 : Int32), I14391 (ad g 53) 1 = w14393 → 0 ≤ i14390.toInt → i14390.toInt ≤ 3 → w14393.toInt ≤ w14384.toInt → (4 - i14390.toInt).toNat < mz → WP g mX9_passDay 22 [(0, .ref (ad g 49)), (1, .ref (ad g 53)), (2, .int bo), (3, .int v14387), (4, .int i14390)] [] I14391 J14392 RI14391 (fun r I' J' R' => (XI g n L I' ∧ (RfX g R' ∧ (R' (ad g 5) 0 = R (ad g 5) 0 ∧ R' (ad g 0) 10 = R (ad g 0) 10) ∧ NL g R') ∧ fz 74 g [43, 44, 47, 48, 50, 51, 52, 53, 55] I I' ∧ (I' (ad g 53) 1).toInt ≤ (I (ad g 53) 1).toInt + 23760) ∧ r = none) := by
      intro mz
      induction mz with
      | zero =>
        intro i14390 I14391 J14392 RI14391 hrI14391 hTI14391 hSI14391 hPI14391 hI14391 fiI14391 w14393 ew14393 ai14390 bi14390 j0_I14391 hmlp22_14393
        exact absurd hmlp22_14393 (Nat.not_lt_zero _)
      | succ mz ihlp22_14393 =>
        intro i14390 I14391 J14392 RI14391 hrI14391 hTI14391 hSI14391 hPI14391 hI14391 fiI14391 w14393 ew14393 ai14390 bi14390 j0_I14391 hmlp22_14393
        have bw14393 := BT_get hI14391.1 53 1 2 (0) (23760) (0) (by decide) 1 (by decide) (by decide)
        rw [ew14393] at bw14393
        have e14395 : I14391 (ad g 1) 1 = L := hI14391.2
        have b14396 := BT_get hI14391.1 1 1 2 (0) (0) (900) (by decide) 1 (by decide) (by decide)
        rw [e14395] at b14396
        refine WP_iload dX9_passDay_22 rfl ?_
        refine WQ_iconst (3) (3) dX9_passDay_24 rfl rfl (fun v14397 hv14397 => ?_)
        refine WQ_icmp_ge 78 dX9_passDay_25 rfl (fun c14397 => ?_) (fun c14397 => ?_)
        · refine WQ_iconst (0) (0) dX9_passDay_78 rfl rfl (fun v14399 hv14399 => ?_)
          refine WP_istore (ls' := [(0, _), (1, _), (2, _), (3, _), (4, _)]) dX9_passDay_79 (by decide) rfl ?_
          have lp81_14403 : ∀ (mz : Nat) (i14400 : Int32) (I14401 : pI) (J14402 : pJ) (RI14401 : pR), RfX g RI14401 → RI14401 (ad g 5) 0 = some (ad g 27) → RI14401 (ad g 0) 10 = R (ad g 0) 10 → NL g RI14401 → XI g n L I14401 → fz 74 g [43, 44, 47, 48, 50, 51, 52, 53, 55] I I14401 → ∀ (w14403 : Int32), I14401 (ad g 53) 1 = w14403 → 0 ≤ i14400.toInt → i14400.toInt ≤ 4 → w14403.toInt ≤ w14384.toInt + 5940 * i14400.toInt → (5 - i14400.toInt).toNat < mz → WP g mX9_passDay 81 [(0, .ref (ad g 49)), (1, .ref (ad g 53)), (2, .int bo), (3, .int v14387), (4, .int i14400)] [] I14401 J14402 RI14401 (fun r I' J' R' => (XI g n L I' ∧ (RfX g R' ∧ (R' (ad g 5) 0 = R (ad g 5) 0 ∧ R' (ad g 0) 10 = R (ad g 0) 10) ∧ NL g R') ∧ fz 74 g [43, 44, 47, 48, 50, 51, 52, 53, 55] I I' ∧ (I' (ad g 53) 1).toInt ≤ (I (ad g 53) 1).toInt + 23760) ∧ r = none) := by
            intro mz
            induction mz with
            | zero =>
              intro i14400 I14401 J14402 RI14401 hrI14401 hTI14401 hSI14401 hPI14401 hI14401 fiI14401 w14403 ew14403 ai14400 bi14400 j0_I14401 hmlp81_14403
              exact absurd hmlp81_14403 (Nat.not_lt_zero _)
            | succ mz ihlp81_14403 =>
              intro i14400 I14401 J14402 RI14401 hrI14401 hTI14401 hSI14401 hPI14401 hI14401 fiI14401 w14403 ew14403 ai14400 bi14400 j0_I14401 hmlp81_14403
              have bw14403 := BT_get hI14401.1 53 1 2 (0) (23760) (0) (by decide) 1 (by decide) (by decide)
              rw [ew14403] at bw14403
              have e14405 : I14401 (ad g 1) 1 = L := hI14401.2
              have b14406 := BT_get hI14401.1 1 1 2 (0) (0) (900) (by decide) 1 (by decide) (by decide)
              rw [e14405] at b14406
              refine WP_iload dX9_passDay_81 rfl ?_
              refine WP_aload_n dX9_passDay_83 rfl ?_
              refine WP_getr dX9_passDay_84 fX9_25 rfl (lyx_is hy 49 9 rfl) (rfx hrI14401 49 2 5 (by decide)) ?_
              refine WP_getr dX9_passDay_87 fX9_49 rfl (lyx_is hy 5 0 rfl) hTI14401 ?_
              refine WQ_geti dX9_passDay_90 fX9_61 rfl (lyx_is hy 27 7 rfl) (BT_get hI14401.1 27 1 2 (0) (0) (4) (by decide) 1 (by decide) (by decide)) (fun v14407 ev14407 av14407 bv14407 => ?_)
              refine WQ_icmp_ge 110 dX9_passDay_93 rfl (fun c14407 => ?_) (fun c14407 => ?_)
              · refine WP_aload_n dX9_passDay_110 rfl ?_
                refine WP_dup dX9_passDay_111 rfl ?_
                refine WQ_getiu dX9_passDay_112 fX9_33 rfl (lyx_is hy 53 4 rfl) (fun v14409 ev14409 => ?_)
                refine WQ_iconst (1) (1) dX9_passDay_115 rfl rfl (fun v14410 hv14410 => ?_)
                refine WQ_iaddu dX9_passDay_116 (fun v14411 => ?_)
                refine WQ_puti dX9_passDay_117 fX9_33 rfl rfl (lyx_is hy 53 4 rfl) (fun I14412 eI14412 => ?_)
                have hI14412 : XI g n L I14412 := by rw [eI14412]; exact (xi_f0 hy hI14401 (c := 53) (by decide) (Or.inl (by decide)) (by decide))
                have e14413 : I14412 (ad g 53) 1 = w14403 := by rw [eI14412, pp_ne _ _ (Or.inr (by decide))]; exact ew14403
                have e14414 : I14412 (ad g 1) 1 = L := by rw [eI14412, pp_ne _ _ (Or.inl (lyx_ne hy (by decide) (by decide) (by decide)))]; exact e14405
                have e14415 : I14412 (ad g 27) 1 = v14407 := by rw [eI14412, pp_ne _ _ (Or.inl (lyx_ne hy (by decide) (by decide) (by decide)))]; exact ev14407
                have e14416 : I14412 (ad g 53) 0 = v14411 := by rw [eI14412, pp_self]
                have fr14417 : fz 74 g [43, 44, 47, 48, 50, 51, 52, 53, 55] I I14412 := by rw [eI14412]; exact fzx_pp hy fiI14401 (by decide) (by decide)
                clear eI14412
                exact WP_vret dX9_passDay_120 rfl ⟨⟨hI14412, ⟨hrI14401, ⟨hTI14401.trans hT.symm, hSI14401⟩, hPI14401⟩, fr14417, (by rw [e14413, ew14384]; omega)⟩, rfl⟩
              · refine WP_aload_n dX9_passDay_96 rfl ?_
                refine WP_aload_n dX9_passDay_97 rfl ?_
                refine WP_iload dX9_passDay_98 rfl ?_
                refine WP_iload_n dX9_passDay_100 rfl ?_
                refine WP_callV3 (k := 9) dX9_passDay_101 ⟨⟨⟨by decide, by decide⟩, zX9_serve⟩, lX9_64, by decide, rfl, vX9_serve.1, vX9_serve.2⟩ (lyx_is hy 49 9 rfl) (sx_serve_53_27 hy hrI14401 hPI14401 hTI14401 hI14401 i14400 v14387 (by omega) (by omega) (by omega) (by omega) (by omega) (by rw [ew14403]; omega)) (Nat.le_of_ble_eq_true rfl) ?_
                intro r I14418 J14419 R14420 hq
                obtain ⟨⟨hI14418, ⟨hrI14418, ⟨htI14418, hsI14418⟩, hpI14418⟩, fiI14418, pI14418⟩, rfl⟩ := hq
                have ht_I14418 := htI14418.trans hTI14401
                have hs_I14418 : R14420 (ad g 0) 10 = R (ad g 0) 10 := hsI14418.trans hSI14401
                have fr14421 : fz 74 g [43, 44, 47, 48, 50, 51, 52, 53, 55] I I14418 := fz_tr fiI14401 (fz_mono fiI14418 (by decide))
                have e14422 : I14418 (ad g 27) 1 = v14407 := by rw [fz_at fiI14418 27 (by decide) (by decide)]; exact ev14407
                have e14423 : I14418 (ad g 1) 1 = L := hI14418.2
                have b14424 := BT_get hI14418.1 1 1 2 (0) (0) (900) (by decide) 1 (by decide) (by decide)
                rw [e14423] at b14424
                obtain ⟨w14425, ew14425⟩ : ∃ w : Int32, I14418 (ad g 53) 1 = w := ⟨_, rfl⟩
                have bw14425 := BT_get hI14418.1 53 1 2 (0) (23760) (0) (by decide) 1 (by decide) (by decide)
                rw [ew14425] at bw14425
                rw [ew14425, ew14403] at pI14418
                refine WP_iinc (ls' := [(0, _), (1, _), (2, _), (3, _), (4, _)]) dX9_passDay_104 rfl (by decide) rfl ?_
                have hv14426 : (i14400 + Int32.ofInt (1)).toInt = i14400.toInt + (1) := ia_n rfl (by omega) (by omega)
                generalize i14400 + Int32.ofInt (1) = v14426 at hv14426 ⊢
                refine WP_goto 81 dX9_passDay_107 rfl ?_
                exact WP_sub (fc rfl (fc rfl (fc rfl (fc rfl (fc rfl fn))))) (ihlp81_14403 v14426 I14418 J14419 R14420 hrI14418 ht_I14418 hs_I14418 hpI14418 hI14418 fr14421 w14425 ew14425 (by omega) (by omega) (by omega) (by omega))
          exact WP_sub (fc rfl (fc rfl (fc rfl (fc rfl (fc rfl fn))))) (lp81_14403 _ v14399 I14391 J14392 RI14391 hrI14391 hTI14391 hSI14391 hPI14391 hI14391 fiI14391 w14393 ew14393 (by omega) (by omega) (by omega) (Nat.lt_succ_self _))
        · refine WP_aload_n dX9_passDay_28 rfl ?_
          refine WP_getr dX9_passDay_29 fX9_25 rfl (lyx_is hy 49 9 rfl) (rfx hrI14391 49 2 5 (by decide)) ?_
          refine WP_getr dX9_passDay_32 fX9_49 rfl (lyx_is hy 5 0 rfl) hTI14391 ?_
          refine WP_getr dX9_passDay_35 fX9_55 rfl (lyx_is hy 27 7 rfl) (rfx hrI14391 27 17 40 (by decide)) ?_
          refine WP_iload dX9_passDay_38 rfl ?_
          refine WQ_bipush (7) (7) dX9_passDay_40 rfl rfl (fun v14427 hv14427 => ?_)
          refine WQ_imulk (7) dX9_passDay_42 hv14427 (by omega) (by omega) (fun v14428 hv14428 => ?_)
          refine WP_iload_n dX9_passDay_43 rfl ?_
          refine WQ_iadd dX9_passDay_44 (by omega) (by omega) (fun v14429 hv14429 => ?_)
          refine WQ_iald dX9_passDay_45 (lyx_is hy 40 13 rfl) (lyx_n hy 40 21 rfl) (by omega) (by omega) (fun q hq => BT_get hI14391.1 40 0 21 (-1) (0) (999) (by decide) q (Nat.zero_le _) hq) (fun v14430 av14430 bv14430 ev14430 => ?_)
          clear ev14430
          refine WP_istore (ls' := [(0, _), (1, _), (2, _), (3, _), (4, _), (5, _)]) dX9_passDay_46 (by decide) rfl ?_
          refine WP_aload_n dX9_passDay_48 rfl ?_
          refine WP_getr dX9_passDay_49 fX9_22 rfl (lyx_is hy 49 9 rfl) (rfx hrI14391 49 4 52 (by decide)) ?_
          refine WP_iload dX9_passDay_52 rfl ?_
          refine WP_iload_n dX9_passDay_54 rfl ?_
          have jn71_14435 : ∀ (v14435 : Int32), 0 ≤ v14435.toInt → v14435.toInt ≤ 1000000 → WP g mX9_passDay 71 [(0, .ref (ad g 49)), (1, .ref (ad g 53)), (2, .int bo), (3, .int v14387), (4, .int i14390), (5, .int v14430)] [.int v14435, .int i14390, .ref (ad g 52)] I14391 J14392 RI14391 (fun r I' J' R' => (XI g n L I' ∧ (RfX g R' ∧ (R' (ad g 5) 0 = R (ad g 5) 0 ∧ R' (ad g 0) 10 = R (ad g 0) 10) ∧ NL g R') ∧ fz 74 g [43, 44, 47, 48, 50, 51, 52, 53, 55] I I' ∧ (I' (ad g 53) 1).toInt ≤ (I (ad g 53) 1).toInt + 23760) ∧ r = none) := by
            intro v14435 av14435 bv14435
            refine WQ_iast dX9_passDay_71 (lyx_is hy 52 13 rfl) (lyx_n hy 52 3 rfl) (by omega) (by omega) (fun I14437 eI14437 => ?_)
            have hI14437 : XI g n L I14437 := by rw [eI14437]; exact (xi_r hy hI14391 (c := 52) (0) (0) (1000000) (by decide) (Or.inl (by decide)) (by decide) (by omega) (by omega))
            have e14438 : I14437 (ad g 53) 1 = w14393 := by rw [eI14437, pp_ne _ _ (Or.inl (lyx_ne hy (by decide) (by decide) (by decide)))]; exact ew14393
            have e14439 : I14437 (ad g 1) 1 = L := by rw [eI14437, pp_ne _ _ (Or.inl (lyx_ne hy (by decide) (by decide) (by decide)))]; exact e14395
            have fr14440 : fz 74 g [43, 44, 47, 48, 50, 51, 52, 53, 55] I I14437 := by rw [eI14437]; exact fzx_pp hy fiI14391 (by decide) (by decide)
            clear eI14437
            refine WP_iinc (ls' := [(0, _), (1, _), (2, _), (3, _), (4, _), (5, _)]) dX9_passDay_72 rfl (by decide) rfl ?_
            have hv14441 : (i14390 + Int32.ofInt (1)).toInt = i14390.toInt + (1) := ia_n rfl (by omega) (by omega)
            generalize i14390 + Int32.ofInt (1) = v14441 at hv14441 ⊢
            refine WP_goto 22 dX9_passDay_75 rfl ?_
            exact WP_sub (fc rfl (fc rfl (fc rfl (fc rfl (fc rfl fn))))) (ihlp22_14393 v14441 I14437 J14392 RI14391 hrI14391 hTI14391 hSI14391 hPI14391 hI14437 fr14440 w14393 e14438 (by omega) (by omega) (by omega) (by omega))
          refine WQ_if_eq 69 dX9_passDay_55 rfl (fun c14441 => ?_) (fun c14441 => ?_)
          · refine WP_ldc (1000000) dX9_passDay_69 kX9_60 ?_
            obtain ⟨v14443, hv14443, ev14443⟩ : ∃ v : Int32, v.toInt = 1000000 ∧ ((1000000) : Int32) = v := ⟨(1000000), rfl, rfl⟩
            rw [ev14443]; clear ev14443
            exact WP_sub (fc rfl (fc rfl (fc rfl (fc rfl (fc rfl (fc rfl fn)))))) (jn71_14435 v14443 (by omega) (by omega))
          · refine WP_iload dX9_passDay_58 rfl ?_
            refine WQ_iconst (-1) (-1) dX9_passDay_60 rfl rfl (fun v14444 hv14444 => ?_)
            refine WQ_icmp_eq 69 dX9_passDay_61 rfl (fun c14444 => ?_) (fun c14444 => ?_)
            · refine WP_ldc (1000000) dX9_passDay_69 kX9_60 ?_
              obtain ⟨v14446, hv14446, ev14446⟩ : ∃ v : Int32, v.toInt = 1000000 ∧ ((1000000) : Int32) = v := ⟨(1000000), rfl, rfl⟩
              rw [ev14446]; clear ev14446
              exact WP_sub (fc rfl (fc rfl (fc rfl (fc rfl (fc rfl (fc rfl fn)))))) (jn71_14435 v14446 (by omega) (by omega))
            · refine WP_iload dX9_passDay_64 rfl ?_
              refine WP_goto 71 dX9_passDay_66 rfl ?_
              exact WP_sub (fc rfl (fc rfl (fc rfl (fc rfl (fc rfl (fc rfl fn)))))) (jn71_14435 v14430 (by omega) (by omega))
    exact WP_sub (fc rfl (fc rfl (fc rfl (fc rfl (fc rfl fn))))) (lp22_14393 _ v14389 I J R hr hT rfl hP hI fr0 w14384 ew14384 (by omega) (by omega) (by omega) (Nat.lt_succ_self _))
  · refine WP_aload_n dX9_passDay_14 rfl ?_
    refine WP_aload_n dX9_passDay_15 rfl ?_
    refine WP_callV1 (k := 9) dX9_passDay_16 ⟨⟨⟨by decide, by decide⟩, zX9_openChest⟩, lX9_45, by decide, rfl, vX9_openChest.1, vX9_openChest.2⟩ (lyx_is hy 49 9 rfl) (sx_openChestf_53_27 hy hr hT hI   (by omega)) (Nat.le_of_ble_eq_true rfl) ?_
    intro r I14447 J14448 Ra hq
    obtain ⟨⟨hI14447, ec, fiI14447, pI14447⟩, rfl⟩ := hq
    rw [ec]
    clear ec Ra
    have fr14449 : fz 74 g [43, 44, 47, 48, 50, 51, 52, 53, 55] I I14447 := fz_tr fr0 (fz_mono fiI14447 (by decide))
    have e14450 : I14447 (ad g 1) 1 = L := hI14447.2
    have b14451 := BT_get hI14447.1 1 1 2 (0) (0) (900) (by decide) 1 (by decide) (by decide)
    rw [e14450] at b14451
    obtain ⟨w14452, ew14452⟩ : ∃ w : Int32, I14447 (ad g 53) 1 = w := ⟨_, rfl⟩
    have bw14452 := BT_get hI14447.1 53 1 2 (0) (23760) (0) (by decide) 1 (by decide) (by decide)
    rw [ew14452] at bw14452
    rw [ew14452, ew14384] at pI14447
    refine WQ_iconst (0) (0) dX9_passDay_19 rfl rfl (fun v14453 hv14453 => ?_)
    refine WP_istore (ls' := [(0, _), (1, _), (2, _), (3, _), (4, _)]) dX9_passDay_20 (by decide) rfl ?_
    have lp22_14457 : ∀ (mz : Nat) (i14454 : Int32) (I14455 : pI) (J14456 : pJ) (RI14455 : pR), RfX g RI14455 → RI14455 (ad g 5) 0 = some (ad g 27) → RI14455 (ad g 0) 10 = R (ad g 0) 10 → NL g RI14455 → XI g n L I14455 → fz 74 g [43, 44, 47, 48, 50, 51, 52, 53, 55] I I14455 → ∀ (w14457 : Int32), I14455 (ad g 53) 1 = w14457 → 0 ≤ i14454.toInt → i14454.toInt ≤ 3 → w14457.toInt ≤ w14384.toInt → (4 - i14454.toInt).toNat < mz → WP g mX9_passDay 22 [(0, .ref (ad g 49)), (1, .ref (ad g 53)), (2, .int bo), (3, .int v14387), (4, .int i14454)] [] I14455 J14456 RI14455 (fun r I' J' R' => (XI g n L I' ∧ (RfX g R' ∧ (R' (ad g 5) 0 = R (ad g 5) 0 ∧ R' (ad g 0) 10 = R (ad g 0) 10) ∧ NL g R') ∧ fz 74 g [43, 44, 47, 48, 50, 51, 52, 53, 55] I I' ∧ (I' (ad g 53) 1).toInt ≤ (I (ad g 53) 1).toInt + 23760) ∧ r = none) := by
      intro mz
      induction mz with
      | zero =>
        intro i14454 I14455 J14456 RI14455 hrI14455 hTI14455 hSI14455 hPI14455 hI14455 fiI14455 w14457 ew14457 ai14454 bi14454 j0_I14455 hmlp22_14457
        exact absurd hmlp22_14457 (Nat.not_lt_zero _)
      | succ mz ihlp22_14457 =>
        intro i14454 I14455 J14456 RI14455 hrI14455 hTI14455 hSI14455 hPI14455 hI14455 fiI14455 w14457 ew14457 ai14454 bi14454 j0_I14455 hmlp22_14457
        have bw14457 := BT_get hI14455.1 53 1 2 (0) (23760) (0) (by decide) 1 (by decide) (by decide)
        rw [ew14457] at bw14457
        have e14459 : I14455 (ad g 1) 1 = L := hI14455.2
        have b14460 := BT_get hI14455.1 1 1 2 (0) (0) (900) (by decide) 1 (by decide) (by decide)
        rw [e14459] at b14460
        refine WP_iload dX9_passDay_22 rfl ?_
        refine WQ_iconst (3) (3) dX9_passDay_24 rfl rfl (fun v14461 hv14461 => ?_)
        refine WQ_icmp_ge 78 dX9_passDay_25 rfl (fun c14461 => ?_) (fun c14461 => ?_)
        · refine WQ_iconst (0) (0) dX9_passDay_78 rfl rfl (fun v14463 hv14463 => ?_)
          refine WP_istore (ls' := [(0, _), (1, _), (2, _), (3, _), (4, _)]) dX9_passDay_79 (by decide) rfl ?_
          have lp81_14467 : ∀ (mz : Nat) (i14464 : Int32) (I14465 : pI) (J14466 : pJ) (RI14465 : pR), RfX g RI14465 → RI14465 (ad g 5) 0 = some (ad g 27) → RI14465 (ad g 0) 10 = R (ad g 0) 10 → NL g RI14465 → XI g n L I14465 → fz 74 g [43, 44, 47, 48, 50, 51, 52, 53, 55] I I14465 → ∀ (w14467 : Int32), I14465 (ad g 53) 1 = w14467 → 0 ≤ i14464.toInt → i14464.toInt ≤ 4 → w14467.toInt ≤ w14384.toInt + 5940 * i14464.toInt → (5 - i14464.toInt).toNat < mz → WP g mX9_passDay 81 [(0, .ref (ad g 49)), (1, .ref (ad g 53)), (2, .int bo), (3, .int v14387), (4, .int i14464)] [] I14465 J14466 RI14465 (fun r I' J' R' => (XI g n L I' ∧ (RfX g R' ∧ (R' (ad g 5) 0 = R (ad g 5) 0 ∧ R' (ad g 0) 10 = R (ad g 0) 10) ∧ NL g R') ∧ fz 74 g [43, 44, 47, 48, 50, 51, 52, 53, 55] I I' ∧ (I' (ad g 53) 1).toInt ≤ (I (ad g 53) 1).toInt + 23760) ∧ r = none) := by
            intro mz
            induction mz with
            | zero =>
              intro i14464 I14465 J14466 RI14465 hrI14465 hTI14465 hSI14465 hPI14465 hI14465 fiI14465 w14467 ew14467 ai14464 bi14464 j0_I14465 hmlp81_14467
              exact absurd hmlp81_14467 (Nat.not_lt_zero _)
            | succ mz ihlp81_14467 =>
              intro i14464 I14465 J14466 RI14465 hrI14465 hTI14465 hSI14465 hPI14465 hI14465 fiI14465 w14467 ew14467 ai14464 bi14464 j0_I14465 hmlp81_14467
              have bw14467 := BT_get hI14465.1 53 1 2 (0) (23760) (0) (by decide) 1 (by decide) (by decide)
              rw [ew14467] at bw14467
              have e14469 : I14465 (ad g 1) 1 = L := hI14465.2
              have b14470 := BT_get hI14465.1 1 1 2 (0) (0) (900) (by decide) 1 (by decide) (by decide)
              rw [e14469] at b14470
              refine WP_iload dX9_passDay_81 rfl ?_
              refine WP_aload_n dX9_passDay_83 rfl ?_
              refine WP_getr dX9_passDay_84 fX9_25 rfl (lyx_is hy 49 9 rfl) (rfx hrI14465 49 2 5 (by decide)) ?_
              refine WP_getr dX9_passDay_87 fX9_49 rfl (lyx_is hy 5 0 rfl) hTI14465 ?_
              refine WQ_geti dX9_passDay_90 fX9_61 rfl (lyx_is hy 27 7 rfl) (BT_get hI14465.1 27 1 2 (0) (0) (4) (by decide) 1 (by decide) (by decide)) (fun v14471 ev14471 av14471 bv14471 => ?_)
              refine WQ_icmp_ge 110 dX9_passDay_93 rfl (fun c14471 => ?_) (fun c14471 => ?_)
              · refine WP_aload_n dX9_passDay_110 rfl ?_
                refine WP_dup dX9_passDay_111 rfl ?_
                refine WQ_getiu dX9_passDay_112 fX9_33 rfl (lyx_is hy 53 4 rfl) (fun v14473 ev14473 => ?_)
                refine WQ_iconst (1) (1) dX9_passDay_115 rfl rfl (fun v14474 hv14474 => ?_)
                refine WQ_iaddu dX9_passDay_116 (fun v14475 => ?_)
                refine WQ_puti dX9_passDay_117 fX9_33 rfl rfl (lyx_is hy 53 4 rfl) (fun I14476 eI14476 => ?_)
                have hI14476 : XI g n L I14476 := by rw [eI14476]; exact (xi_f0 hy hI14465 (c := 53) (by decide) (Or.inl (by decide)) (by decide))
                have e14477 : I14476 (ad g 53) 1 = w14467 := by rw [eI14476, pp_ne _ _ (Or.inr (by decide))]; exact ew14467
                have e14478 : I14476 (ad g 1) 1 = L := by rw [eI14476, pp_ne _ _ (Or.inl (lyx_ne hy (by decide) (by decide) (by decide)))]; exact e14469
                have e14479 : I14476 (ad g 27) 1 = v14471 := by rw [eI14476, pp_ne _ _ (Or.inl (lyx_ne hy (by decide) (by decide) (by decide)))]; exact ev14471
                have e14480 : I14476 (ad g 53) 0 = v14475 := by rw [eI14476, pp_self]
                have fr14481 : fz 74 g [43, 44, 47, 48, 50, 51, 52, 53, 55] I I14476 := by rw [eI14476]; exact fzx_pp hy fiI14465 (by decide) (by decide)
                clear eI14476
                exact WP_vret dX9_passDay_120 rfl ⟨⟨hI14476, ⟨hrI14465, ⟨hTI14465.trans hT.symm, hSI14465⟩, hPI14465⟩, fr14481, (by rw [e14477, ew14384]; omega)⟩, rfl⟩
              · refine WP_aload_n dX9_passDay_96 rfl ?_
                refine WP_aload_n dX9_passDay_97 rfl ?_
                refine WP_iload dX9_passDay_98 rfl ?_
                refine WP_iload_n dX9_passDay_100 rfl ?_
                refine WP_callV3 (k := 9) dX9_passDay_101 ⟨⟨⟨by decide, by decide⟩, zX9_serve⟩, lX9_64, by decide, rfl, vX9_serve.1, vX9_serve.2⟩ (lyx_is hy 49 9 rfl) (sx_serve_53_27 hy hrI14465 hPI14465 hTI14465 hI14465 i14464 v14387 (by omega) (by omega) (by omega) (by omega) (by omega) (by rw [ew14467]; omega)) (Nat.le_of_ble_eq_true rfl) ?_
                intro r I14482 J14483 R14484 hq
                obtain ⟨⟨hI14482, ⟨hrI14482, ⟨htI14482, hsI14482⟩, hpI14482⟩, fiI14482, pI14482⟩, rfl⟩ := hq
                have ht_I14482 := htI14482.trans hTI14465
                have hs_I14482 : R14484 (ad g 0) 10 = R (ad g 0) 10 := hsI14482.trans hSI14465
                have fr14485 : fz 74 g [43, 44, 47, 48, 50, 51, 52, 53, 55] I I14482 := fz_tr fiI14465 (fz_mono fiI14482 (by decide))
                have e14486 : I14482 (ad g 27) 1 = v14471 := by rw [fz_at fiI14482 27 (by decide) (by decide)]; exact ev14471
                have e14487 : I14482 (ad g 1) 1 = L := hI14482.2
                have b14488 := BT_get hI14482.1 1 1 2 (0) (0) (900) (by decide) 1 (by decide) (by decide)
                rw [e14487] at b14488
                obtain ⟨w14489, ew14489⟩ : ∃ w : Int32, I14482 (ad g 53) 1 = w := ⟨_, rfl⟩
                have bw14489 := BT_get hI14482.1 53 1 2 (0) (23760) (0) (by decide) 1 (by decide) (by decide)
                rw [ew14489] at bw14489
                rw [ew14489, ew14467] at pI14482
                refine WP_iinc (ls' := [(0, _), (1, _), (2, _), (3, _), (4, _)]) dX9_passDay_104 rfl (by decide) rfl ?_
                have hv14490 : (i14464 + Int32.ofInt (1)).toInt = i14464.toInt + (1) := ia_n rfl (by omega) (by omega)
                generalize i14464 + Int32.ofInt (1) = v14490 at hv14490 ⊢
                refine WP_goto 81 dX9_passDay_107 rfl ?_
                exact WP_sub (fc rfl (fc rfl (fc rfl (fc rfl (fc rfl fn))))) (ihlp81_14467 v14490 I14482 J14483 R14484 hrI14482 ht_I14482 hs_I14482 hpI14482 hI14482 fr14485 w14489 ew14489 (by omega) (by omega) (by omega) (by omega))
          exact WP_sub (fc rfl (fc rfl (fc rfl (fc rfl (fc rfl fn))))) (lp81_14467 _ v14463 I14455 J14456 RI14455 hrI14455 hTI14455 hSI14455 hPI14455 hI14455 fiI14455 w14457 ew14457 (by omega) (by omega) (by omega) (Nat.lt_succ_self _))
        · refine WP_aload_n dX9_passDay_28 rfl ?_
          refine WP_getr dX9_passDay_29 fX9_25 rfl (lyx_is hy 49 9 rfl) (rfx hrI14455 49 2 5 (by decide)) ?_
          refine WP_getr dX9_passDay_32 fX9_49 rfl (lyx_is hy 5 0 rfl) hTI14455 ?_
          refine WP_getr dX9_passDay_35 fX9_55 rfl (lyx_is hy 27 7 rfl) (rfx hrI14455 27 17 40 (by decide)) ?_
          refine WP_iload dX9_passDay_38 rfl ?_
          refine WQ_bipush (7) (7) dX9_passDay_40 rfl rfl (fun v14491 hv14491 => ?_)
          refine WQ_imulk (7) dX9_passDay_42 hv14491 (by omega) (by omega) (fun v14492 hv14492 => ?_)
          refine WP_iload_n dX9_passDay_43 rfl ?_
          refine WQ_iadd dX9_passDay_44 (by omega) (by omega) (fun v14493 hv14493 => ?_)
          refine WQ_iald dX9_passDay_45 (lyx_is hy 40 13 rfl) (lyx_n hy 40 21 rfl) (by omega) (by omega) (fun q hq => BT_get hI14455.1 40 0 21 (-1) (0) (999) (by decide) q (Nat.zero_le _) hq) (fun v14494 av14494 bv14494 ev14494 => ?_)
          clear ev14494
          refine WP_istore (ls' := [(0, _), (1, _), (2, _), (3, _), (4, _), (5, _)]) dX9_passDay_46 (by decide) rfl ?_
          refine WP_aload_n dX9_passDay_48 rfl ?_
          refine WP_getr dX9_passDay_49 fX9_22 rfl (lyx_is hy 49 9 rfl) (rfx hrI14455 49 4 52 (by decide)) ?_
          refine WP_iload dX9_passDay_52 rfl ?_
          refine WP_iload_n dX9_passDay_54 rfl ?_
          have jn71_14499 : ∀ (v14499 : Int32), 0 ≤ v14499.toInt → v14499.toInt ≤ 1000000 → WP g mX9_passDay 71 [(0, .ref (ad g 49)), (1, .ref (ad g 53)), (2, .int bo), (3, .int v14387), (4, .int i14454), (5, .int v14494)] [.int v14499, .int i14454, .ref (ad g 52)] I14455 J14456 RI14455 (fun r I' J' R' => (XI g n L I' ∧ (RfX g R' ∧ (R' (ad g 5) 0 = R (ad g 5) 0 ∧ R' (ad g 0) 10 = R (ad g 0) 10) ∧ NL g R') ∧ fz 74 g [43, 44, 47, 48, 50, 51, 52, 53, 55] I I' ∧ (I' (ad g 53) 1).toInt ≤ (I (ad g 53) 1).toInt + 23760) ∧ r = none) := by
            intro v14499 av14499 bv14499
            refine WQ_iast dX9_passDay_71 (lyx_is hy 52 13 rfl) (lyx_n hy 52 3 rfl) (by omega) (by omega) (fun I14501 eI14501 => ?_)
            have hI14501 : XI g n L I14501 := by rw [eI14501]; exact (xi_r hy hI14455 (c := 52) (0) (0) (1000000) (by decide) (Or.inl (by decide)) (by decide) (by omega) (by omega))
            have e14502 : I14501 (ad g 53) 1 = w14457 := by rw [eI14501, pp_ne _ _ (Or.inl (lyx_ne hy (by decide) (by decide) (by decide)))]; exact ew14457
            have e14503 : I14501 (ad g 1) 1 = L := by rw [eI14501, pp_ne _ _ (Or.inl (lyx_ne hy (by decide) (by decide) (by decide)))]; exact e14459
            have fr14504 : fz 74 g [43, 44, 47, 48, 50, 51, 52, 53, 55] I I14501 := by rw [eI14501]; exact fzx_pp hy fiI14455 (by decide) (by decide)
            clear eI14501
            refine WP_iinc (ls' := [(0, _), (1, _), (2, _), (3, _), (4, _), (5, _)]) dX9_passDay_72 rfl (by decide) rfl ?_
            have hv14505 : (i14454 + Int32.ofInt (1)).toInt = i14454.toInt + (1) := ia_n rfl (by omega) (by omega)
            generalize i14454 + Int32.ofInt (1) = v14505 at hv14505 ⊢
            refine WP_goto 22 dX9_passDay_75 rfl ?_
            exact WP_sub (fc rfl (fc rfl (fc rfl (fc rfl (fc rfl fn))))) (ihlp22_14457 v14505 I14501 J14456 RI14455 hrI14455 hTI14455 hSI14455 hPI14455 hI14501 fr14504 w14457 e14502 (by omega) (by omega) (by omega) (by omega))
          refine WQ_if_eq 69 dX9_passDay_55 rfl (fun c14505 => ?_) (fun c14505 => ?_)
          · refine WP_ldc (1000000) dX9_passDay_69 kX9_60 ?_
            obtain ⟨v14507, hv14507, ev14507⟩ : ∃ v : Int32, v.toInt = 1000000 ∧ ((1000000) : Int32) = v := ⟨(1000000), rfl, rfl⟩
            rw [ev14507]; clear ev14507
            exact WP_sub (fc rfl (fc rfl (fc rfl (fc rfl (fc rfl (fc rfl fn)))))) (jn71_14499 v14507 (by omega) (by omega))
          · refine WP_iload dX9_passDay_58 rfl ?_
            refine WQ_iconst (-1) (-1) dX9_passDay_60 rfl rfl (fun v14508 hv14508 => ?_)
            refine WQ_icmp_eq 69 dX9_passDay_61 rfl (fun c14508 => ?_) (fun c14508 => ?_)
            · refine WP_ldc (1000000) dX9_passDay_69 kX9_60 ?_
              obtain ⟨v14510, hv14510, ev14510⟩ : ∃ v : Int32, v.toInt = 1000000 ∧ ((1000000) : Int32) = v := ⟨(1000000), rfl, rfl⟩
              rw [ev14510]; clear ev14510
              exact WP_sub (fc rfl (fc rfl (fc rfl (fc rfl (fc rfl (fc rfl fn)))))) (jn71_14499 v14510 (by omega) (by omega))
            · refine WP_iload dX9_passDay_64 rfl ?_
              refine WP_goto 71 dX9_passDay_66 rfl ?_
              exact WP_sub (fc rfl (fc rfl (fc rfl (fc rfl (fc rfl (fc rfl fn)))))) (jn71_14499 v14494 (by omega) (by omega))
    exact WP_sub (fc rfl (fc rfl (fc rfl (fc rfl (fc rfl fn))))) (lp22_14457 _ v14453 I14447 J14448 R hr hT rfl hP hI14447 fr14449 w14452 ew14452 (by omega) (by omega) (by omega) (Nat.lt_succ_self _))
set_option maxHeartbeats 4000000 in
set_option maxRecDepth 100000 in
theorem sx_passDay_56_6 {g : GG} {n : Int} {L : Int32} (hy : LyX g)  {I : pI} {J : pJ} {R : pR} (hr : RfX g R) (hP : NL g R) (hT : R (ad g 5) 0 = some (ad g 6)) (hI : XI g n L I) (bo : Int32) (bo_lo : 0 ≤ bo.toInt) (bo_hi : bo.toInt ≤ 1) (hn : 0 ≤ n ∧ n ≤ 40000) (hb : (I (ad g 56) 1).toInt ≤ 23760 * n + 700000 - 23760) : SP g mX9_passDay [.ref (ad g 49), .ref (ad g 56), .int bo] I J R (fun r I' J' R' => (XI g n L I' ∧ (RfX g R' ∧ (R' (ad g 5) 0 = R (ad g 5) 0 ∧ R' (ad g 0) 10 = R (ad g 0) 10) ∧ NL g R') ∧ fz 74 g [43, 44, 47, 48, 50, 51, 52, 56, 58] I I' ∧ (I' (ad g 56) 1).toInt ≤ (I (ad g 56) 1).toInt + 23760) ∧ r = none) := by
  refine SP_of ⟨by decide, rfl⟩ (Nat.le_of_ble_eq_true rfl) ?_
  have e14511 : I (ad g 1) 1 = L := hI.2
  have b14512 := BT_get hI.1 1 1 2 (0) (0) (900) (by decide) 1 (by decide) (by decide)
  rw [e14511] at b14512
  have fr0 : fz 74 g [43, 44, 47, 48, 50, 51, 52, 56, 58] I I := fz_rf
  obtain ⟨w14513, ew14513⟩ : ∃ w : Int32, I (ad g 56) 1 = w := ⟨_, rfl⟩
  have bw14513 := BT_get hI.1 56 1 2 (0) (23760) (700000) (by decide) 1 (by decide) (by decide)
  rw [ew14513] at bw14513
  rw [ew14513] at hb
  refine WP_aload_n dX9_passDay_0 rfl ?_
  refine WQ_getiu dX9_passDay_1 fX9_33 rfl (lyx_is hy 56 4 rfl) (fun v14514 ev14514 => ?_)
  refine WQ_bipush (7) (7) dX9_passDay_4 rfl rfl (fun v14515 hv14515 => ?_)
  refine WQ_floorMod dX9_passDay_6 lX9_39 ⟨by decide, Nat.le_of_ble_eq_true rfl⟩ hv14515 (fun v14516 av14516 bv14516 => ?_)
  refine WP_istore_n (ls' := [(0, _), (1, _), (2, _), (3, _)]) dX9_passDay_9 (by decide) rfl ?_
  refine WP_iload_n dX9_passDay_10 rfl ?_
  refine WQ_if_ne 19 dX9_passDay_11 rfl (fun c14516 => ?_) (fun c14516 => ?_)
  · refine WQ_iconst (0) (0) dX9_passDay_19 rfl rfl (fun v14518 hv14518 => ?_)
    refine WP_istore (ls' := [(0, _), (1, _), (2, _), (3, _), (4, _)]) dX9_passDay_20 (by decide) rfl ?_
    have lp22_14522 : ∀ (mz : Nat) (i14519 : Int32) (I14520 : pI) (J14521 : pJ) (RI14520 : pR), RfX g RI14520 → RI14520 (ad g 5) 0 = some (ad g 6) → RI14520 (ad g 0) 10 = R (ad g 0) 10 → NL g RI14520 → XI g n L I14520 → fz 74 g [43, 44, 47, 48, 50, 51, 52, 56, 58] I I14520 → ∀ (w14522 : Int32), I14520 (ad g 56) 1 = w14522 → 0 ≤ i14519.toInt → i14519.toInt ≤ 3 → w14522.toInt ≤ w14513.toInt → (4 - i14519.toInt).toNat < mz → WP g mX9_passDay 22 [(0, .ref (ad g 49)), (1, .ref (ad g 56)), (2, .int bo), (3, .int v14516), (4, .int i14519)] [] I14520 J14521 RI14520 (fun r I' J' R' => (XI g n L I' ∧ (RfX g R' ∧ (R' (ad g 5) 0 = R (ad g 5) 0 ∧ R' (ad g 0) 10 = R (ad g 0) 10) ∧ NL g R') ∧ fz 74 g [43, 44, 47, 48, 50, 51, 52, 56, 58] I I' ∧ (I' (ad g 56) 1).toInt ≤ (I (ad g 56) 1).toInt + 23760) ∧ r = none) := by
      intro mz
      induction mz with
      | zero =>
        intro i14519 I14520 J14521 RI14520 hrI14520 hTI14520 hSI14520 hPI14520 hI14520 fiI14520 w14522 ew14522 ai14519 bi14519 j0_I14520 hmlp22_14522
        exact absurd hmlp22_14522 (Nat.not_lt_zero _)
      | succ mz ihlp22_14522 =>
        intro i14519 I14520 J14521 RI14520 hrI14520 hTI14520 hSI14520 hPI14520 hI14520 fiI14520 w14522 ew14522 ai14519 bi14519 j0_I14520 hmlp22_14522
        have bw14522 := BT_get hI14520.1 56 1 2 (0) (23760) (700000) (by decide) 1 (by decide) (by decide)
        rw [ew14522] at bw14522
        have e14524 : I14520 (ad g 1) 1 = L := hI14520.2
        have b14525 := BT_get hI14520.1 1 1 2 (0) (0) (900) (by decide) 1 (by decide) (by decide)
        rw [e14524] at b14525
        refine WP_iload dX9_passDay_22 rfl ?_
        refine WQ_iconst (3) (3) dX9_passDay_24 rfl rfl (fun v14526 hv14526 => ?_)
        refine WQ_icmp_ge 78 dX9_passDay_25 rfl (fun c14526 => ?_) (fun c14526 => ?_)
        · refine WQ_iconst (0) (0) dX9_passDay_78 rfl rfl (fun v14528 hv14528 => ?_)
          refine WP_istore (ls' := [(0, _), (1, _), (2, _), (3, _), (4, _)]) dX9_passDay_79 (by decide) rfl ?_
          have lp81_14532 : ∀ (mz : Nat) (i14529 : Int32) (I14530 : pI) (J14531 : pJ) (RI14530 : pR), RfX g RI14530 → RI14530 (ad g 5) 0 = some (ad g 6) → RI14530 (ad g 0) 10 = R (ad g 0) 10 → NL g RI14530 → XI g n L I14530 → fz 74 g [43, 44, 47, 48, 50, 51, 52, 56, 58] I I14530 → ∀ (w14532 : Int32), I14530 (ad g 56) 1 = w14532 → 0 ≤ i14529.toInt → i14529.toInt ≤ 4 → w14532.toInt ≤ w14513.toInt + 5940 * i14529.toInt → (5 - i14529.toInt).toNat < mz → WP g mX9_passDay 81 [(0, .ref (ad g 49)), (1, .ref (ad g 56)), (2, .int bo), (3, .int v14516), (4, .int i14529)] [] I14530 J14531 RI14530 (fun r I' J' R' => (XI g n L I' ∧ (RfX g R' ∧ (R' (ad g 5) 0 = R (ad g 5) 0 ∧ R' (ad g 0) 10 = R (ad g 0) 10) ∧ NL g R') ∧ fz 74 g [43, 44, 47, 48, 50, 51, 52, 56, 58] I I' ∧ (I' (ad g 56) 1).toInt ≤ (I (ad g 56) 1).toInt + 23760) ∧ r = none) := by
            intro mz
            induction mz with
            | zero =>
              intro i14529 I14530 J14531 RI14530 hrI14530 hTI14530 hSI14530 hPI14530 hI14530 fiI14530 w14532 ew14532 ai14529 bi14529 j0_I14530 hmlp81_14532
              exact absurd hmlp81_14532 (Nat.not_lt_zero _)
            | succ mz ihlp81_14532 =>
              intro i14529 I14530 J14531 RI14530 hrI14530 hTI14530 hSI14530 hPI14530 hI14530 fiI14530 w14532 ew14532 ai14529 bi14529 j0_I14530 hmlp81_14532
              have bw14532 := BT_get hI14530.1 56 1 2 (0) (23760) (700000) (by decide) 1 (by decide) (by decide)
              rw [ew14532] at bw14532
              have e14534 : I14530 (ad g 1) 1 = L := hI14530.2
              have b14535 := BT_get hI14530.1 1 1 2 (0) (0) (900) (by decide) 1 (by decide) (by decide)
              rw [e14534] at b14535
              refine WP_iload dX9_passDay_81 rfl ?_
              refine WP_aload_n dX9_passDay_83 rfl ?_
              refine WP_getr dX9_passDay_84 fX9_25 rfl (lyx_is hy 49 9 rfl) (rfx hrI14530 49 2 5 (by decide)) ?_
              refine WP_getr dX9_passDay_87 fX9_49 rfl (lyx_is hy 5 0 rfl) hTI14530 ?_
              refine WQ_geti dX9_passDay_90 fX9_61 rfl (lyx_is hy 6 7 rfl) (BT_get hI14530.1 6 1 2 (0) (0) (4) (by decide) 1 (by decide) (by decide)) (fun v14536 ev14536 av14536 bv14536 => ?_)
              refine WQ_icmp_ge 110 dX9_passDay_93 rfl (fun c14536 => ?_) (fun c14536 => ?_)
              · refine WP_aload_n dX9_passDay_110 rfl ?_
                refine WP_dup dX9_passDay_111 rfl ?_
                refine WQ_getiu dX9_passDay_112 fX9_33 rfl (lyx_is hy 56 4 rfl) (fun v14538 ev14538 => ?_)
                refine WQ_iconst (1) (1) dX9_passDay_115 rfl rfl (fun v14539 hv14539 => ?_)
                refine WQ_iaddu dX9_passDay_116 (fun v14540 => ?_)
                refine WQ_puti dX9_passDay_117 fX9_33 rfl rfl (lyx_is hy 56 4 rfl) (fun I14541 eI14541 => ?_)
                have hI14541 : XI g n L I14541 := by rw [eI14541]; exact (xi_f0 hy hI14530 (c := 56) (by decide) (Or.inl (by decide)) (by decide))
                have e14542 : I14541 (ad g 56) 1 = w14532 := by rw [eI14541, pp_ne _ _ (Or.inr (by decide))]; exact ew14532
                have e14543 : I14541 (ad g 1) 1 = L := by rw [eI14541, pp_ne _ _ (Or.inl (lyx_ne hy (by decide) (by decide) (by decide)))]; exact e14534
                have e14544 : I14541 (ad g 6) 1 = v14536 := by rw [eI14541, pp_ne _ _ (Or.inl (lyx_ne hy (by decide) (by decide) (by decide)))]; exact ev14536
                have e14545 : I14541 (ad g 56) 0 = v14540 := by rw [eI14541, pp_self]
                have fr14546 : fz 74 g [43, 44, 47, 48, 50, 51, 52, 56, 58] I I14541 := by rw [eI14541]; exact fzx_pp hy fiI14530 (by decide) (by decide)
                clear eI14541
                exact WP_vret dX9_passDay_120 rfl ⟨⟨hI14541, ⟨hrI14530, ⟨hTI14530.trans hT.symm, hSI14530⟩, hPI14530⟩, fr14546, (by rw [e14542, ew14513]; omega)⟩, rfl⟩
              · refine WP_aload_n dX9_passDay_96 rfl ?_
                refine WP_aload_n dX9_passDay_97 rfl ?_
                refine WP_iload dX9_passDay_98 rfl ?_
                refine WP_iload_n dX9_passDay_100 rfl ?_
                refine WP_callV3 (k := 9) dX9_passDay_101 ⟨⟨⟨by decide, by decide⟩, zX9_serve⟩, lX9_64, by decide, rfl, vX9_serve.1, vX9_serve.2⟩ (lyx_is hy 49 9 rfl) (sx_serve_56_6 hy hrI14530 hPI14530 hTI14530 hI14530 i14529 v14516 (by omega) (by omega) (by omega) (by omega) (by omega) (by rw [ew14532]; omega)) (Nat.le_of_ble_eq_true rfl) ?_
                intro r I14547 J14548 R14549 hq
                obtain ⟨⟨hI14547, ⟨hrI14547, ⟨htI14547, hsI14547⟩, hpI14547⟩, fiI14547, pI14547⟩, rfl⟩ := hq
                have ht_I14547 := htI14547.trans hTI14530
                have hs_I14547 : R14549 (ad g 0) 10 = R (ad g 0) 10 := hsI14547.trans hSI14530
                have fr14550 : fz 74 g [43, 44, 47, 48, 50, 51, 52, 56, 58] I I14547 := fz_tr fiI14530 (fz_mono fiI14547 (by decide))
                have e14551 : I14547 (ad g 6) 1 = v14536 := by rw [fz_at fiI14547 6 (by decide) (by decide)]; exact ev14536
                have e14552 : I14547 (ad g 1) 1 = L := hI14547.2
                have b14553 := BT_get hI14547.1 1 1 2 (0) (0) (900) (by decide) 1 (by decide) (by decide)
                rw [e14552] at b14553
                obtain ⟨w14554, ew14554⟩ : ∃ w : Int32, I14547 (ad g 56) 1 = w := ⟨_, rfl⟩
                have bw14554 := BT_get hI14547.1 56 1 2 (0) (23760) (700000) (by decide) 1 (by decide) (by decide)
                rw [ew14554] at bw14554
                rw [ew14554, ew14532] at pI14547
                refine WP_iinc (ls' := [(0, _), (1, _), (2, _), (3, _), (4, _)]) dX9_passDay_104 rfl (by decide) rfl ?_
                have hv14555 : (i14529 + Int32.ofInt (1)).toInt = i14529.toInt + (1) := ia_n rfl (by omega) (by omega)
                generalize i14529 + Int32.ofInt (1) = v14555 at hv14555 ⊢
                refine WP_goto 81 dX9_passDay_107 rfl ?_
                exact WP_sub (fc rfl (fc rfl (fc rfl (fc rfl (fc rfl fn))))) (ihlp81_14532 v14555 I14547 J14548 R14549 hrI14547 ht_I14547 hs_I14547 hpI14547 hI14547 fr14550 w14554 ew14554 (by omega) (by omega) (by omega) (by omega))
          exact WP_sub (fc rfl (fc rfl (fc rfl (fc rfl (fc rfl fn))))) (lp81_14532 _ v14528 I14520 J14521 RI14520 hrI14520 hTI14520 hSI14520 hPI14520 hI14520 fiI14520 w14522 ew14522 (by omega) (by omega) (by omega) (Nat.lt_succ_self _))
        · refine WP_aload_n dX9_passDay_28 rfl ?_
          refine WP_getr dX9_passDay_29 fX9_25 rfl (lyx_is hy 49 9 rfl) (rfx hrI14520 49 2 5 (by decide)) ?_
          refine WP_getr dX9_passDay_32 fX9_49 rfl (lyx_is hy 5 0 rfl) hTI14520 ?_
          refine WP_getr dX9_passDay_35 fX9_55 rfl (lyx_is hy 6 7 rfl) (rfx hrI14520 6 17 19 (by decide)) ?_
          refine WP_iload dX9_passDay_38 rfl ?_
          refine WQ_bipush (7) (7) dX9_passDay_40 rfl rfl (fun v14556 hv14556 => ?_)
          refine WQ_imulk (7) dX9_passDay_42 hv14556 (by omega) (by omega) (fun v14557 hv14557 => ?_)
          refine WP_iload_n dX9_passDay_43 rfl ?_
          refine WQ_iadd dX9_passDay_44 (by omega) (by omega) (fun v14558 hv14558 => ?_)
          refine WQ_iald dX9_passDay_45 (lyx_is hy 19 13 rfl) (lyx_n hy 19 21 rfl) (by omega) (by omega) (fun q hq => BT_get hI14520.1 19 0 21 (-1) (0) (999) (by decide) q (Nat.zero_le _) hq) (fun v14559 av14559 bv14559 ev14559 => ?_)
          clear ev14559
          refine WP_istore (ls' := [(0, _), (1, _), (2, _), (3, _), (4, _), (5, _)]) dX9_passDay_46 (by decide) rfl ?_
          refine WP_aload_n dX9_passDay_48 rfl ?_
          refine WP_getr dX9_passDay_49 fX9_22 rfl (lyx_is hy 49 9 rfl) (rfx hrI14520 49 4 52 (by decide)) ?_
          refine WP_iload dX9_passDay_52 rfl ?_
          refine WP_iload_n dX9_passDay_54 rfl ?_
          have jn71_14564 : ∀ (v14564 : Int32), 0 ≤ v14564.toInt → v14564.toInt ≤ 1000000 → WP g mX9_passDay 71 [(0, .ref (ad g 49)), (1, .ref (ad g 56)), (2, .int bo), (3, .int v14516), (4, .int i14519), (5, .int v14559)] [.int v14564, .int i14519, .ref (ad g 52)] I14520 J14521 RI14520 (fun r I' J' R' => (XI g n L I' ∧ (RfX g R' ∧ (R' (ad g 5) 0 = R (ad g 5) 0 ∧ R' (ad g 0) 10 = R (ad g 0) 10) ∧ NL g R') ∧ fz 74 g [43, 44, 47, 48, 50, 51, 52, 56, 58] I I' ∧ (I' (ad g 56) 1).toInt ≤ (I (ad g 56) 1).toInt + 23760) ∧ r = none) := by
            intro v14564 av14564 bv14564
            refine WQ_iast dX9_passDay_71 (lyx_is hy 52 13 rfl) (lyx_n hy 52 3 rfl) (by omega) (by omega) (fun I14566 eI14566 => ?_)
            have hI14566 : XI g n L I14566 := by rw [eI14566]; exact (xi_r hy hI14520 (c := 52) (0) (0) (1000000) (by decide) (Or.inl (by decide)) (by decide) (by omega) (by omega))
            have e14567 : I14566 (ad g 56) 1 = w14522 := by rw [eI14566, pp_ne _ _ (Or.inl (lyx_ne hy (by decide) (by decide) (by decide)))]; exact ew14522
            have e14568 : I14566 (ad g 1) 1 = L := by rw [eI14566, pp_ne _ _ (Or.inl (lyx_ne hy (by decide) (by decide) (by decide)))]; exact e14524
            have fr14569 : fz 74 g [43, 44, 47, 48, 50, 51, 52, 56, 58] I I14566 := by rw [eI14566]; exact fzx_pp hy fiI14520 (by decide) (by decide)
            clear eI14566
            refine WP_iinc (ls' := [(0, _), (1, _), (2, _), (3, _), (4, _), (5, _)]) dX9_passDay_72 rfl (by decide) rfl ?_
            have hv14570 : (i14519 + Int32.ofInt (1)).toInt = i14519.toInt + (1) := ia_n rfl (by omega) (by omega)
            generalize i14519 + Int32.ofInt (1) = v14570 at hv14570 ⊢
            refine WP_goto 22 dX9_passDay_75 rfl ?_
            exact WP_sub (fc rfl (fc rfl (fc rfl (fc rfl (fc rfl fn))))) (ihlp22_14522 v14570 I14566 J14521 RI14520 hrI14520 hTI14520 hSI14520 hPI14520 hI14566 fr14569 w14522 e14567 (by omega) (by omega) (by omega) (by omega))
          refine WQ_if_eq 69 dX9_passDay_55 rfl (fun c14570 => ?_) (fun c14570 => ?_)
          · refine WP_ldc (1000000) dX9_passDay_69 kX9_60 ?_
            obtain ⟨v14572, hv14572, ev14572⟩ : ∃ v : Int32, v.toInt = 1000000 ∧ ((1000000) : Int32) = v := ⟨(1000000), rfl, rfl⟩
            rw [ev14572]; clear ev14572
            exact WP_sub (fc rfl (fc rfl (fc rfl (fc rfl (fc rfl (fc rfl fn)))))) (jn71_14564 v14572 (by omega) (by omega))
          · refine WP_iload dX9_passDay_58 rfl ?_
            refine WQ_iconst (-1) (-1) dX9_passDay_60 rfl rfl (fun v14573 hv14573 => ?_)
            refine WQ_icmp_eq 69 dX9_passDay_61 rfl (fun c14573 => ?_) (fun c14573 => ?_)
            · refine WP_ldc (1000000) dX9_passDay_69 kX9_60 ?_
              obtain ⟨v14575, hv14575, ev14575⟩ : ∃ v : Int32, v.toInt = 1000000 ∧ ((1000000) : Int32) = v := ⟨(1000000), rfl, rfl⟩
              rw [ev14575]; clear ev14575
              exact WP_sub (fc rfl (fc rfl (fc rfl (fc rfl (fc rfl (fc rfl fn)))))) (jn71_14564 v14575 (by omega) (by omega))
            · refine WP_iload dX9_passDay_64 rfl ?_
              refine WP_goto 71 dX9_passDay_66 rfl ?_
              exact WP_sub (fc rfl (fc rfl (fc rfl (fc rfl (fc rfl (fc rfl fn)))))) (jn71_14564 v14559 (by omega) (by omega))
    exact WP_sub (fc rfl (fc rfl (fc rfl (fc rfl (fc rfl fn))))) (lp22_14522 _ v14518 I J R hr hT rfl hP hI fr0 w14513 ew14513 (by omega) (by omega) (by omega) (Nat.lt_succ_self _))
  · refine WP_aload_n dX9_passDay_14 rfl ?_
    refine WP_aload_n dX9_passDay_15 rfl ?_
    refine WP_callV1 (k := 9) dX9_passDay_16 ⟨⟨⟨by decide, by decide⟩, zX9_openChest⟩, lX9_45, by decide, rfl, vX9_openChest.1, vX9_openChest.2⟩ (lyx_is hy 49 9 rfl) (sx_openChestf_56_6 hy hr hT hI   (by omega)) (Nat.le_of_ble_eq_true rfl) ?_
    intro r I14576 J14577 Ra hq
    obtain ⟨⟨hI14576, ec, fiI14576, pI14576⟩, rfl⟩ := hq
    rw [ec]
    clear ec Ra
    have fr14578 : fz 74 g [43, 44, 47, 48, 50, 51, 52, 56, 58] I I14576 := fz_tr fr0 (fz_mono fiI14576 (by decide))
    have e14579 : I14576 (ad g 1) 1 = L := hI14576.2
    have b14580 := BT_get hI14576.1 1 1 2 (0) (0) (900) (by decide) 1 (by decide) (by decide)
    rw [e14579] at b14580
    obtain ⟨w14581, ew14581⟩ : ∃ w : Int32, I14576 (ad g 56) 1 = w := ⟨_, rfl⟩
    have bw14581 := BT_get hI14576.1 56 1 2 (0) (23760) (700000) (by decide) 1 (by decide) (by decide)
    rw [ew14581] at bw14581
    rw [ew14581, ew14513] at pI14576
    refine WQ_iconst (0) (0) dX9_passDay_19 rfl rfl (fun v14582 hv14582 => ?_)
    refine WP_istore (ls' := [(0, _), (1, _), (2, _), (3, _), (4, _)]) dX9_passDay_20 (by decide) rfl ?_
    have lp22_14586 : ∀ (mz : Nat) (i14583 : Int32) (I14584 : pI) (J14585 : pJ) (RI14584 : pR), RfX g RI14584 → RI14584 (ad g 5) 0 = some (ad g 6) → RI14584 (ad g 0) 10 = R (ad g 0) 10 → NL g RI14584 → XI g n L I14584 → fz 74 g [43, 44, 47, 48, 50, 51, 52, 56, 58] I I14584 → ∀ (w14586 : Int32), I14584 (ad g 56) 1 = w14586 → 0 ≤ i14583.toInt → i14583.toInt ≤ 3 → w14586.toInt ≤ w14513.toInt → (4 - i14583.toInt).toNat < mz → WP g mX9_passDay 22 [(0, .ref (ad g 49)), (1, .ref (ad g 56)), (2, .int bo), (3, .int v14516), (4, .int i14583)] [] I14584 J14585 RI14584 (fun r I' J' R' => (XI g n L I' ∧ (RfX g R' ∧ (R' (ad g 5) 0 = R (ad g 5) 0 ∧ R' (ad g 0) 10 = R (ad g 0) 10) ∧ NL g R') ∧ fz 74 g [43, 44, 47, 48, 50, 51, 52, 56, 58] I I' ∧ (I' (ad g 56) 1).toInt ≤ (I (ad g 56) 1).toInt + 23760) ∧ r = none) := by
      intro mz
      induction mz with
      | zero =>
        intro i14583 I14584 J14585 RI14584 hrI14584 hTI14584 hSI14584 hPI14584 hI14584 fiI14584 w14586 ew14586 ai14583 bi14583 j0_I14584 hmlp22_14586
        exact absurd hmlp22_14586 (Nat.not_lt_zero _)
      | succ mz ihlp22_14586 =>
        intro i14583 I14584 J14585 RI14584 hrI14584 hTI14584 hSI14584 hPI14584 hI14584 fiI14584 w14586 ew14586 ai14583 bi14583 j0_I14584 hmlp22_14586
        have bw14586 := BT_get hI14584.1 56 1 2 (0) (23760) (700000) (by decide) 1 (by decide) (by decide)
        rw [ew14586] at bw14586
        have e14588 : I14584 (ad g 1) 1 = L := hI14584.2
        have b14589 := BT_get hI14584.1 1 1 2 (0) (0) (900) (by decide) 1 (by decide) (by decide)
        rw [e14588] at b14589
        refine WP_iload dX9_passDay_22 rfl ?_
        refine WQ_iconst (3) (3) dX9_passDay_24 rfl rfl (fun v14590 hv14590 => ?_)
        refine WQ_icmp_ge 78 dX9_passDay_25 rfl (fun c14590 => ?_) (fun c14590 => ?_)
        · refine WQ_iconst (0) (0) dX9_passDay_78 rfl rfl (fun v14592 hv14592 => ?_)
          refine WP_istore (ls' := [(0, _), (1, _), (2, _), (3, _), (4, _)]) dX9_passDay_79 (by decide) rfl ?_
          have lp81_14596 : ∀ (mz : Nat) (i14593 : Int32) (I14594 : pI) (J14595 : pJ) (RI14594 : pR), RfX g RI14594 → RI14594 (ad g 5) 0 = some (ad g 6) → RI14594 (ad g 0) 10 = R (ad g 0) 10 → NL g RI14594 → XI g n L I14594 → fz 74 g [43, 44, 47, 48, 50, 51, 52, 56, 58] I I14594 → ∀ (w14596 : Int32), I14594 (ad g 56) 1 = w14596 → 0 ≤ i14593.toInt → i14593.toInt ≤ 4 → w14596.toInt ≤ w14513.toInt + 5940 * i14593.toInt → (5 - i14593.toInt).toNat < mz → WP g mX9_passDay 81 [(0, .ref (ad g 49)), (1, .ref (ad g 56)), (2, .int bo), (3, .int v14516), (4, .int i14593)] [] I14594 J14595 RI14594 (fun r I' J' R' => (XI g n L I' ∧ (RfX g R' ∧ (R' (ad g 5) 0 = R (ad g 5) 0 ∧ R' (ad g 0) 10 = R (ad g 0) 10) ∧ NL g R') ∧ fz 74 g [43, 44, 47, 48, 50, 51, 52, 56, 58] I I' ∧ (I' (ad g 56) 1).toInt ≤ (I (ad g 56) 1).toInt + 23760) ∧ r = none) := by
            intro mz
            induction mz with
            | zero =>
              intro i14593 I14594 J14595 RI14594 hrI14594 hTI14594 hSI14594 hPI14594 hI14594 fiI14594 w14596 ew14596 ai14593 bi14593 j0_I14594 hmlp81_14596
              exact absurd hmlp81_14596 (Nat.not_lt_zero _)
            | succ mz ihlp81_14596 =>
              intro i14593 I14594 J14595 RI14594 hrI14594 hTI14594 hSI14594 hPI14594 hI14594 fiI14594 w14596 ew14596 ai14593 bi14593 j0_I14594 hmlp81_14596
              have bw14596 := BT_get hI14594.1 56 1 2 (0) (23760) (700000) (by decide) 1 (by decide) (by decide)
              rw [ew14596] at bw14596
              have e14598 : I14594 (ad g 1) 1 = L := hI14594.2
              have b14599 := BT_get hI14594.1 1 1 2 (0) (0) (900) (by decide) 1 (by decide) (by decide)
              rw [e14598] at b14599
              refine WP_iload dX9_passDay_81 rfl ?_
              refine WP_aload_n dX9_passDay_83 rfl ?_
              refine WP_getr dX9_passDay_84 fX9_25 rfl (lyx_is hy 49 9 rfl) (rfx hrI14594 49 2 5 (by decide)) ?_
              refine WP_getr dX9_passDay_87 fX9_49 rfl (lyx_is hy 5 0 rfl) hTI14594 ?_
              refine WQ_geti dX9_passDay_90 fX9_61 rfl (lyx_is hy 6 7 rfl) (BT_get hI14594.1 6 1 2 (0) (0) (4) (by decide) 1 (by decide) (by decide)) (fun v14600 ev14600 av14600 bv14600 => ?_)
              refine WQ_icmp_ge 110 dX9_passDay_93 rfl (fun c14600 => ?_) (fun c14600 => ?_)
              · refine WP_aload_n dX9_passDay_110 rfl ?_
                refine WP_dup dX9_passDay_111 rfl ?_
                refine WQ_getiu dX9_passDay_112 fX9_33 rfl (lyx_is hy 56 4 rfl) (fun v14602 ev14602 => ?_)
                refine WQ_iconst (1) (1) dX9_passDay_115 rfl rfl (fun v14603 hv14603 => ?_)
                refine WQ_iaddu dX9_passDay_116 (fun v14604 => ?_)
                refine WQ_puti dX9_passDay_117 fX9_33 rfl rfl (lyx_is hy 56 4 rfl) (fun I14605 eI14605 => ?_)
                have hI14605 : XI g n L I14605 := by rw [eI14605]; exact (xi_f0 hy hI14594 (c := 56) (by decide) (Or.inl (by decide)) (by decide))
                have e14606 : I14605 (ad g 56) 1 = w14596 := by rw [eI14605, pp_ne _ _ (Or.inr (by decide))]; exact ew14596
                have e14607 : I14605 (ad g 1) 1 = L := by rw [eI14605, pp_ne _ _ (Or.inl (lyx_ne hy (by decide) (by decide) (by decide)))]; exact e14598
                have e14608 : I14605 (ad g 6) 1 = v14600 := by rw [eI14605, pp_ne _ _ (Or.inl (lyx_ne hy (by decide) (by decide) (by decide)))]; exact ev14600
                have e14609 : I14605 (ad g 56) 0 = v14604 := by rw [eI14605, pp_self]
                have fr14610 : fz 74 g [43, 44, 47, 48, 50, 51, 52, 56, 58] I I14605 := by rw [eI14605]; exact fzx_pp hy fiI14594 (by decide) (by decide)
                clear eI14605
                exact WP_vret dX9_passDay_120 rfl ⟨⟨hI14605, ⟨hrI14594, ⟨hTI14594.trans hT.symm, hSI14594⟩, hPI14594⟩, fr14610, (by rw [e14606, ew14513]; omega)⟩, rfl⟩
              · refine WP_aload_n dX9_passDay_96 rfl ?_
                refine WP_aload_n dX9_passDay_97 rfl ?_
                refine WP_iload dX9_passDay_98 rfl ?_
                refine WP_iload_n dX9_passDay_100 rfl ?_
                refine WP_callV3 (k := 9) dX9_passDay_101 ⟨⟨⟨by decide, by decide⟩, zX9_serve⟩, lX9_64, by decide, rfl, vX9_serve.1, vX9_serve.2⟩ (lyx_is hy 49 9 rfl) (sx_serve_56_6 hy hrI14594 hPI14594 hTI14594 hI14594 i14593 v14516 (by omega) (by omega) (by omega) (by omega) (by omega) (by rw [ew14596]; omega)) (Nat.le_of_ble_eq_true rfl) ?_
                intro r I14611 J14612 R14613 hq
                obtain ⟨⟨hI14611, ⟨hrI14611, ⟨htI14611, hsI14611⟩, hpI14611⟩, fiI14611, pI14611⟩, rfl⟩ := hq
                have ht_I14611 := htI14611.trans hTI14594
                have hs_I14611 : R14613 (ad g 0) 10 = R (ad g 0) 10 := hsI14611.trans hSI14594
                have fr14614 : fz 74 g [43, 44, 47, 48, 50, 51, 52, 56, 58] I I14611 := fz_tr fiI14594 (fz_mono fiI14611 (by decide))
                have e14615 : I14611 (ad g 6) 1 = v14600 := by rw [fz_at fiI14611 6 (by decide) (by decide)]; exact ev14600
                have e14616 : I14611 (ad g 1) 1 = L := hI14611.2
                have b14617 := BT_get hI14611.1 1 1 2 (0) (0) (900) (by decide) 1 (by decide) (by decide)
                rw [e14616] at b14617
                obtain ⟨w14618, ew14618⟩ : ∃ w : Int32, I14611 (ad g 56) 1 = w := ⟨_, rfl⟩
                have bw14618 := BT_get hI14611.1 56 1 2 (0) (23760) (700000) (by decide) 1 (by decide) (by decide)
                rw [ew14618] at bw14618
                rw [ew14618, ew14596] at pI14611
                refine WP_iinc (ls' := [(0, _), (1, _), (2, _), (3, _), (4, _)]) dX9_passDay_104 rfl (by decide) rfl ?_
                have hv14619 : (i14593 + Int32.ofInt (1)).toInt = i14593.toInt + (1) := ia_n rfl (by omega) (by omega)
                generalize i14593 + Int32.ofInt (1) = v14619 at hv14619 ⊢
                refine WP_goto 81 dX9_passDay_107 rfl ?_
                exact WP_sub (fc rfl (fc rfl (fc rfl (fc rfl (fc rfl fn))))) (ihlp81_14596 v14619 I14611 J14612 R14613 hrI14611 ht_I14611 hs_I14611 hpI14611 hI14611 fr14614 w14618 ew14618 (by omega) (by omega) (by omega) (by omega))
          exact WP_sub (fc rfl (fc rfl (fc rfl (fc rfl (fc rfl fn))))) (lp81_14596 _ v14592 I14584 J14585 RI14584 hrI14584 hTI14584 hSI14584 hPI14584 hI14584 fiI14584 w14586 ew14586 (by omega) (by omega) (by omega) (Nat.lt_succ_self _))
        · refine WP_aload_n dX9_passDay_28 rfl ?_
          refine WP_getr dX9_passDay_29 fX9_25 rfl (lyx_is hy 49 9 rfl) (rfx hrI14584 49 2 5 (by decide)) ?_
          refine WP_getr dX9_passDay_32 fX9_49 rfl (lyx_is hy 5 0 rfl) hTI14584 ?_
          refine WP_getr dX9_passDay_35 fX9_55 rfl (lyx_is hy 6 7 rfl) (rfx hrI14584 6 17 19 (by decide)) ?_
          refine WP_iload dX9_passDay_38 rfl ?_
          refine WQ_bipush (7) (7) dX9_passDay_40 rfl rfl (fun v14620 hv14620 => ?_)
          refine WQ_imulk (7) dX9_passDay_42 hv14620 (by omega) (by omega) (fun v14621 hv14621 => ?_)
          refine WP_iload_n dX9_passDay_43 rfl ?_
          refine WQ_iadd dX9_passDay_44 (by omega) (by omega) (fun v14622 hv14622 => ?_)
          refine WQ_iald dX9_passDay_45 (lyx_is hy 19 13 rfl) (lyx_n hy 19 21 rfl) (by omega) (by omega) (fun q hq => BT_get hI14584.1 19 0 21 (-1) (0) (999) (by decide) q (Nat.zero_le _) hq) (fun v14623 av14623 bv14623 ev14623 => ?_)
          clear ev14623
          refine WP_istore (ls' := [(0, _), (1, _), (2, _), (3, _), (4, _), (5, _)]) dX9_passDay_46 (by decide) rfl ?_
          refine WP_aload_n dX9_passDay_48 rfl ?_
          refine WP_getr dX9_passDay_49 fX9_22 rfl (lyx_is hy 49 9 rfl) (rfx hrI14584 49 4 52 (by decide)) ?_
          refine WP_iload dX9_passDay_52 rfl ?_
          refine WP_iload_n dX9_passDay_54 rfl ?_
          have jn71_14628 : ∀ (v14628 : Int32), 0 ≤ v14628.toInt → v14628.toInt ≤ 1000000 → WP g mX9_passDay 71 [(0, .ref (ad g 49)), (1, .ref (ad g 56)), (2, .int bo), (3, .int v14516), (4, .int i14583), (5, .int v14623)] [.int v14628, .int i14583, .ref (ad g 52)] I14584 J14585 RI14584 (fun r I' J' R' => (XI g n L I' ∧ (RfX g R' ∧ (R' (ad g 5) 0 = R (ad g 5) 0 ∧ R' (ad g 0) 10 = R (ad g 0) 10) ∧ NL g R') ∧ fz 74 g [43, 44, 47, 48, 50, 51, 52, 56, 58] I I' ∧ (I' (ad g 56) 1).toInt ≤ (I (ad g 56) 1).toInt + 23760) ∧ r = none) := by
            intro v14628 av14628 bv14628
            refine WQ_iast dX9_passDay_71 (lyx_is hy 52 13 rfl) (lyx_n hy 52 3 rfl) (by omega) (by omega) (fun I14630 eI14630 => ?_)
            have hI14630 : XI g n L I14630 := by rw [eI14630]; exact (xi_r hy hI14584 (c := 52) (0) (0) (1000000) (by decide) (Or.inl (by decide)) (by decide) (by omega) (by omega))
            have e14631 : I14630 (ad g 56) 1 = w14586 := by rw [eI14630, pp_ne _ _ (Or.inl (lyx_ne hy (by decide) (by decide) (by decide)))]; exact ew14586
            have e14632 : I14630 (ad g 1) 1 = L := by rw [eI14630, pp_ne _ _ (Or.inl (lyx_ne hy (by decide) (by decide) (by decide)))]; exact e14588
            have fr14633 : fz 74 g [43, 44, 47, 48, 50, 51, 52, 56, 58] I I14630 := by rw [eI14630]; exact fzx_pp hy fiI14584 (by decide) (by decide)
            clear eI14630
            refine WP_iinc (ls' := [(0, _), (1, _), (2, _), (3, _), (4, _), (5, _)]) dX9_passDay_72 rfl (by decide) rfl ?_
            have hv14634 : (i14583 + Int32.ofInt (1)).toInt = i14583.toInt + (1) := ia_n rfl (by omega) (by omega)
            generalize i14583 + Int32.ofInt (1) = v14634 at hv14634 ⊢
            refine WP_goto 22 dX9_passDay_75 rfl ?_
            exact WP_sub (fc rfl (fc rfl (fc rfl (fc rfl (fc rfl fn))))) (ihlp22_14586 v14634 I14630 J14585 RI14584 hrI14584 hTI14584 hSI14584 hPI14584 hI14630 fr14633 w14586 e14631 (by omega) (by omega) (by omega) (by omega))
          refine WQ_if_eq 69 dX9_passDay_55 rfl (fun c14634 => ?_) (fun c14634 => ?_)
          · refine WP_ldc (1000000) dX9_passDay_69 kX9_60 ?_
            obtain ⟨v14636, hv14636, ev14636⟩ : ∃ v : Int32, v.toInt = 1000000 ∧ ((1000000) : Int32) = v := ⟨(1000000), rfl, rfl⟩
            rw [ev14636]; clear ev14636
            exact WP_sub (fc rfl (fc rfl (fc rfl (fc rfl (fc rfl (fc rfl fn)))))) (jn71_14628 v14636 (by omega) (by omega))
          · refine WP_iload dX9_passDay_58 rfl ?_
            refine WQ_iconst (-1) (-1) dX9_passDay_60 rfl rfl (fun v14637 hv14637 => ?_)
            refine WQ_icmp_eq 69 dX9_passDay_61 rfl (fun c14637 => ?_) (fun c14637 => ?_)
            · refine WP_ldc (1000000) dX9_passDay_69 kX9_60 ?_
              obtain ⟨v14639, hv14639, ev14639⟩ : ∃ v : Int32, v.toInt = 1000000 ∧ ((1000000) : Int32) = v := ⟨(1000000), rfl, rfl⟩
              rw [ev14639]; clear ev14639
              exact WP_sub (fc rfl (fc rfl (fc rfl (fc rfl (fc rfl (fc rfl fn)))))) (jn71_14628 v14639 (by omega) (by omega))
            · refine WP_iload dX9_passDay_64 rfl ?_
              refine WP_goto 71 dX9_passDay_66 rfl ?_
              exact WP_sub (fc rfl (fc rfl (fc rfl (fc rfl (fc rfl (fc rfl fn)))))) (jn71_14628 v14623 (by omega) (by omega))
    exact WP_sub (fc rfl (fc rfl (fc rfl (fc rfl (fc rfl fn))))) (lp22_14586 _ v14582 I14576 J14577 R hr hT rfl hP hI14576 fr14578 w14581 ew14581 (by omega) (by omega) (by omega) (Nat.lt_succ_self _))
set_option maxHeartbeats 4000000 in
set_option maxRecDepth 100000 in
theorem sx_passDay_56_27 {g : GG} {n : Int} {L : Int32} (hy : LyX g)  {I : pI} {J : pJ} {R : pR} (hr : RfX g R) (hP : NL g R) (hT : R (ad g 5) 0 = some (ad g 27)) (hI : XI g n L I) (bo : Int32) (bo_lo : 0 ≤ bo.toInt) (bo_hi : bo.toInt ≤ 1) (hn : 0 ≤ n ∧ n ≤ 40000) (hb : (I (ad g 56) 1).toInt ≤ 23760 * n + 700000 - 23760) : SP g mX9_passDay [.ref (ad g 49), .ref (ad g 56), .int bo] I J R (fun r I' J' R' => (XI g n L I' ∧ (RfX g R' ∧ (R' (ad g 5) 0 = R (ad g 5) 0 ∧ R' (ad g 0) 10 = R (ad g 0) 10) ∧ NL g R') ∧ fz 74 g [43, 44, 47, 48, 50, 51, 52, 56, 58] I I' ∧ (I' (ad g 56) 1).toInt ≤ (I (ad g 56) 1).toInt + 23760) ∧ r = none) := by
  refine SP_of ⟨by decide, rfl⟩ (Nat.le_of_ble_eq_true rfl) ?_
  have e14640 : I (ad g 1) 1 = L := hI.2
  have b14641 := BT_get hI.1 1 1 2 (0) (0) (900) (by decide) 1 (by decide) (by decide)
  rw [e14640] at b14641
  have fr0 : fz 74 g [43, 44, 47, 48, 50, 51, 52, 56, 58] I I := fz_rf
  obtain ⟨w14642, ew14642⟩ : ∃ w : Int32, I (ad g 56) 1 = w := ⟨_, rfl⟩
  have bw14642 := BT_get hI.1 56 1 2 (0) (23760) (700000) (by decide) 1 (by decide) (by decide)
  rw [ew14642] at bw14642
  rw [ew14642] at hb
  refine WP_aload_n dX9_passDay_0 rfl ?_
  refine WQ_getiu dX9_passDay_1 fX9_33 rfl (lyx_is hy 56 4 rfl) (fun v14643 ev14643 => ?_)
  refine WQ_bipush (7) (7) dX9_passDay_4 rfl rfl (fun v14644 hv14644 => ?_)
  refine WQ_floorMod dX9_passDay_6 lX9_39 ⟨by decide, Nat.le_of_ble_eq_true rfl⟩ hv14644 (fun v14645 av14645 bv14645 => ?_)
  refine WP_istore_n (ls' := [(0, _), (1, _), (2, _), (3, _)]) dX9_passDay_9 (by decide) rfl ?_
  refine WP_iload_n dX9_passDay_10 rfl ?_
  refine WQ_if_ne 19 dX9_passDay_11 rfl (fun c14645 => ?_) (fun c14645 => ?_)
  · refine WQ_iconst (0) (0) dX9_passDay_19 rfl rfl (fun v14647 hv14647 => ?_)
    refine WP_istore (ls' := [(0, _), (1, _), (2, _), (3, _), (4, _)]) dX9_passDay_20 (by decide) rfl ?_
    have lp22_14651 : ∀ (mz : Nat) (i14648 : Int32) (I14649 : pI) (J14650 : pJ) (RI14649 : pR), RfX g RI14649 → RI14649 (ad g 5) 0 = some (ad g 27) → RI14649 (ad g 0) 10 = R (ad g 0) 10 → NL g RI14649 → XI g n L I14649 → fz 74 g [43, 44, 47, 48, 50, 51, 52, 56, 58] I I14649 → ∀ (w14651 : Int32), I14649 (ad g 56) 1 = w14651 → 0 ≤ i14648.toInt → i14648.toInt ≤ 3 → w14651.toInt ≤ w14642.toInt → (4 - i14648.toInt).toNat < mz → WP g mX9_passDay 22 [(0, .ref (ad g 49)), (1, .ref (ad g 56)), (2, .int bo), (3, .int v14645), (4, .int i14648)] [] I14649 J14650 RI14649 (fun r I' J' R' => (XI g n L I' ∧ (RfX g R' ∧ (R' (ad g 5) 0 = R (ad g 5) 0 ∧ R' (ad g 0) 10 = R (ad g 0) 10) ∧ NL g R') ∧ fz 74 g [43, 44, 47, 48, 50, 51, 52, 56, 58] I I' ∧ (I' (ad g 56) 1).toInt ≤ (I (ad g 56) 1).toInt + 23760) ∧ r = none) := by
      intro mz
      induction mz with
      | zero =>
        intro i14648 I14649 J14650 RI14649 hrI14649 hTI14649 hSI14649 hPI14649 hI14649 fiI14649 w14651 ew14651 ai14648 bi14648 j0_I14649 hmlp22_14651
        exact absurd hmlp22_14651 (Nat.not_lt_zero _)
      | succ mz ihlp22_14651 =>
        intro i14648 I14649 J14650 RI14649 hrI14649 hTI14649 hSI14649 hPI14649 hI14649 fiI14649 w14651 ew14651 ai14648 bi14648 j0_I14649 hmlp22_14651
        have bw14651 := BT_get hI14649.1 56 1 2 (0) (23760) (700000) (by decide) 1 (by decide) (by decide)
        rw [ew14651] at bw14651
        have e14653 : I14649 (ad g 1) 1 = L := hI14649.2
        have b14654 := BT_get hI14649.1 1 1 2 (0) (0) (900) (by decide) 1 (by decide) (by decide)
        rw [e14653] at b14654
        refine WP_iload dX9_passDay_22 rfl ?_
        refine WQ_iconst (3) (3) dX9_passDay_24 rfl rfl (fun v14655 hv14655 => ?_)
        refine WQ_icmp_ge 78 dX9_passDay_25 rfl (fun c14655 => ?_) (fun c14655 => ?_)
        · refine WQ_iconst (0) (0) dX9_passDay_78 rfl rfl (fun v14657 hv14657 => ?_)
          refine WP_istore (ls' := [(0, _), (1, _), (2, _), (3, _), (4, _)]) dX9_passDay_79 (by decide) rfl ?_
          have lp81_14661 : ∀ (mz : Nat) (i14658 : Int32) (I14659 : pI) (J14660 : pJ) (RI14659 : pR), RfX g RI14659 → RI14659 (ad g 5) 0 = some (ad g 27) → RI14659 (ad g 0) 10 = R (ad g 0) 10 → NL g RI14659 → XI g n L I14659 → fz 74 g [43, 44, 47, 48, 50, 51, 52, 56, 58] I I14659 → ∀ (w14661 : Int32), I14659 (ad g 56) 1 = w14661 → 0 ≤ i14658.toInt → i14658.toInt ≤ 4 → w14661.toInt ≤ w14642.toInt + 5940 * i14658.toInt → (5 - i14658.toInt).toNat < mz → WP g mX9_passDay 81 [(0, .ref (ad g 49)), (1, .ref (ad g 56)), (2, .int bo), (3, .int v14645), (4, .int i14658)] [] I14659 J14660 RI14659 (fun r I' J' R' => (XI g n L I' ∧ (RfX g R' ∧ (R' (ad g 5) 0 = R (ad g 5) 0 ∧ R' (ad g 0) 10 = R (ad g 0) 10) ∧ NL g R') ∧ fz 74 g [43, 44, 47, 48, 50, 51, 52, 56, 58] I I' ∧ (I' (ad g 56) 1).toInt ≤ (I (ad g 56) 1).toInt + 23760) ∧ r = none) := by
            intro mz
            induction mz with
            | zero =>
              intro i14658 I14659 J14660 RI14659 hrI14659 hTI14659 hSI14659 hPI14659 hI14659 fiI14659 w14661 ew14661 ai14658 bi14658 j0_I14659 hmlp81_14661
              exact absurd hmlp81_14661 (Nat.not_lt_zero _)
            | succ mz ihlp81_14661 =>
              intro i14658 I14659 J14660 RI14659 hrI14659 hTI14659 hSI14659 hPI14659 hI14659 fiI14659 w14661 ew14661 ai14658 bi14658 j0_I14659 hmlp81_14661
              have bw14661 := BT_get hI14659.1 56 1 2 (0) (23760) (700000) (by decide) 1 (by decide) (by decide)
              rw [ew14661] at bw14661
              have e14663 : I14659 (ad g 1) 1 = L := hI14659.2
              have b14664 := BT_get hI14659.1 1 1 2 (0) (0) (900) (by decide) 1 (by decide) (by decide)
              rw [e14663] at b14664
              refine WP_iload dX9_passDay_81 rfl ?_
              refine WP_aload_n dX9_passDay_83 rfl ?_
              refine WP_getr dX9_passDay_84 fX9_25 rfl (lyx_is hy 49 9 rfl) (rfx hrI14659 49 2 5 (by decide)) ?_
              refine WP_getr dX9_passDay_87 fX9_49 rfl (lyx_is hy 5 0 rfl) hTI14659 ?_
              refine WQ_geti dX9_passDay_90 fX9_61 rfl (lyx_is hy 27 7 rfl) (BT_get hI14659.1 27 1 2 (0) (0) (4) (by decide) 1 (by decide) (by decide)) (fun v14665 ev14665 av14665 bv14665 => ?_)
              refine WQ_icmp_ge 110 dX9_passDay_93 rfl (fun c14665 => ?_) (fun c14665 => ?_)
              · refine WP_aload_n dX9_passDay_110 rfl ?_
                refine WP_dup dX9_passDay_111 rfl ?_
                refine WQ_getiu dX9_passDay_112 fX9_33 rfl (lyx_is hy 56 4 rfl) (fun v14667 ev14667 => ?_)
                refine WQ_iconst (1) (1) dX9_passDay_115 rfl rfl (fun v14668 hv14668 => ?_)
                refine WQ_iaddu dX9_passDay_116 (fun v14669 => ?_)
                refine WQ_puti dX9_passDay_117 fX9_33 rfl rfl (lyx_is hy 56 4 rfl) (fun I14670 eI14670 => ?_)
                have hI14670 : XI g n L I14670 := by rw [eI14670]; exact (xi_f0 hy hI14659 (c := 56) (by decide) (Or.inl (by decide)) (by decide))
                have e14671 : I14670 (ad g 56) 1 = w14661 := by rw [eI14670, pp_ne _ _ (Or.inr (by decide))]; exact ew14661
                have e14672 : I14670 (ad g 1) 1 = L := by rw [eI14670, pp_ne _ _ (Or.inl (lyx_ne hy (by decide) (by decide) (by decide)))]; exact e14663
                have e14673 : I14670 (ad g 27) 1 = v14665 := by rw [eI14670, pp_ne _ _ (Or.inl (lyx_ne hy (by decide) (by decide) (by decide)))]; exact ev14665
                have e14674 : I14670 (ad g 56) 0 = v14669 := by rw [eI14670, pp_self]
                have fr14675 : fz 74 g [43, 44, 47, 48, 50, 51, 52, 56, 58] I I14670 := by rw [eI14670]; exact fzx_pp hy fiI14659 (by decide) (by decide)
                clear eI14670
                exact WP_vret dX9_passDay_120 rfl ⟨⟨hI14670, ⟨hrI14659, ⟨hTI14659.trans hT.symm, hSI14659⟩, hPI14659⟩, fr14675, (by rw [e14671, ew14642]; omega)⟩, rfl⟩
              · refine WP_aload_n dX9_passDay_96 rfl ?_
                refine WP_aload_n dX9_passDay_97 rfl ?_
                refine WP_iload dX9_passDay_98 rfl ?_
                refine WP_iload_n dX9_passDay_100 rfl ?_
                refine WP_callV3 (k := 9) dX9_passDay_101 ⟨⟨⟨by decide, by decide⟩, zX9_serve⟩, lX9_64, by decide, rfl, vX9_serve.1, vX9_serve.2⟩ (lyx_is hy 49 9 rfl) (sx_serve_56_27 hy hrI14659 hPI14659 hTI14659 hI14659 i14658 v14645 (by omega) (by omega) (by omega) (by omega) (by omega) (by rw [ew14661]; omega)) (Nat.le_of_ble_eq_true rfl) ?_
                intro r I14676 J14677 R14678 hq
                obtain ⟨⟨hI14676, ⟨hrI14676, ⟨htI14676, hsI14676⟩, hpI14676⟩, fiI14676, pI14676⟩, rfl⟩ := hq
                have ht_I14676 := htI14676.trans hTI14659
                have hs_I14676 : R14678 (ad g 0) 10 = R (ad g 0) 10 := hsI14676.trans hSI14659
                have fr14679 : fz 74 g [43, 44, 47, 48, 50, 51, 52, 56, 58] I I14676 := fz_tr fiI14659 (fz_mono fiI14676 (by decide))
                have e14680 : I14676 (ad g 27) 1 = v14665 := by rw [fz_at fiI14676 27 (by decide) (by decide)]; exact ev14665
                have e14681 : I14676 (ad g 1) 1 = L := hI14676.2
                have b14682 := BT_get hI14676.1 1 1 2 (0) (0) (900) (by decide) 1 (by decide) (by decide)
                rw [e14681] at b14682
                obtain ⟨w14683, ew14683⟩ : ∃ w : Int32, I14676 (ad g 56) 1 = w := ⟨_, rfl⟩
                have bw14683 := BT_get hI14676.1 56 1 2 (0) (23760) (700000) (by decide) 1 (by decide) (by decide)
                rw [ew14683] at bw14683
                rw [ew14683, ew14661] at pI14676
                refine WP_iinc (ls' := [(0, _), (1, _), (2, _), (3, _), (4, _)]) dX9_passDay_104 rfl (by decide) rfl ?_
                have hv14684 : (i14658 + Int32.ofInt (1)).toInt = i14658.toInt + (1) := ia_n rfl (by omega) (by omega)
                generalize i14658 + Int32.ofInt (1) = v14684 at hv14684 ⊢
                refine WP_goto 81 dX9_passDay_107 rfl ?_
                exact WP_sub (fc rfl (fc rfl (fc rfl (fc rfl (fc rfl fn))))) (ihlp81_14661 v14684 I14676 J14677 R14678 hrI14676 ht_I14676 hs_I14676 hpI14676 hI14676 fr14679 w14683 ew14683 (by omega) (by omega) (by omega) (by omega))
          exact WP_sub (fc rfl (fc rfl (fc rfl (fc rfl (fc rfl fn))))) (lp81_14661 _ v14657 I14649 J14650 RI14649 hrI14649 hTI14649 hSI14649 hPI14649 hI14649 fiI14649 w14651 ew14651 (by omega) (by omega) (by omega) (Nat.lt_succ_self _))
        · refine WP_aload_n dX9_passDay_28 rfl ?_
          refine WP_getr dX9_passDay_29 fX9_25 rfl (lyx_is hy 49 9 rfl) (rfx hrI14649 49 2 5 (by decide)) ?_
          refine WP_getr dX9_passDay_32 fX9_49 rfl (lyx_is hy 5 0 rfl) hTI14649 ?_
          refine WP_getr dX9_passDay_35 fX9_55 rfl (lyx_is hy 27 7 rfl) (rfx hrI14649 27 17 40 (by decide)) ?_
          refine WP_iload dX9_passDay_38 rfl ?_
          refine WQ_bipush (7) (7) dX9_passDay_40 rfl rfl (fun v14685 hv14685 => ?_)
          refine WQ_imulk (7) dX9_passDay_42 hv14685 (by omega) (by omega) (fun v14686 hv14686 => ?_)
          refine WP_iload_n dX9_passDay_43 rfl ?_
          refine WQ_iadd dX9_passDay_44 (by omega) (by omega) (fun v14687 hv14687 => ?_)
          refine WQ_iald dX9_passDay_45 (lyx_is hy 40 13 rfl) (lyx_n hy 40 21 rfl) (by omega) (by omega) (fun q hq => BT_get hI14649.1 40 0 21 (-1) (0) (999) (by decide) q (Nat.zero_le _) hq) (fun v14688 av14688 bv14688 ev14688 => ?_)
          clear ev14688
          refine WP_istore (ls' := [(0, _), (1, _), (2, _), (3, _), (4, _), (5, _)]) dX9_passDay_46 (by decide) rfl ?_
          refine WP_aload_n dX9_passDay_48 rfl ?_
          refine WP_getr dX9_passDay_49 fX9_22 rfl (lyx_is hy 49 9 rfl) (rfx hrI14649 49 4 52 (by decide)) ?_
          refine WP_iload dX9_passDay_52 rfl ?_
          refine WP_iload_n dX9_passDay_54 rfl ?_
          have jn71_14693 : ∀ (v14693 : Int32), 0 ≤ v14693.toInt → v14693.toInt ≤ 1000000 → WP g mX9_passDay 71 [(0, .ref (ad g 49)), (1, .ref (ad g 56)), (2, .int bo), (3, .int v14645), (4, .int i14648), (5, .int v14688)] [.int v14693, .int i14648, .ref (ad g 52)] I14649 J14650 RI14649 (fun r I' J' R' => (XI g n L I' ∧ (RfX g R' ∧ (R' (ad g 5) 0 = R (ad g 5) 0 ∧ R' (ad g 0) 10 = R (ad g 0) 10) ∧ NL g R') ∧ fz 74 g [43, 44, 47, 48, 50, 51, 52, 56, 58] I I' ∧ (I' (ad g 56) 1).toInt ≤ (I (ad g 56) 1).toInt + 23760) ∧ r = none) := by
            intro v14693 av14693 bv14693
            refine WQ_iast dX9_passDay_71 (lyx_is hy 52 13 rfl) (lyx_n hy 52 3 rfl) (by omega) (by omega) (fun I14695 eI14695 => ?_)
            have hI14695 : XI g n L I14695 := by rw [eI14695]; exact (xi_r hy hI14649 (c := 52) (0) (0) (1000000) (by decide) (Or.inl (by decide)) (by decide) (by omega) (by omega))
            have e14696 : I14695 (ad g 56) 1 = w14651 := by rw [eI14695, pp_ne _ _ (Or.inl (lyx_ne hy (by decide) (by decide) (by decide)))]; exact ew14651
            have e14697 : I14695 (ad g 1) 1 = L := by rw [eI14695, pp_ne _ _ (Or.inl (lyx_ne hy (by decide) (by decide) (by decide)))]; exact e14653
            have fr14698 : fz 74 g [43, 44, 47, 48, 50, 51, 52, 56, 58] I I14695 := by rw [eI14695]; exact fzx_pp hy fiI14649 (by decide) (by decide)
            clear eI14695
            refine WP_iinc (ls' := [(0, _), (1, _), (2, _), (3, _), (4, _), (5, _)]) dX9_passDay_72 rfl (by decide) rfl ?_
            have hv14699 : (i14648 + Int32.ofInt (1)).toInt = i14648.toInt + (1) := ia_n rfl (by omega) (by omega)
            generalize i14648 + Int32.ofInt (1) = v14699 at hv14699 ⊢
            refine WP_goto 22 dX9_passDay_75 rfl ?_
            exact WP_sub (fc rfl (fc rfl (fc rfl (fc rfl (fc rfl fn))))) (ihlp22_14651 v14699 I14695 J14650 RI14649 hrI14649 hTI14649 hSI14649 hPI14649 hI14695 fr14698 w14651 e14696 (by omega) (by omega) (by omega) (by omega))
          refine WQ_if_eq 69 dX9_passDay_55 rfl (fun c14699 => ?_) (fun c14699 => ?_)
          · refine WP_ldc (1000000) dX9_passDay_69 kX9_60 ?_
            obtain ⟨v14701, hv14701, ev14701⟩ : ∃ v : Int32, v.toInt = 1000000 ∧ ((1000000) : Int32) = v := ⟨(1000000), rfl, rfl⟩
            rw [ev14701]; clear ev14701
            exact WP_sub (fc rfl (fc rfl (fc rfl (fc rfl (fc rfl (fc rfl fn)))))) (jn71_14693 v14701 (by omega) (by omega))
          · refine WP_iload dX9_passDay_58 rfl ?_
            refine WQ_iconst (-1) (-1) dX9_passDay_60 rfl rfl (fun v14702 hv14702 => ?_)
            refine WQ_icmp_eq 69 dX9_passDay_61 rfl (fun c14702 => ?_) (fun c14702 => ?_)
            · refine WP_ldc (1000000) dX9_passDay_69 kX9_60 ?_
              obtain ⟨v14704, hv14704, ev14704⟩ : ∃ v : Int32, v.toInt = 1000000 ∧ ((1000000) : Int32) = v := ⟨(1000000), rfl, rfl⟩
              rw [ev14704]; clear ev14704
              exact WP_sub (fc rfl (fc rfl (fc rfl (fc rfl (fc rfl (fc rfl fn)))))) (jn71_14693 v14704 (by omega) (by omega))
            · refine WP_iload dX9_passDay_64 rfl ?_
              refine WP_goto 71 dX9_passDay_66 rfl ?_
              exact WP_sub (fc rfl (fc rfl (fc rfl (fc rfl (fc rfl (fc rfl fn)))))) (jn71_14693 v14688 (by omega) (by omega))
    exact WP_sub (fc rfl (fc rfl (fc rfl (fc rfl (fc rfl fn))))) (lp22_14651 _ v14647 I J R hr hT rfl hP hI fr0 w14642 ew14642 (by omega) (by omega) (by omega) (Nat.lt_succ_self _))
  · refine WP_aload_n dX9_passDay_14 rfl ?_
    refine WP_aload_n dX9_passDay_15 rfl ?_
    refine WP_callV1 (k := 9) dX9_passDay_16 ⟨⟨⟨by decide, by decide⟩, zX9_openChest⟩, lX9_45, by decide, rfl, vX9_openChest.1, vX9_openChest.2⟩ (lyx_is hy 49 9 rfl) (sx_openChestf_56_27 hy hr hT hI   (by omega)) (Nat.le_of_ble_eq_true rfl) ?_
    intro r I14705 J14706 Ra hq
    obtain ⟨⟨hI14705, ec, fiI14705, pI14705⟩, rfl⟩ := hq
    rw [ec]
    clear ec Ra
    have fr14707 : fz 74 g [43, 44, 47, 48, 50, 51, 52, 56, 58] I I14705 := fz_tr fr0 (fz_mono fiI14705 (by decide))
    have e14708 : I14705 (ad g 1) 1 = L := hI14705.2
    have b14709 := BT_get hI14705.1 1 1 2 (0) (0) (900) (by decide) 1 (by decide) (by decide)
    rw [e14708] at b14709
    obtain ⟨w14710, ew14710⟩ : ∃ w : Int32, I14705 (ad g 56) 1 = w := ⟨_, rfl⟩
    have bw14710 := BT_get hI14705.1 56 1 2 (0) (23760) (700000) (by decide) 1 (by decide) (by decide)
    rw [ew14710] at bw14710
    rw [ew14710, ew14642] at pI14705
    refine WQ_iconst (0) (0) dX9_passDay_19 rfl rfl (fun v14711 hv14711 => ?_)
    refine WP_istore (ls' := [(0, _), (1, _), (2, _), (3, _), (4, _)]) dX9_passDay_20 (by decide) rfl ?_
    have lp22_14715 : ∀ (mz : Nat) (i14712 : Int32) (I14713 : pI) (J14714 : pJ) (RI14713 : pR), RfX g RI14713 → RI14713 (ad g 5) 0 = some (ad g 27) → RI14713 (ad g 0) 10 = R (ad g 0) 10 → NL g RI14713 → XI g n L I14713 → fz 74 g [43, 44, 47, 48, 50, 51, 52, 56, 58] I I14713 → ∀ (w14715 : Int32), I14713 (ad g 56) 1 = w14715 → 0 ≤ i14712.toInt → i14712.toInt ≤ 3 → w14715.toInt ≤ w14642.toInt → (4 - i14712.toInt).toNat < mz → WP g mX9_passDay 22 [(0, .ref (ad g 49)), (1, .ref (ad g 56)), (2, .int bo), (3, .int v14645), (4, .int i14712)] [] I14713 J14714 RI14713 (fun r I' J' R' => (XI g n L I' ∧ (RfX g R' ∧ (R' (ad g 5) 0 = R (ad g 5) 0 ∧ R' (ad g 0) 10 = R (ad g 0) 10) ∧ NL g R') ∧ fz 74 g [43, 44, 47, 48, 50, 51, 52, 56, 58] I I' ∧ (I' (ad g 56) 1).toInt ≤ (I (ad g 56) 1).toInt + 23760) ∧ r = none) := by
      intro mz
      induction mz with
      | zero =>
        intro i14712 I14713 J14714 RI14713 hrI14713 hTI14713 hSI14713 hPI14713 hI14713 fiI14713 w14715 ew14715 ai14712 bi14712 j0_I14713 hmlp22_14715
        exact absurd hmlp22_14715 (Nat.not_lt_zero _)
      | succ mz ihlp22_14715 =>
        intro i14712 I14713 J14714 RI14713 hrI14713 hTI14713 hSI14713 hPI14713 hI14713 fiI14713 w14715 ew14715 ai14712 bi14712 j0_I14713 hmlp22_14715
        have bw14715 := BT_get hI14713.1 56 1 2 (0) (23760) (700000) (by decide) 1 (by decide) (by decide)
        rw [ew14715] at bw14715
        have e14717 : I14713 (ad g 1) 1 = L := hI14713.2
        have b14718 := BT_get hI14713.1 1 1 2 (0) (0) (900) (by decide) 1 (by decide) (by decide)
        rw [e14717] at b14718
        refine WP_iload dX9_passDay_22 rfl ?_
        refine WQ_iconst (3) (3) dX9_passDay_24 rfl rfl (fun v14719 hv14719 => ?_)
        refine WQ_icmp_ge 78 dX9_passDay_25 rfl (fun c14719 => ?_) (fun c14719 => ?_)
        · refine WQ_iconst (0) (0) dX9_passDay_78 rfl rfl (fun v14721 hv14721 => ?_)
          refine WP_istore (ls' := [(0, _), (1, _), (2, _), (3, _), (4, _)]) dX9_passDay_79 (by decide) rfl ?_
          have lp81_14725 : ∀ (mz : Nat) (i14722 : Int32) (I14723 : pI) (J14724 : pJ) (RI14723 : pR), RfX g RI14723 → RI14723 (ad g 5) 0 = some (ad g 27) → RI14723 (ad g 0) 10 = R (ad g 0) 10 → NL g RI14723 → XI g n L I14723 → fz 74 g [43, 44, 47, 48, 50, 51, 52, 56, 58] I I14723 → ∀ (w14725 : Int32), I14723 (ad g 56) 1 = w14725 → 0 ≤ i14722.toInt → i14722.toInt ≤ 4 → w14725.toInt ≤ w14642.toInt + 5940 * i14722.toInt → (5 - i14722.toInt).toNat < mz → WP g mX9_passDay 81 [(0, .ref (ad g 49)), (1, .ref (ad g 56)), (2, .int bo), (3, .int v14645), (4, .int i14722)] [] I14723 J14724 RI14723 (fun r I' J' R' => (XI g n L I' ∧ (RfX g R' ∧ (R' (ad g 5) 0 = R (ad g 5) 0 ∧ R' (ad g 0) 10 = R (ad g 0) 10) ∧ NL g R') ∧ fz 74 g [43, 44, 47, 48, 50, 51, 52, 56, 58] I I' ∧ (I' (ad g 56) 1).toInt ≤ (I (ad g 56) 1).toInt + 23760) ∧ r = none) := by
            intro mz
            induction mz with
            | zero =>
              intro i14722 I14723 J14724 RI14723 hrI14723 hTI14723 hSI14723 hPI14723 hI14723 fiI14723 w14725 ew14725 ai14722 bi14722 j0_I14723 hmlp81_14725
              exact absurd hmlp81_14725 (Nat.not_lt_zero _)
            | succ mz ihlp81_14725 =>
              intro i14722 I14723 J14724 RI14723 hrI14723 hTI14723 hSI14723 hPI14723 hI14723 fiI14723 w14725 ew14725 ai14722 bi14722 j0_I14723 hmlp81_14725
              have bw14725 := BT_get hI14723.1 56 1 2 (0) (23760) (700000) (by decide) 1 (by decide) (by decide)
              rw [ew14725] at bw14725
              have e14727 : I14723 (ad g 1) 1 = L := hI14723.2
              have b14728 := BT_get hI14723.1 1 1 2 (0) (0) (900) (by decide) 1 (by decide) (by decide)
              rw [e14727] at b14728
              refine WP_iload dX9_passDay_81 rfl ?_
              refine WP_aload_n dX9_passDay_83 rfl ?_
              refine WP_getr dX9_passDay_84 fX9_25 rfl (lyx_is hy 49 9 rfl) (rfx hrI14723 49 2 5 (by decide)) ?_
              refine WP_getr dX9_passDay_87 fX9_49 rfl (lyx_is hy 5 0 rfl) hTI14723 ?_
              refine WQ_geti dX9_passDay_90 fX9_61 rfl (lyx_is hy 27 7 rfl) (BT_get hI14723.1 27 1 2 (0) (0) (4) (by decide) 1 (by decide) (by decide)) (fun v14729 ev14729 av14729 bv14729 => ?_)
              refine WQ_icmp_ge 110 dX9_passDay_93 rfl (fun c14729 => ?_) (fun c14729 => ?_)
              · refine WP_aload_n dX9_passDay_110 rfl ?_
                refine WP_dup dX9_passDay_111 rfl ?_
                refine WQ_getiu dX9_passDay_112 fX9_33 rfl (lyx_is hy 56 4 rfl) (fun v14731 ev14731 => ?_)
                refine WQ_iconst (1) (1) dX9_passDay_115 rfl rfl (fun v14732 hv14732 => ?_)
                refine WQ_iaddu dX9_passDay_116 (fun v14733 => ?_)
                refine WQ_puti dX9_passDay_117 fX9_33 rfl rfl (lyx_is hy 56 4 rfl) (fun I14734 eI14734 => ?_)
                have hI14734 : XI g n L I14734 := by rw [eI14734]; exact (xi_f0 hy hI14723 (c := 56) (by decide) (Or.inl (by decide)) (by decide))
                have e14735 : I14734 (ad g 56) 1 = w14725 := by rw [eI14734, pp_ne _ _ (Or.inr (by decide))]; exact ew14725
                have e14736 : I14734 (ad g 1) 1 = L := by rw [eI14734, pp_ne _ _ (Or.inl (lyx_ne hy (by decide) (by decide) (by decide)))]; exact e14727
                have e14737 : I14734 (ad g 27) 1 = v14729 := by rw [eI14734, pp_ne _ _ (Or.inl (lyx_ne hy (by decide) (by decide) (by decide)))]; exact ev14729
                have e14738 : I14734 (ad g 56) 0 = v14733 := by rw [eI14734, pp_self]
                have fr14739 : fz 74 g [43, 44, 47, 48, 50, 51, 52, 56, 58] I I14734 := by rw [eI14734]; exact fzx_pp hy fiI14723 (by decide) (by decide)
                clear eI14734
                exact WP_vret dX9_passDay_120 rfl ⟨⟨hI14734, ⟨hrI14723, ⟨hTI14723.trans hT.symm, hSI14723⟩, hPI14723⟩, fr14739, (by rw [e14735, ew14642]; omega)⟩, rfl⟩
              · refine WP_aload_n dX9_passDay_96 rfl ?_
                refine WP_aload_n dX9_passDay_97 rfl ?_
                refine WP_iload dX9_passDay_98 rfl ?_
                refine WP_iload_n dX9_passDay_100 rfl ?_
                refine WP_callV3 (k := 9) dX9_passDay_101 ⟨⟨⟨by decide, by decide⟩, zX9_serve⟩, lX9_64, by decide, rfl, vX9_serve.1, vX9_serve.2⟩ (lyx_is hy 49 9 rfl) (sx_serve_56_27 hy hrI14723 hPI14723 hTI14723 hI14723 i14722 v14645 (by omega) (by omega) (by omega) (by omega) (by omega) (by rw [ew14725]; omega)) (Nat.le_of_ble_eq_true rfl) ?_
                intro r I14740 J14741 R14742 hq
                obtain ⟨⟨hI14740, ⟨hrI14740, ⟨htI14740, hsI14740⟩, hpI14740⟩, fiI14740, pI14740⟩, rfl⟩ := hq
                have ht_I14740 := htI14740.trans hTI14723
                have hs_I14740 : R14742 (ad g 0) 10 = R (ad g 0) 10 := hsI14740.trans hSI14723
                have fr14743 : fz 74 g [43, 44, 47, 48, 50, 51, 52, 56, 58] I I14740 := fz_tr fiI14723 (fz_mono fiI14740 (by decide))
                have e14744 : I14740 (ad g 27) 1 = v14729 := by rw [fz_at fiI14740 27 (by decide) (by decide)]; exact ev14729
                have e14745 : I14740 (ad g 1) 1 = L := hI14740.2
                have b14746 := BT_get hI14740.1 1 1 2 (0) (0) (900) (by decide) 1 (by decide) (by decide)
                rw [e14745] at b14746
                obtain ⟨w14747, ew14747⟩ : ∃ w : Int32, I14740 (ad g 56) 1 = w := ⟨_, rfl⟩
                have bw14747 := BT_get hI14740.1 56 1 2 (0) (23760) (700000) (by decide) 1 (by decide) (by decide)
                rw [ew14747] at bw14747
                rw [ew14747, ew14725] at pI14740
                refine WP_iinc (ls' := [(0, _), (1, _), (2, _), (3, _), (4, _)]) dX9_passDay_104 rfl (by decide) rfl ?_
                have hv14748 : (i14722 + Int32.ofInt (1)).toInt = i14722.toInt + (1) := ia_n rfl (by omega) (by omega)
                generalize i14722 + Int32.ofInt (1) = v14748 at hv14748 ⊢
                refine WP_goto 81 dX9_passDay_107 rfl ?_
                exact WP_sub (fc rfl (fc rfl (fc rfl (fc rfl (fc rfl fn))))) (ihlp81_14725 v14748 I14740 J14741 R14742 hrI14740 ht_I14740 hs_I14740 hpI14740 hI14740 fr14743 w14747 ew14747 (by omega) (by omega) (by omega) (by omega))
          exact WP_sub (fc rfl (fc rfl (fc rfl (fc rfl (fc rfl fn))))) (lp81_14725 _ v14721 I14713 J14714 RI14713 hrI14713 hTI14713 hSI14713 hPI14713 hI14713 fiI14713 w14715 ew14715 (by omega) (by omega) (by omega) (Nat.lt_succ_self _))
        · refine WP_aload_n dX9_passDay_28 rfl ?_
          refine WP_getr dX9_passDay_29 fX9_25 rfl (lyx_is hy 49 9 rfl) (rfx hrI14713 49 2 5 (by decide)) ?_
          refine WP_getr dX9_passDay_32 fX9_49 rfl (lyx_is hy 5 0 rfl) hTI14713 ?_
          refine WP_getr dX9_passDay_35 fX9_55 rfl (lyx_is hy 27 7 rfl) (rfx hrI14713 27 17 40 (by decide)) ?_
          refine WP_iload dX9_passDay_38 rfl ?_
          refine WQ_bipush (7) (7) dX9_passDay_40 rfl rfl (fun v14749 hv14749 => ?_)
          refine WQ_imulk (7) dX9_passDay_42 hv14749 (by omega) (by omega) (fun v14750 hv14750 => ?_)
          refine WP_iload_n dX9_passDay_43 rfl ?_
          refine WQ_iadd dX9_passDay_44 (by omega) (by omega) (fun v14751 hv14751 => ?_)
          refine WQ_iald dX9_passDay_45 (lyx_is hy 40 13 rfl) (lyx_n hy 40 21 rfl) (by omega) (by omega) (fun q hq => BT_get hI14713.1 40 0 21 (-1) (0) (999) (by decide) q (Nat.zero_le _) hq) (fun v14752 av14752 bv14752 ev14752 => ?_)
          clear ev14752
          refine WP_istore (ls' := [(0, _), (1, _), (2, _), (3, _), (4, _), (5, _)]) dX9_passDay_46 (by decide) rfl ?_
          refine WP_aload_n dX9_passDay_48 rfl ?_
          refine WP_getr dX9_passDay_49 fX9_22 rfl (lyx_is hy 49 9 rfl) (rfx hrI14713 49 4 52 (by decide)) ?_
          refine WP_iload dX9_passDay_52 rfl ?_
          refine WP_iload_n dX9_passDay_54 rfl ?_
          have jn71_14757 : ∀ (v14757 : Int32), 0 ≤ v14757.toInt → v14757.toInt ≤ 1000000 → WP g mX9_passDay 71 [(0, .ref (ad g 49)), (1, .ref (ad g 56)), (2, .int bo), (3, .int v14645), (4, .int i14712), (5, .int v14752)] [.int v14757, .int i14712, .ref (ad g 52)] I14713 J14714 RI14713 (fun r I' J' R' => (XI g n L I' ∧ (RfX g R' ∧ (R' (ad g 5) 0 = R (ad g 5) 0 ∧ R' (ad g 0) 10 = R (ad g 0) 10) ∧ NL g R') ∧ fz 74 g [43, 44, 47, 48, 50, 51, 52, 56, 58] I I' ∧ (I' (ad g 56) 1).toInt ≤ (I (ad g 56) 1).toInt + 23760) ∧ r = none) := by
            intro v14757 av14757 bv14757
            refine WQ_iast dX9_passDay_71 (lyx_is hy 52 13 rfl) (lyx_n hy 52 3 rfl) (by omega) (by omega) (fun I14759 eI14759 => ?_)
            have hI14759 : XI g n L I14759 := by rw [eI14759]; exact (xi_r hy hI14713 (c := 52) (0) (0) (1000000) (by decide) (Or.inl (by decide)) (by decide) (by omega) (by omega))
            have e14760 : I14759 (ad g 56) 1 = w14715 := by rw [eI14759, pp_ne _ _ (Or.inl (lyx_ne hy (by decide) (by decide) (by decide)))]; exact ew14715
            have e14761 : I14759 (ad g 1) 1 = L := by rw [eI14759, pp_ne _ _ (Or.inl (lyx_ne hy (by decide) (by decide) (by decide)))]; exact e14717
            have fr14762 : fz 74 g [43, 44, 47, 48, 50, 51, 52, 56, 58] I I14759 := by rw [eI14759]; exact fzx_pp hy fiI14713 (by decide) (by decide)
            clear eI14759
            refine WP_iinc (ls' := [(0, _), (1, _), (2, _), (3, _), (4, _), (5, _)]) dX9_passDay_72 rfl (by decide) rfl ?_
            have hv14763 : (i14712 + Int32.ofInt (1)).toInt = i14712.toInt + (1) := ia_n rfl (by omega) (by omega)
            generalize i14712 + Int32.ofInt (1) = v14763 at hv14763 ⊢
            refine WP_goto 22 dX9_passDay_75 rfl ?_
            exact WP_sub (fc rfl (fc rfl (fc rfl (fc rfl (fc rfl fn))))) (ihlp22_14715 v14763 I14759 J14714 RI14713 hrI14713 hTI14713 hSI14713 hPI14713 hI14759 fr14762 w14715 e14760 (by omega) (by omega) (by omega) (by omega))
          refine WQ_if_eq 69 dX9_passDay_55 rfl (fun c14763 => ?_) (fun c14763 => ?_)
          · refine WP_ldc (1000000) dX9_passDay_69 kX9_60 ?_
            obtain ⟨v14765, hv14765, ev14765⟩ : ∃ v : Int32, v.toInt = 1000000 ∧ ((1000000) : Int32) = v := ⟨(1000000), rfl, rfl⟩
            rw [ev14765]; clear ev14765
            exact WP_sub (fc rfl (fc rfl (fc rfl (fc rfl (fc rfl (fc rfl fn)))))) (jn71_14757 v14765 (by omega) (by omega))
          · refine WP_iload dX9_passDay_58 rfl ?_
            refine WQ_iconst (-1) (-1) dX9_passDay_60 rfl rfl (fun v14766 hv14766 => ?_)
            refine WQ_icmp_eq 69 dX9_passDay_61 rfl (fun c14766 => ?_) (fun c14766 => ?_)
            · refine WP_ldc (1000000) dX9_passDay_69 kX9_60 ?_
              obtain ⟨v14768, hv14768, ev14768⟩ : ∃ v : Int32, v.toInt = 1000000 ∧ ((1000000) : Int32) = v := ⟨(1000000), rfl, rfl⟩
              rw [ev14768]; clear ev14768
              exact WP_sub (fc rfl (fc rfl (fc rfl (fc rfl (fc rfl (fc rfl fn)))))) (jn71_14757 v14768 (by omega) (by omega))
            · refine WP_iload dX9_passDay_64 rfl ?_
              refine WP_goto 71 dX9_passDay_66 rfl ?_
              exact WP_sub (fc rfl (fc rfl (fc rfl (fc rfl (fc rfl (fc rfl fn)))))) (jn71_14757 v14752 (by omega) (by omega))
    exact WP_sub (fc rfl (fc rfl (fc rfl (fc rfl (fc rfl fn))))) (lp22_14715 _ v14711 I14705 J14706 R hr hT rfl hP hI14705 fr14707 w14710 ew14710 (by omega) (by omega) (by omega) (Nat.lt_succ_self _))
