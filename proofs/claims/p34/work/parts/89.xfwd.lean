set_option maxHeartbeats 4000000 in
set_option maxRecDepth 100000 in
theorem sx_fillJ_45 {g : GG} {n : Int} {L : Int32} (hy : LyX g)  {I : pI} {J : pJ} {R : pR} (hr : RfX g R) (hI : XI g n L I) (vv : Int64)  : SP g mJ7_fill_d0a16 [.ref (ad g 45), .long vv] I J R (fun r I' J' R' => (XI g n L I' ∧ R' = R ∧ fz 74 g [] I I' ∧ fz 74 g [45] J J') ∧ r = none) := by
  refine SP_of ⟨by decide, rfl⟩ (Nat.le_of_ble_eq_true rfl) ?_
  have e5286 : I (ad g 1) 1 = L := hI.2
  have b5287 := BT_get hI.1 1 1 2 (0) (0) (900) (by decide) 1 (by decide) (by decide)
  rw [e5286] at b5287
  have fr0 : fz 74 g [] I I := fz_rf
  have frj0 : fz 74 g [45] J J := fz_rf
  refine WQ_iconst (0) (0) dJ7_fill_d0a16_0 rfl rfl (fun v5288 hv5288 => ?_)
  refine WP_istore_n (ls' := [(0, _), (1, _), (3, _)]) dJ7_fill_d0a16_1 (by decide) rfl ?_
  refine WP_aload_n dJ7_fill_d0a16_2 rfl ?_
  refine WP_alen dJ7_fill_d0a16_3 (lyx_is hy 45 14 rfl) (by decide) ?_
  rw [(lyx_n hy 45 168 rfl)]
  obtain ⟨v5289, hv5289, ev5289⟩ : ∃ v : Int32, v.toInt = 168 ∧ nI 168 = v := ⟨_, nI_toInt (by decide), rfl⟩
  rw [ev5289]; clear ev5289
  refine WP_istore (ls' := [(0, _), (1, _), (3, _), (4, _)]) dJ7_fill_d0a16_4 (by decide) rfl ?_
  have lp6_5292 : ∀ (mz : Nat) (i5290 : Int32) (I5291 : pI) (J5292 : pJ), XI g n L I5291 → fz 74 g [] I I5291 → fz 74 g [45] J J5292 → 0 ≤ i5290.toInt → i5290.toInt ≤ 168 → i5290.toInt ≤ v5289.toInt → (169 - i5290.toInt).toNat < mz → WP g mJ7_fill_d0a16 6 [(0, .ref (ad g 45)), (1, .long vv), (3, .int i5290), (4, .int v5289)] [] I5291 J5292 R (fun r I' J' R' => (XI g n L I' ∧ R' = R ∧ fz 74 g [] I I' ∧ fz 74 g [45] J J') ∧ r = none) := by
    intro mz
    induction mz with
    | zero =>
      intro i5290 I5291 J5292 hI5291 fiI5291 fjJ5292 ai5290 bi5290 j0_I5291 hmlp6_5292
      exact absurd hmlp6_5292 (Nat.not_lt_zero _)
    | succ mz ihlp6_5292 =>
      intro i5290 I5291 J5292 hI5291 fiI5291 fjJ5292 ai5290 bi5290 j0_I5291 hmlp6_5292
      have e5294 : I5291 (ad g 1) 1 = L := hI5291.2
      have b5295 := BT_get hI5291.1 1 1 2 (0) (0) (900) (by decide) 1 (by decide) (by decide)
      rw [e5294] at b5295
      refine WP_iload_n dJ7_fill_d0a16_6 rfl ?_
      refine WP_iload dJ7_fill_d0a16_7 rfl ?_
      refine WQ_icmp_ge 22 dJ7_fill_d0a16_9 rfl (fun c5295 => ?_) (fun c5295 => ?_)
      · exact WP_vret dJ7_fill_d0a16_22 rfl ⟨⟨hI5291, rfl, fiI5291, fjJ5292⟩, rfl⟩
      · refine WP_aload_n dJ7_fill_d0a16_12 rfl ?_
        refine WP_iload_n dJ7_fill_d0a16_13 rfl ?_
        refine WP_lload_n dJ7_fill_d0a16_14 rfl ?_
        refine WQ_last dJ7_fill_d0a16_15 (lyx_is hy 45 14 rfl) (lyx_n hy 45 168 rfl) (by omega) (by omega) (fun J5297 eJ5297 => ?_)
        have fr5298 : fz 74 g [45] J J5297 := by rw [eJ5297]; exact fzx_pp hy fjJ5292 (by decide) (by decide)
        clear eJ5297
        refine WP_iinc (ls' := [(0, _), (1, _), (3, _), (4, _)]) dJ7_fill_d0a16_16 rfl (by decide) rfl ?_
        have hv5299 : (i5290 + Int32.ofInt (1)).toInt = i5290.toInt + (1) := ia_n rfl (by omega) (by omega)
        generalize i5290 + Int32.ofInt (1) = v5299 at hv5299 ⊢
        refine WP_goto 6 dJ7_fill_d0a16_19 rfl ?_
        exact WP_sub (fc rfl (fc rfl (fc rfl (fc rfl fn)))) (ihlp6_5292 v5299 I5291 J5297 hI5291 fiI5291 fr5298 (by omega) (by omega) (by omega) (by omega))
  exact WP_sub (fc rfl (fc rfl (fc rfl (fc rfl fn)))) (lp6_5292 _ v5288 I J hI fr0 frj0 (by omega) (by omega) (by omega) (Nat.lt_succ_self _))
set_option maxHeartbeats 4000000 in
set_option maxRecDepth 100000 in
theorem sx_fillJ_46 {g : GG} {n : Int} {L : Int32} (hy : LyX g)  {I : pI} {J : pJ} {R : pR} (hr : RfX g R) (hI : XI g n L I) (vv : Int64)  : SP g mJ7_fill_d0a16 [.ref (ad g 46), .long vv] I J R (fun r I' J' R' => (XI g n L I' ∧ R' = R ∧ fz 74 g [] I I' ∧ fz 74 g [46] J J') ∧ r = none) := by
  refine SP_of ⟨by decide, rfl⟩ (Nat.le_of_ble_eq_true rfl) ?_
  have e5300 : I (ad g 1) 1 = L := hI.2
  have b5301 := BT_get hI.1 1 1 2 (0) (0) (900) (by decide) 1 (by decide) (by decide)
  rw [e5300] at b5301
  have fr0 : fz 74 g [] I I := fz_rf
  have frj0 : fz 74 g [46] J J := fz_rf
  refine WQ_iconst (0) (0) dJ7_fill_d0a16_0 rfl rfl (fun v5302 hv5302 => ?_)
  refine WP_istore_n (ls' := [(0, _), (1, _), (3, _)]) dJ7_fill_d0a16_1 (by decide) rfl ?_
  refine WP_aload_n dJ7_fill_d0a16_2 rfl ?_
  refine WP_alen dJ7_fill_d0a16_3 (lyx_is hy 46 14 rfl) (by decide) ?_
  rw [(lyx_n hy 46 6 rfl)]
  obtain ⟨v5303, hv5303, ev5303⟩ : ∃ v : Int32, v.toInt = 6 ∧ nI 6 = v := ⟨_, nI_toInt (by decide), rfl⟩
  rw [ev5303]; clear ev5303
  refine WP_istore (ls' := [(0, _), (1, _), (3, _), (4, _)]) dJ7_fill_d0a16_4 (by decide) rfl ?_
  have lp6_5306 : ∀ (mz : Nat) (i5304 : Int32) (I5305 : pI) (J5306 : pJ), XI g n L I5305 → fz 74 g [] I I5305 → fz 74 g [46] J J5306 → 0 ≤ i5304.toInt → i5304.toInt ≤ 168 → i5304.toInt ≤ v5303.toInt → (169 - i5304.toInt).toNat < mz → WP g mJ7_fill_d0a16 6 [(0, .ref (ad g 46)), (1, .long vv), (3, .int i5304), (4, .int v5303)] [] I5305 J5306 R (fun r I' J' R' => (XI g n L I' ∧ R' = R ∧ fz 74 g [] I I' ∧ fz 74 g [46] J J') ∧ r = none) := by
    intro mz
    induction mz with
    | zero =>
      intro i5304 I5305 J5306 hI5305 fiI5305 fjJ5306 ai5304 bi5304 j0_I5305 hmlp6_5306
      exact absurd hmlp6_5306 (Nat.not_lt_zero _)
    | succ mz ihlp6_5306 =>
      intro i5304 I5305 J5306 hI5305 fiI5305 fjJ5306 ai5304 bi5304 j0_I5305 hmlp6_5306
      have e5308 : I5305 (ad g 1) 1 = L := hI5305.2
      have b5309 := BT_get hI5305.1 1 1 2 (0) (0) (900) (by decide) 1 (by decide) (by decide)
      rw [e5308] at b5309
      refine WP_iload_n dJ7_fill_d0a16_6 rfl ?_
      refine WP_iload dJ7_fill_d0a16_7 rfl ?_
      refine WQ_icmp_ge 22 dJ7_fill_d0a16_9 rfl (fun c5309 => ?_) (fun c5309 => ?_)
      · exact WP_vret dJ7_fill_d0a16_22 rfl ⟨⟨hI5305, rfl, fiI5305, fjJ5306⟩, rfl⟩
      · refine WP_aload_n dJ7_fill_d0a16_12 rfl ?_
        refine WP_iload_n dJ7_fill_d0a16_13 rfl ?_
        refine WP_lload_n dJ7_fill_d0a16_14 rfl ?_
        refine WQ_last dJ7_fill_d0a16_15 (lyx_is hy 46 14 rfl) (lyx_n hy 46 6 rfl) (by omega) (by omega) (fun J5311 eJ5311 => ?_)
        have fr5312 : fz 74 g [46] J J5311 := by rw [eJ5311]; exact fzx_pp hy fjJ5306 (by decide) (by decide)
        clear eJ5311
        refine WP_iinc (ls' := [(0, _), (1, _), (3, _), (4, _)]) dJ7_fill_d0a16_16 rfl (by decide) rfl ?_
        have hv5313 : (i5304 + Int32.ofInt (1)).toInt = i5304.toInt + (1) := ia_n rfl (by omega) (by omega)
        generalize i5304 + Int32.ofInt (1) = v5313 at hv5313 ⊢
        refine WP_goto 6 dJ7_fill_d0a16_19 rfl ?_
        exact WP_sub (fc rfl (fc rfl (fc rfl (fc rfl fn)))) (ihlp6_5306 v5313 I5305 J5311 hI5305 fiI5305 fr5312 (by omega) (by omega) (by omega) (by omega))
  exact WP_sub (fc rfl (fc rfl (fc rfl (fc rfl fn)))) (lp6_5306 _ v5302 I J hI fr0 frj0 (by omega) (by omega) (by omega) (Nat.lt_succ_self _))
set_option maxHeartbeats 4000000 in
set_option maxRecDepth 100000 in
theorem sx_withEarned {g : GG} {n : Int} {L : Int32} (hy : LyX g)  {I : pI} {J : pJ} {R : pR} (hr : RfX g R) (hI : XI g n L I) (ha : Int64) (ea : Int32) (ea_lo : 0 ≤ ea.toInt) (ea_hi : ea.toInt ≤ 20) : SP g mX2_withEarned [.long ha, .int ea] I J R (fun r I' J' R' => (I' = I ∧ J' = J ∧ R' = R) ∧ ∃ v : Int64, r = some (.long v)) := by
  refine SP_of ⟨by decide, rfl⟩ (Nat.le_of_ble_eq_true rfl) ?_
  have e5314 : I (ad g 1) 1 = L := hI.2
  have b5315 := BT_get hI.1 1 1 2 (0) (0) (900) (by decide) 1 (by decide) (by decide)
  rw [e5314] at b5315
  refine WP_ldc2 (1152921504606846976) dX2_withEarned_0 klX2_90 ?_
  obtain ⟨l5316, hl5316, el5316⟩ : ∃ v : Int64, v.toInt = (1152921504606846976) ∧ ((1152921504606846976) : Int64) = v := ⟨_, rfl, rfl⟩
  rw [el5316]; clear el5316
  refine WP_lstore_n (ls' := [(0, _), (2, _), (3, _)]) dX2_withEarned_3 (by decide) rfl ?_
  refine WP_lload_n dX2_withEarned_4 rfl ?_
  refine WP_iload_n dX2_withEarned_5 rfl ?_
  refine WQ_lshl dX2_withEarned_6 (fun l5317 => ?_)
  refine WP_lload_n dX2_withEarned_7 rfl ?_
  refine WP_lconst (1) dX2_withEarned_8 rfl ?_
  obtain ⟨l5318, hl5318, el5318⟩ : ∃ v : Int64, v.toInt = 1 ∧ (1 : Int64) = v := ⟨_, rfl, rfl⟩
  rw [el5318]; clear el5318
  refine WQ_lsubi dX2_withEarned_9 (by omega) (by omega) (fun l5319 hl5319 => ?_)
  refine WQ_land dX2_withEarned_10 (fun l5320 => ?_)
  refine WP_lstore (ls' := [(0, _), (2, _), (3, _), (5, _)]) dX2_withEarned_11 (by decide) rfl ?_
  refine WP_lload_n dX2_withEarned_13 rfl ?_
  refine WQ_bipush (60) (60) dX2_withEarned_14 rfl rfl (fun v5321 hv5321 => ?_)
  refine WP_iload_n dX2_withEarned_16 rfl ?_
  refine WQ_isub dX2_withEarned_17 (by omega) (by omega) (fun v5322 hv5322 => ?_)
  refine WQ_lushr dX2_withEarned_18 (fun l5323 => ?_)
  refine WP_lconst (0) dX2_withEarned_19 rfl ?_
  obtain ⟨l5324, hl5324, el5324⟩ : ∃ v : Int64, v.toInt = 0 ∧ (0 : Int64) = v := ⟨_, rfl, rfl⟩
  rw [el5324]; clear el5324
  refine WQ_lcmpu dX2_withEarned_20 (fun v5325 => ?_)
  refine WX_if_ne 29 dX2_withEarned_21 rfl ?_ ?_
  · refine WP_lload dX2_withEarned_29 rfl ?_
    refine WP_lload_n dX2_withEarned_31 rfl ?_
    refine WQ_lor dX2_withEarned_32 (fun l5327 => ?_)
    exact WP_lret dX2_withEarned_33 rfl ⟨⟨rfl, rfl, rfl⟩, _, rfl⟩
  · refine WP_lload dX2_withEarned_24 rfl ?_
    refine WP_goto 33 dX2_withEarned_26 rfl ?_
    exact WP_lret dX2_withEarned_33 rfl ⟨⟨rfl, rfl, rfl⟩, _, rfl⟩
set_option maxHeartbeats 4000000 in
set_option maxRecDepth 100000 in
theorem sx_spend {g : GG} {n : Int} {L : Int32} (hy : LyX g)  {I : pI} {J : pJ} {R : pR} (hr : RfX g R) (hI : XI g n L I) (co : Int64) (st : Int32) (mf : Int32) (st_lo : 0 ≤ st.toInt) (st_hi : st.toInt ≤ 5) (mf_lo : 0 ≤ mf.toInt) (mf_hi : mf.toInt ≤ 3) (hm : mf.toInt ≤ st.toInt) : SP g mX2_spend [.ref (ad g 43), .long co, .int st, .int mf] I J R (fun r I' J' R' => (XI g n L I' ∧ R' = R ∧ fz 74 g [] I I' ∧ fz 74 g [46] J J') ∧ r = none) := by
  refine SP_of ⟨by decide, rfl⟩ (Nat.le_of_ble_eq_true rfl) ?_
  have e5328 : I (ad g 1) 1 = L := hI.2
  have b5329 := BT_get hI.1 1 1 2 (0) (0) (900) (by decide) 1 (by decide) (by decide)
  rw [e5328] at b5329
  have fr0 : fz 74 g [] I I := fz_rf
  have frj0 : fz 74 g [46] J J := fz_rf
  refine WQ_iconst (0) (0) dX2_spend_0 rfl rfl (fun v5330 hv5330 => ?_)
  refine WP_istore (ls' := [(0, _), (1, _), (3, _), (4, _), (5, _)]) dX2_spend_1 (by decide) rfl ?_
  have lp3_5333 : ∀ (mz : Nat) (i5331 : Int32) (I5332 : pI) (J5333 : pJ), XI g n L I5332 → fz 74 g [] I I5332 → fz 74 g [46] J J5333 → 0 ≤ i5331.toInt → i5331.toInt ≤ 3 → (4 - i5331.toInt).toNat < mz → WP g mX2_spend 3 [(0, .ref (ad g 43)), (1, .long co), (3, .int st), (4, .int mf), (5, .int i5331)] [] I5332 J5333 R (fun r I' J' R' => (XI g n L I' ∧ R' = R ∧ fz 74 g [] I I' ∧ fz 74 g [46] J J') ∧ r = none) := by
    intro mz
    induction mz with
    | zero =>
      intro i5331 I5332 J5333 hI5332 fiI5332 fjJ5333 ai5331 bi5331 hmlp3_5333
      exact absurd hmlp3_5333 (Nat.not_lt_zero _)
    | succ mz ihlp3_5333 =>
      intro i5331 I5332 J5333 hI5332 fiI5332 fjJ5333 ai5331 bi5331 hmlp3_5333
      have e5335 : I5332 (ad g 1) 1 = L := hI5332.2
      have b5336 := BT_get hI5332.1 1 1 2 (0) (0) (900) (by decide) 1 (by decide) (by decide)
      rw [e5335] at b5336
      refine WP_iload dX2_spend_3 rfl ?_
      refine WP_aload_n dX2_spend_5 rfl ?_
      refine WP_getr dX2_spend_6 fX2_12 rfl (lyx_is hy 43 2 rfl) (rfx hr 43 3 44 (by decide)) ?_
      refine WQ_geti dX2_spend_9 fX2_92 rfl (lyx_is hy 44 6 rfl) (BT_get hI5332.1 44 6 7 (0) (0) (2) (by decide) 6 (by decide) (by decide)) (fun v5337 ev5337 av5337 bv5337 => ?_)
      refine WQ_icmp_gt 128 dX2_spend_12 rfl (fun c5337 => ?_) (fun c5337 => ?_)
      · exact WP_vret dX2_spend_128 rfl ⟨⟨hI5332, rfl, fiI5332, fjJ5333⟩, rfl⟩
      · refine WQ_iconst (0) (0) dX2_spend_15 rfl rfl (fun v5339 hv5339 => ?_)
        refine WP_istore (ls' := [(0, _), (1, _), (3, _), (4, _), (5, _), (6, _)]) dX2_spend_16 (by decide) rfl ?_
        have lp18_5342 : ∀ (mz : Nat) (i5340 : Int32) (I5341 : pI) (J5342 : pJ), XI g n L I5341 → fz 74 g [] I I5341 → fz 74 g [46] J J5342 → 0 ≤ i5340.toInt → i5340.toInt ≤ 4 → (5 - i5340.toInt).toNat < mz → WP g mX2_spend 18 [(0, .ref (ad g 43)), (1, .long co), (3, .int st), (4, .int mf), (5, .int i5331), (6, .int i5340)] [] I5341 J5342 R (fun r I' J' R' => (XI g n L I' ∧ R' = R ∧ fz 74 g [] I I' ∧ fz 74 g [46] J J') ∧ r = none) := by
          intro mz
          induction mz with
          | zero =>
            intro i5340 I5341 J5342 hI5341 fiI5341 fjJ5342 ai5340 bi5340 hmlp18_5342
            exact absurd hmlp18_5342 (Nat.not_lt_zero _)
          | succ mz ihlp18_5342 =>
            intro i5340 I5341 J5342 hI5341 fiI5341 fjJ5342 ai5340 bi5340 hmlp18_5342
            have e5344 : I5341 (ad g 1) 1 = L := hI5341.2
            have b5345 := BT_get hI5341.1 1 1 2 (0) (0) (900) (by decide) 1 (by decide) (by decide)
            rw [e5344] at b5345
            refine WP_iload dX2_spend_18 rfl ?_
            refine WP_iload dX2_spend_20 rfl ?_
            refine WQ_icmp_gt 122 dX2_spend_22 rfl (fun c5345 => ?_) (fun c5345 => ?_)
            · refine WP_iinc (ls' := [(0, _), (1, _), (3, _), (4, _), (5, _), (6, _)]) dX2_spend_122 rfl (by decide) rfl ?_
              have hv5347 : (i5331 + Int32.ofInt (1)).toInt = i5331.toInt + (1) := ia_n rfl (by omega) (by omega)
              generalize i5331 + Int32.ofInt (1) = v5347 at hv5347 ⊢
              refine WP_goto 3 dX2_spend_125 rfl ?_
              exact WP_sub (fc rfl (fc rfl (fc rfl (fc rfl (fc rfl fn))))) (ihlp3_5333 v5347 I5341 J5342 hI5341 fiI5341 fjJ5342 (by omega) (by omega) (by omega))
            · refine WP_iload_n dX2_spend_25 rfl ?_
              refine WP_iload dX2_spend_26 rfl ?_
              refine WQ_isub dX2_spend_28 (by omega) (by omega) (fun v5348 hv5348 => ?_)
              refine WP_iload dX2_spend_29 rfl ?_
              refine WQ_iadd dX2_spend_31 (by omega) (by omega) (fun v5349 hv5349 => ?_)
              refine WP_istore (ls' := [(0, _), (1, _), (3, _), (4, _), (5, _), (6, _), (7, _)]) dX2_spend_32 (by decide) rfl ?_
              refine WP_aload_n dX2_spend_34 rfl ?_
              refine WP_getr dX2_spend_35 fX2_12 rfl (lyx_is hy 43 2 rfl) (rfx hr 43 3 44 (by decide)) ?_
              refine WQ_geti dX2_spend_38 fX2_95 rfl (lyx_is hy 44 6 rfl) (BT_get hI5341.1 44 5 6 (0) (0) (3) (by decide) 5 (by decide) (by decide)) (fun v5350 ev5350 av5350 bv5350 => ?_)
              refine WP_aload_n dX2_spend_41 rfl ?_
              refine WP_getr dX2_spend_42 fX2_12 rfl (lyx_is hy 43 2 rfl) (rfx hr 43 3 44 (by decide)) ?_
              refine WQ_geti dX2_spend_45 fX2_98 rfl (lyx_is hy 44 6 rfl) (BT_get hI5341.1 44 1 2 (0) (0) (3) (by decide) 1 (by decide) (by decide)) (fun v5351 ev5351 av5351 bv5351 => ?_)
              refine WP_iload dX2_spend_48 rfl ?_
              refine WQ_isub dX2_spend_50 (by omega) (by omega) (fun v5352 hv5352 => ?_)
              refine WQ_min dX2_spend_51 lX2_101 ⟨by decide, Nat.le_of_ble_eq_true rfl⟩ (fun v5353 av5353 bv5353 cv5353 => ?_)
              refine WP_istore (ls' := [(0, _), (1, _), (3, _), (4, _), (5, _), (6, _), (7, _), (8, _)]) dX2_spend_54 (by decide) rfl ?_
              refine WP_lload_n dX2_spend_56 rfl ?_
              refine WP_iload dX2_spend_57 rfl ?_
              refine WP_aload_n dX2_spend_59 rfl ?_
              refine WP_getr dX2_spend_60 fX2_12 rfl (lyx_is hy 43 2 rfl) (rfx hr 43 3 44 (by decide)) ?_
              refine WQ_geti dX2_spend_63 fX2_107 rfl (lyx_is hy 44 6 rfl) (BT_get hI5341.1 44 4 5 (0) (0) (20) (by decide) 4 (by decide) (by decide)) (fun v5354 ev5354 av5354 bv5354 => ?_)
              refine WQ_imulb (2) (20) dX2_spend_66 ⟨by omega, by omega⟩ ⟨by omega, by omega⟩ (by decide) (fun v5355 pv5355 av5355 bv5355 cv5355 => ?_)
              refine WQ_lushr dX2_spend_67 (fun l5356 => ?_)
              refine WP_lstore (ls' := [(0, _), (1, _), (3, _), (4, _), (5, _), (6, _), (7, _), (8, _), (9, _)]) dX2_spend_68 (by decide) rfl ?_
              refine WQ_iconst (0) (0) dX2_spend_70 rfl rfl (fun v5357 hv5357 => ?_)
              refine WP_istore (ls' := [(0, _), (1, _), (3, _), (4, _), (5, _), (6, _), (7, _), (8, _), (9, _), (11, _)]) dX2_spend_71 (by decide) rfl ?_
              have lp73_5361 : ∀ (mz : Nat) (l5358 : Int64) (i5359 : Int32) (I5360 : pI) (J5361 : pJ), XI g n L I5360 → fz 74 g [] I I5360 → fz 74 g [46] J J5361 → 0 ≤ i5359.toInt → i5359.toInt ≤ 4 → (5 - i5359.toInt).toNat < mz → WP g mX2_spend 73 [(0, .ref (ad g 43)), (1, .long co), (3, .int st), (4, .int mf), (5, .int i5331), (6, .int i5340), (7, .int v5349), (8, .int v5353), (9, .long l5358), (11, .int i5359)] [] I5360 J5361 R (fun r I' J' R' => (XI g n L I' ∧ R' = R ∧ fz 74 g [] I I' ∧ fz 74 g [46] J J') ∧ r = none) := by
                intro mz
                induction mz with
                | zero =>
                  intro l5358 i5359 I5360 J5361 hI5360 fiI5360 fjJ5361 ai5359 bi5359 hmlp73_5361
                  exact absurd hmlp73_5361 (Nat.not_lt_zero _)
                | succ mz ihlp73_5361 =>
                  intro l5358 i5359 I5360 J5361 hI5360 fiI5360 fjJ5361 ai5359 bi5359 hmlp73_5361
                  have e5363 : I5360 (ad g 1) 1 = L := hI5360.2
                  have b5364 := BT_get hI5360.1 1 1 2 (0) (0) (900) (by decide) 1 (by decide) (by decide)
                  rw [e5363] at b5364
                  refine WP_iload dX2_spend_73 rfl ?_
                  refine WQ_iconst (5) (5) dX2_spend_75 rfl rfl (fun v5365 hv5365 => ?_)
                  refine WQ_icmp_gt 116 dX2_spend_76 rfl (fun c5365 => ?_) (fun c5365 => ?_)
                  · refine WP_iinc (ls' := [(0, _), (1, _), (3, _), (4, _), (5, _), (6, _), (7, _), (8, _), (9, _), (11, _)]) dX2_spend_116 rfl (by decide) rfl ?_
                    have hv5367 : (i5340 + Int32.ofInt (1)).toInt = i5340.toInt + (1) := ia_n rfl (by omega) (by omega)
                    generalize i5340 + Int32.ofInt (1) = v5367 at hv5367 ⊢
                    refine WP_goto 18 dX2_spend_119 rfl ?_
                    exact WP_sub (fc rfl (fc rfl (fc rfl (fc rfl (fc rfl (fc rfl fn)))))) (ihlp18_5342 v5367 I5360 J5361 hI5360 fiI5360 fjJ5361 (by omega) (by omega) (by omega))
                  · refine WP_iload dX2_spend_79 rfl ?_
                    refine WP_iload dX2_spend_81 rfl ?_
                    refine WQ_icmp_gt 116 dX2_spend_83 rfl (fun c5367 => ?_) (fun c5367 => ?_)
                    · refine WP_iinc (ls' := [(0, _), (1, _), (3, _), (4, _), (5, _), (6, _), (7, _), (8, _), (9, _), (11, _)]) dX2_spend_116 rfl (by decide) rfl ?_
                      have hv5369 : (i5340 + Int32.ofInt (1)).toInt = i5340.toInt + (1) := ia_n rfl (by omega) (by omega)
                      generalize i5340 + Int32.ofInt (1) = v5369 at hv5369 ⊢
                      refine WP_goto 18 dX2_spend_119 rfl ?_
                      exact WP_sub (fc rfl (fc rfl (fc rfl (fc rfl (fc rfl (fc rfl fn)))))) (ihlp18_5342 v5369 I5360 J5361 hI5360 fiI5360 fjJ5361 (by omega) (by omega) (by omega))
                    · refine WP_aload_n dX2_spend_86 rfl ?_
                      refine WP_getr dX2_spend_87 fX2_22 rfl (lyx_is hy 43 2 rfl) (rfx hr 43 5 46 (by decide)) ?_
                      refine WP_iload dX2_spend_90 rfl ?_
                      refine WP_dup2 dX2_spend_92 rfl rfl ?_
                      refine WQ_laldu dX2_spend_93 (lyx_is hy 46 14 rfl) (lyx_n hy 46 6 rfl) (by omega) (by omega) (fun l5370 => ?_)
                      refine WP_lload dX2_spend_94 rfl ?_
                      refine WQ_lor dX2_spend_96 (fun l5371 => ?_)
                      refine WQ_last dX2_spend_97 (lyx_is hy 46 14 rfl) (lyx_n hy 46 6 rfl) (by omega) (by omega) (fun J5372 eJ5372 => ?_)
                      have fr5373 : fz 74 g [46] J J5372 := by rw [eJ5372]; exact fzx_pp hy fjJ5361 (by decide) (by decide)
                      clear eJ5372
                      refine WP_lload dX2_spend_98 rfl ?_
                      refine WP_aload_n dX2_spend_100 rfl ?_
                      refine WP_getr dX2_spend_101 fX2_12 rfl (lyx_is hy 43 2 rfl) (rfx hr 43 3 44 (by decide)) ?_
                      refine WQ_geti dX2_spend_104 fX2_110 rfl (lyx_is hy 44 6 rfl) (BT_get hI5360.1 44 3 4 (0) (0) (20) (by decide) 3 (by decide) (by decide)) (fun v5374 ev5374 av5374 bv5374 => ?_)
                      refine WQ_lushr dX2_spend_107 (fun l5375 => ?_)
                      refine WP_lstore (ls' := [(0, _), (1, _), (3, _), (4, _), (5, _), (6, _), (7, _), (8, _), (9, _), (11, _)]) dX2_spend_108 (by decide) rfl ?_
                      refine WP_iinc (ls' := [(0, _), (1, _), (3, _), (4, _), (5, _), (6, _), (7, _), (8, _), (9, _), (11, _)]) dX2_spend_110 rfl (by decide) rfl ?_
                      have hv5376 : (i5359 + Int32.ofInt (1)).toInt = i5359.toInt + (1) := ia_n rfl (by omega) (by omega)
                      generalize i5359 + Int32.ofInt (1) = v5376 at hv5376 ⊢
                      refine WP_goto 73 dX2_spend_113 rfl ?_
                      exact WP_sub (fc rfl (fc rfl (fc rfl (fc rfl (fc rfl (fc rfl (fc rfl (fc rfl (fc rfl (fc rfl fn)))))))))) (ihlp73_5361 l5375 v5376 I5360 J5372 hI5360 fiI5360 fr5373 (by omega) (by omega) (by omega))
              exact WP_sub (fc rfl (fc rfl (fc rfl (fc rfl (fc rfl (fc rfl (fc rfl (fc rfl (fc rfl (fc rfl fn)))))))))) (lp73_5361 _ l5356 v5357 I5341 J5342 hI5341 fiI5341 fjJ5342 (by omega) (by omega) (Nat.lt_succ_self _))
        exact WP_sub (fc rfl (fc rfl (fc rfl (fc rfl (fc rfl (fc rfl fn)))))) (lp18_5342 _ v5339 I5332 J5333 hI5332 fiI5332 fjJ5333 (by omega) (by omega) (Nat.lt_succ_self _))
  exact WP_sub (fc rfl (fc rfl (fc rfl (fc rfl (fc rfl fn))))) (lp3_5333 _ v5330 I J hI fr0 frj0 (by omega) (by omega) (Nat.lt_succ_self _))
set_option maxHeartbeats 4000000 in
set_option maxRecDepth 100000 in
theorem sx_spread {g : GG} {n : Int} {L : Int32} (hy : LyX g)  {I : pI} {J : pJ} {R : pR} (hr : RfX g R) (hI : XI g n L I) (ea : Int32) (ah : Int32) (ea_lo : 0 ≤ ea.toInt) (ea_hi : ea.toInt ≤ 20) (ah_lo : 0 ≤ ah.toInt) (ah_hi : ah.toInt ≤ 27) : SP g mX2_spread [.ref (ad g 43), .int ea, .int ah] I J R (fun r I' J' R' => (XI g n L I' ∧ R' = R ∧ fz 74 g [] I I' ∧ fz 74 g [46] J J') ∧ r = none) := by
  refine SP_of ⟨by decide, rfl⟩ (Nat.le_of_ble_eq_true rfl) ?_
  have e5377 : I (ad g 1) 1 = L := hI.2
  have b5378 := BT_get hI.1 1 1 2 (0) (0) (900) (by decide) 1 (by decide) (by decide)
  rw [e5377] at b5378
  have fr0 : fz 74 g [] I I := fz_rf
  have frj0 : fz 74 g [46] J J := fz_rf
  refine WP_aload_n dX2_spread_0 rfl ?_
  refine WP_getr dX2_spread_1 fX2_22 rfl (lyx_is hy 43 2 rfl) (rfx hr 43 5 46 (by decide)) ?_
  refine WP_lconst (0) dX2_spread_4 rfl ?_
  obtain ⟨l5379, hl5379, el5379⟩ : ∃ v : Int64, v.toInt = 0 ∧ (0 : Int64) = v := ⟨_, rfl, rfl⟩
  rw [el5379]; clear el5379
  refine WP_callS2 dX2_spread_5 ⟨⟨⟨by decide, by decide⟩, zJ7_fill_d0a16⟩, lX2_36, tJ7_fill_d0a16⟩ (sx_fillJ_46 hy hr hI l5379 ) (Nat.le_of_ble_eq_true rfl) ?_
  intro r I5380 J5381 Ra hq
  obtain ⟨⟨hI5380, ec, fiI5380, fjI5380⟩, rfl⟩ := hq
  rw [ec]
  clear ec Ra
  have fr5382 : fz 74 g [] I I5380 := fz_tr fr0 (fz_mono fiI5380 (by decide))
  have fr5383 : fz 74 g [46] J J5381 := fz_tr frj0 (fz_mono fjI5380 (by decide))
  have e5384 : I5380 (ad g 1) 1 = L := hI5380.2
  have b5385 := BT_get hI5380.1 1 1 2 (0) (0) (900) (by decide) 1 (by decide) (by decide)
  rw [e5384] at b5385
  refine WQ_iconst (0) (0) dX2_spread_8 rfl rfl (fun v5386 hv5386 => ?_)
  refine WP_istore_n (ls' := [(0, _), (1, _), (2, _), (3, _)]) dX2_spread_9 (by decide) rfl ?_
  have lp10_5389 : ∀ (mz : Nat) (i5387 : Int32) (I5388 : pI) (J5389 : pJ), XI g n L I5388 → fz 74 g [] I I5388 → fz 74 g [46] J J5389 → 0 ≤ i5387.toInt → i5387.toInt ≤ 6 → (7 - i5387.toInt).toNat < mz → WP g mX2_spread 10 [(0, .ref (ad g 43)), (1, .int ea), (2, .int ah), (3, .int i5387)] [] I5388 J5389 R (fun r I' J' R' => (XI g n L I' ∧ R' = R ∧ fz 74 g [] I I' ∧ fz 74 g [46] J J') ∧ r = none) := by
    intro mz
    induction mz with
    | zero =>
      intro i5387 I5388 J5389 hI5388 fiI5388 fjJ5389 ai5387 bi5387 hmlp10_5389
      exact absurd hmlp10_5389 (Nat.not_lt_zero _)
    | succ mz ihlp10_5389 =>
      intro i5387 I5388 J5389 hI5388 fiI5388 fjJ5389 ai5387 bi5387 hmlp10_5389
      have e5391 : I5388 (ad g 1) 1 = L := hI5388.2
      have b5392 := BT_get hI5388.1 1 1 2 (0) (0) (900) (by decide) 1 (by decide) (by decide)
      rw [e5391] at b5392
      refine WP_iload_n dX2_spread_10 rfl ?_
      refine WQ_bipush (6) (6) dX2_spread_11 rfl rfl (fun v5393 hv5393 => ?_)
      refine WQ_icmp_ge 61 dX2_spread_13 rfl (fun c5393 => ?_) (fun c5393 => ?_)
      · exact WP_vret dX2_spread_61 rfl ⟨⟨hI5388, rfl, fiI5388, fjJ5389⟩, rfl⟩
      · refine WP_aload_n dX2_spread_16 rfl ?_
        refine WP_getr dX2_spread_17 fX2_18 rfl (lyx_is hy 43 2 rfl) (rfx hr 43 4 45 (by decide)) ?_
        refine WP_iload_n dX2_spread_20 rfl ?_
        refine WQ_bipush (6) (6) dX2_spread_21 rfl rfl (fun v5395 hv5395 => ?_)
        refine WQ_imulk (6) dX2_spread_23 hv5395 (by omega) (by omega) (fun v5396 hv5396 => ?_)
        refine WP_iload_n dX2_spread_24 rfl ?_
        refine WQ_iadd dX2_spread_25 (by omega) (by omega) (fun v5397 hv5397 => ?_)
        refine WQ_laldu dX2_spread_26 (lyx_is hy 45 14 rfl) (lyx_n hy 45 168 rfl) (by omega) (by omega) (fun l5398 => ?_)
        refine WP_lstore (ls' := [(0, _), (1, _), (2, _), (3, _), (4, _)]) dX2_spread_27 (by decide) rfl ?_
        refine WP_lload dX2_spread_29 rfl ?_
        refine WP_lconst (0) dX2_spread_31 rfl ?_
        obtain ⟨l5399, hl5399, el5399⟩ : ∃ v : Int64, v.toInt = 0 ∧ (0 : Int64) = v := ⟨_, rfl, rfl⟩
        rw [el5399]; clear el5399
        refine WQ_lcmpu dX2_spread_32 (fun v5400 => ?_)
        refine WX_if_eq 55 dX2_spread_33 rfl ?_ ?_
        · refine WP_iinc (ls' := [(0, _), (1, _), (2, _), (3, _), (4, _)]) dX2_spread_55 rfl (by decide) rfl ?_
          have hv5401 : (i5387 + Int32.ofInt (1)).toInt = i5387.toInt + (1) := ia_n rfl (by omega) (by omega)
          generalize i5387 + Int32.ofInt (1) = v5401 at hv5401 ⊢
          refine WP_goto 10 dX2_spread_58 rfl ?_
          exact WP_sub (fc rfl (fc rfl (fc rfl (fc rfl fn)))) (ihlp10_5389 v5401 I5388 J5389 hI5388 fiI5388 fjJ5389 (by omega) (by omega) (by omega))
        · refine WP_aload_n dX2_spread_36 rfl ?_
          refine WP_lload dX2_spread_37 rfl ?_
          refine WP_iload_n dX2_spread_39 rfl ?_
          refine WP_callS2 dX2_spread_40 ⟨⟨⟨by decide, by decide⟩, zX2_withEarned⟩, lX2_78, tX2_withEarned⟩ (sx_withEarned hy hr hI5388 l5398 ea (by omega) (by omega)) (Nat.le_of_ble_eq_true rfl) ?_
          intro r Ia Ja Ra hq
          obtain ⟨⟨ea, eb, ec⟩, l5402, rfl⟩ := hq
          show WP _ _ _ _ (.long _ :: _) _ _ _ _
          rw [ea, eb, ec]
          clear ea eb ec Ia Ja Ra
          refine WP_iload_n dX2_spread_43 rfl ?_
          refine WP_aload_n dX2_spread_44 rfl ?_
          refine WP_getr dX2_spread_45 fX2_12 rfl (lyx_is hy 43 2 rfl) (rfx hr 43 3 44 (by decide)) ?_
          refine WP_iload_n dX2_spread_48 rfl ?_
          refine WP_callV1 (k := 6) dX2_spread_49 ⟨⟨⟨by decide, by decide⟩, zX6_mostFromStore⟩, lX2_82, by decide, rfl, vX6_mostFromStore.1, vX6_mostFromStore.2⟩ (lyx_is hy 44 6 rfl) (sx_mostFromStore_44 hy hr hI5388 i5387 (by omega) (by omega)) (Nat.le_of_ble_eq_true rfl) ?_
          intro r Ia Ja Ra hq
          obtain ⟨⟨ea, eb, ec⟩, v5403, rfl, av5403, bv5403, cv5403⟩ := hq
          show WP _ _ _ _ (.int _ :: _) _ _ _ _
          rw [ea, eb, ec]
          clear ea eb ec Ia Ja Ra
          refine WP_callV3 (k := 2) dX2_spread_52 ⟨⟨⟨by decide, by decide⟩, zX2_spend⟩, lX2_86, by decide, rfl, vX2_spend.1, vX2_spend.2⟩ (lyx_is hy 43 2 rfl) (sx_spend hy hr hI5388 l5402 i5387 v5403 (by omega) (by omega) (by omega) (by omega) (by omega)) (Nat.le_of_ble_eq_true rfl) ?_
          intro r I5404 J5405 Ra hq
          obtain ⟨⟨hI5404, ec, fiI5404, fjI5404⟩, rfl⟩ := hq
          rw [ec]
          clear ec Ra
          have fr5406 : fz 74 g [] I I5404 := fz_tr fiI5388 (fz_mono fiI5404 (by decide))
          have fr5407 : fz 74 g [46] J J5405 := fz_tr fjJ5389 (fz_mono fjI5404 (by decide))
          have e5408 : I5404 (ad g 1) 1 = L := hI5404.2
          have b5409 := BT_get hI5404.1 1 1 2 (0) (0) (900) (by decide) 1 (by decide) (by decide)
          rw [e5408] at b5409
          refine WP_iinc (ls' := [(0, _), (1, _), (2, _), (3, _), (4, _)]) dX2_spread_55 rfl (by decide) rfl ?_
          have hv5410 : (i5387 + Int32.ofInt (1)).toInt = i5387.toInt + (1) := ia_n rfl (by omega) (by omega)
          generalize i5387 + Int32.ofInt (1) = v5410 at hv5410 ⊢
          refine WP_goto 10 dX2_spread_58 rfl ?_
          exact WP_sub (fc rfl (fc rfl (fc rfl (fc rfl fn)))) (ihlp10_5389 v5410 I5404 J5405 hI5404 fr5406 fr5407 (by omega) (by omega) (by omega))
  exact WP_sub (fc rfl (fc rfl (fc rfl (fc rfl fn)))) (lp10_5389 _ v5386 I5380 J5381 hI5380 fr5382 fr5383 (by omega) (by omega) (Nat.lt_succ_self _))
set_option maxHeartbeats 4000000 in
set_option maxRecDepth 100000 in
theorem sx_psleep {g : GG} {n : Int} {L : Int32} (hy : LyX g)  {I : pI} {J : pJ} {R : pR} (hr : RfX g R) (hI : XI g n L I) (da : Int32) (ah : Int32) (da_lo : 0 ≤ da.toInt) (da_hi : da.toInt ≤ 6) (ah_lo : 0 ≤ ah.toInt) (ah_hi : ah.toInt ≤ 27) : SP g mX2_sleep [.ref (ad g 43), .int da, .int ah] I J R (fun r I' J' R' => (XI g n L I' ∧ R' = R ∧ fz 74 g [] I I' ∧ fz 74 g [45] J J') ∧ r = none) := by
  refine SP_of ⟨by decide, rfl⟩ (Nat.le_of_ble_eq_true rfl) ?_
  have e5411 : I (ad g 1) 1 = L := hI.2
  have b5412 := BT_get hI.1 1 1 2 (0) (0) (900) (by decide) 1 (by decide) (by decide)
  rw [e5411] at b5412
  have fr0 : fz 74 g [] I I := fz_rf
  have frj0 : fz 74 g [45] J J := fz_rf
  refine WQ_iconst (0) (0) dX2_sleep_0 rfl rfl (fun v5413 hv5413 => ?_)
  refine WP_istore_n (ls' := [(0, _), (1, _), (2, _), (3, _)]) dX2_sleep_1 (by decide) rfl ?_
  have lp2_5416 : ∀ (mz : Nat) (i5414 : Int32) (I5415 : pI) (J5416 : pJ), XI g n L I5415 → fz 74 g [] I I5415 → fz 74 g [45] J J5416 → 0 ≤ i5414.toInt → i5414.toInt ≤ 6 → (7 - i5414.toInt).toNat < mz → WP g mX2_sleep 2 [(0, .ref (ad g 43)), (1, .int da), (2, .int ah), (3, .int i5414)] [] I5415 J5416 R (fun r I' J' R' => (XI g n L I' ∧ R' = R ∧ fz 74 g [] I I' ∧ fz 74 g [45] J J') ∧ r = none) := by
    intro mz
    induction mz with
    | zero =>
      intro i5414 I5415 J5416 hI5415 fiI5415 fjJ5416 ai5414 bi5414 hmlp2_5416
      exact absurd hmlp2_5416 (Nat.not_lt_zero _)
    | succ mz ihlp2_5416 =>
      intro i5414 I5415 J5416 hI5415 fiI5415 fjJ5416 ai5414 bi5414 hmlp2_5416
      have e5418 : I5415 (ad g 1) 1 = L := hI5415.2
      have b5419 := BT_get hI5415.1 1 1 2 (0) (0) (900) (by decide) 1 (by decide) (by decide)
      rw [e5418] at b5419
      refine WP_iload_n dX2_sleep_2 rfl ?_
      refine WQ_bipush (6) (6) dX2_sleep_3 rfl rfl (fun v5420 hv5420 => ?_)
      refine WQ_icmp_ge 99 dX2_sleep_5 rfl (fun c5420 => ?_) (fun c5420 => ?_)
      · exact WP_vret dX2_sleep_99 rfl ⟨⟨hI5415, rfl, fiI5415, fjJ5416⟩, rfl⟩
      · refine WP_aload_n dX2_sleep_8 rfl ?_
        refine WP_getr dX2_sleep_9 fX2_22 rfl (lyx_is hy 43 2 rfl) (rfx hr 43 5 46 (by decide)) ?_
        refine WP_iload_n dX2_sleep_12 rfl ?_
        refine WQ_laldu dX2_sleep_13 (lyx_is hy 46 14 rfl) (lyx_n hy 46 6 rfl) (by omega) (by omega) (fun l5422 => ?_)
        refine WP_lstore (ls' := [(0, _), (1, _), (2, _), (3, _), (4, _)]) dX2_sleep_14 (by decide) rfl ?_
        refine WP_iload_n dX2_sleep_16 rfl ?_
        refine WQ_bipush (6) (6) dX2_sleep_17 rfl rfl (fun v5423 hv5423 => ?_)
        refine WQ_imulk (6) dX2_sleep_19 hv5423 (by omega) (by omega) (fun v5424 hv5424 => ?_)
        refine WP_aload_n dX2_sleep_20 rfl ?_
        refine WP_getr dX2_sleep_21 fX2_32 rfl (lyx_is hy 43 2 rfl) (rfx hr 43 2 5 (by decide)) ?_
        refine WP_getr dX2_sleep_24 fX2_113 rfl (lyx_is hy 5 0 rfl) (rfx hr 5 5 26 (by decide)) ?_
        refine WP_iload_n dX2_sleep_27 rfl ?_
        refine WQ_iald dX2_sleep_28 (lyx_is hy 26 13 rfl) (lyx_n hy 26 6 rfl) (by omega) (by omega) (fun q hq => BT_get hI5415.1 26 0 6 (0) (0) (5) (by decide) q (Nat.zero_le _) hq) (fun v5425 av5425 bv5425 ev5425 => ?_)
        clear ev5425
        refine WQ_iadd dX2_sleep_29 (by omega) (by omega) (fun v5426 hv5426 => ?_)
        refine WP_istore (ls' := [(0, _), (1, _), (2, _), (3, _), (4, _), (6, _)]) dX2_sleep_30 (by decide) rfl ?_
        refine WQ_iconst (0) (0) dX2_sleep_32 rfl rfl (fun v5427 hv5427 => ?_)
        refine WP_istore (ls' := [(0, _), (1, _), (2, _), (3, _), (4, _), (6, _), (7, _)]) dX2_sleep_33 (by decide) rfl ?_
        have lp35_5430 : ∀ (mz : Nat) (i5428 : Int32) (I5429 : pI) (J5430 : pJ), XI g n L I5429 → fz 74 g [] I I5429 → fz 74 g [45] J J5430 → 0 ≤ i5428.toInt → i5428.toInt ≤ 61 → (62 - i5428.toInt).toNat < mz → WP g mX2_sleep 35 [(0, .ref (ad g 43)), (1, .int da), (2, .int ah), (3, .int i5414), (4, .long l5422), (6, .int v5426), (7, .int i5428)] [] I5429 J5430 R (fun r I' J' R' => (XI g n L I' ∧ R' = R ∧ fz 74 g [] I I' ∧ fz 74 g [45] J J') ∧ r = none) := by
          intro mz
          induction mz with
          | zero =>
            intro i5428 I5429 J5430 hI5429 fiI5429 fjJ5430 ai5428 bi5428 hmlp35_5430
            exact absurd hmlp35_5430 (Nat.not_lt_zero _)
          | succ mz ihlp35_5430 =>
            intro i5428 I5429 J5430 hI5429 fiI5429 fjJ5430 ai5428 bi5428 hmlp35_5430
            have e5432 : I5429 (ad g 1) 1 = L := hI5429.2
            have b5433 := BT_get hI5429.1 1 1 2 (0) (0) (900) (by decide) 1 (by decide) (by decide)
            rw [e5432] at b5433
            refine WP_iload dX2_sleep_35 rfl ?_
            refine WQ_bipush (61) (61) dX2_sleep_37 rfl rfl (fun v5434 hv5434 => ?_)
            refine WQ_icmp_ge 93 dX2_sleep_39 rfl (fun c5434 => ?_) (fun c5434 => ?_)
            · refine WP_iinc (ls' := [(0, _), (1, _), (2, _), (3, _), (4, _), (6, _), (7, _)]) dX2_sleep_93 rfl (by decide) rfl ?_
              have hv5436 : (i5414 + Int32.ofInt (1)).toInt = i5414.toInt + (1) := ia_n rfl (by omega) (by omega)
              generalize i5414 + Int32.ofInt (1) = v5436 at hv5436 ⊢
              refine WP_goto 2 dX2_sleep_96 rfl ?_
              exact WP_sub (fc rfl (fc rfl (fc rfl (fc rfl fn)))) (ihlp2_5416 v5436 I5429 J5430 hI5429 fiI5429 fjJ5430 (by omega) (by omega) (by omega))
            · refine WP_lload dX2_sleep_42 rfl ?_
              refine WP_iload dX2_sleep_44 rfl ?_
              refine WQ_lushr dX2_sleep_46 (fun l5437 => ?_)
              refine WP_lconst (0) dX2_sleep_47 rfl ?_
              obtain ⟨l5438, hl5438, el5438⟩ : ∃ v : Int64, v.toInt = 0 ∧ (0 : Int64) = v := ⟨_, rfl, rfl⟩
              rw [el5438]; clear el5438
              refine WQ_lcmpu dX2_sleep_48 (fun v5439 => ?_)
              refine WX_if_eq 93 dX2_sleep_49 rfl ?_ ?_
              · refine WP_iinc (ls' := [(0, _), (1, _), (2, _), (3, _), (4, _), (6, _), (7, _)]) dX2_sleep_93 rfl (by decide) rfl ?_
                have hv5440 : (i5414 + Int32.ofInt (1)).toInt = i5414.toInt + (1) := ia_n rfl (by omega) (by omega)
                generalize i5414 + Int32.ofInt (1) = v5440 at hv5440 ⊢
                refine WP_goto 2 dX2_sleep_96 rfl ?_
                exact WP_sub (fc rfl (fc rfl (fc rfl (fc rfl fn)))) (ihlp2_5416 v5440 I5429 J5430 hI5429 fiI5429 fjJ5430 (by omega) (by omega) (by omega))
              · refine WP_lload dX2_sleep_52 rfl ?_
                refine WP_iload dX2_sleep_54 rfl ?_
                refine WQ_lushr dX2_sleep_56 (fun l5441 => ?_)
                refine WP_lconst (1) dX2_sleep_57 rfl ?_
                obtain ⟨l5442, hl5442, el5442⟩ : ∃ v : Int64, v.toInt = 1 ∧ (1 : Int64) = v := ⟨_, rfl, rfl⟩
                rw [el5442]; clear el5442
                refine WQ_land dX2_sleep_58 (fun l5443 => ?_)
                refine WP_lconst (0) dX2_sleep_59 rfl ?_
                obtain ⟨l5444, hl5444, el5444⟩ : ∃ v : Int64, v.toInt = 0 ∧ (0 : Int64) = v := ⟨_, rfl, rfl⟩
                rw [el5444]; clear el5444
                refine WQ_lcmpu dX2_sleep_60 (fun v5445 => ?_)
                refine WX_if_eq 87 dX2_sleep_61 rfl ?_ ?_
                · refine WP_iinc (ls' := [(0, _), (1, _), (2, _), (3, _), (4, _), (6, _), (7, _)]) dX2_sleep_87 rfl (by decide) rfl ?_
                  have hv5446 : (i5428 + Int32.ofInt (1)).toInt = i5428.toInt + (1) := ia_n rfl (by omega) (by omega)
                  generalize i5428 + Int32.ofInt (1) = v5446 at hv5446 ⊢
                  refine WP_goto 35 dX2_sleep_90 rfl ?_
                  exact WP_sub (fc rfl (fc rfl (fc rfl (fc rfl (fc rfl (fc rfl (fc rfl fn))))))) (ihlp35_5430 v5446 I5429 J5430 hI5429 fiI5429 fjJ5430 (by omega) (by omega) (by omega))
                · refine WP_aload_n dX2_sleep_64 rfl ?_
                  refine WP_getr dX2_sleep_65 fX2_18 rfl (lyx_is hy 43 2 rfl) (rfx hr 43 4 45 (by decide)) ?_
                  refine WP_iload dX2_sleep_68 rfl ?_
                  refine WP_dup2 dX2_sleep_70 rfl rfl ?_
                  refine WQ_laldu dX2_sleep_71 (lyx_is hy 45 14 rfl) (lyx_n hy 45 168 rfl) (by omega) (by omega) (fun l5447 => ?_)
                  refine WP_lconst (1) dX2_sleep_72 rfl ?_
                  obtain ⟨l5448, hl5448, el5448⟩ : ∃ v : Int64, v.toInt = 1 ∧ (1 : Int64) = v := ⟨_, rfl, rfl⟩
                  rw [el5448]; clear el5448
                  refine WP_aload_n dX2_sleep_73 rfl ?_
                  refine WP_getr dX2_sleep_74 fX2_32 rfl (lyx_is hy 43 2 rfl) (rfx hr 43 2 5 (by decide)) ?_
                  refine WP_iload dX2_sleep_77 rfl ?_
                  refine WP_iload_n dX2_sleep_79 rfl ?_
                  refine WP_iload_n dX2_sleep_80 rfl ?_
                  refine WP_callV3 (k := 0) dX2_sleep_81 ⟨⟨⟨by decide, by decide⟩, zX0_coinsBehind⟩, lX2_116, by decide, rfl, vX0_coinsBehind.1, vX0_coinsBehind.2⟩ (lyx_is hy 5 0 rfl) (sx_coinsBehind hy hr hI5429 i5428 i5414 da (by omega) (by omega) (by omega) (by omega) (by omega) (by omega)) (Nat.le_of_ble_eq_true rfl) ?_
                  intro r Ia Ja Ra hq
                  obtain ⟨⟨ea, eb, ec⟩, v5449, rfl, av5449, bv5449⟩ := hq
                  show WP _ _ _ _ (.int _ :: _) _ _ _ _
                  rw [ea, eb, ec]
                  clear ea eb ec Ia Ja Ra
                  refine WQ_lshl dX2_sleep_84 (fun l5450 => ?_)
                  refine WQ_lor dX2_sleep_85 (fun l5451 => ?_)
                  refine WQ_last dX2_sleep_86 (lyx_is hy 45 14 rfl) (lyx_n hy 45 168 rfl) (by omega) (by omega) (fun J5452 eJ5452 => ?_)
                  have fr5453 : fz 74 g [45] J J5452 := by rw [eJ5452]; exact fzx_pp hy fjJ5430 (by decide) (by decide)
                  clear eJ5452
                  refine WP_iinc (ls' := [(0, _), (1, _), (2, _), (3, _), (4, _), (6, _), (7, _)]) dX2_sleep_87 rfl (by decide) rfl ?_
                  have hv5454 : (i5428 + Int32.ofInt (1)).toInt = i5428.toInt + (1) := ia_n rfl (by omega) (by omega)
                  generalize i5428 + Int32.ofInt (1) = v5454 at hv5454 ⊢
                  refine WP_goto 35 dX2_sleep_90 rfl ?_
                  exact WP_sub (fc rfl (fc rfl (fc rfl (fc rfl (fc rfl (fc rfl (fc rfl fn))))))) (ihlp35_5430 v5454 I5429 J5452 hI5429 fiI5429 fr5453 (by omega) (by omega) (by omega))
        exact WP_sub (fc rfl (fc rfl (fc rfl (fc rfl (fc rfl (fc rfl (fc rfl fn))))))) (lp35_5430 _ v5427 I5415 J5416 hI5415 fiI5415 fjJ5416 (by omega) (by omega) (Nat.lt_succ_self _))
  exact WP_sub (fc rfl (fc rfl (fc rfl (fc rfl fn)))) (lp2_5416 _ v5413 I J hI fr0 frj0 (by omega) (by omega) (Nat.lt_succ_self _))
set_option maxHeartbeats 4000000 in
set_option maxRecDepth 100000 in
theorem sx_note {g : GG} {n : Int} {L : Int32} (hy : LyX g)  {I : pI} {J : pJ} {R : pR} (hr : RfX g R) (hI : XI g n L I) (k : Int32)  : SP g mX3_note [.ref (ad g 3), .int k] I J R (fun r I' J' R' => (XI g n L I' ∧ R' = R ∧ fz 74 g [3] I I' ∧ fz 74 g [] J J') ∧ r = none) := by
  refine SP_of ⟨by decide, rfl⟩ (Nat.le_of_ble_eq_true rfl) ?_
  have e5455 : I (ad g 1) 1 = L := hI.2
  have b5456 := BT_get hI.1 1 1 2 (0) (0) (900) (by decide) 1 (by decide) (by decide)
  rw [e5455] at b5456
  have fr0 : fz 74 g [3] I I := fz_rf
  have frj0 : fz 74 g [] J J := fz_rf
  refine WP_aload_n dX3_note_0 rfl ?_
  refine WP_iload_n dX3_note_1 rfl ?_
  refine WQ_puti dX3_note_2 fX3_19 rfl rfl (lyx_is hy 3 3 rfl) (fun I5457 eI5457 => ?_)
  have hI5457 : XI g n L I5457 := by rw [eI5457]; exact (xi_f0 hy hI (c := 3) (by decide) (Or.inl (by decide)) (by decide))
  have e5458 : I5457 (ad g 1) 1 = L := by rw [eI5457, pp_ne _ _ (Or.inl (lyx_ne hy (by decide) (by decide) (by decide)))]; exact e5455
  have e5459 : I5457 (ad g 3) 0 = k := by rw [eI5457, pp_self]
  have fr5460 : fz 74 g [3] I I5457 := by rw [eI5457]; exact fzx_pp hy fr0 (by decide) (by decide)
  clear eI5457
  refine WP_aload_n dX3_note_5 rfl ?_
  refine WP_iload_n dX3_note_6 rfl ?_
  have jn21_5463 : ∀ (v5463 : Int32), -1 ≤ v5463.toInt → v5463.toInt ≤ 900 → WP g mX3_note 21 [(0, .ref (ad g 3)), (1, .int k)] [.int v5463, .ref (ad g 3)] I5457 J R (fun r I' J' R' => (XI g n L I' ∧ R' = R ∧ fz 74 g [3] I I' ∧ fz 74 g [] J J') ∧ r = none) := by
    intro v5463 av5463 bv5463
    refine WQ_puti dX3_note_21 fX3_23 rfl rfl (lyx_is hy 3 3 rfl) (fun I5465 eI5465 => ?_)
    have hI5465 : XI g n L I5465 := by rw [eI5465]; exact (xi_f0 hy hI5457 (c := 3) (by decide) (Or.inl (by decide)) (by decide))
    have e5466 : I5465 (ad g 1) 1 = L := by rw [eI5465, pp_ne _ _ (Or.inl (lyx_ne hy (by decide) (by decide) (by decide)))]; exact e5458
    have e5467 : I5465 (ad g 3) 0 = k := by rw [eI5465, pp_ne _ _ (Or.inr (by decide))]; exact e5459
    have e5468 : I5465 (ad g 3) 1 = v5463 := by rw [eI5465, pp_self]
    have fr5469 : fz 74 g [3] I I5465 := by rw [eI5465]; exact fzx_pp hy fr5460 (by decide) (by decide)
    clear eI5465
    exact WP_vret dX3_note_24 rfl ⟨⟨hI5465, rfl, fr5469, frj0⟩, rfl⟩
  refine WX_if_ne 14 dX3_note_7 rfl ?_ ?_
  · refine WP_aload_n dX3_note_14 rfl ?_
    refine WP_getr dX3_note_15 fX3_15 rfl (lyx_is hy 3 3 rfl) (rfx hr 3 2 1 (by decide)) ?_
    refine WQ_geti dX3_note_18 fX3_69 rfl (lyx_is hy 1 5 rfl) (BT_get hI5457.1 1 3 4 (0) (0) (900) (by decide) 3 (by decide) (by decide)) (fun v5470 ev5470 av5470 bv5470 => ?_)
    exact WP_sub (fc rfl (fc rfl fn)) (jn21_5463 v5470 (by omega) (by omega))
  · refine WQ_iconst (-1) (-1) dX3_note_10 rfl rfl (fun v5471 hv5471 => ?_)
    refine WP_goto 21 dX3_note_11 rfl ?_
    exact WP_sub (fc rfl (fc rfl fn)) (jn21_5463 v5471 (by omega) (by omega))
set_option maxHeartbeats 4000000 in
set_option maxRecDepth 100000 in
theorem sx_leastOf {g : GG} {n : Int} {L : Int32} (hy : LyX g)  {I : pI} {J : pJ} {R : pR} (hr : RfX g R) (hI : XI g n L I) (pa : Int32)  : SP g mX3_leastOf [.int pa] I J R (fun r I' J' R' => (I' = I ∧ J' = J ∧ R' = R) ∧ ∃ v : Int32, r = some (.int v) ∧ 0 ≤ v.toInt ∧ v.toInt ≤ 1) := by
  refine SP_of ⟨by decide, rfl⟩ (Nat.le_of_ble_eq_true rfl) ?_
  have e5472 : I (ad g 1) 1 = L := hI.2
  have b5473 := BT_get hI.1 1 1 2 (0) (0) (900) (by decide) 1 (by decide) (by decide)
  rw [e5472] at b5473
  refine WP_iload_n dX3_leastOf_0 rfl ?_
  refine WQ_bipush (80) (80) dX3_leastOf_1 rfl rfl (fun v5474 hv5474 => ?_)
  have jn29_5483 : ∀ (v5483 : Int32), 0 ≤ v5483.toInt → v5483.toInt ≤ 1 → WP g mX3_leastOf 29 [(0, .int pa)] [.int v5483] I J R (fun r I' J' R' => (I' = I ∧ J' = J ∧ R' = R) ∧ ∃ v : Int32, r = some (.int v) ∧ 0 ≤ v.toInt ∧ v.toInt ≤ 1) := by
    intro v5483 av5483 bv5483
    exact WP_iret dX3_leastOf_29 rfl ⟨⟨rfl, rfl, rfl⟩, _, rfl, by omega, by omega⟩
  refine WX_icmp_eq 24 dX3_leastOf_3 rfl ?_ ?_
  · refine WQ_iconst (1) (1) dX3_leastOf_24 rfl rfl (fun v5485 hv5485 => ?_)
    refine WP_goto 29 dX3_leastOf_25 rfl ?_
    exact WP_sub (fc rfl fn) (jn29_5483 v5485 (by omega) (by omega))
  · refine WP_iload_n dX3_leastOf_6 rfl ?_
    refine WQ_bipush (69) (69) dX3_leastOf_7 rfl rfl (fun v5486 hv5486 => ?_)
    refine WX_icmp_eq 24 dX3_leastOf_9 rfl ?_ ?_
    · refine WQ_iconst (1) (1) dX3_leastOf_24 rfl rfl (fun v5487 hv5487 => ?_)
      refine WP_goto 29 dX3_leastOf_25 rfl ?_
      exact WP_sub (fc rfl fn) (jn29_5483 v5487 (by omega) (by omega))
    · refine WP_iload_n dX3_leastOf_12 rfl ?_
      refine WQ_bipush (85) (85) dX3_leastOf_13 rfl rfl (fun v5488 hv5488 => ?_)
      refine WX_icmp_eq 24 dX3_leastOf_15 rfl ?_ ?_
      · refine WQ_iconst (1) (1) dX3_leastOf_24 rfl rfl (fun v5489 hv5489 => ?_)
        refine WP_goto 29 dX3_leastOf_25 rfl ?_
        exact WP_sub (fc rfl fn) (jn29_5483 v5489 (by omega) (by omega))
      · refine WP_iload_n dX3_leastOf_18 rfl ?_
        refine WQ_bipush (73) (73) dX3_leastOf_19 rfl rfl (fun v5490 hv5490 => ?_)
        refine WX_icmp_ne 28 dX3_leastOf_21 rfl ?_ ?_
        · refine WQ_iconst (0) (0) dX3_leastOf_28 rfl rfl (fun v5491 hv5491 => ?_)
          exact WP_sub (fc rfl fn) (jn29_5483 v5491 (by omega) (by omega))
        · refine WQ_iconst (1) (1) dX3_leastOf_24 rfl rfl (fun v5492 hv5492 => ?_)
          refine WP_goto 29 dX3_leastOf_25 rfl ?_
          exact WP_sub (fc rfl fn) (jn29_5483 v5492 (by omega) (by omega))
set_option maxHeartbeats 4000000 in
set_option maxRecDepth 100000 in
theorem sx_mostOf {g : GG} {n : Int} {L : Int32} (hy : LyX g)  {I : pI} {J : pJ} {R : pR} (hr : RfX g R) (hI : XI g n L I) (pa : Int32)  : SP g mX3_mostOf [.int pa] I J R (fun r I' J' R' => (I' = I ∧ J' = J ∧ R' = R) ∧ ∃ v : Int32, r = some (.int v) ∧ 0 ≤ v.toInt ∧ v.toInt ≤ 1000 ∧ ((pa.toInt = 68 → v.toInt = 6) ∧ (pa.toInt = 76 → v.toInt = 900) ∧ (pa.toInt = 80 → v.toInt = 99) ∧ (pa.toInt = 67 → v.toInt = 60) ∧ (pa.toInt = 71 → v.toInt = 9) ∧ (pa.toInt = 69 → v.toInt = 20) ∧ (pa.toInt = 77 → v.toInt = 999) ∧ (pa.toInt = 85 → v.toInt = 3) ∧ (pa.toInt = 73 → v.toInt = 127) ∧ (pa.toInt = 86 → v.toInt = 99))) := by
  refine SP_of ⟨by decide, rfl⟩ (Nat.le_of_ble_eq_true rfl) ?_
  have e5493 : I (ad g 1) 1 = L := hI.2
  have b5494 := BT_get hI.1 1 1 2 (0) (0) (900) (by decide) 1 (by decide) (by decide)
  rw [e5493] at b5494
  refine WP_iload_n dX3_mostOf_0 rfl ?_
  refine WP_tab 124 dX3_mostOf_1 rfl rfl (fun c5494 => ?_) (fun j off c5494 hj => ?_) (by decide)
  · refine WQ_bipush (99) (99) dX3_mostOf_124 rfl rfl (fun v5496 hv5496 => ?_)
    exact WP_iret dX3_mostOf_126 rfl ⟨⟨rfl, rfl, rfl⟩, _, rfl, by omega, by omega, by omega⟩
  · have hlt : j < 19 := by have := (Array.getElem?_eq_some_iff.mp hj).1; simpa using this
    have hcs : (j = 0 ∧ off = 105) ∨ (j = 1 ∧ off = 91) ∨ (j = 2 ∧ off = 111) ∨ (j = 3 ∧ off = 123) ∨ (j = 4 ∧ off = 108) ∨ (j = 5 ∧ off = 101) ∨ (j = 6 ∧ off = 120) ∨ (j = 7 ∧ off = 123) ∨ (j = 8 ∧ off = 123) ∨ (j = 9 ∧ off = 94) ∨ (j = 10 ∧ off = 114) ∨ (j = 11 ∧ off = 123) ∨ (j = 12 ∧ off = 123) ∨ (j = 13 ∧ off = 98) ∨ (j = 14 ∧ off = 123) ∨ (j = 15 ∧ off = 123) ∨ (j = 16 ∧ off = 123) ∨ (j = 17 ∧ off = 123) ∨ (j = 18 ∧ off = 118) := by
      match j, hlt, hj with
      | 0, _, hj => exact Or.inl ⟨rfl, (Option.some.inj hj).symm⟩
      | 1, _, hj => exact Or.inr (Or.inl ⟨rfl, (Option.some.inj hj).symm⟩)
      | 2, _, hj => exact Or.inr (Or.inr (Or.inl ⟨rfl, (Option.some.inj hj).symm⟩))
      | 3, _, hj => exact Or.inr (Or.inr (Or.inr (Or.inl ⟨rfl, (Option.some.inj hj).symm⟩)))
      | 4, _, hj => exact Or.inr (Or.inr (Or.inr (Or.inr (Or.inl ⟨rfl, (Option.some.inj hj).symm⟩))))
      | 5, _, hj => exact Or.inr (Or.inr (Or.inr (Or.inr (Or.inr (Or.inl ⟨rfl, (Option.some.inj hj).symm⟩)))))
      | 6, _, hj => exact Or.inr (Or.inr (Or.inr (Or.inr (Or.inr (Or.inr (Or.inl ⟨rfl, (Option.some.inj hj).symm⟩))))))
      | 7, _, hj => exact Or.inr (Or.inr (Or.inr (Or.inr (Or.inr (Or.inr (Or.inr (Or.inl ⟨rfl, (Option.some.inj hj).symm⟩)))))))
      | 8, _, hj => exact Or.inr (Or.inr (Or.inr (Or.inr (Or.inr (Or.inr (Or.inr (Or.inr (Or.inl ⟨rfl, (Option.some.inj hj).symm⟩))))))))
      | 9, _, hj => exact Or.inr (Or.inr (Or.inr (Or.inr (Or.inr (Or.inr (Or.inr (Or.inr (Or.inr (Or.inl ⟨rfl, (Option.some.inj hj).symm⟩)))))))))
      | 10, _, hj => exact Or.inr (Or.inr (Or.inr (Or.inr (Or.inr (Or.inr (Or.inr (Or.inr (Or.inr (Or.inr (Or.inl ⟨rfl, (Option.some.inj hj).symm⟩))))))))))
      | 11, _, hj => exact Or.inr (Or.inr (Or.inr (Or.inr (Or.inr (Or.inr (Or.inr (Or.inr (Or.inr (Or.inr (Or.inr (Or.inl ⟨rfl, (Option.some.inj hj).symm⟩)))))))))))
      | 12, _, hj => exact Or.inr (Or.inr (Or.inr (Or.inr (Or.inr (Or.inr (Or.inr (Or.inr (Or.inr (Or.inr (Or.inr (Or.inr (Or.inl ⟨rfl, (Option.some.inj hj).symm⟩))))))))))))
      | 13, _, hj => exact Or.inr (Or.inr (Or.inr (Or.inr (Or.inr (Or.inr (Or.inr (Or.inr (Or.inr (Or.inr (Or.inr (Or.inr (Or.inr (Or.inl ⟨rfl, (Option.some.inj hj).symm⟩)))))))))))))
      | 14, _, hj => exact Or.inr (Or.inr (Or.inr (Or.inr (Or.inr (Or.inr (Or.inr (Or.inr (Or.inr (Or.inr (Or.inr (Or.inr (Or.inr (Or.inr (Or.inl ⟨rfl, (Option.some.inj hj).symm⟩))))))))))))))
      | 15, _, hj => exact Or.inr (Or.inr (Or.inr (Or.inr (Or.inr (Or.inr (Or.inr (Or.inr (Or.inr (Or.inr (Or.inr (Or.inr (Or.inr (Or.inr (Or.inr (Or.inl ⟨rfl, (Option.some.inj hj).symm⟩)))))))))))))))
      | 16, _, hj => exact Or.inr (Or.inr (Or.inr (Or.inr (Or.inr (Or.inr (Or.inr (Or.inr (Or.inr (Or.inr (Or.inr (Or.inr (Or.inr (Or.inr (Or.inr (Or.inr (Or.inl ⟨rfl, (Option.some.inj hj).symm⟩))))))))))))))))
      | 17, _, hj => exact Or.inr (Or.inr (Or.inr (Or.inr (Or.inr (Or.inr (Or.inr (Or.inr (Or.inr (Or.inr (Or.inr (Or.inr (Or.inr (Or.inr (Or.inr (Or.inr (Or.inr (Or.inl ⟨rfl, (Option.some.inj hj).symm⟩)))))))))))))))))
      | 18, _, hj => exact Or.inr (Or.inr (Or.inr (Or.inr (Or.inr (Or.inr (Or.inr (Or.inr (Or.inr (Or.inr (Or.inr (Or.inr (Or.inr (Or.inr (Or.inr (Or.inr (Or.inr (Or.inr (⟨rfl, (Option.some.inj hj).symm⟩))))))))))))))))))
    clear hj hlt
    rcases hcs with ⟨rfl, rfl⟩ | ⟨rfl, rfl⟩ | ⟨rfl, rfl⟩ | ⟨rfl, rfl⟩ | ⟨rfl, rfl⟩ | ⟨rfl, rfl⟩ | ⟨rfl, rfl⟩ | ⟨rfl, rfl⟩ | ⟨rfl, rfl⟩ | ⟨rfl, rfl⟩ | ⟨rfl, rfl⟩ | ⟨rfl, rfl⟩ | ⟨rfl, rfl⟩ | ⟨rfl, rfl⟩ | ⟨rfl, rfl⟩ | ⟨rfl, rfl⟩ | ⟨rfl, rfl⟩ | ⟨rfl, rfl⟩ | ⟨rfl, rfl⟩
    · show WP _ _ 106 _ _ _ _ _ _
      refine WQ_bipush (60) (60) dX3_mostOf_106 rfl rfl (fun v5497 hv5497 => ?_)
      exact WP_iret dX3_mostOf_108 rfl ⟨⟨rfl, rfl, rfl⟩, _, rfl, by omega, by omega, by omega⟩
    · show WP _ _ 92 _ _ _ _ _ _
      refine WQ_bipush (6) (6) dX3_mostOf_92 rfl rfl (fun v5498 hv5498 => ?_)
      exact WP_iret dX3_mostOf_94 rfl ⟨⟨rfl, rfl, rfl⟩, _, rfl, by omega, by omega, by omega⟩
    · show WP _ _ 112 _ _ _ _ _ _
      refine WQ_bipush (20) (20) dX3_mostOf_112 rfl rfl (fun v5499 hv5499 => ?_)
      exact WP_iret dX3_mostOf_114 rfl ⟨⟨rfl, rfl, rfl⟩, _, rfl, by omega, by omega, by omega⟩
    · show WP _ _ 124 _ _ _ _ _ _
      refine WQ_bipush (99) (99) dX3_mostOf_124 rfl rfl (fun v5500 hv5500 => ?_)
      exact WP_iret dX3_mostOf_126 rfl ⟨⟨rfl, rfl, rfl⟩, _, rfl, by omega, by omega, by omega⟩
    · show WP _ _ 109 _ _ _ _ _ _
      refine WQ_bipush (9) (9) dX3_mostOf_109 rfl rfl (fun v5501 hv5501 => ?_)
      exact WP_iret dX3_mostOf_111 rfl ⟨⟨rfl, rfl, rfl⟩, _, rfl, by omega, by omega, by omega⟩
    · show WP _ _ 102 _ _ _ _ _ _
      refine WQ_sipush (1000) (1000) dX3_mostOf_102 rfl rfl (fun v5502 hv5502 => ?_)
      exact WP_iret dX3_mostOf_105 rfl ⟨⟨rfl, rfl, rfl⟩, _, rfl, by omega, by omega, by omega⟩
    · show WP _ _ 121 _ _ _ _ _ _
      refine WQ_bipush (127) (127) dX3_mostOf_121 rfl rfl (fun v5503 hv5503 => ?_)
      exact WP_iret dX3_mostOf_123 rfl ⟨⟨rfl, rfl, rfl⟩, _, rfl, by omega, by omega, by omega⟩
    · show WP _ _ 124 _ _ _ _ _ _
      refine WQ_bipush (99) (99) dX3_mostOf_124 rfl rfl (fun v5504 hv5504 => ?_)
      exact WP_iret dX3_mostOf_126 rfl ⟨⟨rfl, rfl, rfl⟩, _, rfl, by omega, by omega, by omega⟩
    · show WP _ _ 124 _ _ _ _ _ _
      refine WQ_bipush (99) (99) dX3_mostOf_124 rfl rfl (fun v5505 hv5505 => ?_)
      exact WP_iret dX3_mostOf_126 rfl ⟨⟨rfl, rfl, rfl⟩, _, rfl, by omega, by omega, by omega⟩
    · show WP _ _ 95 _ _ _ _ _ _
      refine WQ_sipush (900) (900) dX3_mostOf_95 rfl rfl (fun v5506 hv5506 => ?_)
      exact WP_iret dX3_mostOf_98 rfl ⟨⟨rfl, rfl, rfl⟩, _, rfl, by omega, by omega, by omega⟩
    · show WP _ _ 115 _ _ _ _ _ _
      refine WQ_sipush (999) (999) dX3_mostOf_115 rfl rfl (fun v5507 hv5507 => ?_)
      exact WP_iret dX3_mostOf_118 rfl ⟨⟨rfl, rfl, rfl⟩, _, rfl, by omega, by omega, by omega⟩
    · show WP _ _ 124 _ _ _ _ _ _
      refine WQ_bipush (99) (99) dX3_mostOf_124 rfl rfl (fun v5508 hv5508 => ?_)
      exact WP_iret dX3_mostOf_126 rfl ⟨⟨rfl, rfl, rfl⟩, _, rfl, by omega, by omega, by omega⟩
    · show WP _ _ 124 _ _ _ _ _ _
      refine WQ_bipush (99) (99) dX3_mostOf_124 rfl rfl (fun v5509 hv5509 => ?_)
      exact WP_iret dX3_mostOf_126 rfl ⟨⟨rfl, rfl, rfl⟩, _, rfl, by omega, by omega, by omega⟩
    · show WP _ _ 99 _ _ _ _ _ _
      refine WQ_bipush (99) (99) dX3_mostOf_99 rfl rfl (fun v5510 hv5510 => ?_)
      exact WP_iret dX3_mostOf_101 rfl ⟨⟨rfl, rfl, rfl⟩, _, rfl, by omega, by omega, by omega⟩
    · show WP _ _ 124 _ _ _ _ _ _
      refine WQ_bipush (99) (99) dX3_mostOf_124 rfl rfl (fun v5511 hv5511 => ?_)
      exact WP_iret dX3_mostOf_126 rfl ⟨⟨rfl, rfl, rfl⟩, _, rfl, by omega, by omega, by omega⟩
    · show WP _ _ 124 _ _ _ _ _ _
      refine WQ_bipush (99) (99) dX3_mostOf_124 rfl rfl (fun v5512 hv5512 => ?_)
      exact WP_iret dX3_mostOf_126 rfl ⟨⟨rfl, rfl, rfl⟩, _, rfl, by omega, by omega, by omega⟩
    · show WP _ _ 124 _ _ _ _ _ _
      refine WQ_bipush (99) (99) dX3_mostOf_124 rfl rfl (fun v5513 hv5513 => ?_)
      exact WP_iret dX3_mostOf_126 rfl ⟨⟨rfl, rfl, rfl⟩, _, rfl, by omega, by omega, by omega⟩
    · show WP _ _ 124 _ _ _ _ _ _
      refine WQ_bipush (99) (99) dX3_mostOf_124 rfl rfl (fun v5514 hv5514 => ?_)
      exact WP_iret dX3_mostOf_126 rfl ⟨⟨rfl, rfl, rfl⟩, _, rfl, by omega, by omega, by omega⟩
    · show WP _ _ 119 _ _ _ _ _ _
      refine WQ_iconst (3) (3) dX3_mostOf_119 rfl rfl (fun v5515 hv5515 => ?_)
      exact WP_iret dX3_mostOf_120 rfl ⟨⟨rfl, rfl, rfl⟩, _, rfl, by omega, by omega, by omega⟩
set_option maxHeartbeats 4000000 in
set_option maxRecDepth 100000 in
theorem sx_isLoss_6 {g : GG} {n : Int} {L : Int32} (hy : LyX g)  {I : pI} {J : pJ} {R : pR} (hr : RfX g R) (hI : XI g n L I)   (hb : (I (ad g 4) 0).toInt ≤ 3 ∧ (I (ad g 4) 2).toInt ≤ 6) : SP g mX7_isLoss [.ref (ad g 6), .ref (ad g 4)] I J R (fun r I' J' R' => (I' = I ∧ J' = J ∧ R' = R) ∧ ∃ v : Int32, r = some (.int v) ∧ 0 ≤ v.toInt ∧ v.toInt ≤ 1) := by
  refine SP_of ⟨by decide, rfl⟩ (Nat.le_of_ble_eq_true rfl) ?_
  have e5516 : I (ad g 1) 1 = L := hI.2
  have b5517 := BT_get hI.1 1 1 2 (0) (0) (900) (by decide) 1 (by decide) (by decide)
  rw [e5516] at b5517
  obtain ⟨w5518, ew5518⟩ : ∃ w : Int32, I (ad g 4) 0 = w := ⟨_, rfl⟩
  have bw5518 := BT_get hI.1 4 0 5 (0) (0) (1000) (by decide) 0 (by decide) (by decide)
  rw [ew5518] at bw5518
  obtain ⟨w5519, ew5519⟩ : ∃ w : Int32, I (ad g 4) 2 = w := ⟨_, rfl⟩
  have bw5519 := BT_get hI.1 4 0 5 (0) (0) (1000) (by decide) 2 (by decide) (by decide)
  rw [ew5519] at bw5519
  rw [ew5518, ew5519] at hb
  refine WP_aload_n dX7_isLoss_0 rfl ?_
  refine WQ_iconst (2) (2) dX7_isLoss_1 rfl rfl (fun v5520 hv5520 => ?_)
  refine WQ_ialdm (z := 2) dX7_isLoss_2 (lyx_is hy 4 13 rfl) (lyx_n hy 4 5 rfl) hv5520 (by decide) ew5519 ?_
  refine WP_istore_n (ls' := [(0, _), (1, _), (2, _)]) dX7_isLoss_3 (by decide) rfl ?_
  refine WP_aload_n dX7_isLoss_4 rfl ?_
  refine WQ_iconst (0) (0) dX7_isLoss_5 rfl rfl (fun v5522 hv5522 => ?_)
  refine WQ_ialdm (z := 0) dX7_isLoss_6 (lyx_is hy 4 13 rfl) (lyx_n hy 4 5 rfl) hv5522 (by decide) ew5518 ?_
  refine WQ_bipush (7) (7) dX7_isLoss_7 rfl rfl (fun v5524 hv5524 => ?_)
  refine WQ_imulk (7) dX7_isLoss_9 hv5524 (by omega) (by omega) (fun v5525 hv5525 => ?_)
  refine WP_iload_n dX7_isLoss_10 rfl ?_
  refine WQ_iadd dX7_isLoss_11 (by omega) (by omega) (fun v5526 hv5526 => ?_)
  refine WP_istore_n (ls' := [(0, _), (1, _), (2, _), (3, _)]) dX7_isLoss_12 (by decide) rfl ?_
  refine WP_aload_n dX7_isLoss_13 rfl ?_
  refine WP_getr dX7_isLoss_14 fX7_30 rfl (lyx_is hy 6 7 rfl) (rfx hr 6 11 13 (by decide)) ?_
  refine WP_iload_n dX7_isLoss_17 rfl ?_
  refine WQ_iald dX7_isLoss_18 (lyx_is hy 13 13 rfl) (lyx_n hy 13 28 rfl) (by omega) (by omega) (fun q hq => BT_get hI.1 13 0 28 (-1) (0) (2) (by decide) q (Nat.zero_le _) hq) (fun v5527 av5527 bv5527 ev5527 => ?_)
  clear ev5527
  refine WP_aload_n dX7_isLoss_19 rfl ?_
  refine WQ_iconst (1) (1) dX7_isLoss_20 rfl rfl (fun v5528 hv5528 => ?_)
  refine WQ_iald dX7_isLoss_21 (lyx_is hy 4 13 rfl) (lyx_n hy 4 5 rfl) (by omega) (by omega) (fun q hq => BT_get hI.1 4 0 5 (0) (0) (1000) (by decide) q (Nat.zero_le _) hq) (fun v5529 av5529 bv5529 ev5529 => ?_)
  clear ev5529
  refine WQ_icmp_ne 37 dX7_isLoss_22 rfl (fun c5529 => ?_) (fun c5529 => ?_)
  · refine WQ_iconst (1) (1) dX7_isLoss_37 rfl rfl (fun v5531 hv5531 => ?_)
    exact WP_zret dX7_isLoss_38 rfl (nar_z (by omega)) ⟨⟨rfl, rfl, rfl⟩, _, rfl, by omega, by omega⟩
  · refine WP_aload_n dX7_isLoss_25 rfl ?_
    refine WP_getr dX7_isLoss_26 fX7_33 rfl (lyx_is hy 6 7 rfl) (rfx hr 6 12 14 (by decide)) ?_
    refine WP_iload_n dX7_isLoss_29 rfl ?_
    refine WQ_iald dX7_isLoss_30 (lyx_is hy 14 13 rfl) (lyx_n hy 14 28 rfl) (by omega) (by omega) (fun q hq => BT_get hI.1 14 0 28 (0) (0) (3) (by decide) q (Nat.zero_le _) hq) (fun v5532 av5532 bv5532 ev5532 => ?_)
    clear ev5532
    refine WP_aload_n dX7_isLoss_31 rfl ?_
    refine WQ_iconst (3) (3) dX7_isLoss_32 rfl rfl (fun v5533 hv5533 => ?_)
    refine WQ_iald dX7_isLoss_33 (lyx_is hy 4 13 rfl) (lyx_n hy 4 5 rfl) (by omega) (by omega) (fun q hq => BT_get hI.1 4 0 5 (0) (0) (1000) (by decide) q (Nat.zero_le _) hq) (fun v5534 av5534 bv5534 ev5534 => ?_)
    clear ev5534
    refine WQ_icmp_ge 39 dX7_isLoss_34 rfl (fun c5534 => ?_) (fun c5534 => ?_)
    · refine WP_aload_n dX7_isLoss_39 rfl ?_
      refine WP_getr dX7_isLoss_40 fX7_36 rfl (lyx_is hy 6 7 rfl) (rfx hr 6 13 15 (by decide)) ?_
      refine WP_iload_n dX7_isLoss_43 rfl ?_
      refine WQ_iald dX7_isLoss_44 (lyx_is hy 15 13 rfl) (lyx_n hy 15 28 rfl) (by omega) (by omega) (fun q hq => BT_get hI.1 15 0 28 (0) (0) (99) (by decide) q (Nat.zero_le _) hq) (fun v5536 av5536 bv5536 ev5536 => ?_)
      clear ev5536
      refine WP_istore (ls' := [(0, _), (1, _), (2, _), (3, _), (4, _)]) dX7_isLoss_45 (by decide) rfl ?_
      refine WP_aload_n dX7_isLoss_47 rfl ?_
      refine WQ_iconst (4) (4) dX7_isLoss_48 rfl rfl (fun v5537 hv5537 => ?_)
      refine WQ_iald dX7_isLoss_49 (lyx_is hy 4 13 rfl) (lyx_n hy 4 5 rfl) (by omega) (by omega) (fun q hq => BT_get hI.1 4 0 5 (0) (0) (1000) (by decide) q (Nat.zero_le _) hq) (fun v5538 av5538 bv5538 ev5538 => ?_)
      clear ev5538
      refine WP_istore (ls' := [(0, _), (1, _), (2, _), (3, _), (4, _), (5, _)]) dX7_isLoss_50 (by decide) rfl ?_
      refine WP_aload_n dX7_isLoss_52 rfl ?_
      refine WP_getr dX7_isLoss_53 fX7_9 rfl (lyx_is hy 6 7 rfl) (rfx hr 6 5 7 (by decide)) ?_
      refine WP_iload_n dX7_isLoss_56 rfl ?_
      refine WQ_iald dX7_isLoss_57 (lyx_is hy 7 13 rfl) (lyx_n hy 7 7 rfl) (by omega) (by omega) (fun q hq => BT_get hI.1 7 0 7 (0) (0) (900) (by decide) q (Nat.zero_le _) hq) (fun v5539 av5539 bv5539 ev5539 => ?_)
      clear ev5539
      have jn88_5550 : ∀ (v5550 : Int32), 0 ≤ v5550.toInt → v5550.toInt ≤ 1 → WP g mX7_isLoss 88 [(0, .ref (ad g 6)), (1, .ref (ad g 4)), (2, .int w5519), (3, .int v5526), (4, .int v5536), (5, .int v5538)] [.int v5550] I J R (fun r I' J' R' => (I' = I ∧ J' = J ∧ R' = R) ∧ ∃ v : Int32, r = some (.int v) ∧ 0 ≤ v.toInt ∧ v.toInt ≤ 1) := by
        intro v5550 av5550 bv5550
        refine WP_istore (ls' := [(0, _), (1, _), (2, _), (3, _), (4, _), (5, _), (6, _)]) dX7_isLoss_88 (by decide) rfl ?_
        refine WP_iload dX7_isLoss_90 rfl ?_
        refine WP_iload dX7_isLoss_92 rfl ?_
        have jn107_5556 : ∀ (v5556 : Int32), 0 ≤ v5556.toInt → v5556.toInt ≤ 1 → WP g mX7_isLoss 107 [(0, .ref (ad g 6)), (1, .ref (ad g 4)), (2, .int w5519), (3, .int v5526), (4, .int v5536), (5, .int v5538), (6, .int v5550)] [.int v5556] I J R (fun r I' J' R' => (I' = I ∧ J' = J ∧ R' = R) ∧ ∃ v : Int32, r = some (.int v) ∧ 0 ≤ v.toInt ∧ v.toInt ≤ 1) := by
          intro v5556 av5556 bv5556
          exact WP_zret dX7_isLoss_107 rfl (nar_z (by omega)) ⟨⟨rfl, rfl, rfl⟩, _, rfl, by omega, by omega⟩
        refine WQ_icmp_ge 106 dX7_isLoss_94 rfl (fun c5557 => ?_) (fun c5557 => ?_)
        · refine WQ_iconst (0) (0) dX7_isLoss_106 rfl rfl (fun v5559 hv5559 => ?_)
          exact WP_sub (fc rfl (fc rfl (fc rfl (fc rfl (fc rfl (fc rfl (fc rfl fn))))))) (jn107_5556 v5559 (by omega) (by omega))
        · refine WP_iload dX7_isLoss_97 rfl ?_
          refine WQ_if_ne 106 dX7_isLoss_99 rfl (fun c5559 => ?_) (fun c5559 => ?_)
          · refine WQ_iconst (0) (0) dX7_isLoss_106 rfl rfl (fun v5561 hv5561 => ?_)
            exact WP_sub (fc rfl (fc rfl (fc rfl (fc rfl (fc rfl (fc rfl (fc rfl fn))))))) (jn107_5556 v5561 (by omega) (by omega))
          · refine WQ_iconst (1) (1) dX7_isLoss_102 rfl rfl (fun v5562 hv5562 => ?_)
            refine WP_goto 107 dX7_isLoss_103 rfl ?_
            exact WP_sub (fc rfl (fc rfl (fc rfl (fc rfl (fc rfl (fc rfl (fc rfl fn))))))) (jn107_5556 v5562 (by omega) (by omega))
      refine WQ_if_le 87 dX7_isLoss_58 rfl (fun c5562 => ?_) (fun c5562 => ?_)
      · refine WQ_iconst (0) (0) dX7_isLoss_87 rfl rfl (fun v5564 hv5564 => ?_)
        exact WP_sub (fc rfl (fc rfl (fc rfl (fc rfl (fc rfl (fc rfl fn)))))) (jn88_5550 v5564 (by omega) (by omega))
      · refine WP_iload dX7_isLoss_61 rfl ?_
        refine WQ_sipush (1000) (1000) dX7_isLoss_63 rfl rfl (fun v5565 hv5565 => ?_)
        refine WQ_imulk (1000) dX7_isLoss_66 hv5565 (by omega) (by omega) (fun v5566 hv5566 => ?_)
        refine WP_iload dX7_isLoss_67 rfl ?_
        refine WQ_sipush (1000) (1000) dX7_isLoss_69 rfl rfl (fun v5567 hv5567 => ?_)
        refine WP_aload_n dX7_isLoss_72 rfl ?_
        refine WP_getr dX7_isLoss_73 fX7_9 rfl (lyx_is hy 6 7 rfl) (rfx hr 6 5 7 (by decide)) ?_
        refine WP_iload_n dX7_isLoss_76 rfl ?_
        refine WQ_iald dX7_isLoss_77 (lyx_is hy 7 13 rfl) (lyx_n hy 7 7 rfl) (by omega) (by omega) (fun q hq => BT_get hI.1 7 0 7 (0) (0) (900) (by decide) q (Nat.zero_le _) hq) (fun v5568 av5568 bv5568 ev5568 => ?_)
        clear ev5568
        refine WQ_isub dX7_isLoss_78 (by omega) (by omega) (fun v5569 hv5569 => ?_)
        refine WQ_imulb (1000) (1000) dX7_isLoss_79 ⟨by omega, by omega⟩ ⟨by omega, by omega⟩ (by decide) (fun v5570 pv5570 av5570 bv5570 cv5570 => ?_)
        refine WQ_icmp_lt 87 dX7_isLoss_80 rfl (fun c5570 => ?_) (fun c5570 => ?_)
        · refine WQ_iconst (0) (0) dX7_isLoss_87 rfl rfl (fun v5572 hv5572 => ?_)
          exact WP_sub (fc rfl (fc rfl (fc rfl (fc rfl (fc rfl (fc rfl fn)))))) (jn88_5550 v5572 (by omega) (by omega))
        · refine WQ_iconst (1) (1) dX7_isLoss_83 rfl rfl (fun v5573 hv5573 => ?_)
          refine WP_goto 88 dX7_isLoss_84 rfl ?_
          exact WP_sub (fc rfl (fc rfl (fc rfl (fc rfl (fc rfl (fc rfl fn)))))) (jn88_5550 v5573 (by omega) (by omega))
    · refine WQ_iconst (1) (1) dX7_isLoss_37 rfl rfl (fun v5574 hv5574 => ?_)
      exact WP_zret dX7_isLoss_38 rfl (nar_z (by omega)) ⟨⟨rfl, rfl, rfl⟩, _, rfl, by omega, by omega⟩
set_option maxHeartbeats 4000000 in
set_option maxRecDepth 100000 in
theorem sx_isLoss_27 {g : GG} {n : Int} {L : Int32} (hy : LyX g)  {I : pI} {J : pJ} {R : pR} (hr : RfX g R) (hI : XI g n L I)   (hb : (I (ad g 4) 0).toInt ≤ 3 ∧ (I (ad g 4) 2).toInt ≤ 6) : SP g mX7_isLoss [.ref (ad g 27), .ref (ad g 4)] I J R (fun r I' J' R' => (I' = I ∧ J' = J ∧ R' = R) ∧ ∃ v : Int32, r = some (.int v) ∧ 0 ≤ v.toInt ∧ v.toInt ≤ 1) := by
  refine SP_of ⟨by decide, rfl⟩ (Nat.le_of_ble_eq_true rfl) ?_
  have e5575 : I (ad g 1) 1 = L := hI.2
  have b5576 := BT_get hI.1 1 1 2 (0) (0) (900) (by decide) 1 (by decide) (by decide)
  rw [e5575] at b5576
  obtain ⟨w5577, ew5577⟩ : ∃ w : Int32, I (ad g 4) 0 = w := ⟨_, rfl⟩
  have bw5577 := BT_get hI.1 4 0 5 (0) (0) (1000) (by decide) 0 (by decide) (by decide)
  rw [ew5577] at bw5577
  obtain ⟨w5578, ew5578⟩ : ∃ w : Int32, I (ad g 4) 2 = w := ⟨_, rfl⟩
  have bw5578 := BT_get hI.1 4 0 5 (0) (0) (1000) (by decide) 2 (by decide) (by decide)
  rw [ew5578] at bw5578
  rw [ew5577, ew5578] at hb
  refine WP_aload_n dX7_isLoss_0 rfl ?_
  refine WQ_iconst (2) (2) dX7_isLoss_1 rfl rfl (fun v5579 hv5579 => ?_)
  refine WQ_ialdm (z := 2) dX7_isLoss_2 (lyx_is hy 4 13 rfl) (lyx_n hy 4 5 rfl) hv5579 (by decide) ew5578 ?_
  refine WP_istore_n (ls' := [(0, _), (1, _), (2, _)]) dX7_isLoss_3 (by decide) rfl ?_
  refine WP_aload_n dX7_isLoss_4 rfl ?_
  refine WQ_iconst (0) (0) dX7_isLoss_5 rfl rfl (fun v5581 hv5581 => ?_)
  refine WQ_ialdm (z := 0) dX7_isLoss_6 (lyx_is hy 4 13 rfl) (lyx_n hy 4 5 rfl) hv5581 (by decide) ew5577 ?_
  refine WQ_bipush (7) (7) dX7_isLoss_7 rfl rfl (fun v5583 hv5583 => ?_)
  refine WQ_imulk (7) dX7_isLoss_9 hv5583 (by omega) (by omega) (fun v5584 hv5584 => ?_)
  refine WP_iload_n dX7_isLoss_10 rfl ?_
  refine WQ_iadd dX7_isLoss_11 (by omega) (by omega) (fun v5585 hv5585 => ?_)
  refine WP_istore_n (ls' := [(0, _), (1, _), (2, _), (3, _)]) dX7_isLoss_12 (by decide) rfl ?_
  refine WP_aload_n dX7_isLoss_13 rfl ?_
  refine WP_getr dX7_isLoss_14 fX7_30 rfl (lyx_is hy 27 7 rfl) (rfx hr 27 11 34 (by decide)) ?_
  refine WP_iload_n dX7_isLoss_17 rfl ?_
  refine WQ_iald dX7_isLoss_18 (lyx_is hy 34 13 rfl) (lyx_n hy 34 28 rfl) (by omega) (by omega) (fun q hq => BT_get hI.1 34 0 28 (-1) (0) (2) (by decide) q (Nat.zero_le _) hq) (fun v5586 av5586 bv5586 ev5586 => ?_)
  clear ev5586
  refine WP_aload_n dX7_isLoss_19 rfl ?_
  refine WQ_iconst (1) (1) dX7_isLoss_20 rfl rfl (fun v5587 hv5587 => ?_)
  refine WQ_iald dX7_isLoss_21 (lyx_is hy 4 13 rfl) (lyx_n hy 4 5 rfl) (by omega) (by omega) (fun q hq => BT_get hI.1 4 0 5 (0) (0) (1000) (by decide) q (Nat.zero_le _) hq) (fun v5588 av5588 bv5588 ev5588 => ?_)
  clear ev5588
  refine WQ_icmp_ne 37 dX7_isLoss_22 rfl (fun c5588 => ?_) (fun c5588 => ?_)
  · refine WQ_iconst (1) (1) dX7_isLoss_37 rfl rfl (fun v5590 hv5590 => ?_)
    exact WP_zret dX7_isLoss_38 rfl (nar_z (by omega)) ⟨⟨rfl, rfl, rfl⟩, _, rfl, by omega, by omega⟩
  · refine WP_aload_n dX7_isLoss_25 rfl ?_
    refine WP_getr dX7_isLoss_26 fX7_33 rfl (lyx_is hy 27 7 rfl) (rfx hr 27 12 35 (by decide)) ?_
    refine WP_iload_n dX7_isLoss_29 rfl ?_
    refine WQ_iald dX7_isLoss_30 (lyx_is hy 35 13 rfl) (lyx_n hy 35 28 rfl) (by omega) (by omega) (fun q hq => BT_get hI.1 35 0 28 (0) (0) (3) (by decide) q (Nat.zero_le _) hq) (fun v5591 av5591 bv5591 ev5591 => ?_)
    clear ev5591
    refine WP_aload_n dX7_isLoss_31 rfl ?_
    refine WQ_iconst (3) (3) dX7_isLoss_32 rfl rfl (fun v5592 hv5592 => ?_)
    refine WQ_iald dX7_isLoss_33 (lyx_is hy 4 13 rfl) (lyx_n hy 4 5 rfl) (by omega) (by omega) (fun q hq => BT_get hI.1 4 0 5 (0) (0) (1000) (by decide) q (Nat.zero_le _) hq) (fun v5593 av5593 bv5593 ev5593 => ?_)
    clear ev5593
    refine WQ_icmp_ge 39 dX7_isLoss_34 rfl (fun c5593 => ?_) (fun c5593 => ?_)
    · refine WP_aload_n dX7_isLoss_39 rfl ?_
      refine WP_getr dX7_isLoss_40 fX7_36 rfl (lyx_is hy 27 7 rfl) (rfx hr 27 13 36 (by decide)) ?_
      refine WP_iload_n dX7_isLoss_43 rfl ?_
      refine WQ_iald dX7_isLoss_44 (lyx_is hy 36 13 rfl) (lyx_n hy 36 28 rfl) (by omega) (by omega) (fun q hq => BT_get hI.1 36 0 28 (0) (0) (99) (by decide) q (Nat.zero_le _) hq) (fun v5595 av5595 bv5595 ev5595 => ?_)
      clear ev5595
      refine WP_istore (ls' := [(0, _), (1, _), (2, _), (3, _), (4, _)]) dX7_isLoss_45 (by decide) rfl ?_
      refine WP_aload_n dX7_isLoss_47 rfl ?_
      refine WQ_iconst (4) (4) dX7_isLoss_48 rfl rfl (fun v5596 hv5596 => ?_)
      refine WQ_iald dX7_isLoss_49 (lyx_is hy 4 13 rfl) (lyx_n hy 4 5 rfl) (by omega) (by omega) (fun q hq => BT_get hI.1 4 0 5 (0) (0) (1000) (by decide) q (Nat.zero_le _) hq) (fun v5597 av5597 bv5597 ev5597 => ?_)
      clear ev5597
      refine WP_istore (ls' := [(0, _), (1, _), (2, _), (3, _), (4, _), (5, _)]) dX7_isLoss_50 (by decide) rfl ?_
      refine WP_aload_n dX7_isLoss_52 rfl ?_
      refine WP_getr dX7_isLoss_53 fX7_9 rfl (lyx_is hy 27 7 rfl) (rfx hr 27 5 28 (by decide)) ?_
      refine WP_iload_n dX7_isLoss_56 rfl ?_
      refine WQ_iald dX7_isLoss_57 (lyx_is hy 28 13 rfl) (lyx_n hy 28 7 rfl) (by omega) (by omega) (fun q hq => BT_get hI.1 28 0 7 (0) (0) (900) (by decide) q (Nat.zero_le _) hq) (fun v5598 av5598 bv5598 ev5598 => ?_)
      clear ev5598
      have jn88_5609 : ∀ (v5609 : Int32), 0 ≤ v5609.toInt → v5609.toInt ≤ 1 → WP g mX7_isLoss 88 [(0, .ref (ad g 27)), (1, .ref (ad g 4)), (2, .int w5578), (3, .int v5585), (4, .int v5595), (5, .int v5597)] [.int v5609] I J R (fun r I' J' R' => (I' = I ∧ J' = J ∧ R' = R) ∧ ∃ v : Int32, r = some (.int v) ∧ 0 ≤ v.toInt ∧ v.toInt ≤ 1) := by
        intro v5609 av5609 bv5609
        refine WP_istore (ls' := [(0, _), (1, _), (2, _), (3, _), (4, _), (5, _), (6, _)]) dX7_isLoss_88 (by decide) rfl ?_
        refine WP_iload dX7_isLoss_90 rfl ?_
        refine WP_iload dX7_isLoss_92 rfl ?_
        have jn107_5615 : ∀ (v5615 : Int32), 0 ≤ v5615.toInt → v5615.toInt ≤ 1 → WP g mX7_isLoss 107 [(0, .ref (ad g 27)), (1, .ref (ad g 4)), (2, .int w5578), (3, .int v5585), (4, .int v5595), (5, .int v5597), (6, .int v5609)] [.int v5615] I J R (fun r I' J' R' => (I' = I ∧ J' = J ∧ R' = R) ∧ ∃ v : Int32, r = some (.int v) ∧ 0 ≤ v.toInt ∧ v.toInt ≤ 1) := by
          intro v5615 av5615 bv5615
          exact WP_zret dX7_isLoss_107 rfl (nar_z (by omega)) ⟨⟨rfl, rfl, rfl⟩, _, rfl, by omega, by omega⟩
        refine WQ_icmp_ge 106 dX7_isLoss_94 rfl (fun c5616 => ?_) (fun c5616 => ?_)
        · refine WQ_iconst (0) (0) dX7_isLoss_106 rfl rfl (fun v5618 hv5618 => ?_)
          exact WP_sub (fc rfl (fc rfl (fc rfl (fc rfl (fc rfl (fc rfl (fc rfl fn))))))) (jn107_5615 v5618 (by omega) (by omega))
        · refine WP_iload dX7_isLoss_97 rfl ?_
          refine WQ_if_ne 106 dX7_isLoss_99 rfl (fun c5618 => ?_) (fun c5618 => ?_)
          · refine WQ_iconst (0) (0) dX7_isLoss_106 rfl rfl (fun v5620 hv5620 => ?_)
            exact WP_sub (fc rfl (fc rfl (fc rfl (fc rfl (fc rfl (fc rfl (fc rfl fn))))))) (jn107_5615 v5620 (by omega) (by omega))
          · refine WQ_iconst (1) (1) dX7_isLoss_102 rfl rfl (fun v5621 hv5621 => ?_)
            refine WP_goto 107 dX7_isLoss_103 rfl ?_
            exact WP_sub (fc rfl (fc rfl (fc rfl (fc rfl (fc rfl (fc rfl (fc rfl fn))))))) (jn107_5615 v5621 (by omega) (by omega))
      refine WQ_if_le 87 dX7_isLoss_58 rfl (fun c5621 => ?_) (fun c5621 => ?_)
      · refine WQ_iconst (0) (0) dX7_isLoss_87 rfl rfl (fun v5623 hv5623 => ?_)
        exact WP_sub (fc rfl (fc rfl (fc rfl (fc rfl (fc rfl (fc rfl fn)))))) (jn88_5609 v5623 (by omega) (by omega))
      · refine WP_iload dX7_isLoss_61 rfl ?_
        refine WQ_sipush (1000) (1000) dX7_isLoss_63 rfl rfl (fun v5624 hv5624 => ?_)
        refine WQ_imulk (1000) dX7_isLoss_66 hv5624 (by omega) (by omega) (fun v5625 hv5625 => ?_)
        refine WP_iload dX7_isLoss_67 rfl ?_
        refine WQ_sipush (1000) (1000) dX7_isLoss_69 rfl rfl (fun v5626 hv5626 => ?_)
        refine WP_aload_n dX7_isLoss_72 rfl ?_
        refine WP_getr dX7_isLoss_73 fX7_9 rfl (lyx_is hy 27 7 rfl) (rfx hr 27 5 28 (by decide)) ?_
        refine WP_iload_n dX7_isLoss_76 rfl ?_
        refine WQ_iald dX7_isLoss_77 (lyx_is hy 28 13 rfl) (lyx_n hy 28 7 rfl) (by omega) (by omega) (fun q hq => BT_get hI.1 28 0 7 (0) (0) (900) (by decide) q (Nat.zero_le _) hq) (fun v5627 av5627 bv5627 ev5627 => ?_)
        clear ev5627
        refine WQ_isub dX7_isLoss_78 (by omega) (by omega) (fun v5628 hv5628 => ?_)
        refine WQ_imulb (1000) (1000) dX7_isLoss_79 ⟨by omega, by omega⟩ ⟨by omega, by omega⟩ (by decide) (fun v5629 pv5629 av5629 bv5629 cv5629 => ?_)
        refine WQ_icmp_lt 87 dX7_isLoss_80 rfl (fun c5629 => ?_) (fun c5629 => ?_)
        · refine WQ_iconst (0) (0) dX7_isLoss_87 rfl rfl (fun v5631 hv5631 => ?_)
          exact WP_sub (fc rfl (fc rfl (fc rfl (fc rfl (fc rfl (fc rfl fn)))))) (jn88_5609 v5631 (by omega) (by omega))
        · refine WQ_iconst (1) (1) dX7_isLoss_83 rfl rfl (fun v5632 hv5632 => ?_)
          refine WP_goto 88 dX7_isLoss_84 rfl ?_
          exact WP_sub (fc rfl (fc rfl (fc rfl (fc rfl (fc rfl (fc rfl fn)))))) (jn88_5609 v5632 (by omega) (by omega))
    · refine WQ_iconst (1) (1) dX7_isLoss_37 rfl rfl (fun v5633 hv5633 => ?_)
      exact WP_zret dX7_isLoss_38 rfl (nar_z (by omega)) ⟨⟨rfl, rfl, rfl⟩, _, rfl, by omega, by omega⟩
