set_option maxHeartbeats 4000000 in
set_option maxRecDepth 100000 in
theorem sm_pass {g : GG} {n : Int} {L : Int32} (hy : Ly g)  {I : pI} {J : pJ} {R : pR} (hr : Rf g R) (hI : MP g n L I) (a : Int32)  (hn : 0 ≤ n ∧ n ≤ 40000) (hb : (I (ad g 38) 32).toInt ≤ 23760 * n - 1663200 ∧ (I (ad g 38) 33).toInt ≤ n - 70) : SP g mX11_pass [.ref (ad g 0), .int a] I J R (fun r I' J' R' => (MP g n L I' ∧ R' = R ∧ fz 49 g [0, 35, 36, 37, 38, 40, 41] I I' ∧ fz 49 g [0] J J' ∧ fs g [56] I I' ∧ True) ∧ ∃ v : Int32, r = some (.int v)) := by
  refine SP_of ⟨by decide, rfl⟩ (Nat.le_of_ble_eq_true rfl) ?_
  have e6294 : I (ad g 0) 1 = L := hI.1.2
  have b6295 := BT_get hI.1.1 0 1 2 (0) (0) (900) (by decide) 1 (by decide) (by decide)
  rw [e6294] at b6295
  have fr0 : fz 49 g [0, 35, 36, 37, 38, 40, 41] I I := fz_rf
  have frj0 : fz 49 g [0] J J := fz_rf
  have frq0 : fs g [56] I I := fs_rf
  obtain ⟨w6296, ew6296⟩ : ∃ w : Int32, I (ad g 38) 32 = w := ⟨_, rfl⟩
  have bw6296 := BT_get hI.1.1 38 32 33 (0) (23760) (0) (by decide) 32 (by decide) (by decide)
  rw [ew6296] at bw6296
  obtain ⟨w6297, ew6297⟩ : ∃ w : Int32, I (ad g 38) 33 = w := ⟨_, rfl⟩
  have bw6297 := BT_get hI.1.1 38 33 34 (0) (1) (0) (by decide) 33 (by decide) (by decide)
  rw [ew6297] at bw6297
  rw [ew6296, ew6297] at hb
  refine WP_iload_n dX11_pass_0 rfl ?_
  refine WQ_i2l dX11_pass_1 (fun l6298 hl6298 => ?_)
  refine WP_lconst (0) dX11_pass_2 rfl ?_
  obtain ⟨l6299, hl6299, el6299⟩ : ∃ v : Int64, v.toInt = 0 ∧ (0 : Int64) = v := ⟨_, rfl, rfl⟩
  rw [el6299]; clear el6299
  refine WP_ldc2 (70) dX11_pass_3 klX11_482 ?_
  obtain ⟨l6300, hl6300, el6300⟩ : ∃ v : Int64, v.toInt = (70) ∧ ((70) : Int64) = v := ⟨_, rfl, rfl⟩
  rw [el6300]; clear el6300
  refine WP_callS3 dX11_pass_6 ⟨⟨⟨by decide, by decide⟩, zX11_in⟩, lX11_52, tX11_in⟩ (sm_in hy hr hI l6298 l6299 l6300 ) (Nat.le_of_ble_eq_true rfl) ?_
  intro r Ia Ja Ra hq
  obtain ⟨⟨ea, eb, ec⟩, v6301, rfl, av6301, bv6301, cv6301⟩ := hq
  show WP _ _ _ _ (.int _ :: _) _ _ _ _
  rw [ea, eb, ec]
  clear ea eb ec Ia Ja Ra
  refine WQ_if_ne 15 dX11_pass_9 rfl (fun c6301 => ?_) (fun c6301 => ?_)
  · refine WQ_iconst (0) (0) dX11_pass_15 rfl rfl (fun v6303 hv6303 => ?_)
    refine WP_istore_n (ls' := [(0, _), (1, _), (2, _)]) dX11_pass_16 (by decide) rfl ?_
    have lp17_6308 : ∀ (mz : Nat) (i6304 : Int32) (I6305 : pI) (J6306 : pJ), MP g n L I6305 → fz 49 g [0, 35, 36, 37, 38, 40, 41] I I6305 → fz 49 g [0] J J6306 → fs g [56] I I6305 → ∀ (w6307 : Int32), I6305 (ad g 38) 32 = w6307 → ∀ (w6308 : Int32), I6305 (ad g 38) 33 = w6308 → 0 ≤ i6304.toInt → i6304.toInt ≤ 70 → w6307.toInt ≤ w6296.toInt + 23760 * i6304.toInt → w6308.toInt = w6297.toInt + i6304.toInt → i6304.toInt ≤ a.toInt → (71 - i6304.toInt).toNat < mz → WP g mX11_pass 17 [(0, .ref (ad g 0)), (1, .int a), (2, .int i6304)] [] I6305 J6306 R (fun r I' J' R' => (MP g n L I' ∧ R' = R ∧ fz 49 g [0, 35, 36, 37, 38, 40, 41] I I' ∧ fz 49 g [0] J J' ∧ fs g [56] I I' ∧ True) ∧ ∃ v : Int32, r = some (.int v)) := by
      intro mz
      induction mz with
      | zero =>
        intro i6304 I6305 J6306 hI6305 fiI6305 fjJ6306 fqI6305 w6307 ew6307 w6308 ew6308 ai6304 bi6304 j0_I6305 j1_I6305 j2_I6305 hmlp17_6308
        exact absurd hmlp17_6308 (Nat.not_lt_zero _)
      | succ mz ihlp17_6308 =>
        intro i6304 I6305 J6306 hI6305 fiI6305 fjJ6306 fqI6305 w6307 ew6307 w6308 ew6308 ai6304 bi6304 j0_I6305 j1_I6305 j2_I6305 hmlp17_6308
        have bw6307 := BT_get hI6305.1.1 38 32 33 (0) (23760) (0) (by decide) 32 (by decide) (by decide)
        rw [ew6307] at bw6307
        have bw6308 := BT_get hI6305.1.1 38 33 34 (0) (1) (0) (by decide) 33 (by decide) (by decide)
        rw [ew6308] at bw6308
        have e6310 : I6305 (ad g 0) 1 = L := hI6305.1.2
        have b6311 := BT_get hI6305.1.1 0 1 2 (0) (0) (900) (by decide) 1 (by decide) (by decide)
        rw [e6310] at b6311
        refine WP_iload_n dX11_pass_17 rfl ?_
        refine WP_iload_n dX11_pass_18 rfl ?_
        refine WQ_icmp_ge 45 dX11_pass_19 rfl (fun c6311 => ?_) (fun c6311 => ?_)
        · refine WP_aload_n dX11_pass_45 rfl ?_
          refine WP_getr dX11_pass_46 fX11_283 rfl (ly_is hy 0 11 rfl) (rf hr 0 59 38 (by decide)) ?_
          refine WQ_bipush (33) (33) dX11_pass_49 rfl rfl (fun v6313 hv6313 => ?_)
          refine WQ_ialdm (z := 33) dX11_pass_51 (ly_is hy 38 13 rfl) (ly_n hy 38 35 rfl) hv6313 (by decide) ew6308 ?_
          exact WP_iret dX11_pass_52 rfl ⟨⟨hI6305, rfl, fiI6305, fjJ6306, fqI6305, trivial⟩, _, rfl⟩
        · refine WP_aload_n dX11_pass_22 rfl ?_
          refine WP_dup dX11_pass_23 rfl ?_
          refine WQ_getl dX11_pass_24 fX11_346 rfl (ly_is hy 0 11 rfl) (fun l6315 el6315 => ?_)
          refine WP_aload_n dX11_pass_27 rfl ?_
          refine WP_aload_n dX11_pass_28 rfl ?_
          refine WP_getr dX11_pass_29 fX11_283 rfl (ly_is hy 0 11 rfl) (rf hr 0 59 38 (by decide)) ?_
          refine WP_callV1 (k := 11) dX11_pass_32 ⟨⟨⟨by decide, by decide⟩, zX11_dayOf⟩, lX11_484, by decide, rfl, vX11_dayOf.1, vX11_dayOf.2⟩ (ly_is hy 0 11 rfl) (sm_dayOf_38 hy hr hI6305   (by omega) (by rw [ew6307, ew6308]; omega)) (Nat.le_of_ble_eq_true rfl) ?_
          intro r I6316 J6317 Ra hq
          obtain ⟨⟨hI6316, ec, fiI6316, fjI6316, fqI6316, ⟨pI6316, sI6316_0_10, sI6316_0_14, sI6316_0_68⟩⟩, l6318, rfl⟩ := hq
          show WP _ _ _ _ (.long _ :: _) _ _ _ _
          rw [ec]
          clear ec Ra
          have fr6319 : fz 49 g [0, 35, 36, 37, 38, 40, 41] I I6316 := fz_tr fiI6305 (fz_mono fiI6316 (by decide))
          have fr6320 : fs g [56] I I6316 := fs_tr fqI6305 (fs_mono fqI6316 (by decide))
          have fr6321 : fz 49 g [0] J J6317 := fz_tr fjJ6306 (fz_mono fjI6316 (by decide))
          have e6322 : I6316 (ad g 0) 1 = L := hI6316.1.2
          have b6323 := BT_get hI6316.1.1 0 1 2 (0) (0) (900) (by decide) 1 (by decide) (by decide)
          rw [e6322] at b6323
          obtain ⟨w6324, ew6324⟩ : ∃ w : Int32, I6316 (ad g 38) 32 = w := ⟨_, rfl⟩
          have bw6324 := BT_get hI6316.1.1 38 32 33 (0) (23760) (0) (by decide) 32 (by decide) (by decide)
          rw [ew6324] at bw6324
          obtain ⟨w6325, ew6325⟩ : ∃ w : Int32, I6316 (ad g 38) 33 = w := ⟨_, rfl⟩
          have bw6325 := BT_get hI6316.1.1 38 33 34 (0) (1) (0) (by decide) 33 (by decide) (by decide)
          rw [ew6325] at bw6325
          rw [ew6324, ew6325, ew6307, ew6308] at pI6316
          refine WQ_ladd dX11_pass_35 (fun l6326 => ?_)
          refine WQ_putl dX11_pass_36 fX11_346 rfl rfl (ly_is hy 0 11 rfl) (fun J6327 eJ6327 => ?_)
          have fr6328 : fz 49 g [0] J J6327 := by rw [eJ6327]; exact fzm_pp hy fr6321 (by decide) (by decide)
          clear eJ6327
          refine WP_iinc (ls' := [(0, _), (1, _), (2, _)]) dX11_pass_39 rfl (by decide) rfl ?_
          have hv6329 : (i6304 + Int32.ofInt (1)).toInt = i6304.toInt + (1) := ia_n rfl (by omega) (by omega)
          generalize i6304 + Int32.ofInt (1) = v6329 at hv6329 ⊢
          refine WP_goto 17 dX11_pass_42 rfl ?_
          exact WP_sub (fc rfl (fc rfl (fc rfl fn))) (ihlp17_6308 v6329 I6316 J6327 hI6316 fr6319 fr6328 fr6320 w6324 ew6324 w6325 ew6325 (by omega) (by omega) (by omega) (by omega) (by omega) (by omega))
    exact WP_sub (fc rfl (fc rfl (fc rfl fn))) (lp17_6308 _ v6303 I J hI fr0 frj0 frq0 w6296 ew6296 w6297 ew6297 (by omega) (by omega) (by omega) (by omega) (by omega) (Nat.lt_succ_self _))
  · refine WQ_bipush (-2) (-2) dX11_pass_12 rfl rfl (fun v6330 hv6330 => ?_)
    exact WP_iret dX11_pass_14 rfl ⟨⟨hI, rfl, fr0, frj0, frq0, trivial⟩, _, rfl⟩
set_option maxHeartbeats 4000000 in
set_option maxRecDepth 100000 in
theorem sm_beginx_39 {g : GG} {n : Int} {L : Int32} (hy : Ly g)  {I : pI} {J : pJ} {R : pR} (hr : Rf g R) (hI : MP g n L I)   (hn : 0 ≤ n) : SP g mX11_begin [.ref (ad g 0), .ref (ad g 39)] I J R (fun r I' J' R' => (MP g n L I' ∧ R' = R ∧ fz 49 g [39] I I' ∧ fz 49 g [] J J' ∧ fs g [] I I' ∧ ((I' (ad g 39) 32).toInt = 0 ∧ (I' (ad g 39) 33).toInt = 0)) ∧ r = none) := by
  refine SP_of ⟨by decide, rfl⟩ (Nat.le_of_ble_eq_true rfl) ?_
  have e6331 : I (ad g 0) 1 = L := hI.1.2
  have b6332 := BT_get hI.1.1 0 1 2 (0) (0) (900) (by decide) 1 (by decide) (by decide)
  rw [e6331] at b6332
  have fr0 : fz 49 g [39] I I := fz_rf
  have frj0 : fz 49 g [] J J := fz_rf
  have frq0 : fs g [] I I := fs_rf
  refine WQ_iconst (0) (0) dX11_begin_0 rfl rfl (fun v6333 hv6333 => ?_)
  refine WP_istore_n (ls' := [(0, _), (1, _), (2, _)]) dX11_begin_1 (by decide) rfl ?_
  have lp2_6338 : ∀ (mz : Nat) (i6334 : Int32) (I6335 : pI) (J6336 : pJ), MP g n L I6335 → fz 49 g [39] I I6335 → fz 49 g [] J J6336 → fs g [] I I6335 → ∀ (w6337 : Int32), I6335 (ad g 39) 32 = w6337 → ∀ (w6338 : Int32), I6335 (ad g 39) 33 = w6338 → 0 ≤ i6334.toInt → i6334.toInt ≤ 35 → (i6334.toInt ≤ 32 ∨ w6337.toInt = 0) → (i6334.toInt ≤ 33 ∨ w6338.toInt = 0) → (36 - i6334.toInt).toNat < mz → WP g mX11_begin 2 [(0, .ref (ad g 0)), (1, .ref (ad g 39)), (2, .int i6334)] [] I6335 J6336 R (fun r I' J' R' => (MP g n L I' ∧ R' = R ∧ fz 49 g [39] I I' ∧ fz 49 g [] J J' ∧ fs g [] I I' ∧ ((I' (ad g 39) 32).toInt = 0 ∧ (I' (ad g 39) 33).toInt = 0)) ∧ r = none) := by
    intro mz
    induction mz with
    | zero =>
      intro i6334 I6335 J6336 hI6335 fiI6335 fjJ6336 fqI6335 w6337 ew6337 w6338 ew6338 ai6334 bi6334 j0_I6335 j1_I6335 hmlp2_6338
      exact absurd hmlp2_6338 (Nat.not_lt_zero _)
    | succ mz ihlp2_6338 =>
      intro i6334 I6335 J6336 hI6335 fiI6335 fjJ6336 fqI6335 w6337 ew6337 w6338 ew6338 ai6334 bi6334 j0_I6335 j1_I6335 hmlp2_6338
      have bw6337 := BT_get hI6335.1.1 39 32 33 (0) (23760) (700000) (by decide) 32 (by decide) (by decide)
      rw [ew6337] at bw6337
      have bw6338 := BT_get hI6335.1.1 39 33 34 (0) (1) (30) (by decide) 33 (by decide) (by decide)
      rw [ew6338] at bw6338
      have e6340 : I6335 (ad g 0) 1 = L := hI6335.1.2
      have b6341 := BT_get hI6335.1.1 0 1 2 (0) (0) (900) (by decide) 1 (by decide) (by decide)
      rw [e6340] at b6341
      refine WP_iload_n dX11_begin_2 rfl ?_
      refine WQ_bipush (35) (35) dX11_begin_3 rfl rfl (fun v6342 hv6342 => ?_)
      refine WQ_icmp_ge 30 dX11_begin_5 rfl (fun c6342 => ?_) (fun c6342 => ?_)
      · refine WQ_iconst (0) (0) dX11_begin_30 rfl rfl (fun v6344 hv6344 => ?_)
        refine WP_istore_n (ls' := [(0, _), (1, _), (2, _)]) dX11_begin_31 (by decide) rfl ?_
        have lp32_6349 : ∀ (mz : Nat) (i6345 : Int32) (I6346 : pI) (J6347 : pJ), MP g n L I6346 → fz 49 g [39] I I6346 → fz 49 g [] J J6347 → fs g [] I I6346 → ∀ (w6348 : Int32), I6346 (ad g 39) 32 = w6348 → ∀ (w6349 : Int32), I6346 (ad g 39) 33 = w6349 → 0 ≤ i6345.toInt → i6345.toInt ≤ 4 → w6348.toInt = 0 → w6349.toInt = 0 → (5 - i6345.toInt).toNat < mz → WP g mX11_begin 32 [(0, .ref (ad g 0)), (1, .ref (ad g 39)), (2, .int i6345)] [] I6346 J6347 R (fun r I' J' R' => (MP g n L I' ∧ R' = R ∧ fz 49 g [39] I I' ∧ fz 49 g [] J J' ∧ fs g [] I I' ∧ ((I' (ad g 39) 32).toInt = 0 ∧ (I' (ad g 39) 33).toInt = 0)) ∧ r = none) := by
          intro mz
          induction mz with
          | zero =>
            intro i6345 I6346 J6347 hI6346 fiI6346 fjJ6347 fqI6346 w6348 ew6348 w6349 ew6349 ai6345 bi6345 j0_I6346 j1_I6346 hmlp32_6349
            exact absurd hmlp32_6349 (Nat.not_lt_zero _)
          | succ mz ihlp32_6349 =>
            intro i6345 I6346 J6347 hI6346 fiI6346 fjJ6347 fqI6346 w6348 ew6348 w6349 ew6349 ai6345 bi6345 j0_I6346 j1_I6346 hmlp32_6349
            have bw6348 := BT_get hI6346.1.1 39 32 33 (0) (23760) (700000) (by decide) 32 (by decide) (by decide)
            rw [ew6348] at bw6348
            have bw6349 := BT_get hI6346.1.1 39 33 34 (0) (1) (30) (by decide) 33 (by decide) (by decide)
            rw [ew6349] at bw6349
            have e6351 : I6346 (ad g 0) 1 = L := hI6346.1.2
            have b6352 := BT_get hI6346.1.1 0 1 2 (0) (0) (900) (by decide) 1 (by decide) (by decide)
            rw [e6351] at b6352
            refine WP_iload_n dX11_begin_32 rfl ?_
            refine WP_aload_n dX11_begin_33 rfl ?_
            refine WQ_geti dX11_begin_34 fX11_329 rfl (ly_is hy 0 11 rfl) (BT_get hI6346.1.1 0 10 11 (0) (0) (4) (by decide) 10 (by decide) (by decide)) (fun v6353 ev6353 av6353 bv6353 => ?_)
            refine WQ_icmp_ge 57 dX11_begin_37 rfl (fun c6353 => ?_) (fun c6353 => ?_)
            · exact WP_vret dX11_begin_57 rfl ⟨⟨hI6346, rfl, fiI6346, fjJ6347, fqI6346, (by rw [ew6348, ew6349]; omega)⟩, rfl⟩
            · refine WP_aload_n dX11_begin_40 rfl ?_
              refine WQ_iconst (0) (0) dX11_begin_41 rfl rfl (fun v6355 hv6355 => ?_)
              refine WP_iload_n dX11_begin_42 rfl ?_
              refine WQ_iadd dX11_begin_43 (by omega) (by omega) (fun v6356 hv6356 => ?_)
              refine WP_aload_n dX11_begin_44 rfl ?_
              refine WP_getr dX11_begin_45 fX11_241 rfl (ly_is hy 0 11 rfl) (rf hr 0 28 10 (by decide)) ?_
              refine WP_iload_n dX11_begin_48 rfl ?_
              refine WQ_iald dX11_begin_49 (ly_is hy 10 13 rfl) (ly_n hy 10 4 rfl) (by omega) (by omega) (fun q hq => BT_get hI6346.1.1 10 0 4 (0) (0) (60) (by decide) q (Nat.zero_le _) hq) (fun v6357 av6357 bv6357 ev6357 => ?_)
              clear ev6357
              refine WQ_iast dX11_begin_50 (ly_is hy 39 13 rfl) (ly_n hy 39 35 rfl) (by omega) (by omega) (fun I6358 eI6358 => ?_)
              have hI6358 : MP g n L I6358 := by rw [eI6358]; exact (mp_w hy hI6346 (c := 39) (mi_rr hy hI6346.1 (c := 39) (0) (3) (0) (0) (60) (by decide) (Or.inl (by decide)) (by rw [cl (n := v6356.toInt.toNat) (by omega)]; omega) (by decide) (fun _ => ⟨by omega, by omega⟩)) (by decide) (by decide) (Or.inl (by decide)))
              have e6359 : I6358 (ad g 39) 32 = w6348 := by rw [eI6358, pp_ne _ _ (Or.inr (by rw [cl (x := v6356) (n := v6356.toInt.toNat) (by omega)]; omega))]; exact ew6348
              have e6360 : I6358 (ad g 39) 33 = w6349 := by rw [eI6358, pp_ne _ _ (Or.inr (by rw [cl (x := v6356) (n := v6356.toInt.toNat) (by omega)]; omega))]; exact ew6349
              have e6361 : I6358 (ad g 0) 1 = L := by rw [eI6358, pp_ne _ _ (Or.inl (ly_ne hy (by decide) (by decide) (by decide)))]; exact e6351
              have e6362 : I6358 (ad g 0) 10 = v6353 := by rw [eI6358, pp_ne _ _ (Or.inl (ly_ne hy (by decide) (by decide) (by decide)))]; exact ev6353
              have fr6363 : fs g [] I I6358 := by rw [eI6358]; exact fs_ppn hy fqI6346 (by decide) (by decide)
              have fr6364 : fz 49 g [39] I I6358 := by rw [eI6358]; exact fzm_pp hy fiI6346 (by decide) (by decide)
              clear eI6358
              refine WP_iinc (ls' := [(0, _), (1, _), (2, _)]) dX11_begin_51 rfl (by decide) rfl ?_
              have hv6365 : (i6345 + Int32.ofInt (1)).toInt = i6345.toInt + (1) := ia_n rfl (by omega) (by omega)
              generalize i6345 + Int32.ofInt (1) = v6365 at hv6365 ⊢
              refine WP_goto 32 dX11_begin_54 rfl ?_
              exact WP_sub (fc rfl (fc rfl (fc rfl fn))) (ihlp32_6349 v6365 I6358 J6347 hI6358 fr6364 fjJ6347 fr6363 w6348 e6359 w6349 e6360 (by omega) (by omega) (by omega) (by omega) (by omega))
        exact WP_sub (fc rfl (fc rfl (fc rfl fn))) (lp32_6349 _ v6344 I6335 J6336 hI6335 fiI6335 fjJ6336 fqI6335 w6337 ew6337 w6338 ew6338 (by omega) (by omega) (by omega) (by omega) (Nat.lt_succ_self _))
      · refine WP_iload_n dX11_begin_8 rfl ?_
        refine WQ_bipush (28) (28) dX11_begin_9 rfl rfl (fun v6366 hv6366 => ?_)
        refine WQ_icmp_lt 20 dX11_begin_11 rfl (fun c6366 => ?_) (fun c6366 => ?_)
        · rcases (show (0 ≤ i6334.toInt ∧ i6334.toInt ≤ 3) ∨ (4 ≤ i6334.toInt ∧ i6334.toInt ≤ 7) ∨ (8 ≤ i6334.toInt ∧ i6334.toInt ≤ 31) by omega) with ⟨k6368_0, k6368_1⟩ | ⟨k6368_2, k6368_3⟩ | ⟨k6368_4, k6368_5⟩
          · refine WP_aload_n dX11_begin_20 rfl ?_
            refine WP_iload_n dX11_begin_21 rfl ?_
            refine WQ_iconst (0) (0) dX11_begin_22 rfl rfl (fun v6369 hv6369 => ?_)
            refine WQ_iast dX11_begin_23 (ly_is hy 39 13 rfl) (ly_n hy 39 35 rfl) (by omega) (by omega) (fun I6370 eI6370 => ?_)
            have hI6370 : MP g n L I6370 := by rw [eI6370]; exact (mp_w hy hI6335 (c := 39) (mi_rr hy hI6335.1 (c := 39) (0) (3) (0) (0) (60) (by decide) (Or.inl (by decide)) (by rw [cl (n := i6334.toInt.toNat) (by omega)]; omega) (by decide) (fun _ => ⟨by omega, by omega⟩)) (by decide) (by decide) (Or.inl (by decide)))
            have e6371 : I6370 (ad g 39) 32 = w6337 := by rw [eI6370, pp_ne _ _ (Or.inr (by rw [cl (x := i6334) (n := i6334.toInt.toNat) (by omega)]; omega))]; exact ew6337
            have e6372 : I6370 (ad g 39) 33 = w6338 := by rw [eI6370, pp_ne _ _ (Or.inr (by rw [cl (x := i6334) (n := i6334.toInt.toNat) (by omega)]; omega))]; exact ew6338
            have e6373 : I6370 (ad g 0) 1 = L := by rw [eI6370, pp_ne _ _ (Or.inl (ly_ne hy (by decide) (by decide) (by decide)))]; exact e6340
            have fr6374 : fs g [] I I6370 := by rw [eI6370]; exact fs_ppn hy fqI6335 (by decide) (by decide)
            have fr6375 : fz 49 g [39] I I6370 := by rw [eI6370]; exact fzm_pp hy fiI6335 (by decide) (by decide)
            clear eI6370
            refine WP_iinc (ls' := [(0, _), (1, _), (2, _)]) dX11_begin_24 rfl (by decide) rfl ?_
            have hv6376 : (i6334 + Int32.ofInt (1)).toInt = i6334.toInt + (1) := ia_n rfl (by omega) (by omega)
            generalize i6334 + Int32.ofInt (1) = v6376 at hv6376 ⊢
            refine WP_goto 2 dX11_begin_27 rfl ?_
            exact WP_sub (fc rfl (fc rfl (fc rfl fn))) (ihlp2_6338 v6376 I6370 J6336 hI6370 fr6375 fjJ6336 fr6374 w6337 e6371 w6338 e6372 (by omega) (by omega) (by omega) (by omega) (by omega))
          · refine WP_aload_n dX11_begin_20 rfl ?_
            refine WP_iload_n dX11_begin_21 rfl ?_
            refine WQ_iconst (0) (0) dX11_begin_22 rfl rfl (fun v6377 hv6377 => ?_)
            refine WQ_iast dX11_begin_23 (ly_is hy 39 13 rfl) (ly_n hy 39 35 rfl) (by omega) (by omega) (fun I6378 eI6378 => ?_)
            have hI6378 : MP g n L I6378 := by rw [eI6378]; exact (mp_w hy hI6335 (c := 39) (mi_rr hy hI6335.1 (c := 39) (4) (7) (0) (0) (5) (by decide) (Or.inl (by decide)) (by rw [cl (n := i6334.toInt.toNat) (by omega)]; omega) (by decide) (fun _ => ⟨by omega, by omega⟩)) (by decide) (by decide) (Or.inl (by decide)))
            have e6379 : I6378 (ad g 39) 32 = w6337 := by rw [eI6378, pp_ne _ _ (Or.inr (by rw [cl (x := i6334) (n := i6334.toInt.toNat) (by omega)]; omega))]; exact ew6337
            have e6380 : I6378 (ad g 39) 33 = w6338 := by rw [eI6378, pp_ne _ _ (Or.inr (by rw [cl (x := i6334) (n := i6334.toInt.toNat) (by omega)]; omega))]; exact ew6338
            have e6381 : I6378 (ad g 0) 1 = L := by rw [eI6378, pp_ne _ _ (Or.inl (ly_ne hy (by decide) (by decide) (by decide)))]; exact e6340
            have fr6382 : fs g [] I I6378 := by rw [eI6378]; exact fs_ppn hy fqI6335 (by decide) (by decide)
            have fr6383 : fz 49 g [39] I I6378 := by rw [eI6378]; exact fzm_pp hy fiI6335 (by decide) (by decide)
            clear eI6378
            refine WP_iinc (ls' := [(0, _), (1, _), (2, _)]) dX11_begin_24 rfl (by decide) rfl ?_
            have hv6384 : (i6334 + Int32.ofInt (1)).toInt = i6334.toInt + (1) := ia_n rfl (by omega) (by omega)
            generalize i6334 + Int32.ofInt (1) = v6384 at hv6384 ⊢
            refine WP_goto 2 dX11_begin_27 rfl ?_
            exact WP_sub (fc rfl (fc rfl (fc rfl fn))) (ihlp2_6338 v6384 I6378 J6336 hI6378 fr6383 fjJ6336 fr6382 w6337 e6379 w6338 e6380 (by omega) (by omega) (by omega) (by omega) (by omega))
          · refine WP_aload_n dX11_begin_20 rfl ?_
            refine WP_iload_n dX11_begin_21 rfl ?_
            refine WQ_iconst (0) (0) dX11_begin_22 rfl rfl (fun v6385 hv6385 => ?_)
            refine WQ_iast dX11_begin_23 (ly_is hy 39 13 rfl) (ly_n hy 39 35 rfl) (by omega) (by omega) (fun I6386 eI6386 => ?_)
            have hI6386 : MP g n L I6386 := by rw [eI6386]; exact (mp_w hy hI6335 (c := 39) (mi_rr hy hI6335.1 (c := 39) (8) (27) (0) (0) (0) (by decide) (Or.inl (by decide)) (by rw [cl (n := i6334.toInt.toNat) (by omega)]; omega) (by decide) (fun h => absurd h (by decide))) (by decide) (by decide) (Or.inl (by decide)))
            have e6387 : I6386 (ad g 39) 32 = w6337 := by rw [eI6386, pp_ne _ _ (Or.inr (by rw [cl (x := i6334) (n := i6334.toInt.toNat) (by omega)]; omega))]; exact ew6337
            have e6388 : I6386 (ad g 39) 33 = w6338 := by rw [eI6386, pp_ne _ _ (Or.inr (by rw [cl (x := i6334) (n := i6334.toInt.toNat) (by omega)]; omega))]; exact ew6338
            have e6389 : I6386 (ad g 0) 1 = L := by rw [eI6386, pp_ne _ _ (Or.inl (ly_ne hy (by decide) (by decide) (by decide)))]; exact e6340
            have fr6390 : fs g [] I I6386 := by rw [eI6386]; exact fs_ppn hy fqI6335 (by decide) (by decide)
            have fr6391 : fz 49 g [39] I I6386 := by rw [eI6386]; exact fzm_pp hy fiI6335 (by decide) (by decide)
            clear eI6386
            refine WP_iinc (ls' := [(0, _), (1, _), (2, _)]) dX11_begin_24 rfl (by decide) rfl ?_
            have hv6392 : (i6334 + Int32.ofInt (1)).toInt = i6334.toInt + (1) := ia_n rfl (by omega) (by omega)
            generalize i6334 + Int32.ofInt (1) = v6392 at hv6392 ⊢
            refine WP_goto 2 dX11_begin_27 rfl ?_
            exact WP_sub (fc rfl (fc rfl (fc rfl fn))) (ihlp2_6338 v6392 I6386 J6336 hI6386 fr6391 fjJ6336 fr6390 w6337 e6387 w6338 e6388 (by omega) (by omega) (by omega) (by omega) (by omega))
        · refine WP_iload_n dX11_begin_14 rfl ?_
          refine WQ_bipush (32) (32) dX11_begin_15 rfl rfl (fun v6393 hv6393 => ?_)
          refine WQ_icmp_lt 24 dX11_begin_17 rfl (fun c6393 => ?_) (fun c6393 => ?_)
          · refine WP_iinc (ls' := [(0, _), (1, _), (2, _)]) dX11_begin_24 rfl (by decide) rfl ?_
            have hv6395 : (i6334 + Int32.ofInt (1)).toInt = i6334.toInt + (1) := ia_n rfl (by omega) (by omega)
            generalize i6334 + Int32.ofInt (1) = v6395 at hv6395 ⊢
            refine WP_goto 2 dX11_begin_27 rfl ?_
            exact WP_sub (fc rfl (fc rfl (fc rfl fn))) (ihlp2_6338 v6395 I6335 J6336 hI6335 fiI6335 fjJ6336 fqI6335 w6337 ew6337 w6338 ew6338 (by omega) (by omega) (by omega) (by omega) (by omega))
          · rcases (show (32 ≤ i6334.toInt ∧ i6334.toInt ≤ 32) ∨ (33 ≤ i6334.toInt ∧ i6334.toInt ≤ 33) ∨ (34 ≤ i6334.toInt ∧ i6334.toInt ≤ 34) by omega) with ⟨k6396_0, k6396_1⟩ | ⟨k6396_2, k6396_3⟩ | ⟨k6396_4, k6396_5⟩
            · refine WP_aload_n dX11_begin_20 rfl ?_
              refine WP_iload_n dX11_begin_21 rfl ?_
              refine WQ_iconst (0) (0) dX11_begin_22 rfl rfl (fun v6397 hv6397 => ?_)
              refine WQ_iast dX11_begin_23 (ly_is hy 39 13 rfl) (ly_n hy 39 35 rfl) (by omega) (by omega) (fun I6398 fI6398 => ?_)
              have eI6398 := fI6398
              rw [cl (x := i6334) (n := 32) (by omega)] at eI6398
              clear fI6398
              have hI6398 : MP g n L I6398 := by rw [eI6398]; exact (mp_w hy hI6335 (c := 39) (mi_f hy hI6335.1 (c := 39) (0) (23760) (700000) (by decide) (Or.inl (by decide)) (by decide) (by omega) (by omega)) (by decide) (by decide) (Or.inl (by decide)))
              have e6399 : I6398 (ad g 39) 33 = w6338 := by rw [eI6398, pp_ne _ _ (Or.inr (by decide))]; exact ew6338
              have e6400 : I6398 (ad g 0) 1 = L := by rw [eI6398, pp_ne _ _ (Or.inl (ly_ne hy (by decide) (by decide) (by decide)))]; exact e6340
              have e6401 : I6398 (ad g 39) 32 = v6397 := by rw [eI6398, pp_self]
              have fr6402 : fs g [] I I6398 := by rw [eI6398]; exact fs_ppn hy fqI6335 (by decide) (by decide)
              have fr6403 : fz 49 g [39] I I6398 := by rw [eI6398]; exact fzm_pp hy fiI6335 (by decide) (by decide)
              clear eI6398
              refine WP_iinc (ls' := [(0, _), (1, _), (2, _)]) dX11_begin_24 rfl (by decide) rfl ?_
              have hv6404 : (i6334 + Int32.ofInt (1)).toInt = i6334.toInt + (1) := ia_n rfl (by omega) (by omega)
              generalize i6334 + Int32.ofInt (1) = v6404 at hv6404 ⊢
              refine WP_goto 2 dX11_begin_27 rfl ?_
              exact WP_sub (fc rfl (fc rfl (fc rfl fn))) (ihlp2_6338 v6404 I6398 J6336 hI6398 fr6403 fjJ6336 fr6402 v6397 e6401 w6338 e6399 (by omega) (by omega) (by omega) (by omega) (by omega))
            · refine WP_aload_n dX11_begin_20 rfl ?_
              refine WP_iload_n dX11_begin_21 rfl ?_
              refine WQ_iconst (0) (0) dX11_begin_22 rfl rfl (fun v6405 hv6405 => ?_)
              refine WQ_iast dX11_begin_23 (ly_is hy 39 13 rfl) (ly_n hy 39 35 rfl) (by omega) (by omega) (fun I6406 fI6406 => ?_)
              have eI6406 := fI6406
              rw [cl (x := i6334) (n := 33) (by omega)] at eI6406
              clear fI6406
              have hI6406 : MP g n L I6406 := by rw [eI6406]; exact (mp_w hy hI6335 (c := 39) (mi_f hy hI6335.1 (c := 39) (0) (1) (30) (by decide) (Or.inl (by decide)) (by decide) (by omega) (by omega)) (by decide) (by decide) (Or.inl (by decide)))
              have e6407 : I6406 (ad g 39) 32 = w6337 := by rw [eI6406, pp_ne _ _ (Or.inr (by decide))]; exact ew6337
              have e6408 : I6406 (ad g 0) 1 = L := by rw [eI6406, pp_ne _ _ (Or.inl (ly_ne hy (by decide) (by decide) (by decide)))]; exact e6340
              have e6409 : I6406 (ad g 39) 33 = v6405 := by rw [eI6406, pp_self]
              have fr6410 : fs g [] I I6406 := by rw [eI6406]; exact fs_ppn hy fqI6335 (by decide) (by decide)
              have fr6411 : fz 49 g [39] I I6406 := by rw [eI6406]; exact fzm_pp hy fiI6335 (by decide) (by decide)
              clear eI6406
              refine WP_iinc (ls' := [(0, _), (1, _), (2, _)]) dX11_begin_24 rfl (by decide) rfl ?_
              have hv6412 : (i6334 + Int32.ofInt (1)).toInt = i6334.toInt + (1) := ia_n rfl (by omega) (by omega)
              generalize i6334 + Int32.ofInt (1) = v6412 at hv6412 ⊢
              refine WP_goto 2 dX11_begin_27 rfl ?_
              exact WP_sub (fc rfl (fc rfl (fc rfl fn))) (ihlp2_6338 v6412 I6406 J6336 hI6406 fr6411 fjJ6336 fr6410 w6337 e6407 v6405 e6409 (by omega) (by omega) (by omega) (by omega) (by omega))
            · refine WP_aload_n dX11_begin_20 rfl ?_
              refine WP_iload_n dX11_begin_21 rfl ?_
              refine WQ_iconst (0) (0) dX11_begin_22 rfl rfl (fun v6413 hv6413 => ?_)
              refine WQ_iast dX11_begin_23 (ly_is hy 39 13 rfl) (ly_n hy 39 35 rfl) (by omega) (by omega) (fun I6414 fI6414 => ?_)
              have eI6414 := fI6414
              rw [cl (x := i6334) (n := 34) (by omega)] at eI6414
              clear fI6414
              have hI6414 : MP g n L I6414 := by rw [eI6414]; exact (mp_w hy hI6335 (c := 39) (mi_f0 hy hI6335.1 (c := 39) (by decide) (Or.inl (by decide)) (by decide)) (by decide) (by decide) (Or.inl (by decide)))
              have e6415 : I6414 (ad g 39) 32 = w6337 := by rw [eI6414, pp_ne _ _ (Or.inr (by decide))]; exact ew6337
              have e6416 : I6414 (ad g 39) 33 = w6338 := by rw [eI6414, pp_ne _ _ (Or.inr (by decide))]; exact ew6338
              have e6417 : I6414 (ad g 0) 1 = L := by rw [eI6414, pp_ne _ _ (Or.inl (ly_ne hy (by decide) (by decide) (by decide)))]; exact e6340
              have e6418 : I6414 (ad g 39) 34 = v6413 := by rw [eI6414, pp_self]
              have fr6419 : fs g [] I I6414 := by rw [eI6414]; exact fs_ppn hy fqI6335 (by decide) (by decide)
              have fr6420 : fz 49 g [39] I I6414 := by rw [eI6414]; exact fzm_pp hy fiI6335 (by decide) (by decide)
              clear eI6414
              refine WP_iinc (ls' := [(0, _), (1, _), (2, _)]) dX11_begin_24 rfl (by decide) rfl ?_
              have hv6421 : (i6334 + Int32.ofInt (1)).toInt = i6334.toInt + (1) := ia_n rfl (by omega) (by omega)
              generalize i6334 + Int32.ofInt (1) = v6421 at hv6421 ⊢
              refine WP_goto 2 dX11_begin_27 rfl ?_
              exact WP_sub (fc rfl (fc rfl (fc rfl fn))) (ihlp2_6338 v6421 I6414 J6336 hI6414 fr6420 fjJ6336 fr6419 w6337 e6415 w6338 e6416 (by omega) (by omega) (by omega) (by omega) (by omega))
  obtain ⟨w6422, ew6422⟩ : ∃ w : Int32, I (ad g 39) 32 = w := ⟨_, rfl⟩
  have bw6422 := BT_get hI.1.1 39 32 33 (0) (23760) (700000) (by decide) 32 (by decide) (by decide)
  rw [ew6422] at bw6422
  obtain ⟨w6423, ew6423⟩ : ∃ w : Int32, I (ad g 39) 33 = w := ⟨_, rfl⟩
  have bw6423 := BT_get hI.1.1 39 33 34 (0) (1) (30) (by decide) 33 (by decide) (by decide)
  rw [ew6423] at bw6423
  exact WP_sub (fc rfl (fc rfl (fc rfl fn))) (lp2_6338 _ v6333 I J hI fr0 frj0 frq0 w6422 ew6422 w6423 ew6423 (by omega) (by omega) (by omega) (by omega) (Nat.lt_succ_self _))
set_option maxHeartbeats 4000000 in
set_option maxRecDepth 100000 in
theorem sm_forgetWeeksx {g : GG} {n : Int} {L : Int32} (hy : Ly g)  {I : pI} {J : pJ} {R : pR} (hr : Rf g R) (hI : MP g n L I)   : SP g mX11_forgetWeeks [.ref (ad g 0)] I J R (fun r I' J' R' => (MP g n L I' ∧ R' = R ∧ fz 49 g [37] I I' ∧ fz 49 g [] J J' ∧ fs g [] I I') ∧ r = none) := by
  refine SP_of ⟨by decide, rfl⟩ (Nat.le_of_ble_eq_true rfl) ?_
  have e6424 : I (ad g 0) 1 = L := hI.1.2
  have b6425 := BT_get hI.1.1 0 1 2 (0) (0) (900) (by decide) 1 (by decide) (by decide)
  rw [e6424] at b6425
  have fr0 : fz 49 g [37] I I := fz_rf
  have frj0 : fz 49 g [] J J := fz_rf
  have frq0 : fs g [] I I := fs_rf
  refine WQ_iconst (0) (0) dX11_forgetWeeks_0 rfl rfl (fun v6426 hv6426 => ?_)
  refine WP_istore_n (ls' := [(0, _), (1, _)]) dX11_forgetWeeks_1 (by decide) rfl ?_
  have lp2_6429 : ∀ (mz : Nat) (i6427 : Int32) (I6428 : pI) (J6429 : pJ), MP g n L I6428 → fz 49 g [37] I I6428 → fz 49 g [] J J6429 → fs g [] I I6428 → 0 ≤ i6427.toInt → i6427.toInt ≤ 28 → (29 - i6427.toInt).toNat < mz → WP g mX11_forgetWeeks 2 [(0, .ref (ad g 0)), (1, .int i6427)] [] I6428 J6429 R (fun r I' J' R' => (MP g n L I' ∧ R' = R ∧ fz 49 g [37] I I' ∧ fz 49 g [] J J' ∧ fs g [] I I') ∧ r = none) := by
    intro mz
    induction mz with
    | zero =>
      intro i6427 I6428 J6429 hI6428 fiI6428 fjJ6429 fqI6428 ai6427 bi6427 hmlp2_6429
      exact absurd hmlp2_6429 (Nat.not_lt_zero _)
    | succ mz ihlp2_6429 =>
      intro i6427 I6428 J6429 hI6428 fiI6428 fjJ6429 fqI6428 ai6427 bi6427 hmlp2_6429
      have e6431 : I6428 (ad g 0) 1 = L := hI6428.1.2
      have b6432 := BT_get hI6428.1.1 0 1 2 (0) (0) (900) (by decide) 1 (by decide) (by decide)
      rw [e6431] at b6432
      refine WP_iload_n dX11_forgetWeeks_2 rfl ?_
      refine WQ_bipush (28) (28) dX11_forgetWeeks_3 rfl rfl (fun v6433 hv6433 => ?_)
      refine WQ_icmp_ge 21 dX11_forgetWeeks_5 rfl (fun c6433 => ?_) (fun c6433 => ?_)
      · exact WP_vret dX11_forgetWeeks_21 rfl ⟨⟨hI6428, rfl, fiI6428, fjJ6429, fqI6428⟩, rfl⟩
      · refine WP_aload_n dX11_forgetWeeks_8 rfl ?_
        refine WP_getr dX11_forgetWeeks_9 fX11_279 rfl (ly_is hy 0 11 rfl) (rf hr 0 58 37 (by decide)) ?_
        refine WP_iload_n dX11_forgetWeeks_12 rfl ?_
        refine WQ_iconst (0) (0) dX11_forgetWeeks_13 rfl rfl (fun v6435 hv6435 => ?_)
        refine WQ_zast dX11_forgetWeeks_14 (ly_is hy 37 15 rfl) (ly_n hy 37 28 rfl) (by omega) (by omega) (fun I6436 v6437 eI6436 => ?_)
        have hI6436 : MP g n L I6436 := by rw [eI6436]; exact (mp_w hy hI6428 (c := 37) (mi_r0 hy hI6428.1 (c := 37) (by decide) (Or.inl (by decide)) (by decide)) (by decide) (by decide) (Or.inl (by decide)))
        have e6438 : I6436 (ad g 0) 1 = L := by rw [eI6436, pp_ne _ _ (Or.inl (ly_ne hy (by decide) (by decide) (by decide)))]; exact e6431
        have fr6439 : fs g [] I I6436 := by rw [eI6436]; exact fs_ppn hy fqI6428 (by decide) (by decide)
        have fr6440 : fz 49 g [37] I I6436 := by rw [eI6436]; exact fzm_pp hy fiI6428 (by decide) (by decide)
        clear eI6436
        refine WP_iinc (ls' := [(0, _), (1, _)]) dX11_forgetWeeks_15 rfl (by decide) rfl ?_
        have hv6441 : (i6427 + Int32.ofInt (1)).toInt = i6427.toInt + (1) := ia_n rfl (by omega) (by omega)
        generalize i6427 + Int32.ofInt (1) = v6441 at hv6441 ⊢
        refine WP_goto 2 dX11_forgetWeeks_18 rfl ?_
        exact WP_sub (fc rfl (fc rfl fn)) (ihlp2_6429 v6441 I6436 J6429 hI6436 fr6440 fjJ6429 fr6439 (by omega) (by omega) (by omega))
  exact WP_sub (fc rfl (fc rfl fn)) (lp2_6429 _ v6426 I J hI fr0 frj0 frq0 (by omega) (by omega) (Nat.lt_succ_self _))
set_option maxHeartbeats 4000000 in
set_option maxRecDepth 100000 in
theorem sm_runTrial {g : GG} {n : Int} {L : Int32} (hy : Ly g)  {I : pI} {J : pJ} {R : pR} (hr : Rf g R) (hI : MP g n L I) (dd : Int32) (dd_lo : 0 ≤ dd.toInt) (dd_hi : dd.toInt ≤ 28) (hn : 0 ≤ n ∧ n ≤ 40000) : SP g mX11_runTrial [.ref (ad g 0), .int dd] I J R (fun r I' J' R' => (MP g n L I' ∧ R' = R ∧ fz 49 g [0, 35, 36, 37, 39, 40, 41] I I' ∧ fz 49 g [] J J' ∧ fs g [56] I I' ∧ True ∧ I' (ad g 0) 10 = I (ad g 0) 10 ∧ I' (ad g 0) 14 = I (ad g 0) 14 ∧ I' (ad g 0) 68 = I (ad g 0) 68) ∧ r = none) := by
  refine SP_of ⟨by decide, rfl⟩ (Nat.le_of_ble_eq_true rfl) ?_
  have e6442 : I (ad g 0) 1 = L := hI.1.2
  have b6443 := BT_get hI.1.1 0 1 2 (0) (0) (900) (by decide) 1 (by decide) (by decide)
  rw [e6442] at b6443
  have fr0 : fz 49 g [0, 35, 36, 37, 39, 40, 41] I I := fz_rf
  have frj0 : fz 49 g [] J J := fz_rf
  have frq0 : fs g [56] I I := fs_rf
  obtain ⟨w6444, ew6444⟩ : ∃ w : Int32, I (ad g 0) 10 = w := ⟨_, rfl⟩
  have bw6444 := BT_get hI.1.1 0 10 11 (0) (0) (4) (by decide) 10 (by decide) (by decide)
  rw [ew6444] at bw6444
  obtain ⟨w6445, ew6445⟩ : ∃ w : Int32, I (ad g 0) 14 = w := ⟨_, rfl⟩
  have bw6445 := BT_get hI.1.1 0 14 15 (-1) (0) (2) (by decide) 14 (by decide) (by decide)
  rw [ew6445] at bw6445
  obtain ⟨w6446, ew6446⟩ : ∃ w : Int32, I (ad g 0) 68 = w := ⟨_, rfl⟩
  refine WQ_iconst (0) (0) dX11_runTrial_0 rfl rfl (fun v6447 hv6447 => ?_)
  refine WP_istore_n (ls' := [(0, _), (1, _), (2, _)]) dX11_runTrial_1 (by decide) rfl ?_
  have lp2_6453 : ∀ (mz : Nat) (i6448 : Int32) (I6449 : pI) (J6450 : pJ), MP g n L I6449 → fz 49 g [0, 35, 36, 37, 39, 40, 41] I I6449 → fz 49 g [] J J6450 → fs g [56] I I6449 → ∀ (w6451 : Int32), I6449 (ad g 0) 10 = w6451 → ∀ (w6452 : Int32), I6449 (ad g 0) 14 = w6452 → ∀ (w6453 : Int32), I6449 (ad g 0) 68 = w6453 → 0 ≤ i6448.toInt → i6448.toInt ≤ 35 → w6451.toInt = w6444.toInt → w6452.toInt = w6445.toInt → w6453.toInt = w6446.toInt → (36 - i6448.toInt).toNat < mz → WP g mX11_runTrial 2 [(0, .ref (ad g 0)), (1, .int dd), (2, .int i6448)] [] I6449 J6450 R (fun r I' J' R' => (MP g n L I' ∧ R' = R ∧ fz 49 g [0, 35, 36, 37, 39, 40, 41] I I' ∧ fz 49 g [] J J' ∧ fs g [56] I I' ∧ True ∧ I' (ad g 0) 10 = I (ad g 0) 10 ∧ I' (ad g 0) 14 = I (ad g 0) 14 ∧ I' (ad g 0) 68 = I (ad g 0) 68) ∧ r = none) := by
    intro mz
    induction mz with
    | zero =>
      intro i6448 I6449 J6450 hI6449 fiI6449 fjJ6450 fqI6449 w6451 ew6451 w6452 ew6452 w6453 ew6453 ai6448 bi6448 j0_I6449 j1_I6449 j2_I6449 hmlp2_6453
      exact absurd hmlp2_6453 (Nat.not_lt_zero _)
    | succ mz ihlp2_6453 =>
      intro i6448 I6449 J6450 hI6449 fiI6449 fjJ6450 fqI6449 w6451 ew6451 w6452 ew6452 w6453 ew6453 ai6448 bi6448 j0_I6449 j1_I6449 j2_I6449 hmlp2_6453
      have bw6451 := BT_get hI6449.1.1 0 10 11 (0) (0) (4) (by decide) 10 (by decide) (by decide)
      rw [ew6451] at bw6451
      have bw6452 := BT_get hI6449.1.1 0 14 15 (-1) (0) (2) (by decide) 14 (by decide) (by decide)
      rw [ew6452] at bw6452
      have e6455 : I6449 (ad g 0) 1 = L := hI6449.1.2
      have b6456 := BT_get hI6449.1.1 0 1 2 (0) (0) (900) (by decide) 1 (by decide) (by decide)
      rw [e6455] at b6456
      refine WP_iload_n dX11_runTrial_2 rfl ?_
      refine WQ_bipush (35) (35) dX11_runTrial_3 rfl rfl (fun v6457 hv6457 => ?_)
      refine WQ_icmp_ge 26 dX11_runTrial_5 rfl (fun c6457 => ?_) (fun c6457 => ?_)
      · refine WP_aload_n dX11_runTrial_26 rfl ?_
        refine WP_aload_n dX11_runTrial_27 rfl ?_
        refine WP_getr dX11_runTrial_28 fX11_286 rfl (ly_is hy 0 11 rfl) (rf hr 0 60 39 (by decide)) ?_
        refine WP_callV1 (k := 11) dX11_runTrial_31 ⟨⟨⟨by decide, by decide⟩, zX11_begin⟩, lX11_342, by decide, rfl, vX11_begin.1, vX11_begin.2⟩ (ly_is hy 0 11 rfl) (sm_beginx_39 hy hr hI6449   (by omega)) (Nat.le_of_ble_eq_true rfl) ?_
        intro r I6459 J6460 Ra hq
        obtain ⟨⟨hI6459, ec, fiI6459, fjI6459, fqI6459, pI6459⟩, rfl⟩ := hq
        rw [ec]
        clear ec Ra
        have fr6461 : fz 49 g [0, 35, 36, 37, 39, 40, 41] I I6459 := fz_tr fiI6449 (fz_mono fiI6459 (by decide))
        have fr6462 : fs g [56] I I6459 := fs_tr fqI6449 (fs_mono fqI6459 (by decide))
        have fr6463 : fz 49 g [] J J6460 := fz_tr fjJ6450 (fz_mono fjI6459 (by decide))
        have e6464 : I6459 (ad g 0) 10 = w6451 := by rw [fz_at fiI6459 0 (by decide) (by decide)]; exact ew6451
        have e6465 : I6459 (ad g 0) 14 = w6452 := by rw [fz_at fiI6459 0 (by decide) (by decide)]; exact ew6452
        have e6466 : I6459 (ad g 0) 68 = w6453 := by rw [fz_at fiI6459 0 (by decide) (by decide)]; exact ew6453
        have e6467 : I6459 (ad g 0) 1 = L := hI6459.1.2
        have b6468 := BT_get hI6459.1.1 0 1 2 (0) (0) (900) (by decide) 1 (by decide) (by decide)
        rw [e6467] at b6468
        obtain ⟨w6469, ew6469⟩ : ∃ w : Int32, I6459 (ad g 39) 32 = w := ⟨_, rfl⟩
        have bw6469 := BT_get hI6459.1.1 39 32 33 (0) (23760) (700000) (by decide) 32 (by decide) (by decide)
        rw [ew6469] at bw6469
        obtain ⟨w6470, ew6470⟩ : ∃ w : Int32, I6459 (ad g 39) 33 = w := ⟨_, rfl⟩
        have bw6470 := BT_get hI6459.1.1 39 33 34 (0) (1) (30) (by decide) 33 (by decide) (by decide)
        rw [ew6470] at bw6470
        rw [ew6469, ew6470] at pI6459
        refine WQ_iconst (0) (0) dX11_runTrial_34 rfl rfl (fun v6471 hv6471 => ?_)
        refine WP_istore_n (ls' := [(0, _), (1, _), (2, _)]) dX11_runTrial_35 (by decide) rfl ?_
        have lp36_6479 : ∀ (mz : Nat) (i6472 : Int32) (I6473 : pI) (J6474 : pJ), MP g n L I6473 → fz 49 g [0, 35, 36, 37, 39, 40, 41] I I6473 → fz 49 g [] J J6474 → fs g [56] I I6473 → ∀ (w6475 : Int32), I6473 (ad g 39) 32 = w6475 → ∀ (w6476 : Int32), I6473 (ad g 39) 33 = w6476 → ∀ (w6477 : Int32), I6473 (ad g 0) 10 = w6477 → ∀ (w6478 : Int32), I6473 (ad g 0) 14 = w6478 → ∀ (w6479 : Int32), I6473 (ad g 0) 68 = w6479 → 0 ≤ i6472.toInt → i6472.toInt ≤ 21 → w6475.toInt = 0 → w6476.toInt = 0 → w6477.toInt = w6444.toInt → w6478.toInt = w6445.toInt → w6479.toInt = w6446.toInt → (22 - i6472.toInt).toNat < mz → WP g mX11_runTrial 36 [(0, .ref (ad g 0)), (1, .int dd), (2, .int i6472)] [] I6473 J6474 R (fun r I' J' R' => (MP g n L I' ∧ R' = R ∧ fz 49 g [0, 35, 36, 37, 39, 40, 41] I I' ∧ fz 49 g [] J J' ∧ fs g [56] I I' ∧ True ∧ I' (ad g 0) 10 = I (ad g 0) 10 ∧ I' (ad g 0) 14 = I (ad g 0) 14 ∧ I' (ad g 0) 68 = I (ad g 0) 68) ∧ r = none) := by
          intro mz
          induction mz with
          | zero =>
            intro i6472 I6473 J6474 hI6473 fiI6473 fjJ6474 fqI6473 w6475 ew6475 w6476 ew6476 w6477 ew6477 w6478 ew6478 w6479 ew6479 ai6472 bi6472 j0_I6473 j1_I6473 j2_I6473 j3_I6473 j4_I6473 hmlp36_6479
            exact absurd hmlp36_6479 (Nat.not_lt_zero _)
          | succ mz ihlp36_6479 =>
            intro i6472 I6473 J6474 hI6473 fiI6473 fjJ6474 fqI6473 w6475 ew6475 w6476 ew6476 w6477 ew6477 w6478 ew6478 w6479 ew6479 ai6472 bi6472 j0_I6473 j1_I6473 j2_I6473 j3_I6473 j4_I6473 hmlp36_6479
            have bw6475 := BT_get hI6473.1.1 39 32 33 (0) (23760) (700000) (by decide) 32 (by decide) (by decide)
            rw [ew6475] at bw6475
            have bw6476 := BT_get hI6473.1.1 39 33 34 (0) (1) (30) (by decide) 33 (by decide) (by decide)
            rw [ew6476] at bw6476
            have bw6477 := BT_get hI6473.1.1 0 10 11 (0) (0) (4) (by decide) 10 (by decide) (by decide)
            rw [ew6477] at bw6477
            have bw6478 := BT_get hI6473.1.1 0 14 15 (-1) (0) (2) (by decide) 14 (by decide) (by decide)
            rw [ew6478] at bw6478
            have e6481 : I6473 (ad g 0) 1 = L := hI6473.1.2
            have b6482 := BT_get hI6473.1.1 0 1 2 (0) (0) (900) (by decide) 1 (by decide) (by decide)
            rw [e6481] at b6482
            refine WP_iload_n dX11_runTrial_36 rfl ?_
            refine WP_aload_n dX11_runTrial_37 rfl ?_
            refine WP_getr dX11_runTrial_38 fX11_292 rfl (ly_is hy 0 11 rfl) (rf hr 0 63 41 (by decide)) ?_
            refine WP_alen dX11_runTrial_41 (ly_is hy 41 13 rfl) (by decide) ?_
            rw [(ly_n hy 41 21 rfl)]
            obtain ⟨v6483, hv6483, ev6483⟩ : ∃ v : Int32, v.toInt = 21 ∧ nI 21 = v := ⟨_, nI_toInt (by decide), rfl⟩
            rw [ev6483]; clear ev6483
            refine WQ_icmp_ge 58 dX11_runTrial_42 rfl (fun c6483 => ?_) (fun c6483 => ?_)
            · refine WQ_iconst (0) (0) dX11_runTrial_58 rfl rfl (fun v6485 hv6485 => ?_)
              refine WP_istore_n (ls' := [(0, _), (1, _), (2, _)]) dX11_runTrial_59 (by decide) rfl ?_
              have lp60_6493 : ∀ (mz : Nat) (i6486 : Int32) (I6487 : pI) (J6488 : pJ), MP g n L I6487 → fz 49 g [0, 35, 36, 37, 39, 40, 41] I I6487 → fz 49 g [] J J6488 → fs g [56] I I6487 → ∀ (w6489 : Int32), I6487 (ad g 39) 32 = w6489 → ∀ (w6490 : Int32), I6487 (ad g 39) 33 = w6490 → ∀ (w6491 : Int32), I6487 (ad g 0) 10 = w6491 → ∀ (w6492 : Int32), I6487 (ad g 0) 14 = w6492 → ∀ (w6493 : Int32), I6487 (ad g 0) 68 = w6493 → 0 ≤ i6486.toInt → i6486.toInt ≤ 28 → w6489.toInt ≤ 23760 * i6486.toInt → w6490.toInt = i6486.toInt → i6486.toInt ≤ dd.toInt → w6491.toInt = w6444.toInt → w6492.toInt = w6445.toInt → w6493.toInt = w6446.toInt → (29 - i6486.toInt).toNat < mz → WP g mX11_runTrial 60 [(0, .ref (ad g 0)), (1, .int dd), (2, .int i6486)] [] I6487 J6488 R (fun r I' J' R' => (MP g n L I' ∧ R' = R ∧ fz 49 g [0, 35, 36, 37, 39, 40, 41] I I' ∧ fz 49 g [] J J' ∧ fs g [56] I I' ∧ True ∧ I' (ad g 0) 10 = I (ad g 0) 10 ∧ I' (ad g 0) 14 = I (ad g 0) 14 ∧ I' (ad g 0) 68 = I (ad g 0) 68) ∧ r = none) := by
                intro mz
                induction mz with
                | zero =>
                  intro i6486 I6487 J6488 hI6487 fiI6487 fjJ6488 fqI6487 w6489 ew6489 w6490 ew6490 w6491 ew6491 w6492 ew6492 w6493 ew6493 ai6486 bi6486 j0_I6487 j1_I6487 j2_I6487 j3_I6487 j4_I6487 j5_I6487 hmlp60_6493
                  exact absurd hmlp60_6493 (Nat.not_lt_zero _)
                | succ mz ihlp60_6493 =>
                  intro i6486 I6487 J6488 hI6487 fiI6487 fjJ6488 fqI6487 w6489 ew6489 w6490 ew6490 w6491 ew6491 w6492 ew6492 w6493 ew6493 ai6486 bi6486 j0_I6487 j1_I6487 j2_I6487 j3_I6487 j4_I6487 j5_I6487 hmlp60_6493
                  have bw6489 := BT_get hI6487.1.1 39 32 33 (0) (23760) (700000) (by decide) 32 (by decide) (by decide)
                  rw [ew6489] at bw6489
                  have bw6490 := BT_get hI6487.1.1 39 33 34 (0) (1) (30) (by decide) 33 (by decide) (by decide)
                  rw [ew6490] at bw6490
                  have bw6491 := BT_get hI6487.1.1 0 10 11 (0) (0) (4) (by decide) 10 (by decide) (by decide)
                  rw [ew6491] at bw6491
                  have bw6492 := BT_get hI6487.1.1 0 14 15 (-1) (0) (2) (by decide) 14 (by decide) (by decide)
                  rw [ew6492] at bw6492
                  have e6495 : I6487 (ad g 0) 1 = L := hI6487.1.2
                  have b6496 := BT_get hI6487.1.1 0 1 2 (0) (0) (900) (by decide) 1 (by decide) (by decide)
                  rw [e6495] at b6496
                  refine WP_iload_n dX11_runTrial_60 rfl ?_
                  refine WP_iload_n dX11_runTrial_61 rfl ?_
                  refine WQ_icmp_ge 80 dX11_runTrial_62 rfl (fun c6496 => ?_) (fun c6496 => ?_)
                  · exact WP_vret dX11_runTrial_80 rfl ⟨⟨hI6487, rfl, fiI6487, fjJ6488, fqI6487, ⟨trivial, (by rw [ew6491, ew6444] <;> exact (eq32 _ _).mpr (by omega)), (by rw [ew6492, ew6445] <;> exact (eq32 _ _).mpr (by omega)), (by rw [ew6493, ew6446] <;> exact (eq32 _ _).mpr (by omega))⟩⟩, rfl⟩
                  · refine WP_aload_n dX11_runTrial_65 rfl ?_
                    refine WP_aload_n dX11_runTrial_66 rfl ?_
                    refine WP_getr dX11_runTrial_67 fX11_286 rfl (ly_is hy 0 11 rfl) (rf hr 0 60 39 (by decide)) ?_
                    refine WP_callV1 (k := 11) dX11_runTrial_70 ⟨⟨⟨by decide, by decide⟩, zX11_dayOf⟩, lX11_484, by decide, rfl, vX11_dayOf.1, vX11_dayOf.2⟩ (ly_is hy 0 11 rfl) (sm_dayOf_39 hy hr hI6487   (by omega) (by rw [ew6489, ew6490]; omega)) (Nat.le_of_ble_eq_true rfl) ?_
                    intro r I6498 J6499 Ra hq
                    obtain ⟨⟨hI6498, ec, fiI6498, fjI6498, fqI6498, ⟨pI6498, sI6498_0_10, sI6498_0_14, sI6498_0_68⟩⟩, l6500, rfl⟩ := hq
                    show WP _ _ _ _ (.long _ :: _) _ _ _ _
                    rw [ec]
                    clear ec Ra
                    have fr6501 : fz 49 g [0, 35, 36, 37, 39, 40, 41] I I6498 := fz_tr fiI6487 (fz_mono fiI6498 (by decide))
                    have fr6502 : fs g [56] I I6498 := fs_tr fqI6487 (fs_mono fqI6498 (by decide))
                    have fr6503 : fz 49 g [] J J6499 := fz_tr fjJ6488 (fz_mono fjI6498 (by decide))
                    have e6504 : I6498 (ad g 0) 10 = w6491 := by rw [sI6498_0_10]; exact ew6491
                    have e6505 : I6498 (ad g 0) 14 = w6492 := by rw [sI6498_0_14]; exact ew6492
                    have e6506 : I6498 (ad g 0) 68 = w6493 := by rw [sI6498_0_68]; exact ew6493
                    have e6507 : I6498 (ad g 0) 1 = L := hI6498.1.2
                    have b6508 := BT_get hI6498.1.1 0 1 2 (0) (0) (900) (by decide) 1 (by decide) (by decide)
                    rw [e6507] at b6508
                    obtain ⟨w6509, ew6509⟩ : ∃ w : Int32, I6498 (ad g 39) 32 = w := ⟨_, rfl⟩
                    have bw6509 := BT_get hI6498.1.1 39 32 33 (0) (23760) (700000) (by decide) 32 (by decide) (by decide)
                    rw [ew6509] at bw6509
                    obtain ⟨w6510, ew6510⟩ : ∃ w : Int32, I6498 (ad g 39) 33 = w := ⟨_, rfl⟩
                    have bw6510 := BT_get hI6498.1.1 39 33 34 (0) (1) (30) (by decide) 33 (by decide) (by decide)
                    rw [ew6510] at bw6510
                    rw [ew6509, ew6510, ew6489, ew6490] at pI6498
                    refine WP_pop2l dX11_runTrial_73 rfl ?_
                    refine WP_iinc (ls' := [(0, _), (1, _), (2, _)]) dX11_runTrial_74 rfl (by decide) rfl ?_
                    have hv6511 : (i6486 + Int32.ofInt (1)).toInt = i6486.toInt + (1) := ia_n rfl (by omega) (by omega)
                    generalize i6486 + Int32.ofInt (1) = v6511 at hv6511 ⊢
                    refine WP_goto 60 dX11_runTrial_77 rfl ?_
                    exact WP_sub (fc rfl (fc rfl (fc rfl fn))) (ihlp60_6493 v6511 I6498 J6499 hI6498 fr6501 fr6503 fr6502 w6509 ew6509 w6510 ew6510 w6491 e6504 w6492 e6505 w6493 e6506 (by omega) (by omega) (by omega) (by omega) (by omega) (by omega) (by omega) (by omega) (by omega))
              exact WP_sub (fc rfl (fc rfl (fc rfl fn))) (lp60_6493 _ v6485 I6473 J6474 hI6473 fiI6473 fjJ6474 fqI6473 w6475 ew6475 w6476 ew6476 w6477 ew6477 w6478 ew6478 w6479 ew6479 (by omega) (by omega) (by omega) (by omega) (by omega) (by omega) (by omega) (by omega) (Nat.lt_succ_self _))
            · refine WP_aload_n dX11_runTrial_45 rfl ?_
              refine WP_getr dX11_runTrial_46 fX11_292 rfl (ly_is hy 0 11 rfl) (rf hr 0 63 41 (by decide)) ?_
              refine WP_iload_n dX11_runTrial_49 rfl ?_
              refine WQ_iconst (0) (0) dX11_runTrial_50 rfl rfl (fun v6512 hv6512 => ?_)
              refine WQ_iast dX11_runTrial_51 (ly_is hy 41 13 rfl) (ly_n hy 41 21 rfl) (by omega) (by omega) (fun I6513 eI6513 => ?_)
              have hI6513 : MP g n L I6513 := by rw [eI6513]; exact (mp_w hy hI6473 (c := 41) (mi_r0 hy hI6473.1 (c := 41) (by decide) (Or.inl (by decide)) (by decide)) (by decide) (by decide) (Or.inl (by decide)))
              have e6514 : I6513 (ad g 39) 32 = w6475 := by rw [eI6513, pp_ne _ _ (Or.inl (ly_ne hy (by decide) (by decide) (by decide)))]; exact ew6475
              have e6515 : I6513 (ad g 39) 33 = w6476 := by rw [eI6513, pp_ne _ _ (Or.inl (ly_ne hy (by decide) (by decide) (by decide)))]; exact ew6476
              have e6516 : I6513 (ad g 0) 10 = w6477 := by rw [eI6513, pp_ne _ _ (Or.inl (ly_ne hy (by decide) (by decide) (by decide)))]; exact ew6477
              have e6517 : I6513 (ad g 0) 14 = w6478 := by rw [eI6513, pp_ne _ _ (Or.inl (ly_ne hy (by decide) (by decide) (by decide)))]; exact ew6478
              have e6518 : I6513 (ad g 0) 68 = w6479 := by rw [eI6513, pp_ne _ _ (Or.inl (ly_ne hy (by decide) (by decide) (by decide)))]; exact ew6479
              have e6519 : I6513 (ad g 0) 1 = L := by rw [eI6513, pp_ne _ _ (Or.inl (ly_ne hy (by decide) (by decide) (by decide)))]; exact e6481
              have fr6520 : fs g [56] I I6513 := by rw [eI6513]; exact fs_ppn hy fqI6473 (by decide) (by decide)
              have fr6521 : fz 49 g [0, 35, 36, 37, 39, 40, 41] I I6513 := by rw [eI6513]; exact fzm_pp hy fiI6473 (by decide) (by decide)
              clear eI6513
              refine WP_iinc (ls' := [(0, _), (1, _), (2, _)]) dX11_runTrial_52 rfl (by decide) rfl ?_
              have hv6522 : (i6472 + Int32.ofInt (1)).toInt = i6472.toInt + (1) := ia_n rfl (by omega) (by omega)
              generalize i6472 + Int32.ofInt (1) = v6522 at hv6522 ⊢
              refine WP_goto 36 dX11_runTrial_55 rfl ?_
              exact WP_sub (fc rfl (fc rfl (fc rfl fn))) (ihlp36_6479 v6522 I6513 J6474 hI6513 fr6521 fjJ6474 fr6520 w6475 e6514 w6476 e6515 w6477 e6516 w6478 e6517 w6479 e6518 (by omega) (by omega) (by omega) (by omega) (by omega) (by omega) (by omega) (by omega))
        exact WP_sub (fc rfl (fc rfl (fc rfl fn))) (lp36_6479 _ v6471 I6459 J6460 hI6459 fr6461 fr6463 fr6462 w6469 ew6469 w6470 ew6470 w6451 e6464 w6452 e6465 w6453 e6466 (by omega) (by omega) (by omega) (by omega) (by omega) (by omega) (by omega) (Nat.lt_succ_self _))
      · rcases (show (0 ≤ i6448.toInt ∧ i6448.toInt ≤ 3) ∨ (4 ≤ i6448.toInt ∧ i6448.toInt ≤ 7) ∨ (8 ≤ i6448.toInt ∧ i6448.toInt ≤ 31) ∨ (32 ≤ i6448.toInt ∧ i6448.toInt ≤ 32) ∨ (33 ≤ i6448.toInt ∧ i6448.toInt ≤ 33) ∨ (34 ≤ i6448.toInt ∧ i6448.toInt ≤ 34) by omega) with ⟨k6523_0, k6523_1⟩ | ⟨k6523_2, k6523_3⟩ | ⟨k6523_4, k6523_5⟩ | ⟨k6523_6, k6523_7⟩ | ⟨k6523_8, k6523_9⟩ | ⟨k6523_10, k6523_11⟩
        · refine WP_aload_n dX11_runTrial_8 rfl ?_
          refine WP_getr dX11_runTrial_9 fX11_286 rfl (ly_is hy 0 11 rfl) (rf hr 0 60 39 (by decide)) ?_
          refine WP_iload_n dX11_runTrial_12 rfl ?_
          refine WP_aload_n dX11_runTrial_13 rfl ?_
          refine WP_getr dX11_runTrial_14 fX11_283 rfl (ly_is hy 0 11 rfl) (rf hr 0 59 38 (by decide)) ?_
          refine WP_iload_n dX11_runTrial_17 rfl ?_
          refine WQ_ialdr dX11_runTrial_18 (ly_is hy 38 13 rfl) (ly_n hy 38 35 rfl) (by omega) (by omega) (a := 0) (b := 4) (by omega) (by omega) (fun q hq1 hq2 => BT_get hI6449.1.1 38 0 4 (0) (0) (60) (by decide) q hq1 hq2) (fun v6524 av6524 bv6524 => ?_)
          refine WQ_iast dX11_runTrial_19 (ly_is hy 39 13 rfl) (ly_n hy 39 35 rfl) (by omega) (by omega) (fun I6525 eI6525 => ?_)
          have hI6525 : MP g n L I6525 := by rw [eI6525]; exact (mp_w hy hI6449 (c := 39) (mi_rr hy hI6449.1 (c := 39) (0) (3) (0) (0) (60) (by decide) (Or.inl (by decide)) (by rw [cl (n := i6448.toInt.toNat) (by omega)]; omega) (by decide) (fun _ => ⟨by omega, by omega⟩)) (by decide) (by decide) (Or.inl (by decide)))
          have e6526 : I6525 (ad g 0) 10 = w6451 := by rw [eI6525, pp_ne _ _ (Or.inl (ly_ne hy (by decide) (by decide) (by decide)))]; exact ew6451
          have e6527 : I6525 (ad g 0) 14 = w6452 := by rw [eI6525, pp_ne _ _ (Or.inl (ly_ne hy (by decide) (by decide) (by decide)))]; exact ew6452
          have e6528 : I6525 (ad g 0) 68 = w6453 := by rw [eI6525, pp_ne _ _ (Or.inl (ly_ne hy (by decide) (by decide) (by decide)))]; exact ew6453
          have e6529 : I6525 (ad g 0) 1 = L := by rw [eI6525, pp_ne _ _ (Or.inl (ly_ne hy (by decide) (by decide) (by decide)))]; exact e6455
          have fr6530 : fs g [56] I I6525 := by rw [eI6525]; exact fs_ppn hy fqI6449 (by decide) (by decide)
          have fr6531 : fz 49 g [0, 35, 36, 37, 39, 40, 41] I I6525 := by rw [eI6525]; exact fzm_pp hy fiI6449 (by decide) (by decide)
          clear eI6525
          refine WP_iinc (ls' := [(0, _), (1, _), (2, _)]) dX11_runTrial_20 rfl (by decide) rfl ?_
          have hv6532 : (i6448 + Int32.ofInt (1)).toInt = i6448.toInt + (1) := ia_n rfl (by omega) (by omega)
          generalize i6448 + Int32.ofInt (1) = v6532 at hv6532 ⊢
          refine WP_goto 2 dX11_runTrial_23 rfl ?_
          exact WP_sub (fc rfl (fc rfl (fc rfl fn))) (ihlp2_6453 v6532 I6525 J6450 hI6525 fr6531 fjJ6450 fr6530 w6451 e6526 w6452 e6527 w6453 e6528 (by omega) (by omega) (by omega) (by omega) (by omega) (by omega))
        · refine WP_aload_n dX11_runTrial_8 rfl ?_
          refine WP_getr dX11_runTrial_9 fX11_286 rfl (ly_is hy 0 11 rfl) (rf hr 0 60 39 (by decide)) ?_
          refine WP_iload_n dX11_runTrial_12 rfl ?_
          refine WP_aload_n dX11_runTrial_13 rfl ?_
          refine WP_getr dX11_runTrial_14 fX11_283 rfl (ly_is hy 0 11 rfl) (rf hr 0 59 38 (by decide)) ?_
          refine WP_iload_n dX11_runTrial_17 rfl ?_
          refine WQ_ialdr dX11_runTrial_18 (ly_is hy 38 13 rfl) (ly_n hy 38 35 rfl) (by omega) (by omega) (a := 4) (b := 8) (by omega) (by omega) (fun q hq1 hq2 => BT_get hI6449.1.1 38 4 8 (0) (0) (5) (by decide) q hq1 hq2) (fun v6533 av6533 bv6533 => ?_)
          refine WQ_iast dX11_runTrial_19 (ly_is hy 39 13 rfl) (ly_n hy 39 35 rfl) (by omega) (by omega) (fun I6534 eI6534 => ?_)
          have hI6534 : MP g n L I6534 := by rw [eI6534]; exact (mp_w hy hI6449 (c := 39) (mi_rr hy hI6449.1 (c := 39) (4) (7) (0) (0) (5) (by decide) (Or.inl (by decide)) (by rw [cl (n := i6448.toInt.toNat) (by omega)]; omega) (by decide) (fun _ => ⟨by omega, by omega⟩)) (by decide) (by decide) (Or.inl (by decide)))
          have e6535 : I6534 (ad g 0) 10 = w6451 := by rw [eI6534, pp_ne _ _ (Or.inl (ly_ne hy (by decide) (by decide) (by decide)))]; exact ew6451
          have e6536 : I6534 (ad g 0) 14 = w6452 := by rw [eI6534, pp_ne _ _ (Or.inl (ly_ne hy (by decide) (by decide) (by decide)))]; exact ew6452
          have e6537 : I6534 (ad g 0) 68 = w6453 := by rw [eI6534, pp_ne _ _ (Or.inl (ly_ne hy (by decide) (by decide) (by decide)))]; exact ew6453
          have e6538 : I6534 (ad g 0) 1 = L := by rw [eI6534, pp_ne _ _ (Or.inl (ly_ne hy (by decide) (by decide) (by decide)))]; exact e6455
          have fr6539 : fs g [56] I I6534 := by rw [eI6534]; exact fs_ppn hy fqI6449 (by decide) (by decide)
          have fr6540 : fz 49 g [0, 35, 36, 37, 39, 40, 41] I I6534 := by rw [eI6534]; exact fzm_pp hy fiI6449 (by decide) (by decide)
          clear eI6534
          refine WP_iinc (ls' := [(0, _), (1, _), (2, _)]) dX11_runTrial_20 rfl (by decide) rfl ?_
          have hv6541 : (i6448 + Int32.ofInt (1)).toInt = i6448.toInt + (1) := ia_n rfl (by omega) (by omega)
          generalize i6448 + Int32.ofInt (1) = v6541 at hv6541 ⊢
          refine WP_goto 2 dX11_runTrial_23 rfl ?_
          exact WP_sub (fc rfl (fc rfl (fc rfl fn))) (ihlp2_6453 v6541 I6534 J6450 hI6534 fr6540 fjJ6450 fr6539 w6451 e6535 w6452 e6536 w6453 e6537 (by omega) (by omega) (by omega) (by omega) (by omega) (by omega))
        · refine WP_aload_n dX11_runTrial_8 rfl ?_
          refine WP_getr dX11_runTrial_9 fX11_286 rfl (ly_is hy 0 11 rfl) (rf hr 0 60 39 (by decide)) ?_
          refine WP_iload_n dX11_runTrial_12 rfl ?_
          refine WP_aload_n dX11_runTrial_13 rfl ?_
          refine WP_getr dX11_runTrial_14 fX11_283 rfl (ly_is hy 0 11 rfl) (rf hr 0 59 38 (by decide)) ?_
          refine WP_iload_n dX11_runTrial_17 rfl ?_
          refine WQ_ialdu dX11_runTrial_18 (ly_is hy 38 13 rfl) (ly_n hy 38 35 rfl) (by omega) (by omega) (fun v6542 => ?_)
          refine WQ_iast dX11_runTrial_19 (ly_is hy 39 13 rfl) (ly_n hy 39 35 rfl) (by omega) (by omega) (fun I6543 eI6543 => ?_)
          have hI6543 : MP g n L I6543 := by rw [eI6543]; exact (mp_w hy hI6449 (c := 39) (mi_rr hy hI6449.1 (c := 39) (8) (31) (0) (0) (0) (by decide) (Or.inl (by decide)) (by rw [cl (n := i6448.toInt.toNat) (by omega)]; omega) (by decide) (fun h => absurd h (by decide))) (by decide) (by decide) (Or.inl (by decide)))
          have e6544 : I6543 (ad g 0) 10 = w6451 := by rw [eI6543, pp_ne _ _ (Or.inl (ly_ne hy (by decide) (by decide) (by decide)))]; exact ew6451
          have e6545 : I6543 (ad g 0) 14 = w6452 := by rw [eI6543, pp_ne _ _ (Or.inl (ly_ne hy (by decide) (by decide) (by decide)))]; exact ew6452
          have e6546 : I6543 (ad g 0) 68 = w6453 := by rw [eI6543, pp_ne _ _ (Or.inl (ly_ne hy (by decide) (by decide) (by decide)))]; exact ew6453
          have e6547 : I6543 (ad g 0) 1 = L := by rw [eI6543, pp_ne _ _ (Or.inl (ly_ne hy (by decide) (by decide) (by decide)))]; exact e6455
          have fr6548 : fs g [56] I I6543 := by rw [eI6543]; exact fs_ppn hy fqI6449 (by decide) (by decide)
          have fr6549 : fz 49 g [0, 35, 36, 37, 39, 40, 41] I I6543 := by rw [eI6543]; exact fzm_pp hy fiI6449 (by decide) (by decide)
          clear eI6543
          refine WP_iinc (ls' := [(0, _), (1, _), (2, _)]) dX11_runTrial_20 rfl (by decide) rfl ?_
          have hv6550 : (i6448 + Int32.ofInt (1)).toInt = i6448.toInt + (1) := ia_n rfl (by omega) (by omega)
          generalize i6448 + Int32.ofInt (1) = v6550 at hv6550 ⊢
          refine WP_goto 2 dX11_runTrial_23 rfl ?_
          exact WP_sub (fc rfl (fc rfl (fc rfl fn))) (ihlp2_6453 v6550 I6543 J6450 hI6543 fr6549 fjJ6450 fr6548 w6451 e6544 w6452 e6545 w6453 e6546 (by omega) (by omega) (by omega) (by omega) (by omega) (by omega))
        · refine WP_aload_n dX11_runTrial_8 rfl ?_
          refine WP_getr dX11_runTrial_9 fX11_286 rfl (ly_is hy 0 11 rfl) (rf hr 0 60 39 (by decide)) ?_
          refine WP_iload_n dX11_runTrial_12 rfl ?_
          refine WP_aload_n dX11_runTrial_13 rfl ?_
          refine WP_getr dX11_runTrial_14 fX11_283 rfl (ly_is hy 0 11 rfl) (rf hr 0 59 38 (by decide)) ?_
          refine WP_iload_n dX11_runTrial_17 rfl ?_
          refine WQ_ialdr dX11_runTrial_18 (ly_is hy 38 13 rfl) (ly_n hy 38 35 rfl) (by omega) (by omega) (a := 32) (b := 33) (by omega) (by omega) (fun q hq1 hq2 => BT_get hI6449.1.1 38 32 33 (0) (23760) (0) (by decide) q hq1 hq2) (fun v6551 av6551 bv6551 => ?_)
          refine WQ_iast dX11_runTrial_19 (ly_is hy 39 13 rfl) (ly_n hy 39 35 rfl) (by omega) (by omega) (fun I6552 eI6552 => ?_)
          have hI6552 : MP g n L I6552 := by rw [eI6552]; exact (mp_w hy hI6449 (c := 39) (mi_rr hy hI6449.1 (c := 39) (32) (32) (0) (23760) (700000) (by decide) (Or.inl (by decide)) (by rw [cl (n := i6448.toInt.toNat) (by omega)]; omega) (by decide) (fun _ => ⟨by omega, by omega⟩)) (by decide) (by decide) (Or.inl (by decide)))
          have e6553 : I6552 (ad g 0) 10 = w6451 := by rw [eI6552, pp_ne _ _ (Or.inl (ly_ne hy (by decide) (by decide) (by decide)))]; exact ew6451
          have e6554 : I6552 (ad g 0) 14 = w6452 := by rw [eI6552, pp_ne _ _ (Or.inl (ly_ne hy (by decide) (by decide) (by decide)))]; exact ew6452
          have e6555 : I6552 (ad g 0) 68 = w6453 := by rw [eI6552, pp_ne _ _ (Or.inl (ly_ne hy (by decide) (by decide) (by decide)))]; exact ew6453
          have e6556 : I6552 (ad g 0) 1 = L := by rw [eI6552, pp_ne _ _ (Or.inl (ly_ne hy (by decide) (by decide) (by decide)))]; exact e6455
          have fr6557 : fs g [56] I I6552 := by rw [eI6552]; exact fs_ppn hy fqI6449 (by decide) (by decide)
          have fr6558 : fz 49 g [0, 35, 36, 37, 39, 40, 41] I I6552 := by rw [eI6552]; exact fzm_pp hy fiI6449 (by decide) (by decide)
          clear eI6552
          refine WP_iinc (ls' := [(0, _), (1, _), (2, _)]) dX11_runTrial_20 rfl (by decide) rfl ?_
          have hv6559 : (i6448 + Int32.ofInt (1)).toInt = i6448.toInt + (1) := ia_n rfl (by omega) (by omega)
          generalize i6448 + Int32.ofInt (1) = v6559 at hv6559 ⊢
          refine WP_goto 2 dX11_runTrial_23 rfl ?_
          exact WP_sub (fc rfl (fc rfl (fc rfl fn))) (ihlp2_6453 v6559 I6552 J6450 hI6552 fr6558 fjJ6450 fr6557 w6451 e6553 w6452 e6554 w6453 e6555 (by omega) (by omega) (by omega) (by omega) (by omega) (by omega))
        · refine WP_aload_n dX11_runTrial_8 rfl ?_
          refine WP_getr dX11_runTrial_9 fX11_286 rfl (ly_is hy 0 11 rfl) (rf hr 0 60 39 (by decide)) ?_
          refine WP_iload_n dX11_runTrial_12 rfl ?_
          refine WP_aload_n dX11_runTrial_13 rfl ?_
          refine WP_getr dX11_runTrial_14 fX11_283 rfl (ly_is hy 0 11 rfl) (rf hr 0 59 38 (by decide)) ?_
          refine WP_iload_n dX11_runTrial_17 rfl ?_
          refine WQ_ialdr dX11_runTrial_18 (ly_is hy 38 13 rfl) (ly_n hy 38 35 rfl) (by omega) (by omega) (a := 33) (b := 34) (by omega) (by omega) (fun q hq1 hq2 => BT_get hI6449.1.1 38 33 34 (0) (1) (0) (by decide) q hq1 hq2) (fun v6560 av6560 bv6560 => ?_)
          refine WQ_iast dX11_runTrial_19 (ly_is hy 39 13 rfl) (ly_n hy 39 35 rfl) (by omega) (by omega) (fun I6561 eI6561 => ?_)
          have hI6561 : MP g n L I6561 := by rw [eI6561]; exact (mp_w hy hI6449 (c := 39) (mi_rr hy hI6449.1 (c := 39) (33) (33) (0) (1) (30) (by decide) (Or.inl (by decide)) (by rw [cl (n := i6448.toInt.toNat) (by omega)]; omega) (by decide) (fun _ => ⟨by omega, by omega⟩)) (by decide) (by decide) (Or.inl (by decide)))
          have e6562 : I6561 (ad g 0) 10 = w6451 := by rw [eI6561, pp_ne _ _ (Or.inl (ly_ne hy (by decide) (by decide) (by decide)))]; exact ew6451
          have e6563 : I6561 (ad g 0) 14 = w6452 := by rw [eI6561, pp_ne _ _ (Or.inl (ly_ne hy (by decide) (by decide) (by decide)))]; exact ew6452
          have e6564 : I6561 (ad g 0) 68 = w6453 := by rw [eI6561, pp_ne _ _ (Or.inl (ly_ne hy (by decide) (by decide) (by decide)))]; exact ew6453
          have e6565 : I6561 (ad g 0) 1 = L := by rw [eI6561, pp_ne _ _ (Or.inl (ly_ne hy (by decide) (by decide) (by decide)))]; exact e6455
          have fr6566 : fs g [56] I I6561 := by rw [eI6561]; exact fs_ppn hy fqI6449 (by decide) (by decide)
          have fr6567 : fz 49 g [0, 35, 36, 37, 39, 40, 41] I I6561 := by rw [eI6561]; exact fzm_pp hy fiI6449 (by decide) (by decide)
          clear eI6561
          refine WP_iinc (ls' := [(0, _), (1, _), (2, _)]) dX11_runTrial_20 rfl (by decide) rfl ?_
          have hv6568 : (i6448 + Int32.ofInt (1)).toInt = i6448.toInt + (1) := ia_n rfl (by omega) (by omega)
          generalize i6448 + Int32.ofInt (1) = v6568 at hv6568 ⊢
          refine WP_goto 2 dX11_runTrial_23 rfl ?_
          exact WP_sub (fc rfl (fc rfl (fc rfl fn))) (ihlp2_6453 v6568 I6561 J6450 hI6561 fr6567 fjJ6450 fr6566 w6451 e6562 w6452 e6563 w6453 e6564 (by omega) (by omega) (by omega) (by omega) (by omega) (by omega))
        · refine WP_aload_n dX11_runTrial_8 rfl ?_
          refine WP_getr dX11_runTrial_9 fX11_286 rfl (ly_is hy 0 11 rfl) (rf hr 0 60 39 (by decide)) ?_
          refine WP_iload_n dX11_runTrial_12 rfl ?_
          refine WP_aload_n dX11_runTrial_13 rfl ?_
          refine WP_getr dX11_runTrial_14 fX11_283 rfl (ly_is hy 0 11 rfl) (rf hr 0 59 38 (by decide)) ?_
          refine WP_iload_n dX11_runTrial_17 rfl ?_
          refine WQ_ialdu dX11_runTrial_18 (ly_is hy 38 13 rfl) (ly_n hy 38 35 rfl) (by omega) (by omega) (fun v6569 => ?_)
          refine WQ_iast dX11_runTrial_19 (ly_is hy 39 13 rfl) (ly_n hy 39 35 rfl) (by omega) (by omega) (fun I6570 eI6570 => ?_)
          have hI6570 : MP g n L I6570 := by rw [eI6570]; exact (mp_w hy hI6449 (c := 39) (mi_rr hy hI6449.1 (c := 39) (34) (34) (0) (0) (0) (by decide) (Or.inl (by decide)) (by rw [cl (n := i6448.toInt.toNat) (by omega)]; omega) (by decide) (fun h => absurd h (by decide))) (by decide) (by decide) (Or.inl (by decide)))
          have e6571 : I6570 (ad g 0) 10 = w6451 := by rw [eI6570, pp_ne _ _ (Or.inl (ly_ne hy (by decide) (by decide) (by decide)))]; exact ew6451
          have e6572 : I6570 (ad g 0) 14 = w6452 := by rw [eI6570, pp_ne _ _ (Or.inl (ly_ne hy (by decide) (by decide) (by decide)))]; exact ew6452
          have e6573 : I6570 (ad g 0) 68 = w6453 := by rw [eI6570, pp_ne _ _ (Or.inl (ly_ne hy (by decide) (by decide) (by decide)))]; exact ew6453
          have e6574 : I6570 (ad g 0) 1 = L := by rw [eI6570, pp_ne _ _ (Or.inl (ly_ne hy (by decide) (by decide) (by decide)))]; exact e6455
          have fr6575 : fs g [56] I I6570 := by rw [eI6570]; exact fs_ppn hy fqI6449 (by decide) (by decide)
          have fr6576 : fz 49 g [0, 35, 36, 37, 39, 40, 41] I I6570 := by rw [eI6570]; exact fzm_pp hy fiI6449 (by decide) (by decide)
          clear eI6570
          refine WP_iinc (ls' := [(0, _), (1, _), (2, _)]) dX11_runTrial_20 rfl (by decide) rfl ?_
          have hv6577 : (i6448 + Int32.ofInt (1)).toInt = i6448.toInt + (1) := ia_n rfl (by omega) (by omega)
          generalize i6448 + Int32.ofInt (1) = v6577 at hv6577 ⊢
          refine WP_goto 2 dX11_runTrial_23 rfl ?_
          exact WP_sub (fc rfl (fc rfl (fc rfl fn))) (ihlp2_6453 v6577 I6570 J6450 hI6570 fr6576 fjJ6450 fr6575 w6451 e6571 w6452 e6572 w6453 e6573 (by omega) (by omega) (by omega) (by omega) (by omega) (by omega))
  exact WP_sub (fc rfl (fc rfl (fc rfl fn))) (lp2_6453 _ v6447 I J hI fr0 frj0 frq0 w6444 ew6444 w6445 ew6445 w6446 ew6446 (by omega) (by omega) (by omega) (by omega) (by omega) (Nat.lt_succ_self _))
set_option maxHeartbeats 4000000 in
set_option maxRecDepth 100000 in
theorem sm_worthOf {g : GG} {n : Int} {L : Int32} (hy : Ly g)  {I : pI} {J : pJ} {R : pR} (hr : Rf g R) (hI : MP g n L I) (ra : Int32) (we : Int32) (ra_lo : 0 ≤ ra.toInt) (ra_hi : ra.toInt ≤ 18) (we_lo : 1 ≤ we.toInt) (we_hi : we.toInt ≤ 4) (hn : 0 ≤ n ∧ n ≤ 40000) : SP g mX11_worthOf [.ref (ad g 0), .int ra, .int we] I J R (fun r I' J' R' => (MP g n L I' ∧ R' = R ∧ fz 49 g [0, 35, 36, 37, 39, 40, 41] I I' ∧ fz 49 g [] J J' ∧ fs g [55, 56] I I') ∧ ∃ v : Int32, r = some (.int v)) := by
  refine SP_of ⟨by decide, rfl⟩ (Nat.le_of_ble_eq_true rfl) ?_
  have e6578 : I (ad g 0) 1 = L := hI.1.2
  have b6579 := BT_get hI.1.1 0 1 2 (0) (0) (900) (by decide) 1 (by decide) (by decide)
  rw [e6578] at b6579
  have fr0 : fz 49 g [0, 35, 36, 37, 39, 40, 41] I I := fz_rf
  have frj0 : fz 49 g [] J J := fz_rf
  have frq0 : fs g [55, 56] I I := fs_rf
  refine WP_aload_n dX11_worthOf_0 rfl ?_
  refine WQ_bipush (50) (50) dX11_worthOf_1 rfl rfl (fun v6580 hv6580 => ?_)
  refine WP_iload_n dX11_worthOf_3 rfl ?_
  refine WQ_imulK (50) dX11_worthOf_4 hv6580 (by omega) (by omega) (fun v6581 hv6581 => ?_)
  refine WQ_puti dX11_worthOf_5 fX11_273 rfl rfl (ly_is hy 0 11 rfl) (fun I6582 eI6582 => ?_)
  have hI6582 : MP g n L I6582 := by rw [eI6582]; exact (mp_w hy hI (c := 0) (mi_f hy hI.1 (c := 0) (-1) (0) (900) (by decide) (Or.inr (by decide)) (by decide) (by omega) (by omega)) (by decide) (by decide) (Or.inr (by decide)))
  have e6583 : I6582 (ad g 0) 1 = L := by rw [eI6582, pp_ne _ _ (Or.inr (by decide))]; exact e6578
  have e6584 : I6582 (ad g 0) 55 = v6581 := by rw [eI6582, pp_self]
  have fr6585 : fs g [55, 56] I I6582 := by rw [eI6582]; exact fs_pp0 frq0 (by decide)
  have fr6586 : fz 49 g [0, 35, 36, 37, 39, 40, 41] I I6582 := by rw [eI6582]; exact fzm_pp hy fr0 (by decide) (by decide)
  clear eI6582
  refine WP_aload_n dX11_worthOf_8 rfl ?_
  refine WP_callV0 (k := 11) dX11_worthOf_9 ⟨⟨⟨by decide, by decide⟩, zX11_forgetWeeks⟩, lX11_350, by decide, rfl, vX11_forgetWeeks.1, vX11_forgetWeeks.2⟩ (ly_is hy 0 11 rfl) (sm_forgetWeeksx hy hr hI6582  ) (Nat.le_of_ble_eq_true rfl) ?_
  intro r I6587 J6588 Ra hq
  obtain ⟨⟨hI6587, ec, fiI6587, fjI6587, fqI6587⟩, rfl⟩ := hq
  rw [ec]
  clear ec Ra
  have fr6589 : fz 49 g [0, 35, 36, 37, 39, 40, 41] I I6587 := fz_tr fr6586 (fz_mono fiI6587 (by decide))
  have fr6590 : fs g [55, 56] I I6587 := fs_tr fr6585 (fs_mono fqI6587 (by decide))
  have fr6591 : fz 49 g [] J J6588 := fz_tr frj0 (fz_mono fjI6587 (by decide))
  have e6592 : I6587 (ad g 0) 55 = v6581 := by rw [fz_at fiI6587 0 (by decide) (by decide)]; exact e6584
  have e6593 : I6587 (ad g 0) 1 = L := hI6587.1.2
  have b6594 := BT_get hI6587.1.1 0 1 2 (0) (0) (900) (by decide) 1 (by decide) (by decide)
  rw [e6593] at b6594
  refine WP_aload_n dX11_worthOf_12 rfl ?_
  refine WQ_bipush (7) (7) dX11_worthOf_13 rfl rfl (fun v6595 hv6595 => ?_)
  refine WP_iload_n dX11_worthOf_15 rfl ?_
  refine WQ_imulK (7) dX11_worthOf_16 hv6595 (by omega) (by omega) (fun v6596 hv6596 => ?_)
  refine WP_callV1 (k := 11) dX11_worthOf_17 ⟨⟨⟨by decide, by decide⟩, zX11_runTrial⟩, lX11_497, by decide, rfl, vX11_runTrial.1, vX11_runTrial.2⟩ (ly_is hy 0 11 rfl) (sm_runTrial hy hr hI6587 v6596 (by omega) (by omega) (by omega)) (Nat.le_of_ble_eq_true rfl) ?_
  intro r I6597 J6598 Ra hq
  obtain ⟨⟨hI6597, ec, fiI6597, fjI6597, fqI6597, ⟨pI6597, sI6597_0_10, sI6597_0_14, sI6597_0_68⟩⟩, rfl⟩ := hq
  rw [ec]
  clear ec Ra
  have fr6599 : fz 49 g [0, 35, 36, 37, 39, 40, 41] I I6597 := fz_tr fr6589 (fz_mono fiI6597 (by decide))
  have fr6600 : fs g [55, 56] I I6597 := fs_tr fr6590 (fs_mono fqI6597 (by decide))
  have fr6601 : fz 49 g [] J J6598 := fz_tr fr6591 (fz_mono fjI6597 (by decide))
  have e6602 : I6597 (ad g 0) 1 = L := hI6597.1.2
  have b6603 := BT_get hI6597.1.1 0 1 2 (0) (0) (900) (by decide) 1 (by decide) (by decide)
  rw [e6602] at b6603
  refine WP_aload_n dX11_worthOf_20 rfl ?_
  refine WQ_iconst (-1) (-1) dX11_worthOf_21 rfl rfl (fun v6604 hv6604 => ?_)
  refine WQ_puti dX11_worthOf_22 fX11_273 rfl rfl (ly_is hy 0 11 rfl) (fun I6605 eI6605 => ?_)
  have hI6605 : MP g n L I6605 := by rw [eI6605]; exact (mp_w hy hI6597 (c := 0) (mi_f hy hI6597.1 (c := 0) (-1) (0) (900) (by decide) (Or.inr (by decide)) (by decide) (by omega) (by omega)) (by decide) (by decide) (Or.inr (by decide)))
  have e6606 : I6605 (ad g 0) 1 = L := by rw [eI6605, pp_ne _ _ (Or.inr (by decide))]; exact e6602
  have e6607 : I6605 (ad g 0) 55 = v6604 := by rw [eI6605, pp_self]
  have fr6608 : fs g [55, 56] I I6605 := by rw [eI6605]; exact fs_pp0 fr6600 (by decide)
  have fr6609 : fz 49 g [0, 35, 36, 37, 39, 40, 41] I I6605 := by rw [eI6605]; exact fzm_pp hy fr6599 (by decide) (by decide)
  clear eI6605
  refine WP_aload_n dX11_worthOf_25 rfl ?_
  refine WP_callV0 (k := 11) dX11_worthOf_26 ⟨⟨⟨by decide, by decide⟩, zX11_forgetWeeks⟩, lX11_350, by decide, rfl, vX11_forgetWeeks.1, vX11_forgetWeeks.2⟩ (ly_is hy 0 11 rfl) (sm_forgetWeeksx hy hr hI6605  ) (Nat.le_of_ble_eq_true rfl) ?_
  intro r I6610 J6611 Ra hq
  obtain ⟨⟨hI6610, ec, fiI6610, fjI6610, fqI6610⟩, rfl⟩ := hq
  rw [ec]
  clear ec Ra
  have fr6612 : fz 49 g [0, 35, 36, 37, 39, 40, 41] I I6610 := fz_tr fr6609 (fz_mono fiI6610 (by decide))
  have fr6613 : fs g [55, 56] I I6610 := fs_tr fr6608 (fs_mono fqI6610 (by decide))
  have fr6614 : fz 49 g [] J J6611 := fz_tr fr6601 (fz_mono fjI6610 (by decide))
  have e6615 : I6610 (ad g 0) 55 = v6604 := by rw [fz_at fiI6610 0 (by decide) (by decide)]; exact e6607
  have e6616 : I6610 (ad g 0) 1 = L := hI6610.1.2
  have b6617 := BT_get hI6610.1.1 0 1 2 (0) (0) (900) (by decide) 1 (by decide) (by decide)
  rw [e6616] at b6617
  refine WQ_iconst (0) (0) dX11_worthOf_29 rfl rfl (fun v6618 hv6618 => ?_)
  refine WP_istore_n (ls' := [(0, _), (1, _), (2, _), (3, _)]) dX11_worthOf_30 (by decide) rfl ?_
  refine WQ_iconst (0) (0) dX11_worthOf_31 rfl rfl (fun v6619 hv6619 => ?_)
  refine WP_istore (ls' := [(0, _), (1, _), (2, _), (3, _), (4, _)]) dX11_worthOf_32 (by decide) rfl ?_
  have lp34_6621 : ∀ (mz : Nat) (i6620 : Int32) (i6621 : Int32), 0 ≤ i6621.toInt → i6621.toInt ≤ 4 → (5 - i6621.toInt).toNat < mz → WP g mX11_worthOf 34 [(0, .ref (ad g 0)), (1, .int ra), (2, .int we), (3, .int i6620), (4, .int i6621)] [] I6610 J6611 R (fun r I' J' R' => (MP g n L I' ∧ R' = R ∧ fz 49 g [0, 35, 36, 37, 39, 40, 41] I I' ∧ fz 49 g [] J J' ∧ fs g [55, 56] I I') ∧ ∃ v : Int32, r = some (.int v)) := by
    intro mz
    induction mz with
    | zero =>
      intro i6620 i6621 ai6621 bi6621 hmlp34_6621
      exact absurd hmlp34_6621 (Nat.not_lt_zero _)
    | succ mz ihlp34_6621 =>
      intro i6620 i6621 ai6621 bi6621 hmlp34_6621
      refine WP_iload dX11_worthOf_34 rfl ?_
      refine WP_aload_n dX11_worthOf_36 rfl ?_
      refine WQ_geti dX11_worthOf_37 fX11_329 rfl (ly_is hy 0 11 rfl) (BT_get hI6610.1.1 0 10 11 (0) (0) (4) (by decide) 10 (by decide) (by decide)) (fun v6623 ev6623 av6623 bv6623 => ?_)
      refine WQ_icmp_ge 62 dX11_worthOf_40 rfl (fun c6623 => ?_) (fun c6623 => ?_)
      · refine WP_iload_n dX11_worthOf_62 rfl ?_
        exact WP_iret dX11_worthOf_63 rfl ⟨⟨hI6610, rfl, fr6612, fr6614, fr6613⟩, _, rfl⟩
      · refine WP_iload_n dX11_worthOf_43 rfl ?_
        refine WP_aload_n dX11_worthOf_44 rfl ?_
        refine WP_getr dX11_worthOf_45 fX11_286 rfl (ly_is hy 0 11 rfl) (rf hr 0 60 39 (by decide)) ?_
        refine WQ_bipush (16) (16) dX11_worthOf_48 rfl rfl (fun v6625 hv6625 => ?_)
        refine WP_iload dX11_worthOf_50 rfl ?_
        refine WQ_iadd dX11_worthOf_52 (by omega) (by omega) (fun v6626 hv6626 => ?_)
        refine WQ_ialdu dX11_worthOf_53 (ly_is hy 39 13 rfl) (ly_n hy 39 35 rfl) (by omega) (by omega) (fun v6627 => ?_)
        refine WQ_iaddu dX11_worthOf_54 (fun v6628 => ?_)
        refine WP_istore_n (ls' := [(0, _), (1, _), (2, _), (3, _), (4, _)]) dX11_worthOf_55 (by decide) rfl ?_
        refine WP_iinc (ls' := [(0, _), (1, _), (2, _), (3, _), (4, _)]) dX11_worthOf_56 rfl (by decide) rfl ?_
        have hv6629 : (i6621 + Int32.ofInt (1)).toInt = i6621.toInt + (1) := ia_n rfl (by omega) (by omega)
        generalize i6621 + Int32.ofInt (1) = v6629 at hv6629 ⊢
        refine WP_goto 34 dX11_worthOf_59 rfl ?_
        exact WP_sub (fc rfl (fc rfl (fc rfl (fc rfl (fc rfl fn))))) (ihlp34_6621 v6628 v6629 (by omega) (by omega) (by omega))
  exact WP_sub (fc rfl (fc rfl (fc rfl (fc rfl (fc rfl fn))))) (lp34_6621 _ v6618 v6619 (by omega) (by omega) (Nat.lt_succ_self _))
set_option maxHeartbeats 4000000 in
set_option maxRecDepth 100000 in
theorem sm_worthAt {g : GG} {n : Int} {L : Int32} (hy : Ly g)  {I : pI} {J : pJ} {R : pR} (hr : Rf g R) (hI : MP g n L I) (a : Int32) (b : Int32)  (hn : 0 ≤ n ∧ n ≤ 40000) : SP g mX11_worthAt [.ref (ad g 0), .int a, .int b] I J R (fun r I' J' R' => (MP g n L I' ∧ R' = R ∧ fz 49 g [0, 35, 36, 37, 39, 40, 41] I I' ∧ fz 49 g [] J J' ∧ fs g [55, 56] I I') ∧ ∃ v : Int32, r = some (.int v)) := by
  refine SP_of ⟨by decide, rfl⟩ (Nat.le_of_ble_eq_true rfl) ?_
  have e6630 : I (ad g 0) 1 = L := hI.1.2
  have b6631 := BT_get hI.1.1 0 1 2 (0) (0) (900) (by decide) 1 (by decide) (by decide)
  rw [e6630] at b6631
  have fr0 : fz 49 g [0, 35, 36, 37, 39, 40, 41] I I := fz_rf
  have frj0 : fz 49 g [] J J := fz_rf
  have frq0 : fs g [55, 56] I I := fs_rf
  refine WP_iload_n dX11_worthAt_0 rfl ?_
  refine WQ_i2l dX11_worthAt_1 (fun l6632 hl6632 => ?_)
  refine WP_lconst (0) dX11_worthAt_2 rfl ?_
  obtain ⟨l6633, hl6633, el6633⟩ : ∃ v : Int64, v.toInt = 0 ∧ (0 : Int64) = v := ⟨_, rfl, rfl⟩
  rw [el6633]; clear el6633
  refine WP_ldc2 (18) dX11_worthAt_3 klX11_500 ?_
  obtain ⟨l6634, hl6634, el6634⟩ : ∃ v : Int64, v.toInt = (18) ∧ ((18) : Int64) = v := ⟨_, rfl, rfl⟩
  rw [el6634]; clear el6634
  refine WP_callS3 dX11_worthAt_6 ⟨⟨⟨by decide, by decide⟩, zX11_in⟩, lX11_52, tX11_in⟩ (sm_in hy hr hI l6632 l6633 l6634 ) (Nat.le_of_ble_eq_true rfl) ?_
  intro r Ia Ja Ra hq
  obtain ⟨⟨ea, eb, ec⟩, v6635, rfl, av6635, bv6635, cv6635⟩ := hq
  show WP _ _ _ _ (.int _ :: _) _ _ _ _
  rw [ea, eb, ec]
  clear ea eb ec Ia Ja Ra
  refine WQ_if_eq 33 dX11_worthAt_9 rfl (fun c6635 => ?_) (fun c6635 => ?_)
  · refine WQ_bipush (-2) (-2) dX11_worthAt_33 rfl rfl (fun v6637 hv6637 => ?_)
    exact WP_iret dX11_worthAt_35 rfl ⟨⟨hI, rfl, fr0, frj0, frq0⟩, _, rfl⟩
  · refine WP_iload_n dX11_worthAt_12 rfl ?_
    refine WQ_i2l dX11_worthAt_13 (fun l6638 hl6638 => ?_)
    refine WP_lconst (1) dX11_worthAt_14 rfl ?_
    obtain ⟨l6639, hl6639, el6639⟩ : ∃ v : Int64, v.toInt = 1 ∧ (1 : Int64) = v := ⟨_, rfl, rfl⟩
    rw [el6639]; clear el6639
    refine WP_ldc2 (4) dX11_worthAt_15 klX11_452 ?_
    obtain ⟨l6640, hl6640, el6640⟩ : ∃ v : Int64, v.toInt = (4) ∧ ((4) : Int64) = v := ⟨_, rfl, rfl⟩
    rw [el6640]; clear el6640
    refine WP_callS3 dX11_worthAt_18 ⟨⟨⟨by decide, by decide⟩, zX11_in⟩, lX11_52, tX11_in⟩ (sm_in hy hr hI l6638 l6639 l6640 ) (Nat.le_of_ble_eq_true rfl) ?_
    intro r Ia Ja Ra hq
    obtain ⟨⟨ea, eb, ec⟩, v6641, rfl, av6641, bv6641, cv6641⟩ := hq
    show WP _ _ _ _ (.int _ :: _) _ _ _ _
    rw [ea, eb, ec]
    clear ea eb ec Ia Ja Ra
    refine WQ_if_eq 33 dX11_worthAt_21 rfl (fun c6641 => ?_) (fun c6641 => ?_)
    · refine WQ_bipush (-2) (-2) dX11_worthAt_33 rfl rfl (fun v6643 hv6643 => ?_)
      exact WP_iret dX11_worthAt_35 rfl ⟨⟨hI, rfl, fr0, frj0, frq0⟩, _, rfl⟩
    · refine WP_aload_n dX11_worthAt_24 rfl ?_
      refine WP_iload_n dX11_worthAt_25 rfl ?_
      refine WP_iload_n dX11_worthAt_26 rfl ?_
      refine WP_callV2 (k := 11) dX11_worthAt_27 ⟨⟨⟨by decide, by decide⟩, zX11_worthOf⟩, lX11_502, by decide, rfl, vX11_worthOf.1, vX11_worthOf.2⟩ (ly_is hy 0 11 rfl) (sm_worthOf hy hr hI a b (by omega) (by omega) (by omega) (by omega) (by omega)) (Nat.le_of_ble_eq_true rfl) ?_
      intro r I6644 J6645 Ra hq
      obtain ⟨⟨hI6644, ec, fiI6644, fjI6644, fqI6644⟩, v6646, rfl⟩ := hq
      show WP _ _ _ _ (.int _ :: _) _ _ _ _
      rw [ec]
      clear ec Ra
      have fr6647 : fz 49 g [0, 35, 36, 37, 39, 40, 41] I I6644 := fz_tr fr0 (fz_mono fiI6644 (by decide))
      have fr6648 : fs g [55, 56] I I6644 := fs_tr frq0 (fs_mono fqI6644 (by decide))
      have fr6649 : fz 49 g [] J J6645 := fz_tr frj0 (fz_mono fjI6644 (by decide))
      have e6650 : I6644 (ad g 0) 1 = L := hI6644.1.2
      have b6651 := BT_get hI6644.1.1 0 1 2 (0) (0) (900) (by decide) 1 (by decide) (by decide)
      rw [e6650] at b6651
      refine WP_goto 35 dX11_worthAt_30 rfl ?_
      exact WP_iret dX11_worthAt_35 rfl ⟨⟨hI6644, rfl, fr6647, fr6649, fr6648⟩, _, rfl⟩
set_option maxHeartbeats 4000000 in
set_option maxRecDepth 100000 in
theorem sm_rate {g : GG} {n : Int} {L : Int32} (hy : Ly g)  {I : pI} {J : pJ} {R : pR} (hr : Rf g R) (hI : MP g n L I) (a : Int32)  (hn : 0 ≤ n ∧ n ≤ 40000) : SP g mX11_rate [.ref (ad g 0), .int a] I J R (fun r I' J' R' => (MP g n L I' ∧ R' = R ∧ fz 49 g [0, 35, 36, 37, 39, 40, 41] I I' ∧ fz 49 g [] J J' ∧ fs g [55, 56] I I') ∧ ∃ v : Int32, r = some (.int v)) := by
  refine SP_of ⟨by decide, rfl⟩ (Nat.le_of_ble_eq_true rfl) ?_
  have e6652 : I (ad g 0) 1 = L := hI.1.2
  have b6653 := BT_get hI.1.1 0 1 2 (0) (0) (900) (by decide) 1 (by decide) (by decide)
  rw [e6652] at b6653
  have fr0 : fz 49 g [0, 35, 36, 37, 39, 40, 41] I I := fz_rf
  have frj0 : fz 49 g [] J J := fz_rf
  have frq0 : fs g [55, 56] I I := fs_rf
  refine WP_iload_n dX11_rate_0 rfl ?_
  refine WQ_i2l dX11_rate_1 (fun l6654 hl6654 => ?_)
  refine WP_lconst (1) dX11_rate_2 rfl ?_
  obtain ⟨l6655, hl6655, el6655⟩ : ∃ v : Int64, v.toInt = 1 ∧ (1 : Int64) = v := ⟨_, rfl, rfl⟩
  rw [el6655]; clear el6655
  refine WP_ldc2 (4) dX11_rate_3 klX11_452 ?_
  obtain ⟨l6656, hl6656, el6656⟩ : ∃ v : Int64, v.toInt = (4) ∧ ((4) : Int64) = v := ⟨_, rfl, rfl⟩
  rw [el6656]; clear el6656
  refine WP_callS3 dX11_rate_6 ⟨⟨⟨by decide, by decide⟩, zX11_in⟩, lX11_52, tX11_in⟩ (sm_in hy hr hI l6654 l6655 l6656 ) (Nat.le_of_ble_eq_true rfl) ?_
  intro r Ia Ja Ra hq
  obtain ⟨⟨ea, eb, ec⟩, v6657, rfl, av6657, bv6657, cv6657⟩ := hq
  show WP _ _ _ _ (.int _ :: _) _ _ _ _
  rw [ea, eb, ec]
  clear ea eb ec Ia Ja Ra
  refine WQ_if_ne 15 dX11_rate_9 rfl (fun c6657 => ?_) (fun c6657 => ?_)
  · refine WQ_iconst (0) (0) dX11_rate_15 rfl rfl (fun v6659 hv6659 => ?_)
    refine WP_istore_n (ls' := [(0, _), (1, _), (2, _)]) dX11_rate_16 (by decide) rfl ?_
    refine WQ_iconst (-1) (-1) dX11_rate_17 rfl rfl (fun v6660 hv6660 => ?_)
    refine WP_istore_n (ls' := [(0, _), (1, _), (2, _), (3, _)]) dX11_rate_18 (by decide) rfl ?_
    refine WQ_iconst (0) (0) dX11_rate_19 rfl rfl (fun v6661 hv6661 => ?_)
    refine WP_istore (ls' := [(0, _), (1, _), (2, _), (3, _), (4, _)]) dX11_rate_20 (by decide) rfl ?_
    have lp22_6666 : ∀ (mz : Nat) (i6662 : Int32) (i6663 : Int32) (i6664 : Int32) (I6665 : pI) (J6666 : pJ), MP g n L I6665 → fz 49 g [0, 35, 36, 37, 39, 40, 41] I I6665 → fz 49 g [] J J6666 → fs g [55, 56] I I6665 → 0 ≤ i6664.toInt → i6664.toInt ≤ 19 → (20 - i6664.toInt).toNat < mz → WP g mX11_rate 22 [(0, .ref (ad g 0)), (1, .int a), (2, .int i6662), (3, .int i6663), (4, .int i6664)] [] I6665 J6666 R (fun r I' J' R' => (MP g n L I' ∧ R' = R ∧ fz 49 g [0, 35, 36, 37, 39, 40, 41] I I' ∧ fz 49 g [] J J' ∧ fs g [55, 56] I I') ∧ ∃ v : Int32, r = some (.int v)) := by
      intro mz
      induction mz with
      | zero =>
        intro i6662 i6663 i6664 I6665 J6666 hI6665 fiI6665 fjJ6666 fqI6665 ai6664 bi6664 hmlp22_6666
        exact absurd hmlp22_6666 (Nat.not_lt_zero _)
      | succ mz ihlp22_6666 =>
        intro i6662 i6663 i6664 I6665 J6666 hI6665 fiI6665 fjJ6666 fqI6665 ai6664 bi6664 hmlp22_6666
        have e6668 : I6665 (ad g 0) 1 = L := hI6665.1.2
        have b6669 := BT_get hI6665.1.1 0 1 2 (0) (0) (900) (by decide) 1 (by decide) (by decide)
        rw [e6668] at b6669
        refine WP_iload dX11_rate_22 rfl ?_
        refine WQ_bipush (19) (19) dX11_rate_24 rfl rfl (fun v6670 hv6670 => ?_)
        refine WQ_icmp_ge 59 dX11_rate_26 rfl (fun c6670 => ?_) (fun c6670 => ?_)
        · refine WP_iload_n dX11_rate_59 rfl ?_
          exact WP_iret dX11_rate_60 rfl ⟨⟨hI6665, rfl, fiI6665, fjJ6666, fqI6665⟩, _, rfl⟩
        · refine WP_aload_n dX11_rate_29 rfl ?_
          refine WP_iload dX11_rate_30 rfl ?_
          refine WP_iload_n dX11_rate_32 rfl ?_
          refine WP_callV2 (k := 11) dX11_rate_33 ⟨⟨⟨by decide, by decide⟩, zX11_worthOf⟩, lX11_502, by decide, rfl, vX11_worthOf.1, vX11_worthOf.2⟩ (ly_is hy 0 11 rfl) (sm_worthOf hy hr hI6665 i6664 a (by omega) (by omega) (by omega) (by omega) (by omega)) (Nat.le_of_ble_eq_true rfl) ?_
          intro r I6672 J6673 Ra hq
          obtain ⟨⟨hI6672, ec, fiI6672, fjI6672, fqI6672⟩, v6674, rfl⟩ := hq
          show WP _ _ _ _ (.int _ :: _) _ _ _ _
          rw [ec]
          clear ec Ra
          have fr6675 : fz 49 g [0, 35, 36, 37, 39, 40, 41] I I6672 := fz_tr fiI6665 (fz_mono fiI6672 (by decide))
          have fr6676 : fs g [55, 56] I I6672 := fs_tr fqI6665 (fs_mono fqI6672 (by decide))
          have fr6677 : fz 49 g [] J J6673 := fz_tr fjJ6666 (fz_mono fjI6672 (by decide))
          have e6678 : I6672 (ad g 0) 1 = L := hI6672.1.2
          have b6679 := BT_get hI6672.1.1 0 1 2 (0) (0) (900) (by decide) 1 (by decide) (by decide)
          rw [e6678] at b6679
          refine WP_istore (ls' := [(0, _), (1, _), (2, _), (3, _), (4, _), (5, _)]) dX11_rate_36 (by decide) rfl ?_
          refine WP_iload dX11_rate_38 rfl ?_
          refine WP_iload_n dX11_rate_40 rfl ?_
          refine WQ_icmp_gt 47 dX11_rate_41 rfl (fun c6679 => ?_) (fun c6679 => ?_)
          · refine WP_iload dX11_rate_47 rfl ?_
            refine WP_istore_n (ls' := [(0, _), (1, _), (2, _), (3, _), (4, _), (5, _)]) dX11_rate_49 (by decide) rfl ?_
            refine WP_iload dX11_rate_50 rfl ?_
            refine WP_istore_n (ls' := [(0, _), (1, _), (2, _), (3, _), (4, _), (5, _)]) dX11_rate_52 (by decide) rfl ?_
            refine WP_iinc (ls' := [(0, _), (1, _), (2, _), (3, _), (4, _), (5, _)]) dX11_rate_53 rfl (by decide) rfl ?_
            have hv6681 : (i6664 + Int32.ofInt (1)).toInt = i6664.toInt + (1) := ia_n rfl (by omega) (by omega)
            generalize i6664 + Int32.ofInt (1) = v6681 at hv6681 ⊢
            refine WP_goto 22 dX11_rate_56 rfl ?_
            exact WP_sub (fc rfl (fc rfl (fc rfl (fc rfl (fc rfl fn))))) (ihlp22_6666 i6664 v6674 v6681 I6672 J6673 hI6672 fr6675 fr6677 fr6676 (by omega) (by omega) (by omega))
          · refine WP_goto 53 dX11_rate_44 rfl ?_
            refine WP_iinc (ls' := [(0, _), (1, _), (2, _), (3, _), (4, _), (5, _)]) dX11_rate_53 rfl (by decide) rfl ?_
            have hv6682 : (i6664 + Int32.ofInt (1)).toInt = i6664.toInt + (1) := ia_n rfl (by omega) (by omega)
            generalize i6664 + Int32.ofInt (1) = v6682 at hv6682 ⊢
            refine WP_goto 22 dX11_rate_56 rfl ?_
            exact WP_sub (fc rfl (fc rfl (fc rfl (fc rfl (fc rfl fn))))) (ihlp22_6666 i6662 i6663 v6682 I6672 J6673 hI6672 fr6675 fr6677 fr6676 (by omega) (by omega) (by omega))
    exact WP_sub (fc rfl (fc rfl (fc rfl (fc rfl (fc rfl fn))))) (lp22_6666 _ v6659 v6660 v6661 I J hI fr0 frj0 frq0 (by omega) (by omega) (Nat.lt_succ_self _))
  · refine WQ_bipush (-2) (-2) dX11_rate_12 rfl rfl (fun v6683 hv6683 => ?_)
    exact WP_iret dX11_rate_14 rfl ⟨⟨hI, rfl, fr0, frj0, frq0⟩, _, rfl⟩
set_option maxHeartbeats 4000000 in
set_option maxRecDepth 100000 in
theorem sm_turn {g : GG} {n : Int} {L : Int32} (hy : Ly g)  {I : pI} {J : pJ} {R : pR} (hr : Rf g R) (hI : MP g n L I)   (hn : 0 ≤ n ∧ n ≤ 40000) : SP g mX11_turn [.ref (ad g 0)] I J R (fun r I' J' R' => (MP g n L I' ∧ R' = R ∧ fz 49 g [0, 22, 35, 36, 37, 39, 40, 41] I I' ∧ fz 49 g [] J J' ∧ fs g [56, 64] I I' ∧ True ∧ I' (ad g 0) 68 = I (ad g 0) 68) ∧ ∃ v : Int32, r = some (.int v) ∧ 0 ≤ v.toInt ∧ v.toInt ≤ 1) := by
  refine SP_of ⟨by decide, rfl⟩ (Nat.le_of_ble_eq_true rfl) ?_
  have e6684 : I (ad g 0) 1 = L := hI.1.2
  have b6685 := BT_get hI.1.1 0 1 2 (0) (0) (900) (by decide) 1 (by decide) (by decide)
  rw [e6684] at b6685
  have fr0 : fz 49 g [0, 22, 35, 36, 37, 39, 40, 41] I I := fz_rf
  have frj0 : fz 49 g [] J J := fz_rf
  have frq0 : fs g [56, 64] I I := fs_rf
  obtain ⟨w6686, ew6686⟩ : ∃ w : Int32, I (ad g 0) 68 = w := ⟨_, rfl⟩
  refine WP_aload_n dX11_turn_0 rfl ?_
  refine WQ_iconst (1) (1) dX11_turn_1 rfl rfl (fun v6687 hv6687 => ?_)
  refine WQ_putz dX11_turn_2 fX11_470 rfl rfl (by omega) (ly_is hy 0 11 rfl) (fun I6688 eI6688 => ?_)
  have hI6688 : MP g n L I6688 := by rw [eI6688]; exact (mp_w hy hI (c := 0) (mi_f hy hI.1 (c := 0) (0) (0) (1) (by decide) (Or.inr (by decide)) (by decide) (by omega) (by omega)) (by decide) (by decide) (Or.inr (by decide)))
  have e6689 : I6688 (ad g 0) 1 = L := by rw [eI6688, pp_ne _ _ (Or.inr (by decide))]; exact e6684
  have e6690 : I6688 (ad g 0) 68 = w6686 := by rw [eI6688, pp_ne _ _ (Or.inr (by decide))]; exact ew6686
  have e6691 : I6688 (ad g 0) 64 = v6687 := by rw [eI6688, pp_self]
  have fr6692 : fs g [56, 64] I I6688 := by rw [eI6688]; exact fs_pp0 frq0 (by decide)
  have fr6693 : fz 49 g [0, 22, 35, 36, 37, 39, 40, 41] I I6688 := by rw [eI6688]; exact fzm_pp hy fr0 (by decide) (by decide)
  clear eI6688
  refine WP_aload_n dX11_turn_5 rfl ?_
  refine WQ_bipush (7) (7) dX11_turn_6 rfl rfl (fun v6694 hv6694 => ?_)
  refine WP_callV1 (k := 11) dX11_turn_8 ⟨⟨⟨by decide, by decide⟩, zX11_runTrial⟩, lX11_497, by decide, rfl, vX11_runTrial.1, vX11_runTrial.2⟩ (ly_is hy 0 11 rfl) (sm_runTrial hy hr hI6688 v6694 (by omega) (by omega) (by omega)) (Nat.le_of_ble_eq_true rfl) ?_
  intro r I6695 J6696 Ra hq
  obtain ⟨⟨hI6695, ec, fiI6695, fjI6695, fqI6695, ⟨pI6695, sI6695_0_10, sI6695_0_14, sI6695_0_68⟩⟩, rfl⟩ := hq
  rw [ec]
  clear ec Ra
  have fr6697 : fz 49 g [0, 22, 35, 36, 37, 39, 40, 41] I I6695 := fz_tr fr6693 (fz_mono fiI6695 (by decide))
  have fr6698 : fs g [56, 64] I I6695 := fs_tr fr6692 (fs_mono fqI6695 (by decide))
  have fr6699 : fz 49 g [] J J6696 := fz_tr frj0 (fz_mono fjI6695 (by decide))
  have e6700 : I6695 (ad g 0) 68 = w6686 := by rw [sI6695_0_68]; exact e6690
  have e6701 : I6695 (ad g 0) 1 = L := hI6695.1.2
  have b6702 := BT_get hI6695.1.1 0 1 2 (0) (0) (900) (by decide) 1 (by decide) (by decide)
  rw [e6701] at b6702
  refine WP_aload_n dX11_turn_11 rfl ?_
  refine WQ_iconst (0) (0) dX11_turn_12 rfl rfl (fun v6703 hv6703 => ?_)
  refine WQ_putz dX11_turn_13 fX11_470 rfl rfl (by omega) (ly_is hy 0 11 rfl) (fun I6704 eI6704 => ?_)
  have hI6704 : MP g n L I6704 := by rw [eI6704]; exact (mp_w hy hI6695 (c := 0) (mi_f hy hI6695.1 (c := 0) (0) (0) (1) (by decide) (Or.inr (by decide)) (by decide) (by omega) (by omega)) (by decide) (by decide) (Or.inr (by decide)))
  have e6705 : I6704 (ad g 0) 68 = w6686 := by rw [eI6704, pp_ne _ _ (Or.inr (by decide))]; exact e6700
  have e6706 : I6704 (ad g 0) 1 = L := by rw [eI6704, pp_ne _ _ (Or.inr (by decide))]; exact e6701
  have e6707 : I6704 (ad g 0) 64 = v6703 := by rw [eI6704, pp_self]
  have fr6708 : fs g [56, 64] I I6704 := by rw [eI6704]; exact fs_pp0 fr6698 (by decide)
  have fr6709 : fz 49 g [0, 22, 35, 36, 37, 39, 40, 41] I I6704 := by rw [eI6704]; exact fzm_pp hy fr6697 (by decide) (by decide)
  clear eI6704
  refine WQ_iconst (0) (0) dX11_turn_16 rfl rfl (fun v6710 hv6710 => ?_)
  refine WP_istore_n (ls' := [(0, _), (1, _)]) dX11_turn_17 (by decide) rfl ?_
  refine WQ_iconst (0) (0) dX11_turn_18 rfl rfl (fun v6711 hv6711 => ?_)
  refine WP_istore_n (ls' := [(0, _), (1, _), (2, _)]) dX11_turn_19 (by decide) rfl ?_
  have lp20_6716 : ∀ (mz : Nat) (i6712 : Int32) (i6713 : Int32) (I6714 : pI) (J6715 : pJ), MP g n L I6714 → fz 49 g [0, 22, 35, 36, 37, 39, 40, 41] I I6714 → fz 49 g [] J J6715 → fs g [56, 64] I I6714 → ∀ (w6716 : Int32), I6714 (ad g 0) 68 = w6716 → 0 ≤ i6712.toInt → i6712.toInt ≤ 1 → 0 ≤ i6713.toInt → i6713.toInt ≤ 21 → w6716.toInt = w6686.toInt → (22 - i6713.toInt).toNat < mz → WP g mX11_turn 20 [(0, .ref (ad g 0)), (1, .int i6712), (2, .int i6713)] [] I6714 J6715 R (fun r I' J' R' => (MP g n L I' ∧ R' = R ∧ fz 49 g [0, 22, 35, 36, 37, 39, 40, 41] I I' ∧ fz 49 g [] J J' ∧ fs g [56, 64] I I' ∧ True ∧ I' (ad g 0) 68 = I (ad g 0) 68) ∧ ∃ v : Int32, r = some (.int v) ∧ 0 ≤ v.toInt ∧ v.toInt ≤ 1) := by
    intro mz
    induction mz with
    | zero =>
      intro i6712 i6713 I6714 J6715 hI6714 fiI6714 fjJ6715 fqI6714 w6716 ew6716 ai6712 bi6712 ai6713 bi6713 j0_I6714 hmlp20_6716
      exact absurd hmlp20_6716 (Nat.not_lt_zero _)
    | succ mz ihlp20_6716 =>
      intro i6712 i6713 I6714 J6715 hI6714 fiI6714 fjJ6715 fqI6714 w6716 ew6716 ai6712 bi6712 ai6713 bi6713 j0_I6714 hmlp20_6716
      have e6718 : I6714 (ad g 0) 1 = L := hI6714.1.2
      have b6719 := BT_get hI6714.1.1 0 1 2 (0) (0) (900) (by decide) 1 (by decide) (by decide)
      rw [e6718] at b6719
      refine WP_iload_n dX11_turn_20 rfl ?_
      refine WQ_bipush (7) (7) dX11_turn_21 rfl rfl (fun v6720 hv6720 => ?_)
      refine WP_aload_n dX11_turn_23 rfl ?_
      refine WQ_geti dX11_turn_24 fX11_332 rfl (ly_is hy 0 11 rfl) (BT_get hI6714.1.1 0 11 12 (0) (0) (3) (by decide) 11 (by decide) (by decide)) (fun v6721 ev6721 av6721 bv6721 => ?_)
      refine WQ_imulK (7) dX11_turn_27 hv6720 (by omega) (by omega) (fun v6722 hv6722 => ?_)
      refine WQ_icmp_ge 145 dX11_turn_28 rfl (fun c6722 => ?_) (fun c6722 => ?_)
      · refine WP_aload_n dX11_turn_145 rfl ?_
        refine WP_callV0 (k := 11) dX11_turn_146 ⟨⟨⟨by decide, by decide⟩, zX11_forgetWeeks⟩, lX11_350, by decide, rfl, vX11_forgetWeeks.1, vX11_forgetWeeks.2⟩ (ly_is hy 0 11 rfl) (sm_forgetWeeksx hy hr hI6714  ) (Nat.le_of_ble_eq_true rfl) ?_
        intro r I6724 J6725 Ra hq
        obtain ⟨⟨hI6724, ec, fiI6724, fjI6724, fqI6724⟩, rfl⟩ := hq
        rw [ec]
        clear ec Ra
        have fr6726 : fz 49 g [0, 22, 35, 36, 37, 39, 40, 41] I I6724 := fz_tr fiI6714 (fz_mono fiI6724 (by decide))
        have fr6727 : fs g [56, 64] I I6724 := fs_tr fqI6714 (fs_mono fqI6724 (by decide))
        have fr6728 : fz 49 g [] J J6725 := fz_tr fjJ6715 (fz_mono fjI6724 (by decide))
        have e6729 : I6724 (ad g 0) 68 = w6716 := by rw [fz_at fiI6724 0 (by decide) (by decide)]; exact ew6716
        have e6730 : I6724 (ad g 0) 11 = v6721 := by rw [fz_at fiI6724 0 (by decide) (by decide)]; exact ev6721
        have e6731 : I6724 (ad g 0) 1 = L := hI6724.1.2
        have b6732 := BT_get hI6724.1.1 0 1 2 (0) (0) (900) (by decide) 1 (by decide) (by decide)
        rw [e6731] at b6732
        refine WP_iload_n dX11_turn_149 rfl ?_
        exact WP_zret dX11_turn_150 rfl (nar_z (by omega)) ⟨⟨hI6724, rfl, fr6726, fr6728, fr6727, ⟨trivial, (by rw [e6729, ew6686] <;> exact (eq32 _ _).mpr (by omega))⟩⟩, _, rfl, by omega, by omega⟩
      · refine WP_aload_n dX11_turn_31 rfl ?_
        refine WP_getr dX11_turn_32 fX11_259 rfl (ly_is hy 0 11 rfl) (rf hr 0 41 23 (by decide)) ?_
        refine WP_iload_n dX11_turn_35 rfl ?_
        refine WQ_iald dX11_turn_36 (ly_is hy 23 13 rfl) (ly_n hy 23 21 rfl) (by omega) (by omega) (fun q hq => BT_get hI6714.1.1 23 0 21 (-1) (0) (999) (by decide) q (Nat.zero_le _) hq) (fun v6733 av6733 bv6733 ev6733 => ?_)
        clear ev6733
        refine WQ_iconst (-1) (-1) dX11_turn_37 rfl rfl (fun v6734 hv6734 => ?_)
        refine WQ_icmp_ne 44 dX11_turn_38 rfl (fun c6734 => ?_) (fun c6734 => ?_)
        · refine WP_aload_n dX11_turn_44 rfl ?_
          refine WP_getr dX11_turn_45 fX11_292 rfl (ly_is hy 0 11 rfl) (rf hr 0 63 41 (by decide)) ?_
          refine WP_iload_n dX11_turn_48 rfl ?_
          refine WQ_ialdu dX11_turn_49 (ly_is hy 41 13 rfl) (ly_n hy 41 21 rfl) (by omega) (by omega) (fun v6736 => ?_)
          refine WP_aload_n dX11_turn_50 rfl ?_
          refine WP_getr dX11_turn_51 fX11_259 rfl (ly_is hy 0 11 rfl) (rf hr 0 41 23 (by decide)) ?_
          refine WP_iload_n dX11_turn_54 rfl ?_
          refine WQ_iald dX11_turn_55 (ly_is hy 23 13 rfl) (ly_n hy 23 21 rfl) (by omega) (by omega) (fun q hq => BT_get hI6714.1.1 23 0 21 (-1) (0) (999) (by decide) q (Nat.zero_le _) hq) (fun v6737 av6737 bv6737 ev6737 => ?_)
          clear ev6737
          have jn111_6752 : ∀ (v6752 : Int32), 0 ≤ v6752.toInt → v6752.toInt ≤ 20 → WP g mX11_turn 111 [(0, .ref (ad g 0)), (1, .int i6712), (2, .int i6713)] [.int v6752] I6714 J6715 R (fun r I' J' R' => (MP g n L I' ∧ R' = R ∧ fz 49 g [0, 22, 35, 36, 37, 39, 40, 41] I I' ∧ fz 49 g [] J J' ∧ fs g [56, 64] I I' ∧ True ∧ I' (ad g 0) 68 = I (ad g 0) 68) ∧ ∃ v : Int32, r = some (.int v) ∧ 0 ≤ v.toInt ∧ v.toInt ≤ 1) := by
            intro v6752 av6752 bv6752
            refine WP_istore_n (ls' := [(0, _), (1, _), (2, _), (3, _)]) dX11_turn_111 (by decide) rfl ?_
            refine WP_iload_n dX11_turn_112 rfl ?_
            have jn131_6759 : ∀ (v6759 : Int32), 0 ≤ v6759.toInt → v6759.toInt ≤ 1 → WP g mX11_turn 131 [(0, .ref (ad g 0)), (1, .int i6712), (2, .int i6713), (3, .int v6752)] [.int v6759] I6714 J6715 R (fun r I' J' R' => (MP g n L I' ∧ R' = R ∧ fz 49 g [0, 22, 35, 36, 37, 39, 40, 41] I I' ∧ fz 49 g [] J J' ∧ fs g [56, 64] I I' ∧ True ∧ I' (ad g 0) 68 = I (ad g 0) 68) ∧ ∃ v : Int32, r = some (.int v) ∧ 0 ≤ v.toInt ∧ v.toInt ≤ 1) := by
              intro v6759 av6759 bv6759
              refine WP_istore_n (ls' := [(0, _), (1, _), (2, _), (3, _)]) dX11_turn_131 (by decide) rfl ?_
              refine WP_aload_n dX11_turn_132 rfl ?_
              refine WP_getr dX11_turn_133 fX11_257 rfl (ly_is hy 0 11 rfl) (rf hr 0 40 22 (by decide)) ?_
              refine WP_iload_n dX11_turn_136 rfl ?_
              refine WP_iload_n dX11_turn_137 rfl ?_
              refine WQ_iast dX11_turn_138 (ly_is hy 22 13 rfl) (ly_n hy 22 21 rfl) (by omega) (by omega) (fun I6761 eI6761 => ?_)
              have hI6761 : MP g n L I6761 := by rw [eI6761]; exact (mp_w hy hI6714 (c := 22) (mi_r hy hI6714.1 (c := 22) (0) (0) (20) (by decide) (Or.inl (by decide)) (by decide) (by omega) (by omega)) (by decide) (by decide) (Or.inl (by decide)))
              have e6762 : I6761 (ad g 0) 68 = w6716 := by rw [eI6761, pp_ne _ _ (Or.inl (ly_ne hy (by decide) (by decide) (by decide)))]; exact ew6716
              have e6763 : I6761 (ad g 0) 1 = L := by rw [eI6761, pp_ne _ _ (Or.inl (ly_ne hy (by decide) (by decide) (by decide)))]; exact e6718
              have e6764 : I6761 (ad g 0) 11 = v6721 := by rw [eI6761, pp_ne _ _ (Or.inl (ly_ne hy (by decide) (by decide) (by decide)))]; exact ev6721
              have fr6765 : fs g [56, 64] I I6761 := by rw [eI6761]; exact fs_ppn hy fqI6714 (by decide) (by decide)
              have fr6766 : fz 49 g [0, 22, 35, 36, 37, 39, 40, 41] I I6761 := by rw [eI6761]; exact fzm_pp hy fiI6714 (by decide) (by decide)
              clear eI6761
              refine WP_iinc (ls' := [(0, _), (1, _), (2, _), (3, _)]) dX11_turn_139 rfl (by decide) rfl ?_
              have hv6767 : (i6713 + Int32.ofInt (1)).toInt = i6713.toInt + (1) := ia_n rfl (by omega) (by omega)
              generalize i6713 + Int32.ofInt (1) = v6767 at hv6767 ⊢
              refine WP_goto 20 dX11_turn_142 rfl ?_
              exact WP_sub (fc rfl (fc rfl (fc rfl fn))) (ihlp20_6716 v6759 v6767 I6761 J6715 hI6761 fr6766 fjJ6715 fr6765 w6716 e6762 (by omega) (by omega) (by omega) (by omega) (by omega) (by omega))
            refine WQ_if_ne 126 dX11_turn_113 rfl (fun c6767 => ?_) (fun c6767 => ?_)
            · refine WQ_iconst (1) (1) dX11_turn_126 rfl rfl (fun v6769 hv6769 => ?_)
              refine WP_goto 131 dX11_turn_127 rfl ?_
              exact WP_sub (fc rfl (fc rfl (fc rfl (fc rfl fn)))) (jn131_6759 v6769 (by omega) (by omega))
            · refine WP_iload_n dX11_turn_116 rfl ?_
              refine WP_aload_n dX11_turn_117 rfl ?_
              refine WP_getr dX11_turn_118 fX11_257 rfl (ly_is hy 0 11 rfl) (rf hr 0 40 22 (by decide)) ?_
              refine WP_iload_n dX11_turn_121 rfl ?_
              refine WQ_iald dX11_turn_122 (ly_is hy 22 13 rfl) (ly_n hy 22 21 rfl) (by omega) (by omega) (fun q hq => BT_get hI6714.1.1 22 0 21 (0) (0) (20) (by decide) q (Nat.zero_le _) hq) (fun v6770 av6770 bv6770 ev6770 => ?_)
              clear ev6770
              refine WQ_icmp_eq 130 dX11_turn_123 rfl (fun c6770 => ?_) (fun c6770 => ?_)
              · refine WQ_iconst (0) (0) dX11_turn_130 rfl rfl (fun v6772 hv6772 => ?_)
                exact WP_sub (fc rfl (fc rfl (fc rfl (fc rfl fn)))) (jn131_6759 v6772 (by omega) (by omega))
              · refine WQ_iconst (1) (1) dX11_turn_126 rfl rfl (fun v6773 hv6773 => ?_)
                refine WP_goto 131 dX11_turn_127 rfl ?_
                exact WP_sub (fc rfl (fc rfl (fc rfl (fc rfl fn)))) (jn131_6759 v6773 (by omega) (by omega))
          refine WQ_icmp_le 75 dX11_turn_56 rfl (fun c6773 => ?_) (fun c6773 => ?_)
          · refine WP_aload_n dX11_turn_75 rfl ?_
            refine WP_getr dX11_turn_76 fX11_292 rfl (ly_is hy 0 11 rfl) (rf hr 0 63 41 (by decide)) ?_
            refine WP_iload_n dX11_turn_79 rfl ?_
            refine WQ_ialdu dX11_turn_80 (ly_is hy 41 13 rfl) (ly_n hy 41 21 rfl) (by omega) (by omega) (fun v6775 => ?_)
            refine WP_aload_n dX11_turn_81 rfl ?_
            refine WP_getr dX11_turn_82 fX11_259 rfl (ly_is hy 0 11 rfl) (rf hr 0 41 23 (by decide)) ?_
            refine WP_iload_n dX11_turn_85 rfl ?_
            refine WQ_iald dX11_turn_86 (ly_is hy 23 13 rfl) (ly_n hy 23 21 rfl) (by omega) (by omega) (fun q hq => BT_get hI6714.1.1 23 0 21 (-1) (0) (999) (by decide) q (Nat.zero_le _) hq) (fun v6776 av6776 bv6776 ev6776 => ?_)
            clear ev6776
            refine WQ_icmp_ge 105 dX11_turn_87 rfl (fun c6776 => ?_) (fun c6776 => ?_)
            · refine WP_aload_n dX11_turn_105 rfl ?_
              refine WP_getr dX11_turn_106 fX11_257 rfl (ly_is hy 0 11 rfl) (rf hr 0 40 22 (by decide)) ?_
              refine WP_iload_n dX11_turn_109 rfl ?_
              refine WQ_iald dX11_turn_110 (ly_is hy 22 13 rfl) (ly_n hy 22 21 rfl) (by omega) (by omega) (fun q hq => BT_get hI6714.1.1 22 0 21 (0) (0) (20) (by decide) q (Nat.zero_le _) hq) (fun v6778 av6778 bv6778 ev6778 => ?_)
              clear ev6778
              exact WP_sub (fc rfl (fc rfl (fc rfl fn))) (jn111_6752 v6778 (by omega) (by omega))
            · refine WQ_iconst (1) (1) dX11_turn_90 rfl rfl (fun v6779 hv6779 => ?_)
              refine WP_aload_n dX11_turn_91 rfl ?_
              refine WP_getr dX11_turn_92 fX11_257 rfl (ly_is hy 0 11 rfl) (rf hr 0 40 22 (by decide)) ?_
              refine WP_iload_n dX11_turn_95 rfl ?_
              refine WQ_iald dX11_turn_96 (ly_is hy 22 13 rfl) (ly_n hy 22 21 rfl) (by omega) (by omega) (fun q hq => BT_get hI6714.1.1 22 0 21 (0) (0) (20) (by decide) q (Nat.zero_le _) hq) (fun v6780 av6780 bv6780 ev6780 => ?_)
              clear ev6780
              refine WQ_iconst (1) (1) dX11_turn_97 rfl rfl (fun v6781 hv6781 => ?_)
              refine WQ_isub dX11_turn_98 (by omega) (by omega) (fun v6782 hv6782 => ?_)
              refine WQ_max dX11_turn_99 lX11_387 ⟨by decide, Nat.le_of_ble_eq_true rfl⟩ (fun v6783 av6783 bv6783 cv6783 => ?_)
              refine WP_goto 111 dX11_turn_102 rfl ?_
              exact WP_sub (fc rfl (fc rfl (fc rfl fn))) (jn111_6752 v6783 (by omega) (by omega))
          · refine WQ_bipush (20) (20) dX11_turn_59 rfl rfl (fun v6784 hv6784 => ?_)
            refine WP_aload_n dX11_turn_61 rfl ?_
            refine WP_getr dX11_turn_62 fX11_257 rfl (ly_is hy 0 11 rfl) (rf hr 0 40 22 (by decide)) ?_
            refine WP_iload_n dX11_turn_65 rfl ?_
            refine WQ_iald dX11_turn_66 (ly_is hy 22 13 rfl) (ly_n hy 22 21 rfl) (by omega) (by omega) (fun q hq => BT_get hI6714.1.1 22 0 21 (0) (0) (20) (by decide) q (Nat.zero_le _) hq) (fun v6785 av6785 bv6785 ev6785 => ?_)
            clear ev6785
            refine WQ_iconst (1) (1) dX11_turn_67 rfl rfl (fun v6786 hv6786 => ?_)
            refine WQ_iadd dX11_turn_68 (by omega) (by omega) (fun v6787 hv6787 => ?_)
            refine WQ_min dX11_turn_69 lX11_417 ⟨by decide, Nat.le_of_ble_eq_true rfl⟩ (fun v6788 av6788 bv6788 cv6788 => ?_)
            refine WP_goto 111 dX11_turn_72 rfl ?_
            exact WP_sub (fc rfl (fc rfl (fc rfl fn))) (jn111_6752 v6788 (by omega) (by omega))
        · refine WP_goto 139 dX11_turn_41 rfl ?_
          refine WP_iinc (ls' := [(0, _), (1, _), (2, _)]) dX11_turn_139 rfl (by decide) rfl ?_
          have hv6789 : (i6713 + Int32.ofInt (1)).toInt = i6713.toInt + (1) := ia_n rfl (by omega) (by omega)
          generalize i6713 + Int32.ofInt (1) = v6789 at hv6789 ⊢
          refine WP_goto 20 dX11_turn_142 rfl ?_
          exact WP_sub (fc rfl (fc rfl (fc rfl fn))) (ihlp20_6716 i6712 v6789 I6714 J6715 hI6714 fiI6714 fjJ6715 fqI6714 w6716 ew6716 (by omega) (by omega) (by omega) (by omega) (by omega) (by omega))
  exact WP_sub (fc rfl (fc rfl (fc rfl fn))) (lp20_6716 _ v6710 v6711 I6704 J6696 hI6704 fr6709 fr6699 fr6708 w6686 e6705 (by omega) (by omega) (by omega) (by omega) (by omega) (Nat.lt_succ_self _))
set_option maxHeartbeats 4000000 in
set_option maxRecDepth 100000 in
theorem sm_rest {g : GG} {n : Int} {L : Int32} (hy : Ly g)  {I : pI} {J : pJ} {R : pR} (hr : Rf g R) (hI : MP g n L I) (a : Int32)  (hn : 0 ≤ n ∧ n ≤ 40000) : SP g mX11_rest [.ref (ad g 0), .int a] I J R (fun r I' J' R' => (MP g n L I' ∧ R' = R ∧ fz 49 g [0, 22, 35, 36, 37, 39, 40, 41] I I' ∧ fz 49 g [] J J' ∧ fs g [56, 64, 68] I I') ∧ ∃ v : Int32, r = some (.int v)) := by
  refine SP_of ⟨by decide, rfl⟩ (Nat.le_of_ble_eq_true rfl) ?_
  have e6790 : I (ad g 0) 1 = L := hI.1.2
  have b6791 := BT_get hI.1.1 0 1 2 (0) (0) (900) (by decide) 1 (by decide) (by decide)
  rw [e6790] at b6791
  have fr0 : fz 49 g [0, 22, 35, 36, 37, 39, 40, 41] I I := fz_rf
  have frj0 : fz 49 g [] J J := fz_rf
  have frq0 : fs g [56, 64, 68] I I := fs_rf
  refine WP_iload_n dX11_rest_0 rfl ?_
  refine WQ_i2l dX11_rest_1 (fun l6792 hl6792 => ?_)
  refine WP_lconst (0) dX11_rest_2 rfl ?_
  obtain ⟨l6793, hl6793, el6793⟩ : ∃ v : Int64, v.toInt = 0 ∧ (0 : Int64) = v := ⟨_, rfl, rfl⟩
  rw [el6793]; clear el6793
  refine WP_lconst (1) dX11_rest_3 rfl ?_
  obtain ⟨l6794, hl6794, el6794⟩ : ∃ v : Int64, v.toInt = 1 ∧ (1 : Int64) = v := ⟨_, rfl, rfl⟩
  rw [el6794]; clear el6794
  refine WP_callS3 dX11_rest_4 ⟨⟨⟨by decide, by decide⟩, zX11_in⟩, lX11_52, tX11_in⟩ (sm_in hy hr hI l6792 l6793 l6794 ) (Nat.le_of_ble_eq_true rfl) ?_
  intro r Ia Ja Ra hq
  obtain ⟨⟨ea, eb, ec⟩, v6795, rfl, av6795, bv6795, cv6795⟩ := hq
  show WP _ _ _ _ (.int _ :: _) _ _ _ _
  rw [ea, eb, ec]
  clear ea eb ec Ia Ja Ra
  refine WQ_if_ne 13 dX11_rest_7 rfl (fun c6795 => ?_) (fun c6795 => ?_)
  · refine WQ_iconst (0) (0) dX11_rest_13 rfl rfl (fun v6797 hv6797 => ?_)
    refine WP_istore_n (ls' := [(0, _), (1, _), (2, _)]) dX11_rest_14 (by decide) rfl ?_
    have lp15_6800 : ∀ (mz : Nat) (i6798 : Int32) (I6799 : pI) (J6800 : pJ), MP g n L I6799 → fz 49 g [0, 22, 35, 36, 37, 39, 40, 41] I I6799 → fz 49 g [] J J6800 → fs g [56, 64, 68] I I6799 → 0 ≤ i6798.toInt → i6798.toInt ≤ 21 → (22 - i6798.toInt).toNat < mz → WP g mX11_rest 15 [(0, .ref (ad g 0)), (1, .int a), (2, .int i6798)] [] I6799 J6800 R (fun r I' J' R' => (MP g n L I' ∧ R' = R ∧ fz 49 g [0, 22, 35, 36, 37, 39, 40, 41] I I' ∧ fz 49 g [] J J' ∧ fs g [56, 64, 68] I I') ∧ ∃ v : Int32, r = some (.int v)) := by
      intro mz
      induction mz with
      | zero =>
        intro i6798 I6799 J6800 hI6799 fiI6799 fjJ6800 fqI6799 ai6798 bi6798 hmlp15_6800
        exact absurd hmlp15_6800 (Nat.not_lt_zero _)
      | succ mz ihlp15_6800 =>
        intro i6798 I6799 J6800 hI6799 fiI6799 fjJ6800 fqI6799 ai6798 bi6798 hmlp15_6800
        have e6802 : I6799 (ad g 0) 1 = L := hI6799.1.2
        have b6803 := BT_get hI6799.1.1 0 1 2 (0) (0) (900) (by decide) 1 (by decide) (by decide)
        rw [e6802] at b6803
        refine WP_iload_n dX11_rest_15 rfl ?_
        refine WQ_bipush (7) (7) dX11_rest_16 rfl rfl (fun v6804 hv6804 => ?_)
        refine WP_aload_n dX11_rest_18 rfl ?_
        refine WQ_geti dX11_rest_19 fX11_332 rfl (ly_is hy 0 11 rfl) (BT_get hI6799.1.1 0 11 12 (0) (0) (3) (by decide) 11 (by decide) (by decide)) (fun v6805 ev6805 av6805 bv6805 => ?_)
        refine WQ_imulK (7) dX11_rest_22 hv6804 (by omega) (by omega) (fun v6806 hv6806 => ?_)
        refine WQ_icmp_ge 49 dX11_rest_23 rfl (fun c6806 => ?_) (fun c6806 => ?_)
        · refine WP_aload_n dX11_rest_49 rfl ?_
          refine WP_callV0 (k := 11) dX11_rest_50 ⟨⟨⟨by decide, by decide⟩, zX11_forgetWeeks⟩, lX11_350, by decide, rfl, vX11_forgetWeeks.1, vX11_forgetWeeks.2⟩ (ly_is hy 0 11 rfl) (sm_forgetWeeksx hy hr hI6799  ) (Nat.le_of_ble_eq_true rfl) ?_
          intro r I6808 J6809 Ra hq
          obtain ⟨⟨hI6808, ec, fiI6808, fjI6808, fqI6808⟩, rfl⟩ := hq
          rw [ec]
          clear ec Ra
          have fr6810 : fz 49 g [0, 22, 35, 36, 37, 39, 40, 41] I I6808 := fz_tr fiI6799 (fz_mono fiI6808 (by decide))
          have fr6811 : fs g [56, 64, 68] I I6808 := fs_tr fqI6799 (fs_mono fqI6808 (by decide))
          have fr6812 : fz 49 g [] J J6809 := fz_tr fjJ6800 (fz_mono fjI6808 (by decide))
          have e6813 : I6808 (ad g 0) 11 = v6805 := by rw [fz_at fiI6808 0 (by decide) (by decide)]; exact ev6805
          have e6814 : I6808 (ad g 0) 1 = L := hI6808.1.2
          have b6815 := BT_get hI6808.1.1 0 1 2 (0) (0) (900) (by decide) 1 (by decide) (by decide)
          rw [e6814] at b6815
          refine WP_aload_n dX11_rest_53 rfl ?_
          refine WQ_iconst (0) (0) dX11_rest_54 rfl rfl (fun v6816 hv6816 => ?_)
          refine WQ_puti dX11_rest_55 fX11_304 rfl rfl (ly_is hy 0 11 rfl) (fun I6817 eI6817 => ?_)
          have hI6817 : MP g n L I6817 := by rw [eI6817]; exact (mp_w hy hI6808 (c := 0) (mi_f0 hy hI6808.1 (c := 0) (by decide) (Or.inr (by decide)) (by decide)) (by decide) (by decide) (Or.inr (by decide)))
          have e6818 : I6817 (ad g 0) 11 = v6805 := by rw [eI6817, pp_ne _ _ (Or.inr (by decide))]; exact e6813
          have e6819 : I6817 (ad g 0) 1 = L := by rw [eI6817, pp_ne _ _ (Or.inr (by decide))]; exact e6814
          have e6820 : I6817 (ad g 0) 68 = v6816 := by rw [eI6817, pp_self]
          have fr6821 : fs g [56, 64, 68] I I6817 := by rw [eI6817]; exact fs_pp0 fr6811 (by decide)
          have fr6822 : fz 49 g [0, 22, 35, 36, 37, 39, 40, 41] I I6817 := by rw [eI6817]; exact fzm_pp hy fr6810 (by decide) (by decide)
          clear eI6817
          refine WQ_iconst (1) (1) dX11_rest_58 rfl rfl (fun v6823 hv6823 => ?_)
          refine WP_istore_n (ls' := [(0, _), (1, _), (2, _)]) dX11_rest_59 (by decide) rfl ?_
          have lp60_6827 : ∀ (mz : Nat) (i6824 : Int32) (I6825 : pI) (J6826 : pJ), MP g n L I6825 → fz 49 g [0, 22, 35, 36, 37, 39, 40, 41] I I6825 → fz 49 g [] J J6826 → fs g [56, 64, 68] I I6825 → ∀ (w6827 : Int32), I6825 (ad g 0) 68 = w6827 → 0 ≤ i6824.toInt → i6824.toInt ≤ 1 → 0 ≤ w6827.toInt → w6827.toInt ≤ 60 → (61 - w6827.toInt).toNat < mz → WP g mX11_rest 60 [(0, .ref (ad g 0)), (1, .int a), (2, .int i6824)] [] I6825 J6826 R (fun r I' J' R' => (MP g n L I' ∧ R' = R ∧ fz 49 g [0, 22, 35, 36, 37, 39, 40, 41] I I' ∧ fz 49 g [] J J' ∧ fs g [56, 64, 68] I I') ∧ ∃ v : Int32, r = some (.int v)) := by
            intro mz
            induction mz with
            | zero =>
              intro i6824 I6825 J6826 hI6825 fiI6825 fjJ6826 fqI6825 w6827 ew6827 ai6824 bi6824 j0_I6825 j1_I6825 hmlp60_6827
              exact absurd hmlp60_6827 (Nat.not_lt_zero _)
            | succ mz ihlp60_6827 =>
              intro i6824 I6825 J6826 hI6825 fiI6825 fjJ6826 fqI6825 w6827 ew6827 ai6824 bi6824 j0_I6825 j1_I6825 hmlp60_6827
              have e6829 : I6825 (ad g 0) 1 = L := hI6825.1.2
              have b6830 := BT_get hI6825.1.1 0 1 2 (0) (0) (900) (by decide) 1 (by decide) (by decide)
              rw [e6829] at b6830
              refine WP_iload_n dX11_rest_60 rfl ?_
              refine WQ_if_eq 91 dX11_rest_61 rfl (fun c6830 => ?_) (fun c6830 => ?_)
              · refine WP_iload_n dX11_rest_91 rfl ?_
                have jn100_6833 : ∀ (v6833 : Int32), 1 ≤ v6833.toInt → v6833.toInt ≤ 1 → WP g mX11_rest 100 [(0, .ref (ad g 0)), (1, .int a), (2, .int i6824)] [.int v6833] I6825 J6826 R (fun r I' J' R' => (MP g n L I' ∧ R' = R ∧ fz 49 g [0, 22, 35, 36, 37, 39, 40, 41] I I' ∧ fz 49 g [] J J' ∧ fs g [56, 64, 68] I I') ∧ ∃ v : Int32, r = some (.int v)) := by
                  intro v6833 av6833 bv6833
                  exact WP_iret dX11_rest_100 rfl ⟨⟨hI6825, rfl, fiI6825, fjJ6826, fqI6825⟩, _, rfl⟩
                refine WQ_if_eq 99 dX11_rest_92 rfl (fun c6834 => ?_) (fun c6834 => False.elim (by omega))
                refine WQ_iconst (1) (1) dX11_rest_99 rfl rfl (fun v6836 hv6836 => ?_)
                exact WP_sub (fc rfl (fc rfl (fc rfl fn))) (jn100_6833 v6836 (by omega) (by omega))
              · refine WP_aload_n dX11_rest_64 rfl ?_
                refine WQ_getim dX11_rest_65 fX11_304 rfl (ly_is hy 0 11 rfl) ew6827 ?_
                refine WQ_bipush (60) (60) dX11_rest_68 rfl rfl (fun v6837 hv6837 => ?_)
                refine WQ_icmp_ge 91 dX11_rest_70 rfl (fun c6837 => ?_) (fun c6837 => ?_)
                · refine WP_iload_n dX11_rest_91 rfl ?_
                  have jn100_6840 : ∀ (v6840 : Int32), 0 ≤ v6840.toInt → v6840.toInt ≤ 0 → WP g mX11_rest 100 [(0, .ref (ad g 0)), (1, .int a), (2, .int i6824)] [.int v6840] I6825 J6826 R (fun r I' J' R' => (MP g n L I' ∧ R' = R ∧ fz 49 g [0, 22, 35, 36, 37, 39, 40, 41] I I' ∧ fz 49 g [] J J' ∧ fs g [56, 64, 68] I I') ∧ ∃ v : Int32, r = some (.int v)) := by
                    intro v6840 av6840 bv6840
                    exact WP_iret dX11_rest_100 rfl ⟨⟨hI6825, rfl, fiI6825, fjJ6826, fqI6825⟩, _, rfl⟩
                  refine WQ_if_eq 99 dX11_rest_92 rfl (fun c6841 => False.elim (by omega)) (fun c6841 => ?_)
                  refine WQ_iconst (0) (0) dX11_rest_95 rfl rfl (fun v6843 hv6843 => ?_)
                  refine WP_goto 100 dX11_rest_96 rfl ?_
                  exact WP_sub (fc rfl (fc rfl (fc rfl fn))) (jn100_6840 v6843 (by omega) (by omega))
                · refine WP_aload_n dX11_rest_73 rfl ?_
                  refine WP_callV0 (k := 11) dX11_rest_74 ⟨⟨⟨by decide, by decide⟩, zX11_turn⟩, lX11_505, by decide, rfl, vX11_turn.1, vX11_turn.2⟩ (ly_is hy 0 11 rfl) (sm_turn hy hr hI6825   (by omega)) (Nat.le_of_ble_eq_true rfl) ?_
                  intro r I6844 J6845 Ra hq
                  obtain ⟨⟨hI6844, ec, fiI6844, fjI6844, fqI6844, ⟨pI6844, sI6844_0_68⟩⟩, v6846, rfl, av6846, bv6846⟩ := hq
                  show WP _ _ _ _ (.int _ :: _) _ _ _ _
                  rw [ec]
                  clear ec Ra
                  have fr6847 : fz 49 g [0, 22, 35, 36, 37, 39, 40, 41] I I6844 := fz_tr fiI6825 (fz_mono fiI6844 (by decide))
                  have fr6848 : fs g [56, 64, 68] I I6844 := fs_tr fqI6825 (fs_mono fqI6844 (by decide))
                  have fr6849 : fz 49 g [] J J6845 := fz_tr fjJ6826 (fz_mono fjI6844 (by decide))
                  have e6850 : I6844 (ad g 0) 68 = w6827 := by rw [sI6844_0_68]; exact ew6827
                  have e6851 : I6844 (ad g 0) 1 = L := hI6844.1.2
                  have b6852 := BT_get hI6844.1.1 0 1 2 (0) (0) (900) (by decide) 1 (by decide) (by decide)
                  rw [e6851] at b6852
                  refine WP_istore_n (ls' := [(0, _), (1, _), (2, _)]) dX11_rest_77 (by decide) rfl ?_
                  refine WP_aload_n dX11_rest_78 rfl ?_
                  refine WP_dup dX11_rest_79 rfl ?_
                  refine WQ_getim dX11_rest_80 fX11_304 rfl (ly_is hy 0 11 rfl) e6850 ?_
                  refine WQ_iconst (1) (1) dX11_rest_83 rfl rfl (fun v6853 hv6853 => ?_)
                  refine WQ_iadd dX11_rest_84 (by omega) (by omega) (fun v6854 hv6854 => ?_)
                  refine WQ_puti dX11_rest_85 fX11_304 rfl rfl (ly_is hy 0 11 rfl) (fun I6855 eI6855 => ?_)
                  have hI6855 : MP g n L I6855 := by rw [eI6855]; exact (mp_w hy hI6844 (c := 0) (mi_f0 hy hI6844.1 (c := 0) (by decide) (Or.inr (by decide)) (by decide)) (by decide) (by decide) (Or.inr (by decide)))
                  have e6856 : I6855 (ad g 0) 1 = L := by rw [eI6855, pp_ne _ _ (Or.inr (by decide))]; exact e6851
                  have e6857 : I6855 (ad g 0) 68 = v6854 := by rw [eI6855, pp_self]
                  have fr6858 : fs g [56, 64, 68] I I6855 := by rw [eI6855]; exact fs_pp0 fr6848 (by decide)
                  have fr6859 : fz 49 g [0, 22, 35, 36, 37, 39, 40, 41] I I6855 := by rw [eI6855]; exact fzm_pp hy fr6847 (by decide) (by decide)
                  clear eI6855
                  refine WP_goto 60 dX11_rest_88 rfl ?_
                  exact WP_sub (fc rfl (fc rfl (fc rfl fn))) (ihlp60_6827 v6846 I6855 J6845 hI6855 fr6859 fr6849 fr6858 v6854 e6857 (by omega) (by omega) (by omega) (by omega) (by omega))
          exact WP_sub (fc rfl (fc rfl (fc rfl fn))) (lp60_6827 _ v6823 I6817 J6809 hI6817 fr6822 fr6812 fr6821 v6816 e6820 (by omega) (by omega) (by omega) (by omega) (Nat.lt_succ_self _))
        · refine WP_iload_n dX11_rest_26 rfl ?_
          refine WQ_iconst (1) (1) dX11_rest_27 rfl rfl (fun v6860 hv6860 => ?_)
          refine WQ_icmp_ne 49 dX11_rest_28 rfl (fun c6860 => ?_) (fun c6860 => ?_)
          · refine WP_aload_n dX11_rest_49 rfl ?_
            refine WP_callV0 (k := 11) dX11_rest_50 ⟨⟨⟨by decide, by decide⟩, zX11_forgetWeeks⟩, lX11_350, by decide, rfl, vX11_forgetWeeks.1, vX11_forgetWeeks.2⟩ (ly_is hy 0 11 rfl) (sm_forgetWeeksx hy hr hI6799  ) (Nat.le_of_ble_eq_true rfl) ?_
            intro r I6862 J6863 Ra hq
            obtain ⟨⟨hI6862, ec, fiI6862, fjI6862, fqI6862⟩, rfl⟩ := hq
            rw [ec]
            clear ec Ra
            have fr6864 : fz 49 g [0, 22, 35, 36, 37, 39, 40, 41] I I6862 := fz_tr fiI6799 (fz_mono fiI6862 (by decide))
            have fr6865 : fs g [56, 64, 68] I I6862 := fs_tr fqI6799 (fs_mono fqI6862 (by decide))
            have fr6866 : fz 49 g [] J J6863 := fz_tr fjJ6800 (fz_mono fjI6862 (by decide))
            have e6867 : I6862 (ad g 0) 11 = v6805 := by rw [fz_at fiI6862 0 (by decide) (by decide)]; exact ev6805
            have e6868 : I6862 (ad g 0) 1 = L := hI6862.1.2
            have b6869 := BT_get hI6862.1.1 0 1 2 (0) (0) (900) (by decide) 1 (by decide) (by decide)
            rw [e6868] at b6869
            refine WP_aload_n dX11_rest_53 rfl ?_
            refine WQ_iconst (0) (0) dX11_rest_54 rfl rfl (fun v6870 hv6870 => ?_)
            refine WQ_puti dX11_rest_55 fX11_304 rfl rfl (ly_is hy 0 11 rfl) (fun I6871 eI6871 => ?_)
            have hI6871 : MP g n L I6871 := by rw [eI6871]; exact (mp_w hy hI6862 (c := 0) (mi_f0 hy hI6862.1 (c := 0) (by decide) (Or.inr (by decide)) (by decide)) (by decide) (by decide) (Or.inr (by decide)))
            have e6872 : I6871 (ad g 0) 11 = v6805 := by rw [eI6871, pp_ne _ _ (Or.inr (by decide))]; exact e6867
            have e6873 : I6871 (ad g 0) 1 = L := by rw [eI6871, pp_ne _ _ (Or.inr (by decide))]; exact e6868
            have e6874 : I6871 (ad g 0) 68 = v6870 := by rw [eI6871, pp_self]
            have fr6875 : fs g [56, 64, 68] I I6871 := by rw [eI6871]; exact fs_pp0 fr6865 (by decide)
            have fr6876 : fz 49 g [0, 22, 35, 36, 37, 39, 40, 41] I I6871 := by rw [eI6871]; exact fzm_pp hy fr6864 (by decide) (by decide)
            clear eI6871
            refine WQ_iconst (1) (1) dX11_rest_58 rfl rfl (fun v6877 hv6877 => ?_)
            refine WP_istore_n (ls' := [(0, _), (1, _), (2, _)]) dX11_rest_59 (by decide) rfl ?_
            have lp60_6881 : ∀ (mz : Nat) (i6878 : Int32) (I6879 : pI) (J6880 : pJ), MP g n L I6879 → fz 49 g [0, 22, 35, 36, 37, 39, 40, 41] I I6879 → fz 49 g [] J J6880 → fs g [56, 64, 68] I I6879 → ∀ (w6881 : Int32), I6879 (ad g 0) 68 = w6881 → 0 ≤ i6878.toInt → i6878.toInt ≤ 1 → 0 ≤ w6881.toInt → w6881.toInt ≤ 60 → (61 - w6881.toInt).toNat < mz → WP g mX11_rest 60 [(0, .ref (ad g 0)), (1, .int a), (2, .int i6878)] [] I6879 J6880 R (fun r I' J' R' => (MP g n L I' ∧ R' = R ∧ fz 49 g [0, 22, 35, 36, 37, 39, 40, 41] I I' ∧ fz 49 g [] J J' ∧ fs g [56, 64, 68] I I') ∧ ∃ v : Int32, r = some (.int v)) := by
              intro mz
              induction mz with
              | zero =>
                intro i6878 I6879 J6880 hI6879 fiI6879 fjJ6880 fqI6879 w6881 ew6881 ai6878 bi6878 j0_I6879 j1_I6879 hmlp60_6881
                exact absurd hmlp60_6881 (Nat.not_lt_zero _)
              | succ mz ihlp60_6881 =>
                intro i6878 I6879 J6880 hI6879 fiI6879 fjJ6880 fqI6879 w6881 ew6881 ai6878 bi6878 j0_I6879 j1_I6879 hmlp60_6881
                have e6883 : I6879 (ad g 0) 1 = L := hI6879.1.2
                have b6884 := BT_get hI6879.1.1 0 1 2 (0) (0) (900) (by decide) 1 (by decide) (by decide)
                rw [e6883] at b6884
                refine WP_iload_n dX11_rest_60 rfl ?_
                refine WQ_if_eq 91 dX11_rest_61 rfl (fun c6884 => ?_) (fun c6884 => ?_)
                · refine WP_iload_n dX11_rest_91 rfl ?_
                  have jn100_6887 : ∀ (v6887 : Int32), 1 ≤ v6887.toInt → v6887.toInt ≤ 1 → WP g mX11_rest 100 [(0, .ref (ad g 0)), (1, .int a), (2, .int i6878)] [.int v6887] I6879 J6880 R (fun r I' J' R' => (MP g n L I' ∧ R' = R ∧ fz 49 g [0, 22, 35, 36, 37, 39, 40, 41] I I' ∧ fz 49 g [] J J' ∧ fs g [56, 64, 68] I I') ∧ ∃ v : Int32, r = some (.int v)) := by
                    intro v6887 av6887 bv6887
                    exact WP_iret dX11_rest_100 rfl ⟨⟨hI6879, rfl, fiI6879, fjJ6880, fqI6879⟩, _, rfl⟩
                  refine WQ_if_eq 99 dX11_rest_92 rfl (fun c6888 => ?_) (fun c6888 => False.elim (by omega))
                  refine WQ_iconst (1) (1) dX11_rest_99 rfl rfl (fun v6890 hv6890 => ?_)
                  exact WP_sub (fc rfl (fc rfl (fc rfl fn))) (jn100_6887 v6890 (by omega) (by omega))
                · refine WP_aload_n dX11_rest_64 rfl ?_
                  refine WQ_getim dX11_rest_65 fX11_304 rfl (ly_is hy 0 11 rfl) ew6881 ?_
                  refine WQ_bipush (60) (60) dX11_rest_68 rfl rfl (fun v6891 hv6891 => ?_)
                  refine WQ_icmp_ge 91 dX11_rest_70 rfl (fun c6891 => ?_) (fun c6891 => ?_)
                  · refine WP_iload_n dX11_rest_91 rfl ?_
                    have jn100_6894 : ∀ (v6894 : Int32), 0 ≤ v6894.toInt → v6894.toInt ≤ 0 → WP g mX11_rest 100 [(0, .ref (ad g 0)), (1, .int a), (2, .int i6878)] [.int v6894] I6879 J6880 R (fun r I' J' R' => (MP g n L I' ∧ R' = R ∧ fz 49 g [0, 22, 35, 36, 37, 39, 40, 41] I I' ∧ fz 49 g [] J J' ∧ fs g [56, 64, 68] I I') ∧ ∃ v : Int32, r = some (.int v)) := by
                      intro v6894 av6894 bv6894
                      exact WP_iret dX11_rest_100 rfl ⟨⟨hI6879, rfl, fiI6879, fjJ6880, fqI6879⟩, _, rfl⟩
                    refine WQ_if_eq 99 dX11_rest_92 rfl (fun c6895 => False.elim (by omega)) (fun c6895 => ?_)
                    refine WQ_iconst (0) (0) dX11_rest_95 rfl rfl (fun v6897 hv6897 => ?_)
                    refine WP_goto 100 dX11_rest_96 rfl ?_
                    exact WP_sub (fc rfl (fc rfl (fc rfl fn))) (jn100_6894 v6897 (by omega) (by omega))
                  · refine WP_aload_n dX11_rest_73 rfl ?_
                    refine WP_callV0 (k := 11) dX11_rest_74 ⟨⟨⟨by decide, by decide⟩, zX11_turn⟩, lX11_505, by decide, rfl, vX11_turn.1, vX11_turn.2⟩ (ly_is hy 0 11 rfl) (sm_turn hy hr hI6879   (by omega)) (Nat.le_of_ble_eq_true rfl) ?_
                    intro r I6898 J6899 Ra hq
                    obtain ⟨⟨hI6898, ec, fiI6898, fjI6898, fqI6898, ⟨pI6898, sI6898_0_68⟩⟩, v6900, rfl, av6900, bv6900⟩ := hq
                    show WP _ _ _ _ (.int _ :: _) _ _ _ _
                    rw [ec]
                    clear ec Ra
                    have fr6901 : fz 49 g [0, 22, 35, 36, 37, 39, 40, 41] I I6898 := fz_tr fiI6879 (fz_mono fiI6898 (by decide))
                    have fr6902 : fs g [56, 64, 68] I I6898 := fs_tr fqI6879 (fs_mono fqI6898 (by decide))
                    have fr6903 : fz 49 g [] J J6899 := fz_tr fjJ6880 (fz_mono fjI6898 (by decide))
                    have e6904 : I6898 (ad g 0) 68 = w6881 := by rw [sI6898_0_68]; exact ew6881
                    have e6905 : I6898 (ad g 0) 1 = L := hI6898.1.2
                    have b6906 := BT_get hI6898.1.1 0 1 2 (0) (0) (900) (by decide) 1 (by decide) (by decide)
                    rw [e6905] at b6906
                    refine WP_istore_n (ls' := [(0, _), (1, _), (2, _)]) dX11_rest_77 (by decide) rfl ?_
                    refine WP_aload_n dX11_rest_78 rfl ?_
                    refine WP_dup dX11_rest_79 rfl ?_
                    refine WQ_getim dX11_rest_80 fX11_304 rfl (ly_is hy 0 11 rfl) e6904 ?_
                    refine WQ_iconst (1) (1) dX11_rest_83 rfl rfl (fun v6907 hv6907 => ?_)
                    refine WQ_iadd dX11_rest_84 (by omega) (by omega) (fun v6908 hv6908 => ?_)
                    refine WQ_puti dX11_rest_85 fX11_304 rfl rfl (ly_is hy 0 11 rfl) (fun I6909 eI6909 => ?_)
                    have hI6909 : MP g n L I6909 := by rw [eI6909]; exact (mp_w hy hI6898 (c := 0) (mi_f0 hy hI6898.1 (c := 0) (by decide) (Or.inr (by decide)) (by decide)) (by decide) (by decide) (Or.inr (by decide)))
                    have e6910 : I6909 (ad g 0) 1 = L := by rw [eI6909, pp_ne _ _ (Or.inr (by decide))]; exact e6905
                    have e6911 : I6909 (ad g 0) 68 = v6908 := by rw [eI6909, pp_self]
                    have fr6912 : fs g [56, 64, 68] I I6909 := by rw [eI6909]; exact fs_pp0 fr6902 (by decide)
                    have fr6913 : fz 49 g [0, 22, 35, 36, 37, 39, 40, 41] I I6909 := by rw [eI6909]; exact fzm_pp hy fr6901 (by decide) (by decide)
                    clear eI6909
                    refine WP_goto 60 dX11_rest_88 rfl ?_
                    exact WP_sub (fc rfl (fc rfl (fc rfl fn))) (ihlp60_6881 v6900 I6909 J6899 hI6909 fr6913 fr6903 fr6912 v6908 e6911 (by omega) (by omega) (by omega) (by omega) (by omega))
            exact WP_sub (fc rfl (fc rfl (fc rfl fn))) (lp60_6881 _ v6877 I6871 J6863 hI6871 fr6876 fr6866 fr6875 v6870 e6874 (by omega) (by omega) (by omega) (by omega) (Nat.lt_succ_self _))
          · refine WP_aload_n dX11_rest_31 rfl ?_
            refine WP_getr dX11_rest_32 fX11_257 rfl (ly_is hy 0 11 rfl) (rf hr 0 40 22 (by decide)) ?_
            refine WP_iload_n dX11_rest_35 rfl ?_
            refine WP_aload_n dX11_rest_36 rfl ?_
            refine WP_getr dX11_rest_37 fX11_254 rfl (ly_is hy 0 11 rfl) (rf hr 0 39 21 (by decide)) ?_
            refine WP_iload_n dX11_rest_40 rfl ?_
            refine WQ_iald dX11_rest_41 (ly_is hy 21 13 rfl) (ly_n hy 21 21 rfl) (by omega) (by omega) (fun q hq => BT_get hI6799.1.1 21 0 21 (0) (0) (20) (by decide) q (Nat.zero_le _) hq) (fun v6914 av6914 bv6914 ev6914 => ?_)
            clear ev6914
            refine WQ_iast dX11_rest_42 (ly_is hy 22 13 rfl) (ly_n hy 22 21 rfl) (by omega) (by omega) (fun I6915 eI6915 => ?_)
            have hI6915 : MP g n L I6915 := by rw [eI6915]; exact (mp_w hy hI6799 (c := 22) (mi_r hy hI6799.1 (c := 22) (0) (0) (20) (by decide) (Or.inl (by decide)) (by decide) (by omega) (by omega)) (by decide) (by decide) (Or.inl (by decide)))
            have e6916 : I6915 (ad g 0) 1 = L := by rw [eI6915, pp_ne _ _ (Or.inl (ly_ne hy (by decide) (by decide) (by decide)))]; exact e6802
            have e6917 : I6915 (ad g 0) 11 = v6805 := by rw [eI6915, pp_ne _ _ (Or.inl (ly_ne hy (by decide) (by decide) (by decide)))]; exact ev6805
            have fr6918 : fs g [56, 64, 68] I I6915 := by rw [eI6915]; exact fs_ppn hy fqI6799 (by decide) (by decide)
            have fr6919 : fz 49 g [0, 22, 35, 36, 37, 39, 40, 41] I I6915 := by rw [eI6915]; exact fzm_pp hy fiI6799 (by decide) (by decide)
            clear eI6915
            refine WP_iinc (ls' := [(0, _), (1, _), (2, _)]) dX11_rest_43 rfl (by decide) rfl ?_
            have hv6920 : (i6798 + Int32.ofInt (1)).toInt = i6798.toInt + (1) := ia_n rfl (by omega) (by omega)
            generalize i6798 + Int32.ofInt (1) = v6920 at hv6920 ⊢
            refine WP_goto 15 dX11_rest_46 rfl ?_
            exact WP_sub (fc rfl (fc rfl (fc rfl fn))) (ihlp15_6800 v6920 I6915 J6800 hI6915 fr6919 fjJ6800 fr6918 (by omega) (by omega) (by omega))
    exact WP_sub (fc rfl (fc rfl (fc rfl fn))) (lp15_6800 _ v6797 I J hI fr0 frj0 frq0 (by omega) (by omega) (Nat.lt_succ_self _))
  · refine WQ_bipush (-2) (-2) dX11_rest_10 rfl rfl (fun v6921 hv6921 => ?_)
    exact WP_iret dX11_rest_12 rfl ⟨⟨hI, rfl, fr0, frj0, frq0⟩, _, rfl⟩
