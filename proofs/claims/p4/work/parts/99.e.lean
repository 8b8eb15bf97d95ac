set_option maxHeartbeats 4000000 in
set_option maxRecDepth 100000 in
theorem sx_pass_6 {g : GG} {n : Int} {L : Int32} (hy : LyX g)  {I : pI} {J : pJ} {R : pR} (hr : RfX g R) (hP : NL g R) (hT : R (ad g 5) 0 = some (ad g 6)) (hI : XI g n L I) (a : Int32)  (hn : 0 ≤ n ∧ n ≤ 40000) (hb : (I (ad g 53) 1).toInt ≤ 23760 * n - 1663200) : SP g mX10_pass [.ref (ad g 0), .int a] I J R (fun r I' J' R' => (XI g n L I' ∧ (RfX g R' ∧ (R' (ad g 5) 0 = R (ad g 5) 0 ∧ R' (ad g 0) 10 = R (ad g 0) 10) ∧ NL g R') ∧ fz 74 g [43, 44, 47, 48, 50, 51, 52, 53, 55] I I' ∧ fz 74 g [45, 46, 53] J J' ∧ True) ∧ ∃ v : Int32, r = some (.int v)) := by
  refine SP_of ⟨by decide, rfl⟩ (Nat.le_of_ble_eq_true rfl) ?_
  have e15380 : I (ad g 1) 1 = L := hI.2
  have b15381 := BT_get hI.1 1 1 2 (0) (0) (900) (by decide) 1 (by decide) (by decide)
  rw [e15380] at b15381
  have fr0 : fz 74 g [43, 44, 47, 48, 50, 51, 52, 53, 55] I I := fz_rf
  have frj0 : fz 74 g [45, 46, 53] J J := fz_rf
  obtain ⟨w15382, ew15382⟩ : ∃ w : Int32, I (ad g 53) 1 = w := ⟨_, rfl⟩
  have bw15382 := BT_get hI.1 53 1 2 (0) (23760) (0) (by decide) 1 (by decide) (by decide)
  rw [ew15382] at bw15382
  rw [ew15382] at hb
  refine WP_iload_n dX10_pass_0 rfl ?_
  refine WQ_if_lt 10 dX10_pass_1 rfl (fun c15382 => ?_) (fun c15382 => ?_)
  · refine WQ_bipush (-2) (-2) dX10_pass_10 rfl rfl (fun v15384 hv15384 => ?_)
    exact WP_iret dX10_pass_12 rfl ⟨⟨hI, ⟨hr, ⟨hT.trans hT.symm, rfl⟩, hP⟩, fr0, frj0, trivial⟩, _, rfl⟩
  · refine WP_iload_n dX10_pass_4 rfl ?_
    refine WQ_bipush (70) (70) dX10_pass_5 rfl rfl (fun v15385 hv15385 => ?_)
    refine WQ_icmp_le 13 dX10_pass_7 rfl (fun c15385 => ?_) (fun c15385 => ?_)
    · refine WQ_iconst (0) (0) dX10_pass_13 rfl rfl (fun v15387 hv15387 => ?_)
      refine WP_istore_n (ls' := [(0, _), (1, _), (2, _)]) dX10_pass_14 (by decide) rfl ?_
      have lp15_15391 : ∀ (mz : Nat) (i15388 : Int32) (I15389 : pI) (J15390 : pJ) (RI15389 : pR), RfX g RI15389 → RI15389 (ad g 5) 0 = some (ad g 6) → RI15389 (ad g 0) 10 = R (ad g 0) 10 → NL g RI15389 → XI g n L I15389 → fz 74 g [43, 44, 47, 48, 50, 51, 52, 53, 55] I I15389 → fz 74 g [45, 46, 53] J J15390 → ∀ (w15391 : Int32), I15389 (ad g 53) 1 = w15391 → 0 ≤ i15388.toInt → i15388.toInt ≤ 70 → w15391.toInt ≤ w15382.toInt + 23760 * i15388.toInt → i15388.toInt ≤ a.toInt → (71 - i15388.toInt).toNat < mz → WP g mX10_pass 15 [(0, .ref (ad g 0)), (1, .int a), (2, .int i15388)] [] I15389 J15390 RI15389 (fun r I' J' R' => (XI g n L I' ∧ (RfX g R' ∧ (R' (ad g 5) 0 = R (ad g 5) 0 ∧ R' (ad g 0) 10 = R (ad g 0) 10) ∧ NL g R') ∧ fz 74 g [43, 44, 47, 48, 50, 51, 52, 53, 55] I I' ∧ fz 74 g [45, 46, 53] J J' ∧ True) ∧ ∃ v : Int32, r = some (.int v)) := by
        intro mz
        induction mz with
        | zero =>
          intro i15388 I15389 J15390 RI15389 hrI15389 hTI15389 hSI15389 hPI15389 hI15389 fiI15389 fjJ15390 w15391 ew15391 ai15388 bi15388 j0_I15389 j1_I15389 hmlp15_15391
          exact absurd hmlp15_15391 (Nat.not_lt_zero _)
        | succ mz ihlp15_15391 =>
          intro i15388 I15389 J15390 RI15389 hrI15389 hTI15389 hSI15389 hPI15389 hI15389 fiI15389 fjJ15390 w15391 ew15391 ai15388 bi15388 j0_I15389 j1_I15389 hmlp15_15391
          have bw15391 := BT_get hI15389.1 53 1 2 (0) (23760) (0) (by decide) 1 (by decide) (by decide)
          rw [ew15391] at bw15391
          have e15393 : I15389 (ad g 1) 1 = L := hI15389.2
          have b15394 := BT_get hI15389.1 1 1 2 (0) (0) (900) (by decide) 1 (by decide) (by decide)
          rw [e15393] at b15394
          refine WP_iload_n dX10_pass_15 rfl ?_
          refine WP_iload_n dX10_pass_16 rfl ?_
          refine WQ_icmp_ge 38 dX10_pass_17 rfl (fun c15394 => ?_) (fun c15394 => ?_)
          · refine WP_aload_n dX10_pass_38 rfl ?_
            refine WP_getr dX10_pass_39 fX10_62 rfl (lyx_is hy 0 10 rfl) (rfx hrI15389 0 5 53 (by decide)) ?_
            refine WQ_getiu dX10_pass_42 fX10_232 rfl (lyx_is hy 53 4 rfl) (fun v15396 ev15396 => ?_)
            exact WP_iret dX10_pass_45 rfl ⟨⟨hI15389, ⟨hrI15389, ⟨hTI15389.trans hT.symm, hSI15389⟩, hPI15389⟩, fiI15389, fjJ15390, trivial⟩, _, rfl⟩
          · refine WP_aload_n dX10_pass_20 rfl ?_
            refine WP_getr dX10_pass_21 fX10_55 rfl (lyx_is hy 0 10 rfl) (rfx hrI15389 0 4 49 (by decide)) ?_
            refine WP_aload_n dX10_pass_24 rfl ?_
            refine WP_getr dX10_pass_25 fX10_62 rfl (lyx_is hy 0 10 rfl) (rfx hrI15389 0 5 53 (by decide)) ?_
            refine WQ_iconst (1) (1) dX10_pass_28 rfl rfl (fun v15397 hv15397 => ?_)
            refine WP_callV2 (k := 9) dX10_pass_29 ⟨⟨⟨by decide, by decide⟩, zX9_passDay⟩, lX10_228, by decide, rfl, vX9_passDay.1, vX9_passDay.2⟩ (lyx_is hy 49 9 rfl) (sx_passDay_53_6 hy hrI15389 hPI15389 hTI15389 hI15389 v15397 (by omega) (by omega) (by omega) (by rw [ew15391]; omega)) (Nat.le_of_ble_eq_true rfl) ?_
            intro r I15398 J15399 R15400 hq
            obtain ⟨⟨hI15398, ⟨hrI15398, ⟨htI15398, hsI15398⟩, hpI15398⟩, fiI15398, fjI15398, pI15398⟩, rfl⟩ := hq
            have ht_I15398 := htI15398.trans hTI15389
            have hs_I15398 : R15400 (ad g 0) 10 = R (ad g 0) 10 := hsI15398.trans hSI15389
            have fr15401 : fz 74 g [43, 44, 47, 48, 50, 51, 52, 53, 55] I I15398 := fz_tr fiI15389 (fz_mono fiI15398 (by decide))
            have fr15402 : fz 74 g [45, 46, 53] J J15399 := fz_tr fjJ15390 (fz_mono fjI15398 (by decide))
            have e15403 : I15398 (ad g 1) 1 = L := hI15398.2
            have b15404 := BT_get hI15398.1 1 1 2 (0) (0) (900) (by decide) 1 (by decide) (by decide)
            rw [e15403] at b15404
            obtain ⟨w15405, ew15405⟩ : ∃ w : Int32, I15398 (ad g 53) 1 = w := ⟨_, rfl⟩
            have bw15405 := BT_get hI15398.1 53 1 2 (0) (23760) (0) (by decide) 1 (by decide) (by decide)
            rw [ew15405] at bw15405
            rw [ew15405, ew15391] at pI15398
            refine WP_iinc (ls' := [(0, _), (1, _), (2, _)]) dX10_pass_32 rfl (by decide) rfl ?_
            have hv15406 : (i15388 + Int32.ofInt (1)).toInt = i15388.toInt + (1) := ia_n rfl (by omega) (by omega)
            generalize i15388 + Int32.ofInt (1) = v15406 at hv15406 ⊢
            refine WP_goto 15 dX10_pass_35 rfl ?_
            exact WP_sub (fc rfl (fc rfl (fc rfl fn))) (ihlp15_15391 v15406 I15398 J15399 R15400 hrI15398 ht_I15398 hs_I15398 hpI15398 hI15398 fr15401 fr15402 w15405 ew15405 (by omega) (by omega) (by omega) (by omega) (by omega))
      exact WP_sub (fc rfl (fc rfl (fc rfl fn))) (lp15_15391 _ v15387 I J R hr hT rfl hP hI fr0 frj0 w15382 ew15382 (by omega) (by omega) (by omega) (by omega) (Nat.lt_succ_self _))
    · refine WQ_bipush (-2) (-2) dX10_pass_10 rfl rfl (fun v15407 hv15407 => ?_)
      exact WP_iret dX10_pass_12 rfl ⟨⟨hI, ⟨hr, ⟨hT.trans hT.symm, rfl⟩, hP⟩, fr0, frj0, trivial⟩, _, rfl⟩
set_option maxHeartbeats 4000000 in
set_option maxRecDepth 100000 in
theorem sx_worthOfAll_6 {g : GG} {n : Int} {L : Int32} (hy : LyX g)  {I : pI} {J : pJ} {R : pR} (hr : RfX g R) (hP : NL g R) (hT : R (ad g 5) 0 = some (ad g 6)) (hI : XI g n L I) (ra : Int32) (we : Int32) (ra_lo : 0 ≤ ra.toInt) (ra_hi : ra.toInt ≤ 18) (we_lo : 1 ≤ we.toInt) (we_hi : we.toInt ≤ 4) (hn : 0 ≤ n ∧ n ≤ 40000) : SP g mX10_worthOfAll [.ref (ad g 0), .int ra, .int we] I J R (fun r I' J' R' => (XI g n L I' ∧ (RfX g R' ∧ (R' (ad g 5) 0 = R (ad g 5) 0 ∧ R' (ad g 0) 10 = R (ad g 0) 10) ∧ NL g R') ∧ fz 74 g [23, 24, 43, 44, 47, 48, 50, 51, 52, 56, 57, 58] I I' ∧ fz 74 g [45, 46, 56] J J') ∧ ∃ v : Int32, r = some (.int v)) := by
  refine SP_of ⟨by decide, rfl⟩ (Nat.le_of_ble_eq_true rfl) ?_
  have e15408 : I (ad g 1) 1 = L := hI.2
  have b15409 := BT_get hI.1 1 1 2 (0) (0) (900) (by decide) 1 (by decide) (by decide)
  rw [e15408] at b15409
  have fr0 : fz 74 g [23, 24, 43, 44, 47, 48, 50, 51, 52, 56, 57, 58] I I := fz_rf
  have frj0 : fz 74 g [45, 46, 56] J J := fz_rf
  refine WP_aload_n dX10_worthOfAll_0 rfl ?_
  refine WP_getr dX10_worthOfAll_1 fX10_66 rfl (lyx_is hy 0 10 rfl) (rfx hr 0 6 56 (by decide)) ?_
  refine WP_aload_n dX10_worthOfAll_4 rfl ?_
  refine WP_getr dX10_worthOfAll_5 fX10_62 rfl (lyx_is hy 0 10 rfl) (rfx hr 0 5 53 (by decide)) ?_
  refine WP_callV1 (k := 4) dX10_worthOfAll_8 ⟨⟨⟨by decide, by decide⟩, zX4_become⟩, lX10_249, by decide, rfl, vX4_become.1, vX4_become.2⟩ (lyx_is hy 56 4 rfl) (sx_becomef_56_53 hy hr hI  ) (Nat.le_of_ble_eq_true rfl) ?_
  intro r I15410 J15411 Ra hq
  obtain ⟨⟨hI15410, ec, fiI15410, fjI15410⟩, rfl⟩ := hq
  rw [ec]
  clear ec Ra
  have fr15412 : fz 74 g [23, 24, 43, 44, 47, 48, 50, 51, 52, 56, 57, 58] I I15410 := fz_tr fr0 (fz_mono fiI15410 (by decide))
  have fr15413 : fz 74 g [45, 46, 56] J J15411 := fz_tr frj0 (fz_mono fjI15410 (by decide))
  have e15414 : I15410 (ad g 1) 1 = L := hI15410.2
  have b15415 := BT_get hI15410.1 1 1 2 (0) (0) (900) (by decide) 1 (by decide) (by decide)
  rw [e15414] at b15415
  refine WP_aload_n dX10_worthOfAll_11 rfl ?_
  refine WP_getr dX10_worthOfAll_12 fX10_66 rfl (lyx_is hy 0 10 rfl) (rfx hr 0 6 56 (by decide)) ?_
  refine WP_aload_n dX10_worthOfAll_15 rfl ?_
  refine WP_getr dX10_worthOfAll_16 fX10_33 rfl (lyx_is hy 0 10 rfl) (rfx hr 0 2 5 (by decide)) ?_
  refine WP_getr dX10_worthOfAll_19 fX10_102 rfl (lyx_is hy 5 0 rfl) hT ?_
  refine WP_callV1 (k := 4) dX10_worthOfAll_22 ⟨⟨⟨by decide, by decide⟩, zX4_begin⟩, lX10_246, by decide, rfl, vX4_begin.1, vX4_begin.2⟩ (lyx_is hy 56 4 rfl) (sx_beginf_56_6 hy hr hI15410   (by omega)) (Nat.le_of_ble_eq_true rfl) ?_
  intro r I15416 J15417 Ra hq
  obtain ⟨⟨hI15416, ec, fiI15416, fjI15416, pI15416⟩, rfl⟩ := hq
  rw [ec]
  clear ec Ra
  have fr15418 : fz 74 g [23, 24, 43, 44, 47, 48, 50, 51, 52, 56, 57, 58] I I15416 := fz_tr fr15412 (fz_mono fiI15416 (by decide))
  have fr15419 : fz 74 g [45, 46, 56] J J15417 := fz_tr fr15413 (fz_mono fjI15416 (by decide))
  have e15420 : I15416 (ad g 1) 1 = L := hI15416.2
  have b15421 := BT_get hI15416.1 1 1 2 (0) (0) (900) (by decide) 1 (by decide) (by decide)
  rw [e15420] at b15421
  obtain ⟨w15422, ew15422⟩ : ∃ w : Int32, I15416 (ad g 56) 1 = w := ⟨_, rfl⟩
  have bw15422 := BT_get hI15416.1 56 1 2 (0) (23760) (700000) (by decide) 1 (by decide) (by decide)
  rw [ew15422] at bw15422
  rw [ew15422] at pI15416
  refine WP_aload_n dX10_worthOfAll_25 rfl ?_
  refine WP_getr dX10_worthOfAll_26 fX10_33 rfl (lyx_is hy 0 10 rfl) (rfx hr 0 2 5 (by decide)) ?_
  refine WP_iload_n dX10_worthOfAll_29 rfl ?_
  refine WQ_bipush (50) (50) dX10_worthOfAll_30 rfl rfl (fun v15423 hv15423 => ?_)
  refine WQ_imulk (50) dX10_worthOfAll_32 hv15423 (by omega) (by omega) (fun v15424 hv15424 => ?_)
  refine WP_callV1 (k := 0) dX10_worthOfAll_33 ⟨⟨⟨by decide, by decide⟩, zX0_lossesAt⟩, lX10_344, by decide, rfl, vX0_lossesAt.1, vX0_lossesAt.2⟩ (lyx_is hy 5 0 rfl) (sx_lossesAtf_6 hy hr hT hI15416 v15424 (by omega) (by omega)) (Nat.le_of_ble_eq_true rfl) ?_
  intro r I15425 J15426 Ra hq
  obtain ⟨⟨hI15425, ec, fiI15425, fjI15425⟩, rfl⟩ := hq
  rw [ec]
  clear ec Ra
  have fr15427 : fz 74 g [23, 24, 43, 44, 47, 48, 50, 51, 52, 56, 57, 58] I I15425 := fz_tr fr15418 (fz_mono fiI15425 (by decide))
  have fr15428 : fz 74 g [45, 46, 56] J J15426 := fz_tr fr15419 (fz_mono fjI15425 (by decide))
  have e15429 : I15425 (ad g 56) 1 = w15422 := by rw [fz_at fiI15425 56 (by decide) (by decide)]; exact ew15422
  have e15430 : I15425 (ad g 1) 1 = L := hI15425.2
  have b15431 := BT_get hI15425.1 1 1 2 (0) (0) (900) (by decide) 1 (by decide) (by decide)
  rw [e15430] at b15431
  refine WQ_iconst (0) (0) dX10_worthOfAll_36 rfl rfl (fun v15432 hv15432 => ?_)
  refine WP_istore_n (ls' := [(0, _), (1, _), (2, _), (3, _)]) dX10_worthOfAll_37 (by decide) rfl ?_
  have lp38_15436 : ∀ (mz : Nat) (i15433 : Int32) (I15434 : pI) (J15435 : pJ) (RI15434 : pR), RfX g RI15434 → RI15434 (ad g 5) 0 = some (ad g 6) → RI15434 (ad g 0) 10 = R (ad g 0) 10 → NL g RI15434 → XI g n L I15434 → fz 74 g [23, 24, 43, 44, 47, 48, 50, 51, 52, 56, 57, 58] I I15434 → fz 74 g [45, 46, 56] J J15435 → ∀ (w15436 : Int32), I15434 (ad g 56) 1 = w15436 → 0 ≤ i15433.toInt → i15433.toInt ≤ 28 → w15436.toInt ≤ 23760 * i15433.toInt → (29 - i15433.toInt).toNat < mz → WP g mX10_worthOfAll 38 [(0, .ref (ad g 0)), (1, .int ra), (2, .int we), (3, .int i15433)] [] I15434 J15435 RI15434 (fun r I' J' R' => (XI g n L I' ∧ (RfX g R' ∧ (R' (ad g 5) 0 = R (ad g 5) 0 ∧ R' (ad g 0) 10 = R (ad g 0) 10) ∧ NL g R') ∧ fz 74 g [23, 24, 43, 44, 47, 48, 50, 51, 52, 56, 57, 58] I I' ∧ fz 74 g [45, 46, 56] J J') ∧ ∃ v : Int32, r = some (.int v)) := by
    intro mz
    induction mz with
    | zero =>
      intro i15433 I15434 J15435 RI15434 hrI15434 hTI15434 hSI15434 hPI15434 hI15434 fiI15434 fjJ15435 w15436 ew15436 ai15433 bi15433 j0_I15434 hmlp38_15436
      exact absurd hmlp38_15436 (Nat.not_lt_zero _)
    | succ mz ihlp38_15436 =>
      intro i15433 I15434 J15435 RI15434 hrI15434 hTI15434 hSI15434 hPI15434 hI15434 fiI15434 fjJ15435 w15436 ew15436 ai15433 bi15433 j0_I15434 hmlp38_15436
      have bw15436 := BT_get hI15434.1 56 1 2 (0) (23760) (700000) (by decide) 1 (by decide) (by decide)
      rw [ew15436] at bw15436
      have e15438 : I15434 (ad g 1) 1 = L := hI15434.2
      have b15439 := BT_get hI15434.1 1 1 2 (0) (0) (900) (by decide) 1 (by decide) (by decide)
      rw [e15438] at b15439
      refine WP_iload_n dX10_worthOfAll_38 rfl ?_
      refine WP_iload_n dX10_worthOfAll_39 rfl ?_
      refine WQ_bipush (7) (7) dX10_worthOfAll_40 rfl rfl (fun v15440 hv15440 => ?_)
      refine WQ_imulk (7) dX10_worthOfAll_42 hv15440 (by omega) (by omega) (fun v15441 hv15441 => ?_)
      refine WQ_icmp_ge 64 dX10_worthOfAll_43 rfl (fun c15441 => ?_) (fun c15441 => ?_)
      · refine WP_aload_n dX10_worthOfAll_64 rfl ?_
        refine WP_getr dX10_worthOfAll_65 fX10_33 rfl (lyx_is hy 0 10 rfl) (rfx hrI15434 0 2 5 (by decide)) ?_
        refine WP_callV0 (k := 0) dX10_worthOfAll_68 ⟨⟨⟨by decide, by decide⟩, zX0_lossesAsTold⟩, lX10_347, by decide, rfl, vX0_lossesAsTold.1, vX0_lossesAsTold.2⟩ (lyx_is hy 5 0 rfl) (sx_lossesAsToldf_6 hy hrI15434 hTI15434 hI15434  ) (Nat.le_of_ble_eq_true rfl) ?_
        intro r I15443 J15444 Ra hq
        obtain ⟨⟨hI15443, ec, fiI15443, fjI15443⟩, rfl⟩ := hq
        rw [ec]
        clear ec Ra
        have fr15445 : fz 74 g [23, 24, 43, 44, 47, 48, 50, 51, 52, 56, 57, 58] I I15443 := fz_tr fiI15434 (fz_mono fiI15443 (by decide))
        have fr15446 : fz 74 g [45, 46, 56] J J15444 := fz_tr fjJ15435 (fz_mono fjI15443 (by decide))
        have e15447 : I15443 (ad g 56) 1 = w15436 := by rw [fz_at fiI15443 56 (by decide) (by decide)]; exact ew15436
        have e15448 : I15443 (ad g 1) 1 = L := hI15443.2
        have b15449 := BT_get hI15443.1 1 1 2 (0) (0) (900) (by decide) 1 (by decide) (by decide)
        rw [e15448] at b15449
        refine WP_aload_n dX10_worthOfAll_71 rfl ?_
        refine WP_getr dX10_worthOfAll_72 fX10_66 rfl (lyx_is hy 0 10 rfl) (rfx hrI15434 0 6 56 (by decide)) ?_
        refine WQ_iconst (4) (4) dX10_worthOfAll_75 rfl rfl (fun v15450 hv15450 => ?_)
        refine WP_callV1 (k := 4) dX10_worthOfAll_76 ⟨⟨⟨by decide, by decide⟩, zX4_sum⟩, lX10_350, by decide, rfl, vX4_sum.1, vX4_sum.2⟩ (lyx_is hy 56 4 rfl) (sx_sum_56 hy hrI15434 hI15443 v15450 (by omega) (by omega)) (Nat.le_of_ble_eq_true rfl) ?_
        intro r Ia Ja Ra hq
        obtain ⟨⟨ea, eb, ec⟩, v15451, rfl⟩ := hq
        show WP _ _ _ _ (.int _ :: _) _ _ _ _
        rw [ea, eb, ec]
        clear ea eb ec Ia Ja Ra
        exact WP_iret dX10_worthOfAll_79 rfl ⟨⟨hI15443, ⟨hrI15434, ⟨hTI15434.trans hT.symm, hSI15434⟩, hPI15434⟩, fr15445, fr15446⟩, _, rfl⟩
      · refine WP_aload_n dX10_worthOfAll_46 rfl ?_
        refine WP_getr dX10_worthOfAll_47 fX10_55 rfl (lyx_is hy 0 10 rfl) (rfx hrI15434 0 4 49 (by decide)) ?_
        refine WP_aload_n dX10_worthOfAll_50 rfl ?_
        refine WP_getr dX10_worthOfAll_51 fX10_66 rfl (lyx_is hy 0 10 rfl) (rfx hrI15434 0 6 56 (by decide)) ?_
        refine WQ_iconst (1) (1) dX10_worthOfAll_54 rfl rfl (fun v15452 hv15452 => ?_)
        refine WP_callV2 (k := 9) dX10_worthOfAll_55 ⟨⟨⟨by decide, by decide⟩, zX9_passDay⟩, lX10_228, by decide, rfl, vX9_passDay.1, vX9_passDay.2⟩ (lyx_is hy 49 9 rfl) (sx_passDay_56_6 hy hrI15434 hPI15434 hTI15434 hI15434 v15452 (by omega) (by omega) (by omega) (by rw [ew15436]; omega)) (Nat.le_of_ble_eq_true rfl) ?_
        intro r I15453 J15454 R15455 hq
        obtain ⟨⟨hI15453, ⟨hrI15453, ⟨htI15453, hsI15453⟩, hpI15453⟩, fiI15453, fjI15453, pI15453⟩, rfl⟩ := hq
        have ht_I15453 := htI15453.trans hTI15434
        have hs_I15453 : R15455 (ad g 0) 10 = R (ad g 0) 10 := hsI15453.trans hSI15434
        have fr15456 : fz 74 g [23, 24, 43, 44, 47, 48, 50, 51, 52, 56, 57, 58] I I15453 := fz_tr fiI15434 (fz_mono fiI15453 (by decide))
        have fr15457 : fz 74 g [45, 46, 56] J J15454 := fz_tr fjJ15435 (fz_mono fjI15453 (by decide))
        have e15458 : I15453 (ad g 1) 1 = L := hI15453.2
        have b15459 := BT_get hI15453.1 1 1 2 (0) (0) (900) (by decide) 1 (by decide) (by decide)
        rw [e15458] at b15459
        obtain ⟨w15460, ew15460⟩ : ∃ w : Int32, I15453 (ad g 56) 1 = w := ⟨_, rfl⟩
        have bw15460 := BT_get hI15453.1 56 1 2 (0) (23760) (700000) (by decide) 1 (by decide) (by decide)
        rw [ew15460] at bw15460
        rw [ew15460, ew15436] at pI15453
        refine WP_iinc (ls' := [(0, _), (1, _), (2, _), (3, _)]) dX10_worthOfAll_58 rfl (by decide) rfl ?_
        have hv15461 : (i15433 + Int32.ofInt (1)).toInt = i15433.toInt + (1) := ia_n rfl (by omega) (by omega)
        generalize i15433 + Int32.ofInt (1) = v15461 at hv15461 ⊢
        refine WP_goto 38 dX10_worthOfAll_61 rfl ?_
        exact WP_sub (fc rfl (fc rfl (fc rfl (fc rfl fn)))) (ihlp38_15436 v15461 I15453 J15454 R15455 hrI15453 ht_I15453 hs_I15453 hpI15453 hI15453 fr15456 fr15457 w15460 ew15460 (by omega) (by omega) (by omega) (by omega))
  exact WP_sub (fc rfl (fc rfl (fc rfl (fc rfl fn)))) (lp38_15436 _ v15432 I15425 J15426 R hr hT rfl hP hI15425 fr15427 fr15428 w15422 e15429 (by omega) (by omega) (by omega) (Nat.lt_succ_self _))
set_option maxHeartbeats 4000000 in
set_option maxRecDepth 100000 in
theorem sx_worthAt_6 {g : GG} {n : Int} {L : Int32} (hy : LyX g)  {I : pI} {J : pJ} {R : pR} (hr : RfX g R) (hP : NL g R) (hT : R (ad g 5) 0 = some (ad g 6)) (hI : XI g n L I) (a : Int32) (b : Int32)  (hn : 0 ≤ n ∧ n ≤ 40000) : SP g mX10_worthAt [.ref (ad g 0), .int a, .int b] I J R (fun r I' J' R' => (XI g n L I' ∧ (RfX g R' ∧ (R' (ad g 5) 0 = R (ad g 5) 0 ∧ R' (ad g 0) 10 = R (ad g 0) 10) ∧ NL g R') ∧ fz 74 g [23, 24, 43, 44, 47, 48, 50, 51, 52, 56, 57, 58] I I' ∧ fz 74 g [45, 46, 56] J J') ∧ ∃ v : Int32, r = some (.int v)) := by
  refine SP_of ⟨by decide, rfl⟩ (Nat.le_of_ble_eq_true rfl) ?_
  have e15462 : I (ad g 1) 1 = L := hI.2
  have b15463 := BT_get hI.1 1 1 2 (0) (0) (900) (by decide) 1 (by decide) (by decide)
  rw [e15462] at b15463
  have fr0 : fz 74 g [23, 24, 43, 44, 47, 48, 50, 51, 52, 56, 57, 58] I I := fz_rf
  have frj0 : fz 74 g [45, 46, 56] J J := fz_rf
  refine WP_iload_n dX10_worthAt_0 rfl ?_
  refine WQ_if_lt 17 dX10_worthAt_1 rfl (fun c15463 => ?_) (fun c15463 => ?_)
  · refine WQ_bipush (-2) (-2) dX10_worthAt_17 rfl rfl (fun v15465 hv15465 => ?_)
    refine WP_goto 28 dX10_worthAt_19 rfl ?_
    exact WP_iret dX10_worthAt_28 rfl ⟨⟨hI, ⟨hr, ⟨hT.trans hT.symm, rfl⟩, hP⟩, fr0, frj0⟩, _, rfl⟩
  · refine WP_iload_n dX10_worthAt_4 rfl ?_
    refine WQ_bipush (18) (18) dX10_worthAt_5 rfl rfl (fun v15466 hv15466 => ?_)
    refine WQ_icmp_gt 17 dX10_worthAt_7 rfl (fun c15466 => ?_) (fun c15466 => ?_)
    · refine WQ_bipush (-2) (-2) dX10_worthAt_17 rfl rfl (fun v15468 hv15468 => ?_)
      refine WP_goto 28 dX10_worthAt_19 rfl ?_
      exact WP_iret dX10_worthAt_28 rfl ⟨⟨hI, ⟨hr, ⟨hT.trans hT.symm, rfl⟩, hP⟩, fr0, frj0⟩, _, rfl⟩
    · refine WP_iload_n dX10_worthAt_10 rfl ?_
      refine WP_callS1 dX10_worthAt_11 ⟨⟨⟨by decide, by decide⟩, zX10_isWeeks⟩, lX10_253, tX10_isWeeks⟩ (sx_isWeeks hy hr hI b ) (Nat.le_of_ble_eq_true rfl) ?_
      intro r Ia Ja Ra hq
      obtain ⟨⟨ea, eb, ec⟩, v15469, rfl, av15469, bv15469, cv15469⟩ := hq
      show WP _ _ _ _ (.int _ :: _) _ _ _ _
      rw [ea, eb, ec]
      clear ea eb ec Ia Ja Ra
      refine WQ_if_ne 22 dX10_worthAt_14 rfl (fun c15469 => ?_) (fun c15469 => ?_)
      · refine WP_aload_n dX10_worthAt_22 rfl ?_
        refine WP_iload_n dX10_worthAt_23 rfl ?_
        refine WP_iload_n dX10_worthAt_24 rfl ?_
        refine WP_callV2 (k := 10) dX10_worthAt_25 ⟨⟨⟨by decide, by decide⟩, zX10_worthOfAll⟩, lX10_256, by decide, rfl, vX10_worthOfAll.1, vX10_worthOfAll.2⟩ (lyx_is hy 0 10 rfl) (sx_worthOfAll_6 hy hr hP hT hI a b (by omega) (by omega) (by omega) (by omega) (by omega)) (Nat.le_of_ble_eq_true rfl) ?_
        intro r I15471 J15472 R15473 hq
        obtain ⟨⟨hI15471, ⟨hrI15471, ⟨htI15471, hsI15471⟩, hpI15471⟩, fiI15471, fjI15471⟩, v15474, rfl⟩ := hq
        show WP _ _ _ _ (.int _ :: _) _ _ _ _
        have ht_I15471 := htI15471.trans hT
        have hs_I15471 : R15473 (ad g 0) 10 = R (ad g 0) 10 := hsI15471.trans rfl
        have fr15475 : fz 74 g [23, 24, 43, 44, 47, 48, 50, 51, 52, 56, 57, 58] I I15471 := fz_tr fr0 (fz_mono fiI15471 (by decide))
        have fr15476 : fz 74 g [45, 46, 56] J J15472 := fz_tr frj0 (fz_mono fjI15471 (by decide))
        have e15477 : I15471 (ad g 1) 1 = L := hI15471.2
        have b15478 := BT_get hI15471.1 1 1 2 (0) (0) (900) (by decide) 1 (by decide) (by decide)
        rw [e15477] at b15478
        exact WP_iret dX10_worthAt_28 rfl ⟨⟨hI15471, ⟨hrI15471, ⟨ht_I15471.trans hT.symm, hs_I15471⟩, hpI15471⟩, fr15475, fr15476⟩, _, rfl⟩
      · refine WQ_bipush (-2) (-2) dX10_worthAt_17 rfl rfl (fun v15479 hv15479 => ?_)
        refine WP_goto 28 dX10_worthAt_19 rfl ?_
        exact WP_iret dX10_worthAt_28 rfl ⟨⟨hI, ⟨hr, ⟨hT.trans hT.symm, rfl⟩, hP⟩, fr0, frj0⟩, _, rfl⟩
set_option maxHeartbeats 4000000 in
set_option maxRecDepth 100000 in
theorem sx_rate_6 {g : GG} {n : Int} {L : Int32} (hy : LyX g)  {I : pI} {J : pJ} {R : pR} (hr : RfX g R) (hP : NL g R) (hT : R (ad g 5) 0 = some (ad g 6)) (hI : XI g n L I) (a : Int32)  (hn : 0 ≤ n ∧ n ≤ 40000) : SP g mX10_rate [.ref (ad g 0), .int a] I J R (fun r I' J' R' => (XI g n L I' ∧ (RfX g R' ∧ (R' (ad g 5) 0 = R (ad g 5) 0 ∧ R' (ad g 0) 10 = R (ad g 0) 10) ∧ NL g R') ∧ fz 74 g [23, 24, 43, 44, 47, 48, 50, 51, 52, 56, 57, 58] I I' ∧ fz 74 g [45, 46, 56] J J') ∧ ∃ v : Int32, r = some (.int v)) := by
  refine SP_of ⟨by decide, rfl⟩ (Nat.le_of_ble_eq_true rfl) ?_
  have e15480 : I (ad g 1) 1 = L := hI.2
  have b15481 := BT_get hI.1 1 1 2 (0) (0) (900) (by decide) 1 (by decide) (by decide)
  rw [e15480] at b15481
  have fr0 : fz 74 g [23, 24, 43, 44, 47, 48, 50, 51, 52, 56, 57, 58] I I := fz_rf
  have frj0 : fz 74 g [45, 46, 56] J J := fz_rf
  refine WP_iload_n dX10_rate_0 rfl ?_
  refine WP_callS1 dX10_rate_1 ⟨⟨⟨by decide, by decide⟩, zX10_isWeeks⟩, lX10_253, tX10_isWeeks⟩ (sx_isWeeks hy hr hI a ) (Nat.le_of_ble_eq_true rfl) ?_
  intro r Ia Ja Ra hq
  obtain ⟨⟨ea, eb, ec⟩, v15482, rfl, av15482, bv15482, cv15482⟩ := hq
  show WP _ _ _ _ (.int _ :: _) _ _ _ _
  rw [ea, eb, ec]
  clear ea eb ec Ia Ja Ra
  refine WQ_if_ne 10 dX10_rate_4 rfl (fun c15482 => ?_) (fun c15482 => ?_)
  · refine WP_aload_n dX10_rate_10 rfl ?_
    refine WQ_iconst (0) (0) dX10_rate_11 rfl rfl (fun v15484 hv15484 => ?_)
    refine WP_iload_n dX10_rate_12 rfl ?_
    refine WP_callV2 (k := 10) dX10_rate_13 ⟨⟨⟨by decide, by decide⟩, zX10_worthOfAll⟩, lX10_256, by decide, rfl, vX10_worthOfAll.1, vX10_worthOfAll.2⟩ (lyx_is hy 0 10 rfl) (sx_worthOfAll_6 hy hr hP hT hI v15484 a (by omega) (by omega) (by omega) (by omega) (by omega)) (Nat.le_of_ble_eq_true rfl) ?_
    intro r I15485 J15486 R15487 hq
    obtain ⟨⟨hI15485, ⟨hrI15485, ⟨htI15485, hsI15485⟩, hpI15485⟩, fiI15485, fjI15485⟩, v15488, rfl⟩ := hq
    show WP _ _ _ _ (.int _ :: _) _ _ _ _
    have ht_I15485 := htI15485.trans hT
    have hs_I15485 : R15487 (ad g 0) 10 = R (ad g 0) 10 := hsI15485.trans rfl
    have fr15489 : fz 74 g [23, 24, 43, 44, 47, 48, 50, 51, 52, 56, 57, 58] I I15485 := fz_tr fr0 (fz_mono fiI15485 (by decide))
    have fr15490 : fz 74 g [45, 46, 56] J J15486 := fz_tr frj0 (fz_mono fjI15485 (by decide))
    have e15491 : I15485 (ad g 1) 1 = L := hI15485.2
    have b15492 := BT_get hI15485.1 1 1 2 (0) (0) (900) (by decide) 1 (by decide) (by decide)
    rw [e15491] at b15492
    refine WP_istore_n (ls' := [(0, _), (1, _), (2, _)]) dX10_rate_16 (by decide) rfl ?_
    refine WQ_iconst (0) (0) dX10_rate_17 rfl rfl (fun v15493 hv15493 => ?_)
    refine WP_istore_n (ls' := [(0, _), (1, _), (2, _), (3, _)]) dX10_rate_18 (by decide) rfl ?_
    refine WQ_iconst (1) (1) dX10_rate_19 rfl rfl (fun v15494 hv15494 => ?_)
    refine WP_istore (ls' := [(0, _), (1, _), (2, _), (3, _), (4, _)]) dX10_rate_20 (by decide) rfl ?_
    have lp22_15499 : ∀ (mz : Nat) (i15495 : Int32) (i15496 : Int32) (i15497 : Int32) (I15498 : pI) (J15499 : pJ) (RI15498 : pR), RfX g RI15498 → RI15498 (ad g 5) 0 = some (ad g 6) → RI15498 (ad g 0) 10 = R (ad g 0) 10 → NL g RI15498 → XI g n L I15498 → fz 74 g [23, 24, 43, 44, 47, 48, 50, 51, 52, 56, 57, 58] I I15498 → fz 74 g [45, 46, 56] J J15499 → 1 ≤ i15497.toInt → i15497.toInt ≤ 19 → (20 - i15497.toInt).toNat < mz → WP g mX10_rate 22 [(0, .ref (ad g 0)), (1, .int a), (2, .int i15495), (3, .int i15496), (4, .int i15497)] [] I15498 J15499 RI15498 (fun r I' J' R' => (XI g n L I' ∧ (RfX g R' ∧ (R' (ad g 5) 0 = R (ad g 5) 0 ∧ R' (ad g 0) 10 = R (ad g 0) 10) ∧ NL g R') ∧ fz 74 g [23, 24, 43, 44, 47, 48, 50, 51, 52, 56, 57, 58] I I' ∧ fz 74 g [45, 46, 56] J J') ∧ ∃ v : Int32, r = some (.int v)) := by
      intro mz
      induction mz with
      | zero =>
        intro i15495 i15496 i15497 I15498 J15499 RI15498 hrI15498 hTI15498 hSI15498 hPI15498 hI15498 fiI15498 fjJ15499 ai15497 bi15497 hmlp22_15499
        exact absurd hmlp22_15499 (Nat.not_lt_zero _)
      | succ mz ihlp22_15499 =>
        intro i15495 i15496 i15497 I15498 J15499 RI15498 hrI15498 hTI15498 hSI15498 hPI15498 hI15498 fiI15498 fjJ15499 ai15497 bi15497 hmlp22_15499
        have e15501 : I15498 (ad g 1) 1 = L := hI15498.2
        have b15502 := BT_get hI15498.1 1 1 2 (0) (0) (900) (by decide) 1 (by decide) (by decide)
        rw [e15501] at b15502
        refine WP_iload dX10_rate_22 rfl ?_
        refine WQ_bipush (18) (18) dX10_rate_24 rfl rfl (fun v15503 hv15503 => ?_)
        refine WQ_icmp_gt 56 dX10_rate_26 rfl (fun c15503 => ?_) (fun c15503 => ?_)
        · refine WP_iload_n dX10_rate_56 rfl ?_
          exact WP_iret dX10_rate_57 rfl ⟨⟨hI15498, ⟨hrI15498, ⟨hTI15498.trans hT.symm, hSI15498⟩, hPI15498⟩, fiI15498, fjJ15499⟩, _, rfl⟩
        · refine WP_aload_n dX10_rate_29 rfl ?_
          refine WP_iload dX10_rate_30 rfl ?_
          refine WP_iload_n dX10_rate_32 rfl ?_
          refine WP_callV2 (k := 10) dX10_rate_33 ⟨⟨⟨by decide, by decide⟩, zX10_worthOfAll⟩, lX10_256, by decide, rfl, vX10_worthOfAll.1, vX10_worthOfAll.2⟩ (lyx_is hy 0 10 rfl) (sx_worthOfAll_6 hy hrI15498 hPI15498 hTI15498 hI15498 i15497 a (by omega) (by omega) (by omega) (by omega) (by omega)) (Nat.le_of_ble_eq_true rfl) ?_
          intro r I15505 J15506 R15507 hq
          obtain ⟨⟨hI15505, ⟨hrI15505, ⟨htI15505, hsI15505⟩, hpI15505⟩, fiI15505, fjI15505⟩, v15508, rfl⟩ := hq
          show WP _ _ _ _ (.int _ :: _) _ _ _ _
          have ht_I15505 := htI15505.trans hTI15498
          have hs_I15505 : R15507 (ad g 0) 10 = R (ad g 0) 10 := hsI15505.trans hSI15498
          have fr15509 : fz 74 g [23, 24, 43, 44, 47, 48, 50, 51, 52, 56, 57, 58] I I15505 := fz_tr fiI15498 (fz_mono fiI15505 (by decide))
          have fr15510 : fz 74 g [45, 46, 56] J J15506 := fz_tr fjJ15499 (fz_mono fjI15505 (by decide))
          have e15511 : I15505 (ad g 1) 1 = L := hI15505.2
          have b15512 := BT_get hI15505.1 1 1 2 (0) (0) (900) (by decide) 1 (by decide) (by decide)
          rw [e15511] at b15512
          refine WP_istore (ls' := [(0, _), (1, _), (2, _), (3, _), (4, _), (5, _)]) dX10_rate_36 (by decide) rfl ?_
          refine WP_iload dX10_rate_38 rfl ?_
          refine WP_iload_n dX10_rate_40 rfl ?_
          refine WQ_icmp_le 50 dX10_rate_41 rfl (fun c15512 => ?_) (fun c15512 => ?_)
          · refine WP_iinc (ls' := [(0, _), (1, _), (2, _), (3, _), (4, _), (5, _)]) dX10_rate_50 rfl (by decide) rfl ?_
            have hv15514 : (i15497 + Int32.ofInt (1)).toInt = i15497.toInt + (1) := ia_n rfl (by omega) (by omega)
            generalize i15497 + Int32.ofInt (1) = v15514 at hv15514 ⊢
            refine WP_goto 22 dX10_rate_53 rfl ?_
            exact WP_sub (fc rfl (fc rfl (fc rfl (fc rfl (fc rfl fn))))) (ihlp22_15499 i15495 i15496 v15514 I15505 J15506 R15507 hrI15505 ht_I15505 hs_I15505 hpI15505 hI15505 fr15509 fr15510 (by omega) (by omega) (by omega))
          · refine WP_iload dX10_rate_44 rfl ?_
            refine WP_istore_n (ls' := [(0, _), (1, _), (2, _), (3, _), (4, _), (5, _)]) dX10_rate_46 (by decide) rfl ?_
            refine WP_iload dX10_rate_47 rfl ?_
            refine WP_istore_n (ls' := [(0, _), (1, _), (2, _), (3, _), (4, _), (5, _)]) dX10_rate_49 (by decide) rfl ?_
            refine WP_iinc (ls' := [(0, _), (1, _), (2, _), (3, _), (4, _), (5, _)]) dX10_rate_50 rfl (by decide) rfl ?_
            have hv15515 : (i15497 + Int32.ofInt (1)).toInt = i15497.toInt + (1) := ia_n rfl (by omega) (by omega)
            generalize i15497 + Int32.ofInt (1) = v15515 at hv15515 ⊢
            refine WP_goto 22 dX10_rate_53 rfl ?_
            exact WP_sub (fc rfl (fc rfl (fc rfl (fc rfl (fc rfl fn))))) (ihlp22_15499 v15508 i15497 v15515 I15505 J15506 R15507 hrI15505 ht_I15505 hs_I15505 hpI15505 hI15505 fr15509 fr15510 (by omega) (by omega) (by omega))
    exact WP_sub (fc rfl (fc rfl (fc rfl (fc rfl (fc rfl fn))))) (lp22_15499 _ v15488 v15493 v15494 I15485 J15486 R15487 hrI15485 ht_I15485 hs_I15485 hpI15485 hI15485 fr15489 fr15490 (by omega) (by omega) (Nat.lt_succ_self _))
  · refine WQ_bipush (-2) (-2) dX10_rate_7 rfl rfl (fun v15516 hv15516 => ?_)
    exact WP_iret dX10_rate_9 rfl ⟨⟨hI, ⟨hr, ⟨hT.trans hT.symm, rfl⟩, hP⟩, fr0, frj0⟩, _, rfl⟩
set_option maxHeartbeats 4000000 in
set_option maxRecDepth 100000 in
theorem sx_turnChanges_6 {g : GG} {n : Int} {L : Int32} (hy : LyX g)  {I : pI} {J : pJ} {R : pR} (hr : RfX g R) (hP : NL g R) (hT : R (ad g 5) 0 = some (ad g 6)) (hI : XI g n L I)   (hn : 0 ≤ n ∧ n ≤ 40000) : SP g mX10_turnChanges [.ref (ad g 0)] I J R (fun r I' J' R' => (XI g n L I' ∧ (RfX g R' ∧ (R' (ad g 5) 0 = R (ad g 5) 0 ∧ R' (ad g 0) 10 = R (ad g 0) 10) ∧ NL g R') ∧ fz 74 g [22, 43, 44, 47, 48, 50, 51, 52, 56, 57, 58] I I' ∧ fz 74 g [45, 46, 56] J J') ∧ ∃ v : Int32, r = some (.int v) ∧ 0 ≤ v.toInt ∧ v.toInt ≤ 1) := by
  refine SP_of ⟨by decide, rfl⟩ (Nat.le_of_ble_eq_true rfl) ?_
  have e15517 : I (ad g 1) 1 = L := hI.2
  have b15518 := BT_get hI.1 1 1 2 (0) (0) (900) (by decide) 1 (by decide) (by decide)
  rw [e15517] at b15518
  have fr0 : fz 74 g [22, 43, 44, 47, 48, 50, 51, 52, 56, 57, 58] I I := fz_rf
  have frj0 : fz 74 g [45, 46, 56] J J := fz_rf
  refine WP_aload_n dX10_turnChanges_0 rfl ?_
  refine WP_getr dX10_turnChanges_1 fX10_66 rfl (lyx_is hy 0 10 rfl) (rfx hr 0 6 56 (by decide)) ?_
  refine WP_aload_n dX10_turnChanges_4 rfl ?_
  refine WP_getr dX10_turnChanges_5 fX10_62 rfl (lyx_is hy 0 10 rfl) (rfx hr 0 5 53 (by decide)) ?_
  refine WP_callV1 (k := 4) dX10_turnChanges_8 ⟨⟨⟨by decide, by decide⟩, zX4_become⟩, lX10_249, by decide, rfl, vX4_become.1, vX4_become.2⟩ (lyx_is hy 56 4 rfl) (sx_becomef_56_53 hy hr hI  ) (Nat.le_of_ble_eq_true rfl) ?_
  intro r I15519 J15520 Ra hq
  obtain ⟨⟨hI15519, ec, fiI15519, fjI15519⟩, rfl⟩ := hq
  rw [ec]
  clear ec Ra
  have fr15521 : fz 74 g [22, 43, 44, 47, 48, 50, 51, 52, 56, 57, 58] I I15519 := fz_tr fr0 (fz_mono fiI15519 (by decide))
  have fr15522 : fz 74 g [45, 46, 56] J J15520 := fz_tr frj0 (fz_mono fjI15519 (by decide))
  have e15523 : I15519 (ad g 1) 1 = L := hI15519.2
  have b15524 := BT_get hI15519.1 1 1 2 (0) (0) (900) (by decide) 1 (by decide) (by decide)
  rw [e15523] at b15524
  refine WP_aload_n dX10_turnChanges_11 rfl ?_
  refine WP_getr dX10_turnChanges_12 fX10_66 rfl (lyx_is hy 0 10 rfl) (rfx hr 0 6 56 (by decide)) ?_
  refine WP_aload_n dX10_turnChanges_15 rfl ?_
  refine WP_getr dX10_turnChanges_16 fX10_33 rfl (lyx_is hy 0 10 rfl) (rfx hr 0 2 5 (by decide)) ?_
  refine WP_getr dX10_turnChanges_19 fX10_102 rfl (lyx_is hy 5 0 rfl) hT ?_
  refine WP_callV1 (k := 4) dX10_turnChanges_22 ⟨⟨⟨by decide, by decide⟩, zX4_begin⟩, lX10_246, by decide, rfl, vX4_begin.1, vX4_begin.2⟩ (lyx_is hy 56 4 rfl) (sx_beginf_56_6 hy hr hI15519   (by omega)) (Nat.le_of_ble_eq_true rfl) ?_
  intro r I15525 J15526 Ra hq
  obtain ⟨⟨hI15525, ec, fiI15525, fjI15525, pI15525⟩, rfl⟩ := hq
  rw [ec]
  clear ec Ra
  have fr15527 : fz 74 g [22, 43, 44, 47, 48, 50, 51, 52, 56, 57, 58] I I15525 := fz_tr fr15521 (fz_mono fiI15525 (by decide))
  have fr15528 : fz 74 g [45, 46, 56] J J15526 := fz_tr fr15522 (fz_mono fjI15525 (by decide))
  have e15529 : I15525 (ad g 1) 1 = L := hI15525.2
  have b15530 := BT_get hI15525.1 1 1 2 (0) (0) (900) (by decide) 1 (by decide) (by decide)
  rw [e15529] at b15530
  obtain ⟨w15531, ew15531⟩ : ∃ w : Int32, I15525 (ad g 56) 1 = w := ⟨_, rfl⟩
  have bw15531 := BT_get hI15525.1 56 1 2 (0) (23760) (700000) (by decide) 1 (by decide) (by decide)
  rw [ew15531] at bw15531
  rw [ew15531] at pI15525
  refine WP_aload_n dX10_turnChanges_25 rfl ?_
  refine WP_getr dX10_turnChanges_26 fX10_55 rfl (lyx_is hy 0 10 rfl) (rfx hr 0 4 49 (by decide)) ?_
  refine WP_getr dX10_turnChanges_29 fX10_353 rfl (lyx_is hy 49 9 rfl) (rfx hr 49 1 51 (by decide)) ?_
  refine WQ_iconst (0) (0) dX10_turnChanges_32 rfl rfl (fun v15532 hv15532 => ?_)
  refine WP_callS2u dX10_turnChanges_33 ⟨⟨⟨by decide, by decide⟩, zJ7_fill_53178⟩, lX10_335, tJ7_fill_53178⟩ (s_fill hy hr 51 21 rfl rfl (by decide) v15532) (Nat.le_of_ble_eq_true rfl) ?_
  obtain ⟨I15533, eI15533⟩ : ∃ I9 : pI, I9 = fi I15525 (ad g 51) 21 v15532 := ⟨_, rfl⟩
  rw [← eI15533]
  have hI15533 : XI g n L I15533 := by rw [eI15533]; exact (xi_fill0 hy hI15525 51 21 v15532 (by decide) (by decide))
  have e15534 : I15533 (ad g 1) 1 = L := by rw [eI15533, fi_off (lyx_ne hy (by decide) (by decide) (by decide))]; exact e15529
  have e15535 : I15533 (ad g 56) 1 = w15531 := by rw [eI15533, fi_off (lyx_ne hy (by decide) (by decide) (by decide))]; exact ew15531
  have fr15536 : fz 74 g [22, 43, 44, 47, 48, 50, 51, 52, 56, 57, 58] I I15533 := by rw [eI15533]; exact fzx_fi hy fr15527 (by decide) (by decide)
  clear eI15533
  refine WQ_iconst (0) (0) dX10_turnChanges_36 rfl rfl (fun v15537 hv15537 => ?_)
  refine WP_istore_n (ls' := [(0, _), (1, _)]) dX10_turnChanges_37 (by decide) rfl ?_
  have lp38_15541 : ∀ (mz : Nat) (i15538 : Int32) (I15539 : pI) (J15540 : pJ) (RI15539 : pR), RfX g RI15539 → RI15539 (ad g 5) 0 = some (ad g 6) → RI15539 (ad g 0) 10 = R (ad g 0) 10 → NL g RI15539 → XI g n L I15539 → fz 74 g [22, 43, 44, 47, 48, 50, 51, 52, 56, 57, 58] I I15539 → fz 74 g [45, 46, 56] J J15540 → ∀ (w15541 : Int32), I15539 (ad g 56) 1 = w15541 → 0 ≤ i15538.toInt → i15538.toInt ≤ 7 → w15541.toInt ≤ 23760 * i15538.toInt → (8 - i15538.toInt).toNat < mz → WP g mX10_turnChanges 38 [(0, .ref (ad g 0)), (1, .int i15538)] [] I15539 J15540 RI15539 (fun r I' J' R' => (XI g n L I' ∧ (RfX g R' ∧ (R' (ad g 5) 0 = R (ad g 5) 0 ∧ R' (ad g 0) 10 = R (ad g 0) 10) ∧ NL g R') ∧ fz 74 g [22, 43, 44, 47, 48, 50, 51, 52, 56, 57, 58] I I' ∧ fz 74 g [45, 46, 56] J J') ∧ ∃ v : Int32, r = some (.int v) ∧ 0 ≤ v.toInt ∧ v.toInt ≤ 1) := by
    intro mz
    induction mz with
    | zero =>
      intro i15538 I15539 J15540 RI15539 hrI15539 hTI15539 hSI15539 hPI15539 hI15539 fiI15539 fjJ15540 w15541 ew15541 ai15538 bi15538 j0_I15539 hmlp38_15541
      exact absurd hmlp38_15541 (Nat.not_lt_zero _)
    | succ mz ihlp38_15541 =>
      intro i15538 I15539 J15540 RI15539 hrI15539 hTI15539 hSI15539 hPI15539 hI15539 fiI15539 fjJ15540 w15541 ew15541 ai15538 bi15538 j0_I15539 hmlp38_15541
      have bw15541 := BT_get hI15539.1 56 1 2 (0) (23760) (700000) (by decide) 1 (by decide) (by decide)
      rw [ew15541] at bw15541
      have e15543 : I15539 (ad g 1) 1 = L := hI15539.2
      have b15544 := BT_get hI15539.1 1 1 2 (0) (0) (900) (by decide) 1 (by decide) (by decide)
      rw [e15543] at b15544
      refine WP_iload_n dX10_turnChanges_38 rfl ?_
      refine WQ_bipush (7) (7) dX10_turnChanges_39 rfl rfl (fun v15545 hv15545 => ?_)
      refine WQ_icmp_ge 62 dX10_turnChanges_41 rfl (fun c15545 => ?_) (fun c15545 => ?_)
      · refine WP_aload_n dX10_turnChanges_62 rfl ?_
        refine WP_getr dX10_turnChanges_63 fX10_33 rfl (lyx_is hy 0 10 rfl) (rfx hrI15539 0 2 5 (by decide)) ?_
        refine WP_aload_n dX10_turnChanges_66 rfl ?_
        refine WP_getr dX10_turnChanges_67 fX10_55 rfl (lyx_is hy 0 10 rfl) (rfx hrI15539 0 4 49 (by decide)) ?_
        refine WP_getr dX10_turnChanges_70 fX10_353 rfl (lyx_is hy 49 9 rfl) (rfx hrI15539 49 1 51 (by decide)) ?_
        refine WP_callV1 (k := 0) dX10_turnChanges_73 ⟨⟨⟨by decide, by decide⟩, zX0_movePrices⟩, lX10_356, by decide, rfl, vX0_movePrices.1, vX0_movePrices.2⟩ (lyx_is hy 5 0 rfl) (sx_movePricesf_6 hy hrI15539 hTI15539 hI15539  ) (Nat.le_of_ble_eq_true rfl) ?_
        intro r I15547 J15548 Ra hq
        obtain ⟨⟨hI15547, ec, fiI15547, fjI15547⟩, v15549, rfl, av15549, bv15549⟩ := hq
        show WP _ _ _ _ (.int _ :: _) _ _ _ _
        rw [ec]
        clear ec Ra
        have fr15550 : fz 74 g [22, 43, 44, 47, 48, 50, 51, 52, 56, 57, 58] I I15547 := fz_tr fiI15539 (fz_mono fiI15547 (by decide))
        have fr15551 : fz 74 g [45, 46, 56] J J15548 := fz_tr fjJ15540 (fz_mono fjI15547 (by decide))
        have e15552 : I15547 (ad g 56) 1 = w15541 := by rw [fz_at fiI15547 56 (by decide) (by decide)]; exact ew15541
        have e15553 : I15547 (ad g 1) 1 = L := hI15547.2
        have b15554 := BT_get hI15547.1 1 1 2 (0) (0) (900) (by decide) 1 (by decide) (by decide)
        rw [e15553] at b15554
        exact WP_zret dX10_turnChanges_76 rfl (nar_z (by omega)) ⟨⟨hI15547, ⟨hrI15539, ⟨hTI15539.trans hT.symm, hSI15539⟩, hPI15539⟩, fr15550, fr15551⟩, _, rfl, by omega, by omega⟩
      · refine WP_aload_n dX10_turnChanges_44 rfl ?_
        refine WP_getr dX10_turnChanges_45 fX10_55 rfl (lyx_is hy 0 10 rfl) (rfx hrI15539 0 4 49 (by decide)) ?_
        refine WP_aload_n dX10_turnChanges_48 rfl ?_
        refine WP_getr dX10_turnChanges_49 fX10_66 rfl (lyx_is hy 0 10 rfl) (rfx hrI15539 0 6 56 (by decide)) ?_
        refine WQ_iconst (0) (0) dX10_turnChanges_52 rfl rfl (fun v15555 hv15555 => ?_)
        refine WP_callV2 (k := 9) dX10_turnChanges_53 ⟨⟨⟨by decide, by decide⟩, zX9_passDay⟩, lX10_228, by decide, rfl, vX9_passDay.1, vX9_passDay.2⟩ (lyx_is hy 49 9 rfl) (sx_passDay_56_6 hy hrI15539 hPI15539 hTI15539 hI15539 v15555 (by omega) (by omega) (by omega) (by rw [ew15541]; omega)) (Nat.le_of_ble_eq_true rfl) ?_
        intro r I15556 J15557 R15558 hq
        obtain ⟨⟨hI15556, ⟨hrI15556, ⟨htI15556, hsI15556⟩, hpI15556⟩, fiI15556, fjI15556, pI15556⟩, rfl⟩ := hq
        have ht_I15556 := htI15556.trans hTI15539
        have hs_I15556 : R15558 (ad g 0) 10 = R (ad g 0) 10 := hsI15556.trans hSI15539
        have fr15559 : fz 74 g [22, 43, 44, 47, 48, 50, 51, 52, 56, 57, 58] I I15556 := fz_tr fiI15539 (fz_mono fiI15556 (by decide))
        have fr15560 : fz 74 g [45, 46, 56] J J15557 := fz_tr fjJ15540 (fz_mono fjI15556 (by decide))
        have e15561 : I15556 (ad g 1) 1 = L := hI15556.2
        have b15562 := BT_get hI15556.1 1 1 2 (0) (0) (900) (by decide) 1 (by decide) (by decide)
        rw [e15561] at b15562
        obtain ⟨w15563, ew15563⟩ : ∃ w : Int32, I15556 (ad g 56) 1 = w := ⟨_, rfl⟩
        have bw15563 := BT_get hI15556.1 56 1 2 (0) (23760) (700000) (by decide) 1 (by decide) (by decide)
        rw [ew15563] at bw15563
        rw [ew15563, ew15541] at pI15556
        refine WP_iinc (ls' := [(0, _), (1, _)]) dX10_turnChanges_56 rfl (by decide) rfl ?_
        have hv15564 : (i15538 + Int32.ofInt (1)).toInt = i15538.toInt + (1) := ia_n rfl (by omega) (by omega)
        generalize i15538 + Int32.ofInt (1) = v15564 at hv15564 ⊢
        refine WP_goto 38 dX10_turnChanges_59 rfl ?_
        exact WP_sub (fc rfl (fc rfl fn)) (ihlp38_15541 v15564 I15556 J15557 R15558 hrI15556 ht_I15556 hs_I15556 hpI15556 hI15556 fr15559 fr15560 w15563 ew15563 (by omega) (by omega) (by omega) (by omega))
  exact WP_sub (fc rfl (fc rfl fn)) (lp38_15541 _ v15537 I15533 J15526 R hr hT rfl hP hI15533 fr15536 fr15528 w15531 e15535 (by omega) (by omega) (by omega) (Nat.lt_succ_self _))
set_option maxHeartbeats 4000000 in
set_option maxRecDepth 100000 in
theorem sx_rest_6 {g : GG} {n : Int} {L : Int32} (hy : LyX g)  {I : pI} {J : pJ} {R : pR} (hr : RfX g R) (hP : NL g R) (hT : R (ad g 5) 0 = some (ad g 6)) (hI : XI g n L I) (a : Int32)  (hn : 0 ≤ n ∧ n ≤ 40000) : SP g mX10_rest [.ref (ad g 0), .int a] I J R (fun r I' J' R' => (XI g n L I' ∧ (RfX g R' ∧ (R' (ad g 5) 0 = R (ad g 5) 0 ∧ R' (ad g 0) 10 = R (ad g 0) 10) ∧ NL g R') ∧ fz 74 g [0, 22, 43, 44, 47, 48, 50, 51, 52, 56, 57, 58] I I' ∧ fz 74 g [45, 46, 56] J J') ∧ ∃ v : Int32, r = some (.int v)) := by
  refine SP_of ⟨by decide, rfl⟩ (Nat.le_of_ble_eq_true rfl) ?_
  have e15565 : I (ad g 1) 1 = L := hI.2
  have b15566 := BT_get hI.1 1 1 2 (0) (0) (900) (by decide) 1 (by decide) (by decide)
  rw [e15565] at b15566
  have fr0 : fz 74 g [0, 22, 43, 44, 47, 48, 50, 51, 52, 56, 57, 58] I I := fz_rf
  have frj0 : fz 74 g [45, 46, 56] J J := fz_rf
  refine WP_iload_n dX10_rest_0 rfl ?_
  refine WQ_if_eq 12 dX10_rest_1 rfl (fun c15566 => ?_) (fun c15566 => ?_)
  · refine WP_iload_n dX10_rest_12 rfl ?_
    refine WQ_iconst (1) (1) dX10_rest_13 rfl rfl (fun v15568 hv15568 => ?_)
    refine WQ_icmp_ne 24 dX10_rest_14 rfl (fun c15568 => ?_) (fun c15568 => False.elim (by omega))
    refine WQ_iconst (0) (0) dX10_rest_24 rfl rfl (fun v15570 hv15570 => ?_)
    refine WP_istore_n (ls' := [(0, _), (1, _), (2, _)]) dX10_rest_25 (by decide) rfl ?_
    refine WP_aload_n dX10_rest_26 rfl ?_
    refine WQ_iconst (0) (0) dX10_rest_27 rfl rfl (fun v15571 hv15571 => ?_)
    refine WQ_puti dX10_rest_28 fX10_263 rfl rfl (lyx_is hy 0 10 rfl) (fun I15572 eI15572 => ?_)
    have hI15572 : XI g n L I15572 := by rw [eI15572]; exact (xi_f0 hy hI (c := 0) (by decide) (Or.inl (by decide)) (by decide))
    have e15573 : I15572 (ad g 1) 1 = L := by rw [eI15572, pp_ne _ _ (Or.inl (lyx_ne hy (by decide) (by decide) (by decide)))]; exact e15565
    have e15574 : I15572 (ad g 0) 11 = v15571 := by rw [eI15572, pp_self]
    have fr15575 : fz 74 g [0, 22, 43, 44, 47, 48, 50, 51, 52, 56, 57, 58] I I15572 := by rw [eI15572]; exact fzx_pp hy fr0 (by decide) (by decide)
    clear eI15572
    have lp31_15579 : ∀ (mz : Nat) (i15576 : Int32) (I15577 : pI) (J15578 : pJ) (RI15577 : pR), RfX g RI15577 → RI15577 (ad g 5) 0 = some (ad g 6) → RI15577 (ad g 0) 10 = R (ad g 0) 10 → NL g RI15577 → XI g n L I15577 → fz 74 g [0, 22, 43, 44, 47, 48, 50, 51, 52, 56, 57, 58] I I15577 → fz 74 g [45, 46, 56] J J15578 → ∀ (w15579 : Int32), I15577 (ad g 0) 11 = w15579 → 0 ≤ i15576.toInt → i15576.toInt ≤ 1 → 0 ≤ w15579.toInt → w15579.toInt ≤ 60 → (61 - w15579.toInt).toNat < mz → WP g mX10_rest 31 [(0, .ref (ad g 0)), (1, .int a), (2, .int i15576)] [] I15577 J15578 RI15577 (fun r I' J' R' => (XI g n L I' ∧ (RfX g R' ∧ (R' (ad g 5) 0 = R (ad g 5) 0 ∧ R' (ad g 0) 10 = R (ad g 0) 10) ∧ NL g R') ∧ fz 74 g [0, 22, 43, 44, 47, 48, 50, 51, 52, 56, 57, 58] I I' ∧ fz 74 g [45, 46, 56] J J') ∧ ∃ v : Int32, r = some (.int v)) := by
      intro mz
      induction mz with
      | zero =>
        intro i15576 I15577 J15578 RI15577 hrI15577 hTI15577 hSI15577 hPI15577 hI15577 fiI15577 fjJ15578 w15579 ew15579 ai15576 bi15576 j0_I15577 j1_I15577 hmlp31_15579
        exact absurd hmlp31_15579 (Nat.not_lt_zero _)
      | succ mz ihlp31_15579 =>
        intro i15576 I15577 J15578 RI15577 hrI15577 hTI15577 hSI15577 hPI15577 hI15577 fiI15577 fjJ15578 w15579 ew15579 ai15576 bi15576 j0_I15577 j1_I15577 hmlp31_15579
        have e15581 : I15577 (ad g 1) 1 = L := hI15577.2
        have b15582 := BT_get hI15577.1 1 1 2 (0) (0) (900) (by decide) 1 (by decide) (by decide)
        rw [e15581] at b15582
        refine WP_aload_n dX10_rest_31 rfl ?_
        refine WQ_getim dX10_rest_32 fX10_263 rfl (lyx_is hy 0 10 rfl) ew15579 ?_
        refine WQ_bipush (60) (60) dX10_rest_35 rfl rfl (fun v15583 hv15583 => ?_)
        refine WQ_icmp_ge 70 dX10_rest_37 rfl (fun c15583 => ?_) (fun c15583 => ?_)
        · refine WP_iload_n dX10_rest_70 rfl ?_
          have jn79_15587 : ∀ (v15587 : Int32), 0 ≤ v15587.toInt → v15587.toInt ≤ 1 → WP g mX10_rest 79 [(0, .ref (ad g 0)), (1, .int a), (2, .int i15576)] [.int v15587] I15577 J15578 RI15577 (fun r I' J' R' => (XI g n L I' ∧ (RfX g R' ∧ (R' (ad g 5) 0 = R (ad g 5) 0 ∧ R' (ad g 0) 10 = R (ad g 0) 10) ∧ NL g R') ∧ fz 74 g [0, 22, 43, 44, 47, 48, 50, 51, 52, 56, 57, 58] I I' ∧ fz 74 g [45, 46, 56] J J') ∧ ∃ v : Int32, r = some (.int v)) := by
            intro v15587 av15587 bv15587
            exact WP_iret dX10_rest_79 rfl ⟨⟨hI15577, ⟨hrI15577, ⟨hTI15577.trans hT.symm, hSI15577⟩, hPI15577⟩, fiI15577, fjJ15578⟩, _, rfl⟩
          refine WQ_if_eq 78 dX10_rest_71 rfl (fun c15588 => ?_) (fun c15588 => ?_)
          · refine WQ_iconst (0) (0) dX10_rest_78 rfl rfl (fun v15590 hv15590 => ?_)
            exact WP_sub (fc rfl (fc rfl (fc rfl fn))) (jn79_15587 v15590 (by omega) (by omega))
          · refine WQ_iconst (1) (1) dX10_rest_74 rfl rfl (fun v15591 hv15591 => ?_)
            refine WP_goto 79 dX10_rest_75 rfl ?_
            exact WP_sub (fc rfl (fc rfl (fc rfl fn))) (jn79_15587 v15591 (by omega) (by omega))
        · refine WP_iload_n dX10_rest_40 rfl ?_
          refine WQ_if_ne 70 dX10_rest_41 rfl (fun c15591 => ?_) (fun c15591 => ?_)
          · refine WP_iload_n dX10_rest_70 rfl ?_
            have jn79_15594 : ∀ (v15594 : Int32), 1 ≤ v15594.toInt → v15594.toInt ≤ 1 → WP g mX10_rest 79 [(0, .ref (ad g 0)), (1, .int a), (2, .int i15576)] [.int v15594] I15577 J15578 RI15577 (fun r I' J' R' => (XI g n L I' ∧ (RfX g R' ∧ (R' (ad g 5) 0 = R (ad g 5) 0 ∧ R' (ad g 0) 10 = R (ad g 0) 10) ∧ NL g R') ∧ fz 74 g [0, 22, 43, 44, 47, 48, 50, 51, 52, 56, 57, 58] I I' ∧ fz 74 g [45, 46, 56] J J') ∧ ∃ v : Int32, r = some (.int v)) := by
              intro v15594 av15594 bv15594
              exact WP_iret dX10_rest_79 rfl ⟨⟨hI15577, ⟨hrI15577, ⟨hTI15577.trans hT.symm, hSI15577⟩, hPI15577⟩, fiI15577, fjJ15578⟩, _, rfl⟩
            refine WQ_if_eq 78 dX10_rest_71 rfl (fun c15595 => False.elim (by omega)) (fun c15595 => ?_)
            refine WQ_iconst (1) (1) dX10_rest_74 rfl rfl (fun v15597 hv15597 => ?_)
            refine WP_goto 79 dX10_rest_75 rfl ?_
            exact WP_sub (fc rfl (fc rfl (fc rfl fn))) (jn79_15594 v15597 (by omega) (by omega))
          · refine WP_aload_n dX10_rest_44 rfl ?_
            refine WP_dup dX10_rest_45 rfl ?_
            refine WQ_getim dX10_rest_46 fX10_263 rfl (lyx_is hy 0 10 rfl) ew15579 ?_
            refine WQ_iconst (1) (1) dX10_rest_49 rfl rfl (fun v15598 hv15598 => ?_)
            refine WQ_iadd dX10_rest_50 (by omega) (by omega) (fun v15599 hv15599 => ?_)
            refine WQ_puti dX10_rest_51 fX10_263 rfl rfl (lyx_is hy 0 10 rfl) (fun I15600 eI15600 => ?_)
            have hI15600 : XI g n L I15600 := by rw [eI15600]; exact (xi_f0 hy hI15577 (c := 0) (by decide) (Or.inl (by decide)) (by decide))
            have e15601 : I15600 (ad g 1) 1 = L := by rw [eI15600, pp_ne _ _ (Or.inl (lyx_ne hy (by decide) (by decide) (by decide)))]; exact e15581
            have e15602 : I15600 (ad g 0) 11 = v15599 := by rw [eI15600, pp_self]
            have fr15603 : fz 74 g [0, 22, 43, 44, 47, 48, 50, 51, 52, 56, 57, 58] I I15600 := by rw [eI15600]; exact fzx_pp hy fiI15577 (by decide) (by decide)
            clear eI15600
            refine WP_aload_n dX10_rest_54 rfl ?_
            refine WP_callV0 (k := 10) dX10_rest_55 ⟨⟨⟨by decide, by decide⟩, zX10_turnChanges⟩, lX10_266, by decide, rfl, vX10_turnChanges.1, vX10_turnChanges.2⟩ (lyx_is hy 0 10 rfl) (sx_turnChanges_6 hy hrI15577 hPI15577 hTI15577 hI15600   (by omega)) (Nat.le_of_ble_eq_true rfl) ?_
            intro r I15604 J15605 R15606 hq
            obtain ⟨⟨hI15604, ⟨hrI15604, ⟨htI15604, hsI15604⟩, hpI15604⟩, fiI15604, fjI15604⟩, v15607, rfl, av15607, bv15607⟩ := hq
            show WP _ _ _ _ (.int _ :: _) _ _ _ _
            have ht_I15604 := htI15604.trans hTI15577
            have hs_I15604 : R15606 (ad g 0) 10 = R (ad g 0) 10 := hsI15604.trans hSI15577
            have fr15608 : fz 74 g [0, 22, 43, 44, 47, 48, 50, 51, 52, 56, 57, 58] I I15604 := fz_tr fr15603 (fz_mono fiI15604 (by decide))
            have fr15609 : fz 74 g [45, 46, 56] J J15605 := fz_tr fjJ15578 (fz_mono fjI15604 (by decide))
            have e15610 : I15604 (ad g 0) 11 = v15599 := by rw [fz_at fiI15604 0 (by decide) (by decide)]; exact e15602
            have e15611 : I15604 (ad g 1) 1 = L := hI15604.2
            have b15612 := BT_get hI15604.1 1 1 2 (0) (0) (900) (by decide) 1 (by decide) (by decide)
            rw [e15611] at b15612
            have jn66_15615 : ∀ (v15615 : Int32), 0 ≤ v15615.toInt → v15615.toInt ≤ 1 → WP g mX10_rest 66 [(0, .ref (ad g 0)), (1, .int a), (2, .int i15576)] [.int v15615] I15604 J15605 R15606 (fun r I' J' R' => (XI g n L I' ∧ (RfX g R' ∧ (R' (ad g 5) 0 = R (ad g 5) 0 ∧ R' (ad g 0) 10 = R (ad g 0) 10) ∧ NL g R') ∧ fz 74 g [0, 22, 43, 44, 47, 48, 50, 51, 52, 56, 57, 58] I I' ∧ fz 74 g [45, 46, 56] J J') ∧ ∃ v : Int32, r = some (.int v)) := by
              intro v15615 av15615 bv15615
              refine WP_istore_n (ls' := [(0, _), (1, _), (2, _)]) dX10_rest_66 (by decide) rfl ?_
              refine WP_goto 31 dX10_rest_67 rfl ?_
              exact WP_sub (fc rfl (fc rfl (fc rfl fn))) (ihlp31_15579 v15615 I15604 J15605 R15606 hrI15604 ht_I15604 hs_I15604 hpI15604 hI15604 fr15608 fr15609 v15599 e15610 (by omega) (by omega) (by omega) (by omega) (by omega))
            refine WQ_if_ne 65 dX10_rest_58 rfl (fun c15616 => ?_) (fun c15616 => ?_)
            · refine WQ_iconst (0) (0) dX10_rest_65 rfl rfl (fun v15618 hv15618 => ?_)
              exact WP_sub (fc rfl (fc rfl (fc rfl fn))) (jn66_15615 v15618 (by omega) (by omega))
            · refine WQ_iconst (1) (1) dX10_rest_61 rfl rfl (fun v15619 hv15619 => ?_)
              refine WP_goto 66 dX10_rest_62 rfl ?_
              exact WP_sub (fc rfl (fc rfl (fc rfl fn))) (jn66_15615 v15619 (by omega) (by omega))
    exact WP_sub (fc rfl (fc rfl (fc rfl fn))) (lp31_15579 _ v15570 I15572 J R hr hT rfl hP hI15572 fr15575 frj0 v15571 e15574 (by omega) (by omega) (by omega) (by omega) (Nat.lt_succ_self _))
  · refine WP_iload_n dX10_rest_4 rfl ?_
    refine WQ_iconst (1) (1) dX10_rest_5 rfl rfl (fun v15620 hv15620 => ?_)
    refine WQ_icmp_eq 12 dX10_rest_6 rfl (fun c15620 => ?_) (fun c15620 => ?_)
    · refine WP_iload_n dX10_rest_12 rfl ?_
      refine WQ_iconst (1) (1) dX10_rest_13 rfl rfl (fun v15622 hv15622 => ?_)
      refine WQ_icmp_ne 24 dX10_rest_14 rfl (fun c15622 => False.elim (by omega)) (fun c15622 => ?_)
      refine WP_aload_n dX10_rest_17 rfl ?_
      refine WP_getr dX10_rest_18 fX10_33 rfl (lyx_is hy 0 10 rfl) (rfx hr 0 2 5 (by decide)) ?_
      refine WP_callV0 (k := 0) dX10_rest_21 ⟨⟨⟨by decide, by decide⟩, zX0_pricesAsTold⟩, lX10_260, by decide, rfl, vX0_pricesAsTold.1, vX0_pricesAsTold.2⟩ (lyx_is hy 5 0 rfl) (sx_pricesAsTold_6 hy hr hT hI  ) (Nat.le_of_ble_eq_true rfl) ?_
      intro r I15624 J15625 Ra hq
      obtain ⟨⟨hI15624, ec, fiI15624, fjI15624⟩, rfl⟩ := hq
      rw [ec]
      clear ec Ra
      have fr15626 : fz 74 g [0, 22, 43, 44, 47, 48, 50, 51, 52, 56, 57, 58] I I15624 := fz_tr fr0 (fz_mono fiI15624 (by decide))
      have fr15627 : fz 74 g [45, 46, 56] J J15625 := fz_tr frj0 (fz_mono fjI15624 (by decide))
      have e15628 : I15624 (ad g 1) 1 = L := hI15624.2
      have b15629 := BT_get hI15624.1 1 1 2 (0) (0) (900) (by decide) 1 (by decide) (by decide)
      rw [e15628] at b15629
      refine WQ_iconst (0) (0) dX10_rest_24 rfl rfl (fun v15630 hv15630 => ?_)
      refine WP_istore_n (ls' := [(0, _), (1, _), (2, _)]) dX10_rest_25 (by decide) rfl ?_
      refine WP_aload_n dX10_rest_26 rfl ?_
      refine WQ_iconst (0) (0) dX10_rest_27 rfl rfl (fun v15631 hv15631 => ?_)
      refine WQ_puti dX10_rest_28 fX10_263 rfl rfl (lyx_is hy 0 10 rfl) (fun I15632 eI15632 => ?_)
      have hI15632 : XI g n L I15632 := by rw [eI15632]; exact (xi_f0 hy hI15624 (c := 0) (by decide) (Or.inl (by decide)) (by decide))
      have e15633 : I15632 (ad g 1) 1 = L := by rw [eI15632, pp_ne _ _ (Or.inl (lyx_ne hy (by decide) (by decide) (by decide)))]; exact e15628
      have e15634 : I15632 (ad g 0) 11 = v15631 := by rw [eI15632, pp_self]
      have fr15635 : fz 74 g [0, 22, 43, 44, 47, 48, 50, 51, 52, 56, 57, 58] I I15632 := by rw [eI15632]; exact fzx_pp hy fr15626 (by decide) (by decide)
      clear eI15632
      have lp31_15639 : ∀ (mz : Nat) (i15636 : Int32) (I15637 : pI) (J15638 : pJ) (RI15637 : pR), RfX g RI15637 → RI15637 (ad g 5) 0 = some (ad g 6) → RI15637 (ad g 0) 10 = R (ad g 0) 10 → NL g RI15637 → XI g n L I15637 → fz 74 g [0, 22, 43, 44, 47, 48, 50, 51, 52, 56, 57, 58] I I15637 → fz 74 g [45, 46, 56] J J15638 → ∀ (w15639 : Int32), I15637 (ad g 0) 11 = w15639 → 0 ≤ i15636.toInt → i15636.toInt ≤ 1 → 0 ≤ w15639.toInt → w15639.toInt ≤ 60 → (61 - w15639.toInt).toNat < mz → WP g mX10_rest 31 [(0, .ref (ad g 0)), (1, .int a), (2, .int i15636)] [] I15637 J15638 RI15637 (fun r I' J' R' => (XI g n L I' ∧ (RfX g R' ∧ (R' (ad g 5) 0 = R (ad g 5) 0 ∧ R' (ad g 0) 10 = R (ad g 0) 10) ∧ NL g R') ∧ fz 74 g [0, 22, 43, 44, 47, 48, 50, 51, 52, 56, 57, 58] I I' ∧ fz 74 g [45, 46, 56] J J') ∧ ∃ v : Int32, r = some (.int v)) := by
        intro mz
        induction mz with
        | zero =>
          intro i15636 I15637 J15638 RI15637 hrI15637 hTI15637 hSI15637 hPI15637 hI15637 fiI15637 fjJ15638 w15639 ew15639 ai15636 bi15636 j0_I15637 j1_I15637 hmlp31_15639
          exact absurd hmlp31_15639 (Nat.not_lt_zero _)
        | succ mz ihlp31_15639 =>
          intro i15636 I15637 J15638 RI15637 hrI15637 hTI15637 hSI15637 hPI15637 hI15637 fiI15637 fjJ15638 w15639 ew15639 ai15636 bi15636 j0_I15637 j1_I15637 hmlp31_15639
          have e15641 : I15637 (ad g 1) 1 = L := hI15637.2
          have b15642 := BT_get hI15637.1 1 1 2 (0) (0) (900) (by decide) 1 (by decide) (by decide)
          rw [e15641] at b15642
          refine WP_aload_n dX10_rest_31 rfl ?_
          refine WQ_getim dX10_rest_32 fX10_263 rfl (lyx_is hy 0 10 rfl) ew15639 ?_
          refine WQ_bipush (60) (60) dX10_rest_35 rfl rfl (fun v15643 hv15643 => ?_)
          refine WQ_icmp_ge 70 dX10_rest_37 rfl (fun c15643 => ?_) (fun c15643 => ?_)
          · refine WP_iload_n dX10_rest_70 rfl ?_
            have jn79_15647 : ∀ (v15647 : Int32), 0 ≤ v15647.toInt → v15647.toInt ≤ 1 → WP g mX10_rest 79 [(0, .ref (ad g 0)), (1, .int a), (2, .int i15636)] [.int v15647] I15637 J15638 RI15637 (fun r I' J' R' => (XI g n L I' ∧ (RfX g R' ∧ (R' (ad g 5) 0 = R (ad g 5) 0 ∧ R' (ad g 0) 10 = R (ad g 0) 10) ∧ NL g R') ∧ fz 74 g [0, 22, 43, 44, 47, 48, 50, 51, 52, 56, 57, 58] I I' ∧ fz 74 g [45, 46, 56] J J') ∧ ∃ v : Int32, r = some (.int v)) := by
              intro v15647 av15647 bv15647
              exact WP_iret dX10_rest_79 rfl ⟨⟨hI15637, ⟨hrI15637, ⟨hTI15637.trans hT.symm, hSI15637⟩, hPI15637⟩, fiI15637, fjJ15638⟩, _, rfl⟩
            refine WQ_if_eq 78 dX10_rest_71 rfl (fun c15648 => ?_) (fun c15648 => ?_)
            · refine WQ_iconst (0) (0) dX10_rest_78 rfl rfl (fun v15650 hv15650 => ?_)
              exact WP_sub (fc rfl (fc rfl (fc rfl fn))) (jn79_15647 v15650 (by omega) (by omega))
            · refine WQ_iconst (1) (1) dX10_rest_74 rfl rfl (fun v15651 hv15651 => ?_)
              refine WP_goto 79 dX10_rest_75 rfl ?_
              exact WP_sub (fc rfl (fc rfl (fc rfl fn))) (jn79_15647 v15651 (by omega) (by omega))
          · refine WP_iload_n dX10_rest_40 rfl ?_
            refine WQ_if_ne 70 dX10_rest_41 rfl (fun c15651 => ?_) (fun c15651 => ?_)
            · refine WP_iload_n dX10_rest_70 rfl ?_
              have jn79_15654 : ∀ (v15654 : Int32), 1 ≤ v15654.toInt → v15654.toInt ≤ 1 → WP g mX10_rest 79 [(0, .ref (ad g 0)), (1, .int a), (2, .int i15636)] [.int v15654] I15637 J15638 RI15637 (fun r I' J' R' => (XI g n L I' ∧ (RfX g R' ∧ (R' (ad g 5) 0 = R (ad g 5) 0 ∧ R' (ad g 0) 10 = R (ad g 0) 10) ∧ NL g R') ∧ fz 74 g [0, 22, 43, 44, 47, 48, 50, 51, 52, 56, 57, 58] I I' ∧ fz 74 g [45, 46, 56] J J') ∧ ∃ v : Int32, r = some (.int v)) := by
                intro v15654 av15654 bv15654
                exact WP_iret dX10_rest_79 rfl ⟨⟨hI15637, ⟨hrI15637, ⟨hTI15637.trans hT.symm, hSI15637⟩, hPI15637⟩, fiI15637, fjJ15638⟩, _, rfl⟩
              refine WQ_if_eq 78 dX10_rest_71 rfl (fun c15655 => False.elim (by omega)) (fun c15655 => ?_)
              refine WQ_iconst (1) (1) dX10_rest_74 rfl rfl (fun v15657 hv15657 => ?_)
              refine WP_goto 79 dX10_rest_75 rfl ?_
              exact WP_sub (fc rfl (fc rfl (fc rfl fn))) (jn79_15654 v15657 (by omega) (by omega))
            · refine WP_aload_n dX10_rest_44 rfl ?_
              refine WP_dup dX10_rest_45 rfl ?_
              refine WQ_getim dX10_rest_46 fX10_263 rfl (lyx_is hy 0 10 rfl) ew15639 ?_
              refine WQ_iconst (1) (1) dX10_rest_49 rfl rfl (fun v15658 hv15658 => ?_)
              refine WQ_iadd dX10_rest_50 (by omega) (by omega) (fun v15659 hv15659 => ?_)
              refine WQ_puti dX10_rest_51 fX10_263 rfl rfl (lyx_is hy 0 10 rfl) (fun I15660 eI15660 => ?_)
              have hI15660 : XI g n L I15660 := by rw [eI15660]; exact (xi_f0 hy hI15637 (c := 0) (by decide) (Or.inl (by decide)) (by decide))
              have e15661 : I15660 (ad g 1) 1 = L := by rw [eI15660, pp_ne _ _ (Or.inl (lyx_ne hy (by decide) (by decide) (by decide)))]; exact e15641
              have e15662 : I15660 (ad g 0) 11 = v15659 := by rw [eI15660, pp_self]
              have fr15663 : fz 74 g [0, 22, 43, 44, 47, 48, 50, 51, 52, 56, 57, 58] I I15660 := by rw [eI15660]; exact fzx_pp hy fiI15637 (by decide) (by decide)
              clear eI15660
              refine WP_aload_n dX10_rest_54 rfl ?_
              refine WP_callV0 (k := 10) dX10_rest_55 ⟨⟨⟨by decide, by decide⟩, zX10_turnChanges⟩, lX10_266, by decide, rfl, vX10_turnChanges.1, vX10_turnChanges.2⟩ (lyx_is hy 0 10 rfl) (sx_turnChanges_6 hy hrI15637 hPI15637 hTI15637 hI15660   (by omega)) (Nat.le_of_ble_eq_true rfl) ?_
              intro r I15664 J15665 R15666 hq
              obtain ⟨⟨hI15664, ⟨hrI15664, ⟨htI15664, hsI15664⟩, hpI15664⟩, fiI15664, fjI15664⟩, v15667, rfl, av15667, bv15667⟩ := hq
              show WP _ _ _ _ (.int _ :: _) _ _ _ _
              have ht_I15664 := htI15664.trans hTI15637
              have hs_I15664 : R15666 (ad g 0) 10 = R (ad g 0) 10 := hsI15664.trans hSI15637
              have fr15668 : fz 74 g [0, 22, 43, 44, 47, 48, 50, 51, 52, 56, 57, 58] I I15664 := fz_tr fr15663 (fz_mono fiI15664 (by decide))
              have fr15669 : fz 74 g [45, 46, 56] J J15665 := fz_tr fjJ15638 (fz_mono fjI15664 (by decide))
              have e15670 : I15664 (ad g 0) 11 = v15659 := by rw [fz_at fiI15664 0 (by decide) (by decide)]; exact e15662
              have e15671 : I15664 (ad g 1) 1 = L := hI15664.2
              have b15672 := BT_get hI15664.1 1 1 2 (0) (0) (900) (by decide) 1 (by decide) (by decide)
              rw [e15671] at b15672
              have jn66_15675 : ∀ (v15675 : Int32), 0 ≤ v15675.toInt → v15675.toInt ≤ 1 → WP g mX10_rest 66 [(0, .ref (ad g 0)), (1, .int a), (2, .int i15636)] [.int v15675] I15664 J15665 R15666 (fun r I' J' R' => (XI g n L I' ∧ (RfX g R' ∧ (R' (ad g 5) 0 = R (ad g 5) 0 ∧ R' (ad g 0) 10 = R (ad g 0) 10) ∧ NL g R') ∧ fz 74 g [0, 22, 43, 44, 47, 48, 50, 51, 52, 56, 57, 58] I I' ∧ fz 74 g [45, 46, 56] J J') ∧ ∃ v : Int32, r = some (.int v)) := by
                intro v15675 av15675 bv15675
                refine WP_istore_n (ls' := [(0, _), (1, _), (2, _)]) dX10_rest_66 (by decide) rfl ?_
                refine WP_goto 31 dX10_rest_67 rfl ?_
                exact WP_sub (fc rfl (fc rfl (fc rfl fn))) (ihlp31_15639 v15675 I15664 J15665 R15666 hrI15664 ht_I15664 hs_I15664 hpI15664 hI15664 fr15668 fr15669 v15659 e15670 (by omega) (by omega) (by omega) (by omega) (by omega))
              refine WQ_if_ne 65 dX10_rest_58 rfl (fun c15676 => ?_) (fun c15676 => ?_)
              · refine WQ_iconst (0) (0) dX10_rest_65 rfl rfl (fun v15678 hv15678 => ?_)
                exact WP_sub (fc rfl (fc rfl (fc rfl fn))) (jn66_15675 v15678 (by omega) (by omega))
              · refine WQ_iconst (1) (1) dX10_rest_61 rfl rfl (fun v15679 hv15679 => ?_)
                refine WP_goto 66 dX10_rest_62 rfl ?_
                exact WP_sub (fc rfl (fc rfl (fc rfl fn))) (jn66_15675 v15679 (by omega) (by omega))
      exact WP_sub (fc rfl (fc rfl (fc rfl fn))) (lp31_15639 _ v15630 I15632 J15625 R hr hT rfl hP hI15632 fr15635 fr15627 v15631 e15634 (by omega) (by omega) (by omega) (by omega) (Nat.lt_succ_self _))
    · refine WQ_bipush (-2) (-2) dX10_rest_9 rfl rfl (fun v15680 hv15680 => ?_)
      exact WP_iret dX10_rest_11 rfl ⟨⟨hI, ⟨hr, ⟨hT.trans hT.symm, rfl⟩, hP⟩, fr0, frj0⟩, _, rfl⟩
set_option maxHeartbeats 4000000 in
set_option maxRecDepth 100000 in
theorem sx_best_6 {g : GG} {n : Int} {L : Int32} (hy : LyX g)  {I : pI} {J : pJ} {R : pR} (hr : RfX g R) (hP : NL g R) (hT : R (ad g 5) 0 = some (ad g 6)) (hI : XI g n L I) (a : Int32) (b : Int32) (c : Int32) (e : Int32) (k : Int32)  : SP g mX10_best [.ref (ad g 0), .int a, .int b, .int c, .int e, .int k] I J R (fun r I' J' R' => (XI g n L I' ∧ (RfX g R' ∧ (R' (ad g 5) 0 = R (ad g 5) 0 ∧ R' (ad g 0) 10 = R (ad g 0) 10) ∧ NL g R') ∧ fz 74 g [43, 44, 47, 48] I I' ∧ fz 74 g [45, 46] J J') ∧ ∃ v : Int32, r = some (.int v)) := by
  refine SP_of ⟨by decide, rfl⟩ (Nat.le_of_ble_eq_true rfl) ?_
  have e15681 : I (ad g 1) 1 = L := hI.2
  have b15682 := BT_get hI.1 1 1 2 (0) (0) (900) (by decide) 1 (by decide) (by decide)
  rw [e15681] at b15682
  have fr0 : fz 74 g [43, 44, 47, 48] I I := fz_rf
  have frj0 : fz 74 g [45, 46] J J := fz_rf
  refine WP_aload_n dX10_best_0 rfl ?_
  refine WP_iload_n dX10_best_1 rfl ?_
  refine WP_iload_n dX10_best_2 rfl ?_
  refine WP_iload_n dX10_best_3 rfl ?_
  refine WP_iload dX10_best_4 rfl ?_
  refine WP_callV4 (k := 10) dX10_best_6 ⟨⟨⟨by decide, by decide⟩, zX10_isPerson⟩, lX10_188, by decide, rfl, vX10_isPerson.1, vX10_isPerson.2⟩ (lyx_is hy 0 10 rfl) (sx_isPerson_6 hy hr hT hI a b c e    ) (Nat.le_of_ble_eq_true rfl) ?_
  intro r Ia Ja Ra hq
  obtain ⟨⟨ea, eb, ec⟩, v15683, rfl, av15683, bv15683, cv15683⟩ := hq
  show WP _ _ _ _ (.int _ :: _) _ _ _ _
  rw [ea, eb, ec]
  clear ea eb ec Ia Ja Ra
  refine WQ_if_eq 23 dX10_best_9 rfl (fun c15683 => ?_) (fun c15683 => ?_)
  · refine WQ_bipush (-2) (-2) dX10_best_23 rfl rfl (fun v15685 hv15685 => ?_)
    exact WP_iret dX10_best_25 rfl ⟨⟨hI, ⟨hr, ⟨hT.trans hT.symm, rfl⟩, hP⟩, fr0, frj0⟩, _, rfl⟩
  · refine WP_iload dX10_best_12 rfl ?_
    refine WQ_iconst (0) (0) dX10_best_14 rfl rfl (fun v15686 hv15686 => ?_)
    refine WQ_bipush (28) (28) dX10_best_15 rfl rfl (fun v15687 hv15687 => ?_)
    refine WP_callS3 dX10_best_17 ⟨⟨⟨by decide, by decide⟩, zX10_within⟩, lX10_206, tX10_within⟩ (sx_within hy hr hI k v15686 v15687   ) (Nat.le_of_ble_eq_true rfl) ?_
    intro r Ia Ja Ra hq
    obtain ⟨⟨ea, eb, ec⟩, v15688, rfl, av15688, bv15688, cv15688⟩ := hq
    show WP _ _ _ _ (.int _ :: _) _ _ _ _
    rw [ea, eb, ec]
    clear ea eb ec Ia Ja Ra
    refine WQ_if_ne 26 dX10_best_20 rfl (fun c15688 => ?_) (fun c15688 => ?_)
    · refine WP_iload dX10_best_26 rfl ?_
      refine WQ_if_ne 33 dX10_best_28 rfl (fun c15689 => ?_) (fun c15689 => ?_)
      · refine WP_aload_n dX10_best_33 rfl ?_
        refine WP_getr dX10_best_34 fX10_46 rfl (lyx_is hy 0 10 rfl) (rfx hr 0 3 43 (by decide)) ?_
        refine WP_iload_n dX10_best_37 rfl ?_
        refine WP_iload_n dX10_best_38 rfl ?_
        refine WP_aload_n dX10_best_39 rfl ?_
        refine WP_getr dX10_best_40 fX10_33 rfl (lyx_is hy 0 10 rfl) (rfx hr 0 2 5 (by decide)) ?_
        refine WP_iload_n dX10_best_43 rfl ?_
        refine WP_iload_n dX10_best_44 rfl ?_
        refine WP_iload_n dX10_best_45 rfl ?_
        refine WP_callV3 (k := 0) dX10_best_46 ⟨⟨⟨by decide, by decide⟩, zX0_earned⟩, lX10_209, by decide, rfl, vX0_earned.1, vX0_earned.2⟩ (lyx_is hy 5 0 rfl) (sx_earned_6 hy hr hT hI a b c (by omega) (by omega) (by omega) (by omega) (by omega) (by omega)) (Nat.le_of_ble_eq_true rfl) ?_
        intro r Ia Ja Ra hq
        obtain ⟨⟨ea, eb, ec⟩, v15691, rfl, av15691, bv15691, cv15691⟩ := hq
        show WP _ _ _ _ (.int _ :: _) _ _ _ _
        rw [ea, eb, ec]
        clear ea eb ec Ia Ja Ra
        refine WP_iload dX10_best_49 rfl ?_
        refine WP_iload dX10_best_51 rfl ?_
        refine WP_callV5 (k := 2) dX10_best_53 ⟨⟨⟨by decide, by decide⟩, zX2_search⟩, lX10_212, by decide, rfl, vX2_search.1, vX2_search.2⟩ (lyx_is hy 43 2 rfl) (sx_searchx_6 hy hr hP hT hI a b v15691 e k (by omega) (by omega) (by omega) (by omega) (by omega) (by omega) (by omega) (by omega) (by omega) (by omega)) (Nat.le_of_ble_eq_true rfl) ?_
        intro r I15692 J15693 R15694 hq
        obtain ⟨⟨hI15692, ⟨hrI15692, ⟨htI15692, hsI15692⟩, hpI15692⟩, fiI15692, fjI15692⟩, v15695, rfl, av15695, bv15695, cv15695⟩ := hq
        show WP _ _ _ _ (.int _ :: _) _ _ _ _
        have ht_I15692 := htI15692.trans hT
        have hs_I15692 : R15694 (ad g 0) 10 = R (ad g 0) 10 := hsI15692.trans rfl
        have fr15696 : fz 74 g [43, 44, 47, 48] I I15692 := fz_tr fr0 (fz_mono fiI15692 (by decide))
        have fr15697 : fz 74 g [45, 46] J J15693 := fz_tr frj0 (fz_mono fjI15692 (by decide))
        have e15698 : I15692 (ad g 1) 1 = L := hI15692.2
        have b15699 := BT_get hI15692.1 1 1 2 (0) (0) (900) (by decide) 1 (by decide) (by decide)
        rw [e15698] at b15699
        refine WP_pop dX10_best_56 rfl ?_
        refine WP_aload_n dX10_best_57 rfl ?_
        refine WP_getr dX10_best_58 fX10_46 rfl (lyx_is hy 0 10 rfl) (rfx hrI15692 0 3 43 (by decide)) ?_
        refine WQ_getiu dX10_best_61 fX10_216 rfl (lyx_is hy 43 2 rfl) (fun v15700 ev15700 => ?_)
        exact WP_iret dX10_best_64 rfl ⟨⟨hI15692, ⟨hrI15692, ⟨ht_I15692.trans hT.symm, hs_I15692⟩, hpI15692⟩, fr15696, fr15697⟩, _, rfl⟩
      · refine WQ_iconst (0) (0) dX10_best_31 rfl rfl (fun v15701 hv15701 => ?_)
        exact WP_iret dX10_best_32 rfl ⟨⟨hI, ⟨hr, ⟨hT.trans hT.symm, rfl⟩, hP⟩, fr0, frj0⟩, _, rfl⟩
    · refine WQ_bipush (-2) (-2) dX10_best_23 rfl rfl (fun v15702 hv15702 => ?_)
      exact WP_iret dX10_best_25 rfl ⟨⟨hI, ⟨hr, ⟨hT.trans hT.symm, rfl⟩, hP⟩, fr0, frj0⟩, _, rfl⟩
set_option maxHeartbeats 4000000 in
set_option maxRecDepth 100000 in
theorem sx_bestAct_6 {g : GG} {n : Int} {L : Int32} (hy : LyX g)  {I : pI} {J : pJ} {R : pR} (hr : RfX g R) (hP : NL g R) (hT : R (ad g 5) 0 = some (ad g 6)) (hI : XI g n L I) (a : Int32) (b : Int32) (c : Int32) (e : Int32) (k : Int32)  : SP g mX10_bestAct [.ref (ad g 0), .int a, .int b, .int c, .int e, .int k] I J R (fun r I' J' R' => (XI g n L I' ∧ (RfX g R' ∧ (R' (ad g 5) 0 = R (ad g 5) 0 ∧ R' (ad g 0) 10 = R (ad g 0) 10) ∧ NL g R') ∧ fz 74 g [43, 44, 47, 48] I I' ∧ fz 74 g [45, 46] J J') ∧ ∃ v : Int32, r = some (.int v)) := by
  refine SP_of ⟨by decide, rfl⟩ (Nat.le_of_ble_eq_true rfl) ?_
  have e15703 : I (ad g 1) 1 = L := hI.2
  have b15704 := BT_get hI.1 1 1 2 (0) (0) (900) (by decide) 1 (by decide) (by decide)
  rw [e15703] at b15704
  have fr0 : fz 74 g [43, 44, 47, 48] I I := fz_rf
  have frj0 : fz 74 g [45, 46] J J := fz_rf
  refine WP_aload_n dX10_bestAct_0 rfl ?_
  refine WP_iload_n dX10_bestAct_1 rfl ?_
  refine WP_iload_n dX10_bestAct_2 rfl ?_
  refine WP_iload_n dX10_bestAct_3 rfl ?_
  refine WP_iload dX10_bestAct_4 rfl ?_
  refine WP_callV4 (k := 10) dX10_bestAct_6 ⟨⟨⟨by decide, by decide⟩, zX10_isPerson⟩, lX10_188, by decide, rfl, vX10_isPerson.1, vX10_isPerson.2⟩ (lyx_is hy 0 10 rfl) (sx_isPerson_6 hy hr hT hI a b c e    ) (Nat.le_of_ble_eq_true rfl) ?_
  intro r Ia Ja Ra hq
  obtain ⟨⟨ea, eb, ec⟩, v15705, rfl, av15705, bv15705, cv15705⟩ := hq
  show WP _ _ _ _ (.int _ :: _) _ _ _ _
  rw [ea, eb, ec]
  clear ea eb ec Ia Ja Ra
  refine WQ_if_eq 23 dX10_bestAct_9 rfl (fun c15705 => ?_) (fun c15705 => ?_)
  · refine WQ_bipush (-2) (-2) dX10_bestAct_23 rfl rfl (fun v15707 hv15707 => ?_)
    exact WP_iret dX10_bestAct_25 rfl ⟨⟨hI, ⟨hr, ⟨hT.trans hT.symm, rfl⟩, hP⟩, fr0, frj0⟩, _, rfl⟩
  · refine WP_iload dX10_bestAct_12 rfl ?_
    refine WQ_iconst (0) (0) dX10_bestAct_14 rfl rfl (fun v15708 hv15708 => ?_)
    refine WQ_bipush (28) (28) dX10_bestAct_15 rfl rfl (fun v15709 hv15709 => ?_)
    refine WP_callS3 dX10_bestAct_17 ⟨⟨⟨by decide, by decide⟩, zX10_within⟩, lX10_206, tX10_within⟩ (sx_within hy hr hI k v15708 v15709   ) (Nat.le_of_ble_eq_true rfl) ?_
    intro r Ia Ja Ra hq
    obtain ⟨⟨ea, eb, ec⟩, v15710, rfl, av15710, bv15710, cv15710⟩ := hq
    show WP _ _ _ _ (.int _ :: _) _ _ _ _
    rw [ea, eb, ec]
    clear ea eb ec Ia Ja Ra
    refine WQ_if_ne 26 dX10_bestAct_20 rfl (fun c15710 => ?_) (fun c15710 => ?_)
    · refine WP_iload dX10_bestAct_26 rfl ?_
      refine WQ_if_ne 33 dX10_bestAct_28 rfl (fun c15711 => ?_) (fun c15711 => ?_)
      · refine WP_aload_n dX10_bestAct_33 rfl ?_
        refine WP_getr dX10_bestAct_34 fX10_46 rfl (lyx_is hy 0 10 rfl) (rfx hr 0 3 43 (by decide)) ?_
        refine WP_iload_n dX10_bestAct_37 rfl ?_
        refine WP_iload_n dX10_bestAct_38 rfl ?_
        refine WP_aload_n dX10_bestAct_39 rfl ?_
        refine WP_getr dX10_bestAct_40 fX10_33 rfl (lyx_is hy 0 10 rfl) (rfx hr 0 2 5 (by decide)) ?_
        refine WP_iload_n dX10_bestAct_43 rfl ?_
        refine WP_iload_n dX10_bestAct_44 rfl ?_
        refine WP_iload_n dX10_bestAct_45 rfl ?_
        refine WP_callV3 (k := 0) dX10_bestAct_46 ⟨⟨⟨by decide, by decide⟩, zX0_earned⟩, lX10_209, by decide, rfl, vX0_earned.1, vX0_earned.2⟩ (lyx_is hy 5 0 rfl) (sx_earned_6 hy hr hT hI a b c (by omega) (by omega) (by omega) (by omega) (by omega) (by omega)) (Nat.le_of_ble_eq_true rfl) ?_
        intro r Ia Ja Ra hq
        obtain ⟨⟨ea, eb, ec⟩, v15713, rfl, av15713, bv15713, cv15713⟩ := hq
        show WP _ _ _ _ (.int _ :: _) _ _ _ _
        rw [ea, eb, ec]
        clear ea eb ec Ia Ja Ra
        refine WP_iload dX10_bestAct_49 rfl ?_
        refine WP_iload dX10_bestAct_51 rfl ?_
        refine WP_callV5 (k := 2) dX10_bestAct_53 ⟨⟨⟨by decide, by decide⟩, zX2_search⟩, lX10_212, by decide, rfl, vX2_search.1, vX2_search.2⟩ (lyx_is hy 43 2 rfl) (sx_searchx_6 hy hr hP hT hI a b v15713 e k (by omega) (by omega) (by omega) (by omega) (by omega) (by omega) (by omega) (by omega) (by omega) (by omega)) (Nat.le_of_ble_eq_true rfl) ?_
        intro r I15714 J15715 R15716 hq
        obtain ⟨⟨hI15714, ⟨hrI15714, ⟨htI15714, hsI15714⟩, hpI15714⟩, fiI15714, fjI15714⟩, v15717, rfl, av15717, bv15717, cv15717⟩ := hq
        show WP _ _ _ _ (.int _ :: _) _ _ _ _
        have ht_I15714 := htI15714.trans hT
        have hs_I15714 : R15716 (ad g 0) 10 = R (ad g 0) 10 := hsI15714.trans rfl
        have fr15718 : fz 74 g [43, 44, 47, 48] I I15714 := fz_tr fr0 (fz_mono fiI15714 (by decide))
        have fr15719 : fz 74 g [45, 46] J J15715 := fz_tr frj0 (fz_mono fjI15714 (by decide))
        have e15720 : I15714 (ad g 1) 1 = L := hI15714.2
        have b15721 := BT_get hI15714.1 1 1 2 (0) (0) (900) (by decide) 1 (by decide) (by decide)
        rw [e15720] at b15721
        exact WP_iret dX10_bestAct_56 rfl ⟨⟨hI15714, ⟨hrI15714, ⟨ht_I15714.trans hT.symm, hs_I15714⟩, hpI15714⟩, fr15718, fr15719⟩, _, rfl⟩
      · refine WQ_iconst (-1) (-1) dX10_bestAct_31 rfl rfl (fun v15722 hv15722 => ?_)
        exact WP_iret dX10_bestAct_32 rfl ⟨⟨hI, ⟨hr, ⟨hT.trans hT.symm, rfl⟩, hP⟩, fr0, frj0⟩, _, rfl⟩
    · refine WQ_bipush (-2) (-2) dX10_bestAct_23 rfl rfl (fun v15723 hv15723 => ?_)
      exact WP_iret dX10_bestAct_25 rfl ⟨⟨hI, ⟨hr, ⟨hT.trans hT.symm, rfl⟩, hP⟩, fr0, frj0⟩, _, rfl⟩
set_option maxHeartbeats 4000000 in
set_option maxRecDepth 100000 in
theorem sx_wayAct_6 {g : GG} {n : Int} {L : Int32} (hy : LyX g)  {I : pI} {J : pJ} {R : pR} (hr : RfX g R) (hP : NL g R) (hT : R (ad g 5) 0 = some (ad g 6)) (hI : XI g n L I) (a : Int32) (b : Int32) (c : Int32) (e : Int32) (k : Int32)  : SP g mX10_wayAct [.ref (ad g 0), .int a, .int b, .int c, .int e, .int k] I J R (fun r I' J' R' => (XI g n L I' ∧ (RfX g R' ∧ (R' (ad g 5) 0 = R (ad g 5) 0 ∧ R' (ad g 0) 10 = R (ad g 0) 10) ∧ NL g R') ∧ fz 74 g [43, 44, 47, 48, 50] I I' ∧ fz 74 g [45, 46] J J') ∧ ∃ v : Int32, r = some (.int v)) := by
  refine SP_of ⟨by decide, rfl⟩ (Nat.le_of_ble_eq_true rfl) ?_
  have e15724 : I (ad g 1) 1 = L := hI.2
  have b15725 := BT_get hI.1 1 1 2 (0) (0) (900) (by decide) 1 (by decide) (by decide)
  rw [e15724] at b15725
  have fr0 : fz 74 g [43, 44, 47, 48, 50] I I := fz_rf
  have frj0 : fz 74 g [45, 46] J J := fz_rf
  refine WP_iload_n dX10_wayAct_0 rfl ?_
  refine WP_callS1 dX10_wayAct_1 ⟨⟨⟨by decide, by decide⟩, zX10_isWay⟩, lX10_219, tX10_isWay⟩ (sx_isWay hy hr hI a ) (Nat.le_of_ble_eq_true rfl) ?_
  intro r Ia Ja Ra hq
  obtain ⟨⟨ea, eb, ec⟩, v15726, rfl, av15726, bv15726, cv15726⟩ := hq
  show WP _ _ _ _ (.int _ :: _) _ _ _ _
  rw [ea, eb, ec]
  clear ea eb ec Ia Ja Ra
  refine WQ_if_eq 20 dX10_wayAct_4 rfl (fun c15726 => ?_) (fun c15726 => ?_)
  · refine WQ_bipush (-2) (-2) dX10_wayAct_20 rfl rfl (fun v15728 hv15728 => ?_)
    exact WP_iret dX10_wayAct_22 rfl ⟨⟨hI, ⟨hr, ⟨hT.trans hT.symm, rfl⟩, hP⟩, fr0, frj0⟩, _, rfl⟩
  · refine WP_aload_n dX10_wayAct_7 rfl ?_
    refine WP_iload_n dX10_wayAct_8 rfl ?_
    refine WP_iload_n dX10_wayAct_9 rfl ?_
    refine WP_iload dX10_wayAct_10 rfl ?_
    refine WP_iload dX10_wayAct_12 rfl ?_
    refine WP_callV4 (k := 10) dX10_wayAct_14 ⟨⟨⟨by decide, by decide⟩, zX10_isPerson⟩, lX10_188, by decide, rfl, vX10_isPerson.1, vX10_isPerson.2⟩ (lyx_is hy 0 10 rfl) (sx_isPerson_6 hy hr hT hI b c e k    ) (Nat.le_of_ble_eq_true rfl) ?_
    intro r Ia Ja Ra hq
    obtain ⟨⟨ea, eb, ec⟩, v15729, rfl, av15729, bv15729, cv15729⟩ := hq
    show WP _ _ _ _ (.int _ :: _) _ _ _ _
    rw [ea, eb, ec]
    clear ea eb ec Ia Ja Ra
    refine WQ_if_ne 23 dX10_wayAct_17 rfl (fun c15729 => ?_) (fun c15729 => ?_)
    · refine WP_iload_n dX10_wayAct_23 rfl ?_
      refine WQ_iconst (3) (3) dX10_wayAct_24 rfl rfl (fun v15731 hv15731 => ?_)
      refine WQ_icmp_ne 44 dX10_wayAct_25 rfl (fun c15731 => ?_) (fun c15731 => ?_)
      · refine WP_aload_n dX10_wayAct_44 rfl ?_
        refine WP_getr dX10_wayAct_45 fX10_55 rfl (lyx_is hy 0 10 rfl) (rfx hr 0 4 49 (by decide)) ?_
        refine WP_getr dX10_wayAct_48 fX10_192 rfl (lyx_is hy 49 9 rfl) (rfx hr 49 0 50 (by decide)) ?_
        refine WP_astore (ls' := [(0, _), (1, _), (2, _), (3, _), (4, _), (5, _), (6, _)]) dX10_wayAct_51 (by decide) rfl ?_
        refine WP_aload dX10_wayAct_53 rfl ?_
        refine WP_aload_n dX10_wayAct_55 rfl ?_
        refine WP_getr dX10_wayAct_56 fX10_33 rfl (lyx_is hy 0 10 rfl) (rfx hr 0 2 5 (by decide)) ?_
        refine WP_iload_n dX10_wayAct_59 rfl ?_
        refine WP_iload_n dX10_wayAct_60 rfl ?_
        refine WP_callV3 (k := 6) dX10_wayAct_61 ⟨⟨⟨by decide, by decide⟩, zX6_load⟩, lX10_196, by decide, rfl, vX6_load.1, vX6_load.2⟩ (lyx_is hy 50 6 rfl) (sx_loadx_50_6 hy hr hT hI b c (by omega) (by omega) (by omega) (by omega)) (Nat.le_of_ble_eq_true rfl) ?_
        intro r I15733 J15734 Ra hq
        obtain ⟨⟨hI15733, ec, fiI15733, ejI15733, pI15733⟩, rfl⟩ := hq
        rw [ec]
        clear ec Ra
        have fr15735 : fz 74 g [43, 44, 47, 48, 50] I I15733 := fz_tr fr0 (fz_mono fiI15733 (by decide))
        rw [ejI15733]
        clear ejI15733 J15734
        have e15736 : I15733 (ad g 1) 1 = L := hI15733.2
        have b15737 := BT_get hI15733.1 1 1 2 (0) (0) (900) (by decide) 1 (by decide) (by decide)
        rw [e15736] at b15737
        refine WP_aload dX10_wayAct_64 rfl ?_
        refine WP_iload_n dX10_wayAct_66 rfl ?_
        refine WP_iload dX10_wayAct_67 rfl ?_
        refine WP_iload dX10_wayAct_69 rfl ?_
        refine WP_callV3 (k := 6) dX10_wayAct_71 ⟨⟨⟨by decide, by decide⟩, zX6_habit⟩, lX10_222, by decide, rfl, vX6_habit.1, vX6_habit.2⟩ (lyx_is hy 50 6 rfl) (sx_habita hy hr hI15733 a e k  (by omega) (by omega) (by omega) (by omega)) (Nat.le_of_ble_eq_true rfl) ?_
        intro r Ia Ja Ra hq
        obtain ⟨⟨ea, eb, ec⟩, v15738, rfl, av15738, bv15738, cv15738⟩ := hq
        show WP _ _ _ _ (.int _ :: _) _ _ _ _
        rw [ea, eb, ec]
        clear ea eb ec Ia Ja Ra
        exact WP_iret dX10_wayAct_74 rfl ⟨⟨hI15733, ⟨hr, ⟨hT.trans hT.symm, rfl⟩, hP⟩, fr15735, frj0⟩, _, rfl⟩
      · refine WP_aload_n dX10_wayAct_28 rfl ?_
        refine WP_getr dX10_wayAct_29 fX10_46 rfl (lyx_is hy 0 10 rfl) (rfx hr 0 3 43 (by decide)) ?_
        refine WP_iload_n dX10_wayAct_32 rfl ?_
        refine WP_iload_n dX10_wayAct_33 rfl ?_
        refine WP_iload dX10_wayAct_34 rfl ?_
        refine WP_iload dX10_wayAct_36 rfl ?_
        refine WQ_bipush (7) (7) dX10_wayAct_38 rfl rfl (fun v15739 hv15739 => ?_)
        refine WP_callV5 (k := 2) dX10_wayAct_40 ⟨⟨⟨by decide, by decide⟩, zX2_search⟩, lX10_212, by decide, rfl, vX2_search.1, vX2_search.2⟩ (lyx_is hy 43 2 rfl) (sx_searchx_6 hy hr hP hT hI b c e k v15739 (by omega) (by omega) (by omega) (by omega) (by omega) (by omega) (by omega) (by omega) (by omega) (by omega)) (Nat.le_of_ble_eq_true rfl) ?_
        intro r I15740 J15741 R15742 hq
        obtain ⟨⟨hI15740, ⟨hrI15740, ⟨htI15740, hsI15740⟩, hpI15740⟩, fiI15740, fjI15740⟩, v15743, rfl, av15743, bv15743, cv15743⟩ := hq
        show WP _ _ _ _ (.int _ :: _) _ _ _ _
        have ht_I15740 := htI15740.trans hT
        have hs_I15740 : R15742 (ad g 0) 10 = R (ad g 0) 10 := hsI15740.trans rfl
        have fr15744 : fz 74 g [43, 44, 47, 48, 50] I I15740 := fz_tr fr0 (fz_mono fiI15740 (by decide))
        have fr15745 : fz 74 g [45, 46] J J15741 := fz_tr frj0 (fz_mono fjI15740 (by decide))
        have e15746 : I15740 (ad g 1) 1 = L := hI15740.2
        have b15747 := BT_get hI15740.1 1 1 2 (0) (0) (900) (by decide) 1 (by decide) (by decide)
        rw [e15746] at b15747
        exact WP_iret dX10_wayAct_43 rfl ⟨⟨hI15740, ⟨hrI15740, ⟨ht_I15740.trans hT.symm, hs_I15740⟩, hpI15740⟩, fr15744, fr15745⟩, _, rfl⟩
    · refine WQ_bipush (-2) (-2) dX10_wayAct_20 rfl rfl (fun v15748 hv15748 => ?_)
      exact WP_iret dX10_wayAct_22 rfl ⟨⟨hI, ⟨hr, ⟨hT.trans hT.symm, rfl⟩, hP⟩, fr0, frj0⟩, _, rfl⟩
set_option maxHeartbeats 4000000 in
set_option maxRecDepth 100000 in
theorem sx_pass_27 {g : GG} {n : Int} {L : Int32} (hy : LyX g)  {I : pI} {J : pJ} {R : pR} (hr : RfX g R) (hP : NL g R) (hT : R (ad g 5) 0 = some (ad g 27)) (hI : XI g n L I) (a : Int32)  (hn : 0 ≤ n ∧ n ≤ 40000) (hb : (I (ad g 53) 1).toInt ≤ 23760 * n - 1663200) : SP g mX10_pass [.ref (ad g 0), .int a] I J R (fun r I' J' R' => (XI g n L I' ∧ (RfX g R' ∧ (R' (ad g 5) 0 = R (ad g 5) 0 ∧ R' (ad g 0) 10 = R (ad g 0) 10) ∧ NL g R') ∧ fz 74 g [43, 44, 47, 48, 50, 51, 52, 53, 55] I I' ∧ fz 74 g [45, 46, 53] J J' ∧ True) ∧ ∃ v : Int32, r = some (.int v)) := by
  refine SP_of ⟨by decide, rfl⟩ (Nat.le_of_ble_eq_true rfl) ?_
  have e15749 : I (ad g 1) 1 = L := hI.2
  have b15750 := BT_get hI.1 1 1 2 (0) (0) (900) (by decide) 1 (by decide) (by decide)
  rw [e15749] at b15750
  have fr0 : fz 74 g [43, 44, 47, 48, 50, 51, 52, 53, 55] I I := fz_rf
  have frj0 : fz 74 g [45, 46, 53] J J := fz_rf
  obtain ⟨w15751, ew15751⟩ : ∃ w : Int32, I (ad g 53) 1 = w := ⟨_, rfl⟩
  have bw15751 := BT_get hI.1 53 1 2 (0) (23760) (0) (by decide) 1 (by decide) (by decide)
  rw [ew15751] at bw15751
  rw [ew15751] at hb
  refine WP_iload_n dX10_pass_0 rfl ?_
  refine WQ_if_lt 10 dX10_pass_1 rfl (fun c15751 => ?_) (fun c15751 => ?_)
  · refine WQ_bipush (-2) (-2) dX10_pass_10 rfl rfl (fun v15753 hv15753 => ?_)
    exact WP_iret dX10_pass_12 rfl ⟨⟨hI, ⟨hr, ⟨hT.trans hT.symm, rfl⟩, hP⟩, fr0, frj0, trivial⟩, _, rfl⟩
  · refine WP_iload_n dX10_pass_4 rfl ?_
    refine WQ_bipush (70) (70) dX10_pass_5 rfl rfl (fun v15754 hv15754 => ?_)
    refine WQ_icmp_le 13 dX10_pass_7 rfl (fun c15754 => ?_) (fun c15754 => ?_)
    · refine WQ_iconst (0) (0) dX10_pass_13 rfl rfl (fun v15756 hv15756 => ?_)
      refine WP_istore_n (ls' := [(0, _), (1, _), (2, _)]) dX10_pass_14 (by decide) rfl ?_
      have lp15_15760 : ∀ (mz : Nat) (i15757 : Int32) (I15758 : pI) (J15759 : pJ) (RI15758 : pR), RfX g RI15758 → RI15758 (ad g 5) 0 = some (ad g 27) → RI15758 (ad g 0) 10 = R (ad g 0) 10 → NL g RI15758 → XI g n L I15758 → fz 74 g [43, 44, 47, 48, 50, 51, 52, 53, 55] I I15758 → fz 74 g [45, 46, 53] J J15759 → ∀ (w15760 : Int32), I15758 (ad g 53) 1 = w15760 → 0 ≤ i15757.toInt → i15757.toInt ≤ 70 → w15760.toInt ≤ w15751.toInt + 23760 * i15757.toInt → i15757.toInt ≤ a.toInt → (71 - i15757.toInt).toNat < mz → WP g mX10_pass 15 [(0, .ref (ad g 0)), (1, .int a), (2, .int i15757)] [] I15758 J15759 RI15758 (fun r I' J' R' => (XI g n L I' ∧ (RfX g R' ∧ (R' (ad g 5) 0 = R (ad g 5) 0 ∧ R' (ad g 0) 10 = R (ad g 0) 10) ∧ NL g R') ∧ fz 74 g [43, 44, 47, 48, 50, 51, 52, 53, 55] I I' ∧ fz 74 g [45, 46, 53] J J' ∧ True) ∧ ∃ v : Int32, r = some (.int v)) := by
        intro mz
        induction mz with
        | zero =>
          intro i15757 I15758 J15759 RI15758 hrI15758 hTI15758 hSI15758 hPI15758 hI15758 fiI15758 fjJ15759 w15760 ew15760 ai15757 bi15757 j0_I15758 j1_I15758 hmlp15_15760
          exact absurd hmlp15_15760 (Nat.not_lt_zero _)
        | succ mz ihlp15_15760 =>
          intro i15757 I15758 J15759 RI15758 hrI15758 hTI15758 hSI15758 hPI15758 hI15758 fiI15758 fjJ15759 w15760 ew15760 ai15757 bi15757 j0_I15758 j1_I15758 hmlp15_15760
          have bw15760 := BT_get hI15758.1 53 1 2 (0) (23760) (0) (by decide) 1 (by decide) (by decide)
          rw [ew15760] at bw15760
          have e15762 : I15758 (ad g 1) 1 = L := hI15758.2
          have b15763 := BT_get hI15758.1 1 1 2 (0) (0) (900) (by decide) 1 (by decide) (by decide)
          rw [e15762] at b15763
          refine WP_iload_n dX10_pass_15 rfl ?_
          refine WP_iload_n dX10_pass_16 rfl ?_
          refine WQ_icmp_ge 38 dX10_pass_17 rfl (fun c15763 => ?_) (fun c15763 => ?_)
          · refine WP_aload_n dX10_pass_38 rfl ?_
            refine WP_getr dX10_pass_39 fX10_62 rfl (lyx_is hy 0 10 rfl) (rfx hrI15758 0 5 53 (by decide)) ?_
            refine WQ_getiu dX10_pass_42 fX10_232 rfl (lyx_is hy 53 4 rfl) (fun v15765 ev15765 => ?_)
            exact WP_iret dX10_pass_45 rfl ⟨⟨hI15758, ⟨hrI15758, ⟨hTI15758.trans hT.symm, hSI15758⟩, hPI15758⟩, fiI15758, fjJ15759, trivial⟩, _, rfl⟩
          · refine WP_aload_n dX10_pass_20 rfl ?_
            refine WP_getr dX10_pass_21 fX10_55 rfl (lyx_is hy 0 10 rfl) (rfx hrI15758 0 4 49 (by decide)) ?_
            refine WP_aload_n dX10_pass_24 rfl ?_
            refine WP_getr dX10_pass_25 fX10_62 rfl (lyx_is hy 0 10 rfl) (rfx hrI15758 0 5 53 (by decide)) ?_
            refine WQ_iconst (1) (1) dX10_pass_28 rfl rfl (fun v15766 hv15766 => ?_)
            refine WP_callV2 (k := 9) dX10_pass_29 ⟨⟨⟨by decide, by decide⟩, zX9_passDay⟩, lX10_228, by decide, rfl, vX9_passDay.1, vX9_passDay.2⟩ (lyx_is hy 49 9 rfl) (sx_passDay_53_27 hy hrI15758 hPI15758 hTI15758 hI15758 v15766 (by omega) (by omega) (by omega) (by rw [ew15760]; omega)) (Nat.le_of_ble_eq_true rfl) ?_
            intro r I15767 J15768 R15769 hq
            obtain ⟨⟨hI15767, ⟨hrI15767, ⟨htI15767, hsI15767⟩, hpI15767⟩, fiI15767, fjI15767, pI15767⟩, rfl⟩ := hq
            have ht_I15767 := htI15767.trans hTI15758
            have hs_I15767 : R15769 (ad g 0) 10 = R (ad g 0) 10 := hsI15767.trans hSI15758
            have fr15770 : fz 74 g [43, 44, 47, 48, 50, 51, 52, 53, 55] I I15767 := fz_tr fiI15758 (fz_mono fiI15767 (by decide))
            have fr15771 : fz 74 g [45, 46, 53] J J15768 := fz_tr fjJ15759 (fz_mono fjI15767 (by decide))
            have e15772 : I15767 (ad g 1) 1 = L := hI15767.2
            have b15773 := BT_get hI15767.1 1 1 2 (0) (0) (900) (by decide) 1 (by decide) (by decide)
            rw [e15772] at b15773
            obtain ⟨w15774, ew15774⟩ : ∃ w : Int32, I15767 (ad g 53) 1 = w := ⟨_, rfl⟩
            have bw15774 := BT_get hI15767.1 53 1 2 (0) (23760) (0) (by decide) 1 (by decide) (by decide)
            rw [ew15774] at bw15774
            rw [ew15774, ew15760] at pI15767
            refine WP_iinc (ls' := [(0, _), (1, _), (2, _)]) dX10_pass_32 rfl (by decide) rfl ?_
            have hv15775 : (i15757 + Int32.ofInt (1)).toInt = i15757.toInt + (1) := ia_n rfl (by omega) (by omega)
            generalize i15757 + Int32.ofInt (1) = v15775 at hv15775 ⊢
            refine WP_goto 15 dX10_pass_35 rfl ?_
            exact WP_sub (fc rfl (fc rfl (fc rfl fn))) (ihlp15_15760 v15775 I15767 J15768 R15769 hrI15767 ht_I15767 hs_I15767 hpI15767 hI15767 fr15770 fr15771 w15774 ew15774 (by omega) (by omega) (by omega) (by omega) (by omega))
      exact WP_sub (fc rfl (fc rfl (fc rfl fn))) (lp15_15760 _ v15756 I J R hr hT rfl hP hI fr0 frj0 w15751 ew15751 (by omega) (by omega) (by omega) (by omega) (Nat.lt_succ_self _))
    · refine WQ_bipush (-2) (-2) dX10_pass_10 rfl rfl (fun v15776 hv15776 => ?_)
      exact WP_iret dX10_pass_12 rfl ⟨⟨hI, ⟨hr, ⟨hT.trans hT.symm, rfl⟩, hP⟩, fr0, frj0, trivial⟩, _, rfl⟩
set_option maxHeartbeats 4000000 in
set_option maxRecDepth 100000 in
theorem sx_worthOfAll_27 {g : GG} {n : Int} {L : Int32} (hy : LyX g)  {I : pI} {J : pJ} {R : pR} (hr : RfX g R) (hP : NL g R) (hT : R (ad g 5) 0 = some (ad g 27)) (hI : XI g n L I) (ra : Int32) (we : Int32) (ra_lo : 0 ≤ ra.toInt) (ra_hi : ra.toInt ≤ 18) (we_lo : 1 ≤ we.toInt) (we_hi : we.toInt ≤ 4) (hn : 0 ≤ n ∧ n ≤ 40000) : SP g mX10_worthOfAll [.ref (ad g 0), .int ra, .int we] I J R (fun r I' J' R' => (XI g n L I' ∧ (RfX g R' ∧ (R' (ad g 5) 0 = R (ad g 5) 0 ∧ R' (ad g 0) 10 = R (ad g 0) 10) ∧ NL g R') ∧ fz 74 g [23, 24, 43, 44, 47, 48, 50, 51, 52, 56, 57, 58] I I' ∧ fz 74 g [45, 46, 56] J J') ∧ ∃ v : Int32, r = some (.int v)) := by
  refine SP_of ⟨by decide, rfl⟩ (Nat.le_of_ble_eq_true rfl) ?_
  have e15777 : I (ad g 1) 1 = L := hI.2
  have b15778 := BT_get hI.1 1 1 2 (0) (0) (900) (by decide) 1 (by decide) (by decide)
  rw [e15777] at b15778
  have fr0 : fz 74 g [23, 24, 43, 44, 47, 48, 50, 51, 52, 56, 57, 58] I I := fz_rf
  have frj0 : fz 74 g [45, 46, 56] J J := fz_rf
  refine WP_aload_n dX10_worthOfAll_0 rfl ?_
  refine WP_getr dX10_worthOfAll_1 fX10_66 rfl (lyx_is hy 0 10 rfl) (rfx hr 0 6 56 (by decide)) ?_
  refine WP_aload_n dX10_worthOfAll_4 rfl ?_
  refine WP_getr dX10_worthOfAll_5 fX10_62 rfl (lyx_is hy 0 10 rfl) (rfx hr 0 5 53 (by decide)) ?_
  refine WP_callV1 (k := 4) dX10_worthOfAll_8 ⟨⟨⟨by decide, by decide⟩, zX4_become⟩, lX10_249, by decide, rfl, vX4_become.1, vX4_become.2⟩ (lyx_is hy 56 4 rfl) (sx_becomef_56_53 hy hr hI  ) (Nat.le_of_ble_eq_true rfl) ?_
  intro r I15779 J15780 Ra hq
  obtain ⟨⟨hI15779, ec, fiI15779, fjI15779⟩, rfl⟩ := hq
  rw [ec]
  clear ec Ra
  have fr15781 : fz 74 g [23, 24, 43, 44, 47, 48, 50, 51, 52, 56, 57, 58] I I15779 := fz_tr fr0 (fz_mono fiI15779 (by decide))
  have fr15782 : fz 74 g [45, 46, 56] J J15780 := fz_tr frj0 (fz_mono fjI15779 (by decide))
  have e15783 : I15779 (ad g 1) 1 = L := hI15779.2
  have b15784 := BT_get hI15779.1 1 1 2 (0) (0) (900) (by decide) 1 (by decide) (by decide)
  rw [e15783] at b15784
  refine WP_aload_n dX10_worthOfAll_11 rfl ?_
  refine WP_getr dX10_worthOfAll_12 fX10_66 rfl (lyx_is hy 0 10 rfl) (rfx hr 0 6 56 (by decide)) ?_
  refine WP_aload_n dX10_worthOfAll_15 rfl ?_
  refine WP_getr dX10_worthOfAll_16 fX10_33 rfl (lyx_is hy 0 10 rfl) (rfx hr 0 2 5 (by decide)) ?_
  refine WP_getr dX10_worthOfAll_19 fX10_102 rfl (lyx_is hy 5 0 rfl) hT ?_
  refine WP_callV1 (k := 4) dX10_worthOfAll_22 ⟨⟨⟨by decide, by decide⟩, zX4_begin⟩, lX10_246, by decide, rfl, vX4_begin.1, vX4_begin.2⟩ (lyx_is hy 56 4 rfl) (sx_beginf_56_27 hy hr hI15779   (by omega)) (Nat.le_of_ble_eq_true rfl) ?_
  intro r I15785 J15786 Ra hq
  obtain ⟨⟨hI15785, ec, fiI15785, fjI15785, pI15785⟩, rfl⟩ := hq
  rw [ec]
  clear ec Ra
  have fr15787 : fz 74 g [23, 24, 43, 44, 47, 48, 50, 51, 52, 56, 57, 58] I I15785 := fz_tr fr15781 (fz_mono fiI15785 (by decide))
  have fr15788 : fz 74 g [45, 46, 56] J J15786 := fz_tr fr15782 (fz_mono fjI15785 (by decide))
  have e15789 : I15785 (ad g 1) 1 = L := hI15785.2
  have b15790 := BT_get hI15785.1 1 1 2 (0) (0) (900) (by decide) 1 (by decide) (by decide)
  rw [e15789] at b15790
  obtain ⟨w15791, ew15791⟩ : ∃ w : Int32, I15785 (ad g 56) 1 = w := ⟨_, rfl⟩
  have bw15791 := BT_get hI15785.1 56 1 2 (0) (23760) (700000) (by decide) 1 (by decide) (by decide)
  rw [ew15791] at bw15791
  rw [ew15791] at pI15785
  refine WP_aload_n dX10_worthOfAll_25 rfl ?_
  refine WP_getr dX10_worthOfAll_26 fX10_33 rfl (lyx_is hy 0 10 rfl) (rfx hr 0 2 5 (by decide)) ?_
  refine WP_iload_n dX10_worthOfAll_29 rfl ?_
  refine WQ_bipush (50) (50) dX10_worthOfAll_30 rfl rfl (fun v15792 hv15792 => ?_)
  refine WQ_imulk (50) dX10_worthOfAll_32 hv15792 (by omega) (by omega) (fun v15793 hv15793 => ?_)
  refine WP_callV1 (k := 0) dX10_worthOfAll_33 ⟨⟨⟨by decide, by decide⟩, zX0_lossesAt⟩, lX10_344, by decide, rfl, vX0_lossesAt.1, vX0_lossesAt.2⟩ (lyx_is hy 5 0 rfl) (sx_lossesAtf_27 hy hr hT hI15785 v15793 (by omega) (by omega)) (Nat.le_of_ble_eq_true rfl) ?_
  intro r I15794 J15795 Ra hq
  obtain ⟨⟨hI15794, ec, fiI15794, fjI15794⟩, rfl⟩ := hq
  rw [ec]
  clear ec Ra
  have fr15796 : fz 74 g [23, 24, 43, 44, 47, 48, 50, 51, 52, 56, 57, 58] I I15794 := fz_tr fr15787 (fz_mono fiI15794 (by decide))
  have fr15797 : fz 74 g [45, 46, 56] J J15795 := fz_tr fr15788 (fz_mono fjI15794 (by decide))
  have e15798 : I15794 (ad g 56) 1 = w15791 := by rw [fz_at fiI15794 56 (by decide) (by decide)]; exact ew15791
  have e15799 : I15794 (ad g 1) 1 = L := hI15794.2
  have b15800 := BT_get hI15794.1 1 1 2 (0) (0) (900) (by decide) 1 (by decide) (by decide)
  rw [e15799] at b15800
  refine WQ_iconst (0) (0) dX10_worthOfAll_36 rfl rfl (fun v15801 hv15801 => ?_)
  refine WP_istore_n (ls' := [(0, _), (1, _), (2, _), (3, _)]) dX10_worthOfAll_37 (by decide) rfl ?_
  have lp38_15805 : ∀ (mz : Nat) (i15802 : Int32) (I15803 : pI) (J15804 : pJ) (RI15803 : pR), RfX g RI15803 → RI15803 (ad g 5) 0 = some (ad g 27) → RI15803 (ad g 0) 10 = R (ad g 0) 10 → NL g RI15803 → XI g n L I15803 → fz 74 g [23, 24, 43, 44, 47, 48, 50, 51, 52, 56, 57, 58] I I15803 → fz 74 g [45, 46, 56] J J15804 → ∀ (w15805 : Int32), I15803 (ad g 56) 1 = w15805 → 0 ≤ i15802.toInt → i15802.toInt ≤ 28 → w15805.toInt ≤ 23760 * i15802.toInt → (29 - i15802.toInt).toNat < mz → WP g mX10_worthOfAll 38 [(0, .ref (ad g 0)), (1, .int ra), (2, .int we), (3, .int i15802)] [] I15803 J15804 RI15803 (fun r I' J' R' => (XI g n L I' ∧ (RfX g R' ∧ (R' (ad g 5) 0 = R (ad g 5) 0 ∧ R' (ad g 0) 10 = R (ad g 0) 10) ∧ NL g R') ∧ fz 74 g [23, 24, 43, 44, 47, 48, 50, 51, 52, 56, 57, 58] I I' ∧ fz 74 g [45, 46, 56] J J') ∧ ∃ v : Int32, r = some (.int v)) := by
    intro mz
    induction mz with
    | zero =>
      intro i15802 I15803 J15804 RI15803 hrI15803 hTI15803 hSI15803 hPI15803 hI15803 fiI15803 fjJ15804 w15805 ew15805 ai15802 bi15802 j0_I15803 hmlp38_15805
      exact absurd hmlp38_15805 (Nat.not_lt_zero _)
    | succ mz ihlp38_15805 =>
      intro i15802 I15803 J15804 RI15803 hrI15803 hTI15803 hSI15803 hPI15803 hI15803 fiI15803 fjJ15804 w15805 ew15805 ai15802 bi15802 j0_I15803 hmlp38_15805
      have bw15805 := BT_get hI15803.1 56 1 2 (0) (23760) (700000) (by decide) 1 (by decide) (by decide)
      rw [ew15805] at bw15805
      have e15807 : I15803 (ad g 1) 1 = L := hI15803.2
      have b15808 := BT_get hI15803.1 1 1 2 (0) (0) (900) (by decide) 1 (by decide) (by decide)
      rw [e15807] at b15808
      refine WP_iload_n dX10_worthOfAll_38 rfl ?_
      refine WP_iload_n dX10_worthOfAll_39 rfl ?_
      refine WQ_bipush (7) (7) dX10_worthOfAll_40 rfl rfl (fun v15809 hv15809 => ?_)
      refine WQ_imulk (7) dX10_worthOfAll_42 hv15809 (by omega) (by omega) (fun v15810 hv15810 => ?_)
      refine WQ_icmp_ge 64 dX10_worthOfAll_43 rfl (fun c15810 => ?_) (fun c15810 => ?_)
      · refine WP_aload_n dX10_worthOfAll_64 rfl ?_
        refine WP_getr dX10_worthOfAll_65 fX10_33 rfl (lyx_is hy 0 10 rfl) (rfx hrI15803 0 2 5 (by decide)) ?_
        refine WP_callV0 (k := 0) dX10_worthOfAll_68 ⟨⟨⟨by decide, by decide⟩, zX0_lossesAsTold⟩, lX10_347, by decide, rfl, vX0_lossesAsTold.1, vX0_lossesAsTold.2⟩ (lyx_is hy 5 0 rfl) (sx_lossesAsToldf_27 hy hrI15803 hTI15803 hI15803  ) (Nat.le_of_ble_eq_true rfl) ?_
        intro r I15812 J15813 Ra hq
        obtain ⟨⟨hI15812, ec, fiI15812, fjI15812⟩, rfl⟩ := hq
        rw [ec]
        clear ec Ra
        have fr15814 : fz 74 g [23, 24, 43, 44, 47, 48, 50, 51, 52, 56, 57, 58] I I15812 := fz_tr fiI15803 (fz_mono fiI15812 (by decide))
        have fr15815 : fz 74 g [45, 46, 56] J J15813 := fz_tr fjJ15804 (fz_mono fjI15812 (by decide))
        have e15816 : I15812 (ad g 56) 1 = w15805 := by rw [fz_at fiI15812 56 (by decide) (by decide)]; exact ew15805
        have e15817 : I15812 (ad g 1) 1 = L := hI15812.2
        have b15818 := BT_get hI15812.1 1 1 2 (0) (0) (900) (by decide) 1 (by decide) (by decide)
        rw [e15817] at b15818
        refine WP_aload_n dX10_worthOfAll_71 rfl ?_
        refine WP_getr dX10_worthOfAll_72 fX10_66 rfl (lyx_is hy 0 10 rfl) (rfx hrI15803 0 6 56 (by decide)) ?_
        refine WQ_iconst (4) (4) dX10_worthOfAll_75 rfl rfl (fun v15819 hv15819 => ?_)
        refine WP_callV1 (k := 4) dX10_worthOfAll_76 ⟨⟨⟨by decide, by decide⟩, zX4_sum⟩, lX10_350, by decide, rfl, vX4_sum.1, vX4_sum.2⟩ (lyx_is hy 56 4 rfl) (sx_sum_56 hy hrI15803 hI15812 v15819 (by omega) (by omega)) (Nat.le_of_ble_eq_true rfl) ?_
        intro r Ia Ja Ra hq
        obtain ⟨⟨ea, eb, ec⟩, v15820, rfl⟩ := hq
        show WP _ _ _ _ (.int _ :: _) _ _ _ _
        rw [ea, eb, ec]
        clear ea eb ec Ia Ja Ra
        exact WP_iret dX10_worthOfAll_79 rfl ⟨⟨hI15812, ⟨hrI15803, ⟨hTI15803.trans hT.symm, hSI15803⟩, hPI15803⟩, fr15814, fr15815⟩, _, rfl⟩
      · refine WP_aload_n dX10_worthOfAll_46 rfl ?_
        refine WP_getr dX10_worthOfAll_47 fX10_55 rfl (lyx_is hy 0 10 rfl) (rfx hrI15803 0 4 49 (by decide)) ?_
        refine WP_aload_n dX10_worthOfAll_50 rfl ?_
        refine WP_getr dX10_worthOfAll_51 fX10_66 rfl (lyx_is hy 0 10 rfl) (rfx hrI15803 0 6 56 (by decide)) ?_
        refine WQ_iconst (1) (1) dX10_worthOfAll_54 rfl rfl (fun v15821 hv15821 => ?_)
        refine WP_callV2 (k := 9) dX10_worthOfAll_55 ⟨⟨⟨by decide, by decide⟩, zX9_passDay⟩, lX10_228, by decide, rfl, vX9_passDay.1, vX9_passDay.2⟩ (lyx_is hy 49 9 rfl) (sx_passDay_56_27 hy hrI15803 hPI15803 hTI15803 hI15803 v15821 (by omega) (by omega) (by omega) (by rw [ew15805]; omega)) (Nat.le_of_ble_eq_true rfl) ?_
        intro r I15822 J15823 R15824 hq
        obtain ⟨⟨hI15822, ⟨hrI15822, ⟨htI15822, hsI15822⟩, hpI15822⟩, fiI15822, fjI15822, pI15822⟩, rfl⟩ := hq
        have ht_I15822 := htI15822.trans hTI15803
        have hs_I15822 : R15824 (ad g 0) 10 = R (ad g 0) 10 := hsI15822.trans hSI15803
        have fr15825 : fz 74 g [23, 24, 43, 44, 47, 48, 50, 51, 52, 56, 57, 58] I I15822 := fz_tr fiI15803 (fz_mono fiI15822 (by decide))
        have fr15826 : fz 74 g [45, 46, 56] J J15823 := fz_tr fjJ15804 (fz_mono fjI15822 (by decide))
        have e15827 : I15822 (ad g 1) 1 = L := hI15822.2
        have b15828 := BT_get hI15822.1 1 1 2 (0) (0) (900) (by decide) 1 (by decide) (by decide)
        rw [e15827] at b15828
        obtain ⟨w15829, ew15829⟩ : ∃ w : Int32, I15822 (ad g 56) 1 = w := ⟨_, rfl⟩
        have bw15829 := BT_get hI15822.1 56 1 2 (0) (23760) (700000) (by decide) 1 (by decide) (by decide)
        rw [ew15829] at bw15829
        rw [ew15829, ew15805] at pI15822
        refine WP_iinc (ls' := [(0, _), (1, _), (2, _), (3, _)]) dX10_worthOfAll_58 rfl (by decide) rfl ?_
        have hv15830 : (i15802 + Int32.ofInt (1)).toInt = i15802.toInt + (1) := ia_n rfl (by omega) (by omega)
        generalize i15802 + Int32.ofInt (1) = v15830 at hv15830 ⊢
        refine WP_goto 38 dX10_worthOfAll_61 rfl ?_
        exact WP_sub (fc rfl (fc rfl (fc rfl (fc rfl fn)))) (ihlp38_15805 v15830 I15822 J15823 R15824 hrI15822 ht_I15822 hs_I15822 hpI15822 hI15822 fr15825 fr15826 w15829 ew15829 (by omega) (by omega) (by omega) (by omega))
  exact WP_sub (fc rfl (fc rfl (fc rfl (fc rfl fn)))) (lp38_15805 _ v15801 I15794 J15795 R hr hT rfl hP hI15794 fr15796 fr15797 w15791 e15798 (by omega) (by omega) (by omega) (Nat.lt_succ_self _))
set_option maxHeartbeats 4000000 in
set_option maxRecDepth 100000 in
theorem sx_worthAt_27 {g : GG} {n : Int} {L : Int32} (hy : LyX g)  {I : pI} {J : pJ} {R : pR} (hr : RfX g R) (hP : NL g R) (hT : R (ad g 5) 0 = some (ad g 27)) (hI : XI g n L I) (a : Int32) (b : Int32)  (hn : 0 ≤ n ∧ n ≤ 40000) : SP g mX10_worthAt [.ref (ad g 0), .int a, .int b] I J R (fun r I' J' R' => (XI g n L I' ∧ (RfX g R' ∧ (R' (ad g 5) 0 = R (ad g 5) 0 ∧ R' (ad g 0) 10 = R (ad g 0) 10) ∧ NL g R') ∧ fz 74 g [23, 24, 43, 44, 47, 48, 50, 51, 52, 56, 57, 58] I I' ∧ fz 74 g [45, 46, 56] J J') ∧ ∃ v : Int32, r = some (.int v)) := by
  refine SP_of ⟨by decide, rfl⟩ (Nat.le_of_ble_eq_true rfl) ?_
  have e15831 : I (ad g 1) 1 = L := hI.2
  have b15832 := BT_get hI.1 1 1 2 (0) (0) (900) (by decide) 1 (by decide) (by decide)
  rw [e15831] at b15832
  have fr0 : fz 74 g [23, 24, 43, 44, 47, 48, 50, 51, 52, 56, 57, 58] I I := fz_rf
  have frj0 : fz 74 g [45, 46, 56] J J := fz_rf
  refine WP_iload_n dX10_worthAt_0 rfl ?_
  refine WQ_if_lt 17 dX10_worthAt_1 rfl (fun c15832 => ?_) (fun c15832 => ?_)
  · refine WQ_bipush (-2) (-2) dX10_worthAt_17 rfl rfl (fun v15834 hv15834 => ?_)
    refine WP_goto 28 dX10_worthAt_19 rfl ?_
    exact WP_iret dX10_worthAt_28 rfl ⟨⟨hI, ⟨hr, ⟨hT.trans hT.symm, rfl⟩, hP⟩, fr0, frj0⟩, _, rfl⟩
  · refine WP_iload_n dX10_worthAt_4 rfl ?_
    refine WQ_bipush (18) (18) dX10_worthAt_5 rfl rfl (fun v15835 hv15835 => ?_)
    refine WQ_icmp_gt 17 dX10_worthAt_7 rfl (fun c15835 => ?_) (fun c15835 => ?_)
    · refine WQ_bipush (-2) (-2) dX10_worthAt_17 rfl rfl (fun v15837 hv15837 => ?_)
      refine WP_goto 28 dX10_worthAt_19 rfl ?_
      exact WP_iret dX10_worthAt_28 rfl ⟨⟨hI, ⟨hr, ⟨hT.trans hT.symm, rfl⟩, hP⟩, fr0, frj0⟩, _, rfl⟩
    · refine WP_iload_n dX10_worthAt_10 rfl ?_
      refine WP_callS1 dX10_worthAt_11 ⟨⟨⟨by decide, by decide⟩, zX10_isWeeks⟩, lX10_253, tX10_isWeeks⟩ (sx_isWeeks hy hr hI b ) (Nat.le_of_ble_eq_true rfl) ?_
      intro r Ia Ja Ra hq
      obtain ⟨⟨ea, eb, ec⟩, v15838, rfl, av15838, bv15838, cv15838⟩ := hq
      show WP _ _ _ _ (.int _ :: _) _ _ _ _
      rw [ea, eb, ec]
      clear ea eb ec Ia Ja Ra
      refine WQ_if_ne 22 dX10_worthAt_14 rfl (fun c15838 => ?_) (fun c15838 => ?_)
      · refine WP_aload_n dX10_worthAt_22 rfl ?_
        refine WP_iload_n dX10_worthAt_23 rfl ?_
        refine WP_iload_n dX10_worthAt_24 rfl ?_
        refine WP_callV2 (k := 10) dX10_worthAt_25 ⟨⟨⟨by decide, by decide⟩, zX10_worthOfAll⟩, lX10_256, by decide, rfl, vX10_worthOfAll.1, vX10_worthOfAll.2⟩ (lyx_is hy 0 10 rfl) (sx_worthOfAll_27 hy hr hP hT hI a b (by omega) (by omega) (by omega) (by omega) (by omega)) (Nat.le_of_ble_eq_true rfl) ?_
        intro r I15840 J15841 R15842 hq
        obtain ⟨⟨hI15840, ⟨hrI15840, ⟨htI15840, hsI15840⟩, hpI15840⟩, fiI15840, fjI15840⟩, v15843, rfl⟩ := hq
        show WP _ _ _ _ (.int _ :: _) _ _ _ _
        have ht_I15840 := htI15840.trans hT
        have hs_I15840 : R15842 (ad g 0) 10 = R (ad g 0) 10 := hsI15840.trans rfl
        have fr15844 : fz 74 g [23, 24, 43, 44, 47, 48, 50, 51, 52, 56, 57, 58] I I15840 := fz_tr fr0 (fz_mono fiI15840 (by decide))
        have fr15845 : fz 74 g [45, 46, 56] J J15841 := fz_tr frj0 (fz_mono fjI15840 (by decide))
        have e15846 : I15840 (ad g 1) 1 = L := hI15840.2
        have b15847 := BT_get hI15840.1 1 1 2 (0) (0) (900) (by decide) 1 (by decide) (by decide)
        rw [e15846] at b15847
        exact WP_iret dX10_worthAt_28 rfl ⟨⟨hI15840, ⟨hrI15840, ⟨ht_I15840.trans hT.symm, hs_I15840⟩, hpI15840⟩, fr15844, fr15845⟩, _, rfl⟩
      · refine WQ_bipush (-2) (-2) dX10_worthAt_17 rfl rfl (fun v15848 hv15848 => ?_)
        refine WP_goto 28 dX10_worthAt_19 rfl ?_
        exact WP_iret dX10_worthAt_28 rfl ⟨⟨hI, ⟨hr, ⟨hT.trans hT.symm, rfl⟩, hP⟩, fr0, frj0⟩, _, rfl⟩
set_option maxHeartbeats 4000000 in
set_option maxRecDepth 100000 in
theorem sx_rate_27 {g : GG} {n : Int} {L : Int32} (hy : LyX g)  {I : pI} {J : pJ} {R : pR} (hr : RfX g R) (hP : NL g R) (hT : R (ad g 5) 0 = some (ad g 27)) (hI : XI g n L I) (a : Int32)  (hn : 0 ≤ n ∧ n ≤ 40000) : SP g mX10_rate [.ref (ad g 0), .int a] I J R (fun r I' J' R' => (XI g n L I' ∧ (RfX g R' ∧ (R' (ad g 5) 0 = R (ad g 5) 0 ∧ R' (ad g 0) 10 = R (ad g 0) 10) ∧ NL g R') ∧ fz 74 g [23, 24, 43, 44, 47, 48, 50, 51, 52, 56, 57, 58] I I' ∧ fz 74 g [45, 46, 56] J J') ∧ ∃ v : Int32, r = some (.int v)) := by
  refine SP_of ⟨by decide, rfl⟩ (Nat.le_of_ble_eq_true rfl) ?_
  have e15849 : I (ad g 1) 1 = L := hI.2
  have b15850 := BT_get hI.1 1 1 2 (0) (0) (900) (by decide) 1 (by decide) (by decide)
  rw [e15849] at b15850
  have fr0 : fz 74 g [23, 24, 43, 44, 47, 48, 50, 51, 52, 56, 57, 58] I I := fz_rf
  have frj0 : fz 74 g [45, 46, 56] J J := fz_rf
  refine WP_iload_n dX10_rate_0 rfl ?_
  refine WP_callS1 dX10_rate_1 ⟨⟨⟨by decide, by decide⟩, zX10_isWeeks⟩, lX10_253, tX10_isWeeks⟩ (sx_isWeeks hy hr hI a ) (Nat.le_of_ble_eq_true rfl) ?_
  intro r Ia Ja Ra hq
  obtain ⟨⟨ea, eb, ec⟩, v15851, rfl, av15851, bv15851, cv15851⟩ := hq
  show WP _ _ _ _ (.int _ :: _) _ _ _ _
  rw [ea, eb, ec]
  clear ea eb ec Ia Ja Ra
  refine WQ_if_ne 10 dX10_rate_4 rfl (fun c15851 => ?_) (fun c15851 => ?_)
  · refine WP_aload_n dX10_rate_10 rfl ?_
    refine WQ_iconst (0) (0) dX10_rate_11 rfl rfl (fun v15853 hv15853 => ?_)
    refine WP_iload_n dX10_rate_12 rfl ?_
    refine WP_callV2 (k := 10) dX10_rate_13 ⟨⟨⟨by decide, by decide⟩, zX10_worthOfAll⟩, lX10_256, by decide, rfl, vX10_worthOfAll.1, vX10_worthOfAll.2⟩ (lyx_is hy 0 10 rfl) (sx_worthOfAll_27 hy hr hP hT hI v15853 a (by omega) (by omega) (by omega) (by omega) (by omega)) (Nat.le_of_ble_eq_true rfl) ?_
    intro r I15854 J15855 R15856 hq
    obtain ⟨⟨hI15854, ⟨hrI15854, ⟨htI15854, hsI15854⟩, hpI15854⟩, fiI15854, fjI15854⟩, v15857, rfl⟩ := hq
    show WP _ _ _ _ (.int _ :: _) _ _ _ _
    have ht_I15854 := htI15854.trans hT
    have hs_I15854 : R15856 (ad g 0) 10 = R (ad g 0) 10 := hsI15854.trans rfl
    have fr15858 : fz 74 g [23, 24, 43, 44, 47, 48, 50, 51, 52, 56, 57, 58] I I15854 := fz_tr fr0 (fz_mono fiI15854 (by decide))
    have fr15859 : fz 74 g [45, 46, 56] J J15855 := fz_tr frj0 (fz_mono fjI15854 (by decide))
    have e15860 : I15854 (ad g 1) 1 = L := hI15854.2
    have b15861 := BT_get hI15854.1 1 1 2 (0) (0) (900) (by decide) 1 (by decide) (by decide)
    rw [e15860] at b15861
    refine WP_istore_n (ls' := [(0, _), (1, _), (2, _)]) dX10_rate_16 (by decide) rfl ?_
    refine WQ_iconst (0) (0) dX10_rate_17 rfl rfl (fun v15862 hv15862 => ?_)
    refine WP_istore_n (ls' := [(0, _), (1, _), (2, _), (3, _)]) dX10_rate_18 (by decide) rfl ?_
    refine WQ_iconst (1) (1) dX10_rate_19 rfl rfl (fun v15863 hv15863 => ?_)
    refine WP_istore (ls' := [(0, _), (1, _), (2, _), (3, _), (4, _)]) dX10_rate_20 (by decide) rfl ?_
    have lp22_15868 : ∀ (mz : Nat) (i15864 : Int32) (i15865 : Int32) (i15866 : Int32) (I15867 : pI) (J15868 : pJ) (RI15867 : pR), RfX g RI15867 → RI15867 (ad g 5) 0 = some (ad g 27) → RI15867 (ad g 0) 10 = R (ad g 0) 10 → NL g RI15867 → XI g n L I15867 → fz 74 g [23, 24, 43, 44, 47, 48, 50, 51, 52, 56, 57, 58] I I15867 → fz 74 g [45, 46, 56] J J15868 → 1 ≤ i15866.toInt → i15866.toInt ≤ 19 → (20 - i15866.toInt).toNat < mz → WP g mX10_rate 22 [(0, .ref (ad g 0)), (1, .int a), (2, .int i15864), (3, .int i15865), (4, .int i15866)] [] I15867 J15868 RI15867 (fun r I' J' R' => (XI g n L I' ∧ (RfX g R' ∧ (R' (ad g 5) 0 = R (ad g 5) 0 ∧ R' (ad g 0) 10 = R (ad g 0) 10) ∧ NL g R') ∧ fz 74 g [23, 24, 43, 44, 47, 48, 50, 51, 52, 56, 57, 58] I I' ∧ fz 74 g [45, 46, 56] J J') ∧ ∃ v : Int32, r = some (.int v)) := by
      intro mz
      induction mz with
      | zero =>
        intro i15864 i15865 i15866 I15867 J15868 RI15867 hrI15867 hTI15867 hSI15867 hPI15867 hI15867 fiI15867 fjJ15868 ai15866 bi15866 hmlp22_15868
        exact absurd hmlp22_15868 (Nat.not_lt_zero _)
      | succ mz ihlp22_15868 =>
        intro i15864 i15865 i15866 I15867 J15868 RI15867 hrI15867 hTI15867 hSI15867 hPI15867 hI15867 fiI15867 fjJ15868 ai15866 bi15866 hmlp22_15868
        have e15870 : I15867 (ad g 1) 1 = L := hI15867.2
        have b15871 := BT_get hI15867.1 1 1 2 (0) (0) (900) (by decide) 1 (by decide) (by decide)
        rw [e15870] at b15871
        refine WP_iload dX10_rate_22 rfl ?_
        refine WQ_bipush (18) (18) dX10_rate_24 rfl rfl (fun v15872 hv15872 => ?_)
        refine WQ_icmp_gt 56 dX10_rate_26 rfl (fun c15872 => ?_) (fun c15872 => ?_)
        · refine WP_iload_n dX10_rate_56 rfl ?_
          exact WP_iret dX10_rate_57 rfl ⟨⟨hI15867, ⟨hrI15867, ⟨hTI15867.trans hT.symm, hSI15867⟩, hPI15867⟩, fiI15867, fjJ15868⟩, _, rfl⟩
        · refine WP_aload_n dX10_rate_29 rfl ?_
          refine WP_iload dX10_rate_30 rfl ?_
          refine WP_iload_n dX10_rate_32 rfl ?_
          refine WP_callV2 (k := 10) dX10_rate_33 ⟨⟨⟨by decide, by decide⟩, zX10_worthOfAll⟩, lX10_256, by decide, rfl, vX10_worthOfAll.1, vX10_worthOfAll.2⟩ (lyx_is hy 0 10 rfl) (sx_worthOfAll_27 hy hrI15867 hPI15867 hTI15867 hI15867 i15866 a (by omega) (by omega) (by omega) (by omega) (by omega)) (Nat.le_of_ble_eq_true rfl) ?_
          intro r I15874 J15875 R15876 hq
          obtain ⟨⟨hI15874, ⟨hrI15874, ⟨htI15874, hsI15874⟩, hpI15874⟩, fiI15874, fjI15874⟩, v15877, rfl⟩ := hq
          show WP _ _ _ _ (.int _ :: _) _ _ _ _
          have ht_I15874 := htI15874.trans hTI15867
          have hs_I15874 : R15876 (ad g 0) 10 = R (ad g 0) 10 := hsI15874.trans hSI15867
          have fr15878 : fz 74 g [23, 24, 43, 44, 47, 48, 50, 51, 52, 56, 57, 58] I I15874 := fz_tr fiI15867 (fz_mono fiI15874 (by decide))
          have fr15879 : fz 74 g [45, 46, 56] J J15875 := fz_tr fjJ15868 (fz_mono fjI15874 (by decide))
          have e15880 : I15874 (ad g 1) 1 = L := hI15874.2
          have b15881 := BT_get hI15874.1 1 1 2 (0) (0) (900) (by decide) 1 (by decide) (by decide)
          rw [e15880] at b15881
          refine WP_istore (ls' := [(0, _), (1, _), (2, _), (3, _), (4, _), (5, _)]) dX10_rate_36 (by decide) rfl ?_
          refine WP_iload dX10_rate_38 rfl ?_
          refine WP_iload_n dX10_rate_40 rfl ?_
          refine WQ_icmp_le 50 dX10_rate_41 rfl (fun c15881 => ?_) (fun c15881 => ?_)
          · refine WP_iinc (ls' := [(0, _), (1, _), (2, _), (3, _), (4, _), (5, _)]) dX10_rate_50 rfl (by decide) rfl ?_
            have hv15883 : (i15866 + Int32.ofInt (1)).toInt = i15866.toInt + (1) := ia_n rfl (by omega) (by omega)
            generalize i15866 + Int32.ofInt (1) = v15883 at hv15883 ⊢
            refine WP_goto 22 dX10_rate_53 rfl ?_
            exact WP_sub (fc rfl (fc rfl (fc rfl (fc rfl (fc rfl fn))))) (ihlp22_15868 i15864 i15865 v15883 I15874 J15875 R15876 hrI15874 ht_I15874 hs_I15874 hpI15874 hI15874 fr15878 fr15879 (by omega) (by omega) (by omega))
          · refine WP_iload dX10_rate_44 rfl ?_
            refine WP_istore_n (ls' := [(0, _), (1, _), (2, _), (3, _), (4, _), (5, _)]) dX10_rate_46 (by decide) rfl ?_
            refine WP_iload dX10_rate_47 rfl ?_
            refine WP_istore_n (ls' := [(0, _), (1, _), (2, _), (3, _), (4, _), (5, _)]) dX10_rate_49 (by decide) rfl ?_
            refine WP_iinc (ls' := [(0, _), (1, _), (2, _), (3, _), (4, _), (5, _)]) dX10_rate_50 rfl (by decide) rfl ?_
            have hv15884 : (i15866 + Int32.ofInt (1)).toInt = i15866.toInt + (1) := ia_n rfl (by omega) (by omega)
            generalize i15866 + Int32.ofInt (1) = v15884 at hv15884 ⊢
            refine WP_goto 22 dX10_rate_53 rfl ?_
            exact WP_sub (fc rfl (fc rfl (fc rfl (fc rfl (fc rfl fn))))) (ihlp22_15868 v15877 i15866 v15884 I15874 J15875 R15876 hrI15874 ht_I15874 hs_I15874 hpI15874 hI15874 fr15878 fr15879 (by omega) (by omega) (by omega))
    exact WP_sub (fc rfl (fc rfl (fc rfl (fc rfl (fc rfl fn))))) (lp22_15868 _ v15857 v15862 v15863 I15854 J15855 R15856 hrI15854 ht_I15854 hs_I15854 hpI15854 hI15854 fr15858 fr15859 (by omega) (by omega) (Nat.lt_succ_self _))
  · refine WQ_bipush (-2) (-2) dX10_rate_7 rfl rfl (fun v15885 hv15885 => ?_)
    exact WP_iret dX10_rate_9 rfl ⟨⟨hI, ⟨hr, ⟨hT.trans hT.symm, rfl⟩, hP⟩, fr0, frj0⟩, _, rfl⟩
set_option maxHeartbeats 4000000 in
set_option maxRecDepth 100000 in
theorem sx_turnChanges_27 {g : GG} {n : Int} {L : Int32} (hy : LyX g)  {I : pI} {J : pJ} {R : pR} (hr : RfX g R) (hP : NL g R) (hT : R (ad g 5) 0 = some (ad g 27)) (hI : XI g n L I)   (hn : 0 ≤ n ∧ n ≤ 40000) : SP g mX10_turnChanges [.ref (ad g 0)] I J R (fun r I' J' R' => (XI g n L I' ∧ (RfX g R' ∧ (R' (ad g 5) 0 = R (ad g 5) 0 ∧ R' (ad g 0) 10 = R (ad g 0) 10) ∧ NL g R') ∧ fz 74 g [22, 43, 44, 47, 48, 50, 51, 52, 56, 57, 58] I I' ∧ fz 74 g [45, 46, 56] J J') ∧ ∃ v : Int32, r = some (.int v) ∧ 0 ≤ v.toInt ∧ v.toInt ≤ 1) := by
  refine SP_of ⟨by decide, rfl⟩ (Nat.le_of_ble_eq_true rfl) ?_
  have e15886 : I (ad g 1) 1 = L := hI.2
  have b15887 := BT_get hI.1 1 1 2 (0) (0) (900) (by decide) 1 (by decide) (by decide)
  rw [e15886] at b15887
  have fr0 : fz 74 g [22, 43, 44, 47, 48, 50, 51, 52, 56, 57, 58] I I := fz_rf
  have frj0 : fz 74 g [45, 46, 56] J J := fz_rf
  refine WP_aload_n dX10_turnChanges_0 rfl ?_
  refine WP_getr dX10_turnChanges_1 fX10_66 rfl (lyx_is hy 0 10 rfl) (rfx hr 0 6 56 (by decide)) ?_
  refine WP_aload_n dX10_turnChanges_4 rfl ?_
  refine WP_getr dX10_turnChanges_5 fX10_62 rfl (lyx_is hy 0 10 rfl) (rfx hr 0 5 53 (by decide)) ?_
  refine WP_callV1 (k := 4) dX10_turnChanges_8 ⟨⟨⟨by decide, by decide⟩, zX4_become⟩, lX10_249, by decide, rfl, vX4_become.1, vX4_become.2⟩ (lyx_is hy 56 4 rfl) (sx_becomef_56_53 hy hr hI  ) (Nat.le_of_ble_eq_true rfl) ?_
  intro r I15888 J15889 Ra hq
  obtain ⟨⟨hI15888, ec, fiI15888, fjI15888⟩, rfl⟩ := hq
  rw [ec]
  clear ec Ra
  have fr15890 : fz 74 g [22, 43, 44, 47, 48, 50, 51, 52, 56, 57, 58] I I15888 := fz_tr fr0 (fz_mono fiI15888 (by decide))
  have fr15891 : fz 74 g [45, 46, 56] J J15889 := fz_tr frj0 (fz_mono fjI15888 (by decide))
  have e15892 : I15888 (ad g 1) 1 = L := hI15888.2
  have b15893 := BT_get hI15888.1 1 1 2 (0) (0) (900) (by decide) 1 (by decide) (by decide)
  rw [e15892] at b15893
  refine WP_aload_n dX10_turnChanges_11 rfl ?_
  refine WP_getr dX10_turnChanges_12 fX10_66 rfl (lyx_is hy 0 10 rfl) (rfx hr 0 6 56 (by decide)) ?_
  refine WP_aload_n dX10_turnChanges_15 rfl ?_
  refine WP_getr dX10_turnChanges_16 fX10_33 rfl (lyx_is hy 0 10 rfl) (rfx hr 0 2 5 (by decide)) ?_
  refine WP_getr dX10_turnChanges_19 fX10_102 rfl (lyx_is hy 5 0 rfl) hT ?_
  refine WP_callV1 (k := 4) dX10_turnChanges_22 ⟨⟨⟨by decide, by decide⟩, zX4_begin⟩, lX10_246, by decide, rfl, vX4_begin.1, vX4_begin.2⟩ (lyx_is hy 56 4 rfl) (sx_beginf_56_27 hy hr hI15888   (by omega)) (Nat.le_of_ble_eq_true rfl) ?_
  intro r I15894 J15895 Ra hq
  obtain ⟨⟨hI15894, ec, fiI15894, fjI15894, pI15894⟩, rfl⟩ := hq
  rw [ec]
  clear ec Ra
  have fr15896 : fz 74 g [22, 43, 44, 47, 48, 50, 51, 52, 56, 57, 58] I I15894 := fz_tr fr15890 (fz_mono fiI15894 (by decide))
  have fr15897 : fz 74 g [45, 46, 56] J J15895 := fz_tr fr15891 (fz_mono fjI15894 (by decide))
  have e15898 : I15894 (ad g 1) 1 = L := hI15894.2
  have b15899 := BT_get hI15894.1 1 1 2 (0) (0) (900) (by decide) 1 (by decide) (by decide)
  rw [e15898] at b15899
  obtain ⟨w15900, ew15900⟩ : ∃ w : Int32, I15894 (ad g 56) 1 = w := ⟨_, rfl⟩
  have bw15900 := BT_get hI15894.1 56 1 2 (0) (23760) (700000) (by decide) 1 (by decide) (by decide)
  rw [ew15900] at bw15900
  rw [ew15900] at pI15894
  refine WP_aload_n dX10_turnChanges_25 rfl ?_
  refine WP_getr dX10_turnChanges_26 fX10_55 rfl (lyx_is hy 0 10 rfl) (rfx hr 0 4 49 (by decide)) ?_
  refine WP_getr dX10_turnChanges_29 fX10_353 rfl (lyx_is hy 49 9 rfl) (rfx hr 49 1 51 (by decide)) ?_
  refine WQ_iconst (0) (0) dX10_turnChanges_32 rfl rfl (fun v15901 hv15901 => ?_)
  refine WP_callS2u dX10_turnChanges_33 ⟨⟨⟨by decide, by decide⟩, zJ7_fill_53178⟩, lX10_335, tJ7_fill_53178⟩ (s_fill hy hr 51 21 rfl rfl (by decide) v15901) (Nat.le_of_ble_eq_true rfl) ?_
  obtain ⟨I15902, eI15902⟩ : ∃ I9 : pI, I9 = fi I15894 (ad g 51) 21 v15901 := ⟨_, rfl⟩
  rw [← eI15902]
  have hI15902 : XI g n L I15902 := by rw [eI15902]; exact (xi_fill0 hy hI15894 51 21 v15901 (by decide) (by decide))
  have e15903 : I15902 (ad g 1) 1 = L := by rw [eI15902, fi_off (lyx_ne hy (by decide) (by decide) (by decide))]; exact e15898
  have e15904 : I15902 (ad g 56) 1 = w15900 := by rw [eI15902, fi_off (lyx_ne hy (by decide) (by decide) (by decide))]; exact ew15900
  have fr15905 : fz 74 g [22, 43, 44, 47, 48, 50, 51, 52, 56, 57, 58] I I15902 := by rw [eI15902]; exact fzx_fi hy fr15896 (by decide) (by decide)
  clear eI15902
  refine WQ_iconst (0) (0) dX10_turnChanges_36 rfl rfl (fun v15906 hv15906 => ?_)
  refine WP_istore_n (ls' := [(0, _), (1, _)]) dX10_turnChanges_37 (by decide) rfl ?_
  have lp38_15910 : ∀ (mz : Nat) (i15907 : Int32) (I15908 : pI) (J15909 : pJ) (RI15908 : pR), RfX g RI15908 → RI15908 (ad g 5) 0 = some (ad g 27) → RI15908 (ad g 0) 10 = R (ad g 0) 10 → NL g RI15908 → XI g n L I15908 → fz 74 g [22, 43, 44, 47, 48, 50, 51, 52, 56, 57, 58] I I15908 → fz 74 g [45, 46, 56] J J15909 → ∀ (w15910 : Int32), I15908 (ad g 56) 1 = w15910 → 0 ≤ i15907.toInt → i15907.toInt ≤ 7 → w15910.toInt ≤ 23760 * i15907.toInt → (8 - i15907.toInt).toNat < mz → WP g mX10_turnChanges 38 [(0, .ref (ad g 0)), (1, .int i15907)] [] I15908 J15909 RI15908 (fun r I' J' R' => (XI g n L I' ∧ (RfX g R' ∧ (R' (ad g 5) 0 = R (ad g 5) 0 ∧ R' (ad g 0) 10 = R (ad g 0) 10) ∧ NL g R') ∧ fz 74 g [22, 43, 44, 47, 48, 50, 51, 52, 56, 57, 58] I I' ∧ fz 74 g [45, 46, 56] J J') ∧ ∃ v : Int32, r = some (.int v) ∧ 0 ≤ v.toInt ∧ v.toInt ≤ 1) := by
    intro mz
    induction mz with
    | zero =>
      intro i15907 I15908 J15909 RI15908 hrI15908 hTI15908 hSI15908 hPI15908 hI15908 fiI15908 fjJ15909 w15910 ew15910 ai15907 bi15907 j0_I15908 hmlp38_15910
      exact absurd hmlp38_15910 (Nat.not_lt_zero _)
    | succ mz ihlp38_15910 =>
      intro i15907 I15908 J15909 RI15908 hrI15908 hTI15908 hSI15908 hPI15908 hI15908 fiI15908 fjJ15909 w15910 ew15910 ai15907 bi15907 j0_I15908 hmlp38_15910
      have bw15910 := BT_get hI15908.1 56 1 2 (0) (23760) (700000) (by decide) 1 (by decide) (by decide)
      rw [ew15910] at bw15910
      have e15912 : I15908 (ad g 1) 1 = L := hI15908.2
      have b15913 := BT_get hI15908.1 1 1 2 (0) (0) (900) (by decide) 1 (by decide) (by decide)
      rw [e15912] at b15913
      refine WP_iload_n dX10_turnChanges_38 rfl ?_
      refine WQ_bipush (7) (7) dX10_turnChanges_39 rfl rfl (fun v15914 hv15914 => ?_)
      refine WQ_icmp_ge 62 dX10_turnChanges_41 rfl (fun c15914 => ?_) (fun c15914 => ?_)
      · refine WP_aload_n dX10_turnChanges_62 rfl ?_
        refine WP_getr dX10_turnChanges_63 fX10_33 rfl (lyx_is hy 0 10 rfl) (rfx hrI15908 0 2 5 (by decide)) ?_
        refine WP_aload_n dX10_turnChanges_66 rfl ?_
        refine WP_getr dX10_turnChanges_67 fX10_55 rfl (lyx_is hy 0 10 rfl) (rfx hrI15908 0 4 49 (by decide)) ?_
        refine WP_getr dX10_turnChanges_70 fX10_353 rfl (lyx_is hy 49 9 rfl) (rfx hrI15908 49 1 51 (by decide)) ?_
        refine WP_callV1 (k := 0) dX10_turnChanges_73 ⟨⟨⟨by decide, by decide⟩, zX0_movePrices⟩, lX10_356, by decide, rfl, vX0_movePrices.1, vX0_movePrices.2⟩ (lyx_is hy 5 0 rfl) (sx_movePricesf_27 hy hrI15908 hTI15908 hI15908  ) (Nat.le_of_ble_eq_true rfl) ?_
        intro r I15916 J15917 Ra hq
        obtain ⟨⟨hI15916, ec, fiI15916, fjI15916⟩, v15918, rfl, av15918, bv15918⟩ := hq
        show WP _ _ _ _ (.int _ :: _) _ _ _ _
        rw [ec]
        clear ec Ra
        have fr15919 : fz 74 g [22, 43, 44, 47, 48, 50, 51, 52, 56, 57, 58] I I15916 := fz_tr fiI15908 (fz_mono fiI15916 (by decide))
        have fr15920 : fz 74 g [45, 46, 56] J J15917 := fz_tr fjJ15909 (fz_mono fjI15916 (by decide))
        have e15921 : I15916 (ad g 56) 1 = w15910 := by rw [fz_at fiI15916 56 (by decide) (by decide)]; exact ew15910
        have e15922 : I15916 (ad g 1) 1 = L := hI15916.2
        have b15923 := BT_get hI15916.1 1 1 2 (0) (0) (900) (by decide) 1 (by decide) (by decide)
        rw [e15922] at b15923
        exact WP_zret dX10_turnChanges_76 rfl (nar_z (by omega)) ⟨⟨hI15916, ⟨hrI15908, ⟨hTI15908.trans hT.symm, hSI15908⟩, hPI15908⟩, fr15919, fr15920⟩, _, rfl, by omega, by omega⟩
      · refine WP_aload_n dX10_turnChanges_44 rfl ?_
        refine WP_getr dX10_turnChanges_45 fX10_55 rfl (lyx_is hy 0 10 rfl) (rfx hrI15908 0 4 49 (by decide)) ?_
        refine WP_aload_n dX10_turnChanges_48 rfl ?_
        refine WP_getr dX10_turnChanges_49 fX10_66 rfl (lyx_is hy 0 10 rfl) (rfx hrI15908 0 6 56 (by decide)) ?_
        refine WQ_iconst (0) (0) dX10_turnChanges_52 rfl rfl (fun v15924 hv15924 => ?_)
        refine WP_callV2 (k := 9) dX10_turnChanges_53 ⟨⟨⟨by decide, by decide⟩, zX9_passDay⟩, lX10_228, by decide, rfl, vX9_passDay.1, vX9_passDay.2⟩ (lyx_is hy 49 9 rfl) (sx_passDay_56_27 hy hrI15908 hPI15908 hTI15908 hI15908 v15924 (by omega) (by omega) (by omega) (by rw [ew15910]; omega)) (Nat.le_of_ble_eq_true rfl) ?_
        intro r I15925 J15926 R15927 hq
        obtain ⟨⟨hI15925, ⟨hrI15925, ⟨htI15925, hsI15925⟩, hpI15925⟩, fiI15925, fjI15925, pI15925⟩, rfl⟩ := hq
        have ht_I15925 := htI15925.trans hTI15908
        have hs_I15925 : R15927 (ad g 0) 10 = R (ad g 0) 10 := hsI15925.trans hSI15908
        have fr15928 : fz 74 g [22, 43, 44, 47, 48, 50, 51, 52, 56, 57, 58] I I15925 := fz_tr fiI15908 (fz_mono fiI15925 (by decide))
        have fr15929 : fz 74 g [45, 46, 56] J J15926 := fz_tr fjJ15909 (fz_mono fjI15925 (by decide))
        have e15930 : I15925 (ad g 1) 1 = L := hI15925.2
        have b15931 := BT_get hI15925.1 1 1 2 (0) (0) (900) (by decide) 1 (by decide) (by decide)
        rw [e15930] at b15931
        obtain ⟨w15932, ew15932⟩ : ∃ w : Int32, I15925 (ad g 56) 1 = w := ⟨_, rfl⟩
        have bw15932 := BT_get hI15925.1 56 1 2 (0) (23760) (700000) (by decide) 1 (by decide) (by decide)
        rw [ew15932] at bw15932
        rw [ew15932, ew15910] at pI15925
        refine WP_iinc (ls' := [(0, _), (1, _)]) dX10_turnChanges_56 rfl (by decide) rfl ?_
        have hv15933 : (i15907 + Int32.ofInt (1)).toInt = i15907.toInt + (1) := ia_n rfl (by omega) (by omega)
        generalize i15907 + Int32.ofInt (1) = v15933 at hv15933 ⊢
        refine WP_goto 38 dX10_turnChanges_59 rfl ?_
        exact WP_sub (fc rfl (fc rfl fn)) (ihlp38_15910 v15933 I15925 J15926 R15927 hrI15925 ht_I15925 hs_I15925 hpI15925 hI15925 fr15928 fr15929 w15932 ew15932 (by omega) (by omega) (by omega) (by omega))
  exact WP_sub (fc rfl (fc rfl fn)) (lp38_15910 _ v15906 I15902 J15895 R hr hT rfl hP hI15902 fr15905 fr15897 w15900 e15904 (by omega) (by omega) (by omega) (Nat.lt_succ_self _))
set_option maxHeartbeats 4000000 in
set_option maxRecDepth 100000 in
theorem sx_rest_27 {g : GG} {n : Int} {L : Int32} (hy : LyX g)  {I : pI} {J : pJ} {R : pR} (hr : RfX g R) (hP : NL g R) (hT : R (ad g 5) 0 = some (ad g 27)) (hI : XI g n L I) (a : Int32)  (hn : 0 ≤ n ∧ n ≤ 40000) : SP g mX10_rest [.ref (ad g 0), .int a] I J R (fun r I' J' R' => (XI g n L I' ∧ (RfX g R' ∧ (R' (ad g 5) 0 = R (ad g 5) 0 ∧ R' (ad g 0) 10 = R (ad g 0) 10) ∧ NL g R') ∧ fz 74 g [0, 22, 43, 44, 47, 48, 50, 51, 52, 56, 57, 58] I I' ∧ fz 74 g [45, 46, 56] J J') ∧ ∃ v : Int32, r = some (.int v)) := by
  refine SP_of ⟨by decide, rfl⟩ (Nat.le_of_ble_eq_true rfl) ?_
  have e15934 : I (ad g 1) 1 = L := hI.2
  have b15935 := BT_get hI.1 1 1 2 (0) (0) (900) (by decide) 1 (by decide) (by decide)
  rw [e15934] at b15935
  have fr0 : fz 74 g [0, 22, 43, 44, 47, 48, 50, 51, 52, 56, 57, 58] I I := fz_rf
  have frj0 : fz 74 g [45, 46, 56] J J := fz_rf
  refine WP_iload_n dX10_rest_0 rfl ?_
  refine WQ_if_eq 12 dX10_rest_1 rfl (fun c15935 => ?_) (fun c15935 => ?_)
  · refine WP_iload_n dX10_rest_12 rfl ?_
    refine WQ_iconst (1) (1) dX10_rest_13 rfl rfl (fun v15937 hv15937 => ?_)
    refine WQ_icmp_ne 24 dX10_rest_14 rfl (fun c15937 => ?_) (fun c15937 => False.elim (by omega))
    refine WQ_iconst (0) (0) dX10_rest_24 rfl rfl (fun v15939 hv15939 => ?_)
    refine WP_istore_n (ls' := [(0, _), (1, _), (2, _)]) dX10_rest_25 (by decide) rfl ?_
    refine WP_aload_n dX10_rest_26 rfl ?_
    refine WQ_iconst (0) (0) dX10_rest_27 rfl rfl (fun v15940 hv15940 => ?_)
    refine WQ_puti dX10_rest_28 fX10_263 rfl rfl (lyx_is hy 0 10 rfl) (fun I15941 eI15941 => ?_)
    have hI15941 : XI g n L I15941 := by rw [eI15941]; exact (xi_f0 hy hI (c := 0) (by decide) (Or.inl (by decide)) (by decide))
    have e15942 : I15941 (ad g 1) 1 = L := by rw [eI15941, pp_ne _ _ (Or.inl (lyx_ne hy (by decide) (by decide) (by decide)))]; exact e15934
    have e15943 : I15941 (ad g 0) 11 = v15940 := by rw [eI15941, pp_self]
    have fr15944 : fz 74 g [0, 22, 43, 44, 47, 48, 50, 51, 52, 56, 57, 58] I I15941 := by rw [eI15941]; exact fzx_pp hy fr0 (by decide) (by decide)
    clear eI15941
    have lp31_15948 : ∀ (mz : Nat) (i15945 : Int32) (I15946 : pI) (J15947 : pJ) (RI15946 : pR), RfX g RI15946 → RI15946 (ad g 5) 0 = some (ad g 27) → RI15946 (ad g 0) 10 = R (ad g 0) 10 → NL g RI15946 → XI g n L I15946 → fz 74 g [0, 22, 43, 44, 47, 48, 50, 51, 52, 56, 57, 58] I I15946 → fz 74 g [45, 46, 56] J J15947 → ∀ (w15948 : Int32), I15946 (ad g 0) 11 = w15948 → 0 ≤ i15945.toInt → i15945.toInt ≤ 1 → 0 ≤ w15948.toInt → w15948.toInt ≤ 60 → (61 - w15948.toInt).toNat < mz → WP g mX10_rest 31 [(0, .ref (ad g 0)), (1, .int a), (2, .int i15945)] [] I15946 J15947 RI15946 (fun r I' J' R' => (XI g n L I' ∧ (RfX g R' ∧ (R' (ad g 5) 0 = R (ad g 5) 0 ∧ R' (ad g 0) 10 = R (ad g 0) 10) ∧ NL g R') ∧ fz 74 g [0, 22, 43, 44, 47, 48, 50, 51, 52, 56, 57, 58] I I' ∧ fz 74 g [45, 46, 56] J J') ∧ ∃ v : Int32, r = some (.int v)) := by
      intro mz
      induction mz with
      | zero =>
        intro i15945 I15946 J15947 RI15946 hrI15946 hTI15946 hSI15946 hPI15946 hI15946 fiI15946 fjJ15947 w15948 ew15948 ai15945 bi15945 j0_I15946 j1_I15946 hmlp31_15948
        exact absurd hmlp31_15948 (Nat.not_lt_zero _)
      | succ mz ihlp31_15948 =>
        intro i15945 I15946 J15947 RI15946 hrI15946 hTI15946 hSI15946 hPI15946 hI15946 fiI15946 fjJ15947 w15948 ew15948 ai15945 bi15945 j0_I15946 j1_I15946 hmlp31_15948
        have e15950 : I15946 (ad g 1) 1 = L := hI15946.2
        have b15951 := BT_get hI15946.1 1 1 2 (0) (0) (900) (by decide) 1 (by decide) (by decide)
        rw [e15950] at b15951
        refine WP_aload_n dX10_rest_31 rfl ?_
        refine WQ_getim dX10_rest_32 fX10_263 rfl (lyx_is hy 0 10 rfl) ew15948 ?_
        refine WQ_bipush (60) (60) dX10_rest_35 rfl rfl (fun v15952 hv15952 => ?_)
        refine WQ_icmp_ge 70 dX10_rest_37 rfl (fun c15952 => ?_) (fun c15952 => ?_)
        · refine WP_iload_n dX10_rest_70 rfl ?_
          have jn79_15956 : ∀ (v15956 : Int32), 0 ≤ v15956.toInt → v15956.toInt ≤ 1 → WP g mX10_rest 79 [(0, .ref (ad g 0)), (1, .int a), (2, .int i15945)] [.int v15956] I15946 J15947 RI15946 (fun r I' J' R' => (XI g n L I' ∧ (RfX g R' ∧ (R' (ad g 5) 0 = R (ad g 5) 0 ∧ R' (ad g 0) 10 = R (ad g 0) 10) ∧ NL g R') ∧ fz 74 g [0, 22, 43, 44, 47, 48, 50, 51, 52, 56, 57, 58] I I' ∧ fz 74 g [45, 46, 56] J J') ∧ ∃ v : Int32, r = some (.int v)) := by
            intro v15956 av15956 bv15956
            exact WP_iret dX10_rest_79 rfl ⟨⟨hI15946, ⟨hrI15946, ⟨hTI15946.trans hT.symm, hSI15946⟩, hPI15946⟩, fiI15946, fjJ15947⟩, _, rfl⟩
          refine WQ_if_eq 78 dX10_rest_71 rfl (fun c15957 => ?_) (fun c15957 => ?_)
          · refine WQ_iconst (0) (0) dX10_rest_78 rfl rfl (fun v15959 hv15959 => ?_)
            exact WP_sub (fc rfl (fc rfl (fc rfl fn))) (jn79_15956 v15959 (by omega) (by omega))
          · refine WQ_iconst (1) (1) dX10_rest_74 rfl rfl (fun v15960 hv15960 => ?_)
            refine WP_goto 79 dX10_rest_75 rfl ?_
            exact WP_sub (fc rfl (fc rfl (fc rfl fn))) (jn79_15956 v15960 (by omega) (by omega))
        · refine WP_iload_n dX10_rest_40 rfl ?_
          refine WQ_if_ne 70 dX10_rest_41 rfl (fun c15960 => ?_) (fun c15960 => ?_)
          · refine WP_iload_n dX10_rest_70 rfl ?_
            have jn79_15963 : ∀ (v15963 : Int32), 1 ≤ v15963.toInt → v15963.toInt ≤ 1 → WP g mX10_rest 79 [(0, .ref (ad g 0)), (1, .int a), (2, .int i15945)] [.int v15963] I15946 J15947 RI15946 (fun r I' J' R' => (XI g n L I' ∧ (RfX g R' ∧ (R' (ad g 5) 0 = R (ad g 5) 0 ∧ R' (ad g 0) 10 = R (ad g 0) 10) ∧ NL g R') ∧ fz 74 g [0, 22, 43, 44, 47, 48, 50, 51, 52, 56, 57, 58] I I' ∧ fz 74 g [45, 46, 56] J J') ∧ ∃ v : Int32, r = some (.int v)) := by
              intro v15963 av15963 bv15963
              exact WP_iret dX10_rest_79 rfl ⟨⟨hI15946, ⟨hrI15946, ⟨hTI15946.trans hT.symm, hSI15946⟩, hPI15946⟩, fiI15946, fjJ15947⟩, _, rfl⟩
            refine WQ_if_eq 78 dX10_rest_71 rfl (fun c15964 => False.elim (by omega)) (fun c15964 => ?_)
            refine WQ_iconst (1) (1) dX10_rest_74 rfl rfl (fun v15966 hv15966 => ?_)
            refine WP_goto 79 dX10_rest_75 rfl ?_
            exact WP_sub (fc rfl (fc rfl (fc rfl fn))) (jn79_15963 v15966 (by omega) (by omega))
          · refine WP_aload_n dX10_rest_44 rfl ?_
            refine WP_dup dX10_rest_45 rfl ?_
            refine WQ_getim dX10_rest_46 fX10_263 rfl (lyx_is hy 0 10 rfl) ew15948 ?_
            refine WQ_iconst (1) (1) dX10_rest_49 rfl rfl (fun v15967 hv15967 => ?_)
            refine WQ_iadd dX10_rest_50 (by omega) (by omega) (fun v15968 hv15968 => ?_)
            refine WQ_puti dX10_rest_51 fX10_263 rfl rfl (lyx_is hy 0 10 rfl) (fun I15969 eI15969 => ?_)
            have hI15969 : XI g n L I15969 := by rw [eI15969]; exact (xi_f0 hy hI15946 (c := 0) (by decide) (Or.inl (by decide)) (by decide))
            have e15970 : I15969 (ad g 1) 1 = L := by rw [eI15969, pp_ne _ _ (Or.inl (lyx_ne hy (by decide) (by decide) (by decide)))]; exact e15950
            have e15971 : I15969 (ad g 0) 11 = v15968 := by rw [eI15969, pp_self]
            have fr15972 : fz 74 g [0, 22, 43, 44, 47, 48, 50, 51, 52, 56, 57, 58] I I15969 := by rw [eI15969]; exact fzx_pp hy fiI15946 (by decide) (by decide)
            clear eI15969
            refine WP_aload_n dX10_rest_54 rfl ?_
            refine WP_callV0 (k := 10) dX10_rest_55 ⟨⟨⟨by decide, by decide⟩, zX10_turnChanges⟩, lX10_266, by decide, rfl, vX10_turnChanges.1, vX10_turnChanges.2⟩ (lyx_is hy 0 10 rfl) (sx_turnChanges_27 hy hrI15946 hPI15946 hTI15946 hI15969   (by omega)) (Nat.le_of_ble_eq_true rfl) ?_
            intro r I15973 J15974 R15975 hq
            obtain ⟨⟨hI15973, ⟨hrI15973, ⟨htI15973, hsI15973⟩, hpI15973⟩, fiI15973, fjI15973⟩, v15976, rfl, av15976, bv15976⟩ := hq
            show WP _ _ _ _ (.int _ :: _) _ _ _ _
            have ht_I15973 := htI15973.trans hTI15946
            have hs_I15973 : R15975 (ad g 0) 10 = R (ad g 0) 10 := hsI15973.trans hSI15946
            have fr15977 : fz 74 g [0, 22, 43, 44, 47, 48, 50, 51, 52, 56, 57, 58] I I15973 := fz_tr fr15972 (fz_mono fiI15973 (by decide))
            have fr15978 : fz 74 g [45, 46, 56] J J15974 := fz_tr fjJ15947 (fz_mono fjI15973 (by decide))
            have e15979 : I15973 (ad g 0) 11 = v15968 := by rw [fz_at fiI15973 0 (by decide) (by decide)]; exact e15971
            have e15980 : I15973 (ad g 1) 1 = L := hI15973.2
            have b15981 := BT_get hI15973.1 1 1 2 (0) (0) (900) (by decide) 1 (by decide) (by decide)
            rw [e15980] at b15981
            have jn66_15984 : ∀ (v15984 : Int32), 0 ≤ v15984.toInt → v15984.toInt ≤ 1 → WP g mX10_rest 66 [(0, .ref (ad g 0)), (1, .int a), (2, .int i15945)] [.int v15984] I15973 J15974 R15975 (fun r I' J' R' => (XI g n L I' ∧ (RfX g R' ∧ (R' (ad g 5) 0 = R (ad g 5) 0 ∧ R' (ad g 0) 10 = R (ad g 0) 10) ∧ NL g R') ∧ fz 74 g [0, 22, 43, 44, 47, 48, 50, 51, 52, 56, 57, 58] I I' ∧ fz 74 g [45, 46, 56] J J') ∧ ∃ v : Int32, r = some (.int v)) := by
              intro v15984 av15984 bv15984
              refine WP_istore_n (ls' := [(0, _), (1, _), (2, _)]) dX10_rest_66 (by decide) rfl ?_
              refine WP_goto 31 dX10_rest_67 rfl ?_
              exact WP_sub (fc rfl (fc rfl (fc rfl fn))) (ihlp31_15948 v15984 I15973 J15974 R15975 hrI15973 ht_I15973 hs_I15973 hpI15973 hI15973 fr15977 fr15978 v15968 e15979 (by omega) (by omega) (by omega) (by omega) (by omega))
            refine WQ_if_ne 65 dX10_rest_58 rfl (fun c15985 => ?_) (fun c15985 => ?_)
            · refine WQ_iconst (0) (0) dX10_rest_65 rfl rfl (fun v15987 hv15987 => ?_)
              exact WP_sub (fc rfl (fc rfl (fc rfl fn))) (jn66_15984 v15987 (by omega) (by omega))
            · refine WQ_iconst (1) (1) dX10_rest_61 rfl rfl (fun v15988 hv15988 => ?_)
              refine WP_goto 66 dX10_rest_62 rfl ?_
              exact WP_sub (fc rfl (fc rfl (fc rfl fn))) (jn66_15984 v15988 (by omega) (by omega))
    exact WP_sub (fc rfl (fc rfl (fc rfl fn))) (lp31_15948 _ v15939 I15941 J R hr hT rfl hP hI15941 fr15944 frj0 v15940 e15943 (by omega) (by omega) (by omega) (by omega) (Nat.lt_succ_self _))
  · refine WP_iload_n dX10_rest_4 rfl ?_
    refine WQ_iconst (1) (1) dX10_rest_5 rfl rfl (fun v15989 hv15989 => ?_)
    refine WQ_icmp_eq 12 dX10_rest_6 rfl (fun c15989 => ?_) (fun c15989 => ?_)
    · refine WP_iload_n dX10_rest_12 rfl ?_
      refine WQ_iconst (1) (1) dX10_rest_13 rfl rfl (fun v15991 hv15991 => ?_)
      refine WQ_icmp_ne 24 dX10_rest_14 rfl (fun c15991 => False.elim (by omega)) (fun c15991 => ?_)
      refine WP_aload_n dX10_rest_17 rfl ?_
      refine WP_getr dX10_rest_18 fX10_33 rfl (lyx_is hy 0 10 rfl) (rfx hr 0 2 5 (by decide)) ?_
      refine WP_callV0 (k := 0) dX10_rest_21 ⟨⟨⟨by decide, by decide⟩, zX0_pricesAsTold⟩, lX10_260, by decide, rfl, vX0_pricesAsTold.1, vX0_pricesAsTold.2⟩ (lyx_is hy 5 0 rfl) (sx_pricesAsTold_27 hy hr hT hI  ) (Nat.le_of_ble_eq_true rfl) ?_
      intro r I15993 J15994 Ra hq
      obtain ⟨⟨hI15993, ec, fiI15993, fjI15993⟩, rfl⟩ := hq
      rw [ec]
      clear ec Ra
      have fr15995 : fz 74 g [0, 22, 43, 44, 47, 48, 50, 51, 52, 56, 57, 58] I I15993 := fz_tr fr0 (fz_mono fiI15993 (by decide))
      have fr15996 : fz 74 g [45, 46, 56] J J15994 := fz_tr frj0 (fz_mono fjI15993 (by decide))
      have e15997 : I15993 (ad g 1) 1 = L := hI15993.2
      have b15998 := BT_get hI15993.1 1 1 2 (0) (0) (900) (by decide) 1 (by decide) (by decide)
      rw [e15997] at b15998
      refine WQ_iconst (0) (0) dX10_rest_24 rfl rfl (fun v15999 hv15999 => ?_)
      refine WP_istore_n (ls' := [(0, _), (1, _), (2, _)]) dX10_rest_25 (by decide) rfl ?_
      refine WP_aload_n dX10_rest_26 rfl ?_
      refine WQ_iconst (0) (0) dX10_rest_27 rfl rfl (fun v16000 hv16000 => ?_)
      refine WQ_puti dX10_rest_28 fX10_263 rfl rfl (lyx_is hy 0 10 rfl) (fun I16001 eI16001 => ?_)
      have hI16001 : XI g n L I16001 := by rw [eI16001]; exact (xi_f0 hy hI15993 (c := 0) (by decide) (Or.inl (by decide)) (by decide))
      have e16002 : I16001 (ad g 1) 1 = L := by rw [eI16001, pp_ne _ _ (Or.inl (lyx_ne hy (by decide) (by decide) (by decide)))]; exact e15997
      have e16003 : I16001 (ad g 0) 11 = v16000 := by rw [eI16001, pp_self]
      have fr16004 : fz 74 g [0, 22, 43, 44, 47, 48, 50, 51, 52, 56, 57, 58] I I16001 := by rw [eI16001]; exact fzx_pp hy fr15995 (by decide) (by decide)
      clear eI16001
      have lp31_16008 : ∀ (mz : Nat) (i16005 : Int32) (I16006 : pI) (J16007 : pJ) (RI16006 : pR), RfX g RI16006 → RI16006 (ad g 5) 0 = some (ad g 27) → RI16006 (ad g 0) 10 = R (ad g 0) 10 → NL g RI16006 → XI g n L I16006 → fz 74 g [0, 22, 43, 44, 47, 48, 50, 51, 52, 56, 57, 58] I I16006 → fz 74 g [45, 46, 56] J J16007 → ∀ (w16008 : Int32), I16006 (ad g 0) 11 = w16008 → 0 ≤ i16005.toInt → i16005.toInt ≤ 1 → 0 ≤ w16008.toInt → w16008.toInt ≤ 60 → (61 - w16008.toInt).toNat < mz → WP g mX10_rest 31 [(0, .ref (ad g 0)), (1, .int a), (2, .int i16005)] [] I16006 J16007 RI16006 (fun r I' J' R' => (XI g n L I' ∧ (RfX g R' ∧ (R' (ad g 5) 0 = R (ad g 5) 0 ∧ R' (ad g 0) 10 = R (ad g 0) 10) ∧ NL g R') ∧ fz 74 g [0, 22, 43, 44, 47, 48, 50, 51, 52, 56, 57, 58] I I' ∧ fz 74 g [45, 46, 56] J J') ∧ ∃ v : Int32, r = some (.int v)) := by
        intro mz
        induction mz with
        | zero =>
          intro i16005 I16006 J16007 RI16006 hrI16006 hTI16006 hSI16006 hPI16006 hI16006 fiI16006 fjJ16007 w16008 ew16008 ai16005 bi16005 j0_I16006 j1_I16006 hmlp31_16008
          exact absurd hmlp31_16008 (Nat.not_lt_zero _)
        | succ mz ihlp31_16008 =>
          intro i16005 I16006 J16007 RI16006 hrI16006 hTI16006 hSI16006 hPI16006 hI16006 fiI16006 fjJ16007 w16008 ew16008 ai16005 bi16005 j0_I16006 j1_I16006 hmlp31_16008
          have e16010 : I16006 (ad g 1) 1 = L := hI16006.2
          have b16011 := BT_get hI16006.1 1 1 2 (0) (0) (900) (by decide) 1 (by decide) (by decide)
          rw [e16010] at b16011
          refine WP_aload_n dX10_rest_31 rfl ?_
          refine WQ_getim dX10_rest_32 fX10_263 rfl (lyx_is hy 0 10 rfl) ew16008 ?_
          refine WQ_bipush (60) (60) dX10_rest_35 rfl rfl (fun v16012 hv16012 => ?_)
          refine WQ_icmp_ge 70 dX10_rest_37 rfl (fun c16012 => ?_) (fun c16012 => ?_)
          · refine WP_iload_n dX10_rest_70 rfl ?_
            have jn79_16016 : ∀ (v16016 : Int32), 0 ≤ v16016.toInt → v16016.toInt ≤ 1 → WP g mX10_rest 79 [(0, .ref (ad g 0)), (1, .int a), (2, .int i16005)] [.int v16016] I16006 J16007 RI16006 (fun r I' J' R' => (XI g n L I' ∧ (RfX g R' ∧ (R' (ad g 5) 0 = R (ad g 5) 0 ∧ R' (ad g 0) 10 = R (ad g 0) 10) ∧ NL g R') ∧ fz 74 g [0, 22, 43, 44, 47, 48, 50, 51, 52, 56, 57, 58] I I' ∧ fz 74 g [45, 46, 56] J J') ∧ ∃ v : Int32, r = some (.int v)) := by
              intro v16016 av16016 bv16016
              exact WP_iret dX10_rest_79 rfl ⟨⟨hI16006, ⟨hrI16006, ⟨hTI16006.trans hT.symm, hSI16006⟩, hPI16006⟩, fiI16006, fjJ16007⟩, _, rfl⟩
            refine WQ_if_eq 78 dX10_rest_71 rfl (fun c16017 => ?_) (fun c16017 => ?_)
            · refine WQ_iconst (0) (0) dX10_rest_78 rfl rfl (fun v16019 hv16019 => ?_)
              exact WP_sub (fc rfl (fc rfl (fc rfl fn))) (jn79_16016 v16019 (by omega) (by omega))
            · refine WQ_iconst (1) (1) dX10_rest_74 rfl rfl (fun v16020 hv16020 => ?_)
              refine WP_goto 79 dX10_rest_75 rfl ?_
              exact WP_sub (fc rfl (fc rfl (fc rfl fn))) (jn79_16016 v16020 (by omega) (by omega))
          · refine WP_iload_n dX10_rest_40 rfl ?_
            refine WQ_if_ne 70 dX10_rest_41 rfl (fun c16020 => ?_) (fun c16020 => ?_)
            · refine WP_iload_n dX10_rest_70 rfl ?_
              have jn79_16023 : ∀ (v16023 : Int32), 1 ≤ v16023.toInt → v16023.toInt ≤ 1 → WP g mX10_rest 79 [(0, .ref (ad g 0)), (1, .int a), (2, .int i16005)] [.int v16023] I16006 J16007 RI16006 (fun r I' J' R' => (XI g n L I' ∧ (RfX g R' ∧ (R' (ad g 5) 0 = R (ad g 5) 0 ∧ R' (ad g 0) 10 = R (ad g 0) 10) ∧ NL g R') ∧ fz 74 g [0, 22, 43, 44, 47, 48, 50, 51, 52, 56, 57, 58] I I' ∧ fz 74 g [45, 46, 56] J J') ∧ ∃ v : Int32, r = some (.int v)) := by
                intro v16023 av16023 bv16023
                exact WP_iret dX10_rest_79 rfl ⟨⟨hI16006, ⟨hrI16006, ⟨hTI16006.trans hT.symm, hSI16006⟩, hPI16006⟩, fiI16006, fjJ16007⟩, _, rfl⟩
              refine WQ_if_eq 78 dX10_rest_71 rfl (fun c16024 => False.elim (by omega)) (fun c16024 => ?_)
              refine WQ_iconst (1) (1) dX10_rest_74 rfl rfl (fun v16026 hv16026 => ?_)
              refine WP_goto 79 dX10_rest_75 rfl ?_
              exact WP_sub (fc rfl (fc rfl (fc rfl fn))) (jn79_16023 v16026 (by omega) (by omega))
            · refine WP_aload_n dX10_rest_44 rfl ?_
              refine WP_dup dX10_rest_45 rfl ?_
              refine WQ_getim dX10_rest_46 fX10_263 rfl (lyx_is hy 0 10 rfl) ew16008 ?_
              refine WQ_iconst (1) (1) dX10_rest_49 rfl rfl (fun v16027 hv16027 => ?_)
              refine WQ_iadd dX10_rest_50 (by omega) (by omega) (fun v16028 hv16028 => ?_)
              refine WQ_puti dX10_rest_51 fX10_263 rfl rfl (lyx_is hy 0 10 rfl) (fun I16029 eI16029 => ?_)
              have hI16029 : XI g n L I16029 := by rw [eI16029]; exact (xi_f0 hy hI16006 (c := 0) (by decide) (Or.inl (by decide)) (by decide))
              have e16030 : I16029 (ad g 1) 1 = L := by rw [eI16029, pp_ne _ _ (Or.inl (lyx_ne hy (by decide) (by decide) (by decide)))]; exact e16010
              have e16031 : I16029 (ad g 0) 11 = v16028 := by rw [eI16029, pp_self]
              have fr16032 : fz 74 g [0, 22, 43, 44, 47, 48, 50, 51, 52, 56, 57, 58] I I16029 := by rw [eI16029]; exact fzx_pp hy fiI16006 (by decide) (by decide)
              clear eI16029
              refine WP_aload_n dX10_rest_54 rfl ?_
              refine WP_callV0 (k := 10) dX10_rest_55 ⟨⟨⟨by decide, by decide⟩, zX10_turnChanges⟩, lX10_266, by decide, rfl, vX10_turnChanges.1, vX10_turnChanges.2⟩ (lyx_is hy 0 10 rfl) (sx_turnChanges_27 hy hrI16006 hPI16006 hTI16006 hI16029   (by omega)) (Nat.le_of_ble_eq_true rfl) ?_
              intro r I16033 J16034 R16035 hq
              obtain ⟨⟨hI16033, ⟨hrI16033, ⟨htI16033, hsI16033⟩, hpI16033⟩, fiI16033, fjI16033⟩, v16036, rfl, av16036, bv16036⟩ := hq
              show WP _ _ _ _ (.int _ :: _) _ _ _ _
              have ht_I16033 := htI16033.trans hTI16006
              have hs_I16033 : R16035 (ad g 0) 10 = R (ad g 0) 10 := hsI16033.trans hSI16006
              have fr16037 : fz 74 g [0, 22, 43, 44, 47, 48, 50, 51, 52, 56, 57, 58] I I16033 := fz_tr fr16032 (fz_mono fiI16033 (by decide))
              have fr16038 : fz 74 g [45, 46, 56] J J16034 := fz_tr fjJ16007 (fz_mono fjI16033 (by decide))
              have e16039 : I16033 (ad g 0) 11 = v16028 := by rw [fz_at fiI16033 0 (by decide) (by decide)]; exact e16031
              have e16040 : I16033 (ad g 1) 1 = L := hI16033.2
              have b16041 := BT_get hI16033.1 1 1 2 (0) (0) (900) (by decide) 1 (by decide) (by decide)
              rw [e16040] at b16041
              have jn66_16044 : ∀ (v16044 : Int32), 0 ≤ v16044.toInt → v16044.toInt ≤ 1 → WP g mX10_rest 66 [(0, .ref (ad g 0)), (1, .int a), (2, .int i16005)] [.int v16044] I16033 J16034 R16035 (fun r I' J' R' => (XI g n L I' ∧ (RfX g R' ∧ (R' (ad g 5) 0 = R (ad g 5) 0 ∧ R' (ad g 0) 10 = R (ad g 0) 10) ∧ NL g R') ∧ fz 74 g [0, 22, 43, 44, 47, 48, 50, 51, 52, 56, 57, 58] I I' ∧ fz 74 g [45, 46, 56] J J') ∧ ∃ v : Int32, r = some (.int v)) := by
                intro v16044 av16044 bv16044
                refine WP_istore_n (ls' := [(0, _), (1, _), (2, _)]) dX10_rest_66 (by decide) rfl ?_
                refine WP_goto 31 dX10_rest_67 rfl ?_
                exact WP_sub (fc rfl (fc rfl (fc rfl fn))) (ihlp31_16008 v16044 I16033 J16034 R16035 hrI16033 ht_I16033 hs_I16033 hpI16033 hI16033 fr16037 fr16038 v16028 e16039 (by omega) (by omega) (by omega) (by omega) (by omega))
              refine WQ_if_ne 65 dX10_rest_58 rfl (fun c16045 => ?_) (fun c16045 => ?_)
              · refine WQ_iconst (0) (0) dX10_rest_65 rfl rfl (fun v16047 hv16047 => ?_)
                exact WP_sub (fc rfl (fc rfl (fc rfl fn))) (jn66_16044 v16047 (by omega) (by omega))
              · refine WQ_iconst (1) (1) dX10_rest_61 rfl rfl (fun v16048 hv16048 => ?_)
                refine WP_goto 66 dX10_rest_62 rfl ?_
                exact WP_sub (fc rfl (fc rfl (fc rfl fn))) (jn66_16044 v16048 (by omega) (by omega))
      exact WP_sub (fc rfl (fc rfl (fc rfl fn))) (lp31_16008 _ v15999 I16001 J15994 R hr hT rfl hP hI16001 fr16004 fr15996 v16000 e16003 (by omega) (by omega) (by omega) (by omega) (Nat.lt_succ_self _))
    · refine WQ_bipush (-2) (-2) dX10_rest_9 rfl rfl (fun v16049 hv16049 => ?_)
      exact WP_iret dX10_rest_11 rfl ⟨⟨hI, ⟨hr, ⟨hT.trans hT.symm, rfl⟩, hP⟩, fr0, frj0⟩, _, rfl⟩
set_option maxHeartbeats 4000000 in
set_option maxRecDepth 100000 in
theorem sx_best_27 {g : GG} {n : Int} {L : Int32} (hy : LyX g)  {I : pI} {J : pJ} {R : pR} (hr : RfX g R) (hP : NL g R) (hT : R (ad g 5) 0 = some (ad g 27)) (hI : XI g n L I) (a : Int32) (b : Int32) (c : Int32) (e : Int32) (k : Int32)  : SP g mX10_best [.ref (ad g 0), .int a, .int b, .int c, .int e, .int k] I J R (fun r I' J' R' => (XI g n L I' ∧ (RfX g R' ∧ (R' (ad g 5) 0 = R (ad g 5) 0 ∧ R' (ad g 0) 10 = R (ad g 0) 10) ∧ NL g R') ∧ fz 74 g [43, 44, 47, 48] I I' ∧ fz 74 g [45, 46] J J') ∧ ∃ v : Int32, r = some (.int v)) := by
  refine SP_of ⟨by decide, rfl⟩ (Nat.le_of_ble_eq_true rfl) ?_
  have e16050 : I (ad g 1) 1 = L := hI.2
  have b16051 := BT_get hI.1 1 1 2 (0) (0) (900) (by decide) 1 (by decide) (by decide)
  rw [e16050] at b16051
  have fr0 : fz 74 g [43, 44, 47, 48] I I := fz_rf
  have frj0 : fz 74 g [45, 46] J J := fz_rf
  refine WP_aload_n dX10_best_0 rfl ?_
  refine WP_iload_n dX10_best_1 rfl ?_
  refine WP_iload_n dX10_best_2 rfl ?_
  refine WP_iload_n dX10_best_3 rfl ?_
  refine WP_iload dX10_best_4 rfl ?_
  refine WP_callV4 (k := 10) dX10_best_6 ⟨⟨⟨by decide, by decide⟩, zX10_isPerson⟩, lX10_188, by decide, rfl, vX10_isPerson.1, vX10_isPerson.2⟩ (lyx_is hy 0 10 rfl) (sx_isPerson_27 hy hr hT hI a b c e    ) (Nat.le_of_ble_eq_true rfl) ?_
  intro r Ia Ja Ra hq
  obtain ⟨⟨ea, eb, ec⟩, v16052, rfl, av16052, bv16052, cv16052⟩ := hq
  show WP _ _ _ _ (.int _ :: _) _ _ _ _
  rw [ea, eb, ec]
  clear ea eb ec Ia Ja Ra
  refine WQ_if_eq 23 dX10_best_9 rfl (fun c16052 => ?_) (fun c16052 => ?_)
  · refine WQ_bipush (-2) (-2) dX10_best_23 rfl rfl (fun v16054 hv16054 => ?_)
    exact WP_iret dX10_best_25 rfl ⟨⟨hI, ⟨hr, ⟨hT.trans hT.symm, rfl⟩, hP⟩, fr0, frj0⟩, _, rfl⟩
  · refine WP_iload dX10_best_12 rfl ?_
    refine WQ_iconst (0) (0) dX10_best_14 rfl rfl (fun v16055 hv16055 => ?_)
    refine WQ_bipush (28) (28) dX10_best_15 rfl rfl (fun v16056 hv16056 => ?_)
    refine WP_callS3 dX10_best_17 ⟨⟨⟨by decide, by decide⟩, zX10_within⟩, lX10_206, tX10_within⟩ (sx_within hy hr hI k v16055 v16056   ) (Nat.le_of_ble_eq_true rfl) ?_
    intro r Ia Ja Ra hq
    obtain ⟨⟨ea, eb, ec⟩, v16057, rfl, av16057, bv16057, cv16057⟩ := hq
    show WP _ _ _ _ (.int _ :: _) _ _ _ _
    rw [ea, eb, ec]
    clear ea eb ec Ia Ja Ra
    refine WQ_if_ne 26 dX10_best_20 rfl (fun c16057 => ?_) (fun c16057 => ?_)
    · refine WP_iload dX10_best_26 rfl ?_
      refine WQ_if_ne 33 dX10_best_28 rfl (fun c16058 => ?_) (fun c16058 => ?_)
      · refine WP_aload_n dX10_best_33 rfl ?_
        refine WP_getr dX10_best_34 fX10_46 rfl (lyx_is hy 0 10 rfl) (rfx hr 0 3 43 (by decide)) ?_
        refine WP_iload_n dX10_best_37 rfl ?_
        refine WP_iload_n dX10_best_38 rfl ?_
        refine WP_aload_n dX10_best_39 rfl ?_
        refine WP_getr dX10_best_40 fX10_33 rfl (lyx_is hy 0 10 rfl) (rfx hr 0 2 5 (by decide)) ?_
        refine WP_iload_n dX10_best_43 rfl ?_
        refine WP_iload_n dX10_best_44 rfl ?_
        refine WP_iload_n dX10_best_45 rfl ?_
        refine WP_callV3 (k := 0) dX10_best_46 ⟨⟨⟨by decide, by decide⟩, zX0_earned⟩, lX10_209, by decide, rfl, vX0_earned.1, vX0_earned.2⟩ (lyx_is hy 5 0 rfl) (sx_earned_27 hy hr hT hI a b c (by omega) (by omega) (by omega) (by omega) (by omega) (by omega)) (Nat.le_of_ble_eq_true rfl) ?_
        intro r Ia Ja Ra hq
        obtain ⟨⟨ea, eb, ec⟩, v16060, rfl, av16060, bv16060, cv16060⟩ := hq
        show WP _ _ _ _ (.int _ :: _) _ _ _ _
        rw [ea, eb, ec]
        clear ea eb ec Ia Ja Ra
        refine WP_iload dX10_best_49 rfl ?_
        refine WP_iload dX10_best_51 rfl ?_
        refine WP_callV5 (k := 2) dX10_best_53 ⟨⟨⟨by decide, by decide⟩, zX2_search⟩, lX10_212, by decide, rfl, vX2_search.1, vX2_search.2⟩ (lyx_is hy 43 2 rfl) (sx_searchx_27 hy hr hP hT hI a b v16060 e k (by omega) (by omega) (by omega) (by omega) (by omega) (by omega) (by omega) (by omega) (by omega) (by omega)) (Nat.le_of_ble_eq_true rfl) ?_
        intro r I16061 J16062 R16063 hq
        obtain ⟨⟨hI16061, ⟨hrI16061, ⟨htI16061, hsI16061⟩, hpI16061⟩, fiI16061, fjI16061⟩, v16064, rfl, av16064, bv16064, cv16064⟩ := hq
        show WP _ _ _ _ (.int _ :: _) _ _ _ _
        have ht_I16061 := htI16061.trans hT
        have hs_I16061 : R16063 (ad g 0) 10 = R (ad g 0) 10 := hsI16061.trans rfl
        have fr16065 : fz 74 g [43, 44, 47, 48] I I16061 := fz_tr fr0 (fz_mono fiI16061 (by decide))
        have fr16066 : fz 74 g [45, 46] J J16062 := fz_tr frj0 (fz_mono fjI16061 (by decide))
        have e16067 : I16061 (ad g 1) 1 = L := hI16061.2
        have b16068 := BT_get hI16061.1 1 1 2 (0) (0) (900) (by decide) 1 (by decide) (by decide)
        rw [e16067] at b16068
        refine WP_pop dX10_best_56 rfl ?_
        refine WP_aload_n dX10_best_57 rfl ?_
        refine WP_getr dX10_best_58 fX10_46 rfl (lyx_is hy 0 10 rfl) (rfx hrI16061 0 3 43 (by decide)) ?_
        refine WQ_getiu dX10_best_61 fX10_216 rfl (lyx_is hy 43 2 rfl) (fun v16069 ev16069 => ?_)
        exact WP_iret dX10_best_64 rfl ⟨⟨hI16061, ⟨hrI16061, ⟨ht_I16061.trans hT.symm, hs_I16061⟩, hpI16061⟩, fr16065, fr16066⟩, _, rfl⟩
      · refine WQ_iconst (0) (0) dX10_best_31 rfl rfl (fun v16070 hv16070 => ?_)
        exact WP_iret dX10_best_32 rfl ⟨⟨hI, ⟨hr, ⟨hT.trans hT.symm, rfl⟩, hP⟩, fr0, frj0⟩, _, rfl⟩
    · refine WQ_bipush (-2) (-2) dX10_best_23 rfl rfl (fun v16071 hv16071 => ?_)
      exact WP_iret dX10_best_25 rfl ⟨⟨hI, ⟨hr, ⟨hT.trans hT.symm, rfl⟩, hP⟩, fr0, frj0⟩, _, rfl⟩
set_option maxHeartbeats 4000000 in
set_option maxRecDepth 100000 in
theorem sx_bestAct_27 {g : GG} {n : Int} {L : Int32} (hy : LyX g)  {I : pI} {J : pJ} {R : pR} (hr : RfX g R) (hP : NL g R) (hT : R (ad g 5) 0 = some (ad g 27)) (hI : XI g n L I) (a : Int32) (b : Int32) (c : Int32) (e : Int32) (k : Int32)  : SP g mX10_bestAct [.ref (ad g 0), .int a, .int b, .int c, .int e, .int k] I J R (fun r I' J' R' => (XI g n L I' ∧ (RfX g R' ∧ (R' (ad g 5) 0 = R (ad g 5) 0 ∧ R' (ad g 0) 10 = R (ad g 0) 10) ∧ NL g R') ∧ fz 74 g [43, 44, 47, 48] I I' ∧ fz 74 g [45, 46] J J') ∧ ∃ v : Int32, r = some (.int v)) := by
  refine SP_of ⟨by decide, rfl⟩ (Nat.le_of_ble_eq_true rfl) ?_
  have e16072 : I (ad g 1) 1 = L := hI.2
  have b16073 := BT_get hI.1 1 1 2 (0) (0) (900) (by decide) 1 (by decide) (by decide)
  rw [e16072] at b16073
  have fr0 : fz 74 g [43, 44, 47, 48] I I := fz_rf
  have frj0 : fz 74 g [45, 46] J J := fz_rf
  refine WP_aload_n dX10_bestAct_0 rfl ?_
  refine WP_iload_n dX10_bestAct_1 rfl ?_
  refine WP_iload_n dX10_bestAct_2 rfl ?_
  refine WP_iload_n dX10_bestAct_3 rfl ?_
  refine WP_iload dX10_bestAct_4 rfl ?_
  refine WP_callV4 (k := 10) dX10_bestAct_6 ⟨⟨⟨by decide, by decide⟩, zX10_isPerson⟩, lX10_188, by decide, rfl, vX10_isPerson.1, vX10_isPerson.2⟩ (lyx_is hy 0 10 rfl) (sx_isPerson_27 hy hr hT hI a b c e    ) (Nat.le_of_ble_eq_true rfl) ?_
  intro r Ia Ja Ra hq
  obtain ⟨⟨ea, eb, ec⟩, v16074, rfl, av16074, bv16074, cv16074⟩ := hq
  show WP _ _ _ _ (.int _ :: _) _ _ _ _
  rw [ea, eb, ec]
  clear ea eb ec Ia Ja Ra
  refine WQ_if_eq 23 dX10_bestAct_9 rfl (fun c16074 => ?_) (fun c16074 => ?_)
  · refine WQ_bipush (-2) (-2) dX10_bestAct_23 rfl rfl (fun v16076 hv16076 => ?_)
    exact WP_iret dX10_bestAct_25 rfl ⟨⟨hI, ⟨hr, ⟨hT.trans hT.symm, rfl⟩, hP⟩, fr0, frj0⟩, _, rfl⟩
  · refine WP_iload dX10_bestAct_12 rfl ?_
    refine WQ_iconst (0) (0) dX10_bestAct_14 rfl rfl (fun v16077 hv16077 => ?_)
    refine WQ_bipush (28) (28) dX10_bestAct_15 rfl rfl (fun v16078 hv16078 => ?_)
    refine WP_callS3 dX10_bestAct_17 ⟨⟨⟨by decide, by decide⟩, zX10_within⟩, lX10_206, tX10_within⟩ (sx_within hy hr hI k v16077 v16078   ) (Nat.le_of_ble_eq_true rfl) ?_
    intro r Ia Ja Ra hq
    obtain ⟨⟨ea, eb, ec⟩, v16079, rfl, av16079, bv16079, cv16079⟩ := hq
    show WP _ _ _ _ (.int _ :: _) _ _ _ _
    rw [ea, eb, ec]
    clear ea eb ec Ia Ja Ra
    refine WQ_if_ne 26 dX10_bestAct_20 rfl (fun c16079 => ?_) (fun c16079 => ?_)
    · refine WP_iload dX10_bestAct_26 rfl ?_
      refine WQ_if_ne 33 dX10_bestAct_28 rfl (fun c16080 => ?_) (fun c16080 => ?_)
      · refine WP_aload_n dX10_bestAct_33 rfl ?_
        refine WP_getr dX10_bestAct_34 fX10_46 rfl (lyx_is hy 0 10 rfl) (rfx hr 0 3 43 (by decide)) ?_
        refine WP_iload_n dX10_bestAct_37 rfl ?_
        refine WP_iload_n dX10_bestAct_38 rfl ?_
        refine WP_aload_n dX10_bestAct_39 rfl ?_
        refine WP_getr dX10_bestAct_40 fX10_33 rfl (lyx_is hy 0 10 rfl) (rfx hr 0 2 5 (by decide)) ?_
        refine WP_iload_n dX10_bestAct_43 rfl ?_
        refine WP_iload_n dX10_bestAct_44 rfl ?_
        refine WP_iload_n dX10_bestAct_45 rfl ?_
        refine WP_callV3 (k := 0) dX10_bestAct_46 ⟨⟨⟨by decide, by decide⟩, zX0_earned⟩, lX10_209, by decide, rfl, vX0_earned.1, vX0_earned.2⟩ (lyx_is hy 5 0 rfl) (sx_earned_27 hy hr hT hI a b c (by omega) (by omega) (by omega) (by omega) (by omega) (by omega)) (Nat.le_of_ble_eq_true rfl) ?_
        intro r Ia Ja Ra hq
        obtain ⟨⟨ea, eb, ec⟩, v16082, rfl, av16082, bv16082, cv16082⟩ := hq
        show WP _ _ _ _ (.int _ :: _) _ _ _ _
        rw [ea, eb, ec]
        clear ea eb ec Ia Ja Ra
        refine WP_iload dX10_bestAct_49 rfl ?_
        refine WP_iload dX10_bestAct_51 rfl ?_
        refine WP_callV5 (k := 2) dX10_bestAct_53 ⟨⟨⟨by decide, by decide⟩, zX2_search⟩, lX10_212, by decide, rfl, vX2_search.1, vX2_search.2⟩ (lyx_is hy 43 2 rfl) (sx_searchx_27 hy hr hP hT hI a b v16082 e k (by omega) (by omega) (by omega) (by omega) (by omega) (by omega) (by omega) (by omega) (by omega) (by omega)) (Nat.le_of_ble_eq_true rfl) ?_
        intro r I16083 J16084 R16085 hq
        obtain ⟨⟨hI16083, ⟨hrI16083, ⟨htI16083, hsI16083⟩, hpI16083⟩, fiI16083, fjI16083⟩, v16086, rfl, av16086, bv16086, cv16086⟩ := hq
        show WP _ _ _ _ (.int _ :: _) _ _ _ _
        have ht_I16083 := htI16083.trans hT
        have hs_I16083 : R16085 (ad g 0) 10 = R (ad g 0) 10 := hsI16083.trans rfl
        have fr16087 : fz 74 g [43, 44, 47, 48] I I16083 := fz_tr fr0 (fz_mono fiI16083 (by decide))
        have fr16088 : fz 74 g [45, 46] J J16084 := fz_tr frj0 (fz_mono fjI16083 (by decide))
        have e16089 : I16083 (ad g 1) 1 = L := hI16083.2
        have b16090 := BT_get hI16083.1 1 1 2 (0) (0) (900) (by decide) 1 (by decide) (by decide)
        rw [e16089] at b16090
        exact WP_iret dX10_bestAct_56 rfl ⟨⟨hI16083, ⟨hrI16083, ⟨ht_I16083.trans hT.symm, hs_I16083⟩, hpI16083⟩, fr16087, fr16088⟩, _, rfl⟩
      · refine WQ_iconst (-1) (-1) dX10_bestAct_31 rfl rfl (fun v16091 hv16091 => ?_)
        exact WP_iret dX10_bestAct_32 rfl ⟨⟨hI, ⟨hr, ⟨hT.trans hT.symm, rfl⟩, hP⟩, fr0, frj0⟩, _, rfl⟩
    · refine WQ_bipush (-2) (-2) dX10_bestAct_23 rfl rfl (fun v16092 hv16092 => ?_)
      exact WP_iret dX10_bestAct_25 rfl ⟨⟨hI, ⟨hr, ⟨hT.trans hT.symm, rfl⟩, hP⟩, fr0, frj0⟩, _, rfl⟩
set_option maxHeartbeats 4000000 in
set_option maxRecDepth 100000 in
theorem sx_wayAct_27 {g : GG} {n : Int} {L : Int32} (hy : LyX g)  {I : pI} {J : pJ} {R : pR} (hr : RfX g R) (hP : NL g R) (hT : R (ad g 5) 0 = some (ad g 27)) (hI : XI g n L I) (a : Int32) (b : Int32) (c : Int32) (e : Int32) (k : Int32)  : SP g mX10_wayAct [.ref (ad g 0), .int a, .int b, .int c, .int e, .int k] I J R (fun r I' J' R' => (XI g n L I' ∧ (RfX g R' ∧ (R' (ad g 5) 0 = R (ad g 5) 0 ∧ R' (ad g 0) 10 = R (ad g 0) 10) ∧ NL g R') ∧ fz 74 g [43, 44, 47, 48, 50] I I' ∧ fz 74 g [45, 46] J J') ∧ ∃ v : Int32, r = some (.int v)) := by
  refine SP_of ⟨by decide, rfl⟩ (Nat.le_of_ble_eq_true rfl) ?_
  have e16093 : I (ad g 1) 1 = L := hI.2
  have b16094 := BT_get hI.1 1 1 2 (0) (0) (900) (by decide) 1 (by decide) (by decide)
  rw [e16093] at b16094
  have fr0 : fz 74 g [43, 44, 47, 48, 50] I I := fz_rf
  have frj0 : fz 74 g [45, 46] J J := fz_rf
  refine WP_iload_n dX10_wayAct_0 rfl ?_
  refine WP_callS1 dX10_wayAct_1 ⟨⟨⟨by decide, by decide⟩, zX10_isWay⟩, lX10_219, tX10_isWay⟩ (sx_isWay hy hr hI a ) (Nat.le_of_ble_eq_true rfl) ?_
  intro r Ia Ja Ra hq
  obtain ⟨⟨ea, eb, ec⟩, v16095, rfl, av16095, bv16095, cv16095⟩ := hq
  show WP _ _ _ _ (.int _ :: _) _ _ _ _
  rw [ea, eb, ec]
  clear ea eb ec Ia Ja Ra
  refine WQ_if_eq 20 dX10_wayAct_4 rfl (fun c16095 => ?_) (fun c16095 => ?_)
  · refine WQ_bipush (-2) (-2) dX10_wayAct_20 rfl rfl (fun v16097 hv16097 => ?_)
    exact WP_iret dX10_wayAct_22 rfl ⟨⟨hI, ⟨hr, ⟨hT.trans hT.symm, rfl⟩, hP⟩, fr0, frj0⟩, _, rfl⟩
  · refine WP_aload_n dX10_wayAct_7 rfl ?_
    refine WP_iload_n dX10_wayAct_8 rfl ?_
    refine WP_iload_n dX10_wayAct_9 rfl ?_
    refine WP_iload dX10_wayAct_10 rfl ?_
    refine WP_iload dX10_wayAct_12 rfl ?_
    refine WP_callV4 (k := 10) dX10_wayAct_14 ⟨⟨⟨by decide, by decide⟩, zX10_isPerson⟩, lX10_188, by decide, rfl, vX10_isPerson.1, vX10_isPerson.2⟩ (lyx_is hy 0 10 rfl) (sx_isPerson_27 hy hr hT hI b c e k    ) (Nat.le_of_ble_eq_true rfl) ?_
    intro r Ia Ja Ra hq
    obtain ⟨⟨ea, eb, ec⟩, v16098, rfl, av16098, bv16098, cv16098⟩ := hq
    show WP _ _ _ _ (.int _ :: _) _ _ _ _
    rw [ea, eb, ec]
    clear ea eb ec Ia Ja Ra
    refine WQ_if_ne 23 dX10_wayAct_17 rfl (fun c16098 => ?_) (fun c16098 => ?_)
    · refine WP_iload_n dX10_wayAct_23 rfl ?_
      refine WQ_iconst (3) (3) dX10_wayAct_24 rfl rfl (fun v16100 hv16100 => ?_)
      refine WQ_icmp_ne 44 dX10_wayAct_25 rfl (fun c16100 => ?_) (fun c16100 => ?_)
      · refine WP_aload_n dX10_wayAct_44 rfl ?_
        refine WP_getr dX10_wayAct_45 fX10_55 rfl (lyx_is hy 0 10 rfl) (rfx hr 0 4 49 (by decide)) ?_
        refine WP_getr dX10_wayAct_48 fX10_192 rfl (lyx_is hy 49 9 rfl) (rfx hr 49 0 50 (by decide)) ?_
        refine WP_astore (ls' := [(0, _), (1, _), (2, _), (3, _), (4, _), (5, _), (6, _)]) dX10_wayAct_51 (by decide) rfl ?_
        refine WP_aload dX10_wayAct_53 rfl ?_
        refine WP_aload_n dX10_wayAct_55 rfl ?_
        refine WP_getr dX10_wayAct_56 fX10_33 rfl (lyx_is hy 0 10 rfl) (rfx hr 0 2 5 (by decide)) ?_
        refine WP_iload_n dX10_wayAct_59 rfl ?_
        refine WP_iload_n dX10_wayAct_60 rfl ?_
        refine WP_callV3 (k := 6) dX10_wayAct_61 ⟨⟨⟨by decide, by decide⟩, zX6_load⟩, lX10_196, by decide, rfl, vX6_load.1, vX6_load.2⟩ (lyx_is hy 50 6 rfl) (sx_loadx_50_27 hy hr hT hI b c (by omega) (by omega) (by omega) (by omega)) (Nat.le_of_ble_eq_true rfl) ?_
        intro r I16102 J16103 Ra hq
        obtain ⟨⟨hI16102, ec, fiI16102, ejI16102, pI16102⟩, rfl⟩ := hq
        rw [ec]
        clear ec Ra
        have fr16104 : fz 74 g [43, 44, 47, 48, 50] I I16102 := fz_tr fr0 (fz_mono fiI16102 (by decide))
        rw [ejI16102]
        clear ejI16102 J16103
        have e16105 : I16102 (ad g 1) 1 = L := hI16102.2
        have b16106 := BT_get hI16102.1 1 1 2 (0) (0) (900) (by decide) 1 (by decide) (by decide)
        rw [e16105] at b16106
        refine WP_aload dX10_wayAct_64 rfl ?_
        refine WP_iload_n dX10_wayAct_66 rfl ?_
        refine WP_iload dX10_wayAct_67 rfl ?_
        refine WP_iload dX10_wayAct_69 rfl ?_
        refine WP_callV3 (k := 6) dX10_wayAct_71 ⟨⟨⟨by decide, by decide⟩, zX6_habit⟩, lX10_222, by decide, rfl, vX6_habit.1, vX6_habit.2⟩ (lyx_is hy 50 6 rfl) (sx_habita hy hr hI16102 a e k  (by omega) (by omega) (by omega) (by omega)) (Nat.le_of_ble_eq_true rfl) ?_
        intro r Ia Ja Ra hq
        obtain ⟨⟨ea, eb, ec⟩, v16107, rfl, av16107, bv16107, cv16107⟩ := hq
        show WP _ _ _ _ (.int _ :: _) _ _ _ _
        rw [ea, eb, ec]
        clear ea eb ec Ia Ja Ra
        exact WP_iret dX10_wayAct_74 rfl ⟨⟨hI16102, ⟨hr, ⟨hT.trans hT.symm, rfl⟩, hP⟩, fr16104, frj0⟩, _, rfl⟩
      · refine WP_aload_n dX10_wayAct_28 rfl ?_
        refine WP_getr dX10_wayAct_29 fX10_46 rfl (lyx_is hy 0 10 rfl) (rfx hr 0 3 43 (by decide)) ?_
        refine WP_iload_n dX10_wayAct_32 rfl ?_
        refine WP_iload_n dX10_wayAct_33 rfl ?_
        refine WP_iload dX10_wayAct_34 rfl ?_
        refine WP_iload dX10_wayAct_36 rfl ?_
        refine WQ_bipush (7) (7) dX10_wayAct_38 rfl rfl (fun v16108 hv16108 => ?_)
        refine WP_callV5 (k := 2) dX10_wayAct_40 ⟨⟨⟨by decide, by decide⟩, zX2_search⟩, lX10_212, by decide, rfl, vX2_search.1, vX2_search.2⟩ (lyx_is hy 43 2 rfl) (sx_searchx_27 hy hr hP hT hI b c e k v16108 (by omega) (by omega) (by omega) (by omega) (by omega) (by omega) (by omega) (by omega) (by omega) (by omega)) (Nat.le_of_ble_eq_true rfl) ?_
        intro r I16109 J16110 R16111 hq
        obtain ⟨⟨hI16109, ⟨hrI16109, ⟨htI16109, hsI16109⟩, hpI16109⟩, fiI16109, fjI16109⟩, v16112, rfl, av16112, bv16112, cv16112⟩ := hq
        show WP _ _ _ _ (.int _ :: _) _ _ _ _
        have ht_I16109 := htI16109.trans hT
        have hs_I16109 : R16111 (ad g 0) 10 = R (ad g 0) 10 := hsI16109.trans rfl
        have fr16113 : fz 74 g [43, 44, 47, 48, 50] I I16109 := fz_tr fr0 (fz_mono fiI16109 (by decide))
        have fr16114 : fz 74 g [45, 46] J J16110 := fz_tr frj0 (fz_mono fjI16109 (by decide))
        have e16115 : I16109 (ad g 1) 1 = L := hI16109.2
        have b16116 := BT_get hI16109.1 1 1 2 (0) (0) (900) (by decide) 1 (by decide) (by decide)
        rw [e16115] at b16116
        exact WP_iret dX10_wayAct_43 rfl ⟨⟨hI16109, ⟨hrI16109, ⟨ht_I16109.trans hT.symm, hs_I16109⟩, hpI16109⟩, fr16113, fr16114⟩, _, rfl⟩
    · refine WQ_bipush (-2) (-2) dX10_wayAct_20 rfl rfl (fun v16117 hv16117 => ?_)
      exact WP_iret dX10_wayAct_22 rfl ⟨⟨hI, ⟨hr, ⟨hT.trans hT.symm, rfl⟩, hP⟩, fr0, frj0⟩, _, rfl⟩
