set_option maxHeartbeats 4000000 in
set_option maxRecDepth 100000 in
theorem sx_pass_6 {g : GG} {n : Int} {L : Int32} (hy : LyX g)  {I : pI} {J : pJ} {R : pR} (hr : RfX g R) (hP : NL g R) (hT : R (ad g 5) 0 = some (ad g 6)) (hI : XI g n L I) (a : Int32)  (hn : 0 ≤ n ∧ n ≤ 40000) (hb : (I (ad g 53) 1).toInt ≤ 23760 * n - 1663200 ∧ 0 ≤ (I (ad g 53) 0).toInt ∧ (I (ad g 53) 0).toInt ≤ 39900) : SP g mX10_pass [.ref (ad g 0), .int a] I J R (fun r I' J' R' => (XI g n L I' ∧ (RfX g R' ∧ (R' (ad g 5) 0 = R (ad g 5) 0 ∧ R' (ad g 0) 10 = R (ad g 0) 10) ∧ NL g R') ∧ fz 74 g [43, 44, 47, 48, 50, 51, 52, 53, 55] I I' ∧ fz 74 g [45, 46, 53] J J' ∧ ((0 ≤ a.toInt ∧ a.toInt ≤ 70) ∧ (I' (ad g 53) 0).toInt = (I (ad g 53) 0).toInt + a.toInt ∨ ¬ (0 ≤ a.toInt ∧ a.toInt ≤ 70) ∧ (I' (ad g 53) 0).toInt = (I (ad g 53) 0).toInt)) ∧ ∃ v : Int32, r = some (.int v) ∧ ((0 ≤ a.toInt ∧ a.toInt ≤ 70) ∧ v.toInt = (I (ad g 53) 0).toInt + a.toInt ∨ ¬ (0 ≤ a.toInt ∧ a.toInt ≤ 70) ∧ v.toInt = -2)) := by
  refine SP_of ⟨by decide, rfl⟩ (Nat.le_of_ble_eq_true rfl) ?_
  have e15444 : I (ad g 1) 1 = L := hI.2
  have b15445 := BT_get hI.1 1 1 2 (0) (0) (900) (by decide) 1 (by decide) (by decide)
  rw [e15444] at b15445
  have fr0 : fz 74 g [43, 44, 47, 48, 50, 51, 52, 53, 55] I I := fz_rf
  have frj0 : fz 74 g [45, 46, 53] J J := fz_rf
  obtain ⟨w15446, ew15446⟩ : ∃ w : Int32, I (ad g 53) 1 = w := ⟨_, rfl⟩
  have bw15446 := BT_get hI.1 53 1 2 (0) (23760) (0) (by decide) 1 (by decide) (by decide)
  rw [ew15446] at bw15446
  obtain ⟨w15447, ew15447⟩ : ∃ w : Int32, I (ad g 53) 0 = w := ⟨_, rfl⟩
  rw [ew15446, ew15447] at hb
  refine WP_iload_n dX10_pass_0 rfl ?_
  refine WQ_if_lt 10 dX10_pass_1 rfl (fun c15447 => ?_) (fun c15447 => ?_)
  · refine WQ_bipush (-2) (-2) dX10_pass_10 rfl rfl (fun v15449 hv15449 => ?_)
    exact WP_iret dX10_pass_12 rfl ⟨⟨hI, ⟨hr, ⟨hT.trans hT.symm, rfl⟩, hP⟩, fr0, frj0, (by rw [ew15447]; omega)⟩, _, rfl, (by rw [ew15447]; omega)⟩
  · refine WP_iload_n dX10_pass_4 rfl ?_
    refine WQ_bipush (70) (70) dX10_pass_5 rfl rfl (fun v15450 hv15450 => ?_)
    refine WQ_icmp_le 13 dX10_pass_7 rfl (fun c15450 => ?_) (fun c15450 => ?_)
    · refine WQ_iconst (0) (0) dX10_pass_13 rfl rfl (fun v15452 hv15452 => ?_)
      refine WP_istore_n (ls' := [(0, _), (1, _), (2, _)]) dX10_pass_14 (by decide) rfl ?_
      have lp15_15457 : ∀ (mz : Nat) (i15453 : Int32) (I15454 : pI) (J15455 : pJ) (RI15454 : pR), RfX g RI15454 → RI15454 (ad g 5) 0 = some (ad g 6) → RI15454 (ad g 0) 10 = R (ad g 0) 10 → NL g RI15454 → XI g n L I15454 → fz 74 g [43, 44, 47, 48, 50, 51, 52, 53, 55] I I15454 → fz 74 g [45, 46, 53] J J15455 → ∀ (w15456 : Int32), I15454 (ad g 53) 1 = w15456 → ∀ (w15457 : Int32), I15454 (ad g 53) 0 = w15457 → 0 ≤ i15453.toInt → i15453.toInt ≤ 70 → w15456.toInt ≤ w15446.toInt + 23760 * i15453.toInt → w15457.toInt = w15447.toInt + i15453.toInt → i15453.toInt ≤ a.toInt → (71 - i15453.toInt).toNat < mz → WP g mX10_pass 15 [(0, .ref (ad g 0)), (1, .int a), (2, .int i15453)] [] I15454 J15455 RI15454 (fun r I' J' R' => (XI g n L I' ∧ (RfX g R' ∧ (R' (ad g 5) 0 = R (ad g 5) 0 ∧ R' (ad g 0) 10 = R (ad g 0) 10) ∧ NL g R') ∧ fz 74 g [43, 44, 47, 48, 50, 51, 52, 53, 55] I I' ∧ fz 74 g [45, 46, 53] J J' ∧ ((0 ≤ a.toInt ∧ a.toInt ≤ 70) ∧ (I' (ad g 53) 0).toInt = (I (ad g 53) 0).toInt + a.toInt ∨ ¬ (0 ≤ a.toInt ∧ a.toInt ≤ 70) ∧ (I' (ad g 53) 0).toInt = (I (ad g 53) 0).toInt)) ∧ ∃ v : Int32, r = some (.int v) ∧ ((0 ≤ a.toInt ∧ a.toInt ≤ 70) ∧ v.toInt = (I (ad g 53) 0).toInt + a.toInt ∨ ¬ (0 ≤ a.toInt ∧ a.toInt ≤ 70) ∧ v.toInt = -2)) := by
        intro mz
        induction mz with
        | zero =>
          intro i15453 I15454 J15455 RI15454 hrI15454 hTI15454 hSI15454 hPI15454 hI15454 fiI15454 fjJ15455 w15456 ew15456 w15457 ew15457 ai15453 bi15453 j0_I15454 j1_I15454 j2_I15454 hmlp15_15457
          exact absurd hmlp15_15457 (Nat.not_lt_zero _)
        | succ mz ihlp15_15457 =>
          intro i15453 I15454 J15455 RI15454 hrI15454 hTI15454 hSI15454 hPI15454 hI15454 fiI15454 fjJ15455 w15456 ew15456 w15457 ew15457 ai15453 bi15453 j0_I15454 j1_I15454 j2_I15454 hmlp15_15457
          have bw15456 := BT_get hI15454.1 53 1 2 (0) (23760) (0) (by decide) 1 (by decide) (by decide)
          rw [ew15456] at bw15456
          have e15459 : I15454 (ad g 1) 1 = L := hI15454.2
          have b15460 := BT_get hI15454.1 1 1 2 (0) (0) (900) (by decide) 1 (by decide) (by decide)
          rw [e15459] at b15460
          refine WP_iload_n dX10_pass_15 rfl ?_
          refine WP_iload_n dX10_pass_16 rfl ?_
          refine WQ_icmp_ge 38 dX10_pass_17 rfl (fun c15460 => ?_) (fun c15460 => ?_)
          · refine WP_aload_n dX10_pass_38 rfl ?_
            refine WP_getr dX10_pass_39 fX10_62 rfl (lyx_is hy 0 10 rfl) (rfx hrI15454 0 5 53 (by decide)) ?_
            refine WQ_getim dX10_pass_42 fX10_232 rfl (lyx_is hy 53 4 rfl) ew15457 ?_
            exact WP_iret dX10_pass_45 rfl ⟨⟨hI15454, ⟨hrI15454, ⟨hTI15454.trans hT.symm, hSI15454⟩, hPI15454⟩, fiI15454, fjJ15455, (by rw [ew15457, ew15447]; omega)⟩, _, rfl, (by rw [ew15447]; omega)⟩
          · refine WP_aload_n dX10_pass_20 rfl ?_
            refine WP_getr dX10_pass_21 fX10_55 rfl (lyx_is hy 0 10 rfl) (rfx hrI15454 0 4 49 (by decide)) ?_
            refine WP_aload_n dX10_pass_24 rfl ?_
            refine WP_getr dX10_pass_25 fX10_62 rfl (lyx_is hy 0 10 rfl) (rfx hrI15454 0 5 53 (by decide)) ?_
            refine WQ_iconst (1) (1) dX10_pass_28 rfl rfl (fun v15462 hv15462 => ?_)
            refine WP_callV2 (k := 9) dX10_pass_29 ⟨⟨⟨by decide, by decide⟩, zX9_passDay⟩, lX10_228, by decide, rfl, vX9_passDay.1, vX9_passDay.2⟩ (lyx_is hy 49 9 rfl) (sx_passDay_53_6 hy hrI15454 hPI15454 hTI15454 hI15454 v15462 (by omega) (by omega) (by omega) (by rw [ew15456, ew15457]; omega)) (Nat.le_of_ble_eq_true rfl) ?_
            intro r I15463 J15464 R15465 hq
            obtain ⟨⟨hI15463, ⟨hrI15463, ⟨htI15463, hsI15463⟩, hpI15463⟩, fiI15463, fjI15463, pI15463⟩, rfl⟩ := hq
            have ht_I15463 := htI15463.trans hTI15454
            have hs_I15463 : R15465 (ad g 0) 10 = R (ad g 0) 10 := hsI15463.trans hSI15454
            have fr15466 : fz 74 g [43, 44, 47, 48, 50, 51, 52, 53, 55] I I15463 := fz_tr fiI15454 (fz_mono fiI15463 (by decide))
            have fr15467 : fz 74 g [45, 46, 53] J J15464 := fz_tr fjJ15455 (fz_mono fjI15463 (by decide))
            have e15468 : I15463 (ad g 1) 1 = L := hI15463.2
            have b15469 := BT_get hI15463.1 1 1 2 (0) (0) (900) (by decide) 1 (by decide) (by decide)
            rw [e15468] at b15469
            obtain ⟨w15470, ew15470⟩ : ∃ w : Int32, I15463 (ad g 53) 1 = w := ⟨_, rfl⟩
            have bw15470 := BT_get hI15463.1 53 1 2 (0) (23760) (0) (by decide) 1 (by decide) (by decide)
            rw [ew15470] at bw15470
            obtain ⟨w15471, ew15471⟩ : ∃ w : Int32, I15463 (ad g 53) 0 = w := ⟨_, rfl⟩
            rw [ew15470, ew15471, ew15456, ew15457] at pI15463
            refine WP_iinc (ls' := [(0, _), (1, _), (2, _)]) dX10_pass_32 rfl (by decide) rfl ?_
            have hv15472 : (i15453 + Int32.ofInt (1)).toInt = i15453.toInt + (1) := ia_n rfl (by omega) (by omega)
            generalize i15453 + Int32.ofInt (1) = v15472 at hv15472 ⊢
            refine WP_goto 15 dX10_pass_35 rfl ?_
            exact WP_sub (fc rfl (fc rfl (fc rfl fn))) (ihlp15_15457 v15472 I15463 J15464 R15465 hrI15463 ht_I15463 hs_I15463 hpI15463 hI15463 fr15466 fr15467 w15470 ew15470 w15471 ew15471 (by omega) (by omega) (by omega) (by omega) (by omega) (by omega))
      exact WP_sub (fc rfl (fc rfl (fc rfl fn))) (lp15_15457 _ v15452 I J R hr hT rfl hP hI fr0 frj0 w15446 ew15446 w15447 ew15447 (by omega) (by omega) (by omega) (by omega) (by omega) (Nat.lt_succ_self _))
    · refine WQ_bipush (-2) (-2) dX10_pass_10 rfl rfl (fun v15473 hv15473 => ?_)
      exact WP_iret dX10_pass_12 rfl ⟨⟨hI, ⟨hr, ⟨hT.trans hT.symm, rfl⟩, hP⟩, fr0, frj0, (by rw [ew15447]; omega)⟩, _, rfl, (by rw [ew15447]; omega)⟩
set_option maxHeartbeats 4000000 in
set_option maxRecDepth 100000 in
theorem sx_worthOfAll_6 {g : GG} {n : Int} {L : Int32} (hy : LyX g)  {I : pI} {J : pJ} {R : pR} (hr : RfX g R) (hP : NL g R) (hT : R (ad g 5) 0 = some (ad g 6)) (hI : XI g n L I) (ra : Int32) (we : Int32) (ra_lo : 0 ≤ ra.toInt) (ra_hi : ra.toInt ≤ 18) (we_lo : 1 ≤ we.toInt) (we_hi : we.toInt ≤ 4) (hn : 0 ≤ n ∧ n ≤ 40000) : SP g mX10_worthOfAll [.ref (ad g 0), .int ra, .int we] I J R (fun r I' J' R' => (XI g n L I' ∧ (RfX g R' ∧ (R' (ad g 5) 0 = R (ad g 5) 0 ∧ R' (ad g 0) 10 = R (ad g 0) 10) ∧ NL g R') ∧ fz 74 g [23, 24, 43, 44, 47, 48, 50, 51, 52, 56, 57, 58] I I' ∧ fz 74 g [45, 46, 56] J J' ∧ LTX g 6 I') ∧ ∃ v : Int32, r = some (.int v)) := by
  refine SP_of ⟨by decide, rfl⟩ (Nat.le_of_ble_eq_true rfl) ?_
  have e15474 : I (ad g 1) 1 = L := hI.2
  have b15475 := BT_get hI.1 1 1 2 (0) (0) (900) (by decide) 1 (by decide) (by decide)
  rw [e15474] at b15475
  have fr0 : fz 74 g [23, 24, 43, 44, 47, 48, 50, 51, 52, 56, 57, 58] I I := fz_rf
  have frj0 : fz 74 g [45, 46, 56] J J := fz_rf
  refine WP_aload_n dX10_worthOfAll_0 rfl ?_
  refine WP_getr dX10_worthOfAll_1 fX10_66 rfl (lyx_is hy 0 10 rfl) (rfx hr 0 6 56 (by decide)) ?_
  refine WP_aload_n dX10_worthOfAll_4 rfl ?_
  refine WP_getr dX10_worthOfAll_5 fX10_62 rfl (lyx_is hy 0 10 rfl) (rfx hr 0 5 53 (by decide)) ?_
  refine WP_callV1 (k := 4) dX10_worthOfAll_8 ⟨⟨⟨by decide, by decide⟩, zX4_become⟩, lX10_249, by decide, rfl, vX4_become.1, vX4_become.2⟩ (lyx_is hy 56 4 rfl) (sx_becomef_56_53 hy hr hI  ) (Nat.le_of_ble_eq_true rfl) ?_
  intro r I15476 J15477 Ra hq
  obtain ⟨⟨hI15476, ec, fiI15476, fjI15476⟩, rfl⟩ := hq
  rw [ec]
  clear ec Ra
  have fr15478 : fz 74 g [23, 24, 43, 44, 47, 48, 50, 51, 52, 56, 57, 58] I I15476 := fz_tr fr0 (fz_mono fiI15476 (by decide))
  have fr15479 : fz 74 g [45, 46, 56] J J15477 := fz_tr frj0 (fz_mono fjI15476 (by decide))
  have e15480 : I15476 (ad g 1) 1 = L := hI15476.2
  have b15481 := BT_get hI15476.1 1 1 2 (0) (0) (900) (by decide) 1 (by decide) (by decide)
  rw [e15480] at b15481
  refine WP_aload_n dX10_worthOfAll_11 rfl ?_
  refine WP_getr dX10_worthOfAll_12 fX10_66 rfl (lyx_is hy 0 10 rfl) (rfx hr 0 6 56 (by decide)) ?_
  refine WP_aload_n dX10_worthOfAll_15 rfl ?_
  refine WP_getr dX10_worthOfAll_16 fX10_33 rfl (lyx_is hy 0 10 rfl) (rfx hr 0 2 5 (by decide)) ?_
  refine WP_getr dX10_worthOfAll_19 fX10_102 rfl (lyx_is hy 5 0 rfl) hT ?_
  refine WP_callV1 (k := 4) dX10_worthOfAll_22 ⟨⟨⟨by decide, by decide⟩, zX4_begin⟩, lX10_246, by decide, rfl, vX4_begin.1, vX4_begin.2⟩ (lyx_is hy 56 4 rfl) (sx_beginf_56_6 hy hr hI15476   (by omega)) (Nat.le_of_ble_eq_true rfl) ?_
  intro r I15482 J15483 Ra hq
  obtain ⟨⟨hI15482, ec, fiI15482, fjI15482, pI15482⟩, rfl⟩ := hq
  rw [ec]
  clear ec Ra
  have fr15484 : fz 74 g [23, 24, 43, 44, 47, 48, 50, 51, 52, 56, 57, 58] I I15482 := fz_tr fr15478 (fz_mono fiI15482 (by decide))
  have fr15485 : fz 74 g [45, 46, 56] J J15483 := fz_tr fr15479 (fz_mono fjI15482 (by decide))
  have e15486 : I15482 (ad g 1) 1 = L := hI15482.2
  have b15487 := BT_get hI15482.1 1 1 2 (0) (0) (900) (by decide) 1 (by decide) (by decide)
  rw [e15486] at b15487
  obtain ⟨w15488, ew15488⟩ : ∃ w : Int32, I15482 (ad g 56) 1 = w := ⟨_, rfl⟩
  have bw15488 := BT_get hI15482.1 56 1 2 (0) (23760) (700000) (by decide) 1 (by decide) (by decide)
  rw [ew15488] at bw15488
  rw [ew15488] at pI15482
  refine WP_aload_n dX10_worthOfAll_25 rfl ?_
  refine WP_getr dX10_worthOfAll_26 fX10_33 rfl (lyx_is hy 0 10 rfl) (rfx hr 0 2 5 (by decide)) ?_
  refine WP_iload_n dX10_worthOfAll_29 rfl ?_
  refine WQ_bipush (50) (50) dX10_worthOfAll_30 rfl rfl (fun v15489 hv15489 => ?_)
  refine WQ_imulk (50) dX10_worthOfAll_32 hv15489 (by omega) (by omega) (fun v15490 hv15490 => ?_)
  refine WP_callV1 (k := 0) dX10_worthOfAll_33 ⟨⟨⟨by decide, by decide⟩, zX0_lossesAt⟩, lX10_344, by decide, rfl, vX0_lossesAt.1, vX0_lossesAt.2⟩ (lyx_is hy 5 0 rfl) (sx_lossesAtf_6 hy hr hT hI15482 v15490 (by omega) (by omega)) (Nat.le_of_ble_eq_true rfl) ?_
  intro r I15491 J15492 Ra hq
  obtain ⟨⟨hI15491, ec, fiI15491, fjI15491⟩, rfl⟩ := hq
  rw [ec]
  clear ec Ra
  have fr15493 : fz 74 g [23, 24, 43, 44, 47, 48, 50, 51, 52, 56, 57, 58] I I15491 := fz_tr fr15484 (fz_mono fiI15491 (by decide))
  have fr15494 : fz 74 g [45, 46, 56] J J15492 := fz_tr fr15485 (fz_mono fjI15491 (by decide))
  have e15495 : I15491 (ad g 56) 1 = w15488 := by rw [fz_at fiI15491 56 (by decide) (by decide)]; exact ew15488
  have e15496 : I15491 (ad g 1) 1 = L := hI15491.2
  have b15497 := BT_get hI15491.1 1 1 2 (0) (0) (900) (by decide) 1 (by decide) (by decide)
  rw [e15496] at b15497
  refine WQ_iconst (0) (0) dX10_worthOfAll_36 rfl rfl (fun v15498 hv15498 => ?_)
  refine WP_istore_n (ls' := [(0, _), (1, _), (2, _), (3, _)]) dX10_worthOfAll_37 (by decide) rfl ?_
  have lp38_15502 : ∀ (mz : Nat) (i15499 : Int32) (I15500 : pI) (J15501 : pJ) (RI15500 : pR), RfX g RI15500 → RI15500 (ad g 5) 0 = some (ad g 6) → RI15500 (ad g 0) 10 = R (ad g 0) 10 → NL g RI15500 → XI g n L I15500 → fz 74 g [23, 24, 43, 44, 47, 48, 50, 51, 52, 56, 57, 58] I I15500 → fz 74 g [45, 46, 56] J J15501 → ∀ (w15502 : Int32), I15500 (ad g 56) 1 = w15502 → 0 ≤ i15499.toInt → i15499.toInt ≤ 28 → w15502.toInt ≤ 23760 * i15499.toInt → (29 - i15499.toInt).toNat < mz → WP g mX10_worthOfAll 38 [(0, .ref (ad g 0)), (1, .int ra), (2, .int we), (3, .int i15499)] [] I15500 J15501 RI15500 (fun r I' J' R' => (XI g n L I' ∧ (RfX g R' ∧ (R' (ad g 5) 0 = R (ad g 5) 0 ∧ R' (ad g 0) 10 = R (ad g 0) 10) ∧ NL g R') ∧ fz 74 g [23, 24, 43, 44, 47, 48, 50, 51, 52, 56, 57, 58] I I' ∧ fz 74 g [45, 46, 56] J J' ∧ LTX g 6 I') ∧ ∃ v : Int32, r = some (.int v)) := by
    intro mz
    induction mz with
    | zero =>
      intro i15499 I15500 J15501 RI15500 hrI15500 hTI15500 hSI15500 hPI15500 hI15500 fiI15500 fjJ15501 w15502 ew15502 ai15499 bi15499 j0_I15500 hmlp38_15502
      exact absurd hmlp38_15502 (Nat.not_lt_zero _)
    | succ mz ihlp38_15502 =>
      intro i15499 I15500 J15501 RI15500 hrI15500 hTI15500 hSI15500 hPI15500 hI15500 fiI15500 fjJ15501 w15502 ew15502 ai15499 bi15499 j0_I15500 hmlp38_15502
      have bw15502 := BT_get hI15500.1 56 1 2 (0) (23760) (700000) (by decide) 1 (by decide) (by decide)
      rw [ew15502] at bw15502
      have e15504 : I15500 (ad g 1) 1 = L := hI15500.2
      have b15505 := BT_get hI15500.1 1 1 2 (0) (0) (900) (by decide) 1 (by decide) (by decide)
      rw [e15504] at b15505
      refine WP_iload_n dX10_worthOfAll_38 rfl ?_
      refine WP_iload_n dX10_worthOfAll_39 rfl ?_
      refine WQ_bipush (7) (7) dX10_worthOfAll_40 rfl rfl (fun v15506 hv15506 => ?_)
      refine WQ_imulk (7) dX10_worthOfAll_42 hv15506 (by omega) (by omega) (fun v15507 hv15507 => ?_)
      refine WQ_icmp_ge 64 dX10_worthOfAll_43 rfl (fun c15507 => ?_) (fun c15507 => ?_)
      · refine WP_aload_n dX10_worthOfAll_64 rfl ?_
        refine WP_getr dX10_worthOfAll_65 fX10_33 rfl (lyx_is hy 0 10 rfl) (rfx hrI15500 0 2 5 (by decide)) ?_
        refine WP_callV0 (k := 0) dX10_worthOfAll_68 ⟨⟨⟨by decide, by decide⟩, zX0_lossesAsTold⟩, lX10_347, by decide, rfl, vX0_lossesAsTold.1, vX0_lossesAsTold.2⟩ (lyx_is hy 5 0 rfl) (sx_lossesE_6 hy hrI15500 hTI15500 hI15500  ) (Nat.le_of_ble_eq_true rfl) ?_
        intro r I15509 J15510 Ra hq
        obtain ⟨⟨hI15509, ec, fiI15509, fjI15509, pI15509⟩, rfl⟩ := hq
        rw [ec]
        clear ec Ra
        have fr15511 : fz 74 g [23, 24, 43, 44, 47, 48, 50, 51, 52, 56, 57, 58] I I15509 := fz_tr fiI15500 (fz_mono fiI15509 (by decide))
        have fr15512 : fz 74 g [45, 46, 56] J J15510 := fz_tr fjJ15501 (fz_mono fjI15509 (by decide))
        have e15513 : I15509 (ad g 56) 1 = w15502 := by rw [fz_at fiI15509 56 (by decide) (by decide)]; exact ew15502
        have e15514 : I15509 (ad g 1) 1 = L := hI15509.2
        have b15515 := BT_get hI15509.1 1 1 2 (0) (0) (900) (by decide) 1 (by decide) (by decide)
        rw [e15514] at b15515
        refine WP_aload_n dX10_worthOfAll_71 rfl ?_
        refine WP_getr dX10_worthOfAll_72 fX10_66 rfl (lyx_is hy 0 10 rfl) (rfx hrI15500 0 6 56 (by decide)) ?_
        refine WQ_iconst (4) (4) dX10_worthOfAll_75 rfl rfl (fun v15516 hv15516 => ?_)
        refine WP_callV1 (k := 4) dX10_worthOfAll_76 ⟨⟨⟨by decide, by decide⟩, zX4_sum⟩, lX10_350, by decide, rfl, vX4_sum.1, vX4_sum.2⟩ (lyx_is hy 56 4 rfl) (sx_sum_56 hy hrI15500 hI15509 v15516 (by omega) (by omega)) (Nat.le_of_ble_eq_true rfl) ?_
        intro r Ia Ja Ra hq
        obtain ⟨⟨ea, eb, ec⟩, v15517, rfl⟩ := hq
        show WP _ _ _ _ (.int _ :: _) _ _ _ _
        rw [ea, eb, ec]
        clear ea eb ec Ia Ja Ra
        exact WP_iret dX10_worthOfAll_79 rfl ⟨⟨hI15509, ⟨hrI15500, ⟨hTI15500.trans hT.symm, hSI15500⟩, hPI15500⟩, fr15511, fr15512, pI15509⟩, _, rfl⟩
      · refine WP_aload_n dX10_worthOfAll_46 rfl ?_
        refine WP_getr dX10_worthOfAll_47 fX10_55 rfl (lyx_is hy 0 10 rfl) (rfx hrI15500 0 4 49 (by decide)) ?_
        refine WP_aload_n dX10_worthOfAll_50 rfl ?_
        refine WP_getr dX10_worthOfAll_51 fX10_66 rfl (lyx_is hy 0 10 rfl) (rfx hrI15500 0 6 56 (by decide)) ?_
        refine WQ_iconst (1) (1) dX10_worthOfAll_54 rfl rfl (fun v15518 hv15518 => ?_)
        refine WP_callV2 (k := 9) dX10_worthOfAll_55 ⟨⟨⟨by decide, by decide⟩, zX9_passDay⟩, lX10_228, by decide, rfl, vX9_passDay.1, vX9_passDay.2⟩ (lyx_is hy 49 9 rfl) (sx_passDay_56_6 hy hrI15500 hPI15500 hTI15500 hI15500 v15518 (by omega) (by omega) (by omega) (by rw [ew15502]; omega)) (Nat.le_of_ble_eq_true rfl) ?_
        intro r I15519 J15520 R15521 hq
        obtain ⟨⟨hI15519, ⟨hrI15519, ⟨htI15519, hsI15519⟩, hpI15519⟩, fiI15519, fjI15519, pI15519⟩, rfl⟩ := hq
        have ht_I15519 := htI15519.trans hTI15500
        have hs_I15519 : R15521 (ad g 0) 10 = R (ad g 0) 10 := hsI15519.trans hSI15500
        have fr15522 : fz 74 g [23, 24, 43, 44, 47, 48, 50, 51, 52, 56, 57, 58] I I15519 := fz_tr fiI15500 (fz_mono fiI15519 (by decide))
        have fr15523 : fz 74 g [45, 46, 56] J J15520 := fz_tr fjJ15501 (fz_mono fjI15519 (by decide))
        have e15524 : I15519 (ad g 1) 1 = L := hI15519.2
        have b15525 := BT_get hI15519.1 1 1 2 (0) (0) (900) (by decide) 1 (by decide) (by decide)
        rw [e15524] at b15525
        obtain ⟨w15526, ew15526⟩ : ∃ w : Int32, I15519 (ad g 56) 1 = w := ⟨_, rfl⟩
        have bw15526 := BT_get hI15519.1 56 1 2 (0) (23760) (700000) (by decide) 1 (by decide) (by decide)
        rw [ew15526] at bw15526
        rw [ew15526, ew15502] at pI15519
        refine WP_iinc (ls' := [(0, _), (1, _), (2, _), (3, _)]) dX10_worthOfAll_58 rfl (by decide) rfl ?_
        have hv15527 : (i15499 + Int32.ofInt (1)).toInt = i15499.toInt + (1) := ia_n rfl (by omega) (by omega)
        generalize i15499 + Int32.ofInt (1) = v15527 at hv15527 ⊢
        refine WP_goto 38 dX10_worthOfAll_61 rfl ?_
        exact WP_sub (fc rfl (fc rfl (fc rfl (fc rfl fn)))) (ihlp38_15502 v15527 I15519 J15520 R15521 hrI15519 ht_I15519 hs_I15519 hpI15519 hI15519 fr15522 fr15523 w15526 ew15526 (by omega) (by omega) (by omega) (by omega))
  exact WP_sub (fc rfl (fc rfl (fc rfl (fc rfl fn)))) (lp38_15502 _ v15498 I15491 J15492 R hr hT rfl hP hI15491 fr15493 fr15494 w15488 e15495 (by omega) (by omega) (by omega) (Nat.lt_succ_self _))
set_option maxHeartbeats 4000000 in
set_option maxRecDepth 100000 in
theorem sx_worthAt_6 {g : GG} {n : Int} {L : Int32} (hy : LyX g)  {I : pI} {J : pJ} {R : pR} (hr : RfX g R) (hP : NL g R) (hT : R (ad g 5) 0 = some (ad g 6)) (hI : XI g n L I) (a : Int32) (b : Int32)  (hn : 0 ≤ n ∧ n ≤ 40000) : SP g mX10_worthAt [.ref (ad g 0), .int a, .int b] I J R (fun r I' J' R' => (XI g n L I' ∧ (RfX g R' ∧ (R' (ad g 5) 0 = R (ad g 5) 0 ∧ R' (ad g 0) 10 = R (ad g 0) 10) ∧ NL g R') ∧ fz 74 g [23, 24, 43, 44, 47, 48, 50, 51, 52, 56, 57, 58] I I' ∧ fz 74 g [45, 46, 56] J J' ∧ (LTX g 6 I → LTX g 6 I')) ∧ ∃ v : Int32, r = some (.int v)) := by
  refine SP_of ⟨by decide, rfl⟩ (Nat.le_of_ble_eq_true rfl) ?_
  have e15528 : I (ad g 1) 1 = L := hI.2
  have b15529 := BT_get hI.1 1 1 2 (0) (0) (900) (by decide) 1 (by decide) (by decide)
  rw [e15528] at b15529
  have fr0 : fz 74 g [23, 24, 43, 44, 47, 48, 50, 51, 52, 56, 57, 58] I I := fz_rf
  have frj0 : fz 74 g [45, 46, 56] J J := fz_rf
  refine WP_iload_n dX10_worthAt_0 rfl ?_
  refine WQ_if_lt 17 dX10_worthAt_1 rfl (fun c15529 => ?_) (fun c15529 => ?_)
  · refine WQ_bipush (-2) (-2) dX10_worthAt_17 rfl rfl (fun v15531 hv15531 => ?_)
    refine WP_goto 28 dX10_worthAt_19 rfl ?_
    exact WP_iret dX10_worthAt_28 rfl ⟨⟨hI, ⟨hr, ⟨hT.trans hT.symm, rfl⟩, hP⟩, fr0, frj0, id⟩, _, rfl⟩
  · refine WP_iload_n dX10_worthAt_4 rfl ?_
    refine WQ_bipush (18) (18) dX10_worthAt_5 rfl rfl (fun v15532 hv15532 => ?_)
    refine WQ_icmp_gt 17 dX10_worthAt_7 rfl (fun c15532 => ?_) (fun c15532 => ?_)
    · refine WQ_bipush (-2) (-2) dX10_worthAt_17 rfl rfl (fun v15534 hv15534 => ?_)
      refine WP_goto 28 dX10_worthAt_19 rfl ?_
      exact WP_iret dX10_worthAt_28 rfl ⟨⟨hI, ⟨hr, ⟨hT.trans hT.symm, rfl⟩, hP⟩, fr0, frj0, id⟩, _, rfl⟩
    · refine WP_iload_n dX10_worthAt_10 rfl ?_
      refine WP_callS1 dX10_worthAt_11 ⟨⟨⟨by decide, by decide⟩, zX10_isWeeks⟩, lX10_253, tX10_isWeeks⟩ (sx_isWeeks hy hr hI b ) (Nat.le_of_ble_eq_true rfl) ?_
      intro r Ia Ja Ra hq
      obtain ⟨⟨ea, eb, ec⟩, v15535, rfl, av15535, bv15535, cv15535⟩ := hq
      show WP _ _ _ _ (.int _ :: _) _ _ _ _
      rw [ea, eb, ec]
      clear ea eb ec Ia Ja Ra
      refine WQ_if_ne 22 dX10_worthAt_14 rfl (fun c15535 => ?_) (fun c15535 => ?_)
      · refine WP_aload_n dX10_worthAt_22 rfl ?_
        refine WP_iload_n dX10_worthAt_23 rfl ?_
        refine WP_iload_n dX10_worthAt_24 rfl ?_
        refine WP_callV2 (k := 10) dX10_worthAt_25 ⟨⟨⟨by decide, by decide⟩, zX10_worthOfAll⟩, lX10_256, by decide, rfl, vX10_worthOfAll.1, vX10_worthOfAll.2⟩ (lyx_is hy 0 10 rfl) (sx_worthOfAll_6 hy hr hP hT hI a b (by omega) (by omega) (by omega) (by omega) (by omega)) (Nat.le_of_ble_eq_true rfl) ?_
        intro r I15537 J15538 R15539 hq
        obtain ⟨⟨hI15537, ⟨hrI15537, ⟨htI15537, hsI15537⟩, hpI15537⟩, fiI15537, fjI15537, pI15537⟩, v15540, rfl⟩ := hq
        show WP _ _ _ _ (.int _ :: _) _ _ _ _
        have ht_I15537 := htI15537.trans hT
        have hs_I15537 : R15539 (ad g 0) 10 = R (ad g 0) 10 := hsI15537.trans rfl
        have fr15541 : fz 74 g [23, 24, 43, 44, 47, 48, 50, 51, 52, 56, 57, 58] I I15537 := fz_tr fr0 (fz_mono fiI15537 (by decide))
        have fr15542 : fz 74 g [45, 46, 56] J J15538 := fz_tr frj0 (fz_mono fjI15537 (by decide))
        have e15543 : I15537 (ad g 1) 1 = L := hI15537.2
        have b15544 := BT_get hI15537.1 1 1 2 (0) (0) (900) (by decide) 1 (by decide) (by decide)
        rw [e15543] at b15544
        exact WP_iret dX10_worthAt_28 rfl ⟨⟨hI15537, ⟨hrI15537, ⟨ht_I15537.trans hT.symm, hs_I15537⟩, hpI15537⟩, fr15541, fr15542, (fun _ => pI15537)⟩, _, rfl⟩
      · refine WQ_bipush (-2) (-2) dX10_worthAt_17 rfl rfl (fun v15545 hv15545 => ?_)
        refine WP_goto 28 dX10_worthAt_19 rfl ?_
        exact WP_iret dX10_worthAt_28 rfl ⟨⟨hI, ⟨hr, ⟨hT.trans hT.symm, rfl⟩, hP⟩, fr0, frj0, id⟩, _, rfl⟩
set_option maxHeartbeats 4000000 in
set_option maxRecDepth 100000 in
theorem sx_rate_6 {g : GG} {n : Int} {L : Int32} (hy : LyX g)  {I : pI} {J : pJ} {R : pR} (hr : RfX g R) (hP : NL g R) (hT : R (ad g 5) 0 = some (ad g 6)) (hI : XI g n L I) (a : Int32)  (hn : 0 ≤ n ∧ n ≤ 40000) : SP g mX10_rate [.ref (ad g 0), .int a] I J R (fun r I' J' R' => (XI g n L I' ∧ (RfX g R' ∧ (R' (ad g 5) 0 = R (ad g 5) 0 ∧ R' (ad g 0) 10 = R (ad g 0) 10) ∧ NL g R') ∧ fz 74 g [23, 24, 43, 44, 47, 48, 50, 51, 52, 56, 57, 58] I I' ∧ fz 74 g [45, 46, 56] J J' ∧ (LTX g 6 I → LTX g 6 I')) ∧ ∃ v : Int32, r = some (.int v)) := by
  refine SP_of ⟨by decide, rfl⟩ (Nat.le_of_ble_eq_true rfl) ?_
  have e15546 : I (ad g 1) 1 = L := hI.2
  have b15547 := BT_get hI.1 1 1 2 (0) (0) (900) (by decide) 1 (by decide) (by decide)
  rw [e15546] at b15547
  have fr0 : fz 74 g [23, 24, 43, 44, 47, 48, 50, 51, 52, 56, 57, 58] I I := fz_rf
  have frj0 : fz 74 g [45, 46, 56] J J := fz_rf
  refine WP_iload_n dX10_rate_0 rfl ?_
  refine WP_callS1 dX10_rate_1 ⟨⟨⟨by decide, by decide⟩, zX10_isWeeks⟩, lX10_253, tX10_isWeeks⟩ (sx_isWeeks hy hr hI a ) (Nat.le_of_ble_eq_true rfl) ?_
  intro r Ia Ja Ra hq
  obtain ⟨⟨ea, eb, ec⟩, v15548, rfl, av15548, bv15548, cv15548⟩ := hq
  show WP _ _ _ _ (.int _ :: _) _ _ _ _
  rw [ea, eb, ec]
  clear ea eb ec Ia Ja Ra
  refine WQ_if_ne 10 dX10_rate_4 rfl (fun c15548 => ?_) (fun c15548 => ?_)
  · refine WP_aload_n dX10_rate_10 rfl ?_
    refine WQ_iconst (0) (0) dX10_rate_11 rfl rfl (fun v15550 hv15550 => ?_)
    refine WP_iload_n dX10_rate_12 rfl ?_
    refine WP_callV2 (k := 10) dX10_rate_13 ⟨⟨⟨by decide, by decide⟩, zX10_worthOfAll⟩, lX10_256, by decide, rfl, vX10_worthOfAll.1, vX10_worthOfAll.2⟩ (lyx_is hy 0 10 rfl) (sx_worthOfAll_6 hy hr hP hT hI v15550 a (by omega) (by omega) (by omega) (by omega) (by omega)) (Nat.le_of_ble_eq_true rfl) ?_
    intro r I15551 J15552 R15553 hq
    obtain ⟨⟨hI15551, ⟨hrI15551, ⟨htI15551, hsI15551⟩, hpI15551⟩, fiI15551, fjI15551, pI15551⟩, v15554, rfl⟩ := hq
    show WP _ _ _ _ (.int _ :: _) _ _ _ _
    have ht_I15551 := htI15551.trans hT
    have hs_I15551 : R15553 (ad g 0) 10 = R (ad g 0) 10 := hsI15551.trans rfl
    have fr15555 : fz 74 g [23, 24, 43, 44, 47, 48, 50, 51, 52, 56, 57, 58] I I15551 := fz_tr fr0 (fz_mono fiI15551 (by decide))
    have fr15556 : fz 74 g [45, 46, 56] J J15552 := fz_tr frj0 (fz_mono fjI15551 (by decide))
    have e15557 : I15551 (ad g 1) 1 = L := hI15551.2
    have b15558 := BT_get hI15551.1 1 1 2 (0) (0) (900) (by decide) 1 (by decide) (by decide)
    rw [e15557] at b15558
    refine WP_istore_n (ls' := [(0, _), (1, _), (2, _)]) dX10_rate_16 (by decide) rfl ?_
    refine WQ_iconst (0) (0) dX10_rate_17 rfl rfl (fun v15559 hv15559 => ?_)
    refine WP_istore_n (ls' := [(0, _), (1, _), (2, _), (3, _)]) dX10_rate_18 (by decide) rfl ?_
    refine WQ_iconst (1) (1) dX10_rate_19 rfl rfl (fun v15560 hv15560 => ?_)
    refine WP_istore (ls' := [(0, _), (1, _), (2, _), (3, _), (4, _)]) dX10_rate_20 (by decide) rfl ?_
    have lp22_15566 : ∀ (mz : Nat) (i15561 : Int32) (i15562 : Int32) (i15563 : Int32) (I15564 : pI) (J15565 : pJ) (RI15564 : pR), RfX g RI15564 → RI15564 (ad g 5) 0 = some (ad g 6) → RI15564 (ad g 0) 10 = R (ad g 0) 10 → NL g RI15564 → XI g n L I15564 → fz 74 g [23, 24, 43, 44, 47, 48, 50, 51, 52, 56, 57, 58] I I15564 → fz 74 g [45, 46, 56] J J15565 → 1 ≤ i15563.toInt → i15563.toInt ≤ 19 → (LTX g 6 I15564) → (20 - i15563.toInt).toNat < mz → WP g mX10_rate 22 [(0, .ref (ad g 0)), (1, .int a), (2, .int i15561), (3, .int i15562), (4, .int i15563)] [] I15564 J15565 RI15564 (fun r I' J' R' => (XI g n L I' ∧ (RfX g R' ∧ (R' (ad g 5) 0 = R (ad g 5) 0 ∧ R' (ad g 0) 10 = R (ad g 0) 10) ∧ NL g R') ∧ fz 74 g [23, 24, 43, 44, 47, 48, 50, 51, 52, 56, 57, 58] I I' ∧ fz 74 g [45, 46, 56] J J' ∧ (LTX g 6 I → LTX g 6 I')) ∧ ∃ v : Int32, r = some (.int v)) := by
      intro mz
      induction mz with
      | zero =>
        intro i15561 i15562 i15563 I15564 J15565 RI15564 hrI15564 hTI15564 hSI15564 hPI15564 hI15564 fiI15564 fjJ15565 ai15563 bi15563 PT_I15564_15565 hmlp22_15566
        exact absurd hmlp22_15566 (Nat.not_lt_zero _)
      | succ mz ihlp22_15566 =>
        intro i15561 i15562 i15563 I15564 J15565 RI15564 hrI15564 hTI15564 hSI15564 hPI15564 hI15564 fiI15564 fjJ15565 ai15563 bi15563 PT_I15564_15565 hmlp22_15566
        have e15568 : I15564 (ad g 1) 1 = L := hI15564.2
        have b15569 := BT_get hI15564.1 1 1 2 (0) (0) (900) (by decide) 1 (by decide) (by decide)
        rw [e15568] at b15569
        refine WP_iload dX10_rate_22 rfl ?_
        refine WQ_bipush (18) (18) dX10_rate_24 rfl rfl (fun v15570 hv15570 => ?_)
        refine WQ_icmp_gt 56 dX10_rate_26 rfl (fun c15570 => ?_) (fun c15570 => ?_)
        · refine WP_iload_n dX10_rate_56 rfl ?_
          exact WP_iret dX10_rate_57 rfl ⟨⟨hI15564, ⟨hrI15564, ⟨hTI15564.trans hT.symm, hSI15564⟩, hPI15564⟩, fiI15564, fjJ15565, (fun _ => PT_I15564_15565)⟩, _, rfl⟩
        · refine WP_aload_n dX10_rate_29 rfl ?_
          refine WP_iload dX10_rate_30 rfl ?_
          refine WP_iload_n dX10_rate_32 rfl ?_
          refine WP_callV2 (k := 10) dX10_rate_33 ⟨⟨⟨by decide, by decide⟩, zX10_worthOfAll⟩, lX10_256, by decide, rfl, vX10_worthOfAll.1, vX10_worthOfAll.2⟩ (lyx_is hy 0 10 rfl) (sx_worthOfAll_6 hy hrI15564 hPI15564 hTI15564 hI15564 i15563 a (by omega) (by omega) (by omega) (by omega) (by omega)) (Nat.le_of_ble_eq_true rfl) ?_
          intro r I15572 J15573 R15574 hq
          obtain ⟨⟨hI15572, ⟨hrI15572, ⟨htI15572, hsI15572⟩, hpI15572⟩, fiI15572, fjI15572, pI15572⟩, v15575, rfl⟩ := hq
          show WP _ _ _ _ (.int _ :: _) _ _ _ _
          have ht_I15572 := htI15572.trans hTI15564
          have hs_I15572 : R15574 (ad g 0) 10 = R (ad g 0) 10 := hsI15572.trans hSI15564
          have fr15576 : fz 74 g [23, 24, 43, 44, 47, 48, 50, 51, 52, 56, 57, 58] I I15572 := fz_tr fiI15564 (fz_mono fiI15572 (by decide))
          have fr15577 : fz 74 g [45, 46, 56] J J15573 := fz_tr fjJ15565 (fz_mono fjI15572 (by decide))
          have e15578 : I15572 (ad g 1) 1 = L := hI15572.2
          have b15579 := BT_get hI15572.1 1 1 2 (0) (0) (900) (by decide) 1 (by decide) (by decide)
          rw [e15578] at b15579
          refine WP_istore (ls' := [(0, _), (1, _), (2, _), (3, _), (4, _), (5, _)]) dX10_rate_36 (by decide) rfl ?_
          refine WP_iload dX10_rate_38 rfl ?_
          refine WP_iload_n dX10_rate_40 rfl ?_
          refine WQ_icmp_le 50 dX10_rate_41 rfl (fun c15579 => ?_) (fun c15579 => ?_)
          · refine WP_iinc (ls' := [(0, _), (1, _), (2, _), (3, _), (4, _), (5, _)]) dX10_rate_50 rfl (by decide) rfl ?_
            have hv15581 : (i15563 + Int32.ofInt (1)).toInt = i15563.toInt + (1) := ia_n rfl (by omega) (by omega)
            generalize i15563 + Int32.ofInt (1) = v15581 at hv15581 ⊢
            refine WP_goto 22 dX10_rate_53 rfl ?_
            exact WP_sub (fc rfl (fc rfl (fc rfl (fc rfl (fc rfl fn))))) (ihlp22_15566 i15561 i15562 v15581 I15572 J15573 R15574 hrI15572 ht_I15572 hs_I15572 hpI15572 hI15572 fr15576 fr15577 (by omega) (by omega) pI15572 (by omega))
          · refine WP_iload dX10_rate_44 rfl ?_
            refine WP_istore_n (ls' := [(0, _), (1, _), (2, _), (3, _), (4, _), (5, _)]) dX10_rate_46 (by decide) rfl ?_
            refine WP_iload dX10_rate_47 rfl ?_
            refine WP_istore_n (ls' := [(0, _), (1, _), (2, _), (3, _), (4, _), (5, _)]) dX10_rate_49 (by decide) rfl ?_
            refine WP_iinc (ls' := [(0, _), (1, _), (2, _), (3, _), (4, _), (5, _)]) dX10_rate_50 rfl (by decide) rfl ?_
            have hv15582 : (i15563 + Int32.ofInt (1)).toInt = i15563.toInt + (1) := ia_n rfl (by omega) (by omega)
            generalize i15563 + Int32.ofInt (1) = v15582 at hv15582 ⊢
            refine WP_goto 22 dX10_rate_53 rfl ?_
            exact WP_sub (fc rfl (fc rfl (fc rfl (fc rfl (fc rfl fn))))) (ihlp22_15566 v15575 i15563 v15582 I15572 J15573 R15574 hrI15572 ht_I15572 hs_I15572 hpI15572 hI15572 fr15576 fr15577 (by omega) (by omega) pI15572 (by omega))
    exact WP_sub (fc rfl (fc rfl (fc rfl (fc rfl (fc rfl fn))))) (lp22_15566 _ v15554 v15559 v15560 I15551 J15552 R15553 hrI15551 ht_I15551 hs_I15551 hpI15551 hI15551 fr15555 fr15556 (by omega) (by omega) pI15551 (Nat.lt_succ_self _))
  · refine WQ_bipush (-2) (-2) dX10_rate_7 rfl rfl (fun v15583 hv15583 => ?_)
    exact WP_iret dX10_rate_9 rfl ⟨⟨hI, ⟨hr, ⟨hT.trans hT.symm, rfl⟩, hP⟩, fr0, frj0, id⟩, _, rfl⟩
set_option maxHeartbeats 4000000 in
set_option maxRecDepth 100000 in
theorem sx_turnChanges_6 {g : GG} {n : Int} {L : Int32} (hy : LyX g)  {I : pI} {J : pJ} {R : pR} (hr : RfX g R) (hP : NL g R) (hT : R (ad g 5) 0 = some (ad g 6)) (hI : XI g n L I)   (hn : 0 ≤ n ∧ n ≤ 40000) : SP g mX10_turnChanges [.ref (ad g 0)] I J R (fun r I' J' R' => (XI g n L I' ∧ (RfX g R' ∧ (R' (ad g 5) 0 = R (ad g 5) 0 ∧ R' (ad g 0) 10 = R (ad g 0) 10) ∧ NL g R') ∧ fz 74 g [22, 43, 44, 47, 48, 50, 51, 52, 56, 57, 58] I I' ∧ fz 74 g [45, 46, 56] J J') ∧ ∃ v : Int32, r = some (.int v) ∧ 0 ≤ v.toInt ∧ v.toInt ≤ 1) := by
  refine SP_of ⟨by decide, rfl⟩ (Nat.le_of_ble_eq_true rfl) ?_
  have e15584 : I (ad g 1) 1 = L := hI.2
  have b15585 := BT_get hI.1 1 1 2 (0) (0) (900) (by decide) 1 (by decide) (by decide)
  rw [e15584] at b15585
  have fr0 : fz 74 g [22, 43, 44, 47, 48, 50, 51, 52, 56, 57, 58] I I := fz_rf
  have frj0 : fz 74 g [45, 46, 56] J J := fz_rf
  refine WP_aload_n dX10_turnChanges_0 rfl ?_
  refine WP_getr dX10_turnChanges_1 fX10_66 rfl (lyx_is hy 0 10 rfl) (rfx hr 0 6 56 (by decide)) ?_
  refine WP_aload_n dX10_turnChanges_4 rfl ?_
  refine WP_getr dX10_turnChanges_5 fX10_62 rfl (lyx_is hy 0 10 rfl) (rfx hr 0 5 53 (by decide)) ?_
  refine WP_callV1 (k := 4) dX10_turnChanges_8 ⟨⟨⟨by decide, by decide⟩, zX4_become⟩, lX10_249, by decide, rfl, vX4_become.1, vX4_become.2⟩ (lyx_is hy 56 4 rfl) (sx_becomef_56_53 hy hr hI  ) (Nat.le_of_ble_eq_true rfl) ?_
  intro r I15586 J15587 Ra hq
  obtain ⟨⟨hI15586, ec, fiI15586, fjI15586⟩, rfl⟩ := hq
  rw [ec]
  clear ec Ra
  have fr15588 : fz 74 g [22, 43, 44, 47, 48, 50, 51, 52, 56, 57, 58] I I15586 := fz_tr fr0 (fz_mono fiI15586 (by decide))
  have fr15589 : fz 74 g [45, 46, 56] J J15587 := fz_tr frj0 (fz_mono fjI15586 (by decide))
  have e15590 : I15586 (ad g 1) 1 = L := hI15586.2
  have b15591 := BT_get hI15586.1 1 1 2 (0) (0) (900) (by decide) 1 (by decide) (by decide)
  rw [e15590] at b15591
  refine WP_aload_n dX10_turnChanges_11 rfl ?_
  refine WP_getr dX10_turnChanges_12 fX10_66 rfl (lyx_is hy 0 10 rfl) (rfx hr 0 6 56 (by decide)) ?_
  refine WP_aload_n dX10_turnChanges_15 rfl ?_
  refine WP_getr dX10_turnChanges_16 fX10_33 rfl (lyx_is hy 0 10 rfl) (rfx hr 0 2 5 (by decide)) ?_
  refine WP_getr dX10_turnChanges_19 fX10_102 rfl (lyx_is hy 5 0 rfl) hT ?_
  refine WP_callV1 (k := 4) dX10_turnChanges_22 ⟨⟨⟨by decide, by decide⟩, zX4_begin⟩, lX10_246, by decide, rfl, vX4_begin.1, vX4_begin.2⟩ (lyx_is hy 56 4 rfl) (sx_beginf_56_6 hy hr hI15586   (by omega)) (Nat.le_of_ble_eq_true rfl) ?_
  intro r I15592 J15593 Ra hq
  obtain ⟨⟨hI15592, ec, fiI15592, fjI15592, pI15592⟩, rfl⟩ := hq
  rw [ec]
  clear ec Ra
  have fr15594 : fz 74 g [22, 43, 44, 47, 48, 50, 51, 52, 56, 57, 58] I I15592 := fz_tr fr15588 (fz_mono fiI15592 (by decide))
  have fr15595 : fz 74 g [45, 46, 56] J J15593 := fz_tr fr15589 (fz_mono fjI15592 (by decide))
  have e15596 : I15592 (ad g 1) 1 = L := hI15592.2
  have b15597 := BT_get hI15592.1 1 1 2 (0) (0) (900) (by decide) 1 (by decide) (by decide)
  rw [e15596] at b15597
  obtain ⟨w15598, ew15598⟩ : ∃ w : Int32, I15592 (ad g 56) 1 = w := ⟨_, rfl⟩
  have bw15598 := BT_get hI15592.1 56 1 2 (0) (23760) (700000) (by decide) 1 (by decide) (by decide)
  rw [ew15598] at bw15598
  rw [ew15598] at pI15592
  refine WP_aload_n dX10_turnChanges_25 rfl ?_
  refine WP_getr dX10_turnChanges_26 fX10_55 rfl (lyx_is hy 0 10 rfl) (rfx hr 0 4 49 (by decide)) ?_
  refine WP_getr dX10_turnChanges_29 fX10_353 rfl (lyx_is hy 49 9 rfl) (rfx hr 49 1 51 (by decide)) ?_
  refine WQ_iconst (0) (0) dX10_turnChanges_32 rfl rfl (fun v15599 hv15599 => ?_)
  refine WP_callS2u dX10_turnChanges_33 ⟨⟨⟨by decide, by decide⟩, zJ7_fill_53178⟩, lX10_335, tJ7_fill_53178⟩ (s_fill hy hr 51 21 rfl rfl (by decide) v15599) (Nat.le_of_ble_eq_true rfl) ?_
  obtain ⟨I15600, eI15600⟩ : ∃ I9 : pI, I9 = fi I15592 (ad g 51) 21 v15599 := ⟨_, rfl⟩
  rw [← eI15600]
  have hI15600 : XI g n L I15600 := by rw [eI15600]; exact (xi_fill0 hy hI15592 51 21 v15599 (by decide) (by decide))
  have e15601 : I15600 (ad g 1) 1 = L := by rw [eI15600, fi_off (lyx_ne hy (by decide) (by decide) (by decide))]; exact e15596
  have e15602 : I15600 (ad g 56) 1 = w15598 := by rw [eI15600, fi_off (lyx_ne hy (by decide) (by decide) (by decide))]; exact ew15598
  have fr15603 : fz 74 g [22, 43, 44, 47, 48, 50, 51, 52, 56, 57, 58] I I15600 := by rw [eI15600]; exact fzx_fi hy fr15594 (by decide) (by decide)
  clear eI15600
  refine WQ_iconst (0) (0) dX10_turnChanges_36 rfl rfl (fun v15604 hv15604 => ?_)
  refine WP_istore_n (ls' := [(0, _), (1, _)]) dX10_turnChanges_37 (by decide) rfl ?_
  have lp38_15608 : ∀ (mz : Nat) (i15605 : Int32) (I15606 : pI) (J15607 : pJ) (RI15606 : pR), RfX g RI15606 → RI15606 (ad g 5) 0 = some (ad g 6) → RI15606 (ad g 0) 10 = R (ad g 0) 10 → NL g RI15606 → XI g n L I15606 → fz 74 g [22, 43, 44, 47, 48, 50, 51, 52, 56, 57, 58] I I15606 → fz 74 g [45, 46, 56] J J15607 → ∀ (w15608 : Int32), I15606 (ad g 56) 1 = w15608 → 0 ≤ i15605.toInt → i15605.toInt ≤ 7 → w15608.toInt ≤ 23760 * i15605.toInt → (8 - i15605.toInt).toNat < mz → WP g mX10_turnChanges 38 [(0, .ref (ad g 0)), (1, .int i15605)] [] I15606 J15607 RI15606 (fun r I' J' R' => (XI g n L I' ∧ (RfX g R' ∧ (R' (ad g 5) 0 = R (ad g 5) 0 ∧ R' (ad g 0) 10 = R (ad g 0) 10) ∧ NL g R') ∧ fz 74 g [22, 43, 44, 47, 48, 50, 51, 52, 56, 57, 58] I I' ∧ fz 74 g [45, 46, 56] J J') ∧ ∃ v : Int32, r = some (.int v) ∧ 0 ≤ v.toInt ∧ v.toInt ≤ 1) := by
    intro mz
    induction mz with
    | zero =>
      intro i15605 I15606 J15607 RI15606 hrI15606 hTI15606 hSI15606 hPI15606 hI15606 fiI15606 fjJ15607 w15608 ew15608 ai15605 bi15605 j0_I15606 hmlp38_15608
      exact absurd hmlp38_15608 (Nat.not_lt_zero _)
    | succ mz ihlp38_15608 =>
      intro i15605 I15606 J15607 RI15606 hrI15606 hTI15606 hSI15606 hPI15606 hI15606 fiI15606 fjJ15607 w15608 ew15608 ai15605 bi15605 j0_I15606 hmlp38_15608
      have bw15608 := BT_get hI15606.1 56 1 2 (0) (23760) (700000) (by decide) 1 (by decide) (by decide)
      rw [ew15608] at bw15608
      have e15610 : I15606 (ad g 1) 1 = L := hI15606.2
      have b15611 := BT_get hI15606.1 1 1 2 (0) (0) (900) (by decide) 1 (by decide) (by decide)
      rw [e15610] at b15611
      refine WP_iload_n dX10_turnChanges_38 rfl ?_
      refine WQ_bipush (7) (7) dX10_turnChanges_39 rfl rfl (fun v15612 hv15612 => ?_)
      refine WQ_icmp_ge 62 dX10_turnChanges_41 rfl (fun c15612 => ?_) (fun c15612 => ?_)
      · refine WP_aload_n dX10_turnChanges_62 rfl ?_
        refine WP_getr dX10_turnChanges_63 fX10_33 rfl (lyx_is hy 0 10 rfl) (rfx hrI15606 0 2 5 (by decide)) ?_
        refine WP_aload_n dX10_turnChanges_66 rfl ?_
        refine WP_getr dX10_turnChanges_67 fX10_55 rfl (lyx_is hy 0 10 rfl) (rfx hrI15606 0 4 49 (by decide)) ?_
        refine WP_getr dX10_turnChanges_70 fX10_353 rfl (lyx_is hy 49 9 rfl) (rfx hrI15606 49 1 51 (by decide)) ?_
        refine WP_callV1 (k := 0) dX10_turnChanges_73 ⟨⟨⟨by decide, by decide⟩, zX0_movePrices⟩, lX10_356, by decide, rfl, vX0_movePrices.1, vX0_movePrices.2⟩ (lyx_is hy 5 0 rfl) (sx_movePricesf_6 hy hrI15606 hTI15606 hI15606  ) (Nat.le_of_ble_eq_true rfl) ?_
        intro r I15614 J15615 Ra hq
        obtain ⟨⟨hI15614, ec, fiI15614, fjI15614⟩, v15616, rfl, av15616, bv15616⟩ := hq
        show WP _ _ _ _ (.int _ :: _) _ _ _ _
        rw [ec]
        clear ec Ra
        have fr15617 : fz 74 g [22, 43, 44, 47, 48, 50, 51, 52, 56, 57, 58] I I15614 := fz_tr fiI15606 (fz_mono fiI15614 (by decide))
        have fr15618 : fz 74 g [45, 46, 56] J J15615 := fz_tr fjJ15607 (fz_mono fjI15614 (by decide))
        have e15619 : I15614 (ad g 56) 1 = w15608 := by rw [fz_at fiI15614 56 (by decide) (by decide)]; exact ew15608
        have e15620 : I15614 (ad g 1) 1 = L := hI15614.2
        have b15621 := BT_get hI15614.1 1 1 2 (0) (0) (900) (by decide) 1 (by decide) (by decide)
        rw [e15620] at b15621
        exact WP_zret dX10_turnChanges_76 rfl (nar_z (by omega)) ⟨⟨hI15614, ⟨hrI15606, ⟨hTI15606.trans hT.symm, hSI15606⟩, hPI15606⟩, fr15617, fr15618⟩, _, rfl, by omega, by omega⟩
      · refine WP_aload_n dX10_turnChanges_44 rfl ?_
        refine WP_getr dX10_turnChanges_45 fX10_55 rfl (lyx_is hy 0 10 rfl) (rfx hrI15606 0 4 49 (by decide)) ?_
        refine WP_aload_n dX10_turnChanges_48 rfl ?_
        refine WP_getr dX10_turnChanges_49 fX10_66 rfl (lyx_is hy 0 10 rfl) (rfx hrI15606 0 6 56 (by decide)) ?_
        refine WQ_iconst (0) (0) dX10_turnChanges_52 rfl rfl (fun v15622 hv15622 => ?_)
        refine WP_callV2 (k := 9) dX10_turnChanges_53 ⟨⟨⟨by decide, by decide⟩, zX9_passDay⟩, lX10_228, by decide, rfl, vX9_passDay.1, vX9_passDay.2⟩ (lyx_is hy 49 9 rfl) (sx_passDay_56_6 hy hrI15606 hPI15606 hTI15606 hI15606 v15622 (by omega) (by omega) (by omega) (by rw [ew15608]; omega)) (Nat.le_of_ble_eq_true rfl) ?_
        intro r I15623 J15624 R15625 hq
        obtain ⟨⟨hI15623, ⟨hrI15623, ⟨htI15623, hsI15623⟩, hpI15623⟩, fiI15623, fjI15623, pI15623⟩, rfl⟩ := hq
        have ht_I15623 := htI15623.trans hTI15606
        have hs_I15623 : R15625 (ad g 0) 10 = R (ad g 0) 10 := hsI15623.trans hSI15606
        have fr15626 : fz 74 g [22, 43, 44, 47, 48, 50, 51, 52, 56, 57, 58] I I15623 := fz_tr fiI15606 (fz_mono fiI15623 (by decide))
        have fr15627 : fz 74 g [45, 46, 56] J J15624 := fz_tr fjJ15607 (fz_mono fjI15623 (by decide))
        have e15628 : I15623 (ad g 1) 1 = L := hI15623.2
        have b15629 := BT_get hI15623.1 1 1 2 (0) (0) (900) (by decide) 1 (by decide) (by decide)
        rw [e15628] at b15629
        obtain ⟨w15630, ew15630⟩ : ∃ w : Int32, I15623 (ad g 56) 1 = w := ⟨_, rfl⟩
        have bw15630 := BT_get hI15623.1 56 1 2 (0) (23760) (700000) (by decide) 1 (by decide) (by decide)
        rw [ew15630] at bw15630
        rw [ew15630, ew15608] at pI15623
        refine WP_iinc (ls' := [(0, _), (1, _)]) dX10_turnChanges_56 rfl (by decide) rfl ?_
        have hv15631 : (i15605 + Int32.ofInt (1)).toInt = i15605.toInt + (1) := ia_n rfl (by omega) (by omega)
        generalize i15605 + Int32.ofInt (1) = v15631 at hv15631 ⊢
        refine WP_goto 38 dX10_turnChanges_59 rfl ?_
        exact WP_sub (fc rfl (fc rfl fn)) (ihlp38_15608 v15631 I15623 J15624 R15625 hrI15623 ht_I15623 hs_I15623 hpI15623 hI15623 fr15626 fr15627 w15630 ew15630 (by omega) (by omega) (by omega) (by omega))
  exact WP_sub (fc rfl (fc rfl fn)) (lp38_15608 _ v15604 I15600 J15593 R hr hT rfl hP hI15600 fr15603 fr15595 w15598 e15602 (by omega) (by omega) (by omega) (Nat.lt_succ_self _))
set_option maxHeartbeats 4000000 in
set_option maxRecDepth 100000 in
theorem sx_rest_6 {g : GG} {n : Int} {L : Int32} (hy : LyX g)  {I : pI} {J : pJ} {R : pR} (hr : RfX g R) (hP : NL g R) (hT : R (ad g 5) 0 = some (ad g 6)) (hI : XI g n L I) (a : Int32)  (hn : 0 ≤ n ∧ n ≤ 40000) : SP g mX10_rest [.ref (ad g 0), .int a] I J R (fun r I' J' R' => (XI g n L I' ∧ (RfX g R' ∧ (R' (ad g 5) 0 = R (ad g 5) 0 ∧ R' (ad g 0) 10 = R (ad g 0) 10) ∧ NL g R') ∧ fz 74 g [0, 22, 43, 44, 47, 48, 50, 51, 52, 56, 57, 58] I I' ∧ fz 74 g [45, 46, 56] J J') ∧ ∃ v : Int32, r = some (.int v)) := by
  refine SP_of ⟨by decide, rfl⟩ (Nat.le_of_ble_eq_true rfl) ?_
  have e15632 : I (ad g 1) 1 = L := hI.2
  have b15633 := BT_get hI.1 1 1 2 (0) (0) (900) (by decide) 1 (by decide) (by decide)
  rw [e15632] at b15633
  have fr0 : fz 74 g [0, 22, 43, 44, 47, 48, 50, 51, 52, 56, 57, 58] I I := fz_rf
  have frj0 : fz 74 g [45, 46, 56] J J := fz_rf
  refine WP_iload_n dX10_rest_0 rfl ?_
  refine WQ_if_eq 12 dX10_rest_1 rfl (fun c15633 => ?_) (fun c15633 => ?_)
  · refine WP_iload_n dX10_rest_12 rfl ?_
    refine WQ_iconst (1) (1) dX10_rest_13 rfl rfl (fun v15635 hv15635 => ?_)
    refine WQ_icmp_ne 24 dX10_rest_14 rfl (fun c15635 => ?_) (fun c15635 => False.elim (by omega))
    refine WQ_iconst (0) (0) dX10_rest_24 rfl rfl (fun v15637 hv15637 => ?_)
    refine WP_istore_n (ls' := [(0, _), (1, _), (2, _)]) dX10_rest_25 (by decide) rfl ?_
    refine WP_aload_n dX10_rest_26 rfl ?_
    refine WQ_iconst (0) (0) dX10_rest_27 rfl rfl (fun v15638 hv15638 => ?_)
    refine WQ_puti dX10_rest_28 fX10_263 rfl rfl (lyx_is hy 0 10 rfl) (fun I15639 eI15639 => ?_)
    have hI15639 : XI g n L I15639 := by rw [eI15639]; exact (xi_f0 hy hI (c := 0) (by decide) (Or.inl (by decide)) (by decide))
    have e15640 : I15639 (ad g 1) 1 = L := by rw [eI15639, pp_ne _ _ (Or.inl (lyx_ne hy (by decide) (by decide) (by decide)))]; exact e15632
    have e15641 : I15639 (ad g 0) 11 = v15638 := by rw [eI15639, pp_self]
    have fr15642 : fz 74 g [0, 22, 43, 44, 47, 48, 50, 51, 52, 56, 57, 58] I I15639 := by rw [eI15639]; exact fzx_pp hy fr0 (by decide) (by decide)
    clear eI15639
    have lp31_15646 : ∀ (mz : Nat) (i15643 : Int32) (I15644 : pI) (J15645 : pJ) (RI15644 : pR), RfX g RI15644 → RI15644 (ad g 5) 0 = some (ad g 6) → RI15644 (ad g 0) 10 = R (ad g 0) 10 → NL g RI15644 → XI g n L I15644 → fz 74 g [0, 22, 43, 44, 47, 48, 50, 51, 52, 56, 57, 58] I I15644 → fz 74 g [45, 46, 56] J J15645 → ∀ (w15646 : Int32), I15644 (ad g 0) 11 = w15646 → 0 ≤ i15643.toInt → i15643.toInt ≤ 1 → 0 ≤ w15646.toInt → w15646.toInt ≤ 60 → (61 - w15646.toInt).toNat < mz → WP g mX10_rest 31 [(0, .ref (ad g 0)), (1, .int a), (2, .int i15643)] [] I15644 J15645 RI15644 (fun r I' J' R' => (XI g n L I' ∧ (RfX g R' ∧ (R' (ad g 5) 0 = R (ad g 5) 0 ∧ R' (ad g 0) 10 = R (ad g 0) 10) ∧ NL g R') ∧ fz 74 g [0, 22, 43, 44, 47, 48, 50, 51, 52, 56, 57, 58] I I' ∧ fz 74 g [45, 46, 56] J J') ∧ ∃ v : Int32, r = some (.int v)) := by
      intro mz
      induction mz with
      | zero =>
        intro i15643 I15644 J15645 RI15644 hrI15644 hTI15644 hSI15644 hPI15644 hI15644 fiI15644 fjJ15645 w15646 ew15646 ai15643 bi15643 j0_I15644 j1_I15644 hmlp31_15646
        exact absurd hmlp31_15646 (Nat.not_lt_zero _)
      | succ mz ihlp31_15646 =>
        intro i15643 I15644 J15645 RI15644 hrI15644 hTI15644 hSI15644 hPI15644 hI15644 fiI15644 fjJ15645 w15646 ew15646 ai15643 bi15643 j0_I15644 j1_I15644 hmlp31_15646
        have e15648 : I15644 (ad g 1) 1 = L := hI15644.2
        have b15649 := BT_get hI15644.1 1 1 2 (0) (0) (900) (by decide) 1 (by decide) (by decide)
        rw [e15648] at b15649
        refine WP_aload_n dX10_rest_31 rfl ?_
        refine WQ_getim dX10_rest_32 fX10_263 rfl (lyx_is hy 0 10 rfl) ew15646 ?_
        refine WQ_bipush (60) (60) dX10_rest_35 rfl rfl (fun v15650 hv15650 => ?_)
        refine WQ_icmp_ge 70 dX10_rest_37 rfl (fun c15650 => ?_) (fun c15650 => ?_)
        · refine WP_iload_n dX10_rest_70 rfl ?_
          have jn79_15654 : ∀ (v15654 : Int32), 0 ≤ v15654.toInt → v15654.toInt ≤ 1 → WP g mX10_rest 79 [(0, .ref (ad g 0)), (1, .int a), (2, .int i15643)] [.int v15654] I15644 J15645 RI15644 (fun r I' J' R' => (XI g n L I' ∧ (RfX g R' ∧ (R' (ad g 5) 0 = R (ad g 5) 0 ∧ R' (ad g 0) 10 = R (ad g 0) 10) ∧ NL g R') ∧ fz 74 g [0, 22, 43, 44, 47, 48, 50, 51, 52, 56, 57, 58] I I' ∧ fz 74 g [45, 46, 56] J J') ∧ ∃ v : Int32, r = some (.int v)) := by
            intro v15654 av15654 bv15654
            exact WP_iret dX10_rest_79 rfl ⟨⟨hI15644, ⟨hrI15644, ⟨hTI15644.trans hT.symm, hSI15644⟩, hPI15644⟩, fiI15644, fjJ15645⟩, _, rfl⟩
          refine WQ_if_eq 78 dX10_rest_71 rfl (fun c15655 => ?_) (fun c15655 => ?_)
          · refine WQ_iconst (0) (0) dX10_rest_78 rfl rfl (fun v15657 hv15657 => ?_)
            exact WP_sub (fc rfl (fc rfl (fc rfl fn))) (jn79_15654 v15657 (by omega) (by omega))
          · refine WQ_iconst (1) (1) dX10_rest_74 rfl rfl (fun v15658 hv15658 => ?_)
            refine WP_goto 79 dX10_rest_75 rfl ?_
            exact WP_sub (fc rfl (fc rfl (fc rfl fn))) (jn79_15654 v15658 (by omega) (by omega))
        · refine WP_iload_n dX10_rest_40 rfl ?_
          refine WQ_if_ne 70 dX10_rest_41 rfl (fun c15658 => ?_) (fun c15658 => ?_)
          · refine WP_iload_n dX10_rest_70 rfl ?_
            have jn79_15661 : ∀ (v15661 : Int32), 1 ≤ v15661.toInt → v15661.toInt ≤ 1 → WP g mX10_rest 79 [(0, .ref (ad g 0)), (1, .int a), (2, .int i15643)] [.int v15661] I15644 J15645 RI15644 (fun r I' J' R' => (XI g n L I' ∧ (RfX g R' ∧ (R' (ad g 5) 0 = R (ad g 5) 0 ∧ R' (ad g 0) 10 = R (ad g 0) 10) ∧ NL g R') ∧ fz 74 g [0, 22, 43, 44, 47, 48, 50, 51, 52, 56, 57, 58] I I' ∧ fz 74 g [45, 46, 56] J J') ∧ ∃ v : Int32, r = some (.int v)) := by
              intro v15661 av15661 bv15661
              exact WP_iret dX10_rest_79 rfl ⟨⟨hI15644, ⟨hrI15644, ⟨hTI15644.trans hT.symm, hSI15644⟩, hPI15644⟩, fiI15644, fjJ15645⟩, _, rfl⟩
            refine WQ_if_eq 78 dX10_rest_71 rfl (fun c15662 => False.elim (by omega)) (fun c15662 => ?_)
            refine WQ_iconst (1) (1) dX10_rest_74 rfl rfl (fun v15664 hv15664 => ?_)
            refine WP_goto 79 dX10_rest_75 rfl ?_
            exact WP_sub (fc rfl (fc rfl (fc rfl fn))) (jn79_15661 v15664 (by omega) (by omega))
          · refine WP_aload_n dX10_rest_44 rfl ?_
            refine WP_dup dX10_rest_45 rfl ?_
            refine WQ_getim dX10_rest_46 fX10_263 rfl (lyx_is hy 0 10 rfl) ew15646 ?_
            refine WQ_iconst (1) (1) dX10_rest_49 rfl rfl (fun v15665 hv15665 => ?_)
            refine WQ_iadd dX10_rest_50 (by omega) (by omega) (fun v15666 hv15666 => ?_)
            refine WQ_puti dX10_rest_51 fX10_263 rfl rfl (lyx_is hy 0 10 rfl) (fun I15667 eI15667 => ?_)
            have hI15667 : XI g n L I15667 := by rw [eI15667]; exact (xi_f0 hy hI15644 (c := 0) (by decide) (Or.inl (by decide)) (by decide))
            have e15668 : I15667 (ad g 1) 1 = L := by rw [eI15667, pp_ne _ _ (Or.inl (lyx_ne hy (by decide) (by decide) (by decide)))]; exact e15648
            have e15669 : I15667 (ad g 0) 11 = v15666 := by rw [eI15667, pp_self]
            have fr15670 : fz 74 g [0, 22, 43, 44, 47, 48, 50, 51, 52, 56, 57, 58] I I15667 := by rw [eI15667]; exact fzx_pp hy fiI15644 (by decide) (by decide)
            clear eI15667
            refine WP_aload_n dX10_rest_54 rfl ?_
            refine WP_callV0 (k := 10) dX10_rest_55 ⟨⟨⟨by decide, by decide⟩, zX10_turnChanges⟩, lX10_266, by decide, rfl, vX10_turnChanges.1, vX10_turnChanges.2⟩ (lyx_is hy 0 10 rfl) (sx_turnChanges_6 hy hrI15644 hPI15644 hTI15644 hI15667   (by omega)) (Nat.le_of_ble_eq_true rfl) ?_
            intro r I15671 J15672 R15673 hq
            obtain ⟨⟨hI15671, ⟨hrI15671, ⟨htI15671, hsI15671⟩, hpI15671⟩, fiI15671, fjI15671⟩, v15674, rfl, av15674, bv15674⟩ := hq
            show WP _ _ _ _ (.int _ :: _) _ _ _ _
            have ht_I15671 := htI15671.trans hTI15644
            have hs_I15671 : R15673 (ad g 0) 10 = R (ad g 0) 10 := hsI15671.trans hSI15644
            have fr15675 : fz 74 g [0, 22, 43, 44, 47, 48, 50, 51, 52, 56, 57, 58] I I15671 := fz_tr fr15670 (fz_mono fiI15671 (by decide))
            have fr15676 : fz 74 g [45, 46, 56] J J15672 := fz_tr fjJ15645 (fz_mono fjI15671 (by decide))
            have e15677 : I15671 (ad g 0) 11 = v15666 := by rw [fz_at fiI15671 0 (by decide) (by decide)]; exact e15669
            have e15678 : I15671 (ad g 1) 1 = L := hI15671.2
            have b15679 := BT_get hI15671.1 1 1 2 (0) (0) (900) (by decide) 1 (by decide) (by decide)
            rw [e15678] at b15679
            have jn66_15682 : ∀ (v15682 : Int32), 0 ≤ v15682.toInt → v15682.toInt ≤ 1 → WP g mX10_rest 66 [(0, .ref (ad g 0)), (1, .int a), (2, .int i15643)] [.int v15682] I15671 J15672 R15673 (fun r I' J' R' => (XI g n L I' ∧ (RfX g R' ∧ (R' (ad g 5) 0 = R (ad g 5) 0 ∧ R' (ad g 0) 10 = R (ad g 0) 10) ∧ NL g R') ∧ fz 74 g [0, 22, 43, 44, 47, 48, 50, 51, 52, 56, 57, 58] I I' ∧ fz 74 g [45, 46, 56] J J') ∧ ∃ v : Int32, r = some (.int v)) := by
              intro v15682 av15682 bv15682
              refine WP_istore_n (ls' := [(0, _), (1, _), (2, _)]) dX10_rest_66 (by decide) rfl ?_
              refine WP_goto 31 dX10_rest_67 rfl ?_
              exact WP_sub (fc rfl (fc rfl (fc rfl fn))) (ihlp31_15646 v15682 I15671 J15672 R15673 hrI15671 ht_I15671 hs_I15671 hpI15671 hI15671 fr15675 fr15676 v15666 e15677 (by omega) (by omega) (by omega) (by omega) (by omega))
            refine WQ_if_ne 65 dX10_rest_58 rfl (fun c15683 => ?_) (fun c15683 => ?_)
            · refine WQ_iconst (0) (0) dX10_rest_65 rfl rfl (fun v15685 hv15685 => ?_)
              exact WP_sub (fc rfl (fc rfl (fc rfl fn))) (jn66_15682 v15685 (by omega) (by omega))
            · refine WQ_iconst (1) (1) dX10_rest_61 rfl rfl (fun v15686 hv15686 => ?_)
              refine WP_goto 66 dX10_rest_62 rfl ?_
              exact WP_sub (fc rfl (fc rfl (fc rfl fn))) (jn66_15682 v15686 (by omega) (by omega))
    exact WP_sub (fc rfl (fc rfl (fc rfl fn))) (lp31_15646 _ v15637 I15639 J R hr hT rfl hP hI15639 fr15642 frj0 v15638 e15641 (by omega) (by omega) (by omega) (by omega) (Nat.lt_succ_self _))
  · refine WP_iload_n dX10_rest_4 rfl ?_
    refine WQ_iconst (1) (1) dX10_rest_5 rfl rfl (fun v15687 hv15687 => ?_)
    refine WQ_icmp_eq 12 dX10_rest_6 rfl (fun c15687 => ?_) (fun c15687 => ?_)
    · refine WP_iload_n dX10_rest_12 rfl ?_
      refine WQ_iconst (1) (1) dX10_rest_13 rfl rfl (fun v15689 hv15689 => ?_)
      refine WQ_icmp_ne 24 dX10_rest_14 rfl (fun c15689 => False.elim (by omega)) (fun c15689 => ?_)
      refine WP_aload_n dX10_rest_17 rfl ?_
      refine WP_getr dX10_rest_18 fX10_33 rfl (lyx_is hy 0 10 rfl) (rfx hr 0 2 5 (by decide)) ?_
      refine WP_callV0 (k := 0) dX10_rest_21 ⟨⟨⟨by decide, by decide⟩, zX0_pricesAsTold⟩, lX10_260, by decide, rfl, vX0_pricesAsTold.1, vX0_pricesAsTold.2⟩ (lyx_is hy 5 0 rfl) (sx_pricesAsTold_6 hy hr hT hI  ) (Nat.le_of_ble_eq_true rfl) ?_
      intro r I15691 J15692 Ra hq
      obtain ⟨⟨hI15691, ec, fiI15691, fjI15691⟩, rfl⟩ := hq
      rw [ec]
      clear ec Ra
      have fr15693 : fz 74 g [0, 22, 43, 44, 47, 48, 50, 51, 52, 56, 57, 58] I I15691 := fz_tr fr0 (fz_mono fiI15691 (by decide))
      have fr15694 : fz 74 g [45, 46, 56] J J15692 := fz_tr frj0 (fz_mono fjI15691 (by decide))
      have e15695 : I15691 (ad g 1) 1 = L := hI15691.2
      have b15696 := BT_get hI15691.1 1 1 2 (0) (0) (900) (by decide) 1 (by decide) (by decide)
      rw [e15695] at b15696
      refine WQ_iconst (0) (0) dX10_rest_24 rfl rfl (fun v15697 hv15697 => ?_)
      refine WP_istore_n (ls' := [(0, _), (1, _), (2, _)]) dX10_rest_25 (by decide) rfl ?_
      refine WP_aload_n dX10_rest_26 rfl ?_
      refine WQ_iconst (0) (0) dX10_rest_27 rfl rfl (fun v15698 hv15698 => ?_)
      refine WQ_puti dX10_rest_28 fX10_263 rfl rfl (lyx_is hy 0 10 rfl) (fun I15699 eI15699 => ?_)
      have hI15699 : XI g n L I15699 := by rw [eI15699]; exact (xi_f0 hy hI15691 (c := 0) (by decide) (Or.inl (by decide)) (by decide))
      have e15700 : I15699 (ad g 1) 1 = L := by rw [eI15699, pp_ne _ _ (Or.inl (lyx_ne hy (by decide) (by decide) (by decide)))]; exact e15695
      have e15701 : I15699 (ad g 0) 11 = v15698 := by rw [eI15699, pp_self]
      have fr15702 : fz 74 g [0, 22, 43, 44, 47, 48, 50, 51, 52, 56, 57, 58] I I15699 := by rw [eI15699]; exact fzx_pp hy fr15693 (by decide) (by decide)
      clear eI15699
      have lp31_15706 : ∀ (mz : Nat) (i15703 : Int32) (I15704 : pI) (J15705 : pJ) (RI15704 : pR), RfX g RI15704 → RI15704 (ad g 5) 0 = some (ad g 6) → RI15704 (ad g 0) 10 = R (ad g 0) 10 → NL g RI15704 → XI g n L I15704 → fz 74 g [0, 22, 43, 44, 47, 48, 50, 51, 52, 56, 57, 58] I I15704 → fz 74 g [45, 46, 56] J J15705 → ∀ (w15706 : Int32), I15704 (ad g 0) 11 = w15706 → 0 ≤ i15703.toInt → i15703.toInt ≤ 1 → 0 ≤ w15706.toInt → w15706.toInt ≤ 60 → (61 - w15706.toInt).toNat < mz → WP g mX10_rest 31 [(0, .ref (ad g 0)), (1, .int a), (2, .int i15703)] [] I15704 J15705 RI15704 (fun r I' J' R' => (XI g n L I' ∧ (RfX g R' ∧ (R' (ad g 5) 0 = R (ad g 5) 0 ∧ R' (ad g 0) 10 = R (ad g 0) 10) ∧ NL g R') ∧ fz 74 g [0, 22, 43, 44, 47, 48, 50, 51, 52, 56, 57, 58] I I' ∧ fz 74 g [45, 46, 56] J J') ∧ ∃ v : Int32, r = some (.int v)) := by
        intro mz
        induction mz with
        | zero =>
          intro i15703 I15704 J15705 RI15704 hrI15704 hTI15704 hSI15704 hPI15704 hI15704 fiI15704 fjJ15705 w15706 ew15706 ai15703 bi15703 j0_I15704 j1_I15704 hmlp31_15706
          exact absurd hmlp31_15706 (Nat.not_lt_zero _)
        | succ mz ihlp31_15706 =>
          intro i15703 I15704 J15705 RI15704 hrI15704 hTI15704 hSI15704 hPI15704 hI15704 fiI15704 fjJ15705 w15706 ew15706 ai15703 bi15703 j0_I15704 j1_I15704 hmlp31_15706
          have e15708 : I15704 (ad g 1) 1 = L := hI15704.2
          have b15709 := BT_get hI15704.1 1 1 2 (0) (0) (900) (by decide) 1 (by decide) (by decide)
          rw [e15708] at b15709
          refine WP_aload_n dX10_rest_31 rfl ?_
          refine WQ_getim dX10_rest_32 fX10_263 rfl (lyx_is hy 0 10 rfl) ew15706 ?_
          refine WQ_bipush (60) (60) dX10_rest_35 rfl rfl (fun v15710 hv15710 => ?_)
          refine WQ_icmp_ge 70 dX10_rest_37 rfl (fun c15710 => ?_) (fun c15710 => ?_)
          · refine WP_iload_n dX10_rest_70 rfl ?_
            have jn79_15714 : ∀ (v15714 : Int32), 0 ≤ v15714.toInt → v15714.toInt ≤ 1 → WP g mX10_rest 79 [(0, .ref (ad g 0)), (1, .int a), (2, .int i15703)] [.int v15714] I15704 J15705 RI15704 (fun r I' J' R' => (XI g n L I' ∧ (RfX g R' ∧ (R' (ad g 5) 0 = R (ad g 5) 0 ∧ R' (ad g 0) 10 = R (ad g 0) 10) ∧ NL g R') ∧ fz 74 g [0, 22, 43, 44, 47, 48, 50, 51, 52, 56, 57, 58] I I' ∧ fz 74 g [45, 46, 56] J J') ∧ ∃ v : Int32, r = some (.int v)) := by
              intro v15714 av15714 bv15714
              exact WP_iret dX10_rest_79 rfl ⟨⟨hI15704, ⟨hrI15704, ⟨hTI15704.trans hT.symm, hSI15704⟩, hPI15704⟩, fiI15704, fjJ15705⟩, _, rfl⟩
            refine WQ_if_eq 78 dX10_rest_71 rfl (fun c15715 => ?_) (fun c15715 => ?_)
            · refine WQ_iconst (0) (0) dX10_rest_78 rfl rfl (fun v15717 hv15717 => ?_)
              exact WP_sub (fc rfl (fc rfl (fc rfl fn))) (jn79_15714 v15717 (by omega) (by omega))
            · refine WQ_iconst (1) (1) dX10_rest_74 rfl rfl (fun v15718 hv15718 => ?_)
              refine WP_goto 79 dX10_rest_75 rfl ?_
              exact WP_sub (fc rfl (fc rfl (fc rfl fn))) (jn79_15714 v15718 (by omega) (by omega))
          · refine WP_iload_n dX10_rest_40 rfl ?_
            refine WQ_if_ne 70 dX10_rest_41 rfl (fun c15718 => ?_) (fun c15718 => ?_)
            · refine WP_iload_n dX10_rest_70 rfl ?_
              have jn79_15721 : ∀ (v15721 : Int32), 1 ≤ v15721.toInt → v15721.toInt ≤ 1 → WP g mX10_rest 79 [(0, .ref (ad g 0)), (1, .int a), (2, .int i15703)] [.int v15721] I15704 J15705 RI15704 (fun r I' J' R' => (XI g n L I' ∧ (RfX g R' ∧ (R' (ad g 5) 0 = R (ad g 5) 0 ∧ R' (ad g 0) 10 = R (ad g 0) 10) ∧ NL g R') ∧ fz 74 g [0, 22, 43, 44, 47, 48, 50, 51, 52, 56, 57, 58] I I' ∧ fz 74 g [45, 46, 56] J J') ∧ ∃ v : Int32, r = some (.int v)) := by
                intro v15721 av15721 bv15721
                exact WP_iret dX10_rest_79 rfl ⟨⟨hI15704, ⟨hrI15704, ⟨hTI15704.trans hT.symm, hSI15704⟩, hPI15704⟩, fiI15704, fjJ15705⟩, _, rfl⟩
              refine WQ_if_eq 78 dX10_rest_71 rfl (fun c15722 => False.elim (by omega)) (fun c15722 => ?_)
              refine WQ_iconst (1) (1) dX10_rest_74 rfl rfl (fun v15724 hv15724 => ?_)
              refine WP_goto 79 dX10_rest_75 rfl ?_
              exact WP_sub (fc rfl (fc rfl (fc rfl fn))) (jn79_15721 v15724 (by omega) (by omega))
            · refine WP_aload_n dX10_rest_44 rfl ?_
              refine WP_dup dX10_rest_45 rfl ?_
              refine WQ_getim dX10_rest_46 fX10_263 rfl (lyx_is hy 0 10 rfl) ew15706 ?_
              refine WQ_iconst (1) (1) dX10_rest_49 rfl rfl (fun v15725 hv15725 => ?_)
              refine WQ_iadd dX10_rest_50 (by omega) (by omega) (fun v15726 hv15726 => ?_)
              refine WQ_puti dX10_rest_51 fX10_263 rfl rfl (lyx_is hy 0 10 rfl) (fun I15727 eI15727 => ?_)
              have hI15727 : XI g n L I15727 := by rw [eI15727]; exact (xi_f0 hy hI15704 (c := 0) (by decide) (Or.inl (by decide)) (by decide))
              have e15728 : I15727 (ad g 1) 1 = L := by rw [eI15727, pp_ne _ _ (Or.inl (lyx_ne hy (by decide) (by decide) (by decide)))]; exact e15708
              have e15729 : I15727 (ad g 0) 11 = v15726 := by rw [eI15727, pp_self]
              have fr15730 : fz 74 g [0, 22, 43, 44, 47, 48, 50, 51, 52, 56, 57, 58] I I15727 := by rw [eI15727]; exact fzx_pp hy fiI15704 (by decide) (by decide)
              clear eI15727
              refine WP_aload_n dX10_rest_54 rfl ?_
              refine WP_callV0 (k := 10) dX10_rest_55 ⟨⟨⟨by decide, by decide⟩, zX10_turnChanges⟩, lX10_266, by decide, rfl, vX10_turnChanges.1, vX10_turnChanges.2⟩ (lyx_is hy 0 10 rfl) (sx_turnChanges_6 hy hrI15704 hPI15704 hTI15704 hI15727   (by omega)) (Nat.le_of_ble_eq_true rfl) ?_
              intro r I15731 J15732 R15733 hq
              obtain ⟨⟨hI15731, ⟨hrI15731, ⟨htI15731, hsI15731⟩, hpI15731⟩, fiI15731, fjI15731⟩, v15734, rfl, av15734, bv15734⟩ := hq
              show WP _ _ _ _ (.int _ :: _) _ _ _ _
              have ht_I15731 := htI15731.trans hTI15704
              have hs_I15731 : R15733 (ad g 0) 10 = R (ad g 0) 10 := hsI15731.trans hSI15704
              have fr15735 : fz 74 g [0, 22, 43, 44, 47, 48, 50, 51, 52, 56, 57, 58] I I15731 := fz_tr fr15730 (fz_mono fiI15731 (by decide))
              have fr15736 : fz 74 g [45, 46, 56] J J15732 := fz_tr fjJ15705 (fz_mono fjI15731 (by decide))
              have e15737 : I15731 (ad g 0) 11 = v15726 := by rw [fz_at fiI15731 0 (by decide) (by decide)]; exact e15729
              have e15738 : I15731 (ad g 1) 1 = L := hI15731.2
              have b15739 := BT_get hI15731.1 1 1 2 (0) (0) (900) (by decide) 1 (by decide) (by decide)
              rw [e15738] at b15739
              have jn66_15742 : ∀ (v15742 : Int32), 0 ≤ v15742.toInt → v15742.toInt ≤ 1 → WP g mX10_rest 66 [(0, .ref (ad g 0)), (1, .int a), (2, .int i15703)] [.int v15742] I15731 J15732 R15733 (fun r I' J' R' => (XI g n L I' ∧ (RfX g R' ∧ (R' (ad g 5) 0 = R (ad g 5) 0 ∧ R' (ad g 0) 10 = R (ad g 0) 10) ∧ NL g R') ∧ fz 74 g [0, 22, 43, 44, 47, 48, 50, 51, 52, 56, 57, 58] I I' ∧ fz 74 g [45, 46, 56] J J') ∧ ∃ v : Int32, r = some (.int v)) := by
                intro v15742 av15742 bv15742
                refine WP_istore_n (ls' := [(0, _), (1, _), (2, _)]) dX10_rest_66 (by decide) rfl ?_
                refine WP_goto 31 dX10_rest_67 rfl ?_
                exact WP_sub (fc rfl (fc rfl (fc rfl fn))) (ihlp31_15706 v15742 I15731 J15732 R15733 hrI15731 ht_I15731 hs_I15731 hpI15731 hI15731 fr15735 fr15736 v15726 e15737 (by omega) (by omega) (by omega) (by omega) (by omega))
              refine WQ_if_ne 65 dX10_rest_58 rfl (fun c15743 => ?_) (fun c15743 => ?_)
              · refine WQ_iconst (0) (0) dX10_rest_65 rfl rfl (fun v15745 hv15745 => ?_)
                exact WP_sub (fc rfl (fc rfl (fc rfl fn))) (jn66_15742 v15745 (by omega) (by omega))
              · refine WQ_iconst (1) (1) dX10_rest_61 rfl rfl (fun v15746 hv15746 => ?_)
                refine WP_goto 66 dX10_rest_62 rfl ?_
                exact WP_sub (fc rfl (fc rfl (fc rfl fn))) (jn66_15742 v15746 (by omega) (by omega))
      exact WP_sub (fc rfl (fc rfl (fc rfl fn))) (lp31_15706 _ v15697 I15699 J15692 R hr hT rfl hP hI15699 fr15702 fr15694 v15698 e15701 (by omega) (by omega) (by omega) (by omega) (Nat.lt_succ_self _))
    · refine WQ_bipush (-2) (-2) dX10_rest_9 rfl rfl (fun v15747 hv15747 => ?_)
      exact WP_iret dX10_rest_11 rfl ⟨⟨hI, ⟨hr, ⟨hT.trans hT.symm, rfl⟩, hP⟩, fr0, frj0⟩, _, rfl⟩
set_option maxHeartbeats 4000000 in
set_option maxRecDepth 100000 in
theorem sx_best_6 {g : GG} {n : Int} {L : Int32} (hy : LyX g)  {I : pI} {J : pJ} {R : pR} (hr : RfX g R) (hP : NL g R) (hT : R (ad g 5) 0 = some (ad g 6)) (hI : XI g n L I) (a : Int32) (b : Int32) (c : Int32) (e : Int32) (k : Int32)  : SP g mX10_best [.ref (ad g 0), .int a, .int b, .int c, .int e, .int k] I J R (fun r I' J' R' => (XI g n L I' ∧ (RfX g R' ∧ (R' (ad g 5) 0 = R (ad g 5) 0 ∧ R' (ad g 0) 10 = R (ad g 0) 10) ∧ NL g R') ∧ fz 74 g [43, 44, 47, 48] I I' ∧ fz 74 g [45, 46] J J') ∧ ∃ v : Int32, r = some (.int v)) := by
  refine SP_of ⟨by decide, rfl⟩ (Nat.le_of_ble_eq_true rfl) ?_
  have e15748 : I (ad g 1) 1 = L := hI.2
  have b15749 := BT_get hI.1 1 1 2 (0) (0) (900) (by decide) 1 (by decide) (by decide)
  rw [e15748] at b15749
  have fr0 : fz 74 g [43, 44, 47, 48] I I := fz_rf
  have frj0 : fz 74 g [45, 46] J J := fz_rf
  refine WP_aload_n dX10_best_0 rfl ?_
  refine WP_iload_n dX10_best_1 rfl ?_
  refine WP_iload_n dX10_best_2 rfl ?_
  refine WP_iload_n dX10_best_3 rfl ?_
  refine WP_iload dX10_best_4 rfl ?_
  refine WP_callV4 (k := 10) dX10_best_6 ⟨⟨⟨by decide, by decide⟩, zX10_isPerson⟩, lX10_188, by decide, rfl, vX10_isPerson.1, vX10_isPerson.2⟩ (lyx_is hy 0 10 rfl) (sx_isPerson_6 hy hr hT hI a b c e    ) (Nat.le_of_ble_eq_true rfl) ?_
  intro r Ia Ja Ra hq
  obtain ⟨⟨ea, eb, ec⟩, v15750, rfl, av15750, bv15750, cv15750⟩ := hq
  show WP _ _ _ _ (.int _ :: _) _ _ _ _
  rw [ea, eb, ec]
  clear ea eb ec Ia Ja Ra
  refine WQ_if_eq 23 dX10_best_9 rfl (fun c15750 => ?_) (fun c15750 => ?_)
  · refine WQ_bipush (-2) (-2) dX10_best_23 rfl rfl (fun v15752 hv15752 => ?_)
    exact WP_iret dX10_best_25 rfl ⟨⟨hI, ⟨hr, ⟨hT.trans hT.symm, rfl⟩, hP⟩, fr0, frj0⟩, _, rfl⟩
  · refine WP_iload dX10_best_12 rfl ?_
    refine WQ_iconst (0) (0) dX10_best_14 rfl rfl (fun v15753 hv15753 => ?_)
    refine WQ_bipush (28) (28) dX10_best_15 rfl rfl (fun v15754 hv15754 => ?_)
    refine WP_callS3 dX10_best_17 ⟨⟨⟨by decide, by decide⟩, zX10_within⟩, lX10_206, tX10_within⟩ (sx_within hy hr hI k v15753 v15754   ) (Nat.le_of_ble_eq_true rfl) ?_
    intro r Ia Ja Ra hq
    obtain ⟨⟨ea, eb, ec⟩, v15755, rfl, av15755, bv15755, cv15755⟩ := hq
    show WP _ _ _ _ (.int _ :: _) _ _ _ _
    rw [ea, eb, ec]
    clear ea eb ec Ia Ja Ra
    refine WQ_if_ne 26 dX10_best_20 rfl (fun c15755 => ?_) (fun c15755 => ?_)
    · refine WP_iload dX10_best_26 rfl ?_
      refine WQ_if_ne 33 dX10_best_28 rfl (fun c15756 => ?_) (fun c15756 => ?_)
      · refine WP_aload_n dX10_best_33 rfl ?_
        refine WP_getr dX10_best_34 fX10_46 rfl (lyx_is hy 0 10 rfl) (rfx hr 0 3 43 (by decide)) ?_
        refine WP_iload_n dX10_best_37 rfl ?_
        refine WP_iload_n dX10_best_38 rfl ?_
        refine WP_aload_n dX10_best_39 rfl ?_
        refine WP_getr dX10_best_40 fX10_33 rfl (lyx_is hy 0 10 rfl) (rfx hr 0 2 5 (by decide)) ?_
        refine WP_iload_n dX10_best_43 rfl ?_
        refine WP_iload_n dX10_best_44 rfl ?_
        refine WP_iload_n dX10_best_45 rfl ?_
        refine WP_callV3 (k := 0) dX10_best_46 ⟨⟨⟨by decide, by decide⟩, zX0_earned⟩, lX10_209, by decide, rfl, vX0_earned.1, vX0_earned.2⟩ (lyx_is hy 5 0 rfl) (sx_earned_6 hy hr hT hI a b c (by omega) (by omega) (by omega) (by omega) (by omega) (by omega)) (Nat.le_of_ble_eq_true rfl) ?_
        intro r Ia Ja Ra hq
        obtain ⟨⟨ea, eb, ec⟩, v15758, rfl, av15758, bv15758, cv15758⟩ := hq
        show WP _ _ _ _ (.int _ :: _) _ _ _ _
        rw [ea, eb, ec]
        clear ea eb ec Ia Ja Ra
        refine WP_iload dX10_best_49 rfl ?_
        refine WP_iload dX10_best_51 rfl ?_
        refine WP_callV5 (k := 2) dX10_best_53 ⟨⟨⟨by decide, by decide⟩, zX2_search⟩, lX10_212, by decide, rfl, vX2_search.1, vX2_search.2⟩ (lyx_is hy 43 2 rfl) (sx_searchx_6 hy hr hP hT hI a b v15758 e k (by omega) (by omega) (by omega) (by omega) (by omega) (by omega) (by omega) (by omega) (by omega) (by omega)) (Nat.le_of_ble_eq_true rfl) ?_
        intro r I15759 J15760 R15761 hq
        obtain ⟨⟨hI15759, ⟨hrI15759, ⟨htI15759, hsI15759⟩, hpI15759⟩, fiI15759, fjI15759⟩, v15762, rfl, av15762, bv15762, cv15762⟩ := hq
        show WP _ _ _ _ (.int _ :: _) _ _ _ _
        have ht_I15759 := htI15759.trans hT
        have hs_I15759 : R15761 (ad g 0) 10 = R (ad g 0) 10 := hsI15759.trans rfl
        have fr15763 : fz 74 g [43, 44, 47, 48] I I15759 := fz_tr fr0 (fz_mono fiI15759 (by decide))
        have fr15764 : fz 74 g [45, 46] J J15760 := fz_tr frj0 (fz_mono fjI15759 (by decide))
        have e15765 : I15759 (ad g 1) 1 = L := hI15759.2
        have b15766 := BT_get hI15759.1 1 1 2 (0) (0) (900) (by decide) 1 (by decide) (by decide)
        rw [e15765] at b15766
        refine WP_pop dX10_best_56 rfl ?_
        refine WP_aload_n dX10_best_57 rfl ?_
        refine WP_getr dX10_best_58 fX10_46 rfl (lyx_is hy 0 10 rfl) (rfx hrI15759 0 3 43 (by decide)) ?_
        refine WQ_getiu dX10_best_61 fX10_216 rfl (lyx_is hy 43 2 rfl) (fun v15767 ev15767 => ?_)
        exact WP_iret dX10_best_64 rfl ⟨⟨hI15759, ⟨hrI15759, ⟨ht_I15759.trans hT.symm, hs_I15759⟩, hpI15759⟩, fr15763, fr15764⟩, _, rfl⟩
      · refine WQ_iconst (0) (0) dX10_best_31 rfl rfl (fun v15768 hv15768 => ?_)
        exact WP_iret dX10_best_32 rfl ⟨⟨hI, ⟨hr, ⟨hT.trans hT.symm, rfl⟩, hP⟩, fr0, frj0⟩, _, rfl⟩
    · refine WQ_bipush (-2) (-2) dX10_best_23 rfl rfl (fun v15769 hv15769 => ?_)
      exact WP_iret dX10_best_25 rfl ⟨⟨hI, ⟨hr, ⟨hT.trans hT.symm, rfl⟩, hP⟩, fr0, frj0⟩, _, rfl⟩
set_option maxHeartbeats 4000000 in
set_option maxRecDepth 100000 in
theorem sx_bestAct_6 {g : GG} {n : Int} {L : Int32} (hy : LyX g)  {I : pI} {J : pJ} {R : pR} (hr : RfX g R) (hP : NL g R) (hT : R (ad g 5) 0 = some (ad g 6)) (hI : XI g n L I) (a : Int32) (b : Int32) (c : Int32) (e : Int32) (k : Int32)  : SP g mX10_bestAct [.ref (ad g 0), .int a, .int b, .int c, .int e, .int k] I J R (fun r I' J' R' => (XI g n L I' ∧ (RfX g R' ∧ (R' (ad g 5) 0 = R (ad g 5) 0 ∧ R' (ad g 0) 10 = R (ad g 0) 10) ∧ NL g R') ∧ fz 74 g [43, 44, 47, 48] I I' ∧ fz 74 g [45, 46] J J') ∧ ∃ v : Int32, r = some (.int v)) := by
  refine SP_of ⟨by decide, rfl⟩ (Nat.le_of_ble_eq_true rfl) ?_
  have e15770 : I (ad g 1) 1 = L := hI.2
  have b15771 := BT_get hI.1 1 1 2 (0) (0) (900) (by decide) 1 (by decide) (by decide)
  rw [e15770] at b15771
  have fr0 : fz 74 g [43, 44, 47, 48] I I := fz_rf
  have frj0 : fz 74 g [45, 46] J J := fz_rf
  refine WP_aload_n dX10_bestAct_0 rfl ?_
  refine WP_iload_n dX10_bestAct_1 rfl ?_
  refine WP_iload_n dX10_bestAct_2 rfl ?_
  refine WP_iload_n dX10_bestAct_3 rfl ?_
  refine WP_iload dX10_bestAct_4 rfl ?_
  refine WP_callV4 (k := 10) dX10_bestAct_6 ⟨⟨⟨by decide, by decide⟩, zX10_isPerson⟩, lX10_188, by decide, rfl, vX10_isPerson.1, vX10_isPerson.2⟩ (lyx_is hy 0 10 rfl) (sx_isPerson_6 hy hr hT hI a b c e    ) (Nat.le_of_ble_eq_true rfl) ?_
  intro r Ia Ja Ra hq
  obtain ⟨⟨ea, eb, ec⟩, v15772, rfl, av15772, bv15772, cv15772⟩ := hq
  show WP _ _ _ _ (.int _ :: _) _ _ _ _
  rw [ea, eb, ec]
  clear ea eb ec Ia Ja Ra
  refine WQ_if_eq 23 dX10_bestAct_9 rfl (fun c15772 => ?_) (fun c15772 => ?_)
  · refine WQ_bipush (-2) (-2) dX10_bestAct_23 rfl rfl (fun v15774 hv15774 => ?_)
    exact WP_iret dX10_bestAct_25 rfl ⟨⟨hI, ⟨hr, ⟨hT.trans hT.symm, rfl⟩, hP⟩, fr0, frj0⟩, _, rfl⟩
  · refine WP_iload dX10_bestAct_12 rfl ?_
    refine WQ_iconst (0) (0) dX10_bestAct_14 rfl rfl (fun v15775 hv15775 => ?_)
    refine WQ_bipush (28) (28) dX10_bestAct_15 rfl rfl (fun v15776 hv15776 => ?_)
    refine WP_callS3 dX10_bestAct_17 ⟨⟨⟨by decide, by decide⟩, zX10_within⟩, lX10_206, tX10_within⟩ (sx_within hy hr hI k v15775 v15776   ) (Nat.le_of_ble_eq_true rfl) ?_
    intro r Ia Ja Ra hq
    obtain ⟨⟨ea, eb, ec⟩, v15777, rfl, av15777, bv15777, cv15777⟩ := hq
    show WP _ _ _ _ (.int _ :: _) _ _ _ _
    rw [ea, eb, ec]
    clear ea eb ec Ia Ja Ra
    refine WQ_if_ne 26 dX10_bestAct_20 rfl (fun c15777 => ?_) (fun c15777 => ?_)
    · refine WP_iload dX10_bestAct_26 rfl ?_
      refine WQ_if_ne 33 dX10_bestAct_28 rfl (fun c15778 => ?_) (fun c15778 => ?_)
      · refine WP_aload_n dX10_bestAct_33 rfl ?_
        refine WP_getr dX10_bestAct_34 fX10_46 rfl (lyx_is hy 0 10 rfl) (rfx hr 0 3 43 (by decide)) ?_
        refine WP_iload_n dX10_bestAct_37 rfl ?_
        refine WP_iload_n dX10_bestAct_38 rfl ?_
        refine WP_aload_n dX10_bestAct_39 rfl ?_
        refine WP_getr dX10_bestAct_40 fX10_33 rfl (lyx_is hy 0 10 rfl) (rfx hr 0 2 5 (by decide)) ?_
        refine WP_iload_n dX10_bestAct_43 rfl ?_
        refine WP_iload_n dX10_bestAct_44 rfl ?_
        refine WP_iload_n dX10_bestAct_45 rfl ?_
        refine WP_callV3 (k := 0) dX10_bestAct_46 ⟨⟨⟨by decide, by decide⟩, zX0_earned⟩, lX10_209, by decide, rfl, vX0_earned.1, vX0_earned.2⟩ (lyx_is hy 5 0 rfl) (sx_earned_6 hy hr hT hI a b c (by omega) (by omega) (by omega) (by omega) (by omega) (by omega)) (Nat.le_of_ble_eq_true rfl) ?_
        intro r Ia Ja Ra hq
        obtain ⟨⟨ea, eb, ec⟩, v15780, rfl, av15780, bv15780, cv15780⟩ := hq
        show WP _ _ _ _ (.int _ :: _) _ _ _ _
        rw [ea, eb, ec]
        clear ea eb ec Ia Ja Ra
        refine WP_iload dX10_bestAct_49 rfl ?_
        refine WP_iload dX10_bestAct_51 rfl ?_
        refine WP_callV5 (k := 2) dX10_bestAct_53 ⟨⟨⟨by decide, by decide⟩, zX2_search⟩, lX10_212, by decide, rfl, vX2_search.1, vX2_search.2⟩ (lyx_is hy 43 2 rfl) (sx_searchx_6 hy hr hP hT hI a b v15780 e k (by omega) (by omega) (by omega) (by omega) (by omega) (by omega) (by omega) (by omega) (by omega) (by omega)) (Nat.le_of_ble_eq_true rfl) ?_
        intro r I15781 J15782 R15783 hq
        obtain ⟨⟨hI15781, ⟨hrI15781, ⟨htI15781, hsI15781⟩, hpI15781⟩, fiI15781, fjI15781⟩, v15784, rfl, av15784, bv15784, cv15784⟩ := hq
        show WP _ _ _ _ (.int _ :: _) _ _ _ _
        have ht_I15781 := htI15781.trans hT
        have hs_I15781 : R15783 (ad g 0) 10 = R (ad g 0) 10 := hsI15781.trans rfl
        have fr15785 : fz 74 g [43, 44, 47, 48] I I15781 := fz_tr fr0 (fz_mono fiI15781 (by decide))
        have fr15786 : fz 74 g [45, 46] J J15782 := fz_tr frj0 (fz_mono fjI15781 (by decide))
        have e15787 : I15781 (ad g 1) 1 = L := hI15781.2
        have b15788 := BT_get hI15781.1 1 1 2 (0) (0) (900) (by decide) 1 (by decide) (by decide)
        rw [e15787] at b15788
        exact WP_iret dX10_bestAct_56 rfl ⟨⟨hI15781, ⟨hrI15781, ⟨ht_I15781.trans hT.symm, hs_I15781⟩, hpI15781⟩, fr15785, fr15786⟩, _, rfl⟩
      · refine WQ_iconst (-1) (-1) dX10_bestAct_31 rfl rfl (fun v15789 hv15789 => ?_)
        exact WP_iret dX10_bestAct_32 rfl ⟨⟨hI, ⟨hr, ⟨hT.trans hT.symm, rfl⟩, hP⟩, fr0, frj0⟩, _, rfl⟩
    · refine WQ_bipush (-2) (-2) dX10_bestAct_23 rfl rfl (fun v15790 hv15790 => ?_)
      exact WP_iret dX10_bestAct_25 rfl ⟨⟨hI, ⟨hr, ⟨hT.trans hT.symm, rfl⟩, hP⟩, fr0, frj0⟩, _, rfl⟩
set_option maxHeartbeats 4000000 in
set_option maxRecDepth 100000 in
theorem sx_wayAct_6 {g : GG} {n : Int} {L : Int32} (hy : LyX g)  {I : pI} {J : pJ} {R : pR} (hr : RfX g R) (hP : NL g R) (hT : R (ad g 5) 0 = some (ad g 6)) (hI : XI g n L I) (a : Int32) (b : Int32) (c : Int32) (e : Int32) (k : Int32)  : SP g mX10_wayAct [.ref (ad g 0), .int a, .int b, .int c, .int e, .int k] I J R (fun r I' J' R' => (XI g n L I' ∧ (RfX g R' ∧ (R' (ad g 5) 0 = R (ad g 5) 0 ∧ R' (ad g 0) 10 = R (ad g 0) 10) ∧ NL g R') ∧ fz 74 g [43, 44, 47, 48, 50] I I' ∧ fz 74 g [45, 46] J J') ∧ ∃ v : Int32, r = some (.int v)) := by
  refine SP_of ⟨by decide, rfl⟩ (Nat.le_of_ble_eq_true rfl) ?_
  have e15791 : I (ad g 1) 1 = L := hI.2
  have b15792 := BT_get hI.1 1 1 2 (0) (0) (900) (by decide) 1 (by decide) (by decide)
  rw [e15791] at b15792
  have fr0 : fz 74 g [43, 44, 47, 48, 50] I I := fz_rf
  have frj0 : fz 74 g [45, 46] J J := fz_rf
  refine WP_iload_n dX10_wayAct_0 rfl ?_
  refine WP_callS1 dX10_wayAct_1 ⟨⟨⟨by decide, by decide⟩, zX10_isWay⟩, lX10_219, tX10_isWay⟩ (sx_isWay hy hr hI a ) (Nat.le_of_ble_eq_true rfl) ?_
  intro r Ia Ja Ra hq
  obtain ⟨⟨ea, eb, ec⟩, v15793, rfl, av15793, bv15793, cv15793⟩ := hq
  show WP _ _ _ _ (.int _ :: _) _ _ _ _
  rw [ea, eb, ec]
  clear ea eb ec Ia Ja Ra
  refine WQ_if_eq 20 dX10_wayAct_4 rfl (fun c15793 => ?_) (fun c15793 => ?_)
  · refine WQ_bipush (-2) (-2) dX10_wayAct_20 rfl rfl (fun v15795 hv15795 => ?_)
    exact WP_iret dX10_wayAct_22 rfl ⟨⟨hI, ⟨hr, ⟨hT.trans hT.symm, rfl⟩, hP⟩, fr0, frj0⟩, _, rfl⟩
  · refine WP_aload_n dX10_wayAct_7 rfl ?_
    refine WP_iload_n dX10_wayAct_8 rfl ?_
    refine WP_iload_n dX10_wayAct_9 rfl ?_
    refine WP_iload dX10_wayAct_10 rfl ?_
    refine WP_iload dX10_wayAct_12 rfl ?_
    refine WP_callV4 (k := 10) dX10_wayAct_14 ⟨⟨⟨by decide, by decide⟩, zX10_isPerson⟩, lX10_188, by decide, rfl, vX10_isPerson.1, vX10_isPerson.2⟩ (lyx_is hy 0 10 rfl) (sx_isPerson_6 hy hr hT hI b c e k    ) (Nat.le_of_ble_eq_true rfl) ?_
    intro r Ia Ja Ra hq
    obtain ⟨⟨ea, eb, ec⟩, v15796, rfl, av15796, bv15796, cv15796⟩ := hq
    show WP _ _ _ _ (.int _ :: _) _ _ _ _
    rw [ea, eb, ec]
    clear ea eb ec Ia Ja Ra
    refine WQ_if_ne 23 dX10_wayAct_17 rfl (fun c15796 => ?_) (fun c15796 => ?_)
    · refine WP_iload_n dX10_wayAct_23 rfl ?_
      refine WQ_iconst (3) (3) dX10_wayAct_24 rfl rfl (fun v15798 hv15798 => ?_)
      refine WQ_icmp_ne 44 dX10_wayAct_25 rfl (fun c15798 => ?_) (fun c15798 => ?_)
      · refine WP_aload_n dX10_wayAct_44 rfl ?_
        refine WP_getr dX10_wayAct_45 fX10_55 rfl (lyx_is hy 0 10 rfl) (rfx hr 0 4 49 (by decide)) ?_
        refine WP_getr dX10_wayAct_48 fX10_192 rfl (lyx_is hy 49 9 rfl) (rfx hr 49 0 50 (by decide)) ?_
        refine WP_astore (ls' := [(0, _), (1, _), (2, _), (3, _), (4, _), (5, _), (6, _)]) dX10_wayAct_51 (by decide) rfl ?_
        refine WP_aload dX10_wayAct_53 rfl ?_
        refine WP_aload_n dX10_wayAct_55 rfl ?_
        refine WP_getr dX10_wayAct_56 fX10_33 rfl (lyx_is hy 0 10 rfl) (rfx hr 0 2 5 (by decide)) ?_
        refine WP_iload_n dX10_wayAct_59 rfl ?_
        refine WP_iload_n dX10_wayAct_60 rfl ?_
        refine WP_callV3 (k := 6) dX10_wayAct_61 ⟨⟨⟨by decide, by decide⟩, zX6_load⟩, lX10_196, by decide, rfl, vX6_load.1, vX6_load.2⟩ (lyx_is hy 50 6 rfl) (sx_loadx_50_6 hy hr hT hI b c (by omega) (by omega) (by omega) (by omega)) (Nat.le_of_ble_eq_true rfl) ?_
        intro r I15800 J15801 Ra hq
        obtain ⟨⟨hI15800, ec, fiI15800, ejI15800, pI15800⟩, rfl⟩ := hq
        rw [ec]
        clear ec Ra
        have fr15802 : fz 74 g [43, 44, 47, 48, 50] I I15800 := fz_tr fr0 (fz_mono fiI15800 (by decide))
        rw [ejI15800]
        clear ejI15800 J15801
        have e15803 : I15800 (ad g 1) 1 = L := hI15800.2
        have b15804 := BT_get hI15800.1 1 1 2 (0) (0) (900) (by decide) 1 (by decide) (by decide)
        rw [e15803] at b15804
        refine WP_aload dX10_wayAct_64 rfl ?_
        refine WP_iload_n dX10_wayAct_66 rfl ?_
        refine WP_iload dX10_wayAct_67 rfl ?_
        refine WP_iload dX10_wayAct_69 rfl ?_
        refine WP_callV3 (k := 6) dX10_wayAct_71 ⟨⟨⟨by decide, by decide⟩, zX6_habit⟩, lX10_222, by decide, rfl, vX6_habit.1, vX6_habit.2⟩ (lyx_is hy 50 6 rfl) (sx_habita hy hr hI15800 a e k  (by omega) (by omega) (by omega) (by omega)) (Nat.le_of_ble_eq_true rfl) ?_
        intro r Ia Ja Ra hq
        obtain ⟨⟨ea, eb, ec⟩, v15805, rfl, av15805, bv15805, cv15805⟩ := hq
        show WP _ _ _ _ (.int _ :: _) _ _ _ _
        rw [ea, eb, ec]
        clear ea eb ec Ia Ja Ra
        exact WP_iret dX10_wayAct_74 rfl ⟨⟨hI15800, ⟨hr, ⟨hT.trans hT.symm, rfl⟩, hP⟩, fr15802, frj0⟩, _, rfl⟩
      · refine WP_aload_n dX10_wayAct_28 rfl ?_
        refine WP_getr dX10_wayAct_29 fX10_46 rfl (lyx_is hy 0 10 rfl) (rfx hr 0 3 43 (by decide)) ?_
        refine WP_iload_n dX10_wayAct_32 rfl ?_
        refine WP_iload_n dX10_wayAct_33 rfl ?_
        refine WP_iload dX10_wayAct_34 rfl ?_
        refine WP_iload dX10_wayAct_36 rfl ?_
        refine WQ_bipush (7) (7) dX10_wayAct_38 rfl rfl (fun v15806 hv15806 => ?_)
        refine WP_callV5 (k := 2) dX10_wayAct_40 ⟨⟨⟨by decide, by decide⟩, zX2_search⟩, lX10_212, by decide, rfl, vX2_search.1, vX2_search.2⟩ (lyx_is hy 43 2 rfl) (sx_searchx_6 hy hr hP hT hI b c e k v15806 (by omega) (by omega) (by omega) (by omega) (by omega) (by omega) (by omega) (by omega) (by omega) (by omega)) (Nat.le_of_ble_eq_true rfl) ?_
        intro r I15807 J15808 R15809 hq
        obtain ⟨⟨hI15807, ⟨hrI15807, ⟨htI15807, hsI15807⟩, hpI15807⟩, fiI15807, fjI15807⟩, v15810, rfl, av15810, bv15810, cv15810⟩ := hq
        show WP _ _ _ _ (.int _ :: _) _ _ _ _
        have ht_I15807 := htI15807.trans hT
        have hs_I15807 : R15809 (ad g 0) 10 = R (ad g 0) 10 := hsI15807.trans rfl
        have fr15811 : fz 74 g [43, 44, 47, 48, 50] I I15807 := fz_tr fr0 (fz_mono fiI15807 (by decide))
        have fr15812 : fz 74 g [45, 46] J J15808 := fz_tr frj0 (fz_mono fjI15807 (by decide))
        have e15813 : I15807 (ad g 1) 1 = L := hI15807.2
        have b15814 := BT_get hI15807.1 1 1 2 (0) (0) (900) (by decide) 1 (by decide) (by decide)
        rw [e15813] at b15814
        exact WP_iret dX10_wayAct_43 rfl ⟨⟨hI15807, ⟨hrI15807, ⟨ht_I15807.trans hT.symm, hs_I15807⟩, hpI15807⟩, fr15811, fr15812⟩, _, rfl⟩
    · refine WQ_bipush (-2) (-2) dX10_wayAct_20 rfl rfl (fun v15815 hv15815 => ?_)
      exact WP_iret dX10_wayAct_22 rfl ⟨⟨hI, ⟨hr, ⟨hT.trans hT.symm, rfl⟩, hP⟩, fr0, frj0⟩, _, rfl⟩
set_option maxHeartbeats 4000000 in
set_option maxRecDepth 100000 in
theorem sx_pass_27 {g : GG} {n : Int} {L : Int32} (hy : LyX g)  {I : pI} {J : pJ} {R : pR} (hr : RfX g R) (hP : NL g R) (hT : R (ad g 5) 0 = some (ad g 27)) (hI : XI g n L I) (a : Int32)  (hn : 0 ≤ n ∧ n ≤ 40000) (hb : (I (ad g 53) 1).toInt ≤ 23760 * n - 1663200 ∧ 0 ≤ (I (ad g 53) 0).toInt ∧ (I (ad g 53) 0).toInt ≤ 39900) : SP g mX10_pass [.ref (ad g 0), .int a] I J R (fun r I' J' R' => (XI g n L I' ∧ (RfX g R' ∧ (R' (ad g 5) 0 = R (ad g 5) 0 ∧ R' (ad g 0) 10 = R (ad g 0) 10) ∧ NL g R') ∧ fz 74 g [43, 44, 47, 48, 50, 51, 52, 53, 55] I I' ∧ fz 74 g [45, 46, 53] J J' ∧ ((0 ≤ a.toInt ∧ a.toInt ≤ 70) ∧ (I' (ad g 53) 0).toInt = (I (ad g 53) 0).toInt + a.toInt ∨ ¬ (0 ≤ a.toInt ∧ a.toInt ≤ 70) ∧ (I' (ad g 53) 0).toInt = (I (ad g 53) 0).toInt)) ∧ ∃ v : Int32, r = some (.int v) ∧ ((0 ≤ a.toInt ∧ a.toInt ≤ 70) ∧ v.toInt = (I (ad g 53) 0).toInt + a.toInt ∨ ¬ (0 ≤ a.toInt ∧ a.toInt ≤ 70) ∧ v.toInt = -2)) := by
  refine SP_of ⟨by decide, rfl⟩ (Nat.le_of_ble_eq_true rfl) ?_
  have e15816 : I (ad g 1) 1 = L := hI.2
  have b15817 := BT_get hI.1 1 1 2 (0) (0) (900) (by decide) 1 (by decide) (by decide)
  rw [e15816] at b15817
  have fr0 : fz 74 g [43, 44, 47, 48, 50, 51, 52, 53, 55] I I := fz_rf
  have frj0 : fz 74 g [45, 46, 53] J J := fz_rf
  obtain ⟨w15818, ew15818⟩ : ∃ w : Int32, I (ad g 53) 1 = w := ⟨_, rfl⟩
  have bw15818 := BT_get hI.1 53 1 2 (0) (23760) (0) (by decide) 1 (by decide) (by decide)
  rw [ew15818] at bw15818
  obtain ⟨w15819, ew15819⟩ : ∃ w : Int32, I (ad g 53) 0 = w := ⟨_, rfl⟩
  rw [ew15818, ew15819] at hb
  refine WP_iload_n dX10_pass_0 rfl ?_
  refine WQ_if_lt 10 dX10_pass_1 rfl (fun c15819 => ?_) (fun c15819 => ?_)
  · refine WQ_bipush (-2) (-2) dX10_pass_10 rfl rfl (fun v15821 hv15821 => ?_)
    exact WP_iret dX10_pass_12 rfl ⟨⟨hI, ⟨hr, ⟨hT.trans hT.symm, rfl⟩, hP⟩, fr0, frj0, (by rw [ew15819]; omega)⟩, _, rfl, (by rw [ew15819]; omega)⟩
  · refine WP_iload_n dX10_pass_4 rfl ?_
    refine WQ_bipush (70) (70) dX10_pass_5 rfl rfl (fun v15822 hv15822 => ?_)
    refine WQ_icmp_le 13 dX10_pass_7 rfl (fun c15822 => ?_) (fun c15822 => ?_)
    · refine WQ_iconst (0) (0) dX10_pass_13 rfl rfl (fun v15824 hv15824 => ?_)
      refine WP_istore_n (ls' := [(0, _), (1, _), (2, _)]) dX10_pass_14 (by decide) rfl ?_
      have lp15_15829 : ∀ (mz : Nat) (i15825 : Int32) (I15826 : pI) (J15827 : pJ) (RI15826 : pR), RfX g RI15826 → RI15826 (ad g 5) 0 = some (ad g 27) → RI15826 (ad g 0) 10 = R (ad g 0) 10 → NL g RI15826 → XI g n L I15826 → fz 74 g [43, 44, 47, 48, 50, 51, 52, 53, 55] I I15826 → fz 74 g [45, 46, 53] J J15827 → ∀ (w15828 : Int32), I15826 (ad g 53) 1 = w15828 → ∀ (w15829 : Int32), I15826 (ad g 53) 0 = w15829 → 0 ≤ i15825.toInt → i15825.toInt ≤ 70 → w15828.toInt ≤ w15818.toInt + 23760 * i15825.toInt → w15829.toInt = w15819.toInt + i15825.toInt → i15825.toInt ≤ a.toInt → (71 - i15825.toInt).toNat < mz → WP g mX10_pass 15 [(0, .ref (ad g 0)), (1, .int a), (2, .int i15825)] [] I15826 J15827 RI15826 (fun r I' J' R' => (XI g n L I' ∧ (RfX g R' ∧ (R' (ad g 5) 0 = R (ad g 5) 0 ∧ R' (ad g 0) 10 = R (ad g 0) 10) ∧ NL g R') ∧ fz 74 g [43, 44, 47, 48, 50, 51, 52, 53, 55] I I' ∧ fz 74 g [45, 46, 53] J J' ∧ ((0 ≤ a.toInt ∧ a.toInt ≤ 70) ∧ (I' (ad g 53) 0).toInt = (I (ad g 53) 0).toInt + a.toInt ∨ ¬ (0 ≤ a.toInt ∧ a.toInt ≤ 70) ∧ (I' (ad g 53) 0).toInt = (I (ad g 53) 0).toInt)) ∧ ∃ v : Int32, r = some (.int v) ∧ ((0 ≤ a.toInt ∧ a.toInt ≤ 70) ∧ v.toInt = (I (ad g 53) 0).toInt + a.toInt ∨ ¬ (0 ≤ a.toInt ∧ a.toInt ≤ 70) ∧ v.toInt = -2)) := by
        intro mz
        induction mz with
        | zero =>
          intro i15825 I15826 J15827 RI15826 hrI15826 hTI15826 hSI15826 hPI15826 hI15826 fiI15826 fjJ15827 w15828 ew15828 w15829 ew15829 ai15825 bi15825 j0_I15826 j1_I15826 j2_I15826 hmlp15_15829
          exact absurd hmlp15_15829 (Nat.not_lt_zero _)
        | succ mz ihlp15_15829 =>
          intro i15825 I15826 J15827 RI15826 hrI15826 hTI15826 hSI15826 hPI15826 hI15826 fiI15826 fjJ15827 w15828 ew15828 w15829 ew15829 ai15825 bi15825 j0_I15826 j1_I15826 j2_I15826 hmlp15_15829
          have bw15828 := BT_get hI15826.1 53 1 2 (0) (23760) (0) (by decide) 1 (by decide) (by decide)
          rw [ew15828] at bw15828
          have e15831 : I15826 (ad g 1) 1 = L := hI15826.2
          have b15832 := BT_get hI15826.1 1 1 2 (0) (0) (900) (by decide) 1 (by decide) (by decide)
          rw [e15831] at b15832
          refine WP_iload_n dX10_pass_15 rfl ?_
          refine WP_iload_n dX10_pass_16 rfl ?_
          refine WQ_icmp_ge 38 dX10_pass_17 rfl (fun c15832 => ?_) (fun c15832 => ?_)
          · refine WP_aload_n dX10_pass_38 rfl ?_
            refine WP_getr dX10_pass_39 fX10_62 rfl (lyx_is hy 0 10 rfl) (rfx hrI15826 0 5 53 (by decide)) ?_
            refine WQ_getim dX10_pass_42 fX10_232 rfl (lyx_is hy 53 4 rfl) ew15829 ?_
            exact WP_iret dX10_pass_45 rfl ⟨⟨hI15826, ⟨hrI15826, ⟨hTI15826.trans hT.symm, hSI15826⟩, hPI15826⟩, fiI15826, fjJ15827, (by rw [ew15829, ew15819]; omega)⟩, _, rfl, (by rw [ew15819]; omega)⟩
          · refine WP_aload_n dX10_pass_20 rfl ?_
            refine WP_getr dX10_pass_21 fX10_55 rfl (lyx_is hy 0 10 rfl) (rfx hrI15826 0 4 49 (by decide)) ?_
            refine WP_aload_n dX10_pass_24 rfl ?_
            refine WP_getr dX10_pass_25 fX10_62 rfl (lyx_is hy 0 10 rfl) (rfx hrI15826 0 5 53 (by decide)) ?_
            refine WQ_iconst (1) (1) dX10_pass_28 rfl rfl (fun v15834 hv15834 => ?_)
            refine WP_callV2 (k := 9) dX10_pass_29 ⟨⟨⟨by decide, by decide⟩, zX9_passDay⟩, lX10_228, by decide, rfl, vX9_passDay.1, vX9_passDay.2⟩ (lyx_is hy 49 9 rfl) (sx_passDay_53_27 hy hrI15826 hPI15826 hTI15826 hI15826 v15834 (by omega) (by omega) (by omega) (by rw [ew15828, ew15829]; omega)) (Nat.le_of_ble_eq_true rfl) ?_
            intro r I15835 J15836 R15837 hq
            obtain ⟨⟨hI15835, ⟨hrI15835, ⟨htI15835, hsI15835⟩, hpI15835⟩, fiI15835, fjI15835, pI15835⟩, rfl⟩ := hq
            have ht_I15835 := htI15835.trans hTI15826
            have hs_I15835 : R15837 (ad g 0) 10 = R (ad g 0) 10 := hsI15835.trans hSI15826
            have fr15838 : fz 74 g [43, 44, 47, 48, 50, 51, 52, 53, 55] I I15835 := fz_tr fiI15826 (fz_mono fiI15835 (by decide))
            have fr15839 : fz 74 g [45, 46, 53] J J15836 := fz_tr fjJ15827 (fz_mono fjI15835 (by decide))
            have e15840 : I15835 (ad g 1) 1 = L := hI15835.2
            have b15841 := BT_get hI15835.1 1 1 2 (0) (0) (900) (by decide) 1 (by decide) (by decide)
            rw [e15840] at b15841
            obtain ⟨w15842, ew15842⟩ : ∃ w : Int32, I15835 (ad g 53) 1 = w := ⟨_, rfl⟩
            have bw15842 := BT_get hI15835.1 53 1 2 (0) (23760) (0) (by decide) 1 (by decide) (by decide)
            rw [ew15842] at bw15842
            obtain ⟨w15843, ew15843⟩ : ∃ w : Int32, I15835 (ad g 53) 0 = w := ⟨_, rfl⟩
            rw [ew15842, ew15843, ew15828, ew15829] at pI15835
            refine WP_iinc (ls' := [(0, _), (1, _), (2, _)]) dX10_pass_32 rfl (by decide) rfl ?_
            have hv15844 : (i15825 + Int32.ofInt (1)).toInt = i15825.toInt + (1) := ia_n rfl (by omega) (by omega)
            generalize i15825 + Int32.ofInt (1) = v15844 at hv15844 ⊢
            refine WP_goto 15 dX10_pass_35 rfl ?_
            exact WP_sub (fc rfl (fc rfl (fc rfl fn))) (ihlp15_15829 v15844 I15835 J15836 R15837 hrI15835 ht_I15835 hs_I15835 hpI15835 hI15835 fr15838 fr15839 w15842 ew15842 w15843 ew15843 (by omega) (by omega) (by omega) (by omega) (by omega) (by omega))
      exact WP_sub (fc rfl (fc rfl (fc rfl fn))) (lp15_15829 _ v15824 I J R hr hT rfl hP hI fr0 frj0 w15818 ew15818 w15819 ew15819 (by omega) (by omega) (by omega) (by omega) (by omega) (Nat.lt_succ_self _))
    · refine WQ_bipush (-2) (-2) dX10_pass_10 rfl rfl (fun v15845 hv15845 => ?_)
      exact WP_iret dX10_pass_12 rfl ⟨⟨hI, ⟨hr, ⟨hT.trans hT.symm, rfl⟩, hP⟩, fr0, frj0, (by rw [ew15819]; omega)⟩, _, rfl, (by rw [ew15819]; omega)⟩
set_option maxHeartbeats 4000000 in
set_option maxRecDepth 100000 in
theorem sx_worthOfAll_27 {g : GG} {n : Int} {L : Int32} (hy : LyX g)  {I : pI} {J : pJ} {R : pR} (hr : RfX g R) (hP : NL g R) (hT : R (ad g 5) 0 = some (ad g 27)) (hI : XI g n L I) (ra : Int32) (we : Int32) (ra_lo : 0 ≤ ra.toInt) (ra_hi : ra.toInt ≤ 18) (we_lo : 1 ≤ we.toInt) (we_hi : we.toInt ≤ 4) (hn : 0 ≤ n ∧ n ≤ 40000) : SP g mX10_worthOfAll [.ref (ad g 0), .int ra, .int we] I J R (fun r I' J' R' => (XI g n L I' ∧ (RfX g R' ∧ (R' (ad g 5) 0 = R (ad g 5) 0 ∧ R' (ad g 0) 10 = R (ad g 0) 10) ∧ NL g R') ∧ fz 74 g [23, 24, 43, 44, 47, 48, 50, 51, 52, 56, 57, 58] I I' ∧ fz 74 g [45, 46, 56] J J' ∧ LTX g 27 I') ∧ ∃ v : Int32, r = some (.int v)) := by
  refine SP_of ⟨by decide, rfl⟩ (Nat.le_of_ble_eq_true rfl) ?_
  have e15846 : I (ad g 1) 1 = L := hI.2
  have b15847 := BT_get hI.1 1 1 2 (0) (0) (900) (by decide) 1 (by decide) (by decide)
  rw [e15846] at b15847
  have fr0 : fz 74 g [23, 24, 43, 44, 47, 48, 50, 51, 52, 56, 57, 58] I I := fz_rf
  have frj0 : fz 74 g [45, 46, 56] J J := fz_rf
  refine WP_aload_n dX10_worthOfAll_0 rfl ?_
  refine WP_getr dX10_worthOfAll_1 fX10_66 rfl (lyx_is hy 0 10 rfl) (rfx hr 0 6 56 (by decide)) ?_
  refine WP_aload_n dX10_worthOfAll_4 rfl ?_
  refine WP_getr dX10_worthOfAll_5 fX10_62 rfl (lyx_is hy 0 10 rfl) (rfx hr 0 5 53 (by decide)) ?_
  refine WP_callV1 (k := 4) dX10_worthOfAll_8 ⟨⟨⟨by decide, by decide⟩, zX4_become⟩, lX10_249, by decide, rfl, vX4_become.1, vX4_become.2⟩ (lyx_is hy 56 4 rfl) (sx_becomef_56_53 hy hr hI  ) (Nat.le_of_ble_eq_true rfl) ?_
  intro r I15848 J15849 Ra hq
  obtain ⟨⟨hI15848, ec, fiI15848, fjI15848⟩, rfl⟩ := hq
  rw [ec]
  clear ec Ra
  have fr15850 : fz 74 g [23, 24, 43, 44, 47, 48, 50, 51, 52, 56, 57, 58] I I15848 := fz_tr fr0 (fz_mono fiI15848 (by decide))
  have fr15851 : fz 74 g [45, 46, 56] J J15849 := fz_tr frj0 (fz_mono fjI15848 (by decide))
  have e15852 : I15848 (ad g 1) 1 = L := hI15848.2
  have b15853 := BT_get hI15848.1 1 1 2 (0) (0) (900) (by decide) 1 (by decide) (by decide)
  rw [e15852] at b15853
  refine WP_aload_n dX10_worthOfAll_11 rfl ?_
  refine WP_getr dX10_worthOfAll_12 fX10_66 rfl (lyx_is hy 0 10 rfl) (rfx hr 0 6 56 (by decide)) ?_
  refine WP_aload_n dX10_worthOfAll_15 rfl ?_
  refine WP_getr dX10_worthOfAll_16 fX10_33 rfl (lyx_is hy 0 10 rfl) (rfx hr 0 2 5 (by decide)) ?_
  refine WP_getr dX10_worthOfAll_19 fX10_102 rfl (lyx_is hy 5 0 rfl) hT ?_
  refine WP_callV1 (k := 4) dX10_worthOfAll_22 ⟨⟨⟨by decide, by decide⟩, zX4_begin⟩, lX10_246, by decide, rfl, vX4_begin.1, vX4_begin.2⟩ (lyx_is hy 56 4 rfl) (sx_beginf_56_27 hy hr hI15848   (by omega)) (Nat.le_of_ble_eq_true rfl) ?_
  intro r I15854 J15855 Ra hq
  obtain ⟨⟨hI15854, ec, fiI15854, fjI15854, pI15854⟩, rfl⟩ := hq
  rw [ec]
  clear ec Ra
  have fr15856 : fz 74 g [23, 24, 43, 44, 47, 48, 50, 51, 52, 56, 57, 58] I I15854 := fz_tr fr15850 (fz_mono fiI15854 (by decide))
  have fr15857 : fz 74 g [45, 46, 56] J J15855 := fz_tr fr15851 (fz_mono fjI15854 (by decide))
  have e15858 : I15854 (ad g 1) 1 = L := hI15854.2
  have b15859 := BT_get hI15854.1 1 1 2 (0) (0) (900) (by decide) 1 (by decide) (by decide)
  rw [e15858] at b15859
  obtain ⟨w15860, ew15860⟩ : ∃ w : Int32, I15854 (ad g 56) 1 = w := ⟨_, rfl⟩
  have bw15860 := BT_get hI15854.1 56 1 2 (0) (23760) (700000) (by decide) 1 (by decide) (by decide)
  rw [ew15860] at bw15860
  rw [ew15860] at pI15854
  refine WP_aload_n dX10_worthOfAll_25 rfl ?_
  refine WP_getr dX10_worthOfAll_26 fX10_33 rfl (lyx_is hy 0 10 rfl) (rfx hr 0 2 5 (by decide)) ?_
  refine WP_iload_n dX10_worthOfAll_29 rfl ?_
  refine WQ_bipush (50) (50) dX10_worthOfAll_30 rfl rfl (fun v15861 hv15861 => ?_)
  refine WQ_imulk (50) dX10_worthOfAll_32 hv15861 (by omega) (by omega) (fun v15862 hv15862 => ?_)
  refine WP_callV1 (k := 0) dX10_worthOfAll_33 ⟨⟨⟨by decide, by decide⟩, zX0_lossesAt⟩, lX10_344, by decide, rfl, vX0_lossesAt.1, vX0_lossesAt.2⟩ (lyx_is hy 5 0 rfl) (sx_lossesAtf_27 hy hr hT hI15854 v15862 (by omega) (by omega)) (Nat.le_of_ble_eq_true rfl) ?_
  intro r I15863 J15864 Ra hq
  obtain ⟨⟨hI15863, ec, fiI15863, fjI15863⟩, rfl⟩ := hq
  rw [ec]
  clear ec Ra
  have fr15865 : fz 74 g [23, 24, 43, 44, 47, 48, 50, 51, 52, 56, 57, 58] I I15863 := fz_tr fr15856 (fz_mono fiI15863 (by decide))
  have fr15866 : fz 74 g [45, 46, 56] J J15864 := fz_tr fr15857 (fz_mono fjI15863 (by decide))
  have e15867 : I15863 (ad g 56) 1 = w15860 := by rw [fz_at fiI15863 56 (by decide) (by decide)]; exact ew15860
  have e15868 : I15863 (ad g 1) 1 = L := hI15863.2
  have b15869 := BT_get hI15863.1 1 1 2 (0) (0) (900) (by decide) 1 (by decide) (by decide)
  rw [e15868] at b15869
  refine WQ_iconst (0) (0) dX10_worthOfAll_36 rfl rfl (fun v15870 hv15870 => ?_)
  refine WP_istore_n (ls' := [(0, _), (1, _), (2, _), (3, _)]) dX10_worthOfAll_37 (by decide) rfl ?_
  have lp38_15874 : ∀ (mz : Nat) (i15871 : Int32) (I15872 : pI) (J15873 : pJ) (RI15872 : pR), RfX g RI15872 → RI15872 (ad g 5) 0 = some (ad g 27) → RI15872 (ad g 0) 10 = R (ad g 0) 10 → NL g RI15872 → XI g n L I15872 → fz 74 g [23, 24, 43, 44, 47, 48, 50, 51, 52, 56, 57, 58] I I15872 → fz 74 g [45, 46, 56] J J15873 → ∀ (w15874 : Int32), I15872 (ad g 56) 1 = w15874 → 0 ≤ i15871.toInt → i15871.toInt ≤ 28 → w15874.toInt ≤ 23760 * i15871.toInt → (29 - i15871.toInt).toNat < mz → WP g mX10_worthOfAll 38 [(0, .ref (ad g 0)), (1, .int ra), (2, .int we), (3, .int i15871)] [] I15872 J15873 RI15872 (fun r I' J' R' => (XI g n L I' ∧ (RfX g R' ∧ (R' (ad g 5) 0 = R (ad g 5) 0 ∧ R' (ad g 0) 10 = R (ad g 0) 10) ∧ NL g R') ∧ fz 74 g [23, 24, 43, 44, 47, 48, 50, 51, 52, 56, 57, 58] I I' ∧ fz 74 g [45, 46, 56] J J' ∧ LTX g 27 I') ∧ ∃ v : Int32, r = some (.int v)) := by
    intro mz
    induction mz with
    | zero =>
      intro i15871 I15872 J15873 RI15872 hrI15872 hTI15872 hSI15872 hPI15872 hI15872 fiI15872 fjJ15873 w15874 ew15874 ai15871 bi15871 j0_I15872 hmlp38_15874
      exact absurd hmlp38_15874 (Nat.not_lt_zero _)
    | succ mz ihlp38_15874 =>
      intro i15871 I15872 J15873 RI15872 hrI15872 hTI15872 hSI15872 hPI15872 hI15872 fiI15872 fjJ15873 w15874 ew15874 ai15871 bi15871 j0_I15872 hmlp38_15874
      have bw15874 := BT_get hI15872.1 56 1 2 (0) (23760) (700000) (by decide) 1 (by decide) (by decide)
      rw [ew15874] at bw15874
      have e15876 : I15872 (ad g 1) 1 = L := hI15872.2
      have b15877 := BT_get hI15872.1 1 1 2 (0) (0) (900) (by decide) 1 (by decide) (by decide)
      rw [e15876] at b15877
      refine WP_iload_n dX10_worthOfAll_38 rfl ?_
      refine WP_iload_n dX10_worthOfAll_39 rfl ?_
      refine WQ_bipush (7) (7) dX10_worthOfAll_40 rfl rfl (fun v15878 hv15878 => ?_)
      refine WQ_imulk (7) dX10_worthOfAll_42 hv15878 (by omega) (by omega) (fun v15879 hv15879 => ?_)
      refine WQ_icmp_ge 64 dX10_worthOfAll_43 rfl (fun c15879 => ?_) (fun c15879 => ?_)
      · refine WP_aload_n dX10_worthOfAll_64 rfl ?_
        refine WP_getr dX10_worthOfAll_65 fX10_33 rfl (lyx_is hy 0 10 rfl) (rfx hrI15872 0 2 5 (by decide)) ?_
        refine WP_callV0 (k := 0) dX10_worthOfAll_68 ⟨⟨⟨by decide, by decide⟩, zX0_lossesAsTold⟩, lX10_347, by decide, rfl, vX0_lossesAsTold.1, vX0_lossesAsTold.2⟩ (lyx_is hy 5 0 rfl) (sx_lossesE_27 hy hrI15872 hTI15872 hI15872  ) (Nat.le_of_ble_eq_true rfl) ?_
        intro r I15881 J15882 Ra hq
        obtain ⟨⟨hI15881, ec, fiI15881, fjI15881, pI15881⟩, rfl⟩ := hq
        rw [ec]
        clear ec Ra
        have fr15883 : fz 74 g [23, 24, 43, 44, 47, 48, 50, 51, 52, 56, 57, 58] I I15881 := fz_tr fiI15872 (fz_mono fiI15881 (by decide))
        have fr15884 : fz 74 g [45, 46, 56] J J15882 := fz_tr fjJ15873 (fz_mono fjI15881 (by decide))
        have e15885 : I15881 (ad g 56) 1 = w15874 := by rw [fz_at fiI15881 56 (by decide) (by decide)]; exact ew15874
        have e15886 : I15881 (ad g 1) 1 = L := hI15881.2
        have b15887 := BT_get hI15881.1 1 1 2 (0) (0) (900) (by decide) 1 (by decide) (by decide)
        rw [e15886] at b15887
        refine WP_aload_n dX10_worthOfAll_71 rfl ?_
        refine WP_getr dX10_worthOfAll_72 fX10_66 rfl (lyx_is hy 0 10 rfl) (rfx hrI15872 0 6 56 (by decide)) ?_
        refine WQ_iconst (4) (4) dX10_worthOfAll_75 rfl rfl (fun v15888 hv15888 => ?_)
        refine WP_callV1 (k := 4) dX10_worthOfAll_76 ⟨⟨⟨by decide, by decide⟩, zX4_sum⟩, lX10_350, by decide, rfl, vX4_sum.1, vX4_sum.2⟩ (lyx_is hy 56 4 rfl) (sx_sum_56 hy hrI15872 hI15881 v15888 (by omega) (by omega)) (Nat.le_of_ble_eq_true rfl) ?_
        intro r Ia Ja Ra hq
        obtain ⟨⟨ea, eb, ec⟩, v15889, rfl⟩ := hq
        show WP _ _ _ _ (.int _ :: _) _ _ _ _
        rw [ea, eb, ec]
        clear ea eb ec Ia Ja Ra
        exact WP_iret dX10_worthOfAll_79 rfl ⟨⟨hI15881, ⟨hrI15872, ⟨hTI15872.trans hT.symm, hSI15872⟩, hPI15872⟩, fr15883, fr15884, pI15881⟩, _, rfl⟩
      · refine WP_aload_n dX10_worthOfAll_46 rfl ?_
        refine WP_getr dX10_worthOfAll_47 fX10_55 rfl (lyx_is hy 0 10 rfl) (rfx hrI15872 0 4 49 (by decide)) ?_
        refine WP_aload_n dX10_worthOfAll_50 rfl ?_
        refine WP_getr dX10_worthOfAll_51 fX10_66 rfl (lyx_is hy 0 10 rfl) (rfx hrI15872 0 6 56 (by decide)) ?_
        refine WQ_iconst (1) (1) dX10_worthOfAll_54 rfl rfl (fun v15890 hv15890 => ?_)
        refine WP_callV2 (k := 9) dX10_worthOfAll_55 ⟨⟨⟨by decide, by decide⟩, zX9_passDay⟩, lX10_228, by decide, rfl, vX9_passDay.1, vX9_passDay.2⟩ (lyx_is hy 49 9 rfl) (sx_passDay_56_27 hy hrI15872 hPI15872 hTI15872 hI15872 v15890 (by omega) (by omega) (by omega) (by rw [ew15874]; omega)) (Nat.le_of_ble_eq_true rfl) ?_
        intro r I15891 J15892 R15893 hq
        obtain ⟨⟨hI15891, ⟨hrI15891, ⟨htI15891, hsI15891⟩, hpI15891⟩, fiI15891, fjI15891, pI15891⟩, rfl⟩ := hq
        have ht_I15891 := htI15891.trans hTI15872
        have hs_I15891 : R15893 (ad g 0) 10 = R (ad g 0) 10 := hsI15891.trans hSI15872
        have fr15894 : fz 74 g [23, 24, 43, 44, 47, 48, 50, 51, 52, 56, 57, 58] I I15891 := fz_tr fiI15872 (fz_mono fiI15891 (by decide))
        have fr15895 : fz 74 g [45, 46, 56] J J15892 := fz_tr fjJ15873 (fz_mono fjI15891 (by decide))
        have e15896 : I15891 (ad g 1) 1 = L := hI15891.2
        have b15897 := BT_get hI15891.1 1 1 2 (0) (0) (900) (by decide) 1 (by decide) (by decide)
        rw [e15896] at b15897
        obtain ⟨w15898, ew15898⟩ : ∃ w : Int32, I15891 (ad g 56) 1 = w := ⟨_, rfl⟩
        have bw15898 := BT_get hI15891.1 56 1 2 (0) (23760) (700000) (by decide) 1 (by decide) (by decide)
        rw [ew15898] at bw15898
        rw [ew15898, ew15874] at pI15891
        refine WP_iinc (ls' := [(0, _), (1, _), (2, _), (3, _)]) dX10_worthOfAll_58 rfl (by decide) rfl ?_
        have hv15899 : (i15871 + Int32.ofInt (1)).toInt = i15871.toInt + (1) := ia_n rfl (by omega) (by omega)
        generalize i15871 + Int32.ofInt (1) = v15899 at hv15899 ⊢
        refine WP_goto 38 dX10_worthOfAll_61 rfl ?_
        exact WP_sub (fc rfl (fc rfl (fc rfl (fc rfl fn)))) (ihlp38_15874 v15899 I15891 J15892 R15893 hrI15891 ht_I15891 hs_I15891 hpI15891 hI15891 fr15894 fr15895 w15898 ew15898 (by omega) (by omega) (by omega) (by omega))
  exact WP_sub (fc rfl (fc rfl (fc rfl (fc rfl fn)))) (lp38_15874 _ v15870 I15863 J15864 R hr hT rfl hP hI15863 fr15865 fr15866 w15860 e15867 (by omega) (by omega) (by omega) (Nat.lt_succ_self _))
set_option maxHeartbeats 4000000 in
set_option maxRecDepth 100000 in
theorem sx_worthAt_27 {g : GG} {n : Int} {L : Int32} (hy : LyX g)  {I : pI} {J : pJ} {R : pR} (hr : RfX g R) (hP : NL g R) (hT : R (ad g 5) 0 = some (ad g 27)) (hI : XI g n L I) (a : Int32) (b : Int32)  (hn : 0 ≤ n ∧ n ≤ 40000) : SP g mX10_worthAt [.ref (ad g 0), .int a, .int b] I J R (fun r I' J' R' => (XI g n L I' ∧ (RfX g R' ∧ (R' (ad g 5) 0 = R (ad g 5) 0 ∧ R' (ad g 0) 10 = R (ad g 0) 10) ∧ NL g R') ∧ fz 74 g [23, 24, 43, 44, 47, 48, 50, 51, 52, 56, 57, 58] I I' ∧ fz 74 g [45, 46, 56] J J' ∧ (LTX g 27 I → LTX g 27 I')) ∧ ∃ v : Int32, r = some (.int v)) := by
  refine SP_of ⟨by decide, rfl⟩ (Nat.le_of_ble_eq_true rfl) ?_
  have e15900 : I (ad g 1) 1 = L := hI.2
  have b15901 := BT_get hI.1 1 1 2 (0) (0) (900) (by decide) 1 (by decide) (by decide)
  rw [e15900] at b15901
  have fr0 : fz 74 g [23, 24, 43, 44, 47, 48, 50, 51, 52, 56, 57, 58] I I := fz_rf
  have frj0 : fz 74 g [45, 46, 56] J J := fz_rf
  refine WP_iload_n dX10_worthAt_0 rfl ?_
  refine WQ_if_lt 17 dX10_worthAt_1 rfl (fun c15901 => ?_) (fun c15901 => ?_)
  · refine WQ_bipush (-2) (-2) dX10_worthAt_17 rfl rfl (fun v15903 hv15903 => ?_)
    refine WP_goto 28 dX10_worthAt_19 rfl ?_
    exact WP_iret dX10_worthAt_28 rfl ⟨⟨hI, ⟨hr, ⟨hT.trans hT.symm, rfl⟩, hP⟩, fr0, frj0, id⟩, _, rfl⟩
  · refine WP_iload_n dX10_worthAt_4 rfl ?_
    refine WQ_bipush (18) (18) dX10_worthAt_5 rfl rfl (fun v15904 hv15904 => ?_)
    refine WQ_icmp_gt 17 dX10_worthAt_7 rfl (fun c15904 => ?_) (fun c15904 => ?_)
    · refine WQ_bipush (-2) (-2) dX10_worthAt_17 rfl rfl (fun v15906 hv15906 => ?_)
      refine WP_goto 28 dX10_worthAt_19 rfl ?_
      exact WP_iret dX10_worthAt_28 rfl ⟨⟨hI, ⟨hr, ⟨hT.trans hT.symm, rfl⟩, hP⟩, fr0, frj0, id⟩, _, rfl⟩
    · refine WP_iload_n dX10_worthAt_10 rfl ?_
      refine WP_callS1 dX10_worthAt_11 ⟨⟨⟨by decide, by decide⟩, zX10_isWeeks⟩, lX10_253, tX10_isWeeks⟩ (sx_isWeeks hy hr hI b ) (Nat.le_of_ble_eq_true rfl) ?_
      intro r Ia Ja Ra hq
      obtain ⟨⟨ea, eb, ec⟩, v15907, rfl, av15907, bv15907, cv15907⟩ := hq
      show WP _ _ _ _ (.int _ :: _) _ _ _ _
      rw [ea, eb, ec]
      clear ea eb ec Ia Ja Ra
      refine WQ_if_ne 22 dX10_worthAt_14 rfl (fun c15907 => ?_) (fun c15907 => ?_)
      · refine WP_aload_n dX10_worthAt_22 rfl ?_
        refine WP_iload_n dX10_worthAt_23 rfl ?_
        refine WP_iload_n dX10_worthAt_24 rfl ?_
        refine WP_callV2 (k := 10) dX10_worthAt_25 ⟨⟨⟨by decide, by decide⟩, zX10_worthOfAll⟩, lX10_256, by decide, rfl, vX10_worthOfAll.1, vX10_worthOfAll.2⟩ (lyx_is hy 0 10 rfl) (sx_worthOfAll_27 hy hr hP hT hI a b (by omega) (by omega) (by omega) (by omega) (by omega)) (Nat.le_of_ble_eq_true rfl) ?_
        intro r I15909 J15910 R15911 hq
        obtain ⟨⟨hI15909, ⟨hrI15909, ⟨htI15909, hsI15909⟩, hpI15909⟩, fiI15909, fjI15909, pI15909⟩, v15912, rfl⟩ := hq
        show WP _ _ _ _ (.int _ :: _) _ _ _ _
        have ht_I15909 := htI15909.trans hT
        have hs_I15909 : R15911 (ad g 0) 10 = R (ad g 0) 10 := hsI15909.trans rfl
        have fr15913 : fz 74 g [23, 24, 43, 44, 47, 48, 50, 51, 52, 56, 57, 58] I I15909 := fz_tr fr0 (fz_mono fiI15909 (by decide))
        have fr15914 : fz 74 g [45, 46, 56] J J15910 := fz_tr frj0 (fz_mono fjI15909 (by decide))
        have e15915 : I15909 (ad g 1) 1 = L := hI15909.2
        have b15916 := BT_get hI15909.1 1 1 2 (0) (0) (900) (by decide) 1 (by decide) (by decide)
        rw [e15915] at b15916
        exact WP_iret dX10_worthAt_28 rfl ⟨⟨hI15909, ⟨hrI15909, ⟨ht_I15909.trans hT.symm, hs_I15909⟩, hpI15909⟩, fr15913, fr15914, (fun _ => pI15909)⟩, _, rfl⟩
      · refine WQ_bipush (-2) (-2) dX10_worthAt_17 rfl rfl (fun v15917 hv15917 => ?_)
        refine WP_goto 28 dX10_worthAt_19 rfl ?_
        exact WP_iret dX10_worthAt_28 rfl ⟨⟨hI, ⟨hr, ⟨hT.trans hT.symm, rfl⟩, hP⟩, fr0, frj0, id⟩, _, rfl⟩
set_option maxHeartbeats 4000000 in
set_option maxRecDepth 100000 in
theorem sx_rate_27 {g : GG} {n : Int} {L : Int32} (hy : LyX g)  {I : pI} {J : pJ} {R : pR} (hr : RfX g R) (hP : NL g R) (hT : R (ad g 5) 0 = some (ad g 27)) (hI : XI g n L I) (a : Int32)  (hn : 0 ≤ n ∧ n ≤ 40000) : SP g mX10_rate [.ref (ad g 0), .int a] I J R (fun r I' J' R' => (XI g n L I' ∧ (RfX g R' ∧ (R' (ad g 5) 0 = R (ad g 5) 0 ∧ R' (ad g 0) 10 = R (ad g 0) 10) ∧ NL g R') ∧ fz 74 g [23, 24, 43, 44, 47, 48, 50, 51, 52, 56, 57, 58] I I' ∧ fz 74 g [45, 46, 56] J J' ∧ (LTX g 27 I → LTX g 27 I')) ∧ ∃ v : Int32, r = some (.int v)) := by
  refine SP_of ⟨by decide, rfl⟩ (Nat.le_of_ble_eq_true rfl) ?_
  have e15918 : I (ad g 1) 1 = L := hI.2
  have b15919 := BT_get hI.1 1 1 2 (0) (0) (900) (by decide) 1 (by decide) (by decide)
  rw [e15918] at b15919
  have fr0 : fz 74 g [23, 24, 43, 44, 47, 48, 50, 51, 52, 56, 57, 58] I I := fz_rf
  have frj0 : fz 74 g [45, 46, 56] J J := fz_rf
  refine WP_iload_n dX10_rate_0 rfl ?_
  refine WP_callS1 dX10_rate_1 ⟨⟨⟨by decide, by decide⟩, zX10_isWeeks⟩, lX10_253, tX10_isWeeks⟩ (sx_isWeeks hy hr hI a ) (Nat.le_of_ble_eq_true rfl) ?_
  intro r Ia Ja Ra hq
  obtain ⟨⟨ea, eb, ec⟩, v15920, rfl, av15920, bv15920, cv15920⟩ := hq
  show WP _ _ _ _ (.int _ :: _) _ _ _ _
  rw [ea, eb, ec]
  clear ea eb ec Ia Ja Ra
  refine WQ_if_ne 10 dX10_rate_4 rfl (fun c15920 => ?_) (fun c15920 => ?_)
  · refine WP_aload_n dX10_rate_10 rfl ?_
    refine WQ_iconst (0) (0) dX10_rate_11 rfl rfl (fun v15922 hv15922 => ?_)
    refine WP_iload_n dX10_rate_12 rfl ?_
    refine WP_callV2 (k := 10) dX10_rate_13 ⟨⟨⟨by decide, by decide⟩, zX10_worthOfAll⟩, lX10_256, by decide, rfl, vX10_worthOfAll.1, vX10_worthOfAll.2⟩ (lyx_is hy 0 10 rfl) (sx_worthOfAll_27 hy hr hP hT hI v15922 a (by omega) (by omega) (by omega) (by omega) (by omega)) (Nat.le_of_ble_eq_true rfl) ?_
    intro r I15923 J15924 R15925 hq
    obtain ⟨⟨hI15923, ⟨hrI15923, ⟨htI15923, hsI15923⟩, hpI15923⟩, fiI15923, fjI15923, pI15923⟩, v15926, rfl⟩ := hq
    show WP _ _ _ _ (.int _ :: _) _ _ _ _
    have ht_I15923 := htI15923.trans hT
    have hs_I15923 : R15925 (ad g 0) 10 = R (ad g 0) 10 := hsI15923.trans rfl
    have fr15927 : fz 74 g [23, 24, 43, 44, 47, 48, 50, 51, 52, 56, 57, 58] I I15923 := fz_tr fr0 (fz_mono fiI15923 (by decide))
    have fr15928 : fz 74 g [45, 46, 56] J J15924 := fz_tr frj0 (fz_mono fjI15923 (by decide))
    have e15929 : I15923 (ad g 1) 1 = L := hI15923.2
    have b15930 := BT_get hI15923.1 1 1 2 (0) (0) (900) (by decide) 1 (by decide) (by decide)
    rw [e15929] at b15930
    refine WP_istore_n (ls' := [(0, _), (1, _), (2, _)]) dX10_rate_16 (by decide) rfl ?_
    refine WQ_iconst (0) (0) dX10_rate_17 rfl rfl (fun v15931 hv15931 => ?_)
    refine WP_istore_n (ls' := [(0, _), (1, _), (2, _), (3, _)]) dX10_rate_18 (by decide) rfl ?_
    refine WQ_iconst (1) (1) dX10_rate_19 rfl rfl (fun v15932 hv15932 => ?_)
    refine WP_istore (ls' := [(0, _), (1, _), (2, _), (3, _), (4, _)]) dX10_rate_20 (by decide) rfl ?_
    have lp22_15938 : ∀ (mz : Nat) (i15933 : Int32) (i15934 : Int32) (i15935 : Int32) (I15936 : pI) (J15937 : pJ) (RI15936 : pR), RfX g RI15936 → RI15936 (ad g 5) 0 = some (ad g 27) → RI15936 (ad g 0) 10 = R (ad g 0) 10 → NL g RI15936 → XI g n L I15936 → fz 74 g [23, 24, 43, 44, 47, 48, 50, 51, 52, 56, 57, 58] I I15936 → fz 74 g [45, 46, 56] J J15937 → 1 ≤ i15935.toInt → i15935.toInt ≤ 19 → (LTX g 27 I15936) → (20 - i15935.toInt).toNat < mz → WP g mX10_rate 22 [(0, .ref (ad g 0)), (1, .int a), (2, .int i15933), (3, .int i15934), (4, .int i15935)] [] I15936 J15937 RI15936 (fun r I' J' R' => (XI g n L I' ∧ (RfX g R' ∧ (R' (ad g 5) 0 = R (ad g 5) 0 ∧ R' (ad g 0) 10 = R (ad g 0) 10) ∧ NL g R') ∧ fz 74 g [23, 24, 43, 44, 47, 48, 50, 51, 52, 56, 57, 58] I I' ∧ fz 74 g [45, 46, 56] J J' ∧ (LTX g 27 I → LTX g 27 I')) ∧ ∃ v : Int32, r = some (.int v)) := by
      intro mz
      induction mz with
      | zero =>
        intro i15933 i15934 i15935 I15936 J15937 RI15936 hrI15936 hTI15936 hSI15936 hPI15936 hI15936 fiI15936 fjJ15937 ai15935 bi15935 PT_I15936_15937 hmlp22_15938
        exact absurd hmlp22_15938 (Nat.not_lt_zero _)
      | succ mz ihlp22_15938 =>
        intro i15933 i15934 i15935 I15936 J15937 RI15936 hrI15936 hTI15936 hSI15936 hPI15936 hI15936 fiI15936 fjJ15937 ai15935 bi15935 PT_I15936_15937 hmlp22_15938
        have e15940 : I15936 (ad g 1) 1 = L := hI15936.2
        have b15941 := BT_get hI15936.1 1 1 2 (0) (0) (900) (by decide) 1 (by decide) (by decide)
        rw [e15940] at b15941
        refine WP_iload dX10_rate_22 rfl ?_
        refine WQ_bipush (18) (18) dX10_rate_24 rfl rfl (fun v15942 hv15942 => ?_)
        refine WQ_icmp_gt 56 dX10_rate_26 rfl (fun c15942 => ?_) (fun c15942 => ?_)
        · refine WP_iload_n dX10_rate_56 rfl ?_
          exact WP_iret dX10_rate_57 rfl ⟨⟨hI15936, ⟨hrI15936, ⟨hTI15936.trans hT.symm, hSI15936⟩, hPI15936⟩, fiI15936, fjJ15937, (fun _ => PT_I15936_15937)⟩, _, rfl⟩
        · refine WP_aload_n dX10_rate_29 rfl ?_
          refine WP_iload dX10_rate_30 rfl ?_
          refine WP_iload_n dX10_rate_32 rfl ?_
          refine WP_callV2 (k := 10) dX10_rate_33 ⟨⟨⟨by decide, by decide⟩, zX10_worthOfAll⟩, lX10_256, by decide, rfl, vX10_worthOfAll.1, vX10_worthOfAll.2⟩ (lyx_is hy 0 10 rfl) (sx_worthOfAll_27 hy hrI15936 hPI15936 hTI15936 hI15936 i15935 a (by omega) (by omega) (by omega) (by omega) (by omega)) (Nat.le_of_ble_eq_true rfl) ?_
          intro r I15944 J15945 R15946 hq
          obtain ⟨⟨hI15944, ⟨hrI15944, ⟨htI15944, hsI15944⟩, hpI15944⟩, fiI15944, fjI15944, pI15944⟩, v15947, rfl⟩ := hq
          show WP _ _ _ _ (.int _ :: _) _ _ _ _
          have ht_I15944 := htI15944.trans hTI15936
          have hs_I15944 : R15946 (ad g 0) 10 = R (ad g 0) 10 := hsI15944.trans hSI15936
          have fr15948 : fz 74 g [23, 24, 43, 44, 47, 48, 50, 51, 52, 56, 57, 58] I I15944 := fz_tr fiI15936 (fz_mono fiI15944 (by decide))
          have fr15949 : fz 74 g [45, 46, 56] J J15945 := fz_tr fjJ15937 (fz_mono fjI15944 (by decide))
          have e15950 : I15944 (ad g 1) 1 = L := hI15944.2
          have b15951 := BT_get hI15944.1 1 1 2 (0) (0) (900) (by decide) 1 (by decide) (by decide)
          rw [e15950] at b15951
          refine WP_istore (ls' := [(0, _), (1, _), (2, _), (3, _), (4, _), (5, _)]) dX10_rate_36 (by decide) rfl ?_
          refine WP_iload dX10_rate_38 rfl ?_
          refine WP_iload_n dX10_rate_40 rfl ?_
          refine WQ_icmp_le 50 dX10_rate_41 rfl (fun c15951 => ?_) (fun c15951 => ?_)
          · refine WP_iinc (ls' := [(0, _), (1, _), (2, _), (3, _), (4, _), (5, _)]) dX10_rate_50 rfl (by decide) rfl ?_
            have hv15953 : (i15935 + Int32.ofInt (1)).toInt = i15935.toInt + (1) := ia_n rfl (by omega) (by omega)
            generalize i15935 + Int32.ofInt (1) = v15953 at hv15953 ⊢
            refine WP_goto 22 dX10_rate_53 rfl ?_
            exact WP_sub (fc rfl (fc rfl (fc rfl (fc rfl (fc rfl fn))))) (ihlp22_15938 i15933 i15934 v15953 I15944 J15945 R15946 hrI15944 ht_I15944 hs_I15944 hpI15944 hI15944 fr15948 fr15949 (by omega) (by omega) pI15944 (by omega))
          · refine WP_iload dX10_rate_44 rfl ?_
            refine WP_istore_n (ls' := [(0, _), (1, _), (2, _), (3, _), (4, _), (5, _)]) dX10_rate_46 (by decide) rfl ?_
            refine WP_iload dX10_rate_47 rfl ?_
            refine WP_istore_n (ls' := [(0, _), (1, _), (2, _), (3, _), (4, _), (5, _)]) dX10_rate_49 (by decide) rfl ?_
            refine WP_iinc (ls' := [(0, _), (1, _), (2, _), (3, _), (4, _), (5, _)]) dX10_rate_50 rfl (by decide) rfl ?_
            have hv15954 : (i15935 + Int32.ofInt (1)).toInt = i15935.toInt + (1) := ia_n rfl (by omega) (by omega)
            generalize i15935 + Int32.ofInt (1) = v15954 at hv15954 ⊢
            refine WP_goto 22 dX10_rate_53 rfl ?_
            exact WP_sub (fc rfl (fc rfl (fc rfl (fc rfl (fc rfl fn))))) (ihlp22_15938 v15947 i15935 v15954 I15944 J15945 R15946 hrI15944 ht_I15944 hs_I15944 hpI15944 hI15944 fr15948 fr15949 (by omega) (by omega) pI15944 (by omega))
    exact WP_sub (fc rfl (fc rfl (fc rfl (fc rfl (fc rfl fn))))) (lp22_15938 _ v15926 v15931 v15932 I15923 J15924 R15925 hrI15923 ht_I15923 hs_I15923 hpI15923 hI15923 fr15927 fr15928 (by omega) (by omega) pI15923 (Nat.lt_succ_self _))
  · refine WQ_bipush (-2) (-2) dX10_rate_7 rfl rfl (fun v15955 hv15955 => ?_)
    exact WP_iret dX10_rate_9 rfl ⟨⟨hI, ⟨hr, ⟨hT.trans hT.symm, rfl⟩, hP⟩, fr0, frj0, id⟩, _, rfl⟩
set_option maxHeartbeats 4000000 in
set_option maxRecDepth 100000 in
theorem sx_turnChanges_27 {g : GG} {n : Int} {L : Int32} (hy : LyX g)  {I : pI} {J : pJ} {R : pR} (hr : RfX g R) (hP : NL g R) (hT : R (ad g 5) 0 = some (ad g 27)) (hI : XI g n L I)   (hn : 0 ≤ n ∧ n ≤ 40000) : SP g mX10_turnChanges [.ref (ad g 0)] I J R (fun r I' J' R' => (XI g n L I' ∧ (RfX g R' ∧ (R' (ad g 5) 0 = R (ad g 5) 0 ∧ R' (ad g 0) 10 = R (ad g 0) 10) ∧ NL g R') ∧ fz 74 g [22, 43, 44, 47, 48, 50, 51, 52, 56, 57, 58] I I' ∧ fz 74 g [45, 46, 56] J J') ∧ ∃ v : Int32, r = some (.int v) ∧ 0 ≤ v.toInt ∧ v.toInt ≤ 1) := by
  refine SP_of ⟨by decide, rfl⟩ (Nat.le_of_ble_eq_true rfl) ?_
  have e15956 : I (ad g 1) 1 = L := hI.2
  have b15957 := BT_get hI.1 1 1 2 (0) (0) (900) (by decide) 1 (by decide) (by decide)
  rw [e15956] at b15957
  have fr0 : fz 74 g [22, 43, 44, 47, 48, 50, 51, 52, 56, 57, 58] I I := fz_rf
  have frj0 : fz 74 g [45, 46, 56] J J := fz_rf
  refine WP_aload_n dX10_turnChanges_0 rfl ?_
  refine WP_getr dX10_turnChanges_1 fX10_66 rfl (lyx_is hy 0 10 rfl) (rfx hr 0 6 56 (by decide)) ?_
  refine WP_aload_n dX10_turnChanges_4 rfl ?_
  refine WP_getr dX10_turnChanges_5 fX10_62 rfl (lyx_is hy 0 10 rfl) (rfx hr 0 5 53 (by decide)) ?_
  refine WP_callV1 (k := 4) dX10_turnChanges_8 ⟨⟨⟨by decide, by decide⟩, zX4_become⟩, lX10_249, by decide, rfl, vX4_become.1, vX4_become.2⟩ (lyx_is hy 56 4 rfl) (sx_becomef_56_53 hy hr hI  ) (Nat.le_of_ble_eq_true rfl) ?_
  intro r I15958 J15959 Ra hq
  obtain ⟨⟨hI15958, ec, fiI15958, fjI15958⟩, rfl⟩ := hq
  rw [ec]
  clear ec Ra
  have fr15960 : fz 74 g [22, 43, 44, 47, 48, 50, 51, 52, 56, 57, 58] I I15958 := fz_tr fr0 (fz_mono fiI15958 (by decide))
  have fr15961 : fz 74 g [45, 46, 56] J J15959 := fz_tr frj0 (fz_mono fjI15958 (by decide))
  have e15962 : I15958 (ad g 1) 1 = L := hI15958.2
  have b15963 := BT_get hI15958.1 1 1 2 (0) (0) (900) (by decide) 1 (by decide) (by decide)
  rw [e15962] at b15963
  refine WP_aload_n dX10_turnChanges_11 rfl ?_
  refine WP_getr dX10_turnChanges_12 fX10_66 rfl (lyx_is hy 0 10 rfl) (rfx hr 0 6 56 (by decide)) ?_
  refine WP_aload_n dX10_turnChanges_15 rfl ?_
  refine WP_getr dX10_turnChanges_16 fX10_33 rfl (lyx_is hy 0 10 rfl) (rfx hr 0 2 5 (by decide)) ?_
  refine WP_getr dX10_turnChanges_19 fX10_102 rfl (lyx_is hy 5 0 rfl) hT ?_
  refine WP_callV1 (k := 4) dX10_turnChanges_22 ⟨⟨⟨by decide, by decide⟩, zX4_begin⟩, lX10_246, by decide, rfl, vX4_begin.1, vX4_begin.2⟩ (lyx_is hy 56 4 rfl) (sx_beginf_56_27 hy hr hI15958   (by omega)) (Nat.le_of_ble_eq_true rfl) ?_
  intro r I15964 J15965 Ra hq
  obtain ⟨⟨hI15964, ec, fiI15964, fjI15964, pI15964⟩, rfl⟩ := hq
  rw [ec]
  clear ec Ra
  have fr15966 : fz 74 g [22, 43, 44, 47, 48, 50, 51, 52, 56, 57, 58] I I15964 := fz_tr fr15960 (fz_mono fiI15964 (by decide))
  have fr15967 : fz 74 g [45, 46, 56] J J15965 := fz_tr fr15961 (fz_mono fjI15964 (by decide))
  have e15968 : I15964 (ad g 1) 1 = L := hI15964.2
  have b15969 := BT_get hI15964.1 1 1 2 (0) (0) (900) (by decide) 1 (by decide) (by decide)
  rw [e15968] at b15969
  obtain ⟨w15970, ew15970⟩ : ∃ w : Int32, I15964 (ad g 56) 1 = w := ⟨_, rfl⟩
  have bw15970 := BT_get hI15964.1 56 1 2 (0) (23760) (700000) (by decide) 1 (by decide) (by decide)
  rw [ew15970] at bw15970
  rw [ew15970] at pI15964
  refine WP_aload_n dX10_turnChanges_25 rfl ?_
  refine WP_getr dX10_turnChanges_26 fX10_55 rfl (lyx_is hy 0 10 rfl) (rfx hr 0 4 49 (by decide)) ?_
  refine WP_getr dX10_turnChanges_29 fX10_353 rfl (lyx_is hy 49 9 rfl) (rfx hr 49 1 51 (by decide)) ?_
  refine WQ_iconst (0) (0) dX10_turnChanges_32 rfl rfl (fun v15971 hv15971 => ?_)
  refine WP_callS2u dX10_turnChanges_33 ⟨⟨⟨by decide, by decide⟩, zJ7_fill_53178⟩, lX10_335, tJ7_fill_53178⟩ (s_fill hy hr 51 21 rfl rfl (by decide) v15971) (Nat.le_of_ble_eq_true rfl) ?_
  obtain ⟨I15972, eI15972⟩ : ∃ I9 : pI, I9 = fi I15964 (ad g 51) 21 v15971 := ⟨_, rfl⟩
  rw [← eI15972]
  have hI15972 : XI g n L I15972 := by rw [eI15972]; exact (xi_fill0 hy hI15964 51 21 v15971 (by decide) (by decide))
  have e15973 : I15972 (ad g 1) 1 = L := by rw [eI15972, fi_off (lyx_ne hy (by decide) (by decide) (by decide))]; exact e15968
  have e15974 : I15972 (ad g 56) 1 = w15970 := by rw [eI15972, fi_off (lyx_ne hy (by decide) (by decide) (by decide))]; exact ew15970
  have fr15975 : fz 74 g [22, 43, 44, 47, 48, 50, 51, 52, 56, 57, 58] I I15972 := by rw [eI15972]; exact fzx_fi hy fr15966 (by decide) (by decide)
  clear eI15972
  refine WQ_iconst (0) (0) dX10_turnChanges_36 rfl rfl (fun v15976 hv15976 => ?_)
  refine WP_istore_n (ls' := [(0, _), (1, _)]) dX10_turnChanges_37 (by decide) rfl ?_
  have lp38_15980 : ∀ (mz : Nat) (i15977 : Int32) (I15978 : pI) (J15979 : pJ) (RI15978 : pR), RfX g RI15978 → RI15978 (ad g 5) 0 = some (ad g 27) → RI15978 (ad g 0) 10 = R (ad g 0) 10 → NL g RI15978 → XI g n L I15978 → fz 74 g [22, 43, 44, 47, 48, 50, 51, 52, 56, 57, 58] I I15978 → fz 74 g [45, 46, 56] J J15979 → ∀ (w15980 : Int32), I15978 (ad g 56) 1 = w15980 → 0 ≤ i15977.toInt → i15977.toInt ≤ 7 → w15980.toInt ≤ 23760 * i15977.toInt → (8 - i15977.toInt).toNat < mz → WP g mX10_turnChanges 38 [(0, .ref (ad g 0)), (1, .int i15977)] [] I15978 J15979 RI15978 (fun r I' J' R' => (XI g n L I' ∧ (RfX g R' ∧ (R' (ad g 5) 0 = R (ad g 5) 0 ∧ R' (ad g 0) 10 = R (ad g 0) 10) ∧ NL g R') ∧ fz 74 g [22, 43, 44, 47, 48, 50, 51, 52, 56, 57, 58] I I' ∧ fz 74 g [45, 46, 56] J J') ∧ ∃ v : Int32, r = some (.int v) ∧ 0 ≤ v.toInt ∧ v.toInt ≤ 1) := by
    intro mz
    induction mz with
    | zero =>
      intro i15977 I15978 J15979 RI15978 hrI15978 hTI15978 hSI15978 hPI15978 hI15978 fiI15978 fjJ15979 w15980 ew15980 ai15977 bi15977 j0_I15978 hmlp38_15980
      exact absurd hmlp38_15980 (Nat.not_lt_zero _)
    | succ mz ihlp38_15980 =>
      intro i15977 I15978 J15979 RI15978 hrI15978 hTI15978 hSI15978 hPI15978 hI15978 fiI15978 fjJ15979 w15980 ew15980 ai15977 bi15977 j0_I15978 hmlp38_15980
      have bw15980 := BT_get hI15978.1 56 1 2 (0) (23760) (700000) (by decide) 1 (by decide) (by decide)
      rw [ew15980] at bw15980
      have e15982 : I15978 (ad g 1) 1 = L := hI15978.2
      have b15983 := BT_get hI15978.1 1 1 2 (0) (0) (900) (by decide) 1 (by decide) (by decide)
      rw [e15982] at b15983
      refine WP_iload_n dX10_turnChanges_38 rfl ?_
      refine WQ_bipush (7) (7) dX10_turnChanges_39 rfl rfl (fun v15984 hv15984 => ?_)
      refine WQ_icmp_ge 62 dX10_turnChanges_41 rfl (fun c15984 => ?_) (fun c15984 => ?_)
      · refine WP_aload_n dX10_turnChanges_62 rfl ?_
        refine WP_getr dX10_turnChanges_63 fX10_33 rfl (lyx_is hy 0 10 rfl) (rfx hrI15978 0 2 5 (by decide)) ?_
        refine WP_aload_n dX10_turnChanges_66 rfl ?_
        refine WP_getr dX10_turnChanges_67 fX10_55 rfl (lyx_is hy 0 10 rfl) (rfx hrI15978 0 4 49 (by decide)) ?_
        refine WP_getr dX10_turnChanges_70 fX10_353 rfl (lyx_is hy 49 9 rfl) (rfx hrI15978 49 1 51 (by decide)) ?_
        refine WP_callV1 (k := 0) dX10_turnChanges_73 ⟨⟨⟨by decide, by decide⟩, zX0_movePrices⟩, lX10_356, by decide, rfl, vX0_movePrices.1, vX0_movePrices.2⟩ (lyx_is hy 5 0 rfl) (sx_movePricesf_27 hy hrI15978 hTI15978 hI15978  ) (Nat.le_of_ble_eq_true rfl) ?_
        intro r I15986 J15987 Ra hq
        obtain ⟨⟨hI15986, ec, fiI15986, fjI15986⟩, v15988, rfl, av15988, bv15988⟩ := hq
        show WP _ _ _ _ (.int _ :: _) _ _ _ _
        rw [ec]
        clear ec Ra
        have fr15989 : fz 74 g [22, 43, 44, 47, 48, 50, 51, 52, 56, 57, 58] I I15986 := fz_tr fiI15978 (fz_mono fiI15986 (by decide))
        have fr15990 : fz 74 g [45, 46, 56] J J15987 := fz_tr fjJ15979 (fz_mono fjI15986 (by decide))
        have e15991 : I15986 (ad g 56) 1 = w15980 := by rw [fz_at fiI15986 56 (by decide) (by decide)]; exact ew15980
        have e15992 : I15986 (ad g 1) 1 = L := hI15986.2
        have b15993 := BT_get hI15986.1 1 1 2 (0) (0) (900) (by decide) 1 (by decide) (by decide)
        rw [e15992] at b15993
        exact WP_zret dX10_turnChanges_76 rfl (nar_z (by omega)) ⟨⟨hI15986, ⟨hrI15978, ⟨hTI15978.trans hT.symm, hSI15978⟩, hPI15978⟩, fr15989, fr15990⟩, _, rfl, by omega, by omega⟩
      · refine WP_aload_n dX10_turnChanges_44 rfl ?_
        refine WP_getr dX10_turnChanges_45 fX10_55 rfl (lyx_is hy 0 10 rfl) (rfx hrI15978 0 4 49 (by decide)) ?_
        refine WP_aload_n dX10_turnChanges_48 rfl ?_
        refine WP_getr dX10_turnChanges_49 fX10_66 rfl (lyx_is hy 0 10 rfl) (rfx hrI15978 0 6 56 (by decide)) ?_
        refine WQ_iconst (0) (0) dX10_turnChanges_52 rfl rfl (fun v15994 hv15994 => ?_)
        refine WP_callV2 (k := 9) dX10_turnChanges_53 ⟨⟨⟨by decide, by decide⟩, zX9_passDay⟩, lX10_228, by decide, rfl, vX9_passDay.1, vX9_passDay.2⟩ (lyx_is hy 49 9 rfl) (sx_passDay_56_27 hy hrI15978 hPI15978 hTI15978 hI15978 v15994 (by omega) (by omega) (by omega) (by rw [ew15980]; omega)) (Nat.le_of_ble_eq_true rfl) ?_
        intro r I15995 J15996 R15997 hq
        obtain ⟨⟨hI15995, ⟨hrI15995, ⟨htI15995, hsI15995⟩, hpI15995⟩, fiI15995, fjI15995, pI15995⟩, rfl⟩ := hq
        have ht_I15995 := htI15995.trans hTI15978
        have hs_I15995 : R15997 (ad g 0) 10 = R (ad g 0) 10 := hsI15995.trans hSI15978
        have fr15998 : fz 74 g [22, 43, 44, 47, 48, 50, 51, 52, 56, 57, 58] I I15995 := fz_tr fiI15978 (fz_mono fiI15995 (by decide))
        have fr15999 : fz 74 g [45, 46, 56] J J15996 := fz_tr fjJ15979 (fz_mono fjI15995 (by decide))
        have e16000 : I15995 (ad g 1) 1 = L := hI15995.2
        have b16001 := BT_get hI15995.1 1 1 2 (0) (0) (900) (by decide) 1 (by decide) (by decide)
        rw [e16000] at b16001
        obtain ⟨w16002, ew16002⟩ : ∃ w : Int32, I15995 (ad g 56) 1 = w := ⟨_, rfl⟩
        have bw16002 := BT_get hI15995.1 56 1 2 (0) (23760) (700000) (by decide) 1 (by decide) (by decide)
        rw [ew16002] at bw16002
        rw [ew16002, ew15980] at pI15995
        refine WP_iinc (ls' := [(0, _), (1, _)]) dX10_turnChanges_56 rfl (by decide) rfl ?_
        have hv16003 : (i15977 + Int32.ofInt (1)).toInt = i15977.toInt + (1) := ia_n rfl (by omega) (by omega)
        generalize i15977 + Int32.ofInt (1) = v16003 at hv16003 ⊢
        refine WP_goto 38 dX10_turnChanges_59 rfl ?_
        exact WP_sub (fc rfl (fc rfl fn)) (ihlp38_15980 v16003 I15995 J15996 R15997 hrI15995 ht_I15995 hs_I15995 hpI15995 hI15995 fr15998 fr15999 w16002 ew16002 (by omega) (by omega) (by omega) (by omega))
  exact WP_sub (fc rfl (fc rfl fn)) (lp38_15980 _ v15976 I15972 J15965 R hr hT rfl hP hI15972 fr15975 fr15967 w15970 e15974 (by omega) (by omega) (by omega) (Nat.lt_succ_self _))
set_option maxHeartbeats 4000000 in
set_option maxRecDepth 100000 in
theorem sx_rest_27 {g : GG} {n : Int} {L : Int32} (hy : LyX g)  {I : pI} {J : pJ} {R : pR} (hr : RfX g R) (hP : NL g R) (hT : R (ad g 5) 0 = some (ad g 27)) (hI : XI g n L I) (a : Int32)  (hn : 0 ≤ n ∧ n ≤ 40000) : SP g mX10_rest [.ref (ad g 0), .int a] I J R (fun r I' J' R' => (XI g n L I' ∧ (RfX g R' ∧ (R' (ad g 5) 0 = R (ad g 5) 0 ∧ R' (ad g 0) 10 = R (ad g 0) 10) ∧ NL g R') ∧ fz 74 g [0, 22, 43, 44, 47, 48, 50, 51, 52, 56, 57, 58] I I' ∧ fz 74 g [45, 46, 56] J J') ∧ ∃ v : Int32, r = some (.int v)) := by
  refine SP_of ⟨by decide, rfl⟩ (Nat.le_of_ble_eq_true rfl) ?_
  have e16004 : I (ad g 1) 1 = L := hI.2
  have b16005 := BT_get hI.1 1 1 2 (0) (0) (900) (by decide) 1 (by decide) (by decide)
  rw [e16004] at b16005
  have fr0 : fz 74 g [0, 22, 43, 44, 47, 48, 50, 51, 52, 56, 57, 58] I I := fz_rf
  have frj0 : fz 74 g [45, 46, 56] J J := fz_rf
  refine WP_iload_n dX10_rest_0 rfl ?_
  refine WQ_if_eq 12 dX10_rest_1 rfl (fun c16005 => ?_) (fun c16005 => ?_)
  · refine WP_iload_n dX10_rest_12 rfl ?_
    refine WQ_iconst (1) (1) dX10_rest_13 rfl rfl (fun v16007 hv16007 => ?_)
    refine WQ_icmp_ne 24 dX10_rest_14 rfl (fun c16007 => ?_) (fun c16007 => False.elim (by omega))
    refine WQ_iconst (0) (0) dX10_rest_24 rfl rfl (fun v16009 hv16009 => ?_)
    refine WP_istore_n (ls' := [(0, _), (1, _), (2, _)]) dX10_rest_25 (by decide) rfl ?_
    refine WP_aload_n dX10_rest_26 rfl ?_
    refine WQ_iconst (0) (0) dX10_rest_27 rfl rfl (fun v16010 hv16010 => ?_)
    refine WQ_puti dX10_rest_28 fX10_263 rfl rfl (lyx_is hy 0 10 rfl) (fun I16011 eI16011 => ?_)
    have hI16011 : XI g n L I16011 := by rw [eI16011]; exact (xi_f0 hy hI (c := 0) (by decide) (Or.inl (by decide)) (by decide))
    have e16012 : I16011 (ad g 1) 1 = L := by rw [eI16011, pp_ne _ _ (Or.inl (lyx_ne hy (by decide) (by decide) (by decide)))]; exact e16004
    have e16013 : I16011 (ad g 0) 11 = v16010 := by rw [eI16011, pp_self]
    have fr16014 : fz 74 g [0, 22, 43, 44, 47, 48, 50, 51, 52, 56, 57, 58] I I16011 := by rw [eI16011]; exact fzx_pp hy fr0 (by decide) (by decide)
    clear eI16011
    have lp31_16018 : ∀ (mz : Nat) (i16015 : Int32) (I16016 : pI) (J16017 : pJ) (RI16016 : pR), RfX g RI16016 → RI16016 (ad g 5) 0 = some (ad g 27) → RI16016 (ad g 0) 10 = R (ad g 0) 10 → NL g RI16016 → XI g n L I16016 → fz 74 g [0, 22, 43, 44, 47, 48, 50, 51, 52, 56, 57, 58] I I16016 → fz 74 g [45, 46, 56] J J16017 → ∀ (w16018 : Int32), I16016 (ad g 0) 11 = w16018 → 0 ≤ i16015.toInt → i16015.toInt ≤ 1 → 0 ≤ w16018.toInt → w16018.toInt ≤ 60 → (61 - w16018.toInt).toNat < mz → WP g mX10_rest 31 [(0, .ref (ad g 0)), (1, .int a), (2, .int i16015)] [] I16016 J16017 RI16016 (fun r I' J' R' => (XI g n L I' ∧ (RfX g R' ∧ (R' (ad g 5) 0 = R (ad g 5) 0 ∧ R' (ad g 0) 10 = R (ad g 0) 10) ∧ NL g R') ∧ fz 74 g [0, 22, 43, 44, 47, 48, 50, 51, 52, 56, 57, 58] I I' ∧ fz 74 g [45, 46, 56] J J') ∧ ∃ v : Int32, r = some (.int v)) := by
      intro mz
      induction mz with
      | zero =>
        intro i16015 I16016 J16017 RI16016 hrI16016 hTI16016 hSI16016 hPI16016 hI16016 fiI16016 fjJ16017 w16018 ew16018 ai16015 bi16015 j0_I16016 j1_I16016 hmlp31_16018
        exact absurd hmlp31_16018 (Nat.not_lt_zero _)
      | succ mz ihlp31_16018 =>
        intro i16015 I16016 J16017 RI16016 hrI16016 hTI16016 hSI16016 hPI16016 hI16016 fiI16016 fjJ16017 w16018 ew16018 ai16015 bi16015 j0_I16016 j1_I16016 hmlp31_16018
        have e16020 : I16016 (ad g 1) 1 = L := hI16016.2
        have b16021 := BT_get hI16016.1 1 1 2 (0) (0) (900) (by decide) 1 (by decide) (by decide)
        rw [e16020] at b16021
        refine WP_aload_n dX10_rest_31 rfl ?_
        refine WQ_getim dX10_rest_32 fX10_263 rfl (lyx_is hy 0 10 rfl) ew16018 ?_
        refine WQ_bipush (60) (60) dX10_rest_35 rfl rfl (fun v16022 hv16022 => ?_)
        refine WQ_icmp_ge 70 dX10_rest_37 rfl (fun c16022 => ?_) (fun c16022 => ?_)
        · refine WP_iload_n dX10_rest_70 rfl ?_
          have jn79_16026 : ∀ (v16026 : Int32), 0 ≤ v16026.toInt → v16026.toInt ≤ 1 → WP g mX10_rest 79 [(0, .ref (ad g 0)), (1, .int a), (2, .int i16015)] [.int v16026] I16016 J16017 RI16016 (fun r I' J' R' => (XI g n L I' ∧ (RfX g R' ∧ (R' (ad g 5) 0 = R (ad g 5) 0 ∧ R' (ad g 0) 10 = R (ad g 0) 10) ∧ NL g R') ∧ fz 74 g [0, 22, 43, 44, 47, 48, 50, 51, 52, 56, 57, 58] I I' ∧ fz 74 g [45, 46, 56] J J') ∧ ∃ v : Int32, r = some (.int v)) := by
            intro v16026 av16026 bv16026
            exact WP_iret dX10_rest_79 rfl ⟨⟨hI16016, ⟨hrI16016, ⟨hTI16016.trans hT.symm, hSI16016⟩, hPI16016⟩, fiI16016, fjJ16017⟩, _, rfl⟩
          refine WQ_if_eq 78 dX10_rest_71 rfl (fun c16027 => ?_) (fun c16027 => ?_)
          · refine WQ_iconst (0) (0) dX10_rest_78 rfl rfl (fun v16029 hv16029 => ?_)
            exact WP_sub (fc rfl (fc rfl (fc rfl fn))) (jn79_16026 v16029 (by omega) (by omega))
          · refine WQ_iconst (1) (1) dX10_rest_74 rfl rfl (fun v16030 hv16030 => ?_)
            refine WP_goto 79 dX10_rest_75 rfl ?_
            exact WP_sub (fc rfl (fc rfl (fc rfl fn))) (jn79_16026 v16030 (by omega) (by omega))
        · refine WP_iload_n dX10_rest_40 rfl ?_
          refine WQ_if_ne 70 dX10_rest_41 rfl (fun c16030 => ?_) (fun c16030 => ?_)
          · refine WP_iload_n dX10_rest_70 rfl ?_
            have jn79_16033 : ∀ (v16033 : Int32), 1 ≤ v16033.toInt → v16033.toInt ≤ 1 → WP g mX10_rest 79 [(0, .ref (ad g 0)), (1, .int a), (2, .int i16015)] [.int v16033] I16016 J16017 RI16016 (fun r I' J' R' => (XI g n L I' ∧ (RfX g R' ∧ (R' (ad g 5) 0 = R (ad g 5) 0 ∧ R' (ad g 0) 10 = R (ad g 0) 10) ∧ NL g R') ∧ fz 74 g [0, 22, 43, 44, 47, 48, 50, 51, 52, 56, 57, 58] I I' ∧ fz 74 g [45, 46, 56] J J') ∧ ∃ v : Int32, r = some (.int v)) := by
              intro v16033 av16033 bv16033
              exact WP_iret dX10_rest_79 rfl ⟨⟨hI16016, ⟨hrI16016, ⟨hTI16016.trans hT.symm, hSI16016⟩, hPI16016⟩, fiI16016, fjJ16017⟩, _, rfl⟩
            refine WQ_if_eq 78 dX10_rest_71 rfl (fun c16034 => False.elim (by omega)) (fun c16034 => ?_)
            refine WQ_iconst (1) (1) dX10_rest_74 rfl rfl (fun v16036 hv16036 => ?_)
            refine WP_goto 79 dX10_rest_75 rfl ?_
            exact WP_sub (fc rfl (fc rfl (fc rfl fn))) (jn79_16033 v16036 (by omega) (by omega))
          · refine WP_aload_n dX10_rest_44 rfl ?_
            refine WP_dup dX10_rest_45 rfl ?_
            refine WQ_getim dX10_rest_46 fX10_263 rfl (lyx_is hy 0 10 rfl) ew16018 ?_
            refine WQ_iconst (1) (1) dX10_rest_49 rfl rfl (fun v16037 hv16037 => ?_)
            refine WQ_iadd dX10_rest_50 (by omega) (by omega) (fun v16038 hv16038 => ?_)
            refine WQ_puti dX10_rest_51 fX10_263 rfl rfl (lyx_is hy 0 10 rfl) (fun I16039 eI16039 => ?_)
            have hI16039 : XI g n L I16039 := by rw [eI16039]; exact (xi_f0 hy hI16016 (c := 0) (by decide) (Or.inl (by decide)) (by decide))
            have e16040 : I16039 (ad g 1) 1 = L := by rw [eI16039, pp_ne _ _ (Or.inl (lyx_ne hy (by decide) (by decide) (by decide)))]; exact e16020
            have e16041 : I16039 (ad g 0) 11 = v16038 := by rw [eI16039, pp_self]
            have fr16042 : fz 74 g [0, 22, 43, 44, 47, 48, 50, 51, 52, 56, 57, 58] I I16039 := by rw [eI16039]; exact fzx_pp hy fiI16016 (by decide) (by decide)
            clear eI16039
            refine WP_aload_n dX10_rest_54 rfl ?_
            refine WP_callV0 (k := 10) dX10_rest_55 ⟨⟨⟨by decide, by decide⟩, zX10_turnChanges⟩, lX10_266, by decide, rfl, vX10_turnChanges.1, vX10_turnChanges.2⟩ (lyx_is hy 0 10 rfl) (sx_turnChanges_27 hy hrI16016 hPI16016 hTI16016 hI16039   (by omega)) (Nat.le_of_ble_eq_true rfl) ?_
            intro r I16043 J16044 R16045 hq
            obtain ⟨⟨hI16043, ⟨hrI16043, ⟨htI16043, hsI16043⟩, hpI16043⟩, fiI16043, fjI16043⟩, v16046, rfl, av16046, bv16046⟩ := hq
            show WP _ _ _ _ (.int _ :: _) _ _ _ _
            have ht_I16043 := htI16043.trans hTI16016
            have hs_I16043 : R16045 (ad g 0) 10 = R (ad g 0) 10 := hsI16043.trans hSI16016
            have fr16047 : fz 74 g [0, 22, 43, 44, 47, 48, 50, 51, 52, 56, 57, 58] I I16043 := fz_tr fr16042 (fz_mono fiI16043 (by decide))
            have fr16048 : fz 74 g [45, 46, 56] J J16044 := fz_tr fjJ16017 (fz_mono fjI16043 (by decide))
            have e16049 : I16043 (ad g 0) 11 = v16038 := by rw [fz_at fiI16043 0 (by decide) (by decide)]; exact e16041
            have e16050 : I16043 (ad g 1) 1 = L := hI16043.2
            have b16051 := BT_get hI16043.1 1 1 2 (0) (0) (900) (by decide) 1 (by decide) (by decide)
            rw [e16050] at b16051
            have jn66_16054 : ∀ (v16054 : Int32), 0 ≤ v16054.toInt → v16054.toInt ≤ 1 → WP g mX10_rest 66 [(0, .ref (ad g 0)), (1, .int a), (2, .int i16015)] [.int v16054] I16043 J16044 R16045 (fun r I' J' R' => (XI g n L I' ∧ (RfX g R' ∧ (R' (ad g 5) 0 = R (ad g 5) 0 ∧ R' (ad g 0) 10 = R (ad g 0) 10) ∧ NL g R') ∧ fz 74 g [0, 22, 43, 44, 47, 48, 50, 51, 52, 56, 57, 58] I I' ∧ fz 74 g [45, 46, 56] J J') ∧ ∃ v : Int32, r = some (.int v)) := by
              intro v16054 av16054 bv16054
              refine WP_istore_n (ls' := [(0, _), (1, _), (2, _)]) dX10_rest_66 (by decide) rfl ?_
              refine WP_goto 31 dX10_rest_67 rfl ?_
              exact WP_sub (fc rfl (fc rfl (fc rfl fn))) (ihlp31_16018 v16054 I16043 J16044 R16045 hrI16043 ht_I16043 hs_I16043 hpI16043 hI16043 fr16047 fr16048 v16038 e16049 (by omega) (by omega) (by omega) (by omega) (by omega))
            refine WQ_if_ne 65 dX10_rest_58 rfl (fun c16055 => ?_) (fun c16055 => ?_)
            · refine WQ_iconst (0) (0) dX10_rest_65 rfl rfl (fun v16057 hv16057 => ?_)
              exact WP_sub (fc rfl (fc rfl (fc rfl fn))) (jn66_16054 v16057 (by omega) (by omega))
            · refine WQ_iconst (1) (1) dX10_rest_61 rfl rfl (fun v16058 hv16058 => ?_)
              refine WP_goto 66 dX10_rest_62 rfl ?_
              exact WP_sub (fc rfl (fc rfl (fc rfl fn))) (jn66_16054 v16058 (by omega) (by omega))
    exact WP_sub (fc rfl (fc rfl (fc rfl fn))) (lp31_16018 _ v16009 I16011 J R hr hT rfl hP hI16011 fr16014 frj0 v16010 e16013 (by omega) (by omega) (by omega) (by omega) (Nat.lt_succ_self _))
  · refine WP_iload_n dX10_rest_4 rfl ?_
    refine WQ_iconst (1) (1) dX10_rest_5 rfl rfl (fun v16059 hv16059 => ?_)
    refine WQ_icmp_eq 12 dX10_rest_6 rfl (fun c16059 => ?_) (fun c16059 => ?_)
    · refine WP_iload_n dX10_rest_12 rfl ?_
      refine WQ_iconst (1) (1) dX10_rest_13 rfl rfl (fun v16061 hv16061 => ?_)
      refine WQ_icmp_ne 24 dX10_rest_14 rfl (fun c16061 => False.elim (by omega)) (fun c16061 => ?_)
      refine WP_aload_n dX10_rest_17 rfl ?_
      refine WP_getr dX10_rest_18 fX10_33 rfl (lyx_is hy 0 10 rfl) (rfx hr 0 2 5 (by decide)) ?_
      refine WP_callV0 (k := 0) dX10_rest_21 ⟨⟨⟨by decide, by decide⟩, zX0_pricesAsTold⟩, lX10_260, by decide, rfl, vX0_pricesAsTold.1, vX0_pricesAsTold.2⟩ (lyx_is hy 5 0 rfl) (sx_pricesAsTold_27 hy hr hT hI  ) (Nat.le_of_ble_eq_true rfl) ?_
      intro r I16063 J16064 Ra hq
      obtain ⟨⟨hI16063, ec, fiI16063, fjI16063⟩, rfl⟩ := hq
      rw [ec]
      clear ec Ra
      have fr16065 : fz 74 g [0, 22, 43, 44, 47, 48, 50, 51, 52, 56, 57, 58] I I16063 := fz_tr fr0 (fz_mono fiI16063 (by decide))
      have fr16066 : fz 74 g [45, 46, 56] J J16064 := fz_tr frj0 (fz_mono fjI16063 (by decide))
      have e16067 : I16063 (ad g 1) 1 = L := hI16063.2
      have b16068 := BT_get hI16063.1 1 1 2 (0) (0) (900) (by decide) 1 (by decide) (by decide)
      rw [e16067] at b16068
      refine WQ_iconst (0) (0) dX10_rest_24 rfl rfl (fun v16069 hv16069 => ?_)
      refine WP_istore_n (ls' := [(0, _), (1, _), (2, _)]) dX10_rest_25 (by decide) rfl ?_
      refine WP_aload_n dX10_rest_26 rfl ?_
      refine WQ_iconst (0) (0) dX10_rest_27 rfl rfl (fun v16070 hv16070 => ?_)
      refine WQ_puti dX10_rest_28 fX10_263 rfl rfl (lyx_is hy 0 10 rfl) (fun I16071 eI16071 => ?_)
      have hI16071 : XI g n L I16071 := by rw [eI16071]; exact (xi_f0 hy hI16063 (c := 0) (by decide) (Or.inl (by decide)) (by decide))
      have e16072 : I16071 (ad g 1) 1 = L := by rw [eI16071, pp_ne _ _ (Or.inl (lyx_ne hy (by decide) (by decide) (by decide)))]; exact e16067
      have e16073 : I16071 (ad g 0) 11 = v16070 := by rw [eI16071, pp_self]
      have fr16074 : fz 74 g [0, 22, 43, 44, 47, 48, 50, 51, 52, 56, 57, 58] I I16071 := by rw [eI16071]; exact fzx_pp hy fr16065 (by decide) (by decide)
      clear eI16071
      have lp31_16078 : ∀ (mz : Nat) (i16075 : Int32) (I16076 : pI) (J16077 : pJ) (RI16076 : pR), RfX g RI16076 → RI16076 (ad g 5) 0 = some (ad g 27) → RI16076 (ad g 0) 10 = R (ad g 0) 10 → NL g RI16076 → XI g n L I16076 → fz 74 g [0, 22, 43, 44, 47, 48, 50, 51, 52, 56, 57, 58] I I16076 → fz 74 g [45, 46, 56] J J16077 → ∀ (w16078 : Int32), I16076 (ad g 0) 11 = w16078 → 0 ≤ i16075.toInt → i16075.toInt ≤ 1 → 0 ≤ w16078.toInt → w16078.toInt ≤ 60 → (61 - w16078.toInt).toNat < mz → WP g mX10_rest 31 [(0, .ref (ad g 0)), (1, .int a), (2, .int i16075)] [] I16076 J16077 RI16076 (fun r I' J' R' => (XI g n L I' ∧ (RfX g R' ∧ (R' (ad g 5) 0 = R (ad g 5) 0 ∧ R' (ad g 0) 10 = R (ad g 0) 10) ∧ NL g R') ∧ fz 74 g [0, 22, 43, 44, 47, 48, 50, 51, 52, 56, 57, 58] I I' ∧ fz 74 g [45, 46, 56] J J') ∧ ∃ v : Int32, r = some (.int v)) := by
        intro mz
        induction mz with
        | zero =>
          intro i16075 I16076 J16077 RI16076 hrI16076 hTI16076 hSI16076 hPI16076 hI16076 fiI16076 fjJ16077 w16078 ew16078 ai16075 bi16075 j0_I16076 j1_I16076 hmlp31_16078
          exact absurd hmlp31_16078 (Nat.not_lt_zero _)
        | succ mz ihlp31_16078 =>
          intro i16075 I16076 J16077 RI16076 hrI16076 hTI16076 hSI16076 hPI16076 hI16076 fiI16076 fjJ16077 w16078 ew16078 ai16075 bi16075 j0_I16076 j1_I16076 hmlp31_16078
          have e16080 : I16076 (ad g 1) 1 = L := hI16076.2
          have b16081 := BT_get hI16076.1 1 1 2 (0) (0) (900) (by decide) 1 (by decide) (by decide)
          rw [e16080] at b16081
          refine WP_aload_n dX10_rest_31 rfl ?_
          refine WQ_getim dX10_rest_32 fX10_263 rfl (lyx_is hy 0 10 rfl) ew16078 ?_
          refine WQ_bipush (60) (60) dX10_rest_35 rfl rfl (fun v16082 hv16082 => ?_)
          refine WQ_icmp_ge 70 dX10_rest_37 rfl (fun c16082 => ?_) (fun c16082 => ?_)
          · refine WP_iload_n dX10_rest_70 rfl ?_
            have jn79_16086 : ∀ (v16086 : Int32), 0 ≤ v16086.toInt → v16086.toInt ≤ 1 → WP g mX10_rest 79 [(0, .ref (ad g 0)), (1, .int a), (2, .int i16075)] [.int v16086] I16076 J16077 RI16076 (fun r I' J' R' => (XI g n L I' ∧ (RfX g R' ∧ (R' (ad g 5) 0 = R (ad g 5) 0 ∧ R' (ad g 0) 10 = R (ad g 0) 10) ∧ NL g R') ∧ fz 74 g [0, 22, 43, 44, 47, 48, 50, 51, 52, 56, 57, 58] I I' ∧ fz 74 g [45, 46, 56] J J') ∧ ∃ v : Int32, r = some (.int v)) := by
              intro v16086 av16086 bv16086
              exact WP_iret dX10_rest_79 rfl ⟨⟨hI16076, ⟨hrI16076, ⟨hTI16076.trans hT.symm, hSI16076⟩, hPI16076⟩, fiI16076, fjJ16077⟩, _, rfl⟩
            refine WQ_if_eq 78 dX10_rest_71 rfl (fun c16087 => ?_) (fun c16087 => ?_)
            · refine WQ_iconst (0) (0) dX10_rest_78 rfl rfl (fun v16089 hv16089 => ?_)
              exact WP_sub (fc rfl (fc rfl (fc rfl fn))) (jn79_16086 v16089 (by omega) (by omega))
            · refine WQ_iconst (1) (1) dX10_rest_74 rfl rfl (fun v16090 hv16090 => ?_)
              refine WP_goto 79 dX10_rest_75 rfl ?_
              exact WP_sub (fc rfl (fc rfl (fc rfl fn))) (jn79_16086 v16090 (by omega) (by omega))
          · refine WP_iload_n dX10_rest_40 rfl ?_
            refine WQ_if_ne 70 dX10_rest_41 rfl (fun c16090 => ?_) (fun c16090 => ?_)
            · refine WP_iload_n dX10_rest_70 rfl ?_
              have jn79_16093 : ∀ (v16093 : Int32), 1 ≤ v16093.toInt → v16093.toInt ≤ 1 → WP g mX10_rest 79 [(0, .ref (ad g 0)), (1, .int a), (2, .int i16075)] [.int v16093] I16076 J16077 RI16076 (fun r I' J' R' => (XI g n L I' ∧ (RfX g R' ∧ (R' (ad g 5) 0 = R (ad g 5) 0 ∧ R' (ad g 0) 10 = R (ad g 0) 10) ∧ NL g R') ∧ fz 74 g [0, 22, 43, 44, 47, 48, 50, 51, 52, 56, 57, 58] I I' ∧ fz 74 g [45, 46, 56] J J') ∧ ∃ v : Int32, r = some (.int v)) := by
                intro v16093 av16093 bv16093
                exact WP_iret dX10_rest_79 rfl ⟨⟨hI16076, ⟨hrI16076, ⟨hTI16076.trans hT.symm, hSI16076⟩, hPI16076⟩, fiI16076, fjJ16077⟩, _, rfl⟩
              refine WQ_if_eq 78 dX10_rest_71 rfl (fun c16094 => False.elim (by omega)) (fun c16094 => ?_)
              refine WQ_iconst (1) (1) dX10_rest_74 rfl rfl (fun v16096 hv16096 => ?_)
              refine WP_goto 79 dX10_rest_75 rfl ?_
              exact WP_sub (fc rfl (fc rfl (fc rfl fn))) (jn79_16093 v16096 (by omega) (by omega))
            · refine WP_aload_n dX10_rest_44 rfl ?_
              refine WP_dup dX10_rest_45 rfl ?_
              refine WQ_getim dX10_rest_46 fX10_263 rfl (lyx_is hy 0 10 rfl) ew16078 ?_
              refine WQ_iconst (1) (1) dX10_rest_49 rfl rfl (fun v16097 hv16097 => ?_)
              refine WQ_iadd dX10_rest_50 (by omega) (by omega) (fun v16098 hv16098 => ?_)
              refine WQ_puti dX10_rest_51 fX10_263 rfl rfl (lyx_is hy 0 10 rfl) (fun I16099 eI16099 => ?_)
              have hI16099 : XI g n L I16099 := by rw [eI16099]; exact (xi_f0 hy hI16076 (c := 0) (by decide) (Or.inl (by decide)) (by decide))
              have e16100 : I16099 (ad g 1) 1 = L := by rw [eI16099, pp_ne _ _ (Or.inl (lyx_ne hy (by decide) (by decide) (by decide)))]; exact e16080
              have e16101 : I16099 (ad g 0) 11 = v16098 := by rw [eI16099, pp_self]
              have fr16102 : fz 74 g [0, 22, 43, 44, 47, 48, 50, 51, 52, 56, 57, 58] I I16099 := by rw [eI16099]; exact fzx_pp hy fiI16076 (by decide) (by decide)
              clear eI16099
              refine WP_aload_n dX10_rest_54 rfl ?_
              refine WP_callV0 (k := 10) dX10_rest_55 ⟨⟨⟨by decide, by decide⟩, zX10_turnChanges⟩, lX10_266, by decide, rfl, vX10_turnChanges.1, vX10_turnChanges.2⟩ (lyx_is hy 0 10 rfl) (sx_turnChanges_27 hy hrI16076 hPI16076 hTI16076 hI16099   (by omega)) (Nat.le_of_ble_eq_true rfl) ?_
              intro r I16103 J16104 R16105 hq
              obtain ⟨⟨hI16103, ⟨hrI16103, ⟨htI16103, hsI16103⟩, hpI16103⟩, fiI16103, fjI16103⟩, v16106, rfl, av16106, bv16106⟩ := hq
              show WP _ _ _ _ (.int _ :: _) _ _ _ _
              have ht_I16103 := htI16103.trans hTI16076
              have hs_I16103 : R16105 (ad g 0) 10 = R (ad g 0) 10 := hsI16103.trans hSI16076
              have fr16107 : fz 74 g [0, 22, 43, 44, 47, 48, 50, 51, 52, 56, 57, 58] I I16103 := fz_tr fr16102 (fz_mono fiI16103 (by decide))
              have fr16108 : fz 74 g [45, 46, 56] J J16104 := fz_tr fjJ16077 (fz_mono fjI16103 (by decide))
              have e16109 : I16103 (ad g 0) 11 = v16098 := by rw [fz_at fiI16103 0 (by decide) (by decide)]; exact e16101
              have e16110 : I16103 (ad g 1) 1 = L := hI16103.2
              have b16111 := BT_get hI16103.1 1 1 2 (0) (0) (900) (by decide) 1 (by decide) (by decide)
              rw [e16110] at b16111
              have jn66_16114 : ∀ (v16114 : Int32), 0 ≤ v16114.toInt → v16114.toInt ≤ 1 → WP g mX10_rest 66 [(0, .ref (ad g 0)), (1, .int a), (2, .int i16075)] [.int v16114] I16103 J16104 R16105 (fun r I' J' R' => (XI g n L I' ∧ (RfX g R' ∧ (R' (ad g 5) 0 = R (ad g 5) 0 ∧ R' (ad g 0) 10 = R (ad g 0) 10) ∧ NL g R') ∧ fz 74 g [0, 22, 43, 44, 47, 48, 50, 51, 52, 56, 57, 58] I I' ∧ fz 74 g [45, 46, 56] J J') ∧ ∃ v : Int32, r = some (.int v)) := by
                intro v16114 av16114 bv16114
                refine WP_istore_n (ls' := [(0, _), (1, _), (2, _)]) dX10_rest_66 (by decide) rfl ?_
                refine WP_goto 31 dX10_rest_67 rfl ?_
                exact WP_sub (fc rfl (fc rfl (fc rfl fn))) (ihlp31_16078 v16114 I16103 J16104 R16105 hrI16103 ht_I16103 hs_I16103 hpI16103 hI16103 fr16107 fr16108 v16098 e16109 (by omega) (by omega) (by omega) (by omega) (by omega))
              refine WQ_if_ne 65 dX10_rest_58 rfl (fun c16115 => ?_) (fun c16115 => ?_)
              · refine WQ_iconst (0) (0) dX10_rest_65 rfl rfl (fun v16117 hv16117 => ?_)
                exact WP_sub (fc rfl (fc rfl (fc rfl fn))) (jn66_16114 v16117 (by omega) (by omega))
              · refine WQ_iconst (1) (1) dX10_rest_61 rfl rfl (fun v16118 hv16118 => ?_)
                refine WP_goto 66 dX10_rest_62 rfl ?_
                exact WP_sub (fc rfl (fc rfl (fc rfl fn))) (jn66_16114 v16118 (by omega) (by omega))
      exact WP_sub (fc rfl (fc rfl (fc rfl fn))) (lp31_16078 _ v16069 I16071 J16064 R hr hT rfl hP hI16071 fr16074 fr16066 v16070 e16073 (by omega) (by omega) (by omega) (by omega) (Nat.lt_succ_self _))
    · refine WQ_bipush (-2) (-2) dX10_rest_9 rfl rfl (fun v16119 hv16119 => ?_)
      exact WP_iret dX10_rest_11 rfl ⟨⟨hI, ⟨hr, ⟨hT.trans hT.symm, rfl⟩, hP⟩, fr0, frj0⟩, _, rfl⟩
set_option maxHeartbeats 4000000 in
set_option maxRecDepth 100000 in
theorem sx_best_27 {g : GG} {n : Int} {L : Int32} (hy : LyX g)  {I : pI} {J : pJ} {R : pR} (hr : RfX g R) (hP : NL g R) (hT : R (ad g 5) 0 = some (ad g 27)) (hI : XI g n L I) (a : Int32) (b : Int32) (c : Int32) (e : Int32) (k : Int32)  : SP g mX10_best [.ref (ad g 0), .int a, .int b, .int c, .int e, .int k] I J R (fun r I' J' R' => (XI g n L I' ∧ (RfX g R' ∧ (R' (ad g 5) 0 = R (ad g 5) 0 ∧ R' (ad g 0) 10 = R (ad g 0) 10) ∧ NL g R') ∧ fz 74 g [43, 44, 47, 48] I I' ∧ fz 74 g [45, 46] J J') ∧ ∃ v : Int32, r = some (.int v)) := by
  refine SP_of ⟨by decide, rfl⟩ (Nat.le_of_ble_eq_true rfl) ?_
  have e16120 : I (ad g 1) 1 = L := hI.2
  have b16121 := BT_get hI.1 1 1 2 (0) (0) (900) (by decide) 1 (by decide) (by decide)
  rw [e16120] at b16121
  have fr0 : fz 74 g [43, 44, 47, 48] I I := fz_rf
  have frj0 : fz 74 g [45, 46] J J := fz_rf
  refine WP_aload_n dX10_best_0 rfl ?_
  refine WP_iload_n dX10_best_1 rfl ?_
  refine WP_iload_n dX10_best_2 rfl ?_
  refine WP_iload_n dX10_best_3 rfl ?_
  refine WP_iload dX10_best_4 rfl ?_
  refine WP_callV4 (k := 10) dX10_best_6 ⟨⟨⟨by decide, by decide⟩, zX10_isPerson⟩, lX10_188, by decide, rfl, vX10_isPerson.1, vX10_isPerson.2⟩ (lyx_is hy 0 10 rfl) (sx_isPerson_27 hy hr hT hI a b c e    ) (Nat.le_of_ble_eq_true rfl) ?_
  intro r Ia Ja Ra hq
  obtain ⟨⟨ea, eb, ec⟩, v16122, rfl, av16122, bv16122, cv16122⟩ := hq
  show WP _ _ _ _ (.int _ :: _) _ _ _ _
  rw [ea, eb, ec]
  clear ea eb ec Ia Ja Ra
  refine WQ_if_eq 23 dX10_best_9 rfl (fun c16122 => ?_) (fun c16122 => ?_)
  · refine WQ_bipush (-2) (-2) dX10_best_23 rfl rfl (fun v16124 hv16124 => ?_)
    exact WP_iret dX10_best_25 rfl ⟨⟨hI, ⟨hr, ⟨hT.trans hT.symm, rfl⟩, hP⟩, fr0, frj0⟩, _, rfl⟩
  · refine WP_iload dX10_best_12 rfl ?_
    refine WQ_iconst (0) (0) dX10_best_14 rfl rfl (fun v16125 hv16125 => ?_)
    refine WQ_bipush (28) (28) dX10_best_15 rfl rfl (fun v16126 hv16126 => ?_)
    refine WP_callS3 dX10_best_17 ⟨⟨⟨by decide, by decide⟩, zX10_within⟩, lX10_206, tX10_within⟩ (sx_within hy hr hI k v16125 v16126   ) (Nat.le_of_ble_eq_true rfl) ?_
    intro r Ia Ja Ra hq
    obtain ⟨⟨ea, eb, ec⟩, v16127, rfl, av16127, bv16127, cv16127⟩ := hq
    show WP _ _ _ _ (.int _ :: _) _ _ _ _
    rw [ea, eb, ec]
    clear ea eb ec Ia Ja Ra
    refine WQ_if_ne 26 dX10_best_20 rfl (fun c16127 => ?_) (fun c16127 => ?_)
    · refine WP_iload dX10_best_26 rfl ?_
      refine WQ_if_ne 33 dX10_best_28 rfl (fun c16128 => ?_) (fun c16128 => ?_)
      · refine WP_aload_n dX10_best_33 rfl ?_
        refine WP_getr dX10_best_34 fX10_46 rfl (lyx_is hy 0 10 rfl) (rfx hr 0 3 43 (by decide)) ?_
        refine WP_iload_n dX10_best_37 rfl ?_
        refine WP_iload_n dX10_best_38 rfl ?_
        refine WP_aload_n dX10_best_39 rfl ?_
        refine WP_getr dX10_best_40 fX10_33 rfl (lyx_is hy 0 10 rfl) (rfx hr 0 2 5 (by decide)) ?_
        refine WP_iload_n dX10_best_43 rfl ?_
        refine WP_iload_n dX10_best_44 rfl ?_
        refine WP_iload_n dX10_best_45 rfl ?_
        refine WP_callV3 (k := 0) dX10_best_46 ⟨⟨⟨by decide, by decide⟩, zX0_earned⟩, lX10_209, by decide, rfl, vX0_earned.1, vX0_earned.2⟩ (lyx_is hy 5 0 rfl) (sx_earned_27 hy hr hT hI a b c (by omega) (by omega) (by omega) (by omega) (by omega) (by omega)) (Nat.le_of_ble_eq_true rfl) ?_
        intro r Ia Ja Ra hq
        obtain ⟨⟨ea, eb, ec⟩, v16130, rfl, av16130, bv16130, cv16130⟩ := hq
        show WP _ _ _ _ (.int _ :: _) _ _ _ _
        rw [ea, eb, ec]
        clear ea eb ec Ia Ja Ra
        refine WP_iload dX10_best_49 rfl ?_
        refine WP_iload dX10_best_51 rfl ?_
        refine WP_callV5 (k := 2) dX10_best_53 ⟨⟨⟨by decide, by decide⟩, zX2_search⟩, lX10_212, by decide, rfl, vX2_search.1, vX2_search.2⟩ (lyx_is hy 43 2 rfl) (sx_searchx_27 hy hr hP hT hI a b v16130 e k (by omega) (by omega) (by omega) (by omega) (by omega) (by omega) (by omega) (by omega) (by omega) (by omega)) (Nat.le_of_ble_eq_true rfl) ?_
        intro r I16131 J16132 R16133 hq
        obtain ⟨⟨hI16131, ⟨hrI16131, ⟨htI16131, hsI16131⟩, hpI16131⟩, fiI16131, fjI16131⟩, v16134, rfl, av16134, bv16134, cv16134⟩ := hq
        show WP _ _ _ _ (.int _ :: _) _ _ _ _
        have ht_I16131 := htI16131.trans hT
        have hs_I16131 : R16133 (ad g 0) 10 = R (ad g 0) 10 := hsI16131.trans rfl
        have fr16135 : fz 74 g [43, 44, 47, 48] I I16131 := fz_tr fr0 (fz_mono fiI16131 (by decide))
        have fr16136 : fz 74 g [45, 46] J J16132 := fz_tr frj0 (fz_mono fjI16131 (by decide))
        have e16137 : I16131 (ad g 1) 1 = L := hI16131.2
        have b16138 := BT_get hI16131.1 1 1 2 (0) (0) (900) (by decide) 1 (by decide) (by decide)
        rw [e16137] at b16138
        refine WP_pop dX10_best_56 rfl ?_
        refine WP_aload_n dX10_best_57 rfl ?_
        refine WP_getr dX10_best_58 fX10_46 rfl (lyx_is hy 0 10 rfl) (rfx hrI16131 0 3 43 (by decide)) ?_
        refine WQ_getiu dX10_best_61 fX10_216 rfl (lyx_is hy 43 2 rfl) (fun v16139 ev16139 => ?_)
        exact WP_iret dX10_best_64 rfl ⟨⟨hI16131, ⟨hrI16131, ⟨ht_I16131.trans hT.symm, hs_I16131⟩, hpI16131⟩, fr16135, fr16136⟩, _, rfl⟩
      · refine WQ_iconst (0) (0) dX10_best_31 rfl rfl (fun v16140 hv16140 => ?_)
        exact WP_iret dX10_best_32 rfl ⟨⟨hI, ⟨hr, ⟨hT.trans hT.symm, rfl⟩, hP⟩, fr0, frj0⟩, _, rfl⟩
    · refine WQ_bipush (-2) (-2) dX10_best_23 rfl rfl (fun v16141 hv16141 => ?_)
      exact WP_iret dX10_best_25 rfl ⟨⟨hI, ⟨hr, ⟨hT.trans hT.symm, rfl⟩, hP⟩, fr0, frj0⟩, _, rfl⟩
set_option maxHeartbeats 4000000 in
set_option maxRecDepth 100000 in
theorem sx_bestAct_27 {g : GG} {n : Int} {L : Int32} (hy : LyX g)  {I : pI} {J : pJ} {R : pR} (hr : RfX g R) (hP : NL g R) (hT : R (ad g 5) 0 = some (ad g 27)) (hI : XI g n L I) (a : Int32) (b : Int32) (c : Int32) (e : Int32) (k : Int32)  : SP g mX10_bestAct [.ref (ad g 0), .int a, .int b, .int c, .int e, .int k] I J R (fun r I' J' R' => (XI g n L I' ∧ (RfX g R' ∧ (R' (ad g 5) 0 = R (ad g 5) 0 ∧ R' (ad g 0) 10 = R (ad g 0) 10) ∧ NL g R') ∧ fz 74 g [43, 44, 47, 48] I I' ∧ fz 74 g [45, 46] J J') ∧ ∃ v : Int32, r = some (.int v)) := by
  refine SP_of ⟨by decide, rfl⟩ (Nat.le_of_ble_eq_true rfl) ?_
  have e16142 : I (ad g 1) 1 = L := hI.2
  have b16143 := BT_get hI.1 1 1 2 (0) (0) (900) (by decide) 1 (by decide) (by decide)
  rw [e16142] at b16143
  have fr0 : fz 74 g [43, 44, 47, 48] I I := fz_rf
  have frj0 : fz 74 g [45, 46] J J := fz_rf
  refine WP_aload_n dX10_bestAct_0 rfl ?_
  refine WP_iload_n dX10_bestAct_1 rfl ?_
  refine WP_iload_n dX10_bestAct_2 rfl ?_
  refine WP_iload_n dX10_bestAct_3 rfl ?_
  refine WP_iload dX10_bestAct_4 rfl ?_
  refine WP_callV4 (k := 10) dX10_bestAct_6 ⟨⟨⟨by decide, by decide⟩, zX10_isPerson⟩, lX10_188, by decide, rfl, vX10_isPerson.1, vX10_isPerson.2⟩ (lyx_is hy 0 10 rfl) (sx_isPerson_27 hy hr hT hI a b c e    ) (Nat.le_of_ble_eq_true rfl) ?_
  intro r Ia Ja Ra hq
  obtain ⟨⟨ea, eb, ec⟩, v16144, rfl, av16144, bv16144, cv16144⟩ := hq
  show WP _ _ _ _ (.int _ :: _) _ _ _ _
  rw [ea, eb, ec]
  clear ea eb ec Ia Ja Ra
  refine WQ_if_eq 23 dX10_bestAct_9 rfl (fun c16144 => ?_) (fun c16144 => ?_)
  · refine WQ_bipush (-2) (-2) dX10_bestAct_23 rfl rfl (fun v16146 hv16146 => ?_)
    exact WP_iret dX10_bestAct_25 rfl ⟨⟨hI, ⟨hr, ⟨hT.trans hT.symm, rfl⟩, hP⟩, fr0, frj0⟩, _, rfl⟩
  · refine WP_iload dX10_bestAct_12 rfl ?_
    refine WQ_iconst (0) (0) dX10_bestAct_14 rfl rfl (fun v16147 hv16147 => ?_)
    refine WQ_bipush (28) (28) dX10_bestAct_15 rfl rfl (fun v16148 hv16148 => ?_)
    refine WP_callS3 dX10_bestAct_17 ⟨⟨⟨by decide, by decide⟩, zX10_within⟩, lX10_206, tX10_within⟩ (sx_within hy hr hI k v16147 v16148   ) (Nat.le_of_ble_eq_true rfl) ?_
    intro r Ia Ja Ra hq
    obtain ⟨⟨ea, eb, ec⟩, v16149, rfl, av16149, bv16149, cv16149⟩ := hq
    show WP _ _ _ _ (.int _ :: _) _ _ _ _
    rw [ea, eb, ec]
    clear ea eb ec Ia Ja Ra
    refine WQ_if_ne 26 dX10_bestAct_20 rfl (fun c16149 => ?_) (fun c16149 => ?_)
    · refine WP_iload dX10_bestAct_26 rfl ?_
      refine WQ_if_ne 33 dX10_bestAct_28 rfl (fun c16150 => ?_) (fun c16150 => ?_)
      · refine WP_aload_n dX10_bestAct_33 rfl ?_
        refine WP_getr dX10_bestAct_34 fX10_46 rfl (lyx_is hy 0 10 rfl) (rfx hr 0 3 43 (by decide)) ?_
        refine WP_iload_n dX10_bestAct_37 rfl ?_
        refine WP_iload_n dX10_bestAct_38 rfl ?_
        refine WP_aload_n dX10_bestAct_39 rfl ?_
        refine WP_getr dX10_bestAct_40 fX10_33 rfl (lyx_is hy 0 10 rfl) (rfx hr 0 2 5 (by decide)) ?_
        refine WP_iload_n dX10_bestAct_43 rfl ?_
        refine WP_iload_n dX10_bestAct_44 rfl ?_
        refine WP_iload_n dX10_bestAct_45 rfl ?_
        refine WP_callV3 (k := 0) dX10_bestAct_46 ⟨⟨⟨by decide, by decide⟩, zX0_earned⟩, lX10_209, by decide, rfl, vX0_earned.1, vX0_earned.2⟩ (lyx_is hy 5 0 rfl) (sx_earned_27 hy hr hT hI a b c (by omega) (by omega) (by omega) (by omega) (by omega) (by omega)) (Nat.le_of_ble_eq_true rfl) ?_
        intro r Ia Ja Ra hq
        obtain ⟨⟨ea, eb, ec⟩, v16152, rfl, av16152, bv16152, cv16152⟩ := hq
        show WP _ _ _ _ (.int _ :: _) _ _ _ _
        rw [ea, eb, ec]
        clear ea eb ec Ia Ja Ra
        refine WP_iload dX10_bestAct_49 rfl ?_
        refine WP_iload dX10_bestAct_51 rfl ?_
        refine WP_callV5 (k := 2) dX10_bestAct_53 ⟨⟨⟨by decide, by decide⟩, zX2_search⟩, lX10_212, by decide, rfl, vX2_search.1, vX2_search.2⟩ (lyx_is hy 43 2 rfl) (sx_searchx_27 hy hr hP hT hI a b v16152 e k (by omega) (by omega) (by omega) (by omega) (by omega) (by omega) (by omega) (by omega) (by omega) (by omega)) (Nat.le_of_ble_eq_true rfl) ?_
        intro r I16153 J16154 R16155 hq
        obtain ⟨⟨hI16153, ⟨hrI16153, ⟨htI16153, hsI16153⟩, hpI16153⟩, fiI16153, fjI16153⟩, v16156, rfl, av16156, bv16156, cv16156⟩ := hq
        show WP _ _ _ _ (.int _ :: _) _ _ _ _
        have ht_I16153 := htI16153.trans hT
        have hs_I16153 : R16155 (ad g 0) 10 = R (ad g 0) 10 := hsI16153.trans rfl
        have fr16157 : fz 74 g [43, 44, 47, 48] I I16153 := fz_tr fr0 (fz_mono fiI16153 (by decide))
        have fr16158 : fz 74 g [45, 46] J J16154 := fz_tr frj0 (fz_mono fjI16153 (by decide))
        have e16159 : I16153 (ad g 1) 1 = L := hI16153.2
        have b16160 := BT_get hI16153.1 1 1 2 (0) (0) (900) (by decide) 1 (by decide) (by decide)
        rw [e16159] at b16160
        exact WP_iret dX10_bestAct_56 rfl ⟨⟨hI16153, ⟨hrI16153, ⟨ht_I16153.trans hT.symm, hs_I16153⟩, hpI16153⟩, fr16157, fr16158⟩, _, rfl⟩
      · refine WQ_iconst (-1) (-1) dX10_bestAct_31 rfl rfl (fun v16161 hv16161 => ?_)
        exact WP_iret dX10_bestAct_32 rfl ⟨⟨hI, ⟨hr, ⟨hT.trans hT.symm, rfl⟩, hP⟩, fr0, frj0⟩, _, rfl⟩
    · refine WQ_bipush (-2) (-2) dX10_bestAct_23 rfl rfl (fun v16162 hv16162 => ?_)
      exact WP_iret dX10_bestAct_25 rfl ⟨⟨hI, ⟨hr, ⟨hT.trans hT.symm, rfl⟩, hP⟩, fr0, frj0⟩, _, rfl⟩
set_option maxHeartbeats 4000000 in
set_option maxRecDepth 100000 in
theorem sx_wayAct_27 {g : GG} {n : Int} {L : Int32} (hy : LyX g)  {I : pI} {J : pJ} {R : pR} (hr : RfX g R) (hP : NL g R) (hT : R (ad g 5) 0 = some (ad g 27)) (hI : XI g n L I) (a : Int32) (b : Int32) (c : Int32) (e : Int32) (k : Int32)  : SP g mX10_wayAct [.ref (ad g 0), .int a, .int b, .int c, .int e, .int k] I J R (fun r I' J' R' => (XI g n L I' ∧ (RfX g R' ∧ (R' (ad g 5) 0 = R (ad g 5) 0 ∧ R' (ad g 0) 10 = R (ad g 0) 10) ∧ NL g R') ∧ fz 74 g [43, 44, 47, 48, 50] I I' ∧ fz 74 g [45, 46] J J') ∧ ∃ v : Int32, r = some (.int v)) := by
  refine SP_of ⟨by decide, rfl⟩ (Nat.le_of_ble_eq_true rfl) ?_
  have e16163 : I (ad g 1) 1 = L := hI.2
  have b16164 := BT_get hI.1 1 1 2 (0) (0) (900) (by decide) 1 (by decide) (by decide)
  rw [e16163] at b16164
  have fr0 : fz 74 g [43, 44, 47, 48, 50] I I := fz_rf
  have frj0 : fz 74 g [45, 46] J J := fz_rf
  refine WP_iload_n dX10_wayAct_0 rfl ?_
  refine WP_callS1 dX10_wayAct_1 ⟨⟨⟨by decide, by decide⟩, zX10_isWay⟩, lX10_219, tX10_isWay⟩ (sx_isWay hy hr hI a ) (Nat.le_of_ble_eq_true rfl) ?_
  intro r Ia Ja Ra hq
  obtain ⟨⟨ea, eb, ec⟩, v16165, rfl, av16165, bv16165, cv16165⟩ := hq
  show WP _ _ _ _ (.int _ :: _) _ _ _ _
  rw [ea, eb, ec]
  clear ea eb ec Ia Ja Ra
  refine WQ_if_eq 20 dX10_wayAct_4 rfl (fun c16165 => ?_) (fun c16165 => ?_)
  · refine WQ_bipush (-2) (-2) dX10_wayAct_20 rfl rfl (fun v16167 hv16167 => ?_)
    exact WP_iret dX10_wayAct_22 rfl ⟨⟨hI, ⟨hr, ⟨hT.trans hT.symm, rfl⟩, hP⟩, fr0, frj0⟩, _, rfl⟩
  · refine WP_aload_n dX10_wayAct_7 rfl ?_
    refine WP_iload_n dX10_wayAct_8 rfl ?_
    refine WP_iload_n dX10_wayAct_9 rfl ?_
    refine WP_iload dX10_wayAct_10 rfl ?_
    refine WP_iload dX10_wayAct_12 rfl ?_
    refine WP_callV4 (k := 10) dX10_wayAct_14 ⟨⟨⟨by decide, by decide⟩, zX10_isPerson⟩, lX10_188, by decide, rfl, vX10_isPerson.1, vX10_isPerson.2⟩ (lyx_is hy 0 10 rfl) (sx_isPerson_27 hy hr hT hI b c e k    ) (Nat.le_of_ble_eq_true rfl) ?_
    intro r Ia Ja Ra hq
    obtain ⟨⟨ea, eb, ec⟩, v16168, rfl, av16168, bv16168, cv16168⟩ := hq
    show WP _ _ _ _ (.int _ :: _) _ _ _ _
    rw [ea, eb, ec]
    clear ea eb ec Ia Ja Ra
    refine WQ_if_ne 23 dX10_wayAct_17 rfl (fun c16168 => ?_) (fun c16168 => ?_)
    · refine WP_iload_n dX10_wayAct_23 rfl ?_
      refine WQ_iconst (3) (3) dX10_wayAct_24 rfl rfl (fun v16170 hv16170 => ?_)
      refine WQ_icmp_ne 44 dX10_wayAct_25 rfl (fun c16170 => ?_) (fun c16170 => ?_)
      · refine WP_aload_n dX10_wayAct_44 rfl ?_
        refine WP_getr dX10_wayAct_45 fX10_55 rfl (lyx_is hy 0 10 rfl) (rfx hr 0 4 49 (by decide)) ?_
        refine WP_getr dX10_wayAct_48 fX10_192 rfl (lyx_is hy 49 9 rfl) (rfx hr 49 0 50 (by decide)) ?_
        refine WP_astore (ls' := [(0, _), (1, _), (2, _), (3, _), (4, _), (5, _), (6, _)]) dX10_wayAct_51 (by decide) rfl ?_
        refine WP_aload dX10_wayAct_53 rfl ?_
        refine WP_aload_n dX10_wayAct_55 rfl ?_
        refine WP_getr dX10_wayAct_56 fX10_33 rfl (lyx_is hy 0 10 rfl) (rfx hr 0 2 5 (by decide)) ?_
        refine WP_iload_n dX10_wayAct_59 rfl ?_
        refine WP_iload_n dX10_wayAct_60 rfl ?_
        refine WP_callV3 (k := 6) dX10_wayAct_61 ⟨⟨⟨by decide, by decide⟩, zX6_load⟩, lX10_196, by decide, rfl, vX6_load.1, vX6_load.2⟩ (lyx_is hy 50 6 rfl) (sx_loadx_50_27 hy hr hT hI b c (by omega) (by omega) (by omega) (by omega)) (Nat.le_of_ble_eq_true rfl) ?_
        intro r I16172 J16173 Ra hq
        obtain ⟨⟨hI16172, ec, fiI16172, ejI16172, pI16172⟩, rfl⟩ := hq
        rw [ec]
        clear ec Ra
        have fr16174 : fz 74 g [43, 44, 47, 48, 50] I I16172 := fz_tr fr0 (fz_mono fiI16172 (by decide))
        rw [ejI16172]
        clear ejI16172 J16173
        have e16175 : I16172 (ad g 1) 1 = L := hI16172.2
        have b16176 := BT_get hI16172.1 1 1 2 (0) (0) (900) (by decide) 1 (by decide) (by decide)
        rw [e16175] at b16176
        refine WP_aload dX10_wayAct_64 rfl ?_
        refine WP_iload_n dX10_wayAct_66 rfl ?_
        refine WP_iload dX10_wayAct_67 rfl ?_
        refine WP_iload dX10_wayAct_69 rfl ?_
        refine WP_callV3 (k := 6) dX10_wayAct_71 ⟨⟨⟨by decide, by decide⟩, zX6_habit⟩, lX10_222, by decide, rfl, vX6_habit.1, vX6_habit.2⟩ (lyx_is hy 50 6 rfl) (sx_habita hy hr hI16172 a e k  (by omega) (by omega) (by omega) (by omega)) (Nat.le_of_ble_eq_true rfl) ?_
        intro r Ia Ja Ra hq
        obtain ⟨⟨ea, eb, ec⟩, v16177, rfl, av16177, bv16177, cv16177⟩ := hq
        show WP _ _ _ _ (.int _ :: _) _ _ _ _
        rw [ea, eb, ec]
        clear ea eb ec Ia Ja Ra
        exact WP_iret dX10_wayAct_74 rfl ⟨⟨hI16172, ⟨hr, ⟨hT.trans hT.symm, rfl⟩, hP⟩, fr16174, frj0⟩, _, rfl⟩
      · refine WP_aload_n dX10_wayAct_28 rfl ?_
        refine WP_getr dX10_wayAct_29 fX10_46 rfl (lyx_is hy 0 10 rfl) (rfx hr 0 3 43 (by decide)) ?_
        refine WP_iload_n dX10_wayAct_32 rfl ?_
        refine WP_iload_n dX10_wayAct_33 rfl ?_
        refine WP_iload dX10_wayAct_34 rfl ?_
        refine WP_iload dX10_wayAct_36 rfl ?_
        refine WQ_bipush (7) (7) dX10_wayAct_38 rfl rfl (fun v16178 hv16178 => ?_)
        refine WP_callV5 (k := 2) dX10_wayAct_40 ⟨⟨⟨by decide, by decide⟩, zX2_search⟩, lX10_212, by decide, rfl, vX2_search.1, vX2_search.2⟩ (lyx_is hy 43 2 rfl) (sx_searchx_27 hy hr hP hT hI b c e k v16178 (by omega) (by omega) (by omega) (by omega) (by omega) (by omega) (by omega) (by omega) (by omega) (by omega)) (Nat.le_of_ble_eq_true rfl) ?_
        intro r I16179 J16180 R16181 hq
        obtain ⟨⟨hI16179, ⟨hrI16179, ⟨htI16179, hsI16179⟩, hpI16179⟩, fiI16179, fjI16179⟩, v16182, rfl, av16182, bv16182, cv16182⟩ := hq
        show WP _ _ _ _ (.int _ :: _) _ _ _ _
        have ht_I16179 := htI16179.trans hT
        have hs_I16179 : R16181 (ad g 0) 10 = R (ad g 0) 10 := hsI16179.trans rfl
        have fr16183 : fz 74 g [43, 44, 47, 48, 50] I I16179 := fz_tr fr0 (fz_mono fiI16179 (by decide))
        have fr16184 : fz 74 g [45, 46] J J16180 := fz_tr frj0 (fz_mono fjI16179 (by decide))
        have e16185 : I16179 (ad g 1) 1 = L := hI16179.2
        have b16186 := BT_get hI16179.1 1 1 2 (0) (0) (900) (by decide) 1 (by decide) (by decide)
        rw [e16185] at b16186
        exact WP_iret dX10_wayAct_43 rfl ⟨⟨hI16179, ⟨hrI16179, ⟨ht_I16179.trans hT.symm, hs_I16179⟩, hpI16179⟩, fr16183, fr16184⟩, _, rfl⟩
    · refine WQ_bipush (-2) (-2) dX10_wayAct_20 rfl rfl (fun v16187 hv16187 => ?_)
      exact WP_iret dX10_wayAct_22 rfl ⟨⟨hI, ⟨hr, ⟨hT.trans hT.symm, rfl⟩, hP⟩, fr0, frj0⟩, _, rfl⟩
