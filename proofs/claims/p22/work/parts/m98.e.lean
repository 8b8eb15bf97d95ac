set_option maxHeartbeats 4000000 in
set_option maxRecDepth 100000 in
theorem sm_pass {g : GG} {n : Int} {L : Int32} (hy : Ly g)  {I : pI} {J : pJ} {R : pR} (hr : Rf g R) (hI : MP g n L I) (a : Int32)  (hn : 0 ≤ n ∧ n ≤ 40000) (hb : (I (ad g 38) 32).toInt ≤ 23760 * n - 1663200 ∧ (I (ad g 38) 33).toInt ≤ n - 70) : SP g mX11_pass [.ref (ad g 0), .int a] I J R (fun r I' J' R' => (MP g n L I' ∧ R' = R ∧ fz 49 g [0, 35, 36, 37, 38, 40, 41] I I' ∧ fz 49 g [0] J J' ∧ fs g [56] I I' ∧ ((0 ≤ a.toInt ∧ a.toInt ≤ 70) ∧ (I' (ad g 38) 33).toInt = (I (ad g 38) 33).toInt + a.toInt ∨ ¬ (0 ≤ a.toInt ∧ a.toInt ≤ 70) ∧ (I' (ad g 38) 33).toInt = (I (ad g 38) 33).toInt) ∧ I' (ad g 38) 28 = I (ad g 38) 28 ∧ I' (ad g 38) 29 = I (ad g 38) 29 ∧ I' (ad g 38) 30 = I (ad g 38) 30 ∧ I' (ad g 38) 31 = I (ad g 38) 31) ∧ ∃ v : Int32, r = some (.int v) ∧ ((0 ≤ a.toInt ∧ a.toInt ≤ 70) ∧ v.toInt = (I (ad g 38) 33).toInt + a.toInt ∨ ¬ (0 ≤ a.toInt ∧ a.toInt ≤ 70) ∧ v.toInt = -2)) := by
  refine SP_of ⟨by decide, rfl⟩ (Nat.le_of_ble_eq_true rfl) ?_
  have e6434 : I (ad g 0) 1 = L := hI.1.2
  have b6435 := BT_get hI.1.1 0 1 2 (0) (0) (900) (by decide) 1 (by decide) (by decide)
  rw [e6434] at b6435
  have fr0 : fz 49 g [0, 35, 36, 37, 38, 40, 41] I I := fz_rf
  have frj0 : fz 49 g [0] J J := fz_rf
  have frq0 : fs g [56] I I := fs_rf
  obtain ⟨w6436, ew6436⟩ : ∃ w : Int32, I (ad g 38) 28 = w := ⟨_, rfl⟩
  obtain ⟨w6437, ew6437⟩ : ∃ w : Int32, I (ad g 38) 29 = w := ⟨_, rfl⟩
  obtain ⟨w6438, ew6438⟩ : ∃ w : Int32, I (ad g 38) 30 = w := ⟨_, rfl⟩
  obtain ⟨w6439, ew6439⟩ : ∃ w : Int32, I (ad g 38) 31 = w := ⟨_, rfl⟩
  obtain ⟨w6440, ew6440⟩ : ∃ w : Int32, I (ad g 38) 32 = w := ⟨_, rfl⟩
  have bw6440 := BT_get hI.1.1 38 32 33 (0) (23760) (0) (by decide) 32 (by decide) (by decide)
  rw [ew6440] at bw6440
  obtain ⟨w6441, ew6441⟩ : ∃ w : Int32, I (ad g 38) 33 = w := ⟨_, rfl⟩
  have bw6441 := BT_get hI.1.1 38 33 34 (0) (1) (0) (by decide) 33 (by decide) (by decide)
  rw [ew6441] at bw6441
  rw [ew6440, ew6441] at hb
  refine WP_iload_n dX11_pass_0 rfl ?_
  refine WQ_i2l dX11_pass_1 (fun l6442 hl6442 => ?_)
  refine WP_lconst (0) dX11_pass_2 rfl ?_
  obtain ⟨l6443, hl6443, el6443⟩ : ∃ v : Int64, v.toInt = 0 ∧ (0 : Int64) = v := ⟨_, rfl, rfl⟩
  rw [el6443]; clear el6443
  refine WP_ldc2 (70) dX11_pass_3 klX11_482 ?_
  obtain ⟨l6444, hl6444, el6444⟩ : ∃ v : Int64, v.toInt = (70) ∧ ((70) : Int64) = v := ⟨_, rfl, rfl⟩
  rw [el6444]; clear el6444
  refine WP_callS3 dX11_pass_6 ⟨⟨⟨by decide, by decide⟩, zX11_in⟩, lX11_52, tX11_in⟩ (sm_in hy hr hI l6442 l6443 l6444 ) (Nat.le_of_ble_eq_true rfl) ?_
  intro r Ia Ja Ra hq
  obtain ⟨⟨ea, eb, ec⟩, v6445, rfl, av6445, bv6445, cv6445⟩ := hq
  show WP _ _ _ _ (.int _ :: _) _ _ _ _
  rw [ea, eb, ec]
  clear ea eb ec Ia Ja Ra
  refine WQ_if_ne 15 dX11_pass_9 rfl (fun c6445 => ?_) (fun c6445 => ?_)
  · refine WQ_iconst (0) (0) dX11_pass_15 rfl rfl (fun v6447 hv6447 => ?_)
    refine WP_istore_n (ls' := [(0, _), (1, _), (2, _)]) dX11_pass_16 (by decide) rfl ?_
    have lp17_6456 : ∀ (mz : Nat) (i6448 : Int32) (I6449 : pI) (J6450 : pJ), MP g n L I6449 → fz 49 g [0, 35, 36, 37, 38, 40, 41] I I6449 → fz 49 g [0] J J6450 → fs g [56] I I6449 → ∀ (w6451 : Int32), I6449 (ad g 38) 32 = w6451 → ∀ (w6452 : Int32), I6449 (ad g 38) 33 = w6452 → ∀ (w6453 : Int32), I6449 (ad g 38) 28 = w6453 → ∀ (w6454 : Int32), I6449 (ad g 38) 29 = w6454 → ∀ (w6455 : Int32), I6449 (ad g 38) 30 = w6455 → ∀ (w6456 : Int32), I6449 (ad g 38) 31 = w6456 → 0 ≤ i6448.toInt → i6448.toInt ≤ 70 → w6451.toInt ≤ w6440.toInt + 23760 * i6448.toInt → w6452.toInt = w6441.toInt + i6448.toInt → i6448.toInt ≤ a.toInt → w6453.toInt = w6436.toInt → w6454.toInt = w6437.toInt → w6455.toInt = w6438.toInt → w6456.toInt = w6439.toInt → (71 - i6448.toInt).toNat < mz → WP g mX11_pass 17 [(0, .ref (ad g 0)), (1, .int a), (2, .int i6448)] [] I6449 J6450 R (fun r I' J' R' => (MP g n L I' ∧ R' = R ∧ fz 49 g [0, 35, 36, 37, 38, 40, 41] I I' ∧ fz 49 g [0] J J' ∧ fs g [56] I I' ∧ ((0 ≤ a.toInt ∧ a.toInt ≤ 70) ∧ (I' (ad g 38) 33).toInt = (I (ad g 38) 33).toInt + a.toInt ∨ ¬ (0 ≤ a.toInt ∧ a.toInt ≤ 70) ∧ (I' (ad g 38) 33).toInt = (I (ad g 38) 33).toInt) ∧ I' (ad g 38) 28 = I (ad g 38) 28 ∧ I' (ad g 38) 29 = I (ad g 38) 29 ∧ I' (ad g 38) 30 = I (ad g 38) 30 ∧ I' (ad g 38) 31 = I (ad g 38) 31) ∧ ∃ v : Int32, r = some (.int v) ∧ ((0 ≤ a.toInt ∧ a.toInt ≤ 70) ∧ v.toInt = (I (ad g 38) 33).toInt + a.toInt ∨ ¬ (0 ≤ a.toInt ∧ a.toInt ≤ 70) ∧ v.toInt = -2)) := by
      intro mz
      induction mz with
      | zero =>
        intro i6448 I6449 J6450 hI6449 fiI6449 fjJ6450 fqI6449 w6451 ew6451 w6452 ew6452 w6453 ew6453 w6454 ew6454 w6455 ew6455 w6456 ew6456 ai6448 bi6448 j0_I6449 j1_I6449 j2_I6449 j3_I6449 j4_I6449 j5_I6449 j6_I6449 hmlp17_6456
        exact absurd hmlp17_6456 (Nat.not_lt_zero _)
      | succ mz ihlp17_6456 =>
        intro i6448 I6449 J6450 hI6449 fiI6449 fjJ6450 fqI6449 w6451 ew6451 w6452 ew6452 w6453 ew6453 w6454 ew6454 w6455 ew6455 w6456 ew6456 ai6448 bi6448 j0_I6449 j1_I6449 j2_I6449 j3_I6449 j4_I6449 j5_I6449 j6_I6449 hmlp17_6456
        have bw6451 := BT_get hI6449.1.1 38 32 33 (0) (23760) (0) (by decide) 32 (by decide) (by decide)
        rw [ew6451] at bw6451
        have bw6452 := BT_get hI6449.1.1 38 33 34 (0) (1) (0) (by decide) 33 (by decide) (by decide)
        rw [ew6452] at bw6452
        have e6458 : I6449 (ad g 0) 1 = L := hI6449.1.2
        have b6459 := BT_get hI6449.1.1 0 1 2 (0) (0) (900) (by decide) 1 (by decide) (by decide)
        rw [e6458] at b6459
        refine WP_iload_n dX11_pass_17 rfl ?_
        refine WP_iload_n dX11_pass_18 rfl ?_
        refine WQ_icmp_ge 45 dX11_pass_19 rfl (fun c6459 => ?_) (fun c6459 => ?_)
        · refine WP_aload_n dX11_pass_45 rfl ?_
          refine WP_getr dX11_pass_46 fX11_283 rfl (ly_is hy 0 11 rfl) (rf hr 0 59 38 (by decide)) ?_
          refine WQ_bipush (33) (33) dX11_pass_49 rfl rfl (fun v6461 hv6461 => ?_)
          refine WQ_ialdm (z := 33) dX11_pass_51 (ly_is hy 38 13 rfl) (ly_n hy 38 35 rfl) hv6461 (by decide) ew6452 ?_
          exact WP_iret dX11_pass_52 rfl ⟨⟨hI6449, rfl, fiI6449, fjJ6450, fqI6449, ⟨(by rw [ew6452, ew6441]; omega), (by rw [ew6453, ew6436] <;> exact (eq32 _ _).mpr (by omega)), (by rw [ew6454, ew6437] <;> exact (eq32 _ _).mpr (by omega)), (by rw [ew6455, ew6438] <;> exact (eq32 _ _).mpr (by omega)), (by rw [ew6456, ew6439] <;> exact (eq32 _ _).mpr (by omega))⟩⟩, _, rfl, (by rw [ew6441]; omega)⟩
        · refine WP_aload_n dX11_pass_22 rfl ?_
          refine WP_dup dX11_pass_23 rfl ?_
          refine WQ_getl dX11_pass_24 fX11_346 rfl (ly_is hy 0 11 rfl) (fun l6463 el6463 => ?_)
          refine WP_aload_n dX11_pass_27 rfl ?_
          refine WP_aload_n dX11_pass_28 rfl ?_
          refine WP_getr dX11_pass_29 fX11_283 rfl (ly_is hy 0 11 rfl) (rf hr 0 59 38 (by decide)) ?_
          refine WP_callV1 (k := 11) dX11_pass_32 ⟨⟨⟨by decide, by decide⟩, zX11_dayOf⟩, lX11_484, by decide, rfl, vX11_dayOf.1, vX11_dayOf.2⟩ (ly_is hy 0 11 rfl) (sm_dayOf_38 hy hr hI6449   (by omega) (by rw [ew6451, ew6452]; omega)) (Nat.le_of_ble_eq_true rfl) ?_
          intro r I6464 J6465 Ra hq
          obtain ⟨⟨hI6464, ec, fiI6464, fjI6464, fqI6464, ⟨pI6464, sI6464_0_10, sI6464_0_14, sI6464_0_68, sI6464_38_28, sI6464_38_29, sI6464_38_30, sI6464_38_31⟩⟩, l6466, rfl⟩ := hq
          show WP _ _ _ _ (.long _ :: _) _ _ _ _
          rw [ec]
          clear ec Ra
          have fr6467 : fz 49 g [0, 35, 36, 37, 38, 40, 41] I I6464 := fz_tr fiI6449 (fz_mono fiI6464 (by decide))
          have fr6468 : fs g [56] I I6464 := fs_tr fqI6449 (fs_mono fqI6464 (by decide))
          have fr6469 : fz 49 g [0] J J6465 := fz_tr fjJ6450 (fz_mono fjI6464 (by decide))
          have e6470 : I6464 (ad g 38) 28 = w6453 := by rw [sI6464_38_28]; exact ew6453
          have e6471 : I6464 (ad g 38) 29 = w6454 := by rw [sI6464_38_29]; exact ew6454
          have e6472 : I6464 (ad g 38) 30 = w6455 := by rw [sI6464_38_30]; exact ew6455
          have e6473 : I6464 (ad g 38) 31 = w6456 := by rw [sI6464_38_31]; exact ew6456
          have e6474 : I6464 (ad g 0) 1 = L := hI6464.1.2
          have b6475 := BT_get hI6464.1.1 0 1 2 (0) (0) (900) (by decide) 1 (by decide) (by decide)
          rw [e6474] at b6475
          obtain ⟨w6476, ew6476⟩ : ∃ w : Int32, I6464 (ad g 38) 32 = w := ⟨_, rfl⟩
          have bw6476 := BT_get hI6464.1.1 38 32 33 (0) (23760) (0) (by decide) 32 (by decide) (by decide)
          rw [ew6476] at bw6476
          obtain ⟨w6477, ew6477⟩ : ∃ w : Int32, I6464 (ad g 38) 33 = w := ⟨_, rfl⟩
          have bw6477 := BT_get hI6464.1.1 38 33 34 (0) (1) (0) (by decide) 33 (by decide) (by decide)
          rw [ew6477] at bw6477
          rw [ew6476, ew6477, ew6451, ew6452] at pI6464
          refine WQ_ladd dX11_pass_35 (fun l6478 => ?_)
          refine WQ_putl dX11_pass_36 fX11_346 rfl rfl (ly_is hy 0 11 rfl) (fun J6479 eJ6479 => ?_)
          have fr6480 : fz 49 g [0] J J6479 := by rw [eJ6479]; exact fzm_pp hy fr6469 (by decide) (by decide)
          clear eJ6479
          refine WP_iinc (ls' := [(0, _), (1, _), (2, _)]) dX11_pass_39 rfl (by decide) rfl ?_
          have hv6481 : (i6448 + Int32.ofInt (1)).toInt = i6448.toInt + (1) := ia_n rfl (by omega) (by omega)
          generalize i6448 + Int32.ofInt (1) = v6481 at hv6481 ⊢
          refine WP_goto 17 dX11_pass_42 rfl ?_
          exact WP_sub (fc rfl (fc rfl (fc rfl fn))) (ihlp17_6456 v6481 I6464 J6479 hI6464 fr6467 fr6480 fr6468 w6476 ew6476 w6477 ew6477 w6453 e6470 w6454 e6471 w6455 e6472 w6456 e6473 (by omega) (by omega) (by omega) (by omega) (by omega) (by omega) (by omega) (by omega) (by omega) (by omega))
    exact WP_sub (fc rfl (fc rfl (fc rfl fn))) (lp17_6456 _ v6447 I J hI fr0 frj0 frq0 w6440 ew6440 w6441 ew6441 w6436 ew6436 w6437 ew6437 w6438 ew6438 w6439 ew6439 (by omega) (by omega) (by omega) (by omega) (by omega) (by omega) (by omega) (by omega) (by omega) (Nat.lt_succ_self _))
  · refine WQ_bipush (-2) (-2) dX11_pass_12 rfl rfl (fun v6482 hv6482 => ?_)
    exact WP_iret dX11_pass_14 rfl ⟨⟨hI, rfl, fr0, frj0, frq0, ⟨(by rw [ew6441]; omega), rfl, rfl, rfl, rfl⟩⟩, _, rfl, (by rw [ew6441]; omega)⟩
set_option maxHeartbeats 4000000 in
set_option maxRecDepth 100000 in
theorem sm_beginx_39 {g : GG} {n : Int} {L : Int32} (hy : Ly g)  {I : pI} {J : pJ} {R : pR} (hr : Rf g R) (hI : MP g n L I)   (hn : 0 ≤ n) : SP g mX11_begin [.ref (ad g 0), .ref (ad g 39)] I J R (fun r I' J' R' => (MP g n L I' ∧ R' = R ∧ fz 49 g [39] I I' ∧ fz 49 g [] J J' ∧ fs g [] I I' ∧ ((I' (ad g 39) 32).toInt = 0 ∧ (I' (ad g 39) 33).toInt = 0)) ∧ r = none) := by
  refine SP_of ⟨by decide, rfl⟩ (Nat.le_of_ble_eq_true rfl) ?_
  have e6483 : I (ad g 0) 1 = L := hI.1.2
  have b6484 := BT_get hI.1.1 0 1 2 (0) (0) (900) (by decide) 1 (by decide) (by decide)
  rw [e6483] at b6484
  have fr0 : fz 49 g [39] I I := fz_rf
  have frj0 : fz 49 g [] J J := fz_rf
  have frq0 : fs g [] I I := fs_rf
  refine WQ_iconst (0) (0) dX11_begin_0 rfl rfl (fun v6485 hv6485 => ?_)
  refine WP_istore_n (ls' := [(0, _), (1, _), (2, _)]) dX11_begin_1 (by decide) rfl ?_
  have lp2_6490 : ∀ (mz : Nat) (i6486 : Int32) (I6487 : pI) (J6488 : pJ), MP g n L I6487 → fz 49 g [39] I I6487 → fz 49 g [] J J6488 → fs g [] I I6487 → ∀ (w6489 : Int32), I6487 (ad g 39) 32 = w6489 → ∀ (w6490 : Int32), I6487 (ad g 39) 33 = w6490 → 0 ≤ i6486.toInt → i6486.toInt ≤ 35 → (i6486.toInt ≤ 32 ∨ w6489.toInt = 0) → (i6486.toInt ≤ 33 ∨ w6490.toInt = 0) → (36 - i6486.toInt).toNat < mz → WP g mX11_begin 2 [(0, .ref (ad g 0)), (1, .ref (ad g 39)), (2, .int i6486)] [] I6487 J6488 R (fun r I' J' R' => (MP g n L I' ∧ R' = R ∧ fz 49 g [39] I I' ∧ fz 49 g [] J J' ∧ fs g [] I I' ∧ ((I' (ad g 39) 32).toInt = 0 ∧ (I' (ad g 39) 33).toInt = 0)) ∧ r = none) := by
    intro mz
    induction mz with
    | zero =>
      intro i6486 I6487 J6488 hI6487 fiI6487 fjJ6488 fqI6487 w6489 ew6489 w6490 ew6490 ai6486 bi6486 j0_I6487 j1_I6487 hmlp2_6490
      exact absurd hmlp2_6490 (Nat.not_lt_zero _)
    | succ mz ihlp2_6490 =>
      intro i6486 I6487 J6488 hI6487 fiI6487 fjJ6488 fqI6487 w6489 ew6489 w6490 ew6490 ai6486 bi6486 j0_I6487 j1_I6487 hmlp2_6490
      have bw6489 := BT_get hI6487.1.1 39 32 33 (0) (23760) (700000) (by decide) 32 (by decide) (by decide)
      rw [ew6489] at bw6489
      have bw6490 := BT_get hI6487.1.1 39 33 34 (0) (1) (30) (by decide) 33 (by decide) (by decide)
      rw [ew6490] at bw6490
      have e6492 : I6487 (ad g 0) 1 = L := hI6487.1.2
      have b6493 := BT_get hI6487.1.1 0 1 2 (0) (0) (900) (by decide) 1 (by decide) (by decide)
      rw [e6492] at b6493
      refine WP_iload_n dX11_begin_2 rfl ?_
      refine WQ_bipush (35) (35) dX11_begin_3 rfl rfl (fun v6494 hv6494 => ?_)
      refine WQ_icmp_ge 30 dX11_begin_5 rfl (fun c6494 => ?_) (fun c6494 => ?_)
      · refine WQ_iconst (0) (0) dX11_begin_30 rfl rfl (fun v6496 hv6496 => ?_)
        refine WP_istore_n (ls' := [(0, _), (1, _), (2, _)]) dX11_begin_31 (by decide) rfl ?_
        have lp32_6501 : ∀ (mz : Nat) (i6497 : Int32) (I6498 : pI) (J6499 : pJ), MP g n L I6498 → fz 49 g [39] I I6498 → fz 49 g [] J J6499 → fs g [] I I6498 → ∀ (w6500 : Int32), I6498 (ad g 39) 32 = w6500 → ∀ (w6501 : Int32), I6498 (ad g 39) 33 = w6501 → 0 ≤ i6497.toInt → i6497.toInt ≤ 4 → w6500.toInt = 0 → w6501.toInt = 0 → (5 - i6497.toInt).toNat < mz → WP g mX11_begin 32 [(0, .ref (ad g 0)), (1, .ref (ad g 39)), (2, .int i6497)] [] I6498 J6499 R (fun r I' J' R' => (MP g n L I' ∧ R' = R ∧ fz 49 g [39] I I' ∧ fz 49 g [] J J' ∧ fs g [] I I' ∧ ((I' (ad g 39) 32).toInt = 0 ∧ (I' (ad g 39) 33).toInt = 0)) ∧ r = none) := by
          intro mz
          induction mz with
          | zero =>
            intro i6497 I6498 J6499 hI6498 fiI6498 fjJ6499 fqI6498 w6500 ew6500 w6501 ew6501 ai6497 bi6497 j0_I6498 j1_I6498 hmlp32_6501
            exact absurd hmlp32_6501 (Nat.not_lt_zero _)
          | succ mz ihlp32_6501 =>
            intro i6497 I6498 J6499 hI6498 fiI6498 fjJ6499 fqI6498 w6500 ew6500 w6501 ew6501 ai6497 bi6497 j0_I6498 j1_I6498 hmlp32_6501
            have bw6500 := BT_get hI6498.1.1 39 32 33 (0) (23760) (700000) (by decide) 32 (by decide) (by decide)
            rw [ew6500] at bw6500
            have bw6501 := BT_get hI6498.1.1 39 33 34 (0) (1) (30) (by decide) 33 (by decide) (by decide)
            rw [ew6501] at bw6501
            have e6503 : I6498 (ad g 0) 1 = L := hI6498.1.2
            have b6504 := BT_get hI6498.1.1 0 1 2 (0) (0) (900) (by decide) 1 (by decide) (by decide)
            rw [e6503] at b6504
            refine WP_iload_n dX11_begin_32 rfl ?_
            refine WP_aload_n dX11_begin_33 rfl ?_
            refine WQ_geti dX11_begin_34 fX11_329 rfl (ly_is hy 0 11 rfl) (BT_get hI6498.1.1 0 10 11 (0) (0) (4) (by decide) 10 (by decide) (by decide)) (fun v6505 ev6505 av6505 bv6505 => ?_)
            refine WQ_icmp_ge 57 dX11_begin_37 rfl (fun c6505 => ?_) (fun c6505 => ?_)
            · exact WP_vret dX11_begin_57 rfl ⟨⟨hI6498, rfl, fiI6498, fjJ6499, fqI6498, (by rw [ew6500, ew6501]; omega)⟩, rfl⟩
            · refine WP_aload_n dX11_begin_40 rfl ?_
              refine WQ_iconst (0) (0) dX11_begin_41 rfl rfl (fun v6507 hv6507 => ?_)
              refine WP_iload_n dX11_begin_42 rfl ?_
              refine WQ_iadd dX11_begin_43 (by omega) (by omega) (fun v6508 hv6508 => ?_)
              refine WP_aload_n dX11_begin_44 rfl ?_
              refine WP_getr dX11_begin_45 fX11_241 rfl (ly_is hy 0 11 rfl) (rf hr 0 28 10 (by decide)) ?_
              refine WP_iload_n dX11_begin_48 rfl ?_
              refine WQ_iald dX11_begin_49 (ly_is hy 10 13 rfl) (ly_n hy 10 4 rfl) (by omega) (by omega) (fun q hq => BT_get hI6498.1.1 10 0 4 (0) (0) (60) (by decide) q (Nat.zero_le _) hq) (fun v6509 av6509 bv6509 ev6509 => ?_)
              clear ev6509
              refine WQ_iast dX11_begin_50 (ly_is hy 39 13 rfl) (ly_n hy 39 35 rfl) (by omega) (by omega) (fun I6510 eI6510 => ?_)
              have hI6510 : MP g n L I6510 := by rw [eI6510]; exact (mp_w hy hI6498 (c := 39) (mi_rr hy hI6498.1 (c := 39) (0) (3) (0) (0) (60) (by decide) (Or.inl (by decide)) (by rw [cl (n := v6508.toInt.toNat) (by omega)]; omega) (by decide) (fun _ => ⟨by omega, by omega⟩)) (by decide) (by decide) (Or.inl (by decide)))
              have e6511 : I6510 (ad g 39) 32 = w6500 := by rw [eI6510, pp_ne _ _ (Or.inr (by rw [cl (x := v6508) (n := v6508.toInt.toNat) (by omega)]; omega))]; exact ew6500
              have e6512 : I6510 (ad g 39) 33 = w6501 := by rw [eI6510, pp_ne _ _ (Or.inr (by rw [cl (x := v6508) (n := v6508.toInt.toNat) (by omega)]; omega))]; exact ew6501
              have e6513 : I6510 (ad g 0) 1 = L := by rw [eI6510, pp_ne _ _ (Or.inl (ly_ne hy (by decide) (by decide) (by decide)))]; exact e6503
              have e6514 : I6510 (ad g 0) 10 = v6505 := by rw [eI6510, pp_ne _ _ (Or.inl (ly_ne hy (by decide) (by decide) (by decide)))]; exact ev6505
              have fr6515 : fs g [] I I6510 := by rw [eI6510]; exact fs_ppn hy fqI6498 (by decide) (by decide)
              have fr6516 : fz 49 g [39] I I6510 := by rw [eI6510]; exact fzm_pp hy fiI6498 (by decide) (by decide)
              clear eI6510
              refine WP_iinc (ls' := [(0, _), (1, _), (2, _)]) dX11_begin_51 rfl (by decide) rfl ?_
              have hv6517 : (i6497 + Int32.ofInt (1)).toInt = i6497.toInt + (1) := ia_n rfl (by omega) (by omega)
              generalize i6497 + Int32.ofInt (1) = v6517 at hv6517 ⊢
              refine WP_goto 32 dX11_begin_54 rfl ?_
              exact WP_sub (fc rfl (fc rfl (fc rfl fn))) (ihlp32_6501 v6517 I6510 J6499 hI6510 fr6516 fjJ6499 fr6515 w6500 e6511 w6501 e6512 (by omega) (by omega) (by omega) (by omega) (by omega))
        exact WP_sub (fc rfl (fc rfl (fc rfl fn))) (lp32_6501 _ v6496 I6487 J6488 hI6487 fiI6487 fjJ6488 fqI6487 w6489 ew6489 w6490 ew6490 (by omega) (by omega) (by omega) (by omega) (Nat.lt_succ_self _))
      · refine WP_iload_n dX11_begin_8 rfl ?_
        refine WQ_bipush (28) (28) dX11_begin_9 rfl rfl (fun v6518 hv6518 => ?_)
        refine WQ_icmp_lt 20 dX11_begin_11 rfl (fun c6518 => ?_) (fun c6518 => ?_)
        · rcases (show (0 ≤ i6486.toInt ∧ i6486.toInt ≤ 3) ∨ (4 ≤ i6486.toInt ∧ i6486.toInt ≤ 7) ∨ (8 ≤ i6486.toInt ∧ i6486.toInt ≤ 31) by omega) with ⟨k6520_0, k6520_1⟩ | ⟨k6520_2, k6520_3⟩ | ⟨k6520_4, k6520_5⟩
          · refine WP_aload_n dX11_begin_20 rfl ?_
            refine WP_iload_n dX11_begin_21 rfl ?_
            refine WQ_iconst (0) (0) dX11_begin_22 rfl rfl (fun v6521 hv6521 => ?_)
            refine WQ_iast dX11_begin_23 (ly_is hy 39 13 rfl) (ly_n hy 39 35 rfl) (by omega) (by omega) (fun I6522 eI6522 => ?_)
            have hI6522 : MP g n L I6522 := by rw [eI6522]; exact (mp_w hy hI6487 (c := 39) (mi_rr hy hI6487.1 (c := 39) (0) (3) (0) (0) (60) (by decide) (Or.inl (by decide)) (by rw [cl (n := i6486.toInt.toNat) (by omega)]; omega) (by decide) (fun _ => ⟨by omega, by omega⟩)) (by decide) (by decide) (Or.inl (by decide)))
            have e6523 : I6522 (ad g 39) 32 = w6489 := by rw [eI6522, pp_ne _ _ (Or.inr (by rw [cl (x := i6486) (n := i6486.toInt.toNat) (by omega)]; omega))]; exact ew6489
            have e6524 : I6522 (ad g 39) 33 = w6490 := by rw [eI6522, pp_ne _ _ (Or.inr (by rw [cl (x := i6486) (n := i6486.toInt.toNat) (by omega)]; omega))]; exact ew6490
            have e6525 : I6522 (ad g 0) 1 = L := by rw [eI6522, pp_ne _ _ (Or.inl (ly_ne hy (by decide) (by decide) (by decide)))]; exact e6492
            have fr6526 : fs g [] I I6522 := by rw [eI6522]; exact fs_ppn hy fqI6487 (by decide) (by decide)
            have fr6527 : fz 49 g [39] I I6522 := by rw [eI6522]; exact fzm_pp hy fiI6487 (by decide) (by decide)
            clear eI6522
            refine WP_iinc (ls' := [(0, _), (1, _), (2, _)]) dX11_begin_24 rfl (by decide) rfl ?_
            have hv6528 : (i6486 + Int32.ofInt (1)).toInt = i6486.toInt + (1) := ia_n rfl (by omega) (by omega)
            generalize i6486 + Int32.ofInt (1) = v6528 at hv6528 ⊢
            refine WP_goto 2 dX11_begin_27 rfl ?_
            exact WP_sub (fc rfl (fc rfl (fc rfl fn))) (ihlp2_6490 v6528 I6522 J6488 hI6522 fr6527 fjJ6488 fr6526 w6489 e6523 w6490 e6524 (by omega) (by omega) (by omega) (by omega) (by omega))
          · refine WP_aload_n dX11_begin_20 rfl ?_
            refine WP_iload_n dX11_begin_21 rfl ?_
            refine WQ_iconst (0) (0) dX11_begin_22 rfl rfl (fun v6529 hv6529 => ?_)
            refine WQ_iast dX11_begin_23 (ly_is hy 39 13 rfl) (ly_n hy 39 35 rfl) (by omega) (by omega) (fun I6530 eI6530 => ?_)
            have hI6530 : MP g n L I6530 := by rw [eI6530]; exact (mp_w hy hI6487 (c := 39) (mi_rr hy hI6487.1 (c := 39) (4) (7) (0) (0) (5) (by decide) (Or.inl (by decide)) (by rw [cl (n := i6486.toInt.toNat) (by omega)]; omega) (by decide) (fun _ => ⟨by omega, by omega⟩)) (by decide) (by decide) (Or.inl (by decide)))
            have e6531 : I6530 (ad g 39) 32 = w6489 := by rw [eI6530, pp_ne _ _ (Or.inr (by rw [cl (x := i6486) (n := i6486.toInt.toNat) (by omega)]; omega))]; exact ew6489
            have e6532 : I6530 (ad g 39) 33 = w6490 := by rw [eI6530, pp_ne _ _ (Or.inr (by rw [cl (x := i6486) (n := i6486.toInt.toNat) (by omega)]; omega))]; exact ew6490
            have e6533 : I6530 (ad g 0) 1 = L := by rw [eI6530, pp_ne _ _ (Or.inl (ly_ne hy (by decide) (by decide) (by decide)))]; exact e6492
            have fr6534 : fs g [] I I6530 := by rw [eI6530]; exact fs_ppn hy fqI6487 (by decide) (by decide)
            have fr6535 : fz 49 g [39] I I6530 := by rw [eI6530]; exact fzm_pp hy fiI6487 (by decide) (by decide)
            clear eI6530
            refine WP_iinc (ls' := [(0, _), (1, _), (2, _)]) dX11_begin_24 rfl (by decide) rfl ?_
            have hv6536 : (i6486 + Int32.ofInt (1)).toInt = i6486.toInt + (1) := ia_n rfl (by omega) (by omega)
            generalize i6486 + Int32.ofInt (1) = v6536 at hv6536 ⊢
            refine WP_goto 2 dX11_begin_27 rfl ?_
            exact WP_sub (fc rfl (fc rfl (fc rfl fn))) (ihlp2_6490 v6536 I6530 J6488 hI6530 fr6535 fjJ6488 fr6534 w6489 e6531 w6490 e6532 (by omega) (by omega) (by omega) (by omega) (by omega))
          · refine WP_aload_n dX11_begin_20 rfl ?_
            refine WP_iload_n dX11_begin_21 rfl ?_
            refine WQ_iconst (0) (0) dX11_begin_22 rfl rfl (fun v6537 hv6537 => ?_)
            refine WQ_iast dX11_begin_23 (ly_is hy 39 13 rfl) (ly_n hy 39 35 rfl) (by omega) (by omega) (fun I6538 eI6538 => ?_)
            have hI6538 : MP g n L I6538 := by rw [eI6538]; exact (mp_w hy hI6487 (c := 39) (mi_rr hy hI6487.1 (c := 39) (8) (27) (0) (0) (0) (by decide) (Or.inl (by decide)) (by rw [cl (n := i6486.toInt.toNat) (by omega)]; omega) (by decide) (fun h => absurd h (by decide))) (by decide) (by decide) (Or.inl (by decide)))
            have e6539 : I6538 (ad g 39) 32 = w6489 := by rw [eI6538, pp_ne _ _ (Or.inr (by rw [cl (x := i6486) (n := i6486.toInt.toNat) (by omega)]; omega))]; exact ew6489
            have e6540 : I6538 (ad g 39) 33 = w6490 := by rw [eI6538, pp_ne _ _ (Or.inr (by rw [cl (x := i6486) (n := i6486.toInt.toNat) (by omega)]; omega))]; exact ew6490
            have e6541 : I6538 (ad g 0) 1 = L := by rw [eI6538, pp_ne _ _ (Or.inl (ly_ne hy (by decide) (by decide) (by decide)))]; exact e6492
            have fr6542 : fs g [] I I6538 := by rw [eI6538]; exact fs_ppn hy fqI6487 (by decide) (by decide)
            have fr6543 : fz 49 g [39] I I6538 := by rw [eI6538]; exact fzm_pp hy fiI6487 (by decide) (by decide)
            clear eI6538
            refine WP_iinc (ls' := [(0, _), (1, _), (2, _)]) dX11_begin_24 rfl (by decide) rfl ?_
            have hv6544 : (i6486 + Int32.ofInt (1)).toInt = i6486.toInt + (1) := ia_n rfl (by omega) (by omega)
            generalize i6486 + Int32.ofInt (1) = v6544 at hv6544 ⊢
            refine WP_goto 2 dX11_begin_27 rfl ?_
            exact WP_sub (fc rfl (fc rfl (fc rfl fn))) (ihlp2_6490 v6544 I6538 J6488 hI6538 fr6543 fjJ6488 fr6542 w6489 e6539 w6490 e6540 (by omega) (by omega) (by omega) (by omega) (by omega))
        · refine WP_iload_n dX11_begin_14 rfl ?_
          refine WQ_bipush (32) (32) dX11_begin_15 rfl rfl (fun v6545 hv6545 => ?_)
          refine WQ_icmp_lt 24 dX11_begin_17 rfl (fun c6545 => ?_) (fun c6545 => ?_)
          · refine WP_iinc (ls' := [(0, _), (1, _), (2, _)]) dX11_begin_24 rfl (by decide) rfl ?_
            have hv6547 : (i6486 + Int32.ofInt (1)).toInt = i6486.toInt + (1) := ia_n rfl (by omega) (by omega)
            generalize i6486 + Int32.ofInt (1) = v6547 at hv6547 ⊢
            refine WP_goto 2 dX11_begin_27 rfl ?_
            exact WP_sub (fc rfl (fc rfl (fc rfl fn))) (ihlp2_6490 v6547 I6487 J6488 hI6487 fiI6487 fjJ6488 fqI6487 w6489 ew6489 w6490 ew6490 (by omega) (by omega) (by omega) (by omega) (by omega))
          · rcases (show (32 ≤ i6486.toInt ∧ i6486.toInt ≤ 32) ∨ (33 ≤ i6486.toInt ∧ i6486.toInt ≤ 33) ∨ (34 ≤ i6486.toInt ∧ i6486.toInt ≤ 34) by omega) with ⟨k6548_0, k6548_1⟩ | ⟨k6548_2, k6548_3⟩ | ⟨k6548_4, k6548_5⟩
            · refine WP_aload_n dX11_begin_20 rfl ?_
              refine WP_iload_n dX11_begin_21 rfl ?_
              refine WQ_iconst (0) (0) dX11_begin_22 rfl rfl (fun v6549 hv6549 => ?_)
              refine WQ_iast dX11_begin_23 (ly_is hy 39 13 rfl) (ly_n hy 39 35 rfl) (by omega) (by omega) (fun I6550 fI6550 => ?_)
              have eI6550 := fI6550
              rw [cl (x := i6486) (n := 32) (by omega)] at eI6550
              clear fI6550
              have hI6550 : MP g n L I6550 := by rw [eI6550]; exact (mp_w hy hI6487 (c := 39) (mi_f hy hI6487.1 (c := 39) (0) (23760) (700000) (by decide) (Or.inl (by decide)) (by decide) (by omega) (by omega)) (by decide) (by decide) (Or.inl (by decide)))
              have e6551 : I6550 (ad g 39) 33 = w6490 := by rw [eI6550, pp_ne _ _ (Or.inr (by decide))]; exact ew6490
              have e6552 : I6550 (ad g 0) 1 = L := by rw [eI6550, pp_ne _ _ (Or.inl (ly_ne hy (by decide) (by decide) (by decide)))]; exact e6492
              have e6553 : I6550 (ad g 39) 32 = v6549 := by rw [eI6550, pp_self]
              have fr6554 : fs g [] I I6550 := by rw [eI6550]; exact fs_ppn hy fqI6487 (by decide) (by decide)
              have fr6555 : fz 49 g [39] I I6550 := by rw [eI6550]; exact fzm_pp hy fiI6487 (by decide) (by decide)
              clear eI6550
              refine WP_iinc (ls' := [(0, _), (1, _), (2, _)]) dX11_begin_24 rfl (by decide) rfl ?_
              have hv6556 : (i6486 + Int32.ofInt (1)).toInt = i6486.toInt + (1) := ia_n rfl (by omega) (by omega)
              generalize i6486 + Int32.ofInt (1) = v6556 at hv6556 ⊢
              refine WP_goto 2 dX11_begin_27 rfl ?_
              exact WP_sub (fc rfl (fc rfl (fc rfl fn))) (ihlp2_6490 v6556 I6550 J6488 hI6550 fr6555 fjJ6488 fr6554 v6549 e6553 w6490 e6551 (by omega) (by omega) (by omega) (by omega) (by omega))
            · refine WP_aload_n dX11_begin_20 rfl ?_
              refine WP_iload_n dX11_begin_21 rfl ?_
              refine WQ_iconst (0) (0) dX11_begin_22 rfl rfl (fun v6557 hv6557 => ?_)
              refine WQ_iast dX11_begin_23 (ly_is hy 39 13 rfl) (ly_n hy 39 35 rfl) (by omega) (by omega) (fun I6558 fI6558 => ?_)
              have eI6558 := fI6558
              rw [cl (x := i6486) (n := 33) (by omega)] at eI6558
              clear fI6558
              have hI6558 : MP g n L I6558 := by rw [eI6558]; exact (mp_w hy hI6487 (c := 39) (mi_f hy hI6487.1 (c := 39) (0) (1) (30) (by decide) (Or.inl (by decide)) (by decide) (by omega) (by omega)) (by decide) (by decide) (Or.inl (by decide)))
              have e6559 : I6558 (ad g 39) 32 = w6489 := by rw [eI6558, pp_ne _ _ (Or.inr (by decide))]; exact ew6489
              have e6560 : I6558 (ad g 0) 1 = L := by rw [eI6558, pp_ne _ _ (Or.inl (ly_ne hy (by decide) (by decide) (by decide)))]; exact e6492
              have e6561 : I6558 (ad g 39) 33 = v6557 := by rw [eI6558, pp_self]
              have fr6562 : fs g [] I I6558 := by rw [eI6558]; exact fs_ppn hy fqI6487 (by decide) (by decide)
              have fr6563 : fz 49 g [39] I I6558 := by rw [eI6558]; exact fzm_pp hy fiI6487 (by decide) (by decide)
              clear eI6558
              refine WP_iinc (ls' := [(0, _), (1, _), (2, _)]) dX11_begin_24 rfl (by decide) rfl ?_
              have hv6564 : (i6486 + Int32.ofInt (1)).toInt = i6486.toInt + (1) := ia_n rfl (by omega) (by omega)
              generalize i6486 + Int32.ofInt (1) = v6564 at hv6564 ⊢
              refine WP_goto 2 dX11_begin_27 rfl ?_
              exact WP_sub (fc rfl (fc rfl (fc rfl fn))) (ihlp2_6490 v6564 I6558 J6488 hI6558 fr6563 fjJ6488 fr6562 w6489 e6559 v6557 e6561 (by omega) (by omega) (by omega) (by omega) (by omega))
            · refine WP_aload_n dX11_begin_20 rfl ?_
              refine WP_iload_n dX11_begin_21 rfl ?_
              refine WQ_iconst (0) (0) dX11_begin_22 rfl rfl (fun v6565 hv6565 => ?_)
              refine WQ_iast dX11_begin_23 (ly_is hy 39 13 rfl) (ly_n hy 39 35 rfl) (by omega) (by omega) (fun I6566 fI6566 => ?_)
              have eI6566 := fI6566
              rw [cl (x := i6486) (n := 34) (by omega)] at eI6566
              clear fI6566
              have hI6566 : MP g n L I6566 := by rw [eI6566]; exact (mp_w hy hI6487 (c := 39) (mi_f0 hy hI6487.1 (c := 39) (by decide) (Or.inl (by decide)) (by decide)) (by decide) (by decide) (Or.inl (by decide)))
              have e6567 : I6566 (ad g 39) 32 = w6489 := by rw [eI6566, pp_ne _ _ (Or.inr (by decide))]; exact ew6489
              have e6568 : I6566 (ad g 39) 33 = w6490 := by rw [eI6566, pp_ne _ _ (Or.inr (by decide))]; exact ew6490
              have e6569 : I6566 (ad g 0) 1 = L := by rw [eI6566, pp_ne _ _ (Or.inl (ly_ne hy (by decide) (by decide) (by decide)))]; exact e6492
              have e6570 : I6566 (ad g 39) 34 = v6565 := by rw [eI6566, pp_self]
              have fr6571 : fs g [] I I6566 := by rw [eI6566]; exact fs_ppn hy fqI6487 (by decide) (by decide)
              have fr6572 : fz 49 g [39] I I6566 := by rw [eI6566]; exact fzm_pp hy fiI6487 (by decide) (by decide)
              clear eI6566
              refine WP_iinc (ls' := [(0, _), (1, _), (2, _)]) dX11_begin_24 rfl (by decide) rfl ?_
              have hv6573 : (i6486 + Int32.ofInt (1)).toInt = i6486.toInt + (1) := ia_n rfl (by omega) (by omega)
              generalize i6486 + Int32.ofInt (1) = v6573 at hv6573 ⊢
              refine WP_goto 2 dX11_begin_27 rfl ?_
              exact WP_sub (fc rfl (fc rfl (fc rfl fn))) (ihlp2_6490 v6573 I6566 J6488 hI6566 fr6572 fjJ6488 fr6571 w6489 e6567 w6490 e6568 (by omega) (by omega) (by omega) (by omega) (by omega))
  obtain ⟨w6574, ew6574⟩ : ∃ w : Int32, I (ad g 39) 32 = w := ⟨_, rfl⟩
  have bw6574 := BT_get hI.1.1 39 32 33 (0) (23760) (700000) (by decide) 32 (by decide) (by decide)
  rw [ew6574] at bw6574
  obtain ⟨w6575, ew6575⟩ : ∃ w : Int32, I (ad g 39) 33 = w := ⟨_, rfl⟩
  have bw6575 := BT_get hI.1.1 39 33 34 (0) (1) (30) (by decide) 33 (by decide) (by decide)
  rw [ew6575] at bw6575
  exact WP_sub (fc rfl (fc rfl (fc rfl fn))) (lp2_6490 _ v6485 I J hI fr0 frj0 frq0 w6574 ew6574 w6575 ew6575 (by omega) (by omega) (by omega) (by omega) (Nat.lt_succ_self _))
set_option maxHeartbeats 4000000 in
set_option maxRecDepth 100000 in
theorem sm_forgetWeeksx {g : GG} {n : Int} {L : Int32} (hy : Ly g)  {I : pI} {J : pJ} {R : pR} (hr : Rf g R) (hI : MP g n L I)   : SP g mX11_forgetWeeks [.ref (ad g 0)] I J R (fun r I' J' R' => (MP g n L I' ∧ R' = R ∧ fz 49 g [37] I I' ∧ fz 49 g [] J J' ∧ fs g [] I I') ∧ r = none) := by
  refine SP_of ⟨by decide, rfl⟩ (Nat.le_of_ble_eq_true rfl) ?_
  have e6576 : I (ad g 0) 1 = L := hI.1.2
  have b6577 := BT_get hI.1.1 0 1 2 (0) (0) (900) (by decide) 1 (by decide) (by decide)
  rw [e6576] at b6577
  have fr0 : fz 49 g [37] I I := fz_rf
  have frj0 : fz 49 g [] J J := fz_rf
  have frq0 : fs g [] I I := fs_rf
  refine WQ_iconst (0) (0) dX11_forgetWeeks_0 rfl rfl (fun v6578 hv6578 => ?_)
  refine WP_istore_n (ls' := [(0, _), (1, _)]) dX11_forgetWeeks_1 (by decide) rfl ?_
  have lp2_6581 : ∀ (mz : Nat) (i6579 : Int32) (I6580 : pI) (J6581 : pJ), MP g n L I6580 → fz 49 g [37] I I6580 → fz 49 g [] J J6581 → fs g [] I I6580 → 0 ≤ i6579.toInt → i6579.toInt ≤ 28 → (29 - i6579.toInt).toNat < mz → WP g mX11_forgetWeeks 2 [(0, .ref (ad g 0)), (1, .int i6579)] [] I6580 J6581 R (fun r I' J' R' => (MP g n L I' ∧ R' = R ∧ fz 49 g [37] I I' ∧ fz 49 g [] J J' ∧ fs g [] I I') ∧ r = none) := by
    intro mz
    induction mz with
    | zero =>
      intro i6579 I6580 J6581 hI6580 fiI6580 fjJ6581 fqI6580 ai6579 bi6579 hmlp2_6581
      exact absurd hmlp2_6581 (Nat.not_lt_zero _)
    | succ mz ihlp2_6581 =>
      intro i6579 I6580 J6581 hI6580 fiI6580 fjJ6581 fqI6580 ai6579 bi6579 hmlp2_6581
      have e6583 : I6580 (ad g 0) 1 = L := hI6580.1.2
      have b6584 := BT_get hI6580.1.1 0 1 2 (0) (0) (900) (by decide) 1 (by decide) (by decide)
      rw [e6583] at b6584
      refine WP_iload_n dX11_forgetWeeks_2 rfl ?_
      refine WQ_bipush (28) (28) dX11_forgetWeeks_3 rfl rfl (fun v6585 hv6585 => ?_)
      refine WQ_icmp_ge 21 dX11_forgetWeeks_5 rfl (fun c6585 => ?_) (fun c6585 => ?_)
      · exact WP_vret dX11_forgetWeeks_21 rfl ⟨⟨hI6580, rfl, fiI6580, fjJ6581, fqI6580⟩, rfl⟩
      · refine WP_aload_n dX11_forgetWeeks_8 rfl ?_
        refine WP_getr dX11_forgetWeeks_9 fX11_279 rfl (ly_is hy 0 11 rfl) (rf hr 0 58 37 (by decide)) ?_
        refine WP_iload_n dX11_forgetWeeks_12 rfl ?_
        refine WQ_iconst (0) (0) dX11_forgetWeeks_13 rfl rfl (fun v6587 hv6587 => ?_)
        refine WQ_zast dX11_forgetWeeks_14 (ly_is hy 37 15 rfl) (ly_n hy 37 28 rfl) (by omega) (by omega) (fun I6588 v6589 eI6588 => ?_)
        have hI6588 : MP g n L I6588 := by rw [eI6588]; exact (mp_w hy hI6580 (c := 37) (mi_r0 hy hI6580.1 (c := 37) (by decide) (Or.inl (by decide)) (by decide)) (by decide) (by decide) (Or.inl (by decide)))
        have e6590 : I6588 (ad g 0) 1 = L := by rw [eI6588, pp_ne _ _ (Or.inl (ly_ne hy (by decide) (by decide) (by decide)))]; exact e6583
        have fr6591 : fs g [] I I6588 := by rw [eI6588]; exact fs_ppn hy fqI6580 (by decide) (by decide)
        have fr6592 : fz 49 g [37] I I6588 := by rw [eI6588]; exact fzm_pp hy fiI6580 (by decide) (by decide)
        clear eI6588
        refine WP_iinc (ls' := [(0, _), (1, _)]) dX11_forgetWeeks_15 rfl (by decide) rfl ?_
        have hv6593 : (i6579 + Int32.ofInt (1)).toInt = i6579.toInt + (1) := ia_n rfl (by omega) (by omega)
        generalize i6579 + Int32.ofInt (1) = v6593 at hv6593 ⊢
        refine WP_goto 2 dX11_forgetWeeks_18 rfl ?_
        exact WP_sub (fc rfl (fc rfl fn)) (ihlp2_6581 v6593 I6588 J6581 hI6588 fr6592 fjJ6581 fr6591 (by omega) (by omega) (by omega))
  exact WP_sub (fc rfl (fc rfl fn)) (lp2_6581 _ v6578 I J hI fr0 frj0 frq0 (by omega) (by omega) (Nat.lt_succ_self _))
set_option maxHeartbeats 4000000 in
set_option maxRecDepth 100000 in
theorem sm_runTrial {g : GG} {n : Int} {L : Int32} (hy : Ly g)  {I : pI} {J : pJ} {R : pR} (hr : Rf g R) (hI : MP g n L I) (dd : Int32) (dd_lo : 0 ≤ dd.toInt) (dd_hi : dd.toInt ≤ 28) (hn : 0 ≤ n ∧ n ≤ 40000) : SP g mX11_runTrial [.ref (ad g 0), .int dd] I J R (fun r I' J' R' => (MP g n L I' ∧ R' = R ∧ fz 49 g [0, 35, 36, 37, 39, 40, 41] I I' ∧ fz 49 g [] J J' ∧ fs g [56] I I' ∧ True ∧ I' (ad g 0) 10 = I (ad g 0) 10 ∧ I' (ad g 0) 14 = I (ad g 0) 14 ∧ I' (ad g 0) 68 = I (ad g 0) 68) ∧ r = none) := by
  refine SP_of ⟨by decide, rfl⟩ (Nat.le_of_ble_eq_true rfl) ?_
  have e6594 : I (ad g 0) 1 = L := hI.1.2
  have b6595 := BT_get hI.1.1 0 1 2 (0) (0) (900) (by decide) 1 (by decide) (by decide)
  rw [e6594] at b6595
  have fr0 : fz 49 g [0, 35, 36, 37, 39, 40, 41] I I := fz_rf
  have frj0 : fz 49 g [] J J := fz_rf
  have frq0 : fs g [56] I I := fs_rf
  obtain ⟨w6596, ew6596⟩ : ∃ w : Int32, I (ad g 0) 10 = w := ⟨_, rfl⟩
  have bw6596 := BT_get hI.1.1 0 10 11 (0) (0) (4) (by decide) 10 (by decide) (by decide)
  rw [ew6596] at bw6596
  obtain ⟨w6597, ew6597⟩ : ∃ w : Int32, I (ad g 0) 14 = w := ⟨_, rfl⟩
  have bw6597 := BT_get hI.1.1 0 14 15 (-1) (0) (2) (by decide) 14 (by decide) (by decide)
  rw [ew6597] at bw6597
  obtain ⟨w6598, ew6598⟩ : ∃ w : Int32, I (ad g 0) 68 = w := ⟨_, rfl⟩
  refine WQ_iconst (0) (0) dX11_runTrial_0 rfl rfl (fun v6599 hv6599 => ?_)
  refine WP_istore_n (ls' := [(0, _), (1, _), (2, _)]) dX11_runTrial_1 (by decide) rfl ?_
  have lp2_6605 : ∀ (mz : Nat) (i6600 : Int32) (I6601 : pI) (J6602 : pJ), MP g n L I6601 → fz 49 g [0, 35, 36, 37, 39, 40, 41] I I6601 → fz 49 g [] J J6602 → fs g [56] I I6601 → ∀ (w6603 : Int32), I6601 (ad g 0) 10 = w6603 → ∀ (w6604 : Int32), I6601 (ad g 0) 14 = w6604 → ∀ (w6605 : Int32), I6601 (ad g 0) 68 = w6605 → 0 ≤ i6600.toInt → i6600.toInt ≤ 35 → w6603.toInt = w6596.toInt → w6604.toInt = w6597.toInt → w6605.toInt = w6598.toInt → (36 - i6600.toInt).toNat < mz → WP g mX11_runTrial 2 [(0, .ref (ad g 0)), (1, .int dd), (2, .int i6600)] [] I6601 J6602 R (fun r I' J' R' => (MP g n L I' ∧ R' = R ∧ fz 49 g [0, 35, 36, 37, 39, 40, 41] I I' ∧ fz 49 g [] J J' ∧ fs g [56] I I' ∧ True ∧ I' (ad g 0) 10 = I (ad g 0) 10 ∧ I' (ad g 0) 14 = I (ad g 0) 14 ∧ I' (ad g 0) 68 = I (ad g 0) 68) ∧ r = none) := by
    intro mz
    induction mz with
    | zero =>
      intro i6600 I6601 J6602 hI6601 fiI6601 fjJ6602 fqI6601 w6603 ew6603 w6604 ew6604 w6605 ew6605 ai6600 bi6600 j0_I6601 j1_I6601 j2_I6601 hmlp2_6605
      exact absurd hmlp2_6605 (Nat.not_lt_zero _)
    | succ mz ihlp2_6605 =>
      intro i6600 I6601 J6602 hI6601 fiI6601 fjJ6602 fqI6601 w6603 ew6603 w6604 ew6604 w6605 ew6605 ai6600 bi6600 j0_I6601 j1_I6601 j2_I6601 hmlp2_6605
      have bw6603 := BT_get hI6601.1.1 0 10 11 (0) (0) (4) (by decide) 10 (by decide) (by decide)
      rw [ew6603] at bw6603
      have bw6604 := BT_get hI6601.1.1 0 14 15 (-1) (0) (2) (by decide) 14 (by decide) (by decide)
      rw [ew6604] at bw6604
      have e6607 : I6601 (ad g 0) 1 = L := hI6601.1.2
      have b6608 := BT_get hI6601.1.1 0 1 2 (0) (0) (900) (by decide) 1 (by decide) (by decide)
      rw [e6607] at b6608
      refine WP_iload_n dX11_runTrial_2 rfl ?_
      refine WQ_bipush (35) (35) dX11_runTrial_3 rfl rfl (fun v6609 hv6609 => ?_)
      refine WQ_icmp_ge 26 dX11_runTrial_5 rfl (fun c6609 => ?_) (fun c6609 => ?_)
      · refine WP_aload_n dX11_runTrial_26 rfl ?_
        refine WP_aload_n dX11_runTrial_27 rfl ?_
        refine WP_getr dX11_runTrial_28 fX11_286 rfl (ly_is hy 0 11 rfl) (rf hr 0 60 39 (by decide)) ?_
        refine WP_callV1 (k := 11) dX11_runTrial_31 ⟨⟨⟨by decide, by decide⟩, zX11_begin⟩, lX11_342, by decide, rfl, vX11_begin.1, vX11_begin.2⟩ (ly_is hy 0 11 rfl) (sm_beginx_39 hy hr hI6601   (by omega)) (Nat.le_of_ble_eq_true rfl) ?_
        intro r I6611 J6612 Ra hq
        obtain ⟨⟨hI6611, ec, fiI6611, fjI6611, fqI6611, pI6611⟩, rfl⟩ := hq
        rw [ec]
        clear ec Ra
        have fr6613 : fz 49 g [0, 35, 36, 37, 39, 40, 41] I I6611 := fz_tr fiI6601 (fz_mono fiI6611 (by decide))
        have fr6614 : fs g [56] I I6611 := fs_tr fqI6601 (fs_mono fqI6611 (by decide))
        have fr6615 : fz 49 g [] J J6612 := fz_tr fjJ6602 (fz_mono fjI6611 (by decide))
        have e6616 : I6611 (ad g 0) 10 = w6603 := by rw [fz_at fiI6611 0 (by decide) (by decide)]; exact ew6603
        have e6617 : I6611 (ad g 0) 14 = w6604 := by rw [fz_at fiI6611 0 (by decide) (by decide)]; exact ew6604
        have e6618 : I6611 (ad g 0) 68 = w6605 := by rw [fz_at fiI6611 0 (by decide) (by decide)]; exact ew6605
        have e6619 : I6611 (ad g 0) 1 = L := hI6611.1.2
        have b6620 := BT_get hI6611.1.1 0 1 2 (0) (0) (900) (by decide) 1 (by decide) (by decide)
        rw [e6619] at b6620
        obtain ⟨w6621, ew6621⟩ : ∃ w : Int32, I6611 (ad g 39) 32 = w := ⟨_, rfl⟩
        have bw6621 := BT_get hI6611.1.1 39 32 33 (0) (23760) (700000) (by decide) 32 (by decide) (by decide)
        rw [ew6621] at bw6621
        obtain ⟨w6622, ew6622⟩ : ∃ w : Int32, I6611 (ad g 39) 33 = w := ⟨_, rfl⟩
        have bw6622 := BT_get hI6611.1.1 39 33 34 (0) (1) (30) (by decide) 33 (by decide) (by decide)
        rw [ew6622] at bw6622
        rw [ew6621, ew6622] at pI6611
        refine WQ_iconst (0) (0) dX11_runTrial_34 rfl rfl (fun v6623 hv6623 => ?_)
        refine WP_istore_n (ls' := [(0, _), (1, _), (2, _)]) dX11_runTrial_35 (by decide) rfl ?_
        have lp36_6631 : ∀ (mz : Nat) (i6624 : Int32) (I6625 : pI) (J6626 : pJ), MP g n L I6625 → fz 49 g [0, 35, 36, 37, 39, 40, 41] I I6625 → fz 49 g [] J J6626 → fs g [56] I I6625 → ∀ (w6627 : Int32), I6625 (ad g 39) 32 = w6627 → ∀ (w6628 : Int32), I6625 (ad g 39) 33 = w6628 → ∀ (w6629 : Int32), I6625 (ad g 0) 10 = w6629 → ∀ (w6630 : Int32), I6625 (ad g 0) 14 = w6630 → ∀ (w6631 : Int32), I6625 (ad g 0) 68 = w6631 → 0 ≤ i6624.toInt → i6624.toInt ≤ 21 → w6627.toInt = 0 → w6628.toInt = 0 → w6629.toInt = w6596.toInt → w6630.toInt = w6597.toInt → w6631.toInt = w6598.toInt → (22 - i6624.toInt).toNat < mz → WP g mX11_runTrial 36 [(0, .ref (ad g 0)), (1, .int dd), (2, .int i6624)] [] I6625 J6626 R (fun r I' J' R' => (MP g n L I' ∧ R' = R ∧ fz 49 g [0, 35, 36, 37, 39, 40, 41] I I' ∧ fz 49 g [] J J' ∧ fs g [56] I I' ∧ True ∧ I' (ad g 0) 10 = I (ad g 0) 10 ∧ I' (ad g 0) 14 = I (ad g 0) 14 ∧ I' (ad g 0) 68 = I (ad g 0) 68) ∧ r = none) := by
          intro mz
          induction mz with
          | zero =>
            intro i6624 I6625 J6626 hI6625 fiI6625 fjJ6626 fqI6625 w6627 ew6627 w6628 ew6628 w6629 ew6629 w6630 ew6630 w6631 ew6631 ai6624 bi6624 j0_I6625 j1_I6625 j2_I6625 j3_I6625 j4_I6625 hmlp36_6631
            exact absurd hmlp36_6631 (Nat.not_lt_zero _)
          | succ mz ihlp36_6631 =>
            intro i6624 I6625 J6626 hI6625 fiI6625 fjJ6626 fqI6625 w6627 ew6627 w6628 ew6628 w6629 ew6629 w6630 ew6630 w6631 ew6631 ai6624 bi6624 j0_I6625 j1_I6625 j2_I6625 j3_I6625 j4_I6625 hmlp36_6631
            have bw6627 := BT_get hI6625.1.1 39 32 33 (0) (23760) (700000) (by decide) 32 (by decide) (by decide)
            rw [ew6627] at bw6627
            have bw6628 := BT_get hI6625.1.1 39 33 34 (0) (1) (30) (by decide) 33 (by decide) (by decide)
            rw [ew6628] at bw6628
            have bw6629 := BT_get hI6625.1.1 0 10 11 (0) (0) (4) (by decide) 10 (by decide) (by decide)
            rw [ew6629] at bw6629
            have bw6630 := BT_get hI6625.1.1 0 14 15 (-1) (0) (2) (by decide) 14 (by decide) (by decide)
            rw [ew6630] at bw6630
            have e6633 : I6625 (ad g 0) 1 = L := hI6625.1.2
            have b6634 := BT_get hI6625.1.1 0 1 2 (0) (0) (900) (by decide) 1 (by decide) (by decide)
            rw [e6633] at b6634
            refine WP_iload_n dX11_runTrial_36 rfl ?_
            refine WP_aload_n dX11_runTrial_37 rfl ?_
            refine WP_getr dX11_runTrial_38 fX11_292 rfl (ly_is hy 0 11 rfl) (rf hr 0 63 41 (by decide)) ?_
            refine WP_alen dX11_runTrial_41 (ly_is hy 41 13 rfl) (by decide) ?_
            rw [(ly_n hy 41 21 rfl)]
            obtain ⟨v6635, hv6635, ev6635⟩ : ∃ v : Int32, v.toInt = 21 ∧ nI 21 = v := ⟨_, nI_toInt (by decide), rfl⟩
            rw [ev6635]; clear ev6635
            refine WQ_icmp_ge 58 dX11_runTrial_42 rfl (fun c6635 => ?_) (fun c6635 => ?_)
            · refine WQ_iconst (0) (0) dX11_runTrial_58 rfl rfl (fun v6637 hv6637 => ?_)
              refine WP_istore_n (ls' := [(0, _), (1, _), (2, _)]) dX11_runTrial_59 (by decide) rfl ?_
              have lp60_6645 : ∀ (mz : Nat) (i6638 : Int32) (I6639 : pI) (J6640 : pJ), MP g n L I6639 → fz 49 g [0, 35, 36, 37, 39, 40, 41] I I6639 → fz 49 g [] J J6640 → fs g [56] I I6639 → ∀ (w6641 : Int32), I6639 (ad g 39) 32 = w6641 → ∀ (w6642 : Int32), I6639 (ad g 39) 33 = w6642 → ∀ (w6643 : Int32), I6639 (ad g 0) 10 = w6643 → ∀ (w6644 : Int32), I6639 (ad g 0) 14 = w6644 → ∀ (w6645 : Int32), I6639 (ad g 0) 68 = w6645 → 0 ≤ i6638.toInt → i6638.toInt ≤ 28 → w6641.toInt ≤ 23760 * i6638.toInt → w6642.toInt = i6638.toInt → i6638.toInt ≤ dd.toInt → w6643.toInt = w6596.toInt → w6644.toInt = w6597.toInt → w6645.toInt = w6598.toInt → (29 - i6638.toInt).toNat < mz → WP g mX11_runTrial 60 [(0, .ref (ad g 0)), (1, .int dd), (2, .int i6638)] [] I6639 J6640 R (fun r I' J' R' => (MP g n L I' ∧ R' = R ∧ fz 49 g [0, 35, 36, 37, 39, 40, 41] I I' ∧ fz 49 g [] J J' ∧ fs g [56] I I' ∧ True ∧ I' (ad g 0) 10 = I (ad g 0) 10 ∧ I' (ad g 0) 14 = I (ad g 0) 14 ∧ I' (ad g 0) 68 = I (ad g 0) 68) ∧ r = none) := by
                intro mz
                induction mz with
                | zero =>
                  intro i6638 I6639 J6640 hI6639 fiI6639 fjJ6640 fqI6639 w6641 ew6641 w6642 ew6642 w6643 ew6643 w6644 ew6644 w6645 ew6645 ai6638 bi6638 j0_I6639 j1_I6639 j2_I6639 j3_I6639 j4_I6639 j5_I6639 hmlp60_6645
                  exact absurd hmlp60_6645 (Nat.not_lt_zero _)
                | succ mz ihlp60_6645 =>
                  intro i6638 I6639 J6640 hI6639 fiI6639 fjJ6640 fqI6639 w6641 ew6641 w6642 ew6642 w6643 ew6643 w6644 ew6644 w6645 ew6645 ai6638 bi6638 j0_I6639 j1_I6639 j2_I6639 j3_I6639 j4_I6639 j5_I6639 hmlp60_6645
                  have bw6641 := BT_get hI6639.1.1 39 32 33 (0) (23760) (700000) (by decide) 32 (by decide) (by decide)
                  rw [ew6641] at bw6641
                  have bw6642 := BT_get hI6639.1.1 39 33 34 (0) (1) (30) (by decide) 33 (by decide) (by decide)
                  rw [ew6642] at bw6642
                  have bw6643 := BT_get hI6639.1.1 0 10 11 (0) (0) (4) (by decide) 10 (by decide) (by decide)
                  rw [ew6643] at bw6643
                  have bw6644 := BT_get hI6639.1.1 0 14 15 (-1) (0) (2) (by decide) 14 (by decide) (by decide)
                  rw [ew6644] at bw6644
                  have e6647 : I6639 (ad g 0) 1 = L := hI6639.1.2
                  have b6648 := BT_get hI6639.1.1 0 1 2 (0) (0) (900) (by decide) 1 (by decide) (by decide)
                  rw [e6647] at b6648
                  refine WP_iload_n dX11_runTrial_60 rfl ?_
                  refine WP_iload_n dX11_runTrial_61 rfl ?_
                  refine WQ_icmp_ge 80 dX11_runTrial_62 rfl (fun c6648 => ?_) (fun c6648 => ?_)
                  · exact WP_vret dX11_runTrial_80 rfl ⟨⟨hI6639, rfl, fiI6639, fjJ6640, fqI6639, ⟨trivial, (by rw [ew6643, ew6596] <;> exact (eq32 _ _).mpr (by omega)), (by rw [ew6644, ew6597] <;> exact (eq32 _ _).mpr (by omega)), (by rw [ew6645, ew6598] <;> exact (eq32 _ _).mpr (by omega))⟩⟩, rfl⟩
                  · refine WP_aload_n dX11_runTrial_65 rfl ?_
                    refine WP_aload_n dX11_runTrial_66 rfl ?_
                    refine WP_getr dX11_runTrial_67 fX11_286 rfl (ly_is hy 0 11 rfl) (rf hr 0 60 39 (by decide)) ?_
                    refine WP_callV1 (k := 11) dX11_runTrial_70 ⟨⟨⟨by decide, by decide⟩, zX11_dayOf⟩, lX11_484, by decide, rfl, vX11_dayOf.1, vX11_dayOf.2⟩ (ly_is hy 0 11 rfl) (sm_dayOf_39 hy hr hI6639   (by omega) (by rw [ew6641, ew6642]; omega)) (Nat.le_of_ble_eq_true rfl) ?_
                    intro r I6650 J6651 Ra hq
                    obtain ⟨⟨hI6650, ec, fiI6650, fjI6650, fqI6650, ⟨pI6650, sI6650_0_10, sI6650_0_14, sI6650_0_68⟩⟩, l6652, rfl⟩ := hq
                    show WP _ _ _ _ (.long _ :: _) _ _ _ _
                    rw [ec]
                    clear ec Ra
                    have fr6653 : fz 49 g [0, 35, 36, 37, 39, 40, 41] I I6650 := fz_tr fiI6639 (fz_mono fiI6650 (by decide))
                    have fr6654 : fs g [56] I I6650 := fs_tr fqI6639 (fs_mono fqI6650 (by decide))
                    have fr6655 : fz 49 g [] J J6651 := fz_tr fjJ6640 (fz_mono fjI6650 (by decide))
                    have e6656 : I6650 (ad g 0) 10 = w6643 := by rw [sI6650_0_10]; exact ew6643
                    have e6657 : I6650 (ad g 0) 14 = w6644 := by rw [sI6650_0_14]; exact ew6644
                    have e6658 : I6650 (ad g 0) 68 = w6645 := by rw [sI6650_0_68]; exact ew6645
                    have e6659 : I6650 (ad g 0) 1 = L := hI6650.1.2
                    have b6660 := BT_get hI6650.1.1 0 1 2 (0) (0) (900) (by decide) 1 (by decide) (by decide)
                    rw [e6659] at b6660
                    obtain ⟨w6661, ew6661⟩ : ∃ w : Int32, I6650 (ad g 39) 32 = w := ⟨_, rfl⟩
                    have bw6661 := BT_get hI6650.1.1 39 32 33 (0) (23760) (700000) (by decide) 32 (by decide) (by decide)
                    rw [ew6661] at bw6661
                    obtain ⟨w6662, ew6662⟩ : ∃ w : Int32, I6650 (ad g 39) 33 = w := ⟨_, rfl⟩
                    have bw6662 := BT_get hI6650.1.1 39 33 34 (0) (1) (30) (by decide) 33 (by decide) (by decide)
                    rw [ew6662] at bw6662
                    rw [ew6661, ew6662, ew6641, ew6642] at pI6650
                    refine WP_pop2l dX11_runTrial_73 rfl ?_
                    refine WP_iinc (ls' := [(0, _), (1, _), (2, _)]) dX11_runTrial_74 rfl (by decide) rfl ?_
                    have hv6663 : (i6638 + Int32.ofInt (1)).toInt = i6638.toInt + (1) := ia_n rfl (by omega) (by omega)
                    generalize i6638 + Int32.ofInt (1) = v6663 at hv6663 ⊢
                    refine WP_goto 60 dX11_runTrial_77 rfl ?_
                    exact WP_sub (fc rfl (fc rfl (fc rfl fn))) (ihlp60_6645 v6663 I6650 J6651 hI6650 fr6653 fr6655 fr6654 w6661 ew6661 w6662 ew6662 w6643 e6656 w6644 e6657 w6645 e6658 (by omega) (by omega) (by omega) (by omega) (by omega) (by omega) (by omega) (by omega) (by omega))
              exact WP_sub (fc rfl (fc rfl (fc rfl fn))) (lp60_6645 _ v6637 I6625 J6626 hI6625 fiI6625 fjJ6626 fqI6625 w6627 ew6627 w6628 ew6628 w6629 ew6629 w6630 ew6630 w6631 ew6631 (by omega) (by omega) (by omega) (by omega) (by omega) (by omega) (by omega) (by omega) (Nat.lt_succ_self _))
            · refine WP_aload_n dX11_runTrial_45 rfl ?_
              refine WP_getr dX11_runTrial_46 fX11_292 rfl (ly_is hy 0 11 rfl) (rf hr 0 63 41 (by decide)) ?_
              refine WP_iload_n dX11_runTrial_49 rfl ?_
              refine WQ_iconst (0) (0) dX11_runTrial_50 rfl rfl (fun v6664 hv6664 => ?_)
              refine WQ_iast dX11_runTrial_51 (ly_is hy 41 13 rfl) (ly_n hy 41 21 rfl) (by omega) (by omega) (fun I6665 eI6665 => ?_)
              have hI6665 : MP g n L I6665 := by rw [eI6665]; exact (mp_w hy hI6625 (c := 41) (mi_r0 hy hI6625.1 (c := 41) (by decide) (Or.inl (by decide)) (by decide)) (by decide) (by decide) (Or.inl (by decide)))
              have e6666 : I6665 (ad g 39) 32 = w6627 := by rw [eI6665, pp_ne _ _ (Or.inl (ly_ne hy (by decide) (by decide) (by decide)))]; exact ew6627
              have e6667 : I6665 (ad g 39) 33 = w6628 := by rw [eI6665, pp_ne _ _ (Or.inl (ly_ne hy (by decide) (by decide) (by decide)))]; exact ew6628
              have e6668 : I6665 (ad g 0) 10 = w6629 := by rw [eI6665, pp_ne _ _ (Or.inl (ly_ne hy (by decide) (by decide) (by decide)))]; exact ew6629
              have e6669 : I6665 (ad g 0) 14 = w6630 := by rw [eI6665, pp_ne _ _ (Or.inl (ly_ne hy (by decide) (by decide) (by decide)))]; exact ew6630
              have e6670 : I6665 (ad g 0) 68 = w6631 := by rw [eI6665, pp_ne _ _ (Or.inl (ly_ne hy (by decide) (by decide) (by decide)))]; exact ew6631
              have e6671 : I6665 (ad g 0) 1 = L := by rw [eI6665, pp_ne _ _ (Or.inl (ly_ne hy (by decide) (by decide) (by decide)))]; exact e6633
              have fr6672 : fs g [56] I I6665 := by rw [eI6665]; exact fs_ppn hy fqI6625 (by decide) (by decide)
              have fr6673 : fz 49 g [0, 35, 36, 37, 39, 40, 41] I I6665 := by rw [eI6665]; exact fzm_pp hy fiI6625 (by decide) (by decide)
              clear eI6665
              refine WP_iinc (ls' := [(0, _), (1, _), (2, _)]) dX11_runTrial_52 rfl (by decide) rfl ?_
              have hv6674 : (i6624 + Int32.ofInt (1)).toInt = i6624.toInt + (1) := ia_n rfl (by omega) (by omega)
              generalize i6624 + Int32.ofInt (1) = v6674 at hv6674 ⊢
              refine WP_goto 36 dX11_runTrial_55 rfl ?_
              exact WP_sub (fc rfl (fc rfl (fc rfl fn))) (ihlp36_6631 v6674 I6665 J6626 hI6665 fr6673 fjJ6626 fr6672 w6627 e6666 w6628 e6667 w6629 e6668 w6630 e6669 w6631 e6670 (by omega) (by omega) (by omega) (by omega) (by omega) (by omega) (by omega) (by omega))
        exact WP_sub (fc rfl (fc rfl (fc rfl fn))) (lp36_6631 _ v6623 I6611 J6612 hI6611 fr6613 fr6615 fr6614 w6621 ew6621 w6622 ew6622 w6603 e6616 w6604 e6617 w6605 e6618 (by omega) (by omega) (by omega) (by omega) (by omega) (by omega) (by omega) (Nat.lt_succ_self _))
      · rcases (show (0 ≤ i6600.toInt ∧ i6600.toInt ≤ 3) ∨ (4 ≤ i6600.toInt ∧ i6600.toInt ≤ 7) ∨ (8 ≤ i6600.toInt ∧ i6600.toInt ≤ 31) ∨ (32 ≤ i6600.toInt ∧ i6600.toInt ≤ 32) ∨ (33 ≤ i6600.toInt ∧ i6600.toInt ≤ 33) ∨ (34 ≤ i6600.toInt ∧ i6600.toInt ≤ 34) by omega) with ⟨k6675_0, k6675_1⟩ | ⟨k6675_2, k6675_3⟩ | ⟨k6675_4, k6675_5⟩ | ⟨k6675_6, k6675_7⟩ | ⟨k6675_8, k6675_9⟩ | ⟨k6675_10, k6675_11⟩
        · refine WP_aload_n dX11_runTrial_8 rfl ?_
          refine WP_getr dX11_runTrial_9 fX11_286 rfl (ly_is hy 0 11 rfl) (rf hr 0 60 39 (by decide)) ?_
          refine WP_iload_n dX11_runTrial_12 rfl ?_
          refine WP_aload_n dX11_runTrial_13 rfl ?_
          refine WP_getr dX11_runTrial_14 fX11_283 rfl (ly_is hy 0 11 rfl) (rf hr 0 59 38 (by decide)) ?_
          refine WP_iload_n dX11_runTrial_17 rfl ?_
          refine WQ_ialdr dX11_runTrial_18 (ly_is hy 38 13 rfl) (ly_n hy 38 35 rfl) (by omega) (by omega) (a := 0) (b := 4) (by omega) (by omega) (fun q hq1 hq2 => BT_get hI6601.1.1 38 0 4 (0) (0) (60) (by decide) q hq1 hq2) (fun v6676 av6676 bv6676 => ?_)
          refine WQ_iast dX11_runTrial_19 (ly_is hy 39 13 rfl) (ly_n hy 39 35 rfl) (by omega) (by omega) (fun I6677 eI6677 => ?_)
          have hI6677 : MP g n L I6677 := by rw [eI6677]; exact (mp_w hy hI6601 (c := 39) (mi_rr hy hI6601.1 (c := 39) (0) (3) (0) (0) (60) (by decide) (Or.inl (by decide)) (by rw [cl (n := i6600.toInt.toNat) (by omega)]; omega) (by decide) (fun _ => ⟨by omega, by omega⟩)) (by decide) (by decide) (Or.inl (by decide)))
          have e6678 : I6677 (ad g 0) 10 = w6603 := by rw [eI6677, pp_ne _ _ (Or.inl (ly_ne hy (by decide) (by decide) (by decide)))]; exact ew6603
          have e6679 : I6677 (ad g 0) 14 = w6604 := by rw [eI6677, pp_ne _ _ (Or.inl (ly_ne hy (by decide) (by decide) (by decide)))]; exact ew6604
          have e6680 : I6677 (ad g 0) 68 = w6605 := by rw [eI6677, pp_ne _ _ (Or.inl (ly_ne hy (by decide) (by decide) (by decide)))]; exact ew6605
          have e6681 : I6677 (ad g 0) 1 = L := by rw [eI6677, pp_ne _ _ (Or.inl (ly_ne hy (by decide) (by decide) (by decide)))]; exact e6607
          have fr6682 : fs g [56] I I6677 := by rw [eI6677]; exact fs_ppn hy fqI6601 (by decide) (by decide)
          have fr6683 : fz 49 g [0, 35, 36, 37, 39, 40, 41] I I6677 := by rw [eI6677]; exact fzm_pp hy fiI6601 (by decide) (by decide)
          clear eI6677
          refine WP_iinc (ls' := [(0, _), (1, _), (2, _)]) dX11_runTrial_20 rfl (by decide) rfl ?_
          have hv6684 : (i6600 + Int32.ofInt (1)).toInt = i6600.toInt + (1) := ia_n rfl (by omega) (by omega)
          generalize i6600 + Int32.ofInt (1) = v6684 at hv6684 ⊢
          refine WP_goto 2 dX11_runTrial_23 rfl ?_
          exact WP_sub (fc rfl (fc rfl (fc rfl fn))) (ihlp2_6605 v6684 I6677 J6602 hI6677 fr6683 fjJ6602 fr6682 w6603 e6678 w6604 e6679 w6605 e6680 (by omega) (by omega) (by omega) (by omega) (by omega) (by omega))
        · refine WP_aload_n dX11_runTrial_8 rfl ?_
          refine WP_getr dX11_runTrial_9 fX11_286 rfl (ly_is hy 0 11 rfl) (rf hr 0 60 39 (by decide)) ?_
          refine WP_iload_n dX11_runTrial_12 rfl ?_
          refine WP_aload_n dX11_runTrial_13 rfl ?_
          refine WP_getr dX11_runTrial_14 fX11_283 rfl (ly_is hy 0 11 rfl) (rf hr 0 59 38 (by decide)) ?_
          refine WP_iload_n dX11_runTrial_17 rfl ?_
          refine WQ_ialdr dX11_runTrial_18 (ly_is hy 38 13 rfl) (ly_n hy 38 35 rfl) (by omega) (by omega) (a := 4) (b := 8) (by omega) (by omega) (fun q hq1 hq2 => BT_get hI6601.1.1 38 4 8 (0) (0) (5) (by decide) q hq1 hq2) (fun v6685 av6685 bv6685 => ?_)
          refine WQ_iast dX11_runTrial_19 (ly_is hy 39 13 rfl) (ly_n hy 39 35 rfl) (by omega) (by omega) (fun I6686 eI6686 => ?_)
          have hI6686 : MP g n L I6686 := by rw [eI6686]; exact (mp_w hy hI6601 (c := 39) (mi_rr hy hI6601.1 (c := 39) (4) (7) (0) (0) (5) (by decide) (Or.inl (by decide)) (by rw [cl (n := i6600.toInt.toNat) (by omega)]; omega) (by decide) (fun _ => ⟨by omega, by omega⟩)) (by decide) (by decide) (Or.inl (by decide)))
          have e6687 : I6686 (ad g 0) 10 = w6603 := by rw [eI6686, pp_ne _ _ (Or.inl (ly_ne hy (by decide) (by decide) (by decide)))]; exact ew6603
          have e6688 : I6686 (ad g 0) 14 = w6604 := by rw [eI6686, pp_ne _ _ (Or.inl (ly_ne hy (by decide) (by decide) (by decide)))]; exact ew6604
          have e6689 : I6686 (ad g 0) 68 = w6605 := by rw [eI6686, pp_ne _ _ (Or.inl (ly_ne hy (by decide) (by decide) (by decide)))]; exact ew6605
          have e6690 : I6686 (ad g 0) 1 = L := by rw [eI6686, pp_ne _ _ (Or.inl (ly_ne hy (by decide) (by decide) (by decide)))]; exact e6607
          have fr6691 : fs g [56] I I6686 := by rw [eI6686]; exact fs_ppn hy fqI6601 (by decide) (by decide)
          have fr6692 : fz 49 g [0, 35, 36, 37, 39, 40, 41] I I6686 := by rw [eI6686]; exact fzm_pp hy fiI6601 (by decide) (by decide)
          clear eI6686
          refine WP_iinc (ls' := [(0, _), (1, _), (2, _)]) dX11_runTrial_20 rfl (by decide) rfl ?_
          have hv6693 : (i6600 + Int32.ofInt (1)).toInt = i6600.toInt + (1) := ia_n rfl (by omega) (by omega)
          generalize i6600 + Int32.ofInt (1) = v6693 at hv6693 ⊢
          refine WP_goto 2 dX11_runTrial_23 rfl ?_
          exact WP_sub (fc rfl (fc rfl (fc rfl fn))) (ihlp2_6605 v6693 I6686 J6602 hI6686 fr6692 fjJ6602 fr6691 w6603 e6687 w6604 e6688 w6605 e6689 (by omega) (by omega) (by omega) (by omega) (by omega) (by omega))
        · refine WP_aload_n dX11_runTrial_8 rfl ?_
          refine WP_getr dX11_runTrial_9 fX11_286 rfl (ly_is hy 0 11 rfl) (rf hr 0 60 39 (by decide)) ?_
          refine WP_iload_n dX11_runTrial_12 rfl ?_
          refine WP_aload_n dX11_runTrial_13 rfl ?_
          refine WP_getr dX11_runTrial_14 fX11_283 rfl (ly_is hy 0 11 rfl) (rf hr 0 59 38 (by decide)) ?_
          refine WP_iload_n dX11_runTrial_17 rfl ?_
          refine WQ_ialdu dX11_runTrial_18 (ly_is hy 38 13 rfl) (ly_n hy 38 35 rfl) (by omega) (by omega) (fun v6694 => ?_)
          refine WQ_iast dX11_runTrial_19 (ly_is hy 39 13 rfl) (ly_n hy 39 35 rfl) (by omega) (by omega) (fun I6695 eI6695 => ?_)
          have hI6695 : MP g n L I6695 := by rw [eI6695]; exact (mp_w hy hI6601 (c := 39) (mi_rr hy hI6601.1 (c := 39) (8) (31) (0) (0) (0) (by decide) (Or.inl (by decide)) (by rw [cl (n := i6600.toInt.toNat) (by omega)]; omega) (by decide) (fun h => absurd h (by decide))) (by decide) (by decide) (Or.inl (by decide)))
          have e6696 : I6695 (ad g 0) 10 = w6603 := by rw [eI6695, pp_ne _ _ (Or.inl (ly_ne hy (by decide) (by decide) (by decide)))]; exact ew6603
          have e6697 : I6695 (ad g 0) 14 = w6604 := by rw [eI6695, pp_ne _ _ (Or.inl (ly_ne hy (by decide) (by decide) (by decide)))]; exact ew6604
          have e6698 : I6695 (ad g 0) 68 = w6605 := by rw [eI6695, pp_ne _ _ (Or.inl (ly_ne hy (by decide) (by decide) (by decide)))]; exact ew6605
          have e6699 : I6695 (ad g 0) 1 = L := by rw [eI6695, pp_ne _ _ (Or.inl (ly_ne hy (by decide) (by decide) (by decide)))]; exact e6607
          have fr6700 : fs g [56] I I6695 := by rw [eI6695]; exact fs_ppn hy fqI6601 (by decide) (by decide)
          have fr6701 : fz 49 g [0, 35, 36, 37, 39, 40, 41] I I6695 := by rw [eI6695]; exact fzm_pp hy fiI6601 (by decide) (by decide)
          clear eI6695
          refine WP_iinc (ls' := [(0, _), (1, _), (2, _)]) dX11_runTrial_20 rfl (by decide) rfl ?_
          have hv6702 : (i6600 + Int32.ofInt (1)).toInt = i6600.toInt + (1) := ia_n rfl (by omega) (by omega)
          generalize i6600 + Int32.ofInt (1) = v6702 at hv6702 ⊢
          refine WP_goto 2 dX11_runTrial_23 rfl ?_
          exact WP_sub (fc rfl (fc rfl (fc rfl fn))) (ihlp2_6605 v6702 I6695 J6602 hI6695 fr6701 fjJ6602 fr6700 w6603 e6696 w6604 e6697 w6605 e6698 (by omega) (by omega) (by omega) (by omega) (by omega) (by omega))
        · refine WP_aload_n dX11_runTrial_8 rfl ?_
          refine WP_getr dX11_runTrial_9 fX11_286 rfl (ly_is hy 0 11 rfl) (rf hr 0 60 39 (by decide)) ?_
          refine WP_iload_n dX11_runTrial_12 rfl ?_
          refine WP_aload_n dX11_runTrial_13 rfl ?_
          refine WP_getr dX11_runTrial_14 fX11_283 rfl (ly_is hy 0 11 rfl) (rf hr 0 59 38 (by decide)) ?_
          refine WP_iload_n dX11_runTrial_17 rfl ?_
          refine WQ_ialdr dX11_runTrial_18 (ly_is hy 38 13 rfl) (ly_n hy 38 35 rfl) (by omega) (by omega) (a := 32) (b := 33) (by omega) (by omega) (fun q hq1 hq2 => BT_get hI6601.1.1 38 32 33 (0) (23760) (0) (by decide) q hq1 hq2) (fun v6703 av6703 bv6703 => ?_)
          refine WQ_iast dX11_runTrial_19 (ly_is hy 39 13 rfl) (ly_n hy 39 35 rfl) (by omega) (by omega) (fun I6704 eI6704 => ?_)
          have hI6704 : MP g n L I6704 := by rw [eI6704]; exact (mp_w hy hI6601 (c := 39) (mi_rr hy hI6601.1 (c := 39) (32) (32) (0) (23760) (700000) (by decide) (Or.inl (by decide)) (by rw [cl (n := i6600.toInt.toNat) (by omega)]; omega) (by decide) (fun _ => ⟨by omega, by omega⟩)) (by decide) (by decide) (Or.inl (by decide)))
          have e6705 : I6704 (ad g 0) 10 = w6603 := by rw [eI6704, pp_ne _ _ (Or.inl (ly_ne hy (by decide) (by decide) (by decide)))]; exact ew6603
          have e6706 : I6704 (ad g 0) 14 = w6604 := by rw [eI6704, pp_ne _ _ (Or.inl (ly_ne hy (by decide) (by decide) (by decide)))]; exact ew6604
          have e6707 : I6704 (ad g 0) 68 = w6605 := by rw [eI6704, pp_ne _ _ (Or.inl (ly_ne hy (by decide) (by decide) (by decide)))]; exact ew6605
          have e6708 : I6704 (ad g 0) 1 = L := by rw [eI6704, pp_ne _ _ (Or.inl (ly_ne hy (by decide) (by decide) (by decide)))]; exact e6607
          have fr6709 : fs g [56] I I6704 := by rw [eI6704]; exact fs_ppn hy fqI6601 (by decide) (by decide)
          have fr6710 : fz 49 g [0, 35, 36, 37, 39, 40, 41] I I6704 := by rw [eI6704]; exact fzm_pp hy fiI6601 (by decide) (by decide)
          clear eI6704
          refine WP_iinc (ls' := [(0, _), (1, _), (2, _)]) dX11_runTrial_20 rfl (by decide) rfl ?_
          have hv6711 : (i6600 + Int32.ofInt (1)).toInt = i6600.toInt + (1) := ia_n rfl (by omega) (by omega)
          generalize i6600 + Int32.ofInt (1) = v6711 at hv6711 ⊢
          refine WP_goto 2 dX11_runTrial_23 rfl ?_
          exact WP_sub (fc rfl (fc rfl (fc rfl fn))) (ihlp2_6605 v6711 I6704 J6602 hI6704 fr6710 fjJ6602 fr6709 w6603 e6705 w6604 e6706 w6605 e6707 (by omega) (by omega) (by omega) (by omega) (by omega) (by omega))
        · refine WP_aload_n dX11_runTrial_8 rfl ?_
          refine WP_getr dX11_runTrial_9 fX11_286 rfl (ly_is hy 0 11 rfl) (rf hr 0 60 39 (by decide)) ?_
          refine WP_iload_n dX11_runTrial_12 rfl ?_
          refine WP_aload_n dX11_runTrial_13 rfl ?_
          refine WP_getr dX11_runTrial_14 fX11_283 rfl (ly_is hy 0 11 rfl) (rf hr 0 59 38 (by decide)) ?_
          refine WP_iload_n dX11_runTrial_17 rfl ?_
          refine WQ_ialdr dX11_runTrial_18 (ly_is hy 38 13 rfl) (ly_n hy 38 35 rfl) (by omega) (by omega) (a := 33) (b := 34) (by omega) (by omega) (fun q hq1 hq2 => BT_get hI6601.1.1 38 33 34 (0) (1) (0) (by decide) q hq1 hq2) (fun v6712 av6712 bv6712 => ?_)
          refine WQ_iast dX11_runTrial_19 (ly_is hy 39 13 rfl) (ly_n hy 39 35 rfl) (by omega) (by omega) (fun I6713 eI6713 => ?_)
          have hI6713 : MP g n L I6713 := by rw [eI6713]; exact (mp_w hy hI6601 (c := 39) (mi_rr hy hI6601.1 (c := 39) (33) (33) (0) (1) (30) (by decide) (Or.inl (by decide)) (by rw [cl (n := i6600.toInt.toNat) (by omega)]; omega) (by decide) (fun _ => ⟨by omega, by omega⟩)) (by decide) (by decide) (Or.inl (by decide)))
          have e6714 : I6713 (ad g 0) 10 = w6603 := by rw [eI6713, pp_ne _ _ (Or.inl (ly_ne hy (by decide) (by decide) (by decide)))]; exact ew6603
          have e6715 : I6713 (ad g 0) 14 = w6604 := by rw [eI6713, pp_ne _ _ (Or.inl (ly_ne hy (by decide) (by decide) (by decide)))]; exact ew6604
          have e6716 : I6713 (ad g 0) 68 = w6605 := by rw [eI6713, pp_ne _ _ (Or.inl (ly_ne hy (by decide) (by decide) (by decide)))]; exact ew6605
          have e6717 : I6713 (ad g 0) 1 = L := by rw [eI6713, pp_ne _ _ (Or.inl (ly_ne hy (by decide) (by decide) (by decide)))]; exact e6607
          have fr6718 : fs g [56] I I6713 := by rw [eI6713]; exact fs_ppn hy fqI6601 (by decide) (by decide)
          have fr6719 : fz 49 g [0, 35, 36, 37, 39, 40, 41] I I6713 := by rw [eI6713]; exact fzm_pp hy fiI6601 (by decide) (by decide)
          clear eI6713
          refine WP_iinc (ls' := [(0, _), (1, _), (2, _)]) dX11_runTrial_20 rfl (by decide) rfl ?_
          have hv6720 : (i6600 + Int32.ofInt (1)).toInt = i6600.toInt + (1) := ia_n rfl (by omega) (by omega)
          generalize i6600 + Int32.ofInt (1) = v6720 at hv6720 ⊢
          refine WP_goto 2 dX11_runTrial_23 rfl ?_
          exact WP_sub (fc rfl (fc rfl (fc rfl fn))) (ihlp2_6605 v6720 I6713 J6602 hI6713 fr6719 fjJ6602 fr6718 w6603 e6714 w6604 e6715 w6605 e6716 (by omega) (by omega) (by omega) (by omega) (by omega) (by omega))
        · refine WP_aload_n dX11_runTrial_8 rfl ?_
          refine WP_getr dX11_runTrial_9 fX11_286 rfl (ly_is hy 0 11 rfl) (rf hr 0 60 39 (by decide)) ?_
          refine WP_iload_n dX11_runTrial_12 rfl ?_
          refine WP_aload_n dX11_runTrial_13 rfl ?_
          refine WP_getr dX11_runTrial_14 fX11_283 rfl (ly_is hy 0 11 rfl) (rf hr 0 59 38 (by decide)) ?_
          refine WP_iload_n dX11_runTrial_17 rfl ?_
          refine WQ_ialdu dX11_runTrial_18 (ly_is hy 38 13 rfl) (ly_n hy 38 35 rfl) (by omega) (by omega) (fun v6721 => ?_)
          refine WQ_iast dX11_runTrial_19 (ly_is hy 39 13 rfl) (ly_n hy 39 35 rfl) (by omega) (by omega) (fun I6722 eI6722 => ?_)
          have hI6722 : MP g n L I6722 := by rw [eI6722]; exact (mp_w hy hI6601 (c := 39) (mi_rr hy hI6601.1 (c := 39) (34) (34) (0) (0) (0) (by decide) (Or.inl (by decide)) (by rw [cl (n := i6600.toInt.toNat) (by omega)]; omega) (by decide) (fun h => absurd h (by decide))) (by decide) (by decide) (Or.inl (by decide)))
          have e6723 : I6722 (ad g 0) 10 = w6603 := by rw [eI6722, pp_ne _ _ (Or.inl (ly_ne hy (by decide) (by decide) (by decide)))]; exact ew6603
          have e6724 : I6722 (ad g 0) 14 = w6604 := by rw [eI6722, pp_ne _ _ (Or.inl (ly_ne hy (by decide) (by decide) (by decide)))]; exact ew6604
          have e6725 : I6722 (ad g 0) 68 = w6605 := by rw [eI6722, pp_ne _ _ (Or.inl (ly_ne hy (by decide) (by decide) (by decide)))]; exact ew6605
          have e6726 : I6722 (ad g 0) 1 = L := by rw [eI6722, pp_ne _ _ (Or.inl (ly_ne hy (by decide) (by decide) (by decide)))]; exact e6607
          have fr6727 : fs g [56] I I6722 := by rw [eI6722]; exact fs_ppn hy fqI6601 (by decide) (by decide)
          have fr6728 : fz 49 g [0, 35, 36, 37, 39, 40, 41] I I6722 := by rw [eI6722]; exact fzm_pp hy fiI6601 (by decide) (by decide)
          clear eI6722
          refine WP_iinc (ls' := [(0, _), (1, _), (2, _)]) dX11_runTrial_20 rfl (by decide) rfl ?_
          have hv6729 : (i6600 + Int32.ofInt (1)).toInt = i6600.toInt + (1) := ia_n rfl (by omega) (by omega)
          generalize i6600 + Int32.ofInt (1) = v6729 at hv6729 ⊢
          refine WP_goto 2 dX11_runTrial_23 rfl ?_
          exact WP_sub (fc rfl (fc rfl (fc rfl fn))) (ihlp2_6605 v6729 I6722 J6602 hI6722 fr6728 fjJ6602 fr6727 w6603 e6723 w6604 e6724 w6605 e6725 (by omega) (by omega) (by omega) (by omega) (by omega) (by omega))
  exact WP_sub (fc rfl (fc rfl (fc rfl fn))) (lp2_6605 _ v6599 I J hI fr0 frj0 frq0 w6596 ew6596 w6597 ew6597 w6598 ew6598 (by omega) (by omega) (by omega) (by omega) (by omega) (Nat.lt_succ_self _))
set_option maxHeartbeats 4000000 in
set_option maxRecDepth 100000 in
theorem sm_worthOf {g : GG} {n : Int} {L : Int32} (hy : Ly g)  {I : pI} {J : pJ} {R : pR} (hr : Rf g R) (hI : MP g n L I) (ra : Int32) (we : Int32) (ra_lo : 0 ≤ ra.toInt) (ra_hi : ra.toInt ≤ 18) (we_lo : 1 ≤ we.toInt) (we_hi : we.toInt ≤ 4) (hn : 0 ≤ n ∧ n ≤ 40000) : SP g mX11_worthOf [.ref (ad g 0), .int ra, .int we] I J R (fun r I' J' R' => (MP g n L I' ∧ R' = R ∧ fz 49 g [0, 35, 36, 37, 39, 40, 41] I I' ∧ fz 49 g [] J J' ∧ fs g [55, 56] I I') ∧ ∃ v : Int32, r = some (.int v)) := by
  refine SP_of ⟨by decide, rfl⟩ (Nat.le_of_ble_eq_true rfl) ?_
  have e6730 : I (ad g 0) 1 = L := hI.1.2
  have b6731 := BT_get hI.1.1 0 1 2 (0) (0) (900) (by decide) 1 (by decide) (by decide)
  rw [e6730] at b6731
  have fr0 : fz 49 g [0, 35, 36, 37, 39, 40, 41] I I := fz_rf
  have frj0 : fz 49 g [] J J := fz_rf
  have frq0 : fs g [55, 56] I I := fs_rf
  refine WP_aload_n dX11_worthOf_0 rfl ?_
  refine WQ_bipush (50) (50) dX11_worthOf_1 rfl rfl (fun v6732 hv6732 => ?_)
  refine WP_iload_n dX11_worthOf_3 rfl ?_
  refine WQ_imulK (50) dX11_worthOf_4 hv6732 (by omega) (by omega) (fun v6733 hv6733 => ?_)
  refine WQ_puti dX11_worthOf_5 fX11_273 rfl rfl (ly_is hy 0 11 rfl) (fun I6734 eI6734 => ?_)
  have hI6734 : MP g n L I6734 := by rw [eI6734]; exact (mp_w hy hI (c := 0) (mi_f hy hI.1 (c := 0) (-1) (0) (900) (by decide) (Or.inr (by decide)) (by decide) (by omega) (by omega)) (by decide) (by decide) (Or.inr (by decide)))
  have e6735 : I6734 (ad g 0) 1 = L := by rw [eI6734, pp_ne _ _ (Or.inr (by decide))]; exact e6730
  have e6736 : I6734 (ad g 0) 55 = v6733 := by rw [eI6734, pp_self]
  have fr6737 : fs g [55, 56] I I6734 := by rw [eI6734]; exact fs_pp0 frq0 (by decide)
  have fr6738 : fz 49 g [0, 35, 36, 37, 39, 40, 41] I I6734 := by rw [eI6734]; exact fzm_pp hy fr0 (by decide) (by decide)
  clear eI6734
  refine WP_aload_n dX11_worthOf_8 rfl ?_
  refine WP_callV0 (k := 11) dX11_worthOf_9 ⟨⟨⟨by decide, by decide⟩, zX11_forgetWeeks⟩, lX11_350, by decide, rfl, vX11_forgetWeeks.1, vX11_forgetWeeks.2⟩ (ly_is hy 0 11 rfl) (sm_forgetWeeksx hy hr hI6734  ) (Nat.le_of_ble_eq_true rfl) ?_
  intro r I6739 J6740 Ra hq
  obtain ⟨⟨hI6739, ec, fiI6739, fjI6739, fqI6739⟩, rfl⟩ := hq
  rw [ec]
  clear ec Ra
  have fr6741 : fz 49 g [0, 35, 36, 37, 39, 40, 41] I I6739 := fz_tr fr6738 (fz_mono fiI6739 (by decide))
  have fr6742 : fs g [55, 56] I I6739 := fs_tr fr6737 (fs_mono fqI6739 (by decide))
  have fr6743 : fz 49 g [] J J6740 := fz_tr frj0 (fz_mono fjI6739 (by decide))
  have e6744 : I6739 (ad g 0) 55 = v6733 := by rw [fz_at fiI6739 0 (by decide) (by decide)]; exact e6736
  have e6745 : I6739 (ad g 0) 1 = L := hI6739.1.2
  have b6746 := BT_get hI6739.1.1 0 1 2 (0) (0) (900) (by decide) 1 (by decide) (by decide)
  rw [e6745] at b6746
  refine WP_aload_n dX11_worthOf_12 rfl ?_
  refine WQ_bipush (7) (7) dX11_worthOf_13 rfl rfl (fun v6747 hv6747 => ?_)
  refine WP_iload_n dX11_worthOf_15 rfl ?_
  refine WQ_imulK (7) dX11_worthOf_16 hv6747 (by omega) (by omega) (fun v6748 hv6748 => ?_)
  refine WP_callV1 (k := 11) dX11_worthOf_17 ⟨⟨⟨by decide, by decide⟩, zX11_runTrial⟩, lX11_497, by decide, rfl, vX11_runTrial.1, vX11_runTrial.2⟩ (ly_is hy 0 11 rfl) (sm_runTrial hy hr hI6739 v6748 (by omega) (by omega) (by omega)) (Nat.le_of_ble_eq_true rfl) ?_
  intro r I6749 J6750 Ra hq
  obtain ⟨⟨hI6749, ec, fiI6749, fjI6749, fqI6749, ⟨pI6749, sI6749_0_10, sI6749_0_14, sI6749_0_68⟩⟩, rfl⟩ := hq
  rw [ec]
  clear ec Ra
  have fr6751 : fz 49 g [0, 35, 36, 37, 39, 40, 41] I I6749 := fz_tr fr6741 (fz_mono fiI6749 (by decide))
  have fr6752 : fs g [55, 56] I I6749 := fs_tr fr6742 (fs_mono fqI6749 (by decide))
  have fr6753 : fz 49 g [] J J6750 := fz_tr fr6743 (fz_mono fjI6749 (by decide))
  have e6754 : I6749 (ad g 0) 1 = L := hI6749.1.2
  have b6755 := BT_get hI6749.1.1 0 1 2 (0) (0) (900) (by decide) 1 (by decide) (by decide)
  rw [e6754] at b6755
  refine WP_aload_n dX11_worthOf_20 rfl ?_
  refine WQ_iconst (-1) (-1) dX11_worthOf_21 rfl rfl (fun v6756 hv6756 => ?_)
  refine WQ_puti dX11_worthOf_22 fX11_273 rfl rfl (ly_is hy 0 11 rfl) (fun I6757 eI6757 => ?_)
  have hI6757 : MP g n L I6757 := by rw [eI6757]; exact (mp_w hy hI6749 (c := 0) (mi_f hy hI6749.1 (c := 0) (-1) (0) (900) (by decide) (Or.inr (by decide)) (by decide) (by omega) (by omega)) (by decide) (by decide) (Or.inr (by decide)))
  have e6758 : I6757 (ad g 0) 1 = L := by rw [eI6757, pp_ne _ _ (Or.inr (by decide))]; exact e6754
  have e6759 : I6757 (ad g 0) 55 = v6756 := by rw [eI6757, pp_self]
  have fr6760 : fs g [55, 56] I I6757 := by rw [eI6757]; exact fs_pp0 fr6752 (by decide)
  have fr6761 : fz 49 g [0, 35, 36, 37, 39, 40, 41] I I6757 := by rw [eI6757]; exact fzm_pp hy fr6751 (by decide) (by decide)
  clear eI6757
  refine WP_aload_n dX11_worthOf_25 rfl ?_
  refine WP_callV0 (k := 11) dX11_worthOf_26 ⟨⟨⟨by decide, by decide⟩, zX11_forgetWeeks⟩, lX11_350, by decide, rfl, vX11_forgetWeeks.1, vX11_forgetWeeks.2⟩ (ly_is hy 0 11 rfl) (sm_forgetWeeksx hy hr hI6757  ) (Nat.le_of_ble_eq_true rfl) ?_
  intro r I6762 J6763 Ra hq
  obtain ⟨⟨hI6762, ec, fiI6762, fjI6762, fqI6762⟩, rfl⟩ := hq
  rw [ec]
  clear ec Ra
  have fr6764 : fz 49 g [0, 35, 36, 37, 39, 40, 41] I I6762 := fz_tr fr6761 (fz_mono fiI6762 (by decide))
  have fr6765 : fs g [55, 56] I I6762 := fs_tr fr6760 (fs_mono fqI6762 (by decide))
  have fr6766 : fz 49 g [] J J6763 := fz_tr fr6753 (fz_mono fjI6762 (by decide))
  have e6767 : I6762 (ad g 0) 55 = v6756 := by rw [fz_at fiI6762 0 (by decide) (by decide)]; exact e6759
  have e6768 : I6762 (ad g 0) 1 = L := hI6762.1.2
  have b6769 := BT_get hI6762.1.1 0 1 2 (0) (0) (900) (by decide) 1 (by decide) (by decide)
  rw [e6768] at b6769
  refine WQ_iconst (0) (0) dX11_worthOf_29 rfl rfl (fun v6770 hv6770 => ?_)
  refine WP_istore_n (ls' := [(0, _), (1, _), (2, _), (3, _)]) dX11_worthOf_30 (by decide) rfl ?_
  refine WQ_iconst (0) (0) dX11_worthOf_31 rfl rfl (fun v6771 hv6771 => ?_)
  refine WP_istore (ls' := [(0, _), (1, _), (2, _), (3, _), (4, _)]) dX11_worthOf_32 (by decide) rfl ?_
  have lp34_6773 : ∀ (mz : Nat) (i6772 : Int32) (i6773 : Int32), 0 ≤ i6773.toInt → i6773.toInt ≤ 4 → (5 - i6773.toInt).toNat < mz → WP g mX11_worthOf 34 [(0, .ref (ad g 0)), (1, .int ra), (2, .int we), (3, .int i6772), (4, .int i6773)] [] I6762 J6763 R (fun r I' J' R' => (MP g n L I' ∧ R' = R ∧ fz 49 g [0, 35, 36, 37, 39, 40, 41] I I' ∧ fz 49 g [] J J' ∧ fs g [55, 56] I I') ∧ ∃ v : Int32, r = some (.int v)) := by
    intro mz
    induction mz with
    | zero =>
      intro i6772 i6773 ai6773 bi6773 hmlp34_6773
      exact absurd hmlp34_6773 (Nat.not_lt_zero _)
    | succ mz ihlp34_6773 =>
      intro i6772 i6773 ai6773 bi6773 hmlp34_6773
      refine WP_iload dX11_worthOf_34 rfl ?_
      refine WP_aload_n dX11_worthOf_36 rfl ?_
      refine WQ_geti dX11_worthOf_37 fX11_329 rfl (ly_is hy 0 11 rfl) (BT_get hI6762.1.1 0 10 11 (0) (0) (4) (by decide) 10 (by decide) (by decide)) (fun v6775 ev6775 av6775 bv6775 => ?_)
      refine WQ_icmp_ge 62 dX11_worthOf_40 rfl (fun c6775 => ?_) (fun c6775 => ?_)
      · refine WP_iload_n dX11_worthOf_62 rfl ?_
        exact WP_iret dX11_worthOf_63 rfl ⟨⟨hI6762, rfl, fr6764, fr6766, fr6765⟩, _, rfl⟩
      · refine WP_iload_n dX11_worthOf_43 rfl ?_
        refine WP_aload_n dX11_worthOf_44 rfl ?_
        refine WP_getr dX11_worthOf_45 fX11_286 rfl (ly_is hy 0 11 rfl) (rf hr 0 60 39 (by decide)) ?_
        refine WQ_bipush (16) (16) dX11_worthOf_48 rfl rfl (fun v6777 hv6777 => ?_)
        refine WP_iload dX11_worthOf_50 rfl ?_
        refine WQ_iadd dX11_worthOf_52 (by omega) (by omega) (fun v6778 hv6778 => ?_)
        refine WQ_ialdu dX11_worthOf_53 (ly_is hy 39 13 rfl) (ly_n hy 39 35 rfl) (by omega) (by omega) (fun v6779 => ?_)
        refine WQ_iaddu dX11_worthOf_54 (fun v6780 => ?_)
        refine WP_istore_n (ls' := [(0, _), (1, _), (2, _), (3, _), (4, _)]) dX11_worthOf_55 (by decide) rfl ?_
        refine WP_iinc (ls' := [(0, _), (1, _), (2, _), (3, _), (4, _)]) dX11_worthOf_56 rfl (by decide) rfl ?_
        have hv6781 : (i6773 + Int32.ofInt (1)).toInt = i6773.toInt + (1) := ia_n rfl (by omega) (by omega)
        generalize i6773 + Int32.ofInt (1) = v6781 at hv6781 ⊢
        refine WP_goto 34 dX11_worthOf_59 rfl ?_
        exact WP_sub (fc rfl (fc rfl (fc rfl (fc rfl (fc rfl fn))))) (ihlp34_6773 v6780 v6781 (by omega) (by omega) (by omega))
  exact WP_sub (fc rfl (fc rfl (fc rfl (fc rfl (fc rfl fn))))) (lp34_6773 _ v6770 v6771 (by omega) (by omega) (Nat.lt_succ_self _))
set_option maxHeartbeats 4000000 in
set_option maxRecDepth 100000 in
theorem sm_worthAt {g : GG} {n : Int} {L : Int32} (hy : Ly g)  {I : pI} {J : pJ} {R : pR} (hr : Rf g R) (hI : MP g n L I) (a : Int32) (b : Int32)  (hn : 0 ≤ n ∧ n ≤ 40000) : SP g mX11_worthAt [.ref (ad g 0), .int a, .int b] I J R (fun r I' J' R' => (MP g n L I' ∧ R' = R ∧ fz 49 g [0, 35, 36, 37, 39, 40, 41] I I' ∧ fz 49 g [] J J' ∧ fs g [55, 56] I I') ∧ ∃ v : Int32, r = some (.int v)) := by
  refine SP_of ⟨by decide, rfl⟩ (Nat.le_of_ble_eq_true rfl) ?_
  have e6782 : I (ad g 0) 1 = L := hI.1.2
  have b6783 := BT_get hI.1.1 0 1 2 (0) (0) (900) (by decide) 1 (by decide) (by decide)
  rw [e6782] at b6783
  have fr0 : fz 49 g [0, 35, 36, 37, 39, 40, 41] I I := fz_rf
  have frj0 : fz 49 g [] J J := fz_rf
  have frq0 : fs g [55, 56] I I := fs_rf
  refine WP_iload_n dX11_worthAt_0 rfl ?_
  refine WQ_i2l dX11_worthAt_1 (fun l6784 hl6784 => ?_)
  refine WP_lconst (0) dX11_worthAt_2 rfl ?_
  obtain ⟨l6785, hl6785, el6785⟩ : ∃ v : Int64, v.toInt = 0 ∧ (0 : Int64) = v := ⟨_, rfl, rfl⟩
  rw [el6785]; clear el6785
  refine WP_ldc2 (18) dX11_worthAt_3 klX11_500 ?_
  obtain ⟨l6786, hl6786, el6786⟩ : ∃ v : Int64, v.toInt = (18) ∧ ((18) : Int64) = v := ⟨_, rfl, rfl⟩
  rw [el6786]; clear el6786
  refine WP_callS3 dX11_worthAt_6 ⟨⟨⟨by decide, by decide⟩, zX11_in⟩, lX11_52, tX11_in⟩ (sm_in hy hr hI l6784 l6785 l6786 ) (Nat.le_of_ble_eq_true rfl) ?_
  intro r Ia Ja Ra hq
  obtain ⟨⟨ea, eb, ec⟩, v6787, rfl, av6787, bv6787, cv6787⟩ := hq
  show WP _ _ _ _ (.int _ :: _) _ _ _ _
  rw [ea, eb, ec]
  clear ea eb ec Ia Ja Ra
  refine WQ_if_eq 33 dX11_worthAt_9 rfl (fun c6787 => ?_) (fun c6787 => ?_)
  · refine WQ_bipush (-2) (-2) dX11_worthAt_33 rfl rfl (fun v6789 hv6789 => ?_)
    exact WP_iret dX11_worthAt_35 rfl ⟨⟨hI, rfl, fr0, frj0, frq0⟩, _, rfl⟩
  · refine WP_iload_n dX11_worthAt_12 rfl ?_
    refine WQ_i2l dX11_worthAt_13 (fun l6790 hl6790 => ?_)
    refine WP_lconst (1) dX11_worthAt_14 rfl ?_
    obtain ⟨l6791, hl6791, el6791⟩ : ∃ v : Int64, v.toInt = 1 ∧ (1 : Int64) = v := ⟨_, rfl, rfl⟩
    rw [el6791]; clear el6791
    refine WP_ldc2 (4) dX11_worthAt_15 klX11_452 ?_
    obtain ⟨l6792, hl6792, el6792⟩ : ∃ v : Int64, v.toInt = (4) ∧ ((4) : Int64) = v := ⟨_, rfl, rfl⟩
    rw [el6792]; clear el6792
    refine WP_callS3 dX11_worthAt_18 ⟨⟨⟨by decide, by decide⟩, zX11_in⟩, lX11_52, tX11_in⟩ (sm_in hy hr hI l6790 l6791 l6792 ) (Nat.le_of_ble_eq_true rfl) ?_
    intro r Ia Ja Ra hq
    obtain ⟨⟨ea, eb, ec⟩, v6793, rfl, av6793, bv6793, cv6793⟩ := hq
    show WP _ _ _ _ (.int _ :: _) _ _ _ _
    rw [ea, eb, ec]
    clear ea eb ec Ia Ja Ra
    refine WQ_if_eq 33 dX11_worthAt_21 rfl (fun c6793 => ?_) (fun c6793 => ?_)
    · refine WQ_bipush (-2) (-2) dX11_worthAt_33 rfl rfl (fun v6795 hv6795 => ?_)
      exact WP_iret dX11_worthAt_35 rfl ⟨⟨hI, rfl, fr0, frj0, frq0⟩, _, rfl⟩
    · refine WP_aload_n dX11_worthAt_24 rfl ?_
      refine WP_iload_n dX11_worthAt_25 rfl ?_
      refine WP_iload_n dX11_worthAt_26 rfl ?_
      refine WP_callV2 (k := 11) dX11_worthAt_27 ⟨⟨⟨by decide, by decide⟩, zX11_worthOf⟩, lX11_502, by decide, rfl, vX11_worthOf.1, vX11_worthOf.2⟩ (ly_is hy 0 11 rfl) (sm_worthOf hy hr hI a b (by omega) (by omega) (by omega) (by omega) (by omega)) (Nat.le_of_ble_eq_true rfl) ?_
      intro r I6796 J6797 Ra hq
      obtain ⟨⟨hI6796, ec, fiI6796, fjI6796, fqI6796⟩, v6798, rfl⟩ := hq
      show WP _ _ _ _ (.int _ :: _) _ _ _ _
      rw [ec]
      clear ec Ra
      have fr6799 : fz 49 g [0, 35, 36, 37, 39, 40, 41] I I6796 := fz_tr fr0 (fz_mono fiI6796 (by decide))
      have fr6800 : fs g [55, 56] I I6796 := fs_tr frq0 (fs_mono fqI6796 (by decide))
      have fr6801 : fz 49 g [] J J6797 := fz_tr frj0 (fz_mono fjI6796 (by decide))
      have e6802 : I6796 (ad g 0) 1 = L := hI6796.1.2
      have b6803 := BT_get hI6796.1.1 0 1 2 (0) (0) (900) (by decide) 1 (by decide) (by decide)
      rw [e6802] at b6803
      refine WP_goto 35 dX11_worthAt_30 rfl ?_
      exact WP_iret dX11_worthAt_35 rfl ⟨⟨hI6796, rfl, fr6799, fr6801, fr6800⟩, _, rfl⟩
set_option maxHeartbeats 4000000 in
set_option maxRecDepth 100000 in
theorem sm_rate {g : GG} {n : Int} {L : Int32} (hy : Ly g)  {I : pI} {J : pJ} {R : pR} (hr : Rf g R) (hI : MP g n L I) (a : Int32)  (hn : 0 ≤ n ∧ n ≤ 40000) : SP g mX11_rate [.ref (ad g 0), .int a] I J R (fun r I' J' R' => (MP g n L I' ∧ R' = R ∧ fz 49 g [0, 35, 36, 37, 39, 40, 41] I I' ∧ fz 49 g [] J J' ∧ fs g [55, 56] I I') ∧ ∃ v : Int32, r = some (.int v)) := by
  refine SP_of ⟨by decide, rfl⟩ (Nat.le_of_ble_eq_true rfl) ?_
  have e6804 : I (ad g 0) 1 = L := hI.1.2
  have b6805 := BT_get hI.1.1 0 1 2 (0) (0) (900) (by decide) 1 (by decide) (by decide)
  rw [e6804] at b6805
  have fr0 : fz 49 g [0, 35, 36, 37, 39, 40, 41] I I := fz_rf
  have frj0 : fz 49 g [] J J := fz_rf
  have frq0 : fs g [55, 56] I I := fs_rf
  refine WP_iload_n dX11_rate_0 rfl ?_
  refine WQ_i2l dX11_rate_1 (fun l6806 hl6806 => ?_)
  refine WP_lconst (1) dX11_rate_2 rfl ?_
  obtain ⟨l6807, hl6807, el6807⟩ : ∃ v : Int64, v.toInt = 1 ∧ (1 : Int64) = v := ⟨_, rfl, rfl⟩
  rw [el6807]; clear el6807
  refine WP_ldc2 (4) dX11_rate_3 klX11_452 ?_
  obtain ⟨l6808, hl6808, el6808⟩ : ∃ v : Int64, v.toInt = (4) ∧ ((4) : Int64) = v := ⟨_, rfl, rfl⟩
  rw [el6808]; clear el6808
  refine WP_callS3 dX11_rate_6 ⟨⟨⟨by decide, by decide⟩, zX11_in⟩, lX11_52, tX11_in⟩ (sm_in hy hr hI l6806 l6807 l6808 ) (Nat.le_of_ble_eq_true rfl) ?_
  intro r Ia Ja Ra hq
  obtain ⟨⟨ea, eb, ec⟩, v6809, rfl, av6809, bv6809, cv6809⟩ := hq
  show WP _ _ _ _ (.int _ :: _) _ _ _ _
  rw [ea, eb, ec]
  clear ea eb ec Ia Ja Ra
  refine WQ_if_ne 15 dX11_rate_9 rfl (fun c6809 => ?_) (fun c6809 => ?_)
  · refine WQ_iconst (0) (0) dX11_rate_15 rfl rfl (fun v6811 hv6811 => ?_)
    refine WP_istore_n (ls' := [(0, _), (1, _), (2, _)]) dX11_rate_16 (by decide) rfl ?_
    refine WQ_iconst (-1) (-1) dX11_rate_17 rfl rfl (fun v6812 hv6812 => ?_)
    refine WP_istore_n (ls' := [(0, _), (1, _), (2, _), (3, _)]) dX11_rate_18 (by decide) rfl ?_
    refine WQ_iconst (0) (0) dX11_rate_19 rfl rfl (fun v6813 hv6813 => ?_)
    refine WP_istore (ls' := [(0, _), (1, _), (2, _), (3, _), (4, _)]) dX11_rate_20 (by decide) rfl ?_
    have lp22_6818 : ∀ (mz : Nat) (i6814 : Int32) (i6815 : Int32) (i6816 : Int32) (I6817 : pI) (J6818 : pJ), MP g n L I6817 → fz 49 g [0, 35, 36, 37, 39, 40, 41] I I6817 → fz 49 g [] J J6818 → fs g [55, 56] I I6817 → 0 ≤ i6816.toInt → i6816.toInt ≤ 19 → (20 - i6816.toInt).toNat < mz → WP g mX11_rate 22 [(0, .ref (ad g 0)), (1, .int a), (2, .int i6814), (3, .int i6815), (4, .int i6816)] [] I6817 J6818 R (fun r I' J' R' => (MP g n L I' ∧ R' = R ∧ fz 49 g [0, 35, 36, 37, 39, 40, 41] I I' ∧ fz 49 g [] J J' ∧ fs g [55, 56] I I') ∧ ∃ v : Int32, r = some (.int v)) := by
      intro mz
      induction mz with
      | zero =>
        intro i6814 i6815 i6816 I6817 J6818 hI6817 fiI6817 fjJ6818 fqI6817 ai6816 bi6816 hmlp22_6818
        exact absurd hmlp22_6818 (Nat.not_lt_zero _)
      | succ mz ihlp22_6818 =>
        intro i6814 i6815 i6816 I6817 J6818 hI6817 fiI6817 fjJ6818 fqI6817 ai6816 bi6816 hmlp22_6818
        have e6820 : I6817 (ad g 0) 1 = L := hI6817.1.2
        have b6821 := BT_get hI6817.1.1 0 1 2 (0) (0) (900) (by decide) 1 (by decide) (by decide)
        rw [e6820] at b6821
        refine WP_iload dX11_rate_22 rfl ?_
        refine WQ_bipush (19) (19) dX11_rate_24 rfl rfl (fun v6822 hv6822 => ?_)
        refine WQ_icmp_ge 59 dX11_rate_26 rfl (fun c6822 => ?_) (fun c6822 => ?_)
        · refine WP_iload_n dX11_rate_59 rfl ?_
          exact WP_iret dX11_rate_60 rfl ⟨⟨hI6817, rfl, fiI6817, fjJ6818, fqI6817⟩, _, rfl⟩
        · refine WP_aload_n dX11_rate_29 rfl ?_
          refine WP_iload dX11_rate_30 rfl ?_
          refine WP_iload_n dX11_rate_32 rfl ?_
          refine WP_callV2 (k := 11) dX11_rate_33 ⟨⟨⟨by decide, by decide⟩, zX11_worthOf⟩, lX11_502, by decide, rfl, vX11_worthOf.1, vX11_worthOf.2⟩ (ly_is hy 0 11 rfl) (sm_worthOf hy hr hI6817 i6816 a (by omega) (by omega) (by omega) (by omega) (by omega)) (Nat.le_of_ble_eq_true rfl) ?_
          intro r I6824 J6825 Ra hq
          obtain ⟨⟨hI6824, ec, fiI6824, fjI6824, fqI6824⟩, v6826, rfl⟩ := hq
          show WP _ _ _ _ (.int _ :: _) _ _ _ _
          rw [ec]
          clear ec Ra
          have fr6827 : fz 49 g [0, 35, 36, 37, 39, 40, 41] I I6824 := fz_tr fiI6817 (fz_mono fiI6824 (by decide))
          have fr6828 : fs g [55, 56] I I6824 := fs_tr fqI6817 (fs_mono fqI6824 (by decide))
          have fr6829 : fz 49 g [] J J6825 := fz_tr fjJ6818 (fz_mono fjI6824 (by decide))
          have e6830 : I6824 (ad g 0) 1 = L := hI6824.1.2
          have b6831 := BT_get hI6824.1.1 0 1 2 (0) (0) (900) (by decide) 1 (by decide) (by decide)
          rw [e6830] at b6831
          refine WP_istore (ls' := [(0, _), (1, _), (2, _), (3, _), (4, _), (5, _)]) dX11_rate_36 (by decide) rfl ?_
          refine WP_iload dX11_rate_38 rfl ?_
          refine WP_iload_n dX11_rate_40 rfl ?_
          refine WQ_icmp_gt 47 dX11_rate_41 rfl (fun c6831 => ?_) (fun c6831 => ?_)
          · refine WP_iload dX11_rate_47 rfl ?_
            refine WP_istore_n (ls' := [(0, _), (1, _), (2, _), (3, _), (4, _), (5, _)]) dX11_rate_49 (by decide) rfl ?_
            refine WP_iload dX11_rate_50 rfl ?_
            refine WP_istore_n (ls' := [(0, _), (1, _), (2, _), (3, _), (4, _), (5, _)]) dX11_rate_52 (by decide) rfl ?_
            refine WP_iinc (ls' := [(0, _), (1, _), (2, _), (3, _), (4, _), (5, _)]) dX11_rate_53 rfl (by decide) rfl ?_
            have hv6833 : (i6816 + Int32.ofInt (1)).toInt = i6816.toInt + (1) := ia_n rfl (by omega) (by omega)
            generalize i6816 + Int32.ofInt (1) = v6833 at hv6833 ⊢
            refine WP_goto 22 dX11_rate_56 rfl ?_
            exact WP_sub (fc rfl (fc rfl (fc rfl (fc rfl (fc rfl fn))))) (ihlp22_6818 i6816 v6826 v6833 I6824 J6825 hI6824 fr6827 fr6829 fr6828 (by omega) (by omega) (by omega))
          · refine WP_goto 53 dX11_rate_44 rfl ?_
            refine WP_iinc (ls' := [(0, _), (1, _), (2, _), (3, _), (4, _), (5, _)]) dX11_rate_53 rfl (by decide) rfl ?_
            have hv6834 : (i6816 + Int32.ofInt (1)).toInt = i6816.toInt + (1) := ia_n rfl (by omega) (by omega)
            generalize i6816 + Int32.ofInt (1) = v6834 at hv6834 ⊢
            refine WP_goto 22 dX11_rate_56 rfl ?_
            exact WP_sub (fc rfl (fc rfl (fc rfl (fc rfl (fc rfl fn))))) (ihlp22_6818 i6814 i6815 v6834 I6824 J6825 hI6824 fr6827 fr6829 fr6828 (by omega) (by omega) (by omega))
    exact WP_sub (fc rfl (fc rfl (fc rfl (fc rfl (fc rfl fn))))) (lp22_6818 _ v6811 v6812 v6813 I J hI fr0 frj0 frq0 (by omega) (by omega) (Nat.lt_succ_self _))
  · refine WQ_bipush (-2) (-2) dX11_rate_12 rfl rfl (fun v6835 hv6835 => ?_)
    exact WP_iret dX11_rate_14 rfl ⟨⟨hI, rfl, fr0, frj0, frq0⟩, _, rfl⟩
set_option maxHeartbeats 4000000 in
set_option maxRecDepth 100000 in
theorem sm_turn {g : GG} {n : Int} {L : Int32} (hy : Ly g)  {I : pI} {J : pJ} {R : pR} (hr : Rf g R) (hI : MP g n L I)   (hn : 0 ≤ n ∧ n ≤ 40000) : SP g mX11_turn [.ref (ad g 0)] I J R (fun r I' J' R' => (MP g n L I' ∧ R' = R ∧ fz 49 g [0, 22, 35, 36, 37, 39, 40, 41] I I' ∧ fz 49 g [] J J' ∧ fs g [56, 64] I I' ∧ True ∧ I' (ad g 0) 68 = I (ad g 0) 68) ∧ ∃ v : Int32, r = some (.int v) ∧ 0 ≤ v.toInt ∧ v.toInt ≤ 1) := by
  refine SP_of ⟨by decide, rfl⟩ (Nat.le_of_ble_eq_true rfl) ?_
  have e6836 : I (ad g 0) 1 = L := hI.1.2
  have b6837 := BT_get hI.1.1 0 1 2 (0) (0) (900) (by decide) 1 (by decide) (by decide)
  rw [e6836] at b6837
  have fr0 : fz 49 g [0, 22, 35, 36, 37, 39, 40, 41] I I := fz_rf
  have frj0 : fz 49 g [] J J := fz_rf
  have frq0 : fs g [56, 64] I I := fs_rf
  obtain ⟨w6838, ew6838⟩ : ∃ w : Int32, I (ad g 0) 68 = w := ⟨_, rfl⟩
  refine WP_aload_n dX11_turn_0 rfl ?_
  refine WQ_iconst (1) (1) dX11_turn_1 rfl rfl (fun v6839 hv6839 => ?_)
  refine WQ_putz dX11_turn_2 fX11_470 rfl rfl (by omega) (ly_is hy 0 11 rfl) (fun I6840 eI6840 => ?_)
  have hI6840 : MP g n L I6840 := by rw [eI6840]; exact (mp_w hy hI (c := 0) (mi_f hy hI.1 (c := 0) (0) (0) (1) (by decide) (Or.inr (by decide)) (by decide) (by omega) (by omega)) (by decide) (by decide) (Or.inr (by decide)))
  have e6841 : I6840 (ad g 0) 1 = L := by rw [eI6840, pp_ne _ _ (Or.inr (by decide))]; exact e6836
  have e6842 : I6840 (ad g 0) 68 = w6838 := by rw [eI6840, pp_ne _ _ (Or.inr (by decide))]; exact ew6838
  have e6843 : I6840 (ad g 0) 64 = v6839 := by rw [eI6840, pp_self]
  have fr6844 : fs g [56, 64] I I6840 := by rw [eI6840]; exact fs_pp0 frq0 (by decide)
  have fr6845 : fz 49 g [0, 22, 35, 36, 37, 39, 40, 41] I I6840 := by rw [eI6840]; exact fzm_pp hy fr0 (by decide) (by decide)
  clear eI6840
  refine WP_aload_n dX11_turn_5 rfl ?_
  refine WQ_bipush (7) (7) dX11_turn_6 rfl rfl (fun v6846 hv6846 => ?_)
  refine WP_callV1 (k := 11) dX11_turn_8 ⟨⟨⟨by decide, by decide⟩, zX11_runTrial⟩, lX11_497, by decide, rfl, vX11_runTrial.1, vX11_runTrial.2⟩ (ly_is hy 0 11 rfl) (sm_runTrial hy hr hI6840 v6846 (by omega) (by omega) (by omega)) (Nat.le_of_ble_eq_true rfl) ?_
  intro r I6847 J6848 Ra hq
  obtain ⟨⟨hI6847, ec, fiI6847, fjI6847, fqI6847, ⟨pI6847, sI6847_0_10, sI6847_0_14, sI6847_0_68⟩⟩, rfl⟩ := hq
  rw [ec]
  clear ec Ra
  have fr6849 : fz 49 g [0, 22, 35, 36, 37, 39, 40, 41] I I6847 := fz_tr fr6845 (fz_mono fiI6847 (by decide))
  have fr6850 : fs g [56, 64] I I6847 := fs_tr fr6844 (fs_mono fqI6847 (by decide))
  have fr6851 : fz 49 g [] J J6848 := fz_tr frj0 (fz_mono fjI6847 (by decide))
  have e6852 : I6847 (ad g 0) 68 = w6838 := by rw [sI6847_0_68]; exact e6842
  have e6853 : I6847 (ad g 0) 1 = L := hI6847.1.2
  have b6854 := BT_get hI6847.1.1 0 1 2 (0) (0) (900) (by decide) 1 (by decide) (by decide)
  rw [e6853] at b6854
  refine WP_aload_n dX11_turn_11 rfl ?_
  refine WQ_iconst (0) (0) dX11_turn_12 rfl rfl (fun v6855 hv6855 => ?_)
  refine WQ_putz dX11_turn_13 fX11_470 rfl rfl (by omega) (ly_is hy 0 11 rfl) (fun I6856 eI6856 => ?_)
  have hI6856 : MP g n L I6856 := by rw [eI6856]; exact (mp_w hy hI6847 (c := 0) (mi_f hy hI6847.1 (c := 0) (0) (0) (1) (by decide) (Or.inr (by decide)) (by decide) (by omega) (by omega)) (by decide) (by decide) (Or.inr (by decide)))
  have e6857 : I6856 (ad g 0) 68 = w6838 := by rw [eI6856, pp_ne _ _ (Or.inr (by decide))]; exact e6852
  have e6858 : I6856 (ad g 0) 1 = L := by rw [eI6856, pp_ne _ _ (Or.inr (by decide))]; exact e6853
  have e6859 : I6856 (ad g 0) 64 = v6855 := by rw [eI6856, pp_self]
  have fr6860 : fs g [56, 64] I I6856 := by rw [eI6856]; exact fs_pp0 fr6850 (by decide)
  have fr6861 : fz 49 g [0, 22, 35, 36, 37, 39, 40, 41] I I6856 := by rw [eI6856]; exact fzm_pp hy fr6849 (by decide) (by decide)
  clear eI6856
  refine WQ_iconst (0) (0) dX11_turn_16 rfl rfl (fun v6862 hv6862 => ?_)
  refine WP_istore_n (ls' := [(0, _), (1, _)]) dX11_turn_17 (by decide) rfl ?_
  refine WQ_iconst (0) (0) dX11_turn_18 rfl rfl (fun v6863 hv6863 => ?_)
  refine WP_istore_n (ls' := [(0, _), (1, _), (2, _)]) dX11_turn_19 (by decide) rfl ?_
  have lp20_6868 : ∀ (mz : Nat) (i6864 : Int32) (i6865 : Int32) (I6866 : pI) (J6867 : pJ), MP g n L I6866 → fz 49 g [0, 22, 35, 36, 37, 39, 40, 41] I I6866 → fz 49 g [] J J6867 → fs g [56, 64] I I6866 → ∀ (w6868 : Int32), I6866 (ad g 0) 68 = w6868 → 0 ≤ i6864.toInt → i6864.toInt ≤ 1 → 0 ≤ i6865.toInt → i6865.toInt ≤ 21 → w6868.toInt = w6838.toInt → (22 - i6865.toInt).toNat < mz → WP g mX11_turn 20 [(0, .ref (ad g 0)), (1, .int i6864), (2, .int i6865)] [] I6866 J6867 R (fun r I' J' R' => (MP g n L I' ∧ R' = R ∧ fz 49 g [0, 22, 35, 36, 37, 39, 40, 41] I I' ∧ fz 49 g [] J J' ∧ fs g [56, 64] I I' ∧ True ∧ I' (ad g 0) 68 = I (ad g 0) 68) ∧ ∃ v : Int32, r = some (.int v) ∧ 0 ≤ v.toInt ∧ v.toInt ≤ 1) := by
    intro mz
    induction mz with
    | zero =>
      intro i6864 i6865 I6866 J6867 hI6866 fiI6866 fjJ6867 fqI6866 w6868 ew6868 ai6864 bi6864 ai6865 bi6865 j0_I6866 hmlp20_6868
      exact absurd hmlp20_6868 (Nat.not_lt_zero _)
    | succ mz ihlp20_6868 =>
      intro i6864 i6865 I6866 J6867 hI6866 fiI6866 fjJ6867 fqI6866 w6868 ew6868 ai6864 bi6864 ai6865 bi6865 j0_I6866 hmlp20_6868
      have e6870 : I6866 (ad g 0) 1 = L := hI6866.1.2
      have b6871 := BT_get hI6866.1.1 0 1 2 (0) (0) (900) (by decide) 1 (by decide) (by decide)
      rw [e6870] at b6871
      refine WP_iload_n dX11_turn_20 rfl ?_
      refine WQ_bipush (7) (7) dX11_turn_21 rfl rfl (fun v6872 hv6872 => ?_)
      refine WP_aload_n dX11_turn_23 rfl ?_
      refine WQ_geti dX11_turn_24 fX11_332 rfl (ly_is hy 0 11 rfl) (BT_get hI6866.1.1 0 11 12 (0) (0) (3) (by decide) 11 (by decide) (by decide)) (fun v6873 ev6873 av6873 bv6873 => ?_)
      refine WQ_imulK (7) dX11_turn_27 hv6872 (by omega) (by omega) (fun v6874 hv6874 => ?_)
      refine WQ_icmp_ge 145 dX11_turn_28 rfl (fun c6874 => ?_) (fun c6874 => ?_)
      · refine WP_aload_n dX11_turn_145 rfl ?_
        refine WP_callV0 (k := 11) dX11_turn_146 ⟨⟨⟨by decide, by decide⟩, zX11_forgetWeeks⟩, lX11_350, by decide, rfl, vX11_forgetWeeks.1, vX11_forgetWeeks.2⟩ (ly_is hy 0 11 rfl) (sm_forgetWeeksx hy hr hI6866  ) (Nat.le_of_ble_eq_true rfl) ?_
        intro r I6876 J6877 Ra hq
        obtain ⟨⟨hI6876, ec, fiI6876, fjI6876, fqI6876⟩, rfl⟩ := hq
        rw [ec]
        clear ec Ra
        have fr6878 : fz 49 g [0, 22, 35, 36, 37, 39, 40, 41] I I6876 := fz_tr fiI6866 (fz_mono fiI6876 (by decide))
        have fr6879 : fs g [56, 64] I I6876 := fs_tr fqI6866 (fs_mono fqI6876 (by decide))
        have fr6880 : fz 49 g [] J J6877 := fz_tr fjJ6867 (fz_mono fjI6876 (by decide))
        have e6881 : I6876 (ad g 0) 68 = w6868 := by rw [fz_at fiI6876 0 (by decide) (by decide)]; exact ew6868
        have e6882 : I6876 (ad g 0) 11 = v6873 := by rw [fz_at fiI6876 0 (by decide) (by decide)]; exact ev6873
        have e6883 : I6876 (ad g 0) 1 = L := hI6876.1.2
        have b6884 := BT_get hI6876.1.1 0 1 2 (0) (0) (900) (by decide) 1 (by decide) (by decide)
        rw [e6883] at b6884
        refine WP_iload_n dX11_turn_149 rfl ?_
        exact WP_zret dX11_turn_150 rfl (nar_z (by omega)) ⟨⟨hI6876, rfl, fr6878, fr6880, fr6879, ⟨trivial, (by rw [e6881, ew6838] <;> exact (eq32 _ _).mpr (by omega))⟩⟩, _, rfl, by omega, by omega⟩
      · refine WP_aload_n dX11_turn_31 rfl ?_
        refine WP_getr dX11_turn_32 fX11_259 rfl (ly_is hy 0 11 rfl) (rf hr 0 41 23 (by decide)) ?_
        refine WP_iload_n dX11_turn_35 rfl ?_
        refine WQ_iald dX11_turn_36 (ly_is hy 23 13 rfl) (ly_n hy 23 21 rfl) (by omega) (by omega) (fun q hq => BT_get hI6866.1.1 23 0 21 (-1) (0) (999) (by decide) q (Nat.zero_le _) hq) (fun v6885 av6885 bv6885 ev6885 => ?_)
        clear ev6885
        refine WQ_iconst (-1) (-1) dX11_turn_37 rfl rfl (fun v6886 hv6886 => ?_)
        refine WQ_icmp_ne 44 dX11_turn_38 rfl (fun c6886 => ?_) (fun c6886 => ?_)
        · refine WP_aload_n dX11_turn_44 rfl ?_
          refine WP_getr dX11_turn_45 fX11_292 rfl (ly_is hy 0 11 rfl) (rf hr 0 63 41 (by decide)) ?_
          refine WP_iload_n dX11_turn_48 rfl ?_
          refine WQ_ialdu dX11_turn_49 (ly_is hy 41 13 rfl) (ly_n hy 41 21 rfl) (by omega) (by omega) (fun v6888 => ?_)
          refine WP_aload_n dX11_turn_50 rfl ?_
          refine WP_getr dX11_turn_51 fX11_259 rfl (ly_is hy 0 11 rfl) (rf hr 0 41 23 (by decide)) ?_
          refine WP_iload_n dX11_turn_54 rfl ?_
          refine WQ_iald dX11_turn_55 (ly_is hy 23 13 rfl) (ly_n hy 23 21 rfl) (by omega) (by omega) (fun q hq => BT_get hI6866.1.1 23 0 21 (-1) (0) (999) (by decide) q (Nat.zero_le _) hq) (fun v6889 av6889 bv6889 ev6889 => ?_)
          clear ev6889
          have jn111_6904 : ∀ (v6904 : Int32), 0 ≤ v6904.toInt → v6904.toInt ≤ 20 → WP g mX11_turn 111 [(0, .ref (ad g 0)), (1, .int i6864), (2, .int i6865)] [.int v6904] I6866 J6867 R (fun r I' J' R' => (MP g n L I' ∧ R' = R ∧ fz 49 g [0, 22, 35, 36, 37, 39, 40, 41] I I' ∧ fz 49 g [] J J' ∧ fs g [56, 64] I I' ∧ True ∧ I' (ad g 0) 68 = I (ad g 0) 68) ∧ ∃ v : Int32, r = some (.int v) ∧ 0 ≤ v.toInt ∧ v.toInt ≤ 1) := by
            intro v6904 av6904 bv6904
            refine WP_istore_n (ls' := [(0, _), (1, _), (2, _), (3, _)]) dX11_turn_111 (by decide) rfl ?_
            refine WP_iload_n dX11_turn_112 rfl ?_
            have jn131_6911 : ∀ (v6911 : Int32), 0 ≤ v6911.toInt → v6911.toInt ≤ 1 → WP g mX11_turn 131 [(0, .ref (ad g 0)), (1, .int i6864), (2, .int i6865), (3, .int v6904)] [.int v6911] I6866 J6867 R (fun r I' J' R' => (MP g n L I' ∧ R' = R ∧ fz 49 g [0, 22, 35, 36, 37, 39, 40, 41] I I' ∧ fz 49 g [] J J' ∧ fs g [56, 64] I I' ∧ True ∧ I' (ad g 0) 68 = I (ad g 0) 68) ∧ ∃ v : Int32, r = some (.int v) ∧ 0 ≤ v.toInt ∧ v.toInt ≤ 1) := by
              intro v6911 av6911 bv6911
              refine WP_istore_n (ls' := [(0, _), (1, _), (2, _), (3, _)]) dX11_turn_131 (by decide) rfl ?_
              refine WP_aload_n dX11_turn_132 rfl ?_
              refine WP_getr dX11_turn_133 fX11_257 rfl (ly_is hy 0 11 rfl) (rf hr 0 40 22 (by decide)) ?_
              refine WP_iload_n dX11_turn_136 rfl ?_
              refine WP_iload_n dX11_turn_137 rfl ?_
              refine WQ_iast dX11_turn_138 (ly_is hy 22 13 rfl) (ly_n hy 22 21 rfl) (by omega) (by omega) (fun I6913 eI6913 => ?_)
              have hI6913 : MP g n L I6913 := by rw [eI6913]; exact (mp_w hy hI6866 (c := 22) (mi_r hy hI6866.1 (c := 22) (0) (0) (20) (by decide) (Or.inl (by decide)) (by decide) (by omega) (by omega)) (by decide) (by decide) (Or.inl (by decide)))
              have e6914 : I6913 (ad g 0) 68 = w6868 := by rw [eI6913, pp_ne _ _ (Or.inl (ly_ne hy (by decide) (by decide) (by decide)))]; exact ew6868
              have e6915 : I6913 (ad g 0) 1 = L := by rw [eI6913, pp_ne _ _ (Or.inl (ly_ne hy (by decide) (by decide) (by decide)))]; exact e6870
              have e6916 : I6913 (ad g 0) 11 = v6873 := by rw [eI6913, pp_ne _ _ (Or.inl (ly_ne hy (by decide) (by decide) (by decide)))]; exact ev6873
              have fr6917 : fs g [56, 64] I I6913 := by rw [eI6913]; exact fs_ppn hy fqI6866 (by decide) (by decide)
              have fr6918 : fz 49 g [0, 22, 35, 36, 37, 39, 40, 41] I I6913 := by rw [eI6913]; exact fzm_pp hy fiI6866 (by decide) (by decide)
              clear eI6913
              refine WP_iinc (ls' := [(0, _), (1, _), (2, _), (3, _)]) dX11_turn_139 rfl (by decide) rfl ?_
              have hv6919 : (i6865 + Int32.ofInt (1)).toInt = i6865.toInt + (1) := ia_n rfl (by omega) (by omega)
              generalize i6865 + Int32.ofInt (1) = v6919 at hv6919 ⊢
              refine WP_goto 20 dX11_turn_142 rfl ?_
              exact WP_sub (fc rfl (fc rfl (fc rfl fn))) (ihlp20_6868 v6911 v6919 I6913 J6867 hI6913 fr6918 fjJ6867 fr6917 w6868 e6914 (by omega) (by omega) (by omega) (by omega) (by omega) (by omega))
            refine WQ_if_ne 126 dX11_turn_113 rfl (fun c6919 => ?_) (fun c6919 => ?_)
            · refine WQ_iconst (1) (1) dX11_turn_126 rfl rfl (fun v6921 hv6921 => ?_)
              refine WP_goto 131 dX11_turn_127 rfl ?_
              exact WP_sub (fc rfl (fc rfl (fc rfl (fc rfl fn)))) (jn131_6911 v6921 (by omega) (by omega))
            · refine WP_iload_n dX11_turn_116 rfl ?_
              refine WP_aload_n dX11_turn_117 rfl ?_
              refine WP_getr dX11_turn_118 fX11_257 rfl (ly_is hy 0 11 rfl) (rf hr 0 40 22 (by decide)) ?_
              refine WP_iload_n dX11_turn_121 rfl ?_
              refine WQ_iald dX11_turn_122 (ly_is hy 22 13 rfl) (ly_n hy 22 21 rfl) (by omega) (by omega) (fun q hq => BT_get hI6866.1.1 22 0 21 (0) (0) (20) (by decide) q (Nat.zero_le _) hq) (fun v6922 av6922 bv6922 ev6922 => ?_)
              clear ev6922
              refine WQ_icmp_eq 130 dX11_turn_123 rfl (fun c6922 => ?_) (fun c6922 => ?_)
              · refine WQ_iconst (0) (0) dX11_turn_130 rfl rfl (fun v6924 hv6924 => ?_)
                exact WP_sub (fc rfl (fc rfl (fc rfl (fc rfl fn)))) (jn131_6911 v6924 (by omega) (by omega))
              · refine WQ_iconst (1) (1) dX11_turn_126 rfl rfl (fun v6925 hv6925 => ?_)
                refine WP_goto 131 dX11_turn_127 rfl ?_
                exact WP_sub (fc rfl (fc rfl (fc rfl (fc rfl fn)))) (jn131_6911 v6925 (by omega) (by omega))
          refine WQ_icmp_le 75 dX11_turn_56 rfl (fun c6925 => ?_) (fun c6925 => ?_)
          · refine WP_aload_n dX11_turn_75 rfl ?_
            refine WP_getr dX11_turn_76 fX11_292 rfl (ly_is hy 0 11 rfl) (rf hr 0 63 41 (by decide)) ?_
            refine WP_iload_n dX11_turn_79 rfl ?_
            refine WQ_ialdu dX11_turn_80 (ly_is hy 41 13 rfl) (ly_n hy 41 21 rfl) (by omega) (by omega) (fun v6927 => ?_)
            refine WP_aload_n dX11_turn_81 rfl ?_
            refine WP_getr dX11_turn_82 fX11_259 rfl (ly_is hy 0 11 rfl) (rf hr 0 41 23 (by decide)) ?_
            refine WP_iload_n dX11_turn_85 rfl ?_
            refine WQ_iald dX11_turn_86 (ly_is hy 23 13 rfl) (ly_n hy 23 21 rfl) (by omega) (by omega) (fun q hq => BT_get hI6866.1.1 23 0 21 (-1) (0) (999) (by decide) q (Nat.zero_le _) hq) (fun v6928 av6928 bv6928 ev6928 => ?_)
            clear ev6928
            refine WQ_icmp_ge 105 dX11_turn_87 rfl (fun c6928 => ?_) (fun c6928 => ?_)
            · refine WP_aload_n dX11_turn_105 rfl ?_
              refine WP_getr dX11_turn_106 fX11_257 rfl (ly_is hy 0 11 rfl) (rf hr 0 40 22 (by decide)) ?_
              refine WP_iload_n dX11_turn_109 rfl ?_
              refine WQ_iald dX11_turn_110 (ly_is hy 22 13 rfl) (ly_n hy 22 21 rfl) (by omega) (by omega) (fun q hq => BT_get hI6866.1.1 22 0 21 (0) (0) (20) (by decide) q (Nat.zero_le _) hq) (fun v6930 av6930 bv6930 ev6930 => ?_)
              clear ev6930
              exact WP_sub (fc rfl (fc rfl (fc rfl fn))) (jn111_6904 v6930 (by omega) (by omega))
            · refine WQ_iconst (1) (1) dX11_turn_90 rfl rfl (fun v6931 hv6931 => ?_)
              refine WP_aload_n dX11_turn_91 rfl ?_
              refine WP_getr dX11_turn_92 fX11_257 rfl (ly_is hy 0 11 rfl) (rf hr 0 40 22 (by decide)) ?_
              refine WP_iload_n dX11_turn_95 rfl ?_
              refine WQ_iald dX11_turn_96 (ly_is hy 22 13 rfl) (ly_n hy 22 21 rfl) (by omega) (by omega) (fun q hq => BT_get hI6866.1.1 22 0 21 (0) (0) (20) (by decide) q (Nat.zero_le _) hq) (fun v6932 av6932 bv6932 ev6932 => ?_)
              clear ev6932
              refine WQ_iconst (1) (1) dX11_turn_97 rfl rfl (fun v6933 hv6933 => ?_)
              refine WQ_isub dX11_turn_98 (by omega) (by omega) (fun v6934 hv6934 => ?_)
              refine WQ_max dX11_turn_99 lX11_387 ⟨by decide, Nat.le_of_ble_eq_true rfl⟩ (fun v6935 av6935 bv6935 cv6935 => ?_)
              refine WP_goto 111 dX11_turn_102 rfl ?_
              exact WP_sub (fc rfl (fc rfl (fc rfl fn))) (jn111_6904 v6935 (by omega) (by omega))
          · refine WQ_bipush (20) (20) dX11_turn_59 rfl rfl (fun v6936 hv6936 => ?_)
            refine WP_aload_n dX11_turn_61 rfl ?_
            refine WP_getr dX11_turn_62 fX11_257 rfl (ly_is hy 0 11 rfl) (rf hr 0 40 22 (by decide)) ?_
            refine WP_iload_n dX11_turn_65 rfl ?_
            refine WQ_iald dX11_turn_66 (ly_is hy 22 13 rfl) (ly_n hy 22 21 rfl) (by omega) (by omega) (fun q hq => BT_get hI6866.1.1 22 0 21 (0) (0) (20) (by decide) q (Nat.zero_le _) hq) (fun v6937 av6937 bv6937 ev6937 => ?_)
            clear ev6937
            refine WQ_iconst (1) (1) dX11_turn_67 rfl rfl (fun v6938 hv6938 => ?_)
            refine WQ_iadd dX11_turn_68 (by omega) (by omega) (fun v6939 hv6939 => ?_)
            refine WQ_min dX11_turn_69 lX11_417 ⟨by decide, Nat.le_of_ble_eq_true rfl⟩ (fun v6940 av6940 bv6940 cv6940 => ?_)
            refine WP_goto 111 dX11_turn_72 rfl ?_
            exact WP_sub (fc rfl (fc rfl (fc rfl fn))) (jn111_6904 v6940 (by omega) (by omega))
        · refine WP_goto 139 dX11_turn_41 rfl ?_
          refine WP_iinc (ls' := [(0, _), (1, _), (2, _)]) dX11_turn_139 rfl (by decide) rfl ?_
          have hv6941 : (i6865 + Int32.ofInt (1)).toInt = i6865.toInt + (1) := ia_n rfl (by omega) (by omega)
          generalize i6865 + Int32.ofInt (1) = v6941 at hv6941 ⊢
          refine WP_goto 20 dX11_turn_142 rfl ?_
          exact WP_sub (fc rfl (fc rfl (fc rfl fn))) (ihlp20_6868 i6864 v6941 I6866 J6867 hI6866 fiI6866 fjJ6867 fqI6866 w6868 ew6868 (by omega) (by omega) (by omega) (by omega) (by omega) (by omega))
  exact WP_sub (fc rfl (fc rfl (fc rfl fn))) (lp20_6868 _ v6862 v6863 I6856 J6848 hI6856 fr6861 fr6851 fr6860 w6838 e6857 (by omega) (by omega) (by omega) (by omega) (by omega) (Nat.lt_succ_self _))
set_option maxHeartbeats 4000000 in
set_option maxRecDepth 100000 in
theorem sm_rest {g : GG} {n : Int} {L : Int32} (hy : Ly g)  {I : pI} {J : pJ} {R : pR} (hr : Rf g R) (hI : MP g n L I) (a : Int32)  (hn : 0 ≤ n ∧ n ≤ 40000) : SP g mX11_rest [.ref (ad g 0), .int a] I J R (fun r I' J' R' => (MP g n L I' ∧ R' = R ∧ fz 49 g [0, 22, 35, 36, 37, 39, 40, 41] I I' ∧ fz 49 g [] J J' ∧ fs g [56, 64, 68] I I') ∧ ∃ v : Int32, r = some (.int v)) := by
  refine SP_of ⟨by decide, rfl⟩ (Nat.le_of_ble_eq_true rfl) ?_
  have e6942 : I (ad g 0) 1 = L := hI.1.2
  have b6943 := BT_get hI.1.1 0 1 2 (0) (0) (900) (by decide) 1 (by decide) (by decide)
  rw [e6942] at b6943
  have fr0 : fz 49 g [0, 22, 35, 36, 37, 39, 40, 41] I I := fz_rf
  have frj0 : fz 49 g [] J J := fz_rf
  have frq0 : fs g [56, 64, 68] I I := fs_rf
  refine WP_iload_n dX11_rest_0 rfl ?_
  refine WQ_i2l dX11_rest_1 (fun l6944 hl6944 => ?_)
  refine WP_lconst (0) dX11_rest_2 rfl ?_
  obtain ⟨l6945, hl6945, el6945⟩ : ∃ v : Int64, v.toInt = 0 ∧ (0 : Int64) = v := ⟨_, rfl, rfl⟩
  rw [el6945]; clear el6945
  refine WP_lconst (1) dX11_rest_3 rfl ?_
  obtain ⟨l6946, hl6946, el6946⟩ : ∃ v : Int64, v.toInt = 1 ∧ (1 : Int64) = v := ⟨_, rfl, rfl⟩
  rw [el6946]; clear el6946
  refine WP_callS3 dX11_rest_4 ⟨⟨⟨by decide, by decide⟩, zX11_in⟩, lX11_52, tX11_in⟩ (sm_in hy hr hI l6944 l6945 l6946 ) (Nat.le_of_ble_eq_true rfl) ?_
  intro r Ia Ja Ra hq
  obtain ⟨⟨ea, eb, ec⟩, v6947, rfl, av6947, bv6947, cv6947⟩ := hq
  show WP _ _ _ _ (.int _ :: _) _ _ _ _
  rw [ea, eb, ec]
  clear ea eb ec Ia Ja Ra
  refine WQ_if_ne 13 dX11_rest_7 rfl (fun c6947 => ?_) (fun c6947 => ?_)
  · refine WQ_iconst (0) (0) dX11_rest_13 rfl rfl (fun v6949 hv6949 => ?_)
    refine WP_istore_n (ls' := [(0, _), (1, _), (2, _)]) dX11_rest_14 (by decide) rfl ?_
    have lp15_6952 : ∀ (mz : Nat) (i6950 : Int32) (I6951 : pI) (J6952 : pJ), MP g n L I6951 → fz 49 g [0, 22, 35, 36, 37, 39, 40, 41] I I6951 → fz 49 g [] J J6952 → fs g [56, 64, 68] I I6951 → 0 ≤ i6950.toInt → i6950.toInt ≤ 21 → (22 - i6950.toInt).toNat < mz → WP g mX11_rest 15 [(0, .ref (ad g 0)), (1, .int a), (2, .int i6950)] [] I6951 J6952 R (fun r I' J' R' => (MP g n L I' ∧ R' = R ∧ fz 49 g [0, 22, 35, 36, 37, 39, 40, 41] I I' ∧ fz 49 g [] J J' ∧ fs g [56, 64, 68] I I') ∧ ∃ v : Int32, r = some (.int v)) := by
      intro mz
      induction mz with
      | zero =>
        intro i6950 I6951 J6952 hI6951 fiI6951 fjJ6952 fqI6951 ai6950 bi6950 hmlp15_6952
        exact absurd hmlp15_6952 (Nat.not_lt_zero _)
      | succ mz ihlp15_6952 =>
        intro i6950 I6951 J6952 hI6951 fiI6951 fjJ6952 fqI6951 ai6950 bi6950 hmlp15_6952
        have e6954 : I6951 (ad g 0) 1 = L := hI6951.1.2
        have b6955 := BT_get hI6951.1.1 0 1 2 (0) (0) (900) (by decide) 1 (by decide) (by decide)
        rw [e6954] at b6955
        refine WP_iload_n dX11_rest_15 rfl ?_
        refine WQ_bipush (7) (7) dX11_rest_16 rfl rfl (fun v6956 hv6956 => ?_)
        refine WP_aload_n dX11_rest_18 rfl ?_
        refine WQ_geti dX11_rest_19 fX11_332 rfl (ly_is hy 0 11 rfl) (BT_get hI6951.1.1 0 11 12 (0) (0) (3) (by decide) 11 (by decide) (by decide)) (fun v6957 ev6957 av6957 bv6957 => ?_)
        refine WQ_imulK (7) dX11_rest_22 hv6956 (by omega) (by omega) (fun v6958 hv6958 => ?_)
        refine WQ_icmp_ge 49 dX11_rest_23 rfl (fun c6958 => ?_) (fun c6958 => ?_)
        · refine WP_aload_n dX11_rest_49 rfl ?_
          refine WP_callV0 (k := 11) dX11_rest_50 ⟨⟨⟨by decide, by decide⟩, zX11_forgetWeeks⟩, lX11_350, by decide, rfl, vX11_forgetWeeks.1, vX11_forgetWeeks.2⟩ (ly_is hy 0 11 rfl) (sm_forgetWeeksx hy hr hI6951  ) (Nat.le_of_ble_eq_true rfl) ?_
          intro r I6960 J6961 Ra hq
          obtain ⟨⟨hI6960, ec, fiI6960, fjI6960, fqI6960⟩, rfl⟩ := hq
          rw [ec]
          clear ec Ra
          have fr6962 : fz 49 g [0, 22, 35, 36, 37, 39, 40, 41] I I6960 := fz_tr fiI6951 (fz_mono fiI6960 (by decide))
          have fr6963 : fs g [56, 64, 68] I I6960 := fs_tr fqI6951 (fs_mono fqI6960 (by decide))
          have fr6964 : fz 49 g [] J J6961 := fz_tr fjJ6952 (fz_mono fjI6960 (by decide))
          have e6965 : I6960 (ad g 0) 11 = v6957 := by rw [fz_at fiI6960 0 (by decide) (by decide)]; exact ev6957
          have e6966 : I6960 (ad g 0) 1 = L := hI6960.1.2
          have b6967 := BT_get hI6960.1.1 0 1 2 (0) (0) (900) (by decide) 1 (by decide) (by decide)
          rw [e6966] at b6967
          refine WP_aload_n dX11_rest_53 rfl ?_
          refine WQ_iconst (0) (0) dX11_rest_54 rfl rfl (fun v6968 hv6968 => ?_)
          refine WQ_puti dX11_rest_55 fX11_304 rfl rfl (ly_is hy 0 11 rfl) (fun I6969 eI6969 => ?_)
          have hI6969 : MP g n L I6969 := by rw [eI6969]; exact (mp_w hy hI6960 (c := 0) (mi_f0 hy hI6960.1 (c := 0) (by decide) (Or.inr (by decide)) (by decide)) (by decide) (by decide) (Or.inr (by decide)))
          have e6970 : I6969 (ad g 0) 11 = v6957 := by rw [eI6969, pp_ne _ _ (Or.inr (by decide))]; exact e6965
          have e6971 : I6969 (ad g 0) 1 = L := by rw [eI6969, pp_ne _ _ (Or.inr (by decide))]; exact e6966
          have e6972 : I6969 (ad g 0) 68 = v6968 := by rw [eI6969, pp_self]
          have fr6973 : fs g [56, 64, 68] I I6969 := by rw [eI6969]; exact fs_pp0 fr6963 (by decide)
          have fr6974 : fz 49 g [0, 22, 35, 36, 37, 39, 40, 41] I I6969 := by rw [eI6969]; exact fzm_pp hy fr6962 (by decide) (by decide)
          clear eI6969
          refine WQ_iconst (1) (1) dX11_rest_58 rfl rfl (fun v6975 hv6975 => ?_)
          refine WP_istore_n (ls' := [(0, _), (1, _), (2, _)]) dX11_rest_59 (by decide) rfl ?_
          have lp60_6979 : ∀ (mz : Nat) (i6976 : Int32) (I6977 : pI) (J6978 : pJ), MP g n L I6977 → fz 49 g [0, 22, 35, 36, 37, 39, 40, 41] I I6977 → fz 49 g [] J J6978 → fs g [56, 64, 68] I I6977 → ∀ (w6979 : Int32), I6977 (ad g 0) 68 = w6979 → 0 ≤ i6976.toInt → i6976.toInt ≤ 1 → 0 ≤ w6979.toInt → w6979.toInt ≤ 60 → (61 - w6979.toInt).toNat < mz → WP g mX11_rest 60 [(0, .ref (ad g 0)), (1, .int a), (2, .int i6976)] [] I6977 J6978 R (fun r I' J' R' => (MP g n L I' ∧ R' = R ∧ fz 49 g [0, 22, 35, 36, 37, 39, 40, 41] I I' ∧ fz 49 g [] J J' ∧ fs g [56, 64, 68] I I') ∧ ∃ v : Int32, r = some (.int v)) := by
            intro mz
            induction mz with
            | zero =>
              intro i6976 I6977 J6978 hI6977 fiI6977 fjJ6978 fqI6977 w6979 ew6979 ai6976 bi6976 j0_I6977 j1_I6977 hmlp60_6979
              exact absurd hmlp60_6979 (Nat.not_lt_zero _)
            | succ mz ihlp60_6979 =>
              intro i6976 I6977 J6978 hI6977 fiI6977 fjJ6978 fqI6977 w6979 ew6979 ai6976 bi6976 j0_I6977 j1_I6977 hmlp60_6979
              have e6981 : I6977 (ad g 0) 1 = L := hI6977.1.2
              have b6982 := BT_get hI6977.1.1 0 1 2 (0) (0) (900) (by decide) 1 (by decide) (by decide)
              rw [e6981] at b6982
              refine WP_iload_n dX11_rest_60 rfl ?_
              refine WQ_if_eq 91 dX11_rest_61 rfl (fun c6982 => ?_) (fun c6982 => ?_)
              · refine WP_iload_n dX11_rest_91 rfl ?_
                have jn100_6985 : ∀ (v6985 : Int32), 1 ≤ v6985.toInt → v6985.toInt ≤ 1 → WP g mX11_rest 100 [(0, .ref (ad g 0)), (1, .int a), (2, .int i6976)] [.int v6985] I6977 J6978 R (fun r I' J' R' => (MP g n L I' ∧ R' = R ∧ fz 49 g [0, 22, 35, 36, 37, 39, 40, 41] I I' ∧ fz 49 g [] J J' ∧ fs g [56, 64, 68] I I') ∧ ∃ v : Int32, r = some (.int v)) := by
                  intro v6985 av6985 bv6985
                  exact WP_iret dX11_rest_100 rfl ⟨⟨hI6977, rfl, fiI6977, fjJ6978, fqI6977⟩, _, rfl⟩
                refine WQ_if_eq 99 dX11_rest_92 rfl (fun c6986 => ?_) (fun c6986 => False.elim (by omega))
                refine WQ_iconst (1) (1) dX11_rest_99 rfl rfl (fun v6988 hv6988 => ?_)
                exact WP_sub (fc rfl (fc rfl (fc rfl fn))) (jn100_6985 v6988 (by omega) (by omega))
              · refine WP_aload_n dX11_rest_64 rfl ?_
                refine WQ_getim dX11_rest_65 fX11_304 rfl (ly_is hy 0 11 rfl) ew6979 ?_
                refine WQ_bipush (60) (60) dX11_rest_68 rfl rfl (fun v6989 hv6989 => ?_)
                refine WQ_icmp_ge 91 dX11_rest_70 rfl (fun c6989 => ?_) (fun c6989 => ?_)
                · refine WP_iload_n dX11_rest_91 rfl ?_
                  have jn100_6992 : ∀ (v6992 : Int32), 0 ≤ v6992.toInt → v6992.toInt ≤ 0 → WP g mX11_rest 100 [(0, .ref (ad g 0)), (1, .int a), (2, .int i6976)] [.int v6992] I6977 J6978 R (fun r I' J' R' => (MP g n L I' ∧ R' = R ∧ fz 49 g [0, 22, 35, 36, 37, 39, 40, 41] I I' ∧ fz 49 g [] J J' ∧ fs g [56, 64, 68] I I') ∧ ∃ v : Int32, r = some (.int v)) := by
                    intro v6992 av6992 bv6992
                    exact WP_iret dX11_rest_100 rfl ⟨⟨hI6977, rfl, fiI6977, fjJ6978, fqI6977⟩, _, rfl⟩
                  refine WQ_if_eq 99 dX11_rest_92 rfl (fun c6993 => False.elim (by omega)) (fun c6993 => ?_)
                  refine WQ_iconst (0) (0) dX11_rest_95 rfl rfl (fun v6995 hv6995 => ?_)
                  refine WP_goto 100 dX11_rest_96 rfl ?_
                  exact WP_sub (fc rfl (fc rfl (fc rfl fn))) (jn100_6992 v6995 (by omega) (by omega))
                · refine WP_aload_n dX11_rest_73 rfl ?_
                  refine WP_callV0 (k := 11) dX11_rest_74 ⟨⟨⟨by decide, by decide⟩, zX11_turn⟩, lX11_505, by decide, rfl, vX11_turn.1, vX11_turn.2⟩ (ly_is hy 0 11 rfl) (sm_turn hy hr hI6977   (by omega)) (Nat.le_of_ble_eq_true rfl) ?_
                  intro r I6996 J6997 Ra hq
                  obtain ⟨⟨hI6996, ec, fiI6996, fjI6996, fqI6996, ⟨pI6996, sI6996_0_68⟩⟩, v6998, rfl, av6998, bv6998⟩ := hq
                  show WP _ _ _ _ (.int _ :: _) _ _ _ _
                  rw [ec]
                  clear ec Ra
                  have fr6999 : fz 49 g [0, 22, 35, 36, 37, 39, 40, 41] I I6996 := fz_tr fiI6977 (fz_mono fiI6996 (by decide))
                  have fr7000 : fs g [56, 64, 68] I I6996 := fs_tr fqI6977 (fs_mono fqI6996 (by decide))
                  have fr7001 : fz 49 g [] J J6997 := fz_tr fjJ6978 (fz_mono fjI6996 (by decide))
                  have e7002 : I6996 (ad g 0) 68 = w6979 := by rw [sI6996_0_68]; exact ew6979
                  have e7003 : I6996 (ad g 0) 1 = L := hI6996.1.2
                  have b7004 := BT_get hI6996.1.1 0 1 2 (0) (0) (900) (by decide) 1 (by decide) (by decide)
                  rw [e7003] at b7004
                  refine WP_istore_n (ls' := [(0, _), (1, _), (2, _)]) dX11_rest_77 (by decide) rfl ?_
                  refine WP_aload_n dX11_rest_78 rfl ?_
                  refine WP_dup dX11_rest_79 rfl ?_
                  refine WQ_getim dX11_rest_80 fX11_304 rfl (ly_is hy 0 11 rfl) e7002 ?_
                  refine WQ_iconst (1) (1) dX11_rest_83 rfl rfl (fun v7005 hv7005 => ?_)
                  refine WQ_iadd dX11_rest_84 (by omega) (by omega) (fun v7006 hv7006 => ?_)
                  refine WQ_puti dX11_rest_85 fX11_304 rfl rfl (ly_is hy 0 11 rfl) (fun I7007 eI7007 => ?_)
                  have hI7007 : MP g n L I7007 := by rw [eI7007]; exact (mp_w hy hI6996 (c := 0) (mi_f0 hy hI6996.1 (c := 0) (by decide) (Or.inr (by decide)) (by decide)) (by decide) (by decide) (Or.inr (by decide)))
                  have e7008 : I7007 (ad g 0) 1 = L := by rw [eI7007, pp_ne _ _ (Or.inr (by decide))]; exact e7003
                  have e7009 : I7007 (ad g 0) 68 = v7006 := by rw [eI7007, pp_self]
                  have fr7010 : fs g [56, 64, 68] I I7007 := by rw [eI7007]; exact fs_pp0 fr7000 (by decide)
                  have fr7011 : fz 49 g [0, 22, 35, 36, 37, 39, 40, 41] I I7007 := by rw [eI7007]; exact fzm_pp hy fr6999 (by decide) (by decide)
                  clear eI7007
                  refine WP_goto 60 dX11_rest_88 rfl ?_
                  exact WP_sub (fc rfl (fc rfl (fc rfl fn))) (ihlp60_6979 v6998 I7007 J6997 hI7007 fr7011 fr7001 fr7010 v7006 e7009 (by omega) (by omega) (by omega) (by omega) (by omega))
          exact WP_sub (fc rfl (fc rfl (fc rfl fn))) (lp60_6979 _ v6975 I6969 J6961 hI6969 fr6974 fr6964 fr6973 v6968 e6972 (by omega) (by omega) (by omega) (by omega) (Nat.lt_succ_self _))
        · refine WP_iload_n dX11_rest_26 rfl ?_
          refine WQ_iconst (1) (1) dX11_rest_27 rfl rfl (fun v7012 hv7012 => ?_)
          refine WQ_icmp_ne 49 dX11_rest_28 rfl (fun c7012 => ?_) (fun c7012 => ?_)
          · refine WP_aload_n dX11_rest_49 rfl ?_
            refine WP_callV0 (k := 11) dX11_rest_50 ⟨⟨⟨by decide, by decide⟩, zX11_forgetWeeks⟩, lX11_350, by decide, rfl, vX11_forgetWeeks.1, vX11_forgetWeeks.2⟩ (ly_is hy 0 11 rfl) (sm_forgetWeeksx hy hr hI6951  ) (Nat.le_of_ble_eq_true rfl) ?_
            intro r I7014 J7015 Ra hq
            obtain ⟨⟨hI7014, ec, fiI7014, fjI7014, fqI7014⟩, rfl⟩ := hq
            rw [ec]
            clear ec Ra
            have fr7016 : fz 49 g [0, 22, 35, 36, 37, 39, 40, 41] I I7014 := fz_tr fiI6951 (fz_mono fiI7014 (by decide))
            have fr7017 : fs g [56, 64, 68] I I7014 := fs_tr fqI6951 (fs_mono fqI7014 (by decide))
            have fr7018 : fz 49 g [] J J7015 := fz_tr fjJ6952 (fz_mono fjI7014 (by decide))
            have e7019 : I7014 (ad g 0) 11 = v6957 := by rw [fz_at fiI7014 0 (by decide) (by decide)]; exact ev6957
            have e7020 : I7014 (ad g 0) 1 = L := hI7014.1.2
            have b7021 := BT_get hI7014.1.1 0 1 2 (0) (0) (900) (by decide) 1 (by decide) (by decide)
            rw [e7020] at b7021
            refine WP_aload_n dX11_rest_53 rfl ?_
            refine WQ_iconst (0) (0) dX11_rest_54 rfl rfl (fun v7022 hv7022 => ?_)
            refine WQ_puti dX11_rest_55 fX11_304 rfl rfl (ly_is hy 0 11 rfl) (fun I7023 eI7023 => ?_)
            have hI7023 : MP g n L I7023 := by rw [eI7023]; exact (mp_w hy hI7014 (c := 0) (mi_f0 hy hI7014.1 (c := 0) (by decide) (Or.inr (by decide)) (by decide)) (by decide) (by decide) (Or.inr (by decide)))
            have e7024 : I7023 (ad g 0) 11 = v6957 := by rw [eI7023, pp_ne _ _ (Or.inr (by decide))]; exact e7019
            have e7025 : I7023 (ad g 0) 1 = L := by rw [eI7023, pp_ne _ _ (Or.inr (by decide))]; exact e7020
            have e7026 : I7023 (ad g 0) 68 = v7022 := by rw [eI7023, pp_self]
            have fr7027 : fs g [56, 64, 68] I I7023 := by rw [eI7023]; exact fs_pp0 fr7017 (by decide)
            have fr7028 : fz 49 g [0, 22, 35, 36, 37, 39, 40, 41] I I7023 := by rw [eI7023]; exact fzm_pp hy fr7016 (by decide) (by decide)
            clear eI7023
            refine WQ_iconst (1) (1) dX11_rest_58 rfl rfl (fun v7029 hv7029 => ?_)
            refine WP_istore_n (ls' := [(0, _), (1, _), (2, _)]) dX11_rest_59 (by decide) rfl ?_
            have lp60_7033 : ∀ (mz : Nat) (i7030 : Int32) (I7031 : pI) (J7032 : pJ), MP g n L I7031 → fz 49 g [0, 22, 35, 36, 37, 39, 40, 41] I I7031 → fz 49 g [] J J7032 → fs g [56, 64, 68] I I7031 → ∀ (w7033 : Int32), I7031 (ad g 0) 68 = w7033 → 0 ≤ i7030.toInt → i7030.toInt ≤ 1 → 0 ≤ w7033.toInt → w7033.toInt ≤ 60 → (61 - w7033.toInt).toNat < mz → WP g mX11_rest 60 [(0, .ref (ad g 0)), (1, .int a), (2, .int i7030)] [] I7031 J7032 R (fun r I' J' R' => (MP g n L I' ∧ R' = R ∧ fz 49 g [0, 22, 35, 36, 37, 39, 40, 41] I I' ∧ fz 49 g [] J J' ∧ fs g [56, 64, 68] I I') ∧ ∃ v : Int32, r = some (.int v)) := by
              intro mz
              induction mz with
              | zero =>
                intro i7030 I7031 J7032 hI7031 fiI7031 fjJ7032 fqI7031 w7033 ew7033 ai7030 bi7030 j0_I7031 j1_I7031 hmlp60_7033
                exact absurd hmlp60_7033 (Nat.not_lt_zero _)
              | succ mz ihlp60_7033 =>
                intro i7030 I7031 J7032 hI7031 fiI7031 fjJ7032 fqI7031 w7033 ew7033 ai7030 bi7030 j0_I7031 j1_I7031 hmlp60_7033
                have e7035 : I7031 (ad g 0) 1 = L := hI7031.1.2
                have b7036 := BT_get hI7031.1.1 0 1 2 (0) (0) (900) (by decide) 1 (by decide) (by decide)
                rw [e7035] at b7036
                refine WP_iload_n dX11_rest_60 rfl ?_
                refine WQ_if_eq 91 dX11_rest_61 rfl (fun c7036 => ?_) (fun c7036 => ?_)
                · refine WP_iload_n dX11_rest_91 rfl ?_
                  have jn100_7039 : ∀ (v7039 : Int32), 1 ≤ v7039.toInt → v7039.toInt ≤ 1 → WP g mX11_rest 100 [(0, .ref (ad g 0)), (1, .int a), (2, .int i7030)] [.int v7039] I7031 J7032 R (fun r I' J' R' => (MP g n L I' ∧ R' = R ∧ fz 49 g [0, 22, 35, 36, 37, 39, 40, 41] I I' ∧ fz 49 g [] J J' ∧ fs g [56, 64, 68] I I') ∧ ∃ v : Int32, r = some (.int v)) := by
                    intro v7039 av7039 bv7039
                    exact WP_iret dX11_rest_100 rfl ⟨⟨hI7031, rfl, fiI7031, fjJ7032, fqI7031⟩, _, rfl⟩
                  refine WQ_if_eq 99 dX11_rest_92 rfl (fun c7040 => ?_) (fun c7040 => False.elim (by omega))
                  refine WQ_iconst (1) (1) dX11_rest_99 rfl rfl (fun v7042 hv7042 => ?_)
                  exact WP_sub (fc rfl (fc rfl (fc rfl fn))) (jn100_7039 v7042 (by omega) (by omega))
                · refine WP_aload_n dX11_rest_64 rfl ?_
                  refine WQ_getim dX11_rest_65 fX11_304 rfl (ly_is hy 0 11 rfl) ew7033 ?_
                  refine WQ_bipush (60) (60) dX11_rest_68 rfl rfl (fun v7043 hv7043 => ?_)
                  refine WQ_icmp_ge 91 dX11_rest_70 rfl (fun c7043 => ?_) (fun c7043 => ?_)
                  · refine WP_iload_n dX11_rest_91 rfl ?_
                    have jn100_7046 : ∀ (v7046 : Int32), 0 ≤ v7046.toInt → v7046.toInt ≤ 0 → WP g mX11_rest 100 [(0, .ref (ad g 0)), (1, .int a), (2, .int i7030)] [.int v7046] I7031 J7032 R (fun r I' J' R' => (MP g n L I' ∧ R' = R ∧ fz 49 g [0, 22, 35, 36, 37, 39, 40, 41] I I' ∧ fz 49 g [] J J' ∧ fs g [56, 64, 68] I I') ∧ ∃ v : Int32, r = some (.int v)) := by
                      intro v7046 av7046 bv7046
                      exact WP_iret dX11_rest_100 rfl ⟨⟨hI7031, rfl, fiI7031, fjJ7032, fqI7031⟩, _, rfl⟩
                    refine WQ_if_eq 99 dX11_rest_92 rfl (fun c7047 => False.elim (by omega)) (fun c7047 => ?_)
                    refine WQ_iconst (0) (0) dX11_rest_95 rfl rfl (fun v7049 hv7049 => ?_)
                    refine WP_goto 100 dX11_rest_96 rfl ?_
                    exact WP_sub (fc rfl (fc rfl (fc rfl fn))) (jn100_7046 v7049 (by omega) (by omega))
                  · refine WP_aload_n dX11_rest_73 rfl ?_
                    refine WP_callV0 (k := 11) dX11_rest_74 ⟨⟨⟨by decide, by decide⟩, zX11_turn⟩, lX11_505, by decide, rfl, vX11_turn.1, vX11_turn.2⟩ (ly_is hy 0 11 rfl) (sm_turn hy hr hI7031   (by omega)) (Nat.le_of_ble_eq_true rfl) ?_
                    intro r I7050 J7051 Ra hq
                    obtain ⟨⟨hI7050, ec, fiI7050, fjI7050, fqI7050, ⟨pI7050, sI7050_0_68⟩⟩, v7052, rfl, av7052, bv7052⟩ := hq
                    show WP _ _ _ _ (.int _ :: _) _ _ _ _
                    rw [ec]
                    clear ec Ra
                    have fr7053 : fz 49 g [0, 22, 35, 36, 37, 39, 40, 41] I I7050 := fz_tr fiI7031 (fz_mono fiI7050 (by decide))
                    have fr7054 : fs g [56, 64, 68] I I7050 := fs_tr fqI7031 (fs_mono fqI7050 (by decide))
                    have fr7055 : fz 49 g [] J J7051 := fz_tr fjJ7032 (fz_mono fjI7050 (by decide))
                    have e7056 : I7050 (ad g 0) 68 = w7033 := by rw [sI7050_0_68]; exact ew7033
                    have e7057 : I7050 (ad g 0) 1 = L := hI7050.1.2
                    have b7058 := BT_get hI7050.1.1 0 1 2 (0) (0) (900) (by decide) 1 (by decide) (by decide)
                    rw [e7057] at b7058
                    refine WP_istore_n (ls' := [(0, _), (1, _), (2, _)]) dX11_rest_77 (by decide) rfl ?_
                    refine WP_aload_n dX11_rest_78 rfl ?_
                    refine WP_dup dX11_rest_79 rfl ?_
                    refine WQ_getim dX11_rest_80 fX11_304 rfl (ly_is hy 0 11 rfl) e7056 ?_
                    refine WQ_iconst (1) (1) dX11_rest_83 rfl rfl (fun v7059 hv7059 => ?_)
                    refine WQ_iadd dX11_rest_84 (by omega) (by omega) (fun v7060 hv7060 => ?_)
                    refine WQ_puti dX11_rest_85 fX11_304 rfl rfl (ly_is hy 0 11 rfl) (fun I7061 eI7061 => ?_)
                    have hI7061 : MP g n L I7061 := by rw [eI7061]; exact (mp_w hy hI7050 (c := 0) (mi_f0 hy hI7050.1 (c := 0) (by decide) (Or.inr (by decide)) (by decide)) (by decide) (by decide) (Or.inr (by decide)))
                    have e7062 : I7061 (ad g 0) 1 = L := by rw [eI7061, pp_ne _ _ (Or.inr (by decide))]; exact e7057
                    have e7063 : I7061 (ad g 0) 68 = v7060 := by rw [eI7061, pp_self]
                    have fr7064 : fs g [56, 64, 68] I I7061 := by rw [eI7061]; exact fs_pp0 fr7054 (by decide)
                    have fr7065 : fz 49 g [0, 22, 35, 36, 37, 39, 40, 41] I I7061 := by rw [eI7061]; exact fzm_pp hy fr7053 (by decide) (by decide)
                    clear eI7061
                    refine WP_goto 60 dX11_rest_88 rfl ?_
                    exact WP_sub (fc rfl (fc rfl (fc rfl fn))) (ihlp60_7033 v7052 I7061 J7051 hI7061 fr7065 fr7055 fr7064 v7060 e7063 (by omega) (by omega) (by omega) (by omega) (by omega))
            exact WP_sub (fc rfl (fc rfl (fc rfl fn))) (lp60_7033 _ v7029 I7023 J7015 hI7023 fr7028 fr7018 fr7027 v7022 e7026 (by omega) (by omega) (by omega) (by omega) (Nat.lt_succ_self _))
          · refine WP_aload_n dX11_rest_31 rfl ?_
            refine WP_getr dX11_rest_32 fX11_257 rfl (ly_is hy 0 11 rfl) (rf hr 0 40 22 (by decide)) ?_
            refine WP_iload_n dX11_rest_35 rfl ?_
            refine WP_aload_n dX11_rest_36 rfl ?_
            refine WP_getr dX11_rest_37 fX11_254 rfl (ly_is hy 0 11 rfl) (rf hr 0 39 21 (by decide)) ?_
            refine WP_iload_n dX11_rest_40 rfl ?_
            refine WQ_iald dX11_rest_41 (ly_is hy 21 13 rfl) (ly_n hy 21 21 rfl) (by omega) (by omega) (fun q hq => BT_get hI6951.1.1 21 0 21 (0) (0) (20) (by decide) q (Nat.zero_le _) hq) (fun v7066 av7066 bv7066 ev7066 => ?_)
            clear ev7066
            refine WQ_iast dX11_rest_42 (ly_is hy 22 13 rfl) (ly_n hy 22 21 rfl) (by omega) (by omega) (fun I7067 eI7067 => ?_)
            have hI7067 : MP g n L I7067 := by rw [eI7067]; exact (mp_w hy hI6951 (c := 22) (mi_r hy hI6951.1 (c := 22) (0) (0) (20) (by decide) (Or.inl (by decide)) (by decide) (by omega) (by omega)) (by decide) (by decide) (Or.inl (by decide)))
            have e7068 : I7067 (ad g 0) 1 = L := by rw [eI7067, pp_ne _ _ (Or.inl (ly_ne hy (by decide) (by decide) (by decide)))]; exact e6954
            have e7069 : I7067 (ad g 0) 11 = v6957 := by rw [eI7067, pp_ne _ _ (Or.inl (ly_ne hy (by decide) (by decide) (by decide)))]; exact ev6957
            have fr7070 : fs g [56, 64, 68] I I7067 := by rw [eI7067]; exact fs_ppn hy fqI6951 (by decide) (by decide)
            have fr7071 : fz 49 g [0, 22, 35, 36, 37, 39, 40, 41] I I7067 := by rw [eI7067]; exact fzm_pp hy fiI6951 (by decide) (by decide)
            clear eI7067
            refine WP_iinc (ls' := [(0, _), (1, _), (2, _)]) dX11_rest_43 rfl (by decide) rfl ?_
            have hv7072 : (i6950 + Int32.ofInt (1)).toInt = i6950.toInt + (1) := ia_n rfl (by omega) (by omega)
            generalize i6950 + Int32.ofInt (1) = v7072 at hv7072 ⊢
            refine WP_goto 15 dX11_rest_46 rfl ?_
            exact WP_sub (fc rfl (fc rfl (fc rfl fn))) (ihlp15_6952 v7072 I7067 J6952 hI7067 fr7071 fjJ6952 fr7070 (by omega) (by omega) (by omega))
    exact WP_sub (fc rfl (fc rfl (fc rfl fn))) (lp15_6952 _ v6949 I J hI fr0 frj0 frq0 (by omega) (by omega) (Nat.lt_succ_self _))
  · refine WQ_bipush (-2) (-2) dX11_rest_10 rfl rfl (fun v7073 hv7073 => ?_)
    exact WP_iret dX11_rest_12 rfl ⟨⟨hI, rfl, fr0, frj0, frq0⟩, _, rfl⟩
