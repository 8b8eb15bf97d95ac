set_option maxHeartbeats 4000000 in
set_option maxRecDepth 100000 in
theorem sm_begin_38 {g : GG} {n : Int} {L : Int32} (hy : Ly g)  {I : pI} {J : pJ} {R : pR} (hr : Rf g R) (hI : MP g n L I)   (hn : 0 ≤ n) : SP g mX11_begin [.ref (ad g 0), .ref (ad g 38)] I J R (fun r I' J' R' => (MP g n L I' ∧ R' = R) ∧ r = none) := by
  refine SP_of ⟨by decide, rfl⟩ (Nat.le_of_ble_eq_true rfl) ?_
  have e2523 : I (ad g 0) 1 = L := hI.1.2
  have b2524 := BT_get hI.1.1 0 1 2 (0) (0) (900) (by decide) 1 (by decide) (by decide)
  rw [e2523] at b2524
  refine WQ_iconst (0) (0) dX11_begin_0 rfl rfl (fun v2525 hv2525 => ?_)
  refine WP_istore_n (ls' := [(0, _), (1, _), (2, _)]) dX11_begin_1 (by decide) rfl ?_
  have lp2_2528 : ∀ (mz : Nat) (i2526 : Int32) (I2527 : pI) (J2528 : pJ), MP g n L I2527 → 0 ≤ i2526.toInt → i2526.toInt ≤ 35 → (36 - i2526.toInt).toNat < mz → WP g mX11_begin 2 [(0, .ref (ad g 0)), (1, .ref (ad g 38)), (2, .int i2526)] [] I2527 J2528 R (fun r I' J' R' => (MP g n L I' ∧ R' = R) ∧ r = none) := by
    intro mz
    induction mz with
    | zero =>
      intro i2526 I2527 J2528 hI2527 ai2526 bi2526 hmlp2_2528
      exact absurd hmlp2_2528 (Nat.not_lt_zero _)
    | succ mz ihlp2_2528 =>
      intro i2526 I2527 J2528 hI2527 ai2526 bi2526 hmlp2_2528
      have e2530 : I2527 (ad g 0) 1 = L := hI2527.1.2
      have b2531 := BT_get hI2527.1.1 0 1 2 (0) (0) (900) (by decide) 1 (by decide) (by decide)
      rw [e2530] at b2531
      refine WP_iload_n dX11_begin_2 rfl ?_
      refine WQ_bipush (35) (35) dX11_begin_3 rfl rfl (fun v2532 hv2532 => ?_)
      refine WQ_icmp_ge 30 dX11_begin_5 rfl (fun c2532 => ?_) (fun c2532 => ?_)
      · refine WQ_iconst (0) (0) dX11_begin_30 rfl rfl (fun v2534 hv2534 => ?_)
        refine WP_istore_n (ls' := [(0, _), (1, _), (2, _)]) dX11_begin_31 (by decide) rfl ?_
        have lp32_2537 : ∀ (mz : Nat) (i2535 : Int32) (I2536 : pI) (J2537 : pJ), MP g n L I2536 → 0 ≤ i2535.toInt → i2535.toInt ≤ 4 → (5 - i2535.toInt).toNat < mz → WP g mX11_begin 32 [(0, .ref (ad g 0)), (1, .ref (ad g 38)), (2, .int i2535)] [] I2536 J2537 R (fun r I' J' R' => (MP g n L I' ∧ R' = R) ∧ r = none) := by
          intro mz
          induction mz with
          | zero =>
            intro i2535 I2536 J2537 hI2536 ai2535 bi2535 hmlp32_2537
            exact absurd hmlp32_2537 (Nat.not_lt_zero _)
          | succ mz ihlp32_2537 =>
            intro i2535 I2536 J2537 hI2536 ai2535 bi2535 hmlp32_2537
            have e2539 : I2536 (ad g 0) 1 = L := hI2536.1.2
            have b2540 := BT_get hI2536.1.1 0 1 2 (0) (0) (900) (by decide) 1 (by decide) (by decide)
            rw [e2539] at b2540
            refine WP_iload_n dX11_begin_32 rfl ?_
            refine WP_aload_n dX11_begin_33 rfl ?_
            refine WQ_geti dX11_begin_34 fX11_329 rfl (ly_is hy 0 11 rfl) (BT_get hI2536.1.1 0 10 11 (0) (0) (4) (by decide) 10 (by decide) (by decide)) (fun v2541 ev2541 av2541 bv2541 => ?_)
            refine WQ_icmp_ge 57 dX11_begin_37 rfl (fun c2541 => ?_) (fun c2541 => ?_)
            · exact WP_vret dX11_begin_57 rfl ⟨⟨hI2536, rfl⟩, rfl⟩
            · refine WP_aload_n dX11_begin_40 rfl ?_
              refine WQ_iconst (0) (0) dX11_begin_41 rfl rfl (fun v2543 hv2543 => ?_)
              refine WP_iload_n dX11_begin_42 rfl ?_
              refine WQ_iadd dX11_begin_43 (by omega) (by omega) (fun v2544 hv2544 => ?_)
              refine WP_aload_n dX11_begin_44 rfl ?_
              refine WP_getr dX11_begin_45 fX11_241 rfl (ly_is hy 0 11 rfl) (rf hr 0 28 10 (by decide)) ?_
              refine WP_iload_n dX11_begin_48 rfl ?_
              refine WQ_iald dX11_begin_49 (ly_is hy 10 13 rfl) (ly_n hy 10 4 rfl) (by omega) (by omega) (fun q hq => BT_get hI2536.1.1 10 0 4 (0) (0) (60) (by decide) q (Nat.zero_le _) hq) (fun v2545 av2545 bv2545 ev2545 => ?_)
              clear ev2545
              refine WQ_iast dX11_begin_50 (ly_is hy 38 13 rfl) (ly_n hy 38 35 rfl) (by omega) (by omega) (fun I2546 eI2546 => ?_)
              have hI2546 : MP g n L I2546 := by rw [eI2546]; exact (mp_w hy hI2536 (c := 38) (mi_rr hy hI2536.1 (c := 38) (0) (3) (0) (0) (60) (by decide) (Or.inl (by decide)) (by rw [cl (n := v2544.toInt.toNat) (by omega)]; omega) (by decide) (fun _ => ⟨by omega, by omega⟩)) (by decide) (by decide) (Or.inl (by decide)))
              have e2547 : I2546 (ad g 0) 1 = L := by rw [eI2546, pp_ne _ _ (Or.inl (ly_ne hy (by decide) (by decide) (by decide)))]; exact e2539
              have e2548 : I2546 (ad g 0) 10 = v2541 := by rw [eI2546, pp_ne _ _ (Or.inl (ly_ne hy (by decide) (by decide) (by decide)))]; exact ev2541
              clear eI2546
              refine WP_iinc (ls' := [(0, _), (1, _), (2, _)]) dX11_begin_51 rfl (by decide) rfl ?_
              have hv2549 : (i2535 + Int32.ofInt (1)).toInt = i2535.toInt + (1) := ia_n rfl (by omega) (by omega)
              generalize i2535 + Int32.ofInt (1) = v2549 at hv2549 ⊢
              refine WP_goto 32 dX11_begin_54 rfl ?_
              exact WP_sub (fc rfl (fc rfl (fc rfl fn))) (ihlp32_2537 v2549 I2546 J2537 hI2546 (by omega) (by omega) (by omega))
        exact WP_sub (fc rfl (fc rfl (fc rfl fn))) (lp32_2537 _ v2534 I2527 J2528 hI2527 (by omega) (by omega) (Nat.lt_succ_self _))
      · refine WP_iload_n dX11_begin_8 rfl ?_
        refine WQ_bipush (28) (28) dX11_begin_9 rfl rfl (fun v2550 hv2550 => ?_)
        refine WQ_icmp_lt 20 dX11_begin_11 rfl (fun c2550 => ?_) (fun c2550 => ?_)
        · rcases (show (0 ≤ i2526.toInt ∧ i2526.toInt ≤ 3) ∨ (4 ≤ i2526.toInt ∧ i2526.toInt ≤ 7) ∨ (8 ≤ i2526.toInt ∧ i2526.toInt ≤ 31) by omega) with ⟨k2552_0, k2552_1⟩ | ⟨k2552_2, k2552_3⟩ | ⟨k2552_4, k2552_5⟩
          · refine WP_aload_n dX11_begin_20 rfl ?_
            refine WP_iload_n dX11_begin_21 rfl ?_
            refine WQ_iconst (0) (0) dX11_begin_22 rfl rfl (fun v2553 hv2553 => ?_)
            refine WQ_iast dX11_begin_23 (ly_is hy 38 13 rfl) (ly_n hy 38 35 rfl) (by omega) (by omega) (fun I2554 eI2554 => ?_)
            have hI2554 : MP g n L I2554 := by rw [eI2554]; exact (mp_w hy hI2527 (c := 38) (mi_rr hy hI2527.1 (c := 38) (0) (3) (0) (0) (60) (by decide) (Or.inl (by decide)) (by rw [cl (n := i2526.toInt.toNat) (by omega)]; omega) (by decide) (fun _ => ⟨by omega, by omega⟩)) (by decide) (by decide) (Or.inl (by decide)))
            have e2555 : I2554 (ad g 0) 1 = L := by rw [eI2554, pp_ne _ _ (Or.inl (ly_ne hy (by decide) (by decide) (by decide)))]; exact e2530
            clear eI2554
            refine WP_iinc (ls' := [(0, _), (1, _), (2, _)]) dX11_begin_24 rfl (by decide) rfl ?_
            have hv2556 : (i2526 + Int32.ofInt (1)).toInt = i2526.toInt + (1) := ia_n rfl (by omega) (by omega)
            generalize i2526 + Int32.ofInt (1) = v2556 at hv2556 ⊢
            refine WP_goto 2 dX11_begin_27 rfl ?_
            exact WP_sub (fc rfl (fc rfl (fc rfl fn))) (ihlp2_2528 v2556 I2554 J2528 hI2554 (by omega) (by omega) (by omega))
          · refine WP_aload_n dX11_begin_20 rfl ?_
            refine WP_iload_n dX11_begin_21 rfl ?_
            refine WQ_iconst (0) (0) dX11_begin_22 rfl rfl (fun v2557 hv2557 => ?_)
            refine WQ_iast dX11_begin_23 (ly_is hy 38 13 rfl) (ly_n hy 38 35 rfl) (by omega) (by omega) (fun I2558 eI2558 => ?_)
            have hI2558 : MP g n L I2558 := by rw [eI2558]; exact (mp_w hy hI2527 (c := 38) (mi_rr hy hI2527.1 (c := 38) (4) (7) (0) (0) (5) (by decide) (Or.inl (by decide)) (by rw [cl (n := i2526.toInt.toNat) (by omega)]; omega) (by decide) (fun _ => ⟨by omega, by omega⟩)) (by decide) (by decide) (Or.inl (by decide)))
            have e2559 : I2558 (ad g 0) 1 = L := by rw [eI2558, pp_ne _ _ (Or.inl (ly_ne hy (by decide) (by decide) (by decide)))]; exact e2530
            clear eI2558
            refine WP_iinc (ls' := [(0, _), (1, _), (2, _)]) dX11_begin_24 rfl (by decide) rfl ?_
            have hv2560 : (i2526 + Int32.ofInt (1)).toInt = i2526.toInt + (1) := ia_n rfl (by omega) (by omega)
            generalize i2526 + Int32.ofInt (1) = v2560 at hv2560 ⊢
            refine WP_goto 2 dX11_begin_27 rfl ?_
            exact WP_sub (fc rfl (fc rfl (fc rfl fn))) (ihlp2_2528 v2560 I2558 J2528 hI2558 (by omega) (by omega) (by omega))
          · refine WP_aload_n dX11_begin_20 rfl ?_
            refine WP_iload_n dX11_begin_21 rfl ?_
            refine WQ_iconst (0) (0) dX11_begin_22 rfl rfl (fun v2561 hv2561 => ?_)
            refine WQ_iast dX11_begin_23 (ly_is hy 38 13 rfl) (ly_n hy 38 35 rfl) (by omega) (by omega) (fun I2562 eI2562 => ?_)
            have hI2562 : MP g n L I2562 := by rw [eI2562]; exact (mp_w hy hI2527 (c := 38) (mi_rr hy hI2527.1 (c := 38) (8) (27) (0) (0) (0) (by decide) (Or.inl (by decide)) (by rw [cl (n := i2526.toInt.toNat) (by omega)]; omega) (by decide) (fun h => absurd h (by decide))) (by decide) (by decide) (Or.inl (by decide)))
            have e2563 : I2562 (ad g 0) 1 = L := by rw [eI2562, pp_ne _ _ (Or.inl (ly_ne hy (by decide) (by decide) (by decide)))]; exact e2530
            clear eI2562
            refine WP_iinc (ls' := [(0, _), (1, _), (2, _)]) dX11_begin_24 rfl (by decide) rfl ?_
            have hv2564 : (i2526 + Int32.ofInt (1)).toInt = i2526.toInt + (1) := ia_n rfl (by omega) (by omega)
            generalize i2526 + Int32.ofInt (1) = v2564 at hv2564 ⊢
            refine WP_goto 2 dX11_begin_27 rfl ?_
            exact WP_sub (fc rfl (fc rfl (fc rfl fn))) (ihlp2_2528 v2564 I2562 J2528 hI2562 (by omega) (by omega) (by omega))
        · refine WP_iload_n dX11_begin_14 rfl ?_
          refine WQ_bipush (32) (32) dX11_begin_15 rfl rfl (fun v2565 hv2565 => ?_)
          refine WQ_icmp_lt 24 dX11_begin_17 rfl (fun c2565 => ?_) (fun c2565 => ?_)
          · refine WP_iinc (ls' := [(0, _), (1, _), (2, _)]) dX11_begin_24 rfl (by decide) rfl ?_
            have hv2567 : (i2526 + Int32.ofInt (1)).toInt = i2526.toInt + (1) := ia_n rfl (by omega) (by omega)
            generalize i2526 + Int32.ofInt (1) = v2567 at hv2567 ⊢
            refine WP_goto 2 dX11_begin_27 rfl ?_
            exact WP_sub (fc rfl (fc rfl (fc rfl fn))) (ihlp2_2528 v2567 I2527 J2528 hI2527 (by omega) (by omega) (by omega))
          · rcases (show (32 ≤ i2526.toInt ∧ i2526.toInt ≤ 32) ∨ (33 ≤ i2526.toInt ∧ i2526.toInt ≤ 33) ∨ (34 ≤ i2526.toInt ∧ i2526.toInt ≤ 34) by omega) with ⟨k2568_0, k2568_1⟩ | ⟨k2568_2, k2568_3⟩ | ⟨k2568_4, k2568_5⟩
            · refine WP_aload_n dX11_begin_20 rfl ?_
              refine WP_iload_n dX11_begin_21 rfl ?_
              refine WQ_iconst (0) (0) dX11_begin_22 rfl rfl (fun v2569 hv2569 => ?_)
              refine WQ_iast dX11_begin_23 (ly_is hy 38 13 rfl) (ly_n hy 38 35 rfl) (by omega) (by omega) (fun I2570 eI2570 => ?_)
              have hI2570 : MP g n L I2570 := by rw [eI2570]; exact (mp_w hy hI2527 (c := 38) (mi_rr hy hI2527.1 (c := 38) (32) (32) (0) (23760) (0) (by decide) (Or.inl (by decide)) (by rw [cl (n := i2526.toInt.toNat) (by omega)]; omega) (by decide) (fun _ => ⟨by omega, by omega⟩)) (by decide) (by decide) (Or.inl (by decide)))
              have e2571 : I2570 (ad g 0) 1 = L := by rw [eI2570, pp_ne _ _ (Or.inl (ly_ne hy (by decide) (by decide) (by decide)))]; exact e2530
              clear eI2570
              refine WP_iinc (ls' := [(0, _), (1, _), (2, _)]) dX11_begin_24 rfl (by decide) rfl ?_
              have hv2572 : (i2526 + Int32.ofInt (1)).toInt = i2526.toInt + (1) := ia_n rfl (by omega) (by omega)
              generalize i2526 + Int32.ofInt (1) = v2572 at hv2572 ⊢
              refine WP_goto 2 dX11_begin_27 rfl ?_
              exact WP_sub (fc rfl (fc rfl (fc rfl fn))) (ihlp2_2528 v2572 I2570 J2528 hI2570 (by omega) (by omega) (by omega))
            · refine WP_aload_n dX11_begin_20 rfl ?_
              refine WP_iload_n dX11_begin_21 rfl ?_
              refine WQ_iconst (0) (0) dX11_begin_22 rfl rfl (fun v2573 hv2573 => ?_)
              refine WQ_iast dX11_begin_23 (ly_is hy 38 13 rfl) (ly_n hy 38 35 rfl) (by omega) (by omega) (fun I2574 eI2574 => ?_)
              have hI2574 : MP g n L I2574 := by rw [eI2574]; exact (mp_w hy hI2527 (c := 38) (mi_rr hy hI2527.1 (c := 38) (33) (33) (0) (1) (0) (by decide) (Or.inl (by decide)) (by rw [cl (n := i2526.toInt.toNat) (by omega)]; omega) (by decide) (fun _ => ⟨by omega, by omega⟩)) (by decide) (by decide) (Or.inl (by decide)))
              have e2575 : I2574 (ad g 0) 1 = L := by rw [eI2574, pp_ne _ _ (Or.inl (ly_ne hy (by decide) (by decide) (by decide)))]; exact e2530
              clear eI2574
              refine WP_iinc (ls' := [(0, _), (1, _), (2, _)]) dX11_begin_24 rfl (by decide) rfl ?_
              have hv2576 : (i2526 + Int32.ofInt (1)).toInt = i2526.toInt + (1) := ia_n rfl (by omega) (by omega)
              generalize i2526 + Int32.ofInt (1) = v2576 at hv2576 ⊢
              refine WP_goto 2 dX11_begin_27 rfl ?_
              exact WP_sub (fc rfl (fc rfl (fc rfl fn))) (ihlp2_2528 v2576 I2574 J2528 hI2574 (by omega) (by omega) (by omega))
            · refine WP_aload_n dX11_begin_20 rfl ?_
              refine WP_iload_n dX11_begin_21 rfl ?_
              refine WQ_iconst (0) (0) dX11_begin_22 rfl rfl (fun v2577 hv2577 => ?_)
              refine WQ_iast dX11_begin_23 (ly_is hy 38 13 rfl) (ly_n hy 38 35 rfl) (by omega) (by omega) (fun I2578 eI2578 => ?_)
              have hI2578 : MP g n L I2578 := by rw [eI2578]; exact (mp_w hy hI2527 (c := 38) (mi_rr hy hI2527.1 (c := 38) (34) (34) (0) (0) (0) (by decide) (Or.inl (by decide)) (by rw [cl (n := i2526.toInt.toNat) (by omega)]; omega) (by decide) (fun h => absurd h (by decide))) (by decide) (by decide) (Or.inl (by decide)))
              have e2579 : I2578 (ad g 0) 1 = L := by rw [eI2578, pp_ne _ _ (Or.inl (ly_ne hy (by decide) (by decide) (by decide)))]; exact e2530
              clear eI2578
              refine WP_iinc (ls' := [(0, _), (1, _), (2, _)]) dX11_begin_24 rfl (by decide) rfl ?_
              have hv2580 : (i2526 + Int32.ofInt (1)).toInt = i2526.toInt + (1) := ia_n rfl (by omega) (by omega)
              generalize i2526 + Int32.ofInt (1) = v2580 at hv2580 ⊢
              refine WP_goto 2 dX11_begin_27 rfl ?_
              exact WP_sub (fc rfl (fc rfl (fc rfl fn))) (ihlp2_2528 v2580 I2578 J2528 hI2578 (by omega) (by omega) (by omega))
  exact WP_sub (fc rfl (fc rfl (fc rfl fn))) (lp2_2528 _ v2525 I J hI (by omega) (by omega) (Nat.lt_succ_self _))
set_option maxHeartbeats 4000000 in
set_option maxRecDepth 100000 in
theorem sm_begin_39 {g : GG} {n : Int} {L : Int32} (hy : Ly g)  {I : pI} {J : pJ} {R : pR} (hr : Rf g R) (hI : MP g n L I)   (hn : 0 ≤ n) : SP g mX11_begin [.ref (ad g 0), .ref (ad g 39)] I J R (fun r I' J' R' => (MP g n L I' ∧ R' = R) ∧ r = none) := by
  refine SP_of ⟨by decide, rfl⟩ (Nat.le_of_ble_eq_true rfl) ?_
  have e2581 : I (ad g 0) 1 = L := hI.1.2
  have b2582 := BT_get hI.1.1 0 1 2 (0) (0) (900) (by decide) 1 (by decide) (by decide)
  rw [e2581] at b2582
  refine WQ_iconst (0) (0) dX11_begin_0 rfl rfl (fun v2583 hv2583 => ?_)
  refine WP_istore_n (ls' := [(0, _), (1, _), (2, _)]) dX11_begin_1 (by decide) rfl ?_
  have lp2_2586 : ∀ (mz : Nat) (i2584 : Int32) (I2585 : pI) (J2586 : pJ), MP g n L I2585 → 0 ≤ i2584.toInt → i2584.toInt ≤ 35 → (36 - i2584.toInt).toNat < mz → WP g mX11_begin 2 [(0, .ref (ad g 0)), (1, .ref (ad g 39)), (2, .int i2584)] [] I2585 J2586 R (fun r I' J' R' => (MP g n L I' ∧ R' = R) ∧ r = none) := by
    intro mz
    induction mz with
    | zero =>
      intro i2584 I2585 J2586 hI2585 ai2584 bi2584 hmlp2_2586
      exact absurd hmlp2_2586 (Nat.not_lt_zero _)
    | succ mz ihlp2_2586 =>
      intro i2584 I2585 J2586 hI2585 ai2584 bi2584 hmlp2_2586
      have e2588 : I2585 (ad g 0) 1 = L := hI2585.1.2
      have b2589 := BT_get hI2585.1.1 0 1 2 (0) (0) (900) (by decide) 1 (by decide) (by decide)
      rw [e2588] at b2589
      refine WP_iload_n dX11_begin_2 rfl ?_
      refine WQ_bipush (35) (35) dX11_begin_3 rfl rfl (fun v2590 hv2590 => ?_)
      refine WQ_icmp_ge 30 dX11_begin_5 rfl (fun c2590 => ?_) (fun c2590 => ?_)
      · refine WQ_iconst (0) (0) dX11_begin_30 rfl rfl (fun v2592 hv2592 => ?_)
        refine WP_istore_n (ls' := [(0, _), (1, _), (2, _)]) dX11_begin_31 (by decide) rfl ?_
        have lp32_2595 : ∀ (mz : Nat) (i2593 : Int32) (I2594 : pI) (J2595 : pJ), MP g n L I2594 → 0 ≤ i2593.toInt → i2593.toInt ≤ 4 → (5 - i2593.toInt).toNat < mz → WP g mX11_begin 32 [(0, .ref (ad g 0)), (1, .ref (ad g 39)), (2, .int i2593)] [] I2594 J2595 R (fun r I' J' R' => (MP g n L I' ∧ R' = R) ∧ r = none) := by
          intro mz
          induction mz with
          | zero =>
            intro i2593 I2594 J2595 hI2594 ai2593 bi2593 hmlp32_2595
            exact absurd hmlp32_2595 (Nat.not_lt_zero _)
          | succ mz ihlp32_2595 =>
            intro i2593 I2594 J2595 hI2594 ai2593 bi2593 hmlp32_2595
            have e2597 : I2594 (ad g 0) 1 = L := hI2594.1.2
            have b2598 := BT_get hI2594.1.1 0 1 2 (0) (0) (900) (by decide) 1 (by decide) (by decide)
            rw [e2597] at b2598
            refine WP_iload_n dX11_begin_32 rfl ?_
            refine WP_aload_n dX11_begin_33 rfl ?_
            refine WQ_geti dX11_begin_34 fX11_329 rfl (ly_is hy 0 11 rfl) (BT_get hI2594.1.1 0 10 11 (0) (0) (4) (by decide) 10 (by decide) (by decide)) (fun v2599 ev2599 av2599 bv2599 => ?_)
            refine WQ_icmp_ge 57 dX11_begin_37 rfl (fun c2599 => ?_) (fun c2599 => ?_)
            · exact WP_vret dX11_begin_57 rfl ⟨⟨hI2594, rfl⟩, rfl⟩
            · refine WP_aload_n dX11_begin_40 rfl ?_
              refine WQ_iconst (0) (0) dX11_begin_41 rfl rfl (fun v2601 hv2601 => ?_)
              refine WP_iload_n dX11_begin_42 rfl ?_
              refine WQ_iadd dX11_begin_43 (by omega) (by omega) (fun v2602 hv2602 => ?_)
              refine WP_aload_n dX11_begin_44 rfl ?_
              refine WP_getr dX11_begin_45 fX11_241 rfl (ly_is hy 0 11 rfl) (rf hr 0 28 10 (by decide)) ?_
              refine WP_iload_n dX11_begin_48 rfl ?_
              refine WQ_iald dX11_begin_49 (ly_is hy 10 13 rfl) (ly_n hy 10 4 rfl) (by omega) (by omega) (fun q hq => BT_get hI2594.1.1 10 0 4 (0) (0) (60) (by decide) q (Nat.zero_le _) hq) (fun v2603 av2603 bv2603 ev2603 => ?_)
              clear ev2603
              refine WQ_iast dX11_begin_50 (ly_is hy 39 13 rfl) (ly_n hy 39 35 rfl) (by omega) (by omega) (fun I2604 eI2604 => ?_)
              have hI2604 : MP g n L I2604 := by rw [eI2604]; exact (mp_w hy hI2594 (c := 39) (mi_rr hy hI2594.1 (c := 39) (0) (3) (0) (0) (60) (by decide) (Or.inl (by decide)) (by rw [cl (n := v2602.toInt.toNat) (by omega)]; omega) (by decide) (fun _ => ⟨by omega, by omega⟩)) (by decide) (by decide) (Or.inl (by decide)))
              have e2605 : I2604 (ad g 0) 1 = L := by rw [eI2604, pp_ne _ _ (Or.inl (ly_ne hy (by decide) (by decide) (by decide)))]; exact e2597
              have e2606 : I2604 (ad g 0) 10 = v2599 := by rw [eI2604, pp_ne _ _ (Or.inl (ly_ne hy (by decide) (by decide) (by decide)))]; exact ev2599
              clear eI2604
              refine WP_iinc (ls' := [(0, _), (1, _), (2, _)]) dX11_begin_51 rfl (by decide) rfl ?_
              have hv2607 : (i2593 + Int32.ofInt (1)).toInt = i2593.toInt + (1) := ia_n rfl (by omega) (by omega)
              generalize i2593 + Int32.ofInt (1) = v2607 at hv2607 ⊢
              refine WP_goto 32 dX11_begin_54 rfl ?_
              exact WP_sub (fc rfl (fc rfl (fc rfl fn))) (ihlp32_2595 v2607 I2604 J2595 hI2604 (by omega) (by omega) (by omega))
        exact WP_sub (fc rfl (fc rfl (fc rfl fn))) (lp32_2595 _ v2592 I2585 J2586 hI2585 (by omega) (by omega) (Nat.lt_succ_self _))
      · refine WP_iload_n dX11_begin_8 rfl ?_
        refine WQ_bipush (28) (28) dX11_begin_9 rfl rfl (fun v2608 hv2608 => ?_)
        refine WQ_icmp_lt 20 dX11_begin_11 rfl (fun c2608 => ?_) (fun c2608 => ?_)
        · rcases (show (0 ≤ i2584.toInt ∧ i2584.toInt ≤ 3) ∨ (4 ≤ i2584.toInt ∧ i2584.toInt ≤ 7) ∨ (8 ≤ i2584.toInt ∧ i2584.toInt ≤ 31) by omega) with ⟨k2610_0, k2610_1⟩ | ⟨k2610_2, k2610_3⟩ | ⟨k2610_4, k2610_5⟩
          · refine WP_aload_n dX11_begin_20 rfl ?_
            refine WP_iload_n dX11_begin_21 rfl ?_
            refine WQ_iconst (0) (0) dX11_begin_22 rfl rfl (fun v2611 hv2611 => ?_)
            refine WQ_iast dX11_begin_23 (ly_is hy 39 13 rfl) (ly_n hy 39 35 rfl) (by omega) (by omega) (fun I2612 eI2612 => ?_)
            have hI2612 : MP g n L I2612 := by rw [eI2612]; exact (mp_w hy hI2585 (c := 39) (mi_rr hy hI2585.1 (c := 39) (0) (3) (0) (0) (60) (by decide) (Or.inl (by decide)) (by rw [cl (n := i2584.toInt.toNat) (by omega)]; omega) (by decide) (fun _ => ⟨by omega, by omega⟩)) (by decide) (by decide) (Or.inl (by decide)))
            have e2613 : I2612 (ad g 0) 1 = L := by rw [eI2612, pp_ne _ _ (Or.inl (ly_ne hy (by decide) (by decide) (by decide)))]; exact e2588
            clear eI2612
            refine WP_iinc (ls' := [(0, _), (1, _), (2, _)]) dX11_begin_24 rfl (by decide) rfl ?_
            have hv2614 : (i2584 + Int32.ofInt (1)).toInt = i2584.toInt + (1) := ia_n rfl (by omega) (by omega)
            generalize i2584 + Int32.ofInt (1) = v2614 at hv2614 ⊢
            refine WP_goto 2 dX11_begin_27 rfl ?_
            exact WP_sub (fc rfl (fc rfl (fc rfl fn))) (ihlp2_2586 v2614 I2612 J2586 hI2612 (by omega) (by omega) (by omega))
          · refine WP_aload_n dX11_begin_20 rfl ?_
            refine WP_iload_n dX11_begin_21 rfl ?_
            refine WQ_iconst (0) (0) dX11_begin_22 rfl rfl (fun v2615 hv2615 => ?_)
            refine WQ_iast dX11_begin_23 (ly_is hy 39 13 rfl) (ly_n hy 39 35 rfl) (by omega) (by omega) (fun I2616 eI2616 => ?_)
            have hI2616 : MP g n L I2616 := by rw [eI2616]; exact (mp_w hy hI2585 (c := 39) (mi_rr hy hI2585.1 (c := 39) (4) (7) (0) (0) (5) (by decide) (Or.inl (by decide)) (by rw [cl (n := i2584.toInt.toNat) (by omega)]; omega) (by decide) (fun _ => ⟨by omega, by omega⟩)) (by decide) (by decide) (Or.inl (by decide)))
            have e2617 : I2616 (ad g 0) 1 = L := by rw [eI2616, pp_ne _ _ (Or.inl (ly_ne hy (by decide) (by decide) (by decide)))]; exact e2588
            clear eI2616
            refine WP_iinc (ls' := [(0, _), (1, _), (2, _)]) dX11_begin_24 rfl (by decide) rfl ?_
            have hv2618 : (i2584 + Int32.ofInt (1)).toInt = i2584.toInt + (1) := ia_n rfl (by omega) (by omega)
            generalize i2584 + Int32.ofInt (1) = v2618 at hv2618 ⊢
            refine WP_goto 2 dX11_begin_27 rfl ?_
            exact WP_sub (fc rfl (fc rfl (fc rfl fn))) (ihlp2_2586 v2618 I2616 J2586 hI2616 (by omega) (by omega) (by omega))
          · refine WP_aload_n dX11_begin_20 rfl ?_
            refine WP_iload_n dX11_begin_21 rfl ?_
            refine WQ_iconst (0) (0) dX11_begin_22 rfl rfl (fun v2619 hv2619 => ?_)
            refine WQ_iast dX11_begin_23 (ly_is hy 39 13 rfl) (ly_n hy 39 35 rfl) (by omega) (by omega) (fun I2620 eI2620 => ?_)
            have hI2620 : MP g n L I2620 := by rw [eI2620]; exact (mp_w hy hI2585 (c := 39) (mi_rr hy hI2585.1 (c := 39) (8) (27) (0) (0) (0) (by decide) (Or.inl (by decide)) (by rw [cl (n := i2584.toInt.toNat) (by omega)]; omega) (by decide) (fun h => absurd h (by decide))) (by decide) (by decide) (Or.inl (by decide)))
            have e2621 : I2620 (ad g 0) 1 = L := by rw [eI2620, pp_ne _ _ (Or.inl (ly_ne hy (by decide) (by decide) (by decide)))]; exact e2588
            clear eI2620
            refine WP_iinc (ls' := [(0, _), (1, _), (2, _)]) dX11_begin_24 rfl (by decide) rfl ?_
            have hv2622 : (i2584 + Int32.ofInt (1)).toInt = i2584.toInt + (1) := ia_n rfl (by omega) (by omega)
            generalize i2584 + Int32.ofInt (1) = v2622 at hv2622 ⊢
            refine WP_goto 2 dX11_begin_27 rfl ?_
            exact WP_sub (fc rfl (fc rfl (fc rfl fn))) (ihlp2_2586 v2622 I2620 J2586 hI2620 (by omega) (by omega) (by omega))
        · refine WP_iload_n dX11_begin_14 rfl ?_
          refine WQ_bipush (32) (32) dX11_begin_15 rfl rfl (fun v2623 hv2623 => ?_)
          refine WQ_icmp_lt 24 dX11_begin_17 rfl (fun c2623 => ?_) (fun c2623 => ?_)
          · refine WP_iinc (ls' := [(0, _), (1, _), (2, _)]) dX11_begin_24 rfl (by decide) rfl ?_
            have hv2625 : (i2584 + Int32.ofInt (1)).toInt = i2584.toInt + (1) := ia_n rfl (by omega) (by omega)
            generalize i2584 + Int32.ofInt (1) = v2625 at hv2625 ⊢
            refine WP_goto 2 dX11_begin_27 rfl ?_
            exact WP_sub (fc rfl (fc rfl (fc rfl fn))) (ihlp2_2586 v2625 I2585 J2586 hI2585 (by omega) (by omega) (by omega))
          · rcases (show (32 ≤ i2584.toInt ∧ i2584.toInt ≤ 32) ∨ (33 ≤ i2584.toInt ∧ i2584.toInt ≤ 33) ∨ (34 ≤ i2584.toInt ∧ i2584.toInt ≤ 34) by omega) with ⟨k2626_0, k2626_1⟩ | ⟨k2626_2, k2626_3⟩ | ⟨k2626_4, k2626_5⟩
            · refine WP_aload_n dX11_begin_20 rfl ?_
              refine WP_iload_n dX11_begin_21 rfl ?_
              refine WQ_iconst (0) (0) dX11_begin_22 rfl rfl (fun v2627 hv2627 => ?_)
              refine WQ_iast dX11_begin_23 (ly_is hy 39 13 rfl) (ly_n hy 39 35 rfl) (by omega) (by omega) (fun I2628 eI2628 => ?_)
              have hI2628 : MP g n L I2628 := by rw [eI2628]; exact (mp_w hy hI2585 (c := 39) (mi_rr hy hI2585.1 (c := 39) (32) (32) (0) (23760) (700000) (by decide) (Or.inl (by decide)) (by rw [cl (n := i2584.toInt.toNat) (by omega)]; omega) (by decide) (fun _ => ⟨by omega, by omega⟩)) (by decide) (by decide) (Or.inl (by decide)))
              have e2629 : I2628 (ad g 0) 1 = L := by rw [eI2628, pp_ne _ _ (Or.inl (ly_ne hy (by decide) (by decide) (by decide)))]; exact e2588
              clear eI2628
              refine WP_iinc (ls' := [(0, _), (1, _), (2, _)]) dX11_begin_24 rfl (by decide) rfl ?_
              have hv2630 : (i2584 + Int32.ofInt (1)).toInt = i2584.toInt + (1) := ia_n rfl (by omega) (by omega)
              generalize i2584 + Int32.ofInt (1) = v2630 at hv2630 ⊢
              refine WP_goto 2 dX11_begin_27 rfl ?_
              exact WP_sub (fc rfl (fc rfl (fc rfl fn))) (ihlp2_2586 v2630 I2628 J2586 hI2628 (by omega) (by omega) (by omega))
            · refine WP_aload_n dX11_begin_20 rfl ?_
              refine WP_iload_n dX11_begin_21 rfl ?_
              refine WQ_iconst (0) (0) dX11_begin_22 rfl rfl (fun v2631 hv2631 => ?_)
              refine WQ_iast dX11_begin_23 (ly_is hy 39 13 rfl) (ly_n hy 39 35 rfl) (by omega) (by omega) (fun I2632 eI2632 => ?_)
              have hI2632 : MP g n L I2632 := by rw [eI2632]; exact (mp_w hy hI2585 (c := 39) (mi_rr hy hI2585.1 (c := 39) (33) (33) (0) (1) (30) (by decide) (Or.inl (by decide)) (by rw [cl (n := i2584.toInt.toNat) (by omega)]; omega) (by decide) (fun _ => ⟨by omega, by omega⟩)) (by decide) (by decide) (Or.inl (by decide)))
              have e2633 : I2632 (ad g 0) 1 = L := by rw [eI2632, pp_ne _ _ (Or.inl (ly_ne hy (by decide) (by decide) (by decide)))]; exact e2588
              clear eI2632
              refine WP_iinc (ls' := [(0, _), (1, _), (2, _)]) dX11_begin_24 rfl (by decide) rfl ?_
              have hv2634 : (i2584 + Int32.ofInt (1)).toInt = i2584.toInt + (1) := ia_n rfl (by omega) (by omega)
              generalize i2584 + Int32.ofInt (1) = v2634 at hv2634 ⊢
              refine WP_goto 2 dX11_begin_27 rfl ?_
              exact WP_sub (fc rfl (fc rfl (fc rfl fn))) (ihlp2_2586 v2634 I2632 J2586 hI2632 (by omega) (by omega) (by omega))
            · refine WP_aload_n dX11_begin_20 rfl ?_
              refine WP_iload_n dX11_begin_21 rfl ?_
              refine WQ_iconst (0) (0) dX11_begin_22 rfl rfl (fun v2635 hv2635 => ?_)
              refine WQ_iast dX11_begin_23 (ly_is hy 39 13 rfl) (ly_n hy 39 35 rfl) (by omega) (by omega) (fun I2636 eI2636 => ?_)
              have hI2636 : MP g n L I2636 := by rw [eI2636]; exact (mp_w hy hI2585 (c := 39) (mi_rr hy hI2585.1 (c := 39) (34) (34) (0) (0) (0) (by decide) (Or.inl (by decide)) (by rw [cl (n := i2584.toInt.toNat) (by omega)]; omega) (by decide) (fun h => absurd h (by decide))) (by decide) (by decide) (Or.inl (by decide)))
              have e2637 : I2636 (ad g 0) 1 = L := by rw [eI2636, pp_ne _ _ (Or.inl (ly_ne hy (by decide) (by decide) (by decide)))]; exact e2588
              clear eI2636
              refine WP_iinc (ls' := [(0, _), (1, _), (2, _)]) dX11_begin_24 rfl (by decide) rfl ?_
              have hv2638 : (i2584 + Int32.ofInt (1)).toInt = i2584.toInt + (1) := ia_n rfl (by omega) (by omega)
              generalize i2584 + Int32.ofInt (1) = v2638 at hv2638 ⊢
              refine WP_goto 2 dX11_begin_27 rfl ?_
              exact WP_sub (fc rfl (fc rfl (fc rfl fn))) (ihlp2_2586 v2638 I2636 J2586 hI2636 (by omega) (by omega) (by omega))
  exact WP_sub (fc rfl (fc rfl (fc rfl fn))) (lp2_2586 _ v2583 I J hI (by omega) (by omega) (Nat.lt_succ_self _))
set_option maxHeartbeats 4000000 in
set_option maxRecDepth 100000 in
theorem sm_anew {g : GG} {n : Int} {L : Int32} (hy : Ly g)  {I : pI} {J : pJ} {R : pR} (hr : Rf g R) (hI : MP g n L I)   (hn : 0 ≤ n) : SP g mX11_anew [.ref (ad g 0)] I J R (fun r I' J' R' => (MP g n L I' ∧ R' = R) ∧ ∃ v : Int32, r = some (.int v)) := by
  refine SP_of ⟨by decide, rfl⟩ (Nat.le_of_ble_eq_true rfl) ?_
  have e2639 : I (ad g 0) 1 = L := hI.1.2
  have b2640 := BT_get hI.1.1 0 1 2 (0) (0) (900) (by decide) 1 (by decide) (by decide)
  rw [e2639] at b2640
  refine WP_aload_n dX11_anew_0 rfl ?_
  refine WP_getr dX11_anew_1 fX11_283 rfl (ly_is hy 0 11 rfl) (rf hr 0 59 38 (by decide)) ?_
  refine WQ_bipush (33) (33) dX11_anew_4 rfl rfl (fun v2641 hv2641 => ?_)
  refine WQ_ialdr dX11_anew_6 (ly_is hy 38 13 rfl) (ly_n hy 38 35 rfl) (by omega) (by omega) (a := 33) (b := 34) (by omega) (by omega) (fun q hq1 hq2 => BT_get hI.1.1 38 33 34 (0) (1) (0) (by decide) q hq1 hq2) (fun v2642 av2642 bv2642 => ?_)
  refine WP_istore_n (ls' := [(0, _), (1, _)]) dX11_anew_7 (by decide) rfl ?_
  refine WP_aload_n dX11_anew_8 rfl ?_
  refine WP_aload_n dX11_anew_9 rfl ?_
  refine WP_getr dX11_anew_10 fX11_283 rfl (ly_is hy 0 11 rfl) (rf hr 0 59 38 (by decide)) ?_
  refine WP_callV1 (k := 11) dX11_anew_13 ⟨⟨⟨by decide, by decide⟩, zX11_begin⟩, lX11_342, by decide, rfl, vX11_begin.1, vX11_begin.2⟩ (ly_is hy 0 11 rfl) (sm_begin_38 hy hr hI   (by omega)) (Nat.le_of_ble_eq_true rfl) ?_
  intro r I2643 J2644 Ra hq
  obtain ⟨⟨hI2643, ec⟩, rfl⟩ := hq
  rw [ec]
  clear ec Ra
  have e2645 : I2643 (ad g 0) 1 = L := hI2643.1.2
  have b2646 := BT_get hI2643.1.1 0 1 2 (0) (0) (900) (by decide) 1 (by decide) (by decide)
  rw [e2645] at b2646
  refine WP_aload_n dX11_anew_16 rfl ?_
  refine WP_lconst (0) dX11_anew_17 rfl ?_
  obtain ⟨l2647, hl2647, el2647⟩ : ∃ v : Int64, v.toInt = 0 ∧ (0 : Int64) = v := ⟨_, rfl, rfl⟩
  rw [el2647]; clear el2647
  refine WQ_putl dX11_anew_18 fX11_346 rfl rfl (ly_is hy 0 11 rfl) (fun J2648 eJ2648 => ?_)
  clear eJ2648
  refine WP_iload_n dX11_anew_21 rfl ?_
  exact WP_iret dX11_anew_22 rfl ⟨⟨hI2643, rfl⟩, _, rfl⟩
set_option maxHeartbeats 4000000 in
set_option maxRecDepth 100000 in
theorem sm_keep {g : GG} {n : Int} {L : Int32} (hy : Ly g)  {I : pI} {J : pJ} {R : pR} (hr : Rf g R) (hI : MP g n L I) (a : Int32)  : SP g mX11_keep [.ref (ad g 0), .int a] I J R (fun r I' J' R' => (MP g n L I' ∧ R' = R) ∧ ∃ v : Int32, r = some (.int v)) := by
  refine SP_of ⟨by decide, rfl⟩ (Nat.le_of_ble_eq_true rfl) ?_
  have e2649 : I (ad g 0) 1 = L := hI.1.2
  have b2650 := BT_get hI.1.1 0 1 2 (0) (0) (900) (by decide) 1 (by decide) (by decide)
  rw [e2649] at b2650
  refine WP_iload_n dX11_keep_0 rfl ?_
  refine WP_callS1 dX11_keep_1 ⟨⟨⟨by decide, by decide⟩, zX11_isSlot⟩, lX11_494, tX11_isSlot⟩ (sm_isSlot hy hr hI a ) (Nat.le_of_ble_eq_true rfl) ?_
  intro r Ia Ja Ra hq
  obtain ⟨⟨ea, eb, ec⟩, v2651, rfl, av2651, bv2651, cv2651⟩ := hq
  show WP _ _ _ _ (.int _ :: _) _ _ _ _
  rw [ea, eb, ec]
  clear ea eb ec Ia Ja Ra
  refine WQ_if_ne 10 dX11_keep_4 rfl (fun c2651 => ?_) (fun c2651 => ?_)
  · rcases (show (0 ≤ a.toInt ∧ a.toInt ≤ 0) ∨ (1 ≤ a.toInt ∧ a.toInt ≤ 1) ∨ (2 ≤ a.toInt ∧ a.toInt ≤ 2) by omega) with ⟨k2653_0, k2653_1⟩ | ⟨k2653_2, k2653_3⟩ | ⟨k2653_4, k2653_5⟩
    · refine WQ_iconst (0) (0) dX11_keep_10 rfl rfl (fun v2654 hv2654 => ?_)
      refine WP_istore_n (ls' := [(0, _), (1, _), (2, _)]) dX11_keep_11 (by decide) rfl ?_
      have lp12_2657 : ∀ (mz : Nat) (i2655 : Int32) (I2656 : pI) (J2657 : pJ), MP g n L I2656 → 0 ≤ i2655.toInt → i2655.toInt ≤ 35 → (36 - i2655.toInt).toNat < mz → WP g mX11_keep 12 [(0, .ref (ad g 0)), (1, .int a), (2, .int i2655)] [] I2656 J2657 R (fun r I' J' R' => (MP g n L I' ∧ R' = R) ∧ ∃ v : Int32, r = some (.int v)) := by
        intro mz
        induction mz with
        | zero =>
          intro i2655 I2656 J2657 hI2656 ai2655 bi2655 hmlp12_2657
          exact absurd hmlp12_2657 (Nat.not_lt_zero _)
        | succ mz ihlp12_2657 =>
          intro i2655 I2656 J2657 hI2656 ai2655 bi2655 hmlp12_2657
          have e2659 : I2656 (ad g 0) 1 = L := hI2656.1.2
          have b2660 := BT_get hI2656.1.1 0 1 2 (0) (0) (900) (by decide) 1 (by decide) (by decide)
          rw [e2659] at b2660
          refine WP_iload_n dX11_keep_12 rfl ?_
          refine WQ_bipush (35) (35) dX11_keep_13 rfl rfl (fun v2661 hv2661 => ?_)
          refine WQ_icmp_ge 41 dX11_keep_15 rfl (fun c2661 => ?_) (fun c2661 => ?_)
          · refine WP_aload_n dX11_keep_41 rfl ?_
            refine WP_getr dX11_keep_42 fX11_298 rfl (ly_is hy 0 11 rfl) (rf hr 0 66 43 (by decide)) ?_
            refine WP_iload_n dX11_keep_45 rfl ?_
            refine WP_aload_n dX11_keep_46 rfl ?_
            refine WQ_getl dX11_keep_47 fX11_346 rfl (ly_is hy 0 11 rfl) (fun l2663 el2663 => ?_)
            refine WQ_last dX11_keep_50 (ly_is hy 43 14 rfl) (ly_n hy 43 3 rfl) (by omega) (by omega) (fun J2664 eJ2664 => ?_)
            clear eJ2664
            refine WP_aload_n dX11_keep_51 rfl ?_
            refine WP_getr dX11_keep_52 fX11_301 rfl (ly_is hy 0 11 rfl) (rf hr 0 67 44 (by decide)) ?_
            refine WP_iload_n dX11_keep_55 rfl ?_
            refine WQ_iconst (1) (1) dX11_keep_56 rfl rfl (fun v2665 hv2665 => ?_)
            refine WQ_zast dX11_keep_57 (ly_is hy 44 15 rfl) (ly_n hy 44 3 rfl) (by omega) (by omega) (fun I2666 v2667 eI2666 => ?_)
            have hI2666 : MP g n L I2666 := by rw [eI2666]; exact (mp_w hy hI2656 (c := 44) (mi_r0 hy hI2656.1 (c := 44) (by decide) (Or.inl (by decide)) (by decide)) (by decide) (by decide) (Or.inl (by decide)))
            have e2668 : I2666 (ad g 0) 1 = L := by rw [eI2666, pp_ne _ _ (Or.inl (ly_ne hy (by decide) (by decide) (by decide)))]; exact e2659
            clear eI2666
            refine WP_aload_n dX11_keep_58 rfl ?_
            refine WP_getr dX11_keep_59 fX11_283 rfl (ly_is hy 0 11 rfl) (rf hr 0 59 38 (by decide)) ?_
            refine WQ_bipush (33) (33) dX11_keep_62 rfl rfl (fun v2669 hv2669 => ?_)
            refine WQ_ialdr dX11_keep_64 (ly_is hy 38 13 rfl) (ly_n hy 38 35 rfl) (by omega) (by omega) (a := 33) (b := 34) (by omega) (by omega) (fun q hq1 hq2 => BT_get hI2666.1.1 38 33 34 (0) (1) (0) (by decide) q hq1 hq2) (fun v2670 av2670 bv2670 => ?_)
            exact WP_iret dX11_keep_65 rfl ⟨⟨hI2666, rfl⟩, _, rfl⟩
          · rcases (show (0 ≤ i2655.toInt ∧ i2655.toInt ≤ 3) ∨ (4 ≤ i2655.toInt ∧ i2655.toInt ≤ 7) ∨ (8 ≤ i2655.toInt ∧ i2655.toInt ≤ 31) ∨ (32 ≤ i2655.toInt ∧ i2655.toInt ≤ 32) ∨ (33 ≤ i2655.toInt ∧ i2655.toInt ≤ 33) ∨ (34 ≤ i2655.toInt ∧ i2655.toInt ≤ 34) by omega) with ⟨k2671_0, k2671_1⟩ | ⟨k2671_2, k2671_3⟩ | ⟨k2671_4, k2671_5⟩ | ⟨k2671_6, k2671_7⟩ | ⟨k2671_8, k2671_9⟩ | ⟨k2671_10, k2671_11⟩
            · refine WP_aload_n dX11_keep_18 rfl ?_
              refine WP_getr dX11_keep_19 fX11_295 rfl (ly_is hy 0 11 rfl) (rf hr 0 65 42 (by decide)) ?_
              refine WQ_bipush (35) (35) dX11_keep_22 rfl rfl (fun v2672 hv2672 => ?_)
              refine WP_iload_n dX11_keep_24 rfl ?_
              refine WQ_imulK (35) dX11_keep_25 hv2672 (by omega) (by omega) (fun v2673 hv2673 => ?_)
              refine WP_iload_n dX11_keep_26 rfl ?_
              refine WQ_iadd dX11_keep_27 (by omega) (by omega) (fun v2674 hv2674 => ?_)
              refine WP_aload_n dX11_keep_28 rfl ?_
              refine WP_getr dX11_keep_29 fX11_283 rfl (ly_is hy 0 11 rfl) (rf hr 0 59 38 (by decide)) ?_
              refine WP_iload_n dX11_keep_32 rfl ?_
              refine WQ_ialdr dX11_keep_33 (ly_is hy 38 13 rfl) (ly_n hy 38 35 rfl) (by omega) (by omega) (a := 0) (b := 4) (by omega) (by omega) (fun q hq1 hq2 => BT_get hI2656.1.1 38 0 4 (0) (0) (60) (by decide) q hq1 hq2) (fun v2675 av2675 bv2675 => ?_)
              refine WQ_iast dX11_keep_34 (ly_is hy 42 13 rfl) (ly_n hy 42 105 rfl) (by omega) (by omega) (fun I2676 eI2676 => ?_)
              have hI2676 : MP g n L I2676 := by rw [eI2676]; exact (mp_w hy hI2656 (c := 42) (mi_rr hy hI2656.1 (c := 42) (0) (3) (0) (0) (60) (by decide) (Or.inl (by decide)) (by rw [cl (n := v2674.toInt.toNat) (by omega)]; omega) (by decide) (fun _ => ⟨by omega, by omega⟩)) (by decide) (by decide) (Or.inl (by decide)))
              have e2677 : I2676 (ad g 0) 1 = L := by rw [eI2676, pp_ne _ _ (Or.inl (ly_ne hy (by decide) (by decide) (by decide)))]; exact e2659
              clear eI2676
              refine WP_iinc (ls' := [(0, _), (1, _), (2, _)]) dX11_keep_35 rfl (by decide) rfl ?_
              have hv2678 : (i2655 + Int32.ofInt (1)).toInt = i2655.toInt + (1) := ia_n rfl (by omega) (by omega)
              generalize i2655 + Int32.ofInt (1) = v2678 at hv2678 ⊢
              refine WP_goto 12 dX11_keep_38 rfl ?_
              exact WP_sub (fc rfl (fc rfl (fc rfl fn))) (ihlp12_2657 v2678 I2676 J2657 hI2676 (by omega) (by omega) (by omega))
            · refine WP_aload_n dX11_keep_18 rfl ?_
              refine WP_getr dX11_keep_19 fX11_295 rfl (ly_is hy 0 11 rfl) (rf hr 0 65 42 (by decide)) ?_
              refine WQ_bipush (35) (35) dX11_keep_22 rfl rfl (fun v2679 hv2679 => ?_)
              refine WP_iload_n dX11_keep_24 rfl ?_
              refine WQ_imulK (35) dX11_keep_25 hv2679 (by omega) (by omega) (fun v2680 hv2680 => ?_)
              refine WP_iload_n dX11_keep_26 rfl ?_
              refine WQ_iadd dX11_keep_27 (by omega) (by omega) (fun v2681 hv2681 => ?_)
              refine WP_aload_n dX11_keep_28 rfl ?_
              refine WP_getr dX11_keep_29 fX11_283 rfl (ly_is hy 0 11 rfl) (rf hr 0 59 38 (by decide)) ?_
              refine WP_iload_n dX11_keep_32 rfl ?_
              refine WQ_ialdr dX11_keep_33 (ly_is hy 38 13 rfl) (ly_n hy 38 35 rfl) (by omega) (by omega) (a := 4) (b := 8) (by omega) (by omega) (fun q hq1 hq2 => BT_get hI2656.1.1 38 4 8 (0) (0) (5) (by decide) q hq1 hq2) (fun v2682 av2682 bv2682 => ?_)
              refine WQ_iast dX11_keep_34 (ly_is hy 42 13 rfl) (ly_n hy 42 105 rfl) (by omega) (by omega) (fun I2683 eI2683 => ?_)
              have hI2683 : MP g n L I2683 := by rw [eI2683]; exact (mp_w hy hI2656 (c := 42) (mi_rr hy hI2656.1 (c := 42) (4) (7) (0) (0) (5) (by decide) (Or.inl (by decide)) (by rw [cl (n := v2681.toInt.toNat) (by omega)]; omega) (by decide) (fun _ => ⟨by omega, by omega⟩)) (by decide) (by decide) (Or.inl (by decide)))
              have e2684 : I2683 (ad g 0) 1 = L := by rw [eI2683, pp_ne _ _ (Or.inl (ly_ne hy (by decide) (by decide) (by decide)))]; exact e2659
              clear eI2683
              refine WP_iinc (ls' := [(0, _), (1, _), (2, _)]) dX11_keep_35 rfl (by decide) rfl ?_
              have hv2685 : (i2655 + Int32.ofInt (1)).toInt = i2655.toInt + (1) := ia_n rfl (by omega) (by omega)
              generalize i2655 + Int32.ofInt (1) = v2685 at hv2685 ⊢
              refine WP_goto 12 dX11_keep_38 rfl ?_
              exact WP_sub (fc rfl (fc rfl (fc rfl fn))) (ihlp12_2657 v2685 I2683 J2657 hI2683 (by omega) (by omega) (by omega))
            · refine WP_aload_n dX11_keep_18 rfl ?_
              refine WP_getr dX11_keep_19 fX11_295 rfl (ly_is hy 0 11 rfl) (rf hr 0 65 42 (by decide)) ?_
              refine WQ_bipush (35) (35) dX11_keep_22 rfl rfl (fun v2686 hv2686 => ?_)
              refine WP_iload_n dX11_keep_24 rfl ?_
              refine WQ_imulK (35) dX11_keep_25 hv2686 (by omega) (by omega) (fun v2687 hv2687 => ?_)
              refine WP_iload_n dX11_keep_26 rfl ?_
              refine WQ_iadd dX11_keep_27 (by omega) (by omega) (fun v2688 hv2688 => ?_)
              refine WP_aload_n dX11_keep_28 rfl ?_
              refine WP_getr dX11_keep_29 fX11_283 rfl (ly_is hy 0 11 rfl) (rf hr 0 59 38 (by decide)) ?_
              refine WP_iload_n dX11_keep_32 rfl ?_
              refine WQ_ialdu dX11_keep_33 (ly_is hy 38 13 rfl) (ly_n hy 38 35 rfl) (by omega) (by omega) (fun v2689 => ?_)
              refine WQ_iast dX11_keep_34 (ly_is hy 42 13 rfl) (ly_n hy 42 105 rfl) (by omega) (by omega) (fun I2690 eI2690 => ?_)
              have hI2690 : MP g n L I2690 := by rw [eI2690]; exact (mp_w hy hI2656 (c := 42) (mi_rr hy hI2656.1 (c := 42) (8) (31) (0) (0) (0) (by decide) (Or.inl (by decide)) (by rw [cl (n := v2688.toInt.toNat) (by omega)]; omega) (by decide) (fun h => absurd h (by decide))) (by decide) (by decide) (Or.inl (by decide)))
              have e2691 : I2690 (ad g 0) 1 = L := by rw [eI2690, pp_ne _ _ (Or.inl (ly_ne hy (by decide) (by decide) (by decide)))]; exact e2659
              clear eI2690
              refine WP_iinc (ls' := [(0, _), (1, _), (2, _)]) dX11_keep_35 rfl (by decide) rfl ?_
              have hv2692 : (i2655 + Int32.ofInt (1)).toInt = i2655.toInt + (1) := ia_n rfl (by omega) (by omega)
              generalize i2655 + Int32.ofInt (1) = v2692 at hv2692 ⊢
              refine WP_goto 12 dX11_keep_38 rfl ?_
              exact WP_sub (fc rfl (fc rfl (fc rfl fn))) (ihlp12_2657 v2692 I2690 J2657 hI2690 (by omega) (by omega) (by omega))
            · refine WP_aload_n dX11_keep_18 rfl ?_
              refine WP_getr dX11_keep_19 fX11_295 rfl (ly_is hy 0 11 rfl) (rf hr 0 65 42 (by decide)) ?_
              refine WQ_bipush (35) (35) dX11_keep_22 rfl rfl (fun v2693 hv2693 => ?_)
              refine WP_iload_n dX11_keep_24 rfl ?_
              refine WQ_imulK (35) dX11_keep_25 hv2693 (by omega) (by omega) (fun v2694 hv2694 => ?_)
              refine WP_iload_n dX11_keep_26 rfl ?_
              refine WQ_iadd dX11_keep_27 (by omega) (by omega) (fun v2695 hv2695 => ?_)
              refine WP_aload_n dX11_keep_28 rfl ?_
              refine WP_getr dX11_keep_29 fX11_283 rfl (ly_is hy 0 11 rfl) (rf hr 0 59 38 (by decide)) ?_
              refine WP_iload_n dX11_keep_32 rfl ?_
              refine WQ_ialdr dX11_keep_33 (ly_is hy 38 13 rfl) (ly_n hy 38 35 rfl) (by omega) (by omega) (a := 32) (b := 33) (by omega) (by omega) (fun q hq1 hq2 => BT_get hI2656.1.1 38 32 33 (0) (23760) (0) (by decide) q hq1 hq2) (fun v2696 av2696 bv2696 => ?_)
              refine WQ_iast dX11_keep_34 (ly_is hy 42 13 rfl) (ly_n hy 42 105 rfl) (by omega) (by omega) (fun I2697 eI2697 => ?_)
              have hI2697 : MP g n L I2697 := by rw [eI2697]; exact (mp_w hy hI2656 (c := 42) (mi_rr hy hI2656.1 (c := 42) (32) (32) (0) (23760) (0) (by decide) (Or.inl (by decide)) (by rw [cl (n := v2695.toInt.toNat) (by omega)]; omega) (by decide) (fun _ => ⟨by omega, by omega⟩)) (by decide) (by decide) (Or.inl (by decide)))
              have e2698 : I2697 (ad g 0) 1 = L := by rw [eI2697, pp_ne _ _ (Or.inl (ly_ne hy (by decide) (by decide) (by decide)))]; exact e2659
              clear eI2697
              refine WP_iinc (ls' := [(0, _), (1, _), (2, _)]) dX11_keep_35 rfl (by decide) rfl ?_
              have hv2699 : (i2655 + Int32.ofInt (1)).toInt = i2655.toInt + (1) := ia_n rfl (by omega) (by omega)
              generalize i2655 + Int32.ofInt (1) = v2699 at hv2699 ⊢
              refine WP_goto 12 dX11_keep_38 rfl ?_
              exact WP_sub (fc rfl (fc rfl (fc rfl fn))) (ihlp12_2657 v2699 I2697 J2657 hI2697 (by omega) (by omega) (by omega))
            · refine WP_aload_n dX11_keep_18 rfl ?_
              refine WP_getr dX11_keep_19 fX11_295 rfl (ly_is hy 0 11 rfl) (rf hr 0 65 42 (by decide)) ?_
              refine WQ_bipush (35) (35) dX11_keep_22 rfl rfl (fun v2700 hv2700 => ?_)
              refine WP_iload_n dX11_keep_24 rfl ?_
              refine WQ_imulK (35) dX11_keep_25 hv2700 (by omega) (by omega) (fun v2701 hv2701 => ?_)
              refine WP_iload_n dX11_keep_26 rfl ?_
              refine WQ_iadd dX11_keep_27 (by omega) (by omega) (fun v2702 hv2702 => ?_)
              refine WP_aload_n dX11_keep_28 rfl ?_
              refine WP_getr dX11_keep_29 fX11_283 rfl (ly_is hy 0 11 rfl) (rf hr 0 59 38 (by decide)) ?_
              refine WP_iload_n dX11_keep_32 rfl ?_
              refine WQ_ialdr dX11_keep_33 (ly_is hy 38 13 rfl) (ly_n hy 38 35 rfl) (by omega) (by omega) (a := 33) (b := 34) (by omega) (by omega) (fun q hq1 hq2 => BT_get hI2656.1.1 38 33 34 (0) (1) (0) (by decide) q hq1 hq2) (fun v2703 av2703 bv2703 => ?_)
              refine WQ_iast dX11_keep_34 (ly_is hy 42 13 rfl) (ly_n hy 42 105 rfl) (by omega) (by omega) (fun I2704 eI2704 => ?_)
              have hI2704 : MP g n L I2704 := by rw [eI2704]; exact (mp_w hy hI2656 (c := 42) (mi_rr hy hI2656.1 (c := 42) (33) (33) (0) (1) (0) (by decide) (Or.inl (by decide)) (by rw [cl (n := v2702.toInt.toNat) (by omega)]; omega) (by decide) (fun _ => ⟨by omega, by omega⟩)) (by decide) (by decide) (Or.inl (by decide)))
              have e2705 : I2704 (ad g 0) 1 = L := by rw [eI2704, pp_ne _ _ (Or.inl (ly_ne hy (by decide) (by decide) (by decide)))]; exact e2659
              clear eI2704
              refine WP_iinc (ls' := [(0, _), (1, _), (2, _)]) dX11_keep_35 rfl (by decide) rfl ?_
              have hv2706 : (i2655 + Int32.ofInt (1)).toInt = i2655.toInt + (1) := ia_n rfl (by omega) (by omega)
              generalize i2655 + Int32.ofInt (1) = v2706 at hv2706 ⊢
              refine WP_goto 12 dX11_keep_38 rfl ?_
              exact WP_sub (fc rfl (fc rfl (fc rfl fn))) (ihlp12_2657 v2706 I2704 J2657 hI2704 (by omega) (by omega) (by omega))
            · refine WP_aload_n dX11_keep_18 rfl ?_
              refine WP_getr dX11_keep_19 fX11_295 rfl (ly_is hy 0 11 rfl) (rf hr 0 65 42 (by decide)) ?_
              refine WQ_bipush (35) (35) dX11_keep_22 rfl rfl (fun v2707 hv2707 => ?_)
              refine WP_iload_n dX11_keep_24 rfl ?_
              refine WQ_imulK (35) dX11_keep_25 hv2707 (by omega) (by omega) (fun v2708 hv2708 => ?_)
              refine WP_iload_n dX11_keep_26 rfl ?_
              refine WQ_iadd dX11_keep_27 (by omega) (by omega) (fun v2709 hv2709 => ?_)
              refine WP_aload_n dX11_keep_28 rfl ?_
              refine WP_getr dX11_keep_29 fX11_283 rfl (ly_is hy 0 11 rfl) (rf hr 0 59 38 (by decide)) ?_
              refine WP_iload_n dX11_keep_32 rfl ?_
              refine WQ_ialdu dX11_keep_33 (ly_is hy 38 13 rfl) (ly_n hy 38 35 rfl) (by omega) (by omega) (fun v2710 => ?_)
              refine WQ_iast dX11_keep_34 (ly_is hy 42 13 rfl) (ly_n hy 42 105 rfl) (by omega) (by omega) (fun I2711 eI2711 => ?_)
              have hI2711 : MP g n L I2711 := by rw [eI2711]; exact (mp_w hy hI2656 (c := 42) (mi_rr hy hI2656.1 (c := 42) (34) (34) (0) (0) (0) (by decide) (Or.inl (by decide)) (by rw [cl (n := v2709.toInt.toNat) (by omega)]; omega) (by decide) (fun h => absurd h (by decide))) (by decide) (by decide) (Or.inl (by decide)))
              have e2712 : I2711 (ad g 0) 1 = L := by rw [eI2711, pp_ne _ _ (Or.inl (ly_ne hy (by decide) (by decide) (by decide)))]; exact e2659
              clear eI2711
              refine WP_iinc (ls' := [(0, _), (1, _), (2, _)]) dX11_keep_35 rfl (by decide) rfl ?_
              have hv2713 : (i2655 + Int32.ofInt (1)).toInt = i2655.toInt + (1) := ia_n rfl (by omega) (by omega)
              generalize i2655 + Int32.ofInt (1) = v2713 at hv2713 ⊢
              refine WP_goto 12 dX11_keep_38 rfl ?_
              exact WP_sub (fc rfl (fc rfl (fc rfl fn))) (ihlp12_2657 v2713 I2711 J2657 hI2711 (by omega) (by omega) (by omega))
      exact WP_sub (fc rfl (fc rfl (fc rfl fn))) (lp12_2657 _ v2654 I J hI (by omega) (by omega) (Nat.lt_succ_self _))
    · refine WQ_iconst (0) (0) dX11_keep_10 rfl rfl (fun v2714 hv2714 => ?_)
      refine WP_istore_n (ls' := [(0, _), (1, _), (2, _)]) dX11_keep_11 (by decide) rfl ?_
      have lp12_2717 : ∀ (mz : Nat) (i2715 : Int32) (I2716 : pI) (J2717 : pJ), MP g n L I2716 → 0 ≤ i2715.toInt → i2715.toInt ≤ 35 → (36 - i2715.toInt).toNat < mz → WP g mX11_keep 12 [(0, .ref (ad g 0)), (1, .int a), (2, .int i2715)] [] I2716 J2717 R (fun r I' J' R' => (MP g n L I' ∧ R' = R) ∧ ∃ v : Int32, r = some (.int v)) := by
        intro mz
        induction mz with
        | zero =>
          intro i2715 I2716 J2717 hI2716 ai2715 bi2715 hmlp12_2717
          exact absurd hmlp12_2717 (Nat.not_lt_zero _)
        | succ mz ihlp12_2717 =>
          intro i2715 I2716 J2717 hI2716 ai2715 bi2715 hmlp12_2717
          have e2719 : I2716 (ad g 0) 1 = L := hI2716.1.2
          have b2720 := BT_get hI2716.1.1 0 1 2 (0) (0) (900) (by decide) 1 (by decide) (by decide)
          rw [e2719] at b2720
          refine WP_iload_n dX11_keep_12 rfl ?_
          refine WQ_bipush (35) (35) dX11_keep_13 rfl rfl (fun v2721 hv2721 => ?_)
          refine WQ_icmp_ge 41 dX11_keep_15 rfl (fun c2721 => ?_) (fun c2721 => ?_)
          · refine WP_aload_n dX11_keep_41 rfl ?_
            refine WP_getr dX11_keep_42 fX11_298 rfl (ly_is hy 0 11 rfl) (rf hr 0 66 43 (by decide)) ?_
            refine WP_iload_n dX11_keep_45 rfl ?_
            refine WP_aload_n dX11_keep_46 rfl ?_
            refine WQ_getl dX11_keep_47 fX11_346 rfl (ly_is hy 0 11 rfl) (fun l2723 el2723 => ?_)
            refine WQ_last dX11_keep_50 (ly_is hy 43 14 rfl) (ly_n hy 43 3 rfl) (by omega) (by omega) (fun J2724 eJ2724 => ?_)
            clear eJ2724
            refine WP_aload_n dX11_keep_51 rfl ?_
            refine WP_getr dX11_keep_52 fX11_301 rfl (ly_is hy 0 11 rfl) (rf hr 0 67 44 (by decide)) ?_
            refine WP_iload_n dX11_keep_55 rfl ?_
            refine WQ_iconst (1) (1) dX11_keep_56 rfl rfl (fun v2725 hv2725 => ?_)
            refine WQ_zast dX11_keep_57 (ly_is hy 44 15 rfl) (ly_n hy 44 3 rfl) (by omega) (by omega) (fun I2726 v2727 eI2726 => ?_)
            have hI2726 : MP g n L I2726 := by rw [eI2726]; exact (mp_w hy hI2716 (c := 44) (mi_r0 hy hI2716.1 (c := 44) (by decide) (Or.inl (by decide)) (by decide)) (by decide) (by decide) (Or.inl (by decide)))
            have e2728 : I2726 (ad g 0) 1 = L := by rw [eI2726, pp_ne _ _ (Or.inl (ly_ne hy (by decide) (by decide) (by decide)))]; exact e2719
            clear eI2726
            refine WP_aload_n dX11_keep_58 rfl ?_
            refine WP_getr dX11_keep_59 fX11_283 rfl (ly_is hy 0 11 rfl) (rf hr 0 59 38 (by decide)) ?_
            refine WQ_bipush (33) (33) dX11_keep_62 rfl rfl (fun v2729 hv2729 => ?_)
            refine WQ_ialdr dX11_keep_64 (ly_is hy 38 13 rfl) (ly_n hy 38 35 rfl) (by omega) (by omega) (a := 33) (b := 34) (by omega) (by omega) (fun q hq1 hq2 => BT_get hI2726.1.1 38 33 34 (0) (1) (0) (by decide) q hq1 hq2) (fun v2730 av2730 bv2730 => ?_)
            exact WP_iret dX11_keep_65 rfl ⟨⟨hI2726, rfl⟩, _, rfl⟩
          · rcases (show (0 ≤ i2715.toInt ∧ i2715.toInt ≤ 3) ∨ (4 ≤ i2715.toInt ∧ i2715.toInt ≤ 7) ∨ (8 ≤ i2715.toInt ∧ i2715.toInt ≤ 31) ∨ (32 ≤ i2715.toInt ∧ i2715.toInt ≤ 32) ∨ (33 ≤ i2715.toInt ∧ i2715.toInt ≤ 33) ∨ (34 ≤ i2715.toInt ∧ i2715.toInt ≤ 34) by omega) with ⟨k2731_0, k2731_1⟩ | ⟨k2731_2, k2731_3⟩ | ⟨k2731_4, k2731_5⟩ | ⟨k2731_6, k2731_7⟩ | ⟨k2731_8, k2731_9⟩ | ⟨k2731_10, k2731_11⟩
            · refine WP_aload_n dX11_keep_18 rfl ?_
              refine WP_getr dX11_keep_19 fX11_295 rfl (ly_is hy 0 11 rfl) (rf hr 0 65 42 (by decide)) ?_
              refine WQ_bipush (35) (35) dX11_keep_22 rfl rfl (fun v2732 hv2732 => ?_)
              refine WP_iload_n dX11_keep_24 rfl ?_
              refine WQ_imulK (35) dX11_keep_25 hv2732 (by omega) (by omega) (fun v2733 hv2733 => ?_)
              refine WP_iload_n dX11_keep_26 rfl ?_
              refine WQ_iadd dX11_keep_27 (by omega) (by omega) (fun v2734 hv2734 => ?_)
              refine WP_aload_n dX11_keep_28 rfl ?_
              refine WP_getr dX11_keep_29 fX11_283 rfl (ly_is hy 0 11 rfl) (rf hr 0 59 38 (by decide)) ?_
              refine WP_iload_n dX11_keep_32 rfl ?_
              refine WQ_ialdr dX11_keep_33 (ly_is hy 38 13 rfl) (ly_n hy 38 35 rfl) (by omega) (by omega) (a := 0) (b := 4) (by omega) (by omega) (fun q hq1 hq2 => BT_get hI2716.1.1 38 0 4 (0) (0) (60) (by decide) q hq1 hq2) (fun v2735 av2735 bv2735 => ?_)
              refine WQ_iast dX11_keep_34 (ly_is hy 42 13 rfl) (ly_n hy 42 105 rfl) (by omega) (by omega) (fun I2736 eI2736 => ?_)
              have hI2736 : MP g n L I2736 := by rw [eI2736]; exact (mp_w hy hI2716 (c := 42) (mi_rr hy hI2716.1 (c := 42) (35) (38) (0) (0) (60) (by decide) (Or.inl (by decide)) (by rw [cl (n := v2734.toInt.toNat) (by omega)]; omega) (by decide) (fun _ => ⟨by omega, by omega⟩)) (by decide) (by decide) (Or.inl (by decide)))
              have e2737 : I2736 (ad g 0) 1 = L := by rw [eI2736, pp_ne _ _ (Or.inl (ly_ne hy (by decide) (by decide) (by decide)))]; exact e2719
              clear eI2736
              refine WP_iinc (ls' := [(0, _), (1, _), (2, _)]) dX11_keep_35 rfl (by decide) rfl ?_
              have hv2738 : (i2715 + Int32.ofInt (1)).toInt = i2715.toInt + (1) := ia_n rfl (by omega) (by omega)
              generalize i2715 + Int32.ofInt (1) = v2738 at hv2738 ⊢
              refine WP_goto 12 dX11_keep_38 rfl ?_
              exact WP_sub (fc rfl (fc rfl (fc rfl fn))) (ihlp12_2717 v2738 I2736 J2717 hI2736 (by omega) (by omega) (by omega))
            · refine WP_aload_n dX11_keep_18 rfl ?_
              refine WP_getr dX11_keep_19 fX11_295 rfl (ly_is hy 0 11 rfl) (rf hr 0 65 42 (by decide)) ?_
              refine WQ_bipush (35) (35) dX11_keep_22 rfl rfl (fun v2739 hv2739 => ?_)
              refine WP_iload_n dX11_keep_24 rfl ?_
              refine WQ_imulK (35) dX11_keep_25 hv2739 (by omega) (by omega) (fun v2740 hv2740 => ?_)
              refine WP_iload_n dX11_keep_26 rfl ?_
              refine WQ_iadd dX11_keep_27 (by omega) (by omega) (fun v2741 hv2741 => ?_)
              refine WP_aload_n dX11_keep_28 rfl ?_
              refine WP_getr dX11_keep_29 fX11_283 rfl (ly_is hy 0 11 rfl) (rf hr 0 59 38 (by decide)) ?_
              refine WP_iload_n dX11_keep_32 rfl ?_
              refine WQ_ialdr dX11_keep_33 (ly_is hy 38 13 rfl) (ly_n hy 38 35 rfl) (by omega) (by omega) (a := 4) (b := 8) (by omega) (by omega) (fun q hq1 hq2 => BT_get hI2716.1.1 38 4 8 (0) (0) (5) (by decide) q hq1 hq2) (fun v2742 av2742 bv2742 => ?_)
              refine WQ_iast dX11_keep_34 (ly_is hy 42 13 rfl) (ly_n hy 42 105 rfl) (by omega) (by omega) (fun I2743 eI2743 => ?_)
              have hI2743 : MP g n L I2743 := by rw [eI2743]; exact (mp_w hy hI2716 (c := 42) (mi_rr hy hI2716.1 (c := 42) (39) (42) (0) (0) (5) (by decide) (Or.inl (by decide)) (by rw [cl (n := v2741.toInt.toNat) (by omega)]; omega) (by decide) (fun _ => ⟨by omega, by omega⟩)) (by decide) (by decide) (Or.inl (by decide)))
              have e2744 : I2743 (ad g 0) 1 = L := by rw [eI2743, pp_ne _ _ (Or.inl (ly_ne hy (by decide) (by decide) (by decide)))]; exact e2719
              clear eI2743
              refine WP_iinc (ls' := [(0, _), (1, _), (2, _)]) dX11_keep_35 rfl (by decide) rfl ?_
              have hv2745 : (i2715 + Int32.ofInt (1)).toInt = i2715.toInt + (1) := ia_n rfl (by omega) (by omega)
              generalize i2715 + Int32.ofInt (1) = v2745 at hv2745 ⊢
              refine WP_goto 12 dX11_keep_38 rfl ?_
              exact WP_sub (fc rfl (fc rfl (fc rfl fn))) (ihlp12_2717 v2745 I2743 J2717 hI2743 (by omega) (by omega) (by omega))
            · refine WP_aload_n dX11_keep_18 rfl ?_
              refine WP_getr dX11_keep_19 fX11_295 rfl (ly_is hy 0 11 rfl) (rf hr 0 65 42 (by decide)) ?_
              refine WQ_bipush (35) (35) dX11_keep_22 rfl rfl (fun v2746 hv2746 => ?_)
              refine WP_iload_n dX11_keep_24 rfl ?_
              refine WQ_imulK (35) dX11_keep_25 hv2746 (by omega) (by omega) (fun v2747 hv2747 => ?_)
              refine WP_iload_n dX11_keep_26 rfl ?_
              refine WQ_iadd dX11_keep_27 (by omega) (by omega) (fun v2748 hv2748 => ?_)
              refine WP_aload_n dX11_keep_28 rfl ?_
              refine WP_getr dX11_keep_29 fX11_283 rfl (ly_is hy 0 11 rfl) (rf hr 0 59 38 (by decide)) ?_
              refine WP_iload_n dX11_keep_32 rfl ?_
              refine WQ_ialdu dX11_keep_33 (ly_is hy 38 13 rfl) (ly_n hy 38 35 rfl) (by omega) (by omega) (fun v2749 => ?_)
              refine WQ_iast dX11_keep_34 (ly_is hy 42 13 rfl) (ly_n hy 42 105 rfl) (by omega) (by omega) (fun I2750 eI2750 => ?_)
              have hI2750 : MP g n L I2750 := by rw [eI2750]; exact (mp_w hy hI2716 (c := 42) (mi_rr hy hI2716.1 (c := 42) (43) (66) (0) (0) (0) (by decide) (Or.inl (by decide)) (by rw [cl (n := v2748.toInt.toNat) (by omega)]; omega) (by decide) (fun h => absurd h (by decide))) (by decide) (by decide) (Or.inl (by decide)))
              have e2751 : I2750 (ad g 0) 1 = L := by rw [eI2750, pp_ne _ _ (Or.inl (ly_ne hy (by decide) (by decide) (by decide)))]; exact e2719
              clear eI2750
              refine WP_iinc (ls' := [(0, _), (1, _), (2, _)]) dX11_keep_35 rfl (by decide) rfl ?_
              have hv2752 : (i2715 + Int32.ofInt (1)).toInt = i2715.toInt + (1) := ia_n rfl (by omega) (by omega)
              generalize i2715 + Int32.ofInt (1) = v2752 at hv2752 ⊢
              refine WP_goto 12 dX11_keep_38 rfl ?_
              exact WP_sub (fc rfl (fc rfl (fc rfl fn))) (ihlp12_2717 v2752 I2750 J2717 hI2750 (by omega) (by omega) (by omega))
            · refine WP_aload_n dX11_keep_18 rfl ?_
              refine WP_getr dX11_keep_19 fX11_295 rfl (ly_is hy 0 11 rfl) (rf hr 0 65 42 (by decide)) ?_
              refine WQ_bipush (35) (35) dX11_keep_22 rfl rfl (fun v2753 hv2753 => ?_)
              refine WP_iload_n dX11_keep_24 rfl ?_
              refine WQ_imulK (35) dX11_keep_25 hv2753 (by omega) (by omega) (fun v2754 hv2754 => ?_)
              refine WP_iload_n dX11_keep_26 rfl ?_
              refine WQ_iadd dX11_keep_27 (by omega) (by omega) (fun v2755 hv2755 => ?_)
              refine WP_aload_n dX11_keep_28 rfl ?_
              refine WP_getr dX11_keep_29 fX11_283 rfl (ly_is hy 0 11 rfl) (rf hr 0 59 38 (by decide)) ?_
              refine WP_iload_n dX11_keep_32 rfl ?_
              refine WQ_ialdr dX11_keep_33 (ly_is hy 38 13 rfl) (ly_n hy 38 35 rfl) (by omega) (by omega) (a := 32) (b := 33) (by omega) (by omega) (fun q hq1 hq2 => BT_get hI2716.1.1 38 32 33 (0) (23760) (0) (by decide) q hq1 hq2) (fun v2756 av2756 bv2756 => ?_)
              refine WQ_iast dX11_keep_34 (ly_is hy 42 13 rfl) (ly_n hy 42 105 rfl) (by omega) (by omega) (fun I2757 eI2757 => ?_)
              have hI2757 : MP g n L I2757 := by rw [eI2757]; exact (mp_w hy hI2716 (c := 42) (mi_rr hy hI2716.1 (c := 42) (67) (67) (0) (23760) (0) (by decide) (Or.inl (by decide)) (by rw [cl (n := v2755.toInt.toNat) (by omega)]; omega) (by decide) (fun _ => ⟨by omega, by omega⟩)) (by decide) (by decide) (Or.inl (by decide)))
              have e2758 : I2757 (ad g 0) 1 = L := by rw [eI2757, pp_ne _ _ (Or.inl (ly_ne hy (by decide) (by decide) (by decide)))]; exact e2719
              clear eI2757
              refine WP_iinc (ls' := [(0, _), (1, _), (2, _)]) dX11_keep_35 rfl (by decide) rfl ?_
              have hv2759 : (i2715 + Int32.ofInt (1)).toInt = i2715.toInt + (1) := ia_n rfl (by omega) (by omega)
              generalize i2715 + Int32.ofInt (1) = v2759 at hv2759 ⊢
              refine WP_goto 12 dX11_keep_38 rfl ?_
              exact WP_sub (fc rfl (fc rfl (fc rfl fn))) (ihlp12_2717 v2759 I2757 J2717 hI2757 (by omega) (by omega) (by omega))
            · refine WP_aload_n dX11_keep_18 rfl ?_
              refine WP_getr dX11_keep_19 fX11_295 rfl (ly_is hy 0 11 rfl) (rf hr 0 65 42 (by decide)) ?_
              refine WQ_bipush (35) (35) dX11_keep_22 rfl rfl (fun v2760 hv2760 => ?_)
              refine WP_iload_n dX11_keep_24 rfl ?_
              refine WQ_imulK (35) dX11_keep_25 hv2760 (by omega) (by omega) (fun v2761 hv2761 => ?_)
              refine WP_iload_n dX11_keep_26 rfl ?_
              refine WQ_iadd dX11_keep_27 (by omega) (by omega) (fun v2762 hv2762 => ?_)
              refine WP_aload_n dX11_keep_28 rfl ?_
              refine WP_getr dX11_keep_29 fX11_283 rfl (ly_is hy 0 11 rfl) (rf hr 0 59 38 (by decide)) ?_
              refine WP_iload_n dX11_keep_32 rfl ?_
              refine WQ_ialdr dX11_keep_33 (ly_is hy 38 13 rfl) (ly_n hy 38 35 rfl) (by omega) (by omega) (a := 33) (b := 34) (by omega) (by omega) (fun q hq1 hq2 => BT_get hI2716.1.1 38 33 34 (0) (1) (0) (by decide) q hq1 hq2) (fun v2763 av2763 bv2763 => ?_)
              refine WQ_iast dX11_keep_34 (ly_is hy 42 13 rfl) (ly_n hy 42 105 rfl) (by omega) (by omega) (fun I2764 eI2764 => ?_)
              have hI2764 : MP g n L I2764 := by rw [eI2764]; exact (mp_w hy hI2716 (c := 42) (mi_rr hy hI2716.1 (c := 42) (68) (68) (0) (1) (0) (by decide) (Or.inl (by decide)) (by rw [cl (n := v2762.toInt.toNat) (by omega)]; omega) (by decide) (fun _ => ⟨by omega, by omega⟩)) (by decide) (by decide) (Or.inl (by decide)))
              have e2765 : I2764 (ad g 0) 1 = L := by rw [eI2764, pp_ne _ _ (Or.inl (ly_ne hy (by decide) (by decide) (by decide)))]; exact e2719
              clear eI2764
              refine WP_iinc (ls' := [(0, _), (1, _), (2, _)]) dX11_keep_35 rfl (by decide) rfl ?_
              have hv2766 : (i2715 + Int32.ofInt (1)).toInt = i2715.toInt + (1) := ia_n rfl (by omega) (by omega)
              generalize i2715 + Int32.ofInt (1) = v2766 at hv2766 ⊢
              refine WP_goto 12 dX11_keep_38 rfl ?_
              exact WP_sub (fc rfl (fc rfl (fc rfl fn))) (ihlp12_2717 v2766 I2764 J2717 hI2764 (by omega) (by omega) (by omega))
            · refine WP_aload_n dX11_keep_18 rfl ?_
              refine WP_getr dX11_keep_19 fX11_295 rfl (ly_is hy 0 11 rfl) (rf hr 0 65 42 (by decide)) ?_
              refine WQ_bipush (35) (35) dX11_keep_22 rfl rfl (fun v2767 hv2767 => ?_)
              refine WP_iload_n dX11_keep_24 rfl ?_
              refine WQ_imulK (35) dX11_keep_25 hv2767 (by omega) (by omega) (fun v2768 hv2768 => ?_)
              refine WP_iload_n dX11_keep_26 rfl ?_
              refine WQ_iadd dX11_keep_27 (by omega) (by omega) (fun v2769 hv2769 => ?_)
              refine WP_aload_n dX11_keep_28 rfl ?_
              refine WP_getr dX11_keep_29 fX11_283 rfl (ly_is hy 0 11 rfl) (rf hr 0 59 38 (by decide)) ?_
              refine WP_iload_n dX11_keep_32 rfl ?_
              refine WQ_ialdu dX11_keep_33 (ly_is hy 38 13 rfl) (ly_n hy 38 35 rfl) (by omega) (by omega) (fun v2770 => ?_)
              refine WQ_iast dX11_keep_34 (ly_is hy 42 13 rfl) (ly_n hy 42 105 rfl) (by omega) (by omega) (fun I2771 eI2771 => ?_)
              have hI2771 : MP g n L I2771 := by rw [eI2771]; exact (mp_w hy hI2716 (c := 42) (mi_rr hy hI2716.1 (c := 42) (69) (69) (0) (0) (0) (by decide) (Or.inl (by decide)) (by rw [cl (n := v2769.toInt.toNat) (by omega)]; omega) (by decide) (fun h => absurd h (by decide))) (by decide) (by decide) (Or.inl (by decide)))
              have e2772 : I2771 (ad g 0) 1 = L := by rw [eI2771, pp_ne _ _ (Or.inl (ly_ne hy (by decide) (by decide) (by decide)))]; exact e2719
              clear eI2771
              refine WP_iinc (ls' := [(0, _), (1, _), (2, _)]) dX11_keep_35 rfl (by decide) rfl ?_
              have hv2773 : (i2715 + Int32.ofInt (1)).toInt = i2715.toInt + (1) := ia_n rfl (by omega) (by omega)
              generalize i2715 + Int32.ofInt (1) = v2773 at hv2773 ⊢
              refine WP_goto 12 dX11_keep_38 rfl ?_
              exact WP_sub (fc rfl (fc rfl (fc rfl fn))) (ihlp12_2717 v2773 I2771 J2717 hI2771 (by omega) (by omega) (by omega))
      exact WP_sub (fc rfl (fc rfl (fc rfl fn))) (lp12_2717 _ v2714 I J hI (by omega) (by omega) (Nat.lt_succ_self _))
    · refine WQ_iconst (0) (0) dX11_keep_10 rfl rfl (fun v2774 hv2774 => ?_)
      refine WP_istore_n (ls' := [(0, _), (1, _), (2, _)]) dX11_keep_11 (by decide) rfl ?_
      have lp12_2777 : ∀ (mz : Nat) (i2775 : Int32) (I2776 : pI) (J2777 : pJ), MP g n L I2776 → 0 ≤ i2775.toInt → i2775.toInt ≤ 35 → (36 - i2775.toInt).toNat < mz → WP g mX11_keep 12 [(0, .ref (ad g 0)), (1, .int a), (2, .int i2775)] [] I2776 J2777 R (fun r I' J' R' => (MP g n L I' ∧ R' = R) ∧ ∃ v : Int32, r = some (.int v)) := by
        intro mz
        induction mz with
        | zero =>
          intro i2775 I2776 J2777 hI2776 ai2775 bi2775 hmlp12_2777
          exact absurd hmlp12_2777 (Nat.not_lt_zero _)
        | succ mz ihlp12_2777 =>
          intro i2775 I2776 J2777 hI2776 ai2775 bi2775 hmlp12_2777
          have e2779 : I2776 (ad g 0) 1 = L := hI2776.1.2
          have b2780 := BT_get hI2776.1.1 0 1 2 (0) (0) (900) (by decide) 1 (by decide) (by decide)
          rw [e2779] at b2780
          refine WP_iload_n dX11_keep_12 rfl ?_
          refine WQ_bipush (35) (35) dX11_keep_13 rfl rfl (fun v2781 hv2781 => ?_)
          refine WQ_icmp_ge 41 dX11_keep_15 rfl (fun c2781 => ?_) (fun c2781 => ?_)
          · refine WP_aload_n dX11_keep_41 rfl ?_
            refine WP_getr dX11_keep_42 fX11_298 rfl (ly_is hy 0 11 rfl) (rf hr 0 66 43 (by decide)) ?_
            refine WP_iload_n dX11_keep_45 rfl ?_
            refine WP_aload_n dX11_keep_46 rfl ?_
            refine WQ_getl dX11_keep_47 fX11_346 rfl (ly_is hy 0 11 rfl) (fun l2783 el2783 => ?_)
            refine WQ_last dX11_keep_50 (ly_is hy 43 14 rfl) (ly_n hy 43 3 rfl) (by omega) (by omega) (fun J2784 eJ2784 => ?_)
            clear eJ2784
            refine WP_aload_n dX11_keep_51 rfl ?_
            refine WP_getr dX11_keep_52 fX11_301 rfl (ly_is hy 0 11 rfl) (rf hr 0 67 44 (by decide)) ?_
            refine WP_iload_n dX11_keep_55 rfl ?_
            refine WQ_iconst (1) (1) dX11_keep_56 rfl rfl (fun v2785 hv2785 => ?_)
            refine WQ_zast dX11_keep_57 (ly_is hy 44 15 rfl) (ly_n hy 44 3 rfl) (by omega) (by omega) (fun I2786 v2787 eI2786 => ?_)
            have hI2786 : MP g n L I2786 := by rw [eI2786]; exact (mp_w hy hI2776 (c := 44) (mi_r0 hy hI2776.1 (c := 44) (by decide) (Or.inl (by decide)) (by decide)) (by decide) (by decide) (Or.inl (by decide)))
            have e2788 : I2786 (ad g 0) 1 = L := by rw [eI2786, pp_ne _ _ (Or.inl (ly_ne hy (by decide) (by decide) (by decide)))]; exact e2779
            clear eI2786
            refine WP_aload_n dX11_keep_58 rfl ?_
            refine WP_getr dX11_keep_59 fX11_283 rfl (ly_is hy 0 11 rfl) (rf hr 0 59 38 (by decide)) ?_
            refine WQ_bipush (33) (33) dX11_keep_62 rfl rfl (fun v2789 hv2789 => ?_)
            refine WQ_ialdr dX11_keep_64 (ly_is hy 38 13 rfl) (ly_n hy 38 35 rfl) (by omega) (by omega) (a := 33) (b := 34) (by omega) (by omega) (fun q hq1 hq2 => BT_get hI2786.1.1 38 33 34 (0) (1) (0) (by decide) q hq1 hq2) (fun v2790 av2790 bv2790 => ?_)
            exact WP_iret dX11_keep_65 rfl ⟨⟨hI2786, rfl⟩, _, rfl⟩
          · rcases (show (0 ≤ i2775.toInt ∧ i2775.toInt ≤ 3) ∨ (4 ≤ i2775.toInt ∧ i2775.toInt ≤ 7) ∨ (8 ≤ i2775.toInt ∧ i2775.toInt ≤ 31) ∨ (32 ≤ i2775.toInt ∧ i2775.toInt ≤ 32) ∨ (33 ≤ i2775.toInt ∧ i2775.toInt ≤ 33) ∨ (34 ≤ i2775.toInt ∧ i2775.toInt ≤ 34) by omega) with ⟨k2791_0, k2791_1⟩ | ⟨k2791_2, k2791_3⟩ | ⟨k2791_4, k2791_5⟩ | ⟨k2791_6, k2791_7⟩ | ⟨k2791_8, k2791_9⟩ | ⟨k2791_10, k2791_11⟩
            · refine WP_aload_n dX11_keep_18 rfl ?_
              refine WP_getr dX11_keep_19 fX11_295 rfl (ly_is hy 0 11 rfl) (rf hr 0 65 42 (by decide)) ?_
              refine WQ_bipush (35) (35) dX11_keep_22 rfl rfl (fun v2792 hv2792 => ?_)
              refine WP_iload_n dX11_keep_24 rfl ?_
              refine WQ_imulK (35) dX11_keep_25 hv2792 (by omega) (by omega) (fun v2793 hv2793 => ?_)
              refine WP_iload_n dX11_keep_26 rfl ?_
              refine WQ_iadd dX11_keep_27 (by omega) (by omega) (fun v2794 hv2794 => ?_)
              refine WP_aload_n dX11_keep_28 rfl ?_
              refine WP_getr dX11_keep_29 fX11_283 rfl (ly_is hy 0 11 rfl) (rf hr 0 59 38 (by decide)) ?_
              refine WP_iload_n dX11_keep_32 rfl ?_
              refine WQ_ialdr dX11_keep_33 (ly_is hy 38 13 rfl) (ly_n hy 38 35 rfl) (by omega) (by omega) (a := 0) (b := 4) (by omega) (by omega) (fun q hq1 hq2 => BT_get hI2776.1.1 38 0 4 (0) (0) (60) (by decide) q hq1 hq2) (fun v2795 av2795 bv2795 => ?_)
              refine WQ_iast dX11_keep_34 (ly_is hy 42 13 rfl) (ly_n hy 42 105 rfl) (by omega) (by omega) (fun I2796 eI2796 => ?_)
              have hI2796 : MP g n L I2796 := by rw [eI2796]; exact (mp_w hy hI2776 (c := 42) (mi_rr hy hI2776.1 (c := 42) (70) (73) (0) (0) (60) (by decide) (Or.inl (by decide)) (by rw [cl (n := v2794.toInt.toNat) (by omega)]; omega) (by decide) (fun _ => ⟨by omega, by omega⟩)) (by decide) (by decide) (Or.inl (by decide)))
              have e2797 : I2796 (ad g 0) 1 = L := by rw [eI2796, pp_ne _ _ (Or.inl (ly_ne hy (by decide) (by decide) (by decide)))]; exact e2779
              clear eI2796
              refine WP_iinc (ls' := [(0, _), (1, _), (2, _)]) dX11_keep_35 rfl (by decide) rfl ?_
              have hv2798 : (i2775 + Int32.ofInt (1)).toInt = i2775.toInt + (1) := ia_n rfl (by omega) (by omega)
              generalize i2775 + Int32.ofInt (1) = v2798 at hv2798 ⊢
              refine WP_goto 12 dX11_keep_38 rfl ?_
              exact WP_sub (fc rfl (fc rfl (fc rfl fn))) (ihlp12_2777 v2798 I2796 J2777 hI2796 (by omega) (by omega) (by omega))
            · refine WP_aload_n dX11_keep_18 rfl ?_
              refine WP_getr dX11_keep_19 fX11_295 rfl (ly_is hy 0 11 rfl) (rf hr 0 65 42 (by decide)) ?_
              refine WQ_bipush (35) (35) dX11_keep_22 rfl rfl (fun v2799 hv2799 => ?_)
              refine WP_iload_n dX11_keep_24 rfl ?_
              refine WQ_imulK (35) dX11_keep_25 hv2799 (by omega) (by omega) (fun v2800 hv2800 => ?_)
              refine WP_iload_n dX11_keep_26 rfl ?_
              refine WQ_iadd dX11_keep_27 (by omega) (by omega) (fun v2801 hv2801 => ?_)
              refine WP_aload_n dX11_keep_28 rfl ?_
              refine WP_getr dX11_keep_29 fX11_283 rfl (ly_is hy 0 11 rfl) (rf hr 0 59 38 (by decide)) ?_
              refine WP_iload_n dX11_keep_32 rfl ?_
              refine WQ_ialdr dX11_keep_33 (ly_is hy 38 13 rfl) (ly_n hy 38 35 rfl) (by omega) (by omega) (a := 4) (b := 8) (by omega) (by omega) (fun q hq1 hq2 => BT_get hI2776.1.1 38 4 8 (0) (0) (5) (by decide) q hq1 hq2) (fun v2802 av2802 bv2802 => ?_)
              refine WQ_iast dX11_keep_34 (ly_is hy 42 13 rfl) (ly_n hy 42 105 rfl) (by omega) (by omega) (fun I2803 eI2803 => ?_)
              have hI2803 : MP g n L I2803 := by rw [eI2803]; exact (mp_w hy hI2776 (c := 42) (mi_rr hy hI2776.1 (c := 42) (74) (77) (0) (0) (5) (by decide) (Or.inl (by decide)) (by rw [cl (n := v2801.toInt.toNat) (by omega)]; omega) (by decide) (fun _ => ⟨by omega, by omega⟩)) (by decide) (by decide) (Or.inl (by decide)))
              have e2804 : I2803 (ad g 0) 1 = L := by rw [eI2803, pp_ne _ _ (Or.inl (ly_ne hy (by decide) (by decide) (by decide)))]; exact e2779
              clear eI2803
              refine WP_iinc (ls' := [(0, _), (1, _), (2, _)]) dX11_keep_35 rfl (by decide) rfl ?_
              have hv2805 : (i2775 + Int32.ofInt (1)).toInt = i2775.toInt + (1) := ia_n rfl (by omega) (by omega)
              generalize i2775 + Int32.ofInt (1) = v2805 at hv2805 ⊢
              refine WP_goto 12 dX11_keep_38 rfl ?_
              exact WP_sub (fc rfl (fc rfl (fc rfl fn))) (ihlp12_2777 v2805 I2803 J2777 hI2803 (by omega) (by omega) (by omega))
            · refine WP_aload_n dX11_keep_18 rfl ?_
              refine WP_getr dX11_keep_19 fX11_295 rfl (ly_is hy 0 11 rfl) (rf hr 0 65 42 (by decide)) ?_
              refine WQ_bipush (35) (35) dX11_keep_22 rfl rfl (fun v2806 hv2806 => ?_)
              refine WP_iload_n dX11_keep_24 rfl ?_
              refine WQ_imulK (35) dX11_keep_25 hv2806 (by omega) (by omega) (fun v2807 hv2807 => ?_)
              refine WP_iload_n dX11_keep_26 rfl ?_
              refine WQ_iadd dX11_keep_27 (by omega) (by omega) (fun v2808 hv2808 => ?_)
              refine WP_aload_n dX11_keep_28 rfl ?_
              refine WP_getr dX11_keep_29 fX11_283 rfl (ly_is hy 0 11 rfl) (rf hr 0 59 38 (by decide)) ?_
              refine WP_iload_n dX11_keep_32 rfl ?_
              refine WQ_ialdu dX11_keep_33 (ly_is hy 38 13 rfl) (ly_n hy 38 35 rfl) (by omega) (by omega) (fun v2809 => ?_)
              refine WQ_iast dX11_keep_34 (ly_is hy 42 13 rfl) (ly_n hy 42 105 rfl) (by omega) (by omega) (fun I2810 eI2810 => ?_)
              have hI2810 : MP g n L I2810 := by rw [eI2810]; exact (mp_w hy hI2776 (c := 42) (mi_rr hy hI2776.1 (c := 42) (78) (101) (0) (0) (0) (by decide) (Or.inl (by decide)) (by rw [cl (n := v2808.toInt.toNat) (by omega)]; omega) (by decide) (fun h => absurd h (by decide))) (by decide) (by decide) (Or.inl (by decide)))
              have e2811 : I2810 (ad g 0) 1 = L := by rw [eI2810, pp_ne _ _ (Or.inl (ly_ne hy (by decide) (by decide) (by decide)))]; exact e2779
              clear eI2810
              refine WP_iinc (ls' := [(0, _), (1, _), (2, _)]) dX11_keep_35 rfl (by decide) rfl ?_
              have hv2812 : (i2775 + Int32.ofInt (1)).toInt = i2775.toInt + (1) := ia_n rfl (by omega) (by omega)
              generalize i2775 + Int32.ofInt (1) = v2812 at hv2812 ⊢
              refine WP_goto 12 dX11_keep_38 rfl ?_
              exact WP_sub (fc rfl (fc rfl (fc rfl fn))) (ihlp12_2777 v2812 I2810 J2777 hI2810 (by omega) (by omega) (by omega))
            · refine WP_aload_n dX11_keep_18 rfl ?_
              refine WP_getr dX11_keep_19 fX11_295 rfl (ly_is hy 0 11 rfl) (rf hr 0 65 42 (by decide)) ?_
              refine WQ_bipush (35) (35) dX11_keep_22 rfl rfl (fun v2813 hv2813 => ?_)
              refine WP_iload_n dX11_keep_24 rfl ?_
              refine WQ_imulK (35) dX11_keep_25 hv2813 (by omega) (by omega) (fun v2814 hv2814 => ?_)
              refine WP_iload_n dX11_keep_26 rfl ?_
              refine WQ_iadd dX11_keep_27 (by omega) (by omega) (fun v2815 hv2815 => ?_)
              refine WP_aload_n dX11_keep_28 rfl ?_
              refine WP_getr dX11_keep_29 fX11_283 rfl (ly_is hy 0 11 rfl) (rf hr 0 59 38 (by decide)) ?_
              refine WP_iload_n dX11_keep_32 rfl ?_
              refine WQ_ialdr dX11_keep_33 (ly_is hy 38 13 rfl) (ly_n hy 38 35 rfl) (by omega) (by omega) (a := 32) (b := 33) (by omega) (by omega) (fun q hq1 hq2 => BT_get hI2776.1.1 38 32 33 (0) (23760) (0) (by decide) q hq1 hq2) (fun v2816 av2816 bv2816 => ?_)
              refine WQ_iast dX11_keep_34 (ly_is hy 42 13 rfl) (ly_n hy 42 105 rfl) (by omega) (by omega) (fun I2817 eI2817 => ?_)
              have hI2817 : MP g n L I2817 := by rw [eI2817]; exact (mp_w hy hI2776 (c := 42) (mi_rr hy hI2776.1 (c := 42) (102) (102) (0) (23760) (0) (by decide) (Or.inl (by decide)) (by rw [cl (n := v2815.toInt.toNat) (by omega)]; omega) (by decide) (fun _ => ⟨by omega, by omega⟩)) (by decide) (by decide) (Or.inl (by decide)))
              have e2818 : I2817 (ad g 0) 1 = L := by rw [eI2817, pp_ne _ _ (Or.inl (ly_ne hy (by decide) (by decide) (by decide)))]; exact e2779
              clear eI2817
              refine WP_iinc (ls' := [(0, _), (1, _), (2, _)]) dX11_keep_35 rfl (by decide) rfl ?_
              have hv2819 : (i2775 + Int32.ofInt (1)).toInt = i2775.toInt + (1) := ia_n rfl (by omega) (by omega)
              generalize i2775 + Int32.ofInt (1) = v2819 at hv2819 ⊢
              refine WP_goto 12 dX11_keep_38 rfl ?_
              exact WP_sub (fc rfl (fc rfl (fc rfl fn))) (ihlp12_2777 v2819 I2817 J2777 hI2817 (by omega) (by omega) (by omega))
            · refine WP_aload_n dX11_keep_18 rfl ?_
              refine WP_getr dX11_keep_19 fX11_295 rfl (ly_is hy 0 11 rfl) (rf hr 0 65 42 (by decide)) ?_
              refine WQ_bipush (35) (35) dX11_keep_22 rfl rfl (fun v2820 hv2820 => ?_)
              refine WP_iload_n dX11_keep_24 rfl ?_
              refine WQ_imulK (35) dX11_keep_25 hv2820 (by omega) (by omega) (fun v2821 hv2821 => ?_)
              refine WP_iload_n dX11_keep_26 rfl ?_
              refine WQ_iadd dX11_keep_27 (by omega) (by omega) (fun v2822 hv2822 => ?_)
              refine WP_aload_n dX11_keep_28 rfl ?_
              refine WP_getr dX11_keep_29 fX11_283 rfl (ly_is hy 0 11 rfl) (rf hr 0 59 38 (by decide)) ?_
              refine WP_iload_n dX11_keep_32 rfl ?_
              refine WQ_ialdr dX11_keep_33 (ly_is hy 38 13 rfl) (ly_n hy 38 35 rfl) (by omega) (by omega) (a := 33) (b := 34) (by omega) (by omega) (fun q hq1 hq2 => BT_get hI2776.1.1 38 33 34 (0) (1) (0) (by decide) q hq1 hq2) (fun v2823 av2823 bv2823 => ?_)
              refine WQ_iast dX11_keep_34 (ly_is hy 42 13 rfl) (ly_n hy 42 105 rfl) (by omega) (by omega) (fun I2824 eI2824 => ?_)
              have hI2824 : MP g n L I2824 := by rw [eI2824]; exact (mp_w hy hI2776 (c := 42) (mi_rr hy hI2776.1 (c := 42) (103) (103) (0) (1) (0) (by decide) (Or.inl (by decide)) (by rw [cl (n := v2822.toInt.toNat) (by omega)]; omega) (by decide) (fun _ => ⟨by omega, by omega⟩)) (by decide) (by decide) (Or.inl (by decide)))
              have e2825 : I2824 (ad g 0) 1 = L := by rw [eI2824, pp_ne _ _ (Or.inl (ly_ne hy (by decide) (by decide) (by decide)))]; exact e2779
              clear eI2824
              refine WP_iinc (ls' := [(0, _), (1, _), (2, _)]) dX11_keep_35 rfl (by decide) rfl ?_
              have hv2826 : (i2775 + Int32.ofInt (1)).toInt = i2775.toInt + (1) := ia_n rfl (by omega) (by omega)
              generalize i2775 + Int32.ofInt (1) = v2826 at hv2826 ⊢
              refine WP_goto 12 dX11_keep_38 rfl ?_
              exact WP_sub (fc rfl (fc rfl (fc rfl fn))) (ihlp12_2777 v2826 I2824 J2777 hI2824 (by omega) (by omega) (by omega))
            · refine WP_aload_n dX11_keep_18 rfl ?_
              refine WP_getr dX11_keep_19 fX11_295 rfl (ly_is hy 0 11 rfl) (rf hr 0 65 42 (by decide)) ?_
              refine WQ_bipush (35) (35) dX11_keep_22 rfl rfl (fun v2827 hv2827 => ?_)
              refine WP_iload_n dX11_keep_24 rfl ?_
              refine WQ_imulK (35) dX11_keep_25 hv2827 (by omega) (by omega) (fun v2828 hv2828 => ?_)
              refine WP_iload_n dX11_keep_26 rfl ?_
              refine WQ_iadd dX11_keep_27 (by omega) (by omega) (fun v2829 hv2829 => ?_)
              refine WP_aload_n dX11_keep_28 rfl ?_
              refine WP_getr dX11_keep_29 fX11_283 rfl (ly_is hy 0 11 rfl) (rf hr 0 59 38 (by decide)) ?_
              refine WP_iload_n dX11_keep_32 rfl ?_
              refine WQ_ialdu dX11_keep_33 (ly_is hy 38 13 rfl) (ly_n hy 38 35 rfl) (by omega) (by omega) (fun v2830 => ?_)
              refine WQ_iast dX11_keep_34 (ly_is hy 42 13 rfl) (ly_n hy 42 105 rfl) (by omega) (by omega) (fun I2831 eI2831 => ?_)
              have hI2831 : MP g n L I2831 := by rw [eI2831]; exact (mp_w hy hI2776 (c := 42) (mi_rr hy hI2776.1 (c := 42) (104) (104) (0) (0) (0) (by decide) (Or.inl (by decide)) (by rw [cl (n := v2829.toInt.toNat) (by omega)]; omega) (by decide) (fun h => absurd h (by decide))) (by decide) (by decide) (Or.inl (by decide)))
              have e2832 : I2831 (ad g 0) 1 = L := by rw [eI2831, pp_ne _ _ (Or.inl (ly_ne hy (by decide) (by decide) (by decide)))]; exact e2779
              clear eI2831
              refine WP_iinc (ls' := [(0, _), (1, _), (2, _)]) dX11_keep_35 rfl (by decide) rfl ?_
              have hv2833 : (i2775 + Int32.ofInt (1)).toInt = i2775.toInt + (1) := ia_n rfl (by omega) (by omega)
              generalize i2775 + Int32.ofInt (1) = v2833 at hv2833 ⊢
              refine WP_goto 12 dX11_keep_38 rfl ?_
              exact WP_sub (fc rfl (fc rfl (fc rfl fn))) (ihlp12_2777 v2833 I2831 J2777 hI2831 (by omega) (by omega) (by omega))
      exact WP_sub (fc rfl (fc rfl (fc rfl fn))) (lp12_2777 _ v2774 I J hI (by omega) (by omega) (Nat.lt_succ_self _))
  · refine WQ_bipush (-2) (-2) dX11_keep_7 rfl rfl (fun v2834 hv2834 => ?_)
    exact WP_iret dX11_keep_9 rfl ⟨⟨hI, rfl⟩, _, rfl⟩
set_option maxHeartbeats 4000000 in
set_option maxRecDepth 100000 in
theorem sm_take {g : GG} {n : Int} {L : Int32} (hy : Ly g)  {I : pI} {J : pJ} {R : pR} (hr : Rf g R) (hI : MP g n L I) (a : Int32)  : SP g mX11_take [.ref (ad g 0), .int a] I J R (fun r I' J' R' => (MP g n L I' ∧ R' = R) ∧ ∃ v : Int32, r = some (.int v)) := by
  refine SP_of ⟨by decide, rfl⟩ (Nat.le_of_ble_eq_true rfl) ?_
  have e2835 : I (ad g 0) 1 = L := hI.1.2
  have b2836 := BT_get hI.1.1 0 1 2 (0) (0) (900) (by decide) 1 (by decide) (by decide)
  rw [e2835] at b2836
  refine WP_iload_n dX11_take_0 rfl ?_
  refine WP_callS1 dX11_take_1 ⟨⟨⟨by decide, by decide⟩, zX11_isSlot⟩, lX11_494, tX11_isSlot⟩ (sm_isSlot hy hr hI a ) (Nat.le_of_ble_eq_true rfl) ?_
  intro r Ia Ja Ra hq
  obtain ⟨⟨ea, eb, ec⟩, v2837, rfl, av2837, bv2837, cv2837⟩ := hq
  show WP _ _ _ _ (.int _ :: _) _ _ _ _
  rw [ea, eb, ec]
  clear ea eb ec Ia Ja Ra
  refine WQ_if_ne 10 dX11_take_4 rfl (fun c2837 => ?_) (fun c2837 => ?_)
  · refine WP_aload_n dX11_take_10 rfl ?_
    refine WP_getr dX11_take_11 fX11_301 rfl (ly_is hy 0 11 rfl) (rf hr 0 67 44 (by decide)) ?_
    refine WP_iload_n dX11_take_14 rfl ?_
    refine WQ_zaldu dX11_take_15 (ly_is hy 44 15 rfl) (ly_n hy 44 3 rfl) (by omega) (by omega) (fun v2839 => ?_)
    refine WQ_if_ne 22 dX11_take_16 rfl (fun c2839 => ?_) (fun c2839 => ?_)
    · rcases (show (0 ≤ a.toInt ∧ a.toInt ≤ 0) ∨ (1 ≤ a.toInt ∧ a.toInt ≤ 1) ∨ (2 ≤ a.toInt ∧ a.toInt ≤ 2) by omega) with ⟨k2841_0, k2841_1⟩ | ⟨k2841_2, k2841_3⟩ | ⟨k2841_4, k2841_5⟩
      · refine WQ_iconst (0) (0) dX11_take_22 rfl rfl (fun v2842 hv2842 => ?_)
        refine WP_istore_n (ls' := [(0, _), (1, _), (2, _)]) dX11_take_23 (by decide) rfl ?_
        have lp24_2845 : ∀ (mz : Nat) (i2843 : Int32) (I2844 : pI) (J2845 : pJ), MP g n L I2844 → 0 ≤ i2843.toInt → i2843.toInt ≤ 35 → (36 - i2843.toInt).toNat < mz → WP g mX11_take 24 [(0, .ref (ad g 0)), (1, .int a), (2, .int i2843)] [] I2844 J2845 R (fun r I' J' R' => (MP g n L I' ∧ R' = R) ∧ ∃ v : Int32, r = some (.int v)) := by
          intro mz
          induction mz with
          | zero =>
            intro i2843 I2844 J2845 hI2844 ai2843 bi2843 hmlp24_2845
            exact absurd hmlp24_2845 (Nat.not_lt_zero _)
          | succ mz ihlp24_2845 =>
            intro i2843 I2844 J2845 hI2844 ai2843 bi2843 hmlp24_2845
            have e2847 : I2844 (ad g 0) 1 = L := hI2844.1.2
            have b2848 := BT_get hI2844.1.1 0 1 2 (0) (0) (900) (by decide) 1 (by decide) (by decide)
            rw [e2847] at b2848
            refine WP_iload_n dX11_take_24 rfl ?_
            refine WQ_bipush (35) (35) dX11_take_25 rfl rfl (fun v2849 hv2849 => ?_)
            refine WQ_icmp_ge 53 dX11_take_27 rfl (fun c2849 => ?_) (fun c2849 => ?_)
            · refine WP_aload_n dX11_take_53 rfl ?_
              refine WP_aload_n dX11_take_54 rfl ?_
              refine WP_getr dX11_take_55 fX11_298 rfl (ly_is hy 0 11 rfl) (rf hr 0 66 43 (by decide)) ?_
              refine WP_iload_n dX11_take_58 rfl ?_
              refine WQ_laldu dX11_take_59 (ly_is hy 43 14 rfl) (ly_n hy 43 3 rfl) (by omega) (by omega) (fun l2851 => ?_)
              refine WQ_putl dX11_take_60 fX11_346 rfl rfl (ly_is hy 0 11 rfl) (fun J2852 eJ2852 => ?_)
              clear eJ2852
              refine WP_aload_n dX11_take_63 rfl ?_
              refine WP_getr dX11_take_64 fX11_283 rfl (ly_is hy 0 11 rfl) (rf hr 0 59 38 (by decide)) ?_
              refine WQ_bipush (33) (33) dX11_take_67 rfl rfl (fun v2853 hv2853 => ?_)
              refine WQ_ialdr dX11_take_69 (ly_is hy 38 13 rfl) (ly_n hy 38 35 rfl) (by omega) (by omega) (a := 33) (b := 34) (by omega) (by omega) (fun q hq1 hq2 => BT_get hI2844.1.1 38 33 34 (0) (1) (0) (by decide) q hq1 hq2) (fun v2854 av2854 bv2854 => ?_)
              exact WP_iret dX11_take_70 rfl ⟨⟨hI2844, rfl⟩, _, rfl⟩
            · rcases (show (0 ≤ i2843.toInt ∧ i2843.toInt ≤ 3) ∨ (4 ≤ i2843.toInt ∧ i2843.toInt ≤ 7) ∨ (8 ≤ i2843.toInt ∧ i2843.toInt ≤ 31) ∨ (32 ≤ i2843.toInt ∧ i2843.toInt ≤ 32) ∨ (33 ≤ i2843.toInt ∧ i2843.toInt ≤ 33) ∨ (34 ≤ i2843.toInt ∧ i2843.toInt ≤ 34) by omega) with ⟨k2855_0, k2855_1⟩ | ⟨k2855_2, k2855_3⟩ | ⟨k2855_4, k2855_5⟩ | ⟨k2855_6, k2855_7⟩ | ⟨k2855_8, k2855_9⟩ | ⟨k2855_10, k2855_11⟩
              · refine WP_aload_n dX11_take_30 rfl ?_
                refine WP_getr dX11_take_31 fX11_283 rfl (ly_is hy 0 11 rfl) (rf hr 0 59 38 (by decide)) ?_
                refine WP_iload_n dX11_take_34 rfl ?_
                refine WP_aload_n dX11_take_35 rfl ?_
                refine WP_getr dX11_take_36 fX11_295 rfl (ly_is hy 0 11 rfl) (rf hr 0 65 42 (by decide)) ?_
                refine WQ_bipush (35) (35) dX11_take_39 rfl rfl (fun v2856 hv2856 => ?_)
                refine WP_iload_n dX11_take_41 rfl ?_
                refine WQ_imulK (35) dX11_take_42 hv2856 (by omega) (by omega) (fun v2857 hv2857 => ?_)
                refine WP_iload_n dX11_take_43 rfl ?_
                refine WQ_iadd dX11_take_44 (by omega) (by omega) (fun v2858 hv2858 => ?_)
                refine WQ_ialdr dX11_take_45 (ly_is hy 42 13 rfl) (ly_n hy 42 105 rfl) (by omega) (by omega) (a := 0) (b := 4) (by omega) (by omega) (fun q hq1 hq2 => BT_get hI2844.1.1 42 0 4 (0) (0) (60) (by decide) q hq1 hq2) (fun v2859 av2859 bv2859 => ?_)
                refine WQ_iast dX11_take_46 (ly_is hy 38 13 rfl) (ly_n hy 38 35 rfl) (by omega) (by omega) (fun I2860 eI2860 => ?_)
                have hI2860 : MP g n L I2860 := by rw [eI2860]; exact (mp_w hy hI2844 (c := 38) (mi_rr hy hI2844.1 (c := 38) (0) (3) (0) (0) (60) (by decide) (Or.inl (by decide)) (by rw [cl (n := i2843.toInt.toNat) (by omega)]; omega) (by decide) (fun _ => ⟨by omega, by omega⟩)) (by decide) (by decide) (Or.inl (by decide)))
                have e2861 : I2860 (ad g 0) 1 = L := by rw [eI2860, pp_ne _ _ (Or.inl (ly_ne hy (by decide) (by decide) (by decide)))]; exact e2847
                clear eI2860
                refine WP_iinc (ls' := [(0, _), (1, _), (2, _)]) dX11_take_47 rfl (by decide) rfl ?_
                have hv2862 : (i2843 + Int32.ofInt (1)).toInt = i2843.toInt + (1) := ia_n rfl (by omega) (by omega)
                generalize i2843 + Int32.ofInt (1) = v2862 at hv2862 ⊢
                refine WP_goto 24 dX11_take_50 rfl ?_
                exact WP_sub (fc rfl (fc rfl (fc rfl fn))) (ihlp24_2845 v2862 I2860 J2845 hI2860 (by omega) (by omega) (by omega))
              · refine WP_aload_n dX11_take_30 rfl ?_
                refine WP_getr dX11_take_31 fX11_283 rfl (ly_is hy 0 11 rfl) (rf hr 0 59 38 (by decide)) ?_
                refine WP_iload_n dX11_take_34 rfl ?_
                refine WP_aload_n dX11_take_35 rfl ?_
                refine WP_getr dX11_take_36 fX11_295 rfl (ly_is hy 0 11 rfl) (rf hr 0 65 42 (by decide)) ?_
                refine WQ_bipush (35) (35) dX11_take_39 rfl rfl (fun v2863 hv2863 => ?_)
                refine WP_iload_n dX11_take_41 rfl ?_
                refine WQ_imulK (35) dX11_take_42 hv2863 (by omega) (by omega) (fun v2864 hv2864 => ?_)
                refine WP_iload_n dX11_take_43 rfl ?_
                refine WQ_iadd dX11_take_44 (by omega) (by omega) (fun v2865 hv2865 => ?_)
                refine WQ_ialdr dX11_take_45 (ly_is hy 42 13 rfl) (ly_n hy 42 105 rfl) (by omega) (by omega) (a := 4) (b := 8) (by omega) (by omega) (fun q hq1 hq2 => BT_get hI2844.1.1 42 4 8 (0) (0) (5) (by decide) q hq1 hq2) (fun v2866 av2866 bv2866 => ?_)
                refine WQ_iast dX11_take_46 (ly_is hy 38 13 rfl) (ly_n hy 38 35 rfl) (by omega) (by omega) (fun I2867 eI2867 => ?_)
                have hI2867 : MP g n L I2867 := by rw [eI2867]; exact (mp_w hy hI2844 (c := 38) (mi_rr hy hI2844.1 (c := 38) (4) (7) (0) (0) (5) (by decide) (Or.inl (by decide)) (by rw [cl (n := i2843.toInt.toNat) (by omega)]; omega) (by decide) (fun _ => ⟨by omega, by omega⟩)) (by decide) (by decide) (Or.inl (by decide)))
                have e2868 : I2867 (ad g 0) 1 = L := by rw [eI2867, pp_ne _ _ (Or.inl (ly_ne hy (by decide) (by decide) (by decide)))]; exact e2847
                clear eI2867
                refine WP_iinc (ls' := [(0, _), (1, _), (2, _)]) dX11_take_47 rfl (by decide) rfl ?_
                have hv2869 : (i2843 + Int32.ofInt (1)).toInt = i2843.toInt + (1) := ia_n rfl (by omega) (by omega)
                generalize i2843 + Int32.ofInt (1) = v2869 at hv2869 ⊢
                refine WP_goto 24 dX11_take_50 rfl ?_
                exact WP_sub (fc rfl (fc rfl (fc rfl fn))) (ihlp24_2845 v2869 I2867 J2845 hI2867 (by omega) (by omega) (by omega))
              · refine WP_aload_n dX11_take_30 rfl ?_
                refine WP_getr dX11_take_31 fX11_283 rfl (ly_is hy 0 11 rfl) (rf hr 0 59 38 (by decide)) ?_
                refine WP_iload_n dX11_take_34 rfl ?_
                refine WP_aload_n dX11_take_35 rfl ?_
                refine WP_getr dX11_take_36 fX11_295 rfl (ly_is hy 0 11 rfl) (rf hr 0 65 42 (by decide)) ?_
                refine WQ_bipush (35) (35) dX11_take_39 rfl rfl (fun v2870 hv2870 => ?_)
                refine WP_iload_n dX11_take_41 rfl ?_
                refine WQ_imulK (35) dX11_take_42 hv2870 (by omega) (by omega) (fun v2871 hv2871 => ?_)
                refine WP_iload_n dX11_take_43 rfl ?_
                refine WQ_iadd dX11_take_44 (by omega) (by omega) (fun v2872 hv2872 => ?_)
                refine WQ_ialdu dX11_take_45 (ly_is hy 42 13 rfl) (ly_n hy 42 105 rfl) (by omega) (by omega) (fun v2873 => ?_)
                refine WQ_iast dX11_take_46 (ly_is hy 38 13 rfl) (ly_n hy 38 35 rfl) (by omega) (by omega) (fun I2874 eI2874 => ?_)
                have hI2874 : MP g n L I2874 := by rw [eI2874]; exact (mp_w hy hI2844 (c := 38) (mi_rr hy hI2844.1 (c := 38) (8) (31) (0) (0) (0) (by decide) (Or.inl (by decide)) (by rw [cl (n := i2843.toInt.toNat) (by omega)]; omega) (by decide) (fun h => absurd h (by decide))) (by decide) (by decide) (Or.inl (by decide)))
                have e2875 : I2874 (ad g 0) 1 = L := by rw [eI2874, pp_ne _ _ (Or.inl (ly_ne hy (by decide) (by decide) (by decide)))]; exact e2847
                clear eI2874
                refine WP_iinc (ls' := [(0, _), (1, _), (2, _)]) dX11_take_47 rfl (by decide) rfl ?_
                have hv2876 : (i2843 + Int32.ofInt (1)).toInt = i2843.toInt + (1) := ia_n rfl (by omega) (by omega)
                generalize i2843 + Int32.ofInt (1) = v2876 at hv2876 ⊢
                refine WP_goto 24 dX11_take_50 rfl ?_
                exact WP_sub (fc rfl (fc rfl (fc rfl fn))) (ihlp24_2845 v2876 I2874 J2845 hI2874 (by omega) (by omega) (by omega))
              · refine WP_aload_n dX11_take_30 rfl ?_
                refine WP_getr dX11_take_31 fX11_283 rfl (ly_is hy 0 11 rfl) (rf hr 0 59 38 (by decide)) ?_
                refine WP_iload_n dX11_take_34 rfl ?_
                refine WP_aload_n dX11_take_35 rfl ?_
                refine WP_getr dX11_take_36 fX11_295 rfl (ly_is hy 0 11 rfl) (rf hr 0 65 42 (by decide)) ?_
                refine WQ_bipush (35) (35) dX11_take_39 rfl rfl (fun v2877 hv2877 => ?_)
                refine WP_iload_n dX11_take_41 rfl ?_
                refine WQ_imulK (35) dX11_take_42 hv2877 (by omega) (by omega) (fun v2878 hv2878 => ?_)
                refine WP_iload_n dX11_take_43 rfl ?_
                refine WQ_iadd dX11_take_44 (by omega) (by omega) (fun v2879 hv2879 => ?_)
                refine WQ_ialdr dX11_take_45 (ly_is hy 42 13 rfl) (ly_n hy 42 105 rfl) (by omega) (by omega) (a := 32) (b := 33) (by omega) (by omega) (fun q hq1 hq2 => BT_get hI2844.1.1 42 32 33 (0) (23760) (0) (by decide) q hq1 hq2) (fun v2880 av2880 bv2880 => ?_)
                refine WQ_iast dX11_take_46 (ly_is hy 38 13 rfl) (ly_n hy 38 35 rfl) (by omega) (by omega) (fun I2881 eI2881 => ?_)
                have hI2881 : MP g n L I2881 := by rw [eI2881]; exact (mp_w hy hI2844 (c := 38) (mi_rr hy hI2844.1 (c := 38) (32) (32) (0) (23760) (0) (by decide) (Or.inl (by decide)) (by rw [cl (n := i2843.toInt.toNat) (by omega)]; omega) (by decide) (fun _ => ⟨by omega, by omega⟩)) (by decide) (by decide) (Or.inl (by decide)))
                have e2882 : I2881 (ad g 0) 1 = L := by rw [eI2881, pp_ne _ _ (Or.inl (ly_ne hy (by decide) (by decide) (by decide)))]; exact e2847
                clear eI2881
                refine WP_iinc (ls' := [(0, _), (1, _), (2, _)]) dX11_take_47 rfl (by decide) rfl ?_
                have hv2883 : (i2843 + Int32.ofInt (1)).toInt = i2843.toInt + (1) := ia_n rfl (by omega) (by omega)
                generalize i2843 + Int32.ofInt (1) = v2883 at hv2883 ⊢
                refine WP_goto 24 dX11_take_50 rfl ?_
                exact WP_sub (fc rfl (fc rfl (fc rfl fn))) (ihlp24_2845 v2883 I2881 J2845 hI2881 (by omega) (by omega) (by omega))
              · refine WP_aload_n dX11_take_30 rfl ?_
                refine WP_getr dX11_take_31 fX11_283 rfl (ly_is hy 0 11 rfl) (rf hr 0 59 38 (by decide)) ?_
                refine WP_iload_n dX11_take_34 rfl ?_
                refine WP_aload_n dX11_take_35 rfl ?_
                refine WP_getr dX11_take_36 fX11_295 rfl (ly_is hy 0 11 rfl) (rf hr 0 65 42 (by decide)) ?_
                refine WQ_bipush (35) (35) dX11_take_39 rfl rfl (fun v2884 hv2884 => ?_)
                refine WP_iload_n dX11_take_41 rfl ?_
                refine WQ_imulK (35) dX11_take_42 hv2884 (by omega) (by omega) (fun v2885 hv2885 => ?_)
                refine WP_iload_n dX11_take_43 rfl ?_
                refine WQ_iadd dX11_take_44 (by omega) (by omega) (fun v2886 hv2886 => ?_)
                refine WQ_ialdr dX11_take_45 (ly_is hy 42 13 rfl) (ly_n hy 42 105 rfl) (by omega) (by omega) (a := 33) (b := 34) (by omega) (by omega) (fun q hq1 hq2 => BT_get hI2844.1.1 42 33 34 (0) (1) (0) (by decide) q hq1 hq2) (fun v2887 av2887 bv2887 => ?_)
                refine WQ_iast dX11_take_46 (ly_is hy 38 13 rfl) (ly_n hy 38 35 rfl) (by omega) (by omega) (fun I2888 eI2888 => ?_)
                have hI2888 : MP g n L I2888 := by rw [eI2888]; exact (mp_w hy hI2844 (c := 38) (mi_rr hy hI2844.1 (c := 38) (33) (33) (0) (1) (0) (by decide) (Or.inl (by decide)) (by rw [cl (n := i2843.toInt.toNat) (by omega)]; omega) (by decide) (fun _ => ⟨by omega, by omega⟩)) (by decide) (by decide) (Or.inl (by decide)))
                have e2889 : I2888 (ad g 0) 1 = L := by rw [eI2888, pp_ne _ _ (Or.inl (ly_ne hy (by decide) (by decide) (by decide)))]; exact e2847
                clear eI2888
                refine WP_iinc (ls' := [(0, _), (1, _), (2, _)]) dX11_take_47 rfl (by decide) rfl ?_
                have hv2890 : (i2843 + Int32.ofInt (1)).toInt = i2843.toInt + (1) := ia_n rfl (by omega) (by omega)
                generalize i2843 + Int32.ofInt (1) = v2890 at hv2890 ⊢
                refine WP_goto 24 dX11_take_50 rfl ?_
                exact WP_sub (fc rfl (fc rfl (fc rfl fn))) (ihlp24_2845 v2890 I2888 J2845 hI2888 (by omega) (by omega) (by omega))
              · refine WP_aload_n dX11_take_30 rfl ?_
                refine WP_getr dX11_take_31 fX11_283 rfl (ly_is hy 0 11 rfl) (rf hr 0 59 38 (by decide)) ?_
                refine WP_iload_n dX11_take_34 rfl ?_
                refine WP_aload_n dX11_take_35 rfl ?_
                refine WP_getr dX11_take_36 fX11_295 rfl (ly_is hy 0 11 rfl) (rf hr 0 65 42 (by decide)) ?_
                refine WQ_bipush (35) (35) dX11_take_39 rfl rfl (fun v2891 hv2891 => ?_)
                refine WP_iload_n dX11_take_41 rfl ?_
                refine WQ_imulK (35) dX11_take_42 hv2891 (by omega) (by omega) (fun v2892 hv2892 => ?_)
                refine WP_iload_n dX11_take_43 rfl ?_
                refine WQ_iadd dX11_take_44 (by omega) (by omega) (fun v2893 hv2893 => ?_)
                refine WQ_ialdu dX11_take_45 (ly_is hy 42 13 rfl) (ly_n hy 42 105 rfl) (by omega) (by omega) (fun v2894 => ?_)
                refine WQ_iast dX11_take_46 (ly_is hy 38 13 rfl) (ly_n hy 38 35 rfl) (by omega) (by omega) (fun I2895 eI2895 => ?_)
                have hI2895 : MP g n L I2895 := by rw [eI2895]; exact (mp_w hy hI2844 (c := 38) (mi_rr hy hI2844.1 (c := 38) (34) (34) (0) (0) (0) (by decide) (Or.inl (by decide)) (by rw [cl (n := i2843.toInt.toNat) (by omega)]; omega) (by decide) (fun h => absurd h (by decide))) (by decide) (by decide) (Or.inl (by decide)))
                have e2896 : I2895 (ad g 0) 1 = L := by rw [eI2895, pp_ne _ _ (Or.inl (ly_ne hy (by decide) (by decide) (by decide)))]; exact e2847
                clear eI2895
                refine WP_iinc (ls' := [(0, _), (1, _), (2, _)]) dX11_take_47 rfl (by decide) rfl ?_
                have hv2897 : (i2843 + Int32.ofInt (1)).toInt = i2843.toInt + (1) := ia_n rfl (by omega) (by omega)
                generalize i2843 + Int32.ofInt (1) = v2897 at hv2897 ⊢
                refine WP_goto 24 dX11_take_50 rfl ?_
                exact WP_sub (fc rfl (fc rfl (fc rfl fn))) (ihlp24_2845 v2897 I2895 J2845 hI2895 (by omega) (by omega) (by omega))
        exact WP_sub (fc rfl (fc rfl (fc rfl fn))) (lp24_2845 _ v2842 I J hI (by omega) (by omega) (Nat.lt_succ_self _))
      · refine WQ_iconst (0) (0) dX11_take_22 rfl rfl (fun v2898 hv2898 => ?_)
        refine WP_istore_n (ls' := [(0, _), (1, _), (2, _)]) dX11_take_23 (by decide) rfl ?_
        have lp24_2901 : ∀ (mz : Nat) (i2899 : Int32) (I2900 : pI) (J2901 : pJ), MP g n L I2900 → 0 ≤ i2899.toInt → i2899.toInt ≤ 35 → (36 - i2899.toInt).toNat < mz → WP g mX11_take 24 [(0, .ref (ad g 0)), (1, .int a), (2, .int i2899)] [] I2900 J2901 R (fun r I' J' R' => (MP g n L I' ∧ R' = R) ∧ ∃ v : Int32, r = some (.int v)) := by
          intro mz
          induction mz with
          | zero =>
            intro i2899 I2900 J2901 hI2900 ai2899 bi2899 hmlp24_2901
            exact absurd hmlp24_2901 (Nat.not_lt_zero _)
          | succ mz ihlp24_2901 =>
            intro i2899 I2900 J2901 hI2900 ai2899 bi2899 hmlp24_2901
            have e2903 : I2900 (ad g 0) 1 = L := hI2900.1.2
            have b2904 := BT_get hI2900.1.1 0 1 2 (0) (0) (900) (by decide) 1 (by decide) (by decide)
            rw [e2903] at b2904
            refine WP_iload_n dX11_take_24 rfl ?_
            refine WQ_bipush (35) (35) dX11_take_25 rfl rfl (fun v2905 hv2905 => ?_)
            refine WQ_icmp_ge 53 dX11_take_27 rfl (fun c2905 => ?_) (fun c2905 => ?_)
            · refine WP_aload_n dX11_take_53 rfl ?_
              refine WP_aload_n dX11_take_54 rfl ?_
              refine WP_getr dX11_take_55 fX11_298 rfl (ly_is hy 0 11 rfl) (rf hr 0 66 43 (by decide)) ?_
              refine WP_iload_n dX11_take_58 rfl ?_
              refine WQ_laldu dX11_take_59 (ly_is hy 43 14 rfl) (ly_n hy 43 3 rfl) (by omega) (by omega) (fun l2907 => ?_)
              refine WQ_putl dX11_take_60 fX11_346 rfl rfl (ly_is hy 0 11 rfl) (fun J2908 eJ2908 => ?_)
              clear eJ2908
              refine WP_aload_n dX11_take_63 rfl ?_
              refine WP_getr dX11_take_64 fX11_283 rfl (ly_is hy 0 11 rfl) (rf hr 0 59 38 (by decide)) ?_
              refine WQ_bipush (33) (33) dX11_take_67 rfl rfl (fun v2909 hv2909 => ?_)
              refine WQ_ialdr dX11_take_69 (ly_is hy 38 13 rfl) (ly_n hy 38 35 rfl) (by omega) (by omega) (a := 33) (b := 34) (by omega) (by omega) (fun q hq1 hq2 => BT_get hI2900.1.1 38 33 34 (0) (1) (0) (by decide) q hq1 hq2) (fun v2910 av2910 bv2910 => ?_)
              exact WP_iret dX11_take_70 rfl ⟨⟨hI2900, rfl⟩, _, rfl⟩
            · rcases (show (0 ≤ i2899.toInt ∧ i2899.toInt ≤ 3) ∨ (4 ≤ i2899.toInt ∧ i2899.toInt ≤ 7) ∨ (8 ≤ i2899.toInt ∧ i2899.toInt ≤ 31) ∨ (32 ≤ i2899.toInt ∧ i2899.toInt ≤ 32) ∨ (33 ≤ i2899.toInt ∧ i2899.toInt ≤ 33) ∨ (34 ≤ i2899.toInt ∧ i2899.toInt ≤ 34) by omega) with ⟨k2911_0, k2911_1⟩ | ⟨k2911_2, k2911_3⟩ | ⟨k2911_4, k2911_5⟩ | ⟨k2911_6, k2911_7⟩ | ⟨k2911_8, k2911_9⟩ | ⟨k2911_10, k2911_11⟩
              · refine WP_aload_n dX11_take_30 rfl ?_
                refine WP_getr dX11_take_31 fX11_283 rfl (ly_is hy 0 11 rfl) (rf hr 0 59 38 (by decide)) ?_
                refine WP_iload_n dX11_take_34 rfl ?_
                refine WP_aload_n dX11_take_35 rfl ?_
                refine WP_getr dX11_take_36 fX11_295 rfl (ly_is hy 0 11 rfl) (rf hr 0 65 42 (by decide)) ?_
                refine WQ_bipush (35) (35) dX11_take_39 rfl rfl (fun v2912 hv2912 => ?_)
                refine WP_iload_n dX11_take_41 rfl ?_
                refine WQ_imulK (35) dX11_take_42 hv2912 (by omega) (by omega) (fun v2913 hv2913 => ?_)
                refine WP_iload_n dX11_take_43 rfl ?_
                refine WQ_iadd dX11_take_44 (by omega) (by omega) (fun v2914 hv2914 => ?_)
                refine WQ_ialdr dX11_take_45 (ly_is hy 42 13 rfl) (ly_n hy 42 105 rfl) (by omega) (by omega) (a := 35) (b := 39) (by omega) (by omega) (fun q hq1 hq2 => BT_get hI2900.1.1 42 35 39 (0) (0) (60) (by decide) q hq1 hq2) (fun v2915 av2915 bv2915 => ?_)
                refine WQ_iast dX11_take_46 (ly_is hy 38 13 rfl) (ly_n hy 38 35 rfl) (by omega) (by omega) (fun I2916 eI2916 => ?_)
                have hI2916 : MP g n L I2916 := by rw [eI2916]; exact (mp_w hy hI2900 (c := 38) (mi_rr hy hI2900.1 (c := 38) (0) (3) (0) (0) (60) (by decide) (Or.inl (by decide)) (by rw [cl (n := i2899.toInt.toNat) (by omega)]; omega) (by decide) (fun _ => ⟨by omega, by omega⟩)) (by decide) (by decide) (Or.inl (by decide)))
                have e2917 : I2916 (ad g 0) 1 = L := by rw [eI2916, pp_ne _ _ (Or.inl (ly_ne hy (by decide) (by decide) (by decide)))]; exact e2903
                clear eI2916
                refine WP_iinc (ls' := [(0, _), (1, _), (2, _)]) dX11_take_47 rfl (by decide) rfl ?_
                have hv2918 : (i2899 + Int32.ofInt (1)).toInt = i2899.toInt + (1) := ia_n rfl (by omega) (by omega)
                generalize i2899 + Int32.ofInt (1) = v2918 at hv2918 ⊢
                refine WP_goto 24 dX11_take_50 rfl ?_
                exact WP_sub (fc rfl (fc rfl (fc rfl fn))) (ihlp24_2901 v2918 I2916 J2901 hI2916 (by omega) (by omega) (by omega))
              · refine WP_aload_n dX11_take_30 rfl ?_
                refine WP_getr dX11_take_31 fX11_283 rfl (ly_is hy 0 11 rfl) (rf hr 0 59 38 (by decide)) ?_
                refine WP_iload_n dX11_take_34 rfl ?_
                refine WP_aload_n dX11_take_35 rfl ?_
                refine WP_getr dX11_take_36 fX11_295 rfl (ly_is hy 0 11 rfl) (rf hr 0 65 42 (by decide)) ?_
                refine WQ_bipush (35) (35) dX11_take_39 rfl rfl (fun v2919 hv2919 => ?_)
                refine WP_iload_n dX11_take_41 rfl ?_
                refine WQ_imulK (35) dX11_take_42 hv2919 (by omega) (by omega) (fun v2920 hv2920 => ?_)
                refine WP_iload_n dX11_take_43 rfl ?_
                refine WQ_iadd dX11_take_44 (by omega) (by omega) (fun v2921 hv2921 => ?_)
                refine WQ_ialdr dX11_take_45 (ly_is hy 42 13 rfl) (ly_n hy 42 105 rfl) (by omega) (by omega) (a := 39) (b := 43) (by omega) (by omega) (fun q hq1 hq2 => BT_get hI2900.1.1 42 39 43 (0) (0) (5) (by decide) q hq1 hq2) (fun v2922 av2922 bv2922 => ?_)
                refine WQ_iast dX11_take_46 (ly_is hy 38 13 rfl) (ly_n hy 38 35 rfl) (by omega) (by omega) (fun I2923 eI2923 => ?_)
                have hI2923 : MP g n L I2923 := by rw [eI2923]; exact (mp_w hy hI2900 (c := 38) (mi_rr hy hI2900.1 (c := 38) (4) (7) (0) (0) (5) (by decide) (Or.inl (by decide)) (by rw [cl (n := i2899.toInt.toNat) (by omega)]; omega) (by decide) (fun _ => ⟨by omega, by omega⟩)) (by decide) (by decide) (Or.inl (by decide)))
                have e2924 : I2923 (ad g 0) 1 = L := by rw [eI2923, pp_ne _ _ (Or.inl (ly_ne hy (by decide) (by decide) (by decide)))]; exact e2903
                clear eI2923
                refine WP_iinc (ls' := [(0, _), (1, _), (2, _)]) dX11_take_47 rfl (by decide) rfl ?_
                have hv2925 : (i2899 + Int32.ofInt (1)).toInt = i2899.toInt + (1) := ia_n rfl (by omega) (by omega)
                generalize i2899 + Int32.ofInt (1) = v2925 at hv2925 ⊢
                refine WP_goto 24 dX11_take_50 rfl ?_
                exact WP_sub (fc rfl (fc rfl (fc rfl fn))) (ihlp24_2901 v2925 I2923 J2901 hI2923 (by omega) (by omega) (by omega))
              · refine WP_aload_n dX11_take_30 rfl ?_
                refine WP_getr dX11_take_31 fX11_283 rfl (ly_is hy 0 11 rfl) (rf hr 0 59 38 (by decide)) ?_
                refine WP_iload_n dX11_take_34 rfl ?_
                refine WP_aload_n dX11_take_35 rfl ?_
                refine WP_getr dX11_take_36 fX11_295 rfl (ly_is hy 0 11 rfl) (rf hr 0 65 42 (by decide)) ?_
                refine WQ_bipush (35) (35) dX11_take_39 rfl rfl (fun v2926 hv2926 => ?_)
                refine WP_iload_n dX11_take_41 rfl ?_
                refine WQ_imulK (35) dX11_take_42 hv2926 (by omega) (by omega) (fun v2927 hv2927 => ?_)
                refine WP_iload_n dX11_take_43 rfl ?_
                refine WQ_iadd dX11_take_44 (by omega) (by omega) (fun v2928 hv2928 => ?_)
                refine WQ_ialdu dX11_take_45 (ly_is hy 42 13 rfl) (ly_n hy 42 105 rfl) (by omega) (by omega) (fun v2929 => ?_)
                refine WQ_iast dX11_take_46 (ly_is hy 38 13 rfl) (ly_n hy 38 35 rfl) (by omega) (by omega) (fun I2930 eI2930 => ?_)
                have hI2930 : MP g n L I2930 := by rw [eI2930]; exact (mp_w hy hI2900 (c := 38) (mi_rr hy hI2900.1 (c := 38) (8) (31) (0) (0) (0) (by decide) (Or.inl (by decide)) (by rw [cl (n := i2899.toInt.toNat) (by omega)]; omega) (by decide) (fun h => absurd h (by decide))) (by decide) (by decide) (Or.inl (by decide)))
                have e2931 : I2930 (ad g 0) 1 = L := by rw [eI2930, pp_ne _ _ (Or.inl (ly_ne hy (by decide) (by decide) (by decide)))]; exact e2903
                clear eI2930
                refine WP_iinc (ls' := [(0, _), (1, _), (2, _)]) dX11_take_47 rfl (by decide) rfl ?_
                have hv2932 : (i2899 + Int32.ofInt (1)).toInt = i2899.toInt + (1) := ia_n rfl (by omega) (by omega)
                generalize i2899 + Int32.ofInt (1) = v2932 at hv2932 ⊢
                refine WP_goto 24 dX11_take_50 rfl ?_
                exact WP_sub (fc rfl (fc rfl (fc rfl fn))) (ihlp24_2901 v2932 I2930 J2901 hI2930 (by omega) (by omega) (by omega))
              · refine WP_aload_n dX11_take_30 rfl ?_
                refine WP_getr dX11_take_31 fX11_283 rfl (ly_is hy 0 11 rfl) (rf hr 0 59 38 (by decide)) ?_
                refine WP_iload_n dX11_take_34 rfl ?_
                refine WP_aload_n dX11_take_35 rfl ?_
                refine WP_getr dX11_take_36 fX11_295 rfl (ly_is hy 0 11 rfl) (rf hr 0 65 42 (by decide)) ?_
                refine WQ_bipush (35) (35) dX11_take_39 rfl rfl (fun v2933 hv2933 => ?_)
                refine WP_iload_n dX11_take_41 rfl ?_
                refine WQ_imulK (35) dX11_take_42 hv2933 (by omega) (by omega) (fun v2934 hv2934 => ?_)
                refine WP_iload_n dX11_take_43 rfl ?_
                refine WQ_iadd dX11_take_44 (by omega) (by omega) (fun v2935 hv2935 => ?_)
                refine WQ_ialdr dX11_take_45 (ly_is hy 42 13 rfl) (ly_n hy 42 105 rfl) (by omega) (by omega) (a := 67) (b := 68) (by omega) (by omega) (fun q hq1 hq2 => BT_get hI2900.1.1 42 67 68 (0) (23760) (0) (by decide) q hq1 hq2) (fun v2936 av2936 bv2936 => ?_)
                refine WQ_iast dX11_take_46 (ly_is hy 38 13 rfl) (ly_n hy 38 35 rfl) (by omega) (by omega) (fun I2937 eI2937 => ?_)
                have hI2937 : MP g n L I2937 := by rw [eI2937]; exact (mp_w hy hI2900 (c := 38) (mi_rr hy hI2900.1 (c := 38) (32) (32) (0) (23760) (0) (by decide) (Or.inl (by decide)) (by rw [cl (n := i2899.toInt.toNat) (by omega)]; omega) (by decide) (fun _ => ⟨by omega, by omega⟩)) (by decide) (by decide) (Or.inl (by decide)))
                have e2938 : I2937 (ad g 0) 1 = L := by rw [eI2937, pp_ne _ _ (Or.inl (ly_ne hy (by decide) (by decide) (by decide)))]; exact e2903
                clear eI2937
                refine WP_iinc (ls' := [(0, _), (1, _), (2, _)]) dX11_take_47 rfl (by decide) rfl ?_
                have hv2939 : (i2899 + Int32.ofInt (1)).toInt = i2899.toInt + (1) := ia_n rfl (by omega) (by omega)
                generalize i2899 + Int32.ofInt (1) = v2939 at hv2939 ⊢
                refine WP_goto 24 dX11_take_50 rfl ?_
                exact WP_sub (fc rfl (fc rfl (fc rfl fn))) (ihlp24_2901 v2939 I2937 J2901 hI2937 (by omega) (by omega) (by omega))
              · refine WP_aload_n dX11_take_30 rfl ?_
                refine WP_getr dX11_take_31 fX11_283 rfl (ly_is hy 0 11 rfl) (rf hr 0 59 38 (by decide)) ?_
                refine WP_iload_n dX11_take_34 rfl ?_
                refine WP_aload_n dX11_take_35 rfl ?_
                refine WP_getr dX11_take_36 fX11_295 rfl (ly_is hy 0 11 rfl) (rf hr 0 65 42 (by decide)) ?_
                refine WQ_bipush (35) (35) dX11_take_39 rfl rfl (fun v2940 hv2940 => ?_)
                refine WP_iload_n dX11_take_41 rfl ?_
                refine WQ_imulK (35) dX11_take_42 hv2940 (by omega) (by omega) (fun v2941 hv2941 => ?_)
                refine WP_iload_n dX11_take_43 rfl ?_
                refine WQ_iadd dX11_take_44 (by omega) (by omega) (fun v2942 hv2942 => ?_)
                refine WQ_ialdr dX11_take_45 (ly_is hy 42 13 rfl) (ly_n hy 42 105 rfl) (by omega) (by omega) (a := 68) (b := 69) (by omega) (by omega) (fun q hq1 hq2 => BT_get hI2900.1.1 42 68 69 (0) (1) (0) (by decide) q hq1 hq2) (fun v2943 av2943 bv2943 => ?_)
                refine WQ_iast dX11_take_46 (ly_is hy 38 13 rfl) (ly_n hy 38 35 rfl) (by omega) (by omega) (fun I2944 eI2944 => ?_)
                have hI2944 : MP g n L I2944 := by rw [eI2944]; exact (mp_w hy hI2900 (c := 38) (mi_rr hy hI2900.1 (c := 38) (33) (33) (0) (1) (0) (by decide) (Or.inl (by decide)) (by rw [cl (n := i2899.toInt.toNat) (by omega)]; omega) (by decide) (fun _ => ⟨by omega, by omega⟩)) (by decide) (by decide) (Or.inl (by decide)))
                have e2945 : I2944 (ad g 0) 1 = L := by rw [eI2944, pp_ne _ _ (Or.inl (ly_ne hy (by decide) (by decide) (by decide)))]; exact e2903
                clear eI2944
                refine WP_iinc (ls' := [(0, _), (1, _), (2, _)]) dX11_take_47 rfl (by decide) rfl ?_
                have hv2946 : (i2899 + Int32.ofInt (1)).toInt = i2899.toInt + (1) := ia_n rfl (by omega) (by omega)
                generalize i2899 + Int32.ofInt (1) = v2946 at hv2946 ⊢
                refine WP_goto 24 dX11_take_50 rfl ?_
                exact WP_sub (fc rfl (fc rfl (fc rfl fn))) (ihlp24_2901 v2946 I2944 J2901 hI2944 (by omega) (by omega) (by omega))
              · refine WP_aload_n dX11_take_30 rfl ?_
                refine WP_getr dX11_take_31 fX11_283 rfl (ly_is hy 0 11 rfl) (rf hr 0 59 38 (by decide)) ?_
                refine WP_iload_n dX11_take_34 rfl ?_
                refine WP_aload_n dX11_take_35 rfl ?_
                refine WP_getr dX11_take_36 fX11_295 rfl (ly_is hy 0 11 rfl) (rf hr 0 65 42 (by decide)) ?_
                refine WQ_bipush (35) (35) dX11_take_39 rfl rfl (fun v2947 hv2947 => ?_)
                refine WP_iload_n dX11_take_41 rfl ?_
                refine WQ_imulK (35) dX11_take_42 hv2947 (by omega) (by omega) (fun v2948 hv2948 => ?_)
                refine WP_iload_n dX11_take_43 rfl ?_
                refine WQ_iadd dX11_take_44 (by omega) (by omega) (fun v2949 hv2949 => ?_)
                refine WQ_ialdu dX11_take_45 (ly_is hy 42 13 rfl) (ly_n hy 42 105 rfl) (by omega) (by omega) (fun v2950 => ?_)
                refine WQ_iast dX11_take_46 (ly_is hy 38 13 rfl) (ly_n hy 38 35 rfl) (by omega) (by omega) (fun I2951 eI2951 => ?_)
                have hI2951 : MP g n L I2951 := by rw [eI2951]; exact (mp_w hy hI2900 (c := 38) (mi_rr hy hI2900.1 (c := 38) (34) (34) (0) (0) (0) (by decide) (Or.inl (by decide)) (by rw [cl (n := i2899.toInt.toNat) (by omega)]; omega) (by decide) (fun h => absurd h (by decide))) (by decide) (by decide) (Or.inl (by decide)))
                have e2952 : I2951 (ad g 0) 1 = L := by rw [eI2951, pp_ne _ _ (Or.inl (ly_ne hy (by decide) (by decide) (by decide)))]; exact e2903
                clear eI2951
                refine WP_iinc (ls' := [(0, _), (1, _), (2, _)]) dX11_take_47 rfl (by decide) rfl ?_
                have hv2953 : (i2899 + Int32.ofInt (1)).toInt = i2899.toInt + (1) := ia_n rfl (by omega) (by omega)
                generalize i2899 + Int32.ofInt (1) = v2953 at hv2953 ⊢
                refine WP_goto 24 dX11_take_50 rfl ?_
                exact WP_sub (fc rfl (fc rfl (fc rfl fn))) (ihlp24_2901 v2953 I2951 J2901 hI2951 (by omega) (by omega) (by omega))
        exact WP_sub (fc rfl (fc rfl (fc rfl fn))) (lp24_2901 _ v2898 I J hI (by omega) (by omega) (Nat.lt_succ_self _))
      · refine WQ_iconst (0) (0) dX11_take_22 rfl rfl (fun v2954 hv2954 => ?_)
        refine WP_istore_n (ls' := [(0, _), (1, _), (2, _)]) dX11_take_23 (by decide) rfl ?_
        have lp24_2957 : ∀ (mz : Nat) (i2955 : Int32) (I2956 : pI) (J2957 : pJ), MP g n L I2956 → 0 ≤ i2955.toInt → i2955.toInt ≤ 35 → (36 - i2955.toInt).toNat < mz → WP g mX11_take 24 [(0, .ref (ad g 0)), (1, .int a), (2, .int i2955)] [] I2956 J2957 R (fun r I' J' R' => (MP g n L I' ∧ R' = R) ∧ ∃ v : Int32, r = some (.int v)) := by
          intro mz
          induction mz with
          | zero =>
            intro i2955 I2956 J2957 hI2956 ai2955 bi2955 hmlp24_2957
            exact absurd hmlp24_2957 (Nat.not_lt_zero _)
          | succ mz ihlp24_2957 =>
            intro i2955 I2956 J2957 hI2956 ai2955 bi2955 hmlp24_2957
            have e2959 : I2956 (ad g 0) 1 = L := hI2956.1.2
            have b2960 := BT_get hI2956.1.1 0 1 2 (0) (0) (900) (by decide) 1 (by decide) (by decide)
            rw [e2959] at b2960
            refine WP_iload_n dX11_take_24 rfl ?_
            refine WQ_bipush (35) (35) dX11_take_25 rfl rfl (fun v2961 hv2961 => ?_)
            refine WQ_icmp_ge 53 dX11_take_27 rfl (fun c2961 => ?_) (fun c2961 => ?_)
            · refine WP_aload_n dX11_take_53 rfl ?_
              refine WP_aload_n dX11_take_54 rfl ?_
              refine WP_getr dX11_take_55 fX11_298 rfl (ly_is hy 0 11 rfl) (rf hr 0 66 43 (by decide)) ?_
              refine WP_iload_n dX11_take_58 rfl ?_
              refine WQ_laldu dX11_take_59 (ly_is hy 43 14 rfl) (ly_n hy 43 3 rfl) (by omega) (by omega) (fun l2963 => ?_)
              refine WQ_putl dX11_take_60 fX11_346 rfl rfl (ly_is hy 0 11 rfl) (fun J2964 eJ2964 => ?_)
              clear eJ2964
              refine WP_aload_n dX11_take_63 rfl ?_
              refine WP_getr dX11_take_64 fX11_283 rfl (ly_is hy 0 11 rfl) (rf hr 0 59 38 (by decide)) ?_
              refine WQ_bipush (33) (33) dX11_take_67 rfl rfl (fun v2965 hv2965 => ?_)
              refine WQ_ialdr dX11_take_69 (ly_is hy 38 13 rfl) (ly_n hy 38 35 rfl) (by omega) (by omega) (a := 33) (b := 34) (by omega) (by omega) (fun q hq1 hq2 => BT_get hI2956.1.1 38 33 34 (0) (1) (0) (by decide) q hq1 hq2) (fun v2966 av2966 bv2966 => ?_)
              exact WP_iret dX11_take_70 rfl ⟨⟨hI2956, rfl⟩, _, rfl⟩
            · rcases (show (0 ≤ i2955.toInt ∧ i2955.toInt ≤ 3) ∨ (4 ≤ i2955.toInt ∧ i2955.toInt ≤ 7) ∨ (8 ≤ i2955.toInt ∧ i2955.toInt ≤ 31) ∨ (32 ≤ i2955.toInt ∧ i2955.toInt ≤ 32) ∨ (33 ≤ i2955.toInt ∧ i2955.toInt ≤ 33) ∨ (34 ≤ i2955.toInt ∧ i2955.toInt ≤ 34) by omega) with ⟨k2967_0, k2967_1⟩ | ⟨k2967_2, k2967_3⟩ | ⟨k2967_4, k2967_5⟩ | ⟨k2967_6, k2967_7⟩ | ⟨k2967_8, k2967_9⟩ | ⟨k2967_10, k2967_11⟩
              · refine WP_aload_n dX11_take_30 rfl ?_
                refine WP_getr dX11_take_31 fX11_283 rfl (ly_is hy 0 11 rfl) (rf hr 0 59 38 (by decide)) ?_
                refine WP_iload_n dX11_take_34 rfl ?_
                refine WP_aload_n dX11_take_35 rfl ?_
                refine WP_getr dX11_take_36 fX11_295 rfl (ly_is hy 0 11 rfl) (rf hr 0 65 42 (by decide)) ?_
                refine WQ_bipush (35) (35) dX11_take_39 rfl rfl (fun v2968 hv2968 => ?_)
                refine WP_iload_n dX11_take_41 rfl ?_
                refine WQ_imulK (35) dX11_take_42 hv2968 (by omega) (by omega) (fun v2969 hv2969 => ?_)
                refine WP_iload_n dX11_take_43 rfl ?_
                refine WQ_iadd dX11_take_44 (by omega) (by omega) (fun v2970 hv2970 => ?_)
                refine WQ_ialdr dX11_take_45 (ly_is hy 42 13 rfl) (ly_n hy 42 105 rfl) (by omega) (by omega) (a := 70) (b := 74) (by omega) (by omega) (fun q hq1 hq2 => BT_get hI2956.1.1 42 70 74 (0) (0) (60) (by decide) q hq1 hq2) (fun v2971 av2971 bv2971 => ?_)
                refine WQ_iast dX11_take_46 (ly_is hy 38 13 rfl) (ly_n hy 38 35 rfl) (by omega) (by omega) (fun I2972 eI2972 => ?_)
                have hI2972 : MP g n L I2972 := by rw [eI2972]; exact (mp_w hy hI2956 (c := 38) (mi_rr hy hI2956.1 (c := 38) (0) (3) (0) (0) (60) (by decide) (Or.inl (by decide)) (by rw [cl (n := i2955.toInt.toNat) (by omega)]; omega) (by decide) (fun _ => ⟨by omega, by omega⟩)) (by decide) (by decide) (Or.inl (by decide)))
                have e2973 : I2972 (ad g 0) 1 = L := by rw [eI2972, pp_ne _ _ (Or.inl (ly_ne hy (by decide) (by decide) (by decide)))]; exact e2959
                clear eI2972
                refine WP_iinc (ls' := [(0, _), (1, _), (2, _)]) dX11_take_47 rfl (by decide) rfl ?_
                have hv2974 : (i2955 + Int32.ofInt (1)).toInt = i2955.toInt + (1) := ia_n rfl (by omega) (by omega)
                generalize i2955 + Int32.ofInt (1) = v2974 at hv2974 ⊢
                refine WP_goto 24 dX11_take_50 rfl ?_
                exact WP_sub (fc rfl (fc rfl (fc rfl fn))) (ihlp24_2957 v2974 I2972 J2957 hI2972 (by omega) (by omega) (by omega))
              · refine WP_aload_n dX11_take_30 rfl ?_
                refine WP_getr dX11_take_31 fX11_283 rfl (ly_is hy 0 11 rfl) (rf hr 0 59 38 (by decide)) ?_
                refine WP_iload_n dX11_take_34 rfl ?_
                refine WP_aload_n dX11_take_35 rfl ?_
                refine WP_getr dX11_take_36 fX11_295 rfl (ly_is hy 0 11 rfl) (rf hr 0 65 42 (by decide)) ?_
                refine WQ_bipush (35) (35) dX11_take_39 rfl rfl (fun v2975 hv2975 => ?_)
                refine WP_iload_n dX11_take_41 rfl ?_
                refine WQ_imulK (35) dX11_take_42 hv2975 (by omega) (by omega) (fun v2976 hv2976 => ?_)
                refine WP_iload_n dX11_take_43 rfl ?_
                refine WQ_iadd dX11_take_44 (by omega) (by omega) (fun v2977 hv2977 => ?_)
                refine WQ_ialdr dX11_take_45 (ly_is hy 42 13 rfl) (ly_n hy 42 105 rfl) (by omega) (by omega) (a := 74) (b := 78) (by omega) (by omega) (fun q hq1 hq2 => BT_get hI2956.1.1 42 74 78 (0) (0) (5) (by decide) q hq1 hq2) (fun v2978 av2978 bv2978 => ?_)
                refine WQ_iast dX11_take_46 (ly_is hy 38 13 rfl) (ly_n hy 38 35 rfl) (by omega) (by omega) (fun I2979 eI2979 => ?_)
                have hI2979 : MP g n L I2979 := by rw [eI2979]; exact (mp_w hy hI2956 (c := 38) (mi_rr hy hI2956.1 (c := 38) (4) (7) (0) (0) (5) (by decide) (Or.inl (by decide)) (by rw [cl (n := i2955.toInt.toNat) (by omega)]; omega) (by decide) (fun _ => ⟨by omega, by omega⟩)) (by decide) (by decide) (Or.inl (by decide)))
                have e2980 : I2979 (ad g 0) 1 = L := by rw [eI2979, pp_ne _ _ (Or.inl (ly_ne hy (by decide) (by decide) (by decide)))]; exact e2959
                clear eI2979
                refine WP_iinc (ls' := [(0, _), (1, _), (2, _)]) dX11_take_47 rfl (by decide) rfl ?_
                have hv2981 : (i2955 + Int32.ofInt (1)).toInt = i2955.toInt + (1) := ia_n rfl (by omega) (by omega)
                generalize i2955 + Int32.ofInt (1) = v2981 at hv2981 ⊢
                refine WP_goto 24 dX11_take_50 rfl ?_
                exact WP_sub (fc rfl (fc rfl (fc rfl fn))) (ihlp24_2957 v2981 I2979 J2957 hI2979 (by omega) (by omega) (by omega))
              · refine WP_aload_n dX11_take_30 rfl ?_
                refine WP_getr dX11_take_31 fX11_283 rfl (ly_is hy 0 11 rfl) (rf hr 0 59 38 (by decide)) ?_
                refine WP_iload_n dX11_take_34 rfl ?_
                refine WP_aload_n dX11_take_35 rfl ?_
                refine WP_getr dX11_take_36 fX11_295 rfl (ly_is hy 0 11 rfl) (rf hr 0 65 42 (by decide)) ?_
                refine WQ_bipush (35) (35) dX11_take_39 rfl rfl (fun v2982 hv2982 => ?_)
                refine WP_iload_n dX11_take_41 rfl ?_
                refine WQ_imulK (35) dX11_take_42 hv2982 (by omega) (by omega) (fun v2983 hv2983 => ?_)
                refine WP_iload_n dX11_take_43 rfl ?_
                refine WQ_iadd dX11_take_44 (by omega) (by omega) (fun v2984 hv2984 => ?_)
                refine WQ_ialdu dX11_take_45 (ly_is hy 42 13 rfl) (ly_n hy 42 105 rfl) (by omega) (by omega) (fun v2985 => ?_)
                refine WQ_iast dX11_take_46 (ly_is hy 38 13 rfl) (ly_n hy 38 35 rfl) (by omega) (by omega) (fun I2986 eI2986 => ?_)
                have hI2986 : MP g n L I2986 := by rw [eI2986]; exact (mp_w hy hI2956 (c := 38) (mi_rr hy hI2956.1 (c := 38) (8) (31) (0) (0) (0) (by decide) (Or.inl (by decide)) (by rw [cl (n := i2955.toInt.toNat) (by omega)]; omega) (by decide) (fun h => absurd h (by decide))) (by decide) (by decide) (Or.inl (by decide)))
                have e2987 : I2986 (ad g 0) 1 = L := by rw [eI2986, pp_ne _ _ (Or.inl (ly_ne hy (by decide) (by decide) (by decide)))]; exact e2959
                clear eI2986
                refine WP_iinc (ls' := [(0, _), (1, _), (2, _)]) dX11_take_47 rfl (by decide) rfl ?_
                have hv2988 : (i2955 + Int32.ofInt (1)).toInt = i2955.toInt + (1) := ia_n rfl (by omega) (by omega)
                generalize i2955 + Int32.ofInt (1) = v2988 at hv2988 ⊢
                refine WP_goto 24 dX11_take_50 rfl ?_
                exact WP_sub (fc rfl (fc rfl (fc rfl fn))) (ihlp24_2957 v2988 I2986 J2957 hI2986 (by omega) (by omega) (by omega))
              · refine WP_aload_n dX11_take_30 rfl ?_
                refine WP_getr dX11_take_31 fX11_283 rfl (ly_is hy 0 11 rfl) (rf hr 0 59 38 (by decide)) ?_
                refine WP_iload_n dX11_take_34 rfl ?_
                refine WP_aload_n dX11_take_35 rfl ?_
                refine WP_getr dX11_take_36 fX11_295 rfl (ly_is hy 0 11 rfl) (rf hr 0 65 42 (by decide)) ?_
                refine WQ_bipush (35) (35) dX11_take_39 rfl rfl (fun v2989 hv2989 => ?_)
                refine WP_iload_n dX11_take_41 rfl ?_
                refine WQ_imulK (35) dX11_take_42 hv2989 (by omega) (by omega) (fun v2990 hv2990 => ?_)
                refine WP_iload_n dX11_take_43 rfl ?_
                refine WQ_iadd dX11_take_44 (by omega) (by omega) (fun v2991 hv2991 => ?_)
                refine WQ_ialdr dX11_take_45 (ly_is hy 42 13 rfl) (ly_n hy 42 105 rfl) (by omega) (by omega) (a := 102) (b := 103) (by omega) (by omega) (fun q hq1 hq2 => BT_get hI2956.1.1 42 102 103 (0) (23760) (0) (by decide) q hq1 hq2) (fun v2992 av2992 bv2992 => ?_)
                refine WQ_iast dX11_take_46 (ly_is hy 38 13 rfl) (ly_n hy 38 35 rfl) (by omega) (by omega) (fun I2993 eI2993 => ?_)
                have hI2993 : MP g n L I2993 := by rw [eI2993]; exact (mp_w hy hI2956 (c := 38) (mi_rr hy hI2956.1 (c := 38) (32) (32) (0) (23760) (0) (by decide) (Or.inl (by decide)) (by rw [cl (n := i2955.toInt.toNat) (by omega)]; omega) (by decide) (fun _ => ⟨by omega, by omega⟩)) (by decide) (by decide) (Or.inl (by decide)))
                have e2994 : I2993 (ad g 0) 1 = L := by rw [eI2993, pp_ne _ _ (Or.inl (ly_ne hy (by decide) (by decide) (by decide)))]; exact e2959
                clear eI2993
                refine WP_iinc (ls' := [(0, _), (1, _), (2, _)]) dX11_take_47 rfl (by decide) rfl ?_
                have hv2995 : (i2955 + Int32.ofInt (1)).toInt = i2955.toInt + (1) := ia_n rfl (by omega) (by omega)
                generalize i2955 + Int32.ofInt (1) = v2995 at hv2995 ⊢
                refine WP_goto 24 dX11_take_50 rfl ?_
                exact WP_sub (fc rfl (fc rfl (fc rfl fn))) (ihlp24_2957 v2995 I2993 J2957 hI2993 (by omega) (by omega) (by omega))
              · refine WP_aload_n dX11_take_30 rfl ?_
                refine WP_getr dX11_take_31 fX11_283 rfl (ly_is hy 0 11 rfl) (rf hr 0 59 38 (by decide)) ?_
                refine WP_iload_n dX11_take_34 rfl ?_
                refine WP_aload_n dX11_take_35 rfl ?_
                refine WP_getr dX11_take_36 fX11_295 rfl (ly_is hy 0 11 rfl) (rf hr 0 65 42 (by decide)) ?_
                refine WQ_bipush (35) (35) dX11_take_39 rfl rfl (fun v2996 hv2996 => ?_)
                refine WP_iload_n dX11_take_41 rfl ?_
                refine WQ_imulK (35) dX11_take_42 hv2996 (by omega) (by omega) (fun v2997 hv2997 => ?_)
                refine WP_iload_n dX11_take_43 rfl ?_
                refine WQ_iadd dX11_take_44 (by omega) (by omega) (fun v2998 hv2998 => ?_)
                refine WQ_ialdr dX11_take_45 (ly_is hy 42 13 rfl) (ly_n hy 42 105 rfl) (by omega) (by omega) (a := 103) (b := 104) (by omega) (by omega) (fun q hq1 hq2 => BT_get hI2956.1.1 42 103 104 (0) (1) (0) (by decide) q hq1 hq2) (fun v2999 av2999 bv2999 => ?_)
                refine WQ_iast dX11_take_46 (ly_is hy 38 13 rfl) (ly_n hy 38 35 rfl) (by omega) (by omega) (fun I3000 eI3000 => ?_)
                have hI3000 : MP g n L I3000 := by rw [eI3000]; exact (mp_w hy hI2956 (c := 38) (mi_rr hy hI2956.1 (c := 38) (33) (33) (0) (1) (0) (by decide) (Or.inl (by decide)) (by rw [cl (n := i2955.toInt.toNat) (by omega)]; omega) (by decide) (fun _ => ⟨by omega, by omega⟩)) (by decide) (by decide) (Or.inl (by decide)))
                have e3001 : I3000 (ad g 0) 1 = L := by rw [eI3000, pp_ne _ _ (Or.inl (ly_ne hy (by decide) (by decide) (by decide)))]; exact e2959
                clear eI3000
                refine WP_iinc (ls' := [(0, _), (1, _), (2, _)]) dX11_take_47 rfl (by decide) rfl ?_
                have hv3002 : (i2955 + Int32.ofInt (1)).toInt = i2955.toInt + (1) := ia_n rfl (by omega) (by omega)
                generalize i2955 + Int32.ofInt (1) = v3002 at hv3002 ⊢
                refine WP_goto 24 dX11_take_50 rfl ?_
                exact WP_sub (fc rfl (fc rfl (fc rfl fn))) (ihlp24_2957 v3002 I3000 J2957 hI3000 (by omega) (by omega) (by omega))
              · refine WP_aload_n dX11_take_30 rfl ?_
                refine WP_getr dX11_take_31 fX11_283 rfl (ly_is hy 0 11 rfl) (rf hr 0 59 38 (by decide)) ?_
                refine WP_iload_n dX11_take_34 rfl ?_
                refine WP_aload_n dX11_take_35 rfl ?_
                refine WP_getr dX11_take_36 fX11_295 rfl (ly_is hy 0 11 rfl) (rf hr 0 65 42 (by decide)) ?_
                refine WQ_bipush (35) (35) dX11_take_39 rfl rfl (fun v3003 hv3003 => ?_)
                refine WP_iload_n dX11_take_41 rfl ?_
                refine WQ_imulK (35) dX11_take_42 hv3003 (by omega) (by omega) (fun v3004 hv3004 => ?_)
                refine WP_iload_n dX11_take_43 rfl ?_
                refine WQ_iadd dX11_take_44 (by omega) (by omega) (fun v3005 hv3005 => ?_)
                refine WQ_ialdu dX11_take_45 (ly_is hy 42 13 rfl) (ly_n hy 42 105 rfl) (by omega) (by omega) (fun v3006 => ?_)
                refine WQ_iast dX11_take_46 (ly_is hy 38 13 rfl) (ly_n hy 38 35 rfl) (by omega) (by omega) (fun I3007 eI3007 => ?_)
                have hI3007 : MP g n L I3007 := by rw [eI3007]; exact (mp_w hy hI2956 (c := 38) (mi_rr hy hI2956.1 (c := 38) (34) (34) (0) (0) (0) (by decide) (Or.inl (by decide)) (by rw [cl (n := i2955.toInt.toNat) (by omega)]; omega) (by decide) (fun h => absurd h (by decide))) (by decide) (by decide) (Or.inl (by decide)))
                have e3008 : I3007 (ad g 0) 1 = L := by rw [eI3007, pp_ne _ _ (Or.inl (ly_ne hy (by decide) (by decide) (by decide)))]; exact e2959
                clear eI3007
                refine WP_iinc (ls' := [(0, _), (1, _), (2, _)]) dX11_take_47 rfl (by decide) rfl ?_
                have hv3009 : (i2955 + Int32.ofInt (1)).toInt = i2955.toInt + (1) := ia_n rfl (by omega) (by omega)
                generalize i2955 + Int32.ofInt (1) = v3009 at hv3009 ⊢
                refine WP_goto 24 dX11_take_50 rfl ?_
                exact WP_sub (fc rfl (fc rfl (fc rfl fn))) (ihlp24_2957 v3009 I3007 J2957 hI3007 (by omega) (by omega) (by omega))
        exact WP_sub (fc rfl (fc rfl (fc rfl fn))) (lp24_2957 _ v2954 I J hI (by omega) (by omega) (Nat.lt_succ_self _))
    · refine WQ_bipush (-4) (-4) dX11_take_19 rfl rfl (fun v3010 hv3010 => ?_)
      exact WP_iret dX11_take_21 rfl ⟨⟨hI, rfl⟩, _, rfl⟩
  · refine WQ_bipush (-2) (-2) dX11_take_7 rfl rfl (fun v3011 hv3011 => ?_)
    exact WP_iret dX11_take_9 rfl ⟨⟨hI, rfl⟩, _, rfl⟩
set_option maxHeartbeats 4000000 in
set_option maxRecDepth 100000 in
theorem sm_told {g : GG} {n : Int} {L : Int32} (hy : Ly g)  {I : pI} {J : pJ} {R : pR} (hr : Rf g R) (hI : MP g n L I) (a : Int32)  : SP g mX11_told [.ref (ad g 0), .int a] I J R (fun r I' J' R' => (I' = I ∧ J' = J ∧ R' = R) ∧ ∃ v : Int32, r = some (.int v)) := by
  refine SP_of ⟨by decide, rfl⟩ (Nat.le_of_ble_eq_true rfl) ?_
  have e3012 : I (ad g 0) 1 = L := hI.1.2
  have b3013 := BT_get hI.1.1 0 1 2 (0) (0) (900) (by decide) 1 (by decide) (by decide)
  rw [e3012] at b3013
  refine WP_iload_n dX11_told_0 rfl ?_
  refine WQ_bipush (10) (10) dX11_told_1 rfl rfl (fun v3014 hv3014 => ?_)
  refine WQ_iremi (10) dX11_told_3 hv3014 (by decide) (fun v3015 hv3015 => ?_)
  refine WP_istore_n (ls' := [(0, _), (1, _), (2, _)]) dX11_told_4 (by decide) rfl ?_
  refine WP_iload_n dX11_told_5 rfl ?_
  refine WQ_i2l dX11_told_6 (fun l3016 hl3016 => ?_)
  refine WP_ldc2 (10) dX11_told_7 klX11_353 ?_
  obtain ⟨l3017, hl3017, el3017⟩ : ∃ v : Int64, v.toInt = (10) ∧ ((10) : Int64) = v := ⟨_, rfl, rfl⟩
  rw [el3017]; clear el3017
  refine WP_ldc2 (16) dX11_told_10 klX11_355 ?_
  obtain ⟨l3018, hl3018, el3018⟩ : ∃ v : Int64, v.toInt = (16) ∧ ((16) : Int64) = v := ⟨_, rfl, rfl⟩
  rw [el3018]; clear el3018
  refine WP_callS3 dX11_told_13 ⟨⟨⟨by decide, by decide⟩, zX11_in⟩, lX11_52, tX11_in⟩ (sm_in hy hr hI l3016 l3017 l3018 ) (Nat.le_of_ble_eq_true rfl) ?_
  intro r Ia Ja Ra hq
  obtain ⟨⟨ea, eb, ec⟩, v3019, rfl, av3019, bv3019, cv3019⟩ := hq
  show WP _ _ _ _ (.int _ :: _) _ _ _ _
  rw [ea, eb, ec]
  clear ea eb ec Ia Ja Ra
  refine WQ_if_eq 29 dX11_told_16 rfl (fun c3019 => ?_) (fun c3019 => ?_)
  · refine WP_iload_n dX11_told_29 rfl ?_
    refine WQ_i2l dX11_told_30 (fun l3021 hl3021 => ?_)
    refine WP_ldc2 (20) dX11_told_31 klX11_357 ?_
    obtain ⟨l3022, hl3022, el3022⟩ : ∃ v : Int64, v.toInt = (20) ∧ ((20) : Int64) = v := ⟨_, rfl, rfl⟩
    rw [el3022]; clear el3022
    refine WP_ldc2 (59) dX11_told_34 klX11_359 ?_
    obtain ⟨l3023, hl3023, el3023⟩ : ∃ v : Int64, v.toInt = (59) ∧ ((59) : Int64) = v := ⟨_, rfl, rfl⟩
    rw [el3023]; clear el3023
    refine WP_callS3 dX11_told_37 ⟨⟨⟨by decide, by decide⟩, zX11_in⟩, lX11_52, tX11_in⟩ (sm_in hy hr hI l3021 l3022 l3023 ) (Nat.le_of_ble_eq_true rfl) ?_
    intro r Ia Ja Ra hq
    obtain ⟨⟨ea, eb, ec⟩, v3024, rfl, av3024, bv3024, cv3024⟩ := hq
    show WP _ _ _ _ (.int _ :: _) _ _ _ _
    rw [ea, eb, ec]
    clear ea eb ec Ia Ja Ra
    refine WQ_if_eq 107 dX11_told_40 rfl (fun c3024 => ?_) (fun c3024 => ?_)
    · refine WP_iload_n dX11_told_107 rfl ?_
      refine WQ_i2l dX11_told_108 (fun l3026 hl3026 => ?_)
      refine WP_ldc2 (60) dX11_told_109 klX11_361 ?_
      obtain ⟨l3027, hl3027, el3027⟩ : ∃ v : Int64, v.toInt = (60) ∧ ((60) : Int64) = v := ⟨_, rfl, rfl⟩
      rw [el3027]; clear el3027
      refine WP_ldc2 (79) dX11_told_112 klX11_363 ?_
      obtain ⟨l3028, hl3028, el3028⟩ : ∃ v : Int64, v.toInt = (79) ∧ ((79) : Int64) = v := ⟨_, rfl, rfl⟩
      rw [el3028]; clear el3028
      refine WP_callS3 dX11_told_115 ⟨⟨⟨by decide, by decide⟩, zX11_in⟩, lX11_52, tX11_in⟩ (sm_in hy hr hI l3026 l3027 l3028 ) (Nat.le_of_ble_eq_true rfl) ?_
      intro r Ia Ja Ra hq
      obtain ⟨⟨ea, eb, ec⟩, v3029, rfl, av3029, bv3029, cv3029⟩ := hq
      show WP _ _ _ _ (.int _ :: _) _ _ _ _
      rw [ea, eb, ec]
      clear ea eb ec Ia Ja Ra
      refine WQ_if_eq 155 dX11_told_118 rfl (fun c3029 => ?_) (fun c3029 => ?_)
      · refine WP_iload_n dX11_told_155 rfl ?_
        refine WP_tab 208 dX11_told_156 rfl rfl (fun c3030 => ?_) (fun j off c3030 hj => ?_) (by decide)
        · refine WQ_iconst (-1) (-1) dX11_told_208 rfl rfl (fun v3032 hv3032 => ?_)
          exact WP_iret dX11_told_209 rfl ⟨⟨rfl, rfl, rfl⟩, _, rfl⟩
        · have hlt : j < 4 := by have := (Array.getElem?_eq_some_iff.mp hj).1; simpa using this
          have hcs : (j = 0 ∧ off = 32) ∨ (j = 1 ∧ off = 37) ∨ (j = 2 ∧ off = 42) ∨ (j = 3 ∧ off = 47) := by
            match j, hlt, hj with
            | 0, _, hj => exact Or.inl ⟨rfl, (Option.some.inj hj).symm⟩
            | 1, _, hj => exact Or.inr (Or.inl ⟨rfl, (Option.some.inj hj).symm⟩)
            | 2, _, hj => exact Or.inr (Or.inr (Or.inl ⟨rfl, (Option.some.inj hj).symm⟩))
            | 3, _, hj => exact Or.inr (Or.inr (Or.inr (⟨rfl, (Option.some.inj hj).symm⟩)))
          clear hj hlt
          rcases hcs with ⟨rfl, rfl⟩ | ⟨rfl, rfl⟩ | ⟨rfl, rfl⟩ | ⟨rfl, rfl⟩
          · show WP _ _ 188 _ _ _ _ _ _
            refine WP_aload_n dX11_told_188 rfl ?_
            refine WQ_geti dX11_told_189 fX11_329 rfl (ly_is hy 0 11 rfl) (BT_get hI.1.1 0 10 11 (0) (0) (4) (by decide) 10 (by decide) (by decide)) (fun v3033 ev3033 av3033 bv3033 => ?_)
            exact WP_iret dX11_told_192 rfl ⟨⟨rfl, rfl, rfl⟩, _, rfl⟩
          · show WP _ _ 193 _ _ _ _ _ _
            refine WP_aload_n dX11_told_193 rfl ?_
            refine WQ_geti dX11_told_194 fX11_332 rfl (ly_is hy 0 11 rfl) (BT_get hI.1.1 0 11 12 (0) (0) (3) (by decide) 11 (by decide) (by decide)) (fun v3034 ev3034 av3034 bv3034 => ?_)
            exact WP_iret dX11_told_197 rfl ⟨⟨rfl, rfl, rfl⟩, _, rfl⟩
          · show WP _ _ 198 _ _ _ _ _ _
            refine WP_aload_n dX11_told_198 rfl ?_
            refine WQ_geti dX11_told_199 fX11_221 rfl (ly_is hy 0 11 rfl) (BT_get hI.1.1 0 13 14 (-1) (0) (3) (by decide) 13 (by decide) (by decide)) (fun v3035 ev3035 av3035 bv3035 => ?_)
            exact WP_iret dX11_told_202 rfl ⟨⟨rfl, rfl, rfl⟩, _, rfl⟩
          · show WP _ _ 203 _ _ _ _ _ _
            refine WP_aload_n dX11_told_203 rfl ?_
            refine WQ_geti dX11_told_204 fX11_224 rfl (ly_is hy 0 11 rfl) (BT_get hI.1.1 0 14 15 (-1) (0) (2) (by decide) 14 (by decide) (by decide)) (fun v3036 ev3036 av3036 bv3036 => ?_)
            exact WP_iret dX11_told_207 rfl ⟨⟨rfl, rfl, rfl⟩, _, rfl⟩
      · refine WP_iload_n dX11_told_121 rfl ?_
        refine WP_aload_n dX11_told_122 rfl ?_
        refine WQ_geti dX11_told_123 fX11_332 rfl (ly_is hy 0 11 rfl) (BT_get hI.1.1 0 11 12 (0) (0) (3) (by decide) 11 (by decide) (by decide)) (fun v3037 ev3037 av3037 bv3037 => ?_)
        refine WQ_icmp_lt 133 dX11_told_126 rfl (fun c3037 => ?_) (fun c3037 => ?_)
        · refine WP_iload_n dX11_told_133 rfl ?_
          refine WQ_bipush (70) (70) dX11_told_134 rfl rfl (fun v3039 hv3039 => ?_)
          refine WQ_icmp_ge 148 dX11_told_136 rfl (fun c3039 => ?_) (fun c3039 => ?_)
          · refine WP_aload_n dX11_told_148 rfl ?_
            refine WP_getr dX11_told_149 fX11_249 rfl (ly_is hy 0 11 rfl) (rf hr 0 31 13 (by decide)) ?_
            refine WP_iload_n dX11_told_152 rfl ?_
            refine WQ_iald dX11_told_153 (ly_is hy 13 13 rfl) (ly_n hy 13 3 rfl) (by omega) (by omega) (fun q hq => BT_get hI.1.1 13 0 3 (0) (0) (9) (by decide) q (Nat.zero_le _) hq) (fun v3041 av3041 bv3041 ev3041 => ?_)
            clear ev3041
            exact WP_iret dX11_told_154 rfl ⟨⟨rfl, rfl, rfl⟩, _, rfl⟩
          · refine WP_aload_n dX11_told_139 rfl ?_
            refine WP_getr dX11_told_140 fX11_246 rfl (ly_is hy 0 11 rfl) (rf hr 0 30 12 (by decide)) ?_
            refine WP_iload_n dX11_told_143 rfl ?_
            refine WQ_iald dX11_told_144 (ly_is hy 12 13 rfl) (ly_n hy 12 3 rfl) (by omega) (by omega) (fun q hq => BT_get hI.1.1 12 0 3 (0) (0) (1000) (by decide) q (Nat.zero_le _) hq) (fun v3042 av3042 bv3042 ev3042 => ?_)
            clear ev3042
            refine WP_goto 154 dX11_told_145 rfl ?_
            exact WP_iret dX11_told_154 rfl ⟨⟨rfl, rfl, rfl⟩, _, rfl⟩
        · refine WQ_iconst (-1) (-1) dX11_told_129 rfl rfl (fun v3043 hv3043 => ?_)
          refine WP_goto 154 dX11_told_130 rfl ?_
          exact WP_iret dX11_told_154 rfl ⟨⟨rfl, rfl, rfl⟩, _, rfl⟩
    · refine WP_iload_n dX11_told_43 rfl ?_
      refine WP_aload_n dX11_told_44 rfl ?_
      refine WQ_geti dX11_told_45 fX11_329 rfl (ly_is hy 0 11 rfl) (BT_get hI.1.1 0 10 11 (0) (0) (4) (by decide) 10 (by decide) (by decide)) (fun v3044 ev3044 av3044 bv3044 => ?_)
      refine WQ_icmp_lt 55 dX11_told_48 rfl (fun c3044 => ?_) (fun c3044 => ?_)
      · refine WP_iload_n dX11_told_55 rfl ?_
        refine WQ_bipush (30) (30) dX11_told_56 rfl rfl (fun v3046 hv3046 => ?_)
        refine WQ_icmp_ge 70 dX11_told_58 rfl (fun c3046 => ?_) (fun c3046 => ?_)
        · refine WP_iload_n dX11_told_70 rfl ?_
          refine WQ_bipush (40) (40) dX11_told_71 rfl rfl (fun v3048 hv3048 => ?_)
          refine WQ_icmp_ge 85 dX11_told_73 rfl (fun c3048 => ?_) (fun c3048 => ?_)
          · refine WP_iload_n dX11_told_85 rfl ?_
            refine WQ_bipush (50) (50) dX11_told_86 rfl rfl (fun v3050 hv3050 => ?_)
            refine WQ_icmp_ge 100 dX11_told_88 rfl (fun c3050 => ?_) (fun c3050 => ?_)
            · refine WP_aload_n dX11_told_100 rfl ?_
              refine WP_getr dX11_told_101 fX11_244 rfl (ly_is hy 0 11 rfl) (rf hr 0 29 11 (by decide)) ?_
              refine WP_iload_n dX11_told_104 rfl ?_
              refine WQ_iald dX11_told_105 (ly_is hy 11 13 rfl) (ly_n hy 11 4 rfl) (by omega) (by omega) (fun q hq => BT_get hI.1.1 11 0 4 (0) (0) (127) (by decide) q (Nat.zero_le _) hq) (fun v3052 av3052 bv3052 ev3052 => ?_)
              clear ev3052
              exact WP_iret dX11_told_106 rfl ⟨⟨rfl, rfl, rfl⟩, _, rfl⟩
            · refine WP_aload_n dX11_told_91 rfl ?_
              refine WP_getr dX11_told_92 fX11_241 rfl (ly_is hy 0 11 rfl) (rf hr 0 28 10 (by decide)) ?_
              refine WP_iload_n dX11_told_95 rfl ?_
              refine WQ_iald dX11_told_96 (ly_is hy 10 13 rfl) (ly_n hy 10 4 rfl) (by omega) (by omega) (fun q hq => BT_get hI.1.1 10 0 4 (0) (0) (60) (by decide) q (Nat.zero_le _) hq) (fun v3053 av3053 bv3053 ev3053 => ?_)
              clear ev3053
              refine WP_goto 106 dX11_told_97 rfl ?_
              exact WP_iret dX11_told_106 rfl ⟨⟨rfl, rfl, rfl⟩, _, rfl⟩
          · refine WP_aload_n dX11_told_76 rfl ?_
            refine WP_getr dX11_told_77 fX11_238 rfl (ly_is hy 0 11 rfl) (rf hr 0 27 9 (by decide)) ?_
            refine WP_iload_n dX11_told_80 rfl ?_
            refine WQ_iald dX11_told_81 (ly_is hy 9 13 rfl) (ly_n hy 9 4 rfl) (by omega) (by omega) (fun q hq => BT_get hI.1.1 9 0 4 (0) (0) (1000) (by decide) q (Nat.zero_le _) hq) (fun v3054 av3054 bv3054 ev3054 => ?_)
            clear ev3054
            refine WP_goto 106 dX11_told_82 rfl ?_
            exact WP_iret dX11_told_106 rfl ⟨⟨rfl, rfl, rfl⟩, _, rfl⟩
        · refine WP_aload_n dX11_told_61 rfl ?_
          refine WP_getr dX11_told_62 fX11_235 rfl (ly_is hy 0 11 rfl) (rf hr 0 26 8 (by decide)) ?_
          refine WP_iload_n dX11_told_65 rfl ?_
          refine WQ_iald dX11_told_66 (ly_is hy 8 13 rfl) (ly_n hy 8 4 rfl) (by omega) (by omega) (fun q hq => BT_get hI.1.1 8 0 4 (0) (0) (99) (by decide) q (Nat.zero_le _) hq) (fun v3055 av3055 bv3055 ev3055 => ?_)
          clear ev3055
          refine WP_goto 106 dX11_told_67 rfl ?_
          exact WP_iret dX11_told_106 rfl ⟨⟨rfl, rfl, rfl⟩, _, rfl⟩
      · refine WQ_iconst (-1) (-1) dX11_told_51 rfl rfl (fun v3056 hv3056 => ?_)
        refine WP_goto 106 dX11_told_52 rfl ?_
        exact WP_iret dX11_told_106 rfl ⟨⟨rfl, rfl, rfl⟩, _, rfl⟩
  · refine WP_aload_n dX11_told_19 rfl ?_
    refine WP_getr dX11_told_20 fX11_233 rfl (ly_is hy 0 11 rfl) (rf hr 0 24 6 (by decide)) ?_
    refine WP_iload_n dX11_told_23 rfl ?_
    refine WQ_bipush (10) (10) dX11_told_24 rfl rfl (fun v3057 hv3057 => ?_)
    refine WQ_isub dX11_told_26 (by omega) (by omega) (fun v3058 hv3058 => ?_)
    refine WQ_iald dX11_told_27 (ly_is hy 6 13 rfl) (ly_n hy 6 7 rfl) (by omega) (by omega) (fun q hq => BT_get hI.1.1 6 0 7 (0) (0) (900) (by decide) q (Nat.zero_le _) hq) (fun v3059 av3059 bv3059 ev3059 => ?_)
    clear ev3059
    exact WP_iret dX11_told_28 rfl ⟨⟨rfl, rfl, rfl⟩, _, rfl⟩
set_option maxHeartbeats 4000000 in
set_option maxRecDepth 100000 in
theorem sm_run {g : GG} {n : Int} {L : Int32} (hy : Ly g)  {I : pI} {J : pJ} {R : pR} (hr : Rf g R) (hI : MP g n L I) (a : Int32) (b : Int32)  : SP g mX11_run [.ref (ad g 0), .int a, .int b] I J R (fun r I' J' R' => (I' = I ∧ J' = J ∧ R' = R) ∧ ∃ v : Int32, r = some (.int v)) := by
  refine SP_of ⟨by decide, rfl⟩ (Nat.le_of_ble_eq_true rfl) ?_
  have e3060 : I (ad g 0) 1 = L := hI.1.2
  have b3061 := BT_get hI.1.1 0 1 2 (0) (0) (900) (by decide) 1 (by decide) (by decide)
  rw [e3060] at b3061
  refine WP_aload_n dX11_run_0 rfl ?_
  refine WP_iload_n dX11_run_1 rfl ?_
  refine WP_callV1 (k := 11) dX11_run_2 ⟨⟨⟨by decide, by decide⟩, zX11_isSort⟩, lX11_367, by decide, rfl, vX11_isSort.1, vX11_isSort.2⟩ (ly_is hy 0 11 rfl) (sm_isSort hy hr hI a ) (Nat.le_of_ble_eq_true rfl) ?_
  intro r Ia Ja Ra hq
  obtain ⟨⟨ea, eb, ec⟩, v3062, rfl, av3062, bv3062, cv3062⟩ := hq
  show WP _ _ _ _ (.int _ :: _) _ _ _ _
  rw [ea, eb, ec]
  clear ea eb ec Ia Ja Ra
  obtain ⟨w3063, ew3063⟩ : ∃ w : Int32, I (ad g 0) 10 = w := ⟨_, rfl⟩
  have bw3063 := BT_get hI.1.1 0 10 11 (0) (0) (4) (by decide) 10 (by decide) (by decide)
  rw [ew3063] at bw3063
  rw [ew3063] at cv3062
  refine WQ_if_eq 20 dX11_run_5 rfl (fun c3063 => ?_) (fun c3063 => ?_)
  · refine WQ_bipush (-2) (-2) dX11_run_20 rfl rfl (fun v3065 hv3065 => ?_)
    exact WP_iret dX11_run_22 rfl ⟨⟨rfl, rfl, rfl⟩, _, rfl⟩
  · refine WP_iload_n dX11_run_8 rfl ?_
    refine WQ_i2l dX11_run_9 (fun l3066 hl3066 => ?_)
    refine WP_lconst (0) dX11_run_10 rfl ?_
    obtain ⟨l3067, hl3067, el3067⟩ : ∃ v : Int64, v.toInt = 0 ∧ (0 : Int64) = v := ⟨_, rfl, rfl⟩
    rw [el3067]; clear el3067
    refine WP_ldc2 (6) dX11_run_11 klX11_365 ?_
    obtain ⟨l3068, hl3068, el3068⟩ : ∃ v : Int64, v.toInt = (6) ∧ ((6) : Int64) = v := ⟨_, rfl, rfl⟩
    rw [el3068]; clear el3068
    refine WP_callS3 dX11_run_14 ⟨⟨⟨by decide, by decide⟩, zX11_in⟩, lX11_52, tX11_in⟩ (sm_in hy hr hI l3066 l3067 l3068 ) (Nat.le_of_ble_eq_true rfl) ?_
    intro r Ia Ja Ra hq
    obtain ⟨⟨ea, eb, ec⟩, v3069, rfl, av3069, bv3069, cv3069⟩ := hq
    show WP _ _ _ _ (.int _ :: _) _ _ _ _
    rw [ea, eb, ec]
    clear ea eb ec Ia Ja Ra
    refine WQ_if_ne 23 dX11_run_17 rfl (fun c3069 => ?_) (fun c3069 => ?_)
    · refine WP_aload_n dX11_run_23 rfl ?_
      refine WP_getr dX11_run_24 fX11_283 rfl (ly_is hy 0 11 rfl) (rf hr 0 59 38 (by decide)) ?_
      refine WQ_iconst (4) (4) dX11_run_27 rfl rfl (fun v3071 hv3071 => ?_)
      refine WP_iload_n dX11_run_28 rfl ?_
      refine WQ_imulK (4) dX11_run_29 hv3071 (by omega) (by omega) (fun v3072 hv3072 => ?_)
      refine WP_iload_n dX11_run_30 rfl ?_
      refine WQ_iadd dX11_run_31 (by omega) (by omega) (fun v3073 hv3073 => ?_)
      refine WQ_ialdu dX11_run_32 (ly_is hy 38 13 rfl) (ly_n hy 38 35 rfl) (by omega) (by omega) (fun v3074 => ?_)
      exact WP_iret dX11_run_33 rfl ⟨⟨rfl, rfl, rfl⟩, _, rfl⟩
    · refine WQ_bipush (-2) (-2) dX11_run_20 rfl rfl (fun v3075 hv3075 => ?_)
      exact WP_iret dX11_run_22 rfl ⟨⟨rfl, rfl, rfl⟩, _, rfl⟩
