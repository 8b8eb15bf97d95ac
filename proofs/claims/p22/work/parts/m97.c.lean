set_option maxHeartbeats 4000000 in
set_option maxRecDepth 100000 in
theorem sm_findBest {g : GG} {n : Int} {L : Int32} (hy : Ly g)  {I : pI} {J : pJ} {R : pR} (hr : Rf g R) (hI : MP g n L I) (so : Int32) (da : Int32) (nn : Int32) (so_lo : 0 ≤ so.toInt) (so_hi : so.toInt ≤ 3) (da_lo : 0 ≤ da.toInt) (da_hi : da.toInt ≤ 6) (nn_lo : 1 ≤ nn.toInt) (nn_hi : nn.toInt ≤ 28) : SP g mX11_findBest [.ref (ad g 0), .int so, .int da, .int nn] I J R (fun r I' J' R' => (MP g n L I' ∧ R' = R ∧ fz 49 g [0, 35] I I' ∧ J' = J ∧ fs g [56] I I' ∧ True ∧ I' (ad g 0) 10 = I (ad g 0) 10 ∧ I' (ad g 0) 14 = I (ad g 0) 14 ∧ I' (ad g 0) 68 = I (ad g 0) 68) ∧ r = none) := by
  refine SP_of ⟨by decide, rfl⟩ (Nat.le_of_ble_eq_true rfl) ?_
  have e4536 : I (ad g 0) 1 = L := hI.1.2
  have b4537 := BT_get hI.1.1 0 1 2 (0) (0) (900) (by decide) 1 (by decide) (by decide)
  rw [e4536] at b4537
  have fr0 : fz 49 g [0, 35] I I := fz_rf
  have frq0 : fs g [56] I I := fs_rf
  obtain ⟨w4538, ew4538⟩ : ∃ w : Int32, I (ad g 0) 10 = w := ⟨_, rfl⟩
  have bw4538 := BT_get hI.1.1 0 10 11 (0) (0) (4) (by decide) 10 (by decide) (by decide)
  rw [ew4538] at bw4538
  obtain ⟨w4539, ew4539⟩ : ∃ w : Int32, I (ad g 0) 14 = w := ⟨_, rfl⟩
  have bw4539 := BT_get hI.1.1 0 14 15 (-1) (0) (2) (by decide) 14 (by decide) (by decide)
  rw [ew4539] at bw4539
  obtain ⟨w4540, ew4540⟩ : ∃ w : Int32, I (ad g 0) 68 = w := ⟨_, rfl⟩
  refine WQ_iconst (1) (1) dX11_findBest_0 rfl rfl (fun v4541 hv4541 => ?_)
  refine WP_istore (ls' := [(0, _), (1, _), (2, _), (3, _), (4, _)]) dX11_findBest_1 (by decide) rfl ?_
  have lp3_4547 : ∀ (mz : Nat) (i4542 : Int32) (I4543 : pI), MP g n L I4543 → fz 49 g [0, 35] I I4543 → fs g [56] I I4543 → ∀ (w4545 : Int32), I4543 (ad g 0) 10 = w4545 → ∀ (w4546 : Int32), I4543 (ad g 0) 14 = w4546 → ∀ (w4547 : Int32), I4543 (ad g 0) 68 = w4547 → 1 ≤ i4542.toInt → i4542.toInt ≤ 28 → w4545.toInt = w4538.toInt → w4546.toInt = w4539.toInt → w4547.toInt = w4540.toInt → (29 - i4542.toInt).toNat < mz → WP g mX11_findBest 3 [(0, .ref (ad g 0)), (1, .int so), (2, .int da), (3, .int nn), (4, .int i4542)] [] I4543 J R (fun r I' J' R' => (MP g n L I' ∧ R' = R ∧ fz 49 g [0, 35] I I' ∧ J' = J ∧ fs g [56] I I' ∧ True ∧ I' (ad g 0) 10 = I (ad g 0) 10 ∧ I' (ad g 0) 14 = I (ad g 0) 14 ∧ I' (ad g 0) 68 = I (ad g 0) 68) ∧ r = none) := by
    intro mz
    induction mz with
    | zero =>
      intro i4542 I4543 hI4543 fiI4543 fqI4543 w4545 ew4545 w4546 ew4546 w4547 ew4547 ai4542 bi4542 j0_I4543_4543 j1_I4543_4543 j2_I4543_4543 hmlp3_4547
      exact absurd hmlp3_4547 (Nat.not_lt_zero _)
    | succ mz ihlp3_4547 =>
      intro i4542 I4543 hI4543 fiI4543 fqI4543 w4545 ew4545 w4546 ew4546 w4547 ew4547 ai4542 bi4542 j0_I4543_4543 j1_I4543_4543 j2_I4543_4543 hmlp3_4547
      have bw4545 := BT_get hI4543.1.1 0 10 11 (0) (0) (4) (by decide) 10 (by decide) (by decide)
      rw [ew4545] at bw4545
      have bw4546 := BT_get hI4543.1.1 0 14 15 (-1) (0) (2) (by decide) 14 (by decide) (by decide)
      rw [ew4546] at bw4546
      have e4549 : I4543 (ad g 0) 1 = L := hI4543.1.2
      have b4550 := BT_get hI4543.1.1 0 1 2 (0) (0) (900) (by decide) 1 (by decide) (by decide)
      rw [e4549] at b4550
      refine WP_iload dX11_findBest_3 rfl ?_
      refine WP_iload_n dX11_findBest_5 rfl ?_
      refine WQ_icmp_ge 97 dX11_findBest_6 rfl (fun c4550 => ?_) (fun c4550 => ?_)
      · exact WP_vret dX11_findBest_97 rfl ⟨⟨hI4543, rfl, fiI4543, rfl, fqI4543, ⟨trivial, (by rw [ew4545, ew4538] <;> exact (eq32 _ _).mpr (by omega)), (by rw [ew4546, ew4539] <;> exact (eq32 _ _).mpr (by omega)), (by rw [ew4547, ew4540] <;> exact (eq32 _ _).mpr (by omega))⟩⟩, rfl⟩
      · refine WP_iload_n dX11_findBest_9 rfl ?_
        refine WP_iload_n dX11_findBest_10 rfl ?_
        refine WQ_iadd dX11_findBest_11 (by omega) (by omega) (fun v4552 hv4552 => ?_)
        refine WP_iload dX11_findBest_12 rfl ?_
        refine WQ_isub dX11_findBest_14 (by omega) (by omega) (fun v4553 hv4553 => ?_)
        refine WQ_bipush (7) (7) dX11_findBest_15 rfl rfl (fun v4554 hv4554 => ?_)
        refine WQ_iremi (7) dX11_findBest_17 hv4554 (by decide) (fun v4555 hv4555 => ?_)
        refine WP_istore (ls' := [(0, _), (1, _), (2, _), (3, _), (4, _), (5, _)]) dX11_findBest_18 (by decide) rfl ?_
        refine WQ_iconst (0) (0) dX11_findBest_20 rfl rfl (fun v4556 hv4556 => ?_)
        refine WP_istore (ls' := [(0, _), (1, _), (2, _), (3, _), (4, _), (5, _), (6, _)]) dX11_findBest_21 (by decide) rfl ?_
        have lp23_4562 : ∀ (mz : Nat) (i4557 : Int32) (I4558 : pI), MP g n L I4558 → fz 49 g [0, 35] I I4558 → fs g [56] I I4558 → ∀ (w4560 : Int32), I4558 (ad g 0) 10 = w4560 → ∀ (w4561 : Int32), I4558 (ad g 0) 14 = w4561 → ∀ (w4562 : Int32), I4558 (ad g 0) 68 = w4562 → 0 ≤ i4557.toInt → i4557.toInt ≤ 61 → w4560.toInt = w4538.toInt → w4561.toInt = w4539.toInt → w4562.toInt = w4540.toInt → (62 - i4557.toInt).toNat < mz → WP g mX11_findBest 23 [(0, .ref (ad g 0)), (1, .int so), (2, .int da), (3, .int nn), (4, .int i4542), (5, .int v4555), (6, .int i4557)] [] I4558 J R (fun r I' J' R' => (MP g n L I' ∧ R' = R ∧ fz 49 g [0, 35] I I' ∧ J' = J ∧ fs g [56] I I' ∧ True ∧ I' (ad g 0) 10 = I (ad g 0) 10 ∧ I' (ad g 0) 14 = I (ad g 0) 14 ∧ I' (ad g 0) 68 = I (ad g 0) 68) ∧ r = none) := by
          intro mz
          induction mz with
          | zero =>
            intro i4557 I4558 hI4558 fiI4558 fqI4558 w4560 ew4560 w4561 ew4561 w4562 ew4562 ai4557 bi4557 j0_I4558_4558 j1_I4558_4558 j2_I4558_4558 hmlp23_4562
            exact absurd hmlp23_4562 (Nat.not_lt_zero _)
          | succ mz ihlp23_4562 =>
            intro i4557 I4558 hI4558 fiI4558 fqI4558 w4560 ew4560 w4561 ew4561 w4562 ew4562 ai4557 bi4557 j0_I4558_4558 j1_I4558_4558 j2_I4558_4558 hmlp23_4562
            have bw4560 := BT_get hI4558.1.1 0 10 11 (0) (0) (4) (by decide) 10 (by decide) (by decide)
            rw [ew4560] at bw4560
            have bw4561 := BT_get hI4558.1.1 0 14 15 (-1) (0) (2) (by decide) 14 (by decide) (by decide)
            rw [ew4561] at bw4561
            have e4564 : I4558 (ad g 0) 1 = L := hI4558.1.2
            have b4565 := BT_get hI4558.1.1 0 1 2 (0) (0) (900) (by decide) 1 (by decide) (by decide)
            rw [e4564] at b4565
            refine WP_iload dX11_findBest_23 rfl ?_
            refine WQ_bipush (60) (60) dX11_findBest_25 rfl rfl (fun v4566 hv4566 => ?_)
            refine WQ_icmp_gt 91 dX11_findBest_27 rfl (fun c4566 => ?_) (fun c4566 => ?_)
            · refine WP_iinc (ls' := [(0, _), (1, _), (2, _), (3, _), (4, _), (5, _), (6, _)]) dX11_findBest_91 rfl (by decide) rfl ?_
              have hv4568 : (i4542 + Int32.ofInt (1)).toInt = i4542.toInt + (1) := ia_n rfl (by omega) (by omega)
              generalize i4542 + Int32.ofInt (1) = v4568 at hv4568 ⊢
              refine WP_goto 3 dX11_findBest_94 rfl ?_
              exact WP_sub (fc rfl (fc rfl (fc rfl (fc rfl (fc rfl fn))))) (ihlp3_4547 v4568 I4558 hI4558 fiI4558 fqI4558 w4560 ew4560 w4561 ew4561 w4562 ew4562 (by omega) (by omega) (by omega) (by omega) (by omega) (by omega))
            · refine WQ_iconst (0) (0) dX11_findBest_30 rfl rfl (fun v4569 hv4569 => ?_)
              refine WP_istore (ls' := [(0, _), (1, _), (2, _), (3, _), (4, _), (5, _), (6, _), (7, _)]) dX11_findBest_31 (by decide) rfl ?_
              have lp33_4575 : ∀ (mz : Nat) (i4570 : Int32) (I4571 : pI), MP g n L I4571 → fz 49 g [0, 35] I I4571 → fs g [56] I I4571 → ∀ (w4573 : Int32), I4571 (ad g 0) 10 = w4573 → ∀ (w4574 : Int32), I4571 (ad g 0) 14 = w4574 → ∀ (w4575 : Int32), I4571 (ad g 0) 68 = w4575 → 0 ≤ i4570.toInt → i4570.toInt ≤ 6 → w4573.toInt = w4538.toInt → w4574.toInt = w4539.toInt → w4575.toInt = w4540.toInt → (7 - i4570.toInt).toNat < mz → WP g mX11_findBest 33 [(0, .ref (ad g 0)), (1, .int so), (2, .int da), (3, .int nn), (4, .int i4542), (5, .int v4555), (6, .int i4557), (7, .int i4570)] [] I4571 J R (fun r I' J' R' => (MP g n L I' ∧ R' = R ∧ fz 49 g [0, 35] I I' ∧ J' = J ∧ fs g [56] I I' ∧ True ∧ I' (ad g 0) 10 = I (ad g 0) 10 ∧ I' (ad g 0) 14 = I (ad g 0) 14 ∧ I' (ad g 0) 68 = I (ad g 0) 68) ∧ r = none) := by
                intro mz
                induction mz with
                | zero =>
                  intro i4570 I4571 hI4571 fiI4571 fqI4571 w4573 ew4573 w4574 ew4574 w4575 ew4575 ai4570 bi4570 j0_I4571_4571 j1_I4571_4571 j2_I4571_4571 hmlp33_4575
                  exact absurd hmlp33_4575 (Nat.not_lt_zero _)
                | succ mz ihlp33_4575 =>
                  intro i4570 I4571 hI4571 fiI4571 fqI4571 w4573 ew4573 w4574 ew4574 w4575 ew4575 ai4570 bi4570 j0_I4571_4571 j1_I4571_4571 j2_I4571_4571 hmlp33_4575
                  have bw4573 := BT_get hI4571.1.1 0 10 11 (0) (0) (4) (by decide) 10 (by decide) (by decide)
                  rw [ew4573] at bw4573
                  have bw4574 := BT_get hI4571.1.1 0 14 15 (-1) (0) (2) (by decide) 14 (by decide) (by decide)
                  rw [ew4574] at bw4574
                  have e4577 : I4571 (ad g 0) 1 = L := hI4571.1.2
                  have b4578 := BT_get hI4571.1.1 0 1 2 (0) (0) (900) (by decide) 1 (by decide) (by decide)
                  rw [e4577] at b4578
                  refine WP_iload dX11_findBest_33 rfl ?_
                  refine WQ_iconst (5) (5) dX11_findBest_35 rfl rfl (fun v4579 hv4579 => ?_)
                  refine WQ_icmp_gt 85 dX11_findBest_36 rfl (fun c4579 => ?_) (fun c4579 => ?_)
                  · refine WP_iinc (ls' := [(0, _), (1, _), (2, _), (3, _), (4, _), (5, _), (6, _), (7, _)]) dX11_findBest_85 rfl (by decide) rfl ?_
                    have hv4581 : (i4557 + Int32.ofInt (1)).toInt = i4557.toInt + (1) := ia_n rfl (by omega) (by omega)
                    generalize i4557 + Int32.ofInt (1) = v4581 at hv4581 ⊢
                    refine WP_goto 23 dX11_findBest_88 rfl ?_
                    exact WP_sub (fc rfl (fc rfl (fc rfl (fc rfl (fc rfl (fc rfl (fc rfl fn))))))) (ihlp23_4562 v4581 I4571 hI4571 fiI4571 fqI4571 w4573 ew4573 w4574 ew4574 w4575 ew4575 (by omega) (by omega) (by omega) (by omega) (by omega) (by omega))
                  · refine WP_aload_n dX11_findBest_39 rfl ?_
                    refine WP_getr dX11_findBest_40 fX11_270 rfl (ly_is hy 0 11 rfl) (rf hr 0 54 35 (by decide)) ?_
                    refine WQ_sipush (366) (366) dX11_findBest_43 rfl rfl (fun v4582 hv4582 => ?_)
                    refine WP_iload dX11_findBest_46 rfl ?_
                    refine WQ_imulK (366) dX11_findBest_48 hv4582 (by omega) (by omega) (fun v4583 hv4583 => ?_)
                    refine WQ_bipush (6) (6) dX11_findBest_49 rfl rfl (fun v4584 hv4584 => ?_)
                    refine WP_iload dX11_findBest_51 rfl ?_
                    refine WQ_imulK (6) dX11_findBest_53 hv4584 (by omega) (by omega) (fun v4585 hv4585 => ?_)
                    refine WQ_iadd dX11_findBest_54 (by omega) (by omega) (fun v4586 hv4586 => ?_)
                    refine WP_iload dX11_findBest_55 rfl ?_
                    refine WQ_iadd dX11_findBest_57 (by omega) (by omega) (fun v4587 hv4587 => ?_)
                    refine WP_aload_n dX11_findBest_58 rfl ?_
                    refine WP_iload_n dX11_findBest_59 rfl ?_
                    refine WP_iload dX11_findBest_60 rfl ?_
                    refine WP_aload_n dX11_findBest_62 rfl ?_
                    refine WP_iload_n dX11_findBest_63 rfl ?_
                    refine WP_iload dX11_findBest_64 rfl ?_
                    refine WP_iload dX11_findBest_66 rfl ?_
                    refine WP_callV3 (k := 11) dX11_findBest_68 ⟨⟨⟨by decide, by decide⟩, zX11_earned⟩, lX11_426, by decide, rfl, vX11_earned.1, vX11_earned.2⟩ (ly_is hy 0 11 rfl) (sm_earned hy hr hI4571 so v4555 i4557 (by omega) (by omega) (by omega) (by omega) (by omega) (by omega)) (Nat.le_of_ble_eq_true rfl) ?_
                    intro r Ia Ja Ra hq
                    obtain ⟨⟨ea, eb, ec⟩, v4588, rfl, av4588, bv4588⟩ := hq
                    show WP _ _ _ _ (.int _ :: _) _ _ _ _
                    rw [ea, eb, ec]
                    clear ea eb ec Ia Ja Ra
                    refine WP_iload dX11_findBest_71 rfl ?_
                    refine WP_iload dX11_findBest_73 rfl ?_
                    refine WP_callV5 (k := 11) dX11_findBest_75 ⟨⟨⟨by decide, by decide⟩, zX11_bestFrom⟩, lX11_429, by decide, rfl, vX11_bestFrom.1, vX11_bestFrom.2⟩ (ly_is hy 0 11 rfl) (sm_bestFrom hy hr hI4571 so v4555 v4588 i4570 i4542 (by omega) (by omega) (by omega) (by omega) (by omega) (by omega) (by omega) (by omega) (by omega) (by omega)) (Nat.le_of_ble_eq_true rfl) ?_
                    intro r I4589 J4590 Ra hq
                    obtain ⟨⟨hI4589, ec, fiI4589, ejI4589, fqI4589, ⟨pI4589, sI4589_0_10, sI4589_0_14, sI4589_0_68⟩⟩, v4591, rfl, av4591, bv4591, cv4591⟩ := hq
                    show WP _ _ _ _ (.int _ :: _) _ _ _ _
                    rw [ec]
                    clear ec Ra
                    have fr4592 : fz 49 g [0, 35] I I4589 := fz_tr fiI4571 (fz_mono fiI4589 (by decide))
                    have fr4593 : fs g [56] I I4589 := fs_tr fqI4571 (fs_mono fqI4589 (by decide))
                    rw [ejI4589]
                    clear ejI4589 J4590
                    have e4594 : I4589 (ad g 0) 10 = w4573 := by rw [sI4589_0_10]; exact ew4573
                    have e4595 : I4589 (ad g 0) 14 = w4574 := by rw [sI4589_0_14]; exact ew4574
                    have e4596 : I4589 (ad g 0) 68 = w4575 := by rw [sI4589_0_68]; exact ew4575
                    have e4597 : I4589 (ad g 0) 1 = L := hI4589.1.2
                    have b4598 := BT_get hI4589.1.1 0 1 2 (0) (0) (900) (by decide) 1 (by decide) (by decide)
                    rw [e4597] at b4598
                    refine WQ_iast dX11_findBest_78 (ly_is hy 35 13 rfl) (ly_n hy 35 10614 rfl) (by omega) (by omega) (fun I4599 eI4599 => ?_)
                    have hI4599 : MP g n L I4599 := by rw [eI4599]; exact (mp_w35 hy hI4589 (k := i4542.toInt.toNat) (r := (6 * i4557.toInt + i4570.toInt).toNat) (mi_r0 hy hI4589.1 (c := 35) (by decide) (Or.inl (by decide)) (by decide)) (by omega) (by omega) (by rw [cl (n := v4587.toInt.toNat) (by omega)]; omega) (by omega))
                    have e4600 : I4599 (ad g 0) 10 = w4573 := by rw [eI4599, pp_ne _ _ (Or.inl (ly_ne hy (by decide) (by decide) (by decide)))]; exact e4594
                    have e4601 : I4599 (ad g 0) 14 = w4574 := by rw [eI4599, pp_ne _ _ (Or.inl (ly_ne hy (by decide) (by decide) (by decide)))]; exact e4595
                    have e4602 : I4599 (ad g 0) 68 = w4575 := by rw [eI4599, pp_ne _ _ (Or.inl (ly_ne hy (by decide) (by decide) (by decide)))]; exact e4596
                    have e4603 : I4599 (ad g 0) 1 = L := by rw [eI4599, pp_ne _ _ (Or.inl (ly_ne hy (by decide) (by decide) (by decide)))]; exact e4597
                    have fr4604 : fs g [56] I I4599 := by rw [eI4599]; exact fs_ppn hy fr4593 (by decide) (by decide)
                    have fr4605 : fz 49 g [0, 35] I I4599 := by rw [eI4599]; exact fzm_pp hy fr4592 (by decide) (by decide)
                    clear eI4599
                    refine WP_iinc (ls' := [(0, _), (1, _), (2, _), (3, _), (4, _), (5, _), (6, _), (7, _)]) dX11_findBest_79 rfl (by decide) rfl ?_
                    have hv4606 : (i4570 + Int32.ofInt (1)).toInt = i4570.toInt + (1) := ia_n rfl (by omega) (by omega)
                    generalize i4570 + Int32.ofInt (1) = v4606 at hv4606 ⊢
                    refine WP_goto 33 dX11_findBest_82 rfl ?_
                    exact WP_sub (fc rfl (fc rfl (fc rfl (fc rfl (fc rfl (fc rfl (fc rfl (fc rfl fn)))))))) (ihlp33_4575 v4606 I4599 hI4599 fr4605 fr4604 w4573 e4600 w4574 e4601 w4575 e4602 (by omega) (by omega) (by omega) (by omega) (by omega) (by omega))
              exact WP_sub (fc rfl (fc rfl (fc rfl (fc rfl (fc rfl (fc rfl (fc rfl (fc rfl fn)))))))) (lp33_4575 _ v4569 I4558 hI4558 fiI4558 fqI4558 w4560 ew4560 w4561 ew4561 w4562 ew4562 (by omega) (by omega) (by omega) (by omega) (by omega) (Nat.lt_succ_self _))
        exact WP_sub (fc rfl (fc rfl (fc rfl (fc rfl (fc rfl (fc rfl (fc rfl fn))))))) (lp23_4562 _ v4556 I4543 hI4543 fiI4543 fqI4543 w4545 ew4545 w4546 ew4546 w4547 ew4547 (by omega) (by omega) (by omega) (by omega) (by omega) (Nat.lt_succ_self _))
  exact WP_sub (fc rfl (fc rfl (fc rfl (fc rfl (fc rfl fn))))) (lp3_4547 _ v4541 I hI fr0 frq0 w4538 ew4538 w4539 ew4539 w4540 ew4540 (by omega) (by omega) (by omega) (by omega) (by omega) (Nat.lt_succ_self _))
set_option maxHeartbeats 4000000 in
set_option maxRecDepth 100000 in
theorem sm_findWeek {g : GG} {n : Int} {L : Int32} (hy : Ly g)  {I : pI} {J : pJ} {R : pR} (hr : Rf g R) (hI : MP g n L I) (so : Int32) (da : Int32) (so_lo : 0 ≤ so.toInt) (so_hi : so.toInt ≤ 3) (da_lo : 0 ≤ da.toInt) (da_hi : da.toInt ≤ 6) : SP g mX11_findWeek [.ref (ad g 0), .int so, .int da] I J R (fun r I' J' R' => (MP g n L I' ∧ R' = R ∧ fz 49 g [0, 35, 36, 37] I I' ∧ J' = J ∧ fs g [56] I I' ∧ True ∧ I' (ad g 0) 10 = I (ad g 0) 10 ∧ I' (ad g 0) 14 = I (ad g 0) 14 ∧ I' (ad g 0) 68 = I (ad g 0) 68) ∧ r = none) := by
  refine SP_of ⟨by decide, rfl⟩ (Nat.le_of_ble_eq_true rfl) ?_
  have e4607 : I (ad g 0) 1 = L := hI.1.2
  have b4608 := BT_get hI.1.1 0 1 2 (0) (0) (900) (by decide) 1 (by decide) (by decide)
  rw [e4607] at b4608
  have fr0 : fz 49 g [0, 35, 36, 37] I I := fz_rf
  have frq0 : fs g [56] I I := fs_rf
  obtain ⟨w4609, ew4609⟩ : ∃ w : Int32, I (ad g 0) 10 = w := ⟨_, rfl⟩
  have bw4609 := BT_get hI.1.1 0 10 11 (0) (0) (4) (by decide) 10 (by decide) (by decide)
  rw [ew4609] at bw4609
  obtain ⟨w4610, ew4610⟩ : ∃ w : Int32, I (ad g 0) 14 = w := ⟨_, rfl⟩
  have bw4610 := BT_get hI.1.1 0 14 15 (-1) (0) (2) (by decide) 14 (by decide) (by decide)
  rw [ew4610] at bw4610
  obtain ⟨w4611, ew4611⟩ : ∃ w : Int32, I (ad g 0) 68 = w := ⟨_, rfl⟩
  refine WQ_bipush (7) (7) dX11_findWeek_0 rfl rfl (fun v4612 hv4612 => ?_)
  refine WP_iload_n dX11_findWeek_2 rfl ?_
  refine WQ_imulK (7) dX11_findWeek_3 hv4612 (by omega) (by omega) (fun v4613 hv4613 => ?_)
  refine WP_iload_n dX11_findWeek_4 rfl ?_
  refine WQ_iadd dX11_findWeek_5 (by omega) (by omega) (fun v4614 hv4614 => ?_)
  refine WP_istore_n (ls' := [(0, _), (1, _), (2, _), (3, _)]) dX11_findWeek_6 (by decide) rfl ?_
  refine WQ_sipush (2196) (2196) dX11_findWeek_7 rfl rfl (fun v4615 hv4615 => ?_)
  refine WP_istore (ls' := [(0, _), (1, _), (2, _), (3, _), (4, _)]) dX11_findWeek_10 (by decide) rfl ?_
  refine WP_aload_n dX11_findWeek_12 rfl ?_
  refine WP_getr dX11_findWeek_13 fX11_279 rfl (ly_is hy 0 11 rfl) (rf hr 0 58 37 (by decide)) ?_
  refine WP_iload_n dX11_findWeek_16 rfl ?_
  refine WQ_zaldu dX11_findWeek_17 (ly_is hy 37 15 rfl) (ly_n hy 37 28 rfl) (by omega) (by omega) (fun v4616 => ?_)
  refine WQ_if_eq 62 dX11_findWeek_18 rfl (fun c4616 => ?_) (fun c4616 => ?_)
  · refine WP_aload_n dX11_findWeek_62 rfl ?_
    refine WP_iload_n dX11_findWeek_63 rfl ?_
    refine WP_iload_n dX11_findWeek_64 rfl ?_
    refine WQ_bipush (7) (7) dX11_findWeek_65 rfl rfl (fun v4618 hv4618 => ?_)
    refine WP_callV3 (k := 11) dX11_findWeek_67 ⟨⟨⟨by decide, by decide⟩, zX11_findBest⟩, lX11_438, by decide, rfl, vX11_findBest.1, vX11_findBest.2⟩ (ly_is hy 0 11 rfl) (sm_findBest hy hr hI so da v4618 (by omega) (by omega) (by omega) (by omega) (by omega) (by omega)) (Nat.le_of_ble_eq_true rfl) ?_
    intro r I4619 J4620 Ra hq
    obtain ⟨⟨hI4619, ec, fiI4619, ejI4619, fqI4619, ⟨pI4619, sI4619_0_10, sI4619_0_14, sI4619_0_68⟩⟩, rfl⟩ := hq
    rw [ec]
    clear ec Ra
    have fr4621 : fz 49 g [0, 35, 36, 37] I I4619 := fz_tr fr0 (fz_mono fiI4619 (by decide))
    have fr4622 : fs g [56] I I4619 := fs_tr frq0 (fs_mono fqI4619 (by decide))
    rw [ejI4619]
    clear ejI4619 J4620
    have e4623 : I4619 (ad g 0) 10 = w4609 := by rw [sI4619_0_10]; exact ew4609
    have e4624 : I4619 (ad g 0) 14 = w4610 := by rw [sI4619_0_14]; exact ew4610
    have e4625 : I4619 (ad g 0) 68 = w4611 := by rw [sI4619_0_68]; exact ew4611
    have e4626 : I4619 (ad g 0) 1 = L := hI4619.1.2
    have b4627 := BT_get hI4619.1.1 0 1 2 (0) (0) (900) (by decide) 1 (by decide) (by decide)
    rw [e4626] at b4627
    refine WP_aload_n dX11_findWeek_70 rfl ?_
    refine WP_getr dX11_findWeek_71 fX11_279 rfl (ly_is hy 0 11 rfl) (rf hr 0 58 37 (by decide)) ?_
    refine WP_iload_n dX11_findWeek_74 rfl ?_
    refine WQ_iconst (1) (1) dX11_findWeek_75 rfl rfl (fun v4628 hv4628 => ?_)
    refine WQ_zast dX11_findWeek_76 (ly_is hy 37 15 rfl) (ly_n hy 37 28 rfl) (by omega) (by omega) (fun I4629 v4630 eI4629 => ?_)
    have hI4629 : MP g n L I4629 := by rw [eI4629]; exact (mp_w hy hI4619 (c := 37) (mi_r0 hy hI4619.1 (c := 37) (by decide) (Or.inl (by decide)) (by decide)) (by decide) (by decide) (Or.inl (by decide)))
    have e4631 : I4629 (ad g 0) 10 = w4609 := by rw [eI4629, pp_ne _ _ (Or.inl (ly_ne hy (by decide) (by decide) (by decide)))]; exact e4623
    have e4632 : I4629 (ad g 0) 14 = w4610 := by rw [eI4629, pp_ne _ _ (Or.inl (ly_ne hy (by decide) (by decide) (by decide)))]; exact e4624
    have e4633 : I4629 (ad g 0) 68 = w4611 := by rw [eI4629, pp_ne _ _ (Or.inl (ly_ne hy (by decide) (by decide) (by decide)))]; exact e4625
    have e4634 : I4629 (ad g 0) 1 = L := by rw [eI4629, pp_ne _ _ (Or.inl (ly_ne hy (by decide) (by decide) (by decide)))]; exact e4626
    have fr4635 : fs g [56] I I4629 := by rw [eI4629]; exact fs_ppn hy fr4622 (by decide) (by decide)
    have fr4636 : fz 49 g [0, 35, 36, 37] I I4629 := by rw [eI4629]; exact fzm_pp hy fr4621 (by decide) (by decide)
    clear eI4629
    refine WQ_iconst (0) (0) dX11_findWeek_77 rfl rfl (fun v4637 hv4637 => ?_)
    refine WP_istore (ls' := [(0, _), (1, _), (2, _), (3, _), (4, _), (5, _)]) dX11_findWeek_78 (by decide) rfl ?_
    have lp80_4643 : ∀ (mz : Nat) (i4638 : Int32) (I4639 : pI), MP g n L I4639 → fz 49 g [0, 35, 36, 37] I I4639 → fs g [56] I I4639 → ∀ (w4641 : Int32), I4639 (ad g 0) 10 = w4641 → ∀ (w4642 : Int32), I4639 (ad g 0) 14 = w4642 → ∀ (w4643 : Int32), I4639 (ad g 0) 68 = w4643 → 0 ≤ i4638.toInt → i4638.toInt ≤ 366 → w4641.toInt = w4609.toInt → w4642.toInt = w4610.toInt → w4643.toInt = w4611.toInt → (367 - i4638.toInt).toNat < mz → WP g mX11_findWeek 80 [(0, .ref (ad g 0)), (1, .int so), (2, .int da), (3, .int v4614), (4, .int v4615), (5, .int i4638)] [] I4639 J R (fun r I' J' R' => (MP g n L I' ∧ R' = R ∧ fz 49 g [0, 35, 36, 37] I I' ∧ J' = J ∧ fs g [56] I I' ∧ True ∧ I' (ad g 0) 10 = I (ad g 0) 10 ∧ I' (ad g 0) 14 = I (ad g 0) 14 ∧ I' (ad g 0) 68 = I (ad g 0) 68) ∧ r = none) := by
      intro mz
      induction mz with
      | zero =>
        intro i4638 I4639 hI4639 fiI4639 fqI4639 w4641 ew4641 w4642 ew4642 w4643 ew4643 ai4638 bi4638 j0_I4639_4639 j1_I4639_4639 j2_I4639_4639 hmlp80_4643
        exact absurd hmlp80_4643 (Nat.not_lt_zero _)
      | succ mz ihlp80_4643 =>
        intro i4638 I4639 hI4639 fiI4639 fqI4639 w4641 ew4641 w4642 ew4642 w4643 ew4643 ai4638 bi4638 j0_I4639_4639 j1_I4639_4639 j2_I4639_4639 hmlp80_4643
        have bw4641 := BT_get hI4639.1.1 0 10 11 (0) (0) (4) (by decide) 10 (by decide) (by decide)
        rw [ew4641] at bw4641
        have bw4642 := BT_get hI4639.1.1 0 14 15 (-1) (0) (2) (by decide) 14 (by decide) (by decide)
        rw [ew4642] at bw4642
        have e4645 : I4639 (ad g 0) 1 = L := hI4639.1.2
        have b4646 := BT_get hI4639.1.1 0 1 2 (0) (0) (900) (by decide) 1 (by decide) (by decide)
        rw [e4645] at b4646
        refine WP_iload dX11_findWeek_80 rfl ?_
        refine WQ_sipush (366) (366) dX11_findWeek_82 rfl rfl (fun v4647 hv4647 => ?_)
        refine WQ_icmp_ge 117 dX11_findWeek_85 rfl (fun c4647 => ?_) (fun c4647 => ?_)
        · exact WP_vret dX11_findWeek_117 rfl ⟨⟨hI4639, rfl, fiI4639, rfl, fqI4639, ⟨trivial, (by rw [ew4641, ew4609] <;> exact (eq32 _ _).mpr (by omega)), (by rw [ew4642, ew4610] <;> exact (eq32 _ _).mpr (by omega)), (by rw [ew4643, ew4611] <;> exact (eq32 _ _).mpr (by omega))⟩⟩, rfl⟩
        · refine WP_aload_n dX11_findWeek_88 rfl ?_
          refine WP_getr dX11_findWeek_89 fX11_276 rfl (ly_is hy 0 11 rfl) (rf hr 0 57 36 (by decide)) ?_
          refine WQ_sipush (366) (366) dX11_findWeek_92 rfl rfl (fun v4649 hv4649 => ?_)
          refine WP_iload_n dX11_findWeek_95 rfl ?_
          refine WQ_imulK (366) dX11_findWeek_96 hv4649 (by omega) (by omega) (fun v4650 hv4650 => ?_)
          refine WP_iload dX11_findWeek_97 rfl ?_
          refine WQ_iadd dX11_findWeek_99 (by omega) (by omega) (fun v4651 hv4651 => ?_)
          refine WP_aload_n dX11_findWeek_100 rfl ?_
          refine WP_getr dX11_findWeek_101 fX11_270 rfl (ly_is hy 0 11 rfl) (rf hr 0 54 35 (by decide)) ?_
          refine WP_iload dX11_findWeek_104 rfl ?_
          refine WP_iload dX11_findWeek_106 rfl ?_
          refine WQ_iadd dX11_findWeek_108 (by omega) (by omega) (fun v4652 hv4652 => ?_)
          refine WQ_ialdf (q := v4652.toInt.toNat) dX11_findWeek_109 (ly_is hy 35 13 rfl) (ly_n hy 35 10614 rfl) (by omega) (by omega) (by omega) (mb_get hI4639 (k := 6) (r := i4638.toInt.toNat) (by decide) (by omega) (by omega)) (fun v4653 av4653 bv4653 => ?_)
          refine WQ_iast dX11_findWeek_110 (ly_is hy 36 13 rfl) (ly_n hy 36 10248 rfl) (by omega) (by omega) (fun I4654 eI4654 => ?_)
          have hI4654 : MP g n L I4654 := by rw [eI4654]; exact (mp_w hy hI4639 (c := 36) (mi_r hy hI4639.1 (c := 36) (0) (0) (3564) (by decide) (Or.inl (by decide)) (by decide) (by omega) (by omega)) (by decide) (by decide) (Or.inl (by decide)))
          have e4655 : I4654 (ad g 0) 10 = w4641 := by rw [eI4654, pp_ne _ _ (Or.inl (ly_ne hy (by decide) (by decide) (by decide)))]; exact ew4641
          have e4656 : I4654 (ad g 0) 14 = w4642 := by rw [eI4654, pp_ne _ _ (Or.inl (ly_ne hy (by decide) (by decide) (by decide)))]; exact ew4642
          have e4657 : I4654 (ad g 0) 68 = w4643 := by rw [eI4654, pp_ne _ _ (Or.inl (ly_ne hy (by decide) (by decide) (by decide)))]; exact ew4643
          have e4658 : I4654 (ad g 0) 1 = L := by rw [eI4654, pp_ne _ _ (Or.inl (ly_ne hy (by decide) (by decide) (by decide)))]; exact e4645
          have fr4659 : fs g [56] I I4654 := by rw [eI4654]; exact fs_ppn hy fqI4639 (by decide) (by decide)
          have fr4660 : fz 49 g [0, 35, 36, 37] I I4654 := by rw [eI4654]; exact fzm_pp hy fiI4639 (by decide) (by decide)
          clear eI4654
          refine WP_iinc (ls' := [(0, _), (1, _), (2, _), (3, _), (4, _), (5, _)]) dX11_findWeek_111 rfl (by decide) rfl ?_
          have hv4661 : (i4638 + Int32.ofInt (1)).toInt = i4638.toInt + (1) := ia_n rfl (by omega) (by omega)
          generalize i4638 + Int32.ofInt (1) = v4661 at hv4661 ⊢
          refine WP_goto 80 dX11_findWeek_114 rfl ?_
          exact WP_sub (fc rfl (fc rfl (fc rfl (fc rfl (fc rfl (fc rfl fn)))))) (ihlp80_4643 v4661 I4654 hI4654 fr4660 fr4659 w4641 e4655 w4642 e4656 w4643 e4657 (by omega) (by omega) (by omega) (by omega) (by omega) (by omega))
    exact WP_sub (fc rfl (fc rfl (fc rfl (fc rfl (fc rfl (fc rfl fn)))))) (lp80_4643 _ v4637 I4629 hI4629 fr4636 fr4635 w4609 e4631 w4610 e4632 w4611 e4633 (by omega) (by omega) (by omega) (by omega) (by omega) (Nat.lt_succ_self _))
  · refine WQ_iconst (0) (0) dX11_findWeek_21 rfl rfl (fun v4662 hv4662 => ?_)
    refine WP_istore (ls' := [(0, _), (1, _), (2, _), (3, _), (4, _), (5, _)]) dX11_findWeek_22 (by decide) rfl ?_
    have lp24_4668 : ∀ (mz : Nat) (i4663 : Int32) (I4664 : pI), MP g n L I4664 → fz 49 g [0, 35, 36, 37] I I4664 → fs g [56] I I4664 → ∀ (w4666 : Int32), I4664 (ad g 0) 10 = w4666 → ∀ (w4667 : Int32), I4664 (ad g 0) 14 = w4667 → ∀ (w4668 : Int32), I4664 (ad g 0) 68 = w4668 → 0 ≤ i4663.toInt → i4663.toInt ≤ 366 → w4666.toInt = w4609.toInt → w4667.toInt = w4610.toInt → w4668.toInt = w4611.toInt → (367 - i4663.toInt).toNat < mz → WP g mX11_findWeek 24 [(0, .ref (ad g 0)), (1, .int so), (2, .int da), (3, .int v4614), (4, .int v4615), (5, .int i4663)] [] I4664 J R (fun r I' J' R' => (MP g n L I' ∧ R' = R ∧ fz 49 g [0, 35, 36, 37] I I' ∧ J' = J ∧ fs g [56] I I' ∧ True ∧ I' (ad g 0) 10 = I (ad g 0) 10 ∧ I' (ad g 0) 14 = I (ad g 0) 14 ∧ I' (ad g 0) 68 = I (ad g 0) 68) ∧ r = none) := by
      intro mz
      induction mz with
      | zero =>
        intro i4663 I4664 hI4664 fiI4664 fqI4664 w4666 ew4666 w4667 ew4667 w4668 ew4668 ai4663 bi4663 j0_I4664_4664 j1_I4664_4664 j2_I4664_4664 hmlp24_4668
        exact absurd hmlp24_4668 (Nat.not_lt_zero _)
      | succ mz ihlp24_4668 =>
        intro i4663 I4664 hI4664 fiI4664 fqI4664 w4666 ew4666 w4667 ew4667 w4668 ew4668 ai4663 bi4663 j0_I4664_4664 j1_I4664_4664 j2_I4664_4664 hmlp24_4668
        have bw4666 := BT_get hI4664.1.1 0 10 11 (0) (0) (4) (by decide) 10 (by decide) (by decide)
        rw [ew4666] at bw4666
        have bw4667 := BT_get hI4664.1.1 0 14 15 (-1) (0) (2) (by decide) 14 (by decide) (by decide)
        rw [ew4667] at bw4667
        have e4670 : I4664 (ad g 0) 1 = L := hI4664.1.2
        have b4671 := BT_get hI4664.1.1 0 1 2 (0) (0) (900) (by decide) 1 (by decide) (by decide)
        rw [e4670] at b4671
        refine WP_iload dX11_findWeek_24 rfl ?_
        refine WQ_sipush (366) (366) dX11_findWeek_26 rfl rfl (fun v4672 hv4672 => ?_)
        refine WQ_icmp_ge 61 dX11_findWeek_29 rfl (fun c4672 => ?_) (fun c4672 => ?_)
        · exact WP_vret dX11_findWeek_61 rfl ⟨⟨hI4664, rfl, fiI4664, rfl, fqI4664, ⟨trivial, (by rw [ew4666, ew4609] <;> exact (eq32 _ _).mpr (by omega)), (by rw [ew4667, ew4610] <;> exact (eq32 _ _).mpr (by omega)), (by rw [ew4668, ew4611] <;> exact (eq32 _ _).mpr (by omega))⟩⟩, rfl⟩
        · refine WP_aload_n dX11_findWeek_32 rfl ?_
          refine WP_getr dX11_findWeek_33 fX11_270 rfl (ly_is hy 0 11 rfl) (rf hr 0 54 35 (by decide)) ?_
          refine WP_iload dX11_findWeek_36 rfl ?_
          refine WP_iload dX11_findWeek_38 rfl ?_
          refine WQ_iadd dX11_findWeek_40 (by omega) (by omega) (fun v4674 hv4674 => ?_)
          refine WP_aload_n dX11_findWeek_41 rfl ?_
          refine WP_getr dX11_findWeek_42 fX11_276 rfl (ly_is hy 0 11 rfl) (rf hr 0 57 36 (by decide)) ?_
          refine WQ_sipush (366) (366) dX11_findWeek_45 rfl rfl (fun v4675 hv4675 => ?_)
          refine WP_iload_n dX11_findWeek_48 rfl ?_
          refine WQ_imulK (366) dX11_findWeek_49 hv4675 (by omega) (by omega) (fun v4676 hv4676 => ?_)
          refine WP_iload dX11_findWeek_50 rfl ?_
          refine WQ_iadd dX11_findWeek_52 (by omega) (by omega) (fun v4677 hv4677 => ?_)
          refine WQ_iald dX11_findWeek_53 (ly_is hy 36 13 rfl) (ly_n hy 36 10248 rfl) (by omega) (by omega) (fun q hq => BT_get hI4664.1.1 36 0 10248 (0) (0) (3564) (by decide) q (Nat.zero_le _) hq) (fun v4678 av4678 bv4678 ev4678 => ?_)
          clear ev4678
          refine WQ_iast dX11_findWeek_54 (ly_is hy 35 13 rfl) (ly_n hy 35 10614 rfl) (by omega) (by omega) (fun I4679 eI4679 => ?_)
          have hI4679 : MP g n L I4679 := by rw [eI4679]; exact (mp_w35 hy hI4664 (k := 6) (r := i4663.toInt.toNat) (mi_r0 hy hI4664.1 (c := 35) (by decide) (Or.inl (by decide)) (by decide)) (by omega) (by omega) (by rw [cl (n := v4674.toInt.toNat) (by omega)]; omega) (by omega))
          have e4680 : I4679 (ad g 0) 10 = w4666 := by rw [eI4679, pp_ne _ _ (Or.inl (ly_ne hy (by decide) (by decide) (by decide)))]; exact ew4666
          have e4681 : I4679 (ad g 0) 14 = w4667 := by rw [eI4679, pp_ne _ _ (Or.inl (ly_ne hy (by decide) (by decide) (by decide)))]; exact ew4667
          have e4682 : I4679 (ad g 0) 68 = w4668 := by rw [eI4679, pp_ne _ _ (Or.inl (ly_ne hy (by decide) (by decide) (by decide)))]; exact ew4668
          have e4683 : I4679 (ad g 0) 1 = L := by rw [eI4679, pp_ne _ _ (Or.inl (ly_ne hy (by decide) (by decide) (by decide)))]; exact e4670
          have fr4684 : fs g [56] I I4679 := by rw [eI4679]; exact fs_ppn hy fqI4664 (by decide) (by decide)
          have fr4685 : fz 49 g [0, 35, 36, 37] I I4679 := by rw [eI4679]; exact fzm_pp hy fiI4664 (by decide) (by decide)
          clear eI4679
          refine WP_iinc (ls' := [(0, _), (1, _), (2, _), (3, _), (4, _), (5, _)]) dX11_findWeek_55 rfl (by decide) rfl ?_
          have hv4686 : (i4663 + Int32.ofInt (1)).toInt = i4663.toInt + (1) := ia_n rfl (by omega) (by omega)
          generalize i4663 + Int32.ofInt (1) = v4686 at hv4686 ⊢
          refine WP_goto 24 dX11_findWeek_58 rfl ?_
          exact WP_sub (fc rfl (fc rfl (fc rfl (fc rfl (fc rfl (fc rfl fn)))))) (ihlp24_4668 v4686 I4679 hI4679 fr4685 fr4684 w4666 e4680 w4667 e4681 w4668 e4682 (by omega) (by omega) (by omega) (by omega) (by omega) (by omega))
    exact WP_sub (fc rfl (fc rfl (fc rfl (fc rfl (fc rfl (fc rfl fn)))))) (lp24_4668 _ v4662 I hI fr0 frq0 w4609 ew4609 w4610 ew4610 w4611 ew4611 (by omega) (by omega) (by omega) (by omega) (by omega) (Nat.lt_succ_self _))
set_option maxHeartbeats 4000000 in
set_option maxRecDepth 100000 in
theorem sm_actOf {g : GG} {n : Int} {L : Int32} (hy : Ly g)  {I : pI} {J : pJ} {R : pR} (hr : Rf g R) (hI : MP g n L I) (wy : Int32) (so : Int32) (da : Int32) (co : Int32) (st : Int32) (so_lo : 0 ≤ so.toInt) (so_hi : so.toInt ≤ 3) (da_lo : 0 ≤ da.toInt) (da_hi : da.toInt ≤ 6) (co_lo : 0 ≤ co.toInt) (co_hi : co.toInt ≤ 60) (st_lo : 0 ≤ st.toInt) (st_hi : st.toInt ≤ 5) : SP g mX11_actOf [.ref (ad g 0), .int wy, .int so, .int da, .int co, .int st] I J R (fun r I' J' R' => (MP g n L I' ∧ R' = R ∧ fz 49 g [0, 35, 36, 37] I I' ∧ J' = J ∧ fs g [56] I I' ∧ True ∧ I' (ad g 0) 10 = I (ad g 0) 10 ∧ I' (ad g 0) 14 = I (ad g 0) 14 ∧ I' (ad g 0) 68 = I (ad g 0) 68) ∧ ∃ v : Int32, r = some (.int v) ∧ 0 ≤ v.toInt ∧ v.toInt ≤ 47 ∧ (AM (I (ad g 22)) (I (ad g 24)) (I (ad g 25)) (I (ad g 0) 14).toInt so.toInt da.toInt co.toInt st.toInt v.toInt)) := by
  refine SP_of ⟨by decide, rfl⟩ (Nat.le_of_ble_eq_true rfl) ?_
  have e4687 : I (ad g 0) 1 = L := hI.1.2
  have b4688 := BT_get hI.1.1 0 1 2 (0) (0) (900) (by decide) 1 (by decide) (by decide)
  rw [e4687] at b4688
  have fr0 : fz 49 g [0, 35, 36, 37] I I := fz_rf
  have frq0 : fs g [56] I I := fs_rf
  obtain ⟨w4689, ew4689⟩ : ∃ w : Int32, I (ad g 0) 14 = w := ⟨_, rfl⟩
  have bw4689 := BT_get hI.1.1 0 14 15 (-1) (0) (2) (by decide) 14 (by decide) (by decide)
  rw [ew4689] at bw4689
  obtain ⟨uu, euu⟩ : ∃ w : Int32, I (ad g 25) (7 * so.toInt + da.toInt).toNat = w := ⟨_, rfl⟩
  have buu := BT_get hI.1.1 25 0 28 (0) (0) (3) (by decide) (7 * so.toInt + da.toInt).toNat (Nat.zero_le _) (by omega)
  rw [euu] at buu
  obtain ⟨w4690, ew4690⟩ : ∃ w : Int32, I (ad g 0) 10 = w := ⟨_, rfl⟩
  have bw4690 := BT_get hI.1.1 0 10 11 (0) (0) (4) (by decide) 10 (by decide) (by decide)
  rw [ew4690] at bw4690
  obtain ⟨w4691, ew4691⟩ : ∃ w : Int32, I (ad g 0) 68 = w := ⟨_, rfl⟩
  refine WQ_bipush (7) (7) dX11_actOf_0 rfl rfl (fun v4692 hv4692 => ?_)
  refine WP_iload_n dX11_actOf_2 rfl ?_
  refine WQ_imulK (7) dX11_actOf_3 hv4692 (by omega) (by omega) (fun v4693 hv4693 => ?_)
  refine WP_iload_n dX11_actOf_4 rfl ?_
  refine WQ_iadd dX11_actOf_5 (by omega) (by omega) (fun v4694 hv4694 => ?_)
  refine WP_istore (ls' := [(0, _), (1, _), (2, _), (3, _), (4, _), (5, _), (6, _)]) dX11_actOf_6 (by decide) rfl ?_
  refine WP_aload_n dX11_actOf_8 rfl ?_
  refine WP_getr dX11_actOf_9 fX11_264 rfl (ly_is hy 0 11 rfl) (rf hr 0 43 25 (by decide)) ?_
  refine WP_iload dX11_actOf_12 rfl ?_
  refine WQ_ialdb dX11_actOf_14 (ly_is hy 25 13 rfl) (ly_n hy 25 28 rfl) (by omega) (by omega) (fun q hq => BT_get hI.1.1 25 0 28 (0) (0) (3) (by decide) q (Nat.zero_le _) hq) (fun v4695 av4695 bv4695 zv4695 => ?_)
  have tv4695 : v4695.toInt = uu.toInt := by rw [← zv4695, ← euu, ← fz_at fr0 25 (by decide) (by decide), show (7 * so.toInt + da.toInt).toNat = v4694.toInt.toNat by omega]
  refine WP_istore (ls' := [(0, _), (1, _), (2, _), (3, _), (4, _), (5, _), (6, _), (7, _)]) dX11_actOf_15 (by decide) rfl ?_
  refine WP_aload_n dX11_actOf_17 rfl ?_
  refine WP_getr dX11_actOf_18 fX11_244 rfl (ly_is hy 0 11 rfl) (rf hr 0 29 11 (by decide)) ?_
  refine WP_iload_n dX11_actOf_21 rfl ?_
  refine WQ_iald dX11_actOf_22 (ly_is hy 11 13 rfl) (ly_n hy 11 4 rfl) (by omega) (by omega) (fun q hq => BT_get hI.1.1 11 0 4 (0) (0) (127) (by decide) q (Nat.zero_le _) hq) (fun v4696 av4696 bv4696 ev4696 => ?_)
  refine WP_iload_n dX11_actOf_23 rfl ?_
  refine WQ_ishru dX11_actOf_24 (fun v4697 => ?_)
  refine WQ_iconst (1) (1) dX11_actOf_25 rfl rfl (fun v4698 hv4698 => ?_)
  refine WQ_iandu dX11_actOf_26 (fun v4699 => ?_)
  refine WQ_iconst (1) (1) dX11_actOf_27 rfl rfl (fun v4700 hv4700 => ?_)
  have jn36_4703 : ∀ (v4703 : Int32), 0 ≤ v4703.toInt → v4703.toInt ≤ 1 → WP g mX11_actOf 36 [(0, .ref (ad g 0)), (1, .int wy), (2, .int so), (3, .int da), (4, .int co), (5, .int st), (6, .int v4694), (7, .int v4695)] [.int v4703] I J R (fun r I' J' R' => (MP g n L I' ∧ R' = R ∧ fz 49 g [0, 35, 36, 37] I I' ∧ J' = J ∧ fs g [56] I I' ∧ True ∧ I' (ad g 0) 10 = I (ad g 0) 10 ∧ I' (ad g 0) 14 = I (ad g 0) 14 ∧ I' (ad g 0) 68 = I (ad g 0) 68) ∧ ∃ v : Int32, r = some (.int v) ∧ 0 ≤ v.toInt ∧ v.toInt ≤ 47 ∧ (AM (I (ad g 22)) (I (ad g 24)) (I (ad g 25)) (I (ad g 0) 14).toInt so.toInt da.toInt co.toInt st.toInt v.toInt)) := by
    intro v4703 av4703 bv4703
    refine WP_istore (ls' := [(0, _), (1, _), (2, _), (3, _), (4, _), (5, _), (6, _), (7, _), (8, _)]) dX11_actOf_36 (by decide) rfl ?_
    refine WP_iload dX11_actOf_38 rfl ?_
    have jn62_4710 : ∀ (v4710 : Int32), 0 ≤ v4710.toInt → v4710.toInt ≤ 1 → WP g mX11_actOf 62 [(0, .ref (ad g 0)), (1, .int wy), (2, .int so), (3, .int da), (4, .int co), (5, .int st), (6, .int v4694), (7, .int v4695), (8, .int v4703)] [.int v4710] I J R (fun r I' J' R' => (MP g n L I' ∧ R' = R ∧ fz 49 g [0, 35, 36, 37] I I' ∧ J' = J ∧ fs g [56] I I' ∧ True ∧ I' (ad g 0) 10 = I (ad g 0) 10 ∧ I' (ad g 0) 14 = I (ad g 0) 14 ∧ I' (ad g 0) 68 = I (ad g 0) 68) ∧ ∃ v : Int32, r = some (.int v) ∧ 0 ≤ v.toInt ∧ v.toInt ≤ 47 ∧ (AM (I (ad g 22)) (I (ad g 24)) (I (ad g 25)) (I (ad g 0) 14).toInt so.toInt da.toInt co.toInt st.toInt v.toInt)) := by
      intro v4710 av4710 bv4710
      refine WP_istore (ls' := [(0, _), (1, _), (2, _), (3, _), (4, _), (5, _), (6, _), (7, _), (8, _), (9, _)]) dX11_actOf_62 (by decide) rfl ?_
      refine WP_iload_n dX11_actOf_64 rfl ?_
      refine WQ_iconst (4) (4) dX11_actOf_65 rfl rfl (fun v4712 hv4712 => ?_)
      refine WQ_icmp_ne 71 dX11_actOf_66 rfl (fun c4712 => ?_) (fun c4712 => ?_)
      · refine WP_iload_n dX11_actOf_71 rfl ?_
        refine WQ_iconst (3) (3) dX11_actOf_72 rfl rfl (fun v4714 hv4714 => ?_)
        refine WQ_icmp_ne 100 dX11_actOf_73 rfl (fun c4714 => ?_) (fun c4714 => ?_)
        · refine WP_aload_n dX11_actOf_100 rfl ?_
          refine WP_aload_n dX11_actOf_101 rfl ?_
          refine WP_getr dX11_actOf_102 fX11_261 rfl (ly_is hy 0 11 rfl) (rf hr 0 42 24 (by decide)) ?_
          refine WP_iload dX11_actOf_105 rfl ?_
          refine WQ_iald dX11_actOf_107 (ly_is hy 24 13 rfl) (ly_n hy 24 28 rfl) (by omega) (by omega) (fun q hq => BT_get hI.1.1 24 0 28 (-1) (0) (2) (by decide) q (Nat.zero_le _) hq) (fun v4716 av4716 bv4716 ev4716 => ?_)
          refine WP_iload_n dX11_actOf_108 rfl ?_
          refine WP_callV2 (k := 11) dX11_actOf_109 ⟨⟨⟨by decide, by decide⟩, zX11_costAt⟩, lX11_402, by decide, rfl, vX11_costAt.1, vX11_costAt.2⟩ (ly_is hy 0 11 rfl) (sm_costx hy hr hI v4716 da (by omega) (by omega) (by omega) (by omega)) (Nat.le_of_ble_eq_true rfl) ?_
          intro r Ia Ja Ra hq
          obtain ⟨⟨ea, eb, ec⟩, v4717, rfl, av4717, bv4717, cv4717⟩ := hq
          show WP _ _ _ _ (.int _ :: _) _ _ _ _
          rw [ea, eb, ec]
          clear ea eb ec Ia Ja Ra
          refine WP_istore (ls' := [(0, _), (1, _), (2, _), (3, _), (4, _), (5, _), (6, _), (7, _), (8, _), (9, _), (10, _)]) dX11_actOf_112 (by decide) rfl ?_
          refine WP_iload dX11_actOf_114 rfl ?_
          have jn130_4720 : ∀ (v4720 : Int32), 0 ≤ v4720.toInt → v4720.toInt ≤ 3 → (v4720.toInt ≤ st.toInt) → (v4720.toInt ≤ uu.toInt) → WP g mX11_actOf 130 [(0, .ref (ad g 0)), (1, .int wy), (2, .int so), (3, .int da), (4, .int co), (5, .int st), (6, .int v4694), (7, .int v4695), (8, .int v4703), (9, .int v4710), (10, .int v4717)] [.int v4720] I J R (fun r I' J' R' => (MP g n L I' ∧ R' = R ∧ fz 49 g [0, 35, 36, 37] I I' ∧ J' = J ∧ fs g [56] I I' ∧ True ∧ I' (ad g 0) 10 = I (ad g 0) 10 ∧ I' (ad g 0) 14 = I (ad g 0) 14 ∧ I' (ad g 0) 68 = I (ad g 0) 68) ∧ ∃ v : Int32, r = some (.int v) ∧ 0 ≤ v.toInt ∧ v.toInt ≤ 47 ∧ (AM (I (ad g 22)) (I (ad g 24)) (I (ad g 25)) (I (ad g 0) 14).toInt so.toInt da.toInt co.toInt st.toInt v.toInt)) := by
            intro v4720 av4720 bv4720 jf0_v4720 jf1_v4720
            refine WP_istore (ls' := [(0, _), (1, _), (2, _), (3, _), (4, _), (5, _), (6, _), (7, _), (8, _), (9, _), (10, _), (11, _)]) dX11_actOf_130 (by decide) rfl ?_
            refine WP_iload dX11_actOf_132 rfl ?_
            refine WQ_if_ne 142 dX11_actOf_134 rfl (fun c4721 => ?_) (fun c4721 => ?_)
            · refine WQ_iconst (0) (0) dX11_actOf_142 rfl rfl (fun v4723 hv4723 => ?_)
              refine WP_goto 168 dX11_actOf_143 rfl ?_
              refine WP_istore (ls' := [(0, _), (1, _), (2, _), (3, _), (4, _), (5, _), (6, _), (7, _), (8, _), (9, _), (10, _), (11, _), (12, _)]) dX11_actOf_168 (by decide) rfl ?_
              refine WP_iload_n dX11_actOf_170 rfl ?_
              refine WQ_iconst (2) (2) dX11_actOf_171 rfl rfl (fun v4724 hv4724 => ?_)
              have jn190_4727 : ∀ (v4727 : Int32), 0 ≤ v4727.toInt → v4727.toInt ≤ 3 → (v4727.toInt ≤ v4720.toInt) → (0 ≤ v4727.toInt) → WP g mX11_actOf 190 [(0, .ref (ad g 0)), (1, .int wy), (2, .int so), (3, .int da), (4, .int co), (5, .int st), (6, .int v4694), (7, .int v4695), (8, .int v4703), (9, .int v4710), (10, .int v4717), (11, .int v4720), (12, .int v4723)] [.int v4727] I J R (fun r I' J' R' => (MP g n L I' ∧ R' = R ∧ fz 49 g [0, 35, 36, 37] I I' ∧ J' = J ∧ fs g [56] I I' ∧ True ∧ I' (ad g 0) 10 = I (ad g 0) 10 ∧ I' (ad g 0) 14 = I (ad g 0) 14 ∧ I' (ad g 0) 68 = I (ad g 0) 68) ∧ ∃ v : Int32, r = some (.int v) ∧ 0 ≤ v.toInt ∧ v.toInt ≤ 47 ∧ (AM (I (ad g 22)) (I (ad g 24)) (I (ad g 25)) (I (ad g 0) 14).toInt so.toInt da.toInt co.toInt st.toInt v.toInt)) := by
                intro v4727 av4727 bv4727 jf0_v4727 jf1_v4727
                refine WP_istore (ls' := [(0, _), (1, _), (2, _), (3, _), (4, _), (5, _), (6, _), (7, _), (8, _), (9, _), (10, _), (11, _), (12, _), (13, _)]) dX11_actOf_190 (by decide) rfl ?_
                refine WP_iload_n dX11_actOf_192 rfl ?_
                have jn214_4737 : ∀ (v4737 : Int32), 0 ≤ v4737.toInt → v4737.toInt ≤ 1 → WP g mX11_actOf 214 [(0, .ref (ad g 0)), (1, .int wy), (2, .int so), (3, .int da), (4, .int co), (5, .int st), (6, .int v4694), (7, .int v4695), (8, .int v4703), (9, .int v4710), (10, .int v4717), (11, .int v4720), (12, .int v4723), (13, .int v4727)] [.int v4737] I J R (fun r I' J' R' => (MP g n L I' ∧ R' = R ∧ fz 49 g [0, 35, 36, 37] I I' ∧ J' = J ∧ fs g [56] I I' ∧ True ∧ I' (ad g 0) 10 = I (ad g 0) 10 ∧ I' (ad g 0) 14 = I (ad g 0) 14 ∧ I' (ad g 0) 68 = I (ad g 0) 68) ∧ ∃ v : Int32, r = some (.int v) ∧ 0 ≤ v.toInt ∧ v.toInt ≤ 47 ∧ (AM (I (ad g 22)) (I (ad g 24)) (I (ad g 25)) (I (ad g 0) 14).toInt so.toInt da.toInt co.toInt st.toInt v.toInt)) := by
                  intro v4737 av4737 bv4737
                  refine WP_istore (ls' := [(0, _), (1, _), (2, _), (3, _), (4, _), (5, _), (6, _), (7, _), (8, _), (9, _), (10, _), (11, _), (12, _), (13, _), (14, _)]) dX11_actOf_214 (by decide) rfl ?_
                  refine WQ_iconst (0) (0) dX11_actOf_216 rfl rfl (fun v4739 hv4739 => ?_)
                  refine WP_istore (ls' := [(0, _), (1, _), (2, _), (3, _), (4, _), (5, _), (6, _), (7, _), (8, _), (9, _), (10, _), (11, _), (12, _), (13, _), (14, _), (15, _)]) dX11_actOf_217 (by decide) rfl ?_
                  refine WP_iload dX11_actOf_219 rfl ?_
                  refine WQ_if_eq 270 dX11_actOf_221 rfl (fun c4739 => ?_) (fun c4739 => ?_)
                  · refine WQ_bipush (16) (16) dX11_actOf_270 rfl rfl (fun v4741 hv4741 => ?_)
                    refine WP_iload dX11_actOf_272 rfl ?_
                    refine WQ_imulk (0) dX11_actOf_274 hv4739 (by omega) (by omega) (fun v4742 hv4742 => ?_)
                    refine WQ_iconst (4) (4) dX11_actOf_275 rfl rfl (fun v4743 hv4743 => ?_)
                    refine WP_iload dX11_actOf_276 rfl ?_
                    refine WQ_imulK (4) dX11_actOf_278 hv4743 (by omega) (by omega) (fun v4744 hv4744 => ?_)
                    refine WQ_iadd dX11_actOf_279 (by omega) (by omega) (fun v4745 hv4745 => ?_)
                    refine WP_iload dX11_actOf_280 rfl ?_
                    refine WQ_iadd dX11_actOf_282 (by omega) (by omega) (fun v4746 hv4746 => ?_)
                    exact WP_iret dX11_actOf_283 rfl ⟨⟨hI, rfl, fr0, rfl, frq0, ⟨trivial, rfl, rfl, rfl⟩⟩, _, rfl, by omega, by omega, (by
                        unfold AM
                        rw [euu, show I (ad g 24) (7 * so.toInt + da.toInt).toNat = v4716 by rw [← cl (x := v4694) (n := (7 * so.toInt + da.toInt).toNat) (by omega)]; exact ev4716, ew4689, ← cv4717]
                        have k1 : v4723.toInt * v4717.toInt ≤ co.toInt := (by rw [show v4723.toInt = 0 by omega, Int.zero_mul]; omega)
                        have k3 : v4723.toInt * v4717.toInt = 0 := (by rw [show v4723.toInt = 0 by omega, Int.zero_mul])
                        exact AOKm_set (s := 0) (f := v4727.toInt) (e := v4723.toInt) (by omega) (by omega) (by omega) (by omega) (by omega) (by omega) (by omega) (by rw [Int.zero_mul]; omega) (by omega) (Or.inl rfl))⟩
                  · refine WP_iload dX11_actOf_224 rfl ?_
                    refine WQ_if_ne 270 dX11_actOf_226 rfl (fun c4746 => ?_) (fun c4746 => False.elim (by omega))
                    refine WQ_bipush (16) (16) dX11_actOf_270 rfl rfl (fun v4748 hv4748 => ?_)
                    refine WP_iload dX11_actOf_272 rfl ?_
                    refine WQ_imulk (0) dX11_actOf_274 hv4739 (by omega) (by omega) (fun v4749 hv4749 => ?_)
                    refine WQ_iconst (4) (4) dX11_actOf_275 rfl rfl (fun v4750 hv4750 => ?_)
                    refine WP_iload dX11_actOf_276 rfl ?_
                    refine WQ_imulK (4) dX11_actOf_278 hv4750 (by omega) (by omega) (fun v4751 hv4751 => ?_)
                    refine WQ_iadd dX11_actOf_279 (by omega) (by omega) (fun v4752 hv4752 => ?_)
                    refine WP_iload dX11_actOf_280 rfl ?_
                    refine WQ_iadd dX11_actOf_282 (by omega) (by omega) (fun v4753 hv4753 => ?_)
                    exact WP_iret dX11_actOf_283 rfl ⟨⟨hI, rfl, fr0, rfl, frq0, ⟨trivial, rfl, rfl, rfl⟩⟩, _, rfl, by omega, by omega, (by
                        unfold AM
                        rw [euu, show I (ad g 24) (7 * so.toInt + da.toInt).toNat = v4716 by rw [← cl (x := v4694) (n := (7 * so.toInt + da.toInt).toNat) (by omega)]; exact ev4716, ew4689, ← cv4717]
                        have k1 : v4723.toInt * v4717.toInt ≤ co.toInt := (by rw [show v4723.toInt = 0 by omega, Int.zero_mul]; omega)
                        have k3 : v4723.toInt * v4717.toInt = 0 := (by rw [show v4723.toInt = 0 by omega, Int.zero_mul])
                        exact AOKm_set (s := 0) (f := v4727.toInt) (e := v4723.toInt) (by omega) (by omega) (by omega) (by omega) (by omega) (by omega) (by omega) (by rw [Int.zero_mul]; omega) (by omega) (Or.inl rfl))⟩
                refine WQ_if_eq 209 dX11_actOf_193 rfl (fun c4753 => ?_) (fun c4753 => ?_)
                · refine WQ_iconst (1) (1) dX11_actOf_209 rfl rfl (fun v4755 hv4755 => ?_)
                  refine WP_goto 214 dX11_actOf_210 rfl ?_
                  exact WP_sub (fc rfl (fc rfl (fc rfl (fc rfl (fc rfl (fc rfl (fc rfl (fc rfl (fc rfl (fc rfl (fc rfl (fc rfl (fc rfl (fc rfl fn)))))))))))))) (jn214_4737 v4755 (by omega) (by omega))
                · refine WP_iload_n dX11_actOf_196 rfl ?_
                  refine WQ_iconst (2) (2) dX11_actOf_197 rfl rfl (fun v4756 hv4756 => ?_)
                  refine WQ_icmp_ne 213 dX11_actOf_198 rfl (fun c4756 => ?_) (fun c4756 => ?_)
                  · refine WQ_iconst (0) (0) dX11_actOf_213 rfl rfl (fun v4758 hv4758 => ?_)
                    exact WP_sub (fc rfl (fc rfl (fc rfl (fc rfl (fc rfl (fc rfl (fc rfl (fc rfl (fc rfl (fc rfl (fc rfl (fc rfl (fc rfl (fc rfl fn)))))))))))))) (jn214_4737 v4758 (by omega) (by omega))
                  · refine WP_aload_n dX11_actOf_201 rfl ?_
                    refine WP_iload_n dX11_actOf_202 rfl ?_
                    refine WP_callV1 (k := 11) dX11_actOf_203 ⟨⟨⟨by decide, by decide⟩, zX11_loses⟩, lX11_414, by decide, rfl, vX11_loses.1, vX11_loses.2⟩ (ly_is hy 0 11 rfl) (sm_loses2 hy hr hI da (by omega) (by omega)) (Nat.le_of_ble_eq_true rfl) ?_
                    intro r Ia Ja Ra hq
                    obtain ⟨⟨ea, eb, ec⟩, v4759, rfl, av4759, bv4759⟩ := hq
                    show WP _ _ _ _ (.int _ :: _) _ _ _ _
                    rw [ea, eb, ec]
                    clear ea eb ec Ia Ja Ra
                    refine WQ_if_le 213 dX11_actOf_206 rfl (fun c4759 => ?_) (fun c4759 => ?_)
                    · refine WQ_iconst (0) (0) dX11_actOf_213 rfl rfl (fun v4761 hv4761 => ?_)
                      exact WP_sub (fc rfl (fc rfl (fc rfl (fc rfl (fc rfl (fc rfl (fc rfl (fc rfl (fc rfl (fc rfl (fc rfl (fc rfl (fc rfl (fc rfl fn)))))))))))))) (jn214_4737 v4761 (by omega) (by omega))
                    · refine WQ_iconst (1) (1) dX11_actOf_209 rfl rfl (fun v4762 hv4762 => ?_)
                      refine WP_goto 214 dX11_actOf_210 rfl ?_
                      exact WP_sub (fc rfl (fc rfl (fc rfl (fc rfl (fc rfl (fc rfl (fc rfl (fc rfl (fc rfl (fc rfl (fc rfl (fc rfl (fc rfl (fc rfl fn)))))))))))))) (jn214_4737 v4762 (by omega) (by omega))
              refine WQ_icmp_ne 180 dX11_actOf_172 rfl (fun c4762 => ?_) (fun c4762 => ?_)
              · refine WP_iload dX11_actOf_180 rfl ?_
                refine WP_iload dX11_actOf_182 rfl ?_
                refine WQ_isub dX11_actOf_184 (by omega) (by omega) (fun v4764 hv4764 => ?_)
                refine WP_iload dX11_actOf_185 rfl ?_
                refine WQ_min dX11_actOf_187 lX11_417 ⟨by decide, Nat.le_of_ble_eq_true rfl⟩ (fun v4765 av4765 bv4765 cv4765 => ?_)
                exact WP_sub (fc rfl (fc rfl (fc rfl (fc rfl (fc rfl (fc rfl (fc rfl (fc rfl (fc rfl (fc rfl (fc rfl (fc rfl (fc rfl fn))))))))))))) (jn190_4727 v4765 (by omega) (by omega) (by omega) (by omega))
              · refine WP_iload dX11_actOf_175 rfl ?_
                refine WP_goto 190 dX11_actOf_177 rfl ?_
                exact WP_sub (fc rfl (fc rfl (fc rfl (fc rfl (fc rfl (fc rfl (fc rfl (fc rfl (fc rfl (fc rfl (fc rfl (fc rfl (fc rfl fn))))))))))))) (jn190_4727 v4720 (by omega) (by omega) (by omega) (by omega))
            · refine WP_iload dX11_actOf_137 rfl ?_
              refine WQ_if_ne 146 dX11_actOf_139 rfl (fun c4765 => ?_) (fun c4765 => ?_)
              · refine WP_iload_n dX11_actOf_146 rfl ?_
                refine WQ_iconst (2) (2) dX11_actOf_147 rfl rfl (fun v4767 hv4767 => ?_)
                have jn161_4769 : ∀ (v4769 : Int32), -2 ≤ v4769.toInt → v4769.toInt ≤ 3 → (v4769.toInt ≤ uu.toInt) → (0 ≤ v4769.toInt) → WP g mX11_actOf 161 [(0, .ref (ad g 0)), (1, .int wy), (2, .int so), (3, .int da), (4, .int co), (5, .int st), (6, .int v4694), (7, .int v4695), (8, .int v4703), (9, .int v4710), (10, .int v4717), (11, .int v4720)] [.int v4769] I J R (fun r I' J' R' => (MP g n L I' ∧ R' = R ∧ fz 49 g [0, 35, 36, 37] I I' ∧ J' = J ∧ fs g [56] I I' ∧ True ∧ I' (ad g 0) 10 = I (ad g 0) 10 ∧ I' (ad g 0) 14 = I (ad g 0) 14 ∧ I' (ad g 0) 68 = I (ad g 0) 68) ∧ ∃ v : Int32, r = some (.int v) ∧ 0 ≤ v.toInt ∧ v.toInt ≤ 47 ∧ (AM (I (ad g 22)) (I (ad g 24)) (I (ad g 25)) (I (ad g 0) 14).toInt so.toInt da.toInt co.toInt st.toInt v.toInt)) := by
                  intro v4769 av4769 bv4769 jf0_v4769 jf1_v4769
                  refine WP_iload dX11_actOf_161 rfl ?_
                  refine WP_iload dX11_actOf_163 rfl ?_
                  refine WP_callS3 dX11_actOf_165 ⟨⟨⟨by decide, by decide⟩, zX11_canBuy⟩, lX11_446, tX11_canBuy⟩ (sm_canBuyx hy hr hI v4769 co v4717 (by omega) (by omega) (by omega) (by omega) (by omega) (by omega)) (Nat.le_of_ble_eq_true rfl) ?_
                  intro r Ia Ja Ra hq
                  obtain ⟨⟨ea, eb, ec⟩, v4771, rfl, av4771, bv4771, cv4771⟩ := hq
                  show WP _ _ _ _ (.int _ :: _) _ _ _ _
                  rw [ea, eb, ec]
                  clear ea eb ec Ia Ja Ra
                  refine WP_istore (ls' := [(0, _), (1, _), (2, _), (3, _), (4, _), (5, _), (6, _), (7, _), (8, _), (9, _), (10, _), (11, _), (12, _)]) dX11_actOf_168 (by decide) rfl ?_
                  refine WP_iload_n dX11_actOf_170 rfl ?_
                  refine WQ_iconst (2) (2) dX11_actOf_171 rfl rfl (fun v4772 hv4772 => ?_)
                  have jn190_4775 : ∀ (v4775 : Int32), -2 ≤ v4775.toInt → v4775.toInt ≤ 3 → (v4775.toInt ≤ v4720.toInt) → (0 ≤ v4775.toInt) → WP g mX11_actOf 190 [(0, .ref (ad g 0)), (1, .int wy), (2, .int so), (3, .int da), (4, .int co), (5, .int st), (6, .int v4694), (7, .int v4695), (8, .int v4703), (9, .int v4710), (10, .int v4717), (11, .int v4720), (12, .int v4771)] [.int v4775] I J R (fun r I' J' R' => (MP g n L I' ∧ R' = R ∧ fz 49 g [0, 35, 36, 37] I I' ∧ J' = J ∧ fs g [56] I I' ∧ True ∧ I' (ad g 0) 10 = I (ad g 0) 10 ∧ I' (ad g 0) 14 = I (ad g 0) 14 ∧ I' (ad g 0) 68 = I (ad g 0) 68) ∧ ∃ v : Int32, r = some (.int v) ∧ 0 ≤ v.toInt ∧ v.toInt ≤ 47 ∧ (AM (I (ad g 22)) (I (ad g 24)) (I (ad g 25)) (I (ad g 0) 14).toInt so.toInt da.toInt co.toInt st.toInt v.toInt)) := by
                    intro v4775 av4775 bv4775 jf0_v4775 jf1_v4775
                    refine WP_istore (ls' := [(0, _), (1, _), (2, _), (3, _), (4, _), (5, _), (6, _), (7, _), (8, _), (9, _), (10, _), (11, _), (12, _), (13, _)]) dX11_actOf_190 (by decide) rfl ?_
                    refine WP_iload_n dX11_actOf_192 rfl ?_
                    have jn214_4785 : ∀ (v4785 : Int32), 0 ≤ v4785.toInt → v4785.toInt ≤ 1 → WP g mX11_actOf 214 [(0, .ref (ad g 0)), (1, .int wy), (2, .int so), (3, .int da), (4, .int co), (5, .int st), (6, .int v4694), (7, .int v4695), (8, .int v4703), (9, .int v4710), (10, .int v4717), (11, .int v4720), (12, .int v4771), (13, .int v4775)] [.int v4785] I J R (fun r I' J' R' => (MP g n L I' ∧ R' = R ∧ fz 49 g [0, 35, 36, 37] I I' ∧ J' = J ∧ fs g [56] I I' ∧ True ∧ I' (ad g 0) 10 = I (ad g 0) 10 ∧ I' (ad g 0) 14 = I (ad g 0) 14 ∧ I' (ad g 0) 68 = I (ad g 0) 68) ∧ ∃ v : Int32, r = some (.int v) ∧ 0 ≤ v.toInt ∧ v.toInt ≤ 47 ∧ (AM (I (ad g 22)) (I (ad g 24)) (I (ad g 25)) (I (ad g 0) 14).toInt so.toInt da.toInt co.toInt st.toInt v.toInt)) := by
                      intro v4785 av4785 bv4785
                      refine WP_istore (ls' := [(0, _), (1, _), (2, _), (3, _), (4, _), (5, _), (6, _), (7, _), (8, _), (9, _), (10, _), (11, _), (12, _), (13, _), (14, _)]) dX11_actOf_214 (by decide) rfl ?_
                      refine WQ_iconst (0) (0) dX11_actOf_216 rfl rfl (fun v4787 hv4787 => ?_)
                      refine WP_istore (ls' := [(0, _), (1, _), (2, _), (3, _), (4, _), (5, _), (6, _), (7, _), (8, _), (9, _), (10, _), (11, _), (12, _), (13, _), (14, _), (15, _)]) dX11_actOf_217 (by decide) rfl ?_
                      refine WP_iload dX11_actOf_219 rfl ?_
                      refine WQ_if_eq 270 dX11_actOf_221 rfl (fun c4787 => ?_) (fun c4787 => ?_)
                      · refine WQ_bipush (16) (16) dX11_actOf_270 rfl rfl (fun v4789 hv4789 => ?_)
                        refine WP_iload dX11_actOf_272 rfl ?_
                        refine WQ_imulk (0) dX11_actOf_274 hv4787 (by omega) (by omega) (fun v4790 hv4790 => ?_)
                        refine WQ_iconst (4) (4) dX11_actOf_275 rfl rfl (fun v4791 hv4791 => ?_)
                        refine WP_iload dX11_actOf_276 rfl ?_
                        refine WQ_imulK (4) dX11_actOf_278 hv4791 (by omega) (by omega) (fun v4792 hv4792 => ?_)
                        refine WQ_iadd dX11_actOf_279 (by omega) (by omega) (fun v4793 hv4793 => ?_)
                        refine WP_iload dX11_actOf_280 rfl ?_
                        refine WQ_iadd dX11_actOf_282 (by omega) (by omega) (fun v4794 hv4794 => ?_)
                        exact WP_iret dX11_actOf_283 rfl ⟨⟨hI, rfl, fr0, rfl, frq0, ⟨trivial, rfl, rfl, rfl⟩⟩, _, rfl, by omega, by omega, (by
                            unfold AM
                            rw [euu, show I (ad g 24) (7 * so.toInt + da.toInt).toNat = v4716 by rw [← cl (x := v4694) (n := (7 * so.toInt + da.toInt).toNat) (by omega)]; exact ev4716, ew4689, ← cv4717]
                            have k1 : v4771.toInt * v4717.toInt ≤ co.toInt := cv4771.2
                            exact AOKm_set (s := 0) (f := v4775.toInt) (e := v4771.toInt) (by omega) (by omega) (by omega) (by omega) (by omega) (by omega) (by omega) (by rw [Int.zero_mul]; omega) (by omega) (Or.inl rfl))⟩
                      · refine WP_iload dX11_actOf_224 rfl ?_
                        refine WQ_if_ne 270 dX11_actOf_226 rfl (fun c4794 => False.elim (by omega)) (fun c4794 => ?_)
                        refine WP_aload_n dX11_actOf_229 rfl ?_
                        refine WQ_getim dX11_actOf_230 fX11_224 rfl (ly_is hy 0 11 rfl) ew4689 ?_
                        refine WQ_iconst (-1) (-1) dX11_actOf_233 rfl rfl (fun v4796 hv4796 => ?_)
                        refine WQ_icmp_eq 270 dX11_actOf_234 rfl (fun c4796 => ?_) (fun c4796 => ?_)
                        · refine WQ_bipush (16) (16) dX11_actOf_270 rfl rfl (fun v4798 hv4798 => ?_)
                          refine WP_iload dX11_actOf_272 rfl ?_
                          refine WQ_imulk (0) dX11_actOf_274 hv4787 (by omega) (by omega) (fun v4799 hv4799 => ?_)
                          refine WQ_iconst (4) (4) dX11_actOf_275 rfl rfl (fun v4800 hv4800 => ?_)
                          refine WP_iload dX11_actOf_276 rfl ?_
                          refine WQ_imulK (4) dX11_actOf_278 hv4800 (by omega) (by omega) (fun v4801 hv4801 => ?_)
                          refine WQ_iadd dX11_actOf_279 (by omega) (by omega) (fun v4802 hv4802 => ?_)
                          refine WP_iload dX11_actOf_280 rfl ?_
                          refine WQ_iadd dX11_actOf_282 (by omega) (by omega) (fun v4803 hv4803 => ?_)
                          exact WP_iret dX11_actOf_283 rfl ⟨⟨hI, rfl, fr0, rfl, frq0, ⟨trivial, rfl, rfl, rfl⟩⟩, _, rfl, by omega, by omega, (by
                              unfold AM
                              rw [euu, show I (ad g 24) (7 * so.toInt + da.toInt).toNat = v4716 by rw [← cl (x := v4694) (n := (7 * so.toInt + da.toInt).toNat) (by omega)]; exact ev4716, ew4689, ← cv4717]
                              have k1 : v4771.toInt * v4717.toInt ≤ co.toInt := cv4771.2
                              exact AOKm_set (s := 0) (f := v4775.toInt) (e := v4771.toInt) (by omega) (by omega) (by omega) (by omega) (by omega) (by omega) (by omega) (by rw [Int.zero_mul]; omega) (by omega) (Or.inl rfl))⟩
                        · refine WQ_iconst (2) (2) dX11_actOf_237 rfl rfl (fun v4804 hv4804 => ?_)
                          refine WQ_iconst (5) (5) dX11_actOf_238 rfl rfl (fun v4805 hv4805 => ?_)
                          refine WP_iload dX11_actOf_239 rfl ?_
                          refine WQ_isub dX11_actOf_241 (by omega) (by omega) (fun v4806 hv4806 => ?_)
                          refine WP_iload dX11_actOf_242 rfl ?_
                          refine WQ_iadd dX11_actOf_244 (by omega) (by omega) (fun v4807 hv4807 => ?_)
                          refine WQ_min dX11_actOf_245 lX11_417 ⟨by decide, Nat.le_of_ble_eq_true rfl⟩ (fun v4808 av4808 bv4808 cv4808 => ?_)
                          refine WP_iload dX11_actOf_248 rfl ?_
                          have kk0 : v4771.toInt * v4717.toInt ≤ co.toInt := cv4771.2
                          refine WP_iload dX11_actOf_250 rfl ?_
                          refine WP_iload dX11_actOf_252 rfl ?_
                          refine WQ_imulb (3) (20) dX11_actOf_254 ⟨by omega, by omega⟩ ⟨by omega, by omega⟩ (by decide) (fun v4809 pv4809 av4809 bv4809 cv4809 => ?_)
                          refine WQ_isub dX11_actOf_255 (by omega) (by omega) (fun v4810 hv4810 => ?_)
                          refine WP_aload_n dX11_actOf_256 rfl ?_
                          refine WP_aload_n dX11_actOf_257 rfl ?_
                          refine WQ_getim dX11_actOf_258 fX11_224 rfl (ly_is hy 0 11 rfl) ew4689 ?_
                          refine WP_iload_n dX11_actOf_261 rfl ?_
                          refine WP_callV2 (k := 11) dX11_actOf_262 ⟨⟨⟨by decide, by decide⟩, zX11_costAt⟩, lX11_402, by decide, rfl, vX11_costAt.1, vX11_costAt.2⟩ (ly_is hy 0 11 rfl) (sm_costx hy hr hI w4689 da (by omega) (by omega) (by omega) (by omega)) (Nat.le_of_ble_eq_true rfl) ?_
                          intro r Ia Ja Ra hq
                          obtain ⟨⟨ea, eb, ec⟩, v4811, rfl, av4811, bv4811, cv4811⟩ := hq
                          show WP _ _ _ _ (.int _ :: _) _ _ _ _
                          rw [ea, eb, ec]
                          clear ea eb ec Ia Ja Ra
                          refine WP_callS3 dX11_actOf_265 ⟨⟨⟨by decide, by decide⟩, zX11_canBuy⟩, lX11_446, tX11_canBuy⟩ (sm_canBuyx hy hr hI v4808 v4810 v4811 (by omega) (by omega) (by omega) (by omega) (by omega) (by omega)) (Nat.le_of_ble_eq_true rfl) ?_
                          intro r Ia Ja Ra hq
                          obtain ⟨⟨ea, eb, ec⟩, v4812, rfl, av4812, bv4812, cv4812⟩ := hq
                          show WP _ _ _ _ (.int _ :: _) _ _ _ _
                          rw [ea, eb, ec]
                          clear ea eb ec Ia Ja Ra
                          refine WP_istore (ls' := [(0, _), (1, _), (2, _), (3, _), (4, _), (5, _), (6, _), (7, _), (8, _), (9, _), (10, _), (11, _), (12, _), (13, _), (14, _), (15, _)]) dX11_actOf_268 (by decide) rfl ?_
                          refine WQ_bipush (16) (16) dX11_actOf_270 rfl rfl (fun v4813 hv4813 => ?_)
                          refine WP_iload dX11_actOf_272 rfl ?_
                          refine WQ_imulK (16) dX11_actOf_274 hv4813 (by omega) (by omega) (fun v4814 hv4814 => ?_)
                          refine WQ_iconst (4) (4) dX11_actOf_275 rfl rfl (fun v4815 hv4815 => ?_)
                          refine WP_iload dX11_actOf_276 rfl ?_
                          refine WQ_imulK (4) dX11_actOf_278 hv4815 (by omega) (by omega) (fun v4816 hv4816 => ?_)
                          refine WQ_iadd dX11_actOf_279 (by omega) (by omega) (fun v4817 hv4817 => ?_)
                          refine WP_iload dX11_actOf_280 rfl ?_
                          refine WQ_iadd dX11_actOf_282 (by omega) (by omega) (fun v4818 hv4818 => ?_)
                          exact WP_iret dX11_actOf_283 rfl ⟨⟨hI, rfl, fr0, rfl, frq0, ⟨trivial, rfl, rfl, rfl⟩⟩, _, rfl, by omega, by omega, (by
                              unfold AM
                              rw [euu, show I (ad g 24) (7 * so.toInt + da.toInt).toNat = v4716 by rw [← cl (x := v4694) (n := (7 * so.toInt + da.toInt).toNat) (by omega)]; exact ev4716, ew4689, ← cv4717]
                              have k1 : v4771.toInt * v4717.toInt ≤ co.toInt := cv4771.2
                              have k2 := cv4812.2
                              rw [← cv4811]
                              exact AOKm_set (s := v4812.toInt) (f := v4775.toInt) (e := v4771.toInt) (by omega) (by omega) (by omega) (by omega) (by omega) (by omega) (by omega) (by omega) (by omega) (by omega))⟩
                    refine WQ_if_eq 209 dX11_actOf_193 rfl (fun c4818 => ?_) (fun c4818 => ?_)
                    · refine WQ_iconst (1) (1) dX11_actOf_209 rfl rfl (fun v4820 hv4820 => ?_)
                      refine WP_goto 214 dX11_actOf_210 rfl ?_
                      exact WP_sub (fc rfl (fc rfl (fc rfl (fc rfl (fc rfl (fc rfl (fc rfl (fc rfl (fc rfl (fc rfl (fc rfl (fc rfl (fc rfl (fc rfl fn)))))))))))))) (jn214_4785 v4820 (by omega) (by omega))
                    · refine WP_iload_n dX11_actOf_196 rfl ?_
                      refine WQ_iconst (2) (2) dX11_actOf_197 rfl rfl (fun v4821 hv4821 => ?_)
                      refine WQ_icmp_ne 213 dX11_actOf_198 rfl (fun c4821 => ?_) (fun c4821 => ?_)
                      · refine WQ_iconst (0) (0) dX11_actOf_213 rfl rfl (fun v4823 hv4823 => ?_)
                        exact WP_sub (fc rfl (fc rfl (fc rfl (fc rfl (fc rfl (fc rfl (fc rfl (fc rfl (fc rfl (fc rfl (fc rfl (fc rfl (fc rfl (fc rfl fn)))))))))))))) (jn214_4785 v4823 (by omega) (by omega))
                      · refine WP_aload_n dX11_actOf_201 rfl ?_
                        refine WP_iload_n dX11_actOf_202 rfl ?_
                        refine WP_callV1 (k := 11) dX11_actOf_203 ⟨⟨⟨by decide, by decide⟩, zX11_loses⟩, lX11_414, by decide, rfl, vX11_loses.1, vX11_loses.2⟩ (ly_is hy 0 11 rfl) (sm_loses2 hy hr hI da (by omega) (by omega)) (Nat.le_of_ble_eq_true rfl) ?_
                        intro r Ia Ja Ra hq
                        obtain ⟨⟨ea, eb, ec⟩, v4824, rfl, av4824, bv4824⟩ := hq
                        show WP _ _ _ _ (.int _ :: _) _ _ _ _
                        rw [ea, eb, ec]
                        clear ea eb ec Ia Ja Ra
                        refine WQ_if_le 213 dX11_actOf_206 rfl (fun c4824 => ?_) (fun c4824 => ?_)
                        · refine WQ_iconst (0) (0) dX11_actOf_213 rfl rfl (fun v4826 hv4826 => ?_)
                          exact WP_sub (fc rfl (fc rfl (fc rfl (fc rfl (fc rfl (fc rfl (fc rfl (fc rfl (fc rfl (fc rfl (fc rfl (fc rfl (fc rfl (fc rfl fn)))))))))))))) (jn214_4785 v4826 (by omega) (by omega))
                        · refine WQ_iconst (1) (1) dX11_actOf_209 rfl rfl (fun v4827 hv4827 => ?_)
                          refine WP_goto 214 dX11_actOf_210 rfl ?_
                          exact WP_sub (fc rfl (fc rfl (fc rfl (fc rfl (fc rfl (fc rfl (fc rfl (fc rfl (fc rfl (fc rfl (fc rfl (fc rfl (fc rfl (fc rfl fn)))))))))))))) (jn214_4785 v4827 (by omega) (by omega))
                  refine WQ_icmp_ne 180 dX11_actOf_172 rfl (fun c4827 => ?_) (fun c4827 => ?_)
                  · refine WP_iload dX11_actOf_180 rfl ?_
                    refine WP_iload dX11_actOf_182 rfl ?_
                    refine WQ_isub dX11_actOf_184 (by omega) (by omega) (fun v4829 hv4829 => ?_)
                    refine WP_iload dX11_actOf_185 rfl ?_
                    refine WQ_min dX11_actOf_187 lX11_417 ⟨by decide, Nat.le_of_ble_eq_true rfl⟩ (fun v4830 av4830 bv4830 cv4830 => ?_)
                    exact WP_sub (fc rfl (fc rfl (fc rfl (fc rfl (fc rfl (fc rfl (fc rfl (fc rfl (fc rfl (fc rfl (fc rfl (fc rfl (fc rfl fn))))))))))))) (jn190_4775 v4830 (by omega) (by omega) (by omega) (by omega))
                  · refine WP_iload dX11_actOf_175 rfl ?_
                    refine WP_goto 190 dX11_actOf_177 rfl ?_
                    exact WP_sub (fc rfl (fc rfl (fc rfl (fc rfl (fc rfl (fc rfl (fc rfl (fc rfl (fc rfl (fc rfl (fc rfl (fc rfl (fc rfl fn))))))))))))) (jn190_4775 v4720 (by omega) (by omega) (by omega) (by omega))
                refine WQ_icmp_ne 159 dX11_actOf_148 rfl (fun c4830 => ?_) (fun c4830 => ?_)
                · refine WP_iload dX11_actOf_159 rfl ?_
                  exact WP_sub (fc rfl (fc rfl (fc rfl (fc rfl (fc rfl (fc rfl (fc rfl (fc rfl (fc rfl (fc rfl (fc rfl (fc rfl fn)))))))))))) (jn161_4769 v4695 (by omega) (by omega) (by omega) (by omega))
                · refine WP_iload dX11_actOf_151 rfl ?_
                  refine WP_iload dX11_actOf_153 rfl ?_
                  refine WQ_isub dX11_actOf_155 (by omega) (by omega) (fun v4832 hv4832 => ?_)
                  refine WP_goto 161 dX11_actOf_156 rfl ?_
                  exact WP_sub (fc rfl (fc rfl (fc rfl (fc rfl (fc rfl (fc rfl (fc rfl (fc rfl (fc rfl (fc rfl (fc rfl (fc rfl fn)))))))))))) (jn161_4769 v4832 (by omega) (by omega) (by omega) (by omega))
              · refine WQ_iconst (0) (0) dX11_actOf_142 rfl rfl (fun v4833 hv4833 => ?_)
                refine WP_goto 168 dX11_actOf_143 rfl ?_
                refine WP_istore (ls' := [(0, _), (1, _), (2, _), (3, _), (4, _), (5, _), (6, _), (7, _), (8, _), (9, _), (10, _), (11, _), (12, _)]) dX11_actOf_168 (by decide) rfl ?_
                refine WP_iload_n dX11_actOf_170 rfl ?_
                refine WQ_iconst (2) (2) dX11_actOf_171 rfl rfl (fun v4834 hv4834 => ?_)
                have jn190_4837 : ∀ (v4837 : Int32), 0 ≤ v4837.toInt → v4837.toInt ≤ 3 → (v4837.toInt ≤ v4720.toInt) → (0 ≤ v4837.toInt) → WP g mX11_actOf 190 [(0, .ref (ad g 0)), (1, .int wy), (2, .int so), (3, .int da), (4, .int co), (5, .int st), (6, .int v4694), (7, .int v4695), (8, .int v4703), (9, .int v4710), (10, .int v4717), (11, .int v4720), (12, .int v4833)] [.int v4837] I J R (fun r I' J' R' => (MP g n L I' ∧ R' = R ∧ fz 49 g [0, 35, 36, 37] I I' ∧ J' = J ∧ fs g [56] I I' ∧ True ∧ I' (ad g 0) 10 = I (ad g 0) 10 ∧ I' (ad g 0) 14 = I (ad g 0) 14 ∧ I' (ad g 0) 68 = I (ad g 0) 68) ∧ ∃ v : Int32, r = some (.int v) ∧ 0 ≤ v.toInt ∧ v.toInt ≤ 47 ∧ (AM (I (ad g 22)) (I (ad g 24)) (I (ad g 25)) (I (ad g 0) 14).toInt so.toInt da.toInt co.toInt st.toInt v.toInt)) := by
                  intro v4837 av4837 bv4837 jf0_v4837 jf1_v4837
                  refine WP_istore (ls' := [(0, _), (1, _), (2, _), (3, _), (4, _), (5, _), (6, _), (7, _), (8, _), (9, _), (10, _), (11, _), (12, _), (13, _)]) dX11_actOf_190 (by decide) rfl ?_
                  refine WP_iload_n dX11_actOf_192 rfl ?_
                  have jn214_4847 : ∀ (v4847 : Int32), 0 ≤ v4847.toInt → v4847.toInt ≤ 1 → WP g mX11_actOf 214 [(0, .ref (ad g 0)), (1, .int wy), (2, .int so), (3, .int da), (4, .int co), (5, .int st), (6, .int v4694), (7, .int v4695), (8, .int v4703), (9, .int v4710), (10, .int v4717), (11, .int v4720), (12, .int v4833), (13, .int v4837)] [.int v4847] I J R (fun r I' J' R' => (MP g n L I' ∧ R' = R ∧ fz 49 g [0, 35, 36, 37] I I' ∧ J' = J ∧ fs g [56] I I' ∧ True ∧ I' (ad g 0) 10 = I (ad g 0) 10 ∧ I' (ad g 0) 14 = I (ad g 0) 14 ∧ I' (ad g 0) 68 = I (ad g 0) 68) ∧ ∃ v : Int32, r = some (.int v) ∧ 0 ≤ v.toInt ∧ v.toInt ≤ 47 ∧ (AM (I (ad g 22)) (I (ad g 24)) (I (ad g 25)) (I (ad g 0) 14).toInt so.toInt da.toInt co.toInt st.toInt v.toInt)) := by
                    intro v4847 av4847 bv4847
                    refine WP_istore (ls' := [(0, _), (1, _), (2, _), (3, _), (4, _), (5, _), (6, _), (7, _), (8, _), (9, _), (10, _), (11, _), (12, _), (13, _), (14, _)]) dX11_actOf_214 (by decide) rfl ?_
                    refine WQ_iconst (0) (0) dX11_actOf_216 rfl rfl (fun v4849 hv4849 => ?_)
                    refine WP_istore (ls' := [(0, _), (1, _), (2, _), (3, _), (4, _), (5, _), (6, _), (7, _), (8, _), (9, _), (10, _), (11, _), (12, _), (13, _), (14, _), (15, _)]) dX11_actOf_217 (by decide) rfl ?_
                    refine WP_iload dX11_actOf_219 rfl ?_
                    refine WQ_if_eq 270 dX11_actOf_221 rfl (fun c4849 => ?_) (fun c4849 => ?_)
                    · refine WQ_bipush (16) (16) dX11_actOf_270 rfl rfl (fun v4851 hv4851 => ?_)
                      refine WP_iload dX11_actOf_272 rfl ?_
                      refine WQ_imulk (0) dX11_actOf_274 hv4849 (by omega) (by omega) (fun v4852 hv4852 => ?_)
                      refine WQ_iconst (4) (4) dX11_actOf_275 rfl rfl (fun v4853 hv4853 => ?_)
                      refine WP_iload dX11_actOf_276 rfl ?_
                      refine WQ_imulK (4) dX11_actOf_278 hv4853 (by omega) (by omega) (fun v4854 hv4854 => ?_)
                      refine WQ_iadd dX11_actOf_279 (by omega) (by omega) (fun v4855 hv4855 => ?_)
                      refine WP_iload dX11_actOf_280 rfl ?_
                      refine WQ_iadd dX11_actOf_282 (by omega) (by omega) (fun v4856 hv4856 => ?_)
                      exact WP_iret dX11_actOf_283 rfl ⟨⟨hI, rfl, fr0, rfl, frq0, ⟨trivial, rfl, rfl, rfl⟩⟩, _, rfl, by omega, by omega, (by
                          unfold AM
                          rw [euu, show I (ad g 24) (7 * so.toInt + da.toInt).toNat = v4716 by rw [← cl (x := v4694) (n := (7 * so.toInt + da.toInt).toNat) (by omega)]; exact ev4716, ew4689, ← cv4717]
                          have k1 : v4833.toInt * v4717.toInt ≤ co.toInt := (by rw [show v4833.toInt = 0 by omega, Int.zero_mul]; omega)
                          have k3 : v4833.toInt * v4717.toInt = 0 := (by rw [show v4833.toInt = 0 by omega, Int.zero_mul])
                          exact AOKm_set (s := 0) (f := v4837.toInt) (e := v4833.toInt) (by omega) (by omega) (by omega) (by omega) (by omega) (by omega) (by omega) (by rw [Int.zero_mul]; omega) (by omega) (Or.inl rfl))⟩
                    · refine WP_iload dX11_actOf_224 rfl ?_
                      refine WQ_if_ne 270 dX11_actOf_226 rfl (fun c4856 => False.elim (by omega)) (fun c4856 => ?_)
                      refine WP_aload_n dX11_actOf_229 rfl ?_
                      refine WQ_getim dX11_actOf_230 fX11_224 rfl (ly_is hy 0 11 rfl) ew4689 ?_
                      refine WQ_iconst (-1) (-1) dX11_actOf_233 rfl rfl (fun v4858 hv4858 => ?_)
                      refine WQ_icmp_eq 270 dX11_actOf_234 rfl (fun c4858 => ?_) (fun c4858 => ?_)
                      · refine WQ_bipush (16) (16) dX11_actOf_270 rfl rfl (fun v4860 hv4860 => ?_)
                        refine WP_iload dX11_actOf_272 rfl ?_
                        refine WQ_imulk (0) dX11_actOf_274 hv4849 (by omega) (by omega) (fun v4861 hv4861 => ?_)
                        refine WQ_iconst (4) (4) dX11_actOf_275 rfl rfl (fun v4862 hv4862 => ?_)
                        refine WP_iload dX11_actOf_276 rfl ?_
                        refine WQ_imulK (4) dX11_actOf_278 hv4862 (by omega) (by omega) (fun v4863 hv4863 => ?_)
                        refine WQ_iadd dX11_actOf_279 (by omega) (by omega) (fun v4864 hv4864 => ?_)
                        refine WP_iload dX11_actOf_280 rfl ?_
                        refine WQ_iadd dX11_actOf_282 (by omega) (by omega) (fun v4865 hv4865 => ?_)
                        exact WP_iret dX11_actOf_283 rfl ⟨⟨hI, rfl, fr0, rfl, frq0, ⟨trivial, rfl, rfl, rfl⟩⟩, _, rfl, by omega, by omega, (by
                            unfold AM
                            rw [euu, show I (ad g 24) (7 * so.toInt + da.toInt).toNat = v4716 by rw [← cl (x := v4694) (n := (7 * so.toInt + da.toInt).toNat) (by omega)]; exact ev4716, ew4689, ← cv4717]
                            have k1 : v4833.toInt * v4717.toInt ≤ co.toInt := (by rw [show v4833.toInt = 0 by omega, Int.zero_mul]; omega)
                            have k3 : v4833.toInt * v4717.toInt = 0 := (by rw [show v4833.toInt = 0 by omega, Int.zero_mul])
                            exact AOKm_set (s := 0) (f := v4837.toInt) (e := v4833.toInt) (by omega) (by omega) (by omega) (by omega) (by omega) (by omega) (by omega) (by rw [Int.zero_mul]; omega) (by omega) (Or.inl rfl))⟩
                      · refine WQ_iconst (2) (2) dX11_actOf_237 rfl rfl (fun v4866 hv4866 => ?_)
                        refine WQ_iconst (5) (5) dX11_actOf_238 rfl rfl (fun v4867 hv4867 => ?_)
                        refine WP_iload dX11_actOf_239 rfl ?_
                        refine WQ_isub dX11_actOf_241 (by omega) (by omega) (fun v4868 hv4868 => ?_)
                        refine WP_iload dX11_actOf_242 rfl ?_
                        refine WQ_iadd dX11_actOf_244 (by omega) (by omega) (fun v4869 hv4869 => ?_)
                        refine WQ_min dX11_actOf_245 lX11_417 ⟨by decide, Nat.le_of_ble_eq_true rfl⟩ (fun v4870 av4870 bv4870 cv4870 => ?_)
                        refine WP_iload dX11_actOf_248 rfl ?_
                        have kk0 : v4833.toInt * v4717.toInt ≤ co.toInt := (by rw [show v4833.toInt = 0 by omega, Int.zero_mul]; omega)
                        refine WP_iload dX11_actOf_250 rfl ?_
                        refine WP_iload dX11_actOf_252 rfl ?_
                        refine WQ_imulK (0) dX11_actOf_254 hv4833 (by omega) (by omega) (fun v4871 hv4871 => ?_)
                        refine WQ_isub dX11_actOf_255 (by omega) (by omega) (fun v4872 hv4872 => ?_)
                        refine WP_aload_n dX11_actOf_256 rfl ?_
                        refine WP_aload_n dX11_actOf_257 rfl ?_
                        refine WQ_getim dX11_actOf_258 fX11_224 rfl (ly_is hy 0 11 rfl) ew4689 ?_
                        refine WP_iload_n dX11_actOf_261 rfl ?_
                        refine WP_callV2 (k := 11) dX11_actOf_262 ⟨⟨⟨by decide, by decide⟩, zX11_costAt⟩, lX11_402, by decide, rfl, vX11_costAt.1, vX11_costAt.2⟩ (ly_is hy 0 11 rfl) (sm_costx hy hr hI w4689 da (by omega) (by omega) (by omega) (by omega)) (Nat.le_of_ble_eq_true rfl) ?_
                        intro r Ia Ja Ra hq
                        obtain ⟨⟨ea, eb, ec⟩, v4873, rfl, av4873, bv4873, cv4873⟩ := hq
                        show WP _ _ _ _ (.int _ :: _) _ _ _ _
                        rw [ea, eb, ec]
                        clear ea eb ec Ia Ja Ra
                        refine WP_callS3 dX11_actOf_265 ⟨⟨⟨by decide, by decide⟩, zX11_canBuy⟩, lX11_446, tX11_canBuy⟩ (sm_canBuyx hy hr hI v4870 v4872 v4873 (by omega) (by omega) (by omega) (by omega) (by omega) (by omega)) (Nat.le_of_ble_eq_true rfl) ?_
                        intro r Ia Ja Ra hq
                        obtain ⟨⟨ea, eb, ec⟩, v4874, rfl, av4874, bv4874, cv4874⟩ := hq
                        show WP _ _ _ _ (.int _ :: _) _ _ _ _
                        rw [ea, eb, ec]
                        clear ea eb ec Ia Ja Ra
                        refine WP_istore (ls' := [(0, _), (1, _), (2, _), (3, _), (4, _), (5, _), (6, _), (7, _), (8, _), (9, _), (10, _), (11, _), (12, _), (13, _), (14, _), (15, _)]) dX11_actOf_268 (by decide) rfl ?_
                        refine WQ_bipush (16) (16) dX11_actOf_270 rfl rfl (fun v4875 hv4875 => ?_)
                        refine WP_iload dX11_actOf_272 rfl ?_
                        refine WQ_imulK (16) dX11_actOf_274 hv4875 (by omega) (by omega) (fun v4876 hv4876 => ?_)
                        refine WQ_iconst (4) (4) dX11_actOf_275 rfl rfl (fun v4877 hv4877 => ?_)
                        refine WP_iload dX11_actOf_276 rfl ?_
                        refine WQ_imulK (4) dX11_actOf_278 hv4877 (by omega) (by omega) (fun v4878 hv4878 => ?_)
                        refine WQ_iadd dX11_actOf_279 (by omega) (by omega) (fun v4879 hv4879 => ?_)
                        refine WP_iload dX11_actOf_280 rfl ?_
                        refine WQ_iadd dX11_actOf_282 (by omega) (by omega) (fun v4880 hv4880 => ?_)
                        exact WP_iret dX11_actOf_283 rfl ⟨⟨hI, rfl, fr0, rfl, frq0, ⟨trivial, rfl, rfl, rfl⟩⟩, _, rfl, by omega, by omega, (by
                            unfold AM
                            rw [euu, show I (ad g 24) (7 * so.toInt + da.toInt).toNat = v4716 by rw [← cl (x := v4694) (n := (7 * so.toInt + da.toInt).toNat) (by omega)]; exact ev4716, ew4689, ← cv4717]
                            have k1 : v4833.toInt * v4717.toInt ≤ co.toInt := (by rw [show v4833.toInt = 0 by omega, Int.zero_mul]; omega)
                            have k3 : v4833.toInt * v4717.toInt = 0 := (by rw [show v4833.toInt = 0 by omega, Int.zero_mul])
                            have k2 := cv4874.2
                            rw [← cv4873]
                            exact AOKm_set (s := v4874.toInt) (f := v4837.toInt) (e := v4833.toInt) (by omega) (by omega) (by omega) (by omega) (by omega) (by omega) (by omega) (by omega) (by omega) (by omega))⟩
                  refine WQ_if_eq 209 dX11_actOf_193 rfl (fun c4880 => ?_) (fun c4880 => ?_)
                  · refine WQ_iconst (1) (1) dX11_actOf_209 rfl rfl (fun v4882 hv4882 => ?_)
                    refine WP_goto 214 dX11_actOf_210 rfl ?_
                    exact WP_sub (fc rfl (fc rfl (fc rfl (fc rfl (fc rfl (fc rfl (fc rfl (fc rfl (fc rfl (fc rfl (fc rfl (fc rfl (fc rfl (fc rfl fn)))))))))))))) (jn214_4847 v4882 (by omega) (by omega))
                  · refine WP_iload_n dX11_actOf_196 rfl ?_
                    refine WQ_iconst (2) (2) dX11_actOf_197 rfl rfl (fun v4883 hv4883 => ?_)
                    refine WQ_icmp_ne 213 dX11_actOf_198 rfl (fun c4883 => ?_) (fun c4883 => ?_)
                    · refine WQ_iconst (0) (0) dX11_actOf_213 rfl rfl (fun v4885 hv4885 => ?_)
                      exact WP_sub (fc rfl (fc rfl (fc rfl (fc rfl (fc rfl (fc rfl (fc rfl (fc rfl (fc rfl (fc rfl (fc rfl (fc rfl (fc rfl (fc rfl fn)))))))))))))) (jn214_4847 v4885 (by omega) (by omega))
                    · refine WP_aload_n dX11_actOf_201 rfl ?_
                      refine WP_iload_n dX11_actOf_202 rfl ?_
                      refine WP_callV1 (k := 11) dX11_actOf_203 ⟨⟨⟨by decide, by decide⟩, zX11_loses⟩, lX11_414, by decide, rfl, vX11_loses.1, vX11_loses.2⟩ (ly_is hy 0 11 rfl) (sm_loses2 hy hr hI da (by omega) (by omega)) (Nat.le_of_ble_eq_true rfl) ?_
                      intro r Ia Ja Ra hq
                      obtain ⟨⟨ea, eb, ec⟩, v4886, rfl, av4886, bv4886⟩ := hq
                      show WP _ _ _ _ (.int _ :: _) _ _ _ _
                      rw [ea, eb, ec]
                      clear ea eb ec Ia Ja Ra
                      refine WQ_if_le 213 dX11_actOf_206 rfl (fun c4886 => ?_) (fun c4886 => ?_)
                      · refine WQ_iconst (0) (0) dX11_actOf_213 rfl rfl (fun v4888 hv4888 => ?_)
                        exact WP_sub (fc rfl (fc rfl (fc rfl (fc rfl (fc rfl (fc rfl (fc rfl (fc rfl (fc rfl (fc rfl (fc rfl (fc rfl (fc rfl (fc rfl fn)))))))))))))) (jn214_4847 v4888 (by omega) (by omega))
                      · refine WQ_iconst (1) (1) dX11_actOf_209 rfl rfl (fun v4889 hv4889 => ?_)
                        refine WP_goto 214 dX11_actOf_210 rfl ?_
                        exact WP_sub (fc rfl (fc rfl (fc rfl (fc rfl (fc rfl (fc rfl (fc rfl (fc rfl (fc rfl (fc rfl (fc rfl (fc rfl (fc rfl (fc rfl fn)))))))))))))) (jn214_4847 v4889 (by omega) (by omega))
                refine WQ_icmp_ne 180 dX11_actOf_172 rfl (fun c4889 => ?_) (fun c4889 => ?_)
                · refine WP_iload dX11_actOf_180 rfl ?_
                  refine WP_iload dX11_actOf_182 rfl ?_
                  refine WQ_isub dX11_actOf_184 (by omega) (by omega) (fun v4891 hv4891 => ?_)
                  refine WP_iload dX11_actOf_185 rfl ?_
                  refine WQ_min dX11_actOf_187 lX11_417 ⟨by decide, Nat.le_of_ble_eq_true rfl⟩ (fun v4892 av4892 bv4892 cv4892 => ?_)
                  exact WP_sub (fc rfl (fc rfl (fc rfl (fc rfl (fc rfl (fc rfl (fc rfl (fc rfl (fc rfl (fc rfl (fc rfl (fc rfl (fc rfl fn))))))))))))) (jn190_4837 v4892 (by omega) (by omega) (by omega) (by omega))
                · refine WP_iload dX11_actOf_175 rfl ?_
                  refine WP_goto 190 dX11_actOf_177 rfl ?_
                  exact WP_sub (fc rfl (fc rfl (fc rfl (fc rfl (fc rfl (fc rfl (fc rfl (fc rfl (fc rfl (fc rfl (fc rfl (fc rfl (fc rfl fn))))))))))))) (jn190_4837 v4720 (by omega) (by omega) (by omega) (by omega))
          refine WQ_if_eq 129 dX11_actOf_116 rfl (fun c4892 => ?_) (fun c4892 => ?_)
          · refine WQ_iconst (0) (0) dX11_actOf_129 rfl rfl (fun v4894 hv4894 => ?_)
            exact WP_sub (fc rfl (fc rfl (fc rfl (fc rfl (fc rfl (fc rfl (fc rfl (fc rfl (fc rfl (fc rfl (fc rfl fn))))))))))) (jn130_4720 v4894 (by omega) (by omega) (by omega) (by omega))
          · refine WP_iload dX11_actOf_119 rfl ?_
            refine WP_iload dX11_actOf_121 rfl ?_
            refine WQ_min dX11_actOf_123 lX11_417 ⟨by decide, Nat.le_of_ble_eq_true rfl⟩ (fun v4895 av4895 bv4895 cv4895 => ?_)
            refine WP_goto 130 dX11_actOf_126 rfl ?_
            exact WP_sub (fc rfl (fc rfl (fc rfl (fc rfl (fc rfl (fc rfl (fc rfl (fc rfl (fc rfl (fc rfl (fc rfl fn))))))))))) (jn130_4720 v4895 (by omega) (by omega) (by omega) (by omega))
        · refine WP_aload_n dX11_actOf_76 rfl ?_
          refine WP_iload_n dX11_actOf_77 rfl ?_
          refine WP_iload_n dX11_actOf_78 rfl ?_
          refine WP_callV2 (k := 11) dX11_actOf_79 ⟨⟨⟨by decide, by decide⟩, zX11_findWeek⟩, lX11_442, by decide, rfl, vX11_findWeek.1, vX11_findWeek.2⟩ (ly_is hy 0 11 rfl) (sm_findWeek hy hr hI so da (by omega) (by omega) (by omega) (by omega)) (Nat.le_of_ble_eq_true rfl) ?_
          intro r I4896 J4897 Ra hq
          obtain ⟨⟨hI4896, ec, fiI4896, ejI4896, fqI4896, ⟨pI4896, sI4896_0_10, sI4896_0_14, sI4896_0_68⟩⟩, rfl⟩ := hq
          rw [ec]
          clear ec Ra
          have fr4898 : fz 49 g [0, 35, 36, 37] I I4896 := fz_tr fr0 (fz_mono fiI4896 (by decide))
          have fr4899 : fs g [56] I I4896 := fs_tr frq0 (fs_mono fqI4896 (by decide))
          rw [ejI4896]
          clear ejI4896 J4897
          have e4900 : I4896 (ad g 0) 10 = w4690 := by rw [sI4896_0_10]; exact ew4690
          have e4901 : I4896 (ad g 0) 14 = w4689 := by rw [sI4896_0_14]; exact ew4689
          have e4902 : I4896 (ad g 0) 68 = w4691 := by rw [sI4896_0_68]; exact ew4691
          have e4903 : I4896 (ad g 11) so.toNatClampNeg = v4696 := by rw [fz_at fiI4896 11 (by decide) (by decide)]; exact ev4696
          have e4904 : I4896 (ad g 0) 1 = L := hI4896.1.2
          have b4905 := BT_get hI4896.1.1 0 1 2 (0) (0) (900) (by decide) 1 (by decide) (by decide)
          rw [e4904] at b4905
          refine WP_aload_n dX11_actOf_82 rfl ?_
          refine WP_iload_n dX11_actOf_83 rfl ?_
          refine WP_iload_n dX11_actOf_84 rfl ?_
          refine WP_iload dX11_actOf_85 rfl ?_
          refine WP_iload dX11_actOf_87 rfl ?_
          refine WQ_bipush (7) (7) dX11_actOf_89 rfl rfl (fun v4906 hv4906 => ?_)
          refine WP_callV5 (k := 11) dX11_actOf_91 ⟨⟨⟨by decide, by decide⟩, zX11_bestFrom⟩, lX11_429, by decide, rfl, vX11_bestFrom.1, vX11_bestFrom.2⟩ (ly_is hy 0 11 rfl) (sm_bestFrom hy hr hI4896 so da co st v4906 (by omega) (by omega) (by omega) (by omega) (by omega) (by omega) (by omega) (by omega) (by omega) (by omega)) (Nat.le_of_ble_eq_true rfl) ?_
          intro r I4907 J4908 Ra hq
          obtain ⟨⟨hI4907, ec, fiI4907, ejI4907, fqI4907, ⟨pI4907, sI4907_0_10, sI4907_0_14, sI4907_0_68⟩⟩, v4909, rfl, av4909, bv4909, cv4909⟩ := hq
          show WP _ _ _ _ (.int _ :: _) _ _ _ _
          rw [ec]
          clear ec Ra
          have fr4910 : fz 49 g [0, 35, 36, 37] I I4907 := fz_tr fr4898 (fz_mono fiI4907 (by decide))
          have fr4911 : fs g [56] I I4907 := fs_tr fr4899 (fs_mono fqI4907 (by decide))
          rw [ejI4907]
          clear ejI4907 J4908
          have e4912 : I4907 (ad g 0) 10 = w4690 := by rw [sI4907_0_10]; exact e4900
          have e4913 : I4907 (ad g 0) 14 = w4689 := by rw [sI4907_0_14]; exact e4901
          have e4914 : I4907 (ad g 0) 68 = w4691 := by rw [sI4907_0_68]; exact e4902
          have e4915 : I4907 (ad g 11) so.toNatClampNeg = v4696 := by rw [fz_at fiI4907 11 (by decide) (by decide)]; exact e4903
          have e4916 : I4907 (ad g 0) 1 = L := hI4907.1.2
          have b4917 := BT_get hI4907.1.1 0 1 2 (0) (0) (900) (by decide) 1 (by decide) (by decide)
          rw [e4916] at b4917
          obtain ⟨w4918, ew4918⟩ : ∃ w : Int32, I4907 (ad g 0) 56 = w := ⟨_, rfl⟩
          have bw4918 := BT_get hI4907.1.1 0 56 57 (0) (0) (47) (by decide) 56 (by decide) (by decide)
          rw [ew4918] at bw4918
          have amI4907 := pI4907
          rw [fz_at fr4898 22 (by decide) (by decide), fz_at fr4898 24 (by decide) (by decide), fz_at fr4898 25 (by decide) (by decide), e4901, ew4918] at amI4907
          refine WP_pop dX11_actOf_94 rfl ?_
          refine WP_aload_n dX11_actOf_95 rfl ?_
          refine WQ_getim dX11_actOf_96 fX11_423 rfl (ly_is hy 0 11 rfl) ew4918 ?_
          exact WP_iret dX11_actOf_99 rfl ⟨⟨hI4907, rfl, fr4910, rfl, fr4911, ⟨trivial, (by rw [e4912, ew4690] <;> exact (eq32 _ _).mpr (by omega)), (by rw [e4913, ew4689] <;> exact (eq32 _ _).mpr (by omega)), (by rw [e4914, ew4691] <;> exact (eq32 _ _).mpr (by omega))⟩⟩, _, rfl, by omega, by omega, (by rw [ew4689]; exact amI4907)⟩
      · refine WQ_iconst (0) (0) dX11_actOf_69 rfl rfl (fun v4919 hv4919 => ?_)
        exact WP_iret dX11_actOf_70 rfl ⟨⟨hI, rfl, fr0, rfl, frq0, ⟨trivial, rfl, rfl, rfl⟩⟩, _, rfl, by omega, by omega, (by unfold AM; exact AOKm_set (s := 0) (f := 0) (e := 0) (by omega) (by omega) (by omega) (by omega) (by omega) (by omega) (by omega) (by rw [Int.zero_mul, Int.zero_mul]; omega) (by rw [euu]; omega) (Or.inl rfl))⟩
    refine WQ_if_le 61 dX11_actOf_40 rfl (fun c4919 => ?_) (fun c4919 => ?_)
    · refine WQ_iconst (0) (0) dX11_actOf_61 rfl rfl (fun v4921 hv4921 => ?_)
      exact WP_sub (fc rfl (fc rfl (fc rfl (fc rfl (fc rfl (fc rfl (fc rfl (fc rfl (fc rfl fn))))))))) (jn62_4710 v4921 (by omega) (by omega))
    · refine WP_aload_n dX11_actOf_43 rfl ?_
      refine WP_getr dX11_actOf_44 fX11_261 rfl (ly_is hy 0 11 rfl) (rf hr 0 42 24 (by decide)) ?_
      refine WP_iload dX11_actOf_47 rfl ?_
      refine WQ_iald dX11_actOf_49 (ly_is hy 24 13 rfl) (ly_n hy 24 28 rfl) (by omega) (by omega) (fun q hq => BT_get hI.1.1 24 0 28 (-1) (0) (2) (by decide) q (Nat.zero_le _) hq) (fun v4922 av4922 bv4922 ev4922 => ?_)
      refine WP_aload_n dX11_actOf_50 rfl ?_
      refine WQ_getim dX11_actOf_51 fX11_224 rfl (ly_is hy 0 11 rfl) ew4689 ?_
      refine WQ_icmp_ne 61 dX11_actOf_54 rfl (fun c4922 => ?_) (fun c4922 => ?_)
      · refine WQ_iconst (0) (0) dX11_actOf_61 rfl rfl (fun v4924 hv4924 => ?_)
        exact WP_sub (fc rfl (fc rfl (fc rfl (fc rfl (fc rfl (fc rfl (fc rfl (fc rfl (fc rfl fn))))))))) (jn62_4710 v4924 (by omega) (by omega))
      · refine WQ_iconst (1) (1) dX11_actOf_57 rfl rfl (fun v4925 hv4925 => ?_)
        refine WP_goto 62 dX11_actOf_58 rfl ?_
        exact WP_sub (fc rfl (fc rfl (fc rfl (fc rfl (fc rfl (fc rfl (fc rfl (fc rfl (fc rfl fn))))))))) (jn62_4710 v4925 (by omega) (by omega))
  refine WQ_icmp_ne 35 dX11_actOf_28 rfl (fun c4925 => ?_) (fun c4925 => ?_)
  · refine WQ_iconst (0) (0) dX11_actOf_35 rfl rfl (fun v4927 hv4927 => ?_)
    exact WP_sub (fc rfl (fc rfl (fc rfl (fc rfl (fc rfl (fc rfl (fc rfl (fc rfl fn)))))))) (jn36_4703 v4927 (by omega) (by omega))
  · refine WQ_iconst (1) (1) dX11_actOf_31 rfl rfl (fun v4928 hv4928 => ?_)
    refine WP_goto 36 dX11_actOf_32 rfl ?_
    exact WP_sub (fc rfl (fc rfl (fc rfl (fc rfl (fc rfl (fc rfl (fc rfl (fc rfl fn)))))))) (jn36_4703 v4928 (by omega) (by omega))
