set_option maxHeartbeats 4000000 in
set_option maxRecDepth 100000 in
theorem sm_copyw_6_7 {g : GG} {n : Int} {L : Int32} (hy : Ly g)  {I : pI} {J : pJ} {R : pR} (hr : Rf g R) (hI : MW g n L I)   : SP g mX11_copy [.ref (ad g 6), .ref (ad g 7)] I J R (fun r I' J' R' => (MW g n L I' ∧ R' = R ∧ fz 49 g [6] I I' ∧ (∀ q : Nat, q < 7 → I' (ad g 6) q = I (ad g 7) q)) ∧ r = none) := by
  refine SP_of ⟨by decide, rfl⟩ (Nat.le_of_ble_eq_true rfl) ?_
  have e9542 : I (ad g 0) 1 = L := hI.1.2
  have b9543 := BT_get hI.1.1 0 1 2 (0) (0) (900) (by decide) 1 (by decide) (by decide)
  rw [e9542] at b9543
  have fr0 : fz 49 g [6] I I := fz_rf
  refine WQ_iconst (0) (0) dX11_copy_0 rfl rfl (fun v9544 hv9544 => ?_)
  refine WP_istore_n (ls' := [(0, _), (1, _), (2, _)]) dX11_copy_1 (by decide) rfl ?_
  have lp2_9548 : ∀ (mz : Nat) (i9545 : Int32) (I9546 : pI) (J9547 : pJ), MW g n L I9546 → fz 49 g [6] I I9546 → 0 ≤ i9545.toInt → i9545.toInt ≤ 7 → (∀ q : Nat, (q : Int) < i9545.toInt → I9546 (ad g 6) q = I (ad g 7) q) → (8 - i9545.toInt).toNat < mz → WP g mX11_copy 2 [(0, .ref (ad g 6)), (1, .ref (ad g 7)), (2, .int i9545)] [] I9546 J9547 R (fun r I' J' R' => (MW g n L I' ∧ R' = R ∧ fz 49 g [6] I I' ∧ (∀ q : Nat, q < 7 → I' (ad g 6) q = I (ad g 7) q)) ∧ r = none) := by
    intro mz
    induction mz with
    | zero =>
      intro i9545 I9546 J9547 hI9546 fiI9546 ai9545 bi9545 PC_I9546_9547 hmlp2_9548
      exact absurd hmlp2_9548 (Nat.not_lt_zero _)
    | succ mz ihlp2_9548 =>
      intro i9545 I9546 J9547 hI9546 fiI9546 ai9545 bi9545 PC_I9546_9547 hmlp2_9548
      have e9550 : I9546 (ad g 0) 1 = L := hI9546.1.2
      have b9551 := BT_get hI9546.1.1 0 1 2 (0) (0) (900) (by decide) 1 (by decide) (by decide)
      rw [e9550] at b9551
      refine WP_iload_n dX11_copy_2 rfl ?_
      refine WP_aload_n dX11_copy_3 rfl ?_
      refine WP_alen dX11_copy_4 (ly_is hy 6 13 rfl) (by decide) ?_
      rw [(ly_n hy 6 7 rfl)]
      obtain ⟨v9552, hv9552, ev9552⟩ : ∃ v : Int32, v.toInt = 7 ∧ nI 7 = v := ⟨_, nI_toInt (by decide), rfl⟩
      rw [ev9552]; clear ev9552
      refine WQ_icmp_ge 20 dX11_copy_5 rfl (fun c9552 => ?_) (fun c9552 => ?_)
      · exact WP_vret dX11_copy_20 rfl ⟨⟨hI9546, rfl, fiI9546, (fun q hq => PC_I9546_9547 q (by omega))⟩, rfl⟩
      · refine WP_aload_n dX11_copy_8 rfl ?_
        refine WP_iload_n dX11_copy_9 rfl ?_
        refine WP_aload_n dX11_copy_10 rfl ?_
        refine WP_iload_n dX11_copy_11 rfl ?_
        refine WQ_iald dX11_copy_12 (ly_is hy 7 13 rfl) (ly_n hy 7 7 rfl) (by omega) (by omega) (fun q hq => BT_get hI9546.1.1 7 0 7 (0) (0) (900) (by decide) q (Nat.zero_le _) hq) (fun v9554 av9554 bv9554 ev9554 => ?_)
        refine WQ_iast dX11_copy_13 (ly_is hy 6 13 rfl) (ly_n hy 6 7 rfl) (by omega) (by omega) (fun I9555 eI9555 => ?_)
        have hI9555 : MW g n L I9555 := by rw [eI9555]; exact (mw_w hy hI9546 (c := 6) (mi_r hy hI9546.1 (c := 6) (0) (0) (900) (by decide) (Or.inl (by decide)) (by decide) (by omega) (by omega)) (by decide) (by decide) (Or.inl (by decide)))
        have e9556 : I9555 (ad g 0) 1 = L := by rw [eI9555, pp_ne _ _ (Or.inl (ly_ne hy (by decide) (by decide) (by decide)))]; exact e9550
        have e9557 : I9555 (ad g 7) i9545.toNatClampNeg = v9554 := by rw [eI9555, pp_ne _ _ (Or.inl (ly_ne hy (by decide) (by decide) (by decide)))]; exact ev9554
        have fr9558 : fz 49 g [6] I I9555 := by rw [eI9555]; exact fzm_pp hy fiI9546 (by decide) (by decide)
        have CI9555 : ∀ q : Nat, (q : Int) < i9545.toInt + 1 → I9555 (ad g 6) q = I (ad g 7) q := by
          intro q hq
          rw [eI9555, pp_at, cl (x := i9545) (n := i9545.toInt.toNat) (by omega)]
          split
          · rename_i z; rw [z, ← fz_at fiI9546 7 (by decide) (by decide), ← cl (x := i9545) (n := i9545.toInt.toNat) (by omega)]; exact ev9554.symm
          · exact PC_I9546_9547 q (by omega)
        clear eI9555
        refine WP_iinc (ls' := [(0, _), (1, _), (2, _)]) dX11_copy_14 rfl (by decide) rfl ?_
        have hv9559 : (i9545 + Int32.ofInt (1)).toInt = i9545.toInt + (1) := ia_n rfl (by omega) (by omega)
        generalize i9545 + Int32.ofInt (1) = v9559 at hv9559 ⊢
        refine WP_goto 2 dX11_copy_17 rfl ?_
        exact WP_sub (fc rfl (fc rfl (fc rfl fn))) (ihlp2_9548 v9559 I9555 J9547 hI9555 fr9558 (by omega) (by omega) (fun q hq => CI9555 q (by omega)) (by omega))
  exact WP_sub (fc rfl (fc rfl (fc rfl fn))) (lp2_9548 _ v9544 I J hI fr0 (by omega) (by omega) (fun q hq => by omega) (Nat.lt_succ_self _))
set_option maxHeartbeats 4000000 in
set_option maxRecDepth 100000 in
theorem sm_copyw_8_14 {g : GG} {n : Int} {L : Int32} (hy : Ly g)  {I : pI} {J : pJ} {R : pR} (hr : Rf g R) (hI : MW g n L I)   : SP g mX11_copy [.ref (ad g 8), .ref (ad g 14)] I J R (fun r I' J' R' => (MW g n L I' ∧ R' = R ∧ fz 49 g [8] I I' ∧ (∀ q : Nat, q < 4 → I' (ad g 8) q = I (ad g 14) q)) ∧ r = none) := by
  refine SP_of ⟨by decide, rfl⟩ (Nat.le_of_ble_eq_true rfl) ?_
  have e9560 : I (ad g 0) 1 = L := hI.1.2
  have b9561 := BT_get hI.1.1 0 1 2 (0) (0) (900) (by decide) 1 (by decide) (by decide)
  rw [e9560] at b9561
  have fr0 : fz 49 g [8] I I := fz_rf
  refine WQ_iconst (0) (0) dX11_copy_0 rfl rfl (fun v9562 hv9562 => ?_)
  refine WP_istore_n (ls' := [(0, _), (1, _), (2, _)]) dX11_copy_1 (by decide) rfl ?_
  have lp2_9566 : ∀ (mz : Nat) (i9563 : Int32) (I9564 : pI) (J9565 : pJ), MW g n L I9564 → fz 49 g [8] I I9564 → 0 ≤ i9563.toInt → i9563.toInt ≤ 4 → (∀ q : Nat, (q : Int) < i9563.toInt → I9564 (ad g 8) q = I (ad g 14) q) → (5 - i9563.toInt).toNat < mz → WP g mX11_copy 2 [(0, .ref (ad g 8)), (1, .ref (ad g 14)), (2, .int i9563)] [] I9564 J9565 R (fun r I' J' R' => (MW g n L I' ∧ R' = R ∧ fz 49 g [8] I I' ∧ (∀ q : Nat, q < 4 → I' (ad g 8) q = I (ad g 14) q)) ∧ r = none) := by
    intro mz
    induction mz with
    | zero =>
      intro i9563 I9564 J9565 hI9564 fiI9564 ai9563 bi9563 PC_I9564_9565 hmlp2_9566
      exact absurd hmlp2_9566 (Nat.not_lt_zero _)
    | succ mz ihlp2_9566 =>
      intro i9563 I9564 J9565 hI9564 fiI9564 ai9563 bi9563 PC_I9564_9565 hmlp2_9566
      have e9568 : I9564 (ad g 0) 1 = L := hI9564.1.2
      have b9569 := BT_get hI9564.1.1 0 1 2 (0) (0) (900) (by decide) 1 (by decide) (by decide)
      rw [e9568] at b9569
      refine WP_iload_n dX11_copy_2 rfl ?_
      refine WP_aload_n dX11_copy_3 rfl ?_
      refine WP_alen dX11_copy_4 (ly_is hy 8 13 rfl) (by decide) ?_
      rw [(ly_n hy 8 4 rfl)]
      obtain ⟨v9570, hv9570, ev9570⟩ : ∃ v : Int32, v.toInt = 4 ∧ nI 4 = v := ⟨_, nI_toInt (by decide), rfl⟩
      rw [ev9570]; clear ev9570
      refine WQ_icmp_ge 20 dX11_copy_5 rfl (fun c9570 => ?_) (fun c9570 => ?_)
      · exact WP_vret dX11_copy_20 rfl ⟨⟨hI9564, rfl, fiI9564, (fun q hq => PC_I9564_9565 q (by omega))⟩, rfl⟩
      · refine WP_aload_n dX11_copy_8 rfl ?_
        refine WP_iload_n dX11_copy_9 rfl ?_
        refine WP_aload_n dX11_copy_10 rfl ?_
        refine WP_iload_n dX11_copy_11 rfl ?_
        refine WQ_iald dX11_copy_12 (ly_is hy 14 13 rfl) (ly_n hy 14 4 rfl) (by omega) (by omega) (fun q hq => BT_get hI9564.1.1 14 0 4 (0) (0) (99) (by decide) q (Nat.zero_le _) hq) (fun v9572 av9572 bv9572 ev9572 => ?_)
        refine WQ_iast dX11_copy_13 (ly_is hy 8 13 rfl) (ly_n hy 8 4 rfl) (by omega) (by omega) (fun I9573 eI9573 => ?_)
        have hI9573 : MW g n L I9573 := by rw [eI9573]; exact (mw_w hy hI9564 (c := 8) (mi_r hy hI9564.1 (c := 8) (0) (0) (99) (by decide) (Or.inl (by decide)) (by decide) (by omega) (by omega)) (by decide) (by decide) (Or.inl (by decide)))
        have e9574 : I9573 (ad g 0) 1 = L := by rw [eI9573, pp_ne _ _ (Or.inl (ly_ne hy (by decide) (by decide) (by decide)))]; exact e9568
        have e9575 : I9573 (ad g 14) i9563.toNatClampNeg = v9572 := by rw [eI9573, pp_ne _ _ (Or.inl (ly_ne hy (by decide) (by decide) (by decide)))]; exact ev9572
        have fr9576 : fz 49 g [8] I I9573 := by rw [eI9573]; exact fzm_pp hy fiI9564 (by decide) (by decide)
        have CI9573 : ∀ q : Nat, (q : Int) < i9563.toInt + 1 → I9573 (ad g 8) q = I (ad g 14) q := by
          intro q hq
          rw [eI9573, pp_at, cl (x := i9563) (n := i9563.toInt.toNat) (by omega)]
          split
          · rename_i z; rw [z, ← fz_at fiI9564 14 (by decide) (by decide), ← cl (x := i9563) (n := i9563.toInt.toNat) (by omega)]; exact ev9572.symm
          · exact PC_I9564_9565 q (by omega)
        clear eI9573
        refine WP_iinc (ls' := [(0, _), (1, _), (2, _)]) dX11_copy_14 rfl (by decide) rfl ?_
        have hv9577 : (i9563 + Int32.ofInt (1)).toInt = i9563.toInt + (1) := ia_n rfl (by omega) (by omega)
        generalize i9563 + Int32.ofInt (1) = v9577 at hv9577 ⊢
        refine WP_goto 2 dX11_copy_17 rfl ?_
        exact WP_sub (fc rfl (fc rfl (fc rfl fn))) (ihlp2_9566 v9577 I9573 J9565 hI9573 fr9576 (by omega) (by omega) (fun q hq => CI9573 q (by omega)) (by omega))
  exact WP_sub (fc rfl (fc rfl (fc rfl fn))) (lp2_9566 _ v9562 I J hI fr0 (by omega) (by omega) (fun q hq => by omega) (Nat.lt_succ_self _))
set_option maxHeartbeats 4000000 in
set_option maxRecDepth 100000 in
theorem sm_copyw_9_15 {g : GG} {n : Int} {L : Int32} (hy : Ly g)  {I : pI} {J : pJ} {R : pR} (hr : Rf g R) (hI : MW g n L I)   : SP g mX11_copy [.ref (ad g 9), .ref (ad g 15)] I J R (fun r I' J' R' => (MW g n L I' ∧ R' = R ∧ fz 49 g [9] I I' ∧ (∀ q : Nat, q < 4 → I' (ad g 9) q = I (ad g 15) q)) ∧ r = none) := by
  refine SP_of ⟨by decide, rfl⟩ (Nat.le_of_ble_eq_true rfl) ?_
  have e9578 : I (ad g 0) 1 = L := hI.1.2
  have b9579 := BT_get hI.1.1 0 1 2 (0) (0) (900) (by decide) 1 (by decide) (by decide)
  rw [e9578] at b9579
  have fr0 : fz 49 g [9] I I := fz_rf
  refine WQ_iconst (0) (0) dX11_copy_0 rfl rfl (fun v9580 hv9580 => ?_)
  refine WP_istore_n (ls' := [(0, _), (1, _), (2, _)]) dX11_copy_1 (by decide) rfl ?_
  have lp2_9584 : ∀ (mz : Nat) (i9581 : Int32) (I9582 : pI) (J9583 : pJ), MW g n L I9582 → fz 49 g [9] I I9582 → 0 ≤ i9581.toInt → i9581.toInt ≤ 4 → (∀ q : Nat, (q : Int) < i9581.toInt → I9582 (ad g 9) q = I (ad g 15) q) → (5 - i9581.toInt).toNat < mz → WP g mX11_copy 2 [(0, .ref (ad g 9)), (1, .ref (ad g 15)), (2, .int i9581)] [] I9582 J9583 R (fun r I' J' R' => (MW g n L I' ∧ R' = R ∧ fz 49 g [9] I I' ∧ (∀ q : Nat, q < 4 → I' (ad g 9) q = I (ad g 15) q)) ∧ r = none) := by
    intro mz
    induction mz with
    | zero =>
      intro i9581 I9582 J9583 hI9582 fiI9582 ai9581 bi9581 PC_I9582_9583 hmlp2_9584
      exact absurd hmlp2_9584 (Nat.not_lt_zero _)
    | succ mz ihlp2_9584 =>
      intro i9581 I9582 J9583 hI9582 fiI9582 ai9581 bi9581 PC_I9582_9583 hmlp2_9584
      have e9586 : I9582 (ad g 0) 1 = L := hI9582.1.2
      have b9587 := BT_get hI9582.1.1 0 1 2 (0) (0) (900) (by decide) 1 (by decide) (by decide)
      rw [e9586] at b9587
      refine WP_iload_n dX11_copy_2 rfl ?_
      refine WP_aload_n dX11_copy_3 rfl ?_
      refine WP_alen dX11_copy_4 (ly_is hy 9 13 rfl) (by decide) ?_
      rw [(ly_n hy 9 4 rfl)]
      obtain ⟨v9588, hv9588, ev9588⟩ : ∃ v : Int32, v.toInt = 4 ∧ nI 4 = v := ⟨_, nI_toInt (by decide), rfl⟩
      rw [ev9588]; clear ev9588
      refine WQ_icmp_ge 20 dX11_copy_5 rfl (fun c9588 => ?_) (fun c9588 => ?_)
      · exact WP_vret dX11_copy_20 rfl ⟨⟨hI9582, rfl, fiI9582, (fun q hq => PC_I9582_9583 q (by omega))⟩, rfl⟩
      · refine WP_aload_n dX11_copy_8 rfl ?_
        refine WP_iload_n dX11_copy_9 rfl ?_
        refine WP_aload_n dX11_copy_10 rfl ?_
        refine WP_iload_n dX11_copy_11 rfl ?_
        refine WQ_iald dX11_copy_12 (ly_is hy 15 13 rfl) (ly_n hy 15 4 rfl) (by omega) (by omega) (fun q hq => BT_get hI9582.1.1 15 0 4 (0) (0) (1000) (by decide) q (Nat.zero_le _) hq) (fun v9590 av9590 bv9590 ev9590 => ?_)
        refine WQ_iast dX11_copy_13 (ly_is hy 9 13 rfl) (ly_n hy 9 4 rfl) (by omega) (by omega) (fun I9591 eI9591 => ?_)
        have hI9591 : MW g n L I9591 := by rw [eI9591]; exact (mw_w hy hI9582 (c := 9) (mi_r hy hI9582.1 (c := 9) (0) (0) (1000) (by decide) (Or.inl (by decide)) (by decide) (by omega) (by omega)) (by decide) (by decide) (Or.inl (by decide)))
        have e9592 : I9591 (ad g 0) 1 = L := by rw [eI9591, pp_ne _ _ (Or.inl (ly_ne hy (by decide) (by decide) (by decide)))]; exact e9586
        have e9593 : I9591 (ad g 15) i9581.toNatClampNeg = v9590 := by rw [eI9591, pp_ne _ _ (Or.inl (ly_ne hy (by decide) (by decide) (by decide)))]; exact ev9590
        have fr9594 : fz 49 g [9] I I9591 := by rw [eI9591]; exact fzm_pp hy fiI9582 (by decide) (by decide)
        have CI9591 : ∀ q : Nat, (q : Int) < i9581.toInt + 1 → I9591 (ad g 9) q = I (ad g 15) q := by
          intro q hq
          rw [eI9591, pp_at, cl (x := i9581) (n := i9581.toInt.toNat) (by omega)]
          split
          · rename_i z; rw [z, ← fz_at fiI9582 15 (by decide) (by decide), ← cl (x := i9581) (n := i9581.toInt.toNat) (by omega)]; exact ev9590.symm
          · exact PC_I9582_9583 q (by omega)
        clear eI9591
        refine WP_iinc (ls' := [(0, _), (1, _), (2, _)]) dX11_copy_14 rfl (by decide) rfl ?_
        have hv9595 : (i9581 + Int32.ofInt (1)).toInt = i9581.toInt + (1) := ia_n rfl (by omega) (by omega)
        generalize i9581 + Int32.ofInt (1) = v9595 at hv9595 ⊢
        refine WP_goto 2 dX11_copy_17 rfl ?_
        exact WP_sub (fc rfl (fc rfl (fc rfl fn))) (ihlp2_9584 v9595 I9591 J9583 hI9591 fr9594 (by omega) (by omega) (fun q hq => CI9591 q (by omega)) (by omega))
  exact WP_sub (fc rfl (fc rfl (fc rfl fn))) (lp2_9584 _ v9580 I J hI fr0 (by omega) (by omega) (fun q hq => by omega) (Nat.lt_succ_self _))
set_option maxHeartbeats 4000000 in
set_option maxRecDepth 100000 in
theorem sm_copyw_10_16 {g : GG} {n : Int} {L : Int32} (hy : Ly g)  {I : pI} {J : pJ} {R : pR} (hr : Rf g R) (hI : MW g n L I)   : SP g mX11_copy [.ref (ad g 10), .ref (ad g 16)] I J R (fun r I' J' R' => (MW g n L I' ∧ R' = R ∧ fz 49 g [10] I I' ∧ (∀ q : Nat, q < 4 → I' (ad g 10) q = I (ad g 16) q)) ∧ r = none) := by
  refine SP_of ⟨by decide, rfl⟩ (Nat.le_of_ble_eq_true rfl) ?_
  have e9596 : I (ad g 0) 1 = L := hI.1.2
  have b9597 := BT_get hI.1.1 0 1 2 (0) (0) (900) (by decide) 1 (by decide) (by decide)
  rw [e9596] at b9597
  have fr0 : fz 49 g [10] I I := fz_rf
  refine WQ_iconst (0) (0) dX11_copy_0 rfl rfl (fun v9598 hv9598 => ?_)
  refine WP_istore_n (ls' := [(0, _), (1, _), (2, _)]) dX11_copy_1 (by decide) rfl ?_
  have lp2_9602 : ∀ (mz : Nat) (i9599 : Int32) (I9600 : pI) (J9601 : pJ), MW g n L I9600 → fz 49 g [10] I I9600 → 0 ≤ i9599.toInt → i9599.toInt ≤ 4 → (∀ q : Nat, (q : Int) < i9599.toInt → I9600 (ad g 10) q = I (ad g 16) q) → (5 - i9599.toInt).toNat < mz → WP g mX11_copy 2 [(0, .ref (ad g 10)), (1, .ref (ad g 16)), (2, .int i9599)] [] I9600 J9601 R (fun r I' J' R' => (MW g n L I' ∧ R' = R ∧ fz 49 g [10] I I' ∧ (∀ q : Nat, q < 4 → I' (ad g 10) q = I (ad g 16) q)) ∧ r = none) := by
    intro mz
    induction mz with
    | zero =>
      intro i9599 I9600 J9601 hI9600 fiI9600 ai9599 bi9599 PC_I9600_9601 hmlp2_9602
      exact absurd hmlp2_9602 (Nat.not_lt_zero _)
    | succ mz ihlp2_9602 =>
      intro i9599 I9600 J9601 hI9600 fiI9600 ai9599 bi9599 PC_I9600_9601 hmlp2_9602
      have e9604 : I9600 (ad g 0) 1 = L := hI9600.1.2
      have b9605 := BT_get hI9600.1.1 0 1 2 (0) (0) (900) (by decide) 1 (by decide) (by decide)
      rw [e9604] at b9605
      refine WP_iload_n dX11_copy_2 rfl ?_
      refine WP_aload_n dX11_copy_3 rfl ?_
      refine WP_alen dX11_copy_4 (ly_is hy 10 13 rfl) (by decide) ?_
      rw [(ly_n hy 10 4 rfl)]
      obtain ⟨v9606, hv9606, ev9606⟩ : ∃ v : Int32, v.toInt = 4 ∧ nI 4 = v := ⟨_, nI_toInt (by decide), rfl⟩
      rw [ev9606]; clear ev9606
      refine WQ_icmp_ge 20 dX11_copy_5 rfl (fun c9606 => ?_) (fun c9606 => ?_)
      · exact WP_vret dX11_copy_20 rfl ⟨⟨hI9600, rfl, fiI9600, (fun q hq => PC_I9600_9601 q (by omega))⟩, rfl⟩
      · refine WP_aload_n dX11_copy_8 rfl ?_
        refine WP_iload_n dX11_copy_9 rfl ?_
        refine WP_aload_n dX11_copy_10 rfl ?_
        refine WP_iload_n dX11_copy_11 rfl ?_
        refine WQ_iald dX11_copy_12 (ly_is hy 16 13 rfl) (ly_n hy 16 4 rfl) (by omega) (by omega) (fun q hq => BT_get hI9600.1.1 16 0 4 (0) (0) (60) (by decide) q (Nat.zero_le _) hq) (fun v9608 av9608 bv9608 ev9608 => ?_)
        refine WQ_iast dX11_copy_13 (ly_is hy 10 13 rfl) (ly_n hy 10 4 rfl) (by omega) (by omega) (fun I9609 eI9609 => ?_)
        have hI9609 : MW g n L I9609 := by rw [eI9609]; exact (mw_w hy hI9600 (c := 10) (mi_r hy hI9600.1 (c := 10) (0) (0) (60) (by decide) (Or.inl (by decide)) (by decide) (by omega) (by omega)) (by decide) (by decide) (Or.inl (by decide)))
        have e9610 : I9609 (ad g 0) 1 = L := by rw [eI9609, pp_ne _ _ (Or.inl (ly_ne hy (by decide) (by decide) (by decide)))]; exact e9604
        have e9611 : I9609 (ad g 16) i9599.toNatClampNeg = v9608 := by rw [eI9609, pp_ne _ _ (Or.inl (ly_ne hy (by decide) (by decide) (by decide)))]; exact ev9608
        have fr9612 : fz 49 g [10] I I9609 := by rw [eI9609]; exact fzm_pp hy fiI9600 (by decide) (by decide)
        have CI9609 : ∀ q : Nat, (q : Int) < i9599.toInt + 1 → I9609 (ad g 10) q = I (ad g 16) q := by
          intro q hq
          rw [eI9609, pp_at, cl (x := i9599) (n := i9599.toInt.toNat) (by omega)]
          split
          · rename_i z; rw [z, ← fz_at fiI9600 16 (by decide) (by decide), ← cl (x := i9599) (n := i9599.toInt.toNat) (by omega)]; exact ev9608.symm
          · exact PC_I9600_9601 q (by omega)
        clear eI9609
        refine WP_iinc (ls' := [(0, _), (1, _), (2, _)]) dX11_copy_14 rfl (by decide) rfl ?_
        have hv9613 : (i9599 + Int32.ofInt (1)).toInt = i9599.toInt + (1) := ia_n rfl (by omega) (by omega)
        generalize i9599 + Int32.ofInt (1) = v9613 at hv9613 ⊢
        refine WP_goto 2 dX11_copy_17 rfl ?_
        exact WP_sub (fc rfl (fc rfl (fc rfl fn))) (ihlp2_9602 v9613 I9609 J9601 hI9609 fr9612 (by omega) (by omega) (fun q hq => CI9609 q (by omega)) (by omega))
  exact WP_sub (fc rfl (fc rfl (fc rfl fn))) (lp2_9602 _ v9598 I J hI fr0 (by omega) (by omega) (fun q hq => by omega) (Nat.lt_succ_self _))
set_option maxHeartbeats 4000000 in
set_option maxRecDepth 100000 in
theorem sm_copyw_11_17 {g : GG} {n : Int} {L : Int32} (hy : Ly g)  {I : pI} {J : pJ} {R : pR} (hr : Rf g R) (hI : MW g n L I)   : SP g mX11_copy [.ref (ad g 11), .ref (ad g 17)] I J R (fun r I' J' R' => (MW g n L I' ∧ R' = R ∧ fz 49 g [11] I I' ∧ (∀ q : Nat, q < 4 → I' (ad g 11) q = I (ad g 17) q)) ∧ r = none) := by
  refine SP_of ⟨by decide, rfl⟩ (Nat.le_of_ble_eq_true rfl) ?_
  have e9614 : I (ad g 0) 1 = L := hI.1.2
  have b9615 := BT_get hI.1.1 0 1 2 (0) (0) (900) (by decide) 1 (by decide) (by decide)
  rw [e9614] at b9615
  have fr0 : fz 49 g [11] I I := fz_rf
  refine WQ_iconst (0) (0) dX11_copy_0 rfl rfl (fun v9616 hv9616 => ?_)
  refine WP_istore_n (ls' := [(0, _), (1, _), (2, _)]) dX11_copy_1 (by decide) rfl ?_
  have lp2_9620 : ∀ (mz : Nat) (i9617 : Int32) (I9618 : pI) (J9619 : pJ), MW g n L I9618 → fz 49 g [11] I I9618 → 0 ≤ i9617.toInt → i9617.toInt ≤ 4 → (∀ q : Nat, (q : Int) < i9617.toInt → I9618 (ad g 11) q = I (ad g 17) q) → (5 - i9617.toInt).toNat < mz → WP g mX11_copy 2 [(0, .ref (ad g 11)), (1, .ref (ad g 17)), (2, .int i9617)] [] I9618 J9619 R (fun r I' J' R' => (MW g n L I' ∧ R' = R ∧ fz 49 g [11] I I' ∧ (∀ q : Nat, q < 4 → I' (ad g 11) q = I (ad g 17) q)) ∧ r = none) := by
    intro mz
    induction mz with
    | zero =>
      intro i9617 I9618 J9619 hI9618 fiI9618 ai9617 bi9617 PC_I9618_9619 hmlp2_9620
      exact absurd hmlp2_9620 (Nat.not_lt_zero _)
    | succ mz ihlp2_9620 =>
      intro i9617 I9618 J9619 hI9618 fiI9618 ai9617 bi9617 PC_I9618_9619 hmlp2_9620
      have e9622 : I9618 (ad g 0) 1 = L := hI9618.1.2
      have b9623 := BT_get hI9618.1.1 0 1 2 (0) (0) (900) (by decide) 1 (by decide) (by decide)
      rw [e9622] at b9623
      refine WP_iload_n dX11_copy_2 rfl ?_
      refine WP_aload_n dX11_copy_3 rfl ?_
      refine WP_alen dX11_copy_4 (ly_is hy 11 13 rfl) (by decide) ?_
      rw [(ly_n hy 11 4 rfl)]
      obtain ⟨v9624, hv9624, ev9624⟩ : ∃ v : Int32, v.toInt = 4 ∧ nI 4 = v := ⟨_, nI_toInt (by decide), rfl⟩
      rw [ev9624]; clear ev9624
      refine WQ_icmp_ge 20 dX11_copy_5 rfl (fun c9624 => ?_) (fun c9624 => ?_)
      · exact WP_vret dX11_copy_20 rfl ⟨⟨hI9618, rfl, fiI9618, (fun q hq => PC_I9618_9619 q (by omega))⟩, rfl⟩
      · refine WP_aload_n dX11_copy_8 rfl ?_
        refine WP_iload_n dX11_copy_9 rfl ?_
        refine WP_aload_n dX11_copy_10 rfl ?_
        refine WP_iload_n dX11_copy_11 rfl ?_
        refine WQ_iald dX11_copy_12 (ly_is hy 17 13 rfl) (ly_n hy 17 4 rfl) (by omega) (by omega) (fun q hq => BT_get hI9618.1.1 17 0 4 (0) (0) (127) (by decide) q (Nat.zero_le _) hq) (fun v9626 av9626 bv9626 ev9626 => ?_)
        refine WQ_iast dX11_copy_13 (ly_is hy 11 13 rfl) (ly_n hy 11 4 rfl) (by omega) (by omega) (fun I9627 eI9627 => ?_)
        have hI9627 : MW g n L I9627 := by rw [eI9627]; exact (mw_w hy hI9618 (c := 11) (mi_r hy hI9618.1 (c := 11) (0) (0) (127) (by decide) (Or.inl (by decide)) (by decide) (by omega) (by omega)) (by decide) (by decide) (Or.inl (by decide)))
        have e9628 : I9627 (ad g 0) 1 = L := by rw [eI9627, pp_ne _ _ (Or.inl (ly_ne hy (by decide) (by decide) (by decide)))]; exact e9622
        have e9629 : I9627 (ad g 17) i9617.toNatClampNeg = v9626 := by rw [eI9627, pp_ne _ _ (Or.inl (ly_ne hy (by decide) (by decide) (by decide)))]; exact ev9626
        have fr9630 : fz 49 g [11] I I9627 := by rw [eI9627]; exact fzm_pp hy fiI9618 (by decide) (by decide)
        have CI9627 : ∀ q : Nat, (q : Int) < i9617.toInt + 1 → I9627 (ad g 11) q = I (ad g 17) q := by
          intro q hq
          rw [eI9627, pp_at, cl (x := i9617) (n := i9617.toInt.toNat) (by omega)]
          split
          · rename_i z; rw [z, ← fz_at fiI9618 17 (by decide) (by decide), ← cl (x := i9617) (n := i9617.toInt.toNat) (by omega)]; exact ev9626.symm
          · exact PC_I9618_9619 q (by omega)
        clear eI9627
        refine WP_iinc (ls' := [(0, _), (1, _), (2, _)]) dX11_copy_14 rfl (by decide) rfl ?_
        have hv9631 : (i9617 + Int32.ofInt (1)).toInt = i9617.toInt + (1) := ia_n rfl (by omega) (by omega)
        generalize i9617 + Int32.ofInt (1) = v9631 at hv9631 ⊢
        refine WP_goto 2 dX11_copy_17 rfl ?_
        exact WP_sub (fc rfl (fc rfl (fc rfl fn))) (ihlp2_9620 v9631 I9627 J9619 hI9627 fr9630 (by omega) (by omega) (fun q hq => CI9627 q (by omega)) (by omega))
  exact WP_sub (fc rfl (fc rfl (fc rfl fn))) (lp2_9620 _ v9616 I J hI fr0 (by omega) (by omega) (fun q hq => by omega) (Nat.lt_succ_self _))
set_option maxHeartbeats 4000000 in
set_option maxRecDepth 100000 in
theorem sm_copyw_12_18 {g : GG} {n : Int} {L : Int32} (hy : Ly g)  {I : pI} {J : pJ} {R : pR} (hr : Rf g R) (hI : MW g n L I)   : SP g mX11_copy [.ref (ad g 12), .ref (ad g 18)] I J R (fun r I' J' R' => (MW g n L I' ∧ R' = R ∧ fz 49 g [12] I I' ∧ (∀ q : Nat, q < 3 → I' (ad g 12) q = I (ad g 18) q)) ∧ r = none) := by
  refine SP_of ⟨by decide, rfl⟩ (Nat.le_of_ble_eq_true rfl) ?_
  have e9632 : I (ad g 0) 1 = L := hI.1.2
  have b9633 := BT_get hI.1.1 0 1 2 (0) (0) (900) (by decide) 1 (by decide) (by decide)
  rw [e9632] at b9633
  have fr0 : fz 49 g [12] I I := fz_rf
  refine WQ_iconst (0) (0) dX11_copy_0 rfl rfl (fun v9634 hv9634 => ?_)
  refine WP_istore_n (ls' := [(0, _), (1, _), (2, _)]) dX11_copy_1 (by decide) rfl ?_
  have lp2_9638 : ∀ (mz : Nat) (i9635 : Int32) (I9636 : pI) (J9637 : pJ), MW g n L I9636 → fz 49 g [12] I I9636 → 0 ≤ i9635.toInt → i9635.toInt ≤ 3 → (∀ q : Nat, (q : Int) < i9635.toInt → I9636 (ad g 12) q = I (ad g 18) q) → (4 - i9635.toInt).toNat < mz → WP g mX11_copy 2 [(0, .ref (ad g 12)), (1, .ref (ad g 18)), (2, .int i9635)] [] I9636 J9637 R (fun r I' J' R' => (MW g n L I' ∧ R' = R ∧ fz 49 g [12] I I' ∧ (∀ q : Nat, q < 3 → I' (ad g 12) q = I (ad g 18) q)) ∧ r = none) := by
    intro mz
    induction mz with
    | zero =>
      intro i9635 I9636 J9637 hI9636 fiI9636 ai9635 bi9635 PC_I9636_9637 hmlp2_9638
      exact absurd hmlp2_9638 (Nat.not_lt_zero _)
    | succ mz ihlp2_9638 =>
      intro i9635 I9636 J9637 hI9636 fiI9636 ai9635 bi9635 PC_I9636_9637 hmlp2_9638
      have e9640 : I9636 (ad g 0) 1 = L := hI9636.1.2
      have b9641 := BT_get hI9636.1.1 0 1 2 (0) (0) (900) (by decide) 1 (by decide) (by decide)
      rw [e9640] at b9641
      refine WP_iload_n dX11_copy_2 rfl ?_
      refine WP_aload_n dX11_copy_3 rfl ?_
      refine WP_alen dX11_copy_4 (ly_is hy 12 13 rfl) (by decide) ?_
      rw [(ly_n hy 12 3 rfl)]
      obtain ⟨v9642, hv9642, ev9642⟩ : ∃ v : Int32, v.toInt = 3 ∧ nI 3 = v := ⟨_, nI_toInt (by decide), rfl⟩
      rw [ev9642]; clear ev9642
      refine WQ_icmp_ge 20 dX11_copy_5 rfl (fun c9642 => ?_) (fun c9642 => ?_)
      · exact WP_vret dX11_copy_20 rfl ⟨⟨hI9636, rfl, fiI9636, (fun q hq => PC_I9636_9637 q (by omega))⟩, rfl⟩
      · refine WP_aload_n dX11_copy_8 rfl ?_
        refine WP_iload_n dX11_copy_9 rfl ?_
        refine WP_aload_n dX11_copy_10 rfl ?_
        refine WP_iload_n dX11_copy_11 rfl ?_
        refine WQ_iald dX11_copy_12 (ly_is hy 18 13 rfl) (ly_n hy 18 3 rfl) (by omega) (by omega) (fun q hq => BT_get hI9636.1.1 18 0 3 (0) (0) (1000) (by decide) q (Nat.zero_le _) hq) (fun v9644 av9644 bv9644 ev9644 => ?_)
        refine WQ_iast dX11_copy_13 (ly_is hy 12 13 rfl) (ly_n hy 12 3 rfl) (by omega) (by omega) (fun I9645 eI9645 => ?_)
        have hI9645 : MW g n L I9645 := by rw [eI9645]; exact (mw_w hy hI9636 (c := 12) (mi_r hy hI9636.1 (c := 12) (0) (0) (1000) (by decide) (Or.inl (by decide)) (by decide) (by omega) (by omega)) (by decide) (by decide) (Or.inl (by decide)))
        have e9646 : I9645 (ad g 0) 1 = L := by rw [eI9645, pp_ne _ _ (Or.inl (ly_ne hy (by decide) (by decide) (by decide)))]; exact e9640
        have e9647 : I9645 (ad g 18) i9635.toNatClampNeg = v9644 := by rw [eI9645, pp_ne _ _ (Or.inl (ly_ne hy (by decide) (by decide) (by decide)))]; exact ev9644
        have fr9648 : fz 49 g [12] I I9645 := by rw [eI9645]; exact fzm_pp hy fiI9636 (by decide) (by decide)
        have CI9645 : ∀ q : Nat, (q : Int) < i9635.toInt + 1 → I9645 (ad g 12) q = I (ad g 18) q := by
          intro q hq
          rw [eI9645, pp_at, cl (x := i9635) (n := i9635.toInt.toNat) (by omega)]
          split
          · rename_i z; rw [z, ← fz_at fiI9636 18 (by decide) (by decide), ← cl (x := i9635) (n := i9635.toInt.toNat) (by omega)]; exact ev9644.symm
          · exact PC_I9636_9637 q (by omega)
        clear eI9645
        refine WP_iinc (ls' := [(0, _), (1, _), (2, _)]) dX11_copy_14 rfl (by decide) rfl ?_
        have hv9649 : (i9635 + Int32.ofInt (1)).toInt = i9635.toInt + (1) := ia_n rfl (by omega) (by omega)
        generalize i9635 + Int32.ofInt (1) = v9649 at hv9649 ⊢
        refine WP_goto 2 dX11_copy_17 rfl ?_
        exact WP_sub (fc rfl (fc rfl (fc rfl fn))) (ihlp2_9638 v9649 I9645 J9637 hI9645 fr9648 (by omega) (by omega) (fun q hq => CI9645 q (by omega)) (by omega))
  exact WP_sub (fc rfl (fc rfl (fc rfl fn))) (lp2_9638 _ v9634 I J hI fr0 (by omega) (by omega) (fun q hq => by omega) (Nat.lt_succ_self _))
set_option maxHeartbeats 4000000 in
set_option maxRecDepth 100000 in
theorem sm_copyw_13_19 {g : GG} {n : Int} {L : Int32} (hy : Ly g)  {I : pI} {J : pJ} {R : pR} (hr : Rf g R) (hI : MW g n L I)   : SP g mX11_copy [.ref (ad g 13), .ref (ad g 19)] I J R (fun r I' J' R' => (MW g n L I' ∧ R' = R ∧ fz 49 g [13] I I' ∧ (∀ q : Nat, q < 3 → I' (ad g 13) q = I (ad g 19) q)) ∧ r = none) := by
  refine SP_of ⟨by decide, rfl⟩ (Nat.le_of_ble_eq_true rfl) ?_
  have e9650 : I (ad g 0) 1 = L := hI.1.2
  have b9651 := BT_get hI.1.1 0 1 2 (0) (0) (900) (by decide) 1 (by decide) (by decide)
  rw [e9650] at b9651
  have fr0 : fz 49 g [13] I I := fz_rf
  refine WQ_iconst (0) (0) dX11_copy_0 rfl rfl (fun v9652 hv9652 => ?_)
  refine WP_istore_n (ls' := [(0, _), (1, _), (2, _)]) dX11_copy_1 (by decide) rfl ?_
  have lp2_9656 : ∀ (mz : Nat) (i9653 : Int32) (I9654 : pI) (J9655 : pJ), MW g n L I9654 → fz 49 g [13] I I9654 → 0 ≤ i9653.toInt → i9653.toInt ≤ 3 → (∀ q : Nat, (q : Int) < i9653.toInt → I9654 (ad g 13) q = I (ad g 19) q) → (4 - i9653.toInt).toNat < mz → WP g mX11_copy 2 [(0, .ref (ad g 13)), (1, .ref (ad g 19)), (2, .int i9653)] [] I9654 J9655 R (fun r I' J' R' => (MW g n L I' ∧ R' = R ∧ fz 49 g [13] I I' ∧ (∀ q : Nat, q < 3 → I' (ad g 13) q = I (ad g 19) q)) ∧ r = none) := by
    intro mz
    induction mz with
    | zero =>
      intro i9653 I9654 J9655 hI9654 fiI9654 ai9653 bi9653 PC_I9654_9655 hmlp2_9656
      exact absurd hmlp2_9656 (Nat.not_lt_zero _)
    | succ mz ihlp2_9656 =>
      intro i9653 I9654 J9655 hI9654 fiI9654 ai9653 bi9653 PC_I9654_9655 hmlp2_9656
      have e9658 : I9654 (ad g 0) 1 = L := hI9654.1.2
      have b9659 := BT_get hI9654.1.1 0 1 2 (0) (0) (900) (by decide) 1 (by decide) (by decide)
      rw [e9658] at b9659
      refine WP_iload_n dX11_copy_2 rfl ?_
      refine WP_aload_n dX11_copy_3 rfl ?_
      refine WP_alen dX11_copy_4 (ly_is hy 13 13 rfl) (by decide) ?_
      rw [(ly_n hy 13 3 rfl)]
      obtain ⟨v9660, hv9660, ev9660⟩ : ∃ v : Int32, v.toInt = 3 ∧ nI 3 = v := ⟨_, nI_toInt (by decide), rfl⟩
      rw [ev9660]; clear ev9660
      refine WQ_icmp_ge 20 dX11_copy_5 rfl (fun c9660 => ?_) (fun c9660 => ?_)
      · exact WP_vret dX11_copy_20 rfl ⟨⟨hI9654, rfl, fiI9654, (fun q hq => PC_I9654_9655 q (by omega))⟩, rfl⟩
      · refine WP_aload_n dX11_copy_8 rfl ?_
        refine WP_iload_n dX11_copy_9 rfl ?_
        refine WP_aload_n dX11_copy_10 rfl ?_
        refine WP_iload_n dX11_copy_11 rfl ?_
        refine WQ_iald dX11_copy_12 (ly_is hy 19 13 rfl) (ly_n hy 19 3 rfl) (by omega) (by omega) (fun q hq => BT_get hI9654.1.1 19 0 3 (0) (0) (9) (by decide) q (Nat.zero_le _) hq) (fun v9662 av9662 bv9662 ev9662 => ?_)
        refine WQ_iast dX11_copy_13 (ly_is hy 13 13 rfl) (ly_n hy 13 3 rfl) (by omega) (by omega) (fun I9663 eI9663 => ?_)
        have hI9663 : MW g n L I9663 := by rw [eI9663]; exact (mw_w hy hI9654 (c := 13) (mi_r hy hI9654.1 (c := 13) (0) (0) (9) (by decide) (Or.inl (by decide)) (by decide) (by omega) (by omega)) (by decide) (by decide) (Or.inl (by decide)))
        have e9664 : I9663 (ad g 0) 1 = L := by rw [eI9663, pp_ne _ _ (Or.inl (ly_ne hy (by decide) (by decide) (by decide)))]; exact e9658
        have e9665 : I9663 (ad g 19) i9653.toNatClampNeg = v9662 := by rw [eI9663, pp_ne _ _ (Or.inl (ly_ne hy (by decide) (by decide) (by decide)))]; exact ev9662
        have fr9666 : fz 49 g [13] I I9663 := by rw [eI9663]; exact fzm_pp hy fiI9654 (by decide) (by decide)
        have CI9663 : ∀ q : Nat, (q : Int) < i9653.toInt + 1 → I9663 (ad g 13) q = I (ad g 19) q := by
          intro q hq
          rw [eI9663, pp_at, cl (x := i9653) (n := i9653.toInt.toNat) (by omega)]
          split
          · rename_i z; rw [z, ← fz_at fiI9654 19 (by decide) (by decide), ← cl (x := i9653) (n := i9653.toInt.toNat) (by omega)]; exact ev9662.symm
          · exact PC_I9654_9655 q (by omega)
        clear eI9663
        refine WP_iinc (ls' := [(0, _), (1, _), (2, _)]) dX11_copy_14 rfl (by decide) rfl ?_
        have hv9667 : (i9653 + Int32.ofInt (1)).toInt = i9653.toInt + (1) := ia_n rfl (by omega) (by omega)
        generalize i9653 + Int32.ofInt (1) = v9667 at hv9667 ⊢
        refine WP_goto 2 dX11_copy_17 rfl ?_
        exact WP_sub (fc rfl (fc rfl (fc rfl fn))) (ihlp2_9656 v9667 I9663 J9655 hI9663 fr9666 (by omega) (by omega) (fun q hq => CI9663 q (by omega)) (by omega))
  exact WP_sub (fc rfl (fc rfl (fc rfl fn))) (lp2_9656 _ v9652 I J hI fr0 (by omega) (by omega) (fun q hq => by omega) (Nat.lt_succ_self _))
set_option maxHeartbeats 4000000 in
set_option maxRecDepth 100000 in
theorem sm_copyw_20_27 {g : GG} {n : Int} {L : Int32} (hy : Ly g)  {I : pI} {J : pJ} {R : pR} (hr : Rf g R) (hI : MW g n L I)   : SP g mX11_copy [.ref (ad g 20), .ref (ad g 27)] I J R (fun r I' J' R' => (MW g n L I' ∧ R' = R ∧ fz 49 g [20] I I' ∧ (∀ q : Nat, q < 28 → I' (ad g 20) q = I (ad g 27) q)) ∧ r = none) := by
  refine SP_of ⟨by decide, rfl⟩ (Nat.le_of_ble_eq_true rfl) ?_
  have e9668 : I (ad g 0) 1 = L := hI.1.2
  have b9669 := BT_get hI.1.1 0 1 2 (0) (0) (900) (by decide) 1 (by decide) (by decide)
  rw [e9668] at b9669
  have fr0 : fz 49 g [20] I I := fz_rf
  refine WQ_iconst (0) (0) dX11_copy_0 rfl rfl (fun v9670 hv9670 => ?_)
  refine WP_istore_n (ls' := [(0, _), (1, _), (2, _)]) dX11_copy_1 (by decide) rfl ?_
  have lp2_9674 : ∀ (mz : Nat) (i9671 : Int32) (I9672 : pI) (J9673 : pJ), MW g n L I9672 → fz 49 g [20] I I9672 → 0 ≤ i9671.toInt → i9671.toInt ≤ 28 → (∀ q : Nat, (q : Int) < i9671.toInt → I9672 (ad g 20) q = I (ad g 27) q) → (29 - i9671.toInt).toNat < mz → WP g mX11_copy 2 [(0, .ref (ad g 20)), (1, .ref (ad g 27)), (2, .int i9671)] [] I9672 J9673 R (fun r I' J' R' => (MW g n L I' ∧ R' = R ∧ fz 49 g [20] I I' ∧ (∀ q : Nat, q < 28 → I' (ad g 20) q = I (ad g 27) q)) ∧ r = none) := by
    intro mz
    induction mz with
    | zero =>
      intro i9671 I9672 J9673 hI9672 fiI9672 ai9671 bi9671 PC_I9672_9673 hmlp2_9674
      exact absurd hmlp2_9674 (Nat.not_lt_zero _)
    | succ mz ihlp2_9674 =>
      intro i9671 I9672 J9673 hI9672 fiI9672 ai9671 bi9671 PC_I9672_9673 hmlp2_9674
      have e9676 : I9672 (ad g 0) 1 = L := hI9672.1.2
      have b9677 := BT_get hI9672.1.1 0 1 2 (0) (0) (900) (by decide) 1 (by decide) (by decide)
      rw [e9676] at b9677
      refine WP_iload_n dX11_copy_2 rfl ?_
      refine WP_aload_n dX11_copy_3 rfl ?_
      refine WP_alen dX11_copy_4 (ly_is hy 20 13 rfl) (by decide) ?_
      rw [(ly_n hy 20 28 rfl)]
      obtain ⟨v9678, hv9678, ev9678⟩ : ∃ v : Int32, v.toInt = 28 ∧ nI 28 = v := ⟨_, nI_toInt (by decide), rfl⟩
      rw [ev9678]; clear ev9678
      refine WQ_icmp_ge 20 dX11_copy_5 rfl (fun c9678 => ?_) (fun c9678 => ?_)
      · exact WP_vret dX11_copy_20 rfl ⟨⟨hI9672, rfl, fiI9672, (fun q hq => PC_I9672_9673 q (by omega))⟩, rfl⟩
      · refine WP_aload_n dX11_copy_8 rfl ?_
        refine WP_iload_n dX11_copy_9 rfl ?_
        refine WP_aload_n dX11_copy_10 rfl ?_
        refine WP_iload_n dX11_copy_11 rfl ?_
        refine WQ_iald dX11_copy_12 (ly_is hy 27 13 rfl) (ly_n hy 27 28 rfl) (by omega) (by omega) (fun q hq => BT_get hI9672.1.1 27 0 28 (0) (0) (20) (by decide) q (Nat.zero_le _) hq) (fun v9680 av9680 bv9680 ev9680 => ?_)
        refine WQ_iast dX11_copy_13 (ly_is hy 20 13 rfl) (ly_n hy 20 28 rfl) (by omega) (by omega) (fun I9681 eI9681 => ?_)
        have hI9681 : MW g n L I9681 := by rw [eI9681]; exact (mw_w hy hI9672 (c := 20) (mi_r hy hI9672.1 (c := 20) (0) (0) (20) (by decide) (Or.inl (by decide)) (by decide) (by omega) (by omega)) (by decide) (by decide) (Or.inl (by decide)))
        have e9682 : I9681 (ad g 0) 1 = L := by rw [eI9681, pp_ne _ _ (Or.inl (ly_ne hy (by decide) (by decide) (by decide)))]; exact e9676
        have e9683 : I9681 (ad g 27) i9671.toNatClampNeg = v9680 := by rw [eI9681, pp_ne _ _ (Or.inl (ly_ne hy (by decide) (by decide) (by decide)))]; exact ev9680
        have fr9684 : fz 49 g [20] I I9681 := by rw [eI9681]; exact fzm_pp hy fiI9672 (by decide) (by decide)
        have CI9681 : ∀ q : Nat, (q : Int) < i9671.toInt + 1 → I9681 (ad g 20) q = I (ad g 27) q := by
          intro q hq
          rw [eI9681, pp_at, cl (x := i9671) (n := i9671.toInt.toNat) (by omega)]
          split
          · rename_i z; rw [z, ← fz_at fiI9672 27 (by decide) (by decide), ← cl (x := i9671) (n := i9671.toInt.toNat) (by omega)]; exact ev9680.symm
          · exact PC_I9672_9673 q (by omega)
        clear eI9681
        refine WP_iinc (ls' := [(0, _), (1, _), (2, _)]) dX11_copy_14 rfl (by decide) rfl ?_
        have hv9685 : (i9671 + Int32.ofInt (1)).toInt = i9671.toInt + (1) := ia_n rfl (by omega) (by omega)
        generalize i9671 + Int32.ofInt (1) = v9685 at hv9685 ⊢
        refine WP_goto 2 dX11_copy_17 rfl ?_
        exact WP_sub (fc rfl (fc rfl (fc rfl fn))) (ihlp2_9674 v9685 I9681 J9673 hI9681 fr9684 (by omega) (by omega) (fun q hq => CI9681 q (by omega)) (by omega))
  exact WP_sub (fc rfl (fc rfl (fc rfl fn))) (lp2_9674 _ v9670 I J hI fr0 (by omega) (by omega) (fun q hq => by omega) (Nat.lt_succ_self _))
set_option maxHeartbeats 4000000 in
set_option maxRecDepth 100000 in
theorem sm_copyw_21_28 {g : GG} {n : Int} {L : Int32} (hy : Ly g)  {I : pI} {J : pJ} {R : pR} (hr : Rf g R) (hI : MW g n L I)   : SP g mX11_copy [.ref (ad g 21), .ref (ad g 28)] I J R (fun r I' J' R' => (MW g n L I' ∧ R' = R ∧ fz 49 g [21] I I' ∧ (∀ q : Nat, q < 21 → I' (ad g 21) q = I (ad g 28) q)) ∧ r = none) := by
  refine SP_of ⟨by decide, rfl⟩ (Nat.le_of_ble_eq_true rfl) ?_
  have e9686 : I (ad g 0) 1 = L := hI.1.2
  have b9687 := BT_get hI.1.1 0 1 2 (0) (0) (900) (by decide) 1 (by decide) (by decide)
  rw [e9686] at b9687
  have fr0 : fz 49 g [21] I I := fz_rf
  refine WQ_iconst (0) (0) dX11_copy_0 rfl rfl (fun v9688 hv9688 => ?_)
  refine WP_istore_n (ls' := [(0, _), (1, _), (2, _)]) dX11_copy_1 (by decide) rfl ?_
  have lp2_9692 : ∀ (mz : Nat) (i9689 : Int32) (I9690 : pI) (J9691 : pJ), MW g n L I9690 → fz 49 g [21] I I9690 → 0 ≤ i9689.toInt → i9689.toInt ≤ 21 → (∀ q : Nat, (q : Int) < i9689.toInt → I9690 (ad g 21) q = I (ad g 28) q) → (22 - i9689.toInt).toNat < mz → WP g mX11_copy 2 [(0, .ref (ad g 21)), (1, .ref (ad g 28)), (2, .int i9689)] [] I9690 J9691 R (fun r I' J' R' => (MW g n L I' ∧ R' = R ∧ fz 49 g [21] I I' ∧ (∀ q : Nat, q < 21 → I' (ad g 21) q = I (ad g 28) q)) ∧ r = none) := by
    intro mz
    induction mz with
    | zero =>
      intro i9689 I9690 J9691 hI9690 fiI9690 ai9689 bi9689 PC_I9690_9691 hmlp2_9692
      exact absurd hmlp2_9692 (Nat.not_lt_zero _)
    | succ mz ihlp2_9692 =>
      intro i9689 I9690 J9691 hI9690 fiI9690 ai9689 bi9689 PC_I9690_9691 hmlp2_9692
      have e9694 : I9690 (ad g 0) 1 = L := hI9690.1.2
      have b9695 := BT_get hI9690.1.1 0 1 2 (0) (0) (900) (by decide) 1 (by decide) (by decide)
      rw [e9694] at b9695
      refine WP_iload_n dX11_copy_2 rfl ?_
      refine WP_aload_n dX11_copy_3 rfl ?_
      refine WP_alen dX11_copy_4 (ly_is hy 21 13 rfl) (by decide) ?_
      rw [(ly_n hy 21 21 rfl)]
      obtain ⟨v9696, hv9696, ev9696⟩ : ∃ v : Int32, v.toInt = 21 ∧ nI 21 = v := ⟨_, nI_toInt (by decide), rfl⟩
      rw [ev9696]; clear ev9696
      refine WQ_icmp_ge 20 dX11_copy_5 rfl (fun c9696 => ?_) (fun c9696 => ?_)
      · exact WP_vret dX11_copy_20 rfl ⟨⟨hI9690, rfl, fiI9690, (fun q hq => PC_I9690_9691 q (by omega))⟩, rfl⟩
      · refine WP_aload_n dX11_copy_8 rfl ?_
        refine WP_iload_n dX11_copy_9 rfl ?_
        refine WP_aload_n dX11_copy_10 rfl ?_
        refine WP_iload_n dX11_copy_11 rfl ?_
        refine WQ_iald dX11_copy_12 (ly_is hy 28 13 rfl) (ly_n hy 28 21 rfl) (by omega) (by omega) (fun q hq => BT_get hI9690.1.1 28 0 21 (0) (0) (20) (by decide) q (Nat.zero_le _) hq) (fun v9698 av9698 bv9698 ev9698 => ?_)
        refine WQ_iast dX11_copy_13 (ly_is hy 21 13 rfl) (ly_n hy 21 21 rfl) (by omega) (by omega) (fun I9699 eI9699 => ?_)
        have hI9699 : MW g n L I9699 := by rw [eI9699]; exact (mw_w hy hI9690 (c := 21) (mi_r hy hI9690.1 (c := 21) (0) (0) (20) (by decide) (Or.inl (by decide)) (by decide) (by omega) (by omega)) (by decide) (by decide) (Or.inl (by decide)))
        have e9700 : I9699 (ad g 0) 1 = L := by rw [eI9699, pp_ne _ _ (Or.inl (ly_ne hy (by decide) (by decide) (by decide)))]; exact e9694
        have e9701 : I9699 (ad g 28) i9689.toNatClampNeg = v9698 := by rw [eI9699, pp_ne _ _ (Or.inl (ly_ne hy (by decide) (by decide) (by decide)))]; exact ev9698
        have fr9702 : fz 49 g [21] I I9699 := by rw [eI9699]; exact fzm_pp hy fiI9690 (by decide) (by decide)
        have CI9699 : ∀ q : Nat, (q : Int) < i9689.toInt + 1 → I9699 (ad g 21) q = I (ad g 28) q := by
          intro q hq
          rw [eI9699, pp_at, cl (x := i9689) (n := i9689.toInt.toNat) (by omega)]
          split
          · rename_i z; rw [z, ← fz_at fiI9690 28 (by decide) (by decide), ← cl (x := i9689) (n := i9689.toInt.toNat) (by omega)]; exact ev9698.symm
          · exact PC_I9690_9691 q (by omega)
        clear eI9699
        refine WP_iinc (ls' := [(0, _), (1, _), (2, _)]) dX11_copy_14 rfl (by decide) rfl ?_
        have hv9703 : (i9689 + Int32.ofInt (1)).toInt = i9689.toInt + (1) := ia_n rfl (by omega) (by omega)
        generalize i9689 + Int32.ofInt (1) = v9703 at hv9703 ⊢
        refine WP_goto 2 dX11_copy_17 rfl ?_
        exact WP_sub (fc rfl (fc rfl (fc rfl fn))) (ihlp2_9692 v9703 I9699 J9691 hI9699 fr9702 (by omega) (by omega) (fun q hq => CI9699 q (by omega)) (by omega))
  exact WP_sub (fc rfl (fc rfl (fc rfl fn))) (lp2_9692 _ v9688 I J hI fr0 (by omega) (by omega) (fun q hq => by omega) (Nat.lt_succ_self _))
set_option maxHeartbeats 4000000 in
set_option maxRecDepth 100000 in
theorem sm_copyw_22_28 {g : GG} {n : Int} {L : Int32} (hy : Ly g)  {I : pI} {J : pJ} {R : pR} (hr : Rf g R) (hI : MW g n L I)   : SP g mX11_copy [.ref (ad g 22), .ref (ad g 28)] I J R (fun r I' J' R' => (MW g n L I' ∧ R' = R ∧ fz 49 g [22] I I' ∧ (∀ q : Nat, q < 21 → I' (ad g 22) q = I (ad g 28) q)) ∧ r = none) := by
  refine SP_of ⟨by decide, rfl⟩ (Nat.le_of_ble_eq_true rfl) ?_
  have e9704 : I (ad g 0) 1 = L := hI.1.2
  have b9705 := BT_get hI.1.1 0 1 2 (0) (0) (900) (by decide) 1 (by decide) (by decide)
  rw [e9704] at b9705
  have fr0 : fz 49 g [22] I I := fz_rf
  refine WQ_iconst (0) (0) dX11_copy_0 rfl rfl (fun v9706 hv9706 => ?_)
  refine WP_istore_n (ls' := [(0, _), (1, _), (2, _)]) dX11_copy_1 (by decide) rfl ?_
  have lp2_9710 : ∀ (mz : Nat) (i9707 : Int32) (I9708 : pI) (J9709 : pJ), MW g n L I9708 → fz 49 g [22] I I9708 → 0 ≤ i9707.toInt → i9707.toInt ≤ 21 → (∀ q : Nat, (q : Int) < i9707.toInt → I9708 (ad g 22) q = I (ad g 28) q) → (22 - i9707.toInt).toNat < mz → WP g mX11_copy 2 [(0, .ref (ad g 22)), (1, .ref (ad g 28)), (2, .int i9707)] [] I9708 J9709 R (fun r I' J' R' => (MW g n L I' ∧ R' = R ∧ fz 49 g [22] I I' ∧ (∀ q : Nat, q < 21 → I' (ad g 22) q = I (ad g 28) q)) ∧ r = none) := by
    intro mz
    induction mz with
    | zero =>
      intro i9707 I9708 J9709 hI9708 fiI9708 ai9707 bi9707 PC_I9708_9709 hmlp2_9710
      exact absurd hmlp2_9710 (Nat.not_lt_zero _)
    | succ mz ihlp2_9710 =>
      intro i9707 I9708 J9709 hI9708 fiI9708 ai9707 bi9707 PC_I9708_9709 hmlp2_9710
      have e9712 : I9708 (ad g 0) 1 = L := hI9708.1.2
      have b9713 := BT_get hI9708.1.1 0 1 2 (0) (0) (900) (by decide) 1 (by decide) (by decide)
      rw [e9712] at b9713
      refine WP_iload_n dX11_copy_2 rfl ?_
      refine WP_aload_n dX11_copy_3 rfl ?_
      refine WP_alen dX11_copy_4 (ly_is hy 22 13 rfl) (by decide) ?_
      rw [(ly_n hy 22 21 rfl)]
      obtain ⟨v9714, hv9714, ev9714⟩ : ∃ v : Int32, v.toInt = 21 ∧ nI 21 = v := ⟨_, nI_toInt (by decide), rfl⟩
      rw [ev9714]; clear ev9714
      refine WQ_icmp_ge 20 dX11_copy_5 rfl (fun c9714 => ?_) (fun c9714 => ?_)
      · exact WP_vret dX11_copy_20 rfl ⟨⟨hI9708, rfl, fiI9708, (fun q hq => PC_I9708_9709 q (by omega))⟩, rfl⟩
      · refine WP_aload_n dX11_copy_8 rfl ?_
        refine WP_iload_n dX11_copy_9 rfl ?_
        refine WP_aload_n dX11_copy_10 rfl ?_
        refine WP_iload_n dX11_copy_11 rfl ?_
        refine WQ_iald dX11_copy_12 (ly_is hy 28 13 rfl) (ly_n hy 28 21 rfl) (by omega) (by omega) (fun q hq => BT_get hI9708.1.1 28 0 21 (0) (0) (20) (by decide) q (Nat.zero_le _) hq) (fun v9716 av9716 bv9716 ev9716 => ?_)
        refine WQ_iast dX11_copy_13 (ly_is hy 22 13 rfl) (ly_n hy 22 21 rfl) (by omega) (by omega) (fun I9717 eI9717 => ?_)
        have hI9717 : MW g n L I9717 := by rw [eI9717]; exact (mw_w hy hI9708 (c := 22) (mi_r hy hI9708.1 (c := 22) (0) (0) (20) (by decide) (Or.inl (by decide)) (by decide) (by omega) (by omega)) (by decide) (by decide) (Or.inl (by decide)))
        have e9718 : I9717 (ad g 0) 1 = L := by rw [eI9717, pp_ne _ _ (Or.inl (ly_ne hy (by decide) (by decide) (by decide)))]; exact e9712
        have e9719 : I9717 (ad g 28) i9707.toNatClampNeg = v9716 := by rw [eI9717, pp_ne _ _ (Or.inl (ly_ne hy (by decide) (by decide) (by decide)))]; exact ev9716
        have fr9720 : fz 49 g [22] I I9717 := by rw [eI9717]; exact fzm_pp hy fiI9708 (by decide) (by decide)
        have CI9717 : ∀ q : Nat, (q : Int) < i9707.toInt + 1 → I9717 (ad g 22) q = I (ad g 28) q := by
          intro q hq
          rw [eI9717, pp_at, cl (x := i9707) (n := i9707.toInt.toNat) (by omega)]
          split
          · rename_i z; rw [z, ← fz_at fiI9708 28 (by decide) (by decide), ← cl (x := i9707) (n := i9707.toInt.toNat) (by omega)]; exact ev9716.symm
          · exact PC_I9708_9709 q (by omega)
        clear eI9717
        refine WP_iinc (ls' := [(0, _), (1, _), (2, _)]) dX11_copy_14 rfl (by decide) rfl ?_
        have hv9721 : (i9707 + Int32.ofInt (1)).toInt = i9707.toInt + (1) := ia_n rfl (by omega) (by omega)
        generalize i9707 + Int32.ofInt (1) = v9721 at hv9721 ⊢
        refine WP_goto 2 dX11_copy_17 rfl ?_
        exact WP_sub (fc rfl (fc rfl (fc rfl fn))) (ihlp2_9710 v9721 I9717 J9709 hI9717 fr9720 (by omega) (by omega) (fun q hq => CI9717 q (by omega)) (by omega))
  exact WP_sub (fc rfl (fc rfl (fc rfl fn))) (lp2_9710 _ v9706 I J hI fr0 (by omega) (by omega) (fun q hq => by omega) (Nat.lt_succ_self _))
set_option maxHeartbeats 4000000 in
set_option maxRecDepth 100000 in
theorem sm_copyw_23_29 {g : GG} {n : Int} {L : Int32} (hy : Ly g)  {I : pI} {J : pJ} {R : pR} (hr : Rf g R) (hI : MW g n L I)   : SP g mX11_copy [.ref (ad g 23), .ref (ad g 29)] I J R (fun r I' J' R' => (MW g n L I' ∧ R' = R ∧ fz 49 g [23] I I' ∧ (∀ q : Nat, q < 21 → I' (ad g 23) q = I (ad g 29) q)) ∧ r = none) := by
  refine SP_of ⟨by decide, rfl⟩ (Nat.le_of_ble_eq_true rfl) ?_
  have e9722 : I (ad g 0) 1 = L := hI.1.2
  have b9723 := BT_get hI.1.1 0 1 2 (0) (0) (900) (by decide) 1 (by decide) (by decide)
  rw [e9722] at b9723
  have fr0 : fz 49 g [23] I I := fz_rf
  refine WQ_iconst (0) (0) dX11_copy_0 rfl rfl (fun v9724 hv9724 => ?_)
  refine WP_istore_n (ls' := [(0, _), (1, _), (2, _)]) dX11_copy_1 (by decide) rfl ?_
  have lp2_9728 : ∀ (mz : Nat) (i9725 : Int32) (I9726 : pI) (J9727 : pJ), MW g n L I9726 → fz 49 g [23] I I9726 → 0 ≤ i9725.toInt → i9725.toInt ≤ 21 → (∀ q : Nat, (q : Int) < i9725.toInt → I9726 (ad g 23) q = I (ad g 29) q) → (22 - i9725.toInt).toNat < mz → WP g mX11_copy 2 [(0, .ref (ad g 23)), (1, .ref (ad g 29)), (2, .int i9725)] [] I9726 J9727 R (fun r I' J' R' => (MW g n L I' ∧ R' = R ∧ fz 49 g [23] I I' ∧ (∀ q : Nat, q < 21 → I' (ad g 23) q = I (ad g 29) q)) ∧ r = none) := by
    intro mz
    induction mz with
    | zero =>
      intro i9725 I9726 J9727 hI9726 fiI9726 ai9725 bi9725 PC_I9726_9727 hmlp2_9728
      exact absurd hmlp2_9728 (Nat.not_lt_zero _)
    | succ mz ihlp2_9728 =>
      intro i9725 I9726 J9727 hI9726 fiI9726 ai9725 bi9725 PC_I9726_9727 hmlp2_9728
      have e9730 : I9726 (ad g 0) 1 = L := hI9726.1.2
      have b9731 := BT_get hI9726.1.1 0 1 2 (0) (0) (900) (by decide) 1 (by decide) (by decide)
      rw [e9730] at b9731
      refine WP_iload_n dX11_copy_2 rfl ?_
      refine WP_aload_n dX11_copy_3 rfl ?_
      refine WP_alen dX11_copy_4 (ly_is hy 23 13 rfl) (by decide) ?_
      rw [(ly_n hy 23 21 rfl)]
      obtain ⟨v9732, hv9732, ev9732⟩ : ∃ v : Int32, v.toInt = 21 ∧ nI 21 = v := ⟨_, nI_toInt (by decide), rfl⟩
      rw [ev9732]; clear ev9732
      refine WQ_icmp_ge 20 dX11_copy_5 rfl (fun c9732 => ?_) (fun c9732 => ?_)
      · exact WP_vret dX11_copy_20 rfl ⟨⟨hI9726, rfl, fiI9726, (fun q hq => PC_I9726_9727 q (by omega))⟩, rfl⟩
      · refine WP_aload_n dX11_copy_8 rfl ?_
        refine WP_iload_n dX11_copy_9 rfl ?_
        refine WP_aload_n dX11_copy_10 rfl ?_
        refine WP_iload_n dX11_copy_11 rfl ?_
        refine WQ_iald dX11_copy_12 (ly_is hy 29 13 rfl) (ly_n hy 29 21 rfl) (by omega) (by omega) (fun q hq => BT_get hI9726.1.1 29 0 21 (-1) (0) (999) (by decide) q (Nat.zero_le _) hq) (fun v9734 av9734 bv9734 ev9734 => ?_)
        refine WQ_iast dX11_copy_13 (ly_is hy 23 13 rfl) (ly_n hy 23 21 rfl) (by omega) (by omega) (fun I9735 eI9735 => ?_)
        have hI9735 : MW g n L I9735 := by rw [eI9735]; exact (mw_w hy hI9726 (c := 23) (mi_r hy hI9726.1 (c := 23) (-1) (0) (999) (by decide) (Or.inl (by decide)) (by decide) (by omega) (by omega)) (by decide) (by decide) (Or.inl (by decide)))
        have e9736 : I9735 (ad g 0) 1 = L := by rw [eI9735, pp_ne _ _ (Or.inl (ly_ne hy (by decide) (by decide) (by decide)))]; exact e9730
        have e9737 : I9735 (ad g 29) i9725.toNatClampNeg = v9734 := by rw [eI9735, pp_ne _ _ (Or.inl (ly_ne hy (by decide) (by decide) (by decide)))]; exact ev9734
        have fr9738 : fz 49 g [23] I I9735 := by rw [eI9735]; exact fzm_pp hy fiI9726 (by decide) (by decide)
        have CI9735 : ∀ q : Nat, (q : Int) < i9725.toInt + 1 → I9735 (ad g 23) q = I (ad g 29) q := by
          intro q hq
          rw [eI9735, pp_at, cl (x := i9725) (n := i9725.toInt.toNat) (by omega)]
          split
          · rename_i z; rw [z, ← fz_at fiI9726 29 (by decide) (by decide), ← cl (x := i9725) (n := i9725.toInt.toNat) (by omega)]; exact ev9734.symm
          · exact PC_I9726_9727 q (by omega)
        clear eI9735
        refine WP_iinc (ls' := [(0, _), (1, _), (2, _)]) dX11_copy_14 rfl (by decide) rfl ?_
        have hv9739 : (i9725 + Int32.ofInt (1)).toInt = i9725.toInt + (1) := ia_n rfl (by omega) (by omega)
        generalize i9725 + Int32.ofInt (1) = v9739 at hv9739 ⊢
        refine WP_goto 2 dX11_copy_17 rfl ?_
        exact WP_sub (fc rfl (fc rfl (fc rfl fn))) (ihlp2_9728 v9739 I9735 J9727 hI9735 fr9738 (by omega) (by omega) (fun q hq => CI9735 q (by omega)) (by omega))
  exact WP_sub (fc rfl (fc rfl (fc rfl fn))) (lp2_9728 _ v9724 I J hI fr0 (by omega) (by omega) (fun q hq => by omega) (Nat.lt_succ_self _))
set_option maxHeartbeats 4000000 in
set_option maxRecDepth 100000 in
theorem sm_copyw_24_30 {g : GG} {n : Int} {L : Int32} (hy : Ly g)  {I : pI} {J : pJ} {R : pR} (hr : Rf g R) (hI : MW g n L I)   : SP g mX11_copy [.ref (ad g 24), .ref (ad g 30)] I J R (fun r I' J' R' => (MW g n L I' ∧ R' = R ∧ fz 49 g [24] I I' ∧ (∀ q : Nat, q < 28 → I' (ad g 24) q = I (ad g 30) q)) ∧ r = none) := by
  refine SP_of ⟨by decide, rfl⟩ (Nat.le_of_ble_eq_true rfl) ?_
  have e9740 : I (ad g 0) 1 = L := hI.1.2
  have b9741 := BT_get hI.1.1 0 1 2 (0) (0) (900) (by decide) 1 (by decide) (by decide)
  rw [e9740] at b9741
  have fr0 : fz 49 g [24] I I := fz_rf
  refine WQ_iconst (0) (0) dX11_copy_0 rfl rfl (fun v9742 hv9742 => ?_)
  refine WP_istore_n (ls' := [(0, _), (1, _), (2, _)]) dX11_copy_1 (by decide) rfl ?_
  have lp2_9746 : ∀ (mz : Nat) (i9743 : Int32) (I9744 : pI) (J9745 : pJ), MW g n L I9744 → fz 49 g [24] I I9744 → 0 ≤ i9743.toInt → i9743.toInt ≤ 28 → (∀ q : Nat, (q : Int) < i9743.toInt → I9744 (ad g 24) q = I (ad g 30) q) → (29 - i9743.toInt).toNat < mz → WP g mX11_copy 2 [(0, .ref (ad g 24)), (1, .ref (ad g 30)), (2, .int i9743)] [] I9744 J9745 R (fun r I' J' R' => (MW g n L I' ∧ R' = R ∧ fz 49 g [24] I I' ∧ (∀ q : Nat, q < 28 → I' (ad g 24) q = I (ad g 30) q)) ∧ r = none) := by
    intro mz
    induction mz with
    | zero =>
      intro i9743 I9744 J9745 hI9744 fiI9744 ai9743 bi9743 PC_I9744_9745 hmlp2_9746
      exact absurd hmlp2_9746 (Nat.not_lt_zero _)
    | succ mz ihlp2_9746 =>
      intro i9743 I9744 J9745 hI9744 fiI9744 ai9743 bi9743 PC_I9744_9745 hmlp2_9746
      have e9748 : I9744 (ad g 0) 1 = L := hI9744.1.2
      have b9749 := BT_get hI9744.1.1 0 1 2 (0) (0) (900) (by decide) 1 (by decide) (by decide)
      rw [e9748] at b9749
      refine WP_iload_n dX11_copy_2 rfl ?_
      refine WP_aload_n dX11_copy_3 rfl ?_
      refine WP_alen dX11_copy_4 (ly_is hy 24 13 rfl) (by decide) ?_
      rw [(ly_n hy 24 28 rfl)]
      obtain ⟨v9750, hv9750, ev9750⟩ : ∃ v : Int32, v.toInt = 28 ∧ nI 28 = v := ⟨_, nI_toInt (by decide), rfl⟩
      rw [ev9750]; clear ev9750
      refine WQ_icmp_ge 20 dX11_copy_5 rfl (fun c9750 => ?_) (fun c9750 => ?_)
      · exact WP_vret dX11_copy_20 rfl ⟨⟨hI9744, rfl, fiI9744, (fun q hq => PC_I9744_9745 q (by omega))⟩, rfl⟩
      · refine WP_aload_n dX11_copy_8 rfl ?_
        refine WP_iload_n dX11_copy_9 rfl ?_
        refine WP_aload_n dX11_copy_10 rfl ?_
        refine WP_iload_n dX11_copy_11 rfl ?_
        refine WQ_iald dX11_copy_12 (ly_is hy 30 13 rfl) (ly_n hy 30 28 rfl) (by omega) (by omega) (fun q hq => BT_get hI9744.1.1 30 0 28 (-1) (0) (2) (by decide) q (Nat.zero_le _) hq) (fun v9752 av9752 bv9752 ev9752 => ?_)
        refine WQ_iast dX11_copy_13 (ly_is hy 24 13 rfl) (ly_n hy 24 28 rfl) (by omega) (by omega) (fun I9753 eI9753 => ?_)
        have hI9753 : MW g n L I9753 := by rw [eI9753]; exact (mw_w hy hI9744 (c := 24) (mi_r hy hI9744.1 (c := 24) (-1) (0) (2) (by decide) (Or.inl (by decide)) (by decide) (by omega) (by omega)) (by decide) (by decide) (Or.inl (by decide)))
        have e9754 : I9753 (ad g 0) 1 = L := by rw [eI9753, pp_ne _ _ (Or.inl (ly_ne hy (by decide) (by decide) (by decide)))]; exact e9748
        have e9755 : I9753 (ad g 30) i9743.toNatClampNeg = v9752 := by rw [eI9753, pp_ne _ _ (Or.inl (ly_ne hy (by decide) (by decide) (by decide)))]; exact ev9752
        have fr9756 : fz 49 g [24] I I9753 := by rw [eI9753]; exact fzm_pp hy fiI9744 (by decide) (by decide)
        have CI9753 : ∀ q : Nat, (q : Int) < i9743.toInt + 1 → I9753 (ad g 24) q = I (ad g 30) q := by
          intro q hq
          rw [eI9753, pp_at, cl (x := i9743) (n := i9743.toInt.toNat) (by omega)]
          split
          · rename_i z; rw [z, ← fz_at fiI9744 30 (by decide) (by decide), ← cl (x := i9743) (n := i9743.toInt.toNat) (by omega)]; exact ev9752.symm
          · exact PC_I9744_9745 q (by omega)
        clear eI9753
        refine WP_iinc (ls' := [(0, _), (1, _), (2, _)]) dX11_copy_14 rfl (by decide) rfl ?_
        have hv9757 : (i9743 + Int32.ofInt (1)).toInt = i9743.toInt + (1) := ia_n rfl (by omega) (by omega)
        generalize i9743 + Int32.ofInt (1) = v9757 at hv9757 ⊢
        refine WP_goto 2 dX11_copy_17 rfl ?_
        exact WP_sub (fc rfl (fc rfl (fc rfl fn))) (ihlp2_9746 v9757 I9753 J9745 hI9753 fr9756 (by omega) (by omega) (fun q hq => CI9753 q (by omega)) (by omega))
  exact WP_sub (fc rfl (fc rfl (fc rfl fn))) (lp2_9746 _ v9742 I J hI fr0 (by omega) (by omega) (fun q hq => by omega) (Nat.lt_succ_self _))
set_option maxHeartbeats 4000000 in
set_option maxRecDepth 100000 in
theorem sm_copyw_25_31 {g : GG} {n : Int} {L : Int32} (hy : Ly g)  {I : pI} {J : pJ} {R : pR} (hr : Rf g R) (hI : MW g n L I)   : SP g mX11_copy [.ref (ad g 25), .ref (ad g 31)] I J R (fun r I' J' R' => (MW g n L I' ∧ R' = R ∧ fz 49 g [25] I I' ∧ (∀ q : Nat, q < 28 → I' (ad g 25) q = I (ad g 31) q)) ∧ r = none) := by
  refine SP_of ⟨by decide, rfl⟩ (Nat.le_of_ble_eq_true rfl) ?_
  have e9758 : I (ad g 0) 1 = L := hI.1.2
  have b9759 := BT_get hI.1.1 0 1 2 (0) (0) (900) (by decide) 1 (by decide) (by decide)
  rw [e9758] at b9759
  have fr0 : fz 49 g [25] I I := fz_rf
  refine WQ_iconst (0) (0) dX11_copy_0 rfl rfl (fun v9760 hv9760 => ?_)
  refine WP_istore_n (ls' := [(0, _), (1, _), (2, _)]) dX11_copy_1 (by decide) rfl ?_
  have lp2_9764 : ∀ (mz : Nat) (i9761 : Int32) (I9762 : pI) (J9763 : pJ), MW g n L I9762 → fz 49 g [25] I I9762 → 0 ≤ i9761.toInt → i9761.toInt ≤ 28 → (∀ q : Nat, (q : Int) < i9761.toInt → I9762 (ad g 25) q = I (ad g 31) q) → (29 - i9761.toInt).toNat < mz → WP g mX11_copy 2 [(0, .ref (ad g 25)), (1, .ref (ad g 31)), (2, .int i9761)] [] I9762 J9763 R (fun r I' J' R' => (MW g n L I' ∧ R' = R ∧ fz 49 g [25] I I' ∧ (∀ q : Nat, q < 28 → I' (ad g 25) q = I (ad g 31) q)) ∧ r = none) := by
    intro mz
    induction mz with
    | zero =>
      intro i9761 I9762 J9763 hI9762 fiI9762 ai9761 bi9761 PC_I9762_9763 hmlp2_9764
      exact absurd hmlp2_9764 (Nat.not_lt_zero _)
    | succ mz ihlp2_9764 =>
      intro i9761 I9762 J9763 hI9762 fiI9762 ai9761 bi9761 PC_I9762_9763 hmlp2_9764
      have e9766 : I9762 (ad g 0) 1 = L := hI9762.1.2
      have b9767 := BT_get hI9762.1.1 0 1 2 (0) (0) (900) (by decide) 1 (by decide) (by decide)
      rw [e9766] at b9767
      refine WP_iload_n dX11_copy_2 rfl ?_
      refine WP_aload_n dX11_copy_3 rfl ?_
      refine WP_alen dX11_copy_4 (ly_is hy 25 13 rfl) (by decide) ?_
      rw [(ly_n hy 25 28 rfl)]
      obtain ⟨v9768, hv9768, ev9768⟩ : ∃ v : Int32, v.toInt = 28 ∧ nI 28 = v := ⟨_, nI_toInt (by decide), rfl⟩
      rw [ev9768]; clear ev9768
      refine WQ_icmp_ge 20 dX11_copy_5 rfl (fun c9768 => ?_) (fun c9768 => ?_)
      · exact WP_vret dX11_copy_20 rfl ⟨⟨hI9762, rfl, fiI9762, (fun q hq => PC_I9762_9763 q (by omega))⟩, rfl⟩
      · refine WP_aload_n dX11_copy_8 rfl ?_
        refine WP_iload_n dX11_copy_9 rfl ?_
        refine WP_aload_n dX11_copy_10 rfl ?_
        refine WP_iload_n dX11_copy_11 rfl ?_
        refine WQ_iald dX11_copy_12 (ly_is hy 31 13 rfl) (ly_n hy 31 28 rfl) (by omega) (by omega) (fun q hq => BT_get hI9762.1.1 31 0 28 (0) (0) (3) (by decide) q (Nat.zero_le _) hq) (fun v9770 av9770 bv9770 ev9770 => ?_)
        refine WQ_iast dX11_copy_13 (ly_is hy 25 13 rfl) (ly_n hy 25 28 rfl) (by omega) (by omega) (fun I9771 eI9771 => ?_)
        have hI9771 : MW g n L I9771 := by rw [eI9771]; exact (mw_w hy hI9762 (c := 25) (mi_r hy hI9762.1 (c := 25) (0) (0) (3) (by decide) (Or.inl (by decide)) (by decide) (by omega) (by omega)) (by decide) (by decide) (Or.inl (by decide)))
        have e9772 : I9771 (ad g 0) 1 = L := by rw [eI9771, pp_ne _ _ (Or.inl (ly_ne hy (by decide) (by decide) (by decide)))]; exact e9766
        have e9773 : I9771 (ad g 31) i9761.toNatClampNeg = v9770 := by rw [eI9771, pp_ne _ _ (Or.inl (ly_ne hy (by decide) (by decide) (by decide)))]; exact ev9770
        have fr9774 : fz 49 g [25] I I9771 := by rw [eI9771]; exact fzm_pp hy fiI9762 (by decide) (by decide)
        have CI9771 : ∀ q : Nat, (q : Int) < i9761.toInt + 1 → I9771 (ad g 25) q = I (ad g 31) q := by
          intro q hq
          rw [eI9771, pp_at, cl (x := i9761) (n := i9761.toInt.toNat) (by omega)]
          split
          · rename_i z; rw [z, ← fz_at fiI9762 31 (by decide) (by decide), ← cl (x := i9761) (n := i9761.toInt.toNat) (by omega)]; exact ev9770.symm
          · exact PC_I9762_9763 q (by omega)
        clear eI9771
        refine WP_iinc (ls' := [(0, _), (1, _), (2, _)]) dX11_copy_14 rfl (by decide) rfl ?_
        have hv9775 : (i9761 + Int32.ofInt (1)).toInt = i9761.toInt + (1) := ia_n rfl (by omega) (by omega)
        generalize i9761 + Int32.ofInt (1) = v9775 at hv9775 ⊢
        refine WP_goto 2 dX11_copy_17 rfl ?_
        exact WP_sub (fc rfl (fc rfl (fc rfl fn))) (ihlp2_9764 v9775 I9771 J9763 hI9771 fr9774 (by omega) (by omega) (fun q hq => CI9771 q (by omega)) (by omega))
  exact WP_sub (fc rfl (fc rfl (fc rfl fn))) (lp2_9764 _ v9760 I J hI fr0 (by omega) (by omega) (fun q hq => by omega) (Nat.lt_succ_self _))
set_option maxHeartbeats 4000000 in
set_option maxRecDepth 100000 in
theorem sm_copyw_26_32 {g : GG} {n : Int} {L : Int32} (hy : Ly g)  {I : pI} {J : pJ} {R : pR} (hr : Rf g R) (hI : MW g n L I)   : SP g mX11_copy [.ref (ad g 26), .ref (ad g 32)] I J R (fun r I' J' R' => (MW g n L I' ∧ R' = R ∧ fz 49 g [26] I I' ∧ (∀ q : Nat, q < 28 → I' (ad g 26) q = I (ad g 32) q)) ∧ r = none) := by
  refine SP_of ⟨by decide, rfl⟩ (Nat.le_of_ble_eq_true rfl) ?_
  have e9776 : I (ad g 0) 1 = L := hI.1.2
  have b9777 := BT_get hI.1.1 0 1 2 (0) (0) (900) (by decide) 1 (by decide) (by decide)
  rw [e9776] at b9777
  have fr0 : fz 49 g [26] I I := fz_rf
  refine WQ_iconst (0) (0) dX11_copy_0 rfl rfl (fun v9778 hv9778 => ?_)
  refine WP_istore_n (ls' := [(0, _), (1, _), (2, _)]) dX11_copy_1 (by decide) rfl ?_
  have lp2_9782 : ∀ (mz : Nat) (i9779 : Int32) (I9780 : pI) (J9781 : pJ), MW g n L I9780 → fz 49 g [26] I I9780 → 0 ≤ i9779.toInt → i9779.toInt ≤ 28 → (∀ q : Nat, (q : Int) < i9779.toInt → I9780 (ad g 26) q = I (ad g 32) q) → (29 - i9779.toInt).toNat < mz → WP g mX11_copy 2 [(0, .ref (ad g 26)), (1, .ref (ad g 32)), (2, .int i9779)] [] I9780 J9781 R (fun r I' J' R' => (MW g n L I' ∧ R' = R ∧ fz 49 g [26] I I' ∧ (∀ q : Nat, q < 28 → I' (ad g 26) q = I (ad g 32) q)) ∧ r = none) := by
    intro mz
    induction mz with
    | zero =>
      intro i9779 I9780 J9781 hI9780 fiI9780 ai9779 bi9779 PC_I9780_9781 hmlp2_9782
      exact absurd hmlp2_9782 (Nat.not_lt_zero _)
    | succ mz ihlp2_9782 =>
      intro i9779 I9780 J9781 hI9780 fiI9780 ai9779 bi9779 PC_I9780_9781 hmlp2_9782
      have e9784 : I9780 (ad g 0) 1 = L := hI9780.1.2
      have b9785 := BT_get hI9780.1.1 0 1 2 (0) (0) (900) (by decide) 1 (by decide) (by decide)
      rw [e9784] at b9785
      refine WP_iload_n dX11_copy_2 rfl ?_
      refine WP_aload_n dX11_copy_3 rfl ?_
      refine WP_alen dX11_copy_4 (ly_is hy 26 13 rfl) (by decide) ?_
      rw [(ly_n hy 26 28 rfl)]
      obtain ⟨v9786, hv9786, ev9786⟩ : ∃ v : Int32, v.toInt = 28 ∧ nI 28 = v := ⟨_, nI_toInt (by decide), rfl⟩
      rw [ev9786]; clear ev9786
      refine WQ_icmp_ge 20 dX11_copy_5 rfl (fun c9786 => ?_) (fun c9786 => ?_)
      · exact WP_vret dX11_copy_20 rfl ⟨⟨hI9780, rfl, fiI9780, (fun q hq => PC_I9780_9781 q (by omega))⟩, rfl⟩
      · refine WP_aload_n dX11_copy_8 rfl ?_
        refine WP_iload_n dX11_copy_9 rfl ?_
        refine WP_aload_n dX11_copy_10 rfl ?_
        refine WP_iload_n dX11_copy_11 rfl ?_
        refine WQ_iald dX11_copy_12 (ly_is hy 32 13 rfl) (ly_n hy 32 28 rfl) (by omega) (by omega) (fun q hq => BT_get hI9780.1.1 32 0 28 (0) (0) (99) (by decide) q (Nat.zero_le _) hq) (fun v9788 av9788 bv9788 ev9788 => ?_)
        refine WQ_iast dX11_copy_13 (ly_is hy 26 13 rfl) (ly_n hy 26 28 rfl) (by omega) (by omega) (fun I9789 eI9789 => ?_)
        have hI9789 : MW g n L I9789 := by rw [eI9789]; exact (mw_w hy hI9780 (c := 26) (mi_r hy hI9780.1 (c := 26) (0) (0) (99) (by decide) (Or.inl (by decide)) (by decide) (by omega) (by omega)) (by decide) (by decide) (Or.inl (by decide)))
        have e9790 : I9789 (ad g 0) 1 = L := by rw [eI9789, pp_ne _ _ (Or.inl (ly_ne hy (by decide) (by decide) (by decide)))]; exact e9784
        have e9791 : I9789 (ad g 32) i9779.toNatClampNeg = v9788 := by rw [eI9789, pp_ne _ _ (Or.inl (ly_ne hy (by decide) (by decide) (by decide)))]; exact ev9788
        have fr9792 : fz 49 g [26] I I9789 := by rw [eI9789]; exact fzm_pp hy fiI9780 (by decide) (by decide)
        have CI9789 : ∀ q : Nat, (q : Int) < i9779.toInt + 1 → I9789 (ad g 26) q = I (ad g 32) q := by
          intro q hq
          rw [eI9789, pp_at, cl (x := i9779) (n := i9779.toInt.toNat) (by omega)]
          split
          · rename_i z; rw [z, ← fz_at fiI9780 32 (by decide) (by decide), ← cl (x := i9779) (n := i9779.toInt.toNat) (by omega)]; exact ev9788.symm
          · exact PC_I9780_9781 q (by omega)
        clear eI9789
        refine WP_iinc (ls' := [(0, _), (1, _), (2, _)]) dX11_copy_14 rfl (by decide) rfl ?_
        have hv9793 : (i9779 + Int32.ofInt (1)).toInt = i9779.toInt + (1) := ia_n rfl (by omega) (by omega)
        generalize i9779 + Int32.ofInt (1) = v9793 at hv9793 ⊢
        refine WP_goto 2 dX11_copy_17 rfl ?_
        exact WP_sub (fc rfl (fc rfl (fc rfl fn))) (ihlp2_9782 v9793 I9789 J9781 hI9789 fr9792 (by omega) (by omega) (fun q hq => CI9789 q (by omega)) (by omega))
  exact WP_sub (fc rfl (fc rfl (fc rfl fn))) (lp2_9782 _ v9778 I J hI fr0 (by omega) (by omega) (fun q hq => by omega) (Nat.lt_succ_self _))
set_option maxHeartbeats 4000000 in
set_option maxRecDepth 100000 in
theorem sm_beginw_38 {g : GG} {n : Int} {L : Int32} (hy : Ly g)  {I : pI} {J : pJ} {R : pR} (hr : Rf g R) (hI : MW g n L I)   (hn : 0 ≤ n) : SP g mX11_begin [.ref (ad g 0), .ref (ad g 38)] I J R (fun r I' J' R' => (MW g n L I' ∧ R' = R ∧ fz 49 g [38] I I') ∧ r = none) := by
  refine SP_of ⟨by decide, rfl⟩ (Nat.le_of_ble_eq_true rfl) ?_
  have e9794 : I (ad g 0) 1 = L := hI.1.2
  have b9795 := BT_get hI.1.1 0 1 2 (0) (0) (900) (by decide) 1 (by decide) (by decide)
  rw [e9794] at b9795
  have fr0 : fz 49 g [38] I I := fz_rf
  refine WQ_iconst (0) (0) dX11_begin_0 rfl rfl (fun v9796 hv9796 => ?_)
  refine WP_istore_n (ls' := [(0, _), (1, _), (2, _)]) dX11_begin_1 (by decide) rfl ?_
  have lp2_9799 : ∀ (mz : Nat) (i9797 : Int32) (I9798 : pI) (J9799 : pJ), MW g n L I9798 → fz 49 g [38] I I9798 → 0 ≤ i9797.toInt → i9797.toInt ≤ 35 → (36 - i9797.toInt).toNat < mz → WP g mX11_begin 2 [(0, .ref (ad g 0)), (1, .ref (ad g 38)), (2, .int i9797)] [] I9798 J9799 R (fun r I' J' R' => (MW g n L I' ∧ R' = R ∧ fz 49 g [38] I I') ∧ r = none) := by
    intro mz
    induction mz with
    | zero =>
      intro i9797 I9798 J9799 hI9798 fiI9798 ai9797 bi9797 hmlp2_9799
      exact absurd hmlp2_9799 (Nat.not_lt_zero _)
    | succ mz ihlp2_9799 =>
      intro i9797 I9798 J9799 hI9798 fiI9798 ai9797 bi9797 hmlp2_9799
      have e9801 : I9798 (ad g 0) 1 = L := hI9798.1.2
      have b9802 := BT_get hI9798.1.1 0 1 2 (0) (0) (900) (by decide) 1 (by decide) (by decide)
      rw [e9801] at b9802
      refine WP_iload_n dX11_begin_2 rfl ?_
      refine WQ_bipush (35) (35) dX11_begin_3 rfl rfl (fun v9803 hv9803 => ?_)
      refine WQ_icmp_ge 30 dX11_begin_5 rfl (fun c9803 => ?_) (fun c9803 => ?_)
      · refine WQ_iconst (0) (0) dX11_begin_30 rfl rfl (fun v9805 hv9805 => ?_)
        refine WP_istore_n (ls' := [(0, _), (1, _), (2, _)]) dX11_begin_31 (by decide) rfl ?_
        have lp32_9808 : ∀ (mz : Nat) (i9806 : Int32) (I9807 : pI) (J9808 : pJ), MW g n L I9807 → fz 49 g [38] I I9807 → 0 ≤ i9806.toInt → i9806.toInt ≤ 4 → (5 - i9806.toInt).toNat < mz → WP g mX11_begin 32 [(0, .ref (ad g 0)), (1, .ref (ad g 38)), (2, .int i9806)] [] I9807 J9808 R (fun r I' J' R' => (MW g n L I' ∧ R' = R ∧ fz 49 g [38] I I') ∧ r = none) := by
          intro mz
          induction mz with
          | zero =>
            intro i9806 I9807 J9808 hI9807 fiI9807 ai9806 bi9806 hmlp32_9808
            exact absurd hmlp32_9808 (Nat.not_lt_zero _)
          | succ mz ihlp32_9808 =>
            intro i9806 I9807 J9808 hI9807 fiI9807 ai9806 bi9806 hmlp32_9808
            have e9810 : I9807 (ad g 0) 1 = L := hI9807.1.2
            have b9811 := BT_get hI9807.1.1 0 1 2 (0) (0) (900) (by decide) 1 (by decide) (by decide)
            rw [e9810] at b9811
            refine WP_iload_n dX11_begin_32 rfl ?_
            refine WP_aload_n dX11_begin_33 rfl ?_
            refine WQ_geti dX11_begin_34 fX11_329 rfl (ly_is hy 0 11 rfl) (BT_get hI9807.1.1 0 10 11 (0) (0) (4) (by decide) 10 (by decide) (by decide)) (fun v9812 ev9812 av9812 bv9812 => ?_)
            refine WQ_icmp_ge 57 dX11_begin_37 rfl (fun c9812 => ?_) (fun c9812 => ?_)
            · exact WP_vret dX11_begin_57 rfl ⟨⟨hI9807, rfl, fiI9807⟩, rfl⟩
            · refine WP_aload_n dX11_begin_40 rfl ?_
              refine WQ_iconst (0) (0) dX11_begin_41 rfl rfl (fun v9814 hv9814 => ?_)
              refine WP_iload_n dX11_begin_42 rfl ?_
              refine WQ_iadd dX11_begin_43 (by omega) (by omega) (fun v9815 hv9815 => ?_)
              refine WP_aload_n dX11_begin_44 rfl ?_
              refine WP_getr dX11_begin_45 fX11_241 rfl (ly_is hy 0 11 rfl) (rf hr 0 28 10 (by decide)) ?_
              refine WP_iload_n dX11_begin_48 rfl ?_
              refine WQ_iald dX11_begin_49 (ly_is hy 10 13 rfl) (ly_n hy 10 4 rfl) (by omega) (by omega) (fun q hq => BT_get hI9807.1.1 10 0 4 (0) (0) (60) (by decide) q (Nat.zero_le _) hq) (fun v9816 av9816 bv9816 ev9816 => ?_)
              clear ev9816
              refine WQ_iast dX11_begin_50 (ly_is hy 38 13 rfl) (ly_n hy 38 35 rfl) (by omega) (by omega) (fun I9817 eI9817 => ?_)
              have hI9817 : MW g n L I9817 := by rw [eI9817]; exact (mw_w hy hI9807 (c := 38) (mi_rr hy hI9807.1 (c := 38) (0) (3) (0) (0) (60) (by decide) (Or.inl (by decide)) (by rw [cl (n := v9815.toInt.toNat) (by omega)]; omega) (by decide) (fun _ => ⟨by omega, by omega⟩)) (by decide) (by decide) (Or.inl (by decide)))
              have e9818 : I9817 (ad g 0) 1 = L := by rw [eI9817, pp_ne _ _ (Or.inl (ly_ne hy (by decide) (by decide) (by decide)))]; exact e9810
              have e9819 : I9817 (ad g 0) 10 = v9812 := by rw [eI9817, pp_ne _ _ (Or.inl (ly_ne hy (by decide) (by decide) (by decide)))]; exact ev9812
              have fr9820 : fz 49 g [38] I I9817 := by rw [eI9817]; exact fzm_pp hy fiI9807 (by decide) (by decide)
              clear eI9817
              refine WP_iinc (ls' := [(0, _), (1, _), (2, _)]) dX11_begin_51 rfl (by decide) rfl ?_
              have hv9821 : (i9806 + Int32.ofInt (1)).toInt = i9806.toInt + (1) := ia_n rfl (by omega) (by omega)
              generalize i9806 + Int32.ofInt (1) = v9821 at hv9821 ⊢
              refine WP_goto 32 dX11_begin_54 rfl ?_
              exact WP_sub (fc rfl (fc rfl (fc rfl fn))) (ihlp32_9808 v9821 I9817 J9808 hI9817 fr9820 (by omega) (by omega) (by omega))
        exact WP_sub (fc rfl (fc rfl (fc rfl fn))) (lp32_9808 _ v9805 I9798 J9799 hI9798 fiI9798 (by omega) (by omega) (Nat.lt_succ_self _))
      · refine WP_iload_n dX11_begin_8 rfl ?_
        refine WQ_bipush (28) (28) dX11_begin_9 rfl rfl (fun v9822 hv9822 => ?_)
        refine WQ_icmp_lt 20 dX11_begin_11 rfl (fun c9822 => ?_) (fun c9822 => ?_)
        · rcases (show (0 ≤ i9797.toInt ∧ i9797.toInt ≤ 3) ∨ (4 ≤ i9797.toInt ∧ i9797.toInt ≤ 7) ∨ (8 ≤ i9797.toInt ∧ i9797.toInt ≤ 31) by omega) with ⟨k9824_0, k9824_1⟩ | ⟨k9824_2, k9824_3⟩ | ⟨k9824_4, k9824_5⟩
          · refine WP_aload_n dX11_begin_20 rfl ?_
            refine WP_iload_n dX11_begin_21 rfl ?_
            refine WQ_iconst (0) (0) dX11_begin_22 rfl rfl (fun v9825 hv9825 => ?_)
            refine WQ_iast dX11_begin_23 (ly_is hy 38 13 rfl) (ly_n hy 38 35 rfl) (by omega) (by omega) (fun I9826 eI9826 => ?_)
            have hI9826 : MW g n L I9826 := by rw [eI9826]; exact (mw_w hy hI9798 (c := 38) (mi_rr hy hI9798.1 (c := 38) (0) (3) (0) (0) (60) (by decide) (Or.inl (by decide)) (by rw [cl (n := i9797.toInt.toNat) (by omega)]; omega) (by decide) (fun _ => ⟨by omega, by omega⟩)) (by decide) (by decide) (Or.inl (by decide)))
            have e9827 : I9826 (ad g 0) 1 = L := by rw [eI9826, pp_ne _ _ (Or.inl (ly_ne hy (by decide) (by decide) (by decide)))]; exact e9801
            have fr9828 : fz 49 g [38] I I9826 := by rw [eI9826]; exact fzm_pp hy fiI9798 (by decide) (by decide)
            clear eI9826
            refine WP_iinc (ls' := [(0, _), (1, _), (2, _)]) dX11_begin_24 rfl (by decide) rfl ?_
            have hv9829 : (i9797 + Int32.ofInt (1)).toInt = i9797.toInt + (1) := ia_n rfl (by omega) (by omega)
            generalize i9797 + Int32.ofInt (1) = v9829 at hv9829 ⊢
            refine WP_goto 2 dX11_begin_27 rfl ?_
            exact WP_sub (fc rfl (fc rfl (fc rfl fn))) (ihlp2_9799 v9829 I9826 J9799 hI9826 fr9828 (by omega) (by omega) (by omega))
          · refine WP_aload_n dX11_begin_20 rfl ?_
            refine WP_iload_n dX11_begin_21 rfl ?_
            refine WQ_iconst (0) (0) dX11_begin_22 rfl rfl (fun v9830 hv9830 => ?_)
            refine WQ_iast dX11_begin_23 (ly_is hy 38 13 rfl) (ly_n hy 38 35 rfl) (by omega) (by omega) (fun I9831 eI9831 => ?_)
            have hI9831 : MW g n L I9831 := by rw [eI9831]; exact (mw_w hy hI9798 (c := 38) (mi_rr hy hI9798.1 (c := 38) (4) (7) (0) (0) (5) (by decide) (Or.inl (by decide)) (by rw [cl (n := i9797.toInt.toNat) (by omega)]; omega) (by decide) (fun _ => ⟨by omega, by omega⟩)) (by decide) (by decide) (Or.inl (by decide)))
            have e9832 : I9831 (ad g 0) 1 = L := by rw [eI9831, pp_ne _ _ (Or.inl (ly_ne hy (by decide) (by decide) (by decide)))]; exact e9801
            have fr9833 : fz 49 g [38] I I9831 := by rw [eI9831]; exact fzm_pp hy fiI9798 (by decide) (by decide)
            clear eI9831
            refine WP_iinc (ls' := [(0, _), (1, _), (2, _)]) dX11_begin_24 rfl (by decide) rfl ?_
            have hv9834 : (i9797 + Int32.ofInt (1)).toInt = i9797.toInt + (1) := ia_n rfl (by omega) (by omega)
            generalize i9797 + Int32.ofInt (1) = v9834 at hv9834 ⊢
            refine WP_goto 2 dX11_begin_27 rfl ?_
            exact WP_sub (fc rfl (fc rfl (fc rfl fn))) (ihlp2_9799 v9834 I9831 J9799 hI9831 fr9833 (by omega) (by omega) (by omega))
          · refine WP_aload_n dX11_begin_20 rfl ?_
            refine WP_iload_n dX11_begin_21 rfl ?_
            refine WQ_iconst (0) (0) dX11_begin_22 rfl rfl (fun v9835 hv9835 => ?_)
            refine WQ_iast dX11_begin_23 (ly_is hy 38 13 rfl) (ly_n hy 38 35 rfl) (by omega) (by omega) (fun I9836 eI9836 => ?_)
            have hI9836 : MW g n L I9836 := by rw [eI9836]; exact (mw_w hy hI9798 (c := 38) (mi_rr hy hI9798.1 (c := 38) (8) (27) (0) (0) (0) (by decide) (Or.inl (by decide)) (by rw [cl (n := i9797.toInt.toNat) (by omega)]; omega) (by decide) (fun h => absurd h (by decide))) (by decide) (by decide) (Or.inl (by decide)))
            have e9837 : I9836 (ad g 0) 1 = L := by rw [eI9836, pp_ne _ _ (Or.inl (ly_ne hy (by decide) (by decide) (by decide)))]; exact e9801
            have fr9838 : fz 49 g [38] I I9836 := by rw [eI9836]; exact fzm_pp hy fiI9798 (by decide) (by decide)
            clear eI9836
            refine WP_iinc (ls' := [(0, _), (1, _), (2, _)]) dX11_begin_24 rfl (by decide) rfl ?_
            have hv9839 : (i9797 + Int32.ofInt (1)).toInt = i9797.toInt + (1) := ia_n rfl (by omega) (by omega)
            generalize i9797 + Int32.ofInt (1) = v9839 at hv9839 ⊢
            refine WP_goto 2 dX11_begin_27 rfl ?_
            exact WP_sub (fc rfl (fc rfl (fc rfl fn))) (ihlp2_9799 v9839 I9836 J9799 hI9836 fr9838 (by omega) (by omega) (by omega))
        · refine WP_iload_n dX11_begin_14 rfl ?_
          refine WQ_bipush (32) (32) dX11_begin_15 rfl rfl (fun v9840 hv9840 => ?_)
          refine WQ_icmp_lt 24 dX11_begin_17 rfl (fun c9840 => ?_) (fun c9840 => ?_)
          · refine WP_iinc (ls' := [(0, _), (1, _), (2, _)]) dX11_begin_24 rfl (by decide) rfl ?_
            have hv9842 : (i9797 + Int32.ofInt (1)).toInt = i9797.toInt + (1) := ia_n rfl (by omega) (by omega)
            generalize i9797 + Int32.ofInt (1) = v9842 at hv9842 ⊢
            refine WP_goto 2 dX11_begin_27 rfl ?_
            exact WP_sub (fc rfl (fc rfl (fc rfl fn))) (ihlp2_9799 v9842 I9798 J9799 hI9798 fiI9798 (by omega) (by omega) (by omega))
          · rcases (show (32 ≤ i9797.toInt ∧ i9797.toInt ≤ 32) ∨ (33 ≤ i9797.toInt ∧ i9797.toInt ≤ 33) ∨ (34 ≤ i9797.toInt ∧ i9797.toInt ≤ 34) by omega) with ⟨k9843_0, k9843_1⟩ | ⟨k9843_2, k9843_3⟩ | ⟨k9843_4, k9843_5⟩
            · refine WP_aload_n dX11_begin_20 rfl ?_
              refine WP_iload_n dX11_begin_21 rfl ?_
              refine WQ_iconst (0) (0) dX11_begin_22 rfl rfl (fun v9844 hv9844 => ?_)
              refine WQ_iast dX11_begin_23 (ly_is hy 38 13 rfl) (ly_n hy 38 35 rfl) (by omega) (by omega) (fun I9845 eI9845 => ?_)
              have hI9845 : MW g n L I9845 := by rw [eI9845]; exact (mw_w hy hI9798 (c := 38) (mi_rr hy hI9798.1 (c := 38) (32) (32) (0) (23760) (0) (by decide) (Or.inl (by decide)) (by rw [cl (n := i9797.toInt.toNat) (by omega)]; omega) (by decide) (fun _ => ⟨by omega, by omega⟩)) (by decide) (by decide) (Or.inl (by decide)))
              have e9846 : I9845 (ad g 0) 1 = L := by rw [eI9845, pp_ne _ _ (Or.inl (ly_ne hy (by decide) (by decide) (by decide)))]; exact e9801
              have fr9847 : fz 49 g [38] I I9845 := by rw [eI9845]; exact fzm_pp hy fiI9798 (by decide) (by decide)
              clear eI9845
              refine WP_iinc (ls' := [(0, _), (1, _), (2, _)]) dX11_begin_24 rfl (by decide) rfl ?_
              have hv9848 : (i9797 + Int32.ofInt (1)).toInt = i9797.toInt + (1) := ia_n rfl (by omega) (by omega)
              generalize i9797 + Int32.ofInt (1) = v9848 at hv9848 ⊢
              refine WP_goto 2 dX11_begin_27 rfl ?_
              exact WP_sub (fc rfl (fc rfl (fc rfl fn))) (ihlp2_9799 v9848 I9845 J9799 hI9845 fr9847 (by omega) (by omega) (by omega))
            · refine WP_aload_n dX11_begin_20 rfl ?_
              refine WP_iload_n dX11_begin_21 rfl ?_
              refine WQ_iconst (0) (0) dX11_begin_22 rfl rfl (fun v9849 hv9849 => ?_)
              refine WQ_iast dX11_begin_23 (ly_is hy 38 13 rfl) (ly_n hy 38 35 rfl) (by omega) (by omega) (fun I9850 eI9850 => ?_)
              have hI9850 : MW g n L I9850 := by rw [eI9850]; exact (mw_w hy hI9798 (c := 38) (mi_rr hy hI9798.1 (c := 38) (33) (33) (0) (1) (0) (by decide) (Or.inl (by decide)) (by rw [cl (n := i9797.toInt.toNat) (by omega)]; omega) (by decide) (fun _ => ⟨by omega, by omega⟩)) (by decide) (by decide) (Or.inl (by decide)))
              have e9851 : I9850 (ad g 0) 1 = L := by rw [eI9850, pp_ne _ _ (Or.inl (ly_ne hy (by decide) (by decide) (by decide)))]; exact e9801
              have fr9852 : fz 49 g [38] I I9850 := by rw [eI9850]; exact fzm_pp hy fiI9798 (by decide) (by decide)
              clear eI9850
              refine WP_iinc (ls' := [(0, _), (1, _), (2, _)]) dX11_begin_24 rfl (by decide) rfl ?_
              have hv9853 : (i9797 + Int32.ofInt (1)).toInt = i9797.toInt + (1) := ia_n rfl (by omega) (by omega)
              generalize i9797 + Int32.ofInt (1) = v9853 at hv9853 ⊢
              refine WP_goto 2 dX11_begin_27 rfl ?_
              exact WP_sub (fc rfl (fc rfl (fc rfl fn))) (ihlp2_9799 v9853 I9850 J9799 hI9850 fr9852 (by omega) (by omega) (by omega))
            · refine WP_aload_n dX11_begin_20 rfl ?_
              refine WP_iload_n dX11_begin_21 rfl ?_
              refine WQ_iconst (0) (0) dX11_begin_22 rfl rfl (fun v9854 hv9854 => ?_)
              refine WQ_iast dX11_begin_23 (ly_is hy 38 13 rfl) (ly_n hy 38 35 rfl) (by omega) (by omega) (fun I9855 eI9855 => ?_)
              have hI9855 : MW g n L I9855 := by rw [eI9855]; exact (mw_w hy hI9798 (c := 38) (mi_rr hy hI9798.1 (c := 38) (34) (34) (0) (0) (0) (by decide) (Or.inl (by decide)) (by rw [cl (n := i9797.toInt.toNat) (by omega)]; omega) (by decide) (fun h => absurd h (by decide))) (by decide) (by decide) (Or.inl (by decide)))
              have e9856 : I9855 (ad g 0) 1 = L := by rw [eI9855, pp_ne _ _ (Or.inl (ly_ne hy (by decide) (by decide) (by decide)))]; exact e9801
              have fr9857 : fz 49 g [38] I I9855 := by rw [eI9855]; exact fzm_pp hy fiI9798 (by decide) (by decide)
              clear eI9855
              refine WP_iinc (ls' := [(0, _), (1, _), (2, _)]) dX11_begin_24 rfl (by decide) rfl ?_
              have hv9858 : (i9797 + Int32.ofInt (1)).toInt = i9797.toInt + (1) := ia_n rfl (by omega) (by omega)
              generalize i9797 + Int32.ofInt (1) = v9858 at hv9858 ⊢
              refine WP_goto 2 dX11_begin_27 rfl ?_
              exact WP_sub (fc rfl (fc rfl (fc rfl fn))) (ihlp2_9799 v9858 I9855 J9799 hI9855 fr9857 (by omega) (by omega) (by omega))
  exact WP_sub (fc rfl (fc rfl (fc rfl fn))) (lp2_9799 _ v9796 I J hI fr0 (by omega) (by omega) (Nat.lt_succ_self _))
set_option maxHeartbeats 4000000 in
set_option maxRecDepth 100000 in
theorem sm_forgetWeeksw {g : GG} {n : Int} {L : Int32} (hy : Ly g)  {I : pI} {J : pJ} {R : pR} (hr : Rf g R) (hI : MW g n L I)   : SP g mX11_forgetWeeks [.ref (ad g 0)] I J R (fun r I' J' R' => (MW g n L I' ∧ R' = R ∧ fz 49 g [37] I I') ∧ r = none) := by
  refine SP_of ⟨by decide, rfl⟩ (Nat.le_of_ble_eq_true rfl) ?_
  have e9859 : I (ad g 0) 1 = L := hI.1.2
  have b9860 := BT_get hI.1.1 0 1 2 (0) (0) (900) (by decide) 1 (by decide) (by decide)
  rw [e9859] at b9860
  have fr0 : fz 49 g [37] I I := fz_rf
  refine WQ_iconst (0) (0) dX11_forgetWeeks_0 rfl rfl (fun v9861 hv9861 => ?_)
  refine WP_istore_n (ls' := [(0, _), (1, _)]) dX11_forgetWeeks_1 (by decide) rfl ?_
  have lp2_9864 : ∀ (mz : Nat) (i9862 : Int32) (I9863 : pI) (J9864 : pJ), MW g n L I9863 → fz 49 g [37] I I9863 → 0 ≤ i9862.toInt → i9862.toInt ≤ 28 → (29 - i9862.toInt).toNat < mz → WP g mX11_forgetWeeks 2 [(0, .ref (ad g 0)), (1, .int i9862)] [] I9863 J9864 R (fun r I' J' R' => (MW g n L I' ∧ R' = R ∧ fz 49 g [37] I I') ∧ r = none) := by
    intro mz
    induction mz with
    | zero =>
      intro i9862 I9863 J9864 hI9863 fiI9863 ai9862 bi9862 hmlp2_9864
      exact absurd hmlp2_9864 (Nat.not_lt_zero _)
    | succ mz ihlp2_9864 =>
      intro i9862 I9863 J9864 hI9863 fiI9863 ai9862 bi9862 hmlp2_9864
      have e9866 : I9863 (ad g 0) 1 = L := hI9863.1.2
      have b9867 := BT_get hI9863.1.1 0 1 2 (0) (0) (900) (by decide) 1 (by decide) (by decide)
      rw [e9866] at b9867
      refine WP_iload_n dX11_forgetWeeks_2 rfl ?_
      refine WQ_bipush (28) (28) dX11_forgetWeeks_3 rfl rfl (fun v9868 hv9868 => ?_)
      refine WQ_icmp_ge 21 dX11_forgetWeeks_5 rfl (fun c9868 => ?_) (fun c9868 => ?_)
      · exact WP_vret dX11_forgetWeeks_21 rfl ⟨⟨hI9863, rfl, fiI9863⟩, rfl⟩
      · refine WP_aload_n dX11_forgetWeeks_8 rfl ?_
        refine WP_getr dX11_forgetWeeks_9 fX11_279 rfl (ly_is hy 0 11 rfl) (rf hr 0 58 37 (by decide)) ?_
        refine WP_iload_n dX11_forgetWeeks_12 rfl ?_
        refine WQ_iconst (0) (0) dX11_forgetWeeks_13 rfl rfl (fun v9870 hv9870 => ?_)
        refine WQ_zast dX11_forgetWeeks_14 (ly_is hy 37 15 rfl) (ly_n hy 37 28 rfl) (by omega) (by omega) (fun I9871 v9872 eI9871 => ?_)
        have hI9871 : MW g n L I9871 := by rw [eI9871]; exact (mw_w hy hI9863 (c := 37) (mi_r0 hy hI9863.1 (c := 37) (by decide) (Or.inl (by decide)) (by decide)) (by decide) (by decide) (Or.inl (by decide)))
        have e9873 : I9871 (ad g 0) 1 = L := by rw [eI9871, pp_ne _ _ (Or.inl (ly_ne hy (by decide) (by decide) (by decide)))]; exact e9866
        have fr9874 : fz 49 g [37] I I9871 := by rw [eI9871]; exact fzm_pp hy fiI9863 (by decide) (by decide)
        clear eI9871
        refine WP_iinc (ls' := [(0, _), (1, _)]) dX11_forgetWeeks_15 rfl (by decide) rfl ?_
        have hv9875 : (i9862 + Int32.ofInt (1)).toInt = i9862.toInt + (1) := ia_n rfl (by omega) (by omega)
        generalize i9862 + Int32.ofInt (1) = v9875 at hv9875 ⊢
        refine WP_goto 2 dX11_forgetWeeks_18 rfl ?_
        exact WP_sub (fc rfl (fc rfl fn)) (ihlp2_9864 v9875 I9871 J9864 hI9871 fr9874 (by omega) (by omega) (by omega))
  exact WP_sub (fc rfl (fc rfl fn)) (lp2_9864 _ v9861 I J hI fr0 (by omega) (by omega) (Nat.lt_succ_self _))
