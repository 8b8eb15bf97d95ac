set_option maxHeartbeats 4000000 in
set_option maxRecDepth 100000 in
theorem sm_copyw_6_7 {g : GG} {n : Int} {L : Int32} (hy : Ly g)  {I : pI} {J : pJ} {R : pR} (hr : Rf g R) (hI : MW g n L I)   : SP g mX11_copy [.ref (ad g 6), .ref (ad g 7)] I J R (fun r I' J' R' => (MW g n L I' ∧ R' = R ∧ fz 49 g [6] I I' ∧ fz 49 g [] J J' ∧ fs g [] I I' ∧ (∀ q : Nat, q < 7 → I' (ad g 6) q = I (ad g 7) q)) ∧ r = none) := by
  refine SP_of ⟨by decide, rfl⟩ (Nat.le_of_ble_eq_true rfl) ?_
  have e10532 : I (ad g 0) 1 = L := hI.1.2
  have b10533 := BT_get hI.1.1 0 1 2 (0) (0) (900) (by decide) 1 (by decide) (by decide)
  rw [e10532] at b10533
  have fr0 : fz 49 g [6] I I := fz_rf
  have frj0 : fz 49 g [] J J := fz_rf
  have frq0 : fs g [] I I := fs_rf
  refine WQ_iconst (0) (0) dX11_copy_0 rfl rfl (fun v10534 hv10534 => ?_)
  refine WP_istore_n (ls' := [(0, _), (1, _), (2, _)]) dX11_copy_1 (by decide) rfl ?_
  have lp2_10538 : ∀ (mz : Nat) (i10535 : Int32) (I10536 : pI) (J10537 : pJ), MW g n L I10536 → fz 49 g [6] I I10536 → fz 49 g [] J J10537 → fs g [] I I10536 → 0 ≤ i10535.toInt → i10535.toInt ≤ 7 → (∀ q : Nat, (q : Int) < i10535.toInt → I10536 (ad g 6) q = I (ad g 7) q) → (8 - i10535.toInt).toNat < mz → WP g mX11_copy 2 [(0, .ref (ad g 6)), (1, .ref (ad g 7)), (2, .int i10535)] [] I10536 J10537 R (fun r I' J' R' => (MW g n L I' ∧ R' = R ∧ fz 49 g [6] I I' ∧ fz 49 g [] J J' ∧ fs g [] I I' ∧ (∀ q : Nat, q < 7 → I' (ad g 6) q = I (ad g 7) q)) ∧ r = none) := by
    intro mz
    induction mz with
    | zero =>
      intro i10535 I10536 J10537 hI10536 fiI10536 fjJ10537 fqI10536 ai10535 bi10535 PC_I10536_10537 hmlp2_10538
      exact absurd hmlp2_10538 (Nat.not_lt_zero _)
    | succ mz ihlp2_10538 =>
      intro i10535 I10536 J10537 hI10536 fiI10536 fjJ10537 fqI10536 ai10535 bi10535 PC_I10536_10537 hmlp2_10538
      have e10540 : I10536 (ad g 0) 1 = L := hI10536.1.2
      have b10541 := BT_get hI10536.1.1 0 1 2 (0) (0) (900) (by decide) 1 (by decide) (by decide)
      rw [e10540] at b10541
      refine WP_iload_n dX11_copy_2 rfl ?_
      refine WP_aload_n dX11_copy_3 rfl ?_
      refine WP_alen dX11_copy_4 (ly_is hy 6 13 rfl) (by decide) ?_
      rw [(ly_n hy 6 7 rfl)]
      obtain ⟨v10542, hv10542, ev10542⟩ : ∃ v : Int32, v.toInt = 7 ∧ nI 7 = v := ⟨_, nI_toInt (by decide), rfl⟩
      rw [ev10542]; clear ev10542
      refine WQ_icmp_ge 20 dX11_copy_5 rfl (fun c10542 => ?_) (fun c10542 => ?_)
      · exact WP_vret dX11_copy_20 rfl ⟨⟨hI10536, rfl, fiI10536, fjJ10537, fqI10536, (fun q hq => PC_I10536_10537 q (by omega))⟩, rfl⟩
      · refine WP_aload_n dX11_copy_8 rfl ?_
        refine WP_iload_n dX11_copy_9 rfl ?_
        refine WP_aload_n dX11_copy_10 rfl ?_
        refine WP_iload_n dX11_copy_11 rfl ?_
        refine WQ_iald dX11_copy_12 (ly_is hy 7 13 rfl) (ly_n hy 7 7 rfl) (by omega) (by omega) (fun q hq => BT_get hI10536.1.1 7 0 7 (0) (0) (900) (by decide) q (Nat.zero_le _) hq) (fun v10544 av10544 bv10544 ev10544 => ?_)
        refine WQ_iast dX11_copy_13 (ly_is hy 6 13 rfl) (ly_n hy 6 7 rfl) (by omega) (by omega) (fun I10545 eI10545 => ?_)
        have hI10545 : MW g n L I10545 := by rw [eI10545]; exact (mw_w hy hI10536 (c := 6) (mi_r hy hI10536.1 (c := 6) (0) (0) (900) (by decide) (Or.inl (by decide)) (by decide) (by omega) (by omega)) (by decide) (by decide) (Or.inl (by decide)))
        have e10546 : I10545 (ad g 0) 1 = L := by rw [eI10545, pp_ne _ _ (Or.inl (ly_ne hy (by decide) (by decide) (by decide)))]; exact e10540
        have e10547 : I10545 (ad g 7) i10535.toNatClampNeg = v10544 := by rw [eI10545, pp_ne _ _ (Or.inl (ly_ne hy (by decide) (by decide) (by decide)))]; exact ev10544
        have fr10548 : fs g [] I I10545 := by rw [eI10545]; exact fs_ppn hy fqI10536 (by decide) (by decide)
        have fr10549 : fz 49 g [6] I I10545 := by rw [eI10545]; exact fzm_pp hy fiI10536 (by decide) (by decide)
        have CI10545 : ∀ q : Nat, (q : Int) < i10535.toInt + 1 → I10545 (ad g 6) q = I (ad g 7) q := by
          intro q hq
          rw [eI10545, pp_at, cl (x := i10535) (n := i10535.toInt.toNat) (by omega)]
          split
          · rename_i z; rw [z, ← fz_at fiI10536 7 (by decide) (by decide), ← cl (x := i10535) (n := i10535.toInt.toNat) (by omega)]; exact ev10544.symm
          · exact PC_I10536_10537 q (by omega)
        clear eI10545
        refine WP_iinc (ls' := [(0, _), (1, _), (2, _)]) dX11_copy_14 rfl (by decide) rfl ?_
        have hv10550 : (i10535 + Int32.ofInt (1)).toInt = i10535.toInt + (1) := ia_n rfl (by omega) (by omega)
        generalize i10535 + Int32.ofInt (1) = v10550 at hv10550 ⊢
        refine WP_goto 2 dX11_copy_17 rfl ?_
        exact WP_sub (fc rfl (fc rfl (fc rfl fn))) (ihlp2_10538 v10550 I10545 J10537 hI10545 fr10549 fjJ10537 fr10548 (by omega) (by omega) (fun q hq => CI10545 q (by omega)) (by omega))
  exact WP_sub (fc rfl (fc rfl (fc rfl fn))) (lp2_10538 _ v10534 I J hI fr0 frj0 frq0 (by omega) (by omega) (fun q hq => by omega) (Nat.lt_succ_self _))
set_option maxHeartbeats 4000000 in
set_option maxRecDepth 100000 in
theorem sm_copyw_8_14 {g : GG} {n : Int} {L : Int32} (hy : Ly g)  {I : pI} {J : pJ} {R : pR} (hr : Rf g R) (hI : MW g n L I)   : SP g mX11_copy [.ref (ad g 8), .ref (ad g 14)] I J R (fun r I' J' R' => (MW g n L I' ∧ R' = R ∧ fz 49 g [8] I I' ∧ fz 49 g [] J J' ∧ fs g [] I I' ∧ (∀ q : Nat, q < 4 → I' (ad g 8) q = I (ad g 14) q)) ∧ r = none) := by
  refine SP_of ⟨by decide, rfl⟩ (Nat.le_of_ble_eq_true rfl) ?_
  have e10551 : I (ad g 0) 1 = L := hI.1.2
  have b10552 := BT_get hI.1.1 0 1 2 (0) (0) (900) (by decide) 1 (by decide) (by decide)
  rw [e10551] at b10552
  have fr0 : fz 49 g [8] I I := fz_rf
  have frj0 : fz 49 g [] J J := fz_rf
  have frq0 : fs g [] I I := fs_rf
  refine WQ_iconst (0) (0) dX11_copy_0 rfl rfl (fun v10553 hv10553 => ?_)
  refine WP_istore_n (ls' := [(0, _), (1, _), (2, _)]) dX11_copy_1 (by decide) rfl ?_
  have lp2_10557 : ∀ (mz : Nat) (i10554 : Int32) (I10555 : pI) (J10556 : pJ), MW g n L I10555 → fz 49 g [8] I I10555 → fz 49 g [] J J10556 → fs g [] I I10555 → 0 ≤ i10554.toInt → i10554.toInt ≤ 4 → (∀ q : Nat, (q : Int) < i10554.toInt → I10555 (ad g 8) q = I (ad g 14) q) → (5 - i10554.toInt).toNat < mz → WP g mX11_copy 2 [(0, .ref (ad g 8)), (1, .ref (ad g 14)), (2, .int i10554)] [] I10555 J10556 R (fun r I' J' R' => (MW g n L I' ∧ R' = R ∧ fz 49 g [8] I I' ∧ fz 49 g [] J J' ∧ fs g [] I I' ∧ (∀ q : Nat, q < 4 → I' (ad g 8) q = I (ad g 14) q)) ∧ r = none) := by
    intro mz
    induction mz with
    | zero =>
      intro i10554 I10555 J10556 hI10555 fiI10555 fjJ10556 fqI10555 ai10554 bi10554 PC_I10555_10556 hmlp2_10557
      exact absurd hmlp2_10557 (Nat.not_lt_zero _)
    | succ mz ihlp2_10557 =>
      intro i10554 I10555 J10556 hI10555 fiI10555 fjJ10556 fqI10555 ai10554 bi10554 PC_I10555_10556 hmlp2_10557
      have e10559 : I10555 (ad g 0) 1 = L := hI10555.1.2
      have b10560 := BT_get hI10555.1.1 0 1 2 (0) (0) (900) (by decide) 1 (by decide) (by decide)
      rw [e10559] at b10560
      refine WP_iload_n dX11_copy_2 rfl ?_
      refine WP_aload_n dX11_copy_3 rfl ?_
      refine WP_alen dX11_copy_4 (ly_is hy 8 13 rfl) (by decide) ?_
      rw [(ly_n hy 8 4 rfl)]
      obtain ⟨v10561, hv10561, ev10561⟩ : ∃ v : Int32, v.toInt = 4 ∧ nI 4 = v := ⟨_, nI_toInt (by decide), rfl⟩
      rw [ev10561]; clear ev10561
      refine WQ_icmp_ge 20 dX11_copy_5 rfl (fun c10561 => ?_) (fun c10561 => ?_)
      · exact WP_vret dX11_copy_20 rfl ⟨⟨hI10555, rfl, fiI10555, fjJ10556, fqI10555, (fun q hq => PC_I10555_10556 q (by omega))⟩, rfl⟩
      · refine WP_aload_n dX11_copy_8 rfl ?_
        refine WP_iload_n dX11_copy_9 rfl ?_
        refine WP_aload_n dX11_copy_10 rfl ?_
        refine WP_iload_n dX11_copy_11 rfl ?_
        refine WQ_iald dX11_copy_12 (ly_is hy 14 13 rfl) (ly_n hy 14 4 rfl) (by omega) (by omega) (fun q hq => BT_get hI10555.1.1 14 0 4 (0) (0) (99) (by decide) q (Nat.zero_le _) hq) (fun v10563 av10563 bv10563 ev10563 => ?_)
        refine WQ_iast dX11_copy_13 (ly_is hy 8 13 rfl) (ly_n hy 8 4 rfl) (by omega) (by omega) (fun I10564 eI10564 => ?_)
        have hI10564 : MW g n L I10564 := by rw [eI10564]; exact (mw_w hy hI10555 (c := 8) (mi_r hy hI10555.1 (c := 8) (0) (0) (99) (by decide) (Or.inl (by decide)) (by decide) (by omega) (by omega)) (by decide) (by decide) (Or.inl (by decide)))
        have e10565 : I10564 (ad g 0) 1 = L := by rw [eI10564, pp_ne _ _ (Or.inl (ly_ne hy (by decide) (by decide) (by decide)))]; exact e10559
        have e10566 : I10564 (ad g 14) i10554.toNatClampNeg = v10563 := by rw [eI10564, pp_ne _ _ (Or.inl (ly_ne hy (by decide) (by decide) (by decide)))]; exact ev10563
        have fr10567 : fs g [] I I10564 := by rw [eI10564]; exact fs_ppn hy fqI10555 (by decide) (by decide)
        have fr10568 : fz 49 g [8] I I10564 := by rw [eI10564]; exact fzm_pp hy fiI10555 (by decide) (by decide)
        have CI10564 : ∀ q : Nat, (q : Int) < i10554.toInt + 1 → I10564 (ad g 8) q = I (ad g 14) q := by
          intro q hq
          rw [eI10564, pp_at, cl (x := i10554) (n := i10554.toInt.toNat) (by omega)]
          split
          · rename_i z; rw [z, ← fz_at fiI10555 14 (by decide) (by decide), ← cl (x := i10554) (n := i10554.toInt.toNat) (by omega)]; exact ev10563.symm
          · exact PC_I10555_10556 q (by omega)
        clear eI10564
        refine WP_iinc (ls' := [(0, _), (1, _), (2, _)]) dX11_copy_14 rfl (by decide) rfl ?_
        have hv10569 : (i10554 + Int32.ofInt (1)).toInt = i10554.toInt + (1) := ia_n rfl (by omega) (by omega)
        generalize i10554 + Int32.ofInt (1) = v10569 at hv10569 ⊢
        refine WP_goto 2 dX11_copy_17 rfl ?_
        exact WP_sub (fc rfl (fc rfl (fc rfl fn))) (ihlp2_10557 v10569 I10564 J10556 hI10564 fr10568 fjJ10556 fr10567 (by omega) (by omega) (fun q hq => CI10564 q (by omega)) (by omega))
  exact WP_sub (fc rfl (fc rfl (fc rfl fn))) (lp2_10557 _ v10553 I J hI fr0 frj0 frq0 (by omega) (by omega) (fun q hq => by omega) (Nat.lt_succ_self _))
set_option maxHeartbeats 4000000 in
set_option maxRecDepth 100000 in
theorem sm_copyw_9_15 {g : GG} {n : Int} {L : Int32} (hy : Ly g)  {I : pI} {J : pJ} {R : pR} (hr : Rf g R) (hI : MW g n L I)   : SP g mX11_copy [.ref (ad g 9), .ref (ad g 15)] I J R (fun r I' J' R' => (MW g n L I' ∧ R' = R ∧ fz 49 g [9] I I' ∧ fz 49 g [] J J' ∧ fs g [] I I' ∧ (∀ q : Nat, q < 4 → I' (ad g 9) q = I (ad g 15) q)) ∧ r = none) := by
  refine SP_of ⟨by decide, rfl⟩ (Nat.le_of_ble_eq_true rfl) ?_
  have e10570 : I (ad g 0) 1 = L := hI.1.2
  have b10571 := BT_get hI.1.1 0 1 2 (0) (0) (900) (by decide) 1 (by decide) (by decide)
  rw [e10570] at b10571
  have fr0 : fz 49 g [9] I I := fz_rf
  have frj0 : fz 49 g [] J J := fz_rf
  have frq0 : fs g [] I I := fs_rf
  refine WQ_iconst (0) (0) dX11_copy_0 rfl rfl (fun v10572 hv10572 => ?_)
  refine WP_istore_n (ls' := [(0, _), (1, _), (2, _)]) dX11_copy_1 (by decide) rfl ?_
  have lp2_10576 : ∀ (mz : Nat) (i10573 : Int32) (I10574 : pI) (J10575 : pJ), MW g n L I10574 → fz 49 g [9] I I10574 → fz 49 g [] J J10575 → fs g [] I I10574 → 0 ≤ i10573.toInt → i10573.toInt ≤ 4 → (∀ q : Nat, (q : Int) < i10573.toInt → I10574 (ad g 9) q = I (ad g 15) q) → (5 - i10573.toInt).toNat < mz → WP g mX11_copy 2 [(0, .ref (ad g 9)), (1, .ref (ad g 15)), (2, .int i10573)] [] I10574 J10575 R (fun r I' J' R' => (MW g n L I' ∧ R' = R ∧ fz 49 g [9] I I' ∧ fz 49 g [] J J' ∧ fs g [] I I' ∧ (∀ q : Nat, q < 4 → I' (ad g 9) q = I (ad g 15) q)) ∧ r = none) := by
    intro mz
    induction mz with
    | zero =>
      intro i10573 I10574 J10575 hI10574 fiI10574 fjJ10575 fqI10574 ai10573 bi10573 PC_I10574_10575 hmlp2_10576
      exact absurd hmlp2_10576 (Nat.not_lt_zero _)
    | succ mz ihlp2_10576 =>
      intro i10573 I10574 J10575 hI10574 fiI10574 fjJ10575 fqI10574 ai10573 bi10573 PC_I10574_10575 hmlp2_10576
      have e10578 : I10574 (ad g 0) 1 = L := hI10574.1.2
      have b10579 := BT_get hI10574.1.1 0 1 2 (0) (0) (900) (by decide) 1 (by decide) (by decide)
      rw [e10578] at b10579
      refine WP_iload_n dX11_copy_2 rfl ?_
      refine WP_aload_n dX11_copy_3 rfl ?_
      refine WP_alen dX11_copy_4 (ly_is hy 9 13 rfl) (by decide) ?_
      rw [(ly_n hy 9 4 rfl)]
      obtain ⟨v10580, hv10580, ev10580⟩ : ∃ v : Int32, v.toInt = 4 ∧ nI 4 = v := ⟨_, nI_toInt (by decide), rfl⟩
      rw [ev10580]; clear ev10580
      refine WQ_icmp_ge 20 dX11_copy_5 rfl (fun c10580 => ?_) (fun c10580 => ?_)
      · exact WP_vret dX11_copy_20 rfl ⟨⟨hI10574, rfl, fiI10574, fjJ10575, fqI10574, (fun q hq => PC_I10574_10575 q (by omega))⟩, rfl⟩
      · refine WP_aload_n dX11_copy_8 rfl ?_
        refine WP_iload_n dX11_copy_9 rfl ?_
        refine WP_aload_n dX11_copy_10 rfl ?_
        refine WP_iload_n dX11_copy_11 rfl ?_
        refine WQ_iald dX11_copy_12 (ly_is hy 15 13 rfl) (ly_n hy 15 4 rfl) (by omega) (by omega) (fun q hq => BT_get hI10574.1.1 15 0 4 (0) (0) (1000) (by decide) q (Nat.zero_le _) hq) (fun v10582 av10582 bv10582 ev10582 => ?_)
        refine WQ_iast dX11_copy_13 (ly_is hy 9 13 rfl) (ly_n hy 9 4 rfl) (by omega) (by omega) (fun I10583 eI10583 => ?_)
        have hI10583 : MW g n L I10583 := by rw [eI10583]; exact (mw_w hy hI10574 (c := 9) (mi_r hy hI10574.1 (c := 9) (0) (0) (1000) (by decide) (Or.inl (by decide)) (by decide) (by omega) (by omega)) (by decide) (by decide) (Or.inl (by decide)))
        have e10584 : I10583 (ad g 0) 1 = L := by rw [eI10583, pp_ne _ _ (Or.inl (ly_ne hy (by decide) (by decide) (by decide)))]; exact e10578
        have e10585 : I10583 (ad g 15) i10573.toNatClampNeg = v10582 := by rw [eI10583, pp_ne _ _ (Or.inl (ly_ne hy (by decide) (by decide) (by decide)))]; exact ev10582
        have fr10586 : fs g [] I I10583 := by rw [eI10583]; exact fs_ppn hy fqI10574 (by decide) (by decide)
        have fr10587 : fz 49 g [9] I I10583 := by rw [eI10583]; exact fzm_pp hy fiI10574 (by decide) (by decide)
        have CI10583 : ∀ q : Nat, (q : Int) < i10573.toInt + 1 → I10583 (ad g 9) q = I (ad g 15) q := by
          intro q hq
          rw [eI10583, pp_at, cl (x := i10573) (n := i10573.toInt.toNat) (by omega)]
          split
          · rename_i z; rw [z, ← fz_at fiI10574 15 (by decide) (by decide), ← cl (x := i10573) (n := i10573.toInt.toNat) (by omega)]; exact ev10582.symm
          · exact PC_I10574_10575 q (by omega)
        clear eI10583
        refine WP_iinc (ls' := [(0, _), (1, _), (2, _)]) dX11_copy_14 rfl (by decide) rfl ?_
        have hv10588 : (i10573 + Int32.ofInt (1)).toInt = i10573.toInt + (1) := ia_n rfl (by omega) (by omega)
        generalize i10573 + Int32.ofInt (1) = v10588 at hv10588 ⊢
        refine WP_goto 2 dX11_copy_17 rfl ?_
        exact WP_sub (fc rfl (fc rfl (fc rfl fn))) (ihlp2_10576 v10588 I10583 J10575 hI10583 fr10587 fjJ10575 fr10586 (by omega) (by omega) (fun q hq => CI10583 q (by omega)) (by omega))
  exact WP_sub (fc rfl (fc rfl (fc rfl fn))) (lp2_10576 _ v10572 I J hI fr0 frj0 frq0 (by omega) (by omega) (fun q hq => by omega) (Nat.lt_succ_self _))
set_option maxHeartbeats 4000000 in
set_option maxRecDepth 100000 in
theorem sm_copyw_10_16 {g : GG} {n : Int} {L : Int32} (hy : Ly g)  {I : pI} {J : pJ} {R : pR} (hr : Rf g R) (hI : MW g n L I)   : SP g mX11_copy [.ref (ad g 10), .ref (ad g 16)] I J R (fun r I' J' R' => (MW g n L I' ∧ R' = R ∧ fz 49 g [10] I I' ∧ fz 49 g [] J J' ∧ fs g [] I I' ∧ (∀ q : Nat, q < 4 → I' (ad g 10) q = I (ad g 16) q)) ∧ r = none) := by
  refine SP_of ⟨by decide, rfl⟩ (Nat.le_of_ble_eq_true rfl) ?_
  have e10589 : I (ad g 0) 1 = L := hI.1.2
  have b10590 := BT_get hI.1.1 0 1 2 (0) (0) (900) (by decide) 1 (by decide) (by decide)
  rw [e10589] at b10590
  have fr0 : fz 49 g [10] I I := fz_rf
  have frj0 : fz 49 g [] J J := fz_rf
  have frq0 : fs g [] I I := fs_rf
  refine WQ_iconst (0) (0) dX11_copy_0 rfl rfl (fun v10591 hv10591 => ?_)
  refine WP_istore_n (ls' := [(0, _), (1, _), (2, _)]) dX11_copy_1 (by decide) rfl ?_
  have lp2_10595 : ∀ (mz : Nat) (i10592 : Int32) (I10593 : pI) (J10594 : pJ), MW g n L I10593 → fz 49 g [10] I I10593 → fz 49 g [] J J10594 → fs g [] I I10593 → 0 ≤ i10592.toInt → i10592.toInt ≤ 4 → (∀ q : Nat, (q : Int) < i10592.toInt → I10593 (ad g 10) q = I (ad g 16) q) → (5 - i10592.toInt).toNat < mz → WP g mX11_copy 2 [(0, .ref (ad g 10)), (1, .ref (ad g 16)), (2, .int i10592)] [] I10593 J10594 R (fun r I' J' R' => (MW g n L I' ∧ R' = R ∧ fz 49 g [10] I I' ∧ fz 49 g [] J J' ∧ fs g [] I I' ∧ (∀ q : Nat, q < 4 → I' (ad g 10) q = I (ad g 16) q)) ∧ r = none) := by
    intro mz
    induction mz with
    | zero =>
      intro i10592 I10593 J10594 hI10593 fiI10593 fjJ10594 fqI10593 ai10592 bi10592 PC_I10593_10594 hmlp2_10595
      exact absurd hmlp2_10595 (Nat.not_lt_zero _)
    | succ mz ihlp2_10595 =>
      intro i10592 I10593 J10594 hI10593 fiI10593 fjJ10594 fqI10593 ai10592 bi10592 PC_I10593_10594 hmlp2_10595
      have e10597 : I10593 (ad g 0) 1 = L := hI10593.1.2
      have b10598 := BT_get hI10593.1.1 0 1 2 (0) (0) (900) (by decide) 1 (by decide) (by decide)
      rw [e10597] at b10598
      refine WP_iload_n dX11_copy_2 rfl ?_
      refine WP_aload_n dX11_copy_3 rfl ?_
      refine WP_alen dX11_copy_4 (ly_is hy 10 13 rfl) (by decide) ?_
      rw [(ly_n hy 10 4 rfl)]
      obtain ⟨v10599, hv10599, ev10599⟩ : ∃ v : Int32, v.toInt = 4 ∧ nI 4 = v := ⟨_, nI_toInt (by decide), rfl⟩
      rw [ev10599]; clear ev10599
      refine WQ_icmp_ge 20 dX11_copy_5 rfl (fun c10599 => ?_) (fun c10599 => ?_)
      · exact WP_vret dX11_copy_20 rfl ⟨⟨hI10593, rfl, fiI10593, fjJ10594, fqI10593, (fun q hq => PC_I10593_10594 q (by omega))⟩, rfl⟩
      · refine WP_aload_n dX11_copy_8 rfl ?_
        refine WP_iload_n dX11_copy_9 rfl ?_
        refine WP_aload_n dX11_copy_10 rfl ?_
        refine WP_iload_n dX11_copy_11 rfl ?_
        refine WQ_iald dX11_copy_12 (ly_is hy 16 13 rfl) (ly_n hy 16 4 rfl) (by omega) (by omega) (fun q hq => BT_get hI10593.1.1 16 0 4 (0) (0) (60) (by decide) q (Nat.zero_le _) hq) (fun v10601 av10601 bv10601 ev10601 => ?_)
        refine WQ_iast dX11_copy_13 (ly_is hy 10 13 rfl) (ly_n hy 10 4 rfl) (by omega) (by omega) (fun I10602 eI10602 => ?_)
        have hI10602 : MW g n L I10602 := by rw [eI10602]; exact (mw_w hy hI10593 (c := 10) (mi_r hy hI10593.1 (c := 10) (0) (0) (60) (by decide) (Or.inl (by decide)) (by decide) (by omega) (by omega)) (by decide) (by decide) (Or.inl (by decide)))
        have e10603 : I10602 (ad g 0) 1 = L := by rw [eI10602, pp_ne _ _ (Or.inl (ly_ne hy (by decide) (by decide) (by decide)))]; exact e10597
        have e10604 : I10602 (ad g 16) i10592.toNatClampNeg = v10601 := by rw [eI10602, pp_ne _ _ (Or.inl (ly_ne hy (by decide) (by decide) (by decide)))]; exact ev10601
        have fr10605 : fs g [] I I10602 := by rw [eI10602]; exact fs_ppn hy fqI10593 (by decide) (by decide)
        have fr10606 : fz 49 g [10] I I10602 := by rw [eI10602]; exact fzm_pp hy fiI10593 (by decide) (by decide)
        have CI10602 : ∀ q : Nat, (q : Int) < i10592.toInt + 1 → I10602 (ad g 10) q = I (ad g 16) q := by
          intro q hq
          rw [eI10602, pp_at, cl (x := i10592) (n := i10592.toInt.toNat) (by omega)]
          split
          · rename_i z; rw [z, ← fz_at fiI10593 16 (by decide) (by decide), ← cl (x := i10592) (n := i10592.toInt.toNat) (by omega)]; exact ev10601.symm
          · exact PC_I10593_10594 q (by omega)
        clear eI10602
        refine WP_iinc (ls' := [(0, _), (1, _), (2, _)]) dX11_copy_14 rfl (by decide) rfl ?_
        have hv10607 : (i10592 + Int32.ofInt (1)).toInt = i10592.toInt + (1) := ia_n rfl (by omega) (by omega)
        generalize i10592 + Int32.ofInt (1) = v10607 at hv10607 ⊢
        refine WP_goto 2 dX11_copy_17 rfl ?_
        exact WP_sub (fc rfl (fc rfl (fc rfl fn))) (ihlp2_10595 v10607 I10602 J10594 hI10602 fr10606 fjJ10594 fr10605 (by omega) (by omega) (fun q hq => CI10602 q (by omega)) (by omega))
  exact WP_sub (fc rfl (fc rfl (fc rfl fn))) (lp2_10595 _ v10591 I J hI fr0 frj0 frq0 (by omega) (by omega) (fun q hq => by omega) (Nat.lt_succ_self _))
set_option maxHeartbeats 4000000 in
set_option maxRecDepth 100000 in
theorem sm_copyw_11_17 {g : GG} {n : Int} {L : Int32} (hy : Ly g)  {I : pI} {J : pJ} {R : pR} (hr : Rf g R) (hI : MW g n L I)   : SP g mX11_copy [.ref (ad g 11), .ref (ad g 17)] I J R (fun r I' J' R' => (MW g n L I' ∧ R' = R ∧ fz 49 g [11] I I' ∧ fz 49 g [] J J' ∧ fs g [] I I' ∧ (∀ q : Nat, q < 4 → I' (ad g 11) q = I (ad g 17) q)) ∧ r = none) := by
  refine SP_of ⟨by decide, rfl⟩ (Nat.le_of_ble_eq_true rfl) ?_
  have e10608 : I (ad g 0) 1 = L := hI.1.2
  have b10609 := BT_get hI.1.1 0 1 2 (0) (0) (900) (by decide) 1 (by decide) (by decide)
  rw [e10608] at b10609
  have fr0 : fz 49 g [11] I I := fz_rf
  have frj0 : fz 49 g [] J J := fz_rf
  have frq0 : fs g [] I I := fs_rf
  refine WQ_iconst (0) (0) dX11_copy_0 rfl rfl (fun v10610 hv10610 => ?_)
  refine WP_istore_n (ls' := [(0, _), (1, _), (2, _)]) dX11_copy_1 (by decide) rfl ?_
  have lp2_10614 : ∀ (mz : Nat) (i10611 : Int32) (I10612 : pI) (J10613 : pJ), MW g n L I10612 → fz 49 g [11] I I10612 → fz 49 g [] J J10613 → fs g [] I I10612 → 0 ≤ i10611.toInt → i10611.toInt ≤ 4 → (∀ q : Nat, (q : Int) < i10611.toInt → I10612 (ad g 11) q = I (ad g 17) q) → (5 - i10611.toInt).toNat < mz → WP g mX11_copy 2 [(0, .ref (ad g 11)), (1, .ref (ad g 17)), (2, .int i10611)] [] I10612 J10613 R (fun r I' J' R' => (MW g n L I' ∧ R' = R ∧ fz 49 g [11] I I' ∧ fz 49 g [] J J' ∧ fs g [] I I' ∧ (∀ q : Nat, q < 4 → I' (ad g 11) q = I (ad g 17) q)) ∧ r = none) := by
    intro mz
    induction mz with
    | zero =>
      intro i10611 I10612 J10613 hI10612 fiI10612 fjJ10613 fqI10612 ai10611 bi10611 PC_I10612_10613 hmlp2_10614
      exact absurd hmlp2_10614 (Nat.not_lt_zero _)
    | succ mz ihlp2_10614 =>
      intro i10611 I10612 J10613 hI10612 fiI10612 fjJ10613 fqI10612 ai10611 bi10611 PC_I10612_10613 hmlp2_10614
      have e10616 : I10612 (ad g 0) 1 = L := hI10612.1.2
      have b10617 := BT_get hI10612.1.1 0 1 2 (0) (0) (900) (by decide) 1 (by decide) (by decide)
      rw [e10616] at b10617
      refine WP_iload_n dX11_copy_2 rfl ?_
      refine WP_aload_n dX11_copy_3 rfl ?_
      refine WP_alen dX11_copy_4 (ly_is hy 11 13 rfl) (by decide) ?_
      rw [(ly_n hy 11 4 rfl)]
      obtain ⟨v10618, hv10618, ev10618⟩ : ∃ v : Int32, v.toInt = 4 ∧ nI 4 = v := ⟨_, nI_toInt (by decide), rfl⟩
      rw [ev10618]; clear ev10618
      refine WQ_icmp_ge 20 dX11_copy_5 rfl (fun c10618 => ?_) (fun c10618 => ?_)
      · exact WP_vret dX11_copy_20 rfl ⟨⟨hI10612, rfl, fiI10612, fjJ10613, fqI10612, (fun q hq => PC_I10612_10613 q (by omega))⟩, rfl⟩
      · refine WP_aload_n dX11_copy_8 rfl ?_
        refine WP_iload_n dX11_copy_9 rfl ?_
        refine WP_aload_n dX11_copy_10 rfl ?_
        refine WP_iload_n dX11_copy_11 rfl ?_
        refine WQ_iald dX11_copy_12 (ly_is hy 17 13 rfl) (ly_n hy 17 4 rfl) (by omega) (by omega) (fun q hq => BT_get hI10612.1.1 17 0 4 (0) (0) (127) (by decide) q (Nat.zero_le _) hq) (fun v10620 av10620 bv10620 ev10620 => ?_)
        refine WQ_iast dX11_copy_13 (ly_is hy 11 13 rfl) (ly_n hy 11 4 rfl) (by omega) (by omega) (fun I10621 eI10621 => ?_)
        have hI10621 : MW g n L I10621 := by rw [eI10621]; exact (mw_w hy hI10612 (c := 11) (mi_r hy hI10612.1 (c := 11) (0) (0) (127) (by decide) (Or.inl (by decide)) (by decide) (by omega) (by omega)) (by decide) (by decide) (Or.inl (by decide)))
        have e10622 : I10621 (ad g 0) 1 = L := by rw [eI10621, pp_ne _ _ (Or.inl (ly_ne hy (by decide) (by decide) (by decide)))]; exact e10616
        have e10623 : I10621 (ad g 17) i10611.toNatClampNeg = v10620 := by rw [eI10621, pp_ne _ _ (Or.inl (ly_ne hy (by decide) (by decide) (by decide)))]; exact ev10620
        have fr10624 : fs g [] I I10621 := by rw [eI10621]; exact fs_ppn hy fqI10612 (by decide) (by decide)
        have fr10625 : fz 49 g [11] I I10621 := by rw [eI10621]; exact fzm_pp hy fiI10612 (by decide) (by decide)
        have CI10621 : ∀ q : Nat, (q : Int) < i10611.toInt + 1 → I10621 (ad g 11) q = I (ad g 17) q := by
          intro q hq
          rw [eI10621, pp_at, cl (x := i10611) (n := i10611.toInt.toNat) (by omega)]
          split
          · rename_i z; rw [z, ← fz_at fiI10612 17 (by decide) (by decide), ← cl (x := i10611) (n := i10611.toInt.toNat) (by omega)]; exact ev10620.symm
          · exact PC_I10612_10613 q (by omega)
        clear eI10621
        refine WP_iinc (ls' := [(0, _), (1, _), (2, _)]) dX11_copy_14 rfl (by decide) rfl ?_
        have hv10626 : (i10611 + Int32.ofInt (1)).toInt = i10611.toInt + (1) := ia_n rfl (by omega) (by omega)
        generalize i10611 + Int32.ofInt (1) = v10626 at hv10626 ⊢
        refine WP_goto 2 dX11_copy_17 rfl ?_
        exact WP_sub (fc rfl (fc rfl (fc rfl fn))) (ihlp2_10614 v10626 I10621 J10613 hI10621 fr10625 fjJ10613 fr10624 (by omega) (by omega) (fun q hq => CI10621 q (by omega)) (by omega))
  exact WP_sub (fc rfl (fc rfl (fc rfl fn))) (lp2_10614 _ v10610 I J hI fr0 frj0 frq0 (by omega) (by omega) (fun q hq => by omega) (Nat.lt_succ_self _))
set_option maxHeartbeats 4000000 in
set_option maxRecDepth 100000 in
theorem sm_copyw_12_18 {g : GG} {n : Int} {L : Int32} (hy : Ly g)  {I : pI} {J : pJ} {R : pR} (hr : Rf g R) (hI : MW g n L I)   : SP g mX11_copy [.ref (ad g 12), .ref (ad g 18)] I J R (fun r I' J' R' => (MW g n L I' ∧ R' = R ∧ fz 49 g [12] I I' ∧ fz 49 g [] J J' ∧ fs g [] I I' ∧ (∀ q : Nat, q < 3 → I' (ad g 12) q = I (ad g 18) q)) ∧ r = none) := by
  refine SP_of ⟨by decide, rfl⟩ (Nat.le_of_ble_eq_true rfl) ?_
  have e10627 : I (ad g 0) 1 = L := hI.1.2
  have b10628 := BT_get hI.1.1 0 1 2 (0) (0) (900) (by decide) 1 (by decide) (by decide)
  rw [e10627] at b10628
  have fr0 : fz 49 g [12] I I := fz_rf
  have frj0 : fz 49 g [] J J := fz_rf
  have frq0 : fs g [] I I := fs_rf
  refine WQ_iconst (0) (0) dX11_copy_0 rfl rfl (fun v10629 hv10629 => ?_)
  refine WP_istore_n (ls' := [(0, _), (1, _), (2, _)]) dX11_copy_1 (by decide) rfl ?_
  have lp2_10633 : ∀ (mz : Nat) (i10630 : Int32) (I10631 : pI) (J10632 : pJ), MW g n L I10631 → fz 49 g [12] I I10631 → fz 49 g [] J J10632 → fs g [] I I10631 → 0 ≤ i10630.toInt → i10630.toInt ≤ 3 → (∀ q : Nat, (q : Int) < i10630.toInt → I10631 (ad g 12) q = I (ad g 18) q) → (4 - i10630.toInt).toNat < mz → WP g mX11_copy 2 [(0, .ref (ad g 12)), (1, .ref (ad g 18)), (2, .int i10630)] [] I10631 J10632 R (fun r I' J' R' => (MW g n L I' ∧ R' = R ∧ fz 49 g [12] I I' ∧ fz 49 g [] J J' ∧ fs g [] I I' ∧ (∀ q : Nat, q < 3 → I' (ad g 12) q = I (ad g 18) q)) ∧ r = none) := by
    intro mz
    induction mz with
    | zero =>
      intro i10630 I10631 J10632 hI10631 fiI10631 fjJ10632 fqI10631 ai10630 bi10630 PC_I10631_10632 hmlp2_10633
      exact absurd hmlp2_10633 (Nat.not_lt_zero _)
    | succ mz ihlp2_10633 =>
      intro i10630 I10631 J10632 hI10631 fiI10631 fjJ10632 fqI10631 ai10630 bi10630 PC_I10631_10632 hmlp2_10633
      have e10635 : I10631 (ad g 0) 1 = L := hI10631.1.2
      have b10636 := BT_get hI10631.1.1 0 1 2 (0) (0) (900) (by decide) 1 (by decide) (by decide)
      rw [e10635] at b10636
      refine WP_iload_n dX11_copy_2 rfl ?_
      refine WP_aload_n dX11_copy_3 rfl ?_
      refine WP_alen dX11_copy_4 (ly_is hy 12 13 rfl) (by decide) ?_
      rw [(ly_n hy 12 3 rfl)]
      obtain ⟨v10637, hv10637, ev10637⟩ : ∃ v : Int32, v.toInt = 3 ∧ nI 3 = v := ⟨_, nI_toInt (by decide), rfl⟩
      rw [ev10637]; clear ev10637
      refine WQ_icmp_ge 20 dX11_copy_5 rfl (fun c10637 => ?_) (fun c10637 => ?_)
      · exact WP_vret dX11_copy_20 rfl ⟨⟨hI10631, rfl, fiI10631, fjJ10632, fqI10631, (fun q hq => PC_I10631_10632 q (by omega))⟩, rfl⟩
      · refine WP_aload_n dX11_copy_8 rfl ?_
        refine WP_iload_n dX11_copy_9 rfl ?_
        refine WP_aload_n dX11_copy_10 rfl ?_
        refine WP_iload_n dX11_copy_11 rfl ?_
        refine WQ_iald dX11_copy_12 (ly_is hy 18 13 rfl) (ly_n hy 18 3 rfl) (by omega) (by omega) (fun q hq => BT_get hI10631.1.1 18 0 3 (0) (0) (1000) (by decide) q (Nat.zero_le _) hq) (fun v10639 av10639 bv10639 ev10639 => ?_)
        refine WQ_iast dX11_copy_13 (ly_is hy 12 13 rfl) (ly_n hy 12 3 rfl) (by omega) (by omega) (fun I10640 eI10640 => ?_)
        have hI10640 : MW g n L I10640 := by rw [eI10640]; exact (mw_w hy hI10631 (c := 12) (mi_r hy hI10631.1 (c := 12) (0) (0) (1000) (by decide) (Or.inl (by decide)) (by decide) (by omega) (by omega)) (by decide) (by decide) (Or.inl (by decide)))
        have e10641 : I10640 (ad g 0) 1 = L := by rw [eI10640, pp_ne _ _ (Or.inl (ly_ne hy (by decide) (by decide) (by decide)))]; exact e10635
        have e10642 : I10640 (ad g 18) i10630.toNatClampNeg = v10639 := by rw [eI10640, pp_ne _ _ (Or.inl (ly_ne hy (by decide) (by decide) (by decide)))]; exact ev10639
        have fr10643 : fs g [] I I10640 := by rw [eI10640]; exact fs_ppn hy fqI10631 (by decide) (by decide)
        have fr10644 : fz 49 g [12] I I10640 := by rw [eI10640]; exact fzm_pp hy fiI10631 (by decide) (by decide)
        have CI10640 : ∀ q : Nat, (q : Int) < i10630.toInt + 1 → I10640 (ad g 12) q = I (ad g 18) q := by
          intro q hq
          rw [eI10640, pp_at, cl (x := i10630) (n := i10630.toInt.toNat) (by omega)]
          split
          · rename_i z; rw [z, ← fz_at fiI10631 18 (by decide) (by decide), ← cl (x := i10630) (n := i10630.toInt.toNat) (by omega)]; exact ev10639.symm
          · exact PC_I10631_10632 q (by omega)
        clear eI10640
        refine WP_iinc (ls' := [(0, _), (1, _), (2, _)]) dX11_copy_14 rfl (by decide) rfl ?_
        have hv10645 : (i10630 + Int32.ofInt (1)).toInt = i10630.toInt + (1) := ia_n rfl (by omega) (by omega)
        generalize i10630 + Int32.ofInt (1) = v10645 at hv10645 ⊢
        refine WP_goto 2 dX11_copy_17 rfl ?_
        exact WP_sub (fc rfl (fc rfl (fc rfl fn))) (ihlp2_10633 v10645 I10640 J10632 hI10640 fr10644 fjJ10632 fr10643 (by omega) (by omega) (fun q hq => CI10640 q (by omega)) (by omega))
  exact WP_sub (fc rfl (fc rfl (fc rfl fn))) (lp2_10633 _ v10629 I J hI fr0 frj0 frq0 (by omega) (by omega) (fun q hq => by omega) (Nat.lt_succ_self _))
set_option maxHeartbeats 4000000 in
set_option maxRecDepth 100000 in
theorem sm_copyw_13_19 {g : GG} {n : Int} {L : Int32} (hy : Ly g)  {I : pI} {J : pJ} {R : pR} (hr : Rf g R) (hI : MW g n L I)   : SP g mX11_copy [.ref (ad g 13), .ref (ad g 19)] I J R (fun r I' J' R' => (MW g n L I' ∧ R' = R ∧ fz 49 g [13] I I' ∧ fz 49 g [] J J' ∧ fs g [] I I' ∧ (∀ q : Nat, q < 3 → I' (ad g 13) q = I (ad g 19) q)) ∧ r = none) := by
  refine SP_of ⟨by decide, rfl⟩ (Nat.le_of_ble_eq_true rfl) ?_
  have e10646 : I (ad g 0) 1 = L := hI.1.2
  have b10647 := BT_get hI.1.1 0 1 2 (0) (0) (900) (by decide) 1 (by decide) (by decide)
  rw [e10646] at b10647
  have fr0 : fz 49 g [13] I I := fz_rf
  have frj0 : fz 49 g [] J J := fz_rf
  have frq0 : fs g [] I I := fs_rf
  refine WQ_iconst (0) (0) dX11_copy_0 rfl rfl (fun v10648 hv10648 => ?_)
  refine WP_istore_n (ls' := [(0, _), (1, _), (2, _)]) dX11_copy_1 (by decide) rfl ?_
  have lp2_10652 : ∀ (mz : Nat) (i10649 : Int32) (I10650 : pI) (J10651 : pJ), MW g n L I10650 → fz 49 g [13] I I10650 → fz 49 g [] J J10651 → fs g [] I I10650 → 0 ≤ i10649.toInt → i10649.toInt ≤ 3 → (∀ q : Nat, (q : Int) < i10649.toInt → I10650 (ad g 13) q = I (ad g 19) q) → (4 - i10649.toInt).toNat < mz → WP g mX11_copy 2 [(0, .ref (ad g 13)), (1, .ref (ad g 19)), (2, .int i10649)] [] I10650 J10651 R (fun r I' J' R' => (MW g n L I' ∧ R' = R ∧ fz 49 g [13] I I' ∧ fz 49 g [] J J' ∧ fs g [] I I' ∧ (∀ q : Nat, q < 3 → I' (ad g 13) q = I (ad g 19) q)) ∧ r = none) := by
    intro mz
    induction mz with
    | zero =>
      intro i10649 I10650 J10651 hI10650 fiI10650 fjJ10651 fqI10650 ai10649 bi10649 PC_I10650_10651 hmlp2_10652
      exact absurd hmlp2_10652 (Nat.not_lt_zero _)
    | succ mz ihlp2_10652 =>
      intro i10649 I10650 J10651 hI10650 fiI10650 fjJ10651 fqI10650 ai10649 bi10649 PC_I10650_10651 hmlp2_10652
      have e10654 : I10650 (ad g 0) 1 = L := hI10650.1.2
      have b10655 := BT_get hI10650.1.1 0 1 2 (0) (0) (900) (by decide) 1 (by decide) (by decide)
      rw [e10654] at b10655
      refine WP_iload_n dX11_copy_2 rfl ?_
      refine WP_aload_n dX11_copy_3 rfl ?_
      refine WP_alen dX11_copy_4 (ly_is hy 13 13 rfl) (by decide) ?_
      rw [(ly_n hy 13 3 rfl)]
      obtain ⟨v10656, hv10656, ev10656⟩ : ∃ v : Int32, v.toInt = 3 ∧ nI 3 = v := ⟨_, nI_toInt (by decide), rfl⟩
      rw [ev10656]; clear ev10656
      refine WQ_icmp_ge 20 dX11_copy_5 rfl (fun c10656 => ?_) (fun c10656 => ?_)
      · exact WP_vret dX11_copy_20 rfl ⟨⟨hI10650, rfl, fiI10650, fjJ10651, fqI10650, (fun q hq => PC_I10650_10651 q (by omega))⟩, rfl⟩
      · refine WP_aload_n dX11_copy_8 rfl ?_
        refine WP_iload_n dX11_copy_9 rfl ?_
        refine WP_aload_n dX11_copy_10 rfl ?_
        refine WP_iload_n dX11_copy_11 rfl ?_
        refine WQ_iald dX11_copy_12 (ly_is hy 19 13 rfl) (ly_n hy 19 3 rfl) (by omega) (by omega) (fun q hq => BT_get hI10650.1.1 19 0 3 (0) (0) (9) (by decide) q (Nat.zero_le _) hq) (fun v10658 av10658 bv10658 ev10658 => ?_)
        refine WQ_iast dX11_copy_13 (ly_is hy 13 13 rfl) (ly_n hy 13 3 rfl) (by omega) (by omega) (fun I10659 eI10659 => ?_)
        have hI10659 : MW g n L I10659 := by rw [eI10659]; exact (mw_w hy hI10650 (c := 13) (mi_r hy hI10650.1 (c := 13) (0) (0) (9) (by decide) (Or.inl (by decide)) (by decide) (by omega) (by omega)) (by decide) (by decide) (Or.inl (by decide)))
        have e10660 : I10659 (ad g 0) 1 = L := by rw [eI10659, pp_ne _ _ (Or.inl (ly_ne hy (by decide) (by decide) (by decide)))]; exact e10654
        have e10661 : I10659 (ad g 19) i10649.toNatClampNeg = v10658 := by rw [eI10659, pp_ne _ _ (Or.inl (ly_ne hy (by decide) (by decide) (by decide)))]; exact ev10658
        have fr10662 : fs g [] I I10659 := by rw [eI10659]; exact fs_ppn hy fqI10650 (by decide) (by decide)
        have fr10663 : fz 49 g [13] I I10659 := by rw [eI10659]; exact fzm_pp hy fiI10650 (by decide) (by decide)
        have CI10659 : ∀ q : Nat, (q : Int) < i10649.toInt + 1 → I10659 (ad g 13) q = I (ad g 19) q := by
          intro q hq
          rw [eI10659, pp_at, cl (x := i10649) (n := i10649.toInt.toNat) (by omega)]
          split
          · rename_i z; rw [z, ← fz_at fiI10650 19 (by decide) (by decide), ← cl (x := i10649) (n := i10649.toInt.toNat) (by omega)]; exact ev10658.symm
          · exact PC_I10650_10651 q (by omega)
        clear eI10659
        refine WP_iinc (ls' := [(0, _), (1, _), (2, _)]) dX11_copy_14 rfl (by decide) rfl ?_
        have hv10664 : (i10649 + Int32.ofInt (1)).toInt = i10649.toInt + (1) := ia_n rfl (by omega) (by omega)
        generalize i10649 + Int32.ofInt (1) = v10664 at hv10664 ⊢
        refine WP_goto 2 dX11_copy_17 rfl ?_
        exact WP_sub (fc rfl (fc rfl (fc rfl fn))) (ihlp2_10652 v10664 I10659 J10651 hI10659 fr10663 fjJ10651 fr10662 (by omega) (by omega) (fun q hq => CI10659 q (by omega)) (by omega))
  exact WP_sub (fc rfl (fc rfl (fc rfl fn))) (lp2_10652 _ v10648 I J hI fr0 frj0 frq0 (by omega) (by omega) (fun q hq => by omega) (Nat.lt_succ_self _))
set_option maxHeartbeats 4000000 in
set_option maxRecDepth 100000 in
theorem sm_copyw_20_27 {g : GG} {n : Int} {L : Int32} (hy : Ly g)  {I : pI} {J : pJ} {R : pR} (hr : Rf g R) (hI : MW g n L I)   : SP g mX11_copy [.ref (ad g 20), .ref (ad g 27)] I J R (fun r I' J' R' => (MW g n L I' ∧ R' = R ∧ fz 49 g [20] I I' ∧ fz 49 g [] J J' ∧ fs g [] I I' ∧ (∀ q : Nat, q < 28 → I' (ad g 20) q = I (ad g 27) q)) ∧ r = none) := by
  refine SP_of ⟨by decide, rfl⟩ (Nat.le_of_ble_eq_true rfl) ?_
  have e10665 : I (ad g 0) 1 = L := hI.1.2
  have b10666 := BT_get hI.1.1 0 1 2 (0) (0) (900) (by decide) 1 (by decide) (by decide)
  rw [e10665] at b10666
  have fr0 : fz 49 g [20] I I := fz_rf
  have frj0 : fz 49 g [] J J := fz_rf
  have frq0 : fs g [] I I := fs_rf
  refine WQ_iconst (0) (0) dX11_copy_0 rfl rfl (fun v10667 hv10667 => ?_)
  refine WP_istore_n (ls' := [(0, _), (1, _), (2, _)]) dX11_copy_1 (by decide) rfl ?_
  have lp2_10671 : ∀ (mz : Nat) (i10668 : Int32) (I10669 : pI) (J10670 : pJ), MW g n L I10669 → fz 49 g [20] I I10669 → fz 49 g [] J J10670 → fs g [] I I10669 → 0 ≤ i10668.toInt → i10668.toInt ≤ 28 → (∀ q : Nat, (q : Int) < i10668.toInt → I10669 (ad g 20) q = I (ad g 27) q) → (29 - i10668.toInt).toNat < mz → WP g mX11_copy 2 [(0, .ref (ad g 20)), (1, .ref (ad g 27)), (2, .int i10668)] [] I10669 J10670 R (fun r I' J' R' => (MW g n L I' ∧ R' = R ∧ fz 49 g [20] I I' ∧ fz 49 g [] J J' ∧ fs g [] I I' ∧ (∀ q : Nat, q < 28 → I' (ad g 20) q = I (ad g 27) q)) ∧ r = none) := by
    intro mz
    induction mz with
    | zero =>
      intro i10668 I10669 J10670 hI10669 fiI10669 fjJ10670 fqI10669 ai10668 bi10668 PC_I10669_10670 hmlp2_10671
      exact absurd hmlp2_10671 (Nat.not_lt_zero _)
    | succ mz ihlp2_10671 =>
      intro i10668 I10669 J10670 hI10669 fiI10669 fjJ10670 fqI10669 ai10668 bi10668 PC_I10669_10670 hmlp2_10671
      have e10673 : I10669 (ad g 0) 1 = L := hI10669.1.2
      have b10674 := BT_get hI10669.1.1 0 1 2 (0) (0) (900) (by decide) 1 (by decide) (by decide)
      rw [e10673] at b10674
      refine WP_iload_n dX11_copy_2 rfl ?_
      refine WP_aload_n dX11_copy_3 rfl ?_
      refine WP_alen dX11_copy_4 (ly_is hy 20 13 rfl) (by decide) ?_
      rw [(ly_n hy 20 28 rfl)]
      obtain ⟨v10675, hv10675, ev10675⟩ : ∃ v : Int32, v.toInt = 28 ∧ nI 28 = v := ⟨_, nI_toInt (by decide), rfl⟩
      rw [ev10675]; clear ev10675
      refine WQ_icmp_ge 20 dX11_copy_5 rfl (fun c10675 => ?_) (fun c10675 => ?_)
      · exact WP_vret dX11_copy_20 rfl ⟨⟨hI10669, rfl, fiI10669, fjJ10670, fqI10669, (fun q hq => PC_I10669_10670 q (by omega))⟩, rfl⟩
      · refine WP_aload_n dX11_copy_8 rfl ?_
        refine WP_iload_n dX11_copy_9 rfl ?_
        refine WP_aload_n dX11_copy_10 rfl ?_
        refine WP_iload_n dX11_copy_11 rfl ?_
        refine WQ_iald dX11_copy_12 (ly_is hy 27 13 rfl) (ly_n hy 27 28 rfl) (by omega) (by omega) (fun q hq => BT_get hI10669.1.1 27 0 28 (0) (0) (20) (by decide) q (Nat.zero_le _) hq) (fun v10677 av10677 bv10677 ev10677 => ?_)
        refine WQ_iast dX11_copy_13 (ly_is hy 20 13 rfl) (ly_n hy 20 28 rfl) (by omega) (by omega) (fun I10678 eI10678 => ?_)
        have hI10678 : MW g n L I10678 := by rw [eI10678]; exact (mw_w hy hI10669 (c := 20) (mi_r hy hI10669.1 (c := 20) (0) (0) (20) (by decide) (Or.inl (by decide)) (by decide) (by omega) (by omega)) (by decide) (by decide) (Or.inl (by decide)))
        have e10679 : I10678 (ad g 0) 1 = L := by rw [eI10678, pp_ne _ _ (Or.inl (ly_ne hy (by decide) (by decide) (by decide)))]; exact e10673
        have e10680 : I10678 (ad g 27) i10668.toNatClampNeg = v10677 := by rw [eI10678, pp_ne _ _ (Or.inl (ly_ne hy (by decide) (by decide) (by decide)))]; exact ev10677
        have fr10681 : fs g [] I I10678 := by rw [eI10678]; exact fs_ppn hy fqI10669 (by decide) (by decide)
        have fr10682 : fz 49 g [20] I I10678 := by rw [eI10678]; exact fzm_pp hy fiI10669 (by decide) (by decide)
        have CI10678 : ∀ q : Nat, (q : Int) < i10668.toInt + 1 → I10678 (ad g 20) q = I (ad g 27) q := by
          intro q hq
          rw [eI10678, pp_at, cl (x := i10668) (n := i10668.toInt.toNat) (by omega)]
          split
          · rename_i z; rw [z, ← fz_at fiI10669 27 (by decide) (by decide), ← cl (x := i10668) (n := i10668.toInt.toNat) (by omega)]; exact ev10677.symm
          · exact PC_I10669_10670 q (by omega)
        clear eI10678
        refine WP_iinc (ls' := [(0, _), (1, _), (2, _)]) dX11_copy_14 rfl (by decide) rfl ?_
        have hv10683 : (i10668 + Int32.ofInt (1)).toInt = i10668.toInt + (1) := ia_n rfl (by omega) (by omega)
        generalize i10668 + Int32.ofInt (1) = v10683 at hv10683 ⊢
        refine WP_goto 2 dX11_copy_17 rfl ?_
        exact WP_sub (fc rfl (fc rfl (fc rfl fn))) (ihlp2_10671 v10683 I10678 J10670 hI10678 fr10682 fjJ10670 fr10681 (by omega) (by omega) (fun q hq => CI10678 q (by omega)) (by omega))
  exact WP_sub (fc rfl (fc rfl (fc rfl fn))) (lp2_10671 _ v10667 I J hI fr0 frj0 frq0 (by omega) (by omega) (fun q hq => by omega) (Nat.lt_succ_self _))
set_option maxHeartbeats 4000000 in
set_option maxRecDepth 100000 in
theorem sm_copyw_21_28 {g : GG} {n : Int} {L : Int32} (hy : Ly g)  {I : pI} {J : pJ} {R : pR} (hr : Rf g R) (hI : MW g n L I)   : SP g mX11_copy [.ref (ad g 21), .ref (ad g 28)] I J R (fun r I' J' R' => (MW g n L I' ∧ R' = R ∧ fz 49 g [21] I I' ∧ fz 49 g [] J J' ∧ fs g [] I I' ∧ (∀ q : Nat, q < 21 → I' (ad g 21) q = I (ad g 28) q)) ∧ r = none) := by
  refine SP_of ⟨by decide, rfl⟩ (Nat.le_of_ble_eq_true rfl) ?_
  have e10684 : I (ad g 0) 1 = L := hI.1.2
  have b10685 := BT_get hI.1.1 0 1 2 (0) (0) (900) (by decide) 1 (by decide) (by decide)
  rw [e10684] at b10685
  have fr0 : fz 49 g [21] I I := fz_rf
  have frj0 : fz 49 g [] J J := fz_rf
  have frq0 : fs g [] I I := fs_rf
  refine WQ_iconst (0) (0) dX11_copy_0 rfl rfl (fun v10686 hv10686 => ?_)
  refine WP_istore_n (ls' := [(0, _), (1, _), (2, _)]) dX11_copy_1 (by decide) rfl ?_
  have lp2_10690 : ∀ (mz : Nat) (i10687 : Int32) (I10688 : pI) (J10689 : pJ), MW g n L I10688 → fz 49 g [21] I I10688 → fz 49 g [] J J10689 → fs g [] I I10688 → 0 ≤ i10687.toInt → i10687.toInt ≤ 21 → (∀ q : Nat, (q : Int) < i10687.toInt → I10688 (ad g 21) q = I (ad g 28) q) → (22 - i10687.toInt).toNat < mz → WP g mX11_copy 2 [(0, .ref (ad g 21)), (1, .ref (ad g 28)), (2, .int i10687)] [] I10688 J10689 R (fun r I' J' R' => (MW g n L I' ∧ R' = R ∧ fz 49 g [21] I I' ∧ fz 49 g [] J J' ∧ fs g [] I I' ∧ (∀ q : Nat, q < 21 → I' (ad g 21) q = I (ad g 28) q)) ∧ r = none) := by
    intro mz
    induction mz with
    | zero =>
      intro i10687 I10688 J10689 hI10688 fiI10688 fjJ10689 fqI10688 ai10687 bi10687 PC_I10688_10689 hmlp2_10690
      exact absurd hmlp2_10690 (Nat.not_lt_zero _)
    | succ mz ihlp2_10690 =>
      intro i10687 I10688 J10689 hI10688 fiI10688 fjJ10689 fqI10688 ai10687 bi10687 PC_I10688_10689 hmlp2_10690
      have e10692 : I10688 (ad g 0) 1 = L := hI10688.1.2
      have b10693 := BT_get hI10688.1.1 0 1 2 (0) (0) (900) (by decide) 1 (by decide) (by decide)
      rw [e10692] at b10693
      refine WP_iload_n dX11_copy_2 rfl ?_
      refine WP_aload_n dX11_copy_3 rfl ?_
      refine WP_alen dX11_copy_4 (ly_is hy 21 13 rfl) (by decide) ?_
      rw [(ly_n hy 21 21 rfl)]
      obtain ⟨v10694, hv10694, ev10694⟩ : ∃ v : Int32, v.toInt = 21 ∧ nI 21 = v := ⟨_, nI_toInt (by decide), rfl⟩
      rw [ev10694]; clear ev10694
      refine WQ_icmp_ge 20 dX11_copy_5 rfl (fun c10694 => ?_) (fun c10694 => ?_)
      · exact WP_vret dX11_copy_20 rfl ⟨⟨hI10688, rfl, fiI10688, fjJ10689, fqI10688, (fun q hq => PC_I10688_10689 q (by omega))⟩, rfl⟩
      · refine WP_aload_n dX11_copy_8 rfl ?_
        refine WP_iload_n dX11_copy_9 rfl ?_
        refine WP_aload_n dX11_copy_10 rfl ?_
        refine WP_iload_n dX11_copy_11 rfl ?_
        refine WQ_iald dX11_copy_12 (ly_is hy 28 13 rfl) (ly_n hy 28 21 rfl) (by omega) (by omega) (fun q hq => BT_get hI10688.1.1 28 0 21 (0) (0) (20) (by decide) q (Nat.zero_le _) hq) (fun v10696 av10696 bv10696 ev10696 => ?_)
        refine WQ_iast dX11_copy_13 (ly_is hy 21 13 rfl) (ly_n hy 21 21 rfl) (by omega) (by omega) (fun I10697 eI10697 => ?_)
        have hI10697 : MW g n L I10697 := by rw [eI10697]; exact (mw_w hy hI10688 (c := 21) (mi_r hy hI10688.1 (c := 21) (0) (0) (20) (by decide) (Or.inl (by decide)) (by decide) (by omega) (by omega)) (by decide) (by decide) (Or.inl (by decide)))
        have e10698 : I10697 (ad g 0) 1 = L := by rw [eI10697, pp_ne _ _ (Or.inl (ly_ne hy (by decide) (by decide) (by decide)))]; exact e10692
        have e10699 : I10697 (ad g 28) i10687.toNatClampNeg = v10696 := by rw [eI10697, pp_ne _ _ (Or.inl (ly_ne hy (by decide) (by decide) (by decide)))]; exact ev10696
        have fr10700 : fs g [] I I10697 := by rw [eI10697]; exact fs_ppn hy fqI10688 (by decide) (by decide)
        have fr10701 : fz 49 g [21] I I10697 := by rw [eI10697]; exact fzm_pp hy fiI10688 (by decide) (by decide)
        have CI10697 : ∀ q : Nat, (q : Int) < i10687.toInt + 1 → I10697 (ad g 21) q = I (ad g 28) q := by
          intro q hq
          rw [eI10697, pp_at, cl (x := i10687) (n := i10687.toInt.toNat) (by omega)]
          split
          · rename_i z; rw [z, ← fz_at fiI10688 28 (by decide) (by decide), ← cl (x := i10687) (n := i10687.toInt.toNat) (by omega)]; exact ev10696.symm
          · exact PC_I10688_10689 q (by omega)
        clear eI10697
        refine WP_iinc (ls' := [(0, _), (1, _), (2, _)]) dX11_copy_14 rfl (by decide) rfl ?_
        have hv10702 : (i10687 + Int32.ofInt (1)).toInt = i10687.toInt + (1) := ia_n rfl (by omega) (by omega)
        generalize i10687 + Int32.ofInt (1) = v10702 at hv10702 ⊢
        refine WP_goto 2 dX11_copy_17 rfl ?_
        exact WP_sub (fc rfl (fc rfl (fc rfl fn))) (ihlp2_10690 v10702 I10697 J10689 hI10697 fr10701 fjJ10689 fr10700 (by omega) (by omega) (fun q hq => CI10697 q (by omega)) (by omega))
  exact WP_sub (fc rfl (fc rfl (fc rfl fn))) (lp2_10690 _ v10686 I J hI fr0 frj0 frq0 (by omega) (by omega) (fun q hq => by omega) (Nat.lt_succ_self _))
set_option maxHeartbeats 4000000 in
set_option maxRecDepth 100000 in
theorem sm_copyw_22_28 {g : GG} {n : Int} {L : Int32} (hy : Ly g)  {I : pI} {J : pJ} {R : pR} (hr : Rf g R) (hI : MW g n L I)   : SP g mX11_copy [.ref (ad g 22), .ref (ad g 28)] I J R (fun r I' J' R' => (MW g n L I' ∧ R' = R ∧ fz 49 g [22] I I' ∧ fz 49 g [] J J' ∧ fs g [] I I' ∧ (∀ q : Nat, q < 21 → I' (ad g 22) q = I (ad g 28) q)) ∧ r = none) := by
  refine SP_of ⟨by decide, rfl⟩ (Nat.le_of_ble_eq_true rfl) ?_
  have e10703 : I (ad g 0) 1 = L := hI.1.2
  have b10704 := BT_get hI.1.1 0 1 2 (0) (0) (900) (by decide) 1 (by decide) (by decide)
  rw [e10703] at b10704
  have fr0 : fz 49 g [22] I I := fz_rf
  have frj0 : fz 49 g [] J J := fz_rf
  have frq0 : fs g [] I I := fs_rf
  refine WQ_iconst (0) (0) dX11_copy_0 rfl rfl (fun v10705 hv10705 => ?_)
  refine WP_istore_n (ls' := [(0, _), (1, _), (2, _)]) dX11_copy_1 (by decide) rfl ?_
  have lp2_10709 : ∀ (mz : Nat) (i10706 : Int32) (I10707 : pI) (J10708 : pJ), MW g n L I10707 → fz 49 g [22] I I10707 → fz 49 g [] J J10708 → fs g [] I I10707 → 0 ≤ i10706.toInt → i10706.toInt ≤ 21 → (∀ q : Nat, (q : Int) < i10706.toInt → I10707 (ad g 22) q = I (ad g 28) q) → (22 - i10706.toInt).toNat < mz → WP g mX11_copy 2 [(0, .ref (ad g 22)), (1, .ref (ad g 28)), (2, .int i10706)] [] I10707 J10708 R (fun r I' J' R' => (MW g n L I' ∧ R' = R ∧ fz 49 g [22] I I' ∧ fz 49 g [] J J' ∧ fs g [] I I' ∧ (∀ q : Nat, q < 21 → I' (ad g 22) q = I (ad g 28) q)) ∧ r = none) := by
    intro mz
    induction mz with
    | zero =>
      intro i10706 I10707 J10708 hI10707 fiI10707 fjJ10708 fqI10707 ai10706 bi10706 PC_I10707_10708 hmlp2_10709
      exact absurd hmlp2_10709 (Nat.not_lt_zero _)
    | succ mz ihlp2_10709 =>
      intro i10706 I10707 J10708 hI10707 fiI10707 fjJ10708 fqI10707 ai10706 bi10706 PC_I10707_10708 hmlp2_10709
      have e10711 : I10707 (ad g 0) 1 = L := hI10707.1.2
      have b10712 := BT_get hI10707.1.1 0 1 2 (0) (0) (900) (by decide) 1 (by decide) (by decide)
      rw [e10711] at b10712
      refine WP_iload_n dX11_copy_2 rfl ?_
      refine WP_aload_n dX11_copy_3 rfl ?_
      refine WP_alen dX11_copy_4 (ly_is hy 22 13 rfl) (by decide) ?_
      rw [(ly_n hy 22 21 rfl)]
      obtain ⟨v10713, hv10713, ev10713⟩ : ∃ v : Int32, v.toInt = 21 ∧ nI 21 = v := ⟨_, nI_toInt (by decide), rfl⟩
      rw [ev10713]; clear ev10713
      refine WQ_icmp_ge 20 dX11_copy_5 rfl (fun c10713 => ?_) (fun c10713 => ?_)
      · exact WP_vret dX11_copy_20 rfl ⟨⟨hI10707, rfl, fiI10707, fjJ10708, fqI10707, (fun q hq => PC_I10707_10708 q (by omega))⟩, rfl⟩
      · refine WP_aload_n dX11_copy_8 rfl ?_
        refine WP_iload_n dX11_copy_9 rfl ?_
        refine WP_aload_n dX11_copy_10 rfl ?_
        refine WP_iload_n dX11_copy_11 rfl ?_
        refine WQ_iald dX11_copy_12 (ly_is hy 28 13 rfl) (ly_n hy 28 21 rfl) (by omega) (by omega) (fun q hq => BT_get hI10707.1.1 28 0 21 (0) (0) (20) (by decide) q (Nat.zero_le _) hq) (fun v10715 av10715 bv10715 ev10715 => ?_)
        refine WQ_iast dX11_copy_13 (ly_is hy 22 13 rfl) (ly_n hy 22 21 rfl) (by omega) (by omega) (fun I10716 eI10716 => ?_)
        have hI10716 : MW g n L I10716 := by rw [eI10716]; exact (mw_w hy hI10707 (c := 22) (mi_r hy hI10707.1 (c := 22) (0) (0) (20) (by decide) (Or.inl (by decide)) (by decide) (by omega) (by omega)) (by decide) (by decide) (Or.inl (by decide)))
        have e10717 : I10716 (ad g 0) 1 = L := by rw [eI10716, pp_ne _ _ (Or.inl (ly_ne hy (by decide) (by decide) (by decide)))]; exact e10711
        have e10718 : I10716 (ad g 28) i10706.toNatClampNeg = v10715 := by rw [eI10716, pp_ne _ _ (Or.inl (ly_ne hy (by decide) (by decide) (by decide)))]; exact ev10715
        have fr10719 : fs g [] I I10716 := by rw [eI10716]; exact fs_ppn hy fqI10707 (by decide) (by decide)
        have fr10720 : fz 49 g [22] I I10716 := by rw [eI10716]; exact fzm_pp hy fiI10707 (by decide) (by decide)
        have CI10716 : ∀ q : Nat, (q : Int) < i10706.toInt + 1 → I10716 (ad g 22) q = I (ad g 28) q := by
          intro q hq
          rw [eI10716, pp_at, cl (x := i10706) (n := i10706.toInt.toNat) (by omega)]
          split
          · rename_i z; rw [z, ← fz_at fiI10707 28 (by decide) (by decide), ← cl (x := i10706) (n := i10706.toInt.toNat) (by omega)]; exact ev10715.symm
          · exact PC_I10707_10708 q (by omega)
        clear eI10716
        refine WP_iinc (ls' := [(0, _), (1, _), (2, _)]) dX11_copy_14 rfl (by decide) rfl ?_
        have hv10721 : (i10706 + Int32.ofInt (1)).toInt = i10706.toInt + (1) := ia_n rfl (by omega) (by omega)
        generalize i10706 + Int32.ofInt (1) = v10721 at hv10721 ⊢
        refine WP_goto 2 dX11_copy_17 rfl ?_
        exact WP_sub (fc rfl (fc rfl (fc rfl fn))) (ihlp2_10709 v10721 I10716 J10708 hI10716 fr10720 fjJ10708 fr10719 (by omega) (by omega) (fun q hq => CI10716 q (by omega)) (by omega))
  exact WP_sub (fc rfl (fc rfl (fc rfl fn))) (lp2_10709 _ v10705 I J hI fr0 frj0 frq0 (by omega) (by omega) (fun q hq => by omega) (Nat.lt_succ_self _))
set_option maxHeartbeats 4000000 in
set_option maxRecDepth 100000 in
theorem sm_copyw_23_29 {g : GG} {n : Int} {L : Int32} (hy : Ly g)  {I : pI} {J : pJ} {R : pR} (hr : Rf g R) (hI : MW g n L I)   : SP g mX11_copy [.ref (ad g 23), .ref (ad g 29)] I J R (fun r I' J' R' => (MW g n L I' ∧ R' = R ∧ fz 49 g [23] I I' ∧ fz 49 g [] J J' ∧ fs g [] I I' ∧ (∀ q : Nat, q < 21 → I' (ad g 23) q = I (ad g 29) q)) ∧ r = none) := by
  refine SP_of ⟨by decide, rfl⟩ (Nat.le_of_ble_eq_true rfl) ?_
  have e10722 : I (ad g 0) 1 = L := hI.1.2
  have b10723 := BT_get hI.1.1 0 1 2 (0) (0) (900) (by decide) 1 (by decide) (by decide)
  rw [e10722] at b10723
  have fr0 : fz 49 g [23] I I := fz_rf
  have frj0 : fz 49 g [] J J := fz_rf
  have frq0 : fs g [] I I := fs_rf
  refine WQ_iconst (0) (0) dX11_copy_0 rfl rfl (fun v10724 hv10724 => ?_)
  refine WP_istore_n (ls' := [(0, _), (1, _), (2, _)]) dX11_copy_1 (by decide) rfl ?_
  have lp2_10728 : ∀ (mz : Nat) (i10725 : Int32) (I10726 : pI) (J10727 : pJ), MW g n L I10726 → fz 49 g [23] I I10726 → fz 49 g [] J J10727 → fs g [] I I10726 → 0 ≤ i10725.toInt → i10725.toInt ≤ 21 → (∀ q : Nat, (q : Int) < i10725.toInt → I10726 (ad g 23) q = I (ad g 29) q) → (22 - i10725.toInt).toNat < mz → WP g mX11_copy 2 [(0, .ref (ad g 23)), (1, .ref (ad g 29)), (2, .int i10725)] [] I10726 J10727 R (fun r I' J' R' => (MW g n L I' ∧ R' = R ∧ fz 49 g [23] I I' ∧ fz 49 g [] J J' ∧ fs g [] I I' ∧ (∀ q : Nat, q < 21 → I' (ad g 23) q = I (ad g 29) q)) ∧ r = none) := by
    intro mz
    induction mz with
    | zero =>
      intro i10725 I10726 J10727 hI10726 fiI10726 fjJ10727 fqI10726 ai10725 bi10725 PC_I10726_10727 hmlp2_10728
      exact absurd hmlp2_10728 (Nat.not_lt_zero _)
    | succ mz ihlp2_10728 =>
      intro i10725 I10726 J10727 hI10726 fiI10726 fjJ10727 fqI10726 ai10725 bi10725 PC_I10726_10727 hmlp2_10728
      have e10730 : I10726 (ad g 0) 1 = L := hI10726.1.2
      have b10731 := BT_get hI10726.1.1 0 1 2 (0) (0) (900) (by decide) 1 (by decide) (by decide)
      rw [e10730] at b10731
      refine WP_iload_n dX11_copy_2 rfl ?_
      refine WP_aload_n dX11_copy_3 rfl ?_
      refine WP_alen dX11_copy_4 (ly_is hy 23 13 rfl) (by decide) ?_
      rw [(ly_n hy 23 21 rfl)]
      obtain ⟨v10732, hv10732, ev10732⟩ : ∃ v : Int32, v.toInt = 21 ∧ nI 21 = v := ⟨_, nI_toInt (by decide), rfl⟩
      rw [ev10732]; clear ev10732
      refine WQ_icmp_ge 20 dX11_copy_5 rfl (fun c10732 => ?_) (fun c10732 => ?_)
      · exact WP_vret dX11_copy_20 rfl ⟨⟨hI10726, rfl, fiI10726, fjJ10727, fqI10726, (fun q hq => PC_I10726_10727 q (by omega))⟩, rfl⟩
      · refine WP_aload_n dX11_copy_8 rfl ?_
        refine WP_iload_n dX11_copy_9 rfl ?_
        refine WP_aload_n dX11_copy_10 rfl ?_
        refine WP_iload_n dX11_copy_11 rfl ?_
        refine WQ_iald dX11_copy_12 (ly_is hy 29 13 rfl) (ly_n hy 29 21 rfl) (by omega) (by omega) (fun q hq => BT_get hI10726.1.1 29 0 21 (-1) (0) (999) (by decide) q (Nat.zero_le _) hq) (fun v10734 av10734 bv10734 ev10734 => ?_)
        refine WQ_iast dX11_copy_13 (ly_is hy 23 13 rfl) (ly_n hy 23 21 rfl) (by omega) (by omega) (fun I10735 eI10735 => ?_)
        have hI10735 : MW g n L I10735 := by rw [eI10735]; exact (mw_w hy hI10726 (c := 23) (mi_r hy hI10726.1 (c := 23) (-1) (0) (999) (by decide) (Or.inl (by decide)) (by decide) (by omega) (by omega)) (by decide) (by decide) (Or.inl (by decide)))
        have e10736 : I10735 (ad g 0) 1 = L := by rw [eI10735, pp_ne _ _ (Or.inl (ly_ne hy (by decide) (by decide) (by decide)))]; exact e10730
        have e10737 : I10735 (ad g 29) i10725.toNatClampNeg = v10734 := by rw [eI10735, pp_ne _ _ (Or.inl (ly_ne hy (by decide) (by decide) (by decide)))]; exact ev10734
        have fr10738 : fs g [] I I10735 := by rw [eI10735]; exact fs_ppn hy fqI10726 (by decide) (by decide)
        have fr10739 : fz 49 g [23] I I10735 := by rw [eI10735]; exact fzm_pp hy fiI10726 (by decide) (by decide)
        have CI10735 : ∀ q : Nat, (q : Int) < i10725.toInt + 1 → I10735 (ad g 23) q = I (ad g 29) q := by
          intro q hq
          rw [eI10735, pp_at, cl (x := i10725) (n := i10725.toInt.toNat) (by omega)]
          split
          · rename_i z; rw [z, ← fz_at fiI10726 29 (by decide) (by decide), ← cl (x := i10725) (n := i10725.toInt.toNat) (by omega)]; exact ev10734.symm
          · exact PC_I10726_10727 q (by omega)
        clear eI10735
        refine WP_iinc (ls' := [(0, _), (1, _), (2, _)]) dX11_copy_14 rfl (by decide) rfl ?_
        have hv10740 : (i10725 + Int32.ofInt (1)).toInt = i10725.toInt + (1) := ia_n rfl (by omega) (by omega)
        generalize i10725 + Int32.ofInt (1) = v10740 at hv10740 ⊢
        refine WP_goto 2 dX11_copy_17 rfl ?_
        exact WP_sub (fc rfl (fc rfl (fc rfl fn))) (ihlp2_10728 v10740 I10735 J10727 hI10735 fr10739 fjJ10727 fr10738 (by omega) (by omega) (fun q hq => CI10735 q (by omega)) (by omega))
  exact WP_sub (fc rfl (fc rfl (fc rfl fn))) (lp2_10728 _ v10724 I J hI fr0 frj0 frq0 (by omega) (by omega) (fun q hq => by omega) (Nat.lt_succ_self _))
set_option maxHeartbeats 4000000 in
set_option maxRecDepth 100000 in
theorem sm_copyw_24_30 {g : GG} {n : Int} {L : Int32} (hy : Ly g)  {I : pI} {J : pJ} {R : pR} (hr : Rf g R) (hI : MW g n L I)   : SP g mX11_copy [.ref (ad g 24), .ref (ad g 30)] I J R (fun r I' J' R' => (MW g n L I' ∧ R' = R ∧ fz 49 g [24] I I' ∧ fz 49 g [] J J' ∧ fs g [] I I' ∧ (∀ q : Nat, q < 28 → I' (ad g 24) q = I (ad g 30) q)) ∧ r = none) := by
  refine SP_of ⟨by decide, rfl⟩ (Nat.le_of_ble_eq_true rfl) ?_
  have e10741 : I (ad g 0) 1 = L := hI.1.2
  have b10742 := BT_get hI.1.1 0 1 2 (0) (0) (900) (by decide) 1 (by decide) (by decide)
  rw [e10741] at b10742
  have fr0 : fz 49 g [24] I I := fz_rf
  have frj0 : fz 49 g [] J J := fz_rf
  have frq0 : fs g [] I I := fs_rf
  refine WQ_iconst (0) (0) dX11_copy_0 rfl rfl (fun v10743 hv10743 => ?_)
  refine WP_istore_n (ls' := [(0, _), (1, _), (2, _)]) dX11_copy_1 (by decide) rfl ?_
  have lp2_10747 : ∀ (mz : Nat) (i10744 : Int32) (I10745 : pI) (J10746 : pJ), MW g n L I10745 → fz 49 g [24] I I10745 → fz 49 g [] J J10746 → fs g [] I I10745 → 0 ≤ i10744.toInt → i10744.toInt ≤ 28 → (∀ q : Nat, (q : Int) < i10744.toInt → I10745 (ad g 24) q = I (ad g 30) q) → (29 - i10744.toInt).toNat < mz → WP g mX11_copy 2 [(0, .ref (ad g 24)), (1, .ref (ad g 30)), (2, .int i10744)] [] I10745 J10746 R (fun r I' J' R' => (MW g n L I' ∧ R' = R ∧ fz 49 g [24] I I' ∧ fz 49 g [] J J' ∧ fs g [] I I' ∧ (∀ q : Nat, q < 28 → I' (ad g 24) q = I (ad g 30) q)) ∧ r = none) := by
    intro mz
    induction mz with
    | zero =>
      intro i10744 I10745 J10746 hI10745 fiI10745 fjJ10746 fqI10745 ai10744 bi10744 PC_I10745_10746 hmlp2_10747
      exact absurd hmlp2_10747 (Nat.not_lt_zero _)
    | succ mz ihlp2_10747 =>
      intro i10744 I10745 J10746 hI10745 fiI10745 fjJ10746 fqI10745 ai10744 bi10744 PC_I10745_10746 hmlp2_10747
      have e10749 : I10745 (ad g 0) 1 = L := hI10745.1.2
      have b10750 := BT_get hI10745.1.1 0 1 2 (0) (0) (900) (by decide) 1 (by decide) (by decide)
      rw [e10749] at b10750
      refine WP_iload_n dX11_copy_2 rfl ?_
      refine WP_aload_n dX11_copy_3 rfl ?_
      refine WP_alen dX11_copy_4 (ly_is hy 24 13 rfl) (by decide) ?_
      rw [(ly_n hy 24 28 rfl)]
      obtain ⟨v10751, hv10751, ev10751⟩ : ∃ v : Int32, v.toInt = 28 ∧ nI 28 = v := ⟨_, nI_toInt (by decide), rfl⟩
      rw [ev10751]; clear ev10751
      refine WQ_icmp_ge 20 dX11_copy_5 rfl (fun c10751 => ?_) (fun c10751 => ?_)
      · exact WP_vret dX11_copy_20 rfl ⟨⟨hI10745, rfl, fiI10745, fjJ10746, fqI10745, (fun q hq => PC_I10745_10746 q (by omega))⟩, rfl⟩
      · refine WP_aload_n dX11_copy_8 rfl ?_
        refine WP_iload_n dX11_copy_9 rfl ?_
        refine WP_aload_n dX11_copy_10 rfl ?_
        refine WP_iload_n dX11_copy_11 rfl ?_
        refine WQ_iald dX11_copy_12 (ly_is hy 30 13 rfl) (ly_n hy 30 28 rfl) (by omega) (by omega) (fun q hq => BT_get hI10745.1.1 30 0 28 (-1) (0) (2) (by decide) q (Nat.zero_le _) hq) (fun v10753 av10753 bv10753 ev10753 => ?_)
        refine WQ_iast dX11_copy_13 (ly_is hy 24 13 rfl) (ly_n hy 24 28 rfl) (by omega) (by omega) (fun I10754 eI10754 => ?_)
        have hI10754 : MW g n L I10754 := by rw [eI10754]; exact (mw_w hy hI10745 (c := 24) (mi_r hy hI10745.1 (c := 24) (-1) (0) (2) (by decide) (Or.inl (by decide)) (by decide) (by omega) (by omega)) (by decide) (by decide) (Or.inl (by decide)))
        have e10755 : I10754 (ad g 0) 1 = L := by rw [eI10754, pp_ne _ _ (Or.inl (ly_ne hy (by decide) (by decide) (by decide)))]; exact e10749
        have e10756 : I10754 (ad g 30) i10744.toNatClampNeg = v10753 := by rw [eI10754, pp_ne _ _ (Or.inl (ly_ne hy (by decide) (by decide) (by decide)))]; exact ev10753
        have fr10757 : fs g [] I I10754 := by rw [eI10754]; exact fs_ppn hy fqI10745 (by decide) (by decide)
        have fr10758 : fz 49 g [24] I I10754 := by rw [eI10754]; exact fzm_pp hy fiI10745 (by decide) (by decide)
        have CI10754 : ∀ q : Nat, (q : Int) < i10744.toInt + 1 → I10754 (ad g 24) q = I (ad g 30) q := by
          intro q hq
          rw [eI10754, pp_at, cl (x := i10744) (n := i10744.toInt.toNat) (by omega)]
          split
          · rename_i z; rw [z, ← fz_at fiI10745 30 (by decide) (by decide), ← cl (x := i10744) (n := i10744.toInt.toNat) (by omega)]; exact ev10753.symm
          · exact PC_I10745_10746 q (by omega)
        clear eI10754
        refine WP_iinc (ls' := [(0, _), (1, _), (2, _)]) dX11_copy_14 rfl (by decide) rfl ?_
        have hv10759 : (i10744 + Int32.ofInt (1)).toInt = i10744.toInt + (1) := ia_n rfl (by omega) (by omega)
        generalize i10744 + Int32.ofInt (1) = v10759 at hv10759 ⊢
        refine WP_goto 2 dX11_copy_17 rfl ?_
        exact WP_sub (fc rfl (fc rfl (fc rfl fn))) (ihlp2_10747 v10759 I10754 J10746 hI10754 fr10758 fjJ10746 fr10757 (by omega) (by omega) (fun q hq => CI10754 q (by omega)) (by omega))
  exact WP_sub (fc rfl (fc rfl (fc rfl fn))) (lp2_10747 _ v10743 I J hI fr0 frj0 frq0 (by omega) (by omega) (fun q hq => by omega) (Nat.lt_succ_self _))
set_option maxHeartbeats 4000000 in
set_option maxRecDepth 100000 in
theorem sm_copyw_25_31 {g : GG} {n : Int} {L : Int32} (hy : Ly g)  {I : pI} {J : pJ} {R : pR} (hr : Rf g R) (hI : MW g n L I)   : SP g mX11_copy [.ref (ad g 25), .ref (ad g 31)] I J R (fun r I' J' R' => (MW g n L I' ∧ R' = R ∧ fz 49 g [25] I I' ∧ fz 49 g [] J J' ∧ fs g [] I I' ∧ (∀ q : Nat, q < 28 → I' (ad g 25) q = I (ad g 31) q)) ∧ r = none) := by
  refine SP_of ⟨by decide, rfl⟩ (Nat.le_of_ble_eq_true rfl) ?_
  have e10760 : I (ad g 0) 1 = L := hI.1.2
  have b10761 := BT_get hI.1.1 0 1 2 (0) (0) (900) (by decide) 1 (by decide) (by decide)
  rw [e10760] at b10761
  have fr0 : fz 49 g [25] I I := fz_rf
  have frj0 : fz 49 g [] J J := fz_rf
  have frq0 : fs g [] I I := fs_rf
  refine WQ_iconst (0) (0) dX11_copy_0 rfl rfl (fun v10762 hv10762 => ?_)
  refine WP_istore_n (ls' := [(0, _), (1, _), (2, _)]) dX11_copy_1 (by decide) rfl ?_
  have lp2_10766 : ∀ (mz : Nat) (i10763 : Int32) (I10764 : pI) (J10765 : pJ), MW g n L I10764 → fz 49 g [25] I I10764 → fz 49 g [] J J10765 → fs g [] I I10764 → 0 ≤ i10763.toInt → i10763.toInt ≤ 28 → (∀ q : Nat, (q : Int) < i10763.toInt → I10764 (ad g 25) q = I (ad g 31) q) → (29 - i10763.toInt).toNat < mz → WP g mX11_copy 2 [(0, .ref (ad g 25)), (1, .ref (ad g 31)), (2, .int i10763)] [] I10764 J10765 R (fun r I' J' R' => (MW g n L I' ∧ R' = R ∧ fz 49 g [25] I I' ∧ fz 49 g [] J J' ∧ fs g [] I I' ∧ (∀ q : Nat, q < 28 → I' (ad g 25) q = I (ad g 31) q)) ∧ r = none) := by
    intro mz
    induction mz with
    | zero =>
      intro i10763 I10764 J10765 hI10764 fiI10764 fjJ10765 fqI10764 ai10763 bi10763 PC_I10764_10765 hmlp2_10766
      exact absurd hmlp2_10766 (Nat.not_lt_zero _)
    | succ mz ihlp2_10766 =>
      intro i10763 I10764 J10765 hI10764 fiI10764 fjJ10765 fqI10764 ai10763 bi10763 PC_I10764_10765 hmlp2_10766
      have e10768 : I10764 (ad g 0) 1 = L := hI10764.1.2
      have b10769 := BT_get hI10764.1.1 0 1 2 (0) (0) (900) (by decide) 1 (by decide) (by decide)
      rw [e10768] at b10769
      refine WP_iload_n dX11_copy_2 rfl ?_
      refine WP_aload_n dX11_copy_3 rfl ?_
      refine WP_alen dX11_copy_4 (ly_is hy 25 13 rfl) (by decide) ?_
      rw [(ly_n hy 25 28 rfl)]
      obtain ⟨v10770, hv10770, ev10770⟩ : ∃ v : Int32, v.toInt = 28 ∧ nI 28 = v := ⟨_, nI_toInt (by decide), rfl⟩
      rw [ev10770]; clear ev10770
      refine WQ_icmp_ge 20 dX11_copy_5 rfl (fun c10770 => ?_) (fun c10770 => ?_)
      · exact WP_vret dX11_copy_20 rfl ⟨⟨hI10764, rfl, fiI10764, fjJ10765, fqI10764, (fun q hq => PC_I10764_10765 q (by omega))⟩, rfl⟩
      · refine WP_aload_n dX11_copy_8 rfl ?_
        refine WP_iload_n dX11_copy_9 rfl ?_
        refine WP_aload_n dX11_copy_10 rfl ?_
        refine WP_iload_n dX11_copy_11 rfl ?_
        refine WQ_iald dX11_copy_12 (ly_is hy 31 13 rfl) (ly_n hy 31 28 rfl) (by omega) (by omega) (fun q hq => BT_get hI10764.1.1 31 0 28 (0) (0) (3) (by decide) q (Nat.zero_le _) hq) (fun v10772 av10772 bv10772 ev10772 => ?_)
        refine WQ_iast dX11_copy_13 (ly_is hy 25 13 rfl) (ly_n hy 25 28 rfl) (by omega) (by omega) (fun I10773 eI10773 => ?_)
        have hI10773 : MW g n L I10773 := by rw [eI10773]; exact (mw_w hy hI10764 (c := 25) (mi_r hy hI10764.1 (c := 25) (0) (0) (3) (by decide) (Or.inl (by decide)) (by decide) (by omega) (by omega)) (by decide) (by decide) (Or.inl (by decide)))
        have e10774 : I10773 (ad g 0) 1 = L := by rw [eI10773, pp_ne _ _ (Or.inl (ly_ne hy (by decide) (by decide) (by decide)))]; exact e10768
        have e10775 : I10773 (ad g 31) i10763.toNatClampNeg = v10772 := by rw [eI10773, pp_ne _ _ (Or.inl (ly_ne hy (by decide) (by decide) (by decide)))]; exact ev10772
        have fr10776 : fs g [] I I10773 := by rw [eI10773]; exact fs_ppn hy fqI10764 (by decide) (by decide)
        have fr10777 : fz 49 g [25] I I10773 := by rw [eI10773]; exact fzm_pp hy fiI10764 (by decide) (by decide)
        have CI10773 : ∀ q : Nat, (q : Int) < i10763.toInt + 1 → I10773 (ad g 25) q = I (ad g 31) q := by
          intro q hq
          rw [eI10773, pp_at, cl (x := i10763) (n := i10763.toInt.toNat) (by omega)]
          split
          · rename_i z; rw [z, ← fz_at fiI10764 31 (by decide) (by decide), ← cl (x := i10763) (n := i10763.toInt.toNat) (by omega)]; exact ev10772.symm
          · exact PC_I10764_10765 q (by omega)
        clear eI10773
        refine WP_iinc (ls' := [(0, _), (1, _), (2, _)]) dX11_copy_14 rfl (by decide) rfl ?_
        have hv10778 : (i10763 + Int32.ofInt (1)).toInt = i10763.toInt + (1) := ia_n rfl (by omega) (by omega)
        generalize i10763 + Int32.ofInt (1) = v10778 at hv10778 ⊢
        refine WP_goto 2 dX11_copy_17 rfl ?_
        exact WP_sub (fc rfl (fc rfl (fc rfl fn))) (ihlp2_10766 v10778 I10773 J10765 hI10773 fr10777 fjJ10765 fr10776 (by omega) (by omega) (fun q hq => CI10773 q (by omega)) (by omega))
  exact WP_sub (fc rfl (fc rfl (fc rfl fn))) (lp2_10766 _ v10762 I J hI fr0 frj0 frq0 (by omega) (by omega) (fun q hq => by omega) (Nat.lt_succ_self _))
set_option maxHeartbeats 4000000 in
set_option maxRecDepth 100000 in
theorem sm_copyw_26_32 {g : GG} {n : Int} {L : Int32} (hy : Ly g)  {I : pI} {J : pJ} {R : pR} (hr : Rf g R) (hI : MW g n L I)   : SP g mX11_copy [.ref (ad g 26), .ref (ad g 32)] I J R (fun r I' J' R' => (MW g n L I' ∧ R' = R ∧ fz 49 g [26] I I' ∧ fz 49 g [] J J' ∧ fs g [] I I' ∧ (∀ q : Nat, q < 28 → I' (ad g 26) q = I (ad g 32) q)) ∧ r = none) := by
  refine SP_of ⟨by decide, rfl⟩ (Nat.le_of_ble_eq_true rfl) ?_
  have e10779 : I (ad g 0) 1 = L := hI.1.2
  have b10780 := BT_get hI.1.1 0 1 2 (0) (0) (900) (by decide) 1 (by decide) (by decide)
  rw [e10779] at b10780
  have fr0 : fz 49 g [26] I I := fz_rf
  have frj0 : fz 49 g [] J J := fz_rf
  have frq0 : fs g [] I I := fs_rf
  refine WQ_iconst (0) (0) dX11_copy_0 rfl rfl (fun v10781 hv10781 => ?_)
  refine WP_istore_n (ls' := [(0, _), (1, _), (2, _)]) dX11_copy_1 (by decide) rfl ?_
  have lp2_10785 : ∀ (mz : Nat) (i10782 : Int32) (I10783 : pI) (J10784 : pJ), MW g n L I10783 → fz 49 g [26] I I10783 → fz 49 g [] J J10784 → fs g [] I I10783 → 0 ≤ i10782.toInt → i10782.toInt ≤ 28 → (∀ q : Nat, (q : Int) < i10782.toInt → I10783 (ad g 26) q = I (ad g 32) q) → (29 - i10782.toInt).toNat < mz → WP g mX11_copy 2 [(0, .ref (ad g 26)), (1, .ref (ad g 32)), (2, .int i10782)] [] I10783 J10784 R (fun r I' J' R' => (MW g n L I' ∧ R' = R ∧ fz 49 g [26] I I' ∧ fz 49 g [] J J' ∧ fs g [] I I' ∧ (∀ q : Nat, q < 28 → I' (ad g 26) q = I (ad g 32) q)) ∧ r = none) := by
    intro mz
    induction mz with
    | zero =>
      intro i10782 I10783 J10784 hI10783 fiI10783 fjJ10784 fqI10783 ai10782 bi10782 PC_I10783_10784 hmlp2_10785
      exact absurd hmlp2_10785 (Nat.not_lt_zero _)
    | succ mz ihlp2_10785 =>
      intro i10782 I10783 J10784 hI10783 fiI10783 fjJ10784 fqI10783 ai10782 bi10782 PC_I10783_10784 hmlp2_10785
      have e10787 : I10783 (ad g 0) 1 = L := hI10783.1.2
      have b10788 := BT_get hI10783.1.1 0 1 2 (0) (0) (900) (by decide) 1 (by decide) (by decide)
      rw [e10787] at b10788
      refine WP_iload_n dX11_copy_2 rfl ?_
      refine WP_aload_n dX11_copy_3 rfl ?_
      refine WP_alen dX11_copy_4 (ly_is hy 26 13 rfl) (by decide) ?_
      rw [(ly_n hy 26 28 rfl)]
      obtain ⟨v10789, hv10789, ev10789⟩ : ∃ v : Int32, v.toInt = 28 ∧ nI 28 = v := ⟨_, nI_toInt (by decide), rfl⟩
      rw [ev10789]; clear ev10789
      refine WQ_icmp_ge 20 dX11_copy_5 rfl (fun c10789 => ?_) (fun c10789 => ?_)
      · exact WP_vret dX11_copy_20 rfl ⟨⟨hI10783, rfl, fiI10783, fjJ10784, fqI10783, (fun q hq => PC_I10783_10784 q (by omega))⟩, rfl⟩
      · refine WP_aload_n dX11_copy_8 rfl ?_
        refine WP_iload_n dX11_copy_9 rfl ?_
        refine WP_aload_n dX11_copy_10 rfl ?_
        refine WP_iload_n dX11_copy_11 rfl ?_
        refine WQ_iald dX11_copy_12 (ly_is hy 32 13 rfl) (ly_n hy 32 28 rfl) (by omega) (by omega) (fun q hq => BT_get hI10783.1.1 32 0 28 (0) (0) (99) (by decide) q (Nat.zero_le _) hq) (fun v10791 av10791 bv10791 ev10791 => ?_)
        refine WQ_iast dX11_copy_13 (ly_is hy 26 13 rfl) (ly_n hy 26 28 rfl) (by omega) (by omega) (fun I10792 eI10792 => ?_)
        have hI10792 : MW g n L I10792 := by rw [eI10792]; exact (mw_w hy hI10783 (c := 26) (mi_r hy hI10783.1 (c := 26) (0) (0) (99) (by decide) (Or.inl (by decide)) (by decide) (by omega) (by omega)) (by decide) (by decide) (Or.inl (by decide)))
        have e10793 : I10792 (ad g 0) 1 = L := by rw [eI10792, pp_ne _ _ (Or.inl (ly_ne hy (by decide) (by decide) (by decide)))]; exact e10787
        have e10794 : I10792 (ad g 32) i10782.toNatClampNeg = v10791 := by rw [eI10792, pp_ne _ _ (Or.inl (ly_ne hy (by decide) (by decide) (by decide)))]; exact ev10791
        have fr10795 : fs g [] I I10792 := by rw [eI10792]; exact fs_ppn hy fqI10783 (by decide) (by decide)
        have fr10796 : fz 49 g [26] I I10792 := by rw [eI10792]; exact fzm_pp hy fiI10783 (by decide) (by decide)
        have CI10792 : ∀ q : Nat, (q : Int) < i10782.toInt + 1 → I10792 (ad g 26) q = I (ad g 32) q := by
          intro q hq
          rw [eI10792, pp_at, cl (x := i10782) (n := i10782.toInt.toNat) (by omega)]
          split
          · rename_i z; rw [z, ← fz_at fiI10783 32 (by decide) (by decide), ← cl (x := i10782) (n := i10782.toInt.toNat) (by omega)]; exact ev10791.symm
          · exact PC_I10783_10784 q (by omega)
        clear eI10792
        refine WP_iinc (ls' := [(0, _), (1, _), (2, _)]) dX11_copy_14 rfl (by decide) rfl ?_
        have hv10797 : (i10782 + Int32.ofInt (1)).toInt = i10782.toInt + (1) := ia_n rfl (by omega) (by omega)
        generalize i10782 + Int32.ofInt (1) = v10797 at hv10797 ⊢
        refine WP_goto 2 dX11_copy_17 rfl ?_
        exact WP_sub (fc rfl (fc rfl (fc rfl fn))) (ihlp2_10785 v10797 I10792 J10784 hI10792 fr10796 fjJ10784 fr10795 (by omega) (by omega) (fun q hq => CI10792 q (by omega)) (by omega))
  exact WP_sub (fc rfl (fc rfl (fc rfl fn))) (lp2_10785 _ v10781 I J hI fr0 frj0 frq0 (by omega) (by omega) (fun q hq => by omega) (Nat.lt_succ_self _))
set_option maxHeartbeats 4000000 in
set_option maxRecDepth 100000 in
theorem sm_beginw_38 {g : GG} {n : Int} {L : Int32} (hy : Ly g)  {I : pI} {J : pJ} {R : pR} (hr : Rf g R) (hI : MW g n L I)   (hn : 0 ≤ n) : SP g mX11_begin [.ref (ad g 0), .ref (ad g 38)] I J R (fun r I' J' R' => (MW g n L I' ∧ R' = R ∧ fz 49 g [38] I I' ∧ fz 49 g [] J J' ∧ fs g [] I I') ∧ r = none) := by
  refine SP_of ⟨by decide, rfl⟩ (Nat.le_of_ble_eq_true rfl) ?_
  have e10798 : I (ad g 0) 1 = L := hI.1.2
  have b10799 := BT_get hI.1.1 0 1 2 (0) (0) (900) (by decide) 1 (by decide) (by decide)
  rw [e10798] at b10799
  have fr0 : fz 49 g [38] I I := fz_rf
  have frj0 : fz 49 g [] J J := fz_rf
  have frq0 : fs g [] I I := fs_rf
  refine WQ_iconst (0) (0) dX11_begin_0 rfl rfl (fun v10800 hv10800 => ?_)
  refine WP_istore_n (ls' := [(0, _), (1, _), (2, _)]) dX11_begin_1 (by decide) rfl ?_
  have lp2_10803 : ∀ (mz : Nat) (i10801 : Int32) (I10802 : pI) (J10803 : pJ), MW g n L I10802 → fz 49 g [38] I I10802 → fz 49 g [] J J10803 → fs g [] I I10802 → 0 ≤ i10801.toInt → i10801.toInt ≤ 35 → (36 - i10801.toInt).toNat < mz → WP g mX11_begin 2 [(0, .ref (ad g 0)), (1, .ref (ad g 38)), (2, .int i10801)] [] I10802 J10803 R (fun r I' J' R' => (MW g n L I' ∧ R' = R ∧ fz 49 g [38] I I' ∧ fz 49 g [] J J' ∧ fs g [] I I') ∧ r = none) := by
    intro mz
    induction mz with
    | zero =>
      intro i10801 I10802 J10803 hI10802 fiI10802 fjJ10803 fqI10802 ai10801 bi10801 hmlp2_10803
      exact absurd hmlp2_10803 (Nat.not_lt_zero _)
    | succ mz ihlp2_10803 =>
      intro i10801 I10802 J10803 hI10802 fiI10802 fjJ10803 fqI10802 ai10801 bi10801 hmlp2_10803
      have e10805 : I10802 (ad g 0) 1 = L := hI10802.1.2
      have b10806 := BT_get hI10802.1.1 0 1 2 (0) (0) (900) (by decide) 1 (by decide) (by decide)
      rw [e10805] at b10806
      refine WP_iload_n dX11_begin_2 rfl ?_
      refine WQ_bipush (35) (35) dX11_begin_3 rfl rfl (fun v10807 hv10807 => ?_)
      refine WQ_icmp_ge 30 dX11_begin_5 rfl (fun c10807 => ?_) (fun c10807 => ?_)
      · refine WQ_iconst (0) (0) dX11_begin_30 rfl rfl (fun v10809 hv10809 => ?_)
        refine WP_istore_n (ls' := [(0, _), (1, _), (2, _)]) dX11_begin_31 (by decide) rfl ?_
        have lp32_10812 : ∀ (mz : Nat) (i10810 : Int32) (I10811 : pI) (J10812 : pJ), MW g n L I10811 → fz 49 g [38] I I10811 → fz 49 g [] J J10812 → fs g [] I I10811 → 0 ≤ i10810.toInt → i10810.toInt ≤ 4 → (5 - i10810.toInt).toNat < mz → WP g mX11_begin 32 [(0, .ref (ad g 0)), (1, .ref (ad g 38)), (2, .int i10810)] [] I10811 J10812 R (fun r I' J' R' => (MW g n L I' ∧ R' = R ∧ fz 49 g [38] I I' ∧ fz 49 g [] J J' ∧ fs g [] I I') ∧ r = none) := by
          intro mz
          induction mz with
          | zero =>
            intro i10810 I10811 J10812 hI10811 fiI10811 fjJ10812 fqI10811 ai10810 bi10810 hmlp32_10812
            exact absurd hmlp32_10812 (Nat.not_lt_zero _)
          | succ mz ihlp32_10812 =>
            intro i10810 I10811 J10812 hI10811 fiI10811 fjJ10812 fqI10811 ai10810 bi10810 hmlp32_10812
            have e10814 : I10811 (ad g 0) 1 = L := hI10811.1.2
            have b10815 := BT_get hI10811.1.1 0 1 2 (0) (0) (900) (by decide) 1 (by decide) (by decide)
            rw [e10814] at b10815
            refine WP_iload_n dX11_begin_32 rfl ?_
            refine WP_aload_n dX11_begin_33 rfl ?_
            refine WQ_geti dX11_begin_34 fX11_329 rfl (ly_is hy 0 11 rfl) (BT_get hI10811.1.1 0 10 11 (0) (0) (4) (by decide) 10 (by decide) (by decide)) (fun v10816 ev10816 av10816 bv10816 => ?_)
            refine WQ_icmp_ge 57 dX11_begin_37 rfl (fun c10816 => ?_) (fun c10816 => ?_)
            · exact WP_vret dX11_begin_57 rfl ⟨⟨hI10811, rfl, fiI10811, fjJ10812, fqI10811⟩, rfl⟩
            · refine WP_aload_n dX11_begin_40 rfl ?_
              refine WQ_iconst (0) (0) dX11_begin_41 rfl rfl (fun v10818 hv10818 => ?_)
              refine WP_iload_n dX11_begin_42 rfl ?_
              refine WQ_iadd dX11_begin_43 (by omega) (by omega) (fun v10819 hv10819 => ?_)
              refine WP_aload_n dX11_begin_44 rfl ?_
              refine WP_getr dX11_begin_45 fX11_241 rfl (ly_is hy 0 11 rfl) (rf hr 0 28 10 (by decide)) ?_
              refine WP_iload_n dX11_begin_48 rfl ?_
              refine WQ_iald dX11_begin_49 (ly_is hy 10 13 rfl) (ly_n hy 10 4 rfl) (by omega) (by omega) (fun q hq => BT_get hI10811.1.1 10 0 4 (0) (0) (60) (by decide) q (Nat.zero_le _) hq) (fun v10820 av10820 bv10820 ev10820 => ?_)
              clear ev10820
              refine WQ_iast dX11_begin_50 (ly_is hy 38 13 rfl) (ly_n hy 38 35 rfl) (by omega) (by omega) (fun I10821 eI10821 => ?_)
              have hI10821 : MW g n L I10821 := by rw [eI10821]; exact (mw_w hy hI10811 (c := 38) (mi_rr hy hI10811.1 (c := 38) (0) (3) (0) (0) (60) (by decide) (Or.inl (by decide)) (by rw [cl (n := v10819.toInt.toNat) (by omega)]; omega) (by decide) (fun _ => ⟨by omega, by omega⟩)) (by decide) (by decide) (Or.inl (by decide)))
              have e10822 : I10821 (ad g 0) 1 = L := by rw [eI10821, pp_ne _ _ (Or.inl (ly_ne hy (by decide) (by decide) (by decide)))]; exact e10814
              have e10823 : I10821 (ad g 0) 10 = v10816 := by rw [eI10821, pp_ne _ _ (Or.inl (ly_ne hy (by decide) (by decide) (by decide)))]; exact ev10816
              have fr10824 : fs g [] I I10821 := by rw [eI10821]; exact fs_ppn hy fqI10811 (by decide) (by decide)
              have fr10825 : fz 49 g [38] I I10821 := by rw [eI10821]; exact fzm_pp hy fiI10811 (by decide) (by decide)
              clear eI10821
              refine WP_iinc (ls' := [(0, _), (1, _), (2, _)]) dX11_begin_51 rfl (by decide) rfl ?_
              have hv10826 : (i10810 + Int32.ofInt (1)).toInt = i10810.toInt + (1) := ia_n rfl (by omega) (by omega)
              generalize i10810 + Int32.ofInt (1) = v10826 at hv10826 ⊢
              refine WP_goto 32 dX11_begin_54 rfl ?_
              exact WP_sub (fc rfl (fc rfl (fc rfl fn))) (ihlp32_10812 v10826 I10821 J10812 hI10821 fr10825 fjJ10812 fr10824 (by omega) (by omega) (by omega))
        exact WP_sub (fc rfl (fc rfl (fc rfl fn))) (lp32_10812 _ v10809 I10802 J10803 hI10802 fiI10802 fjJ10803 fqI10802 (by omega) (by omega) (Nat.lt_succ_self _))
      · refine WP_iload_n dX11_begin_8 rfl ?_
        refine WQ_bipush (28) (28) dX11_begin_9 rfl rfl (fun v10827 hv10827 => ?_)
        refine WQ_icmp_lt 20 dX11_begin_11 rfl (fun c10827 => ?_) (fun c10827 => ?_)
        · rcases (show (0 ≤ i10801.toInt ∧ i10801.toInt ≤ 3) ∨ (4 ≤ i10801.toInt ∧ i10801.toInt ≤ 7) ∨ (8 ≤ i10801.toInt ∧ i10801.toInt ≤ 31) by omega) with ⟨k10829_0, k10829_1⟩ | ⟨k10829_2, k10829_3⟩ | ⟨k10829_4, k10829_5⟩
          · refine WP_aload_n dX11_begin_20 rfl ?_
            refine WP_iload_n dX11_begin_21 rfl ?_
            refine WQ_iconst (0) (0) dX11_begin_22 rfl rfl (fun v10830 hv10830 => ?_)
            refine WQ_iast dX11_begin_23 (ly_is hy 38 13 rfl) (ly_n hy 38 35 rfl) (by omega) (by omega) (fun I10831 eI10831 => ?_)
            have hI10831 : MW g n L I10831 := by rw [eI10831]; exact (mw_w hy hI10802 (c := 38) (mi_rr hy hI10802.1 (c := 38) (0) (3) (0) (0) (60) (by decide) (Or.inl (by decide)) (by rw [cl (n := i10801.toInt.toNat) (by omega)]; omega) (by decide) (fun _ => ⟨by omega, by omega⟩)) (by decide) (by decide) (Or.inl (by decide)))
            have e10832 : I10831 (ad g 0) 1 = L := by rw [eI10831, pp_ne _ _ (Or.inl (ly_ne hy (by decide) (by decide) (by decide)))]; exact e10805
            have fr10833 : fs g [] I I10831 := by rw [eI10831]; exact fs_ppn hy fqI10802 (by decide) (by decide)
            have fr10834 : fz 49 g [38] I I10831 := by rw [eI10831]; exact fzm_pp hy fiI10802 (by decide) (by decide)
            clear eI10831
            refine WP_iinc (ls' := [(0, _), (1, _), (2, _)]) dX11_begin_24 rfl (by decide) rfl ?_
            have hv10835 : (i10801 + Int32.ofInt (1)).toInt = i10801.toInt + (1) := ia_n rfl (by omega) (by omega)
            generalize i10801 + Int32.ofInt (1) = v10835 at hv10835 ⊢
            refine WP_goto 2 dX11_begin_27 rfl ?_
            exact WP_sub (fc rfl (fc rfl (fc rfl fn))) (ihlp2_10803 v10835 I10831 J10803 hI10831 fr10834 fjJ10803 fr10833 (by omega) (by omega) (by omega))
          · refine WP_aload_n dX11_begin_20 rfl ?_
            refine WP_iload_n dX11_begin_21 rfl ?_
            refine WQ_iconst (0) (0) dX11_begin_22 rfl rfl (fun v10836 hv10836 => ?_)
            refine WQ_iast dX11_begin_23 (ly_is hy 38 13 rfl) (ly_n hy 38 35 rfl) (by omega) (by omega) (fun I10837 eI10837 => ?_)
            have hI10837 : MW g n L I10837 := by rw [eI10837]; exact (mw_w hy hI10802 (c := 38) (mi_rr hy hI10802.1 (c := 38) (4) (7) (0) (0) (5) (by decide) (Or.inl (by decide)) (by rw [cl (n := i10801.toInt.toNat) (by omega)]; omega) (by decide) (fun _ => ⟨by omega, by omega⟩)) (by decide) (by decide) (Or.inl (by decide)))
            have e10838 : I10837 (ad g 0) 1 = L := by rw [eI10837, pp_ne _ _ (Or.inl (ly_ne hy (by decide) (by decide) (by decide)))]; exact e10805
            have fr10839 : fs g [] I I10837 := by rw [eI10837]; exact fs_ppn hy fqI10802 (by decide) (by decide)
            have fr10840 : fz 49 g [38] I I10837 := by rw [eI10837]; exact fzm_pp hy fiI10802 (by decide) (by decide)
            clear eI10837
            refine WP_iinc (ls' := [(0, _), (1, _), (2, _)]) dX11_begin_24 rfl (by decide) rfl ?_
            have hv10841 : (i10801 + Int32.ofInt (1)).toInt = i10801.toInt + (1) := ia_n rfl (by omega) (by omega)
            generalize i10801 + Int32.ofInt (1) = v10841 at hv10841 ⊢
            refine WP_goto 2 dX11_begin_27 rfl ?_
            exact WP_sub (fc rfl (fc rfl (fc rfl fn))) (ihlp2_10803 v10841 I10837 J10803 hI10837 fr10840 fjJ10803 fr10839 (by omega) (by omega) (by omega))
          · refine WP_aload_n dX11_begin_20 rfl ?_
            refine WP_iload_n dX11_begin_21 rfl ?_
            refine WQ_iconst (0) (0) dX11_begin_22 rfl rfl (fun v10842 hv10842 => ?_)
            refine WQ_iast dX11_begin_23 (ly_is hy 38 13 rfl) (ly_n hy 38 35 rfl) (by omega) (by omega) (fun I10843 eI10843 => ?_)
            have hI10843 : MW g n L I10843 := by rw [eI10843]; exact (mw_w hy hI10802 (c := 38) (mi_rr hy hI10802.1 (c := 38) (8) (27) (0) (0) (0) (by decide) (Or.inl (by decide)) (by rw [cl (n := i10801.toInt.toNat) (by omega)]; omega) (by decide) (fun h => absurd h (by decide))) (by decide) (by decide) (Or.inl (by decide)))
            have e10844 : I10843 (ad g 0) 1 = L := by rw [eI10843, pp_ne _ _ (Or.inl (ly_ne hy (by decide) (by decide) (by decide)))]; exact e10805
            have fr10845 : fs g [] I I10843 := by rw [eI10843]; exact fs_ppn hy fqI10802 (by decide) (by decide)
            have fr10846 : fz 49 g [38] I I10843 := by rw [eI10843]; exact fzm_pp hy fiI10802 (by decide) (by decide)
            clear eI10843
            refine WP_iinc (ls' := [(0, _), (1, _), (2, _)]) dX11_begin_24 rfl (by decide) rfl ?_
            have hv10847 : (i10801 + Int32.ofInt (1)).toInt = i10801.toInt + (1) := ia_n rfl (by omega) (by omega)
            generalize i10801 + Int32.ofInt (1) = v10847 at hv10847 ⊢
            refine WP_goto 2 dX11_begin_27 rfl ?_
            exact WP_sub (fc rfl (fc rfl (fc rfl fn))) (ihlp2_10803 v10847 I10843 J10803 hI10843 fr10846 fjJ10803 fr10845 (by omega) (by omega) (by omega))
        · refine WP_iload_n dX11_begin_14 rfl ?_
          refine WQ_bipush (32) (32) dX11_begin_15 rfl rfl (fun v10848 hv10848 => ?_)
          refine WQ_icmp_lt 24 dX11_begin_17 rfl (fun c10848 => ?_) (fun c10848 => ?_)
          · refine WP_iinc (ls' := [(0, _), (1, _), (2, _)]) dX11_begin_24 rfl (by decide) rfl ?_
            have hv10850 : (i10801 + Int32.ofInt (1)).toInt = i10801.toInt + (1) := ia_n rfl (by omega) (by omega)
            generalize i10801 + Int32.ofInt (1) = v10850 at hv10850 ⊢
            refine WP_goto 2 dX11_begin_27 rfl ?_
            exact WP_sub (fc rfl (fc rfl (fc rfl fn))) (ihlp2_10803 v10850 I10802 J10803 hI10802 fiI10802 fjJ10803 fqI10802 (by omega) (by omega) (by omega))
          · rcases (show (32 ≤ i10801.toInt ∧ i10801.toInt ≤ 32) ∨ (33 ≤ i10801.toInt ∧ i10801.toInt ≤ 33) ∨ (34 ≤ i10801.toInt ∧ i10801.toInt ≤ 34) by omega) with ⟨k10851_0, k10851_1⟩ | ⟨k10851_2, k10851_3⟩ | ⟨k10851_4, k10851_5⟩
            · refine WP_aload_n dX11_begin_20 rfl ?_
              refine WP_iload_n dX11_begin_21 rfl ?_
              refine WQ_iconst (0) (0) dX11_begin_22 rfl rfl (fun v10852 hv10852 => ?_)
              refine WQ_iast dX11_begin_23 (ly_is hy 38 13 rfl) (ly_n hy 38 35 rfl) (by omega) (by omega) (fun I10853 eI10853 => ?_)
              have hI10853 : MW g n L I10853 := by rw [eI10853]; exact (mw_w hy hI10802 (c := 38) (mi_rr hy hI10802.1 (c := 38) (32) (32) (0) (23760) (0) (by decide) (Or.inl (by decide)) (by rw [cl (n := i10801.toInt.toNat) (by omega)]; omega) (by decide) (fun _ => ⟨by omega, by omega⟩)) (by decide) (by decide) (Or.inl (by decide)))
              have e10854 : I10853 (ad g 0) 1 = L := by rw [eI10853, pp_ne _ _ (Or.inl (ly_ne hy (by decide) (by decide) (by decide)))]; exact e10805
              have fr10855 : fs g [] I I10853 := by rw [eI10853]; exact fs_ppn hy fqI10802 (by decide) (by decide)
              have fr10856 : fz 49 g [38] I I10853 := by rw [eI10853]; exact fzm_pp hy fiI10802 (by decide) (by decide)
              clear eI10853
              refine WP_iinc (ls' := [(0, _), (1, _), (2, _)]) dX11_begin_24 rfl (by decide) rfl ?_
              have hv10857 : (i10801 + Int32.ofInt (1)).toInt = i10801.toInt + (1) := ia_n rfl (by omega) (by omega)
              generalize i10801 + Int32.ofInt (1) = v10857 at hv10857 ⊢
              refine WP_goto 2 dX11_begin_27 rfl ?_
              exact WP_sub (fc rfl (fc rfl (fc rfl fn))) (ihlp2_10803 v10857 I10853 J10803 hI10853 fr10856 fjJ10803 fr10855 (by omega) (by omega) (by omega))
            · refine WP_aload_n dX11_begin_20 rfl ?_
              refine WP_iload_n dX11_begin_21 rfl ?_
              refine WQ_iconst (0) (0) dX11_begin_22 rfl rfl (fun v10858 hv10858 => ?_)
              refine WQ_iast dX11_begin_23 (ly_is hy 38 13 rfl) (ly_n hy 38 35 rfl) (by omega) (by omega) (fun I10859 eI10859 => ?_)
              have hI10859 : MW g n L I10859 := by rw [eI10859]; exact (mw_w hy hI10802 (c := 38) (mi_rr hy hI10802.1 (c := 38) (33) (33) (0) (1) (0) (by decide) (Or.inl (by decide)) (by rw [cl (n := i10801.toInt.toNat) (by omega)]; omega) (by decide) (fun _ => ⟨by omega, by omega⟩)) (by decide) (by decide) (Or.inl (by decide)))
              have e10860 : I10859 (ad g 0) 1 = L := by rw [eI10859, pp_ne _ _ (Or.inl (ly_ne hy (by decide) (by decide) (by decide)))]; exact e10805
              have fr10861 : fs g [] I I10859 := by rw [eI10859]; exact fs_ppn hy fqI10802 (by decide) (by decide)
              have fr10862 : fz 49 g [38] I I10859 := by rw [eI10859]; exact fzm_pp hy fiI10802 (by decide) (by decide)
              clear eI10859
              refine WP_iinc (ls' := [(0, _), (1, _), (2, _)]) dX11_begin_24 rfl (by decide) rfl ?_
              have hv10863 : (i10801 + Int32.ofInt (1)).toInt = i10801.toInt + (1) := ia_n rfl (by omega) (by omega)
              generalize i10801 + Int32.ofInt (1) = v10863 at hv10863 ⊢
              refine WP_goto 2 dX11_begin_27 rfl ?_
              exact WP_sub (fc rfl (fc rfl (fc rfl fn))) (ihlp2_10803 v10863 I10859 J10803 hI10859 fr10862 fjJ10803 fr10861 (by omega) (by omega) (by omega))
            · refine WP_aload_n dX11_begin_20 rfl ?_
              refine WP_iload_n dX11_begin_21 rfl ?_
              refine WQ_iconst (0) (0) dX11_begin_22 rfl rfl (fun v10864 hv10864 => ?_)
              refine WQ_iast dX11_begin_23 (ly_is hy 38 13 rfl) (ly_n hy 38 35 rfl) (by omega) (by omega) (fun I10865 eI10865 => ?_)
              have hI10865 : MW g n L I10865 := by rw [eI10865]; exact (mw_w hy hI10802 (c := 38) (mi_rr hy hI10802.1 (c := 38) (34) (34) (0) (0) (0) (by decide) (Or.inl (by decide)) (by rw [cl (n := i10801.toInt.toNat) (by omega)]; omega) (by decide) (fun h => absurd h (by decide))) (by decide) (by decide) (Or.inl (by decide)))
              have e10866 : I10865 (ad g 0) 1 = L := by rw [eI10865, pp_ne _ _ (Or.inl (ly_ne hy (by decide) (by decide) (by decide)))]; exact e10805
              have fr10867 : fs g [] I I10865 := by rw [eI10865]; exact fs_ppn hy fqI10802 (by decide) (by decide)
              have fr10868 : fz 49 g [38] I I10865 := by rw [eI10865]; exact fzm_pp hy fiI10802 (by decide) (by decide)
              clear eI10865
              refine WP_iinc (ls' := [(0, _), (1, _), (2, _)]) dX11_begin_24 rfl (by decide) rfl ?_
              have hv10869 : (i10801 + Int32.ofInt (1)).toInt = i10801.toInt + (1) := ia_n rfl (by omega) (by omega)
              generalize i10801 + Int32.ofInt (1) = v10869 at hv10869 ⊢
              refine WP_goto 2 dX11_begin_27 rfl ?_
              exact WP_sub (fc rfl (fc rfl (fc rfl fn))) (ihlp2_10803 v10869 I10865 J10803 hI10865 fr10868 fjJ10803 fr10867 (by omega) (by omega) (by omega))
  exact WP_sub (fc rfl (fc rfl (fc rfl fn))) (lp2_10803 _ v10800 I J hI fr0 frj0 frq0 (by omega) (by omega) (Nat.lt_succ_self _))
set_option maxHeartbeats 4000000 in
set_option maxRecDepth 100000 in
theorem sm_forgetWeeksw {g : GG} {n : Int} {L : Int32} (hy : Ly g)  {I : pI} {J : pJ} {R : pR} (hr : Rf g R) (hI : MW g n L I)   : SP g mX11_forgetWeeks [.ref (ad g 0)] I J R (fun r I' J' R' => (MW g n L I' ∧ R' = R ∧ fz 49 g [37] I I' ∧ fz 49 g [] J J' ∧ fs g [] I I') ∧ r = none) := by
  refine SP_of ⟨by decide, rfl⟩ (Nat.le_of_ble_eq_true rfl) ?_
  have e10870 : I (ad g 0) 1 = L := hI.1.2
  have b10871 := BT_get hI.1.1 0 1 2 (0) (0) (900) (by decide) 1 (by decide) (by decide)
  rw [e10870] at b10871
  have fr0 : fz 49 g [37] I I := fz_rf
  have frj0 : fz 49 g [] J J := fz_rf
  have frq0 : fs g [] I I := fs_rf
  refine WQ_iconst (0) (0) dX11_forgetWeeks_0 rfl rfl (fun v10872 hv10872 => ?_)
  refine WP_istore_n (ls' := [(0, _), (1, _)]) dX11_forgetWeeks_1 (by decide) rfl ?_
  have lp2_10875 : ∀ (mz : Nat) (i10873 : Int32) (I10874 : pI) (J10875 : pJ), MW g n L I10874 → fz 49 g [37] I I10874 → fz 49 g [] J J10875 → fs g [] I I10874 → 0 ≤ i10873.toInt → i10873.toInt ≤ 28 → (29 - i10873.toInt).toNat < mz → WP g mX11_forgetWeeks 2 [(0, .ref (ad g 0)), (1, .int i10873)] [] I10874 J10875 R (fun r I' J' R' => (MW g n L I' ∧ R' = R ∧ fz 49 g [37] I I' ∧ fz 49 g [] J J' ∧ fs g [] I I') ∧ r = none) := by
    intro mz
    induction mz with
    | zero =>
      intro i10873 I10874 J10875 hI10874 fiI10874 fjJ10875 fqI10874 ai10873 bi10873 hmlp2_10875
      exact absurd hmlp2_10875 (Nat.not_lt_zero _)
    | succ mz ihlp2_10875 =>
      intro i10873 I10874 J10875 hI10874 fiI10874 fjJ10875 fqI10874 ai10873 bi10873 hmlp2_10875
      have e10877 : I10874 (ad g 0) 1 = L := hI10874.1.2
      have b10878 := BT_get hI10874.1.1 0 1 2 (0) (0) (900) (by decide) 1 (by decide) (by decide)
      rw [e10877] at b10878
      refine WP_iload_n dX11_forgetWeeks_2 rfl ?_
      refine WQ_bipush (28) (28) dX11_forgetWeeks_3 rfl rfl (fun v10879 hv10879 => ?_)
      refine WQ_icmp_ge 21 dX11_forgetWeeks_5 rfl (fun c10879 => ?_) (fun c10879 => ?_)
      · exact WP_vret dX11_forgetWeeks_21 rfl ⟨⟨hI10874, rfl, fiI10874, fjJ10875, fqI10874⟩, rfl⟩
      · refine WP_aload_n dX11_forgetWeeks_8 rfl ?_
        refine WP_getr dX11_forgetWeeks_9 fX11_279 rfl (ly_is hy 0 11 rfl) (rf hr 0 58 37 (by decide)) ?_
        refine WP_iload_n dX11_forgetWeeks_12 rfl ?_
        refine WQ_iconst (0) (0) dX11_forgetWeeks_13 rfl rfl (fun v10881 hv10881 => ?_)
        refine WQ_zast dX11_forgetWeeks_14 (ly_is hy 37 15 rfl) (ly_n hy 37 28 rfl) (by omega) (by omega) (fun I10882 v10883 eI10882 => ?_)
        have hI10882 : MW g n L I10882 := by rw [eI10882]; exact (mw_w hy hI10874 (c := 37) (mi_r0 hy hI10874.1 (c := 37) (by decide) (Or.inl (by decide)) (by decide)) (by decide) (by decide) (Or.inl (by decide)))
        have e10884 : I10882 (ad g 0) 1 = L := by rw [eI10882, pp_ne _ _ (Or.inl (ly_ne hy (by decide) (by decide) (by decide)))]; exact e10877
        have fr10885 : fs g [] I I10882 := by rw [eI10882]; exact fs_ppn hy fqI10874 (by decide) (by decide)
        have fr10886 : fz 49 g [37] I I10882 := by rw [eI10882]; exact fzm_pp hy fiI10874 (by decide) (by decide)
        clear eI10882
        refine WP_iinc (ls' := [(0, _), (1, _)]) dX11_forgetWeeks_15 rfl (by decide) rfl ?_
        have hv10887 : (i10873 + Int32.ofInt (1)).toInt = i10873.toInt + (1) := ia_n rfl (by omega) (by omega)
        generalize i10873 + Int32.ofInt (1) = v10887 at hv10887 ⊢
        refine WP_goto 2 dX11_forgetWeeks_18 rfl ?_
        exact WP_sub (fc rfl (fc rfl fn)) (ihlp2_10875 v10887 I10882 J10875 hI10882 fr10886 fjJ10875 fr10885 (by omega) (by omega) (by omega))
  exact WP_sub (fc rfl (fc rfl fn)) (lp2_10875 _ v10872 I J hI fr0 frj0 frq0 (by omega) (by omega) (Nat.lt_succ_self _))
