set_option maxHeartbeats 4000000 in
set_option maxRecDepth 100000 in
theorem sx_fillJx_45 {g : GG} {n : Int} {L : Int32} (hy : LyX g)  {I : pI} {J : pJ} {R : pR} (hr : RfX g R) (hI : XI g n L I) (vv : Int64)  : SP g mJ7_fill_d0a16 [.ref (ad g 45), .long vv] I J R (fun r I' J' R' => (I' = I ∧ R' = R ∧ fz 74 g [45] J J' ∧ (∀ q : Nat, q < 168 → J' (ad g 45) q = vv)) ∧ r = none) := by
  refine SP_of ⟨by decide, rfl⟩ (Nat.le_of_ble_eq_true rfl) ?_
  have e7630 : I (ad g 1) 1 = L := hI.2
  have b7631 := BT_get hI.1 1 1 2 (0) (0) (900) (by decide) 1 (by decide) (by decide)
  rw [e7630] at b7631
  have frj0 : fz 74 g [45] J J := fz_rf
  refine WQ_iconst (0) (0) dJ7_fill_d0a16_0 rfl rfl (fun v7632 hv7632 => ?_)
  refine WP_istore_n (ls' := [(0, _), (1, _), (3, _)]) dJ7_fill_d0a16_1 (by decide) rfl ?_
  refine WP_aload_n dJ7_fill_d0a16_2 rfl ?_
  refine WP_alen dJ7_fill_d0a16_3 (lyx_is hy 45 14 rfl) (by decide) ?_
  rw [(lyx_n hy 45 168 rfl)]
  obtain ⟨v7633, hv7633, ev7633⟩ : ∃ v : Int32, v.toInt = 168 ∧ nI 168 = v := ⟨_, nI_toInt (by decide), rfl⟩
  rw [ev7633]; clear ev7633
  refine WP_istore (ls' := [(0, _), (1, _), (3, _), (4, _)]) dJ7_fill_d0a16_4 (by decide) rfl ?_
  have lp6_7636 : ∀ (mz : Nat) (i7634 : Int32) (J7635 : pJ), fz 74 g [45] J J7635 → 0 ≤ i7634.toInt → i7634.toInt ≤ 168 → i7634.toInt ≤ v7633.toInt → (∀ q : Nat, (q : Int) < i7634.toInt → J7635 (ad g 45) q = vv) → (169 - i7634.toInt).toNat < mz → WP g mJ7_fill_d0a16 6 [(0, .ref (ad g 45)), (1, .long vv), (3, .int i7634), (4, .int v7633)] [] I J7635 R (fun r I' J' R' => (I' = I ∧ R' = R ∧ fz 74 g [45] J J' ∧ (∀ q : Nat, q < 168 → J' (ad g 45) q = vv)) ∧ r = none) := by
    intro mz
    induction mz with
    | zero =>
      intro i7634 J7635 fjJ7635 ai7634 bi7634 j0_I_7635 PF_I_7635 hmlp6_7636
      exact absurd hmlp6_7636 (Nat.not_lt_zero _)
    | succ mz ihlp6_7636 =>
      intro i7634 J7635 fjJ7635 ai7634 bi7634 j0_I_7635 PF_I_7635 hmlp6_7636
      refine WP_iload_n dJ7_fill_d0a16_6 rfl ?_
      refine WP_iload dJ7_fill_d0a16_7 rfl ?_
      refine WQ_icmp_ge 22 dJ7_fill_d0a16_9 rfl (fun c7637 => ?_) (fun c7637 => ?_)
      · exact WP_vret dJ7_fill_d0a16_22 rfl ⟨⟨rfl, rfl, fjJ7635, (fun q hq => PF_I_7635 q (by omega))⟩, rfl⟩
      · refine WP_aload_n dJ7_fill_d0a16_12 rfl ?_
        refine WP_iload_n dJ7_fill_d0a16_13 rfl ?_
        refine WP_lload_n dJ7_fill_d0a16_14 rfl ?_
        refine WQ_last dJ7_fill_d0a16_15 (lyx_is hy 45 14 rfl) (lyx_n hy 45 168 rfl) (by omega) (by omega) (fun J7639 eJ7639 => ?_)
        have fr7640 : fz 74 g [45] J J7639 := by rw [eJ7639]; exact fzx_pp hy fjJ7635 (by decide) (by decide)
        have FJ7639 : ∀ q : Nat, (q : Int) < i7634.toInt + 1 → J7639 (ad g 45) q = vv := by
          intro q hq
          rw [eJ7639, pp_at, cl (x := i7634) (n := i7634.toInt.toNat) (by omega)]
          split
          · rfl
          · exact PF_I_7635 q (by omega)
        clear eJ7639
        refine WP_iinc (ls' := [(0, _), (1, _), (3, _), (4, _)]) dJ7_fill_d0a16_16 rfl (by decide) rfl ?_
        have hv7641 : (i7634 + Int32.ofInt (1)).toInt = i7634.toInt + (1) := ia_n rfl (by omega) (by omega)
        generalize i7634 + Int32.ofInt (1) = v7641 at hv7641 ⊢
        refine WP_goto 6 dJ7_fill_d0a16_19 rfl ?_
        exact WP_sub (fc rfl (fc rfl (fc rfl (fc rfl fn)))) (ihlp6_7636 v7641 J7639 fr7640 (by omega) (by omega) (by omega) (fun q hq => FJ7639 q (by omega)) (by omega))
  exact WP_sub (fc rfl (fc rfl (fc rfl (fc rfl fn)))) (lp6_7636 _ v7632 J frj0 (by omega) (by omega) (by omega) (fun q hq => by omega) (Nat.lt_succ_self _))
set_option maxHeartbeats 4000000 in
set_option maxRecDepth 100000 in
theorem sx_fillJx_46 {g : GG} {n : Int} {L : Int32} (hy : LyX g)  {I : pI} {J : pJ} {R : pR} (hr : RfX g R) (hI : XI g n L I) (vv : Int64)  : SP g mJ7_fill_d0a16 [.ref (ad g 46), .long vv] I J R (fun r I' J' R' => (I' = I ∧ R' = R ∧ fz 74 g [46] J J' ∧ (∀ q : Nat, q < 6 → J' (ad g 46) q = vv)) ∧ r = none) := by
  refine SP_of ⟨by decide, rfl⟩ (Nat.le_of_ble_eq_true rfl) ?_
  have e7642 : I (ad g 1) 1 = L := hI.2
  have b7643 := BT_get hI.1 1 1 2 (0) (0) (900) (by decide) 1 (by decide) (by decide)
  rw [e7642] at b7643
  have frj0 : fz 74 g [46] J J := fz_rf
  refine WQ_iconst (0) (0) dJ7_fill_d0a16_0 rfl rfl (fun v7644 hv7644 => ?_)
  refine WP_istore_n (ls' := [(0, _), (1, _), (3, _)]) dJ7_fill_d0a16_1 (by decide) rfl ?_
  refine WP_aload_n dJ7_fill_d0a16_2 rfl ?_
  refine WP_alen dJ7_fill_d0a16_3 (lyx_is hy 46 14 rfl) (by decide) ?_
  rw [(lyx_n hy 46 6 rfl)]
  obtain ⟨v7645, hv7645, ev7645⟩ : ∃ v : Int32, v.toInt = 6 ∧ nI 6 = v := ⟨_, nI_toInt (by decide), rfl⟩
  rw [ev7645]; clear ev7645
  refine WP_istore (ls' := [(0, _), (1, _), (3, _), (4, _)]) dJ7_fill_d0a16_4 (by decide) rfl ?_
  have lp6_7648 : ∀ (mz : Nat) (i7646 : Int32) (J7647 : pJ), fz 74 g [46] J J7647 → 0 ≤ i7646.toInt → i7646.toInt ≤ 6 → i7646.toInt ≤ v7645.toInt → (∀ q : Nat, (q : Int) < i7646.toInt → J7647 (ad g 46) q = vv) → (7 - i7646.toInt).toNat < mz → WP g mJ7_fill_d0a16 6 [(0, .ref (ad g 46)), (1, .long vv), (3, .int i7646), (4, .int v7645)] [] I J7647 R (fun r I' J' R' => (I' = I ∧ R' = R ∧ fz 74 g [46] J J' ∧ (∀ q : Nat, q < 6 → J' (ad g 46) q = vv)) ∧ r = none) := by
    intro mz
    induction mz with
    | zero =>
      intro i7646 J7647 fjJ7647 ai7646 bi7646 j0_I_7647 PF_I_7647 hmlp6_7648
      exact absurd hmlp6_7648 (Nat.not_lt_zero _)
    | succ mz ihlp6_7648 =>
      intro i7646 J7647 fjJ7647 ai7646 bi7646 j0_I_7647 PF_I_7647 hmlp6_7648
      refine WP_iload_n dJ7_fill_d0a16_6 rfl ?_
      refine WP_iload dJ7_fill_d0a16_7 rfl ?_
      refine WQ_icmp_ge 22 dJ7_fill_d0a16_9 rfl (fun c7649 => ?_) (fun c7649 => ?_)
      · exact WP_vret dJ7_fill_d0a16_22 rfl ⟨⟨rfl, rfl, fjJ7647, (fun q hq => PF_I_7647 q (by omega))⟩, rfl⟩
      · refine WP_aload_n dJ7_fill_d0a16_12 rfl ?_
        refine WP_iload_n dJ7_fill_d0a16_13 rfl ?_
        refine WP_lload_n dJ7_fill_d0a16_14 rfl ?_
        refine WQ_last dJ7_fill_d0a16_15 (lyx_is hy 46 14 rfl) (lyx_n hy 46 6 rfl) (by omega) (by omega) (fun J7651 eJ7651 => ?_)
        have fr7652 : fz 74 g [46] J J7651 := by rw [eJ7651]; exact fzx_pp hy fjJ7647 (by decide) (by decide)
        have FJ7651 : ∀ q : Nat, (q : Int) < i7646.toInt + 1 → J7651 (ad g 46) q = vv := by
          intro q hq
          rw [eJ7651, pp_at, cl (x := i7646) (n := i7646.toInt.toNat) (by omega)]
          split
          · rfl
          · exact PF_I_7647 q (by omega)
        clear eJ7651
        refine WP_iinc (ls' := [(0, _), (1, _), (3, _), (4, _)]) dJ7_fill_d0a16_16 rfl (by decide) rfl ?_
        have hv7653 : (i7646 + Int32.ofInt (1)).toInt = i7646.toInt + (1) := ia_n rfl (by omega) (by omega)
        generalize i7646 + Int32.ofInt (1) = v7653 at hv7653 ⊢
        refine WP_goto 6 dJ7_fill_d0a16_19 rfl ?_
        exact WP_sub (fc rfl (fc rfl (fc rfl (fc rfl fn)))) (ihlp6_7648 v7653 J7651 fr7652 (by omega) (by omega) (by omega) (fun q hq => FJ7651 q (by omega)) (by omega))
  exact WP_sub (fc rfl (fc rfl (fc rfl (fc rfl fn)))) (lp6_7648 _ v7644 J frj0 (by omega) (by omega) (by omega) (fun q hq => by omega) (Nat.lt_succ_self _))
set_option maxHeartbeats 4000000 in
set_option maxRecDepth 100000 in
theorem sx_mfx {g : GG} {n : Int} {L : Int32} (hy : LyX g)  {I : pI} {J : pJ} {R : pR} (hr : RfX g R) (hI : XI g n L I) (st : Int32) (st_lo : 0 ≤ st.toInt) (st_hi : st.toInt ≤ 5) : SP g mX6_mostFromStore [.ref (ad g 44), .int st] I J R (fun r I' J' R' => (I' = I ∧ J' = J ∧ R' = R) ∧ ∃ v : Int32, r = some (.int v) ∧ 0 ≤ v.toInt ∧ v.toInt ≤ 3 ∧ ((I (ad g 44) 7).toInt = 0 ∧ v.toInt = 0 ∨ (I (ad g 44) 7).toInt ≠ 0 ∧ (st.toInt < (I (ad g 44) 1).toInt ∧ v.toInt = st.toInt ∨ (I (ad g 44) 1).toInt ≤ st.toInt ∧ v.toInt = (I (ad g 44) 1).toInt))) := by
  refine SP_of ⟨by decide, rfl⟩ (Nat.le_of_ble_eq_true rfl) ?_
  have e7654 : I (ad g 1) 1 = L := hI.2
  have b7655 := BT_get hI.1 1 1 2 (0) (0) (900) (by decide) 1 (by decide) (by decide)
  rw [e7654] at b7655
  refine WP_aload_n dX6_mostFromStore_0 rfl ?_
  refine WQ_geti dX6_mostFromStore_1 fX6_60 rfl (lyx_is hy 44 6 rfl) (BT_get hI.1 44 7 8 (0) (0) (1) (by decide) 7 (by decide) (by decide)) (fun v7656 ev7656 av7656 bv7656 => ?_)
  refine WQ_if_ne 11 dX6_mostFromStore_4 rfl (fun c7656 => ?_) (fun c7656 => ?_)
  · refine WP_iload_n dX6_mostFromStore_11 rfl ?_
    refine WP_aload_n dX6_mostFromStore_12 rfl ?_
    refine WQ_geti dX6_mostFromStore_13 fX6_36 rfl (lyx_is hy 44 6 rfl) (BT_get hI.1 44 1 2 (0) (0) (3) (by decide) 1 (by decide) (by decide)) (fun v7658 ev7658 av7658 bv7658 => ?_)
    refine WQ_icmp_ge 23 dX6_mostFromStore_16 rfl (fun c7658 => ?_) (fun c7658 => ?_)
    · refine WP_aload_n dX6_mostFromStore_23 rfl ?_
      refine WQ_getim dX6_mostFromStore_24 fX6_36 rfl (lyx_is hy 44 6 rfl) ev7658 ?_
      exact WP_iret dX6_mostFromStore_27 rfl ⟨⟨rfl, rfl, rfl⟩, _, rfl, by omega, by omega, by (try rw [ev7656]; try rw [ev7658]); omega⟩
    · refine WP_iload_n dX6_mostFromStore_19 rfl ?_
      refine WP_goto 27 dX6_mostFromStore_20 rfl ?_
      exact WP_iret dX6_mostFromStore_27 rfl ⟨⟨rfl, rfl, rfl⟩, _, rfl, by omega, by omega, by (try rw [ev7656]; try rw [ev7658]); omega⟩
  · refine WQ_iconst (0) (0) dX6_mostFromStore_7 rfl rfl (fun v7660 hv7660 => ?_)
    refine WP_goto 27 dX6_mostFromStore_8 rfl ?_
    obtain ⟨w7661, ew7661⟩ : ∃ w : Int32, I (ad g 44) 1 = w := ⟨_, rfl⟩
    have bw7661 := BT_get hI.1 44 1 2 (0) (0) (3) (by decide) 1 (by decide) (by decide)
    rw [ew7661] at bw7661
    exact WP_iret dX6_mostFromStore_27 rfl ⟨⟨rfl, rfl, rfl⟩, _, rfl, by omega, by omega, by (try rw [ev7656]; try rw [ew7661]); omega⟩
set_option maxHeartbeats 4000000 in
set_option maxRecDepth 100000 in
theorem sx_cbx {g : GG} {n : Int} {L : Int32} (hy : LyX g)  {I : pI} {J : pJ} {R : pR} (hr : RfX g R) (hI : XI g n L I) (co : Int32) (st : Int32) (da : Int32) (co_lo : 0 ≤ co.toInt) (co_hi : co.toInt ≤ 60) (st_lo : 0 ≤ st.toInt) (st_hi : st.toInt ≤ 5) (da_lo : 0 ≤ da.toInt) (da_hi : da.toInt ≤ 6) : SP g mX0_coinsBehind [.ref (ad g 5), .int co, .int st, .int da] I J R (fun r I' J' R' => (I' = I ∧ J' = J ∧ R' = R) ∧ ∃ v : Int32, r = some (.int v) ∧ 0 ≤ v.toInt ∧ v.toInt ≤ 60 ∧ v.toInt = CB (I (ad g 24)) (I (ad g 25)) co.toInt st.toInt da.toInt) := by
  refine SP_of ⟨by decide, rfl⟩ (Nat.le_of_ble_eq_true rfl) ?_
  have e7662 : I (ad g 1) 1 = L := hI.2
  have b7663 := BT_get hI.1 1 1 2 (0) (0) (900) (by decide) 1 (by decide) (by decide)
  rw [e7662] at b7663
  refine WP_aload_n dX0_coinsBehind_0 rfl ?_
  refine WP_getr dX0_coinsBehind_1 fX0_18 rfl (lyx_is hy 5 0 rfl) (rfx hr 5 3 24 (by decide)) ?_
  refine WP_iload_n dX0_coinsBehind_4 rfl ?_
  refine WQ_bipush (61) (61) dX0_coinsBehind_5 rfl rfl (fun v7664 hv7664 => ?_)
  refine WQ_imulk (61) dX0_coinsBehind_7 hv7664 (by omega) (by omega) (fun v7665 hv7665 => ?_)
  refine WP_iload_n dX0_coinsBehind_8 rfl ?_
  refine WQ_iadd dX0_coinsBehind_9 (by omega) (by omega) (fun v7666 hv7666 => ?_)
  refine WQ_iald dX0_coinsBehind_10 (lyx_is hy 24 13 rfl) (lyx_n hy 24 427 rfl) (by omega) (by omega) (fun q hq => BT_get hI.1 24 0 427 (0) (0) (60) (by decide) q (Nat.zero_le _) hq) (fun v7667 av7667 bv7667 ev7667 => ?_)
  refine WP_aload_n dX0_coinsBehind_11 rfl ?_
  refine WP_getr dX0_coinsBehind_12 fX0_21 rfl (lyx_is hy 5 0 rfl) (rfx hr 5 4 25 (by decide)) ?_
  refine WP_iload_n dX0_coinsBehind_15 rfl ?_
  refine WQ_iald dX0_coinsBehind_16 (lyx_is hy 25 13 rfl) (lyx_n hy 25 6 rfl) (by omega) (by omega) (fun q hq => BT_get hI.1 25 0 6 (0) (0) (45) (by decide) q (Nat.zero_le _) hq) (fun v7668 av7668 bv7668 ev7668 => ?_)
  refine WQ_isub dX0_coinsBehind_17 (by omega) (by omega) (fun v7669 hv7669 => ?_)
  refine WP_istore (ls' := [(0, _), (1, _), (2, _), (3, _), (4, _)]) dX0_coinsBehind_18 (by decide) rfl ?_
  refine WP_iload dX0_coinsBehind_20 rfl ?_
  refine WQ_if_ge 29 dX0_coinsBehind_22 rfl (fun c7669 => ?_) (fun c7669 => ?_)
  · refine WP_iload dX0_coinsBehind_29 rfl ?_
    exact WP_iret dX0_coinsBehind_31 rfl ⟨⟨rfl, rfl, rfl⟩, _, rfl, by omega, by omega, (by unfold CB; rw [← cl (x := v7666) (n := (61 * da.toInt + co.toInt).toNat) (by omega), ev7667, ← cl (x := st) (n := st.toInt.toNat) (by omega), ev7668]; omega)⟩
  · refine WQ_iconst (0) (0) dX0_coinsBehind_25 rfl rfl (fun v7671 hv7671 => ?_)
    refine WP_goto 31 dX0_coinsBehind_26 rfl ?_
    exact WP_iret dX0_coinsBehind_31 rfl ⟨⟨rfl, rfl, rfl⟩, _, rfl, by omega, by omega, (by unfold CB; rw [← cl (x := v7666) (n := (61 * da.toInt + co.toInt).toNat) (by omega), ev7667, ← cl (x := st) (n := st.toInt.toNat) (by omega), ev7668]; omega)⟩
set_option maxHeartbeats 4000000 in
set_option maxRecDepth 100000 in
theorem sx_wex {g : GG} {n : Int} {L : Int32} (hy : LyX g)  {I : pI} {J : pJ} {R : pR} (hr : RfX g R) (hI : XI g n L I) (ha : Int64) (ea : Int32) (ea_lo : 0 ≤ ea.toInt) (ea_hi : ea.toInt ≤ 20) : SP g mX2_withEarned [.long ha, .int ea] I J R (fun r I' J' R' => (I' = I ∧ J' = J ∧ R' = R) ∧ ∃ v : Int64, r = some (.long v) ∧ (∀ c c' : Int, 0 ≤ c → c ≤ 60 → bt ha c → CE c c' ea.toInt → bt v c')) := by
  refine SP_of ⟨by decide, rfl⟩ (Nat.le_of_ble_eq_true rfl) ?_
  have e7672 : I (ad g 1) 1 = L := hI.2
  have b7673 := BT_get hI.1 1 1 2 (0) (0) (900) (by decide) 1 (by decide) (by decide)
  rw [e7672] at b7673
  refine WP_ldc2 (1152921504606846976) dX2_withEarned_0 klX2_90 ?_
  obtain ⟨l7674, hl7674, el7674⟩ : ∃ v : Int64, v.toInt = (1152921504606846976) ∧ ((1152921504606846976) : Int64) = v := ⟨_, rfl, rfl⟩
  rw [el7674]; clear el7674
  refine WP_lstore_n (ls' := [(0, _), (2, _), (3, _)]) dX2_withEarned_3 (by decide) rfl ?_
  refine WP_lload_n dX2_withEarned_4 rfl ?_
  refine WP_iload_n dX2_withEarned_5 rfl ?_
  refine WQ_lshlx dX2_withEarned_6 (by omega) (by omega) (fun l7675 ql7675 => ?_)
  refine WP_lload_n dX2_withEarned_7 rfl ?_
  refine WP_lconst (1) dX2_withEarned_8 rfl ?_
  obtain ⟨l7676, hl7676, el7676⟩ : ∃ v : Int64, v.toInt = 1 ∧ (1 : Int64) = v := ⟨_, rfl, rfl⟩
  rw [el7676]; clear el7676
  refine WQ_lsubi dX2_withEarned_9 (by omega) (by omega) (fun l7677 hl7677 => ?_)
  refine WQ_landx dX2_withEarned_10 (fun l7678 ql7678 => ?_)
  refine WP_lstore (ls' := [(0, _), (2, _), (3, _), (5, _)]) dX2_withEarned_11 (by decide) rfl ?_
  refine WP_lload_n dX2_withEarned_13 rfl ?_
  refine WQ_bipush (60) (60) dX2_withEarned_14 rfl rfl (fun v7679 hv7679 => ?_)
  refine WP_iload_n dX2_withEarned_16 rfl ?_
  refine WQ_isub dX2_withEarned_17 (by omega) (by omega) (fun v7680 hv7680 => ?_)
  refine WQ_lushrx dX2_withEarned_18 (by omega) (by omega) (fun l7681 ql7681 => ?_)
  refine WP_lconst (0) dX2_withEarned_19 rfl ?_
  obtain ⟨l7682, hl7682, el7682⟩ : ∃ v : Int64, v.toInt = 0 ∧ (0 : Int64) = v := ⟨_, rfl, rfl⟩
  rw [el7682]; clear el7682
  refine WQ_lcmp dX2_withEarned_20 (fun v7683 av7683 bv7683 => ?_)
  refine WQ_if_ne 29 dX2_withEarned_21 rfl (fun c7683 => ?_) (fun c7683 => ?_)
  · refine WP_lload dX2_withEarned_29 rfl ?_
    refine WP_lload_n dX2_withEarned_31 rfl ?_
    refine WQ_lorx dX2_withEarned_32 (fun l7685 ql7685 => ?_)
    exact WP_lret dX2_withEarned_33 rfl ⟨⟨rfl, rfl, rfl⟩, _, rfl, (WE_b (by omega) (by omega) ql7675 ql7678 (by omega) ql7685 (by omega))⟩
  · refine WP_lload dX2_withEarned_24 rfl ?_
    refine WP_goto 33 dX2_withEarned_26 rfl ?_
    exact WP_lret dX2_withEarned_33 rfl ⟨⟨rfl, rfl, rfl⟩, _, rfl, (WE_a (by omega) (by omega) ql7675 ql7678 (by omega) ql7681 (by omega) (by omega))⟩
