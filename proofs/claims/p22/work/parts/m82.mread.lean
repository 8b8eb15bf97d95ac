set_option maxHeartbeats 4000000 in
set_option maxRecDepth 100000 in
theorem sm_bad2 {g : GG} {n : Int} {L : Int32} (hy : Ly g)  {I : pI} {J : pJ} {R : pR} (hr : Rf g R) (hI : MP g n L I) (k : Int32)  (hb : (I (ad g 0) 4).toInt ≤ (I (ad g 0) 2).toInt) : SP g mX11_bad [.ref (ad g 0), .int k] I J R (fun r I' J' R' => (MP g n L I' ∧ R' = R ∧ fz 49 g [0] I I' ∧ fz 49 g [] J J' ∧ fs g [8, 9] I I' ∧ (I' (ad g 0) 4).toInt ≤ (I' (ad g 0) 2).toInt ∧ I' (ad g 0) 15 = I (ad g 0) 15 ∧ I' (ad g 0) 16 = I (ad g 0) 16) ∧ ∃ v : Int32, r = some (.int v) ∧ 0 ≤ v.toInt ∧ v.toInt ≤ 0) := by
  refine SP_of ⟨by decide, rfl⟩ (Nat.le_of_ble_eq_true rfl) ?_
  have e578 : I (ad g 0) 1 = L := hI.1.2
  have b579 := BT_get hI.1.1 0 1 2 (0) (0) (900) (by decide) 1 (by decide) (by decide)
  rw [e578] at b579
  have fr0 : fz 49 g [0] I I := fz_rf
  have frj0 : fz 49 g [] J J := fz_rf
  have frq0 : fs g [8, 9] I I := fs_rf
  obtain ⟨w580, ew580⟩ : ∃ w : Int32, I (ad g 0) 15 = w := ⟨_, rfl⟩
  have bw580 := BT_get hI.1.1 0 15 16 (0) (0) (4) (by decide) 15 (by decide) (by decide)
  rw [ew580] at bw580
  obtain ⟨w581, ew581⟩ : ∃ w : Int32, I (ad g 0) 16 = w := ⟨_, rfl⟩
  have bw581 := BT_get hI.1.1 0 16 17 (0) (0) (3) (by decide) 16 (by decide) (by decide)
  rw [ew581] at bw581
  obtain ⟨w582, ew582⟩ : ∃ w : Int32, I (ad g 0) 4 = w := ⟨_, rfl⟩
  have bw582 := BT_get hI.1.1 0 4 5 (0) (0) (900) (by decide) 4 (by decide) (by decide)
  rw [ew582] at bw582
  obtain ⟨w583, ew583⟩ : ∃ w : Int32, I (ad g 0) 2 = w := ⟨_, rfl⟩
  have bw583 := BT_get hI.1.1 0 2 3 (0) (0) (900) (by decide) 2 (by decide) (by decide)
  rw [ew583] at bw583
  rw [ew582, ew583] at hb
  refine WP_aload_n dX11_bad_0 rfl ?_
  refine WP_iload_n dX11_bad_1 rfl ?_
  refine WQ_puti dX11_bad_2 fX11_3 rfl rfl (ly_is hy 0 11 rfl) (fun I584 eI584 => ?_)
  have hI584 : MP g n L I584 := by rw [eI584]; exact (mp_w hy hI (c := 0) (mi_f0 hy hI.1 (c := 0) (by decide) (Or.inr (by decide)) (by decide)) (by decide) (by decide) (Or.inr (by decide)))
  have e585 : I584 (ad g 0) 1 = L := by rw [eI584, pp_ne _ _ (Or.inr (by decide))]; exact e578
  have e586 : I584 (ad g 0) 15 = w580 := by rw [eI584, pp_ne _ _ (Or.inr (by decide))]; exact ew580
  have e587 : I584 (ad g 0) 16 = w581 := by rw [eI584, pp_ne _ _ (Or.inr (by decide))]; exact ew581
  have e588 : I584 (ad g 0) 4 = w582 := by rw [eI584, pp_ne _ _ (Or.inr (by decide))]; exact ew582
  have e589 : I584 (ad g 0) 2 = w583 := by rw [eI584, pp_ne _ _ (Or.inr (by decide))]; exact ew583
  have e590 : I584 (ad g 0) 8 = k := by rw [eI584, pp_self]
  have fr591 : fs g [8, 9] I I584 := by rw [eI584]; exact fs_pp0 frq0 (by decide)
  have fr592 : fz 49 g [0] I I584 := by rw [eI584]; exact fzm_pp hy fr0 (by decide) (by decide)
  clear eI584
  refine WP_aload_n dX11_bad_5 rfl ?_
  refine WP_aload_n dX11_bad_6 rfl ?_
  refine WQ_geti dX11_bad_7 fX11_7 rfl (ly_is hy 0 11 rfl) (BT_get hI584.1.1 0 3 4 (0) (0) (900) (by decide) 3 (by decide) (by decide)) (fun v593 ev593 av593 bv593 => ?_)
  refine WQ_puti dX11_bad_10 fX11_10 rfl rfl (ly_is hy 0 11 rfl) (fun I594 eI594 => ?_)
  have hI594 : MP g n L I594 := by rw [eI594]; exact (mp_w hy hI584 (c := 0) (mi_f0 hy hI584.1 (c := 0) (by decide) (Or.inr (by decide)) (by decide)) (by decide) (by decide) (Or.inr (by decide)))
  have e595 : I594 (ad g 0) 1 = L := by rw [eI594, pp_ne _ _ (Or.inr (by decide))]; exact e585
  have e596 : I594 (ad g 0) 15 = w580 := by rw [eI594, pp_ne _ _ (Or.inr (by decide))]; exact e586
  have e597 : I594 (ad g 0) 16 = w581 := by rw [eI594, pp_ne _ _ (Or.inr (by decide))]; exact e587
  have e598 : I594 (ad g 0) 4 = w582 := by rw [eI594, pp_ne _ _ (Or.inr (by decide))]; exact e588
  have e599 : I594 (ad g 0) 2 = w583 := by rw [eI594, pp_ne _ _ (Or.inr (by decide))]; exact e589
  have e600 : I594 (ad g 0) 8 = k := by rw [eI594, pp_ne _ _ (Or.inr (by decide))]; exact e590
  have e601 : I594 (ad g 0) 3 = v593 := by rw [eI594, pp_ne _ _ (Or.inr (by decide))]; exact ev593
  have e602 : I594 (ad g 0) 9 = v593 := by rw [eI594, pp_self]
  have fr603 : fs g [8, 9] I I594 := by rw [eI594]; exact fs_pp0 fr591 (by decide)
  have fr604 : fz 49 g [0] I I594 := by rw [eI594]; exact fzm_pp hy fr592 (by decide) (by decide)
  clear eI594
  refine WQ_iconst (0) (0) dX11_bad_13 rfl rfl (fun v605 hv605 => ?_)
  exact WP_zret dX11_bad_14 rfl (nar_z (by omega)) ⟨⟨hI594, rfl, fr604, frj0, fr603, ⟨(by rw [e598, e599]; omega), (by rw [e596, ew580] <;> exact (eq32 _ _).mpr (by omega)), (by rw [e597, ew581] <;> exact (eq32 _ _).mpr (by omega))⟩⟩, _, rfl, by omega, by omega⟩
set_option maxHeartbeats 4000000 in
set_option maxRecDepth 100000 in
theorem sm_name {g : GG} {n : Int} {L : Int32} (hy : Ly g)  {I : pI} {J : pJ} {R : pR} (hr : Rf g R) (hI : MP g n L I)   : SP g mX11_name [.ref (ad g 0)] I J R (fun r I' J' R' => (I' = I ∧ J' = J ∧ R' = R) ∧ ∃ v : Int64, r = some (.long v)) := by
  refine SP_of ⟨by decide, rfl⟩ (Nat.le_of_ble_eq_true rfl) ?_
  have e606 : I (ad g 0) 1 = L := hI.1.2
  have b607 := BT_get hI.1.1 0 1 2 (0) (0) (900) (by decide) 1 (by decide) (by decide)
  rw [e606] at b607
  refine WP_lconst (0) dX11_name_0 rfl ?_
  obtain ⟨l608, hl608, el608⟩ : ∃ v : Int64, v.toInt = 0 ∧ (0 : Int64) = v := ⟨_, rfl, rfl⟩
  rw [el608]; clear el608
  refine WP_lstore_n (ls' := [(0, _), (1, _)]) dX11_name_1 (by decide) rfl ?_
  refine WP_aload_n dX11_name_2 rfl ?_
  refine WQ_geti dX11_name_3 fX11_7 rfl (ly_is hy 0 11 rfl) (BT_get hI.1.1 0 3 4 (0) (0) (900) (by decide) 3 (by decide) (by decide)) (fun v609 ev609 av609 bv609 => ?_)
  refine WP_istore_n (ls' := [(0, _), (1, _), (3, _)]) dX11_name_6 (by decide) rfl ?_
  have lp7_611 : ∀ (mz : Nat) (l610 : Int64) (i611 : Int32), 0 ≤ i611.toInt → i611.toInt ≤ 900 → (901 - i611.toInt).toNat < mz → WP g mX11_name 7 [(0, .ref (ad g 0)), (1, .long l610), (3, .int i611)] [] I J R (fun r I' J' R' => (I' = I ∧ J' = J ∧ R' = R) ∧ ∃ v : Int64, r = some (.long v)) := by
    intro mz
    induction mz with
    | zero =>
      intro l610 i611 ai611 bi611 hmlp7_611
      exact absurd hmlp7_611 (Nat.not_lt_zero _)
    | succ mz ihlp7_611 =>
      intro l610 i611 ai611 bi611 hmlp7_611
      refine WP_iload_n dX11_name_7 rfl ?_
      refine WP_aload_n dX11_name_8 rfl ?_
      refine WQ_geti dX11_name_9 fX11_20 rfl (ly_is hy 0 11 rfl) (BT_get hI.1.1 0 4 5 (0) (0) (900) (by decide) 4 (by decide) (by decide)) (fun v613 ev613 av613 bv613 => ?_)
      refine WQ_icmp_ge 35 dX11_name_12 rfl (fun c613 => ?_) (fun c613 => ?_)
      · refine WP_lload_n dX11_name_35 rfl ?_
        exact WP_lret dX11_name_36 rfl ⟨⟨rfl, rfl, rfl⟩, _, rfl⟩
      · refine WP_lload_n dX11_name_15 rfl ?_
        refine WQ_iconst (5) (5) dX11_name_16 rfl rfl (fun v615 hv615 => ?_)
        refine WQ_lshl dX11_name_17 (fun l616 => ?_)
        refine WP_aload_n dX11_name_18 rfl ?_
        refine WP_iload_n dX11_name_19 rfl ?_
        refine WP_callV1 (k := 11) dX11_name_20 ⟨⟨⟨by decide, by decide⟩, zX11_byteAt⟩, lX11_23, by decide, rfl, vX11_byteAt.1, vX11_byteAt.2⟩ (ly_is hy 0 11 rfl) (sm_byteAt hy hr hI i611 (by omega) (by omega)) (Nat.le_of_ble_eq_true rfl) ?_
        intro r Ia Ja Ra hq
        obtain ⟨⟨ea, eb, ec⟩, v617, rfl, cv617⟩ := hq
        show WP _ _ _ _ (.int _ :: _) _ _ _ _
        rw [ea, eb, ec]
        clear ea eb ec Ia Ja Ra
        obtain ⟨w618, ew618⟩ : ∃ w : Int32, I (ad g 0) 2 = w := ⟨_, rfl⟩
        have bw618 := BT_get hI.1.1 0 2 3 (0) (0) (900) (by decide) 2 (by decide) (by decide)
        rw [ew618] at bw618
        rw [ew618] at cv617
        refine WQ_bipush (96) (96) dX11_name_23 rfl rfl (fun v619 hv619 => ?_)
        refine WQ_isubu dX11_name_25 (fun v620 => ?_)
        refine WQ_i2l dX11_name_26 (fun l621 hl621 => ?_)
        refine WQ_lor dX11_name_27 (fun l622 => ?_)
        refine WP_lstore_n (ls' := [(0, _), (1, _), (3, _)]) dX11_name_28 (by decide) rfl ?_
        refine WP_iinc (ls' := [(0, _), (1, _), (3, _)]) dX11_name_29 rfl (by decide) rfl ?_
        have hv623 : (i611 + Int32.ofInt (1)).toInt = i611.toInt + (1) := ia_n rfl (by omega) (by omega)
        generalize i611 + Int32.ofInt (1) = v623 at hv623 ⊢
        refine WP_goto 7 dX11_name_32 rfl ?_
        exact WP_sub (fc rfl (fc rfl (fc rfl fn))) (ihlp7_611 l622 v623 (by omega) (by omega) (by omega))
  exact WP_sub (fc rfl (fc rfl (fc rfl fn))) (lp7_611 _ l608 v609 (by omega) (by omega) (Nat.lt_succ_self _))
set_option maxHeartbeats 4000000 in
set_option maxRecDepth 100000 in
theorem sm_find_2 {g : GG} {n : Int} {L : Int32} (hy : Ly g)  {I : pI} {J : pJ} {R : pR} (hr : Rf g R) (hI : MP g n L I) (ma : Int32) (ma_lo : 0 ≤ ma.toInt) (ma_hi : ma.toInt ≤ 4) : SP g mX11_find [.ref (ad g 0), .ref (ad g 2), .int ma] I J R (fun r I' J' R' => (I' = I ∧ J' = J ∧ R' = R) ∧ ∃ v : Int32, r = some (.int v) ∧ -1 ≤ v.toInt ∧ v.toInt ≤ 3 ∧ (v.toInt < ma.toInt ∨ v.toInt = -1)) := by
  refine SP_of ⟨by decide, rfl⟩ (Nat.le_of_ble_eq_true rfl) ?_
  have e624 : I (ad g 0) 1 = L := hI.1.2
  have b625 := BT_get hI.1.1 0 1 2 (0) (0) (900) (by decide) 1 (by decide) (by decide)
  rw [e624] at b625
  refine WQ_iconst (0) (0) dX11_find_0 rfl rfl (fun v626 hv626 => ?_)
  refine WP_istore_n (ls' := [(0, _), (1, _), (2, _), (3, _)]) dX11_find_1 (by decide) rfl ?_
  have lp2_627 : ∀ (mz : Nat) (i627 : Int32), 0 ≤ i627.toInt → i627.toInt ≤ 4 → i627.toInt ≤ ma.toInt → (5 - i627.toInt).toNat < mz → WP g mX11_find 2 [(0, .ref (ad g 0)), (1, .ref (ad g 2)), (2, .int ma), (3, .int i627)] [] I J R (fun r I' J' R' => (I' = I ∧ J' = J ∧ R' = R) ∧ ∃ v : Int32, r = some (.int v) ∧ -1 ≤ v.toInt ∧ v.toInt ≤ 3 ∧ (v.toInt < ma.toInt ∨ v.toInt = -1)) := by
    intro mz
    induction mz with
    | zero =>
      intro i627 ai627 bi627 j0_I hmlp2_627
      exact absurd hmlp2_627 (Nat.not_lt_zero _)
    | succ mz ihlp2_627 =>
      intro i627 ai627 bi627 j0_I hmlp2_627
      refine WP_iload_n dX11_find_2 rfl ?_
      refine WP_iload_n dX11_find_3 rfl ?_
      refine WQ_icmp_ge 26 dX11_find_4 rfl (fun c628 => ?_) (fun c628 => ?_)
      · refine WQ_iconst (-1) (-1) dX11_find_26 rfl rfl (fun v630 hv630 => ?_)
        exact WP_iret dX11_find_27 rfl ⟨⟨rfl, rfl, rfl⟩, _, rfl, by omega, by omega, by omega⟩
      · refine WP_aload_n dX11_find_7 rfl ?_
        refine WP_iload_n dX11_find_8 rfl ?_
        refine WQ_laldu dX11_find_9 (ly_is hy 2 14 rfl) (ly_n hy 2 4 rfl) (by omega) (by omega) (fun l631 => ?_)
        refine WP_aload_n dX11_find_10 rfl ?_
        refine WP_callV0 (k := 11) dX11_find_11 ⟨⟨⟨by decide, by decide⟩, zX11_name⟩, lX11_67, by decide, rfl, vX11_name.1, vX11_name.2⟩ (ly_is hy 0 11 rfl) (sm_name hy hr hI  ) (Nat.le_of_ble_eq_true rfl) ?_
        intro r Ia Ja Ra hq
        obtain ⟨⟨ea, eb, ec⟩, l632, rfl⟩ := hq
        show WP _ _ _ _ (.long _ :: _) _ _ _ _
        rw [ea, eb, ec]
        clear ea eb ec Ia Ja Ra
        refine WQ_lcmpu dX11_find_14 (fun v633 => ?_)
        refine WX_if_ne 20 dX11_find_15 rfl ?_ ?_
        · refine WP_iinc (ls' := [(0, _), (1, _), (2, _), (3, _)]) dX11_find_20 rfl (by decide) rfl ?_
          have hv634 : (i627 + Int32.ofInt (1)).toInt = i627.toInt + (1) := ia_n rfl (by omega) (by omega)
          generalize i627 + Int32.ofInt (1) = v634 at hv634 ⊢
          refine WP_goto 2 dX11_find_23 rfl ?_
          exact WP_sub (fc rfl (fc rfl (fc rfl (fc rfl fn)))) (ihlp2_627 v634 (by omega) (by omega) (by omega) (by omega))
        · refine WP_iload_n dX11_find_18 rfl ?_
          exact WP_iret dX11_find_19 rfl ⟨⟨rfl, rfl, rfl⟩, _, rfl, by omega, by omega, by omega⟩
  exact WP_sub (fc rfl (fc rfl (fc rfl (fc rfl fn)))) (lp2_627 _ v626 (by omega) (by omega) (by omega) (Nat.lt_succ_self _))
set_option maxHeartbeats 4000000 in
set_option maxRecDepth 100000 in
theorem sm_find_3 {g : GG} {n : Int} {L : Int32} (hy : Ly g)  {I : pI} {J : pJ} {R : pR} (hr : Rf g R) (hI : MP g n L I) (ma : Int32) (ma_lo : 0 ≤ ma.toInt) (ma_hi : ma.toInt ≤ 3) : SP g mX11_find [.ref (ad g 0), .ref (ad g 3), .int ma] I J R (fun r I' J' R' => (I' = I ∧ J' = J ∧ R' = R) ∧ ∃ v : Int32, r = some (.int v) ∧ -1 ≤ v.toInt ∧ v.toInt ≤ 2 ∧ (v.toInt < ma.toInt ∨ v.toInt = -1)) := by
  refine SP_of ⟨by decide, rfl⟩ (Nat.le_of_ble_eq_true rfl) ?_
  have e635 : I (ad g 0) 1 = L := hI.1.2
  have b636 := BT_get hI.1.1 0 1 2 (0) (0) (900) (by decide) 1 (by decide) (by decide)
  rw [e635] at b636
  refine WQ_iconst (0) (0) dX11_find_0 rfl rfl (fun v637 hv637 => ?_)
  refine WP_istore_n (ls' := [(0, _), (1, _), (2, _), (3, _)]) dX11_find_1 (by decide) rfl ?_
  have lp2_638 : ∀ (mz : Nat) (i638 : Int32), 0 ≤ i638.toInt → i638.toInt ≤ 3 → i638.toInt ≤ ma.toInt → (4 - i638.toInt).toNat < mz → WP g mX11_find 2 [(0, .ref (ad g 0)), (1, .ref (ad g 3)), (2, .int ma), (3, .int i638)] [] I J R (fun r I' J' R' => (I' = I ∧ J' = J ∧ R' = R) ∧ ∃ v : Int32, r = some (.int v) ∧ -1 ≤ v.toInt ∧ v.toInt ≤ 2 ∧ (v.toInt < ma.toInt ∨ v.toInt = -1)) := by
    intro mz
    induction mz with
    | zero =>
      intro i638 ai638 bi638 j0_I hmlp2_638
      exact absurd hmlp2_638 (Nat.not_lt_zero _)
    | succ mz ihlp2_638 =>
      intro i638 ai638 bi638 j0_I hmlp2_638
      refine WP_iload_n dX11_find_2 rfl ?_
      refine WP_iload_n dX11_find_3 rfl ?_
      refine WQ_icmp_ge 26 dX11_find_4 rfl (fun c639 => ?_) (fun c639 => ?_)
      · refine WQ_iconst (-1) (-1) dX11_find_26 rfl rfl (fun v641 hv641 => ?_)
        exact WP_iret dX11_find_27 rfl ⟨⟨rfl, rfl, rfl⟩, _, rfl, by omega, by omega, by omega⟩
      · refine WP_aload_n dX11_find_7 rfl ?_
        refine WP_iload_n dX11_find_8 rfl ?_
        refine WQ_laldu dX11_find_9 (ly_is hy 3 14 rfl) (ly_n hy 3 3 rfl) (by omega) (by omega) (fun l642 => ?_)
        refine WP_aload_n dX11_find_10 rfl ?_
        refine WP_callV0 (k := 11) dX11_find_11 ⟨⟨⟨by decide, by decide⟩, zX11_name⟩, lX11_67, by decide, rfl, vX11_name.1, vX11_name.2⟩ (ly_is hy 0 11 rfl) (sm_name hy hr hI  ) (Nat.le_of_ble_eq_true rfl) ?_
        intro r Ia Ja Ra hq
        obtain ⟨⟨ea, eb, ec⟩, l643, rfl⟩ := hq
        show WP _ _ _ _ (.long _ :: _) _ _ _ _
        rw [ea, eb, ec]
        clear ea eb ec Ia Ja Ra
        refine WQ_lcmpu dX11_find_14 (fun v644 => ?_)
        refine WX_if_ne 20 dX11_find_15 rfl ?_ ?_
        · refine WP_iinc (ls' := [(0, _), (1, _), (2, _), (3, _)]) dX11_find_20 rfl (by decide) rfl ?_
          have hv645 : (i638 + Int32.ofInt (1)).toInt = i638.toInt + (1) := ia_n rfl (by omega) (by omega)
          generalize i638 + Int32.ofInt (1) = v645 at hv645 ⊢
          refine WP_goto 2 dX11_find_23 rfl ?_
          exact WP_sub (fc rfl (fc rfl (fc rfl (fc rfl fn)))) (ihlp2_638 v645 (by omega) (by omega) (by omega) (by omega))
        · refine WP_iload_n dX11_find_18 rfl ?_
          exact WP_iret dX11_find_19 rfl ⟨⟨rfl, rfl, rfl⟩, _, rfl, by omega, by omega, by omega⟩
  exact WP_sub (fc rfl (fc rfl (fc rfl (fc rfl fn)))) (lp2_638 _ v637 (by omega) (by omega) (by omega) (Nat.lt_succ_self _))
set_option maxHeartbeats 4000000 in
set_option maxRecDepth 100000 in
theorem sm_find_4 {g : GG} {n : Int} {L : Int32} (hy : Ly g)  {I : pI} {J : pJ} {R : pR} (hr : Rf g R) (hI : MP g n L I) (ma : Int32) (ma_lo : 0 ≤ ma.toInt) (ma_hi : ma.toInt ≤ 4) : SP g mX11_find [.ref (ad g 0), .ref (ad g 4), .int ma] I J R (fun r I' J' R' => (I' = I ∧ J' = J ∧ R' = R) ∧ ∃ v : Int32, r = some (.int v) ∧ -1 ≤ v.toInt ∧ v.toInt ≤ 3 ∧ (v.toInt < ma.toInt ∨ v.toInt = -1)) := by
  refine SP_of ⟨by decide, rfl⟩ (Nat.le_of_ble_eq_true rfl) ?_
  have e646 : I (ad g 0) 1 = L := hI.1.2
  have b647 := BT_get hI.1.1 0 1 2 (0) (0) (900) (by decide) 1 (by decide) (by decide)
  rw [e646] at b647
  refine WQ_iconst (0) (0) dX11_find_0 rfl rfl (fun v648 hv648 => ?_)
  refine WP_istore_n (ls' := [(0, _), (1, _), (2, _), (3, _)]) dX11_find_1 (by decide) rfl ?_
  have lp2_649 : ∀ (mz : Nat) (i649 : Int32), 0 ≤ i649.toInt → i649.toInt ≤ 4 → i649.toInt ≤ ma.toInt → (5 - i649.toInt).toNat < mz → WP g mX11_find 2 [(0, .ref (ad g 0)), (1, .ref (ad g 4)), (2, .int ma), (3, .int i649)] [] I J R (fun r I' J' R' => (I' = I ∧ J' = J ∧ R' = R) ∧ ∃ v : Int32, r = some (.int v) ∧ -1 ≤ v.toInt ∧ v.toInt ≤ 3 ∧ (v.toInt < ma.toInt ∨ v.toInt = -1)) := by
    intro mz
    induction mz with
    | zero =>
      intro i649 ai649 bi649 j0_I hmlp2_649
      exact absurd hmlp2_649 (Nat.not_lt_zero _)
    | succ mz ihlp2_649 =>
      intro i649 ai649 bi649 j0_I hmlp2_649
      refine WP_iload_n dX11_find_2 rfl ?_
      refine WP_iload_n dX11_find_3 rfl ?_
      refine WQ_icmp_ge 26 dX11_find_4 rfl (fun c650 => ?_) (fun c650 => ?_)
      · refine WQ_iconst (-1) (-1) dX11_find_26 rfl rfl (fun v652 hv652 => ?_)
        exact WP_iret dX11_find_27 rfl ⟨⟨rfl, rfl, rfl⟩, _, rfl, by omega, by omega, by omega⟩
      · refine WP_aload_n dX11_find_7 rfl ?_
        refine WP_iload_n dX11_find_8 rfl ?_
        refine WQ_laldu dX11_find_9 (ly_is hy 4 14 rfl) (ly_n hy 4 4 rfl) (by omega) (by omega) (fun l653 => ?_)
        refine WP_aload_n dX11_find_10 rfl ?_
        refine WP_callV0 (k := 11) dX11_find_11 ⟨⟨⟨by decide, by decide⟩, zX11_name⟩, lX11_67, by decide, rfl, vX11_name.1, vX11_name.2⟩ (ly_is hy 0 11 rfl) (sm_name hy hr hI  ) (Nat.le_of_ble_eq_true rfl) ?_
        intro r Ia Ja Ra hq
        obtain ⟨⟨ea, eb, ec⟩, l654, rfl⟩ := hq
        show WP _ _ _ _ (.long _ :: _) _ _ _ _
        rw [ea, eb, ec]
        clear ea eb ec Ia Ja Ra
        refine WQ_lcmpu dX11_find_14 (fun v655 => ?_)
        refine WX_if_ne 20 dX11_find_15 rfl ?_ ?_
        · refine WP_iinc (ls' := [(0, _), (1, _), (2, _), (3, _)]) dX11_find_20 rfl (by decide) rfl ?_
          have hv656 : (i649 + Int32.ofInt (1)).toInt = i649.toInt + (1) := ia_n rfl (by omega) (by omega)
          generalize i649 + Int32.ofInt (1) = v656 at hv656 ⊢
          refine WP_goto 2 dX11_find_23 rfl ?_
          exact WP_sub (fc rfl (fc rfl (fc rfl (fc rfl fn)))) (ihlp2_649 v656 (by omega) (by omega) (by omega) (by omega))
        · refine WP_iload_n dX11_find_18 rfl ?_
          exact WP_iret dX11_find_19 rfl ⟨⟨rfl, rfl, rfl⟩, _, rfl, by omega, by omega, by omega⟩
  exact WP_sub (fc rfl (fc rfl (fc rfl (fc rfl fn)))) (lp2_649 _ v648 (by omega) (by omega) (by omega) (Nat.lt_succ_self _))
set_option maxHeartbeats 4000000 in
set_option maxRecDepth 100000 in
theorem sm_find_5 {g : GG} {n : Int} {L : Int32} (hy : Ly g)  {I : pI} {J : pJ} {R : pR} (hr : Rf g R) (hI : MP g n L I) (ma : Int32) (ma_lo : 0 ≤ ma.toInt) (ma_hi : ma.toInt ≤ 3) : SP g mX11_find [.ref (ad g 0), .ref (ad g 5), .int ma] I J R (fun r I' J' R' => (I' = I ∧ J' = J ∧ R' = R) ∧ ∃ v : Int32, r = some (.int v) ∧ -1 ≤ v.toInt ∧ v.toInt ≤ 2 ∧ (v.toInt < ma.toInt ∨ v.toInt = -1)) := by
  refine SP_of ⟨by decide, rfl⟩ (Nat.le_of_ble_eq_true rfl) ?_
  have e657 : I (ad g 0) 1 = L := hI.1.2
  have b658 := BT_get hI.1.1 0 1 2 (0) (0) (900) (by decide) 1 (by decide) (by decide)
  rw [e657] at b658
  refine WQ_iconst (0) (0) dX11_find_0 rfl rfl (fun v659 hv659 => ?_)
  refine WP_istore_n (ls' := [(0, _), (1, _), (2, _), (3, _)]) dX11_find_1 (by decide) rfl ?_
  have lp2_660 : ∀ (mz : Nat) (i660 : Int32), 0 ≤ i660.toInt → i660.toInt ≤ 3 → i660.toInt ≤ ma.toInt → (4 - i660.toInt).toNat < mz → WP g mX11_find 2 [(0, .ref (ad g 0)), (1, .ref (ad g 5)), (2, .int ma), (3, .int i660)] [] I J R (fun r I' J' R' => (I' = I ∧ J' = J ∧ R' = R) ∧ ∃ v : Int32, r = some (.int v) ∧ -1 ≤ v.toInt ∧ v.toInt ≤ 2 ∧ (v.toInt < ma.toInt ∨ v.toInt = -1)) := by
    intro mz
    induction mz with
    | zero =>
      intro i660 ai660 bi660 j0_I hmlp2_660
      exact absurd hmlp2_660 (Nat.not_lt_zero _)
    | succ mz ihlp2_660 =>
      intro i660 ai660 bi660 j0_I hmlp2_660
      refine WP_iload_n dX11_find_2 rfl ?_
      refine WP_iload_n dX11_find_3 rfl ?_
      refine WQ_icmp_ge 26 dX11_find_4 rfl (fun c661 => ?_) (fun c661 => ?_)
      · refine WQ_iconst (-1) (-1) dX11_find_26 rfl rfl (fun v663 hv663 => ?_)
        exact WP_iret dX11_find_27 rfl ⟨⟨rfl, rfl, rfl⟩, _, rfl, by omega, by omega, by omega⟩
      · refine WP_aload_n dX11_find_7 rfl ?_
        refine WP_iload_n dX11_find_8 rfl ?_
        refine WQ_laldu dX11_find_9 (ly_is hy 5 14 rfl) (ly_n hy 5 3 rfl) (by omega) (by omega) (fun l664 => ?_)
        refine WP_aload_n dX11_find_10 rfl ?_
        refine WP_callV0 (k := 11) dX11_find_11 ⟨⟨⟨by decide, by decide⟩, zX11_name⟩, lX11_67, by decide, rfl, vX11_name.1, vX11_name.2⟩ (ly_is hy 0 11 rfl) (sm_name hy hr hI  ) (Nat.le_of_ble_eq_true rfl) ?_
        intro r Ia Ja Ra hq
        obtain ⟨⟨ea, eb, ec⟩, l665, rfl⟩ := hq
        show WP _ _ _ _ (.long _ :: _) _ _ _ _
        rw [ea, eb, ec]
        clear ea eb ec Ia Ja Ra
        refine WQ_lcmpu dX11_find_14 (fun v666 => ?_)
        refine WX_if_ne 20 dX11_find_15 rfl ?_ ?_
        · refine WP_iinc (ls' := [(0, _), (1, _), (2, _), (3, _)]) dX11_find_20 rfl (by decide) rfl ?_
          have hv667 : (i660 + Int32.ofInt (1)).toInt = i660.toInt + (1) := ia_n rfl (by omega) (by omega)
          generalize i660 + Int32.ofInt (1) = v667 at hv667 ⊢
          refine WP_goto 2 dX11_find_23 rfl ?_
          exact WP_sub (fc rfl (fc rfl (fc rfl (fc rfl fn)))) (ihlp2_660 v667 (by omega) (by omega) (by omega) (by omega))
        · refine WP_iload_n dX11_find_18 rfl ?_
          exact WP_iret dX11_find_19 rfl ⟨⟨rfl, rfl, rfl⟩, _, rfl, by omega, by omega, by omega⟩
  exact WP_sub (fc rfl (fc rfl (fc rfl (fc rfl fn)))) (lp2_660 _ v659 (by omega) (by omega) (by omega) (Nat.lt_succ_self _))
set_option maxHeartbeats 4000000 in
set_option maxRecDepth 100000 in
theorem sm_peek {g : GG} {n : Int} {L : Int32} (hy : Ly g)  {I : pI} {J : pJ} {R : pR} (hr : Rf g R) (hI : MP g n L I) (lo : Int32) (hi : Int32) (lo_lo : -1 ≤ lo.toInt) (lo_hi : lo.toInt ≤ 1000) (hi_lo : -1 ≤ hi.toInt) (hi_hi : hi.toInt ≤ 1000) (hb : (I (ad g 0) 4).toInt ≤ (I (ad g 0) 2).toInt) : SP g mX11_peek [.ref (ad g 0), .int lo, .int hi] I J R (fun r I' J' R' => (MP g n L I' ∧ R' = R ∧ fz 49 g [0] I I' ∧ fz 49 g [] J J' ∧ fs g [7, 8, 9] I I' ∧ (I' (ad g 0) 4).toInt ≤ (I' (ad g 0) 2).toInt ∧ I' (ad g 0) 15 = I (ad g 0) 15 ∧ I' (ad g 0) 16 = I (ad g 0) 16) ∧ ∃ v : Int32, r = some (.int v) ∧ 0 ≤ v.toInt ∧ v.toInt ≤ 1 ∧ (v.toInt = 1 → lo.toInt ≤ (I' (ad g 0) 7).toInt ∧ (I' (ad g 0) 7).toInt ≤ hi.toInt)) := by
  refine SP_of ⟨by decide, rfl⟩ (Nat.le_of_ble_eq_true rfl) ?_
  have e668 : I (ad g 0) 1 = L := hI.1.2
  have b669 := BT_get hI.1.1 0 1 2 (0) (0) (900) (by decide) 1 (by decide) (by decide)
  rw [e668] at b669
  have fr0 : fz 49 g [0] I I := fz_rf
  have frj0 : fz 49 g [] J J := fz_rf
  have frq0 : fs g [7, 8, 9] I I := fs_rf
  obtain ⟨w670, ew670⟩ : ∃ w : Int32, I (ad g 0) 15 = w := ⟨_, rfl⟩
  have bw670 := BT_get hI.1.1 0 15 16 (0) (0) (4) (by decide) 15 (by decide) (by decide)
  rw [ew670] at bw670
  obtain ⟨w671, ew671⟩ : ∃ w : Int32, I (ad g 0) 16 = w := ⟨_, rfl⟩
  have bw671 := BT_get hI.1.1 0 16 17 (0) (0) (3) (by decide) 16 (by decide) (by decide)
  rw [ew671] at bw671
  obtain ⟨w672, ew672⟩ : ∃ w : Int32, I (ad g 0) 4 = w := ⟨_, rfl⟩
  have bw672 := BT_get hI.1.1 0 4 5 (0) (0) (900) (by decide) 4 (by decide) (by decide)
  rw [ew672] at bw672
  obtain ⟨w673, ew673⟩ : ∃ w : Int32, I (ad g 0) 2 = w := ⟨_, rfl⟩
  have bw673 := BT_get hI.1.1 0 2 3 (0) (0) (900) (by decide) 2 (by decide) (by decide)
  rw [ew673] at bw673
  rw [ew672, ew673] at hb
  refine WP_aload_n dX11_peek_0 rfl ?_
  refine WQ_geti dX11_peek_1 fX11_27 rfl (ly_is hy 0 11 rfl) (BT_get hI.1.1 0 5 6 (0) (0) (4) (by decide) 5 (by decide) (by decide)) (fun v674 ev674 av674 bv674 => ?_)
  refine WQ_iconst (2) (2) dX11_peek_4 rfl rfl (fun v675 hv675 => ?_)
  refine WQ_icmp_eq 14 dX11_peek_5 rfl (fun c675 => ?_) (fun c675 => ?_)
  · refine WP_aload_n dX11_peek_14 rfl ?_
    refine WQ_getiu dX11_peek_15 fX11_37 rfl (ly_is hy 0 11 rfl) (fun v677 ev677 => ?_)
    refine WQ_i2l dX11_peek_18 (fun l678 hl678 => ?_)
    refine WP_iload_n dX11_peek_19 rfl ?_
    refine WQ_i2l dX11_peek_20 (fun l679 hl679 => ?_)
    refine WP_iload_n dX11_peek_21 rfl ?_
    refine WQ_i2l dX11_peek_22 (fun l680 hl680 => ?_)
    refine WP_callS3 dX11_peek_23 ⟨⟨⟨by decide, by decide⟩, zX11_in⟩, lX11_52, tX11_in⟩ (sm_in hy hr hI l678 l679 l680 ) (Nat.le_of_ble_eq_true rfl) ?_
    intro r Ia Ja Ra hq
    obtain ⟨⟨ea, eb, ec⟩, v681, rfl, av681, bv681, cv681⟩ := hq
    show WP _ _ _ _ (.int _ :: _) _ _ _ _
    rw [ea, eb, ec]
    clear ea eb ec Ia Ja Ra
    refine WQ_if_ne 35 dX11_peek_26 rfl (fun c681 => ?_) (fun c681 => ?_)
    · refine WP_aload_n dX11_peek_35 rfl ?_
      refine WP_aload_n dX11_peek_36 rfl ?_
      refine WQ_getim dX11_peek_37 fX11_37 rfl (ly_is hy 0 11 rfl) ev677 ?_
      refine WQ_puti dX11_peek_40 fX11_56 rfl rfl (ly_is hy 0 11 rfl) (fun I683 eI683 => ?_)
      have hI683 : MP g n L I683 := by rw [eI683]; exact (mp_w hy hI (c := 0) (mi_f hy hI.1 (c := 0) (-1) (0) (1000) (by decide) (Or.inr (by decide)) (by decide) (by omega) (by omega)) (by decide) (by decide) (Or.inr (by decide)))
      have e684 : I683 (ad g 0) 1 = L := by rw [eI683, pp_ne _ _ (Or.inr (by decide))]; exact e668
      have e685 : I683 (ad g 0) 15 = w670 := by rw [eI683, pp_ne _ _ (Or.inr (by decide))]; exact ew670
      have e686 : I683 (ad g 0) 16 = w671 := by rw [eI683, pp_ne _ _ (Or.inr (by decide))]; exact ew671
      have e687 : I683 (ad g 0) 4 = w672 := by rw [eI683, pp_ne _ _ (Or.inr (by decide))]; exact ew672
      have e688 : I683 (ad g 0) 2 = w673 := by rw [eI683, pp_ne _ _ (Or.inr (by decide))]; exact ew673
      have e689 : I683 (ad g 0) 5 = v674 := by rw [eI683, pp_ne _ _ (Or.inr (by decide))]; exact ev674
      have e690 : I683 (ad g 0) 6 = v677 := by rw [eI683, pp_ne _ _ (Or.inr (by decide))]; exact ev677
      have e691 : I683 (ad g 0) 7 = v677 := by rw [eI683, pp_self]
      have fr692 : fs g [7, 8, 9] I I683 := by rw [eI683]; exact fs_pp0 frq0 (by decide)
      have fr693 : fz 49 g [0] I I683 := by rw [eI683]; exact fzm_pp hy fr0 (by decide) (by decide)
      clear eI683
      refine WQ_iconst (1) (1) dX11_peek_43 rfl rfl (fun v694 hv694 => ?_)
      exact WP_zret dX11_peek_44 rfl (nar_z (by omega)) ⟨⟨hI683, rfl, fr693, frj0, fr692, ⟨(by rw [e687, e688]; omega), (by rw [e685, ew670] <;> exact (eq32 _ _).mpr (by omega)), (by rw [e686, ew671] <;> exact (eq32 _ _).mpr (by omega))⟩⟩, _, rfl, by omega, by omega, by (try rw [e691]); omega⟩
    · refine WP_aload_n dX11_peek_29 rfl ?_
      refine WQ_iconst (2) (2) dX11_peek_30 rfl rfl (fun v695 hv695 => ?_)
      refine WP_callV1 (k := 11) dX11_peek_31 ⟨⟨⟨by decide, by decide⟩, zX11_bad⟩, lX11_49, by decide, rfl, vX11_bad.1, vX11_bad.2⟩ (ly_is hy 0 11 rfl) (sm_bad2 hy hr hI v695  (by rw [ew672, ew673]; omega)) (Nat.le_of_ble_eq_true rfl) ?_
      intro r I696 J697 Ra hq
      obtain ⟨⟨hI696, ec, fiI696, fjI696, fqI696, ⟨pI696, sI696_0_15, sI696_0_16⟩⟩, v698, rfl, av698, bv698⟩ := hq
      show WP _ _ _ _ (.int _ :: _) _ _ _ _
      rw [ec]
      clear ec Ra
      have fr699 : fz 49 g [0] I I696 := fz_tr fr0 (fz_mono fiI696 (by decide))
      have fr700 : fs g [7, 8, 9] I I696 := fs_tr frq0 (fs_mono fqI696 (by decide))
      have fr701 : fz 49 g [] J J697 := fz_tr frj0 (fz_mono fjI696 (by decide))
      have e702 : I696 (ad g 0) 15 = w670 := by rw [sI696_0_15]; exact ew670
      have e703 : I696 (ad g 0) 16 = w671 := by rw [sI696_0_16]; exact ew671
      have e704 : I696 (ad g 0) 1 = L := hI696.1.2
      have b705 := BT_get hI696.1.1 0 1 2 (0) (0) (900) (by decide) 1 (by decide) (by decide)
      rw [e704] at b705
      obtain ⟨w706, ew706⟩ : ∃ w : Int32, I696 (ad g 0) 4 = w := ⟨_, rfl⟩
      have bw706 := BT_get hI696.1.1 0 4 5 (0) (0) (900) (by decide) 4 (by decide) (by decide)
      rw [ew706] at bw706
      obtain ⟨w707, ew707⟩ : ∃ w : Int32, I696 (ad g 0) 2 = w := ⟨_, rfl⟩
      have bw707 := BT_get hI696.1.1 0 2 3 (0) (0) (900) (by decide) 2 (by decide) (by decide)
      rw [ew707] at bw707
      rw [ew706, ew707] at pI696
      obtain ⟨w708, ew708⟩ : ∃ w : Int32, I696 (ad g 0) 7 = w := ⟨_, rfl⟩
      have bw708 := BT_get hI696.1.1 0 7 8 (-1) (0) (1000) (by decide) 7 (by decide) (by decide)
      rw [ew708] at bw708
      exact WP_zret dX11_peek_34 rfl (nar_z (by omega)) ⟨⟨hI696, rfl, fr699, fr701, fr700, ⟨(by rw [ew706, ew707]; omega), (by rw [e702, ew670] <;> exact (eq32 _ _).mpr (by omega)), (by rw [e703, ew671] <;> exact (eq32 _ _).mpr (by omega))⟩⟩, _, rfl, by omega, by omega, by (try rw [ew708]); omega⟩
  · refine WP_aload_n dX11_peek_8 rfl ?_
    refine WQ_iconst (1) (1) dX11_peek_9 rfl rfl (fun v709 hv709 => ?_)
    refine WP_callV1 (k := 11) dX11_peek_10 ⟨⟨⟨by decide, by decide⟩, zX11_bad⟩, lX11_49, by decide, rfl, vX11_bad.1, vX11_bad.2⟩ (ly_is hy 0 11 rfl) (sm_bad2 hy hr hI v709  (by rw [ew672, ew673]; omega)) (Nat.le_of_ble_eq_true rfl) ?_
    intro r I710 J711 Ra hq
    obtain ⟨⟨hI710, ec, fiI710, fjI710, fqI710, ⟨pI710, sI710_0_15, sI710_0_16⟩⟩, v712, rfl, av712, bv712⟩ := hq
    show WP _ _ _ _ (.int _ :: _) _ _ _ _
    rw [ec]
    clear ec Ra
    have fr713 : fz 49 g [0] I I710 := fz_tr fr0 (fz_mono fiI710 (by decide))
    have fr714 : fs g [7, 8, 9] I I710 := fs_tr frq0 (fs_mono fqI710 (by decide))
    have fr715 : fz 49 g [] J J711 := fz_tr frj0 (fz_mono fjI710 (by decide))
    have e716 : I710 (ad g 0) 15 = w670 := by rw [sI710_0_15]; exact ew670
    have e717 : I710 (ad g 0) 16 = w671 := by rw [sI710_0_16]; exact ew671
    have e718 : I710 (ad g 0) 1 = L := hI710.1.2
    have b719 := BT_get hI710.1.1 0 1 2 (0) (0) (900) (by decide) 1 (by decide) (by decide)
    rw [e718] at b719
    obtain ⟨w720, ew720⟩ : ∃ w : Int32, I710 (ad g 0) 4 = w := ⟨_, rfl⟩
    have bw720 := BT_get hI710.1.1 0 4 5 (0) (0) (900) (by decide) 4 (by decide) (by decide)
    rw [ew720] at bw720
    obtain ⟨w721, ew721⟩ : ∃ w : Int32, I710 (ad g 0) 2 = w := ⟨_, rfl⟩
    have bw721 := BT_get hI710.1.1 0 2 3 (0) (0) (900) (by decide) 2 (by decide) (by decide)
    rw [ew721] at bw721
    rw [ew720, ew721] at pI710
    obtain ⟨w722, ew722⟩ : ∃ w : Int32, I710 (ad g 0) 7 = w := ⟨_, rfl⟩
    have bw722 := BT_get hI710.1.1 0 7 8 (-1) (0) (1000) (by decide) 7 (by decide) (by decide)
    rw [ew722] at bw722
    exact WP_zret dX11_peek_13 rfl (nar_z (by omega)) ⟨⟨hI710, rfl, fr713, fr715, fr714, ⟨(by rw [ew720, ew721]; omega), (by rw [e716, ew670] <;> exact (eq32 _ _).mpr (by omega)), (by rw [e717, ew671] <;> exact (eq32 _ _).mpr (by omega))⟩⟩, _, rfl, by omega, by omega, by (try rw [ew722]); omega⟩
set_option maxHeartbeats 4000000 in
set_option maxRecDepth 100000 in
theorem sm_number {g : GG} {n : Int} {L : Int32} (hy : Ly g)  {I : pI} {J : pJ} {R : pR} (hr : Rf g R) (hI : MP g n L I) (lo : Int32) (hi : Int32) (lo_lo : -1 ≤ lo.toInt) (lo_hi : lo.toInt ≤ 1000) (hi_lo : -1 ≤ hi.toInt) (hi_hi : hi.toInt ≤ 1000) (hb : (I (ad g 0) 4).toInt ≤ (I (ad g 0) 2).toInt) : SP g mX11_number [.ref (ad g 0), .int lo, .int hi] I J R (fun r I' J' R' => (MP g n L I' ∧ R' = R ∧ fz 49 g [0] I I' ∧ fz 49 g [] J J' ∧ fs g [3, 4, 5, 6, 7, 8, 9] I I' ∧ (I' (ad g 0) 4).toInt ≤ (I' (ad g 0) 2).toInt ∧ I' (ad g 0) 15 = I (ad g 0) 15 ∧ I' (ad g 0) 16 = I (ad g 0) 16) ∧ ∃ v : Int32, r = some (.int v) ∧ 0 ≤ v.toInt ∧ v.toInt ≤ 1 ∧ (v.toInt = 1 → lo.toInt ≤ (I' (ad g 0) 7).toInt ∧ (I' (ad g 0) 7).toInt ≤ hi.toInt)) := by
  refine SP_of ⟨by decide, rfl⟩ (Nat.le_of_ble_eq_true rfl) ?_
  have e723 : I (ad g 0) 1 = L := hI.1.2
  have b724 := BT_get hI.1.1 0 1 2 (0) (0) (900) (by decide) 1 (by decide) (by decide)
  rw [e723] at b724
  have fr0 : fz 49 g [0] I I := fz_rf
  have frj0 : fz 49 g [] J J := fz_rf
  have frq0 : fs g [3, 4, 5, 6, 7, 8, 9] I I := fs_rf
  obtain ⟨w725, ew725⟩ : ∃ w : Int32, I (ad g 0) 15 = w := ⟨_, rfl⟩
  have bw725 := BT_get hI.1.1 0 15 16 (0) (0) (4) (by decide) 15 (by decide) (by decide)
  rw [ew725] at bw725
  obtain ⟨w726, ew726⟩ : ∃ w : Int32, I (ad g 0) 16 = w := ⟨_, rfl⟩
  have bw726 := BT_get hI.1.1 0 16 17 (0) (0) (3) (by decide) 16 (by decide) (by decide)
  rw [ew726] at bw726
  obtain ⟨w727, ew727⟩ : ∃ w : Int32, I (ad g 0) 4 = w := ⟨_, rfl⟩
  have bw727 := BT_get hI.1.1 0 4 5 (0) (0) (900) (by decide) 4 (by decide) (by decide)
  rw [ew727] at bw727
  obtain ⟨w728, ew728⟩ : ∃ w : Int32, I (ad g 0) 2 = w := ⟨_, rfl⟩
  have bw728 := BT_get hI.1.1 0 2 3 (0) (0) (900) (by decide) 2 (by decide) (by decide)
  rw [ew728] at bw728
  rw [ew727, ew728] at hb
  refine WP_aload_n dX11_number_0 rfl ?_
  refine WP_iload_n dX11_number_1 rfl ?_
  refine WP_iload_n dX11_number_2 rfl ?_
  refine WP_callV2 (k := 11) dX11_number_3 ⟨⟨⟨by decide, by decide⟩, zX11_peek⟩, lX11_59, by decide, rfl, vX11_peek.1, vX11_peek.2⟩ (ly_is hy 0 11 rfl) (sm_peek hy hr hI lo hi (by omega) (by omega) (by omega) (by omega) (by rw [ew727, ew728]; omega)) (Nat.le_of_ble_eq_true rfl) ?_
  intro r I729 J730 Ra hq
  obtain ⟨⟨hI729, ec, fiI729, fjI729, fqI729, ⟨pI729, sI729_0_15, sI729_0_16⟩⟩, v731, rfl, av731, bv731, cv731⟩ := hq
  show WP _ _ _ _ (.int _ :: _) _ _ _ _
  rw [ec]
  clear ec Ra
  have fr732 : fz 49 g [0] I I729 := fz_tr fr0 (fz_mono fiI729 (by decide))
  have fr733 : fs g [3, 4, 5, 6, 7, 8, 9] I I729 := fs_tr frq0 (fs_mono fqI729 (by decide))
  have fr734 : fz 49 g [] J J730 := fz_tr frj0 (fz_mono fjI729 (by decide))
  have e735 : I729 (ad g 0) 15 = w725 := by rw [sI729_0_15]; exact ew725
  have e736 : I729 (ad g 0) 16 = w726 := by rw [sI729_0_16]; exact ew726
  have e737 : I729 (ad g 0) 1 = L := hI729.1.2
  have b738 := BT_get hI729.1.1 0 1 2 (0) (0) (900) (by decide) 1 (by decide) (by decide)
  rw [e737] at b738
  obtain ⟨w739, ew739⟩ : ∃ w : Int32, I729 (ad g 0) 4 = w := ⟨_, rfl⟩
  have bw739 := BT_get hI729.1.1 0 4 5 (0) (0) (900) (by decide) 4 (by decide) (by decide)
  rw [ew739] at bw739
  obtain ⟨w740, ew740⟩ : ∃ w : Int32, I729 (ad g 0) 2 = w := ⟨_, rfl⟩
  have bw740 := BT_get hI729.1.1 0 2 3 (0) (0) (900) (by decide) 2 (by decide) (by decide)
  rw [ew740] at bw740
  rw [ew739, ew740] at pI729
  obtain ⟨w741, ew741⟩ : ∃ w : Int32, I729 (ad g 0) 7 = w := ⟨_, rfl⟩
  have bw741 := BT_get hI729.1.1 0 7 8 (-1) (0) (1000) (by decide) 7 (by decide) (by decide)
  rw [ew741] at bw741
  rw [ew741] at cv731
  refine WQ_if_ne 11 dX11_number_6 rfl (fun c741 => ?_) (fun c741 => ?_)
  · refine WP_aload_n dX11_number_11 rfl ?_
    refine WP_callV0 (k := 11) dX11_number_12 ⟨⟨⟨by decide, by decide⟩, zX11_scan⟩, lX11_63, by decide, rfl, vX11_scan.1, vX11_scan.2⟩ (ly_is hy 0 11 rfl) (sm_scan hy hr hI729   (by rw [ew739, ew740]; omega)) (Nat.le_of_ble_eq_true rfl) ?_
    intro r I743 J744 Ra hq
    obtain ⟨⟨hI743, ec, fiI743, fjI743, fqI743, ⟨pI743, sI743_0_7, sI743_0_15, sI743_0_16⟩⟩, rfl⟩ := hq
    rw [ec]
    clear ec Ra
    have fr745 : fz 49 g [0] I I743 := fz_tr fr732 (fz_mono fiI743 (by decide))
    have fr746 : fs g [3, 4, 5, 6, 7, 8, 9] I I743 := fs_tr fr733 (fs_mono fqI743 (by decide))
    have fr747 : fz 49 g [] J J744 := fz_tr fr734 (fz_mono fjI743 (by decide))
    have e748 : I743 (ad g 0) 7 = w741 := by rw [sI743_0_7]; exact ew741
    have e749 : I743 (ad g 0) 15 = w725 := by rw [sI743_0_15]; exact e735
    have e750 : I743 (ad g 0) 16 = w726 := by rw [sI743_0_16]; exact e736
    have e751 : I743 (ad g 0) 1 = L := hI743.1.2
    have b752 := BT_get hI743.1.1 0 1 2 (0) (0) (900) (by decide) 1 (by decide) (by decide)
    rw [e751] at b752
    obtain ⟨w753, ew753⟩ : ∃ w : Int32, I743 (ad g 0) 4 = w := ⟨_, rfl⟩
    have bw753 := BT_get hI743.1.1 0 4 5 (0) (0) (900) (by decide) 4 (by decide) (by decide)
    rw [ew753] at bw753
    obtain ⟨w754, ew754⟩ : ∃ w : Int32, I743 (ad g 0) 2 = w := ⟨_, rfl⟩
    have bw754 := BT_get hI743.1.1 0 2 3 (0) (0) (900) (by decide) 2 (by decide) (by decide)
    rw [ew754] at bw754
    rw [ew753, ew754] at pI743
    refine WQ_iconst (1) (1) dX11_number_15 rfl rfl (fun v755 hv755 => ?_)
    exact WP_zret dX11_number_16 rfl (nar_z (by omega)) ⟨⟨hI743, rfl, fr745, fr747, fr746, ⟨(by rw [ew753, ew754]; omega), (by rw [e749, ew725] <;> exact (eq32 _ _).mpr (by omega)), (by rw [e750, ew726] <;> exact (eq32 _ _).mpr (by omega))⟩⟩, _, rfl, by omega, by omega, by (try rw [e748]); omega⟩
  · refine WQ_iconst (0) (0) dX11_number_9 rfl rfl (fun v756 hv756 => ?_)
    exact WP_zret dX11_number_10 rfl (nar_z (by omega)) ⟨⟨hI729, rfl, fr732, fr734, fr733, ⟨(by rw [ew739, ew740]; omega), (by rw [e735, ew725] <;> exact (eq32 _ _).mpr (by omega)), (by rw [e736, ew726] <;> exact (eq32 _ _).mpr (by omega))⟩⟩, _, rfl, by omega, by omega, by (try rw [ew741]); omega⟩
set_option maxHeartbeats 4000000 in
set_option maxRecDepth 100000 in
theorem sm_close {g : GG} {n : Int} {L : Int32} (hy : Ly g)  {I : pI} {J : pJ} {R : pR} (hr : Rf g R) (hI : MP g n L I)   (hb : (I (ad g 0) 4).toInt ≤ (I (ad g 0) 2).toInt) : SP g mX11_close [.ref (ad g 0)] I J R (fun r I' J' R' => (MP g n L I' ∧ R' = R ∧ fz 49 g [0] I I' ∧ fz 49 g [] J J' ∧ fs g [3, 4, 5, 6, 8, 9] I I' ∧ (I' (ad g 0) 4).toInt ≤ (I' (ad g 0) 2).toInt ∧ I' (ad g 0) 15 = I (ad g 0) 15 ∧ I' (ad g 0) 16 = I (ad g 0) 16) ∧ ∃ v : Int32, r = some (.int v) ∧ 0 ≤ v.toInt ∧ v.toInt ≤ 1) := by
  refine SP_of ⟨by decide, rfl⟩ (Nat.le_of_ble_eq_true rfl) ?_
  have e757 : I (ad g 0) 1 = L := hI.1.2
  have b758 := BT_get hI.1.1 0 1 2 (0) (0) (900) (by decide) 1 (by decide) (by decide)
  rw [e757] at b758
  have fr0 : fz 49 g [0] I I := fz_rf
  have frj0 : fz 49 g [] J J := fz_rf
  have frq0 : fs g [3, 4, 5, 6, 8, 9] I I := fs_rf
  obtain ⟨w759, ew759⟩ : ∃ w : Int32, I (ad g 0) 15 = w := ⟨_, rfl⟩
  have bw759 := BT_get hI.1.1 0 15 16 (0) (0) (4) (by decide) 15 (by decide) (by decide)
  rw [ew759] at bw759
  obtain ⟨w760, ew760⟩ : ∃ w : Int32, I (ad g 0) 16 = w := ⟨_, rfl⟩
  have bw760 := BT_get hI.1.1 0 16 17 (0) (0) (3) (by decide) 16 (by decide) (by decide)
  rw [ew760] at bw760
  obtain ⟨w761, ew761⟩ : ∃ w : Int32, I (ad g 0) 4 = w := ⟨_, rfl⟩
  have bw761 := BT_get hI.1.1 0 4 5 (0) (0) (900) (by decide) 4 (by decide) (by decide)
  rw [ew761] at bw761
  obtain ⟨w762, ew762⟩ : ∃ w : Int32, I (ad g 0) 2 = w := ⟨_, rfl⟩
  have bw762 := BT_get hI.1.1 0 2 3 (0) (0) (900) (by decide) 2 (by decide) (by decide)
  rw [ew762] at bw762
  rw [ew761, ew762] at hb
  refine WP_aload_n dX11_close_0 rfl ?_
  refine WQ_geti dX11_close_1 fX11_27 rfl (ly_is hy 0 11 rfl) (BT_get hI.1.1 0 5 6 (0) (0) (4) (by decide) 5 (by decide) (by decide)) (fun v763 ev763 av763 bv763 => ?_)
  refine WQ_iconst (3) (3) dX11_close_4 rfl rfl (fun v764 hv764 => ?_)
  refine WQ_icmp_eq 14 dX11_close_5 rfl (fun c764 => ?_) (fun c764 => ?_)
  · refine WP_aload_n dX11_close_14 rfl ?_
    refine WP_callV0 (k := 11) dX11_close_15 ⟨⟨⟨by decide, by decide⟩, zX11_scan⟩, lX11_63, by decide, rfl, vX11_scan.1, vX11_scan.2⟩ (ly_is hy 0 11 rfl) (sm_scan hy hr hI   (by rw [ew761, ew762]; omega)) (Nat.le_of_ble_eq_true rfl) ?_
    intro r I766 J767 Ra hq
    obtain ⟨⟨hI766, ec, fiI766, fjI766, fqI766, ⟨pI766, sI766_0_7, sI766_0_15, sI766_0_16⟩⟩, rfl⟩ := hq
    rw [ec]
    clear ec Ra
    have fr768 : fz 49 g [0] I I766 := fz_tr fr0 (fz_mono fiI766 (by decide))
    have fr769 : fs g [3, 4, 5, 6, 8, 9] I I766 := fs_tr frq0 (fs_mono fqI766 (by decide))
    have fr770 : fz 49 g [] J J767 := fz_tr frj0 (fz_mono fjI766 (by decide))
    have e771 : I766 (ad g 0) 15 = w759 := by rw [sI766_0_15]; exact ew759
    have e772 : I766 (ad g 0) 16 = w760 := by rw [sI766_0_16]; exact ew760
    have e773 : I766 (ad g 0) 1 = L := hI766.1.2
    have b774 := BT_get hI766.1.1 0 1 2 (0) (0) (900) (by decide) 1 (by decide) (by decide)
    rw [e773] at b774
    obtain ⟨w775, ew775⟩ : ∃ w : Int32, I766 (ad g 0) 4 = w := ⟨_, rfl⟩
    have bw775 := BT_get hI766.1.1 0 4 5 (0) (0) (900) (by decide) 4 (by decide) (by decide)
    rw [ew775] at bw775
    obtain ⟨w776, ew776⟩ : ∃ w : Int32, I766 (ad g 0) 2 = w := ⟨_, rfl⟩
    have bw776 := BT_get hI766.1.1 0 2 3 (0) (0) (900) (by decide) 2 (by decide) (by decide)
    rw [ew776] at bw776
    rw [ew775, ew776] at pI766
    refine WQ_iconst (1) (1) dX11_close_18 rfl rfl (fun v777 hv777 => ?_)
    exact WP_zret dX11_close_19 rfl (nar_z (by omega)) ⟨⟨hI766, rfl, fr768, fr770, fr769, ⟨(by rw [ew775, ew776]; omega), (by rw [e771, ew759] <;> exact (eq32 _ _).mpr (by omega)), (by rw [e772, ew760] <;> exact (eq32 _ _).mpr (by omega))⟩⟩, _, rfl, by omega, by omega⟩
  · refine WP_aload_n dX11_close_8 rfl ?_
    refine WQ_iconst (1) (1) dX11_close_9 rfl rfl (fun v778 hv778 => ?_)
    refine WP_callV1 (k := 11) dX11_close_10 ⟨⟨⟨by decide, by decide⟩, zX11_bad⟩, lX11_49, by decide, rfl, vX11_bad.1, vX11_bad.2⟩ (ly_is hy 0 11 rfl) (sm_bad2 hy hr hI v778  (by rw [ew761, ew762]; omega)) (Nat.le_of_ble_eq_true rfl) ?_
    intro r I779 J780 Ra hq
    obtain ⟨⟨hI779, ec, fiI779, fjI779, fqI779, ⟨pI779, sI779_0_15, sI779_0_16⟩⟩, v781, rfl, av781, bv781⟩ := hq
    show WP _ _ _ _ (.int _ :: _) _ _ _ _
    rw [ec]
    clear ec Ra
    have fr782 : fz 49 g [0] I I779 := fz_tr fr0 (fz_mono fiI779 (by decide))
    have fr783 : fs g [3, 4, 5, 6, 8, 9] I I779 := fs_tr frq0 (fs_mono fqI779 (by decide))
    have fr784 : fz 49 g [] J J780 := fz_tr frj0 (fz_mono fjI779 (by decide))
    have e785 : I779 (ad g 0) 15 = w759 := by rw [sI779_0_15]; exact ew759
    have e786 : I779 (ad g 0) 16 = w760 := by rw [sI779_0_16]; exact ew760
    have e787 : I779 (ad g 0) 1 = L := hI779.1.2
    have b788 := BT_get hI779.1.1 0 1 2 (0) (0) (900) (by decide) 1 (by decide) (by decide)
    rw [e787] at b788
    obtain ⟨w789, ew789⟩ : ∃ w : Int32, I779 (ad g 0) 4 = w := ⟨_, rfl⟩
    have bw789 := BT_get hI779.1.1 0 4 5 (0) (0) (900) (by decide) 4 (by decide) (by decide)
    rw [ew789] at bw789
    obtain ⟨w790, ew790⟩ : ∃ w : Int32, I779 (ad g 0) 2 = w := ⟨_, rfl⟩
    have bw790 := BT_get hI779.1.1 0 2 3 (0) (0) (900) (by decide) 2 (by decide) (by decide)
    rw [ew790] at bw790
    rw [ew789, ew790] at pI779
    exact WP_zret dX11_close_13 rfl (nar_z (by omega)) ⟨⟨hI779, rfl, fr782, fr784, fr783, ⟨(by rw [ew789, ew790]; omega), (by rw [e785, ew759] <;> exact (eq32 _ _).mpr (by omega)), (by rw [e786, ew760] <;> exact (eq32 _ _).mpr (by omega))⟩⟩, _, rfl, by omega, by omega⟩
set_option maxHeartbeats 4000000 in
set_option maxRecDepth 100000 in
theorem sm_open {g : GG} {n : Int} {L : Int32} (hy : Ly g)  {I : pI} {J : pJ} {R : pR} (hr : Rf g R) (hI : MP g n L I)   : SP g mX11_open [.ref (ad g 0)] I J R (fun r I' J' R' => ((∃ L2 : Int32, MP g n L2 I' ∧ L2.toInt = 0) ∧ R' = R ∧ fz 49 g [0] I I' ∧ fz 49 g [] J J' ∧ fs g [1, 2, 3, 4, 5, 6, 8, 9] I I' ∧ (I' (ad g 0) 4).toInt ≤ (I' (ad g 0) 2).toInt) ∧ r = none) := by
  refine SP_of ⟨by decide, rfl⟩ (Nat.le_of_ble_eq_true rfl) ?_
  have e1956 : I (ad g 0) 1 = L := hI.1.2
  have b1957 := BT_get hI.1.1 0 1 2 (0) (0) (900) (by decide) 1 (by decide) (by decide)
  rw [e1956] at b1957
  have fr0 : fz 49 g [0] I I := fz_rf
  have frj0 : fz 49 g [] J J := fz_rf
  have frq0 : fs g [1, 2, 3, 4, 5, 6, 8, 9] I I := fs_rf
  refine WP_aload_n dX11_open_0 rfl ?_
  refine WP_aload_n dX11_open_1 rfl ?_
  refine WQ_getim dX11_open_2 fX11_75 rfl (ly_is hy 0 11 rfl) e1956 ?_
  refine WQ_puti dX11_open_5 fX11_13 rfl rfl (ly_is hy 0 11 rfl) (fun I1958 eI1958 => ?_)
  have hI1958 : MP g n L I1958 := by rw [eI1958]; exact (mp_w hy hI (c := 0) (mi_f hy hI.1 (c := 0) (0) (0) (900) (by decide) (Or.inr (by decide)) (by decide) (by omega) (by omega)) (by decide) (by decide) (Or.inr (by decide)))
  have e1959 : I1958 (ad g 0) 1 = L := by rw [eI1958, pp_ne _ _ (Or.inr (by decide))]; exact e1956
  have e1960 : I1958 (ad g 0) 2 = L := by rw [eI1958, pp_self]
  have fr1961 : fs g [1, 2, 3, 4, 5, 6, 8, 9] I I1958 := by rw [eI1958]; exact fs_pp0 frq0 (by decide)
  have fr1962 : fz 49 g [0] I I1958 := by rw [eI1958]; exact fzm_pp hy fr0 (by decide) (by decide)
  clear eI1958
  refine WP_aload_n dX11_open_8 rfl ?_
  refine WQ_iconst (0) (0) dX11_open_9 rfl rfl (fun v1963 hv1963 => ?_)
  refine WQ_puti dX11_open_10 fX11_75 rfl rfl (ly_is hy 0 11 rfl) (fun I1964 eI1964 => ?_)
  have hI1964 : MP g n v1963 I1964 := by rw [eI1964]; exact (mp_w hy hI1958 (c := 0) (mi_len hy hI1958.1 (by omega) (by omega)) (by decide) (by decide) (Or.inr (by decide)))
  have e1965 : I1964 (ad g 0) 2 = L := by rw [eI1964, pp_ne _ _ (Or.inr (by decide))]; exact e1960
  have e1966 : I1964 (ad g 0) 1 = v1963 := by rw [eI1964, pp_self]
  have fr1967 : fs g [1, 2, 3, 4, 5, 6, 8, 9] I I1964 := by rw [eI1964]; exact fs_pp0 fr1961 (by decide)
  have fr1968 : fz 49 g [0] I I1964 := by rw [eI1964]; exact fzm_pp hy fr1962 (by decide) (by decide)
  clear eI1964
  refine WP_aload_n dX11_open_13 rfl ?_
  refine WQ_iconst (0) (0) dX11_open_14 rfl rfl (fun v1969 hv1969 => ?_)
  refine WQ_puti dX11_open_15 fX11_20 rfl rfl (ly_is hy 0 11 rfl) (fun I1970 eI1970 => ?_)
  have hI1970 : MP g n v1963 I1970 := by rw [eI1970]; exact (mp_w hy hI1964 (c := 0) (mi_f hy hI1964.1 (c := 0) (0) (0) (900) (by decide) (Or.inr (by decide)) (by decide) (by omega) (by omega)) (by decide) (by decide) (Or.inr (by decide)))
  have e1971 : I1970 (ad g 0) 2 = L := by rw [eI1970, pp_ne _ _ (Or.inr (by decide))]; exact e1965
  have e1972 : I1970 (ad g 0) 1 = v1963 := by rw [eI1970, pp_ne _ _ (Or.inr (by decide))]; exact e1966
  have e1973 : I1970 (ad g 0) 4 = v1969 := by rw [eI1970, pp_self]
  have fr1974 : fs g [1, 2, 3, 4, 5, 6, 8, 9] I I1970 := by rw [eI1970]; exact fs_pp0 fr1967 (by decide)
  have fr1975 : fz 49 g [0] I I1970 := by rw [eI1970]; exact fzm_pp hy fr1968 (by decide) (by decide)
  clear eI1970
  refine WP_aload_n dX11_open_18 rfl ?_
  refine WQ_iconst (0) (0) dX11_open_19 rfl rfl (fun v1976 hv1976 => ?_)
  refine WQ_puti dX11_open_20 fX11_3 rfl rfl (ly_is hy 0 11 rfl) (fun I1977 eI1977 => ?_)
  have hI1977 : MP g n v1963 I1977 := by rw [eI1977]; exact (mp_w hy hI1970 (c := 0) (mi_f0 hy hI1970.1 (c := 0) (by decide) (Or.inr (by decide)) (by decide)) (by decide) (by decide) (Or.inr (by decide)))
  have e1978 : I1977 (ad g 0) 2 = L := by rw [eI1977, pp_ne _ _ (Or.inr (by decide))]; exact e1971
  have e1979 : I1977 (ad g 0) 1 = v1963 := by rw [eI1977, pp_ne _ _ (Or.inr (by decide))]; exact e1972
  have e1980 : I1977 (ad g 0) 4 = v1969 := by rw [eI1977, pp_ne _ _ (Or.inr (by decide))]; exact e1973
  have e1981 : I1977 (ad g 0) 8 = v1976 := by rw [eI1977, pp_self]
  have fr1982 : fs g [1, 2, 3, 4, 5, 6, 8, 9] I I1977 := by rw [eI1977]; exact fs_pp0 fr1974 (by decide)
  have fr1983 : fz 49 g [0] I I1977 := by rw [eI1977]; exact fzm_pp hy fr1975 (by decide) (by decide)
  clear eI1977
  refine WP_aload_n dX11_open_23 rfl ?_
  refine WQ_iconst (-1) (-1) dX11_open_24 rfl rfl (fun v1984 hv1984 => ?_)
  refine WQ_puti dX11_open_25 fX11_10 rfl rfl (ly_is hy 0 11 rfl) (fun I1985 eI1985 => ?_)
  have hI1985 : MP g n v1963 I1985 := by rw [eI1985]; exact (mp_w hy hI1977 (c := 0) (mi_f0 hy hI1977.1 (c := 0) (by decide) (Or.inr (by decide)) (by decide)) (by decide) (by decide) (Or.inr (by decide)))
  have e1986 : I1985 (ad g 0) 2 = L := by rw [eI1985, pp_ne _ _ (Or.inr (by decide))]; exact e1978
  have e1987 : I1985 (ad g 0) 1 = v1963 := by rw [eI1985, pp_ne _ _ (Or.inr (by decide))]; exact e1979
  have e1988 : I1985 (ad g 0) 4 = v1969 := by rw [eI1985, pp_ne _ _ (Or.inr (by decide))]; exact e1980
  have e1989 : I1985 (ad g 0) 8 = v1976 := by rw [eI1985, pp_ne _ _ (Or.inr (by decide))]; exact e1981
  have e1990 : I1985 (ad g 0) 9 = v1984 := by rw [eI1985, pp_self]
  have fr1991 : fs g [1, 2, 3, 4, 5, 6, 8, 9] I I1985 := by rw [eI1985]; exact fs_pp0 fr1982 (by decide)
  have fr1992 : fz 49 g [0] I I1985 := by rw [eI1985]; exact fzm_pp hy fr1983 (by decide) (by decide)
  clear eI1985
  refine WP_aload_n dX11_open_28 rfl ?_
  refine WP_callV0 (k := 11) dX11_open_29 ⟨⟨⟨by decide, by decide⟩, zX11_scan⟩, lX11_63, by decide, rfl, vX11_scan.1, vX11_scan.2⟩ (ly_is hy 0 11 rfl) (sm_scan hy hr hI1985   (by rw [e1988, e1986]; omega)) (Nat.le_of_ble_eq_true rfl) ?_
  intro r I1993 J1994 Ra hq
  obtain ⟨⟨hI1993, ec, fiI1993, fjI1993, fqI1993, ⟨pI1993, sI1993_0_7, sI1993_0_15, sI1993_0_16⟩⟩, rfl⟩ := hq
  rw [ec]
  clear ec Ra
  have fr1995 : fz 49 g [0] I I1993 := fz_tr fr1992 (fz_mono fiI1993 (by decide))
  have fr1996 : fs g [1, 2, 3, 4, 5, 6, 8, 9] I I1993 := fs_tr fr1991 (fs_mono fqI1993 (by decide))
  have fr1997 : fz 49 g [] J J1994 := fz_tr frj0 (fz_mono fjI1993 (by decide))
  have e1998 : I1993 (ad g 0) 1 = v1963 := hI1993.1.2
  have b1999 := BT_get hI1993.1.1 0 1 2 (0) (0) (900) (by decide) 1 (by decide) (by decide)
  rw [e1998] at b1999
  obtain ⟨w2000, ew2000⟩ : ∃ w : Int32, I1993 (ad g 0) 4 = w := ⟨_, rfl⟩
  have bw2000 := BT_get hI1993.1.1 0 4 5 (0) (0) (900) (by decide) 4 (by decide) (by decide)
  rw [ew2000] at bw2000
  obtain ⟨w2001, ew2001⟩ : ∃ w : Int32, I1993 (ad g 0) 2 = w := ⟨_, rfl⟩
  have bw2001 := BT_get hI1993.1.1 0 2 3 (0) (0) (900) (by decide) 2 (by decide) (by decide)
  rw [ew2001] at bw2001
  rw [ew2000, ew2001] at pI1993
  exact WP_vret dX11_open_32 rfl ⟨⟨⟨_, hI1993, by omega⟩, rfl, fr1995, fr1997, fr1996, (by rw [ew2000, ew2001]; omega)⟩, rfl⟩
