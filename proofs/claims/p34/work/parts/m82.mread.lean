set_option maxHeartbeats 4000000 in
set_option maxRecDepth 100000 in
theorem sm_bad2 {g : GG} {n : Int} {L : Int32} (hy : Ly g)  {I : pI} {J : pJ} {R : pR} (hr : Rf g R) (hI : MP g n L I) (k : Int32)  (hb : (I (ad g 0) 4).toInt ≤ (I (ad g 0) 2).toInt) : SP g mX11_bad [.ref (ad g 0), .int k] I J R (fun r I' J' R' => (MP g n L I' ∧ R' = R ∧ fz 49 g [0] I I' ∧ fz 49 g [] J J' ∧ fs g [8, 9] I I' ∧ (I' (ad g 0) 4).toInt ≤ (I' (ad g 0) 2).toInt ∧ I' (ad g 0) 15 = I (ad g 0) 15 ∧ I' (ad g 0) 16 = I (ad g 0) 16) ∧ ∃ v : Int32, r = some (.int v) ∧ 0 ≤ v.toInt ∧ v.toInt ≤ 0) := by
  refine SP_of ⟨by decide, rfl⟩ (Nat.le_of_ble_eq_true rfl) ?_
  have e578 : I (ad g 0) 1 = L := hI.1.2
  have b579 := BT_get hI.1.1 0 1 2 (0) (0) (900) (by decide) 1 (by decide) (by decide)
  rw [e578] at b579
  have fr0 : fz 49 g [0] I I := fz_rf
  have frj0 : fz 49 g [] J J := fz_rf
  have frq0 : fs g [8, 9] I I := fs_rf
  obtain ⟨w580, ew580⟩ : ∃ w : Int32, I (ad g 0) 15 = w := ⟨_, rfl⟩
  have bw580 := BT_get hI.1.1 0 15 16 (0) (0) (4) (by decide) 15 (by decide) (by decide)
  rw [ew580] at bw580
  obtain ⟨w581, ew581⟩ : ∃ w : Int32, I (ad g 0) 16 = w := ⟨_, rfl⟩
  have bw581 := BT_get hI.1.1 0 16 17 (0) (0) (3) (by decide) 16 (by decide) (by decide)
  rw [ew581] at bw581
  obtain ⟨w582, ew582⟩ : ∃ w : Int32, I (ad g 0) 4 = w := ⟨_, rfl⟩
  have bw582 := BT_get hI.1.1 0 4 5 (0) (0) (900) (by decide) 4 (by decide) (by decide)
  rw [ew582] at bw582
  obtain ⟨w583, ew583⟩ : ∃ w : Int32, I (ad g 0) 2 = w := ⟨_, rfl⟩
  have bw583 := BT_get hI.1.1 0 2 3 (0) (0) (900) (by decide) 2 (by decide) (by decide)
  rw [ew583] at bw583
  rw [ew582, ew583] at hb
  refine WP_aload_n dX11_bad_0 rfl ?_
  refine WP_iload_n dX11_bad_1 rfl ?_
  refine WQ_puti dX11_bad_2 fX11_3 rfl rfl (ly_is hy 0 11 rfl) (fun I584 eI584 => ?_)
  have hI584 : MP g n L I584 := by rw [eI584]; exact (mp_w hy hI (c := 0) (mi_f0 hy hI.1 (c := 0) (by decide) (Or.inr (by decide)) (by decide)) (by decide) (by decide) (Or.inr (by decide)))
  have e585 : I584 (ad g 0) 1 = L := by rw [eI584, pp_ne _ _ (Or.inr (by decide))]; exact e578
  have e586 : I584 (ad g 0) 15 = w580 := by rw [eI584, pp_ne _ _ (Or.inr (by decide))]; exact ew580
  have e587 : I584 (ad g 0) 16 = w581 := by rw [eI584, pp_ne _ _ (Or.inr (by decide))]; exact ew581
  have e588 : I584 (ad g 0) 4 = w582 := by rw [eI584, pp_ne _ _ (Or.inr (by decide))]; exact ew582
  have e589 : I584 (ad g 0) 2 = w583 := by rw [eI584, pp_ne _ _ (Or.inr (by decide))]; exact ew583
  have e590 : I584 (ad g 0) 8 = k := by rw [eI584, pp_self]
  have fr591 : fs g [8, 9] I I584 := by rw [eI584]; exact fs_pp0 frq0 (by decide)
  have fr592 : fz 49 g [0] I I584 := by rw [eI584]; exact fzm_pp hy fr0 (by decide) (by decide)
  clear eI584
  refine WP_aload_n dX11_bad_5 rfl ?_
  refine WP_aload_n dX11_bad_6 rfl ?_
  refine WQ_geti dX11_bad_7 fX11_7 rfl (ly_is hy 0 11 rfl) (BT_get hI584.1.1 0 3 4 (0) (0) (900) (by decide) 3 (by decide) (by decide)) (fun v593 ev593 av593 bv593 => ?_)
  refine WQ_puti dX11_bad_10 fX11_10 rfl rfl (ly_is hy 0 11 rfl) (fun I594 eI594 => ?_)
  have hI594 : MP g n L I594 := by rw [eI594]; exact (mp_w hy hI584 (c := 0) (mi_f0 hy hI584.1 (c := 0) (by decide) (Or.inr (by decide)) (by decide)) (by decide) (by decide) (Or.inr (by decide)))
  have e595 : I594 (ad g 0) 1 = L := by rw [eI594, pp_ne _ _ (Or.inr (by decide))]; exact e585
  have e596 : I594 (ad g 0) 15 = w580 := by rw [eI594, pp_ne _ _ (Or.inr (by decide))]; exact e586
  have e597 : I594 (ad g 0) 16 = w581 := by rw [eI594, pp_ne _ _ (Or.inr (by decide))]; exact e587
  have e598 : I594 (ad g 0) 4 = w582 := by rw [eI594, pp_ne _ _ (Or.inr (by decide))]; exact e588
  have e599 : I594 (ad g 0) 2 = w583 := by rw [eI594, pp_ne _ _ (Or.inr (by decide))]; exact e589
  have e600 : I594 (ad g 0) 8 = k := by rw [eI594, pp_ne _ _ (Or.inr (by decide))]; exact e590
  have e601 : I594 (ad g 0) 3 = v593 := by rw [eI594, pp_ne _ _ (Or.inr (by decide))]; exact ev593
  have e602 : I594 (ad g 0) 9 = v593 := by rw [eI594, pp_self]
  have fr603 : fs g [8, 9] I I594 := by rw [eI594]; exact fs_pp0 fr591 (by decide)
  have fr604 : fz 49 g [0] I I594 := by rw [eI594]; exact fzm_pp hy fr592 (by decide) (by decide)
  clear eI594
  refine WQ_iconst (0) (0) dX11_bad_13 rfl rfl (fun v605 hv605 => ?_)
  exact WP_zret dX11_bad_14 rfl (nar_z (by omega)) ⟨⟨hI594, rfl, fr604, frj0, fr603, ⟨(by rw [e598, e599]; omega), (by rw [e596, ew580] <;> exact (eq32 _ _).mpr (by omega)), (by rw [e597, ew581] <;> exact (eq32 _ _).mpr (by omega))⟩⟩, _, rfl, by omega, by omega⟩
set_option maxHeartbeats 4000000 in
set_option maxRecDepth 100000 in
theorem sm_name {g : GG} {n : Int} {L : Int32} (hy : Ly g)  {I : pI} {J : pJ} {R : pR} (hr : Rf g R) (hI : MP g n L I)   : SP g mX11_name [.ref (ad g 0)] I J R (fun r I' J' R' => (I' = I ∧ J' = J ∧ R' = R) ∧ ∃ v : Int64, r = some (.long v)) := by
  refine SP_of ⟨by decide, rfl⟩ (Nat.le_of_ble_eq_true rfl) ?_
  have e606 : I (ad g 0) 1 = L := hI.1.2
  have b607 := BT_get hI.1.1 0 1 2 (0) (0) (900) (by decide) 1 (by decide) (by decide)
  rw [e606] at b607
  refine WP_lconst (0) dX11_name_0 rfl ?_
  obtain ⟨l608, hl608, el608⟩ : ∃ v : Int64, v.toInt = 0 ∧ (0 : Int64) = v := ⟨_, rfl, rfl⟩
  rw [el608]; clear el608
  refine WP_lstore_n (ls' := [(0, _), (1, _)]) dX11_name_1 (by decide) rfl ?_
  refine WP_aload_n dX11_name_2 rfl ?_
  refine WQ_geti dX11_name_3 fX11_7 rfl (ly_is hy 0 11 rfl) (BT_get hI.1.1 0 3 4 (0) (0) (900) (by decide) 3 (by decide) (by decide)) (fun v609 ev609 av609 bv609 => ?_)
  refine WP_istore_n (ls' := [(0, _), (1, _), (3, _)]) dX11_name_6 (by decide) rfl ?_
  have lp7_611 : ∀ (mz : Nat) (l610 : Int64) (i611 : Int32), 0 ≤ i611.toInt → i611.toInt ≤ 900 → (901 - i611.toInt).toNat < mz → WP g mX11_name 7 [(0, .ref (ad g 0)), (1, .long l610), (3, .int i611)] [] I J R (fun r I' J' R' => (I' = I ∧ J' = J ∧ R' = R) ∧ ∃ v : Int64, r = some (.long v)) := by
    intro mz
    induction mz with
    | zero =>
      intro l610 i611 ai611 bi611 hmlp7_611
      exact absurd hmlp7_611 (Nat.not_lt_zero _)
    | succ mz ihlp7_611 =>
      intro l610 i611 ai611 bi611 hmlp7_611
      refine WP_iload_n dX11_name_7 rfl ?_
      refine WP_aload_n dX11_name_8 rfl ?_
      refine WQ_geti dX11_name_9 fX11_20 rfl (ly_is hy 0 11 rfl) (BT_get hI.1.1 0 4 5 (0) (0) (900) (by decide) 4 (by decide) (by decide)) (fun v613 ev613 av613 bv613 => ?_)
      refine WQ_icmp_ge 35 dX11_name_12 rfl (fun c613 => ?_) (fun c613 => ?_)
      · refine WP_lload_n dX11_name_35 rfl ?_
        exact WP_lret dX11_name_36 rfl ⟨⟨rfl, rfl, rfl⟩, _, rfl⟩
      · refine WP_lload_n dX11_name_15 rfl ?_
        refine WQ_iconst (5) (5) dX11_name_16 rfl rfl (fun v615 hv615 => ?_)
        refine WQ_lshl dX11_name_17 (fun l616 => ?_)
        refine WP_aload_n dX11_name_18 rfl ?_
        refine WP_iload_n dX11_name_19 rfl ?_
        refine WP_callV1 (k := 11) dX11_name_20 ⟨⟨⟨by decide, by decide⟩, zX11_byteAt⟩, lX11_23, by decide, rfl, vX11_byteAt.1, vX11_byteAt.2⟩ (ly_is hy 0 11 rfl) (sm_byteAt hy hr hI i611 (by omega) (by omega)) (Nat.le_of_ble_eq_true rfl) ?_
        intro r Ia Ja Ra hq
        obtain ⟨⟨ea, eb, ec⟩, v617, rfl, cv617⟩ := hq
        show WP _ _ _ _ (.int _ :: _) _ _ _ _
        rw [ea, eb, ec]
        clear ea eb ec Ia Ja Ra
        obtain ⟨w618, ew618⟩ : ∃ w : Int32, I (ad g 0) 2 = w := ⟨_, rfl⟩
        have bw618 := BT_get hI.1.1 0 2 3 (0) (0) (900) (by decide) 2 (by decide) (by decide)
        rw [ew618] at bw618
        rw [ew618] at cv617
        refine WQ_bipush (96) (96) dX11_name_23 rfl rfl (fun v619 hv619 => ?_)
        refine WQ_isubu dX11_name_25 (fun v620 => ?_)
        refine WQ_i2l dX11_name_26 (fun l621 hl621 => ?_)
        refine WQ_lor dX11_name_27 (fun l622 => ?_)
        refine WP_lstore_n (ls' := [(0, _), (1, _), (3, _)]) dX11_name_28 (by decide) rfl ?_
        refine WP_iinc (ls' := [(0, _), (1, _), (3, _)]) dX11_name_29 rfl (by decide) rfl ?_
        have hv623 : (i611 + Int32.ofInt (1)).toInt = i611.toInt + (1) := ia_n rfl (by omega) (by omega)
        generalize i611 + Int32.ofInt (1) = v623 at hv623 ⊢
        refine WP_goto 7 dX11_name_32 rfl ?_
        exact WP_sub (fc rfl (fc rfl (fc rfl fn))) (ihlp7_611 l622 v623 (by omega) (by omega) (by omega))
  exact WP_sub (fc rfl (fc rfl (fc rfl fn))) (lp7_611 _ l608 v609 (by omega) (by omega) (Nat.lt_succ_self _))
set_option maxHeartbeats 4000000 in
set_option maxRecDepth 100000 in
theorem sm_find_2 {g : GG} {n : Int} {L : Int32} (hy : Ly g)  {I : pI} {J : pJ} {R : pR} (hr : Rf g R) (hI : MP g n L I) (ma : Int32) (ma_lo : 0 ≤ ma.toInt) (ma_hi : ma.toInt ≤ 4) : SP g mX11_find [.ref (ad g 0), .ref (ad g 2), .int ma] I J R (fun r I' J' R' => (I' = I ∧ J' = J ∧ R' = R) ∧ ∃ v : Int32, r = some (.int v) ∧ -1 ≤ v.toInt ∧ v.toInt ≤ 3 ∧ (v.toInt < ma.toInt ∨ v.toInt = -1)) := by
  refine SP_of ⟨by decide, rfl⟩ (Nat.le_of_ble_eq_true rfl) ?_
  have e624 : I (ad g 0) 1 = L := hI.1.2
  have b625 := BT_get hI.1.1 0 1 2 (0) (0) (900) (by decide) 1 (by decide) (by decide)
  rw [e624] at b625
  refine WQ_iconst (0) (0) dX11_find_0 rfl rfl (fun v626 hv626 => ?_)
  refine WP_istore_n (ls' := [(0, _), (1, _), (2, _), (3, _)]) dX11_find_1 (by decide) rfl ?_
  have lp2_627 : ∀ (mz : Nat) (i627 : Int32), 0 ≤ i627.toInt → i627.toInt ≤ 4 → i627.toInt ≤ ma.toInt → (5 - i627.toInt).toNat < mz → WP g mX11_find 2 [(0, .ref (ad g 0)), (1, .ref (ad g 2)), (2, .int ma), (3, .int i627)] [] I J R (fun r I' J' R' => (I' = I ∧ J' = J ∧ R' = R) ∧ ∃ v : Int32, r = some (.int v) ∧ -1 ≤ v.toInt ∧ v.toInt ≤ 3 ∧ (v.toInt < ma.toInt ∨ v.toInt = -1)) := by
    intro mz
    induction mz with
    | zero =>
      intro i627 ai627 bi627 j0_I hmlp2_627
      exact absurd hmlp2_627 (Nat.not_lt_zero _)
    | succ mz ihlp2_627 =>
      intro i627 ai627 bi627 j0_I hmlp2_627
      refine WP_iload_n dX11_find_2 rfl ?_
      refine WP_iload_n dX11_find_3 rfl ?_
      refine WQ_icmp_ge 26 dX11_find_4 rfl (fun c628 => ?_) (fun c628 => ?_)
      · refine WQ_iconst (-1) (-1) dX11_find_26 rfl rfl (fun v630 hv630 => ?_)
        exact WP_iret dX11_find_27 rfl ⟨⟨rfl, rfl, rfl⟩, _, rfl, by omega, by omega, by omega⟩
      · refine WP_aload_n dX11_find_7 rfl ?_
        refine WP_iload_n dX11_find_8 rfl ?_
        refine WQ_laldu dX11_find_9 (ly_is hy 2 14 rfl) (ly_n hy 2 4 rfl) (by omega) (by omega) (fun l631 => ?_)
        refine WP_aload_n dX11_find_10 rfl ?_
        refine WP_callV0 (k := 11) dX11_find_11 ⟨⟨⟨by decide, by decide⟩, zX11_name⟩, lX11_67, by decide, rfl, vX11_name.1, vX11_name.2⟩ (ly_is hy 0 11 rfl) (sm_name hy hr hI  ) (Nat.le_of_ble_eq_true rfl) ?_
        intro r Ia Ja Ra hq
        obtain ⟨⟨ea, eb, ec⟩, l632, rfl⟩ := hq
        show WP _ _ _ _ (.long _ :: _) _ _ _ _
        rw [ea, eb, ec]
        clear ea eb ec Ia Ja Ra
        refine WQ_lcmpu dX11_find_14 (fun v633 => ?_)
        refine WX_if_ne 20 dX11_find_15 rfl ?_ ?_
        · refine WP_iinc (ls' := [(0, _), (1, _), (2, _), (3, _)]) dX11_find_20 rfl (by decide) rfl ?_
          have hv634 : (i627 + Int32.ofInt (1)).toInt = i627.toInt + (1) := ia_n rfl (by omega) (by omega)
          generalize i627 + Int32.ofInt (1) = v634 at hv634 ⊢
          refine WP_goto 2 dX11_find_23 rfl ?_
          exact WP_sub (fc rfl (fc rfl (fc rfl (fc rfl fn)))) (ihlp2_627 v634 (by omega) (by omega) (by omega) (by omega))
        · refine WP_iload_n dX11_find_18 rfl ?_
          exact WP_iret dX11_find_19 rfl ⟨⟨rfl, rfl, rfl⟩, _, rfl, by omega, by omega, by omega⟩
  exact WP_sub (fc rfl (fc rfl (fc rfl (fc rfl fn)))) (lp2_627 _ v626 (by omega) (by omega) (by omega) (Nat.lt_succ_self _))
set_option maxHeartbeats 4000000 in
set_option maxRecDepth 100000 in
theorem sm_find_3 {g : GG} {n : Int} {L : Int32} (hy : Ly g)  {I : pI} {J : pJ} {R : pR} (hr : Rf g R) (hI : MP g n L I) (ma : Int32) (ma_lo : 0 ≤ ma.toInt) (ma_hi : ma.toInt ≤ 3) : SP g mX11_find [.ref (ad g 0), .ref (ad g 3), .int ma] I J R (fun r I' J' R' => (I' = I ∧ J' = J ∧ R' = R) ∧ ∃ v : Int32, r = some (.int v) ∧ -1 ≤ v.toInt ∧ v.toInt ≤ 2 ∧ (v.toInt < ma.toInt ∨ v.toInt = -1)) := by
  refine SP_of ⟨by decide, rfl⟩ (Nat.le_of_ble_eq_true rfl) ?_
  have e635 : I (ad g 0) 1 = L := hI.1.2
  have b636 := BT_get hI.1.1 0 1 2 (0) (0) (900) (by decide) 1 (by decide) (by decide)
  rw [e635] at b636
  refine WQ_iconst (0) (0) dX11_find_0 rfl rfl (fun v637 hv637 => ?_)
  refine WP_istore_n (ls' := [(0, _), (1, _), (2, _), (3, _)]) dX11_find_1 (by decide) rfl ?_
  have lp2_638 : ∀ (mz : Nat) (i638 : Int32), 0 ≤ i638.toInt → i638.toInt ≤ 3 → i638.toInt ≤ ma.toInt → (4 - i638.toInt).toNat < mz → WP g mX11_find 2 [(0, .ref (ad g 0)), (1, .ref (ad g 3)), (2, .int ma), (3, .int i638)] [] I J R (fun r I' J' R' => (I' = I ∧ J' = J ∧ R' = R) ∧ ∃ v : Int32, r = some (.int v) ∧ -1 ≤ v.toInt ∧ v.toInt ≤ 2 ∧ (v.toInt < ma.toInt ∨ v.toInt = -1)) := by
    intro mz
    induction mz with
    | zero =>
      intro i638 ai638 bi638 j0_I hmlp2_638
      exact absurd hmlp2_638 (Nat.not_lt_zero _)
    | succ mz ihlp2_638 =>
      intro i638 ai638 bi638 j0_I hmlp2_638
      refine WP_iload_n dX11_find_2 rfl ?_
      refine WP_iload_n dX11_find_3 rfl ?_
      refine WQ_icmp_ge 26 dX11_find_4 rfl (fun c639 => ?_) (fun c639 => ?_)
      · refine WQ_iconst (-1) (-1) dX11_find_26 rfl rfl (fun v641 hv641 => ?_)
        exact WP_iret dX11_find_27 rfl ⟨⟨rfl, rfl, rfl⟩, _, rfl, by omega, by omega, by omega⟩
      · refine WP_aload_n dX11_find_7 rfl ?_
        refine WP_iload_n dX11_find_8 rfl ?_
        refine WQ_laldu dX11_find_9 (ly_is hy 3 14 rfl) (ly_n hy 3 3 rfl) (by omega) (by omega) (fun l642 => ?_)
        refine WP_aload_n dX11_find_10 rfl ?_
        refine WP_callV0 (k := 11) dX11_find_11 ⟨⟨⟨by decide, by decide⟩, zX11_name⟩, lX11_67, by decide, rfl, vX11_name.1, vX11_name.2⟩ (ly_is hy 0 11 rfl) (sm_name hy hr hI  ) (Nat.le_of_ble_eq_true rfl) ?_
        intro r Ia Ja Ra hq
        obtain ⟨⟨ea, eb, ec⟩, l643, rfl⟩ := hq
        show WP _ _ _ _ (.long _ :: _) _ _ _ _
        rw [ea, eb, ec]
        clear ea eb ec Ia Ja Ra
        refine WQ_lcmpu dX11_find_14 (fun v644 => ?_)
        refine WX_if_ne 20 dX11_find_15 rfl ?_ ?_
        · refine WP_iinc (ls' := [(0, _), (1, _), (2, _), (3, _)]) dX11_find_20 rfl (by decide) rfl ?_
          have hv645 : (i638 + Int32.ofInt (1)).toInt = i638.toInt + (1) := ia_n rfl (by omega) (by omega)
          generalize i638 + Int32.ofInt (1) = v645 at hv645 ⊢
          refine WP_goto 2 dX11_find_23 rfl ?_
          exact WP_sub (fc rfl (fc rfl (fc rfl (fc rfl fn)))) (ihlp2_638 v645 (by omega) (by omega) (by omega) (by omega))
        · refine WP_iload_n dX11_find_18 rfl ?_
          exact WP_iret dX11_find_19 rfl ⟨⟨rfl, rfl, rfl⟩, _, rfl, by omega, by omega, by omega⟩
  exact WP_sub (fc rfl (fc rfl (fc rfl (fc rfl fn)))) (lp2_638 _ v637 (by omega) (by omega) (by omega) (Nat.lt_succ_self _))
set_option maxHeartbeats 4000000 in
set_option maxRecDepth 100000 in
theorem sm_find_4 {g : GG} {n : Int} {L : Int32} (hy : Ly g)  {I : pI} {J : pJ} {R : pR} (hr : Rf g R) (hI : MP g n L I) (ma : Int32) (ma_lo : 0 ≤ ma.toInt) (ma_hi : ma.toInt ≤ 4) : SP g mX11_find [.ref (ad g 0), .ref (ad g 4), .int ma] I J R (fun r I' J' R' => (I' = I ∧ J' = J ∧ R' = R) ∧ ∃ v : Int32, r = some (.int v) ∧ -1 ≤ v.toInt ∧ v.toInt ≤ 3 ∧ (v.toInt < ma.toInt ∨ v.toInt = -1)) := by
  refine SP_of ⟨by decide, rfl⟩ (Nat.le_of_ble_eq_true rfl) ?_
  have e646 : I (ad g 0) 1 = L := hI.1.2
  have b647 := BT_get hI.1.1 0 1 2 (0) (0) (900) (by decide) 1 (by decide) (by decide)
  rw [e646] at b647
  refine WQ_iconst (0) (0) dX11_find_0 rfl rfl (fun v648 hv648 => ?_)
  refine WP_istore_n (ls' := [(0, _), (1, _), (2, _), (3, _)]) dX11_find_1 (by decide) rfl ?_
  have lp2_649 : ∀ (mz : Nat) (i649 : Int32), 0 ≤ i649.toInt → i649.toInt ≤ 4 → i649.toInt ≤ ma.toInt → (5 - i649.toInt).toNat < mz → WP g mX11_find 2 [(0, .ref (ad g 0)), (1, .ref (ad g 4)), (2, .int ma), (3, .int i649)] [] I J R (fun r I' J' R' => (I' = I ∧ J' = J ∧ R' = R) ∧ ∃ v : Int32, r = some (.int v) ∧ -1 ≤ v.toInt ∧ v.toInt ≤ 3 ∧ (v.toInt < ma.toInt ∨ v.toInt = -1)) := by
    intro mz
    induction mz with
    | zero =>
      intro i649 ai649 bi649 j0_I hmlp2_649
      exact absurd hmlp2_649 (Nat.not_lt_zero _)
    | succ mz ihlp2_649 =>
      intro i649 ai649 bi649 j0_I hmlp2_649
      refine WP_iload_n dX11_find_2 rfl ?_
      refine WP_iload_n dX11_find_3 rfl ?_
      refine WQ_icmp_ge 26 dX11_find_4 rfl (fun c650 => ?_) (fun c650 => ?_)
      · refine WQ_iconst (-1) (-1) dX11_find_26 rfl rfl (fun v652 hv652 => ?_)
        exact WP_iret dX11_find_27 rfl ⟨⟨rfl, rfl, rfl⟩, _, rfl, by omega, by omega, by omega⟩
      · refine WP_aload_n dX11_find_7 rfl ?_
        refine WP_iload_n dX11_find_8 rfl ?_
        refine WQ_laldu dX11_find_9 (ly_is hy 4 14 rfl) (ly_n hy 4 4 rfl) (by omega) (by omega) (fun l653 => ?_)
        refine WP_aload_n dX11_find_10 rfl ?_
        refine WP_callV0 (k := 11) dX11_find_11 ⟨⟨⟨by decide, by decide⟩, zX11_name⟩, lX11_67, by decide, rfl, vX11_name.1, vX11_name.2⟩ (ly_is hy 0 11 rfl) (sm_name hy hr hI  ) (Nat.le_of_ble_eq_true rfl) ?_
        intro r Ia Ja Ra hq
        obtain ⟨⟨ea, eb, ec⟩, l654, rfl⟩ := hq
        show WP _ _ _ _ (.long _ :: _) _ _ _ _
        rw [ea, eb, ec]
        clear ea eb ec Ia Ja Ra
        refine WQ_lcmpu dX11_find_14 (fun v655 => ?_)
        refine WX_if_ne 20 dX11_find_15 rfl ?_ ?_
        · refine WP_iinc (ls' := [(0, _), (1, _), (2, _), (3, _)]) dX11_find_20 rfl (by decide) rfl ?_
          have hv656 : (i649 + Int32.ofInt (1)).toInt = i649.toInt + (1) := ia_n rfl (by omega) (by omega)
          generalize i649 + Int32.ofInt (1) = v656 at hv656 ⊢
          refine WP_goto 2 dX11_find_23 rfl ?_
          exact WP_sub (fc rfl (fc rfl (fc rfl (fc rfl fn)))) (ihlp2_649 v656 (by omega) (by omega) (by omega) (by omega))
        · refine WP_iload_n dX11_find_18 rfl ?_
          exact WP_iret dX11_find_19 rfl ⟨⟨rfl, rfl, rfl⟩, _, rfl, by omega, by omega, by omega⟩
  exact WP_sub (fc rfl (fc rfl (fc rfl (fc rfl fn)))) (lp2_649 _ v648 (by omega) (by omega) (by omega) (Nat.lt_succ_self _))
set_option maxHeartbeats 4000000 in
set_option maxRecDepth 100000 in
theorem sm_find_5 {g : GG} {n : Int} {L : Int32} (hy : Ly g)  {I : pI} {J : pJ} {R : pR} (hr : Rf g R) (hI : MP g n L I) (ma : Int32) (ma_lo : 0 ≤ ma.toInt) (ma_hi : ma.toInt ≤ 3) : SP g mX11_find [.ref (ad g 0), .ref (ad g 5), .int ma] I J R (fun r I' J' R' => (I' = I ∧ J' = J ∧ R' = R) ∧ ∃ v : Int32, r = some (.int v) ∧ -1 ≤ v.toInt ∧ v.toInt ≤ 2 ∧ (v.toInt < ma.toInt ∨ v.toInt = -1)) := by
  refine SP_of ⟨by decide, rfl⟩ (Nat.le_of_ble_eq_true rfl) ?_
  have e657 : I (ad g 0) 1 = L := hI.1.2
  have b658 := BT_get hI.1.1 0 1 2 (0) (0) (900) (by decide) 1 (by decide) (by decide)
  rw [e657] at b658
  refine WQ_iconst (0) (0) dX11_find_0 rfl rfl (fun v659 hv659 => ?_)
  refine WP_istore_n (ls' := [(0, _), (1, _), (2, _), (3, _)]) dX11_find_1 (by decide) rfl ?_
  have lp2_660 : ∀ (mz : Nat) (i660 : Int32), 0 ≤ i660.toInt → i660.toInt ≤ 3 → i660.toInt ≤ ma.toInt → (4 - i660.toInt).toNat < mz → WP g mX11_find 2 [(0, .ref (ad g 0)), (1, .ref (ad g 5)), (2, .int ma), (3, .int i660)] [] I J R (fun r I' J' R' => (I' = I ∧ J' = J ∧ R' = R) ∧ ∃ v : Int32, r = some (.int v) ∧ -1 ≤ v.toInt ∧ v.toInt ≤ 2 ∧ (v.toInt < ma.toInt ∨ v.toInt = -1)) := by
    intro mz
    induction mz with
    | zero =>
      intro i660 ai660 bi660 j0_I hmlp2_660
      exact absurd hmlp2_660 (Nat.not_lt_zero _)
    | succ mz ihlp2_660 =>
      intro i660 ai660 bi660 j0_I hmlp2_660
      refine WP_iload_n dX11_find_2 rfl ?_
      refine WP_iload_n dX11_find_3 rfl ?_
      refine WQ_icmp_ge 26 dX11_find_4 rfl (fun c661 => ?_) (fun c661 => ?_)
      · refine WQ_iconst (-1) (-1) dX11_find_26 rfl rfl (fun v663 hv663 => ?_)
        exact WP_iret dX11_find_27 rfl ⟨⟨rfl, rfl, rfl⟩, _, rfl, by omega, by omega, by omega⟩
      · refine WP_aload_n dX11_find_7 rfl ?_
        refine WP_iload_n dX11_find_8 rfl ?_
        refine WQ_laldu dX11_find_9 (ly_is hy 5 14 rfl) (ly_n hy 5 3 rfl) (by omega) (by omega) (fun l664 => ?_)
        refine WP_aload_n dX11_find_10 rfl ?_
        refine WP_callV0 (k := 11) dX11_find_11 ⟨⟨⟨by decide, by decide⟩, zX11_name⟩, lX11_67, by decide, rfl, vX11_name.1, vX11_name.2⟩ (ly_is hy 0 11 rfl) (sm_name hy hr hI  ) (Nat.le_of_ble_eq_true rfl) ?_
        intro r Ia Ja Ra hq
        obtain ⟨⟨ea, eb, ec⟩, l665, rfl⟩ := hq
        show WP _ _ _ _ (.long _ :: _) _ _ _ _
        rw [ea, eb, ec]
        clear ea eb ec Ia Ja Ra
        refine WQ_lcmpu dX11_find_14 (fun v666 => ?_)
        refine WX_if_ne 20 dX11_find_15 rfl ?_ ?_
        · refine WP_iinc (ls' := [(0, _), (1, _), (2, _), (3, _)]) dX11_find_20 rfl (by decide) rfl ?_
          have hv667 : (i660 + Int32.ofInt (1)).toInt = i660.toInt + (1) := ia_n rfl (by omega) (by omega)
          generalize i660 + Int32.ofInt (1) = v667 at hv667 ⊢
          refine WP_goto 2 dX11_find_23 rfl ?_
          exact WP_sub (fc rfl (fc rfl (fc rfl (fc rfl fn)))) (ihlp2_660 v667 (by omega) (by omega) (by omega) (by omega))
        · refine WP_iload_n dX11_find_18 rfl ?_
          exact WP_iret dX11_find_19 rfl ⟨⟨rfl, rfl, rfl⟩, _, rfl, by omega, by omega, by omega⟩
  exact WP_sub (fc rfl (fc rfl (fc rfl (fc rfl fn)))) (lp2_660 _ v659 (by omega) (by omega) (by omega) (Nat.lt_succ_self _))
set_option maxHeartbeats 4000000 in
set_option maxRecDepth 100000 in
theorem sm_peek {g : GG} {n : Int} {L : Int32} (hy : Ly g)  {I : pI} {J : pJ} {R : pR} (hr : Rf g R) (hI : MP g n L I) (lo : Int32) (hi : Int32) (lo_lo : -1 ≤ lo.toInt) (lo_hi : lo.toInt ≤ 1000) (hi_lo : -1 ≤ hi.toInt) (hi_hi : hi.toInt ≤ 1000) (hb : (I (ad g 0) 4).toInt ≤ (I (ad g 0) 2).toInt) : SP g mX11_peek [.ref (ad g 0), .int lo, .int hi] I J R (fun r I' J' R' => (MP g n L I' ∧ R' = R ∧ fz 49 g [0] I I' ∧ fz 49 g [] J J' ∧ fs g [7, 8, 9] I I' ∧ (I' (ad g 0) 4).toInt ≤ (I' (ad g 0) 2).toInt ∧ I' (ad g 0) 15 = I (ad g 0) 15 ∧ I' (ad g 0) 16 = I (ad g 0) 16) ∧ ∃ v : Int32, r = some (.int v) ∧ 0 ≤ v.toInt ∧ v.toInt ≤ 1 ∧ (v.toInt = 1 → lo.toInt ≤ (I' (ad g 0) 7).toInt ∧ (I' (ad g 0) 7).toInt ≤ hi.toInt)) := by
  refine SP_of ⟨by decide, rfl⟩ (Nat.le_of_ble_eq_true rfl) ?_
  have e668 : I (ad g 0) 1 = L := hI.1.2
  have b669 := BT_get hI.1.1 0 1 2 (0) (0) (900) (by decide) 1 (by decide) (by decide)
  rw [e668] at b669
  have fr0 : fz 49 g [0] I I := fz_rf
  have frj0 : fz 49 g [] J J := fz_rf
  have frq0 : fs g [7, 8, 9] I I := fs_rf
  obtain ⟨w670, ew670⟩ : ∃ w : Int32, I (ad g 0) 15 = w := ⟨_, rfl⟩
  have bw670 := BT_get hI.1.1 0 15 16 (0) (0) (4) (by decide) 15 (by decide) (by decide)
  rw [ew670] at bw670
  obtain ⟨w671, ew671⟩ : ∃ w : Int32, I (ad g 0) 16 = w := ⟨_, rfl⟩
  have bw671 := BT_get hI.1.1 0 16 17 (0) (0) (3) (by decide) 16 (by decide) (by decide)
  rw [ew671] at bw671
  obtain ⟨w672, ew672⟩ : ∃ w : Int32, I (ad g 0) 4 = w := ⟨_, rfl⟩
  have bw672 := BT_get hI.1.1 0 4 5 (0) (0) (900) (by decide) 4 (by decide) (by decide)
  rw [ew672] at bw672
  obtain ⟨w673, ew673⟩ : ∃ w : Int32, I (ad g 0) 2 = w := ⟨_, rfl⟩
  have bw673 := BT_get hI.1.1 0 2 3 (0) (0) (900) (by decide) 2 (by decide) (by decide)
  rw [ew673] at bw673
  rw [ew672, ew673] at hb
  refine WP_aload_n dX11_peek_0 rfl ?_
  refine WQ_geti dX11_peek_1 fX11_27 rfl (ly_is hy 0 11 rfl) (BT_get hI.1.1 0 5 6 (0) (0) (4) (by decide) 5 (by decide) (by decide)) (fun v674 ev674 av674 bv674 => ?_)
  refine WQ_iconst (2) (2) dX11_peek_4 rfl rfl (fun v675 hv675 => ?_)
  refine WQ_icmp_eq 14 dX11_peek_5 rfl (fun c675 => ?_) (fun c675 => ?_)
  · refine WP_aload_n dX11_peek_14 rfl ?_
    refine WQ_getiu dX11_peek_15 fX11_37 rfl (ly_is hy 0 11 rfl) (fun v677 ev677 => ?_)
    refine WQ_i2l dX11_peek_18 (fun l678 hl678 => ?_)
    refine WP_iload_n dX11_peek_19 rfl ?_
    refine WQ_i2l dX11_peek_20 (fun l679 hl679 => ?_)
    refine WP_iload_n dX11_peek_21 rfl ?_
    refine WQ_i2l dX11_peek_22 (fun l680 hl680 => ?_)
    refine WP_callS3 dX11_peek_23 ⟨⟨⟨by decide, by decide⟩, zX11_in⟩, lX11_52, tX11_in⟩ (sm_in hy hr hI l678 l679 l680 ) (Nat.le_of_ble_eq_true rfl) ?_
    intro r Ia Ja Ra hq
    obtain ⟨⟨ea, eb, ec⟩, v681, rfl, av681, bv681, cv681⟩ := hq
    show WP _ _ _ _ (.int _ :: _) _ _ _ _
    rw [ea, eb, ec]
    clear ea eb ec Ia Ja Ra
    refine WQ_if_ne 35 dX11_peek_26 rfl (fun c681 => ?_) (fun c681 => ?_)
    · refine WP_aload_n dX11_peek_35 rfl ?_
      refine WP_aload_n dX11_peek_36 rfl ?_
      refine WQ_getim dX11_peek_37 fX11_37 rfl (ly_is hy 0 11 rfl) ev677 ?_
      refine WQ_puti dX11_peek_40 fX11_56 rfl rfl (ly_is hy 0 11 rfl) (fun I683 eI683 => ?_)
      have hI683 : MP g n L I683 := by rw [eI683]; exact (mp_w hy hI (c := 0) (mi_f hy hI.1 (c := 0) (-1) (0) (1000) (by decide) (Or.inr (by decide)) (by decide) (by omega) (by omega)) (by decide) (by decide) (Or.inr (by decide)))
      have e684 : I683 (ad g 0) 1 = L := by rw [eI683, pp_ne _ _ (Or.inr (by decide))]; exact e668
      have e685 : I683 (ad g 0) 15 = w670 := by rw [eI683, pp_ne _ _ (Or.inr (by decide))]; exact ew670
      have e686 : I683 (ad g 0) 16 = w671 := by rw [eI683, pp_ne _ _ (Or.inr (by decide))]; exact ew671
      have e687 : I683 (ad g 0) 4 = w672 := by rw [eI683, pp_ne _ _ (Or.inr (by decide))]; exact ew672
      have e688 : I683 (ad g 0) 2 = w673 := by rw [eI683, pp_ne _ _ (Or.inr (by decide))]; exact ew673
      have e689 : I683 (ad g 0) 5 = v674 := by rw [eI683, pp_ne _ _ (Or.inr (by decide))]; exact ev674
      have e690 : I683 (ad g 0) 6 = v677 := by rw [eI683, pp_ne _ _ (Or.inr (by decide))]; exact ev677
      have e691 : I683 (ad g 0) 7 = v677 := by rw [eI683, pp_self]
      have fr692 : fs g [7, 8, 9] I I683 := by rw [eI683]; exact fs_pp0 frq0 (by decide)
      have fr693 : fz 49 g [0] I I683 := by rw [eI683]; exact fzm_pp hy fr0 (by decide) (by decide)
      clear eI683
      refine WQ_iconst (1) (1) dX11_peek_43 rfl rfl (fun v694 hv694 => ?_)
      exact WP_zret dX11_peek_44 rfl (nar_z (by omega)) ⟨⟨hI683, rfl, fr693, frj0, fr692, ⟨(by rw [e687, e688]; omega), (by rw [e685, ew670] <;> exact (eq32 _ _).mpr (by omega)), (by rw [e686, ew671] <;> exact (eq32 _ _).mpr (by omega))⟩⟩, _, rfl, by omega, by omega, by (try rw [e691]); omega⟩
    · refine WP_aload_n dX11_peek_29 rfl ?_
      refine WQ_iconst (2) (2) dX11_peek_30 rfl rfl (fun v695 hv695 => ?_)
      refine WP_callV1 (k := 11) dX11_peek_31 ⟨⟨⟨by decide, by decide⟩, zX11_bad⟩, lX11_49, by decide, rfl, vX11_bad.1, vX11_bad.2⟩ (ly_is hy 0 11 rfl) (sm_bad2 hy hr hI v695  (by rw [ew672, ew673]; omega)) (Nat.le_of_ble_eq_true rfl) ?_
      intro r I696 J697 Ra hq
      obtain ⟨⟨hI696, ec, fiI696, fjI696, fqI696, ⟨pI696, sI696_0_15, sI696_0_16⟩⟩, v698, rfl, av698, bv698⟩ := hq
      show WP _ _ _ _ (.int _ :: _) _ _ _ _
      rw [ec]
      clear ec Ra
      have fr699 : fz 49 g [0] I I696 := fz_tr fr0 (fz_mono fiI696 (by decide))
      have fr700 : fs g [7, 8, 9] I I696 := fs_tr frq0 (fs_mono fqI696 (by decide))
      have fr701 : fz 49 g [] J J697 := fz_tr frj0 (fz_mono fjI696 (by decide))
      have e702 : I696 (ad g 0) 15 = w670 := by rw [sI696_0_15]; exact ew670
      have e703 : I696 (ad g 0) 16 = w671 := by rw [sI696_0_16]; exact ew671
      have e704 : I696 (ad g 0) 1 = L := hI696.1.2
      have b705 := BT_get hI696.1.1 0 1 2 (0) (0) (900) (by decide) 1 (by decide) (by decide)
      rw [e704] at b705
      obtain ⟨w706, ew706⟩ : ∃ w : Int32, I696 (ad g 0) 4 = w := ⟨_, rfl⟩
      have bw706 := BT_get hI696.1.1 0 4 5 (0) (0) (900) (by decide) 4 (by decide) (by decide)
      rw [ew706] at bw706
      obtain ⟨w707, ew707⟩ : ∃ w : Int32, I696 (ad g 0) 2 = w := ⟨_, rfl⟩
      have bw707 := BT_get hI696.1.1 0 2 3 (0) (0) (900) (by decide) 2 (by decide) (by decide)
      rw [ew707] at bw707
      rw [ew706, ew707] at pI696
      obtain ⟨w708, ew708⟩ : ∃ w : Int32, I696 (ad g 0) 7 = w := ⟨_, rfl⟩
      have bw708 := BT_get hI696.1.1 0 7 8 (-1) (0) (1000) (by decide) 7 (by decide) (by decide)
      rw [ew708] at bw708
      exact WP_zret dX11_peek_34 rfl (nar_z (by omega)) ⟨⟨hI696, rfl, fr699, fr701, fr700, ⟨(by rw [ew706, ew707]; omega), (by rw [e702, ew670] <;> exact (eq32 _ _).mpr (by omega)), (by rw [e703, ew671] <;> exact (eq32 _ _).mpr (by omega))⟩⟩, _, rfl, by omega, by omega, by (try rw [ew708]); omega⟩
  · refine WP_aload_n dX11_peek_8 rfl ?_
    refine WQ_iconst (1) (1) dX11_peek_9 rfl rfl (fun v709 hv709 => ?_)
    refine WP_callV1 (k := 11) dX11_peek_10 ⟨⟨⟨by decide, by decide⟩, zX11_bad⟩, lX11_49, by decide, rfl, vX11_bad.1, vX11_bad.2⟩ (ly_is hy 0 11 rfl) (sm_bad2 hy hr hI v709  (by rw [ew672, ew673]; omega)) (Nat.le_of_ble_eq_true rfl) ?_
    intro r I710 J711 Ra hq
    obtain ⟨⟨hI710, ec, fiI710, fjI710, fqI710, ⟨pI710, sI710_0_15, sI710_0_16⟩⟩, v712, rfl, av712, bv712⟩ := hq
    show WP _ _ _ _ (.int _ :: _) _ _ _ _
    rw [ec]
    clear ec Ra
    have fr713 : fz 49 g [0] I I710 := fz_tr fr0 (fz_mono fiI710 (by decide))
    have fr714 : fs g [7, 8, 9] I I710 := fs_tr frq0 (fs_mono fqI710 (by decide))
    have fr715 : fz 49 g [] J J711 := fz_tr frj0 (fz_mono fjI710 (by decide))
    have e716 : I710 (ad g 0) 15 = w670 := by rw [sI710_0_15]; exact ew670
    have e717 : I710 (ad g 0) 16 = w671 := by rw [sI710_0_16]; exact ew671
    have e718 : I710 (ad g 0) 1 = L := hI710.1.2
    have b719 := BT_get hI710.1.1 0 1 2 (0) (0) (900) (by decide) 1 (by decide) (by decide)
    rw [e718] at b719
    obtain ⟨w720, ew720⟩ : ∃ w : Int32, I710 (ad g 0) 4 = w := ⟨_, rfl⟩
    have bw720 := BT_get hI710.1.1 0 4 5 (0) (0) (900) (by decide) 4 (by decide) (by decide)
    rw [ew720] at bw720
    obtain ⟨w721, ew721⟩ : ∃ w : Int32, I710 (ad g 0) 2 = w := ⟨_, rfl⟩
    have bw721 := BT_get hI710.1.1 0 2 3 (0) (0) (900) (by decide) 2 (by decide) (by decide)
    rw [ew721] at bw721
    rw [ew720, ew721] at pI710
    obtain ⟨w722, ew722⟩ : ∃ w : Int32, I710 (ad g 0) 7 = w := ⟨_, rfl⟩
    have bw722 := BT_get hI710.1.1 0 7 8 (-1) (0) (1000) (by decide) 7 (by decide) (by decide)
    rw [ew722] at bw722
    exact WP_zret dX11_peek_13 rfl (nar_z (by omega)) ⟨⟨hI710, rfl, fr713, fr715, fr714, ⟨(by rw [ew720, ew721]; omega), (by rw [e716, ew670] <;> exact (eq32 _ _).mpr (by omega)), (by rw [e717, ew671] <;> exact (eq32 _ _).mpr (by omega))⟩⟩, _, rfl, by omega, by omega, by (try rw [ew722]); omega⟩
set_option maxHeartbeats 4000000 in
set_option maxRecDepth 100000 in
theorem sm_number {g : GG} {n : Int} {L : Int32} (hy : Ly g)  {I : pI} {J : pJ} {R : pR} (hr : Rf g R) (hI : MP g n L I) (lo : Int32) (hi : Int32) (lo_lo : -1 ≤ lo.toInt) (lo_hi : lo.toInt ≤ 1000) (hi_lo : -1 ≤ hi.toInt) (hi_hi : hi.toInt ≤ 1000) (hb : (I (ad g 0) 4).toInt ≤ (I (ad g 0) 2).toInt) : SP g mX11_number [.ref (ad g 0), .int lo, .int hi] I J R (fun r I' J' R' => (MP g n L I' ∧ R' = R ∧ fz 49 g [0] I I' ∧ fz 49 g [] J J' ∧ fs g [3, 4, 5, 6, 7, 8, 9] I I' ∧ (I' (ad g 0) 4).toInt ≤ (I' (ad g 0) 2).toInt ∧ I' (ad g 0) 15 = I (ad g 0) 15 ∧ I' (ad g 0) 16 = I (ad g 0) 16) ∧ ∃ v : Int32, r = some (.int v) ∧ 0 ≤ v.toInt ∧ v.toInt ≤ 1 ∧ (v.toInt = 1 → lo.toInt ≤ (I' (ad g 0) 7).toInt ∧ (I' (ad g 0) 7).toInt ≤ hi.toInt)) := by
  refine SP_of ⟨by decide, rfl⟩ (Nat.le_of_ble_eq_true rfl) ?_
  have e723 : I (ad g 0) 1 = L := hI.1.2
  have b724 := BT_get hI.1.1 0 1 2 (0) (0) (900) (by decide) 1 (by decide) (by decide)
  rw [e723] at b724
  have fr0 : fz 49 g [0] I I := fz_rf
  have frj0 : fz 49 g [] J J := fz_rf
  have frq0 : fs g [3, 4, 5, 6, 7, 8, 9] I I := fs_rf
  obtain ⟨w725, ew725⟩ : ∃ w : Int32, I (ad g 0) 15 = w := ⟨_, rfl⟩
  have bw725 := BT_get hI.1.1 0 15 16 (0) (0) (4) (by decide) 15 (by decide) (by decide)
  rw [ew725] at bw725
  obtain ⟨w726, ew726⟩ : ∃ w : Int32, I (ad g 0) 16 = w := ⟨_, rfl⟩
  have bw726 := BT_get hI.1.1 0 16 17 (0) (0) (3) (by decide) 16 (by decide) (by decide)
  rw [ew726] at bw726
  obtain ⟨w727, ew727⟩ : ∃ w : Int32, I (ad g 0) 4 = w := ⟨_, rfl⟩
  have bw727 := BT_get hI.1.1 0 4 5 (0) (0) (900) (by decide) 4 (by decide) (by decide)
  rw [ew727] at bw727
  obtain ⟨w728, ew728⟩ : ∃ w : Int32, I (ad g 0) 2 = w := ⟨_, rfl⟩
  have bw728 := BT_get hI.1.1 0 2 3 (0) (0) (900) (by decide) 2 (by decide) (by decide)
  rw [ew728] at bw728
  rw [ew727, ew728] at hb
  refine WP_aload_n dX11_number_0 rfl ?_
  refine WP_iload_n dX11_number_1 rfl ?_
  refine WP_iload_n dX11_number_2 rfl ?_
  refine WP_callV2 (k := 11) dX11_number_3 ⟨⟨⟨by decide, by decide⟩, zX11_peek⟩, lX11_59, by decide, rfl, vX11_peek.1, vX11_peek.2⟩ (ly_is hy 0 11 rfl) (sm_peek hy hr hI lo hi (by omega) (by omega) (by omega) (by omega) (by rw [ew727, ew728]; omega)) (Nat.le_of_ble_eq_true rfl) ?_
  intro r I729 J730 Ra hq
  obtain ⟨⟨hI729, ec, fiI729, fjI729, fqI729, ⟨pI729, sI729_0_15, sI729_0_16⟩⟩, v731, rfl, av731, bv731, cv731⟩ := hq
  show WP _ _ _ _ (.int _ :: _) _ _ _ _
  rw [ec]
  clear ec Ra
  have fr732 : fz 49 g [0] I I729 := fz_tr fr0 (fz_mono fiI729 (by decide))
  have fr733 : fs g [3, 4, 5, 6, 7, 8, 9] I I729 := fs_tr frq0 (fs_mono fqI729 (by decide))
  have fr734 : fz 49 g [] J J730 := fz_tr frj0 (fz_mono fjI729 (by decide))
  have e735 : I729 (ad g 0) 15 = w725 := by rw [sI729_0_15]; exact ew725
  have e736 : I729 (ad g 0) 16 = w726 := by rw [sI729_0_16]; exact ew726
  have e737 : I729 (ad g 0) 1 = L := hI729.1.2
  have b738 := BT_get hI729.1.1 0 1 2 (0) (0) (900) (by decide) 1 (by decide) (by decide)
  rw [e737] at b738
  obtain ⟨w739, ew739⟩ : ∃ w : Int32, I729 (ad g 0) 4 = w := ⟨_, rfl⟩
  have bw739 := BT_get hI729.1.1 0 4 5 (0) (0) (900) (by decide) 4 (by decide) (by decide)
  rw [ew739] at bw739
  obtain ⟨w740, ew740⟩ : ∃ w : Int32, I729 (ad g 0) 2 = w := ⟨_, rfl⟩
  have bw740 := BT_get hI729.1.1 0 2 3 (0) (0) (900) (by decide) 2 (by decide) (by decide)
  rw [ew740] at bw740
  rw [ew739, ew740] at pI729
  obtain ⟨w741, ew741⟩ : ∃ w : Int32, I729 (ad g 0) 7 = w := ⟨_, rfl⟩
  have bw741 := BT_get hI729.1.1 0 7 8 (-1) (0) (1000) (by decide) 7 (by decide) (by decide)
  rw [ew741] at bw741
  rw [ew741] at cv731
  refine WQ_if_ne 11 dX11_number_6 rfl (fun c741 => ?_) (fun c741 => ?_)
  · refine WP_aload_n dX11_number_11 rfl ?_
    refine WP_callV0 (k := 11) dX11_number_12 ⟨⟨⟨by decide, by decide⟩, zX11_scan⟩, lX11_63, by decide, rfl, vX11_scan.1, vX11_scan.2⟩ (ly_is hy 0 11 rfl) (sm_scan hy hr hI729   (by rw [ew739, ew740]; omega)) (Nat.le_of_ble_eq_true rfl) ?_
    intro r I743 J744 Ra hq
    obtain ⟨⟨hI743, ec, fiI743, fjI743, fqI743, ⟨pI743, sI743_0_7, sI743_0_15, sI743_0_16⟩⟩, rfl⟩ := hq
    rw [ec]
    clear ec Ra
    have fr745 : fz 49 g [0] I I743 := fz_tr fr732 (fz_mono fiI743 (by decide))
    have fr746 : fs g [3, 4, 5, 6, 7, 8, 9] I I743 := fs_tr fr733 (fs_mono fqI743 (by decide))
    have fr747 : fz 49 g [] J J744 := fz_tr fr734 (fz_mono fjI743 (by decide))
    have e748 : I743 (ad g 0) 7 = w741 := by rw [sI743_0_7]; exact ew741
    have e749 : I743 (ad g 0) 15 = w725 := by rw [sI743_0_15]; exact e735
    have e750 : I743 (ad g 0) 16 = w726 := by rw [sI743_0_16]; exact e736
    have e751 : I743 (ad g 0) 1 = L := hI743.1.2
    have b752 := BT_get hI743.1.1 0 1 2 (0) (0) (900) (by decide) 1 (by decide) (by decide)
    rw [e751] at b752
    obtain ⟨w753, ew753⟩ : ∃ w : Int32, I743 (ad g 0) 4 = w := ⟨_, rfl⟩
    have bw753 := BT_get hI743.1.1 0 4 5 (0) (0) (900) (by decide) 4 (by decide) (by decide)
    rw [ew753] at bw753
    obtain ⟨w754, ew754⟩ : ∃ w : Int32, I743 (ad g 0) 2 = w := ⟨_, rfl⟩
    have bw754 := BT_get hI743.1.1 0 2 3 (0) (0) (900) (by decide) 2 (by decide) (by decide)
    rw [ew754] at bw754
    rw [ew753, ew754] at pI743
    refine WQ_iconst (1) (1) dX11_number_15 rfl rfl (fun v755 hv755 => ?_)
    exact WP_zret dX11_number_16 rfl (nar_z (by omega)) ⟨⟨hI743, rfl, fr745, fr747, fr746, ⟨(by rw [ew753, ew754]; omega), (by rw [e749, ew725] <;> exact (eq32 _ _).mpr (by omega)), (by rw [e750, ew726] <;> exact (eq32 _ _).mpr (by omega))⟩⟩, _, rfl, by omega, by omega, by (try rw [e748]); omega⟩
  · refine WQ_iconst (0) (0) dX11_number_9 rfl rfl (fun v756 hv756 => ?_)
    exact WP_zret dX11_number_10 rfl (nar_z (by omega)) ⟨⟨hI729, rfl, fr732, fr734, fr733, ⟨(by rw [ew739, ew740]; omega), (by rw [e735, ew725] <;> exact (eq32 _ _).mpr (by omega)), (by rw [e736, ew726] <;> exact (eq32 _ _).mpr (by omega))⟩⟩, _, rfl, by omega, by omega, by (try rw [ew741]); omega⟩
set_option maxHeartbeats 4000000 in
set_option maxRecDepth 100000 in
theorem sm_close {g : GG} {n : Int} {L : Int32} (hy : Ly g)  {I : pI} {J : pJ} {R : pR} (hr : Rf g R) (hI : MP g n L I)   (hb : (I (ad g 0) 4).toInt ≤ (I (ad g 0) 2).toInt) : SP g mX11_close [.ref (ad g 0)] I J R (fun r I' J' R' => (MP g n L I' ∧ R' = R ∧ fz 49 g [0] I I' ∧ fz 49 g [] J J' ∧ fs g [3, 4, 5, 6, 8, 9] I I' ∧ (I' (ad g 0) 4).toInt ≤ (I' (ad g 0) 2).toInt ∧ I' (ad g 0) 15 = I (ad g 0) 15 ∧ I' (ad g 0) 16 = I (ad g 0) 16) ∧ ∃ v : Int32, r = some (.int v) ∧ 0 ≤ v.toInt ∧ v.toInt ≤ 1) := by
  refine SP_of ⟨by decide, rfl⟩ (Nat.le_of_ble_eq_true rfl) ?_
  have e757 : I (ad g 0) 1 = L := hI.1.2
  have b758 := BT_get hI.1.1 0 1 2 (0) (0) (900) (by decide) 1 (by decide) (by decide)
  rw [e757] at b758
  have fr0 : fz 49 g [0] I I := fz_rf
  have frj0 : fz 49 g [] J J := fz_rf
  have frq0 : fs g [3, 4, 5, 6, 8, 9] I I := fs_rf
  obtain ⟨w759, ew759⟩ : ∃ w : Int32, I (ad g 0) 15 = w := ⟨_, rfl⟩
  have bw759 := BT_get hI.1.1 0 15 16 (0) (0) (4) (by decide) 15 (by decide) (by decide)
  rw [ew759] at bw759
  obtain ⟨w760, ew760⟩ : ∃ w : Int32, I (ad g 0) 16 = w := ⟨_, rfl⟩
  have bw760 := BT_get hI.1.1 0 16 17 (0) (0) (3) (by decide) 16 (by decide) (by decide)
  rw [ew760] at bw760
  obtain ⟨w761, ew761⟩ : ∃ w : Int32, I (ad g 0) 4 = w := ⟨_, rfl⟩
  have bw761 := BT_get hI.1.1 0 4 5 (0) (0) (900) (by decide) 4 (by decide) (by decide)
  rw [ew761] at bw761
  obtain ⟨w762, ew762⟩ : ∃ w : Int32, I (ad g 0) 2 = w := ⟨_, rfl⟩
  have bw762 := BT_get hI.1.1 0 2 3 (0) (0) (900) (by decide) 2 (by decide) (by decide)
  rw [ew762] at bw762
  rw [ew761, ew762] at hb
  refine WP_aload_n dX11_close_0 rfl ?_
  refine WQ_geti dX11_close_1 fX11_27 rfl (ly_is hy 0 11 rfl) (BT_get hI.1.1 0 5 6 (0) (0) (4) (by decide) 5 (by decide) (by decide)) (fun v763 ev763 av763 bv763 => ?_)
  refine WQ_iconst (3) (3) dX11_close_4 rfl rfl (fun v764 hv764 => ?_)
  refine WQ_icmp_eq 14 dX11_close_5 rfl (fun c764 => ?_) (fun c764 => ?_)
  · refine WP_aload_n dX11_close_14 rfl ?_
    refine WP_callV0 (k := 11) dX11_close_15 ⟨⟨⟨by decide, by decide⟩, zX11_scan⟩, lX11_63, by decide, rfl, vX11_scan.1, vX11_scan.2⟩ (ly_is hy 0 11 rfl) (sm_scan hy hr hI   (by rw [ew761, ew762]; omega)) (Nat.le_of_ble_eq_true rfl) ?_
    intro r I766 J767 Ra hq
    obtain ⟨⟨hI766, ec, fiI766, fjI766, fqI766, ⟨pI766, sI766_0_7, sI766_0_15, sI766_0_16⟩⟩, rfl⟩ := hq
    rw [ec]
    clear ec Ra
    have fr768 : fz 49 g [0] I I766 := fz_tr fr0 (fz_mono fiI766 (by decide))
    have fr769 : fs g [3, 4, 5, 6, 8, 9] I I766 := fs_tr frq0 (fs_mono fqI766 (by decide))
    have fr770 : fz 49 g [] J J767 := fz_tr frj0 (fz_mono fjI766 (by decide))
    have e771 : I766 (ad g 0) 15 = w759 := by rw [sI766_0_15]; exact ew759
    have e772 : I766 (ad g 0) 16 = w760 := by rw [sI766_0_16]; exact ew760
    have e773 : I766 (ad g 0) 1 = L := hI766.1.2
    have b774 := BT_get hI766.1.1 0 1 2 (0) (0) (900) (by decide) 1 (by decide) (by decide)
    rw [e773] at b774
    obtain ⟨w775, ew775⟩ : ∃ w : Int32, I766 (ad g 0) 4 = w := ⟨_, rfl⟩
    have bw775 := BT_get hI766.1.1 0 4 5 (0) (0) (900) (by decide) 4 (by decide) (by decide)
    rw [ew775] at bw775
    obtain ⟨w776, ew776⟩ : ∃ w : Int32, I766 (ad g 0) 2 = w := ⟨_, rfl⟩
    have bw776 := BT_get hI766.1.1 0 2 3 (0) (0) (900) (by decide) 2 (by decide) (by decide)
    rw [ew776] at bw776
    rw [ew775, ew776] at pI766
    refine WQ_iconst (1) (1) dX11_close_18 rfl rfl (fun v777 hv777 => ?_)
    exact WP_zret dX11_close_19 rfl (nar_z (by omega)) ⟨⟨hI766, rfl, fr768, fr770, fr769, ⟨(by rw [ew775, ew776]; omega), (by rw [e771, ew759] <;> exact (eq32 _ _).mpr (by omega)), (by rw [e772, ew760] <;> exact (eq32 _ _).mpr (by omega))⟩⟩, _, rfl, by omega, by omega⟩
  · refine WP_aload_n dX11_close_8 rfl ?_
    refine WQ_iconst (1) (1) dX11_close_9 rfl rfl (fun v778 hv778 => ?_)
    refine WP_callV1 (k := 11) dX11_close_10 ⟨⟨⟨by decide, by decide⟩, zX11_bad⟩, lX11_49, by decide, rfl, vX11_bad.1, vX11_bad.2⟩ (ly_is hy 0 11 rfl) (sm_bad2 hy hr hI v778  (by rw [ew761, ew762]; omega)) (Nat.le_of_ble_eq_true rfl) ?_
    intro r I779 J780 Ra hq
    obtain ⟨⟨hI779, ec, fiI779, fjI779, fqI779, ⟨pI779, sI779_0_15, sI779_0_16⟩⟩, v781, rfl, av781, bv781⟩ := hq
    show WP _ _ _ _ (.int _ :: _) _ _ _ _
    rw [ec]
    clear ec Ra
    have fr782 : fz 49 g [0] I I779 := fz_tr fr0 (fz_mono fiI779 (by decide))
    have fr783 : fs g [3, 4, 5, 6, 8, 9] I I779 := fs_tr frq0 (fs_mono fqI779 (by decide))
    have fr784 : fz 49 g [] J J780 := fz_tr frj0 (fz_mono fjI779 (by decide))
    have e785 : I779 (ad g 0) 15 = w759 := by rw [sI779_0_15]; exact ew759
    have e786 : I779 (ad g 0) 16 = w760 := by rw [sI779_0_16]; exact ew760
    have e787 : I779 (ad g 0) 1 = L := hI779.1.2
    have b788 := BT_get hI779.1.1 0 1 2 (0) (0) (900) (by decide) 1 (by decide) (by decide)
    rw [e787] at b788
    obtain ⟨w789, ew789⟩ : ∃ w : Int32, I779 (ad g 0) 4 = w := ⟨_, rfl⟩
    have bw789 := BT_get hI779.1.1 0 4 5 (0) (0) (900) (by decide) 4 (by decide) (by decide)
    rw [ew789] at bw789
    obtain ⟨w790, ew790⟩ : ∃ w : Int32, I779 (ad g 0) 2 = w := ⟨_, rfl⟩
    have bw790 := BT_get hI779.1.1 0 2 3 (0) (0) (900) (by decide) 2 (by decide) (by decide)
    rw [ew790] at bw790
    rw [ew789, ew790] at pI779
    exact WP_zret dX11_close_13 rfl (nar_z (by omega)) ⟨⟨hI779, rfl, fr782, fr784, fr783, ⟨(by rw [ew789, ew790]; omega), (by rw [e785, ew759] <;> exact (eq32 _ _).mpr (by omega)), (by rw [e786, ew760] <;> exact (eq32 _ _).mpr (by omega))⟩⟩, _, rfl, by omega, by omega⟩
set_option maxHeartbeats 4000000 in
set_option maxRecDepth 100000 in
theorem sm_known_2 {g : GG} {n : Int} {L : Int32} (hy : Ly g)  {I : pI} {J : pJ} {R : pR} (hr : Rf g R) (hI : MP g n L I) (ma : Int32) (ma_lo : 0 ≤ ma.toInt) (ma_hi : ma.toInt ≤ 4) (hb : (I (ad g 0) 4).toInt ≤ (I (ad g 0) 2).toInt) : SP g mX11_known [.ref (ad g 0), .ref (ad g 2), .int ma] I J R (fun r I' J' R' => (MP g n L I' ∧ R' = R ∧ fz 49 g [0] I I' ∧ fz 49 g [] J J' ∧ fs g [3, 4, 5, 6, 7, 8, 9] I I' ∧ (I' (ad g 0) 4).toInt ≤ (I' (ad g 0) 2).toInt ∧ I' (ad g 0) 15 = I (ad g 0) 15 ∧ I' (ad g 0) 16 = I (ad g 0) 16) ∧ ∃ v : Int32, r = some (.int v) ∧ 0 ≤ v.toInt ∧ v.toInt ≤ 1 ∧ (v.toInt = 1 → 0 ≤ (I' (ad g 0) 7).toInt ∧ (I' (ad g 0) 7).toInt ≤ 3)) := by
  refine SP_of ⟨by decide, rfl⟩ (Nat.le_of_ble_eq_true rfl) ?_
  have e791 : I (ad g 0) 1 = L := hI.1.2
  have b792 := BT_get hI.1.1 0 1 2 (0) (0) (900) (by decide) 1 (by decide) (by decide)
  rw [e791] at b792
  have fr0 : fz 49 g [0] I I := fz_rf
  have frj0 : fz 49 g [] J J := fz_rf
  have frq0 : fs g [3, 4, 5, 6, 7, 8, 9] I I := fs_rf
  obtain ⟨w793, ew793⟩ : ∃ w : Int32, I (ad g 0) 15 = w := ⟨_, rfl⟩
  have bw793 := BT_get hI.1.1 0 15 16 (0) (0) (4) (by decide) 15 (by decide) (by decide)
  rw [ew793] at bw793
  obtain ⟨w794, ew794⟩ : ∃ w : Int32, I (ad g 0) 16 = w := ⟨_, rfl⟩
  have bw794 := BT_get hI.1.1 0 16 17 (0) (0) (3) (by decide) 16 (by decide) (by decide)
  rw [ew794] at bw794
  obtain ⟨w795, ew795⟩ : ∃ w : Int32, I (ad g 0) 4 = w := ⟨_, rfl⟩
  have bw795 := BT_get hI.1.1 0 4 5 (0) (0) (900) (by decide) 4 (by decide) (by decide)
  rw [ew795] at bw795
  obtain ⟨w796, ew796⟩ : ∃ w : Int32, I (ad g 0) 2 = w := ⟨_, rfl⟩
  have bw796 := BT_get hI.1.1 0 2 3 (0) (0) (900) (by decide) 2 (by decide) (by decide)
  rw [ew796] at bw796
  rw [ew795, ew796] at hb
  refine WP_aload_n dX11_known_0 rfl ?_
  refine WQ_geti dX11_known_1 fX11_27 rfl (ly_is hy 0 11 rfl) (BT_get hI.1.1 0 5 6 (0) (0) (4) (by decide) 5 (by decide) (by decide)) (fun v797 ev797 av797 bv797 => ?_)
  refine WQ_iconst (1) (1) dX11_known_4 rfl rfl (fun v798 hv798 => ?_)
  refine WQ_icmp_eq 14 dX11_known_5 rfl (fun c798 => ?_) (fun c798 => ?_)
  · refine WP_aload_n dX11_known_14 rfl ?_
    refine WP_aload_n dX11_known_15 rfl ?_
    refine WP_aload_n dX11_known_16 rfl ?_
    refine WP_iload_n dX11_known_17 rfl ?_
    refine WP_callV2 (k := 11) dX11_known_18 ⟨⟨⟨by decide, by decide⟩, zX11_find⟩, lX11_71, by decide, rfl, vX11_find.1, vX11_find.2⟩ (ly_is hy 0 11 rfl) (sm_find_2 hy hr hI ma (by omega) (by omega)) (Nat.le_of_ble_eq_true rfl) ?_
    intro r Ia Ja Ra hq
    obtain ⟨⟨ea, eb, ec⟩, v800, rfl, av800, bv800, cv800⟩ := hq
    show WP _ _ _ _ (.int _ :: _) _ _ _ _
    rw [ea, eb, ec]
    clear ea eb ec Ia Ja Ra
    refine WQ_puti dX11_known_21 fX11_56 rfl rfl (ly_is hy 0 11 rfl) (fun I801 eI801 => ?_)
    have hI801 : MP g n L I801 := by rw [eI801]; exact (mp_w hy hI (c := 0) (mi_f hy hI.1 (c := 0) (-1) (0) (1000) (by decide) (Or.inr (by decide)) (by decide) (by omega) (by omega)) (by decide) (by decide) (Or.inr (by decide)))
    have e802 : I801 (ad g 0) 1 = L := by rw [eI801, pp_ne _ _ (Or.inr (by decide))]; exact e791
    have e803 : I801 (ad g 0) 15 = w793 := by rw [eI801, pp_ne _ _ (Or.inr (by decide))]; exact ew793
    have e804 : I801 (ad g 0) 16 = w794 := by rw [eI801, pp_ne _ _ (Or.inr (by decide))]; exact ew794
    have e805 : I801 (ad g 0) 4 = w795 := by rw [eI801, pp_ne _ _ (Or.inr (by decide))]; exact ew795
    have e806 : I801 (ad g 0) 2 = w796 := by rw [eI801, pp_ne _ _ (Or.inr (by decide))]; exact ew796
    have e807 : I801 (ad g 0) 5 = v797 := by rw [eI801, pp_ne _ _ (Or.inr (by decide))]; exact ev797
    have e808 : I801 (ad g 0) 7 = v800 := by rw [eI801, pp_self]
    have fr809 : fs g [3, 4, 5, 6, 7, 8, 9] I I801 := by rw [eI801]; exact fs_pp0 frq0 (by decide)
    have fr810 : fz 49 g [0] I I801 := by rw [eI801]; exact fzm_pp hy fr0 (by decide) (by decide)
    clear eI801
    refine WP_aload_n dX11_known_24 rfl ?_
    refine WQ_getim dX11_known_25 fX11_56 rfl (ly_is hy 0 11 rfl) e808 ?_
    refine WQ_iconst (-1) (-1) dX11_known_28 rfl rfl (fun v811 hv811 => ?_)
    refine WQ_icmp_ne 38 dX11_known_29 rfl (fun c811 => ?_) (fun c811 => ?_)
    · refine WP_aload_n dX11_known_38 rfl ?_
      refine WP_callV0 (k := 11) dX11_known_39 ⟨⟨⟨by decide, by decide⟩, zX11_scan⟩, lX11_63, by decide, rfl, vX11_scan.1, vX11_scan.2⟩ (ly_is hy 0 11 rfl) (sm_scan hy hr hI801   (by rw [e805, e806]; omega)) (Nat.le_of_ble_eq_true rfl) ?_
      intro r I813 J814 Ra hq
      obtain ⟨⟨hI813, ec, fiI813, fjI813, fqI813, ⟨pI813, sI813_0_7, sI813_0_15, sI813_0_16⟩⟩, rfl⟩ := hq
      rw [ec]
      clear ec Ra
      have fr815 : fz 49 g [0] I I813 := fz_tr fr810 (fz_mono fiI813 (by decide))
      have fr816 : fs g [3, 4, 5, 6, 7, 8, 9] I I813 := fs_tr fr809 (fs_mono fqI813 (by decide))
      have fr817 : fz 49 g [] J J814 := fz_tr frj0 (fz_mono fjI813 (by decide))
      have e818 : I813 (ad g 0) 7 = v800 := by rw [sI813_0_7]; exact e808
      have e819 : I813 (ad g 0) 15 = w793 := by rw [sI813_0_15]; exact e803
      have e820 : I813 (ad g 0) 16 = w794 := by rw [sI813_0_16]; exact e804
      have e821 : I813 (ad g 0) 1 = L := hI813.1.2
      have b822 := BT_get hI813.1.1 0 1 2 (0) (0) (900) (by decide) 1 (by decide) (by decide)
      rw [e821] at b822
      obtain ⟨w823, ew823⟩ : ∃ w : Int32, I813 (ad g 0) 4 = w := ⟨_, rfl⟩
      have bw823 := BT_get hI813.1.1 0 4 5 (0) (0) (900) (by decide) 4 (by decide) (by decide)
      rw [ew823] at bw823
      obtain ⟨w824, ew824⟩ : ∃ w : Int32, I813 (ad g 0) 2 = w := ⟨_, rfl⟩
      have bw824 := BT_get hI813.1.1 0 2 3 (0) (0) (900) (by decide) 2 (by decide) (by decide)
      rw [ew824] at bw824
      rw [ew823, ew824] at pI813
      refine WQ_iconst (1) (1) dX11_known_42 rfl rfl (fun v825 hv825 => ?_)
      exact WP_zret dX11_known_43 rfl (nar_z (by omega)) ⟨⟨hI813, rfl, fr815, fr817, fr816, ⟨(by rw [ew823, ew824]; omega), (by rw [e819, ew793] <;> exact (eq32 _ _).mpr (by omega)), (by rw [e820, ew794] <;> exact (eq32 _ _).mpr (by omega))⟩⟩, _, rfl, by omega, by omega, by (try rw [e818]); omega⟩
    · refine WP_aload_n dX11_known_32 rfl ?_
      refine WQ_iconst (5) (5) dX11_known_33 rfl rfl (fun v826 hv826 => ?_)
      refine WP_callV1 (k := 11) dX11_known_34 ⟨⟨⟨by decide, by decide⟩, zX11_bad⟩, lX11_49, by decide, rfl, vX11_bad.1, vX11_bad.2⟩ (ly_is hy 0 11 rfl) (sm_bad2 hy hr hI801 v826  (by rw [e805, e806]; omega)) (Nat.le_of_ble_eq_true rfl) ?_
      intro r I827 J828 Ra hq
      obtain ⟨⟨hI827, ec, fiI827, fjI827, fqI827, ⟨pI827, sI827_0_15, sI827_0_16⟩⟩, v829, rfl, av829, bv829⟩ := hq
      show WP _ _ _ _ (.int _ :: _) _ _ _ _
      rw [ec]
      clear ec Ra
      have fr830 : fz 49 g [0] I I827 := fz_tr fr810 (fz_mono fiI827 (by decide))
      have fr831 : fs g [3, 4, 5, 6, 7, 8, 9] I I827 := fs_tr fr809 (fs_mono fqI827 (by decide))
      have fr832 : fz 49 g [] J J828 := fz_tr frj0 (fz_mono fjI827 (by decide))
      have e833 : I827 (ad g 0) 15 = w793 := by rw [sI827_0_15]; exact e803
      have e834 : I827 (ad g 0) 16 = w794 := by rw [sI827_0_16]; exact e804
      have e835 : I827 (ad g 0) 1 = L := hI827.1.2
      have b836 := BT_get hI827.1.1 0 1 2 (0) (0) (900) (by decide) 1 (by decide) (by decide)
      rw [e835] at b836
      obtain ⟨w837, ew837⟩ : ∃ w : Int32, I827 (ad g 0) 4 = w := ⟨_, rfl⟩
      have bw837 := BT_get hI827.1.1 0 4 5 (0) (0) (900) (by decide) 4 (by decide) (by decide)
      rw [ew837] at bw837
      obtain ⟨w838, ew838⟩ : ∃ w : Int32, I827 (ad g 0) 2 = w := ⟨_, rfl⟩
      have bw838 := BT_get hI827.1.1 0 2 3 (0) (0) (900) (by decide) 2 (by decide) (by decide)
      rw [ew838] at bw838
      rw [ew837, ew838] at pI827
      obtain ⟨w839, ew839⟩ : ∃ w : Int32, I827 (ad g 0) 7 = w := ⟨_, rfl⟩
      have bw839 := BT_get hI827.1.1 0 7 8 (-1) (0) (1000) (by decide) 7 (by decide) (by decide)
      rw [ew839] at bw839
      exact WP_zret dX11_known_37 rfl (nar_z (by omega)) ⟨⟨hI827, rfl, fr830, fr832, fr831, ⟨(by rw [ew837, ew838]; omega), (by rw [e833, ew793] <;> exact (eq32 _ _).mpr (by omega)), (by rw [e834, ew794] <;> exact (eq32 _ _).mpr (by omega))⟩⟩, _, rfl, by omega, by omega, by (try rw [ew839]); omega⟩
  · refine WP_aload_n dX11_known_8 rfl ?_
    refine WQ_iconst (1) (1) dX11_known_9 rfl rfl (fun v840 hv840 => ?_)
    refine WP_callV1 (k := 11) dX11_known_10 ⟨⟨⟨by decide, by decide⟩, zX11_bad⟩, lX11_49, by decide, rfl, vX11_bad.1, vX11_bad.2⟩ (ly_is hy 0 11 rfl) (sm_bad2 hy hr hI v840  (by rw [ew795, ew796]; omega)) (Nat.le_of_ble_eq_true rfl) ?_
    intro r I841 J842 Ra hq
    obtain ⟨⟨hI841, ec, fiI841, fjI841, fqI841, ⟨pI841, sI841_0_15, sI841_0_16⟩⟩, v843, rfl, av843, bv843⟩ := hq
    show WP _ _ _ _ (.int _ :: _) _ _ _ _
    rw [ec]
    clear ec Ra
    have fr844 : fz 49 g [0] I I841 := fz_tr fr0 (fz_mono fiI841 (by decide))
    have fr845 : fs g [3, 4, 5, 6, 7, 8, 9] I I841 := fs_tr frq0 (fs_mono fqI841 (by decide))
    have fr846 : fz 49 g [] J J842 := fz_tr frj0 (fz_mono fjI841 (by decide))
    have e847 : I841 (ad g 0) 15 = w793 := by rw [sI841_0_15]; exact ew793
    have e848 : I841 (ad g 0) 16 = w794 := by rw [sI841_0_16]; exact ew794
    have e849 : I841 (ad g 0) 1 = L := hI841.1.2
    have b850 := BT_get hI841.1.1 0 1 2 (0) (0) (900) (by decide) 1 (by decide) (by decide)
    rw [e849] at b850
    obtain ⟨w851, ew851⟩ : ∃ w : Int32, I841 (ad g 0) 4 = w := ⟨_, rfl⟩
    have bw851 := BT_get hI841.1.1 0 4 5 (0) (0) (900) (by decide) 4 (by decide) (by decide)
    rw [ew851] at bw851
    obtain ⟨w852, ew852⟩ : ∃ w : Int32, I841 (ad g 0) 2 = w := ⟨_, rfl⟩
    have bw852 := BT_get hI841.1.1 0 2 3 (0) (0) (900) (by decide) 2 (by decide) (by decide)
    rw [ew852] at bw852
    rw [ew851, ew852] at pI841
    obtain ⟨w853, ew853⟩ : ∃ w : Int32, I841 (ad g 0) 7 = w := ⟨_, rfl⟩
    have bw853 := BT_get hI841.1.1 0 7 8 (-1) (0) (1000) (by decide) 7 (by decide) (by decide)
    rw [ew853] at bw853
    exact WP_zret dX11_known_13 rfl (nar_z (by omega)) ⟨⟨hI841, rfl, fr844, fr846, fr845, ⟨(by rw [ew851, ew852]; omega), (by rw [e847, ew793] <;> exact (eq32 _ _).mpr (by omega)), (by rw [e848, ew794] <;> exact (eq32 _ _).mpr (by omega))⟩⟩, _, rfl, by omega, by omega, by (try rw [ew853]); omega⟩
set_option maxHeartbeats 4000000 in
set_option maxRecDepth 100000 in
theorem sm_known_3 {g : GG} {n : Int} {L : Int32} (hy : Ly g)  {I : pI} {J : pJ} {R : pR} (hr : Rf g R) (hI : MP g n L I) (ma : Int32) (ma_lo : 0 ≤ ma.toInt) (ma_hi : ma.toInt ≤ 3) (hb : (I (ad g 0) 4).toInt ≤ (I (ad g 0) 2).toInt) : SP g mX11_known [.ref (ad g 0), .ref (ad g 3), .int ma] I J R (fun r I' J' R' => (MP g n L I' ∧ R' = R ∧ fz 49 g [0] I I' ∧ fz 49 g [] J J' ∧ fs g [3, 4, 5, 6, 7, 8, 9] I I' ∧ (I' (ad g 0) 4).toInt ≤ (I' (ad g 0) 2).toInt ∧ I' (ad g 0) 15 = I (ad g 0) 15 ∧ I' (ad g 0) 16 = I (ad g 0) 16) ∧ ∃ v : Int32, r = some (.int v) ∧ 0 ≤ v.toInt ∧ v.toInt ≤ 1 ∧ (v.toInt = 1 → 0 ≤ (I' (ad g 0) 7).toInt ∧ (I' (ad g 0) 7).toInt ≤ 2)) := by
  refine SP_of ⟨by decide, rfl⟩ (Nat.le_of_ble_eq_true rfl) ?_
  have e854 : I (ad g 0) 1 = L := hI.1.2
  have b855 := BT_get hI.1.1 0 1 2 (0) (0) (900) (by decide) 1 (by decide) (by decide)
  rw [e854] at b855
  have fr0 : fz 49 g [0] I I := fz_rf
  have frj0 : fz 49 g [] J J := fz_rf
  have frq0 : fs g [3, 4, 5, 6, 7, 8, 9] I I := fs_rf
  obtain ⟨w856, ew856⟩ : ∃ w : Int32, I (ad g 0) 15 = w := ⟨_, rfl⟩
  have bw856 := BT_get hI.1.1 0 15 16 (0) (0) (4) (by decide) 15 (by decide) (by decide)
  rw [ew856] at bw856
  obtain ⟨w857, ew857⟩ : ∃ w : Int32, I (ad g 0) 16 = w := ⟨_, rfl⟩
  have bw857 := BT_get hI.1.1 0 16 17 (0) (0) (3) (by decide) 16 (by decide) (by decide)
  rw [ew857] at bw857
  obtain ⟨w858, ew858⟩ : ∃ w : Int32, I (ad g 0) 4 = w := ⟨_, rfl⟩
  have bw858 := BT_get hI.1.1 0 4 5 (0) (0) (900) (by decide) 4 (by decide) (by decide)
  rw [ew858] at bw858
  obtain ⟨w859, ew859⟩ : ∃ w : Int32, I (ad g 0) 2 = w := ⟨_, rfl⟩
  have bw859 := BT_get hI.1.1 0 2 3 (0) (0) (900) (by decide) 2 (by decide) (by decide)
  rw [ew859] at bw859
  rw [ew858, ew859] at hb
  refine WP_aload_n dX11_known_0 rfl ?_
  refine WQ_geti dX11_known_1 fX11_27 rfl (ly_is hy 0 11 rfl) (BT_get hI.1.1 0 5 6 (0) (0) (4) (by decide) 5 (by decide) (by decide)) (fun v860 ev860 av860 bv860 => ?_)
  refine WQ_iconst (1) (1) dX11_known_4 rfl rfl (fun v861 hv861 => ?_)
  refine WQ_icmp_eq 14 dX11_known_5 rfl (fun c861 => ?_) (fun c861 => ?_)
  · refine WP_aload_n dX11_known_14 rfl ?_
    refine WP_aload_n dX11_known_15 rfl ?_
    refine WP_aload_n dX11_known_16 rfl ?_
    refine WP_iload_n dX11_known_17 rfl ?_
    refine WP_callV2 (k := 11) dX11_known_18 ⟨⟨⟨by decide, by decide⟩, zX11_find⟩, lX11_71, by decide, rfl, vX11_find.1, vX11_find.2⟩ (ly_is hy 0 11 rfl) (sm_find_3 hy hr hI ma (by omega) (by omega)) (Nat.le_of_ble_eq_true rfl) ?_
    intro r Ia Ja Ra hq
    obtain ⟨⟨ea, eb, ec⟩, v863, rfl, av863, bv863, cv863⟩ := hq
    show WP _ _ _ _ (.int _ :: _) _ _ _ _
    rw [ea, eb, ec]
    clear ea eb ec Ia Ja Ra
    refine WQ_puti dX11_known_21 fX11_56 rfl rfl (ly_is hy 0 11 rfl) (fun I864 eI864 => ?_)
    have hI864 : MP g n L I864 := by rw [eI864]; exact (mp_w hy hI (c := 0) (mi_f hy hI.1 (c := 0) (-1) (0) (1000) (by decide) (Or.inr (by decide)) (by decide) (by omega) (by omega)) (by decide) (by decide) (Or.inr (by decide)))
    have e865 : I864 (ad g 0) 1 = L := by rw [eI864, pp_ne _ _ (Or.inr (by decide))]; exact e854
    have e866 : I864 (ad g 0) 15 = w856 := by rw [eI864, pp_ne _ _ (Or.inr (by decide))]; exact ew856
    have e867 : I864 (ad g 0) 16 = w857 := by rw [eI864, pp_ne _ _ (Or.inr (by decide))]; exact ew857
    have e868 : I864 (ad g 0) 4 = w858 := by rw [eI864, pp_ne _ _ (Or.inr (by decide))]; exact ew858
    have e869 : I864 (ad g 0) 2 = w859 := by rw [eI864, pp_ne _ _ (Or.inr (by decide))]; exact ew859
    have e870 : I864 (ad g 0) 5 = v860 := by rw [eI864, pp_ne _ _ (Or.inr (by decide))]; exact ev860
    have e871 : I864 (ad g 0) 7 = v863 := by rw [eI864, pp_self]
    have fr872 : fs g [3, 4, 5, 6, 7, 8, 9] I I864 := by rw [eI864]; exact fs_pp0 frq0 (by decide)
    have fr873 : fz 49 g [0] I I864 := by rw [eI864]; exact fzm_pp hy fr0 (by decide) (by decide)
    clear eI864
    refine WP_aload_n dX11_known_24 rfl ?_
    refine WQ_getim dX11_known_25 fX11_56 rfl (ly_is hy 0 11 rfl) e871 ?_
    refine WQ_iconst (-1) (-1) dX11_known_28 rfl rfl (fun v874 hv874 => ?_)
    refine WQ_icmp_ne 38 dX11_known_29 rfl (fun c874 => ?_) (fun c874 => ?_)
    · refine WP_aload_n dX11_known_38 rfl ?_
      refine WP_callV0 (k := 11) dX11_known_39 ⟨⟨⟨by decide, by decide⟩, zX11_scan⟩, lX11_63, by decide, rfl, vX11_scan.1, vX11_scan.2⟩ (ly_is hy 0 11 rfl) (sm_scan hy hr hI864   (by rw [e868, e869]; omega)) (Nat.le_of_ble_eq_true rfl) ?_
      intro r I876 J877 Ra hq
      obtain ⟨⟨hI876, ec, fiI876, fjI876, fqI876, ⟨pI876, sI876_0_7, sI876_0_15, sI876_0_16⟩⟩, rfl⟩ := hq
      rw [ec]
      clear ec Ra
      have fr878 : fz 49 g [0] I I876 := fz_tr fr873 (fz_mono fiI876 (by decide))
      have fr879 : fs g [3, 4, 5, 6, 7, 8, 9] I I876 := fs_tr fr872 (fs_mono fqI876 (by decide))
      have fr880 : fz 49 g [] J J877 := fz_tr frj0 (fz_mono fjI876 (by decide))
      have e881 : I876 (ad g 0) 7 = v863 := by rw [sI876_0_7]; exact e871
      have e882 : I876 (ad g 0) 15 = w856 := by rw [sI876_0_15]; exact e866
      have e883 : I876 (ad g 0) 16 = w857 := by rw [sI876_0_16]; exact e867
      have e884 : I876 (ad g 0) 1 = L := hI876.1.2
      have b885 := BT_get hI876.1.1 0 1 2 (0) (0) (900) (by decide) 1 (by decide) (by decide)
      rw [e884] at b885
      obtain ⟨w886, ew886⟩ : ∃ w : Int32, I876 (ad g 0) 4 = w := ⟨_, rfl⟩
      have bw886 := BT_get hI876.1.1 0 4 5 (0) (0) (900) (by decide) 4 (by decide) (by decide)
      rw [ew886] at bw886
      obtain ⟨w887, ew887⟩ : ∃ w : Int32, I876 (ad g 0) 2 = w := ⟨_, rfl⟩
      have bw887 := BT_get hI876.1.1 0 2 3 (0) (0) (900) (by decide) 2 (by decide) (by decide)
      rw [ew887] at bw887
      rw [ew886, ew887] at pI876
      refine WQ_iconst (1) (1) dX11_known_42 rfl rfl (fun v888 hv888 => ?_)
      exact WP_zret dX11_known_43 rfl (nar_z (by omega)) ⟨⟨hI876, rfl, fr878, fr880, fr879, ⟨(by rw [ew886, ew887]; omega), (by rw [e882, ew856] <;> exact (eq32 _ _).mpr (by omega)), (by rw [e883, ew857] <;> exact (eq32 _ _).mpr (by omega))⟩⟩, _, rfl, by omega, by omega, by (try rw [e881]); omega⟩
    · refine WP_aload_n dX11_known_32 rfl ?_
      refine WQ_iconst (5) (5) dX11_known_33 rfl rfl (fun v889 hv889 => ?_)
      refine WP_callV1 (k := 11) dX11_known_34 ⟨⟨⟨by decide, by decide⟩, zX11_bad⟩, lX11_49, by decide, rfl, vX11_bad.1, vX11_bad.2⟩ (ly_is hy 0 11 rfl) (sm_bad2 hy hr hI864 v889  (by rw [e868, e869]; omega)) (Nat.le_of_ble_eq_true rfl) ?_
      intro r I890 J891 Ra hq
      obtain ⟨⟨hI890, ec, fiI890, fjI890, fqI890, ⟨pI890, sI890_0_15, sI890_0_16⟩⟩, v892, rfl, av892, bv892⟩ := hq
      show WP _ _ _ _ (.int _ :: _) _ _ _ _
      rw [ec]
      clear ec Ra
      have fr893 : fz 49 g [0] I I890 := fz_tr fr873 (fz_mono fiI890 (by decide))
      have fr894 : fs g [3, 4, 5, 6, 7, 8, 9] I I890 := fs_tr fr872 (fs_mono fqI890 (by decide))
      have fr895 : fz 49 g [] J J891 := fz_tr frj0 (fz_mono fjI890 (by decide))
      have e896 : I890 (ad g 0) 15 = w856 := by rw [sI890_0_15]; exact e866
      have e897 : I890 (ad g 0) 16 = w857 := by rw [sI890_0_16]; exact e867
      have e898 : I890 (ad g 0) 1 = L := hI890.1.2
      have b899 := BT_get hI890.1.1 0 1 2 (0) (0) (900) (by decide) 1 (by decide) (by decide)
      rw [e898] at b899
      obtain ⟨w900, ew900⟩ : ∃ w : Int32, I890 (ad g 0) 4 = w := ⟨_, rfl⟩
      have bw900 := BT_get hI890.1.1 0 4 5 (0) (0) (900) (by decide) 4 (by decide) (by decide)
      rw [ew900] at bw900
      obtain ⟨w901, ew901⟩ : ∃ w : Int32, I890 (ad g 0) 2 = w := ⟨_, rfl⟩
      have bw901 := BT_get hI890.1.1 0 2 3 (0) (0) (900) (by decide) 2 (by decide) (by decide)
      rw [ew901] at bw901
      rw [ew900, ew901] at pI890
      obtain ⟨w902, ew902⟩ : ∃ w : Int32, I890 (ad g 0) 7 = w := ⟨_, rfl⟩
      have bw902 := BT_get hI890.1.1 0 7 8 (-1) (0) (1000) (by decide) 7 (by decide) (by decide)
      rw [ew902] at bw902
      exact WP_zret dX11_known_37 rfl (nar_z (by omega)) ⟨⟨hI890, rfl, fr893, fr895, fr894, ⟨(by rw [ew900, ew901]; omega), (by rw [e896, ew856] <;> exact (eq32 _ _).mpr (by omega)), (by rw [e897, ew857] <;> exact (eq32 _ _).mpr (by omega))⟩⟩, _, rfl, by omega, by omega, by (try rw [ew902]); omega⟩
  · refine WP_aload_n dX11_known_8 rfl ?_
    refine WQ_iconst (1) (1) dX11_known_9 rfl rfl (fun v903 hv903 => ?_)
    refine WP_callV1 (k := 11) dX11_known_10 ⟨⟨⟨by decide, by decide⟩, zX11_bad⟩, lX11_49, by decide, rfl, vX11_bad.1, vX11_bad.2⟩ (ly_is hy 0 11 rfl) (sm_bad2 hy hr hI v903  (by rw [ew858, ew859]; omega)) (Nat.le_of_ble_eq_true rfl) ?_
    intro r I904 J905 Ra hq
    obtain ⟨⟨hI904, ec, fiI904, fjI904, fqI904, ⟨pI904, sI904_0_15, sI904_0_16⟩⟩, v906, rfl, av906, bv906⟩ := hq
    show WP _ _ _ _ (.int _ :: _) _ _ _ _
    rw [ec]
    clear ec Ra
    have fr907 : fz 49 g [0] I I904 := fz_tr fr0 (fz_mono fiI904 (by decide))
    have fr908 : fs g [3, 4, 5, 6, 7, 8, 9] I I904 := fs_tr frq0 (fs_mono fqI904 (by decide))
    have fr909 : fz 49 g [] J J905 := fz_tr frj0 (fz_mono fjI904 (by decide))
    have e910 : I904 (ad g 0) 15 = w856 := by rw [sI904_0_15]; exact ew856
    have e911 : I904 (ad g 0) 16 = w857 := by rw [sI904_0_16]; exact ew857
    have e912 : I904 (ad g 0) 1 = L := hI904.1.2
    have b913 := BT_get hI904.1.1 0 1 2 (0) (0) (900) (by decide) 1 (by decide) (by decide)
    rw [e912] at b913
    obtain ⟨w914, ew914⟩ : ∃ w : Int32, I904 (ad g 0) 4 = w := ⟨_, rfl⟩
    have bw914 := BT_get hI904.1.1 0 4 5 (0) (0) (900) (by decide) 4 (by decide) (by decide)
    rw [ew914] at bw914
    obtain ⟨w915, ew915⟩ : ∃ w : Int32, I904 (ad g 0) 2 = w := ⟨_, rfl⟩
    have bw915 := BT_get hI904.1.1 0 2 3 (0) (0) (900) (by decide) 2 (by decide) (by decide)
    rw [ew915] at bw915
    rw [ew914, ew915] at pI904
    obtain ⟨w916, ew916⟩ : ∃ w : Int32, I904 (ad g 0) 7 = w := ⟨_, rfl⟩
    have bw916 := BT_get hI904.1.1 0 7 8 (-1) (0) (1000) (by decide) 7 (by decide) (by decide)
    rw [ew916] at bw916
    exact WP_zret dX11_known_13 rfl (nar_z (by omega)) ⟨⟨hI904, rfl, fr907, fr909, fr908, ⟨(by rw [ew914, ew915]; omega), (by rw [e910, ew856] <;> exact (eq32 _ _).mpr (by omega)), (by rw [e911, ew857] <;> exact (eq32 _ _).mpr (by omega))⟩⟩, _, rfl, by omega, by omega, by (try rw [ew916]); omega⟩
set_option maxHeartbeats 4000000 in
set_option maxRecDepth 100000 in
theorem sm_known_4 {g : GG} {n : Int} {L : Int32} (hy : Ly g)  {I : pI} {J : pJ} {R : pR} (hr : Rf g R) (hI : MP g n L I) (ma : Int32) (ma_lo : 0 ≤ ma.toInt) (ma_hi : ma.toInt ≤ 4) (hb : (I (ad g 0) 4).toInt ≤ (I (ad g 0) 2).toInt) : SP g mX11_known [.ref (ad g 0), .ref (ad g 4), .int ma] I J R (fun r I' J' R' => (MP g n L I' ∧ R' = R ∧ fz 49 g [0] I I' ∧ fz 49 g [] J J' ∧ fs g [3, 4, 5, 6, 7, 8, 9] I I' ∧ (I' (ad g 0) 4).toInt ≤ (I' (ad g 0) 2).toInt ∧ I' (ad g 0) 15 = I (ad g 0) 15 ∧ I' (ad g 0) 16 = I (ad g 0) 16) ∧ ∃ v : Int32, r = some (.int v) ∧ 0 ≤ v.toInt ∧ v.toInt ≤ 1 ∧ (v.toInt = 1 → 0 ≤ (I' (ad g 0) 7).toInt ∧ (I' (ad g 0) 7).toInt ≤ 3)) := by
  refine SP_of ⟨by decide, rfl⟩ (Nat.le_of_ble_eq_true rfl) ?_
  have e917 : I (ad g 0) 1 = L := hI.1.2
  have b918 := BT_get hI.1.1 0 1 2 (0) (0) (900) (by decide) 1 (by decide) (by decide)
  rw [e917] at b918
  have fr0 : fz 49 g [0] I I := fz_rf
  have frj0 : fz 49 g [] J J := fz_rf
  have frq0 : fs g [3, 4, 5, 6, 7, 8, 9] I I := fs_rf
  obtain ⟨w919, ew919⟩ : ∃ w : Int32, I (ad g 0) 15 = w := ⟨_, rfl⟩
  have bw919 := BT_get hI.1.1 0 15 16 (0) (0) (4) (by decide) 15 (by decide) (by decide)
  rw [ew919] at bw919
  obtain ⟨w920, ew920⟩ : ∃ w : Int32, I (ad g 0) 16 = w := ⟨_, rfl⟩
  have bw920 := BT_get hI.1.1 0 16 17 (0) (0) (3) (by decide) 16 (by decide) (by decide)
  rw [ew920] at bw920
  obtain ⟨w921, ew921⟩ : ∃ w : Int32, I (ad g 0) 4 = w := ⟨_, rfl⟩
  have bw921 := BT_get hI.1.1 0 4 5 (0) (0) (900) (by decide) 4 (by decide) (by decide)
  rw [ew921] at bw921
  obtain ⟨w922, ew922⟩ : ∃ w : Int32, I (ad g 0) 2 = w := ⟨_, rfl⟩
  have bw922 := BT_get hI.1.1 0 2 3 (0) (0) (900) (by decide) 2 (by decide) (by decide)
  rw [ew922] at bw922
  rw [ew921, ew922] at hb
  refine WP_aload_n dX11_known_0 rfl ?_
  refine WQ_geti dX11_known_1 fX11_27 rfl (ly_is hy 0 11 rfl) (BT_get hI.1.1 0 5 6 (0) (0) (4) (by decide) 5 (by decide) (by decide)) (fun v923 ev923 av923 bv923 => ?_)
  refine WQ_iconst (1) (1) dX11_known_4 rfl rfl (fun v924 hv924 => ?_)
  refine WQ_icmp_eq 14 dX11_known_5 rfl (fun c924 => ?_) (fun c924 => ?_)
  · refine WP_aload_n dX11_known_14 rfl ?_
    refine WP_aload_n dX11_known_15 rfl ?_
    refine WP_aload_n dX11_known_16 rfl ?_
    refine WP_iload_n dX11_known_17 rfl ?_
    refine WP_callV2 (k := 11) dX11_known_18 ⟨⟨⟨by decide, by decide⟩, zX11_find⟩, lX11_71, by decide, rfl, vX11_find.1, vX11_find.2⟩ (ly_is hy 0 11 rfl) (sm_find_4 hy hr hI ma (by omega) (by omega)) (Nat.le_of_ble_eq_true rfl) ?_
    intro r Ia Ja Ra hq
    obtain ⟨⟨ea, eb, ec⟩, v926, rfl, av926, bv926, cv926⟩ := hq
    show WP _ _ _ _ (.int _ :: _) _ _ _ _
    rw [ea, eb, ec]
    clear ea eb ec Ia Ja Ra
    refine WQ_puti dX11_known_21 fX11_56 rfl rfl (ly_is hy 0 11 rfl) (fun I927 eI927 => ?_)
    have hI927 : MP g n L I927 := by rw [eI927]; exact (mp_w hy hI (c := 0) (mi_f hy hI.1 (c := 0) (-1) (0) (1000) (by decide) (Or.inr (by decide)) (by decide) (by omega) (by omega)) (by decide) (by decide) (Or.inr (by decide)))
    have e928 : I927 (ad g 0) 1 = L := by rw [eI927, pp_ne _ _ (Or.inr (by decide))]; exact e917
    have e929 : I927 (ad g 0) 15 = w919 := by rw [eI927, pp_ne _ _ (Or.inr (by decide))]; exact ew919
    have e930 : I927 (ad g 0) 16 = w920 := by rw [eI927, pp_ne _ _ (Or.inr (by decide))]; exact ew920
    have e931 : I927 (ad g 0) 4 = w921 := by rw [eI927, pp_ne _ _ (Or.inr (by decide))]; exact ew921
    have e932 : I927 (ad g 0) 2 = w922 := by rw [eI927, pp_ne _ _ (Or.inr (by decide))]; exact ew922
    have e933 : I927 (ad g 0) 5 = v923 := by rw [eI927, pp_ne _ _ (Or.inr (by decide))]; exact ev923
    have e934 : I927 (ad g 0) 7 = v926 := by rw [eI927, pp_self]
    have fr935 : fs g [3, 4, 5, 6, 7, 8, 9] I I927 := by rw [eI927]; exact fs_pp0 frq0 (by decide)
    have fr936 : fz 49 g [0] I I927 := by rw [eI927]; exact fzm_pp hy fr0 (by decide) (by decide)
    clear eI927
    refine WP_aload_n dX11_known_24 rfl ?_
    refine WQ_getim dX11_known_25 fX11_56 rfl (ly_is hy 0 11 rfl) e934 ?_
    refine WQ_iconst (-1) (-1) dX11_known_28 rfl rfl (fun v937 hv937 => ?_)
    refine WQ_icmp_ne 38 dX11_known_29 rfl (fun c937 => ?_) (fun c937 => ?_)
    · refine WP_aload_n dX11_known_38 rfl ?_
      refine WP_callV0 (k := 11) dX11_known_39 ⟨⟨⟨by decide, by decide⟩, zX11_scan⟩, lX11_63, by decide, rfl, vX11_scan.1, vX11_scan.2⟩ (ly_is hy 0 11 rfl) (sm_scan hy hr hI927   (by rw [e931, e932]; omega)) (Nat.le_of_ble_eq_true rfl) ?_
      intro r I939 J940 Ra hq
      obtain ⟨⟨hI939, ec, fiI939, fjI939, fqI939, ⟨pI939, sI939_0_7, sI939_0_15, sI939_0_16⟩⟩, rfl⟩ := hq
      rw [ec]
      clear ec Ra
      have fr941 : fz 49 g [0] I I939 := fz_tr fr936 (fz_mono fiI939 (by decide))
      have fr942 : fs g [3, 4, 5, 6, 7, 8, 9] I I939 := fs_tr fr935 (fs_mono fqI939 (by decide))
      have fr943 : fz 49 g [] J J940 := fz_tr frj0 (fz_mono fjI939 (by decide))
      have e944 : I939 (ad g 0) 7 = v926 := by rw [sI939_0_7]; exact e934
      have e945 : I939 (ad g 0) 15 = w919 := by rw [sI939_0_15]; exact e929
      have e946 : I939 (ad g 0) 16 = w920 := by rw [sI939_0_16]; exact e930
      have e947 : I939 (ad g 0) 1 = L := hI939.1.2
      have b948 := BT_get hI939.1.1 0 1 2 (0) (0) (900) (by decide) 1 (by decide) (by decide)
      rw [e947] at b948
      obtain ⟨w949, ew949⟩ : ∃ w : Int32, I939 (ad g 0) 4 = w := ⟨_, rfl⟩
      have bw949 := BT_get hI939.1.1 0 4 5 (0) (0) (900) (by decide) 4 (by decide) (by decide)
      rw [ew949] at bw949
      obtain ⟨w950, ew950⟩ : ∃ w : Int32, I939 (ad g 0) 2 = w := ⟨_, rfl⟩
      have bw950 := BT_get hI939.1.1 0 2 3 (0) (0) (900) (by decide) 2 (by decide) (by decide)
      rw [ew950] at bw950
      rw [ew949, ew950] at pI939
      refine WQ_iconst (1) (1) dX11_known_42 rfl rfl (fun v951 hv951 => ?_)
      exact WP_zret dX11_known_43 rfl (nar_z (by omega)) ⟨⟨hI939, rfl, fr941, fr943, fr942, ⟨(by rw [ew949, ew950]; omega), (by rw [e945, ew919] <;> exact (eq32 _ _).mpr (by omega)), (by rw [e946, ew920] <;> exact (eq32 _ _).mpr (by omega))⟩⟩, _, rfl, by omega, by omega, by (try rw [e944]); omega⟩
    · refine WP_aload_n dX11_known_32 rfl ?_
      refine WQ_iconst (5) (5) dX11_known_33 rfl rfl (fun v952 hv952 => ?_)
      refine WP_callV1 (k := 11) dX11_known_34 ⟨⟨⟨by decide, by decide⟩, zX11_bad⟩, lX11_49, by decide, rfl, vX11_bad.1, vX11_bad.2⟩ (ly_is hy 0 11 rfl) (sm_bad2 hy hr hI927 v952  (by rw [e931, e932]; omega)) (Nat.le_of_ble_eq_true rfl) ?_
      intro r I953 J954 Ra hq
      obtain ⟨⟨hI953, ec, fiI953, fjI953, fqI953, ⟨pI953, sI953_0_15, sI953_0_16⟩⟩, v955, rfl, av955, bv955⟩ := hq
      show WP _ _ _ _ (.int _ :: _) _ _ _ _
      rw [ec]
      clear ec Ra
      have fr956 : fz 49 g [0] I I953 := fz_tr fr936 (fz_mono fiI953 (by decide))
      have fr957 : fs g [3, 4, 5, 6, 7, 8, 9] I I953 := fs_tr fr935 (fs_mono fqI953 (by decide))
      have fr958 : fz 49 g [] J J954 := fz_tr frj0 (fz_mono fjI953 (by decide))
      have e959 : I953 (ad g 0) 15 = w919 := by rw [sI953_0_15]; exact e929
      have e960 : I953 (ad g 0) 16 = w920 := by rw [sI953_0_16]; exact e930
      have e961 : I953 (ad g 0) 1 = L := hI953.1.2
      have b962 := BT_get hI953.1.1 0 1 2 (0) (0) (900) (by decide) 1 (by decide) (by decide)
      rw [e961] at b962
      obtain ⟨w963, ew963⟩ : ∃ w : Int32, I953 (ad g 0) 4 = w := ⟨_, rfl⟩
      have bw963 := BT_get hI953.1.1 0 4 5 (0) (0) (900) (by decide) 4 (by decide) (by decide)
      rw [ew963] at bw963
      obtain ⟨w964, ew964⟩ : ∃ w : Int32, I953 (ad g 0) 2 = w := ⟨_, rfl⟩
      have bw964 := BT_get hI953.1.1 0 2 3 (0) (0) (900) (by decide) 2 (by decide) (by decide)
      rw [ew964] at bw964
      rw [ew963, ew964] at pI953
      obtain ⟨w965, ew965⟩ : ∃ w : Int32, I953 (ad g 0) 7 = w := ⟨_, rfl⟩
      have bw965 := BT_get hI953.1.1 0 7 8 (-1) (0) (1000) (by decide) 7 (by decide) (by decide)
      rw [ew965] at bw965
      exact WP_zret dX11_known_37 rfl (nar_z (by omega)) ⟨⟨hI953, rfl, fr956, fr958, fr957, ⟨(by rw [ew963, ew964]; omega), (by rw [e959, ew919] <;> exact (eq32 _ _).mpr (by omega)), (by rw [e960, ew920] <;> exact (eq32 _ _).mpr (by omega))⟩⟩, _, rfl, by omega, by omega, by (try rw [ew965]); omega⟩
  · refine WP_aload_n dX11_known_8 rfl ?_
    refine WQ_iconst (1) (1) dX11_known_9 rfl rfl (fun v966 hv966 => ?_)
    refine WP_callV1 (k := 11) dX11_known_10 ⟨⟨⟨by decide, by decide⟩, zX11_bad⟩, lX11_49, by decide, rfl, vX11_bad.1, vX11_bad.2⟩ (ly_is hy 0 11 rfl) (sm_bad2 hy hr hI v966  (by rw [ew921, ew922]; omega)) (Nat.le_of_ble_eq_true rfl) ?_
    intro r I967 J968 Ra hq
    obtain ⟨⟨hI967, ec, fiI967, fjI967, fqI967, ⟨pI967, sI967_0_15, sI967_0_16⟩⟩, v969, rfl, av969, bv969⟩ := hq
    show WP _ _ _ _ (.int _ :: _) _ _ _ _
    rw [ec]
    clear ec Ra
    have fr970 : fz 49 g [0] I I967 := fz_tr fr0 (fz_mono fiI967 (by decide))
    have fr971 : fs g [3, 4, 5, 6, 7, 8, 9] I I967 := fs_tr frq0 (fs_mono fqI967 (by decide))
    have fr972 : fz 49 g [] J J968 := fz_tr frj0 (fz_mono fjI967 (by decide))
    have e973 : I967 (ad g 0) 15 = w919 := by rw [sI967_0_15]; exact ew919
    have e974 : I967 (ad g 0) 16 = w920 := by rw [sI967_0_16]; exact ew920
    have e975 : I967 (ad g 0) 1 = L := hI967.1.2
    have b976 := BT_get hI967.1.1 0 1 2 (0) (0) (900) (by decide) 1 (by decide) (by decide)
    rw [e975] at b976
    obtain ⟨w977, ew977⟩ : ∃ w : Int32, I967 (ad g 0) 4 = w := ⟨_, rfl⟩
    have bw977 := BT_get hI967.1.1 0 4 5 (0) (0) (900) (by decide) 4 (by decide) (by decide)
    rw [ew977] at bw977
    obtain ⟨w978, ew978⟩ : ∃ w : Int32, I967 (ad g 0) 2 = w := ⟨_, rfl⟩
    have bw978 := BT_get hI967.1.1 0 2 3 (0) (0) (900) (by decide) 2 (by decide) (by decide)
    rw [ew978] at bw978
    rw [ew977, ew978] at pI967
    obtain ⟨w979, ew979⟩ : ∃ w : Int32, I967 (ad g 0) 7 = w := ⟨_, rfl⟩
    have bw979 := BT_get hI967.1.1 0 7 8 (-1) (0) (1000) (by decide) 7 (by decide) (by decide)
    rw [ew979] at bw979
    exact WP_zret dX11_known_13 rfl (nar_z (by omega)) ⟨⟨hI967, rfl, fr970, fr972, fr971, ⟨(by rw [ew977, ew978]; omega), (by rw [e973, ew919] <;> exact (eq32 _ _).mpr (by omega)), (by rw [e974, ew920] <;> exact (eq32 _ _).mpr (by omega))⟩⟩, _, rfl, by omega, by omega, by (try rw [ew979]); omega⟩
set_option maxHeartbeats 4000000 in
set_option maxRecDepth 100000 in
theorem sm_known_5 {g : GG} {n : Int} {L : Int32} (hy : Ly g)  {I : pI} {J : pJ} {R : pR} (hr : Rf g R) (hI : MP g n L I) (ma : Int32) (ma_lo : 0 ≤ ma.toInt) (ma_hi : ma.toInt ≤ 3) (hb : (I (ad g 0) 4).toInt ≤ (I (ad g 0) 2).toInt) : SP g mX11_known [.ref (ad g 0), .ref (ad g 5), .int ma] I J R (fun r I' J' R' => (MP g n L I' ∧ R' = R ∧ fz 49 g [0] I I' ∧ fz 49 g [] J J' ∧ fs g [3, 4, 5, 6, 7, 8, 9] I I' ∧ (I' (ad g 0) 4).toInt ≤ (I' (ad g 0) 2).toInt ∧ I' (ad g 0) 15 = I (ad g 0) 15 ∧ I' (ad g 0) 16 = I (ad g 0) 16) ∧ ∃ v : Int32, r = some (.int v) ∧ 0 ≤ v.toInt ∧ v.toInt ≤ 1 ∧ (v.toInt = 1 → 0 ≤ (I' (ad g 0) 7).toInt ∧ (I' (ad g 0) 7).toInt ≤ 2)) := by
  refine SP_of ⟨by decide, rfl⟩ (Nat.le_of_ble_eq_true rfl) ?_
  have e980 : I (ad g 0) 1 = L := hI.1.2
  have b981 := BT_get hI.1.1 0 1 2 (0) (0) (900) (by decide) 1 (by decide) (by decide)
  rw [e980] at b981
  have fr0 : fz 49 g [0] I I := fz_rf
  have frj0 : fz 49 g [] J J := fz_rf
  have frq0 : fs g [3, 4, 5, 6, 7, 8, 9] I I := fs_rf
  obtain ⟨w982, ew982⟩ : ∃ w : Int32, I (ad g 0) 15 = w := ⟨_, rfl⟩
  have bw982 := BT_get hI.1.1 0 15 16 (0) (0) (4) (by decide) 15 (by decide) (by decide)
  rw [ew982] at bw982
  obtain ⟨w983, ew983⟩ : ∃ w : Int32, I (ad g 0) 16 = w := ⟨_, rfl⟩
  have bw983 := BT_get hI.1.1 0 16 17 (0) (0) (3) (by decide) 16 (by decide) (by decide)
  rw [ew983] at bw983
  obtain ⟨w984, ew984⟩ : ∃ w : Int32, I (ad g 0) 4 = w := ⟨_, rfl⟩
  have bw984 := BT_get hI.1.1 0 4 5 (0) (0) (900) (by decide) 4 (by decide) (by decide)
  rw [ew984] at bw984
  obtain ⟨w985, ew985⟩ : ∃ w : Int32, I (ad g 0) 2 = w := ⟨_, rfl⟩
  have bw985 := BT_get hI.1.1 0 2 3 (0) (0) (900) (by decide) 2 (by decide) (by decide)
  rw [ew985] at bw985
  rw [ew984, ew985] at hb
  refine WP_aload_n dX11_known_0 rfl ?_
  refine WQ_geti dX11_known_1 fX11_27 rfl (ly_is hy 0 11 rfl) (BT_get hI.1.1 0 5 6 (0) (0) (4) (by decide) 5 (by decide) (by decide)) (fun v986 ev986 av986 bv986 => ?_)
  refine WQ_iconst (1) (1) dX11_known_4 rfl rfl (fun v987 hv987 => ?_)
  refine WQ_icmp_eq 14 dX11_known_5 rfl (fun c987 => ?_) (fun c987 => ?_)
  · refine WP_aload_n dX11_known_14 rfl ?_
    refine WP_aload_n dX11_known_15 rfl ?_
    refine WP_aload_n dX11_known_16 rfl ?_
    refine WP_iload_n dX11_known_17 rfl ?_
    refine WP_callV2 (k := 11) dX11_known_18 ⟨⟨⟨by decide, by decide⟩, zX11_find⟩, lX11_71, by decide, rfl, vX11_find.1, vX11_find.2⟩ (ly_is hy 0 11 rfl) (sm_find_5 hy hr hI ma (by omega) (by omega)) (Nat.le_of_ble_eq_true rfl) ?_
    intro r Ia Ja Ra hq
    obtain ⟨⟨ea, eb, ec⟩, v989, rfl, av989, bv989, cv989⟩ := hq
    show WP _ _ _ _ (.int _ :: _) _ _ _ _
    rw [ea, eb, ec]
    clear ea eb ec Ia Ja Ra
    refine WQ_puti dX11_known_21 fX11_56 rfl rfl (ly_is hy 0 11 rfl) (fun I990 eI990 => ?_)
    have hI990 : MP g n L I990 := by rw [eI990]; exact (mp_w hy hI (c := 0) (mi_f hy hI.1 (c := 0) (-1) (0) (1000) (by decide) (Or.inr (by decide)) (by decide) (by omega) (by omega)) (by decide) (by decide) (Or.inr (by decide)))
    have e991 : I990 (ad g 0) 1 = L := by rw [eI990, pp_ne _ _ (Or.inr (by decide))]; exact e980
    have e992 : I990 (ad g 0) 15 = w982 := by rw [eI990, pp_ne _ _ (Or.inr (by decide))]; exact ew982
    have e993 : I990 (ad g 0) 16 = w983 := by rw [eI990, pp_ne _ _ (Or.inr (by decide))]; exact ew983
    have e994 : I990 (ad g 0) 4 = w984 := by rw [eI990, pp_ne _ _ (Or.inr (by decide))]; exact ew984
    have e995 : I990 (ad g 0) 2 = w985 := by rw [eI990, pp_ne _ _ (Or.inr (by decide))]; exact ew985
    have e996 : I990 (ad g 0) 5 = v986 := by rw [eI990, pp_ne _ _ (Or.inr (by decide))]; exact ev986
    have e997 : I990 (ad g 0) 7 = v989 := by rw [eI990, pp_self]
    have fr998 : fs g [3, 4, 5, 6, 7, 8, 9] I I990 := by rw [eI990]; exact fs_pp0 frq0 (by decide)
    have fr999 : fz 49 g [0] I I990 := by rw [eI990]; exact fzm_pp hy fr0 (by decide) (by decide)
    clear eI990
    refine WP_aload_n dX11_known_24 rfl ?_
    refine WQ_getim dX11_known_25 fX11_56 rfl (ly_is hy 0 11 rfl) e997 ?_
    refine WQ_iconst (-1) (-1) dX11_known_28 rfl rfl (fun v1000 hv1000 => ?_)
    refine WQ_icmp_ne 38 dX11_known_29 rfl (fun c1000 => ?_) (fun c1000 => ?_)
    · refine WP_aload_n dX11_known_38 rfl ?_
      refine WP_callV0 (k := 11) dX11_known_39 ⟨⟨⟨by decide, by decide⟩, zX11_scan⟩, lX11_63, by decide, rfl, vX11_scan.1, vX11_scan.2⟩ (ly_is hy 0 11 rfl) (sm_scan hy hr hI990   (by rw [e994, e995]; omega)) (Nat.le_of_ble_eq_true rfl) ?_
      intro r I1002 J1003 Ra hq
      obtain ⟨⟨hI1002, ec, fiI1002, fjI1002, fqI1002, ⟨pI1002, sI1002_0_7, sI1002_0_15, sI1002_0_16⟩⟩, rfl⟩ := hq
      rw [ec]
      clear ec Ra
      have fr1004 : fz 49 g [0] I I1002 := fz_tr fr999 (fz_mono fiI1002 (by decide))
      have fr1005 : fs g [3, 4, 5, 6, 7, 8, 9] I I1002 := fs_tr fr998 (fs_mono fqI1002 (by decide))
      have fr1006 : fz 49 g [] J J1003 := fz_tr frj0 (fz_mono fjI1002 (by decide))
      have e1007 : I1002 (ad g 0) 7 = v989 := by rw [sI1002_0_7]; exact e997
      have e1008 : I1002 (ad g 0) 15 = w982 := by rw [sI1002_0_15]; exact e992
      have e1009 : I1002 (ad g 0) 16 = w983 := by rw [sI1002_0_16]; exact e993
      have e1010 : I1002 (ad g 0) 1 = L := hI1002.1.2
      have b1011 := BT_get hI1002.1.1 0 1 2 (0) (0) (900) (by decide) 1 (by decide) (by decide)
      rw [e1010] at b1011
      obtain ⟨w1012, ew1012⟩ : ∃ w : Int32, I1002 (ad g 0) 4 = w := ⟨_, rfl⟩
      have bw1012 := BT_get hI1002.1.1 0 4 5 (0) (0) (900) (by decide) 4 (by decide) (by decide)
      rw [ew1012] at bw1012
      obtain ⟨w1013, ew1013⟩ : ∃ w : Int32, I1002 (ad g 0) 2 = w := ⟨_, rfl⟩
      have bw1013 := BT_get hI1002.1.1 0 2 3 (0) (0) (900) (by decide) 2 (by decide) (by decide)
      rw [ew1013] at bw1013
      rw [ew1012, ew1013] at pI1002
      refine WQ_iconst (1) (1) dX11_known_42 rfl rfl (fun v1014 hv1014 => ?_)
      exact WP_zret dX11_known_43 rfl (nar_z (by omega)) ⟨⟨hI1002, rfl, fr1004, fr1006, fr1005, ⟨(by rw [ew1012, ew1013]; omega), (by rw [e1008, ew982] <;> exact (eq32 _ _).mpr (by omega)), (by rw [e1009, ew983] <;> exact (eq32 _ _).mpr (by omega))⟩⟩, _, rfl, by omega, by omega, by (try rw [e1007]); omega⟩
    · refine WP_aload_n dX11_known_32 rfl ?_
      refine WQ_iconst (5) (5) dX11_known_33 rfl rfl (fun v1015 hv1015 => ?_)
      refine WP_callV1 (k := 11) dX11_known_34 ⟨⟨⟨by decide, by decide⟩, zX11_bad⟩, lX11_49, by decide, rfl, vX11_bad.1, vX11_bad.2⟩ (ly_is hy 0 11 rfl) (sm_bad2 hy hr hI990 v1015  (by rw [e994, e995]; omega)) (Nat.le_of_ble_eq_true rfl) ?_
      intro r I1016 J1017 Ra hq
      obtain ⟨⟨hI1016, ec, fiI1016, fjI1016, fqI1016, ⟨pI1016, sI1016_0_15, sI1016_0_16⟩⟩, v1018, rfl, av1018, bv1018⟩ := hq
      show WP _ _ _ _ (.int _ :: _) _ _ _ _
      rw [ec]
      clear ec Ra
      have fr1019 : fz 49 g [0] I I1016 := fz_tr fr999 (fz_mono fiI1016 (by decide))
      have fr1020 : fs g [3, 4, 5, 6, 7, 8, 9] I I1016 := fs_tr fr998 (fs_mono fqI1016 (by decide))
      have fr1021 : fz 49 g [] J J1017 := fz_tr frj0 (fz_mono fjI1016 (by decide))
      have e1022 : I1016 (ad g 0) 15 = w982 := by rw [sI1016_0_15]; exact e992
      have e1023 : I1016 (ad g 0) 16 = w983 := by rw [sI1016_0_16]; exact e993
      have e1024 : I1016 (ad g 0) 1 = L := hI1016.1.2
      have b1025 := BT_get hI1016.1.1 0 1 2 (0) (0) (900) (by decide) 1 (by decide) (by decide)
      rw [e1024] at b1025
      obtain ⟨w1026, ew1026⟩ : ∃ w : Int32, I1016 (ad g 0) 4 = w := ⟨_, rfl⟩
      have bw1026 := BT_get hI1016.1.1 0 4 5 (0) (0) (900) (by decide) 4 (by decide) (by decide)
      rw [ew1026] at bw1026
      obtain ⟨w1027, ew1027⟩ : ∃ w : Int32, I1016 (ad g 0) 2 = w := ⟨_, rfl⟩
      have bw1027 := BT_get hI1016.1.1 0 2 3 (0) (0) (900) (by decide) 2 (by decide) (by decide)
      rw [ew1027] at bw1027
      rw [ew1026, ew1027] at pI1016
      obtain ⟨w1028, ew1028⟩ : ∃ w : Int32, I1016 (ad g 0) 7 = w := ⟨_, rfl⟩
      have bw1028 := BT_get hI1016.1.1 0 7 8 (-1) (0) (1000) (by decide) 7 (by decide) (by decide)
      rw [ew1028] at bw1028
      exact WP_zret dX11_known_37 rfl (nar_z (by omega)) ⟨⟨hI1016, rfl, fr1019, fr1021, fr1020, ⟨(by rw [ew1026, ew1027]; omega), (by rw [e1022, ew982] <;> exact (eq32 _ _).mpr (by omega)), (by rw [e1023, ew983] <;> exact (eq32 _ _).mpr (by omega))⟩⟩, _, rfl, by omega, by omega, by (try rw [ew1028]); omega⟩
  · refine WP_aload_n dX11_known_8 rfl ?_
    refine WQ_iconst (1) (1) dX11_known_9 rfl rfl (fun v1029 hv1029 => ?_)
    refine WP_callV1 (k := 11) dX11_known_10 ⟨⟨⟨by decide, by decide⟩, zX11_bad⟩, lX11_49, by decide, rfl, vX11_bad.1, vX11_bad.2⟩ (ly_is hy 0 11 rfl) (sm_bad2 hy hr hI v1029  (by rw [ew984, ew985]; omega)) (Nat.le_of_ble_eq_true rfl) ?_
    intro r I1030 J1031 Ra hq
    obtain ⟨⟨hI1030, ec, fiI1030, fjI1030, fqI1030, ⟨pI1030, sI1030_0_15, sI1030_0_16⟩⟩, v1032, rfl, av1032, bv1032⟩ := hq
    show WP _ _ _ _ (.int _ :: _) _ _ _ _
    rw [ec]
    clear ec Ra
    have fr1033 : fz 49 g [0] I I1030 := fz_tr fr0 (fz_mono fiI1030 (by decide))
    have fr1034 : fs g [3, 4, 5, 6, 7, 8, 9] I I1030 := fs_tr frq0 (fs_mono fqI1030 (by decide))
    have fr1035 : fz 49 g [] J J1031 := fz_tr frj0 (fz_mono fjI1030 (by decide))
    have e1036 : I1030 (ad g 0) 15 = w982 := by rw [sI1030_0_15]; exact ew982
    have e1037 : I1030 (ad g 0) 16 = w983 := by rw [sI1030_0_16]; exact ew983
    have e1038 : I1030 (ad g 0) 1 = L := hI1030.1.2
    have b1039 := BT_get hI1030.1.1 0 1 2 (0) (0) (900) (by decide) 1 (by decide) (by decide)
    rw [e1038] at b1039
    obtain ⟨w1040, ew1040⟩ : ∃ w : Int32, I1030 (ad g 0) 4 = w := ⟨_, rfl⟩
    have bw1040 := BT_get hI1030.1.1 0 4 5 (0) (0) (900) (by decide) 4 (by decide) (by decide)
    rw [ew1040] at bw1040
    obtain ⟨w1041, ew1041⟩ : ∃ w : Int32, I1030 (ad g 0) 2 = w := ⟨_, rfl⟩
    have bw1041 := BT_get hI1030.1.1 0 2 3 (0) (0) (900) (by decide) 2 (by decide) (by decide)
    rw [ew1041] at bw1041
    rw [ew1040, ew1041] at pI1030
    obtain ⟨w1042, ew1042⟩ : ∃ w : Int32, I1030 (ad g 0) 7 = w := ⟨_, rfl⟩
    have bw1042 := BT_get hI1030.1.1 0 7 8 (-1) (0) (1000) (by decide) 7 (by decide) (by decide)
    rw [ew1042] at bw1042
    exact WP_zret dX11_known_13 rfl (nar_z (by omega)) ⟨⟨hI1030, rfl, fr1033, fr1035, fr1034, ⟨(by rw [ew1040, ew1041]; omega), (by rw [e1036, ew982] <;> exact (eq32 _ _).mpr (by omega)), (by rw [e1037, ew983] <;> exact (eq32 _ _).mpr (by omega))⟩⟩, _, rfl, by omega, by omega, by (try rw [ew1042]); omega⟩
set_option maxHeartbeats 4000000 in
set_option maxRecDepth 100000 in
theorem sm_fresh_4 {g : GG} {n : Int} {L : Int32} (hy : Ly g)  {I : pI} {J : pJ} {R : pR} (hr : Rf g R) (hI : MP g n L I) (ma : Int32) (ma_lo : 0 ≤ ma.toInt) (ma_hi : ma.toInt ≤ 3) (hb : (I (ad g 0) 4).toInt ≤ (I (ad g 0) 2).toInt) : SP g mX11_fresh [.ref (ad g 0), .ref (ad g 4), .int ma] I J R (fun r I' J' R' => (MP g n L I' ∧ R' = R ∧ fz 49 g [0] I I' ∧ fz 49 g [4] J J' ∧ fs g [3, 4, 5, 6, 8, 9] I I' ∧ (I' (ad g 0) 4).toInt ≤ (I' (ad g 0) 2).toInt ∧ I' (ad g 0) 15 = I (ad g 0) 15 ∧ I' (ad g 0) 16 = I (ad g 0) 16) ∧ ∃ v : Int32, r = some (.int v) ∧ 0 ≤ v.toInt ∧ v.toInt ≤ 1) := by
  refine SP_of ⟨by decide, rfl⟩ (Nat.le_of_ble_eq_true rfl) ?_
  have e1043 : I (ad g 0) 1 = L := hI.1.2
  have b1044 := BT_get hI.1.1 0 1 2 (0) (0) (900) (by decide) 1 (by decide) (by decide)
  rw [e1043] at b1044
  have fr0 : fz 49 g [0] I I := fz_rf
  have frj0 : fz 49 g [4] J J := fz_rf
  have frq0 : fs g [3, 4, 5, 6, 8, 9] I I := fs_rf
  obtain ⟨w1045, ew1045⟩ : ∃ w : Int32, I (ad g 0) 15 = w := ⟨_, rfl⟩
  have bw1045 := BT_get hI.1.1 0 15 16 (0) (0) (4) (by decide) 15 (by decide) (by decide)
  rw [ew1045] at bw1045
  obtain ⟨w1046, ew1046⟩ : ∃ w : Int32, I (ad g 0) 16 = w := ⟨_, rfl⟩
  have bw1046 := BT_get hI.1.1 0 16 17 (0) (0) (3) (by decide) 16 (by decide) (by decide)
  rw [ew1046] at bw1046
  obtain ⟨w1047, ew1047⟩ : ∃ w : Int32, I (ad g 0) 4 = w := ⟨_, rfl⟩
  have bw1047 := BT_get hI.1.1 0 4 5 (0) (0) (900) (by decide) 4 (by decide) (by decide)
  rw [ew1047] at bw1047
  obtain ⟨w1048, ew1048⟩ : ∃ w : Int32, I (ad g 0) 2 = w := ⟨_, rfl⟩
  have bw1048 := BT_get hI.1.1 0 2 3 (0) (0) (900) (by decide) 2 (by decide) (by decide)
  rw [ew1048] at bw1048
  rw [ew1047, ew1048] at hb
  refine WP_aload_n dX11_fresh_0 rfl ?_
  refine WQ_geti dX11_fresh_1 fX11_27 rfl (ly_is hy 0 11 rfl) (BT_get hI.1.1 0 5 6 (0) (0) (4) (by decide) 5 (by decide) (by decide)) (fun v1049 ev1049 av1049 bv1049 => ?_)
  refine WQ_iconst (1) (1) dX11_fresh_4 rfl rfl (fun v1050 hv1050 => ?_)
  refine WQ_icmp_eq 14 dX11_fresh_5 rfl (fun c1050 => ?_) (fun c1050 => ?_)
  · refine WP_aload_n dX11_fresh_14 rfl ?_
    refine WP_aload_n dX11_fresh_15 rfl ?_
    refine WP_iload_n dX11_fresh_16 rfl ?_
    refine WP_callV2 (k := 11) dX11_fresh_17 ⟨⟨⟨by decide, by decide⟩, zX11_find⟩, lX11_71, by decide, rfl, vX11_find.1, vX11_find.2⟩ (ly_is hy 0 11 rfl) (sm_find_4 hy hr hI ma (by omega) (by omega)) (Nat.le_of_ble_eq_true rfl) ?_
    intro r Ia Ja Ra hq
    obtain ⟨⟨ea, eb, ec⟩, v1052, rfl, av1052, bv1052, cv1052⟩ := hq
    show WP _ _ _ _ (.int _ :: _) _ _ _ _
    rw [ea, eb, ec]
    clear ea eb ec Ia Ja Ra
    refine WQ_iconst (-1) (-1) dX11_fresh_20 rfl rfl (fun v1053 hv1053 => ?_)
    refine WQ_icmp_eq 30 dX11_fresh_21 rfl (fun c1053 => ?_) (fun c1053 => ?_)
    · refine WP_aload_n dX11_fresh_30 rfl ?_
      refine WP_iload_n dX11_fresh_31 rfl ?_
      refine WP_aload_n dX11_fresh_32 rfl ?_
      refine WP_callV0 (k := 11) dX11_fresh_33 ⟨⟨⟨by decide, by decide⟩, zX11_name⟩, lX11_67, by decide, rfl, vX11_name.1, vX11_name.2⟩ (ly_is hy 0 11 rfl) (sm_name hy hr hI  ) (Nat.le_of_ble_eq_true rfl) ?_
      intro r Ia Ja Ra hq
      obtain ⟨⟨ea, eb, ec⟩, l1055, rfl⟩ := hq
      show WP _ _ _ _ (.long _ :: _) _ _ _ _
      rw [ea, eb, ec]
      clear ea eb ec Ia Ja Ra
      refine WQ_last dX11_fresh_36 (ly_is hy 4 14 rfl) (ly_n hy 4 4 rfl) (by omega) (by omega) (fun J1056 eJ1056 => ?_)
      have fr1057 : fz 49 g [4] J J1056 := by rw [eJ1056]; exact fzm_pp hy frj0 (by decide) (by decide)
      clear eJ1056
      refine WP_aload_n dX11_fresh_37 rfl ?_
      refine WP_callV0 (k := 11) dX11_fresh_38 ⟨⟨⟨by decide, by decide⟩, zX11_scan⟩, lX11_63, by decide, rfl, vX11_scan.1, vX11_scan.2⟩ (ly_is hy 0 11 rfl) (sm_scan hy hr hI   (by rw [ew1047, ew1048]; omega)) (Nat.le_of_ble_eq_true rfl) ?_
      intro r I1058 J1059 Ra hq
      obtain ⟨⟨hI1058, ec, fiI1058, fjI1058, fqI1058, ⟨pI1058, sI1058_0_7, sI1058_0_15, sI1058_0_16⟩⟩, rfl⟩ := hq
      rw [ec]
      clear ec Ra
      have fr1060 : fz 49 g [0] I I1058 := fz_tr fr0 (fz_mono fiI1058 (by decide))
      have fr1061 : fs g [3, 4, 5, 6, 8, 9] I I1058 := fs_tr frq0 (fs_mono fqI1058 (by decide))
      have fr1062 : fz 49 g [4] J J1059 := fz_tr fr1057 (fz_mono fjI1058 (by decide))
      have e1063 : I1058 (ad g 0) 15 = w1045 := by rw [sI1058_0_15]; exact ew1045
      have e1064 : I1058 (ad g 0) 16 = w1046 := by rw [sI1058_0_16]; exact ew1046
      have e1065 : I1058 (ad g 0) 1 = L := hI1058.1.2
      have b1066 := BT_get hI1058.1.1 0 1 2 (0) (0) (900) (by decide) 1 (by decide) (by decide)
      rw [e1065] at b1066
      obtain ⟨w1067, ew1067⟩ : ∃ w : Int32, I1058 (ad g 0) 4 = w := ⟨_, rfl⟩
      have bw1067 := BT_get hI1058.1.1 0 4 5 (0) (0) (900) (by decide) 4 (by decide) (by decide)
      rw [ew1067] at bw1067
      obtain ⟨w1068, ew1068⟩ : ∃ w : Int32, I1058 (ad g 0) 2 = w := ⟨_, rfl⟩
      have bw1068 := BT_get hI1058.1.1 0 2 3 (0) (0) (900) (by decide) 2 (by decide) (by decide)
      rw [ew1068] at bw1068
      rw [ew1067, ew1068] at pI1058
      refine WQ_iconst (1) (1) dX11_fresh_41 rfl rfl (fun v1069 hv1069 => ?_)
      exact WP_zret dX11_fresh_42 rfl (nar_z (by omega)) ⟨⟨hI1058, rfl, fr1060, fr1062, fr1061, ⟨(by rw [ew1067, ew1068]; omega), (by rw [e1063, ew1045] <;> exact (eq32 _ _).mpr (by omega)), (by rw [e1064, ew1046] <;> exact (eq32 _ _).mpr (by omega))⟩⟩, _, rfl, by omega, by omega⟩
    · refine WP_aload_n dX11_fresh_24 rfl ?_
      refine WQ_iconst (3) (3) dX11_fresh_25 rfl rfl (fun v1070 hv1070 => ?_)
      refine WP_callV1 (k := 11) dX11_fresh_26 ⟨⟨⟨by decide, by decide⟩, zX11_bad⟩, lX11_49, by decide, rfl, vX11_bad.1, vX11_bad.2⟩ (ly_is hy 0 11 rfl) (sm_bad2 hy hr hI v1070  (by rw [ew1047, ew1048]; omega)) (Nat.le_of_ble_eq_true rfl) ?_
      intro r I1071 J1072 Ra hq
      obtain ⟨⟨hI1071, ec, fiI1071, fjI1071, fqI1071, ⟨pI1071, sI1071_0_15, sI1071_0_16⟩⟩, v1073, rfl, av1073, bv1073⟩ := hq
      show WP _ _ _ _ (.int _ :: _) _ _ _ _
      rw [ec]
      clear ec Ra
      have fr1074 : fz 49 g [0] I I1071 := fz_tr fr0 (fz_mono fiI1071 (by decide))
      have fr1075 : fs g [3, 4, 5, 6, 8, 9] I I1071 := fs_tr frq0 (fs_mono fqI1071 (by decide))
      have fr1076 : fz 49 g [4] J J1072 := fz_tr frj0 (fz_mono fjI1071 (by decide))
      have e1077 : I1071 (ad g 0) 15 = w1045 := by rw [sI1071_0_15]; exact ew1045
      have e1078 : I1071 (ad g 0) 16 = w1046 := by rw [sI1071_0_16]; exact ew1046
      have e1079 : I1071 (ad g 0) 1 = L := hI1071.1.2
      have b1080 := BT_get hI1071.1.1 0 1 2 (0) (0) (900) (by decide) 1 (by decide) (by decide)
      rw [e1079] at b1080
      obtain ⟨w1081, ew1081⟩ : ∃ w : Int32, I1071 (ad g 0) 4 = w := ⟨_, rfl⟩
      have bw1081 := BT_get hI1071.1.1 0 4 5 (0) (0) (900) (by decide) 4 (by decide) (by decide)
      rw [ew1081] at bw1081
      obtain ⟨w1082, ew1082⟩ : ∃ w : Int32, I1071 (ad g 0) 2 = w := ⟨_, rfl⟩
      have bw1082 := BT_get hI1071.1.1 0 2 3 (0) (0) (900) (by decide) 2 (by decide) (by decide)
      rw [ew1082] at bw1082
      rw [ew1081, ew1082] at pI1071
      exact WP_zret dX11_fresh_29 rfl (nar_z (by omega)) ⟨⟨hI1071, rfl, fr1074, fr1076, fr1075, ⟨(by rw [ew1081, ew1082]; omega), (by rw [e1077, ew1045] <;> exact (eq32 _ _).mpr (by omega)), (by rw [e1078, ew1046] <;> exact (eq32 _ _).mpr (by omega))⟩⟩, _, rfl, by omega, by omega⟩
  · refine WP_aload_n dX11_fresh_8 rfl ?_
    refine WQ_iconst (1) (1) dX11_fresh_9 rfl rfl (fun v1083 hv1083 => ?_)
    refine WP_callV1 (k := 11) dX11_fresh_10 ⟨⟨⟨by decide, by decide⟩, zX11_bad⟩, lX11_49, by decide, rfl, vX11_bad.1, vX11_bad.2⟩ (ly_is hy 0 11 rfl) (sm_bad2 hy hr hI v1083  (by rw [ew1047, ew1048]; omega)) (Nat.le_of_ble_eq_true rfl) ?_
    intro r I1084 J1085 Ra hq
    obtain ⟨⟨hI1084, ec, fiI1084, fjI1084, fqI1084, ⟨pI1084, sI1084_0_15, sI1084_0_16⟩⟩, v1086, rfl, av1086, bv1086⟩ := hq
    show WP _ _ _ _ (.int _ :: _) _ _ _ _
    rw [ec]
    clear ec Ra
    have fr1087 : fz 49 g [0] I I1084 := fz_tr fr0 (fz_mono fiI1084 (by decide))
    have fr1088 : fs g [3, 4, 5, 6, 8, 9] I I1084 := fs_tr frq0 (fs_mono fqI1084 (by decide))
    have fr1089 : fz 49 g [4] J J1085 := fz_tr frj0 (fz_mono fjI1084 (by decide))
    have e1090 : I1084 (ad g 0) 15 = w1045 := by rw [sI1084_0_15]; exact ew1045
    have e1091 : I1084 (ad g 0) 16 = w1046 := by rw [sI1084_0_16]; exact ew1046
    have e1092 : I1084 (ad g 0) 1 = L := hI1084.1.2
    have b1093 := BT_get hI1084.1.1 0 1 2 (0) (0) (900) (by decide) 1 (by decide) (by decide)
    rw [e1092] at b1093
    obtain ⟨w1094, ew1094⟩ : ∃ w : Int32, I1084 (ad g 0) 4 = w := ⟨_, rfl⟩
    have bw1094 := BT_get hI1084.1.1 0 4 5 (0) (0) (900) (by decide) 4 (by decide) (by decide)
    rw [ew1094] at bw1094
    obtain ⟨w1095, ew1095⟩ : ∃ w : Int32, I1084 (ad g 0) 2 = w := ⟨_, rfl⟩
    have bw1095 := BT_get hI1084.1.1 0 2 3 (0) (0) (900) (by decide) 2 (by decide) (by decide)
    rw [ew1095] at bw1095
    rw [ew1094, ew1095] at pI1084
    exact WP_zret dX11_fresh_13 rfl (nar_z (by omega)) ⟨⟨hI1084, rfl, fr1087, fr1089, fr1088, ⟨(by rw [ew1094, ew1095]; omega), (by rw [e1090, ew1045] <;> exact (eq32 _ _).mpr (by omega)), (by rw [e1091, ew1046] <;> exact (eq32 _ _).mpr (by omega))⟩⟩, _, rfl, by omega, by omega⟩
set_option maxHeartbeats 4000000 in
set_option maxRecDepth 100000 in
theorem sm_fresh_5 {g : GG} {n : Int} {L : Int32} (hy : Ly g)  {I : pI} {J : pJ} {R : pR} (hr : Rf g R) (hI : MP g n L I) (ma : Int32) (ma_lo : 0 ≤ ma.toInt) (ma_hi : ma.toInt ≤ 2) (hb : (I (ad g 0) 4).toInt ≤ (I (ad g 0) 2).toInt) : SP g mX11_fresh [.ref (ad g 0), .ref (ad g 5), .int ma] I J R (fun r I' J' R' => (MP g n L I' ∧ R' = R ∧ fz 49 g [0] I I' ∧ fz 49 g [5] J J' ∧ fs g [3, 4, 5, 6, 8, 9] I I' ∧ (I' (ad g 0) 4).toInt ≤ (I' (ad g 0) 2).toInt ∧ I' (ad g 0) 15 = I (ad g 0) 15 ∧ I' (ad g 0) 16 = I (ad g 0) 16) ∧ ∃ v : Int32, r = some (.int v) ∧ 0 ≤ v.toInt ∧ v.toInt ≤ 1) := by
  refine SP_of ⟨by decide, rfl⟩ (Nat.le_of_ble_eq_true rfl) ?_
  have e1096 : I (ad g 0) 1 = L := hI.1.2
  have b1097 := BT_get hI.1.1 0 1 2 (0) (0) (900) (by decide) 1 (by decide) (by decide)
  rw [e1096] at b1097
  have fr0 : fz 49 g [0] I I := fz_rf
  have frj0 : fz 49 g [5] J J := fz_rf
  have frq0 : fs g [3, 4, 5, 6, 8, 9] I I := fs_rf
  obtain ⟨w1098, ew1098⟩ : ∃ w : Int32, I (ad g 0) 15 = w := ⟨_, rfl⟩
  have bw1098 := BT_get hI.1.1 0 15 16 (0) (0) (4) (by decide) 15 (by decide) (by decide)
  rw [ew1098] at bw1098
  obtain ⟨w1099, ew1099⟩ : ∃ w : Int32, I (ad g 0) 16 = w := ⟨_, rfl⟩
  have bw1099 := BT_get hI.1.1 0 16 17 (0) (0) (3) (by decide) 16 (by decide) (by decide)
  rw [ew1099] at bw1099
  obtain ⟨w1100, ew1100⟩ : ∃ w : Int32, I (ad g 0) 4 = w := ⟨_, rfl⟩
  have bw1100 := BT_get hI.1.1 0 4 5 (0) (0) (900) (by decide) 4 (by decide) (by decide)
  rw [ew1100] at bw1100
  obtain ⟨w1101, ew1101⟩ : ∃ w : Int32, I (ad g 0) 2 = w := ⟨_, rfl⟩
  have bw1101 := BT_get hI.1.1 0 2 3 (0) (0) (900) (by decide) 2 (by decide) (by decide)
  rw [ew1101] at bw1101
  rw [ew1100, ew1101] at hb
  refine WP_aload_n dX11_fresh_0 rfl ?_
  refine WQ_geti dX11_fresh_1 fX11_27 rfl (ly_is hy 0 11 rfl) (BT_get hI.1.1 0 5 6 (0) (0) (4) (by decide) 5 (by decide) (by decide)) (fun v1102 ev1102 av1102 bv1102 => ?_)
  refine WQ_iconst (1) (1) dX11_fresh_4 rfl rfl (fun v1103 hv1103 => ?_)
  refine WQ_icmp_eq 14 dX11_fresh_5 rfl (fun c1103 => ?_) (fun c1103 => ?_)
  · refine WP_aload_n dX11_fresh_14 rfl ?_
    refine WP_aload_n dX11_fresh_15 rfl ?_
    refine WP_iload_n dX11_fresh_16 rfl ?_
    refine WP_callV2 (k := 11) dX11_fresh_17 ⟨⟨⟨by decide, by decide⟩, zX11_find⟩, lX11_71, by decide, rfl, vX11_find.1, vX11_find.2⟩ (ly_is hy 0 11 rfl) (sm_find_5 hy hr hI ma (by omega) (by omega)) (Nat.le_of_ble_eq_true rfl) ?_
    intro r Ia Ja Ra hq
    obtain ⟨⟨ea, eb, ec⟩, v1105, rfl, av1105, bv1105, cv1105⟩ := hq
    show WP _ _ _ _ (.int _ :: _) _ _ _ _
    rw [ea, eb, ec]
    clear ea eb ec Ia Ja Ra
    refine WQ_iconst (-1) (-1) dX11_fresh_20 rfl rfl (fun v1106 hv1106 => ?_)
    refine WQ_icmp_eq 30 dX11_fresh_21 rfl (fun c1106 => ?_) (fun c1106 => ?_)
    · refine WP_aload_n dX11_fresh_30 rfl ?_
      refine WP_iload_n dX11_fresh_31 rfl ?_
      refine WP_aload_n dX11_fresh_32 rfl ?_
      refine WP_callV0 (k := 11) dX11_fresh_33 ⟨⟨⟨by decide, by decide⟩, zX11_name⟩, lX11_67, by decide, rfl, vX11_name.1, vX11_name.2⟩ (ly_is hy 0 11 rfl) (sm_name hy hr hI  ) (Nat.le_of_ble_eq_true rfl) ?_
      intro r Ia Ja Ra hq
      obtain ⟨⟨ea, eb, ec⟩, l1108, rfl⟩ := hq
      show WP _ _ _ _ (.long _ :: _) _ _ _ _
      rw [ea, eb, ec]
      clear ea eb ec Ia Ja Ra
      refine WQ_last dX11_fresh_36 (ly_is hy 5 14 rfl) (ly_n hy 5 3 rfl) (by omega) (by omega) (fun J1109 eJ1109 => ?_)
      have fr1110 : fz 49 g [5] J J1109 := by rw [eJ1109]; exact fzm_pp hy frj0 (by decide) (by decide)
      clear eJ1109
      refine WP_aload_n dX11_fresh_37 rfl ?_
      refine WP_callV0 (k := 11) dX11_fresh_38 ⟨⟨⟨by decide, by decide⟩, zX11_scan⟩, lX11_63, by decide, rfl, vX11_scan.1, vX11_scan.2⟩ (ly_is hy 0 11 rfl) (sm_scan hy hr hI   (by rw [ew1100, ew1101]; omega)) (Nat.le_of_ble_eq_true rfl) ?_
      intro r I1111 J1112 Ra hq
      obtain ⟨⟨hI1111, ec, fiI1111, fjI1111, fqI1111, ⟨pI1111, sI1111_0_7, sI1111_0_15, sI1111_0_16⟩⟩, rfl⟩ := hq
      rw [ec]
      clear ec Ra
      have fr1113 : fz 49 g [0] I I1111 := fz_tr fr0 (fz_mono fiI1111 (by decide))
      have fr1114 : fs g [3, 4, 5, 6, 8, 9] I I1111 := fs_tr frq0 (fs_mono fqI1111 (by decide))
      have fr1115 : fz 49 g [5] J J1112 := fz_tr fr1110 (fz_mono fjI1111 (by decide))
      have e1116 : I1111 (ad g 0) 15 = w1098 := by rw [sI1111_0_15]; exact ew1098
      have e1117 : I1111 (ad g 0) 16 = w1099 := by rw [sI1111_0_16]; exact ew1099
      have e1118 : I1111 (ad g 0) 1 = L := hI1111.1.2
      have b1119 := BT_get hI1111.1.1 0 1 2 (0) (0) (900) (by decide) 1 (by decide) (by decide)
      rw [e1118] at b1119
      obtain ⟨w1120, ew1120⟩ : ∃ w : Int32, I1111 (ad g 0) 4 = w := ⟨_, rfl⟩
      have bw1120 := BT_get hI1111.1.1 0 4 5 (0) (0) (900) (by decide) 4 (by decide) (by decide)
      rw [ew1120] at bw1120
      obtain ⟨w1121, ew1121⟩ : ∃ w : Int32, I1111 (ad g 0) 2 = w := ⟨_, rfl⟩
      have bw1121 := BT_get hI1111.1.1 0 2 3 (0) (0) (900) (by decide) 2 (by decide) (by decide)
      rw [ew1121] at bw1121
      rw [ew1120, ew1121] at pI1111
      refine WQ_iconst (1) (1) dX11_fresh_41 rfl rfl (fun v1122 hv1122 => ?_)
      exact WP_zret dX11_fresh_42 rfl (nar_z (by omega)) ⟨⟨hI1111, rfl, fr1113, fr1115, fr1114, ⟨(by rw [ew1120, ew1121]; omega), (by rw [e1116, ew1098] <;> exact (eq32 _ _).mpr (by omega)), (by rw [e1117, ew1099] <;> exact (eq32 _ _).mpr (by omega))⟩⟩, _, rfl, by omega, by omega⟩
    · refine WP_aload_n dX11_fresh_24 rfl ?_
      refine WQ_iconst (3) (3) dX11_fresh_25 rfl rfl (fun v1123 hv1123 => ?_)
      refine WP_callV1 (k := 11) dX11_fresh_26 ⟨⟨⟨by decide, by decide⟩, zX11_bad⟩, lX11_49, by decide, rfl, vX11_bad.1, vX11_bad.2⟩ (ly_is hy 0 11 rfl) (sm_bad2 hy hr hI v1123  (by rw [ew1100, ew1101]; omega)) (Nat.le_of_ble_eq_true rfl) ?_
      intro r I1124 J1125 Ra hq
      obtain ⟨⟨hI1124, ec, fiI1124, fjI1124, fqI1124, ⟨pI1124, sI1124_0_15, sI1124_0_16⟩⟩, v1126, rfl, av1126, bv1126⟩ := hq
      show WP _ _ _ _ (.int _ :: _) _ _ _ _
      rw [ec]
      clear ec Ra
      have fr1127 : fz 49 g [0] I I1124 := fz_tr fr0 (fz_mono fiI1124 (by decide))
      have fr1128 : fs g [3, 4, 5, 6, 8, 9] I I1124 := fs_tr frq0 (fs_mono fqI1124 (by decide))
      have fr1129 : fz 49 g [5] J J1125 := fz_tr frj0 (fz_mono fjI1124 (by decide))
      have e1130 : I1124 (ad g 0) 15 = w1098 := by rw [sI1124_0_15]; exact ew1098
      have e1131 : I1124 (ad g 0) 16 = w1099 := by rw [sI1124_0_16]; exact ew1099
      have e1132 : I1124 (ad g 0) 1 = L := hI1124.1.2
      have b1133 := BT_get hI1124.1.1 0 1 2 (0) (0) (900) (by decide) 1 (by decide) (by decide)
      rw [e1132] at b1133
      obtain ⟨w1134, ew1134⟩ : ∃ w : Int32, I1124 (ad g 0) 4 = w := ⟨_, rfl⟩
      have bw1134 := BT_get hI1124.1.1 0 4 5 (0) (0) (900) (by decide) 4 (by decide) (by decide)
      rw [ew1134] at bw1134
      obtain ⟨w1135, ew1135⟩ : ∃ w : Int32, I1124 (ad g 0) 2 = w := ⟨_, rfl⟩
      have bw1135 := BT_get hI1124.1.1 0 2 3 (0) (0) (900) (by decide) 2 (by decide) (by decide)
      rw [ew1135] at bw1135
      rw [ew1134, ew1135] at pI1124
      exact WP_zret dX11_fresh_29 rfl (nar_z (by omega)) ⟨⟨hI1124, rfl, fr1127, fr1129, fr1128, ⟨(by rw [ew1134, ew1135]; omega), (by rw [e1130, ew1098] <;> exact (eq32 _ _).mpr (by omega)), (by rw [e1131, ew1099] <;> exact (eq32 _ _).mpr (by omega))⟩⟩, _, rfl, by omega, by omega⟩
  · refine WP_aload_n dX11_fresh_8 rfl ?_
    refine WQ_iconst (1) (1) dX11_fresh_9 rfl rfl (fun v1136 hv1136 => ?_)
    refine WP_callV1 (k := 11) dX11_fresh_10 ⟨⟨⟨by decide, by decide⟩, zX11_bad⟩, lX11_49, by decide, rfl, vX11_bad.1, vX11_bad.2⟩ (ly_is hy 0 11 rfl) (sm_bad2 hy hr hI v1136  (by rw [ew1100, ew1101]; omega)) (Nat.le_of_ble_eq_true rfl) ?_
    intro r I1137 J1138 Ra hq
    obtain ⟨⟨hI1137, ec, fiI1137, fjI1137, fqI1137, ⟨pI1137, sI1137_0_15, sI1137_0_16⟩⟩, v1139, rfl, av1139, bv1139⟩ := hq
    show WP _ _ _ _ (.int _ :: _) _ _ _ _
    rw [ec]
    clear ec Ra
    have fr1140 : fz 49 g [0] I I1137 := fz_tr fr0 (fz_mono fiI1137 (by decide))
    have fr1141 : fs g [3, 4, 5, 6, 8, 9] I I1137 := fs_tr frq0 (fs_mono fqI1137 (by decide))
    have fr1142 : fz 49 g [5] J J1138 := fz_tr frj0 (fz_mono fjI1137 (by decide))
    have e1143 : I1137 (ad g 0) 15 = w1098 := by rw [sI1137_0_15]; exact ew1098
    have e1144 : I1137 (ad g 0) 16 = w1099 := by rw [sI1137_0_16]; exact ew1099
    have e1145 : I1137 (ad g 0) 1 = L := hI1137.1.2
    have b1146 := BT_get hI1137.1.1 0 1 2 (0) (0) (900) (by decide) 1 (by decide) (by decide)
    rw [e1145] at b1146
    obtain ⟨w1147, ew1147⟩ : ∃ w : Int32, I1137 (ad g 0) 4 = w := ⟨_, rfl⟩
    have bw1147 := BT_get hI1137.1.1 0 4 5 (0) (0) (900) (by decide) 4 (by decide) (by decide)
    rw [ew1147] at bw1147
    obtain ⟨w1148, ew1148⟩ : ∃ w : Int32, I1137 (ad g 0) 2 = w := ⟨_, rfl⟩
    have bw1148 := BT_get hI1137.1.1 0 2 3 (0) (0) (900) (by decide) 2 (by decide) (by decide)
    rw [ew1148] at bw1148
    rw [ew1147, ew1148] at pI1137
    exact WP_zret dX11_fresh_13 rfl (nar_z (by omega)) ⟨⟨hI1137, rfl, fr1140, fr1142, fr1141, ⟨(by rw [ew1147, ew1148]; omega), (by rw [e1143, ew1098] <;> exact (eq32 _ _).mpr (by omega)), (by rw [e1144, ew1099] <;> exact (eq32 _ _).mpr (by omega))⟩⟩, _, rfl, by omega, by omega⟩
set_option maxHeartbeats 4000000 in
set_option maxRecDepth 100000 in
theorem sm_readRot {g : GG} {n : Int} {L : Int32} (hy : Ly g)  {I : pI} {J : pJ} {R : pR} (hr : Rf g R) (hI : MP g n L I)   (hb : (I (ad g 0) 4).toInt ≤ (I (ad g 0) 2).toInt) : SP g mX11_readRot [.ref (ad g 0)] I J R (fun r I' J' R' => (MP g n L I' ∧ R' = R ∧ fz 49 g [0, 7] I I' ∧ fz 49 g [] J J' ∧ fs g [3, 4, 5, 6, 7, 8, 9, 51] I I' ∧ (I' (ad g 0) 4).toInt ≤ (I' (ad g 0) 2).toInt) ∧ ∃ v : Int32, r = some (.int v) ∧ 0 ≤ v.toInt ∧ v.toInt ≤ 1) := by
  refine SP_of ⟨by decide, rfl⟩ (Nat.le_of_ble_eq_true rfl) ?_
  have e1149 : I (ad g 0) 1 = L := hI.1.2
  have b1150 := BT_get hI.1.1 0 1 2 (0) (0) (900) (by decide) 1 (by decide) (by decide)
  rw [e1149] at b1150
  have fr0 : fz 49 g [0, 7] I I := fz_rf
  have frj0 : fz 49 g [] J J := fz_rf
  have frq0 : fs g [3, 4, 5, 6, 7, 8, 9, 51] I I := fs_rf
  obtain ⟨w1151, ew1151⟩ : ∃ w : Int32, I (ad g 0) 4 = w := ⟨_, rfl⟩
  have bw1151 := BT_get hI.1.1 0 4 5 (0) (0) (900) (by decide) 4 (by decide) (by decide)
  rw [ew1151] at bw1151
  obtain ⟨w1152, ew1152⟩ : ∃ w : Int32, I (ad g 0) 2 = w := ⟨_, rfl⟩
  have bw1152 := BT_get hI.1.1 0 2 3 (0) (0) (900) (by decide) 2 (by decide) (by decide)
  rw [ew1152] at bw1152
  rw [ew1151, ew1152] at hb
  refine WP_aload_n dX11_readRot_0 rfl ?_
  refine WP_callV0 (k := 11) dX11_readRot_1 ⟨⟨⟨by decide, by decide⟩, zX11_scan⟩, lX11_63, by decide, rfl, vX11_scan.1, vX11_scan.2⟩ (ly_is hy 0 11 rfl) (sm_scan hy hr hI   (by rw [ew1151, ew1152]; omega)) (Nat.le_of_ble_eq_true rfl) ?_
  intro r I1153 J1154 Ra hq
  obtain ⟨⟨hI1153, ec, fiI1153, fjI1153, fqI1153, ⟨pI1153, sI1153_0_7, sI1153_0_15, sI1153_0_16⟩⟩, rfl⟩ := hq
  rw [ec]
  clear ec Ra
  have fr1155 : fz 49 g [0, 7] I I1153 := fz_tr fr0 (fz_mono fiI1153 (by decide))
  have fr1156 : fs g [3, 4, 5, 6, 7, 8, 9, 51] I I1153 := fs_tr frq0 (fs_mono fqI1153 (by decide))
  have fr1157 : fz 49 g [] J J1154 := fz_tr frj0 (fz_mono fjI1153 (by decide))
  have e1158 : I1153 (ad g 0) 1 = L := hI1153.1.2
  have b1159 := BT_get hI1153.1.1 0 1 2 (0) (0) (900) (by decide) 1 (by decide) (by decide)
  rw [e1158] at b1159
  obtain ⟨w1160, ew1160⟩ : ∃ w : Int32, I1153 (ad g 0) 4 = w := ⟨_, rfl⟩
  have bw1160 := BT_get hI1153.1.1 0 4 5 (0) (0) (900) (by decide) 4 (by decide) (by decide)
  rw [ew1160] at bw1160
  obtain ⟨w1161, ew1161⟩ : ∃ w : Int32, I1153 (ad g 0) 2 = w := ⟨_, rfl⟩
  have bw1161 := BT_get hI1153.1.1 0 2 3 (0) (0) (900) (by decide) 2 (by decide) (by decide)
  rw [ew1161] at bw1161
  rw [ew1160, ew1161] at pI1153
  refine WP_aload_n dX11_readRot_4 rfl ?_
  refine WQ_iconst (0) (0) dX11_readRot_5 rfl rfl (fun v1162 hv1162 => ?_)
  refine WQ_bipush (6) (6) dX11_readRot_6 rfl rfl (fun v1163 hv1163 => ?_)
  refine WP_callV2 (k := 11) dX11_readRot_8 ⟨⟨⟨by decide, by decide⟩, zX11_peek⟩, lX11_59, by decide, rfl, vX11_peek.1, vX11_peek.2⟩ (ly_is hy 0 11 rfl) (sm_peek hy hr hI1153 v1162 v1163 (by omega) (by omega) (by omega) (by omega) (by rw [ew1160, ew1161]; omega)) (Nat.le_of_ble_eq_true rfl) ?_
  intro r I1164 J1165 Ra hq
  obtain ⟨⟨hI1164, ec, fiI1164, fjI1164, fqI1164, ⟨pI1164, sI1164_0_15, sI1164_0_16⟩⟩, v1166, rfl, av1166, bv1166, cv1166⟩ := hq
  show WP _ _ _ _ (.int _ :: _) _ _ _ _
  rw [ec]
  clear ec Ra
  have fr1167 : fz 49 g [0, 7] I I1164 := fz_tr fr1155 (fz_mono fiI1164 (by decide))
  have fr1168 : fs g [3, 4, 5, 6, 7, 8, 9, 51] I I1164 := fs_tr fr1156 (fs_mono fqI1164 (by decide))
  have fr1169 : fz 49 g [] J J1165 := fz_tr fr1157 (fz_mono fjI1164 (by decide))
  have e1170 : I1164 (ad g 0) 1 = L := hI1164.1.2
  have b1171 := BT_get hI1164.1.1 0 1 2 (0) (0) (900) (by decide) 1 (by decide) (by decide)
  rw [e1170] at b1171
  obtain ⟨w1172, ew1172⟩ : ∃ w : Int32, I1164 (ad g 0) 4 = w := ⟨_, rfl⟩
  have bw1172 := BT_get hI1164.1.1 0 4 5 (0) (0) (900) (by decide) 4 (by decide) (by decide)
  rw [ew1172] at bw1172
  obtain ⟨w1173, ew1173⟩ : ∃ w : Int32, I1164 (ad g 0) 2 = w := ⟨_, rfl⟩
  have bw1173 := BT_get hI1164.1.1 0 2 3 (0) (0) (900) (by decide) 2 (by decide) (by decide)
  rw [ew1173] at bw1173
  rw [ew1172, ew1173] at pI1164
  obtain ⟨w1174, ew1174⟩ : ∃ w : Int32, I1164 (ad g 0) 7 = w := ⟨_, rfl⟩
  have bw1174 := BT_get hI1164.1.1 0 7 8 (-1) (0) (1000) (by decide) 7 (by decide) (by decide)
  rw [ew1174] at bw1174
  rw [ew1174] at cv1166
  refine WQ_if_ne 16 dX11_readRot_11 rfl (fun c1174 => ?_) (fun c1174 => ?_)
  · refine WP_aload_n dX11_readRot_16 rfl ?_
    refine WQ_getiu dX11_readRot_17 fX11_78 rfl (ly_is hy 0 11 rfl) (fun v1176 ev1176 => ?_)
    refine WP_aload_n dX11_readRot_20 rfl ?_
    refine WQ_getim dX11_readRot_21 fX11_56 rfl (ly_is hy 0 11 rfl) ew1174 ?_
    refine WQ_ishru dX11_readRot_24 (fun v1177 => ?_)
    refine WQ_iconst (1) (1) dX11_readRot_25 rfl rfl (fun v1178 hv1178 => ?_)
    refine WQ_iandu dX11_readRot_26 (fun v1179 => ?_)
    refine WQ_iconst (1) (1) dX11_readRot_27 rfl rfl (fun v1180 hv1180 => ?_)
    refine WQ_icmp_ne 37 dX11_readRot_28 rfl (fun c1180 => ?_) (fun c1180 => ?_)
    · refine WP_aload_n dX11_readRot_37 rfl ?_
      refine WP_dup dX11_readRot_38 rfl ?_
      refine WQ_getim dX11_readRot_39 fX11_78 rfl (ly_is hy 0 11 rfl) ev1176 ?_
      refine WQ_iconst (1) (1) dX11_readRot_42 rfl rfl (fun v1182 hv1182 => ?_)
      refine WP_aload_n dX11_readRot_43 rfl ?_
      refine WQ_getim dX11_readRot_44 fX11_56 rfl (ly_is hy 0 11 rfl) ew1174 ?_
      refine WQ_ishlu dX11_readRot_47 (fun v1183 => ?_)
      refine WQ_ioru dX11_readRot_48 (fun v1184 => ?_)
      refine WQ_puti dX11_readRot_49 fX11_78 rfl rfl (ly_is hy 0 11 rfl) (fun I1185 eI1185 => ?_)
      have hI1185 : MP g n L I1185 := by rw [eI1185]; exact (mp_w hy hI1164 (c := 0) (mi_f0 hy hI1164.1 (c := 0) (by decide) (Or.inr (by decide)) (by decide)) (by decide) (by decide) (Or.inr (by decide)))
      have e1186 : I1185 (ad g 0) 1 = L := by rw [eI1185, pp_ne _ _ (Or.inr (by decide))]; exact e1170
      have e1187 : I1185 (ad g 0) 4 = w1172 := by rw [eI1185, pp_ne _ _ (Or.inr (by decide))]; exact ew1172
      have e1188 : I1185 (ad g 0) 2 = w1173 := by rw [eI1185, pp_ne _ _ (Or.inr (by decide))]; exact ew1173
      have e1189 : I1185 (ad g 0) 7 = w1174 := by rw [eI1185, pp_ne _ _ (Or.inr (by decide))]; exact ew1174
      have e1190 : I1185 (ad g 0) 51 = v1184 := by rw [eI1185, pp_self]
      have fr1191 : fs g [3, 4, 5, 6, 7, 8, 9, 51] I I1185 := by rw [eI1185]; exact fs_pp0 fr1168 (by decide)
      have fr1192 : fz 49 g [0, 7] I I1185 := by rw [eI1185]; exact fzm_pp hy fr1167 (by decide) (by decide)
      clear eI1185
      refine WP_aload_n dX11_readRot_52 rfl ?_
      refine WQ_getim dX11_readRot_53 fX11_56 rfl (ly_is hy 0 11 rfl) e1189 ?_
      refine WP_istore_n (ls' := [(0, _), (1, _)]) dX11_readRot_56 (by decide) rfl ?_
      refine WP_aload_n dX11_readRot_57 rfl ?_
      refine WP_callV0 (k := 11) dX11_readRot_58 ⟨⟨⟨by decide, by decide⟩, zX11_scan⟩, lX11_63, by decide, rfl, vX11_scan.1, vX11_scan.2⟩ (ly_is hy 0 11 rfl) (sm_scan hy hr hI1185   (by rw [e1187, e1188]; omega)) (Nat.le_of_ble_eq_true rfl) ?_
      intro r I1193 J1194 Ra hq
      obtain ⟨⟨hI1193, ec, fiI1193, fjI1193, fqI1193, ⟨pI1193, sI1193_0_7, sI1193_0_15, sI1193_0_16⟩⟩, rfl⟩ := hq
      rw [ec]
      clear ec Ra
      have fr1195 : fz 49 g [0, 7] I I1193 := fz_tr fr1192 (fz_mono fiI1193 (by decide))
      have fr1196 : fs g [3, 4, 5, 6, 7, 8, 9, 51] I I1193 := fs_tr fr1191 (fs_mono fqI1193 (by decide))
      have fr1197 : fz 49 g [] J J1194 := fz_tr fr1169 (fz_mono fjI1193 (by decide))
      have e1198 : I1193 (ad g 0) 7 = w1174 := by rw [sI1193_0_7]; exact e1189
      have e1199 : I1193 (ad g 0) 1 = L := hI1193.1.2
      have b1200 := BT_get hI1193.1.1 0 1 2 (0) (0) (900) (by decide) 1 (by decide) (by decide)
      rw [e1199] at b1200
      obtain ⟨w1201, ew1201⟩ : ∃ w : Int32, I1193 (ad g 0) 4 = w := ⟨_, rfl⟩
      have bw1201 := BT_get hI1193.1.1 0 4 5 (0) (0) (900) (by decide) 4 (by decide) (by decide)
      rw [ew1201] at bw1201
      obtain ⟨w1202, ew1202⟩ : ∃ w : Int32, I1193 (ad g 0) 2 = w := ⟨_, rfl⟩
      have bw1202 := BT_get hI1193.1.1 0 2 3 (0) (0) (900) (by decide) 2 (by decide) (by decide)
      rw [ew1202] at bw1202
      rw [ew1201, ew1202] at pI1193
      refine WP_aload_n dX11_readRot_61 rfl ?_
      refine WQ_iconst (0) (0) dX11_readRot_62 rfl rfl (fun v1203 hv1203 => ?_)
      refine WQ_sipush (900) (900) dX11_readRot_63 rfl rfl (fun v1204 hv1204 => ?_)
      refine WP_callV2 (k := 11) dX11_readRot_66 ⟨⟨⟨by decide, by decide⟩, zX11_number⟩, lX11_81, by decide, rfl, vX11_number.1, vX11_number.2⟩ (ly_is hy 0 11 rfl) (sm_number hy hr hI1193 v1203 v1204 (by omega) (by omega) (by omega) (by omega) (by rw [ew1201, ew1202]; omega)) (Nat.le_of_ble_eq_true rfl) ?_
      intro r I1205 J1206 Ra hq
      obtain ⟨⟨hI1205, ec, fiI1205, fjI1205, fqI1205, ⟨pI1205, sI1205_0_15, sI1205_0_16⟩⟩, v1207, rfl, av1207, bv1207, cv1207⟩ := hq
      show WP _ _ _ _ (.int _ :: _) _ _ _ _
      rw [ec]
      clear ec Ra
      have fr1208 : fz 49 g [0, 7] I I1205 := fz_tr fr1195 (fz_mono fiI1205 (by decide))
      have fr1209 : fs g [3, 4, 5, 6, 7, 8, 9, 51] I I1205 := fs_tr fr1196 (fs_mono fqI1205 (by decide))
      have fr1210 : fz 49 g [] J J1206 := fz_tr fr1197 (fz_mono fjI1205 (by decide))
      have e1211 : I1205 (ad g 0) 1 = L := hI1205.1.2
      have b1212 := BT_get hI1205.1.1 0 1 2 (0) (0) (900) (by decide) 1 (by decide) (by decide)
      rw [e1211] at b1212
      obtain ⟨w1213, ew1213⟩ : ∃ w : Int32, I1205 (ad g 0) 4 = w := ⟨_, rfl⟩
      have bw1213 := BT_get hI1205.1.1 0 4 5 (0) (0) (900) (by decide) 4 (by decide) (by decide)
      rw [ew1213] at bw1213
      obtain ⟨w1214, ew1214⟩ : ∃ w : Int32, I1205 (ad g 0) 2 = w := ⟨_, rfl⟩
      have bw1214 := BT_get hI1205.1.1 0 2 3 (0) (0) (900) (by decide) 2 (by decide) (by decide)
      rw [ew1214] at bw1214
      rw [ew1213, ew1214] at pI1205
      obtain ⟨w1215, ew1215⟩ : ∃ w : Int32, I1205 (ad g 0) 7 = w := ⟨_, rfl⟩
      have bw1215 := BT_get hI1205.1.1 0 7 8 (-1) (0) (1000) (by decide) 7 (by decide) (by decide)
      rw [ew1215] at bw1215
      rw [ew1215] at cv1207
      refine WQ_if_ne 74 dX11_readRot_69 rfl (fun c1215 => ?_) (fun c1215 => ?_)
      · refine WP_aload_n dX11_readRot_74 rfl ?_
        refine WP_getr dX11_readRot_75 fX11_84 rfl (ly_is hy 0 11 rfl) (rf hr 0 25 7 (by decide)) ?_
        refine WP_iload_n dX11_readRot_78 rfl ?_
        refine WP_aload_n dX11_readRot_79 rfl ?_
        refine WQ_getim dX11_readRot_80 fX11_56 rfl (ly_is hy 0 11 rfl) ew1215 ?_
        refine WQ_iast dX11_readRot_83 (ly_is hy 7 13 rfl) (ly_n hy 7 7 rfl) (by omega) (by omega) (fun I1217 eI1217 => ?_)
        have hI1217 : MP g n L I1217 := by rw [eI1217]; exact (mp_w hy hI1205 (c := 7) (mi_r hy hI1205.1 (c := 7) (0) (0) (900) (by decide) (Or.inl (by decide)) (by decide) (by omega) (by omega)) (by decide) (by decide) (Or.inl (by decide)))
        have e1218 : I1217 (ad g 0) 1 = L := by rw [eI1217, pp_ne _ _ (Or.inl (ly_ne hy (by decide) (by decide) (by decide)))]; exact e1211
        have e1219 : I1217 (ad g 0) 4 = w1213 := by rw [eI1217, pp_ne _ _ (Or.inl (ly_ne hy (by decide) (by decide) (by decide)))]; exact ew1213
        have e1220 : I1217 (ad g 0) 2 = w1214 := by rw [eI1217, pp_ne _ _ (Or.inl (ly_ne hy (by decide) (by decide) (by decide)))]; exact ew1214
        have e1221 : I1217 (ad g 0) 7 = w1215 := by rw [eI1217, pp_ne _ _ (Or.inl (ly_ne hy (by decide) (by decide) (by decide)))]; exact ew1215
        have fr1222 : fs g [3, 4, 5, 6, 7, 8, 9, 51] I I1217 := by rw [eI1217]; exact fs_ppn hy fr1209 (by decide) (by decide)
        have fr1223 : fz 49 g [0, 7] I I1217 := by rw [eI1217]; exact fzm_pp hy fr1208 (by decide) (by decide)
        clear eI1217
        refine WQ_iconst (1) (1) dX11_readRot_84 rfl rfl (fun v1224 hv1224 => ?_)
        exact WP_zret dX11_readRot_85 rfl (nar_z (by omega)) ⟨⟨hI1217, rfl, fr1223, fr1210, fr1222, (by rw [e1219, e1220]; omega)⟩, _, rfl, by omega, by omega⟩
      · refine WQ_iconst (0) (0) dX11_readRot_72 rfl rfl (fun v1225 hv1225 => ?_)
        exact WP_zret dX11_readRot_73 rfl (nar_z (by omega)) ⟨⟨hI1205, rfl, fr1208, fr1210, fr1209, (by rw [ew1213, ew1214]; omega)⟩, _, rfl, by omega, by omega⟩
    · refine WP_aload_n dX11_readRot_31 rfl ?_
      refine WQ_iconst (3) (3) dX11_readRot_32 rfl rfl (fun v1226 hv1226 => ?_)
      refine WP_callV1 (k := 11) dX11_readRot_33 ⟨⟨⟨by decide, by decide⟩, zX11_bad⟩, lX11_49, by decide, rfl, vX11_bad.1, vX11_bad.2⟩ (ly_is hy 0 11 rfl) (sm_bad2 hy hr hI1164 v1226  (by rw [ew1172, ew1173]; omega)) (Nat.le_of_ble_eq_true rfl) ?_
      intro r I1227 J1228 Ra hq
      obtain ⟨⟨hI1227, ec, fiI1227, fjI1227, fqI1227, ⟨pI1227, sI1227_0_15, sI1227_0_16⟩⟩, v1229, rfl, av1229, bv1229⟩ := hq
      show WP _ _ _ _ (.int _ :: _) _ _ _ _
      rw [ec]
      clear ec Ra
      have fr1230 : fz 49 g [0, 7] I I1227 := fz_tr fr1167 (fz_mono fiI1227 (by decide))
      have fr1231 : fs g [3, 4, 5, 6, 7, 8, 9, 51] I I1227 := fs_tr fr1168 (fs_mono fqI1227 (by decide))
      have fr1232 : fz 49 g [] J J1228 := fz_tr fr1169 (fz_mono fjI1227 (by decide))
      have e1233 : I1227 (ad g 0) 1 = L := hI1227.1.2
      have b1234 := BT_get hI1227.1.1 0 1 2 (0) (0) (900) (by decide) 1 (by decide) (by decide)
      rw [e1233] at b1234
      obtain ⟨w1235, ew1235⟩ : ∃ w : Int32, I1227 (ad g 0) 4 = w := ⟨_, rfl⟩
      have bw1235 := BT_get hI1227.1.1 0 4 5 (0) (0) (900) (by decide) 4 (by decide) (by decide)
      rw [ew1235] at bw1235
      obtain ⟨w1236, ew1236⟩ : ∃ w : Int32, I1227 (ad g 0) 2 = w := ⟨_, rfl⟩
      have bw1236 := BT_get hI1227.1.1 0 2 3 (0) (0) (900) (by decide) 2 (by decide) (by decide)
      rw [ew1236] at bw1236
      rw [ew1235, ew1236] at pI1227
      exact WP_zret dX11_readRot_36 rfl (nar_z (by omega)) ⟨⟨hI1227, rfl, fr1230, fr1232, fr1231, (by rw [ew1235, ew1236]; omega)⟩, _, rfl, by omega, by omega⟩
  · refine WQ_iconst (0) (0) dX11_readRot_14 rfl rfl (fun v1237 hv1237 => ?_)
    exact WP_zret dX11_readRot_15 rfl (nar_z (by omega)) ⟨⟨hI1164, rfl, fr1167, fr1169, fr1168, (by rw [ew1172, ew1173]; omega)⟩, _, rfl, by omega, by omega⟩
set_option maxHeartbeats 4000000 in
set_option maxRecDepth 100000 in
theorem sm_readThingOf {g : GG} {n : Int} {L : Int32} (hy : Ly g)  {I : pI} {J : pJ} {R : pR} (hr : Rf g R) (hI : MP g n L I)   (hb : (I (ad g 0) 4).toInt ≤ (I (ad g 0) 2).toInt) : SP g mX11_readThingOf [.ref (ad g 0)] I J R (fun r I' J' R' => (MP g n L I' ∧ R' = R ∧ fz 49 g [0, 18, 19, 28, 29, 34] I I' ∧ fz 49 g [5] J J' ∧ fs g [3, 4, 5, 6, 7, 8, 9, 16] I I' ∧ (I' (ad g 0) 4).toInt ≤ (I' (ad g 0) 2).toInt) ∧ ∃ v : Int32, r = some (.int v) ∧ 0 ≤ v.toInt ∧ v.toInt ≤ 1) := by
  refine SP_of ⟨by decide, rfl⟩ (Nat.le_of_ble_eq_true rfl) ?_
  have e1238 : I (ad g 0) 1 = L := hI.1.2
  have b1239 := BT_get hI.1.1 0 1 2 (0) (0) (900) (by decide) 1 (by decide) (by decide)
  rw [e1238] at b1239
  have fr0 : fz 49 g [0, 18, 19, 28, 29, 34] I I := fz_rf
  have frj0 : fz 49 g [5] J J := fz_rf
  have frq0 : fs g [3, 4, 5, 6, 7, 8, 9, 16] I I := fs_rf
  obtain ⟨w1240, ew1240⟩ : ∃ w : Int32, I (ad g 0) 4 = w := ⟨_, rfl⟩
  have bw1240 := BT_get hI.1.1 0 4 5 (0) (0) (900) (by decide) 4 (by decide) (by decide)
  rw [ew1240] at bw1240
  obtain ⟨w1241, ew1241⟩ : ∃ w : Int32, I (ad g 0) 2 = w := ⟨_, rfl⟩
  have bw1241 := BT_get hI.1.1 0 2 3 (0) (0) (900) (by decide) 2 (by decide) (by decide)
  rw [ew1241] at bw1241
  rw [ew1240, ew1241] at hb
  refine WP_aload_n dX11_readThingOf_0 rfl ?_
  refine WQ_geti dX11_readThingOf_1 fX11_126 rfl (ly_is hy 0 11 rfl) (BT_get hI.1.1 0 16 17 (0) (0) (3) (by decide) 16 (by decide) (by decide)) (fun v1242 ev1242 av1242 bv1242 => ?_)
  refine WQ_iconst (3) (3) dX11_readThingOf_4 rfl rfl (fun v1243 hv1243 => ?_)
  refine WQ_icmp_ne 14 dX11_readThingOf_5 rfl (fun c1243 => ?_) (fun c1243 => ?_)
  · refine WP_aload_n dX11_readThingOf_14 rfl ?_
    refine WP_callV0 (k := 11) dX11_readThingOf_15 ⟨⟨⟨by decide, by decide⟩, zX11_scan⟩, lX11_63, by decide, rfl, vX11_scan.1, vX11_scan.2⟩ (ly_is hy 0 11 rfl) (sm_scan hy hr hI   (by rw [ew1240, ew1241]; omega)) (Nat.le_of_ble_eq_true rfl) ?_
    intro r I1245 J1246 Ra hq
    obtain ⟨⟨hI1245, ec, fiI1245, fjI1245, fqI1245, ⟨pI1245, sI1245_0_7, sI1245_0_15, sI1245_0_16⟩⟩, rfl⟩ := hq
    rw [ec]
    clear ec Ra
    have fr1247 : fz 49 g [0, 18, 19, 28, 29, 34] I I1245 := fz_tr fr0 (fz_mono fiI1245 (by decide))
    have fr1248 : fs g [3, 4, 5, 6, 7, 8, 9, 16] I I1245 := fs_tr frq0 (fs_mono fqI1245 (by decide))
    have fr1249 : fz 49 g [5] J J1246 := fz_tr frj0 (fz_mono fjI1245 (by decide))
    have e1250 : I1245 (ad g 0) 16 = v1242 := by rw [sI1245_0_16]; exact ev1242
    have e1251 : I1245 (ad g 0) 1 = L := hI1245.1.2
    have b1252 := BT_get hI1245.1.1 0 1 2 (0) (0) (900) (by decide) 1 (by decide) (by decide)
    rw [e1251] at b1252
    obtain ⟨w1253, ew1253⟩ : ∃ w : Int32, I1245 (ad g 0) 4 = w := ⟨_, rfl⟩
    have bw1253 := BT_get hI1245.1.1 0 4 5 (0) (0) (900) (by decide) 4 (by decide) (by decide)
    rw [ew1253] at bw1253
    obtain ⟨w1254, ew1254⟩ : ∃ w : Int32, I1245 (ad g 0) 2 = w := ⟨_, rfl⟩
    have bw1254 := BT_get hI1245.1.1 0 2 3 (0) (0) (900) (by decide) 2 (by decide) (by decide)
    rw [ew1254] at bw1254
    rw [ew1253, ew1254] at pI1245
    refine WP_aload_n dX11_readThingOf_18 rfl ?_
    refine WQ_getim dX11_readThingOf_19 fX11_126 rfl (ly_is hy 0 11 rfl) e1250 ?_
    refine WP_istore_n (ls' := [(0, _), (1, _)]) dX11_readThingOf_22 (by decide) rfl ?_
    refine WP_aload_n dX11_readThingOf_23 rfl ?_
    refine WP_aload_n dX11_readThingOf_24 rfl ?_
    refine WP_getr dX11_readThingOf_25 fX11_129 rfl (ly_is hy 0 11 rfl) (rf hr 0 23 5 (by decide)) ?_
    refine WP_iload_n dX11_readThingOf_28 rfl ?_
    refine WP_callV2 (k := 11) dX11_readThingOf_29 ⟨⟨⟨by decide, by decide⟩, zX11_fresh⟩, lX11_95, by decide, rfl, vX11_fresh.1, vX11_fresh.2⟩ (ly_is hy 0 11 rfl) (sm_fresh_5 hy hr hI1245 v1242 (by omega) (by omega) (by rw [ew1253, ew1254]; omega)) (Nat.le_of_ble_eq_true rfl) ?_
    intro r I1255 J1256 Ra hq
    obtain ⟨⟨hI1255, ec, fiI1255, fjI1255, fqI1255, ⟨pI1255, sI1255_0_15, sI1255_0_16⟩⟩, v1257, rfl, av1257, bv1257⟩ := hq
    show WP _ _ _ _ (.int _ :: _) _ _ _ _
    rw [ec]
    clear ec Ra
    have fr1258 : fz 49 g [0, 18, 19, 28, 29, 34] I I1255 := fz_tr fr1247 (fz_mono fiI1255 (by decide))
    have fr1259 : fs g [3, 4, 5, 6, 7, 8, 9, 16] I I1255 := fs_tr fr1248 (fs_mono fqI1255 (by decide))
    have fr1260 : fz 49 g [5] J J1256 := fz_tr fr1249 (fz_mono fjI1255 (by decide))
    have e1261 : I1255 (ad g 0) 16 = v1242 := by rw [sI1255_0_16]; exact e1250
    have e1262 : I1255 (ad g 0) 1 = L := hI1255.1.2
    have b1263 := BT_get hI1255.1.1 0 1 2 (0) (0) (900) (by decide) 1 (by decide) (by decide)
    rw [e1262] at b1263
    obtain ⟨w1264, ew1264⟩ : ∃ w : Int32, I1255 (ad g 0) 4 = w := ⟨_, rfl⟩
    have bw1264 := BT_get hI1255.1.1 0 4 5 (0) (0) (900) (by decide) 4 (by decide) (by decide)
    rw [ew1264] at bw1264
    obtain ⟨w1265, ew1265⟩ : ∃ w : Int32, I1255 (ad g 0) 2 = w := ⟨_, rfl⟩
    have bw1265 := BT_get hI1255.1.1 0 2 3 (0) (0) (900) (by decide) 2 (by decide) (by decide)
    rw [ew1265] at bw1265
    rw [ew1264, ew1265] at pI1255
    refine WQ_if_eq 46 dX11_readThingOf_32 rfl (fun c1265 => ?_) (fun c1265 => ?_)
    · refine WQ_iconst (0) (0) dX11_readThingOf_46 rfl rfl (fun v1267 hv1267 => ?_)
      exact WP_zret dX11_readThingOf_47 rfl (nar_z (by omega)) ⟨⟨hI1255, rfl, fr1258, fr1260, fr1259, (by rw [ew1264, ew1265]; omega)⟩, _, rfl, by omega, by omega⟩
    · refine WP_aload_n dX11_readThingOf_35 rfl ?_
      refine WQ_iconst (0) (0) dX11_readThingOf_36 rfl rfl (fun v1268 hv1268 => ?_)
      refine WQ_sipush (1000) (1000) dX11_readThingOf_37 rfl rfl (fun v1269 hv1269 => ?_)
      refine WP_callV2 (k := 11) dX11_readThingOf_40 ⟨⟨⟨by decide, by decide⟩, zX11_number⟩, lX11_81, by decide, rfl, vX11_number.1, vX11_number.2⟩ (ly_is hy 0 11 rfl) (sm_number hy hr hI1255 v1268 v1269 (by omega) (by omega) (by omega) (by omega) (by rw [ew1264, ew1265]; omega)) (Nat.le_of_ble_eq_true rfl) ?_
      intro r I1270 J1271 Ra hq
      obtain ⟨⟨hI1270, ec, fiI1270, fjI1270, fqI1270, ⟨pI1270, sI1270_0_15, sI1270_0_16⟩⟩, v1272, rfl, av1272, bv1272, cv1272⟩ := hq
      show WP _ _ _ _ (.int _ :: _) _ _ _ _
      rw [ec]
      clear ec Ra
      have fr1273 : fz 49 g [0, 18, 19, 28, 29, 34] I I1270 := fz_tr fr1258 (fz_mono fiI1270 (by decide))
      have fr1274 : fs g [3, 4, 5, 6, 7, 8, 9, 16] I I1270 := fs_tr fr1259 (fs_mono fqI1270 (by decide))
      have fr1275 : fz 49 g [5] J J1271 := fz_tr fr1260 (fz_mono fjI1270 (by decide))
      have e1276 : I1270 (ad g 0) 16 = v1242 := by rw [sI1270_0_16]; exact e1261
      have e1277 : I1270 (ad g 0) 1 = L := hI1270.1.2
      have b1278 := BT_get hI1270.1.1 0 1 2 (0) (0) (900) (by decide) 1 (by decide) (by decide)
      rw [e1277] at b1278
      obtain ⟨w1279, ew1279⟩ : ∃ w : Int32, I1270 (ad g 0) 4 = w := ⟨_, rfl⟩
      have bw1279 := BT_get hI1270.1.1 0 4 5 (0) (0) (900) (by decide) 4 (by decide) (by decide)
      rw [ew1279] at bw1279
      obtain ⟨w1280, ew1280⟩ : ∃ w : Int32, I1270 (ad g 0) 2 = w := ⟨_, rfl⟩
      have bw1280 := BT_get hI1270.1.1 0 2 3 (0) (0) (900) (by decide) 2 (by decide) (by decide)
      rw [ew1280] at bw1280
      rw [ew1279, ew1280] at pI1270
      obtain ⟨w1281, ew1281⟩ : ∃ w : Int32, I1270 (ad g 0) 7 = w := ⟨_, rfl⟩
      have bw1281 := BT_get hI1270.1.1 0 7 8 (-1) (0) (1000) (by decide) 7 (by decide) (by decide)
      rw [ew1281] at bw1281
      rw [ew1281] at cv1272
      refine WQ_if_ne 48 dX11_readThingOf_43 rfl (fun c1281 => ?_) (fun c1281 => ?_)
      · refine WP_aload_n dX11_readThingOf_48 rfl ?_
        refine WP_getr dX11_readThingOf_49 fX11_132 rfl (ly_is hy 0 11 rfl) (rf hr 0 36 18 (by decide)) ?_
        refine WP_iload_n dX11_readThingOf_52 rfl ?_
        refine WP_aload_n dX11_readThingOf_53 rfl ?_
        refine WQ_getim dX11_readThingOf_54 fX11_56 rfl (ly_is hy 0 11 rfl) ew1281 ?_
        refine WQ_iast dX11_readThingOf_57 (ly_is hy 18 13 rfl) (ly_n hy 18 3 rfl) (by omega) (by omega) (fun I1283 eI1283 => ?_)
        have hI1283 : MP g n L I1283 := by rw [eI1283]; exact (mp_w hy hI1270 (c := 18) (mi_r hy hI1270.1 (c := 18) (0) (0) (1000) (by decide) (Or.inl (by decide)) (by decide) (by omega) (by omega)) (by decide) (by decide) (Or.inl (by decide)))
        have e1284 : I1283 (ad g 0) 16 = v1242 := by rw [eI1283, pp_ne _ _ (Or.inl (ly_ne hy (by decide) (by decide) (by decide)))]; exact e1276
        have e1285 : I1283 (ad g 0) 1 = L := by rw [eI1283, pp_ne _ _ (Or.inl (ly_ne hy (by decide) (by decide) (by decide)))]; exact e1277
        have e1286 : I1283 (ad g 0) 4 = w1279 := by rw [eI1283, pp_ne _ _ (Or.inl (ly_ne hy (by decide) (by decide) (by decide)))]; exact ew1279
        have e1287 : I1283 (ad g 0) 2 = w1280 := by rw [eI1283, pp_ne _ _ (Or.inl (ly_ne hy (by decide) (by decide) (by decide)))]; exact ew1280
        have e1288 : I1283 (ad g 0) 7 = w1281 := by rw [eI1283, pp_ne _ _ (Or.inl (ly_ne hy (by decide) (by decide) (by decide)))]; exact ew1281
        have fr1289 : fs g [3, 4, 5, 6, 7, 8, 9, 16] I I1283 := by rw [eI1283]; exact fs_ppn hy fr1274 (by decide) (by decide)
        have fr1290 : fz 49 g [0, 18, 19, 28, 29, 34] I I1283 := by rw [eI1283]; exact fzm_pp hy fr1273 (by decide) (by decide)
        clear eI1283
        refine WP_aload_n dX11_readThingOf_58 rfl ?_
        refine WQ_iconst (0) (0) dX11_readThingOf_59 rfl rfl (fun v1291 hv1291 => ?_)
        refine WQ_bipush (9) (9) dX11_readThingOf_60 rfl rfl (fun v1292 hv1292 => ?_)
        refine WP_callV2 (k := 11) dX11_readThingOf_62 ⟨⟨⟨by decide, by decide⟩, zX11_number⟩, lX11_81, by decide, rfl, vX11_number.1, vX11_number.2⟩ (ly_is hy 0 11 rfl) (sm_number hy hr hI1283 v1291 v1292 (by omega) (by omega) (by omega) (by omega) (by rw [e1286, e1287]; omega)) (Nat.le_of_ble_eq_true rfl) ?_
        intro r I1293 J1294 Ra hq
        obtain ⟨⟨hI1293, ec, fiI1293, fjI1293, fqI1293, ⟨pI1293, sI1293_0_15, sI1293_0_16⟩⟩, v1295, rfl, av1295, bv1295, cv1295⟩ := hq
        show WP _ _ _ _ (.int _ :: _) _ _ _ _
        rw [ec]
        clear ec Ra
        have fr1296 : fz 49 g [0, 18, 19, 28, 29, 34] I I1293 := fz_tr fr1290 (fz_mono fiI1293 (by decide))
        have fr1297 : fs g [3, 4, 5, 6, 7, 8, 9, 16] I I1293 := fs_tr fr1289 (fs_mono fqI1293 (by decide))
        have fr1298 : fz 49 g [5] J J1294 := fz_tr fr1275 (fz_mono fjI1293 (by decide))
        have e1299 : I1293 (ad g 0) 16 = v1242 := by rw [sI1293_0_16]; exact e1284
        have e1300 : I1293 (ad g 0) 1 = L := hI1293.1.2
        have b1301 := BT_get hI1293.1.1 0 1 2 (0) (0) (900) (by decide) 1 (by decide) (by decide)
        rw [e1300] at b1301
        obtain ⟨w1302, ew1302⟩ : ∃ w : Int32, I1293 (ad g 0) 4 = w := ⟨_, rfl⟩
        have bw1302 := BT_get hI1293.1.1 0 4 5 (0) (0) (900) (by decide) 4 (by decide) (by decide)
        rw [ew1302] at bw1302
        obtain ⟨w1303, ew1303⟩ : ∃ w : Int32, I1293 (ad g 0) 2 = w := ⟨_, rfl⟩
        have bw1303 := BT_get hI1293.1.1 0 2 3 (0) (0) (900) (by decide) 2 (by decide) (by decide)
        rw [ew1303] at bw1303
        rw [ew1302, ew1303] at pI1293
        obtain ⟨w1304, ew1304⟩ : ∃ w : Int32, I1293 (ad g 0) 7 = w := ⟨_, rfl⟩
        have bw1304 := BT_get hI1293.1.1 0 7 8 (-1) (0) (1000) (by decide) 7 (by decide) (by decide)
        rw [ew1304] at bw1304
        rw [ew1304] at cv1295
        refine WQ_if_ne 70 dX11_readThingOf_65 rfl (fun c1304 => ?_) (fun c1304 => ?_)
        · refine WP_aload_n dX11_readThingOf_70 rfl ?_
          refine WP_getr dX11_readThingOf_71 fX11_135 rfl (ly_is hy 0 11 rfl) (rf hr 0 37 19 (by decide)) ?_
          refine WP_iload_n dX11_readThingOf_74 rfl ?_
          refine WP_aload_n dX11_readThingOf_75 rfl ?_
          refine WQ_getim dX11_readThingOf_76 fX11_56 rfl (ly_is hy 0 11 rfl) ew1304 ?_
          refine WQ_iast dX11_readThingOf_79 (ly_is hy 19 13 rfl) (ly_n hy 19 3 rfl) (by omega) (by omega) (fun I1306 eI1306 => ?_)
          have hI1306 : MP g n L I1306 := by rw [eI1306]; exact (mp_w hy hI1293 (c := 19) (mi_r hy hI1293.1 (c := 19) (0) (0) (9) (by decide) (Or.inl (by decide)) (by decide) (by omega) (by omega)) (by decide) (by decide) (Or.inl (by decide)))
          have e1307 : I1306 (ad g 0) 16 = v1242 := by rw [eI1306, pp_ne _ _ (Or.inl (ly_ne hy (by decide) (by decide) (by decide)))]; exact e1299
          have e1308 : I1306 (ad g 0) 1 = L := by rw [eI1306, pp_ne _ _ (Or.inl (ly_ne hy (by decide) (by decide) (by decide)))]; exact e1300
          have e1309 : I1306 (ad g 0) 4 = w1302 := by rw [eI1306, pp_ne _ _ (Or.inl (ly_ne hy (by decide) (by decide) (by decide)))]; exact ew1302
          have e1310 : I1306 (ad g 0) 2 = w1303 := by rw [eI1306, pp_ne _ _ (Or.inl (ly_ne hy (by decide) (by decide) (by decide)))]; exact ew1303
          have e1311 : I1306 (ad g 0) 7 = w1304 := by rw [eI1306, pp_ne _ _ (Or.inl (ly_ne hy (by decide) (by decide) (by decide)))]; exact ew1304
          have fr1312 : fs g [3, 4, 5, 6, 7, 8, 9, 16] I I1306 := by rw [eI1306]; exact fs_ppn hy fr1297 (by decide) (by decide)
          have fr1313 : fz 49 g [0, 18, 19, 28, 29, 34] I I1306 := by rw [eI1306]; exact fzm_pp hy fr1296 (by decide) (by decide)
          clear eI1306
          refine WP_aload_n dX11_readThingOf_80 rfl ?_
          refine WP_getr dX11_readThingOf_81 fX11_138 rfl (ly_is hy 0 11 rfl) (rf hr 0 53 34 (by decide)) ?_
          refine WP_iload_n dX11_readThingOf_84 rfl ?_
          refine WQ_iconst (0) (0) dX11_readThingOf_85 rfl rfl (fun v1314 hv1314 => ?_)
          refine WQ_iast dX11_readThingOf_86 (ly_is hy 34 13 rfl) (ly_n hy 34 3 rfl) (by omega) (by omega) (fun I1315 eI1315 => ?_)
          have hI1315 : MP g n L I1315 := by rw [eI1315]; exact (mp_w hy hI1306 (c := 34) (mi_r0 hy hI1306.1 (c := 34) (by decide) (Or.inl (by decide)) (by decide)) (by decide) (by decide) (Or.inl (by decide)))
          have e1316 : I1315 (ad g 0) 16 = v1242 := by rw [eI1315, pp_ne _ _ (Or.inl (ly_ne hy (by decide) (by decide) (by decide)))]; exact e1307
          have e1317 : I1315 (ad g 0) 1 = L := by rw [eI1315, pp_ne _ _ (Or.inl (ly_ne hy (by decide) (by decide) (by decide)))]; exact e1308
          have e1318 : I1315 (ad g 0) 4 = w1302 := by rw [eI1315, pp_ne _ _ (Or.inl (ly_ne hy (by decide) (by decide) (by decide)))]; exact e1309
          have e1319 : I1315 (ad g 0) 2 = w1303 := by rw [eI1315, pp_ne _ _ (Or.inl (ly_ne hy (by decide) (by decide) (by decide)))]; exact e1310
          have e1320 : I1315 (ad g 0) 7 = w1304 := by rw [eI1315, pp_ne _ _ (Or.inl (ly_ne hy (by decide) (by decide) (by decide)))]; exact e1311
          have fr1321 : fs g [3, 4, 5, 6, 7, 8, 9, 16] I I1315 := by rw [eI1315]; exact fs_ppn hy fr1312 (by decide) (by decide)
          have fr1322 : fz 49 g [0, 18, 19, 28, 29, 34] I I1315 := by rw [eI1315]; exact fzm_pp hy fr1313 (by decide) (by decide)
          clear eI1315
          refine WQ_iconst (0) (0) dX11_readThingOf_87 rfl rfl (fun v1323 hv1323 => ?_)
          refine WP_istore_n (ls' := [(0, _), (1, _), (2, _)]) dX11_readThingOf_88 (by decide) rfl ?_
          have lp89_1329 : ∀ (mz : Nat) (i1324 : Int32) (I1325 : pI) (J1326 : pJ), MP g n L I1325 → fz 49 g [0, 18, 19, 28, 29, 34] I I1325 → fz 49 g [5] J J1326 → fs g [3, 4, 5, 6, 7, 8, 9, 16] I I1325 → ∀ (w1327 : Int32), I1325 (ad g 0) 4 = w1327 → ∀ (w1328 : Int32), I1325 (ad g 0) 2 = w1328 → ∀ (w1329 : Int32), I1325 (ad g 0) 16 = w1329 → 0 ≤ i1324.toInt → i1324.toInt ≤ 7 → w1327.toInt ≤ w1328.toInt → w1329.toInt ≤ 2 → (8 - i1324.toInt).toNat < mz → WP g mX11_readThingOf 89 [(0, .ref (ad g 0)), (1, .int v1242), (2, .int i1324)] [] I1325 J1326 R (fun r I' J' R' => (MP g n L I' ∧ R' = R ∧ fz 49 g [0, 18, 19, 28, 29, 34] I I' ∧ fz 49 g [5] J J' ∧ fs g [3, 4, 5, 6, 7, 8, 9, 16] I I' ∧ (I' (ad g 0) 4).toInt ≤ (I' (ad g 0) 2).toInt) ∧ ∃ v : Int32, r = some (.int v) ∧ 0 ≤ v.toInt ∧ v.toInt ≤ 1) := by
            intro mz
            induction mz with
            | zero =>
              intro i1324 I1325 J1326 hI1325 fiI1325 fjJ1326 fqI1325 w1327 ew1327 w1328 ew1328 w1329 ew1329 ai1324 bi1324 j0_I1325 j1_I1325 hmlp89_1329
              exact absurd hmlp89_1329 (Nat.not_lt_zero _)
            | succ mz ihlp89_1329 =>
              intro i1324 I1325 J1326 hI1325 fiI1325 fjJ1326 fqI1325 w1327 ew1327 w1328 ew1328 w1329 ew1329 ai1324 bi1324 j0_I1325 j1_I1325 hmlp89_1329
              have bw1327 := BT_get hI1325.1.1 0 4 5 (0) (0) (900) (by decide) 4 (by decide) (by decide)
              rw [ew1327] at bw1327
              have bw1328 := BT_get hI1325.1.1 0 2 3 (0) (0) (900) (by decide) 2 (by decide) (by decide)
              rw [ew1328] at bw1328
              have bw1329 := BT_get hI1325.1.1 0 16 17 (0) (0) (3) (by decide) 16 (by decide) (by decide)
              rw [ew1329] at bw1329
              have e1331 : I1325 (ad g 0) 1 = L := hI1325.1.2
              have b1332 := BT_get hI1325.1.1 0 1 2 (0) (0) (900) (by decide) 1 (by decide) (by decide)
              rw [e1331] at b1332
              refine WP_iload_n dX11_readThingOf_89 rfl ?_
              refine WQ_bipush (7) (7) dX11_readThingOf_90 rfl rfl (fun v1333 hv1333 => ?_)
              refine WQ_icmp_ge 125 dX11_readThingOf_92 rfl (fun c1333 => ?_) (fun c1333 => ?_)
              · refine WP_aload_n dX11_readThingOf_125 rfl ?_
                refine WP_dup dX11_readThingOf_126 rfl ?_
                refine WQ_getim dX11_readThingOf_127 fX11_126 rfl (ly_is hy 0 11 rfl) ew1329 ?_
                refine WQ_iconst (1) (1) dX11_readThingOf_130 rfl rfl (fun v1335 hv1335 => ?_)
                refine WQ_iadd dX11_readThingOf_131 (by omega) (by omega) (fun v1336 hv1336 => ?_)
                refine WQ_puti dX11_readThingOf_132 fX11_126 rfl rfl (ly_is hy 0 11 rfl) (fun I1337 eI1337 => ?_)
                have hI1337 : MP g n L I1337 := by rw [eI1337]; exact (mp_w hy hI1325 (c := 0) (mi_f hy hI1325.1 (c := 0) (0) (0) (3) (by decide) (Or.inr (by decide)) (by decide) (by omega) (by omega)) (by decide) (by decide) (Or.inr (by decide)))
                have e1338 : I1337 (ad g 0) 4 = w1327 := by rw [eI1337, pp_ne _ _ (Or.inr (by decide))]; exact ew1327
                have e1339 : I1337 (ad g 0) 2 = w1328 := by rw [eI1337, pp_ne _ _ (Or.inr (by decide))]; exact ew1328
                have e1340 : I1337 (ad g 0) 1 = L := by rw [eI1337, pp_ne _ _ (Or.inr (by decide))]; exact e1331
                have e1341 : I1337 (ad g 0) 16 = v1336 := by rw [eI1337, pp_self]
                have fr1342 : fs g [3, 4, 5, 6, 7, 8, 9, 16] I I1337 := by rw [eI1337]; exact fs_pp0 fqI1325 (by decide)
                have fr1343 : fz 49 g [0, 18, 19, 28, 29, 34] I I1337 := by rw [eI1337]; exact fzm_pp hy fiI1325 (by decide) (by decide)
                clear eI1337
                refine WQ_iconst (1) (1) dX11_readThingOf_135 rfl rfl (fun v1344 hv1344 => ?_)
                exact WP_zret dX11_readThingOf_136 rfl (nar_z (by omega)) ⟨⟨hI1337, rfl, fr1343, fjJ1326, fr1342, (by rw [e1338, e1339]; omega)⟩, _, rfl, by omega, by omega⟩
              · refine WP_aload_n dX11_readThingOf_95 rfl ?_
                refine WP_getr dX11_readThingOf_96 fX11_141 rfl (ly_is hy 0 11 rfl) (rf hr 0 46 28 (by decide)) ?_
                refine WQ_bipush (7) (7) dX11_readThingOf_99 rfl rfl (fun v1345 hv1345 => ?_)
                refine WP_iload_n dX11_readThingOf_101 rfl ?_
                refine WQ_imulK (7) dX11_readThingOf_102 hv1345 (by omega) (by omega) (fun v1346 hv1346 => ?_)
                refine WP_iload_n dX11_readThingOf_103 rfl ?_
                refine WQ_iadd dX11_readThingOf_104 (by omega) (by omega) (fun v1347 hv1347 => ?_)
                refine WQ_iconst (5) (5) dX11_readThingOf_105 rfl rfl (fun v1348 hv1348 => ?_)
                refine WQ_iast dX11_readThingOf_106 (ly_is hy 28 13 rfl) (ly_n hy 28 21 rfl) (by omega) (by omega) (fun I1349 eI1349 => ?_)
                have hI1349 : MP g n L I1349 := by rw [eI1349]; exact (mp_w hy hI1325 (c := 28) (mi_r hy hI1325.1 (c := 28) (0) (0) (20) (by decide) (Or.inl (by decide)) (by decide) (by omega) (by omega)) (by decide) (by decide) (Or.inl (by decide)))
                have e1350 : I1349 (ad g 0) 4 = w1327 := by rw [eI1349, pp_ne _ _ (Or.inl (ly_ne hy (by decide) (by decide) (by decide)))]; exact ew1327
                have e1351 : I1349 (ad g 0) 2 = w1328 := by rw [eI1349, pp_ne _ _ (Or.inl (ly_ne hy (by decide) (by decide) (by decide)))]; exact ew1328
                have e1352 : I1349 (ad g 0) 16 = w1329 := by rw [eI1349, pp_ne _ _ (Or.inl (ly_ne hy (by decide) (by decide) (by decide)))]; exact ew1329
                have e1353 : I1349 (ad g 0) 1 = L := by rw [eI1349, pp_ne _ _ (Or.inl (ly_ne hy (by decide) (by decide) (by decide)))]; exact e1331
                have fr1354 : fs g [3, 4, 5, 6, 7, 8, 9, 16] I I1349 := by rw [eI1349]; exact fs_ppn hy fqI1325 (by decide) (by decide)
                have fr1355 : fz 49 g [0, 18, 19, 28, 29, 34] I I1349 := by rw [eI1349]; exact fzm_pp hy fiI1325 (by decide) (by decide)
                clear eI1349
                refine WP_aload_n dX11_readThingOf_107 rfl ?_
                refine WP_getr dX11_readThingOf_108 fX11_144 rfl (ly_is hy 0 11 rfl) (rf hr 0 47 29 (by decide)) ?_
                refine WQ_bipush (7) (7) dX11_readThingOf_111 rfl rfl (fun v1356 hv1356 => ?_)
                refine WP_iload_n dX11_readThingOf_113 rfl ?_
                refine WQ_imulK (7) dX11_readThingOf_114 hv1356 (by omega) (by omega) (fun v1357 hv1357 => ?_)
                refine WP_iload_n dX11_readThingOf_115 rfl ?_
                refine WQ_iadd dX11_readThingOf_116 (by omega) (by omega) (fun v1358 hv1358 => ?_)
                refine WQ_iconst (-1) (-1) dX11_readThingOf_117 rfl rfl (fun v1359 hv1359 => ?_)
                refine WQ_iast dX11_readThingOf_118 (ly_is hy 29 13 rfl) (ly_n hy 29 21 rfl) (by omega) (by omega) (fun I1360 eI1360 => ?_)
                have hI1360 : MP g n L I1360 := by rw [eI1360]; exact (mp_w hy hI1349 (c := 29) (mi_r hy hI1349.1 (c := 29) (-1) (0) (999) (by decide) (Or.inl (by decide)) (by decide) (by omega) (by omega)) (by decide) (by decide) (Or.inl (by decide)))
                have e1361 : I1360 (ad g 0) 4 = w1327 := by rw [eI1360, pp_ne _ _ (Or.inl (ly_ne hy (by decide) (by decide) (by decide)))]; exact e1350
                have e1362 : I1360 (ad g 0) 2 = w1328 := by rw [eI1360, pp_ne _ _ (Or.inl (ly_ne hy (by decide) (by decide) (by decide)))]; exact e1351
                have e1363 : I1360 (ad g 0) 16 = w1329 := by rw [eI1360, pp_ne _ _ (Or.inl (ly_ne hy (by decide) (by decide) (by decide)))]; exact e1352
                have e1364 : I1360 (ad g 0) 1 = L := by rw [eI1360, pp_ne _ _ (Or.inl (ly_ne hy (by decide) (by decide) (by decide)))]; exact e1353
                have fr1365 : fs g [3, 4, 5, 6, 7, 8, 9, 16] I I1360 := by rw [eI1360]; exact fs_ppn hy fr1354 (by decide) (by decide)
                have fr1366 : fz 49 g [0, 18, 19, 28, 29, 34] I I1360 := by rw [eI1360]; exact fzm_pp hy fr1355 (by decide) (by decide)
                clear eI1360
                refine WP_iinc (ls' := [(0, _), (1, _), (2, _)]) dX11_readThingOf_119 rfl (by decide) rfl ?_
                have hv1367 : (i1324 + Int32.ofInt (1)).toInt = i1324.toInt + (1) := ia_n rfl (by omega) (by omega)
                generalize i1324 + Int32.ofInt (1) = v1367 at hv1367 ⊢
                refine WP_goto 89 dX11_readThingOf_122 rfl ?_
                exact WP_sub (fc rfl (fc rfl (fc rfl fn))) (ihlp89_1329 v1367 I1360 J1326 hI1360 fr1366 fjJ1326 fr1365 w1327 e1361 w1328 e1362 w1329 e1363 (by omega) (by omega) (by omega) (by omega) (by omega))
          exact WP_sub (fc rfl (fc rfl (fc rfl fn))) (lp89_1329 _ v1323 I1315 J1294 hI1315 fr1322 fr1298 fr1321 w1302 e1318 w1303 e1319 v1242 e1316 (by omega) (by omega) (by omega) (by omega) (Nat.lt_succ_self _))
        · refine WQ_iconst (0) (0) dX11_readThingOf_68 rfl rfl (fun v1368 hv1368 => ?_)
          exact WP_zret dX11_readThingOf_69 rfl (nar_z (by omega)) ⟨⟨hI1293, rfl, fr1296, fr1298, fr1297, (by rw [ew1302, ew1303]; omega)⟩, _, rfl, by omega, by omega⟩
      · refine WQ_iconst (0) (0) dX11_readThingOf_46 rfl rfl (fun v1369 hv1369 => ?_)
        exact WP_zret dX11_readThingOf_47 rfl (nar_z (by omega)) ⟨⟨hI1270, rfl, fr1273, fr1275, fr1274, (by rw [ew1279, ew1280]; omega)⟩, _, rfl, by omega, by omega⟩
  · refine WP_aload_n dX11_readThingOf_8 rfl ?_
    refine WQ_iconst (4) (4) dX11_readThingOf_9 rfl rfl (fun v1370 hv1370 => ?_)
    refine WP_callV1 (k := 11) dX11_readThingOf_10 ⟨⟨⟨by decide, by decide⟩, zX11_bad⟩, lX11_49, by decide, rfl, vX11_bad.1, vX11_bad.2⟩ (ly_is hy 0 11 rfl) (sm_bad2 hy hr hI v1370  (by rw [ew1240, ew1241]; omega)) (Nat.le_of_ble_eq_true rfl) ?_
    intro r I1371 J1372 Ra hq
    obtain ⟨⟨hI1371, ec, fiI1371, fjI1371, fqI1371, ⟨pI1371, sI1371_0_15, sI1371_0_16⟩⟩, v1373, rfl, av1373, bv1373⟩ := hq
    show WP _ _ _ _ (.int _ :: _) _ _ _ _
    rw [ec]
    clear ec Ra
    have fr1374 : fz 49 g [0, 18, 19, 28, 29, 34] I I1371 := fz_tr fr0 (fz_mono fiI1371 (by decide))
    have fr1375 : fs g [3, 4, 5, 6, 7, 8, 9, 16] I I1371 := fs_tr frq0 (fs_mono fqI1371 (by decide))
    have fr1376 : fz 49 g [5] J J1372 := fz_tr frj0 (fz_mono fjI1371 (by decide))
    have e1377 : I1371 (ad g 0) 16 = v1242 := by rw [sI1371_0_16]; exact ev1242
    have e1378 : I1371 (ad g 0) 1 = L := hI1371.1.2
    have b1379 := BT_get hI1371.1.1 0 1 2 (0) (0) (900) (by decide) 1 (by decide) (by decide)
    rw [e1378] at b1379
    obtain ⟨w1380, ew1380⟩ : ∃ w : Int32, I1371 (ad g 0) 4 = w := ⟨_, rfl⟩
    have bw1380 := BT_get hI1371.1.1 0 4 5 (0) (0) (900) (by decide) 4 (by decide) (by decide)
    rw [ew1380] at bw1380
    obtain ⟨w1381, ew1381⟩ : ∃ w : Int32, I1371 (ad g 0) 2 = w := ⟨_, rfl⟩
    have bw1381 := BT_get hI1371.1.1 0 2 3 (0) (0) (900) (by decide) 2 (by decide) (by decide)
    rw [ew1381] at bw1381
    rw [ew1380, ew1381] at pI1371
    exact WP_zret dX11_readThingOf_13 rfl (nar_z (by omega)) ⟨⟨hI1371, rfl, fr1374, fr1376, fr1375, (by rw [ew1380, ew1381]; omega)⟩, _, rfl, by omega, by omega⟩
set_option maxHeartbeats 4000000 in
set_option maxRecDepth 100000 in
theorem sm_readEarns {g : GG} {n : Int} {L : Int32} (hy : Ly g)  {I : pI} {J : pJ} {R : pR} (hr : Rf g R) (hI : MP g n L I)   (hb : (I (ad g 0) 4).toInt ≤ (I (ad g 0) 2).toInt) : SP g mX11_readEarns [.ref (ad g 0)] I J R (fun r I' J' R' => (MP g n L I' ∧ R' = R ∧ fz 49 g [0, 27, 33] I I' ∧ fz 49 g [] J J' ∧ fs g [3, 4, 5, 6, 7, 8, 9] I I' ∧ (I' (ad g 0) 4).toInt ≤ (I' (ad g 0) 2).toInt) ∧ ∃ v : Int32, r = some (.int v) ∧ 0 ≤ v.toInt ∧ v.toInt ≤ 1) := by
  refine SP_of ⟨by decide, rfl⟩ (Nat.le_of_ble_eq_true rfl) ?_
  have e1382 : I (ad g 0) 1 = L := hI.1.2
  have b1383 := BT_get hI.1.1 0 1 2 (0) (0) (900) (by decide) 1 (by decide) (by decide)
  rw [e1382] at b1383
  have fr0 : fz 49 g [0, 27, 33] I I := fz_rf
  have frj0 : fz 49 g [] J J := fz_rf
  have frq0 : fs g [3, 4, 5, 6, 7, 8, 9] I I := fs_rf
  obtain ⟨w1384, ew1384⟩ : ∃ w : Int32, I (ad g 0) 4 = w := ⟨_, rfl⟩
  have bw1384 := BT_get hI.1.1 0 4 5 (0) (0) (900) (by decide) 4 (by decide) (by decide)
  rw [ew1384] at bw1384
  obtain ⟨w1385, ew1385⟩ : ∃ w : Int32, I (ad g 0) 2 = w := ⟨_, rfl⟩
  have bw1385 := BT_get hI.1.1 0 2 3 (0) (0) (900) (by decide) 2 (by decide) (by decide)
  rw [ew1385] at bw1385
  rw [ew1384, ew1385] at hb
  refine WP_aload_n dX11_readEarns_0 rfl ?_
  refine WP_callV0 (k := 11) dX11_readEarns_1 ⟨⟨⟨by decide, by decide⟩, zX11_scan⟩, lX11_63, by decide, rfl, vX11_scan.1, vX11_scan.2⟩ (ly_is hy 0 11 rfl) (sm_scan hy hr hI   (by rw [ew1384, ew1385]; omega)) (Nat.le_of_ble_eq_true rfl) ?_
  intro r I1386 J1387 Ra hq
  obtain ⟨⟨hI1386, ec, fiI1386, fjI1386, fqI1386, ⟨pI1386, sI1386_0_7, sI1386_0_15, sI1386_0_16⟩⟩, rfl⟩ := hq
  rw [ec]
  clear ec Ra
  have fr1388 : fz 49 g [0, 27, 33] I I1386 := fz_tr fr0 (fz_mono fiI1386 (by decide))
  have fr1389 : fs g [3, 4, 5, 6, 7, 8, 9] I I1386 := fs_tr frq0 (fs_mono fqI1386 (by decide))
  have fr1390 : fz 49 g [] J J1387 := fz_tr frj0 (fz_mono fjI1386 (by decide))
  have e1391 : I1386 (ad g 0) 1 = L := hI1386.1.2
  have b1392 := BT_get hI1386.1.1 0 1 2 (0) (0) (900) (by decide) 1 (by decide) (by decide)
  rw [e1391] at b1392
  obtain ⟨w1393, ew1393⟩ : ∃ w : Int32, I1386 (ad g 0) 4 = w := ⟨_, rfl⟩
  have bw1393 := BT_get hI1386.1.1 0 4 5 (0) (0) (900) (by decide) 4 (by decide) (by decide)
  rw [ew1393] at bw1393
  obtain ⟨w1394, ew1394⟩ : ∃ w : Int32, I1386 (ad g 0) 2 = w := ⟨_, rfl⟩
  have bw1394 := BT_get hI1386.1.1 0 2 3 (0) (0) (900) (by decide) 2 (by decide) (by decide)
  rw [ew1394] at bw1394
  rw [ew1393, ew1394] at pI1386
  refine WP_aload_n dX11_readEarns_4 rfl ?_
  refine WP_aload_n dX11_readEarns_5 rfl ?_
  refine WP_getr dX11_readEarns_6 fX11_91 rfl (ly_is hy 0 11 rfl) (rf hr 0 22 4 (by decide)) ?_
  refine WP_aload_n dX11_readEarns_9 rfl ?_
  refine WQ_geti dX11_readEarns_10 fX11_88 rfl (ly_is hy 0 11 rfl) (BT_get hI1386.1.1 0 15 16 (0) (0) (4) (by decide) 15 (by decide) (by decide)) (fun v1395 ev1395 av1395 bv1395 => ?_)
  refine WP_callV2 (k := 11) dX11_readEarns_13 ⟨⟨⟨by decide, by decide⟩, zX11_known⟩, lX11_147, by decide, rfl, vX11_known.1, vX11_known.2⟩ (ly_is hy 0 11 rfl) (sm_known_4 hy hr hI1386 v1395 (by omega) (by omega) (by rw [ew1393, ew1394]; omega)) (Nat.le_of_ble_eq_true rfl) ?_
  intro r I1396 J1397 Ra hq
  obtain ⟨⟨hI1396, ec, fiI1396, fjI1396, fqI1396, ⟨pI1396, sI1396_0_15, sI1396_0_16⟩⟩, v1398, rfl, av1398, bv1398, cv1398⟩ := hq
  show WP _ _ _ _ (.int _ :: _) _ _ _ _
  rw [ec]
  clear ec Ra
  have fr1399 : fz 49 g [0, 27, 33] I I1396 := fz_tr fr1388 (fz_mono fiI1396 (by decide))
  have fr1400 : fs g [3, 4, 5, 6, 7, 8, 9] I I1396 := fs_tr fr1389 (fs_mono fqI1396 (by decide))
  have fr1401 : fz 49 g [] J J1397 := fz_tr fr1390 (fz_mono fjI1396 (by decide))
  have e1402 : I1396 (ad g 0) 15 = v1395 := by rw [sI1396_0_15]; exact ev1395
  have e1403 : I1396 (ad g 0) 1 = L := hI1396.1.2
  have b1404 := BT_get hI1396.1.1 0 1 2 (0) (0) (900) (by decide) 1 (by decide) (by decide)
  rw [e1403] at b1404
  obtain ⟨w1405, ew1405⟩ : ∃ w : Int32, I1396 (ad g 0) 4 = w := ⟨_, rfl⟩
  have bw1405 := BT_get hI1396.1.1 0 4 5 (0) (0) (900) (by decide) 4 (by decide) (by decide)
  rw [ew1405] at bw1405
  obtain ⟨w1406, ew1406⟩ : ∃ w : Int32, I1396 (ad g 0) 2 = w := ⟨_, rfl⟩
  have bw1406 := BT_get hI1396.1.1 0 2 3 (0) (0) (900) (by decide) 2 (by decide) (by decide)
  rw [ew1406] at bw1406
  rw [ew1405, ew1406] at pI1396
  obtain ⟨w1407, ew1407⟩ : ∃ w : Int32, I1396 (ad g 0) 7 = w := ⟨_, rfl⟩
  have bw1407 := BT_get hI1396.1.1 0 7 8 (-1) (0) (1000) (by decide) 7 (by decide) (by decide)
  rw [ew1407] at bw1407
  rw [ew1407] at cv1398
  refine WQ_if_ne 21 dX11_readEarns_16 rfl (fun c1407 => ?_) (fun c1407 => ?_)
  · refine WP_aload_n dX11_readEarns_21 rfl ?_
    refine WQ_getim dX11_readEarns_22 fX11_56 rfl (ly_is hy 0 11 rfl) ew1407 ?_
    refine WP_istore_n (ls' := [(0, _), (1, _)]) dX11_readEarns_25 (by decide) rfl ?_
    refine WP_aload_n dX11_readEarns_26 rfl ?_
    refine WQ_iconst (0) (0) dX11_readEarns_27 rfl rfl (fun v1409 hv1409 => ?_)
    refine WQ_bipush (6) (6) dX11_readEarns_28 rfl rfl (fun v1410 hv1410 => ?_)
    refine WP_callV2 (k := 11) dX11_readEarns_30 ⟨⟨⟨by decide, by decide⟩, zX11_peek⟩, lX11_59, by decide, rfl, vX11_peek.1, vX11_peek.2⟩ (ly_is hy 0 11 rfl) (sm_peek hy hr hI1396 v1409 v1410 (by omega) (by omega) (by omega) (by omega) (by rw [ew1405, ew1406]; omega)) (Nat.le_of_ble_eq_true rfl) ?_
    intro r I1411 J1412 Ra hq
    obtain ⟨⟨hI1411, ec, fiI1411, fjI1411, fqI1411, ⟨pI1411, sI1411_0_15, sI1411_0_16⟩⟩, v1413, rfl, av1413, bv1413, cv1413⟩ := hq
    show WP _ _ _ _ (.int _ :: _) _ _ _ _
    rw [ec]
    clear ec Ra
    have fr1414 : fz 49 g [0, 27, 33] I I1411 := fz_tr fr1399 (fz_mono fiI1411 (by decide))
    have fr1415 : fs g [3, 4, 5, 6, 7, 8, 9] I I1411 := fs_tr fr1400 (fs_mono fqI1411 (by decide))
    have fr1416 : fz 49 g [] J J1412 := fz_tr fr1401 (fz_mono fjI1411 (by decide))
    have e1417 : I1411 (ad g 0) 15 = v1395 := by rw [sI1411_0_15]; exact e1402
    have e1418 : I1411 (ad g 0) 1 = L := hI1411.1.2
    have b1419 := BT_get hI1411.1.1 0 1 2 (0) (0) (900) (by decide) 1 (by decide) (by decide)
    rw [e1418] at b1419
    obtain ⟨w1420, ew1420⟩ : ∃ w : Int32, I1411 (ad g 0) 4 = w := ⟨_, rfl⟩
    have bw1420 := BT_get hI1411.1.1 0 4 5 (0) (0) (900) (by decide) 4 (by decide) (by decide)
    rw [ew1420] at bw1420
    obtain ⟨w1421, ew1421⟩ : ∃ w : Int32, I1411 (ad g 0) 2 = w := ⟨_, rfl⟩
    have bw1421 := BT_get hI1411.1.1 0 2 3 (0) (0) (900) (by decide) 2 (by decide) (by decide)
    rw [ew1421] at bw1421
    rw [ew1420, ew1421] at pI1411
    obtain ⟨w1422, ew1422⟩ : ∃ w : Int32, I1411 (ad g 0) 7 = w := ⟨_, rfl⟩
    have bw1422 := BT_get hI1411.1.1 0 7 8 (-1) (0) (1000) (by decide) 7 (by decide) (by decide)
    rw [ew1422] at bw1422
    rw [ew1422] at cv1413
    refine WQ_if_ne 38 dX11_readEarns_33 rfl (fun c1422 => ?_) (fun c1422 => ?_)
    · refine WP_aload_n dX11_readEarns_38 rfl ?_
      refine WP_getr dX11_readEarns_39 fX11_111 rfl (ly_is hy 0 11 rfl) (rf hr 0 52 33 (by decide)) ?_
      refine WP_iload_n dX11_readEarns_42 rfl ?_
      refine WQ_ialdu dX11_readEarns_43 (ly_is hy 33 13 rfl) (ly_n hy 33 4 rfl) (by omega) (by omega) (fun v1424 => ?_)
      refine WP_aload_n dX11_readEarns_44 rfl ?_
      refine WQ_getim dX11_readEarns_45 fX11_56 rfl (ly_is hy 0 11 rfl) ew1422 ?_
      refine WQ_ishru dX11_readEarns_48 (fun v1425 => ?_)
      refine WQ_iconst (1) (1) dX11_readEarns_49 rfl rfl (fun v1426 hv1426 => ?_)
      refine WQ_iandu dX11_readEarns_50 (fun v1427 => ?_)
      refine WQ_iconst (1) (1) dX11_readEarns_51 rfl rfl (fun v1428 hv1428 => ?_)
      refine WQ_icmp_ne 61 dX11_readEarns_52 rfl (fun c1428 => ?_) (fun c1428 => ?_)
      · refine WP_aload_n dX11_readEarns_61 rfl ?_
        refine WP_getr dX11_readEarns_62 fX11_111 rfl (ly_is hy 0 11 rfl) (rf hr 0 52 33 (by decide)) ?_
        refine WP_iload_n dX11_readEarns_65 rfl ?_
        refine WP_dup2 dX11_readEarns_66 rfl rfl ?_
        refine WQ_ialdu dX11_readEarns_67 (ly_is hy 33 13 rfl) (ly_n hy 33 4 rfl) (by omega) (by omega) (fun v1430 => ?_)
        refine WQ_iconst (1) (1) dX11_readEarns_68 rfl rfl (fun v1431 hv1431 => ?_)
        refine WP_aload_n dX11_readEarns_69 rfl ?_
        refine WQ_getim dX11_readEarns_70 fX11_56 rfl (ly_is hy 0 11 rfl) ew1422 ?_
        refine WQ_ishlu dX11_readEarns_73 (fun v1432 => ?_)
        refine WQ_ioru dX11_readEarns_74 (fun v1433 => ?_)
        refine WQ_iast dX11_readEarns_75 (ly_is hy 33 13 rfl) (ly_n hy 33 4 rfl) (by omega) (by omega) (fun I1434 eI1434 => ?_)
        have hI1434 : MP g n L I1434 := by rw [eI1434]; exact (mp_w hy hI1411 (c := 33) (mi_r0 hy hI1411.1 (c := 33) (by decide) (Or.inl (by decide)) (by decide)) (by decide) (by decide) (Or.inl (by decide)))
        have e1435 : I1434 (ad g 0) 15 = v1395 := by rw [eI1434, pp_ne _ _ (Or.inl (ly_ne hy (by decide) (by decide) (by decide)))]; exact e1417
        have e1436 : I1434 (ad g 0) 1 = L := by rw [eI1434, pp_ne _ _ (Or.inl (ly_ne hy (by decide) (by decide) (by decide)))]; exact e1418
        have e1437 : I1434 (ad g 0) 4 = w1420 := by rw [eI1434, pp_ne _ _ (Or.inl (ly_ne hy (by decide) (by decide) (by decide)))]; exact ew1420
        have e1438 : I1434 (ad g 0) 2 = w1421 := by rw [eI1434, pp_ne _ _ (Or.inl (ly_ne hy (by decide) (by decide) (by decide)))]; exact ew1421
        have e1439 : I1434 (ad g 0) 7 = w1422 := by rw [eI1434, pp_ne _ _ (Or.inl (ly_ne hy (by decide) (by decide) (by decide)))]; exact ew1422
        have fr1440 : fs g [3, 4, 5, 6, 7, 8, 9] I I1434 := by rw [eI1434]; exact fs_ppn hy fr1415 (by decide) (by decide)
        have fr1441 : fz 49 g [0, 27, 33] I I1434 := by rw [eI1434]; exact fzm_pp hy fr1414 (by decide) (by decide)
        clear eI1434
        refine WQ_bipush (7) (7) dX11_readEarns_76 rfl rfl (fun v1442 hv1442 => ?_)
        refine WP_iload_n dX11_readEarns_78 rfl ?_
        refine WQ_imulK (7) dX11_readEarns_79 hv1442 (by omega) (by omega) (fun v1443 hv1443 => ?_)
        refine WP_aload_n dX11_readEarns_80 rfl ?_
        refine WQ_getim dX11_readEarns_81 fX11_56 rfl (ly_is hy 0 11 rfl) e1439 ?_
        refine WQ_iadd dX11_readEarns_84 (by omega) (by omega) (fun v1444 hv1444 => ?_)
        refine WP_istore_n (ls' := [(0, _), (1, _), (2, _)]) dX11_readEarns_85 (by decide) rfl ?_
        refine WP_aload_n dX11_readEarns_86 rfl ?_
        refine WP_callV0 (k := 11) dX11_readEarns_87 ⟨⟨⟨by decide, by decide⟩, zX11_scan⟩, lX11_63, by decide, rfl, vX11_scan.1, vX11_scan.2⟩ (ly_is hy 0 11 rfl) (sm_scan hy hr hI1434   (by rw [e1437, e1438]; omega)) (Nat.le_of_ble_eq_true rfl) ?_
        intro r I1445 J1446 Ra hq
        obtain ⟨⟨hI1445, ec, fiI1445, fjI1445, fqI1445, ⟨pI1445, sI1445_0_7, sI1445_0_15, sI1445_0_16⟩⟩, rfl⟩ := hq
        rw [ec]
        clear ec Ra
        have fr1447 : fz 49 g [0, 27, 33] I I1445 := fz_tr fr1441 (fz_mono fiI1445 (by decide))
        have fr1448 : fs g [3, 4, 5, 6, 7, 8, 9] I I1445 := fs_tr fr1440 (fs_mono fqI1445 (by decide))
        have fr1449 : fz 49 g [] J J1446 := fz_tr fr1416 (fz_mono fjI1445 (by decide))
        have e1450 : I1445 (ad g 0) 7 = w1422 := by rw [sI1445_0_7]; exact e1439
        have e1451 : I1445 (ad g 0) 15 = v1395 := by rw [sI1445_0_15]; exact e1435
        have e1452 : I1445 (ad g 0) 1 = L := hI1445.1.2
        have b1453 := BT_get hI1445.1.1 0 1 2 (0) (0) (900) (by decide) 1 (by decide) (by decide)
        rw [e1452] at b1453
        obtain ⟨w1454, ew1454⟩ : ∃ w : Int32, I1445 (ad g 0) 4 = w := ⟨_, rfl⟩
        have bw1454 := BT_get hI1445.1.1 0 4 5 (0) (0) (900) (by decide) 4 (by decide) (by decide)
        rw [ew1454] at bw1454
        obtain ⟨w1455, ew1455⟩ : ∃ w : Int32, I1445 (ad g 0) 2 = w := ⟨_, rfl⟩
        have bw1455 := BT_get hI1445.1.1 0 2 3 (0) (0) (900) (by decide) 2 (by decide) (by decide)
        rw [ew1455] at bw1455
        rw [ew1454, ew1455] at pI1445
        refine WP_aload_n dX11_readEarns_90 rfl ?_
        refine WQ_iconst (1) (1) dX11_readEarns_91 rfl rfl (fun v1456 hv1456 => ?_)
        refine WQ_bipush (20) (20) dX11_readEarns_92 rfl rfl (fun v1457 hv1457 => ?_)
        refine WP_callV2 (k := 11) dX11_readEarns_94 ⟨⟨⟨by decide, by decide⟩, zX11_number⟩, lX11_81, by decide, rfl, vX11_number.1, vX11_number.2⟩ (ly_is hy 0 11 rfl) (sm_number hy hr hI1445 v1456 v1457 (by omega) (by omega) (by omega) (by omega) (by rw [ew1454, ew1455]; omega)) (Nat.le_of_ble_eq_true rfl) ?_
        intro r I1458 J1459 Ra hq
        obtain ⟨⟨hI1458, ec, fiI1458, fjI1458, fqI1458, ⟨pI1458, sI1458_0_15, sI1458_0_16⟩⟩, v1460, rfl, av1460, bv1460, cv1460⟩ := hq
        show WP _ _ _ _ (.int _ :: _) _ _ _ _
        rw [ec]
        clear ec Ra
        have fr1461 : fz 49 g [0, 27, 33] I I1458 := fz_tr fr1447 (fz_mono fiI1458 (by decide))
        have fr1462 : fs g [3, 4, 5, 6, 7, 8, 9] I I1458 := fs_tr fr1448 (fs_mono fqI1458 (by decide))
        have fr1463 : fz 49 g [] J J1459 := fz_tr fr1449 (fz_mono fjI1458 (by decide))
        have e1464 : I1458 (ad g 0) 15 = v1395 := by rw [sI1458_0_15]; exact e1451
        have e1465 : I1458 (ad g 0) 1 = L := hI1458.1.2
        have b1466 := BT_get hI1458.1.1 0 1 2 (0) (0) (900) (by decide) 1 (by decide) (by decide)
        rw [e1465] at b1466
        obtain ⟨w1467, ew1467⟩ : ∃ w : Int32, I1458 (ad g 0) 4 = w := ⟨_, rfl⟩
        have bw1467 := BT_get hI1458.1.1 0 4 5 (0) (0) (900) (by decide) 4 (by decide) (by decide)
        rw [ew1467] at bw1467
        obtain ⟨w1468, ew1468⟩ : ∃ w : Int32, I1458 (ad g 0) 2 = w := ⟨_, rfl⟩
        have bw1468 := BT_get hI1458.1.1 0 2 3 (0) (0) (900) (by decide) 2 (by decide) (by decide)
        rw [ew1468] at bw1468
        rw [ew1467, ew1468] at pI1458
        obtain ⟨w1469, ew1469⟩ : ∃ w : Int32, I1458 (ad g 0) 7 = w := ⟨_, rfl⟩
        have bw1469 := BT_get hI1458.1.1 0 7 8 (-1) (0) (1000) (by decide) 7 (by decide) (by decide)
        rw [ew1469] at bw1469
        rw [ew1469] at cv1460
        refine WQ_if_ne 102 dX11_readEarns_97 rfl (fun c1469 => ?_) (fun c1469 => ?_)
        · refine WP_aload_n dX11_readEarns_102 rfl ?_
          refine WP_getr dX11_readEarns_103 fX11_114 rfl (ly_is hy 0 11 rfl) (rf hr 0 45 27 (by decide)) ?_
          refine WP_iload_n dX11_readEarns_106 rfl ?_
          refine WP_aload_n dX11_readEarns_107 rfl ?_
          refine WQ_getim dX11_readEarns_108 fX11_56 rfl (ly_is hy 0 11 rfl) ew1469 ?_
          refine WQ_iast dX11_readEarns_111 (ly_is hy 27 13 rfl) (ly_n hy 27 28 rfl) (by omega) (by omega) (fun I1471 eI1471 => ?_)
          have hI1471 : MP g n L I1471 := by rw [eI1471]; exact (mp_w hy hI1458 (c := 27) (mi_r hy hI1458.1 (c := 27) (0) (0) (20) (by decide) (Or.inl (by decide)) (by decide) (by omega) (by omega)) (by decide) (by decide) (Or.inl (by decide)))
          have e1472 : I1471 (ad g 0) 15 = v1395 := by rw [eI1471, pp_ne _ _ (Or.inl (ly_ne hy (by decide) (by decide) (by decide)))]; exact e1464
          have e1473 : I1471 (ad g 0) 1 = L := by rw [eI1471, pp_ne _ _ (Or.inl (ly_ne hy (by decide) (by decide) (by decide)))]; exact e1465
          have e1474 : I1471 (ad g 0) 4 = w1467 := by rw [eI1471, pp_ne _ _ (Or.inl (ly_ne hy (by decide) (by decide) (by decide)))]; exact ew1467
          have e1475 : I1471 (ad g 0) 2 = w1468 := by rw [eI1471, pp_ne _ _ (Or.inl (ly_ne hy (by decide) (by decide) (by decide)))]; exact ew1468
          have e1476 : I1471 (ad g 0) 7 = w1469 := by rw [eI1471, pp_ne _ _ (Or.inl (ly_ne hy (by decide) (by decide) (by decide)))]; exact ew1469
          have fr1477 : fs g [3, 4, 5, 6, 7, 8, 9] I I1471 := by rw [eI1471]; exact fs_ppn hy fr1462 (by decide) (by decide)
          have fr1478 : fz 49 g [0, 27, 33] I I1471 := by rw [eI1471]; exact fzm_pp hy fr1461 (by decide) (by decide)
          clear eI1471
          refine WQ_iconst (1) (1) dX11_readEarns_112 rfl rfl (fun v1479 hv1479 => ?_)
          exact WP_zret dX11_readEarns_113 rfl (nar_z (by omega)) ⟨⟨hI1471, rfl, fr1478, fr1463, fr1477, (by rw [e1474, e1475]; omega)⟩, _, rfl, by omega, by omega⟩
        · refine WQ_iconst (0) (0) dX11_readEarns_100 rfl rfl (fun v1480 hv1480 => ?_)
          exact WP_zret dX11_readEarns_101 rfl (nar_z (by omega)) ⟨⟨hI1458, rfl, fr1461, fr1463, fr1462, (by rw [ew1467, ew1468]; omega)⟩, _, rfl, by omega, by omega⟩
      · refine WP_aload_n dX11_readEarns_55 rfl ?_
        refine WQ_iconst (3) (3) dX11_readEarns_56 rfl rfl (fun v1481 hv1481 => ?_)
        refine WP_callV1 (k := 11) dX11_readEarns_57 ⟨⟨⟨by decide, by decide⟩, zX11_bad⟩, lX11_49, by decide, rfl, vX11_bad.1, vX11_bad.2⟩ (ly_is hy 0 11 rfl) (sm_bad2 hy hr hI1411 v1481  (by rw [ew1420, ew1421]; omega)) (Nat.le_of_ble_eq_true rfl) ?_
        intro r I1482 J1483 Ra hq
        obtain ⟨⟨hI1482, ec, fiI1482, fjI1482, fqI1482, ⟨pI1482, sI1482_0_15, sI1482_0_16⟩⟩, v1484, rfl, av1484, bv1484⟩ := hq
        show WP _ _ _ _ (.int _ :: _) _ _ _ _
        rw [ec]
        clear ec Ra
        have fr1485 : fz 49 g [0, 27, 33] I I1482 := fz_tr fr1414 (fz_mono fiI1482 (by decide))
        have fr1486 : fs g [3, 4, 5, 6, 7, 8, 9] I I1482 := fs_tr fr1415 (fs_mono fqI1482 (by decide))
        have fr1487 : fz 49 g [] J J1483 := fz_tr fr1416 (fz_mono fjI1482 (by decide))
        have e1488 : I1482 (ad g 0) 15 = v1395 := by rw [sI1482_0_15]; exact e1417
        have e1489 : I1482 (ad g 0) 1 = L := hI1482.1.2
        have b1490 := BT_get hI1482.1.1 0 1 2 (0) (0) (900) (by decide) 1 (by decide) (by decide)
        rw [e1489] at b1490
        obtain ⟨w1491, ew1491⟩ : ∃ w : Int32, I1482 (ad g 0) 4 = w := ⟨_, rfl⟩
        have bw1491 := BT_get hI1482.1.1 0 4 5 (0) (0) (900) (by decide) 4 (by decide) (by decide)
        rw [ew1491] at bw1491
        obtain ⟨w1492, ew1492⟩ : ∃ w : Int32, I1482 (ad g 0) 2 = w := ⟨_, rfl⟩
        have bw1492 := BT_get hI1482.1.1 0 2 3 (0) (0) (900) (by decide) 2 (by decide) (by decide)
        rw [ew1492] at bw1492
        rw [ew1491, ew1492] at pI1482
        exact WP_zret dX11_readEarns_60 rfl (nar_z (by omega)) ⟨⟨hI1482, rfl, fr1485, fr1487, fr1486, (by rw [ew1491, ew1492]; omega)⟩, _, rfl, by omega, by omega⟩
    · refine WQ_iconst (0) (0) dX11_readEarns_36 rfl rfl (fun v1493 hv1493 => ?_)
      exact WP_zret dX11_readEarns_37 rfl (nar_z (by omega)) ⟨⟨hI1411, rfl, fr1414, fr1416, fr1415, (by rw [ew1420, ew1421]; omega)⟩, _, rfl, by omega, by omega⟩
  · refine WQ_iconst (0) (0) dX11_readEarns_19 rfl rfl (fun v1494 hv1494 => ?_)
    exact WP_zret dX11_readEarns_20 rfl (nar_z (by omega)) ⟨⟨hI1396, rfl, fr1399, fr1401, fr1400, (by rw [ew1405, ew1406]; omega)⟩, _, rfl, by omega, by omega⟩
set_option maxHeartbeats 4000000 in
set_option maxRecDepth 100000 in
theorem sm_readPrices {g : GG} {n : Int} {L : Int32} (hy : Ly g)  {I : pI} {J : pJ} {R : pR} (hr : Rf g R) (hI : MP g n L I)   (hb : (I (ad g 0) 4).toInt ≤ (I (ad g 0) 2).toInt) : SP g mX11_readPrices [.ref (ad g 0)] I J R (fun r I' J' R' => (MP g n L I' ∧ R' = R ∧ fz 49 g [0, 28, 34] I I' ∧ fz 49 g [] J J' ∧ fs g [3, 4, 5, 6, 7, 8, 9] I I' ∧ (I' (ad g 0) 4).toInt ≤ (I' (ad g 0) 2).toInt) ∧ ∃ v : Int32, r = some (.int v) ∧ 0 ≤ v.toInt ∧ v.toInt ≤ 1) := by
  refine SP_of ⟨by decide, rfl⟩ (Nat.le_of_ble_eq_true rfl) ?_
  have e1495 : I (ad g 0) 1 = L := hI.1.2
  have b1496 := BT_get hI.1.1 0 1 2 (0) (0) (900) (by decide) 1 (by decide) (by decide)
  rw [e1495] at b1496
  have fr0 : fz 49 g [0, 28, 34] I I := fz_rf
  have frj0 : fz 49 g [] J J := fz_rf
  have frq0 : fs g [3, 4, 5, 6, 7, 8, 9] I I := fs_rf
  obtain ⟨w1497, ew1497⟩ : ∃ w : Int32, I (ad g 0) 4 = w := ⟨_, rfl⟩
  have bw1497 := BT_get hI.1.1 0 4 5 (0) (0) (900) (by decide) 4 (by decide) (by decide)
  rw [ew1497] at bw1497
  obtain ⟨w1498, ew1498⟩ : ∃ w : Int32, I (ad g 0) 2 = w := ⟨_, rfl⟩
  have bw1498 := BT_get hI.1.1 0 2 3 (0) (0) (900) (by decide) 2 (by decide) (by decide)
  rw [ew1498] at bw1498
  rw [ew1497, ew1498] at hb
  refine WP_aload_n dX11_readPrices_0 rfl ?_
  refine WP_callV0 (k := 11) dX11_readPrices_1 ⟨⟨⟨by decide, by decide⟩, zX11_scan⟩, lX11_63, by decide, rfl, vX11_scan.1, vX11_scan.2⟩ (ly_is hy 0 11 rfl) (sm_scan hy hr hI   (by rw [ew1497, ew1498]; omega)) (Nat.le_of_ble_eq_true rfl) ?_
  intro r I1499 J1500 Ra hq
  obtain ⟨⟨hI1499, ec, fiI1499, fjI1499, fqI1499, ⟨pI1499, sI1499_0_7, sI1499_0_15, sI1499_0_16⟩⟩, rfl⟩ := hq
  rw [ec]
  clear ec Ra
  have fr1501 : fz 49 g [0, 28, 34] I I1499 := fz_tr fr0 (fz_mono fiI1499 (by decide))
  have fr1502 : fs g [3, 4, 5, 6, 7, 8, 9] I I1499 := fs_tr frq0 (fs_mono fqI1499 (by decide))
  have fr1503 : fz 49 g [] J J1500 := fz_tr frj0 (fz_mono fjI1499 (by decide))
  have e1504 : I1499 (ad g 0) 1 = L := hI1499.1.2
  have b1505 := BT_get hI1499.1.1 0 1 2 (0) (0) (900) (by decide) 1 (by decide) (by decide)
  rw [e1504] at b1505
  obtain ⟨w1506, ew1506⟩ : ∃ w : Int32, I1499 (ad g 0) 4 = w := ⟨_, rfl⟩
  have bw1506 := BT_get hI1499.1.1 0 4 5 (0) (0) (900) (by decide) 4 (by decide) (by decide)
  rw [ew1506] at bw1506
  obtain ⟨w1507, ew1507⟩ : ∃ w : Int32, I1499 (ad g 0) 2 = w := ⟨_, rfl⟩
  have bw1507 := BT_get hI1499.1.1 0 2 3 (0) (0) (900) (by decide) 2 (by decide) (by decide)
  rw [ew1507] at bw1507
  rw [ew1506, ew1507] at pI1499
  refine WP_aload_n dX11_readPrices_4 rfl ?_
  refine WP_aload_n dX11_readPrices_5 rfl ?_
  refine WP_getr dX11_readPrices_6 fX11_129 rfl (ly_is hy 0 11 rfl) (rf hr 0 23 5 (by decide)) ?_
  refine WP_aload_n dX11_readPrices_9 rfl ?_
  refine WQ_geti dX11_readPrices_10 fX11_126 rfl (ly_is hy 0 11 rfl) (BT_get hI1499.1.1 0 16 17 (0) (0) (3) (by decide) 16 (by decide) (by decide)) (fun v1508 ev1508 av1508 bv1508 => ?_)
  refine WP_callV2 (k := 11) dX11_readPrices_13 ⟨⟨⟨by decide, by decide⟩, zX11_known⟩, lX11_147, by decide, rfl, vX11_known.1, vX11_known.2⟩ (ly_is hy 0 11 rfl) (sm_known_5 hy hr hI1499 v1508 (by omega) (by omega) (by rw [ew1506, ew1507]; omega)) (Nat.le_of_ble_eq_true rfl) ?_
  intro r I1509 J1510 Ra hq
  obtain ⟨⟨hI1509, ec, fiI1509, fjI1509, fqI1509, ⟨pI1509, sI1509_0_15, sI1509_0_16⟩⟩, v1511, rfl, av1511, bv1511, cv1511⟩ := hq
  show WP _ _ _ _ (.int _ :: _) _ _ _ _
  rw [ec]
  clear ec Ra
  have fr1512 : fz 49 g [0, 28, 34] I I1509 := fz_tr fr1501 (fz_mono fiI1509 (by decide))
  have fr1513 : fs g [3, 4, 5, 6, 7, 8, 9] I I1509 := fs_tr fr1502 (fs_mono fqI1509 (by decide))
  have fr1514 : fz 49 g [] J J1510 := fz_tr fr1503 (fz_mono fjI1509 (by decide))
  have e1515 : I1509 (ad g 0) 16 = v1508 := by rw [sI1509_0_16]; exact ev1508
  have e1516 : I1509 (ad g 0) 1 = L := hI1509.1.2
  have b1517 := BT_get hI1509.1.1 0 1 2 (0) (0) (900) (by decide) 1 (by decide) (by decide)
  rw [e1516] at b1517
  obtain ⟨w1518, ew1518⟩ : ∃ w : Int32, I1509 (ad g 0) 4 = w := ⟨_, rfl⟩
  have bw1518 := BT_get hI1509.1.1 0 4 5 (0) (0) (900) (by decide) 4 (by decide) (by decide)
  rw [ew1518] at bw1518
  obtain ⟨w1519, ew1519⟩ : ∃ w : Int32, I1509 (ad g 0) 2 = w := ⟨_, rfl⟩
  have bw1519 := BT_get hI1509.1.1 0 2 3 (0) (0) (900) (by decide) 2 (by decide) (by decide)
  rw [ew1519] at bw1519
  rw [ew1518, ew1519] at pI1509
  obtain ⟨w1520, ew1520⟩ : ∃ w : Int32, I1509 (ad g 0) 7 = w := ⟨_, rfl⟩
  have bw1520 := BT_get hI1509.1.1 0 7 8 (-1) (0) (1000) (by decide) 7 (by decide) (by decide)
  rw [ew1520] at bw1520
  rw [ew1520] at cv1511
  refine WQ_if_ne 21 dX11_readPrices_16 rfl (fun c1520 => ?_) (fun c1520 => ?_)
  · refine WP_aload_n dX11_readPrices_21 rfl ?_
    refine WQ_getim dX11_readPrices_22 fX11_56 rfl (ly_is hy 0 11 rfl) ew1520 ?_
    refine WP_istore_n (ls' := [(0, _), (1, _)]) dX11_readPrices_25 (by decide) rfl ?_
    refine WP_aload_n dX11_readPrices_26 rfl ?_
    refine WQ_iconst (0) (0) dX11_readPrices_27 rfl rfl (fun v1522 hv1522 => ?_)
    refine WQ_bipush (6) (6) dX11_readPrices_28 rfl rfl (fun v1523 hv1523 => ?_)
    refine WP_callV2 (k := 11) dX11_readPrices_30 ⟨⟨⟨by decide, by decide⟩, zX11_peek⟩, lX11_59, by decide, rfl, vX11_peek.1, vX11_peek.2⟩ (ly_is hy 0 11 rfl) (sm_peek hy hr hI1509 v1522 v1523 (by omega) (by omega) (by omega) (by omega) (by rw [ew1518, ew1519]; omega)) (Nat.le_of_ble_eq_true rfl) ?_
    intro r I1524 J1525 Ra hq
    obtain ⟨⟨hI1524, ec, fiI1524, fjI1524, fqI1524, ⟨pI1524, sI1524_0_15, sI1524_0_16⟩⟩, v1526, rfl, av1526, bv1526, cv1526⟩ := hq
    show WP _ _ _ _ (.int _ :: _) _ _ _ _
    rw [ec]
    clear ec Ra
    have fr1527 : fz 49 g [0, 28, 34] I I1524 := fz_tr fr1512 (fz_mono fiI1524 (by decide))
    have fr1528 : fs g [3, 4, 5, 6, 7, 8, 9] I I1524 := fs_tr fr1513 (fs_mono fqI1524 (by decide))
    have fr1529 : fz 49 g [] J J1525 := fz_tr fr1514 (fz_mono fjI1524 (by decide))
    have e1530 : I1524 (ad g 0) 16 = v1508 := by rw [sI1524_0_16]; exact e1515
    have e1531 : I1524 (ad g 0) 1 = L := hI1524.1.2
    have b1532 := BT_get hI1524.1.1 0 1 2 (0) (0) (900) (by decide) 1 (by decide) (by decide)
    rw [e1531] at b1532
    obtain ⟨w1533, ew1533⟩ : ∃ w : Int32, I1524 (ad g 0) 4 = w := ⟨_, rfl⟩
    have bw1533 := BT_get hI1524.1.1 0 4 5 (0) (0) (900) (by decide) 4 (by decide) (by decide)
    rw [ew1533] at bw1533
    obtain ⟨w1534, ew1534⟩ : ∃ w : Int32, I1524 (ad g 0) 2 = w := ⟨_, rfl⟩
    have bw1534 := BT_get hI1524.1.1 0 2 3 (0) (0) (900) (by decide) 2 (by decide) (by decide)
    rw [ew1534] at bw1534
    rw [ew1533, ew1534] at pI1524
    obtain ⟨w1535, ew1535⟩ : ∃ w : Int32, I1524 (ad g 0) 7 = w := ⟨_, rfl⟩
    have bw1535 := BT_get hI1524.1.1 0 7 8 (-1) (0) (1000) (by decide) 7 (by decide) (by decide)
    rw [ew1535] at bw1535
    rw [ew1535] at cv1526
    refine WQ_if_ne 38 dX11_readPrices_33 rfl (fun c1535 => ?_) (fun c1535 => ?_)
    · refine WP_aload_n dX11_readPrices_38 rfl ?_
      refine WP_getr dX11_readPrices_39 fX11_138 rfl (ly_is hy 0 11 rfl) (rf hr 0 53 34 (by decide)) ?_
      refine WP_iload_n dX11_readPrices_42 rfl ?_
      refine WQ_ialdu dX11_readPrices_43 (ly_is hy 34 13 rfl) (ly_n hy 34 3 rfl) (by omega) (by omega) (fun v1537 => ?_)
      refine WP_aload_n dX11_readPrices_44 rfl ?_
      refine WQ_getim dX11_readPrices_45 fX11_56 rfl (ly_is hy 0 11 rfl) ew1535 ?_
      refine WQ_ishru dX11_readPrices_48 (fun v1538 => ?_)
      refine WQ_iconst (1) (1) dX11_readPrices_49 rfl rfl (fun v1539 hv1539 => ?_)
      refine WQ_iandu dX11_readPrices_50 (fun v1540 => ?_)
      refine WQ_iconst (1) (1) dX11_readPrices_51 rfl rfl (fun v1541 hv1541 => ?_)
      refine WQ_icmp_ne 61 dX11_readPrices_52 rfl (fun c1541 => ?_) (fun c1541 => ?_)
      · refine WP_aload_n dX11_readPrices_61 rfl ?_
        refine WP_getr dX11_readPrices_62 fX11_138 rfl (ly_is hy 0 11 rfl) (rf hr 0 53 34 (by decide)) ?_
        refine WP_iload_n dX11_readPrices_65 rfl ?_
        refine WP_dup2 dX11_readPrices_66 rfl rfl ?_
        refine WQ_ialdu dX11_readPrices_67 (ly_is hy 34 13 rfl) (ly_n hy 34 3 rfl) (by omega) (by omega) (fun v1543 => ?_)
        refine WQ_iconst (1) (1) dX11_readPrices_68 rfl rfl (fun v1544 hv1544 => ?_)
        refine WP_aload_n dX11_readPrices_69 rfl ?_
        refine WQ_getim dX11_readPrices_70 fX11_56 rfl (ly_is hy 0 11 rfl) ew1535 ?_
        refine WQ_ishlu dX11_readPrices_73 (fun v1545 => ?_)
        refine WQ_ioru dX11_readPrices_74 (fun v1546 => ?_)
        refine WQ_iast dX11_readPrices_75 (ly_is hy 34 13 rfl) (ly_n hy 34 3 rfl) (by omega) (by omega) (fun I1547 eI1547 => ?_)
        have hI1547 : MP g n L I1547 := by rw [eI1547]; exact (mp_w hy hI1524 (c := 34) (mi_r0 hy hI1524.1 (c := 34) (by decide) (Or.inl (by decide)) (by decide)) (by decide) (by decide) (Or.inl (by decide)))
        have e1548 : I1547 (ad g 0) 16 = v1508 := by rw [eI1547, pp_ne _ _ (Or.inl (ly_ne hy (by decide) (by decide) (by decide)))]; exact e1530
        have e1549 : I1547 (ad g 0) 1 = L := by rw [eI1547, pp_ne _ _ (Or.inl (ly_ne hy (by decide) (by decide) (by decide)))]; exact e1531
        have e1550 : I1547 (ad g 0) 4 = w1533 := by rw [eI1547, pp_ne _ _ (Or.inl (ly_ne hy (by decide) (by decide) (by decide)))]; exact ew1533
        have e1551 : I1547 (ad g 0) 2 = w1534 := by rw [eI1547, pp_ne _ _ (Or.inl (ly_ne hy (by decide) (by decide) (by decide)))]; exact ew1534
        have e1552 : I1547 (ad g 0) 7 = w1535 := by rw [eI1547, pp_ne _ _ (Or.inl (ly_ne hy (by decide) (by decide) (by decide)))]; exact ew1535
        have fr1553 : fs g [3, 4, 5, 6, 7, 8, 9] I I1547 := by rw [eI1547]; exact fs_ppn hy fr1528 (by decide) (by decide)
        have fr1554 : fz 49 g [0, 28, 34] I I1547 := by rw [eI1547]; exact fzm_pp hy fr1527 (by decide) (by decide)
        clear eI1547
        refine WQ_bipush (7) (7) dX11_readPrices_76 rfl rfl (fun v1555 hv1555 => ?_)
        refine WP_iload_n dX11_readPrices_78 rfl ?_
        refine WQ_imulK (7) dX11_readPrices_79 hv1555 (by omega) (by omega) (fun v1556 hv1556 => ?_)
        refine WP_aload_n dX11_readPrices_80 rfl ?_
        refine WQ_getim dX11_readPrices_81 fX11_56 rfl (ly_is hy 0 11 rfl) e1552 ?_
        refine WQ_iadd dX11_readPrices_84 (by omega) (by omega) (fun v1557 hv1557 => ?_)
        refine WP_istore_n (ls' := [(0, _), (1, _), (2, _)]) dX11_readPrices_85 (by decide) rfl ?_
        refine WP_aload_n dX11_readPrices_86 rfl ?_
        refine WP_callV0 (k := 11) dX11_readPrices_87 ⟨⟨⟨by decide, by decide⟩, zX11_scan⟩, lX11_63, by decide, rfl, vX11_scan.1, vX11_scan.2⟩ (ly_is hy 0 11 rfl) (sm_scan hy hr hI1547   (by rw [e1550, e1551]; omega)) (Nat.le_of_ble_eq_true rfl) ?_
        intro r I1558 J1559 Ra hq
        obtain ⟨⟨hI1558, ec, fiI1558, fjI1558, fqI1558, ⟨pI1558, sI1558_0_7, sI1558_0_15, sI1558_0_16⟩⟩, rfl⟩ := hq
        rw [ec]
        clear ec Ra
        have fr1560 : fz 49 g [0, 28, 34] I I1558 := fz_tr fr1554 (fz_mono fiI1558 (by decide))
        have fr1561 : fs g [3, 4, 5, 6, 7, 8, 9] I I1558 := fs_tr fr1553 (fs_mono fqI1558 (by decide))
        have fr1562 : fz 49 g [] J J1559 := fz_tr fr1529 (fz_mono fjI1558 (by decide))
        have e1563 : I1558 (ad g 0) 7 = w1535 := by rw [sI1558_0_7]; exact e1552
        have e1564 : I1558 (ad g 0) 16 = v1508 := by rw [sI1558_0_16]; exact e1548
        have e1565 : I1558 (ad g 0) 1 = L := hI1558.1.2
        have b1566 := BT_get hI1558.1.1 0 1 2 (0) (0) (900) (by decide) 1 (by decide) (by decide)
        rw [e1565] at b1566
        obtain ⟨w1567, ew1567⟩ : ∃ w : Int32, I1558 (ad g 0) 4 = w := ⟨_, rfl⟩
        have bw1567 := BT_get hI1558.1.1 0 4 5 (0) (0) (900) (by decide) 4 (by decide) (by decide)
        rw [ew1567] at bw1567
        obtain ⟨w1568, ew1568⟩ : ∃ w : Int32, I1558 (ad g 0) 2 = w := ⟨_, rfl⟩
        have bw1568 := BT_get hI1558.1.1 0 2 3 (0) (0) (900) (by decide) 2 (by decide) (by decide)
        rw [ew1568] at bw1568
        rw [ew1567, ew1568] at pI1558
        refine WP_aload_n dX11_readPrices_90 rfl ?_
        refine WQ_iconst (1) (1) dX11_readPrices_91 rfl rfl (fun v1569 hv1569 => ?_)
        refine WQ_bipush (20) (20) dX11_readPrices_92 rfl rfl (fun v1570 hv1570 => ?_)
        refine WP_callV2 (k := 11) dX11_readPrices_94 ⟨⟨⟨by decide, by decide⟩, zX11_number⟩, lX11_81, by decide, rfl, vX11_number.1, vX11_number.2⟩ (ly_is hy 0 11 rfl) (sm_number hy hr hI1558 v1569 v1570 (by omega) (by omega) (by omega) (by omega) (by rw [ew1567, ew1568]; omega)) (Nat.le_of_ble_eq_true rfl) ?_
        intro r I1571 J1572 Ra hq
        obtain ⟨⟨hI1571, ec, fiI1571, fjI1571, fqI1571, ⟨pI1571, sI1571_0_15, sI1571_0_16⟩⟩, v1573, rfl, av1573, bv1573, cv1573⟩ := hq
        show WP _ _ _ _ (.int _ :: _) _ _ _ _
        rw [ec]
        clear ec Ra
        have fr1574 : fz 49 g [0, 28, 34] I I1571 := fz_tr fr1560 (fz_mono fiI1571 (by decide))
        have fr1575 : fs g [3, 4, 5, 6, 7, 8, 9] I I1571 := fs_tr fr1561 (fs_mono fqI1571 (by decide))
        have fr1576 : fz 49 g [] J J1572 := fz_tr fr1562 (fz_mono fjI1571 (by decide))
        have e1577 : I1571 (ad g 0) 16 = v1508 := by rw [sI1571_0_16]; exact e1564
        have e1578 : I1571 (ad g 0) 1 = L := hI1571.1.2
        have b1579 := BT_get hI1571.1.1 0 1 2 (0) (0) (900) (by decide) 1 (by decide) (by decide)
        rw [e1578] at b1579
        obtain ⟨w1580, ew1580⟩ : ∃ w : Int32, I1571 (ad g 0) 4 = w := ⟨_, rfl⟩
        have bw1580 := BT_get hI1571.1.1 0 4 5 (0) (0) (900) (by decide) 4 (by decide) (by decide)
        rw [ew1580] at bw1580
        obtain ⟨w1581, ew1581⟩ : ∃ w : Int32, I1571 (ad g 0) 2 = w := ⟨_, rfl⟩
        have bw1581 := BT_get hI1571.1.1 0 2 3 (0) (0) (900) (by decide) 2 (by decide) (by decide)
        rw [ew1581] at bw1581
        rw [ew1580, ew1581] at pI1571
        obtain ⟨w1582, ew1582⟩ : ∃ w : Int32, I1571 (ad g 0) 7 = w := ⟨_, rfl⟩
        have bw1582 := BT_get hI1571.1.1 0 7 8 (-1) (0) (1000) (by decide) 7 (by decide) (by decide)
        rw [ew1582] at bw1582
        rw [ew1582] at cv1573
        refine WQ_if_ne 102 dX11_readPrices_97 rfl (fun c1582 => ?_) (fun c1582 => ?_)
        · refine WP_aload_n dX11_readPrices_102 rfl ?_
          refine WP_getr dX11_readPrices_103 fX11_141 rfl (ly_is hy 0 11 rfl) (rf hr 0 46 28 (by decide)) ?_
          refine WP_iload_n dX11_readPrices_106 rfl ?_
          refine WP_aload_n dX11_readPrices_107 rfl ?_
          refine WQ_getim dX11_readPrices_108 fX11_56 rfl (ly_is hy 0 11 rfl) ew1582 ?_
          refine WQ_iast dX11_readPrices_111 (ly_is hy 28 13 rfl) (ly_n hy 28 21 rfl) (by omega) (by omega) (fun I1584 eI1584 => ?_)
          have hI1584 : MP g n L I1584 := by rw [eI1584]; exact (mp_w hy hI1571 (c := 28) (mi_r hy hI1571.1 (c := 28) (0) (0) (20) (by decide) (Or.inl (by decide)) (by decide) (by omega) (by omega)) (by decide) (by decide) (Or.inl (by decide)))
          have e1585 : I1584 (ad g 0) 16 = v1508 := by rw [eI1584, pp_ne _ _ (Or.inl (ly_ne hy (by decide) (by decide) (by decide)))]; exact e1577
          have e1586 : I1584 (ad g 0) 1 = L := by rw [eI1584, pp_ne _ _ (Or.inl (ly_ne hy (by decide) (by decide) (by decide)))]; exact e1578
          have e1587 : I1584 (ad g 0) 4 = w1580 := by rw [eI1584, pp_ne _ _ (Or.inl (ly_ne hy (by decide) (by decide) (by decide)))]; exact ew1580
          have e1588 : I1584 (ad g 0) 2 = w1581 := by rw [eI1584, pp_ne _ _ (Or.inl (ly_ne hy (by decide) (by decide) (by decide)))]; exact ew1581
          have e1589 : I1584 (ad g 0) 7 = w1582 := by rw [eI1584, pp_ne _ _ (Or.inl (ly_ne hy (by decide) (by decide) (by decide)))]; exact ew1582
          have fr1590 : fs g [3, 4, 5, 6, 7, 8, 9] I I1584 := by rw [eI1584]; exact fs_ppn hy fr1575 (by decide) (by decide)
          have fr1591 : fz 49 g [0, 28, 34] I I1584 := by rw [eI1584]; exact fzm_pp hy fr1574 (by decide) (by decide)
          clear eI1584
          refine WQ_iconst (1) (1) dX11_readPrices_112 rfl rfl (fun v1592 hv1592 => ?_)
          exact WP_zret dX11_readPrices_113 rfl (nar_z (by omega)) ⟨⟨hI1584, rfl, fr1591, fr1576, fr1590, (by rw [e1587, e1588]; omega)⟩, _, rfl, by omega, by omega⟩
        · refine WQ_iconst (0) (0) dX11_readPrices_100 rfl rfl (fun v1593 hv1593 => ?_)
          exact WP_zret dX11_readPrices_101 rfl (nar_z (by omega)) ⟨⟨hI1571, rfl, fr1574, fr1576, fr1575, (by rw [ew1580, ew1581]; omega)⟩, _, rfl, by omega, by omega⟩
      · refine WP_aload_n dX11_readPrices_55 rfl ?_
        refine WQ_iconst (3) (3) dX11_readPrices_56 rfl rfl (fun v1594 hv1594 => ?_)
        refine WP_callV1 (k := 11) dX11_readPrices_57 ⟨⟨⟨by decide, by decide⟩, zX11_bad⟩, lX11_49, by decide, rfl, vX11_bad.1, vX11_bad.2⟩ (ly_is hy 0 11 rfl) (sm_bad2 hy hr hI1524 v1594  (by rw [ew1533, ew1534]; omega)) (Nat.le_of_ble_eq_true rfl) ?_
        intro r I1595 J1596 Ra hq
        obtain ⟨⟨hI1595, ec, fiI1595, fjI1595, fqI1595, ⟨pI1595, sI1595_0_15, sI1595_0_16⟩⟩, v1597, rfl, av1597, bv1597⟩ := hq
        show WP _ _ _ _ (.int _ :: _) _ _ _ _
        rw [ec]
        clear ec Ra
        have fr1598 : fz 49 g [0, 28, 34] I I1595 := fz_tr fr1527 (fz_mono fiI1595 (by decide))
        have fr1599 : fs g [3, 4, 5, 6, 7, 8, 9] I I1595 := fs_tr fr1528 (fs_mono fqI1595 (by decide))
        have fr1600 : fz 49 g [] J J1596 := fz_tr fr1529 (fz_mono fjI1595 (by decide))
        have e1601 : I1595 (ad g 0) 16 = v1508 := by rw [sI1595_0_16]; exact e1530
        have e1602 : I1595 (ad g 0) 1 = L := hI1595.1.2
        have b1603 := BT_get hI1595.1.1 0 1 2 (0) (0) (900) (by decide) 1 (by decide) (by decide)
        rw [e1602] at b1603
        obtain ⟨w1604, ew1604⟩ : ∃ w : Int32, I1595 (ad g 0) 4 = w := ⟨_, rfl⟩
        have bw1604 := BT_get hI1595.1.1 0 4 5 (0) (0) (900) (by decide) 4 (by decide) (by decide)
        rw [ew1604] at bw1604
        obtain ⟨w1605, ew1605⟩ : ∃ w : Int32, I1595 (ad g 0) 2 = w := ⟨_, rfl⟩
        have bw1605 := BT_get hI1595.1.1 0 2 3 (0) (0) (900) (by decide) 2 (by decide) (by decide)
        rw [ew1605] at bw1605
        rw [ew1604, ew1605] at pI1595
        exact WP_zret dX11_readPrices_60 rfl (nar_z (by omega)) ⟨⟨hI1595, rfl, fr1598, fr1600, fr1599, (by rw [ew1604, ew1605]; omega)⟩, _, rfl, by omega, by omega⟩
    · refine WQ_iconst (0) (0) dX11_readPrices_36 rfl rfl (fun v1606 hv1606 => ?_)
      exact WP_zret dX11_readPrices_37 rfl (nar_z (by omega)) ⟨⟨hI1524, rfl, fr1527, fr1529, fr1528, (by rw [ew1533, ew1534]; omega)⟩, _, rfl, by omega, by omega⟩
  · refine WQ_iconst (0) (0) dX11_readPrices_19 rfl rfl (fun v1607 hv1607 => ?_)
    exact WP_zret dX11_readPrices_20 rfl (nar_z (by omega)) ⟨⟨hI1509, rfl, fr1512, fr1514, fr1513, (by rw [ew1518, ew1519]; omega)⟩, _, rfl, by omega, by omega⟩
set_option maxHeartbeats 4000000 in
set_option maxRecDepth 100000 in
theorem sm_readMakes {g : GG} {n : Int} {L : Int32} (hy : Ly g)  {I : pI} {J : pJ} {R : pR} (hr : Rf g R) (hI : MP g n L I)   (hb : (I (ad g 0) 4).toInt ≤ (I (ad g 0) 2).toInt) : SP g mX11_readMakes [.ref (ad g 0)] I J R (fun r I' J' R' => (MP g n L I' ∧ R' = R ∧ fz 49 g [0, 29] I I' ∧ fz 49 g [] J J' ∧ fs g [3, 4, 5, 6, 7, 8, 9] I I' ∧ (I' (ad g 0) 4).toInt ≤ (I' (ad g 0) 2).toInt) ∧ ∃ v : Int32, r = some (.int v) ∧ 0 ≤ v.toInt ∧ v.toInt ≤ 1) := by
  refine SP_of ⟨by decide, rfl⟩ (Nat.le_of_ble_eq_true rfl) ?_
  have e1608 : I (ad g 0) 1 = L := hI.1.2
  have b1609 := BT_get hI.1.1 0 1 2 (0) (0) (900) (by decide) 1 (by decide) (by decide)
  rw [e1608] at b1609
  have fr0 : fz 49 g [0, 29] I I := fz_rf
  have frj0 : fz 49 g [] J J := fz_rf
  have frq0 : fs g [3, 4, 5, 6, 7, 8, 9] I I := fs_rf
  obtain ⟨w1610, ew1610⟩ : ∃ w : Int32, I (ad g 0) 4 = w := ⟨_, rfl⟩
  have bw1610 := BT_get hI.1.1 0 4 5 (0) (0) (900) (by decide) 4 (by decide) (by decide)
  rw [ew1610] at bw1610
  obtain ⟨w1611, ew1611⟩ : ∃ w : Int32, I (ad g 0) 2 = w := ⟨_, rfl⟩
  have bw1611 := BT_get hI.1.1 0 2 3 (0) (0) (900) (by decide) 2 (by decide) (by decide)
  rw [ew1611] at bw1611
  rw [ew1610, ew1611] at hb
  refine WP_aload_n dX11_readMakes_0 rfl ?_
  refine WP_callV0 (k := 11) dX11_readMakes_1 ⟨⟨⟨by decide, by decide⟩, zX11_scan⟩, lX11_63, by decide, rfl, vX11_scan.1, vX11_scan.2⟩ (ly_is hy 0 11 rfl) (sm_scan hy hr hI   (by rw [ew1610, ew1611]; omega)) (Nat.le_of_ble_eq_true rfl) ?_
  intro r I1612 J1613 Ra hq
  obtain ⟨⟨hI1612, ec, fiI1612, fjI1612, fqI1612, ⟨pI1612, sI1612_0_7, sI1612_0_15, sI1612_0_16⟩⟩, rfl⟩ := hq
  rw [ec]
  clear ec Ra
  have fr1614 : fz 49 g [0, 29] I I1612 := fz_tr fr0 (fz_mono fiI1612 (by decide))
  have fr1615 : fs g [3, 4, 5, 6, 7, 8, 9] I I1612 := fs_tr frq0 (fs_mono fqI1612 (by decide))
  have fr1616 : fz 49 g [] J J1613 := fz_tr frj0 (fz_mono fjI1612 (by decide))
  have e1617 : I1612 (ad g 0) 1 = L := hI1612.1.2
  have b1618 := BT_get hI1612.1.1 0 1 2 (0) (0) (900) (by decide) 1 (by decide) (by decide)
  rw [e1617] at b1618
  obtain ⟨w1619, ew1619⟩ : ∃ w : Int32, I1612 (ad g 0) 4 = w := ⟨_, rfl⟩
  have bw1619 := BT_get hI1612.1.1 0 4 5 (0) (0) (900) (by decide) 4 (by decide) (by decide)
  rw [ew1619] at bw1619
  obtain ⟨w1620, ew1620⟩ : ∃ w : Int32, I1612 (ad g 0) 2 = w := ⟨_, rfl⟩
  have bw1620 := BT_get hI1612.1.1 0 2 3 (0) (0) (900) (by decide) 2 (by decide) (by decide)
  rw [ew1620] at bw1620
  rw [ew1619, ew1620] at pI1612
  refine WP_aload_n dX11_readMakes_4 rfl ?_
  refine WP_aload_n dX11_readMakes_5 rfl ?_
  refine WP_getr dX11_readMakes_6 fX11_129 rfl (ly_is hy 0 11 rfl) (rf hr 0 23 5 (by decide)) ?_
  refine WP_aload_n dX11_readMakes_9 rfl ?_
  refine WQ_geti dX11_readMakes_10 fX11_126 rfl (ly_is hy 0 11 rfl) (BT_get hI1612.1.1 0 16 17 (0) (0) (3) (by decide) 16 (by decide) (by decide)) (fun v1621 ev1621 av1621 bv1621 => ?_)
  refine WP_callV2 (k := 11) dX11_readMakes_13 ⟨⟨⟨by decide, by decide⟩, zX11_known⟩, lX11_147, by decide, rfl, vX11_known.1, vX11_known.2⟩ (ly_is hy 0 11 rfl) (sm_known_5 hy hr hI1612 v1621 (by omega) (by omega) (by rw [ew1619, ew1620]; omega)) (Nat.le_of_ble_eq_true rfl) ?_
  intro r I1622 J1623 Ra hq
  obtain ⟨⟨hI1622, ec, fiI1622, fjI1622, fqI1622, ⟨pI1622, sI1622_0_15, sI1622_0_16⟩⟩, v1624, rfl, av1624, bv1624, cv1624⟩ := hq
  show WP _ _ _ _ (.int _ :: _) _ _ _ _
  rw [ec]
  clear ec Ra
  have fr1625 : fz 49 g [0, 29] I I1622 := fz_tr fr1614 (fz_mono fiI1622 (by decide))
  have fr1626 : fs g [3, 4, 5, 6, 7, 8, 9] I I1622 := fs_tr fr1615 (fs_mono fqI1622 (by decide))
  have fr1627 : fz 49 g [] J J1623 := fz_tr fr1616 (fz_mono fjI1622 (by decide))
  have e1628 : I1622 (ad g 0) 16 = v1621 := by rw [sI1622_0_16]; exact ev1621
  have e1629 : I1622 (ad g 0) 1 = L := hI1622.1.2
  have b1630 := BT_get hI1622.1.1 0 1 2 (0) (0) (900) (by decide) 1 (by decide) (by decide)
  rw [e1629] at b1630
  obtain ⟨w1631, ew1631⟩ : ∃ w : Int32, I1622 (ad g 0) 4 = w := ⟨_, rfl⟩
  have bw1631 := BT_get hI1622.1.1 0 4 5 (0) (0) (900) (by decide) 4 (by decide) (by decide)
  rw [ew1631] at bw1631
  obtain ⟨w1632, ew1632⟩ : ∃ w : Int32, I1622 (ad g 0) 2 = w := ⟨_, rfl⟩
  have bw1632 := BT_get hI1622.1.1 0 2 3 (0) (0) (900) (by decide) 2 (by decide) (by decide)
  rw [ew1632] at bw1632
  rw [ew1631, ew1632] at pI1622
  obtain ⟨w1633, ew1633⟩ : ∃ w : Int32, I1622 (ad g 0) 7 = w := ⟨_, rfl⟩
  have bw1633 := BT_get hI1622.1.1 0 7 8 (-1) (0) (1000) (by decide) 7 (by decide) (by decide)
  rw [ew1633] at bw1633
  rw [ew1633] at cv1624
  refine WQ_if_ne 21 dX11_readMakes_16 rfl (fun c1633 => ?_) (fun c1633 => ?_)
  · refine WP_aload_n dX11_readMakes_21 rfl ?_
    refine WQ_getim dX11_readMakes_22 fX11_56 rfl (ly_is hy 0 11 rfl) ew1633 ?_
    refine WP_istore_n (ls' := [(0, _), (1, _)]) dX11_readMakes_25 (by decide) rfl ?_
    refine WP_aload_n dX11_readMakes_26 rfl ?_
    refine WQ_iconst (0) (0) dX11_readMakes_27 rfl rfl (fun v1635 hv1635 => ?_)
    refine WQ_bipush (6) (6) dX11_readMakes_28 rfl rfl (fun v1636 hv1636 => ?_)
    refine WP_callV2 (k := 11) dX11_readMakes_30 ⟨⟨⟨by decide, by decide⟩, zX11_peek⟩, lX11_59, by decide, rfl, vX11_peek.1, vX11_peek.2⟩ (ly_is hy 0 11 rfl) (sm_peek hy hr hI1622 v1635 v1636 (by omega) (by omega) (by omega) (by omega) (by rw [ew1631, ew1632]; omega)) (Nat.le_of_ble_eq_true rfl) ?_
    intro r I1637 J1638 Ra hq
    obtain ⟨⟨hI1637, ec, fiI1637, fjI1637, fqI1637, ⟨pI1637, sI1637_0_15, sI1637_0_16⟩⟩, v1639, rfl, av1639, bv1639, cv1639⟩ := hq
    show WP _ _ _ _ (.int _ :: _) _ _ _ _
    rw [ec]
    clear ec Ra
    have fr1640 : fz 49 g [0, 29] I I1637 := fz_tr fr1625 (fz_mono fiI1637 (by decide))
    have fr1641 : fs g [3, 4, 5, 6, 7, 8, 9] I I1637 := fs_tr fr1626 (fs_mono fqI1637 (by decide))
    have fr1642 : fz 49 g [] J J1638 := fz_tr fr1627 (fz_mono fjI1637 (by decide))
    have e1643 : I1637 (ad g 0) 16 = v1621 := by rw [sI1637_0_16]; exact e1628
    have e1644 : I1637 (ad g 0) 1 = L := hI1637.1.2
    have b1645 := BT_get hI1637.1.1 0 1 2 (0) (0) (900) (by decide) 1 (by decide) (by decide)
    rw [e1644] at b1645
    obtain ⟨w1646, ew1646⟩ : ∃ w : Int32, I1637 (ad g 0) 4 = w := ⟨_, rfl⟩
    have bw1646 := BT_get hI1637.1.1 0 4 5 (0) (0) (900) (by decide) 4 (by decide) (by decide)
    rw [ew1646] at bw1646
    obtain ⟨w1647, ew1647⟩ : ∃ w : Int32, I1637 (ad g 0) 2 = w := ⟨_, rfl⟩
    have bw1647 := BT_get hI1637.1.1 0 2 3 (0) (0) (900) (by decide) 2 (by decide) (by decide)
    rw [ew1647] at bw1647
    rw [ew1646, ew1647] at pI1637
    obtain ⟨w1648, ew1648⟩ : ∃ w : Int32, I1637 (ad g 0) 7 = w := ⟨_, rfl⟩
    have bw1648 := BT_get hI1637.1.1 0 7 8 (-1) (0) (1000) (by decide) 7 (by decide) (by decide)
    rw [ew1648] at bw1648
    rw [ew1648] at cv1639
    refine WQ_if_ne 38 dX11_readMakes_33 rfl (fun c1648 => ?_) (fun c1648 => ?_)
    · refine WQ_bipush (7) (7) dX11_readMakes_38 rfl rfl (fun v1650 hv1650 => ?_)
      refine WP_iload_n dX11_readMakes_40 rfl ?_
      refine WQ_imulK (7) dX11_readMakes_41 hv1650 (by omega) (by omega) (fun v1651 hv1651 => ?_)
      refine WP_aload_n dX11_readMakes_42 rfl ?_
      refine WQ_getim dX11_readMakes_43 fX11_56 rfl (ly_is hy 0 11 rfl) ew1648 ?_
      refine WQ_iadd dX11_readMakes_46 (by omega) (by omega) (fun v1652 hv1652 => ?_)
      refine WP_istore_n (ls' := [(0, _), (1, _), (2, _)]) dX11_readMakes_47 (by decide) rfl ?_
      refine WP_aload_n dX11_readMakes_48 rfl ?_
      refine WP_getr dX11_readMakes_49 fX11_144 rfl (ly_is hy 0 11 rfl) (rf hr 0 47 29 (by decide)) ?_
      refine WP_iload_n dX11_readMakes_52 rfl ?_
      refine WQ_iald dX11_readMakes_53 (ly_is hy 29 13 rfl) (ly_n hy 29 21 rfl) (by omega) (by omega) (fun q hq => BT_get hI1637.1.1 29 0 21 (-1) (0) (999) (by decide) q (Nat.zero_le _) hq) (fun v1653 av1653 bv1653 ev1653 => ?_)
      clear ev1653
      refine WQ_iconst (-1) (-1) dX11_readMakes_54 rfl rfl (fun v1654 hv1654 => ?_)
      refine WQ_icmp_eq 64 dX11_readMakes_55 rfl (fun c1654 => ?_) (fun c1654 => ?_)
      · refine WP_aload_n dX11_readMakes_64 rfl ?_
        refine WP_callV0 (k := 11) dX11_readMakes_65 ⟨⟨⟨by decide, by decide⟩, zX11_scan⟩, lX11_63, by decide, rfl, vX11_scan.1, vX11_scan.2⟩ (ly_is hy 0 11 rfl) (sm_scan hy hr hI1637   (by rw [ew1646, ew1647]; omega)) (Nat.le_of_ble_eq_true rfl) ?_
        intro r I1656 J1657 Ra hq
        obtain ⟨⟨hI1656, ec, fiI1656, fjI1656, fqI1656, ⟨pI1656, sI1656_0_7, sI1656_0_15, sI1656_0_16⟩⟩, rfl⟩ := hq
        rw [ec]
        clear ec Ra
        have fr1658 : fz 49 g [0, 29] I I1656 := fz_tr fr1640 (fz_mono fiI1656 (by decide))
        have fr1659 : fs g [3, 4, 5, 6, 7, 8, 9] I I1656 := fs_tr fr1641 (fs_mono fqI1656 (by decide))
        have fr1660 : fz 49 g [] J J1657 := fz_tr fr1642 (fz_mono fjI1656 (by decide))
        have e1661 : I1656 (ad g 0) 7 = w1648 := by rw [sI1656_0_7]; exact ew1648
        have e1662 : I1656 (ad g 0) 16 = v1621 := by rw [sI1656_0_16]; exact e1643
        have e1663 : I1656 (ad g 0) 1 = L := hI1656.1.2
        have b1664 := BT_get hI1656.1.1 0 1 2 (0) (0) (900) (by decide) 1 (by decide) (by decide)
        rw [e1663] at b1664
        obtain ⟨w1665, ew1665⟩ : ∃ w : Int32, I1656 (ad g 0) 4 = w := ⟨_, rfl⟩
        have bw1665 := BT_get hI1656.1.1 0 4 5 (0) (0) (900) (by decide) 4 (by decide) (by decide)
        rw [ew1665] at bw1665
        obtain ⟨w1666, ew1666⟩ : ∃ w : Int32, I1656 (ad g 0) 2 = w := ⟨_, rfl⟩
        have bw1666 := BT_get hI1656.1.1 0 2 3 (0) (0) (900) (by decide) 2 (by decide) (by decide)
        rw [ew1666] at bw1666
        rw [ew1665, ew1666] at pI1656
        refine WP_aload_n dX11_readMakes_68 rfl ?_
        refine WQ_iconst (0) (0) dX11_readMakes_69 rfl rfl (fun v1667 hv1667 => ?_)
        refine WQ_sipush (999) (999) dX11_readMakes_70 rfl rfl (fun v1668 hv1668 => ?_)
        refine WP_callV2 (k := 11) dX11_readMakes_73 ⟨⟨⟨by decide, by decide⟩, zX11_number⟩, lX11_81, by decide, rfl, vX11_number.1, vX11_number.2⟩ (ly_is hy 0 11 rfl) (sm_number hy hr hI1656 v1667 v1668 (by omega) (by omega) (by omega) (by omega) (by rw [ew1665, ew1666]; omega)) (Nat.le_of_ble_eq_true rfl) ?_
        intro r I1669 J1670 Ra hq
        obtain ⟨⟨hI1669, ec, fiI1669, fjI1669, fqI1669, ⟨pI1669, sI1669_0_15, sI1669_0_16⟩⟩, v1671, rfl, av1671, bv1671, cv1671⟩ := hq
        show WP _ _ _ _ (.int _ :: _) _ _ _ _
        rw [ec]
        clear ec Ra
        have fr1672 : fz 49 g [0, 29] I I1669 := fz_tr fr1658 (fz_mono fiI1669 (by decide))
        have fr1673 : fs g [3, 4, 5, 6, 7, 8, 9] I I1669 := fs_tr fr1659 (fs_mono fqI1669 (by decide))
        have fr1674 : fz 49 g [] J J1670 := fz_tr fr1660 (fz_mono fjI1669 (by decide))
        have e1675 : I1669 (ad g 0) 16 = v1621 := by rw [sI1669_0_16]; exact e1662
        have e1676 : I1669 (ad g 0) 1 = L := hI1669.1.2
        have b1677 := BT_get hI1669.1.1 0 1 2 (0) (0) (900) (by decide) 1 (by decide) (by decide)
        rw [e1676] at b1677
        obtain ⟨w1678, ew1678⟩ : ∃ w : Int32, I1669 (ad g 0) 4 = w := ⟨_, rfl⟩
        have bw1678 := BT_get hI1669.1.1 0 4 5 (0) (0) (900) (by decide) 4 (by decide) (by decide)
        rw [ew1678] at bw1678
        obtain ⟨w1679, ew1679⟩ : ∃ w : Int32, I1669 (ad g 0) 2 = w := ⟨_, rfl⟩
        have bw1679 := BT_get hI1669.1.1 0 2 3 (0) (0) (900) (by decide) 2 (by decide) (by decide)
        rw [ew1679] at bw1679
        rw [ew1678, ew1679] at pI1669
        obtain ⟨w1680, ew1680⟩ : ∃ w : Int32, I1669 (ad g 0) 7 = w := ⟨_, rfl⟩
        have bw1680 := BT_get hI1669.1.1 0 7 8 (-1) (0) (1000) (by decide) 7 (by decide) (by decide)
        rw [ew1680] at bw1680
        rw [ew1680] at cv1671
        refine WQ_if_ne 81 dX11_readMakes_76 rfl (fun c1680 => ?_) (fun c1680 => ?_)
        · refine WP_aload_n dX11_readMakes_81 rfl ?_
          refine WP_getr dX11_readMakes_82 fX11_144 rfl (ly_is hy 0 11 rfl) (rf hr 0 47 29 (by decide)) ?_
          refine WP_iload_n dX11_readMakes_85 rfl ?_
          refine WP_aload_n dX11_readMakes_86 rfl ?_
          refine WQ_getim dX11_readMakes_87 fX11_56 rfl (ly_is hy 0 11 rfl) ew1680 ?_
          refine WQ_iast dX11_readMakes_90 (ly_is hy 29 13 rfl) (ly_n hy 29 21 rfl) (by omega) (by omega) (fun I1682 eI1682 => ?_)
          have hI1682 : MP g n L I1682 := by rw [eI1682]; exact (mp_w hy hI1669 (c := 29) (mi_r hy hI1669.1 (c := 29) (-1) (0) (999) (by decide) (Or.inl (by decide)) (by decide) (by omega) (by omega)) (by decide) (by decide) (Or.inl (by decide)))
          have e1683 : I1682 (ad g 0) 16 = v1621 := by rw [eI1682, pp_ne _ _ (Or.inl (ly_ne hy (by decide) (by decide) (by decide)))]; exact e1675
          have e1684 : I1682 (ad g 0) 1 = L := by rw [eI1682, pp_ne _ _ (Or.inl (ly_ne hy (by decide) (by decide) (by decide)))]; exact e1676
          have e1685 : I1682 (ad g 0) 4 = w1678 := by rw [eI1682, pp_ne _ _ (Or.inl (ly_ne hy (by decide) (by decide) (by decide)))]; exact ew1678
          have e1686 : I1682 (ad g 0) 2 = w1679 := by rw [eI1682, pp_ne _ _ (Or.inl (ly_ne hy (by decide) (by decide) (by decide)))]; exact ew1679
          have e1687 : I1682 (ad g 0) 7 = w1680 := by rw [eI1682, pp_ne _ _ (Or.inl (ly_ne hy (by decide) (by decide) (by decide)))]; exact ew1680
          have fr1688 : fs g [3, 4, 5, 6, 7, 8, 9] I I1682 := by rw [eI1682]; exact fs_ppn hy fr1673 (by decide) (by decide)
          have fr1689 : fz 49 g [0, 29] I I1682 := by rw [eI1682]; exact fzm_pp hy fr1672 (by decide) (by decide)
          clear eI1682
          refine WQ_iconst (1) (1) dX11_readMakes_91 rfl rfl (fun v1690 hv1690 => ?_)
          exact WP_zret dX11_readMakes_92 rfl (nar_z (by omega)) ⟨⟨hI1682, rfl, fr1689, fr1674, fr1688, (by rw [e1685, e1686]; omega)⟩, _, rfl, by omega, by omega⟩
        · refine WQ_iconst (0) (0) dX11_readMakes_79 rfl rfl (fun v1691 hv1691 => ?_)
          exact WP_zret dX11_readMakes_80 rfl (nar_z (by omega)) ⟨⟨hI1669, rfl, fr1672, fr1674, fr1673, (by rw [ew1678, ew1679]; omega)⟩, _, rfl, by omega, by omega⟩
      · refine WP_aload_n dX11_readMakes_58 rfl ?_
        refine WQ_iconst (3) (3) dX11_readMakes_59 rfl rfl (fun v1692 hv1692 => ?_)
        refine WP_callV1 (k := 11) dX11_readMakes_60 ⟨⟨⟨by decide, by decide⟩, zX11_bad⟩, lX11_49, by decide, rfl, vX11_bad.1, vX11_bad.2⟩ (ly_is hy 0 11 rfl) (sm_bad2 hy hr hI1637 v1692  (by rw [ew1646, ew1647]; omega)) (Nat.le_of_ble_eq_true rfl) ?_
        intro r I1693 J1694 Ra hq
        obtain ⟨⟨hI1693, ec, fiI1693, fjI1693, fqI1693, ⟨pI1693, sI1693_0_15, sI1693_0_16⟩⟩, v1695, rfl, av1695, bv1695⟩ := hq
        show WP _ _ _ _ (.int _ :: _) _ _ _ _
        rw [ec]
        clear ec Ra
        have fr1696 : fz 49 g [0, 29] I I1693 := fz_tr fr1640 (fz_mono fiI1693 (by decide))
        have fr1697 : fs g [3, 4, 5, 6, 7, 8, 9] I I1693 := fs_tr fr1641 (fs_mono fqI1693 (by decide))
        have fr1698 : fz 49 g [] J J1694 := fz_tr fr1642 (fz_mono fjI1693 (by decide))
        have e1699 : I1693 (ad g 0) 16 = v1621 := by rw [sI1693_0_16]; exact e1643
        have e1700 : I1693 (ad g 0) 1 = L := hI1693.1.2
        have b1701 := BT_get hI1693.1.1 0 1 2 (0) (0) (900) (by decide) 1 (by decide) (by decide)
        rw [e1700] at b1701
        obtain ⟨w1702, ew1702⟩ : ∃ w : Int32, I1693 (ad g 0) 4 = w := ⟨_, rfl⟩
        have bw1702 := BT_get hI1693.1.1 0 4 5 (0) (0) (900) (by decide) 4 (by decide) (by decide)
        rw [ew1702] at bw1702
        obtain ⟨w1703, ew1703⟩ : ∃ w : Int32, I1693 (ad g 0) 2 = w := ⟨_, rfl⟩
        have bw1703 := BT_get hI1693.1.1 0 2 3 (0) (0) (900) (by decide) 2 (by decide) (by decide)
        rw [ew1703] at bw1703
        rw [ew1702, ew1703] at pI1693
        exact WP_zret dX11_readMakes_63 rfl (nar_z (by omega)) ⟨⟨hI1693, rfl, fr1696, fr1698, fr1697, (by rw [ew1702, ew1703]; omega)⟩, _, rfl, by omega, by omega⟩
    · refine WQ_iconst (0) (0) dX11_readMakes_36 rfl rfl (fun v1704 hv1704 => ?_)
      exact WP_zret dX11_readMakes_37 rfl (nar_z (by omega)) ⟨⟨hI1637, rfl, fr1640, fr1642, fr1641, (by rw [ew1646, ew1647]; omega)⟩, _, rfl, by omega, by omega⟩
  · refine WQ_iconst (0) (0) dX11_readMakes_19 rfl rfl (fun v1705 hv1705 => ?_)
    exact WP_zret dX11_readMakes_20 rfl (nar_z (by omega)) ⟨⟨hI1622, rfl, fr1625, fr1627, fr1626, (by rw [ew1631, ew1632]; omega)⟩, _, rfl, by omega, by omega⟩
set_option maxHeartbeats 4000000 in
set_option maxRecDepth 100000 in
theorem sm_readWants {g : GG} {n : Int} {L : Int32} (hy : Ly g)  {I : pI} {J : pJ} {R : pR} (hr : Rf g R) (hI : MP g n L I)   (hb : (I (ad g 0) 4).toInt ≤ (I (ad g 0) 2).toInt) : SP g mX11_readWants [.ref (ad g 0)] I J R (fun r I' J' R' => (MP g n L I' ∧ R' = R ∧ fz 49 g [0, 30, 31, 32] I I' ∧ fz 49 g [] J J' ∧ fs g [3, 4, 5, 6, 7, 8, 9] I I' ∧ (I' (ad g 0) 4).toInt ≤ (I' (ad g 0) 2).toInt) ∧ ∃ v : Int32, r = some (.int v) ∧ 0 ≤ v.toInt ∧ v.toInt ≤ 1) := by
  refine SP_of ⟨by decide, rfl⟩ (Nat.le_of_ble_eq_true rfl) ?_
  have e1706 : I (ad g 0) 1 = L := hI.1.2
  have b1707 := BT_get hI.1.1 0 1 2 (0) (0) (900) (by decide) 1 (by decide) (by decide)
  rw [e1706] at b1707
  have fr0 : fz 49 g [0, 30, 31, 32] I I := fz_rf
  have frj0 : fz 49 g [] J J := fz_rf
  have frq0 : fs g [3, 4, 5, 6, 7, 8, 9] I I := fs_rf
  obtain ⟨w1708, ew1708⟩ : ∃ w : Int32, I (ad g 0) 4 = w := ⟨_, rfl⟩
  have bw1708 := BT_get hI.1.1 0 4 5 (0) (0) (900) (by decide) 4 (by decide) (by decide)
  rw [ew1708] at bw1708
  obtain ⟨w1709, ew1709⟩ : ∃ w : Int32, I (ad g 0) 2 = w := ⟨_, rfl⟩
  have bw1709 := BT_get hI.1.1 0 2 3 (0) (0) (900) (by decide) 2 (by decide) (by decide)
  rw [ew1709] at bw1709
  rw [ew1708, ew1709] at hb
  refine WP_aload_n dX11_readWants_0 rfl ?_
  refine WP_callV0 (k := 11) dX11_readWants_1 ⟨⟨⟨by decide, by decide⟩, zX11_scan⟩, lX11_63, by decide, rfl, vX11_scan.1, vX11_scan.2⟩ (ly_is hy 0 11 rfl) (sm_scan hy hr hI   (by rw [ew1708, ew1709]; omega)) (Nat.le_of_ble_eq_true rfl) ?_
  intro r I1710 J1711 Ra hq
  obtain ⟨⟨hI1710, ec, fiI1710, fjI1710, fqI1710, ⟨pI1710, sI1710_0_7, sI1710_0_15, sI1710_0_16⟩⟩, rfl⟩ := hq
  rw [ec]
  clear ec Ra
  have fr1712 : fz 49 g [0, 30, 31, 32] I I1710 := fz_tr fr0 (fz_mono fiI1710 (by decide))
  have fr1713 : fs g [3, 4, 5, 6, 7, 8, 9] I I1710 := fs_tr frq0 (fs_mono fqI1710 (by decide))
  have fr1714 : fz 49 g [] J J1711 := fz_tr frj0 (fz_mono fjI1710 (by decide))
  have e1715 : I1710 (ad g 0) 1 = L := hI1710.1.2
  have b1716 := BT_get hI1710.1.1 0 1 2 (0) (0) (900) (by decide) 1 (by decide) (by decide)
  rw [e1715] at b1716
  obtain ⟨w1717, ew1717⟩ : ∃ w : Int32, I1710 (ad g 0) 4 = w := ⟨_, rfl⟩
  have bw1717 := BT_get hI1710.1.1 0 4 5 (0) (0) (900) (by decide) 4 (by decide) (by decide)
  rw [ew1717] at bw1717
  obtain ⟨w1718, ew1718⟩ : ∃ w : Int32, I1710 (ad g 0) 2 = w := ⟨_, rfl⟩
  have bw1718 := BT_get hI1710.1.1 0 2 3 (0) (0) (900) (by decide) 2 (by decide) (by decide)
  rw [ew1718] at bw1718
  rw [ew1717, ew1718] at pI1710
  refine WP_aload_n dX11_readWants_4 rfl ?_
  refine WP_aload_n dX11_readWants_5 rfl ?_
  refine WP_getr dX11_readWants_6 fX11_91 rfl (ly_is hy 0 11 rfl) (rf hr 0 22 4 (by decide)) ?_
  refine WP_aload_n dX11_readWants_9 rfl ?_
  refine WQ_geti dX11_readWants_10 fX11_88 rfl (ly_is hy 0 11 rfl) (BT_get hI1710.1.1 0 15 16 (0) (0) (4) (by decide) 15 (by decide) (by decide)) (fun v1719 ev1719 av1719 bv1719 => ?_)
  refine WP_callV2 (k := 11) dX11_readWants_13 ⟨⟨⟨by decide, by decide⟩, zX11_known⟩, lX11_147, by decide, rfl, vX11_known.1, vX11_known.2⟩ (ly_is hy 0 11 rfl) (sm_known_4 hy hr hI1710 v1719 (by omega) (by omega) (by rw [ew1717, ew1718]; omega)) (Nat.le_of_ble_eq_true rfl) ?_
  intro r I1720 J1721 Ra hq
  obtain ⟨⟨hI1720, ec, fiI1720, fjI1720, fqI1720, ⟨pI1720, sI1720_0_15, sI1720_0_16⟩⟩, v1722, rfl, av1722, bv1722, cv1722⟩ := hq
  show WP _ _ _ _ (.int _ :: _) _ _ _ _
  rw [ec]
  clear ec Ra
  have fr1723 : fz 49 g [0, 30, 31, 32] I I1720 := fz_tr fr1712 (fz_mono fiI1720 (by decide))
  have fr1724 : fs g [3, 4, 5, 6, 7, 8, 9] I I1720 := fs_tr fr1713 (fs_mono fqI1720 (by decide))
  have fr1725 : fz 49 g [] J J1721 := fz_tr fr1714 (fz_mono fjI1720 (by decide))
  have e1726 : I1720 (ad g 0) 15 = v1719 := by rw [sI1720_0_15]; exact ev1719
  have e1727 : I1720 (ad g 0) 1 = L := hI1720.1.2
  have b1728 := BT_get hI1720.1.1 0 1 2 (0) (0) (900) (by decide) 1 (by decide) (by decide)
  rw [e1727] at b1728
  obtain ⟨w1729, ew1729⟩ : ∃ w : Int32, I1720 (ad g 0) 4 = w := ⟨_, rfl⟩
  have bw1729 := BT_get hI1720.1.1 0 4 5 (0) (0) (900) (by decide) 4 (by decide) (by decide)
  rw [ew1729] at bw1729
  obtain ⟨w1730, ew1730⟩ : ∃ w : Int32, I1720 (ad g 0) 2 = w := ⟨_, rfl⟩
  have bw1730 := BT_get hI1720.1.1 0 2 3 (0) (0) (900) (by decide) 2 (by decide) (by decide)
  rw [ew1730] at bw1730
  rw [ew1729, ew1730] at pI1720
  obtain ⟨w1731, ew1731⟩ : ∃ w : Int32, I1720 (ad g 0) 7 = w := ⟨_, rfl⟩
  have bw1731 := BT_get hI1720.1.1 0 7 8 (-1) (0) (1000) (by decide) 7 (by decide) (by decide)
  rw [ew1731] at bw1731
  rw [ew1731] at cv1722
  refine WQ_if_ne 21 dX11_readWants_16 rfl (fun c1731 => ?_) (fun c1731 => ?_)
  · refine WP_aload_n dX11_readWants_21 rfl ?_
    refine WQ_getim dX11_readWants_22 fX11_56 rfl (ly_is hy 0 11 rfl) ew1731 ?_
    refine WP_istore_n (ls' := [(0, _), (1, _)]) dX11_readWants_25 (by decide) rfl ?_
    refine WP_aload_n dX11_readWants_26 rfl ?_
    refine WP_aload_n dX11_readWants_27 rfl ?_
    refine WP_getr dX11_readWants_28 fX11_129 rfl (ly_is hy 0 11 rfl) (rf hr 0 23 5 (by decide)) ?_
    refine WP_aload_n dX11_readWants_31 rfl ?_
    refine WQ_geti dX11_readWants_32 fX11_126 rfl (ly_is hy 0 11 rfl) (BT_get hI1720.1.1 0 16 17 (0) (0) (3) (by decide) 16 (by decide) (by decide)) (fun v1733 ev1733 av1733 bv1733 => ?_)
    refine WP_callV2 (k := 11) dX11_readWants_35 ⟨⟨⟨by decide, by decide⟩, zX11_known⟩, lX11_147, by decide, rfl, vX11_known.1, vX11_known.2⟩ (ly_is hy 0 11 rfl) (sm_known_5 hy hr hI1720 v1733 (by omega) (by omega) (by rw [ew1729, ew1730]; omega)) (Nat.le_of_ble_eq_true rfl) ?_
    intro r I1734 J1735 Ra hq
    obtain ⟨⟨hI1734, ec, fiI1734, fjI1734, fqI1734, ⟨pI1734, sI1734_0_15, sI1734_0_16⟩⟩, v1736, rfl, av1736, bv1736, cv1736⟩ := hq
    show WP _ _ _ _ (.int _ :: _) _ _ _ _
    rw [ec]
    clear ec Ra
    have fr1737 : fz 49 g [0, 30, 31, 32] I I1734 := fz_tr fr1723 (fz_mono fiI1734 (by decide))
    have fr1738 : fs g [3, 4, 5, 6, 7, 8, 9] I I1734 := fs_tr fr1724 (fs_mono fqI1734 (by decide))
    have fr1739 : fz 49 g [] J J1735 := fz_tr fr1725 (fz_mono fjI1734 (by decide))
    have e1740 : I1734 (ad g 0) 15 = v1719 := by rw [sI1734_0_15]; exact e1726
    have e1741 : I1734 (ad g 0) 16 = v1733 := by rw [sI1734_0_16]; exact ev1733
    have e1742 : I1734 (ad g 0) 1 = L := hI1734.1.2
    have b1743 := BT_get hI1734.1.1 0 1 2 (0) (0) (900) (by decide) 1 (by decide) (by decide)
    rw [e1742] at b1743
    obtain ⟨w1744, ew1744⟩ : ∃ w : Int32, I1734 (ad g 0) 4 = w := ⟨_, rfl⟩
    have bw1744 := BT_get hI1734.1.1 0 4 5 (0) (0) (900) (by decide) 4 (by decide) (by decide)
    rw [ew1744] at bw1744
    obtain ⟨w1745, ew1745⟩ : ∃ w : Int32, I1734 (ad g 0) 2 = w := ⟨_, rfl⟩
    have bw1745 := BT_get hI1734.1.1 0 2 3 (0) (0) (900) (by decide) 2 (by decide) (by decide)
    rw [ew1745] at bw1745
    rw [ew1744, ew1745] at pI1734
    obtain ⟨w1746, ew1746⟩ : ∃ w : Int32, I1734 (ad g 0) 7 = w := ⟨_, rfl⟩
    have bw1746 := BT_get hI1734.1.1 0 7 8 (-1) (0) (1000) (by decide) 7 (by decide) (by decide)
    rw [ew1746] at bw1746
    rw [ew1746] at cv1736
    refine WQ_if_ne 43 dX11_readWants_38 rfl (fun c1746 => ?_) (fun c1746 => ?_)
    · refine WP_aload_n dX11_readWants_43 rfl ?_
      refine WQ_getim dX11_readWants_44 fX11_56 rfl (ly_is hy 0 11 rfl) ew1746 ?_
      refine WP_istore_n (ls' := [(0, _), (1, _), (2, _)]) dX11_readWants_47 (by decide) rfl ?_
      refine WP_aload_n dX11_readWants_48 rfl ?_
      refine WQ_iconst (0) (0) dX11_readWants_49 rfl rfl (fun v1748 hv1748 => ?_)
      refine WQ_bipush (6) (6) dX11_readWants_50 rfl rfl (fun v1749 hv1749 => ?_)
      refine WP_callV2 (k := 11) dX11_readWants_52 ⟨⟨⟨by decide, by decide⟩, zX11_peek⟩, lX11_59, by decide, rfl, vX11_peek.1, vX11_peek.2⟩ (ly_is hy 0 11 rfl) (sm_peek hy hr hI1734 v1748 v1749 (by omega) (by omega) (by omega) (by omega) (by rw [ew1744, ew1745]; omega)) (Nat.le_of_ble_eq_true rfl) ?_
      intro r I1750 J1751 Ra hq
      obtain ⟨⟨hI1750, ec, fiI1750, fjI1750, fqI1750, ⟨pI1750, sI1750_0_15, sI1750_0_16⟩⟩, v1752, rfl, av1752, bv1752, cv1752⟩ := hq
      show WP _ _ _ _ (.int _ :: _) _ _ _ _
      rw [ec]
      clear ec Ra
      have fr1753 : fz 49 g [0, 30, 31, 32] I I1750 := fz_tr fr1737 (fz_mono fiI1750 (by decide))
      have fr1754 : fs g [3, 4, 5, 6, 7, 8, 9] I I1750 := fs_tr fr1738 (fs_mono fqI1750 (by decide))
      have fr1755 : fz 49 g [] J J1751 := fz_tr fr1739 (fz_mono fjI1750 (by decide))
      have e1756 : I1750 (ad g 0) 15 = v1719 := by rw [sI1750_0_15]; exact e1740
      have e1757 : I1750 (ad g 0) 16 = v1733 := by rw [sI1750_0_16]; exact e1741
      have e1758 : I1750 (ad g 0) 1 = L := hI1750.1.2
      have b1759 := BT_get hI1750.1.1 0 1 2 (0) (0) (900) (by decide) 1 (by decide) (by decide)
      rw [e1758] at b1759
      obtain ⟨w1760, ew1760⟩ : ∃ w : Int32, I1750 (ad g 0) 4 = w := ⟨_, rfl⟩
      have bw1760 := BT_get hI1750.1.1 0 4 5 (0) (0) (900) (by decide) 4 (by decide) (by decide)
      rw [ew1760] at bw1760
      obtain ⟨w1761, ew1761⟩ : ∃ w : Int32, I1750 (ad g 0) 2 = w := ⟨_, rfl⟩
      have bw1761 := BT_get hI1750.1.1 0 2 3 (0) (0) (900) (by decide) 2 (by decide) (by decide)
      rw [ew1761] at bw1761
      rw [ew1760, ew1761] at pI1750
      obtain ⟨w1762, ew1762⟩ : ∃ w : Int32, I1750 (ad g 0) 7 = w := ⟨_, rfl⟩
      have bw1762 := BT_get hI1750.1.1 0 7 8 (-1) (0) (1000) (by decide) 7 (by decide) (by decide)
      rw [ew1762] at bw1762
      rw [ew1762] at cv1752
      refine WQ_if_ne 60 dX11_readWants_55 rfl (fun c1762 => ?_) (fun c1762 => ?_)
      · refine WQ_bipush (7) (7) dX11_readWants_60 rfl rfl (fun v1764 hv1764 => ?_)
        refine WP_iload_n dX11_readWants_62 rfl ?_
        refine WQ_imulK (7) dX11_readWants_63 hv1764 (by omega) (by omega) (fun v1765 hv1765 => ?_)
        refine WP_aload_n dX11_readWants_64 rfl ?_
        refine WQ_getim dX11_readWants_65 fX11_56 rfl (ly_is hy 0 11 rfl) ew1762 ?_
        refine WQ_iadd dX11_readWants_68 (by omega) (by omega) (fun v1766 hv1766 => ?_)
        refine WP_istore_n (ls' := [(0, _), (1, _), (2, _), (3, _)]) dX11_readWants_69 (by decide) rfl ?_
        refine WP_aload_n dX11_readWants_70 rfl ?_
        refine WP_getr dX11_readWants_71 fX11_117 rfl (ly_is hy 0 11 rfl) (rf hr 0 48 30 (by decide)) ?_
        refine WP_iload_n dX11_readWants_74 rfl ?_
        refine WQ_iald dX11_readWants_75 (ly_is hy 30 13 rfl) (ly_n hy 30 28 rfl) (by omega) (by omega) (fun q hq => BT_get hI1750.1.1 30 0 28 (-1) (0) (2) (by decide) q (Nat.zero_le _) hq) (fun v1767 av1767 bv1767 ev1767 => ?_)
        clear ev1767
        refine WQ_iconst (-1) (-1) dX11_readWants_76 rfl rfl (fun v1768 hv1768 => ?_)
        refine WQ_icmp_eq 86 dX11_readWants_77 rfl (fun c1768 => ?_) (fun c1768 => ?_)
        · refine WP_aload_n dX11_readWants_86 rfl ?_
          refine WP_callV0 (k := 11) dX11_readWants_87 ⟨⟨⟨by decide, by decide⟩, zX11_scan⟩, lX11_63, by decide, rfl, vX11_scan.1, vX11_scan.2⟩ (ly_is hy 0 11 rfl) (sm_scan hy hr hI1750   (by rw [ew1760, ew1761]; omega)) (Nat.le_of_ble_eq_true rfl) ?_
          intro r I1770 J1771 Ra hq
          obtain ⟨⟨hI1770, ec, fiI1770, fjI1770, fqI1770, ⟨pI1770, sI1770_0_7, sI1770_0_15, sI1770_0_16⟩⟩, rfl⟩ := hq
          rw [ec]
          clear ec Ra
          have fr1772 : fz 49 g [0, 30, 31, 32] I I1770 := fz_tr fr1753 (fz_mono fiI1770 (by decide))
          have fr1773 : fs g [3, 4, 5, 6, 7, 8, 9] I I1770 := fs_tr fr1754 (fs_mono fqI1770 (by decide))
          have fr1774 : fz 49 g [] J J1771 := fz_tr fr1755 (fz_mono fjI1770 (by decide))
          have e1775 : I1770 (ad g 0) 7 = w1762 := by rw [sI1770_0_7]; exact ew1762
          have e1776 : I1770 (ad g 0) 15 = v1719 := by rw [sI1770_0_15]; exact e1756
          have e1777 : I1770 (ad g 0) 16 = v1733 := by rw [sI1770_0_16]; exact e1757
          have e1778 : I1770 (ad g 0) 1 = L := hI1770.1.2
          have b1779 := BT_get hI1770.1.1 0 1 2 (0) (0) (900) (by decide) 1 (by decide) (by decide)
          rw [e1778] at b1779
          obtain ⟨w1780, ew1780⟩ : ∃ w : Int32, I1770 (ad g 0) 4 = w := ⟨_, rfl⟩
          have bw1780 := BT_get hI1770.1.1 0 4 5 (0) (0) (900) (by decide) 4 (by decide) (by decide)
          rw [ew1780] at bw1780
          obtain ⟨w1781, ew1781⟩ : ∃ w : Int32, I1770 (ad g 0) 2 = w := ⟨_, rfl⟩
          have bw1781 := BT_get hI1770.1.1 0 2 3 (0) (0) (900) (by decide) 2 (by decide) (by decide)
          rw [ew1781] at bw1781
          rw [ew1780, ew1781] at pI1770
          refine WP_aload_n dX11_readWants_90 rfl ?_
          refine WQ_iconst (1) (1) dX11_readWants_91 rfl rfl (fun v1782 hv1782 => ?_)
          refine WQ_iconst (3) (3) dX11_readWants_92 rfl rfl (fun v1783 hv1783 => ?_)
          refine WP_callV2 (k := 11) dX11_readWants_93 ⟨⟨⟨by decide, by decide⟩, zX11_number⟩, lX11_81, by decide, rfl, vX11_number.1, vX11_number.2⟩ (ly_is hy 0 11 rfl) (sm_number hy hr hI1770 v1782 v1783 (by omega) (by omega) (by omega) (by omega) (by rw [ew1780, ew1781]; omega)) (Nat.le_of_ble_eq_true rfl) ?_
          intro r I1784 J1785 Ra hq
          obtain ⟨⟨hI1784, ec, fiI1784, fjI1784, fqI1784, ⟨pI1784, sI1784_0_15, sI1784_0_16⟩⟩, v1786, rfl, av1786, bv1786, cv1786⟩ := hq
          show WP _ _ _ _ (.int _ :: _) _ _ _ _
          rw [ec]
          clear ec Ra
          have fr1787 : fz 49 g [0, 30, 31, 32] I I1784 := fz_tr fr1772 (fz_mono fiI1784 (by decide))
          have fr1788 : fs g [3, 4, 5, 6, 7, 8, 9] I I1784 := fs_tr fr1773 (fs_mono fqI1784 (by decide))
          have fr1789 : fz 49 g [] J J1785 := fz_tr fr1774 (fz_mono fjI1784 (by decide))
          have e1790 : I1784 (ad g 0) 15 = v1719 := by rw [sI1784_0_15]; exact e1776
          have e1791 : I1784 (ad g 0) 16 = v1733 := by rw [sI1784_0_16]; exact e1777
          have e1792 : I1784 (ad g 0) 1 = L := hI1784.1.2
          have b1793 := BT_get hI1784.1.1 0 1 2 (0) (0) (900) (by decide) 1 (by decide) (by decide)
          rw [e1792] at b1793
          obtain ⟨w1794, ew1794⟩ : ∃ w : Int32, I1784 (ad g 0) 4 = w := ⟨_, rfl⟩
          have bw1794 := BT_get hI1784.1.1 0 4 5 (0) (0) (900) (by decide) 4 (by decide) (by decide)
          rw [ew1794] at bw1794
          obtain ⟨w1795, ew1795⟩ : ∃ w : Int32, I1784 (ad g 0) 2 = w := ⟨_, rfl⟩
          have bw1795 := BT_get hI1784.1.1 0 2 3 (0) (0) (900) (by decide) 2 (by decide) (by decide)
          rw [ew1795] at bw1795
          rw [ew1794, ew1795] at pI1784
          obtain ⟨w1796, ew1796⟩ : ∃ w : Int32, I1784 (ad g 0) 7 = w := ⟨_, rfl⟩
          have bw1796 := BT_get hI1784.1.1 0 7 8 (-1) (0) (1000) (by decide) 7 (by decide) (by decide)
          rw [ew1796] at bw1796
          rw [ew1796] at cv1786
          refine WQ_if_ne 101 dX11_readWants_96 rfl (fun c1796 => ?_) (fun c1796 => ?_)
          · refine WP_aload_n dX11_readWants_101 rfl ?_
            refine WP_getr dX11_readWants_102 fX11_120 rfl (ly_is hy 0 11 rfl) (rf hr 0 49 31 (by decide)) ?_
            refine WP_iload_n dX11_readWants_105 rfl ?_
            refine WP_aload_n dX11_readWants_106 rfl ?_
            refine WQ_getim dX11_readWants_107 fX11_56 rfl (ly_is hy 0 11 rfl) ew1796 ?_
            refine WQ_iast dX11_readWants_110 (ly_is hy 31 13 rfl) (ly_n hy 31 28 rfl) (by omega) (by omega) (fun I1798 eI1798 => ?_)
            have hI1798 : MP g n L I1798 := by rw [eI1798]; exact (mp_w hy hI1784 (c := 31) (mi_r hy hI1784.1 (c := 31) (0) (0) (3) (by decide) (Or.inl (by decide)) (by decide) (by omega) (by omega)) (by decide) (by decide) (Or.inl (by decide)))
            have e1799 : I1798 (ad g 0) 15 = v1719 := by rw [eI1798, pp_ne _ _ (Or.inl (ly_ne hy (by decide) (by decide) (by decide)))]; exact e1790
            have e1800 : I1798 (ad g 0) 16 = v1733 := by rw [eI1798, pp_ne _ _ (Or.inl (ly_ne hy (by decide) (by decide) (by decide)))]; exact e1791
            have e1801 : I1798 (ad g 0) 1 = L := by rw [eI1798, pp_ne _ _ (Or.inl (ly_ne hy (by decide) (by decide) (by decide)))]; exact e1792
            have e1802 : I1798 (ad g 0) 4 = w1794 := by rw [eI1798, pp_ne _ _ (Or.inl (ly_ne hy (by decide) (by decide) (by decide)))]; exact ew1794
            have e1803 : I1798 (ad g 0) 2 = w1795 := by rw [eI1798, pp_ne _ _ (Or.inl (ly_ne hy (by decide) (by decide) (by decide)))]; exact ew1795
            have e1804 : I1798 (ad g 0) 7 = w1796 := by rw [eI1798, pp_ne _ _ (Or.inl (ly_ne hy (by decide) (by decide) (by decide)))]; exact ew1796
            have fr1805 : fs g [3, 4, 5, 6, 7, 8, 9] I I1798 := by rw [eI1798]; exact fs_ppn hy fr1788 (by decide) (by decide)
            have fr1806 : fz 49 g [0, 30, 31, 32] I I1798 := by rw [eI1798]; exact fzm_pp hy fr1787 (by decide) (by decide)
            clear eI1798
            refine WP_aload_n dX11_readWants_111 rfl ?_
            refine WQ_iconst (0) (0) dX11_readWants_112 rfl rfl (fun v1807 hv1807 => ?_)
            refine WQ_bipush (99) (99) dX11_readWants_113 rfl rfl (fun v1808 hv1808 => ?_)
            refine WP_callV2 (k := 11) dX11_readWants_115 ⟨⟨⟨by decide, by decide⟩, zX11_number⟩, lX11_81, by decide, rfl, vX11_number.1, vX11_number.2⟩ (ly_is hy 0 11 rfl) (sm_number hy hr hI1798 v1807 v1808 (by omega) (by omega) (by omega) (by omega) (by rw [e1802, e1803]; omega)) (Nat.le_of_ble_eq_true rfl) ?_
            intro r I1809 J1810 Ra hq
            obtain ⟨⟨hI1809, ec, fiI1809, fjI1809, fqI1809, ⟨pI1809, sI1809_0_15, sI1809_0_16⟩⟩, v1811, rfl, av1811, bv1811, cv1811⟩ := hq
            show WP _ _ _ _ (.int _ :: _) _ _ _ _
            rw [ec]
            clear ec Ra
            have fr1812 : fz 49 g [0, 30, 31, 32] I I1809 := fz_tr fr1806 (fz_mono fiI1809 (by decide))
            have fr1813 : fs g [3, 4, 5, 6, 7, 8, 9] I I1809 := fs_tr fr1805 (fs_mono fqI1809 (by decide))
            have fr1814 : fz 49 g [] J J1810 := fz_tr fr1789 (fz_mono fjI1809 (by decide))
            have e1815 : I1809 (ad g 0) 15 = v1719 := by rw [sI1809_0_15]; exact e1799
            have e1816 : I1809 (ad g 0) 16 = v1733 := by rw [sI1809_0_16]; exact e1800
            have e1817 : I1809 (ad g 0) 1 = L := hI1809.1.2
            have b1818 := BT_get hI1809.1.1 0 1 2 (0) (0) (900) (by decide) 1 (by decide) (by decide)
            rw [e1817] at b1818
            obtain ⟨w1819, ew1819⟩ : ∃ w : Int32, I1809 (ad g 0) 4 = w := ⟨_, rfl⟩
            have bw1819 := BT_get hI1809.1.1 0 4 5 (0) (0) (900) (by decide) 4 (by decide) (by decide)
            rw [ew1819] at bw1819
            obtain ⟨w1820, ew1820⟩ : ∃ w : Int32, I1809 (ad g 0) 2 = w := ⟨_, rfl⟩
            have bw1820 := BT_get hI1809.1.1 0 2 3 (0) (0) (900) (by decide) 2 (by decide) (by decide)
            rw [ew1820] at bw1820
            rw [ew1819, ew1820] at pI1809
            obtain ⟨w1821, ew1821⟩ : ∃ w : Int32, I1809 (ad g 0) 7 = w := ⟨_, rfl⟩
            have bw1821 := BT_get hI1809.1.1 0 7 8 (-1) (0) (1000) (by decide) 7 (by decide) (by decide)
            rw [ew1821] at bw1821
            rw [ew1821] at cv1811
            refine WQ_if_ne 123 dX11_readWants_118 rfl (fun c1821 => ?_) (fun c1821 => ?_)
            · refine WP_aload_n dX11_readWants_123 rfl ?_
              refine WP_getr dX11_readWants_124 fX11_123 rfl (ly_is hy 0 11 rfl) (rf hr 0 50 32 (by decide)) ?_
              refine WP_iload_n dX11_readWants_127 rfl ?_
              refine WP_aload_n dX11_readWants_128 rfl ?_
              refine WQ_getim dX11_readWants_129 fX11_56 rfl (ly_is hy 0 11 rfl) ew1821 ?_
              refine WQ_iast dX11_readWants_132 (ly_is hy 32 13 rfl) (ly_n hy 32 28 rfl) (by omega) (by omega) (fun I1823 eI1823 => ?_)
              have hI1823 : MP g n L I1823 := by rw [eI1823]; exact (mp_w hy hI1809 (c := 32) (mi_r hy hI1809.1 (c := 32) (0) (0) (99) (by decide) (Or.inl (by decide)) (by decide) (by omega) (by omega)) (by decide) (by decide) (Or.inl (by decide)))
              have e1824 : I1823 (ad g 0) 15 = v1719 := by rw [eI1823, pp_ne _ _ (Or.inl (ly_ne hy (by decide) (by decide) (by decide)))]; exact e1815
              have e1825 : I1823 (ad g 0) 16 = v1733 := by rw [eI1823, pp_ne _ _ (Or.inl (ly_ne hy (by decide) (by decide) (by decide)))]; exact e1816
              have e1826 : I1823 (ad g 0) 1 = L := by rw [eI1823, pp_ne _ _ (Or.inl (ly_ne hy (by decide) (by decide) (by decide)))]; exact e1817
              have e1827 : I1823 (ad g 0) 4 = w1819 := by rw [eI1823, pp_ne _ _ (Or.inl (ly_ne hy (by decide) (by decide) (by decide)))]; exact ew1819
              have e1828 : I1823 (ad g 0) 2 = w1820 := by rw [eI1823, pp_ne _ _ (Or.inl (ly_ne hy (by decide) (by decide) (by decide)))]; exact ew1820
              have e1829 : I1823 (ad g 0) 7 = w1821 := by rw [eI1823, pp_ne _ _ (Or.inl (ly_ne hy (by decide) (by decide) (by decide)))]; exact ew1821
              have fr1830 : fs g [3, 4, 5, 6, 7, 8, 9] I I1823 := by rw [eI1823]; exact fs_ppn hy fr1813 (by decide) (by decide)
              have fr1831 : fz 49 g [0, 30, 31, 32] I I1823 := by rw [eI1823]; exact fzm_pp hy fr1812 (by decide) (by decide)
              clear eI1823
              refine WP_aload_n dX11_readWants_133 rfl ?_
              refine WP_getr dX11_readWants_134 fX11_117 rfl (ly_is hy 0 11 rfl) (rf hr 0 48 30 (by decide)) ?_
              refine WP_iload_n dX11_readWants_137 rfl ?_
              refine WP_iload_n dX11_readWants_138 rfl ?_
              refine WQ_iast dX11_readWants_139 (ly_is hy 30 13 rfl) (ly_n hy 30 28 rfl) (by omega) (by omega) (fun I1832 eI1832 => ?_)
              have hI1832 : MP g n L I1832 := by rw [eI1832]; exact (mp_w hy hI1823 (c := 30) (mi_r hy hI1823.1 (c := 30) (-1) (0) (2) (by decide) (Or.inl (by decide)) (by decide) (by omega) (by omega)) (by decide) (by decide) (Or.inl (by decide)))
              have e1833 : I1832 (ad g 0) 15 = v1719 := by rw [eI1832, pp_ne _ _ (Or.inl (ly_ne hy (by decide) (by decide) (by decide)))]; exact e1824
              have e1834 : I1832 (ad g 0) 16 = v1733 := by rw [eI1832, pp_ne _ _ (Or.inl (ly_ne hy (by decide) (by decide) (by decide)))]; exact e1825
              have e1835 : I1832 (ad g 0) 1 = L := by rw [eI1832, pp_ne _ _ (Or.inl (ly_ne hy (by decide) (by decide) (by decide)))]; exact e1826
              have e1836 : I1832 (ad g 0) 4 = w1819 := by rw [eI1832, pp_ne _ _ (Or.inl (ly_ne hy (by decide) (by decide) (by decide)))]; exact e1827
              have e1837 : I1832 (ad g 0) 2 = w1820 := by rw [eI1832, pp_ne _ _ (Or.inl (ly_ne hy (by decide) (by decide) (by decide)))]; exact e1828
              have e1838 : I1832 (ad g 0) 7 = w1821 := by rw [eI1832, pp_ne _ _ (Or.inl (ly_ne hy (by decide) (by decide) (by decide)))]; exact e1829
              have fr1839 : fs g [3, 4, 5, 6, 7, 8, 9] I I1832 := by rw [eI1832]; exact fs_ppn hy fr1830 (by decide) (by decide)
              have fr1840 : fz 49 g [0, 30, 31, 32] I I1832 := by rw [eI1832]; exact fzm_pp hy fr1831 (by decide) (by decide)
              clear eI1832
              refine WQ_iconst (1) (1) dX11_readWants_140 rfl rfl (fun v1841 hv1841 => ?_)
              exact WP_zret dX11_readWants_141 rfl (nar_z (by omega)) ⟨⟨hI1832, rfl, fr1840, fr1814, fr1839, (by rw [e1836, e1837]; omega)⟩, _, rfl, by omega, by omega⟩
            · refine WQ_iconst (0) (0) dX11_readWants_121 rfl rfl (fun v1842 hv1842 => ?_)
              exact WP_zret dX11_readWants_122 rfl (nar_z (by omega)) ⟨⟨hI1809, rfl, fr1812, fr1814, fr1813, (by rw [ew1819, ew1820]; omega)⟩, _, rfl, by omega, by omega⟩
          · refine WQ_iconst (0) (0) dX11_readWants_99 rfl rfl (fun v1843 hv1843 => ?_)
            exact WP_zret dX11_readWants_100 rfl (nar_z (by omega)) ⟨⟨hI1784, rfl, fr1787, fr1789, fr1788, (by rw [ew1794, ew1795]; omega)⟩, _, rfl, by omega, by omega⟩
        · refine WP_aload_n dX11_readWants_80 rfl ?_
          refine WQ_iconst (3) (3) dX11_readWants_81 rfl rfl (fun v1844 hv1844 => ?_)
          refine WP_callV1 (k := 11) dX11_readWants_82 ⟨⟨⟨by decide, by decide⟩, zX11_bad⟩, lX11_49, by decide, rfl, vX11_bad.1, vX11_bad.2⟩ (ly_is hy 0 11 rfl) (sm_bad2 hy hr hI1750 v1844  (by rw [ew1760, ew1761]; omega)) (Nat.le_of_ble_eq_true rfl) ?_
          intro r I1845 J1846 Ra hq
          obtain ⟨⟨hI1845, ec, fiI1845, fjI1845, fqI1845, ⟨pI1845, sI1845_0_15, sI1845_0_16⟩⟩, v1847, rfl, av1847, bv1847⟩ := hq
          show WP _ _ _ _ (.int _ :: _) _ _ _ _
          rw [ec]
          clear ec Ra
          have fr1848 : fz 49 g [0, 30, 31, 32] I I1845 := fz_tr fr1753 (fz_mono fiI1845 (by decide))
          have fr1849 : fs g [3, 4, 5, 6, 7, 8, 9] I I1845 := fs_tr fr1754 (fs_mono fqI1845 (by decide))
          have fr1850 : fz 49 g [] J J1846 := fz_tr fr1755 (fz_mono fjI1845 (by decide))
          have e1851 : I1845 (ad g 0) 15 = v1719 := by rw [sI1845_0_15]; exact e1756
          have e1852 : I1845 (ad g 0) 16 = v1733 := by rw [sI1845_0_16]; exact e1757
          have e1853 : I1845 (ad g 0) 1 = L := hI1845.1.2
          have b1854 := BT_get hI1845.1.1 0 1 2 (0) (0) (900) (by decide) 1 (by decide) (by decide)
          rw [e1853] at b1854
          obtain ⟨w1855, ew1855⟩ : ∃ w : Int32, I1845 (ad g 0) 4 = w := ⟨_, rfl⟩
          have bw1855 := BT_get hI1845.1.1 0 4 5 (0) (0) (900) (by decide) 4 (by decide) (by decide)
          rw [ew1855] at bw1855
          obtain ⟨w1856, ew1856⟩ : ∃ w : Int32, I1845 (ad g 0) 2 = w := ⟨_, rfl⟩
          have bw1856 := BT_get hI1845.1.1 0 2 3 (0) (0) (900) (by decide) 2 (by decide) (by decide)
          rw [ew1856] at bw1856
          rw [ew1855, ew1856] at pI1845
          exact WP_zret dX11_readWants_85 rfl (nar_z (by omega)) ⟨⟨hI1845, rfl, fr1848, fr1850, fr1849, (by rw [ew1855, ew1856]; omega)⟩, _, rfl, by omega, by omega⟩
      · refine WQ_iconst (0) (0) dX11_readWants_58 rfl rfl (fun v1857 hv1857 => ?_)
        exact WP_zret dX11_readWants_59 rfl (nar_z (by omega)) ⟨⟨hI1750, rfl, fr1753, fr1755, fr1754, (by rw [ew1760, ew1761]; omega)⟩, _, rfl, by omega, by omega⟩
    · refine WQ_iconst (0) (0) dX11_readWants_41 rfl rfl (fun v1858 hv1858 => ?_)
      exact WP_zret dX11_readWants_42 rfl (nar_z (by omega)) ⟨⟨hI1734, rfl, fr1737, fr1739, fr1738, (by rw [ew1744, ew1745]; omega)⟩, _, rfl, by omega, by omega⟩
  · refine WQ_iconst (0) (0) dX11_readWants_19 rfl rfl (fun v1859 hv1859 => ?_)
    exact WP_zret dX11_readWants_20 rfl (nar_z (by omega)) ⟨⟨hI1720, rfl, fr1723, fr1725, fr1724, (by rw [ew1729, ew1730]; omega)⟩, _, rfl, by omega, by omega⟩
set_option maxHeartbeats 4000000 in
set_option maxRecDepth 100000 in
theorem sm_readIlls {g : GG} {n : Int} {L : Int32} (hy : Ly g)  {I : pI} {J : pJ} {R : pR} (hr : Rf g R) (hI : MP g n L I)   (hb : (I (ad g 0) 4).toInt ≤ (I (ad g 0) 2).toInt) : SP g mX11_readIlls [.ref (ad g 0)] I J R (fun r I' J' R' => (MP g n L I' ∧ R' = R ∧ fz 49 g [0, 17] I I' ∧ fz 49 g [] J J' ∧ fs g [3, 4, 5, 6, 7, 8, 9] I I' ∧ (I' (ad g 0) 4).toInt ≤ (I' (ad g 0) 2).toInt) ∧ ∃ v : Int32, r = some (.int v) ∧ 0 ≤ v.toInt ∧ v.toInt ≤ 1) := by
  refine SP_of ⟨by decide, rfl⟩ (Nat.le_of_ble_eq_true rfl) ?_
  have e1860 : I (ad g 0) 1 = L := hI.1.2
  have b1861 := BT_get hI.1.1 0 1 2 (0) (0) (900) (by decide) 1 (by decide) (by decide)
  rw [e1860] at b1861
  have fr0 : fz 49 g [0, 17] I I := fz_rf
  have frj0 : fz 49 g [] J J := fz_rf
  have frq0 : fs g [3, 4, 5, 6, 7, 8, 9] I I := fs_rf
  obtain ⟨w1862, ew1862⟩ : ∃ w : Int32, I (ad g 0) 4 = w := ⟨_, rfl⟩
  have bw1862 := BT_get hI.1.1 0 4 5 (0) (0) (900) (by decide) 4 (by decide) (by decide)
  rw [ew1862] at bw1862
  obtain ⟨w1863, ew1863⟩ : ∃ w : Int32, I (ad g 0) 2 = w := ⟨_, rfl⟩
  have bw1863 := BT_get hI.1.1 0 2 3 (0) (0) (900) (by decide) 2 (by decide) (by decide)
  rw [ew1863] at bw1863
  rw [ew1862, ew1863] at hb
  refine WP_aload_n dX11_readIlls_0 rfl ?_
  refine WP_callV0 (k := 11) dX11_readIlls_1 ⟨⟨⟨by decide, by decide⟩, zX11_scan⟩, lX11_63, by decide, rfl, vX11_scan.1, vX11_scan.2⟩ (ly_is hy 0 11 rfl) (sm_scan hy hr hI   (by rw [ew1862, ew1863]; omega)) (Nat.le_of_ble_eq_true rfl) ?_
  intro r I1864 J1865 Ra hq
  obtain ⟨⟨hI1864, ec, fiI1864, fjI1864, fqI1864, ⟨pI1864, sI1864_0_7, sI1864_0_15, sI1864_0_16⟩⟩, rfl⟩ := hq
  rw [ec]
  clear ec Ra
  have fr1866 : fz 49 g [0, 17] I I1864 := fz_tr fr0 (fz_mono fiI1864 (by decide))
  have fr1867 : fs g [3, 4, 5, 6, 7, 8, 9] I I1864 := fs_tr frq0 (fs_mono fqI1864 (by decide))
  have fr1868 : fz 49 g [] J J1865 := fz_tr frj0 (fz_mono fjI1864 (by decide))
  have e1869 : I1864 (ad g 0) 1 = L := hI1864.1.2
  have b1870 := BT_get hI1864.1.1 0 1 2 (0) (0) (900) (by decide) 1 (by decide) (by decide)
  rw [e1869] at b1870
  obtain ⟨w1871, ew1871⟩ : ∃ w : Int32, I1864 (ad g 0) 4 = w := ⟨_, rfl⟩
  have bw1871 := BT_get hI1864.1.1 0 4 5 (0) (0) (900) (by decide) 4 (by decide) (by decide)
  rw [ew1871] at bw1871
  obtain ⟨w1872, ew1872⟩ : ∃ w : Int32, I1864 (ad g 0) 2 = w := ⟨_, rfl⟩
  have bw1872 := BT_get hI1864.1.1 0 2 3 (0) (0) (900) (by decide) 2 (by decide) (by decide)
  rw [ew1872] at bw1872
  rw [ew1871, ew1872] at pI1864
  refine WP_aload_n dX11_readIlls_4 rfl ?_
  refine WQ_geti dX11_readIlls_5 fX11_27 rfl (ly_is hy 0 11 rfl) (BT_get hI1864.1.1 0 5 6 (0) (0) (4) (by decide) 5 (by decide) (by decide)) (fun v1873 ev1873 av1873 bv1873 => ?_)
  refine WQ_iconst (1) (1) dX11_readIlls_8 rfl rfl (fun v1874 hv1874 => ?_)
  refine WQ_icmp_eq 18 dX11_readIlls_9 rfl (fun c1874 => ?_) (fun c1874 => ?_)
  · refine WP_aload_n dX11_readIlls_18 rfl ?_
    refine WP_aload_n dX11_readIlls_19 rfl ?_
    refine WP_getr dX11_readIlls_20 fX11_91 rfl (ly_is hy 0 11 rfl) (rf hr 0 22 4 (by decide)) ?_
    refine WP_aload_n dX11_readIlls_23 rfl ?_
    refine WQ_geti dX11_readIlls_24 fX11_88 rfl (ly_is hy 0 11 rfl) (BT_get hI1864.1.1 0 15 16 (0) (0) (4) (by decide) 15 (by decide) (by decide)) (fun v1876 ev1876 av1876 bv1876 => ?_)
    refine WP_callV2 (k := 11) dX11_readIlls_27 ⟨⟨⟨by decide, by decide⟩, zX11_find⟩, lX11_71, by decide, rfl, vX11_find.1, vX11_find.2⟩ (ly_is hy 0 11 rfl) (sm_find_4 hy hr hI1864 v1876 (by omega) (by omega)) (Nat.le_of_ble_eq_true rfl) ?_
    intro r Ia Ja Ra hq
    obtain ⟨⟨ea, eb, ec⟩, v1877, rfl, av1877, bv1877, cv1877⟩ := hq
    show WP _ _ _ _ (.int _ :: _) _ _ _ _
    rw [ea, eb, ec]
    clear ea eb ec Ia Ja Ra
    refine WP_istore_n (ls' := [(0, _), (1, _)]) dX11_readIlls_30 (by decide) rfl ?_
    refine WP_iload_n dX11_readIlls_31 rfl ?_
    refine WQ_iconst (-1) (-1) dX11_readIlls_32 rfl rfl (fun v1878 hv1878 => ?_)
    refine WQ_icmp_eq 51 dX11_readIlls_33 rfl (fun c1878 => ?_) (fun c1878 => ?_)
    · refine WP_iload_n dX11_readIlls_51 rfl ?_
      refine WQ_iconst (-1) (-1) dX11_readIlls_52 rfl rfl (fun v1880 hv1880 => ?_)
      refine WQ_icmp_ne 62 dX11_readIlls_53 rfl (fun c1880 => False.elim (by omega)) (fun c1880 => ?_)
      refine WP_aload_n dX11_readIlls_56 rfl ?_
      refine WQ_iconst (5) (5) dX11_readIlls_57 rfl rfl (fun v1882 hv1882 => ?_)
      refine WP_callV1 (k := 11) dX11_readIlls_58 ⟨⟨⟨by decide, by decide⟩, zX11_bad⟩, lX11_49, by decide, rfl, vX11_bad.1, vX11_bad.2⟩ (ly_is hy 0 11 rfl) (sm_bad2 hy hr hI1864 v1882  (by rw [ew1871, ew1872]; omega)) (Nat.le_of_ble_eq_true rfl) ?_
      intro r I1883 J1884 Ra hq
      obtain ⟨⟨hI1883, ec, fiI1883, fjI1883, fqI1883, ⟨pI1883, sI1883_0_15, sI1883_0_16⟩⟩, v1885, rfl, av1885, bv1885⟩ := hq
      show WP _ _ _ _ (.int _ :: _) _ _ _ _
      rw [ec]
      clear ec Ra
      have fr1886 : fz 49 g [0, 17] I I1883 := fz_tr fr1866 (fz_mono fiI1883 (by decide))
      have fr1887 : fs g [3, 4, 5, 6, 7, 8, 9] I I1883 := fs_tr fr1867 (fs_mono fqI1883 (by decide))
      have fr1888 : fz 49 g [] J J1884 := fz_tr fr1868 (fz_mono fjI1883 (by decide))
      have e1889 : I1883 (ad g 0) 15 = v1876 := by rw [sI1883_0_15]; exact ev1876
      have e1890 : I1883 (ad g 0) 1 = L := hI1883.1.2
      have b1891 := BT_get hI1883.1.1 0 1 2 (0) (0) (900) (by decide) 1 (by decide) (by decide)
      rw [e1890] at b1891
      obtain ⟨w1892, ew1892⟩ : ∃ w : Int32, I1883 (ad g 0) 4 = w := ⟨_, rfl⟩
      have bw1892 := BT_get hI1883.1.1 0 4 5 (0) (0) (900) (by decide) 4 (by decide) (by decide)
      rw [ew1892] at bw1892
      obtain ⟨w1893, ew1893⟩ : ∃ w : Int32, I1883 (ad g 0) 2 = w := ⟨_, rfl⟩
      have bw1893 := BT_get hI1883.1.1 0 2 3 (0) (0) (900) (by decide) 2 (by decide) (by decide)
      rw [ew1893] at bw1893
      rw [ew1892, ew1893] at pI1883
      exact WP_zret dX11_readIlls_61 rfl (nar_z (by omega)) ⟨⟨hI1883, rfl, fr1886, fr1888, fr1887, (by rw [ew1892, ew1893]; omega)⟩, _, rfl, by omega, by omega⟩
    · refine WP_aload_n dX11_readIlls_36 rfl ?_
      refine WP_getr dX11_readIlls_37 fX11_108 rfl (ly_is hy 0 11 rfl) (rf hr 0 35 17 (by decide)) ?_
      refine WP_iload_n dX11_readIlls_40 rfl ?_
      refine WQ_iald dX11_readIlls_41 (ly_is hy 17 13 rfl) (ly_n hy 17 4 rfl) (by omega) (by omega) (fun q hq => BT_get hI1864.1.1 17 0 4 (0) (0) (127) (by decide) q (Nat.zero_le _) hq) (fun v1894 av1894 bv1894 ev1894 => ?_)
      clear ev1894
      refine WQ_if_eq 51 dX11_readIlls_42 rfl (fun c1894 => ?_) (fun c1894 => ?_)
      · refine WP_iload_n dX11_readIlls_51 rfl ?_
        refine WQ_iconst (-1) (-1) dX11_readIlls_52 rfl rfl (fun v1896 hv1896 => ?_)
        refine WQ_icmp_ne 62 dX11_readIlls_53 rfl (fun c1896 => ?_) (fun c1896 => False.elim (by omega))
        refine WP_aload_n dX11_readIlls_62 rfl ?_
        refine WP_callV0 (k := 11) dX11_readIlls_63 ⟨⟨⟨by decide, by decide⟩, zX11_scan⟩, lX11_63, by decide, rfl, vX11_scan.1, vX11_scan.2⟩ (ly_is hy 0 11 rfl) (sm_scan hy hr hI1864   (by rw [ew1871, ew1872]; omega)) (Nat.le_of_ble_eq_true rfl) ?_
        intro r I1898 J1899 Ra hq
        obtain ⟨⟨hI1898, ec, fiI1898, fjI1898, fqI1898, ⟨pI1898, sI1898_0_7, sI1898_0_15, sI1898_0_16⟩⟩, rfl⟩ := hq
        rw [ec]
        clear ec Ra
        have fr1900 : fz 49 g [0, 17] I I1898 := fz_tr fr1866 (fz_mono fiI1898 (by decide))
        have fr1901 : fs g [3, 4, 5, 6, 7, 8, 9] I I1898 := fs_tr fr1867 (fs_mono fqI1898 (by decide))
        have fr1902 : fz 49 g [] J J1899 := fz_tr fr1868 (fz_mono fjI1898 (by decide))
        have e1903 : I1898 (ad g 0) 15 = v1876 := by rw [sI1898_0_15]; exact ev1876
        have e1904 : I1898 (ad g 0) 1 = L := hI1898.1.2
        have b1905 := BT_get hI1898.1.1 0 1 2 (0) (0) (900) (by decide) 1 (by decide) (by decide)
        rw [e1904] at b1905
        obtain ⟨w1906, ew1906⟩ : ∃ w : Int32, I1898 (ad g 0) 4 = w := ⟨_, rfl⟩
        have bw1906 := BT_get hI1898.1.1 0 4 5 (0) (0) (900) (by decide) 4 (by decide) (by decide)
        rw [ew1906] at bw1906
        obtain ⟨w1907, ew1907⟩ : ∃ w : Int32, I1898 (ad g 0) 2 = w := ⟨_, rfl⟩
        have bw1907 := BT_get hI1898.1.1 0 2 3 (0) (0) (900) (by decide) 2 (by decide) (by decide)
        rw [ew1907] at bw1907
        rw [ew1906, ew1907] at pI1898
        refine WP_aload_n dX11_readIlls_66 rfl ?_
        refine WQ_iconst (1) (1) dX11_readIlls_67 rfl rfl (fun v1908 hv1908 => ?_)
        refine WQ_bipush (127) (127) dX11_readIlls_68 rfl rfl (fun v1909 hv1909 => ?_)
        refine WP_callV2 (k := 11) dX11_readIlls_70 ⟨⟨⟨by decide, by decide⟩, zX11_number⟩, lX11_81, by decide, rfl, vX11_number.1, vX11_number.2⟩ (ly_is hy 0 11 rfl) (sm_number hy hr hI1898 v1908 v1909 (by omega) (by omega) (by omega) (by omega) (by rw [ew1906, ew1907]; omega)) (Nat.le_of_ble_eq_true rfl) ?_
        intro r I1910 J1911 Ra hq
        obtain ⟨⟨hI1910, ec, fiI1910, fjI1910, fqI1910, ⟨pI1910, sI1910_0_15, sI1910_0_16⟩⟩, v1912, rfl, av1912, bv1912, cv1912⟩ := hq
        show WP _ _ _ _ (.int _ :: _) _ _ _ _
        rw [ec]
        clear ec Ra
        have fr1913 : fz 49 g [0, 17] I I1910 := fz_tr fr1900 (fz_mono fiI1910 (by decide))
        have fr1914 : fs g [3, 4, 5, 6, 7, 8, 9] I I1910 := fs_tr fr1901 (fs_mono fqI1910 (by decide))
        have fr1915 : fz 49 g [] J J1911 := fz_tr fr1902 (fz_mono fjI1910 (by decide))
        have e1916 : I1910 (ad g 0) 15 = v1876 := by rw [sI1910_0_15]; exact e1903
        have e1917 : I1910 (ad g 0) 1 = L := hI1910.1.2
        have b1918 := BT_get hI1910.1.1 0 1 2 (0) (0) (900) (by decide) 1 (by decide) (by decide)
        rw [e1917] at b1918
        obtain ⟨w1919, ew1919⟩ : ∃ w : Int32, I1910 (ad g 0) 4 = w := ⟨_, rfl⟩
        have bw1919 := BT_get hI1910.1.1 0 4 5 (0) (0) (900) (by decide) 4 (by decide) (by decide)
        rw [ew1919] at bw1919
        obtain ⟨w1920, ew1920⟩ : ∃ w : Int32, I1910 (ad g 0) 2 = w := ⟨_, rfl⟩
        have bw1920 := BT_get hI1910.1.1 0 2 3 (0) (0) (900) (by decide) 2 (by decide) (by decide)
        rw [ew1920] at bw1920
        rw [ew1919, ew1920] at pI1910
        obtain ⟨w1921, ew1921⟩ : ∃ w : Int32, I1910 (ad g 0) 7 = w := ⟨_, rfl⟩
        have bw1921 := BT_get hI1910.1.1 0 7 8 (-1) (0) (1000) (by decide) 7 (by decide) (by decide)
        rw [ew1921] at bw1921
        rw [ew1921] at cv1912
        refine WQ_if_ne 78 dX11_readIlls_73 rfl (fun c1921 => ?_) (fun c1921 => ?_)
        · refine WP_aload_n dX11_readIlls_78 rfl ?_
          refine WP_getr dX11_readIlls_79 fX11_108 rfl (ly_is hy 0 11 rfl) (rf hr 0 35 17 (by decide)) ?_
          refine WP_iload_n dX11_readIlls_82 rfl ?_
          refine WP_aload_n dX11_readIlls_83 rfl ?_
          refine WQ_getim dX11_readIlls_84 fX11_56 rfl (ly_is hy 0 11 rfl) ew1921 ?_
          refine WQ_iast dX11_readIlls_87 (ly_is hy 17 13 rfl) (ly_n hy 17 4 rfl) (by omega) (by omega) (fun I1923 eI1923 => ?_)
          have hI1923 : MP g n L I1923 := by rw [eI1923]; exact (mp_w hy hI1910 (c := 17) (mi_r hy hI1910.1 (c := 17) (0) (0) (127) (by decide) (Or.inl (by decide)) (by decide) (by omega) (by omega)) (by decide) (by decide) (Or.inl (by decide)))
          have e1924 : I1923 (ad g 0) 15 = v1876 := by rw [eI1923, pp_ne _ _ (Or.inl (ly_ne hy (by decide) (by decide) (by decide)))]; exact e1916
          have e1925 : I1923 (ad g 0) 1 = L := by rw [eI1923, pp_ne _ _ (Or.inl (ly_ne hy (by decide) (by decide) (by decide)))]; exact e1917
          have e1926 : I1923 (ad g 0) 4 = w1919 := by rw [eI1923, pp_ne _ _ (Or.inl (ly_ne hy (by decide) (by decide) (by decide)))]; exact ew1919
          have e1927 : I1923 (ad g 0) 2 = w1920 := by rw [eI1923, pp_ne _ _ (Or.inl (ly_ne hy (by decide) (by decide) (by decide)))]; exact ew1920
          have e1928 : I1923 (ad g 0) 7 = w1921 := by rw [eI1923, pp_ne _ _ (Or.inl (ly_ne hy (by decide) (by decide) (by decide)))]; exact ew1921
          have fr1929 : fs g [3, 4, 5, 6, 7, 8, 9] I I1923 := by rw [eI1923]; exact fs_ppn hy fr1914 (by decide) (by decide)
          have fr1930 : fz 49 g [0, 17] I I1923 := by rw [eI1923]; exact fzm_pp hy fr1913 (by decide) (by decide)
          clear eI1923
          refine WQ_iconst (1) (1) dX11_readIlls_88 rfl rfl (fun v1931 hv1931 => ?_)
          exact WP_zret dX11_readIlls_89 rfl (nar_z (by omega)) ⟨⟨hI1923, rfl, fr1930, fr1915, fr1929, (by rw [e1926, e1927]; omega)⟩, _, rfl, by omega, by omega⟩
        · refine WQ_iconst (0) (0) dX11_readIlls_76 rfl rfl (fun v1932 hv1932 => ?_)
          exact WP_zret dX11_readIlls_77 rfl (nar_z (by omega)) ⟨⟨hI1910, rfl, fr1913, fr1915, fr1914, (by rw [ew1919, ew1920]; omega)⟩, _, rfl, by omega, by omega⟩
      · refine WP_aload_n dX11_readIlls_45 rfl ?_
        refine WQ_iconst (3) (3) dX11_readIlls_46 rfl rfl (fun v1933 hv1933 => ?_)
        refine WP_callV1 (k := 11) dX11_readIlls_47 ⟨⟨⟨by decide, by decide⟩, zX11_bad⟩, lX11_49, by decide, rfl, vX11_bad.1, vX11_bad.2⟩ (ly_is hy 0 11 rfl) (sm_bad2 hy hr hI1864 v1933  (by rw [ew1871, ew1872]; omega)) (Nat.le_of_ble_eq_true rfl) ?_
        intro r I1934 J1935 Ra hq
        obtain ⟨⟨hI1934, ec, fiI1934, fjI1934, fqI1934, ⟨pI1934, sI1934_0_15, sI1934_0_16⟩⟩, v1936, rfl, av1936, bv1936⟩ := hq
        show WP _ _ _ _ (.int _ :: _) _ _ _ _
        rw [ec]
        clear ec Ra
        have fr1937 : fz 49 g [0, 17] I I1934 := fz_tr fr1866 (fz_mono fiI1934 (by decide))
        have fr1938 : fs g [3, 4, 5, 6, 7, 8, 9] I I1934 := fs_tr fr1867 (fs_mono fqI1934 (by decide))
        have fr1939 : fz 49 g [] J J1935 := fz_tr fr1868 (fz_mono fjI1934 (by decide))
        have e1940 : I1934 (ad g 0) 15 = v1876 := by rw [sI1934_0_15]; exact ev1876
        have e1941 : I1934 (ad g 0) 1 = L := hI1934.1.2
        have b1942 := BT_get hI1934.1.1 0 1 2 (0) (0) (900) (by decide) 1 (by decide) (by decide)
        rw [e1941] at b1942
        obtain ⟨w1943, ew1943⟩ : ∃ w : Int32, I1934 (ad g 0) 4 = w := ⟨_, rfl⟩
        have bw1943 := BT_get hI1934.1.1 0 4 5 (0) (0) (900) (by decide) 4 (by decide) (by decide)
        rw [ew1943] at bw1943
        obtain ⟨w1944, ew1944⟩ : ∃ w : Int32, I1934 (ad g 0) 2 = w := ⟨_, rfl⟩
        have bw1944 := BT_get hI1934.1.1 0 2 3 (0) (0) (900) (by decide) 2 (by decide) (by decide)
        rw [ew1944] at bw1944
        rw [ew1943, ew1944] at pI1934
        exact WP_zret dX11_readIlls_50 rfl (nar_z (by omega)) ⟨⟨hI1934, rfl, fr1937, fr1939, fr1938, (by rw [ew1943, ew1944]; omega)⟩, _, rfl, by omega, by omega⟩
  · refine WP_aload_n dX11_readIlls_12 rfl ?_
    refine WQ_iconst (1) (1) dX11_readIlls_13 rfl rfl (fun v1945 hv1945 => ?_)
    refine WP_callV1 (k := 11) dX11_readIlls_14 ⟨⟨⟨by decide, by decide⟩, zX11_bad⟩, lX11_49, by decide, rfl, vX11_bad.1, vX11_bad.2⟩ (ly_is hy 0 11 rfl) (sm_bad2 hy hr hI1864 v1945  (by rw [ew1871, ew1872]; omega)) (Nat.le_of_ble_eq_true rfl) ?_
    intro r I1946 J1947 Ra hq
    obtain ⟨⟨hI1946, ec, fiI1946, fjI1946, fqI1946, ⟨pI1946, sI1946_0_15, sI1946_0_16⟩⟩, v1948, rfl, av1948, bv1948⟩ := hq
    show WP _ _ _ _ (.int _ :: _) _ _ _ _
    rw [ec]
    clear ec Ra
    have fr1949 : fz 49 g [0, 17] I I1946 := fz_tr fr1866 (fz_mono fiI1946 (by decide))
    have fr1950 : fs g [3, 4, 5, 6, 7, 8, 9] I I1946 := fs_tr fr1867 (fs_mono fqI1946 (by decide))
    have fr1951 : fz 49 g [] J J1947 := fz_tr fr1868 (fz_mono fjI1946 (by decide))
    have e1952 : I1946 (ad g 0) 1 = L := hI1946.1.2
    have b1953 := BT_get hI1946.1.1 0 1 2 (0) (0) (900) (by decide) 1 (by decide) (by decide)
    rw [e1952] at b1953
    obtain ⟨w1954, ew1954⟩ : ∃ w : Int32, I1946 (ad g 0) 4 = w := ⟨_, rfl⟩
    have bw1954 := BT_get hI1946.1.1 0 4 5 (0) (0) (900) (by decide) 4 (by decide) (by decide)
    rw [ew1954] at bw1954
    obtain ⟨w1955, ew1955⟩ : ∃ w : Int32, I1946 (ad g 0) 2 = w := ⟨_, rfl⟩
    have bw1955 := BT_get hI1946.1.1 0 2 3 (0) (0) (900) (by decide) 2 (by decide) (by decide)
    rw [ew1955] at bw1955
    rw [ew1954, ew1955] at pI1946
    exact WP_zret dX11_readIlls_17 rfl (nar_z (by omega)) ⟨⟨hI1946, rfl, fr1949, fr1951, fr1950, (by rw [ew1954, ew1955]; omega)⟩, _, rfl, by omega, by omega⟩
set_option maxHeartbeats 4000000 in
set_option maxRecDepth 100000 in
theorem sm_open {g : GG} {n : Int} {L : Int32} (hy : Ly g)  {I : pI} {J : pJ} {R : pR} (hr : Rf g R) (hI : MP g n L I)   : SP g mX11_open [.ref (ad g 0)] I J R (fun r I' J' R' => ((∃ L2 : Int32, MP g n L2 I' ∧ L2.toInt = 0) ∧ R' = R ∧ fz 49 g [0] I I' ∧ fz 49 g [] J J' ∧ fs g [1, 2, 3, 4, 5, 6, 8, 9] I I' ∧ (I' (ad g 0) 4).toInt ≤ (I' (ad g 0) 2).toInt) ∧ r = none) := by
  refine SP_of ⟨by decide, rfl⟩ (Nat.le_of_ble_eq_true rfl) ?_
  have e1956 : I (ad g 0) 1 = L := hI.1.2
  have b1957 := BT_get hI.1.1 0 1 2 (0) (0) (900) (by decide) 1 (by decide) (by decide)
  rw [e1956] at b1957
  have fr0 : fz 49 g [0] I I := fz_rf
  have frj0 : fz 49 g [] J J := fz_rf
  have frq0 : fs g [1, 2, 3, 4, 5, 6, 8, 9] I I := fs_rf
  refine WP_aload_n dX11_open_0 rfl ?_
  refine WP_aload_n dX11_open_1 rfl ?_
  refine WQ_getim dX11_open_2 fX11_75 rfl (ly_is hy 0 11 rfl) e1956 ?_
  refine WQ_puti dX11_open_5 fX11_13 rfl rfl (ly_is hy 0 11 rfl) (fun I1958 eI1958 => ?_)
  have hI1958 : MP g n L I1958 := by rw [eI1958]; exact (mp_w hy hI (c := 0) (mi_f hy hI.1 (c := 0) (0) (0) (900) (by decide) (Or.inr (by decide)) (by decide) (by omega) (by omega)) (by decide) (by decide) (Or.inr (by decide)))
  have e1959 : I1958 (ad g 0) 1 = L := by rw [eI1958, pp_ne _ _ (Or.inr (by decide))]; exact e1956
  have e1960 : I1958 (ad g 0) 2 = L := by rw [eI1958, pp_self]
  have fr1961 : fs g [1, 2, 3, 4, 5, 6, 8, 9] I I1958 := by rw [eI1958]; exact fs_pp0 frq0 (by decide)
  have fr1962 : fz 49 g [0] I I1958 := by rw [eI1958]; exact fzm_pp hy fr0 (by decide) (by decide)
  clear eI1958
  refine WP_aload_n dX11_open_8 rfl ?_
  refine WQ_iconst (0) (0) dX11_open_9 rfl rfl (fun v1963 hv1963 => ?_)
  refine WQ_puti dX11_open_10 fX11_75 rfl rfl (ly_is hy 0 11 rfl) (fun I1964 eI1964 => ?_)
  have hI1964 : MP g n v1963 I1964 := by rw [eI1964]; exact (mp_w hy hI1958 (c := 0) (mi_len hy hI1958.1 (by omega) (by omega)) (by decide) (by decide) (Or.inr (by decide)))
  have e1965 : I1964 (ad g 0) 2 = L := by rw [eI1964, pp_ne _ _ (Or.inr (by decide))]; exact e1960
  have e1966 : I1964 (ad g 0) 1 = v1963 := by rw [eI1964, pp_self]
  have fr1967 : fs g [1, 2, 3, 4, 5, 6, 8, 9] I I1964 := by rw [eI1964]; exact fs_pp0 fr1961 (by decide)
  have fr1968 : fz 49 g [0] I I1964 := by rw [eI1964]; exact fzm_pp hy fr1962 (by decide) (by decide)
  clear eI1964
  refine WP_aload_n dX11_open_13 rfl ?_
  refine WQ_iconst (0) (0) dX11_open_14 rfl rfl (fun v1969 hv1969 => ?_)
  refine WQ_puti dX11_open_15 fX11_20 rfl rfl (ly_is hy 0 11 rfl) (fun I1970 eI1970 => ?_)
  have hI1970 : MP g n v1963 I1970 := by rw [eI1970]; exact (mp_w hy hI1964 (c := 0) (mi_f hy hI1964.1 (c := 0) (0) (0) (900) (by decide) (Or.inr (by decide)) (by decide) (by omega) (by omega)) (by decide) (by decide) (Or.inr (by decide)))
  have e1971 : I1970 (ad g 0) 2 = L := by rw [eI1970, pp_ne _ _ (Or.inr (by decide))]; exact e1965
  have e1972 : I1970 (ad g 0) 1 = v1963 := by rw [eI1970, pp_ne _ _ (Or.inr (by decide))]; exact e1966
  have e1973 : I1970 (ad g 0) 4 = v1969 := by rw [eI1970, pp_self]
  have fr1974 : fs g [1, 2, 3, 4, 5, 6, 8, 9] I I1970 := by rw [eI1970]; exact fs_pp0 fr1967 (by decide)
  have fr1975 : fz 49 g [0] I I1970 := by rw [eI1970]; exact fzm_pp hy fr1968 (by decide) (by decide)
  clear eI1970
  refine WP_aload_n dX11_open_18 rfl ?_
  refine WQ_iconst (0) (0) dX11_open_19 rfl rfl (fun v1976 hv1976 => ?_)
  refine WQ_puti dX11_open_20 fX11_3 rfl rfl (ly_is hy 0 11 rfl) (fun I1977 eI1977 => ?_)
  have hI1977 : MP g n v1963 I1977 := by rw [eI1977]; exact (mp_w hy hI1970 (c := 0) (mi_f0 hy hI1970.1 (c := 0) (by decide) (Or.inr (by decide)) (by decide)) (by decide) (by decide) (Or.inr (by decide)))
  have e1978 : I1977 (ad g 0) 2 = L := by rw [eI1977, pp_ne _ _ (Or.inr (by decide))]; exact e1971
  have e1979 : I1977 (ad g 0) 1 = v1963 := by rw [eI1977, pp_ne _ _ (Or.inr (by decide))]; exact e1972
  have e1980 : I1977 (ad g 0) 4 = v1969 := by rw [eI1977, pp_ne _ _ (Or.inr (by decide))]; exact e1973
  have e1981 : I1977 (ad g 0) 8 = v1976 := by rw [eI1977, pp_self]
  have fr1982 : fs g [1, 2, 3, 4, 5, 6, 8, 9] I I1977 := by rw [eI1977]; exact fs_pp0 fr1974 (by decide)
  have fr1983 : fz 49 g [0] I I1977 := by rw [eI1977]; exact fzm_pp hy fr1975 (by decide) (by decide)
  clear eI1977
  refine WP_aload_n dX11_open_23 rfl ?_
  refine WQ_iconst (-1) (-1) dX11_open_24 rfl rfl (fun v1984 hv1984 => ?_)
  refine WQ_puti dX11_open_25 fX11_10 rfl rfl (ly_is hy 0 11 rfl) (fun I1985 eI1985 => ?_)
  have hI1985 : MP g n v1963 I1985 := by rw [eI1985]; exact (mp_w hy hI1977 (c := 0) (mi_f0 hy hI1977.1 (c := 0) (by decide) (Or.inr (by decide)) (by decide)) (by decide) (by decide) (Or.inr (by decide)))
  have e1986 : I1985 (ad g 0) 2 = L := by rw [eI1985, pp_ne _ _ (Or.inr (by decide))]; exact e1978
  have e1987 : I1985 (ad g 0) 1 = v1963 := by rw [eI1985, pp_ne _ _ (Or.inr (by decide))]; exact e1979
  have e1988 : I1985 (ad g 0) 4 = v1969 := by rw [eI1985, pp_ne _ _ (Or.inr (by decide))]; exact e1980
  have e1989 : I1985 (ad g 0) 8 = v1976 := by rw [eI1985, pp_ne _ _ (Or.inr (by decide))]; exact e1981
  have e1990 : I1985 (ad g 0) 9 = v1984 := by rw [eI1985, pp_self]
  have fr1991 : fs g [1, 2, 3, 4, 5, 6, 8, 9] I I1985 := by rw [eI1985]; exact fs_pp0 fr1982 (by decide)
  have fr1992 : fz 49 g [0] I I1985 := by rw [eI1985]; exact fzm_pp hy fr1983 (by decide) (by decide)
  clear eI1985
  refine WP_aload_n dX11_open_28 rfl ?_
  refine WP_callV0 (k := 11) dX11_open_29 ⟨⟨⟨by decide, by decide⟩, zX11_scan⟩, lX11_63, by decide, rfl, vX11_scan.1, vX11_scan.2⟩ (ly_is hy 0 11 rfl) (sm_scan hy hr hI1985   (by rw [e1988, e1986]; omega)) (Nat.le_of_ble_eq_true rfl) ?_
  intro r I1993 J1994 Ra hq
  obtain ⟨⟨hI1993, ec, fiI1993, fjI1993, fqI1993, ⟨pI1993, sI1993_0_7, sI1993_0_15, sI1993_0_16⟩⟩, rfl⟩ := hq
  rw [ec]
  clear ec Ra
  have fr1995 : fz 49 g [0] I I1993 := fz_tr fr1992 (fz_mono fiI1993 (by decide))
  have fr1996 : fs g [1, 2, 3, 4, 5, 6, 8, 9] I I1993 := fs_tr fr1991 (fs_mono fqI1993 (by decide))
  have fr1997 : fz 49 g [] J J1994 := fz_tr frj0 (fz_mono fjI1993 (by decide))
  have e1998 : I1993 (ad g 0) 1 = v1963 := hI1993.1.2
  have b1999 := BT_get hI1993.1.1 0 1 2 (0) (0) (900) (by decide) 1 (by decide) (by decide)
  rw [e1998] at b1999
  obtain ⟨w2000, ew2000⟩ : ∃ w : Int32, I1993 (ad g 0) 4 = w := ⟨_, rfl⟩
  have bw2000 := BT_get hI1993.1.1 0 4 5 (0) (0) (900) (by decide) 4 (by decide) (by decide)
  rw [ew2000] at bw2000
  obtain ⟨w2001, ew2001⟩ : ∃ w : Int32, I1993 (ad g 0) 2 = w := ⟨_, rfl⟩
  have bw2001 := BT_get hI1993.1.1 0 2 3 (0) (0) (900) (by decide) 2 (by decide) (by decide)
  rw [ew2001] at bw2001
  rw [ew2000, ew2001] at pI1993
  exact WP_vret dX11_open_32 rfl ⟨⟨⟨_, hI1993, by omega⟩, rfl, fr1995, fr1997, fr1996, (by rw [ew2000, ew2001]; omega)⟩, rfl⟩
