set_option maxHeartbeats 4000000 in
set_option maxRecDepth 100000 in
theorem sm_pass {g : GG} {n : Int} {L : Int32} (hy : Ly g)  {I : pI} {J : pJ} {R : pR} (hr : Rf g R) (hI : MP g n L I) (a : Int32)  (hn : 0 ≤ n ∧ n ≤ 40000) (hb : (I (ad g 38) 32).toInt ≤ 23760 * n - 1663200 ∧ (I (ad g 38) 33).toInt ≤ n - 70) : SP g mX11_pass [.ref (ad g 0), .int a] I J R (fun r I' J' R' => (MP g n L I' ∧ R' = R ∧ True) ∧ ∃ v : Int32, r = some (.int v)) := by
  refine SP_of ⟨by decide, rfl⟩ (Nat.le_of_ble_eq_true rfl) ?_
  have e5684 : I (ad g 0) 1 = L := hI.1.2
  have b5685 := BT_get hI.1.1 0 1 2 (0) (0) (900) (by decide) 1 (by decide) (by decide)
  rw [e5684] at b5685
  obtain ⟨w5686, ew5686⟩ : ∃ w : Int32, I (ad g 38) 32 = w := ⟨_, rfl⟩
  have bw5686 := BT_get hI.1.1 38 32 33 (0) (23760) (0) (by decide) 32 (by decide) (by decide)
  rw [ew5686] at bw5686
  obtain ⟨w5687, ew5687⟩ : ∃ w : Int32, I (ad g 38) 33 = w := ⟨_, rfl⟩
  have bw5687 := BT_get hI.1.1 38 33 34 (0) (1) (0) (by decide) 33 (by decide) (by decide)
  rw [ew5687] at bw5687
  rw [ew5686, ew5687] at hb
  refine WP_iload_n dX11_pass_0 rfl ?_
  refine WQ_i2l dX11_pass_1 (fun l5688 hl5688 => ?_)
  refine WP_lconst (0) dX11_pass_2 rfl ?_
  obtain ⟨l5689, hl5689, el5689⟩ : ∃ v : Int64, v.toInt = 0 ∧ (0 : Int64) = v := ⟨_, rfl, rfl⟩
  rw [el5689]; clear el5689
  refine WP_ldc2 (70) dX11_pass_3 klX11_482 ?_
  obtain ⟨l5690, hl5690, el5690⟩ : ∃ v : Int64, v.toInt = (70) ∧ ((70) : Int64) = v := ⟨_, rfl, rfl⟩
  rw [el5690]; clear el5690
  refine WP_callS3 dX11_pass_6 ⟨⟨⟨by decide, by decide⟩, zX11_in⟩, lX11_52, tX11_in⟩ (sm_in hy hr hI l5688 l5689 l5690 ) (Nat.le_of_ble_eq_true rfl) ?_
  intro r Ia Ja Ra hq
  obtain ⟨⟨ea, eb, ec⟩, v5691, rfl, av5691, bv5691, cv5691⟩ := hq
  show WP _ _ _ _ (.int _ :: _) _ _ _ _
  rw [ea, eb, ec]
  clear ea eb ec Ia Ja Ra
  refine WQ_if_ne 15 dX11_pass_9 rfl (fun c5691 => ?_) (fun c5691 => ?_)
  · refine WQ_iconst (0) (0) dX11_pass_15 rfl rfl (fun v5693 hv5693 => ?_)
    refine WP_istore_n (ls' := [(0, _), (1, _), (2, _)]) dX11_pass_16 (by decide) rfl ?_
    have lp17_5698 : ∀ (mz : Nat) (i5694 : Int32) (I5695 : pI) (J5696 : pJ), MP g n L I5695 → ∀ (w5697 : Int32), I5695 (ad g 38) 32 = w5697 → ∀ (w5698 : Int32), I5695 (ad g 38) 33 = w5698 → 0 ≤ i5694.toInt → i5694.toInt ≤ 70 → w5697.toInt ≤ w5686.toInt + 23760 * i5694.toInt → w5698.toInt = w5687.toInt + i5694.toInt → i5694.toInt ≤ a.toInt → (71 - i5694.toInt).toNat < mz → WP g mX11_pass 17 [(0, .ref (ad g 0)), (1, .int a), (2, .int i5694)] [] I5695 J5696 R (fun r I' J' R' => (MP g n L I' ∧ R' = R ∧ True) ∧ ∃ v : Int32, r = some (.int v)) := by
      intro mz
      induction mz with
      | zero =>
        intro i5694 I5695 J5696 hI5695 w5697 ew5697 w5698 ew5698 ai5694 bi5694 j0_I5695 j1_I5695 j2_I5695 hmlp17_5698
        exact absurd hmlp17_5698 (Nat.not_lt_zero _)
      | succ mz ihlp17_5698 =>
        intro i5694 I5695 J5696 hI5695 w5697 ew5697 w5698 ew5698 ai5694 bi5694 j0_I5695 j1_I5695 j2_I5695 hmlp17_5698
        have bw5697 := BT_get hI5695.1.1 38 32 33 (0) (23760) (0) (by decide) 32 (by decide) (by decide)
        rw [ew5697] at bw5697
        have bw5698 := BT_get hI5695.1.1 38 33 34 (0) (1) (0) (by decide) 33 (by decide) (by decide)
        rw [ew5698] at bw5698
        have e5700 : I5695 (ad g 0) 1 = L := hI5695.1.2
        have b5701 := BT_get hI5695.1.1 0 1 2 (0) (0) (900) (by decide) 1 (by decide) (by decide)
        rw [e5700] at b5701
        refine WP_iload_n dX11_pass_17 rfl ?_
        refine WP_iload_n dX11_pass_18 rfl ?_
        refine WQ_icmp_ge 45 dX11_pass_19 rfl (fun c5701 => ?_) (fun c5701 => ?_)
        · refine WP_aload_n dX11_pass_45 rfl ?_
          refine WP_getr dX11_pass_46 fX11_283 rfl (ly_is hy 0 11 rfl) (rf hr 0 59 38 (by decide)) ?_
          refine WQ_bipush (33) (33) dX11_pass_49 rfl rfl (fun v5703 hv5703 => ?_)
          refine WQ_ialdm (z := 33) dX11_pass_51 (ly_is hy 38 13 rfl) (ly_n hy 38 35 rfl) hv5703 (by decide) ew5698 ?_
          exact WP_iret dX11_pass_52 rfl ⟨⟨hI5695, rfl, trivial⟩, _, rfl⟩
        · refine WP_aload_n dX11_pass_22 rfl ?_
          refine WP_dup dX11_pass_23 rfl ?_
          refine WQ_getl dX11_pass_24 fX11_346 rfl (ly_is hy 0 11 rfl) (fun l5705 el5705 => ?_)
          refine WP_aload_n dX11_pass_27 rfl ?_
          refine WP_aload_n dX11_pass_28 rfl ?_
          refine WP_getr dX11_pass_29 fX11_283 rfl (ly_is hy 0 11 rfl) (rf hr 0 59 38 (by decide)) ?_
          refine WP_callV1 (k := 11) dX11_pass_32 ⟨⟨⟨by decide, by decide⟩, zX11_dayOf⟩, lX11_484, by decide, rfl, vX11_dayOf.1, vX11_dayOf.2⟩ (ly_is hy 0 11 rfl) (sm_dayOf_38 hy hr hI5695   (by omega) (by rw [ew5697, ew5698]; omega)) (Nat.le_of_ble_eq_true rfl) ?_
          intro r I5706 J5707 Ra hq
          obtain ⟨⟨hI5706, ec, fiI5706, ⟨pI5706, sI5706_0_10, sI5706_0_14, sI5706_0_68⟩⟩, l5708, rfl⟩ := hq
          show WP _ _ _ _ (.long _ :: _) _ _ _ _
          rw [ec]
          clear ec Ra
          have e5709 : I5706 (ad g 0) 1 = L := hI5706.1.2
          have b5710 := BT_get hI5706.1.1 0 1 2 (0) (0) (900) (by decide) 1 (by decide) (by decide)
          rw [e5709] at b5710
          obtain ⟨w5711, ew5711⟩ : ∃ w : Int32, I5706 (ad g 38) 32 = w := ⟨_, rfl⟩
          have bw5711 := BT_get hI5706.1.1 38 32 33 (0) (23760) (0) (by decide) 32 (by decide) (by decide)
          rw [ew5711] at bw5711
          obtain ⟨w5712, ew5712⟩ : ∃ w : Int32, I5706 (ad g 38) 33 = w := ⟨_, rfl⟩
          have bw5712 := BT_get hI5706.1.1 38 33 34 (0) (1) (0) (by decide) 33 (by decide) (by decide)
          rw [ew5712] at bw5712
          rw [ew5711, ew5712, ew5697, ew5698] at pI5706
          refine WQ_ladd dX11_pass_35 (fun l5713 => ?_)
          refine WQ_putl dX11_pass_36 fX11_346 rfl rfl (ly_is hy 0 11 rfl) (fun J5714 eJ5714 => ?_)
          clear eJ5714
          refine WP_iinc (ls' := [(0, _), (1, _), (2, _)]) dX11_pass_39 rfl (by decide) rfl ?_
          have hv5715 : (i5694 + Int32.ofInt (1)).toInt = i5694.toInt + (1) := ia_n rfl (by omega) (by omega)
          generalize i5694 + Int32.ofInt (1) = v5715 at hv5715 ⊢
          refine WP_goto 17 dX11_pass_42 rfl ?_
          exact WP_sub (fc rfl (fc rfl (fc rfl fn))) (ihlp17_5698 v5715 I5706 J5714 hI5706 w5711 ew5711 w5712 ew5712 (by omega) (by omega) (by omega) (by omega) (by omega) (by omega))
    exact WP_sub (fc rfl (fc rfl (fc rfl fn))) (lp17_5698 _ v5693 I J hI w5686 ew5686 w5687 ew5687 (by omega) (by omega) (by omega) (by omega) (by omega) (Nat.lt_succ_self _))
  · refine WQ_bipush (-2) (-2) dX11_pass_12 rfl rfl (fun v5716 hv5716 => ?_)
    exact WP_iret dX11_pass_14 rfl ⟨⟨hI, rfl, trivial⟩, _, rfl⟩
set_option maxHeartbeats 4000000 in
set_option maxRecDepth 100000 in
theorem sm_beginx_39 {g : GG} {n : Int} {L : Int32} (hy : Ly g)  {I : pI} {J : pJ} {R : pR} (hr : Rf g R) (hI : MP g n L I)   (hn : 0 ≤ n) : SP g mX11_begin [.ref (ad g 0), .ref (ad g 39)] I J R (fun r I' J' R' => (MP g n L I' ∧ R' = R ∧ fz 49 g [39] I I' ∧ ((I' (ad g 39) 32).toInt = 0 ∧ (I' (ad g 39) 33).toInt = 0)) ∧ r = none) := by
  refine SP_of ⟨by decide, rfl⟩ (Nat.le_of_ble_eq_true rfl) ?_
  have e5717 : I (ad g 0) 1 = L := hI.1.2
  have b5718 := BT_get hI.1.1 0 1 2 (0) (0) (900) (by decide) 1 (by decide) (by decide)
  rw [e5717] at b5718
  have fr0 : fz 49 g [39] I I := fz_rf
  refine WQ_iconst (0) (0) dX11_begin_0 rfl rfl (fun v5719 hv5719 => ?_)
  refine WP_istore_n (ls' := [(0, _), (1, _), (2, _)]) dX11_begin_1 (by decide) rfl ?_
  have lp2_5724 : ∀ (mz : Nat) (i5720 : Int32) (I5721 : pI) (J5722 : pJ), MP g n L I5721 → fz 49 g [39] I I5721 → ∀ (w5723 : Int32), I5721 (ad g 39) 32 = w5723 → ∀ (w5724 : Int32), I5721 (ad g 39) 33 = w5724 → 0 ≤ i5720.toInt → i5720.toInt ≤ 35 → (i5720.toInt ≤ 32 ∨ w5723.toInt = 0) → (i5720.toInt ≤ 33 ∨ w5724.toInt = 0) → (36 - i5720.toInt).toNat < mz → WP g mX11_begin 2 [(0, .ref (ad g 0)), (1, .ref (ad g 39)), (2, .int i5720)] [] I5721 J5722 R (fun r I' J' R' => (MP g n L I' ∧ R' = R ∧ fz 49 g [39] I I' ∧ ((I' (ad g 39) 32).toInt = 0 ∧ (I' (ad g 39) 33).toInt = 0)) ∧ r = none) := by
    intro mz
    induction mz with
    | zero =>
      intro i5720 I5721 J5722 hI5721 fiI5721 w5723 ew5723 w5724 ew5724 ai5720 bi5720 j0_I5721 j1_I5721 hmlp2_5724
      exact absurd hmlp2_5724 (Nat.not_lt_zero _)
    | succ mz ihlp2_5724 =>
      intro i5720 I5721 J5722 hI5721 fiI5721 w5723 ew5723 w5724 ew5724 ai5720 bi5720 j0_I5721 j1_I5721 hmlp2_5724
      have bw5723 := BT_get hI5721.1.1 39 32 33 (0) (23760) (700000) (by decide) 32 (by decide) (by decide)
      rw [ew5723] at bw5723
      have bw5724 := BT_get hI5721.1.1 39 33 34 (0) (1) (30) (by decide) 33 (by decide) (by decide)
      rw [ew5724] at bw5724
      have e5726 : I5721 (ad g 0) 1 = L := hI5721.1.2
      have b5727 := BT_get hI5721.1.1 0 1 2 (0) (0) (900) (by decide) 1 (by decide) (by decide)
      rw [e5726] at b5727
      refine WP_iload_n dX11_begin_2 rfl ?_
      refine WQ_bipush (35) (35) dX11_begin_3 rfl rfl (fun v5728 hv5728 => ?_)
      refine WQ_icmp_ge 30 dX11_begin_5 rfl (fun c5728 => ?_) (fun c5728 => ?_)
      · refine WQ_iconst (0) (0) dX11_begin_30 rfl rfl (fun v5730 hv5730 => ?_)
        refine WP_istore_n (ls' := [(0, _), (1, _), (2, _)]) dX11_begin_31 (by decide) rfl ?_
        have lp32_5735 : ∀ (mz : Nat) (i5731 : Int32) (I5732 : pI) (J5733 : pJ), MP g n L I5732 → fz 49 g [39] I I5732 → ∀ (w5734 : Int32), I5732 (ad g 39) 32 = w5734 → ∀ (w5735 : Int32), I5732 (ad g 39) 33 = w5735 → 0 ≤ i5731.toInt → i5731.toInt ≤ 4 → w5734.toInt = 0 → w5735.toInt = 0 → (5 - i5731.toInt).toNat < mz → WP g mX11_begin 32 [(0, .ref (ad g 0)), (1, .ref (ad g 39)), (2, .int i5731)] [] I5732 J5733 R (fun r I' J' R' => (MP g n L I' ∧ R' = R ∧ fz 49 g [39] I I' ∧ ((I' (ad g 39) 32).toInt = 0 ∧ (I' (ad g 39) 33).toInt = 0)) ∧ r = none) := by
          intro mz
          induction mz with
          | zero =>
            intro i5731 I5732 J5733 hI5732 fiI5732 w5734 ew5734 w5735 ew5735 ai5731 bi5731 j0_I5732 j1_I5732 hmlp32_5735
            exact absurd hmlp32_5735 (Nat.not_lt_zero _)
          | succ mz ihlp32_5735 =>
            intro i5731 I5732 J5733 hI5732 fiI5732 w5734 ew5734 w5735 ew5735 ai5731 bi5731 j0_I5732 j1_I5732 hmlp32_5735
            have bw5734 := BT_get hI5732.1.1 39 32 33 (0) (23760) (700000) (by decide) 32 (by decide) (by decide)
            rw [ew5734] at bw5734
            have bw5735 := BT_get hI5732.1.1 39 33 34 (0) (1) (30) (by decide) 33 (by decide) (by decide)
            rw [ew5735] at bw5735
            have e5737 : I5732 (ad g 0) 1 = L := hI5732.1.2
            have b5738 := BT_get hI5732.1.1 0 1 2 (0) (0) (900) (by decide) 1 (by decide) (by decide)
            rw [e5737] at b5738
            refine WP_iload_n dX11_begin_32 rfl ?_
            refine WP_aload_n dX11_begin_33 rfl ?_
            refine WQ_geti dX11_begin_34 fX11_329 rfl (ly_is hy 0 11 rfl) (BT_get hI5732.1.1 0 10 11 (0) (0) (4) (by decide) 10 (by decide) (by decide)) (fun v5739 ev5739 av5739 bv5739 => ?_)
            refine WQ_icmp_ge 57 dX11_begin_37 rfl (fun c5739 => ?_) (fun c5739 => ?_)
            · exact WP_vret dX11_begin_57 rfl ⟨⟨hI5732, rfl, fiI5732, (by rw [ew5734, ew5735]; omega)⟩, rfl⟩
            · refine WP_aload_n dX11_begin_40 rfl ?_
              refine WQ_iconst (0) (0) dX11_begin_41 rfl rfl (fun v5741 hv5741 => ?_)
              refine WP_iload_n dX11_begin_42 rfl ?_
              refine WQ_iadd dX11_begin_43 (by omega) (by omega) (fun v5742 hv5742 => ?_)
              refine WP_aload_n dX11_begin_44 rfl ?_
              refine WP_getr dX11_begin_45 fX11_241 rfl (ly_is hy 0 11 rfl) (rf hr 0 28 10 (by decide)) ?_
              refine WP_iload_n dX11_begin_48 rfl ?_
              refine WQ_iald dX11_begin_49 (ly_is hy 10 13 rfl) (ly_n hy 10 4 rfl) (by omega) (by omega) (fun q hq => BT_get hI5732.1.1 10 0 4 (0) (0) (60) (by decide) q (Nat.zero_le _) hq) (fun v5743 av5743 bv5743 ev5743 => ?_)
              clear ev5743
              refine WQ_iast dX11_begin_50 (ly_is hy 39 13 rfl) (ly_n hy 39 35 rfl) (by omega) (by omega) (fun I5744 eI5744 => ?_)
              have hI5744 : MP g n L I5744 := by rw [eI5744]; exact (mp_w hy hI5732 (c := 39) (mi_rr hy hI5732.1 (c := 39) (0) (3) (0) (0) (60) (by decide) (Or.inl (by decide)) (by rw [cl (n := v5742.toInt.toNat) (by omega)]; omega) (by decide) (fun _ => ⟨by omega, by omega⟩)) (by decide) (by decide) (Or.inl (by decide)))
              have e5745 : I5744 (ad g 39) 32 = w5734 := by rw [eI5744, pp_ne _ _ (Or.inr (by rw [cl (x := v5742) (n := v5742.toInt.toNat) (by omega)]; omega))]; exact ew5734
              have e5746 : I5744 (ad g 39) 33 = w5735 := by rw [eI5744, pp_ne _ _ (Or.inr (by rw [cl (x := v5742) (n := v5742.toInt.toNat) (by omega)]; omega))]; exact ew5735
              have e5747 : I5744 (ad g 0) 1 = L := by rw [eI5744, pp_ne _ _ (Or.inl (ly_ne hy (by decide) (by decide) (by decide)))]; exact e5737
              have e5748 : I5744 (ad g 0) 10 = v5739 := by rw [eI5744, pp_ne _ _ (Or.inl (ly_ne hy (by decide) (by decide) (by decide)))]; exact ev5739
              have fr5749 : fz 49 g [39] I I5744 := by rw [eI5744]; exact fzm_pp hy fiI5732 (by decide) (by decide)
              clear eI5744
              refine WP_iinc (ls' := [(0, _), (1, _), (2, _)]) dX11_begin_51 rfl (by decide) rfl ?_
              have hv5750 : (i5731 + Int32.ofInt (1)).toInt = i5731.toInt + (1) := ia_n rfl (by omega) (by omega)
              generalize i5731 + Int32.ofInt (1) = v5750 at hv5750 ⊢
              refine WP_goto 32 dX11_begin_54 rfl ?_
              exact WP_sub (fc rfl (fc rfl (fc rfl fn))) (ihlp32_5735 v5750 I5744 J5733 hI5744 fr5749 w5734 e5745 w5735 e5746 (by omega) (by omega) (by omega) (by omega) (by omega))
        exact WP_sub (fc rfl (fc rfl (fc rfl fn))) (lp32_5735 _ v5730 I5721 J5722 hI5721 fiI5721 w5723 ew5723 w5724 ew5724 (by omega) (by omega) (by omega) (by omega) (Nat.lt_succ_self _))
      · refine WP_iload_n dX11_begin_8 rfl ?_
        refine WQ_bipush (28) (28) dX11_begin_9 rfl rfl (fun v5751 hv5751 => ?_)
        refine WQ_icmp_lt 20 dX11_begin_11 rfl (fun c5751 => ?_) (fun c5751 => ?_)
        · rcases (show (0 ≤ i5720.toInt ∧ i5720.toInt ≤ 3) ∨ (4 ≤ i5720.toInt ∧ i5720.toInt ≤ 7) ∨ (8 ≤ i5720.toInt ∧ i5720.toInt ≤ 31) by omega) with ⟨k5753_0, k5753_1⟩ | ⟨k5753_2, k5753_3⟩ | ⟨k5753_4, k5753_5⟩
          · refine WP_aload_n dX11_begin_20 rfl ?_
            refine WP_iload_n dX11_begin_21 rfl ?_
            refine WQ_iconst (0) (0) dX11_begin_22 rfl rfl (fun v5754 hv5754 => ?_)
            refine WQ_iast dX11_begin_23 (ly_is hy 39 13 rfl) (ly_n hy 39 35 rfl) (by omega) (by omega) (fun I5755 eI5755 => ?_)
            have hI5755 : MP g n L I5755 := by rw [eI5755]; exact (mp_w hy hI5721 (c := 39) (mi_rr hy hI5721.1 (c := 39) (0) (3) (0) (0) (60) (by decide) (Or.inl (by decide)) (by rw [cl (n := i5720.toInt.toNat) (by omega)]; omega) (by decide) (fun _ => ⟨by omega, by omega⟩)) (by decide) (by decide) (Or.inl (by decide)))
            have e5756 : I5755 (ad g 39) 32 = w5723 := by rw [eI5755, pp_ne _ _ (Or.inr (by rw [cl (x := i5720) (n := i5720.toInt.toNat) (by omega)]; omega))]; exact ew5723
            have e5757 : I5755 (ad g 39) 33 = w5724 := by rw [eI5755, pp_ne _ _ (Or.inr (by rw [cl (x := i5720) (n := i5720.toInt.toNat) (by omega)]; omega))]; exact ew5724
            have e5758 : I5755 (ad g 0) 1 = L := by rw [eI5755, pp_ne _ _ (Or.inl (ly_ne hy (by decide) (by decide) (by decide)))]; exact e5726
            have fr5759 : fz 49 g [39] I I5755 := by rw [eI5755]; exact fzm_pp hy fiI5721 (by decide) (by decide)
            clear eI5755
            refine WP_iinc (ls' := [(0, _), (1, _), (2, _)]) dX11_begin_24 rfl (by decide) rfl ?_
            have hv5760 : (i5720 + Int32.ofInt (1)).toInt = i5720.toInt + (1) := ia_n rfl (by omega) (by omega)
            generalize i5720 + Int32.ofInt (1) = v5760 at hv5760 ⊢
            refine WP_goto 2 dX11_begin_27 rfl ?_
            exact WP_sub (fc rfl (fc rfl (fc rfl fn))) (ihlp2_5724 v5760 I5755 J5722 hI5755 fr5759 w5723 e5756 w5724 e5757 (by omega) (by omega) (by omega) (by omega) (by omega))
          · refine WP_aload_n dX11_begin_20 rfl ?_
            refine WP_iload_n dX11_begin_21 rfl ?_
            refine WQ_iconst (0) (0) dX11_begin_22 rfl rfl (fun v5761 hv5761 => ?_)
            refine WQ_iast dX11_begin_23 (ly_is hy 39 13 rfl) (ly_n hy 39 35 rfl) (by omega) (by omega) (fun I5762 eI5762 => ?_)
            have hI5762 : MP g n L I5762 := by rw [eI5762]; exact (mp_w hy hI5721 (c := 39) (mi_rr hy hI5721.1 (c := 39) (4) (7) (0) (0) (5) (by decide) (Or.inl (by decide)) (by rw [cl (n := i5720.toInt.toNat) (by omega)]; omega) (by decide) (fun _ => ⟨by omega, by omega⟩)) (by decide) (by decide) (Or.inl (by decide)))
            have e5763 : I5762 (ad g 39) 32 = w5723 := by rw [eI5762, pp_ne _ _ (Or.inr (by rw [cl (x := i5720) (n := i5720.toInt.toNat) (by omega)]; omega))]; exact ew5723
            have e5764 : I5762 (ad g 39) 33 = w5724 := by rw [eI5762, pp_ne _ _ (Or.inr (by rw [cl (x := i5720) (n := i5720.toInt.toNat) (by omega)]; omega))]; exact ew5724
            have e5765 : I5762 (ad g 0) 1 = L := by rw [eI5762, pp_ne _ _ (Or.inl (ly_ne hy (by decide) (by decide) (by decide)))]; exact e5726
            have fr5766 : fz 49 g [39] I I5762 := by rw [eI5762]; exact fzm_pp hy fiI5721 (by decide) (by decide)
            clear eI5762
            refine WP_iinc (ls' := [(0, _), (1, _), (2, _)]) dX11_begin_24 rfl (by decide) rfl ?_
            have hv5767 : (i5720 + Int32.ofInt (1)).toInt = i5720.toInt + (1) := ia_n rfl (by omega) (by omega)
            generalize i5720 + Int32.ofInt (1) = v5767 at hv5767 ⊢
            refine WP_goto 2 dX11_begin_27 rfl ?_
            exact WP_sub (fc rfl (fc rfl (fc rfl fn))) (ihlp2_5724 v5767 I5762 J5722 hI5762 fr5766 w5723 e5763 w5724 e5764 (by omega) (by omega) (by omega) (by omega) (by omega))
          · refine WP_aload_n dX11_begin_20 rfl ?_
            refine WP_iload_n dX11_begin_21 rfl ?_
            refine WQ_iconst (0) (0) dX11_begin_22 rfl rfl (fun v5768 hv5768 => ?_)
            refine WQ_iast dX11_begin_23 (ly_is hy 39 13 rfl) (ly_n hy 39 35 rfl) (by omega) (by omega) (fun I5769 eI5769 => ?_)
            have hI5769 : MP g n L I5769 := by rw [eI5769]; exact (mp_w hy hI5721 (c := 39) (mi_rr hy hI5721.1 (c := 39) (8) (27) (0) (0) (0) (by decide) (Or.inl (by decide)) (by rw [cl (n := i5720.toInt.toNat) (by omega)]; omega) (by decide) (fun h => absurd h (by decide))) (by decide) (by decide) (Or.inl (by decide)))
            have e5770 : I5769 (ad g 39) 32 = w5723 := by rw [eI5769, pp_ne _ _ (Or.inr (by rw [cl (x := i5720) (n := i5720.toInt.toNat) (by omega)]; omega))]; exact ew5723
            have e5771 : I5769 (ad g 39) 33 = w5724 := by rw [eI5769, pp_ne _ _ (Or.inr (by rw [cl (x := i5720) (n := i5720.toInt.toNat) (by omega)]; omega))]; exact ew5724
            have e5772 : I5769 (ad g 0) 1 = L := by rw [eI5769, pp_ne _ _ (Or.inl (ly_ne hy (by decide) (by decide) (by decide)))]; exact e5726
            have fr5773 : fz 49 g [39] I I5769 := by rw [eI5769]; exact fzm_pp hy fiI5721 (by decide) (by decide)
            clear eI5769
            refine WP_iinc (ls' := [(0, _), (1, _), (2, _)]) dX11_begin_24 rfl (by decide) rfl ?_
            have hv5774 : (i5720 + Int32.ofInt (1)).toInt = i5720.toInt + (1) := ia_n rfl (by omega) (by omega)
            generalize i5720 + Int32.ofInt (1) = v5774 at hv5774 ⊢
            refine WP_goto 2 dX11_begin_27 rfl ?_
            exact WP_sub (fc rfl (fc rfl (fc rfl fn))) (ihlp2_5724 v5774 I5769 J5722 hI5769 fr5773 w5723 e5770 w5724 e5771 (by omega) (by omega) (by omega) (by omega) (by omega))
        · refine WP_iload_n dX11_begin_14 rfl ?_
          refine WQ_bipush (32) (32) dX11_begin_15 rfl rfl (fun v5775 hv5775 => ?_)
          refine WQ_icmp_lt 24 dX11_begin_17 rfl (fun c5775 => ?_) (fun c5775 => ?_)
          · refine WP_iinc (ls' := [(0, _), (1, _), (2, _)]) dX11_begin_24 rfl (by decide) rfl ?_
            have hv5777 : (i5720 + Int32.ofInt (1)).toInt = i5720.toInt + (1) := ia_n rfl (by omega) (by omega)
            generalize i5720 + Int32.ofInt (1) = v5777 at hv5777 ⊢
            refine WP_goto 2 dX11_begin_27 rfl ?_
            exact WP_sub (fc rfl (fc rfl (fc rfl fn))) (ihlp2_5724 v5777 I5721 J5722 hI5721 fiI5721 w5723 ew5723 w5724 ew5724 (by omega) (by omega) (by omega) (by omega) (by omega))
          · rcases (show (32 ≤ i5720.toInt ∧ i5720.toInt ≤ 32) ∨ (33 ≤ i5720.toInt ∧ i5720.toInt ≤ 33) ∨ (34 ≤ i5720.toInt ∧ i5720.toInt ≤ 34) by omega) with ⟨k5778_0, k5778_1⟩ | ⟨k5778_2, k5778_3⟩ | ⟨k5778_4, k5778_5⟩
            · refine WP_aload_n dX11_begin_20 rfl ?_
              refine WP_iload_n dX11_begin_21 rfl ?_
              refine WQ_iconst (0) (0) dX11_begin_22 rfl rfl (fun v5779 hv5779 => ?_)
              refine WQ_iast dX11_begin_23 (ly_is hy 39 13 rfl) (ly_n hy 39 35 rfl) (by omega) (by omega) (fun I5780 fI5780 => ?_)
              have eI5780 := fI5780
              rw [cl (x := i5720) (n := 32) (by omega)] at eI5780
              clear fI5780
              have hI5780 : MP g n L I5780 := by rw [eI5780]; exact (mp_w hy hI5721 (c := 39) (mi_f hy hI5721.1 (c := 39) (0) (23760) (700000) (by decide) (Or.inl (by decide)) (by decide) (by omega) (by omega)) (by decide) (by decide) (Or.inl (by decide)))
              have e5781 : I5780 (ad g 39) 33 = w5724 := by rw [eI5780, pp_ne _ _ (Or.inr (by decide))]; exact ew5724
              have e5782 : I5780 (ad g 0) 1 = L := by rw [eI5780, pp_ne _ _ (Or.inl (ly_ne hy (by decide) (by decide) (by decide)))]; exact e5726
              have e5783 : I5780 (ad g 39) 32 = v5779 := by rw [eI5780, pp_self]
              have fr5784 : fz 49 g [39] I I5780 := by rw [eI5780]; exact fzm_pp hy fiI5721 (by decide) (by decide)
              clear eI5780
              refine WP_iinc (ls' := [(0, _), (1, _), (2, _)]) dX11_begin_24 rfl (by decide) rfl ?_
              have hv5785 : (i5720 + Int32.ofInt (1)).toInt = i5720.toInt + (1) := ia_n rfl (by omega) (by omega)
              generalize i5720 + Int32.ofInt (1) = v5785 at hv5785 ⊢
              refine WP_goto 2 dX11_begin_27 rfl ?_
              exact WP_sub (fc rfl (fc rfl (fc rfl fn))) (ihlp2_5724 v5785 I5780 J5722 hI5780 fr5784 v5779 e5783 w5724 e5781 (by omega) (by omega) (by omega) (by omega) (by omega))
            · refine WP_aload_n dX11_begin_20 rfl ?_
              refine WP_iload_n dX11_begin_21 rfl ?_
              refine WQ_iconst (0) (0) dX11_begin_22 rfl rfl (fun v5786 hv5786 => ?_)
              refine WQ_iast dX11_begin_23 (ly_is hy 39 13 rfl) (ly_n hy 39 35 rfl) (by omega) (by omega) (fun I5787 fI5787 => ?_)
              have eI5787 := fI5787
              rw [cl (x := i5720) (n := 33) (by omega)] at eI5787
              clear fI5787
              have hI5787 : MP g n L I5787 := by rw [eI5787]; exact (mp_w hy hI5721 (c := 39) (mi_f hy hI5721.1 (c := 39) (0) (1) (30) (by decide) (Or.inl (by decide)) (by decide) (by omega) (by omega)) (by decide) (by decide) (Or.inl (by decide)))
              have e5788 : I5787 (ad g 39) 32 = w5723 := by rw [eI5787, pp_ne _ _ (Or.inr (by decide))]; exact ew5723
              have e5789 : I5787 (ad g 0) 1 = L := by rw [eI5787, pp_ne _ _ (Or.inl (ly_ne hy (by decide) (by decide) (by decide)))]; exact e5726
              have e5790 : I5787 (ad g 39) 33 = v5786 := by rw [eI5787, pp_self]
              have fr5791 : fz 49 g [39] I I5787 := by rw [eI5787]; exact fzm_pp hy fiI5721 (by decide) (by decide)
              clear eI5787
              refine WP_iinc (ls' := [(0, _), (1, _), (2, _)]) dX11_begin_24 rfl (by decide) rfl ?_
              have hv5792 : (i5720 + Int32.ofInt (1)).toInt = i5720.toInt + (1) := ia_n rfl (by omega) (by omega)
              generalize i5720 + Int32.ofInt (1) = v5792 at hv5792 ⊢
              refine WP_goto 2 dX11_begin_27 rfl ?_
              exact WP_sub (fc rfl (fc rfl (fc rfl fn))) (ihlp2_5724 v5792 I5787 J5722 hI5787 fr5791 w5723 e5788 v5786 e5790 (by omega) (by omega) (by omega) (by omega) (by omega))
            · refine WP_aload_n dX11_begin_20 rfl ?_
              refine WP_iload_n dX11_begin_21 rfl ?_
              refine WQ_iconst (0) (0) dX11_begin_22 rfl rfl (fun v5793 hv5793 => ?_)
              refine WQ_iast dX11_begin_23 (ly_is hy 39 13 rfl) (ly_n hy 39 35 rfl) (by omega) (by omega) (fun I5794 fI5794 => ?_)
              have eI5794 := fI5794
              rw [cl (x := i5720) (n := 34) (by omega)] at eI5794
              clear fI5794
              have hI5794 : MP g n L I5794 := by rw [eI5794]; exact (mp_w hy hI5721 (c := 39) (mi_f0 hy hI5721.1 (c := 39) (by decide) (Or.inl (by decide)) (by decide)) (by decide) (by decide) (Or.inl (by decide)))
              have e5795 : I5794 (ad g 39) 32 = w5723 := by rw [eI5794, pp_ne _ _ (Or.inr (by decide))]; exact ew5723
              have e5796 : I5794 (ad g 39) 33 = w5724 := by rw [eI5794, pp_ne _ _ (Or.inr (by decide))]; exact ew5724
              have e5797 : I5794 (ad g 0) 1 = L := by rw [eI5794, pp_ne _ _ (Or.inl (ly_ne hy (by decide) (by decide) (by decide)))]; exact e5726
              have e5798 : I5794 (ad g 39) 34 = v5793 := by rw [eI5794, pp_self]
              have fr5799 : fz 49 g [39] I I5794 := by rw [eI5794]; exact fzm_pp hy fiI5721 (by decide) (by decide)
              clear eI5794
              refine WP_iinc (ls' := [(0, _), (1, _), (2, _)]) dX11_begin_24 rfl (by decide) rfl ?_
              have hv5800 : (i5720 + Int32.ofInt (1)).toInt = i5720.toInt + (1) := ia_n rfl (by omega) (by omega)
              generalize i5720 + Int32.ofInt (1) = v5800 at hv5800 ⊢
              refine WP_goto 2 dX11_begin_27 rfl ?_
              exact WP_sub (fc rfl (fc rfl (fc rfl fn))) (ihlp2_5724 v5800 I5794 J5722 hI5794 fr5799 w5723 e5795 w5724 e5796 (by omega) (by omega) (by omega) (by omega) (by omega))
  obtain ⟨w5801, ew5801⟩ : ∃ w : Int32, I (ad g 39) 32 = w := ⟨_, rfl⟩
  have bw5801 := BT_get hI.1.1 39 32 33 (0) (23760) (700000) (by decide) 32 (by decide) (by decide)
  rw [ew5801] at bw5801
  obtain ⟨w5802, ew5802⟩ : ∃ w : Int32, I (ad g 39) 33 = w := ⟨_, rfl⟩
  have bw5802 := BT_get hI.1.1 39 33 34 (0) (1) (30) (by decide) 33 (by decide) (by decide)
  rw [ew5802] at bw5802
  exact WP_sub (fc rfl (fc rfl (fc rfl fn))) (lp2_5724 _ v5719 I J hI fr0 w5801 ew5801 w5802 ew5802 (by omega) (by omega) (by omega) (by omega) (Nat.lt_succ_self _))
set_option maxHeartbeats 4000000 in
set_option maxRecDepth 100000 in
theorem sm_forgetWeeksx {g : GG} {n : Int} {L : Int32} (hy : Ly g)  {I : pI} {J : pJ} {R : pR} (hr : Rf g R) (hI : MP g n L I)   : SP g mX11_forgetWeeks [.ref (ad g 0)] I J R (fun r I' J' R' => (MP g n L I' ∧ R' = R ∧ fz 49 g [37] I I') ∧ r = none) := by
  refine SP_of ⟨by decide, rfl⟩ (Nat.le_of_ble_eq_true rfl) ?_
  have e5803 : I (ad g 0) 1 = L := hI.1.2
  have b5804 := BT_get hI.1.1 0 1 2 (0) (0) (900) (by decide) 1 (by decide) (by decide)
  rw [e5803] at b5804
  have fr0 : fz 49 g [37] I I := fz_rf
  refine WQ_iconst (0) (0) dX11_forgetWeeks_0 rfl rfl (fun v5805 hv5805 => ?_)
  refine WP_istore_n (ls' := [(0, _), (1, _)]) dX11_forgetWeeks_1 (by decide) rfl ?_
  have lp2_5808 : ∀ (mz : Nat) (i5806 : Int32) (I5807 : pI) (J5808 : pJ), MP g n L I5807 → fz 49 g [37] I I5807 → 0 ≤ i5806.toInt → i5806.toInt ≤ 28 → (29 - i5806.toInt).toNat < mz → WP g mX11_forgetWeeks 2 [(0, .ref (ad g 0)), (1, .int i5806)] [] I5807 J5808 R (fun r I' J' R' => (MP g n L I' ∧ R' = R ∧ fz 49 g [37] I I') ∧ r = none) := by
    intro mz
    induction mz with
    | zero =>
      intro i5806 I5807 J5808 hI5807 fiI5807 ai5806 bi5806 hmlp2_5808
      exact absurd hmlp2_5808 (Nat.not_lt_zero _)
    | succ mz ihlp2_5808 =>
      intro i5806 I5807 J5808 hI5807 fiI5807 ai5806 bi5806 hmlp2_5808
      have e5810 : I5807 (ad g 0) 1 = L := hI5807.1.2
      have b5811 := BT_get hI5807.1.1 0 1 2 (0) (0) (900) (by decide) 1 (by decide) (by decide)
      rw [e5810] at b5811
      refine WP_iload_n dX11_forgetWeeks_2 rfl ?_
      refine WQ_bipush (28) (28) dX11_forgetWeeks_3 rfl rfl (fun v5812 hv5812 => ?_)
      refine WQ_icmp_ge 21 dX11_forgetWeeks_5 rfl (fun c5812 => ?_) (fun c5812 => ?_)
      · exact WP_vret dX11_forgetWeeks_21 rfl ⟨⟨hI5807, rfl, fiI5807⟩, rfl⟩
      · refine WP_aload_n dX11_forgetWeeks_8 rfl ?_
        refine WP_getr dX11_forgetWeeks_9 fX11_279 rfl (ly_is hy 0 11 rfl) (rf hr 0 58 37 (by decide)) ?_
        refine WP_iload_n dX11_forgetWeeks_12 rfl ?_
        refine WQ_iconst (0) (0) dX11_forgetWeeks_13 rfl rfl (fun v5814 hv5814 => ?_)
        refine WQ_zast dX11_forgetWeeks_14 (ly_is hy 37 15 rfl) (ly_n hy 37 28 rfl) (by omega) (by omega) (fun I5815 v5816 eI5815 => ?_)
        have hI5815 : MP g n L I5815 := by rw [eI5815]; exact (mp_w hy hI5807 (c := 37) (mi_r0 hy hI5807.1 (c := 37) (by decide) (Or.inl (by decide)) (by decide)) (by decide) (by decide) (Or.inl (by decide)))
        have e5817 : I5815 (ad g 0) 1 = L := by rw [eI5815, pp_ne _ _ (Or.inl (ly_ne hy (by decide) (by decide) (by decide)))]; exact e5810
        have fr5818 : fz 49 g [37] I I5815 := by rw [eI5815]; exact fzm_pp hy fiI5807 (by decide) (by decide)
        clear eI5815
        refine WP_iinc (ls' := [(0, _), (1, _)]) dX11_forgetWeeks_15 rfl (by decide) rfl ?_
        have hv5819 : (i5806 + Int32.ofInt (1)).toInt = i5806.toInt + (1) := ia_n rfl (by omega) (by omega)
        generalize i5806 + Int32.ofInt (1) = v5819 at hv5819 ⊢
        refine WP_goto 2 dX11_forgetWeeks_18 rfl ?_
        exact WP_sub (fc rfl (fc rfl fn)) (ihlp2_5808 v5819 I5815 J5808 hI5815 fr5818 (by omega) (by omega) (by omega))
  exact WP_sub (fc rfl (fc rfl fn)) (lp2_5808 _ v5805 I J hI fr0 (by omega) (by omega) (Nat.lt_succ_self _))
set_option maxHeartbeats 4000000 in
set_option maxRecDepth 100000 in
theorem sm_runTrial {g : GG} {n : Int} {L : Int32} (hy : Ly g)  {I : pI} {J : pJ} {R : pR} (hr : Rf g R) (hI : MP g n L I) (dd : Int32) (dd_lo : 0 ≤ dd.toInt) (dd_hi : dd.toInt ≤ 28) (hn : 0 ≤ n ∧ n ≤ 40000) : SP g mX11_runTrial [.ref (ad g 0), .int dd] I J R (fun r I' J' R' => (MP g n L I' ∧ R' = R ∧ fz 49 g [0, 35, 36, 37, 39, 40, 41] I I' ∧ True ∧ I' (ad g 0) 10 = I (ad g 0) 10 ∧ I' (ad g 0) 14 = I (ad g 0) 14 ∧ I' (ad g 0) 68 = I (ad g 0) 68) ∧ r = none) := by
  refine SP_of ⟨by decide, rfl⟩ (Nat.le_of_ble_eq_true rfl) ?_
  have e5820 : I (ad g 0) 1 = L := hI.1.2
  have b5821 := BT_get hI.1.1 0 1 2 (0) (0) (900) (by decide) 1 (by decide) (by decide)
  rw [e5820] at b5821
  have fr0 : fz 49 g [0, 35, 36, 37, 39, 40, 41] I I := fz_rf
  obtain ⟨w5822, ew5822⟩ : ∃ w : Int32, I (ad g 0) 10 = w := ⟨_, rfl⟩
  have bw5822 := BT_get hI.1.1 0 10 11 (0) (0) (4) (by decide) 10 (by decide) (by decide)
  rw [ew5822] at bw5822
  obtain ⟨w5823, ew5823⟩ : ∃ w : Int32, I (ad g 0) 14 = w := ⟨_, rfl⟩
  have bw5823 := BT_get hI.1.1 0 14 15 (-1) (0) (2) (by decide) 14 (by decide) (by decide)
  rw [ew5823] at bw5823
  obtain ⟨w5824, ew5824⟩ : ∃ w : Int32, I (ad g 0) 68 = w := ⟨_, rfl⟩
  refine WQ_iconst (0) (0) dX11_runTrial_0 rfl rfl (fun v5825 hv5825 => ?_)
  refine WP_istore_n (ls' := [(0, _), (1, _), (2, _)]) dX11_runTrial_1 (by decide) rfl ?_
  have lp2_5831 : ∀ (mz : Nat) (i5826 : Int32) (I5827 : pI) (J5828 : pJ), MP g n L I5827 → fz 49 g [0, 35, 36, 37, 39, 40, 41] I I5827 → ∀ (w5829 : Int32), I5827 (ad g 0) 10 = w5829 → ∀ (w5830 : Int32), I5827 (ad g 0) 14 = w5830 → ∀ (w5831 : Int32), I5827 (ad g 0) 68 = w5831 → 0 ≤ i5826.toInt → i5826.toInt ≤ 35 → w5829.toInt = w5822.toInt → w5830.toInt = w5823.toInt → w5831.toInt = w5824.toInt → (36 - i5826.toInt).toNat < mz → WP g mX11_runTrial 2 [(0, .ref (ad g 0)), (1, .int dd), (2, .int i5826)] [] I5827 J5828 R (fun r I' J' R' => (MP g n L I' ∧ R' = R ∧ fz 49 g [0, 35, 36, 37, 39, 40, 41] I I' ∧ True ∧ I' (ad g 0) 10 = I (ad g 0) 10 ∧ I' (ad g 0) 14 = I (ad g 0) 14 ∧ I' (ad g 0) 68 = I (ad g 0) 68) ∧ r = none) := by
    intro mz
    induction mz with
    | zero =>
      intro i5826 I5827 J5828 hI5827 fiI5827 w5829 ew5829 w5830 ew5830 w5831 ew5831 ai5826 bi5826 j0_I5827 j1_I5827 j2_I5827 hmlp2_5831
      exact absurd hmlp2_5831 (Nat.not_lt_zero _)
    | succ mz ihlp2_5831 =>
      intro i5826 I5827 J5828 hI5827 fiI5827 w5829 ew5829 w5830 ew5830 w5831 ew5831 ai5826 bi5826 j0_I5827 j1_I5827 j2_I5827 hmlp2_5831
      have bw5829 := BT_get hI5827.1.1 0 10 11 (0) (0) (4) (by decide) 10 (by decide) (by decide)
      rw [ew5829] at bw5829
      have bw5830 := BT_get hI5827.1.1 0 14 15 (-1) (0) (2) (by decide) 14 (by decide) (by decide)
      rw [ew5830] at bw5830
      have e5833 : I5827 (ad g 0) 1 = L := hI5827.1.2
      have b5834 := BT_get hI5827.1.1 0 1 2 (0) (0) (900) (by decide) 1 (by decide) (by decide)
      rw [e5833] at b5834
      refine WP_iload_n dX11_runTrial_2 rfl ?_
      refine WQ_bipush (35) (35) dX11_runTrial_3 rfl rfl (fun v5835 hv5835 => ?_)
      refine WQ_icmp_ge 26 dX11_runTrial_5 rfl (fun c5835 => ?_) (fun c5835 => ?_)
      · refine WP_aload_n dX11_runTrial_26 rfl ?_
        refine WP_aload_n dX11_runTrial_27 rfl ?_
        refine WP_getr dX11_runTrial_28 fX11_286 rfl (ly_is hy 0 11 rfl) (rf hr 0 60 39 (by decide)) ?_
        refine WP_callV1 (k := 11) dX11_runTrial_31 ⟨⟨⟨by decide, by decide⟩, zX11_begin⟩, lX11_342, by decide, rfl, vX11_begin.1, vX11_begin.2⟩ (ly_is hy 0 11 rfl) (sm_beginx_39 hy hr hI5827   (by omega)) (Nat.le_of_ble_eq_true rfl) ?_
        intro r I5837 J5838 Ra hq
        obtain ⟨⟨hI5837, ec, fiI5837, pI5837⟩, rfl⟩ := hq
        rw [ec]
        clear ec Ra
        have fr5839 : fz 49 g [0, 35, 36, 37, 39, 40, 41] I I5837 := fz_tr fiI5827 (fz_mono fiI5837 (by decide))
        have e5840 : I5837 (ad g 0) 10 = w5829 := by rw [fz_at fiI5837 0 (by decide) (by decide)]; exact ew5829
        have e5841 : I5837 (ad g 0) 14 = w5830 := by rw [fz_at fiI5837 0 (by decide) (by decide)]; exact ew5830
        have e5842 : I5837 (ad g 0) 68 = w5831 := by rw [fz_at fiI5837 0 (by decide) (by decide)]; exact ew5831
        have e5843 : I5837 (ad g 0) 1 = L := hI5837.1.2
        have b5844 := BT_get hI5837.1.1 0 1 2 (0) (0) (900) (by decide) 1 (by decide) (by decide)
        rw [e5843] at b5844
        obtain ⟨w5845, ew5845⟩ : ∃ w : Int32, I5837 (ad g 39) 32 = w := ⟨_, rfl⟩
        have bw5845 := BT_get hI5837.1.1 39 32 33 (0) (23760) (700000) (by decide) 32 (by decide) (by decide)
        rw [ew5845] at bw5845
        obtain ⟨w5846, ew5846⟩ : ∃ w : Int32, I5837 (ad g 39) 33 = w := ⟨_, rfl⟩
        have bw5846 := BT_get hI5837.1.1 39 33 34 (0) (1) (30) (by decide) 33 (by decide) (by decide)
        rw [ew5846] at bw5846
        rw [ew5845, ew5846] at pI5837
        refine WQ_iconst (0) (0) dX11_runTrial_34 rfl rfl (fun v5847 hv5847 => ?_)
        refine WP_istore_n (ls' := [(0, _), (1, _), (2, _)]) dX11_runTrial_35 (by decide) rfl ?_
        have lp36_5855 : ∀ (mz : Nat) (i5848 : Int32) (I5849 : pI) (J5850 : pJ), MP g n L I5849 → fz 49 g [0, 35, 36, 37, 39, 40, 41] I I5849 → ∀ (w5851 : Int32), I5849 (ad g 39) 32 = w5851 → ∀ (w5852 : Int32), I5849 (ad g 39) 33 = w5852 → ∀ (w5853 : Int32), I5849 (ad g 0) 10 = w5853 → ∀ (w5854 : Int32), I5849 (ad g 0) 14 = w5854 → ∀ (w5855 : Int32), I5849 (ad g 0) 68 = w5855 → 0 ≤ i5848.toInt → i5848.toInt ≤ 21 → w5851.toInt = 0 → w5852.toInt = 0 → w5853.toInt = w5822.toInt → w5854.toInt = w5823.toInt → w5855.toInt = w5824.toInt → (22 - i5848.toInt).toNat < mz → WP g mX11_runTrial 36 [(0, .ref (ad g 0)), (1, .int dd), (2, .int i5848)] [] I5849 J5850 R (fun r I' J' R' => (MP g n L I' ∧ R' = R ∧ fz 49 g [0, 35, 36, 37, 39, 40, 41] I I' ∧ True ∧ I' (ad g 0) 10 = I (ad g 0) 10 ∧ I' (ad g 0) 14 = I (ad g 0) 14 ∧ I' (ad g 0) 68 = I (ad g 0) 68) ∧ r = none) := by
          intro mz
          induction mz with
          | zero =>
            intro i5848 I5849 J5850 hI5849 fiI5849 w5851 ew5851 w5852 ew5852 w5853 ew5853 w5854 ew5854 w5855 ew5855 ai5848 bi5848 j0_I5849 j1_I5849 j2_I5849 j3_I5849 j4_I5849 hmlp36_5855
            exact absurd hmlp36_5855 (Nat.not_lt_zero _)
          | succ mz ihlp36_5855 =>
            intro i5848 I5849 J5850 hI5849 fiI5849 w5851 ew5851 w5852 ew5852 w5853 ew5853 w5854 ew5854 w5855 ew5855 ai5848 bi5848 j0_I5849 j1_I5849 j2_I5849 j3_I5849 j4_I5849 hmlp36_5855
            have bw5851 := BT_get hI5849.1.1 39 32 33 (0) (23760) (700000) (by decide) 32 (by decide) (by decide)
            rw [ew5851] at bw5851
            have bw5852 := BT_get hI5849.1.1 39 33 34 (0) (1) (30) (by decide) 33 (by decide) (by decide)
            rw [ew5852] at bw5852
            have bw5853 := BT_get hI5849.1.1 0 10 11 (0) (0) (4) (by decide) 10 (by decide) (by decide)
            rw [ew5853] at bw5853
            have bw5854 := BT_get hI5849.1.1 0 14 15 (-1) (0) (2) (by decide) 14 (by decide) (by decide)
            rw [ew5854] at bw5854
            have e5857 : I5849 (ad g 0) 1 = L := hI5849.1.2
            have b5858 := BT_get hI5849.1.1 0 1 2 (0) (0) (900) (by decide) 1 (by decide) (by decide)
            rw [e5857] at b5858
            refine WP_iload_n dX11_runTrial_36 rfl ?_
            refine WP_aload_n dX11_runTrial_37 rfl ?_
            refine WP_getr dX11_runTrial_38 fX11_292 rfl (ly_is hy 0 11 rfl) (rf hr 0 63 41 (by decide)) ?_
            refine WP_alen dX11_runTrial_41 (ly_is hy 41 13 rfl) (by decide) ?_
            rw [(ly_n hy 41 21 rfl)]
            obtain ⟨v5859, hv5859, ev5859⟩ : ∃ v : Int32, v.toInt = 21 ∧ nI 21 = v := ⟨_, nI_toInt (by decide), rfl⟩
            rw [ev5859]; clear ev5859
            refine WQ_icmp_ge 58 dX11_runTrial_42 rfl (fun c5859 => ?_) (fun c5859 => ?_)
            · refine WQ_iconst (0) (0) dX11_runTrial_58 rfl rfl (fun v5861 hv5861 => ?_)
              refine WP_istore_n (ls' := [(0, _), (1, _), (2, _)]) dX11_runTrial_59 (by decide) rfl ?_
              have lp60_5869 : ∀ (mz : Nat) (i5862 : Int32) (I5863 : pI) (J5864 : pJ), MP g n L I5863 → fz 49 g [0, 35, 36, 37, 39, 40, 41] I I5863 → ∀ (w5865 : Int32), I5863 (ad g 39) 32 = w5865 → ∀ (w5866 : Int32), I5863 (ad g 39) 33 = w5866 → ∀ (w5867 : Int32), I5863 (ad g 0) 10 = w5867 → ∀ (w5868 : Int32), I5863 (ad g 0) 14 = w5868 → ∀ (w5869 : Int32), I5863 (ad g 0) 68 = w5869 → 0 ≤ i5862.toInt → i5862.toInt ≤ 28 → w5865.toInt ≤ 23760 * i5862.toInt → w5866.toInt = i5862.toInt → i5862.toInt ≤ dd.toInt → w5867.toInt = w5822.toInt → w5868.toInt = w5823.toInt → w5869.toInt = w5824.toInt → (29 - i5862.toInt).toNat < mz → WP g mX11_runTrial 60 [(0, .ref (ad g 0)), (1, .int dd), (2, .int i5862)] [] I5863 J5864 R (fun r I' J' R' => (MP g n L I' ∧ R' = R ∧ fz 49 g [0, 35, 36, 37, 39, 40, 41] I I' ∧ True ∧ I' (ad g 0) 10 = I (ad g 0) 10 ∧ I' (ad g 0) 14 = I (ad g 0) 14 ∧ I' (ad g 0) 68 = I (ad g 0) 68) ∧ r = none) := by
                intro mz
                induction mz with
                | zero =>
                  intro i5862 I5863 J5864 hI5863 fiI5863 w5865 ew5865 w5866 ew5866 w5867 ew5867 w5868 ew5868 w5869 ew5869 ai5862 bi5862 j0_I5863 j1_I5863 j2_I5863 j3_I5863 j4_I5863 j5_I5863 hmlp60_5869
                  exact absurd hmlp60_5869 (Nat.not_lt_zero _)
                | succ mz ihlp60_5869 =>
                  intro i5862 I5863 J5864 hI5863 fiI5863 w5865 ew5865 w5866 ew5866 w5867 ew5867 w5868 ew5868 w5869 ew5869 ai5862 bi5862 j0_I5863 j1_I5863 j2_I5863 j3_I5863 j4_I5863 j5_I5863 hmlp60_5869
                  have bw5865 := BT_get hI5863.1.1 39 32 33 (0) (23760) (700000) (by decide) 32 (by decide) (by decide)
                  rw [ew5865] at bw5865
                  have bw5866 := BT_get hI5863.1.1 39 33 34 (0) (1) (30) (by decide) 33 (by decide) (by decide)
                  rw [ew5866] at bw5866
                  have bw5867 := BT_get hI5863.1.1 0 10 11 (0) (0) (4) (by decide) 10 (by decide) (by decide)
                  rw [ew5867] at bw5867
                  have bw5868 := BT_get hI5863.1.1 0 14 15 (-1) (0) (2) (by decide) 14 (by decide) (by decide)
                  rw [ew5868] at bw5868
                  have e5871 : I5863 (ad g 0) 1 = L := hI5863.1.2
                  have b5872 := BT_get hI5863.1.1 0 1 2 (0) (0) (900) (by decide) 1 (by decide) (by decide)
                  rw [e5871] at b5872
                  refine WP_iload_n dX11_runTrial_60 rfl ?_
                  refine WP_iload_n dX11_runTrial_61 rfl ?_
                  refine WQ_icmp_ge 80 dX11_runTrial_62 rfl (fun c5872 => ?_) (fun c5872 => ?_)
                  · exact WP_vret dX11_runTrial_80 rfl ⟨⟨hI5863, rfl, fiI5863, ⟨trivial, (by rw [ew5867, ew5822] <;> exact (eq32 _ _).mpr (by omega)), (by rw [ew5868, ew5823] <;> exact (eq32 _ _).mpr (by omega)), (by rw [ew5869, ew5824] <;> exact (eq32 _ _).mpr (by omega))⟩⟩, rfl⟩
                  · refine WP_aload_n dX11_runTrial_65 rfl ?_
                    refine WP_aload_n dX11_runTrial_66 rfl ?_
                    refine WP_getr dX11_runTrial_67 fX11_286 rfl (ly_is hy 0 11 rfl) (rf hr 0 60 39 (by decide)) ?_
                    refine WP_callV1 (k := 11) dX11_runTrial_70 ⟨⟨⟨by decide, by decide⟩, zX11_dayOf⟩, lX11_484, by decide, rfl, vX11_dayOf.1, vX11_dayOf.2⟩ (ly_is hy 0 11 rfl) (sm_dayOf_39 hy hr hI5863   (by omega) (by rw [ew5865, ew5866]; omega)) (Nat.le_of_ble_eq_true rfl) ?_
                    intro r I5874 J5875 Ra hq
                    obtain ⟨⟨hI5874, ec, fiI5874, ⟨pI5874, sI5874_0_10, sI5874_0_14, sI5874_0_68⟩⟩, l5876, rfl⟩ := hq
                    show WP _ _ _ _ (.long _ :: _) _ _ _ _
                    rw [ec]
                    clear ec Ra
                    have fr5877 : fz 49 g [0, 35, 36, 37, 39, 40, 41] I I5874 := fz_tr fiI5863 (fz_mono fiI5874 (by decide))
                    have e5878 : I5874 (ad g 0) 10 = w5867 := by rw [sI5874_0_10]; exact ew5867
                    have e5879 : I5874 (ad g 0) 14 = w5868 := by rw [sI5874_0_14]; exact ew5868
                    have e5880 : I5874 (ad g 0) 68 = w5869 := by rw [sI5874_0_68]; exact ew5869
                    have e5881 : I5874 (ad g 0) 1 = L := hI5874.1.2
                    have b5882 := BT_get hI5874.1.1 0 1 2 (0) (0) (900) (by decide) 1 (by decide) (by decide)
                    rw [e5881] at b5882
                    obtain ⟨w5883, ew5883⟩ : ∃ w : Int32, I5874 (ad g 39) 32 = w := ⟨_, rfl⟩
                    have bw5883 := BT_get hI5874.1.1 39 32 33 (0) (23760) (700000) (by decide) 32 (by decide) (by decide)
                    rw [ew5883] at bw5883
                    obtain ⟨w5884, ew5884⟩ : ∃ w : Int32, I5874 (ad g 39) 33 = w := ⟨_, rfl⟩
                    have bw5884 := BT_get hI5874.1.1 39 33 34 (0) (1) (30) (by decide) 33 (by decide) (by decide)
                    rw [ew5884] at bw5884
                    rw [ew5883, ew5884, ew5865, ew5866] at pI5874
                    refine WP_pop2l dX11_runTrial_73 rfl ?_
                    refine WP_iinc (ls' := [(0, _), (1, _), (2, _)]) dX11_runTrial_74 rfl (by decide) rfl ?_
                    have hv5885 : (i5862 + Int32.ofInt (1)).toInt = i5862.toInt + (1) := ia_n rfl (by omega) (by omega)
                    generalize i5862 + Int32.ofInt (1) = v5885 at hv5885 ⊢
                    refine WP_goto 60 dX11_runTrial_77 rfl ?_
                    exact WP_sub (fc rfl (fc rfl (fc rfl fn))) (ihlp60_5869 v5885 I5874 J5875 hI5874 fr5877 w5883 ew5883 w5884 ew5884 w5867 e5878 w5868 e5879 w5869 e5880 (by omega) (by omega) (by omega) (by omega) (by omega) (by omega) (by omega) (by omega) (by omega))
              exact WP_sub (fc rfl (fc rfl (fc rfl fn))) (lp60_5869 _ v5861 I5849 J5850 hI5849 fiI5849 w5851 ew5851 w5852 ew5852 w5853 ew5853 w5854 ew5854 w5855 ew5855 (by omega) (by omega) (by omega) (by omega) (by omega) (by omega) (by omega) (by omega) (Nat.lt_succ_self _))
            · refine WP_aload_n dX11_runTrial_45 rfl ?_
              refine WP_getr dX11_runTrial_46 fX11_292 rfl (ly_is hy 0 11 rfl) (rf hr 0 63 41 (by decide)) ?_
              refine WP_iload_n dX11_runTrial_49 rfl ?_
              refine WQ_iconst (0) (0) dX11_runTrial_50 rfl rfl (fun v5886 hv5886 => ?_)
              refine WQ_iast dX11_runTrial_51 (ly_is hy 41 13 rfl) (ly_n hy 41 21 rfl) (by omega) (by omega) (fun I5887 eI5887 => ?_)
              have hI5887 : MP g n L I5887 := by rw [eI5887]; exact (mp_w hy hI5849 (c := 41) (mi_r0 hy hI5849.1 (c := 41) (by decide) (Or.inl (by decide)) (by decide)) (by decide) (by decide) (Or.inl (by decide)))
              have e5888 : I5887 (ad g 39) 32 = w5851 := by rw [eI5887, pp_ne _ _ (Or.inl (ly_ne hy (by decide) (by decide) (by decide)))]; exact ew5851
              have e5889 : I5887 (ad g 39) 33 = w5852 := by rw [eI5887, pp_ne _ _ (Or.inl (ly_ne hy (by decide) (by decide) (by decide)))]; exact ew5852
              have e5890 : I5887 (ad g 0) 10 = w5853 := by rw [eI5887, pp_ne _ _ (Or.inl (ly_ne hy (by decide) (by decide) (by decide)))]; exact ew5853
              have e5891 : I5887 (ad g 0) 14 = w5854 := by rw [eI5887, pp_ne _ _ (Or.inl (ly_ne hy (by decide) (by decide) (by decide)))]; exact ew5854
              have e5892 : I5887 (ad g 0) 68 = w5855 := by rw [eI5887, pp_ne _ _ (Or.inl (ly_ne hy (by decide) (by decide) (by decide)))]; exact ew5855
              have e5893 : I5887 (ad g 0) 1 = L := by rw [eI5887, pp_ne _ _ (Or.inl (ly_ne hy (by decide) (by decide) (by decide)))]; exact e5857
              have fr5894 : fz 49 g [0, 35, 36, 37, 39, 40, 41] I I5887 := by rw [eI5887]; exact fzm_pp hy fiI5849 (by decide) (by decide)
              clear eI5887
              refine WP_iinc (ls' := [(0, _), (1, _), (2, _)]) dX11_runTrial_52 rfl (by decide) rfl ?_
              have hv5895 : (i5848 + Int32.ofInt (1)).toInt = i5848.toInt + (1) := ia_n rfl (by omega) (by omega)
              generalize i5848 + Int32.ofInt (1) = v5895 at hv5895 ⊢
              refine WP_goto 36 dX11_runTrial_55 rfl ?_
              exact WP_sub (fc rfl (fc rfl (fc rfl fn))) (ihlp36_5855 v5895 I5887 J5850 hI5887 fr5894 w5851 e5888 w5852 e5889 w5853 e5890 w5854 e5891 w5855 e5892 (by omega) (by omega) (by omega) (by omega) (by omega) (by omega) (by omega) (by omega))
        exact WP_sub (fc rfl (fc rfl (fc rfl fn))) (lp36_5855 _ v5847 I5837 J5838 hI5837 fr5839 w5845 ew5845 w5846 ew5846 w5829 e5840 w5830 e5841 w5831 e5842 (by omega) (by omega) (by omega) (by omega) (by omega) (by omega) (by omega) (Nat.lt_succ_self _))
      · rcases (show (0 ≤ i5826.toInt ∧ i5826.toInt ≤ 3) ∨ (4 ≤ i5826.toInt ∧ i5826.toInt ≤ 7) ∨ (8 ≤ i5826.toInt ∧ i5826.toInt ≤ 31) ∨ (32 ≤ i5826.toInt ∧ i5826.toInt ≤ 32) ∨ (33 ≤ i5826.toInt ∧ i5826.toInt ≤ 33) ∨ (34 ≤ i5826.toInt ∧ i5826.toInt ≤ 34) by omega) with ⟨k5896_0, k5896_1⟩ | ⟨k5896_2, k5896_3⟩ | ⟨k5896_4, k5896_5⟩ | ⟨k5896_6, k5896_7⟩ | ⟨k5896_8, k5896_9⟩ | ⟨k5896_10, k5896_11⟩
        · refine WP_aload_n dX11_runTrial_8 rfl ?_
          refine WP_getr dX11_runTrial_9 fX11_286 rfl (ly_is hy 0 11 rfl) (rf hr 0 60 39 (by decide)) ?_
          refine WP_iload_n dX11_runTrial_12 rfl ?_
          refine WP_aload_n dX11_runTrial_13 rfl ?_
          refine WP_getr dX11_runTrial_14 fX11_283 rfl (ly_is hy 0 11 rfl) (rf hr 0 59 38 (by decide)) ?_
          refine WP_iload_n dX11_runTrial_17 rfl ?_
          refine WQ_ialdr dX11_runTrial_18 (ly_is hy 38 13 rfl) (ly_n hy 38 35 rfl) (by omega) (by omega) (a := 0) (b := 4) (by omega) (by omega) (fun q hq1 hq2 => BT_get hI5827.1.1 38 0 4 (0) (0) (60) (by decide) q hq1 hq2) (fun v5897 av5897 bv5897 => ?_)
          refine WQ_iast dX11_runTrial_19 (ly_is hy 39 13 rfl) (ly_n hy 39 35 rfl) (by omega) (by omega) (fun I5898 eI5898 => ?_)
          have hI5898 : MP g n L I5898 := by rw [eI5898]; exact (mp_w hy hI5827 (c := 39) (mi_rr hy hI5827.1 (c := 39) (0) (3) (0) (0) (60) (by decide) (Or.inl (by decide)) (by rw [cl (n := i5826.toInt.toNat) (by omega)]; omega) (by decide) (fun _ => ⟨by omega, by omega⟩)) (by decide) (by decide) (Or.inl (by decide)))
          have e5899 : I5898 (ad g 0) 10 = w5829 := by rw [eI5898, pp_ne _ _ (Or.inl (ly_ne hy (by decide) (by decide) (by decide)))]; exact ew5829
          have e5900 : I5898 (ad g 0) 14 = w5830 := by rw [eI5898, pp_ne _ _ (Or.inl (ly_ne hy (by decide) (by decide) (by decide)))]; exact ew5830
          have e5901 : I5898 (ad g 0) 68 = w5831 := by rw [eI5898, pp_ne _ _ (Or.inl (ly_ne hy (by decide) (by decide) (by decide)))]; exact ew5831
          have e5902 : I5898 (ad g 0) 1 = L := by rw [eI5898, pp_ne _ _ (Or.inl (ly_ne hy (by decide) (by decide) (by decide)))]; exact e5833
          have fr5903 : fz 49 g [0, 35, 36, 37, 39, 40, 41] I I5898 := by rw [eI5898]; exact fzm_pp hy fiI5827 (by decide) (by decide)
          clear eI5898
          refine WP_iinc (ls' := [(0, _), (1, _), (2, _)]) dX11_runTrial_20 rfl (by decide) rfl ?_
          have hv5904 : (i5826 + Int32.ofInt (1)).toInt = i5826.toInt + (1) := ia_n rfl (by omega) (by omega)
          generalize i5826 + Int32.ofInt (1) = v5904 at hv5904 ⊢
          refine WP_goto 2 dX11_runTrial_23 rfl ?_
          exact WP_sub (fc rfl (fc rfl (fc rfl fn))) (ihlp2_5831 v5904 I5898 J5828 hI5898 fr5903 w5829 e5899 w5830 e5900 w5831 e5901 (by omega) (by omega) (by omega) (by omega) (by omega) (by omega))
        · refine WP_aload_n dX11_runTrial_8 rfl ?_
          refine WP_getr dX11_runTrial_9 fX11_286 rfl (ly_is hy 0 11 rfl) (rf hr 0 60 39 (by decide)) ?_
          refine WP_iload_n dX11_runTrial_12 rfl ?_
          refine WP_aload_n dX11_runTrial_13 rfl ?_
          refine WP_getr dX11_runTrial_14 fX11_283 rfl (ly_is hy 0 11 rfl) (rf hr 0 59 38 (by decide)) ?_
          refine WP_iload_n dX11_runTrial_17 rfl ?_
          refine WQ_ialdr dX11_runTrial_18 (ly_is hy 38 13 rfl) (ly_n hy 38 35 rfl) (by omega) (by omega) (a := 4) (b := 8) (by omega) (by omega) (fun q hq1 hq2 => BT_get hI5827.1.1 38 4 8 (0) (0) (5) (by decide) q hq1 hq2) (fun v5905 av5905 bv5905 => ?_)
          refine WQ_iast dX11_runTrial_19 (ly_is hy 39 13 rfl) (ly_n hy 39 35 rfl) (by omega) (by omega) (fun I5906 eI5906 => ?_)
          have hI5906 : MP g n L I5906 := by rw [eI5906]; exact (mp_w hy hI5827 (c := 39) (mi_rr hy hI5827.1 (c := 39) (4) (7) (0) (0) (5) (by decide) (Or.inl (by decide)) (by rw [cl (n := i5826.toInt.toNat) (by omega)]; omega) (by decide) (fun _ => ⟨by omega, by omega⟩)) (by decide) (by decide) (Or.inl (by decide)))
          have e5907 : I5906 (ad g 0) 10 = w5829 := by rw [eI5906, pp_ne _ _ (Or.inl (ly_ne hy (by decide) (by decide) (by decide)))]; exact ew5829
          have e5908 : I5906 (ad g 0) 14 = w5830 := by rw [eI5906, pp_ne _ _ (Or.inl (ly_ne hy (by decide) (by decide) (by decide)))]; exact ew5830
          have e5909 : I5906 (ad g 0) 68 = w5831 := by rw [eI5906, pp_ne _ _ (Or.inl (ly_ne hy (by decide) (by decide) (by decide)))]; exact ew5831
          have e5910 : I5906 (ad g 0) 1 = L := by rw [eI5906, pp_ne _ _ (Or.inl (ly_ne hy (by decide) (by decide) (by decide)))]; exact e5833
          have fr5911 : fz 49 g [0, 35, 36, 37, 39, 40, 41] I I5906 := by rw [eI5906]; exact fzm_pp hy fiI5827 (by decide) (by decide)
          clear eI5906
          refine WP_iinc (ls' := [(0, _), (1, _), (2, _)]) dX11_runTrial_20 rfl (by decide) rfl ?_
          have hv5912 : (i5826 + Int32.ofInt (1)).toInt = i5826.toInt + (1) := ia_n rfl (by omega) (by omega)
          generalize i5826 + Int32.ofInt (1) = v5912 at hv5912 ⊢
          refine WP_goto 2 dX11_runTrial_23 rfl ?_
          exact WP_sub (fc rfl (fc rfl (fc rfl fn))) (ihlp2_5831 v5912 I5906 J5828 hI5906 fr5911 w5829 e5907 w5830 e5908 w5831 e5909 (by omega) (by omega) (by omega) (by omega) (by omega) (by omega))
        · refine WP_aload_n dX11_runTrial_8 rfl ?_
          refine WP_getr dX11_runTrial_9 fX11_286 rfl (ly_is hy 0 11 rfl) (rf hr 0 60 39 (by decide)) ?_
          refine WP_iload_n dX11_runTrial_12 rfl ?_
          refine WP_aload_n dX11_runTrial_13 rfl ?_
          refine WP_getr dX11_runTrial_14 fX11_283 rfl (ly_is hy 0 11 rfl) (rf hr 0 59 38 (by decide)) ?_
          refine WP_iload_n dX11_runTrial_17 rfl ?_
          refine WQ_ialdu dX11_runTrial_18 (ly_is hy 38 13 rfl) (ly_n hy 38 35 rfl) (by omega) (by omega) (fun v5913 => ?_)
          refine WQ_iast dX11_runTrial_19 (ly_is hy 39 13 rfl) (ly_n hy 39 35 rfl) (by omega) (by omega) (fun I5914 eI5914 => ?_)
          have hI5914 : MP g n L I5914 := by rw [eI5914]; exact (mp_w hy hI5827 (c := 39) (mi_rr hy hI5827.1 (c := 39) (8) (31) (0) (0) (0) (by decide) (Or.inl (by decide)) (by rw [cl (n := i5826.toInt.toNat) (by omega)]; omega) (by decide) (fun h => absurd h (by decide))) (by decide) (by decide) (Or.inl (by decide)))
          have e5915 : I5914 (ad g 0) 10 = w5829 := by rw [eI5914, pp_ne _ _ (Or.inl (ly_ne hy (by decide) (by decide) (by decide)))]; exact ew5829
          have e5916 : I5914 (ad g 0) 14 = w5830 := by rw [eI5914, pp_ne _ _ (Or.inl (ly_ne hy (by decide) (by decide) (by decide)))]; exact ew5830
          have e5917 : I5914 (ad g 0) 68 = w5831 := by rw [eI5914, pp_ne _ _ (Or.inl (ly_ne hy (by decide) (by decide) (by decide)))]; exact ew5831
          have e5918 : I5914 (ad g 0) 1 = L := by rw [eI5914, pp_ne _ _ (Or.inl (ly_ne hy (by decide) (by decide) (by decide)))]; exact e5833
          have fr5919 : fz 49 g [0, 35, 36, 37, 39, 40, 41] I I5914 := by rw [eI5914]; exact fzm_pp hy fiI5827 (by decide) (by decide)
          clear eI5914
          refine WP_iinc (ls' := [(0, _), (1, _), (2, _)]) dX11_runTrial_20 rfl (by decide) rfl ?_
          have hv5920 : (i5826 + Int32.ofInt (1)).toInt = i5826.toInt + (1) := ia_n rfl (by omega) (by omega)
          generalize i5826 + Int32.ofInt (1) = v5920 at hv5920 ⊢
          refine WP_goto 2 dX11_runTrial_23 rfl ?_
          exact WP_sub (fc rfl (fc rfl (fc rfl fn))) (ihlp2_5831 v5920 I5914 J5828 hI5914 fr5919 w5829 e5915 w5830 e5916 w5831 e5917 (by omega) (by omega) (by omega) (by omega) (by omega) (by omega))
        · refine WP_aload_n dX11_runTrial_8 rfl ?_
          refine WP_getr dX11_runTrial_9 fX11_286 rfl (ly_is hy 0 11 rfl) (rf hr 0 60 39 (by decide)) ?_
          refine WP_iload_n dX11_runTrial_12 rfl ?_
          refine WP_aload_n dX11_runTrial_13 rfl ?_
          refine WP_getr dX11_runTrial_14 fX11_283 rfl (ly_is hy 0 11 rfl) (rf hr 0 59 38 (by decide)) ?_
          refine WP_iload_n dX11_runTrial_17 rfl ?_
          refine WQ_ialdr dX11_runTrial_18 (ly_is hy 38 13 rfl) (ly_n hy 38 35 rfl) (by omega) (by omega) (a := 32) (b := 33) (by omega) (by omega) (fun q hq1 hq2 => BT_get hI5827.1.1 38 32 33 (0) (23760) (0) (by decide) q hq1 hq2) (fun v5921 av5921 bv5921 => ?_)
          refine WQ_iast dX11_runTrial_19 (ly_is hy 39 13 rfl) (ly_n hy 39 35 rfl) (by omega) (by omega) (fun I5922 eI5922 => ?_)
          have hI5922 : MP g n L I5922 := by rw [eI5922]; exact (mp_w hy hI5827 (c := 39) (mi_rr hy hI5827.1 (c := 39) (32) (32) (0) (23760) (700000) (by decide) (Or.inl (by decide)) (by rw [cl (n := i5826.toInt.toNat) (by omega)]; omega) (by decide) (fun _ => ⟨by omega, by omega⟩)) (by decide) (by decide) (Or.inl (by decide)))
          have e5923 : I5922 (ad g 0) 10 = w5829 := by rw [eI5922, pp_ne _ _ (Or.inl (ly_ne hy (by decide) (by decide) (by decide)))]; exact ew5829
          have e5924 : I5922 (ad g 0) 14 = w5830 := by rw [eI5922, pp_ne _ _ (Or.inl (ly_ne hy (by decide) (by decide) (by decide)))]; exact ew5830
          have e5925 : I5922 (ad g 0) 68 = w5831 := by rw [eI5922, pp_ne _ _ (Or.inl (ly_ne hy (by decide) (by decide) (by decide)))]; exact ew5831
          have e5926 : I5922 (ad g 0) 1 = L := by rw [eI5922, pp_ne _ _ (Or.inl (ly_ne hy (by decide) (by decide) (by decide)))]; exact e5833
          have fr5927 : fz 49 g [0, 35, 36, 37, 39, 40, 41] I I5922 := by rw [eI5922]; exact fzm_pp hy fiI5827 (by decide) (by decide)
          clear eI5922
          refine WP_iinc (ls' := [(0, _), (1, _), (2, _)]) dX11_runTrial_20 rfl (by decide) rfl ?_
          have hv5928 : (i5826 + Int32.ofInt (1)).toInt = i5826.toInt + (1) := ia_n rfl (by omega) (by omega)
          generalize i5826 + Int32.ofInt (1) = v5928 at hv5928 ⊢
          refine WP_goto 2 dX11_runTrial_23 rfl ?_
          exact WP_sub (fc rfl (fc rfl (fc rfl fn))) (ihlp2_5831 v5928 I5922 J5828 hI5922 fr5927 w5829 e5923 w5830 e5924 w5831 e5925 (by omega) (by omega) (by omega) (by omega) (by omega) (by omega))
        · refine WP_aload_n dX11_runTrial_8 rfl ?_
          refine WP_getr dX11_runTrial_9 fX11_286 rfl (ly_is hy 0 11 rfl) (rf hr 0 60 39 (by decide)) ?_
          refine WP_iload_n dX11_runTrial_12 rfl ?_
          refine WP_aload_n dX11_runTrial_13 rfl ?_
          refine WP_getr dX11_runTrial_14 fX11_283 rfl (ly_is hy 0 11 rfl) (rf hr 0 59 38 (by decide)) ?_
          refine WP_iload_n dX11_runTrial_17 rfl ?_
          refine WQ_ialdr dX11_runTrial_18 (ly_is hy 38 13 rfl) (ly_n hy 38 35 rfl) (by omega) (by omega) (a := 33) (b := 34) (by omega) (by omega) (fun q hq1 hq2 => BT_get hI5827.1.1 38 33 34 (0) (1) (0) (by decide) q hq1 hq2) (fun v5929 av5929 bv5929 => ?_)
          refine WQ_iast dX11_runTrial_19 (ly_is hy 39 13 rfl) (ly_n hy 39 35 rfl) (by omega) (by omega) (fun I5930 eI5930 => ?_)
          have hI5930 : MP g n L I5930 := by rw [eI5930]; exact (mp_w hy hI5827 (c := 39) (mi_rr hy hI5827.1 (c := 39) (33) (33) (0) (1) (30) (by decide) (Or.inl (by decide)) (by rw [cl (n := i5826.toInt.toNat) (by omega)]; omega) (by decide) (fun _ => ⟨by omega, by omega⟩)) (by decide) (by decide) (Or.inl (by decide)))
          have e5931 : I5930 (ad g 0) 10 = w5829 := by rw [eI5930, pp_ne _ _ (Or.inl (ly_ne hy (by decide) (by decide) (by decide)))]; exact ew5829
          have e5932 : I5930 (ad g 0) 14 = w5830 := by rw [eI5930, pp_ne _ _ (Or.inl (ly_ne hy (by decide) (by decide) (by decide)))]; exact ew5830
          have e5933 : I5930 (ad g 0) 68 = w5831 := by rw [eI5930, pp_ne _ _ (Or.inl (ly_ne hy (by decide) (by decide) (by decide)))]; exact ew5831
          have e5934 : I5930 (ad g 0) 1 = L := by rw [eI5930, pp_ne _ _ (Or.inl (ly_ne hy (by decide) (by decide) (by decide)))]; exact e5833
          have fr5935 : fz 49 g [0, 35, 36, 37, 39, 40, 41] I I5930 := by rw [eI5930]; exact fzm_pp hy fiI5827 (by decide) (by decide)
          clear eI5930
          refine WP_iinc (ls' := [(0, _), (1, _), (2, _)]) dX11_runTrial_20 rfl (by decide) rfl ?_
          have hv5936 : (i5826 + Int32.ofInt (1)).toInt = i5826.toInt + (1) := ia_n rfl (by omega) (by omega)
          generalize i5826 + Int32.ofInt (1) = v5936 at hv5936 ⊢
          refine WP_goto 2 dX11_runTrial_23 rfl ?_
          exact WP_sub (fc rfl (fc rfl (fc rfl fn))) (ihlp2_5831 v5936 I5930 J5828 hI5930 fr5935 w5829 e5931 w5830 e5932 w5831 e5933 (by omega) (by omega) (by omega) (by omega) (by omega) (by omega))
        · refine WP_aload_n dX11_runTrial_8 rfl ?_
          refine WP_getr dX11_runTrial_9 fX11_286 rfl (ly_is hy 0 11 rfl) (rf hr 0 60 39 (by decide)) ?_
          refine WP_iload_n dX11_runTrial_12 rfl ?_
          refine WP_aload_n dX11_runTrial_13 rfl ?_
          refine WP_getr dX11_runTrial_14 fX11_283 rfl (ly_is hy 0 11 rfl) (rf hr 0 59 38 (by decide)) ?_
          refine WP_iload_n dX11_runTrial_17 rfl ?_
          refine WQ_ialdu dX11_runTrial_18 (ly_is hy 38 13 rfl) (ly_n hy 38 35 rfl) (by omega) (by omega) (fun v5937 => ?_)
          refine WQ_iast dX11_runTrial_19 (ly_is hy 39 13 rfl) (ly_n hy 39 35 rfl) (by omega) (by omega) (fun I5938 eI5938 => ?_)
          have hI5938 : MP g n L I5938 := by rw [eI5938]; exact (mp_w hy hI5827 (c := 39) (mi_rr hy hI5827.1 (c := 39) (34) (34) (0) (0) (0) (by decide) (Or.inl (by decide)) (by rw [cl (n := i5826.toInt.toNat) (by omega)]; omega) (by decide) (fun h => absurd h (by decide))) (by decide) (by decide) (Or.inl (by decide)))
          have e5939 : I5938 (ad g 0) 10 = w5829 := by rw [eI5938, pp_ne _ _ (Or.inl (ly_ne hy (by decide) (by decide) (by decide)))]; exact ew5829
          have e5940 : I5938 (ad g 0) 14 = w5830 := by rw [eI5938, pp_ne _ _ (Or.inl (ly_ne hy (by decide) (by decide) (by decide)))]; exact ew5830
          have e5941 : I5938 (ad g 0) 68 = w5831 := by rw [eI5938, pp_ne _ _ (Or.inl (ly_ne hy (by decide) (by decide) (by decide)))]; exact ew5831
          have e5942 : I5938 (ad g 0) 1 = L := by rw [eI5938, pp_ne _ _ (Or.inl (ly_ne hy (by decide) (by decide) (by decide)))]; exact e5833
          have fr5943 : fz 49 g [0, 35, 36, 37, 39, 40, 41] I I5938 := by rw [eI5938]; exact fzm_pp hy fiI5827 (by decide) (by decide)
          clear eI5938
          refine WP_iinc (ls' := [(0, _), (1, _), (2, _)]) dX11_runTrial_20 rfl (by decide) rfl ?_
          have hv5944 : (i5826 + Int32.ofInt (1)).toInt = i5826.toInt + (1) := ia_n rfl (by omega) (by omega)
          generalize i5826 + Int32.ofInt (1) = v5944 at hv5944 ⊢
          refine WP_goto 2 dX11_runTrial_23 rfl ?_
          exact WP_sub (fc rfl (fc rfl (fc rfl fn))) (ihlp2_5831 v5944 I5938 J5828 hI5938 fr5943 w5829 e5939 w5830 e5940 w5831 e5941 (by omega) (by omega) (by omega) (by omega) (by omega) (by omega))
  exact WP_sub (fc rfl (fc rfl (fc rfl fn))) (lp2_5831 _ v5825 I J hI fr0 w5822 ew5822 w5823 ew5823 w5824 ew5824 (by omega) (by omega) (by omega) (by omega) (by omega) (Nat.lt_succ_self _))
set_option maxHeartbeats 4000000 in
set_option maxRecDepth 100000 in
theorem sm_worthOf {g : GG} {n : Int} {L : Int32} (hy : Ly g)  {I : pI} {J : pJ} {R : pR} (hr : Rf g R) (hI : MP g n L I) (ra : Int32) (we : Int32) (ra_lo : 0 ≤ ra.toInt) (ra_hi : ra.toInt ≤ 18) (we_lo : 1 ≤ we.toInt) (we_hi : we.toInt ≤ 4) (hn : 0 ≤ n ∧ n ≤ 40000) : SP g mX11_worthOf [.ref (ad g 0), .int ra, .int we] I J R (fun r I' J' R' => (MP g n L I' ∧ R' = R) ∧ ∃ v : Int32, r = some (.int v)) := by
  refine SP_of ⟨by decide, rfl⟩ (Nat.le_of_ble_eq_true rfl) ?_
  have e5945 : I (ad g 0) 1 = L := hI.1.2
  have b5946 := BT_get hI.1.1 0 1 2 (0) (0) (900) (by decide) 1 (by decide) (by decide)
  rw [e5945] at b5946
  refine WP_aload_n dX11_worthOf_0 rfl ?_
  refine WQ_bipush (50) (50) dX11_worthOf_1 rfl rfl (fun v5947 hv5947 => ?_)
  refine WP_iload_n dX11_worthOf_3 rfl ?_
  refine WQ_imulK (50) dX11_worthOf_4 hv5947 (by omega) (by omega) (fun v5948 hv5948 => ?_)
  refine WQ_puti dX11_worthOf_5 fX11_273 rfl rfl (ly_is hy 0 11 rfl) (fun I5949 eI5949 => ?_)
  have hI5949 : MP g n L I5949 := by rw [eI5949]; exact (mp_w hy hI (c := 0) (mi_f hy hI.1 (c := 0) (-1) (0) (900) (by decide) (Or.inr (by decide)) (by decide) (by omega) (by omega)) (by decide) (by decide) (Or.inr (by decide)))
  have e5950 : I5949 (ad g 0) 1 = L := by rw [eI5949, pp_ne _ _ (Or.inr (by decide))]; exact e5945
  have e5951 : I5949 (ad g 0) 55 = v5948 := by rw [eI5949, pp_self]
  clear eI5949
  refine WP_aload_n dX11_worthOf_8 rfl ?_
  refine WP_callV0 (k := 11) dX11_worthOf_9 ⟨⟨⟨by decide, by decide⟩, zX11_forgetWeeks⟩, lX11_350, by decide, rfl, vX11_forgetWeeks.1, vX11_forgetWeeks.2⟩ (ly_is hy 0 11 rfl) (sm_forgetWeeksx hy hr hI5949  ) (Nat.le_of_ble_eq_true rfl) ?_
  intro r I5952 J5953 Ra hq
  obtain ⟨⟨hI5952, ec, fiI5952⟩, rfl⟩ := hq
  rw [ec]
  clear ec Ra
  have e5954 : I5952 (ad g 0) 55 = v5948 := by rw [fz_at fiI5952 0 (by decide) (by decide)]; exact e5951
  have e5955 : I5952 (ad g 0) 1 = L := hI5952.1.2
  have b5956 := BT_get hI5952.1.1 0 1 2 (0) (0) (900) (by decide) 1 (by decide) (by decide)
  rw [e5955] at b5956
  refine WP_aload_n dX11_worthOf_12 rfl ?_
  refine WQ_bipush (7) (7) dX11_worthOf_13 rfl rfl (fun v5957 hv5957 => ?_)
  refine WP_iload_n dX11_worthOf_15 rfl ?_
  refine WQ_imulK (7) dX11_worthOf_16 hv5957 (by omega) (by omega) (fun v5958 hv5958 => ?_)
  refine WP_callV1 (k := 11) dX11_worthOf_17 ⟨⟨⟨by decide, by decide⟩, zX11_runTrial⟩, lX11_497, by decide, rfl, vX11_runTrial.1, vX11_runTrial.2⟩ (ly_is hy 0 11 rfl) (sm_runTrial hy hr hI5952 v5958 (by omega) (by omega) (by omega)) (Nat.le_of_ble_eq_true rfl) ?_
  intro r I5959 J5960 Ra hq
  obtain ⟨⟨hI5959, ec, fiI5959, ⟨pI5959, sI5959_0_10, sI5959_0_14, sI5959_0_68⟩⟩, rfl⟩ := hq
  rw [ec]
  clear ec Ra
  have e5961 : I5959 (ad g 0) 1 = L := hI5959.1.2
  have b5962 := BT_get hI5959.1.1 0 1 2 (0) (0) (900) (by decide) 1 (by decide) (by decide)
  rw [e5961] at b5962
  refine WP_aload_n dX11_worthOf_20 rfl ?_
  refine WQ_iconst (-1) (-1) dX11_worthOf_21 rfl rfl (fun v5963 hv5963 => ?_)
  refine WQ_puti dX11_worthOf_22 fX11_273 rfl rfl (ly_is hy 0 11 rfl) (fun I5964 eI5964 => ?_)
  have hI5964 : MP g n L I5964 := by rw [eI5964]; exact (mp_w hy hI5959 (c := 0) (mi_f hy hI5959.1 (c := 0) (-1) (0) (900) (by decide) (Or.inr (by decide)) (by decide) (by omega) (by omega)) (by decide) (by decide) (Or.inr (by decide)))
  have e5965 : I5964 (ad g 0) 1 = L := by rw [eI5964, pp_ne _ _ (Or.inr (by decide))]; exact e5961
  have e5966 : I5964 (ad g 0) 55 = v5963 := by rw [eI5964, pp_self]
  clear eI5964
  refine WP_aload_n dX11_worthOf_25 rfl ?_
  refine WP_callV0 (k := 11) dX11_worthOf_26 ⟨⟨⟨by decide, by decide⟩, zX11_forgetWeeks⟩, lX11_350, by decide, rfl, vX11_forgetWeeks.1, vX11_forgetWeeks.2⟩ (ly_is hy 0 11 rfl) (sm_forgetWeeksx hy hr hI5964  ) (Nat.le_of_ble_eq_true rfl) ?_
  intro r I5967 J5968 Ra hq
  obtain ⟨⟨hI5967, ec, fiI5967⟩, rfl⟩ := hq
  rw [ec]
  clear ec Ra
  have e5969 : I5967 (ad g 0) 55 = v5963 := by rw [fz_at fiI5967 0 (by decide) (by decide)]; exact e5966
  have e5970 : I5967 (ad g 0) 1 = L := hI5967.1.2
  have b5971 := BT_get hI5967.1.1 0 1 2 (0) (0) (900) (by decide) 1 (by decide) (by decide)
  rw [e5970] at b5971
  refine WQ_iconst (0) (0) dX11_worthOf_29 rfl rfl (fun v5972 hv5972 => ?_)
  refine WP_istore_n (ls' := [(0, _), (1, _), (2, _), (3, _)]) dX11_worthOf_30 (by decide) rfl ?_
  refine WQ_iconst (0) (0) dX11_worthOf_31 rfl rfl (fun v5973 hv5973 => ?_)
  refine WP_istore (ls' := [(0, _), (1, _), (2, _), (3, _), (4, _)]) dX11_worthOf_32 (by decide) rfl ?_
  have lp34_5975 : ∀ (mz : Nat) (i5974 : Int32) (i5975 : Int32), 0 ≤ i5975.toInt → i5975.toInt ≤ 4 → (5 - i5975.toInt).toNat < mz → WP g mX11_worthOf 34 [(0, .ref (ad g 0)), (1, .int ra), (2, .int we), (3, .int i5974), (4, .int i5975)] [] I5967 J5968 R (fun r I' J' R' => (MP g n L I' ∧ R' = R) ∧ ∃ v : Int32, r = some (.int v)) := by
    intro mz
    induction mz with
    | zero =>
      intro i5974 i5975 ai5975 bi5975 hmlp34_5975
      exact absurd hmlp34_5975 (Nat.not_lt_zero _)
    | succ mz ihlp34_5975 =>
      intro i5974 i5975 ai5975 bi5975 hmlp34_5975
      refine WP_iload dX11_worthOf_34 rfl ?_
      refine WP_aload_n dX11_worthOf_36 rfl ?_
      refine WQ_geti dX11_worthOf_37 fX11_329 rfl (ly_is hy 0 11 rfl) (BT_get hI5967.1.1 0 10 11 (0) (0) (4) (by decide) 10 (by decide) (by decide)) (fun v5977 ev5977 av5977 bv5977 => ?_)
      refine WQ_icmp_ge 62 dX11_worthOf_40 rfl (fun c5977 => ?_) (fun c5977 => ?_)
      · refine WP_iload_n dX11_worthOf_62 rfl ?_
        exact WP_iret dX11_worthOf_63 rfl ⟨⟨hI5967, rfl⟩, _, rfl⟩
      · refine WP_iload_n dX11_worthOf_43 rfl ?_
        refine WP_aload_n dX11_worthOf_44 rfl ?_
        refine WP_getr dX11_worthOf_45 fX11_286 rfl (ly_is hy 0 11 rfl) (rf hr 0 60 39 (by decide)) ?_
        refine WQ_bipush (16) (16) dX11_worthOf_48 rfl rfl (fun v5979 hv5979 => ?_)
        refine WP_iload dX11_worthOf_50 rfl ?_
        refine WQ_iadd dX11_worthOf_52 (by omega) (by omega) (fun v5980 hv5980 => ?_)
        refine WQ_ialdu dX11_worthOf_53 (ly_is hy 39 13 rfl) (ly_n hy 39 35 rfl) (by omega) (by omega) (fun v5981 => ?_)
        refine WQ_iaddu dX11_worthOf_54 (fun v5982 => ?_)
        refine WP_istore_n (ls' := [(0, _), (1, _), (2, _), (3, _), (4, _)]) dX11_worthOf_55 (by decide) rfl ?_
        refine WP_iinc (ls' := [(0, _), (1, _), (2, _), (3, _), (4, _)]) dX11_worthOf_56 rfl (by decide) rfl ?_
        have hv5983 : (i5975 + Int32.ofInt (1)).toInt = i5975.toInt + (1) := ia_n rfl (by omega) (by omega)
        generalize i5975 + Int32.ofInt (1) = v5983 at hv5983 ⊢
        refine WP_goto 34 dX11_worthOf_59 rfl ?_
        exact WP_sub (fc rfl (fc rfl (fc rfl (fc rfl (fc rfl fn))))) (ihlp34_5975 v5982 v5983 (by omega) (by omega) (by omega))
  exact WP_sub (fc rfl (fc rfl (fc rfl (fc rfl (fc rfl fn))))) (lp34_5975 _ v5972 v5973 (by omega) (by omega) (Nat.lt_succ_self _))
set_option maxHeartbeats 4000000 in
set_option maxRecDepth 100000 in
theorem sm_worthAt {g : GG} {n : Int} {L : Int32} (hy : Ly g)  {I : pI} {J : pJ} {R : pR} (hr : Rf g R) (hI : MP g n L I) (a : Int32) (b : Int32)  (hn : 0 ≤ n ∧ n ≤ 40000) : SP g mX11_worthAt [.ref (ad g 0), .int a, .int b] I J R (fun r I' J' R' => (MP g n L I' ∧ R' = R) ∧ ∃ v : Int32, r = some (.int v)) := by
  refine SP_of ⟨by decide, rfl⟩ (Nat.le_of_ble_eq_true rfl) ?_
  have e5984 : I (ad g 0) 1 = L := hI.1.2
  have b5985 := BT_get hI.1.1 0 1 2 (0) (0) (900) (by decide) 1 (by decide) (by decide)
  rw [e5984] at b5985
  refine WP_iload_n dX11_worthAt_0 rfl ?_
  refine WQ_i2l dX11_worthAt_1 (fun l5986 hl5986 => ?_)
  refine WP_lconst (0) dX11_worthAt_2 rfl ?_
  obtain ⟨l5987, hl5987, el5987⟩ : ∃ v : Int64, v.toInt = 0 ∧ (0 : Int64) = v := ⟨_, rfl, rfl⟩
  rw [el5987]; clear el5987
  refine WP_ldc2 (18) dX11_worthAt_3 klX11_500 ?_
  obtain ⟨l5988, hl5988, el5988⟩ : ∃ v : Int64, v.toInt = (18) ∧ ((18) : Int64) = v := ⟨_, rfl, rfl⟩
  rw [el5988]; clear el5988
  refine WP_callS3 dX11_worthAt_6 ⟨⟨⟨by decide, by decide⟩, zX11_in⟩, lX11_52, tX11_in⟩ (sm_in hy hr hI l5986 l5987 l5988 ) (Nat.le_of_ble_eq_true rfl) ?_
  intro r Ia Ja Ra hq
  obtain ⟨⟨ea, eb, ec⟩, v5989, rfl, av5989, bv5989, cv5989⟩ := hq
  show WP _ _ _ _ (.int _ :: _) _ _ _ _
  rw [ea, eb, ec]
  clear ea eb ec Ia Ja Ra
  refine WQ_if_eq 33 dX11_worthAt_9 rfl (fun c5989 => ?_) (fun c5989 => ?_)
  · refine WQ_bipush (-2) (-2) dX11_worthAt_33 rfl rfl (fun v5991 hv5991 => ?_)
    exact WP_iret dX11_worthAt_35 rfl ⟨⟨hI, rfl⟩, _, rfl⟩
  · refine WP_iload_n dX11_worthAt_12 rfl ?_
    refine WQ_i2l dX11_worthAt_13 (fun l5992 hl5992 => ?_)
    refine WP_lconst (1) dX11_worthAt_14 rfl ?_
    obtain ⟨l5993, hl5993, el5993⟩ : ∃ v : Int64, v.toInt = 1 ∧ (1 : Int64) = v := ⟨_, rfl, rfl⟩
    rw [el5993]; clear el5993
    refine WP_ldc2 (4) dX11_worthAt_15 klX11_452 ?_
    obtain ⟨l5994, hl5994, el5994⟩ : ∃ v : Int64, v.toInt = (4) ∧ ((4) : Int64) = v := ⟨_, rfl, rfl⟩
    rw [el5994]; clear el5994
    refine WP_callS3 dX11_worthAt_18 ⟨⟨⟨by decide, by decide⟩, zX11_in⟩, lX11_52, tX11_in⟩ (sm_in hy hr hI l5992 l5993 l5994 ) (Nat.le_of_ble_eq_true rfl) ?_
    intro r Ia Ja Ra hq
    obtain ⟨⟨ea, eb, ec⟩, v5995, rfl, av5995, bv5995, cv5995⟩ := hq
    show WP _ _ _ _ (.int _ :: _) _ _ _ _
    rw [ea, eb, ec]
    clear ea eb ec Ia Ja Ra
    refine WQ_if_eq 33 dX11_worthAt_21 rfl (fun c5995 => ?_) (fun c5995 => ?_)
    · refine WQ_bipush (-2) (-2) dX11_worthAt_33 rfl rfl (fun v5997 hv5997 => ?_)
      exact WP_iret dX11_worthAt_35 rfl ⟨⟨hI, rfl⟩, _, rfl⟩
    · refine WP_aload_n dX11_worthAt_24 rfl ?_
      refine WP_iload_n dX11_worthAt_25 rfl ?_
      refine WP_iload_n dX11_worthAt_26 rfl ?_
      refine WP_callV2 (k := 11) dX11_worthAt_27 ⟨⟨⟨by decide, by decide⟩, zX11_worthOf⟩, lX11_502, by decide, rfl, vX11_worthOf.1, vX11_worthOf.2⟩ (ly_is hy 0 11 rfl) (sm_worthOf hy hr hI a b (by omega) (by omega) (by omega) (by omega) (by omega)) (Nat.le_of_ble_eq_true rfl) ?_
      intro r I5998 J5999 Ra hq
      obtain ⟨⟨hI5998, ec⟩, v6000, rfl⟩ := hq
      show WP _ _ _ _ (.int _ :: _) _ _ _ _
      rw [ec]
      clear ec Ra
      have e6001 : I5998 (ad g 0) 1 = L := hI5998.1.2
      have b6002 := BT_get hI5998.1.1 0 1 2 (0) (0) (900) (by decide) 1 (by decide) (by decide)
      rw [e6001] at b6002
      refine WP_goto 35 dX11_worthAt_30 rfl ?_
      exact WP_iret dX11_worthAt_35 rfl ⟨⟨hI5998, rfl⟩, _, rfl⟩
set_option maxHeartbeats 4000000 in
set_option maxRecDepth 100000 in
theorem sm_rate {g : GG} {n : Int} {L : Int32} (hy : Ly g)  {I : pI} {J : pJ} {R : pR} (hr : Rf g R) (hI : MP g n L I) (a : Int32)  (hn : 0 ≤ n ∧ n ≤ 40000) : SP g mX11_rate [.ref (ad g 0), .int a] I J R (fun r I' J' R' => (MP g n L I' ∧ R' = R) ∧ ∃ v : Int32, r = some (.int v)) := by
  refine SP_of ⟨by decide, rfl⟩ (Nat.le_of_ble_eq_true rfl) ?_
  have e6003 : I (ad g 0) 1 = L := hI.1.2
  have b6004 := BT_get hI.1.1 0 1 2 (0) (0) (900) (by decide) 1 (by decide) (by decide)
  rw [e6003] at b6004
  refine WP_iload_n dX11_rate_0 rfl ?_
  refine WQ_i2l dX11_rate_1 (fun l6005 hl6005 => ?_)
  refine WP_lconst (1) dX11_rate_2 rfl ?_
  obtain ⟨l6006, hl6006, el6006⟩ : ∃ v : Int64, v.toInt = 1 ∧ (1 : Int64) = v := ⟨_, rfl, rfl⟩
  rw [el6006]; clear el6006
  refine WP_ldc2 (4) dX11_rate_3 klX11_452 ?_
  obtain ⟨l6007, hl6007, el6007⟩ : ∃ v : Int64, v.toInt = (4) ∧ ((4) : Int64) = v := ⟨_, rfl, rfl⟩
  rw [el6007]; clear el6007
  refine WP_callS3 dX11_rate_6 ⟨⟨⟨by decide, by decide⟩, zX11_in⟩, lX11_52, tX11_in⟩ (sm_in hy hr hI l6005 l6006 l6007 ) (Nat.le_of_ble_eq_true rfl) ?_
  intro r Ia Ja Ra hq
  obtain ⟨⟨ea, eb, ec⟩, v6008, rfl, av6008, bv6008, cv6008⟩ := hq
  show WP _ _ _ _ (.int _ :: _) _ _ _ _
  rw [ea, eb, ec]
  clear ea eb ec Ia Ja Ra
  refine WQ_if_ne 15 dX11_rate_9 rfl (fun c6008 => ?_) (fun c6008 => ?_)
  · refine WQ_iconst (0) (0) dX11_rate_15 rfl rfl (fun v6010 hv6010 => ?_)
    refine WP_istore_n (ls' := [(0, _), (1, _), (2, _)]) dX11_rate_16 (by decide) rfl ?_
    refine WQ_iconst (-1) (-1) dX11_rate_17 rfl rfl (fun v6011 hv6011 => ?_)
    refine WP_istore_n (ls' := [(0, _), (1, _), (2, _), (3, _)]) dX11_rate_18 (by decide) rfl ?_
    refine WQ_iconst (0) (0) dX11_rate_19 rfl rfl (fun v6012 hv6012 => ?_)
    refine WP_istore (ls' := [(0, _), (1, _), (2, _), (3, _), (4, _)]) dX11_rate_20 (by decide) rfl ?_
    have lp22_6017 : ∀ (mz : Nat) (i6013 : Int32) (i6014 : Int32) (i6015 : Int32) (I6016 : pI) (J6017 : pJ), MP g n L I6016 → 0 ≤ i6015.toInt → i6015.toInt ≤ 19 → (20 - i6015.toInt).toNat < mz → WP g mX11_rate 22 [(0, .ref (ad g 0)), (1, .int a), (2, .int i6013), (3, .int i6014), (4, .int i6015)] [] I6016 J6017 R (fun r I' J' R' => (MP g n L I' ∧ R' = R) ∧ ∃ v : Int32, r = some (.int v)) := by
      intro mz
      induction mz with
      | zero =>
        intro i6013 i6014 i6015 I6016 J6017 hI6016 ai6015 bi6015 hmlp22_6017
        exact absurd hmlp22_6017 (Nat.not_lt_zero _)
      | succ mz ihlp22_6017 =>
        intro i6013 i6014 i6015 I6016 J6017 hI6016 ai6015 bi6015 hmlp22_6017
        have e6019 : I6016 (ad g 0) 1 = L := hI6016.1.2
        have b6020 := BT_get hI6016.1.1 0 1 2 (0) (0) (900) (by decide) 1 (by decide) (by decide)
        rw [e6019] at b6020
        refine WP_iload dX11_rate_22 rfl ?_
        refine WQ_bipush (19) (19) dX11_rate_24 rfl rfl (fun v6021 hv6021 => ?_)
        refine WQ_icmp_ge 59 dX11_rate_26 rfl (fun c6021 => ?_) (fun c6021 => ?_)
        · refine WP_iload_n dX11_rate_59 rfl ?_
          exact WP_iret dX11_rate_60 rfl ⟨⟨hI6016, rfl⟩, _, rfl⟩
        · refine WP_aload_n dX11_rate_29 rfl ?_
          refine WP_iload dX11_rate_30 rfl ?_
          refine WP_iload_n dX11_rate_32 rfl ?_
          refine WP_callV2 (k := 11) dX11_rate_33 ⟨⟨⟨by decide, by decide⟩, zX11_worthOf⟩, lX11_502, by decide, rfl, vX11_worthOf.1, vX11_worthOf.2⟩ (ly_is hy 0 11 rfl) (sm_worthOf hy hr hI6016 i6015 a (by omega) (by omega) (by omega) (by omega) (by omega)) (Nat.le_of_ble_eq_true rfl) ?_
          intro r I6023 J6024 Ra hq
          obtain ⟨⟨hI6023, ec⟩, v6025, rfl⟩ := hq
          show WP _ _ _ _ (.int _ :: _) _ _ _ _
          rw [ec]
          clear ec Ra
          have e6026 : I6023 (ad g 0) 1 = L := hI6023.1.2
          have b6027 := BT_get hI6023.1.1 0 1 2 (0) (0) (900) (by decide) 1 (by decide) (by decide)
          rw [e6026] at b6027
          refine WP_istore (ls' := [(0, _), (1, _), (2, _), (3, _), (4, _), (5, _)]) dX11_rate_36 (by decide) rfl ?_
          refine WP_iload dX11_rate_38 rfl ?_
          refine WP_iload_n dX11_rate_40 rfl ?_
          refine WQ_icmp_gt 47 dX11_rate_41 rfl (fun c6027 => ?_) (fun c6027 => ?_)
          · refine WP_iload dX11_rate_47 rfl ?_
            refine WP_istore_n (ls' := [(0, _), (1, _), (2, _), (3, _), (4, _), (5, _)]) dX11_rate_49 (by decide) rfl ?_
            refine WP_iload dX11_rate_50 rfl ?_
            refine WP_istore_n (ls' := [(0, _), (1, _), (2, _), (3, _), (4, _), (5, _)]) dX11_rate_52 (by decide) rfl ?_
            refine WP_iinc (ls' := [(0, _), (1, _), (2, _), (3, _), (4, _), (5, _)]) dX11_rate_53 rfl (by decide) rfl ?_
            have hv6029 : (i6015 + Int32.ofInt (1)).toInt = i6015.toInt + (1) := ia_n rfl (by omega) (by omega)
            generalize i6015 + Int32.ofInt (1) = v6029 at hv6029 ⊢
            refine WP_goto 22 dX11_rate_56 rfl ?_
            exact WP_sub (fc rfl (fc rfl (fc rfl (fc rfl (fc rfl fn))))) (ihlp22_6017 i6015 v6025 v6029 I6023 J6024 hI6023 (by omega) (by omega) (by omega))
          · refine WP_goto 53 dX11_rate_44 rfl ?_
            refine WP_iinc (ls' := [(0, _), (1, _), (2, _), (3, _), (4, _), (5, _)]) dX11_rate_53 rfl (by decide) rfl ?_
            have hv6030 : (i6015 + Int32.ofInt (1)).toInt = i6015.toInt + (1) := ia_n rfl (by omega) (by omega)
            generalize i6015 + Int32.ofInt (1) = v6030 at hv6030 ⊢
            refine WP_goto 22 dX11_rate_56 rfl ?_
            exact WP_sub (fc rfl (fc rfl (fc rfl (fc rfl (fc rfl fn))))) (ihlp22_6017 i6013 i6014 v6030 I6023 J6024 hI6023 (by omega) (by omega) (by omega))
    exact WP_sub (fc rfl (fc rfl (fc rfl (fc rfl (fc rfl fn))))) (lp22_6017 _ v6010 v6011 v6012 I J hI (by omega) (by omega) (Nat.lt_succ_self _))
  · refine WQ_bipush (-2) (-2) dX11_rate_12 rfl rfl (fun v6031 hv6031 => ?_)
    exact WP_iret dX11_rate_14 rfl ⟨⟨hI, rfl⟩, _, rfl⟩
set_option maxHeartbeats 4000000 in
set_option maxRecDepth 100000 in
theorem sm_turn {g : GG} {n : Int} {L : Int32} (hy : Ly g)  {I : pI} {J : pJ} {R : pR} (hr : Rf g R) (hI : MP g n L I)   (hn : 0 ≤ n ∧ n ≤ 40000) : SP g mX11_turn [.ref (ad g 0)] I J R (fun r I' J' R' => (MP g n L I' ∧ R' = R ∧ True ∧ I' (ad g 0) 68 = I (ad g 0) 68) ∧ ∃ v : Int32, r = some (.int v) ∧ 0 ≤ v.toInt ∧ v.toInt ≤ 1) := by
  refine SP_of ⟨by decide, rfl⟩ (Nat.le_of_ble_eq_true rfl) ?_
  have e6032 : I (ad g 0) 1 = L := hI.1.2
  have b6033 := BT_get hI.1.1 0 1 2 (0) (0) (900) (by decide) 1 (by decide) (by decide)
  rw [e6032] at b6033
  obtain ⟨w6034, ew6034⟩ : ∃ w : Int32, I (ad g 0) 68 = w := ⟨_, rfl⟩
  refine WP_aload_n dX11_turn_0 rfl ?_
  refine WQ_iconst (1) (1) dX11_turn_1 rfl rfl (fun v6035 hv6035 => ?_)
  refine WQ_putz dX11_turn_2 fX11_470 rfl rfl (by omega) (ly_is hy 0 11 rfl) (fun I6036 eI6036 => ?_)
  have hI6036 : MP g n L I6036 := by rw [eI6036]; exact (mp_w hy hI (c := 0) (mi_f hy hI.1 (c := 0) (0) (0) (1) (by decide) (Or.inr (by decide)) (by decide) (by omega) (by omega)) (by decide) (by decide) (Or.inr (by decide)))
  have e6037 : I6036 (ad g 0) 1 = L := by rw [eI6036, pp_ne _ _ (Or.inr (by decide))]; exact e6032
  have e6038 : I6036 (ad g 0) 68 = w6034 := by rw [eI6036, pp_ne _ _ (Or.inr (by decide))]; exact ew6034
  have e6039 : I6036 (ad g 0) 64 = v6035 := by rw [eI6036, pp_self]
  clear eI6036
  refine WP_aload_n dX11_turn_5 rfl ?_
  refine WQ_bipush (7) (7) dX11_turn_6 rfl rfl (fun v6040 hv6040 => ?_)
  refine WP_callV1 (k := 11) dX11_turn_8 ⟨⟨⟨by decide, by decide⟩, zX11_runTrial⟩, lX11_497, by decide, rfl, vX11_runTrial.1, vX11_runTrial.2⟩ (ly_is hy 0 11 rfl) (sm_runTrial hy hr hI6036 v6040 (by omega) (by omega) (by omega)) (Nat.le_of_ble_eq_true rfl) ?_
  intro r I6041 J6042 Ra hq
  obtain ⟨⟨hI6041, ec, fiI6041, ⟨pI6041, sI6041_0_10, sI6041_0_14, sI6041_0_68⟩⟩, rfl⟩ := hq
  rw [ec]
  clear ec Ra
  have e6043 : I6041 (ad g 0) 68 = w6034 := by rw [sI6041_0_68]; exact e6038
  have e6044 : I6041 (ad g 0) 1 = L := hI6041.1.2
  have b6045 := BT_get hI6041.1.1 0 1 2 (0) (0) (900) (by decide) 1 (by decide) (by decide)
  rw [e6044] at b6045
  refine WP_aload_n dX11_turn_11 rfl ?_
  refine WQ_iconst (0) (0) dX11_turn_12 rfl rfl (fun v6046 hv6046 => ?_)
  refine WQ_putz dX11_turn_13 fX11_470 rfl rfl (by omega) (ly_is hy 0 11 rfl) (fun I6047 eI6047 => ?_)
  have hI6047 : MP g n L I6047 := by rw [eI6047]; exact (mp_w hy hI6041 (c := 0) (mi_f hy hI6041.1 (c := 0) (0) (0) (1) (by decide) (Or.inr (by decide)) (by decide) (by omega) (by omega)) (by decide) (by decide) (Or.inr (by decide)))
  have e6048 : I6047 (ad g 0) 68 = w6034 := by rw [eI6047, pp_ne _ _ (Or.inr (by decide))]; exact e6043
  have e6049 : I6047 (ad g 0) 1 = L := by rw [eI6047, pp_ne _ _ (Or.inr (by decide))]; exact e6044
  have e6050 : I6047 (ad g 0) 64 = v6046 := by rw [eI6047, pp_self]
  clear eI6047
  refine WQ_iconst (0) (0) dX11_turn_16 rfl rfl (fun v6051 hv6051 => ?_)
  refine WP_istore_n (ls' := [(0, _), (1, _)]) dX11_turn_17 (by decide) rfl ?_
  refine WQ_iconst (0) (0) dX11_turn_18 rfl rfl (fun v6052 hv6052 => ?_)
  refine WP_istore_n (ls' := [(0, _), (1, _), (2, _)]) dX11_turn_19 (by decide) rfl ?_
  have lp20_6057 : ∀ (mz : Nat) (i6053 : Int32) (i6054 : Int32) (I6055 : pI) (J6056 : pJ), MP g n L I6055 → ∀ (w6057 : Int32), I6055 (ad g 0) 68 = w6057 → 0 ≤ i6053.toInt → i6053.toInt ≤ 1 → 0 ≤ i6054.toInt → i6054.toInt ≤ 21 → w6057.toInt = w6034.toInt → (22 - i6054.toInt).toNat < mz → WP g mX11_turn 20 [(0, .ref (ad g 0)), (1, .int i6053), (2, .int i6054)] [] I6055 J6056 R (fun r I' J' R' => (MP g n L I' ∧ R' = R ∧ True ∧ I' (ad g 0) 68 = I (ad g 0) 68) ∧ ∃ v : Int32, r = some (.int v) ∧ 0 ≤ v.toInt ∧ v.toInt ≤ 1) := by
    intro mz
    induction mz with
    | zero =>
      intro i6053 i6054 I6055 J6056 hI6055 w6057 ew6057 ai6053 bi6053 ai6054 bi6054 j0_I6055 hmlp20_6057
      exact absurd hmlp20_6057 (Nat.not_lt_zero _)
    | succ mz ihlp20_6057 =>
      intro i6053 i6054 I6055 J6056 hI6055 w6057 ew6057 ai6053 bi6053 ai6054 bi6054 j0_I6055 hmlp20_6057
      have e6059 : I6055 (ad g 0) 1 = L := hI6055.1.2
      have b6060 := BT_get hI6055.1.1 0 1 2 (0) (0) (900) (by decide) 1 (by decide) (by decide)
      rw [e6059] at b6060
      refine WP_iload_n dX11_turn_20 rfl ?_
      refine WQ_bipush (7) (7) dX11_turn_21 rfl rfl (fun v6061 hv6061 => ?_)
      refine WP_aload_n dX11_turn_23 rfl ?_
      refine WQ_geti dX11_turn_24 fX11_332 rfl (ly_is hy 0 11 rfl) (BT_get hI6055.1.1 0 11 12 (0) (0) (3) (by decide) 11 (by decide) (by decide)) (fun v6062 ev6062 av6062 bv6062 => ?_)
      refine WQ_imulK (7) dX11_turn_27 hv6061 (by omega) (by omega) (fun v6063 hv6063 => ?_)
      refine WQ_icmp_ge 145 dX11_turn_28 rfl (fun c6063 => ?_) (fun c6063 => ?_)
      · refine WP_aload_n dX11_turn_145 rfl ?_
        refine WP_callV0 (k := 11) dX11_turn_146 ⟨⟨⟨by decide, by decide⟩, zX11_forgetWeeks⟩, lX11_350, by decide, rfl, vX11_forgetWeeks.1, vX11_forgetWeeks.2⟩ (ly_is hy 0 11 rfl) (sm_forgetWeeksx hy hr hI6055  ) (Nat.le_of_ble_eq_true rfl) ?_
        intro r I6065 J6066 Ra hq
        obtain ⟨⟨hI6065, ec, fiI6065⟩, rfl⟩ := hq
        rw [ec]
        clear ec Ra
        have e6067 : I6065 (ad g 0) 68 = w6057 := by rw [fz_at fiI6065 0 (by decide) (by decide)]; exact ew6057
        have e6068 : I6065 (ad g 0) 11 = v6062 := by rw [fz_at fiI6065 0 (by decide) (by decide)]; exact ev6062
        have e6069 : I6065 (ad g 0) 1 = L := hI6065.1.2
        have b6070 := BT_get hI6065.1.1 0 1 2 (0) (0) (900) (by decide) 1 (by decide) (by decide)
        rw [e6069] at b6070
        refine WP_iload_n dX11_turn_149 rfl ?_
        exact WP_zret dX11_turn_150 rfl (nar_z (by omega)) ⟨⟨hI6065, rfl, ⟨trivial, (by rw [e6067, ew6034] <;> exact (eq32 _ _).mpr (by omega))⟩⟩, _, rfl, by omega, by omega⟩
      · refine WP_aload_n dX11_turn_31 rfl ?_
        refine WP_getr dX11_turn_32 fX11_259 rfl (ly_is hy 0 11 rfl) (rf hr 0 41 23 (by decide)) ?_
        refine WP_iload_n dX11_turn_35 rfl ?_
        refine WQ_iald dX11_turn_36 (ly_is hy 23 13 rfl) (ly_n hy 23 21 rfl) (by omega) (by omega) (fun q hq => BT_get hI6055.1.1 23 0 21 (-1) (0) (999) (by decide) q (Nat.zero_le _) hq) (fun v6071 av6071 bv6071 ev6071 => ?_)
        clear ev6071
        refine WQ_iconst (-1) (-1) dX11_turn_37 rfl rfl (fun v6072 hv6072 => ?_)
        refine WQ_icmp_ne 44 dX11_turn_38 rfl (fun c6072 => ?_) (fun c6072 => ?_)
        · refine WP_aload_n dX11_turn_44 rfl ?_
          refine WP_getr dX11_turn_45 fX11_292 rfl (ly_is hy 0 11 rfl) (rf hr 0 63 41 (by decide)) ?_
          refine WP_iload_n dX11_turn_48 rfl ?_
          refine WQ_ialdu dX11_turn_49 (ly_is hy 41 13 rfl) (ly_n hy 41 21 rfl) (by omega) (by omega) (fun v6074 => ?_)
          refine WP_aload_n dX11_turn_50 rfl ?_
          refine WP_getr dX11_turn_51 fX11_259 rfl (ly_is hy 0 11 rfl) (rf hr 0 41 23 (by decide)) ?_
          refine WP_iload_n dX11_turn_54 rfl ?_
          refine WQ_iald dX11_turn_55 (ly_is hy 23 13 rfl) (ly_n hy 23 21 rfl) (by omega) (by omega) (fun q hq => BT_get hI6055.1.1 23 0 21 (-1) (0) (999) (by decide) q (Nat.zero_le _) hq) (fun v6075 av6075 bv6075 ev6075 => ?_)
          clear ev6075
          have jn111_6090 : ∀ (v6090 : Int32), 0 ≤ v6090.toInt → v6090.toInt ≤ 20 → WP g mX11_turn 111 [(0, .ref (ad g 0)), (1, .int i6053), (2, .int i6054)] [.int v6090] I6055 J6056 R (fun r I' J' R' => (MP g n L I' ∧ R' = R ∧ True ∧ I' (ad g 0) 68 = I (ad g 0) 68) ∧ ∃ v : Int32, r = some (.int v) ∧ 0 ≤ v.toInt ∧ v.toInt ≤ 1) := by
            intro v6090 av6090 bv6090
            refine WP_istore_n (ls' := [(0, _), (1, _), (2, _), (3, _)]) dX11_turn_111 (by decide) rfl ?_
            refine WP_iload_n dX11_turn_112 rfl ?_
            have jn131_6097 : ∀ (v6097 : Int32), 0 ≤ v6097.toInt → v6097.toInt ≤ 1 → WP g mX11_turn 131 [(0, .ref (ad g 0)), (1, .int i6053), (2, .int i6054), (3, .int v6090)] [.int v6097] I6055 J6056 R (fun r I' J' R' => (MP g n L I' ∧ R' = R ∧ True ∧ I' (ad g 0) 68 = I (ad g 0) 68) ∧ ∃ v : Int32, r = some (.int v) ∧ 0 ≤ v.toInt ∧ v.toInt ≤ 1) := by
              intro v6097 av6097 bv6097
              refine WP_istore_n (ls' := [(0, _), (1, _), (2, _), (3, _)]) dX11_turn_131 (by decide) rfl ?_
              refine WP_aload_n dX11_turn_132 rfl ?_
              refine WP_getr dX11_turn_133 fX11_257 rfl (ly_is hy 0 11 rfl) (rf hr 0 40 22 (by decide)) ?_
              refine WP_iload_n dX11_turn_136 rfl ?_
              refine WP_iload_n dX11_turn_137 rfl ?_
              refine WQ_iast dX11_turn_138 (ly_is hy 22 13 rfl) (ly_n hy 22 21 rfl) (by omega) (by omega) (fun I6099 eI6099 => ?_)
              have hI6099 : MP g n L I6099 := by rw [eI6099]; exact (mp_w hy hI6055 (c := 22) (mi_r hy hI6055.1 (c := 22) (0) (0) (20) (by decide) (Or.inl (by decide)) (by decide) (by omega) (by omega)) (by decide) (by decide) (Or.inl (by decide)))
              have e6100 : I6099 (ad g 0) 68 = w6057 := by rw [eI6099, pp_ne _ _ (Or.inl (ly_ne hy (by decide) (by decide) (by decide)))]; exact ew6057
              have e6101 : I6099 (ad g 0) 1 = L := by rw [eI6099, pp_ne _ _ (Or.inl (ly_ne hy (by decide) (by decide) (by decide)))]; exact e6059
              have e6102 : I6099 (ad g 0) 11 = v6062 := by rw [eI6099, pp_ne _ _ (Or.inl (ly_ne hy (by decide) (by decide) (by decide)))]; exact ev6062
              clear eI6099
              refine WP_iinc (ls' := [(0, _), (1, _), (2, _), (3, _)]) dX11_turn_139 rfl (by decide) rfl ?_
              have hv6103 : (i6054 + Int32.ofInt (1)).toInt = i6054.toInt + (1) := ia_n rfl (by omega) (by omega)
              generalize i6054 + Int32.ofInt (1) = v6103 at hv6103 ⊢
              refine WP_goto 20 dX11_turn_142 rfl ?_
              exact WP_sub (fc rfl (fc rfl (fc rfl fn))) (ihlp20_6057 v6097 v6103 I6099 J6056 hI6099 w6057 e6100 (by omega) (by omega) (by omega) (by omega) (by omega) (by omega))
            refine WQ_if_ne 126 dX11_turn_113 rfl (fun c6103 => ?_) (fun c6103 => ?_)
            · refine WQ_iconst (1) (1) dX11_turn_126 rfl rfl (fun v6105 hv6105 => ?_)
              refine WP_goto 131 dX11_turn_127 rfl ?_
              exact WP_sub (fc rfl (fc rfl (fc rfl (fc rfl fn)))) (jn131_6097 v6105 (by omega) (by omega))
            · refine WP_iload_n dX11_turn_116 rfl ?_
              refine WP_aload_n dX11_turn_117 rfl ?_
              refine WP_getr dX11_turn_118 fX11_257 rfl (ly_is hy 0 11 rfl) (rf hr 0 40 22 (by decide)) ?_
              refine WP_iload_n dX11_turn_121 rfl ?_
              refine WQ_iald dX11_turn_122 (ly_is hy 22 13 rfl) (ly_n hy 22 21 rfl) (by omega) (by omega) (fun q hq => BT_get hI6055.1.1 22 0 21 (0) (0) (20) (by decide) q (Nat.zero_le _) hq) (fun v6106 av6106 bv6106 ev6106 => ?_)
              clear ev6106
              refine WQ_icmp_eq 130 dX11_turn_123 rfl (fun c6106 => ?_) (fun c6106 => ?_)
              · refine WQ_iconst (0) (0) dX11_turn_130 rfl rfl (fun v6108 hv6108 => ?_)
                exact WP_sub (fc rfl (fc rfl (fc rfl (fc rfl fn)))) (jn131_6097 v6108 (by omega) (by omega))
              · refine WQ_iconst (1) (1) dX11_turn_126 rfl rfl (fun v6109 hv6109 => ?_)
                refine WP_goto 131 dX11_turn_127 rfl ?_
                exact WP_sub (fc rfl (fc rfl (fc rfl (fc rfl fn)))) (jn131_6097 v6109 (by omega) (by omega))
          refine WQ_icmp_le 75 dX11_turn_56 rfl (fun c6109 => ?_) (fun c6109 => ?_)
          · refine WP_aload_n dX11_turn_75 rfl ?_
            refine WP_getr dX11_turn_76 fX11_292 rfl (ly_is hy 0 11 rfl) (rf hr 0 63 41 (by decide)) ?_
            refine WP_iload_n dX11_turn_79 rfl ?_
            refine WQ_ialdu dX11_turn_80 (ly_is hy 41 13 rfl) (ly_n hy 41 21 rfl) (by omega) (by omega) (fun v6111 => ?_)
            refine WP_aload_n dX11_turn_81 rfl ?_
            refine WP_getr dX11_turn_82 fX11_259 rfl (ly_is hy 0 11 rfl) (rf hr 0 41 23 (by decide)) ?_
            refine WP_iload_n dX11_turn_85 rfl ?_
            refine WQ_iald dX11_turn_86 (ly_is hy 23 13 rfl) (ly_n hy 23 21 rfl) (by omega) (by omega) (fun q hq => BT_get hI6055.1.1 23 0 21 (-1) (0) (999) (by decide) q (Nat.zero_le _) hq) (fun v6112 av6112 bv6112 ev6112 => ?_)
            clear ev6112
            refine WQ_icmp_ge 105 dX11_turn_87 rfl (fun c6112 => ?_) (fun c6112 => ?_)
            · refine WP_aload_n dX11_turn_105 rfl ?_
              refine WP_getr dX11_turn_106 fX11_257 rfl (ly_is hy 0 11 rfl) (rf hr 0 40 22 (by decide)) ?_
              refine WP_iload_n dX11_turn_109 rfl ?_
              refine WQ_iald dX11_turn_110 (ly_is hy 22 13 rfl) (ly_n hy 22 21 rfl) (by omega) (by omega) (fun q hq => BT_get hI6055.1.1 22 0 21 (0) (0) (20) (by decide) q (Nat.zero_le _) hq) (fun v6114 av6114 bv6114 ev6114 => ?_)
              clear ev6114
              exact WP_sub (fc rfl (fc rfl (fc rfl fn))) (jn111_6090 v6114 (by omega) (by omega))
            · refine WQ_iconst (1) (1) dX11_turn_90 rfl rfl (fun v6115 hv6115 => ?_)
              refine WP_aload_n dX11_turn_91 rfl ?_
              refine WP_getr dX11_turn_92 fX11_257 rfl (ly_is hy 0 11 rfl) (rf hr 0 40 22 (by decide)) ?_
              refine WP_iload_n dX11_turn_95 rfl ?_
              refine WQ_iald dX11_turn_96 (ly_is hy 22 13 rfl) (ly_n hy 22 21 rfl) (by omega) (by omega) (fun q hq => BT_get hI6055.1.1 22 0 21 (0) (0) (20) (by decide) q (Nat.zero_le _) hq) (fun v6116 av6116 bv6116 ev6116 => ?_)
              clear ev6116
              refine WQ_iconst (1) (1) dX11_turn_97 rfl rfl (fun v6117 hv6117 => ?_)
              refine WQ_isub dX11_turn_98 (by omega) (by omega) (fun v6118 hv6118 => ?_)
              refine WQ_max dX11_turn_99 lX11_387 ⟨by decide, Nat.le_of_ble_eq_true rfl⟩ (fun v6119 av6119 bv6119 cv6119 => ?_)
              refine WP_goto 111 dX11_turn_102 rfl ?_
              exact WP_sub (fc rfl (fc rfl (fc rfl fn))) (jn111_6090 v6119 (by omega) (by omega))
          · refine WQ_bipush (20) (20) dX11_turn_59 rfl rfl (fun v6120 hv6120 => ?_)
            refine WP_aload_n dX11_turn_61 rfl ?_
            refine WP_getr dX11_turn_62 fX11_257 rfl (ly_is hy 0 11 rfl) (rf hr 0 40 22 (by decide)) ?_
            refine WP_iload_n dX11_turn_65 rfl ?_
            refine WQ_iald dX11_turn_66 (ly_is hy 22 13 rfl) (ly_n hy 22 21 rfl) (by omega) (by omega) (fun q hq => BT_get hI6055.1.1 22 0 21 (0) (0) (20) (by decide) q (Nat.zero_le _) hq) (fun v6121 av6121 bv6121 ev6121 => ?_)
            clear ev6121
            refine WQ_iconst (1) (1) dX11_turn_67 rfl rfl (fun v6122 hv6122 => ?_)
            refine WQ_iadd dX11_turn_68 (by omega) (by omega) (fun v6123 hv6123 => ?_)
            refine WQ_min dX11_turn_69 lX11_417 ⟨by decide, Nat.le_of_ble_eq_true rfl⟩ (fun v6124 av6124 bv6124 cv6124 => ?_)
            refine WP_goto 111 dX11_turn_72 rfl ?_
            exact WP_sub (fc rfl (fc rfl (fc rfl fn))) (jn111_6090 v6124 (by omega) (by omega))
        · refine WP_goto 139 dX11_turn_41 rfl ?_
          refine WP_iinc (ls' := [(0, _), (1, _), (2, _)]) dX11_turn_139 rfl (by decide) rfl ?_
          have hv6125 : (i6054 + Int32.ofInt (1)).toInt = i6054.toInt + (1) := ia_n rfl (by omega) (by omega)
          generalize i6054 + Int32.ofInt (1) = v6125 at hv6125 ⊢
          refine WP_goto 20 dX11_turn_142 rfl ?_
          exact WP_sub (fc rfl (fc rfl (fc rfl fn))) (ihlp20_6057 i6053 v6125 I6055 J6056 hI6055 w6057 ew6057 (by omega) (by omega) (by omega) (by omega) (by omega) (by omega))
  exact WP_sub (fc rfl (fc rfl (fc rfl fn))) (lp20_6057 _ v6051 v6052 I6047 J6042 hI6047 w6034 e6048 (by omega) (by omega) (by omega) (by omega) (by omega) (Nat.lt_succ_self _))
set_option maxHeartbeats 4000000 in
set_option maxRecDepth 100000 in
theorem sm_rest {g : GG} {n : Int} {L : Int32} (hy : Ly g)  {I : pI} {J : pJ} {R : pR} (hr : Rf g R) (hI : MP g n L I) (a : Int32)  (hn : 0 ≤ n ∧ n ≤ 40000) : SP g mX11_rest [.ref (ad g 0), .int a] I J R (fun r I' J' R' => (MP g n L I' ∧ R' = R) ∧ ∃ v : Int32, r = some (.int v)) := by
  refine SP_of ⟨by decide, rfl⟩ (Nat.le_of_ble_eq_true rfl) ?_
  have e6126 : I (ad g 0) 1 = L := hI.1.2
  have b6127 := BT_get hI.1.1 0 1 2 (0) (0) (900) (by decide) 1 (by decide) (by decide)
  rw [e6126] at b6127
  refine WP_iload_n dX11_rest_0 rfl ?_
  refine WQ_i2l dX11_rest_1 (fun l6128 hl6128 => ?_)
  refine WP_lconst (0) dX11_rest_2 rfl ?_
  obtain ⟨l6129, hl6129, el6129⟩ : ∃ v : Int64, v.toInt = 0 ∧ (0 : Int64) = v := ⟨_, rfl, rfl⟩
  rw [el6129]; clear el6129
  refine WP_lconst (1) dX11_rest_3 rfl ?_
  obtain ⟨l6130, hl6130, el6130⟩ : ∃ v : Int64, v.toInt = 1 ∧ (1 : Int64) = v := ⟨_, rfl, rfl⟩
  rw [el6130]; clear el6130
  refine WP_callS3 dX11_rest_4 ⟨⟨⟨by decide, by decide⟩, zX11_in⟩, lX11_52, tX11_in⟩ (sm_in hy hr hI l6128 l6129 l6130 ) (Nat.le_of_ble_eq_true rfl) ?_
  intro r Ia Ja Ra hq
  obtain ⟨⟨ea, eb, ec⟩, v6131, rfl, av6131, bv6131, cv6131⟩ := hq
  show WP _ _ _ _ (.int _ :: _) _ _ _ _
  rw [ea, eb, ec]
  clear ea eb ec Ia Ja Ra
  refine WQ_if_ne 13 dX11_rest_7 rfl (fun c6131 => ?_) (fun c6131 => ?_)
  · refine WQ_iconst (0) (0) dX11_rest_13 rfl rfl (fun v6133 hv6133 => ?_)
    refine WP_istore_n (ls' := [(0, _), (1, _), (2, _)]) dX11_rest_14 (by decide) rfl ?_
    have lp15_6136 : ∀ (mz : Nat) (i6134 : Int32) (I6135 : pI) (J6136 : pJ), MP g n L I6135 → 0 ≤ i6134.toInt → i6134.toInt ≤ 21 → (22 - i6134.toInt).toNat < mz → WP g mX11_rest 15 [(0, .ref (ad g 0)), (1, .int a), (2, .int i6134)] [] I6135 J6136 R (fun r I' J' R' => (MP g n L I' ∧ R' = R) ∧ ∃ v : Int32, r = some (.int v)) := by
      intro mz
      induction mz with
      | zero =>
        intro i6134 I6135 J6136 hI6135 ai6134 bi6134 hmlp15_6136
        exact absurd hmlp15_6136 (Nat.not_lt_zero _)
      | succ mz ihlp15_6136 =>
        intro i6134 I6135 J6136 hI6135 ai6134 bi6134 hmlp15_6136
        have e6138 : I6135 (ad g 0) 1 = L := hI6135.1.2
        have b6139 := BT_get hI6135.1.1 0 1 2 (0) (0) (900) (by decide) 1 (by decide) (by decide)
        rw [e6138] at b6139
        refine WP_iload_n dX11_rest_15 rfl ?_
        refine WQ_bipush (7) (7) dX11_rest_16 rfl rfl (fun v6140 hv6140 => ?_)
        refine WP_aload_n dX11_rest_18 rfl ?_
        refine WQ_geti dX11_rest_19 fX11_332 rfl (ly_is hy 0 11 rfl) (BT_get hI6135.1.1 0 11 12 (0) (0) (3) (by decide) 11 (by decide) (by decide)) (fun v6141 ev6141 av6141 bv6141 => ?_)
        refine WQ_imulK (7) dX11_rest_22 hv6140 (by omega) (by omega) (fun v6142 hv6142 => ?_)
        refine WQ_icmp_ge 49 dX11_rest_23 rfl (fun c6142 => ?_) (fun c6142 => ?_)
        · refine WP_aload_n dX11_rest_49 rfl ?_
          refine WP_callV0 (k := 11) dX11_rest_50 ⟨⟨⟨by decide, by decide⟩, zX11_forgetWeeks⟩, lX11_350, by decide, rfl, vX11_forgetWeeks.1, vX11_forgetWeeks.2⟩ (ly_is hy 0 11 rfl) (sm_forgetWeeksx hy hr hI6135  ) (Nat.le_of_ble_eq_true rfl) ?_
          intro r I6144 J6145 Ra hq
          obtain ⟨⟨hI6144, ec, fiI6144⟩, rfl⟩ := hq
          rw [ec]
          clear ec Ra
          have e6146 : I6144 (ad g 0) 11 = v6141 := by rw [fz_at fiI6144 0 (by decide) (by decide)]; exact ev6141
          have e6147 : I6144 (ad g 0) 1 = L := hI6144.1.2
          have b6148 := BT_get hI6144.1.1 0 1 2 (0) (0) (900) (by decide) 1 (by decide) (by decide)
          rw [e6147] at b6148
          refine WP_aload_n dX11_rest_53 rfl ?_
          refine WQ_iconst (0) (0) dX11_rest_54 rfl rfl (fun v6149 hv6149 => ?_)
          refine WQ_puti dX11_rest_55 fX11_304 rfl rfl (ly_is hy 0 11 rfl) (fun I6150 eI6150 => ?_)
          have hI6150 : MP g n L I6150 := by rw [eI6150]; exact (mp_w hy hI6144 (c := 0) (mi_f0 hy hI6144.1 (c := 0) (by decide) (Or.inr (by decide)) (by decide)) (by decide) (by decide) (Or.inr (by decide)))
          have e6151 : I6150 (ad g 0) 11 = v6141 := by rw [eI6150, pp_ne _ _ (Or.inr (by decide))]; exact e6146
          have e6152 : I6150 (ad g 0) 1 = L := by rw [eI6150, pp_ne _ _ (Or.inr (by decide))]; exact e6147
          have e6153 : I6150 (ad g 0) 68 = v6149 := by rw [eI6150, pp_self]
          clear eI6150
          refine WQ_iconst (1) (1) dX11_rest_58 rfl rfl (fun v6154 hv6154 => ?_)
          refine WP_istore_n (ls' := [(0, _), (1, _), (2, _)]) dX11_rest_59 (by decide) rfl ?_
          have lp60_6158 : ∀ (mz : Nat) (i6155 : Int32) (I6156 : pI) (J6157 : pJ), MP g n L I6156 → ∀ (w6158 : Int32), I6156 (ad g 0) 68 = w6158 → 0 ≤ i6155.toInt → i6155.toInt ≤ 1 → 0 ≤ w6158.toInt → w6158.toInt ≤ 60 → (61 - w6158.toInt).toNat < mz → WP g mX11_rest 60 [(0, .ref (ad g 0)), (1, .int a), (2, .int i6155)] [] I6156 J6157 R (fun r I' J' R' => (MP g n L I' ∧ R' = R) ∧ ∃ v : Int32, r = some (.int v)) := by
            intro mz
            induction mz with
            | zero =>
              intro i6155 I6156 J6157 hI6156 w6158 ew6158 ai6155 bi6155 j0_I6156 j1_I6156 hmlp60_6158
              exact absurd hmlp60_6158 (Nat.not_lt_zero _)
            | succ mz ihlp60_6158 =>
              intro i6155 I6156 J6157 hI6156 w6158 ew6158 ai6155 bi6155 j0_I6156 j1_I6156 hmlp60_6158
              have e6160 : I6156 (ad g 0) 1 = L := hI6156.1.2
              have b6161 := BT_get hI6156.1.1 0 1 2 (0) (0) (900) (by decide) 1 (by decide) (by decide)
              rw [e6160] at b6161
              refine WP_iload_n dX11_rest_60 rfl ?_
              refine WQ_if_eq 91 dX11_rest_61 rfl (fun c6161 => ?_) (fun c6161 => ?_)
              · refine WP_iload_n dX11_rest_91 rfl ?_
                have jn100_6164 : ∀ (v6164 : Int32), 1 ≤ v6164.toInt → v6164.toInt ≤ 1 → WP g mX11_rest 100 [(0, .ref (ad g 0)), (1, .int a), (2, .int i6155)] [.int v6164] I6156 J6157 R (fun r I' J' R' => (MP g n L I' ∧ R' = R) ∧ ∃ v : Int32, r = some (.int v)) := by
                  intro v6164 av6164 bv6164
                  exact WP_iret dX11_rest_100 rfl ⟨⟨hI6156, rfl⟩, _, rfl⟩
                refine WQ_if_eq 99 dX11_rest_92 rfl (fun c6165 => ?_) (fun c6165 => False.elim (by omega))
                refine WQ_iconst (1) (1) dX11_rest_99 rfl rfl (fun v6167 hv6167 => ?_)
                exact WP_sub (fc rfl (fc rfl (fc rfl fn))) (jn100_6164 v6167 (by omega) (by omega))
              · refine WP_aload_n dX11_rest_64 rfl ?_
                refine WQ_getim dX11_rest_65 fX11_304 rfl (ly_is hy 0 11 rfl) ew6158 ?_
                refine WQ_bipush (60) (60) dX11_rest_68 rfl rfl (fun v6168 hv6168 => ?_)
                refine WQ_icmp_ge 91 dX11_rest_70 rfl (fun c6168 => ?_) (fun c6168 => ?_)
                · refine WP_iload_n dX11_rest_91 rfl ?_
                  have jn100_6171 : ∀ (v6171 : Int32), 0 ≤ v6171.toInt → v6171.toInt ≤ 0 → WP g mX11_rest 100 [(0, .ref (ad g 0)), (1, .int a), (2, .int i6155)] [.int v6171] I6156 J6157 R (fun r I' J' R' => (MP g n L I' ∧ R' = R) ∧ ∃ v : Int32, r = some (.int v)) := by
                    intro v6171 av6171 bv6171
                    exact WP_iret dX11_rest_100 rfl ⟨⟨hI6156, rfl⟩, _, rfl⟩
                  refine WQ_if_eq 99 dX11_rest_92 rfl (fun c6172 => False.elim (by omega)) (fun c6172 => ?_)
                  refine WQ_iconst (0) (0) dX11_rest_95 rfl rfl (fun v6174 hv6174 => ?_)
                  refine WP_goto 100 dX11_rest_96 rfl ?_
                  exact WP_sub (fc rfl (fc rfl (fc rfl fn))) (jn100_6171 v6174 (by omega) (by omega))
                · refine WP_aload_n dX11_rest_73 rfl ?_
                  refine WP_callV0 (k := 11) dX11_rest_74 ⟨⟨⟨by decide, by decide⟩, zX11_turn⟩, lX11_505, by decide, rfl, vX11_turn.1, vX11_turn.2⟩ (ly_is hy 0 11 rfl) (sm_turn hy hr hI6156   (by omega)) (Nat.le_of_ble_eq_true rfl) ?_
                  intro r I6175 J6176 Ra hq
                  obtain ⟨⟨hI6175, ec, ⟨pI6175, sI6175_0_68⟩⟩, v6177, rfl, av6177, bv6177⟩ := hq
                  show WP _ _ _ _ (.int _ :: _) _ _ _ _
                  rw [ec]
                  clear ec Ra
                  have e6178 : I6175 (ad g 0) 68 = w6158 := by rw [sI6175_0_68]; exact ew6158
                  have e6179 : I6175 (ad g 0) 1 = L := hI6175.1.2
                  have b6180 := BT_get hI6175.1.1 0 1 2 (0) (0) (900) (by decide) 1 (by decide) (by decide)
                  rw [e6179] at b6180
                  refine WP_istore_n (ls' := [(0, _), (1, _), (2, _)]) dX11_rest_77 (by decide) rfl ?_
                  refine WP_aload_n dX11_rest_78 rfl ?_
                  refine WP_dup dX11_rest_79 rfl ?_
                  refine WQ_getim dX11_rest_80 fX11_304 rfl (ly_is hy 0 11 rfl) e6178 ?_
                  refine WQ_iconst (1) (1) dX11_rest_83 rfl rfl (fun v6181 hv6181 => ?_)
                  refine WQ_iadd dX11_rest_84 (by omega) (by omega) (fun v6182 hv6182 => ?_)
                  refine WQ_puti dX11_rest_85 fX11_304 rfl rfl (ly_is hy 0 11 rfl) (fun I6183 eI6183 => ?_)
                  have hI6183 : MP g n L I6183 := by rw [eI6183]; exact (mp_w hy hI6175 (c := 0) (mi_f0 hy hI6175.1 (c := 0) (by decide) (Or.inr (by decide)) (by decide)) (by decide) (by decide) (Or.inr (by decide)))
                  have e6184 : I6183 (ad g 0) 1 = L := by rw [eI6183, pp_ne _ _ (Or.inr (by decide))]; exact e6179
                  have e6185 : I6183 (ad g 0) 68 = v6182 := by rw [eI6183, pp_self]
                  clear eI6183
                  refine WP_goto 60 dX11_rest_88 rfl ?_
                  exact WP_sub (fc rfl (fc rfl (fc rfl fn))) (ihlp60_6158 v6177 I6183 J6176 hI6183 v6182 e6185 (by omega) (by omega) (by omega) (by omega) (by omega))
          exact WP_sub (fc rfl (fc rfl (fc rfl fn))) (lp60_6158 _ v6154 I6150 J6145 hI6150 v6149 e6153 (by omega) (by omega) (by omega) (by omega) (Nat.lt_succ_self _))
        · refine WP_iload_n dX11_rest_26 rfl ?_
          refine WQ_iconst (1) (1) dX11_rest_27 rfl rfl (fun v6186 hv6186 => ?_)
          refine WQ_icmp_ne 49 dX11_rest_28 rfl (fun c6186 => ?_) (fun c6186 => ?_)
          · refine WP_aload_n dX11_rest_49 rfl ?_
            refine WP_callV0 (k := 11) dX11_rest_50 ⟨⟨⟨by decide, by decide⟩, zX11_forgetWeeks⟩, lX11_350, by decide, rfl, vX11_forgetWeeks.1, vX11_forgetWeeks.2⟩ (ly_is hy 0 11 rfl) (sm_forgetWeeksx hy hr hI6135  ) (Nat.le_of_ble_eq_true rfl) ?_
            intro r I6188 J6189 Ra hq
            obtain ⟨⟨hI6188, ec, fiI6188⟩, rfl⟩ := hq
            rw [ec]
            clear ec Ra
            have e6190 : I6188 (ad g 0) 11 = v6141 := by rw [fz_at fiI6188 0 (by decide) (by decide)]; exact ev6141
            have e6191 : I6188 (ad g 0) 1 = L := hI6188.1.2
            have b6192 := BT_get hI6188.1.1 0 1 2 (0) (0) (900) (by decide) 1 (by decide) (by decide)
            rw [e6191] at b6192
            refine WP_aload_n dX11_rest_53 rfl ?_
            refine WQ_iconst (0) (0) dX11_rest_54 rfl rfl (fun v6193 hv6193 => ?_)
            refine WQ_puti dX11_rest_55 fX11_304 rfl rfl (ly_is hy 0 11 rfl) (fun I6194 eI6194 => ?_)
            have hI6194 : MP g n L I6194 := by rw [eI6194]; exact (mp_w hy hI6188 (c := 0) (mi_f0 hy hI6188.1 (c := 0) (by decide) (Or.inr (by decide)) (by decide)) (by decide) (by decide) (Or.inr (by decide)))
            have e6195 : I6194 (ad g 0) 11 = v6141 := by rw [eI6194, pp_ne _ _ (Or.inr (by decide))]; exact e6190
            have e6196 : I6194 (ad g 0) 1 = L := by rw [eI6194, pp_ne _ _ (Or.inr (by decide))]; exact e6191
            have e6197 : I6194 (ad g 0) 68 = v6193 := by rw [eI6194, pp_self]
            clear eI6194
            refine WQ_iconst (1) (1) dX11_rest_58 rfl rfl (fun v6198 hv6198 => ?_)
            refine WP_istore_n (ls' := [(0, _), (1, _), (2, _)]) dX11_rest_59 (by decide) rfl ?_
            have lp60_6202 : ∀ (mz : Nat) (i6199 : Int32) (I6200 : pI) (J6201 : pJ), MP g n L I6200 → ∀ (w6202 : Int32), I6200 (ad g 0) 68 = w6202 → 0 ≤ i6199.toInt → i6199.toInt ≤ 1 → 0 ≤ w6202.toInt → w6202.toInt ≤ 60 → (61 - w6202.toInt).toNat < mz → WP g mX11_rest 60 [(0, .ref (ad g 0)), (1, .int a), (2, .int i6199)] [] I6200 J6201 R (fun r I' J' R' => (MP g n L I' ∧ R' = R) ∧ ∃ v : Int32, r = some (.int v)) := by
              intro mz
              induction mz with
              | zero =>
                intro i6199 I6200 J6201 hI6200 w6202 ew6202 ai6199 bi6199 j0_I6200 j1_I6200 hmlp60_6202
                exact absurd hmlp60_6202 (Nat.not_lt_zero _)
              | succ mz ihlp60_6202 =>
                intro i6199 I6200 J6201 hI6200 w6202 ew6202 ai6199 bi6199 j0_I6200 j1_I6200 hmlp60_6202
                have e6204 : I6200 (ad g 0) 1 = L := hI6200.1.2
                have b6205 := BT_get hI6200.1.1 0 1 2 (0) (0) (900) (by decide) 1 (by decide) (by decide)
                rw [e6204] at b6205
                refine WP_iload_n dX11_rest_60 rfl ?_
                refine WQ_if_eq 91 dX11_rest_61 rfl (fun c6205 => ?_) (fun c6205 => ?_)
                · refine WP_iload_n dX11_rest_91 rfl ?_
                  have jn100_6208 : ∀ (v6208 : Int32), 1 ≤ v6208.toInt → v6208.toInt ≤ 1 → WP g mX11_rest 100 [(0, .ref (ad g 0)), (1, .int a), (2, .int i6199)] [.int v6208] I6200 J6201 R (fun r I' J' R' => (MP g n L I' ∧ R' = R) ∧ ∃ v : Int32, r = some (.int v)) := by
                    intro v6208 av6208 bv6208
                    exact WP_iret dX11_rest_100 rfl ⟨⟨hI6200, rfl⟩, _, rfl⟩
                  refine WQ_if_eq 99 dX11_rest_92 rfl (fun c6209 => ?_) (fun c6209 => False.elim (by omega))
                  refine WQ_iconst (1) (1) dX11_rest_99 rfl rfl (fun v6211 hv6211 => ?_)
                  exact WP_sub (fc rfl (fc rfl (fc rfl fn))) (jn100_6208 v6211 (by omega) (by omega))
                · refine WP_aload_n dX11_rest_64 rfl ?_
                  refine WQ_getim dX11_rest_65 fX11_304 rfl (ly_is hy 0 11 rfl) ew6202 ?_
                  refine WQ_bipush (60) (60) dX11_rest_68 rfl rfl (fun v6212 hv6212 => ?_)
                  refine WQ_icmp_ge 91 dX11_rest_70 rfl (fun c6212 => ?_) (fun c6212 => ?_)
                  · refine WP_iload_n dX11_rest_91 rfl ?_
                    have jn100_6215 : ∀ (v6215 : Int32), 0 ≤ v6215.toInt → v6215.toInt ≤ 0 → WP g mX11_rest 100 [(0, .ref (ad g 0)), (1, .int a), (2, .int i6199)] [.int v6215] I6200 J6201 R (fun r I' J' R' => (MP g n L I' ∧ R' = R) ∧ ∃ v : Int32, r = some (.int v)) := by
                      intro v6215 av6215 bv6215
                      exact WP_iret dX11_rest_100 rfl ⟨⟨hI6200, rfl⟩, _, rfl⟩
                    refine WQ_if_eq 99 dX11_rest_92 rfl (fun c6216 => False.elim (by omega)) (fun c6216 => ?_)
                    refine WQ_iconst (0) (0) dX11_rest_95 rfl rfl (fun v6218 hv6218 => ?_)
                    refine WP_goto 100 dX11_rest_96 rfl ?_
                    exact WP_sub (fc rfl (fc rfl (fc rfl fn))) (jn100_6215 v6218 (by omega) (by omega))
                  · refine WP_aload_n dX11_rest_73 rfl ?_
                    refine WP_callV0 (k := 11) dX11_rest_74 ⟨⟨⟨by decide, by decide⟩, zX11_turn⟩, lX11_505, by decide, rfl, vX11_turn.1, vX11_turn.2⟩ (ly_is hy 0 11 rfl) (sm_turn hy hr hI6200   (by omega)) (Nat.le_of_ble_eq_true rfl) ?_
                    intro r I6219 J6220 Ra hq
                    obtain ⟨⟨hI6219, ec, ⟨pI6219, sI6219_0_68⟩⟩, v6221, rfl, av6221, bv6221⟩ := hq
                    show WP _ _ _ _ (.int _ :: _) _ _ _ _
                    rw [ec]
                    clear ec Ra
                    have e6222 : I6219 (ad g 0) 68 = w6202 := by rw [sI6219_0_68]; exact ew6202
                    have e6223 : I6219 (ad g 0) 1 = L := hI6219.1.2
                    have b6224 := BT_get hI6219.1.1 0 1 2 (0) (0) (900) (by decide) 1 (by decide) (by decide)
                    rw [e6223] at b6224
                    refine WP_istore_n (ls' := [(0, _), (1, _), (2, _)]) dX11_rest_77 (by decide) rfl ?_
                    refine WP_aload_n dX11_rest_78 rfl ?_
                    refine WP_dup dX11_rest_79 rfl ?_
                    refine WQ_getim dX11_rest_80 fX11_304 rfl (ly_is hy 0 11 rfl) e6222 ?_
                    refine WQ_iconst (1) (1) dX11_rest_83 rfl rfl (fun v6225 hv6225 => ?_)
                    refine WQ_iadd dX11_rest_84 (by omega) (by omega) (fun v6226 hv6226 => ?_)
                    refine WQ_puti dX11_rest_85 fX11_304 rfl rfl (ly_is hy 0 11 rfl) (fun I6227 eI6227 => ?_)
                    have hI6227 : MP g n L I6227 := by rw [eI6227]; exact (mp_w hy hI6219 (c := 0) (mi_f0 hy hI6219.1 (c := 0) (by decide) (Or.inr (by decide)) (by decide)) (by decide) (by decide) (Or.inr (by decide)))
                    have e6228 : I6227 (ad g 0) 1 = L := by rw [eI6227, pp_ne _ _ (Or.inr (by decide))]; exact e6223
                    have e6229 : I6227 (ad g 0) 68 = v6226 := by rw [eI6227, pp_self]
                    clear eI6227
                    refine WP_goto 60 dX11_rest_88 rfl ?_
                    exact WP_sub (fc rfl (fc rfl (fc rfl fn))) (ihlp60_6202 v6221 I6227 J6220 hI6227 v6226 e6229 (by omega) (by omega) (by omega) (by omega) (by omega))
            exact WP_sub (fc rfl (fc rfl (fc rfl fn))) (lp60_6202 _ v6198 I6194 J6189 hI6194 v6193 e6197 (by omega) (by omega) (by omega) (by omega) (Nat.lt_succ_self _))
          · refine WP_aload_n dX11_rest_31 rfl ?_
            refine WP_getr dX11_rest_32 fX11_257 rfl (ly_is hy 0 11 rfl) (rf hr 0 40 22 (by decide)) ?_
            refine WP_iload_n dX11_rest_35 rfl ?_
            refine WP_aload_n dX11_rest_36 rfl ?_
            refine WP_getr dX11_rest_37 fX11_254 rfl (ly_is hy 0 11 rfl) (rf hr 0 39 21 (by decide)) ?_
            refine WP_iload_n dX11_rest_40 rfl ?_
            refine WQ_iald dX11_rest_41 (ly_is hy 21 13 rfl) (ly_n hy 21 21 rfl) (by omega) (by omega) (fun q hq => BT_get hI6135.1.1 21 0 21 (0) (0) (20) (by decide) q (Nat.zero_le _) hq) (fun v6230 av6230 bv6230 ev6230 => ?_)
            clear ev6230
            refine WQ_iast dX11_rest_42 (ly_is hy 22 13 rfl) (ly_n hy 22 21 rfl) (by omega) (by omega) (fun I6231 eI6231 => ?_)
            have hI6231 : MP g n L I6231 := by rw [eI6231]; exact (mp_w hy hI6135 (c := 22) (mi_r hy hI6135.1 (c := 22) (0) (0) (20) (by decide) (Or.inl (by decide)) (by decide) (by omega) (by omega)) (by decide) (by decide) (Or.inl (by decide)))
            have e6232 : I6231 (ad g 0) 1 = L := by rw [eI6231, pp_ne _ _ (Or.inl (ly_ne hy (by decide) (by decide) (by decide)))]; exact e6138
            have e6233 : I6231 (ad g 0) 11 = v6141 := by rw [eI6231, pp_ne _ _ (Or.inl (ly_ne hy (by decide) (by decide) (by decide)))]; exact ev6141
            clear eI6231
            refine WP_iinc (ls' := [(0, _), (1, _), (2, _)]) dX11_rest_43 rfl (by decide) rfl ?_
            have hv6234 : (i6134 + Int32.ofInt (1)).toInt = i6134.toInt + (1) := ia_n rfl (by omega) (by omega)
            generalize i6134 + Int32.ofInt (1) = v6234 at hv6234 ⊢
            refine WP_goto 15 dX11_rest_46 rfl ?_
            exact WP_sub (fc rfl (fc rfl (fc rfl fn))) (ihlp15_6136 v6234 I6231 J6136 hI6231 (by omega) (by omega) (by omega))
    exact WP_sub (fc rfl (fc rfl (fc rfl fn))) (lp15_6136 _ v6133 I J hI (by omega) (by omega) (Nat.lt_succ_self _))
  · refine WQ_bipush (-2) (-2) dX11_rest_10 rfl rfl (fun v6235 hv6235 => ?_)
    exact WP_iret dX11_rest_12 rfl ⟨⟨hI, rfl⟩, _, rfl⟩
