set_option maxHeartbeats 4000000 in
set_option maxRecDepth 100000 in
theorem sm_readRotx {g : GG} {n : Int} {L : Int32} (hy : Ly g)  {I : pI} {J : pJ} {R : pR} (hr : Rf g R) (hI : MP g n L I)   (hb : ((I (ad g 0) 4).toInt ≤ (I (ad g 0) 2).toInt ∧ (I (ad g 0) 3).toInt ≤ (I (ad g 0) 4).toInt ∧ ((I (ad g 0) 5).toInt = 0 ∨ (I (ad g 0) 3).toInt < (I (ad g 0) 4).toInt)) ∧ (I (ad g 0) 17).toInt < (I (ad g 0) 15).toInt) (hw : WRt (I (ad g 30)) (I (ad g 31)) (7 * (I (ad g 0) 15).toInt)) : SP g mX11_readRot [.ref (ad g 0)] I J R (fun r I' J' R' => (MP g n L I' ∧ R' = R ∧ fz 49 g [0, 7] I I' ∧ (((I' (ad g 0) 4).toInt ≤ (I' (ad g 0) 2).toInt ∧ (I' (ad g 0) 3).toInt ≤ (I' (ad g 0) 4).toInt ∧ ((I' (ad g 0) 5).toInt = 0 ∨ (I' (ad g 0) 3).toInt < (I' (ad g 0) 4).toInt)) ∧ (I (ad g 0) 3).toInt ≤ (I' (ad g 0) 3).toInt ∧ (I' (ad g 0) 17).toInt < (I' (ad g 0) 15).toInt)) ∧ ∃ v : Int32, r = some (.int v) ∧ 0 ≤ v.toInt ∧ v.toInt ≤ 1 ∧ (v.toInt = 1 → WRt (I' (ad g 30)) (I' (ad g 31)) (7 * (I' (ad g 0) 15).toInt))) := by
  refine SP_of ⟨by decide, rfl⟩ (Nat.le_of_ble_eq_true rfl) ?_
  have e7717 : I (ad g 0) 1 = L := hI.1.2
  have b7718 := BT_get hI.1.1 0 1 2 (0) (0) (900) (by decide) 1 (by decide) (by decide)
  rw [e7717] at b7718
  have fr0 : fz 49 g [0, 7] I I := fz_rf
  obtain ⟨w7719, ew7719⟩ : ∃ w : Int32, I (ad g 0) 2 = w := ⟨_, rfl⟩
  have bw7719 := BT_get hI.1.1 0 2 3 (0) (0) (900) (by decide) 2 (by decide) (by decide)
  rw [ew7719] at bw7719
  obtain ⟨w7720, ew7720⟩ : ∃ w : Int32, I (ad g 0) 3 = w := ⟨_, rfl⟩
  have bw7720 := BT_get hI.1.1 0 3 4 (0) (0) (900) (by decide) 3 (by decide) (by decide)
  rw [ew7720] at bw7720
  obtain ⟨w7721, ew7721⟩ : ∃ w : Int32, I (ad g 0) 4 = w := ⟨_, rfl⟩
  have bw7721 := BT_get hI.1.1 0 4 5 (0) (0) (900) (by decide) 4 (by decide) (by decide)
  rw [ew7721] at bw7721
  obtain ⟨w7722, ew7722⟩ : ∃ w : Int32, I (ad g 0) 5 = w := ⟨_, rfl⟩
  have bw7722 := BT_get hI.1.1 0 5 6 (0) (0) (4) (by decide) 5 (by decide) (by decide)
  rw [ew7722] at bw7722
  obtain ⟨w7723, ew7723⟩ : ∃ w : Int32, I (ad g 0) 15 = w := ⟨_, rfl⟩
  have bw7723 := BT_get hI.1.1 0 15 16 (0) (0) (4) (by decide) 15 (by decide) (by decide)
  rw [ew7723] at bw7723
  obtain ⟨w7724, ew7724⟩ : ∃ w : Int32, I (ad g 0) 17 = w := ⟨_, rfl⟩
  have bw7724 := BT_get hI.1.1 0 17 18 (-1) (0) (3) (by decide) 17 (by decide) (by decide)
  rw [ew7724] at bw7724
  rw [ew7719, ew7720, ew7721, ew7722, ew7723, ew7724] at hb
  refine WP_aload_n dX11_readRot_0 rfl ?_
  refine WP_callV0 (k := 11) dX11_readRot_1 ⟨⟨⟨by decide, by decide⟩, zX11_scan⟩, lX11_63, by decide, rfl, vX11_scan.1, vX11_scan.2⟩ (ly_is hy 0 11 rfl) (sm_scanx hy hr hI   (by rw [ew7721, ew7719]; omega)) (Nat.le_of_ble_eq_true rfl) ?_
  intro r I7725 J7726 Ra hq
  obtain ⟨⟨hI7725, ec, fiI7725, ⟨pI7725, sI7725_0_7, sI7725_0_15, sI7725_0_16, sI7725_0_17, sI7725_0_18⟩⟩, rfl⟩ := hq
  rw [ec]
  clear ec Ra
  have fr7727 : fz 49 g [0, 7] I I7725 := fz_tr fr0 (fz_mono fiI7725 (by decide))
  have e7728 : I7725 (ad g 0) 15 = w7723 := by rw [sI7725_0_15]; exact ew7723
  have e7729 : I7725 (ad g 0) 17 = w7724 := by rw [sI7725_0_17]; exact ew7724
  have e7730 : I7725 (ad g 0) 1 = L := hI7725.1.2
  have b7731 := BT_get hI7725.1.1 0 1 2 (0) (0) (900) (by decide) 1 (by decide) (by decide)
  rw [e7730] at b7731
  obtain ⟨w7732, ew7732⟩ : ∃ w : Int32, I7725 (ad g 0) 2 = w := ⟨_, rfl⟩
  have bw7732 := BT_get hI7725.1.1 0 2 3 (0) (0) (900) (by decide) 2 (by decide) (by decide)
  rw [ew7732] at bw7732
  obtain ⟨w7733, ew7733⟩ : ∃ w : Int32, I7725 (ad g 0) 3 = w := ⟨_, rfl⟩
  have bw7733 := BT_get hI7725.1.1 0 3 4 (0) (0) (900) (by decide) 3 (by decide) (by decide)
  rw [ew7733] at bw7733
  obtain ⟨w7734, ew7734⟩ : ∃ w : Int32, I7725 (ad g 0) 4 = w := ⟨_, rfl⟩
  have bw7734 := BT_get hI7725.1.1 0 4 5 (0) (0) (900) (by decide) 4 (by decide) (by decide)
  rw [ew7734] at bw7734
  obtain ⟨w7735, ew7735⟩ : ∃ w : Int32, I7725 (ad g 0) 5 = w := ⟨_, rfl⟩
  have bw7735 := BT_get hI7725.1.1 0 5 6 (0) (0) (4) (by decide) 5 (by decide) (by decide)
  rw [ew7735] at bw7735
  rw [ew7732, ew7733, ew7734, ew7735, ew7721] at pI7725
  refine WP_aload_n dX11_readRot_4 rfl ?_
  refine WQ_iconst (0) (0) dX11_readRot_5 rfl rfl (fun v7736 hv7736 => ?_)
  refine WQ_bipush (6) (6) dX11_readRot_6 rfl rfl (fun v7737 hv7737 => ?_)
  refine WP_callV2 (k := 11) dX11_readRot_8 ⟨⟨⟨by decide, by decide⟩, zX11_peek⟩, lX11_59, by decide, rfl, vX11_peek.1, vX11_peek.2⟩ (ly_is hy 0 11 rfl) (sm_peekx hy hr hI7725 v7736 v7737 (by omega) (by omega) (by omega) (by omega) (by rw [ew7732, ew7733, ew7734, ew7735]; omega)) (Nat.le_of_ble_eq_true rfl) ?_
  intro r I7738 J7739 Ra hq
  obtain ⟨⟨hI7738, ec, fiI7738, ⟨pI7738, sI7738_0_15, sI7738_0_16, sI7738_0_17, sI7738_0_18⟩⟩, v7740, rfl, av7740, bv7740, cv7740⟩ := hq
  show WP _ _ _ _ (.int _ :: _) _ _ _ _
  rw [ec]
  clear ec Ra
  have fr7741 : fz 49 g [0, 7] I I7738 := fz_tr fr7727 (fz_mono fiI7738 (by decide))
  have e7742 : I7738 (ad g 0) 15 = w7723 := by rw [sI7738_0_15]; exact e7728
  have e7743 : I7738 (ad g 0) 17 = w7724 := by rw [sI7738_0_17]; exact e7729
  have e7744 : I7738 (ad g 0) 1 = L := hI7738.1.2
  have b7745 := BT_get hI7738.1.1 0 1 2 (0) (0) (900) (by decide) 1 (by decide) (by decide)
  rw [e7744] at b7745
  obtain ⟨w7746, ew7746⟩ : ∃ w : Int32, I7738 (ad g 0) 2 = w := ⟨_, rfl⟩
  have bw7746 := BT_get hI7738.1.1 0 2 3 (0) (0) (900) (by decide) 2 (by decide) (by decide)
  rw [ew7746] at bw7746
  obtain ⟨w7747, ew7747⟩ : ∃ w : Int32, I7738 (ad g 0) 3 = w := ⟨_, rfl⟩
  have bw7747 := BT_get hI7738.1.1 0 3 4 (0) (0) (900) (by decide) 3 (by decide) (by decide)
  rw [ew7747] at bw7747
  obtain ⟨w7748, ew7748⟩ : ∃ w : Int32, I7738 (ad g 0) 4 = w := ⟨_, rfl⟩
  have bw7748 := BT_get hI7738.1.1 0 4 5 (0) (0) (900) (by decide) 4 (by decide) (by decide)
  rw [ew7748] at bw7748
  obtain ⟨w7749, ew7749⟩ : ∃ w : Int32, I7738 (ad g 0) 5 = w := ⟨_, rfl⟩
  have bw7749 := BT_get hI7738.1.1 0 5 6 (0) (0) (4) (by decide) 5 (by decide) (by decide)
  rw [ew7749] at bw7749
  rw [ew7746, ew7747, ew7748, ew7749, ew7733] at pI7738
  obtain ⟨w7750, ew7750⟩ : ∃ w : Int32, I7738 (ad g 0) 7 = w := ⟨_, rfl⟩
  have bw7750 := BT_get hI7738.1.1 0 7 8 (-1) (0) (1000) (by decide) 7 (by decide) (by decide)
  rw [ew7750] at bw7750
  rw [ew7750] at cv7740
  refine WQ_if_ne 16 dX11_readRot_11 rfl (fun c7750 => ?_) (fun c7750 => ?_)
  · refine WP_aload_n dX11_readRot_16 rfl ?_
    refine WQ_getiu dX11_readRot_17 fX11_78 rfl (ly_is hy 0 11 rfl) (fun v7752 ev7752 => ?_)
    refine WP_aload_n dX11_readRot_20 rfl ?_
    refine WQ_getim dX11_readRot_21 fX11_56 rfl (ly_is hy 0 11 rfl) ew7750 ?_
    refine WQ_ishru dX11_readRot_24 (fun v7753 => ?_)
    refine WQ_iconst (1) (1) dX11_readRot_25 rfl rfl (fun v7754 hv7754 => ?_)
    refine WQ_iandu dX11_readRot_26 (fun v7755 => ?_)
    refine WQ_iconst (1) (1) dX11_readRot_27 rfl rfl (fun v7756 hv7756 => ?_)
    refine WQ_icmp_ne 37 dX11_readRot_28 rfl (fun c7756 => ?_) (fun c7756 => ?_)
    · refine WP_aload_n dX11_readRot_37 rfl ?_
      refine WP_dup dX11_readRot_38 rfl ?_
      refine WQ_getim dX11_readRot_39 fX11_78 rfl (ly_is hy 0 11 rfl) ev7752 ?_
      refine WQ_iconst (1) (1) dX11_readRot_42 rfl rfl (fun v7758 hv7758 => ?_)
      refine WP_aload_n dX11_readRot_43 rfl ?_
      refine WQ_getim dX11_readRot_44 fX11_56 rfl (ly_is hy 0 11 rfl) ew7750 ?_
      refine WQ_ishlu dX11_readRot_47 (fun v7759 => ?_)
      refine WQ_ioru dX11_readRot_48 (fun v7760 => ?_)
      refine WQ_puti dX11_readRot_49 fX11_78 rfl rfl (ly_is hy 0 11 rfl) (fun I7761 eI7761 => ?_)
      have hI7761 : MP g n L I7761 := by rw [eI7761]; exact (mp_w hy hI7738 (c := 0) (mi_f0 hy hI7738.1 (c := 0) (by decide) (Or.inr (by decide)) (by decide)) (by decide) (by decide) (Or.inr (by decide)))
      have e7762 : I7761 (ad g 0) 15 = w7723 := by rw [eI7761, pp_ne _ _ (Or.inr (by decide))]; exact e7742
      have e7763 : I7761 (ad g 0) 17 = w7724 := by rw [eI7761, pp_ne _ _ (Or.inr (by decide))]; exact e7743
      have e7764 : I7761 (ad g 0) 1 = L := by rw [eI7761, pp_ne _ _ (Or.inr (by decide))]; exact e7744
      have e7765 : I7761 (ad g 0) 2 = w7746 := by rw [eI7761, pp_ne _ _ (Or.inr (by decide))]; exact ew7746
      have e7766 : I7761 (ad g 0) 3 = w7747 := by rw [eI7761, pp_ne _ _ (Or.inr (by decide))]; exact ew7747
      have e7767 : I7761 (ad g 0) 4 = w7748 := by rw [eI7761, pp_ne _ _ (Or.inr (by decide))]; exact ew7748
      have e7768 : I7761 (ad g 0) 5 = w7749 := by rw [eI7761, pp_ne _ _ (Or.inr (by decide))]; exact ew7749
      have e7769 : I7761 (ad g 0) 7 = w7750 := by rw [eI7761, pp_ne _ _ (Or.inr (by decide))]; exact ew7750
      have e7770 : I7761 (ad g 0) 51 = v7760 := by rw [eI7761, pp_self]
      have fr7771 : fz 49 g [0, 7] I I7761 := by rw [eI7761]; exact fzm_pp hy fr7741 (by decide) (by decide)
      clear eI7761
      refine WP_aload_n dX11_readRot_52 rfl ?_
      refine WQ_getim dX11_readRot_53 fX11_56 rfl (ly_is hy 0 11 rfl) e7769 ?_
      refine WP_istore_n (ls' := [(0, _), (1, _)]) dX11_readRot_56 (by decide) rfl ?_
      refine WP_aload_n dX11_readRot_57 rfl ?_
      refine WP_callV0 (k := 11) dX11_readRot_58 ⟨⟨⟨by decide, by decide⟩, zX11_scan⟩, lX11_63, by decide, rfl, vX11_scan.1, vX11_scan.2⟩ (ly_is hy 0 11 rfl) (sm_scanx hy hr hI7761   (by rw [e7767, e7765]; omega)) (Nat.le_of_ble_eq_true rfl) ?_
      intro r I7772 J7773 Ra hq
      obtain ⟨⟨hI7772, ec, fiI7772, ⟨pI7772, sI7772_0_7, sI7772_0_15, sI7772_0_16, sI7772_0_17, sI7772_0_18⟩⟩, rfl⟩ := hq
      rw [ec]
      clear ec Ra
      have fr7774 : fz 49 g [0, 7] I I7772 := fz_tr fr7771 (fz_mono fiI7772 (by decide))
      have e7775 : I7772 (ad g 0) 7 = w7750 := by rw [sI7772_0_7]; exact e7769
      have e7776 : I7772 (ad g 0) 15 = w7723 := by rw [sI7772_0_15]; exact e7762
      have e7777 : I7772 (ad g 0) 17 = w7724 := by rw [sI7772_0_17]; exact e7763
      have e7778 : I7772 (ad g 0) 1 = L := hI7772.1.2
      have b7779 := BT_get hI7772.1.1 0 1 2 (0) (0) (900) (by decide) 1 (by decide) (by decide)
      rw [e7778] at b7779
      obtain ⟨w7780, ew7780⟩ : ∃ w : Int32, I7772 (ad g 0) 2 = w := ⟨_, rfl⟩
      have bw7780 := BT_get hI7772.1.1 0 2 3 (0) (0) (900) (by decide) 2 (by decide) (by decide)
      rw [ew7780] at bw7780
      obtain ⟨w7781, ew7781⟩ : ∃ w : Int32, I7772 (ad g 0) 3 = w := ⟨_, rfl⟩
      have bw7781 := BT_get hI7772.1.1 0 3 4 (0) (0) (900) (by decide) 3 (by decide) (by decide)
      rw [ew7781] at bw7781
      obtain ⟨w7782, ew7782⟩ : ∃ w : Int32, I7772 (ad g 0) 4 = w := ⟨_, rfl⟩
      have bw7782 := BT_get hI7772.1.1 0 4 5 (0) (0) (900) (by decide) 4 (by decide) (by decide)
      rw [ew7782] at bw7782
      obtain ⟨w7783, ew7783⟩ : ∃ w : Int32, I7772 (ad g 0) 5 = w := ⟨_, rfl⟩
      have bw7783 := BT_get hI7772.1.1 0 5 6 (0) (0) (4) (by decide) 5 (by decide) (by decide)
      rw [ew7783] at bw7783
      rw [ew7780, ew7781, ew7782, ew7783, e7767] at pI7772
      refine WP_aload_n dX11_readRot_61 rfl ?_
      refine WQ_iconst (0) (0) dX11_readRot_62 rfl rfl (fun v7784 hv7784 => ?_)
      refine WQ_sipush (900) (900) dX11_readRot_63 rfl rfl (fun v7785 hv7785 => ?_)
      refine WP_callV2 (k := 11) dX11_readRot_66 ⟨⟨⟨by decide, by decide⟩, zX11_number⟩, lX11_81, by decide, rfl, vX11_number.1, vX11_number.2⟩ (ly_is hy 0 11 rfl) (sm_numberx hy hr hI7772 v7784 v7785 (by omega) (by omega) (by omega) (by omega) (by rw [ew7780, ew7781, ew7782, ew7783]; omega)) (Nat.le_of_ble_eq_true rfl) ?_
      intro r I7786 J7787 Ra hq
      obtain ⟨⟨hI7786, ec, fiI7786, ⟨pI7786, sI7786_0_15, sI7786_0_16, sI7786_0_17, sI7786_0_18⟩⟩, v7788, rfl, av7788, bv7788, cv7788⟩ := hq
      show WP _ _ _ _ (.int _ :: _) _ _ _ _
      rw [ec]
      clear ec Ra
      have fr7789 : fz 49 g [0, 7] I I7786 := fz_tr fr7774 (fz_mono fiI7786 (by decide))
      have e7790 : I7786 (ad g 0) 15 = w7723 := by rw [sI7786_0_15]; exact e7776
      have e7791 : I7786 (ad g 0) 17 = w7724 := by rw [sI7786_0_17]; exact e7777
      have e7792 : I7786 (ad g 0) 1 = L := hI7786.1.2
      have b7793 := BT_get hI7786.1.1 0 1 2 (0) (0) (900) (by decide) 1 (by decide) (by decide)
      rw [e7792] at b7793
      obtain ⟨w7794, ew7794⟩ : ∃ w : Int32, I7786 (ad g 0) 2 = w := ⟨_, rfl⟩
      have bw7794 := BT_get hI7786.1.1 0 2 3 (0) (0) (900) (by decide) 2 (by decide) (by decide)
      rw [ew7794] at bw7794
      obtain ⟨w7795, ew7795⟩ : ∃ w : Int32, I7786 (ad g 0) 3 = w := ⟨_, rfl⟩
      have bw7795 := BT_get hI7786.1.1 0 3 4 (0) (0) (900) (by decide) 3 (by decide) (by decide)
      rw [ew7795] at bw7795
      obtain ⟨w7796, ew7796⟩ : ∃ w : Int32, I7786 (ad g 0) 4 = w := ⟨_, rfl⟩
      have bw7796 := BT_get hI7786.1.1 0 4 5 (0) (0) (900) (by decide) 4 (by decide) (by decide)
      rw [ew7796] at bw7796
      obtain ⟨w7797, ew7797⟩ : ∃ w : Int32, I7786 (ad g 0) 5 = w := ⟨_, rfl⟩
      have bw7797 := BT_get hI7786.1.1 0 5 6 (0) (0) (4) (by decide) 5 (by decide) (by decide)
      rw [ew7797] at bw7797
      rw [ew7794, ew7795, ew7796, ew7797, ew7781] at pI7786
      obtain ⟨w7798, ew7798⟩ : ∃ w : Int32, I7786 (ad g 0) 7 = w := ⟨_, rfl⟩
      have bw7798 := BT_get hI7786.1.1 0 7 8 (-1) (0) (1000) (by decide) 7 (by decide) (by decide)
      rw [ew7798] at bw7798
      rw [ew7798] at cv7788
      refine WQ_if_ne 74 dX11_readRot_69 rfl (fun c7798 => ?_) (fun c7798 => ?_)
      · refine WP_aload_n dX11_readRot_74 rfl ?_
        refine WP_getr dX11_readRot_75 fX11_84 rfl (ly_is hy 0 11 rfl) (rf hr 0 25 7 (by decide)) ?_
        refine WP_iload_n dX11_readRot_78 rfl ?_
        refine WP_aload_n dX11_readRot_79 rfl ?_
        refine WQ_getim dX11_readRot_80 fX11_56 rfl (ly_is hy 0 11 rfl) ew7798 ?_
        refine WQ_iast dX11_readRot_83 (ly_is hy 7 13 rfl) (ly_n hy 7 7 rfl) (by omega) (by omega) (fun I7800 eI7800 => ?_)
        have hI7800 : MP g n L I7800 := by rw [eI7800]; exact (mp_w hy hI7786 (c := 7) (mi_r hy hI7786.1 (c := 7) (0) (0) (900) (by decide) (Or.inl (by decide)) (by decide) (by omega) (by omega)) (by decide) (by decide) (Or.inl (by decide)))
        have e7801 : I7800 (ad g 0) 15 = w7723 := by rw [eI7800, pp_ne _ _ (Or.inl (ly_ne hy (by decide) (by decide) (by decide)))]; exact e7790
        have e7802 : I7800 (ad g 0) 17 = w7724 := by rw [eI7800, pp_ne _ _ (Or.inl (ly_ne hy (by decide) (by decide) (by decide)))]; exact e7791
        have e7803 : I7800 (ad g 0) 1 = L := by rw [eI7800, pp_ne _ _ (Or.inl (ly_ne hy (by decide) (by decide) (by decide)))]; exact e7792
        have e7804 : I7800 (ad g 0) 2 = w7794 := by rw [eI7800, pp_ne _ _ (Or.inl (ly_ne hy (by decide) (by decide) (by decide)))]; exact ew7794
        have e7805 : I7800 (ad g 0) 3 = w7795 := by rw [eI7800, pp_ne _ _ (Or.inl (ly_ne hy (by decide) (by decide) (by decide)))]; exact ew7795
        have e7806 : I7800 (ad g 0) 4 = w7796 := by rw [eI7800, pp_ne _ _ (Or.inl (ly_ne hy (by decide) (by decide) (by decide)))]; exact ew7796
        have e7807 : I7800 (ad g 0) 5 = w7797 := by rw [eI7800, pp_ne _ _ (Or.inl (ly_ne hy (by decide) (by decide) (by decide)))]; exact ew7797
        have e7808 : I7800 (ad g 0) 7 = w7798 := by rw [eI7800, pp_ne _ _ (Or.inl (ly_ne hy (by decide) (by decide) (by decide)))]; exact ew7798
        have fr7809 : fz 49 g [0, 7] I I7800 := by rw [eI7800]; exact fzm_pp hy fr7789 (by decide) (by decide)
        clear eI7800
        refine WQ_iconst (1) (1) dX11_readRot_84 rfl rfl (fun v7810 hv7810 => ?_)
        exact WP_zret dX11_readRot_85 rfl (nar_z (by omega)) ⟨⟨hI7800, rfl, fr7809, (by rw [e7804, e7805, e7806, e7807, e7801, e7802, ew7720]; omega)⟩, _, rfl, by omega, by omega, (fun _ => by rw [fz_at fr7809 30 (by decide) (by decide), fz_at fr7809 31 (by decide) (by decide), show I7800 (ad g 0) 15 = I (ad g 0) 15 from (by rw [e7801, ew7723] <;> exact (eq32 _ _).mpr (by omega))]; exact hw)⟩
      · refine WQ_iconst (0) (0) dX11_readRot_72 rfl rfl (fun v7811 hv7811 => ?_)
        exact WP_zret dX11_readRot_73 rfl (nar_z (by omega)) ⟨⟨hI7786, rfl, fr7789, (by rw [ew7794, ew7795, ew7796, ew7797, e7790, e7791, ew7720]; omega)⟩, _, rfl, by omega, by omega, (fun h => False.elim (by omega))⟩
    · refine WP_aload_n dX11_readRot_31 rfl ?_
      refine WQ_iconst (3) (3) dX11_readRot_32 rfl rfl (fun v7812 hv7812 => ?_)
      refine WP_callV1 (k := 11) dX11_readRot_33 ⟨⟨⟨by decide, by decide⟩, zX11_bad⟩, lX11_49, by decide, rfl, vX11_bad.1, vX11_bad.2⟩ (ly_is hy 0 11 rfl) (sm_badx hy hr hI7738 v7812  (by rw [ew7746, ew7747, ew7748, ew7749]; omega)) (Nat.le_of_ble_eq_true rfl) ?_
      intro r I7813 J7814 Ra hq
      obtain ⟨⟨hI7813, ec, fiI7813, ⟨pI7813, sI7813_0_15, sI7813_0_16, sI7813_0_17, sI7813_0_18⟩⟩, v7815, rfl, av7815, bv7815⟩ := hq
      show WP _ _ _ _ (.int _ :: _) _ _ _ _
      rw [ec]
      clear ec Ra
      have fr7816 : fz 49 g [0, 7] I I7813 := fz_tr fr7741 (fz_mono fiI7813 (by decide))
      have e7817 : I7813 (ad g 0) 15 = w7723 := by rw [sI7813_0_15]; exact e7742
      have e7818 : I7813 (ad g 0) 17 = w7724 := by rw [sI7813_0_17]; exact e7743
      have e7819 : I7813 (ad g 0) 1 = L := hI7813.1.2
      have b7820 := BT_get hI7813.1.1 0 1 2 (0) (0) (900) (by decide) 1 (by decide) (by decide)
      rw [e7819] at b7820
      obtain ⟨w7821, ew7821⟩ : ∃ w : Int32, I7813 (ad g 0) 2 = w := ⟨_, rfl⟩
      have bw7821 := BT_get hI7813.1.1 0 2 3 (0) (0) (900) (by decide) 2 (by decide) (by decide)
      rw [ew7821] at bw7821
      obtain ⟨w7822, ew7822⟩ : ∃ w : Int32, I7813 (ad g 0) 3 = w := ⟨_, rfl⟩
      have bw7822 := BT_get hI7813.1.1 0 3 4 (0) (0) (900) (by decide) 3 (by decide) (by decide)
      rw [ew7822] at bw7822
      obtain ⟨w7823, ew7823⟩ : ∃ w : Int32, I7813 (ad g 0) 4 = w := ⟨_, rfl⟩
      have bw7823 := BT_get hI7813.1.1 0 4 5 (0) (0) (900) (by decide) 4 (by decide) (by decide)
      rw [ew7823] at bw7823
      obtain ⟨w7824, ew7824⟩ : ∃ w : Int32, I7813 (ad g 0) 5 = w := ⟨_, rfl⟩
      have bw7824 := BT_get hI7813.1.1 0 5 6 (0) (0) (4) (by decide) 5 (by decide) (by decide)
      rw [ew7824] at bw7824
      rw [ew7821, ew7822, ew7823, ew7824, ew7747] at pI7813
      exact WP_zret dX11_readRot_36 rfl (nar_z (by omega)) ⟨⟨hI7813, rfl, fr7816, (by rw [ew7821, ew7822, ew7823, ew7824, e7817, e7818, ew7720]; omega)⟩, _, rfl, by omega, by omega, (fun h => False.elim (by omega))⟩
  · refine WQ_iconst (0) (0) dX11_readRot_14 rfl rfl (fun v7825 hv7825 => ?_)
    exact WP_zret dX11_readRot_15 rfl (nar_z (by omega)) ⟨⟨hI7738, rfl, fr7741, (by rw [ew7746, ew7747, ew7748, ew7749, e7742, e7743, ew7720]; omega)⟩, _, rfl, by omega, by omega, (fun h => False.elim (by omega))⟩
set_option maxHeartbeats 4000000 in
set_option maxRecDepth 100000 in
theorem sm_readThingOfx {g : GG} {n : Int} {L : Int32} (hy : Ly g)  {I : pI} {J : pJ} {R : pR} (hr : Rf g R) (hI : MP g n L I)   (hb : ((I (ad g 0) 4).toInt ≤ (I (ad g 0) 2).toInt ∧ (I (ad g 0) 3).toInt ≤ (I (ad g 0) 4).toInt ∧ ((I (ad g 0) 5).toInt = 0 ∨ (I (ad g 0) 3).toInt < (I (ad g 0) 4).toInt)) ∧ (I (ad g 0) 17).toInt < (I (ad g 0) 15).toInt) (hw : WRt (I (ad g 30)) (I (ad g 31)) (7 * (I (ad g 0) 15).toInt)) : SP g mX11_readThingOf [.ref (ad g 0)] I J R (fun r I' J' R' => (MP g n L I' ∧ R' = R ∧ fz 49 g [0, 18, 19, 28, 29, 34] I I' ∧ (((I' (ad g 0) 4).toInt ≤ (I' (ad g 0) 2).toInt ∧ (I' (ad g 0) 3).toInt ≤ (I' (ad g 0) 4).toInt ∧ ((I' (ad g 0) 5).toInt = 0 ∨ (I' (ad g 0) 3).toInt < (I' (ad g 0) 4).toInt)) ∧ (I (ad g 0) 3).toInt ≤ (I' (ad g 0) 3).toInt ∧ (I' (ad g 0) 17).toInt < (I' (ad g 0) 15).toInt)) ∧ ∃ v : Int32, r = some (.int v) ∧ 0 ≤ v.toInt ∧ v.toInt ≤ 1 ∧ (v.toInt = 1 → WRt (I' (ad g 30)) (I' (ad g 31)) (7 * (I' (ad g 0) 15).toInt))) := by
  refine SP_of ⟨by decide, rfl⟩ (Nat.le_of_ble_eq_true rfl) ?_
  have e7826 : I (ad g 0) 1 = L := hI.1.2
  have b7827 := BT_get hI.1.1 0 1 2 (0) (0) (900) (by decide) 1 (by decide) (by decide)
  rw [e7826] at b7827
  have fr0 : fz 49 g [0, 18, 19, 28, 29, 34] I I := fz_rf
  obtain ⟨w7828, ew7828⟩ : ∃ w : Int32, I (ad g 0) 2 = w := ⟨_, rfl⟩
  have bw7828 := BT_get hI.1.1 0 2 3 (0) (0) (900) (by decide) 2 (by decide) (by decide)
  rw [ew7828] at bw7828
  obtain ⟨w7829, ew7829⟩ : ∃ w : Int32, I (ad g 0) 3 = w := ⟨_, rfl⟩
  have bw7829 := BT_get hI.1.1 0 3 4 (0) (0) (900) (by decide) 3 (by decide) (by decide)
  rw [ew7829] at bw7829
  obtain ⟨w7830, ew7830⟩ : ∃ w : Int32, I (ad g 0) 4 = w := ⟨_, rfl⟩
  have bw7830 := BT_get hI.1.1 0 4 5 (0) (0) (900) (by decide) 4 (by decide) (by decide)
  rw [ew7830] at bw7830
  obtain ⟨w7831, ew7831⟩ : ∃ w : Int32, I (ad g 0) 5 = w := ⟨_, rfl⟩
  have bw7831 := BT_get hI.1.1 0 5 6 (0) (0) (4) (by decide) 5 (by decide) (by decide)
  rw [ew7831] at bw7831
  obtain ⟨w7832, ew7832⟩ : ∃ w : Int32, I (ad g 0) 15 = w := ⟨_, rfl⟩
  have bw7832 := BT_get hI.1.1 0 15 16 (0) (0) (4) (by decide) 15 (by decide) (by decide)
  rw [ew7832] at bw7832
  obtain ⟨w7833, ew7833⟩ : ∃ w : Int32, I (ad g 0) 17 = w := ⟨_, rfl⟩
  have bw7833 := BT_get hI.1.1 0 17 18 (-1) (0) (3) (by decide) 17 (by decide) (by decide)
  rw [ew7833] at bw7833
  rw [ew7828, ew7829, ew7830, ew7831, ew7832, ew7833] at hb
  refine WP_aload_n dX11_readThingOf_0 rfl ?_
  refine WQ_geti dX11_readThingOf_1 fX11_126 rfl (ly_is hy 0 11 rfl) (BT_get hI.1.1 0 16 17 (0) (0) (3) (by decide) 16 (by decide) (by decide)) (fun v7834 ev7834 av7834 bv7834 => ?_)
  refine WQ_iconst (3) (3) dX11_readThingOf_4 rfl rfl (fun v7835 hv7835 => ?_)
  refine WQ_icmp_ne 14 dX11_readThingOf_5 rfl (fun c7835 => ?_) (fun c7835 => ?_)
  · refine WP_aload_n dX11_readThingOf_14 rfl ?_
    refine WP_callV0 (k := 11) dX11_readThingOf_15 ⟨⟨⟨by decide, by decide⟩, zX11_scan⟩, lX11_63, by decide, rfl, vX11_scan.1, vX11_scan.2⟩ (ly_is hy 0 11 rfl) (sm_scanx hy hr hI   (by rw [ew7830, ew7828]; omega)) (Nat.le_of_ble_eq_true rfl) ?_
    intro r I7837 J7838 Ra hq
    obtain ⟨⟨hI7837, ec, fiI7837, ⟨pI7837, sI7837_0_7, sI7837_0_15, sI7837_0_16, sI7837_0_17, sI7837_0_18⟩⟩, rfl⟩ := hq
    rw [ec]
    clear ec Ra
    have fr7839 : fz 49 g [0, 18, 19, 28, 29, 34] I I7837 := fz_tr fr0 (fz_mono fiI7837 (by decide))
    have e7840 : I7837 (ad g 0) 15 = w7832 := by rw [sI7837_0_15]; exact ew7832
    have e7841 : I7837 (ad g 0) 16 = v7834 := by rw [sI7837_0_16]; exact ev7834
    have e7842 : I7837 (ad g 0) 17 = w7833 := by rw [sI7837_0_17]; exact ew7833
    have e7843 : I7837 (ad g 0) 1 = L := hI7837.1.2
    have b7844 := BT_get hI7837.1.1 0 1 2 (0) (0) (900) (by decide) 1 (by decide) (by decide)
    rw [e7843] at b7844
    obtain ⟨w7845, ew7845⟩ : ∃ w : Int32, I7837 (ad g 0) 2 = w := ⟨_, rfl⟩
    have bw7845 := BT_get hI7837.1.1 0 2 3 (0) (0) (900) (by decide) 2 (by decide) (by decide)
    rw [ew7845] at bw7845
    obtain ⟨w7846, ew7846⟩ : ∃ w : Int32, I7837 (ad g 0) 3 = w := ⟨_, rfl⟩
    have bw7846 := BT_get hI7837.1.1 0 3 4 (0) (0) (900) (by decide) 3 (by decide) (by decide)
    rw [ew7846] at bw7846
    obtain ⟨w7847, ew7847⟩ : ∃ w : Int32, I7837 (ad g 0) 4 = w := ⟨_, rfl⟩
    have bw7847 := BT_get hI7837.1.1 0 4 5 (0) (0) (900) (by decide) 4 (by decide) (by decide)
    rw [ew7847] at bw7847
    obtain ⟨w7848, ew7848⟩ : ∃ w : Int32, I7837 (ad g 0) 5 = w := ⟨_, rfl⟩
    have bw7848 := BT_get hI7837.1.1 0 5 6 (0) (0) (4) (by decide) 5 (by decide) (by decide)
    rw [ew7848] at bw7848
    rw [ew7845, ew7846, ew7847, ew7848, ew7830] at pI7837
    refine WP_aload_n dX11_readThingOf_18 rfl ?_
    refine WQ_getim dX11_readThingOf_19 fX11_126 rfl (ly_is hy 0 11 rfl) e7841 ?_
    refine WP_istore_n (ls' := [(0, _), (1, _)]) dX11_readThingOf_22 (by decide) rfl ?_
    refine WP_aload_n dX11_readThingOf_23 rfl ?_
    refine WP_aload_n dX11_readThingOf_24 rfl ?_
    refine WP_getr dX11_readThingOf_25 fX11_129 rfl (ly_is hy 0 11 rfl) (rf hr 0 23 5 (by decide)) ?_
    refine WP_iload_n dX11_readThingOf_28 rfl ?_
    refine WP_callV2 (k := 11) dX11_readThingOf_29 ⟨⟨⟨by decide, by decide⟩, zX11_fresh⟩, lX11_95, by decide, rfl, vX11_fresh.1, vX11_fresh.2⟩ (ly_is hy 0 11 rfl) (sm_freshx_5 hy hr hI7837 v7834 (by omega) (by omega) (by rw [ew7845, ew7846, ew7847, ew7848]; omega)) (Nat.le_of_ble_eq_true rfl) ?_
    intro r I7849 J7850 Ra hq
    obtain ⟨⟨hI7849, ec, fiI7849, ⟨pI7849, sI7849_0_15, sI7849_0_16, sI7849_0_17, sI7849_0_18⟩⟩, v7851, rfl, av7851, bv7851⟩ := hq
    show WP _ _ _ _ (.int _ :: _) _ _ _ _
    rw [ec]
    clear ec Ra
    have fr7852 : fz 49 g [0, 18, 19, 28, 29, 34] I I7849 := fz_tr fr7839 (fz_mono fiI7849 (by decide))
    have e7853 : I7849 (ad g 0) 15 = w7832 := by rw [sI7849_0_15]; exact e7840
    have e7854 : I7849 (ad g 0) 16 = v7834 := by rw [sI7849_0_16]; exact e7841
    have e7855 : I7849 (ad g 0) 17 = w7833 := by rw [sI7849_0_17]; exact e7842
    have e7856 : I7849 (ad g 0) 1 = L := hI7849.1.2
    have b7857 := BT_get hI7849.1.1 0 1 2 (0) (0) (900) (by decide) 1 (by decide) (by decide)
    rw [e7856] at b7857
    obtain ⟨w7858, ew7858⟩ : ∃ w : Int32, I7849 (ad g 0) 2 = w := ⟨_, rfl⟩
    have bw7858 := BT_get hI7849.1.1 0 2 3 (0) (0) (900) (by decide) 2 (by decide) (by decide)
    rw [ew7858] at bw7858
    obtain ⟨w7859, ew7859⟩ : ∃ w : Int32, I7849 (ad g 0) 3 = w := ⟨_, rfl⟩
    have bw7859 := BT_get hI7849.1.1 0 3 4 (0) (0) (900) (by decide) 3 (by decide) (by decide)
    rw [ew7859] at bw7859
    obtain ⟨w7860, ew7860⟩ : ∃ w : Int32, I7849 (ad g 0) 4 = w := ⟨_, rfl⟩
    have bw7860 := BT_get hI7849.1.1 0 4 5 (0) (0) (900) (by decide) 4 (by decide) (by decide)
    rw [ew7860] at bw7860
    obtain ⟨w7861, ew7861⟩ : ∃ w : Int32, I7849 (ad g 0) 5 = w := ⟨_, rfl⟩
    have bw7861 := BT_get hI7849.1.1 0 5 6 (0) (0) (4) (by decide) 5 (by decide) (by decide)
    rw [ew7861] at bw7861
    rw [ew7858, ew7859, ew7860, ew7861, ew7846] at pI7849
    refine WQ_if_eq 46 dX11_readThingOf_32 rfl (fun c7861 => ?_) (fun c7861 => ?_)
    · refine WQ_iconst (0) (0) dX11_readThingOf_46 rfl rfl (fun v7863 hv7863 => ?_)
      exact WP_zret dX11_readThingOf_47 rfl (nar_z (by omega)) ⟨⟨hI7849, rfl, fr7852, (by rw [ew7858, ew7859, ew7860, ew7861, e7853, e7855, ew7829]; omega)⟩, _, rfl, by omega, by omega, (fun h => False.elim (by omega))⟩
    · refine WP_aload_n dX11_readThingOf_35 rfl ?_
      refine WQ_iconst (0) (0) dX11_readThingOf_36 rfl rfl (fun v7864 hv7864 => ?_)
      refine WQ_sipush (1000) (1000) dX11_readThingOf_37 rfl rfl (fun v7865 hv7865 => ?_)
      refine WP_callV2 (k := 11) dX11_readThingOf_40 ⟨⟨⟨by decide, by decide⟩, zX11_number⟩, lX11_81, by decide, rfl, vX11_number.1, vX11_number.2⟩ (ly_is hy 0 11 rfl) (sm_numberx hy hr hI7849 v7864 v7865 (by omega) (by omega) (by omega) (by omega) (by rw [ew7858, ew7859, ew7860, ew7861]; omega)) (Nat.le_of_ble_eq_true rfl) ?_
      intro r I7866 J7867 Ra hq
      obtain ⟨⟨hI7866, ec, fiI7866, ⟨pI7866, sI7866_0_15, sI7866_0_16, sI7866_0_17, sI7866_0_18⟩⟩, v7868, rfl, av7868, bv7868, cv7868⟩ := hq
      show WP _ _ _ _ (.int _ :: _) _ _ _ _
      rw [ec]
      clear ec Ra
      have fr7869 : fz 49 g [0, 18, 19, 28, 29, 34] I I7866 := fz_tr fr7852 (fz_mono fiI7866 (by decide))
      have e7870 : I7866 (ad g 0) 15 = w7832 := by rw [sI7866_0_15]; exact e7853
      have e7871 : I7866 (ad g 0) 16 = v7834 := by rw [sI7866_0_16]; exact e7854
      have e7872 : I7866 (ad g 0) 17 = w7833 := by rw [sI7866_0_17]; exact e7855
      have e7873 : I7866 (ad g 0) 1 = L := hI7866.1.2
      have b7874 := BT_get hI7866.1.1 0 1 2 (0) (0) (900) (by decide) 1 (by decide) (by decide)
      rw [e7873] at b7874
      obtain ⟨w7875, ew7875⟩ : ∃ w : Int32, I7866 (ad g 0) 2 = w := ⟨_, rfl⟩
      have bw7875 := BT_get hI7866.1.1 0 2 3 (0) (0) (900) (by decide) 2 (by decide) (by decide)
      rw [ew7875] at bw7875
      obtain ⟨w7876, ew7876⟩ : ∃ w : Int32, I7866 (ad g 0) 3 = w := ⟨_, rfl⟩
      have bw7876 := BT_get hI7866.1.1 0 3 4 (0) (0) (900) (by decide) 3 (by decide) (by decide)
      rw [ew7876] at bw7876
      obtain ⟨w7877, ew7877⟩ : ∃ w : Int32, I7866 (ad g 0) 4 = w := ⟨_, rfl⟩
      have bw7877 := BT_get hI7866.1.1 0 4 5 (0) (0) (900) (by decide) 4 (by decide) (by decide)
      rw [ew7877] at bw7877
      obtain ⟨w7878, ew7878⟩ : ∃ w : Int32, I7866 (ad g 0) 5 = w := ⟨_, rfl⟩
      have bw7878 := BT_get hI7866.1.1 0 5 6 (0) (0) (4) (by decide) 5 (by decide) (by decide)
      rw [ew7878] at bw7878
      rw [ew7875, ew7876, ew7877, ew7878, ew7859] at pI7866
      obtain ⟨w7879, ew7879⟩ : ∃ w : Int32, I7866 (ad g 0) 7 = w := ⟨_, rfl⟩
      have bw7879 := BT_get hI7866.1.1 0 7 8 (-1) (0) (1000) (by decide) 7 (by decide) (by decide)
      rw [ew7879] at bw7879
      rw [ew7879] at cv7868
      refine WQ_if_ne 48 dX11_readThingOf_43 rfl (fun c7879 => ?_) (fun c7879 => ?_)
      · refine WP_aload_n dX11_readThingOf_48 rfl ?_
        refine WP_getr dX11_readThingOf_49 fX11_132 rfl (ly_is hy 0 11 rfl) (rf hr 0 36 18 (by decide)) ?_
        refine WP_iload_n dX11_readThingOf_52 rfl ?_
        refine WP_aload_n dX11_readThingOf_53 rfl ?_
        refine WQ_getim dX11_readThingOf_54 fX11_56 rfl (ly_is hy 0 11 rfl) ew7879 ?_
        refine WQ_iast dX11_readThingOf_57 (ly_is hy 18 13 rfl) (ly_n hy 18 3 rfl) (by omega) (by omega) (fun I7881 eI7881 => ?_)
        have hI7881 : MP g n L I7881 := by rw [eI7881]; exact (mp_w hy hI7866 (c := 18) (mi_r hy hI7866.1 (c := 18) (0) (0) (1000) (by decide) (Or.inl (by decide)) (by decide) (by omega) (by omega)) (by decide) (by decide) (Or.inl (by decide)))
        have e7882 : I7881 (ad g 0) 15 = w7832 := by rw [eI7881, pp_ne _ _ (Or.inl (ly_ne hy (by decide) (by decide) (by decide)))]; exact e7870
        have e7883 : I7881 (ad g 0) 16 = v7834 := by rw [eI7881, pp_ne _ _ (Or.inl (ly_ne hy (by decide) (by decide) (by decide)))]; exact e7871
        have e7884 : I7881 (ad g 0) 17 = w7833 := by rw [eI7881, pp_ne _ _ (Or.inl (ly_ne hy (by decide) (by decide) (by decide)))]; exact e7872
        have e7885 : I7881 (ad g 0) 1 = L := by rw [eI7881, pp_ne _ _ (Or.inl (ly_ne hy (by decide) (by decide) (by decide)))]; exact e7873
        have e7886 : I7881 (ad g 0) 2 = w7875 := by rw [eI7881, pp_ne _ _ (Or.inl (ly_ne hy (by decide) (by decide) (by decide)))]; exact ew7875
        have e7887 : I7881 (ad g 0) 3 = w7876 := by rw [eI7881, pp_ne _ _ (Or.inl (ly_ne hy (by decide) (by decide) (by decide)))]; exact ew7876
        have e7888 : I7881 (ad g 0) 4 = w7877 := by rw [eI7881, pp_ne _ _ (Or.inl (ly_ne hy (by decide) (by decide) (by decide)))]; exact ew7877
        have e7889 : I7881 (ad g 0) 5 = w7878 := by rw [eI7881, pp_ne _ _ (Or.inl (ly_ne hy (by decide) (by decide) (by decide)))]; exact ew7878
        have e7890 : I7881 (ad g 0) 7 = w7879 := by rw [eI7881, pp_ne _ _ (Or.inl (ly_ne hy (by decide) (by decide) (by decide)))]; exact ew7879
        have fr7891 : fz 49 g [0, 18, 19, 28, 29, 34] I I7881 := by rw [eI7881]; exact fzm_pp hy fr7869 (by decide) (by decide)
        clear eI7881
        refine WP_aload_n dX11_readThingOf_58 rfl ?_
        refine WQ_iconst (0) (0) dX11_readThingOf_59 rfl rfl (fun v7892 hv7892 => ?_)
        refine WQ_bipush (9) (9) dX11_readThingOf_60 rfl rfl (fun v7893 hv7893 => ?_)
        refine WP_callV2 (k := 11) dX11_readThingOf_62 ⟨⟨⟨by decide, by decide⟩, zX11_number⟩, lX11_81, by decide, rfl, vX11_number.1, vX11_number.2⟩ (ly_is hy 0 11 rfl) (sm_numberx hy hr hI7881 v7892 v7893 (by omega) (by omega) (by omega) (by omega) (by rw [e7886, e7887, e7888, e7889]; omega)) (Nat.le_of_ble_eq_true rfl) ?_
        intro r I7894 J7895 Ra hq
        obtain ⟨⟨hI7894, ec, fiI7894, ⟨pI7894, sI7894_0_15, sI7894_0_16, sI7894_0_17, sI7894_0_18⟩⟩, v7896, rfl, av7896, bv7896, cv7896⟩ := hq
        show WP _ _ _ _ (.int _ :: _) _ _ _ _
        rw [ec]
        clear ec Ra
        have fr7897 : fz 49 g [0, 18, 19, 28, 29, 34] I I7894 := fz_tr fr7891 (fz_mono fiI7894 (by decide))
        have e7898 : I7894 (ad g 0) 15 = w7832 := by rw [sI7894_0_15]; exact e7882
        have e7899 : I7894 (ad g 0) 16 = v7834 := by rw [sI7894_0_16]; exact e7883
        have e7900 : I7894 (ad g 0) 17 = w7833 := by rw [sI7894_0_17]; exact e7884
        have e7901 : I7894 (ad g 0) 1 = L := hI7894.1.2
        have b7902 := BT_get hI7894.1.1 0 1 2 (0) (0) (900) (by decide) 1 (by decide) (by decide)
        rw [e7901] at b7902
        obtain ⟨w7903, ew7903⟩ : ∃ w : Int32, I7894 (ad g 0) 2 = w := ⟨_, rfl⟩
        have bw7903 := BT_get hI7894.1.1 0 2 3 (0) (0) (900) (by decide) 2 (by decide) (by decide)
        rw [ew7903] at bw7903
        obtain ⟨w7904, ew7904⟩ : ∃ w : Int32, I7894 (ad g 0) 3 = w := ⟨_, rfl⟩
        have bw7904 := BT_get hI7894.1.1 0 3 4 (0) (0) (900) (by decide) 3 (by decide) (by decide)
        rw [ew7904] at bw7904
        obtain ⟨w7905, ew7905⟩ : ∃ w : Int32, I7894 (ad g 0) 4 = w := ⟨_, rfl⟩
        have bw7905 := BT_get hI7894.1.1 0 4 5 (0) (0) (900) (by decide) 4 (by decide) (by decide)
        rw [ew7905] at bw7905
        obtain ⟨w7906, ew7906⟩ : ∃ w : Int32, I7894 (ad g 0) 5 = w := ⟨_, rfl⟩
        have bw7906 := BT_get hI7894.1.1 0 5 6 (0) (0) (4) (by decide) 5 (by decide) (by decide)
        rw [ew7906] at bw7906
        rw [ew7903, ew7904, ew7905, ew7906, e7887] at pI7894
        obtain ⟨w7907, ew7907⟩ : ∃ w : Int32, I7894 (ad g 0) 7 = w := ⟨_, rfl⟩
        have bw7907 := BT_get hI7894.1.1 0 7 8 (-1) (0) (1000) (by decide) 7 (by decide) (by decide)
        rw [ew7907] at bw7907
        rw [ew7907] at cv7896
        refine WQ_if_ne 70 dX11_readThingOf_65 rfl (fun c7907 => ?_) (fun c7907 => ?_)
        · refine WP_aload_n dX11_readThingOf_70 rfl ?_
          refine WP_getr dX11_readThingOf_71 fX11_135 rfl (ly_is hy 0 11 rfl) (rf hr 0 37 19 (by decide)) ?_
          refine WP_iload_n dX11_readThingOf_74 rfl ?_
          refine WP_aload_n dX11_readThingOf_75 rfl ?_
          refine WQ_getim dX11_readThingOf_76 fX11_56 rfl (ly_is hy 0 11 rfl) ew7907 ?_
          refine WQ_iast dX11_readThingOf_79 (ly_is hy 19 13 rfl) (ly_n hy 19 3 rfl) (by omega) (by omega) (fun I7909 eI7909 => ?_)
          have hI7909 : MP g n L I7909 := by rw [eI7909]; exact (mp_w hy hI7894 (c := 19) (mi_r hy hI7894.1 (c := 19) (0) (0) (9) (by decide) (Or.inl (by decide)) (by decide) (by omega) (by omega)) (by decide) (by decide) (Or.inl (by decide)))
          have e7910 : I7909 (ad g 0) 15 = w7832 := by rw [eI7909, pp_ne _ _ (Or.inl (ly_ne hy (by decide) (by decide) (by decide)))]; exact e7898
          have e7911 : I7909 (ad g 0) 16 = v7834 := by rw [eI7909, pp_ne _ _ (Or.inl (ly_ne hy (by decide) (by decide) (by decide)))]; exact e7899
          have e7912 : I7909 (ad g 0) 17 = w7833 := by rw [eI7909, pp_ne _ _ (Or.inl (ly_ne hy (by decide) (by decide) (by decide)))]; exact e7900
          have e7913 : I7909 (ad g 0) 1 = L := by rw [eI7909, pp_ne _ _ (Or.inl (ly_ne hy (by decide) (by decide) (by decide)))]; exact e7901
          have e7914 : I7909 (ad g 0) 2 = w7903 := by rw [eI7909, pp_ne _ _ (Or.inl (ly_ne hy (by decide) (by decide) (by decide)))]; exact ew7903
          have e7915 : I7909 (ad g 0) 3 = w7904 := by rw [eI7909, pp_ne _ _ (Or.inl (ly_ne hy (by decide) (by decide) (by decide)))]; exact ew7904
          have e7916 : I7909 (ad g 0) 4 = w7905 := by rw [eI7909, pp_ne _ _ (Or.inl (ly_ne hy (by decide) (by decide) (by decide)))]; exact ew7905
          have e7917 : I7909 (ad g 0) 5 = w7906 := by rw [eI7909, pp_ne _ _ (Or.inl (ly_ne hy (by decide) (by decide) (by decide)))]; exact ew7906
          have e7918 : I7909 (ad g 0) 7 = w7907 := by rw [eI7909, pp_ne _ _ (Or.inl (ly_ne hy (by decide) (by decide) (by decide)))]; exact ew7907
          have fr7919 : fz 49 g [0, 18, 19, 28, 29, 34] I I7909 := by rw [eI7909]; exact fzm_pp hy fr7897 (by decide) (by decide)
          clear eI7909
          refine WP_aload_n dX11_readThingOf_80 rfl ?_
          refine WP_getr dX11_readThingOf_81 fX11_138 rfl (ly_is hy 0 11 rfl) (rf hr 0 53 34 (by decide)) ?_
          refine WP_iload_n dX11_readThingOf_84 rfl ?_
          refine WQ_iconst (0) (0) dX11_readThingOf_85 rfl rfl (fun v7920 hv7920 => ?_)
          refine WQ_iast dX11_readThingOf_86 (ly_is hy 34 13 rfl) (ly_n hy 34 3 rfl) (by omega) (by omega) (fun I7921 eI7921 => ?_)
          have hI7921 : MP g n L I7921 := by rw [eI7921]; exact (mp_w hy hI7909 (c := 34) (mi_r0 hy hI7909.1 (c := 34) (by decide) (Or.inl (by decide)) (by decide)) (by decide) (by decide) (Or.inl (by decide)))
          have e7922 : I7921 (ad g 0) 15 = w7832 := by rw [eI7921, pp_ne _ _ (Or.inl (ly_ne hy (by decide) (by decide) (by decide)))]; exact e7910
          have e7923 : I7921 (ad g 0) 16 = v7834 := by rw [eI7921, pp_ne _ _ (Or.inl (ly_ne hy (by decide) (by decide) (by decide)))]; exact e7911
          have e7924 : I7921 (ad g 0) 17 = w7833 := by rw [eI7921, pp_ne _ _ (Or.inl (ly_ne hy (by decide) (by decide) (by decide)))]; exact e7912
          have e7925 : I7921 (ad g 0) 1 = L := by rw [eI7921, pp_ne _ _ (Or.inl (ly_ne hy (by decide) (by decide) (by decide)))]; exact e7913
          have e7926 : I7921 (ad g 0) 2 = w7903 := by rw [eI7921, pp_ne _ _ (Or.inl (ly_ne hy (by decide) (by decide) (by decide)))]; exact e7914
          have e7927 : I7921 (ad g 0) 3 = w7904 := by rw [eI7921, pp_ne _ _ (Or.inl (ly_ne hy (by decide) (by decide) (by decide)))]; exact e7915
          have e7928 : I7921 (ad g 0) 4 = w7905 := by rw [eI7921, pp_ne _ _ (Or.inl (ly_ne hy (by decide) (by decide) (by decide)))]; exact e7916
          have e7929 : I7921 (ad g 0) 5 = w7906 := by rw [eI7921, pp_ne _ _ (Or.inl (ly_ne hy (by decide) (by decide) (by decide)))]; exact e7917
          have e7930 : I7921 (ad g 0) 7 = w7907 := by rw [eI7921, pp_ne _ _ (Or.inl (ly_ne hy (by decide) (by decide) (by decide)))]; exact e7918
          have fr7931 : fz 49 g [0, 18, 19, 28, 29, 34] I I7921 := by rw [eI7921]; exact fzm_pp hy fr7919 (by decide) (by decide)
          clear eI7921
          refine WQ_iconst (0) (0) dX11_readThingOf_87 rfl rfl (fun v7932 hv7932 => ?_)
          refine WP_istore_n (ls' := [(0, _), (1, _), (2, _)]) dX11_readThingOf_88 (by decide) rfl ?_
          have lp89_7942 : ∀ (mz : Nat) (i7933 : Int32) (I7934 : pI) (J7935 : pJ), MP g n L I7934 → fz 49 g [0, 18, 19, 28, 29, 34] I I7934 → ∀ (w7936 : Int32), I7934 (ad g 0) 2 = w7936 → ∀ (w7937 : Int32), I7934 (ad g 0) 3 = w7937 → ∀ (w7938 : Int32), I7934 (ad g 0) 4 = w7938 → ∀ (w7939 : Int32), I7934 (ad g 0) 5 = w7939 → ∀ (w7940 : Int32), I7934 (ad g 0) 15 = w7940 → ∀ (w7941 : Int32), I7934 (ad g 0) 17 = w7941 → ∀ (w7942 : Int32), I7934 (ad g 0) 16 = w7942 → 0 ≤ i7933.toInt → i7933.toInt ≤ 7 → w7938.toInt ≤ w7936.toInt → w7937.toInt ≤ w7938.toInt → (w7939.toInt = 0 ∨ w7937.toInt < w7938.toInt) → w7941.toInt < w7940.toInt → w7829.toInt ≤ w7937.toInt → w7940.toInt = w7832.toInt → w7942.toInt ≤ 2 → (8 - i7933.toInt).toNat < mz → WP g mX11_readThingOf 89 [(0, .ref (ad g 0)), (1, .int v7834), (2, .int i7933)] [] I7934 J7935 R (fun r I' J' R' => (MP g n L I' ∧ R' = R ∧ fz 49 g [0, 18, 19, 28, 29, 34] I I' ∧ (((I' (ad g 0) 4).toInt ≤ (I' (ad g 0) 2).toInt ∧ (I' (ad g 0) 3).toInt ≤ (I' (ad g 0) 4).toInt ∧ ((I' (ad g 0) 5).toInt = 0 ∨ (I' (ad g 0) 3).toInt < (I' (ad g 0) 4).toInt)) ∧ (I (ad g 0) 3).toInt ≤ (I' (ad g 0) 3).toInt ∧ (I' (ad g 0) 17).toInt < (I' (ad g 0) 15).toInt)) ∧ ∃ v : Int32, r = some (.int v) ∧ 0 ≤ v.toInt ∧ v.toInt ≤ 1 ∧ (v.toInt = 1 → WRt (I' (ad g 30)) (I' (ad g 31)) (7 * (I' (ad g 0) 15).toInt))) := by
            intro mz
            induction mz with
            | zero =>
              intro i7933 I7934 J7935 hI7934 fiI7934 w7936 ew7936 w7937 ew7937 w7938 ew7938 w7939 ew7939 w7940 ew7940 w7941 ew7941 w7942 ew7942 ai7933 bi7933 j0_I7934 j1_I7934 j2_I7934 j3_I7934 j4_I7934 j5_I7934 j6_I7934 hmlp89_7942
              exact absurd hmlp89_7942 (Nat.not_lt_zero _)
            | succ mz ihlp89_7942 =>
              intro i7933 I7934 J7935 hI7934 fiI7934 w7936 ew7936 w7937 ew7937 w7938 ew7938 w7939 ew7939 w7940 ew7940 w7941 ew7941 w7942 ew7942 ai7933 bi7933 j0_I7934 j1_I7934 j2_I7934 j3_I7934 j4_I7934 j5_I7934 j6_I7934 hmlp89_7942
              have bw7936 := BT_get hI7934.1.1 0 2 3 (0) (0) (900) (by decide) 2 (by decide) (by decide)
              rw [ew7936] at bw7936
              have bw7937 := BT_get hI7934.1.1 0 3 4 (0) (0) (900) (by decide) 3 (by decide) (by decide)
              rw [ew7937] at bw7937
              have bw7938 := BT_get hI7934.1.1 0 4 5 (0) (0) (900) (by decide) 4 (by decide) (by decide)
              rw [ew7938] at bw7938
              have bw7939 := BT_get hI7934.1.1 0 5 6 (0) (0) (4) (by decide) 5 (by decide) (by decide)
              rw [ew7939] at bw7939
              have bw7940 := BT_get hI7934.1.1 0 15 16 (0) (0) (4) (by decide) 15 (by decide) (by decide)
              rw [ew7940] at bw7940
              have bw7941 := BT_get hI7934.1.1 0 17 18 (-1) (0) (3) (by decide) 17 (by decide) (by decide)
              rw [ew7941] at bw7941
              have bw7942 := BT_get hI7934.1.1 0 16 17 (0) (0) (3) (by decide) 16 (by decide) (by decide)
              rw [ew7942] at bw7942
              have e7944 : I7934 (ad g 0) 1 = L := hI7934.1.2
              have b7945 := BT_get hI7934.1.1 0 1 2 (0) (0) (900) (by decide) 1 (by decide) (by decide)
              rw [e7944] at b7945
              refine WP_iload_n dX11_readThingOf_89 rfl ?_
              refine WQ_bipush (7) (7) dX11_readThingOf_90 rfl rfl (fun v7946 hv7946 => ?_)
              refine WQ_icmp_ge 125 dX11_readThingOf_92 rfl (fun c7946 => ?_) (fun c7946 => ?_)
              · refine WP_aload_n dX11_readThingOf_125 rfl ?_
                refine WP_dup dX11_readThingOf_126 rfl ?_
                refine WQ_getim dX11_readThingOf_127 fX11_126 rfl (ly_is hy 0 11 rfl) ew7942 ?_
                refine WQ_iconst (1) (1) dX11_readThingOf_130 rfl rfl (fun v7948 hv7948 => ?_)
                refine WQ_iadd dX11_readThingOf_131 (by omega) (by omega) (fun v7949 hv7949 => ?_)
                refine WQ_puti dX11_readThingOf_132 fX11_126 rfl rfl (ly_is hy 0 11 rfl) (fun I7950 eI7950 => ?_)
                have hI7950 : MP g n L I7950 := by rw [eI7950]; exact (mp_w hy hI7934 (c := 0) (mi_f hy hI7934.1 (c := 0) (0) (0) (3) (by decide) (Or.inr (by decide)) (by decide) (by omega) (by omega)) (by decide) (by decide) (Or.inr (by decide)))
                have e7951 : I7950 (ad g 0) 2 = w7936 := by rw [eI7950, pp_ne _ _ (Or.inr (by decide))]; exact ew7936
                have e7952 : I7950 (ad g 0) 3 = w7937 := by rw [eI7950, pp_ne _ _ (Or.inr (by decide))]; exact ew7937
                have e7953 : I7950 (ad g 0) 4 = w7938 := by rw [eI7950, pp_ne _ _ (Or.inr (by decide))]; exact ew7938
                have e7954 : I7950 (ad g 0) 5 = w7939 := by rw [eI7950, pp_ne _ _ (Or.inr (by decide))]; exact ew7939
                have e7955 : I7950 (ad g 0) 15 = w7940 := by rw [eI7950, pp_ne _ _ (Or.inr (by decide))]; exact ew7940
                have e7956 : I7950 (ad g 0) 17 = w7941 := by rw [eI7950, pp_ne _ _ (Or.inr (by decide))]; exact ew7941
                have e7957 : I7950 (ad g 0) 1 = L := by rw [eI7950, pp_ne _ _ (Or.inr (by decide))]; exact e7944
                have e7958 : I7950 (ad g 0) 16 = v7949 := by rw [eI7950, pp_self]
                have fr7959 : fz 49 g [0, 18, 19, 28, 29, 34] I I7950 := by rw [eI7950]; exact fzm_pp hy fiI7934 (by decide) (by decide)
                clear eI7950
                refine WQ_iconst (1) (1) dX11_readThingOf_135 rfl rfl (fun v7960 hv7960 => ?_)
                exact WP_zret dX11_readThingOf_136 rfl (nar_z (by omega)) ⟨⟨hI7950, rfl, fr7959, (by rw [e7951, e7952, e7953, e7954, e7955, e7956, ew7829]; omega)⟩, _, rfl, by omega, by omega, (fun _ => by rw [fz_at fr7959 30 (by decide) (by decide), fz_at fr7959 31 (by decide) (by decide), show I7950 (ad g 0) 15 = I (ad g 0) 15 from (by rw [e7955, ew7832] <;> exact (eq32 _ _).mpr (by omega))]; exact hw)⟩
              · refine WP_aload_n dX11_readThingOf_95 rfl ?_
                refine WP_getr dX11_readThingOf_96 fX11_141 rfl (ly_is hy 0 11 rfl) (rf hr 0 46 28 (by decide)) ?_
                refine WQ_bipush (7) (7) dX11_readThingOf_99 rfl rfl (fun v7961 hv7961 => ?_)
                refine WP_iload_n dX11_readThingOf_101 rfl ?_
                refine WQ_imulK (7) dX11_readThingOf_102 hv7961 (by omega) (by omega) (fun v7962 hv7962 => ?_)
                refine WP_iload_n dX11_readThingOf_103 rfl ?_
                refine WQ_iadd dX11_readThingOf_104 (by omega) (by omega) (fun v7963 hv7963 => ?_)
                refine WQ_iconst (5) (5) dX11_readThingOf_105 rfl rfl (fun v7964 hv7964 => ?_)
                refine WQ_iast dX11_readThingOf_106 (ly_is hy 28 13 rfl) (ly_n hy 28 21 rfl) (by omega) (by omega) (fun I7965 eI7965 => ?_)
                have hI7965 : MP g n L I7965 := by rw [eI7965]; exact (mp_w hy hI7934 (c := 28) (mi_r hy hI7934.1 (c := 28) (0) (0) (20) (by decide) (Or.inl (by decide)) (by decide) (by omega) (by omega)) (by decide) (by decide) (Or.inl (by decide)))
                have e7966 : I7965 (ad g 0) 2 = w7936 := by rw [eI7965, pp_ne _ _ (Or.inl (ly_ne hy (by decide) (by decide) (by decide)))]; exact ew7936
                have e7967 : I7965 (ad g 0) 3 = w7937 := by rw [eI7965, pp_ne _ _ (Or.inl (ly_ne hy (by decide) (by decide) (by decide)))]; exact ew7937
                have e7968 : I7965 (ad g 0) 4 = w7938 := by rw [eI7965, pp_ne _ _ (Or.inl (ly_ne hy (by decide) (by decide) (by decide)))]; exact ew7938
                have e7969 : I7965 (ad g 0) 5 = w7939 := by rw [eI7965, pp_ne _ _ (Or.inl (ly_ne hy (by decide) (by decide) (by decide)))]; exact ew7939
                have e7970 : I7965 (ad g 0) 15 = w7940 := by rw [eI7965, pp_ne _ _ (Or.inl (ly_ne hy (by decide) (by decide) (by decide)))]; exact ew7940
                have e7971 : I7965 (ad g 0) 17 = w7941 := by rw [eI7965, pp_ne _ _ (Or.inl (ly_ne hy (by decide) (by decide) (by decide)))]; exact ew7941
                have e7972 : I7965 (ad g 0) 16 = w7942 := by rw [eI7965, pp_ne _ _ (Or.inl (ly_ne hy (by decide) (by decide) (by decide)))]; exact ew7942
                have e7973 : I7965 (ad g 0) 1 = L := by rw [eI7965, pp_ne _ _ (Or.inl (ly_ne hy (by decide) (by decide) (by decide)))]; exact e7944
                have fr7974 : fz 49 g [0, 18, 19, 28, 29, 34] I I7965 := by rw [eI7965]; exact fzm_pp hy fiI7934 (by decide) (by decide)
                clear eI7965
                refine WP_aload_n dX11_readThingOf_107 rfl ?_
                refine WP_getr dX11_readThingOf_108 fX11_144 rfl (ly_is hy 0 11 rfl) (rf hr 0 47 29 (by decide)) ?_
                refine WQ_bipush (7) (7) dX11_readThingOf_111 rfl rfl (fun v7975 hv7975 => ?_)
                refine WP_iload_n dX11_readThingOf_113 rfl ?_
                refine WQ_imulK (7) dX11_readThingOf_114 hv7975 (by omega) (by omega) (fun v7976 hv7976 => ?_)
                refine WP_iload_n dX11_readThingOf_115 rfl ?_
                refine WQ_iadd dX11_readThingOf_116 (by omega) (by omega) (fun v7977 hv7977 => ?_)
                refine WQ_iconst (-1) (-1) dX11_readThingOf_117 rfl rfl (fun v7978 hv7978 => ?_)
                refine WQ_iast dX11_readThingOf_118 (ly_is hy 29 13 rfl) (ly_n hy 29 21 rfl) (by omega) (by omega) (fun I7979 eI7979 => ?_)
                have hI7979 : MP g n L I7979 := by rw [eI7979]; exact (mp_w hy hI7965 (c := 29) (mi_r hy hI7965.1 (c := 29) (-1) (0) (999) (by decide) (Or.inl (by decide)) (by decide) (by omega) (by omega)) (by decide) (by decide) (Or.inl (by decide)))
                have e7980 : I7979 (ad g 0) 2 = w7936 := by rw [eI7979, pp_ne _ _ (Or.inl (ly_ne hy (by decide) (by decide) (by decide)))]; exact e7966
                have e7981 : I7979 (ad g 0) 3 = w7937 := by rw [eI7979, pp_ne _ _ (Or.inl (ly_ne hy (by decide) (by decide) (by decide)))]; exact e7967
                have e7982 : I7979 (ad g 0) 4 = w7938 := by rw [eI7979, pp_ne _ _ (Or.inl (ly_ne hy (by decide) (by decide) (by decide)))]; exact e7968
                have e7983 : I7979 (ad g 0) 5 = w7939 := by rw [eI7979, pp_ne _ _ (Or.inl (ly_ne hy (by decide) (by decide) (by decide)))]; exact e7969
                have e7984 : I7979 (ad g 0) 15 = w7940 := by rw [eI7979, pp_ne _ _ (Or.inl (ly_ne hy (by decide) (by decide) (by decide)))]; exact e7970
                have e7985 : I7979 (ad g 0) 17 = w7941 := by rw [eI7979, pp_ne _ _ (Or.inl (ly_ne hy (by decide) (by decide) (by decide)))]; exact e7971
                have e7986 : I7979 (ad g 0) 16 = w7942 := by rw [eI7979, pp_ne _ _ (Or.inl (ly_ne hy (by decide) (by decide) (by decide)))]; exact e7972
                have e7987 : I7979 (ad g 0) 1 = L := by rw [eI7979, pp_ne _ _ (Or.inl (ly_ne hy (by decide) (by decide) (by decide)))]; exact e7973
                have fr7988 : fz 49 g [0, 18, 19, 28, 29, 34] I I7979 := by rw [eI7979]; exact fzm_pp hy fr7974 (by decide) (by decide)
                clear eI7979
                refine WP_iinc (ls' := [(0, _), (1, _), (2, _)]) dX11_readThingOf_119 rfl (by decide) rfl ?_
                have hv7989 : (i7933 + Int32.ofInt (1)).toInt = i7933.toInt + (1) := ia_n rfl (by omega) (by omega)
                generalize i7933 + Int32.ofInt (1) = v7989 at hv7989 ⊢
                refine WP_goto 89 dX11_readThingOf_122 rfl ?_
                exact WP_sub (fc rfl (fc rfl (fc rfl fn))) (ihlp89_7942 v7989 I7979 J7935 hI7979 fr7988 w7936 e7980 w7937 e7981 w7938 e7982 w7939 e7983 w7940 e7984 w7941 e7985 w7942 e7986 (by omega) (by omega) (by omega) (by omega) (by omega) (by omega) (by omega) (by omega) (by omega) (by omega))
          exact WP_sub (fc rfl (fc rfl (fc rfl fn))) (lp89_7942 _ v7932 I7921 J7895 hI7921 fr7931 w7903 e7926 w7904 e7927 w7905 e7928 w7906 e7929 w7832 e7922 w7833 e7924 v7834 e7923 (by omega) (by omega) (by omega) (by omega) (by omega) (by omega) (by omega) (by omega) (by omega) (Nat.lt_succ_self _))
        · refine WQ_iconst (0) (0) dX11_readThingOf_68 rfl rfl (fun v7990 hv7990 => ?_)
          exact WP_zret dX11_readThingOf_69 rfl (nar_z (by omega)) ⟨⟨hI7894, rfl, fr7897, (by rw [ew7903, ew7904, ew7905, ew7906, e7898, e7900, ew7829]; omega)⟩, _, rfl, by omega, by omega, (fun h => False.elim (by omega))⟩
      · refine WQ_iconst (0) (0) dX11_readThingOf_46 rfl rfl (fun v7991 hv7991 => ?_)
        exact WP_zret dX11_readThingOf_47 rfl (nar_z (by omega)) ⟨⟨hI7866, rfl, fr7869, (by rw [ew7875, ew7876, ew7877, ew7878, e7870, e7872, ew7829]; omega)⟩, _, rfl, by omega, by omega, (fun h => False.elim (by omega))⟩
  · refine WP_aload_n dX11_readThingOf_8 rfl ?_
    refine WQ_iconst (4) (4) dX11_readThingOf_9 rfl rfl (fun v7992 hv7992 => ?_)
    refine WP_callV1 (k := 11) dX11_readThingOf_10 ⟨⟨⟨by decide, by decide⟩, zX11_bad⟩, lX11_49, by decide, rfl, vX11_bad.1, vX11_bad.2⟩ (ly_is hy 0 11 rfl) (sm_badx hy hr hI v7992  (by rw [ew7828, ew7829, ew7830, ew7831]; omega)) (Nat.le_of_ble_eq_true rfl) ?_
    intro r I7993 J7994 Ra hq
    obtain ⟨⟨hI7993, ec, fiI7993, ⟨pI7993, sI7993_0_15, sI7993_0_16, sI7993_0_17, sI7993_0_18⟩⟩, v7995, rfl, av7995, bv7995⟩ := hq
    show WP _ _ _ _ (.int _ :: _) _ _ _ _
    rw [ec]
    clear ec Ra
    have fr7996 : fz 49 g [0, 18, 19, 28, 29, 34] I I7993 := fz_tr fr0 (fz_mono fiI7993 (by decide))
    have e7997 : I7993 (ad g 0) 15 = w7832 := by rw [sI7993_0_15]; exact ew7832
    have e7998 : I7993 (ad g 0) 16 = v7834 := by rw [sI7993_0_16]; exact ev7834
    have e7999 : I7993 (ad g 0) 17 = w7833 := by rw [sI7993_0_17]; exact ew7833
    have e8000 : I7993 (ad g 0) 1 = L := hI7993.1.2
    have b8001 := BT_get hI7993.1.1 0 1 2 (0) (0) (900) (by decide) 1 (by decide) (by decide)
    rw [e8000] at b8001
    obtain ⟨w8002, ew8002⟩ : ∃ w : Int32, I7993 (ad g 0) 2 = w := ⟨_, rfl⟩
    have bw8002 := BT_get hI7993.1.1 0 2 3 (0) (0) (900) (by decide) 2 (by decide) (by decide)
    rw [ew8002] at bw8002
    obtain ⟨w8003, ew8003⟩ : ∃ w : Int32, I7993 (ad g 0) 3 = w := ⟨_, rfl⟩
    have bw8003 := BT_get hI7993.1.1 0 3 4 (0) (0) (900) (by decide) 3 (by decide) (by decide)
    rw [ew8003] at bw8003
    obtain ⟨w8004, ew8004⟩ : ∃ w : Int32, I7993 (ad g 0) 4 = w := ⟨_, rfl⟩
    have bw8004 := BT_get hI7993.1.1 0 4 5 (0) (0) (900) (by decide) 4 (by decide) (by decide)
    rw [ew8004] at bw8004
    obtain ⟨w8005, ew8005⟩ : ∃ w : Int32, I7993 (ad g 0) 5 = w := ⟨_, rfl⟩
    have bw8005 := BT_get hI7993.1.1 0 5 6 (0) (0) (4) (by decide) 5 (by decide) (by decide)
    rw [ew8005] at bw8005
    rw [ew8002, ew8003, ew8004, ew8005, ew7829] at pI7993
    exact WP_zret dX11_readThingOf_13 rfl (nar_z (by omega)) ⟨⟨hI7993, rfl, fr7996, (by rw [ew8002, ew8003, ew8004, ew8005, e7997, e7999, ew7829]; omega)⟩, _, rfl, by omega, by omega, (fun h => False.elim (by omega))⟩
set_option maxHeartbeats 4000000 in
set_option maxRecDepth 100000 in
theorem sm_readEarnsx {g : GG} {n : Int} {L : Int32} (hy : Ly g)  {I : pI} {J : pJ} {R : pR} (hr : Rf g R) (hI : MP g n L I)   (hb : ((I (ad g 0) 4).toInt ≤ (I (ad g 0) 2).toInt ∧ (I (ad g 0) 3).toInt ≤ (I (ad g 0) 4).toInt ∧ ((I (ad g 0) 5).toInt = 0 ∨ (I (ad g 0) 3).toInt < (I (ad g 0) 4).toInt)) ∧ (I (ad g 0) 17).toInt < (I (ad g 0) 15).toInt) (hw : WRt (I (ad g 30)) (I (ad g 31)) (7 * (I (ad g 0) 15).toInt)) : SP g mX11_readEarns [.ref (ad g 0)] I J R (fun r I' J' R' => (MP g n L I' ∧ R' = R ∧ fz 49 g [0, 27, 33] I I' ∧ (((I' (ad g 0) 4).toInt ≤ (I' (ad g 0) 2).toInt ∧ (I' (ad g 0) 3).toInt ≤ (I' (ad g 0) 4).toInt ∧ ((I' (ad g 0) 5).toInt = 0 ∨ (I' (ad g 0) 3).toInt < (I' (ad g 0) 4).toInt)) ∧ (I (ad g 0) 3).toInt ≤ (I' (ad g 0) 3).toInt ∧ (I' (ad g 0) 17).toInt < (I' (ad g 0) 15).toInt)) ∧ ∃ v : Int32, r = some (.int v) ∧ 0 ≤ v.toInt ∧ v.toInt ≤ 1 ∧ (v.toInt = 1 → WRt (I' (ad g 30)) (I' (ad g 31)) (7 * (I' (ad g 0) 15).toInt))) := by
  refine SP_of ⟨by decide, rfl⟩ (Nat.le_of_ble_eq_true rfl) ?_
  have e8006 : I (ad g 0) 1 = L := hI.1.2
  have b8007 := BT_get hI.1.1 0 1 2 (0) (0) (900) (by decide) 1 (by decide) (by decide)
  rw [e8006] at b8007
  have fr0 : fz 49 g [0, 27, 33] I I := fz_rf
  obtain ⟨w8008, ew8008⟩ : ∃ w : Int32, I (ad g 0) 2 = w := ⟨_, rfl⟩
  have bw8008 := BT_get hI.1.1 0 2 3 (0) (0) (900) (by decide) 2 (by decide) (by decide)
  rw [ew8008] at bw8008
  obtain ⟨w8009, ew8009⟩ : ∃ w : Int32, I (ad g 0) 3 = w := ⟨_, rfl⟩
  have bw8009 := BT_get hI.1.1 0 3 4 (0) (0) (900) (by decide) 3 (by decide) (by decide)
  rw [ew8009] at bw8009
  obtain ⟨w8010, ew8010⟩ : ∃ w : Int32, I (ad g 0) 4 = w := ⟨_, rfl⟩
  have bw8010 := BT_get hI.1.1 0 4 5 (0) (0) (900) (by decide) 4 (by decide) (by decide)
  rw [ew8010] at bw8010
  obtain ⟨w8011, ew8011⟩ : ∃ w : Int32, I (ad g 0) 5 = w := ⟨_, rfl⟩
  have bw8011 := BT_get hI.1.1 0 5 6 (0) (0) (4) (by decide) 5 (by decide) (by decide)
  rw [ew8011] at bw8011
  obtain ⟨w8012, ew8012⟩ : ∃ w : Int32, I (ad g 0) 15 = w := ⟨_, rfl⟩
  have bw8012 := BT_get hI.1.1 0 15 16 (0) (0) (4) (by decide) 15 (by decide) (by decide)
  rw [ew8012] at bw8012
  obtain ⟨w8013, ew8013⟩ : ∃ w : Int32, I (ad g 0) 17 = w := ⟨_, rfl⟩
  have bw8013 := BT_get hI.1.1 0 17 18 (-1) (0) (3) (by decide) 17 (by decide) (by decide)
  rw [ew8013] at bw8013
  rw [ew8008, ew8009, ew8010, ew8011, ew8012, ew8013] at hb
  refine WP_aload_n dX11_readEarns_0 rfl ?_
  refine WP_callV0 (k := 11) dX11_readEarns_1 ⟨⟨⟨by decide, by decide⟩, zX11_scan⟩, lX11_63, by decide, rfl, vX11_scan.1, vX11_scan.2⟩ (ly_is hy 0 11 rfl) (sm_scanx hy hr hI   (by rw [ew8010, ew8008]; omega)) (Nat.le_of_ble_eq_true rfl) ?_
  intro r I8014 J8015 Ra hq
  obtain ⟨⟨hI8014, ec, fiI8014, ⟨pI8014, sI8014_0_7, sI8014_0_15, sI8014_0_16, sI8014_0_17, sI8014_0_18⟩⟩, rfl⟩ := hq
  rw [ec]
  clear ec Ra
  have fr8016 : fz 49 g [0, 27, 33] I I8014 := fz_tr fr0 (fz_mono fiI8014 (by decide))
  have e8017 : I8014 (ad g 0) 15 = w8012 := by rw [sI8014_0_15]; exact ew8012
  have e8018 : I8014 (ad g 0) 17 = w8013 := by rw [sI8014_0_17]; exact ew8013
  have e8019 : I8014 (ad g 0) 1 = L := hI8014.1.2
  have b8020 := BT_get hI8014.1.1 0 1 2 (0) (0) (900) (by decide) 1 (by decide) (by decide)
  rw [e8019] at b8020
  obtain ⟨w8021, ew8021⟩ : ∃ w : Int32, I8014 (ad g 0) 2 = w := ⟨_, rfl⟩
  have bw8021 := BT_get hI8014.1.1 0 2 3 (0) (0) (900) (by decide) 2 (by decide) (by decide)
  rw [ew8021] at bw8021
  obtain ⟨w8022, ew8022⟩ : ∃ w : Int32, I8014 (ad g 0) 3 = w := ⟨_, rfl⟩
  have bw8022 := BT_get hI8014.1.1 0 3 4 (0) (0) (900) (by decide) 3 (by decide) (by decide)
  rw [ew8022] at bw8022
  obtain ⟨w8023, ew8023⟩ : ∃ w : Int32, I8014 (ad g 0) 4 = w := ⟨_, rfl⟩
  have bw8023 := BT_get hI8014.1.1 0 4 5 (0) (0) (900) (by decide) 4 (by decide) (by decide)
  rw [ew8023] at bw8023
  obtain ⟨w8024, ew8024⟩ : ∃ w : Int32, I8014 (ad g 0) 5 = w := ⟨_, rfl⟩
  have bw8024 := BT_get hI8014.1.1 0 5 6 (0) (0) (4) (by decide) 5 (by decide) (by decide)
  rw [ew8024] at bw8024
  rw [ew8021, ew8022, ew8023, ew8024, ew8010] at pI8014
  refine WP_aload_n dX11_readEarns_4 rfl ?_
  refine WP_aload_n dX11_readEarns_5 rfl ?_
  refine WP_getr dX11_readEarns_6 fX11_91 rfl (ly_is hy 0 11 rfl) (rf hr 0 22 4 (by decide)) ?_
  refine WP_aload_n dX11_readEarns_9 rfl ?_
  refine WQ_getim dX11_readEarns_10 fX11_88 rfl (ly_is hy 0 11 rfl) e8017 ?_
  refine WP_callV2 (k := 11) dX11_readEarns_13 ⟨⟨⟨by decide, by decide⟩, zX11_known⟩, lX11_147, by decide, rfl, vX11_known.1, vX11_known.2⟩ (ly_is hy 0 11 rfl) (sm_knownx_4 hy hr hI8014 w8012 (by omega) (by omega) (by rw [ew8021, ew8022, ew8023, ew8024]; omega)) (Nat.le_of_ble_eq_true rfl) ?_
  intro r I8025 J8026 Ra hq
  obtain ⟨⟨hI8025, ec, fiI8025, ⟨pI8025, sI8025_0_15, sI8025_0_16, sI8025_0_17, sI8025_0_18⟩⟩, v8027, rfl, av8027, bv8027, cv8027⟩ := hq
  show WP _ _ _ _ (.int _ :: _) _ _ _ _
  rw [ec]
  clear ec Ra
  have fr8028 : fz 49 g [0, 27, 33] I I8025 := fz_tr fr8016 (fz_mono fiI8025 (by decide))
  have e8029 : I8025 (ad g 0) 15 = w8012 := by rw [sI8025_0_15]; exact e8017
  have e8030 : I8025 (ad g 0) 17 = w8013 := by rw [sI8025_0_17]; exact e8018
  have e8031 : I8025 (ad g 0) 1 = L := hI8025.1.2
  have b8032 := BT_get hI8025.1.1 0 1 2 (0) (0) (900) (by decide) 1 (by decide) (by decide)
  rw [e8031] at b8032
  obtain ⟨w8033, ew8033⟩ : ∃ w : Int32, I8025 (ad g 0) 2 = w := ⟨_, rfl⟩
  have bw8033 := BT_get hI8025.1.1 0 2 3 (0) (0) (900) (by decide) 2 (by decide) (by decide)
  rw [ew8033] at bw8033
  obtain ⟨w8034, ew8034⟩ : ∃ w : Int32, I8025 (ad g 0) 3 = w := ⟨_, rfl⟩
  have bw8034 := BT_get hI8025.1.1 0 3 4 (0) (0) (900) (by decide) 3 (by decide) (by decide)
  rw [ew8034] at bw8034
  obtain ⟨w8035, ew8035⟩ : ∃ w : Int32, I8025 (ad g 0) 4 = w := ⟨_, rfl⟩
  have bw8035 := BT_get hI8025.1.1 0 4 5 (0) (0) (900) (by decide) 4 (by decide) (by decide)
  rw [ew8035] at bw8035
  obtain ⟨w8036, ew8036⟩ : ∃ w : Int32, I8025 (ad g 0) 5 = w := ⟨_, rfl⟩
  have bw8036 := BT_get hI8025.1.1 0 5 6 (0) (0) (4) (by decide) 5 (by decide) (by decide)
  rw [ew8036] at bw8036
  rw [ew8033, ew8034, ew8035, ew8036, ew8022] at pI8025
  obtain ⟨w8037, ew8037⟩ : ∃ w : Int32, I8025 (ad g 0) 7 = w := ⟨_, rfl⟩
  have bw8037 := BT_get hI8025.1.1 0 7 8 (-1) (0) (1000) (by decide) 7 (by decide) (by decide)
  rw [ew8037] at bw8037
  rw [ew8037] at cv8027
  refine WQ_if_ne 21 dX11_readEarns_16 rfl (fun c8037 => ?_) (fun c8037 => ?_)
  · refine WP_aload_n dX11_readEarns_21 rfl ?_
    refine WQ_getim dX11_readEarns_22 fX11_56 rfl (ly_is hy 0 11 rfl) ew8037 ?_
    refine WP_istore_n (ls' := [(0, _), (1, _)]) dX11_readEarns_25 (by decide) rfl ?_
    refine WP_aload_n dX11_readEarns_26 rfl ?_
    refine WQ_iconst (0) (0) dX11_readEarns_27 rfl rfl (fun v8039 hv8039 => ?_)
    refine WQ_bipush (6) (6) dX11_readEarns_28 rfl rfl (fun v8040 hv8040 => ?_)
    refine WP_callV2 (k := 11) dX11_readEarns_30 ⟨⟨⟨by decide, by decide⟩, zX11_peek⟩, lX11_59, by decide, rfl, vX11_peek.1, vX11_peek.2⟩ (ly_is hy 0 11 rfl) (sm_peekx hy hr hI8025 v8039 v8040 (by omega) (by omega) (by omega) (by omega) (by rw [ew8033, ew8034, ew8035, ew8036]; omega)) (Nat.le_of_ble_eq_true rfl) ?_
    intro r I8041 J8042 Ra hq
    obtain ⟨⟨hI8041, ec, fiI8041, ⟨pI8041, sI8041_0_15, sI8041_0_16, sI8041_0_17, sI8041_0_18⟩⟩, v8043, rfl, av8043, bv8043, cv8043⟩ := hq
    show WP _ _ _ _ (.int _ :: _) _ _ _ _
    rw [ec]
    clear ec Ra
    have fr8044 : fz 49 g [0, 27, 33] I I8041 := fz_tr fr8028 (fz_mono fiI8041 (by decide))
    have e8045 : I8041 (ad g 0) 15 = w8012 := by rw [sI8041_0_15]; exact e8029
    have e8046 : I8041 (ad g 0) 17 = w8013 := by rw [sI8041_0_17]; exact e8030
    have e8047 : I8041 (ad g 0) 1 = L := hI8041.1.2
    have b8048 := BT_get hI8041.1.1 0 1 2 (0) (0) (900) (by decide) 1 (by decide) (by decide)
    rw [e8047] at b8048
    obtain ⟨w8049, ew8049⟩ : ∃ w : Int32, I8041 (ad g 0) 2 = w := ⟨_, rfl⟩
    have bw8049 := BT_get hI8041.1.1 0 2 3 (0) (0) (900) (by decide) 2 (by decide) (by decide)
    rw [ew8049] at bw8049
    obtain ⟨w8050, ew8050⟩ : ∃ w : Int32, I8041 (ad g 0) 3 = w := ⟨_, rfl⟩
    have bw8050 := BT_get hI8041.1.1 0 3 4 (0) (0) (900) (by decide) 3 (by decide) (by decide)
    rw [ew8050] at bw8050
    obtain ⟨w8051, ew8051⟩ : ∃ w : Int32, I8041 (ad g 0) 4 = w := ⟨_, rfl⟩
    have bw8051 := BT_get hI8041.1.1 0 4 5 (0) (0) (900) (by decide) 4 (by decide) (by decide)
    rw [ew8051] at bw8051
    obtain ⟨w8052, ew8052⟩ : ∃ w : Int32, I8041 (ad g 0) 5 = w := ⟨_, rfl⟩
    have bw8052 := BT_get hI8041.1.1 0 5 6 (0) (0) (4) (by decide) 5 (by decide) (by decide)
    rw [ew8052] at bw8052
    rw [ew8049, ew8050, ew8051, ew8052, ew8034] at pI8041
    obtain ⟨w8053, ew8053⟩ : ∃ w : Int32, I8041 (ad g 0) 7 = w := ⟨_, rfl⟩
    have bw8053 := BT_get hI8041.1.1 0 7 8 (-1) (0) (1000) (by decide) 7 (by decide) (by decide)
    rw [ew8053] at bw8053
    rw [ew8053] at cv8043
    refine WQ_if_ne 38 dX11_readEarns_33 rfl (fun c8053 => ?_) (fun c8053 => ?_)
    · refine WP_aload_n dX11_readEarns_38 rfl ?_
      refine WP_getr dX11_readEarns_39 fX11_111 rfl (ly_is hy 0 11 rfl) (rf hr 0 52 33 (by decide)) ?_
      refine WP_iload_n dX11_readEarns_42 rfl ?_
      refine WQ_ialdu dX11_readEarns_43 (ly_is hy 33 13 rfl) (ly_n hy 33 4 rfl) (by omega) (by omega) (fun v8055 => ?_)
      refine WP_aload_n dX11_readEarns_44 rfl ?_
      refine WQ_getim dX11_readEarns_45 fX11_56 rfl (ly_is hy 0 11 rfl) ew8053 ?_
      refine WQ_ishru dX11_readEarns_48 (fun v8056 => ?_)
      refine WQ_iconst (1) (1) dX11_readEarns_49 rfl rfl (fun v8057 hv8057 => ?_)
      refine WQ_iandu dX11_readEarns_50 (fun v8058 => ?_)
      refine WQ_iconst (1) (1) dX11_readEarns_51 rfl rfl (fun v8059 hv8059 => ?_)
      refine WQ_icmp_ne 61 dX11_readEarns_52 rfl (fun c8059 => ?_) (fun c8059 => ?_)
      · refine WP_aload_n dX11_readEarns_61 rfl ?_
        refine WP_getr dX11_readEarns_62 fX11_111 rfl (ly_is hy 0 11 rfl) (rf hr 0 52 33 (by decide)) ?_
        refine WP_iload_n dX11_readEarns_65 rfl ?_
        refine WP_dup2 dX11_readEarns_66 rfl rfl ?_
        refine WQ_ialdu dX11_readEarns_67 (ly_is hy 33 13 rfl) (ly_n hy 33 4 rfl) (by omega) (by omega) (fun v8061 => ?_)
        refine WQ_iconst (1) (1) dX11_readEarns_68 rfl rfl (fun v8062 hv8062 => ?_)
        refine WP_aload_n dX11_readEarns_69 rfl ?_
        refine WQ_getim dX11_readEarns_70 fX11_56 rfl (ly_is hy 0 11 rfl) ew8053 ?_
        refine WQ_ishlu dX11_readEarns_73 (fun v8063 => ?_)
        refine WQ_ioru dX11_readEarns_74 (fun v8064 => ?_)
        refine WQ_iast dX11_readEarns_75 (ly_is hy 33 13 rfl) (ly_n hy 33 4 rfl) (by omega) (by omega) (fun I8065 eI8065 => ?_)
        have hI8065 : MP g n L I8065 := by rw [eI8065]; exact (mp_w hy hI8041 (c := 33) (mi_r0 hy hI8041.1 (c := 33) (by decide) (Or.inl (by decide)) (by decide)) (by decide) (by decide) (Or.inl (by decide)))
        have e8066 : I8065 (ad g 0) 15 = w8012 := by rw [eI8065, pp_ne _ _ (Or.inl (ly_ne hy (by decide) (by decide) (by decide)))]; exact e8045
        have e8067 : I8065 (ad g 0) 17 = w8013 := by rw [eI8065, pp_ne _ _ (Or.inl (ly_ne hy (by decide) (by decide) (by decide)))]; exact e8046
        have e8068 : I8065 (ad g 0) 1 = L := by rw [eI8065, pp_ne _ _ (Or.inl (ly_ne hy (by decide) (by decide) (by decide)))]; exact e8047
        have e8069 : I8065 (ad g 0) 2 = w8049 := by rw [eI8065, pp_ne _ _ (Or.inl (ly_ne hy (by decide) (by decide) (by decide)))]; exact ew8049
        have e8070 : I8065 (ad g 0) 3 = w8050 := by rw [eI8065, pp_ne _ _ (Or.inl (ly_ne hy (by decide) (by decide) (by decide)))]; exact ew8050
        have e8071 : I8065 (ad g 0) 4 = w8051 := by rw [eI8065, pp_ne _ _ (Or.inl (ly_ne hy (by decide) (by decide) (by decide)))]; exact ew8051
        have e8072 : I8065 (ad g 0) 5 = w8052 := by rw [eI8065, pp_ne _ _ (Or.inl (ly_ne hy (by decide) (by decide) (by decide)))]; exact ew8052
        have e8073 : I8065 (ad g 0) 7 = w8053 := by rw [eI8065, pp_ne _ _ (Or.inl (ly_ne hy (by decide) (by decide) (by decide)))]; exact ew8053
        have fr8074 : fz 49 g [0, 27, 33] I I8065 := by rw [eI8065]; exact fzm_pp hy fr8044 (by decide) (by decide)
        clear eI8065
        refine WQ_bipush (7) (7) dX11_readEarns_76 rfl rfl (fun v8075 hv8075 => ?_)
        refine WP_iload_n dX11_readEarns_78 rfl ?_
        refine WQ_imulK (7) dX11_readEarns_79 hv8075 (by omega) (by omega) (fun v8076 hv8076 => ?_)
        refine WP_aload_n dX11_readEarns_80 rfl ?_
        refine WQ_getim dX11_readEarns_81 fX11_56 rfl (ly_is hy 0 11 rfl) e8073 ?_
        refine WQ_iadd dX11_readEarns_84 (by omega) (by omega) (fun v8077 hv8077 => ?_)
        refine WP_istore_n (ls' := [(0, _), (1, _), (2, _)]) dX11_readEarns_85 (by decide) rfl ?_
        refine WP_aload_n dX11_readEarns_86 rfl ?_
        refine WP_callV0 (k := 11) dX11_readEarns_87 ⟨⟨⟨by decide, by decide⟩, zX11_scan⟩, lX11_63, by decide, rfl, vX11_scan.1, vX11_scan.2⟩ (ly_is hy 0 11 rfl) (sm_scanx hy hr hI8065   (by rw [e8071, e8069]; omega)) (Nat.le_of_ble_eq_true rfl) ?_
        intro r I8078 J8079 Ra hq
        obtain ⟨⟨hI8078, ec, fiI8078, ⟨pI8078, sI8078_0_7, sI8078_0_15, sI8078_0_16, sI8078_0_17, sI8078_0_18⟩⟩, rfl⟩ := hq
        rw [ec]
        clear ec Ra
        have fr8080 : fz 49 g [0, 27, 33] I I8078 := fz_tr fr8074 (fz_mono fiI8078 (by decide))
        have e8081 : I8078 (ad g 0) 7 = w8053 := by rw [sI8078_0_7]; exact e8073
        have e8082 : I8078 (ad g 0) 15 = w8012 := by rw [sI8078_0_15]; exact e8066
        have e8083 : I8078 (ad g 0) 17 = w8013 := by rw [sI8078_0_17]; exact e8067
        have e8084 : I8078 (ad g 0) 1 = L := hI8078.1.2
        have b8085 := BT_get hI8078.1.1 0 1 2 (0) (0) (900) (by decide) 1 (by decide) (by decide)
        rw [e8084] at b8085
        obtain ⟨w8086, ew8086⟩ : ∃ w : Int32, I8078 (ad g 0) 2 = w := ⟨_, rfl⟩
        have bw8086 := BT_get hI8078.1.1 0 2 3 (0) (0) (900) (by decide) 2 (by decide) (by decide)
        rw [ew8086] at bw8086
        obtain ⟨w8087, ew8087⟩ : ∃ w : Int32, I8078 (ad g 0) 3 = w := ⟨_, rfl⟩
        have bw8087 := BT_get hI8078.1.1 0 3 4 (0) (0) (900) (by decide) 3 (by decide) (by decide)
        rw [ew8087] at bw8087
        obtain ⟨w8088, ew8088⟩ : ∃ w : Int32, I8078 (ad g 0) 4 = w := ⟨_, rfl⟩
        have bw8088 := BT_get hI8078.1.1 0 4 5 (0) (0) (900) (by decide) 4 (by decide) (by decide)
        rw [ew8088] at bw8088
        obtain ⟨w8089, ew8089⟩ : ∃ w : Int32, I8078 (ad g 0) 5 = w := ⟨_, rfl⟩
        have bw8089 := BT_get hI8078.1.1 0 5 6 (0) (0) (4) (by decide) 5 (by decide) (by decide)
        rw [ew8089] at bw8089
        rw [ew8086, ew8087, ew8088, ew8089, e8071] at pI8078
        refine WP_aload_n dX11_readEarns_90 rfl ?_
        refine WQ_iconst (1) (1) dX11_readEarns_91 rfl rfl (fun v8090 hv8090 => ?_)
        refine WQ_bipush (20) (20) dX11_readEarns_92 rfl rfl (fun v8091 hv8091 => ?_)
        refine WP_callV2 (k := 11) dX11_readEarns_94 ⟨⟨⟨by decide, by decide⟩, zX11_number⟩, lX11_81, by decide, rfl, vX11_number.1, vX11_number.2⟩ (ly_is hy 0 11 rfl) (sm_numberx hy hr hI8078 v8090 v8091 (by omega) (by omega) (by omega) (by omega) (by rw [ew8086, ew8087, ew8088, ew8089]; omega)) (Nat.le_of_ble_eq_true rfl) ?_
        intro r I8092 J8093 Ra hq
        obtain ⟨⟨hI8092, ec, fiI8092, ⟨pI8092, sI8092_0_15, sI8092_0_16, sI8092_0_17, sI8092_0_18⟩⟩, v8094, rfl, av8094, bv8094, cv8094⟩ := hq
        show WP _ _ _ _ (.int _ :: _) _ _ _ _
        rw [ec]
        clear ec Ra
        have fr8095 : fz 49 g [0, 27, 33] I I8092 := fz_tr fr8080 (fz_mono fiI8092 (by decide))
        have e8096 : I8092 (ad g 0) 15 = w8012 := by rw [sI8092_0_15]; exact e8082
        have e8097 : I8092 (ad g 0) 17 = w8013 := by rw [sI8092_0_17]; exact e8083
        have e8098 : I8092 (ad g 0) 1 = L := hI8092.1.2
        have b8099 := BT_get hI8092.1.1 0 1 2 (0) (0) (900) (by decide) 1 (by decide) (by decide)
        rw [e8098] at b8099
        obtain ⟨w8100, ew8100⟩ : ∃ w : Int32, I8092 (ad g 0) 2 = w := ⟨_, rfl⟩
        have bw8100 := BT_get hI8092.1.1 0 2 3 (0) (0) (900) (by decide) 2 (by decide) (by decide)
        rw [ew8100] at bw8100
        obtain ⟨w8101, ew8101⟩ : ∃ w : Int32, I8092 (ad g 0) 3 = w := ⟨_, rfl⟩
        have bw8101 := BT_get hI8092.1.1 0 3 4 (0) (0) (900) (by decide) 3 (by decide) (by decide)
        rw [ew8101] at bw8101
        obtain ⟨w8102, ew8102⟩ : ∃ w : Int32, I8092 (ad g 0) 4 = w := ⟨_, rfl⟩
        have bw8102 := BT_get hI8092.1.1 0 4 5 (0) (0) (900) (by decide) 4 (by decide) (by decide)
        rw [ew8102] at bw8102
        obtain ⟨w8103, ew8103⟩ : ∃ w : Int32, I8092 (ad g 0) 5 = w := ⟨_, rfl⟩
        have bw8103 := BT_get hI8092.1.1 0 5 6 (0) (0) (4) (by decide) 5 (by decide) (by decide)
        rw [ew8103] at bw8103
        rw [ew8100, ew8101, ew8102, ew8103, ew8087] at pI8092
        obtain ⟨w8104, ew8104⟩ : ∃ w : Int32, I8092 (ad g 0) 7 = w := ⟨_, rfl⟩
        have bw8104 := BT_get hI8092.1.1 0 7 8 (-1) (0) (1000) (by decide) 7 (by decide) (by decide)
        rw [ew8104] at bw8104
        rw [ew8104] at cv8094
        refine WQ_if_ne 102 dX11_readEarns_97 rfl (fun c8104 => ?_) (fun c8104 => ?_)
        · refine WP_aload_n dX11_readEarns_102 rfl ?_
          refine WP_getr dX11_readEarns_103 fX11_114 rfl (ly_is hy 0 11 rfl) (rf hr 0 45 27 (by decide)) ?_
          refine WP_iload_n dX11_readEarns_106 rfl ?_
          refine WP_aload_n dX11_readEarns_107 rfl ?_
          refine WQ_getim dX11_readEarns_108 fX11_56 rfl (ly_is hy 0 11 rfl) ew8104 ?_
          refine WQ_iast dX11_readEarns_111 (ly_is hy 27 13 rfl) (ly_n hy 27 28 rfl) (by omega) (by omega) (fun I8106 eI8106 => ?_)
          have hI8106 : MP g n L I8106 := by rw [eI8106]; exact (mp_w hy hI8092 (c := 27) (mi_r hy hI8092.1 (c := 27) (0) (0) (20) (by decide) (Or.inl (by decide)) (by decide) (by omega) (by omega)) (by decide) (by decide) (Or.inl (by decide)))
          have e8107 : I8106 (ad g 0) 15 = w8012 := by rw [eI8106, pp_ne _ _ (Or.inl (ly_ne hy (by decide) (by decide) (by decide)))]; exact e8096
          have e8108 : I8106 (ad g 0) 17 = w8013 := by rw [eI8106, pp_ne _ _ (Or.inl (ly_ne hy (by decide) (by decide) (by decide)))]; exact e8097
          have e8109 : I8106 (ad g 0) 1 = L := by rw [eI8106, pp_ne _ _ (Or.inl (ly_ne hy (by decide) (by decide) (by decide)))]; exact e8098
          have e8110 : I8106 (ad g 0) 2 = w8100 := by rw [eI8106, pp_ne _ _ (Or.inl (ly_ne hy (by decide) (by decide) (by decide)))]; exact ew8100
          have e8111 : I8106 (ad g 0) 3 = w8101 := by rw [eI8106, pp_ne _ _ (Or.inl (ly_ne hy (by decide) (by decide) (by decide)))]; exact ew8101
          have e8112 : I8106 (ad g 0) 4 = w8102 := by rw [eI8106, pp_ne _ _ (Or.inl (ly_ne hy (by decide) (by decide) (by decide)))]; exact ew8102
          have e8113 : I8106 (ad g 0) 5 = w8103 := by rw [eI8106, pp_ne _ _ (Or.inl (ly_ne hy (by decide) (by decide) (by decide)))]; exact ew8103
          have e8114 : I8106 (ad g 0) 7 = w8104 := by rw [eI8106, pp_ne _ _ (Or.inl (ly_ne hy (by decide) (by decide) (by decide)))]; exact ew8104
          have fr8115 : fz 49 g [0, 27, 33] I I8106 := by rw [eI8106]; exact fzm_pp hy fr8095 (by decide) (by decide)
          clear eI8106
          refine WQ_iconst (1) (1) dX11_readEarns_112 rfl rfl (fun v8116 hv8116 => ?_)
          exact WP_zret dX11_readEarns_113 rfl (nar_z (by omega)) ⟨⟨hI8106, rfl, fr8115, (by rw [e8110, e8111, e8112, e8113, e8107, e8108, ew8009]; omega)⟩, _, rfl, by omega, by omega, (fun _ => by rw [fz_at fr8115 30 (by decide) (by decide), fz_at fr8115 31 (by decide) (by decide), show I8106 (ad g 0) 15 = I (ad g 0) 15 from (by rw [e8107, ew8012] <;> exact (eq32 _ _).mpr (by omega))]; exact hw)⟩
        · refine WQ_iconst (0) (0) dX11_readEarns_100 rfl rfl (fun v8117 hv8117 => ?_)
          exact WP_zret dX11_readEarns_101 rfl (nar_z (by omega)) ⟨⟨hI8092, rfl, fr8095, (by rw [ew8100, ew8101, ew8102, ew8103, e8096, e8097, ew8009]; omega)⟩, _, rfl, by omega, by omega, (fun h => False.elim (by omega))⟩
      · refine WP_aload_n dX11_readEarns_55 rfl ?_
        refine WQ_iconst (3) (3) dX11_readEarns_56 rfl rfl (fun v8118 hv8118 => ?_)
        refine WP_callV1 (k := 11) dX11_readEarns_57 ⟨⟨⟨by decide, by decide⟩, zX11_bad⟩, lX11_49, by decide, rfl, vX11_bad.1, vX11_bad.2⟩ (ly_is hy 0 11 rfl) (sm_badx hy hr hI8041 v8118  (by rw [ew8049, ew8050, ew8051, ew8052]; omega)) (Nat.le_of_ble_eq_true rfl) ?_
        intro r I8119 J8120 Ra hq
        obtain ⟨⟨hI8119, ec, fiI8119, ⟨pI8119, sI8119_0_15, sI8119_0_16, sI8119_0_17, sI8119_0_18⟩⟩, v8121, rfl, av8121, bv8121⟩ := hq
        show WP _ _ _ _ (.int _ :: _) _ _ _ _
        rw [ec]
        clear ec Ra
        have fr8122 : fz 49 g [0, 27, 33] I I8119 := fz_tr fr8044 (fz_mono fiI8119 (by decide))
        have e8123 : I8119 (ad g 0) 15 = w8012 := by rw [sI8119_0_15]; exact e8045
        have e8124 : I8119 (ad g 0) 17 = w8013 := by rw [sI8119_0_17]; exact e8046
        have e8125 : I8119 (ad g 0) 1 = L := hI8119.1.2
        have b8126 := BT_get hI8119.1.1 0 1 2 (0) (0) (900) (by decide) 1 (by decide) (by decide)
        rw [e8125] at b8126
        obtain ⟨w8127, ew8127⟩ : ∃ w : Int32, I8119 (ad g 0) 2 = w := ⟨_, rfl⟩
        have bw8127 := BT_get hI8119.1.1 0 2 3 (0) (0) (900) (by decide) 2 (by decide) (by decide)
        rw [ew8127] at bw8127
        obtain ⟨w8128, ew8128⟩ : ∃ w : Int32, I8119 (ad g 0) 3 = w := ⟨_, rfl⟩
        have bw8128 := BT_get hI8119.1.1 0 3 4 (0) (0) (900) (by decide) 3 (by decide) (by decide)
        rw [ew8128] at bw8128
        obtain ⟨w8129, ew8129⟩ : ∃ w : Int32, I8119 (ad g 0) 4 = w := ⟨_, rfl⟩
        have bw8129 := BT_get hI8119.1.1 0 4 5 (0) (0) (900) (by decide) 4 (by decide) (by decide)
        rw [ew8129] at bw8129
        obtain ⟨w8130, ew8130⟩ : ∃ w : Int32, I8119 (ad g 0) 5 = w := ⟨_, rfl⟩
        have bw8130 := BT_get hI8119.1.1 0 5 6 (0) (0) (4) (by decide) 5 (by decide) (by decide)
        rw [ew8130] at bw8130
        rw [ew8127, ew8128, ew8129, ew8130, ew8050] at pI8119
        exact WP_zret dX11_readEarns_60 rfl (nar_z (by omega)) ⟨⟨hI8119, rfl, fr8122, (by rw [ew8127, ew8128, ew8129, ew8130, e8123, e8124, ew8009]; omega)⟩, _, rfl, by omega, by omega, (fun h => False.elim (by omega))⟩
    · refine WQ_iconst (0) (0) dX11_readEarns_36 rfl rfl (fun v8131 hv8131 => ?_)
      exact WP_zret dX11_readEarns_37 rfl (nar_z (by omega)) ⟨⟨hI8041, rfl, fr8044, (by rw [ew8049, ew8050, ew8051, ew8052, e8045, e8046, ew8009]; omega)⟩, _, rfl, by omega, by omega, (fun h => False.elim (by omega))⟩
  · refine WQ_iconst (0) (0) dX11_readEarns_19 rfl rfl (fun v8132 hv8132 => ?_)
    exact WP_zret dX11_readEarns_20 rfl (nar_z (by omega)) ⟨⟨hI8025, rfl, fr8028, (by rw [ew8033, ew8034, ew8035, ew8036, e8029, e8030, ew8009]; omega)⟩, _, rfl, by omega, by omega, (fun h => False.elim (by omega))⟩
set_option maxHeartbeats 4000000 in
set_option maxRecDepth 100000 in
theorem sm_readPricesx {g : GG} {n : Int} {L : Int32} (hy : Ly g)  {I : pI} {J : pJ} {R : pR} (hr : Rf g R) (hI : MP g n L I)   (hb : ((I (ad g 0) 4).toInt ≤ (I (ad g 0) 2).toInt ∧ (I (ad g 0) 3).toInt ≤ (I (ad g 0) 4).toInt ∧ ((I (ad g 0) 5).toInt = 0 ∨ (I (ad g 0) 3).toInt < (I (ad g 0) 4).toInt)) ∧ (I (ad g 0) 17).toInt < (I (ad g 0) 15).toInt) (hw : WRt (I (ad g 30)) (I (ad g 31)) (7 * (I (ad g 0) 15).toInt)) : SP g mX11_readPrices [.ref (ad g 0)] I J R (fun r I' J' R' => (MP g n L I' ∧ R' = R ∧ fz 49 g [0, 28, 34] I I' ∧ (((I' (ad g 0) 4).toInt ≤ (I' (ad g 0) 2).toInt ∧ (I' (ad g 0) 3).toInt ≤ (I' (ad g 0) 4).toInt ∧ ((I' (ad g 0) 5).toInt = 0 ∨ (I' (ad g 0) 3).toInt < (I' (ad g 0) 4).toInt)) ∧ (I (ad g 0) 3).toInt ≤ (I' (ad g 0) 3).toInt ∧ (I' (ad g 0) 17).toInt < (I' (ad g 0) 15).toInt)) ∧ ∃ v : Int32, r = some (.int v) ∧ 0 ≤ v.toInt ∧ v.toInt ≤ 1 ∧ (v.toInt = 1 → WRt (I' (ad g 30)) (I' (ad g 31)) (7 * (I' (ad g 0) 15).toInt))) := by
  refine SP_of ⟨by decide, rfl⟩ (Nat.le_of_ble_eq_true rfl) ?_
  have e8133 : I (ad g 0) 1 = L := hI.1.2
  have b8134 := BT_get hI.1.1 0 1 2 (0) (0) (900) (by decide) 1 (by decide) (by decide)
  rw [e8133] at b8134
  have fr0 : fz 49 g [0, 28, 34] I I := fz_rf
  obtain ⟨w8135, ew8135⟩ : ∃ w : Int32, I (ad g 0) 2 = w := ⟨_, rfl⟩
  have bw8135 := BT_get hI.1.1 0 2 3 (0) (0) (900) (by decide) 2 (by decide) (by decide)
  rw [ew8135] at bw8135
  obtain ⟨w8136, ew8136⟩ : ∃ w : Int32, I (ad g 0) 3 = w := ⟨_, rfl⟩
  have bw8136 := BT_get hI.1.1 0 3 4 (0) (0) (900) (by decide) 3 (by decide) (by decide)
  rw [ew8136] at bw8136
  obtain ⟨w8137, ew8137⟩ : ∃ w : Int32, I (ad g 0) 4 = w := ⟨_, rfl⟩
  have bw8137 := BT_get hI.1.1 0 4 5 (0) (0) (900) (by decide) 4 (by decide) (by decide)
  rw [ew8137] at bw8137
  obtain ⟨w8138, ew8138⟩ : ∃ w : Int32, I (ad g 0) 5 = w := ⟨_, rfl⟩
  have bw8138 := BT_get hI.1.1 0 5 6 (0) (0) (4) (by decide) 5 (by decide) (by decide)
  rw [ew8138] at bw8138
  obtain ⟨w8139, ew8139⟩ : ∃ w : Int32, I (ad g 0) 15 = w := ⟨_, rfl⟩
  have bw8139 := BT_get hI.1.1 0 15 16 (0) (0) (4) (by decide) 15 (by decide) (by decide)
  rw [ew8139] at bw8139
  obtain ⟨w8140, ew8140⟩ : ∃ w : Int32, I (ad g 0) 17 = w := ⟨_, rfl⟩
  have bw8140 := BT_get hI.1.1 0 17 18 (-1) (0) (3) (by decide) 17 (by decide) (by decide)
  rw [ew8140] at bw8140
  rw [ew8135, ew8136, ew8137, ew8138, ew8139, ew8140] at hb
  refine WP_aload_n dX11_readPrices_0 rfl ?_
  refine WP_callV0 (k := 11) dX11_readPrices_1 ⟨⟨⟨by decide, by decide⟩, zX11_scan⟩, lX11_63, by decide, rfl, vX11_scan.1, vX11_scan.2⟩ (ly_is hy 0 11 rfl) (sm_scanx hy hr hI   (by rw [ew8137, ew8135]; omega)) (Nat.le_of_ble_eq_true rfl) ?_
  intro r I8141 J8142 Ra hq
  obtain ⟨⟨hI8141, ec, fiI8141, ⟨pI8141, sI8141_0_7, sI8141_0_15, sI8141_0_16, sI8141_0_17, sI8141_0_18⟩⟩, rfl⟩ := hq
  rw [ec]
  clear ec Ra
  have fr8143 : fz 49 g [0, 28, 34] I I8141 := fz_tr fr0 (fz_mono fiI8141 (by decide))
  have e8144 : I8141 (ad g 0) 15 = w8139 := by rw [sI8141_0_15]; exact ew8139
  have e8145 : I8141 (ad g 0) 17 = w8140 := by rw [sI8141_0_17]; exact ew8140
  have e8146 : I8141 (ad g 0) 1 = L := hI8141.1.2
  have b8147 := BT_get hI8141.1.1 0 1 2 (0) (0) (900) (by decide) 1 (by decide) (by decide)
  rw [e8146] at b8147
  obtain ⟨w8148, ew8148⟩ : ∃ w : Int32, I8141 (ad g 0) 2 = w := ⟨_, rfl⟩
  have bw8148 := BT_get hI8141.1.1 0 2 3 (0) (0) (900) (by decide) 2 (by decide) (by decide)
  rw [ew8148] at bw8148
  obtain ⟨w8149, ew8149⟩ : ∃ w : Int32, I8141 (ad g 0) 3 = w := ⟨_, rfl⟩
  have bw8149 := BT_get hI8141.1.1 0 3 4 (0) (0) (900) (by decide) 3 (by decide) (by decide)
  rw [ew8149] at bw8149
  obtain ⟨w8150, ew8150⟩ : ∃ w : Int32, I8141 (ad g 0) 4 = w := ⟨_, rfl⟩
  have bw8150 := BT_get hI8141.1.1 0 4 5 (0) (0) (900) (by decide) 4 (by decide) (by decide)
  rw [ew8150] at bw8150
  obtain ⟨w8151, ew8151⟩ : ∃ w : Int32, I8141 (ad g 0) 5 = w := ⟨_, rfl⟩
  have bw8151 := BT_get hI8141.1.1 0 5 6 (0) (0) (4) (by decide) 5 (by decide) (by decide)
  rw [ew8151] at bw8151
  rw [ew8148, ew8149, ew8150, ew8151, ew8137] at pI8141
  refine WP_aload_n dX11_readPrices_4 rfl ?_
  refine WP_aload_n dX11_readPrices_5 rfl ?_
  refine WP_getr dX11_readPrices_6 fX11_129 rfl (ly_is hy 0 11 rfl) (rf hr 0 23 5 (by decide)) ?_
  refine WP_aload_n dX11_readPrices_9 rfl ?_
  refine WQ_geti dX11_readPrices_10 fX11_126 rfl (ly_is hy 0 11 rfl) (BT_get hI8141.1.1 0 16 17 (0) (0) (3) (by decide) 16 (by decide) (by decide)) (fun v8152 ev8152 av8152 bv8152 => ?_)
  refine WP_callV2 (k := 11) dX11_readPrices_13 ⟨⟨⟨by decide, by decide⟩, zX11_known⟩, lX11_147, by decide, rfl, vX11_known.1, vX11_known.2⟩ (ly_is hy 0 11 rfl) (sm_knownx_5 hy hr hI8141 v8152 (by omega) (by omega) (by rw [ew8148, ew8149, ew8150, ew8151]; omega)) (Nat.le_of_ble_eq_true rfl) ?_
  intro r I8153 J8154 Ra hq
  obtain ⟨⟨hI8153, ec, fiI8153, ⟨pI8153, sI8153_0_15, sI8153_0_16, sI8153_0_17, sI8153_0_18⟩⟩, v8155, rfl, av8155, bv8155, cv8155⟩ := hq
  show WP _ _ _ _ (.int _ :: _) _ _ _ _
  rw [ec]
  clear ec Ra
  have fr8156 : fz 49 g [0, 28, 34] I I8153 := fz_tr fr8143 (fz_mono fiI8153 (by decide))
  have e8157 : I8153 (ad g 0) 15 = w8139 := by rw [sI8153_0_15]; exact e8144
  have e8158 : I8153 (ad g 0) 16 = v8152 := by rw [sI8153_0_16]; exact ev8152
  have e8159 : I8153 (ad g 0) 17 = w8140 := by rw [sI8153_0_17]; exact e8145
  have e8160 : I8153 (ad g 0) 1 = L := hI8153.1.2
  have b8161 := BT_get hI8153.1.1 0 1 2 (0) (0) (900) (by decide) 1 (by decide) (by decide)
  rw [e8160] at b8161
  obtain ⟨w8162, ew8162⟩ : ∃ w : Int32, I8153 (ad g 0) 2 = w := ⟨_, rfl⟩
  have bw8162 := BT_get hI8153.1.1 0 2 3 (0) (0) (900) (by decide) 2 (by decide) (by decide)
  rw [ew8162] at bw8162
  obtain ⟨w8163, ew8163⟩ : ∃ w : Int32, I8153 (ad g 0) 3 = w := ⟨_, rfl⟩
  have bw8163 := BT_get hI8153.1.1 0 3 4 (0) (0) (900) (by decide) 3 (by decide) (by decide)
  rw [ew8163] at bw8163
  obtain ⟨w8164, ew8164⟩ : ∃ w : Int32, I8153 (ad g 0) 4 = w := ⟨_, rfl⟩
  have bw8164 := BT_get hI8153.1.1 0 4 5 (0) (0) (900) (by decide) 4 (by decide) (by decide)
  rw [ew8164] at bw8164
  obtain ⟨w8165, ew8165⟩ : ∃ w : Int32, I8153 (ad g 0) 5 = w := ⟨_, rfl⟩
  have bw8165 := BT_get hI8153.1.1 0 5 6 (0) (0) (4) (by decide) 5 (by decide) (by decide)
  rw [ew8165] at bw8165
  rw [ew8162, ew8163, ew8164, ew8165, ew8149] at pI8153
  obtain ⟨w8166, ew8166⟩ : ∃ w : Int32, I8153 (ad g 0) 7 = w := ⟨_, rfl⟩
  have bw8166 := BT_get hI8153.1.1 0 7 8 (-1) (0) (1000) (by decide) 7 (by decide) (by decide)
  rw [ew8166] at bw8166
  rw [ew8166] at cv8155
  refine WQ_if_ne 21 dX11_readPrices_16 rfl (fun c8166 => ?_) (fun c8166 => ?_)
  · refine WP_aload_n dX11_readPrices_21 rfl ?_
    refine WQ_getim dX11_readPrices_22 fX11_56 rfl (ly_is hy 0 11 rfl) ew8166 ?_
    refine WP_istore_n (ls' := [(0, _), (1, _)]) dX11_readPrices_25 (by decide) rfl ?_
    refine WP_aload_n dX11_readPrices_26 rfl ?_
    refine WQ_iconst (0) (0) dX11_readPrices_27 rfl rfl (fun v8168 hv8168 => ?_)
    refine WQ_bipush (6) (6) dX11_readPrices_28 rfl rfl (fun v8169 hv8169 => ?_)
    refine WP_callV2 (k := 11) dX11_readPrices_30 ⟨⟨⟨by decide, by decide⟩, zX11_peek⟩, lX11_59, by decide, rfl, vX11_peek.1, vX11_peek.2⟩ (ly_is hy 0 11 rfl) (sm_peekx hy hr hI8153 v8168 v8169 (by omega) (by omega) (by omega) (by omega) (by rw [ew8162, ew8163, ew8164, ew8165]; omega)) (Nat.le_of_ble_eq_true rfl) ?_
    intro r I8170 J8171 Ra hq
    obtain ⟨⟨hI8170, ec, fiI8170, ⟨pI8170, sI8170_0_15, sI8170_0_16, sI8170_0_17, sI8170_0_18⟩⟩, v8172, rfl, av8172, bv8172, cv8172⟩ := hq
    show WP _ _ _ _ (.int _ :: _) _ _ _ _
    rw [ec]
    clear ec Ra
    have fr8173 : fz 49 g [0, 28, 34] I I8170 := fz_tr fr8156 (fz_mono fiI8170 (by decide))
    have e8174 : I8170 (ad g 0) 15 = w8139 := by rw [sI8170_0_15]; exact e8157
    have e8175 : I8170 (ad g 0) 16 = v8152 := by rw [sI8170_0_16]; exact e8158
    have e8176 : I8170 (ad g 0) 17 = w8140 := by rw [sI8170_0_17]; exact e8159
    have e8177 : I8170 (ad g 0) 1 = L := hI8170.1.2
    have b8178 := BT_get hI8170.1.1 0 1 2 (0) (0) (900) (by decide) 1 (by decide) (by decide)
    rw [e8177] at b8178
    obtain ⟨w8179, ew8179⟩ : ∃ w : Int32, I8170 (ad g 0) 2 = w := ⟨_, rfl⟩
    have bw8179 := BT_get hI8170.1.1 0 2 3 (0) (0) (900) (by decide) 2 (by decide) (by decide)
    rw [ew8179] at bw8179
    obtain ⟨w8180, ew8180⟩ : ∃ w : Int32, I8170 (ad g 0) 3 = w := ⟨_, rfl⟩
    have bw8180 := BT_get hI8170.1.1 0 3 4 (0) (0) (900) (by decide) 3 (by decide) (by decide)
    rw [ew8180] at bw8180
    obtain ⟨w8181, ew8181⟩ : ∃ w : Int32, I8170 (ad g 0) 4 = w := ⟨_, rfl⟩
    have bw8181 := BT_get hI8170.1.1 0 4 5 (0) (0) (900) (by decide) 4 (by decide) (by decide)
    rw [ew8181] at bw8181
    obtain ⟨w8182, ew8182⟩ : ∃ w : Int32, I8170 (ad g 0) 5 = w := ⟨_, rfl⟩
    have bw8182 := BT_get hI8170.1.1 0 5 6 (0) (0) (4) (by decide) 5 (by decide) (by decide)
    rw [ew8182] at bw8182
    rw [ew8179, ew8180, ew8181, ew8182, ew8163] at pI8170
    obtain ⟨w8183, ew8183⟩ : ∃ w : Int32, I8170 (ad g 0) 7 = w := ⟨_, rfl⟩
    have bw8183 := BT_get hI8170.1.1 0 7 8 (-1) (0) (1000) (by decide) 7 (by decide) (by decide)
    rw [ew8183] at bw8183
    rw [ew8183] at cv8172
    refine WQ_if_ne 38 dX11_readPrices_33 rfl (fun c8183 => ?_) (fun c8183 => ?_)
    · refine WP_aload_n dX11_readPrices_38 rfl ?_
      refine WP_getr dX11_readPrices_39 fX11_138 rfl (ly_is hy 0 11 rfl) (rf hr 0 53 34 (by decide)) ?_
      refine WP_iload_n dX11_readPrices_42 rfl ?_
      refine WQ_ialdu dX11_readPrices_43 (ly_is hy 34 13 rfl) (ly_n hy 34 3 rfl) (by omega) (by omega) (fun v8185 => ?_)
      refine WP_aload_n dX11_readPrices_44 rfl ?_
      refine WQ_getim dX11_readPrices_45 fX11_56 rfl (ly_is hy 0 11 rfl) ew8183 ?_
      refine WQ_ishru dX11_readPrices_48 (fun v8186 => ?_)
      refine WQ_iconst (1) (1) dX11_readPrices_49 rfl rfl (fun v8187 hv8187 => ?_)
      refine WQ_iandu dX11_readPrices_50 (fun v8188 => ?_)
      refine WQ_iconst (1) (1) dX11_readPrices_51 rfl rfl (fun v8189 hv8189 => ?_)
      refine WQ_icmp_ne 61 dX11_readPrices_52 rfl (fun c8189 => ?_) (fun c8189 => ?_)
      · refine WP_aload_n dX11_readPrices_61 rfl ?_
        refine WP_getr dX11_readPrices_62 fX11_138 rfl (ly_is hy 0 11 rfl) (rf hr 0 53 34 (by decide)) ?_
        refine WP_iload_n dX11_readPrices_65 rfl ?_
        refine WP_dup2 dX11_readPrices_66 rfl rfl ?_
        refine WQ_ialdu dX11_readPrices_67 (ly_is hy 34 13 rfl) (ly_n hy 34 3 rfl) (by omega) (by omega) (fun v8191 => ?_)
        refine WQ_iconst (1) (1) dX11_readPrices_68 rfl rfl (fun v8192 hv8192 => ?_)
        refine WP_aload_n dX11_readPrices_69 rfl ?_
        refine WQ_getim dX11_readPrices_70 fX11_56 rfl (ly_is hy 0 11 rfl) ew8183 ?_
        refine WQ_ishlu dX11_readPrices_73 (fun v8193 => ?_)
        refine WQ_ioru dX11_readPrices_74 (fun v8194 => ?_)
        refine WQ_iast dX11_readPrices_75 (ly_is hy 34 13 rfl) (ly_n hy 34 3 rfl) (by omega) (by omega) (fun I8195 eI8195 => ?_)
        have hI8195 : MP g n L I8195 := by rw [eI8195]; exact (mp_w hy hI8170 (c := 34) (mi_r0 hy hI8170.1 (c := 34) (by decide) (Or.inl (by decide)) (by decide)) (by decide) (by decide) (Or.inl (by decide)))
        have e8196 : I8195 (ad g 0) 15 = w8139 := by rw [eI8195, pp_ne _ _ (Or.inl (ly_ne hy (by decide) (by decide) (by decide)))]; exact e8174
        have e8197 : I8195 (ad g 0) 16 = v8152 := by rw [eI8195, pp_ne _ _ (Or.inl (ly_ne hy (by decide) (by decide) (by decide)))]; exact e8175
        have e8198 : I8195 (ad g 0) 17 = w8140 := by rw [eI8195, pp_ne _ _ (Or.inl (ly_ne hy (by decide) (by decide) (by decide)))]; exact e8176
        have e8199 : I8195 (ad g 0) 1 = L := by rw [eI8195, pp_ne _ _ (Or.inl (ly_ne hy (by decide) (by decide) (by decide)))]; exact e8177
        have e8200 : I8195 (ad g 0) 2 = w8179 := by rw [eI8195, pp_ne _ _ (Or.inl (ly_ne hy (by decide) (by decide) (by decide)))]; exact ew8179
        have e8201 : I8195 (ad g 0) 3 = w8180 := by rw [eI8195, pp_ne _ _ (Or.inl (ly_ne hy (by decide) (by decide) (by decide)))]; exact ew8180
        have e8202 : I8195 (ad g 0) 4 = w8181 := by rw [eI8195, pp_ne _ _ (Or.inl (ly_ne hy (by decide) (by decide) (by decide)))]; exact ew8181
        have e8203 : I8195 (ad g 0) 5 = w8182 := by rw [eI8195, pp_ne _ _ (Or.inl (ly_ne hy (by decide) (by decide) (by decide)))]; exact ew8182
        have e8204 : I8195 (ad g 0) 7 = w8183 := by rw [eI8195, pp_ne _ _ (Or.inl (ly_ne hy (by decide) (by decide) (by decide)))]; exact ew8183
        have fr8205 : fz 49 g [0, 28, 34] I I8195 := by rw [eI8195]; exact fzm_pp hy fr8173 (by decide) (by decide)
        clear eI8195
        refine WQ_bipush (7) (7) dX11_readPrices_76 rfl rfl (fun v8206 hv8206 => ?_)
        refine WP_iload_n dX11_readPrices_78 rfl ?_
        refine WQ_imulK (7) dX11_readPrices_79 hv8206 (by omega) (by omega) (fun v8207 hv8207 => ?_)
        refine WP_aload_n dX11_readPrices_80 rfl ?_
        refine WQ_getim dX11_readPrices_81 fX11_56 rfl (ly_is hy 0 11 rfl) e8204 ?_
        refine WQ_iadd dX11_readPrices_84 (by omega) (by omega) (fun v8208 hv8208 => ?_)
        refine WP_istore_n (ls' := [(0, _), (1, _), (2, _)]) dX11_readPrices_85 (by decide) rfl ?_
        refine WP_aload_n dX11_readPrices_86 rfl ?_
        refine WP_callV0 (k := 11) dX11_readPrices_87 ⟨⟨⟨by decide, by decide⟩, zX11_scan⟩, lX11_63, by decide, rfl, vX11_scan.1, vX11_scan.2⟩ (ly_is hy 0 11 rfl) (sm_scanx hy hr hI8195   (by rw [e8202, e8200]; omega)) (Nat.le_of_ble_eq_true rfl) ?_
        intro r I8209 J8210 Ra hq
        obtain ⟨⟨hI8209, ec, fiI8209, ⟨pI8209, sI8209_0_7, sI8209_0_15, sI8209_0_16, sI8209_0_17, sI8209_0_18⟩⟩, rfl⟩ := hq
        rw [ec]
        clear ec Ra
        have fr8211 : fz 49 g [0, 28, 34] I I8209 := fz_tr fr8205 (fz_mono fiI8209 (by decide))
        have e8212 : I8209 (ad g 0) 7 = w8183 := by rw [sI8209_0_7]; exact e8204
        have e8213 : I8209 (ad g 0) 15 = w8139 := by rw [sI8209_0_15]; exact e8196
        have e8214 : I8209 (ad g 0) 16 = v8152 := by rw [sI8209_0_16]; exact e8197
        have e8215 : I8209 (ad g 0) 17 = w8140 := by rw [sI8209_0_17]; exact e8198
        have e8216 : I8209 (ad g 0) 1 = L := hI8209.1.2
        have b8217 := BT_get hI8209.1.1 0 1 2 (0) (0) (900) (by decide) 1 (by decide) (by decide)
        rw [e8216] at b8217
        obtain ⟨w8218, ew8218⟩ : ∃ w : Int32, I8209 (ad g 0) 2 = w := ⟨_, rfl⟩
        have bw8218 := BT_get hI8209.1.1 0 2 3 (0) (0) (900) (by decide) 2 (by decide) (by decide)
        rw [ew8218] at bw8218
        obtain ⟨w8219, ew8219⟩ : ∃ w : Int32, I8209 (ad g 0) 3 = w := ⟨_, rfl⟩
        have bw8219 := BT_get hI8209.1.1 0 3 4 (0) (0) (900) (by decide) 3 (by decide) (by decide)
        rw [ew8219] at bw8219
        obtain ⟨w8220, ew8220⟩ : ∃ w : Int32, I8209 (ad g 0) 4 = w := ⟨_, rfl⟩
        have bw8220 := BT_get hI8209.1.1 0 4 5 (0) (0) (900) (by decide) 4 (by decide) (by decide)
        rw [ew8220] at bw8220
        obtain ⟨w8221, ew8221⟩ : ∃ w : Int32, I8209 (ad g 0) 5 = w := ⟨_, rfl⟩
        have bw8221 := BT_get hI8209.1.1 0 5 6 (0) (0) (4) (by decide) 5 (by decide) (by decide)
        rw [ew8221] at bw8221
        rw [ew8218, ew8219, ew8220, ew8221, e8202] at pI8209
        refine WP_aload_n dX11_readPrices_90 rfl ?_
        refine WQ_iconst (1) (1) dX11_readPrices_91 rfl rfl (fun v8222 hv8222 => ?_)
        refine WQ_bipush (20) (20) dX11_readPrices_92 rfl rfl (fun v8223 hv8223 => ?_)
        refine WP_callV2 (k := 11) dX11_readPrices_94 ⟨⟨⟨by decide, by decide⟩, zX11_number⟩, lX11_81, by decide, rfl, vX11_number.1, vX11_number.2⟩ (ly_is hy 0 11 rfl) (sm_numberx hy hr hI8209 v8222 v8223 (by omega) (by omega) (by omega) (by omega) (by rw [ew8218, ew8219, ew8220, ew8221]; omega)) (Nat.le_of_ble_eq_true rfl) ?_
        intro r I8224 J8225 Ra hq
        obtain ⟨⟨hI8224, ec, fiI8224, ⟨pI8224, sI8224_0_15, sI8224_0_16, sI8224_0_17, sI8224_0_18⟩⟩, v8226, rfl, av8226, bv8226, cv8226⟩ := hq
        show WP _ _ _ _ (.int _ :: _) _ _ _ _
        rw [ec]
        clear ec Ra
        have fr8227 : fz 49 g [0, 28, 34] I I8224 := fz_tr fr8211 (fz_mono fiI8224 (by decide))
        have e8228 : I8224 (ad g 0) 15 = w8139 := by rw [sI8224_0_15]; exact e8213
        have e8229 : I8224 (ad g 0) 16 = v8152 := by rw [sI8224_0_16]; exact e8214
        have e8230 : I8224 (ad g 0) 17 = w8140 := by rw [sI8224_0_17]; exact e8215
        have e8231 : I8224 (ad g 0) 1 = L := hI8224.1.2
        have b8232 := BT_get hI8224.1.1 0 1 2 (0) (0) (900) (by decide) 1 (by decide) (by decide)
        rw [e8231] at b8232
        obtain ⟨w8233, ew8233⟩ : ∃ w : Int32, I8224 (ad g 0) 2 = w := ⟨_, rfl⟩
        have bw8233 := BT_get hI8224.1.1 0 2 3 (0) (0) (900) (by decide) 2 (by decide) (by decide)
        rw [ew8233] at bw8233
        obtain ⟨w8234, ew8234⟩ : ∃ w : Int32, I8224 (ad g 0) 3 = w := ⟨_, rfl⟩
        have bw8234 := BT_get hI8224.1.1 0 3 4 (0) (0) (900) (by decide) 3 (by decide) (by decide)
        rw [ew8234] at bw8234
        obtain ⟨w8235, ew8235⟩ : ∃ w : Int32, I8224 (ad g 0) 4 = w := ⟨_, rfl⟩
        have bw8235 := BT_get hI8224.1.1 0 4 5 (0) (0) (900) (by decide) 4 (by decide) (by decide)
        rw [ew8235] at bw8235
        obtain ⟨w8236, ew8236⟩ : ∃ w : Int32, I8224 (ad g 0) 5 = w := ⟨_, rfl⟩
        have bw8236 := BT_get hI8224.1.1 0 5 6 (0) (0) (4) (by decide) 5 (by decide) (by decide)
        rw [ew8236] at bw8236
        rw [ew8233, ew8234, ew8235, ew8236, ew8219] at pI8224
        obtain ⟨w8237, ew8237⟩ : ∃ w : Int32, I8224 (ad g 0) 7 = w := ⟨_, rfl⟩
        have bw8237 := BT_get hI8224.1.1 0 7 8 (-1) (0) (1000) (by decide) 7 (by decide) (by decide)
        rw [ew8237] at bw8237
        rw [ew8237] at cv8226
        refine WQ_if_ne 102 dX11_readPrices_97 rfl (fun c8237 => ?_) (fun c8237 => ?_)
        · refine WP_aload_n dX11_readPrices_102 rfl ?_
          refine WP_getr dX11_readPrices_103 fX11_141 rfl (ly_is hy 0 11 rfl) (rf hr 0 46 28 (by decide)) ?_
          refine WP_iload_n dX11_readPrices_106 rfl ?_
          refine WP_aload_n dX11_readPrices_107 rfl ?_
          refine WQ_getim dX11_readPrices_108 fX11_56 rfl (ly_is hy 0 11 rfl) ew8237 ?_
          refine WQ_iast dX11_readPrices_111 (ly_is hy 28 13 rfl) (ly_n hy 28 21 rfl) (by omega) (by omega) (fun I8239 eI8239 => ?_)
          have hI8239 : MP g n L I8239 := by rw [eI8239]; exact (mp_w hy hI8224 (c := 28) (mi_r hy hI8224.1 (c := 28) (0) (0) (20) (by decide) (Or.inl (by decide)) (by decide) (by omega) (by omega)) (by decide) (by decide) (Or.inl (by decide)))
          have e8240 : I8239 (ad g 0) 15 = w8139 := by rw [eI8239, pp_ne _ _ (Or.inl (ly_ne hy (by decide) (by decide) (by decide)))]; exact e8228
          have e8241 : I8239 (ad g 0) 16 = v8152 := by rw [eI8239, pp_ne _ _ (Or.inl (ly_ne hy (by decide) (by decide) (by decide)))]; exact e8229
          have e8242 : I8239 (ad g 0) 17 = w8140 := by rw [eI8239, pp_ne _ _ (Or.inl (ly_ne hy (by decide) (by decide) (by decide)))]; exact e8230
          have e8243 : I8239 (ad g 0) 1 = L := by rw [eI8239, pp_ne _ _ (Or.inl (ly_ne hy (by decide) (by decide) (by decide)))]; exact e8231
          have e8244 : I8239 (ad g 0) 2 = w8233 := by rw [eI8239, pp_ne _ _ (Or.inl (ly_ne hy (by decide) (by decide) (by decide)))]; exact ew8233
          have e8245 : I8239 (ad g 0) 3 = w8234 := by rw [eI8239, pp_ne _ _ (Or.inl (ly_ne hy (by decide) (by decide) (by decide)))]; exact ew8234
          have e8246 : I8239 (ad g 0) 4 = w8235 := by rw [eI8239, pp_ne _ _ (Or.inl (ly_ne hy (by decide) (by decide) (by decide)))]; exact ew8235
          have e8247 : I8239 (ad g 0) 5 = w8236 := by rw [eI8239, pp_ne _ _ (Or.inl (ly_ne hy (by decide) (by decide) (by decide)))]; exact ew8236
          have e8248 : I8239 (ad g 0) 7 = w8237 := by rw [eI8239, pp_ne _ _ (Or.inl (ly_ne hy (by decide) (by decide) (by decide)))]; exact ew8237
          have fr8249 : fz 49 g [0, 28, 34] I I8239 := by rw [eI8239]; exact fzm_pp hy fr8227 (by decide) (by decide)
          clear eI8239
          refine WQ_iconst (1) (1) dX11_readPrices_112 rfl rfl (fun v8250 hv8250 => ?_)
          exact WP_zret dX11_readPrices_113 rfl (nar_z (by omega)) ⟨⟨hI8239, rfl, fr8249, (by rw [e8244, e8245, e8246, e8247, e8240, e8242, ew8136]; omega)⟩, _, rfl, by omega, by omega, (fun _ => by rw [fz_at fr8249 30 (by decide) (by decide), fz_at fr8249 31 (by decide) (by decide), show I8239 (ad g 0) 15 = I (ad g 0) 15 from (by rw [e8240, ew8139] <;> exact (eq32 _ _).mpr (by omega))]; exact hw)⟩
        · refine WQ_iconst (0) (0) dX11_readPrices_100 rfl rfl (fun v8251 hv8251 => ?_)
          exact WP_zret dX11_readPrices_101 rfl (nar_z (by omega)) ⟨⟨hI8224, rfl, fr8227, (by rw [ew8233, ew8234, ew8235, ew8236, e8228, e8230, ew8136]; omega)⟩, _, rfl, by omega, by omega, (fun h => False.elim (by omega))⟩
      · refine WP_aload_n dX11_readPrices_55 rfl ?_
        refine WQ_iconst (3) (3) dX11_readPrices_56 rfl rfl (fun v8252 hv8252 => ?_)
        refine WP_callV1 (k := 11) dX11_readPrices_57 ⟨⟨⟨by decide, by decide⟩, zX11_bad⟩, lX11_49, by decide, rfl, vX11_bad.1, vX11_bad.2⟩ (ly_is hy 0 11 rfl) (sm_badx hy hr hI8170 v8252  (by rw [ew8179, ew8180, ew8181, ew8182]; omega)) (Nat.le_of_ble_eq_true rfl) ?_
        intro r I8253 J8254 Ra hq
        obtain ⟨⟨hI8253, ec, fiI8253, ⟨pI8253, sI8253_0_15, sI8253_0_16, sI8253_0_17, sI8253_0_18⟩⟩, v8255, rfl, av8255, bv8255⟩ := hq
        show WP _ _ _ _ (.int _ :: _) _ _ _ _
        rw [ec]
        clear ec Ra
        have fr8256 : fz 49 g [0, 28, 34] I I8253 := fz_tr fr8173 (fz_mono fiI8253 (by decide))
        have e8257 : I8253 (ad g 0) 15 = w8139 := by rw [sI8253_0_15]; exact e8174
        have e8258 : I8253 (ad g 0) 16 = v8152 := by rw [sI8253_0_16]; exact e8175
        have e8259 : I8253 (ad g 0) 17 = w8140 := by rw [sI8253_0_17]; exact e8176
        have e8260 : I8253 (ad g 0) 1 = L := hI8253.1.2
        have b8261 := BT_get hI8253.1.1 0 1 2 (0) (0) (900) (by decide) 1 (by decide) (by decide)
        rw [e8260] at b8261
        obtain ⟨w8262, ew8262⟩ : ∃ w : Int32, I8253 (ad g 0) 2 = w := ⟨_, rfl⟩
        have bw8262 := BT_get hI8253.1.1 0 2 3 (0) (0) (900) (by decide) 2 (by decide) (by decide)
        rw [ew8262] at bw8262
        obtain ⟨w8263, ew8263⟩ : ∃ w : Int32, I8253 (ad g 0) 3 = w := ⟨_, rfl⟩
        have bw8263 := BT_get hI8253.1.1 0 3 4 (0) (0) (900) (by decide) 3 (by decide) (by decide)
        rw [ew8263] at bw8263
        obtain ⟨w8264, ew8264⟩ : ∃ w : Int32, I8253 (ad g 0) 4 = w := ⟨_, rfl⟩
        have bw8264 := BT_get hI8253.1.1 0 4 5 (0) (0) (900) (by decide) 4 (by decide) (by decide)
        rw [ew8264] at bw8264
        obtain ⟨w8265, ew8265⟩ : ∃ w : Int32, I8253 (ad g 0) 5 = w := ⟨_, rfl⟩
        have bw8265 := BT_get hI8253.1.1 0 5 6 (0) (0) (4) (by decide) 5 (by decide) (by decide)
        rw [ew8265] at bw8265
        rw [ew8262, ew8263, ew8264, ew8265, ew8180] at pI8253
        exact WP_zret dX11_readPrices_60 rfl (nar_z (by omega)) ⟨⟨hI8253, rfl, fr8256, (by rw [ew8262, ew8263, ew8264, ew8265, e8257, e8259, ew8136]; omega)⟩, _, rfl, by omega, by omega, (fun h => False.elim (by omega))⟩
    · refine WQ_iconst (0) (0) dX11_readPrices_36 rfl rfl (fun v8266 hv8266 => ?_)
      exact WP_zret dX11_readPrices_37 rfl (nar_z (by omega)) ⟨⟨hI8170, rfl, fr8173, (by rw [ew8179, ew8180, ew8181, ew8182, e8174, e8176, ew8136]; omega)⟩, _, rfl, by omega, by omega, (fun h => False.elim (by omega))⟩
  · refine WQ_iconst (0) (0) dX11_readPrices_19 rfl rfl (fun v8267 hv8267 => ?_)
    exact WP_zret dX11_readPrices_20 rfl (nar_z (by omega)) ⟨⟨hI8153, rfl, fr8156, (by rw [ew8162, ew8163, ew8164, ew8165, e8157, e8159, ew8136]; omega)⟩, _, rfl, by omega, by omega, (fun h => False.elim (by omega))⟩
set_option maxHeartbeats 4000000 in
set_option maxRecDepth 100000 in
theorem sm_readMakesx {g : GG} {n : Int} {L : Int32} (hy : Ly g)  {I : pI} {J : pJ} {R : pR} (hr : Rf g R) (hI : MP g n L I)   (hb : ((I (ad g 0) 4).toInt ≤ (I (ad g 0) 2).toInt ∧ (I (ad g 0) 3).toInt ≤ (I (ad g 0) 4).toInt ∧ ((I (ad g 0) 5).toInt = 0 ∨ (I (ad g 0) 3).toInt < (I (ad g 0) 4).toInt)) ∧ (I (ad g 0) 17).toInt < (I (ad g 0) 15).toInt) (hw : WRt (I (ad g 30)) (I (ad g 31)) (7 * (I (ad g 0) 15).toInt)) : SP g mX11_readMakes [.ref (ad g 0)] I J R (fun r I' J' R' => (MP g n L I' ∧ R' = R ∧ fz 49 g [0, 29] I I' ∧ (((I' (ad g 0) 4).toInt ≤ (I' (ad g 0) 2).toInt ∧ (I' (ad g 0) 3).toInt ≤ (I' (ad g 0) 4).toInt ∧ ((I' (ad g 0) 5).toInt = 0 ∨ (I' (ad g 0) 3).toInt < (I' (ad g 0) 4).toInt)) ∧ (I (ad g 0) 3).toInt ≤ (I' (ad g 0) 3).toInt ∧ (I' (ad g 0) 17).toInt < (I' (ad g 0) 15).toInt)) ∧ ∃ v : Int32, r = some (.int v) ∧ 0 ≤ v.toInt ∧ v.toInt ≤ 1 ∧ (v.toInt = 1 → WRt (I' (ad g 30)) (I' (ad g 31)) (7 * (I' (ad g 0) 15).toInt))) := by
  refine SP_of ⟨by decide, rfl⟩ (Nat.le_of_ble_eq_true rfl) ?_
  have e8268 : I (ad g 0) 1 = L := hI.1.2
  have b8269 := BT_get hI.1.1 0 1 2 (0) (0) (900) (by decide) 1 (by decide) (by decide)
  rw [e8268] at b8269
  have fr0 : fz 49 g [0, 29] I I := fz_rf
  obtain ⟨w8270, ew8270⟩ : ∃ w : Int32, I (ad g 0) 2 = w := ⟨_, rfl⟩
  have bw8270 := BT_get hI.1.1 0 2 3 (0) (0) (900) (by decide) 2 (by decide) (by decide)
  rw [ew8270] at bw8270
  obtain ⟨w8271, ew8271⟩ : ∃ w : Int32, I (ad g 0) 3 = w := ⟨_, rfl⟩
  have bw8271 := BT_get hI.1.1 0 3 4 (0) (0) (900) (by decide) 3 (by decide) (by decide)
  rw [ew8271] at bw8271
  obtain ⟨w8272, ew8272⟩ : ∃ w : Int32, I (ad g 0) 4 = w := ⟨_, rfl⟩
  have bw8272 := BT_get hI.1.1 0 4 5 (0) (0) (900) (by decide) 4 (by decide) (by decide)
  rw [ew8272] at bw8272
  obtain ⟨w8273, ew8273⟩ : ∃ w : Int32, I (ad g 0) 5 = w := ⟨_, rfl⟩
  have bw8273 := BT_get hI.1.1 0 5 6 (0) (0) (4) (by decide) 5 (by decide) (by decide)
  rw [ew8273] at bw8273
  obtain ⟨w8274, ew8274⟩ : ∃ w : Int32, I (ad g 0) 15 = w := ⟨_, rfl⟩
  have bw8274 := BT_get hI.1.1 0 15 16 (0) (0) (4) (by decide) 15 (by decide) (by decide)
  rw [ew8274] at bw8274
  obtain ⟨w8275, ew8275⟩ : ∃ w : Int32, I (ad g 0) 17 = w := ⟨_, rfl⟩
  have bw8275 := BT_get hI.1.1 0 17 18 (-1) (0) (3) (by decide) 17 (by decide) (by decide)
  rw [ew8275] at bw8275
  rw [ew8270, ew8271, ew8272, ew8273, ew8274, ew8275] at hb
  refine WP_aload_n dX11_readMakes_0 rfl ?_
  refine WP_callV0 (k := 11) dX11_readMakes_1 ⟨⟨⟨by decide, by decide⟩, zX11_scan⟩, lX11_63, by decide, rfl, vX11_scan.1, vX11_scan.2⟩ (ly_is hy 0 11 rfl) (sm_scanx hy hr hI   (by rw [ew8272, ew8270]; omega)) (Nat.le_of_ble_eq_true rfl) ?_
  intro r I8276 J8277 Ra hq
  obtain ⟨⟨hI8276, ec, fiI8276, ⟨pI8276, sI8276_0_7, sI8276_0_15, sI8276_0_16, sI8276_0_17, sI8276_0_18⟩⟩, rfl⟩ := hq
  rw [ec]
  clear ec Ra
  have fr8278 : fz 49 g [0, 29] I I8276 := fz_tr fr0 (fz_mono fiI8276 (by decide))
  have e8279 : I8276 (ad g 0) 15 = w8274 := by rw [sI8276_0_15]; exact ew8274
  have e8280 : I8276 (ad g 0) 17 = w8275 := by rw [sI8276_0_17]; exact ew8275
  have e8281 : I8276 (ad g 0) 1 = L := hI8276.1.2
  have b8282 := BT_get hI8276.1.1 0 1 2 (0) (0) (900) (by decide) 1 (by decide) (by decide)
  rw [e8281] at b8282
  obtain ⟨w8283, ew8283⟩ : ∃ w : Int32, I8276 (ad g 0) 2 = w := ⟨_, rfl⟩
  have bw8283 := BT_get hI8276.1.1 0 2 3 (0) (0) (900) (by decide) 2 (by decide) (by decide)
  rw [ew8283] at bw8283
  obtain ⟨w8284, ew8284⟩ : ∃ w : Int32, I8276 (ad g 0) 3 = w := ⟨_, rfl⟩
  have bw8284 := BT_get hI8276.1.1 0 3 4 (0) (0) (900) (by decide) 3 (by decide) (by decide)
  rw [ew8284] at bw8284
  obtain ⟨w8285, ew8285⟩ : ∃ w : Int32, I8276 (ad g 0) 4 = w := ⟨_, rfl⟩
  have bw8285 := BT_get hI8276.1.1 0 4 5 (0) (0) (900) (by decide) 4 (by decide) (by decide)
  rw [ew8285] at bw8285
  obtain ⟨w8286, ew8286⟩ : ∃ w : Int32, I8276 (ad g 0) 5 = w := ⟨_, rfl⟩
  have bw8286 := BT_get hI8276.1.1 0 5 6 (0) (0) (4) (by decide) 5 (by decide) (by decide)
  rw [ew8286] at bw8286
  rw [ew8283, ew8284, ew8285, ew8286, ew8272] at pI8276
  refine WP_aload_n dX11_readMakes_4 rfl ?_
  refine WP_aload_n dX11_readMakes_5 rfl ?_
  refine WP_getr dX11_readMakes_6 fX11_129 rfl (ly_is hy 0 11 rfl) (rf hr 0 23 5 (by decide)) ?_
  refine WP_aload_n dX11_readMakes_9 rfl ?_
  refine WQ_geti dX11_readMakes_10 fX11_126 rfl (ly_is hy 0 11 rfl) (BT_get hI8276.1.1 0 16 17 (0) (0) (3) (by decide) 16 (by decide) (by decide)) (fun v8287 ev8287 av8287 bv8287 => ?_)
  refine WP_callV2 (k := 11) dX11_readMakes_13 ⟨⟨⟨by decide, by decide⟩, zX11_known⟩, lX11_147, by decide, rfl, vX11_known.1, vX11_known.2⟩ (ly_is hy 0 11 rfl) (sm_knownx_5 hy hr hI8276 v8287 (by omega) (by omega) (by rw [ew8283, ew8284, ew8285, ew8286]; omega)) (Nat.le_of_ble_eq_true rfl) ?_
  intro r I8288 J8289 Ra hq
  obtain ⟨⟨hI8288, ec, fiI8288, ⟨pI8288, sI8288_0_15, sI8288_0_16, sI8288_0_17, sI8288_0_18⟩⟩, v8290, rfl, av8290, bv8290, cv8290⟩ := hq
  show WP _ _ _ _ (.int _ :: _) _ _ _ _
  rw [ec]
  clear ec Ra
  have fr8291 : fz 49 g [0, 29] I I8288 := fz_tr fr8278 (fz_mono fiI8288 (by decide))
  have e8292 : I8288 (ad g 0) 15 = w8274 := by rw [sI8288_0_15]; exact e8279
  have e8293 : I8288 (ad g 0) 16 = v8287 := by rw [sI8288_0_16]; exact ev8287
  have e8294 : I8288 (ad g 0) 17 = w8275 := by rw [sI8288_0_17]; exact e8280
  have e8295 : I8288 (ad g 0) 1 = L := hI8288.1.2
  have b8296 := BT_get hI8288.1.1 0 1 2 (0) (0) (900) (by decide) 1 (by decide) (by decide)
  rw [e8295] at b8296
  obtain ⟨w8297, ew8297⟩ : ∃ w : Int32, I8288 (ad g 0) 2 = w := ⟨_, rfl⟩
  have bw8297 := BT_get hI8288.1.1 0 2 3 (0) (0) (900) (by decide) 2 (by decide) (by decide)
  rw [ew8297] at bw8297
  obtain ⟨w8298, ew8298⟩ : ∃ w : Int32, I8288 (ad g 0) 3 = w := ⟨_, rfl⟩
  have bw8298 := BT_get hI8288.1.1 0 3 4 (0) (0) (900) (by decide) 3 (by decide) (by decide)
  rw [ew8298] at bw8298
  obtain ⟨w8299, ew8299⟩ : ∃ w : Int32, I8288 (ad g 0) 4 = w := ⟨_, rfl⟩
  have bw8299 := BT_get hI8288.1.1 0 4 5 (0) (0) (900) (by decide) 4 (by decide) (by decide)
  rw [ew8299] at bw8299
  obtain ⟨w8300, ew8300⟩ : ∃ w : Int32, I8288 (ad g 0) 5 = w := ⟨_, rfl⟩
  have bw8300 := BT_get hI8288.1.1 0 5 6 (0) (0) (4) (by decide) 5 (by decide) (by decide)
  rw [ew8300] at bw8300
  rw [ew8297, ew8298, ew8299, ew8300, ew8284] at pI8288
  obtain ⟨w8301, ew8301⟩ : ∃ w : Int32, I8288 (ad g 0) 7 = w := ⟨_, rfl⟩
  have bw8301 := BT_get hI8288.1.1 0 7 8 (-1) (0) (1000) (by decide) 7 (by decide) (by decide)
  rw [ew8301] at bw8301
  rw [ew8301] at cv8290
  refine WQ_if_ne 21 dX11_readMakes_16 rfl (fun c8301 => ?_) (fun c8301 => ?_)
  · refine WP_aload_n dX11_readMakes_21 rfl ?_
    refine WQ_getim dX11_readMakes_22 fX11_56 rfl (ly_is hy 0 11 rfl) ew8301 ?_
    refine WP_istore_n (ls' := [(0, _), (1, _)]) dX11_readMakes_25 (by decide) rfl ?_
    refine WP_aload_n dX11_readMakes_26 rfl ?_
    refine WQ_iconst (0) (0) dX11_readMakes_27 rfl rfl (fun v8303 hv8303 => ?_)
    refine WQ_bipush (6) (6) dX11_readMakes_28 rfl rfl (fun v8304 hv8304 => ?_)
    refine WP_callV2 (k := 11) dX11_readMakes_30 ⟨⟨⟨by decide, by decide⟩, zX11_peek⟩, lX11_59, by decide, rfl, vX11_peek.1, vX11_peek.2⟩ (ly_is hy 0 11 rfl) (sm_peekx hy hr hI8288 v8303 v8304 (by omega) (by omega) (by omega) (by omega) (by rw [ew8297, ew8298, ew8299, ew8300]; omega)) (Nat.le_of_ble_eq_true rfl) ?_
    intro r I8305 J8306 Ra hq
    obtain ⟨⟨hI8305, ec, fiI8305, ⟨pI8305, sI8305_0_15, sI8305_0_16, sI8305_0_17, sI8305_0_18⟩⟩, v8307, rfl, av8307, bv8307, cv8307⟩ := hq
    show WP _ _ _ _ (.int _ :: _) _ _ _ _
    rw [ec]
    clear ec Ra
    have fr8308 : fz 49 g [0, 29] I I8305 := fz_tr fr8291 (fz_mono fiI8305 (by decide))
    have e8309 : I8305 (ad g 0) 15 = w8274 := by rw [sI8305_0_15]; exact e8292
    have e8310 : I8305 (ad g 0) 16 = v8287 := by rw [sI8305_0_16]; exact e8293
    have e8311 : I8305 (ad g 0) 17 = w8275 := by rw [sI8305_0_17]; exact e8294
    have e8312 : I8305 (ad g 0) 1 = L := hI8305.1.2
    have b8313 := BT_get hI8305.1.1 0 1 2 (0) (0) (900) (by decide) 1 (by decide) (by decide)
    rw [e8312] at b8313
    obtain ⟨w8314, ew8314⟩ : ∃ w : Int32, I8305 (ad g 0) 2 = w := ⟨_, rfl⟩
    have bw8314 := BT_get hI8305.1.1 0 2 3 (0) (0) (900) (by decide) 2 (by decide) (by decide)
    rw [ew8314] at bw8314
    obtain ⟨w8315, ew8315⟩ : ∃ w : Int32, I8305 (ad g 0) 3 = w := ⟨_, rfl⟩
    have bw8315 := BT_get hI8305.1.1 0 3 4 (0) (0) (900) (by decide) 3 (by decide) (by decide)
    rw [ew8315] at bw8315
    obtain ⟨w8316, ew8316⟩ : ∃ w : Int32, I8305 (ad g 0) 4 = w := ⟨_, rfl⟩
    have bw8316 := BT_get hI8305.1.1 0 4 5 (0) (0) (900) (by decide) 4 (by decide) (by decide)
    rw [ew8316] at bw8316
    obtain ⟨w8317, ew8317⟩ : ∃ w : Int32, I8305 (ad g 0) 5 = w := ⟨_, rfl⟩
    have bw8317 := BT_get hI8305.1.1 0 5 6 (0) (0) (4) (by decide) 5 (by decide) (by decide)
    rw [ew8317] at bw8317
    rw [ew8314, ew8315, ew8316, ew8317, ew8298] at pI8305
    obtain ⟨w8318, ew8318⟩ : ∃ w : Int32, I8305 (ad g 0) 7 = w := ⟨_, rfl⟩
    have bw8318 := BT_get hI8305.1.1 0 7 8 (-1) (0) (1000) (by decide) 7 (by decide) (by decide)
    rw [ew8318] at bw8318
    rw [ew8318] at cv8307
    refine WQ_if_ne 38 dX11_readMakes_33 rfl (fun c8318 => ?_) (fun c8318 => ?_)
    · refine WQ_bipush (7) (7) dX11_readMakes_38 rfl rfl (fun v8320 hv8320 => ?_)
      refine WP_iload_n dX11_readMakes_40 rfl ?_
      refine WQ_imulK (7) dX11_readMakes_41 hv8320 (by omega) (by omega) (fun v8321 hv8321 => ?_)
      refine WP_aload_n dX11_readMakes_42 rfl ?_
      refine WQ_getim dX11_readMakes_43 fX11_56 rfl (ly_is hy 0 11 rfl) ew8318 ?_
      refine WQ_iadd dX11_readMakes_46 (by omega) (by omega) (fun v8322 hv8322 => ?_)
      refine WP_istore_n (ls' := [(0, _), (1, _), (2, _)]) dX11_readMakes_47 (by decide) rfl ?_
      refine WP_aload_n dX11_readMakes_48 rfl ?_
      refine WP_getr dX11_readMakes_49 fX11_144 rfl (ly_is hy 0 11 rfl) (rf hr 0 47 29 (by decide)) ?_
      refine WP_iload_n dX11_readMakes_52 rfl ?_
      refine WQ_iald dX11_readMakes_53 (ly_is hy 29 13 rfl) (ly_n hy 29 21 rfl) (by omega) (by omega) (fun q hq => BT_get hI8305.1.1 29 0 21 (-1) (0) (999) (by decide) q (Nat.zero_le _) hq) (fun v8323 av8323 bv8323 ev8323 => ?_)
      clear ev8323
      refine WQ_iconst (-1) (-1) dX11_readMakes_54 rfl rfl (fun v8324 hv8324 => ?_)
      refine WQ_icmp_eq 64 dX11_readMakes_55 rfl (fun c8324 => ?_) (fun c8324 => ?_)
      · refine WP_aload_n dX11_readMakes_64 rfl ?_
        refine WP_callV0 (k := 11) dX11_readMakes_65 ⟨⟨⟨by decide, by decide⟩, zX11_scan⟩, lX11_63, by decide, rfl, vX11_scan.1, vX11_scan.2⟩ (ly_is hy 0 11 rfl) (sm_scanx hy hr hI8305   (by rw [ew8316, ew8314]; omega)) (Nat.le_of_ble_eq_true rfl) ?_
        intro r I8326 J8327 Ra hq
        obtain ⟨⟨hI8326, ec, fiI8326, ⟨pI8326, sI8326_0_7, sI8326_0_15, sI8326_0_16, sI8326_0_17, sI8326_0_18⟩⟩, rfl⟩ := hq
        rw [ec]
        clear ec Ra
        have fr8328 : fz 49 g [0, 29] I I8326 := fz_tr fr8308 (fz_mono fiI8326 (by decide))
        have e8329 : I8326 (ad g 0) 7 = w8318 := by rw [sI8326_0_7]; exact ew8318
        have e8330 : I8326 (ad g 0) 15 = w8274 := by rw [sI8326_0_15]; exact e8309
        have e8331 : I8326 (ad g 0) 16 = v8287 := by rw [sI8326_0_16]; exact e8310
        have e8332 : I8326 (ad g 0) 17 = w8275 := by rw [sI8326_0_17]; exact e8311
        have e8333 : I8326 (ad g 0) 1 = L := hI8326.1.2
        have b8334 := BT_get hI8326.1.1 0 1 2 (0) (0) (900) (by decide) 1 (by decide) (by decide)
        rw [e8333] at b8334
        obtain ⟨w8335, ew8335⟩ : ∃ w : Int32, I8326 (ad g 0) 2 = w := ⟨_, rfl⟩
        have bw8335 := BT_get hI8326.1.1 0 2 3 (0) (0) (900) (by decide) 2 (by decide) (by decide)
        rw [ew8335] at bw8335
        obtain ⟨w8336, ew8336⟩ : ∃ w : Int32, I8326 (ad g 0) 3 = w := ⟨_, rfl⟩
        have bw8336 := BT_get hI8326.1.1 0 3 4 (0) (0) (900) (by decide) 3 (by decide) (by decide)
        rw [ew8336] at bw8336
        obtain ⟨w8337, ew8337⟩ : ∃ w : Int32, I8326 (ad g 0) 4 = w := ⟨_, rfl⟩
        have bw8337 := BT_get hI8326.1.1 0 4 5 (0) (0) (900) (by decide) 4 (by decide) (by decide)
        rw [ew8337] at bw8337
        obtain ⟨w8338, ew8338⟩ : ∃ w : Int32, I8326 (ad g 0) 5 = w := ⟨_, rfl⟩
        have bw8338 := BT_get hI8326.1.1 0 5 6 (0) (0) (4) (by decide) 5 (by decide) (by decide)
        rw [ew8338] at bw8338
        rw [ew8335, ew8336, ew8337, ew8338, ew8316] at pI8326
        refine WP_aload_n dX11_readMakes_68 rfl ?_
        refine WQ_iconst (0) (0) dX11_readMakes_69 rfl rfl (fun v8339 hv8339 => ?_)
        refine WQ_sipush (999) (999) dX11_readMakes_70 rfl rfl (fun v8340 hv8340 => ?_)
        refine WP_callV2 (k := 11) dX11_readMakes_73 ⟨⟨⟨by decide, by decide⟩, zX11_number⟩, lX11_81, by decide, rfl, vX11_number.1, vX11_number.2⟩ (ly_is hy 0 11 rfl) (sm_numberx hy hr hI8326 v8339 v8340 (by omega) (by omega) (by omega) (by omega) (by rw [ew8335, ew8336, ew8337, ew8338]; omega)) (Nat.le_of_ble_eq_true rfl) ?_
        intro r I8341 J8342 Ra hq
        obtain ⟨⟨hI8341, ec, fiI8341, ⟨pI8341, sI8341_0_15, sI8341_0_16, sI8341_0_17, sI8341_0_18⟩⟩, v8343, rfl, av8343, bv8343, cv8343⟩ := hq
        show WP _ _ _ _ (.int _ :: _) _ _ _ _
        rw [ec]
        clear ec Ra
        have fr8344 : fz 49 g [0, 29] I I8341 := fz_tr fr8328 (fz_mono fiI8341 (by decide))
        have e8345 : I8341 (ad g 0) 15 = w8274 := by rw [sI8341_0_15]; exact e8330
        have e8346 : I8341 (ad g 0) 16 = v8287 := by rw [sI8341_0_16]; exact e8331
        have e8347 : I8341 (ad g 0) 17 = w8275 := by rw [sI8341_0_17]; exact e8332
        have e8348 : I8341 (ad g 0) 1 = L := hI8341.1.2
        have b8349 := BT_get hI8341.1.1 0 1 2 (0) (0) (900) (by decide) 1 (by decide) (by decide)
        rw [e8348] at b8349
        obtain ⟨w8350, ew8350⟩ : ∃ w : Int32, I8341 (ad g 0) 2 = w := ⟨_, rfl⟩
        have bw8350 := BT_get hI8341.1.1 0 2 3 (0) (0) (900) (by decide) 2 (by decide) (by decide)
        rw [ew8350] at bw8350
        obtain ⟨w8351, ew8351⟩ : ∃ w : Int32, I8341 (ad g 0) 3 = w := ⟨_, rfl⟩
        have bw8351 := BT_get hI8341.1.1 0 3 4 (0) (0) (900) (by decide) 3 (by decide) (by decide)
        rw [ew8351] at bw8351
        obtain ⟨w8352, ew8352⟩ : ∃ w : Int32, I8341 (ad g 0) 4 = w := ⟨_, rfl⟩
        have bw8352 := BT_get hI8341.1.1 0 4 5 (0) (0) (900) (by decide) 4 (by decide) (by decide)
        rw [ew8352] at bw8352
        obtain ⟨w8353, ew8353⟩ : ∃ w : Int32, I8341 (ad g 0) 5 = w := ⟨_, rfl⟩
        have bw8353 := BT_get hI8341.1.1 0 5 6 (0) (0) (4) (by decide) 5 (by decide) (by decide)
        rw [ew8353] at bw8353
        rw [ew8350, ew8351, ew8352, ew8353, ew8336] at pI8341
        obtain ⟨w8354, ew8354⟩ : ∃ w : Int32, I8341 (ad g 0) 7 = w := ⟨_, rfl⟩
        have bw8354 := BT_get hI8341.1.1 0 7 8 (-1) (0) (1000) (by decide) 7 (by decide) (by decide)
        rw [ew8354] at bw8354
        rw [ew8354] at cv8343
        refine WQ_if_ne 81 dX11_readMakes_76 rfl (fun c8354 => ?_) (fun c8354 => ?_)
        · refine WP_aload_n dX11_readMakes_81 rfl ?_
          refine WP_getr dX11_readMakes_82 fX11_144 rfl (ly_is hy 0 11 rfl) (rf hr 0 47 29 (by decide)) ?_
          refine WP_iload_n dX11_readMakes_85 rfl ?_
          refine WP_aload_n dX11_readMakes_86 rfl ?_
          refine WQ_getim dX11_readMakes_87 fX11_56 rfl (ly_is hy 0 11 rfl) ew8354 ?_
          refine WQ_iast dX11_readMakes_90 (ly_is hy 29 13 rfl) (ly_n hy 29 21 rfl) (by omega) (by omega) (fun I8356 eI8356 => ?_)
          have hI8356 : MP g n L I8356 := by rw [eI8356]; exact (mp_w hy hI8341 (c := 29) (mi_r hy hI8341.1 (c := 29) (-1) (0) (999) (by decide) (Or.inl (by decide)) (by decide) (by omega) (by omega)) (by decide) (by decide) (Or.inl (by decide)))
          have e8357 : I8356 (ad g 0) 15 = w8274 := by rw [eI8356, pp_ne _ _ (Or.inl (ly_ne hy (by decide) (by decide) (by decide)))]; exact e8345
          have e8358 : I8356 (ad g 0) 16 = v8287 := by rw [eI8356, pp_ne _ _ (Or.inl (ly_ne hy (by decide) (by decide) (by decide)))]; exact e8346
          have e8359 : I8356 (ad g 0) 17 = w8275 := by rw [eI8356, pp_ne _ _ (Or.inl (ly_ne hy (by decide) (by decide) (by decide)))]; exact e8347
          have e8360 : I8356 (ad g 0) 1 = L := by rw [eI8356, pp_ne _ _ (Or.inl (ly_ne hy (by decide) (by decide) (by decide)))]; exact e8348
          have e8361 : I8356 (ad g 0) 2 = w8350 := by rw [eI8356, pp_ne _ _ (Or.inl (ly_ne hy (by decide) (by decide) (by decide)))]; exact ew8350
          have e8362 : I8356 (ad g 0) 3 = w8351 := by rw [eI8356, pp_ne _ _ (Or.inl (ly_ne hy (by decide) (by decide) (by decide)))]; exact ew8351
          have e8363 : I8356 (ad g 0) 4 = w8352 := by rw [eI8356, pp_ne _ _ (Or.inl (ly_ne hy (by decide) (by decide) (by decide)))]; exact ew8352
          have e8364 : I8356 (ad g 0) 5 = w8353 := by rw [eI8356, pp_ne _ _ (Or.inl (ly_ne hy (by decide) (by decide) (by decide)))]; exact ew8353
          have e8365 : I8356 (ad g 0) 7 = w8354 := by rw [eI8356, pp_ne _ _ (Or.inl (ly_ne hy (by decide) (by decide) (by decide)))]; exact ew8354
          have fr8366 : fz 49 g [0, 29] I I8356 := by rw [eI8356]; exact fzm_pp hy fr8344 (by decide) (by decide)
          clear eI8356
          refine WQ_iconst (1) (1) dX11_readMakes_91 rfl rfl (fun v8367 hv8367 => ?_)
          exact WP_zret dX11_readMakes_92 rfl (nar_z (by omega)) ⟨⟨hI8356, rfl, fr8366, (by rw [e8361, e8362, e8363, e8364, e8357, e8359, ew8271]; omega)⟩, _, rfl, by omega, by omega, (fun _ => by rw [fz_at fr8366 30 (by decide) (by decide), fz_at fr8366 31 (by decide) (by decide), show I8356 (ad g 0) 15 = I (ad g 0) 15 from (by rw [e8357, ew8274] <;> exact (eq32 _ _).mpr (by omega))]; exact hw)⟩
        · refine WQ_iconst (0) (0) dX11_readMakes_79 rfl rfl (fun v8368 hv8368 => ?_)
          exact WP_zret dX11_readMakes_80 rfl (nar_z (by omega)) ⟨⟨hI8341, rfl, fr8344, (by rw [ew8350, ew8351, ew8352, ew8353, e8345, e8347, ew8271]; omega)⟩, _, rfl, by omega, by omega, (fun h => False.elim (by omega))⟩
      · refine WP_aload_n dX11_readMakes_58 rfl ?_
        refine WQ_iconst (3) (3) dX11_readMakes_59 rfl rfl (fun v8369 hv8369 => ?_)
        refine WP_callV1 (k := 11) dX11_readMakes_60 ⟨⟨⟨by decide, by decide⟩, zX11_bad⟩, lX11_49, by decide, rfl, vX11_bad.1, vX11_bad.2⟩ (ly_is hy 0 11 rfl) (sm_badx hy hr hI8305 v8369  (by rw [ew8314, ew8315, ew8316, ew8317]; omega)) (Nat.le_of_ble_eq_true rfl) ?_
        intro r I8370 J8371 Ra hq
        obtain ⟨⟨hI8370, ec, fiI8370, ⟨pI8370, sI8370_0_15, sI8370_0_16, sI8370_0_17, sI8370_0_18⟩⟩, v8372, rfl, av8372, bv8372⟩ := hq
        show WP _ _ _ _ (.int _ :: _) _ _ _ _
        rw [ec]
        clear ec Ra
        have fr8373 : fz 49 g [0, 29] I I8370 := fz_tr fr8308 (fz_mono fiI8370 (by decide))
        have e8374 : I8370 (ad g 0) 15 = w8274 := by rw [sI8370_0_15]; exact e8309
        have e8375 : I8370 (ad g 0) 16 = v8287 := by rw [sI8370_0_16]; exact e8310
        have e8376 : I8370 (ad g 0) 17 = w8275 := by rw [sI8370_0_17]; exact e8311
        have e8377 : I8370 (ad g 0) 1 = L := hI8370.1.2
        have b8378 := BT_get hI8370.1.1 0 1 2 (0) (0) (900) (by decide) 1 (by decide) (by decide)
        rw [e8377] at b8378
        obtain ⟨w8379, ew8379⟩ : ∃ w : Int32, I8370 (ad g 0) 2 = w := ⟨_, rfl⟩
        have bw8379 := BT_get hI8370.1.1 0 2 3 (0) (0) (900) (by decide) 2 (by decide) (by decide)
        rw [ew8379] at bw8379
        obtain ⟨w8380, ew8380⟩ : ∃ w : Int32, I8370 (ad g 0) 3 = w := ⟨_, rfl⟩
        have bw8380 := BT_get hI8370.1.1 0 3 4 (0) (0) (900) (by decide) 3 (by decide) (by decide)
        rw [ew8380] at bw8380
        obtain ⟨w8381, ew8381⟩ : ∃ w : Int32, I8370 (ad g 0) 4 = w := ⟨_, rfl⟩
        have bw8381 := BT_get hI8370.1.1 0 4 5 (0) (0) (900) (by decide) 4 (by decide) (by decide)
        rw [ew8381] at bw8381
        obtain ⟨w8382, ew8382⟩ : ∃ w : Int32, I8370 (ad g 0) 5 = w := ⟨_, rfl⟩
        have bw8382 := BT_get hI8370.1.1 0 5 6 (0) (0) (4) (by decide) 5 (by decide) (by decide)
        rw [ew8382] at bw8382
        rw [ew8379, ew8380, ew8381, ew8382, ew8315] at pI8370
        exact WP_zret dX11_readMakes_63 rfl (nar_z (by omega)) ⟨⟨hI8370, rfl, fr8373, (by rw [ew8379, ew8380, ew8381, ew8382, e8374, e8376, ew8271]; omega)⟩, _, rfl, by omega, by omega, (fun h => False.elim (by omega))⟩
    · refine WQ_iconst (0) (0) dX11_readMakes_36 rfl rfl (fun v8383 hv8383 => ?_)
      exact WP_zret dX11_readMakes_37 rfl (nar_z (by omega)) ⟨⟨hI8305, rfl, fr8308, (by rw [ew8314, ew8315, ew8316, ew8317, e8309, e8311, ew8271]; omega)⟩, _, rfl, by omega, by omega, (fun h => False.elim (by omega))⟩
  · refine WQ_iconst (0) (0) dX11_readMakes_19 rfl rfl (fun v8384 hv8384 => ?_)
    exact WP_zret dX11_readMakes_20 rfl (nar_z (by omega)) ⟨⟨hI8288, rfl, fr8291, (by rw [ew8297, ew8298, ew8299, ew8300, e8292, e8294, ew8271]; omega)⟩, _, rfl, by omega, by omega, (fun h => False.elim (by omega))⟩
set_option maxHeartbeats 4000000 in
set_option maxRecDepth 100000 in
theorem sm_readIllsx {g : GG} {n : Int} {L : Int32} (hy : Ly g)  {I : pI} {J : pJ} {R : pR} (hr : Rf g R) (hI : MP g n L I)   (hb : ((I (ad g 0) 4).toInt ≤ (I (ad g 0) 2).toInt ∧ (I (ad g 0) 3).toInt ≤ (I (ad g 0) 4).toInt ∧ ((I (ad g 0) 5).toInt = 0 ∨ (I (ad g 0) 3).toInt < (I (ad g 0) 4).toInt)) ∧ (I (ad g 0) 17).toInt < (I (ad g 0) 15).toInt) (hw : WRt (I (ad g 30)) (I (ad g 31)) (7 * (I (ad g 0) 15).toInt)) : SP g mX11_readIlls [.ref (ad g 0)] I J R (fun r I' J' R' => (MP g n L I' ∧ R' = R ∧ fz 49 g [0, 17] I I' ∧ (((I' (ad g 0) 4).toInt ≤ (I' (ad g 0) 2).toInt ∧ (I' (ad g 0) 3).toInt ≤ (I' (ad g 0) 4).toInt ∧ ((I' (ad g 0) 5).toInt = 0 ∨ (I' (ad g 0) 3).toInt < (I' (ad g 0) 4).toInt)) ∧ (I (ad g 0) 3).toInt ≤ (I' (ad g 0) 3).toInt ∧ (I' (ad g 0) 17).toInt < (I' (ad g 0) 15).toInt)) ∧ ∃ v : Int32, r = some (.int v) ∧ 0 ≤ v.toInt ∧ v.toInt ≤ 1 ∧ (v.toInt = 1 → WRt (I' (ad g 30)) (I' (ad g 31)) (7 * (I' (ad g 0) 15).toInt))) := by
  refine SP_of ⟨by decide, rfl⟩ (Nat.le_of_ble_eq_true rfl) ?_
  have e8385 : I (ad g 0) 1 = L := hI.1.2
  have b8386 := BT_get hI.1.1 0 1 2 (0) (0) (900) (by decide) 1 (by decide) (by decide)
  rw [e8385] at b8386
  have fr0 : fz 49 g [0, 17] I I := fz_rf
  obtain ⟨w8387, ew8387⟩ : ∃ w : Int32, I (ad g 0) 2 = w := ⟨_, rfl⟩
  have bw8387 := BT_get hI.1.1 0 2 3 (0) (0) (900) (by decide) 2 (by decide) (by decide)
  rw [ew8387] at bw8387
  obtain ⟨w8388, ew8388⟩ : ∃ w : Int32, I (ad g 0) 3 = w := ⟨_, rfl⟩
  have bw8388 := BT_get hI.1.1 0 3 4 (0) (0) (900) (by decide) 3 (by decide) (by decide)
  rw [ew8388] at bw8388
  obtain ⟨w8389, ew8389⟩ : ∃ w : Int32, I (ad g 0) 4 = w := ⟨_, rfl⟩
  have bw8389 := BT_get hI.1.1 0 4 5 (0) (0) (900) (by decide) 4 (by decide) (by decide)
  rw [ew8389] at bw8389
  obtain ⟨w8390, ew8390⟩ : ∃ w : Int32, I (ad g 0) 5 = w := ⟨_, rfl⟩
  have bw8390 := BT_get hI.1.1 0 5 6 (0) (0) (4) (by decide) 5 (by decide) (by decide)
  rw [ew8390] at bw8390
  obtain ⟨w8391, ew8391⟩ : ∃ w : Int32, I (ad g 0) 15 = w := ⟨_, rfl⟩
  have bw8391 := BT_get hI.1.1 0 15 16 (0) (0) (4) (by decide) 15 (by decide) (by decide)
  rw [ew8391] at bw8391
  obtain ⟨w8392, ew8392⟩ : ∃ w : Int32, I (ad g 0) 17 = w := ⟨_, rfl⟩
  have bw8392 := BT_get hI.1.1 0 17 18 (-1) (0) (3) (by decide) 17 (by decide) (by decide)
  rw [ew8392] at bw8392
  rw [ew8387, ew8388, ew8389, ew8390, ew8391, ew8392] at hb
  refine WP_aload_n dX11_readIlls_0 rfl ?_
  refine WP_callV0 (k := 11) dX11_readIlls_1 ⟨⟨⟨by decide, by decide⟩, zX11_scan⟩, lX11_63, by decide, rfl, vX11_scan.1, vX11_scan.2⟩ (ly_is hy 0 11 rfl) (sm_scanx hy hr hI   (by rw [ew8389, ew8387]; omega)) (Nat.le_of_ble_eq_true rfl) ?_
  intro r I8393 J8394 Ra hq
  obtain ⟨⟨hI8393, ec, fiI8393, ⟨pI8393, sI8393_0_7, sI8393_0_15, sI8393_0_16, sI8393_0_17, sI8393_0_18⟩⟩, rfl⟩ := hq
  rw [ec]
  clear ec Ra
  have fr8395 : fz 49 g [0, 17] I I8393 := fz_tr fr0 (fz_mono fiI8393 (by decide))
  have e8396 : I8393 (ad g 0) 15 = w8391 := by rw [sI8393_0_15]; exact ew8391
  have e8397 : I8393 (ad g 0) 17 = w8392 := by rw [sI8393_0_17]; exact ew8392
  have e8398 : I8393 (ad g 0) 1 = L := hI8393.1.2
  have b8399 := BT_get hI8393.1.1 0 1 2 (0) (0) (900) (by decide) 1 (by decide) (by decide)
  rw [e8398] at b8399
  obtain ⟨w8400, ew8400⟩ : ∃ w : Int32, I8393 (ad g 0) 2 = w := ⟨_, rfl⟩
  have bw8400 := BT_get hI8393.1.1 0 2 3 (0) (0) (900) (by decide) 2 (by decide) (by decide)
  rw [ew8400] at bw8400
  obtain ⟨w8401, ew8401⟩ : ∃ w : Int32, I8393 (ad g 0) 3 = w := ⟨_, rfl⟩
  have bw8401 := BT_get hI8393.1.1 0 3 4 (0) (0) (900) (by decide) 3 (by decide) (by decide)
  rw [ew8401] at bw8401
  obtain ⟨w8402, ew8402⟩ : ∃ w : Int32, I8393 (ad g 0) 4 = w := ⟨_, rfl⟩
  have bw8402 := BT_get hI8393.1.1 0 4 5 (0) (0) (900) (by decide) 4 (by decide) (by decide)
  rw [ew8402] at bw8402
  obtain ⟨w8403, ew8403⟩ : ∃ w : Int32, I8393 (ad g 0) 5 = w := ⟨_, rfl⟩
  have bw8403 := BT_get hI8393.1.1 0 5 6 (0) (0) (4) (by decide) 5 (by decide) (by decide)
  rw [ew8403] at bw8403
  rw [ew8400, ew8401, ew8402, ew8403, ew8389] at pI8393
  refine WP_aload_n dX11_readIlls_4 rfl ?_
  refine WQ_getim dX11_readIlls_5 fX11_27 rfl (ly_is hy 0 11 rfl) ew8403 ?_
  refine WQ_iconst (1) (1) dX11_readIlls_8 rfl rfl (fun v8404 hv8404 => ?_)
  refine WQ_icmp_eq 18 dX11_readIlls_9 rfl (fun c8404 => ?_) (fun c8404 => ?_)
  · refine WP_aload_n dX11_readIlls_18 rfl ?_
    refine WP_aload_n dX11_readIlls_19 rfl ?_
    refine WP_getr dX11_readIlls_20 fX11_91 rfl (ly_is hy 0 11 rfl) (rf hr 0 22 4 (by decide)) ?_
    refine WP_aload_n dX11_readIlls_23 rfl ?_
    refine WQ_getim dX11_readIlls_24 fX11_88 rfl (ly_is hy 0 11 rfl) e8396 ?_
    refine WP_callV2 (k := 11) dX11_readIlls_27 ⟨⟨⟨by decide, by decide⟩, zX11_find⟩, lX11_71, by decide, rfl, vX11_find.1, vX11_find.2⟩ (ly_is hy 0 11 rfl) (sm_find_4 hy hr hI8393 w8391 (by omega) (by omega)) (Nat.le_of_ble_eq_true rfl) ?_
    intro r Ia Ja Ra hq
    obtain ⟨⟨ea, eb, ec⟩, v8406, rfl, av8406, bv8406, cv8406⟩ := hq
    show WP _ _ _ _ (.int _ :: _) _ _ _ _
    rw [ea, eb, ec]
    clear ea eb ec Ia Ja Ra
    refine WP_istore_n (ls' := [(0, _), (1, _)]) dX11_readIlls_30 (by decide) rfl ?_
    refine WP_iload_n dX11_readIlls_31 rfl ?_
    refine WQ_iconst (-1) (-1) dX11_readIlls_32 rfl rfl (fun v8407 hv8407 => ?_)
    refine WQ_icmp_eq 51 dX11_readIlls_33 rfl (fun c8407 => ?_) (fun c8407 => ?_)
    · refine WP_iload_n dX11_readIlls_51 rfl ?_
      refine WQ_iconst (-1) (-1) dX11_readIlls_52 rfl rfl (fun v8409 hv8409 => ?_)
      refine WQ_icmp_ne 62 dX11_readIlls_53 rfl (fun c8409 => False.elim (by omega)) (fun c8409 => ?_)
      refine WP_aload_n dX11_readIlls_56 rfl ?_
      refine WQ_iconst (5) (5) dX11_readIlls_57 rfl rfl (fun v8411 hv8411 => ?_)
      refine WP_callV1 (k := 11) dX11_readIlls_58 ⟨⟨⟨by decide, by decide⟩, zX11_bad⟩, lX11_49, by decide, rfl, vX11_bad.1, vX11_bad.2⟩ (ly_is hy 0 11 rfl) (sm_badx hy hr hI8393 v8411  (by rw [ew8400, ew8401, ew8402, ew8403]; omega)) (Nat.le_of_ble_eq_true rfl) ?_
      intro r I8412 J8413 Ra hq
      obtain ⟨⟨hI8412, ec, fiI8412, ⟨pI8412, sI8412_0_15, sI8412_0_16, sI8412_0_17, sI8412_0_18⟩⟩, v8414, rfl, av8414, bv8414⟩ := hq
      show WP _ _ _ _ (.int _ :: _) _ _ _ _
      rw [ec]
      clear ec Ra
      have fr8415 : fz 49 g [0, 17] I I8412 := fz_tr fr8395 (fz_mono fiI8412 (by decide))
      have e8416 : I8412 (ad g 0) 15 = w8391 := by rw [sI8412_0_15]; exact e8396
      have e8417 : I8412 (ad g 0) 17 = w8392 := by rw [sI8412_0_17]; exact e8397
      have e8418 : I8412 (ad g 0) 1 = L := hI8412.1.2
      have b8419 := BT_get hI8412.1.1 0 1 2 (0) (0) (900) (by decide) 1 (by decide) (by decide)
      rw [e8418] at b8419
      obtain ⟨w8420, ew8420⟩ : ∃ w : Int32, I8412 (ad g 0) 2 = w := ⟨_, rfl⟩
      have bw8420 := BT_get hI8412.1.1 0 2 3 (0) (0) (900) (by decide) 2 (by decide) (by decide)
      rw [ew8420] at bw8420
      obtain ⟨w8421, ew8421⟩ : ∃ w : Int32, I8412 (ad g 0) 3 = w := ⟨_, rfl⟩
      have bw8421 := BT_get hI8412.1.1 0 3 4 (0) (0) (900) (by decide) 3 (by decide) (by decide)
      rw [ew8421] at bw8421
      obtain ⟨w8422, ew8422⟩ : ∃ w : Int32, I8412 (ad g 0) 4 = w := ⟨_, rfl⟩
      have bw8422 := BT_get hI8412.1.1 0 4 5 (0) (0) (900) (by decide) 4 (by decide) (by decide)
      rw [ew8422] at bw8422
      obtain ⟨w8423, ew8423⟩ : ∃ w : Int32, I8412 (ad g 0) 5 = w := ⟨_, rfl⟩
      have bw8423 := BT_get hI8412.1.1 0 5 6 (0) (0) (4) (by decide) 5 (by decide) (by decide)
      rw [ew8423] at bw8423
      rw [ew8420, ew8421, ew8422, ew8423, ew8401] at pI8412
      exact WP_zret dX11_readIlls_61 rfl (nar_z (by omega)) ⟨⟨hI8412, rfl, fr8415, (by rw [ew8420, ew8421, ew8422, ew8423, e8416, e8417, ew8388]; omega)⟩, _, rfl, by omega, by omega, (fun h => False.elim (by omega))⟩
    · refine WP_aload_n dX11_readIlls_36 rfl ?_
      refine WP_getr dX11_readIlls_37 fX11_108 rfl (ly_is hy 0 11 rfl) (rf hr 0 35 17 (by decide)) ?_
      refine WP_iload_n dX11_readIlls_40 rfl ?_
      refine WQ_iald dX11_readIlls_41 (ly_is hy 17 13 rfl) (ly_n hy 17 4 rfl) (by omega) (by omega) (fun q hq => BT_get hI8393.1.1 17 0 4 (0) (0) (127) (by decide) q (Nat.zero_le _) hq) (fun v8424 av8424 bv8424 ev8424 => ?_)
      clear ev8424
      refine WQ_if_eq 51 dX11_readIlls_42 rfl (fun c8424 => ?_) (fun c8424 => ?_)
      · refine WP_iload_n dX11_readIlls_51 rfl ?_
        refine WQ_iconst (-1) (-1) dX11_readIlls_52 rfl rfl (fun v8426 hv8426 => ?_)
        refine WQ_icmp_ne 62 dX11_readIlls_53 rfl (fun c8426 => ?_) (fun c8426 => False.elim (by omega))
        refine WP_aload_n dX11_readIlls_62 rfl ?_
        refine WP_callV0 (k := 11) dX11_readIlls_63 ⟨⟨⟨by decide, by decide⟩, zX11_scan⟩, lX11_63, by decide, rfl, vX11_scan.1, vX11_scan.2⟩ (ly_is hy 0 11 rfl) (sm_scanx hy hr hI8393   (by rw [ew8402, ew8400]; omega)) (Nat.le_of_ble_eq_true rfl) ?_
        intro r I8428 J8429 Ra hq
        obtain ⟨⟨hI8428, ec, fiI8428, ⟨pI8428, sI8428_0_7, sI8428_0_15, sI8428_0_16, sI8428_0_17, sI8428_0_18⟩⟩, rfl⟩ := hq
        rw [ec]
        clear ec Ra
        have fr8430 : fz 49 g [0, 17] I I8428 := fz_tr fr8395 (fz_mono fiI8428 (by decide))
        have e8431 : I8428 (ad g 0) 15 = w8391 := by rw [sI8428_0_15]; exact e8396
        have e8432 : I8428 (ad g 0) 17 = w8392 := by rw [sI8428_0_17]; exact e8397
        have e8433 : I8428 (ad g 0) 1 = L := hI8428.1.2
        have b8434 := BT_get hI8428.1.1 0 1 2 (0) (0) (900) (by decide) 1 (by decide) (by decide)
        rw [e8433] at b8434
        obtain ⟨w8435, ew8435⟩ : ∃ w : Int32, I8428 (ad g 0) 2 = w := ⟨_, rfl⟩
        have bw8435 := BT_get hI8428.1.1 0 2 3 (0) (0) (900) (by decide) 2 (by decide) (by decide)
        rw [ew8435] at bw8435
        obtain ⟨w8436, ew8436⟩ : ∃ w : Int32, I8428 (ad g 0) 3 = w := ⟨_, rfl⟩
        have bw8436 := BT_get hI8428.1.1 0 3 4 (0) (0) (900) (by decide) 3 (by decide) (by decide)
        rw [ew8436] at bw8436
        obtain ⟨w8437, ew8437⟩ : ∃ w : Int32, I8428 (ad g 0) 4 = w := ⟨_, rfl⟩
        have bw8437 := BT_get hI8428.1.1 0 4 5 (0) (0) (900) (by decide) 4 (by decide) (by decide)
        rw [ew8437] at bw8437
        obtain ⟨w8438, ew8438⟩ : ∃ w : Int32, I8428 (ad g 0) 5 = w := ⟨_, rfl⟩
        have bw8438 := BT_get hI8428.1.1 0 5 6 (0) (0) (4) (by decide) 5 (by decide) (by decide)
        rw [ew8438] at bw8438
        rw [ew8435, ew8436, ew8437, ew8438, ew8402] at pI8428
        refine WP_aload_n dX11_readIlls_66 rfl ?_
        refine WQ_iconst (1) (1) dX11_readIlls_67 rfl rfl (fun v8439 hv8439 => ?_)
        refine WQ_bipush (127) (127) dX11_readIlls_68 rfl rfl (fun v8440 hv8440 => ?_)
        refine WP_callV2 (k := 11) dX11_readIlls_70 ⟨⟨⟨by decide, by decide⟩, zX11_number⟩, lX11_81, by decide, rfl, vX11_number.1, vX11_number.2⟩ (ly_is hy 0 11 rfl) (sm_numberx hy hr hI8428 v8439 v8440 (by omega) (by omega) (by omega) (by omega) (by rw [ew8435, ew8436, ew8437, ew8438]; omega)) (Nat.le_of_ble_eq_true rfl) ?_
        intro r I8441 J8442 Ra hq
        obtain ⟨⟨hI8441, ec, fiI8441, ⟨pI8441, sI8441_0_15, sI8441_0_16, sI8441_0_17, sI8441_0_18⟩⟩, v8443, rfl, av8443, bv8443, cv8443⟩ := hq
        show WP _ _ _ _ (.int _ :: _) _ _ _ _
        rw [ec]
        clear ec Ra
        have fr8444 : fz 49 g [0, 17] I I8441 := fz_tr fr8430 (fz_mono fiI8441 (by decide))
        have e8445 : I8441 (ad g 0) 15 = w8391 := by rw [sI8441_0_15]; exact e8431
        have e8446 : I8441 (ad g 0) 17 = w8392 := by rw [sI8441_0_17]; exact e8432
        have e8447 : I8441 (ad g 0) 1 = L := hI8441.1.2
        have b8448 := BT_get hI8441.1.1 0 1 2 (0) (0) (900) (by decide) 1 (by decide) (by decide)
        rw [e8447] at b8448
        obtain ⟨w8449, ew8449⟩ : ∃ w : Int32, I8441 (ad g 0) 2 = w := ⟨_, rfl⟩
        have bw8449 := BT_get hI8441.1.1 0 2 3 (0) (0) (900) (by decide) 2 (by decide) (by decide)
        rw [ew8449] at bw8449
        obtain ⟨w8450, ew8450⟩ : ∃ w : Int32, I8441 (ad g 0) 3 = w := ⟨_, rfl⟩
        have bw8450 := BT_get hI8441.1.1 0 3 4 (0) (0) (900) (by decide) 3 (by decide) (by decide)
        rw [ew8450] at bw8450
        obtain ⟨w8451, ew8451⟩ : ∃ w : Int32, I8441 (ad g 0) 4 = w := ⟨_, rfl⟩
        have bw8451 := BT_get hI8441.1.1 0 4 5 (0) (0) (900) (by decide) 4 (by decide) (by decide)
        rw [ew8451] at bw8451
        obtain ⟨w8452, ew8452⟩ : ∃ w : Int32, I8441 (ad g 0) 5 = w := ⟨_, rfl⟩
        have bw8452 := BT_get hI8441.1.1 0 5 6 (0) (0) (4) (by decide) 5 (by decide) (by decide)
        rw [ew8452] at bw8452
        rw [ew8449, ew8450, ew8451, ew8452, ew8436] at pI8441
        obtain ⟨w8453, ew8453⟩ : ∃ w : Int32, I8441 (ad g 0) 7 = w := ⟨_, rfl⟩
        have bw8453 := BT_get hI8441.1.1 0 7 8 (-1) (0) (1000) (by decide) 7 (by decide) (by decide)
        rw [ew8453] at bw8453
        rw [ew8453] at cv8443
        refine WQ_if_ne 78 dX11_readIlls_73 rfl (fun c8453 => ?_) (fun c8453 => ?_)
        · refine WP_aload_n dX11_readIlls_78 rfl ?_
          refine WP_getr dX11_readIlls_79 fX11_108 rfl (ly_is hy 0 11 rfl) (rf hr 0 35 17 (by decide)) ?_
          refine WP_iload_n dX11_readIlls_82 rfl ?_
          refine WP_aload_n dX11_readIlls_83 rfl ?_
          refine WQ_getim dX11_readIlls_84 fX11_56 rfl (ly_is hy 0 11 rfl) ew8453 ?_
          refine WQ_iast dX11_readIlls_87 (ly_is hy 17 13 rfl) (ly_n hy 17 4 rfl) (by omega) (by omega) (fun I8455 eI8455 => ?_)
          have hI8455 : MP g n L I8455 := by rw [eI8455]; exact (mp_w hy hI8441 (c := 17) (mi_r hy hI8441.1 (c := 17) (0) (0) (127) (by decide) (Or.inl (by decide)) (by decide) (by omega) (by omega)) (by decide) (by decide) (Or.inl (by decide)))
          have e8456 : I8455 (ad g 0) 15 = w8391 := by rw [eI8455, pp_ne _ _ (Or.inl (ly_ne hy (by decide) (by decide) (by decide)))]; exact e8445
          have e8457 : I8455 (ad g 0) 17 = w8392 := by rw [eI8455, pp_ne _ _ (Or.inl (ly_ne hy (by decide) (by decide) (by decide)))]; exact e8446
          have e8458 : I8455 (ad g 0) 1 = L := by rw [eI8455, pp_ne _ _ (Or.inl (ly_ne hy (by decide) (by decide) (by decide)))]; exact e8447
          have e8459 : I8455 (ad g 0) 2 = w8449 := by rw [eI8455, pp_ne _ _ (Or.inl (ly_ne hy (by decide) (by decide) (by decide)))]; exact ew8449
          have e8460 : I8455 (ad g 0) 3 = w8450 := by rw [eI8455, pp_ne _ _ (Or.inl (ly_ne hy (by decide) (by decide) (by decide)))]; exact ew8450
          have e8461 : I8455 (ad g 0) 4 = w8451 := by rw [eI8455, pp_ne _ _ (Or.inl (ly_ne hy (by decide) (by decide) (by decide)))]; exact ew8451
          have e8462 : I8455 (ad g 0) 5 = w8452 := by rw [eI8455, pp_ne _ _ (Or.inl (ly_ne hy (by decide) (by decide) (by decide)))]; exact ew8452
          have e8463 : I8455 (ad g 0) 7 = w8453 := by rw [eI8455, pp_ne _ _ (Or.inl (ly_ne hy (by decide) (by decide) (by decide)))]; exact ew8453
          have fr8464 : fz 49 g [0, 17] I I8455 := by rw [eI8455]; exact fzm_pp hy fr8444 (by decide) (by decide)
          clear eI8455
          refine WQ_iconst (1) (1) dX11_readIlls_88 rfl rfl (fun v8465 hv8465 => ?_)
          exact WP_zret dX11_readIlls_89 rfl (nar_z (by omega)) ⟨⟨hI8455, rfl, fr8464, (by rw [e8459, e8460, e8461, e8462, e8456, e8457, ew8388]; omega)⟩, _, rfl, by omega, by omega, (fun _ => by rw [fz_at fr8464 30 (by decide) (by decide), fz_at fr8464 31 (by decide) (by decide), show I8455 (ad g 0) 15 = I (ad g 0) 15 from (by rw [e8456, ew8391] <;> exact (eq32 _ _).mpr (by omega))]; exact hw)⟩
        · refine WQ_iconst (0) (0) dX11_readIlls_76 rfl rfl (fun v8466 hv8466 => ?_)
          exact WP_zret dX11_readIlls_77 rfl (nar_z (by omega)) ⟨⟨hI8441, rfl, fr8444, (by rw [ew8449, ew8450, ew8451, ew8452, e8445, e8446, ew8388]; omega)⟩, _, rfl, by omega, by omega, (fun h => False.elim (by omega))⟩
      · refine WP_aload_n dX11_readIlls_45 rfl ?_
        refine WQ_iconst (3) (3) dX11_readIlls_46 rfl rfl (fun v8467 hv8467 => ?_)
        refine WP_callV1 (k := 11) dX11_readIlls_47 ⟨⟨⟨by decide, by decide⟩, zX11_bad⟩, lX11_49, by decide, rfl, vX11_bad.1, vX11_bad.2⟩ (ly_is hy 0 11 rfl) (sm_badx hy hr hI8393 v8467  (by rw [ew8400, ew8401, ew8402, ew8403]; omega)) (Nat.le_of_ble_eq_true rfl) ?_
        intro r I8468 J8469 Ra hq
        obtain ⟨⟨hI8468, ec, fiI8468, ⟨pI8468, sI8468_0_15, sI8468_0_16, sI8468_0_17, sI8468_0_18⟩⟩, v8470, rfl, av8470, bv8470⟩ := hq
        show WP _ _ _ _ (.int _ :: _) _ _ _ _
        rw [ec]
        clear ec Ra
        have fr8471 : fz 49 g [0, 17] I I8468 := fz_tr fr8395 (fz_mono fiI8468 (by decide))
        have e8472 : I8468 (ad g 0) 15 = w8391 := by rw [sI8468_0_15]; exact e8396
        have e8473 : I8468 (ad g 0) 17 = w8392 := by rw [sI8468_0_17]; exact e8397
        have e8474 : I8468 (ad g 0) 1 = L := hI8468.1.2
        have b8475 := BT_get hI8468.1.1 0 1 2 (0) (0) (900) (by decide) 1 (by decide) (by decide)
        rw [e8474] at b8475
        obtain ⟨w8476, ew8476⟩ : ∃ w : Int32, I8468 (ad g 0) 2 = w := ⟨_, rfl⟩
        have bw8476 := BT_get hI8468.1.1 0 2 3 (0) (0) (900) (by decide) 2 (by decide) (by decide)
        rw [ew8476] at bw8476
        obtain ⟨w8477, ew8477⟩ : ∃ w : Int32, I8468 (ad g 0) 3 = w := ⟨_, rfl⟩
        have bw8477 := BT_get hI8468.1.1 0 3 4 (0) (0) (900) (by decide) 3 (by decide) (by decide)
        rw [ew8477] at bw8477
        obtain ⟨w8478, ew8478⟩ : ∃ w : Int32, I8468 (ad g 0) 4 = w := ⟨_, rfl⟩
        have bw8478 := BT_get hI8468.1.1 0 4 5 (0) (0) (900) (by decide) 4 (by decide) (by decide)
        rw [ew8478] at bw8478
        obtain ⟨w8479, ew8479⟩ : ∃ w : Int32, I8468 (ad g 0) 5 = w := ⟨_, rfl⟩
        have bw8479 := BT_get hI8468.1.1 0 5 6 (0) (0) (4) (by decide) 5 (by decide) (by decide)
        rw [ew8479] at bw8479
        rw [ew8476, ew8477, ew8478, ew8479, ew8401] at pI8468
        exact WP_zret dX11_readIlls_50 rfl (nar_z (by omega)) ⟨⟨hI8468, rfl, fr8471, (by rw [ew8476, ew8477, ew8478, ew8479, e8472, e8473, ew8388]; omega)⟩, _, rfl, by omega, by omega, (fun h => False.elim (by omega))⟩
  · refine WP_aload_n dX11_readIlls_12 rfl ?_
    refine WQ_iconst (1) (1) dX11_readIlls_13 rfl rfl (fun v8480 hv8480 => ?_)
    refine WP_callV1 (k := 11) dX11_readIlls_14 ⟨⟨⟨by decide, by decide⟩, zX11_bad⟩, lX11_49, by decide, rfl, vX11_bad.1, vX11_bad.2⟩ (ly_is hy 0 11 rfl) (sm_badx hy hr hI8393 v8480  (by rw [ew8400, ew8401, ew8402, ew8403]; omega)) (Nat.le_of_ble_eq_true rfl) ?_
    intro r I8481 J8482 Ra hq
    obtain ⟨⟨hI8481, ec, fiI8481, ⟨pI8481, sI8481_0_15, sI8481_0_16, sI8481_0_17, sI8481_0_18⟩⟩, v8483, rfl, av8483, bv8483⟩ := hq
    show WP _ _ _ _ (.int _ :: _) _ _ _ _
    rw [ec]
    clear ec Ra
    have fr8484 : fz 49 g [0, 17] I I8481 := fz_tr fr8395 (fz_mono fiI8481 (by decide))
    have e8485 : I8481 (ad g 0) 15 = w8391 := by rw [sI8481_0_15]; exact e8396
    have e8486 : I8481 (ad g 0) 17 = w8392 := by rw [sI8481_0_17]; exact e8397
    have e8487 : I8481 (ad g 0) 1 = L := hI8481.1.2
    have b8488 := BT_get hI8481.1.1 0 1 2 (0) (0) (900) (by decide) 1 (by decide) (by decide)
    rw [e8487] at b8488
    obtain ⟨w8489, ew8489⟩ : ∃ w : Int32, I8481 (ad g 0) 2 = w := ⟨_, rfl⟩
    have bw8489 := BT_get hI8481.1.1 0 2 3 (0) (0) (900) (by decide) 2 (by decide) (by decide)
    rw [ew8489] at bw8489
    obtain ⟨w8490, ew8490⟩ : ∃ w : Int32, I8481 (ad g 0) 3 = w := ⟨_, rfl⟩
    have bw8490 := BT_get hI8481.1.1 0 3 4 (0) (0) (900) (by decide) 3 (by decide) (by decide)
    rw [ew8490] at bw8490
    obtain ⟨w8491, ew8491⟩ : ∃ w : Int32, I8481 (ad g 0) 4 = w := ⟨_, rfl⟩
    have bw8491 := BT_get hI8481.1.1 0 4 5 (0) (0) (900) (by decide) 4 (by decide) (by decide)
    rw [ew8491] at bw8491
    obtain ⟨w8492, ew8492⟩ : ∃ w : Int32, I8481 (ad g 0) 5 = w := ⟨_, rfl⟩
    have bw8492 := BT_get hI8481.1.1 0 5 6 (0) (0) (4) (by decide) 5 (by decide) (by decide)
    rw [ew8492] at bw8492
    rw [ew8489, ew8490, ew8491, ew8492, ew8401] at pI8481
    exact WP_zret dX11_readIlls_17 rfl (nar_z (by omega)) ⟨⟨hI8481, rfl, fr8484, (by rw [ew8489, ew8490, ew8491, ew8492, e8485, e8486, ew8388]; omega)⟩, _, rfl, by omega, by omega, (fun h => False.elim (by omega))⟩
set_option maxHeartbeats 4000000 in
set_option maxRecDepth 100000 in
theorem sm_readSortx {g : GG} {n : Int} {L : Int32} (hy : Ly g)  {I : pI} {J : pJ} {R : pR} (hr : Rf g R) (hI : MP g n L I)   (hb : ((I (ad g 0) 4).toInt ≤ (I (ad g 0) 2).toInt ∧ (I (ad g 0) 3).toInt ≤ (I (ad g 0) 4).toInt ∧ ((I (ad g 0) 5).toInt = 0 ∨ (I (ad g 0) 3).toInt < (I (ad g 0) 4).toInt)) ∧ (I (ad g 0) 17).toInt < (I (ad g 0) 15).toInt) (hw : WRt (I (ad g 30)) (I (ad g 31)) (7 * (I (ad g 0) 15).toInt)) : SP g mX11_readSort [.ref (ad g 0)] I J R (fun r I' J' R' => (MP g n L I' ∧ R' = R ∧ fz 49 g [0, 14, 15, 16, 17, 27, 30, 31, 32, 33] I I' ∧ (((I' (ad g 0) 4).toInt ≤ (I' (ad g 0) 2).toInt ∧ (I' (ad g 0) 3).toInt ≤ (I' (ad g 0) 4).toInt ∧ ((I' (ad g 0) 5).toInt = 0 ∨ (I' (ad g 0) 3).toInt < (I' (ad g 0) 4).toInt)) ∧ (I (ad g 0) 3).toInt ≤ (I' (ad g 0) 3).toInt ∧ (I' (ad g 0) 17).toInt < (I' (ad g 0) 15).toInt)) ∧ ∃ v : Int32, r = some (.int v) ∧ 0 ≤ v.toInt ∧ v.toInt ≤ 1 ∧ (v.toInt = 1 → WRt (I' (ad g 30)) (I' (ad g 31)) (7 * (I' (ad g 0) 15).toInt))) := by
  refine SP_of ⟨by decide, rfl⟩ (Nat.le_of_ble_eq_true rfl) ?_
  have e8493 : I (ad g 0) 1 = L := hI.1.2
  have b8494 := BT_get hI.1.1 0 1 2 (0) (0) (900) (by decide) 1 (by decide) (by decide)
  rw [e8493] at b8494
  have fr0 : fz 49 g [0, 14, 15, 16, 17, 27, 30, 31, 32, 33] I I := fz_rf
  obtain ⟨w8495, ew8495⟩ : ∃ w : Int32, I (ad g 0) 2 = w := ⟨_, rfl⟩
  have bw8495 := BT_get hI.1.1 0 2 3 (0) (0) (900) (by decide) 2 (by decide) (by decide)
  rw [ew8495] at bw8495
  obtain ⟨w8496, ew8496⟩ : ∃ w : Int32, I (ad g 0) 3 = w := ⟨_, rfl⟩
  have bw8496 := BT_get hI.1.1 0 3 4 (0) (0) (900) (by decide) 3 (by decide) (by decide)
  rw [ew8496] at bw8496
  obtain ⟨w8497, ew8497⟩ : ∃ w : Int32, I (ad g 0) 4 = w := ⟨_, rfl⟩
  have bw8497 := BT_get hI.1.1 0 4 5 (0) (0) (900) (by decide) 4 (by decide) (by decide)
  rw [ew8497] at bw8497
  obtain ⟨w8498, ew8498⟩ : ∃ w : Int32, I (ad g 0) 5 = w := ⟨_, rfl⟩
  have bw8498 := BT_get hI.1.1 0 5 6 (0) (0) (4) (by decide) 5 (by decide) (by decide)
  rw [ew8498] at bw8498
  obtain ⟨w8499, ew8499⟩ : ∃ w : Int32, I (ad g 0) 15 = w := ⟨_, rfl⟩
  have bw8499 := BT_get hI.1.1 0 15 16 (0) (0) (4) (by decide) 15 (by decide) (by decide)
  rw [ew8499] at bw8499
  obtain ⟨w8500, ew8500⟩ : ∃ w : Int32, I (ad g 0) 17 = w := ⟨_, rfl⟩
  have bw8500 := BT_get hI.1.1 0 17 18 (-1) (0) (3) (by decide) 17 (by decide) (by decide)
  rw [ew8500] at bw8500
  rw [ew8495, ew8496, ew8497, ew8498, ew8499, ew8500] at hb
  refine WP_aload_n dX11_readSort_0 rfl ?_
  refine WQ_getim dX11_readSort_1 fX11_88 rfl (ly_is hy 0 11 rfl) ew8499 ?_
  refine WQ_iconst (4) (4) dX11_readSort_4 rfl rfl (fun v8501 hv8501 => ?_)
  refine WQ_icmp_ne 14 dX11_readSort_5 rfl (fun c8501 => ?_) (fun c8501 => ?_)
  · refine WP_aload_n dX11_readSort_14 rfl ?_
    refine WP_callV0 (k := 11) dX11_readSort_15 ⟨⟨⟨by decide, by decide⟩, zX11_scan⟩, lX11_63, by decide, rfl, vX11_scan.1, vX11_scan.2⟩ (ly_is hy 0 11 rfl) (sm_scanx hy hr hI   (by rw [ew8497, ew8495]; omega)) (Nat.le_of_ble_eq_true rfl) ?_
    intro r I8503 J8504 Ra hq
    obtain ⟨⟨hI8503, ec, fiI8503, ⟨pI8503, sI8503_0_7, sI8503_0_15, sI8503_0_16, sI8503_0_17, sI8503_0_18⟩⟩, rfl⟩ := hq
    rw [ec]
    clear ec Ra
    have fr8505 : fz 49 g [0, 14, 15, 16, 17, 27, 30, 31, 32, 33] I I8503 := fz_tr fr0 (fz_mono fiI8503 (by decide))
    have HI8503 := hw
    rw [← fz_at fiI8503 30 (by decide) (by decide), ← fz_at fiI8503 31 (by decide) (by decide)] at HI8503
    have e8506 : I8503 (ad g 0) 15 = w8499 := by rw [sI8503_0_15]; exact ew8499
    have e8507 : I8503 (ad g 0) 17 = w8500 := by rw [sI8503_0_17]; exact ew8500
    have e8508 : I8503 (ad g 0) 1 = L := hI8503.1.2
    have b8509 := BT_get hI8503.1.1 0 1 2 (0) (0) (900) (by decide) 1 (by decide) (by decide)
    rw [e8508] at b8509
    obtain ⟨w8510, ew8510⟩ : ∃ w : Int32, I8503 (ad g 0) 2 = w := ⟨_, rfl⟩
    have bw8510 := BT_get hI8503.1.1 0 2 3 (0) (0) (900) (by decide) 2 (by decide) (by decide)
    rw [ew8510] at bw8510
    obtain ⟨w8511, ew8511⟩ : ∃ w : Int32, I8503 (ad g 0) 3 = w := ⟨_, rfl⟩
    have bw8511 := BT_get hI8503.1.1 0 3 4 (0) (0) (900) (by decide) 3 (by decide) (by decide)
    rw [ew8511] at bw8511
    obtain ⟨w8512, ew8512⟩ : ∃ w : Int32, I8503 (ad g 0) 4 = w := ⟨_, rfl⟩
    have bw8512 := BT_get hI8503.1.1 0 4 5 (0) (0) (900) (by decide) 4 (by decide) (by decide)
    rw [ew8512] at bw8512
    obtain ⟨w8513, ew8513⟩ : ∃ w : Int32, I8503 (ad g 0) 5 = w := ⟨_, rfl⟩
    have bw8513 := BT_get hI8503.1.1 0 5 6 (0) (0) (4) (by decide) 5 (by decide) (by decide)
    rw [ew8513] at bw8513
    rw [ew8510, ew8511, ew8512, ew8513, ew8497] at pI8503
    refine WP_aload_n dX11_readSort_18 rfl ?_
    refine WQ_getim dX11_readSort_19 fX11_88 rfl (ly_is hy 0 11 rfl) e8506 ?_
    refine WP_istore_n (ls' := [(0, _), (1, _)]) dX11_readSort_22 (by decide) rfl ?_
    refine WP_aload_n dX11_readSort_23 rfl ?_
    refine WP_aload_n dX11_readSort_24 rfl ?_
    refine WP_getr dX11_readSort_25 fX11_91 rfl (ly_is hy 0 11 rfl) (rf hr 0 22 4 (by decide)) ?_
    refine WP_iload_n dX11_readSort_28 rfl ?_
    refine WP_callV2 (k := 11) dX11_readSort_29 ⟨⟨⟨by decide, by decide⟩, zX11_fresh⟩, lX11_95, by decide, rfl, vX11_fresh.1, vX11_fresh.2⟩ (ly_is hy 0 11 rfl) (sm_freshx_4 hy hr hI8503 w8499 (by omega) (by omega) (by rw [ew8510, ew8511, ew8512, ew8513]; omega)) (Nat.le_of_ble_eq_true rfl) ?_
    intro r I8514 J8515 Ra hq
    obtain ⟨⟨hI8514, ec, fiI8514, ⟨pI8514, sI8514_0_15, sI8514_0_16, sI8514_0_17, sI8514_0_18⟩⟩, v8516, rfl, av8516, bv8516⟩ := hq
    show WP _ _ _ _ (.int _ :: _) _ _ _ _
    rw [ec]
    clear ec Ra
    have fr8517 : fz 49 g [0, 14, 15, 16, 17, 27, 30, 31, 32, 33] I I8514 := fz_tr fr8505 (fz_mono fiI8514 (by decide))
    have HI8514 := HI8503
    rw [← fz_at fiI8514 30 (by decide) (by decide), ← fz_at fiI8514 31 (by decide) (by decide)] at HI8514
    have e8518 : I8514 (ad g 0) 15 = w8499 := by rw [sI8514_0_15]; exact e8506
    have e8519 : I8514 (ad g 0) 17 = w8500 := by rw [sI8514_0_17]; exact e8507
    have e8520 : I8514 (ad g 0) 1 = L := hI8514.1.2
    have b8521 := BT_get hI8514.1.1 0 1 2 (0) (0) (900) (by decide) 1 (by decide) (by decide)
    rw [e8520] at b8521
    obtain ⟨w8522, ew8522⟩ : ∃ w : Int32, I8514 (ad g 0) 2 = w := ⟨_, rfl⟩
    have bw8522 := BT_get hI8514.1.1 0 2 3 (0) (0) (900) (by decide) 2 (by decide) (by decide)
    rw [ew8522] at bw8522
    obtain ⟨w8523, ew8523⟩ : ∃ w : Int32, I8514 (ad g 0) 3 = w := ⟨_, rfl⟩
    have bw8523 := BT_get hI8514.1.1 0 3 4 (0) (0) (900) (by decide) 3 (by decide) (by decide)
    rw [ew8523] at bw8523
    obtain ⟨w8524, ew8524⟩ : ∃ w : Int32, I8514 (ad g 0) 4 = w := ⟨_, rfl⟩
    have bw8524 := BT_get hI8514.1.1 0 4 5 (0) (0) (900) (by decide) 4 (by decide) (by decide)
    rw [ew8524] at bw8524
    obtain ⟨w8525, ew8525⟩ : ∃ w : Int32, I8514 (ad g 0) 5 = w := ⟨_, rfl⟩
    have bw8525 := BT_get hI8514.1.1 0 5 6 (0) (0) (4) (by decide) 5 (by decide) (by decide)
    rw [ew8525] at bw8525
    rw [ew8522, ew8523, ew8524, ew8525, ew8511] at pI8514
    refine WQ_if_eq 45 dX11_readSort_32 rfl (fun c8525 => ?_) (fun c8525 => ?_)
    · refine WQ_iconst (0) (0) dX11_readSort_45 rfl rfl (fun v8527 hv8527 => ?_)
      exact WP_zret dX11_readSort_46 rfl (nar_z (by omega)) ⟨⟨hI8514, rfl, fr8517, (by rw [ew8522, ew8523, ew8524, ew8525, e8518, e8519, ew8496]; omega)⟩, _, rfl, by omega, by omega, (fun h => False.elim (by omega))⟩
    · refine WP_aload_n dX11_readSort_35 rfl ?_
      refine WQ_iconst (1) (1) dX11_readSort_36 rfl rfl (fun v8528 hv8528 => ?_)
      refine WQ_bipush (99) (99) dX11_readSort_37 rfl rfl (fun v8529 hv8529 => ?_)
      refine WP_callV2 (k := 11) dX11_readSort_39 ⟨⟨⟨by decide, by decide⟩, zX11_number⟩, lX11_81, by decide, rfl, vX11_number.1, vX11_number.2⟩ (ly_is hy 0 11 rfl) (sm_numberx hy hr hI8514 v8528 v8529 (by omega) (by omega) (by omega) (by omega) (by rw [ew8522, ew8523, ew8524, ew8525]; omega)) (Nat.le_of_ble_eq_true rfl) ?_
      intro r I8530 J8531 Ra hq
      obtain ⟨⟨hI8530, ec, fiI8530, ⟨pI8530, sI8530_0_15, sI8530_0_16, sI8530_0_17, sI8530_0_18⟩⟩, v8532, rfl, av8532, bv8532, cv8532⟩ := hq
      show WP _ _ _ _ (.int _ :: _) _ _ _ _
      rw [ec]
      clear ec Ra
      have fr8533 : fz 49 g [0, 14, 15, 16, 17, 27, 30, 31, 32, 33] I I8530 := fz_tr fr8517 (fz_mono fiI8530 (by decide))
      have HI8530 := HI8514
      rw [← fz_at fiI8530 30 (by decide) (by decide), ← fz_at fiI8530 31 (by decide) (by decide)] at HI8530
      have e8534 : I8530 (ad g 0) 15 = w8499 := by rw [sI8530_0_15]; exact e8518
      have e8535 : I8530 (ad g 0) 17 = w8500 := by rw [sI8530_0_17]; exact e8519
      have e8536 : I8530 (ad g 0) 1 = L := hI8530.1.2
      have b8537 := BT_get hI8530.1.1 0 1 2 (0) (0) (900) (by decide) 1 (by decide) (by decide)
      rw [e8536] at b8537
      obtain ⟨w8538, ew8538⟩ : ∃ w : Int32, I8530 (ad g 0) 2 = w := ⟨_, rfl⟩
      have bw8538 := BT_get hI8530.1.1 0 2 3 (0) (0) (900) (by decide) 2 (by decide) (by decide)
      rw [ew8538] at bw8538
      obtain ⟨w8539, ew8539⟩ : ∃ w : Int32, I8530 (ad g 0) 3 = w := ⟨_, rfl⟩
      have bw8539 := BT_get hI8530.1.1 0 3 4 (0) (0) (900) (by decide) 3 (by decide) (by decide)
      rw [ew8539] at bw8539
      obtain ⟨w8540, ew8540⟩ : ∃ w : Int32, I8530 (ad g 0) 4 = w := ⟨_, rfl⟩
      have bw8540 := BT_get hI8530.1.1 0 4 5 (0) (0) (900) (by decide) 4 (by decide) (by decide)
      rw [ew8540] at bw8540
      obtain ⟨w8541, ew8541⟩ : ∃ w : Int32, I8530 (ad g 0) 5 = w := ⟨_, rfl⟩
      have bw8541 := BT_get hI8530.1.1 0 5 6 (0) (0) (4) (by decide) 5 (by decide) (by decide)
      rw [ew8541] at bw8541
      rw [ew8538, ew8539, ew8540, ew8541, ew8523] at pI8530
      obtain ⟨w8542, ew8542⟩ : ∃ w : Int32, I8530 (ad g 0) 7 = w := ⟨_, rfl⟩
      have bw8542 := BT_get hI8530.1.1 0 7 8 (-1) (0) (1000) (by decide) 7 (by decide) (by decide)
      rw [ew8542] at bw8542
      rw [ew8542] at cv8532
      refine WQ_if_ne 47 dX11_readSort_42 rfl (fun c8542 => ?_) (fun c8542 => ?_)
      · refine WP_aload_n dX11_readSort_47 rfl ?_
        refine WP_getr dX11_readSort_48 fX11_99 rfl (ly_is hy 0 11 rfl) (rf hr 0 32 14 (by decide)) ?_
        refine WP_iload_n dX11_readSort_51 rfl ?_
        refine WP_aload_n dX11_readSort_52 rfl ?_
        refine WQ_getim dX11_readSort_53 fX11_56 rfl (ly_is hy 0 11 rfl) ew8542 ?_
        refine WQ_iast dX11_readSort_56 (ly_is hy 14 13 rfl) (ly_n hy 14 4 rfl) (by omega) (by omega) (fun I8544 eI8544 => ?_)
        have hI8544 : MP g n L I8544 := by rw [eI8544]; exact (mp_w14 hy hI8530 (mi_r hy hI8530.1 (c := 14) (0) (0) (99) (by decide) (Or.inl (by decide)) (by decide) (by omega) (by omega)) (by omega))
        have e8545 : I8544 (ad g 0) 15 = w8499 := by rw [eI8544, pp_ne _ _ (Or.inl (ly_ne hy (by decide) (by decide) (by decide)))]; exact e8534
        have e8546 : I8544 (ad g 0) 17 = w8500 := by rw [eI8544, pp_ne _ _ (Or.inl (ly_ne hy (by decide) (by decide) (by decide)))]; exact e8535
        have e8547 : I8544 (ad g 0) 1 = L := by rw [eI8544, pp_ne _ _ (Or.inl (ly_ne hy (by decide) (by decide) (by decide)))]; exact e8536
        have e8548 : I8544 (ad g 0) 2 = w8538 := by rw [eI8544, pp_ne _ _ (Or.inl (ly_ne hy (by decide) (by decide) (by decide)))]; exact ew8538
        have e8549 : I8544 (ad g 0) 3 = w8539 := by rw [eI8544, pp_ne _ _ (Or.inl (ly_ne hy (by decide) (by decide) (by decide)))]; exact ew8539
        have e8550 : I8544 (ad g 0) 4 = w8540 := by rw [eI8544, pp_ne _ _ (Or.inl (ly_ne hy (by decide) (by decide) (by decide)))]; exact ew8540
        have e8551 : I8544 (ad g 0) 5 = w8541 := by rw [eI8544, pp_ne _ _ (Or.inl (ly_ne hy (by decide) (by decide) (by decide)))]; exact ew8541
        have e8552 : I8544 (ad g 0) 7 = w8542 := by rw [eI8544, pp_ne _ _ (Or.inl (ly_ne hy (by decide) (by decide) (by decide)))]; exact ew8542
        have fr8553 : fz 49 g [0, 14, 15, 16, 17, 27, 30, 31, 32, 33] I I8544 := by rw [eI8544]; exact fzm_pp hy fr8533 (by decide) (by decide)
        have HI8544 := HI8530
        rw [← (show I8544 (ad g 30) = I8530 (ad g 30) by rw [eI8544, pp_off _ _ (ly_ne hy (by decide) (by decide) (by decide))]), ← (show I8544 (ad g 31) = I8530 (ad g 31) by rw [eI8544, pp_off _ _ (ly_ne hy (by decide) (by decide) (by decide))])] at HI8544
        have NI8544 : 1 ≤ (I8544 (ad g 14) w8499.toInt.toNat).toInt := by rw [eI8544, cl (x := w8499) (n := w8499.toInt.toNat) (by omega), pp_self]; omega
        clear eI8544
        refine WP_aload_n dX11_readSort_57 rfl ?_
        refine WQ_iconst (0) (0) dX11_readSort_58 rfl rfl (fun v8554 hv8554 => ?_)
        refine WQ_sipush (1000) (1000) dX11_readSort_59 rfl rfl (fun v8555 hv8555 => ?_)
        refine WP_callV2 (k := 11) dX11_readSort_62 ⟨⟨⟨by decide, by decide⟩, zX11_number⟩, lX11_81, by decide, rfl, vX11_number.1, vX11_number.2⟩ (ly_is hy 0 11 rfl) (sm_numberx hy hr hI8544 v8554 v8555 (by omega) (by omega) (by omega) (by omega) (by rw [e8548, e8549, e8550, e8551]; omega)) (Nat.le_of_ble_eq_true rfl) ?_
        intro r I8556 J8557 Ra hq
        obtain ⟨⟨hI8556, ec, fiI8556, ⟨pI8556, sI8556_0_15, sI8556_0_16, sI8556_0_17, sI8556_0_18⟩⟩, v8558, rfl, av8558, bv8558, cv8558⟩ := hq
        show WP _ _ _ _ (.int _ :: _) _ _ _ _
        rw [ec]
        clear ec Ra
        have fr8559 : fz 49 g [0, 14, 15, 16, 17, 27, 30, 31, 32, 33] I I8556 := fz_tr fr8553 (fz_mono fiI8556 (by decide))
        have HI8556 := HI8544
        rw [← fz_at fiI8556 30 (by decide) (by decide), ← fz_at fiI8556 31 (by decide) (by decide)] at HI8556
        have NI8556 : 1 ≤ (I8556 (ad g 14) w8499.toInt.toNat).toInt := by rw [fz_at fiI8556 14 (by decide) (by decide)]; exact NI8544
        have e8560 : I8556 (ad g 0) 15 = w8499 := by rw [sI8556_0_15]; exact e8545
        have e8561 : I8556 (ad g 0) 17 = w8500 := by rw [sI8556_0_17]; exact e8546
        have e8562 : I8556 (ad g 0) 1 = L := hI8556.1.2
        have b8563 := BT_get hI8556.1.1 0 1 2 (0) (0) (900) (by decide) 1 (by decide) (by decide)
        rw [e8562] at b8563
        obtain ⟨w8564, ew8564⟩ : ∃ w : Int32, I8556 (ad g 0) 2 = w := ⟨_, rfl⟩
        have bw8564 := BT_get hI8556.1.1 0 2 3 (0) (0) (900) (by decide) 2 (by decide) (by decide)
        rw [ew8564] at bw8564
        obtain ⟨w8565, ew8565⟩ : ∃ w : Int32, I8556 (ad g 0) 3 = w := ⟨_, rfl⟩
        have bw8565 := BT_get hI8556.1.1 0 3 4 (0) (0) (900) (by decide) 3 (by decide) (by decide)
        rw [ew8565] at bw8565
        obtain ⟨w8566, ew8566⟩ : ∃ w : Int32, I8556 (ad g 0) 4 = w := ⟨_, rfl⟩
        have bw8566 := BT_get hI8556.1.1 0 4 5 (0) (0) (900) (by decide) 4 (by decide) (by decide)
        rw [ew8566] at bw8566
        obtain ⟨w8567, ew8567⟩ : ∃ w : Int32, I8556 (ad g 0) 5 = w := ⟨_, rfl⟩
        have bw8567 := BT_get hI8556.1.1 0 5 6 (0) (0) (4) (by decide) 5 (by decide) (by decide)
        rw [ew8567] at bw8567
        rw [ew8564, ew8565, ew8566, ew8567, e8549] at pI8556
        obtain ⟨w8568, ew8568⟩ : ∃ w : Int32, I8556 (ad g 0) 7 = w := ⟨_, rfl⟩
        have bw8568 := BT_get hI8556.1.1 0 7 8 (-1) (0) (1000) (by decide) 7 (by decide) (by decide)
        rw [ew8568] at bw8568
        rw [ew8568] at cv8558
        refine WQ_if_ne 70 dX11_readSort_65 rfl (fun c8568 => ?_) (fun c8568 => ?_)
        · refine WP_aload_n dX11_readSort_70 rfl ?_
          refine WP_getr dX11_readSort_71 fX11_102 rfl (ly_is hy 0 11 rfl) (rf hr 0 33 15 (by decide)) ?_
          refine WP_iload_n dX11_readSort_74 rfl ?_
          refine WP_aload_n dX11_readSort_75 rfl ?_
          refine WQ_getim dX11_readSort_76 fX11_56 rfl (ly_is hy 0 11 rfl) ew8568 ?_
          refine WQ_iast dX11_readSort_79 (ly_is hy 15 13 rfl) (ly_n hy 15 4 rfl) (by omega) (by omega) (fun I8570 eI8570 => ?_)
          have hI8570 : MP g n L I8570 := by rw [eI8570]; exact (mp_w hy hI8556 (c := 15) (mi_r hy hI8556.1 (c := 15) (0) (0) (1000) (by decide) (Or.inl (by decide)) (by decide) (by omega) (by omega)) (by decide) (by decide) (Or.inl (by decide)))
          have e8571 : I8570 (ad g 0) 15 = w8499 := by rw [eI8570, pp_ne _ _ (Or.inl (ly_ne hy (by decide) (by decide) (by decide)))]; exact e8560
          have e8572 : I8570 (ad g 0) 17 = w8500 := by rw [eI8570, pp_ne _ _ (Or.inl (ly_ne hy (by decide) (by decide) (by decide)))]; exact e8561
          have e8573 : I8570 (ad g 0) 1 = L := by rw [eI8570, pp_ne _ _ (Or.inl (ly_ne hy (by decide) (by decide) (by decide)))]; exact e8562
          have e8574 : I8570 (ad g 0) 2 = w8564 := by rw [eI8570, pp_ne _ _ (Or.inl (ly_ne hy (by decide) (by decide) (by decide)))]; exact ew8564
          have e8575 : I8570 (ad g 0) 3 = w8565 := by rw [eI8570, pp_ne _ _ (Or.inl (ly_ne hy (by decide) (by decide) (by decide)))]; exact ew8565
          have e8576 : I8570 (ad g 0) 4 = w8566 := by rw [eI8570, pp_ne _ _ (Or.inl (ly_ne hy (by decide) (by decide) (by decide)))]; exact ew8566
          have e8577 : I8570 (ad g 0) 5 = w8567 := by rw [eI8570, pp_ne _ _ (Or.inl (ly_ne hy (by decide) (by decide) (by decide)))]; exact ew8567
          have e8578 : I8570 (ad g 0) 7 = w8568 := by rw [eI8570, pp_ne _ _ (Or.inl (ly_ne hy (by decide) (by decide) (by decide)))]; exact ew8568
          have fr8579 : fz 49 g [0, 14, 15, 16, 17, 27, 30, 31, 32, 33] I I8570 := by rw [eI8570]; exact fzm_pp hy fr8559 (by decide) (by decide)
          have HI8570 := HI8556
          rw [← (show I8570 (ad g 30) = I8556 (ad g 30) by rw [eI8570, pp_off _ _ (ly_ne hy (by decide) (by decide) (by decide))]), ← (show I8570 (ad g 31) = I8556 (ad g 31) by rw [eI8570, pp_off _ _ (ly_ne hy (by decide) (by decide) (by decide))])] at HI8570
          have NI8570 : 1 ≤ (I8570 (ad g 14) w8499.toInt.toNat).toInt := by rw [eI8570, pp_off _ _ (ly_ne hy (by decide) (by decide) (by decide))]; exact NI8556
          clear eI8570
          refine WP_aload_n dX11_readSort_80 rfl ?_
          refine WQ_iconst (0) (0) dX11_readSort_81 rfl rfl (fun v8580 hv8580 => ?_)
          refine WQ_bipush (60) (60) dX11_readSort_82 rfl rfl (fun v8581 hv8581 => ?_)
          refine WP_callV2 (k := 11) dX11_readSort_84 ⟨⟨⟨by decide, by decide⟩, zX11_number⟩, lX11_81, by decide, rfl, vX11_number.1, vX11_number.2⟩ (ly_is hy 0 11 rfl) (sm_numberx hy hr hI8570 v8580 v8581 (by omega) (by omega) (by omega) (by omega) (by rw [e8574, e8575, e8576, e8577]; omega)) (Nat.le_of_ble_eq_true rfl) ?_
          intro r I8582 J8583 Ra hq
          obtain ⟨⟨hI8582, ec, fiI8582, ⟨pI8582, sI8582_0_15, sI8582_0_16, sI8582_0_17, sI8582_0_18⟩⟩, v8584, rfl, av8584, bv8584, cv8584⟩ := hq
          show WP _ _ _ _ (.int _ :: _) _ _ _ _
          rw [ec]
          clear ec Ra
          have fr8585 : fz 49 g [0, 14, 15, 16, 17, 27, 30, 31, 32, 33] I I8582 := fz_tr fr8579 (fz_mono fiI8582 (by decide))
          have HI8582 := HI8570
          rw [← fz_at fiI8582 30 (by decide) (by decide), ← fz_at fiI8582 31 (by decide) (by decide)] at HI8582
          have NI8582 : 1 ≤ (I8582 (ad g 14) w8499.toInt.toNat).toInt := by rw [fz_at fiI8582 14 (by decide) (by decide)]; exact NI8570
          have e8586 : I8582 (ad g 0) 15 = w8499 := by rw [sI8582_0_15]; exact e8571
          have e8587 : I8582 (ad g 0) 17 = w8500 := by rw [sI8582_0_17]; exact e8572
          have e8588 : I8582 (ad g 0) 1 = L := hI8582.1.2
          have b8589 := BT_get hI8582.1.1 0 1 2 (0) (0) (900) (by decide) 1 (by decide) (by decide)
          rw [e8588] at b8589
          obtain ⟨w8590, ew8590⟩ : ∃ w : Int32, I8582 (ad g 0) 2 = w := ⟨_, rfl⟩
          have bw8590 := BT_get hI8582.1.1 0 2 3 (0) (0) (900) (by decide) 2 (by decide) (by decide)
          rw [ew8590] at bw8590
          obtain ⟨w8591, ew8591⟩ : ∃ w : Int32, I8582 (ad g 0) 3 = w := ⟨_, rfl⟩
          have bw8591 := BT_get hI8582.1.1 0 3 4 (0) (0) (900) (by decide) 3 (by decide) (by decide)
          rw [ew8591] at bw8591
          obtain ⟨w8592, ew8592⟩ : ∃ w : Int32, I8582 (ad g 0) 4 = w := ⟨_, rfl⟩
          have bw8592 := BT_get hI8582.1.1 0 4 5 (0) (0) (900) (by decide) 4 (by decide) (by decide)
          rw [ew8592] at bw8592
          obtain ⟨w8593, ew8593⟩ : ∃ w : Int32, I8582 (ad g 0) 5 = w := ⟨_, rfl⟩
          have bw8593 := BT_get hI8582.1.1 0 5 6 (0) (0) (4) (by decide) 5 (by decide) (by decide)
          rw [ew8593] at bw8593
          rw [ew8590, ew8591, ew8592, ew8593, e8575] at pI8582
          obtain ⟨w8594, ew8594⟩ : ∃ w : Int32, I8582 (ad g 0) 7 = w := ⟨_, rfl⟩
          have bw8594 := BT_get hI8582.1.1 0 7 8 (-1) (0) (1000) (by decide) 7 (by decide) (by decide)
          rw [ew8594] at bw8594
          rw [ew8594] at cv8584
          refine WQ_if_ne 92 dX11_readSort_87 rfl (fun c8594 => ?_) (fun c8594 => ?_)
          · refine WP_aload_n dX11_readSort_92 rfl ?_
            refine WP_getr dX11_readSort_93 fX11_105 rfl (ly_is hy 0 11 rfl) (rf hr 0 34 16 (by decide)) ?_
            refine WP_iload_n dX11_readSort_96 rfl ?_
            refine WP_aload_n dX11_readSort_97 rfl ?_
            refine WQ_getim dX11_readSort_98 fX11_56 rfl (ly_is hy 0 11 rfl) ew8594 ?_
            refine WQ_iast dX11_readSort_101 (ly_is hy 16 13 rfl) (ly_n hy 16 4 rfl) (by omega) (by omega) (fun I8596 eI8596 => ?_)
            have hI8596 : MP g n L I8596 := by rw [eI8596]; exact (mp_w hy hI8582 (c := 16) (mi_r hy hI8582.1 (c := 16) (0) (0) (60) (by decide) (Or.inl (by decide)) (by decide) (by omega) (by omega)) (by decide) (by decide) (Or.inl (by decide)))
            have e8597 : I8596 (ad g 0) 15 = w8499 := by rw [eI8596, pp_ne _ _ (Or.inl (ly_ne hy (by decide) (by decide) (by decide)))]; exact e8586
            have e8598 : I8596 (ad g 0) 17 = w8500 := by rw [eI8596, pp_ne _ _ (Or.inl (ly_ne hy (by decide) (by decide) (by decide)))]; exact e8587
            have e8599 : I8596 (ad g 0) 1 = L := by rw [eI8596, pp_ne _ _ (Or.inl (ly_ne hy (by decide) (by decide) (by decide)))]; exact e8588
            have e8600 : I8596 (ad g 0) 2 = w8590 := by rw [eI8596, pp_ne _ _ (Or.inl (ly_ne hy (by decide) (by decide) (by decide)))]; exact ew8590
            have e8601 : I8596 (ad g 0) 3 = w8591 := by rw [eI8596, pp_ne _ _ (Or.inl (ly_ne hy (by decide) (by decide) (by decide)))]; exact ew8591
            have e8602 : I8596 (ad g 0) 4 = w8592 := by rw [eI8596, pp_ne _ _ (Or.inl (ly_ne hy (by decide) (by decide) (by decide)))]; exact ew8592
            have e8603 : I8596 (ad g 0) 5 = w8593 := by rw [eI8596, pp_ne _ _ (Or.inl (ly_ne hy (by decide) (by decide) (by decide)))]; exact ew8593
            have e8604 : I8596 (ad g 0) 7 = w8594 := by rw [eI8596, pp_ne _ _ (Or.inl (ly_ne hy (by decide) (by decide) (by decide)))]; exact ew8594
            have fr8605 : fz 49 g [0, 14, 15, 16, 17, 27, 30, 31, 32, 33] I I8596 := by rw [eI8596]; exact fzm_pp hy fr8585 (by decide) (by decide)
            have HI8596 := HI8582
            rw [← (show I8596 (ad g 30) = I8582 (ad g 30) by rw [eI8596, pp_off _ _ (ly_ne hy (by decide) (by decide) (by decide))]), ← (show I8596 (ad g 31) = I8582 (ad g 31) by rw [eI8596, pp_off _ _ (ly_ne hy (by decide) (by decide) (by decide))])] at HI8596
            have NI8596 : 1 ≤ (I8596 (ad g 14) w8499.toInt.toNat).toInt := by rw [eI8596, pp_off _ _ (ly_ne hy (by decide) (by decide) (by decide))]; exact NI8582
            clear eI8596
            refine WP_aload_n dX11_readSort_102 rfl ?_
            refine WP_getr dX11_readSort_103 fX11_108 rfl (ly_is hy 0 11 rfl) (rf hr 0 35 17 (by decide)) ?_
            refine WP_iload_n dX11_readSort_106 rfl ?_
            refine WQ_iconst (0) (0) dX11_readSort_107 rfl rfl (fun v8606 hv8606 => ?_)
            refine WQ_iast dX11_readSort_108 (ly_is hy 17 13 rfl) (ly_n hy 17 4 rfl) (by omega) (by omega) (fun I8607 eI8607 => ?_)
            have hI8607 : MP g n L I8607 := by rw [eI8607]; exact (mp_w hy hI8596 (c := 17) (mi_r hy hI8596.1 (c := 17) (0) (0) (127) (by decide) (Or.inl (by decide)) (by decide) (by omega) (by omega)) (by decide) (by decide) (Or.inl (by decide)))
            have e8608 : I8607 (ad g 0) 15 = w8499 := by rw [eI8607, pp_ne _ _ (Or.inl (ly_ne hy (by decide) (by decide) (by decide)))]; exact e8597
            have e8609 : I8607 (ad g 0) 17 = w8500 := by rw [eI8607, pp_ne _ _ (Or.inl (ly_ne hy (by decide) (by decide) (by decide)))]; exact e8598
            have e8610 : I8607 (ad g 0) 1 = L := by rw [eI8607, pp_ne _ _ (Or.inl (ly_ne hy (by decide) (by decide) (by decide)))]; exact e8599
            have e8611 : I8607 (ad g 0) 2 = w8590 := by rw [eI8607, pp_ne _ _ (Or.inl (ly_ne hy (by decide) (by decide) (by decide)))]; exact e8600
            have e8612 : I8607 (ad g 0) 3 = w8591 := by rw [eI8607, pp_ne _ _ (Or.inl (ly_ne hy (by decide) (by decide) (by decide)))]; exact e8601
            have e8613 : I8607 (ad g 0) 4 = w8592 := by rw [eI8607, pp_ne _ _ (Or.inl (ly_ne hy (by decide) (by decide) (by decide)))]; exact e8602
            have e8614 : I8607 (ad g 0) 5 = w8593 := by rw [eI8607, pp_ne _ _ (Or.inl (ly_ne hy (by decide) (by decide) (by decide)))]; exact e8603
            have e8615 : I8607 (ad g 0) 7 = w8594 := by rw [eI8607, pp_ne _ _ (Or.inl (ly_ne hy (by decide) (by decide) (by decide)))]; exact e8604
            have fr8616 : fz 49 g [0, 14, 15, 16, 17, 27, 30, 31, 32, 33] I I8607 := by rw [eI8607]; exact fzm_pp hy fr8605 (by decide) (by decide)
            have HI8607 := HI8596
            rw [← (show I8607 (ad g 30) = I8596 (ad g 30) by rw [eI8607, pp_off _ _ (ly_ne hy (by decide) (by decide) (by decide))]), ← (show I8607 (ad g 31) = I8596 (ad g 31) by rw [eI8607, pp_off _ _ (ly_ne hy (by decide) (by decide) (by decide))])] at HI8607
            have NI8607 : 1 ≤ (I8607 (ad g 14) w8499.toInt.toNat).toInt := by rw [eI8607, pp_off _ _ (ly_ne hy (by decide) (by decide) (by decide))]; exact NI8596
            clear eI8607
            refine WP_aload_n dX11_readSort_109 rfl ?_
            refine WP_getr dX11_readSort_110 fX11_111 rfl (ly_is hy 0 11 rfl) (rf hr 0 52 33 (by decide)) ?_
            refine WP_iload_n dX11_readSort_113 rfl ?_
            refine WQ_iconst (0) (0) dX11_readSort_114 rfl rfl (fun v8617 hv8617 => ?_)
            refine WQ_iast dX11_readSort_115 (ly_is hy 33 13 rfl) (ly_n hy 33 4 rfl) (by omega) (by omega) (fun I8618 eI8618 => ?_)
            have hI8618 : MP g n L I8618 := by rw [eI8618]; exact (mp_w hy hI8607 (c := 33) (mi_r0 hy hI8607.1 (c := 33) (by decide) (Or.inl (by decide)) (by decide)) (by decide) (by decide) (Or.inl (by decide)))
            have e8619 : I8618 (ad g 0) 15 = w8499 := by rw [eI8618, pp_ne _ _ (Or.inl (ly_ne hy (by decide) (by decide) (by decide)))]; exact e8608
            have e8620 : I8618 (ad g 0) 17 = w8500 := by rw [eI8618, pp_ne _ _ (Or.inl (ly_ne hy (by decide) (by decide) (by decide)))]; exact e8609
            have e8621 : I8618 (ad g 0) 1 = L := by rw [eI8618, pp_ne _ _ (Or.inl (ly_ne hy (by decide) (by decide) (by decide)))]; exact e8610
            have e8622 : I8618 (ad g 0) 2 = w8590 := by rw [eI8618, pp_ne _ _ (Or.inl (ly_ne hy (by decide) (by decide) (by decide)))]; exact e8611
            have e8623 : I8618 (ad g 0) 3 = w8591 := by rw [eI8618, pp_ne _ _ (Or.inl (ly_ne hy (by decide) (by decide) (by decide)))]; exact e8612
            have e8624 : I8618 (ad g 0) 4 = w8592 := by rw [eI8618, pp_ne _ _ (Or.inl (ly_ne hy (by decide) (by decide) (by decide)))]; exact e8613
            have e8625 : I8618 (ad g 0) 5 = w8593 := by rw [eI8618, pp_ne _ _ (Or.inl (ly_ne hy (by decide) (by decide) (by decide)))]; exact e8614
            have e8626 : I8618 (ad g 0) 7 = w8594 := by rw [eI8618, pp_ne _ _ (Or.inl (ly_ne hy (by decide) (by decide) (by decide)))]; exact e8615
            have fr8627 : fz 49 g [0, 14, 15, 16, 17, 27, 30, 31, 32, 33] I I8618 := by rw [eI8618]; exact fzm_pp hy fr8616 (by decide) (by decide)
            have HI8618 := HI8607
            rw [← (show I8618 (ad g 30) = I8607 (ad g 30) by rw [eI8618, pp_off _ _ (ly_ne hy (by decide) (by decide) (by decide))]), ← (show I8618 (ad g 31) = I8607 (ad g 31) by rw [eI8618, pp_off _ _ (ly_ne hy (by decide) (by decide) (by decide))])] at HI8618
            have NI8618 : 1 ≤ (I8618 (ad g 14) w8499.toInt.toNat).toInt := by rw [eI8618, pp_off _ _ (ly_ne hy (by decide) (by decide) (by decide))]; exact NI8607
            clear eI8618
            refine WQ_iconst (0) (0) dX11_readSort_116 rfl rfl (fun v8628 hv8628 => ?_)
            refine WP_istore_n (ls' := [(0, _), (1, _), (2, _)]) dX11_readSort_117 (by decide) rfl ?_
            have lp118_8638 : ∀ (mz : Nat) (i8629 : Int32) (I8630 : pI) (J8631 : pJ), MP g n L I8630 → fz 49 g [0, 14, 15, 16, 17, 27, 30, 31, 32, 33] I I8630 → ∀ (w8633 : Int32), I8630 (ad g 0) 2 = w8633 → ∀ (w8634 : Int32), I8630 (ad g 0) 3 = w8634 → ∀ (w8635 : Int32), I8630 (ad g 0) 4 = w8635 → ∀ (w8636 : Int32), I8630 (ad g 0) 5 = w8636 → ∀ (w8637 : Int32), I8630 (ad g 0) 15 = w8637 → ∀ (w8638 : Int32), I8630 (ad g 0) 17 = w8638 → 0 ≤ i8629.toInt → i8629.toInt ≤ 7 → w8635.toInt ≤ w8633.toInt → w8634.toInt ≤ w8635.toInt → (w8636.toInt = 0 ∨ w8634.toInt < w8635.toInt) → w8638.toInt < w8637.toInt → w8496.toInt ≤ w8634.toInt → w8637.toInt = w8499.toInt → (1 ≤ (I8630 (ad g 14) w8499.toInt.toNat).toInt) → (WRt (I8630 (ad g 30)) (I8630 (ad g 31)) (7 * w8499.toInt + i8629.toInt)) → (8 - i8629.toInt).toNat < mz → WP g mX11_readSort 118 [(0, .ref (ad g 0)), (1, .int w8499), (2, .int i8629)] [] I8630 J8631 R (fun r I' J' R' => (MP g n L I' ∧ R' = R ∧ fz 49 g [0, 14, 15, 16, 17, 27, 30, 31, 32, 33] I I' ∧ (((I' (ad g 0) 4).toInt ≤ (I' (ad g 0) 2).toInt ∧ (I' (ad g 0) 3).toInt ≤ (I' (ad g 0) 4).toInt ∧ ((I' (ad g 0) 5).toInt = 0 ∨ (I' (ad g 0) 3).toInt < (I' (ad g 0) 4).toInt)) ∧ (I (ad g 0) 3).toInt ≤ (I' (ad g 0) 3).toInt ∧ (I' (ad g 0) 17).toInt < (I' (ad g 0) 15).toInt)) ∧ ∃ v : Int32, r = some (.int v) ∧ 0 ≤ v.toInt ∧ v.toInt ≤ 1 ∧ (v.toInt = 1 → WRt (I' (ad g 30)) (I' (ad g 31)) (7 * (I' (ad g 0) 15).toInt))) := by
              intro mz
              induction mz with
              | zero =>
                intro i8629 I8630 J8631 hI8630 fiI8630 w8633 ew8633 w8634 ew8634 w8635 ew8635 w8636 ew8636 w8637 ew8637 w8638 ew8638 ai8629 bi8629 j0_I8630 j1_I8630 j2_I8630 j3_I8630 j4_I8630 j5_I8630 PN_I8630_8631 PW_I8630_8631 hmlp118_8638
                exact absurd hmlp118_8638 (Nat.not_lt_zero _)
              | succ mz ihlp118_8638 =>
                intro i8629 I8630 J8631 hI8630 fiI8630 w8633 ew8633 w8634 ew8634 w8635 ew8635 w8636 ew8636 w8637 ew8637 w8638 ew8638 ai8629 bi8629 j0_I8630 j1_I8630 j2_I8630 j3_I8630 j4_I8630 j5_I8630 PN_I8630_8631 PW_I8630_8631 hmlp118_8638
                have bw8633 := BT_get hI8630.1.1 0 2 3 (0) (0) (900) (by decide) 2 (by decide) (by decide)
                rw [ew8633] at bw8633
                have bw8634 := BT_get hI8630.1.1 0 3 4 (0) (0) (900) (by decide) 3 (by decide) (by decide)
                rw [ew8634] at bw8634
                have bw8635 := BT_get hI8630.1.1 0 4 5 (0) (0) (900) (by decide) 4 (by decide) (by decide)
                rw [ew8635] at bw8635
                have bw8636 := BT_get hI8630.1.1 0 5 6 (0) (0) (4) (by decide) 5 (by decide) (by decide)
                rw [ew8636] at bw8636
                have bw8637 := BT_get hI8630.1.1 0 15 16 (0) (0) (4) (by decide) 15 (by decide) (by decide)
                rw [ew8637] at bw8637
                have bw8638 := BT_get hI8630.1.1 0 17 18 (-1) (0) (3) (by decide) 17 (by decide) (by decide)
                rw [ew8638] at bw8638
                have e8640 : I8630 (ad g 0) 1 = L := hI8630.1.2
                have b8641 := BT_get hI8630.1.1 0 1 2 (0) (0) (900) (by decide) 1 (by decide) (by decide)
                rw [e8640] at b8641
                refine WP_iload_n dX11_readSort_118 rfl ?_
                refine WQ_bipush (7) (7) dX11_readSort_119 rfl rfl (fun v8642 hv8642 => ?_)
                refine WQ_icmp_ge 178 dX11_readSort_121 rfl (fun c8642 => ?_) (fun c8642 => ?_)
                · refine WP_aload_n dX11_readSort_178 rfl ?_
                  refine WP_dup dX11_readSort_179 rfl ?_
                  refine WQ_getim dX11_readSort_180 fX11_88 rfl (ly_is hy 0 11 rfl) ew8637 ?_
                  refine WQ_iconst (1) (1) dX11_readSort_183 rfl rfl (fun v8644 hv8644 => ?_)
                  refine WQ_iadd dX11_readSort_184 (by omega) (by omega) (fun v8645 hv8645 => ?_)
                  refine WQ_puti dX11_readSort_185 fX11_88 rfl rfl (ly_is hy 0 11 rfl) (fun I8646 eI8646 => ?_)
                  have hI8646 : MP g n L I8646 := by rw [eI8646]; exact (mp_w15 hy hI8630 (mi_f hy hI8630.1 (c := 0) (0) (0) (4) (by decide) (Or.inr (by decide)) (by decide) (by omega) (by omega)) (Or.inr ⟨by rw [ew8637]; omega, by rw [ew8637, show w8637.toInt.toNat = w8499.toInt.toNat by omega]; exact PN_I8630_8631⟩))
                  have e8647 : I8646 (ad g 0) 2 = w8633 := by rw [eI8646, pp_ne _ _ (Or.inr (by decide))]; exact ew8633
                  have e8648 : I8646 (ad g 0) 3 = w8634 := by rw [eI8646, pp_ne _ _ (Or.inr (by decide))]; exact ew8634
                  have e8649 : I8646 (ad g 0) 4 = w8635 := by rw [eI8646, pp_ne _ _ (Or.inr (by decide))]; exact ew8635
                  have e8650 : I8646 (ad g 0) 5 = w8636 := by rw [eI8646, pp_ne _ _ (Or.inr (by decide))]; exact ew8636
                  have e8651 : I8646 (ad g 0) 17 = w8638 := by rw [eI8646, pp_ne _ _ (Or.inr (by decide))]; exact ew8638
                  have e8652 : I8646 (ad g 0) 1 = L := by rw [eI8646, pp_ne _ _ (Or.inr (by decide))]; exact e8640
                  have e8653 : I8646 (ad g 0) 15 = v8645 := by rw [eI8646, pp_self]
                  have fr8654 : fz 49 g [0, 14, 15, 16, 17, 27, 30, 31, 32, 33] I I8646 := by rw [eI8646]; exact fzm_pp hy fiI8630 (by decide) (by decide)
                  have NI8646 : 1 ≤ (I8646 (ad g 14) w8499.toInt.toNat).toInt := by rw [eI8646, pp_off _ _ (ly_ne hy (by decide) (by decide) (by decide))]; exact PN_I8630_8631
                  have WI8646 : WRt (I8646 (ad g 30)) (I8646 (ad g 31)) (7 * w8499.toInt + i8629.toInt) := by rw [show I8646 (ad g 30) = I8630 (ad g 30) by rw [eI8646, pp_off _ _ (ly_ne hy (by decide) (by decide) (by decide))], show I8646 (ad g 31) = I8630 (ad g 31) by rw [eI8646, pp_off _ _ (ly_ne hy (by decide) (by decide) (by decide))]]; exact PW_I8630_8631
                  clear eI8646
                  refine WQ_iconst (1) (1) dX11_readSort_188 rfl rfl (fun v8655 hv8655 => ?_)
                  exact WP_zret dX11_readSort_189 rfl (nar_z (by omega)) ⟨⟨hI8646, rfl, fr8654, (by rw [e8647, e8648, e8649, e8650, e8653, e8651, ew8496]; omega)⟩, _, rfl, by omega, by omega, (fun _ => by rw [e8653, show 7 * v8645.toInt = 7 * w8499.toInt + i8629.toInt by omega]; exact WI8646)⟩
                · refine WP_aload_n dX11_readSort_124 rfl ?_
                  refine WP_getr dX11_readSort_125 fX11_114 rfl (ly_is hy 0 11 rfl) (rf hr 0 45 27 (by decide)) ?_
                  refine WQ_bipush (7) (7) dX11_readSort_128 rfl rfl (fun v8656 hv8656 => ?_)
                  refine WP_iload_n dX11_readSort_130 rfl ?_
                  refine WQ_imulK (7) dX11_readSort_131 hv8656 (by omega) (by omega) (fun v8657 hv8657 => ?_)
                  refine WP_iload_n dX11_readSort_132 rfl ?_
                  refine WQ_iadd dX11_readSort_133 (by omega) (by omega) (fun v8658 hv8658 => ?_)
                  refine WQ_iconst (0) (0) dX11_readSort_134 rfl rfl (fun v8659 hv8659 => ?_)
                  refine WQ_iast dX11_readSort_135 (ly_is hy 27 13 rfl) (ly_n hy 27 28 rfl) (by omega) (by omega) (fun I8660 eI8660 => ?_)
                  have hI8660 : MP g n L I8660 := by rw [eI8660]; exact (mp_w hy hI8630 (c := 27) (mi_r hy hI8630.1 (c := 27) (0) (0) (20) (by decide) (Or.inl (by decide)) (by decide) (by omega) (by omega)) (by decide) (by decide) (Or.inl (by decide)))
                  have e8661 : I8660 (ad g 0) 2 = w8633 := by rw [eI8660, pp_ne _ _ (Or.inl (ly_ne hy (by decide) (by decide) (by decide)))]; exact ew8633
                  have e8662 : I8660 (ad g 0) 3 = w8634 := by rw [eI8660, pp_ne _ _ (Or.inl (ly_ne hy (by decide) (by decide) (by decide)))]; exact ew8634
                  have e8663 : I8660 (ad g 0) 4 = w8635 := by rw [eI8660, pp_ne _ _ (Or.inl (ly_ne hy (by decide) (by decide) (by decide)))]; exact ew8635
                  have e8664 : I8660 (ad g 0) 5 = w8636 := by rw [eI8660, pp_ne _ _ (Or.inl (ly_ne hy (by decide) (by decide) (by decide)))]; exact ew8636
                  have e8665 : I8660 (ad g 0) 15 = w8637 := by rw [eI8660, pp_ne _ _ (Or.inl (ly_ne hy (by decide) (by decide) (by decide)))]; exact ew8637
                  have e8666 : I8660 (ad g 0) 17 = w8638 := by rw [eI8660, pp_ne _ _ (Or.inl (ly_ne hy (by decide) (by decide) (by decide)))]; exact ew8638
                  have e8667 : I8660 (ad g 0) 1 = L := by rw [eI8660, pp_ne _ _ (Or.inl (ly_ne hy (by decide) (by decide) (by decide)))]; exact e8640
                  have fr8668 : fz 49 g [0, 14, 15, 16, 17, 27, 30, 31, 32, 33] I I8660 := by rw [eI8660]; exact fzm_pp hy fiI8630 (by decide) (by decide)
                  have NI8660 : 1 ≤ (I8660 (ad g 14) w8499.toInt.toNat).toInt := by rw [eI8660, pp_off _ _ (ly_ne hy (by decide) (by decide) (by decide))]; exact PN_I8630_8631
                  have WI8660 : WRt (I8660 (ad g 30)) (I8660 (ad g 31)) (7 * w8499.toInt + i8629.toInt) := by rw [show I8660 (ad g 30) = I8630 (ad g 30) by rw [eI8660, pp_off _ _ (ly_ne hy (by decide) (by decide) (by decide))], show I8660 (ad g 31) = I8630 (ad g 31) by rw [eI8660, pp_off _ _ (ly_ne hy (by decide) (by decide) (by decide))]]; exact PW_I8630_8631
                  clear eI8660
                  refine WP_aload_n dX11_readSort_136 rfl ?_
                  refine WP_getr dX11_readSort_137 fX11_117 rfl (ly_is hy 0 11 rfl) (rf hr 0 48 30 (by decide)) ?_
                  refine WQ_bipush (7) (7) dX11_readSort_140 rfl rfl (fun v8669 hv8669 => ?_)
                  refine WP_iload_n dX11_readSort_142 rfl ?_
                  refine WQ_imulK (7) dX11_readSort_143 hv8669 (by omega) (by omega) (fun v8670 hv8670 => ?_)
                  refine WP_iload_n dX11_readSort_144 rfl ?_
                  refine WQ_iadd dX11_readSort_145 (by omega) (by omega) (fun v8671 hv8671 => ?_)
                  refine WQ_iconst (-1) (-1) dX11_readSort_146 rfl rfl (fun v8672 hv8672 => ?_)
                  refine WQ_iast dX11_readSort_147 (ly_is hy 30 13 rfl) (ly_n hy 30 28 rfl) (by omega) (by omega) (fun I8673 eI8673 => ?_)
                  have hI8673 : MP g n L I8673 := by rw [eI8673]; exact (mp_w hy hI8660 (c := 30) (mi_r hy hI8660.1 (c := 30) (-1) (0) (2) (by decide) (Or.inl (by decide)) (by decide) (by omega) (by omega)) (by decide) (by decide) (Or.inl (by decide)))
                  have e8674 : I8673 (ad g 0) 2 = w8633 := by rw [eI8673, pp_ne _ _ (Or.inl (ly_ne hy (by decide) (by decide) (by decide)))]; exact e8661
                  have e8675 : I8673 (ad g 0) 3 = w8634 := by rw [eI8673, pp_ne _ _ (Or.inl (ly_ne hy (by decide) (by decide) (by decide)))]; exact e8662
                  have e8676 : I8673 (ad g 0) 4 = w8635 := by rw [eI8673, pp_ne _ _ (Or.inl (ly_ne hy (by decide) (by decide) (by decide)))]; exact e8663
                  have e8677 : I8673 (ad g 0) 5 = w8636 := by rw [eI8673, pp_ne _ _ (Or.inl (ly_ne hy (by decide) (by decide) (by decide)))]; exact e8664
                  have e8678 : I8673 (ad g 0) 15 = w8637 := by rw [eI8673, pp_ne _ _ (Or.inl (ly_ne hy (by decide) (by decide) (by decide)))]; exact e8665
                  have e8679 : I8673 (ad g 0) 17 = w8638 := by rw [eI8673, pp_ne _ _ (Or.inl (ly_ne hy (by decide) (by decide) (by decide)))]; exact e8666
                  have e8680 : I8673 (ad g 0) 1 = L := by rw [eI8673, pp_ne _ _ (Or.inl (ly_ne hy (by decide) (by decide) (by decide)))]; exact e8667
                  have fr8681 : fz 49 g [0, 14, 15, 16, 17, 27, 30, 31, 32, 33] I I8673 := by rw [eI8673]; exact fzm_pp hy fr8668 (by decide) (by decide)
                  have NI8673 : 1 ≤ (I8673 (ad g 14) w8499.toInt.toNat).toInt := by rw [eI8673, pp_off _ _ (ly_ne hy (by decide) (by decide) (by decide))]; exact NI8660
                  have xI8673 := eI8673
                  rw [cl (x := v8671) (n := v8671.toInt.toNat) (by omega)] at xI8673
                  have WI8673 : WRt (I8673 (ad g 30)) (I8673 (ad g 31)) (7 * w8499.toInt + i8629.toInt) := by rw [show I8673 (ad g 31) = I8660 (ad g 31) by rw [eI8673, pp_off _ _ (ly_ne hy (by decide) (by decide) (by decide))]]; exact WRt_a (A := I8660 (ad g 30)) WI8660 xI8673 (by omega)
                  clear eI8673
                  refine WP_aload_n dX11_readSort_148 rfl ?_
                  refine WP_getr dX11_readSort_149 fX11_120 rfl (ly_is hy 0 11 rfl) (rf hr 0 49 31 (by decide)) ?_
                  refine WQ_bipush (7) (7) dX11_readSort_152 rfl rfl (fun v8682 hv8682 => ?_)
                  refine WP_iload_n dX11_readSort_154 rfl ?_
                  refine WQ_imulK (7) dX11_readSort_155 hv8682 (by omega) (by omega) (fun v8683 hv8683 => ?_)
                  refine WP_iload_n dX11_readSort_156 rfl ?_
                  refine WQ_iadd dX11_readSort_157 (by omega) (by omega) (fun v8684 hv8684 => ?_)
                  refine WQ_iconst (0) (0) dX11_readSort_158 rfl rfl (fun v8685 hv8685 => ?_)
                  refine WQ_iast dX11_readSort_159 (ly_is hy 31 13 rfl) (ly_n hy 31 28 rfl) (by omega) (by omega) (fun I8686 eI8686 => ?_)
                  have hI8686 : MP g n L I8686 := by rw [eI8686]; exact (mp_w hy hI8673 (c := 31) (mi_r hy hI8673.1 (c := 31) (0) (0) (3) (by decide) (Or.inl (by decide)) (by decide) (by omega) (by omega)) (by decide) (by decide) (Or.inl (by decide)))
                  have e8687 : I8686 (ad g 0) 2 = w8633 := by rw [eI8686, pp_ne _ _ (Or.inl (ly_ne hy (by decide) (by decide) (by decide)))]; exact e8674
                  have e8688 : I8686 (ad g 0) 3 = w8634 := by rw [eI8686, pp_ne _ _ (Or.inl (ly_ne hy (by decide) (by decide) (by decide)))]; exact e8675
                  have e8689 : I8686 (ad g 0) 4 = w8635 := by rw [eI8686, pp_ne _ _ (Or.inl (ly_ne hy (by decide) (by decide) (by decide)))]; exact e8676
                  have e8690 : I8686 (ad g 0) 5 = w8636 := by rw [eI8686, pp_ne _ _ (Or.inl (ly_ne hy (by decide) (by decide) (by decide)))]; exact e8677
                  have e8691 : I8686 (ad g 0) 15 = w8637 := by rw [eI8686, pp_ne _ _ (Or.inl (ly_ne hy (by decide) (by decide) (by decide)))]; exact e8678
                  have e8692 : I8686 (ad g 0) 17 = w8638 := by rw [eI8686, pp_ne _ _ (Or.inl (ly_ne hy (by decide) (by decide) (by decide)))]; exact e8679
                  have e8693 : I8686 (ad g 0) 1 = L := by rw [eI8686, pp_ne _ _ (Or.inl (ly_ne hy (by decide) (by decide) (by decide)))]; exact e8680
                  have fr8694 : fz 49 g [0, 14, 15, 16, 17, 27, 30, 31, 32, 33] I I8686 := by rw [eI8686]; exact fzm_pp hy fr8681 (by decide) (by decide)
                  have NI8686 : 1 ≤ (I8686 (ad g 14) w8499.toInt.toNat).toInt := by rw [eI8686, pp_off _ _ (ly_ne hy (by decide) (by decide) (by decide))]; exact NI8673
                  have xI8686 := eI8686
                  rw [cl (x := v8684) (n := v8684.toInt.toNat) (by omega)] at xI8686
                  have WI8686 : WRt (I8686 (ad g 30)) (I8686 (ad g 31)) (7 * w8499.toInt + i8629.toInt + 1) := by rw [show I8686 (ad g 30) = I8673 (ad g 30) by rw [eI8686, pp_off _ _ (ly_ne hy (by decide) (by decide) (by decide))]]; exact WRt_b WI8673 xI8686 (by omega) (by omega) rfl
                  clear eI8686
                  refine WP_aload_n dX11_readSort_160 rfl ?_
                  refine WP_getr dX11_readSort_161 fX11_123 rfl (ly_is hy 0 11 rfl) (rf hr 0 50 32 (by decide)) ?_
                  refine WQ_bipush (7) (7) dX11_readSort_164 rfl rfl (fun v8695 hv8695 => ?_)
                  refine WP_iload_n dX11_readSort_166 rfl ?_
                  refine WQ_imulK (7) dX11_readSort_167 hv8695 (by omega) (by omega) (fun v8696 hv8696 => ?_)
                  refine WP_iload_n dX11_readSort_168 rfl ?_
                  refine WQ_iadd dX11_readSort_169 (by omega) (by omega) (fun v8697 hv8697 => ?_)
                  refine WQ_iconst (0) (0) dX11_readSort_170 rfl rfl (fun v8698 hv8698 => ?_)
                  refine WQ_iast dX11_readSort_171 (ly_is hy 32 13 rfl) (ly_n hy 32 28 rfl) (by omega) (by omega) (fun I8699 eI8699 => ?_)
                  have hI8699 : MP g n L I8699 := by rw [eI8699]; exact (mp_w hy hI8686 (c := 32) (mi_r hy hI8686.1 (c := 32) (0) (0) (99) (by decide) (Or.inl (by decide)) (by decide) (by omega) (by omega)) (by decide) (by decide) (Or.inl (by decide)))
                  have e8700 : I8699 (ad g 0) 2 = w8633 := by rw [eI8699, pp_ne _ _ (Or.inl (ly_ne hy (by decide) (by decide) (by decide)))]; exact e8687
                  have e8701 : I8699 (ad g 0) 3 = w8634 := by rw [eI8699, pp_ne _ _ (Or.inl (ly_ne hy (by decide) (by decide) (by decide)))]; exact e8688
                  have e8702 : I8699 (ad g 0) 4 = w8635 := by rw [eI8699, pp_ne _ _ (Or.inl (ly_ne hy (by decide) (by decide) (by decide)))]; exact e8689
                  have e8703 : I8699 (ad g 0) 5 = w8636 := by rw [eI8699, pp_ne _ _ (Or.inl (ly_ne hy (by decide) (by decide) (by decide)))]; exact e8690
                  have e8704 : I8699 (ad g 0) 15 = w8637 := by rw [eI8699, pp_ne _ _ (Or.inl (ly_ne hy (by decide) (by decide) (by decide)))]; exact e8691
                  have e8705 : I8699 (ad g 0) 17 = w8638 := by rw [eI8699, pp_ne _ _ (Or.inl (ly_ne hy (by decide) (by decide) (by decide)))]; exact e8692
                  have e8706 : I8699 (ad g 0) 1 = L := by rw [eI8699, pp_ne _ _ (Or.inl (ly_ne hy (by decide) (by decide) (by decide)))]; exact e8693
                  have fr8707 : fz 49 g [0, 14, 15, 16, 17, 27, 30, 31, 32, 33] I I8699 := by rw [eI8699]; exact fzm_pp hy fr8694 (by decide) (by decide)
                  have NI8699 : 1 ≤ (I8699 (ad g 14) w8499.toInt.toNat).toInt := by rw [eI8699, pp_off _ _ (ly_ne hy (by decide) (by decide) (by decide))]; exact NI8686
                  have WI8699 : WRt (I8699 (ad g 30)) (I8699 (ad g 31)) (7 * w8499.toInt + i8629.toInt + 1) := by rw [show I8699 (ad g 30) = I8686 (ad g 30) by rw [eI8699, pp_off _ _ (ly_ne hy (by decide) (by decide) (by decide))], show I8699 (ad g 31) = I8686 (ad g 31) by rw [eI8699, pp_off _ _ (ly_ne hy (by decide) (by decide) (by decide))]]; exact WI8686
                  clear eI8699
                  refine WP_iinc (ls' := [(0, _), (1, _), (2, _)]) dX11_readSort_172 rfl (by decide) rfl ?_
                  have hv8708 : (i8629 + Int32.ofInt (1)).toInt = i8629.toInt + (1) := ia_n rfl (by omega) (by omega)
                  generalize i8629 + Int32.ofInt (1) = v8708 at hv8708 ⊢
                  refine WP_goto 118 dX11_readSort_175 rfl ?_
                  exact WP_sub (fc rfl (fc rfl (fc rfl fn))) (ihlp118_8638 v8708 I8699 J8631 hI8699 fr8707 w8633 e8700 w8634 e8701 w8635 e8702 w8636 e8703 w8637 e8704 w8638 e8705 (by omega) (by omega) (by omega) (by omega) (by omega) (by omega) (by omega) (by omega) NI8699 (by rw [show 7 * w8499.toInt + v8708.toInt = 7 * w8499.toInt + i8629.toInt + 1 by omega]; exact WI8699) (by omega))
            exact WP_sub (fc rfl (fc rfl (fc rfl fn))) (lp118_8638 _ v8628 I8618 J8583 hI8618 fr8627 w8590 e8622 w8591 e8623 w8592 e8624 w8593 e8625 w8499 e8619 w8500 e8620 (by omega) (by omega) (by omega) (by omega) (by omega) (by omega) (by omega) (by omega) NI8618 (by rw [show 7 * w8499.toInt + v8628.toInt = 7 * (I (ad g 0) 15).toInt by rw [ew8499]; omega]; exact HI8618) (Nat.lt_succ_self _))
          · refine WQ_iconst (0) (0) dX11_readSort_90 rfl rfl (fun v8709 hv8709 => ?_)
            exact WP_zret dX11_readSort_91 rfl (nar_z (by omega)) ⟨⟨hI8582, rfl, fr8585, (by rw [ew8590, ew8591, ew8592, ew8593, e8586, e8587, ew8496]; omega)⟩, _, rfl, by omega, by omega, (fun h => False.elim (by omega))⟩
        · refine WQ_iconst (0) (0) dX11_readSort_68 rfl rfl (fun v8710 hv8710 => ?_)
          exact WP_zret dX11_readSort_69 rfl (nar_z (by omega)) ⟨⟨hI8556, rfl, fr8559, (by rw [ew8564, ew8565, ew8566, ew8567, e8560, e8561, ew8496]; omega)⟩, _, rfl, by omega, by omega, (fun h => False.elim (by omega))⟩
      · refine WQ_iconst (0) (0) dX11_readSort_45 rfl rfl (fun v8711 hv8711 => ?_)
        exact WP_zret dX11_readSort_46 rfl (nar_z (by omega)) ⟨⟨hI8530, rfl, fr8533, (by rw [ew8538, ew8539, ew8540, ew8541, e8534, e8535, ew8496]; omega)⟩, _, rfl, by omega, by omega, (fun h => False.elim (by omega))⟩
  · refine WP_aload_n dX11_readSort_8 rfl ?_
    refine WQ_iconst (4) (4) dX11_readSort_9 rfl rfl (fun v8712 hv8712 => ?_)
    refine WP_callV1 (k := 11) dX11_readSort_10 ⟨⟨⟨by decide, by decide⟩, zX11_bad⟩, lX11_49, by decide, rfl, vX11_bad.1, vX11_bad.2⟩ (ly_is hy 0 11 rfl) (sm_badx hy hr hI v8712  (by rw [ew8495, ew8496, ew8497, ew8498]; omega)) (Nat.le_of_ble_eq_true rfl) ?_
    intro r I8713 J8714 Ra hq
    obtain ⟨⟨hI8713, ec, fiI8713, ⟨pI8713, sI8713_0_15, sI8713_0_16, sI8713_0_17, sI8713_0_18⟩⟩, v8715, rfl, av8715, bv8715⟩ := hq
    show WP _ _ _ _ (.int _ :: _) _ _ _ _
    rw [ec]
    clear ec Ra
    have fr8716 : fz 49 g [0, 14, 15, 16, 17, 27, 30, 31, 32, 33] I I8713 := fz_tr fr0 (fz_mono fiI8713 (by decide))
    have HI8713 := hw
    rw [← fz_at fiI8713 30 (by decide) (by decide), ← fz_at fiI8713 31 (by decide) (by decide)] at HI8713
    have e8717 : I8713 (ad g 0) 15 = w8499 := by rw [sI8713_0_15]; exact ew8499
    have e8718 : I8713 (ad g 0) 17 = w8500 := by rw [sI8713_0_17]; exact ew8500
    have e8719 : I8713 (ad g 0) 1 = L := hI8713.1.2
    have b8720 := BT_get hI8713.1.1 0 1 2 (0) (0) (900) (by decide) 1 (by decide) (by decide)
    rw [e8719] at b8720
    obtain ⟨w8721, ew8721⟩ : ∃ w : Int32, I8713 (ad g 0) 2 = w := ⟨_, rfl⟩
    have bw8721 := BT_get hI8713.1.1 0 2 3 (0) (0) (900) (by decide) 2 (by decide) (by decide)
    rw [ew8721] at bw8721
    obtain ⟨w8722, ew8722⟩ : ∃ w : Int32, I8713 (ad g 0) 3 = w := ⟨_, rfl⟩
    have bw8722 := BT_get hI8713.1.1 0 3 4 (0) (0) (900) (by decide) 3 (by decide) (by decide)
    rw [ew8722] at bw8722
    obtain ⟨w8723, ew8723⟩ : ∃ w : Int32, I8713 (ad g 0) 4 = w := ⟨_, rfl⟩
    have bw8723 := BT_get hI8713.1.1 0 4 5 (0) (0) (900) (by decide) 4 (by decide) (by decide)
    rw [ew8723] at bw8723
    obtain ⟨w8724, ew8724⟩ : ∃ w : Int32, I8713 (ad g 0) 5 = w := ⟨_, rfl⟩
    have bw8724 := BT_get hI8713.1.1 0 5 6 (0) (0) (4) (by decide) 5 (by decide) (by decide)
    rw [ew8724] at bw8724
    rw [ew8721, ew8722, ew8723, ew8724, ew8496] at pI8713
    exact WP_zret dX11_readSort_13 rfl (nar_z (by omega)) ⟨⟨hI8713, rfl, fr8716, (by rw [ew8721, ew8722, ew8723, ew8724, e8717, e8718, ew8496]; omega)⟩, _, rfl, by omega, by omega, (fun h => False.elim (by omega))⟩
set_option maxHeartbeats 4000000 in
set_option maxRecDepth 100000 in
theorem sm_readWantsx {g : GG} {n : Int} {L : Int32} (hy : Ly g)  {I : pI} {J : pJ} {R : pR} (hr : Rf g R) (hI : MP g n L I)   (hb : ((I (ad g 0) 4).toInt ≤ (I (ad g 0) 2).toInt ∧ (I (ad g 0) 3).toInt ≤ (I (ad g 0) 4).toInt ∧ ((I (ad g 0) 5).toInt = 0 ∨ (I (ad g 0) 3).toInt < (I (ad g 0) 4).toInt)) ∧ (I (ad g 0) 17).toInt < (I (ad g 0) 15).toInt) (hw : WRt (I (ad g 30)) (I (ad g 31)) (7 * (I (ad g 0) 15).toInt)) : SP g mX11_readWants [.ref (ad g 0)] I J R (fun r I' J' R' => (MP g n L I' ∧ R' = R ∧ fz 49 g [0, 30, 31, 32] I I' ∧ (((I' (ad g 0) 4).toInt ≤ (I' (ad g 0) 2).toInt ∧ (I' (ad g 0) 3).toInt ≤ (I' (ad g 0) 4).toInt ∧ ((I' (ad g 0) 5).toInt = 0 ∨ (I' (ad g 0) 3).toInt < (I' (ad g 0) 4).toInt)) ∧ (I (ad g 0) 3).toInt ≤ (I' (ad g 0) 3).toInt ∧ (I' (ad g 0) 17).toInt < (I' (ad g 0) 15).toInt)) ∧ ∃ v : Int32, r = some (.int v) ∧ 0 ≤ v.toInt ∧ v.toInt ≤ 1 ∧ (v.toInt = 1 → WRt (I' (ad g 30)) (I' (ad g 31)) (7 * (I' (ad g 0) 15).toInt))) := by
  refine SP_of ⟨by decide, rfl⟩ (Nat.le_of_ble_eq_true rfl) ?_
  have e8725 : I (ad g 0) 1 = L := hI.1.2
  have b8726 := BT_get hI.1.1 0 1 2 (0) (0) (900) (by decide) 1 (by decide) (by decide)
  rw [e8725] at b8726
  have fr0 : fz 49 g [0, 30, 31, 32] I I := fz_rf
  obtain ⟨w8727, ew8727⟩ : ∃ w : Int32, I (ad g 0) 2 = w := ⟨_, rfl⟩
  have bw8727 := BT_get hI.1.1 0 2 3 (0) (0) (900) (by decide) 2 (by decide) (by decide)
  rw [ew8727] at bw8727
  obtain ⟨w8728, ew8728⟩ : ∃ w : Int32, I (ad g 0) 3 = w := ⟨_, rfl⟩
  have bw8728 := BT_get hI.1.1 0 3 4 (0) (0) (900) (by decide) 3 (by decide) (by decide)
  rw [ew8728] at bw8728
  obtain ⟨w8729, ew8729⟩ : ∃ w : Int32, I (ad g 0) 4 = w := ⟨_, rfl⟩
  have bw8729 := BT_get hI.1.1 0 4 5 (0) (0) (900) (by decide) 4 (by decide) (by decide)
  rw [ew8729] at bw8729
  obtain ⟨w8730, ew8730⟩ : ∃ w : Int32, I (ad g 0) 5 = w := ⟨_, rfl⟩
  have bw8730 := BT_get hI.1.1 0 5 6 (0) (0) (4) (by decide) 5 (by decide) (by decide)
  rw [ew8730] at bw8730
  obtain ⟨w8731, ew8731⟩ : ∃ w : Int32, I (ad g 0) 15 = w := ⟨_, rfl⟩
  have bw8731 := BT_get hI.1.1 0 15 16 (0) (0) (4) (by decide) 15 (by decide) (by decide)
  rw [ew8731] at bw8731
  obtain ⟨w8732, ew8732⟩ : ∃ w : Int32, I (ad g 0) 17 = w := ⟨_, rfl⟩
  have bw8732 := BT_get hI.1.1 0 17 18 (-1) (0) (3) (by decide) 17 (by decide) (by decide)
  rw [ew8732] at bw8732
  rw [ew8727, ew8728, ew8729, ew8730, ew8731, ew8732] at hb
  refine WP_aload_n dX11_readWants_0 rfl ?_
  refine WP_callV0 (k := 11) dX11_readWants_1 ⟨⟨⟨by decide, by decide⟩, zX11_scan⟩, lX11_63, by decide, rfl, vX11_scan.1, vX11_scan.2⟩ (ly_is hy 0 11 rfl) (sm_scanx hy hr hI   (by rw [ew8729, ew8727]; omega)) (Nat.le_of_ble_eq_true rfl) ?_
  intro r I8733 J8734 Ra hq
  obtain ⟨⟨hI8733, ec, fiI8733, ⟨pI8733, sI8733_0_7, sI8733_0_15, sI8733_0_16, sI8733_0_17, sI8733_0_18⟩⟩, rfl⟩ := hq
  rw [ec]
  clear ec Ra
  have fr8735 : fz 49 g [0, 30, 31, 32] I I8733 := fz_tr fr0 (fz_mono fiI8733 (by decide))
  have HI8733 := hw
  rw [← fz_at fiI8733 30 (by decide) (by decide), ← fz_at fiI8733 31 (by decide) (by decide)] at HI8733
  have e8736 : I8733 (ad g 0) 15 = w8731 := by rw [sI8733_0_15]; exact ew8731
  have e8737 : I8733 (ad g 0) 17 = w8732 := by rw [sI8733_0_17]; exact ew8732
  have e8738 : I8733 (ad g 0) 1 = L := hI8733.1.2
  have b8739 := BT_get hI8733.1.1 0 1 2 (0) (0) (900) (by decide) 1 (by decide) (by decide)
  rw [e8738] at b8739
  obtain ⟨w8740, ew8740⟩ : ∃ w : Int32, I8733 (ad g 0) 2 = w := ⟨_, rfl⟩
  have bw8740 := BT_get hI8733.1.1 0 2 3 (0) (0) (900) (by decide) 2 (by decide) (by decide)
  rw [ew8740] at bw8740
  obtain ⟨w8741, ew8741⟩ : ∃ w : Int32, I8733 (ad g 0) 3 = w := ⟨_, rfl⟩
  have bw8741 := BT_get hI8733.1.1 0 3 4 (0) (0) (900) (by decide) 3 (by decide) (by decide)
  rw [ew8741] at bw8741
  obtain ⟨w8742, ew8742⟩ : ∃ w : Int32, I8733 (ad g 0) 4 = w := ⟨_, rfl⟩
  have bw8742 := BT_get hI8733.1.1 0 4 5 (0) (0) (900) (by decide) 4 (by decide) (by decide)
  rw [ew8742] at bw8742
  obtain ⟨w8743, ew8743⟩ : ∃ w : Int32, I8733 (ad g 0) 5 = w := ⟨_, rfl⟩
  have bw8743 := BT_get hI8733.1.1 0 5 6 (0) (0) (4) (by decide) 5 (by decide) (by decide)
  rw [ew8743] at bw8743
  rw [ew8740, ew8741, ew8742, ew8743, ew8729] at pI8733
  refine WP_aload_n dX11_readWants_4 rfl ?_
  refine WP_aload_n dX11_readWants_5 rfl ?_
  refine WP_getr dX11_readWants_6 fX11_91 rfl (ly_is hy 0 11 rfl) (rf hr 0 22 4 (by decide)) ?_
  refine WP_aload_n dX11_readWants_9 rfl ?_
  refine WQ_getim dX11_readWants_10 fX11_88 rfl (ly_is hy 0 11 rfl) e8736 ?_
  refine WP_callV2 (k := 11) dX11_readWants_13 ⟨⟨⟨by decide, by decide⟩, zX11_known⟩, lX11_147, by decide, rfl, vX11_known.1, vX11_known.2⟩ (ly_is hy 0 11 rfl) (sm_knownx_4 hy hr hI8733 w8731 (by omega) (by omega) (by rw [ew8740, ew8741, ew8742, ew8743]; omega)) (Nat.le_of_ble_eq_true rfl) ?_
  intro r I8744 J8745 Ra hq
  obtain ⟨⟨hI8744, ec, fiI8744, ⟨pI8744, sI8744_0_15, sI8744_0_16, sI8744_0_17, sI8744_0_18⟩⟩, v8746, rfl, av8746, bv8746, cv8746⟩ := hq
  show WP _ _ _ _ (.int _ :: _) _ _ _ _
  rw [ec]
  clear ec Ra
  have fr8747 : fz 49 g [0, 30, 31, 32] I I8744 := fz_tr fr8735 (fz_mono fiI8744 (by decide))
  have HI8744 := HI8733
  rw [← fz_at fiI8744 30 (by decide) (by decide), ← fz_at fiI8744 31 (by decide) (by decide)] at HI8744
  have e8748 : I8744 (ad g 0) 15 = w8731 := by rw [sI8744_0_15]; exact e8736
  have e8749 : I8744 (ad g 0) 17 = w8732 := by rw [sI8744_0_17]; exact e8737
  have e8750 : I8744 (ad g 0) 1 = L := hI8744.1.2
  have b8751 := BT_get hI8744.1.1 0 1 2 (0) (0) (900) (by decide) 1 (by decide) (by decide)
  rw [e8750] at b8751
  obtain ⟨w8752, ew8752⟩ : ∃ w : Int32, I8744 (ad g 0) 2 = w := ⟨_, rfl⟩
  have bw8752 := BT_get hI8744.1.1 0 2 3 (0) (0) (900) (by decide) 2 (by decide) (by decide)
  rw [ew8752] at bw8752
  obtain ⟨w8753, ew8753⟩ : ∃ w : Int32, I8744 (ad g 0) 3 = w := ⟨_, rfl⟩
  have bw8753 := BT_get hI8744.1.1 0 3 4 (0) (0) (900) (by decide) 3 (by decide) (by decide)
  rw [ew8753] at bw8753
  obtain ⟨w8754, ew8754⟩ : ∃ w : Int32, I8744 (ad g 0) 4 = w := ⟨_, rfl⟩
  have bw8754 := BT_get hI8744.1.1 0 4 5 (0) (0) (900) (by decide) 4 (by decide) (by decide)
  rw [ew8754] at bw8754
  obtain ⟨w8755, ew8755⟩ : ∃ w : Int32, I8744 (ad g 0) 5 = w := ⟨_, rfl⟩
  have bw8755 := BT_get hI8744.1.1 0 5 6 (0) (0) (4) (by decide) 5 (by decide) (by decide)
  rw [ew8755] at bw8755
  rw [ew8752, ew8753, ew8754, ew8755, ew8741] at pI8744
  obtain ⟨w8756, ew8756⟩ : ∃ w : Int32, I8744 (ad g 0) 7 = w := ⟨_, rfl⟩
  have bw8756 := BT_get hI8744.1.1 0 7 8 (-1) (0) (1000) (by decide) 7 (by decide) (by decide)
  rw [ew8756] at bw8756
  rw [ew8756] at cv8746
  refine WQ_if_ne 21 dX11_readWants_16 rfl (fun c8756 => ?_) (fun c8756 => ?_)
  · refine WP_aload_n dX11_readWants_21 rfl ?_
    refine WQ_getim dX11_readWants_22 fX11_56 rfl (ly_is hy 0 11 rfl) ew8756 ?_
    refine WP_istore_n (ls' := [(0, _), (1, _)]) dX11_readWants_25 (by decide) rfl ?_
    refine WP_aload_n dX11_readWants_26 rfl ?_
    refine WP_aload_n dX11_readWants_27 rfl ?_
    refine WP_getr dX11_readWants_28 fX11_129 rfl (ly_is hy 0 11 rfl) (rf hr 0 23 5 (by decide)) ?_
    refine WP_aload_n dX11_readWants_31 rfl ?_
    refine WQ_geti dX11_readWants_32 fX11_126 rfl (ly_is hy 0 11 rfl) (BT_get hI8744.1.1 0 16 17 (0) (0) (3) (by decide) 16 (by decide) (by decide)) (fun v8758 ev8758 av8758 bv8758 => ?_)
    refine WP_callV2 (k := 11) dX11_readWants_35 ⟨⟨⟨by decide, by decide⟩, zX11_known⟩, lX11_147, by decide, rfl, vX11_known.1, vX11_known.2⟩ (ly_is hy 0 11 rfl) (sm_knownx_5 hy hr hI8744 v8758 (by omega) (by omega) (by rw [ew8752, ew8753, ew8754, ew8755]; omega)) (Nat.le_of_ble_eq_true rfl) ?_
    intro r I8759 J8760 Ra hq
    obtain ⟨⟨hI8759, ec, fiI8759, ⟨pI8759, sI8759_0_15, sI8759_0_16, sI8759_0_17, sI8759_0_18⟩⟩, v8761, rfl, av8761, bv8761, cv8761⟩ := hq
    show WP _ _ _ _ (.int _ :: _) _ _ _ _
    rw [ec]
    clear ec Ra
    have fr8762 : fz 49 g [0, 30, 31, 32] I I8759 := fz_tr fr8747 (fz_mono fiI8759 (by decide))
    have HI8759 := HI8744
    rw [← fz_at fiI8759 30 (by decide) (by decide), ← fz_at fiI8759 31 (by decide) (by decide)] at HI8759
    have e8763 : I8759 (ad g 0) 15 = w8731 := by rw [sI8759_0_15]; exact e8748
    have e8764 : I8759 (ad g 0) 16 = v8758 := by rw [sI8759_0_16]; exact ev8758
    have e8765 : I8759 (ad g 0) 17 = w8732 := by rw [sI8759_0_17]; exact e8749
    have e8766 : I8759 (ad g 0) 1 = L := hI8759.1.2
    have b8767 := BT_get hI8759.1.1 0 1 2 (0) (0) (900) (by decide) 1 (by decide) (by decide)
    rw [e8766] at b8767
    obtain ⟨w8768, ew8768⟩ : ∃ w : Int32, I8759 (ad g 0) 2 = w := ⟨_, rfl⟩
    have bw8768 := BT_get hI8759.1.1 0 2 3 (0) (0) (900) (by decide) 2 (by decide) (by decide)
    rw [ew8768] at bw8768
    obtain ⟨w8769, ew8769⟩ : ∃ w : Int32, I8759 (ad g 0) 3 = w := ⟨_, rfl⟩
    have bw8769 := BT_get hI8759.1.1 0 3 4 (0) (0) (900) (by decide) 3 (by decide) (by decide)
    rw [ew8769] at bw8769
    obtain ⟨w8770, ew8770⟩ : ∃ w : Int32, I8759 (ad g 0) 4 = w := ⟨_, rfl⟩
    have bw8770 := BT_get hI8759.1.1 0 4 5 (0) (0) (900) (by decide) 4 (by decide) (by decide)
    rw [ew8770] at bw8770
    obtain ⟨w8771, ew8771⟩ : ∃ w : Int32, I8759 (ad g 0) 5 = w := ⟨_, rfl⟩
    have bw8771 := BT_get hI8759.1.1 0 5 6 (0) (0) (4) (by decide) 5 (by decide) (by decide)
    rw [ew8771] at bw8771
    rw [ew8768, ew8769, ew8770, ew8771, ew8753] at pI8759
    obtain ⟨w8772, ew8772⟩ : ∃ w : Int32, I8759 (ad g 0) 7 = w := ⟨_, rfl⟩
    have bw8772 := BT_get hI8759.1.1 0 7 8 (-1) (0) (1000) (by decide) 7 (by decide) (by decide)
    rw [ew8772] at bw8772
    rw [ew8772] at cv8761
    refine WQ_if_ne 43 dX11_readWants_38 rfl (fun c8772 => ?_) (fun c8772 => ?_)
    · refine WP_aload_n dX11_readWants_43 rfl ?_
      refine WQ_getim dX11_readWants_44 fX11_56 rfl (ly_is hy 0 11 rfl) ew8772 ?_
      refine WP_istore_n (ls' := [(0, _), (1, _), (2, _)]) dX11_readWants_47 (by decide) rfl ?_
      refine WP_aload_n dX11_readWants_48 rfl ?_
      refine WQ_iconst (0) (0) dX11_readWants_49 rfl rfl (fun v8774 hv8774 => ?_)
      refine WQ_bipush (6) (6) dX11_readWants_50 rfl rfl (fun v8775 hv8775 => ?_)
      refine WP_callV2 (k := 11) dX11_readWants_52 ⟨⟨⟨by decide, by decide⟩, zX11_peek⟩, lX11_59, by decide, rfl, vX11_peek.1, vX11_peek.2⟩ (ly_is hy 0 11 rfl) (sm_peekx hy hr hI8759 v8774 v8775 (by omega) (by omega) (by omega) (by omega) (by rw [ew8768, ew8769, ew8770, ew8771]; omega)) (Nat.le_of_ble_eq_true rfl) ?_
      intro r I8776 J8777 Ra hq
      obtain ⟨⟨hI8776, ec, fiI8776, ⟨pI8776, sI8776_0_15, sI8776_0_16, sI8776_0_17, sI8776_0_18⟩⟩, v8778, rfl, av8778, bv8778, cv8778⟩ := hq
      show WP _ _ _ _ (.int _ :: _) _ _ _ _
      rw [ec]
      clear ec Ra
      have fr8779 : fz 49 g [0, 30, 31, 32] I I8776 := fz_tr fr8762 (fz_mono fiI8776 (by decide))
      have HI8776 := HI8759
      rw [← fz_at fiI8776 30 (by decide) (by decide), ← fz_at fiI8776 31 (by decide) (by decide)] at HI8776
      have e8780 : I8776 (ad g 0) 15 = w8731 := by rw [sI8776_0_15]; exact e8763
      have e8781 : I8776 (ad g 0) 16 = v8758 := by rw [sI8776_0_16]; exact e8764
      have e8782 : I8776 (ad g 0) 17 = w8732 := by rw [sI8776_0_17]; exact e8765
      have e8783 : I8776 (ad g 0) 1 = L := hI8776.1.2
      have b8784 := BT_get hI8776.1.1 0 1 2 (0) (0) (900) (by decide) 1 (by decide) (by decide)
      rw [e8783] at b8784
      obtain ⟨w8785, ew8785⟩ : ∃ w : Int32, I8776 (ad g 0) 2 = w := ⟨_, rfl⟩
      have bw8785 := BT_get hI8776.1.1 0 2 3 (0) (0) (900) (by decide) 2 (by decide) (by decide)
      rw [ew8785] at bw8785
      obtain ⟨w8786, ew8786⟩ : ∃ w : Int32, I8776 (ad g 0) 3 = w := ⟨_, rfl⟩
      have bw8786 := BT_get hI8776.1.1 0 3 4 (0) (0) (900) (by decide) 3 (by decide) (by decide)
      rw [ew8786] at bw8786
      obtain ⟨w8787, ew8787⟩ : ∃ w : Int32, I8776 (ad g 0) 4 = w := ⟨_, rfl⟩
      have bw8787 := BT_get hI8776.1.1 0 4 5 (0) (0) (900) (by decide) 4 (by decide) (by decide)
      rw [ew8787] at bw8787
      obtain ⟨w8788, ew8788⟩ : ∃ w : Int32, I8776 (ad g 0) 5 = w := ⟨_, rfl⟩
      have bw8788 := BT_get hI8776.1.1 0 5 6 (0) (0) (4) (by decide) 5 (by decide) (by decide)
      rw [ew8788] at bw8788
      rw [ew8785, ew8786, ew8787, ew8788, ew8769] at pI8776
      obtain ⟨w8789, ew8789⟩ : ∃ w : Int32, I8776 (ad g 0) 7 = w := ⟨_, rfl⟩
      have bw8789 := BT_get hI8776.1.1 0 7 8 (-1) (0) (1000) (by decide) 7 (by decide) (by decide)
      rw [ew8789] at bw8789
      rw [ew8789] at cv8778
      refine WQ_if_ne 60 dX11_readWants_55 rfl (fun c8789 => ?_) (fun c8789 => ?_)
      · refine WQ_bipush (7) (7) dX11_readWants_60 rfl rfl (fun v8791 hv8791 => ?_)
        refine WP_iload_n dX11_readWants_62 rfl ?_
        refine WQ_imulK (7) dX11_readWants_63 hv8791 (by omega) (by omega) (fun v8792 hv8792 => ?_)
        refine WP_aload_n dX11_readWants_64 rfl ?_
        refine WQ_getim dX11_readWants_65 fX11_56 rfl (ly_is hy 0 11 rfl) ew8789 ?_
        refine WQ_iadd dX11_readWants_68 (by omega) (by omega) (fun v8793 hv8793 => ?_)
        refine WP_istore_n (ls' := [(0, _), (1, _), (2, _), (3, _)]) dX11_readWants_69 (by decide) rfl ?_
        refine WP_aload_n dX11_readWants_70 rfl ?_
        refine WP_getr dX11_readWants_71 fX11_117 rfl (ly_is hy 0 11 rfl) (rf hr 0 48 30 (by decide)) ?_
        refine WP_iload_n dX11_readWants_74 rfl ?_
        refine WQ_iald dX11_readWants_75 (ly_is hy 30 13 rfl) (ly_n hy 30 28 rfl) (by omega) (by omega) (fun q hq => BT_get hI8776.1.1 30 0 28 (-1) (0) (2) (by decide) q (Nat.zero_le _) hq) (fun v8794 av8794 bv8794 ev8794 => ?_)
        clear ev8794
        refine WQ_iconst (-1) (-1) dX11_readWants_76 rfl rfl (fun v8795 hv8795 => ?_)
        refine WQ_icmp_eq 86 dX11_readWants_77 rfl (fun c8795 => ?_) (fun c8795 => ?_)
        · refine WP_aload_n dX11_readWants_86 rfl ?_
          refine WP_callV0 (k := 11) dX11_readWants_87 ⟨⟨⟨by decide, by decide⟩, zX11_scan⟩, lX11_63, by decide, rfl, vX11_scan.1, vX11_scan.2⟩ (ly_is hy 0 11 rfl) (sm_scanx hy hr hI8776   (by rw [ew8787, ew8785]; omega)) (Nat.le_of_ble_eq_true rfl) ?_
          intro r I8797 J8798 Ra hq
          obtain ⟨⟨hI8797, ec, fiI8797, ⟨pI8797, sI8797_0_7, sI8797_0_15, sI8797_0_16, sI8797_0_17, sI8797_0_18⟩⟩, rfl⟩ := hq
          rw [ec]
          clear ec Ra
          have fr8799 : fz 49 g [0, 30, 31, 32] I I8797 := fz_tr fr8779 (fz_mono fiI8797 (by decide))
          have HI8797 := HI8776
          rw [← fz_at fiI8797 30 (by decide) (by decide), ← fz_at fiI8797 31 (by decide) (by decide)] at HI8797
          have e8800 : I8797 (ad g 0) 7 = w8789 := by rw [sI8797_0_7]; exact ew8789
          have e8801 : I8797 (ad g 0) 15 = w8731 := by rw [sI8797_0_15]; exact e8780
          have e8802 : I8797 (ad g 0) 16 = v8758 := by rw [sI8797_0_16]; exact e8781
          have e8803 : I8797 (ad g 0) 17 = w8732 := by rw [sI8797_0_17]; exact e8782
          have e8804 : I8797 (ad g 0) 1 = L := hI8797.1.2
          have b8805 := BT_get hI8797.1.1 0 1 2 (0) (0) (900) (by decide) 1 (by decide) (by decide)
          rw [e8804] at b8805
          obtain ⟨w8806, ew8806⟩ : ∃ w : Int32, I8797 (ad g 0) 2 = w := ⟨_, rfl⟩
          have bw8806 := BT_get hI8797.1.1 0 2 3 (0) (0) (900) (by decide) 2 (by decide) (by decide)
          rw [ew8806] at bw8806
          obtain ⟨w8807, ew8807⟩ : ∃ w : Int32, I8797 (ad g 0) 3 = w := ⟨_, rfl⟩
          have bw8807 := BT_get hI8797.1.1 0 3 4 (0) (0) (900) (by decide) 3 (by decide) (by decide)
          rw [ew8807] at bw8807
          obtain ⟨w8808, ew8808⟩ : ∃ w : Int32, I8797 (ad g 0) 4 = w := ⟨_, rfl⟩
          have bw8808 := BT_get hI8797.1.1 0 4 5 (0) (0) (900) (by decide) 4 (by decide) (by decide)
          rw [ew8808] at bw8808
          obtain ⟨w8809, ew8809⟩ : ∃ w : Int32, I8797 (ad g 0) 5 = w := ⟨_, rfl⟩
          have bw8809 := BT_get hI8797.1.1 0 5 6 (0) (0) (4) (by decide) 5 (by decide) (by decide)
          rw [ew8809] at bw8809
          rw [ew8806, ew8807, ew8808, ew8809, ew8787] at pI8797
          refine WP_aload_n dX11_readWants_90 rfl ?_
          refine WQ_iconst (1) (1) dX11_readWants_91 rfl rfl (fun v8810 hv8810 => ?_)
          refine WQ_iconst (3) (3) dX11_readWants_92 rfl rfl (fun v8811 hv8811 => ?_)
          refine WP_callV2 (k := 11) dX11_readWants_93 ⟨⟨⟨by decide, by decide⟩, zX11_number⟩, lX11_81, by decide, rfl, vX11_number.1, vX11_number.2⟩ (ly_is hy 0 11 rfl) (sm_numberx hy hr hI8797 v8810 v8811 (by omega) (by omega) (by omega) (by omega) (by rw [ew8806, ew8807, ew8808, ew8809]; omega)) (Nat.le_of_ble_eq_true rfl) ?_
          intro r I8812 J8813 Ra hq
          obtain ⟨⟨hI8812, ec, fiI8812, ⟨pI8812, sI8812_0_15, sI8812_0_16, sI8812_0_17, sI8812_0_18⟩⟩, v8814, rfl, av8814, bv8814, cv8814⟩ := hq
          show WP _ _ _ _ (.int _ :: _) _ _ _ _
          rw [ec]
          clear ec Ra
          have fr8815 : fz 49 g [0, 30, 31, 32] I I8812 := fz_tr fr8799 (fz_mono fiI8812 (by decide))
          have HI8812 := HI8797
          rw [← fz_at fiI8812 30 (by decide) (by decide), ← fz_at fiI8812 31 (by decide) (by decide)] at HI8812
          have e8816 : I8812 (ad g 0) 15 = w8731 := by rw [sI8812_0_15]; exact e8801
          have e8817 : I8812 (ad g 0) 16 = v8758 := by rw [sI8812_0_16]; exact e8802
          have e8818 : I8812 (ad g 0) 17 = w8732 := by rw [sI8812_0_17]; exact e8803
          have e8819 : I8812 (ad g 0) 1 = L := hI8812.1.2
          have b8820 := BT_get hI8812.1.1 0 1 2 (0) (0) (900) (by decide) 1 (by decide) (by decide)
          rw [e8819] at b8820
          obtain ⟨w8821, ew8821⟩ : ∃ w : Int32, I8812 (ad g 0) 2 = w := ⟨_, rfl⟩
          have bw8821 := BT_get hI8812.1.1 0 2 3 (0) (0) (900) (by decide) 2 (by decide) (by decide)
          rw [ew8821] at bw8821
          obtain ⟨w8822, ew8822⟩ : ∃ w : Int32, I8812 (ad g 0) 3 = w := ⟨_, rfl⟩
          have bw8822 := BT_get hI8812.1.1 0 3 4 (0) (0) (900) (by decide) 3 (by decide) (by decide)
          rw [ew8822] at bw8822
          obtain ⟨w8823, ew8823⟩ : ∃ w : Int32, I8812 (ad g 0) 4 = w := ⟨_, rfl⟩
          have bw8823 := BT_get hI8812.1.1 0 4 5 (0) (0) (900) (by decide) 4 (by decide) (by decide)
          rw [ew8823] at bw8823
          obtain ⟨w8824, ew8824⟩ : ∃ w : Int32, I8812 (ad g 0) 5 = w := ⟨_, rfl⟩
          have bw8824 := BT_get hI8812.1.1 0 5 6 (0) (0) (4) (by decide) 5 (by decide) (by decide)
          rw [ew8824] at bw8824
          rw [ew8821, ew8822, ew8823, ew8824, ew8807] at pI8812
          obtain ⟨w8825, ew8825⟩ : ∃ w : Int32, I8812 (ad g 0) 7 = w := ⟨_, rfl⟩
          have bw8825 := BT_get hI8812.1.1 0 7 8 (-1) (0) (1000) (by decide) 7 (by decide) (by decide)
          rw [ew8825] at bw8825
          rw [ew8825] at cv8814
          refine WQ_if_ne 101 dX11_readWants_96 rfl (fun c8825 => ?_) (fun c8825 => ?_)
          · refine WP_aload_n dX11_readWants_101 rfl ?_
            refine WP_getr dX11_readWants_102 fX11_120 rfl (ly_is hy 0 11 rfl) (rf hr 0 49 31 (by decide)) ?_
            refine WP_iload_n dX11_readWants_105 rfl ?_
            refine WP_aload_n dX11_readWants_106 rfl ?_
            refine WQ_getim dX11_readWants_107 fX11_56 rfl (ly_is hy 0 11 rfl) ew8825 ?_
            refine WQ_iast dX11_readWants_110 (ly_is hy 31 13 rfl) (ly_n hy 31 28 rfl) (by omega) (by omega) (fun I8827 eI8827 => ?_)
            have hI8827 : MP g n L I8827 := by rw [eI8827]; exact (mp_w hy hI8812 (c := 31) (mi_r hy hI8812.1 (c := 31) (0) (0) (3) (by decide) (Or.inl (by decide)) (by decide) (by omega) (by omega)) (by decide) (by decide) (Or.inl (by decide)))
            have e8828 : I8827 (ad g 0) 15 = w8731 := by rw [eI8827, pp_ne _ _ (Or.inl (ly_ne hy (by decide) (by decide) (by decide)))]; exact e8816
            have e8829 : I8827 (ad g 0) 16 = v8758 := by rw [eI8827, pp_ne _ _ (Or.inl (ly_ne hy (by decide) (by decide) (by decide)))]; exact e8817
            have e8830 : I8827 (ad g 0) 17 = w8732 := by rw [eI8827, pp_ne _ _ (Or.inl (ly_ne hy (by decide) (by decide) (by decide)))]; exact e8818
            have e8831 : I8827 (ad g 0) 1 = L := by rw [eI8827, pp_ne _ _ (Or.inl (ly_ne hy (by decide) (by decide) (by decide)))]; exact e8819
            have e8832 : I8827 (ad g 0) 2 = w8821 := by rw [eI8827, pp_ne _ _ (Or.inl (ly_ne hy (by decide) (by decide) (by decide)))]; exact ew8821
            have e8833 : I8827 (ad g 0) 3 = w8822 := by rw [eI8827, pp_ne _ _ (Or.inl (ly_ne hy (by decide) (by decide) (by decide)))]; exact ew8822
            have e8834 : I8827 (ad g 0) 4 = w8823 := by rw [eI8827, pp_ne _ _ (Or.inl (ly_ne hy (by decide) (by decide) (by decide)))]; exact ew8823
            have e8835 : I8827 (ad g 0) 5 = w8824 := by rw [eI8827, pp_ne _ _ (Or.inl (ly_ne hy (by decide) (by decide) (by decide)))]; exact ew8824
            have e8836 : I8827 (ad g 0) 7 = w8825 := by rw [eI8827, pp_ne _ _ (Or.inl (ly_ne hy (by decide) (by decide) (by decide)))]; exact ew8825
            have fr8837 : fz 49 g [0, 30, 31, 32] I I8827 := by rw [eI8827]; exact fzm_pp hy fr8815 (by decide) (by decide)
            have xI8827 := eI8827
            rw [cl (x := v8793) (n := v8793.toInt.toNat) (by omega)] at xI8827
            have XI8827 : WRx (I8827 (ad g 30)) (I8827 (ad g 31)) (7 * (I (ad g 0) 15).toInt) v8793.toInt.toNat := by rw [show I8827 (ad g 30) = I8812 (ad g 30) by rw [eI8827, pp_off _ _ (ly_ne hy (by decide) (by decide) (by decide))]]; exact WRx_b HI8812 xI8827
            clear eI8827
            refine WP_aload_n dX11_readWants_111 rfl ?_
            refine WQ_iconst (0) (0) dX11_readWants_112 rfl rfl (fun v8838 hv8838 => ?_)
            refine WQ_bipush (99) (99) dX11_readWants_113 rfl rfl (fun v8839 hv8839 => ?_)
            refine WP_callV2 (k := 11) dX11_readWants_115 ⟨⟨⟨by decide, by decide⟩, zX11_number⟩, lX11_81, by decide, rfl, vX11_number.1, vX11_number.2⟩ (ly_is hy 0 11 rfl) (sm_numberx hy hr hI8827 v8838 v8839 (by omega) (by omega) (by omega) (by omega) (by rw [e8832, e8833, e8834, e8835]; omega)) (Nat.le_of_ble_eq_true rfl) ?_
            intro r I8840 J8841 Ra hq
            obtain ⟨⟨hI8840, ec, fiI8840, ⟨pI8840, sI8840_0_15, sI8840_0_16, sI8840_0_17, sI8840_0_18⟩⟩, v8842, rfl, av8842, bv8842, cv8842⟩ := hq
            show WP _ _ _ _ (.int _ :: _) _ _ _ _
            rw [ec]
            clear ec Ra
            have fr8843 : fz 49 g [0, 30, 31, 32] I I8840 := fz_tr fr8837 (fz_mono fiI8840 (by decide))
            have XI8840 : WRx (I8840 (ad g 30)) (I8840 (ad g 31)) (7 * (I (ad g 0) 15).toInt) v8793.toInt.toNat := by rw [fz_at fiI8840 30 (by decide) (by decide), fz_at fiI8840 31 (by decide) (by decide)]; exact XI8827
            have e8844 : I8840 (ad g 0) 15 = w8731 := by rw [sI8840_0_15]; exact e8828
            have e8845 : I8840 (ad g 0) 16 = v8758 := by rw [sI8840_0_16]; exact e8829
            have e8846 : I8840 (ad g 0) 17 = w8732 := by rw [sI8840_0_17]; exact e8830
            have e8847 : I8840 (ad g 0) 1 = L := hI8840.1.2
            have b8848 := BT_get hI8840.1.1 0 1 2 (0) (0) (900) (by decide) 1 (by decide) (by decide)
            rw [e8847] at b8848
            obtain ⟨w8849, ew8849⟩ : ∃ w : Int32, I8840 (ad g 0) 2 = w := ⟨_, rfl⟩
            have bw8849 := BT_get hI8840.1.1 0 2 3 (0) (0) (900) (by decide) 2 (by decide) (by decide)
            rw [ew8849] at bw8849
            obtain ⟨w8850, ew8850⟩ : ∃ w : Int32, I8840 (ad g 0) 3 = w := ⟨_, rfl⟩
            have bw8850 := BT_get hI8840.1.1 0 3 4 (0) (0) (900) (by decide) 3 (by decide) (by decide)
            rw [ew8850] at bw8850
            obtain ⟨w8851, ew8851⟩ : ∃ w : Int32, I8840 (ad g 0) 4 = w := ⟨_, rfl⟩
            have bw8851 := BT_get hI8840.1.1 0 4 5 (0) (0) (900) (by decide) 4 (by decide) (by decide)
            rw [ew8851] at bw8851
            obtain ⟨w8852, ew8852⟩ : ∃ w : Int32, I8840 (ad g 0) 5 = w := ⟨_, rfl⟩
            have bw8852 := BT_get hI8840.1.1 0 5 6 (0) (0) (4) (by decide) 5 (by decide) (by decide)
            rw [ew8852] at bw8852
            rw [ew8849, ew8850, ew8851, ew8852, e8833] at pI8840
            obtain ⟨w8853, ew8853⟩ : ∃ w : Int32, I8840 (ad g 0) 7 = w := ⟨_, rfl⟩
            have bw8853 := BT_get hI8840.1.1 0 7 8 (-1) (0) (1000) (by decide) 7 (by decide) (by decide)
            rw [ew8853] at bw8853
            rw [ew8853] at cv8842
            refine WQ_if_ne 123 dX11_readWants_118 rfl (fun c8853 => ?_) (fun c8853 => ?_)
            · refine WP_aload_n dX11_readWants_123 rfl ?_
              refine WP_getr dX11_readWants_124 fX11_123 rfl (ly_is hy 0 11 rfl) (rf hr 0 50 32 (by decide)) ?_
              refine WP_iload_n dX11_readWants_127 rfl ?_
              refine WP_aload_n dX11_readWants_128 rfl ?_
              refine WQ_getim dX11_readWants_129 fX11_56 rfl (ly_is hy 0 11 rfl) ew8853 ?_
              refine WQ_iast dX11_readWants_132 (ly_is hy 32 13 rfl) (ly_n hy 32 28 rfl) (by omega) (by omega) (fun I8855 eI8855 => ?_)
              have hI8855 : MP g n L I8855 := by rw [eI8855]; exact (mp_w hy hI8840 (c := 32) (mi_r hy hI8840.1 (c := 32) (0) (0) (99) (by decide) (Or.inl (by decide)) (by decide) (by omega) (by omega)) (by decide) (by decide) (Or.inl (by decide)))
              have e8856 : I8855 (ad g 0) 15 = w8731 := by rw [eI8855, pp_ne _ _ (Or.inl (ly_ne hy (by decide) (by decide) (by decide)))]; exact e8844
              have e8857 : I8855 (ad g 0) 16 = v8758 := by rw [eI8855, pp_ne _ _ (Or.inl (ly_ne hy (by decide) (by decide) (by decide)))]; exact e8845
              have e8858 : I8855 (ad g 0) 17 = w8732 := by rw [eI8855, pp_ne _ _ (Or.inl (ly_ne hy (by decide) (by decide) (by decide)))]; exact e8846
              have e8859 : I8855 (ad g 0) 1 = L := by rw [eI8855, pp_ne _ _ (Or.inl (ly_ne hy (by decide) (by decide) (by decide)))]; exact e8847
              have e8860 : I8855 (ad g 0) 2 = w8849 := by rw [eI8855, pp_ne _ _ (Or.inl (ly_ne hy (by decide) (by decide) (by decide)))]; exact ew8849
              have e8861 : I8855 (ad g 0) 3 = w8850 := by rw [eI8855, pp_ne _ _ (Or.inl (ly_ne hy (by decide) (by decide) (by decide)))]; exact ew8850
              have e8862 : I8855 (ad g 0) 4 = w8851 := by rw [eI8855, pp_ne _ _ (Or.inl (ly_ne hy (by decide) (by decide) (by decide)))]; exact ew8851
              have e8863 : I8855 (ad g 0) 5 = w8852 := by rw [eI8855, pp_ne _ _ (Or.inl (ly_ne hy (by decide) (by decide) (by decide)))]; exact ew8852
              have e8864 : I8855 (ad g 0) 7 = w8853 := by rw [eI8855, pp_ne _ _ (Or.inl (ly_ne hy (by decide) (by decide) (by decide)))]; exact ew8853
              have fr8865 : fz 49 g [0, 30, 31, 32] I I8855 := by rw [eI8855]; exact fzm_pp hy fr8843 (by decide) (by decide)
              have xI8855 := eI8855
              rw [cl (x := v8793) (n := v8793.toInt.toNat) (by omega)] at xI8855
              have XI8855 : WRx (I8855 (ad g 30)) (I8855 (ad g 31)) (7 * (I (ad g 0) 15).toInt) v8793.toInt.toNat := by rw [show I8855 (ad g 30) = I8840 (ad g 30) by rw [eI8855, pp_off _ _ (ly_ne hy (by decide) (by decide) (by decide))], show I8855 (ad g 31) = I8840 (ad g 31) by rw [eI8855, pp_off _ _ (ly_ne hy (by decide) (by decide) (by decide))]]; exact XI8840
              clear eI8855
              refine WP_aload_n dX11_readWants_133 rfl ?_
              refine WP_getr dX11_readWants_134 fX11_117 rfl (ly_is hy 0 11 rfl) (rf hr 0 48 30 (by decide)) ?_
              refine WP_iload_n dX11_readWants_137 rfl ?_
              refine WP_iload_n dX11_readWants_138 rfl ?_
              refine WQ_iast dX11_readWants_139 (ly_is hy 30 13 rfl) (ly_n hy 30 28 rfl) (by omega) (by omega) (fun I8866 eI8866 => ?_)
              have hI8866 : MP g n L I8866 := by rw [eI8866]; exact (mp_w hy hI8855 (c := 30) (mi_r hy hI8855.1 (c := 30) (-1) (0) (2) (by decide) (Or.inl (by decide)) (by decide) (by omega) (by omega)) (by decide) (by decide) (Or.inl (by decide)))
              have e8867 : I8866 (ad g 0) 15 = w8731 := by rw [eI8866, pp_ne _ _ (Or.inl (ly_ne hy (by decide) (by decide) (by decide)))]; exact e8856
              have e8868 : I8866 (ad g 0) 16 = v8758 := by rw [eI8866, pp_ne _ _ (Or.inl (ly_ne hy (by decide) (by decide) (by decide)))]; exact e8857
              have e8869 : I8866 (ad g 0) 17 = w8732 := by rw [eI8866, pp_ne _ _ (Or.inl (ly_ne hy (by decide) (by decide) (by decide)))]; exact e8858
              have e8870 : I8866 (ad g 0) 1 = L := by rw [eI8866, pp_ne _ _ (Or.inl (ly_ne hy (by decide) (by decide) (by decide)))]; exact e8859
              have e8871 : I8866 (ad g 0) 2 = w8849 := by rw [eI8866, pp_ne _ _ (Or.inl (ly_ne hy (by decide) (by decide) (by decide)))]; exact e8860
              have e8872 : I8866 (ad g 0) 3 = w8850 := by rw [eI8866, pp_ne _ _ (Or.inl (ly_ne hy (by decide) (by decide) (by decide)))]; exact e8861
              have e8873 : I8866 (ad g 0) 4 = w8851 := by rw [eI8866, pp_ne _ _ (Or.inl (ly_ne hy (by decide) (by decide) (by decide)))]; exact e8862
              have e8874 : I8866 (ad g 0) 5 = w8852 := by rw [eI8866, pp_ne _ _ (Or.inl (ly_ne hy (by decide) (by decide) (by decide)))]; exact e8863
              have e8875 : I8866 (ad g 0) 7 = w8853 := by rw [eI8866, pp_ne _ _ (Or.inl (ly_ne hy (by decide) (by decide) (by decide)))]; exact e8864
              have fr8876 : fz 49 g [0, 30, 31, 32] I I8866 := by rw [eI8866]; exact fzm_pp hy fr8865 (by decide) (by decide)
              have xI8866 := eI8866
              rw [cl (x := v8793) (n := v8793.toInt.toNat) (by omega)] at xI8866
              have XI8866 : WRt (I8866 (ad g 30)) (I8866 (ad g 31)) (7 * (I (ad g 0) 15).toInt) := by rw [show I8866 (ad g 31) = I8855 (ad g 31) by rw [eI8866, pp_off _ _ (ly_ne hy (by decide) (by decide) (by decide))]]; exact WRx_a XI8855 xI8866 (by omega)
              clear eI8866
              refine WQ_iconst (1) (1) dX11_readWants_140 rfl rfl (fun v8877 hv8877 => ?_)
              exact WP_zret dX11_readWants_141 rfl (nar_z (by omega)) ⟨⟨hI8866, rfl, fr8876, (by rw [e8871, e8872, e8873, e8874, e8867, e8869, ew8728]; omega)⟩, _, rfl, by omega, by omega, (fun _ => by rw [show I8866 (ad g 0) 15 = I (ad g 0) 15 from (by rw [e8867, ew8731] <;> exact (eq32 _ _).mpr (by omega))]; exact XI8866)⟩
            · refine WQ_iconst (0) (0) dX11_readWants_121 rfl rfl (fun v8878 hv8878 => ?_)
              exact WP_zret dX11_readWants_122 rfl (nar_z (by omega)) ⟨⟨hI8840, rfl, fr8843, (by rw [ew8849, ew8850, ew8851, ew8852, e8844, e8846, ew8728]; omega)⟩, _, rfl, by omega, by omega, (fun h => False.elim (by omega))⟩
          · refine WQ_iconst (0) (0) dX11_readWants_99 rfl rfl (fun v8879 hv8879 => ?_)
            exact WP_zret dX11_readWants_100 rfl (nar_z (by omega)) ⟨⟨hI8812, rfl, fr8815, (by rw [ew8821, ew8822, ew8823, ew8824, e8816, e8818, ew8728]; omega)⟩, _, rfl, by omega, by omega, (fun h => False.elim (by omega))⟩
        · refine WP_aload_n dX11_readWants_80 rfl ?_
          refine WQ_iconst (3) (3) dX11_readWants_81 rfl rfl (fun v8880 hv8880 => ?_)
          refine WP_callV1 (k := 11) dX11_readWants_82 ⟨⟨⟨by decide, by decide⟩, zX11_bad⟩, lX11_49, by decide, rfl, vX11_bad.1, vX11_bad.2⟩ (ly_is hy 0 11 rfl) (sm_badx hy hr hI8776 v8880  (by rw [ew8785, ew8786, ew8787, ew8788]; omega)) (Nat.le_of_ble_eq_true rfl) ?_
          intro r I8881 J8882 Ra hq
          obtain ⟨⟨hI8881, ec, fiI8881, ⟨pI8881, sI8881_0_15, sI8881_0_16, sI8881_0_17, sI8881_0_18⟩⟩, v8883, rfl, av8883, bv8883⟩ := hq
          show WP _ _ _ _ (.int _ :: _) _ _ _ _
          rw [ec]
          clear ec Ra
          have fr8884 : fz 49 g [0, 30, 31, 32] I I8881 := fz_tr fr8779 (fz_mono fiI8881 (by decide))
          have HI8881 := HI8776
          rw [← fz_at fiI8881 30 (by decide) (by decide), ← fz_at fiI8881 31 (by decide) (by decide)] at HI8881
          have e8885 : I8881 (ad g 0) 15 = w8731 := by rw [sI8881_0_15]; exact e8780
          have e8886 : I8881 (ad g 0) 16 = v8758 := by rw [sI8881_0_16]; exact e8781
          have e8887 : I8881 (ad g 0) 17 = w8732 := by rw [sI8881_0_17]; exact e8782
          have e8888 : I8881 (ad g 0) 1 = L := hI8881.1.2
          have b8889 := BT_get hI8881.1.1 0 1 2 (0) (0) (900) (by decide) 1 (by decide) (by decide)
          rw [e8888] at b8889
          obtain ⟨w8890, ew8890⟩ : ∃ w : Int32, I8881 (ad g 0) 2 = w := ⟨_, rfl⟩
          have bw8890 := BT_get hI8881.1.1 0 2 3 (0) (0) (900) (by decide) 2 (by decide) (by decide)
          rw [ew8890] at bw8890
          obtain ⟨w8891, ew8891⟩ : ∃ w : Int32, I8881 (ad g 0) 3 = w := ⟨_, rfl⟩
          have bw8891 := BT_get hI8881.1.1 0 3 4 (0) (0) (900) (by decide) 3 (by decide) (by decide)
          rw [ew8891] at bw8891
          obtain ⟨w8892, ew8892⟩ : ∃ w : Int32, I8881 (ad g 0) 4 = w := ⟨_, rfl⟩
          have bw8892 := BT_get hI8881.1.1 0 4 5 (0) (0) (900) (by decide) 4 (by decide) (by decide)
          rw [ew8892] at bw8892
          obtain ⟨w8893, ew8893⟩ : ∃ w : Int32, I8881 (ad g 0) 5 = w := ⟨_, rfl⟩
          have bw8893 := BT_get hI8881.1.1 0 5 6 (0) (0) (4) (by decide) 5 (by decide) (by decide)
          rw [ew8893] at bw8893
          rw [ew8890, ew8891, ew8892, ew8893, ew8786] at pI8881
          exact WP_zret dX11_readWants_85 rfl (nar_z (by omega)) ⟨⟨hI8881, rfl, fr8884, (by rw [ew8890, ew8891, ew8892, ew8893, e8885, e8887, ew8728]; omega)⟩, _, rfl, by omega, by omega, (fun h => False.elim (by omega))⟩
      · refine WQ_iconst (0) (0) dX11_readWants_58 rfl rfl (fun v8894 hv8894 => ?_)
        exact WP_zret dX11_readWants_59 rfl (nar_z (by omega)) ⟨⟨hI8776, rfl, fr8779, (by rw [ew8785, ew8786, ew8787, ew8788, e8780, e8782, ew8728]; omega)⟩, _, rfl, by omega, by omega, (fun h => False.elim (by omega))⟩
    · refine WQ_iconst (0) (0) dX11_readWants_41 rfl rfl (fun v8895 hv8895 => ?_)
      exact WP_zret dX11_readWants_42 rfl (nar_z (by omega)) ⟨⟨hI8759, rfl, fr8762, (by rw [ew8768, ew8769, ew8770, ew8771, e8763, e8765, ew8728]; omega)⟩, _, rfl, by omega, by omega, (fun h => False.elim (by omega))⟩
  · refine WQ_iconst (0) (0) dX11_readWants_19 rfl rfl (fun v8896 hv8896 => ?_)
    exact WP_zret dX11_readWants_20 rfl (nar_z (by omega)) ⟨⟨hI8744, rfl, fr8747, (by rw [ew8752, ew8753, ew8754, ew8755, e8748, e8749, ew8728]; omega)⟩, _, rfl, by omega, by omega, (fun h => False.elim (by omega))⟩
