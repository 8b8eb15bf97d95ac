set_option maxHeartbeats 4000000 in
set_option maxRecDepth 100000 in
theorem sx_pass_6 {g : GG} {n : Int} {L : Int32} (hy : LyX g)  {I : pI} {J : pJ} {R : pR} (hr : RfX g R) (hP : NL g R) (hT : R (ad g 5) 0 = some (ad g 6)) (hI : XI g n L I) (a : Int32)  (hn : 0 ≤ n ∧ n ≤ 40000) (hb : (I (ad g 53) 1).toInt ≤ 23760 * n - 1663200) : SP g mX10_pass [.ref (ad g 0), .int a] I J R (fun r I' J' R' => (XI g n L I' ∧ (RfX g R' ∧ (R' (ad g 5) 0 = R (ad g 5) 0 ∧ R' (ad g 0) 10 = R (ad g 0) 10) ∧ NL g R') ∧ True) ∧ ∃ v : Int32, r = some (.int v)) := by
  refine SP_of ⟨by decide, rfl⟩ (Nat.le_of_ble_eq_true rfl) ?_
  have e14769 : I (ad g 1) 1 = L := hI.2
  have b14770 := BT_get hI.1 1 1 2 (0) (0) (900) (by decide) 1 (by decide) (by decide)
  rw [e14769] at b14770
  obtain ⟨w14771, ew14771⟩ : ∃ w : Int32, I (ad g 53) 1 = w := ⟨_, rfl⟩
  have bw14771 := BT_get hI.1 53 1 2 (0) (23760) (0) (by decide) 1 (by decide) (by decide)
  rw [ew14771] at bw14771
  rw [ew14771] at hb
  refine WP_iload_n dX10_pass_0 rfl ?_
  refine WQ_if_lt 10 dX10_pass_1 rfl (fun c14771 => ?_) (fun c14771 => ?_)
  · refine WQ_bipush (-2) (-2) dX10_pass_10 rfl rfl (fun v14773 hv14773 => ?_)
    exact WP_iret dX10_pass_12 rfl ⟨⟨hI, ⟨hr, ⟨hT.trans hT.symm, rfl⟩, hP⟩, trivial⟩, _, rfl⟩
  · refine WP_iload_n dX10_pass_4 rfl ?_
    refine WQ_bipush (70) (70) dX10_pass_5 rfl rfl (fun v14774 hv14774 => ?_)
    refine WQ_icmp_le 13 dX10_pass_7 rfl (fun c14774 => ?_) (fun c14774 => ?_)
    · refine WQ_iconst (0) (0) dX10_pass_13 rfl rfl (fun v14776 hv14776 => ?_)
      refine WP_istore_n (ls' := [(0, _), (1, _), (2, _)]) dX10_pass_14 (by decide) rfl ?_
      have lp15_14780 : ∀ (mz : Nat) (i14777 : Int32) (I14778 : pI) (J14779 : pJ) (RI14778 : pR), RfX g RI14778 → RI14778 (ad g 5) 0 = some (ad g 6) → RI14778 (ad g 0) 10 = R (ad g 0) 10 → NL g RI14778 → XI g n L I14778 → ∀ (w14780 : Int32), I14778 (ad g 53) 1 = w14780 → 0 ≤ i14777.toInt → i14777.toInt ≤ 70 → w14780.toInt ≤ w14771.toInt + 23760 * i14777.toInt → i14777.toInt ≤ a.toInt → (71 - i14777.toInt).toNat < mz → WP g mX10_pass 15 [(0, .ref (ad g 0)), (1, .int a), (2, .int i14777)] [] I14778 J14779 RI14778 (fun r I' J' R' => (XI g n L I' ∧ (RfX g R' ∧ (R' (ad g 5) 0 = R (ad g 5) 0 ∧ R' (ad g 0) 10 = R (ad g 0) 10) ∧ NL g R') ∧ True) ∧ ∃ v : Int32, r = some (.int v)) := by
        intro mz
        induction mz with
        | zero =>
          intro i14777 I14778 J14779 RI14778 hrI14778 hTI14778 hSI14778 hPI14778 hI14778 w14780 ew14780 ai14777 bi14777 j0_I14778 j1_I14778 hmlp15_14780
          exact absurd hmlp15_14780 (Nat.not_lt_zero _)
        | succ mz ihlp15_14780 =>
          intro i14777 I14778 J14779 RI14778 hrI14778 hTI14778 hSI14778 hPI14778 hI14778 w14780 ew14780 ai14777 bi14777 j0_I14778 j1_I14778 hmlp15_14780
          have bw14780 := BT_get hI14778.1 53 1 2 (0) (23760) (0) (by decide) 1 (by decide) (by decide)
          rw [ew14780] at bw14780
          have e14782 : I14778 (ad g 1) 1 = L := hI14778.2
          have b14783 := BT_get hI14778.1 1 1 2 (0) (0) (900) (by decide) 1 (by decide) (by decide)
          rw [e14782] at b14783
          refine WP_iload_n dX10_pass_15 rfl ?_
          refine WP_iload_n dX10_pass_16 rfl ?_
          refine WQ_icmp_ge 38 dX10_pass_17 rfl (fun c14783 => ?_) (fun c14783 => ?_)
          · refine WP_aload_n dX10_pass_38 rfl ?_
            refine WP_getr dX10_pass_39 fX10_62 rfl (lyx_is hy 0 10 rfl) (rfx hrI14778 0 5 53 (by decide)) ?_
            refine WQ_getiu dX10_pass_42 fX10_232 rfl (lyx_is hy 53 4 rfl) (fun v14785 ev14785 => ?_)
            exact WP_iret dX10_pass_45 rfl ⟨⟨hI14778, ⟨hrI14778, ⟨hTI14778.trans hT.symm, hSI14778⟩, hPI14778⟩, trivial⟩, _, rfl⟩
          · refine WP_aload_n dX10_pass_20 rfl ?_
            refine WP_getr dX10_pass_21 fX10_55 rfl (lyx_is hy 0 10 rfl) (rfx hrI14778 0 4 49 (by decide)) ?_
            refine WP_aload_n dX10_pass_24 rfl ?_
            refine WP_getr dX10_pass_25 fX10_62 rfl (lyx_is hy 0 10 rfl) (rfx hrI14778 0 5 53 (by decide)) ?_
            refine WQ_iconst (1) (1) dX10_pass_28 rfl rfl (fun v14786 hv14786 => ?_)
            refine WP_callV2 (k := 9) dX10_pass_29 ⟨⟨⟨by decide, by decide⟩, zX9_passDay⟩, lX10_228, by decide, rfl, vX9_passDay.1, vX9_passDay.2⟩ (lyx_is hy 49 9 rfl) (sx_passDay_53_6 hy hrI14778 hPI14778 hTI14778 hI14778 v14786 (by omega) (by omega) (by omega) (by rw [ew14780]; omega)) (Nat.le_of_ble_eq_true rfl) ?_
            intro r I14787 J14788 R14789 hq
            obtain ⟨⟨hI14787, ⟨hrI14787, ⟨htI14787, hsI14787⟩, hpI14787⟩, fiI14787, pI14787⟩, rfl⟩ := hq
            have ht_I14787 := htI14787.trans hTI14778
            have hs_I14787 : R14789 (ad g 0) 10 = R (ad g 0) 10 := hsI14787.trans hSI14778
            have e14790 : I14787 (ad g 1) 1 = L := hI14787.2
            have b14791 := BT_get hI14787.1 1 1 2 (0) (0) (900) (by decide) 1 (by decide) (by decide)
            rw [e14790] at b14791
            obtain ⟨w14792, ew14792⟩ : ∃ w : Int32, I14787 (ad g 53) 1 = w := ⟨_, rfl⟩
            have bw14792 := BT_get hI14787.1 53 1 2 (0) (23760) (0) (by decide) 1 (by decide) (by decide)
            rw [ew14792] at bw14792
            rw [ew14792, ew14780] at pI14787
            refine WP_iinc (ls' := [(0, _), (1, _), (2, _)]) dX10_pass_32 rfl (by decide) rfl ?_
            have hv14793 : (i14777 + Int32.ofInt (1)).toInt = i14777.toInt + (1) := ia_n rfl (by omega) (by omega)
            generalize i14777 + Int32.ofInt (1) = v14793 at hv14793 ⊢
            refine WP_goto 15 dX10_pass_35 rfl ?_
            exact WP_sub (fc rfl (fc rfl (fc rfl fn))) (ihlp15_14780 v14793 I14787 J14788 R14789 hrI14787 ht_I14787 hs_I14787 hpI14787 hI14787 w14792 ew14792 (by omega) (by omega) (by omega) (by omega) (by omega))
      exact WP_sub (fc rfl (fc rfl (fc rfl fn))) (lp15_14780 _ v14776 I J R hr hT rfl hP hI w14771 ew14771 (by omega) (by omega) (by omega) (by omega) (Nat.lt_succ_self _))
    · refine WQ_bipush (-2) (-2) dX10_pass_10 rfl rfl (fun v14794 hv14794 => ?_)
      exact WP_iret dX10_pass_12 rfl ⟨⟨hI, ⟨hr, ⟨hT.trans hT.symm, rfl⟩, hP⟩, trivial⟩, _, rfl⟩
set_option maxHeartbeats 4000000 in
set_option maxRecDepth 100000 in
theorem sx_worthOfAll_6 {g : GG} {n : Int} {L : Int32} (hy : LyX g)  {I : pI} {J : pJ} {R : pR} (hr : RfX g R) (hP : NL g R) (hT : R (ad g 5) 0 = some (ad g 6)) (hI : XI g n L I) (ra : Int32) (we : Int32) (ra_lo : 0 ≤ ra.toInt) (ra_hi : ra.toInt ≤ 18) (we_lo : 1 ≤ we.toInt) (we_hi : we.toInt ≤ 4) (hn : 0 ≤ n ∧ n ≤ 40000) : SP g mX10_worthOfAll [.ref (ad g 0), .int ra, .int we] I J R (fun r I' J' R' => (XI g n L I' ∧ (RfX g R' ∧ (R' (ad g 5) 0 = R (ad g 5) 0 ∧ R' (ad g 0) 10 = R (ad g 0) 10) ∧ NL g R')) ∧ ∃ v : Int32, r = some (.int v)) := by
  refine SP_of ⟨by decide, rfl⟩ (Nat.le_of_ble_eq_true rfl) ?_
  have e14795 : I (ad g 1) 1 = L := hI.2
  have b14796 := BT_get hI.1 1 1 2 (0) (0) (900) (by decide) 1 (by decide) (by decide)
  rw [e14795] at b14796
  refine WP_aload_n dX10_worthOfAll_0 rfl ?_
  refine WP_getr dX10_worthOfAll_1 fX10_66 rfl (lyx_is hy 0 10 rfl) (rfx hr 0 6 56 (by decide)) ?_
  refine WP_aload_n dX10_worthOfAll_4 rfl ?_
  refine WP_getr dX10_worthOfAll_5 fX10_62 rfl (lyx_is hy 0 10 rfl) (rfx hr 0 5 53 (by decide)) ?_
  refine WP_callV1 (k := 4) dX10_worthOfAll_8 ⟨⟨⟨by decide, by decide⟩, zX4_become⟩, lX10_249, by decide, rfl, vX4_become.1, vX4_become.2⟩ (lyx_is hy 56 4 rfl) (sx_becomef_56_53 hy hr hI  ) (Nat.le_of_ble_eq_true rfl) ?_
  intro r I14797 J14798 Ra hq
  obtain ⟨⟨hI14797, ec, fiI14797⟩, rfl⟩ := hq
  rw [ec]
  clear ec Ra
  have e14799 : I14797 (ad g 1) 1 = L := hI14797.2
  have b14800 := BT_get hI14797.1 1 1 2 (0) (0) (900) (by decide) 1 (by decide) (by decide)
  rw [e14799] at b14800
  refine WP_aload_n dX10_worthOfAll_11 rfl ?_
  refine WP_getr dX10_worthOfAll_12 fX10_66 rfl (lyx_is hy 0 10 rfl) (rfx hr 0 6 56 (by decide)) ?_
  refine WP_aload_n dX10_worthOfAll_15 rfl ?_
  refine WP_getr dX10_worthOfAll_16 fX10_33 rfl (lyx_is hy 0 10 rfl) (rfx hr 0 2 5 (by decide)) ?_
  refine WP_getr dX10_worthOfAll_19 fX10_102 rfl (lyx_is hy 5 0 rfl) hT ?_
  refine WP_callV1 (k := 4) dX10_worthOfAll_22 ⟨⟨⟨by decide, by decide⟩, zX4_begin⟩, lX10_246, by decide, rfl, vX4_begin.1, vX4_begin.2⟩ (lyx_is hy 56 4 rfl) (sx_beginf_56_6 hy hr hI14797   (by omega)) (Nat.le_of_ble_eq_true rfl) ?_
  intro r I14801 J14802 Ra hq
  obtain ⟨⟨hI14801, ec, fiI14801, pI14801⟩, rfl⟩ := hq
  rw [ec]
  clear ec Ra
  have e14803 : I14801 (ad g 1) 1 = L := hI14801.2
  have b14804 := BT_get hI14801.1 1 1 2 (0) (0) (900) (by decide) 1 (by decide) (by decide)
  rw [e14803] at b14804
  obtain ⟨w14805, ew14805⟩ : ∃ w : Int32, I14801 (ad g 56) 1 = w := ⟨_, rfl⟩
  have bw14805 := BT_get hI14801.1 56 1 2 (0) (23760) (700000) (by decide) 1 (by decide) (by decide)
  rw [ew14805] at bw14805
  rw [ew14805] at pI14801
  refine WP_aload_n dX10_worthOfAll_25 rfl ?_
  refine WP_getr dX10_worthOfAll_26 fX10_33 rfl (lyx_is hy 0 10 rfl) (rfx hr 0 2 5 (by decide)) ?_
  refine WP_iload_n dX10_worthOfAll_29 rfl ?_
  refine WQ_bipush (50) (50) dX10_worthOfAll_30 rfl rfl (fun v14806 hv14806 => ?_)
  refine WQ_imulk (50) dX10_worthOfAll_32 hv14806 (by omega) (by omega) (fun v14807 hv14807 => ?_)
  refine WP_callV1 (k := 0) dX10_worthOfAll_33 ⟨⟨⟨by decide, by decide⟩, zX0_lossesAt⟩, lX10_344, by decide, rfl, vX0_lossesAt.1, vX0_lossesAt.2⟩ (lyx_is hy 5 0 rfl) (sx_lossesAtf_6 hy hr hT hI14801 v14807 (by omega) (by omega)) (Nat.le_of_ble_eq_true rfl) ?_
  intro r I14808 J14809 Ra hq
  obtain ⟨⟨hI14808, ec, fiI14808⟩, rfl⟩ := hq
  rw [ec]
  clear ec Ra
  have e14810 : I14808 (ad g 56) 1 = w14805 := by rw [fz_at fiI14808 56 (by decide) (by decide)]; exact ew14805
  have e14811 : I14808 (ad g 1) 1 = L := hI14808.2
  have b14812 := BT_get hI14808.1 1 1 2 (0) (0) (900) (by decide) 1 (by decide) (by decide)
  rw [e14811] at b14812
  refine WQ_iconst (0) (0) dX10_worthOfAll_36 rfl rfl (fun v14813 hv14813 => ?_)
  refine WP_istore_n (ls' := [(0, _), (1, _), (2, _), (3, _)]) dX10_worthOfAll_37 (by decide) rfl ?_
  have lp38_14817 : ∀ (mz : Nat) (i14814 : Int32) (I14815 : pI) (J14816 : pJ) (RI14815 : pR), RfX g RI14815 → RI14815 (ad g 5) 0 = some (ad g 6) → RI14815 (ad g 0) 10 = R (ad g 0) 10 → NL g RI14815 → XI g n L I14815 → ∀ (w14817 : Int32), I14815 (ad g 56) 1 = w14817 → 0 ≤ i14814.toInt → i14814.toInt ≤ 28 → w14817.toInt ≤ 23760 * i14814.toInt → (29 - i14814.toInt).toNat < mz → WP g mX10_worthOfAll 38 [(0, .ref (ad g 0)), (1, .int ra), (2, .int we), (3, .int i14814)] [] I14815 J14816 RI14815 (fun r I' J' R' => (XI g n L I' ∧ (RfX g R' ∧ (R' (ad g 5) 0 = R (ad g 5) 0 ∧ R' (ad g 0) 10 = R (ad g 0) 10) ∧ NL g R')) ∧ ∃ v : Int32, r = some (.int v)) := by
    intro mz
    induction mz with
    | zero =>
      intro i14814 I14815 J14816 RI14815 hrI14815 hTI14815 hSI14815 hPI14815 hI14815 w14817 ew14817 ai14814 bi14814 j0_I14815 hmlp38_14817
      exact absurd hmlp38_14817 (Nat.not_lt_zero _)
    | succ mz ihlp38_14817 =>
      intro i14814 I14815 J14816 RI14815 hrI14815 hTI14815 hSI14815 hPI14815 hI14815 w14817 ew14817 ai14814 bi14814 j0_I14815 hmlp38_14817
      have bw14817 := BT_get hI14815.1 56 1 2 (0) (23760) (700000) (by decide) 1 (by decide) (by decide)
      rw [ew14817] at bw14817
      have e14819 : I14815 (ad g 1) 1 = L := hI14815.2
      have b14820 := BT_get hI14815.1 1 1 2 (0) (0) (900) (by decide) 1 (by decide) (by decide)
      rw [e14819] at b14820
      refine WP_iload_n dX10_worthOfAll_38 rfl ?_
      refine WP_iload_n dX10_worthOfAll_39 rfl ?_
      refine WQ_bipush (7) (7) dX10_worthOfAll_40 rfl rfl (fun v14821 hv14821 => ?_)
      refine WQ_imulk (7) dX10_worthOfAll_42 hv14821 (by omega) (by omega) (fun v14822 hv14822 => ?_)
      refine WQ_icmp_ge 64 dX10_worthOfAll_43 rfl (fun c14822 => ?_) (fun c14822 => ?_)
      · refine WP_aload_n dX10_worthOfAll_64 rfl ?_
        refine WP_getr dX10_worthOfAll_65 fX10_33 rfl (lyx_is hy 0 10 rfl) (rfx hrI14815 0 2 5 (by decide)) ?_
        refine WP_callV0 (k := 0) dX10_worthOfAll_68 ⟨⟨⟨by decide, by decide⟩, zX0_lossesAsTold⟩, lX10_347, by decide, rfl, vX0_lossesAsTold.1, vX0_lossesAsTold.2⟩ (lyx_is hy 5 0 rfl) (sx_lossesAsToldf_6 hy hrI14815 hTI14815 hI14815  ) (Nat.le_of_ble_eq_true rfl) ?_
        intro r I14824 J14825 Ra hq
        obtain ⟨⟨hI14824, ec, fiI14824⟩, rfl⟩ := hq
        rw [ec]
        clear ec Ra
        have e14826 : I14824 (ad g 56) 1 = w14817 := by rw [fz_at fiI14824 56 (by decide) (by decide)]; exact ew14817
        have e14827 : I14824 (ad g 1) 1 = L := hI14824.2
        have b14828 := BT_get hI14824.1 1 1 2 (0) (0) (900) (by decide) 1 (by decide) (by decide)
        rw [e14827] at b14828
        refine WP_aload_n dX10_worthOfAll_71 rfl ?_
        refine WP_getr dX10_worthOfAll_72 fX10_66 rfl (lyx_is hy 0 10 rfl) (rfx hrI14815 0 6 56 (by decide)) ?_
        refine WQ_iconst (4) (4) dX10_worthOfAll_75 rfl rfl (fun v14829 hv14829 => ?_)
        refine WP_callV1 (k := 4) dX10_worthOfAll_76 ⟨⟨⟨by decide, by decide⟩, zX4_sum⟩, lX10_350, by decide, rfl, vX4_sum.1, vX4_sum.2⟩ (lyx_is hy 56 4 rfl) (sx_sum_56 hy hrI14815 hI14824 v14829 (by omega) (by omega)) (Nat.le_of_ble_eq_true rfl) ?_
        intro r Ia Ja Ra hq
        obtain ⟨⟨ea, eb, ec⟩, v14830, rfl⟩ := hq
        show WP _ _ _ _ (.int _ :: _) _ _ _ _
        rw [ea, eb, ec]
        clear ea eb ec Ia Ja Ra
        exact WP_iret dX10_worthOfAll_79 rfl ⟨⟨hI14824, ⟨hrI14815, ⟨hTI14815.trans hT.symm, hSI14815⟩, hPI14815⟩⟩, _, rfl⟩
      · refine WP_aload_n dX10_worthOfAll_46 rfl ?_
        refine WP_getr dX10_worthOfAll_47 fX10_55 rfl (lyx_is hy 0 10 rfl) (rfx hrI14815 0 4 49 (by decide)) ?_
        refine WP_aload_n dX10_worthOfAll_50 rfl ?_
        refine WP_getr dX10_worthOfAll_51 fX10_66 rfl (lyx_is hy 0 10 rfl) (rfx hrI14815 0 6 56 (by decide)) ?_
        refine WQ_iconst (1) (1) dX10_worthOfAll_54 rfl rfl (fun v14831 hv14831 => ?_)
        refine WP_callV2 (k := 9) dX10_worthOfAll_55 ⟨⟨⟨by decide, by decide⟩, zX9_passDay⟩, lX10_228, by decide, rfl, vX9_passDay.1, vX9_passDay.2⟩ (lyx_is hy 49 9 rfl) (sx_passDay_56_6 hy hrI14815 hPI14815 hTI14815 hI14815 v14831 (by omega) (by omega) (by omega) (by rw [ew14817]; omega)) (Nat.le_of_ble_eq_true rfl) ?_
        intro r I14832 J14833 R14834 hq
        obtain ⟨⟨hI14832, ⟨hrI14832, ⟨htI14832, hsI14832⟩, hpI14832⟩, fiI14832, pI14832⟩, rfl⟩ := hq
        have ht_I14832 := htI14832.trans hTI14815
        have hs_I14832 : R14834 (ad g 0) 10 = R (ad g 0) 10 := hsI14832.trans hSI14815
        have e14835 : I14832 (ad g 1) 1 = L := hI14832.2
        have b14836 := BT_get hI14832.1 1 1 2 (0) (0) (900) (by decide) 1 (by decide) (by decide)
        rw [e14835] at b14836
        obtain ⟨w14837, ew14837⟩ : ∃ w : Int32, I14832 (ad g 56) 1 = w := ⟨_, rfl⟩
        have bw14837 := BT_get hI14832.1 56 1 2 (0) (23760) (700000) (by decide) 1 (by decide) (by decide)
        rw [ew14837] at bw14837
        rw [ew14837, ew14817] at pI14832
        refine WP_iinc (ls' := [(0, _), (1, _), (2, _), (3, _)]) dX10_worthOfAll_58 rfl (by decide) rfl ?_
        have hv14838 : (i14814 + Int32.ofInt (1)).toInt = i14814.toInt + (1) := ia_n rfl (by omega) (by omega)
        generalize i14814 + Int32.ofInt (1) = v14838 at hv14838 ⊢
        refine WP_goto 38 dX10_worthOfAll_61 rfl ?_
        exact WP_sub (fc rfl (fc rfl (fc rfl (fc rfl fn)))) (ihlp38_14817 v14838 I14832 J14833 R14834 hrI14832 ht_I14832 hs_I14832 hpI14832 hI14832 w14837 ew14837 (by omega) (by omega) (by omega) (by omega))
  exact WP_sub (fc rfl (fc rfl (fc rfl (fc rfl fn)))) (lp38_14817 _ v14813 I14808 J14809 R hr hT rfl hP hI14808 w14805 e14810 (by omega) (by omega) (by omega) (Nat.lt_succ_self _))
set_option maxHeartbeats 4000000 in
set_option maxRecDepth 100000 in
theorem sx_worthAt_6 {g : GG} {n : Int} {L : Int32} (hy : LyX g)  {I : pI} {J : pJ} {R : pR} (hr : RfX g R) (hP : NL g R) (hT : R (ad g 5) 0 = some (ad g 6)) (hI : XI g n L I) (a : Int32) (b : Int32)  (hn : 0 ≤ n ∧ n ≤ 40000) : SP g mX10_worthAt [.ref (ad g 0), .int a, .int b] I J R (fun r I' J' R' => (XI g n L I' ∧ (RfX g R' ∧ (R' (ad g 5) 0 = R (ad g 5) 0 ∧ R' (ad g 0) 10 = R (ad g 0) 10) ∧ NL g R')) ∧ ∃ v : Int32, r = some (.int v)) := by
  refine SP_of ⟨by decide, rfl⟩ (Nat.le_of_ble_eq_true rfl) ?_
  have e14839 : I (ad g 1) 1 = L := hI.2
  have b14840 := BT_get hI.1 1 1 2 (0) (0) (900) (by decide) 1 (by decide) (by decide)
  rw [e14839] at b14840
  refine WP_iload_n dX10_worthAt_0 rfl ?_
  refine WQ_if_lt 17 dX10_worthAt_1 rfl (fun c14840 => ?_) (fun c14840 => ?_)
  · refine WQ_bipush (-2) (-2) dX10_worthAt_17 rfl rfl (fun v14842 hv14842 => ?_)
    refine WP_goto 28 dX10_worthAt_19 rfl ?_
    exact WP_iret dX10_worthAt_28 rfl ⟨⟨hI, ⟨hr, ⟨hT.trans hT.symm, rfl⟩, hP⟩⟩, _, rfl⟩
  · refine WP_iload_n dX10_worthAt_4 rfl ?_
    refine WQ_bipush (18) (18) dX10_worthAt_5 rfl rfl (fun v14843 hv14843 => ?_)
    refine WQ_icmp_gt 17 dX10_worthAt_7 rfl (fun c14843 => ?_) (fun c14843 => ?_)
    · refine WQ_bipush (-2) (-2) dX10_worthAt_17 rfl rfl (fun v14845 hv14845 => ?_)
      refine WP_goto 28 dX10_worthAt_19 rfl ?_
      exact WP_iret dX10_worthAt_28 rfl ⟨⟨hI, ⟨hr, ⟨hT.trans hT.symm, rfl⟩, hP⟩⟩, _, rfl⟩
    · refine WP_iload_n dX10_worthAt_10 rfl ?_
      refine WP_callS1 dX10_worthAt_11 ⟨⟨⟨by decide, by decide⟩, zX10_isWeeks⟩, lX10_253, tX10_isWeeks⟩ (sx_isWeeks hy hr hI b ) (Nat.le_of_ble_eq_true rfl) ?_
      intro r Ia Ja Ra hq
      obtain ⟨⟨ea, eb, ec⟩, v14846, rfl, av14846, bv14846, cv14846⟩ := hq
      show WP _ _ _ _ (.int _ :: _) _ _ _ _
      rw [ea, eb, ec]
      clear ea eb ec Ia Ja Ra
      refine WQ_if_ne 22 dX10_worthAt_14 rfl (fun c14846 => ?_) (fun c14846 => ?_)
      · refine WP_aload_n dX10_worthAt_22 rfl ?_
        refine WP_iload_n dX10_worthAt_23 rfl ?_
        refine WP_iload_n dX10_worthAt_24 rfl ?_
        refine WP_callV2 (k := 10) dX10_worthAt_25 ⟨⟨⟨by decide, by decide⟩, zX10_worthOfAll⟩, lX10_256, by decide, rfl, vX10_worthOfAll.1, vX10_worthOfAll.2⟩ (lyx_is hy 0 10 rfl) (sx_worthOfAll_6 hy hr hP hT hI a b (by omega) (by omega) (by omega) (by omega) (by omega)) (Nat.le_of_ble_eq_true rfl) ?_
        intro r I14848 J14849 R14850 hq
        obtain ⟨⟨hI14848, ⟨hrI14848, ⟨htI14848, hsI14848⟩, hpI14848⟩⟩, v14851, rfl⟩ := hq
        show WP _ _ _ _ (.int _ :: _) _ _ _ _
        have ht_I14848 := htI14848.trans hT
        have hs_I14848 : R14850 (ad g 0) 10 = R (ad g 0) 10 := hsI14848.trans rfl
        have e14852 : I14848 (ad g 1) 1 = L := hI14848.2
        have b14853 := BT_get hI14848.1 1 1 2 (0) (0) (900) (by decide) 1 (by decide) (by decide)
        rw [e14852] at b14853
        exact WP_iret dX10_worthAt_28 rfl ⟨⟨hI14848, ⟨hrI14848, ⟨ht_I14848.trans hT.symm, hs_I14848⟩, hpI14848⟩⟩, _, rfl⟩
      · refine WQ_bipush (-2) (-2) dX10_worthAt_17 rfl rfl (fun v14854 hv14854 => ?_)
        refine WP_goto 28 dX10_worthAt_19 rfl ?_
        exact WP_iret dX10_worthAt_28 rfl ⟨⟨hI, ⟨hr, ⟨hT.trans hT.symm, rfl⟩, hP⟩⟩, _, rfl⟩
set_option maxHeartbeats 4000000 in
set_option maxRecDepth 100000 in
theorem sx_rate_6 {g : GG} {n : Int} {L : Int32} (hy : LyX g)  {I : pI} {J : pJ} {R : pR} (hr : RfX g R) (hP : NL g R) (hT : R (ad g 5) 0 = some (ad g 6)) (hI : XI g n L I) (a : Int32)  (hn : 0 ≤ n ∧ n ≤ 40000) : SP g mX10_rate [.ref (ad g 0), .int a] I J R (fun r I' J' R' => (XI g n L I' ∧ (RfX g R' ∧ (R' (ad g 5) 0 = R (ad g 5) 0 ∧ R' (ad g 0) 10 = R (ad g 0) 10) ∧ NL g R')) ∧ ∃ v : Int32, r = some (.int v)) := by
  refine SP_of ⟨by decide, rfl⟩ (Nat.le_of_ble_eq_true rfl) ?_
  have e14855 : I (ad g 1) 1 = L := hI.2
  have b14856 := BT_get hI.1 1 1 2 (0) (0) (900) (by decide) 1 (by decide) (by decide)
  rw [e14855] at b14856
  refine WP_iload_n dX10_rate_0 rfl ?_
  refine WP_callS1 dX10_rate_1 ⟨⟨⟨by decide, by decide⟩, zX10_isWeeks⟩, lX10_253, tX10_isWeeks⟩ (sx_isWeeks hy hr hI a ) (Nat.le_of_ble_eq_true rfl) ?_
  intro r Ia Ja Ra hq
  obtain ⟨⟨ea, eb, ec⟩, v14857, rfl, av14857, bv14857, cv14857⟩ := hq
  show WP _ _ _ _ (.int _ :: _) _ _ _ _
  rw [ea, eb, ec]
  clear ea eb ec Ia Ja Ra
  refine WQ_if_ne 10 dX10_rate_4 rfl (fun c14857 => ?_) (fun c14857 => ?_)
  · refine WP_aload_n dX10_rate_10 rfl ?_
    refine WQ_iconst (0) (0) dX10_rate_11 rfl rfl (fun v14859 hv14859 => ?_)
    refine WP_iload_n dX10_rate_12 rfl ?_
    refine WP_callV2 (k := 10) dX10_rate_13 ⟨⟨⟨by decide, by decide⟩, zX10_worthOfAll⟩, lX10_256, by decide, rfl, vX10_worthOfAll.1, vX10_worthOfAll.2⟩ (lyx_is hy 0 10 rfl) (sx_worthOfAll_6 hy hr hP hT hI v14859 a (by omega) (by omega) (by omega) (by omega) (by omega)) (Nat.le_of_ble_eq_true rfl) ?_
    intro r I14860 J14861 R14862 hq
    obtain ⟨⟨hI14860, ⟨hrI14860, ⟨htI14860, hsI14860⟩, hpI14860⟩⟩, v14863, rfl⟩ := hq
    show WP _ _ _ _ (.int _ :: _) _ _ _ _
    have ht_I14860 := htI14860.trans hT
    have hs_I14860 : R14862 (ad g 0) 10 = R (ad g 0) 10 := hsI14860.trans rfl
    have e14864 : I14860 (ad g 1) 1 = L := hI14860.2
    have b14865 := BT_get hI14860.1 1 1 2 (0) (0) (900) (by decide) 1 (by decide) (by decide)
    rw [e14864] at b14865
    refine WP_istore_n (ls' := [(0, _), (1, _), (2, _)]) dX10_rate_16 (by decide) rfl ?_
    refine WQ_iconst (0) (0) dX10_rate_17 rfl rfl (fun v14866 hv14866 => ?_)
    refine WP_istore_n (ls' := [(0, _), (1, _), (2, _), (3, _)]) dX10_rate_18 (by decide) rfl ?_
    refine WQ_iconst (1) (1) dX10_rate_19 rfl rfl (fun v14867 hv14867 => ?_)
    refine WP_istore (ls' := [(0, _), (1, _), (2, _), (3, _), (4, _)]) dX10_rate_20 (by decide) rfl ?_
    have lp22_14872 : ∀ (mz : Nat) (i14868 : Int32) (i14869 : Int32) (i14870 : Int32) (I14871 : pI) (J14872 : pJ) (RI14871 : pR), RfX g RI14871 → RI14871 (ad g 5) 0 = some (ad g 6) → RI14871 (ad g 0) 10 = R (ad g 0) 10 → NL g RI14871 → XI g n L I14871 → 1 ≤ i14870.toInt → i14870.toInt ≤ 19 → (20 - i14870.toInt).toNat < mz → WP g mX10_rate 22 [(0, .ref (ad g 0)), (1, .int a), (2, .int i14868), (3, .int i14869), (4, .int i14870)] [] I14871 J14872 RI14871 (fun r I' J' R' => (XI g n L I' ∧ (RfX g R' ∧ (R' (ad g 5) 0 = R (ad g 5) 0 ∧ R' (ad g 0) 10 = R (ad g 0) 10) ∧ NL g R')) ∧ ∃ v : Int32, r = some (.int v)) := by
      intro mz
      induction mz with
      | zero =>
        intro i14868 i14869 i14870 I14871 J14872 RI14871 hrI14871 hTI14871 hSI14871 hPI14871 hI14871 ai14870 bi14870 hmlp22_14872
        exact absurd hmlp22_14872 (Nat.not_lt_zero _)
      | succ mz ihlp22_14872 =>
        intro i14868 i14869 i14870 I14871 J14872 RI14871 hrI14871 hTI14871 hSI14871 hPI14871 hI14871 ai14870 bi14870 hmlp22_14872
        have e14874 : I14871 (ad g 1) 1 = L := hI14871.2
        have b14875 := BT_get hI14871.1 1 1 2 (0) (0) (900) (by decide) 1 (by decide) (by decide)
        rw [e14874] at b14875
        refine WP_iload dX10_rate_22 rfl ?_
        refine WQ_bipush (18) (18) dX10_rate_24 rfl rfl (fun v14876 hv14876 => ?_)
        refine WQ_icmp_gt 56 dX10_rate_26 rfl (fun c14876 => ?_) (fun c14876 => ?_)
        · refine WP_iload_n dX10_rate_56 rfl ?_
          exact WP_iret dX10_rate_57 rfl ⟨⟨hI14871, ⟨hrI14871, ⟨hTI14871.trans hT.symm, hSI14871⟩, hPI14871⟩⟩, _, rfl⟩
        · refine WP_aload_n dX10_rate_29 rfl ?_
          refine WP_iload dX10_rate_30 rfl ?_
          refine WP_iload_n dX10_rate_32 rfl ?_
          refine WP_callV2 (k := 10) dX10_rate_33 ⟨⟨⟨by decide, by decide⟩, zX10_worthOfAll⟩, lX10_256, by decide, rfl, vX10_worthOfAll.1, vX10_worthOfAll.2⟩ (lyx_is hy 0 10 rfl) (sx_worthOfAll_6 hy hrI14871 hPI14871 hTI14871 hI14871 i14870 a (by omega) (by omega) (by omega) (by omega) (by omega)) (Nat.le_of_ble_eq_true rfl) ?_
          intro r I14878 J14879 R14880 hq
          obtain ⟨⟨hI14878, ⟨hrI14878, ⟨htI14878, hsI14878⟩, hpI14878⟩⟩, v14881, rfl⟩ := hq
          show WP _ _ _ _ (.int _ :: _) _ _ _ _
          have ht_I14878 := htI14878.trans hTI14871
          have hs_I14878 : R14880 (ad g 0) 10 = R (ad g 0) 10 := hsI14878.trans hSI14871
          have e14882 : I14878 (ad g 1) 1 = L := hI14878.2
          have b14883 := BT_get hI14878.1 1 1 2 (0) (0) (900) (by decide) 1 (by decide) (by decide)
          rw [e14882] at b14883
          refine WP_istore (ls' := [(0, _), (1, _), (2, _), (3, _), (4, _), (5, _)]) dX10_rate_36 (by decide) rfl ?_
          refine WP_iload dX10_rate_38 rfl ?_
          refine WP_iload_n dX10_rate_40 rfl ?_
          refine WQ_icmp_le 50 dX10_rate_41 rfl (fun c14883 => ?_) (fun c14883 => ?_)
          · refine WP_iinc (ls' := [(0, _), (1, _), (2, _), (3, _), (4, _), (5, _)]) dX10_rate_50 rfl (by decide) rfl ?_
            have hv14885 : (i14870 + Int32.ofInt (1)).toInt = i14870.toInt + (1) := ia_n rfl (by omega) (by omega)
            generalize i14870 + Int32.ofInt (1) = v14885 at hv14885 ⊢
            refine WP_goto 22 dX10_rate_53 rfl ?_
            exact WP_sub (fc rfl (fc rfl (fc rfl (fc rfl (fc rfl fn))))) (ihlp22_14872 i14868 i14869 v14885 I14878 J14879 R14880 hrI14878 ht_I14878 hs_I14878 hpI14878 hI14878 (by omega) (by omega) (by omega))
          · refine WP_iload dX10_rate_44 rfl ?_
            refine WP_istore_n (ls' := [(0, _), (1, _), (2, _), (3, _), (4, _), (5, _)]) dX10_rate_46 (by decide) rfl ?_
            refine WP_iload dX10_rate_47 rfl ?_
            refine WP_istore_n (ls' := [(0, _), (1, _), (2, _), (3, _), (4, _), (5, _)]) dX10_rate_49 (by decide) rfl ?_
            refine WP_iinc (ls' := [(0, _), (1, _), (2, _), (3, _), (4, _), (5, _)]) dX10_rate_50 rfl (by decide) rfl ?_
            have hv14886 : (i14870 + Int32.ofInt (1)).toInt = i14870.toInt + (1) := ia_n rfl (by omega) (by omega)
            generalize i14870 + Int32.ofInt (1) = v14886 at hv14886 ⊢
            refine WP_goto 22 dX10_rate_53 rfl ?_
            exact WP_sub (fc rfl (fc rfl (fc rfl (fc rfl (fc rfl fn))))) (ihlp22_14872 v14881 i14870 v14886 I14878 J14879 R14880 hrI14878 ht_I14878 hs_I14878 hpI14878 hI14878 (by omega) (by omega) (by omega))
    exact WP_sub (fc rfl (fc rfl (fc rfl (fc rfl (fc rfl fn))))) (lp22_14872 _ v14863 v14866 v14867 I14860 J14861 R14862 hrI14860 ht_I14860 hs_I14860 hpI14860 hI14860 (by omega) (by omega) (Nat.lt_succ_self _))
  · refine WQ_bipush (-2) (-2) dX10_rate_7 rfl rfl (fun v14887 hv14887 => ?_)
    exact WP_iret dX10_rate_9 rfl ⟨⟨hI, ⟨hr, ⟨hT.trans hT.symm, rfl⟩, hP⟩⟩, _, rfl⟩
set_option maxHeartbeats 4000000 in
set_option maxRecDepth 100000 in
theorem sx_turnChanges_6 {g : GG} {n : Int} {L : Int32} (hy : LyX g)  {I : pI} {J : pJ} {R : pR} (hr : RfX g R) (hP : NL g R) (hT : R (ad g 5) 0 = some (ad g 6)) (hI : XI g n L I)   (hn : 0 ≤ n ∧ n ≤ 40000) : SP g mX10_turnChanges [.ref (ad g 0)] I J R (fun r I' J' R' => (XI g n L I' ∧ (RfX g R' ∧ (R' (ad g 5) 0 = R (ad g 5) 0 ∧ R' (ad g 0) 10 = R (ad g 0) 10) ∧ NL g R') ∧ fz 74 g [22, 43, 44, 47, 48, 50, 51, 52, 56, 57, 58] I I') ∧ ∃ v : Int32, r = some (.int v) ∧ 0 ≤ v.toInt ∧ v.toInt ≤ 1) := by
  refine SP_of ⟨by decide, rfl⟩ (Nat.le_of_ble_eq_true rfl) ?_
  have e14888 : I (ad g 1) 1 = L := hI.2
  have b14889 := BT_get hI.1 1 1 2 (0) (0) (900) (by decide) 1 (by decide) (by decide)
  rw [e14888] at b14889
  have fr0 : fz 74 g [22, 43, 44, 47, 48, 50, 51, 52, 56, 57, 58] I I := fz_rf
  refine WP_aload_n dX10_turnChanges_0 rfl ?_
  refine WP_getr dX10_turnChanges_1 fX10_66 rfl (lyx_is hy 0 10 rfl) (rfx hr 0 6 56 (by decide)) ?_
  refine WP_aload_n dX10_turnChanges_4 rfl ?_
  refine WP_getr dX10_turnChanges_5 fX10_62 rfl (lyx_is hy 0 10 rfl) (rfx hr 0 5 53 (by decide)) ?_
  refine WP_callV1 (k := 4) dX10_turnChanges_8 ⟨⟨⟨by decide, by decide⟩, zX4_become⟩, lX10_249, by decide, rfl, vX4_become.1, vX4_become.2⟩ (lyx_is hy 56 4 rfl) (sx_becomef_56_53 hy hr hI  ) (Nat.le_of_ble_eq_true rfl) ?_
  intro r I14890 J14891 Ra hq
  obtain ⟨⟨hI14890, ec, fiI14890⟩, rfl⟩ := hq
  rw [ec]
  clear ec Ra
  have fr14892 : fz 74 g [22, 43, 44, 47, 48, 50, 51, 52, 56, 57, 58] I I14890 := fz_tr fr0 (fz_mono fiI14890 (by decide))
  have e14893 : I14890 (ad g 1) 1 = L := hI14890.2
  have b14894 := BT_get hI14890.1 1 1 2 (0) (0) (900) (by decide) 1 (by decide) (by decide)
  rw [e14893] at b14894
  refine WP_aload_n dX10_turnChanges_11 rfl ?_
  refine WP_getr dX10_turnChanges_12 fX10_66 rfl (lyx_is hy 0 10 rfl) (rfx hr 0 6 56 (by decide)) ?_
  refine WP_aload_n dX10_turnChanges_15 rfl ?_
  refine WP_getr dX10_turnChanges_16 fX10_33 rfl (lyx_is hy 0 10 rfl) (rfx hr 0 2 5 (by decide)) ?_
  refine WP_getr dX10_turnChanges_19 fX10_102 rfl (lyx_is hy 5 0 rfl) hT ?_
  refine WP_callV1 (k := 4) dX10_turnChanges_22 ⟨⟨⟨by decide, by decide⟩, zX4_begin⟩, lX10_246, by decide, rfl, vX4_begin.1, vX4_begin.2⟩ (lyx_is hy 56 4 rfl) (sx_beginf_56_6 hy hr hI14890   (by omega)) (Nat.le_of_ble_eq_true rfl) ?_
  intro r I14895 J14896 Ra hq
  obtain ⟨⟨hI14895, ec, fiI14895, pI14895⟩, rfl⟩ := hq
  rw [ec]
  clear ec Ra
  have fr14897 : fz 74 g [22, 43, 44, 47, 48, 50, 51, 52, 56, 57, 58] I I14895 := fz_tr fr14892 (fz_mono fiI14895 (by decide))
  have e14898 : I14895 (ad g 1) 1 = L := hI14895.2
  have b14899 := BT_get hI14895.1 1 1 2 (0) (0) (900) (by decide) 1 (by decide) (by decide)
  rw [e14898] at b14899
  obtain ⟨w14900, ew14900⟩ : ∃ w : Int32, I14895 (ad g 56) 1 = w := ⟨_, rfl⟩
  have bw14900 := BT_get hI14895.1 56 1 2 (0) (23760) (700000) (by decide) 1 (by decide) (by decide)
  rw [ew14900] at bw14900
  rw [ew14900] at pI14895
  refine WP_aload_n dX10_turnChanges_25 rfl ?_
  refine WP_getr dX10_turnChanges_26 fX10_55 rfl (lyx_is hy 0 10 rfl) (rfx hr 0 4 49 (by decide)) ?_
  refine WP_getr dX10_turnChanges_29 fX10_353 rfl (lyx_is hy 49 9 rfl) (rfx hr 49 1 51 (by decide)) ?_
  refine WQ_iconst (0) (0) dX10_turnChanges_32 rfl rfl (fun v14901 hv14901 => ?_)
  refine WP_callS2u dX10_turnChanges_33 ⟨⟨⟨by decide, by decide⟩, zJ7_fill_53178⟩, lX10_335, tJ7_fill_53178⟩ (s_fill hy hr 51 21 rfl rfl (by decide) v14901) (Nat.le_of_ble_eq_true rfl) ?_
  obtain ⟨I14902, eI14902⟩ : ∃ I9 : pI, I9 = fi I14895 (ad g 51) 21 v14901 := ⟨_, rfl⟩
  rw [← eI14902]
  have hI14902 : XI g n L I14902 := by rw [eI14902]; exact (xi_fill0 hy hI14895 51 21 v14901 (by decide) (by decide))
  have e14903 : I14902 (ad g 1) 1 = L := by rw [eI14902, fi_off (lyx_ne hy (by decide) (by decide) (by decide))]; exact e14898
  have e14904 : I14902 (ad g 56) 1 = w14900 := by rw [eI14902, fi_off (lyx_ne hy (by decide) (by decide) (by decide))]; exact ew14900
  have fr14905 : fz 74 g [22, 43, 44, 47, 48, 50, 51, 52, 56, 57, 58] I I14902 := by rw [eI14902]; exact fzx_fi hy fr14897 (by decide) (by decide)
  clear eI14902
  refine WQ_iconst (0) (0) dX10_turnChanges_36 rfl rfl (fun v14906 hv14906 => ?_)
  refine WP_istore_n (ls' := [(0, _), (1, _)]) dX10_turnChanges_37 (by decide) rfl ?_
  have lp38_14910 : ∀ (mz : Nat) (i14907 : Int32) (I14908 : pI) (J14909 : pJ) (RI14908 : pR), RfX g RI14908 → RI14908 (ad g 5) 0 = some (ad g 6) → RI14908 (ad g 0) 10 = R (ad g 0) 10 → NL g RI14908 → XI g n L I14908 → fz 74 g [22, 43, 44, 47, 48, 50, 51, 52, 56, 57, 58] I I14908 → ∀ (w14910 : Int32), I14908 (ad g 56) 1 = w14910 → 0 ≤ i14907.toInt → i14907.toInt ≤ 7 → w14910.toInt ≤ 23760 * i14907.toInt → (8 - i14907.toInt).toNat < mz → WP g mX10_turnChanges 38 [(0, .ref (ad g 0)), (1, .int i14907)] [] I14908 J14909 RI14908 (fun r I' J' R' => (XI g n L I' ∧ (RfX g R' ∧ (R' (ad g 5) 0 = R (ad g 5) 0 ∧ R' (ad g 0) 10 = R (ad g 0) 10) ∧ NL g R') ∧ fz 74 g [22, 43, 44, 47, 48, 50, 51, 52, 56, 57, 58] I I') ∧ ∃ v : Int32, r = some (.int v) ∧ 0 ≤ v.toInt ∧ v.toInt ≤ 1) := by
    intro mz
    induction mz with
    | zero =>
      intro i14907 I14908 J14909 RI14908 hrI14908 hTI14908 hSI14908 hPI14908 hI14908 fiI14908 w14910 ew14910 ai14907 bi14907 j0_I14908 hmlp38_14910
      exact absurd hmlp38_14910 (Nat.not_lt_zero _)
    | succ mz ihlp38_14910 =>
      intro i14907 I14908 J14909 RI14908 hrI14908 hTI14908 hSI14908 hPI14908 hI14908 fiI14908 w14910 ew14910 ai14907 bi14907 j0_I14908 hmlp38_14910
      have bw14910 := BT_get hI14908.1 56 1 2 (0) (23760) (700000) (by decide) 1 (by decide) (by decide)
      rw [ew14910] at bw14910
      have e14912 : I14908 (ad g 1) 1 = L := hI14908.2
      have b14913 := BT_get hI14908.1 1 1 2 (0) (0) (900) (by decide) 1 (by decide) (by decide)
      rw [e14912] at b14913
      refine WP_iload_n dX10_turnChanges_38 rfl ?_
      refine WQ_bipush (7) (7) dX10_turnChanges_39 rfl rfl (fun v14914 hv14914 => ?_)
      refine WQ_icmp_ge 62 dX10_turnChanges_41 rfl (fun c14914 => ?_) (fun c14914 => ?_)
      · refine WP_aload_n dX10_turnChanges_62 rfl ?_
        refine WP_getr dX10_turnChanges_63 fX10_33 rfl (lyx_is hy 0 10 rfl) (rfx hrI14908 0 2 5 (by decide)) ?_
        refine WP_aload_n dX10_turnChanges_66 rfl ?_
        refine WP_getr dX10_turnChanges_67 fX10_55 rfl (lyx_is hy 0 10 rfl) (rfx hrI14908 0 4 49 (by decide)) ?_
        refine WP_getr dX10_turnChanges_70 fX10_353 rfl (lyx_is hy 49 9 rfl) (rfx hrI14908 49 1 51 (by decide)) ?_
        refine WP_callV1 (k := 0) dX10_turnChanges_73 ⟨⟨⟨by decide, by decide⟩, zX0_movePrices⟩, lX10_356, by decide, rfl, vX0_movePrices.1, vX0_movePrices.2⟩ (lyx_is hy 5 0 rfl) (sx_movePricesf_6 hy hrI14908 hTI14908 hI14908  ) (Nat.le_of_ble_eq_true rfl) ?_
        intro r I14916 J14917 Ra hq
        obtain ⟨⟨hI14916, ec, fiI14916⟩, v14918, rfl, av14918, bv14918⟩ := hq
        show WP _ _ _ _ (.int _ :: _) _ _ _ _
        rw [ec]
        clear ec Ra
        have fr14919 : fz 74 g [22, 43, 44, 47, 48, 50, 51, 52, 56, 57, 58] I I14916 := fz_tr fiI14908 (fz_mono fiI14916 (by decide))
        have e14920 : I14916 (ad g 56) 1 = w14910 := by rw [fz_at fiI14916 56 (by decide) (by decide)]; exact ew14910
        have e14921 : I14916 (ad g 1) 1 = L := hI14916.2
        have b14922 := BT_get hI14916.1 1 1 2 (0) (0) (900) (by decide) 1 (by decide) (by decide)
        rw [e14921] at b14922
        exact WP_zret dX10_turnChanges_76 rfl (nar_z (by omega)) ⟨⟨hI14916, ⟨hrI14908, ⟨hTI14908.trans hT.symm, hSI14908⟩, hPI14908⟩, fr14919⟩, _, rfl, by omega, by omega⟩
      · refine WP_aload_n dX10_turnChanges_44 rfl ?_
        refine WP_getr dX10_turnChanges_45 fX10_55 rfl (lyx_is hy 0 10 rfl) (rfx hrI14908 0 4 49 (by decide)) ?_
        refine WP_aload_n dX10_turnChanges_48 rfl ?_
        refine WP_getr dX10_turnChanges_49 fX10_66 rfl (lyx_is hy 0 10 rfl) (rfx hrI14908 0 6 56 (by decide)) ?_
        refine WQ_iconst (0) (0) dX10_turnChanges_52 rfl rfl (fun v14923 hv14923 => ?_)
        refine WP_callV2 (k := 9) dX10_turnChanges_53 ⟨⟨⟨by decide, by decide⟩, zX9_passDay⟩, lX10_228, by decide, rfl, vX9_passDay.1, vX9_passDay.2⟩ (lyx_is hy 49 9 rfl) (sx_passDay_56_6 hy hrI14908 hPI14908 hTI14908 hI14908 v14923 (by omega) (by omega) (by omega) (by rw [ew14910]; omega)) (Nat.le_of_ble_eq_true rfl) ?_
        intro r I14924 J14925 R14926 hq
        obtain ⟨⟨hI14924, ⟨hrI14924, ⟨htI14924, hsI14924⟩, hpI14924⟩, fiI14924, pI14924⟩, rfl⟩ := hq
        have ht_I14924 := htI14924.trans hTI14908
        have hs_I14924 : R14926 (ad g 0) 10 = R (ad g 0) 10 := hsI14924.trans hSI14908
        have fr14927 : fz 74 g [22, 43, 44, 47, 48, 50, 51, 52, 56, 57, 58] I I14924 := fz_tr fiI14908 (fz_mono fiI14924 (by decide))
        have e14928 : I14924 (ad g 1) 1 = L := hI14924.2
        have b14929 := BT_get hI14924.1 1 1 2 (0) (0) (900) (by decide) 1 (by decide) (by decide)
        rw [e14928] at b14929
        obtain ⟨w14930, ew14930⟩ : ∃ w : Int32, I14924 (ad g 56) 1 = w := ⟨_, rfl⟩
        have bw14930 := BT_get hI14924.1 56 1 2 (0) (23760) (700000) (by decide) 1 (by decide) (by decide)
        rw [ew14930] at bw14930
        rw [ew14930, ew14910] at pI14924
        refine WP_iinc (ls' := [(0, _), (1, _)]) dX10_turnChanges_56 rfl (by decide) rfl ?_
        have hv14931 : (i14907 + Int32.ofInt (1)).toInt = i14907.toInt + (1) := ia_n rfl (by omega) (by omega)
        generalize i14907 + Int32.ofInt (1) = v14931 at hv14931 ⊢
        refine WP_goto 38 dX10_turnChanges_59 rfl ?_
        exact WP_sub (fc rfl (fc rfl fn)) (ihlp38_14910 v14931 I14924 J14925 R14926 hrI14924 ht_I14924 hs_I14924 hpI14924 hI14924 fr14927 w14930 ew14930 (by omega) (by omega) (by omega) (by omega))
  exact WP_sub (fc rfl (fc rfl fn)) (lp38_14910 _ v14906 I14902 J14896 R hr hT rfl hP hI14902 fr14905 w14900 e14904 (by omega) (by omega) (by omega) (Nat.lt_succ_self _))
set_option maxHeartbeats 4000000 in
set_option maxRecDepth 100000 in
theorem sx_rest_6 {g : GG} {n : Int} {L : Int32} (hy : LyX g)  {I : pI} {J : pJ} {R : pR} (hr : RfX g R) (hP : NL g R) (hT : R (ad g 5) 0 = some (ad g 6)) (hI : XI g n L I) (a : Int32)  (hn : 0 ≤ n ∧ n ≤ 40000) : SP g mX10_rest [.ref (ad g 0), .int a] I J R (fun r I' J' R' => (XI g n L I' ∧ (RfX g R' ∧ (R' (ad g 5) 0 = R (ad g 5) 0 ∧ R' (ad g 0) 10 = R (ad g 0) 10) ∧ NL g R')) ∧ ∃ v : Int32, r = some (.int v)) := by
  refine SP_of ⟨by decide, rfl⟩ (Nat.le_of_ble_eq_true rfl) ?_
  have e14932 : I (ad g 1) 1 = L := hI.2
  have b14933 := BT_get hI.1 1 1 2 (0) (0) (900) (by decide) 1 (by decide) (by decide)
  rw [e14932] at b14933
  refine WP_iload_n dX10_rest_0 rfl ?_
  refine WQ_if_eq 12 dX10_rest_1 rfl (fun c14933 => ?_) (fun c14933 => ?_)
  · refine WP_iload_n dX10_rest_12 rfl ?_
    refine WQ_iconst (1) (1) dX10_rest_13 rfl rfl (fun v14935 hv14935 => ?_)
    refine WQ_icmp_ne 24 dX10_rest_14 rfl (fun c14935 => ?_) (fun c14935 => False.elim (by omega))
    refine WQ_iconst (0) (0) dX10_rest_24 rfl rfl (fun v14937 hv14937 => ?_)
    refine WP_istore_n (ls' := [(0, _), (1, _), (2, _)]) dX10_rest_25 (by decide) rfl ?_
    refine WP_aload_n dX10_rest_26 rfl ?_
    refine WQ_iconst (0) (0) dX10_rest_27 rfl rfl (fun v14938 hv14938 => ?_)
    refine WQ_puti dX10_rest_28 fX10_263 rfl rfl (lyx_is hy 0 10 rfl) (fun I14939 eI14939 => ?_)
    have hI14939 : XI g n L I14939 := by rw [eI14939]; exact (xi_f0 hy hI (c := 0) (by decide) (Or.inl (by decide)) (by decide))
    have e14940 : I14939 (ad g 1) 1 = L := by rw [eI14939, pp_ne _ _ (Or.inl (lyx_ne hy (by decide) (by decide) (by decide)))]; exact e14932
    have e14941 : I14939 (ad g 0) 11 = v14938 := by rw [eI14939, pp_self]
    clear eI14939
    have lp31_14945 : ∀ (mz : Nat) (i14942 : Int32) (I14943 : pI) (J14944 : pJ) (RI14943 : pR), RfX g RI14943 → RI14943 (ad g 5) 0 = some (ad g 6) → RI14943 (ad g 0) 10 = R (ad g 0) 10 → NL g RI14943 → XI g n L I14943 → ∀ (w14945 : Int32), I14943 (ad g 0) 11 = w14945 → 0 ≤ i14942.toInt → i14942.toInt ≤ 1 → 0 ≤ w14945.toInt → w14945.toInt ≤ 60 → (61 - w14945.toInt).toNat < mz → WP g mX10_rest 31 [(0, .ref (ad g 0)), (1, .int a), (2, .int i14942)] [] I14943 J14944 RI14943 (fun r I' J' R' => (XI g n L I' ∧ (RfX g R' ∧ (R' (ad g 5) 0 = R (ad g 5) 0 ∧ R' (ad g 0) 10 = R (ad g 0) 10) ∧ NL g R')) ∧ ∃ v : Int32, r = some (.int v)) := by
      intro mz
      induction mz with
      | zero =>
        intro i14942 I14943 J14944 RI14943 hrI14943 hTI14943 hSI14943 hPI14943 hI14943 w14945 ew14945 ai14942 bi14942 j0_I14943 j1_I14943 hmlp31_14945
        exact absurd hmlp31_14945 (Nat.not_lt_zero _)
      | succ mz ihlp31_14945 =>
        intro i14942 I14943 J14944 RI14943 hrI14943 hTI14943 hSI14943 hPI14943 hI14943 w14945 ew14945 ai14942 bi14942 j0_I14943 j1_I14943 hmlp31_14945
        have e14947 : I14943 (ad g 1) 1 = L := hI14943.2
        have b14948 := BT_get hI14943.1 1 1 2 (0) (0) (900) (by decide) 1 (by decide) (by decide)
        rw [e14947] at b14948
        refine WP_aload_n dX10_rest_31 rfl ?_
        refine WQ_getim dX10_rest_32 fX10_263 rfl (lyx_is hy 0 10 rfl) ew14945 ?_
        refine WQ_bipush (60) (60) dX10_rest_35 rfl rfl (fun v14949 hv14949 => ?_)
        refine WQ_icmp_ge 70 dX10_rest_37 rfl (fun c14949 => ?_) (fun c14949 => ?_)
        · refine WP_iload_n dX10_rest_70 rfl ?_
          have jn79_14953 : ∀ (v14953 : Int32), 0 ≤ v14953.toInt → v14953.toInt ≤ 1 → WP g mX10_rest 79 [(0, .ref (ad g 0)), (1, .int a), (2, .int i14942)] [.int v14953] I14943 J14944 RI14943 (fun r I' J' R' => (XI g n L I' ∧ (RfX g R' ∧ (R' (ad g 5) 0 = R (ad g 5) 0 ∧ R' (ad g 0) 10 = R (ad g 0) 10) ∧ NL g R')) ∧ ∃ v : Int32, r = some (.int v)) := by
            intro v14953 av14953 bv14953
            exact WP_iret dX10_rest_79 rfl ⟨⟨hI14943, ⟨hrI14943, ⟨hTI14943.trans hT.symm, hSI14943⟩, hPI14943⟩⟩, _, rfl⟩
          refine WQ_if_eq 78 dX10_rest_71 rfl (fun c14954 => ?_) (fun c14954 => ?_)
          · refine WQ_iconst (0) (0) dX10_rest_78 rfl rfl (fun v14956 hv14956 => ?_)
            exact WP_sub (fc rfl (fc rfl (fc rfl fn))) (jn79_14953 v14956 (by omega) (by omega))
          · refine WQ_iconst (1) (1) dX10_rest_74 rfl rfl (fun v14957 hv14957 => ?_)
            refine WP_goto 79 dX10_rest_75 rfl ?_
            exact WP_sub (fc rfl (fc rfl (fc rfl fn))) (jn79_14953 v14957 (by omega) (by omega))
        · refine WP_iload_n dX10_rest_40 rfl ?_
          refine WQ_if_ne 70 dX10_rest_41 rfl (fun c14957 => ?_) (fun c14957 => ?_)
          · refine WP_iload_n dX10_rest_70 rfl ?_
            have jn79_14960 : ∀ (v14960 : Int32), 1 ≤ v14960.toInt → v14960.toInt ≤ 1 → WP g mX10_rest 79 [(0, .ref (ad g 0)), (1, .int a), (2, .int i14942)] [.int v14960] I14943 J14944 RI14943 (fun r I' J' R' => (XI g n L I' ∧ (RfX g R' ∧ (R' (ad g 5) 0 = R (ad g 5) 0 ∧ R' (ad g 0) 10 = R (ad g 0) 10) ∧ NL g R')) ∧ ∃ v : Int32, r = some (.int v)) := by
              intro v14960 av14960 bv14960
              exact WP_iret dX10_rest_79 rfl ⟨⟨hI14943, ⟨hrI14943, ⟨hTI14943.trans hT.symm, hSI14943⟩, hPI14943⟩⟩, _, rfl⟩
            refine WQ_if_eq 78 dX10_rest_71 rfl (fun c14961 => False.elim (by omega)) (fun c14961 => ?_)
            refine WQ_iconst (1) (1) dX10_rest_74 rfl rfl (fun v14963 hv14963 => ?_)
            refine WP_goto 79 dX10_rest_75 rfl ?_
            exact WP_sub (fc rfl (fc rfl (fc rfl fn))) (jn79_14960 v14963 (by omega) (by omega))
          · refine WP_aload_n dX10_rest_44 rfl ?_
            refine WP_dup dX10_rest_45 rfl ?_
            refine WQ_getim dX10_rest_46 fX10_263 rfl (lyx_is hy 0 10 rfl) ew14945 ?_
            refine WQ_iconst (1) (1) dX10_rest_49 rfl rfl (fun v14964 hv14964 => ?_)
            refine WQ_iadd dX10_rest_50 (by omega) (by omega) (fun v14965 hv14965 => ?_)
            refine WQ_puti dX10_rest_51 fX10_263 rfl rfl (lyx_is hy 0 10 rfl) (fun I14966 eI14966 => ?_)
            have hI14966 : XI g n L I14966 := by rw [eI14966]; exact (xi_f0 hy hI14943 (c := 0) (by decide) (Or.inl (by decide)) (by decide))
            have e14967 : I14966 (ad g 1) 1 = L := by rw [eI14966, pp_ne _ _ (Or.inl (lyx_ne hy (by decide) (by decide) (by decide)))]; exact e14947
            have e14968 : I14966 (ad g 0) 11 = v14965 := by rw [eI14966, pp_self]
            clear eI14966
            refine WP_aload_n dX10_rest_54 rfl ?_
            refine WP_callV0 (k := 10) dX10_rest_55 ⟨⟨⟨by decide, by decide⟩, zX10_turnChanges⟩, lX10_266, by decide, rfl, vX10_turnChanges.1, vX10_turnChanges.2⟩ (lyx_is hy 0 10 rfl) (sx_turnChanges_6 hy hrI14943 hPI14943 hTI14943 hI14966   (by omega)) (Nat.le_of_ble_eq_true rfl) ?_
            intro r I14969 J14970 R14971 hq
            obtain ⟨⟨hI14969, ⟨hrI14969, ⟨htI14969, hsI14969⟩, hpI14969⟩, fiI14969⟩, v14972, rfl, av14972, bv14972⟩ := hq
            show WP _ _ _ _ (.int _ :: _) _ _ _ _
            have ht_I14969 := htI14969.trans hTI14943
            have hs_I14969 : R14971 (ad g 0) 10 = R (ad g 0) 10 := hsI14969.trans hSI14943
            have e14973 : I14969 (ad g 0) 11 = v14965 := by rw [fz_at fiI14969 0 (by decide) (by decide)]; exact e14968
            have e14974 : I14969 (ad g 1) 1 = L := hI14969.2
            have b14975 := BT_get hI14969.1 1 1 2 (0) (0) (900) (by decide) 1 (by decide) (by decide)
            rw [e14974] at b14975
            have jn66_14978 : ∀ (v14978 : Int32), 0 ≤ v14978.toInt → v14978.toInt ≤ 1 → WP g mX10_rest 66 [(0, .ref (ad g 0)), (1, .int a), (2, .int i14942)] [.int v14978] I14969 J14970 R14971 (fun r I' J' R' => (XI g n L I' ∧ (RfX g R' ∧ (R' (ad g 5) 0 = R (ad g 5) 0 ∧ R' (ad g 0) 10 = R (ad g 0) 10) ∧ NL g R')) ∧ ∃ v : Int32, r = some (.int v)) := by
              intro v14978 av14978 bv14978
              refine WP_istore_n (ls' := [(0, _), (1, _), (2, _)]) dX10_rest_66 (by decide) rfl ?_
              refine WP_goto 31 dX10_rest_67 rfl ?_
              exact WP_sub (fc rfl (fc rfl (fc rfl fn))) (ihlp31_14945 v14978 I14969 J14970 R14971 hrI14969 ht_I14969 hs_I14969 hpI14969 hI14969 v14965 e14973 (by omega) (by omega) (by omega) (by omega) (by omega))
            refine WQ_if_ne 65 dX10_rest_58 rfl (fun c14979 => ?_) (fun c14979 => ?_)
            · refine WQ_iconst (0) (0) dX10_rest_65 rfl rfl (fun v14981 hv14981 => ?_)
              exact WP_sub (fc rfl (fc rfl (fc rfl fn))) (jn66_14978 v14981 (by omega) (by omega))
            · refine WQ_iconst (1) (1) dX10_rest_61 rfl rfl (fun v14982 hv14982 => ?_)
              refine WP_goto 66 dX10_rest_62 rfl ?_
              exact WP_sub (fc rfl (fc rfl (fc rfl fn))) (jn66_14978 v14982 (by omega) (by omega))
    exact WP_sub (fc rfl (fc rfl (fc rfl fn))) (lp31_14945 _ v14937 I14939 J R hr hT rfl hP hI14939 v14938 e14941 (by omega) (by omega) (by omega) (by omega) (Nat.lt_succ_self _))
  · refine WP_iload_n dX10_rest_4 rfl ?_
    refine WQ_iconst (1) (1) dX10_rest_5 rfl rfl (fun v14983 hv14983 => ?_)
    refine WQ_icmp_eq 12 dX10_rest_6 rfl (fun c14983 => ?_) (fun c14983 => ?_)
    · refine WP_iload_n dX10_rest_12 rfl ?_
      refine WQ_iconst (1) (1) dX10_rest_13 rfl rfl (fun v14985 hv14985 => ?_)
      refine WQ_icmp_ne 24 dX10_rest_14 rfl (fun c14985 => False.elim (by omega)) (fun c14985 => ?_)
      refine WP_aload_n dX10_rest_17 rfl ?_
      refine WP_getr dX10_rest_18 fX10_33 rfl (lyx_is hy 0 10 rfl) (rfx hr 0 2 5 (by decide)) ?_
      refine WP_callV0 (k := 0) dX10_rest_21 ⟨⟨⟨by decide, by decide⟩, zX0_pricesAsTold⟩, lX10_260, by decide, rfl, vX0_pricesAsTold.1, vX0_pricesAsTold.2⟩ (lyx_is hy 5 0 rfl) (sx_pricesAsTold_6 hy hr hT hI  ) (Nat.le_of_ble_eq_true rfl) ?_
      intro r I14987 J14988 Ra hq
      obtain ⟨⟨hI14987, ec⟩, rfl⟩ := hq
      rw [ec]
      clear ec Ra
      have e14989 : I14987 (ad g 1) 1 = L := hI14987.2
      have b14990 := BT_get hI14987.1 1 1 2 (0) (0) (900) (by decide) 1 (by decide) (by decide)
      rw [e14989] at b14990
      refine WQ_iconst (0) (0) dX10_rest_24 rfl rfl (fun v14991 hv14991 => ?_)
      refine WP_istore_n (ls' := [(0, _), (1, _), (2, _)]) dX10_rest_25 (by decide) rfl ?_
      refine WP_aload_n dX10_rest_26 rfl ?_
      refine WQ_iconst (0) (0) dX10_rest_27 rfl rfl (fun v14992 hv14992 => ?_)
      refine WQ_puti dX10_rest_28 fX10_263 rfl rfl (lyx_is hy 0 10 rfl) (fun I14993 eI14993 => ?_)
      have hI14993 : XI g n L I14993 := by rw [eI14993]; exact (xi_f0 hy hI14987 (c := 0) (by decide) (Or.inl (by decide)) (by decide))
      have e14994 : I14993 (ad g 1) 1 = L := by rw [eI14993, pp_ne _ _ (Or.inl (lyx_ne hy (by decide) (by decide) (by decide)))]; exact e14989
      have e14995 : I14993 (ad g 0) 11 = v14992 := by rw [eI14993, pp_self]
      clear eI14993
      have lp31_14999 : ∀ (mz : Nat) (i14996 : Int32) (I14997 : pI) (J14998 : pJ) (RI14997 : pR), RfX g RI14997 → RI14997 (ad g 5) 0 = some (ad g 6) → RI14997 (ad g 0) 10 = R (ad g 0) 10 → NL g RI14997 → XI g n L I14997 → ∀ (w14999 : Int32), I14997 (ad g 0) 11 = w14999 → 0 ≤ i14996.toInt → i14996.toInt ≤ 1 → 0 ≤ w14999.toInt → w14999.toInt ≤ 60 → (61 - w14999.toInt).toNat < mz → WP g mX10_rest 31 [(0, .ref (ad g 0)), (1, .int a), (2, .int i14996)] [] I14997 J14998 RI14997 (fun r I' J' R' => (XI g n L I' ∧ (RfX g R' ∧ (R' (ad g 5) 0 = R (ad g 5) 0 ∧ R' (ad g 0) 10 = R (ad g 0) 10) ∧ NL g R')) ∧ ∃ v : Int32, r = some (.int v)) := by
        intro mz
        induction mz with
        | zero =>
          intro i14996 I14997 J14998 RI14997 hrI14997 hTI14997 hSI14997 hPI14997 hI14997 w14999 ew14999 ai14996 bi14996 j0_I14997 j1_I14997 hmlp31_14999
          exact absurd hmlp31_14999 (Nat.not_lt_zero _)
        | succ mz ihlp31_14999 =>
          intro i14996 I14997 J14998 RI14997 hrI14997 hTI14997 hSI14997 hPI14997 hI14997 w14999 ew14999 ai14996 bi14996 j0_I14997 j1_I14997 hmlp31_14999
          have e15001 : I14997 (ad g 1) 1 = L := hI14997.2
          have b15002 := BT_get hI14997.1 1 1 2 (0) (0) (900) (by decide) 1 (by decide) (by decide)
          rw [e15001] at b15002
          refine WP_aload_n dX10_rest_31 rfl ?_
          refine WQ_getim dX10_rest_32 fX10_263 rfl (lyx_is hy 0 10 rfl) ew14999 ?_
          refine WQ_bipush (60) (60) dX10_rest_35 rfl rfl (fun v15003 hv15003 => ?_)
          refine WQ_icmp_ge 70 dX10_rest_37 rfl (fun c15003 => ?_) (fun c15003 => ?_)
          · refine WP_iload_n dX10_rest_70 rfl ?_
            have jn79_15007 : ∀ (v15007 : Int32), 0 ≤ v15007.toInt → v15007.toInt ≤ 1 → WP g mX10_rest 79 [(0, .ref (ad g 0)), (1, .int a), (2, .int i14996)] [.int v15007] I14997 J14998 RI14997 (fun r I' J' R' => (XI g n L I' ∧ (RfX g R' ∧ (R' (ad g 5) 0 = R (ad g 5) 0 ∧ R' (ad g 0) 10 = R (ad g 0) 10) ∧ NL g R')) ∧ ∃ v : Int32, r = some (.int v)) := by
              intro v15007 av15007 bv15007
              exact WP_iret dX10_rest_79 rfl ⟨⟨hI14997, ⟨hrI14997, ⟨hTI14997.trans hT.symm, hSI14997⟩, hPI14997⟩⟩, _, rfl⟩
            refine WQ_if_eq 78 dX10_rest_71 rfl (fun c15008 => ?_) (fun c15008 => ?_)
            · refine WQ_iconst (0) (0) dX10_rest_78 rfl rfl (fun v15010 hv15010 => ?_)
              exact WP_sub (fc rfl (fc rfl (fc rfl fn))) (jn79_15007 v15010 (by omega) (by omega))
            · refine WQ_iconst (1) (1) dX10_rest_74 rfl rfl (fun v15011 hv15011 => ?_)
              refine WP_goto 79 dX10_rest_75 rfl ?_
              exact WP_sub (fc rfl (fc rfl (fc rfl fn))) (jn79_15007 v15011 (by omega) (by omega))
          · refine WP_iload_n dX10_rest_40 rfl ?_
            refine WQ_if_ne 70 dX10_rest_41 rfl (fun c15011 => ?_) (fun c15011 => ?_)
            · refine WP_iload_n dX10_rest_70 rfl ?_
              have jn79_15014 : ∀ (v15014 : Int32), 1 ≤ v15014.toInt → v15014.toInt ≤ 1 → WP g mX10_rest 79 [(0, .ref (ad g 0)), (1, .int a), (2, .int i14996)] [.int v15014] I14997 J14998 RI14997 (fun r I' J' R' => (XI g n L I' ∧ (RfX g R' ∧ (R' (ad g 5) 0 = R (ad g 5) 0 ∧ R' (ad g 0) 10 = R (ad g 0) 10) ∧ NL g R')) ∧ ∃ v : Int32, r = some (.int v)) := by
                intro v15014 av15014 bv15014
                exact WP_iret dX10_rest_79 rfl ⟨⟨hI14997, ⟨hrI14997, ⟨hTI14997.trans hT.symm, hSI14997⟩, hPI14997⟩⟩, _, rfl⟩
              refine WQ_if_eq 78 dX10_rest_71 rfl (fun c15015 => False.elim (by omega)) (fun c15015 => ?_)
              refine WQ_iconst (1) (1) dX10_rest_74 rfl rfl (fun v15017 hv15017 => ?_)
              refine WP_goto 79 dX10_rest_75 rfl ?_
              exact WP_sub (fc rfl (fc rfl (fc rfl fn))) (jn79_15014 v15017 (by omega) (by omega))
            · refine WP_aload_n dX10_rest_44 rfl ?_
              refine WP_dup dX10_rest_45 rfl ?_
              refine WQ_getim dX10_rest_46 fX10_263 rfl (lyx_is hy 0 10 rfl) ew14999 ?_
              refine WQ_iconst (1) (1) dX10_rest_49 rfl rfl (fun v15018 hv15018 => ?_)
              refine WQ_iadd dX10_rest_50 (by omega) (by omega) (fun v15019 hv15019 => ?_)
              refine WQ_puti dX10_rest_51 fX10_263 rfl rfl (lyx_is hy 0 10 rfl) (fun I15020 eI15020 => ?_)
              have hI15020 : XI g n L I15020 := by rw [eI15020]; exact (xi_f0 hy hI14997 (c := 0) (by decide) (Or.inl (by decide)) (by decide))
              have e15021 : I15020 (ad g 1) 1 = L := by rw [eI15020, pp_ne _ _ (Or.inl (lyx_ne hy (by decide) (by decide) (by decide)))]; exact e15001
              have e15022 : I15020 (ad g 0) 11 = v15019 := by rw [eI15020, pp_self]
              clear eI15020
              refine WP_aload_n dX10_rest_54 rfl ?_
              refine WP_callV0 (k := 10) dX10_rest_55 ⟨⟨⟨by decide, by decide⟩, zX10_turnChanges⟩, lX10_266, by decide, rfl, vX10_turnChanges.1, vX10_turnChanges.2⟩ (lyx_is hy 0 10 rfl) (sx_turnChanges_6 hy hrI14997 hPI14997 hTI14997 hI15020   (by omega)) (Nat.le_of_ble_eq_true rfl) ?_
              intro r I15023 J15024 R15025 hq
              obtain ⟨⟨hI15023, ⟨hrI15023, ⟨htI15023, hsI15023⟩, hpI15023⟩, fiI15023⟩, v15026, rfl, av15026, bv15026⟩ := hq
              show WP _ _ _ _ (.int _ :: _) _ _ _ _
              have ht_I15023 := htI15023.trans hTI14997
              have hs_I15023 : R15025 (ad g 0) 10 = R (ad g 0) 10 := hsI15023.trans hSI14997
              have e15027 : I15023 (ad g 0) 11 = v15019 := by rw [fz_at fiI15023 0 (by decide) (by decide)]; exact e15022
              have e15028 : I15023 (ad g 1) 1 = L := hI15023.2
              have b15029 := BT_get hI15023.1 1 1 2 (0) (0) (900) (by decide) 1 (by decide) (by decide)
              rw [e15028] at b15029
              have jn66_15032 : ∀ (v15032 : Int32), 0 ≤ v15032.toInt → v15032.toInt ≤ 1 → WP g mX10_rest 66 [(0, .ref (ad g 0)), (1, .int a), (2, .int i14996)] [.int v15032] I15023 J15024 R15025 (fun r I' J' R' => (XI g n L I' ∧ (RfX g R' ∧ (R' (ad g 5) 0 = R (ad g 5) 0 ∧ R' (ad g 0) 10 = R (ad g 0) 10) ∧ NL g R')) ∧ ∃ v : Int32, r = some (.int v)) := by
                intro v15032 av15032 bv15032
                refine WP_istore_n (ls' := [(0, _), (1, _), (2, _)]) dX10_rest_66 (by decide) rfl ?_
                refine WP_goto 31 dX10_rest_67 rfl ?_
                exact WP_sub (fc rfl (fc rfl (fc rfl fn))) (ihlp31_14999 v15032 I15023 J15024 R15025 hrI15023 ht_I15023 hs_I15023 hpI15023 hI15023 v15019 e15027 (by omega) (by omega) (by omega) (by omega) (by omega))
              refine WQ_if_ne 65 dX10_rest_58 rfl (fun c15033 => ?_) (fun c15033 => ?_)
              · refine WQ_iconst (0) (0) dX10_rest_65 rfl rfl (fun v15035 hv15035 => ?_)
                exact WP_sub (fc rfl (fc rfl (fc rfl fn))) (jn66_15032 v15035 (by omega) (by omega))
              · refine WQ_iconst (1) (1) dX10_rest_61 rfl rfl (fun v15036 hv15036 => ?_)
                refine WP_goto 66 dX10_rest_62 rfl ?_
                exact WP_sub (fc rfl (fc rfl (fc rfl fn))) (jn66_15032 v15036 (by omega) (by omega))
      exact WP_sub (fc rfl (fc rfl (fc rfl fn))) (lp31_14999 _ v14991 I14993 J14988 R hr hT rfl hP hI14993 v14992 e14995 (by omega) (by omega) (by omega) (by omega) (Nat.lt_succ_self _))
    · refine WQ_bipush (-2) (-2) dX10_rest_9 rfl rfl (fun v15037 hv15037 => ?_)
      exact WP_iret dX10_rest_11 rfl ⟨⟨hI, ⟨hr, ⟨hT.trans hT.symm, rfl⟩, hP⟩⟩, _, rfl⟩
set_option maxHeartbeats 4000000 in
set_option maxRecDepth 100000 in
theorem sx_best_6 {g : GG} {n : Int} {L : Int32} (hy : LyX g)  {I : pI} {J : pJ} {R : pR} (hr : RfX g R) (hP : NL g R) (hT : R (ad g 5) 0 = some (ad g 6)) (hI : XI g n L I) (a : Int32) (b : Int32) (c : Int32) (e : Int32) (k : Int32)  : SP g mX10_best [.ref (ad g 0), .int a, .int b, .int c, .int e, .int k] I J R (fun r I' J' R' => (XI g n L I' ∧ (RfX g R' ∧ (R' (ad g 5) 0 = R (ad g 5) 0 ∧ R' (ad g 0) 10 = R (ad g 0) 10) ∧ NL g R')) ∧ ∃ v : Int32, r = some (.int v)) := by
  refine SP_of ⟨by decide, rfl⟩ (Nat.le_of_ble_eq_true rfl) ?_
  have e15038 : I (ad g 1) 1 = L := hI.2
  have b15039 := BT_get hI.1 1 1 2 (0) (0) (900) (by decide) 1 (by decide) (by decide)
  rw [e15038] at b15039
  refine WP_aload_n dX10_best_0 rfl ?_
  refine WP_iload_n dX10_best_1 rfl ?_
  refine WP_iload_n dX10_best_2 rfl ?_
  refine WP_iload_n dX10_best_3 rfl ?_
  refine WP_iload dX10_best_4 rfl ?_
  refine WP_callV4 (k := 10) dX10_best_6 ⟨⟨⟨by decide, by decide⟩, zX10_isPerson⟩, lX10_188, by decide, rfl, vX10_isPerson.1, vX10_isPerson.2⟩ (lyx_is hy 0 10 rfl) (sx_isPerson_6 hy hr hT hI a b c e    ) (Nat.le_of_ble_eq_true rfl) ?_
  intro r Ia Ja Ra hq
  obtain ⟨⟨ea, eb, ec⟩, v15040, rfl, av15040, bv15040, cv15040⟩ := hq
  show WP _ _ _ _ (.int _ :: _) _ _ _ _
  rw [ea, eb, ec]
  clear ea eb ec Ia Ja Ra
  refine WQ_if_eq 23 dX10_best_9 rfl (fun c15040 => ?_) (fun c15040 => ?_)
  · refine WQ_bipush (-2) (-2) dX10_best_23 rfl rfl (fun v15042 hv15042 => ?_)
    exact WP_iret dX10_best_25 rfl ⟨⟨hI, ⟨hr, ⟨hT.trans hT.symm, rfl⟩, hP⟩⟩, _, rfl⟩
  · refine WP_iload dX10_best_12 rfl ?_
    refine WQ_iconst (0) (0) dX10_best_14 rfl rfl (fun v15043 hv15043 => ?_)
    refine WQ_bipush (28) (28) dX10_best_15 rfl rfl (fun v15044 hv15044 => ?_)
    refine WP_callS3 dX10_best_17 ⟨⟨⟨by decide, by decide⟩, zX10_within⟩, lX10_206, tX10_within⟩ (sx_within hy hr hI k v15043 v15044   ) (Nat.le_of_ble_eq_true rfl) ?_
    intro r Ia Ja Ra hq
    obtain ⟨⟨ea, eb, ec⟩, v15045, rfl, av15045, bv15045, cv15045⟩ := hq
    show WP _ _ _ _ (.int _ :: _) _ _ _ _
    rw [ea, eb, ec]
    clear ea eb ec Ia Ja Ra
    refine WQ_if_ne 26 dX10_best_20 rfl (fun c15045 => ?_) (fun c15045 => ?_)
    · refine WP_iload dX10_best_26 rfl ?_
      refine WQ_if_ne 33 dX10_best_28 rfl (fun c15046 => ?_) (fun c15046 => ?_)
      · refine WP_aload_n dX10_best_33 rfl ?_
        refine WP_getr dX10_best_34 fX10_46 rfl (lyx_is hy 0 10 rfl) (rfx hr 0 3 43 (by decide)) ?_
        refine WP_iload_n dX10_best_37 rfl ?_
        refine WP_iload_n dX10_best_38 rfl ?_
        refine WP_aload_n dX10_best_39 rfl ?_
        refine WP_getr dX10_best_40 fX10_33 rfl (lyx_is hy 0 10 rfl) (rfx hr 0 2 5 (by decide)) ?_
        refine WP_iload_n dX10_best_43 rfl ?_
        refine WP_iload_n dX10_best_44 rfl ?_
        refine WP_iload_n dX10_best_45 rfl ?_
        refine WP_callV3 (k := 0) dX10_best_46 ⟨⟨⟨by decide, by decide⟩, zX0_earned⟩, lX10_209, by decide, rfl, vX0_earned.1, vX0_earned.2⟩ (lyx_is hy 5 0 rfl) (sx_earned_6 hy hr hT hI a b c (by omega) (by omega) (by omega) (by omega) (by omega) (by omega)) (Nat.le_of_ble_eq_true rfl) ?_
        intro r Ia Ja Ra hq
        obtain ⟨⟨ea, eb, ec⟩, v15048, rfl, av15048, bv15048, cv15048⟩ := hq
        show WP _ _ _ _ (.int _ :: _) _ _ _ _
        rw [ea, eb, ec]
        clear ea eb ec Ia Ja Ra
        refine WP_iload dX10_best_49 rfl ?_
        refine WP_iload dX10_best_51 rfl ?_
        refine WP_callV5 (k := 2) dX10_best_53 ⟨⟨⟨by decide, by decide⟩, zX2_search⟩, lX10_212, by decide, rfl, vX2_search.1, vX2_search.2⟩ (lyx_is hy 43 2 rfl) (sx_searchx_6 hy hr hP hT hI a b v15048 e k (by omega) (by omega) (by omega) (by omega) (by omega) (by omega) (by omega) (by omega) (by omega) (by omega)) (Nat.le_of_ble_eq_true rfl) ?_
        intro r I15049 J15050 R15051 hq
        obtain ⟨⟨hI15049, ⟨hrI15049, ⟨htI15049, hsI15049⟩, hpI15049⟩, fiI15049, fjI15049⟩, v15052, rfl, av15052, bv15052, cv15052⟩ := hq
        show WP _ _ _ _ (.int _ :: _) _ _ _ _
        have ht_I15049 := htI15049.trans hT
        have hs_I15049 : R15051 (ad g 0) 10 = R (ad g 0) 10 := hsI15049.trans rfl
        have e15053 : I15049 (ad g 1) 1 = L := hI15049.2
        have b15054 := BT_get hI15049.1 1 1 2 (0) (0) (900) (by decide) 1 (by decide) (by decide)
        rw [e15053] at b15054
        refine WP_pop dX10_best_56 rfl ?_
        refine WP_aload_n dX10_best_57 rfl ?_
        refine WP_getr dX10_best_58 fX10_46 rfl (lyx_is hy 0 10 rfl) (rfx hrI15049 0 3 43 (by decide)) ?_
        refine WQ_getiu dX10_best_61 fX10_216 rfl (lyx_is hy 43 2 rfl) (fun v15055 ev15055 => ?_)
        exact WP_iret dX10_best_64 rfl ⟨⟨hI15049, ⟨hrI15049, ⟨ht_I15049.trans hT.symm, hs_I15049⟩, hpI15049⟩⟩, _, rfl⟩
      · refine WQ_iconst (0) (0) dX10_best_31 rfl rfl (fun v15056 hv15056 => ?_)
        exact WP_iret dX10_best_32 rfl ⟨⟨hI, ⟨hr, ⟨hT.trans hT.symm, rfl⟩, hP⟩⟩, _, rfl⟩
    · refine WQ_bipush (-2) (-2) dX10_best_23 rfl rfl (fun v15057 hv15057 => ?_)
      exact WP_iret dX10_best_25 rfl ⟨⟨hI, ⟨hr, ⟨hT.trans hT.symm, rfl⟩, hP⟩⟩, _, rfl⟩
set_option maxHeartbeats 4000000 in
set_option maxRecDepth 100000 in
theorem sx_bestAct_6 {g : GG} {n : Int} {L : Int32} (hy : LyX g)  {I : pI} {J : pJ} {R : pR} (hr : RfX g R) (hP : NL g R) (hT : R (ad g 5) 0 = some (ad g 6)) (hI : XI g n L I) (a : Int32) (b : Int32) (c : Int32) (e : Int32) (k : Int32)  : SP g mX10_bestAct [.ref (ad g 0), .int a, .int b, .int c, .int e, .int k] I J R (fun r I' J' R' => (XI g n L I' ∧ (RfX g R' ∧ (R' (ad g 5) 0 = R (ad g 5) 0 ∧ R' (ad g 0) 10 = R (ad g 0) 10) ∧ NL g R')) ∧ ∃ v : Int32, r = some (.int v)) := by
  refine SP_of ⟨by decide, rfl⟩ (Nat.le_of_ble_eq_true rfl) ?_
  have e15058 : I (ad g 1) 1 = L := hI.2
  have b15059 := BT_get hI.1 1 1 2 (0) (0) (900) (by decide) 1 (by decide) (by decide)
  rw [e15058] at b15059
  refine WP_aload_n dX10_bestAct_0 rfl ?_
  refine WP_iload_n dX10_bestAct_1 rfl ?_
  refine WP_iload_n dX10_bestAct_2 rfl ?_
  refine WP_iload_n dX10_bestAct_3 rfl ?_
  refine WP_iload dX10_bestAct_4 rfl ?_
  refine WP_callV4 (k := 10) dX10_bestAct_6 ⟨⟨⟨by decide, by decide⟩, zX10_isPerson⟩, lX10_188, by decide, rfl, vX10_isPerson.1, vX10_isPerson.2⟩ (lyx_is hy 0 10 rfl) (sx_isPerson_6 hy hr hT hI a b c e    ) (Nat.le_of_ble_eq_true rfl) ?_
  intro r Ia Ja Ra hq
  obtain ⟨⟨ea, eb, ec⟩, v15060, rfl, av15060, bv15060, cv15060⟩ := hq
  show WP _ _ _ _ (.int _ :: _) _ _ _ _
  rw [ea, eb, ec]
  clear ea eb ec Ia Ja Ra
  refine WQ_if_eq 23 dX10_bestAct_9 rfl (fun c15060 => ?_) (fun c15060 => ?_)
  · refine WQ_bipush (-2) (-2) dX10_bestAct_23 rfl rfl (fun v15062 hv15062 => ?_)
    exact WP_iret dX10_bestAct_25 rfl ⟨⟨hI, ⟨hr, ⟨hT.trans hT.symm, rfl⟩, hP⟩⟩, _, rfl⟩
  · refine WP_iload dX10_bestAct_12 rfl ?_
    refine WQ_iconst (0) (0) dX10_bestAct_14 rfl rfl (fun v15063 hv15063 => ?_)
    refine WQ_bipush (28) (28) dX10_bestAct_15 rfl rfl (fun v15064 hv15064 => ?_)
    refine WP_callS3 dX10_bestAct_17 ⟨⟨⟨by decide, by decide⟩, zX10_within⟩, lX10_206, tX10_within⟩ (sx_within hy hr hI k v15063 v15064   ) (Nat.le_of_ble_eq_true rfl) ?_
    intro r Ia Ja Ra hq
    obtain ⟨⟨ea, eb, ec⟩, v15065, rfl, av15065, bv15065, cv15065⟩ := hq
    show WP _ _ _ _ (.int _ :: _) _ _ _ _
    rw [ea, eb, ec]
    clear ea eb ec Ia Ja Ra
    refine WQ_if_ne 26 dX10_bestAct_20 rfl (fun c15065 => ?_) (fun c15065 => ?_)
    · refine WP_iload dX10_bestAct_26 rfl ?_
      refine WQ_if_ne 33 dX10_bestAct_28 rfl (fun c15066 => ?_) (fun c15066 => ?_)
      · refine WP_aload_n dX10_bestAct_33 rfl ?_
        refine WP_getr dX10_bestAct_34 fX10_46 rfl (lyx_is hy 0 10 rfl) (rfx hr 0 3 43 (by decide)) ?_
        refine WP_iload_n dX10_bestAct_37 rfl ?_
        refine WP_iload_n dX10_bestAct_38 rfl ?_
        refine WP_aload_n dX10_bestAct_39 rfl ?_
        refine WP_getr dX10_bestAct_40 fX10_33 rfl (lyx_is hy 0 10 rfl) (rfx hr 0 2 5 (by decide)) ?_
        refine WP_iload_n dX10_bestAct_43 rfl ?_
        refine WP_iload_n dX10_bestAct_44 rfl ?_
        refine WP_iload_n dX10_bestAct_45 rfl ?_
        refine WP_callV3 (k := 0) dX10_bestAct_46 ⟨⟨⟨by decide, by decide⟩, zX0_earned⟩, lX10_209, by decide, rfl, vX0_earned.1, vX0_earned.2⟩ (lyx_is hy 5 0 rfl) (sx_earned_6 hy hr hT hI a b c (by omega) (by omega) (by omega) (by omega) (by omega) (by omega)) (Nat.le_of_ble_eq_true rfl) ?_
        intro r Ia Ja Ra hq
        obtain ⟨⟨ea, eb, ec⟩, v15068, rfl, av15068, bv15068, cv15068⟩ := hq
        show WP _ _ _ _ (.int _ :: _) _ _ _ _
        rw [ea, eb, ec]
        clear ea eb ec Ia Ja Ra
        refine WP_iload dX10_bestAct_49 rfl ?_
        refine WP_iload dX10_bestAct_51 rfl ?_
        refine WP_callV5 (k := 2) dX10_bestAct_53 ⟨⟨⟨by decide, by decide⟩, zX2_search⟩, lX10_212, by decide, rfl, vX2_search.1, vX2_search.2⟩ (lyx_is hy 43 2 rfl) (sx_searchx_6 hy hr hP hT hI a b v15068 e k (by omega) (by omega) (by omega) (by omega) (by omega) (by omega) (by omega) (by omega) (by omega) (by omega)) (Nat.le_of_ble_eq_true rfl) ?_
        intro r I15069 J15070 R15071 hq
        obtain ⟨⟨hI15069, ⟨hrI15069, ⟨htI15069, hsI15069⟩, hpI15069⟩, fiI15069, fjI15069⟩, v15072, rfl, av15072, bv15072, cv15072⟩ := hq
        show WP _ _ _ _ (.int _ :: _) _ _ _ _
        have ht_I15069 := htI15069.trans hT
        have hs_I15069 : R15071 (ad g 0) 10 = R (ad g 0) 10 := hsI15069.trans rfl
        have e15073 : I15069 (ad g 1) 1 = L := hI15069.2
        have b15074 := BT_get hI15069.1 1 1 2 (0) (0) (900) (by decide) 1 (by decide) (by decide)
        rw [e15073] at b15074
        exact WP_iret dX10_bestAct_56 rfl ⟨⟨hI15069, ⟨hrI15069, ⟨ht_I15069.trans hT.symm, hs_I15069⟩, hpI15069⟩⟩, _, rfl⟩
      · refine WQ_iconst (-1) (-1) dX10_bestAct_31 rfl rfl (fun v15075 hv15075 => ?_)
        exact WP_iret dX10_bestAct_32 rfl ⟨⟨hI, ⟨hr, ⟨hT.trans hT.symm, rfl⟩, hP⟩⟩, _, rfl⟩
    · refine WQ_bipush (-2) (-2) dX10_bestAct_23 rfl rfl (fun v15076 hv15076 => ?_)
      exact WP_iret dX10_bestAct_25 rfl ⟨⟨hI, ⟨hr, ⟨hT.trans hT.symm, rfl⟩, hP⟩⟩, _, rfl⟩
set_option maxHeartbeats 4000000 in
set_option maxRecDepth 100000 in
theorem sx_wayAct_6 {g : GG} {n : Int} {L : Int32} (hy : LyX g)  {I : pI} {J : pJ} {R : pR} (hr : RfX g R) (hP : NL g R) (hT : R (ad g 5) 0 = some (ad g 6)) (hI : XI g n L I) (a : Int32) (b : Int32) (c : Int32) (e : Int32) (k : Int32)  : SP g mX10_wayAct [.ref (ad g 0), .int a, .int b, .int c, .int e, .int k] I J R (fun r I' J' R' => (XI g n L I' ∧ (RfX g R' ∧ (R' (ad g 5) 0 = R (ad g 5) 0 ∧ R' (ad g 0) 10 = R (ad g 0) 10) ∧ NL g R')) ∧ ∃ v : Int32, r = some (.int v)) := by
  refine SP_of ⟨by decide, rfl⟩ (Nat.le_of_ble_eq_true rfl) ?_
  have e15077 : I (ad g 1) 1 = L := hI.2
  have b15078 := BT_get hI.1 1 1 2 (0) (0) (900) (by decide) 1 (by decide) (by decide)
  rw [e15077] at b15078
  refine WP_iload_n dX10_wayAct_0 rfl ?_
  refine WP_callS1 dX10_wayAct_1 ⟨⟨⟨by decide, by decide⟩, zX10_isWay⟩, lX10_219, tX10_isWay⟩ (sx_isWay hy hr hI a ) (Nat.le_of_ble_eq_true rfl) ?_
  intro r Ia Ja Ra hq
  obtain ⟨⟨ea, eb, ec⟩, v15079, rfl, av15079, bv15079, cv15079⟩ := hq
  show WP _ _ _ _ (.int _ :: _) _ _ _ _
  rw [ea, eb, ec]
  clear ea eb ec Ia Ja Ra
  refine WQ_if_eq 20 dX10_wayAct_4 rfl (fun c15079 => ?_) (fun c15079 => ?_)
  · refine WQ_bipush (-2) (-2) dX10_wayAct_20 rfl rfl (fun v15081 hv15081 => ?_)
    exact WP_iret dX10_wayAct_22 rfl ⟨⟨hI, ⟨hr, ⟨hT.trans hT.symm, rfl⟩, hP⟩⟩, _, rfl⟩
  · refine WP_aload_n dX10_wayAct_7 rfl ?_
    refine WP_iload_n dX10_wayAct_8 rfl ?_
    refine WP_iload_n dX10_wayAct_9 rfl ?_
    refine WP_iload dX10_wayAct_10 rfl ?_
    refine WP_iload dX10_wayAct_12 rfl ?_
    refine WP_callV4 (k := 10) dX10_wayAct_14 ⟨⟨⟨by decide, by decide⟩, zX10_isPerson⟩, lX10_188, by decide, rfl, vX10_isPerson.1, vX10_isPerson.2⟩ (lyx_is hy 0 10 rfl) (sx_isPerson_6 hy hr hT hI b c e k    ) (Nat.le_of_ble_eq_true rfl) ?_
    intro r Ia Ja Ra hq
    obtain ⟨⟨ea, eb, ec⟩, v15082, rfl, av15082, bv15082, cv15082⟩ := hq
    show WP _ _ _ _ (.int _ :: _) _ _ _ _
    rw [ea, eb, ec]
    clear ea eb ec Ia Ja Ra
    refine WQ_if_ne 23 dX10_wayAct_17 rfl (fun c15082 => ?_) (fun c15082 => ?_)
    · refine WP_iload_n dX10_wayAct_23 rfl ?_
      refine WQ_iconst (3) (3) dX10_wayAct_24 rfl rfl (fun v15084 hv15084 => ?_)
      refine WQ_icmp_ne 44 dX10_wayAct_25 rfl (fun c15084 => ?_) (fun c15084 => ?_)
      · refine WP_aload_n dX10_wayAct_44 rfl ?_
        refine WP_getr dX10_wayAct_45 fX10_55 rfl (lyx_is hy 0 10 rfl) (rfx hr 0 4 49 (by decide)) ?_
        refine WP_getr dX10_wayAct_48 fX10_192 rfl (lyx_is hy 49 9 rfl) (rfx hr 49 0 50 (by decide)) ?_
        refine WP_astore (ls' := [(0, _), (1, _), (2, _), (3, _), (4, _), (5, _), (6, _)]) dX10_wayAct_51 (by decide) rfl ?_
        refine WP_aload dX10_wayAct_53 rfl ?_
        refine WP_aload_n dX10_wayAct_55 rfl ?_
        refine WP_getr dX10_wayAct_56 fX10_33 rfl (lyx_is hy 0 10 rfl) (rfx hr 0 2 5 (by decide)) ?_
        refine WP_iload_n dX10_wayAct_59 rfl ?_
        refine WP_iload_n dX10_wayAct_60 rfl ?_
        refine WP_callV3 (k := 6) dX10_wayAct_61 ⟨⟨⟨by decide, by decide⟩, zX6_load⟩, lX10_196, by decide, rfl, vX6_load.1, vX6_load.2⟩ (lyx_is hy 50 6 rfl) (sx_loadx_50_6 hy hr hT hI b c (by omega) (by omega) (by omega) (by omega)) (Nat.le_of_ble_eq_true rfl) ?_
        intro r I15086 J15087 Ra hq
        obtain ⟨⟨hI15086, ec, fiI15086, ejI15086, pI15086⟩, rfl⟩ := hq
        rw [ec]
        clear ec Ra
        rw [ejI15086]
        clear ejI15086 J15087
        have e15088 : I15086 (ad g 1) 1 = L := hI15086.2
        have b15089 := BT_get hI15086.1 1 1 2 (0) (0) (900) (by decide) 1 (by decide) (by decide)
        rw [e15088] at b15089
        refine WP_aload dX10_wayAct_64 rfl ?_
        refine WP_iload_n dX10_wayAct_66 rfl ?_
        refine WP_iload dX10_wayAct_67 rfl ?_
        refine WP_iload dX10_wayAct_69 rfl ?_
        refine WP_callV3 (k := 6) dX10_wayAct_71 ⟨⟨⟨by decide, by decide⟩, zX6_habit⟩, lX10_222, by decide, rfl, vX6_habit.1, vX6_habit.2⟩ (lyx_is hy 50 6 rfl) (sx_habita hy hr hI15086 a e k  (by omega) (by omega) (by omega) (by omega)) (Nat.le_of_ble_eq_true rfl) ?_
        intro r Ia Ja Ra hq
        obtain ⟨⟨ea, eb, ec⟩, v15090, rfl, av15090, bv15090, cv15090⟩ := hq
        show WP _ _ _ _ (.int _ :: _) _ _ _ _
        rw [ea, eb, ec]
        clear ea eb ec Ia Ja Ra
        exact WP_iret dX10_wayAct_74 rfl ⟨⟨hI15086, ⟨hr, ⟨hT.trans hT.symm, rfl⟩, hP⟩⟩, _, rfl⟩
      · refine WP_aload_n dX10_wayAct_28 rfl ?_
        refine WP_getr dX10_wayAct_29 fX10_46 rfl (lyx_is hy 0 10 rfl) (rfx hr 0 3 43 (by decide)) ?_
        refine WP_iload_n dX10_wayAct_32 rfl ?_
        refine WP_iload_n dX10_wayAct_33 rfl ?_
        refine WP_iload dX10_wayAct_34 rfl ?_
        refine WP_iload dX10_wayAct_36 rfl ?_
        refine WQ_bipush (7) (7) dX10_wayAct_38 rfl rfl (fun v15091 hv15091 => ?_)
        refine WP_callV5 (k := 2) dX10_wayAct_40 ⟨⟨⟨by decide, by decide⟩, zX2_search⟩, lX10_212, by decide, rfl, vX2_search.1, vX2_search.2⟩ (lyx_is hy 43 2 rfl) (sx_searchx_6 hy hr hP hT hI b c e k v15091 (by omega) (by omega) (by omega) (by omega) (by omega) (by omega) (by omega) (by omega) (by omega) (by omega)) (Nat.le_of_ble_eq_true rfl) ?_
        intro r I15092 J15093 R15094 hq
        obtain ⟨⟨hI15092, ⟨hrI15092, ⟨htI15092, hsI15092⟩, hpI15092⟩, fiI15092, fjI15092⟩, v15095, rfl, av15095, bv15095, cv15095⟩ := hq
        show WP _ _ _ _ (.int _ :: _) _ _ _ _
        have ht_I15092 := htI15092.trans hT
        have hs_I15092 : R15094 (ad g 0) 10 = R (ad g 0) 10 := hsI15092.trans rfl
        have e15096 : I15092 (ad g 1) 1 = L := hI15092.2
        have b15097 := BT_get hI15092.1 1 1 2 (0) (0) (900) (by decide) 1 (by decide) (by decide)
        rw [e15096] at b15097
        exact WP_iret dX10_wayAct_43 rfl ⟨⟨hI15092, ⟨hrI15092, ⟨ht_I15092.trans hT.symm, hs_I15092⟩, hpI15092⟩⟩, _, rfl⟩
    · refine WQ_bipush (-2) (-2) dX10_wayAct_20 rfl rfl (fun v15098 hv15098 => ?_)
      exact WP_iret dX10_wayAct_22 rfl ⟨⟨hI, ⟨hr, ⟨hT.trans hT.symm, rfl⟩, hP⟩⟩, _, rfl⟩
set_option maxHeartbeats 4000000 in
set_option maxRecDepth 100000 in
theorem sx_pass_27 {g : GG} {n : Int} {L : Int32} (hy : LyX g)  {I : pI} {J : pJ} {R : pR} (hr : RfX g R) (hP : NL g R) (hT : R (ad g 5) 0 = some (ad g 27)) (hI : XI g n L I) (a : Int32)  (hn : 0 ≤ n ∧ n ≤ 40000) (hb : (I (ad g 53) 1).toInt ≤ 23760 * n - 1663200) : SP g mX10_pass [.ref (ad g 0), .int a] I J R (fun r I' J' R' => (XI g n L I' ∧ (RfX g R' ∧ (R' (ad g 5) 0 = R (ad g 5) 0 ∧ R' (ad g 0) 10 = R (ad g 0) 10) ∧ NL g R') ∧ True) ∧ ∃ v : Int32, r = some (.int v)) := by
  refine SP_of ⟨by decide, rfl⟩ (Nat.le_of_ble_eq_true rfl) ?_
  have e15099 : I (ad g 1) 1 = L := hI.2
  have b15100 := BT_get hI.1 1 1 2 (0) (0) (900) (by decide) 1 (by decide) (by decide)
  rw [e15099] at b15100
  obtain ⟨w15101, ew15101⟩ : ∃ w : Int32, I (ad g 53) 1 = w := ⟨_, rfl⟩
  have bw15101 := BT_get hI.1 53 1 2 (0) (23760) (0) (by decide) 1 (by decide) (by decide)
  rw [ew15101] at bw15101
  rw [ew15101] at hb
  refine WP_iload_n dX10_pass_0 rfl ?_
  refine WQ_if_lt 10 dX10_pass_1 rfl (fun c15101 => ?_) (fun c15101 => ?_)
  · refine WQ_bipush (-2) (-2) dX10_pass_10 rfl rfl (fun v15103 hv15103 => ?_)
    exact WP_iret dX10_pass_12 rfl ⟨⟨hI, ⟨hr, ⟨hT.trans hT.symm, rfl⟩, hP⟩, trivial⟩, _, rfl⟩
  · refine WP_iload_n dX10_pass_4 rfl ?_
    refine WQ_bipush (70) (70) dX10_pass_5 rfl rfl (fun v15104 hv15104 => ?_)
    refine WQ_icmp_le 13 dX10_pass_7 rfl (fun c15104 => ?_) (fun c15104 => ?_)
    · refine WQ_iconst (0) (0) dX10_pass_13 rfl rfl (fun v15106 hv15106 => ?_)
      refine WP_istore_n (ls' := [(0, _), (1, _), (2, _)]) dX10_pass_14 (by decide) rfl ?_
      have lp15_15110 : ∀ (mz : Nat) (i15107 : Int32) (I15108 : pI) (J15109 : pJ) (RI15108 : pR), RfX g RI15108 → RI15108 (ad g 5) 0 = some (ad g 27) → RI15108 (ad g 0) 10 = R (ad g 0) 10 → NL g RI15108 → XI g n L I15108 → ∀ (w15110 : Int32), I15108 (ad g 53) 1 = w15110 → 0 ≤ i15107.toInt → i15107.toInt ≤ 70 → w15110.toInt ≤ w15101.toInt + 23760 * i15107.toInt → i15107.toInt ≤ a.toInt → (71 - i15107.toInt).toNat < mz → WP g mX10_pass 15 [(0, .ref (ad g 0)), (1, .int a), (2, .int i15107)] [] I15108 J15109 RI15108 (fun r I' J' R' => (XI g n L I' ∧ (RfX g R' ∧ (R' (ad g 5) 0 = R (ad g 5) 0 ∧ R' (ad g 0) 10 = R (ad g 0) 10) ∧ NL g R') ∧ True) ∧ ∃ v : Int32, r = some (.int v)) := by
        intro mz
        induction mz with
        | zero =>
          intro i15107 I15108 J15109 RI15108 hrI15108 hTI15108 hSI15108 hPI15108 hI15108 w15110 ew15110 ai15107 bi15107 j0_I15108 j1_I15108 hmlp15_15110
          exact absurd hmlp15_15110 (Nat.not_lt_zero _)
        | succ mz ihlp15_15110 =>
          intro i15107 I15108 J15109 RI15108 hrI15108 hTI15108 hSI15108 hPI15108 hI15108 w15110 ew15110 ai15107 bi15107 j0_I15108 j1_I15108 hmlp15_15110
          have bw15110 := BT_get hI15108.1 53 1 2 (0) (23760) (0) (by decide) 1 (by decide) (by decide)
          rw [ew15110] at bw15110
          have e15112 : I15108 (ad g 1) 1 = L := hI15108.2
          have b15113 := BT_get hI15108.1 1 1 2 (0) (0) (900) (by decide) 1 (by decide) (by decide)
          rw [e15112] at b15113
          refine WP_iload_n dX10_pass_15 rfl ?_
          refine WP_iload_n dX10_pass_16 rfl ?_
          refine WQ_icmp_ge 38 dX10_pass_17 rfl (fun c15113 => ?_) (fun c15113 => ?_)
          · refine WP_aload_n dX10_pass_38 rfl ?_
            refine WP_getr dX10_pass_39 fX10_62 rfl (lyx_is hy 0 10 rfl) (rfx hrI15108 0 5 53 (by decide)) ?_
            refine WQ_getiu dX10_pass_42 fX10_232 rfl (lyx_is hy 53 4 rfl) (fun v15115 ev15115 => ?_)
            exact WP_iret dX10_pass_45 rfl ⟨⟨hI15108, ⟨hrI15108, ⟨hTI15108.trans hT.symm, hSI15108⟩, hPI15108⟩, trivial⟩, _, rfl⟩
          · refine WP_aload_n dX10_pass_20 rfl ?_
            refine WP_getr dX10_pass_21 fX10_55 rfl (lyx_is hy 0 10 rfl) (rfx hrI15108 0 4 49 (by decide)) ?_
            refine WP_aload_n dX10_pass_24 rfl ?_
            refine WP_getr dX10_pass_25 fX10_62 rfl (lyx_is hy 0 10 rfl) (rfx hrI15108 0 5 53 (by decide)) ?_
            refine WQ_iconst (1) (1) dX10_pass_28 rfl rfl (fun v15116 hv15116 => ?_)
            refine WP_callV2 (k := 9) dX10_pass_29 ⟨⟨⟨by decide, by decide⟩, zX9_passDay⟩, lX10_228, by decide, rfl, vX9_passDay.1, vX9_passDay.2⟩ (lyx_is hy 49 9 rfl) (sx_passDay_53_27 hy hrI15108 hPI15108 hTI15108 hI15108 v15116 (by omega) (by omega) (by omega) (by rw [ew15110]; omega)) (Nat.le_of_ble_eq_true rfl) ?_
            intro r I15117 J15118 R15119 hq
            obtain ⟨⟨hI15117, ⟨hrI15117, ⟨htI15117, hsI15117⟩, hpI15117⟩, fiI15117, pI15117⟩, rfl⟩ := hq
            have ht_I15117 := htI15117.trans hTI15108
            have hs_I15117 : R15119 (ad g 0) 10 = R (ad g 0) 10 := hsI15117.trans hSI15108
            have e15120 : I15117 (ad g 1) 1 = L := hI15117.2
            have b15121 := BT_get hI15117.1 1 1 2 (0) (0) (900) (by decide) 1 (by decide) (by decide)
            rw [e15120] at b15121
            obtain ⟨w15122, ew15122⟩ : ∃ w : Int32, I15117 (ad g 53) 1 = w := ⟨_, rfl⟩
            have bw15122 := BT_get hI15117.1 53 1 2 (0) (23760) (0) (by decide) 1 (by decide) (by decide)
            rw [ew15122] at bw15122
            rw [ew15122, ew15110] at pI15117
            refine WP_iinc (ls' := [(0, _), (1, _), (2, _)]) dX10_pass_32 rfl (by decide) rfl ?_
            have hv15123 : (i15107 + Int32.ofInt (1)).toInt = i15107.toInt + (1) := ia_n rfl (by omega) (by omega)
            generalize i15107 + Int32.ofInt (1) = v15123 at hv15123 ⊢
            refine WP_goto 15 dX10_pass_35 rfl ?_
            exact WP_sub (fc rfl (fc rfl (fc rfl fn))) (ihlp15_15110 v15123 I15117 J15118 R15119 hrI15117 ht_I15117 hs_I15117 hpI15117 hI15117 w15122 ew15122 (by omega) (by omega) (by omega) (by omega) (by omega))
      exact WP_sub (fc rfl (fc rfl (fc rfl fn))) (lp15_15110 _ v15106 I J R hr hT rfl hP hI w15101 ew15101 (by omega) (by omega) (by omega) (by omega) (Nat.lt_succ_self _))
    · refine WQ_bipush (-2) (-2) dX10_pass_10 rfl rfl (fun v15124 hv15124 => ?_)
      exact WP_iret dX10_pass_12 rfl ⟨⟨hI, ⟨hr, ⟨hT.trans hT.symm, rfl⟩, hP⟩, trivial⟩, _, rfl⟩
set_option maxHeartbeats 4000000 in
set_option maxRecDepth 100000 in
theorem sx_worthOfAll_27 {g : GG} {n : Int} {L : Int32} (hy : LyX g)  {I : pI} {J : pJ} {R : pR} (hr : RfX g R) (hP : NL g R) (hT : R (ad g 5) 0 = some (ad g 27)) (hI : XI g n L I) (ra : Int32) (we : Int32) (ra_lo : 0 ≤ ra.toInt) (ra_hi : ra.toInt ≤ 18) (we_lo : 1 ≤ we.toInt) (we_hi : we.toInt ≤ 4) (hn : 0 ≤ n ∧ n ≤ 40000) : SP g mX10_worthOfAll [.ref (ad g 0), .int ra, .int we] I J R (fun r I' J' R' => (XI g n L I' ∧ (RfX g R' ∧ (R' (ad g 5) 0 = R (ad g 5) 0 ∧ R' (ad g 0) 10 = R (ad g 0) 10) ∧ NL g R')) ∧ ∃ v : Int32, r = some (.int v)) := by
  refine SP_of ⟨by decide, rfl⟩ (Nat.le_of_ble_eq_true rfl) ?_
  have e15125 : I (ad g 1) 1 = L := hI.2
  have b15126 := BT_get hI.1 1 1 2 (0) (0) (900) (by decide) 1 (by decide) (by decide)
  rw [e15125] at b15126
  refine WP_aload_n dX10_worthOfAll_0 rfl ?_
  refine WP_getr dX10_worthOfAll_1 fX10_66 rfl (lyx_is hy 0 10 rfl) (rfx hr 0 6 56 (by decide)) ?_
  refine WP_aload_n dX10_worthOfAll_4 rfl ?_
  refine WP_getr dX10_worthOfAll_5 fX10_62 rfl (lyx_is hy 0 10 rfl) (rfx hr 0 5 53 (by decide)) ?_
  refine WP_callV1 (k := 4) dX10_worthOfAll_8 ⟨⟨⟨by decide, by decide⟩, zX4_become⟩, lX10_249, by decide, rfl, vX4_become.1, vX4_become.2⟩ (lyx_is hy 56 4 rfl) (sx_becomef_56_53 hy hr hI  ) (Nat.le_of_ble_eq_true rfl) ?_
  intro r I15127 J15128 Ra hq
  obtain ⟨⟨hI15127, ec, fiI15127⟩, rfl⟩ := hq
  rw [ec]
  clear ec Ra
  have e15129 : I15127 (ad g 1) 1 = L := hI15127.2
  have b15130 := BT_get hI15127.1 1 1 2 (0) (0) (900) (by decide) 1 (by decide) (by decide)
  rw [e15129] at b15130
  refine WP_aload_n dX10_worthOfAll_11 rfl ?_
  refine WP_getr dX10_worthOfAll_12 fX10_66 rfl (lyx_is hy 0 10 rfl) (rfx hr 0 6 56 (by decide)) ?_
  refine WP_aload_n dX10_worthOfAll_15 rfl ?_
  refine WP_getr dX10_worthOfAll_16 fX10_33 rfl (lyx_is hy 0 10 rfl) (rfx hr 0 2 5 (by decide)) ?_
  refine WP_getr dX10_worthOfAll_19 fX10_102 rfl (lyx_is hy 5 0 rfl) hT ?_
  refine WP_callV1 (k := 4) dX10_worthOfAll_22 ⟨⟨⟨by decide, by decide⟩, zX4_begin⟩, lX10_246, by decide, rfl, vX4_begin.1, vX4_begin.2⟩ (lyx_is hy 56 4 rfl) (sx_beginf_56_27 hy hr hI15127   (by omega)) (Nat.le_of_ble_eq_true rfl) ?_
  intro r I15131 J15132 Ra hq
  obtain ⟨⟨hI15131, ec, fiI15131, pI15131⟩, rfl⟩ := hq
  rw [ec]
  clear ec Ra
  have e15133 : I15131 (ad g 1) 1 = L := hI15131.2
  have b15134 := BT_get hI15131.1 1 1 2 (0) (0) (900) (by decide) 1 (by decide) (by decide)
  rw [e15133] at b15134
  obtain ⟨w15135, ew15135⟩ : ∃ w : Int32, I15131 (ad g 56) 1 = w := ⟨_, rfl⟩
  have bw15135 := BT_get hI15131.1 56 1 2 (0) (23760) (700000) (by decide) 1 (by decide) (by decide)
  rw [ew15135] at bw15135
  rw [ew15135] at pI15131
  refine WP_aload_n dX10_worthOfAll_25 rfl ?_
  refine WP_getr dX10_worthOfAll_26 fX10_33 rfl (lyx_is hy 0 10 rfl) (rfx hr 0 2 5 (by decide)) ?_
  refine WP_iload_n dX10_worthOfAll_29 rfl ?_
  refine WQ_bipush (50) (50) dX10_worthOfAll_30 rfl rfl (fun v15136 hv15136 => ?_)
  refine WQ_imulk (50) dX10_worthOfAll_32 hv15136 (by omega) (by omega) (fun v15137 hv15137 => ?_)
  refine WP_callV1 (k := 0) dX10_worthOfAll_33 ⟨⟨⟨by decide, by decide⟩, zX0_lossesAt⟩, lX10_344, by decide, rfl, vX0_lossesAt.1, vX0_lossesAt.2⟩ (lyx_is hy 5 0 rfl) (sx_lossesAtf_27 hy hr hT hI15131 v15137 (by omega) (by omega)) (Nat.le_of_ble_eq_true rfl) ?_
  intro r I15138 J15139 Ra hq
  obtain ⟨⟨hI15138, ec, fiI15138⟩, rfl⟩ := hq
  rw [ec]
  clear ec Ra
  have e15140 : I15138 (ad g 56) 1 = w15135 := by rw [fz_at fiI15138 56 (by decide) (by decide)]; exact ew15135
  have e15141 : I15138 (ad g 1) 1 = L := hI15138.2
  have b15142 := BT_get hI15138.1 1 1 2 (0) (0) (900) (by decide) 1 (by decide) (by decide)
  rw [e15141] at b15142
  refine WQ_iconst (0) (0) dX10_worthOfAll_36 rfl rfl (fun v15143 hv15143 => ?_)
  refine WP_istore_n (ls' := [(0, _), (1, _), (2, _), (3, _)]) dX10_worthOfAll_37 (by decide) rfl ?_
  have lp38_15147 : ∀ (mz : Nat) (i15144 : Int32) (I15145 : pI) (J15146 : pJ) (RI15145 : pR), RfX g RI15145 → RI15145 (ad g 5) 0 = some (ad g 27) → RI15145 (ad g 0) 10 = R (ad g 0) 10 → NL g RI15145 → XI g n L I15145 → ∀ (w15147 : Int32), I15145 (ad g 56) 1 = w15147 → 0 ≤ i15144.toInt → i15144.toInt ≤ 28 → w15147.toInt ≤ 23760 * i15144.toInt → (29 - i15144.toInt).toNat < mz → WP g mX10_worthOfAll 38 [(0, .ref (ad g 0)), (1, .int ra), (2, .int we), (3, .int i15144)] [] I15145 J15146 RI15145 (fun r I' J' R' => (XI g n L I' ∧ (RfX g R' ∧ (R' (ad g 5) 0 = R (ad g 5) 0 ∧ R' (ad g 0) 10 = R (ad g 0) 10) ∧ NL g R')) ∧ ∃ v : Int32, r = some (.int v)) := by
    intro mz
    induction mz with
    | zero =>
      intro i15144 I15145 J15146 RI15145 hrI15145 hTI15145 hSI15145 hPI15145 hI15145 w15147 ew15147 ai15144 bi15144 j0_I15145 hmlp38_15147
      exact absurd hmlp38_15147 (Nat.not_lt_zero _)
    | succ mz ihlp38_15147 =>
      intro i15144 I15145 J15146 RI15145 hrI15145 hTI15145 hSI15145 hPI15145 hI15145 w15147 ew15147 ai15144 bi15144 j0_I15145 hmlp38_15147
      have bw15147 := BT_get hI15145.1 56 1 2 (0) (23760) (700000) (by decide) 1 (by decide) (by decide)
      rw [ew15147] at bw15147
      have e15149 : I15145 (ad g 1) 1 = L := hI15145.2
      have b15150 := BT_get hI15145.1 1 1 2 (0) (0) (900) (by decide) 1 (by decide) (by decide)
      rw [e15149] at b15150
      refine WP_iload_n dX10_worthOfAll_38 rfl ?_
      refine WP_iload_n dX10_worthOfAll_39 rfl ?_
      refine WQ_bipush (7) (7) dX10_worthOfAll_40 rfl rfl (fun v15151 hv15151 => ?_)
      refine WQ_imulk (7) dX10_worthOfAll_42 hv15151 (by omega) (by omega) (fun v15152 hv15152 => ?_)
      refine WQ_icmp_ge 64 dX10_worthOfAll_43 rfl (fun c15152 => ?_) (fun c15152 => ?_)
      · refine WP_aload_n dX10_worthOfAll_64 rfl ?_
        refine WP_getr dX10_worthOfAll_65 fX10_33 rfl (lyx_is hy 0 10 rfl) (rfx hrI15145 0 2 5 (by decide)) ?_
        refine WP_callV0 (k := 0) dX10_worthOfAll_68 ⟨⟨⟨by decide, by decide⟩, zX0_lossesAsTold⟩, lX10_347, by decide, rfl, vX0_lossesAsTold.1, vX0_lossesAsTold.2⟩ (lyx_is hy 5 0 rfl) (sx_lossesAsToldf_27 hy hrI15145 hTI15145 hI15145  ) (Nat.le_of_ble_eq_true rfl) ?_
        intro r I15154 J15155 Ra hq
        obtain ⟨⟨hI15154, ec, fiI15154⟩, rfl⟩ := hq
        rw [ec]
        clear ec Ra
        have e15156 : I15154 (ad g 56) 1 = w15147 := by rw [fz_at fiI15154 56 (by decide) (by decide)]; exact ew15147
        have e15157 : I15154 (ad g 1) 1 = L := hI15154.2
        have b15158 := BT_get hI15154.1 1 1 2 (0) (0) (900) (by decide) 1 (by decide) (by decide)
        rw [e15157] at b15158
        refine WP_aload_n dX10_worthOfAll_71 rfl ?_
        refine WP_getr dX10_worthOfAll_72 fX10_66 rfl (lyx_is hy 0 10 rfl) (rfx hrI15145 0 6 56 (by decide)) ?_
        refine WQ_iconst (4) (4) dX10_worthOfAll_75 rfl rfl (fun v15159 hv15159 => ?_)
        refine WP_callV1 (k := 4) dX10_worthOfAll_76 ⟨⟨⟨by decide, by decide⟩, zX4_sum⟩, lX10_350, by decide, rfl, vX4_sum.1, vX4_sum.2⟩ (lyx_is hy 56 4 rfl) (sx_sum_56 hy hrI15145 hI15154 v15159 (by omega) (by omega)) (Nat.le_of_ble_eq_true rfl) ?_
        intro r Ia Ja Ra hq
        obtain ⟨⟨ea, eb, ec⟩, v15160, rfl⟩ := hq
        show WP _ _ _ _ (.int _ :: _) _ _ _ _
        rw [ea, eb, ec]
        clear ea eb ec Ia Ja Ra
        exact WP_iret dX10_worthOfAll_79 rfl ⟨⟨hI15154, ⟨hrI15145, ⟨hTI15145.trans hT.symm, hSI15145⟩, hPI15145⟩⟩, _, rfl⟩
      · refine WP_aload_n dX10_worthOfAll_46 rfl ?_
        refine WP_getr dX10_worthOfAll_47 fX10_55 rfl (lyx_is hy 0 10 rfl) (rfx hrI15145 0 4 49 (by decide)) ?_
        refine WP_aload_n dX10_worthOfAll_50 rfl ?_
        refine WP_getr dX10_worthOfAll_51 fX10_66 rfl (lyx_is hy 0 10 rfl) (rfx hrI15145 0 6 56 (by decide)) ?_
        refine WQ_iconst (1) (1) dX10_worthOfAll_54 rfl rfl (fun v15161 hv15161 => ?_)
        refine WP_callV2 (k := 9) dX10_worthOfAll_55 ⟨⟨⟨by decide, by decide⟩, zX9_passDay⟩, lX10_228, by decide, rfl, vX9_passDay.1, vX9_passDay.2⟩ (lyx_is hy 49 9 rfl) (sx_passDay_56_27 hy hrI15145 hPI15145 hTI15145 hI15145 v15161 (by omega) (by omega) (by omega) (by rw [ew15147]; omega)) (Nat.le_of_ble_eq_true rfl) ?_
        intro r I15162 J15163 R15164 hq
        obtain ⟨⟨hI15162, ⟨hrI15162, ⟨htI15162, hsI15162⟩, hpI15162⟩, fiI15162, pI15162⟩, rfl⟩ := hq
        have ht_I15162 := htI15162.trans hTI15145
        have hs_I15162 : R15164 (ad g 0) 10 = R (ad g 0) 10 := hsI15162.trans hSI15145
        have e15165 : I15162 (ad g 1) 1 = L := hI15162.2
        have b15166 := BT_get hI15162.1 1 1 2 (0) (0) (900) (by decide) 1 (by decide) (by decide)
        rw [e15165] at b15166
        obtain ⟨w15167, ew15167⟩ : ∃ w : Int32, I15162 (ad g 56) 1 = w := ⟨_, rfl⟩
        have bw15167 := BT_get hI15162.1 56 1 2 (0) (23760) (700000) (by decide) 1 (by decide) (by decide)
        rw [ew15167] at bw15167
        rw [ew15167, ew15147] at pI15162
        refine WP_iinc (ls' := [(0, _), (1, _), (2, _), (3, _)]) dX10_worthOfAll_58 rfl (by decide) rfl ?_
        have hv15168 : (i15144 + Int32.ofInt (1)).toInt = i15144.toInt + (1) := ia_n rfl (by omega) (by omega)
        generalize i15144 + Int32.ofInt (1) = v15168 at hv15168 ⊢
        refine WP_goto 38 dX10_worthOfAll_61 rfl ?_
        exact WP_sub (fc rfl (fc rfl (fc rfl (fc rfl fn)))) (ihlp38_15147 v15168 I15162 J15163 R15164 hrI15162 ht_I15162 hs_I15162 hpI15162 hI15162 w15167 ew15167 (by omega) (by omega) (by omega) (by omega))
  exact WP_sub (fc rfl (fc rfl (fc rfl (fc rfl fn)))) (lp38_15147 _ v15143 I15138 J15139 R hr hT rfl hP hI15138 w15135 e15140 (by omega) (by omega) (by omega) (Nat.lt_succ_self _))
set_option maxHeartbeats 4000000 in
set_option maxRecDepth 100000 in
theorem sx_worthAt_27 {g : GG} {n : Int} {L : Int32} (hy : LyX g)  {I : pI} {J : pJ} {R : pR} (hr : RfX g R) (hP : NL g R) (hT : R (ad g 5) 0 = some (ad g 27)) (hI : XI g n L I) (a : Int32) (b : Int32)  (hn : 0 ≤ n ∧ n ≤ 40000) : SP g mX10_worthAt [.ref (ad g 0), .int a, .int b] I J R (fun r I' J' R' => (XI g n L I' ∧ (RfX g R' ∧ (R' (ad g 5) 0 = R (ad g 5) 0 ∧ R' (ad g 0) 10 = R (ad g 0) 10) ∧ NL g R')) ∧ ∃ v : Int32, r = some (.int v)) := by
  refine SP_of ⟨by decide, rfl⟩ (Nat.le_of_ble_eq_true rfl) ?_
  have e15169 : I (ad g 1) 1 = L := hI.2
  have b15170 := BT_get hI.1 1 1 2 (0) (0) (900) (by decide) 1 (by decide) (by decide)
  rw [e15169] at b15170
  refine WP_iload_n dX10_worthAt_0 rfl ?_
  refine WQ_if_lt 17 dX10_worthAt_1 rfl (fun c15170 => ?_) (fun c15170 => ?_)
  · refine WQ_bipush (-2) (-2) dX10_worthAt_17 rfl rfl (fun v15172 hv15172 => ?_)
    refine WP_goto 28 dX10_worthAt_19 rfl ?_
    exact WP_iret dX10_worthAt_28 rfl ⟨⟨hI, ⟨hr, ⟨hT.trans hT.symm, rfl⟩, hP⟩⟩, _, rfl⟩
  · refine WP_iload_n dX10_worthAt_4 rfl ?_
    refine WQ_bipush (18) (18) dX10_worthAt_5 rfl rfl (fun v15173 hv15173 => ?_)
    refine WQ_icmp_gt 17 dX10_worthAt_7 rfl (fun c15173 => ?_) (fun c15173 => ?_)
    · refine WQ_bipush (-2) (-2) dX10_worthAt_17 rfl rfl (fun v15175 hv15175 => ?_)
      refine WP_goto 28 dX10_worthAt_19 rfl ?_
      exact WP_iret dX10_worthAt_28 rfl ⟨⟨hI, ⟨hr, ⟨hT.trans hT.symm, rfl⟩, hP⟩⟩, _, rfl⟩
    · refine WP_iload_n dX10_worthAt_10 rfl ?_
      refine WP_callS1 dX10_worthAt_11 ⟨⟨⟨by decide, by decide⟩, zX10_isWeeks⟩, lX10_253, tX10_isWeeks⟩ (sx_isWeeks hy hr hI b ) (Nat.le_of_ble_eq_true rfl) ?_
      intro r Ia Ja Ra hq
      obtain ⟨⟨ea, eb, ec⟩, v15176, rfl, av15176, bv15176, cv15176⟩ := hq
      show WP _ _ _ _ (.int _ :: _) _ _ _ _
      rw [ea, eb, ec]
      clear ea eb ec Ia Ja Ra
      refine WQ_if_ne 22 dX10_worthAt_14 rfl (fun c15176 => ?_) (fun c15176 => ?_)
      · refine WP_aload_n dX10_worthAt_22 rfl ?_
        refine WP_iload_n dX10_worthAt_23 rfl ?_
        refine WP_iload_n dX10_worthAt_24 rfl ?_
        refine WP_callV2 (k := 10) dX10_worthAt_25 ⟨⟨⟨by decide, by decide⟩, zX10_worthOfAll⟩, lX10_256, by decide, rfl, vX10_worthOfAll.1, vX10_worthOfAll.2⟩ (lyx_is hy 0 10 rfl) (sx_worthOfAll_27 hy hr hP hT hI a b (by omega) (by omega) (by omega) (by omega) (by omega)) (Nat.le_of_ble_eq_true rfl) ?_
        intro r I15178 J15179 R15180 hq
        obtain ⟨⟨hI15178, ⟨hrI15178, ⟨htI15178, hsI15178⟩, hpI15178⟩⟩, v15181, rfl⟩ := hq
        show WP _ _ _ _ (.int _ :: _) _ _ _ _
        have ht_I15178 := htI15178.trans hT
        have hs_I15178 : R15180 (ad g 0) 10 = R (ad g 0) 10 := hsI15178.trans rfl
        have e15182 : I15178 (ad g 1) 1 = L := hI15178.2
        have b15183 := BT_get hI15178.1 1 1 2 (0) (0) (900) (by decide) 1 (by decide) (by decide)
        rw [e15182] at b15183
        exact WP_iret dX10_worthAt_28 rfl ⟨⟨hI15178, ⟨hrI15178, ⟨ht_I15178.trans hT.symm, hs_I15178⟩, hpI15178⟩⟩, _, rfl⟩
      · refine WQ_bipush (-2) (-2) dX10_worthAt_17 rfl rfl (fun v15184 hv15184 => ?_)
        refine WP_goto 28 dX10_worthAt_19 rfl ?_
        exact WP_iret dX10_worthAt_28 rfl ⟨⟨hI, ⟨hr, ⟨hT.trans hT.symm, rfl⟩, hP⟩⟩, _, rfl⟩
set_option maxHeartbeats 4000000 in
set_option maxRecDepth 100000 in
theorem sx_rate_27 {g : GG} {n : Int} {L : Int32} (hy : LyX g)  {I : pI} {J : pJ} {R : pR} (hr : RfX g R) (hP : NL g R) (hT : R (ad g 5) 0 = some (ad g 27)) (hI : XI g n L I) (a : Int32)  (hn : 0 ≤ n ∧ n ≤ 40000) : SP g mX10_rate [.ref (ad g 0), .int a] I J R (fun r I' J' R' => (XI g n L I' ∧ (RfX g R' ∧ (R' (ad g 5) 0 = R (ad g 5) 0 ∧ R' (ad g 0) 10 = R (ad g 0) 10) ∧ NL g R')) ∧ ∃ v : Int32, r = some (.int v)) := by
  refine SP_of ⟨by decide, rfl⟩ (Nat.le_of_ble_eq_true rfl) ?_
  have e15185 : I (ad g 1) 1 = L := hI.2
  have b15186 := BT_get hI.1 1 1 2 (0) (0) (900) (by decide) 1 (by decide) (by decide)
  rw [e15185] at b15186
  refine WP_iload_n dX10_rate_0 rfl ?_
  refine WP_callS1 dX10_rate_1 ⟨⟨⟨by decide, by decide⟩, zX10_isWeeks⟩, lX10_253, tX10_isWeeks⟩ (sx_isWeeks hy hr hI a ) (Nat.le_of_ble_eq_true rfl) ?_
  intro r Ia Ja Ra hq
  obtain ⟨⟨ea, eb, ec⟩, v15187, rfl, av15187, bv15187, cv15187⟩ := hq
  show WP _ _ _ _ (.int _ :: _) _ _ _ _
  rw [ea, eb, ec]
  clear ea eb ec Ia Ja Ra
  refine WQ_if_ne 10 dX10_rate_4 rfl (fun c15187 => ?_) (fun c15187 => ?_)
  · refine WP_aload_n dX10_rate_10 rfl ?_
    refine WQ_iconst (0) (0) dX10_rate_11 rfl rfl (fun v15189 hv15189 => ?_)
    refine WP_iload_n dX10_rate_12 rfl ?_
    refine WP_callV2 (k := 10) dX10_rate_13 ⟨⟨⟨by decide, by decide⟩, zX10_worthOfAll⟩, lX10_256, by decide, rfl, vX10_worthOfAll.1, vX10_worthOfAll.2⟩ (lyx_is hy 0 10 rfl) (sx_worthOfAll_27 hy hr hP hT hI v15189 a (by omega) (by omega) (by omega) (by omega) (by omega)) (Nat.le_of_ble_eq_true rfl) ?_
    intro r I15190 J15191 R15192 hq
    obtain ⟨⟨hI15190, ⟨hrI15190, ⟨htI15190, hsI15190⟩, hpI15190⟩⟩, v15193, rfl⟩ := hq
    show WP _ _ _ _ (.int _ :: _) _ _ _ _
    have ht_I15190 := htI15190.trans hT
    have hs_I15190 : R15192 (ad g 0) 10 = R (ad g 0) 10 := hsI15190.trans rfl
    have e15194 : I15190 (ad g 1) 1 = L := hI15190.2
    have b15195 := BT_get hI15190.1 1 1 2 (0) (0) (900) (by decide) 1 (by decide) (by decide)
    rw [e15194] at b15195
    refine WP_istore_n (ls' := [(0, _), (1, _), (2, _)]) dX10_rate_16 (by decide) rfl ?_
    refine WQ_iconst (0) (0) dX10_rate_17 rfl rfl (fun v15196 hv15196 => ?_)
    refine WP_istore_n (ls' := [(0, _), (1, _), (2, _), (3, _)]) dX10_rate_18 (by decide) rfl ?_
    refine WQ_iconst (1) (1) dX10_rate_19 rfl rfl (fun v15197 hv15197 => ?_)
    refine WP_istore (ls' := [(0, _), (1, _), (2, _), (3, _), (4, _)]) dX10_rate_20 (by decide) rfl ?_
    have lp22_15202 : ∀ (mz : Nat) (i15198 : Int32) (i15199 : Int32) (i15200 : Int32) (I15201 : pI) (J15202 : pJ) (RI15201 : pR), RfX g RI15201 → RI15201 (ad g 5) 0 = some (ad g 27) → RI15201 (ad g 0) 10 = R (ad g 0) 10 → NL g RI15201 → XI g n L I15201 → 1 ≤ i15200.toInt → i15200.toInt ≤ 19 → (20 - i15200.toInt).toNat < mz → WP g mX10_rate 22 [(0, .ref (ad g 0)), (1, .int a), (2, .int i15198), (3, .int i15199), (4, .int i15200)] [] I15201 J15202 RI15201 (fun r I' J' R' => (XI g n L I' ∧ (RfX g R' ∧ (R' (ad g 5) 0 = R (ad g 5) 0 ∧ R' (ad g 0) 10 = R (ad g 0) 10) ∧ NL g R')) ∧ ∃ v : Int32, r = some (.int v)) := by
      intro mz
      induction mz with
      | zero =>
        intro i15198 i15199 i15200 I15201 J15202 RI15201 hrI15201 hTI15201 hSI15201 hPI15201 hI15201 ai15200 bi15200 hmlp22_15202
        exact absurd hmlp22_15202 (Nat.not_lt_zero _)
      | succ mz ihlp22_15202 =>
        intro i15198 i15199 i15200 I15201 J15202 RI15201 hrI15201 hTI15201 hSI15201 hPI15201 hI15201 ai15200 bi15200 hmlp22_15202
        have e15204 : I15201 (ad g 1) 1 = L := hI15201.2
        have b15205 := BT_get hI15201.1 1 1 2 (0) (0) (900) (by decide) 1 (by decide) (by decide)
        rw [e15204] at b15205
        refine WP_iload dX10_rate_22 rfl ?_
        refine WQ_bipush (18) (18) dX10_rate_24 rfl rfl (fun v15206 hv15206 => ?_)
        refine WQ_icmp_gt 56 dX10_rate_26 rfl (fun c15206 => ?_) (fun c15206 => ?_)
        · refine WP_iload_n dX10_rate_56 rfl ?_
          exact WP_iret dX10_rate_57 rfl ⟨⟨hI15201, ⟨hrI15201, ⟨hTI15201.trans hT.symm, hSI15201⟩, hPI15201⟩⟩, _, rfl⟩
        · refine WP_aload_n dX10_rate_29 rfl ?_
          refine WP_iload dX10_rate_30 rfl ?_
          refine WP_iload_n dX10_rate_32 rfl ?_
          refine WP_callV2 (k := 10) dX10_rate_33 ⟨⟨⟨by decide, by decide⟩, zX10_worthOfAll⟩, lX10_256, by decide, rfl, vX10_worthOfAll.1, vX10_worthOfAll.2⟩ (lyx_is hy 0 10 rfl) (sx_worthOfAll_27 hy hrI15201 hPI15201 hTI15201 hI15201 i15200 a (by omega) (by omega) (by omega) (by omega) (by omega)) (Nat.le_of_ble_eq_true rfl) ?_
          intro r I15208 J15209 R15210 hq
          obtain ⟨⟨hI15208, ⟨hrI15208, ⟨htI15208, hsI15208⟩, hpI15208⟩⟩, v15211, rfl⟩ := hq
          show WP _ _ _ _ (.int _ :: _) _ _ _ _
          have ht_I15208 := htI15208.trans hTI15201
          have hs_I15208 : R15210 (ad g 0) 10 = R (ad g 0) 10 := hsI15208.trans hSI15201
          have e15212 : I15208 (ad g 1) 1 = L := hI15208.2
          have b15213 := BT_get hI15208.1 1 1 2 (0) (0) (900) (by decide) 1 (by decide) (by decide)
          rw [e15212] at b15213
          refine WP_istore (ls' := [(0, _), (1, _), (2, _), (3, _), (4, _), (5, _)]) dX10_rate_36 (by decide) rfl ?_
          refine WP_iload dX10_rate_38 rfl ?_
          refine WP_iload_n dX10_rate_40 rfl ?_
          refine WQ_icmp_le 50 dX10_rate_41 rfl (fun c15213 => ?_) (fun c15213 => ?_)
          · refine WP_iinc (ls' := [(0, _), (1, _), (2, _), (3, _), (4, _), (5, _)]) dX10_rate_50 rfl (by decide) rfl ?_
            have hv15215 : (i15200 + Int32.ofInt (1)).toInt = i15200.toInt + (1) := ia_n rfl (by omega) (by omega)
            generalize i15200 + Int32.ofInt (1) = v15215 at hv15215 ⊢
            refine WP_goto 22 dX10_rate_53 rfl ?_
            exact WP_sub (fc rfl (fc rfl (fc rfl (fc rfl (fc rfl fn))))) (ihlp22_15202 i15198 i15199 v15215 I15208 J15209 R15210 hrI15208 ht_I15208 hs_I15208 hpI15208 hI15208 (by omega) (by omega) (by omega))
          · refine WP_iload dX10_rate_44 rfl ?_
            refine WP_istore_n (ls' := [(0, _), (1, _), (2, _), (3, _), (4, _), (5, _)]) dX10_rate_46 (by decide) rfl ?_
            refine WP_iload dX10_rate_47 rfl ?_
            refine WP_istore_n (ls' := [(0, _), (1, _), (2, _), (3, _), (4, _), (5, _)]) dX10_rate_49 (by decide) rfl ?_
            refine WP_iinc (ls' := [(0, _), (1, _), (2, _), (3, _), (4, _), (5, _)]) dX10_rate_50 rfl (by decide) rfl ?_
            have hv15216 : (i15200 + Int32.ofInt (1)).toInt = i15200.toInt + (1) := ia_n rfl (by omega) (by omega)
            generalize i15200 + Int32.ofInt (1) = v15216 at hv15216 ⊢
            refine WP_goto 22 dX10_rate_53 rfl ?_
            exact WP_sub (fc rfl (fc rfl (fc rfl (fc rfl (fc rfl fn))))) (ihlp22_15202 v15211 i15200 v15216 I15208 J15209 R15210 hrI15208 ht_I15208 hs_I15208 hpI15208 hI15208 (by omega) (by omega) (by omega))
    exact WP_sub (fc rfl (fc rfl (fc rfl (fc rfl (fc rfl fn))))) (lp22_15202 _ v15193 v15196 v15197 I15190 J15191 R15192 hrI15190 ht_I15190 hs_I15190 hpI15190 hI15190 (by omega) (by omega) (Nat.lt_succ_self _))
  · refine WQ_bipush (-2) (-2) dX10_rate_7 rfl rfl (fun v15217 hv15217 => ?_)
    exact WP_iret dX10_rate_9 rfl ⟨⟨hI, ⟨hr, ⟨hT.trans hT.symm, rfl⟩, hP⟩⟩, _, rfl⟩
set_option maxHeartbeats 4000000 in
set_option maxRecDepth 100000 in
theorem sx_turnChanges_27 {g : GG} {n : Int} {L : Int32} (hy : LyX g)  {I : pI} {J : pJ} {R : pR} (hr : RfX g R) (hP : NL g R) (hT : R (ad g 5) 0 = some (ad g 27)) (hI : XI g n L I)   (hn : 0 ≤ n ∧ n ≤ 40000) : SP g mX10_turnChanges [.ref (ad g 0)] I J R (fun r I' J' R' => (XI g n L I' ∧ (RfX g R' ∧ (R' (ad g 5) 0 = R (ad g 5) 0 ∧ R' (ad g 0) 10 = R (ad g 0) 10) ∧ NL g R') ∧ fz 74 g [22, 43, 44, 47, 48, 50, 51, 52, 56, 57, 58] I I') ∧ ∃ v : Int32, r = some (.int v) ∧ 0 ≤ v.toInt ∧ v.toInt ≤ 1) := by
  refine SP_of ⟨by decide, rfl⟩ (Nat.le_of_ble_eq_true rfl) ?_
  have e15218 : I (ad g 1) 1 = L := hI.2
  have b15219 := BT_get hI.1 1 1 2 (0) (0) (900) (by decide) 1 (by decide) (by decide)
  rw [e15218] at b15219
  have fr0 : fz 74 g [22, 43, 44, 47, 48, 50, 51, 52, 56, 57, 58] I I := fz_rf
  refine WP_aload_n dX10_turnChanges_0 rfl ?_
  refine WP_getr dX10_turnChanges_1 fX10_66 rfl (lyx_is hy 0 10 rfl) (rfx hr 0 6 56 (by decide)) ?_
  refine WP_aload_n dX10_turnChanges_4 rfl ?_
  refine WP_getr dX10_turnChanges_5 fX10_62 rfl (lyx_is hy 0 10 rfl) (rfx hr 0 5 53 (by decide)) ?_
  refine WP_callV1 (k := 4) dX10_turnChanges_8 ⟨⟨⟨by decide, by decide⟩, zX4_become⟩, lX10_249, by decide, rfl, vX4_become.1, vX4_become.2⟩ (lyx_is hy 56 4 rfl) (sx_becomef_56_53 hy hr hI  ) (Nat.le_of_ble_eq_true rfl) ?_
  intro r I15220 J15221 Ra hq
  obtain ⟨⟨hI15220, ec, fiI15220⟩, rfl⟩ := hq
  rw [ec]
  clear ec Ra
  have fr15222 : fz 74 g [22, 43, 44, 47, 48, 50, 51, 52, 56, 57, 58] I I15220 := fz_tr fr0 (fz_mono fiI15220 (by decide))
  have e15223 : I15220 (ad g 1) 1 = L := hI15220.2
  have b15224 := BT_get hI15220.1 1 1 2 (0) (0) (900) (by decide) 1 (by decide) (by decide)
  rw [e15223] at b15224
  refine WP_aload_n dX10_turnChanges_11 rfl ?_
  refine WP_getr dX10_turnChanges_12 fX10_66 rfl (lyx_is hy 0 10 rfl) (rfx hr 0 6 56 (by decide)) ?_
  refine WP_aload_n dX10_turnChanges_15 rfl ?_
  refine WP_getr dX10_turnChanges_16 fX10_33 rfl (lyx_is hy 0 10 rfl) (rfx hr 0 2 5 (by decide)) ?_
  refine WP_getr dX10_turnChanges_19 fX10_102 rfl (lyx_is hy 5 0 rfl) hT ?_
  refine WP_callV1 (k := 4) dX10_turnChanges_22 ⟨⟨⟨by decide, by decide⟩, zX4_begin⟩, lX10_246, by decide, rfl, vX4_begin.1, vX4_begin.2⟩ (lyx_is hy 56 4 rfl) (sx_beginf_56_27 hy hr hI15220   (by omega)) (Nat.le_of_ble_eq_true rfl) ?_
  intro r I15225 J15226 Ra hq
  obtain ⟨⟨hI15225, ec, fiI15225, pI15225⟩, rfl⟩ := hq
  rw [ec]
  clear ec Ra
  have fr15227 : fz 74 g [22, 43, 44, 47, 48, 50, 51, 52, 56, 57, 58] I I15225 := fz_tr fr15222 (fz_mono fiI15225 (by decide))
  have e15228 : I15225 (ad g 1) 1 = L := hI15225.2
  have b15229 := BT_get hI15225.1 1 1 2 (0) (0) (900) (by decide) 1 (by decide) (by decide)
  rw [e15228] at b15229
  obtain ⟨w15230, ew15230⟩ : ∃ w : Int32, I15225 (ad g 56) 1 = w := ⟨_, rfl⟩
  have bw15230 := BT_get hI15225.1 56 1 2 (0) (23760) (700000) (by decide) 1 (by decide) (by decide)
  rw [ew15230] at bw15230
  rw [ew15230] at pI15225
  refine WP_aload_n dX10_turnChanges_25 rfl ?_
  refine WP_getr dX10_turnChanges_26 fX10_55 rfl (lyx_is hy 0 10 rfl) (rfx hr 0 4 49 (by decide)) ?_
  refine WP_getr dX10_turnChanges_29 fX10_353 rfl (lyx_is hy 49 9 rfl) (rfx hr 49 1 51 (by decide)) ?_
  refine WQ_iconst (0) (0) dX10_turnChanges_32 rfl rfl (fun v15231 hv15231 => ?_)
  refine WP_callS2u dX10_turnChanges_33 ⟨⟨⟨by decide, by decide⟩, zJ7_fill_53178⟩, lX10_335, tJ7_fill_53178⟩ (s_fill hy hr 51 21 rfl rfl (by decide) v15231) (Nat.le_of_ble_eq_true rfl) ?_
  obtain ⟨I15232, eI15232⟩ : ∃ I9 : pI, I9 = fi I15225 (ad g 51) 21 v15231 := ⟨_, rfl⟩
  rw [← eI15232]
  have hI15232 : XI g n L I15232 := by rw [eI15232]; exact (xi_fill0 hy hI15225 51 21 v15231 (by decide) (by decide))
  have e15233 : I15232 (ad g 1) 1 = L := by rw [eI15232, fi_off (lyx_ne hy (by decide) (by decide) (by decide))]; exact e15228
  have e15234 : I15232 (ad g 56) 1 = w15230 := by rw [eI15232, fi_off (lyx_ne hy (by decide) (by decide) (by decide))]; exact ew15230
  have fr15235 : fz 74 g [22, 43, 44, 47, 48, 50, 51, 52, 56, 57, 58] I I15232 := by rw [eI15232]; exact fzx_fi hy fr15227 (by decide) (by decide)
  clear eI15232
  refine WQ_iconst (0) (0) dX10_turnChanges_36 rfl rfl (fun v15236 hv15236 => ?_)
  refine WP_istore_n (ls' := [(0, _), (1, _)]) dX10_turnChanges_37 (by decide) rfl ?_
  have lp38_15240 : ∀ (mz : Nat) (i15237 : Int32) (I15238 : pI) (J15239 : pJ) (RI15238 : pR), RfX g RI15238 → RI15238 (ad g 5) 0 = some (ad g 27) → RI15238 (ad g 0) 10 = R (ad g 0) 10 → NL g RI15238 → XI g n L I15238 → fz 74 g [22, 43, 44, 47, 48, 50, 51, 52, 56, 57, 58] I I15238 → ∀ (w15240 : Int32), I15238 (ad g 56) 1 = w15240 → 0 ≤ i15237.toInt → i15237.toInt ≤ 7 → w15240.toInt ≤ 23760 * i15237.toInt → (8 - i15237.toInt).toNat < mz → WP g mX10_turnChanges 38 [(0, .ref (ad g 0)), (1, .int i15237)] [] I15238 J15239 RI15238 (fun r I' J' R' => (XI g n L I' ∧ (RfX g R' ∧ (R' (ad g 5) 0 = R (ad g 5) 0 ∧ R' (ad g 0) 10 = R (ad g 0) 10) ∧ NL g R') ∧ fz 74 g [22, 43, 44, 47, 48, 50, 51, 52, 56, 57, 58] I I') ∧ ∃ v : Int32, r = some (.int v) ∧ 0 ≤ v.toInt ∧ v.toInt ≤ 1) := by
    intro mz
    induction mz with
    | zero =>
      intro i15237 I15238 J15239 RI15238 hrI15238 hTI15238 hSI15238 hPI15238 hI15238 fiI15238 w15240 ew15240 ai15237 bi15237 j0_I15238 hmlp38_15240
      exact absurd hmlp38_15240 (Nat.not_lt_zero _)
    | succ mz ihlp38_15240 =>
      intro i15237 I15238 J15239 RI15238 hrI15238 hTI15238 hSI15238 hPI15238 hI15238 fiI15238 w15240 ew15240 ai15237 bi15237 j0_I15238 hmlp38_15240
      have bw15240 := BT_get hI15238.1 56 1 2 (0) (23760) (700000) (by decide) 1 (by decide) (by decide)
      rw [ew15240] at bw15240
      have e15242 : I15238 (ad g 1) 1 = L := hI15238.2
      have b15243 := BT_get hI15238.1 1 1 2 (0) (0) (900) (by decide) 1 (by decide) (by decide)
      rw [e15242] at b15243
      refine WP_iload_n dX10_turnChanges_38 rfl ?_
      refine WQ_bipush (7) (7) dX10_turnChanges_39 rfl rfl (fun v15244 hv15244 => ?_)
      refine WQ_icmp_ge 62 dX10_turnChanges_41 rfl (fun c15244 => ?_) (fun c15244 => ?_)
      · refine WP_aload_n dX10_turnChanges_62 rfl ?_
        refine WP_getr dX10_turnChanges_63 fX10_33 rfl (lyx_is hy 0 10 rfl) (rfx hrI15238 0 2 5 (by decide)) ?_
        refine WP_aload_n dX10_turnChanges_66 rfl ?_
        refine WP_getr dX10_turnChanges_67 fX10_55 rfl (lyx_is hy 0 10 rfl) (rfx hrI15238 0 4 49 (by decide)) ?_
        refine WP_getr dX10_turnChanges_70 fX10_353 rfl (lyx_is hy 49 9 rfl) (rfx hrI15238 49 1 51 (by decide)) ?_
        refine WP_callV1 (k := 0) dX10_turnChanges_73 ⟨⟨⟨by decide, by decide⟩, zX0_movePrices⟩, lX10_356, by decide, rfl, vX0_movePrices.1, vX0_movePrices.2⟩ (lyx_is hy 5 0 rfl) (sx_movePricesf_27 hy hrI15238 hTI15238 hI15238  ) (Nat.le_of_ble_eq_true rfl) ?_
        intro r I15246 J15247 Ra hq
        obtain ⟨⟨hI15246, ec, fiI15246⟩, v15248, rfl, av15248, bv15248⟩ := hq
        show WP _ _ _ _ (.int _ :: _) _ _ _ _
        rw [ec]
        clear ec Ra
        have fr15249 : fz 74 g [22, 43, 44, 47, 48, 50, 51, 52, 56, 57, 58] I I15246 := fz_tr fiI15238 (fz_mono fiI15246 (by decide))
        have e15250 : I15246 (ad g 56) 1 = w15240 := by rw [fz_at fiI15246 56 (by decide) (by decide)]; exact ew15240
        have e15251 : I15246 (ad g 1) 1 = L := hI15246.2
        have b15252 := BT_get hI15246.1 1 1 2 (0) (0) (900) (by decide) 1 (by decide) (by decide)
        rw [e15251] at b15252
        exact WP_zret dX10_turnChanges_76 rfl (nar_z (by omega)) ⟨⟨hI15246, ⟨hrI15238, ⟨hTI15238.trans hT.symm, hSI15238⟩, hPI15238⟩, fr15249⟩, _, rfl, by omega, by omega⟩
      · refine WP_aload_n dX10_turnChanges_44 rfl ?_
        refine WP_getr dX10_turnChanges_45 fX10_55 rfl (lyx_is hy 0 10 rfl) (rfx hrI15238 0 4 49 (by decide)) ?_
        refine WP_aload_n dX10_turnChanges_48 rfl ?_
        refine WP_getr dX10_turnChanges_49 fX10_66 rfl (lyx_is hy 0 10 rfl) (rfx hrI15238 0 6 56 (by decide)) ?_
        refine WQ_iconst (0) (0) dX10_turnChanges_52 rfl rfl (fun v15253 hv15253 => ?_)
        refine WP_callV2 (k := 9) dX10_turnChanges_53 ⟨⟨⟨by decide, by decide⟩, zX9_passDay⟩, lX10_228, by decide, rfl, vX9_passDay.1, vX9_passDay.2⟩ (lyx_is hy 49 9 rfl) (sx_passDay_56_27 hy hrI15238 hPI15238 hTI15238 hI15238 v15253 (by omega) (by omega) (by omega) (by rw [ew15240]; omega)) (Nat.le_of_ble_eq_true rfl) ?_
        intro r I15254 J15255 R15256 hq
        obtain ⟨⟨hI15254, ⟨hrI15254, ⟨htI15254, hsI15254⟩, hpI15254⟩, fiI15254, pI15254⟩, rfl⟩ := hq
        have ht_I15254 := htI15254.trans hTI15238
        have hs_I15254 : R15256 (ad g 0) 10 = R (ad g 0) 10 := hsI15254.trans hSI15238
        have fr15257 : fz 74 g [22, 43, 44, 47, 48, 50, 51, 52, 56, 57, 58] I I15254 := fz_tr fiI15238 (fz_mono fiI15254 (by decide))
        have e15258 : I15254 (ad g 1) 1 = L := hI15254.2
        have b15259 := BT_get hI15254.1 1 1 2 (0) (0) (900) (by decide) 1 (by decide) (by decide)
        rw [e15258] at b15259
        obtain ⟨w15260, ew15260⟩ : ∃ w : Int32, I15254 (ad g 56) 1 = w := ⟨_, rfl⟩
        have bw15260 := BT_get hI15254.1 56 1 2 (0) (23760) (700000) (by decide) 1 (by decide) (by decide)
        rw [ew15260] at bw15260
        rw [ew15260, ew15240] at pI15254
        refine WP_iinc (ls' := [(0, _), (1, _)]) dX10_turnChanges_56 rfl (by decide) rfl ?_
        have hv15261 : (i15237 + Int32.ofInt (1)).toInt = i15237.toInt + (1) := ia_n rfl (by omega) (by omega)
        generalize i15237 + Int32.ofInt (1) = v15261 at hv15261 ⊢
        refine WP_goto 38 dX10_turnChanges_59 rfl ?_
        exact WP_sub (fc rfl (fc rfl fn)) (ihlp38_15240 v15261 I15254 J15255 R15256 hrI15254 ht_I15254 hs_I15254 hpI15254 hI15254 fr15257 w15260 ew15260 (by omega) (by omega) (by omega) (by omega))
  exact WP_sub (fc rfl (fc rfl fn)) (lp38_15240 _ v15236 I15232 J15226 R hr hT rfl hP hI15232 fr15235 w15230 e15234 (by omega) (by omega) (by omega) (Nat.lt_succ_self _))
set_option maxHeartbeats 4000000 in
set_option maxRecDepth 100000 in
theorem sx_rest_27 {g : GG} {n : Int} {L : Int32} (hy : LyX g)  {I : pI} {J : pJ} {R : pR} (hr : RfX g R) (hP : NL g R) (hT : R (ad g 5) 0 = some (ad g 27)) (hI : XI g n L I) (a : Int32)  (hn : 0 ≤ n ∧ n ≤ 40000) : SP g mX10_rest [.ref (ad g 0), .int a] I J R (fun r I' J' R' => (XI g n L I' ∧ (RfX g R' ∧ (R' (ad g 5) 0 = R (ad g 5) 0 ∧ R' (ad g 0) 10 = R (ad g 0) 10) ∧ NL g R')) ∧ ∃ v : Int32, r = some (.int v)) := by
  refine SP_of ⟨by decide, rfl⟩ (Nat.le_of_ble_eq_true rfl) ?_
  have e15262 : I (ad g 1) 1 = L := hI.2
  have b15263 := BT_get hI.1 1 1 2 (0) (0) (900) (by decide) 1 (by decide) (by decide)
  rw [e15262] at b15263
  refine WP_iload_n dX10_rest_0 rfl ?_
  refine WQ_if_eq 12 dX10_rest_1 rfl (fun c15263 => ?_) (fun c15263 => ?_)
  · refine WP_iload_n dX10_rest_12 rfl ?_
    refine WQ_iconst (1) (1) dX10_rest_13 rfl rfl (fun v15265 hv15265 => ?_)
    refine WQ_icmp_ne 24 dX10_rest_14 rfl (fun c15265 => ?_) (fun c15265 => False.elim (by omega))
    refine WQ_iconst (0) (0) dX10_rest_24 rfl rfl (fun v15267 hv15267 => ?_)
    refine WP_istore_n (ls' := [(0, _), (1, _), (2, _)]) dX10_rest_25 (by decide) rfl ?_
    refine WP_aload_n dX10_rest_26 rfl ?_
    refine WQ_iconst (0) (0) dX10_rest_27 rfl rfl (fun v15268 hv15268 => ?_)
    refine WQ_puti dX10_rest_28 fX10_263 rfl rfl (lyx_is hy 0 10 rfl) (fun I15269 eI15269 => ?_)
    have hI15269 : XI g n L I15269 := by rw [eI15269]; exact (xi_f0 hy hI (c := 0) (by decide) (Or.inl (by decide)) (by decide))
    have e15270 : I15269 (ad g 1) 1 = L := by rw [eI15269, pp_ne _ _ (Or.inl (lyx_ne hy (by decide) (by decide) (by decide)))]; exact e15262
    have e15271 : I15269 (ad g 0) 11 = v15268 := by rw [eI15269, pp_self]
    clear eI15269
    have lp31_15275 : ∀ (mz : Nat) (i15272 : Int32) (I15273 : pI) (J15274 : pJ) (RI15273 : pR), RfX g RI15273 → RI15273 (ad g 5) 0 = some (ad g 27) → RI15273 (ad g 0) 10 = R (ad g 0) 10 → NL g RI15273 → XI g n L I15273 → ∀ (w15275 : Int32), I15273 (ad g 0) 11 = w15275 → 0 ≤ i15272.toInt → i15272.toInt ≤ 1 → 0 ≤ w15275.toInt → w15275.toInt ≤ 60 → (61 - w15275.toInt).toNat < mz → WP g mX10_rest 31 [(0, .ref (ad g 0)), (1, .int a), (2, .int i15272)] [] I15273 J15274 RI15273 (fun r I' J' R' => (XI g n L I' ∧ (RfX g R' ∧ (R' (ad g 5) 0 = R (ad g 5) 0 ∧ R' (ad g 0) 10 = R (ad g 0) 10) ∧ NL g R')) ∧ ∃ v : Int32, r = some (.int v)) := by
      intro mz
      induction mz with
      | zero =>
        intro i15272 I15273 J15274 RI15273 hrI15273 hTI15273 hSI15273 hPI15273 hI15273 w15275 ew15275 ai15272 bi15272 j0_I15273 j1_I15273 hmlp31_15275
        exact absurd hmlp31_15275 (Nat.not_lt_zero _)
      | succ mz ihlp31_15275 =>
        intro i15272 I15273 J15274 RI15273 hrI15273 hTI15273 hSI15273 hPI15273 hI15273 w15275 ew15275 ai15272 bi15272 j0_I15273 j1_I15273 hmlp31_15275
        have e15277 : I15273 (ad g 1) 1 = L := hI15273.2
        have b15278 := BT_get hI15273.1 1 1 2 (0) (0) (900) (by decide) 1 (by decide) (by decide)
        rw [e15277] at b15278
        refine WP_aload_n dX10_rest_31 rfl ?_
        refine WQ_getim dX10_rest_32 fX10_263 rfl (lyx_is hy 0 10 rfl) ew15275 ?_
        refine WQ_bipush (60) (60) dX10_rest_35 rfl rfl (fun v15279 hv15279 => ?_)
        refine WQ_icmp_ge 70 dX10_rest_37 rfl (fun c15279 => ?_) (fun c15279 => ?_)
        · refine WP_iload_n dX10_rest_70 rfl ?_
          have jn79_15283 : ∀ (v15283 : Int32), 0 ≤ v15283.toInt → v15283.toInt ≤ 1 → WP g mX10_rest 79 [(0, .ref (ad g 0)), (1, .int a), (2, .int i15272)] [.int v15283] I15273 J15274 RI15273 (fun r I' J' R' => (XI g n L I' ∧ (RfX g R' ∧ (R' (ad g 5) 0 = R (ad g 5) 0 ∧ R' (ad g 0) 10 = R (ad g 0) 10) ∧ NL g R')) ∧ ∃ v : Int32, r = some (.int v)) := by
            intro v15283 av15283 bv15283
            exact WP_iret dX10_rest_79 rfl ⟨⟨hI15273, ⟨hrI15273, ⟨hTI15273.trans hT.symm, hSI15273⟩, hPI15273⟩⟩, _, rfl⟩
          refine WQ_if_eq 78 dX10_rest_71 rfl (fun c15284 => ?_) (fun c15284 => ?_)
          · refine WQ_iconst (0) (0) dX10_rest_78 rfl rfl (fun v15286 hv15286 => ?_)
            exact WP_sub (fc rfl (fc rfl (fc rfl fn))) (jn79_15283 v15286 (by omega) (by omega))
          · refine WQ_iconst (1) (1) dX10_rest_74 rfl rfl (fun v15287 hv15287 => ?_)
            refine WP_goto 79 dX10_rest_75 rfl ?_
            exact WP_sub (fc rfl (fc rfl (fc rfl fn))) (jn79_15283 v15287 (by omega) (by omega))
        · refine WP_iload_n dX10_rest_40 rfl ?_
          refine WQ_if_ne 70 dX10_rest_41 rfl (fun c15287 => ?_) (fun c15287 => ?_)
          · refine WP_iload_n dX10_rest_70 rfl ?_
            have jn79_15290 : ∀ (v15290 : Int32), 1 ≤ v15290.toInt → v15290.toInt ≤ 1 → WP g mX10_rest 79 [(0, .ref (ad g 0)), (1, .int a), (2, .int i15272)] [.int v15290] I15273 J15274 RI15273 (fun r I' J' R' => (XI g n L I' ∧ (RfX g R' ∧ (R' (ad g 5) 0 = R (ad g 5) 0 ∧ R' (ad g 0) 10 = R (ad g 0) 10) ∧ NL g R')) ∧ ∃ v : Int32, r = some (.int v)) := by
              intro v15290 av15290 bv15290
              exact WP_iret dX10_rest_79 rfl ⟨⟨hI15273, ⟨hrI15273, ⟨hTI15273.trans hT.symm, hSI15273⟩, hPI15273⟩⟩, _, rfl⟩
            refine WQ_if_eq 78 dX10_rest_71 rfl (fun c15291 => False.elim (by omega)) (fun c15291 => ?_)
            refine WQ_iconst (1) (1) dX10_rest_74 rfl rfl (fun v15293 hv15293 => ?_)
            refine WP_goto 79 dX10_rest_75 rfl ?_
            exact WP_sub (fc rfl (fc rfl (fc rfl fn))) (jn79_15290 v15293 (by omega) (by omega))
          · refine WP_aload_n dX10_rest_44 rfl ?_
            refine WP_dup dX10_rest_45 rfl ?_
            refine WQ_getim dX10_rest_46 fX10_263 rfl (lyx_is hy 0 10 rfl) ew15275 ?_
            refine WQ_iconst (1) (1) dX10_rest_49 rfl rfl (fun v15294 hv15294 => ?_)
            refine WQ_iadd dX10_rest_50 (by omega) (by omega) (fun v15295 hv15295 => ?_)
            refine WQ_puti dX10_rest_51 fX10_263 rfl rfl (lyx_is hy 0 10 rfl) (fun I15296 eI15296 => ?_)
            have hI15296 : XI g n L I15296 := by rw [eI15296]; exact (xi_f0 hy hI15273 (c := 0) (by decide) (Or.inl (by decide)) (by decide))
            have e15297 : I15296 (ad g 1) 1 = L := by rw [eI15296, pp_ne _ _ (Or.inl (lyx_ne hy (by decide) (by decide) (by decide)))]; exact e15277
            have e15298 : I15296 (ad g 0) 11 = v15295 := by rw [eI15296, pp_self]
            clear eI15296
            refine WP_aload_n dX10_rest_54 rfl ?_
            refine WP_callV0 (k := 10) dX10_rest_55 ⟨⟨⟨by decide, by decide⟩, zX10_turnChanges⟩, lX10_266, by decide, rfl, vX10_turnChanges.1, vX10_turnChanges.2⟩ (lyx_is hy 0 10 rfl) (sx_turnChanges_27 hy hrI15273 hPI15273 hTI15273 hI15296   (by omega)) (Nat.le_of_ble_eq_true rfl) ?_
            intro r I15299 J15300 R15301 hq
            obtain ⟨⟨hI15299, ⟨hrI15299, ⟨htI15299, hsI15299⟩, hpI15299⟩, fiI15299⟩, v15302, rfl, av15302, bv15302⟩ := hq
            show WP _ _ _ _ (.int _ :: _) _ _ _ _
            have ht_I15299 := htI15299.trans hTI15273
            have hs_I15299 : R15301 (ad g 0) 10 = R (ad g 0) 10 := hsI15299.trans hSI15273
            have e15303 : I15299 (ad g 0) 11 = v15295 := by rw [fz_at fiI15299 0 (by decide) (by decide)]; exact e15298
            have e15304 : I15299 (ad g 1) 1 = L := hI15299.2
            have b15305 := BT_get hI15299.1 1 1 2 (0) (0) (900) (by decide) 1 (by decide) (by decide)
            rw [e15304] at b15305
            have jn66_15308 : ∀ (v15308 : Int32), 0 ≤ v15308.toInt → v15308.toInt ≤ 1 → WP g mX10_rest 66 [(0, .ref (ad g 0)), (1, .int a), (2, .int i15272)] [.int v15308] I15299 J15300 R15301 (fun r I' J' R' => (XI g n L I' ∧ (RfX g R' ∧ (R' (ad g 5) 0 = R (ad g 5) 0 ∧ R' (ad g 0) 10 = R (ad g 0) 10) ∧ NL g R')) ∧ ∃ v : Int32, r = some (.int v)) := by
              intro v15308 av15308 bv15308
              refine WP_istore_n (ls' := [(0, _), (1, _), (2, _)]) dX10_rest_66 (by decide) rfl ?_
              refine WP_goto 31 dX10_rest_67 rfl ?_
              exact WP_sub (fc rfl (fc rfl (fc rfl fn))) (ihlp31_15275 v15308 I15299 J15300 R15301 hrI15299 ht_I15299 hs_I15299 hpI15299 hI15299 v15295 e15303 (by omega) (by omega) (by omega) (by omega) (by omega))
            refine WQ_if_ne 65 dX10_rest_58 rfl (fun c15309 => ?_) (fun c15309 => ?_)
            · refine WQ_iconst (0) (0) dX10_rest_65 rfl rfl (fun v15311 hv15311 => ?_)
              exact WP_sub (fc rfl (fc rfl (fc rfl fn))) (jn66_15308 v15311 (by omega) (by omega))
            · refine WQ_iconst (1) (1) dX10_rest_61 rfl rfl (fun v15312 hv15312 => ?_)
              refine WP_goto 66 dX10_rest_62 rfl ?_
              exact WP_sub (fc rfl (fc rfl (fc rfl fn))) (jn66_15308 v15312 (by omega) (by omega))
    exact WP_sub (fc rfl (fc rfl (fc rfl fn))) (lp31_15275 _ v15267 I15269 J R hr hT rfl hP hI15269 v15268 e15271 (by omega) (by omega) (by omega) (by omega) (Nat.lt_succ_self _))
  · refine WP_iload_n dX10_rest_4 rfl ?_
    refine WQ_iconst (1) (1) dX10_rest_5 rfl rfl (fun v15313 hv15313 => ?_)
    refine WQ_icmp_eq 12 dX10_rest_6 rfl (fun c15313 => ?_) (fun c15313 => ?_)
    · refine WP_iload_n dX10_rest_12 rfl ?_
      refine WQ_iconst (1) (1) dX10_rest_13 rfl rfl (fun v15315 hv15315 => ?_)
      refine WQ_icmp_ne 24 dX10_rest_14 rfl (fun c15315 => False.elim (by omega)) (fun c15315 => ?_)
      refine WP_aload_n dX10_rest_17 rfl ?_
      refine WP_getr dX10_rest_18 fX10_33 rfl (lyx_is hy 0 10 rfl) (rfx hr 0 2 5 (by decide)) ?_
      refine WP_callV0 (k := 0) dX10_rest_21 ⟨⟨⟨by decide, by decide⟩, zX0_pricesAsTold⟩, lX10_260, by decide, rfl, vX0_pricesAsTold.1, vX0_pricesAsTold.2⟩ (lyx_is hy 5 0 rfl) (sx_pricesAsTold_27 hy hr hT hI  ) (Nat.le_of_ble_eq_true rfl) ?_
      intro r I15317 J15318 Ra hq
      obtain ⟨⟨hI15317, ec⟩, rfl⟩ := hq
      rw [ec]
      clear ec Ra
      have e15319 : I15317 (ad g 1) 1 = L := hI15317.2
      have b15320 := BT_get hI15317.1 1 1 2 (0) (0) (900) (by decide) 1 (by decide) (by decide)
      rw [e15319] at b15320
      refine WQ_iconst (0) (0) dX10_rest_24 rfl rfl (fun v15321 hv15321 => ?_)
      refine WP_istore_n (ls' := [(0, _), (1, _), (2, _)]) dX10_rest_25 (by decide) rfl ?_
      refine WP_aload_n dX10_rest_26 rfl ?_
      refine WQ_iconst (0) (0) dX10_rest_27 rfl rfl (fun v15322 hv15322 => ?_)
      refine WQ_puti dX10_rest_28 fX10_263 rfl rfl (lyx_is hy 0 10 rfl) (fun I15323 eI15323 => ?_)
      have hI15323 : XI g n L I15323 := by rw [eI15323]; exact (xi_f0 hy hI15317 (c := 0) (by decide) (Or.inl (by decide)) (by decide))
      have e15324 : I15323 (ad g 1) 1 = L := by rw [eI15323, pp_ne _ _ (Or.inl (lyx_ne hy (by decide) (by decide) (by decide)))]; exact e15319
      have e15325 : I15323 (ad g 0) 11 = v15322 := by rw [eI15323, pp_self]
      clear eI15323
      have lp31_15329 : ∀ (mz : Nat) (i15326 : Int32) (I15327 : pI) (J15328 : pJ) (RI15327 : pR), RfX g RI15327 → RI15327 (ad g 5) 0 = some (ad g 27) → RI15327 (ad g 0) 10 = R (ad g 0) 10 → NL g RI15327 → XI g n L I15327 → ∀ (w15329 : Int32), I15327 (ad g 0) 11 = w15329 → 0 ≤ i15326.toInt → i15326.toInt ≤ 1 → 0 ≤ w15329.toInt → w15329.toInt ≤ 60 → (61 - w15329.toInt).toNat < mz → WP g mX10_rest 31 [(0, .ref (ad g 0)), (1, .int a), (2, .int i15326)] [] I15327 J15328 RI15327 (fun r I' J' R' => (XI g n L I' ∧ (RfX g R' ∧ (R' (ad g 5) 0 = R (ad g 5) 0 ∧ R' (ad g 0) 10 = R (ad g 0) 10) ∧ NL g R')) ∧ ∃ v : Int32, r = some (.int v)) := by
        intro mz
        induction mz with
        | zero =>
          intro i15326 I15327 J15328 RI15327 hrI15327 hTI15327 hSI15327 hPI15327 hI15327 w15329 ew15329 ai15326 bi15326 j0_I15327 j1_I15327 hmlp31_15329
          exact absurd hmlp31_15329 (Nat.not_lt_zero _)
        | succ mz ihlp31_15329 =>
          intro i15326 I15327 J15328 RI15327 hrI15327 hTI15327 hSI15327 hPI15327 hI15327 w15329 ew15329 ai15326 bi15326 j0_I15327 j1_I15327 hmlp31_15329
          have e15331 : I15327 (ad g 1) 1 = L := hI15327.2
          have b15332 := BT_get hI15327.1 1 1 2 (0) (0) (900) (by decide) 1 (by decide) (by decide)
          rw [e15331] at b15332
          refine WP_aload_n dX10_rest_31 rfl ?_
          refine WQ_getim dX10_rest_32 fX10_263 rfl (lyx_is hy 0 10 rfl) ew15329 ?_
          refine WQ_bipush (60) (60) dX10_rest_35 rfl rfl (fun v15333 hv15333 => ?_)
          refine WQ_icmp_ge 70 dX10_rest_37 rfl (fun c15333 => ?_) (fun c15333 => ?_)
          · refine WP_iload_n dX10_rest_70 rfl ?_
            have jn79_15337 : ∀ (v15337 : Int32), 0 ≤ v15337.toInt → v15337.toInt ≤ 1 → WP g mX10_rest 79 [(0, .ref (ad g 0)), (1, .int a), (2, .int i15326)] [.int v15337] I15327 J15328 RI15327 (fun r I' J' R' => (XI g n L I' ∧ (RfX g R' ∧ (R' (ad g 5) 0 = R (ad g 5) 0 ∧ R' (ad g 0) 10 = R (ad g 0) 10) ∧ NL g R')) ∧ ∃ v : Int32, r = some (.int v)) := by
              intro v15337 av15337 bv15337
              exact WP_iret dX10_rest_79 rfl ⟨⟨hI15327, ⟨hrI15327, ⟨hTI15327.trans hT.symm, hSI15327⟩, hPI15327⟩⟩, _, rfl⟩
            refine WQ_if_eq 78 dX10_rest_71 rfl (fun c15338 => ?_) (fun c15338 => ?_)
            · refine WQ_iconst (0) (0) dX10_rest_78 rfl rfl (fun v15340 hv15340 => ?_)
              exact WP_sub (fc rfl (fc rfl (fc rfl fn))) (jn79_15337 v15340 (by omega) (by omega))
            · refine WQ_iconst (1) (1) dX10_rest_74 rfl rfl (fun v15341 hv15341 => ?_)
              refine WP_goto 79 dX10_rest_75 rfl ?_
              exact WP_sub (fc rfl (fc rfl (fc rfl fn))) (jn79_15337 v15341 (by omega) (by omega))
          · refine WP_iload_n dX10_rest_40 rfl ?_
            refine WQ_if_ne 70 dX10_rest_41 rfl (fun c15341 => ?_) (fun c15341 => ?_)
            · refine WP_iload_n dX10_rest_70 rfl ?_
              have jn79_15344 : ∀ (v15344 : Int32), 1 ≤ v15344.toInt → v15344.toInt ≤ 1 → WP g mX10_rest 79 [(0, .ref (ad g 0)), (1, .int a), (2, .int i15326)] [.int v15344] I15327 J15328 RI15327 (fun r I' J' R' => (XI g n L I' ∧ (RfX g R' ∧ (R' (ad g 5) 0 = R (ad g 5) 0 ∧ R' (ad g 0) 10 = R (ad g 0) 10) ∧ NL g R')) ∧ ∃ v : Int32, r = some (.int v)) := by
                intro v15344 av15344 bv15344
                exact WP_iret dX10_rest_79 rfl ⟨⟨hI15327, ⟨hrI15327, ⟨hTI15327.trans hT.symm, hSI15327⟩, hPI15327⟩⟩, _, rfl⟩
              refine WQ_if_eq 78 dX10_rest_71 rfl (fun c15345 => False.elim (by omega)) (fun c15345 => ?_)
              refine WQ_iconst (1) (1) dX10_rest_74 rfl rfl (fun v15347 hv15347 => ?_)
              refine WP_goto 79 dX10_rest_75 rfl ?_
              exact WP_sub (fc rfl (fc rfl (fc rfl fn))) (jn79_15344 v15347 (by omega) (by omega))
            · refine WP_aload_n dX10_rest_44 rfl ?_
              refine WP_dup dX10_rest_45 rfl ?_
              refine WQ_getim dX10_rest_46 fX10_263 rfl (lyx_is hy 0 10 rfl) ew15329 ?_
              refine WQ_iconst (1) (1) dX10_rest_49 rfl rfl (fun v15348 hv15348 => ?_)
              refine WQ_iadd dX10_rest_50 (by omega) (by omega) (fun v15349 hv15349 => ?_)
              refine WQ_puti dX10_rest_51 fX10_263 rfl rfl (lyx_is hy 0 10 rfl) (fun I15350 eI15350 => ?_)
              have hI15350 : XI g n L I15350 := by rw [eI15350]; exact (xi_f0 hy hI15327 (c := 0) (by decide) (Or.inl (by decide)) (by decide))
              have e15351 : I15350 (ad g 1) 1 = L := by rw [eI15350, pp_ne _ _ (Or.inl (lyx_ne hy (by decide) (by decide) (by decide)))]; exact e15331
              have e15352 : I15350 (ad g 0) 11 = v15349 := by rw [eI15350, pp_self]
              clear eI15350
              refine WP_aload_n dX10_rest_54 rfl ?_
              refine WP_callV0 (k := 10) dX10_rest_55 ⟨⟨⟨by decide, by decide⟩, zX10_turnChanges⟩, lX10_266, by decide, rfl, vX10_turnChanges.1, vX10_turnChanges.2⟩ (lyx_is hy 0 10 rfl) (sx_turnChanges_27 hy hrI15327 hPI15327 hTI15327 hI15350   (by omega)) (Nat.le_of_ble_eq_true rfl) ?_
              intro r I15353 J15354 R15355 hq
              obtain ⟨⟨hI15353, ⟨hrI15353, ⟨htI15353, hsI15353⟩, hpI15353⟩, fiI15353⟩, v15356, rfl, av15356, bv15356⟩ := hq
              show WP _ _ _ _ (.int _ :: _) _ _ _ _
              have ht_I15353 := htI15353.trans hTI15327
              have hs_I15353 : R15355 (ad g 0) 10 = R (ad g 0) 10 := hsI15353.trans hSI15327
              have e15357 : I15353 (ad g 0) 11 = v15349 := by rw [fz_at fiI15353 0 (by decide) (by decide)]; exact e15352
              have e15358 : I15353 (ad g 1) 1 = L := hI15353.2
              have b15359 := BT_get hI15353.1 1 1 2 (0) (0) (900) (by decide) 1 (by decide) (by decide)
              rw [e15358] at b15359
              have jn66_15362 : ∀ (v15362 : Int32), 0 ≤ v15362.toInt → v15362.toInt ≤ 1 → WP g mX10_rest 66 [(0, .ref (ad g 0)), (1, .int a), (2, .int i15326)] [.int v15362] I15353 J15354 R15355 (fun r I' J' R' => (XI g n L I' ∧ (RfX g R' ∧ (R' (ad g 5) 0 = R (ad g 5) 0 ∧ R' (ad g 0) 10 = R (ad g 0) 10) ∧ NL g R')) ∧ ∃ v : Int32, r = some (.int v)) := by
                intro v15362 av15362 bv15362
                refine WP_istore_n (ls' := [(0, _), (1, _), (2, _)]) dX10_rest_66 (by decide) rfl ?_
                refine WP_goto 31 dX10_rest_67 rfl ?_
                exact WP_sub (fc rfl (fc rfl (fc rfl fn))) (ihlp31_15329 v15362 I15353 J15354 R15355 hrI15353 ht_I15353 hs_I15353 hpI15353 hI15353 v15349 e15357 (by omega) (by omega) (by omega) (by omega) (by omega))
              refine WQ_if_ne 65 dX10_rest_58 rfl (fun c15363 => ?_) (fun c15363 => ?_)
              · refine WQ_iconst (0) (0) dX10_rest_65 rfl rfl (fun v15365 hv15365 => ?_)
                exact WP_sub (fc rfl (fc rfl (fc rfl fn))) (jn66_15362 v15365 (by omega) (by omega))
              · refine WQ_iconst (1) (1) dX10_rest_61 rfl rfl (fun v15366 hv15366 => ?_)
                refine WP_goto 66 dX10_rest_62 rfl ?_
                exact WP_sub (fc rfl (fc rfl (fc rfl fn))) (jn66_15362 v15366 (by omega) (by omega))
      exact WP_sub (fc rfl (fc rfl (fc rfl fn))) (lp31_15329 _ v15321 I15323 J15318 R hr hT rfl hP hI15323 v15322 e15325 (by omega) (by omega) (by omega) (by omega) (Nat.lt_succ_self _))
    · refine WQ_bipush (-2) (-2) dX10_rest_9 rfl rfl (fun v15367 hv15367 => ?_)
      exact WP_iret dX10_rest_11 rfl ⟨⟨hI, ⟨hr, ⟨hT.trans hT.symm, rfl⟩, hP⟩⟩, _, rfl⟩
set_option maxHeartbeats 4000000 in
set_option maxRecDepth 100000 in
theorem sx_best_27 {g : GG} {n : Int} {L : Int32} (hy : LyX g)  {I : pI} {J : pJ} {R : pR} (hr : RfX g R) (hP : NL g R) (hT : R (ad g 5) 0 = some (ad g 27)) (hI : XI g n L I) (a : Int32) (b : Int32) (c : Int32) (e : Int32) (k : Int32)  : SP g mX10_best [.ref (ad g 0), .int a, .int b, .int c, .int e, .int k] I J R (fun r I' J' R' => (XI g n L I' ∧ (RfX g R' ∧ (R' (ad g 5) 0 = R (ad g 5) 0 ∧ R' (ad g 0) 10 = R (ad g 0) 10) ∧ NL g R')) ∧ ∃ v : Int32, r = some (.int v)) := by
  refine SP_of ⟨by decide, rfl⟩ (Nat.le_of_ble_eq_true rfl) ?_
  have e15368 : I (ad g 1) 1 = L := hI.2
  have b15369 := BT_get hI.1 1 1 2 (0) (0) (900) (by decide) 1 (by decide) (by decide)
  rw [e15368] at b15369
  refine WP_aload_n dX10_best_0 rfl ?_
  refine WP_iload_n dX10_best_1 rfl ?_
  refine WP_iload_n dX10_best_2 rfl ?_
  refine WP_iload_n dX10_best_3 rfl ?_
  refine WP_iload dX10_best_4 rfl ?_
  refine WP_callV4 (k := 10) dX10_best_6 ⟨⟨⟨by decide, by decide⟩, zX10_isPerson⟩, lX10_188, by decide, rfl, vX10_isPerson.1, vX10_isPerson.2⟩ (lyx_is hy 0 10 rfl) (sx_isPerson_27 hy hr hT hI a b c e    ) (Nat.le_of_ble_eq_true rfl) ?_
  intro r Ia Ja Ra hq
  obtain ⟨⟨ea, eb, ec⟩, v15370, rfl, av15370, bv15370, cv15370⟩ := hq
  show WP _ _ _ _ (.int _ :: _) _ _ _ _
  rw [ea, eb, ec]
  clear ea eb ec Ia Ja Ra
  refine WQ_if_eq 23 dX10_best_9 rfl (fun c15370 => ?_) (fun c15370 => ?_)
  · refine WQ_bipush (-2) (-2) dX10_best_23 rfl rfl (fun v15372 hv15372 => ?_)
    exact WP_iret dX10_best_25 rfl ⟨⟨hI, ⟨hr, ⟨hT.trans hT.symm, rfl⟩, hP⟩⟩, _, rfl⟩
  · refine WP_iload dX10_best_12 rfl ?_
    refine WQ_iconst (0) (0) dX10_best_14 rfl rfl (fun v15373 hv15373 => ?_)
    refine WQ_bipush (28) (28) dX10_best_15 rfl rfl (fun v15374 hv15374 => ?_)
    refine WP_callS3 dX10_best_17 ⟨⟨⟨by decide, by decide⟩, zX10_within⟩, lX10_206, tX10_within⟩ (sx_within hy hr hI k v15373 v15374   ) (Nat.le_of_ble_eq_true rfl) ?_
    intro r Ia Ja Ra hq
    obtain ⟨⟨ea, eb, ec⟩, v15375, rfl, av15375, bv15375, cv15375⟩ := hq
    show WP _ _ _ _ (.int _ :: _) _ _ _ _
    rw [ea, eb, ec]
    clear ea eb ec Ia Ja Ra
    refine WQ_if_ne 26 dX10_best_20 rfl (fun c15375 => ?_) (fun c15375 => ?_)
    · refine WP_iload dX10_best_26 rfl ?_
      refine WQ_if_ne 33 dX10_best_28 rfl (fun c15376 => ?_) (fun c15376 => ?_)
      · refine WP_aload_n dX10_best_33 rfl ?_
        refine WP_getr dX10_best_34 fX10_46 rfl (lyx_is hy 0 10 rfl) (rfx hr 0 3 43 (by decide)) ?_
        refine WP_iload_n dX10_best_37 rfl ?_
        refine WP_iload_n dX10_best_38 rfl ?_
        refine WP_aload_n dX10_best_39 rfl ?_
        refine WP_getr dX10_best_40 fX10_33 rfl (lyx_is hy 0 10 rfl) (rfx hr 0 2 5 (by decide)) ?_
        refine WP_iload_n dX10_best_43 rfl ?_
        refine WP_iload_n dX10_best_44 rfl ?_
        refine WP_iload_n dX10_best_45 rfl ?_
        refine WP_callV3 (k := 0) dX10_best_46 ⟨⟨⟨by decide, by decide⟩, zX0_earned⟩, lX10_209, by decide, rfl, vX0_earned.1, vX0_earned.2⟩ (lyx_is hy 5 0 rfl) (sx_earned_27 hy hr hT hI a b c (by omega) (by omega) (by omega) (by omega) (by omega) (by omega)) (Nat.le_of_ble_eq_true rfl) ?_
        intro r Ia Ja Ra hq
        obtain ⟨⟨ea, eb, ec⟩, v15378, rfl, av15378, bv15378, cv15378⟩ := hq
        show WP _ _ _ _ (.int _ :: _) _ _ _ _
        rw [ea, eb, ec]
        clear ea eb ec Ia Ja Ra
        refine WP_iload dX10_best_49 rfl ?_
        refine WP_iload dX10_best_51 rfl ?_
        refine WP_callV5 (k := 2) dX10_best_53 ⟨⟨⟨by decide, by decide⟩, zX2_search⟩, lX10_212, by decide, rfl, vX2_search.1, vX2_search.2⟩ (lyx_is hy 43 2 rfl) (sx_searchx_27 hy hr hP hT hI a b v15378 e k (by omega) (by omega) (by omega) (by omega) (by omega) (by omega) (by omega) (by omega) (by omega) (by omega)) (Nat.le_of_ble_eq_true rfl) ?_
        intro r I15379 J15380 R15381 hq
        obtain ⟨⟨hI15379, ⟨hrI15379, ⟨htI15379, hsI15379⟩, hpI15379⟩, fiI15379, fjI15379⟩, v15382, rfl, av15382, bv15382, cv15382⟩ := hq
        show WP _ _ _ _ (.int _ :: _) _ _ _ _
        have ht_I15379 := htI15379.trans hT
        have hs_I15379 : R15381 (ad g 0) 10 = R (ad g 0) 10 := hsI15379.trans rfl
        have e15383 : I15379 (ad g 1) 1 = L := hI15379.2
        have b15384 := BT_get hI15379.1 1 1 2 (0) (0) (900) (by decide) 1 (by decide) (by decide)
        rw [e15383] at b15384
        refine WP_pop dX10_best_56 rfl ?_
        refine WP_aload_n dX10_best_57 rfl ?_
        refine WP_getr dX10_best_58 fX10_46 rfl (lyx_is hy 0 10 rfl) (rfx hrI15379 0 3 43 (by decide)) ?_
        refine WQ_getiu dX10_best_61 fX10_216 rfl (lyx_is hy 43 2 rfl) (fun v15385 ev15385 => ?_)
        exact WP_iret dX10_best_64 rfl ⟨⟨hI15379, ⟨hrI15379, ⟨ht_I15379.trans hT.symm, hs_I15379⟩, hpI15379⟩⟩, _, rfl⟩
      · refine WQ_iconst (0) (0) dX10_best_31 rfl rfl (fun v15386 hv15386 => ?_)
        exact WP_iret dX10_best_32 rfl ⟨⟨hI, ⟨hr, ⟨hT.trans hT.symm, rfl⟩, hP⟩⟩, _, rfl⟩
    · refine WQ_bipush (-2) (-2) dX10_best_23 rfl rfl (fun v15387 hv15387 => ?_)
      exact WP_iret dX10_best_25 rfl ⟨⟨hI, ⟨hr, ⟨hT.trans hT.symm, rfl⟩, hP⟩⟩, _, rfl⟩
set_option maxHeartbeats 4000000 in
set_option maxRecDepth 100000 in
theorem sx_bestAct_27 {g : GG} {n : Int} {L : Int32} (hy : LyX g)  {I : pI} {J : pJ} {R : pR} (hr : RfX g R) (hP : NL g R) (hT : R (ad g 5) 0 = some (ad g 27)) (hI : XI g n L I) (a : Int32) (b : Int32) (c : Int32) (e : Int32) (k : Int32)  : SP g mX10_bestAct [.ref (ad g 0), .int a, .int b, .int c, .int e, .int k] I J R (fun r I' J' R' => (XI g n L I' ∧ (RfX g R' ∧ (R' (ad g 5) 0 = R (ad g 5) 0 ∧ R' (ad g 0) 10 = R (ad g 0) 10) ∧ NL g R')) ∧ ∃ v : Int32, r = some (.int v)) := by
  refine SP_of ⟨by decide, rfl⟩ (Nat.le_of_ble_eq_true rfl) ?_
  have e15388 : I (ad g 1) 1 = L := hI.2
  have b15389 := BT_get hI.1 1 1 2 (0) (0) (900) (by decide) 1 (by decide) (by decide)
  rw [e15388] at b15389
  refine WP_aload_n dX10_bestAct_0 rfl ?_
  refine WP_iload_n dX10_bestAct_1 rfl ?_
  refine WP_iload_n dX10_bestAct_2 rfl ?_
  refine WP_iload_n dX10_bestAct_3 rfl ?_
  refine WP_iload dX10_bestAct_4 rfl ?_
  refine WP_callV4 (k := 10) dX10_bestAct_6 ⟨⟨⟨by decide, by decide⟩, zX10_isPerson⟩, lX10_188, by decide, rfl, vX10_isPerson.1, vX10_isPerson.2⟩ (lyx_is hy 0 10 rfl) (sx_isPerson_27 hy hr hT hI a b c e    ) (Nat.le_of_ble_eq_true rfl) ?_
  intro r Ia Ja Ra hq
  obtain ⟨⟨ea, eb, ec⟩, v15390, rfl, av15390, bv15390, cv15390⟩ := hq
  show WP _ _ _ _ (.int _ :: _) _ _ _ _
  rw [ea, eb, ec]
  clear ea eb ec Ia Ja Ra
  refine WQ_if_eq 23 dX10_bestAct_9 rfl (fun c15390 => ?_) (fun c15390 => ?_)
  · refine WQ_bipush (-2) (-2) dX10_bestAct_23 rfl rfl (fun v15392 hv15392 => ?_)
    exact WP_iret dX10_bestAct_25 rfl ⟨⟨hI, ⟨hr, ⟨hT.trans hT.symm, rfl⟩, hP⟩⟩, _, rfl⟩
  · refine WP_iload dX10_bestAct_12 rfl ?_
    refine WQ_iconst (0) (0) dX10_bestAct_14 rfl rfl (fun v15393 hv15393 => ?_)
    refine WQ_bipush (28) (28) dX10_bestAct_15 rfl rfl (fun v15394 hv15394 => ?_)
    refine WP_callS3 dX10_bestAct_17 ⟨⟨⟨by decide, by decide⟩, zX10_within⟩, lX10_206, tX10_within⟩ (sx_within hy hr hI k v15393 v15394   ) (Nat.le_of_ble_eq_true rfl) ?_
    intro r Ia Ja Ra hq
    obtain ⟨⟨ea, eb, ec⟩, v15395, rfl, av15395, bv15395, cv15395⟩ := hq
    show WP _ _ _ _ (.int _ :: _) _ _ _ _
    rw [ea, eb, ec]
    clear ea eb ec Ia Ja Ra
    refine WQ_if_ne 26 dX10_bestAct_20 rfl (fun c15395 => ?_) (fun c15395 => ?_)
    · refine WP_iload dX10_bestAct_26 rfl ?_
      refine WQ_if_ne 33 dX10_bestAct_28 rfl (fun c15396 => ?_) (fun c15396 => ?_)
      · refine WP_aload_n dX10_bestAct_33 rfl ?_
        refine WP_getr dX10_bestAct_34 fX10_46 rfl (lyx_is hy 0 10 rfl) (rfx hr 0 3 43 (by decide)) ?_
        refine WP_iload_n dX10_bestAct_37 rfl ?_
        refine WP_iload_n dX10_bestAct_38 rfl ?_
        refine WP_aload_n dX10_bestAct_39 rfl ?_
        refine WP_getr dX10_bestAct_40 fX10_33 rfl (lyx_is hy 0 10 rfl) (rfx hr 0 2 5 (by decide)) ?_
        refine WP_iload_n dX10_bestAct_43 rfl ?_
        refine WP_iload_n dX10_bestAct_44 rfl ?_
        refine WP_iload_n dX10_bestAct_45 rfl ?_
        refine WP_callV3 (k := 0) dX10_bestAct_46 ⟨⟨⟨by decide, by decide⟩, zX0_earned⟩, lX10_209, by decide, rfl, vX0_earned.1, vX0_earned.2⟩ (lyx_is hy 5 0 rfl) (sx_earned_27 hy hr hT hI a b c (by omega) (by omega) (by omega) (by omega) (by omega) (by omega)) (Nat.le_of_ble_eq_true rfl) ?_
        intro r Ia Ja Ra hq
        obtain ⟨⟨ea, eb, ec⟩, v15398, rfl, av15398, bv15398, cv15398⟩ := hq
        show WP _ _ _ _ (.int _ :: _) _ _ _ _
        rw [ea, eb, ec]
        clear ea eb ec Ia Ja Ra
        refine WP_iload dX10_bestAct_49 rfl ?_
        refine WP_iload dX10_bestAct_51 rfl ?_
        refine WP_callV5 (k := 2) dX10_bestAct_53 ⟨⟨⟨by decide, by decide⟩, zX2_search⟩, lX10_212, by decide, rfl, vX2_search.1, vX2_search.2⟩ (lyx_is hy 43 2 rfl) (sx_searchx_27 hy hr hP hT hI a b v15398 e k (by omega) (by omega) (by omega) (by omega) (by omega) (by omega) (by omega) (by omega) (by omega) (by omega)) (Nat.le_of_ble_eq_true rfl) ?_
        intro r I15399 J15400 R15401 hq
        obtain ⟨⟨hI15399, ⟨hrI15399, ⟨htI15399, hsI15399⟩, hpI15399⟩, fiI15399, fjI15399⟩, v15402, rfl, av15402, bv15402, cv15402⟩ := hq
        show WP _ _ _ _ (.int _ :: _) _ _ _ _
        have ht_I15399 := htI15399.trans hT
        have hs_I15399 : R15401 (ad g 0) 10 = R (ad g 0) 10 := hsI15399.trans rfl
        have e15403 : I15399 (ad g 1) 1 = L := hI15399.2
        have b15404 := BT_get hI15399.1 1 1 2 (0) (0) (900) (by decide) 1 (by decide) (by decide)
        rw [e15403] at b15404
        exact WP_iret dX10_bestAct_56 rfl ⟨⟨hI15399, ⟨hrI15399, ⟨ht_I15399.trans hT.symm, hs_I15399⟩, hpI15399⟩⟩, _, rfl⟩
      · refine WQ_iconst (-1) (-1) dX10_bestAct_31 rfl rfl (fun v15405 hv15405 => ?_)
        exact WP_iret dX10_bestAct_32 rfl ⟨⟨hI, ⟨hr, ⟨hT.trans hT.symm, rfl⟩, hP⟩⟩, _, rfl⟩
    · refine WQ_bipush (-2) (-2) dX10_bestAct_23 rfl rfl (fun v15406 hv15406 => ?_)
      exact WP_iret dX10_bestAct_25 rfl ⟨⟨hI, ⟨hr, ⟨hT.trans hT.symm, rfl⟩, hP⟩⟩, _, rfl⟩
set_option maxHeartbeats 4000000 in
set_option maxRecDepth 100000 in
theorem sx_wayAct_27 {g : GG} {n : Int} {L : Int32} (hy : LyX g)  {I : pI} {J : pJ} {R : pR} (hr : RfX g R) (hP : NL g R) (hT : R (ad g 5) 0 = some (ad g 27)) (hI : XI g n L I) (a : Int32) (b : Int32) (c : Int32) (e : Int32) (k : Int32)  : SP g mX10_wayAct [.ref (ad g 0), .int a, .int b, .int c, .int e, .int k] I J R (fun r I' J' R' => (XI g n L I' ∧ (RfX g R' ∧ (R' (ad g 5) 0 = R (ad g 5) 0 ∧ R' (ad g 0) 10 = R (ad g 0) 10) ∧ NL g R')) ∧ ∃ v : Int32, r = some (.int v)) := by
  refine SP_of ⟨by decide, rfl⟩ (Nat.le_of_ble_eq_true rfl) ?_
  have e15407 : I (ad g 1) 1 = L := hI.2
  have b15408 := BT_get hI.1 1 1 2 (0) (0) (900) (by decide) 1 (by decide) (by decide)
  rw [e15407] at b15408
  refine WP_iload_n dX10_wayAct_0 rfl ?_
  refine WP_callS1 dX10_wayAct_1 ⟨⟨⟨by decide, by decide⟩, zX10_isWay⟩, lX10_219, tX10_isWay⟩ (sx_isWay hy hr hI a ) (Nat.le_of_ble_eq_true rfl) ?_
  intro r Ia Ja Ra hq
  obtain ⟨⟨ea, eb, ec⟩, v15409, rfl, av15409, bv15409, cv15409⟩ := hq
  show WP _ _ _ _ (.int _ :: _) _ _ _ _
  rw [ea, eb, ec]
  clear ea eb ec Ia Ja Ra
  refine WQ_if_eq 20 dX10_wayAct_4 rfl (fun c15409 => ?_) (fun c15409 => ?_)
  · refine WQ_bipush (-2) (-2) dX10_wayAct_20 rfl rfl (fun v15411 hv15411 => ?_)
    exact WP_iret dX10_wayAct_22 rfl ⟨⟨hI, ⟨hr, ⟨hT.trans hT.symm, rfl⟩, hP⟩⟩, _, rfl⟩
  · refine WP_aload_n dX10_wayAct_7 rfl ?_
    refine WP_iload_n dX10_wayAct_8 rfl ?_
    refine WP_iload_n dX10_wayAct_9 rfl ?_
    refine WP_iload dX10_wayAct_10 rfl ?_
    refine WP_iload dX10_wayAct_12 rfl ?_
    refine WP_callV4 (k := 10) dX10_wayAct_14 ⟨⟨⟨by decide, by decide⟩, zX10_isPerson⟩, lX10_188, by decide, rfl, vX10_isPerson.1, vX10_isPerson.2⟩ (lyx_is hy 0 10 rfl) (sx_isPerson_27 hy hr hT hI b c e k    ) (Nat.le_of_ble_eq_true rfl) ?_
    intro r Ia Ja Ra hq
    obtain ⟨⟨ea, eb, ec⟩, v15412, rfl, av15412, bv15412, cv15412⟩ := hq
    show WP _ _ _ _ (.int _ :: _) _ _ _ _
    rw [ea, eb, ec]
    clear ea eb ec Ia Ja Ra
    refine WQ_if_ne 23 dX10_wayAct_17 rfl (fun c15412 => ?_) (fun c15412 => ?_)
    · refine WP_iload_n dX10_wayAct_23 rfl ?_
      refine WQ_iconst (3) (3) dX10_wayAct_24 rfl rfl (fun v15414 hv15414 => ?_)
      refine WQ_icmp_ne 44 dX10_wayAct_25 rfl (fun c15414 => ?_) (fun c15414 => ?_)
      · refine WP_aload_n dX10_wayAct_44 rfl ?_
        refine WP_getr dX10_wayAct_45 fX10_55 rfl (lyx_is hy 0 10 rfl) (rfx hr 0 4 49 (by decide)) ?_
        refine WP_getr dX10_wayAct_48 fX10_192 rfl (lyx_is hy 49 9 rfl) (rfx hr 49 0 50 (by decide)) ?_
        refine WP_astore (ls' := [(0, _), (1, _), (2, _), (3, _), (4, _), (5, _), (6, _)]) dX10_wayAct_51 (by decide) rfl ?_
        refine WP_aload dX10_wayAct_53 rfl ?_
        refine WP_aload_n dX10_wayAct_55 rfl ?_
        refine WP_getr dX10_wayAct_56 fX10_33 rfl (lyx_is hy 0 10 rfl) (rfx hr 0 2 5 (by decide)) ?_
        refine WP_iload_n dX10_wayAct_59 rfl ?_
        refine WP_iload_n dX10_wayAct_60 rfl ?_
        refine WP_callV3 (k := 6) dX10_wayAct_61 ⟨⟨⟨by decide, by decide⟩, zX6_load⟩, lX10_196, by decide, rfl, vX6_load.1, vX6_load.2⟩ (lyx_is hy 50 6 rfl) (sx_loadx_50_27 hy hr hT hI b c (by omega) (by omega) (by omega) (by omega)) (Nat.le_of_ble_eq_true rfl) ?_
        intro r I15416 J15417 Ra hq
        obtain ⟨⟨hI15416, ec, fiI15416, ejI15416, pI15416⟩, rfl⟩ := hq
        rw [ec]
        clear ec Ra
        rw [ejI15416]
        clear ejI15416 J15417
        have e15418 : I15416 (ad g 1) 1 = L := hI15416.2
        have b15419 := BT_get hI15416.1 1 1 2 (0) (0) (900) (by decide) 1 (by decide) (by decide)
        rw [e15418] at b15419
        refine WP_aload dX10_wayAct_64 rfl ?_
        refine WP_iload_n dX10_wayAct_66 rfl ?_
        refine WP_iload dX10_wayAct_67 rfl ?_
        refine WP_iload dX10_wayAct_69 rfl ?_
        refine WP_callV3 (k := 6) dX10_wayAct_71 ⟨⟨⟨by decide, by decide⟩, zX6_habit⟩, lX10_222, by decide, rfl, vX6_habit.1, vX6_habit.2⟩ (lyx_is hy 50 6 rfl) (sx_habita hy hr hI15416 a e k  (by omega) (by omega) (by omega) (by omega)) (Nat.le_of_ble_eq_true rfl) ?_
        intro r Ia Ja Ra hq
        obtain ⟨⟨ea, eb, ec⟩, v15420, rfl, av15420, bv15420, cv15420⟩ := hq
        show WP _ _ _ _ (.int _ :: _) _ _ _ _
        rw [ea, eb, ec]
        clear ea eb ec Ia Ja Ra
        exact WP_iret dX10_wayAct_74 rfl ⟨⟨hI15416, ⟨hr, ⟨hT.trans hT.symm, rfl⟩, hP⟩⟩, _, rfl⟩
      · refine WP_aload_n dX10_wayAct_28 rfl ?_
        refine WP_getr dX10_wayAct_29 fX10_46 rfl (lyx_is hy 0 10 rfl) (rfx hr 0 3 43 (by decide)) ?_
        refine WP_iload_n dX10_wayAct_32 rfl ?_
        refine WP_iload_n dX10_wayAct_33 rfl ?_
        refine WP_iload dX10_wayAct_34 rfl ?_
        refine WP_iload dX10_wayAct_36 rfl ?_
        refine WQ_bipush (7) (7) dX10_wayAct_38 rfl rfl (fun v15421 hv15421 => ?_)
        refine WP_callV5 (k := 2) dX10_wayAct_40 ⟨⟨⟨by decide, by decide⟩, zX2_search⟩, lX10_212, by decide, rfl, vX2_search.1, vX2_search.2⟩ (lyx_is hy 43 2 rfl) (sx_searchx_27 hy hr hP hT hI b c e k v15421 (by omega) (by omega) (by omega) (by omega) (by omega) (by omega) (by omega) (by omega) (by omega) (by omega)) (Nat.le_of_ble_eq_true rfl) ?_
        intro r I15422 J15423 R15424 hq
        obtain ⟨⟨hI15422, ⟨hrI15422, ⟨htI15422, hsI15422⟩, hpI15422⟩, fiI15422, fjI15422⟩, v15425, rfl, av15425, bv15425, cv15425⟩ := hq
        show WP _ _ _ _ (.int _ :: _) _ _ _ _
        have ht_I15422 := htI15422.trans hT
        have hs_I15422 : R15424 (ad g 0) 10 = R (ad g 0) 10 := hsI15422.trans rfl
        have e15426 : I15422 (ad g 1) 1 = L := hI15422.2
        have b15427 := BT_get hI15422.1 1 1 2 (0) (0) (900) (by decide) 1 (by decide) (by decide)
        rw [e15426] at b15427
        exact WP_iret dX10_wayAct_43 rfl ⟨⟨hI15422, ⟨hrI15422, ⟨ht_I15422.trans hT.symm, hs_I15422⟩, hpI15422⟩⟩, _, rfl⟩
    · refine WQ_bipush (-2) (-2) dX10_wayAct_20 rfl rfl (fun v15428 hv15428 => ?_)
      exact WP_iret dX10_wayAct_22 rfl ⟨⟨hI, ⟨hr, ⟨hT.trans hT.symm, rfl⟩, hP⟩⟩, _, rfl⟩
