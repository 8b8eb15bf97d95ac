set_option maxHeartbeats 4000000 in
set_option maxRecDepth 100000 in
theorem sx_weighx_47 {g : GG} {n : Int} {L : Int32} (hy : LyX g)  {I : pI} {J : pJ} {R : pR} (hr : RfX g R) (hI : XI g n L I) (co : Int32) (st : Int32) (da : Int32) (co_lo : 0 ≤ co.toInt) (co_hi : co.toInt ≤ 60) (st_lo : 0 ≤ st.toInt) (st_hi : st.toInt ≤ 5) (da_lo : 0 ≤ da.toInt) (da_hi : da.toInt ≤ 6) {K : Int} (hK : 0 ≤ K ∧ K ≤ 16632) (hL : R (ad g 43) 7 = some (ad g 47)) (hml : 0 ≤ (I (ad g 43) 8).toInt ∧ (I (ad g 43) 8).toInt ≤ K) (hW : HW (I (ad g 44)) (I (ad g 47)) (I (ad g 24)) (I (ad g 25)) (I (ad g 26)) K co.toInt st.toInt da.toInt) : SP g mX2_weigh [.ref (ad g 43), .int co, .int st, .int da] I J R (fun r I' J' R' => (XI g n L I' ∧ R' = R ∧ fz 74 g [43] I I' ∧ J' = J ∧ (0 ≤ (I' (ad g 43) 0).toInt ∧ (I' (ad g 43) 0).toInt ≤ 594 + K ∧ AOKd (I (ad g 44)) co.toInt st.toInt (I' (ad g 43) 1).toInt ∧ I' (ad g 43) 8 = I (ad g 43) 8)) ∧ r = none) := by
  refine SP_of ⟨by decide, rfl⟩ (Nat.le_of_ble_eq_true rfl) ?_
  have e11775 : I (ad g 1) 1 = L := hI.2
  have b11776 := BT_get hI.1 1 1 2 (0) (0) (900) (by decide) 1 (by decide) (by decide)
  rw [e11775] at b11776
  have fr0 : fz 74 g [43] I I := fz_rf
  obtain ⟨w11777, ew11777⟩ : ∃ w : Int32, I (ad g 44) 1 = w := ⟨_, rfl⟩
  have bw11777 := BT_get hI.1 44 1 2 (0) (0) (3) (by decide) 1 (by decide) (by decide)
  rw [ew11777] at bw11777
  obtain ⟨w11778, ew11778⟩ : ∃ w : Int32, I (ad g 44) 3 = w := ⟨_, rfl⟩
  have bw11778 := BT_get hI.1 44 3 4 (0) (0) (20) (by decide) 3 (by decide) (by decide)
  rw [ew11778] at bw11778
  obtain ⟨w11779, ew11779⟩ : ∃ w : Int32, I (ad g 44) 4 = w := ⟨_, rfl⟩
  have bw11779 := BT_get hI.1 44 4 5 (0) (0) (20) (by decide) 4 (by decide) (by decide)
  rw [ew11779] at bw11779
  obtain ⟨w11780, ew11780⟩ : ∃ w : Int32, I (ad g 44) 5 = w := ⟨_, rfl⟩
  have bw11780 := BT_get hI.1 44 5 6 (0) (0) (3) (by decide) 5 (by decide) (by decide)
  rw [ew11780] at bw11780
  obtain ⟨w11781, ew11781⟩ : ∃ w : Int32, I (ad g 44) 6 = w := ⟨_, rfl⟩
  have bw11781 := BT_get hI.1 44 6 7 (0) (0) (2) (by decide) 6 (by decide) (by decide)
  rw [ew11781] at bw11781
  obtain ⟨w11782, ew11782⟩ : ∃ w : Int32, I (ad g 44) 7 = w := ⟨_, rfl⟩
  have bw11782 := BT_get hI.1 44 7 8 (0) (0) (1) (by decide) 7 (by decide) (by decide)
  rw [ew11782] at bw11782
  obtain ⟨w11783, ew11783⟩ : ∃ w : Int32, I (ad g 43) 8 = w := ⟨_, rfl⟩
  have hml0 := hml
  rw [ew11783] at hml0
  refine WP_aload_n dX2_weigh_0 rfl ?_
  refine WP_getr dX2_weigh_1 fX2_12 rfl (lyx_is hy 43 2 rfl) (rfx hr 43 3 44 (by decide)) ?_
  refine WP_iload_n dX2_weigh_4 rfl ?_
  refine WP_callV1 (k := 6) dX2_weigh_5 ⟨⟨⟨by decide, by decide⟩, zX6_mostFromStore⟩, lX2_82, by decide, rfl, vX6_mostFromStore.1, vX6_mostFromStore.2⟩ (lyx_is hy 44 6 rfl) (sx_mfx hy hr hI st (by omega) (by omega)) (Nat.le_of_ble_eq_true rfl) ?_
  intro r Ia Ja Ra hq
  obtain ⟨⟨ea, eb, ec⟩, v11784, rfl, av11784, bv11784, cv11784⟩ := hq
  show WP _ _ _ _ (.int _ :: _) _ _ _ _
  rw [ea, eb, ec]
  clear ea eb ec Ia Ja Ra
  rw [ew11782] at cv11784
  rw [ew11777] at cv11784
  refine WP_istore (ls' := [(0, _), (1, _), (2, _), (3, _), (4, _)]) dX2_weigh_8 (by decide) rfl ?_
  refine WP_aload_n dX2_weigh_10 rfl ?_
  refine WQ_iconst (-1) (-1) dX2_weigh_11 rfl rfl (fun v11785 hv11785 => ?_)
  refine WQ_puti dX2_weigh_12 fX2_127 rfl rfl (lyx_is hy 43 2 rfl) (fun I11786 eI11786 => ?_)
  have hI11786 : XI g n L I11786 := by rw [eI11786]; exact (xi_f0 hy hI (c := 43) (by decide) (Or.inl (by decide)) (by decide))
  have e11787 : I11786 (ad g 1) 1 = L := by rw [eI11786, pp_ne _ _ (Or.inl (lyx_ne hy (by decide) (by decide) (by decide)))]; exact e11775
  have e11788 : I11786 (ad g 44) 1 = w11777 := by rw [eI11786, pp_ne _ _ (Or.inl (lyx_ne hy (by decide) (by decide) (by decide)))]; exact ew11777
  have e11789 : I11786 (ad g 44) 3 = w11778 := by rw [eI11786, pp_ne _ _ (Or.inl (lyx_ne hy (by decide) (by decide) (by decide)))]; exact ew11778
  have e11790 : I11786 (ad g 44) 4 = w11779 := by rw [eI11786, pp_ne _ _ (Or.inl (lyx_ne hy (by decide) (by decide) (by decide)))]; exact ew11779
  have e11791 : I11786 (ad g 44) 5 = w11780 := by rw [eI11786, pp_ne _ _ (Or.inl (lyx_ne hy (by decide) (by decide) (by decide)))]; exact ew11780
  have e11792 : I11786 (ad g 44) 6 = w11781 := by rw [eI11786, pp_ne _ _ (Or.inl (lyx_ne hy (by decide) (by decide) (by decide)))]; exact ew11781
  have e11793 : I11786 (ad g 44) 7 = w11782 := by rw [eI11786, pp_ne _ _ (Or.inl (lyx_ne hy (by decide) (by decide) (by decide)))]; exact ew11782
  have e11794 : I11786 (ad g 43) 8 = w11783 := by rw [eI11786, pp_ne _ _ (Or.inr (by decide))]; exact ew11783
  have e11795 : I11786 (ad g 43) 0 = v11785 := by rw [eI11786, pp_self]
  have fr11796 : fz 74 g [43] I I11786 := by rw [eI11786]; exact fzx_pp hy fr0 (by decide) (by decide)
  clear eI11786
  refine WQ_iconst (0) (0) dX2_weigh_15 rfl rfl (fun v11797 hv11797 => ?_)
  refine WP_istore (ls' := [(0, _), (1, _), (2, _), (3, _), (4, _), (5, _)]) dX2_weigh_16 (by decide) rfl ?_
  have lp18_11809 : ∀ (mz : Nat) (i11798 : Int32) (I11799 : pI), XI g n L I11799 → fz 74 g [43] I I11799 → ∀ (w11801 : Int32), I11799 (ad g 44) 1 = w11801 → ∀ (w11802 : Int32), I11799 (ad g 44) 3 = w11802 → ∀ (w11803 : Int32), I11799 (ad g 44) 4 = w11803 → ∀ (w11804 : Int32), I11799 (ad g 44) 5 = w11804 → ∀ (w11805 : Int32), I11799 (ad g 44) 6 = w11805 → ∀ (w11806 : Int32), I11799 (ad g 44) 7 = w11806 → ∀ (w11807 : Int32), I11799 (ad g 43) 0 = w11807 → ∀ (w11808 : Int32), I11799 (ad g 43) 1 = w11808 → ∀ (w11809 : Int32), I11799 (ad g 43) 8 = w11809 → 0 ≤ i11798.toInt → i11798.toInt ≤ 3 → w11801.toInt = w11777.toInt → w11802.toInt = w11778.toInt → w11803.toInt = w11779.toInt → w11804.toInt = w11780.toInt → w11805.toInt = w11781.toInt → w11806.toInt = w11782.toInt → w11809.toInt = w11783.toInt → -1 ≤ w11807.toInt → w11807.toInt ≤ 594 + K → (i11798.toInt = 0 ∨ 0 ≤ w11807.toInt) → (w11807.toInt < 0 ∨ AOKd (I (ad g 44)) co.toInt st.toInt w11808.toInt) → (4 - i11798.toInt).toNat < mz → WP g mX2_weigh 18 [(0, .ref (ad g 43)), (1, .int co), (2, .int st), (3, .int da), (4, .int v11784), (5, .int i11798)] [] I11799 J R (fun r I' J' R' => (XI g n L I' ∧ R' = R ∧ fz 74 g [43] I I' ∧ J' = J ∧ (0 ≤ (I' (ad g 43) 0).toInt ∧ (I' (ad g 43) 0).toInt ≤ 594 + K ∧ AOKd (I (ad g 44)) co.toInt st.toInt (I' (ad g 43) 1).toInt ∧ I' (ad g 43) 8 = I (ad g 43) 8)) ∧ r = none) := by
    intro mz
    induction mz with
    | zero =>
      intro i11798 I11799 hI11799 fiI11799 w11801 ew11801 w11802 ew11802 w11803 ew11803 w11804 ew11804 w11805 ew11805 w11806 ew11806 w11807 ew11807 w11808 ew11808 w11809 ew11809 ai11798 bi11798 j0_I11799_11799 j1_I11799_11799 j2_I11799_11799 j3_I11799_11799 j4_I11799_11799 j5_I11799_11799 j6_I11799_11799 j7_I11799_11799 j8_I11799_11799 j9_I11799_11799 PA_I11799_11799 hmlp18_11809
      exact absurd hmlp18_11809 (Nat.not_lt_zero _)
    | succ mz ihlp18_11809 =>
      intro i11798 I11799 hI11799 fiI11799 w11801 ew11801 w11802 ew11802 w11803 ew11803 w11804 ew11804 w11805 ew11805 w11806 ew11806 w11807 ew11807 w11808 ew11808 w11809 ew11809 ai11798 bi11798 j0_I11799_11799 j1_I11799_11799 j2_I11799_11799 j3_I11799_11799 j4_I11799_11799 j5_I11799_11799 j6_I11799_11799 j7_I11799_11799 j8_I11799_11799 j9_I11799_11799 PA_I11799_11799 hmlp18_11809
      have bw11801 := BT_get hI11799.1 44 1 2 (0) (0) (3) (by decide) 1 (by decide) (by decide)
      rw [ew11801] at bw11801
      have bw11802 := BT_get hI11799.1 44 3 4 (0) (0) (20) (by decide) 3 (by decide) (by decide)
      rw [ew11802] at bw11802
      have bw11803 := BT_get hI11799.1 44 4 5 (0) (0) (20) (by decide) 4 (by decide) (by decide)
      rw [ew11803] at bw11803
      have bw11804 := BT_get hI11799.1 44 5 6 (0) (0) (3) (by decide) 5 (by decide) (by decide)
      rw [ew11804] at bw11804
      have bw11805 := BT_get hI11799.1 44 6 7 (0) (0) (2) (by decide) 6 (by decide) (by decide)
      rw [ew11805] at bw11805
      have bw11806 := BT_get hI11799.1 44 7 8 (0) (0) (1) (by decide) 7 (by decide) (by decide)
      rw [ew11806] at bw11806
      have bw11808 := BT_get hI11799.1 43 1 2 (0) (0) (47) (by decide) 1 (by decide) (by decide)
      rw [ew11808] at bw11808
      have e11811 : I11799 (ad g 1) 1 = L := hI11799.2
      have b11812 := BT_get hI11799.1 1 1 2 (0) (0) (900) (by decide) 1 (by decide) (by decide)
      rw [e11811] at b11812
      refine WP_iload dX2_weigh_18 rfl ?_
      refine WP_aload_n dX2_weigh_20 rfl ?_
      refine WP_getr dX2_weigh_21 fX2_12 rfl (lyx_is hy 43 2 rfl) (rfx hr 43 3 44 (by decide)) ?_
      refine WQ_getim dX2_weigh_24 fX2_92 rfl (lyx_is hy 44 6 rfl) ew11805 ?_
      refine WQ_icmp_gt 255 dX2_weigh_27 rfl (fun c11812 => ?_) (fun c11812 => ?_)
      · exact WP_vret dX2_weigh_255 rfl ⟨⟨hI11799, rfl, fiI11799, rfl, ⟨by rw [ew11807]; omega, by rw [ew11807]; omega, by rw [ew11808]; exact PA_I11799_11799.resolve_left (by omega), by rw [ew11809, ew11783]; exact (eq32 _ _).mpr (by omega)⟩⟩, rfl⟩
      · refine WQ_iconst (0) (0) dX2_weigh_30 rfl rfl (fun v11814 hv11814 => ?_)
        refine WP_istore (ls' := [(0, _), (1, _), (2, _), (3, _), (4, _), (5, _), (6, _)]) dX2_weigh_31 (by decide) rfl ?_
        have lp33_11826 : ∀ (mz : Nat) (i11815 : Int32) (I11816 : pI), XI g n L I11816 → fz 74 g [43] I I11816 → ∀ (w11818 : Int32), I11816 (ad g 44) 1 = w11818 → ∀ (w11819 : Int32), I11816 (ad g 44) 3 = w11819 → ∀ (w11820 : Int32), I11816 (ad g 44) 4 = w11820 → ∀ (w11821 : Int32), I11816 (ad g 44) 5 = w11821 → ∀ (w11822 : Int32), I11816 (ad g 44) 6 = w11822 → ∀ (w11823 : Int32), I11816 (ad g 44) 7 = w11823 → ∀ (w11824 : Int32), I11816 (ad g 43) 0 = w11824 → ∀ (w11825 : Int32), I11816 (ad g 43) 1 = w11825 → ∀ (w11826 : Int32), I11816 (ad g 43) 8 = w11826 → 0 ≤ i11815.toInt → i11815.toInt ≤ 4 → w11818.toInt = w11777.toInt → w11819.toInt = w11778.toInt → w11820.toInt = w11779.toInt → w11821.toInt = w11780.toInt → w11822.toInt = w11781.toInt → w11823.toInt = w11782.toInt → w11826.toInt = w11783.toInt → -1 ≤ w11824.toInt → w11824.toInt ≤ 594 + K → ((i11798.toInt = 0 ∧ i11815.toInt = 0) ∨ 0 ≤ w11824.toInt) → (w11824.toInt < 0 ∨ AOKd (I (ad g 44)) co.toInt st.toInt w11825.toInt) → (5 - i11815.toInt).toNat < mz → WP g mX2_weigh 33 [(0, .ref (ad g 43)), (1, .int co), (2, .int st), (3, .int da), (4, .int v11784), (5, .int i11798), (6, .int i11815)] [] I11816 J R (fun r I' J' R' => (XI g n L I' ∧ R' = R ∧ fz 74 g [43] I I' ∧ J' = J ∧ (0 ≤ (I' (ad g 43) 0).toInt ∧ (I' (ad g 43) 0).toInt ≤ 594 + K ∧ AOKd (I (ad g 44)) co.toInt st.toInt (I' (ad g 43) 1).toInt ∧ I' (ad g 43) 8 = I (ad g 43) 8)) ∧ r = none) := by
          intro mz
          induction mz with
          | zero =>
            intro i11815 I11816 hI11816 fiI11816 w11818 ew11818 w11819 ew11819 w11820 ew11820 w11821 ew11821 w11822 ew11822 w11823 ew11823 w11824 ew11824 w11825 ew11825 w11826 ew11826 ai11815 bi11815 j0_I11816_11816 j1_I11816_11816 j2_I11816_11816 j3_I11816_11816 j4_I11816_11816 j5_I11816_11816 j6_I11816_11816 j7_I11816_11816 j8_I11816_11816 j9_I11816_11816 PA_I11816_11816 hmlp33_11826
            exact absurd hmlp33_11826 (Nat.not_lt_zero _)
          | succ mz ihlp33_11826 =>
            intro i11815 I11816 hI11816 fiI11816 w11818 ew11818 w11819 ew11819 w11820 ew11820 w11821 ew11821 w11822 ew11822 w11823 ew11823 w11824 ew11824 w11825 ew11825 w11826 ew11826 ai11815 bi11815 j0_I11816_11816 j1_I11816_11816 j2_I11816_11816 j3_I11816_11816 j4_I11816_11816 j5_I11816_11816 j6_I11816_11816 j7_I11816_11816 j8_I11816_11816 j9_I11816_11816 PA_I11816_11816 hmlp33_11826
            have bw11818 := BT_get hI11816.1 44 1 2 (0) (0) (3) (by decide) 1 (by decide) (by decide)
            rw [ew11818] at bw11818
            have bw11819 := BT_get hI11816.1 44 3 4 (0) (0) (20) (by decide) 3 (by decide) (by decide)
            rw [ew11819] at bw11819
            have bw11820 := BT_get hI11816.1 44 4 5 (0) (0) (20) (by decide) 4 (by decide) (by decide)
            rw [ew11820] at bw11820
            have bw11821 := BT_get hI11816.1 44 5 6 (0) (0) (3) (by decide) 5 (by decide) (by decide)
            rw [ew11821] at bw11821
            have bw11822 := BT_get hI11816.1 44 6 7 (0) (0) (2) (by decide) 6 (by decide) (by decide)
            rw [ew11822] at bw11822
            have bw11823 := BT_get hI11816.1 44 7 8 (0) (0) (1) (by decide) 7 (by decide) (by decide)
            rw [ew11823] at bw11823
            have bw11825 := BT_get hI11816.1 43 1 2 (0) (0) (47) (by decide) 1 (by decide) (by decide)
            rw [ew11825] at bw11825
            have e11828 : I11816 (ad g 1) 1 = L := hI11816.2
            have b11829 := BT_get hI11816.1 1 1 2 (0) (0) (900) (by decide) 1 (by decide) (by decide)
            rw [e11828] at b11829
            refine WP_iload dX2_weigh_33 rfl ?_
            refine WP_iload dX2_weigh_35 rfl ?_
            refine WQ_icmp_gt 249 dX2_weigh_37 rfl (fun c11829 => ?_) (fun c11829 => ?_)
            · refine WP_iinc (ls' := [(0, _), (1, _), (2, _), (3, _), (4, _), (5, _), (6, _)]) dX2_weigh_249 rfl (by decide) rfl ?_
              have hv11831 : (i11798 + Int32.ofInt (1)).toInt = i11798.toInt + (1) := ia_n rfl (by omega) (by omega)
              generalize i11798 + Int32.ofInt (1) = v11831 at hv11831 ⊢
              refine WP_goto 18 dX2_weigh_252 rfl ?_
              exact WP_sub (fc rfl (fc rfl (fc rfl (fc rfl (fc rfl (fc rfl fn)))))) (ihlp18_11809 v11831 I11816 hI11816 fiI11816 w11818 ew11818 w11819 ew11819 w11820 ew11820 w11821 ew11821 w11822 ew11822 w11823 ew11823 w11824 ew11824 w11825 ew11825 w11826 ew11826 (by omega) (by omega) (by omega) (by omega) (by omega) (by omega) (by omega) (by omega) (by omega) (by omega) (by omega) (by omega) PA_I11816_11816 (by omega))
            · refine WP_iload_n dX2_weigh_40 rfl ?_
              refine WP_iload dX2_weigh_41 rfl ?_
              refine WQ_isub dX2_weigh_43 (by omega) (by omega) (fun v11832 hv11832 => ?_)
              refine WP_iload dX2_weigh_44 rfl ?_
              refine WQ_iadd dX2_weigh_46 (by omega) (by omega) (fun v11833 hv11833 => ?_)
              refine WP_istore (ls' := [(0, _), (1, _), (2, _), (3, _), (4, _), (5, _), (6, _), (7, _)]) dX2_weigh_47 (by decide) rfl ?_
              refine WP_aload_n dX2_weigh_49 rfl ?_
              refine WP_getr dX2_weigh_50 fX2_12 rfl (lyx_is hy 43 2 rfl) (rfx hr 43 3 44 (by decide)) ?_
              refine WQ_getim dX2_weigh_53 fX2_95 rfl (lyx_is hy 44 6 rfl) ew11821 ?_
              refine WP_aload_n dX2_weigh_56 rfl ?_
              refine WP_getr dX2_weigh_57 fX2_12 rfl (lyx_is hy 43 2 rfl) (rfx hr 43 3 44 (by decide)) ?_
              refine WQ_getim dX2_weigh_60 fX2_98 rfl (lyx_is hy 44 6 rfl) ew11818 ?_
              refine WP_iload dX2_weigh_63 rfl ?_
              refine WQ_isub dX2_weigh_65 (by omega) (by omega) (fun v11834 hv11834 => ?_)
              refine WQ_min dX2_weigh_66 lX2_101 ⟨by decide, Nat.le_of_ble_eq_true rfl⟩ (fun v11835 av11835 bv11835 cv11835 => ?_)
              refine WP_istore (ls' := [(0, _), (1, _), (2, _), (3, _), (4, _), (5, _), (6, _), (7, _), (8, _)]) dX2_weigh_69 (by decide) rfl ?_
              refine WP_iload dX2_weigh_71 rfl ?_
              refine WP_iload dX2_weigh_73 rfl ?_
              refine WQ_iadd dX2_weigh_75 (by omega) (by omega) (fun v11836 hv11836 => ?_)
              refine WP_aload_n dX2_weigh_76 rfl ?_
              refine WP_getr dX2_weigh_77 fX2_12 rfl (lyx_is hy 43 2 rfl) (rfx hr 43 3 44 (by decide)) ?_
              refine WQ_geti dX2_weigh_80 fX2_133 rfl (lyx_is hy 44 6 rfl) (BT_get hI11816.1 44 2 3 (0) (0) (99) (by decide) 2 (by decide) (by decide)) (fun v11837 ev11837 av11837 bv11837 => ?_)
              refine WQ_imulb (6) (99) dX2_weigh_83 ⟨by omega, by omega⟩ ⟨by omega, by omega⟩ (by decide) (fun v11838 pv11838 av11838 bv11838 cv11838 => ?_)
              refine WP_aload_n dX2_weigh_84 rfl ?_
              refine WQ_getim dX2_weigh_85 fX2_67 rfl (lyx_is hy 43 2 rfl) ew11826 ?_
              refine WQ_iadd dX2_weigh_88 (by omega) (by omega) (fun v11839 hv11839 => ?_)
              refine WP_istore (ls' := [(0, _), (1, _), (2, _), (3, _), (4, _), (5, _), (6, _), (7, _), (8, _), (9, _)]) dX2_weigh_89 (by decide) rfl ?_
              refine WP_iload dX2_weigh_91 rfl ?_
              refine WQ_iconst (5) (5) dX2_weigh_93 rfl rfl (fun v11840 hv11840 => ?_)
              refine WQ_icmp_gt 243 dX2_weigh_94 rfl (fun c11840 => ?_) (fun c11840 => ?_)
              · refine WP_iinc (ls' := [(0, _), (1, _), (2, _), (3, _), (4, _), (5, _), (6, _), (7, _), (8, _), (9, _)]) dX2_weigh_243 rfl (by decide) rfl ?_
                have hv11842 : (i11815 + Int32.ofInt (1)).toInt = i11815.toInt + (1) := ia_n rfl (by omega) (by omega)
                generalize i11815 + Int32.ofInt (1) = v11842 at hv11842 ⊢
                refine WP_goto 33 dX2_weigh_246 rfl ?_
                exact WP_sub (fc rfl (fc rfl (fc rfl (fc rfl (fc rfl (fc rfl (fc rfl fn))))))) (ihlp33_11826 v11842 I11816 hI11816 fiI11816 w11818 ew11818 w11819 ew11819 w11820 ew11820 w11821 ew11821 w11822 ew11822 w11823 ew11823 w11824 ew11824 w11825 ew11825 w11826 ew11826 (by omega) (by omega) (by omega) (by omega) (by omega) (by omega) (by omega) (by omega) (by omega) (by omega) (by omega) (by omega) PA_I11816_11816 (by omega))
              · refine WP_iload dX2_weigh_97 rfl ?_
                refine WP_aload_n dX2_weigh_99 rfl ?_
                refine WQ_getim dX2_weigh_100 fX2_127 rfl (lyx_is hy 43 2 rfl) ew11824 ?_
                refine WQ_icmp_gt 109 dX2_weigh_103 rfl (fun c11842 => ?_) (fun c11842 => ?_)
                · refine WP_iload_n dX2_weigh_109 rfl ?_
                  refine WP_iload dX2_weigh_110 rfl ?_
                  refine WP_aload_n dX2_weigh_112 rfl ?_
                  refine WP_getr dX2_weigh_113 fX2_12 rfl (lyx_is hy 43 2 rfl) (rfx hr 43 3 44 (by decide)) ?_
                  refine WQ_getim dX2_weigh_116 fX2_107 rfl (lyx_is hy 44 6 rfl) ew11820 ?_
                  refine WQ_imulb (2) (20) dX2_weigh_119 ⟨by omega, by omega⟩ ⟨by omega, by omega⟩ (by decide) (fun v11844 pv11844 av11844 bv11844 cv11844 => ?_)
                  refine WQ_isub dX2_weigh_120 (by omega) (by omega) (fun v11845 hv11845 => ?_)
                  refine WP_istore (ls' := [(0, _), (1, _), (2, _), (3, _), (4, _), (5, _), (6, _), (7, _), (8, _), (9, _), (10, _)]) dX2_weigh_121 (by decide) rfl ?_
                  refine WQ_iconst (0) (0) dX2_weigh_123 rfl rfl (fun v11846 hv11846 => ?_)
                  refine WP_istore (ls' := [(0, _), (1, _), (2, _), (3, _), (4, _), (5, _), (6, _), (7, _), (8, _), (9, _), (10, _), (11, _)]) dX2_weigh_124 (by decide) rfl ?_
                  have lp126_11859 : ∀ (mz : Nat) (i11847 : Int32) (i11848 : Int32) (I11849 : pI), XI g n L I11849 → fz 74 g [43] I I11849 → ∀ (w11851 : Int32), I11849 (ad g 44) 1 = w11851 → ∀ (w11852 : Int32), I11849 (ad g 44) 3 = w11852 → ∀ (w11853 : Int32), I11849 (ad g 44) 4 = w11853 → ∀ (w11854 : Int32), I11849 (ad g 44) 5 = w11854 → ∀ (w11855 : Int32), I11849 (ad g 44) 6 = w11855 → ∀ (w11856 : Int32), I11849 (ad g 44) 7 = w11856 → ∀ (w11857 : Int32), I11849 (ad g 43) 0 = w11857 → ∀ (w11858 : Int32), I11849 (ad g 43) 1 = w11858 → ∀ (w11859 : Int32), I11849 (ad g 43) 8 = w11859 → -60 ≤ i11847.toInt → i11847.toInt ≤ 60 → 0 ≤ i11848.toInt → i11848.toInt ≤ 4 → w11851.toInt = w11777.toInt → w11852.toInt = w11778.toInt → w11853.toInt = w11779.toInt → w11854.toInt = w11780.toInt → w11855.toInt = w11781.toInt → w11856.toInt = w11782.toInt → w11859.toInt = w11783.toInt → -1 ≤ w11857.toInt → w11857.toInt ≤ 594 + K → ((i11798.toInt = 0 ∧ i11815.toInt = 0 ∧ i11848.toInt = 0) ∨ 0 ≤ w11857.toInt) → (i11798.toInt ≠ 0 ∨ i11848.toInt ≠ 0 ∨ i11847.toInt = co.toInt) → (w11857.toInt < 0 ∨ AOKd (I (ad g 44)) co.toInt st.toInt w11858.toInt) → (i11847.toInt + i11798.toInt * w11779.toInt + i11848.toInt * w11778.toInt = co.toInt) → (5 - i11848.toInt).toNat < mz → WP g mX2_weigh 126 [(0, .ref (ad g 43)), (1, .int co), (2, .int st), (3, .int da), (4, .int v11784), (5, .int i11798), (6, .int i11815), (7, .int v11833), (8, .int v11835), (9, .int v11839), (10, .int i11847), (11, .int i11848)] [] I11849 J R (fun r I' J' R' => (XI g n L I' ∧ R' = R ∧ fz 74 g [43] I I' ∧ J' = J ∧ (0 ≤ (I' (ad g 43) 0).toInt ∧ (I' (ad g 43) 0).toInt ≤ 594 + K ∧ AOKd (I (ad g 44)) co.toInt st.toInt (I' (ad g 43) 1).toInt ∧ I' (ad g 43) 8 = I (ad g 43) 8)) ∧ r = none) := by
                    intro mz
                    induction mz with
                    | zero =>
                      intro i11847 i11848 I11849 hI11849 fiI11849 w11851 ew11851 w11852 ew11852 w11853 ew11853 w11854 ew11854 w11855 ew11855 w11856 ew11856 w11857 ew11857 w11858 ew11858 w11859 ew11859 ai11847 bi11847 ai11848 bi11848 j0_I11849_11849 j1_I11849_11849 j2_I11849_11849 j3_I11849_11849 j4_I11849_11849 j5_I11849_11849 j6_I11849_11849 j7_I11849_11849 j8_I11849_11849 j9_I11849_11849 j10_I11849_11849 PA_I11849_11849 PL_I11849_11849 hmlp126_11859
                      exact absurd hmlp126_11859 (Nat.not_lt_zero _)
                    | succ mz ihlp126_11859 =>
                      intro i11847 i11848 I11849 hI11849 fiI11849 w11851 ew11851 w11852 ew11852 w11853 ew11853 w11854 ew11854 w11855 ew11855 w11856 ew11856 w11857 ew11857 w11858 ew11858 w11859 ew11859 ai11847 bi11847 ai11848 bi11848 j0_I11849_11849 j1_I11849_11849 j2_I11849_11849 j3_I11849_11849 j4_I11849_11849 j5_I11849_11849 j6_I11849_11849 j7_I11849_11849 j8_I11849_11849 j9_I11849_11849 j10_I11849_11849 PA_I11849_11849 PL_I11849_11849 hmlp126_11859
                      have bw11851 := BT_get hI11849.1 44 1 2 (0) (0) (3) (by decide) 1 (by decide) (by decide)
                      rw [ew11851] at bw11851
                      have bw11852 := BT_get hI11849.1 44 3 4 (0) (0) (20) (by decide) 3 (by decide) (by decide)
                      rw [ew11852] at bw11852
                      have bw11853 := BT_get hI11849.1 44 4 5 (0) (0) (20) (by decide) 4 (by decide) (by decide)
                      rw [ew11853] at bw11853
                      have bw11854 := BT_get hI11849.1 44 5 6 (0) (0) (3) (by decide) 5 (by decide) (by decide)
                      rw [ew11854] at bw11854
                      have bw11855 := BT_get hI11849.1 44 6 7 (0) (0) (2) (by decide) 6 (by decide) (by decide)
                      rw [ew11855] at bw11855
                      have bw11856 := BT_get hI11849.1 44 7 8 (0) (0) (1) (by decide) 7 (by decide) (by decide)
                      rw [ew11856] at bw11856
                      have bw11858 := BT_get hI11849.1 43 1 2 (0) (0) (47) (by decide) 1 (by decide) (by decide)
                      rw [ew11858] at bw11858
                      have e11861 : I11849 (ad g 1) 1 = L := hI11849.2
                      have b11862 := BT_get hI11849.1 1 1 2 (0) (0) (900) (by decide) 1 (by decide) (by decide)
                      rw [e11861] at b11862
                      refine WP_iload dX2_weigh_126 rfl ?_
                      refine WP_iload dX2_weigh_128 rfl ?_
                      refine WQ_icmp_gt 243 dX2_weigh_130 rfl (fun c11862 => ?_) (fun c11862 => ?_)
                      · refine WP_iinc (ls' := [(0, _), (1, _), (2, _), (3, _), (4, _), (5, _), (6, _), (7, _), (8, _), (9, _), (10, _), (11, _)]) dX2_weigh_243 rfl (by decide) rfl ?_
                        have hv11864 : (i11815 + Int32.ofInt (1)).toInt = i11815.toInt + (1) := ia_n rfl (by omega) (by omega)
                        generalize i11815 + Int32.ofInt (1) = v11864 at hv11864 ⊢
                        refine WP_goto 33 dX2_weigh_246 rfl ?_
                        exact WP_sub (fc rfl (fc rfl (fc rfl (fc rfl (fc rfl (fc rfl (fc rfl fn))))))) (ihlp33_11826 v11864 I11849 hI11849 fiI11849 w11851 ew11851 w11852 ew11852 w11853 ew11853 w11854 ew11854 w11855 ew11855 w11856 ew11856 w11857 ew11857 w11858 ew11858 w11859 ew11859 (by omega) (by omega) (by omega) (by omega) (by omega) (by omega) (by omega) (by omega) (by omega) (by omega) (by omega) (by omega) PA_I11849_11849 (by omega))
                      · refine WP_iload dX2_weigh_133 rfl ?_
                        refine WQ_if_lt 243 dX2_weigh_135 rfl (fun c11864 => ?_) (fun c11864 => ?_)
                        · refine WP_iinc (ls' := [(0, _), (1, _), (2, _), (3, _), (4, _), (5, _), (6, _), (7, _), (8, _), (9, _), (10, _), (11, _)]) dX2_weigh_243 rfl (by decide) rfl ?_
                          have hv11866 : (i11815 + Int32.ofInt (1)).toInt = i11815.toInt + (1) := ia_n rfl (by omega) (by omega)
                          generalize i11815 + Int32.ofInt (1) = v11866 at hv11866 ⊢
                          refine WP_goto 33 dX2_weigh_246 rfl ?_
                          exact WP_sub (fc rfl (fc rfl (fc rfl (fc rfl (fc rfl (fc rfl (fc rfl fn))))))) (ihlp33_11826 v11866 I11849 hI11849 fiI11849 w11851 ew11851 w11852 ew11852 w11853 ew11853 w11854 ew11854 w11855 ew11855 w11856 ew11856 w11857 ew11857 w11858 ew11858 w11859 ew11859 (by omega) (by omega) (by omega) (by omega) (by omega) (by omega) (by omega) (by omega) (by omega) (by omega) (by omega) (by omega) PA_I11849_11849 (by omega))
                        · refine WP_aload_n dX2_weigh_138 rfl ?_
                          refine WP_getr dX2_weigh_139 fX2_32 rfl (lyx_is hy 43 2 rfl) (rfx hr 43 2 5 (by decide)) ?_
                          refine WP_iload dX2_weigh_142 rfl ?_
                          refine WP_iload dX2_weigh_144 rfl ?_
                          refine WP_iload_n dX2_weigh_146 rfl ?_
                          refine WP_callV3 (k := 0) dX2_weigh_147 ⟨⟨⟨by decide, by decide⟩, zX0_coinsBehind⟩, lX2_116, by decide, rfl, vX0_coinsBehind.1, vX0_coinsBehind.2⟩ (lyx_is hy 5 0 rfl) (sx_cbx hy hr hI11849 i11847 v11833 da (by omega) (by omega) (by omega) (by omega) (by omega) (by omega)) (Nat.le_of_ble_eq_true rfl) ?_
                          intro r Ia Ja Ra hq
                          obtain ⟨⟨ea, eb, ec⟩, v11867, rfl, av11867, bv11867, cv11867⟩ := hq
                          show WP _ _ _ _ (.int _ :: _) _ _ _ _
                          rw [ea, eb, ec]
                          clear ea eb ec Ia Ja Ra
                          refine WP_istore (ls' := [(0, _), (1, _), (2, _), (3, _), (4, _), (5, _), (6, _), (7, _), (8, _), (9, _), (10, _), (11, _), (12, _)]) dX2_weigh_150 (by decide) rfl ?_
                          refine WP_aload_n dX2_weigh_152 rfl ?_
                          refine WP_getr dX2_weigh_153 fX2_29 rfl (lyx_is hy 43 2 rfl) hL ?_
                          refine WP_aload_n dX2_weigh_156 rfl ?_
                          refine WP_getr dX2_weigh_157 fX2_32 rfl (lyx_is hy 43 2 rfl) (rfx hr 43 2 5 (by decide)) ?_
                          refine WP_getr dX2_weigh_160 fX2_113 rfl (lyx_is hy 5 0 rfl) (rfx hr 5 5 26 (by decide)) ?_
                          refine WP_iload dX2_weigh_163 rfl ?_
                          refine WQ_iald dX2_weigh_165 (lyx_is hy 26 13 rfl) (lyx_n hy 26 6 rfl) (by omega) (by omega) (fun q hq => BT_get hI11849.1 26 0 6 (0) (0) (5) (by decide) q (Nat.zero_le _) hq) (fun v11868 av11868 bv11868 ev11868 => ?_)
                          refine WQ_bipush (61) (61) dX2_weigh_166 rfl rfl (fun v11869 hv11869 => ?_)
                          refine WQ_imulk (61) dX2_weigh_168 hv11869 (by omega) (by omega) (fun v11870 hv11870 => ?_)
                          refine WP_iload dX2_weigh_169 rfl ?_
                          refine WQ_iadd dX2_weigh_171 (by omega) (by omega) (fun v11871 hv11871 => ?_)
                          have acv11872 : ACT (I (ad g 44)) st.toInt co.toInt i11798.toInt i11815.toInt i11848.toInt v11833.toInt i11847.toInt := ⟨by omega, by rw [ew11781]; omega, by omega, by rw [ew11782, ew11777]; omega, by omega, by rw [ew11780]; omega, by rw [ew11777]; omega, by omega, by omega, by omega, by rw [ew11779, ew11778]; exact PL_I11849_11849⟩
                          have s1v11872 : SB (I (ad g 26)) v11833.toInt = v11868.toInt := by unfold SB; rw [← fz_at fiI11849 26 (by decide) (by decide), ← cl (x := v11833) (n := v11833.toInt.toNat) (by omega), ev11868]
                          have s2v11872 := cv11867
                          rw [fz_at fiI11849 24 (by decide) (by decide), fz_at fiI11849 25 (by decide) (by decide)] at s2v11872
                          have s3v11872 := hW _ _ _ _ _ acv11872
                          rw [s1v11872, ← s2v11872, show (61 * v11868.toInt + v11867.toInt).toNat = v11871.toInt.toNat by omega] at s3v11872
                          refine WQ_ialdq (q := v11871.toInt.toNat) dX2_weigh_172 (lyx_is hy 47 13 rfl) (lyx_n hy 47 366 rfl) (by omega) (by omega) (by omega) (by rw [fz_at fiI11849 47 (by decide) (by decide)]; exact s3v11872) (fun v11872 av11872 bv11872 ev11872 => ?_)
                          refine WP_istore (ls' := [(0, _), (1, _), (2, _), (3, _), (4, _), (5, _), (6, _), (7, _), (8, _), (9, _), (10, _), (11, _), (12, _), (13, _)]) dX2_weigh_173 (by decide) rfl ?_
                          refine WP_iload dX2_weigh_175 rfl ?_
                          refine WP_iload dX2_weigh_177 rfl ?_
                          refine WQ_iadd dX2_weigh_179 (by omega) (by omega) (fun v11873 hv11873 => ?_)
                          refine WP_aload_n dX2_weigh_180 rfl ?_
                          refine WP_getr dX2_weigh_181 fX2_12 rfl (lyx_is hy 43 2 rfl) (rfx hr 43 3 44 (by decide)) ?_
                          refine WQ_geti dX2_weigh_184 fX2_133 rfl (lyx_is hy 44 6 rfl) (BT_get hI11849.1 44 2 3 (0) (0) (99) (by decide) 2 (by decide) (by decide)) (fun v11874 ev11874 av11874 bv11874 => ?_)
                          refine WQ_imulb (6) (99) dX2_weigh_187 ⟨by omega, by omega⟩ ⟨by omega, by omega⟩ (by decide) (fun v11875 pv11875 av11875 bv11875 cv11875 => ?_)
                          refine WP_iload dX2_weigh_188 rfl ?_
                          refine WQ_iadd dX2_weigh_190 (by omega) (by omega) (fun v11876 hv11876 => ?_)
                          refine WP_istore (ls' := [(0, _), (1, _), (2, _), (3, _), (4, _), (5, _), (6, _), (7, _), (8, _), (9, _), (10, _), (11, _), (12, _), (13, _), (14, _)]) dX2_weigh_191 (by decide) rfl ?_
                          refine WP_iload dX2_weigh_193 rfl ?_
                          refine WP_aload_n dX2_weigh_195 rfl ?_
                          refine WQ_getim dX2_weigh_196 fX2_127 rfl (lyx_is hy 43 2 rfl) ew11857 ?_
                          refine WQ_icmp_le 225 dX2_weigh_199 rfl (fun c11876 => ?_) (fun c11876 => ?_)
                          · refine WP_iload dX2_weigh_225 rfl ?_
                            refine WP_aload_n dX2_weigh_227 rfl ?_
                            refine WP_getr dX2_weigh_228 fX2_12 rfl (lyx_is hy 43 2 rfl) (rfx hr 43 3 44 (by decide)) ?_
                            refine WQ_getim dX2_weigh_231 fX2_110 rfl (lyx_is hy 44 6 rfl) ew11852 ?_
                            refine WQ_isub dX2_weigh_234 (by omega) (by omega) (fun v11878 hv11878 => ?_)
                            refine WP_istore (ls' := [(0, _), (1, _), (2, _), (3, _), (4, _), (5, _), (6, _), (7, _), (8, _), (9, _), (10, _), (11, _), (12, _), (13, _), (14, _)]) dX2_weigh_235 (by decide) rfl ?_
                            refine WP_iinc (ls' := [(0, _), (1, _), (2, _), (3, _), (4, _), (5, _), (6, _), (7, _), (8, _), (9, _), (10, _), (11, _), (12, _), (13, _), (14, _)]) dX2_weigh_237 rfl (by decide) rfl ?_
                            have hv11879 : (i11848 + Int32.ofInt (1)).toInt = i11848.toInt + (1) := ia_n rfl (by omega) (by omega)
                            generalize i11848 + Int32.ofInt (1) = v11879 at hv11879 ⊢
                            refine WP_goto 126 dX2_weigh_240 rfl ?_
                            exact WP_sub (fc rfl (fc rfl (fc rfl (fc rfl (fc rfl (fc rfl (fc rfl (fc rfl (fc rfl (fc rfl (fc rfl (fc rfl fn)))))))))))) (ihlp126_11859 v11878 v11879 I11849 hI11849 fiI11849 w11851 ew11851 w11852 ew11852 w11853 ew11853 w11854 ew11854 w11855 ew11855 w11856 ew11856 w11857 ew11857 w11858 ew11858 w11859 ew11859 (by omega) (by omega) (by omega) (by omega) (by omega) (by omega) (by omega) (by omega) (by omega) (by omega) (by omega) (by omega) (by omega) (by omega) (by omega) PA_I11849_11849 (by rw [hv11879, Int.add_mul, Int.one_mul]; have hq := PL_I11849_11849; omega) (by omega))
                          · refine WP_aload_n dX2_weigh_202 rfl ?_
                            refine WP_iload dX2_weigh_203 rfl ?_
                            refine WQ_puti dX2_weigh_205 fX2_127 rfl rfl (lyx_is hy 43 2 rfl) (fun I11880 eI11880 => ?_)
                            have hI11880 : XI g n L I11880 := by rw [eI11880]; exact (xi_f0 hy hI11849 (c := 43) (by decide) (Or.inl (by decide)) (by decide))
                            have e11881 : I11880 (ad g 44) 1 = w11851 := by rw [eI11880, pp_ne _ _ (Or.inl (lyx_ne hy (by decide) (by decide) (by decide)))]; exact ew11851
                            have e11882 : I11880 (ad g 44) 3 = w11852 := by rw [eI11880, pp_ne _ _ (Or.inl (lyx_ne hy (by decide) (by decide) (by decide)))]; exact ew11852
                            have e11883 : I11880 (ad g 44) 4 = w11853 := by rw [eI11880, pp_ne _ _ (Or.inl (lyx_ne hy (by decide) (by decide) (by decide)))]; exact ew11853
                            have e11884 : I11880 (ad g 44) 5 = w11854 := by rw [eI11880, pp_ne _ _ (Or.inl (lyx_ne hy (by decide) (by decide) (by decide)))]; exact ew11854
                            have e11885 : I11880 (ad g 44) 6 = w11855 := by rw [eI11880, pp_ne _ _ (Or.inl (lyx_ne hy (by decide) (by decide) (by decide)))]; exact ew11855
                            have e11886 : I11880 (ad g 44) 7 = w11856 := by rw [eI11880, pp_ne _ _ (Or.inl (lyx_ne hy (by decide) (by decide) (by decide)))]; exact ew11856
                            have e11887 : I11880 (ad g 43) 1 = w11858 := by rw [eI11880, pp_ne _ _ (Or.inr (by decide))]; exact ew11858
                            have e11888 : I11880 (ad g 43) 8 = w11859 := by rw [eI11880, pp_ne _ _ (Or.inr (by decide))]; exact ew11859
                            have e11889 : I11880 (ad g 1) 1 = L := by rw [eI11880, pp_ne _ _ (Or.inl (lyx_ne hy (by decide) (by decide) (by decide)))]; exact e11861
                            have e11890 : I11880 (ad g 26) v11833.toNatClampNeg = v11868 := by rw [eI11880, pp_ne _ _ (Or.inl (lyx_ne hy (by decide) (by decide) (by decide)))]; exact ev11868
                            have e11891 : I11880 (ad g 44) 2 = v11874 := by rw [eI11880, pp_ne _ _ (Or.inl (lyx_ne hy (by decide) (by decide) (by decide)))]; exact ev11874
                            have e11892 : I11880 (ad g 43) 0 = v11876 := by rw [eI11880, pp_self]
                            have fr11893 : fz 74 g [43] I I11880 := by rw [eI11880]; exact fzx_pp hy fiI11849 (by decide) (by decide)
                            clear eI11880
                            refine WP_aload_n dX2_weigh_208 rfl ?_
                            refine WQ_bipush (16) (16) dX2_weigh_209 rfl rfl (fun v11894 hv11894 => ?_)
                            refine WP_iload dX2_weigh_211 rfl ?_
                            refine WQ_imulK (16) dX2_weigh_213 hv11894 (by omega) (by omega) (fun v11895 hv11895 => ?_)
                            refine WQ_iconst (4) (4) dX2_weigh_214 rfl rfl (fun v11896 hv11896 => ?_)
                            refine WP_iload dX2_weigh_215 rfl ?_
                            refine WQ_imulK (4) dX2_weigh_217 hv11896 (by omega) (by omega) (fun v11897 hv11897 => ?_)
                            refine WQ_iadd dX2_weigh_218 (by omega) (by omega) (fun v11898 hv11898 => ?_)
                            refine WP_iload dX2_weigh_219 rfl ?_
                            refine WQ_iadd dX2_weigh_221 (by omega) (by omega) (fun v11899 hv11899 => ?_)
                            refine WQ_puti dX2_weigh_222 fX2_75 rfl rfl (lyx_is hy 43 2 rfl) (fun I11900 eI11900 => ?_)
                            have hI11900 : XI g n L I11900 := by rw [eI11900]; exact (xi_f hy hI11880 (c := 43) (0) (0) (47) (by decide) (Or.inl (by decide)) (by decide) (by omega) (by omega))
                            have e11901 : I11900 (ad g 44) 1 = w11851 := by rw [eI11900, pp_ne _ _ (Or.inl (lyx_ne hy (by decide) (by decide) (by decide)))]; exact e11881
                            have e11902 : I11900 (ad g 44) 3 = w11852 := by rw [eI11900, pp_ne _ _ (Or.inl (lyx_ne hy (by decide) (by decide) (by decide)))]; exact e11882
                            have e11903 : I11900 (ad g 44) 4 = w11853 := by rw [eI11900, pp_ne _ _ (Or.inl (lyx_ne hy (by decide) (by decide) (by decide)))]; exact e11883
                            have e11904 : I11900 (ad g 44) 5 = w11854 := by rw [eI11900, pp_ne _ _ (Or.inl (lyx_ne hy (by decide) (by decide) (by decide)))]; exact e11884
                            have e11905 : I11900 (ad g 44) 6 = w11855 := by rw [eI11900, pp_ne _ _ (Or.inl (lyx_ne hy (by decide) (by decide) (by decide)))]; exact e11885
                            have e11906 : I11900 (ad g 44) 7 = w11856 := by rw [eI11900, pp_ne _ _ (Or.inl (lyx_ne hy (by decide) (by decide) (by decide)))]; exact e11886
                            have e11907 : I11900 (ad g 43) 8 = w11859 := by rw [eI11900, pp_ne _ _ (Or.inr (by decide))]; exact e11888
                            have e11908 : I11900 (ad g 1) 1 = L := by rw [eI11900, pp_ne _ _ (Or.inl (lyx_ne hy (by decide) (by decide) (by decide)))]; exact e11889
                            have e11909 : I11900 (ad g 26) v11833.toNatClampNeg = v11868 := by rw [eI11900, pp_ne _ _ (Or.inl (lyx_ne hy (by decide) (by decide) (by decide)))]; exact e11890
                            have e11910 : I11900 (ad g 44) 2 = v11874 := by rw [eI11900, pp_ne _ _ (Or.inl (lyx_ne hy (by decide) (by decide) (by decide)))]; exact e11891
                            have e11911 : I11900 (ad g 43) 0 = v11876 := by rw [eI11900, pp_ne _ _ (Or.inr (by decide))]; exact e11892
                            have e11912 : I11900 (ad g 43) 1 = v11899 := by rw [eI11900, pp_self]
                            have fr11913 : fz 74 g [43] I I11900 := by rw [eI11900]; exact fzx_pp hy fr11893 (by decide) (by decide)
                            have AI11900 : v11876.toInt < 0 ∨ AOKd (I (ad g 44)) co.toInt st.toInt v11899.toInt := Or.inr (AOK_set acv11872 (by omega) (by omega) (by omega) (by omega) (by omega))
                            clear eI11900
                            refine WP_iload dX2_weigh_225 rfl ?_
                            refine WP_aload_n dX2_weigh_227 rfl ?_
                            refine WP_getr dX2_weigh_228 fX2_12 rfl (lyx_is hy 43 2 rfl) (rfx hr 43 3 44 (by decide)) ?_
                            refine WQ_getim dX2_weigh_231 fX2_110 rfl (lyx_is hy 44 6 rfl) e11902 ?_
                            refine WQ_isub dX2_weigh_234 (by omega) (by omega) (fun v11914 hv11914 => ?_)
                            refine WP_istore (ls' := [(0, _), (1, _), (2, _), (3, _), (4, _), (5, _), (6, _), (7, _), (8, _), (9, _), (10, _), (11, _), (12, _), (13, _), (14, _)]) dX2_weigh_235 (by decide) rfl ?_
                            refine WP_iinc (ls' := [(0, _), (1, _), (2, _), (3, _), (4, _), (5, _), (6, _), (7, _), (8, _), (9, _), (10, _), (11, _), (12, _), (13, _), (14, _)]) dX2_weigh_237 rfl (by decide) rfl ?_
                            have hv11915 : (i11848 + Int32.ofInt (1)).toInt = i11848.toInt + (1) := ia_n rfl (by omega) (by omega)
                            generalize i11848 + Int32.ofInt (1) = v11915 at hv11915 ⊢
                            refine WP_goto 126 dX2_weigh_240 rfl ?_
                            exact WP_sub (fc rfl (fc rfl (fc rfl (fc rfl (fc rfl (fc rfl (fc rfl (fc rfl (fc rfl (fc rfl (fc rfl (fc rfl fn)))))))))))) (ihlp126_11859 v11914 v11915 I11900 hI11900 fr11913 w11851 e11901 w11852 e11902 w11853 e11903 w11854 e11904 w11855 e11905 w11856 e11906 v11876 e11911 v11899 e11912 w11859 e11907 (by omega) (by omega) (by omega) (by omega) (by omega) (by omega) (by omega) (by omega) (by omega) (by omega) (by omega) (by omega) (by omega) (by omega) (by omega) AI11900 (by rw [hv11915, Int.add_mul, Int.one_mul]; have hq := PL_I11849_11849; omega) (by omega))
                  exact WP_sub (fc rfl (fc rfl (fc rfl (fc rfl (fc rfl (fc rfl (fc rfl (fc rfl (fc rfl (fc rfl (fc rfl (fc rfl fn)))))))))))) (lp126_11859 _ v11845 v11846 I11816 hI11816 fiI11816 w11818 ew11818 w11819 ew11819 w11820 ew11820 w11821 ew11821 w11822 ew11822 w11823 ew11823 w11824 ew11824 w11825 ew11825 w11826 ew11826 (by omega) (by omega) (by omega) (by omega) (by omega) (by omega) (by omega) (by omega) (by omega) (by omega) (by omega) (by omega) (by omega) (by omega) (by omega) PA_I11816_11816 (by have hq := pv11844; rw [show w11820.toInt = w11779.toInt by omega] at hq; rw [hv11846, Int.zero_mul]; omega) (Nat.lt_succ_self _))
                · refine WP_goto 243 dX2_weigh_106 rfl ?_
                  refine WP_iinc (ls' := [(0, _), (1, _), (2, _), (3, _), (4, _), (5, _), (6, _), (7, _), (8, _), (9, _)]) dX2_weigh_243 rfl (by decide) rfl ?_
                  have hv11916 : (i11815 + Int32.ofInt (1)).toInt = i11815.toInt + (1) := ia_n rfl (by omega) (by omega)
                  generalize i11815 + Int32.ofInt (1) = v11916 at hv11916 ⊢
                  refine WP_goto 33 dX2_weigh_246 rfl ?_
                  exact WP_sub (fc rfl (fc rfl (fc rfl (fc rfl (fc rfl (fc rfl (fc rfl fn))))))) (ihlp33_11826 v11916 I11816 hI11816 fiI11816 w11818 ew11818 w11819 ew11819 w11820 ew11820 w11821 ew11821 w11822 ew11822 w11823 ew11823 w11824 ew11824 w11825 ew11825 w11826 ew11826 (by omega) (by omega) (by omega) (by omega) (by omega) (by omega) (by omega) (by omega) (by omega) (by omega) (by omega) (by omega) PA_I11816_11816 (by omega))
        exact WP_sub (fc rfl (fc rfl (fc rfl (fc rfl (fc rfl (fc rfl (fc rfl fn))))))) (lp33_11826 _ v11814 I11799 hI11799 fiI11799 w11801 ew11801 w11802 ew11802 w11803 ew11803 w11804 ew11804 w11805 ew11805 w11806 ew11806 w11807 ew11807 w11808 ew11808 w11809 ew11809 (by omega) (by omega) (by omega) (by omega) (by omega) (by omega) (by omega) (by omega) (by omega) (by omega) (by omega) (by omega) PA_I11799_11799 (Nat.lt_succ_self _))
  obtain ⟨w11917, ew11917⟩ : ∃ w : Int32, I11786 (ad g 43) 1 = w := ⟨_, rfl⟩
  have bw11917 := BT_get hI11786.1 43 1 2 (0) (0) (47) (by decide) 1 (by decide) (by decide)
  rw [ew11917] at bw11917
  exact WP_sub (fc rfl (fc rfl (fc rfl (fc rfl (fc rfl (fc rfl fn)))))) (lp18_11809 _ v11797 I11786 hI11786 fr11796 w11777 e11788 w11778 e11789 w11779 e11790 w11780 e11791 w11781 e11792 w11782 e11793 v11785 e11795 w11917 ew11917 w11783 e11794 (by omega) (by omega) (by omega) (by omega) (by omega) (by omega) (by omega) (by omega) (by omega) (by omega) (by omega) (by omega) (Or.inl (by omega)) (Nat.lt_succ_self _))
set_option maxHeartbeats 4000000 in
set_option maxRecDepth 100000 in
theorem sx_weighx_48 {g : GG} {n : Int} {L : Int32} (hy : LyX g)  {I : pI} {J : pJ} {R : pR} (hr : RfX g R) (hI : XI g n L I) (co : Int32) (st : Int32) (da : Int32) (co_lo : 0 ≤ co.toInt) (co_hi : co.toInt ≤ 60) (st_lo : 0 ≤ st.toInt) (st_hi : st.toInt ≤ 5) (da_lo : 0 ≤ da.toInt) (da_hi : da.toInt ≤ 6) {K : Int} (hK : 0 ≤ K ∧ K ≤ 16632) (hL : R (ad g 43) 7 = some (ad g 48)) (hml : 0 ≤ (I (ad g 43) 8).toInt ∧ (I (ad g 43) 8).toInt ≤ K) (hW : HW (I (ad g 44)) (I (ad g 48)) (I (ad g 24)) (I (ad g 25)) (I (ad g 26)) K co.toInt st.toInt da.toInt) : SP g mX2_weigh [.ref (ad g 43), .int co, .int st, .int da] I J R (fun r I' J' R' => (XI g n L I' ∧ R' = R ∧ fz 74 g [43] I I' ∧ J' = J ∧ (0 ≤ (I' (ad g 43) 0).toInt ∧ (I' (ad g 43) 0).toInt ≤ 594 + K ∧ AOKd (I (ad g 44)) co.toInt st.toInt (I' (ad g 43) 1).toInt ∧ I' (ad g 43) 8 = I (ad g 43) 8)) ∧ r = none) := by
  refine SP_of ⟨by decide, rfl⟩ (Nat.le_of_ble_eq_true rfl) ?_
  have e11918 : I (ad g 1) 1 = L := hI.2
  have b11919 := BT_get hI.1 1 1 2 (0) (0) (900) (by decide) 1 (by decide) (by decide)
  rw [e11918] at b11919
  have fr0 : fz 74 g [43] I I := fz_rf
  obtain ⟨w11920, ew11920⟩ : ∃ w : Int32, I (ad g 44) 1 = w := ⟨_, rfl⟩
  have bw11920 := BT_get hI.1 44 1 2 (0) (0) (3) (by decide) 1 (by decide) (by decide)
  rw [ew11920] at bw11920
  obtain ⟨w11921, ew11921⟩ : ∃ w : Int32, I (ad g 44) 3 = w := ⟨_, rfl⟩
  have bw11921 := BT_get hI.1 44 3 4 (0) (0) (20) (by decide) 3 (by decide) (by decide)
  rw [ew11921] at bw11921
  obtain ⟨w11922, ew11922⟩ : ∃ w : Int32, I (ad g 44) 4 = w := ⟨_, rfl⟩
  have bw11922 := BT_get hI.1 44 4 5 (0) (0) (20) (by decide) 4 (by decide) (by decide)
  rw [ew11922] at bw11922
  obtain ⟨w11923, ew11923⟩ : ∃ w : Int32, I (ad g 44) 5 = w := ⟨_, rfl⟩
  have bw11923 := BT_get hI.1 44 5 6 (0) (0) (3) (by decide) 5 (by decide) (by decide)
  rw [ew11923] at bw11923
  obtain ⟨w11924, ew11924⟩ : ∃ w : Int32, I (ad g 44) 6 = w := ⟨_, rfl⟩
  have bw11924 := BT_get hI.1 44 6 7 (0) (0) (2) (by decide) 6 (by decide) (by decide)
  rw [ew11924] at bw11924
  obtain ⟨w11925, ew11925⟩ : ∃ w : Int32, I (ad g 44) 7 = w := ⟨_, rfl⟩
  have bw11925 := BT_get hI.1 44 7 8 (0) (0) (1) (by decide) 7 (by decide) (by decide)
  rw [ew11925] at bw11925
  obtain ⟨w11926, ew11926⟩ : ∃ w : Int32, I (ad g 43) 8 = w := ⟨_, rfl⟩
  have hml0 := hml
  rw [ew11926] at hml0
  refine WP_aload_n dX2_weigh_0 rfl ?_
  refine WP_getr dX2_weigh_1 fX2_12 rfl (lyx_is hy 43 2 rfl) (rfx hr 43 3 44 (by decide)) ?_
  refine WP_iload_n dX2_weigh_4 rfl ?_
  refine WP_callV1 (k := 6) dX2_weigh_5 ⟨⟨⟨by decide, by decide⟩, zX6_mostFromStore⟩, lX2_82, by decide, rfl, vX6_mostFromStore.1, vX6_mostFromStore.2⟩ (lyx_is hy 44 6 rfl) (sx_mfx hy hr hI st (by omega) (by omega)) (Nat.le_of_ble_eq_true rfl) ?_
  intro r Ia Ja Ra hq
  obtain ⟨⟨ea, eb, ec⟩, v11927, rfl, av11927, bv11927, cv11927⟩ := hq
  show WP _ _ _ _ (.int _ :: _) _ _ _ _
  rw [ea, eb, ec]
  clear ea eb ec Ia Ja Ra
  rw [ew11925] at cv11927
  rw [ew11920] at cv11927
  refine WP_istore (ls' := [(0, _), (1, _), (2, _), (3, _), (4, _)]) dX2_weigh_8 (by decide) rfl ?_
  refine WP_aload_n dX2_weigh_10 rfl ?_
  refine WQ_iconst (-1) (-1) dX2_weigh_11 rfl rfl (fun v11928 hv11928 => ?_)
  refine WQ_puti dX2_weigh_12 fX2_127 rfl rfl (lyx_is hy 43 2 rfl) (fun I11929 eI11929 => ?_)
  have hI11929 : XI g n L I11929 := by rw [eI11929]; exact (xi_f0 hy hI (c := 43) (by decide) (Or.inl (by decide)) (by decide))
  have e11930 : I11929 (ad g 1) 1 = L := by rw [eI11929, pp_ne _ _ (Or.inl (lyx_ne hy (by decide) (by decide) (by decide)))]; exact e11918
  have e11931 : I11929 (ad g 44) 1 = w11920 := by rw [eI11929, pp_ne _ _ (Or.inl (lyx_ne hy (by decide) (by decide) (by decide)))]; exact ew11920
  have e11932 : I11929 (ad g 44) 3 = w11921 := by rw [eI11929, pp_ne _ _ (Or.inl (lyx_ne hy (by decide) (by decide) (by decide)))]; exact ew11921
  have e11933 : I11929 (ad g 44) 4 = w11922 := by rw [eI11929, pp_ne _ _ (Or.inl (lyx_ne hy (by decide) (by decide) (by decide)))]; exact ew11922
  have e11934 : I11929 (ad g 44) 5 = w11923 := by rw [eI11929, pp_ne _ _ (Or.inl (lyx_ne hy (by decide) (by decide) (by decide)))]; exact ew11923
  have e11935 : I11929 (ad g 44) 6 = w11924 := by rw [eI11929, pp_ne _ _ (Or.inl (lyx_ne hy (by decide) (by decide) (by decide)))]; exact ew11924
  have e11936 : I11929 (ad g 44) 7 = w11925 := by rw [eI11929, pp_ne _ _ (Or.inl (lyx_ne hy (by decide) (by decide) (by decide)))]; exact ew11925
  have e11937 : I11929 (ad g 43) 8 = w11926 := by rw [eI11929, pp_ne _ _ (Or.inr (by decide))]; exact ew11926
  have e11938 : I11929 (ad g 43) 0 = v11928 := by rw [eI11929, pp_self]
  have fr11939 : fz 74 g [43] I I11929 := by rw [eI11929]; exact fzx_pp hy fr0 (by decide) (by decide)
  clear eI11929
  refine WQ_iconst (0) (0) dX2_weigh_15 rfl rfl (fun v11940 hv11940 => ?_)
  refine WP_istore (ls' := [(0, _), (1, _), (2, _), (3, _), (4, _), (5, _)]) dX2_weigh_16 (by decide) rfl ?_
  have lp18_11952 : ∀ (mz : Nat) (i11941 : Int32) (I11942 : pI), XI g n L I11942 → fz 74 g [43] I I11942 → ∀ (w11944 : Int32), I11942 (ad g 44) 1 = w11944 → ∀ (w11945 : Int32), I11942 (ad g 44) 3 = w11945 → ∀ (w11946 : Int32), I11942 (ad g 44) 4 = w11946 → ∀ (w11947 : Int32), I11942 (ad g 44) 5 = w11947 → ∀ (w11948 : Int32), I11942 (ad g 44) 6 = w11948 → ∀ (w11949 : Int32), I11942 (ad g 44) 7 = w11949 → ∀ (w11950 : Int32), I11942 (ad g 43) 0 = w11950 → ∀ (w11951 : Int32), I11942 (ad g 43) 1 = w11951 → ∀ (w11952 : Int32), I11942 (ad g 43) 8 = w11952 → 0 ≤ i11941.toInt → i11941.toInt ≤ 3 → w11944.toInt = w11920.toInt → w11945.toInt = w11921.toInt → w11946.toInt = w11922.toInt → w11947.toInt = w11923.toInt → w11948.toInt = w11924.toInt → w11949.toInt = w11925.toInt → w11952.toInt = w11926.toInt → -1 ≤ w11950.toInt → w11950.toInt ≤ 594 + K → (i11941.toInt = 0 ∨ 0 ≤ w11950.toInt) → (w11950.toInt < 0 ∨ AOKd (I (ad g 44)) co.toInt st.toInt w11951.toInt) → (4 - i11941.toInt).toNat < mz → WP g mX2_weigh 18 [(0, .ref (ad g 43)), (1, .int co), (2, .int st), (3, .int da), (4, .int v11927), (5, .int i11941)] [] I11942 J R (fun r I' J' R' => (XI g n L I' ∧ R' = R ∧ fz 74 g [43] I I' ∧ J' = J ∧ (0 ≤ (I' (ad g 43) 0).toInt ∧ (I' (ad g 43) 0).toInt ≤ 594 + K ∧ AOKd (I (ad g 44)) co.toInt st.toInt (I' (ad g 43) 1).toInt ∧ I' (ad g 43) 8 = I (ad g 43) 8)) ∧ r = none) := by
    intro mz
    induction mz with
    | zero =>
      intro i11941 I11942 hI11942 fiI11942 w11944 ew11944 w11945 ew11945 w11946 ew11946 w11947 ew11947 w11948 ew11948 w11949 ew11949 w11950 ew11950 w11951 ew11951 w11952 ew11952 ai11941 bi11941 j0_I11942_11942 j1_I11942_11942 j2_I11942_11942 j3_I11942_11942 j4_I11942_11942 j5_I11942_11942 j6_I11942_11942 j7_I11942_11942 j8_I11942_11942 j9_I11942_11942 PA_I11942_11942 hmlp18_11952
      exact absurd hmlp18_11952 (Nat.not_lt_zero _)
    | succ mz ihlp18_11952 =>
      intro i11941 I11942 hI11942 fiI11942 w11944 ew11944 w11945 ew11945 w11946 ew11946 w11947 ew11947 w11948 ew11948 w11949 ew11949 w11950 ew11950 w11951 ew11951 w11952 ew11952 ai11941 bi11941 j0_I11942_11942 j1_I11942_11942 j2_I11942_11942 j3_I11942_11942 j4_I11942_11942 j5_I11942_11942 j6_I11942_11942 j7_I11942_11942 j8_I11942_11942 j9_I11942_11942 PA_I11942_11942 hmlp18_11952
      have bw11944 := BT_get hI11942.1 44 1 2 (0) (0) (3) (by decide) 1 (by decide) (by decide)
      rw [ew11944] at bw11944
      have bw11945 := BT_get hI11942.1 44 3 4 (0) (0) (20) (by decide) 3 (by decide) (by decide)
      rw [ew11945] at bw11945
      have bw11946 := BT_get hI11942.1 44 4 5 (0) (0) (20) (by decide) 4 (by decide) (by decide)
      rw [ew11946] at bw11946
      have bw11947 := BT_get hI11942.1 44 5 6 (0) (0) (3) (by decide) 5 (by decide) (by decide)
      rw [ew11947] at bw11947
      have bw11948 := BT_get hI11942.1 44 6 7 (0) (0) (2) (by decide) 6 (by decide) (by decide)
      rw [ew11948] at bw11948
      have bw11949 := BT_get hI11942.1 44 7 8 (0) (0) (1) (by decide) 7 (by decide) (by decide)
      rw [ew11949] at bw11949
      have bw11951 := BT_get hI11942.1 43 1 2 (0) (0) (47) (by decide) 1 (by decide) (by decide)
      rw [ew11951] at bw11951
      have e11954 : I11942 (ad g 1) 1 = L := hI11942.2
      have b11955 := BT_get hI11942.1 1 1 2 (0) (0) (900) (by decide) 1 (by decide) (by decide)
      rw [e11954] at b11955
      refine WP_iload dX2_weigh_18 rfl ?_
      refine WP_aload_n dX2_weigh_20 rfl ?_
      refine WP_getr dX2_weigh_21 fX2_12 rfl (lyx_is hy 43 2 rfl) (rfx hr 43 3 44 (by decide)) ?_
      refine WQ_getim dX2_weigh_24 fX2_92 rfl (lyx_is hy 44 6 rfl) ew11948 ?_
      refine WQ_icmp_gt 255 dX2_weigh_27 rfl (fun c11955 => ?_) (fun c11955 => ?_)
      · exact WP_vret dX2_weigh_255 rfl ⟨⟨hI11942, rfl, fiI11942, rfl, ⟨by rw [ew11950]; omega, by rw [ew11950]; omega, by rw [ew11951]; exact PA_I11942_11942.resolve_left (by omega), by rw [ew11952, ew11926]; exact (eq32 _ _).mpr (by omega)⟩⟩, rfl⟩
      · refine WQ_iconst (0) (0) dX2_weigh_30 rfl rfl (fun v11957 hv11957 => ?_)
        refine WP_istore (ls' := [(0, _), (1, _), (2, _), (3, _), (4, _), (5, _), (6, _)]) dX2_weigh_31 (by decide) rfl ?_
        have lp33_11969 : ∀ (mz : Nat) (i11958 : Int32) (I11959 : pI), XI g n L I11959 → fz 74 g [43] I I11959 → ∀ (w11961 : Int32), I11959 (ad g 44) 1 = w11961 → ∀ (w11962 : Int32), I11959 (ad g 44) 3 = w11962 → ∀ (w11963 : Int32), I11959 (ad g 44) 4 = w11963 → ∀ (w11964 : Int32), I11959 (ad g 44) 5 = w11964 → ∀ (w11965 : Int32), I11959 (ad g 44) 6 = w11965 → ∀ (w11966 : Int32), I11959 (ad g 44) 7 = w11966 → ∀ (w11967 : Int32), I11959 (ad g 43) 0 = w11967 → ∀ (w11968 : Int32), I11959 (ad g 43) 1 = w11968 → ∀ (w11969 : Int32), I11959 (ad g 43) 8 = w11969 → 0 ≤ i11958.toInt → i11958.toInt ≤ 4 → w11961.toInt = w11920.toInt → w11962.toInt = w11921.toInt → w11963.toInt = w11922.toInt → w11964.toInt = w11923.toInt → w11965.toInt = w11924.toInt → w11966.toInt = w11925.toInt → w11969.toInt = w11926.toInt → -1 ≤ w11967.toInt → w11967.toInt ≤ 594 + K → ((i11941.toInt = 0 ∧ i11958.toInt = 0) ∨ 0 ≤ w11967.toInt) → (w11967.toInt < 0 ∨ AOKd (I (ad g 44)) co.toInt st.toInt w11968.toInt) → (5 - i11958.toInt).toNat < mz → WP g mX2_weigh 33 [(0, .ref (ad g 43)), (1, .int co), (2, .int st), (3, .int da), (4, .int v11927), (5, .int i11941), (6, .int i11958)] [] I11959 J R (fun r I' J' R' => (XI g n L I' ∧ R' = R ∧ fz 74 g [43] I I' ∧ J' = J ∧ (0 ≤ (I' (ad g 43) 0).toInt ∧ (I' (ad g 43) 0).toInt ≤ 594 + K ∧ AOKd (I (ad g 44)) co.toInt st.toInt (I' (ad g 43) 1).toInt ∧ I' (ad g 43) 8 = I (ad g 43) 8)) ∧ r = none) := by
          intro mz
          induction mz with
          | zero =>
            intro i11958 I11959 hI11959 fiI11959 w11961 ew11961 w11962 ew11962 w11963 ew11963 w11964 ew11964 w11965 ew11965 w11966 ew11966 w11967 ew11967 w11968 ew11968 w11969 ew11969 ai11958 bi11958 j0_I11959_11959 j1_I11959_11959 j2_I11959_11959 j3_I11959_11959 j4_I11959_11959 j5_I11959_11959 j6_I11959_11959 j7_I11959_11959 j8_I11959_11959 j9_I11959_11959 PA_I11959_11959 hmlp33_11969
            exact absurd hmlp33_11969 (Nat.not_lt_zero _)
          | succ mz ihlp33_11969 =>
            intro i11958 I11959 hI11959 fiI11959 w11961 ew11961 w11962 ew11962 w11963 ew11963 w11964 ew11964 w11965 ew11965 w11966 ew11966 w11967 ew11967 w11968 ew11968 w11969 ew11969 ai11958 bi11958 j0_I11959_11959 j1_I11959_11959 j2_I11959_11959 j3_I11959_11959 j4_I11959_11959 j5_I11959_11959 j6_I11959_11959 j7_I11959_11959 j8_I11959_11959 j9_I11959_11959 PA_I11959_11959 hmlp33_11969
            have bw11961 := BT_get hI11959.1 44 1 2 (0) (0) (3) (by decide) 1 (by decide) (by decide)
            rw [ew11961] at bw11961
            have bw11962 := BT_get hI11959.1 44 3 4 (0) (0) (20) (by decide) 3 (by decide) (by decide)
            rw [ew11962] at bw11962
            have bw11963 := BT_get hI11959.1 44 4 5 (0) (0) (20) (by decide) 4 (by decide) (by decide)
            rw [ew11963] at bw11963
            have bw11964 := BT_get hI11959.1 44 5 6 (0) (0) (3) (by decide) 5 (by decide) (by decide)
            rw [ew11964] at bw11964
            have bw11965 := BT_get hI11959.1 44 6 7 (0) (0) (2) (by decide) 6 (by decide) (by decide)
            rw [ew11965] at bw11965
            have bw11966 := BT_get hI11959.1 44 7 8 (0) (0) (1) (by decide) 7 (by decide) (by decide)
            rw [ew11966] at bw11966
            have bw11968 := BT_get hI11959.1 43 1 2 (0) (0) (47) (by decide) 1 (by decide) (by decide)
            rw [ew11968] at bw11968
            have e11971 : I11959 (ad g 1) 1 = L := hI11959.2
            have b11972 := BT_get hI11959.1 1 1 2 (0) (0) (900) (by decide) 1 (by decide) (by decide)
            rw [e11971] at b11972
            refine WP_iload dX2_weigh_33 rfl ?_
            refine WP_iload dX2_weigh_35 rfl ?_
            refine WQ_icmp_gt 249 dX2_weigh_37 rfl (fun c11972 => ?_) (fun c11972 => ?_)
            · refine WP_iinc (ls' := [(0, _), (1, _), (2, _), (3, _), (4, _), (5, _), (6, _)]) dX2_weigh_249 rfl (by decide) rfl ?_
              have hv11974 : (i11941 + Int32.ofInt (1)).toInt = i11941.toInt + (1) := ia_n rfl (by omega) (by omega)
              generalize i11941 + Int32.ofInt (1) = v11974 at hv11974 ⊢
              refine WP_goto 18 dX2_weigh_252 rfl ?_
              exact WP_sub (fc rfl (fc rfl (fc rfl (fc rfl (fc rfl (fc rfl fn)))))) (ihlp18_11952 v11974 I11959 hI11959 fiI11959 w11961 ew11961 w11962 ew11962 w11963 ew11963 w11964 ew11964 w11965 ew11965 w11966 ew11966 w11967 ew11967 w11968 ew11968 w11969 ew11969 (by omega) (by omega) (by omega) (by omega) (by omega) (by omega) (by omega) (by omega) (by omega) (by omega) (by omega) (by omega) PA_I11959_11959 (by omega))
            · refine WP_iload_n dX2_weigh_40 rfl ?_
              refine WP_iload dX2_weigh_41 rfl ?_
              refine WQ_isub dX2_weigh_43 (by omega) (by omega) (fun v11975 hv11975 => ?_)
              refine WP_iload dX2_weigh_44 rfl ?_
              refine WQ_iadd dX2_weigh_46 (by omega) (by omega) (fun v11976 hv11976 => ?_)
              refine WP_istore (ls' := [(0, _), (1, _), (2, _), (3, _), (4, _), (5, _), (6, _), (7, _)]) dX2_weigh_47 (by decide) rfl ?_
              refine WP_aload_n dX2_weigh_49 rfl ?_
              refine WP_getr dX2_weigh_50 fX2_12 rfl (lyx_is hy 43 2 rfl) (rfx hr 43 3 44 (by decide)) ?_
              refine WQ_getim dX2_weigh_53 fX2_95 rfl (lyx_is hy 44 6 rfl) ew11964 ?_
              refine WP_aload_n dX2_weigh_56 rfl ?_
              refine WP_getr dX2_weigh_57 fX2_12 rfl (lyx_is hy 43 2 rfl) (rfx hr 43 3 44 (by decide)) ?_
              refine WQ_getim dX2_weigh_60 fX2_98 rfl (lyx_is hy 44 6 rfl) ew11961 ?_
              refine WP_iload dX2_weigh_63 rfl ?_
              refine WQ_isub dX2_weigh_65 (by omega) (by omega) (fun v11977 hv11977 => ?_)
              refine WQ_min dX2_weigh_66 lX2_101 ⟨by decide, Nat.le_of_ble_eq_true rfl⟩ (fun v11978 av11978 bv11978 cv11978 => ?_)
              refine WP_istore (ls' := [(0, _), (1, _), (2, _), (3, _), (4, _), (5, _), (6, _), (7, _), (8, _)]) dX2_weigh_69 (by decide) rfl ?_
              refine WP_iload dX2_weigh_71 rfl ?_
              refine WP_iload dX2_weigh_73 rfl ?_
              refine WQ_iadd dX2_weigh_75 (by omega) (by omega) (fun v11979 hv11979 => ?_)
              refine WP_aload_n dX2_weigh_76 rfl ?_
              refine WP_getr dX2_weigh_77 fX2_12 rfl (lyx_is hy 43 2 rfl) (rfx hr 43 3 44 (by decide)) ?_
              refine WQ_geti dX2_weigh_80 fX2_133 rfl (lyx_is hy 44 6 rfl) (BT_get hI11959.1 44 2 3 (0) (0) (99) (by decide) 2 (by decide) (by decide)) (fun v11980 ev11980 av11980 bv11980 => ?_)
              refine WQ_imulb (6) (99) dX2_weigh_83 ⟨by omega, by omega⟩ ⟨by omega, by omega⟩ (by decide) (fun v11981 pv11981 av11981 bv11981 cv11981 => ?_)
              refine WP_aload_n dX2_weigh_84 rfl ?_
              refine WQ_getim dX2_weigh_85 fX2_67 rfl (lyx_is hy 43 2 rfl) ew11969 ?_
              refine WQ_iadd dX2_weigh_88 (by omega) (by omega) (fun v11982 hv11982 => ?_)
              refine WP_istore (ls' := [(0, _), (1, _), (2, _), (3, _), (4, _), (5, _), (6, _), (7, _), (8, _), (9, _)]) dX2_weigh_89 (by decide) rfl ?_
              refine WP_iload dX2_weigh_91 rfl ?_
              refine WQ_iconst (5) (5) dX2_weigh_93 rfl rfl (fun v11983 hv11983 => ?_)
              refine WQ_icmp_gt 243 dX2_weigh_94 rfl (fun c11983 => ?_) (fun c11983 => ?_)
              · refine WP_iinc (ls' := [(0, _), (1, _), (2, _), (3, _), (4, _), (5, _), (6, _), (7, _), (8, _), (9, _)]) dX2_weigh_243 rfl (by decide) rfl ?_
                have hv11985 : (i11958 + Int32.ofInt (1)).toInt = i11958.toInt + (1) := ia_n rfl (by omega) (by omega)
                generalize i11958 + Int32.ofInt (1) = v11985 at hv11985 ⊢
                refine WP_goto 33 dX2_weigh_246 rfl ?_
                exact WP_sub (fc rfl (fc rfl (fc rfl (fc rfl (fc rfl (fc rfl (fc rfl fn))))))) (ihlp33_11969 v11985 I11959 hI11959 fiI11959 w11961 ew11961 w11962 ew11962 w11963 ew11963 w11964 ew11964 w11965 ew11965 w11966 ew11966 w11967 ew11967 w11968 ew11968 w11969 ew11969 (by omega) (by omega) (by omega) (by omega) (by omega) (by omega) (by omega) (by omega) (by omega) (by omega) (by omega) (by omega) PA_I11959_11959 (by omega))
              · refine WP_iload dX2_weigh_97 rfl ?_
                refine WP_aload_n dX2_weigh_99 rfl ?_
                refine WQ_getim dX2_weigh_100 fX2_127 rfl (lyx_is hy 43 2 rfl) ew11967 ?_
                refine WQ_icmp_gt 109 dX2_weigh_103 rfl (fun c11985 => ?_) (fun c11985 => ?_)
                · refine WP_iload_n dX2_weigh_109 rfl ?_
                  refine WP_iload dX2_weigh_110 rfl ?_
                  refine WP_aload_n dX2_weigh_112 rfl ?_
                  refine WP_getr dX2_weigh_113 fX2_12 rfl (lyx_is hy 43 2 rfl) (rfx hr 43 3 44 (by decide)) ?_
                  refine WQ_getim dX2_weigh_116 fX2_107 rfl (lyx_is hy 44 6 rfl) ew11963 ?_
                  refine WQ_imulb (2) (20) dX2_weigh_119 ⟨by omega, by omega⟩ ⟨by omega, by omega⟩ (by decide) (fun v11987 pv11987 av11987 bv11987 cv11987 => ?_)
                  refine WQ_isub dX2_weigh_120 (by omega) (by omega) (fun v11988 hv11988 => ?_)
                  refine WP_istore (ls' := [(0, _), (1, _), (2, _), (3, _), (4, _), (5, _), (6, _), (7, _), (8, _), (9, _), (10, _)]) dX2_weigh_121 (by decide) rfl ?_
                  refine WQ_iconst (0) (0) dX2_weigh_123 rfl rfl (fun v11989 hv11989 => ?_)
                  refine WP_istore (ls' := [(0, _), (1, _), (2, _), (3, _), (4, _), (5, _), (6, _), (7, _), (8, _), (9, _), (10, _), (11, _)]) dX2_weigh_124 (by decide) rfl ?_
                  have lp126_12002 : ∀ (mz : Nat) (i11990 : Int32) (i11991 : Int32) (I11992 : pI), XI g n L I11992 → fz 74 g [43] I I11992 → ∀ (w11994 : Int32), I11992 (ad g 44) 1 = w11994 → ∀ (w11995 : Int32), I11992 (ad g 44) 3 = w11995 → ∀ (w11996 : Int32), I11992 (ad g 44) 4 = w11996 → ∀ (w11997 : Int32), I11992 (ad g 44) 5 = w11997 → ∀ (w11998 : Int32), I11992 (ad g 44) 6 = w11998 → ∀ (w11999 : Int32), I11992 (ad g 44) 7 = w11999 → ∀ (w12000 : Int32), I11992 (ad g 43) 0 = w12000 → ∀ (w12001 : Int32), I11992 (ad g 43) 1 = w12001 → ∀ (w12002 : Int32), I11992 (ad g 43) 8 = w12002 → -60 ≤ i11990.toInt → i11990.toInt ≤ 60 → 0 ≤ i11991.toInt → i11991.toInt ≤ 4 → w11994.toInt = w11920.toInt → w11995.toInt = w11921.toInt → w11996.toInt = w11922.toInt → w11997.toInt = w11923.toInt → w11998.toInt = w11924.toInt → w11999.toInt = w11925.toInt → w12002.toInt = w11926.toInt → -1 ≤ w12000.toInt → w12000.toInt ≤ 594 + K → ((i11941.toInt = 0 ∧ i11958.toInt = 0 ∧ i11991.toInt = 0) ∨ 0 ≤ w12000.toInt) → (i11941.toInt ≠ 0 ∨ i11991.toInt ≠ 0 ∨ i11990.toInt = co.toInt) → (w12000.toInt < 0 ∨ AOKd (I (ad g 44)) co.toInt st.toInt w12001.toInt) → (i11990.toInt + i11941.toInt * w11922.toInt + i11991.toInt * w11921.toInt = co.toInt) → (5 - i11991.toInt).toNat < mz → WP g mX2_weigh 126 [(0, .ref (ad g 43)), (1, .int co), (2, .int st), (3, .int da), (4, .int v11927), (5, .int i11941), (6, .int i11958), (7, .int v11976), (8, .int v11978), (9, .int v11982), (10, .int i11990), (11, .int i11991)] [] I11992 J R (fun r I' J' R' => (XI g n L I' ∧ R' = R ∧ fz 74 g [43] I I' ∧ J' = J ∧ (0 ≤ (I' (ad g 43) 0).toInt ∧ (I' (ad g 43) 0).toInt ≤ 594 + K ∧ AOKd (I (ad g 44)) co.toInt st.toInt (I' (ad g 43) 1).toInt ∧ I' (ad g 43) 8 = I (ad g 43) 8)) ∧ r = none) := by
                    intro mz
                    induction mz with
                    | zero =>
                      intro i11990 i11991 I11992 hI11992 fiI11992 w11994 ew11994 w11995 ew11995 w11996 ew11996 w11997 ew11997 w11998 ew11998 w11999 ew11999 w12000 ew12000 w12001 ew12001 w12002 ew12002 ai11990 bi11990 ai11991 bi11991 j0_I11992_11992 j1_I11992_11992 j2_I11992_11992 j3_I11992_11992 j4_I11992_11992 j5_I11992_11992 j6_I11992_11992 j7_I11992_11992 j8_I11992_11992 j9_I11992_11992 j10_I11992_11992 PA_I11992_11992 PL_I11992_11992 hmlp126_12002
                      exact absurd hmlp126_12002 (Nat.not_lt_zero _)
                    | succ mz ihlp126_12002 =>
                      intro i11990 i11991 I11992 hI11992 fiI11992 w11994 ew11994 w11995 ew11995 w11996 ew11996 w11997 ew11997 w11998 ew11998 w11999 ew11999 w12000 ew12000 w12001 ew12001 w12002 ew12002 ai11990 bi11990 ai11991 bi11991 j0_I11992_11992 j1_I11992_11992 j2_I11992_11992 j3_I11992_11992 j4_I11992_11992 j5_I11992_11992 j6_I11992_11992 j7_I11992_11992 j8_I11992_11992 j9_I11992_11992 j10_I11992_11992 PA_I11992_11992 PL_I11992_11992 hmlp126_12002
                      have bw11994 := BT_get hI11992.1 44 1 2 (0) (0) (3) (by decide) 1 (by decide) (by decide)
                      rw [ew11994] at bw11994
                      have bw11995 := BT_get hI11992.1 44 3 4 (0) (0) (20) (by decide) 3 (by decide) (by decide)
                      rw [ew11995] at bw11995
                      have bw11996 := BT_get hI11992.1 44 4 5 (0) (0) (20) (by decide) 4 (by decide) (by decide)
                      rw [ew11996] at bw11996
                      have bw11997 := BT_get hI11992.1 44 5 6 (0) (0) (3) (by decide) 5 (by decide) (by decide)
                      rw [ew11997] at bw11997
                      have bw11998 := BT_get hI11992.1 44 6 7 (0) (0) (2) (by decide) 6 (by decide) (by decide)
                      rw [ew11998] at bw11998
                      have bw11999 := BT_get hI11992.1 44 7 8 (0) (0) (1) (by decide) 7 (by decide) (by decide)
                      rw [ew11999] at bw11999
                      have bw12001 := BT_get hI11992.1 43 1 2 (0) (0) (47) (by decide) 1 (by decide) (by decide)
                      rw [ew12001] at bw12001
                      have e12004 : I11992 (ad g 1) 1 = L := hI11992.2
                      have b12005 := BT_get hI11992.1 1 1 2 (0) (0) (900) (by decide) 1 (by decide) (by decide)
                      rw [e12004] at b12005
                      refine WP_iload dX2_weigh_126 rfl ?_
                      refine WP_iload dX2_weigh_128 rfl ?_
                      refine WQ_icmp_gt 243 dX2_weigh_130 rfl (fun c12005 => ?_) (fun c12005 => ?_)
                      · refine WP_iinc (ls' := [(0, _), (1, _), (2, _), (3, _), (4, _), (5, _), (6, _), (7, _), (8, _), (9, _), (10, _), (11, _)]) dX2_weigh_243 rfl (by decide) rfl ?_
                        have hv12007 : (i11958 + Int32.ofInt (1)).toInt = i11958.toInt + (1) := ia_n rfl (by omega) (by omega)
                        generalize i11958 + Int32.ofInt (1) = v12007 at hv12007 ⊢
                        refine WP_goto 33 dX2_weigh_246 rfl ?_
                        exact WP_sub (fc rfl (fc rfl (fc rfl (fc rfl (fc rfl (fc rfl (fc rfl fn))))))) (ihlp33_11969 v12007 I11992 hI11992 fiI11992 w11994 ew11994 w11995 ew11995 w11996 ew11996 w11997 ew11997 w11998 ew11998 w11999 ew11999 w12000 ew12000 w12001 ew12001 w12002 ew12002 (by omega) (by omega) (by omega) (by omega) (by omega) (by omega) (by omega) (by omega) (by omega) (by omega) (by omega) (by omega) PA_I11992_11992 (by omega))
                      · refine WP_iload dX2_weigh_133 rfl ?_
                        refine WQ_if_lt 243 dX2_weigh_135 rfl (fun c12007 => ?_) (fun c12007 => ?_)
                        · refine WP_iinc (ls' := [(0, _), (1, _), (2, _), (3, _), (4, _), (5, _), (6, _), (7, _), (8, _), (9, _), (10, _), (11, _)]) dX2_weigh_243 rfl (by decide) rfl ?_
                          have hv12009 : (i11958 + Int32.ofInt (1)).toInt = i11958.toInt + (1) := ia_n rfl (by omega) (by omega)
                          generalize i11958 + Int32.ofInt (1) = v12009 at hv12009 ⊢
                          refine WP_goto 33 dX2_weigh_246 rfl ?_
                          exact WP_sub (fc rfl (fc rfl (fc rfl (fc rfl (fc rfl (fc rfl (fc rfl fn))))))) (ihlp33_11969 v12009 I11992 hI11992 fiI11992 w11994 ew11994 w11995 ew11995 w11996 ew11996 w11997 ew11997 w11998 ew11998 w11999 ew11999 w12000 ew12000 w12001 ew12001 w12002 ew12002 (by omega) (by omega) (by omega) (by omega) (by omega) (by omega) (by omega) (by omega) (by omega) (by omega) (by omega) (by omega) PA_I11992_11992 (by omega))
                        · refine WP_aload_n dX2_weigh_138 rfl ?_
                          refine WP_getr dX2_weigh_139 fX2_32 rfl (lyx_is hy 43 2 rfl) (rfx hr 43 2 5 (by decide)) ?_
                          refine WP_iload dX2_weigh_142 rfl ?_
                          refine WP_iload dX2_weigh_144 rfl ?_
                          refine WP_iload_n dX2_weigh_146 rfl ?_
                          refine WP_callV3 (k := 0) dX2_weigh_147 ⟨⟨⟨by decide, by decide⟩, zX0_coinsBehind⟩, lX2_116, by decide, rfl, vX0_coinsBehind.1, vX0_coinsBehind.2⟩ (lyx_is hy 5 0 rfl) (sx_cbx hy hr hI11992 i11990 v11976 da (by omega) (by omega) (by omega) (by omega) (by omega) (by omega)) (Nat.le_of_ble_eq_true rfl) ?_
                          intro r Ia Ja Ra hq
                          obtain ⟨⟨ea, eb, ec⟩, v12010, rfl, av12010, bv12010, cv12010⟩ := hq
                          show WP _ _ _ _ (.int _ :: _) _ _ _ _
                          rw [ea, eb, ec]
                          clear ea eb ec Ia Ja Ra
                          refine WP_istore (ls' := [(0, _), (1, _), (2, _), (3, _), (4, _), (5, _), (6, _), (7, _), (8, _), (9, _), (10, _), (11, _), (12, _)]) dX2_weigh_150 (by decide) rfl ?_
                          refine WP_aload_n dX2_weigh_152 rfl ?_
                          refine WP_getr dX2_weigh_153 fX2_29 rfl (lyx_is hy 43 2 rfl) hL ?_
                          refine WP_aload_n dX2_weigh_156 rfl ?_
                          refine WP_getr dX2_weigh_157 fX2_32 rfl (lyx_is hy 43 2 rfl) (rfx hr 43 2 5 (by decide)) ?_
                          refine WP_getr dX2_weigh_160 fX2_113 rfl (lyx_is hy 5 0 rfl) (rfx hr 5 5 26 (by decide)) ?_
                          refine WP_iload dX2_weigh_163 rfl ?_
                          refine WQ_iald dX2_weigh_165 (lyx_is hy 26 13 rfl) (lyx_n hy 26 6 rfl) (by omega) (by omega) (fun q hq => BT_get hI11992.1 26 0 6 (0) (0) (5) (by decide) q (Nat.zero_le _) hq) (fun v12011 av12011 bv12011 ev12011 => ?_)
                          refine WQ_bipush (61) (61) dX2_weigh_166 rfl rfl (fun v12012 hv12012 => ?_)
                          refine WQ_imulk (61) dX2_weigh_168 hv12012 (by omega) (by omega) (fun v12013 hv12013 => ?_)
                          refine WP_iload dX2_weigh_169 rfl ?_
                          refine WQ_iadd dX2_weigh_171 (by omega) (by omega) (fun v12014 hv12014 => ?_)
                          have acv12015 : ACT (I (ad g 44)) st.toInt co.toInt i11941.toInt i11958.toInt i11991.toInt v11976.toInt i11990.toInt := ⟨by omega, by rw [ew11924]; omega, by omega, by rw [ew11925, ew11920]; omega, by omega, by rw [ew11923]; omega, by rw [ew11920]; omega, by omega, by omega, by omega, by rw [ew11922, ew11921]; exact PL_I11992_11992⟩
                          have s1v12015 : SB (I (ad g 26)) v11976.toInt = v12011.toInt := by unfold SB; rw [← fz_at fiI11992 26 (by decide) (by decide), ← cl (x := v11976) (n := v11976.toInt.toNat) (by omega), ev12011]
                          have s2v12015 := cv12010
                          rw [fz_at fiI11992 24 (by decide) (by decide), fz_at fiI11992 25 (by decide) (by decide)] at s2v12015
                          have s3v12015 := hW _ _ _ _ _ acv12015
                          rw [s1v12015, ← s2v12015, show (61 * v12011.toInt + v12010.toInt).toNat = v12014.toInt.toNat by omega] at s3v12015
                          refine WQ_ialdq (q := v12014.toInt.toNat) dX2_weigh_172 (lyx_is hy 48 13 rfl) (lyx_n hy 48 366 rfl) (by omega) (by omega) (by omega) (by rw [fz_at fiI11992 48 (by decide) (by decide)]; exact s3v12015) (fun v12015 av12015 bv12015 ev12015 => ?_)
                          refine WP_istore (ls' := [(0, _), (1, _), (2, _), (3, _), (4, _), (5, _), (6, _), (7, _), (8, _), (9, _), (10, _), (11, _), (12, _), (13, _)]) dX2_weigh_173 (by decide) rfl ?_
                          refine WP_iload dX2_weigh_175 rfl ?_
                          refine WP_iload dX2_weigh_177 rfl ?_
                          refine WQ_iadd dX2_weigh_179 (by omega) (by omega) (fun v12016 hv12016 => ?_)
                          refine WP_aload_n dX2_weigh_180 rfl ?_
                          refine WP_getr dX2_weigh_181 fX2_12 rfl (lyx_is hy 43 2 rfl) (rfx hr 43 3 44 (by decide)) ?_
                          refine WQ_geti dX2_weigh_184 fX2_133 rfl (lyx_is hy 44 6 rfl) (BT_get hI11992.1 44 2 3 (0) (0) (99) (by decide) 2 (by decide) (by decide)) (fun v12017 ev12017 av12017 bv12017 => ?_)
                          refine WQ_imulb (6) (99) dX2_weigh_187 ⟨by omega, by omega⟩ ⟨by omega, by omega⟩ (by decide) (fun v12018 pv12018 av12018 bv12018 cv12018 => ?_)
                          refine WP_iload dX2_weigh_188 rfl ?_
                          refine WQ_iadd dX2_weigh_190 (by omega) (by omega) (fun v12019 hv12019 => ?_)
                          refine WP_istore (ls' := [(0, _), (1, _), (2, _), (3, _), (4, _), (5, _), (6, _), (7, _), (8, _), (9, _), (10, _), (11, _), (12, _), (13, _), (14, _)]) dX2_weigh_191 (by decide) rfl ?_
                          refine WP_iload dX2_weigh_193 rfl ?_
                          refine WP_aload_n dX2_weigh_195 rfl ?_
                          refine WQ_getim dX2_weigh_196 fX2_127 rfl (lyx_is hy 43 2 rfl) ew12000 ?_
                          refine WQ_icmp_le 225 dX2_weigh_199 rfl (fun c12019 => ?_) (fun c12019 => ?_)
                          · refine WP_iload dX2_weigh_225 rfl ?_
                            refine WP_aload_n dX2_weigh_227 rfl ?_
                            refine WP_getr dX2_weigh_228 fX2_12 rfl (lyx_is hy 43 2 rfl) (rfx hr 43 3 44 (by decide)) ?_
                            refine WQ_getim dX2_weigh_231 fX2_110 rfl (lyx_is hy 44 6 rfl) ew11995 ?_
                            refine WQ_isub dX2_weigh_234 (by omega) (by omega) (fun v12021 hv12021 => ?_)
                            refine WP_istore (ls' := [(0, _), (1, _), (2, _), (3, _), (4, _), (5, _), (6, _), (7, _), (8, _), (9, _), (10, _), (11, _), (12, _), (13, _), (14, _)]) dX2_weigh_235 (by decide) rfl ?_
                            refine WP_iinc (ls' := [(0, _), (1, _), (2, _), (3, _), (4, _), (5, _), (6, _), (7, _), (8, _), (9, _), (10, _), (11, _), (12, _), (13, _), (14, _)]) dX2_weigh_237 rfl (by decide) rfl ?_
                            have hv12022 : (i11991 + Int32.ofInt (1)).toInt = i11991.toInt + (1) := ia_n rfl (by omega) (by omega)
                            generalize i11991 + Int32.ofInt (1) = v12022 at hv12022 ⊢
                            refine WP_goto 126 dX2_weigh_240 rfl ?_
                            exact WP_sub (fc rfl (fc rfl (fc rfl (fc rfl (fc rfl (fc rfl (fc rfl (fc rfl (fc rfl (fc rfl (fc rfl (fc rfl fn)))))))))))) (ihlp126_12002 v12021 v12022 I11992 hI11992 fiI11992 w11994 ew11994 w11995 ew11995 w11996 ew11996 w11997 ew11997 w11998 ew11998 w11999 ew11999 w12000 ew12000 w12001 ew12001 w12002 ew12002 (by omega) (by omega) (by omega) (by omega) (by omega) (by omega) (by omega) (by omega) (by omega) (by omega) (by omega) (by omega) (by omega) (by omega) (by omega) PA_I11992_11992 (by rw [hv12022, Int.add_mul, Int.one_mul]; have hq := PL_I11992_11992; omega) (by omega))
                          · refine WP_aload_n dX2_weigh_202 rfl ?_
                            refine WP_iload dX2_weigh_203 rfl ?_
                            refine WQ_puti dX2_weigh_205 fX2_127 rfl rfl (lyx_is hy 43 2 rfl) (fun I12023 eI12023 => ?_)
                            have hI12023 : XI g n L I12023 := by rw [eI12023]; exact (xi_f0 hy hI11992 (c := 43) (by decide) (Or.inl (by decide)) (by decide))
                            have e12024 : I12023 (ad g 44) 1 = w11994 := by rw [eI12023, pp_ne _ _ (Or.inl (lyx_ne hy (by decide) (by decide) (by decide)))]; exact ew11994
                            have e12025 : I12023 (ad g 44) 3 = w11995 := by rw [eI12023, pp_ne _ _ (Or.inl (lyx_ne hy (by decide) (by decide) (by decide)))]; exact ew11995
                            have e12026 : I12023 (ad g 44) 4 = w11996 := by rw [eI12023, pp_ne _ _ (Or.inl (lyx_ne hy (by decide) (by decide) (by decide)))]; exact ew11996
                            have e12027 : I12023 (ad g 44) 5 = w11997 := by rw [eI12023, pp_ne _ _ (Or.inl (lyx_ne hy (by decide) (by decide) (by decide)))]; exact ew11997
                            have e12028 : I12023 (ad g 44) 6 = w11998 := by rw [eI12023, pp_ne _ _ (Or.inl (lyx_ne hy (by decide) (by decide) (by decide)))]; exact ew11998
                            have e12029 : I12023 (ad g 44) 7 = w11999 := by rw [eI12023, pp_ne _ _ (Or.inl (lyx_ne hy (by decide) (by decide) (by decide)))]; exact ew11999
                            have e12030 : I12023 (ad g 43) 1 = w12001 := by rw [eI12023, pp_ne _ _ (Or.inr (by decide))]; exact ew12001
                            have e12031 : I12023 (ad g 43) 8 = w12002 := by rw [eI12023, pp_ne _ _ (Or.inr (by decide))]; exact ew12002
                            have e12032 : I12023 (ad g 1) 1 = L := by rw [eI12023, pp_ne _ _ (Or.inl (lyx_ne hy (by decide) (by decide) (by decide)))]; exact e12004
                            have e12033 : I12023 (ad g 26) v11976.toNatClampNeg = v12011 := by rw [eI12023, pp_ne _ _ (Or.inl (lyx_ne hy (by decide) (by decide) (by decide)))]; exact ev12011
                            have e12034 : I12023 (ad g 44) 2 = v12017 := by rw [eI12023, pp_ne _ _ (Or.inl (lyx_ne hy (by decide) (by decide) (by decide)))]; exact ev12017
                            have e12035 : I12023 (ad g 43) 0 = v12019 := by rw [eI12023, pp_self]
                            have fr12036 : fz 74 g [43] I I12023 := by rw [eI12023]; exact fzx_pp hy fiI11992 (by decide) (by decide)
                            clear eI12023
                            refine WP_aload_n dX2_weigh_208 rfl ?_
                            refine WQ_bipush (16) (16) dX2_weigh_209 rfl rfl (fun v12037 hv12037 => ?_)
                            refine WP_iload dX2_weigh_211 rfl ?_
                            refine WQ_imulK (16) dX2_weigh_213 hv12037 (by omega) (by omega) (fun v12038 hv12038 => ?_)
                            refine WQ_iconst (4) (4) dX2_weigh_214 rfl rfl (fun v12039 hv12039 => ?_)
                            refine WP_iload dX2_weigh_215 rfl ?_
                            refine WQ_imulK (4) dX2_weigh_217 hv12039 (by omega) (by omega) (fun v12040 hv12040 => ?_)
                            refine WQ_iadd dX2_weigh_218 (by omega) (by omega) (fun v12041 hv12041 => ?_)
                            refine WP_iload dX2_weigh_219 rfl ?_
                            refine WQ_iadd dX2_weigh_221 (by omega) (by omega) (fun v12042 hv12042 => ?_)
                            refine WQ_puti dX2_weigh_222 fX2_75 rfl rfl (lyx_is hy 43 2 rfl) (fun I12043 eI12043 => ?_)
                            have hI12043 : XI g n L I12043 := by rw [eI12043]; exact (xi_f hy hI12023 (c := 43) (0) (0) (47) (by decide) (Or.inl (by decide)) (by decide) (by omega) (by omega))
                            have e12044 : I12043 (ad g 44) 1 = w11994 := by rw [eI12043, pp_ne _ _ (Or.inl (lyx_ne hy (by decide) (by decide) (by decide)))]; exact e12024
                            have e12045 : I12043 (ad g 44) 3 = w11995 := by rw [eI12043, pp_ne _ _ (Or.inl (lyx_ne hy (by decide) (by decide) (by decide)))]; exact e12025
                            have e12046 : I12043 (ad g 44) 4 = w11996 := by rw [eI12043, pp_ne _ _ (Or.inl (lyx_ne hy (by decide) (by decide) (by decide)))]; exact e12026
                            have e12047 : I12043 (ad g 44) 5 = w11997 := by rw [eI12043, pp_ne _ _ (Or.inl (lyx_ne hy (by decide) (by decide) (by decide)))]; exact e12027
                            have e12048 : I12043 (ad g 44) 6 = w11998 := by rw [eI12043, pp_ne _ _ (Or.inl (lyx_ne hy (by decide) (by decide) (by decide)))]; exact e12028
                            have e12049 : I12043 (ad g 44) 7 = w11999 := by rw [eI12043, pp_ne _ _ (Or.inl (lyx_ne hy (by decide) (by decide) (by decide)))]; exact e12029
                            have e12050 : I12043 (ad g 43) 8 = w12002 := by rw [eI12043, pp_ne _ _ (Or.inr (by decide))]; exact e12031
                            have e12051 : I12043 (ad g 1) 1 = L := by rw [eI12043, pp_ne _ _ (Or.inl (lyx_ne hy (by decide) (by decide) (by decide)))]; exact e12032
                            have e12052 : I12043 (ad g 26) v11976.toNatClampNeg = v12011 := by rw [eI12043, pp_ne _ _ (Or.inl (lyx_ne hy (by decide) (by decide) (by decide)))]; exact e12033
                            have e12053 : I12043 (ad g 44) 2 = v12017 := by rw [eI12043, pp_ne _ _ (Or.inl (lyx_ne hy (by decide) (by decide) (by decide)))]; exact e12034
                            have e12054 : I12043 (ad g 43) 0 = v12019 := by rw [eI12043, pp_ne _ _ (Or.inr (by decide))]; exact e12035
                            have e12055 : I12043 (ad g 43) 1 = v12042 := by rw [eI12043, pp_self]
                            have fr12056 : fz 74 g [43] I I12043 := by rw [eI12043]; exact fzx_pp hy fr12036 (by decide) (by decide)
                            have AI12043 : v12019.toInt < 0 ∨ AOKd (I (ad g 44)) co.toInt st.toInt v12042.toInt := Or.inr (AOK_set acv12015 (by omega) (by omega) (by omega) (by omega) (by omega))
                            clear eI12043
                            refine WP_iload dX2_weigh_225 rfl ?_
                            refine WP_aload_n dX2_weigh_227 rfl ?_
                            refine WP_getr dX2_weigh_228 fX2_12 rfl (lyx_is hy 43 2 rfl) (rfx hr 43 3 44 (by decide)) ?_
                            refine WQ_getim dX2_weigh_231 fX2_110 rfl (lyx_is hy 44 6 rfl) e12045 ?_
                            refine WQ_isub dX2_weigh_234 (by omega) (by omega) (fun v12057 hv12057 => ?_)
                            refine WP_istore (ls' := [(0, _), (1, _), (2, _), (3, _), (4, _), (5, _), (6, _), (7, _), (8, _), (9, _), (10, _), (11, _), (12, _), (13, _), (14, _)]) dX2_weigh_235 (by decide) rfl ?_
                            refine WP_iinc (ls' := [(0, _), (1, _), (2, _), (3, _), (4, _), (5, _), (6, _), (7, _), (8, _), (9, _), (10, _), (11, _), (12, _), (13, _), (14, _)]) dX2_weigh_237 rfl (by decide) rfl ?_
                            have hv12058 : (i11991 + Int32.ofInt (1)).toInt = i11991.toInt + (1) := ia_n rfl (by omega) (by omega)
                            generalize i11991 + Int32.ofInt (1) = v12058 at hv12058 ⊢
                            refine WP_goto 126 dX2_weigh_240 rfl ?_
                            exact WP_sub (fc rfl (fc rfl (fc rfl (fc rfl (fc rfl (fc rfl (fc rfl (fc rfl (fc rfl (fc rfl (fc rfl (fc rfl fn)))))))))))) (ihlp126_12002 v12057 v12058 I12043 hI12043 fr12056 w11994 e12044 w11995 e12045 w11996 e12046 w11997 e12047 w11998 e12048 w11999 e12049 v12019 e12054 v12042 e12055 w12002 e12050 (by omega) (by omega) (by omega) (by omega) (by omega) (by omega) (by omega) (by omega) (by omega) (by omega) (by omega) (by omega) (by omega) (by omega) (by omega) AI12043 (by rw [hv12058, Int.add_mul, Int.one_mul]; have hq := PL_I11992_11992; omega) (by omega))
                  exact WP_sub (fc rfl (fc rfl (fc rfl (fc rfl (fc rfl (fc rfl (fc rfl (fc rfl (fc rfl (fc rfl (fc rfl (fc rfl fn)))))))))))) (lp126_12002 _ v11988 v11989 I11959 hI11959 fiI11959 w11961 ew11961 w11962 ew11962 w11963 ew11963 w11964 ew11964 w11965 ew11965 w11966 ew11966 w11967 ew11967 w11968 ew11968 w11969 ew11969 (by omega) (by omega) (by omega) (by omega) (by omega) (by omega) (by omega) (by omega) (by omega) (by omega) (by omega) (by omega) (by omega) (by omega) (by omega) PA_I11959_11959 (by have hq := pv11987; rw [show w11963.toInt = w11922.toInt by omega] at hq; rw [hv11989, Int.zero_mul]; omega) (Nat.lt_succ_self _))
                · refine WP_goto 243 dX2_weigh_106 rfl ?_
                  refine WP_iinc (ls' := [(0, _), (1, _), (2, _), (3, _), (4, _), (5, _), (6, _), (7, _), (8, _), (9, _)]) dX2_weigh_243 rfl (by decide) rfl ?_
                  have hv12059 : (i11958 + Int32.ofInt (1)).toInt = i11958.toInt + (1) := ia_n rfl (by omega) (by omega)
                  generalize i11958 + Int32.ofInt (1) = v12059 at hv12059 ⊢
                  refine WP_goto 33 dX2_weigh_246 rfl ?_
                  exact WP_sub (fc rfl (fc rfl (fc rfl (fc rfl (fc rfl (fc rfl (fc rfl fn))))))) (ihlp33_11969 v12059 I11959 hI11959 fiI11959 w11961 ew11961 w11962 ew11962 w11963 ew11963 w11964 ew11964 w11965 ew11965 w11966 ew11966 w11967 ew11967 w11968 ew11968 w11969 ew11969 (by omega) (by omega) (by omega) (by omega) (by omega) (by omega) (by omega) (by omega) (by omega) (by omega) (by omega) (by omega) PA_I11959_11959 (by omega))
        exact WP_sub (fc rfl (fc rfl (fc rfl (fc rfl (fc rfl (fc rfl (fc rfl fn))))))) (lp33_11969 _ v11957 I11942 hI11942 fiI11942 w11944 ew11944 w11945 ew11945 w11946 ew11946 w11947 ew11947 w11948 ew11948 w11949 ew11949 w11950 ew11950 w11951 ew11951 w11952 ew11952 (by omega) (by omega) (by omega) (by omega) (by omega) (by omega) (by omega) (by omega) (by omega) (by omega) (by omega) (by omega) PA_I11942_11942 (Nat.lt_succ_self _))
  obtain ⟨w12060, ew12060⟩ : ∃ w : Int32, I11929 (ad g 43) 1 = w := ⟨_, rfl⟩
  have bw12060 := BT_get hI11929.1 43 1 2 (0) (0) (47) (by decide) 1 (by decide) (by decide)
  rw [ew12060] at bw12060
  exact WP_sub (fc rfl (fc rfl (fc rfl (fc rfl (fc rfl (fc rfl fn)))))) (lp18_11952 _ v11940 I11929 hI11929 fr11939 w11920 e11931 w11921 e11932 w11922 e11933 w11923 e11934 w11924 e11935 w11925 e11936 v11928 e11938 w12060 ew12060 w11926 e11937 (by omega) (by omega) (by omega) (by omega) (by omega) (by omega) (by omega) (by omega) (by omega) (by omega) (by omega) (by omega) (Or.inl (by omega)) (Nat.lt_succ_self _))
