set_option maxHeartbeats 4000000 in
set_option maxRecDepth 100000 in
theorem sm_town {g : GG} {n : Int} {L : Int32} (hy : Ly g) {aK aV : Nat → Nat} {fo : Option Nat} (hz : HZ g aK aV fo)  {I : pI} {J : pJ} {R : pR} (hr : Rf g R) (hI : MP g n L I)   (hn : 0 ≤ n) : SP g mX11_town [.ref (ad g 0)] I J R (fun r I' J' R' => ((∃ L2 : Int32, MP g n L2 I' ∧ L2.toInt = 0) ∧ R' = R) ∧ ∃ v : Int32, r = some (.int v)) := by
  refine SP_of ⟨by decide, rfl⟩ (Nat.le_of_ble_eq_true rfl) ?_
  have e9876 : I (ad g 0) 1 = L := hI.1.2
  have b9877 := BT_get hI.1.1 0 1 2 (0) (0) (900) (by decide) 1 (by decide) (by decide)
  rw [e9876] at b9877
  refine WP_aload_n dX11_town_0 rfl ?_
  refine WP_callV0 (k := 11) dX11_town_1 ⟨⟨⟨by decide, by decide⟩, zX11_open⟩, lX11_323, by decide, rfl, vX11_open.1, vX11_open.2⟩ (ly_is hy 0 11 rfl) (sm_openx hy hr hI  ) (Nat.le_of_ble_eq_true rfl) ?_
  intro r I9878 J9879 Ra hq
  obtain ⟨⟨⟨L9880, hI9878, qL9880⟩, ec, pI9878⟩, rfl⟩ := hq
  rw [ec]
  clear ec Ra
  have e9881 : I9878 (ad g 0) 1 = L9880 := hI9878.1.2
  have b9882 := BT_get hI9878.1.1 0 1 2 (0) (0) (900) (by decide) 1 (by decide) (by decide)
  rw [e9881] at b9882
  obtain ⟨w9883, ew9883⟩ : ∃ w : Int32, I9878 (ad g 0) 2 = w := ⟨_, rfl⟩
  have bw9883 := BT_get hI9878.1.1 0 2 3 (0) (0) (900) (by decide) 2 (by decide) (by decide)
  rw [ew9883] at bw9883
  obtain ⟨w9884, ew9884⟩ : ∃ w : Int32, I9878 (ad g 0) 3 = w := ⟨_, rfl⟩
  have bw9884 := BT_get hI9878.1.1 0 3 4 (0) (0) (900) (by decide) 3 (by decide) (by decide)
  rw [ew9884] at bw9884
  obtain ⟨w9885, ew9885⟩ : ∃ w : Int32, I9878 (ad g 0) 4 = w := ⟨_, rfl⟩
  have bw9885 := BT_get hI9878.1.1 0 4 5 (0) (0) (900) (by decide) 4 (by decide) (by decide)
  rw [ew9885] at bw9885
  obtain ⟨w9886, ew9886⟩ : ∃ w : Int32, I9878 (ad g 0) 5 = w := ⟨_, rfl⟩
  have bw9886 := BT_get hI9878.1.1 0 5 6 (0) (0) (4) (by decide) 5 (by decide) (by decide)
  rw [ew9886] at bw9886
  rw [ew9883, ew9884, ew9885, ew9886] at pI9878
  refine WP_aload_n dX11_town_4 rfl ?_
  refine WP_callV0 (k := 11) dX11_town_5 ⟨⟨⟨by decide, by decide⟩, zX11_readTown⟩, lX11_326, by decide, rfl, vX11_readTown.1, vX11_readTown.2⟩ (ly_is hy 0 11 rfl) (sm_readTown hy hz hr hI9878   (by rw [ew9883, ew9884, ew9885, ew9886]; omega)) (Nat.le_of_ble_eq_true rfl) ?_
  intro r I9887 J9888 Ra hq
  obtain ⟨⟨hI9887, ec, fiI9887⟩, v9889, rfl, av9889, bv9889, cv9889⟩ := hq
  show WP _ _ _ _ (.int _ :: _) _ _ _ _
  rw [ec]
  clear ec Ra
  have e9890 : I9887 (ad g 0) 1 = L9880 := hI9887.1.2
  have b9891 := BT_get hI9887.1.1 0 1 2 (0) (0) (900) (by decide) 1 (by decide) (by decide)
  rw [e9890] at b9891
  refine WQ_if_ne 13 dX11_town_8 rfl (fun c9891 => ?_) (fun c9891 => ?_)
  · obtain ⟨w9893, ew9893⟩ : ∃ w : Int32, I9887 (ad g 0) 15 = w := ⟨_, rfl⟩
    have bw9893 := BT_get hI9887.1.1 0 15 16 (0) (0) (4) (by decide) 15 (by decide) (by decide)
    rw [ew9893] at bw9893
    obtain ⟨w9894, ew9894⟩ : ∃ w : Int32, I9887 (ad g 0) 17 = w := ⟨_, rfl⟩
    have bw9894 := BT_get hI9887.1.1 0 17 18 (-1) (0) (3) (by decide) 17 (by decide) (by decide)
    rw [ew9894] at bw9894
    obtain ⟨cc, cwr⟩ := cv9889 (by omega)
    rw [ew9894, ew9893] at cc
    rw [ew9893] at cwr
    have hmw := mp_mw hI9887
    refine WP_aload_n dX11_town_13 rfl ?_
    refine WP_aload_n dX11_town_14 rfl ?_
    refine WQ_getim dX11_town_15 fX11_88 rfl (ly_is hy 0 11 rfl) ew9893 ?_
    refine WQ_puti dX11_town_18 fX11_329 rfl rfl (ly_is hy 0 11 rfl) (fun I9895 eI9895 => ?_)
    have hI9895 : MW g n L9880 I9895 := by rw [eI9895]; exact (mw_w hy hmw (c := 0) (mi_f hy hmw.1 (c := 0) (0) (0) (4) (by decide) (Or.inr (by decide)) (by decide) (by omega) (by omega)) (by decide) (by decide) (Or.inr (by decide)))
    have e9896 : I9895 (ad g 0) 1 = L9880 := by rw [eI9895, pp_ne _ _ (Or.inr (by decide))]; exact e9890
    have e9897 : I9895 (ad g 0) 15 = w9893 := by rw [eI9895, pp_ne _ _ (Or.inr (by decide))]; exact ew9893
    have e9898 : I9895 (ad g 0) 17 = w9894 := by rw [eI9895, pp_ne _ _ (Or.inr (by decide))]; exact ew9894
    have e9899 : I9895 (ad g 0) 10 = w9893 := by rw [eI9895, pp_self]
    have WI9895 := cwr
    rw [← (show I9895 (ad g 30) = I9887 (ad g 30) by rw [eI9895, pp_off _ _ (ly_ne hy (by decide) (by decide) (by decide))]), ← (show I9895 (ad g 31) = I9887 (ad g 31) by rw [eI9895, pp_off _ _ (ly_ne hy (by decide) (by decide) (by decide))])] at WI9895
    clear eI9895
    refine WP_aload_n dX11_town_21 rfl ?_
    refine WP_aload_n dX11_town_22 rfl ?_
    refine WQ_geti dX11_town_23 fX11_126 rfl (ly_is hy 0 11 rfl) (BT_get hI9895.1.1 0 16 17 (0) (0) (3) (by decide) 16 (by decide) (by decide)) (fun v9900 ev9900 av9900 bv9900 => ?_)
    refine WQ_puti dX11_town_26 fX11_332 rfl rfl (ly_is hy 0 11 rfl) (fun I9901 eI9901 => ?_)
    have hI9901 : MW g n L9880 I9901 := by rw [eI9901]; exact (mw_w hy hI9895 (c := 0) (mi_f hy hI9895.1 (c := 0) (0) (0) (3) (by decide) (Or.inr (by decide)) (by decide) (by omega) (by omega)) (by decide) (by decide) (Or.inr (by decide)))
    have e9902 : I9901 (ad g 0) 1 = L9880 := by rw [eI9901, pp_ne _ _ (Or.inr (by decide))]; exact e9896
    have e9903 : I9901 (ad g 0) 15 = w9893 := by rw [eI9901, pp_ne _ _ (Or.inr (by decide))]; exact e9897
    have e9904 : I9901 (ad g 0) 17 = w9894 := by rw [eI9901, pp_ne _ _ (Or.inr (by decide))]; exact e9898
    have e9905 : I9901 (ad g 0) 10 = w9893 := by rw [eI9901, pp_ne _ _ (Or.inr (by decide))]; exact e9899
    have e9906 : I9901 (ad g 0) 16 = v9900 := by rw [eI9901, pp_ne _ _ (Or.inr (by decide))]; exact ev9900
    have e9907 : I9901 (ad g 0) 11 = v9900 := by rw [eI9901, pp_self]
    have WI9901 := WI9895
    rw [← (show I9901 (ad g 30) = I9895 (ad g 30) by rw [eI9901, pp_off _ _ (ly_ne hy (by decide) (by decide) (by decide))]), ← (show I9901 (ad g 31) = I9895 (ad g 31) by rw [eI9901, pp_off _ _ (ly_ne hy (by decide) (by decide) (by decide))])] at WI9901
    clear eI9901
    refine WP_aload_n dX11_town_29 rfl ?_
    refine WP_aload_n dX11_town_30 rfl ?_
    refine WQ_getim dX11_town_31 fX11_158 rfl (ly_is hy 0 11 rfl) e9904 ?_
    refine WQ_puti dX11_town_34 fX11_221 rfl rfl (ly_is hy 0 11 rfl) (fun I9908 eI9908 => ?_)
    have hI9908 : MW g n L9880 I9908 := by rw [eI9908]; exact (mw_w hy hI9901 (c := 0) (mi_f hy hI9901.1 (c := 0) (-1) (0) (3) (by decide) (Or.inr (by decide)) (by decide) (by omega) (by omega)) (by decide) (by decide) (Or.inr (by decide)))
    have e9909 : I9908 (ad g 0) 1 = L9880 := by rw [eI9908, pp_ne _ _ (Or.inr (by decide))]; exact e9902
    have e9910 : I9908 (ad g 0) 15 = w9893 := by rw [eI9908, pp_ne _ _ (Or.inr (by decide))]; exact e9903
    have e9911 : I9908 (ad g 0) 17 = w9894 := by rw [eI9908, pp_ne _ _ (Or.inr (by decide))]; exact e9904
    have e9912 : I9908 (ad g 0) 10 = w9893 := by rw [eI9908, pp_ne _ _ (Or.inr (by decide))]; exact e9905
    have e9913 : I9908 (ad g 0) 16 = v9900 := by rw [eI9908, pp_ne _ _ (Or.inr (by decide))]; exact e9906
    have e9914 : I9908 (ad g 0) 11 = v9900 := by rw [eI9908, pp_ne _ _ (Or.inr (by decide))]; exact e9907
    have e9915 : I9908 (ad g 0) 13 = w9894 := by rw [eI9908, pp_self]
    have WI9908 := WI9901
    rw [← (show I9908 (ad g 30) = I9901 (ad g 30) by rw [eI9908, pp_off _ _ (ly_ne hy (by decide) (by decide) (by decide))]), ← (show I9908 (ad g 31) = I9901 (ad g 31) by rw [eI9908, pp_off _ _ (ly_ne hy (by decide) (by decide) (by decide))])] at WI9908
    clear eI9908
    refine WP_aload_n dX11_town_37 rfl ?_
    refine WP_aload_n dX11_town_38 rfl ?_
    refine WQ_geti dX11_town_39 fX11_161 rfl (ly_is hy 0 11 rfl) (BT_get hI9908.1.1 0 18 19 (-1) (0) (2) (by decide) 18 (by decide) (by decide)) (fun v9916 ev9916 av9916 bv9916 => ?_)
    refine WQ_iconst (-1) (-1) dX11_town_42 rfl rfl (fun v9917 hv9917 => ?_)
    have jn65_9921 : ∀ (v9921 : Int32), -1 ≤ v9921.toInt → v9921.toInt ≤ 2 → WP g mX11_town 65 [(0, .ref (ad g 0))] [.int v9921, .ref (ad g 0)] I9908 J9888 R (fun r I' J' R' => ((∃ L2 : Int32, MP g n L2 I' ∧ L2.toInt = 0) ∧ R' = R) ∧ ∃ v : Int32, r = some (.int v)) := by
      intro v9921 av9921 bv9921
      refine WQ_puti dX11_town_65 fX11_224 rfl rfl (ly_is hy 0 11 rfl) (fun I9923 eI9923 => ?_)
      have hI9923 : MW g n L9880 I9923 := by rw [eI9923]; exact (mw_w hy hI9908 (c := 0) (mi_f hy hI9908.1 (c := 0) (-1) (0) (2) (by decide) (Or.inr (by decide)) (by decide) (by omega) (by omega)) (by decide) (by decide) (Or.inr (by decide)))
      have e9924 : I9923 (ad g 0) 1 = L9880 := by rw [eI9923, pp_ne _ _ (Or.inr (by decide))]; exact e9909
      have e9925 : I9923 (ad g 0) 15 = w9893 := by rw [eI9923, pp_ne _ _ (Or.inr (by decide))]; exact e9910
      have e9926 : I9923 (ad g 0) 17 = w9894 := by rw [eI9923, pp_ne _ _ (Or.inr (by decide))]; exact e9911
      have e9927 : I9923 (ad g 0) 10 = w9893 := by rw [eI9923, pp_ne _ _ (Or.inr (by decide))]; exact e9912
      have e9928 : I9923 (ad g 0) 16 = v9900 := by rw [eI9923, pp_ne _ _ (Or.inr (by decide))]; exact e9913
      have e9929 : I9923 (ad g 0) 11 = v9900 := by rw [eI9923, pp_ne _ _ (Or.inr (by decide))]; exact e9914
      have e9930 : I9923 (ad g 0) 13 = w9894 := by rw [eI9923, pp_ne _ _ (Or.inr (by decide))]; exact e9915
      have e9931 : I9923 (ad g 0) 18 = v9916 := by rw [eI9923, pp_ne _ _ (Or.inr (by decide))]; exact ev9916
      have e9932 : I9923 (ad g 0) 14 = v9921 := by rw [eI9923, pp_self]
      have WI9923 := WI9908
      rw [← (show I9923 (ad g 30) = I9908 (ad g 30) by rw [eI9923, pp_off _ _ (ly_ne hy (by decide) (by decide) (by decide))]), ← (show I9923 (ad g 31) = I9908 (ad g 31) by rw [eI9923, pp_off _ _ (ly_ne hy (by decide) (by decide) (by decide))])] at WI9923
      clear eI9923
      refine WP_aload_n dX11_town_68 rfl ?_
      refine WP_aload_n dX11_town_69 rfl ?_
      refine WQ_getiu dX11_town_70 fX11_207 rfl (ly_is hy 0 11 rfl) (fun v9933 ev9933 => ?_)
      refine WQ_puti dX11_town_73 fX11_335 rfl rfl (ly_is hy 0 11 rfl) (fun I9934 eI9934 => ?_)
      have hI9934 : MW g n L9880 I9934 := by rw [eI9934]; exact (mw_w hy hI9923 (c := 0) (mi_f0 hy hI9923.1 (c := 0) (by decide) (Or.inr (by decide)) (by decide)) (by decide) (by decide) (Or.inr (by decide)))
      have e9935 : I9934 (ad g 0) 1 = L9880 := by rw [eI9934, pp_ne _ _ (Or.inr (by decide))]; exact e9924
      have e9936 : I9934 (ad g 0) 15 = w9893 := by rw [eI9934, pp_ne _ _ (Or.inr (by decide))]; exact e9925
      have e9937 : I9934 (ad g 0) 17 = w9894 := by rw [eI9934, pp_ne _ _ (Or.inr (by decide))]; exact e9926
      have e9938 : I9934 (ad g 0) 10 = w9893 := by rw [eI9934, pp_ne _ _ (Or.inr (by decide))]; exact e9927
      have e9939 : I9934 (ad g 0) 16 = v9900 := by rw [eI9934, pp_ne _ _ (Or.inr (by decide))]; exact e9928
      have e9940 : I9934 (ad g 0) 11 = v9900 := by rw [eI9934, pp_ne _ _ (Or.inr (by decide))]; exact e9929
      have e9941 : I9934 (ad g 0) 13 = w9894 := by rw [eI9934, pp_ne _ _ (Or.inr (by decide))]; exact e9930
      have e9942 : I9934 (ad g 0) 18 = v9916 := by rw [eI9934, pp_ne _ _ (Or.inr (by decide))]; exact e9931
      have e9943 : I9934 (ad g 0) 14 = v9921 := by rw [eI9934, pp_ne _ _ (Or.inr (by decide))]; exact e9932
      have e9944 : I9934 (ad g 0) 19 = v9933 := by rw [eI9934, pp_ne _ _ (Or.inr (by decide))]; exact ev9933
      have e9945 : I9934 (ad g 0) 12 = v9933 := by rw [eI9934, pp_self]
      have WI9934 := WI9923
      rw [← (show I9934 (ad g 30) = I9923 (ad g 30) by rw [eI9934, pp_off _ _ (ly_ne hy (by decide) (by decide) (by decide))]), ← (show I9934 (ad g 31) = I9923 (ad g 31) by rw [eI9934, pp_off _ _ (ly_ne hy (by decide) (by decide) (by decide))])] at WI9934
      clear eI9934
      refine WQ_iconst (0) (0) dX11_town_76 rfl rfl (fun v9946 hv9946 => ?_)
      refine WP_istore_n (ls' := [(0, _), (1, _)]) dX11_town_77 (by decide) rfl ?_
      have lp78_9949 : ∀ (mz : Nat) (i9947 : Int32) (J9948 : pJ), 0 ≤ i9947.toInt → i9947.toInt ≤ 4 → (5 - i9947.toInt).toNat < mz → WP g mX11_town 78 [(0, .ref (ad g 0)), (1, .int i9947)] [] I9934 J9948 R (fun r I' J' R' => ((∃ L2 : Int32, MP g n L2 I' ∧ L2.toInt = 0) ∧ R' = R) ∧ ∃ v : Int32, r = some (.int v)) := by
        intro mz
        induction mz with
        | zero =>
          intro i9947 J9948 ai9947 bi9947 hmlp78_9949
          exact absurd hmlp78_9949 (Nat.not_lt_zero _)
        | succ mz ihlp78_9949 =>
          intro i9947 J9948 ai9947 bi9947 hmlp78_9949
          refine WP_iload_n dX11_town_78 rfl ?_
          refine WP_aload_n dX11_town_79 rfl ?_
          refine WQ_getim dX11_town_80 fX11_329 rfl (ly_is hy 0 11 rfl) e9938 ?_
          refine WQ_icmp_ge 104 dX11_town_83 rfl (fun c9950 => ?_) (fun c9950 => ?_)
          · refine WQ_iconst (0) (0) dX11_town_104 rfl rfl (fun v9952 hv9952 => ?_)
            refine WP_istore_n (ls' := [(0, _), (1, _)]) dX11_town_105 (by decide) rfl ?_
            have lp106_9955 : ∀ (mz : Nat) (i9953 : Int32) (J9954 : pJ), 0 ≤ i9953.toInt → i9953.toInt ≤ 3 → (4 - i9953.toInt).toNat < mz → WP g mX11_town 106 [(0, .ref (ad g 0)), (1, .int i9953)] [] I9934 J9954 R (fun r I' J' R' => ((∃ L2 : Int32, MP g n L2 I' ∧ L2.toInt = 0) ∧ R' = R) ∧ ∃ v : Int32, r = some (.int v)) := by
              intro mz
              induction mz with
              | zero =>
                intro i9953 J9954 ai9953 bi9953 hmlp106_9955
                exact absurd hmlp106_9955 (Nat.not_lt_zero _)
              | succ mz ihlp106_9955 =>
                intro i9953 J9954 ai9953 bi9953 hmlp106_9955
                refine WP_iload_n dX11_town_106 rfl ?_
                refine WP_aload_n dX11_town_107 rfl ?_
                refine WQ_getim dX11_town_108 fX11_332 rfl (ly_is hy 0 11 rfl) e9940 ?_
                refine WQ_icmp_ge 132 dX11_town_111 rfl (fun c9956 => ?_) (fun c9956 => ?_)
                · refine WP_aload_n dX11_town_132 rfl ?_
                  refine WP_getr dX11_town_133 fX11_233 rfl (ly_is hy 0 11 rfl) (rf hr 0 24 6 (by decide)) ?_
                  refine WP_aload_n dX11_town_136 rfl ?_
                  refine WP_getr dX11_town_137 fX11_84 rfl (ly_is hy 0 11 rfl) (rf hr 0 25 7 (by decide)) ?_
                  refine WP_callS2 dX11_town_140 ⟨⟨⟨by decide, by decide⟩, zX11_copy⟩, lX11_338, tX11_copy⟩ (sm_copyw_6_7 hy hr hI9934  ) (Nat.le_of_ble_eq_true rfl) ?_
                  intro r I9958 J9959 Ra hq
                  obtain ⟨⟨hI9958, ec, fiI9958, pI9958⟩, rfl⟩ := hq
                  rw [ec]
                  clear ec Ra
                  have WI9958 := WI9934
                  rw [← fz_at fiI9958 30 (by decide) (by decide), ← fz_at fiI9958 31 (by decide) (by decide)] at WI9958
                  have e9960 : I9958 (ad g 0) 15 = w9893 := by rw [fz_at fiI9958 0 (by decide) (by decide)]; exact e9936
                  have e9961 : I9958 (ad g 0) 17 = w9894 := by rw [fz_at fiI9958 0 (by decide) (by decide)]; exact e9937
                  have e9962 : I9958 (ad g 0) 10 = w9893 := by rw [fz_at fiI9958 0 (by decide) (by decide)]; exact e9938
                  have e9963 : I9958 (ad g 0) 16 = v9900 := by rw [fz_at fiI9958 0 (by decide) (by decide)]; exact e9939
                  have e9964 : I9958 (ad g 0) 11 = v9900 := by rw [fz_at fiI9958 0 (by decide) (by decide)]; exact e9940
                  have e9965 : I9958 (ad g 0) 13 = w9894 := by rw [fz_at fiI9958 0 (by decide) (by decide)]; exact e9941
                  have e9966 : I9958 (ad g 0) 18 = v9916 := by rw [fz_at fiI9958 0 (by decide) (by decide)]; exact e9942
                  have e9967 : I9958 (ad g 0) 14 = v9921 := by rw [fz_at fiI9958 0 (by decide) (by decide)]; exact e9943
                  have e9968 : I9958 (ad g 0) 19 = v9933 := by rw [fz_at fiI9958 0 (by decide) (by decide)]; exact e9944
                  have e9969 : I9958 (ad g 0) 12 = v9933 := by rw [fz_at fiI9958 0 (by decide) (by decide)]; exact e9945
                  have e9970 : I9958 (ad g 0) 1 = L9880 := hI9958.1.2
                  have b9971 := BT_get hI9958.1.1 0 1 2 (0) (0) (900) (by decide) 1 (by decide) (by decide)
                  rw [e9970] at b9971
                  refine WP_aload_n dX11_town_143 rfl ?_
                  refine WP_getr dX11_town_144 fX11_235 rfl (ly_is hy 0 11 rfl) (rf hr 0 26 8 (by decide)) ?_
                  refine WP_aload_n dX11_town_147 rfl ?_
                  refine WP_getr dX11_town_148 fX11_99 rfl (ly_is hy 0 11 rfl) (rf hr 0 32 14 (by decide)) ?_
                  refine WP_callS2 dX11_town_151 ⟨⟨⟨by decide, by decide⟩, zX11_copy⟩, lX11_338, tX11_copy⟩ (sm_copyw_8_14 hy hr hI9958  ) (Nat.le_of_ble_eq_true rfl) ?_
                  intro r I9972 J9973 Ra hq
                  obtain ⟨⟨hI9972, ec, fiI9972, pI9972⟩, rfl⟩ := hq
                  rw [ec]
                  clear ec Ra
                  have WI9972 := WI9958
                  rw [← fz_at fiI9972 30 (by decide) (by decide), ← fz_at fiI9972 31 (by decide) (by decide)] at WI9972
                  have P8I9972 : ∀ q : Nat, q < 4 → I9972 (ad g 8) q = I9972 (ad g 14) q := fun q hq => by rw [fz_at fiI9972 14 (by decide) (by decide)]; exact pI9972 q hq
                  have e9974 : I9972 (ad g 0) 15 = w9893 := by rw [fz_at fiI9972 0 (by decide) (by decide)]; exact e9960
                  have e9975 : I9972 (ad g 0) 17 = w9894 := by rw [fz_at fiI9972 0 (by decide) (by decide)]; exact e9961
                  have e9976 : I9972 (ad g 0) 10 = w9893 := by rw [fz_at fiI9972 0 (by decide) (by decide)]; exact e9962
                  have e9977 : I9972 (ad g 0) 16 = v9900 := by rw [fz_at fiI9972 0 (by decide) (by decide)]; exact e9963
                  have e9978 : I9972 (ad g 0) 11 = v9900 := by rw [fz_at fiI9972 0 (by decide) (by decide)]; exact e9964
                  have e9979 : I9972 (ad g 0) 13 = w9894 := by rw [fz_at fiI9972 0 (by decide) (by decide)]; exact e9965
                  have e9980 : I9972 (ad g 0) 18 = v9916 := by rw [fz_at fiI9972 0 (by decide) (by decide)]; exact e9966
                  have e9981 : I9972 (ad g 0) 14 = v9921 := by rw [fz_at fiI9972 0 (by decide) (by decide)]; exact e9967
                  have e9982 : I9972 (ad g 0) 19 = v9933 := by rw [fz_at fiI9972 0 (by decide) (by decide)]; exact e9968
                  have e9983 : I9972 (ad g 0) 12 = v9933 := by rw [fz_at fiI9972 0 (by decide) (by decide)]; exact e9969
                  have e9984 : I9972 (ad g 0) 1 = L9880 := hI9972.1.2
                  have b9985 := BT_get hI9972.1.1 0 1 2 (0) (0) (900) (by decide) 1 (by decide) (by decide)
                  rw [e9984] at b9985
                  refine WP_aload_n dX11_town_154 rfl ?_
                  refine WP_getr dX11_town_155 fX11_238 rfl (ly_is hy 0 11 rfl) (rf hr 0 27 9 (by decide)) ?_
                  refine WP_aload_n dX11_town_158 rfl ?_
                  refine WP_getr dX11_town_159 fX11_102 rfl (ly_is hy 0 11 rfl) (rf hr 0 33 15 (by decide)) ?_
                  refine WP_callS2 dX11_town_162 ⟨⟨⟨by decide, by decide⟩, zX11_copy⟩, lX11_338, tX11_copy⟩ (sm_copyw_9_15 hy hr hI9972  ) (Nat.le_of_ble_eq_true rfl) ?_
                  intro r I9986 J9987 Ra hq
                  obtain ⟨⟨hI9986, ec, fiI9986, pI9986⟩, rfl⟩ := hq
                  rw [ec]
                  clear ec Ra
                  have WI9986 := WI9972
                  rw [← fz_at fiI9986 30 (by decide) (by decide), ← fz_at fiI9986 31 (by decide) (by decide)] at WI9986
                  have P8I9986 : ∀ q : Nat, q < 4 → I9986 (ad g 8) q = I9986 (ad g 14) q := fun q hq => by rw [fz_at fiI9986 8 (by decide) (by decide), fz_at fiI9986 14 (by decide) (by decide)]; exact P8I9972 q hq
                  have e9988 : I9986 (ad g 0) 15 = w9893 := by rw [fz_at fiI9986 0 (by decide) (by decide)]; exact e9974
                  have e9989 : I9986 (ad g 0) 17 = w9894 := by rw [fz_at fiI9986 0 (by decide) (by decide)]; exact e9975
                  have e9990 : I9986 (ad g 0) 10 = w9893 := by rw [fz_at fiI9986 0 (by decide) (by decide)]; exact e9976
                  have e9991 : I9986 (ad g 0) 16 = v9900 := by rw [fz_at fiI9986 0 (by decide) (by decide)]; exact e9977
                  have e9992 : I9986 (ad g 0) 11 = v9900 := by rw [fz_at fiI9986 0 (by decide) (by decide)]; exact e9978
                  have e9993 : I9986 (ad g 0) 13 = w9894 := by rw [fz_at fiI9986 0 (by decide) (by decide)]; exact e9979
                  have e9994 : I9986 (ad g 0) 18 = v9916 := by rw [fz_at fiI9986 0 (by decide) (by decide)]; exact e9980
                  have e9995 : I9986 (ad g 0) 14 = v9921 := by rw [fz_at fiI9986 0 (by decide) (by decide)]; exact e9981
                  have e9996 : I9986 (ad g 0) 19 = v9933 := by rw [fz_at fiI9986 0 (by decide) (by decide)]; exact e9982
                  have e9997 : I9986 (ad g 0) 12 = v9933 := by rw [fz_at fiI9986 0 (by decide) (by decide)]; exact e9983
                  have e9998 : I9986 (ad g 0) 1 = L9880 := hI9986.1.2
                  have b9999 := BT_get hI9986.1.1 0 1 2 (0) (0) (900) (by decide) 1 (by decide) (by decide)
                  rw [e9998] at b9999
                  refine WP_aload_n dX11_town_165 rfl ?_
                  refine WP_getr dX11_town_166 fX11_241 rfl (ly_is hy 0 11 rfl) (rf hr 0 28 10 (by decide)) ?_
                  refine WP_aload_n dX11_town_169 rfl ?_
                  refine WP_getr dX11_town_170 fX11_105 rfl (ly_is hy 0 11 rfl) (rf hr 0 34 16 (by decide)) ?_
                  refine WP_callS2 dX11_town_173 ⟨⟨⟨by decide, by decide⟩, zX11_copy⟩, lX11_338, tX11_copy⟩ (sm_copyw_10_16 hy hr hI9986  ) (Nat.le_of_ble_eq_true rfl) ?_
                  intro r I10000 J10001 Ra hq
                  obtain ⟨⟨hI10000, ec, fiI10000, pI10000⟩, rfl⟩ := hq
                  rw [ec]
                  clear ec Ra
                  have WI10000 := WI9986
                  rw [← fz_at fiI10000 30 (by decide) (by decide), ← fz_at fiI10000 31 (by decide) (by decide)] at WI10000
                  have P8I10000 : ∀ q : Nat, q < 4 → I10000 (ad g 8) q = I10000 (ad g 14) q := fun q hq => by rw [fz_at fiI10000 8 (by decide) (by decide), fz_at fiI10000 14 (by decide) (by decide)]; exact P8I9986 q hq
                  have e10002 : I10000 (ad g 0) 15 = w9893 := by rw [fz_at fiI10000 0 (by decide) (by decide)]; exact e9988
                  have e10003 : I10000 (ad g 0) 17 = w9894 := by rw [fz_at fiI10000 0 (by decide) (by decide)]; exact e9989
                  have e10004 : I10000 (ad g 0) 10 = w9893 := by rw [fz_at fiI10000 0 (by decide) (by decide)]; exact e9990
                  have e10005 : I10000 (ad g 0) 16 = v9900 := by rw [fz_at fiI10000 0 (by decide) (by decide)]; exact e9991
                  have e10006 : I10000 (ad g 0) 11 = v9900 := by rw [fz_at fiI10000 0 (by decide) (by decide)]; exact e9992
                  have e10007 : I10000 (ad g 0) 13 = w9894 := by rw [fz_at fiI10000 0 (by decide) (by decide)]; exact e9993
                  have e10008 : I10000 (ad g 0) 18 = v9916 := by rw [fz_at fiI10000 0 (by decide) (by decide)]; exact e9994
                  have e10009 : I10000 (ad g 0) 14 = v9921 := by rw [fz_at fiI10000 0 (by decide) (by decide)]; exact e9995
                  have e10010 : I10000 (ad g 0) 19 = v9933 := by rw [fz_at fiI10000 0 (by decide) (by decide)]; exact e9996
                  have e10011 : I10000 (ad g 0) 12 = v9933 := by rw [fz_at fiI10000 0 (by decide) (by decide)]; exact e9997
                  have e10012 : I10000 (ad g 0) 1 = L9880 := hI10000.1.2
                  have b10013 := BT_get hI10000.1.1 0 1 2 (0) (0) (900) (by decide) 1 (by decide) (by decide)
                  rw [e10012] at b10013
                  refine WP_aload_n dX11_town_176 rfl ?_
                  refine WP_getr dX11_town_177 fX11_244 rfl (ly_is hy 0 11 rfl) (rf hr 0 29 11 (by decide)) ?_
                  refine WP_aload_n dX11_town_180 rfl ?_
                  refine WP_getr dX11_town_181 fX11_108 rfl (ly_is hy 0 11 rfl) (rf hr 0 35 17 (by decide)) ?_
                  refine WP_callS2 dX11_town_184 ⟨⟨⟨by decide, by decide⟩, zX11_copy⟩, lX11_338, tX11_copy⟩ (sm_copyw_11_17 hy hr hI10000  ) (Nat.le_of_ble_eq_true rfl) ?_
                  intro r I10014 J10015 Ra hq
                  obtain ⟨⟨hI10014, ec, fiI10014, pI10014⟩, rfl⟩ := hq
                  rw [ec]
                  clear ec Ra
                  have WI10014 := WI10000
                  rw [← fz_at fiI10014 30 (by decide) (by decide), ← fz_at fiI10014 31 (by decide) (by decide)] at WI10014
                  have P8I10014 : ∀ q : Nat, q < 4 → I10014 (ad g 8) q = I10014 (ad g 14) q := fun q hq => by rw [fz_at fiI10014 8 (by decide) (by decide), fz_at fiI10014 14 (by decide) (by decide)]; exact P8I10000 q hq
                  have e10016 : I10014 (ad g 0) 15 = w9893 := by rw [fz_at fiI10014 0 (by decide) (by decide)]; exact e10002
                  have e10017 : I10014 (ad g 0) 17 = w9894 := by rw [fz_at fiI10014 0 (by decide) (by decide)]; exact e10003
                  have e10018 : I10014 (ad g 0) 10 = w9893 := by rw [fz_at fiI10014 0 (by decide) (by decide)]; exact e10004
                  have e10019 : I10014 (ad g 0) 16 = v9900 := by rw [fz_at fiI10014 0 (by decide) (by decide)]; exact e10005
                  have e10020 : I10014 (ad g 0) 11 = v9900 := by rw [fz_at fiI10014 0 (by decide) (by decide)]; exact e10006
                  have e10021 : I10014 (ad g 0) 13 = w9894 := by rw [fz_at fiI10014 0 (by decide) (by decide)]; exact e10007
                  have e10022 : I10014 (ad g 0) 18 = v9916 := by rw [fz_at fiI10014 0 (by decide) (by decide)]; exact e10008
                  have e10023 : I10014 (ad g 0) 14 = v9921 := by rw [fz_at fiI10014 0 (by decide) (by decide)]; exact e10009
                  have e10024 : I10014 (ad g 0) 19 = v9933 := by rw [fz_at fiI10014 0 (by decide) (by decide)]; exact e10010
                  have e10025 : I10014 (ad g 0) 12 = v9933 := by rw [fz_at fiI10014 0 (by decide) (by decide)]; exact e10011
                  have e10026 : I10014 (ad g 0) 1 = L9880 := hI10014.1.2
                  have b10027 := BT_get hI10014.1.1 0 1 2 (0) (0) (900) (by decide) 1 (by decide) (by decide)
                  rw [e10026] at b10027
                  refine WP_aload_n dX11_town_187 rfl ?_
                  refine WP_getr dX11_town_188 fX11_246 rfl (ly_is hy 0 11 rfl) (rf hr 0 30 12 (by decide)) ?_
                  refine WP_aload_n dX11_town_191 rfl ?_
                  refine WP_getr dX11_town_192 fX11_132 rfl (ly_is hy 0 11 rfl) (rf hr 0 36 18 (by decide)) ?_
                  refine WP_callS2 dX11_town_195 ⟨⟨⟨by decide, by decide⟩, zX11_copy⟩, lX11_338, tX11_copy⟩ (sm_copyw_12_18 hy hr hI10014  ) (Nat.le_of_ble_eq_true rfl) ?_
                  intro r I10028 J10029 Ra hq
                  obtain ⟨⟨hI10028, ec, fiI10028, pI10028⟩, rfl⟩ := hq
                  rw [ec]
                  clear ec Ra
                  have WI10028 := WI10014
                  rw [← fz_at fiI10028 30 (by decide) (by decide), ← fz_at fiI10028 31 (by decide) (by decide)] at WI10028
                  have P8I10028 : ∀ q : Nat, q < 4 → I10028 (ad g 8) q = I10028 (ad g 14) q := fun q hq => by rw [fz_at fiI10028 8 (by decide) (by decide), fz_at fiI10028 14 (by decide) (by decide)]; exact P8I10014 q hq
                  have e10030 : I10028 (ad g 0) 15 = w9893 := by rw [fz_at fiI10028 0 (by decide) (by decide)]; exact e10016
                  have e10031 : I10028 (ad g 0) 17 = w9894 := by rw [fz_at fiI10028 0 (by decide) (by decide)]; exact e10017
                  have e10032 : I10028 (ad g 0) 10 = w9893 := by rw [fz_at fiI10028 0 (by decide) (by decide)]; exact e10018
                  have e10033 : I10028 (ad g 0) 16 = v9900 := by rw [fz_at fiI10028 0 (by decide) (by decide)]; exact e10019
                  have e10034 : I10028 (ad g 0) 11 = v9900 := by rw [fz_at fiI10028 0 (by decide) (by decide)]; exact e10020
                  have e10035 : I10028 (ad g 0) 13 = w9894 := by rw [fz_at fiI10028 0 (by decide) (by decide)]; exact e10021
                  have e10036 : I10028 (ad g 0) 18 = v9916 := by rw [fz_at fiI10028 0 (by decide) (by decide)]; exact e10022
                  have e10037 : I10028 (ad g 0) 14 = v9921 := by rw [fz_at fiI10028 0 (by decide) (by decide)]; exact e10023
                  have e10038 : I10028 (ad g 0) 19 = v9933 := by rw [fz_at fiI10028 0 (by decide) (by decide)]; exact e10024
                  have e10039 : I10028 (ad g 0) 12 = v9933 := by rw [fz_at fiI10028 0 (by decide) (by decide)]; exact e10025
                  have e10040 : I10028 (ad g 0) 1 = L9880 := hI10028.1.2
                  have b10041 := BT_get hI10028.1.1 0 1 2 (0) (0) (900) (by decide) 1 (by decide) (by decide)
                  rw [e10040] at b10041
                  refine WP_aload_n dX11_town_198 rfl ?_
                  refine WP_getr dX11_town_199 fX11_249 rfl (ly_is hy 0 11 rfl) (rf hr 0 31 13 (by decide)) ?_
                  refine WP_aload_n dX11_town_202 rfl ?_
                  refine WP_getr dX11_town_203 fX11_135 rfl (ly_is hy 0 11 rfl) (rf hr 0 37 19 (by decide)) ?_
                  refine WP_callS2 dX11_town_206 ⟨⟨⟨by decide, by decide⟩, zX11_copy⟩, lX11_338, tX11_copy⟩ (sm_copyw_13_19 hy hr hI10028  ) (Nat.le_of_ble_eq_true rfl) ?_
                  intro r I10042 J10043 Ra hq
                  obtain ⟨⟨hI10042, ec, fiI10042, pI10042⟩, rfl⟩ := hq
                  rw [ec]
                  clear ec Ra
                  have WI10042 := WI10028
                  rw [← fz_at fiI10042 30 (by decide) (by decide), ← fz_at fiI10042 31 (by decide) (by decide)] at WI10042
                  have P8I10042 : ∀ q : Nat, q < 4 → I10042 (ad g 8) q = I10042 (ad g 14) q := fun q hq => by rw [fz_at fiI10042 8 (by decide) (by decide), fz_at fiI10042 14 (by decide) (by decide)]; exact P8I10028 q hq
                  have e10044 : I10042 (ad g 0) 15 = w9893 := by rw [fz_at fiI10042 0 (by decide) (by decide)]; exact e10030
                  have e10045 : I10042 (ad g 0) 17 = w9894 := by rw [fz_at fiI10042 0 (by decide) (by decide)]; exact e10031
                  have e10046 : I10042 (ad g 0) 10 = w9893 := by rw [fz_at fiI10042 0 (by decide) (by decide)]; exact e10032
                  have e10047 : I10042 (ad g 0) 16 = v9900 := by rw [fz_at fiI10042 0 (by decide) (by decide)]; exact e10033
                  have e10048 : I10042 (ad g 0) 11 = v9900 := by rw [fz_at fiI10042 0 (by decide) (by decide)]; exact e10034
                  have e10049 : I10042 (ad g 0) 13 = w9894 := by rw [fz_at fiI10042 0 (by decide) (by decide)]; exact e10035
                  have e10050 : I10042 (ad g 0) 18 = v9916 := by rw [fz_at fiI10042 0 (by decide) (by decide)]; exact e10036
                  have e10051 : I10042 (ad g 0) 14 = v9921 := by rw [fz_at fiI10042 0 (by decide) (by decide)]; exact e10037
                  have e10052 : I10042 (ad g 0) 19 = v9933 := by rw [fz_at fiI10042 0 (by decide) (by decide)]; exact e10038
                  have e10053 : I10042 (ad g 0) 12 = v9933 := by rw [fz_at fiI10042 0 (by decide) (by decide)]; exact e10039
                  have e10054 : I10042 (ad g 0) 1 = L9880 := hI10042.1.2
                  have b10055 := BT_get hI10042.1.1 0 1 2 (0) (0) (900) (by decide) 1 (by decide) (by decide)
                  rw [e10054] at b10055
                  refine WP_aload_n dX11_town_209 rfl ?_
                  refine WP_getr dX11_town_210 fX11_252 rfl (ly_is hy 0 11 rfl) (rf hr 0 38 20 (by decide)) ?_
                  refine WP_aload_n dX11_town_213 rfl ?_
                  refine WP_getr dX11_town_214 fX11_114 rfl (ly_is hy 0 11 rfl) (rf hr 0 45 27 (by decide)) ?_
                  refine WP_callS2 dX11_town_217 ⟨⟨⟨by decide, by decide⟩, zX11_copy⟩, lX11_338, tX11_copy⟩ (sm_copyw_20_27 hy hr hI10042  ) (Nat.le_of_ble_eq_true rfl) ?_
                  intro r I10056 J10057 Ra hq
                  obtain ⟨⟨hI10056, ec, fiI10056, pI10056⟩, rfl⟩ := hq
                  rw [ec]
                  clear ec Ra
                  have WI10056 := WI10042
                  rw [← fz_at fiI10056 30 (by decide) (by decide), ← fz_at fiI10056 31 (by decide) (by decide)] at WI10056
                  have P8I10056 : ∀ q : Nat, q < 4 → I10056 (ad g 8) q = I10056 (ad g 14) q := fun q hq => by rw [fz_at fiI10056 8 (by decide) (by decide), fz_at fiI10056 14 (by decide) (by decide)]; exact P8I10042 q hq
                  have e10058 : I10056 (ad g 0) 15 = w9893 := by rw [fz_at fiI10056 0 (by decide) (by decide)]; exact e10044
                  have e10059 : I10056 (ad g 0) 17 = w9894 := by rw [fz_at fiI10056 0 (by decide) (by decide)]; exact e10045
                  have e10060 : I10056 (ad g 0) 10 = w9893 := by rw [fz_at fiI10056 0 (by decide) (by decide)]; exact e10046
                  have e10061 : I10056 (ad g 0) 16 = v9900 := by rw [fz_at fiI10056 0 (by decide) (by decide)]; exact e10047
                  have e10062 : I10056 (ad g 0) 11 = v9900 := by rw [fz_at fiI10056 0 (by decide) (by decide)]; exact e10048
                  have e10063 : I10056 (ad g 0) 13 = w9894 := by rw [fz_at fiI10056 0 (by decide) (by decide)]; exact e10049
                  have e10064 : I10056 (ad g 0) 18 = v9916 := by rw [fz_at fiI10056 0 (by decide) (by decide)]; exact e10050
                  have e10065 : I10056 (ad g 0) 14 = v9921 := by rw [fz_at fiI10056 0 (by decide) (by decide)]; exact e10051
                  have e10066 : I10056 (ad g 0) 19 = v9933 := by rw [fz_at fiI10056 0 (by decide) (by decide)]; exact e10052
                  have e10067 : I10056 (ad g 0) 12 = v9933 := by rw [fz_at fiI10056 0 (by decide) (by decide)]; exact e10053
                  have e10068 : I10056 (ad g 0) 1 = L9880 := hI10056.1.2
                  have b10069 := BT_get hI10056.1.1 0 1 2 (0) (0) (900) (by decide) 1 (by decide) (by decide)
                  rw [e10068] at b10069
                  refine WP_aload_n dX11_town_220 rfl ?_
                  refine WP_getr dX11_town_221 fX11_254 rfl (ly_is hy 0 11 rfl) (rf hr 0 39 21 (by decide)) ?_
                  refine WP_aload_n dX11_town_224 rfl ?_
                  refine WP_getr dX11_town_225 fX11_141 rfl (ly_is hy 0 11 rfl) (rf hr 0 46 28 (by decide)) ?_
                  refine WP_callS2 dX11_town_228 ⟨⟨⟨by decide, by decide⟩, zX11_copy⟩, lX11_338, tX11_copy⟩ (sm_copyw_21_28 hy hr hI10056  ) (Nat.le_of_ble_eq_true rfl) ?_
                  intro r I10070 J10071 Ra hq
                  obtain ⟨⟨hI10070, ec, fiI10070, pI10070⟩, rfl⟩ := hq
                  rw [ec]
                  clear ec Ra
                  have WI10070 := WI10056
                  rw [← fz_at fiI10070 30 (by decide) (by decide), ← fz_at fiI10070 31 (by decide) (by decide)] at WI10070
                  have P8I10070 : ∀ q : Nat, q < 4 → I10070 (ad g 8) q = I10070 (ad g 14) q := fun q hq => by rw [fz_at fiI10070 8 (by decide) (by decide), fz_at fiI10070 14 (by decide) (by decide)]; exact P8I10056 q hq
                  have e10072 : I10070 (ad g 0) 15 = w9893 := by rw [fz_at fiI10070 0 (by decide) (by decide)]; exact e10058
                  have e10073 : I10070 (ad g 0) 17 = w9894 := by rw [fz_at fiI10070 0 (by decide) (by decide)]; exact e10059
                  have e10074 : I10070 (ad g 0) 10 = w9893 := by rw [fz_at fiI10070 0 (by decide) (by decide)]; exact e10060
                  have e10075 : I10070 (ad g 0) 16 = v9900 := by rw [fz_at fiI10070 0 (by decide) (by decide)]; exact e10061
                  have e10076 : I10070 (ad g 0) 11 = v9900 := by rw [fz_at fiI10070 0 (by decide) (by decide)]; exact e10062
                  have e10077 : I10070 (ad g 0) 13 = w9894 := by rw [fz_at fiI10070 0 (by decide) (by decide)]; exact e10063
                  have e10078 : I10070 (ad g 0) 18 = v9916 := by rw [fz_at fiI10070 0 (by decide) (by decide)]; exact e10064
                  have e10079 : I10070 (ad g 0) 14 = v9921 := by rw [fz_at fiI10070 0 (by decide) (by decide)]; exact e10065
                  have e10080 : I10070 (ad g 0) 19 = v9933 := by rw [fz_at fiI10070 0 (by decide) (by decide)]; exact e10066
                  have e10081 : I10070 (ad g 0) 12 = v9933 := by rw [fz_at fiI10070 0 (by decide) (by decide)]; exact e10067
                  have e10082 : I10070 (ad g 0) 1 = L9880 := hI10070.1.2
                  have b10083 := BT_get hI10070.1.1 0 1 2 (0) (0) (900) (by decide) 1 (by decide) (by decide)
                  rw [e10082] at b10083
                  refine WP_aload_n dX11_town_231 rfl ?_
                  refine WP_getr dX11_town_232 fX11_257 rfl (ly_is hy 0 11 rfl) (rf hr 0 40 22 (by decide)) ?_
                  refine WP_aload_n dX11_town_235 rfl ?_
                  refine WP_getr dX11_town_236 fX11_141 rfl (ly_is hy 0 11 rfl) (rf hr 0 46 28 (by decide)) ?_
                  refine WP_callS2 dX11_town_239 ⟨⟨⟨by decide, by decide⟩, zX11_copy⟩, lX11_338, tX11_copy⟩ (sm_copyw_22_28 hy hr hI10070  ) (Nat.le_of_ble_eq_true rfl) ?_
                  intro r I10084 J10085 Ra hq
                  obtain ⟨⟨hI10084, ec, fiI10084, pI10084⟩, rfl⟩ := hq
                  rw [ec]
                  clear ec Ra
                  have WI10084 := WI10070
                  rw [← fz_at fiI10084 30 (by decide) (by decide), ← fz_at fiI10084 31 (by decide) (by decide)] at WI10084
                  have P8I10084 : ∀ q : Nat, q < 4 → I10084 (ad g 8) q = I10084 (ad g 14) q := fun q hq => by rw [fz_at fiI10084 8 (by decide) (by decide), fz_at fiI10084 14 (by decide) (by decide)]; exact P8I10070 q hq
                  have e10086 : I10084 (ad g 0) 15 = w9893 := by rw [fz_at fiI10084 0 (by decide) (by decide)]; exact e10072
                  have e10087 : I10084 (ad g 0) 17 = w9894 := by rw [fz_at fiI10084 0 (by decide) (by decide)]; exact e10073
                  have e10088 : I10084 (ad g 0) 10 = w9893 := by rw [fz_at fiI10084 0 (by decide) (by decide)]; exact e10074
                  have e10089 : I10084 (ad g 0) 16 = v9900 := by rw [fz_at fiI10084 0 (by decide) (by decide)]; exact e10075
                  have e10090 : I10084 (ad g 0) 11 = v9900 := by rw [fz_at fiI10084 0 (by decide) (by decide)]; exact e10076
                  have e10091 : I10084 (ad g 0) 13 = w9894 := by rw [fz_at fiI10084 0 (by decide) (by decide)]; exact e10077
                  have e10092 : I10084 (ad g 0) 18 = v9916 := by rw [fz_at fiI10084 0 (by decide) (by decide)]; exact e10078
                  have e10093 : I10084 (ad g 0) 14 = v9921 := by rw [fz_at fiI10084 0 (by decide) (by decide)]; exact e10079
                  have e10094 : I10084 (ad g 0) 19 = v9933 := by rw [fz_at fiI10084 0 (by decide) (by decide)]; exact e10080
                  have e10095 : I10084 (ad g 0) 12 = v9933 := by rw [fz_at fiI10084 0 (by decide) (by decide)]; exact e10081
                  have e10096 : I10084 (ad g 0) 1 = L9880 := hI10084.1.2
                  have b10097 := BT_get hI10084.1.1 0 1 2 (0) (0) (900) (by decide) 1 (by decide) (by decide)
                  rw [e10096] at b10097
                  refine WP_aload_n dX11_town_242 rfl ?_
                  refine WP_getr dX11_town_243 fX11_259 rfl (ly_is hy 0 11 rfl) (rf hr 0 41 23 (by decide)) ?_
                  refine WP_aload_n dX11_town_246 rfl ?_
                  refine WP_getr dX11_town_247 fX11_144 rfl (ly_is hy 0 11 rfl) (rf hr 0 47 29 (by decide)) ?_
                  refine WP_callS2 dX11_town_250 ⟨⟨⟨by decide, by decide⟩, zX11_copy⟩, lX11_338, tX11_copy⟩ (sm_copyw_23_29 hy hr hI10084  ) (Nat.le_of_ble_eq_true rfl) ?_
                  intro r I10098 J10099 Ra hq
                  obtain ⟨⟨hI10098, ec, fiI10098, pI10098⟩, rfl⟩ := hq
                  rw [ec]
                  clear ec Ra
                  have WI10098 := WI10084
                  rw [← fz_at fiI10098 30 (by decide) (by decide), ← fz_at fiI10098 31 (by decide) (by decide)] at WI10098
                  have P8I10098 : ∀ q : Nat, q < 4 → I10098 (ad g 8) q = I10098 (ad g 14) q := fun q hq => by rw [fz_at fiI10098 8 (by decide) (by decide), fz_at fiI10098 14 (by decide) (by decide)]; exact P8I10084 q hq
                  have e10100 : I10098 (ad g 0) 15 = w9893 := by rw [fz_at fiI10098 0 (by decide) (by decide)]; exact e10086
                  have e10101 : I10098 (ad g 0) 17 = w9894 := by rw [fz_at fiI10098 0 (by decide) (by decide)]; exact e10087
                  have e10102 : I10098 (ad g 0) 10 = w9893 := by rw [fz_at fiI10098 0 (by decide) (by decide)]; exact e10088
                  have e10103 : I10098 (ad g 0) 16 = v9900 := by rw [fz_at fiI10098 0 (by decide) (by decide)]; exact e10089
                  have e10104 : I10098 (ad g 0) 11 = v9900 := by rw [fz_at fiI10098 0 (by decide) (by decide)]; exact e10090
                  have e10105 : I10098 (ad g 0) 13 = w9894 := by rw [fz_at fiI10098 0 (by decide) (by decide)]; exact e10091
                  have e10106 : I10098 (ad g 0) 18 = v9916 := by rw [fz_at fiI10098 0 (by decide) (by decide)]; exact e10092
                  have e10107 : I10098 (ad g 0) 14 = v9921 := by rw [fz_at fiI10098 0 (by decide) (by decide)]; exact e10093
                  have e10108 : I10098 (ad g 0) 19 = v9933 := by rw [fz_at fiI10098 0 (by decide) (by decide)]; exact e10094
                  have e10109 : I10098 (ad g 0) 12 = v9933 := by rw [fz_at fiI10098 0 (by decide) (by decide)]; exact e10095
                  have e10110 : I10098 (ad g 0) 1 = L9880 := hI10098.1.2
                  have b10111 := BT_get hI10098.1.1 0 1 2 (0) (0) (900) (by decide) 1 (by decide) (by decide)
                  rw [e10110] at b10111
                  refine WP_aload_n dX11_town_253 rfl ?_
                  refine WP_getr dX11_town_254 fX11_261 rfl (ly_is hy 0 11 rfl) (rf hr 0 42 24 (by decide)) ?_
                  refine WP_aload_n dX11_town_257 rfl ?_
                  refine WP_getr dX11_town_258 fX11_117 rfl (ly_is hy 0 11 rfl) (rf hr 0 48 30 (by decide)) ?_
                  refine WP_callS2 dX11_town_261 ⟨⟨⟨by decide, by decide⟩, zX11_copy⟩, lX11_338, tX11_copy⟩ (sm_copyw_24_30 hy hr hI10098  ) (Nat.le_of_ble_eq_true rfl) ?_
                  intro r I10112 J10113 Ra hq
                  obtain ⟨⟨hI10112, ec, fiI10112, pI10112⟩, rfl⟩ := hq
                  rw [ec]
                  clear ec Ra
                  have WI10112 := WI10098
                  rw [← fz_at fiI10112 30 (by decide) (by decide), ← fz_at fiI10112 31 (by decide) (by decide)] at WI10112
                  have P8I10112 : ∀ q : Nat, q < 4 → I10112 (ad g 8) q = I10112 (ad g 14) q := fun q hq => by rw [fz_at fiI10112 8 (by decide) (by decide), fz_at fiI10112 14 (by decide) (by decide)]; exact P8I10098 q hq
                  have P24I10112 : ∀ q : Nat, q < 28 → I10112 (ad g 24) q = I10112 (ad g 30) q := fun q hq => by rw [fz_at fiI10112 30 (by decide) (by decide)]; exact pI10112 q hq
                  have e10114 : I10112 (ad g 0) 15 = w9893 := by rw [fz_at fiI10112 0 (by decide) (by decide)]; exact e10100
                  have e10115 : I10112 (ad g 0) 17 = w9894 := by rw [fz_at fiI10112 0 (by decide) (by decide)]; exact e10101
                  have e10116 : I10112 (ad g 0) 10 = w9893 := by rw [fz_at fiI10112 0 (by decide) (by decide)]; exact e10102
                  have e10117 : I10112 (ad g 0) 16 = v9900 := by rw [fz_at fiI10112 0 (by decide) (by decide)]; exact e10103
                  have e10118 : I10112 (ad g 0) 11 = v9900 := by rw [fz_at fiI10112 0 (by decide) (by decide)]; exact e10104
                  have e10119 : I10112 (ad g 0) 13 = w9894 := by rw [fz_at fiI10112 0 (by decide) (by decide)]; exact e10105
                  have e10120 : I10112 (ad g 0) 18 = v9916 := by rw [fz_at fiI10112 0 (by decide) (by decide)]; exact e10106
                  have e10121 : I10112 (ad g 0) 14 = v9921 := by rw [fz_at fiI10112 0 (by decide) (by decide)]; exact e10107
                  have e10122 : I10112 (ad g 0) 19 = v9933 := by rw [fz_at fiI10112 0 (by decide) (by decide)]; exact e10108
                  have e10123 : I10112 (ad g 0) 12 = v9933 := by rw [fz_at fiI10112 0 (by decide) (by decide)]; exact e10109
                  have e10124 : I10112 (ad g 0) 1 = L9880 := hI10112.1.2
                  have b10125 := BT_get hI10112.1.1 0 1 2 (0) (0) (900) (by decide) 1 (by decide) (by decide)
                  rw [e10124] at b10125
                  refine WP_aload_n dX11_town_264 rfl ?_
                  refine WP_getr dX11_town_265 fX11_264 rfl (ly_is hy 0 11 rfl) (rf hr 0 43 25 (by decide)) ?_
                  refine WP_aload_n dX11_town_268 rfl ?_
                  refine WP_getr dX11_town_269 fX11_120 rfl (ly_is hy 0 11 rfl) (rf hr 0 49 31 (by decide)) ?_
                  refine WP_callS2 dX11_town_272 ⟨⟨⟨by decide, by decide⟩, zX11_copy⟩, lX11_338, tX11_copy⟩ (sm_copyw_25_31 hy hr hI10112  ) (Nat.le_of_ble_eq_true rfl) ?_
                  intro r I10126 J10127 Ra hq
                  obtain ⟨⟨hI10126, ec, fiI10126, pI10126⟩, rfl⟩ := hq
                  rw [ec]
                  clear ec Ra
                  have WI10126 := WI10112
                  rw [← fz_at fiI10126 30 (by decide) (by decide), ← fz_at fiI10126 31 (by decide) (by decide)] at WI10126
                  have P8I10126 : ∀ q : Nat, q < 4 → I10126 (ad g 8) q = I10126 (ad g 14) q := fun q hq => by rw [fz_at fiI10126 8 (by decide) (by decide), fz_at fiI10126 14 (by decide) (by decide)]; exact P8I10112 q hq
                  have P24I10126 : ∀ q : Nat, q < 28 → I10126 (ad g 24) q = I10126 (ad g 30) q := fun q hq => by rw [fz_at fiI10126 24 (by decide) (by decide), fz_at fiI10126 30 (by decide) (by decide)]; exact P24I10112 q hq
                  have P25I10126 : ∀ q : Nat, q < 28 → I10126 (ad g 25) q = I10126 (ad g 31) q := fun q hq => by rw [fz_at fiI10126 31 (by decide) (by decide)]; exact pI10126 q hq
                  have e10128 : I10126 (ad g 0) 15 = w9893 := by rw [fz_at fiI10126 0 (by decide) (by decide)]; exact e10114
                  have e10129 : I10126 (ad g 0) 17 = w9894 := by rw [fz_at fiI10126 0 (by decide) (by decide)]; exact e10115
                  have e10130 : I10126 (ad g 0) 10 = w9893 := by rw [fz_at fiI10126 0 (by decide) (by decide)]; exact e10116
                  have e10131 : I10126 (ad g 0) 16 = v9900 := by rw [fz_at fiI10126 0 (by decide) (by decide)]; exact e10117
                  have e10132 : I10126 (ad g 0) 11 = v9900 := by rw [fz_at fiI10126 0 (by decide) (by decide)]; exact e10118
                  have e10133 : I10126 (ad g 0) 13 = w9894 := by rw [fz_at fiI10126 0 (by decide) (by decide)]; exact e10119
                  have e10134 : I10126 (ad g 0) 18 = v9916 := by rw [fz_at fiI10126 0 (by decide) (by decide)]; exact e10120
                  have e10135 : I10126 (ad g 0) 14 = v9921 := by rw [fz_at fiI10126 0 (by decide) (by decide)]; exact e10121
                  have e10136 : I10126 (ad g 0) 19 = v9933 := by rw [fz_at fiI10126 0 (by decide) (by decide)]; exact e10122
                  have e10137 : I10126 (ad g 0) 12 = v9933 := by rw [fz_at fiI10126 0 (by decide) (by decide)]; exact e10123
                  have e10138 : I10126 (ad g 0) 1 = L9880 := hI10126.1.2
                  have b10139 := BT_get hI10126.1.1 0 1 2 (0) (0) (900) (by decide) 1 (by decide) (by decide)
                  rw [e10138] at b10139
                  refine WP_aload_n dX11_town_275 rfl ?_
                  refine WP_getr dX11_town_276 fX11_267 rfl (ly_is hy 0 11 rfl) (rf hr 0 44 26 (by decide)) ?_
                  refine WP_aload_n dX11_town_279 rfl ?_
                  refine WP_getr dX11_town_280 fX11_123 rfl (ly_is hy 0 11 rfl) (rf hr 0 50 32 (by decide)) ?_
                  refine WP_callS2 dX11_town_283 ⟨⟨⟨by decide, by decide⟩, zX11_copy⟩, lX11_338, tX11_copy⟩ (sm_copyw_26_32 hy hr hI10126  ) (Nat.le_of_ble_eq_true rfl) ?_
                  intro r I10140 J10141 Ra hq
                  obtain ⟨⟨hI10140, ec, fiI10140, pI10140⟩, rfl⟩ := hq
                  rw [ec]
                  clear ec Ra
                  have WI10140 := WI10126
                  rw [← fz_at fiI10140 30 (by decide) (by decide), ← fz_at fiI10140 31 (by decide) (by decide)] at WI10140
                  have P8I10140 : ∀ q : Nat, q < 4 → I10140 (ad g 8) q = I10140 (ad g 14) q := fun q hq => by rw [fz_at fiI10140 8 (by decide) (by decide), fz_at fiI10140 14 (by decide) (by decide)]; exact P8I10126 q hq
                  have P24I10140 : ∀ q : Nat, q < 28 → I10140 (ad g 24) q = I10140 (ad g 30) q := fun q hq => by rw [fz_at fiI10140 24 (by decide) (by decide), fz_at fiI10140 30 (by decide) (by decide)]; exact P24I10126 q hq
                  have P25I10140 : ∀ q : Nat, q < 28 → I10140 (ad g 25) q = I10140 (ad g 31) q := fun q hq => by rw [fz_at fiI10140 25 (by decide) (by decide), fz_at fiI10140 31 (by decide) (by decide)]; exact P25I10126 q hq
                  have e10142 : I10140 (ad g 0) 15 = w9893 := by rw [fz_at fiI10140 0 (by decide) (by decide)]; exact e10128
                  have e10143 : I10140 (ad g 0) 17 = w9894 := by rw [fz_at fiI10140 0 (by decide) (by decide)]; exact e10129
                  have e10144 : I10140 (ad g 0) 10 = w9893 := by rw [fz_at fiI10140 0 (by decide) (by decide)]; exact e10130
                  have e10145 : I10140 (ad g 0) 16 = v9900 := by rw [fz_at fiI10140 0 (by decide) (by decide)]; exact e10131
                  have e10146 : I10140 (ad g 0) 11 = v9900 := by rw [fz_at fiI10140 0 (by decide) (by decide)]; exact e10132
                  have e10147 : I10140 (ad g 0) 13 = w9894 := by rw [fz_at fiI10140 0 (by decide) (by decide)]; exact e10133
                  have e10148 : I10140 (ad g 0) 18 = v9916 := by rw [fz_at fiI10140 0 (by decide) (by decide)]; exact e10134
                  have e10149 : I10140 (ad g 0) 14 = v9921 := by rw [fz_at fiI10140 0 (by decide) (by decide)]; exact e10135
                  have e10150 : I10140 (ad g 0) 19 = v9933 := by rw [fz_at fiI10140 0 (by decide) (by decide)]; exact e10136
                  have e10151 : I10140 (ad g 0) 12 = v9933 := by rw [fz_at fiI10140 0 (by decide) (by decide)]; exact e10137
                  have e10152 : I10140 (ad g 0) 1 = L9880 := hI10140.1.2
                  have b10153 := BT_get hI10140.1.1 0 1 2 (0) (0) (900) (by decide) 1 (by decide) (by decide)
                  rw [e10152] at b10153
                  refine WQ_iconst (0) (0) dX11_town_286 rfl rfl (fun v10154 hv10154 => ?_)
                  refine WP_istore_n (ls' := [(0, _), (1, _)]) dX11_town_287 (by decide) rfl ?_
                  have lp288_10161 : ∀ (mz : Nat) (i10155 : Int32) (I10156 : pI) (J10157 : pJ), MW g n L9880 I10156 → ∀ (w10159 : Int32), I10156 (ad g 0) 10 = w10159 → ∀ (w10160 : Int32), I10156 (ad g 0) 13 = w10160 → ∀ (w10161 : Int32), I10156 (ad g 0) 15 = w10161 → 0 ≤ i10155.toInt → i10155.toInt ≤ 4 → w10159.toInt = w10161.toInt → w10160.toInt < w10161.toInt → (∀ q : Nat, q < 4 → I10156 (ad g 8) q = I10156 (ad g 14) q) → (∀ q : Nat, q < 28 → I10156 (ad g 24) q = I10156 (ad g 30) q) → (∀ q : Nat, q < 28 → I10156 (ad g 25) q = I10156 (ad g 31) q) → (WRt (I10156 (ad g 30)) (I10156 (ad g 31)) (7 * w10161.toInt)) → (5 - i10155.toInt).toNat < mz → WP g mX11_town 288 [(0, .ref (ad g 0)), (1, .int i10155)] [] I10156 J10157 R (fun r I' J' R' => ((∃ L2 : Int32, MP g n L2 I' ∧ L2.toInt = 0) ∧ R' = R) ∧ ∃ v : Int32, r = some (.int v)) := by
                    intro mz
                    induction mz with
                    | zero =>
                      intro i10155 I10156 J10157 hI10156 w10159 ew10159 w10160 ew10160 w10161 ew10161 ai10155 bi10155 j0_I10156 j1_I10156 PP8_I10156_10157 PP24_I10156_10157 PP25_I10156_10157 PW_I10156_10157 hmlp288_10161
                      exact absurd hmlp288_10161 (Nat.not_lt_zero _)
                    | succ mz ihlp288_10161 =>
                      intro i10155 I10156 J10157 hI10156 w10159 ew10159 w10160 ew10160 w10161 ew10161 ai10155 bi10155 j0_I10156 j1_I10156 PP8_I10156_10157 PP24_I10156_10157 PP25_I10156_10157 PW_I10156_10157 hmlp288_10161
                      have bw10159 := BT_get hI10156.1.1 0 10 11 (0) (0) (4) (by decide) 10 (by decide) (by decide)
                      rw [ew10159] at bw10159
                      have bw10160 := BT_get hI10156.1.1 0 13 14 (-1) (0) (3) (by decide) 13 (by decide) (by decide)
                      rw [ew10160] at bw10160
                      have bw10161 := BT_get hI10156.1.1 0 15 16 (0) (0) (4) (by decide) 15 (by decide) (by decide)
                      rw [ew10161] at bw10161
                      have e10163 : I10156 (ad g 0) 1 = L9880 := hI10156.1.2
                      have b10164 := BT_get hI10156.1.1 0 1 2 (0) (0) (900) (by decide) 1 (by decide) (by decide)
                      rw [e10163] at b10164
                      refine WP_iload_n dX11_town_288 rfl ?_
                      refine WQ_iconst (4) (4) dX11_town_289 rfl rfl (fun v10165 hv10165 => ?_)
                      refine WQ_icmp_ge 323 dX11_town_290 rfl (fun c10165 => ?_) (fun c10165 => ?_)
                      · refine WP_aload_n dX11_town_323 rfl ?_
                        refine WP_aload_n dX11_town_324 rfl ?_
                        refine WP_getr dX11_town_325 fX11_283 rfl (ly_is hy 0 11 rfl) (rf hr 0 59 38 (by decide)) ?_
                        refine WP_callV1 (k := 11) dX11_town_328 ⟨⟨⟨by decide, by decide⟩, zX11_begin⟩, lX11_342, by decide, rfl, vX11_begin.1, vX11_begin.2⟩ (ly_is hy 0 11 rfl) (sm_beginw_38 hy hr hI10156   (by omega)) (Nat.le_of_ble_eq_true rfl) ?_
                        intro r I10167 J10168 Ra hq
                        obtain ⟨⟨hI10167, ec, fiI10167⟩, rfl⟩ := hq
                        rw [ec]
                        clear ec Ra
                        have P8I10167 : ∀ q : Nat, q < 4 → I10167 (ad g 8) q = I10167 (ad g 14) q := fun q hq => by rw [fz_at fiI10167 8 (by decide) (by decide), fz_at fiI10167 14 (by decide) (by decide)]; exact PP8_I10156_10157 q hq
                        have P24I10167 : ∀ q : Nat, q < 28 → I10167 (ad g 24) q = I10167 (ad g 30) q := fun q hq => by rw [fz_at fiI10167 24 (by decide) (by decide), fz_at fiI10167 30 (by decide) (by decide)]; exact PP24_I10156_10157 q hq
                        have P25I10167 : ∀ q : Nat, q < 28 → I10167 (ad g 25) q = I10167 (ad g 31) q := fun q hq => by rw [fz_at fiI10167 25 (by decide) (by decide), fz_at fiI10167 31 (by decide) (by decide)]; exact PP25_I10156_10157 q hq
                        have WI10167 := PW_I10156_10157
                        rw [← fz_at fiI10167 30 (by decide) (by decide), ← fz_at fiI10167 31 (by decide) (by decide)] at WI10167
                        have e10169 : I10167 (ad g 0) 10 = w10159 := by rw [fz_at fiI10167 0 (by decide) (by decide)]; exact ew10159
                        have e10170 : I10167 (ad g 0) 13 = w10160 := by rw [fz_at fiI10167 0 (by decide) (by decide)]; exact ew10160
                        have e10171 : I10167 (ad g 0) 15 = w10161 := by rw [fz_at fiI10167 0 (by decide) (by decide)]; exact ew10161
                        have e10172 : I10167 (ad g 0) 1 = L9880 := hI10167.1.2
                        have b10173 := BT_get hI10167.1.1 0 1 2 (0) (0) (900) (by decide) 1 (by decide) (by decide)
                        rw [e10172] at b10173
                        refine WP_aload_n dX11_town_331 rfl ?_
                        refine WP_lconst (0) dX11_town_332 rfl ?_
                        obtain ⟨l10174, hl10174, el10174⟩ : ∃ v : Int64, v.toInt = 0 ∧ (0 : Int64) = v := ⟨_, rfl, rfl⟩
                        rw [el10174]; clear el10174
                        refine WQ_putl dX11_town_333 fX11_346 rfl rfl (ly_is hy 0 11 rfl) (fun J10175 eJ10175 => ?_)
                        clear eJ10175
                        refine WP_aload_n dX11_town_336 rfl ?_
                        refine WP_callV0 (k := 11) dX11_town_337 ⟨⟨⟨by decide, by decide⟩, zX11_forgetWeeks⟩, lX11_350, by decide, rfl, vX11_forgetWeeks.1, vX11_forgetWeeks.2⟩ (ly_is hy 0 11 rfl) (sm_forgetWeeksw hy hr hI10167  ) (Nat.le_of_ble_eq_true rfl) ?_
                        intro r I10176 J10177 Ra hq
                        obtain ⟨⟨hI10176, ec, fiI10176⟩, rfl⟩ := hq
                        rw [ec]
                        clear ec Ra
                        have P8I10176 : ∀ q : Nat, q < 4 → I10176 (ad g 8) q = I10176 (ad g 14) q := fun q hq => by rw [fz_at fiI10176 8 (by decide) (by decide), fz_at fiI10176 14 (by decide) (by decide)]; exact P8I10167 q hq
                        have P24I10176 : ∀ q : Nat, q < 28 → I10176 (ad g 24) q = I10176 (ad g 30) q := fun q hq => by rw [fz_at fiI10176 24 (by decide) (by decide), fz_at fiI10176 30 (by decide) (by decide)]; exact P24I10167 q hq
                        have P25I10176 : ∀ q : Nat, q < 28 → I10176 (ad g 25) q = I10176 (ad g 31) q := fun q hq => by rw [fz_at fiI10176 25 (by decide) (by decide), fz_at fiI10176 31 (by decide) (by decide)]; exact P25I10167 q hq
                        have WI10176 := WI10167
                        rw [← fz_at fiI10176 30 (by decide) (by decide), ← fz_at fiI10176 31 (by decide) (by decide)] at WI10176
                        have e10178 : I10176 (ad g 0) 10 = w10159 := by rw [fz_at fiI10176 0 (by decide) (by decide)]; exact e10169
                        have e10179 : I10176 (ad g 0) 13 = w10160 := by rw [fz_at fiI10176 0 (by decide) (by decide)]; exact e10170
                        have e10180 : I10176 (ad g 0) 15 = w10161 := by rw [fz_at fiI10176 0 (by decide) (by decide)]; exact e10171
                        have e10181 : I10176 (ad g 0) 1 = L9880 := hI10176.1.2
                        have b10182 := BT_get hI10176.1.1 0 1 2 (0) (0) (900) (by decide) 1 (by decide) (by decide)
                        rw [e10181] at b10182
                        refine WQ_iconst (0) (0) dX11_town_340 rfl rfl (fun v10183 hv10183 => ?_)
                        refine WP_istore_n (ls' := [(0, _), (1, _)]) dX11_town_341 (by decide) rfl ?_
                        have lp342_10190 : ∀ (mz : Nat) (i10184 : Int32) (I10185 : pI) (J10186 : pJ), MW g n L9880 I10185 → ∀ (w10188 : Int32), I10185 (ad g 0) 10 = w10188 → ∀ (w10189 : Int32), I10185 (ad g 0) 13 = w10189 → ∀ (w10190 : Int32), I10185 (ad g 0) 15 = w10190 → 0 ≤ i10184.toInt → i10184.toInt ≤ 3 → w10188.toInt = w10190.toInt → w10189.toInt < w10190.toInt → (∀ q : Nat, q < 4 → I10185 (ad g 8) q = I10185 (ad g 14) q) → (∀ q : Nat, q < 28 → I10185 (ad g 24) q = I10185 (ad g 30) q) → (∀ q : Nat, q < 28 → I10185 (ad g 25) q = I10185 (ad g 31) q) → (WRt (I10185 (ad g 30)) (I10185 (ad g 31)) (7 * w10190.toInt)) → (4 - i10184.toInt).toNat < mz → WP g mX11_town 342 [(0, .ref (ad g 0)), (1, .int i10184)] [] I10185 J10186 R (fun r I' J' R' => ((∃ L2 : Int32, MP g n L2 I' ∧ L2.toInt = 0) ∧ R' = R) ∧ ∃ v : Int32, r = some (.int v)) := by
                          intro mz
                          induction mz with
                          | zero =>
                            intro i10184 I10185 J10186 hI10185 w10188 ew10188 w10189 ew10189 w10190 ew10190 ai10184 bi10184 j0_I10185 j1_I10185 PP8_I10185_10186 PP24_I10185_10186 PP25_I10185_10186 PW_I10185_10186 hmlp342_10190
                            exact absurd hmlp342_10190 (Nat.not_lt_zero _)
                          | succ mz ihlp342_10190 =>
                            intro i10184 I10185 J10186 hI10185 w10188 ew10188 w10189 ew10189 w10190 ew10190 ai10184 bi10184 j0_I10185 j1_I10185 PP8_I10185_10186 PP24_I10185_10186 PP25_I10185_10186 PW_I10185_10186 hmlp342_10190
                            have bw10188 := BT_get hI10185.1.1 0 10 11 (0) (0) (4) (by decide) 10 (by decide) (by decide)
                            rw [ew10188] at bw10188
                            have bw10189 := BT_get hI10185.1.1 0 13 14 (-1) (0) (3) (by decide) 13 (by decide) (by decide)
                            rw [ew10189] at bw10189
                            have bw10190 := BT_get hI10185.1.1 0 15 16 (0) (0) (4) (by decide) 15 (by decide) (by decide)
                            rw [ew10190] at bw10190
                            have e10192 : I10185 (ad g 0) 1 = L9880 := hI10185.1.2
                            have b10193 := BT_get hI10185.1.1 0 1 2 (0) (0) (900) (by decide) 1 (by decide) (by decide)
                            rw [e10192] at b10193
                            refine WP_iload_n dX11_town_342 rfl ?_
                            refine WQ_iconst (3) (3) dX11_town_343 rfl rfl (fun v10194 hv10194 => ?_)
                            refine WQ_icmp_ge 360 dX11_town_344 rfl (fun c10194 => ?_) (fun c10194 => ?_)
                            · refine WP_aload_n dX11_town_360 rfl ?_
                              refine WQ_iconst (-1) (-1) dX11_town_361 rfl rfl (fun v10196 hv10196 => ?_)
                              refine WQ_puti dX11_town_362 fX11_304 rfl rfl (ly_is hy 0 11 rfl) (fun I10197 eI10197 => ?_)
                              have hI10197 : MW g n L9880 I10197 := by rw [eI10197]; exact (mw_w hy hI10185 (c := 0) (mi_f0 hy hI10185.1 (c := 0) (by decide) (Or.inr (by decide)) (by decide)) (by decide) (by decide) (Or.inr (by decide)))
                              have e10198 : I10197 (ad g 0) 10 = w10188 := by rw [eI10197, pp_ne _ _ (Or.inr (by decide))]; exact ew10188
                              have e10199 : I10197 (ad g 0) 13 = w10189 := by rw [eI10197, pp_ne _ _ (Or.inr (by decide))]; exact ew10189
                              have e10200 : I10197 (ad g 0) 15 = w10190 := by rw [eI10197, pp_ne _ _ (Or.inr (by decide))]; exact ew10190
                              have e10201 : I10197 (ad g 0) 1 = L9880 := by rw [eI10197, pp_ne _ _ (Or.inr (by decide))]; exact e10192
                              have e10202 : I10197 (ad g 0) 68 = v10196 := by rw [eI10197, pp_self]
                              have P8I10197 : ∀ q : Nat, q < 4 → I10197 (ad g 8) q = I10197 (ad g 14) q := fun q hq => by rw [show I10197 (ad g 8) = I10185 (ad g 8) by rw [eI10197, pp_off _ _ (ly_ne hy (by decide) (by decide) (by decide))], show I10197 (ad g 14) = I10185 (ad g 14) by rw [eI10197, pp_off _ _ (ly_ne hy (by decide) (by decide) (by decide))]]; exact PP8_I10185_10186 q hq
                              have P24I10197 : ∀ q : Nat, q < 28 → I10197 (ad g 24) q = I10197 (ad g 30) q := fun q hq => by rw [show I10197 (ad g 24) = I10185 (ad g 24) by rw [eI10197, pp_off _ _ (ly_ne hy (by decide) (by decide) (by decide))], show I10197 (ad g 30) = I10185 (ad g 30) by rw [eI10197, pp_off _ _ (ly_ne hy (by decide) (by decide) (by decide))]]; exact PP24_I10185_10186 q hq
                              have P25I10197 : ∀ q : Nat, q < 28 → I10197 (ad g 25) q = I10197 (ad g 31) q := fun q hq => by rw [show I10197 (ad g 25) = I10185 (ad g 25) by rw [eI10197, pp_off _ _ (ly_ne hy (by decide) (by decide) (by decide))], show I10197 (ad g 31) = I10185 (ad g 31) by rw [eI10197, pp_off _ _ (ly_ne hy (by decide) (by decide) (by decide))]]; exact PP25_I10185_10186 q hq
                              have WI10197 := PW_I10185_10186
                              rw [← (show I10197 (ad g 30) = I10185 (ad g 30) by rw [eI10197, pp_off _ _ (ly_ne hy (by decide) (by decide) (by decide))]), ← (show I10197 (ad g 31) = I10185 (ad g 31) by rw [eI10197, pp_off _ _ (ly_ne hy (by decide) (by decide) (by decide))])] at WI10197
                              clear eI10197
                              have hMP : MP g n L9880 I10197 := ⟨hI10197.1, Or.inl ⟨fun q hq => by rw [e10198] at hq; rw [P8I10197 q (by omega)]; exact hI10197.2.2 q (by rw [e10200]; omega), by rw [e10199, e10198]; omega, fun q hq h24 => by rw [e10198] at hq; rw [P25I10197 q (by omega)]; rw [P24I10197 q (by omega)] at h24; exact WI10197 q (by omega) h24⟩, hI10197.2⟩
                              refine WP_aload_n dX11_town_365 rfl ?_
                              refine WQ_getiu dX11_town_366 fX11_335 rfl (ly_is hy 0 11 rfl) (fun v10203 ev10203 => ?_)
                              exact WP_iret dX11_town_369 rfl ⟨⟨⟨_, hMP, by omega⟩, rfl⟩, _, rfl⟩
                            · refine WP_aload_n dX11_town_347 rfl ?_
                              refine WP_getr dX11_town_348 fX11_301 rfl (ly_is hy 0 11 rfl) (rf hr 0 67 44 (by decide)) ?_
                              refine WP_iload_n dX11_town_351 rfl ?_
                              refine WQ_iconst (0) (0) dX11_town_352 rfl rfl (fun v10204 hv10204 => ?_)
                              refine WQ_zast dX11_town_353 (ly_is hy 44 15 rfl) (ly_n hy 44 3 rfl) (by omega) (by omega) (fun I10205 v10206 eI10205 => ?_)
                              have hI10205 : MW g n L9880 I10205 := by rw [eI10205]; exact (mw_w hy hI10185 (c := 44) (mi_r0 hy hI10185.1 (c := 44) (by decide) (Or.inl (by decide)) (by decide)) (by decide) (by decide) (Or.inl (by decide)))
                              have e10207 : I10205 (ad g 0) 10 = w10188 := by rw [eI10205, pp_ne _ _ (Or.inl (ly_ne hy (by decide) (by decide) (by decide)))]; exact ew10188
                              have e10208 : I10205 (ad g 0) 13 = w10189 := by rw [eI10205, pp_ne _ _ (Or.inl (ly_ne hy (by decide) (by decide) (by decide)))]; exact ew10189
                              have e10209 : I10205 (ad g 0) 15 = w10190 := by rw [eI10205, pp_ne _ _ (Or.inl (ly_ne hy (by decide) (by decide) (by decide)))]; exact ew10190
                              have e10210 : I10205 (ad g 0) 1 = L9880 := by rw [eI10205, pp_ne _ _ (Or.inl (ly_ne hy (by decide) (by decide) (by decide)))]; exact e10192
                              have P8I10205 : ∀ q : Nat, q < 4 → I10205 (ad g 8) q = I10205 (ad g 14) q := fun q hq => by rw [show I10205 (ad g 8) = I10185 (ad g 8) by rw [eI10205, pp_off _ _ (ly_ne hy (by decide) (by decide) (by decide))], show I10205 (ad g 14) = I10185 (ad g 14) by rw [eI10205, pp_off _ _ (ly_ne hy (by decide) (by decide) (by decide))]]; exact PP8_I10185_10186 q hq
                              have P24I10205 : ∀ q : Nat, q < 28 → I10205 (ad g 24) q = I10205 (ad g 30) q := fun q hq => by rw [show I10205 (ad g 24) = I10185 (ad g 24) by rw [eI10205, pp_off _ _ (ly_ne hy (by decide) (by decide) (by decide))], show I10205 (ad g 30) = I10185 (ad g 30) by rw [eI10205, pp_off _ _ (ly_ne hy (by decide) (by decide) (by decide))]]; exact PP24_I10185_10186 q hq
                              have P25I10205 : ∀ q : Nat, q < 28 → I10205 (ad g 25) q = I10205 (ad g 31) q := fun q hq => by rw [show I10205 (ad g 25) = I10185 (ad g 25) by rw [eI10205, pp_off _ _ (ly_ne hy (by decide) (by decide) (by decide))], show I10205 (ad g 31) = I10185 (ad g 31) by rw [eI10205, pp_off _ _ (ly_ne hy (by decide) (by decide) (by decide))]]; exact PP25_I10185_10186 q hq
                              have WI10205 := PW_I10185_10186
                              rw [← (show I10205 (ad g 30) = I10185 (ad g 30) by rw [eI10205, pp_off _ _ (ly_ne hy (by decide) (by decide) (by decide))]), ← (show I10205 (ad g 31) = I10185 (ad g 31) by rw [eI10205, pp_off _ _ (ly_ne hy (by decide) (by decide) (by decide))])] at WI10205
                              clear eI10205
                              refine WP_iinc (ls' := [(0, _), (1, _)]) dX11_town_354 rfl (by decide) rfl ?_
                              have hv10211 : (i10184 + Int32.ofInt (1)).toInt = i10184.toInt + (1) := ia_n rfl (by omega) (by omega)
                              generalize i10184 + Int32.ofInt (1) = v10211 at hv10211 ⊢
                              refine WP_goto 342 dX11_town_357 rfl ?_
                              exact WP_sub (fc rfl (fc rfl fn)) (ihlp342_10190 v10211 I10205 J10186 hI10205 w10188 e10207 w10189 e10208 w10190 e10209 (by omega) (by omega) (by omega) (by omega) P8I10205 P24I10205 P25I10205 WI10205 (by omega))
                        exact WP_sub (fc rfl (fc rfl fn)) (lp342_10190 _ v10183 I10176 J10177 hI10176 w10159 e10178 w10160 e10179 w10161 e10180 (by omega) (by omega) (by omega) (by omega) P8I10176 P24I10176 P25I10176 WI10176 (Nat.lt_succ_self _))
                      · refine WP_aload_n dX11_town_293 rfl ?_
                        refine WP_getr dX11_town_294 fX11_283 rfl (ly_is hy 0 11 rfl) (rf hr 0 59 38 (by decide)) ?_
                        refine WQ_bipush (28) (28) dX11_town_297 rfl rfl (fun v10212 hv10212 => ?_)
                        refine WP_iload_n dX11_town_299 rfl ?_
                        refine WQ_iadd dX11_town_300 (by omega) (by omega) (fun v10213 hv10213 => ?_)
                        refine WQ_iconst (1) (1) dX11_town_301 rfl rfl (fun v10214 hv10214 => ?_)
                        refine WQ_iast dX11_town_302 (ly_is hy 38 13 rfl) (ly_n hy 38 35 rfl) (by omega) (by omega) (fun I10215 eI10215 => ?_)
                        have hI10215 : MW g n L9880 I10215 := by rw [eI10215]; exact (mw_w hy hI10156 (c := 38) (mi_rr hy hI10156.1 (c := 38) (28) (31) (0) (0) (0) (by decide) (Or.inl (by decide)) (by rw [cl (n := v10213.toInt.toNat) (by omega)]; omega) (by decide) (fun h => absurd h (by decide))) (by decide) (by decide) (Or.inl (by decide)))
                        have e10216 : I10215 (ad g 0) 10 = w10159 := by rw [eI10215, pp_ne _ _ (Or.inl (ly_ne hy (by decide) (by decide) (by decide)))]; exact ew10159
                        have e10217 : I10215 (ad g 0) 13 = w10160 := by rw [eI10215, pp_ne _ _ (Or.inl (ly_ne hy (by decide) (by decide) (by decide)))]; exact ew10160
                        have e10218 : I10215 (ad g 0) 15 = w10161 := by rw [eI10215, pp_ne _ _ (Or.inl (ly_ne hy (by decide) (by decide) (by decide)))]; exact ew10161
                        have e10219 : I10215 (ad g 0) 1 = L9880 := by rw [eI10215, pp_ne _ _ (Or.inl (ly_ne hy (by decide) (by decide) (by decide)))]; exact e10163
                        have P8I10215 : ∀ q : Nat, q < 4 → I10215 (ad g 8) q = I10215 (ad g 14) q := fun q hq => by rw [show I10215 (ad g 8) = I10156 (ad g 8) by rw [eI10215, pp_off _ _ (ly_ne hy (by decide) (by decide) (by decide))], show I10215 (ad g 14) = I10156 (ad g 14) by rw [eI10215, pp_off _ _ (ly_ne hy (by decide) (by decide) (by decide))]]; exact PP8_I10156_10157 q hq
                        have P24I10215 : ∀ q : Nat, q < 28 → I10215 (ad g 24) q = I10215 (ad g 30) q := fun q hq => by rw [show I10215 (ad g 24) = I10156 (ad g 24) by rw [eI10215, pp_off _ _ (ly_ne hy (by decide) (by decide) (by decide))], show I10215 (ad g 30) = I10156 (ad g 30) by rw [eI10215, pp_off _ _ (ly_ne hy (by decide) (by decide) (by decide))]]; exact PP24_I10156_10157 q hq
                        have P25I10215 : ∀ q : Nat, q < 28 → I10215 (ad g 25) q = I10215 (ad g 31) q := fun q hq => by rw [show I10215 (ad g 25) = I10156 (ad g 25) by rw [eI10215, pp_off _ _ (ly_ne hy (by decide) (by decide) (by decide))], show I10215 (ad g 31) = I10156 (ad g 31) by rw [eI10215, pp_off _ _ (ly_ne hy (by decide) (by decide) (by decide))]]; exact PP25_I10156_10157 q hq
                        have WI10215 := PW_I10156_10157
                        rw [← (show I10215 (ad g 30) = I10156 (ad g 30) by rw [eI10215, pp_off _ _ (ly_ne hy (by decide) (by decide) (by decide))]), ← (show I10215 (ad g 31) = I10156 (ad g 31) by rw [eI10215, pp_off _ _ (ly_ne hy (by decide) (by decide) (by decide))])] at WI10215
                        clear eI10215
                        refine WP_aload_n dX11_town_303 rfl ?_
                        refine WP_getr dX11_town_304 fX11_310 rfl (ly_is hy 0 11 rfl) (rf hr 0 71 46 (by decide)) ?_
                        refine WP_iload_n dX11_town_307 rfl ?_
                        refine WQ_iconst (0) (0) dX11_town_308 rfl rfl (fun v10220 hv10220 => ?_)
                        refine WQ_iast dX11_town_309 (ly_is hy 46 13 rfl) (ly_n hy 46 4 rfl) (by omega) (by omega) (fun I10221 eI10221 => ?_)
                        have hI10221 : MW g n L9880 I10221 := by rw [eI10221]; exact (mw_w hy hI10215 (c := 46) (mi_r0 hy hI10215.1 (c := 46) (by decide) (Or.inl (by decide)) (by decide)) (by decide) (by decide) (Or.inl (by decide)))
                        have e10222 : I10221 (ad g 0) 10 = w10159 := by rw [eI10221, pp_ne _ _ (Or.inl (ly_ne hy (by decide) (by decide) (by decide)))]; exact e10216
                        have e10223 : I10221 (ad g 0) 13 = w10160 := by rw [eI10221, pp_ne _ _ (Or.inl (ly_ne hy (by decide) (by decide) (by decide)))]; exact e10217
                        have e10224 : I10221 (ad g 0) 15 = w10161 := by rw [eI10221, pp_ne _ _ (Or.inl (ly_ne hy (by decide) (by decide) (by decide)))]; exact e10218
                        have e10225 : I10221 (ad g 0) 1 = L9880 := by rw [eI10221, pp_ne _ _ (Or.inl (ly_ne hy (by decide) (by decide) (by decide)))]; exact e10219
                        have P8I10221 : ∀ q : Nat, q < 4 → I10221 (ad g 8) q = I10221 (ad g 14) q := fun q hq => by rw [show I10221 (ad g 8) = I10215 (ad g 8) by rw [eI10221, pp_off _ _ (ly_ne hy (by decide) (by decide) (by decide))], show I10221 (ad g 14) = I10215 (ad g 14) by rw [eI10221, pp_off _ _ (ly_ne hy (by decide) (by decide) (by decide))]]; exact P8I10215 q hq
                        have P24I10221 : ∀ q : Nat, q < 28 → I10221 (ad g 24) q = I10221 (ad g 30) q := fun q hq => by rw [show I10221 (ad g 24) = I10215 (ad g 24) by rw [eI10221, pp_off _ _ (ly_ne hy (by decide) (by decide) (by decide))], show I10221 (ad g 30) = I10215 (ad g 30) by rw [eI10221, pp_off _ _ (ly_ne hy (by decide) (by decide) (by decide))]]; exact P24I10215 q hq
                        have P25I10221 : ∀ q : Nat, q < 28 → I10221 (ad g 25) q = I10221 (ad g 31) q := fun q hq => by rw [show I10221 (ad g 25) = I10215 (ad g 25) by rw [eI10221, pp_off _ _ (ly_ne hy (by decide) (by decide) (by decide))], show I10221 (ad g 31) = I10215 (ad g 31) by rw [eI10221, pp_off _ _ (ly_ne hy (by decide) (by decide) (by decide))]]; exact P25I10215 q hq
                        have WI10221 := WI10215
                        rw [← (show I10221 (ad g 30) = I10215 (ad g 30) by rw [eI10221, pp_off _ _ (ly_ne hy (by decide) (by decide) (by decide))]), ← (show I10221 (ad g 31) = I10215 (ad g 31) by rw [eI10221, pp_off _ _ (ly_ne hy (by decide) (by decide) (by decide))])] at WI10221
                        clear eI10221
                        refine WP_aload_n dX11_town_310 rfl ?_
                        refine WP_getr dX11_town_311 fX11_313 rfl (ly_is hy 0 11 rfl) (rf hr 0 72 47 (by decide)) ?_
                        refine WP_iload_n dX11_town_314 rfl ?_
                        refine WQ_iconst (0) (0) dX11_town_315 rfl rfl (fun v10226 hv10226 => ?_)
                        refine WQ_iast dX11_town_316 (ly_is hy 47 13 rfl) (ly_n hy 47 4 rfl) (by omega) (by omega) (fun I10227 eI10227 => ?_)
                        have hI10227 : MW g n L9880 I10227 := by rw [eI10227]; exact (mw_w hy hI10221 (c := 47) (mi_r0 hy hI10221.1 (c := 47) (by decide) (Or.inl (by decide)) (by decide)) (by decide) (by decide) (Or.inl (by decide)))
                        have e10228 : I10227 (ad g 0) 10 = w10159 := by rw [eI10227, pp_ne _ _ (Or.inl (ly_ne hy (by decide) (by decide) (by decide)))]; exact e10222
                        have e10229 : I10227 (ad g 0) 13 = w10160 := by rw [eI10227, pp_ne _ _ (Or.inl (ly_ne hy (by decide) (by decide) (by decide)))]; exact e10223
                        have e10230 : I10227 (ad g 0) 15 = w10161 := by rw [eI10227, pp_ne _ _ (Or.inl (ly_ne hy (by decide) (by decide) (by decide)))]; exact e10224
                        have e10231 : I10227 (ad g 0) 1 = L9880 := by rw [eI10227, pp_ne _ _ (Or.inl (ly_ne hy (by decide) (by decide) (by decide)))]; exact e10225
                        have P8I10227 : ∀ q : Nat, q < 4 → I10227 (ad g 8) q = I10227 (ad g 14) q := fun q hq => by rw [show I10227 (ad g 8) = I10221 (ad g 8) by rw [eI10227, pp_off _ _ (ly_ne hy (by decide) (by decide) (by decide))], show I10227 (ad g 14) = I10221 (ad g 14) by rw [eI10227, pp_off _ _ (ly_ne hy (by decide) (by decide) (by decide))]]; exact P8I10221 q hq
                        have P24I10227 : ∀ q : Nat, q < 28 → I10227 (ad g 24) q = I10227 (ad g 30) q := fun q hq => by rw [show I10227 (ad g 24) = I10221 (ad g 24) by rw [eI10227, pp_off _ _ (ly_ne hy (by decide) (by decide) (by decide))], show I10227 (ad g 30) = I10221 (ad g 30) by rw [eI10227, pp_off _ _ (ly_ne hy (by decide) (by decide) (by decide))]]; exact P24I10221 q hq
                        have P25I10227 : ∀ q : Nat, q < 28 → I10227 (ad g 25) q = I10227 (ad g 31) q := fun q hq => by rw [show I10227 (ad g 25) = I10221 (ad g 25) by rw [eI10227, pp_off _ _ (ly_ne hy (by decide) (by decide) (by decide))], show I10227 (ad g 31) = I10221 (ad g 31) by rw [eI10227, pp_off _ _ (ly_ne hy (by decide) (by decide) (by decide))]]; exact P25I10221 q hq
                        have WI10227 := WI10221
                        rw [← (show I10227 (ad g 30) = I10221 (ad g 30) by rw [eI10227, pp_off _ _ (ly_ne hy (by decide) (by decide) (by decide))]), ← (show I10227 (ad g 31) = I10221 (ad g 31) by rw [eI10227, pp_off _ _ (ly_ne hy (by decide) (by decide) (by decide))])] at WI10227
                        clear eI10227
                        refine WP_iinc (ls' := [(0, _), (1, _)]) dX11_town_317 rfl (by decide) rfl ?_
                        have hv10232 : (i10155 + Int32.ofInt (1)).toInt = i10155.toInt + (1) := ia_n rfl (by omega) (by omega)
                        generalize i10155 + Int32.ofInt (1) = v10232 at hv10232 ⊢
                        refine WP_goto 288 dX11_town_320 rfl ?_
                        exact WP_sub (fc rfl (fc rfl fn)) (ihlp288_10161 v10232 I10227 J10157 hI10227 w10159 e10228 w10160 e10229 w10161 e10230 (by omega) (by omega) (by omega) (by omega) P8I10227 P24I10227 P25I10227 WI10227 (by omega))
                  exact WP_sub (fc rfl (fc rfl fn)) (lp288_10161 _ v10154 I10140 J10141 hI10140 w9893 e10144 w9894 e10147 w9893 e10142 (by omega) (by omega) (by omega) (by omega) P8I10140 P24I10140 P25I10140 WI10140 (Nat.lt_succ_self _))
                · refine WP_aload_n dX11_town_114 rfl ?_
                  refine WP_getr dX11_town_115 fX11_230 rfl (ly_is hy 0 11 rfl) (rf hr 0 21 3 (by decide)) ?_
                  refine WP_iload_n dX11_town_118 rfl ?_
                  refine WP_aload_n dX11_town_119 rfl ?_
                  refine WP_getr dX11_town_120 fX11_129 rfl (ly_is hy 0 11 rfl) (rf hr 0 23 5 (by decide)) ?_
                  refine WP_iload_n dX11_town_123 rfl ?_
                  refine WQ_laldu dX11_town_124 (ly_is hy 5 14 rfl) (ly_n hy 5 3 rfl) (by omega) (by omega) (fun l10233 => ?_)
                  refine WQ_last dX11_town_125 (ly_is hy 3 14 rfl) (ly_n hy 3 3 rfl) (by omega) (by omega) (fun J10234 eJ10234 => ?_)
                  clear eJ10234
                  refine WP_iinc (ls' := [(0, _), (1, _)]) dX11_town_126 rfl (by decide) rfl ?_
                  have hv10235 : (i9953 + Int32.ofInt (1)).toInt = i9953.toInt + (1) := ia_n rfl (by omega) (by omega)
                  generalize i9953 + Int32.ofInt (1) = v10235 at hv10235 ⊢
                  refine WP_goto 106 dX11_town_129 rfl ?_
                  exact WP_sub (fc rfl (fc rfl fn)) (ihlp106_9955 v10235 J10234 (by omega) (by omega) (by omega))
            exact WP_sub (fc rfl (fc rfl fn)) (lp106_9955 _ v9952 J9948 (by omega) (by omega) (Nat.lt_succ_self _))
          · refine WP_aload_n dX11_town_86 rfl ?_
            refine WP_getr dX11_town_87 fX11_227 rfl (ly_is hy 0 11 rfl) (rf hr 0 20 2 (by decide)) ?_
            refine WP_iload_n dX11_town_90 rfl ?_
            refine WP_aload_n dX11_town_91 rfl ?_
            refine WP_getr dX11_town_92 fX11_91 rfl (ly_is hy 0 11 rfl) (rf hr 0 22 4 (by decide)) ?_
            refine WP_iload_n dX11_town_95 rfl ?_
            refine WQ_laldu dX11_town_96 (ly_is hy 4 14 rfl) (ly_n hy 4 4 rfl) (by omega) (by omega) (fun l10236 => ?_)
            refine WQ_last dX11_town_97 (ly_is hy 2 14 rfl) (ly_n hy 2 4 rfl) (by omega) (by omega) (fun J10237 eJ10237 => ?_)
            clear eJ10237
            refine WP_iinc (ls' := [(0, _), (1, _)]) dX11_town_98 rfl (by decide) rfl ?_
            have hv10238 : (i9947 + Int32.ofInt (1)).toInt = i9947.toInt + (1) := ia_n rfl (by omega) (by omega)
            generalize i9947 + Int32.ofInt (1) = v10238 at hv10238 ⊢
            refine WP_goto 78 dX11_town_101 rfl ?_
            exact WP_sub (fc rfl (fc rfl fn)) (ihlp78_9949 v10238 J10237 (by omega) (by omega) (by omega))
      exact WP_sub (fc rfl (fc rfl fn)) (lp78_9949 _ v9946 J9888 (by omega) (by omega) (Nat.lt_succ_self _))
    refine WQ_icmp_eq 53 dX11_town_43 rfl (fun c10238 => ?_) (fun c10238 => ?_)
    · refine WP_aload_n dX11_town_53 rfl ?_
      refine WQ_getim dX11_town_54 fX11_332 rfl (ly_is hy 0 11 rfl) e9914 ?_
      refine WQ_if_le 64 dX11_town_57 rfl (fun c10239 => ?_) (fun c10239 => ?_)
      · refine WQ_iconst (-1) (-1) dX11_town_64 rfl rfl (fun v10241 hv10241 => ?_)
        exact WP_sub (fc rfl fn) (jn65_9921 v10241 (by omega) (by omega))
      · refine WQ_iconst (0) (0) dX11_town_60 rfl rfl (fun v10242 hv10242 => ?_)
        refine WP_goto 65 dX11_town_61 rfl ?_
        exact WP_sub (fc rfl fn) (jn65_9921 v10242 (by omega) (by omega))
    · refine WP_aload_n dX11_town_46 rfl ?_
      refine WQ_getim dX11_town_47 fX11_161 rfl (ly_is hy 0 11 rfl) ev9916 ?_
      refine WP_goto 65 dX11_town_50 rfl ?_
      exact WP_sub (fc rfl fn) (jn65_9921 v9916 (by omega) (by omega))
  · refine WQ_iconst (-1) (-1) dX11_town_11 rfl rfl (fun v10243 hv10243 => ?_)
    exact WP_iret dX11_town_12 rfl ⟨⟨⟨_, hI9887, by omega⟩, rfl⟩, _, rfl⟩
