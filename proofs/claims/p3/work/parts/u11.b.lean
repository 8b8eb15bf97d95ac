set_option maxHeartbeats 4000000 in
set_option maxRecDepth 100000 in
theorem sm_town {g : GG} {n : Int} {L : Int32} (hy : Ly g) {aK aV : Nat → Nat} {fo : Option Nat} (hz : HZ g aK aV fo)  {I : pI} {J : pJ} {R : pR} (hr : Rf g R) (hI : MP g n L I)   (hn : 0 ≤ n) : SP g mX11_town [.ref (ad g 0)] I J R (fun r I' J' R' => ((∃ L2 : Int32, MP g n L2 I' ∧ L2.toInt = 0) ∧ R' = R) ∧ ∃ v : Int32, r = some (.int v)) := by
  refine SP_of ⟨by decide, rfl⟩ (Nat.le_of_ble_eq_true rfl) ?_
  have e9876 : I (ad g 0) 1 = L := hI.1.2
  have b9877 := BT_get hI.1.1 0 1 2 (0) (0) (900) (by decide) 1 (by decide) (by decide)
  rw [e9876] at b9877
  refine WP_aload_n dX11_town_0 rfl ?_
  refine WP_callV0 (k := 11) dX11_town_1 ⟨⟨⟨by decide, by decide⟩, zX11_open⟩, lX11_323, by decide, rfl, vX11_open.1, vX11_open.2⟩ (ly_is hy 0 11 rfl) (sm_openx hy hr hI  ) (Nat.le_of_ble_eq_true rfl) ?_
  intro r I9878 J9879 Ra hq
  obtain ⟨⟨⟨L9880, hI9878, qL9880⟩, ec, pI9878⟩, rfl⟩ := hq
  rw [ec]
  clear ec Ra
  have e9881 : I9878 (ad g 0) 1 = L9880 := hI9878.1.2
  have b9882 := BT_get hI9878.1.1 0 1 2 (0) (0) (900) (by decide) 1 (by decide) (by decide)
  rw [e9881] at b9882
  obtain ⟨w9883, ew9883⟩ : ∃ w : Int32, I9878 (ad g 0) 2 = w := ⟨_, rfl⟩
  have bw9883 := BT_get hI9878.1.1 0 2 3 (0) (0) (900) (by decide) 2 (by decide) (by decide)
  rw [ew9883] at bw9883
  obtain ⟨w9884, ew9884⟩ : ∃ w : Int32, I9878 (ad g 0) 3 = w := ⟨_, rfl⟩
  have bw9884 := BT_get hI9878.1.1 0 3 4 (0) (0) (900) (by decide) 3 (by decide) (by decide)
  rw [ew9884] at bw9884
  obtain ⟨w9885, ew9885⟩ : ∃ w : Int32, I9878 (ad g 0) 4 = w := ⟨_, rfl⟩
  have bw9885 := BT_get hI9878.1.1 0 4 5 (0) (0) (900) (by decide) 4 (by decide) (by decide)
  rw [ew9885] at bw9885
  obtain ⟨w9886, ew9886⟩ : ∃ w : Int32, I9878 (ad g 0) 5 = w := ⟨_, rfl⟩
  have bw9886 := BT_get hI9878.1.1 0 5 6 (0) (0) (4) (by decide) 5 (by decide) (by decide)
  rw [ew9886] at bw9886
  rw [ew9883, ew9884, ew9885, ew9886] at pI9878
  refine WP_aload_n dX11_town_4 rfl ?_
  refine WP_callV0 (k := 11) dX11_town_5 ⟨⟨⟨by decide, by decide⟩, zX11_readTown⟩, lX11_326, by decide, rfl, vX11_readTown.1, vX11_readTown.2⟩ (ly_is hy 0 11 rfl) (sm_readTown hy hz hr hI9878   (by rw [ew9883, ew9884, ew9885, ew9886]; omega)) (Nat.le_of_ble_eq_true rfl) ?_
  intro r I9887 J9888 Ra hq
  obtain ⟨⟨hI9887, ec, fiI9887⟩, v9889, rfl, av9889, bv9889, cv9889⟩ := hq
  show WP _ _ _ _ (.int _ :: _) _ _ _ _
  rw [ec]
  clear ec Ra
  have e9890 : I9887 (ad g 0) 1 = L9880 := hI9887.1.2
  have b9891 := BT_get hI9887.1.1 0 1 2 (0) (0) (900) (by decide) 1 (by decide) (by decide)
  rw [e9890] at b9891
  obtain ⟨w9892, ew9892⟩ : ∃ w : Int32, I9887 (ad g 0) 2 = w := ⟨_, rfl⟩
  have bw9892 := BT_get hI9887.1.1 0 2 3 (0) (0) (900) (by decide) 2 (by decide) (by decide)
  rw [ew9892] at bw9892
  obtain ⟨w9893, ew9893⟩ : ∃ w : Int32, I9887 (ad g 0) 3 = w := ⟨_, rfl⟩
  have bw9893 := BT_get hI9887.1.1 0 3 4 (0) (0) (900) (by decide) 3 (by decide) (by decide)
  rw [ew9893] at bw9893
  obtain ⟨w9894, ew9894⟩ : ∃ w : Int32, I9887 (ad g 0) 4 = w := ⟨_, rfl⟩
  have bw9894 := BT_get hI9887.1.1 0 4 5 (0) (0) (900) (by decide) 4 (by decide) (by decide)
  rw [ew9894] at bw9894
  obtain ⟨w9895, ew9895⟩ : ∃ w : Int32, I9887 (ad g 0) 5 = w := ⟨_, rfl⟩
  have bw9895 := BT_get hI9887.1.1 0 5 6 (0) (0) (4) (by decide) 5 (by decide) (by decide)
  rw [ew9895] at bw9895
  rw [ew9892, ew9893, ew9894, ew9895] at pI9887
  refine WQ_if_ne 13 dX11_town_8 rfl (fun c9895 => ?_) (fun c9895 => ?_)
  · obtain ⟨w9897, ew9897⟩ : ∃ w : Int32, I9887 (ad g 0) 15 = w := ⟨_, rfl⟩
    have bw9897 := BT_get hI9887.1.1 0 15 16 (0) (0) (4) (by decide) 15 (by decide) (by decide)
    rw [ew9897] at bw9897
    obtain ⟨w9898, ew9898⟩ : ∃ w : Int32, I9887 (ad g 0) 17 = w := ⟨_, rfl⟩
    have bw9898 := BT_get hI9887.1.1 0 17 18 (-1) (0) (3) (by decide) 17 (by decide) (by decide)
    rw [ew9898] at bw9898
    obtain ⟨cc, cwr⟩ := cv9889 (by omega)
    rw [ew9898, ew9897] at cc
    rw [ew9897] at cwr
    have hmw := mp_mw hI9887
    refine WP_aload_n dX11_town_13 rfl ?_
    refine WP_aload_n dX11_town_14 rfl ?_
    refine WQ_getim dX11_town_15 fX11_88 rfl (ly_is hy 0 11 rfl) ew9897 ?_
    refine WQ_puti dX11_town_18 fX11_329 rfl rfl (ly_is hy 0 11 rfl) (fun I9899 eI9899 => ?_)
    have hI9899 : MW g n L9880 I9899 := by rw [eI9899]; exact (mw_w hy hmw (c := 0) (mi_f hy hmw.1 (c := 0) (0) (0) (4) (by decide) (Or.inr (by decide)) (by decide) (by omega) (by omega)) (by decide) (by decide) (Or.inr (by decide)))
    have e9900 : I9899 (ad g 0) 1 = L9880 := by rw [eI9899, pp_ne _ _ (Or.inr (by decide))]; exact e9890
    have e9901 : I9899 (ad g 0) 2 = w9892 := by rw [eI9899, pp_ne _ _ (Or.inr (by decide))]; exact ew9892
    have e9902 : I9899 (ad g 0) 3 = w9893 := by rw [eI9899, pp_ne _ _ (Or.inr (by decide))]; exact ew9893
    have e9903 : I9899 (ad g 0) 4 = w9894 := by rw [eI9899, pp_ne _ _ (Or.inr (by decide))]; exact ew9894
    have e9904 : I9899 (ad g 0) 5 = w9895 := by rw [eI9899, pp_ne _ _ (Or.inr (by decide))]; exact ew9895
    have e9905 : I9899 (ad g 0) 15 = w9897 := by rw [eI9899, pp_ne _ _ (Or.inr (by decide))]; exact ew9897
    have e9906 : I9899 (ad g 0) 17 = w9898 := by rw [eI9899, pp_ne _ _ (Or.inr (by decide))]; exact ew9898
    have e9907 : I9899 (ad g 0) 10 = w9897 := by rw [eI9899, pp_self]
    have WI9899 := cwr
    rw [← (show I9899 (ad g 30) = I9887 (ad g 30) by rw [eI9899, pp_off _ _ (ly_ne hy (by decide) (by decide) (by decide))]), ← (show I9899 (ad g 31) = I9887 (ad g 31) by rw [eI9899, pp_off _ _ (ly_ne hy (by decide) (by decide) (by decide))])] at WI9899
    clear eI9899
    refine WP_aload_n dX11_town_21 rfl ?_
    refine WP_aload_n dX11_town_22 rfl ?_
    refine WQ_geti dX11_town_23 fX11_126 rfl (ly_is hy 0 11 rfl) (BT_get hI9899.1.1 0 16 17 (0) (0) (3) (by decide) 16 (by decide) (by decide)) (fun v9908 ev9908 av9908 bv9908 => ?_)
    refine WQ_puti dX11_town_26 fX11_332 rfl rfl (ly_is hy 0 11 rfl) (fun I9909 eI9909 => ?_)
    have hI9909 : MW g n L9880 I9909 := by rw [eI9909]; exact (mw_w hy hI9899 (c := 0) (mi_f hy hI9899.1 (c := 0) (0) (0) (3) (by decide) (Or.inr (by decide)) (by decide) (by omega) (by omega)) (by decide) (by decide) (Or.inr (by decide)))
    have e9910 : I9909 (ad g 0) 1 = L9880 := by rw [eI9909, pp_ne _ _ (Or.inr (by decide))]; exact e9900
    have e9911 : I9909 (ad g 0) 2 = w9892 := by rw [eI9909, pp_ne _ _ (Or.inr (by decide))]; exact e9901
    have e9912 : I9909 (ad g 0) 3 = w9893 := by rw [eI9909, pp_ne _ _ (Or.inr (by decide))]; exact e9902
    have e9913 : I9909 (ad g 0) 4 = w9894 := by rw [eI9909, pp_ne _ _ (Or.inr (by decide))]; exact e9903
    have e9914 : I9909 (ad g 0) 5 = w9895 := by rw [eI9909, pp_ne _ _ (Or.inr (by decide))]; exact e9904
    have e9915 : I9909 (ad g 0) 15 = w9897 := by rw [eI9909, pp_ne _ _ (Or.inr (by decide))]; exact e9905
    have e9916 : I9909 (ad g 0) 17 = w9898 := by rw [eI9909, pp_ne _ _ (Or.inr (by decide))]; exact e9906
    have e9917 : I9909 (ad g 0) 10 = w9897 := by rw [eI9909, pp_ne _ _ (Or.inr (by decide))]; exact e9907
    have e9918 : I9909 (ad g 0) 16 = v9908 := by rw [eI9909, pp_ne _ _ (Or.inr (by decide))]; exact ev9908
    have e9919 : I9909 (ad g 0) 11 = v9908 := by rw [eI9909, pp_self]
    have WI9909 := WI9899
    rw [← (show I9909 (ad g 30) = I9899 (ad g 30) by rw [eI9909, pp_off _ _ (ly_ne hy (by decide) (by decide) (by decide))]), ← (show I9909 (ad g 31) = I9899 (ad g 31) by rw [eI9909, pp_off _ _ (ly_ne hy (by decide) (by decide) (by decide))])] at WI9909
    clear eI9909
    refine WP_aload_n dX11_town_29 rfl ?_
    refine WP_aload_n dX11_town_30 rfl ?_
    refine WQ_getim dX11_town_31 fX11_158 rfl (ly_is hy 0 11 rfl) e9916 ?_
    refine WQ_puti dX11_town_34 fX11_221 rfl rfl (ly_is hy 0 11 rfl) (fun I9920 eI9920 => ?_)
    have hI9920 : MW g n L9880 I9920 := by rw [eI9920]; exact (mw_w hy hI9909 (c := 0) (mi_f hy hI9909.1 (c := 0) (-1) (0) (3) (by decide) (Or.inr (by decide)) (by decide) (by omega) (by omega)) (by decide) (by decide) (Or.inr (by decide)))
    have e9921 : I9920 (ad g 0) 1 = L9880 := by rw [eI9920, pp_ne _ _ (Or.inr (by decide))]; exact e9910
    have e9922 : I9920 (ad g 0) 2 = w9892 := by rw [eI9920, pp_ne _ _ (Or.inr (by decide))]; exact e9911
    have e9923 : I9920 (ad g 0) 3 = w9893 := by rw [eI9920, pp_ne _ _ (Or.inr (by decide))]; exact e9912
    have e9924 : I9920 (ad g 0) 4 = w9894 := by rw [eI9920, pp_ne _ _ (Or.inr (by decide))]; exact e9913
    have e9925 : I9920 (ad g 0) 5 = w9895 := by rw [eI9920, pp_ne _ _ (Or.inr (by decide))]; exact e9914
    have e9926 : I9920 (ad g 0) 15 = w9897 := by rw [eI9920, pp_ne _ _ (Or.inr (by decide))]; exact e9915
    have e9927 : I9920 (ad g 0) 17 = w9898 := by rw [eI9920, pp_ne _ _ (Or.inr (by decide))]; exact e9916
    have e9928 : I9920 (ad g 0) 10 = w9897 := by rw [eI9920, pp_ne _ _ (Or.inr (by decide))]; exact e9917
    have e9929 : I9920 (ad g 0) 16 = v9908 := by rw [eI9920, pp_ne _ _ (Or.inr (by decide))]; exact e9918
    have e9930 : I9920 (ad g 0) 11 = v9908 := by rw [eI9920, pp_ne _ _ (Or.inr (by decide))]; exact e9919
    have e9931 : I9920 (ad g 0) 13 = w9898 := by rw [eI9920, pp_self]
    have WI9920 := WI9909
    rw [← (show I9920 (ad g 30) = I9909 (ad g 30) by rw [eI9920, pp_off _ _ (ly_ne hy (by decide) (by decide) (by decide))]), ← (show I9920 (ad g 31) = I9909 (ad g 31) by rw [eI9920, pp_off _ _ (ly_ne hy (by decide) (by decide) (by decide))])] at WI9920
    clear eI9920
    refine WP_aload_n dX11_town_37 rfl ?_
    refine WP_aload_n dX11_town_38 rfl ?_
    refine WQ_geti dX11_town_39 fX11_161 rfl (ly_is hy 0 11 rfl) (BT_get hI9920.1.1 0 18 19 (-1) (0) (2) (by decide) 18 (by decide) (by decide)) (fun v9932 ev9932 av9932 bv9932 => ?_)
    refine WQ_iconst (-1) (-1) dX11_town_42 rfl rfl (fun v9933 hv9933 => ?_)
    have jn65_9937 : ∀ (v9937 : Int32), -1 ≤ v9937.toInt → v9937.toInt ≤ 2 → WP g mX11_town 65 [(0, .ref (ad g 0))] [.int v9937, .ref (ad g 0)] I9920 J9888 R (fun r I' J' R' => ((∃ L2 : Int32, MP g n L2 I' ∧ L2.toInt = 0) ∧ R' = R) ∧ ∃ v : Int32, r = some (.int v)) := by
      intro v9937 av9937 bv9937
      refine WQ_puti dX11_town_65 fX11_224 rfl rfl (ly_is hy 0 11 rfl) (fun I9939 eI9939 => ?_)
      have hI9939 : MW g n L9880 I9939 := by rw [eI9939]; exact (mw_w hy hI9920 (c := 0) (mi_f hy hI9920.1 (c := 0) (-1) (0) (2) (by decide) (Or.inr (by decide)) (by decide) (by omega) (by omega)) (by decide) (by decide) (Or.inr (by decide)))
      have e9940 : I9939 (ad g 0) 1 = L9880 := by rw [eI9939, pp_ne _ _ (Or.inr (by decide))]; exact e9921
      have e9941 : I9939 (ad g 0) 2 = w9892 := by rw [eI9939, pp_ne _ _ (Or.inr (by decide))]; exact e9922
      have e9942 : I9939 (ad g 0) 3 = w9893 := by rw [eI9939, pp_ne _ _ (Or.inr (by decide))]; exact e9923
      have e9943 : I9939 (ad g 0) 4 = w9894 := by rw [eI9939, pp_ne _ _ (Or.inr (by decide))]; exact e9924
      have e9944 : I9939 (ad g 0) 5 = w9895 := by rw [eI9939, pp_ne _ _ (Or.inr (by decide))]; exact e9925
      have e9945 : I9939 (ad g 0) 15 = w9897 := by rw [eI9939, pp_ne _ _ (Or.inr (by decide))]; exact e9926
      have e9946 : I9939 (ad g 0) 17 = w9898 := by rw [eI9939, pp_ne _ _ (Or.inr (by decide))]; exact e9927
      have e9947 : I9939 (ad g 0) 10 = w9897 := by rw [eI9939, pp_ne _ _ (Or.inr (by decide))]; exact e9928
      have e9948 : I9939 (ad g 0) 16 = v9908 := by rw [eI9939, pp_ne _ _ (Or.inr (by decide))]; exact e9929
      have e9949 : I9939 (ad g 0) 11 = v9908 := by rw [eI9939, pp_ne _ _ (Or.inr (by decide))]; exact e9930
      have e9950 : I9939 (ad g 0) 13 = w9898 := by rw [eI9939, pp_ne _ _ (Or.inr (by decide))]; exact e9931
      have e9951 : I9939 (ad g 0) 18 = v9932 := by rw [eI9939, pp_ne _ _ (Or.inr (by decide))]; exact ev9932
      have e9952 : I9939 (ad g 0) 14 = v9937 := by rw [eI9939, pp_self]
      have WI9939 := WI9920
      rw [← (show I9939 (ad g 30) = I9920 (ad g 30) by rw [eI9939, pp_off _ _ (ly_ne hy (by decide) (by decide) (by decide))]), ← (show I9939 (ad g 31) = I9920 (ad g 31) by rw [eI9939, pp_off _ _ (ly_ne hy (by decide) (by decide) (by decide))])] at WI9939
      clear eI9939
      refine WP_aload_n dX11_town_68 rfl ?_
      refine WP_aload_n dX11_town_69 rfl ?_
      refine WQ_getiu dX11_town_70 fX11_207 rfl (ly_is hy 0 11 rfl) (fun v9953 ev9953 => ?_)
      refine WQ_puti dX11_town_73 fX11_335 rfl rfl (ly_is hy 0 11 rfl) (fun I9954 eI9954 => ?_)
      have hI9954 : MW g n L9880 I9954 := by rw [eI9954]; exact (mw_w hy hI9939 (c := 0) (mi_f0 hy hI9939.1 (c := 0) (by decide) (Or.inr (by decide)) (by decide)) (by decide) (by decide) (Or.inr (by decide)))
      have e9955 : I9954 (ad g 0) 1 = L9880 := by rw [eI9954, pp_ne _ _ (Or.inr (by decide))]; exact e9940
      have e9956 : I9954 (ad g 0) 2 = w9892 := by rw [eI9954, pp_ne _ _ (Or.inr (by decide))]; exact e9941
      have e9957 : I9954 (ad g 0) 3 = w9893 := by rw [eI9954, pp_ne _ _ (Or.inr (by decide))]; exact e9942
      have e9958 : I9954 (ad g 0) 4 = w9894 := by rw [eI9954, pp_ne _ _ (Or.inr (by decide))]; exact e9943
      have e9959 : I9954 (ad g 0) 5 = w9895 := by rw [eI9954, pp_ne _ _ (Or.inr (by decide))]; exact e9944
      have e9960 : I9954 (ad g 0) 15 = w9897 := by rw [eI9954, pp_ne _ _ (Or.inr (by decide))]; exact e9945
      have e9961 : I9954 (ad g 0) 17 = w9898 := by rw [eI9954, pp_ne _ _ (Or.inr (by decide))]; exact e9946
      have e9962 : I9954 (ad g 0) 10 = w9897 := by rw [eI9954, pp_ne _ _ (Or.inr (by decide))]; exact e9947
      have e9963 : I9954 (ad g 0) 16 = v9908 := by rw [eI9954, pp_ne _ _ (Or.inr (by decide))]; exact e9948
      have e9964 : I9954 (ad g 0) 11 = v9908 := by rw [eI9954, pp_ne _ _ (Or.inr (by decide))]; exact e9949
      have e9965 : I9954 (ad g 0) 13 = w9898 := by rw [eI9954, pp_ne _ _ (Or.inr (by decide))]; exact e9950
      have e9966 : I9954 (ad g 0) 18 = v9932 := by rw [eI9954, pp_ne _ _ (Or.inr (by decide))]; exact e9951
      have e9967 : I9954 (ad g 0) 14 = v9937 := by rw [eI9954, pp_ne _ _ (Or.inr (by decide))]; exact e9952
      have e9968 : I9954 (ad g 0) 19 = v9953 := by rw [eI9954, pp_ne _ _ (Or.inr (by decide))]; exact ev9953
      have e9969 : I9954 (ad g 0) 12 = v9953 := by rw [eI9954, pp_self]
      have WI9954 := WI9939
      rw [← (show I9954 (ad g 30) = I9939 (ad g 30) by rw [eI9954, pp_off _ _ (ly_ne hy (by decide) (by decide) (by decide))]), ← (show I9954 (ad g 31) = I9939 (ad g 31) by rw [eI9954, pp_off _ _ (ly_ne hy (by decide) (by decide) (by decide))])] at WI9954
      clear eI9954
      refine WQ_iconst (0) (0) dX11_town_76 rfl rfl (fun v9970 hv9970 => ?_)
      refine WP_istore_n (ls' := [(0, _), (1, _)]) dX11_town_77 (by decide) rfl ?_
      have lp78_9973 : ∀ (mz : Nat) (i9971 : Int32) (J9972 : pJ), 0 ≤ i9971.toInt → i9971.toInt ≤ 4 → (5 - i9971.toInt).toNat < mz → WP g mX11_town 78 [(0, .ref (ad g 0)), (1, .int i9971)] [] I9954 J9972 R (fun r I' J' R' => ((∃ L2 : Int32, MP g n L2 I' ∧ L2.toInt = 0) ∧ R' = R) ∧ ∃ v : Int32, r = some (.int v)) := by
        intro mz
        induction mz with
        | zero =>
          intro i9971 J9972 ai9971 bi9971 hmlp78_9973
          exact absurd hmlp78_9973 (Nat.not_lt_zero _)
        | succ mz ihlp78_9973 =>
          intro i9971 J9972 ai9971 bi9971 hmlp78_9973
          refine WP_iload_n dX11_town_78 rfl ?_
          refine WP_aload_n dX11_town_79 rfl ?_
          refine WQ_getim dX11_town_80 fX11_329 rfl (ly_is hy 0 11 rfl) e9962 ?_
          refine WQ_icmp_ge 104 dX11_town_83 rfl (fun c9974 => ?_) (fun c9974 => ?_)
          · refine WQ_iconst (0) (0) dX11_town_104 rfl rfl (fun v9976 hv9976 => ?_)
            refine WP_istore_n (ls' := [(0, _), (1, _)]) dX11_town_105 (by decide) rfl ?_
            have lp106_9979 : ∀ (mz : Nat) (i9977 : Int32) (J9978 : pJ), 0 ≤ i9977.toInt → i9977.toInt ≤ 3 → (4 - i9977.toInt).toNat < mz → WP g mX11_town 106 [(0, .ref (ad g 0)), (1, .int i9977)] [] I9954 J9978 R (fun r I' J' R' => ((∃ L2 : Int32, MP g n L2 I' ∧ L2.toInt = 0) ∧ R' = R) ∧ ∃ v : Int32, r = some (.int v)) := by
              intro mz
              induction mz with
              | zero =>
                intro i9977 J9978 ai9977 bi9977 hmlp106_9979
                exact absurd hmlp106_9979 (Nat.not_lt_zero _)
              | succ mz ihlp106_9979 =>
                intro i9977 J9978 ai9977 bi9977 hmlp106_9979
                refine WP_iload_n dX11_town_106 rfl ?_
                refine WP_aload_n dX11_town_107 rfl ?_
                refine WQ_getim dX11_town_108 fX11_332 rfl (ly_is hy 0 11 rfl) e9964 ?_
                refine WQ_icmp_ge 132 dX11_town_111 rfl (fun c9980 => ?_) (fun c9980 => ?_)
                · refine WP_aload_n dX11_town_132 rfl ?_
                  refine WP_getr dX11_town_133 fX11_233 rfl (ly_is hy 0 11 rfl) (rf hr 0 24 6 (by decide)) ?_
                  refine WP_aload_n dX11_town_136 rfl ?_
                  refine WP_getr dX11_town_137 fX11_84 rfl (ly_is hy 0 11 rfl) (rf hr 0 25 7 (by decide)) ?_
                  refine WP_callS2 dX11_town_140 ⟨⟨⟨by decide, by decide⟩, zX11_copy⟩, lX11_338, tX11_copy⟩ (sm_copyw_6_7 hy hr hI9954  ) (Nat.le_of_ble_eq_true rfl) ?_
                  intro r I9982 J9983 Ra hq
                  obtain ⟨⟨hI9982, ec, fiI9982, pI9982⟩, rfl⟩ := hq
                  rw [ec]
                  clear ec Ra
                  have WI9982 := WI9954
                  rw [← fz_at fiI9982 30 (by decide) (by decide), ← fz_at fiI9982 31 (by decide) (by decide)] at WI9982
                  have e9984 : I9982 (ad g 0) 2 = w9892 := by rw [fz_at fiI9982 0 (by decide) (by decide)]; exact e9956
                  have e9985 : I9982 (ad g 0) 3 = w9893 := by rw [fz_at fiI9982 0 (by decide) (by decide)]; exact e9957
                  have e9986 : I9982 (ad g 0) 4 = w9894 := by rw [fz_at fiI9982 0 (by decide) (by decide)]; exact e9958
                  have e9987 : I9982 (ad g 0) 5 = w9895 := by rw [fz_at fiI9982 0 (by decide) (by decide)]; exact e9959
                  have e9988 : I9982 (ad g 0) 15 = w9897 := by rw [fz_at fiI9982 0 (by decide) (by decide)]; exact e9960
                  have e9989 : I9982 (ad g 0) 17 = w9898 := by rw [fz_at fiI9982 0 (by decide) (by decide)]; exact e9961
                  have e9990 : I9982 (ad g 0) 10 = w9897 := by rw [fz_at fiI9982 0 (by decide) (by decide)]; exact e9962
                  have e9991 : I9982 (ad g 0) 16 = v9908 := by rw [fz_at fiI9982 0 (by decide) (by decide)]; exact e9963
                  have e9992 : I9982 (ad g 0) 11 = v9908 := by rw [fz_at fiI9982 0 (by decide) (by decide)]; exact e9964
                  have e9993 : I9982 (ad g 0) 13 = w9898 := by rw [fz_at fiI9982 0 (by decide) (by decide)]; exact e9965
                  have e9994 : I9982 (ad g 0) 18 = v9932 := by rw [fz_at fiI9982 0 (by decide) (by decide)]; exact e9966
                  have e9995 : I9982 (ad g 0) 14 = v9937 := by rw [fz_at fiI9982 0 (by decide) (by decide)]; exact e9967
                  have e9996 : I9982 (ad g 0) 19 = v9953 := by rw [fz_at fiI9982 0 (by decide) (by decide)]; exact e9968
                  have e9997 : I9982 (ad g 0) 12 = v9953 := by rw [fz_at fiI9982 0 (by decide) (by decide)]; exact e9969
                  have e9998 : I9982 (ad g 0) 1 = L9880 := hI9982.1.2
                  have b9999 := BT_get hI9982.1.1 0 1 2 (0) (0) (900) (by decide) 1 (by decide) (by decide)
                  rw [e9998] at b9999
                  refine WP_aload_n dX11_town_143 rfl ?_
                  refine WP_getr dX11_town_144 fX11_235 rfl (ly_is hy 0 11 rfl) (rf hr 0 26 8 (by decide)) ?_
                  refine WP_aload_n dX11_town_147 rfl ?_
                  refine WP_getr dX11_town_148 fX11_99 rfl (ly_is hy 0 11 rfl) (rf hr 0 32 14 (by decide)) ?_
                  refine WP_callS2 dX11_town_151 ⟨⟨⟨by decide, by decide⟩, zX11_copy⟩, lX11_338, tX11_copy⟩ (sm_copyw_8_14 hy hr hI9982  ) (Nat.le_of_ble_eq_true rfl) ?_
                  intro r I10000 J10001 Ra hq
                  obtain ⟨⟨hI10000, ec, fiI10000, pI10000⟩, rfl⟩ := hq
                  rw [ec]
                  clear ec Ra
                  have WI10000 := WI9982
                  rw [← fz_at fiI10000 30 (by decide) (by decide), ← fz_at fiI10000 31 (by decide) (by decide)] at WI10000
                  have P8I10000 : ∀ q : Nat, q < 4 → I10000 (ad g 8) q = I10000 (ad g 14) q := fun q hq => by rw [fz_at fiI10000 14 (by decide) (by decide)]; exact pI10000 q hq
                  have e10002 : I10000 (ad g 0) 2 = w9892 := by rw [fz_at fiI10000 0 (by decide) (by decide)]; exact e9984
                  have e10003 : I10000 (ad g 0) 3 = w9893 := by rw [fz_at fiI10000 0 (by decide) (by decide)]; exact e9985
                  have e10004 : I10000 (ad g 0) 4 = w9894 := by rw [fz_at fiI10000 0 (by decide) (by decide)]; exact e9986
                  have e10005 : I10000 (ad g 0) 5 = w9895 := by rw [fz_at fiI10000 0 (by decide) (by decide)]; exact e9987
                  have e10006 : I10000 (ad g 0) 15 = w9897 := by rw [fz_at fiI10000 0 (by decide) (by decide)]; exact e9988
                  have e10007 : I10000 (ad g 0) 17 = w9898 := by rw [fz_at fiI10000 0 (by decide) (by decide)]; exact e9989
                  have e10008 : I10000 (ad g 0) 10 = w9897 := by rw [fz_at fiI10000 0 (by decide) (by decide)]; exact e9990
                  have e10009 : I10000 (ad g 0) 16 = v9908 := by rw [fz_at fiI10000 0 (by decide) (by decide)]; exact e9991
                  have e10010 : I10000 (ad g 0) 11 = v9908 := by rw [fz_at fiI10000 0 (by decide) (by decide)]; exact e9992
                  have e10011 : I10000 (ad g 0) 13 = w9898 := by rw [fz_at fiI10000 0 (by decide) (by decide)]; exact e9993
                  have e10012 : I10000 (ad g 0) 18 = v9932 := by rw [fz_at fiI10000 0 (by decide) (by decide)]; exact e9994
                  have e10013 : I10000 (ad g 0) 14 = v9937 := by rw [fz_at fiI10000 0 (by decide) (by decide)]; exact e9995
                  have e10014 : I10000 (ad g 0) 19 = v9953 := by rw [fz_at fiI10000 0 (by decide) (by decide)]; exact e9996
                  have e10015 : I10000 (ad g 0) 12 = v9953 := by rw [fz_at fiI10000 0 (by decide) (by decide)]; exact e9997
                  have e10016 : I10000 (ad g 0) 1 = L9880 := hI10000.1.2
                  have b10017 := BT_get hI10000.1.1 0 1 2 (0) (0) (900) (by decide) 1 (by decide) (by decide)
                  rw [e10016] at b10017
                  refine WP_aload_n dX11_town_154 rfl ?_
                  refine WP_getr dX11_town_155 fX11_238 rfl (ly_is hy 0 11 rfl) (rf hr 0 27 9 (by decide)) ?_
                  refine WP_aload_n dX11_town_158 rfl ?_
                  refine WP_getr dX11_town_159 fX11_102 rfl (ly_is hy 0 11 rfl) (rf hr 0 33 15 (by decide)) ?_
                  refine WP_callS2 dX11_town_162 ⟨⟨⟨by decide, by decide⟩, zX11_copy⟩, lX11_338, tX11_copy⟩ (sm_copyw_9_15 hy hr hI10000  ) (Nat.le_of_ble_eq_true rfl) ?_
                  intro r I10018 J10019 Ra hq
                  obtain ⟨⟨hI10018, ec, fiI10018, pI10018⟩, rfl⟩ := hq
                  rw [ec]
                  clear ec Ra
                  have WI10018 := WI10000
                  rw [← fz_at fiI10018 30 (by decide) (by decide), ← fz_at fiI10018 31 (by decide) (by decide)] at WI10018
                  have P8I10018 : ∀ q : Nat, q < 4 → I10018 (ad g 8) q = I10018 (ad g 14) q := fun q hq => by rw [fz_at fiI10018 8 (by decide) (by decide), fz_at fiI10018 14 (by decide) (by decide)]; exact P8I10000 q hq
                  have e10020 : I10018 (ad g 0) 2 = w9892 := by rw [fz_at fiI10018 0 (by decide) (by decide)]; exact e10002
                  have e10021 : I10018 (ad g 0) 3 = w9893 := by rw [fz_at fiI10018 0 (by decide) (by decide)]; exact e10003
                  have e10022 : I10018 (ad g 0) 4 = w9894 := by rw [fz_at fiI10018 0 (by decide) (by decide)]; exact e10004
                  have e10023 : I10018 (ad g 0) 5 = w9895 := by rw [fz_at fiI10018 0 (by decide) (by decide)]; exact e10005
                  have e10024 : I10018 (ad g 0) 15 = w9897 := by rw [fz_at fiI10018 0 (by decide) (by decide)]; exact e10006
                  have e10025 : I10018 (ad g 0) 17 = w9898 := by rw [fz_at fiI10018 0 (by decide) (by decide)]; exact e10007
                  have e10026 : I10018 (ad g 0) 10 = w9897 := by rw [fz_at fiI10018 0 (by decide) (by decide)]; exact e10008
                  have e10027 : I10018 (ad g 0) 16 = v9908 := by rw [fz_at fiI10018 0 (by decide) (by decide)]; exact e10009
                  have e10028 : I10018 (ad g 0) 11 = v9908 := by rw [fz_at fiI10018 0 (by decide) (by decide)]; exact e10010
                  have e10029 : I10018 (ad g 0) 13 = w9898 := by rw [fz_at fiI10018 0 (by decide) (by decide)]; exact e10011
                  have e10030 : I10018 (ad g 0) 18 = v9932 := by rw [fz_at fiI10018 0 (by decide) (by decide)]; exact e10012
                  have e10031 : I10018 (ad g 0) 14 = v9937 := by rw [fz_at fiI10018 0 (by decide) (by decide)]; exact e10013
                  have e10032 : I10018 (ad g 0) 19 = v9953 := by rw [fz_at fiI10018 0 (by decide) (by decide)]; exact e10014
                  have e10033 : I10018 (ad g 0) 12 = v9953 := by rw [fz_at fiI10018 0 (by decide) (by decide)]; exact e10015
                  have e10034 : I10018 (ad g 0) 1 = L9880 := hI10018.1.2
                  have b10035 := BT_get hI10018.1.1 0 1 2 (0) (0) (900) (by decide) 1 (by decide) (by decide)
                  rw [e10034] at b10035
                  refine WP_aload_n dX11_town_165 rfl ?_
                  refine WP_getr dX11_town_166 fX11_241 rfl (ly_is hy 0 11 rfl) (rf hr 0 28 10 (by decide)) ?_
                  refine WP_aload_n dX11_town_169 rfl ?_
                  refine WP_getr dX11_town_170 fX11_105 rfl (ly_is hy 0 11 rfl) (rf hr 0 34 16 (by decide)) ?_
                  refine WP_callS2 dX11_town_173 ⟨⟨⟨by decide, by decide⟩, zX11_copy⟩, lX11_338, tX11_copy⟩ (sm_copyw_10_16 hy hr hI10018  ) (Nat.le_of_ble_eq_true rfl) ?_
                  intro r I10036 J10037 Ra hq
                  obtain ⟨⟨hI10036, ec, fiI10036, pI10036⟩, rfl⟩ := hq
                  rw [ec]
                  clear ec Ra
                  have WI10036 := WI10018
                  rw [← fz_at fiI10036 30 (by decide) (by decide), ← fz_at fiI10036 31 (by decide) (by decide)] at WI10036
                  have P8I10036 : ∀ q : Nat, q < 4 → I10036 (ad g 8) q = I10036 (ad g 14) q := fun q hq => by rw [fz_at fiI10036 8 (by decide) (by decide), fz_at fiI10036 14 (by decide) (by decide)]; exact P8I10018 q hq
                  have e10038 : I10036 (ad g 0) 2 = w9892 := by rw [fz_at fiI10036 0 (by decide) (by decide)]; exact e10020
                  have e10039 : I10036 (ad g 0) 3 = w9893 := by rw [fz_at fiI10036 0 (by decide) (by decide)]; exact e10021
                  have e10040 : I10036 (ad g 0) 4 = w9894 := by rw [fz_at fiI10036 0 (by decide) (by decide)]; exact e10022
                  have e10041 : I10036 (ad g 0) 5 = w9895 := by rw [fz_at fiI10036 0 (by decide) (by decide)]; exact e10023
                  have e10042 : I10036 (ad g 0) 15 = w9897 := by rw [fz_at fiI10036 0 (by decide) (by decide)]; exact e10024
                  have e10043 : I10036 (ad g 0) 17 = w9898 := by rw [fz_at fiI10036 0 (by decide) (by decide)]; exact e10025
                  have e10044 : I10036 (ad g 0) 10 = w9897 := by rw [fz_at fiI10036 0 (by decide) (by decide)]; exact e10026
                  have e10045 : I10036 (ad g 0) 16 = v9908 := by rw [fz_at fiI10036 0 (by decide) (by decide)]; exact e10027
                  have e10046 : I10036 (ad g 0) 11 = v9908 := by rw [fz_at fiI10036 0 (by decide) (by decide)]; exact e10028
                  have e10047 : I10036 (ad g 0) 13 = w9898 := by rw [fz_at fiI10036 0 (by decide) (by decide)]; exact e10029
                  have e10048 : I10036 (ad g 0) 18 = v9932 := by rw [fz_at fiI10036 0 (by decide) (by decide)]; exact e10030
                  have e10049 : I10036 (ad g 0) 14 = v9937 := by rw [fz_at fiI10036 0 (by decide) (by decide)]; exact e10031
                  have e10050 : I10036 (ad g 0) 19 = v9953 := by rw [fz_at fiI10036 0 (by decide) (by decide)]; exact e10032
                  have e10051 : I10036 (ad g 0) 12 = v9953 := by rw [fz_at fiI10036 0 (by decide) (by decide)]; exact e10033
                  have e10052 : I10036 (ad g 0) 1 = L9880 := hI10036.1.2
                  have b10053 := BT_get hI10036.1.1 0 1 2 (0) (0) (900) (by decide) 1 (by decide) (by decide)
                  rw [e10052] at b10053
                  refine WP_aload_n dX11_town_176 rfl ?_
                  refine WP_getr dX11_town_177 fX11_244 rfl (ly_is hy 0 11 rfl) (rf hr 0 29 11 (by decide)) ?_
                  refine WP_aload_n dX11_town_180 rfl ?_
                  refine WP_getr dX11_town_181 fX11_108 rfl (ly_is hy 0 11 rfl) (rf hr 0 35 17 (by decide)) ?_
                  refine WP_callS2 dX11_town_184 ⟨⟨⟨by decide, by decide⟩, zX11_copy⟩, lX11_338, tX11_copy⟩ (sm_copyw_11_17 hy hr hI10036  ) (Nat.le_of_ble_eq_true rfl) ?_
                  intro r I10054 J10055 Ra hq
                  obtain ⟨⟨hI10054, ec, fiI10054, pI10054⟩, rfl⟩ := hq
                  rw [ec]
                  clear ec Ra
                  have WI10054 := WI10036
                  rw [← fz_at fiI10054 30 (by decide) (by decide), ← fz_at fiI10054 31 (by decide) (by decide)] at WI10054
                  have P8I10054 : ∀ q : Nat, q < 4 → I10054 (ad g 8) q = I10054 (ad g 14) q := fun q hq => by rw [fz_at fiI10054 8 (by decide) (by decide), fz_at fiI10054 14 (by decide) (by decide)]; exact P8I10036 q hq
                  have e10056 : I10054 (ad g 0) 2 = w9892 := by rw [fz_at fiI10054 0 (by decide) (by decide)]; exact e10038
                  have e10057 : I10054 (ad g 0) 3 = w9893 := by rw [fz_at fiI10054 0 (by decide) (by decide)]; exact e10039
                  have e10058 : I10054 (ad g 0) 4 = w9894 := by rw [fz_at fiI10054 0 (by decide) (by decide)]; exact e10040
                  have e10059 : I10054 (ad g 0) 5 = w9895 := by rw [fz_at fiI10054 0 (by decide) (by decide)]; exact e10041
                  have e10060 : I10054 (ad g 0) 15 = w9897 := by rw [fz_at fiI10054 0 (by decide) (by decide)]; exact e10042
                  have e10061 : I10054 (ad g 0) 17 = w9898 := by rw [fz_at fiI10054 0 (by decide) (by decide)]; exact e10043
                  have e10062 : I10054 (ad g 0) 10 = w9897 := by rw [fz_at fiI10054 0 (by decide) (by decide)]; exact e10044
                  have e10063 : I10054 (ad g 0) 16 = v9908 := by rw [fz_at fiI10054 0 (by decide) (by decide)]; exact e10045
                  have e10064 : I10054 (ad g 0) 11 = v9908 := by rw [fz_at fiI10054 0 (by decide) (by decide)]; exact e10046
                  have e10065 : I10054 (ad g 0) 13 = w9898 := by rw [fz_at fiI10054 0 (by decide) (by decide)]; exact e10047
                  have e10066 : I10054 (ad g 0) 18 = v9932 := by rw [fz_at fiI10054 0 (by decide) (by decide)]; exact e10048
                  have e10067 : I10054 (ad g 0) 14 = v9937 := by rw [fz_at fiI10054 0 (by decide) (by decide)]; exact e10049
                  have e10068 : I10054 (ad g 0) 19 = v9953 := by rw [fz_at fiI10054 0 (by decide) (by decide)]; exact e10050
                  have e10069 : I10054 (ad g 0) 12 = v9953 := by rw [fz_at fiI10054 0 (by decide) (by decide)]; exact e10051
                  have e10070 : I10054 (ad g 0) 1 = L9880 := hI10054.1.2
                  have b10071 := BT_get hI10054.1.1 0 1 2 (0) (0) (900) (by decide) 1 (by decide) (by decide)
                  rw [e10070] at b10071
                  refine WP_aload_n dX11_town_187 rfl ?_
                  refine WP_getr dX11_town_188 fX11_246 rfl (ly_is hy 0 11 rfl) (rf hr 0 30 12 (by decide)) ?_
                  refine WP_aload_n dX11_town_191 rfl ?_
                  refine WP_getr dX11_town_192 fX11_132 rfl (ly_is hy 0 11 rfl) (rf hr 0 36 18 (by decide)) ?_
                  refine WP_callS2 dX11_town_195 ⟨⟨⟨by decide, by decide⟩, zX11_copy⟩, lX11_338, tX11_copy⟩ (sm_copyw_12_18 hy hr hI10054  ) (Nat.le_of_ble_eq_true rfl) ?_
                  intro r I10072 J10073 Ra hq
                  obtain ⟨⟨hI10072, ec, fiI10072, pI10072⟩, rfl⟩ := hq
                  rw [ec]
                  clear ec Ra
                  have WI10072 := WI10054
                  rw [← fz_at fiI10072 30 (by decide) (by decide), ← fz_at fiI10072 31 (by decide) (by decide)] at WI10072
                  have P8I10072 : ∀ q : Nat, q < 4 → I10072 (ad g 8) q = I10072 (ad g 14) q := fun q hq => by rw [fz_at fiI10072 8 (by decide) (by decide), fz_at fiI10072 14 (by decide) (by decide)]; exact P8I10054 q hq
                  have e10074 : I10072 (ad g 0) 2 = w9892 := by rw [fz_at fiI10072 0 (by decide) (by decide)]; exact e10056
                  have e10075 : I10072 (ad g 0) 3 = w9893 := by rw [fz_at fiI10072 0 (by decide) (by decide)]; exact e10057
                  have e10076 : I10072 (ad g 0) 4 = w9894 := by rw [fz_at fiI10072 0 (by decide) (by decide)]; exact e10058
                  have e10077 : I10072 (ad g 0) 5 = w9895 := by rw [fz_at fiI10072 0 (by decide) (by decide)]; exact e10059
                  have e10078 : I10072 (ad g 0) 15 = w9897 := by rw [fz_at fiI10072 0 (by decide) (by decide)]; exact e10060
                  have e10079 : I10072 (ad g 0) 17 = w9898 := by rw [fz_at fiI10072 0 (by decide) (by decide)]; exact e10061
                  have e10080 : I10072 (ad g 0) 10 = w9897 := by rw [fz_at fiI10072 0 (by decide) (by decide)]; exact e10062
                  have e10081 : I10072 (ad g 0) 16 = v9908 := by rw [fz_at fiI10072 0 (by decide) (by decide)]; exact e10063
                  have e10082 : I10072 (ad g 0) 11 = v9908 := by rw [fz_at fiI10072 0 (by decide) (by decide)]; exact e10064
                  have e10083 : I10072 (ad g 0) 13 = w9898 := by rw [fz_at fiI10072 0 (by decide) (by decide)]; exact e10065
                  have e10084 : I10072 (ad g 0) 18 = v9932 := by rw [fz_at fiI10072 0 (by decide) (by decide)]; exact e10066
                  have e10085 : I10072 (ad g 0) 14 = v9937 := by rw [fz_at fiI10072 0 (by decide) (by decide)]; exact e10067
                  have e10086 : I10072 (ad g 0) 19 = v9953 := by rw [fz_at fiI10072 0 (by decide) (by decide)]; exact e10068
                  have e10087 : I10072 (ad g 0) 12 = v9953 := by rw [fz_at fiI10072 0 (by decide) (by decide)]; exact e10069
                  have e10088 : I10072 (ad g 0) 1 = L9880 := hI10072.1.2
                  have b10089 := BT_get hI10072.1.1 0 1 2 (0) (0) (900) (by decide) 1 (by decide) (by decide)
                  rw [e10088] at b10089
                  refine WP_aload_n dX11_town_198 rfl ?_
                  refine WP_getr dX11_town_199 fX11_249 rfl (ly_is hy 0 11 rfl) (rf hr 0 31 13 (by decide)) ?_
                  refine WP_aload_n dX11_town_202 rfl ?_
                  refine WP_getr dX11_town_203 fX11_135 rfl (ly_is hy 0 11 rfl) (rf hr 0 37 19 (by decide)) ?_
                  refine WP_callS2 dX11_town_206 ⟨⟨⟨by decide, by decide⟩, zX11_copy⟩, lX11_338, tX11_copy⟩ (sm_copyw_13_19 hy hr hI10072  ) (Nat.le_of_ble_eq_true rfl) ?_
                  intro r I10090 J10091 Ra hq
                  obtain ⟨⟨hI10090, ec, fiI10090, pI10090⟩, rfl⟩ := hq
                  rw [ec]
                  clear ec Ra
                  have WI10090 := WI10072
                  rw [← fz_at fiI10090 30 (by decide) (by decide), ← fz_at fiI10090 31 (by decide) (by decide)] at WI10090
                  have P8I10090 : ∀ q : Nat, q < 4 → I10090 (ad g 8) q = I10090 (ad g 14) q := fun q hq => by rw [fz_at fiI10090 8 (by decide) (by decide), fz_at fiI10090 14 (by decide) (by decide)]; exact P8I10072 q hq
                  have e10092 : I10090 (ad g 0) 2 = w9892 := by rw [fz_at fiI10090 0 (by decide) (by decide)]; exact e10074
                  have e10093 : I10090 (ad g 0) 3 = w9893 := by rw [fz_at fiI10090 0 (by decide) (by decide)]; exact e10075
                  have e10094 : I10090 (ad g 0) 4 = w9894 := by rw [fz_at fiI10090 0 (by decide) (by decide)]; exact e10076
                  have e10095 : I10090 (ad g 0) 5 = w9895 := by rw [fz_at fiI10090 0 (by decide) (by decide)]; exact e10077
                  have e10096 : I10090 (ad g 0) 15 = w9897 := by rw [fz_at fiI10090 0 (by decide) (by decide)]; exact e10078
                  have e10097 : I10090 (ad g 0) 17 = w9898 := by rw [fz_at fiI10090 0 (by decide) (by decide)]; exact e10079
                  have e10098 : I10090 (ad g 0) 10 = w9897 := by rw [fz_at fiI10090 0 (by decide) (by decide)]; exact e10080
                  have e10099 : I10090 (ad g 0) 16 = v9908 := by rw [fz_at fiI10090 0 (by decide) (by decide)]; exact e10081
                  have e10100 : I10090 (ad g 0) 11 = v9908 := by rw [fz_at fiI10090 0 (by decide) (by decide)]; exact e10082
                  have e10101 : I10090 (ad g 0) 13 = w9898 := by rw [fz_at fiI10090 0 (by decide) (by decide)]; exact e10083
                  have e10102 : I10090 (ad g 0) 18 = v9932 := by rw [fz_at fiI10090 0 (by decide) (by decide)]; exact e10084
                  have e10103 : I10090 (ad g 0) 14 = v9937 := by rw [fz_at fiI10090 0 (by decide) (by decide)]; exact e10085
                  have e10104 : I10090 (ad g 0) 19 = v9953 := by rw [fz_at fiI10090 0 (by decide) (by decide)]; exact e10086
                  have e10105 : I10090 (ad g 0) 12 = v9953 := by rw [fz_at fiI10090 0 (by decide) (by decide)]; exact e10087
                  have e10106 : I10090 (ad g 0) 1 = L9880 := hI10090.1.2
                  have b10107 := BT_get hI10090.1.1 0 1 2 (0) (0) (900) (by decide) 1 (by decide) (by decide)
                  rw [e10106] at b10107
                  refine WP_aload_n dX11_town_209 rfl ?_
                  refine WP_getr dX11_town_210 fX11_252 rfl (ly_is hy 0 11 rfl) (rf hr 0 38 20 (by decide)) ?_
                  refine WP_aload_n dX11_town_213 rfl ?_
                  refine WP_getr dX11_town_214 fX11_114 rfl (ly_is hy 0 11 rfl) (rf hr 0 45 27 (by decide)) ?_
                  refine WP_callS2 dX11_town_217 ⟨⟨⟨by decide, by decide⟩, zX11_copy⟩, lX11_338, tX11_copy⟩ (sm_copyw_20_27 hy hr hI10090  ) (Nat.le_of_ble_eq_true rfl) ?_
                  intro r I10108 J10109 Ra hq
                  obtain ⟨⟨hI10108, ec, fiI10108, pI10108⟩, rfl⟩ := hq
                  rw [ec]
                  clear ec Ra
                  have WI10108 := WI10090
                  rw [← fz_at fiI10108 30 (by decide) (by decide), ← fz_at fiI10108 31 (by decide) (by decide)] at WI10108
                  have P8I10108 : ∀ q : Nat, q < 4 → I10108 (ad g 8) q = I10108 (ad g 14) q := fun q hq => by rw [fz_at fiI10108 8 (by decide) (by decide), fz_at fiI10108 14 (by decide) (by decide)]; exact P8I10090 q hq
                  have e10110 : I10108 (ad g 0) 2 = w9892 := by rw [fz_at fiI10108 0 (by decide) (by decide)]; exact e10092
                  have e10111 : I10108 (ad g 0) 3 = w9893 := by rw [fz_at fiI10108 0 (by decide) (by decide)]; exact e10093
                  have e10112 : I10108 (ad g 0) 4 = w9894 := by rw [fz_at fiI10108 0 (by decide) (by decide)]; exact e10094
                  have e10113 : I10108 (ad g 0) 5 = w9895 := by rw [fz_at fiI10108 0 (by decide) (by decide)]; exact e10095
                  have e10114 : I10108 (ad g 0) 15 = w9897 := by rw [fz_at fiI10108 0 (by decide) (by decide)]; exact e10096
                  have e10115 : I10108 (ad g 0) 17 = w9898 := by rw [fz_at fiI10108 0 (by decide) (by decide)]; exact e10097
                  have e10116 : I10108 (ad g 0) 10 = w9897 := by rw [fz_at fiI10108 0 (by decide) (by decide)]; exact e10098
                  have e10117 : I10108 (ad g 0) 16 = v9908 := by rw [fz_at fiI10108 0 (by decide) (by decide)]; exact e10099
                  have e10118 : I10108 (ad g 0) 11 = v9908 := by rw [fz_at fiI10108 0 (by decide) (by decide)]; exact e10100
                  have e10119 : I10108 (ad g 0) 13 = w9898 := by rw [fz_at fiI10108 0 (by decide) (by decide)]; exact e10101
                  have e10120 : I10108 (ad g 0) 18 = v9932 := by rw [fz_at fiI10108 0 (by decide) (by decide)]; exact e10102
                  have e10121 : I10108 (ad g 0) 14 = v9937 := by rw [fz_at fiI10108 0 (by decide) (by decide)]; exact e10103
                  have e10122 : I10108 (ad g 0) 19 = v9953 := by rw [fz_at fiI10108 0 (by decide) (by decide)]; exact e10104
                  have e10123 : I10108 (ad g 0) 12 = v9953 := by rw [fz_at fiI10108 0 (by decide) (by decide)]; exact e10105
                  have e10124 : I10108 (ad g 0) 1 = L9880 := hI10108.1.2
                  have b10125 := BT_get hI10108.1.1 0 1 2 (0) (0) (900) (by decide) 1 (by decide) (by decide)
                  rw [e10124] at b10125
                  refine WP_aload_n dX11_town_220 rfl ?_
                  refine WP_getr dX11_town_221 fX11_254 rfl (ly_is hy 0 11 rfl) (rf hr 0 39 21 (by decide)) ?_
                  refine WP_aload_n dX11_town_224 rfl ?_
                  refine WP_getr dX11_town_225 fX11_141 rfl (ly_is hy 0 11 rfl) (rf hr 0 46 28 (by decide)) ?_
                  refine WP_callS2 dX11_town_228 ⟨⟨⟨by decide, by decide⟩, zX11_copy⟩, lX11_338, tX11_copy⟩ (sm_copyw_21_28 hy hr hI10108  ) (Nat.le_of_ble_eq_true rfl) ?_
                  intro r I10126 J10127 Ra hq
                  obtain ⟨⟨hI10126, ec, fiI10126, pI10126⟩, rfl⟩ := hq
                  rw [ec]
                  clear ec Ra
                  have WI10126 := WI10108
                  rw [← fz_at fiI10126 30 (by decide) (by decide), ← fz_at fiI10126 31 (by decide) (by decide)] at WI10126
                  have P8I10126 : ∀ q : Nat, q < 4 → I10126 (ad g 8) q = I10126 (ad g 14) q := fun q hq => by rw [fz_at fiI10126 8 (by decide) (by decide), fz_at fiI10126 14 (by decide) (by decide)]; exact P8I10108 q hq
                  have e10128 : I10126 (ad g 0) 2 = w9892 := by rw [fz_at fiI10126 0 (by decide) (by decide)]; exact e10110
                  have e10129 : I10126 (ad g 0) 3 = w9893 := by rw [fz_at fiI10126 0 (by decide) (by decide)]; exact e10111
                  have e10130 : I10126 (ad g 0) 4 = w9894 := by rw [fz_at fiI10126 0 (by decide) (by decide)]; exact e10112
                  have e10131 : I10126 (ad g 0) 5 = w9895 := by rw [fz_at fiI10126 0 (by decide) (by decide)]; exact e10113
                  have e10132 : I10126 (ad g 0) 15 = w9897 := by rw [fz_at fiI10126 0 (by decide) (by decide)]; exact e10114
                  have e10133 : I10126 (ad g 0) 17 = w9898 := by rw [fz_at fiI10126 0 (by decide) (by decide)]; exact e10115
                  have e10134 : I10126 (ad g 0) 10 = w9897 := by rw [fz_at fiI10126 0 (by decide) (by decide)]; exact e10116
                  have e10135 : I10126 (ad g 0) 16 = v9908 := by rw [fz_at fiI10126 0 (by decide) (by decide)]; exact e10117
                  have e10136 : I10126 (ad g 0) 11 = v9908 := by rw [fz_at fiI10126 0 (by decide) (by decide)]; exact e10118
                  have e10137 : I10126 (ad g 0) 13 = w9898 := by rw [fz_at fiI10126 0 (by decide) (by decide)]; exact e10119
                  have e10138 : I10126 (ad g 0) 18 = v9932 := by rw [fz_at fiI10126 0 (by decide) (by decide)]; exact e10120
                  have e10139 : I10126 (ad g 0) 14 = v9937 := by rw [fz_at fiI10126 0 (by decide) (by decide)]; exact e10121
                  have e10140 : I10126 (ad g 0) 19 = v9953 := by rw [fz_at fiI10126 0 (by decide) (by decide)]; exact e10122
                  have e10141 : I10126 (ad g 0) 12 = v9953 := by rw [fz_at fiI10126 0 (by decide) (by decide)]; exact e10123
                  have e10142 : I10126 (ad g 0) 1 = L9880 := hI10126.1.2
                  have b10143 := BT_get hI10126.1.1 0 1 2 (0) (0) (900) (by decide) 1 (by decide) (by decide)
                  rw [e10142] at b10143
                  refine WP_aload_n dX11_town_231 rfl ?_
                  refine WP_getr dX11_town_232 fX11_257 rfl (ly_is hy 0 11 rfl) (rf hr 0 40 22 (by decide)) ?_
                  refine WP_aload_n dX11_town_235 rfl ?_
                  refine WP_getr dX11_town_236 fX11_141 rfl (ly_is hy 0 11 rfl) (rf hr 0 46 28 (by decide)) ?_
                  refine WP_callS2 dX11_town_239 ⟨⟨⟨by decide, by decide⟩, zX11_copy⟩, lX11_338, tX11_copy⟩ (sm_copyw_22_28 hy hr hI10126  ) (Nat.le_of_ble_eq_true rfl) ?_
                  intro r I10144 J10145 Ra hq
                  obtain ⟨⟨hI10144, ec, fiI10144, pI10144⟩, rfl⟩ := hq
                  rw [ec]
                  clear ec Ra
                  have WI10144 := WI10126
                  rw [← fz_at fiI10144 30 (by decide) (by decide), ← fz_at fiI10144 31 (by decide) (by decide)] at WI10144
                  have P8I10144 : ∀ q : Nat, q < 4 → I10144 (ad g 8) q = I10144 (ad g 14) q := fun q hq => by rw [fz_at fiI10144 8 (by decide) (by decide), fz_at fiI10144 14 (by decide) (by decide)]; exact P8I10126 q hq
                  have e10146 : I10144 (ad g 0) 2 = w9892 := by rw [fz_at fiI10144 0 (by decide) (by decide)]; exact e10128
                  have e10147 : I10144 (ad g 0) 3 = w9893 := by rw [fz_at fiI10144 0 (by decide) (by decide)]; exact e10129
                  have e10148 : I10144 (ad g 0) 4 = w9894 := by rw [fz_at fiI10144 0 (by decide) (by decide)]; exact e10130
                  have e10149 : I10144 (ad g 0) 5 = w9895 := by rw [fz_at fiI10144 0 (by decide) (by decide)]; exact e10131
                  have e10150 : I10144 (ad g 0) 15 = w9897 := by rw [fz_at fiI10144 0 (by decide) (by decide)]; exact e10132
                  have e10151 : I10144 (ad g 0) 17 = w9898 := by rw [fz_at fiI10144 0 (by decide) (by decide)]; exact e10133
                  have e10152 : I10144 (ad g 0) 10 = w9897 := by rw [fz_at fiI10144 0 (by decide) (by decide)]; exact e10134
                  have e10153 : I10144 (ad g 0) 16 = v9908 := by rw [fz_at fiI10144 0 (by decide) (by decide)]; exact e10135
                  have e10154 : I10144 (ad g 0) 11 = v9908 := by rw [fz_at fiI10144 0 (by decide) (by decide)]; exact e10136
                  have e10155 : I10144 (ad g 0) 13 = w9898 := by rw [fz_at fiI10144 0 (by decide) (by decide)]; exact e10137
                  have e10156 : I10144 (ad g 0) 18 = v9932 := by rw [fz_at fiI10144 0 (by decide) (by decide)]; exact e10138
                  have e10157 : I10144 (ad g 0) 14 = v9937 := by rw [fz_at fiI10144 0 (by decide) (by decide)]; exact e10139
                  have e10158 : I10144 (ad g 0) 19 = v9953 := by rw [fz_at fiI10144 0 (by decide) (by decide)]; exact e10140
                  have e10159 : I10144 (ad g 0) 12 = v9953 := by rw [fz_at fiI10144 0 (by decide) (by decide)]; exact e10141
                  have e10160 : I10144 (ad g 0) 1 = L9880 := hI10144.1.2
                  have b10161 := BT_get hI10144.1.1 0 1 2 (0) (0) (900) (by decide) 1 (by decide) (by decide)
                  rw [e10160] at b10161
                  refine WP_aload_n dX11_town_242 rfl ?_
                  refine WP_getr dX11_town_243 fX11_259 rfl (ly_is hy 0 11 rfl) (rf hr 0 41 23 (by decide)) ?_
                  refine WP_aload_n dX11_town_246 rfl ?_
                  refine WP_getr dX11_town_247 fX11_144 rfl (ly_is hy 0 11 rfl) (rf hr 0 47 29 (by decide)) ?_
                  refine WP_callS2 dX11_town_250 ⟨⟨⟨by decide, by decide⟩, zX11_copy⟩, lX11_338, tX11_copy⟩ (sm_copyw_23_29 hy hr hI10144  ) (Nat.le_of_ble_eq_true rfl) ?_
                  intro r I10162 J10163 Ra hq
                  obtain ⟨⟨hI10162, ec, fiI10162, pI10162⟩, rfl⟩ := hq
                  rw [ec]
                  clear ec Ra
                  have WI10162 := WI10144
                  rw [← fz_at fiI10162 30 (by decide) (by decide), ← fz_at fiI10162 31 (by decide) (by decide)] at WI10162
                  have P8I10162 : ∀ q : Nat, q < 4 → I10162 (ad g 8) q = I10162 (ad g 14) q := fun q hq => by rw [fz_at fiI10162 8 (by decide) (by decide), fz_at fiI10162 14 (by decide) (by decide)]; exact P8I10144 q hq
                  have e10164 : I10162 (ad g 0) 2 = w9892 := by rw [fz_at fiI10162 0 (by decide) (by decide)]; exact e10146
                  have e10165 : I10162 (ad g 0) 3 = w9893 := by rw [fz_at fiI10162 0 (by decide) (by decide)]; exact e10147
                  have e10166 : I10162 (ad g 0) 4 = w9894 := by rw [fz_at fiI10162 0 (by decide) (by decide)]; exact e10148
                  have e10167 : I10162 (ad g 0) 5 = w9895 := by rw [fz_at fiI10162 0 (by decide) (by decide)]; exact e10149
                  have e10168 : I10162 (ad g 0) 15 = w9897 := by rw [fz_at fiI10162 0 (by decide) (by decide)]; exact e10150
                  have e10169 : I10162 (ad g 0) 17 = w9898 := by rw [fz_at fiI10162 0 (by decide) (by decide)]; exact e10151
                  have e10170 : I10162 (ad g 0) 10 = w9897 := by rw [fz_at fiI10162 0 (by decide) (by decide)]; exact e10152
                  have e10171 : I10162 (ad g 0) 16 = v9908 := by rw [fz_at fiI10162 0 (by decide) (by decide)]; exact e10153
                  have e10172 : I10162 (ad g 0) 11 = v9908 := by rw [fz_at fiI10162 0 (by decide) (by decide)]; exact e10154
                  have e10173 : I10162 (ad g 0) 13 = w9898 := by rw [fz_at fiI10162 0 (by decide) (by decide)]; exact e10155
                  have e10174 : I10162 (ad g 0) 18 = v9932 := by rw [fz_at fiI10162 0 (by decide) (by decide)]; exact e10156
                  have e10175 : I10162 (ad g 0) 14 = v9937 := by rw [fz_at fiI10162 0 (by decide) (by decide)]; exact e10157
                  have e10176 : I10162 (ad g 0) 19 = v9953 := by rw [fz_at fiI10162 0 (by decide) (by decide)]; exact e10158
                  have e10177 : I10162 (ad g 0) 12 = v9953 := by rw [fz_at fiI10162 0 (by decide) (by decide)]; exact e10159
                  have e10178 : I10162 (ad g 0) 1 = L9880 := hI10162.1.2
                  have b10179 := BT_get hI10162.1.1 0 1 2 (0) (0) (900) (by decide) 1 (by decide) (by decide)
                  rw [e10178] at b10179
                  refine WP_aload_n dX11_town_253 rfl ?_
                  refine WP_getr dX11_town_254 fX11_261 rfl (ly_is hy 0 11 rfl) (rf hr 0 42 24 (by decide)) ?_
                  refine WP_aload_n dX11_town_257 rfl ?_
                  refine WP_getr dX11_town_258 fX11_117 rfl (ly_is hy 0 11 rfl) (rf hr 0 48 30 (by decide)) ?_
                  refine WP_callS2 dX11_town_261 ⟨⟨⟨by decide, by decide⟩, zX11_copy⟩, lX11_338, tX11_copy⟩ (sm_copyw_24_30 hy hr hI10162  ) (Nat.le_of_ble_eq_true rfl) ?_
                  intro r I10180 J10181 Ra hq
                  obtain ⟨⟨hI10180, ec, fiI10180, pI10180⟩, rfl⟩ := hq
                  rw [ec]
                  clear ec Ra
                  have WI10180 := WI10162
                  rw [← fz_at fiI10180 30 (by decide) (by decide), ← fz_at fiI10180 31 (by decide) (by decide)] at WI10180
                  have P8I10180 : ∀ q : Nat, q < 4 → I10180 (ad g 8) q = I10180 (ad g 14) q := fun q hq => by rw [fz_at fiI10180 8 (by decide) (by decide), fz_at fiI10180 14 (by decide) (by decide)]; exact P8I10162 q hq
                  have P24I10180 : ∀ q : Nat, q < 28 → I10180 (ad g 24) q = I10180 (ad g 30) q := fun q hq => by rw [fz_at fiI10180 30 (by decide) (by decide)]; exact pI10180 q hq
                  have e10182 : I10180 (ad g 0) 2 = w9892 := by rw [fz_at fiI10180 0 (by decide) (by decide)]; exact e10164
                  have e10183 : I10180 (ad g 0) 3 = w9893 := by rw [fz_at fiI10180 0 (by decide) (by decide)]; exact e10165
                  have e10184 : I10180 (ad g 0) 4 = w9894 := by rw [fz_at fiI10180 0 (by decide) (by decide)]; exact e10166
                  have e10185 : I10180 (ad g 0) 5 = w9895 := by rw [fz_at fiI10180 0 (by decide) (by decide)]; exact e10167
                  have e10186 : I10180 (ad g 0) 15 = w9897 := by rw [fz_at fiI10180 0 (by decide) (by decide)]; exact e10168
                  have e10187 : I10180 (ad g 0) 17 = w9898 := by rw [fz_at fiI10180 0 (by decide) (by decide)]; exact e10169
                  have e10188 : I10180 (ad g 0) 10 = w9897 := by rw [fz_at fiI10180 0 (by decide) (by decide)]; exact e10170
                  have e10189 : I10180 (ad g 0) 16 = v9908 := by rw [fz_at fiI10180 0 (by decide) (by decide)]; exact e10171
                  have e10190 : I10180 (ad g 0) 11 = v9908 := by rw [fz_at fiI10180 0 (by decide) (by decide)]; exact e10172
                  have e10191 : I10180 (ad g 0) 13 = w9898 := by rw [fz_at fiI10180 0 (by decide) (by decide)]; exact e10173
                  have e10192 : I10180 (ad g 0) 18 = v9932 := by rw [fz_at fiI10180 0 (by decide) (by decide)]; exact e10174
                  have e10193 : I10180 (ad g 0) 14 = v9937 := by rw [fz_at fiI10180 0 (by decide) (by decide)]; exact e10175
                  have e10194 : I10180 (ad g 0) 19 = v9953 := by rw [fz_at fiI10180 0 (by decide) (by decide)]; exact e10176
                  have e10195 : I10180 (ad g 0) 12 = v9953 := by rw [fz_at fiI10180 0 (by decide) (by decide)]; exact e10177
                  have e10196 : I10180 (ad g 0) 1 = L9880 := hI10180.1.2
                  have b10197 := BT_get hI10180.1.1 0 1 2 (0) (0) (900) (by decide) 1 (by decide) (by decide)
                  rw [e10196] at b10197
                  refine WP_aload_n dX11_town_264 rfl ?_
                  refine WP_getr dX11_town_265 fX11_264 rfl (ly_is hy 0 11 rfl) (rf hr 0 43 25 (by decide)) ?_
                  refine WP_aload_n dX11_town_268 rfl ?_
                  refine WP_getr dX11_town_269 fX11_120 rfl (ly_is hy 0 11 rfl) (rf hr 0 49 31 (by decide)) ?_
                  refine WP_callS2 dX11_town_272 ⟨⟨⟨by decide, by decide⟩, zX11_copy⟩, lX11_338, tX11_copy⟩ (sm_copyw_25_31 hy hr hI10180  ) (Nat.le_of_ble_eq_true rfl) ?_
                  intro r I10198 J10199 Ra hq
                  obtain ⟨⟨hI10198, ec, fiI10198, pI10198⟩, rfl⟩ := hq
                  rw [ec]
                  clear ec Ra
                  have WI10198 := WI10180
                  rw [← fz_at fiI10198 30 (by decide) (by decide), ← fz_at fiI10198 31 (by decide) (by decide)] at WI10198
                  have P8I10198 : ∀ q : Nat, q < 4 → I10198 (ad g 8) q = I10198 (ad g 14) q := fun q hq => by rw [fz_at fiI10198 8 (by decide) (by decide), fz_at fiI10198 14 (by decide) (by decide)]; exact P8I10180 q hq
                  have P24I10198 : ∀ q : Nat, q < 28 → I10198 (ad g 24) q = I10198 (ad g 30) q := fun q hq => by rw [fz_at fiI10198 24 (by decide) (by decide), fz_at fiI10198 30 (by decide) (by decide)]; exact P24I10180 q hq
                  have P25I10198 : ∀ q : Nat, q < 28 → I10198 (ad g 25) q = I10198 (ad g 31) q := fun q hq => by rw [fz_at fiI10198 31 (by decide) (by decide)]; exact pI10198 q hq
                  have e10200 : I10198 (ad g 0) 2 = w9892 := by rw [fz_at fiI10198 0 (by decide) (by decide)]; exact e10182
                  have e10201 : I10198 (ad g 0) 3 = w9893 := by rw [fz_at fiI10198 0 (by decide) (by decide)]; exact e10183
                  have e10202 : I10198 (ad g 0) 4 = w9894 := by rw [fz_at fiI10198 0 (by decide) (by decide)]; exact e10184
                  have e10203 : I10198 (ad g 0) 5 = w9895 := by rw [fz_at fiI10198 0 (by decide) (by decide)]; exact e10185
                  have e10204 : I10198 (ad g 0) 15 = w9897 := by rw [fz_at fiI10198 0 (by decide) (by decide)]; exact e10186
                  have e10205 : I10198 (ad g 0) 17 = w9898 := by rw [fz_at fiI10198 0 (by decide) (by decide)]; exact e10187
                  have e10206 : I10198 (ad g 0) 10 = w9897 := by rw [fz_at fiI10198 0 (by decide) (by decide)]; exact e10188
                  have e10207 : I10198 (ad g 0) 16 = v9908 := by rw [fz_at fiI10198 0 (by decide) (by decide)]; exact e10189
                  have e10208 : I10198 (ad g 0) 11 = v9908 := by rw [fz_at fiI10198 0 (by decide) (by decide)]; exact e10190
                  have e10209 : I10198 (ad g 0) 13 = w9898 := by rw [fz_at fiI10198 0 (by decide) (by decide)]; exact e10191
                  have e10210 : I10198 (ad g 0) 18 = v9932 := by rw [fz_at fiI10198 0 (by decide) (by decide)]; exact e10192
                  have e10211 : I10198 (ad g 0) 14 = v9937 := by rw [fz_at fiI10198 0 (by decide) (by decide)]; exact e10193
                  have e10212 : I10198 (ad g 0) 19 = v9953 := by rw [fz_at fiI10198 0 (by decide) (by decide)]; exact e10194
                  have e10213 : I10198 (ad g 0) 12 = v9953 := by rw [fz_at fiI10198 0 (by decide) (by decide)]; exact e10195
                  have e10214 : I10198 (ad g 0) 1 = L9880 := hI10198.1.2
                  have b10215 := BT_get hI10198.1.1 0 1 2 (0) (0) (900) (by decide) 1 (by decide) (by decide)
                  rw [e10214] at b10215
                  refine WP_aload_n dX11_town_275 rfl ?_
                  refine WP_getr dX11_town_276 fX11_267 rfl (ly_is hy 0 11 rfl) (rf hr 0 44 26 (by decide)) ?_
                  refine WP_aload_n dX11_town_279 rfl ?_
                  refine WP_getr dX11_town_280 fX11_123 rfl (ly_is hy 0 11 rfl) (rf hr 0 50 32 (by decide)) ?_
                  refine WP_callS2 dX11_town_283 ⟨⟨⟨by decide, by decide⟩, zX11_copy⟩, lX11_338, tX11_copy⟩ (sm_copyw_26_32 hy hr hI10198  ) (Nat.le_of_ble_eq_true rfl) ?_
                  intro r I10216 J10217 Ra hq
                  obtain ⟨⟨hI10216, ec, fiI10216, pI10216⟩, rfl⟩ := hq
                  rw [ec]
                  clear ec Ra
                  have WI10216 := WI10198
                  rw [← fz_at fiI10216 30 (by decide) (by decide), ← fz_at fiI10216 31 (by decide) (by decide)] at WI10216
                  have P8I10216 : ∀ q : Nat, q < 4 → I10216 (ad g 8) q = I10216 (ad g 14) q := fun q hq => by rw [fz_at fiI10216 8 (by decide) (by decide), fz_at fiI10216 14 (by decide) (by decide)]; exact P8I10198 q hq
                  have P24I10216 : ∀ q : Nat, q < 28 → I10216 (ad g 24) q = I10216 (ad g 30) q := fun q hq => by rw [fz_at fiI10216 24 (by decide) (by decide), fz_at fiI10216 30 (by decide) (by decide)]; exact P24I10198 q hq
                  have P25I10216 : ∀ q : Nat, q < 28 → I10216 (ad g 25) q = I10216 (ad g 31) q := fun q hq => by rw [fz_at fiI10216 25 (by decide) (by decide), fz_at fiI10216 31 (by decide) (by decide)]; exact P25I10198 q hq
                  have e10218 : I10216 (ad g 0) 2 = w9892 := by rw [fz_at fiI10216 0 (by decide) (by decide)]; exact e10200
                  have e10219 : I10216 (ad g 0) 3 = w9893 := by rw [fz_at fiI10216 0 (by decide) (by decide)]; exact e10201
                  have e10220 : I10216 (ad g 0) 4 = w9894 := by rw [fz_at fiI10216 0 (by decide) (by decide)]; exact e10202
                  have e10221 : I10216 (ad g 0) 5 = w9895 := by rw [fz_at fiI10216 0 (by decide) (by decide)]; exact e10203
                  have e10222 : I10216 (ad g 0) 15 = w9897 := by rw [fz_at fiI10216 0 (by decide) (by decide)]; exact e10204
                  have e10223 : I10216 (ad g 0) 17 = w9898 := by rw [fz_at fiI10216 0 (by decide) (by decide)]; exact e10205
                  have e10224 : I10216 (ad g 0) 10 = w9897 := by rw [fz_at fiI10216 0 (by decide) (by decide)]; exact e10206
                  have e10225 : I10216 (ad g 0) 16 = v9908 := by rw [fz_at fiI10216 0 (by decide) (by decide)]; exact e10207
                  have e10226 : I10216 (ad g 0) 11 = v9908 := by rw [fz_at fiI10216 0 (by decide) (by decide)]; exact e10208
                  have e10227 : I10216 (ad g 0) 13 = w9898 := by rw [fz_at fiI10216 0 (by decide) (by decide)]; exact e10209
                  have e10228 : I10216 (ad g 0) 18 = v9932 := by rw [fz_at fiI10216 0 (by decide) (by decide)]; exact e10210
                  have e10229 : I10216 (ad g 0) 14 = v9937 := by rw [fz_at fiI10216 0 (by decide) (by decide)]; exact e10211
                  have e10230 : I10216 (ad g 0) 19 = v9953 := by rw [fz_at fiI10216 0 (by decide) (by decide)]; exact e10212
                  have e10231 : I10216 (ad g 0) 12 = v9953 := by rw [fz_at fiI10216 0 (by decide) (by decide)]; exact e10213
                  have e10232 : I10216 (ad g 0) 1 = L9880 := hI10216.1.2
                  have b10233 := BT_get hI10216.1.1 0 1 2 (0) (0) (900) (by decide) 1 (by decide) (by decide)
                  rw [e10232] at b10233
                  refine WQ_iconst (0) (0) dX11_town_286 rfl rfl (fun v10234 hv10234 => ?_)
                  refine WP_istore_n (ls' := [(0, _), (1, _)]) dX11_town_287 (by decide) rfl ?_
                  have lp288_10241 : ∀ (mz : Nat) (i10235 : Int32) (I10236 : pI) (J10237 : pJ), MW g n L9880 I10236 → ∀ (w10239 : Int32), I10236 (ad g 0) 10 = w10239 → ∀ (w10240 : Int32), I10236 (ad g 0) 13 = w10240 → ∀ (w10241 : Int32), I10236 (ad g 0) 15 = w10241 → 0 ≤ i10235.toInt → i10235.toInt ≤ 4 → w10239.toInt = w10241.toInt → w10240.toInt < w10241.toInt → (∀ q : Nat, q < 4 → I10236 (ad g 8) q = I10236 (ad g 14) q) → (∀ q : Nat, q < 28 → I10236 (ad g 24) q = I10236 (ad g 30) q) → (∀ q : Nat, q < 28 → I10236 (ad g 25) q = I10236 (ad g 31) q) → (WRt (I10236 (ad g 30)) (I10236 (ad g 31)) (7 * w10241.toInt)) → (5 - i10235.toInt).toNat < mz → WP g mX11_town 288 [(0, .ref (ad g 0)), (1, .int i10235)] [] I10236 J10237 R (fun r I' J' R' => ((∃ L2 : Int32, MP g n L2 I' ∧ L2.toInt = 0) ∧ R' = R) ∧ ∃ v : Int32, r = some (.int v)) := by
                    intro mz
                    induction mz with
                    | zero =>
                      intro i10235 I10236 J10237 hI10236 w10239 ew10239 w10240 ew10240 w10241 ew10241 ai10235 bi10235 j0_I10236 j1_I10236 PP8_I10236_10237 PP24_I10236_10237 PP25_I10236_10237 PW_I10236_10237 hmlp288_10241
                      exact absurd hmlp288_10241 (Nat.not_lt_zero _)
                    | succ mz ihlp288_10241 =>
                      intro i10235 I10236 J10237 hI10236 w10239 ew10239 w10240 ew10240 w10241 ew10241 ai10235 bi10235 j0_I10236 j1_I10236 PP8_I10236_10237 PP24_I10236_10237 PP25_I10236_10237 PW_I10236_10237 hmlp288_10241
                      have bw10239 := BT_get hI10236.1.1 0 10 11 (0) (0) (4) (by decide) 10 (by decide) (by decide)
                      rw [ew10239] at bw10239
                      have bw10240 := BT_get hI10236.1.1 0 13 14 (-1) (0) (3) (by decide) 13 (by decide) (by decide)
                      rw [ew10240] at bw10240
                      have bw10241 := BT_get hI10236.1.1 0 15 16 (0) (0) (4) (by decide) 15 (by decide) (by decide)
                      rw [ew10241] at bw10241
                      have e10243 : I10236 (ad g 0) 1 = L9880 := hI10236.1.2
                      have b10244 := BT_get hI10236.1.1 0 1 2 (0) (0) (900) (by decide) 1 (by decide) (by decide)
                      rw [e10243] at b10244
                      refine WP_iload_n dX11_town_288 rfl ?_
                      refine WQ_iconst (4) (4) dX11_town_289 rfl rfl (fun v10245 hv10245 => ?_)
                      refine WQ_icmp_ge 323 dX11_town_290 rfl (fun c10245 => ?_) (fun c10245 => ?_)
                      · refine WP_aload_n dX11_town_323 rfl ?_
                        refine WP_aload_n dX11_town_324 rfl ?_
                        refine WP_getr dX11_town_325 fX11_283 rfl (ly_is hy 0 11 rfl) (rf hr 0 59 38 (by decide)) ?_
                        refine WP_callV1 (k := 11) dX11_town_328 ⟨⟨⟨by decide, by decide⟩, zX11_begin⟩, lX11_342, by decide, rfl, vX11_begin.1, vX11_begin.2⟩ (ly_is hy 0 11 rfl) (sm_beginw_38 hy hr hI10236   (by omega)) (Nat.le_of_ble_eq_true rfl) ?_
                        intro r I10247 J10248 Ra hq
                        obtain ⟨⟨hI10247, ec, fiI10247⟩, rfl⟩ := hq
                        rw [ec]
                        clear ec Ra
                        have P8I10247 : ∀ q : Nat, q < 4 → I10247 (ad g 8) q = I10247 (ad g 14) q := fun q hq => by rw [fz_at fiI10247 8 (by decide) (by decide), fz_at fiI10247 14 (by decide) (by decide)]; exact PP8_I10236_10237 q hq
                        have P24I10247 : ∀ q : Nat, q < 28 → I10247 (ad g 24) q = I10247 (ad g 30) q := fun q hq => by rw [fz_at fiI10247 24 (by decide) (by decide), fz_at fiI10247 30 (by decide) (by decide)]; exact PP24_I10236_10237 q hq
                        have P25I10247 : ∀ q : Nat, q < 28 → I10247 (ad g 25) q = I10247 (ad g 31) q := fun q hq => by rw [fz_at fiI10247 25 (by decide) (by decide), fz_at fiI10247 31 (by decide) (by decide)]; exact PP25_I10236_10237 q hq
                        have WI10247 := PW_I10236_10237
                        rw [← fz_at fiI10247 30 (by decide) (by decide), ← fz_at fiI10247 31 (by decide) (by decide)] at WI10247
                        have e10249 : I10247 (ad g 0) 10 = w10239 := by rw [fz_at fiI10247 0 (by decide) (by decide)]; exact ew10239
                        have e10250 : I10247 (ad g 0) 13 = w10240 := by rw [fz_at fiI10247 0 (by decide) (by decide)]; exact ew10240
                        have e10251 : I10247 (ad g 0) 15 = w10241 := by rw [fz_at fiI10247 0 (by decide) (by decide)]; exact ew10241
                        have e10252 : I10247 (ad g 0) 1 = L9880 := hI10247.1.2
                        have b10253 := BT_get hI10247.1.1 0 1 2 (0) (0) (900) (by decide) 1 (by decide) (by decide)
                        rw [e10252] at b10253
                        refine WP_aload_n dX11_town_331 rfl ?_
                        refine WP_lconst (0) dX11_town_332 rfl ?_
                        obtain ⟨l10254, hl10254, el10254⟩ : ∃ v : Int64, v.toInt = 0 ∧ (0 : Int64) = v := ⟨_, rfl, rfl⟩
                        rw [el10254]; clear el10254
                        refine WQ_putl dX11_town_333 fX11_346 rfl rfl (ly_is hy 0 11 rfl) (fun J10255 eJ10255 => ?_)
                        clear eJ10255
                        refine WP_aload_n dX11_town_336 rfl ?_
                        refine WP_callV0 (k := 11) dX11_town_337 ⟨⟨⟨by decide, by decide⟩, zX11_forgetWeeks⟩, lX11_350, by decide, rfl, vX11_forgetWeeks.1, vX11_forgetWeeks.2⟩ (ly_is hy 0 11 rfl) (sm_forgetWeeksw hy hr hI10247  ) (Nat.le_of_ble_eq_true rfl) ?_
                        intro r I10256 J10257 Ra hq
                        obtain ⟨⟨hI10256, ec, fiI10256⟩, rfl⟩ := hq
                        rw [ec]
                        clear ec Ra
                        have P8I10256 : ∀ q : Nat, q < 4 → I10256 (ad g 8) q = I10256 (ad g 14) q := fun q hq => by rw [fz_at fiI10256 8 (by decide) (by decide), fz_at fiI10256 14 (by decide) (by decide)]; exact P8I10247 q hq
                        have P24I10256 : ∀ q : Nat, q < 28 → I10256 (ad g 24) q = I10256 (ad g 30) q := fun q hq => by rw [fz_at fiI10256 24 (by decide) (by decide), fz_at fiI10256 30 (by decide) (by decide)]; exact P24I10247 q hq
                        have P25I10256 : ∀ q : Nat, q < 28 → I10256 (ad g 25) q = I10256 (ad g 31) q := fun q hq => by rw [fz_at fiI10256 25 (by decide) (by decide), fz_at fiI10256 31 (by decide) (by decide)]; exact P25I10247 q hq
                        have WI10256 := WI10247
                        rw [← fz_at fiI10256 30 (by decide) (by decide), ← fz_at fiI10256 31 (by decide) (by decide)] at WI10256
                        have e10258 : I10256 (ad g 0) 10 = w10239 := by rw [fz_at fiI10256 0 (by decide) (by decide)]; exact e10249
                        have e10259 : I10256 (ad g 0) 13 = w10240 := by rw [fz_at fiI10256 0 (by decide) (by decide)]; exact e10250
                        have e10260 : I10256 (ad g 0) 15 = w10241 := by rw [fz_at fiI10256 0 (by decide) (by decide)]; exact e10251
                        have e10261 : I10256 (ad g 0) 1 = L9880 := hI10256.1.2
                        have b10262 := BT_get hI10256.1.1 0 1 2 (0) (0) (900) (by decide) 1 (by decide) (by decide)
                        rw [e10261] at b10262
                        refine WQ_iconst (0) (0) dX11_town_340 rfl rfl (fun v10263 hv10263 => ?_)
                        refine WP_istore_n (ls' := [(0, _), (1, _)]) dX11_town_341 (by decide) rfl ?_
                        have lp342_10270 : ∀ (mz : Nat) (i10264 : Int32) (I10265 : pI) (J10266 : pJ), MW g n L9880 I10265 → ∀ (w10268 : Int32), I10265 (ad g 0) 10 = w10268 → ∀ (w10269 : Int32), I10265 (ad g 0) 13 = w10269 → ∀ (w10270 : Int32), I10265 (ad g 0) 15 = w10270 → 0 ≤ i10264.toInt → i10264.toInt ≤ 3 → w10268.toInt = w10270.toInt → w10269.toInt < w10270.toInt → (∀ q : Nat, q < 4 → I10265 (ad g 8) q = I10265 (ad g 14) q) → (∀ q : Nat, q < 28 → I10265 (ad g 24) q = I10265 (ad g 30) q) → (∀ q : Nat, q < 28 → I10265 (ad g 25) q = I10265 (ad g 31) q) → (WRt (I10265 (ad g 30)) (I10265 (ad g 31)) (7 * w10270.toInt)) → (4 - i10264.toInt).toNat < mz → WP g mX11_town 342 [(0, .ref (ad g 0)), (1, .int i10264)] [] I10265 J10266 R (fun r I' J' R' => ((∃ L2 : Int32, MP g n L2 I' ∧ L2.toInt = 0) ∧ R' = R) ∧ ∃ v : Int32, r = some (.int v)) := by
                          intro mz
                          induction mz with
                          | zero =>
                            intro i10264 I10265 J10266 hI10265 w10268 ew10268 w10269 ew10269 w10270 ew10270 ai10264 bi10264 j0_I10265 j1_I10265 PP8_I10265_10266 PP24_I10265_10266 PP25_I10265_10266 PW_I10265_10266 hmlp342_10270
                            exact absurd hmlp342_10270 (Nat.not_lt_zero _)
                          | succ mz ihlp342_10270 =>
                            intro i10264 I10265 J10266 hI10265 w10268 ew10268 w10269 ew10269 w10270 ew10270 ai10264 bi10264 j0_I10265 j1_I10265 PP8_I10265_10266 PP24_I10265_10266 PP25_I10265_10266 PW_I10265_10266 hmlp342_10270
                            have bw10268 := BT_get hI10265.1.1 0 10 11 (0) (0) (4) (by decide) 10 (by decide) (by decide)
                            rw [ew10268] at bw10268
                            have bw10269 := BT_get hI10265.1.1 0 13 14 (-1) (0) (3) (by decide) 13 (by decide) (by decide)
                            rw [ew10269] at bw10269
                            have bw10270 := BT_get hI10265.1.1 0 15 16 (0) (0) (4) (by decide) 15 (by decide) (by decide)
                            rw [ew10270] at bw10270
                            have e10272 : I10265 (ad g 0) 1 = L9880 := hI10265.1.2
                            have b10273 := BT_get hI10265.1.1 0 1 2 (0) (0) (900) (by decide) 1 (by decide) (by decide)
                            rw [e10272] at b10273
                            refine WP_iload_n dX11_town_342 rfl ?_
                            refine WQ_iconst (3) (3) dX11_town_343 rfl rfl (fun v10274 hv10274 => ?_)
                            refine WQ_icmp_ge 360 dX11_town_344 rfl (fun c10274 => ?_) (fun c10274 => ?_)
                            · refine WP_aload_n dX11_town_360 rfl ?_
                              refine WQ_iconst (-1) (-1) dX11_town_361 rfl rfl (fun v10276 hv10276 => ?_)
                              refine WQ_puti dX11_town_362 fX11_304 rfl rfl (ly_is hy 0 11 rfl) (fun I10277 eI10277 => ?_)
                              have hI10277 : MW g n L9880 I10277 := by rw [eI10277]; exact (mw_w hy hI10265 (c := 0) (mi_f0 hy hI10265.1 (c := 0) (by decide) (Or.inr (by decide)) (by decide)) (by decide) (by decide) (Or.inr (by decide)))
                              have e10278 : I10277 (ad g 0) 10 = w10268 := by rw [eI10277, pp_ne _ _ (Or.inr (by decide))]; exact ew10268
                              have e10279 : I10277 (ad g 0) 13 = w10269 := by rw [eI10277, pp_ne _ _ (Or.inr (by decide))]; exact ew10269
                              have e10280 : I10277 (ad g 0) 15 = w10270 := by rw [eI10277, pp_ne _ _ (Or.inr (by decide))]; exact ew10270
                              have e10281 : I10277 (ad g 0) 1 = L9880 := by rw [eI10277, pp_ne _ _ (Or.inr (by decide))]; exact e10272
                              have e10282 : I10277 (ad g 0) 68 = v10276 := by rw [eI10277, pp_self]
                              have P8I10277 : ∀ q : Nat, q < 4 → I10277 (ad g 8) q = I10277 (ad g 14) q := fun q hq => by rw [show I10277 (ad g 8) = I10265 (ad g 8) by rw [eI10277, pp_off _ _ (ly_ne hy (by decide) (by decide) (by decide))], show I10277 (ad g 14) = I10265 (ad g 14) by rw [eI10277, pp_off _ _ (ly_ne hy (by decide) (by decide) (by decide))]]; exact PP8_I10265_10266 q hq
                              have P24I10277 : ∀ q : Nat, q < 28 → I10277 (ad g 24) q = I10277 (ad g 30) q := fun q hq => by rw [show I10277 (ad g 24) = I10265 (ad g 24) by rw [eI10277, pp_off _ _ (ly_ne hy (by decide) (by decide) (by decide))], show I10277 (ad g 30) = I10265 (ad g 30) by rw [eI10277, pp_off _ _ (ly_ne hy (by decide) (by decide) (by decide))]]; exact PP24_I10265_10266 q hq
                              have P25I10277 : ∀ q : Nat, q < 28 → I10277 (ad g 25) q = I10277 (ad g 31) q := fun q hq => by rw [show I10277 (ad g 25) = I10265 (ad g 25) by rw [eI10277, pp_off _ _ (ly_ne hy (by decide) (by decide) (by decide))], show I10277 (ad g 31) = I10265 (ad g 31) by rw [eI10277, pp_off _ _ (ly_ne hy (by decide) (by decide) (by decide))]]; exact PP25_I10265_10266 q hq
                              have WI10277 := PW_I10265_10266
                              rw [← (show I10277 (ad g 30) = I10265 (ad g 30) by rw [eI10277, pp_off _ _ (ly_ne hy (by decide) (by decide) (by decide))]), ← (show I10277 (ad g 31) = I10265 (ad g 31) by rw [eI10277, pp_off _ _ (ly_ne hy (by decide) (by decide) (by decide))])] at WI10277
                              clear eI10277
                              have hMP : MP g n L9880 I10277 := ⟨hI10277.1, Or.inl ⟨fun q hq => by rw [e10278] at hq; rw [P8I10277 q (by omega)]; exact hI10277.2.2 q (by rw [e10280]; omega), by rw [e10279, e10278]; omega, fun q hq h24 => by rw [e10278] at hq; rw [P25I10277 q (by omega)]; rw [P24I10277 q (by omega)] at h24; exact WI10277 q (by omega) h24⟩, hI10277.2⟩
                              refine WP_aload_n dX11_town_365 rfl ?_
                              refine WQ_getiu dX11_town_366 fX11_335 rfl (ly_is hy 0 11 rfl) (fun v10283 ev10283 => ?_)
                              exact WP_iret dX11_town_369 rfl ⟨⟨⟨_, hMP, by omega⟩, rfl⟩, _, rfl⟩
                            · refine WP_aload_n dX11_town_347 rfl ?_
                              refine WP_getr dX11_town_348 fX11_301 rfl (ly_is hy 0 11 rfl) (rf hr 0 67 44 (by decide)) ?_
                              refine WP_iload_n dX11_town_351 rfl ?_
                              refine WQ_iconst (0) (0) dX11_town_352 rfl rfl (fun v10284 hv10284 => ?_)
                              refine WQ_zast dX11_town_353 (ly_is hy 44 15 rfl) (ly_n hy 44 3 rfl) (by omega) (by omega) (fun I10285 v10286 eI10285 => ?_)
                              have hI10285 : MP g n L9880 I10285 := by rw [eI10285]; exact (mp_w hy hI10265 (c := 44) (mi_r0 hy hI10265.1 (c := 44) (by decide) (Or.inl (by decide)) (by decide)) (by decide) (by decide) (Or.inl (by decide)))
                              have e10287 : I10285 (ad g 0) 10 = w10268 := by rw [eI10285, pp_ne _ _ (Or.inl (ly_ne hy (by decide) (by decide) (by decide)))]; exact ew10268
                              have e10288 : I10285 (ad g 0) 13 = w10269 := by rw [eI10285, pp_ne _ _ (Or.inl (ly_ne hy (by decide) (by decide) (by decide)))]; exact ew10269
                              have e10289 : I10285 (ad g 0) 15 = w10270 := by rw [eI10285, pp_ne _ _ (Or.inl (ly_ne hy (by decide) (by decide) (by decide)))]; exact ew10270
                              have e10290 : I10285 (ad g 0) 1 = L9880 := by rw [eI10285, pp_ne _ _ (Or.inl (ly_ne hy (by decide) (by decide) (by decide)))]; exact e10272
                              have P8I10285 : ∀ q : Nat, q < 4 → I10285 (ad g 8) q = I10285 (ad g 14) q := fun q hq => by rw [show I10285 (ad g 8) = I10265 (ad g 8) by rw [eI10285, pp_off _ _ (ly_ne hy (by decide) (by decide) (by decide))], show I10285 (ad g 14) = I10265 (ad g 14) by rw [eI10285, pp_off _ _ (ly_ne hy (by decide) (by decide) (by decide))]]; exact PP8_I10265_10266 q hq
                              have P24I10285 : ∀ q : Nat, q < 28 → I10285 (ad g 24) q = I10285 (ad g 30) q := fun q hq => by rw [show I10285 (ad g 24) = I10265 (ad g 24) by rw [eI10285, pp_off _ _ (ly_ne hy (by decide) (by decide) (by decide))], show I10285 (ad g 30) = I10265 (ad g 30) by rw [eI10285, pp_off _ _ (ly_ne hy (by decide) (by decide) (by decide))]]; exact PP24_I10265_10266 q hq
                              have P25I10285 : ∀ q : Nat, q < 28 → I10285 (ad g 25) q = I10285 (ad g 31) q := fun q hq => by rw [show I10285 (ad g 25) = I10265 (ad g 25) by rw [eI10285, pp_off _ _ (ly_ne hy (by decide) (by decide) (by decide))], show I10285 (ad g 31) = I10265 (ad g 31) by rw [eI10285, pp_off _ _ (ly_ne hy (by decide) (by decide) (by decide))]]; exact PP25_I10265_10266 q hq
                              have WI10285 := PW_I10265_10266
                              rw [← (show I10285 (ad g 30) = I10265 (ad g 30) by rw [eI10285, pp_off _ _ (ly_ne hy (by decide) (by decide) (by decide))]), ← (show I10285 (ad g 31) = I10265 (ad g 31) by rw [eI10285, pp_off _ _ (ly_ne hy (by decide) (by decide) (by decide))])] at WI10285
                              clear eI10285
                              refine WP_iinc (ls' := [(0, _), (1, _)]) dX11_town_354 rfl (by decide) rfl ?_
                              have hv10291 : (i10264 + Int32.ofInt (1)).toInt = i10264.toInt + (1) := ia_n rfl (by omega) (by omega)
                              generalize i10264 + Int32.ofInt (1) = v10291 at hv10291 ⊢
                              refine WP_goto 342 dX11_town_357 rfl ?_
                              exact WP_sub (fc rfl (fc rfl fn)) (ihlp342_10270 v10291 I10285 J10266 hI10285 w10268 e10287 w10269 e10288 w10270 e10289 (by omega) (by omega) (by omega) (by omega) P8I10285 P24I10285 P25I10285 WI10285 (by omega))
                        exact WP_sub (fc rfl (fc rfl fn)) (lp342_10270 _ v10263 I10256 J10257 hI10256 w10239 e10258 w10240 e10259 w10241 e10260 (by omega) (by omega) (by omega) (by omega) P8I10256 P24I10256 P25I10256 WI10256 (Nat.lt_succ_self _))
                      · refine WP_aload_n dX11_town_293 rfl ?_
                        refine WP_getr dX11_town_294 fX11_283 rfl (ly_is hy 0 11 rfl) (rf hr 0 59 38 (by decide)) ?_
                        refine WQ_bipush (28) (28) dX11_town_297 rfl rfl (fun v10292 hv10292 => ?_)
                        refine WP_iload_n dX11_town_299 rfl ?_
                        refine WQ_iadd dX11_town_300 (by omega) (by omega) (fun v10293 hv10293 => ?_)
                        refine WQ_iconst (1) (1) dX11_town_301 rfl rfl (fun v10294 hv10294 => ?_)
                        refine WQ_iast dX11_town_302 (ly_is hy 38 13 rfl) (ly_n hy 38 35 rfl) (by omega) (by omega) (fun I10295 eI10295 => ?_)
                        have hI10295 : MP g n L9880 I10295 := by rw [eI10295]; exact (mp_w hy hI10236 (c := 38) (mi_rr hy hI10236.1 (c := 38) (28) (31) (0) (0) (0) (by decide) (Or.inl (by decide)) (by rw [cl (n := v10293.toInt.toNat) (by omega)]; omega) (by decide) (fun h => absurd h (by decide))) (by decide) (by decide) (Or.inl (by decide)))
                        have e10296 : I10295 (ad g 0) 10 = w10239 := by rw [eI10295, pp_ne _ _ (Or.inl (ly_ne hy (by decide) (by decide) (by decide)))]; exact ew10239
                        have e10297 : I10295 (ad g 0) 13 = w10240 := by rw [eI10295, pp_ne _ _ (Or.inl (ly_ne hy (by decide) (by decide) (by decide)))]; exact ew10240
                        have e10298 : I10295 (ad g 0) 15 = w10241 := by rw [eI10295, pp_ne _ _ (Or.inl (ly_ne hy (by decide) (by decide) (by decide)))]; exact ew10241
                        have e10299 : I10295 (ad g 0) 1 = L9880 := by rw [eI10295, pp_ne _ _ (Or.inl (ly_ne hy (by decide) (by decide) (by decide)))]; exact e10243
                        have P8I10295 : ∀ q : Nat, q < 4 → I10295 (ad g 8) q = I10295 (ad g 14) q := fun q hq => by rw [show I10295 (ad g 8) = I10236 (ad g 8) by rw [eI10295, pp_off _ _ (ly_ne hy (by decide) (by decide) (by decide))], show I10295 (ad g 14) = I10236 (ad g 14) by rw [eI10295, pp_off _ _ (ly_ne hy (by decide) (by decide) (by decide))]]; exact PP8_I10236_10237 q hq
                        have P24I10295 : ∀ q : Nat, q < 28 → I10295 (ad g 24) q = I10295 (ad g 30) q := fun q hq => by rw [show I10295 (ad g 24) = I10236 (ad g 24) by rw [eI10295, pp_off _ _ (ly_ne hy (by decide) (by decide) (by decide))], show I10295 (ad g 30) = I10236 (ad g 30) by rw [eI10295, pp_off _ _ (ly_ne hy (by decide) (by decide) (by decide))]]; exact PP24_I10236_10237 q hq
                        have P25I10295 : ∀ q : Nat, q < 28 → I10295 (ad g 25) q = I10295 (ad g 31) q := fun q hq => by rw [show I10295 (ad g 25) = I10236 (ad g 25) by rw [eI10295, pp_off _ _ (ly_ne hy (by decide) (by decide) (by decide))], show I10295 (ad g 31) = I10236 (ad g 31) by rw [eI10295, pp_off _ _ (ly_ne hy (by decide) (by decide) (by decide))]]; exact PP25_I10236_10237 q hq
                        have WI10295 := PW_I10236_10237
                        rw [← (show I10295 (ad g 30) = I10236 (ad g 30) by rw [eI10295, pp_off _ _ (ly_ne hy (by decide) (by decide) (by decide))]), ← (show I10295 (ad g 31) = I10236 (ad g 31) by rw [eI10295, pp_off _ _ (ly_ne hy (by decide) (by decide) (by decide))])] at WI10295
                        clear eI10295
                        refine WP_aload_n dX11_town_303 rfl ?_
                        refine WP_getr dX11_town_304 fX11_310 rfl (ly_is hy 0 11 rfl) (rf hr 0 71 46 (by decide)) ?_
                        refine WP_iload_n dX11_town_307 rfl ?_
                        refine WQ_iconst (0) (0) dX11_town_308 rfl rfl (fun v10300 hv10300 => ?_)
                        refine WQ_iast dX11_town_309 (ly_is hy 46 13 rfl) (ly_n hy 46 4 rfl) (by omega) (by omega) (fun I10301 eI10301 => ?_)
                        have hI10301 : MP g n L9880 I10301 := by rw [eI10301]; exact (mp_w hy hI10295 (c := 46) (mi_r0 hy hI10295.1 (c := 46) (by decide) (Or.inl (by decide)) (by decide)) (by decide) (by decide) (Or.inl (by decide)))
                        have e10302 : I10301 (ad g 0) 10 = w10239 := by rw [eI10301, pp_ne _ _ (Or.inl (ly_ne hy (by decide) (by decide) (by decide)))]; exact e10296
                        have e10303 : I10301 (ad g 0) 13 = w10240 := by rw [eI10301, pp_ne _ _ (Or.inl (ly_ne hy (by decide) (by decide) (by decide)))]; exact e10297
                        have e10304 : I10301 (ad g 0) 15 = w10241 := by rw [eI10301, pp_ne _ _ (Or.inl (ly_ne hy (by decide) (by decide) (by decide)))]; exact e10298
                        have e10305 : I10301 (ad g 0) 1 = L9880 := by rw [eI10301, pp_ne _ _ (Or.inl (ly_ne hy (by decide) (by decide) (by decide)))]; exact e10299
                        have P8I10301 : ∀ q : Nat, q < 4 → I10301 (ad g 8) q = I10301 (ad g 14) q := fun q hq => by rw [show I10301 (ad g 8) = I10295 (ad g 8) by rw [eI10301, pp_off _ _ (ly_ne hy (by decide) (by decide) (by decide))], show I10301 (ad g 14) = I10295 (ad g 14) by rw [eI10301, pp_off _ _ (ly_ne hy (by decide) (by decide) (by decide))]]; exact P8I10295 q hq
                        have P24I10301 : ∀ q : Nat, q < 28 → I10301 (ad g 24) q = I10301 (ad g 30) q := fun q hq => by rw [show I10301 (ad g 24) = I10295 (ad g 24) by rw [eI10301, pp_off _ _ (ly_ne hy (by decide) (by decide) (by decide))], show I10301 (ad g 30) = I10295 (ad g 30) by rw [eI10301, pp_off _ _ (ly_ne hy (by decide) (by decide) (by decide))]]; exact P24I10295 q hq
                        have P25I10301 : ∀ q : Nat, q < 28 → I10301 (ad g 25) q = I10301 (ad g 31) q := fun q hq => by rw [show I10301 (ad g 25) = I10295 (ad g 25) by rw [eI10301, pp_off _ _ (ly_ne hy (by decide) (by decide) (by decide))], show I10301 (ad g 31) = I10295 (ad g 31) by rw [eI10301, pp_off _ _ (ly_ne hy (by decide) (by decide) (by decide))]]; exact P25I10295 q hq
                        have WI10301 := WI10295
                        rw [← (show I10301 (ad g 30) = I10295 (ad g 30) by rw [eI10301, pp_off _ _ (ly_ne hy (by decide) (by decide) (by decide))]), ← (show I10301 (ad g 31) = I10295 (ad g 31) by rw [eI10301, pp_off _ _ (ly_ne hy (by decide) (by decide) (by decide))])] at WI10301
                        clear eI10301
                        refine WP_aload_n dX11_town_310 rfl ?_
                        refine WP_getr dX11_town_311 fX11_313 rfl (ly_is hy 0 11 rfl) (rf hr 0 72 47 (by decide)) ?_
                        refine WP_iload_n dX11_town_314 rfl ?_
                        refine WQ_iconst (0) (0) dX11_town_315 rfl rfl (fun v10306 hv10306 => ?_)
                        refine WQ_iast dX11_town_316 (ly_is hy 47 13 rfl) (ly_n hy 47 4 rfl) (by omega) (by omega) (fun I10307 eI10307 => ?_)
                        have hI10307 : MP g n L9880 I10307 := by rw [eI10307]; exact (mp_w hy hI10301 (c := 47) (mi_r0 hy hI10301.1 (c := 47) (by decide) (Or.inl (by decide)) (by decide)) (by decide) (by decide) (Or.inl (by decide)))
                        have e10308 : I10307 (ad g 0) 10 = w10239 := by rw [eI10307, pp_ne _ _ (Or.inl (ly_ne hy (by decide) (by decide) (by decide)))]; exact e10302
                        have e10309 : I10307 (ad g 0) 13 = w10240 := by rw [eI10307, pp_ne _ _ (Or.inl (ly_ne hy (by decide) (by decide) (by decide)))]; exact e10303
                        have e10310 : I10307 (ad g 0) 15 = w10241 := by rw [eI10307, pp_ne _ _ (Or.inl (ly_ne hy (by decide) (by decide) (by decide)))]; exact e10304
                        have e10311 : I10307 (ad g 0) 1 = L9880 := by rw [eI10307, pp_ne _ _ (Or.inl (ly_ne hy (by decide) (by decide) (by decide)))]; exact e10305
                        have P8I10307 : ∀ q : Nat, q < 4 → I10307 (ad g 8) q = I10307 (ad g 14) q := fun q hq => by rw [show I10307 (ad g 8) = I10301 (ad g 8) by rw [eI10307, pp_off _ _ (ly_ne hy (by decide) (by decide) (by decide))], show I10307 (ad g 14) = I10301 (ad g 14) by rw [eI10307, pp_off _ _ (ly_ne hy (by decide) (by decide) (by decide))]]; exact P8I10301 q hq
                        have P24I10307 : ∀ q : Nat, q < 28 → I10307 (ad g 24) q = I10307 (ad g 30) q := fun q hq => by rw [show I10307 (ad g 24) = I10301 (ad g 24) by rw [eI10307, pp_off _ _ (ly_ne hy (by decide) (by decide) (by decide))], show I10307 (ad g 30) = I10301 (ad g 30) by rw [eI10307, pp_off _ _ (ly_ne hy (by decide) (by decide) (by decide))]]; exact P24I10301 q hq
                        have P25I10307 : ∀ q : Nat, q < 28 → I10307 (ad g 25) q = I10307 (ad g 31) q := fun q hq => by rw [show I10307 (ad g 25) = I10301 (ad g 25) by rw [eI10307, pp_off _ _ (ly_ne hy (by decide) (by decide) (by decide))], show I10307 (ad g 31) = I10301 (ad g 31) by rw [eI10307, pp_off _ _ (ly_ne hy (by decide) (by decide) (by decide))]]; exact P25I10301 q hq
                        have WI10307 := WI10301
                        rw [← (show I10307 (ad g 30) = I10301 (ad g 30) by rw [eI10307, pp_off _ _ (ly_ne hy (by decide) (by decide) (by decide))]), ← (show I10307 (ad g 31) = I10301 (ad g 31) by rw [eI10307, pp_off _ _ (ly_ne hy (by decide) (by decide) (by decide))])] at WI10307
                        clear eI10307
                        refine WP_iinc (ls' := [(0, _), (1, _)]) dX11_town_317 rfl (by decide) rfl ?_
                        have hv10312 : (i10235 + Int32.ofInt (1)).toInt = i10235.toInt + (1) := ia_n rfl (by omega) (by omega)
                        generalize i10235 + Int32.ofInt (1) = v10312 at hv10312 ⊢
                        refine WP_goto 288 dX11_town_320 rfl ?_
                        exact WP_sub (fc rfl (fc rfl fn)) (ihlp288_10241 v10312 I10307 J10237 hI10307 w10239 e10308 w10240 e10309 w10241 e10310 (by omega) (by omega) (by omega) (by omega) P8I10307 P24I10307 P25I10307 WI10307 (by omega))
                  exact WP_sub (fc rfl (fc rfl fn)) (lp288_10241 _ v10234 I10216 J10217 hI10216 w9897 e10224 w9898 e10227 w9897 e10222 (by omega) (by omega) (by omega) (by omega) P8I10216 P24I10216 P25I10216 WI10216 (Nat.lt_succ_self _))
                · refine WP_aload_n dX11_town_114 rfl ?_
                  refine WP_getr dX11_town_115 fX11_230 rfl (ly_is hy 0 11 rfl) (rf hr 0 21 3 (by decide)) ?_
                  refine WP_iload_n dX11_town_118 rfl ?_
                  refine WP_aload_n dX11_town_119 rfl ?_
                  refine WP_getr dX11_town_120 fX11_129 rfl (ly_is hy 0 11 rfl) (rf hr 0 23 5 (by decide)) ?_
                  refine WP_iload_n dX11_town_123 rfl ?_
                  refine WQ_laldu dX11_town_124 (ly_is hy 5 14 rfl) (ly_n hy 5 3 rfl) (by omega) (by omega) (fun l10313 => ?_)
                  refine WQ_last dX11_town_125 (ly_is hy 3 14 rfl) (ly_n hy 3 3 rfl) (by omega) (by omega) (fun J10314 eJ10314 => ?_)
                  clear eJ10314
                  refine WP_iinc (ls' := [(0, _), (1, _)]) dX11_town_126 rfl (by decide) rfl ?_
                  have hv10315 : (i9977 + Int32.ofInt (1)).toInt = i9977.toInt + (1) := ia_n rfl (by omega) (by omega)
                  generalize i9977 + Int32.ofInt (1) = v10315 at hv10315 ⊢
                  refine WP_goto 106 dX11_town_129 rfl ?_
                  exact WP_sub (fc rfl (fc rfl fn)) (ihlp106_9979 v10315 J10314 (by omega) (by omega) (by omega))
            exact WP_sub (fc rfl (fc rfl fn)) (lp106_9979 _ v9976 J9972 (by omega) (by omega) (Nat.lt_succ_self _))
          · refine WP_aload_n dX11_town_86 rfl ?_
            refine WP_getr dX11_town_87 fX11_227 rfl (ly_is hy 0 11 rfl) (rf hr 0 20 2 (by decide)) ?_
            refine WP_iload_n dX11_town_90 rfl ?_
            refine WP_aload_n dX11_town_91 rfl ?_
            refine WP_getr dX11_town_92 fX11_91 rfl (ly_is hy 0 11 rfl) (rf hr 0 22 4 (by decide)) ?_
            refine WP_iload_n dX11_town_95 rfl ?_
            refine WQ_laldu dX11_town_96 (ly_is hy 4 14 rfl) (ly_n hy 4 4 rfl) (by omega) (by omega) (fun l10316 => ?_)
            refine WQ_last dX11_town_97 (ly_is hy 2 14 rfl) (ly_n hy 2 4 rfl) (by omega) (by omega) (fun J10317 eJ10317 => ?_)
            clear eJ10317
            refine WP_iinc (ls' := [(0, _), (1, _)]) dX11_town_98 rfl (by decide) rfl ?_
            have hv10318 : (i9971 + Int32.ofInt (1)).toInt = i9971.toInt + (1) := ia_n rfl (by omega) (by omega)
            generalize i9971 + Int32.ofInt (1) = v10318 at hv10318 ⊢
            refine WP_goto 78 dX11_town_101 rfl ?_
            exact WP_sub (fc rfl (fc rfl fn)) (ihlp78_9973 v10318 J10317 (by omega) (by omega) (by omega))
      exact WP_sub (fc rfl (fc rfl fn)) (lp78_9973 _ v9970 J9888 (by omega) (by omega) (Nat.lt_succ_self _))
    refine WQ_icmp_eq 53 dX11_town_43 rfl (fun c10318 => ?_) (fun c10318 => ?_)
    · refine WP_aload_n dX11_town_53 rfl ?_
      refine WQ_getim dX11_town_54 fX11_332 rfl (ly_is hy 0 11 rfl) e9930 ?_
      refine WQ_if_le 64 dX11_town_57 rfl (fun c10319 => ?_) (fun c10319 => ?_)
      · refine WQ_iconst (-1) (-1) dX11_town_64 rfl rfl (fun v10321 hv10321 => ?_)
        exact WP_sub (fc rfl fn) (jn65_9937 v10321 (by omega) (by omega))
      · refine WQ_iconst (0) (0) dX11_town_60 rfl rfl (fun v10322 hv10322 => ?_)
        refine WP_goto 65 dX11_town_61 rfl ?_
        exact WP_sub (fc rfl fn) (jn65_9937 v10322 (by omega) (by omega))
    · refine WP_aload_n dX11_town_46 rfl ?_
      refine WQ_getim dX11_town_47 fX11_161 rfl (ly_is hy 0 11 rfl) ev9932 ?_
      refine WP_goto 65 dX11_town_50 rfl ?_
      exact WP_sub (fc rfl fn) (jn65_9937 v9932 (by omega) (by omega))
  · refine WQ_iconst (-1) (-1) dX11_town_11 rfl rfl (fun v10323 hv10323 => ?_)
    exact WP_iret dX11_town_12 rfl ⟨⟨⟨_, hI9887, by omega⟩, rfl⟩, _, rfl⟩
