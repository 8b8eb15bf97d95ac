set_option maxHeartbeats 4000000 in
set_option maxRecDepth 100000 in
theorem sm_town {g : GG} {n : Int} {L : Int32} (hy : Ly g) {aK aV : Nat → Nat} {fo : Option Nat} (hz : HZ g aK aV fo)  {I : pI} {J : pJ} {R : pR} (hr : Rf g R) (hI : MP g n L I)   (hn : 0 ≤ n) : SP g mX11_town [.ref (ad g 0)] I J R (fun r I' J' R' => ((∃ L2 : Int32, MP g n L2 I' ∧ L2.toInt = 0) ∧ R' = R ∧ fz 49 g [0, 6, 7, 8, 9, 10, 11, 12, 13, 14, 15, 16, 17, 18, 19, 20, 21, 22, 23, 24, 25, 26, 27, 28, 29, 30, 31, 32, 33, 34, 37, 38, 44, 46, 47] I I' ∧ fz 49 g [0, 2, 3, 4, 5] J J' ∧ fs g [1, 2, 3, 4, 5, 6, 7, 8, 9, 10, 11, 12, 13, 14, 15, 16, 17, 18, 19, 51, 68] I I') ∧ ∃ v : Int32, r = some (.int v)) := by
  refine SP_of ⟨by decide, rfl⟩ (Nat.le_of_ble_eq_true rfl) ?_
  have e10888 : I (ad g 0) 1 = L := hI.1.2
  have b10889 := BT_get hI.1.1 0 1 2 (0) (0) (900) (by decide) 1 (by decide) (by decide)
  rw [e10888] at b10889
  have fr0 : fz 49 g [0, 6, 7, 8, 9, 10, 11, 12, 13, 14, 15, 16, 17, 18, 19, 20, 21, 22, 23, 24, 25, 26, 27, 28, 29, 30, 31, 32, 33, 34, 37, 38, 44, 46, 47] I I := fz_rf
  have frj0 : fz 49 g [0, 2, 3, 4, 5] J J := fz_rf
  have frq0 : fs g [1, 2, 3, 4, 5, 6, 7, 8, 9, 10, 11, 12, 13, 14, 15, 16, 17, 18, 19, 51, 68] I I := fs_rf
  refine WP_aload_n dX11_town_0 rfl ?_
  refine WP_callV0 (k := 11) dX11_town_1 ⟨⟨⟨by decide, by decide⟩, zX11_open⟩, lX11_323, by decide, rfl, vX11_open.1, vX11_open.2⟩ (ly_is hy 0 11 rfl) (sm_openx hy hr hI  ) (Nat.le_of_ble_eq_true rfl) ?_
  intro r I10890 J10891 Ra hq
  obtain ⟨⟨⟨L10892, hI10890, qL10892⟩, ec, fiI10890, fjI10890, fqI10890, pI10890⟩, rfl⟩ := hq
  rw [ec]
  clear ec Ra
  have fr10893 : fz 49 g [0, 6, 7, 8, 9, 10, 11, 12, 13, 14, 15, 16, 17, 18, 19, 20, 21, 22, 23, 24, 25, 26, 27, 28, 29, 30, 31, 32, 33, 34, 37, 38, 44, 46, 47] I I10890 := fz_tr fr0 (fz_mono fiI10890 (by decide))
  have fr10894 : fs g [1, 2, 3, 4, 5, 6, 7, 8, 9, 10, 11, 12, 13, 14, 15, 16, 17, 18, 19, 51, 68] I I10890 := fs_tr frq0 (fs_mono fqI10890 (by decide))
  have fr10895 : fz 49 g [0, 2, 3, 4, 5] J J10891 := fz_tr frj0 (fz_mono fjI10890 (by decide))
  have e10896 : I10890 (ad g 0) 1 = L10892 := hI10890.1.2
  have b10897 := BT_get hI10890.1.1 0 1 2 (0) (0) (900) (by decide) 1 (by decide) (by decide)
  rw [e10896] at b10897
  obtain ⟨w10898, ew10898⟩ : ∃ w : Int32, I10890 (ad g 0) 2 = w := ⟨_, rfl⟩
  have bw10898 := BT_get hI10890.1.1 0 2 3 (0) (0) (900) (by decide) 2 (by decide) (by decide)
  rw [ew10898] at bw10898
  obtain ⟨w10899, ew10899⟩ : ∃ w : Int32, I10890 (ad g 0) 3 = w := ⟨_, rfl⟩
  have bw10899 := BT_get hI10890.1.1 0 3 4 (0) (0) (900) (by decide) 3 (by decide) (by decide)
  rw [ew10899] at bw10899
  obtain ⟨w10900, ew10900⟩ : ∃ w : Int32, I10890 (ad g 0) 4 = w := ⟨_, rfl⟩
  have bw10900 := BT_get hI10890.1.1 0 4 5 (0) (0) (900) (by decide) 4 (by decide) (by decide)
  rw [ew10900] at bw10900
  obtain ⟨w10901, ew10901⟩ : ∃ w : Int32, I10890 (ad g 0) 5 = w := ⟨_, rfl⟩
  have bw10901 := BT_get hI10890.1.1 0 5 6 (0) (0) (4) (by decide) 5 (by decide) (by decide)
  rw [ew10901] at bw10901
  rw [ew10898, ew10899, ew10900, ew10901] at pI10890
  refine WP_aload_n dX11_town_4 rfl ?_
  refine WP_callV0 (k := 11) dX11_town_5 ⟨⟨⟨by decide, by decide⟩, zX11_readTown⟩, lX11_326, by decide, rfl, vX11_readTown.1, vX11_readTown.2⟩ (ly_is hy 0 11 rfl) (sm_readTown hy hz hr hI10890   (by rw [ew10898, ew10899, ew10900, ew10901]; omega)) (Nat.le_of_ble_eq_true rfl) ?_
  intro r I10902 J10903 Ra hq
  obtain ⟨⟨hI10902, ec, fiI10902, fjI10902, fqI10902⟩, v10904, rfl, av10904, bv10904, cv10904⟩ := hq
  show WP _ _ _ _ (.int _ :: _) _ _ _ _
  rw [ec]
  clear ec Ra
  have fr10905 : fz 49 g [0, 6, 7, 8, 9, 10, 11, 12, 13, 14, 15, 16, 17, 18, 19, 20, 21, 22, 23, 24, 25, 26, 27, 28, 29, 30, 31, 32, 33, 34, 37, 38, 44, 46, 47] I I10902 := fz_tr fr10893 (fz_mono fiI10902 (by decide))
  have fr10906 : fs g [1, 2, 3, 4, 5, 6, 7, 8, 9, 10, 11, 12, 13, 14, 15, 16, 17, 18, 19, 51, 68] I I10902 := fs_tr fr10894 (fs_mono fqI10902 (by decide))
  have fr10907 : fz 49 g [0, 2, 3, 4, 5] J J10903 := fz_tr fr10895 (fz_mono fjI10902 (by decide))
  have e10908 : I10902 (ad g 0) 1 = L10892 := hI10902.1.2
  have b10909 := BT_get hI10902.1.1 0 1 2 (0) (0) (900) (by decide) 1 (by decide) (by decide)
  rw [e10908] at b10909
  refine WQ_if_ne 13 dX11_town_8 rfl (fun c10909 => ?_) (fun c10909 => ?_)
  · obtain ⟨w10911, ew10911⟩ : ∃ w : Int32, I10902 (ad g 0) 15 = w := ⟨_, rfl⟩
    have bw10911 := BT_get hI10902.1.1 0 15 16 (0) (0) (4) (by decide) 15 (by decide) (by decide)
    rw [ew10911] at bw10911
    obtain ⟨w10912, ew10912⟩ : ∃ w : Int32, I10902 (ad g 0) 17 = w := ⟨_, rfl⟩
    have bw10912 := BT_get hI10902.1.1 0 17 18 (-1) (0) (3) (by decide) 17 (by decide) (by decide)
    rw [ew10912] at bw10912
    obtain ⟨cc, cwr⟩ := cv10904 (by omega)
    rw [ew10912, ew10911] at cc
    rw [ew10911] at cwr
    have hmw := mp_mw hI10902
    refine WP_aload_n dX11_town_13 rfl ?_
    refine WP_aload_n dX11_town_14 rfl ?_
    refine WQ_getim dX11_town_15 fX11_88 rfl (ly_is hy 0 11 rfl) ew10911 ?_
    refine WQ_puti dX11_town_18 fX11_329 rfl rfl (ly_is hy 0 11 rfl) (fun I10913 eI10913 => ?_)
    have hI10913 : MW g n L10892 I10913 := by rw [eI10913]; exact (mw_w hy hmw (c := 0) (mi_f hy hmw.1 (c := 0) (0) (0) (4) (by decide) (Or.inr (by decide)) (by decide) (by omega) (by omega)) (by decide) (by decide) (Or.inr (by decide)))
    have e10914 : I10913 (ad g 0) 1 = L10892 := by rw [eI10913, pp_ne _ _ (Or.inr (by decide))]; exact e10908
    have e10915 : I10913 (ad g 0) 15 = w10911 := by rw [eI10913, pp_ne _ _ (Or.inr (by decide))]; exact ew10911
    have e10916 : I10913 (ad g 0) 17 = w10912 := by rw [eI10913, pp_ne _ _ (Or.inr (by decide))]; exact ew10912
    have e10917 : I10913 (ad g 0) 10 = w10911 := by rw [eI10913, pp_self]
    have fr10918 : fs g [1, 2, 3, 4, 5, 6, 7, 8, 9, 10, 11, 12, 13, 14, 15, 16, 17, 18, 19, 51, 68] I I10913 := by rw [eI10913]; exact fs_pp0 fr10906 (by decide)
    have fr10919 : fz 49 g [0, 6, 7, 8, 9, 10, 11, 12, 13, 14, 15, 16, 17, 18, 19, 20, 21, 22, 23, 24, 25, 26, 27, 28, 29, 30, 31, 32, 33, 34, 37, 38, 44, 46, 47] I I10913 := by rw [eI10913]; exact fzm_pp hy fr10905 (by decide) (by decide)
    have WI10913 := cwr
    rw [← (show I10913 (ad g 30) = I10902 (ad g 30) by rw [eI10913, pp_off _ _ (ly_ne hy (by decide) (by decide) (by decide))]), ← (show I10913 (ad g 31) = I10902 (ad g 31) by rw [eI10913, pp_off _ _ (ly_ne hy (by decide) (by decide) (by decide))])] at WI10913
    clear eI10913
    refine WP_aload_n dX11_town_21 rfl ?_
    refine WP_aload_n dX11_town_22 rfl ?_
    refine WQ_geti dX11_town_23 fX11_126 rfl (ly_is hy 0 11 rfl) (BT_get hI10913.1.1 0 16 17 (0) (0) (3) (by decide) 16 (by decide) (by decide)) (fun v10920 ev10920 av10920 bv10920 => ?_)
    refine WQ_puti dX11_town_26 fX11_332 rfl rfl (ly_is hy 0 11 rfl) (fun I10921 eI10921 => ?_)
    have hI10921 : MW g n L10892 I10921 := by rw [eI10921]; exact (mw_w hy hI10913 (c := 0) (mi_f hy hI10913.1 (c := 0) (0) (0) (3) (by decide) (Or.inr (by decide)) (by decide) (by omega) (by omega)) (by decide) (by decide) (Or.inr (by decide)))
    have e10922 : I10921 (ad g 0) 1 = L10892 := by rw [eI10921, pp_ne _ _ (Or.inr (by decide))]; exact e10914
    have e10923 : I10921 (ad g 0) 15 = w10911 := by rw [eI10921, pp_ne _ _ (Or.inr (by decide))]; exact e10915
    have e10924 : I10921 (ad g 0) 17 = w10912 := by rw [eI10921, pp_ne _ _ (Or.inr (by decide))]; exact e10916
    have e10925 : I10921 (ad g 0) 10 = w10911 := by rw [eI10921, pp_ne _ _ (Or.inr (by decide))]; exact e10917
    have e10926 : I10921 (ad g 0) 16 = v10920 := by rw [eI10921, pp_ne _ _ (Or.inr (by decide))]; exact ev10920
    have e10927 : I10921 (ad g 0) 11 = v10920 := by rw [eI10921, pp_self]
    have fr10928 : fs g [1, 2, 3, 4, 5, 6, 7, 8, 9, 10, 11, 12, 13, 14, 15, 16, 17, 18, 19, 51, 68] I I10921 := by rw [eI10921]; exact fs_pp0 fr10918 (by decide)
    have fr10929 : fz 49 g [0, 6, 7, 8, 9, 10, 11, 12, 13, 14, 15, 16, 17, 18, 19, 20, 21, 22, 23, 24, 25, 26, 27, 28, 29, 30, 31, 32, 33, 34, 37, 38, 44, 46, 47] I I10921 := by rw [eI10921]; exact fzm_pp hy fr10919 (by decide) (by decide)
    have WI10921 := WI10913
    rw [← (show I10921 (ad g 30) = I10913 (ad g 30) by rw [eI10921, pp_off _ _ (ly_ne hy (by decide) (by decide) (by decide))]), ← (show I10921 (ad g 31) = I10913 (ad g 31) by rw [eI10921, pp_off _ _ (ly_ne hy (by decide) (by decide) (by decide))])] at WI10921
    clear eI10921
    refine WP_aload_n dX11_town_29 rfl ?_
    refine WP_aload_n dX11_town_30 rfl ?_
    refine WQ_getim dX11_town_31 fX11_158 rfl (ly_is hy 0 11 rfl) e10924 ?_
    refine WQ_puti dX11_town_34 fX11_221 rfl rfl (ly_is hy 0 11 rfl) (fun I10930 eI10930 => ?_)
    have hI10930 : MW g n L10892 I10930 := by rw [eI10930]; exact (mw_w hy hI10921 (c := 0) (mi_f hy hI10921.1 (c := 0) (-1) (0) (3) (by decide) (Or.inr (by decide)) (by decide) (by omega) (by omega)) (by decide) (by decide) (Or.inr (by decide)))
    have e10931 : I10930 (ad g 0) 1 = L10892 := by rw [eI10930, pp_ne _ _ (Or.inr (by decide))]; exact e10922
    have e10932 : I10930 (ad g 0) 15 = w10911 := by rw [eI10930, pp_ne _ _ (Or.inr (by decide))]; exact e10923
    have e10933 : I10930 (ad g 0) 17 = w10912 := by rw [eI10930, pp_ne _ _ (Or.inr (by decide))]; exact e10924
    have e10934 : I10930 (ad g 0) 10 = w10911 := by rw [eI10930, pp_ne _ _ (Or.inr (by decide))]; exact e10925
    have e10935 : I10930 (ad g 0) 16 = v10920 := by rw [eI10930, pp_ne _ _ (Or.inr (by decide))]; exact e10926
    have e10936 : I10930 (ad g 0) 11 = v10920 := by rw [eI10930, pp_ne _ _ (Or.inr (by decide))]; exact e10927
    have e10937 : I10930 (ad g 0) 13 = w10912 := by rw [eI10930, pp_self]
    have fr10938 : fs g [1, 2, 3, 4, 5, 6, 7, 8, 9, 10, 11, 12, 13, 14, 15, 16, 17, 18, 19, 51, 68] I I10930 := by rw [eI10930]; exact fs_pp0 fr10928 (by decide)
    have fr10939 : fz 49 g [0, 6, 7, 8, 9, 10, 11, 12, 13, 14, 15, 16, 17, 18, 19, 20, 21, 22, 23, 24, 25, 26, 27, 28, 29, 30, 31, 32, 33, 34, 37, 38, 44, 46, 47] I I10930 := by rw [eI10930]; exact fzm_pp hy fr10929 (by decide) (by decide)
    have WI10930 := WI10921
    rw [← (show I10930 (ad g 30) = I10921 (ad g 30) by rw [eI10930, pp_off _ _ (ly_ne hy (by decide) (by decide) (by decide))]), ← (show I10930 (ad g 31) = I10921 (ad g 31) by rw [eI10930, pp_off _ _ (ly_ne hy (by decide) (by decide) (by decide))])] at WI10930
    clear eI10930
    refine WP_aload_n dX11_town_37 rfl ?_
    refine WP_aload_n dX11_town_38 rfl ?_
    refine WQ_geti dX11_town_39 fX11_161 rfl (ly_is hy 0 11 rfl) (BT_get hI10930.1.1 0 18 19 (-1) (0) (2) (by decide) 18 (by decide) (by decide)) (fun v10940 ev10940 av10940 bv10940 => ?_)
    refine WQ_iconst (-1) (-1) dX11_town_42 rfl rfl (fun v10941 hv10941 => ?_)
    have jn65_10945 : ∀ (v10945 : Int32), -1 ≤ v10945.toInt → v10945.toInt ≤ 2 → WP g mX11_town 65 [(0, .ref (ad g 0))] [.int v10945, .ref (ad g 0)] I10930 J10903 R (fun r I' J' R' => ((∃ L2 : Int32, MP g n L2 I' ∧ L2.toInt = 0) ∧ R' = R ∧ fz 49 g [0, 6, 7, 8, 9, 10, 11, 12, 13, 14, 15, 16, 17, 18, 19, 20, 21, 22, 23, 24, 25, 26, 27, 28, 29, 30, 31, 32, 33, 34, 37, 38, 44, 46, 47] I I' ∧ fz 49 g [0, 2, 3, 4, 5] J J' ∧ fs g [1, 2, 3, 4, 5, 6, 7, 8, 9, 10, 11, 12, 13, 14, 15, 16, 17, 18, 19, 51, 68] I I') ∧ ∃ v : Int32, r = some (.int v)) := by
      intro v10945 av10945 bv10945
      refine WQ_puti dX11_town_65 fX11_224 rfl rfl (ly_is hy 0 11 rfl) (fun I10947 eI10947 => ?_)
      have hI10947 : MW g n L10892 I10947 := by rw [eI10947]; exact (mw_w hy hI10930 (c := 0) (mi_f hy hI10930.1 (c := 0) (-1) (0) (2) (by decide) (Or.inr (by decide)) (by decide) (by omega) (by omega)) (by decide) (by decide) (Or.inr (by decide)))
      have e10948 : I10947 (ad g 0) 1 = L10892 := by rw [eI10947, pp_ne _ _ (Or.inr (by decide))]; exact e10931
      have e10949 : I10947 (ad g 0) 15 = w10911 := by rw [eI10947, pp_ne _ _ (Or.inr (by decide))]; exact e10932
      have e10950 : I10947 (ad g 0) 17 = w10912 := by rw [eI10947, pp_ne _ _ (Or.inr (by decide))]; exact e10933
      have e10951 : I10947 (ad g 0) 10 = w10911 := by rw [eI10947, pp_ne _ _ (Or.inr (by decide))]; exact e10934
      have e10952 : I10947 (ad g 0) 16 = v10920 := by rw [eI10947, pp_ne _ _ (Or.inr (by decide))]; exact e10935
      have e10953 : I10947 (ad g 0) 11 = v10920 := by rw [eI10947, pp_ne _ _ (Or.inr (by decide))]; exact e10936
      have e10954 : I10947 (ad g 0) 13 = w10912 := by rw [eI10947, pp_ne _ _ (Or.inr (by decide))]; exact e10937
      have e10955 : I10947 (ad g 0) 18 = v10940 := by rw [eI10947, pp_ne _ _ (Or.inr (by decide))]; exact ev10940
      have e10956 : I10947 (ad g 0) 14 = v10945 := by rw [eI10947, pp_self]
      have fr10957 : fs g [1, 2, 3, 4, 5, 6, 7, 8, 9, 10, 11, 12, 13, 14, 15, 16, 17, 18, 19, 51, 68] I I10947 := by rw [eI10947]; exact fs_pp0 fr10938 (by decide)
      have fr10958 : fz 49 g [0, 6, 7, 8, 9, 10, 11, 12, 13, 14, 15, 16, 17, 18, 19, 20, 21, 22, 23, 24, 25, 26, 27, 28, 29, 30, 31, 32, 33, 34, 37, 38, 44, 46, 47] I I10947 := by rw [eI10947]; exact fzm_pp hy fr10939 (by decide) (by decide)
      have WI10947 := WI10930
      rw [← (show I10947 (ad g 30) = I10930 (ad g 30) by rw [eI10947, pp_off _ _ (ly_ne hy (by decide) (by decide) (by decide))]), ← (show I10947 (ad g 31) = I10930 (ad g 31) by rw [eI10947, pp_off _ _ (ly_ne hy (by decide) (by decide) (by decide))])] at WI10947
      clear eI10947
      refine WP_aload_n dX11_town_68 rfl ?_
      refine WP_aload_n dX11_town_69 rfl ?_
      refine WQ_getiu dX11_town_70 fX11_207 rfl (ly_is hy 0 11 rfl) (fun v10959 ev10959 => ?_)
      refine WQ_puti dX11_town_73 fX11_335 rfl rfl (ly_is hy 0 11 rfl) (fun I10960 eI10960 => ?_)
      have hI10960 : MW g n L10892 I10960 := by rw [eI10960]; exact (mw_w hy hI10947 (c := 0) (mi_f0 hy hI10947.1 (c := 0) (by decide) (Or.inr (by decide)) (by decide)) (by decide) (by decide) (Or.inr (by decide)))
      have e10961 : I10960 (ad g 0) 1 = L10892 := by rw [eI10960, pp_ne _ _ (Or.inr (by decide))]; exact e10948
      have e10962 : I10960 (ad g 0) 15 = w10911 := by rw [eI10960, pp_ne _ _ (Or.inr (by decide))]; exact e10949
      have e10963 : I10960 (ad g 0) 17 = w10912 := by rw [eI10960, pp_ne _ _ (Or.inr (by decide))]; exact e10950
      have e10964 : I10960 (ad g 0) 10 = w10911 := by rw [eI10960, pp_ne _ _ (Or.inr (by decide))]; exact e10951
      have e10965 : I10960 (ad g 0) 16 = v10920 := by rw [eI10960, pp_ne _ _ (Or.inr (by decide))]; exact e10952
      have e10966 : I10960 (ad g 0) 11 = v10920 := by rw [eI10960, pp_ne _ _ (Or.inr (by decide))]; exact e10953
      have e10967 : I10960 (ad g 0) 13 = w10912 := by rw [eI10960, pp_ne _ _ (Or.inr (by decide))]; exact e10954
      have e10968 : I10960 (ad g 0) 18 = v10940 := by rw [eI10960, pp_ne _ _ (Or.inr (by decide))]; exact e10955
      have e10969 : I10960 (ad g 0) 14 = v10945 := by rw [eI10960, pp_ne _ _ (Or.inr (by decide))]; exact e10956
      have e10970 : I10960 (ad g 0) 19 = v10959 := by rw [eI10960, pp_ne _ _ (Or.inr (by decide))]; exact ev10959
      have e10971 : I10960 (ad g 0) 12 = v10959 := by rw [eI10960, pp_self]
      have fr10972 : fs g [1, 2, 3, 4, 5, 6, 7, 8, 9, 10, 11, 12, 13, 14, 15, 16, 17, 18, 19, 51, 68] I I10960 := by rw [eI10960]; exact fs_pp0 fr10957 (by decide)
      have fr10973 : fz 49 g [0, 6, 7, 8, 9, 10, 11, 12, 13, 14, 15, 16, 17, 18, 19, 20, 21, 22, 23, 24, 25, 26, 27, 28, 29, 30, 31, 32, 33, 34, 37, 38, 44, 46, 47] I I10960 := by rw [eI10960]; exact fzm_pp hy fr10958 (by decide) (by decide)
      have WI10960 := WI10947
      rw [← (show I10960 (ad g 30) = I10947 (ad g 30) by rw [eI10960, pp_off _ _ (ly_ne hy (by decide) (by decide) (by decide))]), ← (show I10960 (ad g 31) = I10947 (ad g 31) by rw [eI10960, pp_off _ _ (ly_ne hy (by decide) (by decide) (by decide))])] at WI10960
      clear eI10960
      refine WQ_iconst (0) (0) dX11_town_76 rfl rfl (fun v10974 hv10974 => ?_)
      refine WP_istore_n (ls' := [(0, _), (1, _)]) dX11_town_77 (by decide) rfl ?_
      have lp78_10977 : ∀ (mz : Nat) (i10975 : Int32) (J10976 : pJ), fz 49 g [0, 2, 3, 4, 5] J J10976 → 0 ≤ i10975.toInt → i10975.toInt ≤ 4 → (5 - i10975.toInt).toNat < mz → WP g mX11_town 78 [(0, .ref (ad g 0)), (1, .int i10975)] [] I10960 J10976 R (fun r I' J' R' => ((∃ L2 : Int32, MP g n L2 I' ∧ L2.toInt = 0) ∧ R' = R ∧ fz 49 g [0, 6, 7, 8, 9, 10, 11, 12, 13, 14, 15, 16, 17, 18, 19, 20, 21, 22, 23, 24, 25, 26, 27, 28, 29, 30, 31, 32, 33, 34, 37, 38, 44, 46, 47] I I' ∧ fz 49 g [0, 2, 3, 4, 5] J J' ∧ fs g [1, 2, 3, 4, 5, 6, 7, 8, 9, 10, 11, 12, 13, 14, 15, 16, 17, 18, 19, 51, 68] I I') ∧ ∃ v : Int32, r = some (.int v)) := by
        intro mz
        induction mz with
        | zero =>
          intro i10975 J10976 fjJ10976 ai10975 bi10975 hmlp78_10977
          exact absurd hmlp78_10977 (Nat.not_lt_zero _)
        | succ mz ihlp78_10977 =>
          intro i10975 J10976 fjJ10976 ai10975 bi10975 hmlp78_10977
          refine WP_iload_n dX11_town_78 rfl ?_
          refine WP_aload_n dX11_town_79 rfl ?_
          refine WQ_getim dX11_town_80 fX11_329 rfl (ly_is hy 0 11 rfl) e10964 ?_
          refine WQ_icmp_ge 104 dX11_town_83 rfl (fun c10978 => ?_) (fun c10978 => ?_)
          · refine WQ_iconst (0) (0) dX11_town_104 rfl rfl (fun v10980 hv10980 => ?_)
            refine WP_istore_n (ls' := [(0, _), (1, _)]) dX11_town_105 (by decide) rfl ?_
            have lp106_10983 : ∀ (mz : Nat) (i10981 : Int32) (J10982 : pJ), fz 49 g [0, 2, 3, 4, 5] J J10982 → 0 ≤ i10981.toInt → i10981.toInt ≤ 3 → (4 - i10981.toInt).toNat < mz → WP g mX11_town 106 [(0, .ref (ad g 0)), (1, .int i10981)] [] I10960 J10982 R (fun r I' J' R' => ((∃ L2 : Int32, MP g n L2 I' ∧ L2.toInt = 0) ∧ R' = R ∧ fz 49 g [0, 6, 7, 8, 9, 10, 11, 12, 13, 14, 15, 16, 17, 18, 19, 20, 21, 22, 23, 24, 25, 26, 27, 28, 29, 30, 31, 32, 33, 34, 37, 38, 44, 46, 47] I I' ∧ fz 49 g [0, 2, 3, 4, 5] J J' ∧ fs g [1, 2, 3, 4, 5, 6, 7, 8, 9, 10, 11, 12, 13, 14, 15, 16, 17, 18, 19, 51, 68] I I') ∧ ∃ v : Int32, r = some (.int v)) := by
              intro mz
              induction mz with
              | zero =>
                intro i10981 J10982 fjJ10982 ai10981 bi10981 hmlp106_10983
                exact absurd hmlp106_10983 (Nat.not_lt_zero _)
              | succ mz ihlp106_10983 =>
                intro i10981 J10982 fjJ10982 ai10981 bi10981 hmlp106_10983
                refine WP_iload_n dX11_town_106 rfl ?_
                refine WP_aload_n dX11_town_107 rfl ?_
                refine WQ_getim dX11_town_108 fX11_332 rfl (ly_is hy 0 11 rfl) e10966 ?_
                refine WQ_icmp_ge 132 dX11_town_111 rfl (fun c10984 => ?_) (fun c10984 => ?_)
                · refine WP_aload_n dX11_town_132 rfl ?_
                  refine WP_getr dX11_town_133 fX11_233 rfl (ly_is hy 0 11 rfl) (rf hr 0 24 6 (by decide)) ?_
                  refine WP_aload_n dX11_town_136 rfl ?_
                  refine WP_getr dX11_town_137 fX11_84 rfl (ly_is hy 0 11 rfl) (rf hr 0 25 7 (by decide)) ?_
                  refine WP_callS2 dX11_town_140 ⟨⟨⟨by decide, by decide⟩, zX11_copy⟩, lX11_338, tX11_copy⟩ (sm_copyw_6_7 hy hr hI10960  ) (Nat.le_of_ble_eq_true rfl) ?_
                  intro r I10986 J10987 Ra hq
                  obtain ⟨⟨hI10986, ec, fiI10986, fjI10986, fqI10986, pI10986⟩, rfl⟩ := hq
                  rw [ec]
                  clear ec Ra
                  have fr10988 : fz 49 g [0, 6, 7, 8, 9, 10, 11, 12, 13, 14, 15, 16, 17, 18, 19, 20, 21, 22, 23, 24, 25, 26, 27, 28, 29, 30, 31, 32, 33, 34, 37, 38, 44, 46, 47] I I10986 := fz_tr fr10973 (fz_mono fiI10986 (by decide))
                  have fr10989 : fs g [1, 2, 3, 4, 5, 6, 7, 8, 9, 10, 11, 12, 13, 14, 15, 16, 17, 18, 19, 51, 68] I I10986 := fs_tr fr10972 (fs_mono fqI10986 (by decide))
                  have fr10990 : fz 49 g [0, 2, 3, 4, 5] J J10987 := fz_tr fjJ10982 (fz_mono fjI10986 (by decide))
                  have WI10986 := WI10960
                  rw [← fz_at fiI10986 30 (by decide) (by decide), ← fz_at fiI10986 31 (by decide) (by decide)] at WI10986
                  have e10991 : I10986 (ad g 0) 15 = w10911 := by rw [fz_at fiI10986 0 (by decide) (by decide)]; exact e10962
                  have e10992 : I10986 (ad g 0) 17 = w10912 := by rw [fz_at fiI10986 0 (by decide) (by decide)]; exact e10963
                  have e10993 : I10986 (ad g 0) 10 = w10911 := by rw [fz_at fiI10986 0 (by decide) (by decide)]; exact e10964
                  have e10994 : I10986 (ad g 0) 16 = v10920 := by rw [fz_at fiI10986 0 (by decide) (by decide)]; exact e10965
                  have e10995 : I10986 (ad g 0) 11 = v10920 := by rw [fz_at fiI10986 0 (by decide) (by decide)]; exact e10966
                  have e10996 : I10986 (ad g 0) 13 = w10912 := by rw [fz_at fiI10986 0 (by decide) (by decide)]; exact e10967
                  have e10997 : I10986 (ad g 0) 18 = v10940 := by rw [fz_at fiI10986 0 (by decide) (by decide)]; exact e10968
                  have e10998 : I10986 (ad g 0) 14 = v10945 := by rw [fz_at fiI10986 0 (by decide) (by decide)]; exact e10969
                  have e10999 : I10986 (ad g 0) 19 = v10959 := by rw [fz_at fiI10986 0 (by decide) (by decide)]; exact e10970
                  have e11000 : I10986 (ad g 0) 12 = v10959 := by rw [fz_at fiI10986 0 (by decide) (by decide)]; exact e10971
                  have e11001 : I10986 (ad g 0) 1 = L10892 := hI10986.1.2
                  have b11002 := BT_get hI10986.1.1 0 1 2 (0) (0) (900) (by decide) 1 (by decide) (by decide)
                  rw [e11001] at b11002
                  refine WP_aload_n dX11_town_143 rfl ?_
                  refine WP_getr dX11_town_144 fX11_235 rfl (ly_is hy 0 11 rfl) (rf hr 0 26 8 (by decide)) ?_
                  refine WP_aload_n dX11_town_147 rfl ?_
                  refine WP_getr dX11_town_148 fX11_99 rfl (ly_is hy 0 11 rfl) (rf hr 0 32 14 (by decide)) ?_
                  refine WP_callS2 dX11_town_151 ⟨⟨⟨by decide, by decide⟩, zX11_copy⟩, lX11_338, tX11_copy⟩ (sm_copyw_8_14 hy hr hI10986  ) (Nat.le_of_ble_eq_true rfl) ?_
                  intro r I11003 J11004 Ra hq
                  obtain ⟨⟨hI11003, ec, fiI11003, fjI11003, fqI11003, pI11003⟩, rfl⟩ := hq
                  rw [ec]
                  clear ec Ra
                  have fr11005 : fz 49 g [0, 6, 7, 8, 9, 10, 11, 12, 13, 14, 15, 16, 17, 18, 19, 20, 21, 22, 23, 24, 25, 26, 27, 28, 29, 30, 31, 32, 33, 34, 37, 38, 44, 46, 47] I I11003 := fz_tr fr10988 (fz_mono fiI11003 (by decide))
                  have fr11006 : fs g [1, 2, 3, 4, 5, 6, 7, 8, 9, 10, 11, 12, 13, 14, 15, 16, 17, 18, 19, 51, 68] I I11003 := fs_tr fr10989 (fs_mono fqI11003 (by decide))
                  have fr11007 : fz 49 g [0, 2, 3, 4, 5] J J11004 := fz_tr fr10990 (fz_mono fjI11003 (by decide))
                  have WI11003 := WI10986
                  rw [← fz_at fiI11003 30 (by decide) (by decide), ← fz_at fiI11003 31 (by decide) (by decide)] at WI11003
                  have P8I11003 : ∀ q : Nat, q < 4 → I11003 (ad g 8) q = I11003 (ad g 14) q := fun q hq => by rw [fz_at fiI11003 14 (by decide) (by decide)]; exact pI11003 q hq
                  have e11008 : I11003 (ad g 0) 15 = w10911 := by rw [fz_at fiI11003 0 (by decide) (by decide)]; exact e10991
                  have e11009 : I11003 (ad g 0) 17 = w10912 := by rw [fz_at fiI11003 0 (by decide) (by decide)]; exact e10992
                  have e11010 : I11003 (ad g 0) 10 = w10911 := by rw [fz_at fiI11003 0 (by decide) (by decide)]; exact e10993
                  have e11011 : I11003 (ad g 0) 16 = v10920 := by rw [fz_at fiI11003 0 (by decide) (by decide)]; exact e10994
                  have e11012 : I11003 (ad g 0) 11 = v10920 := by rw [fz_at fiI11003 0 (by decide) (by decide)]; exact e10995
                  have e11013 : I11003 (ad g 0) 13 = w10912 := by rw [fz_at fiI11003 0 (by decide) (by decide)]; exact e10996
                  have e11014 : I11003 (ad g 0) 18 = v10940 := by rw [fz_at fiI11003 0 (by decide) (by decide)]; exact e10997
                  have e11015 : I11003 (ad g 0) 14 = v10945 := by rw [fz_at fiI11003 0 (by decide) (by decide)]; exact e10998
                  have e11016 : I11003 (ad g 0) 19 = v10959 := by rw [fz_at fiI11003 0 (by decide) (by decide)]; exact e10999
                  have e11017 : I11003 (ad g 0) 12 = v10959 := by rw [fz_at fiI11003 0 (by decide) (by decide)]; exact e11000
                  have e11018 : I11003 (ad g 0) 1 = L10892 := hI11003.1.2
                  have b11019 := BT_get hI11003.1.1 0 1 2 (0) (0) (900) (by decide) 1 (by decide) (by decide)
                  rw [e11018] at b11019
                  refine WP_aload_n dX11_town_154 rfl ?_
                  refine WP_getr dX11_town_155 fX11_238 rfl (ly_is hy 0 11 rfl) (rf hr 0 27 9 (by decide)) ?_
                  refine WP_aload_n dX11_town_158 rfl ?_
                  refine WP_getr dX11_town_159 fX11_102 rfl (ly_is hy 0 11 rfl) (rf hr 0 33 15 (by decide)) ?_
                  refine WP_callS2 dX11_town_162 ⟨⟨⟨by decide, by decide⟩, zX11_copy⟩, lX11_338, tX11_copy⟩ (sm_copyw_9_15 hy hr hI11003  ) (Nat.le_of_ble_eq_true rfl) ?_
                  intro r I11020 J11021 Ra hq
                  obtain ⟨⟨hI11020, ec, fiI11020, fjI11020, fqI11020, pI11020⟩, rfl⟩ := hq
                  rw [ec]
                  clear ec Ra
                  have fr11022 : fz 49 g [0, 6, 7, 8, 9, 10, 11, 12, 13, 14, 15, 16, 17, 18, 19, 20, 21, 22, 23, 24, 25, 26, 27, 28, 29, 30, 31, 32, 33, 34, 37, 38, 44, 46, 47] I I11020 := fz_tr fr11005 (fz_mono fiI11020 (by decide))
                  have fr11023 : fs g [1, 2, 3, 4, 5, 6, 7, 8, 9, 10, 11, 12, 13, 14, 15, 16, 17, 18, 19, 51, 68] I I11020 := fs_tr fr11006 (fs_mono fqI11020 (by decide))
                  have fr11024 : fz 49 g [0, 2, 3, 4, 5] J J11021 := fz_tr fr11007 (fz_mono fjI11020 (by decide))
                  have WI11020 := WI11003
                  rw [← fz_at fiI11020 30 (by decide) (by decide), ← fz_at fiI11020 31 (by decide) (by decide)] at WI11020
                  have P8I11020 : ∀ q : Nat, q < 4 → I11020 (ad g 8) q = I11020 (ad g 14) q := fun q hq => by rw [fz_at fiI11020 8 (by decide) (by decide), fz_at fiI11020 14 (by decide) (by decide)]; exact P8I11003 q hq
                  have e11025 : I11020 (ad g 0) 15 = w10911 := by rw [fz_at fiI11020 0 (by decide) (by decide)]; exact e11008
                  have e11026 : I11020 (ad g 0) 17 = w10912 := by rw [fz_at fiI11020 0 (by decide) (by decide)]; exact e11009
                  have e11027 : I11020 (ad g 0) 10 = w10911 := by rw [fz_at fiI11020 0 (by decide) (by decide)]; exact e11010
                  have e11028 : I11020 (ad g 0) 16 = v10920 := by rw [fz_at fiI11020 0 (by decide) (by decide)]; exact e11011
                  have e11029 : I11020 (ad g 0) 11 = v10920 := by rw [fz_at fiI11020 0 (by decide) (by decide)]; exact e11012
                  have e11030 : I11020 (ad g 0) 13 = w10912 := by rw [fz_at fiI11020 0 (by decide) (by decide)]; exact e11013
                  have e11031 : I11020 (ad g 0) 18 = v10940 := by rw [fz_at fiI11020 0 (by decide) (by decide)]; exact e11014
                  have e11032 : I11020 (ad g 0) 14 = v10945 := by rw [fz_at fiI11020 0 (by decide) (by decide)]; exact e11015
                  have e11033 : I11020 (ad g 0) 19 = v10959 := by rw [fz_at fiI11020 0 (by decide) (by decide)]; exact e11016
                  have e11034 : I11020 (ad g 0) 12 = v10959 := by rw [fz_at fiI11020 0 (by decide) (by decide)]; exact e11017
                  have e11035 : I11020 (ad g 0) 1 = L10892 := hI11020.1.2
                  have b11036 := BT_get hI11020.1.1 0 1 2 (0) (0) (900) (by decide) 1 (by decide) (by decide)
                  rw [e11035] at b11036
                  refine WP_aload_n dX11_town_165 rfl ?_
                  refine WP_getr dX11_town_166 fX11_241 rfl (ly_is hy 0 11 rfl) (rf hr 0 28 10 (by decide)) ?_
                  refine WP_aload_n dX11_town_169 rfl ?_
                  refine WP_getr dX11_town_170 fX11_105 rfl (ly_is hy 0 11 rfl) (rf hr 0 34 16 (by decide)) ?_
                  refine WP_callS2 dX11_town_173 ⟨⟨⟨by decide, by decide⟩, zX11_copy⟩, lX11_338, tX11_copy⟩ (sm_copyw_10_16 hy hr hI11020  ) (Nat.le_of_ble_eq_true rfl) ?_
                  intro r I11037 J11038 Ra hq
                  obtain ⟨⟨hI11037, ec, fiI11037, fjI11037, fqI11037, pI11037⟩, rfl⟩ := hq
                  rw [ec]
                  clear ec Ra
                  have fr11039 : fz 49 g [0, 6, 7, 8, 9, 10, 11, 12, 13, 14, 15, 16, 17, 18, 19, 20, 21, 22, 23, 24, 25, 26, 27, 28, 29, 30, 31, 32, 33, 34, 37, 38, 44, 46, 47] I I11037 := fz_tr fr11022 (fz_mono fiI11037 (by decide))
                  have fr11040 : fs g [1, 2, 3, 4, 5, 6, 7, 8, 9, 10, 11, 12, 13, 14, 15, 16, 17, 18, 19, 51, 68] I I11037 := fs_tr fr11023 (fs_mono fqI11037 (by decide))
                  have fr11041 : fz 49 g [0, 2, 3, 4, 5] J J11038 := fz_tr fr11024 (fz_mono fjI11037 (by decide))
                  have WI11037 := WI11020
                  rw [← fz_at fiI11037 30 (by decide) (by decide), ← fz_at fiI11037 31 (by decide) (by decide)] at WI11037
                  have P8I11037 : ∀ q : Nat, q < 4 → I11037 (ad g 8) q = I11037 (ad g 14) q := fun q hq => by rw [fz_at fiI11037 8 (by decide) (by decide), fz_at fiI11037 14 (by decide) (by decide)]; exact P8I11020 q hq
                  have e11042 : I11037 (ad g 0) 15 = w10911 := by rw [fz_at fiI11037 0 (by decide) (by decide)]; exact e11025
                  have e11043 : I11037 (ad g 0) 17 = w10912 := by rw [fz_at fiI11037 0 (by decide) (by decide)]; exact e11026
                  have e11044 : I11037 (ad g 0) 10 = w10911 := by rw [fz_at fiI11037 0 (by decide) (by decide)]; exact e11027
                  have e11045 : I11037 (ad g 0) 16 = v10920 := by rw [fz_at fiI11037 0 (by decide) (by decide)]; exact e11028
                  have e11046 : I11037 (ad g 0) 11 = v10920 := by rw [fz_at fiI11037 0 (by decide) (by decide)]; exact e11029
                  have e11047 : I11037 (ad g 0) 13 = w10912 := by rw [fz_at fiI11037 0 (by decide) (by decide)]; exact e11030
                  have e11048 : I11037 (ad g 0) 18 = v10940 := by rw [fz_at fiI11037 0 (by decide) (by decide)]; exact e11031
                  have e11049 : I11037 (ad g 0) 14 = v10945 := by rw [fz_at fiI11037 0 (by decide) (by decide)]; exact e11032
                  have e11050 : I11037 (ad g 0) 19 = v10959 := by rw [fz_at fiI11037 0 (by decide) (by decide)]; exact e11033
                  have e11051 : I11037 (ad g 0) 12 = v10959 := by rw [fz_at fiI11037 0 (by decide) (by decide)]; exact e11034
                  have e11052 : I11037 (ad g 0) 1 = L10892 := hI11037.1.2
                  have b11053 := BT_get hI11037.1.1 0 1 2 (0) (0) (900) (by decide) 1 (by decide) (by decide)
                  rw [e11052] at b11053
                  refine WP_aload_n dX11_town_176 rfl ?_
                  refine WP_getr dX11_town_177 fX11_244 rfl (ly_is hy 0 11 rfl) (rf hr 0 29 11 (by decide)) ?_
                  refine WP_aload_n dX11_town_180 rfl ?_
                  refine WP_getr dX11_town_181 fX11_108 rfl (ly_is hy 0 11 rfl) (rf hr 0 35 17 (by decide)) ?_
                  refine WP_callS2 dX11_town_184 ⟨⟨⟨by decide, by decide⟩, zX11_copy⟩, lX11_338, tX11_copy⟩ (sm_copyw_11_17 hy hr hI11037  ) (Nat.le_of_ble_eq_true rfl) ?_
                  intro r I11054 J11055 Ra hq
                  obtain ⟨⟨hI11054, ec, fiI11054, fjI11054, fqI11054, pI11054⟩, rfl⟩ := hq
                  rw [ec]
                  clear ec Ra
                  have fr11056 : fz 49 g [0, 6, 7, 8, 9, 10, 11, 12, 13, 14, 15, 16, 17, 18, 19, 20, 21, 22, 23, 24, 25, 26, 27, 28, 29, 30, 31, 32, 33, 34, 37, 38, 44, 46, 47] I I11054 := fz_tr fr11039 (fz_mono fiI11054 (by decide))
                  have fr11057 : fs g [1, 2, 3, 4, 5, 6, 7, 8, 9, 10, 11, 12, 13, 14, 15, 16, 17, 18, 19, 51, 68] I I11054 := fs_tr fr11040 (fs_mono fqI11054 (by decide))
                  have fr11058 : fz 49 g [0, 2, 3, 4, 5] J J11055 := fz_tr fr11041 (fz_mono fjI11054 (by decide))
                  have WI11054 := WI11037
                  rw [← fz_at fiI11054 30 (by decide) (by decide), ← fz_at fiI11054 31 (by decide) (by decide)] at WI11054
                  have P8I11054 : ∀ q : Nat, q < 4 → I11054 (ad g 8) q = I11054 (ad g 14) q := fun q hq => by rw [fz_at fiI11054 8 (by decide) (by decide), fz_at fiI11054 14 (by decide) (by decide)]; exact P8I11037 q hq
                  have e11059 : I11054 (ad g 0) 15 = w10911 := by rw [fz_at fiI11054 0 (by decide) (by decide)]; exact e11042
                  have e11060 : I11054 (ad g 0) 17 = w10912 := by rw [fz_at fiI11054 0 (by decide) (by decide)]; exact e11043
                  have e11061 : I11054 (ad g 0) 10 = w10911 := by rw [fz_at fiI11054 0 (by decide) (by decide)]; exact e11044
                  have e11062 : I11054 (ad g 0) 16 = v10920 := by rw [fz_at fiI11054 0 (by decide) (by decide)]; exact e11045
                  have e11063 : I11054 (ad g 0) 11 = v10920 := by rw [fz_at fiI11054 0 (by decide) (by decide)]; exact e11046
                  have e11064 : I11054 (ad g 0) 13 = w10912 := by rw [fz_at fiI11054 0 (by decide) (by decide)]; exact e11047
                  have e11065 : I11054 (ad g 0) 18 = v10940 := by rw [fz_at fiI11054 0 (by decide) (by decide)]; exact e11048
                  have e11066 : I11054 (ad g 0) 14 = v10945 := by rw [fz_at fiI11054 0 (by decide) (by decide)]; exact e11049
                  have e11067 : I11054 (ad g 0) 19 = v10959 := by rw [fz_at fiI11054 0 (by decide) (by decide)]; exact e11050
                  have e11068 : I11054 (ad g 0) 12 = v10959 := by rw [fz_at fiI11054 0 (by decide) (by decide)]; exact e11051
                  have e11069 : I11054 (ad g 0) 1 = L10892 := hI11054.1.2
                  have b11070 := BT_get hI11054.1.1 0 1 2 (0) (0) (900) (by decide) 1 (by decide) (by decide)
                  rw [e11069] at b11070
                  refine WP_aload_n dX11_town_187 rfl ?_
                  refine WP_getr dX11_town_188 fX11_246 rfl (ly_is hy 0 11 rfl) (rf hr 0 30 12 (by decide)) ?_
                  refine WP_aload_n dX11_town_191 rfl ?_
                  refine WP_getr dX11_town_192 fX11_132 rfl (ly_is hy 0 11 rfl) (rf hr 0 36 18 (by decide)) ?_
                  refine WP_callS2 dX11_town_195 ⟨⟨⟨by decide, by decide⟩, zX11_copy⟩, lX11_338, tX11_copy⟩ (sm_copyw_12_18 hy hr hI11054  ) (Nat.le_of_ble_eq_true rfl) ?_
                  intro r I11071 J11072 Ra hq
                  obtain ⟨⟨hI11071, ec, fiI11071, fjI11071, fqI11071, pI11071⟩, rfl⟩ := hq
                  rw [ec]
                  clear ec Ra
                  have fr11073 : fz 49 g [0, 6, 7, 8, 9, 10, 11, 12, 13, 14, 15, 16, 17, 18, 19, 20, 21, 22, 23, 24, 25, 26, 27, 28, 29, 30, 31, 32, 33, 34, 37, 38, 44, 46, 47] I I11071 := fz_tr fr11056 (fz_mono fiI11071 (by decide))
                  have fr11074 : fs g [1, 2, 3, 4, 5, 6, 7, 8, 9, 10, 11, 12, 13, 14, 15, 16, 17, 18, 19, 51, 68] I I11071 := fs_tr fr11057 (fs_mono fqI11071 (by decide))
                  have fr11075 : fz 49 g [0, 2, 3, 4, 5] J J11072 := fz_tr fr11058 (fz_mono fjI11071 (by decide))
                  have WI11071 := WI11054
                  rw [← fz_at fiI11071 30 (by decide) (by decide), ← fz_at fiI11071 31 (by decide) (by decide)] at WI11071
                  have P8I11071 : ∀ q : Nat, q < 4 → I11071 (ad g 8) q = I11071 (ad g 14) q := fun q hq => by rw [fz_at fiI11071 8 (by decide) (by decide), fz_at fiI11071 14 (by decide) (by decide)]; exact P8I11054 q hq
                  have e11076 : I11071 (ad g 0) 15 = w10911 := by rw [fz_at fiI11071 0 (by decide) (by decide)]; exact e11059
                  have e11077 : I11071 (ad g 0) 17 = w10912 := by rw [fz_at fiI11071 0 (by decide) (by decide)]; exact e11060
                  have e11078 : I11071 (ad g 0) 10 = w10911 := by rw [fz_at fiI11071 0 (by decide) (by decide)]; exact e11061
                  have e11079 : I11071 (ad g 0) 16 = v10920 := by rw [fz_at fiI11071 0 (by decide) (by decide)]; exact e11062
                  have e11080 : I11071 (ad g 0) 11 = v10920 := by rw [fz_at fiI11071 0 (by decide) (by decide)]; exact e11063
                  have e11081 : I11071 (ad g 0) 13 = w10912 := by rw [fz_at fiI11071 0 (by decide) (by decide)]; exact e11064
                  have e11082 : I11071 (ad g 0) 18 = v10940 := by rw [fz_at fiI11071 0 (by decide) (by decide)]; exact e11065
                  have e11083 : I11071 (ad g 0) 14 = v10945 := by rw [fz_at fiI11071 0 (by decide) (by decide)]; exact e11066
                  have e11084 : I11071 (ad g 0) 19 = v10959 := by rw [fz_at fiI11071 0 (by decide) (by decide)]; exact e11067
                  have e11085 : I11071 (ad g 0) 12 = v10959 := by rw [fz_at fiI11071 0 (by decide) (by decide)]; exact e11068
                  have e11086 : I11071 (ad g 0) 1 = L10892 := hI11071.1.2
                  have b11087 := BT_get hI11071.1.1 0 1 2 (0) (0) (900) (by decide) 1 (by decide) (by decide)
                  rw [e11086] at b11087
                  refine WP_aload_n dX11_town_198 rfl ?_
                  refine WP_getr dX11_town_199 fX11_249 rfl (ly_is hy 0 11 rfl) (rf hr 0 31 13 (by decide)) ?_
                  refine WP_aload_n dX11_town_202 rfl ?_
                  refine WP_getr dX11_town_203 fX11_135 rfl (ly_is hy 0 11 rfl) (rf hr 0 37 19 (by decide)) ?_
                  refine WP_callS2 dX11_town_206 ⟨⟨⟨by decide, by decide⟩, zX11_copy⟩, lX11_338, tX11_copy⟩ (sm_copyw_13_19 hy hr hI11071  ) (Nat.le_of_ble_eq_true rfl) ?_
                  intro r I11088 J11089 Ra hq
                  obtain ⟨⟨hI11088, ec, fiI11088, fjI11088, fqI11088, pI11088⟩, rfl⟩ := hq
                  rw [ec]
                  clear ec Ra
                  have fr11090 : fz 49 g [0, 6, 7, 8, 9, 10, 11, 12, 13, 14, 15, 16, 17, 18, 19, 20, 21, 22, 23, 24, 25, 26, 27, 28, 29, 30, 31, 32, 33, 34, 37, 38, 44, 46, 47] I I11088 := fz_tr fr11073 (fz_mono fiI11088 (by decide))
                  have fr11091 : fs g [1, 2, 3, 4, 5, 6, 7, 8, 9, 10, 11, 12, 13, 14, 15, 16, 17, 18, 19, 51, 68] I I11088 := fs_tr fr11074 (fs_mono fqI11088 (by decide))
                  have fr11092 : fz 49 g [0, 2, 3, 4, 5] J J11089 := fz_tr fr11075 (fz_mono fjI11088 (by decide))
                  have WI11088 := WI11071
                  rw [← fz_at fiI11088 30 (by decide) (by decide), ← fz_at fiI11088 31 (by decide) (by decide)] at WI11088
                  have P8I11088 : ∀ q : Nat, q < 4 → I11088 (ad g 8) q = I11088 (ad g 14) q := fun q hq => by rw [fz_at fiI11088 8 (by decide) (by decide), fz_at fiI11088 14 (by decide) (by decide)]; exact P8I11071 q hq
                  have e11093 : I11088 (ad g 0) 15 = w10911 := by rw [fz_at fiI11088 0 (by decide) (by decide)]; exact e11076
                  have e11094 : I11088 (ad g 0) 17 = w10912 := by rw [fz_at fiI11088 0 (by decide) (by decide)]; exact e11077
                  have e11095 : I11088 (ad g 0) 10 = w10911 := by rw [fz_at fiI11088 0 (by decide) (by decide)]; exact e11078
                  have e11096 : I11088 (ad g 0) 16 = v10920 := by rw [fz_at fiI11088 0 (by decide) (by decide)]; exact e11079
                  have e11097 : I11088 (ad g 0) 11 = v10920 := by rw [fz_at fiI11088 0 (by decide) (by decide)]; exact e11080
                  have e11098 : I11088 (ad g 0) 13 = w10912 := by rw [fz_at fiI11088 0 (by decide) (by decide)]; exact e11081
                  have e11099 : I11088 (ad g 0) 18 = v10940 := by rw [fz_at fiI11088 0 (by decide) (by decide)]; exact e11082
                  have e11100 : I11088 (ad g 0) 14 = v10945 := by rw [fz_at fiI11088 0 (by decide) (by decide)]; exact e11083
                  have e11101 : I11088 (ad g 0) 19 = v10959 := by rw [fz_at fiI11088 0 (by decide) (by decide)]; exact e11084
                  have e11102 : I11088 (ad g 0) 12 = v10959 := by rw [fz_at fiI11088 0 (by decide) (by decide)]; exact e11085
                  have e11103 : I11088 (ad g 0) 1 = L10892 := hI11088.1.2
                  have b11104 := BT_get hI11088.1.1 0 1 2 (0) (0) (900) (by decide) 1 (by decide) (by decide)
                  rw [e11103] at b11104
                  refine WP_aload_n dX11_town_209 rfl ?_
                  refine WP_getr dX11_town_210 fX11_252 rfl (ly_is hy 0 11 rfl) (rf hr 0 38 20 (by decide)) ?_
                  refine WP_aload_n dX11_town_213 rfl ?_
                  refine WP_getr dX11_town_214 fX11_114 rfl (ly_is hy 0 11 rfl) (rf hr 0 45 27 (by decide)) ?_
                  refine WP_callS2 dX11_town_217 ⟨⟨⟨by decide, by decide⟩, zX11_copy⟩, lX11_338, tX11_copy⟩ (sm_copyw_20_27 hy hr hI11088  ) (Nat.le_of_ble_eq_true rfl) ?_
                  intro r I11105 J11106 Ra hq
                  obtain ⟨⟨hI11105, ec, fiI11105, fjI11105, fqI11105, pI11105⟩, rfl⟩ := hq
                  rw [ec]
                  clear ec Ra
                  have fr11107 : fz 49 g [0, 6, 7, 8, 9, 10, 11, 12, 13, 14, 15, 16, 17, 18, 19, 20, 21, 22, 23, 24, 25, 26, 27, 28, 29, 30, 31, 32, 33, 34, 37, 38, 44, 46, 47] I I11105 := fz_tr fr11090 (fz_mono fiI11105 (by decide))
                  have fr11108 : fs g [1, 2, 3, 4, 5, 6, 7, 8, 9, 10, 11, 12, 13, 14, 15, 16, 17, 18, 19, 51, 68] I I11105 := fs_tr fr11091 (fs_mono fqI11105 (by decide))
                  have fr11109 : fz 49 g [0, 2, 3, 4, 5] J J11106 := fz_tr fr11092 (fz_mono fjI11105 (by decide))
                  have WI11105 := WI11088
                  rw [← fz_at fiI11105 30 (by decide) (by decide), ← fz_at fiI11105 31 (by decide) (by decide)] at WI11105
                  have P8I11105 : ∀ q : Nat, q < 4 → I11105 (ad g 8) q = I11105 (ad g 14) q := fun q hq => by rw [fz_at fiI11105 8 (by decide) (by decide), fz_at fiI11105 14 (by decide) (by decide)]; exact P8I11088 q hq
                  have e11110 : I11105 (ad g 0) 15 = w10911 := by rw [fz_at fiI11105 0 (by decide) (by decide)]; exact e11093
                  have e11111 : I11105 (ad g 0) 17 = w10912 := by rw [fz_at fiI11105 0 (by decide) (by decide)]; exact e11094
                  have e11112 : I11105 (ad g 0) 10 = w10911 := by rw [fz_at fiI11105 0 (by decide) (by decide)]; exact e11095
                  have e11113 : I11105 (ad g 0) 16 = v10920 := by rw [fz_at fiI11105 0 (by decide) (by decide)]; exact e11096
                  have e11114 : I11105 (ad g 0) 11 = v10920 := by rw [fz_at fiI11105 0 (by decide) (by decide)]; exact e11097
                  have e11115 : I11105 (ad g 0) 13 = w10912 := by rw [fz_at fiI11105 0 (by decide) (by decide)]; exact e11098
                  have e11116 : I11105 (ad g 0) 18 = v10940 := by rw [fz_at fiI11105 0 (by decide) (by decide)]; exact e11099
                  have e11117 : I11105 (ad g 0) 14 = v10945 := by rw [fz_at fiI11105 0 (by decide) (by decide)]; exact e11100
                  have e11118 : I11105 (ad g 0) 19 = v10959 := by rw [fz_at fiI11105 0 (by decide) (by decide)]; exact e11101
                  have e11119 : I11105 (ad g 0) 12 = v10959 := by rw [fz_at fiI11105 0 (by decide) (by decide)]; exact e11102
                  have e11120 : I11105 (ad g 0) 1 = L10892 := hI11105.1.2
                  have b11121 := BT_get hI11105.1.1 0 1 2 (0) (0) (900) (by decide) 1 (by decide) (by decide)
                  rw [e11120] at b11121
                  refine WP_aload_n dX11_town_220 rfl ?_
                  refine WP_getr dX11_town_221 fX11_254 rfl (ly_is hy 0 11 rfl) (rf hr 0 39 21 (by decide)) ?_
                  refine WP_aload_n dX11_town_224 rfl ?_
                  refine WP_getr dX11_town_225 fX11_141 rfl (ly_is hy 0 11 rfl) (rf hr 0 46 28 (by decide)) ?_
                  refine WP_callS2 dX11_town_228 ⟨⟨⟨by decide, by decide⟩, zX11_copy⟩, lX11_338, tX11_copy⟩ (sm_copyw_21_28 hy hr hI11105  ) (Nat.le_of_ble_eq_true rfl) ?_
                  intro r I11122 J11123 Ra hq
                  obtain ⟨⟨hI11122, ec, fiI11122, fjI11122, fqI11122, pI11122⟩, rfl⟩ := hq
                  rw [ec]
                  clear ec Ra
                  have fr11124 : fz 49 g [0, 6, 7, 8, 9, 10, 11, 12, 13, 14, 15, 16, 17, 18, 19, 20, 21, 22, 23, 24, 25, 26, 27, 28, 29, 30, 31, 32, 33, 34, 37, 38, 44, 46, 47] I I11122 := fz_tr fr11107 (fz_mono fiI11122 (by decide))
                  have fr11125 : fs g [1, 2, 3, 4, 5, 6, 7, 8, 9, 10, 11, 12, 13, 14, 15, 16, 17, 18, 19, 51, 68] I I11122 := fs_tr fr11108 (fs_mono fqI11122 (by decide))
                  have fr11126 : fz 49 g [0, 2, 3, 4, 5] J J11123 := fz_tr fr11109 (fz_mono fjI11122 (by decide))
                  have WI11122 := WI11105
                  rw [← fz_at fiI11122 30 (by decide) (by decide), ← fz_at fiI11122 31 (by decide) (by decide)] at WI11122
                  have P8I11122 : ∀ q : Nat, q < 4 → I11122 (ad g 8) q = I11122 (ad g 14) q := fun q hq => by rw [fz_at fiI11122 8 (by decide) (by decide), fz_at fiI11122 14 (by decide) (by decide)]; exact P8I11105 q hq
                  have e11127 : I11122 (ad g 0) 15 = w10911 := by rw [fz_at fiI11122 0 (by decide) (by decide)]; exact e11110
                  have e11128 : I11122 (ad g 0) 17 = w10912 := by rw [fz_at fiI11122 0 (by decide) (by decide)]; exact e11111
                  have e11129 : I11122 (ad g 0) 10 = w10911 := by rw [fz_at fiI11122 0 (by decide) (by decide)]; exact e11112
                  have e11130 : I11122 (ad g 0) 16 = v10920 := by rw [fz_at fiI11122 0 (by decide) (by decide)]; exact e11113
                  have e11131 : I11122 (ad g 0) 11 = v10920 := by rw [fz_at fiI11122 0 (by decide) (by decide)]; exact e11114
                  have e11132 : I11122 (ad g 0) 13 = w10912 := by rw [fz_at fiI11122 0 (by decide) (by decide)]; exact e11115
                  have e11133 : I11122 (ad g 0) 18 = v10940 := by rw [fz_at fiI11122 0 (by decide) (by decide)]; exact e11116
                  have e11134 : I11122 (ad g 0) 14 = v10945 := by rw [fz_at fiI11122 0 (by decide) (by decide)]; exact e11117
                  have e11135 : I11122 (ad g 0) 19 = v10959 := by rw [fz_at fiI11122 0 (by decide) (by decide)]; exact e11118
                  have e11136 : I11122 (ad g 0) 12 = v10959 := by rw [fz_at fiI11122 0 (by decide) (by decide)]; exact e11119
                  have e11137 : I11122 (ad g 0) 1 = L10892 := hI11122.1.2
                  have b11138 := BT_get hI11122.1.1 0 1 2 (0) (0) (900) (by decide) 1 (by decide) (by decide)
                  rw [e11137] at b11138
                  refine WP_aload_n dX11_town_231 rfl ?_
                  refine WP_getr dX11_town_232 fX11_257 rfl (ly_is hy 0 11 rfl) (rf hr 0 40 22 (by decide)) ?_
                  refine WP_aload_n dX11_town_235 rfl ?_
                  refine WP_getr dX11_town_236 fX11_141 rfl (ly_is hy 0 11 rfl) (rf hr 0 46 28 (by decide)) ?_
                  refine WP_callS2 dX11_town_239 ⟨⟨⟨by decide, by decide⟩, zX11_copy⟩, lX11_338, tX11_copy⟩ (sm_copyw_22_28 hy hr hI11122  ) (Nat.le_of_ble_eq_true rfl) ?_
                  intro r I11139 J11140 Ra hq
                  obtain ⟨⟨hI11139, ec, fiI11139, fjI11139, fqI11139, pI11139⟩, rfl⟩ := hq
                  rw [ec]
                  clear ec Ra
                  have fr11141 : fz 49 g [0, 6, 7, 8, 9, 10, 11, 12, 13, 14, 15, 16, 17, 18, 19, 20, 21, 22, 23, 24, 25, 26, 27, 28, 29, 30, 31, 32, 33, 34, 37, 38, 44, 46, 47] I I11139 := fz_tr fr11124 (fz_mono fiI11139 (by decide))
                  have fr11142 : fs g [1, 2, 3, 4, 5, 6, 7, 8, 9, 10, 11, 12, 13, 14, 15, 16, 17, 18, 19, 51, 68] I I11139 := fs_tr fr11125 (fs_mono fqI11139 (by decide))
                  have fr11143 : fz 49 g [0, 2, 3, 4, 5] J J11140 := fz_tr fr11126 (fz_mono fjI11139 (by decide))
                  have WI11139 := WI11122
                  rw [← fz_at fiI11139 30 (by decide) (by decide), ← fz_at fiI11139 31 (by decide) (by decide)] at WI11139
                  have P8I11139 : ∀ q : Nat, q < 4 → I11139 (ad g 8) q = I11139 (ad g 14) q := fun q hq => by rw [fz_at fiI11139 8 (by decide) (by decide), fz_at fiI11139 14 (by decide) (by decide)]; exact P8I11122 q hq
                  have e11144 : I11139 (ad g 0) 15 = w10911 := by rw [fz_at fiI11139 0 (by decide) (by decide)]; exact e11127
                  have e11145 : I11139 (ad g 0) 17 = w10912 := by rw [fz_at fiI11139 0 (by decide) (by decide)]; exact e11128
                  have e11146 : I11139 (ad g 0) 10 = w10911 := by rw [fz_at fiI11139 0 (by decide) (by decide)]; exact e11129
                  have e11147 : I11139 (ad g 0) 16 = v10920 := by rw [fz_at fiI11139 0 (by decide) (by decide)]; exact e11130
                  have e11148 : I11139 (ad g 0) 11 = v10920 := by rw [fz_at fiI11139 0 (by decide) (by decide)]; exact e11131
                  have e11149 : I11139 (ad g 0) 13 = w10912 := by rw [fz_at fiI11139 0 (by decide) (by decide)]; exact e11132
                  have e11150 : I11139 (ad g 0) 18 = v10940 := by rw [fz_at fiI11139 0 (by decide) (by decide)]; exact e11133
                  have e11151 : I11139 (ad g 0) 14 = v10945 := by rw [fz_at fiI11139 0 (by decide) (by decide)]; exact e11134
                  have e11152 : I11139 (ad g 0) 19 = v10959 := by rw [fz_at fiI11139 0 (by decide) (by decide)]; exact e11135
                  have e11153 : I11139 (ad g 0) 12 = v10959 := by rw [fz_at fiI11139 0 (by decide) (by decide)]; exact e11136
                  have e11154 : I11139 (ad g 0) 1 = L10892 := hI11139.1.2
                  have b11155 := BT_get hI11139.1.1 0 1 2 (0) (0) (900) (by decide) 1 (by decide) (by decide)
                  rw [e11154] at b11155
                  refine WP_aload_n dX11_town_242 rfl ?_
                  refine WP_getr dX11_town_243 fX11_259 rfl (ly_is hy 0 11 rfl) (rf hr 0 41 23 (by decide)) ?_
                  refine WP_aload_n dX11_town_246 rfl ?_
                  refine WP_getr dX11_town_247 fX11_144 rfl (ly_is hy 0 11 rfl) (rf hr 0 47 29 (by decide)) ?_
                  refine WP_callS2 dX11_town_250 ⟨⟨⟨by decide, by decide⟩, zX11_copy⟩, lX11_338, tX11_copy⟩ (sm_copyw_23_29 hy hr hI11139  ) (Nat.le_of_ble_eq_true rfl) ?_
                  intro r I11156 J11157 Ra hq
                  obtain ⟨⟨hI11156, ec, fiI11156, fjI11156, fqI11156, pI11156⟩, rfl⟩ := hq
                  rw [ec]
                  clear ec Ra
                  have fr11158 : fz 49 g [0, 6, 7, 8, 9, 10, 11, 12, 13, 14, 15, 16, 17, 18, 19, 20, 21, 22, 23, 24, 25, 26, 27, 28, 29, 30, 31, 32, 33, 34, 37, 38, 44, 46, 47] I I11156 := fz_tr fr11141 (fz_mono fiI11156 (by decide))
                  have fr11159 : fs g [1, 2, 3, 4, 5, 6, 7, 8, 9, 10, 11, 12, 13, 14, 15, 16, 17, 18, 19, 51, 68] I I11156 := fs_tr fr11142 (fs_mono fqI11156 (by decide))
                  have fr11160 : fz 49 g [0, 2, 3, 4, 5] J J11157 := fz_tr fr11143 (fz_mono fjI11156 (by decide))
                  have WI11156 := WI11139
                  rw [← fz_at fiI11156 30 (by decide) (by decide), ← fz_at fiI11156 31 (by decide) (by decide)] at WI11156
                  have P8I11156 : ∀ q : Nat, q < 4 → I11156 (ad g 8) q = I11156 (ad g 14) q := fun q hq => by rw [fz_at fiI11156 8 (by decide) (by decide), fz_at fiI11156 14 (by decide) (by decide)]; exact P8I11139 q hq
                  have e11161 : I11156 (ad g 0) 15 = w10911 := by rw [fz_at fiI11156 0 (by decide) (by decide)]; exact e11144
                  have e11162 : I11156 (ad g 0) 17 = w10912 := by rw [fz_at fiI11156 0 (by decide) (by decide)]; exact e11145
                  have e11163 : I11156 (ad g 0) 10 = w10911 := by rw [fz_at fiI11156 0 (by decide) (by decide)]; exact e11146
                  have e11164 : I11156 (ad g 0) 16 = v10920 := by rw [fz_at fiI11156 0 (by decide) (by decide)]; exact e11147
                  have e11165 : I11156 (ad g 0) 11 = v10920 := by rw [fz_at fiI11156 0 (by decide) (by decide)]; exact e11148
                  have e11166 : I11156 (ad g 0) 13 = w10912 := by rw [fz_at fiI11156 0 (by decide) (by decide)]; exact e11149
                  have e11167 : I11156 (ad g 0) 18 = v10940 := by rw [fz_at fiI11156 0 (by decide) (by decide)]; exact e11150
                  have e11168 : I11156 (ad g 0) 14 = v10945 := by rw [fz_at fiI11156 0 (by decide) (by decide)]; exact e11151
                  have e11169 : I11156 (ad g 0) 19 = v10959 := by rw [fz_at fiI11156 0 (by decide) (by decide)]; exact e11152
                  have e11170 : I11156 (ad g 0) 12 = v10959 := by rw [fz_at fiI11156 0 (by decide) (by decide)]; exact e11153
                  have e11171 : I11156 (ad g 0) 1 = L10892 := hI11156.1.2
                  have b11172 := BT_get hI11156.1.1 0 1 2 (0) (0) (900) (by decide) 1 (by decide) (by decide)
                  rw [e11171] at b11172
                  refine WP_aload_n dX11_town_253 rfl ?_
                  refine WP_getr dX11_town_254 fX11_261 rfl (ly_is hy 0 11 rfl) (rf hr 0 42 24 (by decide)) ?_
                  refine WP_aload_n dX11_town_257 rfl ?_
                  refine WP_getr dX11_town_258 fX11_117 rfl (ly_is hy 0 11 rfl) (rf hr 0 48 30 (by decide)) ?_
                  refine WP_callS2 dX11_town_261 ⟨⟨⟨by decide, by decide⟩, zX11_copy⟩, lX11_338, tX11_copy⟩ (sm_copyw_24_30 hy hr hI11156  ) (Nat.le_of_ble_eq_true rfl) ?_
                  intro r I11173 J11174 Ra hq
                  obtain ⟨⟨hI11173, ec, fiI11173, fjI11173, fqI11173, pI11173⟩, rfl⟩ := hq
                  rw [ec]
                  clear ec Ra
                  have fr11175 : fz 49 g [0, 6, 7, 8, 9, 10, 11, 12, 13, 14, 15, 16, 17, 18, 19, 20, 21, 22, 23, 24, 25, 26, 27, 28, 29, 30, 31, 32, 33, 34, 37, 38, 44, 46, 47] I I11173 := fz_tr fr11158 (fz_mono fiI11173 (by decide))
                  have fr11176 : fs g [1, 2, 3, 4, 5, 6, 7, 8, 9, 10, 11, 12, 13, 14, 15, 16, 17, 18, 19, 51, 68] I I11173 := fs_tr fr11159 (fs_mono fqI11173 (by decide))
                  have fr11177 : fz 49 g [0, 2, 3, 4, 5] J J11174 := fz_tr fr11160 (fz_mono fjI11173 (by decide))
                  have WI11173 := WI11156
                  rw [← fz_at fiI11173 30 (by decide) (by decide), ← fz_at fiI11173 31 (by decide) (by decide)] at WI11173
                  have P8I11173 : ∀ q : Nat, q < 4 → I11173 (ad g 8) q = I11173 (ad g 14) q := fun q hq => by rw [fz_at fiI11173 8 (by decide) (by decide), fz_at fiI11173 14 (by decide) (by decide)]; exact P8I11156 q hq
                  have P24I11173 : ∀ q : Nat, q < 28 → I11173 (ad g 24) q = I11173 (ad g 30) q := fun q hq => by rw [fz_at fiI11173 30 (by decide) (by decide)]; exact pI11173 q hq
                  have e11178 : I11173 (ad g 0) 15 = w10911 := by rw [fz_at fiI11173 0 (by decide) (by decide)]; exact e11161
                  have e11179 : I11173 (ad g 0) 17 = w10912 := by rw [fz_at fiI11173 0 (by decide) (by decide)]; exact e11162
                  have e11180 : I11173 (ad g 0) 10 = w10911 := by rw [fz_at fiI11173 0 (by decide) (by decide)]; exact e11163
                  have e11181 : I11173 (ad g 0) 16 = v10920 := by rw [fz_at fiI11173 0 (by decide) (by decide)]; exact e11164
                  have e11182 : I11173 (ad g 0) 11 = v10920 := by rw [fz_at fiI11173 0 (by decide) (by decide)]; exact e11165
                  have e11183 : I11173 (ad g 0) 13 = w10912 := by rw [fz_at fiI11173 0 (by decide) (by decide)]; exact e11166
                  have e11184 : I11173 (ad g 0) 18 = v10940 := by rw [fz_at fiI11173 0 (by decide) (by decide)]; exact e11167
                  have e11185 : I11173 (ad g 0) 14 = v10945 := by rw [fz_at fiI11173 0 (by decide) (by decide)]; exact e11168
                  have e11186 : I11173 (ad g 0) 19 = v10959 := by rw [fz_at fiI11173 0 (by decide) (by decide)]; exact e11169
                  have e11187 : I11173 (ad g 0) 12 = v10959 := by rw [fz_at fiI11173 0 (by decide) (by decide)]; exact e11170
                  have e11188 : I11173 (ad g 0) 1 = L10892 := hI11173.1.2
                  have b11189 := BT_get hI11173.1.1 0 1 2 (0) (0) (900) (by decide) 1 (by decide) (by decide)
                  rw [e11188] at b11189
                  refine WP_aload_n dX11_town_264 rfl ?_
                  refine WP_getr dX11_town_265 fX11_264 rfl (ly_is hy 0 11 rfl) (rf hr 0 43 25 (by decide)) ?_
                  refine WP_aload_n dX11_town_268 rfl ?_
                  refine WP_getr dX11_town_269 fX11_120 rfl (ly_is hy 0 11 rfl) (rf hr 0 49 31 (by decide)) ?_
                  refine WP_callS2 dX11_town_272 ⟨⟨⟨by decide, by decide⟩, zX11_copy⟩, lX11_338, tX11_copy⟩ (sm_copyw_25_31 hy hr hI11173  ) (Nat.le_of_ble_eq_true rfl) ?_
                  intro r I11190 J11191 Ra hq
                  obtain ⟨⟨hI11190, ec, fiI11190, fjI11190, fqI11190, pI11190⟩, rfl⟩ := hq
                  rw [ec]
                  clear ec Ra
                  have fr11192 : fz 49 g [0, 6, 7, 8, 9, 10, 11, 12, 13, 14, 15, 16, 17, 18, 19, 20, 21, 22, 23, 24, 25, 26, 27, 28, 29, 30, 31, 32, 33, 34, 37, 38, 44, 46, 47] I I11190 := fz_tr fr11175 (fz_mono fiI11190 (by decide))
                  have fr11193 : fs g [1, 2, 3, 4, 5, 6, 7, 8, 9, 10, 11, 12, 13, 14, 15, 16, 17, 18, 19, 51, 68] I I11190 := fs_tr fr11176 (fs_mono fqI11190 (by decide))
                  have fr11194 : fz 49 g [0, 2, 3, 4, 5] J J11191 := fz_tr fr11177 (fz_mono fjI11190 (by decide))
                  have WI11190 := WI11173
                  rw [← fz_at fiI11190 30 (by decide) (by decide), ← fz_at fiI11190 31 (by decide) (by decide)] at WI11190
                  have P8I11190 : ∀ q : Nat, q < 4 → I11190 (ad g 8) q = I11190 (ad g 14) q := fun q hq => by rw [fz_at fiI11190 8 (by decide) (by decide), fz_at fiI11190 14 (by decide) (by decide)]; exact P8I11173 q hq
                  have P24I11190 : ∀ q : Nat, q < 28 → I11190 (ad g 24) q = I11190 (ad g 30) q := fun q hq => by rw [fz_at fiI11190 24 (by decide) (by decide), fz_at fiI11190 30 (by decide) (by decide)]; exact P24I11173 q hq
                  have P25I11190 : ∀ q : Nat, q < 28 → I11190 (ad g 25) q = I11190 (ad g 31) q := fun q hq => by rw [fz_at fiI11190 31 (by decide) (by decide)]; exact pI11190 q hq
                  have e11195 : I11190 (ad g 0) 15 = w10911 := by rw [fz_at fiI11190 0 (by decide) (by decide)]; exact e11178
                  have e11196 : I11190 (ad g 0) 17 = w10912 := by rw [fz_at fiI11190 0 (by decide) (by decide)]; exact e11179
                  have e11197 : I11190 (ad g 0) 10 = w10911 := by rw [fz_at fiI11190 0 (by decide) (by decide)]; exact e11180
                  have e11198 : I11190 (ad g 0) 16 = v10920 := by rw [fz_at fiI11190 0 (by decide) (by decide)]; exact e11181
                  have e11199 : I11190 (ad g 0) 11 = v10920 := by rw [fz_at fiI11190 0 (by decide) (by decide)]; exact e11182
                  have e11200 : I11190 (ad g 0) 13 = w10912 := by rw [fz_at fiI11190 0 (by decide) (by decide)]; exact e11183
                  have e11201 : I11190 (ad g 0) 18 = v10940 := by rw [fz_at fiI11190 0 (by decide) (by decide)]; exact e11184
                  have e11202 : I11190 (ad g 0) 14 = v10945 := by rw [fz_at fiI11190 0 (by decide) (by decide)]; exact e11185
                  have e11203 : I11190 (ad g 0) 19 = v10959 := by rw [fz_at fiI11190 0 (by decide) (by decide)]; exact e11186
                  have e11204 : I11190 (ad g 0) 12 = v10959 := by rw [fz_at fiI11190 0 (by decide) (by decide)]; exact e11187
                  have e11205 : I11190 (ad g 0) 1 = L10892 := hI11190.1.2
                  have b11206 := BT_get hI11190.1.1 0 1 2 (0) (0) (900) (by decide) 1 (by decide) (by decide)
                  rw [e11205] at b11206
                  refine WP_aload_n dX11_town_275 rfl ?_
                  refine WP_getr dX11_town_276 fX11_267 rfl (ly_is hy 0 11 rfl) (rf hr 0 44 26 (by decide)) ?_
                  refine WP_aload_n dX11_town_279 rfl ?_
                  refine WP_getr dX11_town_280 fX11_123 rfl (ly_is hy 0 11 rfl) (rf hr 0 50 32 (by decide)) ?_
                  refine WP_callS2 dX11_town_283 ⟨⟨⟨by decide, by decide⟩, zX11_copy⟩, lX11_338, tX11_copy⟩ (sm_copyw_26_32 hy hr hI11190  ) (Nat.le_of_ble_eq_true rfl) ?_
                  intro r I11207 J11208 Ra hq
                  obtain ⟨⟨hI11207, ec, fiI11207, fjI11207, fqI11207, pI11207⟩, rfl⟩ := hq
                  rw [ec]
                  clear ec Ra
                  have fr11209 : fz 49 g [0, 6, 7, 8, 9, 10, 11, 12, 13, 14, 15, 16, 17, 18, 19, 20, 21, 22, 23, 24, 25, 26, 27, 28, 29, 30, 31, 32, 33, 34, 37, 38, 44, 46, 47] I I11207 := fz_tr fr11192 (fz_mono fiI11207 (by decide))
                  have fr11210 : fs g [1, 2, 3, 4, 5, 6, 7, 8, 9, 10, 11, 12, 13, 14, 15, 16, 17, 18, 19, 51, 68] I I11207 := fs_tr fr11193 (fs_mono fqI11207 (by decide))
                  have fr11211 : fz 49 g [0, 2, 3, 4, 5] J J11208 := fz_tr fr11194 (fz_mono fjI11207 (by decide))
                  have WI11207 := WI11190
                  rw [← fz_at fiI11207 30 (by decide) (by decide), ← fz_at fiI11207 31 (by decide) (by decide)] at WI11207
                  have P8I11207 : ∀ q : Nat, q < 4 → I11207 (ad g 8) q = I11207 (ad g 14) q := fun q hq => by rw [fz_at fiI11207 8 (by decide) (by decide), fz_at fiI11207 14 (by decide) (by decide)]; exact P8I11190 q hq
                  have P24I11207 : ∀ q : Nat, q < 28 → I11207 (ad g 24) q = I11207 (ad g 30) q := fun q hq => by rw [fz_at fiI11207 24 (by decide) (by decide), fz_at fiI11207 30 (by decide) (by decide)]; exact P24I11190 q hq
                  have P25I11207 : ∀ q : Nat, q < 28 → I11207 (ad g 25) q = I11207 (ad g 31) q := fun q hq => by rw [fz_at fiI11207 25 (by decide) (by decide), fz_at fiI11207 31 (by decide) (by decide)]; exact P25I11190 q hq
                  have e11212 : I11207 (ad g 0) 15 = w10911 := by rw [fz_at fiI11207 0 (by decide) (by decide)]; exact e11195
                  have e11213 : I11207 (ad g 0) 17 = w10912 := by rw [fz_at fiI11207 0 (by decide) (by decide)]; exact e11196
                  have e11214 : I11207 (ad g 0) 10 = w10911 := by rw [fz_at fiI11207 0 (by decide) (by decide)]; exact e11197
                  have e11215 : I11207 (ad g 0) 16 = v10920 := by rw [fz_at fiI11207 0 (by decide) (by decide)]; exact e11198
                  have e11216 : I11207 (ad g 0) 11 = v10920 := by rw [fz_at fiI11207 0 (by decide) (by decide)]; exact e11199
                  have e11217 : I11207 (ad g 0) 13 = w10912 := by rw [fz_at fiI11207 0 (by decide) (by decide)]; exact e11200
                  have e11218 : I11207 (ad g 0) 18 = v10940 := by rw [fz_at fiI11207 0 (by decide) (by decide)]; exact e11201
                  have e11219 : I11207 (ad g 0) 14 = v10945 := by rw [fz_at fiI11207 0 (by decide) (by decide)]; exact e11202
                  have e11220 : I11207 (ad g 0) 19 = v10959 := by rw [fz_at fiI11207 0 (by decide) (by decide)]; exact e11203
                  have e11221 : I11207 (ad g 0) 12 = v10959 := by rw [fz_at fiI11207 0 (by decide) (by decide)]; exact e11204
                  have e11222 : I11207 (ad g 0) 1 = L10892 := hI11207.1.2
                  have b11223 := BT_get hI11207.1.1 0 1 2 (0) (0) (900) (by decide) 1 (by decide) (by decide)
                  rw [e11222] at b11223
                  refine WQ_iconst (0) (0) dX11_town_286 rfl rfl (fun v11224 hv11224 => ?_)
                  refine WP_istore_n (ls' := [(0, _), (1, _)]) dX11_town_287 (by decide) rfl ?_
                  have lp288_11231 : ∀ (mz : Nat) (i11225 : Int32) (I11226 : pI) (J11227 : pJ), MW g n L10892 I11226 → fz 49 g [0, 6, 7, 8, 9, 10, 11, 12, 13, 14, 15, 16, 17, 18, 19, 20, 21, 22, 23, 24, 25, 26, 27, 28, 29, 30, 31, 32, 33, 34, 37, 38, 44, 46, 47] I I11226 → fz 49 g [0, 2, 3, 4, 5] J J11227 → fs g [1, 2, 3, 4, 5, 6, 7, 8, 9, 10, 11, 12, 13, 14, 15, 16, 17, 18, 19, 51, 68] I I11226 → ∀ (w11229 : Int32), I11226 (ad g 0) 10 = w11229 → ∀ (w11230 : Int32), I11226 (ad g 0) 13 = w11230 → ∀ (w11231 : Int32), I11226 (ad g 0) 15 = w11231 → 0 ≤ i11225.toInt → i11225.toInt ≤ 4 → w11229.toInt = w11231.toInt → w11230.toInt < w11231.toInt → (∀ q : Nat, q < 4 → I11226 (ad g 8) q = I11226 (ad g 14) q) → (∀ q : Nat, q < 28 → I11226 (ad g 24) q = I11226 (ad g 30) q) → (∀ q : Nat, q < 28 → I11226 (ad g 25) q = I11226 (ad g 31) q) → (WRt (I11226 (ad g 30)) (I11226 (ad g 31)) (7 * w11231.toInt)) → (5 - i11225.toInt).toNat < mz → WP g mX11_town 288 [(0, .ref (ad g 0)), (1, .int i11225)] [] I11226 J11227 R (fun r I' J' R' => ((∃ L2 : Int32, MP g n L2 I' ∧ L2.toInt = 0) ∧ R' = R ∧ fz 49 g [0, 6, 7, 8, 9, 10, 11, 12, 13, 14, 15, 16, 17, 18, 19, 20, 21, 22, 23, 24, 25, 26, 27, 28, 29, 30, 31, 32, 33, 34, 37, 38, 44, 46, 47] I I' ∧ fz 49 g [0, 2, 3, 4, 5] J J' ∧ fs g [1, 2, 3, 4, 5, 6, 7, 8, 9, 10, 11, 12, 13, 14, 15, 16, 17, 18, 19, 51, 68] I I') ∧ ∃ v : Int32, r = some (.int v)) := by
                    intro mz
                    induction mz with
                    | zero =>
                      intro i11225 I11226 J11227 hI11226 fiI11226 fjJ11227 fqI11226 w11229 ew11229 w11230 ew11230 w11231 ew11231 ai11225 bi11225 j0_I11226 j1_I11226 PP8_I11226_11227 PP24_I11226_11227 PP25_I11226_11227 PW_I11226_11227 hmlp288_11231
                      exact absurd hmlp288_11231 (Nat.not_lt_zero _)
                    | succ mz ihlp288_11231 =>
                      intro i11225 I11226 J11227 hI11226 fiI11226 fjJ11227 fqI11226 w11229 ew11229 w11230 ew11230 w11231 ew11231 ai11225 bi11225 j0_I11226 j1_I11226 PP8_I11226_11227 PP24_I11226_11227 PP25_I11226_11227 PW_I11226_11227 hmlp288_11231
                      have bw11229 := BT_get hI11226.1.1 0 10 11 (0) (0) (4) (by decide) 10 (by decide) (by decide)
                      rw [ew11229] at bw11229
                      have bw11230 := BT_get hI11226.1.1 0 13 14 (-1) (0) (3) (by decide) 13 (by decide) (by decide)
                      rw [ew11230] at bw11230
                      have bw11231 := BT_get hI11226.1.1 0 15 16 (0) (0) (4) (by decide) 15 (by decide) (by decide)
                      rw [ew11231] at bw11231
                      have e11233 : I11226 (ad g 0) 1 = L10892 := hI11226.1.2
                      have b11234 := BT_get hI11226.1.1 0 1 2 (0) (0) (900) (by decide) 1 (by decide) (by decide)
                      rw [e11233] at b11234
                      refine WP_iload_n dX11_town_288 rfl ?_
                      refine WQ_iconst (4) (4) dX11_town_289 rfl rfl (fun v11235 hv11235 => ?_)
                      refine WQ_icmp_ge 323 dX11_town_290 rfl (fun c11235 => ?_) (fun c11235 => ?_)
                      · refine WP_aload_n dX11_town_323 rfl ?_
                        refine WP_aload_n dX11_town_324 rfl ?_
                        refine WP_getr dX11_town_325 fX11_283 rfl (ly_is hy 0 11 rfl) (rf hr 0 59 38 (by decide)) ?_
                        refine WP_callV1 (k := 11) dX11_town_328 ⟨⟨⟨by decide, by decide⟩, zX11_begin⟩, lX11_342, by decide, rfl, vX11_begin.1, vX11_begin.2⟩ (ly_is hy 0 11 rfl) (sm_beginw_38 hy hr hI11226   (by omega)) (Nat.le_of_ble_eq_true rfl) ?_
                        intro r I11237 J11238 Ra hq
                        obtain ⟨⟨hI11237, ec, fiI11237, fjI11237, fqI11237⟩, rfl⟩ := hq
                        rw [ec]
                        clear ec Ra
                        have fr11239 : fz 49 g [0, 6, 7, 8, 9, 10, 11, 12, 13, 14, 15, 16, 17, 18, 19, 20, 21, 22, 23, 24, 25, 26, 27, 28, 29, 30, 31, 32, 33, 34, 37, 38, 44, 46, 47] I I11237 := fz_tr fiI11226 (fz_mono fiI11237 (by decide))
                        have fr11240 : fs g [1, 2, 3, 4, 5, 6, 7, 8, 9, 10, 11, 12, 13, 14, 15, 16, 17, 18, 19, 51, 68] I I11237 := fs_tr fqI11226 (fs_mono fqI11237 (by decide))
                        have fr11241 : fz 49 g [0, 2, 3, 4, 5] J J11238 := fz_tr fjJ11227 (fz_mono fjI11237 (by decide))
                        have P8I11237 : ∀ q : Nat, q < 4 → I11237 (ad g 8) q = I11237 (ad g 14) q := fun q hq => by rw [fz_at fiI11237 8 (by decide) (by decide), fz_at fiI11237 14 (by decide) (by decide)]; exact PP8_I11226_11227 q hq
                        have P24I11237 : ∀ q : Nat, q < 28 → I11237 (ad g 24) q = I11237 (ad g 30) q := fun q hq => by rw [fz_at fiI11237 24 (by decide) (by decide), fz_at fiI11237 30 (by decide) (by decide)]; exact PP24_I11226_11227 q hq
                        have P25I11237 : ∀ q : Nat, q < 28 → I11237 (ad g 25) q = I11237 (ad g 31) q := fun q hq => by rw [fz_at fiI11237 25 (by decide) (by decide), fz_at fiI11237 31 (by decide) (by decide)]; exact PP25_I11226_11227 q hq
                        have WI11237 := PW_I11226_11227
                        rw [← fz_at fiI11237 30 (by decide) (by decide), ← fz_at fiI11237 31 (by decide) (by decide)] at WI11237
                        have e11242 : I11237 (ad g 0) 10 = w11229 := by rw [fz_at fiI11237 0 (by decide) (by decide)]; exact ew11229
                        have e11243 : I11237 (ad g 0) 13 = w11230 := by rw [fz_at fiI11237 0 (by decide) (by decide)]; exact ew11230
                        have e11244 : I11237 (ad g 0) 15 = w11231 := by rw [fz_at fiI11237 0 (by decide) (by decide)]; exact ew11231
                        have e11245 : I11237 (ad g 0) 1 = L10892 := hI11237.1.2
                        have b11246 := BT_get hI11237.1.1 0 1 2 (0) (0) (900) (by decide) 1 (by decide) (by decide)
                        rw [e11245] at b11246
                        refine WP_aload_n dX11_town_331 rfl ?_
                        refine WP_lconst (0) dX11_town_332 rfl ?_
                        obtain ⟨l11247, hl11247, el11247⟩ : ∃ v : Int64, v.toInt = 0 ∧ (0 : Int64) = v := ⟨_, rfl, rfl⟩
                        rw [el11247]; clear el11247
                        refine WQ_putl dX11_town_333 fX11_346 rfl rfl (ly_is hy 0 11 rfl) (fun J11248 eJ11248 => ?_)
                        have fr11249 : fz 49 g [0, 2, 3, 4, 5] J J11248 := by rw [eJ11248]; exact fzm_pp hy fr11241 (by decide) (by decide)
                        clear eJ11248
                        refine WP_aload_n dX11_town_336 rfl ?_
                        refine WP_callV0 (k := 11) dX11_town_337 ⟨⟨⟨by decide, by decide⟩, zX11_forgetWeeks⟩, lX11_350, by decide, rfl, vX11_forgetWeeks.1, vX11_forgetWeeks.2⟩ (ly_is hy 0 11 rfl) (sm_forgetWeeksw hy hr hI11237  ) (Nat.le_of_ble_eq_true rfl) ?_
                        intro r I11250 J11251 Ra hq
                        obtain ⟨⟨hI11250, ec, fiI11250, fjI11250, fqI11250⟩, rfl⟩ := hq
                        rw [ec]
                        clear ec Ra
                        have fr11252 : fz 49 g [0, 6, 7, 8, 9, 10, 11, 12, 13, 14, 15, 16, 17, 18, 19, 20, 21, 22, 23, 24, 25, 26, 27, 28, 29, 30, 31, 32, 33, 34, 37, 38, 44, 46, 47] I I11250 := fz_tr fr11239 (fz_mono fiI11250 (by decide))
                        have fr11253 : fs g [1, 2, 3, 4, 5, 6, 7, 8, 9, 10, 11, 12, 13, 14, 15, 16, 17, 18, 19, 51, 68] I I11250 := fs_tr fr11240 (fs_mono fqI11250 (by decide))
                        have fr11254 : fz 49 g [0, 2, 3, 4, 5] J J11251 := fz_tr fr11249 (fz_mono fjI11250 (by decide))
                        have P8I11250 : ∀ q : Nat, q < 4 → I11250 (ad g 8) q = I11250 (ad g 14) q := fun q hq => by rw [fz_at fiI11250 8 (by decide) (by decide), fz_at fiI11250 14 (by decide) (by decide)]; exact P8I11237 q hq
                        have P24I11250 : ∀ q : Nat, q < 28 → I11250 (ad g 24) q = I11250 (ad g 30) q := fun q hq => by rw [fz_at fiI11250 24 (by decide) (by decide), fz_at fiI11250 30 (by decide) (by decide)]; exact P24I11237 q hq
                        have P25I11250 : ∀ q : Nat, q < 28 → I11250 (ad g 25) q = I11250 (ad g 31) q := fun q hq => by rw [fz_at fiI11250 25 (by decide) (by decide), fz_at fiI11250 31 (by decide) (by decide)]; exact P25I11237 q hq
                        have WI11250 := WI11237
                        rw [← fz_at fiI11250 30 (by decide) (by decide), ← fz_at fiI11250 31 (by decide) (by decide)] at WI11250
                        have e11255 : I11250 (ad g 0) 10 = w11229 := by rw [fz_at fiI11250 0 (by decide) (by decide)]; exact e11242
                        have e11256 : I11250 (ad g 0) 13 = w11230 := by rw [fz_at fiI11250 0 (by decide) (by decide)]; exact e11243
                        have e11257 : I11250 (ad g 0) 15 = w11231 := by rw [fz_at fiI11250 0 (by decide) (by decide)]; exact e11244
                        have e11258 : I11250 (ad g 0) 1 = L10892 := hI11250.1.2
                        have b11259 := BT_get hI11250.1.1 0 1 2 (0) (0) (900) (by decide) 1 (by decide) (by decide)
                        rw [e11258] at b11259
                        refine WQ_iconst (0) (0) dX11_town_340 rfl rfl (fun v11260 hv11260 => ?_)
                        refine WP_istore_n (ls' := [(0, _), (1, _)]) dX11_town_341 (by decide) rfl ?_
                        have lp342_11267 : ∀ (mz : Nat) (i11261 : Int32) (I11262 : pI) (J11263 : pJ), MW g n L10892 I11262 → fz 49 g [0, 6, 7, 8, 9, 10, 11, 12, 13, 14, 15, 16, 17, 18, 19, 20, 21, 22, 23, 24, 25, 26, 27, 28, 29, 30, 31, 32, 33, 34, 37, 38, 44, 46, 47] I I11262 → fz 49 g [0, 2, 3, 4, 5] J J11263 → fs g [1, 2, 3, 4, 5, 6, 7, 8, 9, 10, 11, 12, 13, 14, 15, 16, 17, 18, 19, 51, 68] I I11262 → ∀ (w11265 : Int32), I11262 (ad g 0) 10 = w11265 → ∀ (w11266 : Int32), I11262 (ad g 0) 13 = w11266 → ∀ (w11267 : Int32), I11262 (ad g 0) 15 = w11267 → 0 ≤ i11261.toInt → i11261.toInt ≤ 3 → w11265.toInt = w11267.toInt → w11266.toInt < w11267.toInt → (∀ q : Nat, q < 4 → I11262 (ad g 8) q = I11262 (ad g 14) q) → (∀ q : Nat, q < 28 → I11262 (ad g 24) q = I11262 (ad g 30) q) → (∀ q : Nat, q < 28 → I11262 (ad g 25) q = I11262 (ad g 31) q) → (WRt (I11262 (ad g 30)) (I11262 (ad g 31)) (7 * w11267.toInt)) → (4 - i11261.toInt).toNat < mz → WP g mX11_town 342 [(0, .ref (ad g 0)), (1, .int i11261)] [] I11262 J11263 R (fun r I' J' R' => ((∃ L2 : Int32, MP g n L2 I' ∧ L2.toInt = 0) ∧ R' = R ∧ fz 49 g [0, 6, 7, 8, 9, 10, 11, 12, 13, 14, 15, 16, 17, 18, 19, 20, 21, 22, 23, 24, 25, 26, 27, 28, 29, 30, 31, 32, 33, 34, 37, 38, 44, 46, 47] I I' ∧ fz 49 g [0, 2, 3, 4, 5] J J' ∧ fs g [1, 2, 3, 4, 5, 6, 7, 8, 9, 10, 11, 12, 13, 14, 15, 16, 17, 18, 19, 51, 68] I I') ∧ ∃ v : Int32, r = some (.int v)) := by
                          intro mz
                          induction mz with
                          | zero =>
                            intro i11261 I11262 J11263 hI11262 fiI11262 fjJ11263 fqI11262 w11265 ew11265 w11266 ew11266 w11267 ew11267 ai11261 bi11261 j0_I11262 j1_I11262 PP8_I11262_11263 PP24_I11262_11263 PP25_I11262_11263 PW_I11262_11263 hmlp342_11267
                            exact absurd hmlp342_11267 (Nat.not_lt_zero _)
                          | succ mz ihlp342_11267 =>
                            intro i11261 I11262 J11263 hI11262 fiI11262 fjJ11263 fqI11262 w11265 ew11265 w11266 ew11266 w11267 ew11267 ai11261 bi11261 j0_I11262 j1_I11262 PP8_I11262_11263 PP24_I11262_11263 PP25_I11262_11263 PW_I11262_11263 hmlp342_11267
                            have bw11265 := BT_get hI11262.1.1 0 10 11 (0) (0) (4) (by decide) 10 (by decide) (by decide)
                            rw [ew11265] at bw11265
                            have bw11266 := BT_get hI11262.1.1 0 13 14 (-1) (0) (3) (by decide) 13 (by decide) (by decide)
                            rw [ew11266] at bw11266
                            have bw11267 := BT_get hI11262.1.1 0 15 16 (0) (0) (4) (by decide) 15 (by decide) (by decide)
                            rw [ew11267] at bw11267
                            have e11269 : I11262 (ad g 0) 1 = L10892 := hI11262.1.2
                            have b11270 := BT_get hI11262.1.1 0 1 2 (0) (0) (900) (by decide) 1 (by decide) (by decide)
                            rw [e11269] at b11270
                            refine WP_iload_n dX11_town_342 rfl ?_
                            refine WQ_iconst (3) (3) dX11_town_343 rfl rfl (fun v11271 hv11271 => ?_)
                            refine WQ_icmp_ge 360 dX11_town_344 rfl (fun c11271 => ?_) (fun c11271 => ?_)
                            · refine WP_aload_n dX11_town_360 rfl ?_
                              refine WQ_iconst (-1) (-1) dX11_town_361 rfl rfl (fun v11273 hv11273 => ?_)
                              refine WQ_puti dX11_town_362 fX11_304 rfl rfl (ly_is hy 0 11 rfl) (fun I11274 eI11274 => ?_)
                              have hI11274 : MW g n L10892 I11274 := by rw [eI11274]; exact (mw_w hy hI11262 (c := 0) (mi_f0 hy hI11262.1 (c := 0) (by decide) (Or.inr (by decide)) (by decide)) (by decide) (by decide) (Or.inr (by decide)))
                              have e11275 : I11274 (ad g 0) 10 = w11265 := by rw [eI11274, pp_ne _ _ (Or.inr (by decide))]; exact ew11265
                              have e11276 : I11274 (ad g 0) 13 = w11266 := by rw [eI11274, pp_ne _ _ (Or.inr (by decide))]; exact ew11266
                              have e11277 : I11274 (ad g 0) 15 = w11267 := by rw [eI11274, pp_ne _ _ (Or.inr (by decide))]; exact ew11267
                              have e11278 : I11274 (ad g 0) 1 = L10892 := by rw [eI11274, pp_ne _ _ (Or.inr (by decide))]; exact e11269
                              have e11279 : I11274 (ad g 0) 68 = v11273 := by rw [eI11274, pp_self]
                              have fr11280 : fs g [1, 2, 3, 4, 5, 6, 7, 8, 9, 10, 11, 12, 13, 14, 15, 16, 17, 18, 19, 51, 68] I I11274 := by rw [eI11274]; exact fs_pp0 fqI11262 (by decide)
                              have fr11281 : fz 49 g [0, 6, 7, 8, 9, 10, 11, 12, 13, 14, 15, 16, 17, 18, 19, 20, 21, 22, 23, 24, 25, 26, 27, 28, 29, 30, 31, 32, 33, 34, 37, 38, 44, 46, 47] I I11274 := by rw [eI11274]; exact fzm_pp hy fiI11262 (by decide) (by decide)
                              have P8I11274 : ∀ q : Nat, q < 4 → I11274 (ad g 8) q = I11274 (ad g 14) q := fun q hq => by rw [show I11274 (ad g 8) = I11262 (ad g 8) by rw [eI11274, pp_off _ _ (ly_ne hy (by decide) (by decide) (by decide))], show I11274 (ad g 14) = I11262 (ad g 14) by rw [eI11274, pp_off _ _ (ly_ne hy (by decide) (by decide) (by decide))]]; exact PP8_I11262_11263 q hq
                              have P24I11274 : ∀ q : Nat, q < 28 → I11274 (ad g 24) q = I11274 (ad g 30) q := fun q hq => by rw [show I11274 (ad g 24) = I11262 (ad g 24) by rw [eI11274, pp_off _ _ (ly_ne hy (by decide) (by decide) (by decide))], show I11274 (ad g 30) = I11262 (ad g 30) by rw [eI11274, pp_off _ _ (ly_ne hy (by decide) (by decide) (by decide))]]; exact PP24_I11262_11263 q hq
                              have P25I11274 : ∀ q : Nat, q < 28 → I11274 (ad g 25) q = I11274 (ad g 31) q := fun q hq => by rw [show I11274 (ad g 25) = I11262 (ad g 25) by rw [eI11274, pp_off _ _ (ly_ne hy (by decide) (by decide) (by decide))], show I11274 (ad g 31) = I11262 (ad g 31) by rw [eI11274, pp_off _ _ (ly_ne hy (by decide) (by decide) (by decide))]]; exact PP25_I11262_11263 q hq
                              have WI11274 := PW_I11262_11263
                              rw [← (show I11274 (ad g 30) = I11262 (ad g 30) by rw [eI11274, pp_off _ _ (ly_ne hy (by decide) (by decide) (by decide))]), ← (show I11274 (ad g 31) = I11262 (ad g 31) by rw [eI11274, pp_off _ _ (ly_ne hy (by decide) (by decide) (by decide))])] at WI11274
                              clear eI11274
                              have hMP : MP g n L10892 I11274 := ⟨hI11274.1, Or.inl ⟨fun q hq => by rw [e11275] at hq; rw [P8I11274 q (by omega)]; exact hI11274.2.2 q (by rw [e11277]; omega), by rw [e11276, e11275]; omega, fun q hq h24 => by rw [e11275] at hq; rw [P25I11274 q (by omega)]; rw [P24I11274 q (by omega)] at h24; exact WI11274 q (by omega) h24⟩, hI11274.2⟩
                              refine WP_aload_n dX11_town_365 rfl ?_
                              refine WQ_getiu dX11_town_366 fX11_335 rfl (ly_is hy 0 11 rfl) (fun v11282 ev11282 => ?_)
                              exact WP_iret dX11_town_369 rfl ⟨⟨⟨_, hMP, by omega⟩, rfl, fr11281, fjJ11263, fr11280⟩, _, rfl⟩
                            · refine WP_aload_n dX11_town_347 rfl ?_
                              refine WP_getr dX11_town_348 fX11_301 rfl (ly_is hy 0 11 rfl) (rf hr 0 67 44 (by decide)) ?_
                              refine WP_iload_n dX11_town_351 rfl ?_
                              refine WQ_iconst (0) (0) dX11_town_352 rfl rfl (fun v11283 hv11283 => ?_)
                              refine WQ_zast dX11_town_353 (ly_is hy 44 15 rfl) (ly_n hy 44 3 rfl) (by omega) (by omega) (fun I11284 v11285 eI11284 => ?_)
                              have hI11284 : MW g n L10892 I11284 := by rw [eI11284]; exact (mw_w hy hI11262 (c := 44) (mi_r0 hy hI11262.1 (c := 44) (by decide) (Or.inl (by decide)) (by decide)) (by decide) (by decide) (Or.inl (by decide)))
                              have e11286 : I11284 (ad g 0) 10 = w11265 := by rw [eI11284, pp_ne _ _ (Or.inl (ly_ne hy (by decide) (by decide) (by decide)))]; exact ew11265
                              have e11287 : I11284 (ad g 0) 13 = w11266 := by rw [eI11284, pp_ne _ _ (Or.inl (ly_ne hy (by decide) (by decide) (by decide)))]; exact ew11266
                              have e11288 : I11284 (ad g 0) 15 = w11267 := by rw [eI11284, pp_ne _ _ (Or.inl (ly_ne hy (by decide) (by decide) (by decide)))]; exact ew11267
                              have e11289 : I11284 (ad g 0) 1 = L10892 := by rw [eI11284, pp_ne _ _ (Or.inl (ly_ne hy (by decide) (by decide) (by decide)))]; exact e11269
                              have fr11290 : fs g [1, 2, 3, 4, 5, 6, 7, 8, 9, 10, 11, 12, 13, 14, 15, 16, 17, 18, 19, 51, 68] I I11284 := by rw [eI11284]; exact fs_ppn hy fqI11262 (by decide) (by decide)
                              have fr11291 : fz 49 g [0, 6, 7, 8, 9, 10, 11, 12, 13, 14, 15, 16, 17, 18, 19, 20, 21, 22, 23, 24, 25, 26, 27, 28, 29, 30, 31, 32, 33, 34, 37, 38, 44, 46, 47] I I11284 := by rw [eI11284]; exact fzm_pp hy fiI11262 (by decide) (by decide)
                              have P8I11284 : ∀ q : Nat, q < 4 → I11284 (ad g 8) q = I11284 (ad g 14) q := fun q hq => by rw [show I11284 (ad g 8) = I11262 (ad g 8) by rw [eI11284, pp_off _ _ (ly_ne hy (by decide) (by decide) (by decide))], show I11284 (ad g 14) = I11262 (ad g 14) by rw [eI11284, pp_off _ _ (ly_ne hy (by decide) (by decide) (by decide))]]; exact PP8_I11262_11263 q hq
                              have P24I11284 : ∀ q : Nat, q < 28 → I11284 (ad g 24) q = I11284 (ad g 30) q := fun q hq => by rw [show I11284 (ad g 24) = I11262 (ad g 24) by rw [eI11284, pp_off _ _ (ly_ne hy (by decide) (by decide) (by decide))], show I11284 (ad g 30) = I11262 (ad g 30) by rw [eI11284, pp_off _ _ (ly_ne hy (by decide) (by decide) (by decide))]]; exact PP24_I11262_11263 q hq
                              have P25I11284 : ∀ q : Nat, q < 28 → I11284 (ad g 25) q = I11284 (ad g 31) q := fun q hq => by rw [show I11284 (ad g 25) = I11262 (ad g 25) by rw [eI11284, pp_off _ _ (ly_ne hy (by decide) (by decide) (by decide))], show I11284 (ad g 31) = I11262 (ad g 31) by rw [eI11284, pp_off _ _ (ly_ne hy (by decide) (by decide) (by decide))]]; exact PP25_I11262_11263 q hq
                              have WI11284 := PW_I11262_11263
                              rw [← (show I11284 (ad g 30) = I11262 (ad g 30) by rw [eI11284, pp_off _ _ (ly_ne hy (by decide) (by decide) (by decide))]), ← (show I11284 (ad g 31) = I11262 (ad g 31) by rw [eI11284, pp_off _ _ (ly_ne hy (by decide) (by decide) (by decide))])] at WI11284
                              clear eI11284
                              refine WP_iinc (ls' := [(0, _), (1, _)]) dX11_town_354 rfl (by decide) rfl ?_
                              have hv11292 : (i11261 + Int32.ofInt (1)).toInt = i11261.toInt + (1) := ia_n rfl (by omega) (by omega)
                              generalize i11261 + Int32.ofInt (1) = v11292 at hv11292 ⊢
                              refine WP_goto 342 dX11_town_357 rfl ?_
                              exact WP_sub (fc rfl (fc rfl fn)) (ihlp342_11267 v11292 I11284 J11263 hI11284 fr11291 fjJ11263 fr11290 w11265 e11286 w11266 e11287 w11267 e11288 (by omega) (by omega) (by omega) (by omega) P8I11284 P24I11284 P25I11284 WI11284 (by omega))
                        exact WP_sub (fc rfl (fc rfl fn)) (lp342_11267 _ v11260 I11250 J11251 hI11250 fr11252 fr11254 fr11253 w11229 e11255 w11230 e11256 w11231 e11257 (by omega) (by omega) (by omega) (by omega) P8I11250 P24I11250 P25I11250 WI11250 (Nat.lt_succ_self _))
                      · refine WP_aload_n dX11_town_293 rfl ?_
                        refine WP_getr dX11_town_294 fX11_283 rfl (ly_is hy 0 11 rfl) (rf hr 0 59 38 (by decide)) ?_
                        refine WQ_bipush (28) (28) dX11_town_297 rfl rfl (fun v11293 hv11293 => ?_)
                        refine WP_iload_n dX11_town_299 rfl ?_
                        refine WQ_iadd dX11_town_300 (by omega) (by omega) (fun v11294 hv11294 => ?_)
                        refine WQ_iconst (1) (1) dX11_town_301 rfl rfl (fun v11295 hv11295 => ?_)
                        refine WQ_iast dX11_town_302 (ly_is hy 38 13 rfl) (ly_n hy 38 35 rfl) (by omega) (by omega) (fun I11296 eI11296 => ?_)
                        have hI11296 : MW g n L10892 I11296 := by rw [eI11296]; exact (mw_w hy hI11226 (c := 38) (mi_rr hy hI11226.1 (c := 38) (28) (31) (0) (0) (0) (by decide) (Or.inl (by decide)) (by rw [cl (n := v11294.toInt.toNat) (by omega)]; omega) (by decide) (fun h => absurd h (by decide))) (by decide) (by decide) (Or.inl (by decide)))
                        have e11297 : I11296 (ad g 0) 10 = w11229 := by rw [eI11296, pp_ne _ _ (Or.inl (ly_ne hy (by decide) (by decide) (by decide)))]; exact ew11229
                        have e11298 : I11296 (ad g 0) 13 = w11230 := by rw [eI11296, pp_ne _ _ (Or.inl (ly_ne hy (by decide) (by decide) (by decide)))]; exact ew11230
                        have e11299 : I11296 (ad g 0) 15 = w11231 := by rw [eI11296, pp_ne _ _ (Or.inl (ly_ne hy (by decide) (by decide) (by decide)))]; exact ew11231
                        have e11300 : I11296 (ad g 0) 1 = L10892 := by rw [eI11296, pp_ne _ _ (Or.inl (ly_ne hy (by decide) (by decide) (by decide)))]; exact e11233
                        have fr11301 : fs g [1, 2, 3, 4, 5, 6, 7, 8, 9, 10, 11, 12, 13, 14, 15, 16, 17, 18, 19, 51, 68] I I11296 := by rw [eI11296]; exact fs_ppn hy fqI11226 (by decide) (by decide)
                        have fr11302 : fz 49 g [0, 6, 7, 8, 9, 10, 11, 12, 13, 14, 15, 16, 17, 18, 19, 20, 21, 22, 23, 24, 25, 26, 27, 28, 29, 30, 31, 32, 33, 34, 37, 38, 44, 46, 47] I I11296 := by rw [eI11296]; exact fzm_pp hy fiI11226 (by decide) (by decide)
                        have P8I11296 : ∀ q : Nat, q < 4 → I11296 (ad g 8) q = I11296 (ad g 14) q := fun q hq => by rw [show I11296 (ad g 8) = I11226 (ad g 8) by rw [eI11296, pp_off _ _ (ly_ne hy (by decide) (by decide) (by decide))], show I11296 (ad g 14) = I11226 (ad g 14) by rw [eI11296, pp_off _ _ (ly_ne hy (by decide) (by decide) (by decide))]]; exact PP8_I11226_11227 q hq
                        have P24I11296 : ∀ q : Nat, q < 28 → I11296 (ad g 24) q = I11296 (ad g 30) q := fun q hq => by rw [show I11296 (ad g 24) = I11226 (ad g 24) by rw [eI11296, pp_off _ _ (ly_ne hy (by decide) (by decide) (by decide))], show I11296 (ad g 30) = I11226 (ad g 30) by rw [eI11296, pp_off _ _ (ly_ne hy (by decide) (by decide) (by decide))]]; exact PP24_I11226_11227 q hq
                        have P25I11296 : ∀ q : Nat, q < 28 → I11296 (ad g 25) q = I11296 (ad g 31) q := fun q hq => by rw [show I11296 (ad g 25) = I11226 (ad g 25) by rw [eI11296, pp_off _ _ (ly_ne hy (by decide) (by decide) (by decide))], show I11296 (ad g 31) = I11226 (ad g 31) by rw [eI11296, pp_off _ _ (ly_ne hy (by decide) (by decide) (by decide))]]; exact PP25_I11226_11227 q hq
                        have WI11296 := PW_I11226_11227
                        rw [← (show I11296 (ad g 30) = I11226 (ad g 30) by rw [eI11296, pp_off _ _ (ly_ne hy (by decide) (by decide) (by decide))]), ← (show I11296 (ad g 31) = I11226 (ad g 31) by rw [eI11296, pp_off _ _ (ly_ne hy (by decide) (by decide) (by decide))])] at WI11296
                        clear eI11296
                        refine WP_aload_n dX11_town_303 rfl ?_
                        refine WP_getr dX11_town_304 fX11_310 rfl (ly_is hy 0 11 rfl) (rf hr 0 71 46 (by decide)) ?_
                        refine WP_iload_n dX11_town_307 rfl ?_
                        refine WQ_iconst (0) (0) dX11_town_308 rfl rfl (fun v11303 hv11303 => ?_)
                        refine WQ_iast dX11_town_309 (ly_is hy 46 13 rfl) (ly_n hy 46 4 rfl) (by omega) (by omega) (fun I11304 eI11304 => ?_)
                        have hI11304 : MW g n L10892 I11304 := by rw [eI11304]; exact (mw_w hy hI11296 (c := 46) (mi_r0 hy hI11296.1 (c := 46) (by decide) (Or.inl (by decide)) (by decide)) (by decide) (by decide) (Or.inl (by decide)))
                        have e11305 : I11304 (ad g 0) 10 = w11229 := by rw [eI11304, pp_ne _ _ (Or.inl (ly_ne hy (by decide) (by decide) (by decide)))]; exact e11297
                        have e11306 : I11304 (ad g 0) 13 = w11230 := by rw [eI11304, pp_ne _ _ (Or.inl (ly_ne hy (by decide) (by decide) (by decide)))]; exact e11298
                        have e11307 : I11304 (ad g 0) 15 = w11231 := by rw [eI11304, pp_ne _ _ (Or.inl (ly_ne hy (by decide) (by decide) (by decide)))]; exact e11299
                        have e11308 : I11304 (ad g 0) 1 = L10892 := by rw [eI11304, pp_ne _ _ (Or.inl (ly_ne hy (by decide) (by decide) (by decide)))]; exact e11300
                        have fr11309 : fs g [1, 2, 3, 4, 5, 6, 7, 8, 9, 10, 11, 12, 13, 14, 15, 16, 17, 18, 19, 51, 68] I I11304 := by rw [eI11304]; exact fs_ppn hy fr11301 (by decide) (by decide)
                        have fr11310 : fz 49 g [0, 6, 7, 8, 9, 10, 11, 12, 13, 14, 15, 16, 17, 18, 19, 20, 21, 22, 23, 24, 25, 26, 27, 28, 29, 30, 31, 32, 33, 34, 37, 38, 44, 46, 47] I I11304 := by rw [eI11304]; exact fzm_pp hy fr11302 (by decide) (by decide)
                        have P8I11304 : ∀ q : Nat, q < 4 → I11304 (ad g 8) q = I11304 (ad g 14) q := fun q hq => by rw [show I11304 (ad g 8) = I11296 (ad g 8) by rw [eI11304, pp_off _ _ (ly_ne hy (by decide) (by decide) (by decide))], show I11304 (ad g 14) = I11296 (ad g 14) by rw [eI11304, pp_off _ _ (ly_ne hy (by decide) (by decide) (by decide))]]; exact P8I11296 q hq
                        have P24I11304 : ∀ q : Nat, q < 28 → I11304 (ad g 24) q = I11304 (ad g 30) q := fun q hq => by rw [show I11304 (ad g 24) = I11296 (ad g 24) by rw [eI11304, pp_off _ _ (ly_ne hy (by decide) (by decide) (by decide))], show I11304 (ad g 30) = I11296 (ad g 30) by rw [eI11304, pp_off _ _ (ly_ne hy (by decide) (by decide) (by decide))]]; exact P24I11296 q hq
                        have P25I11304 : ∀ q : Nat, q < 28 → I11304 (ad g 25) q = I11304 (ad g 31) q := fun q hq => by rw [show I11304 (ad g 25) = I11296 (ad g 25) by rw [eI11304, pp_off _ _ (ly_ne hy (by decide) (by decide) (by decide))], show I11304 (ad g 31) = I11296 (ad g 31) by rw [eI11304, pp_off _ _ (ly_ne hy (by decide) (by decide) (by decide))]]; exact P25I11296 q hq
                        have WI11304 := WI11296
                        rw [← (show I11304 (ad g 30) = I11296 (ad g 30) by rw [eI11304, pp_off _ _ (ly_ne hy (by decide) (by decide) (by decide))]), ← (show I11304 (ad g 31) = I11296 (ad g 31) by rw [eI11304, pp_off _ _ (ly_ne hy (by decide) (by decide) (by decide))])] at WI11304
                        clear eI11304
                        refine WP_aload_n dX11_town_310 rfl ?_
                        refine WP_getr dX11_town_311 fX11_313 rfl (ly_is hy 0 11 rfl) (rf hr 0 72 47 (by decide)) ?_
                        refine WP_iload_n dX11_town_314 rfl ?_
                        refine WQ_iconst (0) (0) dX11_town_315 rfl rfl (fun v11311 hv11311 => ?_)
                        refine WQ_iast dX11_town_316 (ly_is hy 47 13 rfl) (ly_n hy 47 4 rfl) (by omega) (by omega) (fun I11312 eI11312 => ?_)
                        have hI11312 : MW g n L10892 I11312 := by rw [eI11312]; exact (mw_w hy hI11304 (c := 47) (mi_r0 hy hI11304.1 (c := 47) (by decide) (Or.inl (by decide)) (by decide)) (by decide) (by decide) (Or.inl (by decide)))
                        have e11313 : I11312 (ad g 0) 10 = w11229 := by rw [eI11312, pp_ne _ _ (Or.inl (ly_ne hy (by decide) (by decide) (by decide)))]; exact e11305
                        have e11314 : I11312 (ad g 0) 13 = w11230 := by rw [eI11312, pp_ne _ _ (Or.inl (ly_ne hy (by decide) (by decide) (by decide)))]; exact e11306
                        have e11315 : I11312 (ad g 0) 15 = w11231 := by rw [eI11312, pp_ne _ _ (Or.inl (ly_ne hy (by decide) (by decide) (by decide)))]; exact e11307
                        have e11316 : I11312 (ad g 0) 1 = L10892 := by rw [eI11312, pp_ne _ _ (Or.inl (ly_ne hy (by decide) (by decide) (by decide)))]; exact e11308
                        have fr11317 : fs g [1, 2, 3, 4, 5, 6, 7, 8, 9, 10, 11, 12, 13, 14, 15, 16, 17, 18, 19, 51, 68] I I11312 := by rw [eI11312]; exact fs_ppn hy fr11309 (by decide) (by decide)
                        have fr11318 : fz 49 g [0, 6, 7, 8, 9, 10, 11, 12, 13, 14, 15, 16, 17, 18, 19, 20, 21, 22, 23, 24, 25, 26, 27, 28, 29, 30, 31, 32, 33, 34, 37, 38, 44, 46, 47] I I11312 := by rw [eI11312]; exact fzm_pp hy fr11310 (by decide) (by decide)
                        have P8I11312 : ∀ q : Nat, q < 4 → I11312 (ad g 8) q = I11312 (ad g 14) q := fun q hq => by rw [show I11312 (ad g 8) = I11304 (ad g 8) by rw [eI11312, pp_off _ _ (ly_ne hy (by decide) (by decide) (by decide))], show I11312 (ad g 14) = I11304 (ad g 14) by rw [eI11312, pp_off _ _ (ly_ne hy (by decide) (by decide) (by decide))]]; exact P8I11304 q hq
                        have P24I11312 : ∀ q : Nat, q < 28 → I11312 (ad g 24) q = I11312 (ad g 30) q := fun q hq => by rw [show I11312 (ad g 24) = I11304 (ad g 24) by rw [eI11312, pp_off _ _ (ly_ne hy (by decide) (by decide) (by decide))], show I11312 (ad g 30) = I11304 (ad g 30) by rw [eI11312, pp_off _ _ (ly_ne hy (by decide) (by decide) (by decide))]]; exact P24I11304 q hq
                        have P25I11312 : ∀ q : Nat, q < 28 → I11312 (ad g 25) q = I11312 (ad g 31) q := fun q hq => by rw [show I11312 (ad g 25) = I11304 (ad g 25) by rw [eI11312, pp_off _ _ (ly_ne hy (by decide) (by decide) (by decide))], show I11312 (ad g 31) = I11304 (ad g 31) by rw [eI11312, pp_off _ _ (ly_ne hy (by decide) (by decide) (by decide))]]; exact P25I11304 q hq
                        have WI11312 := WI11304
                        rw [← (show I11312 (ad g 30) = I11304 (ad g 30) by rw [eI11312, pp_off _ _ (ly_ne hy (by decide) (by decide) (by decide))]), ← (show I11312 (ad g 31) = I11304 (ad g 31) by rw [eI11312, pp_off _ _ (ly_ne hy (by decide) (by decide) (by decide))])] at WI11312
                        clear eI11312
                        refine WP_iinc (ls' := [(0, _), (1, _)]) dX11_town_317 rfl (by decide) rfl ?_
                        have hv11319 : (i11225 + Int32.ofInt (1)).toInt = i11225.toInt + (1) := ia_n rfl (by omega) (by omega)
                        generalize i11225 + Int32.ofInt (1) = v11319 at hv11319 ⊢
                        refine WP_goto 288 dX11_town_320 rfl ?_
                        exact WP_sub (fc rfl (fc rfl fn)) (ihlp288_11231 v11319 I11312 J11227 hI11312 fr11318 fjJ11227 fr11317 w11229 e11313 w11230 e11314 w11231 e11315 (by omega) (by omega) (by omega) (by omega) P8I11312 P24I11312 P25I11312 WI11312 (by omega))
                  exact WP_sub (fc rfl (fc rfl fn)) (lp288_11231 _ v11224 I11207 J11208 hI11207 fr11209 fr11211 fr11210 w10911 e11214 w10912 e11217 w10911 e11212 (by omega) (by omega) (by omega) (by omega) P8I11207 P24I11207 P25I11207 WI11207 (Nat.lt_succ_self _))
                · refine WP_aload_n dX11_town_114 rfl ?_
                  refine WP_getr dX11_town_115 fX11_230 rfl (ly_is hy 0 11 rfl) (rf hr 0 21 3 (by decide)) ?_
                  refine WP_iload_n dX11_town_118 rfl ?_
                  refine WP_aload_n dX11_town_119 rfl ?_
                  refine WP_getr dX11_town_120 fX11_129 rfl (ly_is hy 0 11 rfl) (rf hr 0 23 5 (by decide)) ?_
                  refine WP_iload_n dX11_town_123 rfl ?_
                  refine WQ_laldu dX11_town_124 (ly_is hy 5 14 rfl) (ly_n hy 5 3 rfl) (by omega) (by omega) (fun l11320 => ?_)
                  refine WQ_last dX11_town_125 (ly_is hy 3 14 rfl) (ly_n hy 3 3 rfl) (by omega) (by omega) (fun J11321 eJ11321 => ?_)
                  have fr11322 : fz 49 g [0, 2, 3, 4, 5] J J11321 := by rw [eJ11321]; exact fzm_pp hy fjJ10982 (by decide) (by decide)
                  clear eJ11321
                  refine WP_iinc (ls' := [(0, _), (1, _)]) dX11_town_126 rfl (by decide) rfl ?_
                  have hv11323 : (i10981 + Int32.ofInt (1)).toInt = i10981.toInt + (1) := ia_n rfl (by omega) (by omega)
                  generalize i10981 + Int32.ofInt (1) = v11323 at hv11323 ⊢
                  refine WP_goto 106 dX11_town_129 rfl ?_
                  exact WP_sub (fc rfl (fc rfl fn)) (ihlp106_10983 v11323 J11321 fr11322 (by omega) (by omega) (by omega))
            exact WP_sub (fc rfl (fc rfl fn)) (lp106_10983 _ v10980 J10976 fjJ10976 (by omega) (by omega) (Nat.lt_succ_self _))
          · refine WP_aload_n dX11_town_86 rfl ?_
            refine WP_getr dX11_town_87 fX11_227 rfl (ly_is hy 0 11 rfl) (rf hr 0 20 2 (by decide)) ?_
            refine WP_iload_n dX11_town_90 rfl ?_
            refine WP_aload_n dX11_town_91 rfl ?_
            refine WP_getr dX11_town_92 fX11_91 rfl (ly_is hy 0 11 rfl) (rf hr 0 22 4 (by decide)) ?_
            refine WP_iload_n dX11_town_95 rfl ?_
            refine WQ_laldu dX11_town_96 (ly_is hy 4 14 rfl) (ly_n hy 4 4 rfl) (by omega) (by omega) (fun l11324 => ?_)
            refine WQ_last dX11_town_97 (ly_is hy 2 14 rfl) (ly_n hy 2 4 rfl) (by omega) (by omega) (fun J11325 eJ11325 => ?_)
            have fr11326 : fz 49 g [0, 2, 3, 4, 5] J J11325 := by rw [eJ11325]; exact fzm_pp hy fjJ10976 (by decide) (by decide)
            clear eJ11325
            refine WP_iinc (ls' := [(0, _), (1, _)]) dX11_town_98 rfl (by decide) rfl ?_
            have hv11327 : (i10975 + Int32.ofInt (1)).toInt = i10975.toInt + (1) := ia_n rfl (by omega) (by omega)
            generalize i10975 + Int32.ofInt (1) = v11327 at hv11327 ⊢
            refine WP_goto 78 dX11_town_101 rfl ?_
            exact WP_sub (fc rfl (fc rfl fn)) (ihlp78_10977 v11327 J11325 fr11326 (by omega) (by omega) (by omega))
      exact WP_sub (fc rfl (fc rfl fn)) (lp78_10977 _ v10974 J10903 fr10907 (by omega) (by omega) (Nat.lt_succ_self _))
    refine WQ_icmp_eq 53 dX11_town_43 rfl (fun c11327 => ?_) (fun c11327 => ?_)
    · refine WP_aload_n dX11_town_53 rfl ?_
      refine WQ_getim dX11_town_54 fX11_332 rfl (ly_is hy 0 11 rfl) e10936 ?_
      refine WQ_if_le 64 dX11_town_57 rfl (fun c11328 => ?_) (fun c11328 => ?_)
      · refine WQ_iconst (-1) (-1) dX11_town_64 rfl rfl (fun v11330 hv11330 => ?_)
        exact WP_sub (fc rfl fn) (jn65_10945 v11330 (by omega) (by omega))
      · refine WQ_iconst (0) (0) dX11_town_60 rfl rfl (fun v11331 hv11331 => ?_)
        refine WP_goto 65 dX11_town_61 rfl ?_
        exact WP_sub (fc rfl fn) (jn65_10945 v11331 (by omega) (by omega))
    · refine WP_aload_n dX11_town_46 rfl ?_
      refine WQ_getim dX11_town_47 fX11_161 rfl (ly_is hy 0 11 rfl) ev10940 ?_
      refine WP_goto 65 dX11_town_50 rfl ?_
      exact WP_sub (fc rfl fn) (jn65_10945 v10940 (by omega) (by omega))
  · refine WQ_iconst (-1) (-1) dX11_town_11 rfl rfl (fun v11332 hv11332 => ?_)
    exact WP_iret dX11_town_12 rfl ⟨⟨⟨_, hI10902, by omega⟩, rfl, fr10905, fr10907, fr10906⟩, _, rfl⟩
