set_option maxHeartbeats 4000000 in
set_option maxRecDepth 100000 in
theorem sm_byteAtx {g : GG} {n : Int} {L : Int32} (hy : Ly g)  {I : pI} {J : pJ} {R : pR} (hr : Rf g R) (hI : MP g n L I) (k : Int32) (k_lo : 0 ≤ k.toInt) (k_hi : k.toInt ≤ 901) : SP g mX11_byteAt [.ref (ad g 0), .int k] I J R (fun r I' J' R' => (I' = I ∧ J' = J ∧ R' = R) ∧ ∃ v : Int32, r = some (.int v) ∧ (((I (ad g 0) 2).toInt ≤ k.toInt → v.toInt = 0) ∧ v = BF g I k)) := by
  refine SP_of ⟨by decide, rfl⟩ (Nat.le_of_ble_eq_true rfl) ?_
  have e6922 : I (ad g 0) 1 = L := hI.1.2
  have b6923 := BT_get hI.1.1 0 1 2 (0) (0) (900) (by decide) 1 (by decide) (by decide)
  rw [e6922] at b6923
  refine WP_iload_n dX11_byteAt_0 rfl ?_
  refine WP_aload_n dX11_byteAt_1 rfl ?_
  refine WQ_geti dX11_byteAt_2 fX11_13 rfl (ly_is hy 0 11 rfl) (BT_get hI.1.1 0 2 3 (0) (0) (900) (by decide) 2 (by decide) (by decide)) (fun v6924 ev6924 av6924 bv6924 => ?_)
  refine WQ_icmp_ge 21 dX11_byteAt_5 rfl (fun c6924 => ?_) (fun c6924 => ?_)
  · refine WQ_iconst (0) (0) dX11_byteAt_21 rfl rfl (fun v6926 hv6926 => ?_)
    exact WP_iret dX11_byteAt_22 rfl ⟨⟨rfl, rfl, rfl⟩, _, rfl, ⟨fun _ => by omega, by unfold BF; rw [if_neg (by rw [ev6924]; omega)]; exact (eq32 _ _).mpr (by show _ = (0 : Int); omega)⟩⟩
  · refine WP_aload_n dX11_byteAt_8 rfl ?_
    refine WP_getr dX11_byteAt_9 fX11_16 rfl (ly_is hy 0 11 rfl) (rf hr 0 0 1 (by decide)) ?_
    refine WP_iload_n dX11_byteAt_12 rfl ?_
    refine WQ_baldx dX11_byteAt_13 (ly_is hy 1 12 rfl) (ly_n hy 1 900 rfl) (by omega) (by omega) (fun v6927 zv6927 => ?_)
    refine WQ_sipush (255) (255) dX11_byteAt_14 rfl rfl (fun v6928 hv6928 => ?_)
    refine WQ_iandx dX11_byteAt_17 (fun v6929 xv6929 => ?_)
    refine WP_goto 22 dX11_byteAt_18 rfl ?_
    exact WP_iret dX11_byteAt_22 rfl ⟨⟨rfl, rfl, rfl⟩, _, rfl, ⟨fun h => by rw [ev6924] at h; omega, by unfold BF; rw [if_pos (by rw [ev6924]; omega), xv6929, zv6927, (eq32 v6928 255).mpr hv6928]⟩⟩
set_option maxHeartbeats 4000000 in
set_option maxRecDepth 100000 in
theorem sm_scanx {g : GG} {n : Int} {L : Int32} (hy : Ly g)  {I : pI} {J : pJ} {R : pR} (hr : Rf g R) (hI : MP g n L I)   (hb : (I (ad g 0) 4).toInt ≤ (I (ad g 0) 2).toInt) : SP g mX11_scan [.ref (ad g 0)] I J R (fun r I' J' R' => (MP g n L I' ∧ R' = R ∧ fz 49 g [0] I I' ∧ fz 49 g [] J J' ∧ fs g [3, 4, 5, 6] I I' ∧ (((I' (ad g 0) 4).toInt ≤ (I' (ad g 0) 2).toInt ∧ (I' (ad g 0) 3).toInt ≤ (I' (ad g 0) 4).toInt ∧ ((I' (ad g 0) 5).toInt = 0 ∨ (I' (ad g 0) 3).toInt < (I' (ad g 0) 4).toInt)) ∧ (I (ad g 0) 4).toInt ≤ (I' (ad g 0) 3).toInt) ∧ I' (ad g 0) 7 = I (ad g 0) 7 ∧ I' (ad g 0) 15 = I (ad g 0) 15 ∧ I' (ad g 0) 16 = I (ad g 0) 16 ∧ I' (ad g 0) 17 = I (ad g 0) 17 ∧ I' (ad g 0) 18 = I (ad g 0) 18) ∧ r = none) := by
  refine SP_of ⟨by decide, rfl⟩ (Nat.le_of_ble_eq_true rfl) ?_
  have e6930 : I (ad g 0) 1 = L := hI.1.2
  have b6931 := BT_get hI.1.1 0 1 2 (0) (0) (900) (by decide) 1 (by decide) (by decide)
  rw [e6930] at b6931
  have fr0 : fz 49 g [0] I I := fz_rf
  have frj0 : fz 49 g [] J J := fz_rf
  have frq0 : fs g [3, 4, 5, 6] I I := fs_rf
  obtain ⟨w6932, ew6932⟩ : ∃ w : Int32, I (ad g 0) 7 = w := ⟨_, rfl⟩
  have bw6932 := BT_get hI.1.1 0 7 8 (-1) (0) (1000) (by decide) 7 (by decide) (by decide)
  rw [ew6932] at bw6932
  obtain ⟨w6933, ew6933⟩ : ∃ w : Int32, I (ad g 0) 15 = w := ⟨_, rfl⟩
  have bw6933 := BT_get hI.1.1 0 15 16 (0) (0) (4) (by decide) 15 (by decide) (by decide)
  rw [ew6933] at bw6933
  obtain ⟨w6934, ew6934⟩ : ∃ w : Int32, I (ad g 0) 16 = w := ⟨_, rfl⟩
  have bw6934 := BT_get hI.1.1 0 16 17 (0) (0) (3) (by decide) 16 (by decide) (by decide)
  rw [ew6934] at bw6934
  obtain ⟨w6935, ew6935⟩ : ∃ w : Int32, I (ad g 0) 17 = w := ⟨_, rfl⟩
  have bw6935 := BT_get hI.1.1 0 17 18 (-1) (0) (3) (by decide) 17 (by decide) (by decide)
  rw [ew6935] at bw6935
  obtain ⟨w6936, ew6936⟩ : ∃ w : Int32, I (ad g 0) 18 = w := ⟨_, rfl⟩
  have bw6936 := BT_get hI.1.1 0 18 19 (-1) (0) (2) (by decide) 18 (by decide) (by decide)
  rw [ew6936] at bw6936
  obtain ⟨w6937, ew6937⟩ : ∃ w : Int32, I (ad g 0) 4 = w := ⟨_, rfl⟩
  have bw6937 := BT_get hI.1.1 0 4 5 (0) (0) (900) (by decide) 4 (by decide) (by decide)
  rw [ew6937] at bw6937
  obtain ⟨w6938, ew6938⟩ : ∃ w : Int32, I (ad g 0) 2 = w := ⟨_, rfl⟩
  have bw6938 := BT_get hI.1.1 0 2 3 (0) (0) (900) (by decide) 2 (by decide) (by decide)
  rw [ew6938] at bw6938
  rw [ew6937, ew6938] at hb
  have lp0_6947 : ∀ (mz : Nat)  (I6939 : pI) (J6940 : pJ), MP g n L I6939 → fz 49 g [0] I I6939 → fz 49 g [] J J6940 → fs g [3, 4, 5, 6] I I6939 → ∀ (w6941 : Int32), I6939 (ad g 0) 2 = w6941 → ∀ (w6942 : Int32), I6939 (ad g 0) 4 = w6942 → ∀ (w6943 : Int32), I6939 (ad g 0) 7 = w6943 → ∀ (w6944 : Int32), I6939 (ad g 0) 15 = w6944 → ∀ (w6945 : Int32), I6939 (ad g 0) 16 = w6945 → ∀ (w6946 : Int32), I6939 (ad g 0) 17 = w6946 → ∀ (w6947 : Int32), I6939 (ad g 0) 18 = w6947 → w6942.toInt ≤ w6941.toInt → w6937.toInt ≤ w6942.toInt → w6943.toInt = w6932.toInt → w6944.toInt = w6933.toInt → w6945.toInt = w6934.toInt → w6946.toInt = w6935.toInt → w6947.toInt = w6936.toInt → (901 - w6942.toInt).toNat < mz → WP g mX11_scan 0 [(0, .ref (ad g 0))] [] I6939 J6940 R (fun r I' J' R' => (MP g n L I' ∧ R' = R ∧ fz 49 g [0] I I' ∧ fz 49 g [] J J' ∧ fs g [3, 4, 5, 6] I I' ∧ (((I' (ad g 0) 4).toInt ≤ (I' (ad g 0) 2).toInt ∧ (I' (ad g 0) 3).toInt ≤ (I' (ad g 0) 4).toInt ∧ ((I' (ad g 0) 5).toInt = 0 ∨ (I' (ad g 0) 3).toInt < (I' (ad g 0) 4).toInt)) ∧ (I (ad g 0) 4).toInt ≤ (I' (ad g 0) 3).toInt) ∧ I' (ad g 0) 7 = I (ad g 0) 7 ∧ I' (ad g 0) 15 = I (ad g 0) 15 ∧ I' (ad g 0) 16 = I (ad g 0) 16 ∧ I' (ad g 0) 17 = I (ad g 0) 17 ∧ I' (ad g 0) 18 = I (ad g 0) 18) ∧ r = none) := by
    intro mz
    induction mz with
    | zero =>
      intro  I6939 J6940 hI6939 fiI6939 fjJ6940 fqI6939 w6941 ew6941 w6942 ew6942 w6943 ew6943 w6944 ew6944 w6945 ew6945 w6946 ew6946 w6947 ew6947 j0_I6939 j1_I6939 j2_I6939 j3_I6939 j4_I6939 j5_I6939 j6_I6939 hmlp0_6947
      exact absurd hmlp0_6947 (Nat.not_lt_zero _)
    | succ mz ihlp0_6947 =>
      intro  I6939 J6940 hI6939 fiI6939 fjJ6940 fqI6939 w6941 ew6941 w6942 ew6942 w6943 ew6943 w6944 ew6944 w6945 ew6945 w6946 ew6946 w6947 ew6947 j0_I6939 j1_I6939 j2_I6939 j3_I6939 j4_I6939 j5_I6939 j6_I6939 hmlp0_6947
      have bw6941 := BT_get hI6939.1.1 0 2 3 (0) (0) (900) (by decide) 2 (by decide) (by decide)
      rw [ew6941] at bw6941
      have bw6942 := BT_get hI6939.1.1 0 4 5 (0) (0) (900) (by decide) 4 (by decide) (by decide)
      rw [ew6942] at bw6942
      have bw6943 := BT_get hI6939.1.1 0 7 8 (-1) (0) (1000) (by decide) 7 (by decide) (by decide)
      rw [ew6943] at bw6943
      have bw6944 := BT_get hI6939.1.1 0 15 16 (0) (0) (4) (by decide) 15 (by decide) (by decide)
      rw [ew6944] at bw6944
      have bw6945 := BT_get hI6939.1.1 0 16 17 (0) (0) (3) (by decide) 16 (by decide) (by decide)
      rw [ew6945] at bw6945
      have bw6946 := BT_get hI6939.1.1 0 17 18 (-1) (0) (3) (by decide) 17 (by decide) (by decide)
      rw [ew6946] at bw6946
      have bw6947 := BT_get hI6939.1.1 0 18 19 (-1) (0) (2) (by decide) 18 (by decide) (by decide)
      rw [ew6947] at bw6947
      have e6949 : I6939 (ad g 0) 1 = L := hI6939.1.2
      have b6950 := BT_get hI6939.1.1 0 1 2 (0) (0) (900) (by decide) 1 (by decide) (by decide)
      rw [e6949] at b6950
      refine WP_aload_n dX11_scan_0 rfl ?_
      refine WQ_getim dX11_scan_1 fX11_20 rfl (ly_is hy 0 11 rfl) ew6942 ?_
      refine WP_aload_n dX11_scan_4 rfl ?_
      refine WQ_getim dX11_scan_5 fX11_13 rfl (ly_is hy 0 11 rfl) ew6941 ?_
      refine WQ_icmp_ge 52 dX11_scan_8 rfl (fun c6950 => ?_) (fun c6950 => ?_)
      · refine WP_aload_n dX11_scan_52 rfl ?_
        refine WP_aload_n dX11_scan_53 rfl ?_
        refine WQ_getim dX11_scan_54 fX11_20 rfl (ly_is hy 0 11 rfl) ew6942 ?_
        refine WQ_puti dX11_scan_57 fX11_7 rfl rfl (ly_is hy 0 11 rfl) (fun I6952 eI6952 => ?_)
        have hI6952 : MP g n L I6952 := by rw [eI6952]; exact (mp_w hy hI6939 (c := 0) (mi_f hy hI6939.1 (c := 0) (0) (0) (900) (by decide) (Or.inr (by decide)) (by decide) (by omega) (by omega)) (by decide) (by decide) (Or.inr (by decide)))
        have e6953 : I6952 (ad g 0) 2 = w6941 := by rw [eI6952, pp_ne _ _ (Or.inr (by decide))]; exact ew6941
        have e6954 : I6952 (ad g 0) 4 = w6942 := by rw [eI6952, pp_ne _ _ (Or.inr (by decide))]; exact ew6942
        have e6955 : I6952 (ad g 0) 7 = w6943 := by rw [eI6952, pp_ne _ _ (Or.inr (by decide))]; exact ew6943
        have e6956 : I6952 (ad g 0) 15 = w6944 := by rw [eI6952, pp_ne _ _ (Or.inr (by decide))]; exact ew6944
        have e6957 : I6952 (ad g 0) 16 = w6945 := by rw [eI6952, pp_ne _ _ (Or.inr (by decide))]; exact ew6945
        have e6958 : I6952 (ad g 0) 17 = w6946 := by rw [eI6952, pp_ne _ _ (Or.inr (by decide))]; exact ew6946
        have e6959 : I6952 (ad g 0) 18 = w6947 := by rw [eI6952, pp_ne _ _ (Or.inr (by decide))]; exact ew6947
        have e6960 : I6952 (ad g 0) 1 = L := by rw [eI6952, pp_ne _ _ (Or.inr (by decide))]; exact e6949
        have e6961 : I6952 (ad g 0) 3 = w6942 := by rw [eI6952, pp_self]
        have fr6962 : fs g [3, 4, 5, 6] I I6952 := by rw [eI6952]; exact fs_pp0 fqI6939 (by decide)
        have fr6963 : fz 49 g [0] I I6952 := by rw [eI6952]; exact fzm_pp hy fiI6939 (by decide) (by decide)
        clear eI6952
        refine WP_aload_n dX11_scan_60 rfl ?_
        refine WP_aload_n dX11_scan_61 rfl ?_
        refine WQ_getim dX11_scan_62 fX11_7 rfl (ly_is hy 0 11 rfl) e6961 ?_
        refine WP_callV1 (k := 11) dX11_scan_65 ⟨⟨⟨by decide, by decide⟩, zX11_byteAt⟩, lX11_23, by decide, rfl, vX11_byteAt.1, vX11_byteAt.2⟩ (ly_is hy 0 11 rfl) (sm_byteAtx hy hr hI6952 w6942 (by omega) (by omega)) (Nat.le_of_ble_eq_true rfl) ?_
        intro r Ia Ja Ra hq
        obtain ⟨⟨ea, eb, ec⟩, v6964, rfl, cv6964⟩ := hq
        show WP _ _ _ _ (.int _ :: _) _ _ _ _
        rw [ea, eb, ec]
        clear ea eb ec Ia Ja Ra
        rw [e6953] at cv6964
        refine WP_istore_n (ls' := [(0, _), (1, _)]) dX11_scan_68 (by decide) rfl ?_
        refine WP_aload_n dX11_scan_69 rfl ?_
        refine WQ_getim dX11_scan_70 fX11_7 rfl (ly_is hy 0 11 rfl) e6961 ?_
        refine WP_aload_n dX11_scan_73 rfl ?_
        refine WQ_getim dX11_scan_74 fX11_13 rfl (ly_is hy 0 11 rfl) e6953 ?_
        refine WQ_icmp_ne 88 dX11_scan_77 rfl (fun c6964 => ?_) (fun c6964 => ?_)
        · refine WP_iload_n dX11_scan_88 rfl ?_
          refine WP_callS1 dX11_scan_89 ⟨⟨⟨by decide, by decide⟩, zX11_isSmall⟩, lX11_30, tX11_isSmall⟩ (sm_isSmall hy hr hI6952 v6964 ) (Nat.le_of_ble_eq_true rfl) ?_
          intro r Ia Ja Ra hq
          obtain ⟨⟨ea, eb, ec⟩, v6966, rfl, av6966, bv6966, cv6966⟩ := hq
          show WP _ _ _ _ (.int _ :: _) _ _ _ _
          rw [ea, eb, ec]
          clear ea eb ec Ia Ja Ra
          refine WQ_if_eq 148 dX11_scan_92 rfl (fun c6966 => ?_) (fun c6966 => ?_)
          · refine WP_iload_n dX11_scan_148 rfl ?_
            refine WP_callS1 dX11_scan_149 ⟨⟨⟨by decide, by decide⟩, zX11_isDigit⟩, lX11_34, tX11_isDigit⟩ (sm_isDigit hy hr hI6952 v6964 ) (Nat.le_of_ble_eq_true rfl) ?_
            intro r Ia Ja Ra hq
            obtain ⟨⟨ea, eb, ec⟩, v6968, rfl, av6968, bv6968, cv6968⟩ := hq
            show WP _ _ _ _ (.int _ :: _) _ _ _ _
            rw [ea, eb, ec]
            clear ea eb ec Ia Ja Ra
            refine WQ_if_eq 248 dX11_scan_152 rfl (fun c6968 => ?_) (fun c6968 => ?_)
            · refine WP_aload_n dX11_scan_248 rfl ?_
              refine WP_iload_n dX11_scan_249 rfl ?_
              refine WQ_bipush (59) (59) dX11_scan_250 rfl rfl (fun v6970 hv6970 => ?_)
              have jn260_6973 : ∀ (v6973 : Int32), 3 ≤ v6973.toInt → v6973.toInt ≤ 4 → WP g mX11_scan 260 [(0, .ref (ad g 0)), (1, .int v6964)] [.int v6973, .ref (ad g 0)] I6952 J6940 R (fun r I' J' R' => (MP g n L I' ∧ R' = R ∧ fz 49 g [0] I I' ∧ fz 49 g [] J J' ∧ fs g [3, 4, 5, 6] I I' ∧ (((I' (ad g 0) 4).toInt ≤ (I' (ad g 0) 2).toInt ∧ (I' (ad g 0) 3).toInt ≤ (I' (ad g 0) 4).toInt ∧ ((I' (ad g 0) 5).toInt = 0 ∨ (I' (ad g 0) 3).toInt < (I' (ad g 0) 4).toInt)) ∧ (I (ad g 0) 4).toInt ≤ (I' (ad g 0) 3).toInt) ∧ I' (ad g 0) 7 = I (ad g 0) 7 ∧ I' (ad g 0) 15 = I (ad g 0) 15 ∧ I' (ad g 0) 16 = I (ad g 0) 16 ∧ I' (ad g 0) 17 = I (ad g 0) 17 ∧ I' (ad g 0) 18 = I (ad g 0) 18) ∧ r = none) := by
                intro v6973 av6973 bv6973
                refine WQ_puti dX11_scan_260 fX11_27 rfl rfl (ly_is hy 0 11 rfl) (fun I6975 eI6975 => ?_)
                have hI6975 : MP g n L I6975 := by rw [eI6975]; exact (mp_w hy hI6952 (c := 0) (mi_f hy hI6952.1 (c := 0) (0) (0) (4) (by decide) (Or.inr (by decide)) (by decide) (by omega) (by omega)) (by decide) (by decide) (Or.inr (by decide)))
                have e6976 : I6975 (ad g 0) 2 = w6941 := by rw [eI6975, pp_ne _ _ (Or.inr (by decide))]; exact e6953
                have e6977 : I6975 (ad g 0) 4 = w6942 := by rw [eI6975, pp_ne _ _ (Or.inr (by decide))]; exact e6954
                have e6978 : I6975 (ad g 0) 7 = w6943 := by rw [eI6975, pp_ne _ _ (Or.inr (by decide))]; exact e6955
                have e6979 : I6975 (ad g 0) 15 = w6944 := by rw [eI6975, pp_ne _ _ (Or.inr (by decide))]; exact e6956
                have e6980 : I6975 (ad g 0) 16 = w6945 := by rw [eI6975, pp_ne _ _ (Or.inr (by decide))]; exact e6957
                have e6981 : I6975 (ad g 0) 17 = w6946 := by rw [eI6975, pp_ne _ _ (Or.inr (by decide))]; exact e6958
                have e6982 : I6975 (ad g 0) 18 = w6947 := by rw [eI6975, pp_ne _ _ (Or.inr (by decide))]; exact e6959
                have e6983 : I6975 (ad g 0) 1 = L := by rw [eI6975, pp_ne _ _ (Or.inr (by decide))]; exact e6960
                have e6984 : I6975 (ad g 0) 3 = w6942 := by rw [eI6975, pp_ne _ _ (Or.inr (by decide))]; exact e6961
                have e6985 : I6975 (ad g 0) 5 = v6973 := by rw [eI6975, pp_self]
                have fr6986 : fs g [3, 4, 5, 6] I I6975 := by rw [eI6975]; exact fs_pp0 fr6962 (by decide)
                have fr6987 : fz 49 g [0] I I6975 := by rw [eI6975]; exact fzm_pp hy fr6963 (by decide) (by decide)
                have BI6975 : v6964 = BF g I6975 w6942 := by rw [eI6975, BF_w hy (by decide)]; exact cv6964.2
                clear eI6975
                refine WP_aload_n dX11_scan_263 rfl ?_
                refine WP_dup dX11_scan_264 rfl ?_
                refine WQ_getim dX11_scan_265 fX11_20 rfl (ly_is hy 0 11 rfl) e6977 ?_
                refine WQ_iconst (1) (1) dX11_scan_268 rfl rfl (fun v6988 hv6988 => ?_)
                refine WQ_iadd dX11_scan_269 (by omega) (by omega) (fun v6989 hv6989 => ?_)
                refine WQ_puti dX11_scan_270 fX11_20 rfl rfl (ly_is hy 0 11 rfl) (fun I6990 eI6990 => ?_)
                have hI6990 : MP g n L I6990 := by rw [eI6990]; exact (mp_w hy hI6975 (c := 0) (mi_f hy hI6975.1 (c := 0) (0) (0) (900) (by decide) (Or.inr (by decide)) (by decide) (by omega) (by omega)) (by decide) (by decide) (Or.inr (by decide)))
                have e6991 : I6990 (ad g 0) 2 = w6941 := by rw [eI6990, pp_ne _ _ (Or.inr (by decide))]; exact e6976
                have e6992 : I6990 (ad g 0) 7 = w6943 := by rw [eI6990, pp_ne _ _ (Or.inr (by decide))]; exact e6978
                have e6993 : I6990 (ad g 0) 15 = w6944 := by rw [eI6990, pp_ne _ _ (Or.inr (by decide))]; exact e6979
                have e6994 : I6990 (ad g 0) 16 = w6945 := by rw [eI6990, pp_ne _ _ (Or.inr (by decide))]; exact e6980
                have e6995 : I6990 (ad g 0) 17 = w6946 := by rw [eI6990, pp_ne _ _ (Or.inr (by decide))]; exact e6981
                have e6996 : I6990 (ad g 0) 18 = w6947 := by rw [eI6990, pp_ne _ _ (Or.inr (by decide))]; exact e6982
                have e6997 : I6990 (ad g 0) 1 = L := by rw [eI6990, pp_ne _ _ (Or.inr (by decide))]; exact e6983
                have e6998 : I6990 (ad g 0) 3 = w6942 := by rw [eI6990, pp_ne _ _ (Or.inr (by decide))]; exact e6984
                have e6999 : I6990 (ad g 0) 5 = v6973 := by rw [eI6990, pp_ne _ _ (Or.inr (by decide))]; exact e6985
                have e7000 : I6990 (ad g 0) 4 = v6989 := by rw [eI6990, pp_self]
                have fr7001 : fs g [3, 4, 5, 6] I I6990 := by rw [eI6990]; exact fs_pp0 fr6986 (by decide)
                have fr7002 : fz 49 g [0] I I6990 := by rw [eI6990]; exact fzm_pp hy fr6987 (by decide) (by decide)
                have BI6990 : v6964 = BF g I6990 w6942 := by rw [eI6990, BF_w hy (by decide)]; exact BI6975
                clear eI6990
                exact WP_vret dX11_scan_273 rfl ⟨⟨hI6990, rfl, fr7002, fjJ6940, fr7001, ⟨(by rw [e6991, e6998, e7000, e6999, ew6937]; omega), (by rw [e6992, ew6932] <;> exact (eq32 _ _).mpr (by omega)), (by rw [e6993, ew6933] <;> exact (eq32 _ _).mpr (by omega)), (by rw [e6994, ew6934] <;> exact (eq32 _ _).mpr (by omega)), (by rw [e6995, ew6935] <;> exact (eq32 _ _).mpr (by omega)), (by rw [e6996, ew6936] <;> exact (eq32 _ _).mpr (by omega))⟩⟩, rfl⟩
              refine WQ_icmp_ne 259 dX11_scan_252 rfl (fun c7002 => ?_) (fun c7002 => ?_)
              · refine WQ_iconst (4) (4) dX11_scan_259 rfl rfl (fun v7004 hv7004 => ?_)
                exact WP_sub (fc rfl (fc rfl fn)) (jn260_6973 v7004 (by omega) (by omega))
              · refine WQ_iconst (3) (3) dX11_scan_255 rfl rfl (fun v7005 hv7005 => ?_)
                refine WP_goto 260 dX11_scan_256 rfl ?_
                exact WP_sub (fc rfl (fc rfl fn)) (jn260_6973 v7005 (by omega) (by omega))
            · refine WP_aload_n dX11_scan_155 rfl ?_
              refine WQ_iconst (0) (0) dX11_scan_156 rfl rfl (fun v7006 hv7006 => ?_)
              refine WQ_puti dX11_scan_157 fX11_37 rfl rfl (ly_is hy 0 11 rfl) (fun I7007 eI7007 => ?_)
              have hI7007 : MP g n L I7007 := by rw [eI7007]; exact (mp_w hy hI6952 (c := 0) (mi_f0 hy hI6952.1 (c := 0) (by decide) (Or.inr (by decide)) (by decide)) (by decide) (by decide) (Or.inr (by decide)))
              have e7008 : I7007 (ad g 0) 2 = w6941 := by rw [eI7007, pp_ne _ _ (Or.inr (by decide))]; exact e6953
              have e7009 : I7007 (ad g 0) 4 = w6942 := by rw [eI7007, pp_ne _ _ (Or.inr (by decide))]; exact e6954
              have e7010 : I7007 (ad g 0) 7 = w6943 := by rw [eI7007, pp_ne _ _ (Or.inr (by decide))]; exact e6955
              have e7011 : I7007 (ad g 0) 15 = w6944 := by rw [eI7007, pp_ne _ _ (Or.inr (by decide))]; exact e6956
              have e7012 : I7007 (ad g 0) 16 = w6945 := by rw [eI7007, pp_ne _ _ (Or.inr (by decide))]; exact e6957
              have e7013 : I7007 (ad g 0) 17 = w6946 := by rw [eI7007, pp_ne _ _ (Or.inr (by decide))]; exact e6958
              have e7014 : I7007 (ad g 0) 18 = w6947 := by rw [eI7007, pp_ne _ _ (Or.inr (by decide))]; exact e6959
              have e7015 : I7007 (ad g 0) 1 = L := by rw [eI7007, pp_ne _ _ (Or.inr (by decide))]; exact e6960
              have e7016 : I7007 (ad g 0) 3 = w6942 := by rw [eI7007, pp_ne _ _ (Or.inr (by decide))]; exact e6961
              have e7017 : I7007 (ad g 0) 6 = v7006 := by rw [eI7007, pp_self]
              have fr7018 : fs g [3, 4, 5, 6] I I7007 := by rw [eI7007]; exact fs_pp0 fr6962 (by decide)
              have fr7019 : fz 49 g [0] I I7007 := by rw [eI7007]; exact fzm_pp hy fr6963 (by decide) (by decide)
              have BI7007 : v6964 = BF g I7007 w6942 := by rw [eI7007, BF_w hy (by decide)]; exact cv6964.2
              clear eI7007
              refine WP_aload_n dX11_scan_160 rfl ?_
              refine WP_aload_n dX11_scan_161 rfl ?_
              refine WQ_getim dX11_scan_162 fX11_20 rfl (ly_is hy 0 11 rfl) e7009 ?_
              refine WP_callV1 (k := 11) dX11_scan_165 ⟨⟨⟨by decide, by decide⟩, zX11_byteAt⟩, lX11_23, by decide, rfl, vX11_byteAt.1, vX11_byteAt.2⟩ (ly_is hy 0 11 rfl) (sm_byteAtx hy hr hI7007 w6942 (by omega) (by omega)) (Nat.le_of_ble_eq_true rfl) ?_
              intro r Ia Ja Ra hq
              obtain ⟨⟨ea, eb, ec⟩, v7020, rfl, cv7020⟩ := hq
              show WP _ _ _ _ (.int _ :: _) _ _ _ _
              rw [ea, eb, ec]
              clear ea eb ec Ia Ja Ra
              rw [e7008] at cv7020
              have ttv7020 : v7020.toInt = v6964.toInt := by rw [cv7020.2, ← BI7007]
              refine WP_callS1 dX11_scan_168 ⟨⟨⟨by decide, by decide⟩, zX11_isDigit⟩, lX11_34, tX11_isDigit⟩ (sm_isDigit hy hr hI7007 v7020 ) (Nat.le_of_ble_eq_true rfl) ?_
              intro r Ia Ja Ra hq
              obtain ⟨⟨ea, eb, ec⟩, v7021, rfl, av7021, bv7021, cv7021⟩ := hq
              show WP _ _ _ _ (.int _ :: _) _ _ _ _
              rw [ea, eb, ec]
              clear ea eb ec Ia Ja Ra
              refine WQ_if_eq 223 dX11_scan_171 rfl (fun c7021 => ?_) (fun c7021 => ?_)
              · refine WP_aload_n dX11_scan_223 rfl ?_
                refine WP_aload_n dX11_scan_224 rfl ?_
                refine WQ_getim dX11_scan_225 fX11_20 rfl (ly_is hy 0 11 rfl) e7009 ?_
                refine WP_aload_n dX11_scan_228 rfl ?_
                refine WQ_getim dX11_scan_229 fX11_7 rfl (ly_is hy 0 11 rfl) e7016 ?_
                refine WQ_isub dX11_scan_232 (by omega) (by omega) (fun v7023 hv7023 => ?_)
                refine WQ_iconst (4) (4) dX11_scan_233 rfl rfl (fun v7024 hv7024 => ?_)
                have jn242_7027 : ∀ (v7027 : Int32), 2 ≤ v7027.toInt → v7027.toInt ≤ 4 → WP g mX11_scan 242 [(0, .ref (ad g 0)), (1, .int v6964)] [.int v7027, .ref (ad g 0)] I7007 J6940 R (fun r I' J' R' => (MP g n L I' ∧ R' = R ∧ fz 49 g [0] I I' ∧ fz 49 g [] J J' ∧ fs g [3, 4, 5, 6] I I' ∧ (((I' (ad g 0) 4).toInt ≤ (I' (ad g 0) 2).toInt ∧ (I' (ad g 0) 3).toInt ≤ (I' (ad g 0) 4).toInt ∧ ((I' (ad g 0) 5).toInt = 0 ∨ (I' (ad g 0) 3).toInt < (I' (ad g 0) 4).toInt)) ∧ (I (ad g 0) 4).toInt ≤ (I' (ad g 0) 3).toInt) ∧ I' (ad g 0) 7 = I (ad g 0) 7 ∧ I' (ad g 0) 15 = I (ad g 0) 15 ∧ I' (ad g 0) 16 = I (ad g 0) 16 ∧ I' (ad g 0) 17 = I (ad g 0) 17 ∧ I' (ad g 0) 18 = I (ad g 0) 18) ∧ r = none) := by
                  intro v7027 av7027 bv7027
                  refine WQ_puti dX11_scan_242 fX11_27 rfl rfl (ly_is hy 0 11 rfl) (fun I7029 eI7029 => ?_)
                  have hI7029 : MP g n L I7029 := by rw [eI7029]; exact (mp_w hy hI7007 (c := 0) (mi_f hy hI7007.1 (c := 0) (0) (0) (4) (by decide) (Or.inr (by decide)) (by decide) (by omega) (by omega)) (by decide) (by decide) (Or.inr (by decide)))
                  have e7030 : I7029 (ad g 0) 2 = w6941 := by rw [eI7029, pp_ne _ _ (Or.inr (by decide))]; exact e7008
                  have e7031 : I7029 (ad g 0) 4 = w6942 := by rw [eI7029, pp_ne _ _ (Or.inr (by decide))]; exact e7009
                  have e7032 : I7029 (ad g 0) 7 = w6943 := by rw [eI7029, pp_ne _ _ (Or.inr (by decide))]; exact e7010
                  have e7033 : I7029 (ad g 0) 15 = w6944 := by rw [eI7029, pp_ne _ _ (Or.inr (by decide))]; exact e7011
                  have e7034 : I7029 (ad g 0) 16 = w6945 := by rw [eI7029, pp_ne _ _ (Or.inr (by decide))]; exact e7012
                  have e7035 : I7029 (ad g 0) 17 = w6946 := by rw [eI7029, pp_ne _ _ (Or.inr (by decide))]; exact e7013
                  have e7036 : I7029 (ad g 0) 18 = w6947 := by rw [eI7029, pp_ne _ _ (Or.inr (by decide))]; exact e7014
                  have e7037 : I7029 (ad g 0) 1 = L := by rw [eI7029, pp_ne _ _ (Or.inr (by decide))]; exact e7015
                  have e7038 : I7029 (ad g 0) 3 = w6942 := by rw [eI7029, pp_ne _ _ (Or.inr (by decide))]; exact e7016
                  have e7039 : I7029 (ad g 0) 6 = v7006 := by rw [eI7029, pp_ne _ _ (Or.inr (by decide))]; exact e7017
                  have e7040 : I7029 (ad g 0) 5 = v7027 := by rw [eI7029, pp_self]
                  have fr7041 : fs g [3, 4, 5, 6] I I7029 := by rw [eI7029]; exact fs_pp0 fr7018 (by decide)
                  have fr7042 : fz 49 g [0] I I7029 := by rw [eI7029]; exact fzm_pp hy fr7019 (by decide) (by decide)
                  have BI7029 : v6964 = BF g I7029 w6942 := by rw [eI7029, BF_w hy (by decide)]; exact BI7007
                  clear eI7029
                  refine WP_goto 273 dX11_scan_245 rfl ?_
                  exact WP_vret dX11_scan_273 rfl ⟨⟨hI7029, rfl, fr7042, fjJ6940, fr7041, ⟨(by rw [e7030, e7038, e7031, e7040, ew6937]; omega), (by rw [e7032, ew6932] <;> exact (eq32 _ _).mpr (by omega)), (by rw [e7033, ew6933] <;> exact (eq32 _ _).mpr (by omega)), (by rw [e7034, ew6934] <;> exact (eq32 _ _).mpr (by omega)), (by rw [e7035, ew6935] <;> exact (eq32 _ _).mpr (by omega)), (by rw [e7036, ew6936] <;> exact (eq32 _ _).mpr (by omega))⟩⟩, rfl⟩
                refine WQ_icmp_le 241 dX11_scan_234 rfl (fun c7042 => ?_) (fun c7042 => ?_)
                · refine WQ_iconst (2) (2) dX11_scan_241 rfl rfl (fun v7044 hv7044 => ?_)
                  exact WP_sub (fc rfl (fc rfl fn)) (jn242_7027 v7044 (by omega) (by omega))
                · refine WQ_iconst (4) (4) dX11_scan_237 rfl rfl (fun v7045 hv7045 => ?_)
                  refine WP_goto 242 dX11_scan_238 rfl ?_
                  exact WP_sub (fc rfl (fc rfl fn)) (jn242_7027 v7045 (by omega) (by omega))
              · refine WP_aload_n dX11_scan_174 rfl ?_
                refine WQ_getim dX11_scan_175 fX11_20 rfl (ly_is hy 0 11 rfl) e7009 ?_
                refine WP_aload_n dX11_scan_178 rfl ?_
                refine WQ_getim dX11_scan_179 fX11_7 rfl (ly_is hy 0 11 rfl) e7016 ?_
                refine WQ_isub dX11_scan_182 (by omega) (by omega) (fun v7046 hv7046 => ?_)
                refine WQ_iconst (4) (4) dX11_scan_183 rfl rfl (fun v7047 hv7047 => ?_)
                refine WQ_icmp_ge 210 dX11_scan_184 rfl (fun c7047 => ?_) (fun c7047 => ?_)
                · refine WP_aload_n dX11_scan_210 rfl ?_
                  refine WP_dup dX11_scan_211 rfl ?_
                  refine WQ_getim dX11_scan_212 fX11_20 rfl (ly_is hy 0 11 rfl) e7009 ?_
                  refine WQ_iconst (1) (1) dX11_scan_215 rfl rfl (fun v7049 hv7049 => ?_)
                  refine WQ_iadd dX11_scan_216 (by omega) (by omega) (fun v7050 hv7050 => ?_)
                  refine WQ_puti dX11_scan_217 fX11_20 rfl rfl (ly_is hy 0 11 rfl) (fun I7051 eI7051 => ?_)
                  have hI7051 : MP g n L I7051 := by rw [eI7051]; exact (mp_w hy hI7007 (c := 0) (mi_f hy hI7007.1 (c := 0) (0) (0) (900) (by decide) (Or.inr (by decide)) (by decide) (by omega) (by omega)) (by decide) (by decide) (Or.inr (by decide)))
                  have e7052 : I7051 (ad g 0) 2 = w6941 := by rw [eI7051, pp_ne _ _ (Or.inr (by decide))]; exact e7008
                  have e7053 : I7051 (ad g 0) 7 = w6943 := by rw [eI7051, pp_ne _ _ (Or.inr (by decide))]; exact e7010
                  have e7054 : I7051 (ad g 0) 15 = w6944 := by rw [eI7051, pp_ne _ _ (Or.inr (by decide))]; exact e7011
                  have e7055 : I7051 (ad g 0) 16 = w6945 := by rw [eI7051, pp_ne _ _ (Or.inr (by decide))]; exact e7012
                  have e7056 : I7051 (ad g 0) 17 = w6946 := by rw [eI7051, pp_ne _ _ (Or.inr (by decide))]; exact e7013
                  have e7057 : I7051 (ad g 0) 18 = w6947 := by rw [eI7051, pp_ne _ _ (Or.inr (by decide))]; exact e7014
                  have e7058 : I7051 (ad g 0) 1 = L := by rw [eI7051, pp_ne _ _ (Or.inr (by decide))]; exact e7015
                  have e7059 : I7051 (ad g 0) 3 = w6942 := by rw [eI7051, pp_ne _ _ (Or.inr (by decide))]; exact e7016
                  have e7060 : I7051 (ad g 0) 6 = v7006 := by rw [eI7051, pp_ne _ _ (Or.inr (by decide))]; exact e7017
                  have e7061 : I7051 (ad g 0) 4 = v7050 := by rw [eI7051, pp_self]
                  have fr7062 : fs g [3, 4, 5, 6] I I7051 := by rw [eI7051]; exact fs_pp0 fr7018 (by decide)
                  have fr7063 : fz 49 g [0] I I7051 := by rw [eI7051]; exact fzm_pp hy fr7019 (by decide) (by decide)
                  have BI7051 : v6964 = BF g I7051 w6942 := by rw [eI7051, BF_w hy (by decide)]; exact BI7007
                  clear eI7051
                  refine WP_goto 160 dX11_scan_220 rfl ?_
                  have lp160_7073 : ∀ (mz : Nat)  (I7064 : pI) (J7065 : pJ), MP g n L I7064 → fz 49 g [0] I I7064 → fz 49 g [] J J7065 → fs g [3, 4, 5, 6] I I7064 → ∀ (w7066 : Int32), I7064 (ad g 0) 2 = w7066 → ∀ (w7067 : Int32), I7064 (ad g 0) 3 = w7067 → ∀ (w7068 : Int32), I7064 (ad g 0) 4 = w7068 → ∀ (w7069 : Int32), I7064 (ad g 0) 7 = w7069 → ∀ (w7070 : Int32), I7064 (ad g 0) 15 = w7070 → ∀ (w7071 : Int32), I7064 (ad g 0) 16 = w7071 → ∀ (w7072 : Int32), I7064 (ad g 0) 17 = w7072 → ∀ (w7073 : Int32), I7064 (ad g 0) 18 = w7073 → w7068.toInt ≤ w7066.toInt → w7067.toInt < w7068.toInt → w6937.toInt ≤ w7067.toInt → w7069.toInt = w6932.toInt → w7070.toInt = w6933.toInt → w7071.toInt = w6934.toInt → w7072.toInt = w6935.toInt → w7073.toInt = w6936.toInt → (901 - w7068.toInt).toNat < mz → WP g mX11_scan 160 [(0, .ref (ad g 0)), (1, .int v6964)] [] I7064 J7065 R (fun r I' J' R' => (MP g n L I' ∧ R' = R ∧ fz 49 g [0] I I' ∧ fz 49 g [] J J' ∧ fs g [3, 4, 5, 6] I I' ∧ (((I' (ad g 0) 4).toInt ≤ (I' (ad g 0) 2).toInt ∧ (I' (ad g 0) 3).toInt ≤ (I' (ad g 0) 4).toInt ∧ ((I' (ad g 0) 5).toInt = 0 ∨ (I' (ad g 0) 3).toInt < (I' (ad g 0) 4).toInt)) ∧ (I (ad g 0) 4).toInt ≤ (I' (ad g 0) 3).toInt) ∧ I' (ad g 0) 7 = I (ad g 0) 7 ∧ I' (ad g 0) 15 = I (ad g 0) 15 ∧ I' (ad g 0) 16 = I (ad g 0) 16 ∧ I' (ad g 0) 17 = I (ad g 0) 17 ∧ I' (ad g 0) 18 = I (ad g 0) 18) ∧ r = none) := by
                    intro mz
                    induction mz with
                    | zero =>
                      intro  I7064 J7065 hI7064 fiI7064 fjJ7065 fqI7064 w7066 ew7066 w7067 ew7067 w7068 ew7068 w7069 ew7069 w7070 ew7070 w7071 ew7071 w7072 ew7072 w7073 ew7073 j0_I7064 j1_I7064 j2_I7064 j3_I7064 j4_I7064 j5_I7064 j6_I7064 j7_I7064 hmlp160_7073
                      exact absurd hmlp160_7073 (Nat.not_lt_zero _)
                    | succ mz ihlp160_7073 =>
                      intro  I7064 J7065 hI7064 fiI7064 fjJ7065 fqI7064 w7066 ew7066 w7067 ew7067 w7068 ew7068 w7069 ew7069 w7070 ew7070 w7071 ew7071 w7072 ew7072 w7073 ew7073 j0_I7064 j1_I7064 j2_I7064 j3_I7064 j4_I7064 j5_I7064 j6_I7064 j7_I7064 hmlp160_7073
                      have bw7066 := BT_get hI7064.1.1 0 2 3 (0) (0) (900) (by decide) 2 (by decide) (by decide)
                      rw [ew7066] at bw7066
                      have bw7067 := BT_get hI7064.1.1 0 3 4 (0) (0) (900) (by decide) 3 (by decide) (by decide)
                      rw [ew7067] at bw7067
                      have bw7068 := BT_get hI7064.1.1 0 4 5 (0) (0) (900) (by decide) 4 (by decide) (by decide)
                      rw [ew7068] at bw7068
                      have bw7069 := BT_get hI7064.1.1 0 7 8 (-1) (0) (1000) (by decide) 7 (by decide) (by decide)
                      rw [ew7069] at bw7069
                      have bw7070 := BT_get hI7064.1.1 0 15 16 (0) (0) (4) (by decide) 15 (by decide) (by decide)
                      rw [ew7070] at bw7070
                      have bw7071 := BT_get hI7064.1.1 0 16 17 (0) (0) (3) (by decide) 16 (by decide) (by decide)
                      rw [ew7071] at bw7071
                      have bw7072 := BT_get hI7064.1.1 0 17 18 (-1) (0) (3) (by decide) 17 (by decide) (by decide)
                      rw [ew7072] at bw7072
                      have bw7073 := BT_get hI7064.1.1 0 18 19 (-1) (0) (2) (by decide) 18 (by decide) (by decide)
                      rw [ew7073] at bw7073
                      have e7075 : I7064 (ad g 0) 1 = L := hI7064.1.2
                      have b7076 := BT_get hI7064.1.1 0 1 2 (0) (0) (900) (by decide) 1 (by decide) (by decide)
                      rw [e7075] at b7076
                      refine WP_aload_n dX11_scan_160 rfl ?_
                      refine WP_aload_n dX11_scan_161 rfl ?_
                      refine WQ_getim dX11_scan_162 fX11_20 rfl (ly_is hy 0 11 rfl) ew7068 ?_
                      refine WP_callV1 (k := 11) dX11_scan_165 ⟨⟨⟨by decide, by decide⟩, zX11_byteAt⟩, lX11_23, by decide, rfl, vX11_byteAt.1, vX11_byteAt.2⟩ (ly_is hy 0 11 rfl) (sm_byteAtx hy hr hI7064 w7068 (by omega) (by omega)) (Nat.le_of_ble_eq_true rfl) ?_
                      intro r Ia Ja Ra hq
                      obtain ⟨⟨ea, eb, ec⟩, v7077, rfl, cv7077⟩ := hq
                      show WP _ _ _ _ (.int _ :: _) _ _ _ _
                      rw [ea, eb, ec]
                      clear ea eb ec Ia Ja Ra
                      rw [ew7066] at cv7077
                      refine WP_callS1 dX11_scan_168 ⟨⟨⟨by decide, by decide⟩, zX11_isDigit⟩, lX11_34, tX11_isDigit⟩ (sm_isDigit hy hr hI7064 v7077 ) (Nat.le_of_ble_eq_true rfl) ?_
                      intro r Ia Ja Ra hq
                      obtain ⟨⟨ea, eb, ec⟩, v7078, rfl, av7078, bv7078, cv7078⟩ := hq
                      show WP _ _ _ _ (.int _ :: _) _ _ _ _
                      rw [ea, eb, ec]
                      clear ea eb ec Ia Ja Ra
                      refine WQ_if_eq 223 dX11_scan_171 rfl (fun c7078 => ?_) (fun c7078 => ?_)
                      · refine WP_aload_n dX11_scan_223 rfl ?_
                        refine WP_aload_n dX11_scan_224 rfl ?_
                        refine WQ_getim dX11_scan_225 fX11_20 rfl (ly_is hy 0 11 rfl) ew7068 ?_
                        refine WP_aload_n dX11_scan_228 rfl ?_
                        refine WQ_getim dX11_scan_229 fX11_7 rfl (ly_is hy 0 11 rfl) ew7067 ?_
                        refine WQ_isub dX11_scan_232 (by omega) (by omega) (fun v7080 hv7080 => ?_)
                        refine WQ_iconst (4) (4) dX11_scan_233 rfl rfl (fun v7081 hv7081 => ?_)
                        have jn242_7084 : ∀ (v7084 : Int32), 2 ≤ v7084.toInt → v7084.toInt ≤ 4 → WP g mX11_scan 242 [(0, .ref (ad g 0)), (1, .int v6964)] [.int v7084, .ref (ad g 0)] I7064 J7065 R (fun r I' J' R' => (MP g n L I' ∧ R' = R ∧ fz 49 g [0] I I' ∧ fz 49 g [] J J' ∧ fs g [3, 4, 5, 6] I I' ∧ (((I' (ad g 0) 4).toInt ≤ (I' (ad g 0) 2).toInt ∧ (I' (ad g 0) 3).toInt ≤ (I' (ad g 0) 4).toInt ∧ ((I' (ad g 0) 5).toInt = 0 ∨ (I' (ad g 0) 3).toInt < (I' (ad g 0) 4).toInt)) ∧ (I (ad g 0) 4).toInt ≤ (I' (ad g 0) 3).toInt) ∧ I' (ad g 0) 7 = I (ad g 0) 7 ∧ I' (ad g 0) 15 = I (ad g 0) 15 ∧ I' (ad g 0) 16 = I (ad g 0) 16 ∧ I' (ad g 0) 17 = I (ad g 0) 17 ∧ I' (ad g 0) 18 = I (ad g 0) 18) ∧ r = none) := by
                          intro v7084 av7084 bv7084
                          refine WQ_puti dX11_scan_242 fX11_27 rfl rfl (ly_is hy 0 11 rfl) (fun I7086 eI7086 => ?_)
                          have hI7086 : MP g n L I7086 := by rw [eI7086]; exact (mp_w hy hI7064 (c := 0) (mi_f hy hI7064.1 (c := 0) (0) (0) (4) (by decide) (Or.inr (by decide)) (by decide) (by omega) (by omega)) (by decide) (by decide) (Or.inr (by decide)))
                          have e7087 : I7086 (ad g 0) 2 = w7066 := by rw [eI7086, pp_ne _ _ (Or.inr (by decide))]; exact ew7066
                          have e7088 : I7086 (ad g 0) 3 = w7067 := by rw [eI7086, pp_ne _ _ (Or.inr (by decide))]; exact ew7067
                          have e7089 : I7086 (ad g 0) 4 = w7068 := by rw [eI7086, pp_ne _ _ (Or.inr (by decide))]; exact ew7068
                          have e7090 : I7086 (ad g 0) 7 = w7069 := by rw [eI7086, pp_ne _ _ (Or.inr (by decide))]; exact ew7069
                          have e7091 : I7086 (ad g 0) 15 = w7070 := by rw [eI7086, pp_ne _ _ (Or.inr (by decide))]; exact ew7070
                          have e7092 : I7086 (ad g 0) 16 = w7071 := by rw [eI7086, pp_ne _ _ (Or.inr (by decide))]; exact ew7071
                          have e7093 : I7086 (ad g 0) 17 = w7072 := by rw [eI7086, pp_ne _ _ (Or.inr (by decide))]; exact ew7072
                          have e7094 : I7086 (ad g 0) 18 = w7073 := by rw [eI7086, pp_ne _ _ (Or.inr (by decide))]; exact ew7073
                          have e7095 : I7086 (ad g 0) 1 = L := by rw [eI7086, pp_ne _ _ (Or.inr (by decide))]; exact e7075
                          have e7096 : I7086 (ad g 0) 5 = v7084 := by rw [eI7086, pp_self]
                          have fr7097 : fs g [3, 4, 5, 6] I I7086 := by rw [eI7086]; exact fs_pp0 fqI7064 (by decide)
                          have fr7098 : fz 49 g [0] I I7086 := by rw [eI7086]; exact fzm_pp hy fiI7064 (by decide) (by decide)
                          clear eI7086
                          refine WP_goto 273 dX11_scan_245 rfl ?_
                          exact WP_vret dX11_scan_273 rfl ⟨⟨hI7086, rfl, fr7098, fjJ7065, fr7097, ⟨(by rw [e7087, e7088, e7089, e7096, ew6937]; omega), (by rw [e7090, ew6932] <;> exact (eq32 _ _).mpr (by omega)), (by rw [e7091, ew6933] <;> exact (eq32 _ _).mpr (by omega)), (by rw [e7092, ew6934] <;> exact (eq32 _ _).mpr (by omega)), (by rw [e7093, ew6935] <;> exact (eq32 _ _).mpr (by omega)), (by rw [e7094, ew6936] <;> exact (eq32 _ _).mpr (by omega))⟩⟩, rfl⟩
                        refine WQ_icmp_le 241 dX11_scan_234 rfl (fun c7098 => ?_) (fun c7098 => ?_)
                        · refine WQ_iconst (2) (2) dX11_scan_241 rfl rfl (fun v7100 hv7100 => ?_)
                          exact WP_sub (fc rfl (fc rfl fn)) (jn242_7084 v7100 (by omega) (by omega))
                        · refine WQ_iconst (4) (4) dX11_scan_237 rfl rfl (fun v7101 hv7101 => ?_)
                          refine WP_goto 242 dX11_scan_238 rfl ?_
                          exact WP_sub (fc rfl (fc rfl fn)) (jn242_7084 v7101 (by omega) (by omega))
                      · refine WP_aload_n dX11_scan_174 rfl ?_
                        refine WQ_getim dX11_scan_175 fX11_20 rfl (ly_is hy 0 11 rfl) ew7068 ?_
                        refine WP_aload_n dX11_scan_178 rfl ?_
                        refine WQ_getim dX11_scan_179 fX11_7 rfl (ly_is hy 0 11 rfl) ew7067 ?_
                        refine WQ_isub dX11_scan_182 (by omega) (by omega) (fun v7102 hv7102 => ?_)
                        refine WQ_iconst (4) (4) dX11_scan_183 rfl rfl (fun v7103 hv7103 => ?_)
                        refine WQ_icmp_ge 210 dX11_scan_184 rfl (fun c7103 => ?_) (fun c7103 => ?_)
                        · refine WP_aload_n dX11_scan_210 rfl ?_
                          refine WP_dup dX11_scan_211 rfl ?_
                          refine WQ_getim dX11_scan_212 fX11_20 rfl (ly_is hy 0 11 rfl) ew7068 ?_
                          refine WQ_iconst (1) (1) dX11_scan_215 rfl rfl (fun v7105 hv7105 => ?_)
                          refine WQ_iadd dX11_scan_216 (by omega) (by omega) (fun v7106 hv7106 => ?_)
                          refine WQ_puti dX11_scan_217 fX11_20 rfl rfl (ly_is hy 0 11 rfl) (fun I7107 eI7107 => ?_)
                          have hI7107 : MP g n L I7107 := by rw [eI7107]; exact (mp_w hy hI7064 (c := 0) (mi_f hy hI7064.1 (c := 0) (0) (0) (900) (by decide) (Or.inr (by decide)) (by decide) (by omega) (by omega)) (by decide) (by decide) (Or.inr (by decide)))
                          have e7108 : I7107 (ad g 0) 2 = w7066 := by rw [eI7107, pp_ne _ _ (Or.inr (by decide))]; exact ew7066
                          have e7109 : I7107 (ad g 0) 3 = w7067 := by rw [eI7107, pp_ne _ _ (Or.inr (by decide))]; exact ew7067
                          have e7110 : I7107 (ad g 0) 7 = w7069 := by rw [eI7107, pp_ne _ _ (Or.inr (by decide))]; exact ew7069
                          have e7111 : I7107 (ad g 0) 15 = w7070 := by rw [eI7107, pp_ne _ _ (Or.inr (by decide))]; exact ew7070
                          have e7112 : I7107 (ad g 0) 16 = w7071 := by rw [eI7107, pp_ne _ _ (Or.inr (by decide))]; exact ew7071
                          have e7113 : I7107 (ad g 0) 17 = w7072 := by rw [eI7107, pp_ne _ _ (Or.inr (by decide))]; exact ew7072
                          have e7114 : I7107 (ad g 0) 18 = w7073 := by rw [eI7107, pp_ne _ _ (Or.inr (by decide))]; exact ew7073
                          have e7115 : I7107 (ad g 0) 1 = L := by rw [eI7107, pp_ne _ _ (Or.inr (by decide))]; exact e7075
                          have e7116 : I7107 (ad g 0) 4 = v7106 := by rw [eI7107, pp_self]
                          have fr7117 : fs g [3, 4, 5, 6] I I7107 := by rw [eI7107]; exact fs_pp0 fqI7064 (by decide)
                          have fr7118 : fz 49 g [0] I I7107 := by rw [eI7107]; exact fzm_pp hy fiI7064 (by decide) (by decide)
                          clear eI7107
                          refine WP_goto 160 dX11_scan_220 rfl ?_
                          exact WP_sub (fc rfl (fc rfl fn)) (ihlp160_7073 I7107 J7065 hI7107 fr7118 fjJ7065 fr7117 w7066 e7108 w7067 e7109 v7106 e7116 w7069 e7110 w7070 e7111 w7071 e7112 w7072 e7113 w7073 e7114 (by omega) (by omega) (by omega) (by omega) (by omega) (by omega) (by omega) (by omega) (by omega))
                        · refine WP_aload_n dX11_scan_187 rfl ?_
                          refine WQ_bipush (10) (10) dX11_scan_188 rfl rfl (fun v7119 hv7119 => ?_)
                          refine WP_aload_n dX11_scan_190 rfl ?_
                          refine WQ_getiu dX11_scan_191 fX11_37 rfl (ly_is hy 0 11 rfl) (fun v7120 ev7120 => ?_)
                          refine WQ_imulu dX11_scan_194 (fun v7121 => ?_)
                          refine WP_aload_n dX11_scan_195 rfl ?_
                          refine WP_aload_n dX11_scan_196 rfl ?_
                          refine WQ_getim dX11_scan_197 fX11_20 rfl (ly_is hy 0 11 rfl) ew7068 ?_
                          refine WP_callV1 (k := 11) dX11_scan_200 ⟨⟨⟨by decide, by decide⟩, zX11_byteAt⟩, lX11_23, by decide, rfl, vX11_byteAt.1, vX11_byteAt.2⟩ (ly_is hy 0 11 rfl) (sm_byteAtx hy hr hI7064 w7068 (by omega) (by omega)) (Nat.le_of_ble_eq_true rfl) ?_
                          intro r Ia Ja Ra hq
                          obtain ⟨⟨ea, eb, ec⟩, v7122, rfl, cv7122⟩ := hq
                          show WP _ _ _ _ (.int _ :: _) _ _ _ _
                          rw [ea, eb, ec]
                          clear ea eb ec Ia Ja Ra
                          rw [ew7066] at cv7122
                          refine WQ_iaddu dX11_scan_203 (fun v7123 => ?_)
                          refine WQ_bipush (48) (48) dX11_scan_204 rfl rfl (fun v7124 hv7124 => ?_)
                          refine WQ_isubu dX11_scan_206 (fun v7125 => ?_)
                          refine WQ_puti dX11_scan_207 fX11_37 rfl rfl (ly_is hy 0 11 rfl) (fun I7126 eI7126 => ?_)
                          have hI7126 : MP g n L I7126 := by rw [eI7126]; exact (mp_w hy hI7064 (c := 0) (mi_f0 hy hI7064.1 (c := 0) (by decide) (Or.inr (by decide)) (by decide)) (by decide) (by decide) (Or.inr (by decide)))
                          have e7127 : I7126 (ad g 0) 2 = w7066 := by rw [eI7126, pp_ne _ _ (Or.inr (by decide))]; exact ew7066
                          have e7128 : I7126 (ad g 0) 3 = w7067 := by rw [eI7126, pp_ne _ _ (Or.inr (by decide))]; exact ew7067
                          have e7129 : I7126 (ad g 0) 4 = w7068 := by rw [eI7126, pp_ne _ _ (Or.inr (by decide))]; exact ew7068
                          have e7130 : I7126 (ad g 0) 7 = w7069 := by rw [eI7126, pp_ne _ _ (Or.inr (by decide))]; exact ew7069
                          have e7131 : I7126 (ad g 0) 15 = w7070 := by rw [eI7126, pp_ne _ _ (Or.inr (by decide))]; exact ew7070
                          have e7132 : I7126 (ad g 0) 16 = w7071 := by rw [eI7126, pp_ne _ _ (Or.inr (by decide))]; exact ew7071
                          have e7133 : I7126 (ad g 0) 17 = w7072 := by rw [eI7126, pp_ne _ _ (Or.inr (by decide))]; exact ew7072
                          have e7134 : I7126 (ad g 0) 18 = w7073 := by rw [eI7126, pp_ne _ _ (Or.inr (by decide))]; exact ew7073
                          have e7135 : I7126 (ad g 0) 1 = L := by rw [eI7126, pp_ne _ _ (Or.inr (by decide))]; exact e7075
                          have e7136 : I7126 (ad g 0) 6 = v7125 := by rw [eI7126, pp_self]
                          have fr7137 : fs g [3, 4, 5, 6] I I7126 := by rw [eI7126]; exact fs_pp0 fqI7064 (by decide)
                          have fr7138 : fz 49 g [0] I I7126 := by rw [eI7126]; exact fzm_pp hy fiI7064 (by decide) (by decide)
                          clear eI7126
                          refine WP_aload_n dX11_scan_210 rfl ?_
                          refine WP_dup dX11_scan_211 rfl ?_
                          refine WQ_getim dX11_scan_212 fX11_20 rfl (ly_is hy 0 11 rfl) e7129 ?_
                          refine WQ_iconst (1) (1) dX11_scan_215 rfl rfl (fun v7139 hv7139 => ?_)
                          refine WQ_iadd dX11_scan_216 (by omega) (by omega) (fun v7140 hv7140 => ?_)
                          refine WQ_puti dX11_scan_217 fX11_20 rfl rfl (ly_is hy 0 11 rfl) (fun I7141 eI7141 => ?_)
                          have hI7141 : MP g n L I7141 := by rw [eI7141]; exact (mp_w hy hI7126 (c := 0) (mi_f hy hI7126.1 (c := 0) (0) (0) (900) (by decide) (Or.inr (by decide)) (by decide) (by omega) (by omega)) (by decide) (by decide) (Or.inr (by decide)))
                          have e7142 : I7141 (ad g 0) 2 = w7066 := by rw [eI7141, pp_ne _ _ (Or.inr (by decide))]; exact e7127
                          have e7143 : I7141 (ad g 0) 3 = w7067 := by rw [eI7141, pp_ne _ _ (Or.inr (by decide))]; exact e7128
                          have e7144 : I7141 (ad g 0) 7 = w7069 := by rw [eI7141, pp_ne _ _ (Or.inr (by decide))]; exact e7130
                          have e7145 : I7141 (ad g 0) 15 = w7070 := by rw [eI7141, pp_ne _ _ (Or.inr (by decide))]; exact e7131
                          have e7146 : I7141 (ad g 0) 16 = w7071 := by rw [eI7141, pp_ne _ _ (Or.inr (by decide))]; exact e7132
                          have e7147 : I7141 (ad g 0) 17 = w7072 := by rw [eI7141, pp_ne _ _ (Or.inr (by decide))]; exact e7133
                          have e7148 : I7141 (ad g 0) 18 = w7073 := by rw [eI7141, pp_ne _ _ (Or.inr (by decide))]; exact e7134
                          have e7149 : I7141 (ad g 0) 1 = L := by rw [eI7141, pp_ne _ _ (Or.inr (by decide))]; exact e7135
                          have e7150 : I7141 (ad g 0) 6 = v7125 := by rw [eI7141, pp_ne _ _ (Or.inr (by decide))]; exact e7136
                          have e7151 : I7141 (ad g 0) 4 = v7140 := by rw [eI7141, pp_self]
                          have fr7152 : fs g [3, 4, 5, 6] I I7141 := by rw [eI7141]; exact fs_pp0 fr7137 (by decide)
                          have fr7153 : fz 49 g [0] I I7141 := by rw [eI7141]; exact fzm_pp hy fr7138 (by decide) (by decide)
                          clear eI7141
                          refine WP_goto 160 dX11_scan_220 rfl ?_
                          exact WP_sub (fc rfl (fc rfl fn)) (ihlp160_7073 I7141 J7065 hI7141 fr7153 fjJ7065 fr7152 w7066 e7142 w7067 e7143 v7140 e7151 w7069 e7144 w7070 e7145 w7071 e7146 w7072 e7147 w7073 e7148 (by omega) (by omega) (by omega) (by omega) (by omega) (by omega) (by omega) (by omega) (by omega))
                  exact WP_sub (fc rfl (fc rfl fn)) (lp160_7073 _ I7051 J6940 hI7051 fr7063 fjJ6940 fr7062 w6941 e7052 w6942 e7059 v7050 e7061 w6943 e7053 w6944 e7054 w6945 e7055 w6946 e7056 w6947 e7057 (by omega) (by omega) (by omega) (by omega) (by omega) (by omega) (by omega) (by omega) (Nat.lt_succ_self _))
                · refine WP_aload_n dX11_scan_187 rfl ?_
                  refine WQ_bipush (10) (10) dX11_scan_188 rfl rfl (fun v7154 hv7154 => ?_)
                  refine WP_aload_n dX11_scan_190 rfl ?_
                  refine WQ_getim dX11_scan_191 fX11_37 rfl (ly_is hy 0 11 rfl) e7017 ?_
                  refine WQ_imulk (0) dX11_scan_194 hv7006 (by omega) (by omega) (fun v7155 hv7155 => ?_)
                  refine WP_aload_n dX11_scan_195 rfl ?_
                  refine WP_aload_n dX11_scan_196 rfl ?_
                  refine WQ_getim dX11_scan_197 fX11_20 rfl (ly_is hy 0 11 rfl) e7009 ?_
                  refine WP_callV1 (k := 11) dX11_scan_200 ⟨⟨⟨by decide, by decide⟩, zX11_byteAt⟩, lX11_23, by decide, rfl, vX11_byteAt.1, vX11_byteAt.2⟩ (ly_is hy 0 11 rfl) (sm_byteAtx hy hr hI7007 w6942 (by omega) (by omega)) (Nat.le_of_ble_eq_true rfl) ?_
                  intro r Ia Ja Ra hq
                  obtain ⟨⟨ea, eb, ec⟩, v7156, rfl, cv7156⟩ := hq
                  show WP _ _ _ _ (.int _ :: _) _ _ _ _
                  rw [ea, eb, ec]
                  clear ea eb ec Ia Ja Ra
                  rw [e7008] at cv7156
                  refine WQ_iaddu dX11_scan_203 (fun v7157 => ?_)
                  refine WQ_bipush (48) (48) dX11_scan_204 rfl rfl (fun v7158 hv7158 => ?_)
                  refine WQ_isubu dX11_scan_206 (fun v7159 => ?_)
                  refine WQ_puti dX11_scan_207 fX11_37 rfl rfl (ly_is hy 0 11 rfl) (fun I7160 eI7160 => ?_)
                  have hI7160 : MP g n L I7160 := by rw [eI7160]; exact (mp_w hy hI7007 (c := 0) (mi_f0 hy hI7007.1 (c := 0) (by decide) (Or.inr (by decide)) (by decide)) (by decide) (by decide) (Or.inr (by decide)))
                  have e7161 : I7160 (ad g 0) 2 = w6941 := by rw [eI7160, pp_ne _ _ (Or.inr (by decide))]; exact e7008
                  have e7162 : I7160 (ad g 0) 4 = w6942 := by rw [eI7160, pp_ne _ _ (Or.inr (by decide))]; exact e7009
                  have e7163 : I7160 (ad g 0) 7 = w6943 := by rw [eI7160, pp_ne _ _ (Or.inr (by decide))]; exact e7010
                  have e7164 : I7160 (ad g 0) 15 = w6944 := by rw [eI7160, pp_ne _ _ (Or.inr (by decide))]; exact e7011
                  have e7165 : I7160 (ad g 0) 16 = w6945 := by rw [eI7160, pp_ne _ _ (Or.inr (by decide))]; exact e7012
                  have e7166 : I7160 (ad g 0) 17 = w6946 := by rw [eI7160, pp_ne _ _ (Or.inr (by decide))]; exact e7013
                  have e7167 : I7160 (ad g 0) 18 = w6947 := by rw [eI7160, pp_ne _ _ (Or.inr (by decide))]; exact e7014
                  have e7168 : I7160 (ad g 0) 1 = L := by rw [eI7160, pp_ne _ _ (Or.inr (by decide))]; exact e7015
                  have e7169 : I7160 (ad g 0) 3 = w6942 := by rw [eI7160, pp_ne _ _ (Or.inr (by decide))]; exact e7016
                  have e7170 : I7160 (ad g 0) 6 = v7159 := by rw [eI7160, pp_self]
                  have fr7171 : fs g [3, 4, 5, 6] I I7160 := by rw [eI7160]; exact fs_pp0 fr7018 (by decide)
                  have fr7172 : fz 49 g [0] I I7160 := by rw [eI7160]; exact fzm_pp hy fr7019 (by decide) (by decide)
                  have BI7160 : v6964 = BF g I7160 w6942 := by rw [eI7160, BF_w hy (by decide)]; exact BI7007
                  clear eI7160
                  refine WP_aload_n dX11_scan_210 rfl ?_
                  refine WP_dup dX11_scan_211 rfl ?_
                  refine WQ_getim dX11_scan_212 fX11_20 rfl (ly_is hy 0 11 rfl) e7162 ?_
                  refine WQ_iconst (1) (1) dX11_scan_215 rfl rfl (fun v7173 hv7173 => ?_)
                  refine WQ_iadd dX11_scan_216 (by omega) (by omega) (fun v7174 hv7174 => ?_)
                  refine WQ_puti dX11_scan_217 fX11_20 rfl rfl (ly_is hy 0 11 rfl) (fun I7175 eI7175 => ?_)
                  have hI7175 : MP g n L I7175 := by rw [eI7175]; exact (mp_w hy hI7160 (c := 0) (mi_f hy hI7160.1 (c := 0) (0) (0) (900) (by decide) (Or.inr (by decide)) (by decide) (by omega) (by omega)) (by decide) (by decide) (Or.inr (by decide)))
                  have e7176 : I7175 (ad g 0) 2 = w6941 := by rw [eI7175, pp_ne _ _ (Or.inr (by decide))]; exact e7161
                  have e7177 : I7175 (ad g 0) 7 = w6943 := by rw [eI7175, pp_ne _ _ (Or.inr (by decide))]; exact e7163
                  have e7178 : I7175 (ad g 0) 15 = w6944 := by rw [eI7175, pp_ne _ _ (Or.inr (by decide))]; exact e7164
                  have e7179 : I7175 (ad g 0) 16 = w6945 := by rw [eI7175, pp_ne _ _ (Or.inr (by decide))]; exact e7165
                  have e7180 : I7175 (ad g 0) 17 = w6946 := by rw [eI7175, pp_ne _ _ (Or.inr (by decide))]; exact e7166
                  have e7181 : I7175 (ad g 0) 18 = w6947 := by rw [eI7175, pp_ne _ _ (Or.inr (by decide))]; exact e7167
                  have e7182 : I7175 (ad g 0) 1 = L := by rw [eI7175, pp_ne _ _ (Or.inr (by decide))]; exact e7168
                  have e7183 : I7175 (ad g 0) 3 = w6942 := by rw [eI7175, pp_ne _ _ (Or.inr (by decide))]; exact e7169
                  have e7184 : I7175 (ad g 0) 6 = v7159 := by rw [eI7175, pp_ne _ _ (Or.inr (by decide))]; exact e7170
                  have e7185 : I7175 (ad g 0) 4 = v7174 := by rw [eI7175, pp_self]
                  have fr7186 : fs g [3, 4, 5, 6] I I7175 := by rw [eI7175]; exact fs_pp0 fr7171 (by decide)
                  have fr7187 : fz 49 g [0] I I7175 := by rw [eI7175]; exact fzm_pp hy fr7172 (by decide) (by decide)
                  have BI7175 : v6964 = BF g I7175 w6942 := by rw [eI7175, BF_w hy (by decide)]; exact BI7160
                  clear eI7175
                  refine WP_goto 160 dX11_scan_220 rfl ?_
                  have lp160_7197 : ∀ (mz : Nat)  (I7188 : pI) (J7189 : pJ), MP g n L I7188 → fz 49 g [0] I I7188 → fz 49 g [] J J7189 → fs g [3, 4, 5, 6] I I7188 → ∀ (w7190 : Int32), I7188 (ad g 0) 2 = w7190 → ∀ (w7191 : Int32), I7188 (ad g 0) 3 = w7191 → ∀ (w7192 : Int32), I7188 (ad g 0) 4 = w7192 → ∀ (w7193 : Int32), I7188 (ad g 0) 7 = w7193 → ∀ (w7194 : Int32), I7188 (ad g 0) 15 = w7194 → ∀ (w7195 : Int32), I7188 (ad g 0) 16 = w7195 → ∀ (w7196 : Int32), I7188 (ad g 0) 17 = w7196 → ∀ (w7197 : Int32), I7188 (ad g 0) 18 = w7197 → w7192.toInt ≤ w7190.toInt → w7191.toInt < w7192.toInt → w6937.toInt ≤ w7191.toInt → w7193.toInt = w6932.toInt → w7194.toInt = w6933.toInt → w7195.toInt = w6934.toInt → w7196.toInt = w6935.toInt → w7197.toInt = w6936.toInt → (901 - w7192.toInt).toNat < mz → WP g mX11_scan 160 [(0, .ref (ad g 0)), (1, .int v6964)] [] I7188 J7189 R (fun r I' J' R' => (MP g n L I' ∧ R' = R ∧ fz 49 g [0] I I' ∧ fz 49 g [] J J' ∧ fs g [3, 4, 5, 6] I I' ∧ (((I' (ad g 0) 4).toInt ≤ (I' (ad g 0) 2).toInt ∧ (I' (ad g 0) 3).toInt ≤ (I' (ad g 0) 4).toInt ∧ ((I' (ad g 0) 5).toInt = 0 ∨ (I' (ad g 0) 3).toInt < (I' (ad g 0) 4).toInt)) ∧ (I (ad g 0) 4).toInt ≤ (I' (ad g 0) 3).toInt) ∧ I' (ad g 0) 7 = I (ad g 0) 7 ∧ I' (ad g 0) 15 = I (ad g 0) 15 ∧ I' (ad g 0) 16 = I (ad g 0) 16 ∧ I' (ad g 0) 17 = I (ad g 0) 17 ∧ I' (ad g 0) 18 = I (ad g 0) 18) ∧ r = none) := by
                    intro mz
                    induction mz with
                    | zero =>
                      intro  I7188 J7189 hI7188 fiI7188 fjJ7189 fqI7188 w7190 ew7190 w7191 ew7191 w7192 ew7192 w7193 ew7193 w7194 ew7194 w7195 ew7195 w7196 ew7196 w7197 ew7197 j0_I7188 j1_I7188 j2_I7188 j3_I7188 j4_I7188 j5_I7188 j6_I7188 j7_I7188 hmlp160_7197
                      exact absurd hmlp160_7197 (Nat.not_lt_zero _)
                    | succ mz ihlp160_7197 =>
                      intro  I7188 J7189 hI7188 fiI7188 fjJ7189 fqI7188 w7190 ew7190 w7191 ew7191 w7192 ew7192 w7193 ew7193 w7194 ew7194 w7195 ew7195 w7196 ew7196 w7197 ew7197 j0_I7188 j1_I7188 j2_I7188 j3_I7188 j4_I7188 j5_I7188 j6_I7188 j7_I7188 hmlp160_7197
                      have bw7190 := BT_get hI7188.1.1 0 2 3 (0) (0) (900) (by decide) 2 (by decide) (by decide)
                      rw [ew7190] at bw7190
                      have bw7191 := BT_get hI7188.1.1 0 3 4 (0) (0) (900) (by decide) 3 (by decide) (by decide)
                      rw [ew7191] at bw7191
                      have bw7192 := BT_get hI7188.1.1 0 4 5 (0) (0) (900) (by decide) 4 (by decide) (by decide)
                      rw [ew7192] at bw7192
                      have bw7193 := BT_get hI7188.1.1 0 7 8 (-1) (0) (1000) (by decide) 7 (by decide) (by decide)
                      rw [ew7193] at bw7193
                      have bw7194 := BT_get hI7188.1.1 0 15 16 (0) (0) (4) (by decide) 15 (by decide) (by decide)
                      rw [ew7194] at bw7194
                      have bw7195 := BT_get hI7188.1.1 0 16 17 (0) (0) (3) (by decide) 16 (by decide) (by decide)
                      rw [ew7195] at bw7195
                      have bw7196 := BT_get hI7188.1.1 0 17 18 (-1) (0) (3) (by decide) 17 (by decide) (by decide)
                      rw [ew7196] at bw7196
                      have bw7197 := BT_get hI7188.1.1 0 18 19 (-1) (0) (2) (by decide) 18 (by decide) (by decide)
                      rw [ew7197] at bw7197
                      have e7199 : I7188 (ad g 0) 1 = L := hI7188.1.2
                      have b7200 := BT_get hI7188.1.1 0 1 2 (0) (0) (900) (by decide) 1 (by decide) (by decide)
                      rw [e7199] at b7200
                      refine WP_aload_n dX11_scan_160 rfl ?_
                      refine WP_aload_n dX11_scan_161 rfl ?_
                      refine WQ_getim dX11_scan_162 fX11_20 rfl (ly_is hy 0 11 rfl) ew7192 ?_
                      refine WP_callV1 (k := 11) dX11_scan_165 ⟨⟨⟨by decide, by decide⟩, zX11_byteAt⟩, lX11_23, by decide, rfl, vX11_byteAt.1, vX11_byteAt.2⟩ (ly_is hy 0 11 rfl) (sm_byteAtx hy hr hI7188 w7192 (by omega) (by omega)) (Nat.le_of_ble_eq_true rfl) ?_
                      intro r Ia Ja Ra hq
                      obtain ⟨⟨ea, eb, ec⟩, v7201, rfl, cv7201⟩ := hq
                      show WP _ _ _ _ (.int _ :: _) _ _ _ _
                      rw [ea, eb, ec]
                      clear ea eb ec Ia Ja Ra
                      rw [ew7190] at cv7201
                      refine WP_callS1 dX11_scan_168 ⟨⟨⟨by decide, by decide⟩, zX11_isDigit⟩, lX11_34, tX11_isDigit⟩ (sm_isDigit hy hr hI7188 v7201 ) (Nat.le_of_ble_eq_true rfl) ?_
                      intro r Ia Ja Ra hq
                      obtain ⟨⟨ea, eb, ec⟩, v7202, rfl, av7202, bv7202, cv7202⟩ := hq
                      show WP _ _ _ _ (.int _ :: _) _ _ _ _
                      rw [ea, eb, ec]
                      clear ea eb ec Ia Ja Ra
                      refine WQ_if_eq 223 dX11_scan_171 rfl (fun c7202 => ?_) (fun c7202 => ?_)
                      · refine WP_aload_n dX11_scan_223 rfl ?_
                        refine WP_aload_n dX11_scan_224 rfl ?_
                        refine WQ_getim dX11_scan_225 fX11_20 rfl (ly_is hy 0 11 rfl) ew7192 ?_
                        refine WP_aload_n dX11_scan_228 rfl ?_
                        refine WQ_getim dX11_scan_229 fX11_7 rfl (ly_is hy 0 11 rfl) ew7191 ?_
                        refine WQ_isub dX11_scan_232 (by omega) (by omega) (fun v7204 hv7204 => ?_)
                        refine WQ_iconst (4) (4) dX11_scan_233 rfl rfl (fun v7205 hv7205 => ?_)
                        have jn242_7208 : ∀ (v7208 : Int32), 2 ≤ v7208.toInt → v7208.toInt ≤ 4 → WP g mX11_scan 242 [(0, .ref (ad g 0)), (1, .int v6964)] [.int v7208, .ref (ad g 0)] I7188 J7189 R (fun r I' J' R' => (MP g n L I' ∧ R' = R ∧ fz 49 g [0] I I' ∧ fz 49 g [] J J' ∧ fs g [3, 4, 5, 6] I I' ∧ (((I' (ad g 0) 4).toInt ≤ (I' (ad g 0) 2).toInt ∧ (I' (ad g 0) 3).toInt ≤ (I' (ad g 0) 4).toInt ∧ ((I' (ad g 0) 5).toInt = 0 ∨ (I' (ad g 0) 3).toInt < (I' (ad g 0) 4).toInt)) ∧ (I (ad g 0) 4).toInt ≤ (I' (ad g 0) 3).toInt) ∧ I' (ad g 0) 7 = I (ad g 0) 7 ∧ I' (ad g 0) 15 = I (ad g 0) 15 ∧ I' (ad g 0) 16 = I (ad g 0) 16 ∧ I' (ad g 0) 17 = I (ad g 0) 17 ∧ I' (ad g 0) 18 = I (ad g 0) 18) ∧ r = none) := by
                          intro v7208 av7208 bv7208
                          refine WQ_puti dX11_scan_242 fX11_27 rfl rfl (ly_is hy 0 11 rfl) (fun I7210 eI7210 => ?_)
                          have hI7210 : MP g n L I7210 := by rw [eI7210]; exact (mp_w hy hI7188 (c := 0) (mi_f hy hI7188.1 (c := 0) (0) (0) (4) (by decide) (Or.inr (by decide)) (by decide) (by omega) (by omega)) (by decide) (by decide) (Or.inr (by decide)))
                          have e7211 : I7210 (ad g 0) 2 = w7190 := by rw [eI7210, pp_ne _ _ (Or.inr (by decide))]; exact ew7190
                          have e7212 : I7210 (ad g 0) 3 = w7191 := by rw [eI7210, pp_ne _ _ (Or.inr (by decide))]; exact ew7191
                          have e7213 : I7210 (ad g 0) 4 = w7192 := by rw [eI7210, pp_ne _ _ (Or.inr (by decide))]; exact ew7192
                          have e7214 : I7210 (ad g 0) 7 = w7193 := by rw [eI7210, pp_ne _ _ (Or.inr (by decide))]; exact ew7193
                          have e7215 : I7210 (ad g 0) 15 = w7194 := by rw [eI7210, pp_ne _ _ (Or.inr (by decide))]; exact ew7194
                          have e7216 : I7210 (ad g 0) 16 = w7195 := by rw [eI7210, pp_ne _ _ (Or.inr (by decide))]; exact ew7195
                          have e7217 : I7210 (ad g 0) 17 = w7196 := by rw [eI7210, pp_ne _ _ (Or.inr (by decide))]; exact ew7196
                          have e7218 : I7210 (ad g 0) 18 = w7197 := by rw [eI7210, pp_ne _ _ (Or.inr (by decide))]; exact ew7197
                          have e7219 : I7210 (ad g 0) 1 = L := by rw [eI7210, pp_ne _ _ (Or.inr (by decide))]; exact e7199
                          have e7220 : I7210 (ad g 0) 5 = v7208 := by rw [eI7210, pp_self]
                          have fr7221 : fs g [3, 4, 5, 6] I I7210 := by rw [eI7210]; exact fs_pp0 fqI7188 (by decide)
                          have fr7222 : fz 49 g [0] I I7210 := by rw [eI7210]; exact fzm_pp hy fiI7188 (by decide) (by decide)
                          clear eI7210
                          refine WP_goto 273 dX11_scan_245 rfl ?_
                          exact WP_vret dX11_scan_273 rfl ⟨⟨hI7210, rfl, fr7222, fjJ7189, fr7221, ⟨(by rw [e7211, e7212, e7213, e7220, ew6937]; omega), (by rw [e7214, ew6932] <;> exact (eq32 _ _).mpr (by omega)), (by rw [e7215, ew6933] <;> exact (eq32 _ _).mpr (by omega)), (by rw [e7216, ew6934] <;> exact (eq32 _ _).mpr (by omega)), (by rw [e7217, ew6935] <;> exact (eq32 _ _).mpr (by omega)), (by rw [e7218, ew6936] <;> exact (eq32 _ _).mpr (by omega))⟩⟩, rfl⟩
                        refine WQ_icmp_le 241 dX11_scan_234 rfl (fun c7222 => ?_) (fun c7222 => ?_)
                        · refine WQ_iconst (2) (2) dX11_scan_241 rfl rfl (fun v7224 hv7224 => ?_)
                          exact WP_sub (fc rfl (fc rfl fn)) (jn242_7208 v7224 (by omega) (by omega))
                        · refine WQ_iconst (4) (4) dX11_scan_237 rfl rfl (fun v7225 hv7225 => ?_)
                          refine WP_goto 242 dX11_scan_238 rfl ?_
                          exact WP_sub (fc rfl (fc rfl fn)) (jn242_7208 v7225 (by omega) (by omega))
                      · refine WP_aload_n dX11_scan_174 rfl ?_
                        refine WQ_getim dX11_scan_175 fX11_20 rfl (ly_is hy 0 11 rfl) ew7192 ?_
                        refine WP_aload_n dX11_scan_178 rfl ?_
                        refine WQ_getim dX11_scan_179 fX11_7 rfl (ly_is hy 0 11 rfl) ew7191 ?_
                        refine WQ_isub dX11_scan_182 (by omega) (by omega) (fun v7226 hv7226 => ?_)
                        refine WQ_iconst (4) (4) dX11_scan_183 rfl rfl (fun v7227 hv7227 => ?_)
                        refine WQ_icmp_ge 210 dX11_scan_184 rfl (fun c7227 => ?_) (fun c7227 => ?_)
                        · refine WP_aload_n dX11_scan_210 rfl ?_
                          refine WP_dup dX11_scan_211 rfl ?_
                          refine WQ_getim dX11_scan_212 fX11_20 rfl (ly_is hy 0 11 rfl) ew7192 ?_
                          refine WQ_iconst (1) (1) dX11_scan_215 rfl rfl (fun v7229 hv7229 => ?_)
                          refine WQ_iadd dX11_scan_216 (by omega) (by omega) (fun v7230 hv7230 => ?_)
                          refine WQ_puti dX11_scan_217 fX11_20 rfl rfl (ly_is hy 0 11 rfl) (fun I7231 eI7231 => ?_)
                          have hI7231 : MP g n L I7231 := by rw [eI7231]; exact (mp_w hy hI7188 (c := 0) (mi_f hy hI7188.1 (c := 0) (0) (0) (900) (by decide) (Or.inr (by decide)) (by decide) (by omega) (by omega)) (by decide) (by decide) (Or.inr (by decide)))
                          have e7232 : I7231 (ad g 0) 2 = w7190 := by rw [eI7231, pp_ne _ _ (Or.inr (by decide))]; exact ew7190
                          have e7233 : I7231 (ad g 0) 3 = w7191 := by rw [eI7231, pp_ne _ _ (Or.inr (by decide))]; exact ew7191
                          have e7234 : I7231 (ad g 0) 7 = w7193 := by rw [eI7231, pp_ne _ _ (Or.inr (by decide))]; exact ew7193
                          have e7235 : I7231 (ad g 0) 15 = w7194 := by rw [eI7231, pp_ne _ _ (Or.inr (by decide))]; exact ew7194
                          have e7236 : I7231 (ad g 0) 16 = w7195 := by rw [eI7231, pp_ne _ _ (Or.inr (by decide))]; exact ew7195
                          have e7237 : I7231 (ad g 0) 17 = w7196 := by rw [eI7231, pp_ne _ _ (Or.inr (by decide))]; exact ew7196
                          have e7238 : I7231 (ad g 0) 18 = w7197 := by rw [eI7231, pp_ne _ _ (Or.inr (by decide))]; exact ew7197
                          have e7239 : I7231 (ad g 0) 1 = L := by rw [eI7231, pp_ne _ _ (Or.inr (by decide))]; exact e7199
                          have e7240 : I7231 (ad g 0) 4 = v7230 := by rw [eI7231, pp_self]
                          have fr7241 : fs g [3, 4, 5, 6] I I7231 := by rw [eI7231]; exact fs_pp0 fqI7188 (by decide)
                          have fr7242 : fz 49 g [0] I I7231 := by rw [eI7231]; exact fzm_pp hy fiI7188 (by decide) (by decide)
                          clear eI7231
                          refine WP_goto 160 dX11_scan_220 rfl ?_
                          exact WP_sub (fc rfl (fc rfl fn)) (ihlp160_7197 I7231 J7189 hI7231 fr7242 fjJ7189 fr7241 w7190 e7232 w7191 e7233 v7230 e7240 w7193 e7234 w7194 e7235 w7195 e7236 w7196 e7237 w7197 e7238 (by omega) (by omega) (by omega) (by omega) (by omega) (by omega) (by omega) (by omega) (by omega))
                        · refine WP_aload_n dX11_scan_187 rfl ?_
                          refine WQ_bipush (10) (10) dX11_scan_188 rfl rfl (fun v7243 hv7243 => ?_)
                          refine WP_aload_n dX11_scan_190 rfl ?_
                          refine WQ_getiu dX11_scan_191 fX11_37 rfl (ly_is hy 0 11 rfl) (fun v7244 ev7244 => ?_)
                          refine WQ_imulu dX11_scan_194 (fun v7245 => ?_)
                          refine WP_aload_n dX11_scan_195 rfl ?_
                          refine WP_aload_n dX11_scan_196 rfl ?_
                          refine WQ_getim dX11_scan_197 fX11_20 rfl (ly_is hy 0 11 rfl) ew7192 ?_
                          refine WP_callV1 (k := 11) dX11_scan_200 ⟨⟨⟨by decide, by decide⟩, zX11_byteAt⟩, lX11_23, by decide, rfl, vX11_byteAt.1, vX11_byteAt.2⟩ (ly_is hy 0 11 rfl) (sm_byteAtx hy hr hI7188 w7192 (by omega) (by omega)) (Nat.le_of_ble_eq_true rfl) ?_
                          intro r Ia Ja Ra hq
                          obtain ⟨⟨ea, eb, ec⟩, v7246, rfl, cv7246⟩ := hq
                          show WP _ _ _ _ (.int _ :: _) _ _ _ _
                          rw [ea, eb, ec]
                          clear ea eb ec Ia Ja Ra
                          rw [ew7190] at cv7246
                          refine WQ_iaddu dX11_scan_203 (fun v7247 => ?_)
                          refine WQ_bipush (48) (48) dX11_scan_204 rfl rfl (fun v7248 hv7248 => ?_)
                          refine WQ_isubu dX11_scan_206 (fun v7249 => ?_)
                          refine WQ_puti dX11_scan_207 fX11_37 rfl rfl (ly_is hy 0 11 rfl) (fun I7250 eI7250 => ?_)
                          have hI7250 : MP g n L I7250 := by rw [eI7250]; exact (mp_w hy hI7188 (c := 0) (mi_f0 hy hI7188.1 (c := 0) (by decide) (Or.inr (by decide)) (by decide)) (by decide) (by decide) (Or.inr (by decide)))
                          have e7251 : I7250 (ad g 0) 2 = w7190 := by rw [eI7250, pp_ne _ _ (Or.inr (by decide))]; exact ew7190
                          have e7252 : I7250 (ad g 0) 3 = w7191 := by rw [eI7250, pp_ne _ _ (Or.inr (by decide))]; exact ew7191
                          have e7253 : I7250 (ad g 0) 4 = w7192 := by rw [eI7250, pp_ne _ _ (Or.inr (by decide))]; exact ew7192
                          have e7254 : I7250 (ad g 0) 7 = w7193 := by rw [eI7250, pp_ne _ _ (Or.inr (by decide))]; exact ew7193
                          have e7255 : I7250 (ad g 0) 15 = w7194 := by rw [eI7250, pp_ne _ _ (Or.inr (by decide))]; exact ew7194
                          have e7256 : I7250 (ad g 0) 16 = w7195 := by rw [eI7250, pp_ne _ _ (Or.inr (by decide))]; exact ew7195
                          have e7257 : I7250 (ad g 0) 17 = w7196 := by rw [eI7250, pp_ne _ _ (Or.inr (by decide))]; exact ew7196
                          have e7258 : I7250 (ad g 0) 18 = w7197 := by rw [eI7250, pp_ne _ _ (Or.inr (by decide))]; exact ew7197
                          have e7259 : I7250 (ad g 0) 1 = L := by rw [eI7250, pp_ne _ _ (Or.inr (by decide))]; exact e7199
                          have e7260 : I7250 (ad g 0) 6 = v7249 := by rw [eI7250, pp_self]
                          have fr7261 : fs g [3, 4, 5, 6] I I7250 := by rw [eI7250]; exact fs_pp0 fqI7188 (by decide)
                          have fr7262 : fz 49 g [0] I I7250 := by rw [eI7250]; exact fzm_pp hy fiI7188 (by decide) (by decide)
                          clear eI7250
                          refine WP_aload_n dX11_scan_210 rfl ?_
                          refine WP_dup dX11_scan_211 rfl ?_
                          refine WQ_getim dX11_scan_212 fX11_20 rfl (ly_is hy 0 11 rfl) e7253 ?_
                          refine WQ_iconst (1) (1) dX11_scan_215 rfl rfl (fun v7263 hv7263 => ?_)
                          refine WQ_iadd dX11_scan_216 (by omega) (by omega) (fun v7264 hv7264 => ?_)
                          refine WQ_puti dX11_scan_217 fX11_20 rfl rfl (ly_is hy 0 11 rfl) (fun I7265 eI7265 => ?_)
                          have hI7265 : MP g n L I7265 := by rw [eI7265]; exact (mp_w hy hI7250 (c := 0) (mi_f hy hI7250.1 (c := 0) (0) (0) (900) (by decide) (Or.inr (by decide)) (by decide) (by omega) (by omega)) (by decide) (by decide) (Or.inr (by decide)))
                          have e7266 : I7265 (ad g 0) 2 = w7190 := by rw [eI7265, pp_ne _ _ (Or.inr (by decide))]; exact e7251
                          have e7267 : I7265 (ad g 0) 3 = w7191 := by rw [eI7265, pp_ne _ _ (Or.inr (by decide))]; exact e7252
                          have e7268 : I7265 (ad g 0) 7 = w7193 := by rw [eI7265, pp_ne _ _ (Or.inr (by decide))]; exact e7254
                          have e7269 : I7265 (ad g 0) 15 = w7194 := by rw [eI7265, pp_ne _ _ (Or.inr (by decide))]; exact e7255
                          have e7270 : I7265 (ad g 0) 16 = w7195 := by rw [eI7265, pp_ne _ _ (Or.inr (by decide))]; exact e7256
                          have e7271 : I7265 (ad g 0) 17 = w7196 := by rw [eI7265, pp_ne _ _ (Or.inr (by decide))]; exact e7257
                          have e7272 : I7265 (ad g 0) 18 = w7197 := by rw [eI7265, pp_ne _ _ (Or.inr (by decide))]; exact e7258
                          have e7273 : I7265 (ad g 0) 1 = L := by rw [eI7265, pp_ne _ _ (Or.inr (by decide))]; exact e7259
                          have e7274 : I7265 (ad g 0) 6 = v7249 := by rw [eI7265, pp_ne _ _ (Or.inr (by decide))]; exact e7260
                          have e7275 : I7265 (ad g 0) 4 = v7264 := by rw [eI7265, pp_self]
                          have fr7276 : fs g [3, 4, 5, 6] I I7265 := by rw [eI7265]; exact fs_pp0 fr7261 (by decide)
                          have fr7277 : fz 49 g [0] I I7265 := by rw [eI7265]; exact fzm_pp hy fr7262 (by decide) (by decide)
                          clear eI7265
                          refine WP_goto 160 dX11_scan_220 rfl ?_
                          exact WP_sub (fc rfl (fc rfl fn)) (ihlp160_7197 I7265 J7189 hI7265 fr7277 fjJ7189 fr7276 w7190 e7266 w7191 e7267 v7264 e7275 w7193 e7268 w7194 e7269 w7195 e7270 w7196 e7271 w7197 e7272 (by omega) (by omega) (by omega) (by omega) (by omega) (by omega) (by omega) (by omega) (by omega))
                  exact WP_sub (fc rfl (fc rfl fn)) (lp160_7197 _ I7175 J6940 hI7175 fr7187 fjJ6940 fr7186 w6941 e7176 w6942 e7183 v7174 e7185 w6943 e7177 w6944 e7178 w6945 e7179 w6946 e7180 w6947 e7181 (by omega) (by omega) (by omega) (by omega) (by omega) (by omega) (by omega) (by omega) (Nat.lt_succ_self _))
          · refine WP_aload_n dX11_scan_95 rfl ?_
            refine WP_aload_n dX11_scan_96 rfl ?_
            refine WQ_getim dX11_scan_97 fX11_20 rfl (ly_is hy 0 11 rfl) e6954 ?_
            refine WP_callV1 (k := 11) dX11_scan_100 ⟨⟨⟨by decide, by decide⟩, zX11_byteAt⟩, lX11_23, by decide, rfl, vX11_byteAt.1, vX11_byteAt.2⟩ (ly_is hy 0 11 rfl) (sm_byteAtx hy hr hI6952 w6942 (by omega) (by omega)) (Nat.le_of_ble_eq_true rfl) ?_
            intro r Ia Ja Ra hq
            obtain ⟨⟨ea, eb, ec⟩, v7278, rfl, cv7278⟩ := hq
            show WP _ _ _ _ (.int _ :: _) _ _ _ _
            rw [ea, eb, ec]
            clear ea eb ec Ia Ja Ra
            rw [e6953] at cv7278
            have ttv7278 : v7278.toInt = v6964.toInt := by rw [cv7278.2, ← cv6964.2]
            refine WP_callS1 dX11_scan_103 ⟨⟨⟨by decide, by decide⟩, zX11_isSmall⟩, lX11_30, tX11_isSmall⟩ (sm_isSmall hy hr hI6952 v7278 ) (Nat.le_of_ble_eq_true rfl) ?_
            intro r Ia Ja Ra hq
            obtain ⟨⟨ea, eb, ec⟩, v7279, rfl, av7279, bv7279, cv7279⟩ := hq
            show WP _ _ _ _ (.int _ :: _) _ _ _ _
            rw [ea, eb, ec]
            clear ea eb ec Ia Ja Ra
            refine WQ_if_eq 122 dX11_scan_106 rfl (fun c7279 => ?_) (fun c7279 => ?_)
            · refine WP_aload_n dX11_scan_122 rfl ?_
              refine WP_aload_n dX11_scan_123 rfl ?_
              refine WQ_getim dX11_scan_124 fX11_20 rfl (ly_is hy 0 11 rfl) e6954 ?_
              refine WP_aload_n dX11_scan_127 rfl ?_
              refine WQ_getim dX11_scan_128 fX11_7 rfl (ly_is hy 0 11 rfl) e6961 ?_
              refine WQ_isub dX11_scan_131 (by omega) (by omega) (fun v7281 hv7281 => ?_)
              refine WQ_bipush (8) (8) dX11_scan_132 rfl rfl (fun v7282 hv7282 => ?_)
              have jn142_7285 : ∀ (v7285 : Int32), 1 ≤ v7285.toInt → v7285.toInt ≤ 4 → WP g mX11_scan 142 [(0, .ref (ad g 0)), (1, .int v6964)] [.int v7285, .ref (ad g 0)] I6952 J6940 R (fun r I' J' R' => (MP g n L I' ∧ R' = R ∧ fz 49 g [0] I I' ∧ fz 49 g [] J J' ∧ fs g [3, 4, 5, 6] I I' ∧ (((I' (ad g 0) 4).toInt ≤ (I' (ad g 0) 2).toInt ∧ (I' (ad g 0) 3).toInt ≤ (I' (ad g 0) 4).toInt ∧ ((I' (ad g 0) 5).toInt = 0 ∨ (I' (ad g 0) 3).toInt < (I' (ad g 0) 4).toInt)) ∧ (I (ad g 0) 4).toInt ≤ (I' (ad g 0) 3).toInt) ∧ I' (ad g 0) 7 = I (ad g 0) 7 ∧ I' (ad g 0) 15 = I (ad g 0) 15 ∧ I' (ad g 0) 16 = I (ad g 0) 16 ∧ I' (ad g 0) 17 = I (ad g 0) 17 ∧ I' (ad g 0) 18 = I (ad g 0) 18) ∧ r = none) := by
                intro v7285 av7285 bv7285
                refine WQ_puti dX11_scan_142 fX11_27 rfl rfl (ly_is hy 0 11 rfl) (fun I7287 eI7287 => ?_)
                have hI7287 : MP g n L I7287 := by rw [eI7287]; exact (mp_w hy hI6952 (c := 0) (mi_f hy hI6952.1 (c := 0) (0) (0) (4) (by decide) (Or.inr (by decide)) (by decide) (by omega) (by omega)) (by decide) (by decide) (Or.inr (by decide)))
                have e7288 : I7287 (ad g 0) 2 = w6941 := by rw [eI7287, pp_ne _ _ (Or.inr (by decide))]; exact e6953
                have e7289 : I7287 (ad g 0) 4 = w6942 := by rw [eI7287, pp_ne _ _ (Or.inr (by decide))]; exact e6954
                have e7290 : I7287 (ad g 0) 7 = w6943 := by rw [eI7287, pp_ne _ _ (Or.inr (by decide))]; exact e6955
                have e7291 : I7287 (ad g 0) 15 = w6944 := by rw [eI7287, pp_ne _ _ (Or.inr (by decide))]; exact e6956
                have e7292 : I7287 (ad g 0) 16 = w6945 := by rw [eI7287, pp_ne _ _ (Or.inr (by decide))]; exact e6957
                have e7293 : I7287 (ad g 0) 17 = w6946 := by rw [eI7287, pp_ne _ _ (Or.inr (by decide))]; exact e6958
                have e7294 : I7287 (ad g 0) 18 = w6947 := by rw [eI7287, pp_ne _ _ (Or.inr (by decide))]; exact e6959
                have e7295 : I7287 (ad g 0) 1 = L := by rw [eI7287, pp_ne _ _ (Or.inr (by decide))]; exact e6960
                have e7296 : I7287 (ad g 0) 3 = w6942 := by rw [eI7287, pp_ne _ _ (Or.inr (by decide))]; exact e6961
                have e7297 : I7287 (ad g 0) 5 = v7285 := by rw [eI7287, pp_self]
                have fr7298 : fs g [3, 4, 5, 6] I I7287 := by rw [eI7287]; exact fs_pp0 fr6962 (by decide)
                have fr7299 : fz 49 g [0] I I7287 := by rw [eI7287]; exact fzm_pp hy fr6963 (by decide) (by decide)
                have BI7287 : v6964 = BF g I7287 w6942 := by rw [eI7287, BF_w hy (by decide)]; exact cv6964.2
                clear eI7287
                refine WP_goto 273 dX11_scan_145 rfl ?_
                exact WP_vret dX11_scan_273 rfl ⟨⟨hI7287, rfl, fr7299, fjJ6940, fr7298, ⟨(by rw [e7288, e7296, e7289, e7297, ew6937]; omega), (by rw [e7290, ew6932] <;> exact (eq32 _ _).mpr (by omega)), (by rw [e7291, ew6933] <;> exact (eq32 _ _).mpr (by omega)), (by rw [e7292, ew6934] <;> exact (eq32 _ _).mpr (by omega)), (by rw [e7293, ew6935] <;> exact (eq32 _ _).mpr (by omega)), (by rw [e7294, ew6936] <;> exact (eq32 _ _).mpr (by omega))⟩⟩, rfl⟩
              refine WQ_icmp_le 141 dX11_scan_134 rfl (fun c7299 => ?_) (fun c7299 => ?_)
              · refine WQ_iconst (1) (1) dX11_scan_141 rfl rfl (fun v7301 hv7301 => ?_)
                exact WP_sub (fc rfl (fc rfl fn)) (jn142_7285 v7301 (by omega) (by omega))
              · refine WQ_iconst (4) (4) dX11_scan_137 rfl rfl (fun v7302 hv7302 => ?_)
                refine WP_goto 142 dX11_scan_138 rfl ?_
                exact WP_sub (fc rfl (fc rfl fn)) (jn142_7285 v7302 (by omega) (by omega))
            · refine WP_aload_n dX11_scan_109 rfl ?_
              refine WP_dup dX11_scan_110 rfl ?_
              refine WQ_getim dX11_scan_111 fX11_20 rfl (ly_is hy 0 11 rfl) e6954 ?_
              refine WQ_iconst (1) (1) dX11_scan_114 rfl rfl (fun v7303 hv7303 => ?_)
              refine WQ_iadd dX11_scan_115 (by omega) (by omega) (fun v7304 hv7304 => ?_)
              refine WQ_puti dX11_scan_116 fX11_20 rfl rfl (ly_is hy 0 11 rfl) (fun I7305 eI7305 => ?_)
              have hI7305 : MP g n L I7305 := by rw [eI7305]; exact (mp_w hy hI6952 (c := 0) (mi_f hy hI6952.1 (c := 0) (0) (0) (900) (by decide) (Or.inr (by decide)) (by decide) (by omega) (by omega)) (by decide) (by decide) (Or.inr (by decide)))
              have e7306 : I7305 (ad g 0) 2 = w6941 := by rw [eI7305, pp_ne _ _ (Or.inr (by decide))]; exact e6953
              have e7307 : I7305 (ad g 0) 7 = w6943 := by rw [eI7305, pp_ne _ _ (Or.inr (by decide))]; exact e6955
              have e7308 : I7305 (ad g 0) 15 = w6944 := by rw [eI7305, pp_ne _ _ (Or.inr (by decide))]; exact e6956
              have e7309 : I7305 (ad g 0) 16 = w6945 := by rw [eI7305, pp_ne _ _ (Or.inr (by decide))]; exact e6957
              have e7310 : I7305 (ad g 0) 17 = w6946 := by rw [eI7305, pp_ne _ _ (Or.inr (by decide))]; exact e6958
              have e7311 : I7305 (ad g 0) 18 = w6947 := by rw [eI7305, pp_ne _ _ (Or.inr (by decide))]; exact e6959
              have e7312 : I7305 (ad g 0) 1 = L := by rw [eI7305, pp_ne _ _ (Or.inr (by decide))]; exact e6960
              have e7313 : I7305 (ad g 0) 3 = w6942 := by rw [eI7305, pp_ne _ _ (Or.inr (by decide))]; exact e6961
              have e7314 : I7305 (ad g 0) 4 = v7304 := by rw [eI7305, pp_self]
              have fr7315 : fs g [3, 4, 5, 6] I I7305 := by rw [eI7305]; exact fs_pp0 fr6962 (by decide)
              have fr7316 : fz 49 g [0] I I7305 := by rw [eI7305]; exact fzm_pp hy fr6963 (by decide) (by decide)
              have BI7305 : v6964 = BF g I7305 w6942 := by rw [eI7305, BF_w hy (by decide)]; exact cv6964.2
              clear eI7305
              refine WP_goto 95 dX11_scan_119 rfl ?_
              have lp95_7326 : ∀ (mz : Nat)  (I7317 : pI) (J7318 : pJ), MP g n L I7317 → fz 49 g [0] I I7317 → fz 49 g [] J J7318 → fs g [3, 4, 5, 6] I I7317 → ∀ (w7319 : Int32), I7317 (ad g 0) 2 = w7319 → ∀ (w7320 : Int32), I7317 (ad g 0) 3 = w7320 → ∀ (w7321 : Int32), I7317 (ad g 0) 4 = w7321 → ∀ (w7322 : Int32), I7317 (ad g 0) 7 = w7322 → ∀ (w7323 : Int32), I7317 (ad g 0) 15 = w7323 → ∀ (w7324 : Int32), I7317 (ad g 0) 16 = w7324 → ∀ (w7325 : Int32), I7317 (ad g 0) 17 = w7325 → ∀ (w7326 : Int32), I7317 (ad g 0) 18 = w7326 → w7321.toInt ≤ w7319.toInt → w7320.toInt < w7321.toInt → w6937.toInt ≤ w7320.toInt → w7322.toInt = w6932.toInt → w7323.toInt = w6933.toInt → w7324.toInt = w6934.toInt → w7325.toInt = w6935.toInt → w7326.toInt = w6936.toInt → (901 - w7321.toInt).toNat < mz → WP g mX11_scan 95 [(0, .ref (ad g 0)), (1, .int v6964)] [] I7317 J7318 R (fun r I' J' R' => (MP g n L I' ∧ R' = R ∧ fz 49 g [0] I I' ∧ fz 49 g [] J J' ∧ fs g [3, 4, 5, 6] I I' ∧ (((I' (ad g 0) 4).toInt ≤ (I' (ad g 0) 2).toInt ∧ (I' (ad g 0) 3).toInt ≤ (I' (ad g 0) 4).toInt ∧ ((I' (ad g 0) 5).toInt = 0 ∨ (I' (ad g 0) 3).toInt < (I' (ad g 0) 4).toInt)) ∧ (I (ad g 0) 4).toInt ≤ (I' (ad g 0) 3).toInt) ∧ I' (ad g 0) 7 = I (ad g 0) 7 ∧ I' (ad g 0) 15 = I (ad g 0) 15 ∧ I' (ad g 0) 16 = I (ad g 0) 16 ∧ I' (ad g 0) 17 = I (ad g 0) 17 ∧ I' (ad g 0) 18 = I (ad g 0) 18) ∧ r = none) := by
                intro mz
                induction mz with
                | zero =>
                  intro  I7317 J7318 hI7317 fiI7317 fjJ7318 fqI7317 w7319 ew7319 w7320 ew7320 w7321 ew7321 w7322 ew7322 w7323 ew7323 w7324 ew7324 w7325 ew7325 w7326 ew7326 j0_I7317 j1_I7317 j2_I7317 j3_I7317 j4_I7317 j5_I7317 j6_I7317 j7_I7317 hmlp95_7326
                  exact absurd hmlp95_7326 (Nat.not_lt_zero _)
                | succ mz ihlp95_7326 =>
                  intro  I7317 J7318 hI7317 fiI7317 fjJ7318 fqI7317 w7319 ew7319 w7320 ew7320 w7321 ew7321 w7322 ew7322 w7323 ew7323 w7324 ew7324 w7325 ew7325 w7326 ew7326 j0_I7317 j1_I7317 j2_I7317 j3_I7317 j4_I7317 j5_I7317 j6_I7317 j7_I7317 hmlp95_7326
                  have bw7319 := BT_get hI7317.1.1 0 2 3 (0) (0) (900) (by decide) 2 (by decide) (by decide)
                  rw [ew7319] at bw7319
                  have bw7320 := BT_get hI7317.1.1 0 3 4 (0) (0) (900) (by decide) 3 (by decide) (by decide)
                  rw [ew7320] at bw7320
                  have bw7321 := BT_get hI7317.1.1 0 4 5 (0) (0) (900) (by decide) 4 (by decide) (by decide)
                  rw [ew7321] at bw7321
                  have bw7322 := BT_get hI7317.1.1 0 7 8 (-1) (0) (1000) (by decide) 7 (by decide) (by decide)
                  rw [ew7322] at bw7322
                  have bw7323 := BT_get hI7317.1.1 0 15 16 (0) (0) (4) (by decide) 15 (by decide) (by decide)
                  rw [ew7323] at bw7323
                  have bw7324 := BT_get hI7317.1.1 0 16 17 (0) (0) (3) (by decide) 16 (by decide) (by decide)
                  rw [ew7324] at bw7324
                  have bw7325 := BT_get hI7317.1.1 0 17 18 (-1) (0) (3) (by decide) 17 (by decide) (by decide)
                  rw [ew7325] at bw7325
                  have bw7326 := BT_get hI7317.1.1 0 18 19 (-1) (0) (2) (by decide) 18 (by decide) (by decide)
                  rw [ew7326] at bw7326
                  have e7328 : I7317 (ad g 0) 1 = L := hI7317.1.2
                  have b7329 := BT_get hI7317.1.1 0 1 2 (0) (0) (900) (by decide) 1 (by decide) (by decide)
                  rw [e7328] at b7329
                  refine WP_aload_n dX11_scan_95 rfl ?_
                  refine WP_aload_n dX11_scan_96 rfl ?_
                  refine WQ_getim dX11_scan_97 fX11_20 rfl (ly_is hy 0 11 rfl) ew7321 ?_
                  refine WP_callV1 (k := 11) dX11_scan_100 ⟨⟨⟨by decide, by decide⟩, zX11_byteAt⟩, lX11_23, by decide, rfl, vX11_byteAt.1, vX11_byteAt.2⟩ (ly_is hy 0 11 rfl) (sm_byteAtx hy hr hI7317 w7321 (by omega) (by omega)) (Nat.le_of_ble_eq_true rfl) ?_
                  intro r Ia Ja Ra hq
                  obtain ⟨⟨ea, eb, ec⟩, v7330, rfl, cv7330⟩ := hq
                  show WP _ _ _ _ (.int _ :: _) _ _ _ _
                  rw [ea, eb, ec]
                  clear ea eb ec Ia Ja Ra
                  rw [ew7319] at cv7330
                  refine WP_callS1 dX11_scan_103 ⟨⟨⟨by decide, by decide⟩, zX11_isSmall⟩, lX11_30, tX11_isSmall⟩ (sm_isSmall hy hr hI7317 v7330 ) (Nat.le_of_ble_eq_true rfl) ?_
                  intro r Ia Ja Ra hq
                  obtain ⟨⟨ea, eb, ec⟩, v7331, rfl, av7331, bv7331, cv7331⟩ := hq
                  show WP _ _ _ _ (.int _ :: _) _ _ _ _
                  rw [ea, eb, ec]
                  clear ea eb ec Ia Ja Ra
                  refine WQ_if_eq 122 dX11_scan_106 rfl (fun c7331 => ?_) (fun c7331 => ?_)
                  · refine WP_aload_n dX11_scan_122 rfl ?_
                    refine WP_aload_n dX11_scan_123 rfl ?_
                    refine WQ_getim dX11_scan_124 fX11_20 rfl (ly_is hy 0 11 rfl) ew7321 ?_
                    refine WP_aload_n dX11_scan_127 rfl ?_
                    refine WQ_getim dX11_scan_128 fX11_7 rfl (ly_is hy 0 11 rfl) ew7320 ?_
                    refine WQ_isub dX11_scan_131 (by omega) (by omega) (fun v7333 hv7333 => ?_)
                    refine WQ_bipush (8) (8) dX11_scan_132 rfl rfl (fun v7334 hv7334 => ?_)
                    have jn142_7337 : ∀ (v7337 : Int32), 1 ≤ v7337.toInt → v7337.toInt ≤ 4 → WP g mX11_scan 142 [(0, .ref (ad g 0)), (1, .int v6964)] [.int v7337, .ref (ad g 0)] I7317 J7318 R (fun r I' J' R' => (MP g n L I' ∧ R' = R ∧ fz 49 g [0] I I' ∧ fz 49 g [] J J' ∧ fs g [3, 4, 5, 6] I I' ∧ (((I' (ad g 0) 4).toInt ≤ (I' (ad g 0) 2).toInt ∧ (I' (ad g 0) 3).toInt ≤ (I' (ad g 0) 4).toInt ∧ ((I' (ad g 0) 5).toInt = 0 ∨ (I' (ad g 0) 3).toInt < (I' (ad g 0) 4).toInt)) ∧ (I (ad g 0) 4).toInt ≤ (I' (ad g 0) 3).toInt) ∧ I' (ad g 0) 7 = I (ad g 0) 7 ∧ I' (ad g 0) 15 = I (ad g 0) 15 ∧ I' (ad g 0) 16 = I (ad g 0) 16 ∧ I' (ad g 0) 17 = I (ad g 0) 17 ∧ I' (ad g 0) 18 = I (ad g 0) 18) ∧ r = none) := by
                      intro v7337 av7337 bv7337
                      refine WQ_puti dX11_scan_142 fX11_27 rfl rfl (ly_is hy 0 11 rfl) (fun I7339 eI7339 => ?_)
                      have hI7339 : MP g n L I7339 := by rw [eI7339]; exact (mp_w hy hI7317 (c := 0) (mi_f hy hI7317.1 (c := 0) (0) (0) (4) (by decide) (Or.inr (by decide)) (by decide) (by omega) (by omega)) (by decide) (by decide) (Or.inr (by decide)))
                      have e7340 : I7339 (ad g 0) 2 = w7319 := by rw [eI7339, pp_ne _ _ (Or.inr (by decide))]; exact ew7319
                      have e7341 : I7339 (ad g 0) 3 = w7320 := by rw [eI7339, pp_ne _ _ (Or.inr (by decide))]; exact ew7320
                      have e7342 : I7339 (ad g 0) 4 = w7321 := by rw [eI7339, pp_ne _ _ (Or.inr (by decide))]; exact ew7321
                      have e7343 : I7339 (ad g 0) 7 = w7322 := by rw [eI7339, pp_ne _ _ (Or.inr (by decide))]; exact ew7322
                      have e7344 : I7339 (ad g 0) 15 = w7323 := by rw [eI7339, pp_ne _ _ (Or.inr (by decide))]; exact ew7323
                      have e7345 : I7339 (ad g 0) 16 = w7324 := by rw [eI7339, pp_ne _ _ (Or.inr (by decide))]; exact ew7324
                      have e7346 : I7339 (ad g 0) 17 = w7325 := by rw [eI7339, pp_ne _ _ (Or.inr (by decide))]; exact ew7325
                      have e7347 : I7339 (ad g 0) 18 = w7326 := by rw [eI7339, pp_ne _ _ (Or.inr (by decide))]; exact ew7326
                      have e7348 : I7339 (ad g 0) 1 = L := by rw [eI7339, pp_ne _ _ (Or.inr (by decide))]; exact e7328
                      have e7349 : I7339 (ad g 0) 5 = v7337 := by rw [eI7339, pp_self]
                      have fr7350 : fs g [3, 4, 5, 6] I I7339 := by rw [eI7339]; exact fs_pp0 fqI7317 (by decide)
                      have fr7351 : fz 49 g [0] I I7339 := by rw [eI7339]; exact fzm_pp hy fiI7317 (by decide) (by decide)
                      clear eI7339
                      refine WP_goto 273 dX11_scan_145 rfl ?_
                      exact WP_vret dX11_scan_273 rfl ⟨⟨hI7339, rfl, fr7351, fjJ7318, fr7350, ⟨(by rw [e7340, e7341, e7342, e7349, ew6937]; omega), (by rw [e7343, ew6932] <;> exact (eq32 _ _).mpr (by omega)), (by rw [e7344, ew6933] <;> exact (eq32 _ _).mpr (by omega)), (by rw [e7345, ew6934] <;> exact (eq32 _ _).mpr (by omega)), (by rw [e7346, ew6935] <;> exact (eq32 _ _).mpr (by omega)), (by rw [e7347, ew6936] <;> exact (eq32 _ _).mpr (by omega))⟩⟩, rfl⟩
                    refine WQ_icmp_le 141 dX11_scan_134 rfl (fun c7351 => ?_) (fun c7351 => ?_)
                    · refine WQ_iconst (1) (1) dX11_scan_141 rfl rfl (fun v7353 hv7353 => ?_)
                      exact WP_sub (fc rfl (fc rfl fn)) (jn142_7337 v7353 (by omega) (by omega))
                    · refine WQ_iconst (4) (4) dX11_scan_137 rfl rfl (fun v7354 hv7354 => ?_)
                      refine WP_goto 142 dX11_scan_138 rfl ?_
                      exact WP_sub (fc rfl (fc rfl fn)) (jn142_7337 v7354 (by omega) (by omega))
                  · refine WP_aload_n dX11_scan_109 rfl ?_
                    refine WP_dup dX11_scan_110 rfl ?_
                    refine WQ_getim dX11_scan_111 fX11_20 rfl (ly_is hy 0 11 rfl) ew7321 ?_
                    refine WQ_iconst (1) (1) dX11_scan_114 rfl rfl (fun v7355 hv7355 => ?_)
                    refine WQ_iadd dX11_scan_115 (by omega) (by omega) (fun v7356 hv7356 => ?_)
                    refine WQ_puti dX11_scan_116 fX11_20 rfl rfl (ly_is hy 0 11 rfl) (fun I7357 eI7357 => ?_)
                    have hI7357 : MP g n L I7357 := by rw [eI7357]; exact (mp_w hy hI7317 (c := 0) (mi_f hy hI7317.1 (c := 0) (0) (0) (900) (by decide) (Or.inr (by decide)) (by decide) (by omega) (by omega)) (by decide) (by decide) (Or.inr (by decide)))
                    have e7358 : I7357 (ad g 0) 2 = w7319 := by rw [eI7357, pp_ne _ _ (Or.inr (by decide))]; exact ew7319
                    have e7359 : I7357 (ad g 0) 3 = w7320 := by rw [eI7357, pp_ne _ _ (Or.inr (by decide))]; exact ew7320
                    have e7360 : I7357 (ad g 0) 7 = w7322 := by rw [eI7357, pp_ne _ _ (Or.inr (by decide))]; exact ew7322
                    have e7361 : I7357 (ad g 0) 15 = w7323 := by rw [eI7357, pp_ne _ _ (Or.inr (by decide))]; exact ew7323
                    have e7362 : I7357 (ad g 0) 16 = w7324 := by rw [eI7357, pp_ne _ _ (Or.inr (by decide))]; exact ew7324
                    have e7363 : I7357 (ad g 0) 17 = w7325 := by rw [eI7357, pp_ne _ _ (Or.inr (by decide))]; exact ew7325
                    have e7364 : I7357 (ad g 0) 18 = w7326 := by rw [eI7357, pp_ne _ _ (Or.inr (by decide))]; exact ew7326
                    have e7365 : I7357 (ad g 0) 1 = L := by rw [eI7357, pp_ne _ _ (Or.inr (by decide))]; exact e7328
                    have e7366 : I7357 (ad g 0) 4 = v7356 := by rw [eI7357, pp_self]
                    have fr7367 : fs g [3, 4, 5, 6] I I7357 := by rw [eI7357]; exact fs_pp0 fqI7317 (by decide)
                    have fr7368 : fz 49 g [0] I I7357 := by rw [eI7357]; exact fzm_pp hy fiI7317 (by decide) (by decide)
                    clear eI7357
                    refine WP_goto 95 dX11_scan_119 rfl ?_
                    exact WP_sub (fc rfl (fc rfl fn)) (ihlp95_7326 I7357 J7318 hI7357 fr7368 fjJ7318 fr7367 w7319 e7358 w7320 e7359 v7356 e7366 w7322 e7360 w7323 e7361 w7324 e7362 w7325 e7363 w7326 e7364 (by omega) (by omega) (by omega) (by omega) (by omega) (by omega) (by omega) (by omega) (by omega))
              exact WP_sub (fc rfl (fc rfl fn)) (lp95_7326 _ I7305 J6940 hI7305 fr7316 fjJ6940 fr7315 w6941 e7306 w6942 e7313 v7304 e7314 w6943 e7307 w6944 e7308 w6945 e7309 w6946 e7310 w6947 e7311 (by omega) (by omega) (by omega) (by omega) (by omega) (by omega) (by omega) (by omega) (Nat.lt_succ_self _))
        · refine WP_aload_n dX11_scan_80 rfl ?_
          refine WQ_iconst (0) (0) dX11_scan_81 rfl rfl (fun v7369 hv7369 => ?_)
          refine WQ_puti dX11_scan_82 fX11_27 rfl rfl (ly_is hy 0 11 rfl) (fun I7370 eI7370 => ?_)
          have hI7370 : MP g n L I7370 := by rw [eI7370]; exact (mp_w hy hI6952 (c := 0) (mi_f hy hI6952.1 (c := 0) (0) (0) (4) (by decide) (Or.inr (by decide)) (by decide) (by omega) (by omega)) (by decide) (by decide) (Or.inr (by decide)))
          have e7371 : I7370 (ad g 0) 2 = w6941 := by rw [eI7370, pp_ne _ _ (Or.inr (by decide))]; exact e6953
          have e7372 : I7370 (ad g 0) 4 = w6942 := by rw [eI7370, pp_ne _ _ (Or.inr (by decide))]; exact e6954
          have e7373 : I7370 (ad g 0) 7 = w6943 := by rw [eI7370, pp_ne _ _ (Or.inr (by decide))]; exact e6955
          have e7374 : I7370 (ad g 0) 15 = w6944 := by rw [eI7370, pp_ne _ _ (Or.inr (by decide))]; exact e6956
          have e7375 : I7370 (ad g 0) 16 = w6945 := by rw [eI7370, pp_ne _ _ (Or.inr (by decide))]; exact e6957
          have e7376 : I7370 (ad g 0) 17 = w6946 := by rw [eI7370, pp_ne _ _ (Or.inr (by decide))]; exact e6958
          have e7377 : I7370 (ad g 0) 18 = w6947 := by rw [eI7370, pp_ne _ _ (Or.inr (by decide))]; exact e6959
          have e7378 : I7370 (ad g 0) 1 = L := by rw [eI7370, pp_ne _ _ (Or.inr (by decide))]; exact e6960
          have e7379 : I7370 (ad g 0) 3 = w6942 := by rw [eI7370, pp_ne _ _ (Or.inr (by decide))]; exact e6961
          have e7380 : I7370 (ad g 0) 5 = v7369 := by rw [eI7370, pp_self]
          have fr7381 : fs g [3, 4, 5, 6] I I7370 := by rw [eI7370]; exact fs_pp0 fr6962 (by decide)
          have fr7382 : fz 49 g [0] I I7370 := by rw [eI7370]; exact fzm_pp hy fr6963 (by decide) (by decide)
          have BI7370 : v6964 = BF g I7370 w6942 := by rw [eI7370, BF_w hy (by decide)]; exact cv6964.2
          clear eI7370
          refine WP_goto 273 dX11_scan_85 rfl ?_
          exact WP_vret dX11_scan_273 rfl ⟨⟨hI7370, rfl, fr7382, fjJ6940, fr7381, ⟨(by rw [e7371, e7379, e7372, e7380, ew6937]; omega), (by rw [e7373, ew6932] <;> exact (eq32 _ _).mpr (by omega)), (by rw [e7374, ew6933] <;> exact (eq32 _ _).mpr (by omega)), (by rw [e7375, ew6934] <;> exact (eq32 _ _).mpr (by omega)), (by rw [e7376, ew6935] <;> exact (eq32 _ _).mpr (by omega)), (by rw [e7377, ew6936] <;> exact (eq32 _ _).mpr (by omega))⟩⟩, rfl⟩
      · refine WP_aload_n dX11_scan_11 rfl ?_
        refine WP_getr dX11_scan_12 fX11_16 rfl (ly_is hy 0 11 rfl) (rf hr 0 0 1 (by decide)) ?_
        refine WP_aload_n dX11_scan_15 rfl ?_
        refine WQ_getim dX11_scan_16 fX11_20 rfl (ly_is hy 0 11 rfl) ew6942 ?_
        refine WQ_baldu dX11_scan_19 (ly_is hy 1 12 rfl) (ly_n hy 1 900 rfl) (by omega) (by omega) (fun v7383 => ?_)
        refine WQ_bipush (32) (32) dX11_scan_20 rfl rfl (fun v7384 hv7384 => ?_)
        refine WQ_icmp_eq 39 dX11_scan_22 rfl (fun c7384 => ?_) (fun c7384 => ?_)
        · refine WP_aload_n dX11_scan_39 rfl ?_
          refine WP_dup dX11_scan_40 rfl ?_
          refine WQ_getim dX11_scan_41 fX11_20 rfl (ly_is hy 0 11 rfl) ew6942 ?_
          refine WQ_iconst (1) (1) dX11_scan_44 rfl rfl (fun v7386 hv7386 => ?_)
          refine WQ_iadd dX11_scan_45 (by omega) (by omega) (fun v7387 hv7387 => ?_)
          refine WQ_puti dX11_scan_46 fX11_20 rfl rfl (ly_is hy 0 11 rfl) (fun I7388 eI7388 => ?_)
          have hI7388 : MP g n L I7388 := by rw [eI7388]; exact (mp_w hy hI6939 (c := 0) (mi_f hy hI6939.1 (c := 0) (0) (0) (900) (by decide) (Or.inr (by decide)) (by decide) (by omega) (by omega)) (by decide) (by decide) (Or.inr (by decide)))
          have e7389 : I7388 (ad g 0) 2 = w6941 := by rw [eI7388, pp_ne _ _ (Or.inr (by decide))]; exact ew6941
          have e7390 : I7388 (ad g 0) 7 = w6943 := by rw [eI7388, pp_ne _ _ (Or.inr (by decide))]; exact ew6943
          have e7391 : I7388 (ad g 0) 15 = w6944 := by rw [eI7388, pp_ne _ _ (Or.inr (by decide))]; exact ew6944
          have e7392 : I7388 (ad g 0) 16 = w6945 := by rw [eI7388, pp_ne _ _ (Or.inr (by decide))]; exact ew6945
          have e7393 : I7388 (ad g 0) 17 = w6946 := by rw [eI7388, pp_ne _ _ (Or.inr (by decide))]; exact ew6946
          have e7394 : I7388 (ad g 0) 18 = w6947 := by rw [eI7388, pp_ne _ _ (Or.inr (by decide))]; exact ew6947
          have e7395 : I7388 (ad g 0) 1 = L := by rw [eI7388, pp_ne _ _ (Or.inr (by decide))]; exact e6949
          have e7396 : I7388 (ad g 0) 4 = v7387 := by rw [eI7388, pp_self]
          have fr7397 : fs g [3, 4, 5, 6] I I7388 := by rw [eI7388]; exact fs_pp0 fqI6939 (by decide)
          have fr7398 : fz 49 g [0] I I7388 := by rw [eI7388]; exact fzm_pp hy fiI6939 (by decide) (by decide)
          clear eI7388
          refine WP_goto 0 dX11_scan_49 rfl ?_
          exact WP_sub (fc rfl fn) (ihlp0_6947 I7388 J6940 hI7388 fr7398 fjJ6940 fr7397 w6941 e7389 v7387 e7396 w6943 e7390 w6944 e7391 w6945 e7392 w6946 e7393 w6947 e7394 (by omega) (by omega) (by omega) (by omega) (by omega) (by omega) (by omega) (by omega))
        · refine WP_aload_n dX11_scan_25 rfl ?_
          refine WP_getr dX11_scan_26 fX11_16 rfl (ly_is hy 0 11 rfl) (rf hr 0 0 1 (by decide)) ?_
          refine WP_aload_n dX11_scan_29 rfl ?_
          refine WQ_getim dX11_scan_30 fX11_20 rfl (ly_is hy 0 11 rfl) ew6942 ?_
          refine WQ_baldu dX11_scan_33 (ly_is hy 1 12 rfl) (ly_n hy 1 900 rfl) (by omega) (by omega) (fun v7399 => ?_)
          refine WQ_bipush (10) (10) dX11_scan_34 rfl rfl (fun v7400 hv7400 => ?_)
          refine WQ_icmp_ne 52 dX11_scan_36 rfl (fun c7400 => ?_) (fun c7400 => ?_)
          · refine WP_aload_n dX11_scan_52 rfl ?_
            refine WP_aload_n dX11_scan_53 rfl ?_
            refine WQ_getim dX11_scan_54 fX11_20 rfl (ly_is hy 0 11 rfl) ew6942 ?_
            refine WQ_puti dX11_scan_57 fX11_7 rfl rfl (ly_is hy 0 11 rfl) (fun I7402 eI7402 => ?_)
            have hI7402 : MP g n L I7402 := by rw [eI7402]; exact (mp_w hy hI6939 (c := 0) (mi_f hy hI6939.1 (c := 0) (0) (0) (900) (by decide) (Or.inr (by decide)) (by decide) (by omega) (by omega)) (by decide) (by decide) (Or.inr (by decide)))
            have e7403 : I7402 (ad g 0) 2 = w6941 := by rw [eI7402, pp_ne _ _ (Or.inr (by decide))]; exact ew6941
            have e7404 : I7402 (ad g 0) 4 = w6942 := by rw [eI7402, pp_ne _ _ (Or.inr (by decide))]; exact ew6942
            have e7405 : I7402 (ad g 0) 7 = w6943 := by rw [eI7402, pp_ne _ _ (Or.inr (by decide))]; exact ew6943
            have e7406 : I7402 (ad g 0) 15 = w6944 := by rw [eI7402, pp_ne _ _ (Or.inr (by decide))]; exact ew6944
            have e7407 : I7402 (ad g 0) 16 = w6945 := by rw [eI7402, pp_ne _ _ (Or.inr (by decide))]; exact ew6945
            have e7408 : I7402 (ad g 0) 17 = w6946 := by rw [eI7402, pp_ne _ _ (Or.inr (by decide))]; exact ew6946
            have e7409 : I7402 (ad g 0) 18 = w6947 := by rw [eI7402, pp_ne _ _ (Or.inr (by decide))]; exact ew6947
            have e7410 : I7402 (ad g 0) 1 = L := by rw [eI7402, pp_ne _ _ (Or.inr (by decide))]; exact e6949
            have e7411 : I7402 (ad g 0) 3 = w6942 := by rw [eI7402, pp_self]
            have fr7412 : fs g [3, 4, 5, 6] I I7402 := by rw [eI7402]; exact fs_pp0 fqI6939 (by decide)
            have fr7413 : fz 49 g [0] I I7402 := by rw [eI7402]; exact fzm_pp hy fiI6939 (by decide) (by decide)
            clear eI7402
            refine WP_aload_n dX11_scan_60 rfl ?_
            refine WP_aload_n dX11_scan_61 rfl ?_
            refine WQ_getim dX11_scan_62 fX11_7 rfl (ly_is hy 0 11 rfl) e7411 ?_
            refine WP_callV1 (k := 11) dX11_scan_65 ⟨⟨⟨by decide, by decide⟩, zX11_byteAt⟩, lX11_23, by decide, rfl, vX11_byteAt.1, vX11_byteAt.2⟩ (ly_is hy 0 11 rfl) (sm_byteAtx hy hr hI7402 w6942 (by omega) (by omega)) (Nat.le_of_ble_eq_true rfl) ?_
            intro r Ia Ja Ra hq
            obtain ⟨⟨ea, eb, ec⟩, v7414, rfl, cv7414⟩ := hq
            show WP _ _ _ _ (.int _ :: _) _ _ _ _
            rw [ea, eb, ec]
            clear ea eb ec Ia Ja Ra
            rw [e7403] at cv7414
            refine WP_istore_n (ls' := [(0, _), (1, _)]) dX11_scan_68 (by decide) rfl ?_
            refine WP_aload_n dX11_scan_69 rfl ?_
            refine WQ_getim dX11_scan_70 fX11_7 rfl (ly_is hy 0 11 rfl) e7411 ?_
            refine WP_aload_n dX11_scan_73 rfl ?_
            refine WQ_getim dX11_scan_74 fX11_13 rfl (ly_is hy 0 11 rfl) e7403 ?_
            refine WQ_icmp_ne 88 dX11_scan_77 rfl (fun c7414 => ?_) (fun c7414 => ?_)
            · refine WP_iload_n dX11_scan_88 rfl ?_
              refine WP_callS1 dX11_scan_89 ⟨⟨⟨by decide, by decide⟩, zX11_isSmall⟩, lX11_30, tX11_isSmall⟩ (sm_isSmall hy hr hI7402 v7414 ) (Nat.le_of_ble_eq_true rfl) ?_
              intro r Ia Ja Ra hq
              obtain ⟨⟨ea, eb, ec⟩, v7416, rfl, av7416, bv7416, cv7416⟩ := hq
              show WP _ _ _ _ (.int _ :: _) _ _ _ _
              rw [ea, eb, ec]
              clear ea eb ec Ia Ja Ra
              refine WQ_if_eq 148 dX11_scan_92 rfl (fun c7416 => ?_) (fun c7416 => ?_)
              · refine WP_iload_n dX11_scan_148 rfl ?_
                refine WP_callS1 dX11_scan_149 ⟨⟨⟨by decide, by decide⟩, zX11_isDigit⟩, lX11_34, tX11_isDigit⟩ (sm_isDigit hy hr hI7402 v7414 ) (Nat.le_of_ble_eq_true rfl) ?_
                intro r Ia Ja Ra hq
                obtain ⟨⟨ea, eb, ec⟩, v7418, rfl, av7418, bv7418, cv7418⟩ := hq
                show WP _ _ _ _ (.int _ :: _) _ _ _ _
                rw [ea, eb, ec]
                clear ea eb ec Ia Ja Ra
                refine WQ_if_eq 248 dX11_scan_152 rfl (fun c7418 => ?_) (fun c7418 => ?_)
                · refine WP_aload_n dX11_scan_248 rfl ?_
                  refine WP_iload_n dX11_scan_249 rfl ?_
                  refine WQ_bipush (59) (59) dX11_scan_250 rfl rfl (fun v7420 hv7420 => ?_)
                  have jn260_7423 : ∀ (v7423 : Int32), 3 ≤ v7423.toInt → v7423.toInt ≤ 4 → WP g mX11_scan 260 [(0, .ref (ad g 0)), (1, .int v7414)] [.int v7423, .ref (ad g 0)] I7402 J6940 R (fun r I' J' R' => (MP g n L I' ∧ R' = R ∧ fz 49 g [0] I I' ∧ fz 49 g [] J J' ∧ fs g [3, 4, 5, 6] I I' ∧ (((I' (ad g 0) 4).toInt ≤ (I' (ad g 0) 2).toInt ∧ (I' (ad g 0) 3).toInt ≤ (I' (ad g 0) 4).toInt ∧ ((I' (ad g 0) 5).toInt = 0 ∨ (I' (ad g 0) 3).toInt < (I' (ad g 0) 4).toInt)) ∧ (I (ad g 0) 4).toInt ≤ (I' (ad g 0) 3).toInt) ∧ I' (ad g 0) 7 = I (ad g 0) 7 ∧ I' (ad g 0) 15 = I (ad g 0) 15 ∧ I' (ad g 0) 16 = I (ad g 0) 16 ∧ I' (ad g 0) 17 = I (ad g 0) 17 ∧ I' (ad g 0) 18 = I (ad g 0) 18) ∧ r = none) := by
                    intro v7423 av7423 bv7423
                    refine WQ_puti dX11_scan_260 fX11_27 rfl rfl (ly_is hy 0 11 rfl) (fun I7425 eI7425 => ?_)
                    have hI7425 : MP g n L I7425 := by rw [eI7425]; exact (mp_w hy hI7402 (c := 0) (mi_f hy hI7402.1 (c := 0) (0) (0) (4) (by decide) (Or.inr (by decide)) (by decide) (by omega) (by omega)) (by decide) (by decide) (Or.inr (by decide)))
                    have e7426 : I7425 (ad g 0) 2 = w6941 := by rw [eI7425, pp_ne _ _ (Or.inr (by decide))]; exact e7403
                    have e7427 : I7425 (ad g 0) 4 = w6942 := by rw [eI7425, pp_ne _ _ (Or.inr (by decide))]; exact e7404
                    have e7428 : I7425 (ad g 0) 7 = w6943 := by rw [eI7425, pp_ne _ _ (Or.inr (by decide))]; exact e7405
                    have e7429 : I7425 (ad g 0) 15 = w6944 := by rw [eI7425, pp_ne _ _ (Or.inr (by decide))]; exact e7406
                    have e7430 : I7425 (ad g 0) 16 = w6945 := by rw [eI7425, pp_ne _ _ (Or.inr (by decide))]; exact e7407
                    have e7431 : I7425 (ad g 0) 17 = w6946 := by rw [eI7425, pp_ne _ _ (Or.inr (by decide))]; exact e7408
                    have e7432 : I7425 (ad g 0) 18 = w6947 := by rw [eI7425, pp_ne _ _ (Or.inr (by decide))]; exact e7409
                    have e7433 : I7425 (ad g 0) 1 = L := by rw [eI7425, pp_ne _ _ (Or.inr (by decide))]; exact e7410
                    have e7434 : I7425 (ad g 0) 3 = w6942 := by rw [eI7425, pp_ne _ _ (Or.inr (by decide))]; exact e7411
                    have e7435 : I7425 (ad g 0) 5 = v7423 := by rw [eI7425, pp_self]
                    have fr7436 : fs g [3, 4, 5, 6] I I7425 := by rw [eI7425]; exact fs_pp0 fr7412 (by decide)
                    have fr7437 : fz 49 g [0] I I7425 := by rw [eI7425]; exact fzm_pp hy fr7413 (by decide) (by decide)
                    have BI7425 : v7414 = BF g I7425 w6942 := by rw [eI7425, BF_w hy (by decide)]; exact cv7414.2
                    clear eI7425
                    refine WP_aload_n dX11_scan_263 rfl ?_
                    refine WP_dup dX11_scan_264 rfl ?_
                    refine WQ_getim dX11_scan_265 fX11_20 rfl (ly_is hy 0 11 rfl) e7427 ?_
                    refine WQ_iconst (1) (1) dX11_scan_268 rfl rfl (fun v7438 hv7438 => ?_)
                    refine WQ_iadd dX11_scan_269 (by omega) (by omega) (fun v7439 hv7439 => ?_)
                    refine WQ_puti dX11_scan_270 fX11_20 rfl rfl (ly_is hy 0 11 rfl) (fun I7440 eI7440 => ?_)
                    have hI7440 : MP g n L I7440 := by rw [eI7440]; exact (mp_w hy hI7425 (c := 0) (mi_f hy hI7425.1 (c := 0) (0) (0) (900) (by decide) (Or.inr (by decide)) (by decide) (by omega) (by omega)) (by decide) (by decide) (Or.inr (by decide)))
                    have e7441 : I7440 (ad g 0) 2 = w6941 := by rw [eI7440, pp_ne _ _ (Or.inr (by decide))]; exact e7426
                    have e7442 : I7440 (ad g 0) 7 = w6943 := by rw [eI7440, pp_ne _ _ (Or.inr (by decide))]; exact e7428
                    have e7443 : I7440 (ad g 0) 15 = w6944 := by rw [eI7440, pp_ne _ _ (Or.inr (by decide))]; exact e7429
                    have e7444 : I7440 (ad g 0) 16 = w6945 := by rw [eI7440, pp_ne _ _ (Or.inr (by decide))]; exact e7430
                    have e7445 : I7440 (ad g 0) 17 = w6946 := by rw [eI7440, pp_ne _ _ (Or.inr (by decide))]; exact e7431
                    have e7446 : I7440 (ad g 0) 18 = w6947 := by rw [eI7440, pp_ne _ _ (Or.inr (by decide))]; exact e7432
                    have e7447 : I7440 (ad g 0) 1 = L := by rw [eI7440, pp_ne _ _ (Or.inr (by decide))]; exact e7433
                    have e7448 : I7440 (ad g 0) 3 = w6942 := by rw [eI7440, pp_ne _ _ (Or.inr (by decide))]; exact e7434
                    have e7449 : I7440 (ad g 0) 5 = v7423 := by rw [eI7440, pp_ne _ _ (Or.inr (by decide))]; exact e7435
                    have e7450 : I7440 (ad g 0) 4 = v7439 := by rw [eI7440, pp_self]
                    have fr7451 : fs g [3, 4, 5, 6] I I7440 := by rw [eI7440]; exact fs_pp0 fr7436 (by decide)
                    have fr7452 : fz 49 g [0] I I7440 := by rw [eI7440]; exact fzm_pp hy fr7437 (by decide) (by decide)
                    have BI7440 : v7414 = BF g I7440 w6942 := by rw [eI7440, BF_w hy (by decide)]; exact BI7425
                    clear eI7440
                    exact WP_vret dX11_scan_273 rfl ⟨⟨hI7440, rfl, fr7452, fjJ6940, fr7451, ⟨(by rw [e7441, e7448, e7450, e7449, ew6937]; omega), (by rw [e7442, ew6932] <;> exact (eq32 _ _).mpr (by omega)), (by rw [e7443, ew6933] <;> exact (eq32 _ _).mpr (by omega)), (by rw [e7444, ew6934] <;> exact (eq32 _ _).mpr (by omega)), (by rw [e7445, ew6935] <;> exact (eq32 _ _).mpr (by omega)), (by rw [e7446, ew6936] <;> exact (eq32 _ _).mpr (by omega))⟩⟩, rfl⟩
                  refine WQ_icmp_ne 259 dX11_scan_252 rfl (fun c7452 => ?_) (fun c7452 => ?_)
                  · refine WQ_iconst (4) (4) dX11_scan_259 rfl rfl (fun v7454 hv7454 => ?_)
                    exact WP_sub (fc rfl (fc rfl fn)) (jn260_7423 v7454 (by omega) (by omega))
                  · refine WQ_iconst (3) (3) dX11_scan_255 rfl rfl (fun v7455 hv7455 => ?_)
                    refine WP_goto 260 dX11_scan_256 rfl ?_
                    exact WP_sub (fc rfl (fc rfl fn)) (jn260_7423 v7455 (by omega) (by omega))
                · refine WP_aload_n dX11_scan_155 rfl ?_
                  refine WQ_iconst (0) (0) dX11_scan_156 rfl rfl (fun v7456 hv7456 => ?_)
                  refine WQ_puti dX11_scan_157 fX11_37 rfl rfl (ly_is hy 0 11 rfl) (fun I7457 eI7457 => ?_)
                  have hI7457 : MP g n L I7457 := by rw [eI7457]; exact (mp_w hy hI7402 (c := 0) (mi_f0 hy hI7402.1 (c := 0) (by decide) (Or.inr (by decide)) (by decide)) (by decide) (by decide) (Or.inr (by decide)))
                  have e7458 : I7457 (ad g 0) 2 = w6941 := by rw [eI7457, pp_ne _ _ (Or.inr (by decide))]; exact e7403
                  have e7459 : I7457 (ad g 0) 4 = w6942 := by rw [eI7457, pp_ne _ _ (Or.inr (by decide))]; exact e7404
                  have e7460 : I7457 (ad g 0) 7 = w6943 := by rw [eI7457, pp_ne _ _ (Or.inr (by decide))]; exact e7405
                  have e7461 : I7457 (ad g 0) 15 = w6944 := by rw [eI7457, pp_ne _ _ (Or.inr (by decide))]; exact e7406
                  have e7462 : I7457 (ad g 0) 16 = w6945 := by rw [eI7457, pp_ne _ _ (Or.inr (by decide))]; exact e7407
                  have e7463 : I7457 (ad g 0) 17 = w6946 := by rw [eI7457, pp_ne _ _ (Or.inr (by decide))]; exact e7408
                  have e7464 : I7457 (ad g 0) 18 = w6947 := by rw [eI7457, pp_ne _ _ (Or.inr (by decide))]; exact e7409
                  have e7465 : I7457 (ad g 0) 1 = L := by rw [eI7457, pp_ne _ _ (Or.inr (by decide))]; exact e7410
                  have e7466 : I7457 (ad g 0) 3 = w6942 := by rw [eI7457, pp_ne _ _ (Or.inr (by decide))]; exact e7411
                  have e7467 : I7457 (ad g 0) 6 = v7456 := by rw [eI7457, pp_self]
                  have fr7468 : fs g [3, 4, 5, 6] I I7457 := by rw [eI7457]; exact fs_pp0 fr7412 (by decide)
                  have fr7469 : fz 49 g [0] I I7457 := by rw [eI7457]; exact fzm_pp hy fr7413 (by decide) (by decide)
                  have BI7457 : v7414 = BF g I7457 w6942 := by rw [eI7457, BF_w hy (by decide)]; exact cv7414.2
                  clear eI7457
                  refine WP_aload_n dX11_scan_160 rfl ?_
                  refine WP_aload_n dX11_scan_161 rfl ?_
                  refine WQ_getim dX11_scan_162 fX11_20 rfl (ly_is hy 0 11 rfl) e7459 ?_
                  refine WP_callV1 (k := 11) dX11_scan_165 ⟨⟨⟨by decide, by decide⟩, zX11_byteAt⟩, lX11_23, by decide, rfl, vX11_byteAt.1, vX11_byteAt.2⟩ (ly_is hy 0 11 rfl) (sm_byteAtx hy hr hI7457 w6942 (by omega) (by omega)) (Nat.le_of_ble_eq_true rfl) ?_
                  intro r Ia Ja Ra hq
                  obtain ⟨⟨ea, eb, ec⟩, v7470, rfl, cv7470⟩ := hq
                  show WP _ _ _ _ (.int _ :: _) _ _ _ _
                  rw [ea, eb, ec]
                  clear ea eb ec Ia Ja Ra
                  rw [e7458] at cv7470
                  have ttv7470 : v7470.toInt = v7414.toInt := by rw [cv7470.2, ← BI7457]
                  refine WP_callS1 dX11_scan_168 ⟨⟨⟨by decide, by decide⟩, zX11_isDigit⟩, lX11_34, tX11_isDigit⟩ (sm_isDigit hy hr hI7457 v7470 ) (Nat.le_of_ble_eq_true rfl) ?_
                  intro r Ia Ja Ra hq
                  obtain ⟨⟨ea, eb, ec⟩, v7471, rfl, av7471, bv7471, cv7471⟩ := hq
                  show WP _ _ _ _ (.int _ :: _) _ _ _ _
                  rw [ea, eb, ec]
                  clear ea eb ec Ia Ja Ra
                  refine WQ_if_eq 223 dX11_scan_171 rfl (fun c7471 => ?_) (fun c7471 => ?_)
                  · refine WP_aload_n dX11_scan_223 rfl ?_
                    refine WP_aload_n dX11_scan_224 rfl ?_
                    refine WQ_getim dX11_scan_225 fX11_20 rfl (ly_is hy 0 11 rfl) e7459 ?_
                    refine WP_aload_n dX11_scan_228 rfl ?_
                    refine WQ_getim dX11_scan_229 fX11_7 rfl (ly_is hy 0 11 rfl) e7466 ?_
                    refine WQ_isub dX11_scan_232 (by omega) (by omega) (fun v7473 hv7473 => ?_)
                    refine WQ_iconst (4) (4) dX11_scan_233 rfl rfl (fun v7474 hv7474 => ?_)
                    have jn242_7477 : ∀ (v7477 : Int32), 2 ≤ v7477.toInt → v7477.toInt ≤ 4 → WP g mX11_scan 242 [(0, .ref (ad g 0)), (1, .int v7414)] [.int v7477, .ref (ad g 0)] I7457 J6940 R (fun r I' J' R' => (MP g n L I' ∧ R' = R ∧ fz 49 g [0] I I' ∧ fz 49 g [] J J' ∧ fs g [3, 4, 5, 6] I I' ∧ (((I' (ad g 0) 4).toInt ≤ (I' (ad g 0) 2).toInt ∧ (I' (ad g 0) 3).toInt ≤ (I' (ad g 0) 4).toInt ∧ ((I' (ad g 0) 5).toInt = 0 ∨ (I' (ad g 0) 3).toInt < (I' (ad g 0) 4).toInt)) ∧ (I (ad g 0) 4).toInt ≤ (I' (ad g 0) 3).toInt) ∧ I' (ad g 0) 7 = I (ad g 0) 7 ∧ I' (ad g 0) 15 = I (ad g 0) 15 ∧ I' (ad g 0) 16 = I (ad g 0) 16 ∧ I' (ad g 0) 17 = I (ad g 0) 17 ∧ I' (ad g 0) 18 = I (ad g 0) 18) ∧ r = none) := by
                      intro v7477 av7477 bv7477
                      refine WQ_puti dX11_scan_242 fX11_27 rfl rfl (ly_is hy 0 11 rfl) (fun I7479 eI7479 => ?_)
                      have hI7479 : MP g n L I7479 := by rw [eI7479]; exact (mp_w hy hI7457 (c := 0) (mi_f hy hI7457.1 (c := 0) (0) (0) (4) (by decide) (Or.inr (by decide)) (by decide) (by omega) (by omega)) (by decide) (by decide) (Or.inr (by decide)))
                      have e7480 : I7479 (ad g 0) 2 = w6941 := by rw [eI7479, pp_ne _ _ (Or.inr (by decide))]; exact e7458
                      have e7481 : I7479 (ad g 0) 4 = w6942 := by rw [eI7479, pp_ne _ _ (Or.inr (by decide))]; exact e7459
                      have e7482 : I7479 (ad g 0) 7 = w6943 := by rw [eI7479, pp_ne _ _ (Or.inr (by decide))]; exact e7460
                      have e7483 : I7479 (ad g 0) 15 = w6944 := by rw [eI7479, pp_ne _ _ (Or.inr (by decide))]; exact e7461
                      have e7484 : I7479 (ad g 0) 16 = w6945 := by rw [eI7479, pp_ne _ _ (Or.inr (by decide))]; exact e7462
                      have e7485 : I7479 (ad g 0) 17 = w6946 := by rw [eI7479, pp_ne _ _ (Or.inr (by decide))]; exact e7463
                      have e7486 : I7479 (ad g 0) 18 = w6947 := by rw [eI7479, pp_ne _ _ (Or.inr (by decide))]; exact e7464
                      have e7487 : I7479 (ad g 0) 1 = L := by rw [eI7479, pp_ne _ _ (Or.inr (by decide))]; exact e7465
                      have e7488 : I7479 (ad g 0) 3 = w6942 := by rw [eI7479, pp_ne _ _ (Or.inr (by decide))]; exact e7466
                      have e7489 : I7479 (ad g 0) 6 = v7456 := by rw [eI7479, pp_ne _ _ (Or.inr (by decide))]; exact e7467
                      have e7490 : I7479 (ad g 0) 5 = v7477 := by rw [eI7479, pp_self]
                      have fr7491 : fs g [3, 4, 5, 6] I I7479 := by rw [eI7479]; exact fs_pp0 fr7468 (by decide)
                      have fr7492 : fz 49 g [0] I I7479 := by rw [eI7479]; exact fzm_pp hy fr7469 (by decide) (by decide)
                      have BI7479 : v7414 = BF g I7479 w6942 := by rw [eI7479, BF_w hy (by decide)]; exact BI7457
                      clear eI7479
                      refine WP_goto 273 dX11_scan_245 rfl ?_
                      exact WP_vret dX11_scan_273 rfl ⟨⟨hI7479, rfl, fr7492, fjJ6940, fr7491, ⟨(by rw [e7480, e7488, e7481, e7490, ew6937]; omega), (by rw [e7482, ew6932] <;> exact (eq32 _ _).mpr (by omega)), (by rw [e7483, ew6933] <;> exact (eq32 _ _).mpr (by omega)), (by rw [e7484, ew6934] <;> exact (eq32 _ _).mpr (by omega)), (by rw [e7485, ew6935] <;> exact (eq32 _ _).mpr (by omega)), (by rw [e7486, ew6936] <;> exact (eq32 _ _).mpr (by omega))⟩⟩, rfl⟩
                    refine WQ_icmp_le 241 dX11_scan_234 rfl (fun c7492 => ?_) (fun c7492 => ?_)
                    · refine WQ_iconst (2) (2) dX11_scan_241 rfl rfl (fun v7494 hv7494 => ?_)
                      exact WP_sub (fc rfl (fc rfl fn)) (jn242_7477 v7494 (by omega) (by omega))
                    · refine WQ_iconst (4) (4) dX11_scan_237 rfl rfl (fun v7495 hv7495 => ?_)
                      refine WP_goto 242 dX11_scan_238 rfl ?_
                      exact WP_sub (fc rfl (fc rfl fn)) (jn242_7477 v7495 (by omega) (by omega))
                  · refine WP_aload_n dX11_scan_174 rfl ?_
                    refine WQ_getim dX11_scan_175 fX11_20 rfl (ly_is hy 0 11 rfl) e7459 ?_
                    refine WP_aload_n dX11_scan_178 rfl ?_
                    refine WQ_getim dX11_scan_179 fX11_7 rfl (ly_is hy 0 11 rfl) e7466 ?_
                    refine WQ_isub dX11_scan_182 (by omega) (by omega) (fun v7496 hv7496 => ?_)
                    refine WQ_iconst (4) (4) dX11_scan_183 rfl rfl (fun v7497 hv7497 => ?_)
                    refine WQ_icmp_ge 210 dX11_scan_184 rfl (fun c7497 => ?_) (fun c7497 => ?_)
                    · refine WP_aload_n dX11_scan_210 rfl ?_
                      refine WP_dup dX11_scan_211 rfl ?_
                      refine WQ_getim dX11_scan_212 fX11_20 rfl (ly_is hy 0 11 rfl) e7459 ?_
                      refine WQ_iconst (1) (1) dX11_scan_215 rfl rfl (fun v7499 hv7499 => ?_)
                      refine WQ_iadd dX11_scan_216 (by omega) (by omega) (fun v7500 hv7500 => ?_)
                      refine WQ_puti dX11_scan_217 fX11_20 rfl rfl (ly_is hy 0 11 rfl) (fun I7501 eI7501 => ?_)
                      have hI7501 : MP g n L I7501 := by rw [eI7501]; exact (mp_w hy hI7457 (c := 0) (mi_f hy hI7457.1 (c := 0) (0) (0) (900) (by decide) (Or.inr (by decide)) (by decide) (by omega) (by omega)) (by decide) (by decide) (Or.inr (by decide)))
                      have e7502 : I7501 (ad g 0) 2 = w6941 := by rw [eI7501, pp_ne _ _ (Or.inr (by decide))]; exact e7458
                      have e7503 : I7501 (ad g 0) 7 = w6943 := by rw [eI7501, pp_ne _ _ (Or.inr (by decide))]; exact e7460
                      have e7504 : I7501 (ad g 0) 15 = w6944 := by rw [eI7501, pp_ne _ _ (Or.inr (by decide))]; exact e7461
                      have e7505 : I7501 (ad g 0) 16 = w6945 := by rw [eI7501, pp_ne _ _ (Or.inr (by decide))]; exact e7462
                      have e7506 : I7501 (ad g 0) 17 = w6946 := by rw [eI7501, pp_ne _ _ (Or.inr (by decide))]; exact e7463
                      have e7507 : I7501 (ad g 0) 18 = w6947 := by rw [eI7501, pp_ne _ _ (Or.inr (by decide))]; exact e7464
                      have e7508 : I7501 (ad g 0) 1 = L := by rw [eI7501, pp_ne _ _ (Or.inr (by decide))]; exact e7465
                      have e7509 : I7501 (ad g 0) 3 = w6942 := by rw [eI7501, pp_ne _ _ (Or.inr (by decide))]; exact e7466
                      have e7510 : I7501 (ad g 0) 6 = v7456 := by rw [eI7501, pp_ne _ _ (Or.inr (by decide))]; exact e7467
                      have e7511 : I7501 (ad g 0) 4 = v7500 := by rw [eI7501, pp_self]
                      have fr7512 : fs g [3, 4, 5, 6] I I7501 := by rw [eI7501]; exact fs_pp0 fr7468 (by decide)
                      have fr7513 : fz 49 g [0] I I7501 := by rw [eI7501]; exact fzm_pp hy fr7469 (by decide) (by decide)
                      have BI7501 : v7414 = BF g I7501 w6942 := by rw [eI7501, BF_w hy (by decide)]; exact BI7457
                      clear eI7501
                      refine WP_goto 160 dX11_scan_220 rfl ?_
                      have lp160_7523 : ∀ (mz : Nat)  (I7514 : pI) (J7515 : pJ), MP g n L I7514 → fz 49 g [0] I I7514 → fz 49 g [] J J7515 → fs g [3, 4, 5, 6] I I7514 → ∀ (w7516 : Int32), I7514 (ad g 0) 2 = w7516 → ∀ (w7517 : Int32), I7514 (ad g 0) 3 = w7517 → ∀ (w7518 : Int32), I7514 (ad g 0) 4 = w7518 → ∀ (w7519 : Int32), I7514 (ad g 0) 7 = w7519 → ∀ (w7520 : Int32), I7514 (ad g 0) 15 = w7520 → ∀ (w7521 : Int32), I7514 (ad g 0) 16 = w7521 → ∀ (w7522 : Int32), I7514 (ad g 0) 17 = w7522 → ∀ (w7523 : Int32), I7514 (ad g 0) 18 = w7523 → w7518.toInt ≤ w7516.toInt → w7517.toInt < w7518.toInt → w6937.toInt ≤ w7517.toInt → w7519.toInt = w6932.toInt → w7520.toInt = w6933.toInt → w7521.toInt = w6934.toInt → w7522.toInt = w6935.toInt → w7523.toInt = w6936.toInt → (901 - w7518.toInt).toNat < mz → WP g mX11_scan 160 [(0, .ref (ad g 0)), (1, .int v7414)] [] I7514 J7515 R (fun r I' J' R' => (MP g n L I' ∧ R' = R ∧ fz 49 g [0] I I' ∧ fz 49 g [] J J' ∧ fs g [3, 4, 5, 6] I I' ∧ (((I' (ad g 0) 4).toInt ≤ (I' (ad g 0) 2).toInt ∧ (I' (ad g 0) 3).toInt ≤ (I' (ad g 0) 4).toInt ∧ ((I' (ad g 0) 5).toInt = 0 ∨ (I' (ad g 0) 3).toInt < (I' (ad g 0) 4).toInt)) ∧ (I (ad g 0) 4).toInt ≤ (I' (ad g 0) 3).toInt) ∧ I' (ad g 0) 7 = I (ad g 0) 7 ∧ I' (ad g 0) 15 = I (ad g 0) 15 ∧ I' (ad g 0) 16 = I (ad g 0) 16 ∧ I' (ad g 0) 17 = I (ad g 0) 17 ∧ I' (ad g 0) 18 = I (ad g 0) 18) ∧ r = none) := by
                        intro mz
                        induction mz with
                        | zero =>
                          intro  I7514 J7515 hI7514 fiI7514 fjJ7515 fqI7514 w7516 ew7516 w7517 ew7517 w7518 ew7518 w7519 ew7519 w7520 ew7520 w7521 ew7521 w7522 ew7522 w7523 ew7523 j0_I7514 j1_I7514 j2_I7514 j3_I7514 j4_I7514 j5_I7514 j6_I7514 j7_I7514 hmlp160_7523
                          exact absurd hmlp160_7523 (Nat.not_lt_zero _)
                        | succ mz ihlp160_7523 =>
                          intro  I7514 J7515 hI7514 fiI7514 fjJ7515 fqI7514 w7516 ew7516 w7517 ew7517 w7518 ew7518 w7519 ew7519 w7520 ew7520 w7521 ew7521 w7522 ew7522 w7523 ew7523 j0_I7514 j1_I7514 j2_I7514 j3_I7514 j4_I7514 j5_I7514 j6_I7514 j7_I7514 hmlp160_7523
                          have bw7516 := BT_get hI7514.1.1 0 2 3 (0) (0) (900) (by decide) 2 (by decide) (by decide)
                          rw [ew7516] at bw7516
                          have bw7517 := BT_get hI7514.1.1 0 3 4 (0) (0) (900) (by decide) 3 (by decide) (by decide)
                          rw [ew7517] at bw7517
                          have bw7518 := BT_get hI7514.1.1 0 4 5 (0) (0) (900) (by decide) 4 (by decide) (by decide)
                          rw [ew7518] at bw7518
                          have bw7519 := BT_get hI7514.1.1 0 7 8 (-1) (0) (1000) (by decide) 7 (by decide) (by decide)
                          rw [ew7519] at bw7519
                          have bw7520 := BT_get hI7514.1.1 0 15 16 (0) (0) (4) (by decide) 15 (by decide) (by decide)
                          rw [ew7520] at bw7520
                          have bw7521 := BT_get hI7514.1.1 0 16 17 (0) (0) (3) (by decide) 16 (by decide) (by decide)
                          rw [ew7521] at bw7521
                          have bw7522 := BT_get hI7514.1.1 0 17 18 (-1) (0) (3) (by decide) 17 (by decide) (by decide)
                          rw [ew7522] at bw7522
                          have bw7523 := BT_get hI7514.1.1 0 18 19 (-1) (0) (2) (by decide) 18 (by decide) (by decide)
                          rw [ew7523] at bw7523
                          have e7525 : I7514 (ad g 0) 1 = L := hI7514.1.2
                          have b7526 := BT_get hI7514.1.1 0 1 2 (0) (0) (900) (by decide) 1 (by decide) (by decide)
                          rw [e7525] at b7526
                          refine WP_aload_n dX11_scan_160 rfl ?_
                          refine WP_aload_n dX11_scan_161 rfl ?_
                          refine WQ_getim dX11_scan_162 fX11_20 rfl (ly_is hy 0 11 rfl) ew7518 ?_
                          refine WP_callV1 (k := 11) dX11_scan_165 ⟨⟨⟨by decide, by decide⟩, zX11_byteAt⟩, lX11_23, by decide, rfl, vX11_byteAt.1, vX11_byteAt.2⟩ (ly_is hy 0 11 rfl) (sm_byteAtx hy hr hI7514 w7518 (by omega) (by omega)) (Nat.le_of_ble_eq_true rfl) ?_
                          intro r Ia Ja Ra hq
                          obtain ⟨⟨ea, eb, ec⟩, v7527, rfl, cv7527⟩ := hq
                          show WP _ _ _ _ (.int _ :: _) _ _ _ _
                          rw [ea, eb, ec]
                          clear ea eb ec Ia Ja Ra
                          rw [ew7516] at cv7527
                          refine WP_callS1 dX11_scan_168 ⟨⟨⟨by decide, by decide⟩, zX11_isDigit⟩, lX11_34, tX11_isDigit⟩ (sm_isDigit hy hr hI7514 v7527 ) (Nat.le_of_ble_eq_true rfl) ?_
                          intro r Ia Ja Ra hq
                          obtain ⟨⟨ea, eb, ec⟩, v7528, rfl, av7528, bv7528, cv7528⟩ := hq
                          show WP _ _ _ _ (.int _ :: _) _ _ _ _
                          rw [ea, eb, ec]
                          clear ea eb ec Ia Ja Ra
                          refine WQ_if_eq 223 dX11_scan_171 rfl (fun c7528 => ?_) (fun c7528 => ?_)
                          · refine WP_aload_n dX11_scan_223 rfl ?_
                            refine WP_aload_n dX11_scan_224 rfl ?_
                            refine WQ_getim dX11_scan_225 fX11_20 rfl (ly_is hy 0 11 rfl) ew7518 ?_
                            refine WP_aload_n dX11_scan_228 rfl ?_
                            refine WQ_getim dX11_scan_229 fX11_7 rfl (ly_is hy 0 11 rfl) ew7517 ?_
                            refine WQ_isub dX11_scan_232 (by omega) (by omega) (fun v7530 hv7530 => ?_)
                            refine WQ_iconst (4) (4) dX11_scan_233 rfl rfl (fun v7531 hv7531 => ?_)
                            have jn242_7534 : ∀ (v7534 : Int32), 2 ≤ v7534.toInt → v7534.toInt ≤ 4 → WP g mX11_scan 242 [(0, .ref (ad g 0)), (1, .int v7414)] [.int v7534, .ref (ad g 0)] I7514 J7515 R (fun r I' J' R' => (MP g n L I' ∧ R' = R ∧ fz 49 g [0] I I' ∧ fz 49 g [] J J' ∧ fs g [3, 4, 5, 6] I I' ∧ (((I' (ad g 0) 4).toInt ≤ (I' (ad g 0) 2).toInt ∧ (I' (ad g 0) 3).toInt ≤ (I' (ad g 0) 4).toInt ∧ ((I' (ad g 0) 5).toInt = 0 ∨ (I' (ad g 0) 3).toInt < (I' (ad g 0) 4).toInt)) ∧ (I (ad g 0) 4).toInt ≤ (I' (ad g 0) 3).toInt) ∧ I' (ad g 0) 7 = I (ad g 0) 7 ∧ I' (ad g 0) 15 = I (ad g 0) 15 ∧ I' (ad g 0) 16 = I (ad g 0) 16 ∧ I' (ad g 0) 17 = I (ad g 0) 17 ∧ I' (ad g 0) 18 = I (ad g 0) 18) ∧ r = none) := by
                              intro v7534 av7534 bv7534
                              refine WQ_puti dX11_scan_242 fX11_27 rfl rfl (ly_is hy 0 11 rfl) (fun I7536 eI7536 => ?_)
                              have hI7536 : MP g n L I7536 := by rw [eI7536]; exact (mp_w hy hI7514 (c := 0) (mi_f hy hI7514.1 (c := 0) (0) (0) (4) (by decide) (Or.inr (by decide)) (by decide) (by omega) (by omega)) (by decide) (by decide) (Or.inr (by decide)))
                              have e7537 : I7536 (ad g 0) 2 = w7516 := by rw [eI7536, pp_ne _ _ (Or.inr (by decide))]; exact ew7516
                              have e7538 : I7536 (ad g 0) 3 = w7517 := by rw [eI7536, pp_ne _ _ (Or.inr (by decide))]; exact ew7517
                              have e7539 : I7536 (ad g 0) 4 = w7518 := by rw [eI7536, pp_ne _ _ (Or.inr (by decide))]; exact ew7518
                              have e7540 : I7536 (ad g 0) 7 = w7519 := by rw [eI7536, pp_ne _ _ (Or.inr (by decide))]; exact ew7519
                              have e7541 : I7536 (ad g 0) 15 = w7520 := by rw [eI7536, pp_ne _ _ (Or.inr (by decide))]; exact ew7520
                              have e7542 : I7536 (ad g 0) 16 = w7521 := by rw [eI7536, pp_ne _ _ (Or.inr (by decide))]; exact ew7521
                              have e7543 : I7536 (ad g 0) 17 = w7522 := by rw [eI7536, pp_ne _ _ (Or.inr (by decide))]; exact ew7522
                              have e7544 : I7536 (ad g 0) 18 = w7523 := by rw [eI7536, pp_ne _ _ (Or.inr (by decide))]; exact ew7523
                              have e7545 : I7536 (ad g 0) 1 = L := by rw [eI7536, pp_ne _ _ (Or.inr (by decide))]; exact e7525
                              have e7546 : I7536 (ad g 0) 5 = v7534 := by rw [eI7536, pp_self]
                              have fr7547 : fs g [3, 4, 5, 6] I I7536 := by rw [eI7536]; exact fs_pp0 fqI7514 (by decide)
                              have fr7548 : fz 49 g [0] I I7536 := by rw [eI7536]; exact fzm_pp hy fiI7514 (by decide) (by decide)
                              clear eI7536
                              refine WP_goto 273 dX11_scan_245 rfl ?_
                              exact WP_vret dX11_scan_273 rfl ⟨⟨hI7536, rfl, fr7548, fjJ7515, fr7547, ⟨(by rw [e7537, e7538, e7539, e7546, ew6937]; omega), (by rw [e7540, ew6932] <;> exact (eq32 _ _).mpr (by omega)), (by rw [e7541, ew6933] <;> exact (eq32 _ _).mpr (by omega)), (by rw [e7542, ew6934] <;> exact (eq32 _ _).mpr (by omega)), (by rw [e7543, ew6935] <;> exact (eq32 _ _).mpr (by omega)), (by rw [e7544, ew6936] <;> exact (eq32 _ _).mpr (by omega))⟩⟩, rfl⟩
                            refine WQ_icmp_le 241 dX11_scan_234 rfl (fun c7548 => ?_) (fun c7548 => ?_)
                            · refine WQ_iconst (2) (2) dX11_scan_241 rfl rfl (fun v7550 hv7550 => ?_)
                              exact WP_sub (fc rfl (fc rfl fn)) (jn242_7534 v7550 (by omega) (by omega))
                            · refine WQ_iconst (4) (4) dX11_scan_237 rfl rfl (fun v7551 hv7551 => ?_)
                              refine WP_goto 242 dX11_scan_238 rfl ?_
                              exact WP_sub (fc rfl (fc rfl fn)) (jn242_7534 v7551 (by omega) (by omega))
                          · refine WP_aload_n dX11_scan_174 rfl ?_
                            refine WQ_getim dX11_scan_175 fX11_20 rfl (ly_is hy 0 11 rfl) ew7518 ?_
                            refine WP_aload_n dX11_scan_178 rfl ?_
                            refine WQ_getim dX11_scan_179 fX11_7 rfl (ly_is hy 0 11 rfl) ew7517 ?_
                            refine WQ_isub dX11_scan_182 (by omega) (by omega) (fun v7552 hv7552 => ?_)
                            refine WQ_iconst (4) (4) dX11_scan_183 rfl rfl (fun v7553 hv7553 => ?_)
                            refine WQ_icmp_ge 210 dX11_scan_184 rfl (fun c7553 => ?_) (fun c7553 => ?_)
                            · refine WP_aload_n dX11_scan_210 rfl ?_
                              refine WP_dup dX11_scan_211 rfl ?_
                              refine WQ_getim dX11_scan_212 fX11_20 rfl (ly_is hy 0 11 rfl) ew7518 ?_
                              refine WQ_iconst (1) (1) dX11_scan_215 rfl rfl (fun v7555 hv7555 => ?_)
                              refine WQ_iadd dX11_scan_216 (by omega) (by omega) (fun v7556 hv7556 => ?_)
                              refine WQ_puti dX11_scan_217 fX11_20 rfl rfl (ly_is hy 0 11 rfl) (fun I7557 eI7557 => ?_)
                              have hI7557 : MP g n L I7557 := by rw [eI7557]; exact (mp_w hy hI7514 (c := 0) (mi_f hy hI7514.1 (c := 0) (0) (0) (900) (by decide) (Or.inr (by decide)) (by decide) (by omega) (by omega)) (by decide) (by decide) (Or.inr (by decide)))
                              have e7558 : I7557 (ad g 0) 2 = w7516 := by rw [eI7557, pp_ne _ _ (Or.inr (by decide))]; exact ew7516
                              have e7559 : I7557 (ad g 0) 3 = w7517 := by rw [eI7557, pp_ne _ _ (Or.inr (by decide))]; exact ew7517
                              have e7560 : I7557 (ad g 0) 7 = w7519 := by rw [eI7557, pp_ne _ _ (Or.inr (by decide))]; exact ew7519
                              have e7561 : I7557 (ad g 0) 15 = w7520 := by rw [eI7557, pp_ne _ _ (Or.inr (by decide))]; exact ew7520
                              have e7562 : I7557 (ad g 0) 16 = w7521 := by rw [eI7557, pp_ne _ _ (Or.inr (by decide))]; exact ew7521
                              have e7563 : I7557 (ad g 0) 17 = w7522 := by rw [eI7557, pp_ne _ _ (Or.inr (by decide))]; exact ew7522
                              have e7564 : I7557 (ad g 0) 18 = w7523 := by rw [eI7557, pp_ne _ _ (Or.inr (by decide))]; exact ew7523
                              have e7565 : I7557 (ad g 0) 1 = L := by rw [eI7557, pp_ne _ _ (Or.inr (by decide))]; exact e7525
                              have e7566 : I7557 (ad g 0) 4 = v7556 := by rw [eI7557, pp_self]
                              have fr7567 : fs g [3, 4, 5, 6] I I7557 := by rw [eI7557]; exact fs_pp0 fqI7514 (by decide)
                              have fr7568 : fz 49 g [0] I I7557 := by rw [eI7557]; exact fzm_pp hy fiI7514 (by decide) (by decide)
                              clear eI7557
                              refine WP_goto 160 dX11_scan_220 rfl ?_
                              exact WP_sub (fc rfl (fc rfl fn)) (ihlp160_7523 I7557 J7515 hI7557 fr7568 fjJ7515 fr7567 w7516 e7558 w7517 e7559 v7556 e7566 w7519 e7560 w7520 e7561 w7521 e7562 w7522 e7563 w7523 e7564 (by omega) (by omega) (by omega) (by omega) (by omega) (by omega) (by omega) (by omega) (by omega))
                            · refine WP_aload_n dX11_scan_187 rfl ?_
                              refine WQ_bipush (10) (10) dX11_scan_188 rfl rfl (fun v7569 hv7569 => ?_)
                              refine WP_aload_n dX11_scan_190 rfl ?_
                              refine WQ_getiu dX11_scan_191 fX11_37 rfl (ly_is hy 0 11 rfl) (fun v7570 ev7570 => ?_)
                              refine WQ_imulu dX11_scan_194 (fun v7571 => ?_)
                              refine WP_aload_n dX11_scan_195 rfl ?_
                              refine WP_aload_n dX11_scan_196 rfl ?_
                              refine WQ_getim dX11_scan_197 fX11_20 rfl (ly_is hy 0 11 rfl) ew7518 ?_
                              refine WP_callV1 (k := 11) dX11_scan_200 ⟨⟨⟨by decide, by decide⟩, zX11_byteAt⟩, lX11_23, by decide, rfl, vX11_byteAt.1, vX11_byteAt.2⟩ (ly_is hy 0 11 rfl) (sm_byteAtx hy hr hI7514 w7518 (by omega) (by omega)) (Nat.le_of_ble_eq_true rfl) ?_
                              intro r Ia Ja Ra hq
                              obtain ⟨⟨ea, eb, ec⟩, v7572, rfl, cv7572⟩ := hq
                              show WP _ _ _ _ (.int _ :: _) _ _ _ _
                              rw [ea, eb, ec]
                              clear ea eb ec Ia Ja Ra
                              rw [ew7516] at cv7572
                              refine WQ_iaddu dX11_scan_203 (fun v7573 => ?_)
                              refine WQ_bipush (48) (48) dX11_scan_204 rfl rfl (fun v7574 hv7574 => ?_)
                              refine WQ_isubu dX11_scan_206 (fun v7575 => ?_)
                              refine WQ_puti dX11_scan_207 fX11_37 rfl rfl (ly_is hy 0 11 rfl) (fun I7576 eI7576 => ?_)
                              have hI7576 : MP g n L I7576 := by rw [eI7576]; exact (mp_w hy hI7514 (c := 0) (mi_f0 hy hI7514.1 (c := 0) (by decide) (Or.inr (by decide)) (by decide)) (by decide) (by decide) (Or.inr (by decide)))
                              have e7577 : I7576 (ad g 0) 2 = w7516 := by rw [eI7576, pp_ne _ _ (Or.inr (by decide))]; exact ew7516
                              have e7578 : I7576 (ad g 0) 3 = w7517 := by rw [eI7576, pp_ne _ _ (Or.inr (by decide))]; exact ew7517
                              have e7579 : I7576 (ad g 0) 4 = w7518 := by rw [eI7576, pp_ne _ _ (Or.inr (by decide))]; exact ew7518
                              have e7580 : I7576 (ad g 0) 7 = w7519 := by rw [eI7576, pp_ne _ _ (Or.inr (by decide))]; exact ew7519
                              have e7581 : I7576 (ad g 0) 15 = w7520 := by rw [eI7576, pp_ne _ _ (Or.inr (by decide))]; exact ew7520
                              have e7582 : I7576 (ad g 0) 16 = w7521 := by rw [eI7576, pp_ne _ _ (Or.inr (by decide))]; exact ew7521
                              have e7583 : I7576 (ad g 0) 17 = w7522 := by rw [eI7576, pp_ne _ _ (Or.inr (by decide))]; exact ew7522
                              have e7584 : I7576 (ad g 0) 18 = w7523 := by rw [eI7576, pp_ne _ _ (Or.inr (by decide))]; exact ew7523
                              have e7585 : I7576 (ad g 0) 1 = L := by rw [eI7576, pp_ne _ _ (Or.inr (by decide))]; exact e7525
                              have e7586 : I7576 (ad g 0) 6 = v7575 := by rw [eI7576, pp_self]
                              have fr7587 : fs g [3, 4, 5, 6] I I7576 := by rw [eI7576]; exact fs_pp0 fqI7514 (by decide)
                              have fr7588 : fz 49 g [0] I I7576 := by rw [eI7576]; exact fzm_pp hy fiI7514 (by decide) (by decide)
                              clear eI7576
                              refine WP_aload_n dX11_scan_210 rfl ?_
                              refine WP_dup dX11_scan_211 rfl ?_
                              refine WQ_getim dX11_scan_212 fX11_20 rfl (ly_is hy 0 11 rfl) e7579 ?_
                              refine WQ_iconst (1) (1) dX11_scan_215 rfl rfl (fun v7589 hv7589 => ?_)
                              refine WQ_iadd dX11_scan_216 (by omega) (by omega) (fun v7590 hv7590 => ?_)
                              refine WQ_puti dX11_scan_217 fX11_20 rfl rfl (ly_is hy 0 11 rfl) (fun I7591 eI7591 => ?_)
                              have hI7591 : MP g n L I7591 := by rw [eI7591]; exact (mp_w hy hI7576 (c := 0) (mi_f hy hI7576.1 (c := 0) (0) (0) (900) (by decide) (Or.inr (by decide)) (by decide) (by omega) (by omega)) (by decide) (by decide) (Or.inr (by decide)))
                              have e7592 : I7591 (ad g 0) 2 = w7516 := by rw [eI7591, pp_ne _ _ (Or.inr (by decide))]; exact e7577
                              have e7593 : I7591 (ad g 0) 3 = w7517 := by rw [eI7591, pp_ne _ _ (Or.inr (by decide))]; exact e7578
                              have e7594 : I7591 (ad g 0) 7 = w7519 := by rw [eI7591, pp_ne _ _ (Or.inr (by decide))]; exact e7580
                              have e7595 : I7591 (ad g 0) 15 = w7520 := by rw [eI7591, pp_ne _ _ (Or.inr (by decide))]; exact e7581
                              have e7596 : I7591 (ad g 0) 16 = w7521 := by rw [eI7591, pp_ne _ _ (Or.inr (by decide))]; exact e7582
                              have e7597 : I7591 (ad g 0) 17 = w7522 := by rw [eI7591, pp_ne _ _ (Or.inr (by decide))]; exact e7583
                              have e7598 : I7591 (ad g 0) 18 = w7523 := by rw [eI7591, pp_ne _ _ (Or.inr (by decide))]; exact e7584
                              have e7599 : I7591 (ad g 0) 1 = L := by rw [eI7591, pp_ne _ _ (Or.inr (by decide))]; exact e7585
                              have e7600 : I7591 (ad g 0) 6 = v7575 := by rw [eI7591, pp_ne _ _ (Or.inr (by decide))]; exact e7586
                              have e7601 : I7591 (ad g 0) 4 = v7590 := by rw [eI7591, pp_self]
                              have fr7602 : fs g [3, 4, 5, 6] I I7591 := by rw [eI7591]; exact fs_pp0 fr7587 (by decide)
                              have fr7603 : fz 49 g [0] I I7591 := by rw [eI7591]; exact fzm_pp hy fr7588 (by decide) (by decide)
                              clear eI7591
                              refine WP_goto 160 dX11_scan_220 rfl ?_
                              exact WP_sub (fc rfl (fc rfl fn)) (ihlp160_7523 I7591 J7515 hI7591 fr7603 fjJ7515 fr7602 w7516 e7592 w7517 e7593 v7590 e7601 w7519 e7594 w7520 e7595 w7521 e7596 w7522 e7597 w7523 e7598 (by omega) (by omega) (by omega) (by omega) (by omega) (by omega) (by omega) (by omega) (by omega))
                      exact WP_sub (fc rfl (fc rfl fn)) (lp160_7523 _ I7501 J6940 hI7501 fr7513 fjJ6940 fr7512 w6941 e7502 w6942 e7509 v7500 e7511 w6943 e7503 w6944 e7504 w6945 e7505 w6946 e7506 w6947 e7507 (by omega) (by omega) (by omega) (by omega) (by omega) (by omega) (by omega) (by omega) (Nat.lt_succ_self _))
                    · refine WP_aload_n dX11_scan_187 rfl ?_
                      refine WQ_bipush (10) (10) dX11_scan_188 rfl rfl (fun v7604 hv7604 => ?_)
                      refine WP_aload_n dX11_scan_190 rfl ?_
                      refine WQ_getim dX11_scan_191 fX11_37 rfl (ly_is hy 0 11 rfl) e7467 ?_
                      refine WQ_imulk (0) dX11_scan_194 hv7456 (by omega) (by omega) (fun v7605 hv7605 => ?_)
                      refine WP_aload_n dX11_scan_195 rfl ?_
                      refine WP_aload_n dX11_scan_196 rfl ?_
                      refine WQ_getim dX11_scan_197 fX11_20 rfl (ly_is hy 0 11 rfl) e7459 ?_
                      refine WP_callV1 (k := 11) dX11_scan_200 ⟨⟨⟨by decide, by decide⟩, zX11_byteAt⟩, lX11_23, by decide, rfl, vX11_byteAt.1, vX11_byteAt.2⟩ (ly_is hy 0 11 rfl) (sm_byteAtx hy hr hI7457 w6942 (by omega) (by omega)) (Nat.le_of_ble_eq_true rfl) ?_
                      intro r Ia Ja Ra hq
                      obtain ⟨⟨ea, eb, ec⟩, v7606, rfl, cv7606⟩ := hq
                      show WP _ _ _ _ (.int _ :: _) _ _ _ _
                      rw [ea, eb, ec]
                      clear ea eb ec Ia Ja Ra
                      rw [e7458] at cv7606
                      refine WQ_iaddu dX11_scan_203 (fun v7607 => ?_)
                      refine WQ_bipush (48) (48) dX11_scan_204 rfl rfl (fun v7608 hv7608 => ?_)
                      refine WQ_isubu dX11_scan_206 (fun v7609 => ?_)
                      refine WQ_puti dX11_scan_207 fX11_37 rfl rfl (ly_is hy 0 11 rfl) (fun I7610 eI7610 => ?_)
                      have hI7610 : MP g n L I7610 := by rw [eI7610]; exact (mp_w hy hI7457 (c := 0) (mi_f0 hy hI7457.1 (c := 0) (by decide) (Or.inr (by decide)) (by decide)) (by decide) (by decide) (Or.inr (by decide)))
                      have e7611 : I7610 (ad g 0) 2 = w6941 := by rw [eI7610, pp_ne _ _ (Or.inr (by decide))]; exact e7458
                      have e7612 : I7610 (ad g 0) 4 = w6942 := by rw [eI7610, pp_ne _ _ (Or.inr (by decide))]; exact e7459
                      have e7613 : I7610 (ad g 0) 7 = w6943 := by rw [eI7610, pp_ne _ _ (Or.inr (by decide))]; exact e7460
                      have e7614 : I7610 (ad g 0) 15 = w6944 := by rw [eI7610, pp_ne _ _ (Or.inr (by decide))]; exact e7461
                      have e7615 : I7610 (ad g 0) 16 = w6945 := by rw [eI7610, pp_ne _ _ (Or.inr (by decide))]; exact e7462
                      have e7616 : I7610 (ad g 0) 17 = w6946 := by rw [eI7610, pp_ne _ _ (Or.inr (by decide))]; exact e7463
                      have e7617 : I7610 (ad g 0) 18 = w6947 := by rw [eI7610, pp_ne _ _ (Or.inr (by decide))]; exact e7464
                      have e7618 : I7610 (ad g 0) 1 = L := by rw [eI7610, pp_ne _ _ (Or.inr (by decide))]; exact e7465
                      have e7619 : I7610 (ad g 0) 3 = w6942 := by rw [eI7610, pp_ne _ _ (Or.inr (by decide))]; exact e7466
                      have e7620 : I7610 (ad g 0) 6 = v7609 := by rw [eI7610, pp_self]
                      have fr7621 : fs g [3, 4, 5, 6] I I7610 := by rw [eI7610]; exact fs_pp0 fr7468 (by decide)
                      have fr7622 : fz 49 g [0] I I7610 := by rw [eI7610]; exact fzm_pp hy fr7469 (by decide) (by decide)
                      have BI7610 : v7414 = BF g I7610 w6942 := by rw [eI7610, BF_w hy (by decide)]; exact BI7457
                      clear eI7610
                      refine WP_aload_n dX11_scan_210 rfl ?_
                      refine WP_dup dX11_scan_211 rfl ?_
                      refine WQ_getim dX11_scan_212 fX11_20 rfl (ly_is hy 0 11 rfl) e7612 ?_
                      refine WQ_iconst (1) (1) dX11_scan_215 rfl rfl (fun v7623 hv7623 => ?_)
                      refine WQ_iadd dX11_scan_216 (by omega) (by omega) (fun v7624 hv7624 => ?_)
                      refine WQ_puti dX11_scan_217 fX11_20 rfl rfl (ly_is hy 0 11 rfl) (fun I7625 eI7625 => ?_)
                      have hI7625 : MP g n L I7625 := by rw [eI7625]; exact (mp_w hy hI7610 (c := 0) (mi_f hy hI7610.1 (c := 0) (0) (0) (900) (by decide) (Or.inr (by decide)) (by decide) (by omega) (by omega)) (by decide) (by decide) (Or.inr (by decide)))
                      have e7626 : I7625 (ad g 0) 2 = w6941 := by rw [eI7625, pp_ne _ _ (Or.inr (by decide))]; exact e7611
                      have e7627 : I7625 (ad g 0) 7 = w6943 := by rw [eI7625, pp_ne _ _ (Or.inr (by decide))]; exact e7613
                      have e7628 : I7625 (ad g 0) 15 = w6944 := by rw [eI7625, pp_ne _ _ (Or.inr (by decide))]; exact e7614
                      have e7629 : I7625 (ad g 0) 16 = w6945 := by rw [eI7625, pp_ne _ _ (Or.inr (by decide))]; exact e7615
                      have e7630 : I7625 (ad g 0) 17 = w6946 := by rw [eI7625, pp_ne _ _ (Or.inr (by decide))]; exact e7616
                      have e7631 : I7625 (ad g 0) 18 = w6947 := by rw [eI7625, pp_ne _ _ (Or.inr (by decide))]; exact e7617
                      have e7632 : I7625 (ad g 0) 1 = L := by rw [eI7625, pp_ne _ _ (Or.inr (by decide))]; exact e7618
                      have e7633 : I7625 (ad g 0) 3 = w6942 := by rw [eI7625, pp_ne _ _ (Or.inr (by decide))]; exact e7619
                      have e7634 : I7625 (ad g 0) 6 = v7609 := by rw [eI7625, pp_ne _ _ (Or.inr (by decide))]; exact e7620
                      have e7635 : I7625 (ad g 0) 4 = v7624 := by rw [eI7625, pp_self]
                      have fr7636 : fs g [3, 4, 5, 6] I I7625 := by rw [eI7625]; exact fs_pp0 fr7621 (by decide)
                      have fr7637 : fz 49 g [0] I I7625 := by rw [eI7625]; exact fzm_pp hy fr7622 (by decide) (by decide)
                      have BI7625 : v7414 = BF g I7625 w6942 := by rw [eI7625, BF_w hy (by decide)]; exact BI7610
                      clear eI7625
                      refine WP_goto 160 dX11_scan_220 rfl ?_
                      have lp160_7647 : ∀ (mz : Nat)  (I7638 : pI) (J7639 : pJ), MP g n L I7638 → fz 49 g [0] I I7638 → fz 49 g [] J J7639 → fs g [3, 4, 5, 6] I I7638 → ∀ (w7640 : Int32), I7638 (ad g 0) 2 = w7640 → ∀ (w7641 : Int32), I7638 (ad g 0) 3 = w7641 → ∀ (w7642 : Int32), I7638 (ad g 0) 4 = w7642 → ∀ (w7643 : Int32), I7638 (ad g 0) 7 = w7643 → ∀ (w7644 : Int32), I7638 (ad g 0) 15 = w7644 → ∀ (w7645 : Int32), I7638 (ad g 0) 16 = w7645 → ∀ (w7646 : Int32), I7638 (ad g 0) 17 = w7646 → ∀ (w7647 : Int32), I7638 (ad g 0) 18 = w7647 → w7642.toInt ≤ w7640.toInt → w7641.toInt < w7642.toInt → w6937.toInt ≤ w7641.toInt → w7643.toInt = w6932.toInt → w7644.toInt = w6933.toInt → w7645.toInt = w6934.toInt → w7646.toInt = w6935.toInt → w7647.toInt = w6936.toInt → (901 - w7642.toInt).toNat < mz → WP g mX11_scan 160 [(0, .ref (ad g 0)), (1, .int v7414)] [] I7638 J7639 R (fun r I' J' R' => (MP g n L I' ∧ R' = R ∧ fz 49 g [0] I I' ∧ fz 49 g [] J J' ∧ fs g [3, 4, 5, 6] I I' ∧ (((I' (ad g 0) 4).toInt ≤ (I' (ad g 0) 2).toInt ∧ (I' (ad g 0) 3).toInt ≤ (I' (ad g 0) 4).toInt ∧ ((I' (ad g 0) 5).toInt = 0 ∨ (I' (ad g 0) 3).toInt < (I' (ad g 0) 4).toInt)) ∧ (I (ad g 0) 4).toInt ≤ (I' (ad g 0) 3).toInt) ∧ I' (ad g 0) 7 = I (ad g 0) 7 ∧ I' (ad g 0) 15 = I (ad g 0) 15 ∧ I' (ad g 0) 16 = I (ad g 0) 16 ∧ I' (ad g 0) 17 = I (ad g 0) 17 ∧ I' (ad g 0) 18 = I (ad g 0) 18) ∧ r = none) := by
                        intro mz
                        induction mz with
                        | zero =>
                          intro  I7638 J7639 hI7638 fiI7638 fjJ7639 fqI7638 w7640 ew7640 w7641 ew7641 w7642 ew7642 w7643 ew7643 w7644 ew7644 w7645 ew7645 w7646 ew7646 w7647 ew7647 j0_I7638 j1_I7638 j2_I7638 j3_I7638 j4_I7638 j5_I7638 j6_I7638 j7_I7638 hmlp160_7647
                          exact absurd hmlp160_7647 (Nat.not_lt_zero _)
                        | succ mz ihlp160_7647 =>
                          intro  I7638 J7639 hI7638 fiI7638 fjJ7639 fqI7638 w7640 ew7640 w7641 ew7641 w7642 ew7642 w7643 ew7643 w7644 ew7644 w7645 ew7645 w7646 ew7646 w7647 ew7647 j0_I7638 j1_I7638 j2_I7638 j3_I7638 j4_I7638 j5_I7638 j6_I7638 j7_I7638 hmlp160_7647
                          have bw7640 := BT_get hI7638.1.1 0 2 3 (0) (0) (900) (by decide) 2 (by decide) (by decide)
                          rw [ew7640] at bw7640
                          have bw7641 := BT_get hI7638.1.1 0 3 4 (0) (0) (900) (by decide) 3 (by decide) (by decide)
                          rw [ew7641] at bw7641
                          have bw7642 := BT_get hI7638.1.1 0 4 5 (0) (0) (900) (by decide) 4 (by decide) (by decide)
                          rw [ew7642] at bw7642
                          have bw7643 := BT_get hI7638.1.1 0 7 8 (-1) (0) (1000) (by decide) 7 (by decide) (by decide)
                          rw [ew7643] at bw7643
                          have bw7644 := BT_get hI7638.1.1 0 15 16 (0) (0) (4) (by decide) 15 (by decide) (by decide)
                          rw [ew7644] at bw7644
                          have bw7645 := BT_get hI7638.1.1 0 16 17 (0) (0) (3) (by decide) 16 (by decide) (by decide)
                          rw [ew7645] at bw7645
                          have bw7646 := BT_get hI7638.1.1 0 17 18 (-1) (0) (3) (by decide) 17 (by decide) (by decide)
                          rw [ew7646] at bw7646
                          have bw7647 := BT_get hI7638.1.1 0 18 19 (-1) (0) (2) (by decide) 18 (by decide) (by decide)
                          rw [ew7647] at bw7647
                          have e7649 : I7638 (ad g 0) 1 = L := hI7638.1.2
                          have b7650 := BT_get hI7638.1.1 0 1 2 (0) (0) (900) (by decide) 1 (by decide) (by decide)
                          rw [e7649] at b7650
                          refine WP_aload_n dX11_scan_160 rfl ?_
                          refine WP_aload_n dX11_scan_161 rfl ?_
                          refine WQ_getim dX11_scan_162 fX11_20 rfl (ly_is hy 0 11 rfl) ew7642 ?_
                          refine WP_callV1 (k := 11) dX11_scan_165 ⟨⟨⟨by decide, by decide⟩, zX11_byteAt⟩, lX11_23, by decide, rfl, vX11_byteAt.1, vX11_byteAt.2⟩ (ly_is hy 0 11 rfl) (sm_byteAtx hy hr hI7638 w7642 (by omega) (by omega)) (Nat.le_of_ble_eq_true rfl) ?_
                          intro r Ia Ja Ra hq
                          obtain ⟨⟨ea, eb, ec⟩, v7651, rfl, cv7651⟩ := hq
                          show WP _ _ _ _ (.int _ :: _) _ _ _ _
                          rw [ea, eb, ec]
                          clear ea eb ec Ia Ja Ra
                          rw [ew7640] at cv7651
                          refine WP_callS1 dX11_scan_168 ⟨⟨⟨by decide, by decide⟩, zX11_isDigit⟩, lX11_34, tX11_isDigit⟩ (sm_isDigit hy hr hI7638 v7651 ) (Nat.le_of_ble_eq_true rfl) ?_
                          intro r Ia Ja Ra hq
                          obtain ⟨⟨ea, eb, ec⟩, v7652, rfl, av7652, bv7652, cv7652⟩ := hq
                          show WP _ _ _ _ (.int _ :: _) _ _ _ _
                          rw [ea, eb, ec]
                          clear ea eb ec Ia Ja Ra
                          refine WQ_if_eq 223 dX11_scan_171 rfl (fun c7652 => ?_) (fun c7652 => ?_)
                          · refine WP_aload_n dX11_scan_223 rfl ?_
                            refine WP_aload_n dX11_scan_224 rfl ?_
                            refine WQ_getim dX11_scan_225 fX11_20 rfl (ly_is hy 0 11 rfl) ew7642 ?_
                            refine WP_aload_n dX11_scan_228 rfl ?_
                            refine WQ_getim dX11_scan_229 fX11_7 rfl (ly_is hy 0 11 rfl) ew7641 ?_
                            refine WQ_isub dX11_scan_232 (by omega) (by omega) (fun v7654 hv7654 => ?_)
                            refine WQ_iconst (4) (4) dX11_scan_233 rfl rfl (fun v7655 hv7655 => ?_)
                            have jn242_7658 : ∀ (v7658 : Int32), 2 ≤ v7658.toInt → v7658.toInt ≤ 4 → WP g mX11_scan 242 [(0, .ref (ad g 0)), (1, .int v7414)] [.int v7658, .ref (ad g 0)] I7638 J7639 R (fun r I' J' R' => (MP g n L I' ∧ R' = R ∧ fz 49 g [0] I I' ∧ fz 49 g [] J J' ∧ fs g [3, 4, 5, 6] I I' ∧ (((I' (ad g 0) 4).toInt ≤ (I' (ad g 0) 2).toInt ∧ (I' (ad g 0) 3).toInt ≤ (I' (ad g 0) 4).toInt ∧ ((I' (ad g 0) 5).toInt = 0 ∨ (I' (ad g 0) 3).toInt < (I' (ad g 0) 4).toInt)) ∧ (I (ad g 0) 4).toInt ≤ (I' (ad g 0) 3).toInt) ∧ I' (ad g 0) 7 = I (ad g 0) 7 ∧ I' (ad g 0) 15 = I (ad g 0) 15 ∧ I' (ad g 0) 16 = I (ad g 0) 16 ∧ I' (ad g 0) 17 = I (ad g 0) 17 ∧ I' (ad g 0) 18 = I (ad g 0) 18) ∧ r = none) := by
                              intro v7658 av7658 bv7658
                              refine WQ_puti dX11_scan_242 fX11_27 rfl rfl (ly_is hy 0 11 rfl) (fun I7660 eI7660 => ?_)
                              have hI7660 : MP g n L I7660 := by rw [eI7660]; exact (mp_w hy hI7638 (c := 0) (mi_f hy hI7638.1 (c := 0) (0) (0) (4) (by decide) (Or.inr (by decide)) (by decide) (by omega) (by omega)) (by decide) (by decide) (Or.inr (by decide)))
                              have e7661 : I7660 (ad g 0) 2 = w7640 := by rw [eI7660, pp_ne _ _ (Or.inr (by decide))]; exact ew7640
                              have e7662 : I7660 (ad g 0) 3 = w7641 := by rw [eI7660, pp_ne _ _ (Or.inr (by decide))]; exact ew7641
                              have e7663 : I7660 (ad g 0) 4 = w7642 := by rw [eI7660, pp_ne _ _ (Or.inr (by decide))]; exact ew7642
                              have e7664 : I7660 (ad g 0) 7 = w7643 := by rw [eI7660, pp_ne _ _ (Or.inr (by decide))]; exact ew7643
                              have e7665 : I7660 (ad g 0) 15 = w7644 := by rw [eI7660, pp_ne _ _ (Or.inr (by decide))]; exact ew7644
                              have e7666 : I7660 (ad g 0) 16 = w7645 := by rw [eI7660, pp_ne _ _ (Or.inr (by decide))]; exact ew7645
                              have e7667 : I7660 (ad g 0) 17 = w7646 := by rw [eI7660, pp_ne _ _ (Or.inr (by decide))]; exact ew7646
                              have e7668 : I7660 (ad g 0) 18 = w7647 := by rw [eI7660, pp_ne _ _ (Or.inr (by decide))]; exact ew7647
                              have e7669 : I7660 (ad g 0) 1 = L := by rw [eI7660, pp_ne _ _ (Or.inr (by decide))]; exact e7649
                              have e7670 : I7660 (ad g 0) 5 = v7658 := by rw [eI7660, pp_self]
                              have fr7671 : fs g [3, 4, 5, 6] I I7660 := by rw [eI7660]; exact fs_pp0 fqI7638 (by decide)
                              have fr7672 : fz 49 g [0] I I7660 := by rw [eI7660]; exact fzm_pp hy fiI7638 (by decide) (by decide)
                              clear eI7660
                              refine WP_goto 273 dX11_scan_245 rfl ?_
                              exact WP_vret dX11_scan_273 rfl ⟨⟨hI7660, rfl, fr7672, fjJ7639, fr7671, ⟨(by rw [e7661, e7662, e7663, e7670, ew6937]; omega), (by rw [e7664, ew6932] <;> exact (eq32 _ _).mpr (by omega)), (by rw [e7665, ew6933] <;> exact (eq32 _ _).mpr (by omega)), (by rw [e7666, ew6934] <;> exact (eq32 _ _).mpr (by omega)), (by rw [e7667, ew6935] <;> exact (eq32 _ _).mpr (by omega)), (by rw [e7668, ew6936] <;> exact (eq32 _ _).mpr (by omega))⟩⟩, rfl⟩
                            refine WQ_icmp_le 241 dX11_scan_234 rfl (fun c7672 => ?_) (fun c7672 => ?_)
                            · refine WQ_iconst (2) (2) dX11_scan_241 rfl rfl (fun v7674 hv7674 => ?_)
                              exact WP_sub (fc rfl (fc rfl fn)) (jn242_7658 v7674 (by omega) (by omega))
                            · refine WQ_iconst (4) (4) dX11_scan_237 rfl rfl (fun v7675 hv7675 => ?_)
                              refine WP_goto 242 dX11_scan_238 rfl ?_
                              exact WP_sub (fc rfl (fc rfl fn)) (jn242_7658 v7675 (by omega) (by omega))
                          · refine WP_aload_n dX11_scan_174 rfl ?_
                            refine WQ_getim dX11_scan_175 fX11_20 rfl (ly_is hy 0 11 rfl) ew7642 ?_
                            refine WP_aload_n dX11_scan_178 rfl ?_
                            refine WQ_getim dX11_scan_179 fX11_7 rfl (ly_is hy 0 11 rfl) ew7641 ?_
                            refine WQ_isub dX11_scan_182 (by omega) (by omega) (fun v7676 hv7676 => ?_)
                            refine WQ_iconst (4) (4) dX11_scan_183 rfl rfl (fun v7677 hv7677 => ?_)
                            refine WQ_icmp_ge 210 dX11_scan_184 rfl (fun c7677 => ?_) (fun c7677 => ?_)
                            · refine WP_aload_n dX11_scan_210 rfl ?_
                              refine WP_dup dX11_scan_211 rfl ?_
                              refine WQ_getim dX11_scan_212 fX11_20 rfl (ly_is hy 0 11 rfl) ew7642 ?_
                              refine WQ_iconst (1) (1) dX11_scan_215 rfl rfl (fun v7679 hv7679 => ?_)
                              refine WQ_iadd dX11_scan_216 (by omega) (by omega) (fun v7680 hv7680 => ?_)
                              refine WQ_puti dX11_scan_217 fX11_20 rfl rfl (ly_is hy 0 11 rfl) (fun I7681 eI7681 => ?_)
                              have hI7681 : MP g n L I7681 := by rw [eI7681]; exact (mp_w hy hI7638 (c := 0) (mi_f hy hI7638.1 (c := 0) (0) (0) (900) (by decide) (Or.inr (by decide)) (by decide) (by omega) (by omega)) (by decide) (by decide) (Or.inr (by decide)))
                              have e7682 : I7681 (ad g 0) 2 = w7640 := by rw [eI7681, pp_ne _ _ (Or.inr (by decide))]; exact ew7640
                              have e7683 : I7681 (ad g 0) 3 = w7641 := by rw [eI7681, pp_ne _ _ (Or.inr (by decide))]; exact ew7641
                              have e7684 : I7681 (ad g 0) 7 = w7643 := by rw [eI7681, pp_ne _ _ (Or.inr (by decide))]; exact ew7643
                              have e7685 : I7681 (ad g 0) 15 = w7644 := by rw [eI7681, pp_ne _ _ (Or.inr (by decide))]; exact ew7644
                              have e7686 : I7681 (ad g 0) 16 = w7645 := by rw [eI7681, pp_ne _ _ (Or.inr (by decide))]; exact ew7645
                              have e7687 : I7681 (ad g 0) 17 = w7646 := by rw [eI7681, pp_ne _ _ (Or.inr (by decide))]; exact ew7646
                              have e7688 : I7681 (ad g 0) 18 = w7647 := by rw [eI7681, pp_ne _ _ (Or.inr (by decide))]; exact ew7647
                              have e7689 : I7681 (ad g 0) 1 = L := by rw [eI7681, pp_ne _ _ (Or.inr (by decide))]; exact e7649
                              have e7690 : I7681 (ad g 0) 4 = v7680 := by rw [eI7681, pp_self]
                              have fr7691 : fs g [3, 4, 5, 6] I I7681 := by rw [eI7681]; exact fs_pp0 fqI7638 (by decide)
                              have fr7692 : fz 49 g [0] I I7681 := by rw [eI7681]; exact fzm_pp hy fiI7638 (by decide) (by decide)
                              clear eI7681
                              refine WP_goto 160 dX11_scan_220 rfl ?_
                              exact WP_sub (fc rfl (fc rfl fn)) (ihlp160_7647 I7681 J7639 hI7681 fr7692 fjJ7639 fr7691 w7640 e7682 w7641 e7683 v7680 e7690 w7643 e7684 w7644 e7685 w7645 e7686 w7646 e7687 w7647 e7688 (by omega) (by omega) (by omega) (by omega) (by omega) (by omega) (by omega) (by omega) (by omega))
                            · refine WP_aload_n dX11_scan_187 rfl ?_
                              refine WQ_bipush (10) (10) dX11_scan_188 rfl rfl (fun v7693 hv7693 => ?_)
                              refine WP_aload_n dX11_scan_190 rfl ?_
                              refine WQ_getiu dX11_scan_191 fX11_37 rfl (ly_is hy 0 11 rfl) (fun v7694 ev7694 => ?_)
                              refine WQ_imulu dX11_scan_194 (fun v7695 => ?_)
                              refine WP_aload_n dX11_scan_195 rfl ?_
                              refine WP_aload_n dX11_scan_196 rfl ?_
                              refine WQ_getim dX11_scan_197 fX11_20 rfl (ly_is hy 0 11 rfl) ew7642 ?_
                              refine WP_callV1 (k := 11) dX11_scan_200 ⟨⟨⟨by decide, by decide⟩, zX11_byteAt⟩, lX11_23, by decide, rfl, vX11_byteAt.1, vX11_byteAt.2⟩ (ly_is hy 0 11 rfl) (sm_byteAtx hy hr hI7638 w7642 (by omega) (by omega)) (Nat.le_of_ble_eq_true rfl) ?_
                              intro r Ia Ja Ra hq
                              obtain ⟨⟨ea, eb, ec⟩, v7696, rfl, cv7696⟩ := hq
                              show WP _ _ _ _ (.int _ :: _) _ _ _ _
                              rw [ea, eb, ec]
                              clear ea eb ec Ia Ja Ra
                              rw [ew7640] at cv7696
                              refine WQ_iaddu dX11_scan_203 (fun v7697 => ?_)
                              refine WQ_bipush (48) (48) dX11_scan_204 rfl rfl (fun v7698 hv7698 => ?_)
                              refine WQ_isubu dX11_scan_206 (fun v7699 => ?_)
                              refine WQ_puti dX11_scan_207 fX11_37 rfl rfl (ly_is hy 0 11 rfl) (fun I7700 eI7700 => ?_)
                              have hI7700 : MP g n L I7700 := by rw [eI7700]; exact (mp_w hy hI7638 (c := 0) (mi_f0 hy hI7638.1 (c := 0) (by decide) (Or.inr (by decide)) (by decide)) (by decide) (by decide) (Or.inr (by decide)))
                              have e7701 : I7700 (ad g 0) 2 = w7640 := by rw [eI7700, pp_ne _ _ (Or.inr (by decide))]; exact ew7640
                              have e7702 : I7700 (ad g 0) 3 = w7641 := by rw [eI7700, pp_ne _ _ (Or.inr (by decide))]; exact ew7641
                              have e7703 : I7700 (ad g 0) 4 = w7642 := by rw [eI7700, pp_ne _ _ (Or.inr (by decide))]; exact ew7642
                              have e7704 : I7700 (ad g 0) 7 = w7643 := by rw [eI7700, pp_ne _ _ (Or.inr (by decide))]; exact ew7643
                              have e7705 : I7700 (ad g 0) 15 = w7644 := by rw [eI7700, pp_ne _ _ (Or.inr (by decide))]; exact ew7644
                              have e7706 : I7700 (ad g 0) 16 = w7645 := by rw [eI7700, pp_ne _ _ (Or.inr (by decide))]; exact ew7645
                              have e7707 : I7700 (ad g 0) 17 = w7646 := by rw [eI7700, pp_ne _ _ (Or.inr (by decide))]; exact ew7646
                              have e7708 : I7700 (ad g 0) 18 = w7647 := by rw [eI7700, pp_ne _ _ (Or.inr (by decide))]; exact ew7647
                              have e7709 : I7700 (ad g 0) 1 = L := by rw [eI7700, pp_ne _ _ (Or.inr (by decide))]; exact e7649
                              have e7710 : I7700 (ad g 0) 6 = v7699 := by rw [eI7700, pp_self]
                              have fr7711 : fs g [3, 4, 5, 6] I I7700 := by rw [eI7700]; exact fs_pp0 fqI7638 (by decide)
                              have fr7712 : fz 49 g [0] I I7700 := by rw [eI7700]; exact fzm_pp hy fiI7638 (by decide) (by decide)
                              clear eI7700
                              refine WP_aload_n dX11_scan_210 rfl ?_
                              refine WP_dup dX11_scan_211 rfl ?_
                              refine WQ_getim dX11_scan_212 fX11_20 rfl (ly_is hy 0 11 rfl) e7703 ?_
                              refine WQ_iconst (1) (1) dX11_scan_215 rfl rfl (fun v7713 hv7713 => ?_)
                              refine WQ_iadd dX11_scan_216 (by omega) (by omega) (fun v7714 hv7714 => ?_)
                              refine WQ_puti dX11_scan_217 fX11_20 rfl rfl (ly_is hy 0 11 rfl) (fun I7715 eI7715 => ?_)
                              have hI7715 : MP g n L I7715 := by rw [eI7715]; exact (mp_w hy hI7700 (c := 0) (mi_f hy hI7700.1 (c := 0) (0) (0) (900) (by decide) (Or.inr (by decide)) (by decide) (by omega) (by omega)) (by decide) (by decide) (Or.inr (by decide)))
                              have e7716 : I7715 (ad g 0) 2 = w7640 := by rw [eI7715, pp_ne _ _ (Or.inr (by decide))]; exact e7701
                              have e7717 : I7715 (ad g 0) 3 = w7641 := by rw [eI7715, pp_ne _ _ (Or.inr (by decide))]; exact e7702
                              have e7718 : I7715 (ad g 0) 7 = w7643 := by rw [eI7715, pp_ne _ _ (Or.inr (by decide))]; exact e7704
                              have e7719 : I7715 (ad g 0) 15 = w7644 := by rw [eI7715, pp_ne _ _ (Or.inr (by decide))]; exact e7705
                              have e7720 : I7715 (ad g 0) 16 = w7645 := by rw [eI7715, pp_ne _ _ (Or.inr (by decide))]; exact e7706
                              have e7721 : I7715 (ad g 0) 17 = w7646 := by rw [eI7715, pp_ne _ _ (Or.inr (by decide))]; exact e7707
                              have e7722 : I7715 (ad g 0) 18 = w7647 := by rw [eI7715, pp_ne _ _ (Or.inr (by decide))]; exact e7708
                              have e7723 : I7715 (ad g 0) 1 = L := by rw [eI7715, pp_ne _ _ (Or.inr (by decide))]; exact e7709
                              have e7724 : I7715 (ad g 0) 6 = v7699 := by rw [eI7715, pp_ne _ _ (Or.inr (by decide))]; exact e7710
                              have e7725 : I7715 (ad g 0) 4 = v7714 := by rw [eI7715, pp_self]
                              have fr7726 : fs g [3, 4, 5, 6] I I7715 := by rw [eI7715]; exact fs_pp0 fr7711 (by decide)
                              have fr7727 : fz 49 g [0] I I7715 := by rw [eI7715]; exact fzm_pp hy fr7712 (by decide) (by decide)
                              clear eI7715
                              refine WP_goto 160 dX11_scan_220 rfl ?_
                              exact WP_sub (fc rfl (fc rfl fn)) (ihlp160_7647 I7715 J7639 hI7715 fr7727 fjJ7639 fr7726 w7640 e7716 w7641 e7717 v7714 e7725 w7643 e7718 w7644 e7719 w7645 e7720 w7646 e7721 w7647 e7722 (by omega) (by omega) (by omega) (by omega) (by omega) (by omega) (by omega) (by omega) (by omega))
                      exact WP_sub (fc rfl (fc rfl fn)) (lp160_7647 _ I7625 J6940 hI7625 fr7637 fjJ6940 fr7636 w6941 e7626 w6942 e7633 v7624 e7635 w6943 e7627 w6944 e7628 w6945 e7629 w6946 e7630 w6947 e7631 (by omega) (by omega) (by omega) (by omega) (by omega) (by omega) (by omega) (by omega) (Nat.lt_succ_self _))
              · refine WP_aload_n dX11_scan_95 rfl ?_
                refine WP_aload_n dX11_scan_96 rfl ?_
                refine WQ_getim dX11_scan_97 fX11_20 rfl (ly_is hy 0 11 rfl) e7404 ?_
                refine WP_callV1 (k := 11) dX11_scan_100 ⟨⟨⟨by decide, by decide⟩, zX11_byteAt⟩, lX11_23, by decide, rfl, vX11_byteAt.1, vX11_byteAt.2⟩ (ly_is hy 0 11 rfl) (sm_byteAtx hy hr hI7402 w6942 (by omega) (by omega)) (Nat.le_of_ble_eq_true rfl) ?_
                intro r Ia Ja Ra hq
                obtain ⟨⟨ea, eb, ec⟩, v7728, rfl, cv7728⟩ := hq
                show WP _ _ _ _ (.int _ :: _) _ _ _ _
                rw [ea, eb, ec]
                clear ea eb ec Ia Ja Ra
                rw [e7403] at cv7728
                have ttv7728 : v7728.toInt = v7414.toInt := by rw [cv7728.2, ← cv7414.2]
                refine WP_callS1 dX11_scan_103 ⟨⟨⟨by decide, by decide⟩, zX11_isSmall⟩, lX11_30, tX11_isSmall⟩ (sm_isSmall hy hr hI7402 v7728 ) (Nat.le_of_ble_eq_true rfl) ?_
                intro r Ia Ja Ra hq
                obtain ⟨⟨ea, eb, ec⟩, v7729, rfl, av7729, bv7729, cv7729⟩ := hq
                show WP _ _ _ _ (.int _ :: _) _ _ _ _
                rw [ea, eb, ec]
                clear ea eb ec Ia Ja Ra
                refine WQ_if_eq 122 dX11_scan_106 rfl (fun c7729 => ?_) (fun c7729 => ?_)
                · refine WP_aload_n dX11_scan_122 rfl ?_
                  refine WP_aload_n dX11_scan_123 rfl ?_
                  refine WQ_getim dX11_scan_124 fX11_20 rfl (ly_is hy 0 11 rfl) e7404 ?_
                  refine WP_aload_n dX11_scan_127 rfl ?_
                  refine WQ_getim dX11_scan_128 fX11_7 rfl (ly_is hy 0 11 rfl) e7411 ?_
                  refine WQ_isub dX11_scan_131 (by omega) (by omega) (fun v7731 hv7731 => ?_)
                  refine WQ_bipush (8) (8) dX11_scan_132 rfl rfl (fun v7732 hv7732 => ?_)
                  have jn142_7735 : ∀ (v7735 : Int32), 1 ≤ v7735.toInt → v7735.toInt ≤ 4 → WP g mX11_scan 142 [(0, .ref (ad g 0)), (1, .int v7414)] [.int v7735, .ref (ad g 0)] I7402 J6940 R (fun r I' J' R' => (MP g n L I' ∧ R' = R ∧ fz 49 g [0] I I' ∧ fz 49 g [] J J' ∧ fs g [3, 4, 5, 6] I I' ∧ (((I' (ad g 0) 4).toInt ≤ (I' (ad g 0) 2).toInt ∧ (I' (ad g 0) 3).toInt ≤ (I' (ad g 0) 4).toInt ∧ ((I' (ad g 0) 5).toInt = 0 ∨ (I' (ad g 0) 3).toInt < (I' (ad g 0) 4).toInt)) ∧ (I (ad g 0) 4).toInt ≤ (I' (ad g 0) 3).toInt) ∧ I' (ad g 0) 7 = I (ad g 0) 7 ∧ I' (ad g 0) 15 = I (ad g 0) 15 ∧ I' (ad g 0) 16 = I (ad g 0) 16 ∧ I' (ad g 0) 17 = I (ad g 0) 17 ∧ I' (ad g 0) 18 = I (ad g 0) 18) ∧ r = none) := by
                    intro v7735 av7735 bv7735
                    refine WQ_puti dX11_scan_142 fX11_27 rfl rfl (ly_is hy 0 11 rfl) (fun I7737 eI7737 => ?_)
                    have hI7737 : MP g n L I7737 := by rw [eI7737]; exact (mp_w hy hI7402 (c := 0) (mi_f hy hI7402.1 (c := 0) (0) (0) (4) (by decide) (Or.inr (by decide)) (by decide) (by omega) (by omega)) (by decide) (by decide) (Or.inr (by decide)))
                    have e7738 : I7737 (ad g 0) 2 = w6941 := by rw [eI7737, pp_ne _ _ (Or.inr (by decide))]; exact e7403
                    have e7739 : I7737 (ad g 0) 4 = w6942 := by rw [eI7737, pp_ne _ _ (Or.inr (by decide))]; exact e7404
                    have e7740 : I7737 (ad g 0) 7 = w6943 := by rw [eI7737, pp_ne _ _ (Or.inr (by decide))]; exact e7405
                    have e7741 : I7737 (ad g 0) 15 = w6944 := by rw [eI7737, pp_ne _ _ (Or.inr (by decide))]; exact e7406
                    have e7742 : I7737 (ad g 0) 16 = w6945 := by rw [eI7737, pp_ne _ _ (Or.inr (by decide))]; exact e7407
                    have e7743 : I7737 (ad g 0) 17 = w6946 := by rw [eI7737, pp_ne _ _ (Or.inr (by decide))]; exact e7408
                    have e7744 : I7737 (ad g 0) 18 = w6947 := by rw [eI7737, pp_ne _ _ (Or.inr (by decide))]; exact e7409
                    have e7745 : I7737 (ad g 0) 1 = L := by rw [eI7737, pp_ne _ _ (Or.inr (by decide))]; exact e7410
                    have e7746 : I7737 (ad g 0) 3 = w6942 := by rw [eI7737, pp_ne _ _ (Or.inr (by decide))]; exact e7411
                    have e7747 : I7737 (ad g 0) 5 = v7735 := by rw [eI7737, pp_self]
                    have fr7748 : fs g [3, 4, 5, 6] I I7737 := by rw [eI7737]; exact fs_pp0 fr7412 (by decide)
                    have fr7749 : fz 49 g [0] I I7737 := by rw [eI7737]; exact fzm_pp hy fr7413 (by decide) (by decide)
                    have BI7737 : v7414 = BF g I7737 w6942 := by rw [eI7737, BF_w hy (by decide)]; exact cv7414.2
                    clear eI7737
                    refine WP_goto 273 dX11_scan_145 rfl ?_
                    exact WP_vret dX11_scan_273 rfl ⟨⟨hI7737, rfl, fr7749, fjJ6940, fr7748, ⟨(by rw [e7738, e7746, e7739, e7747, ew6937]; omega), (by rw [e7740, ew6932] <;> exact (eq32 _ _).mpr (by omega)), (by rw [e7741, ew6933] <;> exact (eq32 _ _).mpr (by omega)), (by rw [e7742, ew6934] <;> exact (eq32 _ _).mpr (by omega)), (by rw [e7743, ew6935] <;> exact (eq32 _ _).mpr (by omega)), (by rw [e7744, ew6936] <;> exact (eq32 _ _).mpr (by omega))⟩⟩, rfl⟩
                  refine WQ_icmp_le 141 dX11_scan_134 rfl (fun c7749 => ?_) (fun c7749 => ?_)
                  · refine WQ_iconst (1) (1) dX11_scan_141 rfl rfl (fun v7751 hv7751 => ?_)
                    exact WP_sub (fc rfl (fc rfl fn)) (jn142_7735 v7751 (by omega) (by omega))
                  · refine WQ_iconst (4) (4) dX11_scan_137 rfl rfl (fun v7752 hv7752 => ?_)
                    refine WP_goto 142 dX11_scan_138 rfl ?_
                    exact WP_sub (fc rfl (fc rfl fn)) (jn142_7735 v7752 (by omega) (by omega))
                · refine WP_aload_n dX11_scan_109 rfl ?_
                  refine WP_dup dX11_scan_110 rfl ?_
                  refine WQ_getim dX11_scan_111 fX11_20 rfl (ly_is hy 0 11 rfl) e7404 ?_
                  refine WQ_iconst (1) (1) dX11_scan_114 rfl rfl (fun v7753 hv7753 => ?_)
                  refine WQ_iadd dX11_scan_115 (by omega) (by omega) (fun v7754 hv7754 => ?_)
                  refine WQ_puti dX11_scan_116 fX11_20 rfl rfl (ly_is hy 0 11 rfl) (fun I7755 eI7755 => ?_)
                  have hI7755 : MP g n L I7755 := by rw [eI7755]; exact (mp_w hy hI7402 (c := 0) (mi_f hy hI7402.1 (c := 0) (0) (0) (900) (by decide) (Or.inr (by decide)) (by decide) (by omega) (by omega)) (by decide) (by decide) (Or.inr (by decide)))
                  have e7756 : I7755 (ad g 0) 2 = w6941 := by rw [eI7755, pp_ne _ _ (Or.inr (by decide))]; exact e7403
                  have e7757 : I7755 (ad g 0) 7 = w6943 := by rw [eI7755, pp_ne _ _ (Or.inr (by decide))]; exact e7405
                  have e7758 : I7755 (ad g 0) 15 = w6944 := by rw [eI7755, pp_ne _ _ (Or.inr (by decide))]; exact e7406
                  have e7759 : I7755 (ad g 0) 16 = w6945 := by rw [eI7755, pp_ne _ _ (Or.inr (by decide))]; exact e7407
                  have e7760 : I7755 (ad g 0) 17 = w6946 := by rw [eI7755, pp_ne _ _ (Or.inr (by decide))]; exact e7408
                  have e7761 : I7755 (ad g 0) 18 = w6947 := by rw [eI7755, pp_ne _ _ (Or.inr (by decide))]; exact e7409
                  have e7762 : I7755 (ad g 0) 1 = L := by rw [eI7755, pp_ne _ _ (Or.inr (by decide))]; exact e7410
                  have e7763 : I7755 (ad g 0) 3 = w6942 := by rw [eI7755, pp_ne _ _ (Or.inr (by decide))]; exact e7411
                  have e7764 : I7755 (ad g 0) 4 = v7754 := by rw [eI7755, pp_self]
                  have fr7765 : fs g [3, 4, 5, 6] I I7755 := by rw [eI7755]; exact fs_pp0 fr7412 (by decide)
                  have fr7766 : fz 49 g [0] I I7755 := by rw [eI7755]; exact fzm_pp hy fr7413 (by decide) (by decide)
                  have BI7755 : v7414 = BF g I7755 w6942 := by rw [eI7755, BF_w hy (by decide)]; exact cv7414.2
                  clear eI7755
                  refine WP_goto 95 dX11_scan_119 rfl ?_
                  have lp95_7776 : ∀ (mz : Nat)  (I7767 : pI) (J7768 : pJ), MP g n L I7767 → fz 49 g [0] I I7767 → fz 49 g [] J J7768 → fs g [3, 4, 5, 6] I I7767 → ∀ (w7769 : Int32), I7767 (ad g 0) 2 = w7769 → ∀ (w7770 : Int32), I7767 (ad g 0) 3 = w7770 → ∀ (w7771 : Int32), I7767 (ad g 0) 4 = w7771 → ∀ (w7772 : Int32), I7767 (ad g 0) 7 = w7772 → ∀ (w7773 : Int32), I7767 (ad g 0) 15 = w7773 → ∀ (w7774 : Int32), I7767 (ad g 0) 16 = w7774 → ∀ (w7775 : Int32), I7767 (ad g 0) 17 = w7775 → ∀ (w7776 : Int32), I7767 (ad g 0) 18 = w7776 → w7771.toInt ≤ w7769.toInt → w7770.toInt < w7771.toInt → w6937.toInt ≤ w7770.toInt → w7772.toInt = w6932.toInt → w7773.toInt = w6933.toInt → w7774.toInt = w6934.toInt → w7775.toInt = w6935.toInt → w7776.toInt = w6936.toInt → (901 - w7771.toInt).toNat < mz → WP g mX11_scan 95 [(0, .ref (ad g 0)), (1, .int v7414)] [] I7767 J7768 R (fun r I' J' R' => (MP g n L I' ∧ R' = R ∧ fz 49 g [0] I I' ∧ fz 49 g [] J J' ∧ fs g [3, 4, 5, 6] I I' ∧ (((I' (ad g 0) 4).toInt ≤ (I' (ad g 0) 2).toInt ∧ (I' (ad g 0) 3).toInt ≤ (I' (ad g 0) 4).toInt ∧ ((I' (ad g 0) 5).toInt = 0 ∨ (I' (ad g 0) 3).toInt < (I' (ad g 0) 4).toInt)) ∧ (I (ad g 0) 4).toInt ≤ (I' (ad g 0) 3).toInt) ∧ I' (ad g 0) 7 = I (ad g 0) 7 ∧ I' (ad g 0) 15 = I (ad g 0) 15 ∧ I' (ad g 0) 16 = I (ad g 0) 16 ∧ I' (ad g 0) 17 = I (ad g 0) 17 ∧ I' (ad g 0) 18 = I (ad g 0) 18) ∧ r = none) := by
                    intro mz
                    induction mz with
                    | zero =>
                      intro  I7767 J7768 hI7767 fiI7767 fjJ7768 fqI7767 w7769 ew7769 w7770 ew7770 w7771 ew7771 w7772 ew7772 w7773 ew7773 w7774 ew7774 w7775 ew7775 w7776 ew7776 j0_I7767 j1_I7767 j2_I7767 j3_I7767 j4_I7767 j5_I7767 j6_I7767 j7_I7767 hmlp95_7776
                      exact absurd hmlp95_7776 (Nat.not_lt_zero _)
                    | succ mz ihlp95_7776 =>
                      intro  I7767 J7768 hI7767 fiI7767 fjJ7768 fqI7767 w7769 ew7769 w7770 ew7770 w7771 ew7771 w7772 ew7772 w7773 ew7773 w7774 ew7774 w7775 ew7775 w7776 ew7776 j0_I7767 j1_I7767 j2_I7767 j3_I7767 j4_I7767 j5_I7767 j6_I7767 j7_I7767 hmlp95_7776
                      have bw7769 := BT_get hI7767.1.1 0 2 3 (0) (0) (900) (by decide) 2 (by decide) (by decide)
                      rw [ew7769] at bw7769
                      have bw7770 := BT_get hI7767.1.1 0 3 4 (0) (0) (900) (by decide) 3 (by decide) (by decide)
                      rw [ew7770] at bw7770
                      have bw7771 := BT_get hI7767.1.1 0 4 5 (0) (0) (900) (by decide) 4 (by decide) (by decide)
                      rw [ew7771] at bw7771
                      have bw7772 := BT_get hI7767.1.1 0 7 8 (-1) (0) (1000) (by decide) 7 (by decide) (by decide)
                      rw [ew7772] at bw7772
                      have bw7773 := BT_get hI7767.1.1 0 15 16 (0) (0) (4) (by decide) 15 (by decide) (by decide)
                      rw [ew7773] at bw7773
                      have bw7774 := BT_get hI7767.1.1 0 16 17 (0) (0) (3) (by decide) 16 (by decide) (by decide)
                      rw [ew7774] at bw7774
                      have bw7775 := BT_get hI7767.1.1 0 17 18 (-1) (0) (3) (by decide) 17 (by decide) (by decide)
                      rw [ew7775] at bw7775
                      have bw7776 := BT_get hI7767.1.1 0 18 19 (-1) (0) (2) (by decide) 18 (by decide) (by decide)
                      rw [ew7776] at bw7776
                      have e7778 : I7767 (ad g 0) 1 = L := hI7767.1.2
                      have b7779 := BT_get hI7767.1.1 0 1 2 (0) (0) (900) (by decide) 1 (by decide) (by decide)
                      rw [e7778] at b7779
                      refine WP_aload_n dX11_scan_95 rfl ?_
                      refine WP_aload_n dX11_scan_96 rfl ?_
                      refine WQ_getim dX11_scan_97 fX11_20 rfl (ly_is hy 0 11 rfl) ew7771 ?_
                      refine WP_callV1 (k := 11) dX11_scan_100 ⟨⟨⟨by decide, by decide⟩, zX11_byteAt⟩, lX11_23, by decide, rfl, vX11_byteAt.1, vX11_byteAt.2⟩ (ly_is hy 0 11 rfl) (sm_byteAtx hy hr hI7767 w7771 (by omega) (by omega)) (Nat.le_of_ble_eq_true rfl) ?_
                      intro r Ia Ja Ra hq
                      obtain ⟨⟨ea, eb, ec⟩, v7780, rfl, cv7780⟩ := hq
                      show WP _ _ _ _ (.int _ :: _) _ _ _ _
                      rw [ea, eb, ec]
                      clear ea eb ec Ia Ja Ra
                      rw [ew7769] at cv7780
                      refine WP_callS1 dX11_scan_103 ⟨⟨⟨by decide, by decide⟩, zX11_isSmall⟩, lX11_30, tX11_isSmall⟩ (sm_isSmall hy hr hI7767 v7780 ) (Nat.le_of_ble_eq_true rfl) ?_
                      intro r Ia Ja Ra hq
                      obtain ⟨⟨ea, eb, ec⟩, v7781, rfl, av7781, bv7781, cv7781⟩ := hq
                      show WP _ _ _ _ (.int _ :: _) _ _ _ _
                      rw [ea, eb, ec]
                      clear ea eb ec Ia Ja Ra
                      refine WQ_if_eq 122 dX11_scan_106 rfl (fun c7781 => ?_) (fun c7781 => ?_)
                      · refine WP_aload_n dX11_scan_122 rfl ?_
                        refine WP_aload_n dX11_scan_123 rfl ?_
                        refine WQ_getim dX11_scan_124 fX11_20 rfl (ly_is hy 0 11 rfl) ew7771 ?_
                        refine WP_aload_n dX11_scan_127 rfl ?_
                        refine WQ_getim dX11_scan_128 fX11_7 rfl (ly_is hy 0 11 rfl) ew7770 ?_
                        refine WQ_isub dX11_scan_131 (by omega) (by omega) (fun v7783 hv7783 => ?_)
                        refine WQ_bipush (8) (8) dX11_scan_132 rfl rfl (fun v7784 hv7784 => ?_)
                        have jn142_7787 : ∀ (v7787 : Int32), 1 ≤ v7787.toInt → v7787.toInt ≤ 4 → WP g mX11_scan 142 [(0, .ref (ad g 0)), (1, .int v7414)] [.int v7787, .ref (ad g 0)] I7767 J7768 R (fun r I' J' R' => (MP g n L I' ∧ R' = R ∧ fz 49 g [0] I I' ∧ fz 49 g [] J J' ∧ fs g [3, 4, 5, 6] I I' ∧ (((I' (ad g 0) 4).toInt ≤ (I' (ad g 0) 2).toInt ∧ (I' (ad g 0) 3).toInt ≤ (I' (ad g 0) 4).toInt ∧ ((I' (ad g 0) 5).toInt = 0 ∨ (I' (ad g 0) 3).toInt < (I' (ad g 0) 4).toInt)) ∧ (I (ad g 0) 4).toInt ≤ (I' (ad g 0) 3).toInt) ∧ I' (ad g 0) 7 = I (ad g 0) 7 ∧ I' (ad g 0) 15 = I (ad g 0) 15 ∧ I' (ad g 0) 16 = I (ad g 0) 16 ∧ I' (ad g 0) 17 = I (ad g 0) 17 ∧ I' (ad g 0) 18 = I (ad g 0) 18) ∧ r = none) := by
                          intro v7787 av7787 bv7787
                          refine WQ_puti dX11_scan_142 fX11_27 rfl rfl (ly_is hy 0 11 rfl) (fun I7789 eI7789 => ?_)
                          have hI7789 : MP g n L I7789 := by rw [eI7789]; exact (mp_w hy hI7767 (c := 0) (mi_f hy hI7767.1 (c := 0) (0) (0) (4) (by decide) (Or.inr (by decide)) (by decide) (by omega) (by omega)) (by decide) (by decide) (Or.inr (by decide)))
                          have e7790 : I7789 (ad g 0) 2 = w7769 := by rw [eI7789, pp_ne _ _ (Or.inr (by decide))]; exact ew7769
                          have e7791 : I7789 (ad g 0) 3 = w7770 := by rw [eI7789, pp_ne _ _ (Or.inr (by decide))]; exact ew7770
                          have e7792 : I7789 (ad g 0) 4 = w7771 := by rw [eI7789, pp_ne _ _ (Or.inr (by decide))]; exact ew7771
                          have e7793 : I7789 (ad g 0) 7 = w7772 := by rw [eI7789, pp_ne _ _ (Or.inr (by decide))]; exact ew7772
                          have e7794 : I7789 (ad g 0) 15 = w7773 := by rw [eI7789, pp_ne _ _ (Or.inr (by decide))]; exact ew7773
                          have e7795 : I7789 (ad g 0) 16 = w7774 := by rw [eI7789, pp_ne _ _ (Or.inr (by decide))]; exact ew7774
                          have e7796 : I7789 (ad g 0) 17 = w7775 := by rw [eI7789, pp_ne _ _ (Or.inr (by decide))]; exact ew7775
                          have e7797 : I7789 (ad g 0) 18 = w7776 := by rw [eI7789, pp_ne _ _ (Or.inr (by decide))]; exact ew7776
                          have e7798 : I7789 (ad g 0) 1 = L := by rw [eI7789, pp_ne _ _ (Or.inr (by decide))]; exact e7778
                          have e7799 : I7789 (ad g 0) 5 = v7787 := by rw [eI7789, pp_self]
                          have fr7800 : fs g [3, 4, 5, 6] I I7789 := by rw [eI7789]; exact fs_pp0 fqI7767 (by decide)
                          have fr7801 : fz 49 g [0] I I7789 := by rw [eI7789]; exact fzm_pp hy fiI7767 (by decide) (by decide)
                          clear eI7789
                          refine WP_goto 273 dX11_scan_145 rfl ?_
                          exact WP_vret dX11_scan_273 rfl ⟨⟨hI7789, rfl, fr7801, fjJ7768, fr7800, ⟨(by rw [e7790, e7791, e7792, e7799, ew6937]; omega), (by rw [e7793, ew6932] <;> exact (eq32 _ _).mpr (by omega)), (by rw [e7794, ew6933] <;> exact (eq32 _ _).mpr (by omega)), (by rw [e7795, ew6934] <;> exact (eq32 _ _).mpr (by omega)), (by rw [e7796, ew6935] <;> exact (eq32 _ _).mpr (by omega)), (by rw [e7797, ew6936] <;> exact (eq32 _ _).mpr (by omega))⟩⟩, rfl⟩
                        refine WQ_icmp_le 141 dX11_scan_134 rfl (fun c7801 => ?_) (fun c7801 => ?_)
                        · refine WQ_iconst (1) (1) dX11_scan_141 rfl rfl (fun v7803 hv7803 => ?_)
                          exact WP_sub (fc rfl (fc rfl fn)) (jn142_7787 v7803 (by omega) (by omega))
                        · refine WQ_iconst (4) (4) dX11_scan_137 rfl rfl (fun v7804 hv7804 => ?_)
                          refine WP_goto 142 dX11_scan_138 rfl ?_
                          exact WP_sub (fc rfl (fc rfl fn)) (jn142_7787 v7804 (by omega) (by omega))
                      · refine WP_aload_n dX11_scan_109 rfl ?_
                        refine WP_dup dX11_scan_110 rfl ?_
                        refine WQ_getim dX11_scan_111 fX11_20 rfl (ly_is hy 0 11 rfl) ew7771 ?_
                        refine WQ_iconst (1) (1) dX11_scan_114 rfl rfl (fun v7805 hv7805 => ?_)
                        refine WQ_iadd dX11_scan_115 (by omega) (by omega) (fun v7806 hv7806 => ?_)
                        refine WQ_puti dX11_scan_116 fX11_20 rfl rfl (ly_is hy 0 11 rfl) (fun I7807 eI7807 => ?_)
                        have hI7807 : MP g n L I7807 := by rw [eI7807]; exact (mp_w hy hI7767 (c := 0) (mi_f hy hI7767.1 (c := 0) (0) (0) (900) (by decide) (Or.inr (by decide)) (by decide) (by omega) (by omega)) (by decide) (by decide) (Or.inr (by decide)))
                        have e7808 : I7807 (ad g 0) 2 = w7769 := by rw [eI7807, pp_ne _ _ (Or.inr (by decide))]; exact ew7769
                        have e7809 : I7807 (ad g 0) 3 = w7770 := by rw [eI7807, pp_ne _ _ (Or.inr (by decide))]; exact ew7770
                        have e7810 : I7807 (ad g 0) 7 = w7772 := by rw [eI7807, pp_ne _ _ (Or.inr (by decide))]; exact ew7772
                        have e7811 : I7807 (ad g 0) 15 = w7773 := by rw [eI7807, pp_ne _ _ (Or.inr (by decide))]; exact ew7773
                        have e7812 : I7807 (ad g 0) 16 = w7774 := by rw [eI7807, pp_ne _ _ (Or.inr (by decide))]; exact ew7774
                        have e7813 : I7807 (ad g 0) 17 = w7775 := by rw [eI7807, pp_ne _ _ (Or.inr (by decide))]; exact ew7775
                        have e7814 : I7807 (ad g 0) 18 = w7776 := by rw [eI7807, pp_ne _ _ (Or.inr (by decide))]; exact ew7776
                        have e7815 : I7807 (ad g 0) 1 = L := by rw [eI7807, pp_ne _ _ (Or.inr (by decide))]; exact e7778
                        have e7816 : I7807 (ad g 0) 4 = v7806 := by rw [eI7807, pp_self]
                        have fr7817 : fs g [3, 4, 5, 6] I I7807 := by rw [eI7807]; exact fs_pp0 fqI7767 (by decide)
                        have fr7818 : fz 49 g [0] I I7807 := by rw [eI7807]; exact fzm_pp hy fiI7767 (by decide) (by decide)
                        clear eI7807
                        refine WP_goto 95 dX11_scan_119 rfl ?_
                        exact WP_sub (fc rfl (fc rfl fn)) (ihlp95_7776 I7807 J7768 hI7807 fr7818 fjJ7768 fr7817 w7769 e7808 w7770 e7809 v7806 e7816 w7772 e7810 w7773 e7811 w7774 e7812 w7775 e7813 w7776 e7814 (by omega) (by omega) (by omega) (by omega) (by omega) (by omega) (by omega) (by omega) (by omega))
                  exact WP_sub (fc rfl (fc rfl fn)) (lp95_7776 _ I7755 J6940 hI7755 fr7766 fjJ6940 fr7765 w6941 e7756 w6942 e7763 v7754 e7764 w6943 e7757 w6944 e7758 w6945 e7759 w6946 e7760 w6947 e7761 (by omega) (by omega) (by omega) (by omega) (by omega) (by omega) (by omega) (by omega) (Nat.lt_succ_self _))
            · refine WP_aload_n dX11_scan_80 rfl ?_
              refine WQ_iconst (0) (0) dX11_scan_81 rfl rfl (fun v7819 hv7819 => ?_)
              refine WQ_puti dX11_scan_82 fX11_27 rfl rfl (ly_is hy 0 11 rfl) (fun I7820 eI7820 => ?_)
              have hI7820 : MP g n L I7820 := by rw [eI7820]; exact (mp_w hy hI7402 (c := 0) (mi_f hy hI7402.1 (c := 0) (0) (0) (4) (by decide) (Or.inr (by decide)) (by decide) (by omega) (by omega)) (by decide) (by decide) (Or.inr (by decide)))
              have e7821 : I7820 (ad g 0) 2 = w6941 := by rw [eI7820, pp_ne _ _ (Or.inr (by decide))]; exact e7403
              have e7822 : I7820 (ad g 0) 4 = w6942 := by rw [eI7820, pp_ne _ _ (Or.inr (by decide))]; exact e7404
              have e7823 : I7820 (ad g 0) 7 = w6943 := by rw [eI7820, pp_ne _ _ (Or.inr (by decide))]; exact e7405
              have e7824 : I7820 (ad g 0) 15 = w6944 := by rw [eI7820, pp_ne _ _ (Or.inr (by decide))]; exact e7406
              have e7825 : I7820 (ad g 0) 16 = w6945 := by rw [eI7820, pp_ne _ _ (Or.inr (by decide))]; exact e7407
              have e7826 : I7820 (ad g 0) 17 = w6946 := by rw [eI7820, pp_ne _ _ (Or.inr (by decide))]; exact e7408
              have e7827 : I7820 (ad g 0) 18 = w6947 := by rw [eI7820, pp_ne _ _ (Or.inr (by decide))]; exact e7409
              have e7828 : I7820 (ad g 0) 1 = L := by rw [eI7820, pp_ne _ _ (Or.inr (by decide))]; exact e7410
              have e7829 : I7820 (ad g 0) 3 = w6942 := by rw [eI7820, pp_ne _ _ (Or.inr (by decide))]; exact e7411
              have e7830 : I7820 (ad g 0) 5 = v7819 := by rw [eI7820, pp_self]
              have fr7831 : fs g [3, 4, 5, 6] I I7820 := by rw [eI7820]; exact fs_pp0 fr7412 (by decide)
              have fr7832 : fz 49 g [0] I I7820 := by rw [eI7820]; exact fzm_pp hy fr7413 (by decide) (by decide)
              have BI7820 : v7414 = BF g I7820 w6942 := by rw [eI7820, BF_w hy (by decide)]; exact cv7414.2
              clear eI7820
              refine WP_goto 273 dX11_scan_85 rfl ?_
              exact WP_vret dX11_scan_273 rfl ⟨⟨hI7820, rfl, fr7832, fjJ6940, fr7831, ⟨(by rw [e7821, e7829, e7822, e7830, ew6937]; omega), (by rw [e7823, ew6932] <;> exact (eq32 _ _).mpr (by omega)), (by rw [e7824, ew6933] <;> exact (eq32 _ _).mpr (by omega)), (by rw [e7825, ew6934] <;> exact (eq32 _ _).mpr (by omega)), (by rw [e7826, ew6935] <;> exact (eq32 _ _).mpr (by omega)), (by rw [e7827, ew6936] <;> exact (eq32 _ _).mpr (by omega))⟩⟩, rfl⟩
          · refine WP_aload_n dX11_scan_39 rfl ?_
            refine WP_dup dX11_scan_40 rfl ?_
            refine WQ_getim dX11_scan_41 fX11_20 rfl (ly_is hy 0 11 rfl) ew6942 ?_
            refine WQ_iconst (1) (1) dX11_scan_44 rfl rfl (fun v7833 hv7833 => ?_)
            refine WQ_iadd dX11_scan_45 (by omega) (by omega) (fun v7834 hv7834 => ?_)
            refine WQ_puti dX11_scan_46 fX11_20 rfl rfl (ly_is hy 0 11 rfl) (fun I7835 eI7835 => ?_)
            have hI7835 : MP g n L I7835 := by rw [eI7835]; exact (mp_w hy hI6939 (c := 0) (mi_f hy hI6939.1 (c := 0) (0) (0) (900) (by decide) (Or.inr (by decide)) (by decide) (by omega) (by omega)) (by decide) (by decide) (Or.inr (by decide)))
            have e7836 : I7835 (ad g 0) 2 = w6941 := by rw [eI7835, pp_ne _ _ (Or.inr (by decide))]; exact ew6941
            have e7837 : I7835 (ad g 0) 7 = w6943 := by rw [eI7835, pp_ne _ _ (Or.inr (by decide))]; exact ew6943
            have e7838 : I7835 (ad g 0) 15 = w6944 := by rw [eI7835, pp_ne _ _ (Or.inr (by decide))]; exact ew6944
            have e7839 : I7835 (ad g 0) 16 = w6945 := by rw [eI7835, pp_ne _ _ (Or.inr (by decide))]; exact ew6945
            have e7840 : I7835 (ad g 0) 17 = w6946 := by rw [eI7835, pp_ne _ _ (Or.inr (by decide))]; exact ew6946
            have e7841 : I7835 (ad g 0) 18 = w6947 := by rw [eI7835, pp_ne _ _ (Or.inr (by decide))]; exact ew6947
            have e7842 : I7835 (ad g 0) 1 = L := by rw [eI7835, pp_ne _ _ (Or.inr (by decide))]; exact e6949
            have e7843 : I7835 (ad g 0) 4 = v7834 := by rw [eI7835, pp_self]
            have fr7844 : fs g [3, 4, 5, 6] I I7835 := by rw [eI7835]; exact fs_pp0 fqI6939 (by decide)
            have fr7845 : fz 49 g [0] I I7835 := by rw [eI7835]; exact fzm_pp hy fiI6939 (by decide) (by decide)
            clear eI7835
            refine WP_goto 0 dX11_scan_49 rfl ?_
            exact WP_sub (fc rfl fn) (ihlp0_6947 I7835 J6940 hI7835 fr7845 fjJ6940 fr7844 w6941 e7836 v7834 e7843 w6943 e7837 w6944 e7838 w6945 e7839 w6946 e7840 w6947 e7841 (by omega) (by omega) (by omega) (by omega) (by omega) (by omega) (by omega) (by omega))
  exact WP_sub (fc rfl fn) (lp0_6947 _ I J hI fr0 frj0 frq0 w6938 ew6938 w6937 ew6937 w6932 ew6932 w6933 ew6933 w6934 ew6934 w6935 ew6935 w6936 ew6936 (by omega) (by omega) (by omega) (by omega) (by omega) (by omega) (by omega) (Nat.lt_succ_self _))
set_option maxHeartbeats 4000000 in
set_option maxRecDepth 100000 in
theorem sm_badx {g : GG} {n : Int} {L : Int32} (hy : Ly g)  {I : pI} {J : pJ} {R : pR} (hr : Rf g R) (hI : MP g n L I) (k : Int32)  (hb : ((I (ad g 0) 4).toInt ≤ (I (ad g 0) 2).toInt ∧ (I (ad g 0) 3).toInt ≤ (I (ad g 0) 4).toInt ∧ ((I (ad g 0) 5).toInt = 0 ∨ (I (ad g 0) 3).toInt < (I (ad g 0) 4).toInt))) : SP g mX11_bad [.ref (ad g 0), .int k] I J R (fun r I' J' R' => (MP g n L I' ∧ R' = R ∧ fz 49 g [0] I I' ∧ fz 49 g [] J J' ∧ fs g [8, 9] I I' ∧ (((I' (ad g 0) 4).toInt ≤ (I' (ad g 0) 2).toInt ∧ (I' (ad g 0) 3).toInt ≤ (I' (ad g 0) 4).toInt ∧ ((I' (ad g 0) 5).toInt = 0 ∨ (I' (ad g 0) 3).toInt < (I' (ad g 0) 4).toInt)) ∧ (I (ad g 0) 3).toInt ≤ (I' (ad g 0) 3).toInt) ∧ I' (ad g 0) 15 = I (ad g 0) 15 ∧ I' (ad g 0) 16 = I (ad g 0) 16 ∧ I' (ad g 0) 17 = I (ad g 0) 17 ∧ I' (ad g 0) 18 = I (ad g 0) 18) ∧ ∃ v : Int32, r = some (.int v) ∧ 0 ≤ v.toInt ∧ v.toInt ≤ 0) := by
  refine SP_of ⟨by decide, rfl⟩ (Nat.le_of_ble_eq_true rfl) ?_
  have e7846 : I (ad g 0) 1 = L := hI.1.2
  have b7847 := BT_get hI.1.1 0 1 2 (0) (0) (900) (by decide) 1 (by decide) (by decide)
  rw [e7846] at b7847
  have fr0 : fz 49 g [0] I I := fz_rf
  have frj0 : fz 49 g [] J J := fz_rf
  have frq0 : fs g [8, 9] I I := fs_rf
  obtain ⟨w7848, ew7848⟩ : ∃ w : Int32, I (ad g 0) 15 = w := ⟨_, rfl⟩
  have bw7848 := BT_get hI.1.1 0 15 16 (0) (0) (4) (by decide) 15 (by decide) (by decide)
  rw [ew7848] at bw7848
  obtain ⟨w7849, ew7849⟩ : ∃ w : Int32, I (ad g 0) 16 = w := ⟨_, rfl⟩
  have bw7849 := BT_get hI.1.1 0 16 17 (0) (0) (3) (by decide) 16 (by decide) (by decide)
  rw [ew7849] at bw7849
  obtain ⟨w7850, ew7850⟩ : ∃ w : Int32, I (ad g 0) 17 = w := ⟨_, rfl⟩
  have bw7850 := BT_get hI.1.1 0 17 18 (-1) (0) (3) (by decide) 17 (by decide) (by decide)
  rw [ew7850] at bw7850
  obtain ⟨w7851, ew7851⟩ : ∃ w : Int32, I (ad g 0) 18 = w := ⟨_, rfl⟩
  have bw7851 := BT_get hI.1.1 0 18 19 (-1) (0) (2) (by decide) 18 (by decide) (by decide)
  rw [ew7851] at bw7851
  obtain ⟨w7852, ew7852⟩ : ∃ w : Int32, I (ad g 0) 2 = w := ⟨_, rfl⟩
  have bw7852 := BT_get hI.1.1 0 2 3 (0) (0) (900) (by decide) 2 (by decide) (by decide)
  rw [ew7852] at bw7852
  obtain ⟨w7853, ew7853⟩ : ∃ w : Int32, I (ad g 0) 3 = w := ⟨_, rfl⟩
  have bw7853 := BT_get hI.1.1 0 3 4 (0) (0) (900) (by decide) 3 (by decide) (by decide)
  rw [ew7853] at bw7853
  obtain ⟨w7854, ew7854⟩ : ∃ w : Int32, I (ad g 0) 4 = w := ⟨_, rfl⟩
  have bw7854 := BT_get hI.1.1 0 4 5 (0) (0) (900) (by decide) 4 (by decide) (by decide)
  rw [ew7854] at bw7854
  obtain ⟨w7855, ew7855⟩ : ∃ w : Int32, I (ad g 0) 5 = w := ⟨_, rfl⟩
  have bw7855 := BT_get hI.1.1 0 5 6 (0) (0) (4) (by decide) 5 (by decide) (by decide)
  rw [ew7855] at bw7855
  rw [ew7852, ew7853, ew7854, ew7855] at hb
  refine WP_aload_n dX11_bad_0 rfl ?_
  refine WP_iload_n dX11_bad_1 rfl ?_
  refine WQ_puti dX11_bad_2 fX11_3 rfl rfl (ly_is hy 0 11 rfl) (fun I7856 eI7856 => ?_)
  have hI7856 : MP g n L I7856 := by rw [eI7856]; exact (mp_w hy hI (c := 0) (mi_f0 hy hI.1 (c := 0) (by decide) (Or.inr (by decide)) (by decide)) (by decide) (by decide) (Or.inr (by decide)))
  have e7857 : I7856 (ad g 0) 1 = L := by rw [eI7856, pp_ne _ _ (Or.inr (by decide))]; exact e7846
  have e7858 : I7856 (ad g 0) 15 = w7848 := by rw [eI7856, pp_ne _ _ (Or.inr (by decide))]; exact ew7848
  have e7859 : I7856 (ad g 0) 16 = w7849 := by rw [eI7856, pp_ne _ _ (Or.inr (by decide))]; exact ew7849
  have e7860 : I7856 (ad g 0) 17 = w7850 := by rw [eI7856, pp_ne _ _ (Or.inr (by decide))]; exact ew7850
  have e7861 : I7856 (ad g 0) 18 = w7851 := by rw [eI7856, pp_ne _ _ (Or.inr (by decide))]; exact ew7851
  have e7862 : I7856 (ad g 0) 2 = w7852 := by rw [eI7856, pp_ne _ _ (Or.inr (by decide))]; exact ew7852
  have e7863 : I7856 (ad g 0) 3 = w7853 := by rw [eI7856, pp_ne _ _ (Or.inr (by decide))]; exact ew7853
  have e7864 : I7856 (ad g 0) 4 = w7854 := by rw [eI7856, pp_ne _ _ (Or.inr (by decide))]; exact ew7854
  have e7865 : I7856 (ad g 0) 5 = w7855 := by rw [eI7856, pp_ne _ _ (Or.inr (by decide))]; exact ew7855
  have e7866 : I7856 (ad g 0) 8 = k := by rw [eI7856, pp_self]
  have fr7867 : fs g [8, 9] I I7856 := by rw [eI7856]; exact fs_pp0 frq0 (by decide)
  have fr7868 : fz 49 g [0] I I7856 := by rw [eI7856]; exact fzm_pp hy fr0 (by decide) (by decide)
  clear eI7856
  refine WP_aload_n dX11_bad_5 rfl ?_
  refine WP_aload_n dX11_bad_6 rfl ?_
  refine WQ_getim dX11_bad_7 fX11_7 rfl (ly_is hy 0 11 rfl) e7863 ?_
  refine WQ_puti dX11_bad_10 fX11_10 rfl rfl (ly_is hy 0 11 rfl) (fun I7869 eI7869 => ?_)
  have hI7869 : MP g n L I7869 := by rw [eI7869]; exact (mp_w hy hI7856 (c := 0) (mi_f0 hy hI7856.1 (c := 0) (by decide) (Or.inr (by decide)) (by decide)) (by decide) (by decide) (Or.inr (by decide)))
  have e7870 : I7869 (ad g 0) 1 = L := by rw [eI7869, pp_ne _ _ (Or.inr (by decide))]; exact e7857
  have e7871 : I7869 (ad g 0) 15 = w7848 := by rw [eI7869, pp_ne _ _ (Or.inr (by decide))]; exact e7858
  have e7872 : I7869 (ad g 0) 16 = w7849 := by rw [eI7869, pp_ne _ _ (Or.inr (by decide))]; exact e7859
  have e7873 : I7869 (ad g 0) 17 = w7850 := by rw [eI7869, pp_ne _ _ (Or.inr (by decide))]; exact e7860
  have e7874 : I7869 (ad g 0) 18 = w7851 := by rw [eI7869, pp_ne _ _ (Or.inr (by decide))]; exact e7861
  have e7875 : I7869 (ad g 0) 2 = w7852 := by rw [eI7869, pp_ne _ _ (Or.inr (by decide))]; exact e7862
  have e7876 : I7869 (ad g 0) 3 = w7853 := by rw [eI7869, pp_ne _ _ (Or.inr (by decide))]; exact e7863
  have e7877 : I7869 (ad g 0) 4 = w7854 := by rw [eI7869, pp_ne _ _ (Or.inr (by decide))]; exact e7864
  have e7878 : I7869 (ad g 0) 5 = w7855 := by rw [eI7869, pp_ne _ _ (Or.inr (by decide))]; exact e7865
  have e7879 : I7869 (ad g 0) 8 = k := by rw [eI7869, pp_ne _ _ (Or.inr (by decide))]; exact e7866
  have e7880 : I7869 (ad g 0) 9 = w7853 := by rw [eI7869, pp_self]
  have fr7881 : fs g [8, 9] I I7869 := by rw [eI7869]; exact fs_pp0 fr7867 (by decide)
  have fr7882 : fz 49 g [0] I I7869 := by rw [eI7869]; exact fzm_pp hy fr7868 (by decide) (by decide)
  clear eI7869
  refine WQ_iconst (0) (0) dX11_bad_13 rfl rfl (fun v7883 hv7883 => ?_)
  exact WP_zret dX11_bad_14 rfl (nar_z (by omega)) ⟨⟨hI7869, rfl, fr7882, frj0, fr7881, ⟨(by rw [e7875, e7876, e7877, e7878, ew7853]; omega), (by rw [e7871, ew7848] <;> exact (eq32 _ _).mpr (by omega)), (by rw [e7872, ew7849] <;> exact (eq32 _ _).mpr (by omega)), (by rw [e7873, ew7850] <;> exact (eq32 _ _).mpr (by omega)), (by rw [e7874, ew7851] <;> exact (eq32 _ _).mpr (by omega))⟩⟩, _, rfl, by omega, by omega⟩
set_option maxHeartbeats 4000000 in
set_option maxRecDepth 100000 in
theorem sm_peekx {g : GG} {n : Int} {L : Int32} (hy : Ly g)  {I : pI} {J : pJ} {R : pR} (hr : Rf g R) (hI : MP g n L I) (lo : Int32) (hi : Int32) (lo_lo : -1 ≤ lo.toInt) (lo_hi : lo.toInt ≤ 1000) (hi_lo : -1 ≤ hi.toInt) (hi_hi : hi.toInt ≤ 1000) (hb : ((I (ad g 0) 4).toInt ≤ (I (ad g 0) 2).toInt ∧ (I (ad g 0) 3).toInt ≤ (I (ad g 0) 4).toInt ∧ ((I (ad g 0) 5).toInt = 0 ∨ (I (ad g 0) 3).toInt < (I (ad g 0) 4).toInt))) : SP g mX11_peek [.ref (ad g 0), .int lo, .int hi] I J R (fun r I' J' R' => (MP g n L I' ∧ R' = R ∧ fz 49 g [0] I I' ∧ fz 49 g [] J J' ∧ fs g [7, 8, 9] I I' ∧ (((I' (ad g 0) 4).toInt ≤ (I' (ad g 0) 2).toInt ∧ (I' (ad g 0) 3).toInt ≤ (I' (ad g 0) 4).toInt ∧ ((I' (ad g 0) 5).toInt = 0 ∨ (I' (ad g 0) 3).toInt < (I' (ad g 0) 4).toInt)) ∧ (I (ad g 0) 3).toInt ≤ (I' (ad g 0) 3).toInt) ∧ I' (ad g 0) 15 = I (ad g 0) 15 ∧ I' (ad g 0) 16 = I (ad g 0) 16 ∧ I' (ad g 0) 17 = I (ad g 0) 17 ∧ I' (ad g 0) 18 = I (ad g 0) 18) ∧ ∃ v : Int32, r = some (.int v) ∧ 0 ≤ v.toInt ∧ v.toInt ≤ 1 ∧ (v.toInt = 1 → lo.toInt ≤ (I' (ad g 0) 7).toInt ∧ (I' (ad g 0) 7).toInt ≤ hi.toInt)) := by
  refine SP_of ⟨by decide, rfl⟩ (Nat.le_of_ble_eq_true rfl) ?_
  have e7884 : I (ad g 0) 1 = L := hI.1.2
  have b7885 := BT_get hI.1.1 0 1 2 (0) (0) (900) (by decide) 1 (by decide) (by decide)
  rw [e7884] at b7885
  have fr0 : fz 49 g [0] I I := fz_rf
  have frj0 : fz 49 g [] J J := fz_rf
  have frq0 : fs g [7, 8, 9] I I := fs_rf
  obtain ⟨w7886, ew7886⟩ : ∃ w : Int32, I (ad g 0) 15 = w := ⟨_, rfl⟩
  have bw7886 := BT_get hI.1.1 0 15 16 (0) (0) (4) (by decide) 15 (by decide) (by decide)
  rw [ew7886] at bw7886
  obtain ⟨w7887, ew7887⟩ : ∃ w : Int32, I (ad g 0) 16 = w := ⟨_, rfl⟩
  have bw7887 := BT_get hI.1.1 0 16 17 (0) (0) (3) (by decide) 16 (by decide) (by decide)
  rw [ew7887] at bw7887
  obtain ⟨w7888, ew7888⟩ : ∃ w : Int32, I (ad g 0) 17 = w := ⟨_, rfl⟩
  have bw7888 := BT_get hI.1.1 0 17 18 (-1) (0) (3) (by decide) 17 (by decide) (by decide)
  rw [ew7888] at bw7888
  obtain ⟨w7889, ew7889⟩ : ∃ w : Int32, I (ad g 0) 18 = w := ⟨_, rfl⟩
  have bw7889 := BT_get hI.1.1 0 18 19 (-1) (0) (2) (by decide) 18 (by decide) (by decide)
  rw [ew7889] at bw7889
  obtain ⟨w7890, ew7890⟩ : ∃ w : Int32, I (ad g 0) 2 = w := ⟨_, rfl⟩
  have bw7890 := BT_get hI.1.1 0 2 3 (0) (0) (900) (by decide) 2 (by decide) (by decide)
  rw [ew7890] at bw7890
  obtain ⟨w7891, ew7891⟩ : ∃ w : Int32, I (ad g 0) 3 = w := ⟨_, rfl⟩
  have bw7891 := BT_get hI.1.1 0 3 4 (0) (0) (900) (by decide) 3 (by decide) (by decide)
  rw [ew7891] at bw7891
  obtain ⟨w7892, ew7892⟩ : ∃ w : Int32, I (ad g 0) 4 = w := ⟨_, rfl⟩
  have bw7892 := BT_get hI.1.1 0 4 5 (0) (0) (900) (by decide) 4 (by decide) (by decide)
  rw [ew7892] at bw7892
  obtain ⟨w7893, ew7893⟩ : ∃ w : Int32, I (ad g 0) 5 = w := ⟨_, rfl⟩
  have bw7893 := BT_get hI.1.1 0 5 6 (0) (0) (4) (by decide) 5 (by decide) (by decide)
  rw [ew7893] at bw7893
  rw [ew7890, ew7891, ew7892, ew7893] at hb
  refine WP_aload_n dX11_peek_0 rfl ?_
  refine WQ_getim dX11_peek_1 fX11_27 rfl (ly_is hy 0 11 rfl) ew7893 ?_
  refine WQ_iconst (2) (2) dX11_peek_4 rfl rfl (fun v7894 hv7894 => ?_)
  refine WQ_icmp_eq 14 dX11_peek_5 rfl (fun c7894 => ?_) (fun c7894 => ?_)
  · refine WP_aload_n dX11_peek_14 rfl ?_
    refine WQ_getiu dX11_peek_15 fX11_37 rfl (ly_is hy 0 11 rfl) (fun v7896 ev7896 => ?_)
    refine WQ_i2l dX11_peek_18 (fun l7897 hl7897 => ?_)
    refine WP_iload_n dX11_peek_19 rfl ?_
    refine WQ_i2l dX11_peek_20 (fun l7898 hl7898 => ?_)
    refine WP_iload_n dX11_peek_21 rfl ?_
    refine WQ_i2l dX11_peek_22 (fun l7899 hl7899 => ?_)
    refine WP_callS3 dX11_peek_23 ⟨⟨⟨by decide, by decide⟩, zX11_in⟩, lX11_52, tX11_in⟩ (sm_in hy hr hI l7897 l7898 l7899 ) (Nat.le_of_ble_eq_true rfl) ?_
    intro r Ia Ja Ra hq
    obtain ⟨⟨ea, eb, ec⟩, v7900, rfl, av7900, bv7900, cv7900⟩ := hq
    show WP _ _ _ _ (.int _ :: _) _ _ _ _
    rw [ea, eb, ec]
    clear ea eb ec Ia Ja Ra
    refine WQ_if_ne 35 dX11_peek_26 rfl (fun c7900 => ?_) (fun c7900 => ?_)
    · refine WP_aload_n dX11_peek_35 rfl ?_
      refine WP_aload_n dX11_peek_36 rfl ?_
      refine WQ_getim dX11_peek_37 fX11_37 rfl (ly_is hy 0 11 rfl) ev7896 ?_
      refine WQ_puti dX11_peek_40 fX11_56 rfl rfl (ly_is hy 0 11 rfl) (fun I7902 eI7902 => ?_)
      have hI7902 : MP g n L I7902 := by rw [eI7902]; exact (mp_w hy hI (c := 0) (mi_f hy hI.1 (c := 0) (-1) (0) (1000) (by decide) (Or.inr (by decide)) (by decide) (by omega) (by omega)) (by decide) (by decide) (Or.inr (by decide)))
      have e7903 : I7902 (ad g 0) 1 = L := by rw [eI7902, pp_ne _ _ (Or.inr (by decide))]; exact e7884
      have e7904 : I7902 (ad g 0) 15 = w7886 := by rw [eI7902, pp_ne _ _ (Or.inr (by decide))]; exact ew7886
      have e7905 : I7902 (ad g 0) 16 = w7887 := by rw [eI7902, pp_ne _ _ (Or.inr (by decide))]; exact ew7887
      have e7906 : I7902 (ad g 0) 17 = w7888 := by rw [eI7902, pp_ne _ _ (Or.inr (by decide))]; exact ew7888
      have e7907 : I7902 (ad g 0) 18 = w7889 := by rw [eI7902, pp_ne _ _ (Or.inr (by decide))]; exact ew7889
      have e7908 : I7902 (ad g 0) 2 = w7890 := by rw [eI7902, pp_ne _ _ (Or.inr (by decide))]; exact ew7890
      have e7909 : I7902 (ad g 0) 3 = w7891 := by rw [eI7902, pp_ne _ _ (Or.inr (by decide))]; exact ew7891
      have e7910 : I7902 (ad g 0) 4 = w7892 := by rw [eI7902, pp_ne _ _ (Or.inr (by decide))]; exact ew7892
      have e7911 : I7902 (ad g 0) 5 = w7893 := by rw [eI7902, pp_ne _ _ (Or.inr (by decide))]; exact ew7893
      have e7912 : I7902 (ad g 0) 6 = v7896 := by rw [eI7902, pp_ne _ _ (Or.inr (by decide))]; exact ev7896
      have e7913 : I7902 (ad g 0) 7 = v7896 := by rw [eI7902, pp_self]
      have fr7914 : fs g [7, 8, 9] I I7902 := by rw [eI7902]; exact fs_pp0 frq0 (by decide)
      have fr7915 : fz 49 g [0] I I7902 := by rw [eI7902]; exact fzm_pp hy fr0 (by decide) (by decide)
      clear eI7902
      refine WQ_iconst (1) (1) dX11_peek_43 rfl rfl (fun v7916 hv7916 => ?_)
      exact WP_zret dX11_peek_44 rfl (nar_z (by omega)) ⟨⟨hI7902, rfl, fr7915, frj0, fr7914, ⟨(by rw [e7908, e7909, e7910, e7911, ew7891]; omega), (by rw [e7904, ew7886] <;> exact (eq32 _ _).mpr (by omega)), (by rw [e7905, ew7887] <;> exact (eq32 _ _).mpr (by omega)), (by rw [e7906, ew7888] <;> exact (eq32 _ _).mpr (by omega)), (by rw [e7907, ew7889] <;> exact (eq32 _ _).mpr (by omega))⟩⟩, _, rfl, by omega, by omega, by (try rw [e7913]); omega⟩
    · refine WP_aload_n dX11_peek_29 rfl ?_
      refine WQ_iconst (2) (2) dX11_peek_30 rfl rfl (fun v7917 hv7917 => ?_)
      refine WP_callV1 (k := 11) dX11_peek_31 ⟨⟨⟨by decide, by decide⟩, zX11_bad⟩, lX11_49, by decide, rfl, vX11_bad.1, vX11_bad.2⟩ (ly_is hy 0 11 rfl) (sm_badx hy hr hI v7917  (by rw [ew7890, ew7891, ew7892, ew7893]; omega)) (Nat.le_of_ble_eq_true rfl) ?_
      intro r I7918 J7919 Ra hq
      obtain ⟨⟨hI7918, ec, fiI7918, fjI7918, fqI7918, ⟨pI7918, sI7918_0_15, sI7918_0_16, sI7918_0_17, sI7918_0_18⟩⟩, v7920, rfl, av7920, bv7920⟩ := hq
      show WP _ _ _ _ (.int _ :: _) _ _ _ _
      rw [ec]
      clear ec Ra
      have fr7921 : fz 49 g [0] I I7918 := fz_tr fr0 (fz_mono fiI7918 (by decide))
      have fr7922 : fs g [7, 8, 9] I I7918 := fs_tr frq0 (fs_mono fqI7918 (by decide))
      have fr7923 : fz 49 g [] J J7919 := fz_tr frj0 (fz_mono fjI7918 (by decide))
      have e7924 : I7918 (ad g 0) 15 = w7886 := by rw [sI7918_0_15]; exact ew7886
      have e7925 : I7918 (ad g 0) 16 = w7887 := by rw [sI7918_0_16]; exact ew7887
      have e7926 : I7918 (ad g 0) 17 = w7888 := by rw [sI7918_0_17]; exact ew7888
      have e7927 : I7918 (ad g 0) 18 = w7889 := by rw [sI7918_0_18]; exact ew7889
      have e7928 : I7918 (ad g 0) 1 = L := hI7918.1.2
      have b7929 := BT_get hI7918.1.1 0 1 2 (0) (0) (900) (by decide) 1 (by decide) (by decide)
      rw [e7928] at b7929
      obtain ⟨w7930, ew7930⟩ : ∃ w : Int32, I7918 (ad g 0) 2 = w := ⟨_, rfl⟩
      have bw7930 := BT_get hI7918.1.1 0 2 3 (0) (0) (900) (by decide) 2 (by decide) (by decide)
      rw [ew7930] at bw7930
      obtain ⟨w7931, ew7931⟩ : ∃ w : Int32, I7918 (ad g 0) 3 = w := ⟨_, rfl⟩
      have bw7931 := BT_get hI7918.1.1 0 3 4 (0) (0) (900) (by decide) 3 (by decide) (by decide)
      rw [ew7931] at bw7931
      obtain ⟨w7932, ew7932⟩ : ∃ w : Int32, I7918 (ad g 0) 4 = w := ⟨_, rfl⟩
      have bw7932 := BT_get hI7918.1.1 0 4 5 (0) (0) (900) (by decide) 4 (by decide) (by decide)
      rw [ew7932] at bw7932
      obtain ⟨w7933, ew7933⟩ : ∃ w : Int32, I7918 (ad g 0) 5 = w := ⟨_, rfl⟩
      have bw7933 := BT_get hI7918.1.1 0 5 6 (0) (0) (4) (by decide) 5 (by decide) (by decide)
      rw [ew7933] at bw7933
      rw [ew7930, ew7931, ew7932, ew7933, ew7891] at pI7918
      obtain ⟨w7934, ew7934⟩ : ∃ w : Int32, I7918 (ad g 0) 7 = w := ⟨_, rfl⟩
      have bw7934 := BT_get hI7918.1.1 0 7 8 (-1) (0) (1000) (by decide) 7 (by decide) (by decide)
      rw [ew7934] at bw7934
      exact WP_zret dX11_peek_34 rfl (nar_z (by omega)) ⟨⟨hI7918, rfl, fr7921, fr7923, fr7922, ⟨(by rw [ew7930, ew7931, ew7932, ew7933, ew7891]; omega), (by rw [e7924, ew7886] <;> exact (eq32 _ _).mpr (by omega)), (by rw [e7925, ew7887] <;> exact (eq32 _ _).mpr (by omega)), (by rw [e7926, ew7888] <;> exact (eq32 _ _).mpr (by omega)), (by rw [e7927, ew7889] <;> exact (eq32 _ _).mpr (by omega))⟩⟩, _, rfl, by omega, by omega, by (try rw [ew7934]); omega⟩
  · refine WP_aload_n dX11_peek_8 rfl ?_
    refine WQ_iconst (1) (1) dX11_peek_9 rfl rfl (fun v7935 hv7935 => ?_)
    refine WP_callV1 (k := 11) dX11_peek_10 ⟨⟨⟨by decide, by decide⟩, zX11_bad⟩, lX11_49, by decide, rfl, vX11_bad.1, vX11_bad.2⟩ (ly_is hy 0 11 rfl) (sm_badx hy hr hI v7935  (by rw [ew7890, ew7891, ew7892, ew7893]; omega)) (Nat.le_of_ble_eq_true rfl) ?_
    intro r I7936 J7937 Ra hq
    obtain ⟨⟨hI7936, ec, fiI7936, fjI7936, fqI7936, ⟨pI7936, sI7936_0_15, sI7936_0_16, sI7936_0_17, sI7936_0_18⟩⟩, v7938, rfl, av7938, bv7938⟩ := hq
    show WP _ _ _ _ (.int _ :: _) _ _ _ _
    rw [ec]
    clear ec Ra
    have fr7939 : fz 49 g [0] I I7936 := fz_tr fr0 (fz_mono fiI7936 (by decide))
    have fr7940 : fs g [7, 8, 9] I I7936 := fs_tr frq0 (fs_mono fqI7936 (by decide))
    have fr7941 : fz 49 g [] J J7937 := fz_tr frj0 (fz_mono fjI7936 (by decide))
    have e7942 : I7936 (ad g 0) 15 = w7886 := by rw [sI7936_0_15]; exact ew7886
    have e7943 : I7936 (ad g 0) 16 = w7887 := by rw [sI7936_0_16]; exact ew7887
    have e7944 : I7936 (ad g 0) 17 = w7888 := by rw [sI7936_0_17]; exact ew7888
    have e7945 : I7936 (ad g 0) 18 = w7889 := by rw [sI7936_0_18]; exact ew7889
    have e7946 : I7936 (ad g 0) 1 = L := hI7936.1.2
    have b7947 := BT_get hI7936.1.1 0 1 2 (0) (0) (900) (by decide) 1 (by decide) (by decide)
    rw [e7946] at b7947
    obtain ⟨w7948, ew7948⟩ : ∃ w : Int32, I7936 (ad g 0) 2 = w := ⟨_, rfl⟩
    have bw7948 := BT_get hI7936.1.1 0 2 3 (0) (0) (900) (by decide) 2 (by decide) (by decide)
    rw [ew7948] at bw7948
    obtain ⟨w7949, ew7949⟩ : ∃ w : Int32, I7936 (ad g 0) 3 = w := ⟨_, rfl⟩
    have bw7949 := BT_get hI7936.1.1 0 3 4 (0) (0) (900) (by decide) 3 (by decide) (by decide)
    rw [ew7949] at bw7949
    obtain ⟨w7950, ew7950⟩ : ∃ w : Int32, I7936 (ad g 0) 4 = w := ⟨_, rfl⟩
    have bw7950 := BT_get hI7936.1.1 0 4 5 (0) (0) (900) (by decide) 4 (by decide) (by decide)
    rw [ew7950] at bw7950
    obtain ⟨w7951, ew7951⟩ : ∃ w : Int32, I7936 (ad g 0) 5 = w := ⟨_, rfl⟩
    have bw7951 := BT_get hI7936.1.1 0 5 6 (0) (0) (4) (by decide) 5 (by decide) (by decide)
    rw [ew7951] at bw7951
    rw [ew7948, ew7949, ew7950, ew7951, ew7891] at pI7936
    obtain ⟨w7952, ew7952⟩ : ∃ w : Int32, I7936 (ad g 0) 7 = w := ⟨_, rfl⟩
    have bw7952 := BT_get hI7936.1.1 0 7 8 (-1) (0) (1000) (by decide) 7 (by decide) (by decide)
    rw [ew7952] at bw7952
    exact WP_zret dX11_peek_13 rfl (nar_z (by omega)) ⟨⟨hI7936, rfl, fr7939, fr7941, fr7940, ⟨(by rw [ew7948, ew7949, ew7950, ew7951, ew7891]; omega), (by rw [e7942, ew7886] <;> exact (eq32 _ _).mpr (by omega)), (by rw [e7943, ew7887] <;> exact (eq32 _ _).mpr (by omega)), (by rw [e7944, ew7888] <;> exact (eq32 _ _).mpr (by omega)), (by rw [e7945, ew7889] <;> exact (eq32 _ _).mpr (by omega))⟩⟩, _, rfl, by omega, by omega, by (try rw [ew7952]); omega⟩
set_option maxHeartbeats 4000000 in
set_option maxRecDepth 100000 in
theorem sm_numberx {g : GG} {n : Int} {L : Int32} (hy : Ly g)  {I : pI} {J : pJ} {R : pR} (hr : Rf g R) (hI : MP g n L I) (lo : Int32) (hi : Int32) (lo_lo : -1 ≤ lo.toInt) (lo_hi : lo.toInt ≤ 1000) (hi_lo : -1 ≤ hi.toInt) (hi_hi : hi.toInt ≤ 1000) (hb : ((I (ad g 0) 4).toInt ≤ (I (ad g 0) 2).toInt ∧ (I (ad g 0) 3).toInt ≤ (I (ad g 0) 4).toInt ∧ ((I (ad g 0) 5).toInt = 0 ∨ (I (ad g 0) 3).toInt < (I (ad g 0) 4).toInt))) : SP g mX11_number [.ref (ad g 0), .int lo, .int hi] I J R (fun r I' J' R' => (MP g n L I' ∧ R' = R ∧ fz 49 g [0] I I' ∧ fz 49 g [] J J' ∧ fs g [3, 4, 5, 6, 7, 8, 9] I I' ∧ (((I' (ad g 0) 4).toInt ≤ (I' (ad g 0) 2).toInt ∧ (I' (ad g 0) 3).toInt ≤ (I' (ad g 0) 4).toInt ∧ ((I' (ad g 0) 5).toInt = 0 ∨ (I' (ad g 0) 3).toInt < (I' (ad g 0) 4).toInt)) ∧ (I (ad g 0) 3).toInt ≤ (I' (ad g 0) 3).toInt) ∧ I' (ad g 0) 15 = I (ad g 0) 15 ∧ I' (ad g 0) 16 = I (ad g 0) 16 ∧ I' (ad g 0) 17 = I (ad g 0) 17 ∧ I' (ad g 0) 18 = I (ad g 0) 18) ∧ ∃ v : Int32, r = some (.int v) ∧ 0 ≤ v.toInt ∧ v.toInt ≤ 1 ∧ (v.toInt = 1 → lo.toInt ≤ (I' (ad g 0) 7).toInt ∧ (I' (ad g 0) 7).toInt ≤ hi.toInt)) := by
  refine SP_of ⟨by decide, rfl⟩ (Nat.le_of_ble_eq_true rfl) ?_
  have e7953 : I (ad g 0) 1 = L := hI.1.2
  have b7954 := BT_get hI.1.1 0 1 2 (0) (0) (900) (by decide) 1 (by decide) (by decide)
  rw [e7953] at b7954
  have fr0 : fz 49 g [0] I I := fz_rf
  have frj0 : fz 49 g [] J J := fz_rf
  have frq0 : fs g [3, 4, 5, 6, 7, 8, 9] I I := fs_rf
  obtain ⟨w7955, ew7955⟩ : ∃ w : Int32, I (ad g 0) 15 = w := ⟨_, rfl⟩
  have bw7955 := BT_get hI.1.1 0 15 16 (0) (0) (4) (by decide) 15 (by decide) (by decide)
  rw [ew7955] at bw7955
  obtain ⟨w7956, ew7956⟩ : ∃ w : Int32, I (ad g 0) 16 = w := ⟨_, rfl⟩
  have bw7956 := BT_get hI.1.1 0 16 17 (0) (0) (3) (by decide) 16 (by decide) (by decide)
  rw [ew7956] at bw7956
  obtain ⟨w7957, ew7957⟩ : ∃ w : Int32, I (ad g 0) 17 = w := ⟨_, rfl⟩
  have bw7957 := BT_get hI.1.1 0 17 18 (-1) (0) (3) (by decide) 17 (by decide) (by decide)
  rw [ew7957] at bw7957
  obtain ⟨w7958, ew7958⟩ : ∃ w : Int32, I (ad g 0) 18 = w := ⟨_, rfl⟩
  have bw7958 := BT_get hI.1.1 0 18 19 (-1) (0) (2) (by decide) 18 (by decide) (by decide)
  rw [ew7958] at bw7958
  obtain ⟨w7959, ew7959⟩ : ∃ w : Int32, I (ad g 0) 2 = w := ⟨_, rfl⟩
  have bw7959 := BT_get hI.1.1 0 2 3 (0) (0) (900) (by decide) 2 (by decide) (by decide)
  rw [ew7959] at bw7959
  obtain ⟨w7960, ew7960⟩ : ∃ w : Int32, I (ad g 0) 3 = w := ⟨_, rfl⟩
  have bw7960 := BT_get hI.1.1 0 3 4 (0) (0) (900) (by decide) 3 (by decide) (by decide)
  rw [ew7960] at bw7960
  obtain ⟨w7961, ew7961⟩ : ∃ w : Int32, I (ad g 0) 4 = w := ⟨_, rfl⟩
  have bw7961 := BT_get hI.1.1 0 4 5 (0) (0) (900) (by decide) 4 (by decide) (by decide)
  rw [ew7961] at bw7961
  obtain ⟨w7962, ew7962⟩ : ∃ w : Int32, I (ad g 0) 5 = w := ⟨_, rfl⟩
  have bw7962 := BT_get hI.1.1 0 5 6 (0) (0) (4) (by decide) 5 (by decide) (by decide)
  rw [ew7962] at bw7962
  rw [ew7959, ew7960, ew7961, ew7962] at hb
  refine WP_aload_n dX11_number_0 rfl ?_
  refine WP_iload_n dX11_number_1 rfl ?_
  refine WP_iload_n dX11_number_2 rfl ?_
  refine WP_callV2 (k := 11) dX11_number_3 ⟨⟨⟨by decide, by decide⟩, zX11_peek⟩, lX11_59, by decide, rfl, vX11_peek.1, vX11_peek.2⟩ (ly_is hy 0 11 rfl) (sm_peekx hy hr hI lo hi (by omega) (by omega) (by omega) (by omega) (by rw [ew7959, ew7960, ew7961, ew7962]; omega)) (Nat.le_of_ble_eq_true rfl) ?_
  intro r I7963 J7964 Ra hq
  obtain ⟨⟨hI7963, ec, fiI7963, fjI7963, fqI7963, ⟨pI7963, sI7963_0_15, sI7963_0_16, sI7963_0_17, sI7963_0_18⟩⟩, v7965, rfl, av7965, bv7965, cv7965⟩ := hq
  show WP _ _ _ _ (.int _ :: _) _ _ _ _
  rw [ec]
  clear ec Ra
  have fr7966 : fz 49 g [0] I I7963 := fz_tr fr0 (fz_mono fiI7963 (by decide))
  have fr7967 : fs g [3, 4, 5, 6, 7, 8, 9] I I7963 := fs_tr frq0 (fs_mono fqI7963 (by decide))
  have fr7968 : fz 49 g [] J J7964 := fz_tr frj0 (fz_mono fjI7963 (by decide))
  have e7969 : I7963 (ad g 0) 15 = w7955 := by rw [sI7963_0_15]; exact ew7955
  have e7970 : I7963 (ad g 0) 16 = w7956 := by rw [sI7963_0_16]; exact ew7956
  have e7971 : I7963 (ad g 0) 17 = w7957 := by rw [sI7963_0_17]; exact ew7957
  have e7972 : I7963 (ad g 0) 18 = w7958 := by rw [sI7963_0_18]; exact ew7958
  have e7973 : I7963 (ad g 0) 1 = L := hI7963.1.2
  have b7974 := BT_get hI7963.1.1 0 1 2 (0) (0) (900) (by decide) 1 (by decide) (by decide)
  rw [e7973] at b7974
  obtain ⟨w7975, ew7975⟩ : ∃ w : Int32, I7963 (ad g 0) 2 = w := ⟨_, rfl⟩
  have bw7975 := BT_get hI7963.1.1 0 2 3 (0) (0) (900) (by decide) 2 (by decide) (by decide)
  rw [ew7975] at bw7975
  obtain ⟨w7976, ew7976⟩ : ∃ w : Int32, I7963 (ad g 0) 3 = w := ⟨_, rfl⟩
  have bw7976 := BT_get hI7963.1.1 0 3 4 (0) (0) (900) (by decide) 3 (by decide) (by decide)
  rw [ew7976] at bw7976
  obtain ⟨w7977, ew7977⟩ : ∃ w : Int32, I7963 (ad g 0) 4 = w := ⟨_, rfl⟩
  have bw7977 := BT_get hI7963.1.1 0 4 5 (0) (0) (900) (by decide) 4 (by decide) (by decide)
  rw [ew7977] at bw7977
  obtain ⟨w7978, ew7978⟩ : ∃ w : Int32, I7963 (ad g 0) 5 = w := ⟨_, rfl⟩
  have bw7978 := BT_get hI7963.1.1 0 5 6 (0) (0) (4) (by decide) 5 (by decide) (by decide)
  rw [ew7978] at bw7978
  rw [ew7975, ew7976, ew7977, ew7978, ew7960] at pI7963
  obtain ⟨w7979, ew7979⟩ : ∃ w : Int32, I7963 (ad g 0) 7 = w := ⟨_, rfl⟩
  have bw7979 := BT_get hI7963.1.1 0 7 8 (-1) (0) (1000) (by decide) 7 (by decide) (by decide)
  rw [ew7979] at bw7979
  rw [ew7979] at cv7965
  refine WQ_if_ne 11 dX11_number_6 rfl (fun c7979 => ?_) (fun c7979 => ?_)
  · refine WP_aload_n dX11_number_11 rfl ?_
    refine WP_callV0 (k := 11) dX11_number_12 ⟨⟨⟨by decide, by decide⟩, zX11_scan⟩, lX11_63, by decide, rfl, vX11_scan.1, vX11_scan.2⟩ (ly_is hy 0 11 rfl) (sm_scanx hy hr hI7963   (by rw [ew7977, ew7975]; omega)) (Nat.le_of_ble_eq_true rfl) ?_
    intro r I7981 J7982 Ra hq
    obtain ⟨⟨hI7981, ec, fiI7981, fjI7981, fqI7981, ⟨pI7981, sI7981_0_7, sI7981_0_15, sI7981_0_16, sI7981_0_17, sI7981_0_18⟩⟩, rfl⟩ := hq
    rw [ec]
    clear ec Ra
    have fr7983 : fz 49 g [0] I I7981 := fz_tr fr7966 (fz_mono fiI7981 (by decide))
    have fr7984 : fs g [3, 4, 5, 6, 7, 8, 9] I I7981 := fs_tr fr7967 (fs_mono fqI7981 (by decide))
    have fr7985 : fz 49 g [] J J7982 := fz_tr fr7968 (fz_mono fjI7981 (by decide))
    have e7986 : I7981 (ad g 0) 7 = w7979 := by rw [sI7981_0_7]; exact ew7979
    have e7987 : I7981 (ad g 0) 15 = w7955 := by rw [sI7981_0_15]; exact e7969
    have e7988 : I7981 (ad g 0) 16 = w7956 := by rw [sI7981_0_16]; exact e7970
    have e7989 : I7981 (ad g 0) 17 = w7957 := by rw [sI7981_0_17]; exact e7971
    have e7990 : I7981 (ad g 0) 18 = w7958 := by rw [sI7981_0_18]; exact e7972
    have e7991 : I7981 (ad g 0) 1 = L := hI7981.1.2
    have b7992 := BT_get hI7981.1.1 0 1 2 (0) (0) (900) (by decide) 1 (by decide) (by decide)
    rw [e7991] at b7992
    obtain ⟨w7993, ew7993⟩ : ∃ w : Int32, I7981 (ad g 0) 2 = w := ⟨_, rfl⟩
    have bw7993 := BT_get hI7981.1.1 0 2 3 (0) (0) (900) (by decide) 2 (by decide) (by decide)
    rw [ew7993] at bw7993
    obtain ⟨w7994, ew7994⟩ : ∃ w : Int32, I7981 (ad g 0) 3 = w := ⟨_, rfl⟩
    have bw7994 := BT_get hI7981.1.1 0 3 4 (0) (0) (900) (by decide) 3 (by decide) (by decide)
    rw [ew7994] at bw7994
    obtain ⟨w7995, ew7995⟩ : ∃ w : Int32, I7981 (ad g 0) 4 = w := ⟨_, rfl⟩
    have bw7995 := BT_get hI7981.1.1 0 4 5 (0) (0) (900) (by decide) 4 (by decide) (by decide)
    rw [ew7995] at bw7995
    obtain ⟨w7996, ew7996⟩ : ∃ w : Int32, I7981 (ad g 0) 5 = w := ⟨_, rfl⟩
    have bw7996 := BT_get hI7981.1.1 0 5 6 (0) (0) (4) (by decide) 5 (by decide) (by decide)
    rw [ew7996] at bw7996
    rw [ew7993, ew7994, ew7995, ew7996, ew7977] at pI7981
    refine WQ_iconst (1) (1) dX11_number_15 rfl rfl (fun v7997 hv7997 => ?_)
    exact WP_zret dX11_number_16 rfl (nar_z (by omega)) ⟨⟨hI7981, rfl, fr7983, fr7985, fr7984, ⟨(by rw [ew7993, ew7994, ew7995, ew7996, ew7960]; omega), (by rw [e7987, ew7955] <;> exact (eq32 _ _).mpr (by omega)), (by rw [e7988, ew7956] <;> exact (eq32 _ _).mpr (by omega)), (by rw [e7989, ew7957] <;> exact (eq32 _ _).mpr (by omega)), (by rw [e7990, ew7958] <;> exact (eq32 _ _).mpr (by omega))⟩⟩, _, rfl, by omega, by omega, by (try rw [e7986]); omega⟩
  · refine WQ_iconst (0) (0) dX11_number_9 rfl rfl (fun v7998 hv7998 => ?_)
    exact WP_zret dX11_number_10 rfl (nar_z (by omega)) ⟨⟨hI7963, rfl, fr7966, fr7968, fr7967, ⟨(by rw [ew7975, ew7976, ew7977, ew7978, ew7960]; omega), (by rw [e7969, ew7955] <;> exact (eq32 _ _).mpr (by omega)), (by rw [e7970, ew7956] <;> exact (eq32 _ _).mpr (by omega)), (by rw [e7971, ew7957] <;> exact (eq32 _ _).mpr (by omega)), (by rw [e7972, ew7958] <;> exact (eq32 _ _).mpr (by omega))⟩⟩, _, rfl, by omega, by omega, by (try rw [ew7979]); omega⟩
set_option maxHeartbeats 4000000 in
set_option maxRecDepth 100000 in
theorem sm_closex {g : GG} {n : Int} {L : Int32} (hy : Ly g)  {I : pI} {J : pJ} {R : pR} (hr : Rf g R) (hI : MP g n L I)   (hb : ((I (ad g 0) 4).toInt ≤ (I (ad g 0) 2).toInt ∧ (I (ad g 0) 3).toInt ≤ (I (ad g 0) 4).toInt ∧ ((I (ad g 0) 5).toInt = 0 ∨ (I (ad g 0) 3).toInt < (I (ad g 0) 4).toInt))) : SP g mX11_close [.ref (ad g 0)] I J R (fun r I' J' R' => (MP g n L I' ∧ R' = R ∧ fz 49 g [0] I I' ∧ fz 49 g [] J J' ∧ fs g [3, 4, 5, 6, 8, 9] I I' ∧ (((I' (ad g 0) 4).toInt ≤ (I' (ad g 0) 2).toInt ∧ (I' (ad g 0) 3).toInt ≤ (I' (ad g 0) 4).toInt ∧ ((I' (ad g 0) 5).toInt = 0 ∨ (I' (ad g 0) 3).toInt < (I' (ad g 0) 4).toInt)) ∧ (I (ad g 0) 3).toInt ≤ (I' (ad g 0) 3).toInt) ∧ I' (ad g 0) 15 = I (ad g 0) 15 ∧ I' (ad g 0) 16 = I (ad g 0) 16 ∧ I' (ad g 0) 17 = I (ad g 0) 17 ∧ I' (ad g 0) 18 = I (ad g 0) 18) ∧ ∃ v : Int32, r = some (.int v) ∧ 0 ≤ v.toInt ∧ v.toInt ≤ 1 ∧ (v.toInt = 1 → (I (ad g 0) 3).toInt < (I' (ad g 0) 3).toInt)) := by
  refine SP_of ⟨by decide, rfl⟩ (Nat.le_of_ble_eq_true rfl) ?_
  have e7999 : I (ad g 0) 1 = L := hI.1.2
  have b8000 := BT_get hI.1.1 0 1 2 (0) (0) (900) (by decide) 1 (by decide) (by decide)
  rw [e7999] at b8000
  have fr0 : fz 49 g [0] I I := fz_rf
  have frj0 : fz 49 g [] J J := fz_rf
  have frq0 : fs g [3, 4, 5, 6, 8, 9] I I := fs_rf
  obtain ⟨w8001, ew8001⟩ : ∃ w : Int32, I (ad g 0) 15 = w := ⟨_, rfl⟩
  have bw8001 := BT_get hI.1.1 0 15 16 (0) (0) (4) (by decide) 15 (by decide) (by decide)
  rw [ew8001] at bw8001
  obtain ⟨w8002, ew8002⟩ : ∃ w : Int32, I (ad g 0) 16 = w := ⟨_, rfl⟩
  have bw8002 := BT_get hI.1.1 0 16 17 (0) (0) (3) (by decide) 16 (by decide) (by decide)
  rw [ew8002] at bw8002
  obtain ⟨w8003, ew8003⟩ : ∃ w : Int32, I (ad g 0) 17 = w := ⟨_, rfl⟩
  have bw8003 := BT_get hI.1.1 0 17 18 (-1) (0) (3) (by decide) 17 (by decide) (by decide)
  rw [ew8003] at bw8003
  obtain ⟨w8004, ew8004⟩ : ∃ w : Int32, I (ad g 0) 18 = w := ⟨_, rfl⟩
  have bw8004 := BT_get hI.1.1 0 18 19 (-1) (0) (2) (by decide) 18 (by decide) (by decide)
  rw [ew8004] at bw8004
  obtain ⟨w8005, ew8005⟩ : ∃ w : Int32, I (ad g 0) 2 = w := ⟨_, rfl⟩
  have bw8005 := BT_get hI.1.1 0 2 3 (0) (0) (900) (by decide) 2 (by decide) (by decide)
  rw [ew8005] at bw8005
  obtain ⟨w8006, ew8006⟩ : ∃ w : Int32, I (ad g 0) 3 = w := ⟨_, rfl⟩
  have bw8006 := BT_get hI.1.1 0 3 4 (0) (0) (900) (by decide) 3 (by decide) (by decide)
  rw [ew8006] at bw8006
  obtain ⟨w8007, ew8007⟩ : ∃ w : Int32, I (ad g 0) 4 = w := ⟨_, rfl⟩
  have bw8007 := BT_get hI.1.1 0 4 5 (0) (0) (900) (by decide) 4 (by decide) (by decide)
  rw [ew8007] at bw8007
  obtain ⟨w8008, ew8008⟩ : ∃ w : Int32, I (ad g 0) 5 = w := ⟨_, rfl⟩
  have bw8008 := BT_get hI.1.1 0 5 6 (0) (0) (4) (by decide) 5 (by decide) (by decide)
  rw [ew8008] at bw8008
  rw [ew8005, ew8006, ew8007, ew8008] at hb
  refine WP_aload_n dX11_close_0 rfl ?_
  refine WQ_getim dX11_close_1 fX11_27 rfl (ly_is hy 0 11 rfl) ew8008 ?_
  refine WQ_iconst (3) (3) dX11_close_4 rfl rfl (fun v8009 hv8009 => ?_)
  refine WQ_icmp_eq 14 dX11_close_5 rfl (fun c8009 => ?_) (fun c8009 => ?_)
  · refine WP_aload_n dX11_close_14 rfl ?_
    refine WP_callV0 (k := 11) dX11_close_15 ⟨⟨⟨by decide, by decide⟩, zX11_scan⟩, lX11_63, by decide, rfl, vX11_scan.1, vX11_scan.2⟩ (ly_is hy 0 11 rfl) (sm_scanx hy hr hI   (by rw [ew8007, ew8005]; omega)) (Nat.le_of_ble_eq_true rfl) ?_
    intro r I8011 J8012 Ra hq
    obtain ⟨⟨hI8011, ec, fiI8011, fjI8011, fqI8011, ⟨pI8011, sI8011_0_7, sI8011_0_15, sI8011_0_16, sI8011_0_17, sI8011_0_18⟩⟩, rfl⟩ := hq
    rw [ec]
    clear ec Ra
    have fr8013 : fz 49 g [0] I I8011 := fz_tr fr0 (fz_mono fiI8011 (by decide))
    have fr8014 : fs g [3, 4, 5, 6, 8, 9] I I8011 := fs_tr frq0 (fs_mono fqI8011 (by decide))
    have fr8015 : fz 49 g [] J J8012 := fz_tr frj0 (fz_mono fjI8011 (by decide))
    have e8016 : I8011 (ad g 0) 15 = w8001 := by rw [sI8011_0_15]; exact ew8001
    have e8017 : I8011 (ad g 0) 16 = w8002 := by rw [sI8011_0_16]; exact ew8002
    have e8018 : I8011 (ad g 0) 17 = w8003 := by rw [sI8011_0_17]; exact ew8003
    have e8019 : I8011 (ad g 0) 18 = w8004 := by rw [sI8011_0_18]; exact ew8004
    have e8020 : I8011 (ad g 0) 1 = L := hI8011.1.2
    have b8021 := BT_get hI8011.1.1 0 1 2 (0) (0) (900) (by decide) 1 (by decide) (by decide)
    rw [e8020] at b8021
    obtain ⟨w8022, ew8022⟩ : ∃ w : Int32, I8011 (ad g 0) 2 = w := ⟨_, rfl⟩
    have bw8022 := BT_get hI8011.1.1 0 2 3 (0) (0) (900) (by decide) 2 (by decide) (by decide)
    rw [ew8022] at bw8022
    obtain ⟨w8023, ew8023⟩ : ∃ w : Int32, I8011 (ad g 0) 3 = w := ⟨_, rfl⟩
    have bw8023 := BT_get hI8011.1.1 0 3 4 (0) (0) (900) (by decide) 3 (by decide) (by decide)
    rw [ew8023] at bw8023
    obtain ⟨w8024, ew8024⟩ : ∃ w : Int32, I8011 (ad g 0) 4 = w := ⟨_, rfl⟩
    have bw8024 := BT_get hI8011.1.1 0 4 5 (0) (0) (900) (by decide) 4 (by decide) (by decide)
    rw [ew8024] at bw8024
    obtain ⟨w8025, ew8025⟩ : ∃ w : Int32, I8011 (ad g 0) 5 = w := ⟨_, rfl⟩
    have bw8025 := BT_get hI8011.1.1 0 5 6 (0) (0) (4) (by decide) 5 (by decide) (by decide)
    rw [ew8025] at bw8025
    rw [ew8022, ew8023, ew8024, ew8025, ew8007] at pI8011
    refine WQ_iconst (1) (1) dX11_close_18 rfl rfl (fun v8026 hv8026 => ?_)
    exact WP_zret dX11_close_19 rfl (nar_z (by omega)) ⟨⟨hI8011, rfl, fr8013, fr8015, fr8014, ⟨(by rw [ew8022, ew8023, ew8024, ew8025, ew8006]; omega), (by rw [e8016, ew8001] <;> exact (eq32 _ _).mpr (by omega)), (by rw [e8017, ew8002] <;> exact (eq32 _ _).mpr (by omega)), (by rw [e8018, ew8003] <;> exact (eq32 _ _).mpr (by omega)), (by rw [e8019, ew8004] <;> exact (eq32 _ _).mpr (by omega))⟩⟩, _, rfl, by omega, by omega, by ((try simp only [ew8023]); (try simp only [ew8005]); (try simp only [ew8006]); (try simp only [ew8007]); (try simp only [ew8008])); omega⟩
  · refine WP_aload_n dX11_close_8 rfl ?_
    refine WQ_iconst (1) (1) dX11_close_9 rfl rfl (fun v8027 hv8027 => ?_)
    refine WP_callV1 (k := 11) dX11_close_10 ⟨⟨⟨by decide, by decide⟩, zX11_bad⟩, lX11_49, by decide, rfl, vX11_bad.1, vX11_bad.2⟩ (ly_is hy 0 11 rfl) (sm_badx hy hr hI v8027  (by rw [ew8005, ew8006, ew8007, ew8008]; omega)) (Nat.le_of_ble_eq_true rfl) ?_
    intro r I8028 J8029 Ra hq
    obtain ⟨⟨hI8028, ec, fiI8028, fjI8028, fqI8028, ⟨pI8028, sI8028_0_15, sI8028_0_16, sI8028_0_17, sI8028_0_18⟩⟩, v8030, rfl, av8030, bv8030⟩ := hq
    show WP _ _ _ _ (.int _ :: _) _ _ _ _
    rw [ec]
    clear ec Ra
    have fr8031 : fz 49 g [0] I I8028 := fz_tr fr0 (fz_mono fiI8028 (by decide))
    have fr8032 : fs g [3, 4, 5, 6, 8, 9] I I8028 := fs_tr frq0 (fs_mono fqI8028 (by decide))
    have fr8033 : fz 49 g [] J J8029 := fz_tr frj0 (fz_mono fjI8028 (by decide))
    have e8034 : I8028 (ad g 0) 15 = w8001 := by rw [sI8028_0_15]; exact ew8001
    have e8035 : I8028 (ad g 0) 16 = w8002 := by rw [sI8028_0_16]; exact ew8002
    have e8036 : I8028 (ad g 0) 17 = w8003 := by rw [sI8028_0_17]; exact ew8003
    have e8037 : I8028 (ad g 0) 18 = w8004 := by rw [sI8028_0_18]; exact ew8004
    have e8038 : I8028 (ad g 0) 1 = L := hI8028.1.2
    have b8039 := BT_get hI8028.1.1 0 1 2 (0) (0) (900) (by decide) 1 (by decide) (by decide)
    rw [e8038] at b8039
    obtain ⟨w8040, ew8040⟩ : ∃ w : Int32, I8028 (ad g 0) 2 = w := ⟨_, rfl⟩
    have bw8040 := BT_get hI8028.1.1 0 2 3 (0) (0) (900) (by decide) 2 (by decide) (by decide)
    rw [ew8040] at bw8040
    obtain ⟨w8041, ew8041⟩ : ∃ w : Int32, I8028 (ad g 0) 3 = w := ⟨_, rfl⟩
    have bw8041 := BT_get hI8028.1.1 0 3 4 (0) (0) (900) (by decide) 3 (by decide) (by decide)
    rw [ew8041] at bw8041
    obtain ⟨w8042, ew8042⟩ : ∃ w : Int32, I8028 (ad g 0) 4 = w := ⟨_, rfl⟩
    have bw8042 := BT_get hI8028.1.1 0 4 5 (0) (0) (900) (by decide) 4 (by decide) (by decide)
    rw [ew8042] at bw8042
    obtain ⟨w8043, ew8043⟩ : ∃ w : Int32, I8028 (ad g 0) 5 = w := ⟨_, rfl⟩
    have bw8043 := BT_get hI8028.1.1 0 5 6 (0) (0) (4) (by decide) 5 (by decide) (by decide)
    rw [ew8043] at bw8043
    rw [ew8040, ew8041, ew8042, ew8043, ew8006] at pI8028
    exact WP_zret dX11_close_13 rfl (nar_z (by omega)) ⟨⟨hI8028, rfl, fr8031, fr8033, fr8032, ⟨(by rw [ew8040, ew8041, ew8042, ew8043, ew8006]; omega), (by rw [e8034, ew8001] <;> exact (eq32 _ _).mpr (by omega)), (by rw [e8035, ew8002] <;> exact (eq32 _ _).mpr (by omega)), (by rw [e8036, ew8003] <;> exact (eq32 _ _).mpr (by omega)), (by rw [e8037, ew8004] <;> exact (eq32 _ _).mpr (by omega))⟩⟩, _, rfl, by omega, by omega, by ((try simp only [ew8041]); (try simp only [ew8005]); (try simp only [ew8006]); (try simp only [ew8007]); (try simp only [ew8008])); omega⟩
set_option maxHeartbeats 4000000 in
set_option maxRecDepth 100000 in
theorem sm_knownx_2 {g : GG} {n : Int} {L : Int32} (hy : Ly g)  {I : pI} {J : pJ} {R : pR} (hr : Rf g R) (hI : MP g n L I) (ma : Int32) (ma_lo : 0 ≤ ma.toInt) (ma_hi : ma.toInt ≤ 4) (hb : ((I (ad g 0) 4).toInt ≤ (I (ad g 0) 2).toInt ∧ (I (ad g 0) 3).toInt ≤ (I (ad g 0) 4).toInt ∧ ((I (ad g 0) 5).toInt = 0 ∨ (I (ad g 0) 3).toInt < (I (ad g 0) 4).toInt))) : SP g mX11_known [.ref (ad g 0), .ref (ad g 2), .int ma] I J R (fun r I' J' R' => (MP g n L I' ∧ R' = R ∧ fz 49 g [0] I I' ∧ fz 49 g [] J J' ∧ fs g [3, 4, 5, 6, 7, 8, 9] I I' ∧ (((I' (ad g 0) 4).toInt ≤ (I' (ad g 0) 2).toInt ∧ (I' (ad g 0) 3).toInt ≤ (I' (ad g 0) 4).toInt ∧ ((I' (ad g 0) 5).toInt = 0 ∨ (I' (ad g 0) 3).toInt < (I' (ad g 0) 4).toInt)) ∧ (I (ad g 0) 3).toInt ≤ (I' (ad g 0) 3).toInt) ∧ I' (ad g 0) 15 = I (ad g 0) 15 ∧ I' (ad g 0) 16 = I (ad g 0) 16 ∧ I' (ad g 0) 17 = I (ad g 0) 17 ∧ I' (ad g 0) 18 = I (ad g 0) 18) ∧ ∃ v : Int32, r = some (.int v) ∧ 0 ≤ v.toInt ∧ v.toInt ≤ 1 ∧ (v.toInt = 1 → 0 ≤ (I' (ad g 0) 7).toInt ∧ (I' (ad g 0) 7).toInt ≤ 3 ∧ (I' (ad g 0) 7).toInt < ma.toInt)) := by
  refine SP_of ⟨by decide, rfl⟩ (Nat.le_of_ble_eq_true rfl) ?_
  have e8044 : I (ad g 0) 1 = L := hI.1.2
  have b8045 := BT_get hI.1.1 0 1 2 (0) (0) (900) (by decide) 1 (by decide) (by decide)
  rw [e8044] at b8045
  have fr0 : fz 49 g [0] I I := fz_rf
  have frj0 : fz 49 g [] J J := fz_rf
  have frq0 : fs g [3, 4, 5, 6, 7, 8, 9] I I := fs_rf
  obtain ⟨w8046, ew8046⟩ : ∃ w : Int32, I (ad g 0) 15 = w := ⟨_, rfl⟩
  have bw8046 := BT_get hI.1.1 0 15 16 (0) (0) (4) (by decide) 15 (by decide) (by decide)
  rw [ew8046] at bw8046
  obtain ⟨w8047, ew8047⟩ : ∃ w : Int32, I (ad g 0) 16 = w := ⟨_, rfl⟩
  have bw8047 := BT_get hI.1.1 0 16 17 (0) (0) (3) (by decide) 16 (by decide) (by decide)
  rw [ew8047] at bw8047
  obtain ⟨w8048, ew8048⟩ : ∃ w : Int32, I (ad g 0) 17 = w := ⟨_, rfl⟩
  have bw8048 := BT_get hI.1.1 0 17 18 (-1) (0) (3) (by decide) 17 (by decide) (by decide)
  rw [ew8048] at bw8048
  obtain ⟨w8049, ew8049⟩ : ∃ w : Int32, I (ad g 0) 18 = w := ⟨_, rfl⟩
  have bw8049 := BT_get hI.1.1 0 18 19 (-1) (0) (2) (by decide) 18 (by decide) (by decide)
  rw [ew8049] at bw8049
  obtain ⟨w8050, ew8050⟩ : ∃ w : Int32, I (ad g 0) 2 = w := ⟨_, rfl⟩
  have bw8050 := BT_get hI.1.1 0 2 3 (0) (0) (900) (by decide) 2 (by decide) (by decide)
  rw [ew8050] at bw8050
  obtain ⟨w8051, ew8051⟩ : ∃ w : Int32, I (ad g 0) 3 = w := ⟨_, rfl⟩
  have bw8051 := BT_get hI.1.1 0 3 4 (0) (0) (900) (by decide) 3 (by decide) (by decide)
  rw [ew8051] at bw8051
  obtain ⟨w8052, ew8052⟩ : ∃ w : Int32, I (ad g 0) 4 = w := ⟨_, rfl⟩
  have bw8052 := BT_get hI.1.1 0 4 5 (0) (0) (900) (by decide) 4 (by decide) (by decide)
  rw [ew8052] at bw8052
  obtain ⟨w8053, ew8053⟩ : ∃ w : Int32, I (ad g 0) 5 = w := ⟨_, rfl⟩
  have bw8053 := BT_get hI.1.1 0 5 6 (0) (0) (4) (by decide) 5 (by decide) (by decide)
  rw [ew8053] at bw8053
  rw [ew8050, ew8051, ew8052, ew8053] at hb
  refine WP_aload_n dX11_known_0 rfl ?_
  refine WQ_getim dX11_known_1 fX11_27 rfl (ly_is hy 0 11 rfl) ew8053 ?_
  refine WQ_iconst (1) (1) dX11_known_4 rfl rfl (fun v8054 hv8054 => ?_)
  refine WQ_icmp_eq 14 dX11_known_5 rfl (fun c8054 => ?_) (fun c8054 => ?_)
  · refine WP_aload_n dX11_known_14 rfl ?_
    refine WP_aload_n dX11_known_15 rfl ?_
    refine WP_aload_n dX11_known_16 rfl ?_
    refine WP_iload_n dX11_known_17 rfl ?_
    refine WP_callV2 (k := 11) dX11_known_18 ⟨⟨⟨by decide, by decide⟩, zX11_find⟩, lX11_71, by decide, rfl, vX11_find.1, vX11_find.2⟩ (ly_is hy 0 11 rfl) (sm_find_2 hy hr hI ma (by omega) (by omega)) (Nat.le_of_ble_eq_true rfl) ?_
    intro r Ia Ja Ra hq
    obtain ⟨⟨ea, eb, ec⟩, v8056, rfl, av8056, bv8056, cv8056⟩ := hq
    show WP _ _ _ _ (.int _ :: _) _ _ _ _
    rw [ea, eb, ec]
    clear ea eb ec Ia Ja Ra
    refine WQ_puti dX11_known_21 fX11_56 rfl rfl (ly_is hy 0 11 rfl) (fun I8057 eI8057 => ?_)
    have hI8057 : MP g n L I8057 := by rw [eI8057]; exact (mp_w hy hI (c := 0) (mi_f hy hI.1 (c := 0) (-1) (0) (1000) (by decide) (Or.inr (by decide)) (by decide) (by omega) (by omega)) (by decide) (by decide) (Or.inr (by decide)))
    have e8058 : I8057 (ad g 0) 1 = L := by rw [eI8057, pp_ne _ _ (Or.inr (by decide))]; exact e8044
    have e8059 : I8057 (ad g 0) 15 = w8046 := by rw [eI8057, pp_ne _ _ (Or.inr (by decide))]; exact ew8046
    have e8060 : I8057 (ad g 0) 16 = w8047 := by rw [eI8057, pp_ne _ _ (Or.inr (by decide))]; exact ew8047
    have e8061 : I8057 (ad g 0) 17 = w8048 := by rw [eI8057, pp_ne _ _ (Or.inr (by decide))]; exact ew8048
    have e8062 : I8057 (ad g 0) 18 = w8049 := by rw [eI8057, pp_ne _ _ (Or.inr (by decide))]; exact ew8049
    have e8063 : I8057 (ad g 0) 2 = w8050 := by rw [eI8057, pp_ne _ _ (Or.inr (by decide))]; exact ew8050
    have e8064 : I8057 (ad g 0) 3 = w8051 := by rw [eI8057, pp_ne _ _ (Or.inr (by decide))]; exact ew8051
    have e8065 : I8057 (ad g 0) 4 = w8052 := by rw [eI8057, pp_ne _ _ (Or.inr (by decide))]; exact ew8052
    have e8066 : I8057 (ad g 0) 5 = w8053 := by rw [eI8057, pp_ne _ _ (Or.inr (by decide))]; exact ew8053
    have e8067 : I8057 (ad g 0) 7 = v8056 := by rw [eI8057, pp_self]
    have fr8068 : fs g [3, 4, 5, 6, 7, 8, 9] I I8057 := by rw [eI8057]; exact fs_pp0 frq0 (by decide)
    have fr8069 : fz 49 g [0] I I8057 := by rw [eI8057]; exact fzm_pp hy fr0 (by decide) (by decide)
    clear eI8057
    refine WP_aload_n dX11_known_24 rfl ?_
    refine WQ_getim dX11_known_25 fX11_56 rfl (ly_is hy 0 11 rfl) e8067 ?_
    refine WQ_iconst (-1) (-1) dX11_known_28 rfl rfl (fun v8070 hv8070 => ?_)
    refine WQ_icmp_ne 38 dX11_known_29 rfl (fun c8070 => ?_) (fun c8070 => ?_)
    · refine WP_aload_n dX11_known_38 rfl ?_
      refine WP_callV0 (k := 11) dX11_known_39 ⟨⟨⟨by decide, by decide⟩, zX11_scan⟩, lX11_63, by decide, rfl, vX11_scan.1, vX11_scan.2⟩ (ly_is hy 0 11 rfl) (sm_scanx hy hr hI8057   (by rw [e8065, e8063]; omega)) (Nat.le_of_ble_eq_true rfl) ?_
      intro r I8072 J8073 Ra hq
      obtain ⟨⟨hI8072, ec, fiI8072, fjI8072, fqI8072, ⟨pI8072, sI8072_0_7, sI8072_0_15, sI8072_0_16, sI8072_0_17, sI8072_0_18⟩⟩, rfl⟩ := hq
      rw [ec]
      clear ec Ra
      have fr8074 : fz 49 g [0] I I8072 := fz_tr fr8069 (fz_mono fiI8072 (by decide))
      have fr8075 : fs g [3, 4, 5, 6, 7, 8, 9] I I8072 := fs_tr fr8068 (fs_mono fqI8072 (by decide))
      have fr8076 : fz 49 g [] J J8073 := fz_tr frj0 (fz_mono fjI8072 (by decide))
      have e8077 : I8072 (ad g 0) 7 = v8056 := by rw [sI8072_0_7]; exact e8067
      have e8078 : I8072 (ad g 0) 15 = w8046 := by rw [sI8072_0_15]; exact e8059
      have e8079 : I8072 (ad g 0) 16 = w8047 := by rw [sI8072_0_16]; exact e8060
      have e8080 : I8072 (ad g 0) 17 = w8048 := by rw [sI8072_0_17]; exact e8061
      have e8081 : I8072 (ad g 0) 18 = w8049 := by rw [sI8072_0_18]; exact e8062
      have e8082 : I8072 (ad g 0) 1 = L := hI8072.1.2
      have b8083 := BT_get hI8072.1.1 0 1 2 (0) (0) (900) (by decide) 1 (by decide) (by decide)
      rw [e8082] at b8083
      obtain ⟨w8084, ew8084⟩ : ∃ w : Int32, I8072 (ad g 0) 2 = w := ⟨_, rfl⟩
      have bw8084 := BT_get hI8072.1.1 0 2 3 (0) (0) (900) (by decide) 2 (by decide) (by decide)
      rw [ew8084] at bw8084
      obtain ⟨w8085, ew8085⟩ : ∃ w : Int32, I8072 (ad g 0) 3 = w := ⟨_, rfl⟩
      have bw8085 := BT_get hI8072.1.1 0 3 4 (0) (0) (900) (by decide) 3 (by decide) (by decide)
      rw [ew8085] at bw8085
      obtain ⟨w8086, ew8086⟩ : ∃ w : Int32, I8072 (ad g 0) 4 = w := ⟨_, rfl⟩
      have bw8086 := BT_get hI8072.1.1 0 4 5 (0) (0) (900) (by decide) 4 (by decide) (by decide)
      rw [ew8086] at bw8086
      obtain ⟨w8087, ew8087⟩ : ∃ w : Int32, I8072 (ad g 0) 5 = w := ⟨_, rfl⟩
      have bw8087 := BT_get hI8072.1.1 0 5 6 (0) (0) (4) (by decide) 5 (by decide) (by decide)
      rw [ew8087] at bw8087
      rw [ew8084, ew8085, ew8086, ew8087, e8065] at pI8072
      refine WQ_iconst (1) (1) dX11_known_42 rfl rfl (fun v8088 hv8088 => ?_)
      exact WP_zret dX11_known_43 rfl (nar_z (by omega)) ⟨⟨hI8072, rfl, fr8074, fr8076, fr8075, ⟨(by rw [ew8084, ew8085, ew8086, ew8087, ew8051]; omega), (by rw [e8078, ew8046] <;> exact (eq32 _ _).mpr (by omega)), (by rw [e8079, ew8047] <;> exact (eq32 _ _).mpr (by omega)), (by rw [e8080, ew8048] <;> exact (eq32 _ _).mpr (by omega)), (by rw [e8081, ew8049] <;> exact (eq32 _ _).mpr (by omega))⟩⟩, _, rfl, by omega, by omega, by (try rw [e8077]); omega⟩
    · refine WP_aload_n dX11_known_32 rfl ?_
      refine WQ_iconst (5) (5) dX11_known_33 rfl rfl (fun v8089 hv8089 => ?_)
      refine WP_callV1 (k := 11) dX11_known_34 ⟨⟨⟨by decide, by decide⟩, zX11_bad⟩, lX11_49, by decide, rfl, vX11_bad.1, vX11_bad.2⟩ (ly_is hy 0 11 rfl) (sm_badx hy hr hI8057 v8089  (by rw [e8063, e8064, e8065, e8066]; omega)) (Nat.le_of_ble_eq_true rfl) ?_
      intro r I8090 J8091 Ra hq
      obtain ⟨⟨hI8090, ec, fiI8090, fjI8090, fqI8090, ⟨pI8090, sI8090_0_15, sI8090_0_16, sI8090_0_17, sI8090_0_18⟩⟩, v8092, rfl, av8092, bv8092⟩ := hq
      show WP _ _ _ _ (.int _ :: _) _ _ _ _
      rw [ec]
      clear ec Ra
      have fr8093 : fz 49 g [0] I I8090 := fz_tr fr8069 (fz_mono fiI8090 (by decide))
      have fr8094 : fs g [3, 4, 5, 6, 7, 8, 9] I I8090 := fs_tr fr8068 (fs_mono fqI8090 (by decide))
      have fr8095 : fz 49 g [] J J8091 := fz_tr frj0 (fz_mono fjI8090 (by decide))
      have e8096 : I8090 (ad g 0) 15 = w8046 := by rw [sI8090_0_15]; exact e8059
      have e8097 : I8090 (ad g 0) 16 = w8047 := by rw [sI8090_0_16]; exact e8060
      have e8098 : I8090 (ad g 0) 17 = w8048 := by rw [sI8090_0_17]; exact e8061
      have e8099 : I8090 (ad g 0) 18 = w8049 := by rw [sI8090_0_18]; exact e8062
      have e8100 : I8090 (ad g 0) 1 = L := hI8090.1.2
      have b8101 := BT_get hI8090.1.1 0 1 2 (0) (0) (900) (by decide) 1 (by decide) (by decide)
      rw [e8100] at b8101
      obtain ⟨w8102, ew8102⟩ : ∃ w : Int32, I8090 (ad g 0) 2 = w := ⟨_, rfl⟩
      have bw8102 := BT_get hI8090.1.1 0 2 3 (0) (0) (900) (by decide) 2 (by decide) (by decide)
      rw [ew8102] at bw8102
      obtain ⟨w8103, ew8103⟩ : ∃ w : Int32, I8090 (ad g 0) 3 = w := ⟨_, rfl⟩
      have bw8103 := BT_get hI8090.1.1 0 3 4 (0) (0) (900) (by decide) 3 (by decide) (by decide)
      rw [ew8103] at bw8103
      obtain ⟨w8104, ew8104⟩ : ∃ w : Int32, I8090 (ad g 0) 4 = w := ⟨_, rfl⟩
      have bw8104 := BT_get hI8090.1.1 0 4 5 (0) (0) (900) (by decide) 4 (by decide) (by decide)
      rw [ew8104] at bw8104
      obtain ⟨w8105, ew8105⟩ : ∃ w : Int32, I8090 (ad g 0) 5 = w := ⟨_, rfl⟩
      have bw8105 := BT_get hI8090.1.1 0 5 6 (0) (0) (4) (by decide) 5 (by decide) (by decide)
      rw [ew8105] at bw8105
      rw [ew8102, ew8103, ew8104, ew8105, e8064] at pI8090
      obtain ⟨w8106, ew8106⟩ : ∃ w : Int32, I8090 (ad g 0) 7 = w := ⟨_, rfl⟩
      have bw8106 := BT_get hI8090.1.1 0 7 8 (-1) (0) (1000) (by decide) 7 (by decide) (by decide)
      rw [ew8106] at bw8106
      exact WP_zret dX11_known_37 rfl (nar_z (by omega)) ⟨⟨hI8090, rfl, fr8093, fr8095, fr8094, ⟨(by rw [ew8102, ew8103, ew8104, ew8105, ew8051]; omega), (by rw [e8096, ew8046] <;> exact (eq32 _ _).mpr (by omega)), (by rw [e8097, ew8047] <;> exact (eq32 _ _).mpr (by omega)), (by rw [e8098, ew8048] <;> exact (eq32 _ _).mpr (by omega)), (by rw [e8099, ew8049] <;> exact (eq32 _ _).mpr (by omega))⟩⟩, _, rfl, by omega, by omega, by (try rw [ew8106]); omega⟩
  · refine WP_aload_n dX11_known_8 rfl ?_
    refine WQ_iconst (1) (1) dX11_known_9 rfl rfl (fun v8107 hv8107 => ?_)
    refine WP_callV1 (k := 11) dX11_known_10 ⟨⟨⟨by decide, by decide⟩, zX11_bad⟩, lX11_49, by decide, rfl, vX11_bad.1, vX11_bad.2⟩ (ly_is hy 0 11 rfl) (sm_badx hy hr hI v8107  (by rw [ew8050, ew8051, ew8052, ew8053]; omega)) (Nat.le_of_ble_eq_true rfl) ?_
    intro r I8108 J8109 Ra hq
    obtain ⟨⟨hI8108, ec, fiI8108, fjI8108, fqI8108, ⟨pI8108, sI8108_0_15, sI8108_0_16, sI8108_0_17, sI8108_0_18⟩⟩, v8110, rfl, av8110, bv8110⟩ := hq
    show WP _ _ _ _ (.int _ :: _) _ _ _ _
    rw [ec]
    clear ec Ra
    have fr8111 : fz 49 g [0] I I8108 := fz_tr fr0 (fz_mono fiI8108 (by decide))
    have fr8112 : fs g [3, 4, 5, 6, 7, 8, 9] I I8108 := fs_tr frq0 (fs_mono fqI8108 (by decide))
    have fr8113 : fz 49 g [] J J8109 := fz_tr frj0 (fz_mono fjI8108 (by decide))
    have e8114 : I8108 (ad g 0) 15 = w8046 := by rw [sI8108_0_15]; exact ew8046
    have e8115 : I8108 (ad g 0) 16 = w8047 := by rw [sI8108_0_16]; exact ew8047
    have e8116 : I8108 (ad g 0) 17 = w8048 := by rw [sI8108_0_17]; exact ew8048
    have e8117 : I8108 (ad g 0) 18 = w8049 := by rw [sI8108_0_18]; exact ew8049
    have e8118 : I8108 (ad g 0) 1 = L := hI8108.1.2
    have b8119 := BT_get hI8108.1.1 0 1 2 (0) (0) (900) (by decide) 1 (by decide) (by decide)
    rw [e8118] at b8119
    obtain ⟨w8120, ew8120⟩ : ∃ w : Int32, I8108 (ad g 0) 2 = w := ⟨_, rfl⟩
    have bw8120 := BT_get hI8108.1.1 0 2 3 (0) (0) (900) (by decide) 2 (by decide) (by decide)
    rw [ew8120] at bw8120
    obtain ⟨w8121, ew8121⟩ : ∃ w : Int32, I8108 (ad g 0) 3 = w := ⟨_, rfl⟩
    have bw8121 := BT_get hI8108.1.1 0 3 4 (0) (0) (900) (by decide) 3 (by decide) (by decide)
    rw [ew8121] at bw8121
    obtain ⟨w8122, ew8122⟩ : ∃ w : Int32, I8108 (ad g 0) 4 = w := ⟨_, rfl⟩
    have bw8122 := BT_get hI8108.1.1 0 4 5 (0) (0) (900) (by decide) 4 (by decide) (by decide)
    rw [ew8122] at bw8122
    obtain ⟨w8123, ew8123⟩ : ∃ w : Int32, I8108 (ad g 0) 5 = w := ⟨_, rfl⟩
    have bw8123 := BT_get hI8108.1.1 0 5 6 (0) (0) (4) (by decide) 5 (by decide) (by decide)
    rw [ew8123] at bw8123
    rw [ew8120, ew8121, ew8122, ew8123, ew8051] at pI8108
    obtain ⟨w8124, ew8124⟩ : ∃ w : Int32, I8108 (ad g 0) 7 = w := ⟨_, rfl⟩
    have bw8124 := BT_get hI8108.1.1 0 7 8 (-1) (0) (1000) (by decide) 7 (by decide) (by decide)
    rw [ew8124] at bw8124
    exact WP_zret dX11_known_13 rfl (nar_z (by omega)) ⟨⟨hI8108, rfl, fr8111, fr8113, fr8112, ⟨(by rw [ew8120, ew8121, ew8122, ew8123, ew8051]; omega), (by rw [e8114, ew8046] <;> exact (eq32 _ _).mpr (by omega)), (by rw [e8115, ew8047] <;> exact (eq32 _ _).mpr (by omega)), (by rw [e8116, ew8048] <;> exact (eq32 _ _).mpr (by omega)), (by rw [e8117, ew8049] <;> exact (eq32 _ _).mpr (by omega))⟩⟩, _, rfl, by omega, by omega, by (try rw [ew8124]); omega⟩
set_option maxHeartbeats 4000000 in
set_option maxRecDepth 100000 in
theorem sm_knownx_3 {g : GG} {n : Int} {L : Int32} (hy : Ly g)  {I : pI} {J : pJ} {R : pR} (hr : Rf g R) (hI : MP g n L I) (ma : Int32) (ma_lo : 0 ≤ ma.toInt) (ma_hi : ma.toInt ≤ 3) (hb : ((I (ad g 0) 4).toInt ≤ (I (ad g 0) 2).toInt ∧ (I (ad g 0) 3).toInt ≤ (I (ad g 0) 4).toInt ∧ ((I (ad g 0) 5).toInt = 0 ∨ (I (ad g 0) 3).toInt < (I (ad g 0) 4).toInt))) : SP g mX11_known [.ref (ad g 0), .ref (ad g 3), .int ma] I J R (fun r I' J' R' => (MP g n L I' ∧ R' = R ∧ fz 49 g [0] I I' ∧ fz 49 g [] J J' ∧ fs g [3, 4, 5, 6, 7, 8, 9] I I' ∧ (((I' (ad g 0) 4).toInt ≤ (I' (ad g 0) 2).toInt ∧ (I' (ad g 0) 3).toInt ≤ (I' (ad g 0) 4).toInt ∧ ((I' (ad g 0) 5).toInt = 0 ∨ (I' (ad g 0) 3).toInt < (I' (ad g 0) 4).toInt)) ∧ (I (ad g 0) 3).toInt ≤ (I' (ad g 0) 3).toInt) ∧ I' (ad g 0) 15 = I (ad g 0) 15 ∧ I' (ad g 0) 16 = I (ad g 0) 16 ∧ I' (ad g 0) 17 = I (ad g 0) 17 ∧ I' (ad g 0) 18 = I (ad g 0) 18) ∧ ∃ v : Int32, r = some (.int v) ∧ 0 ≤ v.toInt ∧ v.toInt ≤ 1 ∧ (v.toInt = 1 → 0 ≤ (I' (ad g 0) 7).toInt ∧ (I' (ad g 0) 7).toInt ≤ 2 ∧ (I' (ad g 0) 7).toInt < ma.toInt)) := by
  refine SP_of ⟨by decide, rfl⟩ (Nat.le_of_ble_eq_true rfl) ?_
  have e8125 : I (ad g 0) 1 = L := hI.1.2
  have b8126 := BT_get hI.1.1 0 1 2 (0) (0) (900) (by decide) 1 (by decide) (by decide)
  rw [e8125] at b8126
  have fr0 : fz 49 g [0] I I := fz_rf
  have frj0 : fz 49 g [] J J := fz_rf
  have frq0 : fs g [3, 4, 5, 6, 7, 8, 9] I I := fs_rf
  obtain ⟨w8127, ew8127⟩ : ∃ w : Int32, I (ad g 0) 15 = w := ⟨_, rfl⟩
  have bw8127 := BT_get hI.1.1 0 15 16 (0) (0) (4) (by decide) 15 (by decide) (by decide)
  rw [ew8127] at bw8127
  obtain ⟨w8128, ew8128⟩ : ∃ w : Int32, I (ad g 0) 16 = w := ⟨_, rfl⟩
  have bw8128 := BT_get hI.1.1 0 16 17 (0) (0) (3) (by decide) 16 (by decide) (by decide)
  rw [ew8128] at bw8128
  obtain ⟨w8129, ew8129⟩ : ∃ w : Int32, I (ad g 0) 17 = w := ⟨_, rfl⟩
  have bw8129 := BT_get hI.1.1 0 17 18 (-1) (0) (3) (by decide) 17 (by decide) (by decide)
  rw [ew8129] at bw8129
  obtain ⟨w8130, ew8130⟩ : ∃ w : Int32, I (ad g 0) 18 = w := ⟨_, rfl⟩
  have bw8130 := BT_get hI.1.1 0 18 19 (-1) (0) (2) (by decide) 18 (by decide) (by decide)
  rw [ew8130] at bw8130
  obtain ⟨w8131, ew8131⟩ : ∃ w : Int32, I (ad g 0) 2 = w := ⟨_, rfl⟩
  have bw8131 := BT_get hI.1.1 0 2 3 (0) (0) (900) (by decide) 2 (by decide) (by decide)
  rw [ew8131] at bw8131
  obtain ⟨w8132, ew8132⟩ : ∃ w : Int32, I (ad g 0) 3 = w := ⟨_, rfl⟩
  have bw8132 := BT_get hI.1.1 0 3 4 (0) (0) (900) (by decide) 3 (by decide) (by decide)
  rw [ew8132] at bw8132
  obtain ⟨w8133, ew8133⟩ : ∃ w : Int32, I (ad g 0) 4 = w := ⟨_, rfl⟩
  have bw8133 := BT_get hI.1.1 0 4 5 (0) (0) (900) (by decide) 4 (by decide) (by decide)
  rw [ew8133] at bw8133
  obtain ⟨w8134, ew8134⟩ : ∃ w : Int32, I (ad g 0) 5 = w := ⟨_, rfl⟩
  have bw8134 := BT_get hI.1.1 0 5 6 (0) (0) (4) (by decide) 5 (by decide) (by decide)
  rw [ew8134] at bw8134
  rw [ew8131, ew8132, ew8133, ew8134] at hb
  refine WP_aload_n dX11_known_0 rfl ?_
  refine WQ_getim dX11_known_1 fX11_27 rfl (ly_is hy 0 11 rfl) ew8134 ?_
  refine WQ_iconst (1) (1) dX11_known_4 rfl rfl (fun v8135 hv8135 => ?_)
  refine WQ_icmp_eq 14 dX11_known_5 rfl (fun c8135 => ?_) (fun c8135 => ?_)
  · refine WP_aload_n dX11_known_14 rfl ?_
    refine WP_aload_n dX11_known_15 rfl ?_
    refine WP_aload_n dX11_known_16 rfl ?_
    refine WP_iload_n dX11_known_17 rfl ?_
    refine WP_callV2 (k := 11) dX11_known_18 ⟨⟨⟨by decide, by decide⟩, zX11_find⟩, lX11_71, by decide, rfl, vX11_find.1, vX11_find.2⟩ (ly_is hy 0 11 rfl) (sm_find_3 hy hr hI ma (by omega) (by omega)) (Nat.le_of_ble_eq_true rfl) ?_
    intro r Ia Ja Ra hq
    obtain ⟨⟨ea, eb, ec⟩, v8137, rfl, av8137, bv8137, cv8137⟩ := hq
    show WP _ _ _ _ (.int _ :: _) _ _ _ _
    rw [ea, eb, ec]
    clear ea eb ec Ia Ja Ra
    refine WQ_puti dX11_known_21 fX11_56 rfl rfl (ly_is hy 0 11 rfl) (fun I8138 eI8138 => ?_)
    have hI8138 : MP g n L I8138 := by rw [eI8138]; exact (mp_w hy hI (c := 0) (mi_f hy hI.1 (c := 0) (-1) (0) (1000) (by decide) (Or.inr (by decide)) (by decide) (by omega) (by omega)) (by decide) (by decide) (Or.inr (by decide)))
    have e8139 : I8138 (ad g 0) 1 = L := by rw [eI8138, pp_ne _ _ (Or.inr (by decide))]; exact e8125
    have e8140 : I8138 (ad g 0) 15 = w8127 := by rw [eI8138, pp_ne _ _ (Or.inr (by decide))]; exact ew8127
    have e8141 : I8138 (ad g 0) 16 = w8128 := by rw [eI8138, pp_ne _ _ (Or.inr (by decide))]; exact ew8128
    have e8142 : I8138 (ad g 0) 17 = w8129 := by rw [eI8138, pp_ne _ _ (Or.inr (by decide))]; exact ew8129
    have e8143 : I8138 (ad g 0) 18 = w8130 := by rw [eI8138, pp_ne _ _ (Or.inr (by decide))]; exact ew8130
    have e8144 : I8138 (ad g 0) 2 = w8131 := by rw [eI8138, pp_ne _ _ (Or.inr (by decide))]; exact ew8131
    have e8145 : I8138 (ad g 0) 3 = w8132 := by rw [eI8138, pp_ne _ _ (Or.inr (by decide))]; exact ew8132
    have e8146 : I8138 (ad g 0) 4 = w8133 := by rw [eI8138, pp_ne _ _ (Or.inr (by decide))]; exact ew8133
    have e8147 : I8138 (ad g 0) 5 = w8134 := by rw [eI8138, pp_ne _ _ (Or.inr (by decide))]; exact ew8134
    have e8148 : I8138 (ad g 0) 7 = v8137 := by rw [eI8138, pp_self]
    have fr8149 : fs g [3, 4, 5, 6, 7, 8, 9] I I8138 := by rw [eI8138]; exact fs_pp0 frq0 (by decide)
    have fr8150 : fz 49 g [0] I I8138 := by rw [eI8138]; exact fzm_pp hy fr0 (by decide) (by decide)
    clear eI8138
    refine WP_aload_n dX11_known_24 rfl ?_
    refine WQ_getim dX11_known_25 fX11_56 rfl (ly_is hy 0 11 rfl) e8148 ?_
    refine WQ_iconst (-1) (-1) dX11_known_28 rfl rfl (fun v8151 hv8151 => ?_)
    refine WQ_icmp_ne 38 dX11_known_29 rfl (fun c8151 => ?_) (fun c8151 => ?_)
    · refine WP_aload_n dX11_known_38 rfl ?_
      refine WP_callV0 (k := 11) dX11_known_39 ⟨⟨⟨by decide, by decide⟩, zX11_scan⟩, lX11_63, by decide, rfl, vX11_scan.1, vX11_scan.2⟩ (ly_is hy 0 11 rfl) (sm_scanx hy hr hI8138   (by rw [e8146, e8144]; omega)) (Nat.le_of_ble_eq_true rfl) ?_
      intro r I8153 J8154 Ra hq
      obtain ⟨⟨hI8153, ec, fiI8153, fjI8153, fqI8153, ⟨pI8153, sI8153_0_7, sI8153_0_15, sI8153_0_16, sI8153_0_17, sI8153_0_18⟩⟩, rfl⟩ := hq
      rw [ec]
      clear ec Ra
      have fr8155 : fz 49 g [0] I I8153 := fz_tr fr8150 (fz_mono fiI8153 (by decide))
      have fr8156 : fs g [3, 4, 5, 6, 7, 8, 9] I I8153 := fs_tr fr8149 (fs_mono fqI8153 (by decide))
      have fr8157 : fz 49 g [] J J8154 := fz_tr frj0 (fz_mono fjI8153 (by decide))
      have e8158 : I8153 (ad g 0) 7 = v8137 := by rw [sI8153_0_7]; exact e8148
      have e8159 : I8153 (ad g 0) 15 = w8127 := by rw [sI8153_0_15]; exact e8140
      have e8160 : I8153 (ad g 0) 16 = w8128 := by rw [sI8153_0_16]; exact e8141
      have e8161 : I8153 (ad g 0) 17 = w8129 := by rw [sI8153_0_17]; exact e8142
      have e8162 : I8153 (ad g 0) 18 = w8130 := by rw [sI8153_0_18]; exact e8143
      have e8163 : I8153 (ad g 0) 1 = L := hI8153.1.2
      have b8164 := BT_get hI8153.1.1 0 1 2 (0) (0) (900) (by decide) 1 (by decide) (by decide)
      rw [e8163] at b8164
      obtain ⟨w8165, ew8165⟩ : ∃ w : Int32, I8153 (ad g 0) 2 = w := ⟨_, rfl⟩
      have bw8165 := BT_get hI8153.1.1 0 2 3 (0) (0) (900) (by decide) 2 (by decide) (by decide)
      rw [ew8165] at bw8165
      obtain ⟨w8166, ew8166⟩ : ∃ w : Int32, I8153 (ad g 0) 3 = w := ⟨_, rfl⟩
      have bw8166 := BT_get hI8153.1.1 0 3 4 (0) (0) (900) (by decide) 3 (by decide) (by decide)
      rw [ew8166] at bw8166
      obtain ⟨w8167, ew8167⟩ : ∃ w : Int32, I8153 (ad g 0) 4 = w := ⟨_, rfl⟩
      have bw8167 := BT_get hI8153.1.1 0 4 5 (0) (0) (900) (by decide) 4 (by decide) (by decide)
      rw [ew8167] at bw8167
      obtain ⟨w8168, ew8168⟩ : ∃ w : Int32, I8153 (ad g 0) 5 = w := ⟨_, rfl⟩
      have bw8168 := BT_get hI8153.1.1 0 5 6 (0) (0) (4) (by decide) 5 (by decide) (by decide)
      rw [ew8168] at bw8168
      rw [ew8165, ew8166, ew8167, ew8168, e8146] at pI8153
      refine WQ_iconst (1) (1) dX11_known_42 rfl rfl (fun v8169 hv8169 => ?_)
      exact WP_zret dX11_known_43 rfl (nar_z (by omega)) ⟨⟨hI8153, rfl, fr8155, fr8157, fr8156, ⟨(by rw [ew8165, ew8166, ew8167, ew8168, ew8132]; omega), (by rw [e8159, ew8127] <;> exact (eq32 _ _).mpr (by omega)), (by rw [e8160, ew8128] <;> exact (eq32 _ _).mpr (by omega)), (by rw [e8161, ew8129] <;> exact (eq32 _ _).mpr (by omega)), (by rw [e8162, ew8130] <;> exact (eq32 _ _).mpr (by omega))⟩⟩, _, rfl, by omega, by omega, by (try rw [e8158]); omega⟩
    · refine WP_aload_n dX11_known_32 rfl ?_
      refine WQ_iconst (5) (5) dX11_known_33 rfl rfl (fun v8170 hv8170 => ?_)
      refine WP_callV1 (k := 11) dX11_known_34 ⟨⟨⟨by decide, by decide⟩, zX11_bad⟩, lX11_49, by decide, rfl, vX11_bad.1, vX11_bad.2⟩ (ly_is hy 0 11 rfl) (sm_badx hy hr hI8138 v8170  (by rw [e8144, e8145, e8146, e8147]; omega)) (Nat.le_of_ble_eq_true rfl) ?_
      intro r I8171 J8172 Ra hq
      obtain ⟨⟨hI8171, ec, fiI8171, fjI8171, fqI8171, ⟨pI8171, sI8171_0_15, sI8171_0_16, sI8171_0_17, sI8171_0_18⟩⟩, v8173, rfl, av8173, bv8173⟩ := hq
      show WP _ _ _ _ (.int _ :: _) _ _ _ _
      rw [ec]
      clear ec Ra
      have fr8174 : fz 49 g [0] I I8171 := fz_tr fr8150 (fz_mono fiI8171 (by decide))
      have fr8175 : fs g [3, 4, 5, 6, 7, 8, 9] I I8171 := fs_tr fr8149 (fs_mono fqI8171 (by decide))
      have fr8176 : fz 49 g [] J J8172 := fz_tr frj0 (fz_mono fjI8171 (by decide))
      have e8177 : I8171 (ad g 0) 15 = w8127 := by rw [sI8171_0_15]; exact e8140
      have e8178 : I8171 (ad g 0) 16 = w8128 := by rw [sI8171_0_16]; exact e8141
      have e8179 : I8171 (ad g 0) 17 = w8129 := by rw [sI8171_0_17]; exact e8142
      have e8180 : I8171 (ad g 0) 18 = w8130 := by rw [sI8171_0_18]; exact e8143
      have e8181 : I8171 (ad g 0) 1 = L := hI8171.1.2
      have b8182 := BT_get hI8171.1.1 0 1 2 (0) (0) (900) (by decide) 1 (by decide) (by decide)
      rw [e8181] at b8182
      obtain ⟨w8183, ew8183⟩ : ∃ w : Int32, I8171 (ad g 0) 2 = w := ⟨_, rfl⟩
      have bw8183 := BT_get hI8171.1.1 0 2 3 (0) (0) (900) (by decide) 2 (by decide) (by decide)
      rw [ew8183] at bw8183
      obtain ⟨w8184, ew8184⟩ : ∃ w : Int32, I8171 (ad g 0) 3 = w := ⟨_, rfl⟩
      have bw8184 := BT_get hI8171.1.1 0 3 4 (0) (0) (900) (by decide) 3 (by decide) (by decide)
      rw [ew8184] at bw8184
      obtain ⟨w8185, ew8185⟩ : ∃ w : Int32, I8171 (ad g 0) 4 = w := ⟨_, rfl⟩
      have bw8185 := BT_get hI8171.1.1 0 4 5 (0) (0) (900) (by decide) 4 (by decide) (by decide)
      rw [ew8185] at bw8185
      obtain ⟨w8186, ew8186⟩ : ∃ w : Int32, I8171 (ad g 0) 5 = w := ⟨_, rfl⟩
      have bw8186 := BT_get hI8171.1.1 0 5 6 (0) (0) (4) (by decide) 5 (by decide) (by decide)
      rw [ew8186] at bw8186
      rw [ew8183, ew8184, ew8185, ew8186, e8145] at pI8171
      obtain ⟨w8187, ew8187⟩ : ∃ w : Int32, I8171 (ad g 0) 7 = w := ⟨_, rfl⟩
      have bw8187 := BT_get hI8171.1.1 0 7 8 (-1) (0) (1000) (by decide) 7 (by decide) (by decide)
      rw [ew8187] at bw8187
      exact WP_zret dX11_known_37 rfl (nar_z (by omega)) ⟨⟨hI8171, rfl, fr8174, fr8176, fr8175, ⟨(by rw [ew8183, ew8184, ew8185, ew8186, ew8132]; omega), (by rw [e8177, ew8127] <;> exact (eq32 _ _).mpr (by omega)), (by rw [e8178, ew8128] <;> exact (eq32 _ _).mpr (by omega)), (by rw [e8179, ew8129] <;> exact (eq32 _ _).mpr (by omega)), (by rw [e8180, ew8130] <;> exact (eq32 _ _).mpr (by omega))⟩⟩, _, rfl, by omega, by omega, by (try rw [ew8187]); omega⟩
  · refine WP_aload_n dX11_known_8 rfl ?_
    refine WQ_iconst (1) (1) dX11_known_9 rfl rfl (fun v8188 hv8188 => ?_)
    refine WP_callV1 (k := 11) dX11_known_10 ⟨⟨⟨by decide, by decide⟩, zX11_bad⟩, lX11_49, by decide, rfl, vX11_bad.1, vX11_bad.2⟩ (ly_is hy 0 11 rfl) (sm_badx hy hr hI v8188  (by rw [ew8131, ew8132, ew8133, ew8134]; omega)) (Nat.le_of_ble_eq_true rfl) ?_
    intro r I8189 J8190 Ra hq
    obtain ⟨⟨hI8189, ec, fiI8189, fjI8189, fqI8189, ⟨pI8189, sI8189_0_15, sI8189_0_16, sI8189_0_17, sI8189_0_18⟩⟩, v8191, rfl, av8191, bv8191⟩ := hq
    show WP _ _ _ _ (.int _ :: _) _ _ _ _
    rw [ec]
    clear ec Ra
    have fr8192 : fz 49 g [0] I I8189 := fz_tr fr0 (fz_mono fiI8189 (by decide))
    have fr8193 : fs g [3, 4, 5, 6, 7, 8, 9] I I8189 := fs_tr frq0 (fs_mono fqI8189 (by decide))
    have fr8194 : fz 49 g [] J J8190 := fz_tr frj0 (fz_mono fjI8189 (by decide))
    have e8195 : I8189 (ad g 0) 15 = w8127 := by rw [sI8189_0_15]; exact ew8127
    have e8196 : I8189 (ad g 0) 16 = w8128 := by rw [sI8189_0_16]; exact ew8128
    have e8197 : I8189 (ad g 0) 17 = w8129 := by rw [sI8189_0_17]; exact ew8129
    have e8198 : I8189 (ad g 0) 18 = w8130 := by rw [sI8189_0_18]; exact ew8130
    have e8199 : I8189 (ad g 0) 1 = L := hI8189.1.2
    have b8200 := BT_get hI8189.1.1 0 1 2 (0) (0) (900) (by decide) 1 (by decide) (by decide)
    rw [e8199] at b8200
    obtain ⟨w8201, ew8201⟩ : ∃ w : Int32, I8189 (ad g 0) 2 = w := ⟨_, rfl⟩
    have bw8201 := BT_get hI8189.1.1 0 2 3 (0) (0) (900) (by decide) 2 (by decide) (by decide)
    rw [ew8201] at bw8201
    obtain ⟨w8202, ew8202⟩ : ∃ w : Int32, I8189 (ad g 0) 3 = w := ⟨_, rfl⟩
    have bw8202 := BT_get hI8189.1.1 0 3 4 (0) (0) (900) (by decide) 3 (by decide) (by decide)
    rw [ew8202] at bw8202
    obtain ⟨w8203, ew8203⟩ : ∃ w : Int32, I8189 (ad g 0) 4 = w := ⟨_, rfl⟩
    have bw8203 := BT_get hI8189.1.1 0 4 5 (0) (0) (900) (by decide) 4 (by decide) (by decide)
    rw [ew8203] at bw8203
    obtain ⟨w8204, ew8204⟩ : ∃ w : Int32, I8189 (ad g 0) 5 = w := ⟨_, rfl⟩
    have bw8204 := BT_get hI8189.1.1 0 5 6 (0) (0) (4) (by decide) 5 (by decide) (by decide)
    rw [ew8204] at bw8204
    rw [ew8201, ew8202, ew8203, ew8204, ew8132] at pI8189
    obtain ⟨w8205, ew8205⟩ : ∃ w : Int32, I8189 (ad g 0) 7 = w := ⟨_, rfl⟩
    have bw8205 := BT_get hI8189.1.1 0 7 8 (-1) (0) (1000) (by decide) 7 (by decide) (by decide)
    rw [ew8205] at bw8205
    exact WP_zret dX11_known_13 rfl (nar_z (by omega)) ⟨⟨hI8189, rfl, fr8192, fr8194, fr8193, ⟨(by rw [ew8201, ew8202, ew8203, ew8204, ew8132]; omega), (by rw [e8195, ew8127] <;> exact (eq32 _ _).mpr (by omega)), (by rw [e8196, ew8128] <;> exact (eq32 _ _).mpr (by omega)), (by rw [e8197, ew8129] <;> exact (eq32 _ _).mpr (by omega)), (by rw [e8198, ew8130] <;> exact (eq32 _ _).mpr (by omega))⟩⟩, _, rfl, by omega, by omega, by (try rw [ew8205]); omega⟩
set_option maxHeartbeats 4000000 in
set_option maxRecDepth 100000 in
theorem sm_knownx_4 {g : GG} {n : Int} {L : Int32} (hy : Ly g)  {I : pI} {J : pJ} {R : pR} (hr : Rf g R) (hI : MP g n L I) (ma : Int32) (ma_lo : 0 ≤ ma.toInt) (ma_hi : ma.toInt ≤ 4) (hb : ((I (ad g 0) 4).toInt ≤ (I (ad g 0) 2).toInt ∧ (I (ad g 0) 3).toInt ≤ (I (ad g 0) 4).toInt ∧ ((I (ad g 0) 5).toInt = 0 ∨ (I (ad g 0) 3).toInt < (I (ad g 0) 4).toInt))) : SP g mX11_known [.ref (ad g 0), .ref (ad g 4), .int ma] I J R (fun r I' J' R' => (MP g n L I' ∧ R' = R ∧ fz 49 g [0] I I' ∧ fz 49 g [] J J' ∧ fs g [3, 4, 5, 6, 7, 8, 9] I I' ∧ (((I' (ad g 0) 4).toInt ≤ (I' (ad g 0) 2).toInt ∧ (I' (ad g 0) 3).toInt ≤ (I' (ad g 0) 4).toInt ∧ ((I' (ad g 0) 5).toInt = 0 ∨ (I' (ad g 0) 3).toInt < (I' (ad g 0) 4).toInt)) ∧ (I (ad g 0) 3).toInt ≤ (I' (ad g 0) 3).toInt) ∧ I' (ad g 0) 15 = I (ad g 0) 15 ∧ I' (ad g 0) 16 = I (ad g 0) 16 ∧ I' (ad g 0) 17 = I (ad g 0) 17 ∧ I' (ad g 0) 18 = I (ad g 0) 18) ∧ ∃ v : Int32, r = some (.int v) ∧ 0 ≤ v.toInt ∧ v.toInt ≤ 1 ∧ (v.toInt = 1 → 0 ≤ (I' (ad g 0) 7).toInt ∧ (I' (ad g 0) 7).toInt ≤ 3 ∧ (I' (ad g 0) 7).toInt < ma.toInt)) := by
  refine SP_of ⟨by decide, rfl⟩ (Nat.le_of_ble_eq_true rfl) ?_
  have e8206 : I (ad g 0) 1 = L := hI.1.2
  have b8207 := BT_get hI.1.1 0 1 2 (0) (0) (900) (by decide) 1 (by decide) (by decide)
  rw [e8206] at b8207
  have fr0 : fz 49 g [0] I I := fz_rf
  have frj0 : fz 49 g [] J J := fz_rf
  have frq0 : fs g [3, 4, 5, 6, 7, 8, 9] I I := fs_rf
  obtain ⟨w8208, ew8208⟩ : ∃ w : Int32, I (ad g 0) 15 = w := ⟨_, rfl⟩
  have bw8208 := BT_get hI.1.1 0 15 16 (0) (0) (4) (by decide) 15 (by decide) (by decide)
  rw [ew8208] at bw8208
  obtain ⟨w8209, ew8209⟩ : ∃ w : Int32, I (ad g 0) 16 = w := ⟨_, rfl⟩
  have bw8209 := BT_get hI.1.1 0 16 17 (0) (0) (3) (by decide) 16 (by decide) (by decide)
  rw [ew8209] at bw8209
  obtain ⟨w8210, ew8210⟩ : ∃ w : Int32, I (ad g 0) 17 = w := ⟨_, rfl⟩
  have bw8210 := BT_get hI.1.1 0 17 18 (-1) (0) (3) (by decide) 17 (by decide) (by decide)
  rw [ew8210] at bw8210
  obtain ⟨w8211, ew8211⟩ : ∃ w : Int32, I (ad g 0) 18 = w := ⟨_, rfl⟩
  have bw8211 := BT_get hI.1.1 0 18 19 (-1) (0) (2) (by decide) 18 (by decide) (by decide)
  rw [ew8211] at bw8211
  obtain ⟨w8212, ew8212⟩ : ∃ w : Int32, I (ad g 0) 2 = w := ⟨_, rfl⟩
  have bw8212 := BT_get hI.1.1 0 2 3 (0) (0) (900) (by decide) 2 (by decide) (by decide)
  rw [ew8212] at bw8212
  obtain ⟨w8213, ew8213⟩ : ∃ w : Int32, I (ad g 0) 3 = w := ⟨_, rfl⟩
  have bw8213 := BT_get hI.1.1 0 3 4 (0) (0) (900) (by decide) 3 (by decide) (by decide)
  rw [ew8213] at bw8213
  obtain ⟨w8214, ew8214⟩ : ∃ w : Int32, I (ad g 0) 4 = w := ⟨_, rfl⟩
  have bw8214 := BT_get hI.1.1 0 4 5 (0) (0) (900) (by decide) 4 (by decide) (by decide)
  rw [ew8214] at bw8214
  obtain ⟨w8215, ew8215⟩ : ∃ w : Int32, I (ad g 0) 5 = w := ⟨_, rfl⟩
  have bw8215 := BT_get hI.1.1 0 5 6 (0) (0) (4) (by decide) 5 (by decide) (by decide)
  rw [ew8215] at bw8215
  rw [ew8212, ew8213, ew8214, ew8215] at hb
  refine WP_aload_n dX11_known_0 rfl ?_
  refine WQ_getim dX11_known_1 fX11_27 rfl (ly_is hy 0 11 rfl) ew8215 ?_
  refine WQ_iconst (1) (1) dX11_known_4 rfl rfl (fun v8216 hv8216 => ?_)
  refine WQ_icmp_eq 14 dX11_known_5 rfl (fun c8216 => ?_) (fun c8216 => ?_)
  · refine WP_aload_n dX11_known_14 rfl ?_
    refine WP_aload_n dX11_known_15 rfl ?_
    refine WP_aload_n dX11_known_16 rfl ?_
    refine WP_iload_n dX11_known_17 rfl ?_
    refine WP_callV2 (k := 11) dX11_known_18 ⟨⟨⟨by decide, by decide⟩, zX11_find⟩, lX11_71, by decide, rfl, vX11_find.1, vX11_find.2⟩ (ly_is hy 0 11 rfl) (sm_find_4 hy hr hI ma (by omega) (by omega)) (Nat.le_of_ble_eq_true rfl) ?_
    intro r Ia Ja Ra hq
    obtain ⟨⟨ea, eb, ec⟩, v8218, rfl, av8218, bv8218, cv8218⟩ := hq
    show WP _ _ _ _ (.int _ :: _) _ _ _ _
    rw [ea, eb, ec]
    clear ea eb ec Ia Ja Ra
    refine WQ_puti dX11_known_21 fX11_56 rfl rfl (ly_is hy 0 11 rfl) (fun I8219 eI8219 => ?_)
    have hI8219 : MP g n L I8219 := by rw [eI8219]; exact (mp_w hy hI (c := 0) (mi_f hy hI.1 (c := 0) (-1) (0) (1000) (by decide) (Or.inr (by decide)) (by decide) (by omega) (by omega)) (by decide) (by decide) (Or.inr (by decide)))
    have e8220 : I8219 (ad g 0) 1 = L := by rw [eI8219, pp_ne _ _ (Or.inr (by decide))]; exact e8206
    have e8221 : I8219 (ad g 0) 15 = w8208 := by rw [eI8219, pp_ne _ _ (Or.inr (by decide))]; exact ew8208
    have e8222 : I8219 (ad g 0) 16 = w8209 := by rw [eI8219, pp_ne _ _ (Or.inr (by decide))]; exact ew8209
    have e8223 : I8219 (ad g 0) 17 = w8210 := by rw [eI8219, pp_ne _ _ (Or.inr (by decide))]; exact ew8210
    have e8224 : I8219 (ad g 0) 18 = w8211 := by rw [eI8219, pp_ne _ _ (Or.inr (by decide))]; exact ew8211
    have e8225 : I8219 (ad g 0) 2 = w8212 := by rw [eI8219, pp_ne _ _ (Or.inr (by decide))]; exact ew8212
    have e8226 : I8219 (ad g 0) 3 = w8213 := by rw [eI8219, pp_ne _ _ (Or.inr (by decide))]; exact ew8213
    have e8227 : I8219 (ad g 0) 4 = w8214 := by rw [eI8219, pp_ne _ _ (Or.inr (by decide))]; exact ew8214
    have e8228 : I8219 (ad g 0) 5 = w8215 := by rw [eI8219, pp_ne _ _ (Or.inr (by decide))]; exact ew8215
    have e8229 : I8219 (ad g 0) 7 = v8218 := by rw [eI8219, pp_self]
    have fr8230 : fs g [3, 4, 5, 6, 7, 8, 9] I I8219 := by rw [eI8219]; exact fs_pp0 frq0 (by decide)
    have fr8231 : fz 49 g [0] I I8219 := by rw [eI8219]; exact fzm_pp hy fr0 (by decide) (by decide)
    clear eI8219
    refine WP_aload_n dX11_known_24 rfl ?_
    refine WQ_getim dX11_known_25 fX11_56 rfl (ly_is hy 0 11 rfl) e8229 ?_
    refine WQ_iconst (-1) (-1) dX11_known_28 rfl rfl (fun v8232 hv8232 => ?_)
    refine WQ_icmp_ne 38 dX11_known_29 rfl (fun c8232 => ?_) (fun c8232 => ?_)
    · refine WP_aload_n dX11_known_38 rfl ?_
      refine WP_callV0 (k := 11) dX11_known_39 ⟨⟨⟨by decide, by decide⟩, zX11_scan⟩, lX11_63, by decide, rfl, vX11_scan.1, vX11_scan.2⟩ (ly_is hy 0 11 rfl) (sm_scanx hy hr hI8219   (by rw [e8227, e8225]; omega)) (Nat.le_of_ble_eq_true rfl) ?_
      intro r I8234 J8235 Ra hq
      obtain ⟨⟨hI8234, ec, fiI8234, fjI8234, fqI8234, ⟨pI8234, sI8234_0_7, sI8234_0_15, sI8234_0_16, sI8234_0_17, sI8234_0_18⟩⟩, rfl⟩ := hq
      rw [ec]
      clear ec Ra
      have fr8236 : fz 49 g [0] I I8234 := fz_tr fr8231 (fz_mono fiI8234 (by decide))
      have fr8237 : fs g [3, 4, 5, 6, 7, 8, 9] I I8234 := fs_tr fr8230 (fs_mono fqI8234 (by decide))
      have fr8238 : fz 49 g [] J J8235 := fz_tr frj0 (fz_mono fjI8234 (by decide))
      have e8239 : I8234 (ad g 0) 7 = v8218 := by rw [sI8234_0_7]; exact e8229
      have e8240 : I8234 (ad g 0) 15 = w8208 := by rw [sI8234_0_15]; exact e8221
      have e8241 : I8234 (ad g 0) 16 = w8209 := by rw [sI8234_0_16]; exact e8222
      have e8242 : I8234 (ad g 0) 17 = w8210 := by rw [sI8234_0_17]; exact e8223
      have e8243 : I8234 (ad g 0) 18 = w8211 := by rw [sI8234_0_18]; exact e8224
      have e8244 : I8234 (ad g 0) 1 = L := hI8234.1.2
      have b8245 := BT_get hI8234.1.1 0 1 2 (0) (0) (900) (by decide) 1 (by decide) (by decide)
      rw [e8244] at b8245
      obtain ⟨w8246, ew8246⟩ : ∃ w : Int32, I8234 (ad g 0) 2 = w := ⟨_, rfl⟩
      have bw8246 := BT_get hI8234.1.1 0 2 3 (0) (0) (900) (by decide) 2 (by decide) (by decide)
      rw [ew8246] at bw8246
      obtain ⟨w8247, ew8247⟩ : ∃ w : Int32, I8234 (ad g 0) 3 = w := ⟨_, rfl⟩
      have bw8247 := BT_get hI8234.1.1 0 3 4 (0) (0) (900) (by decide) 3 (by decide) (by decide)
      rw [ew8247] at bw8247
      obtain ⟨w8248, ew8248⟩ : ∃ w : Int32, I8234 (ad g 0) 4 = w := ⟨_, rfl⟩
      have bw8248 := BT_get hI8234.1.1 0 4 5 (0) (0) (900) (by decide) 4 (by decide) (by decide)
      rw [ew8248] at bw8248
      obtain ⟨w8249, ew8249⟩ : ∃ w : Int32, I8234 (ad g 0) 5 = w := ⟨_, rfl⟩
      have bw8249 := BT_get hI8234.1.1 0 5 6 (0) (0) (4) (by decide) 5 (by decide) (by decide)
      rw [ew8249] at bw8249
      rw [ew8246, ew8247, ew8248, ew8249, e8227] at pI8234
      refine WQ_iconst (1) (1) dX11_known_42 rfl rfl (fun v8250 hv8250 => ?_)
      exact WP_zret dX11_known_43 rfl (nar_z (by omega)) ⟨⟨hI8234, rfl, fr8236, fr8238, fr8237, ⟨(by rw [ew8246, ew8247, ew8248, ew8249, ew8213]; omega), (by rw [e8240, ew8208] <;> exact (eq32 _ _).mpr (by omega)), (by rw [e8241, ew8209] <;> exact (eq32 _ _).mpr (by omega)), (by rw [e8242, ew8210] <;> exact (eq32 _ _).mpr (by omega)), (by rw [e8243, ew8211] <;> exact (eq32 _ _).mpr (by omega))⟩⟩, _, rfl, by omega, by omega, by (try rw [e8239]); omega⟩
    · refine WP_aload_n dX11_known_32 rfl ?_
      refine WQ_iconst (5) (5) dX11_known_33 rfl rfl (fun v8251 hv8251 => ?_)
      refine WP_callV1 (k := 11) dX11_known_34 ⟨⟨⟨by decide, by decide⟩, zX11_bad⟩, lX11_49, by decide, rfl, vX11_bad.1, vX11_bad.2⟩ (ly_is hy 0 11 rfl) (sm_badx hy hr hI8219 v8251  (by rw [e8225, e8226, e8227, e8228]; omega)) (Nat.le_of_ble_eq_true rfl) ?_
      intro r I8252 J8253 Ra hq
      obtain ⟨⟨hI8252, ec, fiI8252, fjI8252, fqI8252, ⟨pI8252, sI8252_0_15, sI8252_0_16, sI8252_0_17, sI8252_0_18⟩⟩, v8254, rfl, av8254, bv8254⟩ := hq
      show WP _ _ _ _ (.int _ :: _) _ _ _ _
      rw [ec]
      clear ec Ra
      have fr8255 : fz 49 g [0] I I8252 := fz_tr fr8231 (fz_mono fiI8252 (by decide))
      have fr8256 : fs g [3, 4, 5, 6, 7, 8, 9] I I8252 := fs_tr fr8230 (fs_mono fqI8252 (by decide))
      have fr8257 : fz 49 g [] J J8253 := fz_tr frj0 (fz_mono fjI8252 (by decide))
      have e8258 : I8252 (ad g 0) 15 = w8208 := by rw [sI8252_0_15]; exact e8221
      have e8259 : I8252 (ad g 0) 16 = w8209 := by rw [sI8252_0_16]; exact e8222
      have e8260 : I8252 (ad g 0) 17 = w8210 := by rw [sI8252_0_17]; exact e8223
      have e8261 : I8252 (ad g 0) 18 = w8211 := by rw [sI8252_0_18]; exact e8224
      have e8262 : I8252 (ad g 0) 1 = L := hI8252.1.2
      have b8263 := BT_get hI8252.1.1 0 1 2 (0) (0) (900) (by decide) 1 (by decide) (by decide)
      rw [e8262] at b8263
      obtain ⟨w8264, ew8264⟩ : ∃ w : Int32, I8252 (ad g 0) 2 = w := ⟨_, rfl⟩
      have bw8264 := BT_get hI8252.1.1 0 2 3 (0) (0) (900) (by decide) 2 (by decide) (by decide)
      rw [ew8264] at bw8264
      obtain ⟨w8265, ew8265⟩ : ∃ w : Int32, I8252 (ad g 0) 3 = w := ⟨_, rfl⟩
      have bw8265 := BT_get hI8252.1.1 0 3 4 (0) (0) (900) (by decide) 3 (by decide) (by decide)
      rw [ew8265] at bw8265
      obtain ⟨w8266, ew8266⟩ : ∃ w : Int32, I8252 (ad g 0) 4 = w := ⟨_, rfl⟩
      have bw8266 := BT_get hI8252.1.1 0 4 5 (0) (0) (900) (by decide) 4 (by decide) (by decide)
      rw [ew8266] at bw8266
      obtain ⟨w8267, ew8267⟩ : ∃ w : Int32, I8252 (ad g 0) 5 = w := ⟨_, rfl⟩
      have bw8267 := BT_get hI8252.1.1 0 5 6 (0) (0) (4) (by decide) 5 (by decide) (by decide)
      rw [ew8267] at bw8267
      rw [ew8264, ew8265, ew8266, ew8267, e8226] at pI8252
      obtain ⟨w8268, ew8268⟩ : ∃ w : Int32, I8252 (ad g 0) 7 = w := ⟨_, rfl⟩
      have bw8268 := BT_get hI8252.1.1 0 7 8 (-1) (0) (1000) (by decide) 7 (by decide) (by decide)
      rw [ew8268] at bw8268
      exact WP_zret dX11_known_37 rfl (nar_z (by omega)) ⟨⟨hI8252, rfl, fr8255, fr8257, fr8256, ⟨(by rw [ew8264, ew8265, ew8266, ew8267, ew8213]; omega), (by rw [e8258, ew8208] <;> exact (eq32 _ _).mpr (by omega)), (by rw [e8259, ew8209] <;> exact (eq32 _ _).mpr (by omega)), (by rw [e8260, ew8210] <;> exact (eq32 _ _).mpr (by omega)), (by rw [e8261, ew8211] <;> exact (eq32 _ _).mpr (by omega))⟩⟩, _, rfl, by omega, by omega, by (try rw [ew8268]); omega⟩
  · refine WP_aload_n dX11_known_8 rfl ?_
    refine WQ_iconst (1) (1) dX11_known_9 rfl rfl (fun v8269 hv8269 => ?_)
    refine WP_callV1 (k := 11) dX11_known_10 ⟨⟨⟨by decide, by decide⟩, zX11_bad⟩, lX11_49, by decide, rfl, vX11_bad.1, vX11_bad.2⟩ (ly_is hy 0 11 rfl) (sm_badx hy hr hI v8269  (by rw [ew8212, ew8213, ew8214, ew8215]; omega)) (Nat.le_of_ble_eq_true rfl) ?_
    intro r I8270 J8271 Ra hq
    obtain ⟨⟨hI8270, ec, fiI8270, fjI8270, fqI8270, ⟨pI8270, sI8270_0_15, sI8270_0_16, sI8270_0_17, sI8270_0_18⟩⟩, v8272, rfl, av8272, bv8272⟩ := hq
    show WP _ _ _ _ (.int _ :: _) _ _ _ _
    rw [ec]
    clear ec Ra
    have fr8273 : fz 49 g [0] I I8270 := fz_tr fr0 (fz_mono fiI8270 (by decide))
    have fr8274 : fs g [3, 4, 5, 6, 7, 8, 9] I I8270 := fs_tr frq0 (fs_mono fqI8270 (by decide))
    have fr8275 : fz 49 g [] J J8271 := fz_tr frj0 (fz_mono fjI8270 (by decide))
    have e8276 : I8270 (ad g 0) 15 = w8208 := by rw [sI8270_0_15]; exact ew8208
    have e8277 : I8270 (ad g 0) 16 = w8209 := by rw [sI8270_0_16]; exact ew8209
    have e8278 : I8270 (ad g 0) 17 = w8210 := by rw [sI8270_0_17]; exact ew8210
    have e8279 : I8270 (ad g 0) 18 = w8211 := by rw [sI8270_0_18]; exact ew8211
    have e8280 : I8270 (ad g 0) 1 = L := hI8270.1.2
    have b8281 := BT_get hI8270.1.1 0 1 2 (0) (0) (900) (by decide) 1 (by decide) (by decide)
    rw [e8280] at b8281
    obtain ⟨w8282, ew8282⟩ : ∃ w : Int32, I8270 (ad g 0) 2 = w := ⟨_, rfl⟩
    have bw8282 := BT_get hI8270.1.1 0 2 3 (0) (0) (900) (by decide) 2 (by decide) (by decide)
    rw [ew8282] at bw8282
    obtain ⟨w8283, ew8283⟩ : ∃ w : Int32, I8270 (ad g 0) 3 = w := ⟨_, rfl⟩
    have bw8283 := BT_get hI8270.1.1 0 3 4 (0) (0) (900) (by decide) 3 (by decide) (by decide)
    rw [ew8283] at bw8283
    obtain ⟨w8284, ew8284⟩ : ∃ w : Int32, I8270 (ad g 0) 4 = w := ⟨_, rfl⟩
    have bw8284 := BT_get hI8270.1.1 0 4 5 (0) (0) (900) (by decide) 4 (by decide) (by decide)
    rw [ew8284] at bw8284
    obtain ⟨w8285, ew8285⟩ : ∃ w : Int32, I8270 (ad g 0) 5 = w := ⟨_, rfl⟩
    have bw8285 := BT_get hI8270.1.1 0 5 6 (0) (0) (4) (by decide) 5 (by decide) (by decide)
    rw [ew8285] at bw8285
    rw [ew8282, ew8283, ew8284, ew8285, ew8213] at pI8270
    obtain ⟨w8286, ew8286⟩ : ∃ w : Int32, I8270 (ad g 0) 7 = w := ⟨_, rfl⟩
    have bw8286 := BT_get hI8270.1.1 0 7 8 (-1) (0) (1000) (by decide) 7 (by decide) (by decide)
    rw [ew8286] at bw8286
    exact WP_zret dX11_known_13 rfl (nar_z (by omega)) ⟨⟨hI8270, rfl, fr8273, fr8275, fr8274, ⟨(by rw [ew8282, ew8283, ew8284, ew8285, ew8213]; omega), (by rw [e8276, ew8208] <;> exact (eq32 _ _).mpr (by omega)), (by rw [e8277, ew8209] <;> exact (eq32 _ _).mpr (by omega)), (by rw [e8278, ew8210] <;> exact (eq32 _ _).mpr (by omega)), (by rw [e8279, ew8211] <;> exact (eq32 _ _).mpr (by omega))⟩⟩, _, rfl, by omega, by omega, by (try rw [ew8286]); omega⟩
set_option maxHeartbeats 4000000 in
set_option maxRecDepth 100000 in
theorem sm_knownx_5 {g : GG} {n : Int} {L : Int32} (hy : Ly g)  {I : pI} {J : pJ} {R : pR} (hr : Rf g R) (hI : MP g n L I) (ma : Int32) (ma_lo : 0 ≤ ma.toInt) (ma_hi : ma.toInt ≤ 3) (hb : ((I (ad g 0) 4).toInt ≤ (I (ad g 0) 2).toInt ∧ (I (ad g 0) 3).toInt ≤ (I (ad g 0) 4).toInt ∧ ((I (ad g 0) 5).toInt = 0 ∨ (I (ad g 0) 3).toInt < (I (ad g 0) 4).toInt))) : SP g mX11_known [.ref (ad g 0), .ref (ad g 5), .int ma] I J R (fun r I' J' R' => (MP g n L I' ∧ R' = R ∧ fz 49 g [0] I I' ∧ fz 49 g [] J J' ∧ fs g [3, 4, 5, 6, 7, 8, 9] I I' ∧ (((I' (ad g 0) 4).toInt ≤ (I' (ad g 0) 2).toInt ∧ (I' (ad g 0) 3).toInt ≤ (I' (ad g 0) 4).toInt ∧ ((I' (ad g 0) 5).toInt = 0 ∨ (I' (ad g 0) 3).toInt < (I' (ad g 0) 4).toInt)) ∧ (I (ad g 0) 3).toInt ≤ (I' (ad g 0) 3).toInt) ∧ I' (ad g 0) 15 = I (ad g 0) 15 ∧ I' (ad g 0) 16 = I (ad g 0) 16 ∧ I' (ad g 0) 17 = I (ad g 0) 17 ∧ I' (ad g 0) 18 = I (ad g 0) 18) ∧ ∃ v : Int32, r = some (.int v) ∧ 0 ≤ v.toInt ∧ v.toInt ≤ 1 ∧ (v.toInt = 1 → 0 ≤ (I' (ad g 0) 7).toInt ∧ (I' (ad g 0) 7).toInt ≤ 2 ∧ (I' (ad g 0) 7).toInt < ma.toInt)) := by
  refine SP_of ⟨by decide, rfl⟩ (Nat.le_of_ble_eq_true rfl) ?_
  have e8287 : I (ad g 0) 1 = L := hI.1.2
  have b8288 := BT_get hI.1.1 0 1 2 (0) (0) (900) (by decide) 1 (by decide) (by decide)
  rw [e8287] at b8288
  have fr0 : fz 49 g [0] I I := fz_rf
  have frj0 : fz 49 g [] J J := fz_rf
  have frq0 : fs g [3, 4, 5, 6, 7, 8, 9] I I := fs_rf
  obtain ⟨w8289, ew8289⟩ : ∃ w : Int32, I (ad g 0) 15 = w := ⟨_, rfl⟩
  have bw8289 := BT_get hI.1.1 0 15 16 (0) (0) (4) (by decide) 15 (by decide) (by decide)
  rw [ew8289] at bw8289
  obtain ⟨w8290, ew8290⟩ : ∃ w : Int32, I (ad g 0) 16 = w := ⟨_, rfl⟩
  have bw8290 := BT_get hI.1.1 0 16 17 (0) (0) (3) (by decide) 16 (by decide) (by decide)
  rw [ew8290] at bw8290
  obtain ⟨w8291, ew8291⟩ : ∃ w : Int32, I (ad g 0) 17 = w := ⟨_, rfl⟩
  have bw8291 := BT_get hI.1.1 0 17 18 (-1) (0) (3) (by decide) 17 (by decide) (by decide)
  rw [ew8291] at bw8291
  obtain ⟨w8292, ew8292⟩ : ∃ w : Int32, I (ad g 0) 18 = w := ⟨_, rfl⟩
  have bw8292 := BT_get hI.1.1 0 18 19 (-1) (0) (2) (by decide) 18 (by decide) (by decide)
  rw [ew8292] at bw8292
  obtain ⟨w8293, ew8293⟩ : ∃ w : Int32, I (ad g 0) 2 = w := ⟨_, rfl⟩
  have bw8293 := BT_get hI.1.1 0 2 3 (0) (0) (900) (by decide) 2 (by decide) (by decide)
  rw [ew8293] at bw8293
  obtain ⟨w8294, ew8294⟩ : ∃ w : Int32, I (ad g 0) 3 = w := ⟨_, rfl⟩
  have bw8294 := BT_get hI.1.1 0 3 4 (0) (0) (900) (by decide) 3 (by decide) (by decide)
  rw [ew8294] at bw8294
  obtain ⟨w8295, ew8295⟩ : ∃ w : Int32, I (ad g 0) 4 = w := ⟨_, rfl⟩
  have bw8295 := BT_get hI.1.1 0 4 5 (0) (0) (900) (by decide) 4 (by decide) (by decide)
  rw [ew8295] at bw8295
  obtain ⟨w8296, ew8296⟩ : ∃ w : Int32, I (ad g 0) 5 = w := ⟨_, rfl⟩
  have bw8296 := BT_get hI.1.1 0 5 6 (0) (0) (4) (by decide) 5 (by decide) (by decide)
  rw [ew8296] at bw8296
  rw [ew8293, ew8294, ew8295, ew8296] at hb
  refine WP_aload_n dX11_known_0 rfl ?_
  refine WQ_getim dX11_known_1 fX11_27 rfl (ly_is hy 0 11 rfl) ew8296 ?_
  refine WQ_iconst (1) (1) dX11_known_4 rfl rfl (fun v8297 hv8297 => ?_)
  refine WQ_icmp_eq 14 dX11_known_5 rfl (fun c8297 => ?_) (fun c8297 => ?_)
  · refine WP_aload_n dX11_known_14 rfl ?_
    refine WP_aload_n dX11_known_15 rfl ?_
    refine WP_aload_n dX11_known_16 rfl ?_
    refine WP_iload_n dX11_known_17 rfl ?_
    refine WP_callV2 (k := 11) dX11_known_18 ⟨⟨⟨by decide, by decide⟩, zX11_find⟩, lX11_71, by decide, rfl, vX11_find.1, vX11_find.2⟩ (ly_is hy 0 11 rfl) (sm_find_5 hy hr hI ma (by omega) (by omega)) (Nat.le_of_ble_eq_true rfl) ?_
    intro r Ia Ja Ra hq
    obtain ⟨⟨ea, eb, ec⟩, v8299, rfl, av8299, bv8299, cv8299⟩ := hq
    show WP _ _ _ _ (.int _ :: _) _ _ _ _
    rw [ea, eb, ec]
    clear ea eb ec Ia Ja Ra
    refine WQ_puti dX11_known_21 fX11_56 rfl rfl (ly_is hy 0 11 rfl) (fun I8300 eI8300 => ?_)
    have hI8300 : MP g n L I8300 := by rw [eI8300]; exact (mp_w hy hI (c := 0) (mi_f hy hI.1 (c := 0) (-1) (0) (1000) (by decide) (Or.inr (by decide)) (by decide) (by omega) (by omega)) (by decide) (by decide) (Or.inr (by decide)))
    have e8301 : I8300 (ad g 0) 1 = L := by rw [eI8300, pp_ne _ _ (Or.inr (by decide))]; exact e8287
    have e8302 : I8300 (ad g 0) 15 = w8289 := by rw [eI8300, pp_ne _ _ (Or.inr (by decide))]; exact ew8289
    have e8303 : I8300 (ad g 0) 16 = w8290 := by rw [eI8300, pp_ne _ _ (Or.inr (by decide))]; exact ew8290
    have e8304 : I8300 (ad g 0) 17 = w8291 := by rw [eI8300, pp_ne _ _ (Or.inr (by decide))]; exact ew8291
    have e8305 : I8300 (ad g 0) 18 = w8292 := by rw [eI8300, pp_ne _ _ (Or.inr (by decide))]; exact ew8292
    have e8306 : I8300 (ad g 0) 2 = w8293 := by rw [eI8300, pp_ne _ _ (Or.inr (by decide))]; exact ew8293
    have e8307 : I8300 (ad g 0) 3 = w8294 := by rw [eI8300, pp_ne _ _ (Or.inr (by decide))]; exact ew8294
    have e8308 : I8300 (ad g 0) 4 = w8295 := by rw [eI8300, pp_ne _ _ (Or.inr (by decide))]; exact ew8295
    have e8309 : I8300 (ad g 0) 5 = w8296 := by rw [eI8300, pp_ne _ _ (Or.inr (by decide))]; exact ew8296
    have e8310 : I8300 (ad g 0) 7 = v8299 := by rw [eI8300, pp_self]
    have fr8311 : fs g [3, 4, 5, 6, 7, 8, 9] I I8300 := by rw [eI8300]; exact fs_pp0 frq0 (by decide)
    have fr8312 : fz 49 g [0] I I8300 := by rw [eI8300]; exact fzm_pp hy fr0 (by decide) (by decide)
    clear eI8300
    refine WP_aload_n dX11_known_24 rfl ?_
    refine WQ_getim dX11_known_25 fX11_56 rfl (ly_is hy 0 11 rfl) e8310 ?_
    refine WQ_iconst (-1) (-1) dX11_known_28 rfl rfl (fun v8313 hv8313 => ?_)
    refine WQ_icmp_ne 38 dX11_known_29 rfl (fun c8313 => ?_) (fun c8313 => ?_)
    · refine WP_aload_n dX11_known_38 rfl ?_
      refine WP_callV0 (k := 11) dX11_known_39 ⟨⟨⟨by decide, by decide⟩, zX11_scan⟩, lX11_63, by decide, rfl, vX11_scan.1, vX11_scan.2⟩ (ly_is hy 0 11 rfl) (sm_scanx hy hr hI8300   (by rw [e8308, e8306]; omega)) (Nat.le_of_ble_eq_true rfl) ?_
      intro r I8315 J8316 Ra hq
      obtain ⟨⟨hI8315, ec, fiI8315, fjI8315, fqI8315, ⟨pI8315, sI8315_0_7, sI8315_0_15, sI8315_0_16, sI8315_0_17, sI8315_0_18⟩⟩, rfl⟩ := hq
      rw [ec]
      clear ec Ra
      have fr8317 : fz 49 g [0] I I8315 := fz_tr fr8312 (fz_mono fiI8315 (by decide))
      have fr8318 : fs g [3, 4, 5, 6, 7, 8, 9] I I8315 := fs_tr fr8311 (fs_mono fqI8315 (by decide))
      have fr8319 : fz 49 g [] J J8316 := fz_tr frj0 (fz_mono fjI8315 (by decide))
      have e8320 : I8315 (ad g 0) 7 = v8299 := by rw [sI8315_0_7]; exact e8310
      have e8321 : I8315 (ad g 0) 15 = w8289 := by rw [sI8315_0_15]; exact e8302
      have e8322 : I8315 (ad g 0) 16 = w8290 := by rw [sI8315_0_16]; exact e8303
      have e8323 : I8315 (ad g 0) 17 = w8291 := by rw [sI8315_0_17]; exact e8304
      have e8324 : I8315 (ad g 0) 18 = w8292 := by rw [sI8315_0_18]; exact e8305
      have e8325 : I8315 (ad g 0) 1 = L := hI8315.1.2
      have b8326 := BT_get hI8315.1.1 0 1 2 (0) (0) (900) (by decide) 1 (by decide) (by decide)
      rw [e8325] at b8326
      obtain ⟨w8327, ew8327⟩ : ∃ w : Int32, I8315 (ad g 0) 2 = w := ⟨_, rfl⟩
      have bw8327 := BT_get hI8315.1.1 0 2 3 (0) (0) (900) (by decide) 2 (by decide) (by decide)
      rw [ew8327] at bw8327
      obtain ⟨w8328, ew8328⟩ : ∃ w : Int32, I8315 (ad g 0) 3 = w := ⟨_, rfl⟩
      have bw8328 := BT_get hI8315.1.1 0 3 4 (0) (0) (900) (by decide) 3 (by decide) (by decide)
      rw [ew8328] at bw8328
      obtain ⟨w8329, ew8329⟩ : ∃ w : Int32, I8315 (ad g 0) 4 = w := ⟨_, rfl⟩
      have bw8329 := BT_get hI8315.1.1 0 4 5 (0) (0) (900) (by decide) 4 (by decide) (by decide)
      rw [ew8329] at bw8329
      obtain ⟨w8330, ew8330⟩ : ∃ w : Int32, I8315 (ad g 0) 5 = w := ⟨_, rfl⟩
      have bw8330 := BT_get hI8315.1.1 0 5 6 (0) (0) (4) (by decide) 5 (by decide) (by decide)
      rw [ew8330] at bw8330
      rw [ew8327, ew8328, ew8329, ew8330, e8308] at pI8315
      refine WQ_iconst (1) (1) dX11_known_42 rfl rfl (fun v8331 hv8331 => ?_)
      exact WP_zret dX11_known_43 rfl (nar_z (by omega)) ⟨⟨hI8315, rfl, fr8317, fr8319, fr8318, ⟨(by rw [ew8327, ew8328, ew8329, ew8330, ew8294]; omega), (by rw [e8321, ew8289] <;> exact (eq32 _ _).mpr (by omega)), (by rw [e8322, ew8290] <;> exact (eq32 _ _).mpr (by omega)), (by rw [e8323, ew8291] <;> exact (eq32 _ _).mpr (by omega)), (by rw [e8324, ew8292] <;> exact (eq32 _ _).mpr (by omega))⟩⟩, _, rfl, by omega, by omega, by (try rw [e8320]); omega⟩
    · refine WP_aload_n dX11_known_32 rfl ?_
      refine WQ_iconst (5) (5) dX11_known_33 rfl rfl (fun v8332 hv8332 => ?_)
      refine WP_callV1 (k := 11) dX11_known_34 ⟨⟨⟨by decide, by decide⟩, zX11_bad⟩, lX11_49, by decide, rfl, vX11_bad.1, vX11_bad.2⟩ (ly_is hy 0 11 rfl) (sm_badx hy hr hI8300 v8332  (by rw [e8306, e8307, e8308, e8309]; omega)) (Nat.le_of_ble_eq_true rfl) ?_
      intro r I8333 J8334 Ra hq
      obtain ⟨⟨hI8333, ec, fiI8333, fjI8333, fqI8333, ⟨pI8333, sI8333_0_15, sI8333_0_16, sI8333_0_17, sI8333_0_18⟩⟩, v8335, rfl, av8335, bv8335⟩ := hq
      show WP _ _ _ _ (.int _ :: _) _ _ _ _
      rw [ec]
      clear ec Ra
      have fr8336 : fz 49 g [0] I I8333 := fz_tr fr8312 (fz_mono fiI8333 (by decide))
      have fr8337 : fs g [3, 4, 5, 6, 7, 8, 9] I I8333 := fs_tr fr8311 (fs_mono fqI8333 (by decide))
      have fr8338 : fz 49 g [] J J8334 := fz_tr frj0 (fz_mono fjI8333 (by decide))
      have e8339 : I8333 (ad g 0) 15 = w8289 := by rw [sI8333_0_15]; exact e8302
      have e8340 : I8333 (ad g 0) 16 = w8290 := by rw [sI8333_0_16]; exact e8303
      have e8341 : I8333 (ad g 0) 17 = w8291 := by rw [sI8333_0_17]; exact e8304
      have e8342 : I8333 (ad g 0) 18 = w8292 := by rw [sI8333_0_18]; exact e8305
      have e8343 : I8333 (ad g 0) 1 = L := hI8333.1.2
      have b8344 := BT_get hI8333.1.1 0 1 2 (0) (0) (900) (by decide) 1 (by decide) (by decide)
      rw [e8343] at b8344
      obtain ⟨w8345, ew8345⟩ : ∃ w : Int32, I8333 (ad g 0) 2 = w := ⟨_, rfl⟩
      have bw8345 := BT_get hI8333.1.1 0 2 3 (0) (0) (900) (by decide) 2 (by decide) (by decide)
      rw [ew8345] at bw8345
      obtain ⟨w8346, ew8346⟩ : ∃ w : Int32, I8333 (ad g 0) 3 = w := ⟨_, rfl⟩
      have bw8346 := BT_get hI8333.1.1 0 3 4 (0) (0) (900) (by decide) 3 (by decide) (by decide)
      rw [ew8346] at bw8346
      obtain ⟨w8347, ew8347⟩ : ∃ w : Int32, I8333 (ad g 0) 4 = w := ⟨_, rfl⟩
      have bw8347 := BT_get hI8333.1.1 0 4 5 (0) (0) (900) (by decide) 4 (by decide) (by decide)
      rw [ew8347] at bw8347
      obtain ⟨w8348, ew8348⟩ : ∃ w : Int32, I8333 (ad g 0) 5 = w := ⟨_, rfl⟩
      have bw8348 := BT_get hI8333.1.1 0 5 6 (0) (0) (4) (by decide) 5 (by decide) (by decide)
      rw [ew8348] at bw8348
      rw [ew8345, ew8346, ew8347, ew8348, e8307] at pI8333
      obtain ⟨w8349, ew8349⟩ : ∃ w : Int32, I8333 (ad g 0) 7 = w := ⟨_, rfl⟩
      have bw8349 := BT_get hI8333.1.1 0 7 8 (-1) (0) (1000) (by decide) 7 (by decide) (by decide)
      rw [ew8349] at bw8349
      exact WP_zret dX11_known_37 rfl (nar_z (by omega)) ⟨⟨hI8333, rfl, fr8336, fr8338, fr8337, ⟨(by rw [ew8345, ew8346, ew8347, ew8348, ew8294]; omega), (by rw [e8339, ew8289] <;> exact (eq32 _ _).mpr (by omega)), (by rw [e8340, ew8290] <;> exact (eq32 _ _).mpr (by omega)), (by rw [e8341, ew8291] <;> exact (eq32 _ _).mpr (by omega)), (by rw [e8342, ew8292] <;> exact (eq32 _ _).mpr (by omega))⟩⟩, _, rfl, by omega, by omega, by (try rw [ew8349]); omega⟩
  · refine WP_aload_n dX11_known_8 rfl ?_
    refine WQ_iconst (1) (1) dX11_known_9 rfl rfl (fun v8350 hv8350 => ?_)
    refine WP_callV1 (k := 11) dX11_known_10 ⟨⟨⟨by decide, by decide⟩, zX11_bad⟩, lX11_49, by decide, rfl, vX11_bad.1, vX11_bad.2⟩ (ly_is hy 0 11 rfl) (sm_badx hy hr hI v8350  (by rw [ew8293, ew8294, ew8295, ew8296]; omega)) (Nat.le_of_ble_eq_true rfl) ?_
    intro r I8351 J8352 Ra hq
    obtain ⟨⟨hI8351, ec, fiI8351, fjI8351, fqI8351, ⟨pI8351, sI8351_0_15, sI8351_0_16, sI8351_0_17, sI8351_0_18⟩⟩, v8353, rfl, av8353, bv8353⟩ := hq
    show WP _ _ _ _ (.int _ :: _) _ _ _ _
    rw [ec]
    clear ec Ra
    have fr8354 : fz 49 g [0] I I8351 := fz_tr fr0 (fz_mono fiI8351 (by decide))
    have fr8355 : fs g [3, 4, 5, 6, 7, 8, 9] I I8351 := fs_tr frq0 (fs_mono fqI8351 (by decide))
    have fr8356 : fz 49 g [] J J8352 := fz_tr frj0 (fz_mono fjI8351 (by decide))
    have e8357 : I8351 (ad g 0) 15 = w8289 := by rw [sI8351_0_15]; exact ew8289
    have e8358 : I8351 (ad g 0) 16 = w8290 := by rw [sI8351_0_16]; exact ew8290
    have e8359 : I8351 (ad g 0) 17 = w8291 := by rw [sI8351_0_17]; exact ew8291
    have e8360 : I8351 (ad g 0) 18 = w8292 := by rw [sI8351_0_18]; exact ew8292
    have e8361 : I8351 (ad g 0) 1 = L := hI8351.1.2
    have b8362 := BT_get hI8351.1.1 0 1 2 (0) (0) (900) (by decide) 1 (by decide) (by decide)
    rw [e8361] at b8362
    obtain ⟨w8363, ew8363⟩ : ∃ w : Int32, I8351 (ad g 0) 2 = w := ⟨_, rfl⟩
    have bw8363 := BT_get hI8351.1.1 0 2 3 (0) (0) (900) (by decide) 2 (by decide) (by decide)
    rw [ew8363] at bw8363
    obtain ⟨w8364, ew8364⟩ : ∃ w : Int32, I8351 (ad g 0) 3 = w := ⟨_, rfl⟩
    have bw8364 := BT_get hI8351.1.1 0 3 4 (0) (0) (900) (by decide) 3 (by decide) (by decide)
    rw [ew8364] at bw8364
    obtain ⟨w8365, ew8365⟩ : ∃ w : Int32, I8351 (ad g 0) 4 = w := ⟨_, rfl⟩
    have bw8365 := BT_get hI8351.1.1 0 4 5 (0) (0) (900) (by decide) 4 (by decide) (by decide)
    rw [ew8365] at bw8365
    obtain ⟨w8366, ew8366⟩ : ∃ w : Int32, I8351 (ad g 0) 5 = w := ⟨_, rfl⟩
    have bw8366 := BT_get hI8351.1.1 0 5 6 (0) (0) (4) (by decide) 5 (by decide) (by decide)
    rw [ew8366] at bw8366
    rw [ew8363, ew8364, ew8365, ew8366, ew8294] at pI8351
    obtain ⟨w8367, ew8367⟩ : ∃ w : Int32, I8351 (ad g 0) 7 = w := ⟨_, rfl⟩
    have bw8367 := BT_get hI8351.1.1 0 7 8 (-1) (0) (1000) (by decide) 7 (by decide) (by decide)
    rw [ew8367] at bw8367
    exact WP_zret dX11_known_13 rfl (nar_z (by omega)) ⟨⟨hI8351, rfl, fr8354, fr8356, fr8355, ⟨(by rw [ew8363, ew8364, ew8365, ew8366, ew8294]; omega), (by rw [e8357, ew8289] <;> exact (eq32 _ _).mpr (by omega)), (by rw [e8358, ew8290] <;> exact (eq32 _ _).mpr (by omega)), (by rw [e8359, ew8291] <;> exact (eq32 _ _).mpr (by omega)), (by rw [e8360, ew8292] <;> exact (eq32 _ _).mpr (by omega))⟩⟩, _, rfl, by omega, by omega, by (try rw [ew8367]); omega⟩
set_option maxHeartbeats 4000000 in
set_option maxRecDepth 100000 in
theorem sm_freshx_4 {g : GG} {n : Int} {L : Int32} (hy : Ly g)  {I : pI} {J : pJ} {R : pR} (hr : Rf g R) (hI : MP g n L I) (ma : Int32) (ma_lo : 0 ≤ ma.toInt) (ma_hi : ma.toInt ≤ 3) (hb : ((I (ad g 0) 4).toInt ≤ (I (ad g 0) 2).toInt ∧ (I (ad g 0) 3).toInt ≤ (I (ad g 0) 4).toInt ∧ ((I (ad g 0) 5).toInt = 0 ∨ (I (ad g 0) 3).toInt < (I (ad g 0) 4).toInt))) : SP g mX11_fresh [.ref (ad g 0), .ref (ad g 4), .int ma] I J R (fun r I' J' R' => (MP g n L I' ∧ R' = R ∧ fz 49 g [0] I I' ∧ fz 49 g [4] J J' ∧ fs g [3, 4, 5, 6, 8, 9] I I' ∧ (((I' (ad g 0) 4).toInt ≤ (I' (ad g 0) 2).toInt ∧ (I' (ad g 0) 3).toInt ≤ (I' (ad g 0) 4).toInt ∧ ((I' (ad g 0) 5).toInt = 0 ∨ (I' (ad g 0) 3).toInt < (I' (ad g 0) 4).toInt)) ∧ (I (ad g 0) 3).toInt ≤ (I' (ad g 0) 3).toInt) ∧ I' (ad g 0) 15 = I (ad g 0) 15 ∧ I' (ad g 0) 16 = I (ad g 0) 16 ∧ I' (ad g 0) 17 = I (ad g 0) 17 ∧ I' (ad g 0) 18 = I (ad g 0) 18) ∧ ∃ v : Int32, r = some (.int v) ∧ 0 ≤ v.toInt ∧ v.toInt ≤ 1) := by
  refine SP_of ⟨by decide, rfl⟩ (Nat.le_of_ble_eq_true rfl) ?_
  have e8368 : I (ad g 0) 1 = L := hI.1.2
  have b8369 := BT_get hI.1.1 0 1 2 (0) (0) (900) (by decide) 1 (by decide) (by decide)
  rw [e8368] at b8369
  have fr0 : fz 49 g [0] I I := fz_rf
  have frj0 : fz 49 g [4] J J := fz_rf
  have frq0 : fs g [3, 4, 5, 6, 8, 9] I I := fs_rf
  obtain ⟨w8370, ew8370⟩ : ∃ w : Int32, I (ad g 0) 15 = w := ⟨_, rfl⟩
  have bw8370 := BT_get hI.1.1 0 15 16 (0) (0) (4) (by decide) 15 (by decide) (by decide)
  rw [ew8370] at bw8370
  obtain ⟨w8371, ew8371⟩ : ∃ w : Int32, I (ad g 0) 16 = w := ⟨_, rfl⟩
  have bw8371 := BT_get hI.1.1 0 16 17 (0) (0) (3) (by decide) 16 (by decide) (by decide)
  rw [ew8371] at bw8371
  obtain ⟨w8372, ew8372⟩ : ∃ w : Int32, I (ad g 0) 17 = w := ⟨_, rfl⟩
  have bw8372 := BT_get hI.1.1 0 17 18 (-1) (0) (3) (by decide) 17 (by decide) (by decide)
  rw [ew8372] at bw8372
  obtain ⟨w8373, ew8373⟩ : ∃ w : Int32, I (ad g 0) 18 = w := ⟨_, rfl⟩
  have bw8373 := BT_get hI.1.1 0 18 19 (-1) (0) (2) (by decide) 18 (by decide) (by decide)
  rw [ew8373] at bw8373
  obtain ⟨w8374, ew8374⟩ : ∃ w : Int32, I (ad g 0) 2 = w := ⟨_, rfl⟩
  have bw8374 := BT_get hI.1.1 0 2 3 (0) (0) (900) (by decide) 2 (by decide) (by decide)
  rw [ew8374] at bw8374
  obtain ⟨w8375, ew8375⟩ : ∃ w : Int32, I (ad g 0) 3 = w := ⟨_, rfl⟩
  have bw8375 := BT_get hI.1.1 0 3 4 (0) (0) (900) (by decide) 3 (by decide) (by decide)
  rw [ew8375] at bw8375
  obtain ⟨w8376, ew8376⟩ : ∃ w : Int32, I (ad g 0) 4 = w := ⟨_, rfl⟩
  have bw8376 := BT_get hI.1.1 0 4 5 (0) (0) (900) (by decide) 4 (by decide) (by decide)
  rw [ew8376] at bw8376
  obtain ⟨w8377, ew8377⟩ : ∃ w : Int32, I (ad g 0) 5 = w := ⟨_, rfl⟩
  have bw8377 := BT_get hI.1.1 0 5 6 (0) (0) (4) (by decide) 5 (by decide) (by decide)
  rw [ew8377] at bw8377
  rw [ew8374, ew8375, ew8376, ew8377] at hb
  refine WP_aload_n dX11_fresh_0 rfl ?_
  refine WQ_getim dX11_fresh_1 fX11_27 rfl (ly_is hy 0 11 rfl) ew8377 ?_
  refine WQ_iconst (1) (1) dX11_fresh_4 rfl rfl (fun v8378 hv8378 => ?_)
  refine WQ_icmp_eq 14 dX11_fresh_5 rfl (fun c8378 => ?_) (fun c8378 => ?_)
  · refine WP_aload_n dX11_fresh_14 rfl ?_
    refine WP_aload_n dX11_fresh_15 rfl ?_
    refine WP_iload_n dX11_fresh_16 rfl ?_
    refine WP_callV2 (k := 11) dX11_fresh_17 ⟨⟨⟨by decide, by decide⟩, zX11_find⟩, lX11_71, by decide, rfl, vX11_find.1, vX11_find.2⟩ (ly_is hy 0 11 rfl) (sm_find_4 hy hr hI ma (by omega) (by omega)) (Nat.le_of_ble_eq_true rfl) ?_
    intro r Ia Ja Ra hq
    obtain ⟨⟨ea, eb, ec⟩, v8380, rfl, av8380, bv8380, cv8380⟩ := hq
    show WP _ _ _ _ (.int _ :: _) _ _ _ _
    rw [ea, eb, ec]
    clear ea eb ec Ia Ja Ra
    refine WQ_iconst (-1) (-1) dX11_fresh_20 rfl rfl (fun v8381 hv8381 => ?_)
    refine WQ_icmp_eq 30 dX11_fresh_21 rfl (fun c8381 => ?_) (fun c8381 => ?_)
    · refine WP_aload_n dX11_fresh_30 rfl ?_
      refine WP_iload_n dX11_fresh_31 rfl ?_
      refine WP_aload_n dX11_fresh_32 rfl ?_
      refine WP_callV0 (k := 11) dX11_fresh_33 ⟨⟨⟨by decide, by decide⟩, zX11_name⟩, lX11_67, by decide, rfl, vX11_name.1, vX11_name.2⟩ (ly_is hy 0 11 rfl) (sm_name hy hr hI  ) (Nat.le_of_ble_eq_true rfl) ?_
      intro r Ia Ja Ra hq
      obtain ⟨⟨ea, eb, ec⟩, l8383, rfl⟩ := hq
      show WP _ _ _ _ (.long _ :: _) _ _ _ _
      rw [ea, eb, ec]
      clear ea eb ec Ia Ja Ra
      refine WQ_last dX11_fresh_36 (ly_is hy 4 14 rfl) (ly_n hy 4 4 rfl) (by omega) (by omega) (fun J8384 eJ8384 => ?_)
      have fr8385 : fz 49 g [4] J J8384 := by rw [eJ8384]; exact fzm_pp hy frj0 (by decide) (by decide)
      clear eJ8384
      refine WP_aload_n dX11_fresh_37 rfl ?_
      refine WP_callV0 (k := 11) dX11_fresh_38 ⟨⟨⟨by decide, by decide⟩, zX11_scan⟩, lX11_63, by decide, rfl, vX11_scan.1, vX11_scan.2⟩ (ly_is hy 0 11 rfl) (sm_scanx hy hr hI   (by rw [ew8376, ew8374]; omega)) (Nat.le_of_ble_eq_true rfl) ?_
      intro r I8386 J8387 Ra hq
      obtain ⟨⟨hI8386, ec, fiI8386, fjI8386, fqI8386, ⟨pI8386, sI8386_0_7, sI8386_0_15, sI8386_0_16, sI8386_0_17, sI8386_0_18⟩⟩, rfl⟩ := hq
      rw [ec]
      clear ec Ra
      have fr8388 : fz 49 g [0] I I8386 := fz_tr fr0 (fz_mono fiI8386 (by decide))
      have fr8389 : fs g [3, 4, 5, 6, 8, 9] I I8386 := fs_tr frq0 (fs_mono fqI8386 (by decide))
      have fr8390 : fz 49 g [4] J J8387 := fz_tr fr8385 (fz_mono fjI8386 (by decide))
      have e8391 : I8386 (ad g 0) 15 = w8370 := by rw [sI8386_0_15]; exact ew8370
      have e8392 : I8386 (ad g 0) 16 = w8371 := by rw [sI8386_0_16]; exact ew8371
      have e8393 : I8386 (ad g 0) 17 = w8372 := by rw [sI8386_0_17]; exact ew8372
      have e8394 : I8386 (ad g 0) 18 = w8373 := by rw [sI8386_0_18]; exact ew8373
      have e8395 : I8386 (ad g 0) 1 = L := hI8386.1.2
      have b8396 := BT_get hI8386.1.1 0 1 2 (0) (0) (900) (by decide) 1 (by decide) (by decide)
      rw [e8395] at b8396
      obtain ⟨w8397, ew8397⟩ : ∃ w : Int32, I8386 (ad g 0) 2 = w := ⟨_, rfl⟩
      have bw8397 := BT_get hI8386.1.1 0 2 3 (0) (0) (900) (by decide) 2 (by decide) (by decide)
      rw [ew8397] at bw8397
      obtain ⟨w8398, ew8398⟩ : ∃ w : Int32, I8386 (ad g 0) 3 = w := ⟨_, rfl⟩
      have bw8398 := BT_get hI8386.1.1 0 3 4 (0) (0) (900) (by decide) 3 (by decide) (by decide)
      rw [ew8398] at bw8398
      obtain ⟨w8399, ew8399⟩ : ∃ w : Int32, I8386 (ad g 0) 4 = w := ⟨_, rfl⟩
      have bw8399 := BT_get hI8386.1.1 0 4 5 (0) (0) (900) (by decide) 4 (by decide) (by decide)
      rw [ew8399] at bw8399
      obtain ⟨w8400, ew8400⟩ : ∃ w : Int32, I8386 (ad g 0) 5 = w := ⟨_, rfl⟩
      have bw8400 := BT_get hI8386.1.1 0 5 6 (0) (0) (4) (by decide) 5 (by decide) (by decide)
      rw [ew8400] at bw8400
      rw [ew8397, ew8398, ew8399, ew8400, ew8376] at pI8386
      refine WQ_iconst (1) (1) dX11_fresh_41 rfl rfl (fun v8401 hv8401 => ?_)
      exact WP_zret dX11_fresh_42 rfl (nar_z (by omega)) ⟨⟨hI8386, rfl, fr8388, fr8390, fr8389, ⟨(by rw [ew8397, ew8398, ew8399, ew8400, ew8375]; omega), (by rw [e8391, ew8370] <;> exact (eq32 _ _).mpr (by omega)), (by rw [e8392, ew8371] <;> exact (eq32 _ _).mpr (by omega)), (by rw [e8393, ew8372] <;> exact (eq32 _ _).mpr (by omega)), (by rw [e8394, ew8373] <;> exact (eq32 _ _).mpr (by omega))⟩⟩, _, rfl, by omega, by omega⟩
    · refine WP_aload_n dX11_fresh_24 rfl ?_
      refine WQ_iconst (3) (3) dX11_fresh_25 rfl rfl (fun v8402 hv8402 => ?_)
      refine WP_callV1 (k := 11) dX11_fresh_26 ⟨⟨⟨by decide, by decide⟩, zX11_bad⟩, lX11_49, by decide, rfl, vX11_bad.1, vX11_bad.2⟩ (ly_is hy 0 11 rfl) (sm_badx hy hr hI v8402  (by rw [ew8374, ew8375, ew8376, ew8377]; omega)) (Nat.le_of_ble_eq_true rfl) ?_
      intro r I8403 J8404 Ra hq
      obtain ⟨⟨hI8403, ec, fiI8403, fjI8403, fqI8403, ⟨pI8403, sI8403_0_15, sI8403_0_16, sI8403_0_17, sI8403_0_18⟩⟩, v8405, rfl, av8405, bv8405⟩ := hq
      show WP _ _ _ _ (.int _ :: _) _ _ _ _
      rw [ec]
      clear ec Ra
      have fr8406 : fz 49 g [0] I I8403 := fz_tr fr0 (fz_mono fiI8403 (by decide))
      have fr8407 : fs g [3, 4, 5, 6, 8, 9] I I8403 := fs_tr frq0 (fs_mono fqI8403 (by decide))
      have fr8408 : fz 49 g [4] J J8404 := fz_tr frj0 (fz_mono fjI8403 (by decide))
      have e8409 : I8403 (ad g 0) 15 = w8370 := by rw [sI8403_0_15]; exact ew8370
      have e8410 : I8403 (ad g 0) 16 = w8371 := by rw [sI8403_0_16]; exact ew8371
      have e8411 : I8403 (ad g 0) 17 = w8372 := by rw [sI8403_0_17]; exact ew8372
      have e8412 : I8403 (ad g 0) 18 = w8373 := by rw [sI8403_0_18]; exact ew8373
      have e8413 : I8403 (ad g 0) 1 = L := hI8403.1.2
      have b8414 := BT_get hI8403.1.1 0 1 2 (0) (0) (900) (by decide) 1 (by decide) (by decide)
      rw [e8413] at b8414
      obtain ⟨w8415, ew8415⟩ : ∃ w : Int32, I8403 (ad g 0) 2 = w := ⟨_, rfl⟩
      have bw8415 := BT_get hI8403.1.1 0 2 3 (0) (0) (900) (by decide) 2 (by decide) (by decide)
      rw [ew8415] at bw8415
      obtain ⟨w8416, ew8416⟩ : ∃ w : Int32, I8403 (ad g 0) 3 = w := ⟨_, rfl⟩
      have bw8416 := BT_get hI8403.1.1 0 3 4 (0) (0) (900) (by decide) 3 (by decide) (by decide)
      rw [ew8416] at bw8416
      obtain ⟨w8417, ew8417⟩ : ∃ w : Int32, I8403 (ad g 0) 4 = w := ⟨_, rfl⟩
      have bw8417 := BT_get hI8403.1.1 0 4 5 (0) (0) (900) (by decide) 4 (by decide) (by decide)
      rw [ew8417] at bw8417
      obtain ⟨w8418, ew8418⟩ : ∃ w : Int32, I8403 (ad g 0) 5 = w := ⟨_, rfl⟩
      have bw8418 := BT_get hI8403.1.1 0 5 6 (0) (0) (4) (by decide) 5 (by decide) (by decide)
      rw [ew8418] at bw8418
      rw [ew8415, ew8416, ew8417, ew8418, ew8375] at pI8403
      exact WP_zret dX11_fresh_29 rfl (nar_z (by omega)) ⟨⟨hI8403, rfl, fr8406, fr8408, fr8407, ⟨(by rw [ew8415, ew8416, ew8417, ew8418, ew8375]; omega), (by rw [e8409, ew8370] <;> exact (eq32 _ _).mpr (by omega)), (by rw [e8410, ew8371] <;> exact (eq32 _ _).mpr (by omega)), (by rw [e8411, ew8372] <;> exact (eq32 _ _).mpr (by omega)), (by rw [e8412, ew8373] <;> exact (eq32 _ _).mpr (by omega))⟩⟩, _, rfl, by omega, by omega⟩
  · refine WP_aload_n dX11_fresh_8 rfl ?_
    refine WQ_iconst (1) (1) dX11_fresh_9 rfl rfl (fun v8419 hv8419 => ?_)
    refine WP_callV1 (k := 11) dX11_fresh_10 ⟨⟨⟨by decide, by decide⟩, zX11_bad⟩, lX11_49, by decide, rfl, vX11_bad.1, vX11_bad.2⟩ (ly_is hy 0 11 rfl) (sm_badx hy hr hI v8419  (by rw [ew8374, ew8375, ew8376, ew8377]; omega)) (Nat.le_of_ble_eq_true rfl) ?_
    intro r I8420 J8421 Ra hq
    obtain ⟨⟨hI8420, ec, fiI8420, fjI8420, fqI8420, ⟨pI8420, sI8420_0_15, sI8420_0_16, sI8420_0_17, sI8420_0_18⟩⟩, v8422, rfl, av8422, bv8422⟩ := hq
    show WP _ _ _ _ (.int _ :: _) _ _ _ _
    rw [ec]
    clear ec Ra
    have fr8423 : fz 49 g [0] I I8420 := fz_tr fr0 (fz_mono fiI8420 (by decide))
    have fr8424 : fs g [3, 4, 5, 6, 8, 9] I I8420 := fs_tr frq0 (fs_mono fqI8420 (by decide))
    have fr8425 : fz 49 g [4] J J8421 := fz_tr frj0 (fz_mono fjI8420 (by decide))
    have e8426 : I8420 (ad g 0) 15 = w8370 := by rw [sI8420_0_15]; exact ew8370
    have e8427 : I8420 (ad g 0) 16 = w8371 := by rw [sI8420_0_16]; exact ew8371
    have e8428 : I8420 (ad g 0) 17 = w8372 := by rw [sI8420_0_17]; exact ew8372
    have e8429 : I8420 (ad g 0) 18 = w8373 := by rw [sI8420_0_18]; exact ew8373
    have e8430 : I8420 (ad g 0) 1 = L := hI8420.1.2
    have b8431 := BT_get hI8420.1.1 0 1 2 (0) (0) (900) (by decide) 1 (by decide) (by decide)
    rw [e8430] at b8431
    obtain ⟨w8432, ew8432⟩ : ∃ w : Int32, I8420 (ad g 0) 2 = w := ⟨_, rfl⟩
    have bw8432 := BT_get hI8420.1.1 0 2 3 (0) (0) (900) (by decide) 2 (by decide) (by decide)
    rw [ew8432] at bw8432
    obtain ⟨w8433, ew8433⟩ : ∃ w : Int32, I8420 (ad g 0) 3 = w := ⟨_, rfl⟩
    have bw8433 := BT_get hI8420.1.1 0 3 4 (0) (0) (900) (by decide) 3 (by decide) (by decide)
    rw [ew8433] at bw8433
    obtain ⟨w8434, ew8434⟩ : ∃ w : Int32, I8420 (ad g 0) 4 = w := ⟨_, rfl⟩
    have bw8434 := BT_get hI8420.1.1 0 4 5 (0) (0) (900) (by decide) 4 (by decide) (by decide)
    rw [ew8434] at bw8434
    obtain ⟨w8435, ew8435⟩ : ∃ w : Int32, I8420 (ad g 0) 5 = w := ⟨_, rfl⟩
    have bw8435 := BT_get hI8420.1.1 0 5 6 (0) (0) (4) (by decide) 5 (by decide) (by decide)
    rw [ew8435] at bw8435
    rw [ew8432, ew8433, ew8434, ew8435, ew8375] at pI8420
    exact WP_zret dX11_fresh_13 rfl (nar_z (by omega)) ⟨⟨hI8420, rfl, fr8423, fr8425, fr8424, ⟨(by rw [ew8432, ew8433, ew8434, ew8435, ew8375]; omega), (by rw [e8426, ew8370] <;> exact (eq32 _ _).mpr (by omega)), (by rw [e8427, ew8371] <;> exact (eq32 _ _).mpr (by omega)), (by rw [e8428, ew8372] <;> exact (eq32 _ _).mpr (by omega)), (by rw [e8429, ew8373] <;> exact (eq32 _ _).mpr (by omega))⟩⟩, _, rfl, by omega, by omega⟩
set_option maxHeartbeats 4000000 in
set_option maxRecDepth 100000 in
theorem sm_freshx_5 {g : GG} {n : Int} {L : Int32} (hy : Ly g)  {I : pI} {J : pJ} {R : pR} (hr : Rf g R) (hI : MP g n L I) (ma : Int32) (ma_lo : 0 ≤ ma.toInt) (ma_hi : ma.toInt ≤ 2) (hb : ((I (ad g 0) 4).toInt ≤ (I (ad g 0) 2).toInt ∧ (I (ad g 0) 3).toInt ≤ (I (ad g 0) 4).toInt ∧ ((I (ad g 0) 5).toInt = 0 ∨ (I (ad g 0) 3).toInt < (I (ad g 0) 4).toInt))) : SP g mX11_fresh [.ref (ad g 0), .ref (ad g 5), .int ma] I J R (fun r I' J' R' => (MP g n L I' ∧ R' = R ∧ fz 49 g [0] I I' ∧ fz 49 g [5] J J' ∧ fs g [3, 4, 5, 6, 8, 9] I I' ∧ (((I' (ad g 0) 4).toInt ≤ (I' (ad g 0) 2).toInt ∧ (I' (ad g 0) 3).toInt ≤ (I' (ad g 0) 4).toInt ∧ ((I' (ad g 0) 5).toInt = 0 ∨ (I' (ad g 0) 3).toInt < (I' (ad g 0) 4).toInt)) ∧ (I (ad g 0) 3).toInt ≤ (I' (ad g 0) 3).toInt) ∧ I' (ad g 0) 15 = I (ad g 0) 15 ∧ I' (ad g 0) 16 = I (ad g 0) 16 ∧ I' (ad g 0) 17 = I (ad g 0) 17 ∧ I' (ad g 0) 18 = I (ad g 0) 18) ∧ ∃ v : Int32, r = some (.int v) ∧ 0 ≤ v.toInt ∧ v.toInt ≤ 1) := by
  refine SP_of ⟨by decide, rfl⟩ (Nat.le_of_ble_eq_true rfl) ?_
  have e8436 : I (ad g 0) 1 = L := hI.1.2
  have b8437 := BT_get hI.1.1 0 1 2 (0) (0) (900) (by decide) 1 (by decide) (by decide)
  rw [e8436] at b8437
  have fr0 : fz 49 g [0] I I := fz_rf
  have frj0 : fz 49 g [5] J J := fz_rf
  have frq0 : fs g [3, 4, 5, 6, 8, 9] I I := fs_rf
  obtain ⟨w8438, ew8438⟩ : ∃ w : Int32, I (ad g 0) 15 = w := ⟨_, rfl⟩
  have bw8438 := BT_get hI.1.1 0 15 16 (0) (0) (4) (by decide) 15 (by decide) (by decide)
  rw [ew8438] at bw8438
  obtain ⟨w8439, ew8439⟩ : ∃ w : Int32, I (ad g 0) 16 = w := ⟨_, rfl⟩
  have bw8439 := BT_get hI.1.1 0 16 17 (0) (0) (3) (by decide) 16 (by decide) (by decide)
  rw [ew8439] at bw8439
  obtain ⟨w8440, ew8440⟩ : ∃ w : Int32, I (ad g 0) 17 = w := ⟨_, rfl⟩
  have bw8440 := BT_get hI.1.1 0 17 18 (-1) (0) (3) (by decide) 17 (by decide) (by decide)
  rw [ew8440] at bw8440
  obtain ⟨w8441, ew8441⟩ : ∃ w : Int32, I (ad g 0) 18 = w := ⟨_, rfl⟩
  have bw8441 := BT_get hI.1.1 0 18 19 (-1) (0) (2) (by decide) 18 (by decide) (by decide)
  rw [ew8441] at bw8441
  obtain ⟨w8442, ew8442⟩ : ∃ w : Int32, I (ad g 0) 2 = w := ⟨_, rfl⟩
  have bw8442 := BT_get hI.1.1 0 2 3 (0) (0) (900) (by decide) 2 (by decide) (by decide)
  rw [ew8442] at bw8442
  obtain ⟨w8443, ew8443⟩ : ∃ w : Int32, I (ad g 0) 3 = w := ⟨_, rfl⟩
  have bw8443 := BT_get hI.1.1 0 3 4 (0) (0) (900) (by decide) 3 (by decide) (by decide)
  rw [ew8443] at bw8443
  obtain ⟨w8444, ew8444⟩ : ∃ w : Int32, I (ad g 0) 4 = w := ⟨_, rfl⟩
  have bw8444 := BT_get hI.1.1 0 4 5 (0) (0) (900) (by decide) 4 (by decide) (by decide)
  rw [ew8444] at bw8444
  obtain ⟨w8445, ew8445⟩ : ∃ w : Int32, I (ad g 0) 5 = w := ⟨_, rfl⟩
  have bw8445 := BT_get hI.1.1 0 5 6 (0) (0) (4) (by decide) 5 (by decide) (by decide)
  rw [ew8445] at bw8445
  rw [ew8442, ew8443, ew8444, ew8445] at hb
  refine WP_aload_n dX11_fresh_0 rfl ?_
  refine WQ_getim dX11_fresh_1 fX11_27 rfl (ly_is hy 0 11 rfl) ew8445 ?_
  refine WQ_iconst (1) (1) dX11_fresh_4 rfl rfl (fun v8446 hv8446 => ?_)
  refine WQ_icmp_eq 14 dX11_fresh_5 rfl (fun c8446 => ?_) (fun c8446 => ?_)
  · refine WP_aload_n dX11_fresh_14 rfl ?_
    refine WP_aload_n dX11_fresh_15 rfl ?_
    refine WP_iload_n dX11_fresh_16 rfl ?_
    refine WP_callV2 (k := 11) dX11_fresh_17 ⟨⟨⟨by decide, by decide⟩, zX11_find⟩, lX11_71, by decide, rfl, vX11_find.1, vX11_find.2⟩ (ly_is hy 0 11 rfl) (sm_find_5 hy hr hI ma (by omega) (by omega)) (Nat.le_of_ble_eq_true rfl) ?_
    intro r Ia Ja Ra hq
    obtain ⟨⟨ea, eb, ec⟩, v8448, rfl, av8448, bv8448, cv8448⟩ := hq
    show WP _ _ _ _ (.int _ :: _) _ _ _ _
    rw [ea, eb, ec]
    clear ea eb ec Ia Ja Ra
    refine WQ_iconst (-1) (-1) dX11_fresh_20 rfl rfl (fun v8449 hv8449 => ?_)
    refine WQ_icmp_eq 30 dX11_fresh_21 rfl (fun c8449 => ?_) (fun c8449 => ?_)
    · refine WP_aload_n dX11_fresh_30 rfl ?_
      refine WP_iload_n dX11_fresh_31 rfl ?_
      refine WP_aload_n dX11_fresh_32 rfl ?_
      refine WP_callV0 (k := 11) dX11_fresh_33 ⟨⟨⟨by decide, by decide⟩, zX11_name⟩, lX11_67, by decide, rfl, vX11_name.1, vX11_name.2⟩ (ly_is hy 0 11 rfl) (sm_name hy hr hI  ) (Nat.le_of_ble_eq_true rfl) ?_
      intro r Ia Ja Ra hq
      obtain ⟨⟨ea, eb, ec⟩, l8451, rfl⟩ := hq
      show WP _ _ _ _ (.long _ :: _) _ _ _ _
      rw [ea, eb, ec]
      clear ea eb ec Ia Ja Ra
      refine WQ_last dX11_fresh_36 (ly_is hy 5 14 rfl) (ly_n hy 5 3 rfl) (by omega) (by omega) (fun J8452 eJ8452 => ?_)
      have fr8453 : fz 49 g [5] J J8452 := by rw [eJ8452]; exact fzm_pp hy frj0 (by decide) (by decide)
      clear eJ8452
      refine WP_aload_n dX11_fresh_37 rfl ?_
      refine WP_callV0 (k := 11) dX11_fresh_38 ⟨⟨⟨by decide, by decide⟩, zX11_scan⟩, lX11_63, by decide, rfl, vX11_scan.1, vX11_scan.2⟩ (ly_is hy 0 11 rfl) (sm_scanx hy hr hI   (by rw [ew8444, ew8442]; omega)) (Nat.le_of_ble_eq_true rfl) ?_
      intro r I8454 J8455 Ra hq
      obtain ⟨⟨hI8454, ec, fiI8454, fjI8454, fqI8454, ⟨pI8454, sI8454_0_7, sI8454_0_15, sI8454_0_16, sI8454_0_17, sI8454_0_18⟩⟩, rfl⟩ := hq
      rw [ec]
      clear ec Ra
      have fr8456 : fz 49 g [0] I I8454 := fz_tr fr0 (fz_mono fiI8454 (by decide))
      have fr8457 : fs g [3, 4, 5, 6, 8, 9] I I8454 := fs_tr frq0 (fs_mono fqI8454 (by decide))
      have fr8458 : fz 49 g [5] J J8455 := fz_tr fr8453 (fz_mono fjI8454 (by decide))
      have e8459 : I8454 (ad g 0) 15 = w8438 := by rw [sI8454_0_15]; exact ew8438
      have e8460 : I8454 (ad g 0) 16 = w8439 := by rw [sI8454_0_16]; exact ew8439
      have e8461 : I8454 (ad g 0) 17 = w8440 := by rw [sI8454_0_17]; exact ew8440
      have e8462 : I8454 (ad g 0) 18 = w8441 := by rw [sI8454_0_18]; exact ew8441
      have e8463 : I8454 (ad g 0) 1 = L := hI8454.1.2
      have b8464 := BT_get hI8454.1.1 0 1 2 (0) (0) (900) (by decide) 1 (by decide) (by decide)
      rw [e8463] at b8464
      obtain ⟨w8465, ew8465⟩ : ∃ w : Int32, I8454 (ad g 0) 2 = w := ⟨_, rfl⟩
      have bw8465 := BT_get hI8454.1.1 0 2 3 (0) (0) (900) (by decide) 2 (by decide) (by decide)
      rw [ew8465] at bw8465
      obtain ⟨w8466, ew8466⟩ : ∃ w : Int32, I8454 (ad g 0) 3 = w := ⟨_, rfl⟩
      have bw8466 := BT_get hI8454.1.1 0 3 4 (0) (0) (900) (by decide) 3 (by decide) (by decide)
      rw [ew8466] at bw8466
      obtain ⟨w8467, ew8467⟩ : ∃ w : Int32, I8454 (ad g 0) 4 = w := ⟨_, rfl⟩
      have bw8467 := BT_get hI8454.1.1 0 4 5 (0) (0) (900) (by decide) 4 (by decide) (by decide)
      rw [ew8467] at bw8467
      obtain ⟨w8468, ew8468⟩ : ∃ w : Int32, I8454 (ad g 0) 5 = w := ⟨_, rfl⟩
      have bw8468 := BT_get hI8454.1.1 0 5 6 (0) (0) (4) (by decide) 5 (by decide) (by decide)
      rw [ew8468] at bw8468
      rw [ew8465, ew8466, ew8467, ew8468, ew8444] at pI8454
      refine WQ_iconst (1) (1) dX11_fresh_41 rfl rfl (fun v8469 hv8469 => ?_)
      exact WP_zret dX11_fresh_42 rfl (nar_z (by omega)) ⟨⟨hI8454, rfl, fr8456, fr8458, fr8457, ⟨(by rw [ew8465, ew8466, ew8467, ew8468, ew8443]; omega), (by rw [e8459, ew8438] <;> exact (eq32 _ _).mpr (by omega)), (by rw [e8460, ew8439] <;> exact (eq32 _ _).mpr (by omega)), (by rw [e8461, ew8440] <;> exact (eq32 _ _).mpr (by omega)), (by rw [e8462, ew8441] <;> exact (eq32 _ _).mpr (by omega))⟩⟩, _, rfl, by omega, by omega⟩
    · refine WP_aload_n dX11_fresh_24 rfl ?_
      refine WQ_iconst (3) (3) dX11_fresh_25 rfl rfl (fun v8470 hv8470 => ?_)
      refine WP_callV1 (k := 11) dX11_fresh_26 ⟨⟨⟨by decide, by decide⟩, zX11_bad⟩, lX11_49, by decide, rfl, vX11_bad.1, vX11_bad.2⟩ (ly_is hy 0 11 rfl) (sm_badx hy hr hI v8470  (by rw [ew8442, ew8443, ew8444, ew8445]; omega)) (Nat.le_of_ble_eq_true rfl) ?_
      intro r I8471 J8472 Ra hq
      obtain ⟨⟨hI8471, ec, fiI8471, fjI8471, fqI8471, ⟨pI8471, sI8471_0_15, sI8471_0_16, sI8471_0_17, sI8471_0_18⟩⟩, v8473, rfl, av8473, bv8473⟩ := hq
      show WP _ _ _ _ (.int _ :: _) _ _ _ _
      rw [ec]
      clear ec Ra
      have fr8474 : fz 49 g [0] I I8471 := fz_tr fr0 (fz_mono fiI8471 (by decide))
      have fr8475 : fs g [3, 4, 5, 6, 8, 9] I I8471 := fs_tr frq0 (fs_mono fqI8471 (by decide))
      have fr8476 : fz 49 g [5] J J8472 := fz_tr frj0 (fz_mono fjI8471 (by decide))
      have e8477 : I8471 (ad g 0) 15 = w8438 := by rw [sI8471_0_15]; exact ew8438
      have e8478 : I8471 (ad g 0) 16 = w8439 := by rw [sI8471_0_16]; exact ew8439
      have e8479 : I8471 (ad g 0) 17 = w8440 := by rw [sI8471_0_17]; exact ew8440
      have e8480 : I8471 (ad g 0) 18 = w8441 := by rw [sI8471_0_18]; exact ew8441
      have e8481 : I8471 (ad g 0) 1 = L := hI8471.1.2
      have b8482 := BT_get hI8471.1.1 0 1 2 (0) (0) (900) (by decide) 1 (by decide) (by decide)
      rw [e8481] at b8482
      obtain ⟨w8483, ew8483⟩ : ∃ w : Int32, I8471 (ad g 0) 2 = w := ⟨_, rfl⟩
      have bw8483 := BT_get hI8471.1.1 0 2 3 (0) (0) (900) (by decide) 2 (by decide) (by decide)
      rw [ew8483] at bw8483
      obtain ⟨w8484, ew8484⟩ : ∃ w : Int32, I8471 (ad g 0) 3 = w := ⟨_, rfl⟩
      have bw8484 := BT_get hI8471.1.1 0 3 4 (0) (0) (900) (by decide) 3 (by decide) (by decide)
      rw [ew8484] at bw8484
      obtain ⟨w8485, ew8485⟩ : ∃ w : Int32, I8471 (ad g 0) 4 = w := ⟨_, rfl⟩
      have bw8485 := BT_get hI8471.1.1 0 4 5 (0) (0) (900) (by decide) 4 (by decide) (by decide)
      rw [ew8485] at bw8485
      obtain ⟨w8486, ew8486⟩ : ∃ w : Int32, I8471 (ad g 0) 5 = w := ⟨_, rfl⟩
      have bw8486 := BT_get hI8471.1.1 0 5 6 (0) (0) (4) (by decide) 5 (by decide) (by decide)
      rw [ew8486] at bw8486
      rw [ew8483, ew8484, ew8485, ew8486, ew8443] at pI8471
      exact WP_zret dX11_fresh_29 rfl (nar_z (by omega)) ⟨⟨hI8471, rfl, fr8474, fr8476, fr8475, ⟨(by rw [ew8483, ew8484, ew8485, ew8486, ew8443]; omega), (by rw [e8477, ew8438] <;> exact (eq32 _ _).mpr (by omega)), (by rw [e8478, ew8439] <;> exact (eq32 _ _).mpr (by omega)), (by rw [e8479, ew8440] <;> exact (eq32 _ _).mpr (by omega)), (by rw [e8480, ew8441] <;> exact (eq32 _ _).mpr (by omega))⟩⟩, _, rfl, by omega, by omega⟩
  · refine WP_aload_n dX11_fresh_8 rfl ?_
    refine WQ_iconst (1) (1) dX11_fresh_9 rfl rfl (fun v8487 hv8487 => ?_)
    refine WP_callV1 (k := 11) dX11_fresh_10 ⟨⟨⟨by decide, by decide⟩, zX11_bad⟩, lX11_49, by decide, rfl, vX11_bad.1, vX11_bad.2⟩ (ly_is hy 0 11 rfl) (sm_badx hy hr hI v8487  (by rw [ew8442, ew8443, ew8444, ew8445]; omega)) (Nat.le_of_ble_eq_true rfl) ?_
    intro r I8488 J8489 Ra hq
    obtain ⟨⟨hI8488, ec, fiI8488, fjI8488, fqI8488, ⟨pI8488, sI8488_0_15, sI8488_0_16, sI8488_0_17, sI8488_0_18⟩⟩, v8490, rfl, av8490, bv8490⟩ := hq
    show WP _ _ _ _ (.int _ :: _) _ _ _ _
    rw [ec]
    clear ec Ra
    have fr8491 : fz 49 g [0] I I8488 := fz_tr fr0 (fz_mono fiI8488 (by decide))
    have fr8492 : fs g [3, 4, 5, 6, 8, 9] I I8488 := fs_tr frq0 (fs_mono fqI8488 (by decide))
    have fr8493 : fz 49 g [5] J J8489 := fz_tr frj0 (fz_mono fjI8488 (by decide))
    have e8494 : I8488 (ad g 0) 15 = w8438 := by rw [sI8488_0_15]; exact ew8438
    have e8495 : I8488 (ad g 0) 16 = w8439 := by rw [sI8488_0_16]; exact ew8439
    have e8496 : I8488 (ad g 0) 17 = w8440 := by rw [sI8488_0_17]; exact ew8440
    have e8497 : I8488 (ad g 0) 18 = w8441 := by rw [sI8488_0_18]; exact ew8441
    have e8498 : I8488 (ad g 0) 1 = L := hI8488.1.2
    have b8499 := BT_get hI8488.1.1 0 1 2 (0) (0) (900) (by decide) 1 (by decide) (by decide)
    rw [e8498] at b8499
    obtain ⟨w8500, ew8500⟩ : ∃ w : Int32, I8488 (ad g 0) 2 = w := ⟨_, rfl⟩
    have bw8500 := BT_get hI8488.1.1 0 2 3 (0) (0) (900) (by decide) 2 (by decide) (by decide)
    rw [ew8500] at bw8500
    obtain ⟨w8501, ew8501⟩ : ∃ w : Int32, I8488 (ad g 0) 3 = w := ⟨_, rfl⟩
    have bw8501 := BT_get hI8488.1.1 0 3 4 (0) (0) (900) (by decide) 3 (by decide) (by decide)
    rw [ew8501] at bw8501
    obtain ⟨w8502, ew8502⟩ : ∃ w : Int32, I8488 (ad g 0) 4 = w := ⟨_, rfl⟩
    have bw8502 := BT_get hI8488.1.1 0 4 5 (0) (0) (900) (by decide) 4 (by decide) (by decide)
    rw [ew8502] at bw8502
    obtain ⟨w8503, ew8503⟩ : ∃ w : Int32, I8488 (ad g 0) 5 = w := ⟨_, rfl⟩
    have bw8503 := BT_get hI8488.1.1 0 5 6 (0) (0) (4) (by decide) 5 (by decide) (by decide)
    rw [ew8503] at bw8503
    rw [ew8500, ew8501, ew8502, ew8503, ew8443] at pI8488
    exact WP_zret dX11_fresh_13 rfl (nar_z (by omega)) ⟨⟨hI8488, rfl, fr8491, fr8493, fr8492, ⟨(by rw [ew8500, ew8501, ew8502, ew8503, ew8443]; omega), (by rw [e8494, ew8438] <;> exact (eq32 _ _).mpr (by omega)), (by rw [e8495, ew8439] <;> exact (eq32 _ _).mpr (by omega)), (by rw [e8496, ew8440] <;> exact (eq32 _ _).mpr (by omega)), (by rw [e8497, ew8441] <;> exact (eq32 _ _).mpr (by omega))⟩⟩, _, rfl, by omega, by omega⟩
