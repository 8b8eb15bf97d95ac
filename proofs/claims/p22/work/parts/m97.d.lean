set_option maxHeartbeats 4000000 in
set_option maxRecDepth 100000 in
theorem sm_best {g : GG} {n : Int} {L : Int32} (hy : Ly g)  {I : pI} {J : pJ} {R : pR} (hr : Rf g R) (hI : MP g n L I) (a : Int32) (b : Int32) (c : Int32) (e : Int32) (k : Int32)  : SP g mX11_best [.ref (ad g 0), .int a, .int b, .int c, .int e, .int k] I J R (fun r I' J' R' => (MP g n L I' ∧ R' = R ∧ fz 49 g [0, 35] I I' ∧ fz 49 g [] J J' ∧ fs g [56] I I') ∧ ∃ v : Int32, r = some (.int v)) := by
  refine SP_of ⟨by decide, rfl⟩ (Nat.le_of_ble_eq_true rfl) ?_
  have e4929 : I (ad g 0) 1 = L := hI.1.2
  have b4930 := BT_get hI.1.1 0 1 2 (0) (0) (900) (by decide) 1 (by decide) (by decide)
  rw [e4929] at b4930
  have fr0 : fz 49 g [0, 35] I I := fz_rf
  have frj0 : fz 49 g [] J J := fz_rf
  have frq0 : fs g [56] I I := fs_rf
  refine WP_aload_n dX11_best_0 rfl ?_
  refine WP_iload_n dX11_best_1 rfl ?_
  refine WP_iload_n dX11_best_2 rfl ?_
  refine WP_iload_n dX11_best_3 rfl ?_
  refine WP_iload dX11_best_4 rfl ?_
  refine WP_iload dX11_best_6 rfl ?_
  refine WP_callV5 (k := 11) dX11_best_8 ⟨⟨⟨by decide, by decide⟩, zX11_isBest⟩, lX11_435, by decide, rfl, vX11_isBest.1, vX11_isBest.2⟩ (ly_is hy 0 11 rfl) (sm_isBest hy hr hI a b c e k     ) (Nat.le_of_ble_eq_true rfl) ?_
  intro r Ia Ja Ra hq
  obtain ⟨⟨ea, eb, ec⟩, v4931, rfl, av4931, bv4931, cv4931⟩ := hq
  show WP _ _ _ _ (.int _ :: _) _ _ _ _
  rw [ea, eb, ec]
  clear ea eb ec Ia Ja Ra
  obtain ⟨w4932, ew4932⟩ : ∃ w : Int32, I (ad g 0) 10 = w := ⟨_, rfl⟩
  have bw4932 := BT_get hI.1.1 0 10 11 (0) (0) (4) (by decide) 10 (by decide) (by decide)
  rw [ew4932] at bw4932
  rw [ew4932] at cv4931
  refine WQ_if_ne 17 dX11_best_11 rfl (fun c4932 => ?_) (fun c4932 => ?_)
  · refine WP_iload dX11_best_17 rfl ?_
    refine WQ_if_ne 24 dX11_best_19 rfl (fun c4933 => ?_) (fun c4933 => ?_)
    · refine WP_aload_n dX11_best_24 rfl ?_
      refine WP_iload_n dX11_best_25 rfl ?_
      refine WP_iload_n dX11_best_26 rfl ?_
      refine WP_iload dX11_best_27 rfl ?_
      refine WP_callV3 (k := 11) dX11_best_29 ⟨⟨⟨by decide, by decide⟩, zX11_findBest⟩, lX11_438, by decide, rfl, vX11_findBest.1, vX11_findBest.2⟩ (ly_is hy 0 11 rfl) (sm_findBest hy hr hI a b k (by omega) (by omega) (by omega) (by omega) (by omega) (by omega)) (Nat.le_of_ble_eq_true rfl) ?_
      intro r I4935 J4936 Ra hq
      obtain ⟨⟨hI4935, ec, fiI4935, ejI4935, fqI4935, ⟨pI4935, sI4935_0_10, sI4935_0_14, sI4935_0_68⟩⟩, rfl⟩ := hq
      rw [ec]
      clear ec Ra
      have fr4937 : fz 49 g [0, 35] I I4935 := fz_tr fr0 (fz_mono fiI4935 (by decide))
      have fr4938 : fs g [56] I I4935 := fs_tr frq0 (fs_mono fqI4935 (by decide))
      rw [ejI4935]
      clear ejI4935 J4936
      have e4939 : I4935 (ad g 0) 10 = w4932 := by rw [sI4935_0_10]; exact ew4932
      have e4940 : I4935 (ad g 0) 1 = L := hI4935.1.2
      have b4941 := BT_get hI4935.1.1 0 1 2 (0) (0) (900) (by decide) 1 (by decide) (by decide)
      rw [e4940] at b4941
      refine WP_aload_n dX11_best_32 rfl ?_
      refine WP_iload_n dX11_best_33 rfl ?_
      refine WP_iload_n dX11_best_34 rfl ?_
      refine WP_aload_n dX11_best_35 rfl ?_
      refine WP_iload_n dX11_best_36 rfl ?_
      refine WP_iload_n dX11_best_37 rfl ?_
      refine WP_iload_n dX11_best_38 rfl ?_
      refine WP_callV3 (k := 11) dX11_best_39 ⟨⟨⟨by decide, by decide⟩, zX11_earned⟩, lX11_426, by decide, rfl, vX11_earned.1, vX11_earned.2⟩ (ly_is hy 0 11 rfl) (sm_earned hy hr hI4935 a b c (by omega) (by omega) (by omega) (by omega) (by omega) (by omega)) (Nat.le_of_ble_eq_true rfl) ?_
      intro r Ia Ja Ra hq
      obtain ⟨⟨ea, eb, ec⟩, v4942, rfl, av4942, bv4942⟩ := hq
      show WP _ _ _ _ (.int _ :: _) _ _ _ _
      rw [ea, eb, ec]
      clear ea eb ec Ia Ja Ra
      refine WP_iload dX11_best_42 rfl ?_
      refine WP_iload dX11_best_44 rfl ?_
      refine WP_callV5 (k := 11) dX11_best_46 ⟨⟨⟨by decide, by decide⟩, zX11_bestFrom⟩, lX11_429, by decide, rfl, vX11_bestFrom.1, vX11_bestFrom.2⟩ (ly_is hy 0 11 rfl) (sm_bestFrom hy hr hI4935 a b v4942 e k (by omega) (by omega) (by omega) (by omega) (by omega) (by omega) (by omega) (by omega) (by omega) (by omega)) (Nat.le_of_ble_eq_true rfl) ?_
      intro r I4943 J4944 Ra hq
      obtain ⟨⟨hI4943, ec, fiI4943, ejI4943, fqI4943, ⟨pI4943, sI4943_0_10, sI4943_0_14, sI4943_0_68⟩⟩, v4945, rfl, av4945, bv4945, cv4945⟩ := hq
      show WP _ _ _ _ (.int _ :: _) _ _ _ _
      rw [ec]
      clear ec Ra
      have fr4946 : fz 49 g [0, 35] I I4943 := fz_tr fr4937 (fz_mono fiI4943 (by decide))
      have fr4947 : fs g [56] I I4943 := fs_tr fr4938 (fs_mono fqI4943 (by decide))
      rw [ejI4943]
      clear ejI4943 J4944
      have e4948 : I4943 (ad g 0) 10 = w4932 := by rw [sI4943_0_10]; exact e4939
      have e4949 : I4943 (ad g 0) 1 = L := hI4943.1.2
      have b4950 := BT_get hI4943.1.1 0 1 2 (0) (0) (900) (by decide) 1 (by decide) (by decide)
      rw [e4949] at b4950
      exact WP_iret dX11_best_49 rfl ⟨⟨hI4943, rfl, fr4946, frj0, fr4947⟩, _, rfl⟩
    · refine WQ_iconst (0) (0) dX11_best_22 rfl rfl (fun v4951 hv4951 => ?_)
      exact WP_iret dX11_best_23 rfl ⟨⟨hI, rfl, fr0, frj0, frq0⟩, _, rfl⟩
  · refine WQ_bipush (-2) (-2) dX11_best_14 rfl rfl (fun v4952 hv4952 => ?_)
    exact WP_iret dX11_best_16 rfl ⟨⟨hI, rfl, fr0, frj0, frq0⟩, _, rfl⟩
set_option maxHeartbeats 4000000 in
set_option maxRecDepth 100000 in
theorem sm_bestAct {g : GG} {n : Int} {L : Int32} (hy : Ly g)  {I : pI} {J : pJ} {R : pR} (hr : Rf g R) (hI : MP g n L I) (a : Int32) (b : Int32) (c : Int32) (e : Int32) (k : Int32)  : SP g mX11_bestAct [.ref (ad g 0), .int a, .int b, .int c, .int e, .int k] I J R (fun r I' J' R' => (MP g n L I' ∧ R' = R ∧ fz 49 g [0, 35] I I' ∧ fz 49 g [] J J' ∧ fs g [56] I I') ∧ ∃ v : Int32, r = some (.int v)) := by
  refine SP_of ⟨by decide, rfl⟩ (Nat.le_of_ble_eq_true rfl) ?_
  have e4953 : I (ad g 0) 1 = L := hI.1.2
  have b4954 := BT_get hI.1.1 0 1 2 (0) (0) (900) (by decide) 1 (by decide) (by decide)
  rw [e4953] at b4954
  have fr0 : fz 49 g [0, 35] I I := fz_rf
  have frj0 : fz 49 g [] J J := fz_rf
  have frq0 : fs g [56] I I := fs_rf
  refine WP_aload_n dX11_bestAct_0 rfl ?_
  refine WP_iload_n dX11_bestAct_1 rfl ?_
  refine WP_iload_n dX11_bestAct_2 rfl ?_
  refine WP_iload_n dX11_bestAct_3 rfl ?_
  refine WP_iload dX11_bestAct_4 rfl ?_
  refine WP_iload dX11_bestAct_6 rfl ?_
  refine WP_callV5 (k := 11) dX11_bestAct_8 ⟨⟨⟨by decide, by decide⟩, zX11_isBest⟩, lX11_435, by decide, rfl, vX11_isBest.1, vX11_isBest.2⟩ (ly_is hy 0 11 rfl) (sm_isBest hy hr hI a b c e k     ) (Nat.le_of_ble_eq_true rfl) ?_
  intro r Ia Ja Ra hq
  obtain ⟨⟨ea, eb, ec⟩, v4955, rfl, av4955, bv4955, cv4955⟩ := hq
  show WP _ _ _ _ (.int _ :: _) _ _ _ _
  rw [ea, eb, ec]
  clear ea eb ec Ia Ja Ra
  obtain ⟨w4956, ew4956⟩ : ∃ w : Int32, I (ad g 0) 10 = w := ⟨_, rfl⟩
  have bw4956 := BT_get hI.1.1 0 10 11 (0) (0) (4) (by decide) 10 (by decide) (by decide)
  rw [ew4956] at bw4956
  rw [ew4956] at cv4955
  refine WQ_if_ne 17 dX11_bestAct_11 rfl (fun c4956 => ?_) (fun c4956 => ?_)
  · refine WP_iload dX11_bestAct_17 rfl ?_
    refine WQ_if_ne 24 dX11_bestAct_19 rfl (fun c4957 => ?_) (fun c4957 => ?_)
    · refine WP_aload_n dX11_bestAct_24 rfl ?_
      refine WP_iload_n dX11_bestAct_25 rfl ?_
      refine WP_iload_n dX11_bestAct_26 rfl ?_
      refine WP_iload dX11_bestAct_27 rfl ?_
      refine WP_callV3 (k := 11) dX11_bestAct_29 ⟨⟨⟨by decide, by decide⟩, zX11_findBest⟩, lX11_438, by decide, rfl, vX11_findBest.1, vX11_findBest.2⟩ (ly_is hy 0 11 rfl) (sm_findBest hy hr hI a b k (by omega) (by omega) (by omega) (by omega) (by omega) (by omega)) (Nat.le_of_ble_eq_true rfl) ?_
      intro r I4959 J4960 Ra hq
      obtain ⟨⟨hI4959, ec, fiI4959, ejI4959, fqI4959, ⟨pI4959, sI4959_0_10, sI4959_0_14, sI4959_0_68⟩⟩, rfl⟩ := hq
      rw [ec]
      clear ec Ra
      have fr4961 : fz 49 g [0, 35] I I4959 := fz_tr fr0 (fz_mono fiI4959 (by decide))
      have fr4962 : fs g [56] I I4959 := fs_tr frq0 (fs_mono fqI4959 (by decide))
      rw [ejI4959]
      clear ejI4959 J4960
      have e4963 : I4959 (ad g 0) 10 = w4956 := by rw [sI4959_0_10]; exact ew4956
      have e4964 : I4959 (ad g 0) 1 = L := hI4959.1.2
      have b4965 := BT_get hI4959.1.1 0 1 2 (0) (0) (900) (by decide) 1 (by decide) (by decide)
      rw [e4964] at b4965
      refine WP_aload_n dX11_bestAct_32 rfl ?_
      refine WP_iload_n dX11_bestAct_33 rfl ?_
      refine WP_iload_n dX11_bestAct_34 rfl ?_
      refine WP_aload_n dX11_bestAct_35 rfl ?_
      refine WP_iload_n dX11_bestAct_36 rfl ?_
      refine WP_iload_n dX11_bestAct_37 rfl ?_
      refine WP_iload_n dX11_bestAct_38 rfl ?_
      refine WP_callV3 (k := 11) dX11_bestAct_39 ⟨⟨⟨by decide, by decide⟩, zX11_earned⟩, lX11_426, by decide, rfl, vX11_earned.1, vX11_earned.2⟩ (ly_is hy 0 11 rfl) (sm_earned hy hr hI4959 a b c (by omega) (by omega) (by omega) (by omega) (by omega) (by omega)) (Nat.le_of_ble_eq_true rfl) ?_
      intro r Ia Ja Ra hq
      obtain ⟨⟨ea, eb, ec⟩, v4966, rfl, av4966, bv4966⟩ := hq
      show WP _ _ _ _ (.int _ :: _) _ _ _ _
      rw [ea, eb, ec]
      clear ea eb ec Ia Ja Ra
      refine WP_iload dX11_bestAct_42 rfl ?_
      refine WP_iload dX11_bestAct_44 rfl ?_
      refine WP_callV5 (k := 11) dX11_bestAct_46 ⟨⟨⟨by decide, by decide⟩, zX11_bestFrom⟩, lX11_429, by decide, rfl, vX11_bestFrom.1, vX11_bestFrom.2⟩ (ly_is hy 0 11 rfl) (sm_bestFrom hy hr hI4959 a b v4966 e k (by omega) (by omega) (by omega) (by omega) (by omega) (by omega) (by omega) (by omega) (by omega) (by omega)) (Nat.le_of_ble_eq_true rfl) ?_
      intro r I4967 J4968 Ra hq
      obtain ⟨⟨hI4967, ec, fiI4967, ejI4967, fqI4967, ⟨pI4967, sI4967_0_10, sI4967_0_14, sI4967_0_68⟩⟩, v4969, rfl, av4969, bv4969, cv4969⟩ := hq
      show WP _ _ _ _ (.int _ :: _) _ _ _ _
      rw [ec]
      clear ec Ra
      have fr4970 : fz 49 g [0, 35] I I4967 := fz_tr fr4961 (fz_mono fiI4967 (by decide))
      have fr4971 : fs g [56] I I4967 := fs_tr fr4962 (fs_mono fqI4967 (by decide))
      rw [ejI4967]
      clear ejI4967 J4968
      have e4972 : I4967 (ad g 0) 10 = w4956 := by rw [sI4967_0_10]; exact e4963
      have e4973 : I4967 (ad g 0) 1 = L := hI4967.1.2
      have b4974 := BT_get hI4967.1.1 0 1 2 (0) (0) (900) (by decide) 1 (by decide) (by decide)
      rw [e4973] at b4974
      refine WP_pop dX11_bestAct_49 rfl ?_
      refine WP_aload_n dX11_bestAct_50 rfl ?_
      refine WQ_geti dX11_bestAct_51 fX11_423 rfl (ly_is hy 0 11 rfl) (BT_get hI4967.1.1 0 56 57 (0) (0) (47) (by decide) 56 (by decide) (by decide)) (fun v4975 ev4975 av4975 bv4975 => ?_)
      exact WP_iret dX11_bestAct_54 rfl ⟨⟨hI4967, rfl, fr4970, frj0, fr4971⟩, _, rfl⟩
    · refine WQ_iconst (-1) (-1) dX11_bestAct_22 rfl rfl (fun v4976 hv4976 => ?_)
      exact WP_iret dX11_bestAct_23 rfl ⟨⟨hI, rfl, fr0, frj0, frq0⟩, _, rfl⟩
  · refine WQ_bipush (-2) (-2) dX11_bestAct_14 rfl rfl (fun v4977 hv4977 => ?_)
    exact WP_iret dX11_bestAct_16 rfl ⟨⟨hI, rfl, fr0, frj0, frq0⟩, _, rfl⟩
set_option maxHeartbeats 4000000 in
set_option maxRecDepth 100000 in
theorem sm_wayAct {g : GG} {n : Int} {L : Int32} (hy : Ly g)  {I : pI} {J : pJ} {R : pR} (hr : Rf g R) (hI : MP g n L I) (a : Int32) (b : Int32) (c : Int32) (e : Int32) (k : Int32)  : SP g mX11_wayAct [.ref (ad g 0), .int a, .int b, .int c, .int e, .int k] I J R (fun r I' J' R' => (MP g n L I' ∧ R' = R ∧ fz 49 g [0, 35, 36, 37] I I' ∧ fz 49 g [] J J' ∧ fs g [56] I I') ∧ ∃ v : Int32, r = some (.int v)) := by
  refine SP_of ⟨by decide, rfl⟩ (Nat.le_of_ble_eq_true rfl) ?_
  have e4978 : I (ad g 0) 1 = L := hI.1.2
  have b4979 := BT_get hI.1.1 0 1 2 (0) (0) (900) (by decide) 1 (by decide) (by decide)
  rw [e4978] at b4979
  have fr0 : fz 49 g [0, 35, 36, 37] I I := fz_rf
  have frj0 : fz 49 g [] J J := fz_rf
  have frq0 : fs g [56] I I := fs_rf
  refine WP_iload_n dX11_wayAct_0 rfl ?_
  refine WP_callS1 dX11_wayAct_1 ⟨⟨⟨by decide, by decide⟩, zX11_isWay⟩, lX11_454, tX11_isWay⟩ (sm_isWay hy hr hI a ) (Nat.le_of_ble_eq_true rfl) ?_
  intro r Ia Ja Ra hq
  obtain ⟨⟨ea, eb, ec⟩, v4980, rfl, av4980, bv4980, cv4980⟩ := hq
  show WP _ _ _ _ (.int _ :: _) _ _ _ _
  rw [ea, eb, ec]
  clear ea eb ec Ia Ja Ra
  refine WQ_if_eq 52 dX11_wayAct_4 rfl (fun c4980 => ?_) (fun c4980 => ?_)
  · refine WQ_bipush (-2) (-2) dX11_wayAct_52 rfl rfl (fun v4982 hv4982 => ?_)
    exact WP_iret dX11_wayAct_54 rfl ⟨⟨hI, rfl, fr0, frj0, frq0⟩, _, rfl⟩
  · refine WP_aload_n dX11_wayAct_7 rfl ?_
    refine WP_iload_n dX11_wayAct_8 rfl ?_
    refine WP_callV1 (k := 11) dX11_wayAct_9 ⟨⟨⟨by decide, by decide⟩, zX11_isSort⟩, lX11_367, by decide, rfl, vX11_isSort.1, vX11_isSort.2⟩ (ly_is hy 0 11 rfl) (sm_isSort hy hr hI b ) (Nat.le_of_ble_eq_true rfl) ?_
    intro r Ia Ja Ra hq
    obtain ⟨⟨ea, eb, ec⟩, v4983, rfl, av4983, bv4983, cv4983⟩ := hq
    show WP _ _ _ _ (.int _ :: _) _ _ _ _
    rw [ea, eb, ec]
    clear ea eb ec Ia Ja Ra
    obtain ⟨w4984, ew4984⟩ : ∃ w : Int32, I (ad g 0) 10 = w := ⟨_, rfl⟩
    have bw4984 := BT_get hI.1.1 0 10 11 (0) (0) (4) (by decide) 10 (by decide) (by decide)
    rw [ew4984] at bw4984
    rw [ew4984] at cv4983
    refine WQ_if_eq 52 dX11_wayAct_12 rfl (fun c4984 => ?_) (fun c4984 => ?_)
    · refine WQ_bipush (-2) (-2) dX11_wayAct_52 rfl rfl (fun v4986 hv4986 => ?_)
      exact WP_iret dX11_wayAct_54 rfl ⟨⟨hI, rfl, fr0, frj0, frq0⟩, _, rfl⟩
    · refine WP_iload_n dX11_wayAct_15 rfl ?_
      refine WP_callS1 dX11_wayAct_16 ⟨⟨⟨by decide, by decide⟩, zX11_isDay⟩, lX11_370, tX11_isDay⟩ (sm_isDay hy hr hI c ) (Nat.le_of_ble_eq_true rfl) ?_
      intro r Ia Ja Ra hq
      obtain ⟨⟨ea, eb, ec⟩, v4987, rfl, av4987, bv4987, cv4987⟩ := hq
      show WP _ _ _ _ (.int _ :: _) _ _ _ _
      rw [ea, eb, ec]
      clear ea eb ec Ia Ja Ra
      refine WQ_if_eq 52 dX11_wayAct_19 rfl (fun c4987 => ?_) (fun c4987 => ?_)
      · refine WQ_bipush (-2) (-2) dX11_wayAct_52 rfl rfl (fun v4989 hv4989 => ?_)
        exact WP_iret dX11_wayAct_54 rfl ⟨⟨hI, rfl, fr0, frj0, frq0⟩, _, rfl⟩
      · refine WP_iload dX11_wayAct_22 rfl ?_
        refine WP_callS1 dX11_wayAct_24 ⟨⟨⟨by decide, by decide⟩, zX11_areCoins⟩, lX11_392, tX11_areCoins⟩ (sm_areCoins hy hr hI e ) (Nat.le_of_ble_eq_true rfl) ?_
        intro r Ia Ja Ra hq
        obtain ⟨⟨ea, eb, ec⟩, v4990, rfl, av4990, bv4990, cv4990⟩ := hq
        show WP _ _ _ _ (.int _ :: _) _ _ _ _
        rw [ea, eb, ec]
        clear ea eb ec Ia Ja Ra
        refine WQ_if_eq 52 dX11_wayAct_27 rfl (fun c4990 => ?_) (fun c4990 => ?_)
        · refine WQ_bipush (-2) (-2) dX11_wayAct_52 rfl rfl (fun v4992 hv4992 => ?_)
          exact WP_iret dX11_wayAct_54 rfl ⟨⟨hI, rfl, fr0, frj0, frq0⟩, _, rfl⟩
        · refine WP_iload dX11_wayAct_30 rfl ?_
          refine WP_callS1 dX11_wayAct_32 ⟨⟨⟨by decide, by decide⟩, zX11_isStore⟩, lX11_395, tX11_isStore⟩ (sm_isStore hy hr hI k ) (Nat.le_of_ble_eq_true rfl) ?_
          intro r Ia Ja Ra hq
          obtain ⟨⟨ea, eb, ec⟩, v4993, rfl, av4993, bv4993, cv4993⟩ := hq
          show WP _ _ _ _ (.int _ :: _) _ _ _ _
          rw [ea, eb, ec]
          clear ea eb ec Ia Ja Ra
          refine WQ_if_eq 52 dX11_wayAct_35 rfl (fun c4993 => ?_) (fun c4993 => ?_)
          · refine WQ_bipush (-2) (-2) dX11_wayAct_52 rfl rfl (fun v4995 hv4995 => ?_)
            exact WP_iret dX11_wayAct_54 rfl ⟨⟨hI, rfl, fr0, frj0, frq0⟩, _, rfl⟩
          · refine WP_aload_n dX11_wayAct_38 rfl ?_
            refine WP_iload_n dX11_wayAct_39 rfl ?_
            refine WP_iload_n dX11_wayAct_40 rfl ?_
            refine WP_iload_n dX11_wayAct_41 rfl ?_
            refine WP_iload dX11_wayAct_42 rfl ?_
            refine WP_iload dX11_wayAct_44 rfl ?_
            refine WP_callV5 (k := 11) dX11_wayAct_46 ⟨⟨⟨by decide, by decide⟩, zX11_actOf⟩, lX11_457, by decide, rfl, vX11_actOf.1, vX11_actOf.2⟩ (ly_is hy 0 11 rfl) (sm_actOf hy hr hI a b c e k  (by omega) (by omega) (by omega) (by omega) (by omega) (by omega) (by omega) (by omega)) (Nat.le_of_ble_eq_true rfl) ?_
            intro r I4996 J4997 Ra hq
            obtain ⟨⟨hI4996, ec, fiI4996, ejI4996, fqI4996, ⟨pI4996, sI4996_0_10, sI4996_0_14, sI4996_0_68⟩⟩, v4998, rfl, av4998, bv4998, cv4998⟩ := hq
            show WP _ _ _ _ (.int _ :: _) _ _ _ _
            rw [ec]
            clear ec Ra
            have fr4999 : fz 49 g [0, 35, 36, 37] I I4996 := fz_tr fr0 (fz_mono fiI4996 (by decide))
            have fr5000 : fs g [56] I I4996 := fs_tr frq0 (fs_mono fqI4996 (by decide))
            rw [ejI4996]
            clear ejI4996 J4997
            have e5001 : I4996 (ad g 0) 10 = w4984 := by rw [sI4996_0_10]; exact ew4984
            have e5002 : I4996 (ad g 0) 1 = L := hI4996.1.2
            have b5003 := BT_get hI4996.1.1 0 1 2 (0) (0) (900) (by decide) 1 (by decide) (by decide)
            rw [e5002] at b5003
            refine WP_goto 54 dX11_wayAct_49 rfl ?_
            exact WP_iret dX11_wayAct_54 rfl ⟨⟨hI4996, rfl, fr4999, frj0, fr5000⟩, _, rfl⟩
