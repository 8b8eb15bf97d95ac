set_option maxHeartbeats 4000000 in
set_option maxRecDepth 100000 in
theorem sm_best {g : GG} {n : Int} {L : Int32} (hy : Ly g)  {I : pI} {J : pJ} {R : pR} (hr : Rf g R) (hI : MP g n L I) (a : Int32) (b : Int32) (c : Int32) (e : Int32) (k : Int32)  : SP g mX11_best [.ref (ad g 0), .int a, .int b, .int c, .int e, .int k] I J R (fun r I' J' R' => (MP g n L I' ∧ R' = R) ∧ ∃ v : Int32, r = some (.int v)) := by
  refine SP_of ⟨by decide, rfl⟩ (Nat.le_of_ble_eq_true rfl) ?_
  have e4387 : I (ad g 0) 1 = L := hI.1.2
  have b4388 := BT_get hI.1.1 0 1 2 (0) (0) (900) (by decide) 1 (by decide) (by decide)
  rw [e4387] at b4388
  refine WP_aload_n dX11_best_0 rfl ?_
  refine WP_iload_n dX11_best_1 rfl ?_
  refine WP_iload_n dX11_best_2 rfl ?_
  refine WP_iload_n dX11_best_3 rfl ?_
  refine WP_iload dX11_best_4 rfl ?_
  refine WP_iload dX11_best_6 rfl ?_
  refine WP_callV5 (k := 11) dX11_best_8 ⟨⟨⟨by decide, by decide⟩, zX11_isBest⟩, lX11_435, by decide, rfl, vX11_isBest.1, vX11_isBest.2⟩ (ly_is hy 0 11 rfl) (sm_isBest hy hr hI a b c e k     ) (Nat.le_of_ble_eq_true rfl) ?_
  intro r Ia Ja Ra hq
  obtain ⟨⟨ea, eb, ec⟩, v4389, rfl, av4389, bv4389, cv4389⟩ := hq
  show WP _ _ _ _ (.int _ :: _) _ _ _ _
  rw [ea, eb, ec]
  clear ea eb ec Ia Ja Ra
  obtain ⟨w4390, ew4390⟩ : ∃ w : Int32, I (ad g 0) 10 = w := ⟨_, rfl⟩
  have bw4390 := BT_get hI.1.1 0 10 11 (0) (0) (4) (by decide) 10 (by decide) (by decide)
  rw [ew4390] at bw4390
  rw [ew4390] at cv4389
  refine WQ_if_ne 17 dX11_best_11 rfl (fun c4390 => ?_) (fun c4390 => ?_)
  · refine WP_iload dX11_best_17 rfl ?_
    refine WQ_if_ne 24 dX11_best_19 rfl (fun c4391 => ?_) (fun c4391 => ?_)
    · refine WP_aload_n dX11_best_24 rfl ?_
      refine WP_iload_n dX11_best_25 rfl ?_
      refine WP_iload_n dX11_best_26 rfl ?_
      refine WP_iload dX11_best_27 rfl ?_
      refine WP_callV3 (k := 11) dX11_best_29 ⟨⟨⟨by decide, by decide⟩, zX11_findBest⟩, lX11_438, by decide, rfl, vX11_findBest.1, vX11_findBest.2⟩ (ly_is hy 0 11 rfl) (sm_findBest hy hr hI a b k (by omega) (by omega) (by omega) (by omega) (by omega) (by omega)) (Nat.le_of_ble_eq_true rfl) ?_
      intro r I4393 J4394 Ra hq
      obtain ⟨⟨hI4393, ec, fiI4393, ejI4393, ⟨pI4393, sI4393_0_10, sI4393_0_14, sI4393_0_68⟩⟩, rfl⟩ := hq
      rw [ec]
      clear ec Ra
      rw [ejI4393]
      clear ejI4393 J4394
      have e4395 : I4393 (ad g 0) 10 = w4390 := by rw [sI4393_0_10]; exact ew4390
      have e4396 : I4393 (ad g 0) 1 = L := hI4393.1.2
      have b4397 := BT_get hI4393.1.1 0 1 2 (0) (0) (900) (by decide) 1 (by decide) (by decide)
      rw [e4396] at b4397
      refine WP_aload_n dX11_best_32 rfl ?_
      refine WP_iload_n dX11_best_33 rfl ?_
      refine WP_iload_n dX11_best_34 rfl ?_
      refine WP_aload_n dX11_best_35 rfl ?_
      refine WP_iload_n dX11_best_36 rfl ?_
      refine WP_iload_n dX11_best_37 rfl ?_
      refine WP_iload_n dX11_best_38 rfl ?_
      refine WP_callV3 (k := 11) dX11_best_39 ⟨⟨⟨by decide, by decide⟩, zX11_earned⟩, lX11_426, by decide, rfl, vX11_earned.1, vX11_earned.2⟩ (ly_is hy 0 11 rfl) (sm_earned hy hr hI4393 a b c (by omega) (by omega) (by omega) (by omega) (by omega) (by omega)) (Nat.le_of_ble_eq_true rfl) ?_
      intro r Ia Ja Ra hq
      obtain ⟨⟨ea, eb, ec⟩, v4398, rfl, av4398, bv4398⟩ := hq
      show WP _ _ _ _ (.int _ :: _) _ _ _ _
      rw [ea, eb, ec]
      clear ea eb ec Ia Ja Ra
      refine WP_iload dX11_best_42 rfl ?_
      refine WP_iload dX11_best_44 rfl ?_
      refine WP_callV5 (k := 11) dX11_best_46 ⟨⟨⟨by decide, by decide⟩, zX11_bestFrom⟩, lX11_429, by decide, rfl, vX11_bestFrom.1, vX11_bestFrom.2⟩ (ly_is hy 0 11 rfl) (sm_bestFrom hy hr hI4393 a b v4398 e k (by omega) (by omega) (by omega) (by omega) (by omega) (by omega) (by omega) (by omega) (by omega) (by omega)) (Nat.le_of_ble_eq_true rfl) ?_
      intro r I4399 J4400 Ra hq
      obtain ⟨⟨hI4399, ec, fiI4399, ejI4399, ⟨pI4399, sI4399_0_10, sI4399_0_14, sI4399_0_68⟩⟩, v4401, rfl, av4401, bv4401, cv4401⟩ := hq
      show WP _ _ _ _ (.int _ :: _) _ _ _ _
      rw [ec]
      clear ec Ra
      rw [ejI4399]
      clear ejI4399 J4400
      have e4402 : I4399 (ad g 0) 10 = w4390 := by rw [sI4399_0_10]; exact e4395
      have e4403 : I4399 (ad g 0) 1 = L := hI4399.1.2
      have b4404 := BT_get hI4399.1.1 0 1 2 (0) (0) (900) (by decide) 1 (by decide) (by decide)
      rw [e4403] at b4404
      exact WP_iret dX11_best_49 rfl ⟨⟨hI4399, rfl⟩, _, rfl⟩
    · refine WQ_iconst (0) (0) dX11_best_22 rfl rfl (fun v4405 hv4405 => ?_)
      exact WP_iret dX11_best_23 rfl ⟨⟨hI, rfl⟩, _, rfl⟩
  · refine WQ_bipush (-2) (-2) dX11_best_14 rfl rfl (fun v4406 hv4406 => ?_)
    exact WP_iret dX11_best_16 rfl ⟨⟨hI, rfl⟩, _, rfl⟩
set_option maxHeartbeats 4000000 in
set_option maxRecDepth 100000 in
theorem sm_bestAct {g : GG} {n : Int} {L : Int32} (hy : Ly g)  {I : pI} {J : pJ} {R : pR} (hr : Rf g R) (hI : MP g n L I) (a : Int32) (b : Int32) (c : Int32) (e : Int32) (k : Int32)  : SP g mX11_bestAct [.ref (ad g 0), .int a, .int b, .int c, .int e, .int k] I J R (fun r I' J' R' => (MP g n L I' ∧ R' = R) ∧ ∃ v : Int32, r = some (.int v)) := by
  refine SP_of ⟨by decide, rfl⟩ (Nat.le_of_ble_eq_true rfl) ?_
  have e4407 : I (ad g 0) 1 = L := hI.1.2
  have b4408 := BT_get hI.1.1 0 1 2 (0) (0) (900) (by decide) 1 (by decide) (by decide)
  rw [e4407] at b4408
  refine WP_aload_n dX11_bestAct_0 rfl ?_
  refine WP_iload_n dX11_bestAct_1 rfl ?_
  refine WP_iload_n dX11_bestAct_2 rfl ?_
  refine WP_iload_n dX11_bestAct_3 rfl ?_
  refine WP_iload dX11_bestAct_4 rfl ?_
  refine WP_iload dX11_bestAct_6 rfl ?_
  refine WP_callV5 (k := 11) dX11_bestAct_8 ⟨⟨⟨by decide, by decide⟩, zX11_isBest⟩, lX11_435, by decide, rfl, vX11_isBest.1, vX11_isBest.2⟩ (ly_is hy 0 11 rfl) (sm_isBest hy hr hI a b c e k     ) (Nat.le_of_ble_eq_true rfl) ?_
  intro r Ia Ja Ra hq
  obtain ⟨⟨ea, eb, ec⟩, v4409, rfl, av4409, bv4409, cv4409⟩ := hq
  show WP _ _ _ _ (.int _ :: _) _ _ _ _
  rw [ea, eb, ec]
  clear ea eb ec Ia Ja Ra
  obtain ⟨w4410, ew4410⟩ : ∃ w : Int32, I (ad g 0) 10 = w := ⟨_, rfl⟩
  have bw4410 := BT_get hI.1.1 0 10 11 (0) (0) (4) (by decide) 10 (by decide) (by decide)
  rw [ew4410] at bw4410
  rw [ew4410] at cv4409
  refine WQ_if_ne 17 dX11_bestAct_11 rfl (fun c4410 => ?_) (fun c4410 => ?_)
  · refine WP_iload dX11_bestAct_17 rfl ?_
    refine WQ_if_ne 24 dX11_bestAct_19 rfl (fun c4411 => ?_) (fun c4411 => ?_)
    · refine WP_aload_n dX11_bestAct_24 rfl ?_
      refine WP_iload_n dX11_bestAct_25 rfl ?_
      refine WP_iload_n dX11_bestAct_26 rfl ?_
      refine WP_iload dX11_bestAct_27 rfl ?_
      refine WP_callV3 (k := 11) dX11_bestAct_29 ⟨⟨⟨by decide, by decide⟩, zX11_findBest⟩, lX11_438, by decide, rfl, vX11_findBest.1, vX11_findBest.2⟩ (ly_is hy 0 11 rfl) (sm_findBest hy hr hI a b k (by omega) (by omega) (by omega) (by omega) (by omega) (by omega)) (Nat.le_of_ble_eq_true rfl) ?_
      intro r I4413 J4414 Ra hq
      obtain ⟨⟨hI4413, ec, fiI4413, ejI4413, ⟨pI4413, sI4413_0_10, sI4413_0_14, sI4413_0_68⟩⟩, rfl⟩ := hq
      rw [ec]
      clear ec Ra
      rw [ejI4413]
      clear ejI4413 J4414
      have e4415 : I4413 (ad g 0) 10 = w4410 := by rw [sI4413_0_10]; exact ew4410
      have e4416 : I4413 (ad g 0) 1 = L := hI4413.1.2
      have b4417 := BT_get hI4413.1.1 0 1 2 (0) (0) (900) (by decide) 1 (by decide) (by decide)
      rw [e4416] at b4417
      refine WP_aload_n dX11_bestAct_32 rfl ?_
      refine WP_iload_n dX11_bestAct_33 rfl ?_
      refine WP_iload_n dX11_bestAct_34 rfl ?_
      refine WP_aload_n dX11_bestAct_35 rfl ?_
      refine WP_iload_n dX11_bestAct_36 rfl ?_
      refine WP_iload_n dX11_bestAct_37 rfl ?_
      refine WP_iload_n dX11_bestAct_38 rfl ?_
      refine WP_callV3 (k := 11) dX11_bestAct_39 ⟨⟨⟨by decide, by decide⟩, zX11_earned⟩, lX11_426, by decide, rfl, vX11_earned.1, vX11_earned.2⟩ (ly_is hy 0 11 rfl) (sm_earned hy hr hI4413 a b c (by omega) (by omega) (by omega) (by omega) (by omega) (by omega)) (Nat.le_of_ble_eq_true rfl) ?_
      intro r Ia Ja Ra hq
      obtain ⟨⟨ea, eb, ec⟩, v4418, rfl, av4418, bv4418⟩ := hq
      show WP _ _ _ _ (.int _ :: _) _ _ _ _
      rw [ea, eb, ec]
      clear ea eb ec Ia Ja Ra
      refine WP_iload dX11_bestAct_42 rfl ?_
      refine WP_iload dX11_bestAct_44 rfl ?_
      refine WP_callV5 (k := 11) dX11_bestAct_46 ⟨⟨⟨by decide, by decide⟩, zX11_bestFrom⟩, lX11_429, by decide, rfl, vX11_bestFrom.1, vX11_bestFrom.2⟩ (ly_is hy 0 11 rfl) (sm_bestFrom hy hr hI4413 a b v4418 e k (by omega) (by omega) (by omega) (by omega) (by omega) (by omega) (by omega) (by omega) (by omega) (by omega)) (Nat.le_of_ble_eq_true rfl) ?_
      intro r I4419 J4420 Ra hq
      obtain ⟨⟨hI4419, ec, fiI4419, ejI4419, ⟨pI4419, sI4419_0_10, sI4419_0_14, sI4419_0_68⟩⟩, v4421, rfl, av4421, bv4421, cv4421⟩ := hq
      show WP _ _ _ _ (.int _ :: _) _ _ _ _
      rw [ec]
      clear ec Ra
      rw [ejI4419]
      clear ejI4419 J4420
      have e4422 : I4419 (ad g 0) 10 = w4410 := by rw [sI4419_0_10]; exact e4415
      have e4423 : I4419 (ad g 0) 1 = L := hI4419.1.2
      have b4424 := BT_get hI4419.1.1 0 1 2 (0) (0) (900) (by decide) 1 (by decide) (by decide)
      rw [e4423] at b4424
      refine WP_pop dX11_bestAct_49 rfl ?_
      refine WP_aload_n dX11_bestAct_50 rfl ?_
      refine WQ_geti dX11_bestAct_51 fX11_423 rfl (ly_is hy 0 11 rfl) (BT_get hI4419.1.1 0 56 57 (0) (0) (47) (by decide) 56 (by decide) (by decide)) (fun v4425 ev4425 av4425 bv4425 => ?_)
      exact WP_iret dX11_bestAct_54 rfl ⟨⟨hI4419, rfl⟩, _, rfl⟩
    · refine WQ_iconst (-1) (-1) dX11_bestAct_22 rfl rfl (fun v4426 hv4426 => ?_)
      exact WP_iret dX11_bestAct_23 rfl ⟨⟨hI, rfl⟩, _, rfl⟩
  · refine WQ_bipush (-2) (-2) dX11_bestAct_14 rfl rfl (fun v4427 hv4427 => ?_)
    exact WP_iret dX11_bestAct_16 rfl ⟨⟨hI, rfl⟩, _, rfl⟩
set_option maxHeartbeats 4000000 in
set_option maxRecDepth 100000 in
theorem sm_wayAct {g : GG} {n : Int} {L : Int32} (hy : Ly g)  {I : pI} {J : pJ} {R : pR} (hr : Rf g R) (hI : MP g n L I) (a : Int32) (b : Int32) (c : Int32) (e : Int32) (k : Int32)  : SP g mX11_wayAct [.ref (ad g 0), .int a, .int b, .int c, .int e, .int k] I J R (fun r I' J' R' => (MP g n L I' ∧ R' = R) ∧ ∃ v : Int32, r = some (.int v)) := by
  refine SP_of ⟨by decide, rfl⟩ (Nat.le_of_ble_eq_true rfl) ?_
  have e4428 : I (ad g 0) 1 = L := hI.1.2
  have b4429 := BT_get hI.1.1 0 1 2 (0) (0) (900) (by decide) 1 (by decide) (by decide)
  rw [e4428] at b4429
  refine WP_iload_n dX11_wayAct_0 rfl ?_
  refine WP_callS1 dX11_wayAct_1 ⟨⟨⟨by decide, by decide⟩, zX11_isWay⟩, lX11_454, tX11_isWay⟩ (sm_isWay hy hr hI a ) (Nat.le_of_ble_eq_true rfl) ?_
  intro r Ia Ja Ra hq
  obtain ⟨⟨ea, eb, ec⟩, v4430, rfl, av4430, bv4430, cv4430⟩ := hq
  show WP _ _ _ _ (.int _ :: _) _ _ _ _
  rw [ea, eb, ec]
  clear ea eb ec Ia Ja Ra
  refine WQ_if_eq 52 dX11_wayAct_4 rfl (fun c4430 => ?_) (fun c4430 => ?_)
  · refine WQ_bipush (-2) (-2) dX11_wayAct_52 rfl rfl (fun v4432 hv4432 => ?_)
    exact WP_iret dX11_wayAct_54 rfl ⟨⟨hI, rfl⟩, _, rfl⟩
  · refine WP_aload_n dX11_wayAct_7 rfl ?_
    refine WP_iload_n dX11_wayAct_8 rfl ?_
    refine WP_callV1 (k := 11) dX11_wayAct_9 ⟨⟨⟨by decide, by decide⟩, zX11_isSort⟩, lX11_367, by decide, rfl, vX11_isSort.1, vX11_isSort.2⟩ (ly_is hy 0 11 rfl) (sm_isSort hy hr hI b ) (Nat.le_of_ble_eq_true rfl) ?_
    intro r Ia Ja Ra hq
    obtain ⟨⟨ea, eb, ec⟩, v4433, rfl, av4433, bv4433, cv4433⟩ := hq
    show WP _ _ _ _ (.int _ :: _) _ _ _ _
    rw [ea, eb, ec]
    clear ea eb ec Ia Ja Ra
    obtain ⟨w4434, ew4434⟩ : ∃ w : Int32, I (ad g 0) 10 = w := ⟨_, rfl⟩
    have bw4434 := BT_get hI.1.1 0 10 11 (0) (0) (4) (by decide) 10 (by decide) (by decide)
    rw [ew4434] at bw4434
    rw [ew4434] at cv4433
    refine WQ_if_eq 52 dX11_wayAct_12 rfl (fun c4434 => ?_) (fun c4434 => ?_)
    · refine WQ_bipush (-2) (-2) dX11_wayAct_52 rfl rfl (fun v4436 hv4436 => ?_)
      exact WP_iret dX11_wayAct_54 rfl ⟨⟨hI, rfl⟩, _, rfl⟩
    · refine WP_iload_n dX11_wayAct_15 rfl ?_
      refine WP_callS1 dX11_wayAct_16 ⟨⟨⟨by decide, by decide⟩, zX11_isDay⟩, lX11_370, tX11_isDay⟩ (sm_isDay hy hr hI c ) (Nat.le_of_ble_eq_true rfl) ?_
      intro r Ia Ja Ra hq
      obtain ⟨⟨ea, eb, ec⟩, v4437, rfl, av4437, bv4437, cv4437⟩ := hq
      show WP _ _ _ _ (.int _ :: _) _ _ _ _
      rw [ea, eb, ec]
      clear ea eb ec Ia Ja Ra
      refine WQ_if_eq 52 dX11_wayAct_19 rfl (fun c4437 => ?_) (fun c4437 => ?_)
      · refine WQ_bipush (-2) (-2) dX11_wayAct_52 rfl rfl (fun v4439 hv4439 => ?_)
        exact WP_iret dX11_wayAct_54 rfl ⟨⟨hI, rfl⟩, _, rfl⟩
      · refine WP_iload dX11_wayAct_22 rfl ?_
        refine WP_callS1 dX11_wayAct_24 ⟨⟨⟨by decide, by decide⟩, zX11_areCoins⟩, lX11_392, tX11_areCoins⟩ (sm_areCoins hy hr hI e ) (Nat.le_of_ble_eq_true rfl) ?_
        intro r Ia Ja Ra hq
        obtain ⟨⟨ea, eb, ec⟩, v4440, rfl, av4440, bv4440, cv4440⟩ := hq
        show WP _ _ _ _ (.int _ :: _) _ _ _ _
        rw [ea, eb, ec]
        clear ea eb ec Ia Ja Ra
        refine WQ_if_eq 52 dX11_wayAct_27 rfl (fun c4440 => ?_) (fun c4440 => ?_)
        · refine WQ_bipush (-2) (-2) dX11_wayAct_52 rfl rfl (fun v4442 hv4442 => ?_)
          exact WP_iret dX11_wayAct_54 rfl ⟨⟨hI, rfl⟩, _, rfl⟩
        · refine WP_iload dX11_wayAct_30 rfl ?_
          refine WP_callS1 dX11_wayAct_32 ⟨⟨⟨by decide, by decide⟩, zX11_isStore⟩, lX11_395, tX11_isStore⟩ (sm_isStore hy hr hI k ) (Nat.le_of_ble_eq_true rfl) ?_
          intro r Ia Ja Ra hq
          obtain ⟨⟨ea, eb, ec⟩, v4443, rfl, av4443, bv4443, cv4443⟩ := hq
          show WP _ _ _ _ (.int _ :: _) _ _ _ _
          rw [ea, eb, ec]
          clear ea eb ec Ia Ja Ra
          refine WQ_if_eq 52 dX11_wayAct_35 rfl (fun c4443 => ?_) (fun c4443 => ?_)
          · refine WQ_bipush (-2) (-2) dX11_wayAct_52 rfl rfl (fun v4445 hv4445 => ?_)
            exact WP_iret dX11_wayAct_54 rfl ⟨⟨hI, rfl⟩, _, rfl⟩
          · refine WP_aload_n dX11_wayAct_38 rfl ?_
            refine WP_iload_n dX11_wayAct_39 rfl ?_
            refine WP_iload_n dX11_wayAct_40 rfl ?_
            refine WP_iload_n dX11_wayAct_41 rfl ?_
            refine WP_iload dX11_wayAct_42 rfl ?_
            refine WP_iload dX11_wayAct_44 rfl ?_
            refine WP_callV5 (k := 11) dX11_wayAct_46 ⟨⟨⟨by decide, by decide⟩, zX11_actOf⟩, lX11_457, by decide, rfl, vX11_actOf.1, vX11_actOf.2⟩ (ly_is hy 0 11 rfl) (sm_actOf hy hr hI a b c e k  (by omega) (by omega) (by omega) (by omega) (by omega) (by omega) (by omega) (by omega)) (Nat.le_of_ble_eq_true rfl) ?_
            intro r I4446 J4447 Ra hq
            obtain ⟨⟨hI4446, ec, fiI4446, ejI4446, ⟨pI4446, sI4446_0_10, sI4446_0_14, sI4446_0_68⟩⟩, v4448, rfl, av4448, bv4448, cv4448⟩ := hq
            show WP _ _ _ _ (.int _ :: _) _ _ _ _
            rw [ec]
            clear ec Ra
            rw [ejI4446]
            clear ejI4446 J4447
            have e4449 : I4446 (ad g 0) 10 = w4434 := by rw [sI4446_0_10]; exact ew4434
            have e4450 : I4446 (ad g 0) 1 = L := hI4446.1.2
            have b4451 := BT_get hI4446.1.1 0 1 2 (0) (0) (900) (by decide) 1 (by decide) (by decide)
            rw [e4450] at b4451
            refine WP_goto 54 dX11_wayAct_49 rfl ?_
            exact WP_iret dX11_wayAct_54 rfl ⟨⟨hI4446, rfl⟩, _, rfl⟩
