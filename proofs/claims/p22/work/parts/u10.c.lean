set_option maxHeartbeats 4000000 in
set_option maxRecDepth 100000 in
theorem sm_readRotx {g : GG} {n : Int} {L : Int32} (hy : Ly g)  {I : pI} {J : pJ} {R : pR} (hr : Rf g R) (hI : MP g n L I)   (hb : ((I (ad g 0) 4).toInt ≤ (I (ad g 0) 2).toInt ∧ (I (ad g 0) 3).toInt ≤ (I (ad g 0) 4).toInt ∧ ((I (ad g 0) 5).toInt = 0 ∨ (I (ad g 0) 3).toInt < (I (ad g 0) 4).toInt)) ∧ (I (ad g 0) 17).toInt < (I (ad g 0) 15).toInt) (hw : WRt (I (ad g 30)) (I (ad g 31)) (7 * (I (ad g 0) 15).toInt)) : SP g mX11_readRot [.ref (ad g 0)] I J R (fun r I' J' R' => (MP g n L I' ∧ R' = R ∧ fz 49 g [0, 7] I I' ∧ fz 49 g [] J J' ∧ fs g [3, 4, 5, 6, 7, 8, 9, 51] I I' ∧ (((I' (ad g 0) 4).toInt ≤ (I' (ad g 0) 2).toInt ∧ (I' (ad g 0) 3).toInt ≤ (I' (ad g 0) 4).toInt ∧ ((I' (ad g 0) 5).toInt = 0 ∨ (I' (ad g 0) 3).toInt < (I' (ad g 0) 4).toInt)) ∧ (I (ad g 0) 3).toInt ≤ (I' (ad g 0) 3).toInt ∧ (I' (ad g 0) 17).toInt < (I' (ad g 0) 15).toInt)) ∧ ∃ v : Int32, r = some (.int v) ∧ 0 ≤ v.toInt ∧ v.toInt ≤ 1 ∧ (v.toInt = 1 → WRt (I' (ad g 30)) (I' (ad g 31)) (7 * (I' (ad g 0) 15).toInt))) := by
  refine SP_of ⟨by decide, rfl⟩ (Nat.le_of_ble_eq_true rfl) ?_
  have e8504 : I (ad g 0) 1 = L := hI.1.2
  have b8505 := BT_get hI.1.1 0 1 2 (0) (0) (900) (by decide) 1 (by decide) (by decide)
  rw [e8504] at b8505
  have fr0 : fz 49 g [0, 7] I I := fz_rf
  have frj0 : fz 49 g [] J J := fz_rf
  have frq0 : fs g [3, 4, 5, 6, 7, 8, 9, 51] I I := fs_rf
  obtain ⟨w8506, ew8506⟩ : ∃ w : Int32, I (ad g 0) 2 = w := ⟨_, rfl⟩
  have bw8506 := BT_get hI.1.1 0 2 3 (0) (0) (900) (by decide) 2 (by decide) (by decide)
  rw [ew8506] at bw8506
  obtain ⟨w8507, ew8507⟩ : ∃ w : Int32, I (ad g 0) 3 = w := ⟨_, rfl⟩
  have bw8507 := BT_get hI.1.1 0 3 4 (0) (0) (900) (by decide) 3 (by decide) (by decide)
  rw [ew8507] at bw8507
  obtain ⟨w8508, ew8508⟩ : ∃ w : Int32, I (ad g 0) 4 = w := ⟨_, rfl⟩
  have bw8508 := BT_get hI.1.1 0 4 5 (0) (0) (900) (by decide) 4 (by decide) (by decide)
  rw [ew8508] at bw8508
  obtain ⟨w8509, ew8509⟩ : ∃ w : Int32, I (ad g 0) 5 = w := ⟨_, rfl⟩
  have bw8509 := BT_get hI.1.1 0 5 6 (0) (0) (4) (by decide) 5 (by decide) (by decide)
  rw [ew8509] at bw8509
  obtain ⟨w8510, ew8510⟩ : ∃ w : Int32, I (ad g 0) 15 = w := ⟨_, rfl⟩
  have bw8510 := BT_get hI.1.1 0 15 16 (0) (0) (4) (by decide) 15 (by decide) (by decide)
  rw [ew8510] at bw8510
  obtain ⟨w8511, ew8511⟩ : ∃ w : Int32, I (ad g 0) 17 = w := ⟨_, rfl⟩
  have bw8511 := BT_get hI.1.1 0 17 18 (-1) (0) (3) (by decide) 17 (by decide) (by decide)
  rw [ew8511] at bw8511
  rw [ew8506, ew8507, ew8508, ew8509, ew8510, ew8511] at hb
  refine WP_aload_n dX11_readRot_0 rfl ?_
  refine WP_callV0 (k := 11) dX11_readRot_1 ⟨⟨⟨by decide, by decide⟩, zX11_scan⟩, lX11_63, by decide, rfl, vX11_scan.1, vX11_scan.2⟩ (ly_is hy 0 11 rfl) (sm_scanx hy hr hI   (by rw [ew8508, ew8506]; omega)) (Nat.le_of_ble_eq_true rfl) ?_
  intro r I8512 J8513 Ra hq
  obtain ⟨⟨hI8512, ec, fiI8512, fjI8512, fqI8512, ⟨pI8512, sI8512_0_7, sI8512_0_15, sI8512_0_16, sI8512_0_17, sI8512_0_18⟩⟩, rfl⟩ := hq
  rw [ec]
  clear ec Ra
  have fr8514 : fz 49 g [0, 7] I I8512 := fz_tr fr0 (fz_mono fiI8512 (by decide))
  have fr8515 : fs g [3, 4, 5, 6, 7, 8, 9, 51] I I8512 := fs_tr frq0 (fs_mono fqI8512 (by decide))
  have fr8516 : fz 49 g [] J J8513 := fz_tr frj0 (fz_mono fjI8512 (by decide))
  have e8517 : I8512 (ad g 0) 15 = w8510 := by rw [sI8512_0_15]; exact ew8510
  have e8518 : I8512 (ad g 0) 17 = w8511 := by rw [sI8512_0_17]; exact ew8511
  have e8519 : I8512 (ad g 0) 1 = L := hI8512.1.2
  have b8520 := BT_get hI8512.1.1 0 1 2 (0) (0) (900) (by decide) 1 (by decide) (by decide)
  rw [e8519] at b8520
  obtain ⟨w8521, ew8521⟩ : ∃ w : Int32, I8512 (ad g 0) 2 = w := ⟨_, rfl⟩
  have bw8521 := BT_get hI8512.1.1 0 2 3 (0) (0) (900) (by decide) 2 (by decide) (by decide)
  rw [ew8521] at bw8521
  obtain ⟨w8522, ew8522⟩ : ∃ w : Int32, I8512 (ad g 0) 3 = w := ⟨_, rfl⟩
  have bw8522 := BT_get hI8512.1.1 0 3 4 (0) (0) (900) (by decide) 3 (by decide) (by decide)
  rw [ew8522] at bw8522
  obtain ⟨w8523, ew8523⟩ : ∃ w : Int32, I8512 (ad g 0) 4 = w := ⟨_, rfl⟩
  have bw8523 := BT_get hI8512.1.1 0 4 5 (0) (0) (900) (by decide) 4 (by decide) (by decide)
  rw [ew8523] at bw8523
  obtain ⟨w8524, ew8524⟩ : ∃ w : Int32, I8512 (ad g 0) 5 = w := ⟨_, rfl⟩
  have bw8524 := BT_get hI8512.1.1 0 5 6 (0) (0) (4) (by decide) 5 (by decide) (by decide)
  rw [ew8524] at bw8524
  rw [ew8521, ew8522, ew8523, ew8524, ew8508] at pI8512
  refine WP_aload_n dX11_readRot_4 rfl ?_
  refine WQ_iconst (0) (0) dX11_readRot_5 rfl rfl (fun v8525 hv8525 => ?_)
  refine WQ_bipush (6) (6) dX11_readRot_6 rfl rfl (fun v8526 hv8526 => ?_)
  refine WP_callV2 (k := 11) dX11_readRot_8 ⟨⟨⟨by decide, by decide⟩, zX11_peek⟩, lX11_59, by decide, rfl, vX11_peek.1, vX11_peek.2⟩ (ly_is hy 0 11 rfl) (sm_peekx hy hr hI8512 v8525 v8526 (by omega) (by omega) (by omega) (by omega) (by rw [ew8521, ew8522, ew8523, ew8524]; omega)) (Nat.le_of_ble_eq_true rfl) ?_
  intro r I8527 J8528 Ra hq
  obtain ⟨⟨hI8527, ec, fiI8527, fjI8527, fqI8527, ⟨pI8527, sI8527_0_15, sI8527_0_16, sI8527_0_17, sI8527_0_18⟩⟩, v8529, rfl, av8529, bv8529, cv8529⟩ := hq
  show WP _ _ _ _ (.int _ :: _) _ _ _ _
  rw [ec]
  clear ec Ra
  have fr8530 : fz 49 g [0, 7] I I8527 := fz_tr fr8514 (fz_mono fiI8527 (by decide))
  have fr8531 : fs g [3, 4, 5, 6, 7, 8, 9, 51] I I8527 := fs_tr fr8515 (fs_mono fqI8527 (by decide))
  have fr8532 : fz 49 g [] J J8528 := fz_tr fr8516 (fz_mono fjI8527 (by decide))
  have e8533 : I8527 (ad g 0) 15 = w8510 := by rw [sI8527_0_15]; exact e8517
  have e8534 : I8527 (ad g 0) 17 = w8511 := by rw [sI8527_0_17]; exact e8518
  have e8535 : I8527 (ad g 0) 1 = L := hI8527.1.2
  have b8536 := BT_get hI8527.1.1 0 1 2 (0) (0) (900) (by decide) 1 (by decide) (by decide)
  rw [e8535] at b8536
  obtain ⟨w8537, ew8537⟩ : ∃ w : Int32, I8527 (ad g 0) 2 = w := ⟨_, rfl⟩
  have bw8537 := BT_get hI8527.1.1 0 2 3 (0) (0) (900) (by decide) 2 (by decide) (by decide)
  rw [ew8537] at bw8537
  obtain ⟨w8538, ew8538⟩ : ∃ w : Int32, I8527 (ad g 0) 3 = w := ⟨_, rfl⟩
  have bw8538 := BT_get hI8527.1.1 0 3 4 (0) (0) (900) (by decide) 3 (by decide) (by decide)
  rw [ew8538] at bw8538
  obtain ⟨w8539, ew8539⟩ : ∃ w : Int32, I8527 (ad g 0) 4 = w := ⟨_, rfl⟩
  have bw8539 := BT_get hI8527.1.1 0 4 5 (0) (0) (900) (by decide) 4 (by decide) (by decide)
  rw [ew8539] at bw8539
  obtain ⟨w8540, ew8540⟩ : ∃ w : Int32, I8527 (ad g 0) 5 = w := ⟨_, rfl⟩
  have bw8540 := BT_get hI8527.1.1 0 5 6 (0) (0) (4) (by decide) 5 (by decide) (by decide)
  rw [ew8540] at bw8540
  rw [ew8537, ew8538, ew8539, ew8540, ew8522] at pI8527
  obtain ⟨w8541, ew8541⟩ : ∃ w : Int32, I8527 (ad g 0) 7 = w := ⟨_, rfl⟩
  have bw8541 := BT_get hI8527.1.1 0 7 8 (-1) (0) (1000) (by decide) 7 (by decide) (by decide)
  rw [ew8541] at bw8541
  rw [ew8541] at cv8529
  refine WQ_if_ne 16 dX11_readRot_11 rfl (fun c8541 => ?_) (fun c8541 => ?_)
  · refine WP_aload_n dX11_readRot_16 rfl ?_
    refine WQ_getiu dX11_readRot_17 fX11_78 rfl (ly_is hy 0 11 rfl) (fun v8543 ev8543 => ?_)
    refine WP_aload_n dX11_readRot_20 rfl ?_
    refine WQ_getim dX11_readRot_21 fX11_56 rfl (ly_is hy 0 11 rfl) ew8541 ?_
    refine WQ_ishru dX11_readRot_24 (fun v8544 => ?_)
    refine WQ_iconst (1) (1) dX11_readRot_25 rfl rfl (fun v8545 hv8545 => ?_)
    refine WQ_iandu dX11_readRot_26 (fun v8546 => ?_)
    refine WQ_iconst (1) (1) dX11_readRot_27 rfl rfl (fun v8547 hv8547 => ?_)
    refine WQ_icmp_ne 37 dX11_readRot_28 rfl (fun c8547 => ?_) (fun c8547 => ?_)
    · refine WP_aload_n dX11_readRot_37 rfl ?_
      refine WP_dup dX11_readRot_38 rfl ?_
      refine WQ_getim dX11_readRot_39 fX11_78 rfl (ly_is hy 0 11 rfl) ev8543 ?_
      refine WQ_iconst (1) (1) dX11_readRot_42 rfl rfl (fun v8549 hv8549 => ?_)
      refine WP_aload_n dX11_readRot_43 rfl ?_
      refine WQ_getim dX11_readRot_44 fX11_56 rfl (ly_is hy 0 11 rfl) ew8541 ?_
      refine WQ_ishlu dX11_readRot_47 (fun v8550 => ?_)
      refine WQ_ioru dX11_readRot_48 (fun v8551 => ?_)
      refine WQ_puti dX11_readRot_49 fX11_78 rfl rfl (ly_is hy 0 11 rfl) (fun I8552 eI8552 => ?_)
      have hI8552 : MP g n L I8552 := by rw [eI8552]; exact (mp_w hy hI8527 (c := 0) (mi_f0 hy hI8527.1 (c := 0) (by decide) (Or.inr (by decide)) (by decide)) (by decide) (by decide) (Or.inr (by decide)))
      have e8553 : I8552 (ad g 0) 15 = w8510 := by rw [eI8552, pp_ne _ _ (Or.inr (by decide))]; exact e8533
      have e8554 : I8552 (ad g 0) 17 = w8511 := by rw [eI8552, pp_ne _ _ (Or.inr (by decide))]; exact e8534
      have e8555 : I8552 (ad g 0) 1 = L := by rw [eI8552, pp_ne _ _ (Or.inr (by decide))]; exact e8535
      have e8556 : I8552 (ad g 0) 2 = w8537 := by rw [eI8552, pp_ne _ _ (Or.inr (by decide))]; exact ew8537
      have e8557 : I8552 (ad g 0) 3 = w8538 := by rw [eI8552, pp_ne _ _ (Or.inr (by decide))]; exact ew8538
      have e8558 : I8552 (ad g 0) 4 = w8539 := by rw [eI8552, pp_ne _ _ (Or.inr (by decide))]; exact ew8539
      have e8559 : I8552 (ad g 0) 5 = w8540 := by rw [eI8552, pp_ne _ _ (Or.inr (by decide))]; exact ew8540
      have e8560 : I8552 (ad g 0) 7 = w8541 := by rw [eI8552, pp_ne _ _ (Or.inr (by decide))]; exact ew8541
      have e8561 : I8552 (ad g 0) 51 = v8551 := by rw [eI8552, pp_self]
      have fr8562 : fs g [3, 4, 5, 6, 7, 8, 9, 51] I I8552 := by rw [eI8552]; exact fs_pp0 fr8531 (by decide)
      have fr8563 : fz 49 g [0, 7] I I8552 := by rw [eI8552]; exact fzm_pp hy fr8530 (by decide) (by decide)
      clear eI8552
      refine WP_aload_n dX11_readRot_52 rfl ?_
      refine WQ_getim dX11_readRot_53 fX11_56 rfl (ly_is hy 0 11 rfl) e8560 ?_
      refine WP_istore_n (ls' := [(0, _), (1, _)]) dX11_readRot_56 (by decide) rfl ?_
      refine WP_aload_n dX11_readRot_57 rfl ?_
      refine WP_callV0 (k := 11) dX11_readRot_58 ⟨⟨⟨by decide, by decide⟩, zX11_scan⟩, lX11_63, by decide, rfl, vX11_scan.1, vX11_scan.2⟩ (ly_is hy 0 11 rfl) (sm_scanx hy hr hI8552   (by rw [e8558, e8556]; omega)) (Nat.le_of_ble_eq_true rfl) ?_
      intro r I8564 J8565 Ra hq
      obtain ⟨⟨hI8564, ec, fiI8564, fjI8564, fqI8564, ⟨pI8564, sI8564_0_7, sI8564_0_15, sI8564_0_16, sI8564_0_17, sI8564_0_18⟩⟩, rfl⟩ := hq
      rw [ec]
      clear ec Ra
      have fr8566 : fz 49 g [0, 7] I I8564 := fz_tr fr8563 (fz_mono fiI8564 (by decide))
      have fr8567 : fs g [3, 4, 5, 6, 7, 8, 9, 51] I I8564 := fs_tr fr8562 (fs_mono fqI8564 (by decide))
      have fr8568 : fz 49 g [] J J8565 := fz_tr fr8532 (fz_mono fjI8564 (by decide))
      have e8569 : I8564 (ad g 0) 7 = w8541 := by rw [sI8564_0_7]; exact e8560
      have e8570 : I8564 (ad g 0) 15 = w8510 := by rw [sI8564_0_15]; exact e8553
      have e8571 : I8564 (ad g 0) 17 = w8511 := by rw [sI8564_0_17]; exact e8554
      have e8572 : I8564 (ad g 0) 1 = L := hI8564.1.2
      have b8573 := BT_get hI8564.1.1 0 1 2 (0) (0) (900) (by decide) 1 (by decide) (by decide)
      rw [e8572] at b8573
      obtain ⟨w8574, ew8574⟩ : ∃ w : Int32, I8564 (ad g 0) 2 = w := ⟨_, rfl⟩
      have bw8574 := BT_get hI8564.1.1 0 2 3 (0) (0) (900) (by decide) 2 (by decide) (by decide)
      rw [ew8574] at bw8574
      obtain ⟨w8575, ew8575⟩ : ∃ w : Int32, I8564 (ad g 0) 3 = w := ⟨_, rfl⟩
      have bw8575 := BT_get hI8564.1.1 0 3 4 (0) (0) (900) (by decide) 3 (by decide) (by decide)
      rw [ew8575] at bw8575
      obtain ⟨w8576, ew8576⟩ : ∃ w : Int32, I8564 (ad g 0) 4 = w := ⟨_, rfl⟩
      have bw8576 := BT_get hI8564.1.1 0 4 5 (0) (0) (900) (by decide) 4 (by decide) (by decide)
      rw [ew8576] at bw8576
      obtain ⟨w8577, ew8577⟩ : ∃ w : Int32, I8564 (ad g 0) 5 = w := ⟨_, rfl⟩
      have bw8577 := BT_get hI8564.1.1 0 5 6 (0) (0) (4) (by decide) 5 (by decide) (by decide)
      rw [ew8577] at bw8577
      rw [ew8574, ew8575, ew8576, ew8577, e8558] at pI8564
      refine WP_aload_n dX11_readRot_61 rfl ?_
      refine WQ_iconst (0) (0) dX11_readRot_62 rfl rfl (fun v8578 hv8578 => ?_)
      refine WQ_sipush (900) (900) dX11_readRot_63 rfl rfl (fun v8579 hv8579 => ?_)
      refine WP_callV2 (k := 11) dX11_readRot_66 ⟨⟨⟨by decide, by decide⟩, zX11_number⟩, lX11_81, by decide, rfl, vX11_number.1, vX11_number.2⟩ (ly_is hy 0 11 rfl) (sm_numberx hy hr hI8564 v8578 v8579 (by omega) (by omega) (by omega) (by omega) (by rw [ew8574, ew8575, ew8576, ew8577]; omega)) (Nat.le_of_ble_eq_true rfl) ?_
      intro r I8580 J8581 Ra hq
      obtain ⟨⟨hI8580, ec, fiI8580, fjI8580, fqI8580, ⟨pI8580, sI8580_0_15, sI8580_0_16, sI8580_0_17, sI8580_0_18⟩⟩, v8582, rfl, av8582, bv8582, cv8582⟩ := hq
      show WP _ _ _ _ (.int _ :: _) _ _ _ _
      rw [ec]
      clear ec Ra
      have fr8583 : fz 49 g [0, 7] I I8580 := fz_tr fr8566 (fz_mono fiI8580 (by decide))
      have fr8584 : fs g [3, 4, 5, 6, 7, 8, 9, 51] I I8580 := fs_tr fr8567 (fs_mono fqI8580 (by decide))
      have fr8585 : fz 49 g [] J J8581 := fz_tr fr8568 (fz_mono fjI8580 (by decide))
      have e8586 : I8580 (ad g 0) 15 = w8510 := by rw [sI8580_0_15]; exact e8570
      have e8587 : I8580 (ad g 0) 17 = w8511 := by rw [sI8580_0_17]; exact e8571
      have e8588 : I8580 (ad g 0) 1 = L := hI8580.1.2
      have b8589 := BT_get hI8580.1.1 0 1 2 (0) (0) (900) (by decide) 1 (by decide) (by decide)
      rw [e8588] at b8589
      obtain ⟨w8590, ew8590⟩ : ∃ w : Int32, I8580 (ad g 0) 2 = w := ⟨_, rfl⟩
      have bw8590 := BT_get hI8580.1.1 0 2 3 (0) (0) (900) (by decide) 2 (by decide) (by decide)
      rw [ew8590] at bw8590
      obtain ⟨w8591, ew8591⟩ : ∃ w : Int32, I8580 (ad g 0) 3 = w := ⟨_, rfl⟩
      have bw8591 := BT_get hI8580.1.1 0 3 4 (0) (0) (900) (by decide) 3 (by decide) (by decide)
      rw [ew8591] at bw8591
      obtain ⟨w8592, ew8592⟩ : ∃ w : Int32, I8580 (ad g 0) 4 = w := ⟨_, rfl⟩
      have bw8592 := BT_get hI8580.1.1 0 4 5 (0) (0) (900) (by decide) 4 (by decide) (by decide)
      rw [ew8592] at bw8592
      obtain ⟨w8593, ew8593⟩ : ∃ w : Int32, I8580 (ad g 0) 5 = w := ⟨_, rfl⟩
      have bw8593 := BT_get hI8580.1.1 0 5 6 (0) (0) (4) (by decide) 5 (by decide) (by decide)
      rw [ew8593] at bw8593
      rw [ew8590, ew8591, ew8592, ew8593, ew8575] at pI8580
      obtain ⟨w8594, ew8594⟩ : ∃ w : Int32, I8580 (ad g 0) 7 = w := ⟨_, rfl⟩
      have bw8594 := BT_get hI8580.1.1 0 7 8 (-1) (0) (1000) (by decide) 7 (by decide) (by decide)
      rw [ew8594] at bw8594
      rw [ew8594] at cv8582
      refine WQ_if_ne 74 dX11_readRot_69 rfl (fun c8594 => ?_) (fun c8594 => ?_)
      · refine WP_aload_n dX11_readRot_74 rfl ?_
        refine WP_getr dX11_readRot_75 fX11_84 rfl (ly_is hy 0 11 rfl) (rf hr 0 25 7 (by decide)) ?_
        refine WP_iload_n dX11_readRot_78 rfl ?_
        refine WP_aload_n dX11_readRot_79 rfl ?_
        refine WQ_getim dX11_readRot_80 fX11_56 rfl (ly_is hy 0 11 rfl) ew8594 ?_
        refine WQ_iast dX11_readRot_83 (ly_is hy 7 13 rfl) (ly_n hy 7 7 rfl) (by omega) (by omega) (fun I8596 eI8596 => ?_)
        have hI8596 : MP g n L I8596 := by rw [eI8596]; exact (mp_w hy hI8580 (c := 7) (mi_r hy hI8580.1 (c := 7) (0) (0) (900) (by decide) (Or.inl (by decide)) (by decide) (by omega) (by omega)) (by decide) (by decide) (Or.inl (by decide)))
        have e8597 : I8596 (ad g 0) 15 = w8510 := by rw [eI8596, pp_ne _ _ (Or.inl (ly_ne hy (by decide) (by decide) (by decide)))]; exact e8586
        have e8598 : I8596 (ad g 0) 17 = w8511 := by rw [eI8596, pp_ne _ _ (Or.inl (ly_ne hy (by decide) (by decide) (by decide)))]; exact e8587
        have e8599 : I8596 (ad g 0) 1 = L := by rw [eI8596, pp_ne _ _ (Or.inl (ly_ne hy (by decide) (by decide) (by decide)))]; exact e8588
        have e8600 : I8596 (ad g 0) 2 = w8590 := by rw [eI8596, pp_ne _ _ (Or.inl (ly_ne hy (by decide) (by decide) (by decide)))]; exact ew8590
        have e8601 : I8596 (ad g 0) 3 = w8591 := by rw [eI8596, pp_ne _ _ (Or.inl (ly_ne hy (by decide) (by decide) (by decide)))]; exact ew8591
        have e8602 : I8596 (ad g 0) 4 = w8592 := by rw [eI8596, pp_ne _ _ (Or.inl (ly_ne hy (by decide) (by decide) (by decide)))]; exact ew8592
        have e8603 : I8596 (ad g 0) 5 = w8593 := by rw [eI8596, pp_ne _ _ (Or.inl (ly_ne hy (by decide) (by decide) (by decide)))]; exact ew8593
        have e8604 : I8596 (ad g 0) 7 = w8594 := by rw [eI8596, pp_ne _ _ (Or.inl (ly_ne hy (by decide) (by decide) (by decide)))]; exact ew8594
        have fr8605 : fs g [3, 4, 5, 6, 7, 8, 9, 51] I I8596 := by rw [eI8596]; exact fs_ppn hy fr8584 (by decide) (by decide)
        have fr8606 : fz 49 g [0, 7] I I8596 := by rw [eI8596]; exact fzm_pp hy fr8583 (by decide) (by decide)
        clear eI8596
        refine WQ_iconst (1) (1) dX11_readRot_84 rfl rfl (fun v8607 hv8607 => ?_)
        exact WP_zret dX11_readRot_85 rfl (nar_z (by omega)) ⟨⟨hI8596, rfl, fr8606, fr8585, fr8605, (by rw [e8600, e8601, e8602, e8603, e8597, e8598, ew8507]; omega)⟩, _, rfl, by omega, by omega, (fun _ => by rw [fz_at fr8606 30 (by decide) (by decide), fz_at fr8606 31 (by decide) (by decide), show I8596 (ad g 0) 15 = I (ad g 0) 15 from (by rw [e8597, ew8510] <;> exact (eq32 _ _).mpr (by omega))]; exact hw)⟩
      · refine WQ_iconst (0) (0) dX11_readRot_72 rfl rfl (fun v8608 hv8608 => ?_)
        exact WP_zret dX11_readRot_73 rfl (nar_z (by omega)) ⟨⟨hI8580, rfl, fr8583, fr8585, fr8584, (by rw [ew8590, ew8591, ew8592, ew8593, e8586, e8587, ew8507]; omega)⟩, _, rfl, by omega, by omega, (fun h => False.elim (by omega))⟩
    · refine WP_aload_n dX11_readRot_31 rfl ?_
      refine WQ_iconst (3) (3) dX11_readRot_32 rfl rfl (fun v8609 hv8609 => ?_)
      refine WP_callV1 (k := 11) dX11_readRot_33 ⟨⟨⟨by decide, by decide⟩, zX11_bad⟩, lX11_49, by decide, rfl, vX11_bad.1, vX11_bad.2⟩ (ly_is hy 0 11 rfl) (sm_badx hy hr hI8527 v8609  (by rw [ew8537, ew8538, ew8539, ew8540]; omega)) (Nat.le_of_ble_eq_true rfl) ?_
      intro r I8610 J8611 Ra hq
      obtain ⟨⟨hI8610, ec, fiI8610, fjI8610, fqI8610, ⟨pI8610, sI8610_0_15, sI8610_0_16, sI8610_0_17, sI8610_0_18⟩⟩, v8612, rfl, av8612, bv8612⟩ := hq
      show WP _ _ _ _ (.int _ :: _) _ _ _ _
      rw [ec]
      clear ec Ra
      have fr8613 : fz 49 g [0, 7] I I8610 := fz_tr fr8530 (fz_mono fiI8610 (by decide))
      have fr8614 : fs g [3, 4, 5, 6, 7, 8, 9, 51] I I8610 := fs_tr fr8531 (fs_mono fqI8610 (by decide))
      have fr8615 : fz 49 g [] J J8611 := fz_tr fr8532 (fz_mono fjI8610 (by decide))
      have e8616 : I8610 (ad g 0) 15 = w8510 := by rw [sI8610_0_15]; exact e8533
      have e8617 : I8610 (ad g 0) 17 = w8511 := by rw [sI8610_0_17]; exact e8534
      have e8618 : I8610 (ad g 0) 1 = L := hI8610.1.2
      have b8619 := BT_get hI8610.1.1 0 1 2 (0) (0) (900) (by decide) 1 (by decide) (by decide)
      rw [e8618] at b8619
      obtain ⟨w8620, ew8620⟩ : ∃ w : Int32, I8610 (ad g 0) 2 = w := ⟨_, rfl⟩
      have bw8620 := BT_get hI8610.1.1 0 2 3 (0) (0) (900) (by decide) 2 (by decide) (by decide)
      rw [ew8620] at bw8620
      obtain ⟨w8621, ew8621⟩ : ∃ w : Int32, I8610 (ad g 0) 3 = w := ⟨_, rfl⟩
      have bw8621 := BT_get hI8610.1.1 0 3 4 (0) (0) (900) (by decide) 3 (by decide) (by decide)
      rw [ew8621] at bw8621
      obtain ⟨w8622, ew8622⟩ : ∃ w : Int32, I8610 (ad g 0) 4 = w := ⟨_, rfl⟩
      have bw8622 := BT_get hI8610.1.1 0 4 5 (0) (0) (900) (by decide) 4 (by decide) (by decide)
      rw [ew8622] at bw8622
      obtain ⟨w8623, ew8623⟩ : ∃ w : Int32, I8610 (ad g 0) 5 = w := ⟨_, rfl⟩
      have bw8623 := BT_get hI8610.1.1 0 5 6 (0) (0) (4) (by decide) 5 (by decide) (by decide)
      rw [ew8623] at bw8623
      rw [ew8620, ew8621, ew8622, ew8623, ew8538] at pI8610
      exact WP_zret dX11_readRot_36 rfl (nar_z (by omega)) ⟨⟨hI8610, rfl, fr8613, fr8615, fr8614, (by rw [ew8620, ew8621, ew8622, ew8623, e8616, e8617, ew8507]; omega)⟩, _, rfl, by omega, by omega, (fun h => False.elim (by omega))⟩
  · refine WQ_iconst (0) (0) dX11_readRot_14 rfl rfl (fun v8624 hv8624 => ?_)
    exact WP_zret dX11_readRot_15 rfl (nar_z (by omega)) ⟨⟨hI8527, rfl, fr8530, fr8532, fr8531, (by rw [ew8537, ew8538, ew8539, ew8540, e8533, e8534, ew8507]; omega)⟩, _, rfl, by omega, by omega, (fun h => False.elim (by omega))⟩
set_option maxHeartbeats 4000000 in
set_option maxRecDepth 100000 in
theorem sm_readThingOfx {g : GG} {n : Int} {L : Int32} (hy : Ly g)  {I : pI} {J : pJ} {R : pR} (hr : Rf g R) (hI : MP g n L I)   (hb : ((I (ad g 0) 4).toInt ≤ (I (ad g 0) 2).toInt ∧ (I (ad g 0) 3).toInt ≤ (I (ad g 0) 4).toInt ∧ ((I (ad g 0) 5).toInt = 0 ∨ (I (ad g 0) 3).toInt < (I (ad g 0) 4).toInt)) ∧ (I (ad g 0) 17).toInt < (I (ad g 0) 15).toInt) (hw : WRt (I (ad g 30)) (I (ad g 31)) (7 * (I (ad g 0) 15).toInt)) : SP g mX11_readThingOf [.ref (ad g 0)] I J R (fun r I' J' R' => (MP g n L I' ∧ R' = R ∧ fz 49 g [0, 18, 19, 28, 29, 34] I I' ∧ fz 49 g [5] J J' ∧ fs g [3, 4, 5, 6, 7, 8, 9, 16] I I' ∧ (((I' (ad g 0) 4).toInt ≤ (I' (ad g 0) 2).toInt ∧ (I' (ad g 0) 3).toInt ≤ (I' (ad g 0) 4).toInt ∧ ((I' (ad g 0) 5).toInt = 0 ∨ (I' (ad g 0) 3).toInt < (I' (ad g 0) 4).toInt)) ∧ (I (ad g 0) 3).toInt ≤ (I' (ad g 0) 3).toInt ∧ (I' (ad g 0) 17).toInt < (I' (ad g 0) 15).toInt)) ∧ ∃ v : Int32, r = some (.int v) ∧ 0 ≤ v.toInt ∧ v.toInt ≤ 1 ∧ (v.toInt = 1 → WRt (I' (ad g 30)) (I' (ad g 31)) (7 * (I' (ad g 0) 15).toInt))) := by
  refine SP_of ⟨by decide, rfl⟩ (Nat.le_of_ble_eq_true rfl) ?_
  have e8625 : I (ad g 0) 1 = L := hI.1.2
  have b8626 := BT_get hI.1.1 0 1 2 (0) (0) (900) (by decide) 1 (by decide) (by decide)
  rw [e8625] at b8626
  have fr0 : fz 49 g [0, 18, 19, 28, 29, 34] I I := fz_rf
  have frj0 : fz 49 g [5] J J := fz_rf
  have frq0 : fs g [3, 4, 5, 6, 7, 8, 9, 16] I I := fs_rf
  obtain ⟨w8627, ew8627⟩ : ∃ w : Int32, I (ad g 0) 2 = w := ⟨_, rfl⟩
  have bw8627 := BT_get hI.1.1 0 2 3 (0) (0) (900) (by decide) 2 (by decide) (by decide)
  rw [ew8627] at bw8627
  obtain ⟨w8628, ew8628⟩ : ∃ w : Int32, I (ad g 0) 3 = w := ⟨_, rfl⟩
  have bw8628 := BT_get hI.1.1 0 3 4 (0) (0) (900) (by decide) 3 (by decide) (by decide)
  rw [ew8628] at bw8628
  obtain ⟨w8629, ew8629⟩ : ∃ w : Int32, I (ad g 0) 4 = w := ⟨_, rfl⟩
  have bw8629 := BT_get hI.1.1 0 4 5 (0) (0) (900) (by decide) 4 (by decide) (by decide)
  rw [ew8629] at bw8629
  obtain ⟨w8630, ew8630⟩ : ∃ w : Int32, I (ad g 0) 5 = w := ⟨_, rfl⟩
  have bw8630 := BT_get hI.1.1 0 5 6 (0) (0) (4) (by decide) 5 (by decide) (by decide)
  rw [ew8630] at bw8630
  obtain ⟨w8631, ew8631⟩ : ∃ w : Int32, I (ad g 0) 15 = w := ⟨_, rfl⟩
  have bw8631 := BT_get hI.1.1 0 15 16 (0) (0) (4) (by decide) 15 (by decide) (by decide)
  rw [ew8631] at bw8631
  obtain ⟨w8632, ew8632⟩ : ∃ w : Int32, I (ad g 0) 17 = w := ⟨_, rfl⟩
  have bw8632 := BT_get hI.1.1 0 17 18 (-1) (0) (3) (by decide) 17 (by decide) (by decide)
  rw [ew8632] at bw8632
  rw [ew8627, ew8628, ew8629, ew8630, ew8631, ew8632] at hb
  refine WP_aload_n dX11_readThingOf_0 rfl ?_
  refine WQ_geti dX11_readThingOf_1 fX11_126 rfl (ly_is hy 0 11 rfl) (BT_get hI.1.1 0 16 17 (0) (0) (3) (by decide) 16 (by decide) (by decide)) (fun v8633 ev8633 av8633 bv8633 => ?_)
  refine WQ_iconst (3) (3) dX11_readThingOf_4 rfl rfl (fun v8634 hv8634 => ?_)
  refine WQ_icmp_ne 14 dX11_readThingOf_5 rfl (fun c8634 => ?_) (fun c8634 => ?_)
  · refine WP_aload_n dX11_readThingOf_14 rfl ?_
    refine WP_callV0 (k := 11) dX11_readThingOf_15 ⟨⟨⟨by decide, by decide⟩, zX11_scan⟩, lX11_63, by decide, rfl, vX11_scan.1, vX11_scan.2⟩ (ly_is hy 0 11 rfl) (sm_scanx hy hr hI   (by rw [ew8629, ew8627]; omega)) (Nat.le_of_ble_eq_true rfl) ?_
    intro r I8636 J8637 Ra hq
    obtain ⟨⟨hI8636, ec, fiI8636, fjI8636, fqI8636, ⟨pI8636, sI8636_0_7, sI8636_0_15, sI8636_0_16, sI8636_0_17, sI8636_0_18⟩⟩, rfl⟩ := hq
    rw [ec]
    clear ec Ra
    have fr8638 : fz 49 g [0, 18, 19, 28, 29, 34] I I8636 := fz_tr fr0 (fz_mono fiI8636 (by decide))
    have fr8639 : fs g [3, 4, 5, 6, 7, 8, 9, 16] I I8636 := fs_tr frq0 (fs_mono fqI8636 (by decide))
    have fr8640 : fz 49 g [5] J J8637 := fz_tr frj0 (fz_mono fjI8636 (by decide))
    have e8641 : I8636 (ad g 0) 15 = w8631 := by rw [sI8636_0_15]; exact ew8631
    have e8642 : I8636 (ad g 0) 16 = v8633 := by rw [sI8636_0_16]; exact ev8633
    have e8643 : I8636 (ad g 0) 17 = w8632 := by rw [sI8636_0_17]; exact ew8632
    have e8644 : I8636 (ad g 0) 1 = L := hI8636.1.2
    have b8645 := BT_get hI8636.1.1 0 1 2 (0) (0) (900) (by decide) 1 (by decide) (by decide)
    rw [e8644] at b8645
    obtain ⟨w8646, ew8646⟩ : ∃ w : Int32, I8636 (ad g 0) 2 = w := ⟨_, rfl⟩
    have bw8646 := BT_get hI8636.1.1 0 2 3 (0) (0) (900) (by decide) 2 (by decide) (by decide)
    rw [ew8646] at bw8646
    obtain ⟨w8647, ew8647⟩ : ∃ w : Int32, I8636 (ad g 0) 3 = w := ⟨_, rfl⟩
    have bw8647 := BT_get hI8636.1.1 0 3 4 (0) (0) (900) (by decide) 3 (by decide) (by decide)
    rw [ew8647] at bw8647
    obtain ⟨w8648, ew8648⟩ : ∃ w : Int32, I8636 (ad g 0) 4 = w := ⟨_, rfl⟩
    have bw8648 := BT_get hI8636.1.1 0 4 5 (0) (0) (900) (by decide) 4 (by decide) (by decide)
    rw [ew8648] at bw8648
    obtain ⟨w8649, ew8649⟩ : ∃ w : Int32, I8636 (ad g 0) 5 = w := ⟨_, rfl⟩
    have bw8649 := BT_get hI8636.1.1 0 5 6 (0) (0) (4) (by decide) 5 (by decide) (by decide)
    rw [ew8649] at bw8649
    rw [ew8646, ew8647, ew8648, ew8649, ew8629] at pI8636
    refine WP_aload_n dX11_readThingOf_18 rfl ?_
    refine WQ_getim dX11_readThingOf_19 fX11_126 rfl (ly_is hy 0 11 rfl) e8642 ?_
    refine WP_istore_n (ls' := [(0, _), (1, _)]) dX11_readThingOf_22 (by decide) rfl ?_
    refine WP_aload_n dX11_readThingOf_23 rfl ?_
    refine WP_aload_n dX11_readThingOf_24 rfl ?_
    refine WP_getr dX11_readThingOf_25 fX11_129 rfl (ly_is hy 0 11 rfl) (rf hr 0 23 5 (by decide)) ?_
    refine WP_iload_n dX11_readThingOf_28 rfl ?_
    refine WP_callV2 (k := 11) dX11_readThingOf_29 ⟨⟨⟨by decide, by decide⟩, zX11_fresh⟩, lX11_95, by decide, rfl, vX11_fresh.1, vX11_fresh.2⟩ (ly_is hy 0 11 rfl) (sm_freshx_5 hy hr hI8636 v8633 (by omega) (by omega) (by rw [ew8646, ew8647, ew8648, ew8649]; omega)) (Nat.le_of_ble_eq_true rfl) ?_
    intro r I8650 J8651 Ra hq
    obtain ⟨⟨hI8650, ec, fiI8650, fjI8650, fqI8650, ⟨pI8650, sI8650_0_15, sI8650_0_16, sI8650_0_17, sI8650_0_18⟩⟩, v8652, rfl, av8652, bv8652⟩ := hq
    show WP _ _ _ _ (.int _ :: _) _ _ _ _
    rw [ec]
    clear ec Ra
    have fr8653 : fz 49 g [0, 18, 19, 28, 29, 34] I I8650 := fz_tr fr8638 (fz_mono fiI8650 (by decide))
    have fr8654 : fs g [3, 4, 5, 6, 7, 8, 9, 16] I I8650 := fs_tr fr8639 (fs_mono fqI8650 (by decide))
    have fr8655 : fz 49 g [5] J J8651 := fz_tr fr8640 (fz_mono fjI8650 (by decide))
    have e8656 : I8650 (ad g 0) 15 = w8631 := by rw [sI8650_0_15]; exact e8641
    have e8657 : I8650 (ad g 0) 16 = v8633 := by rw [sI8650_0_16]; exact e8642
    have e8658 : I8650 (ad g 0) 17 = w8632 := by rw [sI8650_0_17]; exact e8643
    have e8659 : I8650 (ad g 0) 1 = L := hI8650.1.2
    have b8660 := BT_get hI8650.1.1 0 1 2 (0) (0) (900) (by decide) 1 (by decide) (by decide)
    rw [e8659] at b8660
    obtain ⟨w8661, ew8661⟩ : ∃ w : Int32, I8650 (ad g 0) 2 = w := ⟨_, rfl⟩
    have bw8661 := BT_get hI8650.1.1 0 2 3 (0) (0) (900) (by decide) 2 (by decide) (by decide)
    rw [ew8661] at bw8661
    obtain ⟨w8662, ew8662⟩ : ∃ w : Int32, I8650 (ad g 0) 3 = w := ⟨_, rfl⟩
    have bw8662 := BT_get hI8650.1.1 0 3 4 (0) (0) (900) (by decide) 3 (by decide) (by decide)
    rw [ew8662] at bw8662
    obtain ⟨w8663, ew8663⟩ : ∃ w : Int32, I8650 (ad g 0) 4 = w := ⟨_, rfl⟩
    have bw8663 := BT_get hI8650.1.1 0 4 5 (0) (0) (900) (by decide) 4 (by decide) (by decide)
    rw [ew8663] at bw8663
    obtain ⟨w8664, ew8664⟩ : ∃ w : Int32, I8650 (ad g 0) 5 = w := ⟨_, rfl⟩
    have bw8664 := BT_get hI8650.1.1 0 5 6 (0) (0) (4) (by decide) 5 (by decide) (by decide)
    rw [ew8664] at bw8664
    rw [ew8661, ew8662, ew8663, ew8664, ew8647] at pI8650
    refine WQ_if_eq 46 dX11_readThingOf_32 rfl (fun c8664 => ?_) (fun c8664 => ?_)
    · refine WQ_iconst (0) (0) dX11_readThingOf_46 rfl rfl (fun v8666 hv8666 => ?_)
      exact WP_zret dX11_readThingOf_47 rfl (nar_z (by omega)) ⟨⟨hI8650, rfl, fr8653, fr8655, fr8654, (by rw [ew8661, ew8662, ew8663, ew8664, e8656, e8658, ew8628]; omega)⟩, _, rfl, by omega, by omega, (fun h => False.elim (by omega))⟩
    · refine WP_aload_n dX11_readThingOf_35 rfl ?_
      refine WQ_iconst (0) (0) dX11_readThingOf_36 rfl rfl (fun v8667 hv8667 => ?_)
      refine WQ_sipush (1000) (1000) dX11_readThingOf_37 rfl rfl (fun v8668 hv8668 => ?_)
      refine WP_callV2 (k := 11) dX11_readThingOf_40 ⟨⟨⟨by decide, by decide⟩, zX11_number⟩, lX11_81, by decide, rfl, vX11_number.1, vX11_number.2⟩ (ly_is hy 0 11 rfl) (sm_numberx hy hr hI8650 v8667 v8668 (by omega) (by omega) (by omega) (by omega) (by rw [ew8661, ew8662, ew8663, ew8664]; omega)) (Nat.le_of_ble_eq_true rfl) ?_
      intro r I8669 J8670 Ra hq
      obtain ⟨⟨hI8669, ec, fiI8669, fjI8669, fqI8669, ⟨pI8669, sI8669_0_15, sI8669_0_16, sI8669_0_17, sI8669_0_18⟩⟩, v8671, rfl, av8671, bv8671, cv8671⟩ := hq
      show WP _ _ _ _ (.int _ :: _) _ _ _ _
      rw [ec]
      clear ec Ra
      have fr8672 : fz 49 g [0, 18, 19, 28, 29, 34] I I8669 := fz_tr fr8653 (fz_mono fiI8669 (by decide))
      have fr8673 : fs g [3, 4, 5, 6, 7, 8, 9, 16] I I8669 := fs_tr fr8654 (fs_mono fqI8669 (by decide))
      have fr8674 : fz 49 g [5] J J8670 := fz_tr fr8655 (fz_mono fjI8669 (by decide))
      have e8675 : I8669 (ad g 0) 15 = w8631 := by rw [sI8669_0_15]; exact e8656
      have e8676 : I8669 (ad g 0) 16 = v8633 := by rw [sI8669_0_16]; exact e8657
      have e8677 : I8669 (ad g 0) 17 = w8632 := by rw [sI8669_0_17]; exact e8658
      have e8678 : I8669 (ad g 0) 1 = L := hI8669.1.2
      have b8679 := BT_get hI8669.1.1 0 1 2 (0) (0) (900) (by decide) 1 (by decide) (by decide)
      rw [e8678] at b8679
      obtain ⟨w8680, ew8680⟩ : ∃ w : Int32, I8669 (ad g 0) 2 = w := ⟨_, rfl⟩
      have bw8680 := BT_get hI8669.1.1 0 2 3 (0) (0) (900) (by decide) 2 (by decide) (by decide)
      rw [ew8680] at bw8680
      obtain ⟨w8681, ew8681⟩ : ∃ w : Int32, I8669 (ad g 0) 3 = w := ⟨_, rfl⟩
      have bw8681 := BT_get hI8669.1.1 0 3 4 (0) (0) (900) (by decide) 3 (by decide) (by decide)
      rw [ew8681] at bw8681
      obtain ⟨w8682, ew8682⟩ : ∃ w : Int32, I8669 (ad g 0) 4 = w := ⟨_, rfl⟩
      have bw8682 := BT_get hI8669.1.1 0 4 5 (0) (0) (900) (by decide) 4 (by decide) (by decide)
      rw [ew8682] at bw8682
      obtain ⟨w8683, ew8683⟩ : ∃ w : Int32, I8669 (ad g 0) 5 = w := ⟨_, rfl⟩
      have bw8683 := BT_get hI8669.1.1 0 5 6 (0) (0) (4) (by decide) 5 (by decide) (by decide)
      rw [ew8683] at bw8683
      rw [ew8680, ew8681, ew8682, ew8683, ew8662] at pI8669
      obtain ⟨w8684, ew8684⟩ : ∃ w : Int32, I8669 (ad g 0) 7 = w := ⟨_, rfl⟩
      have bw8684 := BT_get hI8669.1.1 0 7 8 (-1) (0) (1000) (by decide) 7 (by decide) (by decide)
      rw [ew8684] at bw8684
      rw [ew8684] at cv8671
      refine WQ_if_ne 48 dX11_readThingOf_43 rfl (fun c8684 => ?_) (fun c8684 => ?_)
      · refine WP_aload_n dX11_readThingOf_48 rfl ?_
        refine WP_getr dX11_readThingOf_49 fX11_132 rfl (ly_is hy 0 11 rfl) (rf hr 0 36 18 (by decide)) ?_
        refine WP_iload_n dX11_readThingOf_52 rfl ?_
        refine WP_aload_n dX11_readThingOf_53 rfl ?_
        refine WQ_getim dX11_readThingOf_54 fX11_56 rfl (ly_is hy 0 11 rfl) ew8684 ?_
        refine WQ_iast dX11_readThingOf_57 (ly_is hy 18 13 rfl) (ly_n hy 18 3 rfl) (by omega) (by omega) (fun I8686 eI8686 => ?_)
        have hI8686 : MP g n L I8686 := by rw [eI8686]; exact (mp_w hy hI8669 (c := 18) (mi_r hy hI8669.1 (c := 18) (0) (0) (1000) (by decide) (Or.inl (by decide)) (by decide) (by omega) (by omega)) (by decide) (by decide) (Or.inl (by decide)))
        have e8687 : I8686 (ad g 0) 15 = w8631 := by rw [eI8686, pp_ne _ _ (Or.inl (ly_ne hy (by decide) (by decide) (by decide)))]; exact e8675
        have e8688 : I8686 (ad g 0) 16 = v8633 := by rw [eI8686, pp_ne _ _ (Or.inl (ly_ne hy (by decide) (by decide) (by decide)))]; exact e8676
        have e8689 : I8686 (ad g 0) 17 = w8632 := by rw [eI8686, pp_ne _ _ (Or.inl (ly_ne hy (by decide) (by decide) (by decide)))]; exact e8677
        have e8690 : I8686 (ad g 0) 1 = L := by rw [eI8686, pp_ne _ _ (Or.inl (ly_ne hy (by decide) (by decide) (by decide)))]; exact e8678
        have e8691 : I8686 (ad g 0) 2 = w8680 := by rw [eI8686, pp_ne _ _ (Or.inl (ly_ne hy (by decide) (by decide) (by decide)))]; exact ew8680
        have e8692 : I8686 (ad g 0) 3 = w8681 := by rw [eI8686, pp_ne _ _ (Or.inl (ly_ne hy (by decide) (by decide) (by decide)))]; exact ew8681
        have e8693 : I8686 (ad g 0) 4 = w8682 := by rw [eI8686, pp_ne _ _ (Or.inl (ly_ne hy (by decide) (by decide) (by decide)))]; exact ew8682
        have e8694 : I8686 (ad g 0) 5 = w8683 := by rw [eI8686, pp_ne _ _ (Or.inl (ly_ne hy (by decide) (by decide) (by decide)))]; exact ew8683
        have e8695 : I8686 (ad g 0) 7 = w8684 := by rw [eI8686, pp_ne _ _ (Or.inl (ly_ne hy (by decide) (by decide) (by decide)))]; exact ew8684
        have fr8696 : fs g [3, 4, 5, 6, 7, 8, 9, 16] I I8686 := by rw [eI8686]; exact fs_ppn hy fr8673 (by decide) (by decide)
        have fr8697 : fz 49 g [0, 18, 19, 28, 29, 34] I I8686 := by rw [eI8686]; exact fzm_pp hy fr8672 (by decide) (by decide)
        clear eI8686
        refine WP_aload_n dX11_readThingOf_58 rfl ?_
        refine WQ_iconst (0) (0) dX11_readThingOf_59 rfl rfl (fun v8698 hv8698 => ?_)
        refine WQ_bipush (9) (9) dX11_readThingOf_60 rfl rfl (fun v8699 hv8699 => ?_)
        refine WP_callV2 (k := 11) dX11_readThingOf_62 ⟨⟨⟨by decide, by decide⟩, zX11_number⟩, lX11_81, by decide, rfl, vX11_number.1, vX11_number.2⟩ (ly_is hy 0 11 rfl) (sm_numberx hy hr hI8686 v8698 v8699 (by omega) (by omega) (by omega) (by omega) (by rw [e8691, e8692, e8693, e8694]; omega)) (Nat.le_of_ble_eq_true rfl) ?_
        intro r I8700 J8701 Ra hq
        obtain ⟨⟨hI8700, ec, fiI8700, fjI8700, fqI8700, ⟨pI8700, sI8700_0_15, sI8700_0_16, sI8700_0_17, sI8700_0_18⟩⟩, v8702, rfl, av8702, bv8702, cv8702⟩ := hq
        show WP _ _ _ _ (.int _ :: _) _ _ _ _
        rw [ec]
        clear ec Ra
        have fr8703 : fz 49 g [0, 18, 19, 28, 29, 34] I I8700 := fz_tr fr8697 (fz_mono fiI8700 (by decide))
        have fr8704 : fs g [3, 4, 5, 6, 7, 8, 9, 16] I I8700 := fs_tr fr8696 (fs_mono fqI8700 (by decide))
        have fr8705 : fz 49 g [5] J J8701 := fz_tr fr8674 (fz_mono fjI8700 (by decide))
        have e8706 : I8700 (ad g 0) 15 = w8631 := by rw [sI8700_0_15]; exact e8687
        have e8707 : I8700 (ad g 0) 16 = v8633 := by rw [sI8700_0_16]; exact e8688
        have e8708 : I8700 (ad g 0) 17 = w8632 := by rw [sI8700_0_17]; exact e8689
        have e8709 : I8700 (ad g 0) 1 = L := hI8700.1.2
        have b8710 := BT_get hI8700.1.1 0 1 2 (0) (0) (900) (by decide) 1 (by decide) (by decide)
        rw [e8709] at b8710
        obtain ⟨w8711, ew8711⟩ : ∃ w : Int32, I8700 (ad g 0) 2 = w := ⟨_, rfl⟩
        have bw8711 := BT_get hI8700.1.1 0 2 3 (0) (0) (900) (by decide) 2 (by decide) (by decide)
        rw [ew8711] at bw8711
        obtain ⟨w8712, ew8712⟩ : ∃ w : Int32, I8700 (ad g 0) 3 = w := ⟨_, rfl⟩
        have bw8712 := BT_get hI8700.1.1 0 3 4 (0) (0) (900) (by decide) 3 (by decide) (by decide)
        rw [ew8712] at bw8712
        obtain ⟨w8713, ew8713⟩ : ∃ w : Int32, I8700 (ad g 0) 4 = w := ⟨_, rfl⟩
        have bw8713 := BT_get hI8700.1.1 0 4 5 (0) (0) (900) (by decide) 4 (by decide) (by decide)
        rw [ew8713] at bw8713
        obtain ⟨w8714, ew8714⟩ : ∃ w : Int32, I8700 (ad g 0) 5 = w := ⟨_, rfl⟩
        have bw8714 := BT_get hI8700.1.1 0 5 6 (0) (0) (4) (by decide) 5 (by decide) (by decide)
        rw [ew8714] at bw8714
        rw [ew8711, ew8712, ew8713, ew8714, e8692] at pI8700
        obtain ⟨w8715, ew8715⟩ : ∃ w : Int32, I8700 (ad g 0) 7 = w := ⟨_, rfl⟩
        have bw8715 := BT_get hI8700.1.1 0 7 8 (-1) (0) (1000) (by decide) 7 (by decide) (by decide)
        rw [ew8715] at bw8715
        rw [ew8715] at cv8702
        refine WQ_if_ne 70 dX11_readThingOf_65 rfl (fun c8715 => ?_) (fun c8715 => ?_)
        · refine WP_aload_n dX11_readThingOf_70 rfl ?_
          refine WP_getr dX11_readThingOf_71 fX11_135 rfl (ly_is hy 0 11 rfl) (rf hr 0 37 19 (by decide)) ?_
          refine WP_iload_n dX11_readThingOf_74 rfl ?_
          refine WP_aload_n dX11_readThingOf_75 rfl ?_
          refine WQ_getim dX11_readThingOf_76 fX11_56 rfl (ly_is hy 0 11 rfl) ew8715 ?_
          refine WQ_iast dX11_readThingOf_79 (ly_is hy 19 13 rfl) (ly_n hy 19 3 rfl) (by omega) (by omega) (fun I8717 eI8717 => ?_)
          have hI8717 : MP g n L I8717 := by rw [eI8717]; exact (mp_w hy hI8700 (c := 19) (mi_r hy hI8700.1 (c := 19) (0) (0) (9) (by decide) (Or.inl (by decide)) (by decide) (by omega) (by omega)) (by decide) (by decide) (Or.inl (by decide)))
          have e8718 : I8717 (ad g 0) 15 = w8631 := by rw [eI8717, pp_ne _ _ (Or.inl (ly_ne hy (by decide) (by decide) (by decide)))]; exact e8706
          have e8719 : I8717 (ad g 0) 16 = v8633 := by rw [eI8717, pp_ne _ _ (Or.inl (ly_ne hy (by decide) (by decide) (by decide)))]; exact e8707
          have e8720 : I8717 (ad g 0) 17 = w8632 := by rw [eI8717, pp_ne _ _ (Or.inl (ly_ne hy (by decide) (by decide) (by decide)))]; exact e8708
          have e8721 : I8717 (ad g 0) 1 = L := by rw [eI8717, pp_ne _ _ (Or.inl (ly_ne hy (by decide) (by decide) (by decide)))]; exact e8709
          have e8722 : I8717 (ad g 0) 2 = w8711 := by rw [eI8717, pp_ne _ _ (Or.inl (ly_ne hy (by decide) (by decide) (by decide)))]; exact ew8711
          have e8723 : I8717 (ad g 0) 3 = w8712 := by rw [eI8717, pp_ne _ _ (Or.inl (ly_ne hy (by decide) (by decide) (by decide)))]; exact ew8712
          have e8724 : I8717 (ad g 0) 4 = w8713 := by rw [eI8717, pp_ne _ _ (Or.inl (ly_ne hy (by decide) (by decide) (by decide)))]; exact ew8713
          have e8725 : I8717 (ad g 0) 5 = w8714 := by rw [eI8717, pp_ne _ _ (Or.inl (ly_ne hy (by decide) (by decide) (by decide)))]; exact ew8714
          have e8726 : I8717 (ad g 0) 7 = w8715 := by rw [eI8717, pp_ne _ _ (Or.inl (ly_ne hy (by decide) (by decide) (by decide)))]; exact ew8715
          have fr8727 : fs g [3, 4, 5, 6, 7, 8, 9, 16] I I8717 := by rw [eI8717]; exact fs_ppn hy fr8704 (by decide) (by decide)
          have fr8728 : fz 49 g [0, 18, 19, 28, 29, 34] I I8717 := by rw [eI8717]; exact fzm_pp hy fr8703 (by decide) (by decide)
          clear eI8717
          refine WP_aload_n dX11_readThingOf_80 rfl ?_
          refine WP_getr dX11_readThingOf_81 fX11_138 rfl (ly_is hy 0 11 rfl) (rf hr 0 53 34 (by decide)) ?_
          refine WP_iload_n dX11_readThingOf_84 rfl ?_
          refine WQ_iconst (0) (0) dX11_readThingOf_85 rfl rfl (fun v8729 hv8729 => ?_)
          refine WQ_iast dX11_readThingOf_86 (ly_is hy 34 13 rfl) (ly_n hy 34 3 rfl) (by omega) (by omega) (fun I8730 eI8730 => ?_)
          have hI8730 : MP g n L I8730 := by rw [eI8730]; exact (mp_w hy hI8717 (c := 34) (mi_r0 hy hI8717.1 (c := 34) (by decide) (Or.inl (by decide)) (by decide)) (by decide) (by decide) (Or.inl (by decide)))
          have e8731 : I8730 (ad g 0) 15 = w8631 := by rw [eI8730, pp_ne _ _ (Or.inl (ly_ne hy (by decide) (by decide) (by decide)))]; exact e8718
          have e8732 : I8730 (ad g 0) 16 = v8633 := by rw [eI8730, pp_ne _ _ (Or.inl (ly_ne hy (by decide) (by decide) (by decide)))]; exact e8719
          have e8733 : I8730 (ad g 0) 17 = w8632 := by rw [eI8730, pp_ne _ _ (Or.inl (ly_ne hy (by decide) (by decide) (by decide)))]; exact e8720
          have e8734 : I8730 (ad g 0) 1 = L := by rw [eI8730, pp_ne _ _ (Or.inl (ly_ne hy (by decide) (by decide) (by decide)))]; exact e8721
          have e8735 : I8730 (ad g 0) 2 = w8711 := by rw [eI8730, pp_ne _ _ (Or.inl (ly_ne hy (by decide) (by decide) (by decide)))]; exact e8722
          have e8736 : I8730 (ad g 0) 3 = w8712 := by rw [eI8730, pp_ne _ _ (Or.inl (ly_ne hy (by decide) (by decide) (by decide)))]; exact e8723
          have e8737 : I8730 (ad g 0) 4 = w8713 := by rw [eI8730, pp_ne _ _ (Or.inl (ly_ne hy (by decide) (by decide) (by decide)))]; exact e8724
          have e8738 : I8730 (ad g 0) 5 = w8714 := by rw [eI8730, pp_ne _ _ (Or.inl (ly_ne hy (by decide) (by decide) (by decide)))]; exact e8725
          have e8739 : I8730 (ad g 0) 7 = w8715 := by rw [eI8730, pp_ne _ _ (Or.inl (ly_ne hy (by decide) (by decide) (by decide)))]; exact e8726
          have fr8740 : fs g [3, 4, 5, 6, 7, 8, 9, 16] I I8730 := by rw [eI8730]; exact fs_ppn hy fr8727 (by decide) (by decide)
          have fr8741 : fz 49 g [0, 18, 19, 28, 29, 34] I I8730 := by rw [eI8730]; exact fzm_pp hy fr8728 (by decide) (by decide)
          clear eI8730
          refine WQ_iconst (0) (0) dX11_readThingOf_87 rfl rfl (fun v8742 hv8742 => ?_)
          refine WP_istore_n (ls' := [(0, _), (1, _), (2, _)]) dX11_readThingOf_88 (by decide) rfl ?_
          have lp89_8752 : ∀ (mz : Nat) (i8743 : Int32) (I8744 : pI) (J8745 : pJ), MP g n L I8744 → fz 49 g [0, 18, 19, 28, 29, 34] I I8744 → fz 49 g [5] J J8745 → fs g [3, 4, 5, 6, 7, 8, 9, 16] I I8744 → ∀ (w8746 : Int32), I8744 (ad g 0) 2 = w8746 → ∀ (w8747 : Int32), I8744 (ad g 0) 3 = w8747 → ∀ (w8748 : Int32), I8744 (ad g 0) 4 = w8748 → ∀ (w8749 : Int32), I8744 (ad g 0) 5 = w8749 → ∀ (w8750 : Int32), I8744 (ad g 0) 15 = w8750 → ∀ (w8751 : Int32), I8744 (ad g 0) 17 = w8751 → ∀ (w8752 : Int32), I8744 (ad g 0) 16 = w8752 → 0 ≤ i8743.toInt → i8743.toInt ≤ 7 → w8748.toInt ≤ w8746.toInt → w8747.toInt ≤ w8748.toInt → (w8749.toInt = 0 ∨ w8747.toInt < w8748.toInt) → w8751.toInt < w8750.toInt → w8628.toInt ≤ w8747.toInt → w8750.toInt = w8631.toInt → w8752.toInt ≤ 2 → (8 - i8743.toInt).toNat < mz → WP g mX11_readThingOf 89 [(0, .ref (ad g 0)), (1, .int v8633), (2, .int i8743)] [] I8744 J8745 R (fun r I' J' R' => (MP g n L I' ∧ R' = R ∧ fz 49 g [0, 18, 19, 28, 29, 34] I I' ∧ fz 49 g [5] J J' ∧ fs g [3, 4, 5, 6, 7, 8, 9, 16] I I' ∧ (((I' (ad g 0) 4).toInt ≤ (I' (ad g 0) 2).toInt ∧ (I' (ad g 0) 3).toInt ≤ (I' (ad g 0) 4).toInt ∧ ((I' (ad g 0) 5).toInt = 0 ∨ (I' (ad g 0) 3).toInt < (I' (ad g 0) 4).toInt)) ∧ (I (ad g 0) 3).toInt ≤ (I' (ad g 0) 3).toInt ∧ (I' (ad g 0) 17).toInt < (I' (ad g 0) 15).toInt)) ∧ ∃ v : Int32, r = some (.int v) ∧ 0 ≤ v.toInt ∧ v.toInt ≤ 1 ∧ (v.toInt = 1 → WRt (I' (ad g 30)) (I' (ad g 31)) (7 * (I' (ad g 0) 15).toInt))) := by
            intro mz
            induction mz with
            | zero =>
              intro i8743 I8744 J8745 hI8744 fiI8744 fjJ8745 fqI8744 w8746 ew8746 w8747 ew8747 w8748 ew8748 w8749 ew8749 w8750 ew8750 w8751 ew8751 w8752 ew8752 ai8743 bi8743 j0_I8744 j1_I8744 j2_I8744 j3_I8744 j4_I8744 j5_I8744 j6_I8744 hmlp89_8752
              exact absurd hmlp89_8752 (Nat.not_lt_zero _)
            | succ mz ihlp89_8752 =>
              intro i8743 I8744 J8745 hI8744 fiI8744 fjJ8745 fqI8744 w8746 ew8746 w8747 ew8747 w8748 ew8748 w8749 ew8749 w8750 ew8750 w8751 ew8751 w8752 ew8752 ai8743 bi8743 j0_I8744 j1_I8744 j2_I8744 j3_I8744 j4_I8744 j5_I8744 j6_I8744 hmlp89_8752
              have bw8746 := BT_get hI8744.1.1 0 2 3 (0) (0) (900) (by decide) 2 (by decide) (by decide)
              rw [ew8746] at bw8746
              have bw8747 := BT_get hI8744.1.1 0 3 4 (0) (0) (900) (by decide) 3 (by decide) (by decide)
              rw [ew8747] at bw8747
              have bw8748 := BT_get hI8744.1.1 0 4 5 (0) (0) (900) (by decide) 4 (by decide) (by decide)
              rw [ew8748] at bw8748
              have bw8749 := BT_get hI8744.1.1 0 5 6 (0) (0) (4) (by decide) 5 (by decide) (by decide)
              rw [ew8749] at bw8749
              have bw8750 := BT_get hI8744.1.1 0 15 16 (0) (0) (4) (by decide) 15 (by decide) (by decide)
              rw [ew8750] at bw8750
              have bw8751 := BT_get hI8744.1.1 0 17 18 (-1) (0) (3) (by decide) 17 (by decide) (by decide)
              rw [ew8751] at bw8751
              have bw8752 := BT_get hI8744.1.1 0 16 17 (0) (0) (3) (by decide) 16 (by decide) (by decide)
              rw [ew8752] at bw8752
              have e8754 : I8744 (ad g 0) 1 = L := hI8744.1.2
              have b8755 := BT_get hI8744.1.1 0 1 2 (0) (0) (900) (by decide) 1 (by decide) (by decide)
              rw [e8754] at b8755
              refine WP_iload_n dX11_readThingOf_89 rfl ?_
              refine WQ_bipush (7) (7) dX11_readThingOf_90 rfl rfl (fun v8756 hv8756 => ?_)
              refine WQ_icmp_ge 125 dX11_readThingOf_92 rfl (fun c8756 => ?_) (fun c8756 => ?_)
              · refine WP_aload_n dX11_readThingOf_125 rfl ?_
                refine WP_dup dX11_readThingOf_126 rfl ?_
                refine WQ_getim dX11_readThingOf_127 fX11_126 rfl (ly_is hy 0 11 rfl) ew8752 ?_
                refine WQ_iconst (1) (1) dX11_readThingOf_130 rfl rfl (fun v8758 hv8758 => ?_)
                refine WQ_iadd dX11_readThingOf_131 (by omega) (by omega) (fun v8759 hv8759 => ?_)
                refine WQ_puti dX11_readThingOf_132 fX11_126 rfl rfl (ly_is hy 0 11 rfl) (fun I8760 eI8760 => ?_)
                have hI8760 : MP g n L I8760 := by rw [eI8760]; exact (mp_w hy hI8744 (c := 0) (mi_f hy hI8744.1 (c := 0) (0) (0) (3) (by decide) (Or.inr (by decide)) (by decide) (by omega) (by omega)) (by decide) (by decide) (Or.inr (by decide)))
                have e8761 : I8760 (ad g 0) 2 = w8746 := by rw [eI8760, pp_ne _ _ (Or.inr (by decide))]; exact ew8746
                have e8762 : I8760 (ad g 0) 3 = w8747 := by rw [eI8760, pp_ne _ _ (Or.inr (by decide))]; exact ew8747
                have e8763 : I8760 (ad g 0) 4 = w8748 := by rw [eI8760, pp_ne _ _ (Or.inr (by decide))]; exact ew8748
                have e8764 : I8760 (ad g 0) 5 = w8749 := by rw [eI8760, pp_ne _ _ (Or.inr (by decide))]; exact ew8749
                have e8765 : I8760 (ad g 0) 15 = w8750 := by rw [eI8760, pp_ne _ _ (Or.inr (by decide))]; exact ew8750
                have e8766 : I8760 (ad g 0) 17 = w8751 := by rw [eI8760, pp_ne _ _ (Or.inr (by decide))]; exact ew8751
                have e8767 : I8760 (ad g 0) 1 = L := by rw [eI8760, pp_ne _ _ (Or.inr (by decide))]; exact e8754
                have e8768 : I8760 (ad g 0) 16 = v8759 := by rw [eI8760, pp_self]
                have fr8769 : fs g [3, 4, 5, 6, 7, 8, 9, 16] I I8760 := by rw [eI8760]; exact fs_pp0 fqI8744 (by decide)
                have fr8770 : fz 49 g [0, 18, 19, 28, 29, 34] I I8760 := by rw [eI8760]; exact fzm_pp hy fiI8744 (by decide) (by decide)
                clear eI8760
                refine WQ_iconst (1) (1) dX11_readThingOf_135 rfl rfl (fun v8771 hv8771 => ?_)
                exact WP_zret dX11_readThingOf_136 rfl (nar_z (by omega)) ⟨⟨hI8760, rfl, fr8770, fjJ8745, fr8769, (by rw [e8761, e8762, e8763, e8764, e8765, e8766, ew8628]; omega)⟩, _, rfl, by omega, by omega, (fun _ => by rw [fz_at fr8770 30 (by decide) (by decide), fz_at fr8770 31 (by decide) (by decide), show I8760 (ad g 0) 15 = I (ad g 0) 15 from (by rw [e8765, ew8631] <;> exact (eq32 _ _).mpr (by omega))]; exact hw)⟩
              · refine WP_aload_n dX11_readThingOf_95 rfl ?_
                refine WP_getr dX11_readThingOf_96 fX11_141 rfl (ly_is hy 0 11 rfl) (rf hr 0 46 28 (by decide)) ?_
                refine WQ_bipush (7) (7) dX11_readThingOf_99 rfl rfl (fun v8772 hv8772 => ?_)
                refine WP_iload_n dX11_readThingOf_101 rfl ?_
                refine WQ_imulK (7) dX11_readThingOf_102 hv8772 (by omega) (by omega) (fun v8773 hv8773 => ?_)
                refine WP_iload_n dX11_readThingOf_103 rfl ?_
                refine WQ_iadd dX11_readThingOf_104 (by omega) (by omega) (fun v8774 hv8774 => ?_)
                refine WQ_iconst (5) (5) dX11_readThingOf_105 rfl rfl (fun v8775 hv8775 => ?_)
                refine WQ_iast dX11_readThingOf_106 (ly_is hy 28 13 rfl) (ly_n hy 28 21 rfl) (by omega) (by omega) (fun I8776 eI8776 => ?_)
                have hI8776 : MP g n L I8776 := by rw [eI8776]; exact (mp_w hy hI8744 (c := 28) (mi_r hy hI8744.1 (c := 28) (0) (0) (20) (by decide) (Or.inl (by decide)) (by decide) (by omega) (by omega)) (by decide) (by decide) (Or.inl (by decide)))
                have e8777 : I8776 (ad g 0) 2 = w8746 := by rw [eI8776, pp_ne _ _ (Or.inl (ly_ne hy (by decide) (by decide) (by decide)))]; exact ew8746
                have e8778 : I8776 (ad g 0) 3 = w8747 := by rw [eI8776, pp_ne _ _ (Or.inl (ly_ne hy (by decide) (by decide) (by decide)))]; exact ew8747
                have e8779 : I8776 (ad g 0) 4 = w8748 := by rw [eI8776, pp_ne _ _ (Or.inl (ly_ne hy (by decide) (by decide) (by decide)))]; exact ew8748
                have e8780 : I8776 (ad g 0) 5 = w8749 := by rw [eI8776, pp_ne _ _ (Or.inl (ly_ne hy (by decide) (by decide) (by decide)))]; exact ew8749
                have e8781 : I8776 (ad g 0) 15 = w8750 := by rw [eI8776, pp_ne _ _ (Or.inl (ly_ne hy (by decide) (by decide) (by decide)))]; exact ew8750
                have e8782 : I8776 (ad g 0) 17 = w8751 := by rw [eI8776, pp_ne _ _ (Or.inl (ly_ne hy (by decide) (by decide) (by decide)))]; exact ew8751
                have e8783 : I8776 (ad g 0) 16 = w8752 := by rw [eI8776, pp_ne _ _ (Or.inl (ly_ne hy (by decide) (by decide) (by decide)))]; exact ew8752
                have e8784 : I8776 (ad g 0) 1 = L := by rw [eI8776, pp_ne _ _ (Or.inl (ly_ne hy (by decide) (by decide) (by decide)))]; exact e8754
                have fr8785 : fs g [3, 4, 5, 6, 7, 8, 9, 16] I I8776 := by rw [eI8776]; exact fs_ppn hy fqI8744 (by decide) (by decide)
                have fr8786 : fz 49 g [0, 18, 19, 28, 29, 34] I I8776 := by rw [eI8776]; exact fzm_pp hy fiI8744 (by decide) (by decide)
                clear eI8776
                refine WP_aload_n dX11_readThingOf_107 rfl ?_
                refine WP_getr dX11_readThingOf_108 fX11_144 rfl (ly_is hy 0 11 rfl) (rf hr 0 47 29 (by decide)) ?_
                refine WQ_bipush (7) (7) dX11_readThingOf_111 rfl rfl (fun v8787 hv8787 => ?_)
                refine WP_iload_n dX11_readThingOf_113 rfl ?_
                refine WQ_imulK (7) dX11_readThingOf_114 hv8787 (by omega) (by omega) (fun v8788 hv8788 => ?_)
                refine WP_iload_n dX11_readThingOf_115 rfl ?_
                refine WQ_iadd dX11_readThingOf_116 (by omega) (by omega) (fun v8789 hv8789 => ?_)
                refine WQ_iconst (-1) (-1) dX11_readThingOf_117 rfl rfl (fun v8790 hv8790 => ?_)
                refine WQ_iast dX11_readThingOf_118 (ly_is hy 29 13 rfl) (ly_n hy 29 21 rfl) (by omega) (by omega) (fun I8791 eI8791 => ?_)
                have hI8791 : MP g n L I8791 := by rw [eI8791]; exact (mp_w hy hI8776 (c := 29) (mi_r hy hI8776.1 (c := 29) (-1) (0) (999) (by decide) (Or.inl (by decide)) (by decide) (by omega) (by omega)) (by decide) (by decide) (Or.inl (by decide)))
                have e8792 : I8791 (ad g 0) 2 = w8746 := by rw [eI8791, pp_ne _ _ (Or.inl (ly_ne hy (by decide) (by decide) (by decide)))]; exact e8777
                have e8793 : I8791 (ad g 0) 3 = w8747 := by rw [eI8791, pp_ne _ _ (Or.inl (ly_ne hy (by decide) (by decide) (by decide)))]; exact e8778
                have e8794 : I8791 (ad g 0) 4 = w8748 := by rw [eI8791, pp_ne _ _ (Or.inl (ly_ne hy (by decide) (by decide) (by decide)))]; exact e8779
                have e8795 : I8791 (ad g 0) 5 = w8749 := by rw [eI8791, pp_ne _ _ (Or.inl (ly_ne hy (by decide) (by decide) (by decide)))]; exact e8780
                have e8796 : I8791 (ad g 0) 15 = w8750 := by rw [eI8791, pp_ne _ _ (Or.inl (ly_ne hy (by decide) (by decide) (by decide)))]; exact e8781
                have e8797 : I8791 (ad g 0) 17 = w8751 := by rw [eI8791, pp_ne _ _ (Or.inl (ly_ne hy (by decide) (by decide) (by decide)))]; exact e8782
                have e8798 : I8791 (ad g 0) 16 = w8752 := by rw [eI8791, pp_ne _ _ (Or.inl (ly_ne hy (by decide) (by decide) (by decide)))]; exact e8783
                have e8799 : I8791 (ad g 0) 1 = L := by rw [eI8791, pp_ne _ _ (Or.inl (ly_ne hy (by decide) (by decide) (by decide)))]; exact e8784
                have fr8800 : fs g [3, 4, 5, 6, 7, 8, 9, 16] I I8791 := by rw [eI8791]; exact fs_ppn hy fr8785 (by decide) (by decide)
                have fr8801 : fz 49 g [0, 18, 19, 28, 29, 34] I I8791 := by rw [eI8791]; exact fzm_pp hy fr8786 (by decide) (by decide)
                clear eI8791
                refine WP_iinc (ls' := [(0, _), (1, _), (2, _)]) dX11_readThingOf_119 rfl (by decide) rfl ?_
                have hv8802 : (i8743 + Int32.ofInt (1)).toInt = i8743.toInt + (1) := ia_n rfl (by omega) (by omega)
                generalize i8743 + Int32.ofInt (1) = v8802 at hv8802 ⊢
                refine WP_goto 89 dX11_readThingOf_122 rfl ?_
                exact WP_sub (fc rfl (fc rfl (fc rfl fn))) (ihlp89_8752 v8802 I8791 J8745 hI8791 fr8801 fjJ8745 fr8800 w8746 e8792 w8747 e8793 w8748 e8794 w8749 e8795 w8750 e8796 w8751 e8797 w8752 e8798 (by omega) (by omega) (by omega) (by omega) (by omega) (by omega) (by omega) (by omega) (by omega) (by omega))
          exact WP_sub (fc rfl (fc rfl (fc rfl fn))) (lp89_8752 _ v8742 I8730 J8701 hI8730 fr8741 fr8705 fr8740 w8711 e8735 w8712 e8736 w8713 e8737 w8714 e8738 w8631 e8731 w8632 e8733 v8633 e8732 (by omega) (by omega) (by omega) (by omega) (by omega) (by omega) (by omega) (by omega) (by omega) (Nat.lt_succ_self _))
        · refine WQ_iconst (0) (0) dX11_readThingOf_68 rfl rfl (fun v8803 hv8803 => ?_)
          exact WP_zret dX11_readThingOf_69 rfl (nar_z (by omega)) ⟨⟨hI8700, rfl, fr8703, fr8705, fr8704, (by rw [ew8711, ew8712, ew8713, ew8714, e8706, e8708, ew8628]; omega)⟩, _, rfl, by omega, by omega, (fun h => False.elim (by omega))⟩
      · refine WQ_iconst (0) (0) dX11_readThingOf_46 rfl rfl (fun v8804 hv8804 => ?_)
        exact WP_zret dX11_readThingOf_47 rfl (nar_z (by omega)) ⟨⟨hI8669, rfl, fr8672, fr8674, fr8673, (by rw [ew8680, ew8681, ew8682, ew8683, e8675, e8677, ew8628]; omega)⟩, _, rfl, by omega, by omega, (fun h => False.elim (by omega))⟩
  · refine WP_aload_n dX11_readThingOf_8 rfl ?_
    refine WQ_iconst (4) (4) dX11_readThingOf_9 rfl rfl (fun v8805 hv8805 => ?_)
    refine WP_callV1 (k := 11) dX11_readThingOf_10 ⟨⟨⟨by decide, by decide⟩, zX11_bad⟩, lX11_49, by decide, rfl, vX11_bad.1, vX11_bad.2⟩ (ly_is hy 0 11 rfl) (sm_badx hy hr hI v8805  (by rw [ew8627, ew8628, ew8629, ew8630]; omega)) (Nat.le_of_ble_eq_true rfl) ?_
    intro r I8806 J8807 Ra hq
    obtain ⟨⟨hI8806, ec, fiI8806, fjI8806, fqI8806, ⟨pI8806, sI8806_0_15, sI8806_0_16, sI8806_0_17, sI8806_0_18⟩⟩, v8808, rfl, av8808, bv8808⟩ := hq
    show WP _ _ _ _ (.int _ :: _) _ _ _ _
    rw [ec]
    clear ec Ra
    have fr8809 : fz 49 g [0, 18, 19, 28, 29, 34] I I8806 := fz_tr fr0 (fz_mono fiI8806 (by decide))
    have fr8810 : fs g [3, 4, 5, 6, 7, 8, 9, 16] I I8806 := fs_tr frq0 (fs_mono fqI8806 (by decide))
    have fr8811 : fz 49 g [5] J J8807 := fz_tr frj0 (fz_mono fjI8806 (by decide))
    have e8812 : I8806 (ad g 0) 15 = w8631 := by rw [sI8806_0_15]; exact ew8631
    have e8813 : I8806 (ad g 0) 16 = v8633 := by rw [sI8806_0_16]; exact ev8633
    have e8814 : I8806 (ad g 0) 17 = w8632 := by rw [sI8806_0_17]; exact ew8632
    have e8815 : I8806 (ad g 0) 1 = L := hI8806.1.2
    have b8816 := BT_get hI8806.1.1 0 1 2 (0) (0) (900) (by decide) 1 (by decide) (by decide)
    rw [e8815] at b8816
    obtain ⟨w8817, ew8817⟩ : ∃ w : Int32, I8806 (ad g 0) 2 = w := ⟨_, rfl⟩
    have bw8817 := BT_get hI8806.1.1 0 2 3 (0) (0) (900) (by decide) 2 (by decide) (by decide)
    rw [ew8817] at bw8817
    obtain ⟨w8818, ew8818⟩ : ∃ w : Int32, I8806 (ad g 0) 3 = w := ⟨_, rfl⟩
    have bw8818 := BT_get hI8806.1.1 0 3 4 (0) (0) (900) (by decide) 3 (by decide) (by decide)
    rw [ew8818] at bw8818
    obtain ⟨w8819, ew8819⟩ : ∃ w : Int32, I8806 (ad g 0) 4 = w := ⟨_, rfl⟩
    have bw8819 := BT_get hI8806.1.1 0 4 5 (0) (0) (900) (by decide) 4 (by decide) (by decide)
    rw [ew8819] at bw8819
    obtain ⟨w8820, ew8820⟩ : ∃ w : Int32, I8806 (ad g 0) 5 = w := ⟨_, rfl⟩
    have bw8820 := BT_get hI8806.1.1 0 5 6 (0) (0) (4) (by decide) 5 (by decide) (by decide)
    rw [ew8820] at bw8820
    rw [ew8817, ew8818, ew8819, ew8820, ew8628] at pI8806
    exact WP_zret dX11_readThingOf_13 rfl (nar_z (by omega)) ⟨⟨hI8806, rfl, fr8809, fr8811, fr8810, (by rw [ew8817, ew8818, ew8819, ew8820, e8812, e8814, ew8628]; omega)⟩, _, rfl, by omega, by omega, (fun h => False.elim (by omega))⟩
set_option maxHeartbeats 4000000 in
set_option maxRecDepth 100000 in
theorem sm_readEarnsx {g : GG} {n : Int} {L : Int32} (hy : Ly g)  {I : pI} {J : pJ} {R : pR} (hr : Rf g R) (hI : MP g n L I)   (hb : ((I (ad g 0) 4).toInt ≤ (I (ad g 0) 2).toInt ∧ (I (ad g 0) 3).toInt ≤ (I (ad g 0) 4).toInt ∧ ((I (ad g 0) 5).toInt = 0 ∨ (I (ad g 0) 3).toInt < (I (ad g 0) 4).toInt)) ∧ (I (ad g 0) 17).toInt < (I (ad g 0) 15).toInt) (hw : WRt (I (ad g 30)) (I (ad g 31)) (7 * (I (ad g 0) 15).toInt)) : SP g mX11_readEarns [.ref (ad g 0)] I J R (fun r I' J' R' => (MP g n L I' ∧ R' = R ∧ fz 49 g [0, 27, 33] I I' ∧ fz 49 g [] J J' ∧ fs g [3, 4, 5, 6, 7, 8, 9] I I' ∧ (((I' (ad g 0) 4).toInt ≤ (I' (ad g 0) 2).toInt ∧ (I' (ad g 0) 3).toInt ≤ (I' (ad g 0) 4).toInt ∧ ((I' (ad g 0) 5).toInt = 0 ∨ (I' (ad g 0) 3).toInt < (I' (ad g 0) 4).toInt)) ∧ (I (ad g 0) 3).toInt ≤ (I' (ad g 0) 3).toInt ∧ (I' (ad g 0) 17).toInt < (I' (ad g 0) 15).toInt)) ∧ ∃ v : Int32, r = some (.int v) ∧ 0 ≤ v.toInt ∧ v.toInt ≤ 1 ∧ (v.toInt = 1 → WRt (I' (ad g 30)) (I' (ad g 31)) (7 * (I' (ad g 0) 15).toInt))) := by
  refine SP_of ⟨by decide, rfl⟩ (Nat.le_of_ble_eq_true rfl) ?_
  have e8821 : I (ad g 0) 1 = L := hI.1.2
  have b8822 := BT_get hI.1.1 0 1 2 (0) (0) (900) (by decide) 1 (by decide) (by decide)
  rw [e8821] at b8822
  have fr0 : fz 49 g [0, 27, 33] I I := fz_rf
  have frj0 : fz 49 g [] J J := fz_rf
  have frq0 : fs g [3, 4, 5, 6, 7, 8, 9] I I := fs_rf
  obtain ⟨w8823, ew8823⟩ : ∃ w : Int32, I (ad g 0) 2 = w := ⟨_, rfl⟩
  have bw8823 := BT_get hI.1.1 0 2 3 (0) (0) (900) (by decide) 2 (by decide) (by decide)
  rw [ew8823] at bw8823
  obtain ⟨w8824, ew8824⟩ : ∃ w : Int32, I (ad g 0) 3 = w := ⟨_, rfl⟩
  have bw8824 := BT_get hI.1.1 0 3 4 (0) (0) (900) (by decide) 3 (by decide) (by decide)
  rw [ew8824] at bw8824
  obtain ⟨w8825, ew8825⟩ : ∃ w : Int32, I (ad g 0) 4 = w := ⟨_, rfl⟩
  have bw8825 := BT_get hI.1.1 0 4 5 (0) (0) (900) (by decide) 4 (by decide) (by decide)
  rw [ew8825] at bw8825
  obtain ⟨w8826, ew8826⟩ : ∃ w : Int32, I (ad g 0) 5 = w := ⟨_, rfl⟩
  have bw8826 := BT_get hI.1.1 0 5 6 (0) (0) (4) (by decide) 5 (by decide) (by decide)
  rw [ew8826] at bw8826
  obtain ⟨w8827, ew8827⟩ : ∃ w : Int32, I (ad g 0) 15 = w := ⟨_, rfl⟩
  have bw8827 := BT_get hI.1.1 0 15 16 (0) (0) (4) (by decide) 15 (by decide) (by decide)
  rw [ew8827] at bw8827
  obtain ⟨w8828, ew8828⟩ : ∃ w : Int32, I (ad g 0) 17 = w := ⟨_, rfl⟩
  have bw8828 := BT_get hI.1.1 0 17 18 (-1) (0) (3) (by decide) 17 (by decide) (by decide)
  rw [ew8828] at bw8828
  rw [ew8823, ew8824, ew8825, ew8826, ew8827, ew8828] at hb
  refine WP_aload_n dX11_readEarns_0 rfl ?_
  refine WP_callV0 (k := 11) dX11_readEarns_1 ⟨⟨⟨by decide, by decide⟩, zX11_scan⟩, lX11_63, by decide, rfl, vX11_scan.1, vX11_scan.2⟩ (ly_is hy 0 11 rfl) (sm_scanx hy hr hI   (by rw [ew8825, ew8823]; omega)) (Nat.le_of_ble_eq_true rfl) ?_
  intro r I8829 J8830 Ra hq
  obtain ⟨⟨hI8829, ec, fiI8829, fjI8829, fqI8829, ⟨pI8829, sI8829_0_7, sI8829_0_15, sI8829_0_16, sI8829_0_17, sI8829_0_18⟩⟩, rfl⟩ := hq
  rw [ec]
  clear ec Ra
  have fr8831 : fz 49 g [0, 27, 33] I I8829 := fz_tr fr0 (fz_mono fiI8829 (by decide))
  have fr8832 : fs g [3, 4, 5, 6, 7, 8, 9] I I8829 := fs_tr frq0 (fs_mono fqI8829 (by decide))
  have fr8833 : fz 49 g [] J J8830 := fz_tr frj0 (fz_mono fjI8829 (by decide))
  have e8834 : I8829 (ad g 0) 15 = w8827 := by rw [sI8829_0_15]; exact ew8827
  have e8835 : I8829 (ad g 0) 17 = w8828 := by rw [sI8829_0_17]; exact ew8828
  have e8836 : I8829 (ad g 0) 1 = L := hI8829.1.2
  have b8837 := BT_get hI8829.1.1 0 1 2 (0) (0) (900) (by decide) 1 (by decide) (by decide)
  rw [e8836] at b8837
  obtain ⟨w8838, ew8838⟩ : ∃ w : Int32, I8829 (ad g 0) 2 = w := ⟨_, rfl⟩
  have bw8838 := BT_get hI8829.1.1 0 2 3 (0) (0) (900) (by decide) 2 (by decide) (by decide)
  rw [ew8838] at bw8838
  obtain ⟨w8839, ew8839⟩ : ∃ w : Int32, I8829 (ad g 0) 3 = w := ⟨_, rfl⟩
  have bw8839 := BT_get hI8829.1.1 0 3 4 (0) (0) (900) (by decide) 3 (by decide) (by decide)
  rw [ew8839] at bw8839
  obtain ⟨w8840, ew8840⟩ : ∃ w : Int32, I8829 (ad g 0) 4 = w := ⟨_, rfl⟩
  have bw8840 := BT_get hI8829.1.1 0 4 5 (0) (0) (900) (by decide) 4 (by decide) (by decide)
  rw [ew8840] at bw8840
  obtain ⟨w8841, ew8841⟩ : ∃ w : Int32, I8829 (ad g 0) 5 = w := ⟨_, rfl⟩
  have bw8841 := BT_get hI8829.1.1 0 5 6 (0) (0) (4) (by decide) 5 (by decide) (by decide)
  rw [ew8841] at bw8841
  rw [ew8838, ew8839, ew8840, ew8841, ew8825] at pI8829
  refine WP_aload_n dX11_readEarns_4 rfl ?_
  refine WP_aload_n dX11_readEarns_5 rfl ?_
  refine WP_getr dX11_readEarns_6 fX11_91 rfl (ly_is hy 0 11 rfl) (rf hr 0 22 4 (by decide)) ?_
  refine WP_aload_n dX11_readEarns_9 rfl ?_
  refine WQ_getim dX11_readEarns_10 fX11_88 rfl (ly_is hy 0 11 rfl) e8834 ?_
  refine WP_callV2 (k := 11) dX11_readEarns_13 ⟨⟨⟨by decide, by decide⟩, zX11_known⟩, lX11_147, by decide, rfl, vX11_known.1, vX11_known.2⟩ (ly_is hy 0 11 rfl) (sm_knownx_4 hy hr hI8829 w8827 (by omega) (by omega) (by rw [ew8838, ew8839, ew8840, ew8841]; omega)) (Nat.le_of_ble_eq_true rfl) ?_
  intro r I8842 J8843 Ra hq
  obtain ⟨⟨hI8842, ec, fiI8842, fjI8842, fqI8842, ⟨pI8842, sI8842_0_15, sI8842_0_16, sI8842_0_17, sI8842_0_18⟩⟩, v8844, rfl, av8844, bv8844, cv8844⟩ := hq
  show WP _ _ _ _ (.int _ :: _) _ _ _ _
  rw [ec]
  clear ec Ra
  have fr8845 : fz 49 g [0, 27, 33] I I8842 := fz_tr fr8831 (fz_mono fiI8842 (by decide))
  have fr8846 : fs g [3, 4, 5, 6, 7, 8, 9] I I8842 := fs_tr fr8832 (fs_mono fqI8842 (by decide))
  have fr8847 : fz 49 g [] J J8843 := fz_tr fr8833 (fz_mono fjI8842 (by decide))
  have e8848 : I8842 (ad g 0) 15 = w8827 := by rw [sI8842_0_15]; exact e8834
  have e8849 : I8842 (ad g 0) 17 = w8828 := by rw [sI8842_0_17]; exact e8835
  have e8850 : I8842 (ad g 0) 1 = L := hI8842.1.2
  have b8851 := BT_get hI8842.1.1 0 1 2 (0) (0) (900) (by decide) 1 (by decide) (by decide)
  rw [e8850] at b8851
  obtain ⟨w8852, ew8852⟩ : ∃ w : Int32, I8842 (ad g 0) 2 = w := ⟨_, rfl⟩
  have bw8852 := BT_get hI8842.1.1 0 2 3 (0) (0) (900) (by decide) 2 (by decide) (by decide)
  rw [ew8852] at bw8852
  obtain ⟨w8853, ew8853⟩ : ∃ w : Int32, I8842 (ad g 0) 3 = w := ⟨_, rfl⟩
  have bw8853 := BT_get hI8842.1.1 0 3 4 (0) (0) (900) (by decide) 3 (by decide) (by decide)
  rw [ew8853] at bw8853
  obtain ⟨w8854, ew8854⟩ : ∃ w : Int32, I8842 (ad g 0) 4 = w := ⟨_, rfl⟩
  have bw8854 := BT_get hI8842.1.1 0 4 5 (0) (0) (900) (by decide) 4 (by decide) (by decide)
  rw [ew8854] at bw8854
  obtain ⟨w8855, ew8855⟩ : ∃ w : Int32, I8842 (ad g 0) 5 = w := ⟨_, rfl⟩
  have bw8855 := BT_get hI8842.1.1 0 5 6 (0) (0) (4) (by decide) 5 (by decide) (by decide)
  rw [ew8855] at bw8855
  rw [ew8852, ew8853, ew8854, ew8855, ew8839] at pI8842
  obtain ⟨w8856, ew8856⟩ : ∃ w : Int32, I8842 (ad g 0) 7 = w := ⟨_, rfl⟩
  have bw8856 := BT_get hI8842.1.1 0 7 8 (-1) (0) (1000) (by decide) 7 (by decide) (by decide)
  rw [ew8856] at bw8856
  rw [ew8856] at cv8844
  refine WQ_if_ne 21 dX11_readEarns_16 rfl (fun c8856 => ?_) (fun c8856 => ?_)
  · refine WP_aload_n dX11_readEarns_21 rfl ?_
    refine WQ_getim dX11_readEarns_22 fX11_56 rfl (ly_is hy 0 11 rfl) ew8856 ?_
    refine WP_istore_n (ls' := [(0, _), (1, _)]) dX11_readEarns_25 (by decide) rfl ?_
    refine WP_aload_n dX11_readEarns_26 rfl ?_
    refine WQ_iconst (0) (0) dX11_readEarns_27 rfl rfl (fun v8858 hv8858 => ?_)
    refine WQ_bipush (6) (6) dX11_readEarns_28 rfl rfl (fun v8859 hv8859 => ?_)
    refine WP_callV2 (k := 11) dX11_readEarns_30 ⟨⟨⟨by decide, by decide⟩, zX11_peek⟩, lX11_59, by decide, rfl, vX11_peek.1, vX11_peek.2⟩ (ly_is hy 0 11 rfl) (sm_peekx hy hr hI8842 v8858 v8859 (by omega) (by omega) (by omega) (by omega) (by rw [ew8852, ew8853, ew8854, ew8855]; omega)) (Nat.le_of_ble_eq_true rfl) ?_
    intro r I8860 J8861 Ra hq
    obtain ⟨⟨hI8860, ec, fiI8860, fjI8860, fqI8860, ⟨pI8860, sI8860_0_15, sI8860_0_16, sI8860_0_17, sI8860_0_18⟩⟩, v8862, rfl, av8862, bv8862, cv8862⟩ := hq
    show WP _ _ _ _ (.int _ :: _) _ _ _ _
    rw [ec]
    clear ec Ra
    have fr8863 : fz 49 g [0, 27, 33] I I8860 := fz_tr fr8845 (fz_mono fiI8860 (by decide))
    have fr8864 : fs g [3, 4, 5, 6, 7, 8, 9] I I8860 := fs_tr fr8846 (fs_mono fqI8860 (by decide))
    have fr8865 : fz 49 g [] J J8861 := fz_tr fr8847 (fz_mono fjI8860 (by decide))
    have e8866 : I8860 (ad g 0) 15 = w8827 := by rw [sI8860_0_15]; exact e8848
    have e8867 : I8860 (ad g 0) 17 = w8828 := by rw [sI8860_0_17]; exact e8849
    have e8868 : I8860 (ad g 0) 1 = L := hI8860.1.2
    have b8869 := BT_get hI8860.1.1 0 1 2 (0) (0) (900) (by decide) 1 (by decide) (by decide)
    rw [e8868] at b8869
    obtain ⟨w8870, ew8870⟩ : ∃ w : Int32, I8860 (ad g 0) 2 = w := ⟨_, rfl⟩
    have bw8870 := BT_get hI8860.1.1 0 2 3 (0) (0) (900) (by decide) 2 (by decide) (by decide)
    rw [ew8870] at bw8870
    obtain ⟨w8871, ew8871⟩ : ∃ w : Int32, I8860 (ad g 0) 3 = w := ⟨_, rfl⟩
    have bw8871 := BT_get hI8860.1.1 0 3 4 (0) (0) (900) (by decide) 3 (by decide) (by decide)
    rw [ew8871] at bw8871
    obtain ⟨w8872, ew8872⟩ : ∃ w : Int32, I8860 (ad g 0) 4 = w := ⟨_, rfl⟩
    have bw8872 := BT_get hI8860.1.1 0 4 5 (0) (0) (900) (by decide) 4 (by decide) (by decide)
    rw [ew8872] at bw8872
    obtain ⟨w8873, ew8873⟩ : ∃ w : Int32, I8860 (ad g 0) 5 = w := ⟨_, rfl⟩
    have bw8873 := BT_get hI8860.1.1 0 5 6 (0) (0) (4) (by decide) 5 (by decide) (by decide)
    rw [ew8873] at bw8873
    rw [ew8870, ew8871, ew8872, ew8873, ew8853] at pI8860
    obtain ⟨w8874, ew8874⟩ : ∃ w : Int32, I8860 (ad g 0) 7 = w := ⟨_, rfl⟩
    have bw8874 := BT_get hI8860.1.1 0 7 8 (-1) (0) (1000) (by decide) 7 (by decide) (by decide)
    rw [ew8874] at bw8874
    rw [ew8874] at cv8862
    refine WQ_if_ne 38 dX11_readEarns_33 rfl (fun c8874 => ?_) (fun c8874 => ?_)
    · refine WP_aload_n dX11_readEarns_38 rfl ?_
      refine WP_getr dX11_readEarns_39 fX11_111 rfl (ly_is hy 0 11 rfl) (rf hr 0 52 33 (by decide)) ?_
      refine WP_iload_n dX11_readEarns_42 rfl ?_
      refine WQ_ialdu dX11_readEarns_43 (ly_is hy 33 13 rfl) (ly_n hy 33 4 rfl) (by omega) (by omega) (fun v8876 => ?_)
      refine WP_aload_n dX11_readEarns_44 rfl ?_
      refine WQ_getim dX11_readEarns_45 fX11_56 rfl (ly_is hy 0 11 rfl) ew8874 ?_
      refine WQ_ishru dX11_readEarns_48 (fun v8877 => ?_)
      refine WQ_iconst (1) (1) dX11_readEarns_49 rfl rfl (fun v8878 hv8878 => ?_)
      refine WQ_iandu dX11_readEarns_50 (fun v8879 => ?_)
      refine WQ_iconst (1) (1) dX11_readEarns_51 rfl rfl (fun v8880 hv8880 => ?_)
      refine WQ_icmp_ne 61 dX11_readEarns_52 rfl (fun c8880 => ?_) (fun c8880 => ?_)
      · refine WP_aload_n dX11_readEarns_61 rfl ?_
        refine WP_getr dX11_readEarns_62 fX11_111 rfl (ly_is hy 0 11 rfl) (rf hr 0 52 33 (by decide)) ?_
        refine WP_iload_n dX11_readEarns_65 rfl ?_
        refine WP_dup2 dX11_readEarns_66 rfl rfl ?_
        refine WQ_ialdu dX11_readEarns_67 (ly_is hy 33 13 rfl) (ly_n hy 33 4 rfl) (by omega) (by omega) (fun v8882 => ?_)
        refine WQ_iconst (1) (1) dX11_readEarns_68 rfl rfl (fun v8883 hv8883 => ?_)
        refine WP_aload_n dX11_readEarns_69 rfl ?_
        refine WQ_getim dX11_readEarns_70 fX11_56 rfl (ly_is hy 0 11 rfl) ew8874 ?_
        refine WQ_ishlu dX11_readEarns_73 (fun v8884 => ?_)
        refine WQ_ioru dX11_readEarns_74 (fun v8885 => ?_)
        refine WQ_iast dX11_readEarns_75 (ly_is hy 33 13 rfl) (ly_n hy 33 4 rfl) (by omega) (by omega) (fun I8886 eI8886 => ?_)
        have hI8886 : MP g n L I8886 := by rw [eI8886]; exact (mp_w hy hI8860 (c := 33) (mi_r0 hy hI8860.1 (c := 33) (by decide) (Or.inl (by decide)) (by decide)) (by decide) (by decide) (Or.inl (by decide)))
        have e8887 : I8886 (ad g 0) 15 = w8827 := by rw [eI8886, pp_ne _ _ (Or.inl (ly_ne hy (by decide) (by decide) (by decide)))]; exact e8866
        have e8888 : I8886 (ad g 0) 17 = w8828 := by rw [eI8886, pp_ne _ _ (Or.inl (ly_ne hy (by decide) (by decide) (by decide)))]; exact e8867
        have e8889 : I8886 (ad g 0) 1 = L := by rw [eI8886, pp_ne _ _ (Or.inl (ly_ne hy (by decide) (by decide) (by decide)))]; exact e8868
        have e8890 : I8886 (ad g 0) 2 = w8870 := by rw [eI8886, pp_ne _ _ (Or.inl (ly_ne hy (by decide) (by decide) (by decide)))]; exact ew8870
        have e8891 : I8886 (ad g 0) 3 = w8871 := by rw [eI8886, pp_ne _ _ (Or.inl (ly_ne hy (by decide) (by decide) (by decide)))]; exact ew8871
        have e8892 : I8886 (ad g 0) 4 = w8872 := by rw [eI8886, pp_ne _ _ (Or.inl (ly_ne hy (by decide) (by decide) (by decide)))]; exact ew8872
        have e8893 : I8886 (ad g 0) 5 = w8873 := by rw [eI8886, pp_ne _ _ (Or.inl (ly_ne hy (by decide) (by decide) (by decide)))]; exact ew8873
        have e8894 : I8886 (ad g 0) 7 = w8874 := by rw [eI8886, pp_ne _ _ (Or.inl (ly_ne hy (by decide) (by decide) (by decide)))]; exact ew8874
        have fr8895 : fs g [3, 4, 5, 6, 7, 8, 9] I I8886 := by rw [eI8886]; exact fs_ppn hy fr8864 (by decide) (by decide)
        have fr8896 : fz 49 g [0, 27, 33] I I8886 := by rw [eI8886]; exact fzm_pp hy fr8863 (by decide) (by decide)
        clear eI8886
        refine WQ_bipush (7) (7) dX11_readEarns_76 rfl rfl (fun v8897 hv8897 => ?_)
        refine WP_iload_n dX11_readEarns_78 rfl ?_
        refine WQ_imulK (7) dX11_readEarns_79 hv8897 (by omega) (by omega) (fun v8898 hv8898 => ?_)
        refine WP_aload_n dX11_readEarns_80 rfl ?_
        refine WQ_getim dX11_readEarns_81 fX11_56 rfl (ly_is hy 0 11 rfl) e8894 ?_
        refine WQ_iadd dX11_readEarns_84 (by omega) (by omega) (fun v8899 hv8899 => ?_)
        refine WP_istore_n (ls' := [(0, _), (1, _), (2, _)]) dX11_readEarns_85 (by decide) rfl ?_
        refine WP_aload_n dX11_readEarns_86 rfl ?_
        refine WP_callV0 (k := 11) dX11_readEarns_87 ⟨⟨⟨by decide, by decide⟩, zX11_scan⟩, lX11_63, by decide, rfl, vX11_scan.1, vX11_scan.2⟩ (ly_is hy 0 11 rfl) (sm_scanx hy hr hI8886   (by rw [e8892, e8890]; omega)) (Nat.le_of_ble_eq_true rfl) ?_
        intro r I8900 J8901 Ra hq
        obtain ⟨⟨hI8900, ec, fiI8900, fjI8900, fqI8900, ⟨pI8900, sI8900_0_7, sI8900_0_15, sI8900_0_16, sI8900_0_17, sI8900_0_18⟩⟩, rfl⟩ := hq
        rw [ec]
        clear ec Ra
        have fr8902 : fz 49 g [0, 27, 33] I I8900 := fz_tr fr8896 (fz_mono fiI8900 (by decide))
        have fr8903 : fs g [3, 4, 5, 6, 7, 8, 9] I I8900 := fs_tr fr8895 (fs_mono fqI8900 (by decide))
        have fr8904 : fz 49 g [] J J8901 := fz_tr fr8865 (fz_mono fjI8900 (by decide))
        have e8905 : I8900 (ad g 0) 7 = w8874 := by rw [sI8900_0_7]; exact e8894
        have e8906 : I8900 (ad g 0) 15 = w8827 := by rw [sI8900_0_15]; exact e8887
        have e8907 : I8900 (ad g 0) 17 = w8828 := by rw [sI8900_0_17]; exact e8888
        have e8908 : I8900 (ad g 0) 1 = L := hI8900.1.2
        have b8909 := BT_get hI8900.1.1 0 1 2 (0) (0) (900) (by decide) 1 (by decide) (by decide)
        rw [e8908] at b8909
        obtain ⟨w8910, ew8910⟩ : ∃ w : Int32, I8900 (ad g 0) 2 = w := ⟨_, rfl⟩
        have bw8910 := BT_get hI8900.1.1 0 2 3 (0) (0) (900) (by decide) 2 (by decide) (by decide)
        rw [ew8910] at bw8910
        obtain ⟨w8911, ew8911⟩ : ∃ w : Int32, I8900 (ad g 0) 3 = w := ⟨_, rfl⟩
        have bw8911 := BT_get hI8900.1.1 0 3 4 (0) (0) (900) (by decide) 3 (by decide) (by decide)
        rw [ew8911] at bw8911
        obtain ⟨w8912, ew8912⟩ : ∃ w : Int32, I8900 (ad g 0) 4 = w := ⟨_, rfl⟩
        have bw8912 := BT_get hI8900.1.1 0 4 5 (0) (0) (900) (by decide) 4 (by decide) (by decide)
        rw [ew8912] at bw8912
        obtain ⟨w8913, ew8913⟩ : ∃ w : Int32, I8900 (ad g 0) 5 = w := ⟨_, rfl⟩
        have bw8913 := BT_get hI8900.1.1 0 5 6 (0) (0) (4) (by decide) 5 (by decide) (by decide)
        rw [ew8913] at bw8913
        rw [ew8910, ew8911, ew8912, ew8913, e8892] at pI8900
        refine WP_aload_n dX11_readEarns_90 rfl ?_
        refine WQ_iconst (1) (1) dX11_readEarns_91 rfl rfl (fun v8914 hv8914 => ?_)
        refine WQ_bipush (20) (20) dX11_readEarns_92 rfl rfl (fun v8915 hv8915 => ?_)
        refine WP_callV2 (k := 11) dX11_readEarns_94 ⟨⟨⟨by decide, by decide⟩, zX11_number⟩, lX11_81, by decide, rfl, vX11_number.1, vX11_number.2⟩ (ly_is hy 0 11 rfl) (sm_numberx hy hr hI8900 v8914 v8915 (by omega) (by omega) (by omega) (by omega) (by rw [ew8910, ew8911, ew8912, ew8913]; omega)) (Nat.le_of_ble_eq_true rfl) ?_
        intro r I8916 J8917 Ra hq
        obtain ⟨⟨hI8916, ec, fiI8916, fjI8916, fqI8916, ⟨pI8916, sI8916_0_15, sI8916_0_16, sI8916_0_17, sI8916_0_18⟩⟩, v8918, rfl, av8918, bv8918, cv8918⟩ := hq
        show WP _ _ _ _ (.int _ :: _) _ _ _ _
        rw [ec]
        clear ec Ra
        have fr8919 : fz 49 g [0, 27, 33] I I8916 := fz_tr fr8902 (fz_mono fiI8916 (by decide))
        have fr8920 : fs g [3, 4, 5, 6, 7, 8, 9] I I8916 := fs_tr fr8903 (fs_mono fqI8916 (by decide))
        have fr8921 : fz 49 g [] J J8917 := fz_tr fr8904 (fz_mono fjI8916 (by decide))
        have e8922 : I8916 (ad g 0) 15 = w8827 := by rw [sI8916_0_15]; exact e8906
        have e8923 : I8916 (ad g 0) 17 = w8828 := by rw [sI8916_0_17]; exact e8907
        have e8924 : I8916 (ad g 0) 1 = L := hI8916.1.2
        have b8925 := BT_get hI8916.1.1 0 1 2 (0) (0) (900) (by decide) 1 (by decide) (by decide)
        rw [e8924] at b8925
        obtain ⟨w8926, ew8926⟩ : ∃ w : Int32, I8916 (ad g 0) 2 = w := ⟨_, rfl⟩
        have bw8926 := BT_get hI8916.1.1 0 2 3 (0) (0) (900) (by decide) 2 (by decide) (by decide)
        rw [ew8926] at bw8926
        obtain ⟨w8927, ew8927⟩ : ∃ w : Int32, I8916 (ad g 0) 3 = w := ⟨_, rfl⟩
        have bw8927 := BT_get hI8916.1.1 0 3 4 (0) (0) (900) (by decide) 3 (by decide) (by decide)
        rw [ew8927] at bw8927
        obtain ⟨w8928, ew8928⟩ : ∃ w : Int32, I8916 (ad g 0) 4 = w := ⟨_, rfl⟩
        have bw8928 := BT_get hI8916.1.1 0 4 5 (0) (0) (900) (by decide) 4 (by decide) (by decide)
        rw [ew8928] at bw8928
        obtain ⟨w8929, ew8929⟩ : ∃ w : Int32, I8916 (ad g 0) 5 = w := ⟨_, rfl⟩
        have bw8929 := BT_get hI8916.1.1 0 5 6 (0) (0) (4) (by decide) 5 (by decide) (by decide)
        rw [ew8929] at bw8929
        rw [ew8926, ew8927, ew8928, ew8929, ew8911] at pI8916
        obtain ⟨w8930, ew8930⟩ : ∃ w : Int32, I8916 (ad g 0) 7 = w := ⟨_, rfl⟩
        have bw8930 := BT_get hI8916.1.1 0 7 8 (-1) (0) (1000) (by decide) 7 (by decide) (by decide)
        rw [ew8930] at bw8930
        rw [ew8930] at cv8918
        refine WQ_if_ne 102 dX11_readEarns_97 rfl (fun c8930 => ?_) (fun c8930 => ?_)
        · refine WP_aload_n dX11_readEarns_102 rfl ?_
          refine WP_getr dX11_readEarns_103 fX11_114 rfl (ly_is hy 0 11 rfl) (rf hr 0 45 27 (by decide)) ?_
          refine WP_iload_n dX11_readEarns_106 rfl ?_
          refine WP_aload_n dX11_readEarns_107 rfl ?_
          refine WQ_getim dX11_readEarns_108 fX11_56 rfl (ly_is hy 0 11 rfl) ew8930 ?_
          refine WQ_iast dX11_readEarns_111 (ly_is hy 27 13 rfl) (ly_n hy 27 28 rfl) (by omega) (by omega) (fun I8932 eI8932 => ?_)
          have hI8932 : MP g n L I8932 := by rw [eI8932]; exact (mp_w hy hI8916 (c := 27) (mi_r hy hI8916.1 (c := 27) (0) (0) (20) (by decide) (Or.inl (by decide)) (by decide) (by omega) (by omega)) (by decide) (by decide) (Or.inl (by decide)))
          have e8933 : I8932 (ad g 0) 15 = w8827 := by rw [eI8932, pp_ne _ _ (Or.inl (ly_ne hy (by decide) (by decide) (by decide)))]; exact e8922
          have e8934 : I8932 (ad g 0) 17 = w8828 := by rw [eI8932, pp_ne _ _ (Or.inl (ly_ne hy (by decide) (by decide) (by decide)))]; exact e8923
          have e8935 : I8932 (ad g 0) 1 = L := by rw [eI8932, pp_ne _ _ (Or.inl (ly_ne hy (by decide) (by decide) (by decide)))]; exact e8924
          have e8936 : I8932 (ad g 0) 2 = w8926 := by rw [eI8932, pp_ne _ _ (Or.inl (ly_ne hy (by decide) (by decide) (by decide)))]; exact ew8926
          have e8937 : I8932 (ad g 0) 3 = w8927 := by rw [eI8932, pp_ne _ _ (Or.inl (ly_ne hy (by decide) (by decide) (by decide)))]; exact ew8927
          have e8938 : I8932 (ad g 0) 4 = w8928 := by rw [eI8932, pp_ne _ _ (Or.inl (ly_ne hy (by decide) (by decide) (by decide)))]; exact ew8928
          have e8939 : I8932 (ad g 0) 5 = w8929 := by rw [eI8932, pp_ne _ _ (Or.inl (ly_ne hy (by decide) (by decide) (by decide)))]; exact ew8929
          have e8940 : I8932 (ad g 0) 7 = w8930 := by rw [eI8932, pp_ne _ _ (Or.inl (ly_ne hy (by decide) (by decide) (by decide)))]; exact ew8930
          have fr8941 : fs g [3, 4, 5, 6, 7, 8, 9] I I8932 := by rw [eI8932]; exact fs_ppn hy fr8920 (by decide) (by decide)
          have fr8942 : fz 49 g [0, 27, 33] I I8932 := by rw [eI8932]; exact fzm_pp hy fr8919 (by decide) (by decide)
          clear eI8932
          refine WQ_iconst (1) (1) dX11_readEarns_112 rfl rfl (fun v8943 hv8943 => ?_)
          exact WP_zret dX11_readEarns_113 rfl (nar_z (by omega)) ⟨⟨hI8932, rfl, fr8942, fr8921, fr8941, (by rw [e8936, e8937, e8938, e8939, e8933, e8934, ew8824]; omega)⟩, _, rfl, by omega, by omega, (fun _ => by rw [fz_at fr8942 30 (by decide) (by decide), fz_at fr8942 31 (by decide) (by decide), show I8932 (ad g 0) 15 = I (ad g 0) 15 from (by rw [e8933, ew8827] <;> exact (eq32 _ _).mpr (by omega))]; exact hw)⟩
        · refine WQ_iconst (0) (0) dX11_readEarns_100 rfl rfl (fun v8944 hv8944 => ?_)
          exact WP_zret dX11_readEarns_101 rfl (nar_z (by omega)) ⟨⟨hI8916, rfl, fr8919, fr8921, fr8920, (by rw [ew8926, ew8927, ew8928, ew8929, e8922, e8923, ew8824]; omega)⟩, _, rfl, by omega, by omega, (fun h => False.elim (by omega))⟩
      · refine WP_aload_n dX11_readEarns_55 rfl ?_
        refine WQ_iconst (3) (3) dX11_readEarns_56 rfl rfl (fun v8945 hv8945 => ?_)
        refine WP_callV1 (k := 11) dX11_readEarns_57 ⟨⟨⟨by decide, by decide⟩, zX11_bad⟩, lX11_49, by decide, rfl, vX11_bad.1, vX11_bad.2⟩ (ly_is hy 0 11 rfl) (sm_badx hy hr hI8860 v8945  (by rw [ew8870, ew8871, ew8872, ew8873]; omega)) (Nat.le_of_ble_eq_true rfl) ?_
        intro r I8946 J8947 Ra hq
        obtain ⟨⟨hI8946, ec, fiI8946, fjI8946, fqI8946, ⟨pI8946, sI8946_0_15, sI8946_0_16, sI8946_0_17, sI8946_0_18⟩⟩, v8948, rfl, av8948, bv8948⟩ := hq
        show WP _ _ _ _ (.int _ :: _) _ _ _ _
        rw [ec]
        clear ec Ra
        have fr8949 : fz 49 g [0, 27, 33] I I8946 := fz_tr fr8863 (fz_mono fiI8946 (by decide))
        have fr8950 : fs g [3, 4, 5, 6, 7, 8, 9] I I8946 := fs_tr fr8864 (fs_mono fqI8946 (by decide))
        have fr8951 : fz 49 g [] J J8947 := fz_tr fr8865 (fz_mono fjI8946 (by decide))
        have e8952 : I8946 (ad g 0) 15 = w8827 := by rw [sI8946_0_15]; exact e8866
        have e8953 : I8946 (ad g 0) 17 = w8828 := by rw [sI8946_0_17]; exact e8867
        have e8954 : I8946 (ad g 0) 1 = L := hI8946.1.2
        have b8955 := BT_get hI8946.1.1 0 1 2 (0) (0) (900) (by decide) 1 (by decide) (by decide)
        rw [e8954] at b8955
        obtain ⟨w8956, ew8956⟩ : ∃ w : Int32, I8946 (ad g 0) 2 = w := ⟨_, rfl⟩
        have bw8956 := BT_get hI8946.1.1 0 2 3 (0) (0) (900) (by decide) 2 (by decide) (by decide)
        rw [ew8956] at bw8956
        obtain ⟨w8957, ew8957⟩ : ∃ w : Int32, I8946 (ad g 0) 3 = w := ⟨_, rfl⟩
        have bw8957 := BT_get hI8946.1.1 0 3 4 (0) (0) (900) (by decide) 3 (by decide) (by decide)
        rw [ew8957] at bw8957
        obtain ⟨w8958, ew8958⟩ : ∃ w : Int32, I8946 (ad g 0) 4 = w := ⟨_, rfl⟩
        have bw8958 := BT_get hI8946.1.1 0 4 5 (0) (0) (900) (by decide) 4 (by decide) (by decide)
        rw [ew8958] at bw8958
        obtain ⟨w8959, ew8959⟩ : ∃ w : Int32, I8946 (ad g 0) 5 = w := ⟨_, rfl⟩
        have bw8959 := BT_get hI8946.1.1 0 5 6 (0) (0) (4) (by decide) 5 (by decide) (by decide)
        rw [ew8959] at bw8959
        rw [ew8956, ew8957, ew8958, ew8959, ew8871] at pI8946
        exact WP_zret dX11_readEarns_60 rfl (nar_z (by omega)) ⟨⟨hI8946, rfl, fr8949, fr8951, fr8950, (by rw [ew8956, ew8957, ew8958, ew8959, e8952, e8953, ew8824]; omega)⟩, _, rfl, by omega, by omega, (fun h => False.elim (by omega))⟩
    · refine WQ_iconst (0) (0) dX11_readEarns_36 rfl rfl (fun v8960 hv8960 => ?_)
      exact WP_zret dX11_readEarns_37 rfl (nar_z (by omega)) ⟨⟨hI8860, rfl, fr8863, fr8865, fr8864, (by rw [ew8870, ew8871, ew8872, ew8873, e8866, e8867, ew8824]; omega)⟩, _, rfl, by omega, by omega, (fun h => False.elim (by omega))⟩
  · refine WQ_iconst (0) (0) dX11_readEarns_19 rfl rfl (fun v8961 hv8961 => ?_)
    exact WP_zret dX11_readEarns_20 rfl (nar_z (by omega)) ⟨⟨hI8842, rfl, fr8845, fr8847, fr8846, (by rw [ew8852, ew8853, ew8854, ew8855, e8848, e8849, ew8824]; omega)⟩, _, rfl, by omega, by omega, (fun h => False.elim (by omega))⟩
set_option maxHeartbeats 4000000 in
set_option maxRecDepth 100000 in
theorem sm_readPricesx {g : GG} {n : Int} {L : Int32} (hy : Ly g)  {I : pI} {J : pJ} {R : pR} (hr : Rf g R) (hI : MP g n L I)   (hb : ((I (ad g 0) 4).toInt ≤ (I (ad g 0) 2).toInt ∧ (I (ad g 0) 3).toInt ≤ (I (ad g 0) 4).toInt ∧ ((I (ad g 0) 5).toInt = 0 ∨ (I (ad g 0) 3).toInt < (I (ad g 0) 4).toInt)) ∧ (I (ad g 0) 17).toInt < (I (ad g 0) 15).toInt) (hw : WRt (I (ad g 30)) (I (ad g 31)) (7 * (I (ad g 0) 15).toInt)) : SP g mX11_readPrices [.ref (ad g 0)] I J R (fun r I' J' R' => (MP g n L I' ∧ R' = R ∧ fz 49 g [0, 28, 34] I I' ∧ fz 49 g [] J J' ∧ fs g [3, 4, 5, 6, 7, 8, 9] I I' ∧ (((I' (ad g 0) 4).toInt ≤ (I' (ad g 0) 2).toInt ∧ (I' (ad g 0) 3).toInt ≤ (I' (ad g 0) 4).toInt ∧ ((I' (ad g 0) 5).toInt = 0 ∨ (I' (ad g 0) 3).toInt < (I' (ad g 0) 4).toInt)) ∧ (I (ad g 0) 3).toInt ≤ (I' (ad g 0) 3).toInt ∧ (I' (ad g 0) 17).toInt < (I' (ad g 0) 15).toInt)) ∧ ∃ v : Int32, r = some (.int v) ∧ 0 ≤ v.toInt ∧ v.toInt ≤ 1 ∧ (v.toInt = 1 → WRt (I' (ad g 30)) (I' (ad g 31)) (7 * (I' (ad g 0) 15).toInt))) := by
  refine SP_of ⟨by decide, rfl⟩ (Nat.le_of_ble_eq_true rfl) ?_
  have e8962 : I (ad g 0) 1 = L := hI.1.2
  have b8963 := BT_get hI.1.1 0 1 2 (0) (0) (900) (by decide) 1 (by decide) (by decide)
  rw [e8962] at b8963
  have fr0 : fz 49 g [0, 28, 34] I I := fz_rf
  have frj0 : fz 49 g [] J J := fz_rf
  have frq0 : fs g [3, 4, 5, 6, 7, 8, 9] I I := fs_rf
  obtain ⟨w8964, ew8964⟩ : ∃ w : Int32, I (ad g 0) 2 = w := ⟨_, rfl⟩
  have bw8964 := BT_get hI.1.1 0 2 3 (0) (0) (900) (by decide) 2 (by decide) (by decide)
  rw [ew8964] at bw8964
  obtain ⟨w8965, ew8965⟩ : ∃ w : Int32, I (ad g 0) 3 = w := ⟨_, rfl⟩
  have bw8965 := BT_get hI.1.1 0 3 4 (0) (0) (900) (by decide) 3 (by decide) (by decide)
  rw [ew8965] at bw8965
  obtain ⟨w8966, ew8966⟩ : ∃ w : Int32, I (ad g 0) 4 = w := ⟨_, rfl⟩
  have bw8966 := BT_get hI.1.1 0 4 5 (0) (0) (900) (by decide) 4 (by decide) (by decide)
  rw [ew8966] at bw8966
  obtain ⟨w8967, ew8967⟩ : ∃ w : Int32, I (ad g 0) 5 = w := ⟨_, rfl⟩
  have bw8967 := BT_get hI.1.1 0 5 6 (0) (0) (4) (by decide) 5 (by decide) (by decide)
  rw [ew8967] at bw8967
  obtain ⟨w8968, ew8968⟩ : ∃ w : Int32, I (ad g 0) 15 = w := ⟨_, rfl⟩
  have bw8968 := BT_get hI.1.1 0 15 16 (0) (0) (4) (by decide) 15 (by decide) (by decide)
  rw [ew8968] at bw8968
  obtain ⟨w8969, ew8969⟩ : ∃ w : Int32, I (ad g 0) 17 = w := ⟨_, rfl⟩
  have bw8969 := BT_get hI.1.1 0 17 18 (-1) (0) (3) (by decide) 17 (by decide) (by decide)
  rw [ew8969] at bw8969
  rw [ew8964, ew8965, ew8966, ew8967, ew8968, ew8969] at hb
  refine WP_aload_n dX11_readPrices_0 rfl ?_
  refine WP_callV0 (k := 11) dX11_readPrices_1 ⟨⟨⟨by decide, by decide⟩, zX11_scan⟩, lX11_63, by decide, rfl, vX11_scan.1, vX11_scan.2⟩ (ly_is hy 0 11 rfl) (sm_scanx hy hr hI   (by rw [ew8966, ew8964]; omega)) (Nat.le_of_ble_eq_true rfl) ?_
  intro r I8970 J8971 Ra hq
  obtain ⟨⟨hI8970, ec, fiI8970, fjI8970, fqI8970, ⟨pI8970, sI8970_0_7, sI8970_0_15, sI8970_0_16, sI8970_0_17, sI8970_0_18⟩⟩, rfl⟩ := hq
  rw [ec]
  clear ec Ra
  have fr8972 : fz 49 g [0, 28, 34] I I8970 := fz_tr fr0 (fz_mono fiI8970 (by decide))
  have fr8973 : fs g [3, 4, 5, 6, 7, 8, 9] I I8970 := fs_tr frq0 (fs_mono fqI8970 (by decide))
  have fr8974 : fz 49 g [] J J8971 := fz_tr frj0 (fz_mono fjI8970 (by decide))
  have e8975 : I8970 (ad g 0) 15 = w8968 := by rw [sI8970_0_15]; exact ew8968
  have e8976 : I8970 (ad g 0) 17 = w8969 := by rw [sI8970_0_17]; exact ew8969
  have e8977 : I8970 (ad g 0) 1 = L := hI8970.1.2
  have b8978 := BT_get hI8970.1.1 0 1 2 (0) (0) (900) (by decide) 1 (by decide) (by decide)
  rw [e8977] at b8978
  obtain ⟨w8979, ew8979⟩ : ∃ w : Int32, I8970 (ad g 0) 2 = w := ⟨_, rfl⟩
  have bw8979 := BT_get hI8970.1.1 0 2 3 (0) (0) (900) (by decide) 2 (by decide) (by decide)
  rw [ew8979] at bw8979
  obtain ⟨w8980, ew8980⟩ : ∃ w : Int32, I8970 (ad g 0) 3 = w := ⟨_, rfl⟩
  have bw8980 := BT_get hI8970.1.1 0 3 4 (0) (0) (900) (by decide) 3 (by decide) (by decide)
  rw [ew8980] at bw8980
  obtain ⟨w8981, ew8981⟩ : ∃ w : Int32, I8970 (ad g 0) 4 = w := ⟨_, rfl⟩
  have bw8981 := BT_get hI8970.1.1 0 4 5 (0) (0) (900) (by decide) 4 (by decide) (by decide)
  rw [ew8981] at bw8981
  obtain ⟨w8982, ew8982⟩ : ∃ w : Int32, I8970 (ad g 0) 5 = w := ⟨_, rfl⟩
  have bw8982 := BT_get hI8970.1.1 0 5 6 (0) (0) (4) (by decide) 5 (by decide) (by decide)
  rw [ew8982] at bw8982
  rw [ew8979, ew8980, ew8981, ew8982, ew8966] at pI8970
  refine WP_aload_n dX11_readPrices_4 rfl ?_
  refine WP_aload_n dX11_readPrices_5 rfl ?_
  refine WP_getr dX11_readPrices_6 fX11_129 rfl (ly_is hy 0 11 rfl) (rf hr 0 23 5 (by decide)) ?_
  refine WP_aload_n dX11_readPrices_9 rfl ?_
  refine WQ_geti dX11_readPrices_10 fX11_126 rfl (ly_is hy 0 11 rfl) (BT_get hI8970.1.1 0 16 17 (0) (0) (3) (by decide) 16 (by decide) (by decide)) (fun v8983 ev8983 av8983 bv8983 => ?_)
  refine WP_callV2 (k := 11) dX11_readPrices_13 ⟨⟨⟨by decide, by decide⟩, zX11_known⟩, lX11_147, by decide, rfl, vX11_known.1, vX11_known.2⟩ (ly_is hy 0 11 rfl) (sm_knownx_5 hy hr hI8970 v8983 (by omega) (by omega) (by rw [ew8979, ew8980, ew8981, ew8982]; omega)) (Nat.le_of_ble_eq_true rfl) ?_
  intro r I8984 J8985 Ra hq
  obtain ⟨⟨hI8984, ec, fiI8984, fjI8984, fqI8984, ⟨pI8984, sI8984_0_15, sI8984_0_16, sI8984_0_17, sI8984_0_18⟩⟩, v8986, rfl, av8986, bv8986, cv8986⟩ := hq
  show WP _ _ _ _ (.int _ :: _) _ _ _ _
  rw [ec]
  clear ec Ra
  have fr8987 : fz 49 g [0, 28, 34] I I8984 := fz_tr fr8972 (fz_mono fiI8984 (by decide))
  have fr8988 : fs g [3, 4, 5, 6, 7, 8, 9] I I8984 := fs_tr fr8973 (fs_mono fqI8984 (by decide))
  have fr8989 : fz 49 g [] J J8985 := fz_tr fr8974 (fz_mono fjI8984 (by decide))
  have e8990 : I8984 (ad g 0) 15 = w8968 := by rw [sI8984_0_15]; exact e8975
  have e8991 : I8984 (ad g 0) 16 = v8983 := by rw [sI8984_0_16]; exact ev8983
  have e8992 : I8984 (ad g 0) 17 = w8969 := by rw [sI8984_0_17]; exact e8976
  have e8993 : I8984 (ad g 0) 1 = L := hI8984.1.2
  have b8994 := BT_get hI8984.1.1 0 1 2 (0) (0) (900) (by decide) 1 (by decide) (by decide)
  rw [e8993] at b8994
  obtain ⟨w8995, ew8995⟩ : ∃ w : Int32, I8984 (ad g 0) 2 = w := ⟨_, rfl⟩
  have bw8995 := BT_get hI8984.1.1 0 2 3 (0) (0) (900) (by decide) 2 (by decide) (by decide)
  rw [ew8995] at bw8995
  obtain ⟨w8996, ew8996⟩ : ∃ w : Int32, I8984 (ad g 0) 3 = w := ⟨_, rfl⟩
  have bw8996 := BT_get hI8984.1.1 0 3 4 (0) (0) (900) (by decide) 3 (by decide) (by decide)
  rw [ew8996] at bw8996
  obtain ⟨w8997, ew8997⟩ : ∃ w : Int32, I8984 (ad g 0) 4 = w := ⟨_, rfl⟩
  have bw8997 := BT_get hI8984.1.1 0 4 5 (0) (0) (900) (by decide) 4 (by decide) (by decide)
  rw [ew8997] at bw8997
  obtain ⟨w8998, ew8998⟩ : ∃ w : Int32, I8984 (ad g 0) 5 = w := ⟨_, rfl⟩
  have bw8998 := BT_get hI8984.1.1 0 5 6 (0) (0) (4) (by decide) 5 (by decide) (by decide)
  rw [ew8998] at bw8998
  rw [ew8995, ew8996, ew8997, ew8998, ew8980] at pI8984
  obtain ⟨w8999, ew8999⟩ : ∃ w : Int32, I8984 (ad g 0) 7 = w := ⟨_, rfl⟩
  have bw8999 := BT_get hI8984.1.1 0 7 8 (-1) (0) (1000) (by decide) 7 (by decide) (by decide)
  rw [ew8999] at bw8999
  rw [ew8999] at cv8986
  refine WQ_if_ne 21 dX11_readPrices_16 rfl (fun c8999 => ?_) (fun c8999 => ?_)
  · refine WP_aload_n dX11_readPrices_21 rfl ?_
    refine WQ_getim dX11_readPrices_22 fX11_56 rfl (ly_is hy 0 11 rfl) ew8999 ?_
    refine WP_istore_n (ls' := [(0, _), (1, _)]) dX11_readPrices_25 (by decide) rfl ?_
    refine WP_aload_n dX11_readPrices_26 rfl ?_
    refine WQ_iconst (0) (0) dX11_readPrices_27 rfl rfl (fun v9001 hv9001 => ?_)
    refine WQ_bipush (6) (6) dX11_readPrices_28 rfl rfl (fun v9002 hv9002 => ?_)
    refine WP_callV2 (k := 11) dX11_readPrices_30 ⟨⟨⟨by decide, by decide⟩, zX11_peek⟩, lX11_59, by decide, rfl, vX11_peek.1, vX11_peek.2⟩ (ly_is hy 0 11 rfl) (sm_peekx hy hr hI8984 v9001 v9002 (by omega) (by omega) (by omega) (by omega) (by rw [ew8995, ew8996, ew8997, ew8998]; omega)) (Nat.le_of_ble_eq_true rfl) ?_
    intro r I9003 J9004 Ra hq
    obtain ⟨⟨hI9003, ec, fiI9003, fjI9003, fqI9003, ⟨pI9003, sI9003_0_15, sI9003_0_16, sI9003_0_17, sI9003_0_18⟩⟩, v9005, rfl, av9005, bv9005, cv9005⟩ := hq
    show WP _ _ _ _ (.int _ :: _) _ _ _ _
    rw [ec]
    clear ec Ra
    have fr9006 : fz 49 g [0, 28, 34] I I9003 := fz_tr fr8987 (fz_mono fiI9003 (by decide))
    have fr9007 : fs g [3, 4, 5, 6, 7, 8, 9] I I9003 := fs_tr fr8988 (fs_mono fqI9003 (by decide))
    have fr9008 : fz 49 g [] J J9004 := fz_tr fr8989 (fz_mono fjI9003 (by decide))
    have e9009 : I9003 (ad g 0) 15 = w8968 := by rw [sI9003_0_15]; exact e8990
    have e9010 : I9003 (ad g 0) 16 = v8983 := by rw [sI9003_0_16]; exact e8991
    have e9011 : I9003 (ad g 0) 17 = w8969 := by rw [sI9003_0_17]; exact e8992
    have e9012 : I9003 (ad g 0) 1 = L := hI9003.1.2
    have b9013 := BT_get hI9003.1.1 0 1 2 (0) (0) (900) (by decide) 1 (by decide) (by decide)
    rw [e9012] at b9013
    obtain ⟨w9014, ew9014⟩ : ∃ w : Int32, I9003 (ad g 0) 2 = w := ⟨_, rfl⟩
    have bw9014 := BT_get hI9003.1.1 0 2 3 (0) (0) (900) (by decide) 2 (by decide) (by decide)
    rw [ew9014] at bw9014
    obtain ⟨w9015, ew9015⟩ : ∃ w : Int32, I9003 (ad g 0) 3 = w := ⟨_, rfl⟩
    have bw9015 := BT_get hI9003.1.1 0 3 4 (0) (0) (900) (by decide) 3 (by decide) (by decide)
    rw [ew9015] at bw9015
    obtain ⟨w9016, ew9016⟩ : ∃ w : Int32, I9003 (ad g 0) 4 = w := ⟨_, rfl⟩
    have bw9016 := BT_get hI9003.1.1 0 4 5 (0) (0) (900) (by decide) 4 (by decide) (by decide)
    rw [ew9016] at bw9016
    obtain ⟨w9017, ew9017⟩ : ∃ w : Int32, I9003 (ad g 0) 5 = w := ⟨_, rfl⟩
    have bw9017 := BT_get hI9003.1.1 0 5 6 (0) (0) (4) (by decide) 5 (by decide) (by decide)
    rw [ew9017] at bw9017
    rw [ew9014, ew9015, ew9016, ew9017, ew8996] at pI9003
    obtain ⟨w9018, ew9018⟩ : ∃ w : Int32, I9003 (ad g 0) 7 = w := ⟨_, rfl⟩
    have bw9018 := BT_get hI9003.1.1 0 7 8 (-1) (0) (1000) (by decide) 7 (by decide) (by decide)
    rw [ew9018] at bw9018
    rw [ew9018] at cv9005
    refine WQ_if_ne 38 dX11_readPrices_33 rfl (fun c9018 => ?_) (fun c9018 => ?_)
    · refine WP_aload_n dX11_readPrices_38 rfl ?_
      refine WP_getr dX11_readPrices_39 fX11_138 rfl (ly_is hy 0 11 rfl) (rf hr 0 53 34 (by decide)) ?_
      refine WP_iload_n dX11_readPrices_42 rfl ?_
      refine WQ_ialdu dX11_readPrices_43 (ly_is hy 34 13 rfl) (ly_n hy 34 3 rfl) (by omega) (by omega) (fun v9020 => ?_)
      refine WP_aload_n dX11_readPrices_44 rfl ?_
      refine WQ_getim dX11_readPrices_45 fX11_56 rfl (ly_is hy 0 11 rfl) ew9018 ?_
      refine WQ_ishru dX11_readPrices_48 (fun v9021 => ?_)
      refine WQ_iconst (1) (1) dX11_readPrices_49 rfl rfl (fun v9022 hv9022 => ?_)
      refine WQ_iandu dX11_readPrices_50 (fun v9023 => ?_)
      refine WQ_iconst (1) (1) dX11_readPrices_51 rfl rfl (fun v9024 hv9024 => ?_)
      refine WQ_icmp_ne 61 dX11_readPrices_52 rfl (fun c9024 => ?_) (fun c9024 => ?_)
      · refine WP_aload_n dX11_readPrices_61 rfl ?_
        refine WP_getr dX11_readPrices_62 fX11_138 rfl (ly_is hy 0 11 rfl) (rf hr 0 53 34 (by decide)) ?_
        refine WP_iload_n dX11_readPrices_65 rfl ?_
        refine WP_dup2 dX11_readPrices_66 rfl rfl ?_
        refine WQ_ialdu dX11_readPrices_67 (ly_is hy 34 13 rfl) (ly_n hy 34 3 rfl) (by omega) (by omega) (fun v9026 => ?_)
        refine WQ_iconst (1) (1) dX11_readPrices_68 rfl rfl (fun v9027 hv9027 => ?_)
        refine WP_aload_n dX11_readPrices_69 rfl ?_
        refine WQ_getim dX11_readPrices_70 fX11_56 rfl (ly_is hy 0 11 rfl) ew9018 ?_
        refine WQ_ishlu dX11_readPrices_73 (fun v9028 => ?_)
        refine WQ_ioru dX11_readPrices_74 (fun v9029 => ?_)
        refine WQ_iast dX11_readPrices_75 (ly_is hy 34 13 rfl) (ly_n hy 34 3 rfl) (by omega) (by omega) (fun I9030 eI9030 => ?_)
        have hI9030 : MP g n L I9030 := by rw [eI9030]; exact (mp_w hy hI9003 (c := 34) (mi_r0 hy hI9003.1 (c := 34) (by decide) (Or.inl (by decide)) (by decide)) (by decide) (by decide) (Or.inl (by decide)))
        have e9031 : I9030 (ad g 0) 15 = w8968 := by rw [eI9030, pp_ne _ _ (Or.inl (ly_ne hy (by decide) (by decide) (by decide)))]; exact e9009
        have e9032 : I9030 (ad g 0) 16 = v8983 := by rw [eI9030, pp_ne _ _ (Or.inl (ly_ne hy (by decide) (by decide) (by decide)))]; exact e9010
        have e9033 : I9030 (ad g 0) 17 = w8969 := by rw [eI9030, pp_ne _ _ (Or.inl (ly_ne hy (by decide) (by decide) (by decide)))]; exact e9011
        have e9034 : I9030 (ad g 0) 1 = L := by rw [eI9030, pp_ne _ _ (Or.inl (ly_ne hy (by decide) (by decide) (by decide)))]; exact e9012
        have e9035 : I9030 (ad g 0) 2 = w9014 := by rw [eI9030, pp_ne _ _ (Or.inl (ly_ne hy (by decide) (by decide) (by decide)))]; exact ew9014
        have e9036 : I9030 (ad g 0) 3 = w9015 := by rw [eI9030, pp_ne _ _ (Or.inl (ly_ne hy (by decide) (by decide) (by decide)))]; exact ew9015
        have e9037 : I9030 (ad g 0) 4 = w9016 := by rw [eI9030, pp_ne _ _ (Or.inl (ly_ne hy (by decide) (by decide) (by decide)))]; exact ew9016
        have e9038 : I9030 (ad g 0) 5 = w9017 := by rw [eI9030, pp_ne _ _ (Or.inl (ly_ne hy (by decide) (by decide) (by decide)))]; exact ew9017
        have e9039 : I9030 (ad g 0) 7 = w9018 := by rw [eI9030, pp_ne _ _ (Or.inl (ly_ne hy (by decide) (by decide) (by decide)))]; exact ew9018
        have fr9040 : fs g [3, 4, 5, 6, 7, 8, 9] I I9030 := by rw [eI9030]; exact fs_ppn hy fr9007 (by decide) (by decide)
        have fr9041 : fz 49 g [0, 28, 34] I I9030 := by rw [eI9030]; exact fzm_pp hy fr9006 (by decide) (by decide)
        clear eI9030
        refine WQ_bipush (7) (7) dX11_readPrices_76 rfl rfl (fun v9042 hv9042 => ?_)
        refine WP_iload_n dX11_readPrices_78 rfl ?_
        refine WQ_imulK (7) dX11_readPrices_79 hv9042 (by omega) (by omega) (fun v9043 hv9043 => ?_)
        refine WP_aload_n dX11_readPrices_80 rfl ?_
        refine WQ_getim dX11_readPrices_81 fX11_56 rfl (ly_is hy 0 11 rfl) e9039 ?_
        refine WQ_iadd dX11_readPrices_84 (by omega) (by omega) (fun v9044 hv9044 => ?_)
        refine WP_istore_n (ls' := [(0, _), (1, _), (2, _)]) dX11_readPrices_85 (by decide) rfl ?_
        refine WP_aload_n dX11_readPrices_86 rfl ?_
        refine WP_callV0 (k := 11) dX11_readPrices_87 ⟨⟨⟨by decide, by decide⟩, zX11_scan⟩, lX11_63, by decide, rfl, vX11_scan.1, vX11_scan.2⟩ (ly_is hy 0 11 rfl) (sm_scanx hy hr hI9030   (by rw [e9037, e9035]; omega)) (Nat.le_of_ble_eq_true rfl) ?_
        intro r I9045 J9046 Ra hq
        obtain ⟨⟨hI9045, ec, fiI9045, fjI9045, fqI9045, ⟨pI9045, sI9045_0_7, sI9045_0_15, sI9045_0_16, sI9045_0_17, sI9045_0_18⟩⟩, rfl⟩ := hq
        rw [ec]
        clear ec Ra
        have fr9047 : fz 49 g [0, 28, 34] I I9045 := fz_tr fr9041 (fz_mono fiI9045 (by decide))
        have fr9048 : fs g [3, 4, 5, 6, 7, 8, 9] I I9045 := fs_tr fr9040 (fs_mono fqI9045 (by decide))
        have fr9049 : fz 49 g [] J J9046 := fz_tr fr9008 (fz_mono fjI9045 (by decide))
        have e9050 : I9045 (ad g 0) 7 = w9018 := by rw [sI9045_0_7]; exact e9039
        have e9051 : I9045 (ad g 0) 15 = w8968 := by rw [sI9045_0_15]; exact e9031
        have e9052 : I9045 (ad g 0) 16 = v8983 := by rw [sI9045_0_16]; exact e9032
        have e9053 : I9045 (ad g 0) 17 = w8969 := by rw [sI9045_0_17]; exact e9033
        have e9054 : I9045 (ad g 0) 1 = L := hI9045.1.2
        have b9055 := BT_get hI9045.1.1 0 1 2 (0) (0) (900) (by decide) 1 (by decide) (by decide)
        rw [e9054] at b9055
        obtain ⟨w9056, ew9056⟩ : ∃ w : Int32, I9045 (ad g 0) 2 = w := ⟨_, rfl⟩
        have bw9056 := BT_get hI9045.1.1 0 2 3 (0) (0) (900) (by decide) 2 (by decide) (by decide)
        rw [ew9056] at bw9056
        obtain ⟨w9057, ew9057⟩ : ∃ w : Int32, I9045 (ad g 0) 3 = w := ⟨_, rfl⟩
        have bw9057 := BT_get hI9045.1.1 0 3 4 (0) (0) (900) (by decide) 3 (by decide) (by decide)
        rw [ew9057] at bw9057
        obtain ⟨w9058, ew9058⟩ : ∃ w : Int32, I9045 (ad g 0) 4 = w := ⟨_, rfl⟩
        have bw9058 := BT_get hI9045.1.1 0 4 5 (0) (0) (900) (by decide) 4 (by decide) (by decide)
        rw [ew9058] at bw9058
        obtain ⟨w9059, ew9059⟩ : ∃ w : Int32, I9045 (ad g 0) 5 = w := ⟨_, rfl⟩
        have bw9059 := BT_get hI9045.1.1 0 5 6 (0) (0) (4) (by decide) 5 (by decide) (by decide)
        rw [ew9059] at bw9059
        rw [ew9056, ew9057, ew9058, ew9059, e9037] at pI9045
        refine WP_aload_n dX11_readPrices_90 rfl ?_
        refine WQ_iconst (1) (1) dX11_readPrices_91 rfl rfl (fun v9060 hv9060 => ?_)
        refine WQ_bipush (20) (20) dX11_readPrices_92 rfl rfl (fun v9061 hv9061 => ?_)
        refine WP_callV2 (k := 11) dX11_readPrices_94 ⟨⟨⟨by decide, by decide⟩, zX11_number⟩, lX11_81, by decide, rfl, vX11_number.1, vX11_number.2⟩ (ly_is hy 0 11 rfl) (sm_numberx hy hr hI9045 v9060 v9061 (by omega) (by omega) (by omega) (by omega) (by rw [ew9056, ew9057, ew9058, ew9059]; omega)) (Nat.le_of_ble_eq_true rfl) ?_
        intro r I9062 J9063 Ra hq
        obtain ⟨⟨hI9062, ec, fiI9062, fjI9062, fqI9062, ⟨pI9062, sI9062_0_15, sI9062_0_16, sI9062_0_17, sI9062_0_18⟩⟩, v9064, rfl, av9064, bv9064, cv9064⟩ := hq
        show WP _ _ _ _ (.int _ :: _) _ _ _ _
        rw [ec]
        clear ec Ra
        have fr9065 : fz 49 g [0, 28, 34] I I9062 := fz_tr fr9047 (fz_mono fiI9062 (by decide))
        have fr9066 : fs g [3, 4, 5, 6, 7, 8, 9] I I9062 := fs_tr fr9048 (fs_mono fqI9062 (by decide))
        have fr9067 : fz 49 g [] J J9063 := fz_tr fr9049 (fz_mono fjI9062 (by decide))
        have e9068 : I9062 (ad g 0) 15 = w8968 := by rw [sI9062_0_15]; exact e9051
        have e9069 : I9062 (ad g 0) 16 = v8983 := by rw [sI9062_0_16]; exact e9052
        have e9070 : I9062 (ad g 0) 17 = w8969 := by rw [sI9062_0_17]; exact e9053
        have e9071 : I9062 (ad g 0) 1 = L := hI9062.1.2
        have b9072 := BT_get hI9062.1.1 0 1 2 (0) (0) (900) (by decide) 1 (by decide) (by decide)
        rw [e9071] at b9072
        obtain ⟨w9073, ew9073⟩ : ∃ w : Int32, I9062 (ad g 0) 2 = w := ⟨_, rfl⟩
        have bw9073 := BT_get hI9062.1.1 0 2 3 (0) (0) (900) (by decide) 2 (by decide) (by decide)
        rw [ew9073] at bw9073
        obtain ⟨w9074, ew9074⟩ : ∃ w : Int32, I9062 (ad g 0) 3 = w := ⟨_, rfl⟩
        have bw9074 := BT_get hI9062.1.1 0 3 4 (0) (0) (900) (by decide) 3 (by decide) (by decide)
        rw [ew9074] at bw9074
        obtain ⟨w9075, ew9075⟩ : ∃ w : Int32, I9062 (ad g 0) 4 = w := ⟨_, rfl⟩
        have bw9075 := BT_get hI9062.1.1 0 4 5 (0) (0) (900) (by decide) 4 (by decide) (by decide)
        rw [ew9075] at bw9075
        obtain ⟨w9076, ew9076⟩ : ∃ w : Int32, I9062 (ad g 0) 5 = w := ⟨_, rfl⟩
        have bw9076 := BT_get hI9062.1.1 0 5 6 (0) (0) (4) (by decide) 5 (by decide) (by decide)
        rw [ew9076] at bw9076
        rw [ew9073, ew9074, ew9075, ew9076, ew9057] at pI9062
        obtain ⟨w9077, ew9077⟩ : ∃ w : Int32, I9062 (ad g 0) 7 = w := ⟨_, rfl⟩
        have bw9077 := BT_get hI9062.1.1 0 7 8 (-1) (0) (1000) (by decide) 7 (by decide) (by decide)
        rw [ew9077] at bw9077
        rw [ew9077] at cv9064
        refine WQ_if_ne 102 dX11_readPrices_97 rfl (fun c9077 => ?_) (fun c9077 => ?_)
        · refine WP_aload_n dX11_readPrices_102 rfl ?_
          refine WP_getr dX11_readPrices_103 fX11_141 rfl (ly_is hy 0 11 rfl) (rf hr 0 46 28 (by decide)) ?_
          refine WP_iload_n dX11_readPrices_106 rfl ?_
          refine WP_aload_n dX11_readPrices_107 rfl ?_
          refine WQ_getim dX11_readPrices_108 fX11_56 rfl (ly_is hy 0 11 rfl) ew9077 ?_
          refine WQ_iast dX11_readPrices_111 (ly_is hy 28 13 rfl) (ly_n hy 28 21 rfl) (by omega) (by omega) (fun I9079 eI9079 => ?_)
          have hI9079 : MP g n L I9079 := by rw [eI9079]; exact (mp_w hy hI9062 (c := 28) (mi_r hy hI9062.1 (c := 28) (0) (0) (20) (by decide) (Or.inl (by decide)) (by decide) (by omega) (by omega)) (by decide) (by decide) (Or.inl (by decide)))
          have e9080 : I9079 (ad g 0) 15 = w8968 := by rw [eI9079, pp_ne _ _ (Or.inl (ly_ne hy (by decide) (by decide) (by decide)))]; exact e9068
          have e9081 : I9079 (ad g 0) 16 = v8983 := by rw [eI9079, pp_ne _ _ (Or.inl (ly_ne hy (by decide) (by decide) (by decide)))]; exact e9069
          have e9082 : I9079 (ad g 0) 17 = w8969 := by rw [eI9079, pp_ne _ _ (Or.inl (ly_ne hy (by decide) (by decide) (by decide)))]; exact e9070
          have e9083 : I9079 (ad g 0) 1 = L := by rw [eI9079, pp_ne _ _ (Or.inl (ly_ne hy (by decide) (by decide) (by decide)))]; exact e9071
          have e9084 : I9079 (ad g 0) 2 = w9073 := by rw [eI9079, pp_ne _ _ (Or.inl (ly_ne hy (by decide) (by decide) (by decide)))]; exact ew9073
          have e9085 : I9079 (ad g 0) 3 = w9074 := by rw [eI9079, pp_ne _ _ (Or.inl (ly_ne hy (by decide) (by decide) (by decide)))]; exact ew9074
          have e9086 : I9079 (ad g 0) 4 = w9075 := by rw [eI9079, pp_ne _ _ (Or.inl (ly_ne hy (by decide) (by decide) (by decide)))]; exact ew9075
          have e9087 : I9079 (ad g 0) 5 = w9076 := by rw [eI9079, pp_ne _ _ (Or.inl (ly_ne hy (by decide) (by decide) (by decide)))]; exact ew9076
          have e9088 : I9079 (ad g 0) 7 = w9077 := by rw [eI9079, pp_ne _ _ (Or.inl (ly_ne hy (by decide) (by decide) (by decide)))]; exact ew9077
          have fr9089 : fs g [3, 4, 5, 6, 7, 8, 9] I I9079 := by rw [eI9079]; exact fs_ppn hy fr9066 (by decide) (by decide)
          have fr9090 : fz 49 g [0, 28, 34] I I9079 := by rw [eI9079]; exact fzm_pp hy fr9065 (by decide) (by decide)
          clear eI9079
          refine WQ_iconst (1) (1) dX11_readPrices_112 rfl rfl (fun v9091 hv9091 => ?_)
          exact WP_zret dX11_readPrices_113 rfl (nar_z (by omega)) ⟨⟨hI9079, rfl, fr9090, fr9067, fr9089, (by rw [e9084, e9085, e9086, e9087, e9080, e9082, ew8965]; omega)⟩, _, rfl, by omega, by omega, (fun _ => by rw [fz_at fr9090 30 (by decide) (by decide), fz_at fr9090 31 (by decide) (by decide), show I9079 (ad g 0) 15 = I (ad g 0) 15 from (by rw [e9080, ew8968] <;> exact (eq32 _ _).mpr (by omega))]; exact hw)⟩
        · refine WQ_iconst (0) (0) dX11_readPrices_100 rfl rfl (fun v9092 hv9092 => ?_)
          exact WP_zret dX11_readPrices_101 rfl (nar_z (by omega)) ⟨⟨hI9062, rfl, fr9065, fr9067, fr9066, (by rw [ew9073, ew9074, ew9075, ew9076, e9068, e9070, ew8965]; omega)⟩, _, rfl, by omega, by omega, (fun h => False.elim (by omega))⟩
      · refine WP_aload_n dX11_readPrices_55 rfl ?_
        refine WQ_iconst (3) (3) dX11_readPrices_56 rfl rfl (fun v9093 hv9093 => ?_)
        refine WP_callV1 (k := 11) dX11_readPrices_57 ⟨⟨⟨by decide, by decide⟩, zX11_bad⟩, lX11_49, by decide, rfl, vX11_bad.1, vX11_bad.2⟩ (ly_is hy 0 11 rfl) (sm_badx hy hr hI9003 v9093  (by rw [ew9014, ew9015, ew9016, ew9017]; omega)) (Nat.le_of_ble_eq_true rfl) ?_
        intro r I9094 J9095 Ra hq
        obtain ⟨⟨hI9094, ec, fiI9094, fjI9094, fqI9094, ⟨pI9094, sI9094_0_15, sI9094_0_16, sI9094_0_17, sI9094_0_18⟩⟩, v9096, rfl, av9096, bv9096⟩ := hq
        show WP _ _ _ _ (.int _ :: _) _ _ _ _
        rw [ec]
        clear ec Ra
        have fr9097 : fz 49 g [0, 28, 34] I I9094 := fz_tr fr9006 (fz_mono fiI9094 (by decide))
        have fr9098 : fs g [3, 4, 5, 6, 7, 8, 9] I I9094 := fs_tr fr9007 (fs_mono fqI9094 (by decide))
        have fr9099 : fz 49 g [] J J9095 := fz_tr fr9008 (fz_mono fjI9094 (by decide))
        have e9100 : I9094 (ad g 0) 15 = w8968 := by rw [sI9094_0_15]; exact e9009
        have e9101 : I9094 (ad g 0) 16 = v8983 := by rw [sI9094_0_16]; exact e9010
        have e9102 : I9094 (ad g 0) 17 = w8969 := by rw [sI9094_0_17]; exact e9011
        have e9103 : I9094 (ad g 0) 1 = L := hI9094.1.2
        have b9104 := BT_get hI9094.1.1 0 1 2 (0) (0) (900) (by decide) 1 (by decide) (by decide)
        rw [e9103] at b9104
        obtain ⟨w9105, ew9105⟩ : ∃ w : Int32, I9094 (ad g 0) 2 = w := ⟨_, rfl⟩
        have bw9105 := BT_get hI9094.1.1 0 2 3 (0) (0) (900) (by decide) 2 (by decide) (by decide)
        rw [ew9105] at bw9105
        obtain ⟨w9106, ew9106⟩ : ∃ w : Int32, I9094 (ad g 0) 3 = w := ⟨_, rfl⟩
        have bw9106 := BT_get hI9094.1.1 0 3 4 (0) (0) (900) (by decide) 3 (by decide) (by decide)
        rw [ew9106] at bw9106
        obtain ⟨w9107, ew9107⟩ : ∃ w : Int32, I9094 (ad g 0) 4 = w := ⟨_, rfl⟩
        have bw9107 := BT_get hI9094.1.1 0 4 5 (0) (0) (900) (by decide) 4 (by decide) (by decide)
        rw [ew9107] at bw9107
        obtain ⟨w9108, ew9108⟩ : ∃ w : Int32, I9094 (ad g 0) 5 = w := ⟨_, rfl⟩
        have bw9108 := BT_get hI9094.1.1 0 5 6 (0) (0) (4) (by decide) 5 (by decide) (by decide)
        rw [ew9108] at bw9108
        rw [ew9105, ew9106, ew9107, ew9108, ew9015] at pI9094
        exact WP_zret dX11_readPrices_60 rfl (nar_z (by omega)) ⟨⟨hI9094, rfl, fr9097, fr9099, fr9098, (by rw [ew9105, ew9106, ew9107, ew9108, e9100, e9102, ew8965]; omega)⟩, _, rfl, by omega, by omega, (fun h => False.elim (by omega))⟩
    · refine WQ_iconst (0) (0) dX11_readPrices_36 rfl rfl (fun v9109 hv9109 => ?_)
      exact WP_zret dX11_readPrices_37 rfl (nar_z (by omega)) ⟨⟨hI9003, rfl, fr9006, fr9008, fr9007, (by rw [ew9014, ew9015, ew9016, ew9017, e9009, e9011, ew8965]; omega)⟩, _, rfl, by omega, by omega, (fun h => False.elim (by omega))⟩
  · refine WQ_iconst (0) (0) dX11_readPrices_19 rfl rfl (fun v9110 hv9110 => ?_)
    exact WP_zret dX11_readPrices_20 rfl (nar_z (by omega)) ⟨⟨hI8984, rfl, fr8987, fr8989, fr8988, (by rw [ew8995, ew8996, ew8997, ew8998, e8990, e8992, ew8965]; omega)⟩, _, rfl, by omega, by omega, (fun h => False.elim (by omega))⟩
set_option maxHeartbeats 4000000 in
set_option maxRecDepth 100000 in
theorem sm_readMakesx {g : GG} {n : Int} {L : Int32} (hy : Ly g)  {I : pI} {J : pJ} {R : pR} (hr : Rf g R) (hI : MP g n L I)   (hb : ((I (ad g 0) 4).toInt ≤ (I (ad g 0) 2).toInt ∧ (I (ad g 0) 3).toInt ≤ (I (ad g 0) 4).toInt ∧ ((I (ad g 0) 5).toInt = 0 ∨ (I (ad g 0) 3).toInt < (I (ad g 0) 4).toInt)) ∧ (I (ad g 0) 17).toInt < (I (ad g 0) 15).toInt) (hw : WRt (I (ad g 30)) (I (ad g 31)) (7 * (I (ad g 0) 15).toInt)) : SP g mX11_readMakes [.ref (ad g 0)] I J R (fun r I' J' R' => (MP g n L I' ∧ R' = R ∧ fz 49 g [0, 29] I I' ∧ fz 49 g [] J J' ∧ fs g [3, 4, 5, 6, 7, 8, 9] I I' ∧ (((I' (ad g 0) 4).toInt ≤ (I' (ad g 0) 2).toInt ∧ (I' (ad g 0) 3).toInt ≤ (I' (ad g 0) 4).toInt ∧ ((I' (ad g 0) 5).toInt = 0 ∨ (I' (ad g 0) 3).toInt < (I' (ad g 0) 4).toInt)) ∧ (I (ad g 0) 3).toInt ≤ (I' (ad g 0) 3).toInt ∧ (I' (ad g 0) 17).toInt < (I' (ad g 0) 15).toInt)) ∧ ∃ v : Int32, r = some (.int v) ∧ 0 ≤ v.toInt ∧ v.toInt ≤ 1 ∧ (v.toInt = 1 → WRt (I' (ad g 30)) (I' (ad g 31)) (7 * (I' (ad g 0) 15).toInt))) := by
  refine SP_of ⟨by decide, rfl⟩ (Nat.le_of_ble_eq_true rfl) ?_
  have e9111 : I (ad g 0) 1 = L := hI.1.2
  have b9112 := BT_get hI.1.1 0 1 2 (0) (0) (900) (by decide) 1 (by decide) (by decide)
  rw [e9111] at b9112
  have fr0 : fz 49 g [0, 29] I I := fz_rf
  have frj0 : fz 49 g [] J J := fz_rf
  have frq0 : fs g [3, 4, 5, 6, 7, 8, 9] I I := fs_rf
  obtain ⟨w9113, ew9113⟩ : ∃ w : Int32, I (ad g 0) 2 = w := ⟨_, rfl⟩
  have bw9113 := BT_get hI.1.1 0 2 3 (0) (0) (900) (by decide) 2 (by decide) (by decide)
  rw [ew9113] at bw9113
  obtain ⟨w9114, ew9114⟩ : ∃ w : Int32, I (ad g 0) 3 = w := ⟨_, rfl⟩
  have bw9114 := BT_get hI.1.1 0 3 4 (0) (0) (900) (by decide) 3 (by decide) (by decide)
  rw [ew9114] at bw9114
  obtain ⟨w9115, ew9115⟩ : ∃ w : Int32, I (ad g 0) 4 = w := ⟨_, rfl⟩
  have bw9115 := BT_get hI.1.1 0 4 5 (0) (0) (900) (by decide) 4 (by decide) (by decide)
  rw [ew9115] at bw9115
  obtain ⟨w9116, ew9116⟩ : ∃ w : Int32, I (ad g 0) 5 = w := ⟨_, rfl⟩
  have bw9116 := BT_get hI.1.1 0 5 6 (0) (0) (4) (by decide) 5 (by decide) (by decide)
  rw [ew9116] at bw9116
  obtain ⟨w9117, ew9117⟩ : ∃ w : Int32, I (ad g 0) 15 = w := ⟨_, rfl⟩
  have bw9117 := BT_get hI.1.1 0 15 16 (0) (0) (4) (by decide) 15 (by decide) (by decide)
  rw [ew9117] at bw9117
  obtain ⟨w9118, ew9118⟩ : ∃ w : Int32, I (ad g 0) 17 = w := ⟨_, rfl⟩
  have bw9118 := BT_get hI.1.1 0 17 18 (-1) (0) (3) (by decide) 17 (by decide) (by decide)
  rw [ew9118] at bw9118
  rw [ew9113, ew9114, ew9115, ew9116, ew9117, ew9118] at hb
  refine WP_aload_n dX11_readMakes_0 rfl ?_
  refine WP_callV0 (k := 11) dX11_readMakes_1 ⟨⟨⟨by decide, by decide⟩, zX11_scan⟩, lX11_63, by decide, rfl, vX11_scan.1, vX11_scan.2⟩ (ly_is hy 0 11 rfl) (sm_scanx hy hr hI   (by rw [ew9115, ew9113]; omega)) (Nat.le_of_ble_eq_true rfl) ?_
  intro r I9119 J9120 Ra hq
  obtain ⟨⟨hI9119, ec, fiI9119, fjI9119, fqI9119, ⟨pI9119, sI9119_0_7, sI9119_0_15, sI9119_0_16, sI9119_0_17, sI9119_0_18⟩⟩, rfl⟩ := hq
  rw [ec]
  clear ec Ra
  have fr9121 : fz 49 g [0, 29] I I9119 := fz_tr fr0 (fz_mono fiI9119 (by decide))
  have fr9122 : fs g [3, 4, 5, 6, 7, 8, 9] I I9119 := fs_tr frq0 (fs_mono fqI9119 (by decide))
  have fr9123 : fz 49 g [] J J9120 := fz_tr frj0 (fz_mono fjI9119 (by decide))
  have e9124 : I9119 (ad g 0) 15 = w9117 := by rw [sI9119_0_15]; exact ew9117
  have e9125 : I9119 (ad g 0) 17 = w9118 := by rw [sI9119_0_17]; exact ew9118
  have e9126 : I9119 (ad g 0) 1 = L := hI9119.1.2
  have b9127 := BT_get hI9119.1.1 0 1 2 (0) (0) (900) (by decide) 1 (by decide) (by decide)
  rw [e9126] at b9127
  obtain ⟨w9128, ew9128⟩ : ∃ w : Int32, I9119 (ad g 0) 2 = w := ⟨_, rfl⟩
  have bw9128 := BT_get hI9119.1.1 0 2 3 (0) (0) (900) (by decide) 2 (by decide) (by decide)
  rw [ew9128] at bw9128
  obtain ⟨w9129, ew9129⟩ : ∃ w : Int32, I9119 (ad g 0) 3 = w := ⟨_, rfl⟩
  have bw9129 := BT_get hI9119.1.1 0 3 4 (0) (0) (900) (by decide) 3 (by decide) (by decide)
  rw [ew9129] at bw9129
  obtain ⟨w9130, ew9130⟩ : ∃ w : Int32, I9119 (ad g 0) 4 = w := ⟨_, rfl⟩
  have bw9130 := BT_get hI9119.1.1 0 4 5 (0) (0) (900) (by decide) 4 (by decide) (by decide)
  rw [ew9130] at bw9130
  obtain ⟨w9131, ew9131⟩ : ∃ w : Int32, I9119 (ad g 0) 5 = w := ⟨_, rfl⟩
  have bw9131 := BT_get hI9119.1.1 0 5 6 (0) (0) (4) (by decide) 5 (by decide) (by decide)
  rw [ew9131] at bw9131
  rw [ew9128, ew9129, ew9130, ew9131, ew9115] at pI9119
  refine WP_aload_n dX11_readMakes_4 rfl ?_
  refine WP_aload_n dX11_readMakes_5 rfl ?_
  refine WP_getr dX11_readMakes_6 fX11_129 rfl (ly_is hy 0 11 rfl) (rf hr 0 23 5 (by decide)) ?_
  refine WP_aload_n dX11_readMakes_9 rfl ?_
  refine WQ_geti dX11_readMakes_10 fX11_126 rfl (ly_is hy 0 11 rfl) (BT_get hI9119.1.1 0 16 17 (0) (0) (3) (by decide) 16 (by decide) (by decide)) (fun v9132 ev9132 av9132 bv9132 => ?_)
  refine WP_callV2 (k := 11) dX11_readMakes_13 ⟨⟨⟨by decide, by decide⟩, zX11_known⟩, lX11_147, by decide, rfl, vX11_known.1, vX11_known.2⟩ (ly_is hy 0 11 rfl) (sm_knownx_5 hy hr hI9119 v9132 (by omega) (by omega) (by rw [ew9128, ew9129, ew9130, ew9131]; omega)) (Nat.le_of_ble_eq_true rfl) ?_
  intro r I9133 J9134 Ra hq
  obtain ⟨⟨hI9133, ec, fiI9133, fjI9133, fqI9133, ⟨pI9133, sI9133_0_15, sI9133_0_16, sI9133_0_17, sI9133_0_18⟩⟩, v9135, rfl, av9135, bv9135, cv9135⟩ := hq
  show WP _ _ _ _ (.int _ :: _) _ _ _ _
  rw [ec]
  clear ec Ra
  have fr9136 : fz 49 g [0, 29] I I9133 := fz_tr fr9121 (fz_mono fiI9133 (by decide))
  have fr9137 : fs g [3, 4, 5, 6, 7, 8, 9] I I9133 := fs_tr fr9122 (fs_mono fqI9133 (by decide))
  have fr9138 : fz 49 g [] J J9134 := fz_tr fr9123 (fz_mono fjI9133 (by decide))
  have e9139 : I9133 (ad g 0) 15 = w9117 := by rw [sI9133_0_15]; exact e9124
  have e9140 : I9133 (ad g 0) 16 = v9132 := by rw [sI9133_0_16]; exact ev9132
  have e9141 : I9133 (ad g 0) 17 = w9118 := by rw [sI9133_0_17]; exact e9125
  have e9142 : I9133 (ad g 0) 1 = L := hI9133.1.2
  have b9143 := BT_get hI9133.1.1 0 1 2 (0) (0) (900) (by decide) 1 (by decide) (by decide)
  rw [e9142] at b9143
  obtain ⟨w9144, ew9144⟩ : ∃ w : Int32, I9133 (ad g 0) 2 = w := ⟨_, rfl⟩
  have bw9144 := BT_get hI9133.1.1 0 2 3 (0) (0) (900) (by decide) 2 (by decide) (by decide)
  rw [ew9144] at bw9144
  obtain ⟨w9145, ew9145⟩ : ∃ w : Int32, I9133 (ad g 0) 3 = w := ⟨_, rfl⟩
  have bw9145 := BT_get hI9133.1.1 0 3 4 (0) (0) (900) (by decide) 3 (by decide) (by decide)
  rw [ew9145] at bw9145
  obtain ⟨w9146, ew9146⟩ : ∃ w : Int32, I9133 (ad g 0) 4 = w := ⟨_, rfl⟩
  have bw9146 := BT_get hI9133.1.1 0 4 5 (0) (0) (900) (by decide) 4 (by decide) (by decide)
  rw [ew9146] at bw9146
  obtain ⟨w9147, ew9147⟩ : ∃ w : Int32, I9133 (ad g 0) 5 = w := ⟨_, rfl⟩
  have bw9147 := BT_get hI9133.1.1 0 5 6 (0) (0) (4) (by decide) 5 (by decide) (by decide)
  rw [ew9147] at bw9147
  rw [ew9144, ew9145, ew9146, ew9147, ew9129] at pI9133
  obtain ⟨w9148, ew9148⟩ : ∃ w : Int32, I9133 (ad g 0) 7 = w := ⟨_, rfl⟩
  have bw9148 := BT_get hI9133.1.1 0 7 8 (-1) (0) (1000) (by decide) 7 (by decide) (by decide)
  rw [ew9148] at bw9148
  rw [ew9148] at cv9135
  refine WQ_if_ne 21 dX11_readMakes_16 rfl (fun c9148 => ?_) (fun c9148 => ?_)
  · refine WP_aload_n dX11_readMakes_21 rfl ?_
    refine WQ_getim dX11_readMakes_22 fX11_56 rfl (ly_is hy 0 11 rfl) ew9148 ?_
    refine WP_istore_n (ls' := [(0, _), (1, _)]) dX11_readMakes_25 (by decide) rfl ?_
    refine WP_aload_n dX11_readMakes_26 rfl ?_
    refine WQ_iconst (0) (0) dX11_readMakes_27 rfl rfl (fun v9150 hv9150 => ?_)
    refine WQ_bipush (6) (6) dX11_readMakes_28 rfl rfl (fun v9151 hv9151 => ?_)
    refine WP_callV2 (k := 11) dX11_readMakes_30 ⟨⟨⟨by decide, by decide⟩, zX11_peek⟩, lX11_59, by decide, rfl, vX11_peek.1, vX11_peek.2⟩ (ly_is hy 0 11 rfl) (sm_peekx hy hr hI9133 v9150 v9151 (by omega) (by omega) (by omega) (by omega) (by rw [ew9144, ew9145, ew9146, ew9147]; omega)) (Nat.le_of_ble_eq_true rfl) ?_
    intro r I9152 J9153 Ra hq
    obtain ⟨⟨hI9152, ec, fiI9152, fjI9152, fqI9152, ⟨pI9152, sI9152_0_15, sI9152_0_16, sI9152_0_17, sI9152_0_18⟩⟩, v9154, rfl, av9154, bv9154, cv9154⟩ := hq
    show WP _ _ _ _ (.int _ :: _) _ _ _ _
    rw [ec]
    clear ec Ra
    have fr9155 : fz 49 g [0, 29] I I9152 := fz_tr fr9136 (fz_mono fiI9152 (by decide))
    have fr9156 : fs g [3, 4, 5, 6, 7, 8, 9] I I9152 := fs_tr fr9137 (fs_mono fqI9152 (by decide))
    have fr9157 : fz 49 g [] J J9153 := fz_tr fr9138 (fz_mono fjI9152 (by decide))
    have e9158 : I9152 (ad g 0) 15 = w9117 := by rw [sI9152_0_15]; exact e9139
    have e9159 : I9152 (ad g 0) 16 = v9132 := by rw [sI9152_0_16]; exact e9140
    have e9160 : I9152 (ad g 0) 17 = w9118 := by rw [sI9152_0_17]; exact e9141
    have e9161 : I9152 (ad g 0) 1 = L := hI9152.1.2
    have b9162 := BT_get hI9152.1.1 0 1 2 (0) (0) (900) (by decide) 1 (by decide) (by decide)
    rw [e9161] at b9162
    obtain ⟨w9163, ew9163⟩ : ∃ w : Int32, I9152 (ad g 0) 2 = w := ⟨_, rfl⟩
    have bw9163 := BT_get hI9152.1.1 0 2 3 (0) (0) (900) (by decide) 2 (by decide) (by decide)
    rw [ew9163] at bw9163
    obtain ⟨w9164, ew9164⟩ : ∃ w : Int32, I9152 (ad g 0) 3 = w := ⟨_, rfl⟩
    have bw9164 := BT_get hI9152.1.1 0 3 4 (0) (0) (900) (by decide) 3 (by decide) (by decide)
    rw [ew9164] at bw9164
    obtain ⟨w9165, ew9165⟩ : ∃ w : Int32, I9152 (ad g 0) 4 = w := ⟨_, rfl⟩
    have bw9165 := BT_get hI9152.1.1 0 4 5 (0) (0) (900) (by decide) 4 (by decide) (by decide)
    rw [ew9165] at bw9165
    obtain ⟨w9166, ew9166⟩ : ∃ w : Int32, I9152 (ad g 0) 5 = w := ⟨_, rfl⟩
    have bw9166 := BT_get hI9152.1.1 0 5 6 (0) (0) (4) (by decide) 5 (by decide) (by decide)
    rw [ew9166] at bw9166
    rw [ew9163, ew9164, ew9165, ew9166, ew9145] at pI9152
    obtain ⟨w9167, ew9167⟩ : ∃ w : Int32, I9152 (ad g 0) 7 = w := ⟨_, rfl⟩
    have bw9167 := BT_get hI9152.1.1 0 7 8 (-1) (0) (1000) (by decide) 7 (by decide) (by decide)
    rw [ew9167] at bw9167
    rw [ew9167] at cv9154
    refine WQ_if_ne 38 dX11_readMakes_33 rfl (fun c9167 => ?_) (fun c9167 => ?_)
    · refine WQ_bipush (7) (7) dX11_readMakes_38 rfl rfl (fun v9169 hv9169 => ?_)
      refine WP_iload_n dX11_readMakes_40 rfl ?_
      refine WQ_imulK (7) dX11_readMakes_41 hv9169 (by omega) (by omega) (fun v9170 hv9170 => ?_)
      refine WP_aload_n dX11_readMakes_42 rfl ?_
      refine WQ_getim dX11_readMakes_43 fX11_56 rfl (ly_is hy 0 11 rfl) ew9167 ?_
      refine WQ_iadd dX11_readMakes_46 (by omega) (by omega) (fun v9171 hv9171 => ?_)
      refine WP_istore_n (ls' := [(0, _), (1, _), (2, _)]) dX11_readMakes_47 (by decide) rfl ?_
      refine WP_aload_n dX11_readMakes_48 rfl ?_
      refine WP_getr dX11_readMakes_49 fX11_144 rfl (ly_is hy 0 11 rfl) (rf hr 0 47 29 (by decide)) ?_
      refine WP_iload_n dX11_readMakes_52 rfl ?_
      refine WQ_iald dX11_readMakes_53 (ly_is hy 29 13 rfl) (ly_n hy 29 21 rfl) (by omega) (by omega) (fun q hq => BT_get hI9152.1.1 29 0 21 (-1) (0) (999) (by decide) q (Nat.zero_le _) hq) (fun v9172 av9172 bv9172 ev9172 => ?_)
      clear ev9172
      refine WQ_iconst (-1) (-1) dX11_readMakes_54 rfl rfl (fun v9173 hv9173 => ?_)
      refine WQ_icmp_eq 64 dX11_readMakes_55 rfl (fun c9173 => ?_) (fun c9173 => ?_)
      · refine WP_aload_n dX11_readMakes_64 rfl ?_
        refine WP_callV0 (k := 11) dX11_readMakes_65 ⟨⟨⟨by decide, by decide⟩, zX11_scan⟩, lX11_63, by decide, rfl, vX11_scan.1, vX11_scan.2⟩ (ly_is hy 0 11 rfl) (sm_scanx hy hr hI9152   (by rw [ew9165, ew9163]; omega)) (Nat.le_of_ble_eq_true rfl) ?_
        intro r I9175 J9176 Ra hq
        obtain ⟨⟨hI9175, ec, fiI9175, fjI9175, fqI9175, ⟨pI9175, sI9175_0_7, sI9175_0_15, sI9175_0_16, sI9175_0_17, sI9175_0_18⟩⟩, rfl⟩ := hq
        rw [ec]
        clear ec Ra
        have fr9177 : fz 49 g [0, 29] I I9175 := fz_tr fr9155 (fz_mono fiI9175 (by decide))
        have fr9178 : fs g [3, 4, 5, 6, 7, 8, 9] I I9175 := fs_tr fr9156 (fs_mono fqI9175 (by decide))
        have fr9179 : fz 49 g [] J J9176 := fz_tr fr9157 (fz_mono fjI9175 (by decide))
        have e9180 : I9175 (ad g 0) 7 = w9167 := by rw [sI9175_0_7]; exact ew9167
        have e9181 : I9175 (ad g 0) 15 = w9117 := by rw [sI9175_0_15]; exact e9158
        have e9182 : I9175 (ad g 0) 16 = v9132 := by rw [sI9175_0_16]; exact e9159
        have e9183 : I9175 (ad g 0) 17 = w9118 := by rw [sI9175_0_17]; exact e9160
        have e9184 : I9175 (ad g 0) 1 = L := hI9175.1.2
        have b9185 := BT_get hI9175.1.1 0 1 2 (0) (0) (900) (by decide) 1 (by decide) (by decide)
        rw [e9184] at b9185
        obtain ⟨w9186, ew9186⟩ : ∃ w : Int32, I9175 (ad g 0) 2 = w := ⟨_, rfl⟩
        have bw9186 := BT_get hI9175.1.1 0 2 3 (0) (0) (900) (by decide) 2 (by decide) (by decide)
        rw [ew9186] at bw9186
        obtain ⟨w9187, ew9187⟩ : ∃ w : Int32, I9175 (ad g 0) 3 = w := ⟨_, rfl⟩
        have bw9187 := BT_get hI9175.1.1 0 3 4 (0) (0) (900) (by decide) 3 (by decide) (by decide)
        rw [ew9187] at bw9187
        obtain ⟨w9188, ew9188⟩ : ∃ w : Int32, I9175 (ad g 0) 4 = w := ⟨_, rfl⟩
        have bw9188 := BT_get hI9175.1.1 0 4 5 (0) (0) (900) (by decide) 4 (by decide) (by decide)
        rw [ew9188] at bw9188
        obtain ⟨w9189, ew9189⟩ : ∃ w : Int32, I9175 (ad g 0) 5 = w := ⟨_, rfl⟩
        have bw9189 := BT_get hI9175.1.1 0 5 6 (0) (0) (4) (by decide) 5 (by decide) (by decide)
        rw [ew9189] at bw9189
        rw [ew9186, ew9187, ew9188, ew9189, ew9165] at pI9175
        refine WP_aload_n dX11_readMakes_68 rfl ?_
        refine WQ_iconst (0) (0) dX11_readMakes_69 rfl rfl (fun v9190 hv9190 => ?_)
        refine WQ_sipush (999) (999) dX11_readMakes_70 rfl rfl (fun v9191 hv9191 => ?_)
        refine WP_callV2 (k := 11) dX11_readMakes_73 ⟨⟨⟨by decide, by decide⟩, zX11_number⟩, lX11_81, by decide, rfl, vX11_number.1, vX11_number.2⟩ (ly_is hy 0 11 rfl) (sm_numberx hy hr hI9175 v9190 v9191 (by omega) (by omega) (by omega) (by omega) (by rw [ew9186, ew9187, ew9188, ew9189]; omega)) (Nat.le_of_ble_eq_true rfl) ?_
        intro r I9192 J9193 Ra hq
        obtain ⟨⟨hI9192, ec, fiI9192, fjI9192, fqI9192, ⟨pI9192, sI9192_0_15, sI9192_0_16, sI9192_0_17, sI9192_0_18⟩⟩, v9194, rfl, av9194, bv9194, cv9194⟩ := hq
        show WP _ _ _ _ (.int _ :: _) _ _ _ _
        rw [ec]
        clear ec Ra
        have fr9195 : fz 49 g [0, 29] I I9192 := fz_tr fr9177 (fz_mono fiI9192 (by decide))
        have fr9196 : fs g [3, 4, 5, 6, 7, 8, 9] I I9192 := fs_tr fr9178 (fs_mono fqI9192 (by decide))
        have fr9197 : fz 49 g [] J J9193 := fz_tr fr9179 (fz_mono fjI9192 (by decide))
        have e9198 : I9192 (ad g 0) 15 = w9117 := by rw [sI9192_0_15]; exact e9181
        have e9199 : I9192 (ad g 0) 16 = v9132 := by rw [sI9192_0_16]; exact e9182
        have e9200 : I9192 (ad g 0) 17 = w9118 := by rw [sI9192_0_17]; exact e9183
        have e9201 : I9192 (ad g 0) 1 = L := hI9192.1.2
        have b9202 := BT_get hI9192.1.1 0 1 2 (0) (0) (900) (by decide) 1 (by decide) (by decide)
        rw [e9201] at b9202
        obtain ⟨w9203, ew9203⟩ : ∃ w : Int32, I9192 (ad g 0) 2 = w := ⟨_, rfl⟩
        have bw9203 := BT_get hI9192.1.1 0 2 3 (0) (0) (900) (by decide) 2 (by decide) (by decide)
        rw [ew9203] at bw9203
        obtain ⟨w9204, ew9204⟩ : ∃ w : Int32, I9192 (ad g 0) 3 = w := ⟨_, rfl⟩
        have bw9204 := BT_get hI9192.1.1 0 3 4 (0) (0) (900) (by decide) 3 (by decide) (by decide)
        rw [ew9204] at bw9204
        obtain ⟨w9205, ew9205⟩ : ∃ w : Int32, I9192 (ad g 0) 4 = w := ⟨_, rfl⟩
        have bw9205 := BT_get hI9192.1.1 0 4 5 (0) (0) (900) (by decide) 4 (by decide) (by decide)
        rw [ew9205] at bw9205
        obtain ⟨w9206, ew9206⟩ : ∃ w : Int32, I9192 (ad g 0) 5 = w := ⟨_, rfl⟩
        have bw9206 := BT_get hI9192.1.1 0 5 6 (0) (0) (4) (by decide) 5 (by decide) (by decide)
        rw [ew9206] at bw9206
        rw [ew9203, ew9204, ew9205, ew9206, ew9187] at pI9192
        obtain ⟨w9207, ew9207⟩ : ∃ w : Int32, I9192 (ad g 0) 7 = w := ⟨_, rfl⟩
        have bw9207 := BT_get hI9192.1.1 0 7 8 (-1) (0) (1000) (by decide) 7 (by decide) (by decide)
        rw [ew9207] at bw9207
        rw [ew9207] at cv9194
        refine WQ_if_ne 81 dX11_readMakes_76 rfl (fun c9207 => ?_) (fun c9207 => ?_)
        · refine WP_aload_n dX11_readMakes_81 rfl ?_
          refine WP_getr dX11_readMakes_82 fX11_144 rfl (ly_is hy 0 11 rfl) (rf hr 0 47 29 (by decide)) ?_
          refine WP_iload_n dX11_readMakes_85 rfl ?_
          refine WP_aload_n dX11_readMakes_86 rfl ?_
          refine WQ_getim dX11_readMakes_87 fX11_56 rfl (ly_is hy 0 11 rfl) ew9207 ?_
          refine WQ_iast dX11_readMakes_90 (ly_is hy 29 13 rfl) (ly_n hy 29 21 rfl) (by omega) (by omega) (fun I9209 eI9209 => ?_)
          have hI9209 : MP g n L I9209 := by rw [eI9209]; exact (mp_w hy hI9192 (c := 29) (mi_r hy hI9192.1 (c := 29) (-1) (0) (999) (by decide) (Or.inl (by decide)) (by decide) (by omega) (by omega)) (by decide) (by decide) (Or.inl (by decide)))
          have e9210 : I9209 (ad g 0) 15 = w9117 := by rw [eI9209, pp_ne _ _ (Or.inl (ly_ne hy (by decide) (by decide) (by decide)))]; exact e9198
          have e9211 : I9209 (ad g 0) 16 = v9132 := by rw [eI9209, pp_ne _ _ (Or.inl (ly_ne hy (by decide) (by decide) (by decide)))]; exact e9199
          have e9212 : I9209 (ad g 0) 17 = w9118 := by rw [eI9209, pp_ne _ _ (Or.inl (ly_ne hy (by decide) (by decide) (by decide)))]; exact e9200
          have e9213 : I9209 (ad g 0) 1 = L := by rw [eI9209, pp_ne _ _ (Or.inl (ly_ne hy (by decide) (by decide) (by decide)))]; exact e9201
          have e9214 : I9209 (ad g 0) 2 = w9203 := by rw [eI9209, pp_ne _ _ (Or.inl (ly_ne hy (by decide) (by decide) (by decide)))]; exact ew9203
          have e9215 : I9209 (ad g 0) 3 = w9204 := by rw [eI9209, pp_ne _ _ (Or.inl (ly_ne hy (by decide) (by decide) (by decide)))]; exact ew9204
          have e9216 : I9209 (ad g 0) 4 = w9205 := by rw [eI9209, pp_ne _ _ (Or.inl (ly_ne hy (by decide) (by decide) (by decide)))]; exact ew9205
          have e9217 : I9209 (ad g 0) 5 = w9206 := by rw [eI9209, pp_ne _ _ (Or.inl (ly_ne hy (by decide) (by decide) (by decide)))]; exact ew9206
          have e9218 : I9209 (ad g 0) 7 = w9207 := by rw [eI9209, pp_ne _ _ (Or.inl (ly_ne hy (by decide) (by decide) (by decide)))]; exact ew9207
          have fr9219 : fs g [3, 4, 5, 6, 7, 8, 9] I I9209 := by rw [eI9209]; exact fs_ppn hy fr9196 (by decide) (by decide)
          have fr9220 : fz 49 g [0, 29] I I9209 := by rw [eI9209]; exact fzm_pp hy fr9195 (by decide) (by decide)
          clear eI9209
          refine WQ_iconst (1) (1) dX11_readMakes_91 rfl rfl (fun v9221 hv9221 => ?_)
          exact WP_zret dX11_readMakes_92 rfl (nar_z (by omega)) ⟨⟨hI9209, rfl, fr9220, fr9197, fr9219, (by rw [e9214, e9215, e9216, e9217, e9210, e9212, ew9114]; omega)⟩, _, rfl, by omega, by omega, (fun _ => by rw [fz_at fr9220 30 (by decide) (by decide), fz_at fr9220 31 (by decide) (by decide), show I9209 (ad g 0) 15 = I (ad g 0) 15 from (by rw [e9210, ew9117] <;> exact (eq32 _ _).mpr (by omega))]; exact hw)⟩
        · refine WQ_iconst (0) (0) dX11_readMakes_79 rfl rfl (fun v9222 hv9222 => ?_)
          exact WP_zret dX11_readMakes_80 rfl (nar_z (by omega)) ⟨⟨hI9192, rfl, fr9195, fr9197, fr9196, (by rw [ew9203, ew9204, ew9205, ew9206, e9198, e9200, ew9114]; omega)⟩, _, rfl, by omega, by omega, (fun h => False.elim (by omega))⟩
      · refine WP_aload_n dX11_readMakes_58 rfl ?_
        refine WQ_iconst (3) (3) dX11_readMakes_59 rfl rfl (fun v9223 hv9223 => ?_)
        refine WP_callV1 (k := 11) dX11_readMakes_60 ⟨⟨⟨by decide, by decide⟩, zX11_bad⟩, lX11_49, by decide, rfl, vX11_bad.1, vX11_bad.2⟩ (ly_is hy 0 11 rfl) (sm_badx hy hr hI9152 v9223  (by rw [ew9163, ew9164, ew9165, ew9166]; omega)) (Nat.le_of_ble_eq_true rfl) ?_
        intro r I9224 J9225 Ra hq
        obtain ⟨⟨hI9224, ec, fiI9224, fjI9224, fqI9224, ⟨pI9224, sI9224_0_15, sI9224_0_16, sI9224_0_17, sI9224_0_18⟩⟩, v9226, rfl, av9226, bv9226⟩ := hq
        show WP _ _ _ _ (.int _ :: _) _ _ _ _
        rw [ec]
        clear ec Ra
        have fr9227 : fz 49 g [0, 29] I I9224 := fz_tr fr9155 (fz_mono fiI9224 (by decide))
        have fr9228 : fs g [3, 4, 5, 6, 7, 8, 9] I I9224 := fs_tr fr9156 (fs_mono fqI9224 (by decide))
        have fr9229 : fz 49 g [] J J9225 := fz_tr fr9157 (fz_mono fjI9224 (by decide))
        have e9230 : I9224 (ad g 0) 15 = w9117 := by rw [sI9224_0_15]; exact e9158
        have e9231 : I9224 (ad g 0) 16 = v9132 := by rw [sI9224_0_16]; exact e9159
        have e9232 : I9224 (ad g 0) 17 = w9118 := by rw [sI9224_0_17]; exact e9160
        have e9233 : I9224 (ad g 0) 1 = L := hI9224.1.2
        have b9234 := BT_get hI9224.1.1 0 1 2 (0) (0) (900) (by decide) 1 (by decide) (by decide)
        rw [e9233] at b9234
        obtain ⟨w9235, ew9235⟩ : ∃ w : Int32, I9224 (ad g 0) 2 = w := ⟨_, rfl⟩
        have bw9235 := BT_get hI9224.1.1 0 2 3 (0) (0) (900) (by decide) 2 (by decide) (by decide)
        rw [ew9235] at bw9235
        obtain ⟨w9236, ew9236⟩ : ∃ w : Int32, I9224 (ad g 0) 3 = w := ⟨_, rfl⟩
        have bw9236 := BT_get hI9224.1.1 0 3 4 (0) (0) (900) (by decide) 3 (by decide) (by decide)
        rw [ew9236] at bw9236
        obtain ⟨w9237, ew9237⟩ : ∃ w : Int32, I9224 (ad g 0) 4 = w := ⟨_, rfl⟩
        have bw9237 := BT_get hI9224.1.1 0 4 5 (0) (0) (900) (by decide) 4 (by decide) (by decide)
        rw [ew9237] at bw9237
        obtain ⟨w9238, ew9238⟩ : ∃ w : Int32, I9224 (ad g 0) 5 = w := ⟨_, rfl⟩
        have bw9238 := BT_get hI9224.1.1 0 5 6 (0) (0) (4) (by decide) 5 (by decide) (by decide)
        rw [ew9238] at bw9238
        rw [ew9235, ew9236, ew9237, ew9238, ew9164] at pI9224
        exact WP_zret dX11_readMakes_63 rfl (nar_z (by omega)) ⟨⟨hI9224, rfl, fr9227, fr9229, fr9228, (by rw [ew9235, ew9236, ew9237, ew9238, e9230, e9232, ew9114]; omega)⟩, _, rfl, by omega, by omega, (fun h => False.elim (by omega))⟩
    · refine WQ_iconst (0) (0) dX11_readMakes_36 rfl rfl (fun v9239 hv9239 => ?_)
      exact WP_zret dX11_readMakes_37 rfl (nar_z (by omega)) ⟨⟨hI9152, rfl, fr9155, fr9157, fr9156, (by rw [ew9163, ew9164, ew9165, ew9166, e9158, e9160, ew9114]; omega)⟩, _, rfl, by omega, by omega, (fun h => False.elim (by omega))⟩
  · refine WQ_iconst (0) (0) dX11_readMakes_19 rfl rfl (fun v9240 hv9240 => ?_)
    exact WP_zret dX11_readMakes_20 rfl (nar_z (by omega)) ⟨⟨hI9133, rfl, fr9136, fr9138, fr9137, (by rw [ew9144, ew9145, ew9146, ew9147, e9139, e9141, ew9114]; omega)⟩, _, rfl, by omega, by omega, (fun h => False.elim (by omega))⟩
set_option maxHeartbeats 4000000 in
set_option maxRecDepth 100000 in
theorem sm_readIllsx {g : GG} {n : Int} {L : Int32} (hy : Ly g)  {I : pI} {J : pJ} {R : pR} (hr : Rf g R) (hI : MP g n L I)   (hb : ((I (ad g 0) 4).toInt ≤ (I (ad g 0) 2).toInt ∧ (I (ad g 0) 3).toInt ≤ (I (ad g 0) 4).toInt ∧ ((I (ad g 0) 5).toInt = 0 ∨ (I (ad g 0) 3).toInt < (I (ad g 0) 4).toInt)) ∧ (I (ad g 0) 17).toInt < (I (ad g 0) 15).toInt) (hw : WRt (I (ad g 30)) (I (ad g 31)) (7 * (I (ad g 0) 15).toInt)) : SP g mX11_readIlls [.ref (ad g 0)] I J R (fun r I' J' R' => (MP g n L I' ∧ R' = R ∧ fz 49 g [0, 17] I I' ∧ fz 49 g [] J J' ∧ fs g [3, 4, 5, 6, 7, 8, 9] I I' ∧ (((I' (ad g 0) 4).toInt ≤ (I' (ad g 0) 2).toInt ∧ (I' (ad g 0) 3).toInt ≤ (I' (ad g 0) 4).toInt ∧ ((I' (ad g 0) 5).toInt = 0 ∨ (I' (ad g 0) 3).toInt < (I' (ad g 0) 4).toInt)) ∧ (I (ad g 0) 3).toInt ≤ (I' (ad g 0) 3).toInt ∧ (I' (ad g 0) 17).toInt < (I' (ad g 0) 15).toInt)) ∧ ∃ v : Int32, r = some (.int v) ∧ 0 ≤ v.toInt ∧ v.toInt ≤ 1 ∧ (v.toInt = 1 → WRt (I' (ad g 30)) (I' (ad g 31)) (7 * (I' (ad g 0) 15).toInt))) := by
  refine SP_of ⟨by decide, rfl⟩ (Nat.le_of_ble_eq_true rfl) ?_
  have e9241 : I (ad g 0) 1 = L := hI.1.2
  have b9242 := BT_get hI.1.1 0 1 2 (0) (0) (900) (by decide) 1 (by decide) (by decide)
  rw [e9241] at b9242
  have fr0 : fz 49 g [0, 17] I I := fz_rf
  have frj0 : fz 49 g [] J J := fz_rf
  have frq0 : fs g [3, 4, 5, 6, 7, 8, 9] I I := fs_rf
  obtain ⟨w9243, ew9243⟩ : ∃ w : Int32, I (ad g 0) 2 = w := ⟨_, rfl⟩
  have bw9243 := BT_get hI.1.1 0 2 3 (0) (0) (900) (by decide) 2 (by decide) (by decide)
  rw [ew9243] at bw9243
  obtain ⟨w9244, ew9244⟩ : ∃ w : Int32, I (ad g 0) 3 = w := ⟨_, rfl⟩
  have bw9244 := BT_get hI.1.1 0 3 4 (0) (0) (900) (by decide) 3 (by decide) (by decide)
  rw [ew9244] at bw9244
  obtain ⟨w9245, ew9245⟩ : ∃ w : Int32, I (ad g 0) 4 = w := ⟨_, rfl⟩
  have bw9245 := BT_get hI.1.1 0 4 5 (0) (0) (900) (by decide) 4 (by decide) (by decide)
  rw [ew9245] at bw9245
  obtain ⟨w9246, ew9246⟩ : ∃ w : Int32, I (ad g 0) 5 = w := ⟨_, rfl⟩
  have bw9246 := BT_get hI.1.1 0 5 6 (0) (0) (4) (by decide) 5 (by decide) (by decide)
  rw [ew9246] at bw9246
  obtain ⟨w9247, ew9247⟩ : ∃ w : Int32, I (ad g 0) 15 = w := ⟨_, rfl⟩
  have bw9247 := BT_get hI.1.1 0 15 16 (0) (0) (4) (by decide) 15 (by decide) (by decide)
  rw [ew9247] at bw9247
  obtain ⟨w9248, ew9248⟩ : ∃ w : Int32, I (ad g 0) 17 = w := ⟨_, rfl⟩
  have bw9248 := BT_get hI.1.1 0 17 18 (-1) (0) (3) (by decide) 17 (by decide) (by decide)
  rw [ew9248] at bw9248
  rw [ew9243, ew9244, ew9245, ew9246, ew9247, ew9248] at hb
  refine WP_aload_n dX11_readIlls_0 rfl ?_
  refine WP_callV0 (k := 11) dX11_readIlls_1 ⟨⟨⟨by decide, by decide⟩, zX11_scan⟩, lX11_63, by decide, rfl, vX11_scan.1, vX11_scan.2⟩ (ly_is hy 0 11 rfl) (sm_scanx hy hr hI   (by rw [ew9245, ew9243]; omega)) (Nat.le_of_ble_eq_true rfl) ?_
  intro r I9249 J9250 Ra hq
  obtain ⟨⟨hI9249, ec, fiI9249, fjI9249, fqI9249, ⟨pI9249, sI9249_0_7, sI9249_0_15, sI9249_0_16, sI9249_0_17, sI9249_0_18⟩⟩, rfl⟩ := hq
  rw [ec]
  clear ec Ra
  have fr9251 : fz 49 g [0, 17] I I9249 := fz_tr fr0 (fz_mono fiI9249 (by decide))
  have fr9252 : fs g [3, 4, 5, 6, 7, 8, 9] I I9249 := fs_tr frq0 (fs_mono fqI9249 (by decide))
  have fr9253 : fz 49 g [] J J9250 := fz_tr frj0 (fz_mono fjI9249 (by decide))
  have e9254 : I9249 (ad g 0) 15 = w9247 := by rw [sI9249_0_15]; exact ew9247
  have e9255 : I9249 (ad g 0) 17 = w9248 := by rw [sI9249_0_17]; exact ew9248
  have e9256 : I9249 (ad g 0) 1 = L := hI9249.1.2
  have b9257 := BT_get hI9249.1.1 0 1 2 (0) (0) (900) (by decide) 1 (by decide) (by decide)
  rw [e9256] at b9257
  obtain ⟨w9258, ew9258⟩ : ∃ w : Int32, I9249 (ad g 0) 2 = w := ⟨_, rfl⟩
  have bw9258 := BT_get hI9249.1.1 0 2 3 (0) (0) (900) (by decide) 2 (by decide) (by decide)
  rw [ew9258] at bw9258
  obtain ⟨w9259, ew9259⟩ : ∃ w : Int32, I9249 (ad g 0) 3 = w := ⟨_, rfl⟩
  have bw9259 := BT_get hI9249.1.1 0 3 4 (0) (0) (900) (by decide) 3 (by decide) (by decide)
  rw [ew9259] at bw9259
  obtain ⟨w9260, ew9260⟩ : ∃ w : Int32, I9249 (ad g 0) 4 = w := ⟨_, rfl⟩
  have bw9260 := BT_get hI9249.1.1 0 4 5 (0) (0) (900) (by decide) 4 (by decide) (by decide)
  rw [ew9260] at bw9260
  obtain ⟨w9261, ew9261⟩ : ∃ w : Int32, I9249 (ad g 0) 5 = w := ⟨_, rfl⟩
  have bw9261 := BT_get hI9249.1.1 0 5 6 (0) (0) (4) (by decide) 5 (by decide) (by decide)
  rw [ew9261] at bw9261
  rw [ew9258, ew9259, ew9260, ew9261, ew9245] at pI9249
  refine WP_aload_n dX11_readIlls_4 rfl ?_
  refine WQ_getim dX11_readIlls_5 fX11_27 rfl (ly_is hy 0 11 rfl) ew9261 ?_
  refine WQ_iconst (1) (1) dX11_readIlls_8 rfl rfl (fun v9262 hv9262 => ?_)
  refine WQ_icmp_eq 18 dX11_readIlls_9 rfl (fun c9262 => ?_) (fun c9262 => ?_)
  · refine WP_aload_n dX11_readIlls_18 rfl ?_
    refine WP_aload_n dX11_readIlls_19 rfl ?_
    refine WP_getr dX11_readIlls_20 fX11_91 rfl (ly_is hy 0 11 rfl) (rf hr 0 22 4 (by decide)) ?_
    refine WP_aload_n dX11_readIlls_23 rfl ?_
    refine WQ_getim dX11_readIlls_24 fX11_88 rfl (ly_is hy 0 11 rfl) e9254 ?_
    refine WP_callV2 (k := 11) dX11_readIlls_27 ⟨⟨⟨by decide, by decide⟩, zX11_find⟩, lX11_71, by decide, rfl, vX11_find.1, vX11_find.2⟩ (ly_is hy 0 11 rfl) (sm_find_4 hy hr hI9249 w9247 (by omega) (by omega)) (Nat.le_of_ble_eq_true rfl) ?_
    intro r Ia Ja Ra hq
    obtain ⟨⟨ea, eb, ec⟩, v9264, rfl, av9264, bv9264, cv9264⟩ := hq
    show WP _ _ _ _ (.int _ :: _) _ _ _ _
    rw [ea, eb, ec]
    clear ea eb ec Ia Ja Ra
    refine WP_istore_n (ls' := [(0, _), (1, _)]) dX11_readIlls_30 (by decide) rfl ?_
    refine WP_iload_n dX11_readIlls_31 rfl ?_
    refine WQ_iconst (-1) (-1) dX11_readIlls_32 rfl rfl (fun v9265 hv9265 => ?_)
    refine WQ_icmp_eq 51 dX11_readIlls_33 rfl (fun c9265 => ?_) (fun c9265 => ?_)
    · refine WP_iload_n dX11_readIlls_51 rfl ?_
      refine WQ_iconst (-1) (-1) dX11_readIlls_52 rfl rfl (fun v9267 hv9267 => ?_)
      refine WQ_icmp_ne 62 dX11_readIlls_53 rfl (fun c9267 => False.elim (by omega)) (fun c9267 => ?_)
      refine WP_aload_n dX11_readIlls_56 rfl ?_
      refine WQ_iconst (5) (5) dX11_readIlls_57 rfl rfl (fun v9269 hv9269 => ?_)
      refine WP_callV1 (k := 11) dX11_readIlls_58 ⟨⟨⟨by decide, by decide⟩, zX11_bad⟩, lX11_49, by decide, rfl, vX11_bad.1, vX11_bad.2⟩ (ly_is hy 0 11 rfl) (sm_badx hy hr hI9249 v9269  (by rw [ew9258, ew9259, ew9260, ew9261]; omega)) (Nat.le_of_ble_eq_true rfl) ?_
      intro r I9270 J9271 Ra hq
      obtain ⟨⟨hI9270, ec, fiI9270, fjI9270, fqI9270, ⟨pI9270, sI9270_0_15, sI9270_0_16, sI9270_0_17, sI9270_0_18⟩⟩, v9272, rfl, av9272, bv9272⟩ := hq
      show WP _ _ _ _ (.int _ :: _) _ _ _ _
      rw [ec]
      clear ec Ra
      have fr9273 : fz 49 g [0, 17] I I9270 := fz_tr fr9251 (fz_mono fiI9270 (by decide))
      have fr9274 : fs g [3, 4, 5, 6, 7, 8, 9] I I9270 := fs_tr fr9252 (fs_mono fqI9270 (by decide))
      have fr9275 : fz 49 g [] J J9271 := fz_tr fr9253 (fz_mono fjI9270 (by decide))
      have e9276 : I9270 (ad g 0) 15 = w9247 := by rw [sI9270_0_15]; exact e9254
      have e9277 : I9270 (ad g 0) 17 = w9248 := by rw [sI9270_0_17]; exact e9255
      have e9278 : I9270 (ad g 0) 1 = L := hI9270.1.2
      have b9279 := BT_get hI9270.1.1 0 1 2 (0) (0) (900) (by decide) 1 (by decide) (by decide)
      rw [e9278] at b9279
      obtain ⟨w9280, ew9280⟩ : ∃ w : Int32, I9270 (ad g 0) 2 = w := ⟨_, rfl⟩
      have bw9280 := BT_get hI9270.1.1 0 2 3 (0) (0) (900) (by decide) 2 (by decide) (by decide)
      rw [ew9280] at bw9280
      obtain ⟨w9281, ew9281⟩ : ∃ w : Int32, I9270 (ad g 0) 3 = w := ⟨_, rfl⟩
      have bw9281 := BT_get hI9270.1.1 0 3 4 (0) (0) (900) (by decide) 3 (by decide) (by decide)
      rw [ew9281] at bw9281
      obtain ⟨w9282, ew9282⟩ : ∃ w : Int32, I9270 (ad g 0) 4 = w := ⟨_, rfl⟩
      have bw9282 := BT_get hI9270.1.1 0 4 5 (0) (0) (900) (by decide) 4 (by decide) (by decide)
      rw [ew9282] at bw9282
      obtain ⟨w9283, ew9283⟩ : ∃ w : Int32, I9270 (ad g 0) 5 = w := ⟨_, rfl⟩
      have bw9283 := BT_get hI9270.1.1 0 5 6 (0) (0) (4) (by decide) 5 (by decide) (by decide)
      rw [ew9283] at bw9283
      rw [ew9280, ew9281, ew9282, ew9283, ew9259] at pI9270
      exact WP_zret dX11_readIlls_61 rfl (nar_z (by omega)) ⟨⟨hI9270, rfl, fr9273, fr9275, fr9274, (by rw [ew9280, ew9281, ew9282, ew9283, e9276, e9277, ew9244]; omega)⟩, _, rfl, by omega, by omega, (fun h => False.elim (by omega))⟩
    · refine WP_aload_n dX11_readIlls_36 rfl ?_
      refine WP_getr dX11_readIlls_37 fX11_108 rfl (ly_is hy 0 11 rfl) (rf hr 0 35 17 (by decide)) ?_
      refine WP_iload_n dX11_readIlls_40 rfl ?_
      refine WQ_iald dX11_readIlls_41 (ly_is hy 17 13 rfl) (ly_n hy 17 4 rfl) (by omega) (by omega) (fun q hq => BT_get hI9249.1.1 17 0 4 (0) (0) (127) (by decide) q (Nat.zero_le _) hq) (fun v9284 av9284 bv9284 ev9284 => ?_)
      clear ev9284
      refine WQ_if_eq 51 dX11_readIlls_42 rfl (fun c9284 => ?_) (fun c9284 => ?_)
      · refine WP_iload_n dX11_readIlls_51 rfl ?_
        refine WQ_iconst (-1) (-1) dX11_readIlls_52 rfl rfl (fun v9286 hv9286 => ?_)
        refine WQ_icmp_ne 62 dX11_readIlls_53 rfl (fun c9286 => ?_) (fun c9286 => False.elim (by omega))
        refine WP_aload_n dX11_readIlls_62 rfl ?_
        refine WP_callV0 (k := 11) dX11_readIlls_63 ⟨⟨⟨by decide, by decide⟩, zX11_scan⟩, lX11_63, by decide, rfl, vX11_scan.1, vX11_scan.2⟩ (ly_is hy 0 11 rfl) (sm_scanx hy hr hI9249   (by rw [ew9260, ew9258]; omega)) (Nat.le_of_ble_eq_true rfl) ?_
        intro r I9288 J9289 Ra hq
        obtain ⟨⟨hI9288, ec, fiI9288, fjI9288, fqI9288, ⟨pI9288, sI9288_0_7, sI9288_0_15, sI9288_0_16, sI9288_0_17, sI9288_0_18⟩⟩, rfl⟩ := hq
        rw [ec]
        clear ec Ra
        have fr9290 : fz 49 g [0, 17] I I9288 := fz_tr fr9251 (fz_mono fiI9288 (by decide))
        have fr9291 : fs g [3, 4, 5, 6, 7, 8, 9] I I9288 := fs_tr fr9252 (fs_mono fqI9288 (by decide))
        have fr9292 : fz 49 g [] J J9289 := fz_tr fr9253 (fz_mono fjI9288 (by decide))
        have e9293 : I9288 (ad g 0) 15 = w9247 := by rw [sI9288_0_15]; exact e9254
        have e9294 : I9288 (ad g 0) 17 = w9248 := by rw [sI9288_0_17]; exact e9255
        have e9295 : I9288 (ad g 0) 1 = L := hI9288.1.2
        have b9296 := BT_get hI9288.1.1 0 1 2 (0) (0) (900) (by decide) 1 (by decide) (by decide)
        rw [e9295] at b9296
        obtain ⟨w9297, ew9297⟩ : ∃ w : Int32, I9288 (ad g 0) 2 = w := ⟨_, rfl⟩
        have bw9297 := BT_get hI9288.1.1 0 2 3 (0) (0) (900) (by decide) 2 (by decide) (by decide)
        rw [ew9297] at bw9297
        obtain ⟨w9298, ew9298⟩ : ∃ w : Int32, I9288 (ad g 0) 3 = w := ⟨_, rfl⟩
        have bw9298 := BT_get hI9288.1.1 0 3 4 (0) (0) (900) (by decide) 3 (by decide) (by decide)
        rw [ew9298] at bw9298
        obtain ⟨w9299, ew9299⟩ : ∃ w : Int32, I9288 (ad g 0) 4 = w := ⟨_, rfl⟩
        have bw9299 := BT_get hI9288.1.1 0 4 5 (0) (0) (900) (by decide) 4 (by decide) (by decide)
        rw [ew9299] at bw9299
        obtain ⟨w9300, ew9300⟩ : ∃ w : Int32, I9288 (ad g 0) 5 = w := ⟨_, rfl⟩
        have bw9300 := BT_get hI9288.1.1 0 5 6 (0) (0) (4) (by decide) 5 (by decide) (by decide)
        rw [ew9300] at bw9300
        rw [ew9297, ew9298, ew9299, ew9300, ew9260] at pI9288
        refine WP_aload_n dX11_readIlls_66 rfl ?_
        refine WQ_iconst (1) (1) dX11_readIlls_67 rfl rfl (fun v9301 hv9301 => ?_)
        refine WQ_bipush (127) (127) dX11_readIlls_68 rfl rfl (fun v9302 hv9302 => ?_)
        refine WP_callV2 (k := 11) dX11_readIlls_70 ⟨⟨⟨by decide, by decide⟩, zX11_number⟩, lX11_81, by decide, rfl, vX11_number.1, vX11_number.2⟩ (ly_is hy 0 11 rfl) (sm_numberx hy hr hI9288 v9301 v9302 (by omega) (by omega) (by omega) (by omega) (by rw [ew9297, ew9298, ew9299, ew9300]; omega)) (Nat.le_of_ble_eq_true rfl) ?_
        intro r I9303 J9304 Ra hq
        obtain ⟨⟨hI9303, ec, fiI9303, fjI9303, fqI9303, ⟨pI9303, sI9303_0_15, sI9303_0_16, sI9303_0_17, sI9303_0_18⟩⟩, v9305, rfl, av9305, bv9305, cv9305⟩ := hq
        show WP _ _ _ _ (.int _ :: _) _ _ _ _
        rw [ec]
        clear ec Ra
        have fr9306 : fz 49 g [0, 17] I I9303 := fz_tr fr9290 (fz_mono fiI9303 (by decide))
        have fr9307 : fs g [3, 4, 5, 6, 7, 8, 9] I I9303 := fs_tr fr9291 (fs_mono fqI9303 (by decide))
        have fr9308 : fz 49 g [] J J9304 := fz_tr fr9292 (fz_mono fjI9303 (by decide))
        have e9309 : I9303 (ad g 0) 15 = w9247 := by rw [sI9303_0_15]; exact e9293
        have e9310 : I9303 (ad g 0) 17 = w9248 := by rw [sI9303_0_17]; exact e9294
        have e9311 : I9303 (ad g 0) 1 = L := hI9303.1.2
        have b9312 := BT_get hI9303.1.1 0 1 2 (0) (0) (900) (by decide) 1 (by decide) (by decide)
        rw [e9311] at b9312
        obtain ⟨w9313, ew9313⟩ : ∃ w : Int32, I9303 (ad g 0) 2 = w := ⟨_, rfl⟩
        have bw9313 := BT_get hI9303.1.1 0 2 3 (0) (0) (900) (by decide) 2 (by decide) (by decide)
        rw [ew9313] at bw9313
        obtain ⟨w9314, ew9314⟩ : ∃ w : Int32, I9303 (ad g 0) 3 = w := ⟨_, rfl⟩
        have bw9314 := BT_get hI9303.1.1 0 3 4 (0) (0) (900) (by decide) 3 (by decide) (by decide)
        rw [ew9314] at bw9314
        obtain ⟨w9315, ew9315⟩ : ∃ w : Int32, I9303 (ad g 0) 4 = w := ⟨_, rfl⟩
        have bw9315 := BT_get hI9303.1.1 0 4 5 (0) (0) (900) (by decide) 4 (by decide) (by decide)
        rw [ew9315] at bw9315
        obtain ⟨w9316, ew9316⟩ : ∃ w : Int32, I9303 (ad g 0) 5 = w := ⟨_, rfl⟩
        have bw9316 := BT_get hI9303.1.1 0 5 6 (0) (0) (4) (by decide) 5 (by decide) (by decide)
        rw [ew9316] at bw9316
        rw [ew9313, ew9314, ew9315, ew9316, ew9298] at pI9303
        obtain ⟨w9317, ew9317⟩ : ∃ w : Int32, I9303 (ad g 0) 7 = w := ⟨_, rfl⟩
        have bw9317 := BT_get hI9303.1.1 0 7 8 (-1) (0) (1000) (by decide) 7 (by decide) (by decide)
        rw [ew9317] at bw9317
        rw [ew9317] at cv9305
        refine WQ_if_ne 78 dX11_readIlls_73 rfl (fun c9317 => ?_) (fun c9317 => ?_)
        · refine WP_aload_n dX11_readIlls_78 rfl ?_
          refine WP_getr dX11_readIlls_79 fX11_108 rfl (ly_is hy 0 11 rfl) (rf hr 0 35 17 (by decide)) ?_
          refine WP_iload_n dX11_readIlls_82 rfl ?_
          refine WP_aload_n dX11_readIlls_83 rfl ?_
          refine WQ_getim dX11_readIlls_84 fX11_56 rfl (ly_is hy 0 11 rfl) ew9317 ?_
          refine WQ_iast dX11_readIlls_87 (ly_is hy 17 13 rfl) (ly_n hy 17 4 rfl) (by omega) (by omega) (fun I9319 eI9319 => ?_)
          have hI9319 : MP g n L I9319 := by rw [eI9319]; exact (mp_w hy hI9303 (c := 17) (mi_r hy hI9303.1 (c := 17) (0) (0) (127) (by decide) (Or.inl (by decide)) (by decide) (by omega) (by omega)) (by decide) (by decide) (Or.inl (by decide)))
          have e9320 : I9319 (ad g 0) 15 = w9247 := by rw [eI9319, pp_ne _ _ (Or.inl (ly_ne hy (by decide) (by decide) (by decide)))]; exact e9309
          have e9321 : I9319 (ad g 0) 17 = w9248 := by rw [eI9319, pp_ne _ _ (Or.inl (ly_ne hy (by decide) (by decide) (by decide)))]; exact e9310
          have e9322 : I9319 (ad g 0) 1 = L := by rw [eI9319, pp_ne _ _ (Or.inl (ly_ne hy (by decide) (by decide) (by decide)))]; exact e9311
          have e9323 : I9319 (ad g 0) 2 = w9313 := by rw [eI9319, pp_ne _ _ (Or.inl (ly_ne hy (by decide) (by decide) (by decide)))]; exact ew9313
          have e9324 : I9319 (ad g 0) 3 = w9314 := by rw [eI9319, pp_ne _ _ (Or.inl (ly_ne hy (by decide) (by decide) (by decide)))]; exact ew9314
          have e9325 : I9319 (ad g 0) 4 = w9315 := by rw [eI9319, pp_ne _ _ (Or.inl (ly_ne hy (by decide) (by decide) (by decide)))]; exact ew9315
          have e9326 : I9319 (ad g 0) 5 = w9316 := by rw [eI9319, pp_ne _ _ (Or.inl (ly_ne hy (by decide) (by decide) (by decide)))]; exact ew9316
          have e9327 : I9319 (ad g 0) 7 = w9317 := by rw [eI9319, pp_ne _ _ (Or.inl (ly_ne hy (by decide) (by decide) (by decide)))]; exact ew9317
          have fr9328 : fs g [3, 4, 5, 6, 7, 8, 9] I I9319 := by rw [eI9319]; exact fs_ppn hy fr9307 (by decide) (by decide)
          have fr9329 : fz 49 g [0, 17] I I9319 := by rw [eI9319]; exact fzm_pp hy fr9306 (by decide) (by decide)
          clear eI9319
          refine WQ_iconst (1) (1) dX11_readIlls_88 rfl rfl (fun v9330 hv9330 => ?_)
          exact WP_zret dX11_readIlls_89 rfl (nar_z (by omega)) ⟨⟨hI9319, rfl, fr9329, fr9308, fr9328, (by rw [e9323, e9324, e9325, e9326, e9320, e9321, ew9244]; omega)⟩, _, rfl, by omega, by omega, (fun _ => by rw [fz_at fr9329 30 (by decide) (by decide), fz_at fr9329 31 (by decide) (by decide), show I9319 (ad g 0) 15 = I (ad g 0) 15 from (by rw [e9320, ew9247] <;> exact (eq32 _ _).mpr (by omega))]; exact hw)⟩
        · refine WQ_iconst (0) (0) dX11_readIlls_76 rfl rfl (fun v9331 hv9331 => ?_)
          exact WP_zret dX11_readIlls_77 rfl (nar_z (by omega)) ⟨⟨hI9303, rfl, fr9306, fr9308, fr9307, (by rw [ew9313, ew9314, ew9315, ew9316, e9309, e9310, ew9244]; omega)⟩, _, rfl, by omega, by omega, (fun h => False.elim (by omega))⟩
      · refine WP_aload_n dX11_readIlls_45 rfl ?_
        refine WQ_iconst (3) (3) dX11_readIlls_46 rfl rfl (fun v9332 hv9332 => ?_)
        refine WP_callV1 (k := 11) dX11_readIlls_47 ⟨⟨⟨by decide, by decide⟩, zX11_bad⟩, lX11_49, by decide, rfl, vX11_bad.1, vX11_bad.2⟩ (ly_is hy 0 11 rfl) (sm_badx hy hr hI9249 v9332  (by rw [ew9258, ew9259, ew9260, ew9261]; omega)) (Nat.le_of_ble_eq_true rfl) ?_
        intro r I9333 J9334 Ra hq
        obtain ⟨⟨hI9333, ec, fiI9333, fjI9333, fqI9333, ⟨pI9333, sI9333_0_15, sI9333_0_16, sI9333_0_17, sI9333_0_18⟩⟩, v9335, rfl, av9335, bv9335⟩ := hq
        show WP _ _ _ _ (.int _ :: _) _ _ _ _
        rw [ec]
        clear ec Ra
        have fr9336 : fz 49 g [0, 17] I I9333 := fz_tr fr9251 (fz_mono fiI9333 (by decide))
        have fr9337 : fs g [3, 4, 5, 6, 7, 8, 9] I I9333 := fs_tr fr9252 (fs_mono fqI9333 (by decide))
        have fr9338 : fz 49 g [] J J9334 := fz_tr fr9253 (fz_mono fjI9333 (by decide))
        have e9339 : I9333 (ad g 0) 15 = w9247 := by rw [sI9333_0_15]; exact e9254
        have e9340 : I9333 (ad g 0) 17 = w9248 := by rw [sI9333_0_17]; exact e9255
        have e9341 : I9333 (ad g 0) 1 = L := hI9333.1.2
        have b9342 := BT_get hI9333.1.1 0 1 2 (0) (0) (900) (by decide) 1 (by decide) (by decide)
        rw [e9341] at b9342
        obtain ⟨w9343, ew9343⟩ : ∃ w : Int32, I9333 (ad g 0) 2 = w := ⟨_, rfl⟩
        have bw9343 := BT_get hI9333.1.1 0 2 3 (0) (0) (900) (by decide) 2 (by decide) (by decide)
        rw [ew9343] at bw9343
        obtain ⟨w9344, ew9344⟩ : ∃ w : Int32, I9333 (ad g 0) 3 = w := ⟨_, rfl⟩
        have bw9344 := BT_get hI9333.1.1 0 3 4 (0) (0) (900) (by decide) 3 (by decide) (by decide)
        rw [ew9344] at bw9344
        obtain ⟨w9345, ew9345⟩ : ∃ w : Int32, I9333 (ad g 0) 4 = w := ⟨_, rfl⟩
        have bw9345 := BT_get hI9333.1.1 0 4 5 (0) (0) (900) (by decide) 4 (by decide) (by decide)
        rw [ew9345] at bw9345
        obtain ⟨w9346, ew9346⟩ : ∃ w : Int32, I9333 (ad g 0) 5 = w := ⟨_, rfl⟩
        have bw9346 := BT_get hI9333.1.1 0 5 6 (0) (0) (4) (by decide) 5 (by decide) (by decide)
        rw [ew9346] at bw9346
        rw [ew9343, ew9344, ew9345, ew9346, ew9259] at pI9333
        exact WP_zret dX11_readIlls_50 rfl (nar_z (by omega)) ⟨⟨hI9333, rfl, fr9336, fr9338, fr9337, (by rw [ew9343, ew9344, ew9345, ew9346, e9339, e9340, ew9244]; omega)⟩, _, rfl, by omega, by omega, (fun h => False.elim (by omega))⟩
  · refine WP_aload_n dX11_readIlls_12 rfl ?_
    refine WQ_iconst (1) (1) dX11_readIlls_13 rfl rfl (fun v9347 hv9347 => ?_)
    refine WP_callV1 (k := 11) dX11_readIlls_14 ⟨⟨⟨by decide, by decide⟩, zX11_bad⟩, lX11_49, by decide, rfl, vX11_bad.1, vX11_bad.2⟩ (ly_is hy 0 11 rfl) (sm_badx hy hr hI9249 v9347  (by rw [ew9258, ew9259, ew9260, ew9261]; omega)) (Nat.le_of_ble_eq_true rfl) ?_
    intro r I9348 J9349 Ra hq
    obtain ⟨⟨hI9348, ec, fiI9348, fjI9348, fqI9348, ⟨pI9348, sI9348_0_15, sI9348_0_16, sI9348_0_17, sI9348_0_18⟩⟩, v9350, rfl, av9350, bv9350⟩ := hq
    show WP _ _ _ _ (.int _ :: _) _ _ _ _
    rw [ec]
    clear ec Ra
    have fr9351 : fz 49 g [0, 17] I I9348 := fz_tr fr9251 (fz_mono fiI9348 (by decide))
    have fr9352 : fs g [3, 4, 5, 6, 7, 8, 9] I I9348 := fs_tr fr9252 (fs_mono fqI9348 (by decide))
    have fr9353 : fz 49 g [] J J9349 := fz_tr fr9253 (fz_mono fjI9348 (by decide))
    have e9354 : I9348 (ad g 0) 15 = w9247 := by rw [sI9348_0_15]; exact e9254
    have e9355 : I9348 (ad g 0) 17 = w9248 := by rw [sI9348_0_17]; exact e9255
    have e9356 : I9348 (ad g 0) 1 = L := hI9348.1.2
    have b9357 := BT_get hI9348.1.1 0 1 2 (0) (0) (900) (by decide) 1 (by decide) (by decide)
    rw [e9356] at b9357
    obtain ⟨w9358, ew9358⟩ : ∃ w : Int32, I9348 (ad g 0) 2 = w := ⟨_, rfl⟩
    have bw9358 := BT_get hI9348.1.1 0 2 3 (0) (0) (900) (by decide) 2 (by decide) (by decide)
    rw [ew9358] at bw9358
    obtain ⟨w9359, ew9359⟩ : ∃ w : Int32, I9348 (ad g 0) 3 = w := ⟨_, rfl⟩
    have bw9359 := BT_get hI9348.1.1 0 3 4 (0) (0) (900) (by decide) 3 (by decide) (by decide)
    rw [ew9359] at bw9359
    obtain ⟨w9360, ew9360⟩ : ∃ w : Int32, I9348 (ad g 0) 4 = w := ⟨_, rfl⟩
    have bw9360 := BT_get hI9348.1.1 0 4 5 (0) (0) (900) (by decide) 4 (by decide) (by decide)
    rw [ew9360] at bw9360
    obtain ⟨w9361, ew9361⟩ : ∃ w : Int32, I9348 (ad g 0) 5 = w := ⟨_, rfl⟩
    have bw9361 := BT_get hI9348.1.1 0 5 6 (0) (0) (4) (by decide) 5 (by decide) (by decide)
    rw [ew9361] at bw9361
    rw [ew9358, ew9359, ew9360, ew9361, ew9259] at pI9348
    exact WP_zret dX11_readIlls_17 rfl (nar_z (by omega)) ⟨⟨hI9348, rfl, fr9351, fr9353, fr9352, (by rw [ew9358, ew9359, ew9360, ew9361, e9354, e9355, ew9244]; omega)⟩, _, rfl, by omega, by omega, (fun h => False.elim (by omega))⟩
set_option maxHeartbeats 4000000 in
set_option maxRecDepth 100000 in
theorem sm_readSortx {g : GG} {n : Int} {L : Int32} (hy : Ly g)  {I : pI} {J : pJ} {R : pR} (hr : Rf g R) (hI : MP g n L I)   (hb : ((I (ad g 0) 4).toInt ≤ (I (ad g 0) 2).toInt ∧ (I (ad g 0) 3).toInt ≤ (I (ad g 0) 4).toInt ∧ ((I (ad g 0) 5).toInt = 0 ∨ (I (ad g 0) 3).toInt < (I (ad g 0) 4).toInt)) ∧ (I (ad g 0) 17).toInt < (I (ad g 0) 15).toInt) (hw : WRt (I (ad g 30)) (I (ad g 31)) (7 * (I (ad g 0) 15).toInt)) : SP g mX11_readSort [.ref (ad g 0)] I J R (fun r I' J' R' => (MP g n L I' ∧ R' = R ∧ fz 49 g [0, 14, 15, 16, 17, 27, 30, 31, 32, 33] I I' ∧ fz 49 g [4] J J' ∧ fs g [3, 4, 5, 6, 7, 8, 9, 15] I I' ∧ (((I' (ad g 0) 4).toInt ≤ (I' (ad g 0) 2).toInt ∧ (I' (ad g 0) 3).toInt ≤ (I' (ad g 0) 4).toInt ∧ ((I' (ad g 0) 5).toInt = 0 ∨ (I' (ad g 0) 3).toInt < (I' (ad g 0) 4).toInt)) ∧ (I (ad g 0) 3).toInt ≤ (I' (ad g 0) 3).toInt ∧ (I' (ad g 0) 17).toInt < (I' (ad g 0) 15).toInt)) ∧ ∃ v : Int32, r = some (.int v) ∧ 0 ≤ v.toInt ∧ v.toInt ≤ 1 ∧ (v.toInt = 1 → WRt (I' (ad g 30)) (I' (ad g 31)) (7 * (I' (ad g 0) 15).toInt))) := by
  refine SP_of ⟨by decide, rfl⟩ (Nat.le_of_ble_eq_true rfl) ?_
  have e9362 : I (ad g 0) 1 = L := hI.1.2
  have b9363 := BT_get hI.1.1 0 1 2 (0) (0) (900) (by decide) 1 (by decide) (by decide)
  rw [e9362] at b9363
  have fr0 : fz 49 g [0, 14, 15, 16, 17, 27, 30, 31, 32, 33] I I := fz_rf
  have frj0 : fz 49 g [4] J J := fz_rf
  have frq0 : fs g [3, 4, 5, 6, 7, 8, 9, 15] I I := fs_rf
  obtain ⟨w9364, ew9364⟩ : ∃ w : Int32, I (ad g 0) 2 = w := ⟨_, rfl⟩
  have bw9364 := BT_get hI.1.1 0 2 3 (0) (0) (900) (by decide) 2 (by decide) (by decide)
  rw [ew9364] at bw9364
  obtain ⟨w9365, ew9365⟩ : ∃ w : Int32, I (ad g 0) 3 = w := ⟨_, rfl⟩
  have bw9365 := BT_get hI.1.1 0 3 4 (0) (0) (900) (by decide) 3 (by decide) (by decide)
  rw [ew9365] at bw9365
  obtain ⟨w9366, ew9366⟩ : ∃ w : Int32, I (ad g 0) 4 = w := ⟨_, rfl⟩
  have bw9366 := BT_get hI.1.1 0 4 5 (0) (0) (900) (by decide) 4 (by decide) (by decide)
  rw [ew9366] at bw9366
  obtain ⟨w9367, ew9367⟩ : ∃ w : Int32, I (ad g 0) 5 = w := ⟨_, rfl⟩
  have bw9367 := BT_get hI.1.1 0 5 6 (0) (0) (4) (by decide) 5 (by decide) (by decide)
  rw [ew9367] at bw9367
  obtain ⟨w9368, ew9368⟩ : ∃ w : Int32, I (ad g 0) 15 = w := ⟨_, rfl⟩
  have bw9368 := BT_get hI.1.1 0 15 16 (0) (0) (4) (by decide) 15 (by decide) (by decide)
  rw [ew9368] at bw9368
  obtain ⟨w9369, ew9369⟩ : ∃ w : Int32, I (ad g 0) 17 = w := ⟨_, rfl⟩
  have bw9369 := BT_get hI.1.1 0 17 18 (-1) (0) (3) (by decide) 17 (by decide) (by decide)
  rw [ew9369] at bw9369
  rw [ew9364, ew9365, ew9366, ew9367, ew9368, ew9369] at hb
  refine WP_aload_n dX11_readSort_0 rfl ?_
  refine WQ_getim dX11_readSort_1 fX11_88 rfl (ly_is hy 0 11 rfl) ew9368 ?_
  refine WQ_iconst (4) (4) dX11_readSort_4 rfl rfl (fun v9370 hv9370 => ?_)
  refine WQ_icmp_ne 14 dX11_readSort_5 rfl (fun c9370 => ?_) (fun c9370 => ?_)
  · refine WP_aload_n dX11_readSort_14 rfl ?_
    refine WP_callV0 (k := 11) dX11_readSort_15 ⟨⟨⟨by decide, by decide⟩, zX11_scan⟩, lX11_63, by decide, rfl, vX11_scan.1, vX11_scan.2⟩ (ly_is hy 0 11 rfl) (sm_scanx hy hr hI   (by rw [ew9366, ew9364]; omega)) (Nat.le_of_ble_eq_true rfl) ?_
    intro r I9372 J9373 Ra hq
    obtain ⟨⟨hI9372, ec, fiI9372, fjI9372, fqI9372, ⟨pI9372, sI9372_0_7, sI9372_0_15, sI9372_0_16, sI9372_0_17, sI9372_0_18⟩⟩, rfl⟩ := hq
    rw [ec]
    clear ec Ra
    have fr9374 : fz 49 g [0, 14, 15, 16, 17, 27, 30, 31, 32, 33] I I9372 := fz_tr fr0 (fz_mono fiI9372 (by decide))
    have fr9375 : fs g [3, 4, 5, 6, 7, 8, 9, 15] I I9372 := fs_tr frq0 (fs_mono fqI9372 (by decide))
    have fr9376 : fz 49 g [4] J J9373 := fz_tr frj0 (fz_mono fjI9372 (by decide))
    have HI9372 := hw
    rw [← fz_at fiI9372 30 (by decide) (by decide), ← fz_at fiI9372 31 (by decide) (by decide)] at HI9372
    have e9377 : I9372 (ad g 0) 15 = w9368 := by rw [sI9372_0_15]; exact ew9368
    have e9378 : I9372 (ad g 0) 17 = w9369 := by rw [sI9372_0_17]; exact ew9369
    have e9379 : I9372 (ad g 0) 1 = L := hI9372.1.2
    have b9380 := BT_get hI9372.1.1 0 1 2 (0) (0) (900) (by decide) 1 (by decide) (by decide)
    rw [e9379] at b9380
    obtain ⟨w9381, ew9381⟩ : ∃ w : Int32, I9372 (ad g 0) 2 = w := ⟨_, rfl⟩
    have bw9381 := BT_get hI9372.1.1 0 2 3 (0) (0) (900) (by decide) 2 (by decide) (by decide)
    rw [ew9381] at bw9381
    obtain ⟨w9382, ew9382⟩ : ∃ w : Int32, I9372 (ad g 0) 3 = w := ⟨_, rfl⟩
    have bw9382 := BT_get hI9372.1.1 0 3 4 (0) (0) (900) (by decide) 3 (by decide) (by decide)
    rw [ew9382] at bw9382
    obtain ⟨w9383, ew9383⟩ : ∃ w : Int32, I9372 (ad g 0) 4 = w := ⟨_, rfl⟩
    have bw9383 := BT_get hI9372.1.1 0 4 5 (0) (0) (900) (by decide) 4 (by decide) (by decide)
    rw [ew9383] at bw9383
    obtain ⟨w9384, ew9384⟩ : ∃ w : Int32, I9372 (ad g 0) 5 = w := ⟨_, rfl⟩
    have bw9384 := BT_get hI9372.1.1 0 5 6 (0) (0) (4) (by decide) 5 (by decide) (by decide)
    rw [ew9384] at bw9384
    rw [ew9381, ew9382, ew9383, ew9384, ew9366] at pI9372
    refine WP_aload_n dX11_readSort_18 rfl ?_
    refine WQ_getim dX11_readSort_19 fX11_88 rfl (ly_is hy 0 11 rfl) e9377 ?_
    refine WP_istore_n (ls' := [(0, _), (1, _)]) dX11_readSort_22 (by decide) rfl ?_
    refine WP_aload_n dX11_readSort_23 rfl ?_
    refine WP_aload_n dX11_readSort_24 rfl ?_
    refine WP_getr dX11_readSort_25 fX11_91 rfl (ly_is hy 0 11 rfl) (rf hr 0 22 4 (by decide)) ?_
    refine WP_iload_n dX11_readSort_28 rfl ?_
    refine WP_callV2 (k := 11) dX11_readSort_29 ⟨⟨⟨by decide, by decide⟩, zX11_fresh⟩, lX11_95, by decide, rfl, vX11_fresh.1, vX11_fresh.2⟩ (ly_is hy 0 11 rfl) (sm_freshx_4 hy hr hI9372 w9368 (by omega) (by omega) (by rw [ew9381, ew9382, ew9383, ew9384]; omega)) (Nat.le_of_ble_eq_true rfl) ?_
    intro r I9385 J9386 Ra hq
    obtain ⟨⟨hI9385, ec, fiI9385, fjI9385, fqI9385, ⟨pI9385, sI9385_0_15, sI9385_0_16, sI9385_0_17, sI9385_0_18⟩⟩, v9387, rfl, av9387, bv9387⟩ := hq
    show WP _ _ _ _ (.int _ :: _) _ _ _ _
    rw [ec]
    clear ec Ra
    have fr9388 : fz 49 g [0, 14, 15, 16, 17, 27, 30, 31, 32, 33] I I9385 := fz_tr fr9374 (fz_mono fiI9385 (by decide))
    have fr9389 : fs g [3, 4, 5, 6, 7, 8, 9, 15] I I9385 := fs_tr fr9375 (fs_mono fqI9385 (by decide))
    have fr9390 : fz 49 g [4] J J9386 := fz_tr fr9376 (fz_mono fjI9385 (by decide))
    have HI9385 := HI9372
    rw [← fz_at fiI9385 30 (by decide) (by decide), ← fz_at fiI9385 31 (by decide) (by decide)] at HI9385
    have e9391 : I9385 (ad g 0) 15 = w9368 := by rw [sI9385_0_15]; exact e9377
    have e9392 : I9385 (ad g 0) 17 = w9369 := by rw [sI9385_0_17]; exact e9378
    have e9393 : I9385 (ad g 0) 1 = L := hI9385.1.2
    have b9394 := BT_get hI9385.1.1 0 1 2 (0) (0) (900) (by decide) 1 (by decide) (by decide)
    rw [e9393] at b9394
    obtain ⟨w9395, ew9395⟩ : ∃ w : Int32, I9385 (ad g 0) 2 = w := ⟨_, rfl⟩
    have bw9395 := BT_get hI9385.1.1 0 2 3 (0) (0) (900) (by decide) 2 (by decide) (by decide)
    rw [ew9395] at bw9395
    obtain ⟨w9396, ew9396⟩ : ∃ w : Int32, I9385 (ad g 0) 3 = w := ⟨_, rfl⟩
    have bw9396 := BT_get hI9385.1.1 0 3 4 (0) (0) (900) (by decide) 3 (by decide) (by decide)
    rw [ew9396] at bw9396
    obtain ⟨w9397, ew9397⟩ : ∃ w : Int32, I9385 (ad g 0) 4 = w := ⟨_, rfl⟩
    have bw9397 := BT_get hI9385.1.1 0 4 5 (0) (0) (900) (by decide) 4 (by decide) (by decide)
    rw [ew9397] at bw9397
    obtain ⟨w9398, ew9398⟩ : ∃ w : Int32, I9385 (ad g 0) 5 = w := ⟨_, rfl⟩
    have bw9398 := BT_get hI9385.1.1 0 5 6 (0) (0) (4) (by decide) 5 (by decide) (by decide)
    rw [ew9398] at bw9398
    rw [ew9395, ew9396, ew9397, ew9398, ew9382] at pI9385
    refine WQ_if_eq 45 dX11_readSort_32 rfl (fun c9398 => ?_) (fun c9398 => ?_)
    · refine WQ_iconst (0) (0) dX11_readSort_45 rfl rfl (fun v9400 hv9400 => ?_)
      exact WP_zret dX11_readSort_46 rfl (nar_z (by omega)) ⟨⟨hI9385, rfl, fr9388, fr9390, fr9389, (by rw [ew9395, ew9396, ew9397, ew9398, e9391, e9392, ew9365]; omega)⟩, _, rfl, by omega, by omega, (fun h => False.elim (by omega))⟩
    · refine WP_aload_n dX11_readSort_35 rfl ?_
      refine WQ_iconst (1) (1) dX11_readSort_36 rfl rfl (fun v9401 hv9401 => ?_)
      refine WQ_bipush (99) (99) dX11_readSort_37 rfl rfl (fun v9402 hv9402 => ?_)
      refine WP_callV2 (k := 11) dX11_readSort_39 ⟨⟨⟨by decide, by decide⟩, zX11_number⟩, lX11_81, by decide, rfl, vX11_number.1, vX11_number.2⟩ (ly_is hy 0 11 rfl) (sm_numberx hy hr hI9385 v9401 v9402 (by omega) (by omega) (by omega) (by omega) (by rw [ew9395, ew9396, ew9397, ew9398]; omega)) (Nat.le_of_ble_eq_true rfl) ?_
      intro r I9403 J9404 Ra hq
      obtain ⟨⟨hI9403, ec, fiI9403, fjI9403, fqI9403, ⟨pI9403, sI9403_0_15, sI9403_0_16, sI9403_0_17, sI9403_0_18⟩⟩, v9405, rfl, av9405, bv9405, cv9405⟩ := hq
      show WP _ _ _ _ (.int _ :: _) _ _ _ _
      rw [ec]
      clear ec Ra
      have fr9406 : fz 49 g [0, 14, 15, 16, 17, 27, 30, 31, 32, 33] I I9403 := fz_tr fr9388 (fz_mono fiI9403 (by decide))
      have fr9407 : fs g [3, 4, 5, 6, 7, 8, 9, 15] I I9403 := fs_tr fr9389 (fs_mono fqI9403 (by decide))
      have fr9408 : fz 49 g [4] J J9404 := fz_tr fr9390 (fz_mono fjI9403 (by decide))
      have HI9403 := HI9385
      rw [← fz_at fiI9403 30 (by decide) (by decide), ← fz_at fiI9403 31 (by decide) (by decide)] at HI9403
      have e9409 : I9403 (ad g 0) 15 = w9368 := by rw [sI9403_0_15]; exact e9391
      have e9410 : I9403 (ad g 0) 17 = w9369 := by rw [sI9403_0_17]; exact e9392
      have e9411 : I9403 (ad g 0) 1 = L := hI9403.1.2
      have b9412 := BT_get hI9403.1.1 0 1 2 (0) (0) (900) (by decide) 1 (by decide) (by decide)
      rw [e9411] at b9412
      obtain ⟨w9413, ew9413⟩ : ∃ w : Int32, I9403 (ad g 0) 2 = w := ⟨_, rfl⟩
      have bw9413 := BT_get hI9403.1.1 0 2 3 (0) (0) (900) (by decide) 2 (by decide) (by decide)
      rw [ew9413] at bw9413
      obtain ⟨w9414, ew9414⟩ : ∃ w : Int32, I9403 (ad g 0) 3 = w := ⟨_, rfl⟩
      have bw9414 := BT_get hI9403.1.1 0 3 4 (0) (0) (900) (by decide) 3 (by decide) (by decide)
      rw [ew9414] at bw9414
      obtain ⟨w9415, ew9415⟩ : ∃ w : Int32, I9403 (ad g 0) 4 = w := ⟨_, rfl⟩
      have bw9415 := BT_get hI9403.1.1 0 4 5 (0) (0) (900) (by decide) 4 (by decide) (by decide)
      rw [ew9415] at bw9415
      obtain ⟨w9416, ew9416⟩ : ∃ w : Int32, I9403 (ad g 0) 5 = w := ⟨_, rfl⟩
      have bw9416 := BT_get hI9403.1.1 0 5 6 (0) (0) (4) (by decide) 5 (by decide) (by decide)
      rw [ew9416] at bw9416
      rw [ew9413, ew9414, ew9415, ew9416, ew9396] at pI9403
      obtain ⟨w9417, ew9417⟩ : ∃ w : Int32, I9403 (ad g 0) 7 = w := ⟨_, rfl⟩
      have bw9417 := BT_get hI9403.1.1 0 7 8 (-1) (0) (1000) (by decide) 7 (by decide) (by decide)
      rw [ew9417] at bw9417
      rw [ew9417] at cv9405
      refine WQ_if_ne 47 dX11_readSort_42 rfl (fun c9417 => ?_) (fun c9417 => ?_)
      · refine WP_aload_n dX11_readSort_47 rfl ?_
        refine WP_getr dX11_readSort_48 fX11_99 rfl (ly_is hy 0 11 rfl) (rf hr 0 32 14 (by decide)) ?_
        refine WP_iload_n dX11_readSort_51 rfl ?_
        refine WP_aload_n dX11_readSort_52 rfl ?_
        refine WQ_getim dX11_readSort_53 fX11_56 rfl (ly_is hy 0 11 rfl) ew9417 ?_
        refine WQ_iast dX11_readSort_56 (ly_is hy 14 13 rfl) (ly_n hy 14 4 rfl) (by omega) (by omega) (fun I9419 eI9419 => ?_)
        have hI9419 : MP g n L I9419 := by rw [eI9419]; exact (mp_w14 hy hI9403 (mi_r hy hI9403.1 (c := 14) (0) (0) (99) (by decide) (Or.inl (by decide)) (by decide) (by omega) (by omega)) (by omega))
        have e9420 : I9419 (ad g 0) 15 = w9368 := by rw [eI9419, pp_ne _ _ (Or.inl (ly_ne hy (by decide) (by decide) (by decide)))]; exact e9409
        have e9421 : I9419 (ad g 0) 17 = w9369 := by rw [eI9419, pp_ne _ _ (Or.inl (ly_ne hy (by decide) (by decide) (by decide)))]; exact e9410
        have e9422 : I9419 (ad g 0) 1 = L := by rw [eI9419, pp_ne _ _ (Or.inl (ly_ne hy (by decide) (by decide) (by decide)))]; exact e9411
        have e9423 : I9419 (ad g 0) 2 = w9413 := by rw [eI9419, pp_ne _ _ (Or.inl (ly_ne hy (by decide) (by decide) (by decide)))]; exact ew9413
        have e9424 : I9419 (ad g 0) 3 = w9414 := by rw [eI9419, pp_ne _ _ (Or.inl (ly_ne hy (by decide) (by decide) (by decide)))]; exact ew9414
        have e9425 : I9419 (ad g 0) 4 = w9415 := by rw [eI9419, pp_ne _ _ (Or.inl (ly_ne hy (by decide) (by decide) (by decide)))]; exact ew9415
        have e9426 : I9419 (ad g 0) 5 = w9416 := by rw [eI9419, pp_ne _ _ (Or.inl (ly_ne hy (by decide) (by decide) (by decide)))]; exact ew9416
        have e9427 : I9419 (ad g 0) 7 = w9417 := by rw [eI9419, pp_ne _ _ (Or.inl (ly_ne hy (by decide) (by decide) (by decide)))]; exact ew9417
        have fr9428 : fs g [3, 4, 5, 6, 7, 8, 9, 15] I I9419 := by rw [eI9419]; exact fs_ppn hy fr9407 (by decide) (by decide)
        have fr9429 : fz 49 g [0, 14, 15, 16, 17, 27, 30, 31, 32, 33] I I9419 := by rw [eI9419]; exact fzm_pp hy fr9406 (by decide) (by decide)
        have HI9419 := HI9403
        rw [← (show I9419 (ad g 30) = I9403 (ad g 30) by rw [eI9419, pp_off _ _ (ly_ne hy (by decide) (by decide) (by decide))]), ← (show I9419 (ad g 31) = I9403 (ad g 31) by rw [eI9419, pp_off _ _ (ly_ne hy (by decide) (by decide) (by decide))])] at HI9419
        have NI9419 : 1 ≤ (I9419 (ad g 14) w9368.toInt.toNat).toInt := by rw [eI9419, cl (x := w9368) (n := w9368.toInt.toNat) (by omega), pp_self]; omega
        clear eI9419
        refine WP_aload_n dX11_readSort_57 rfl ?_
        refine WQ_iconst (0) (0) dX11_readSort_58 rfl rfl (fun v9430 hv9430 => ?_)
        refine WQ_sipush (1000) (1000) dX11_readSort_59 rfl rfl (fun v9431 hv9431 => ?_)
        refine WP_callV2 (k := 11) dX11_readSort_62 ⟨⟨⟨by decide, by decide⟩, zX11_number⟩, lX11_81, by decide, rfl, vX11_number.1, vX11_number.2⟩ (ly_is hy 0 11 rfl) (sm_numberx hy hr hI9419 v9430 v9431 (by omega) (by omega) (by omega) (by omega) (by rw [e9423, e9424, e9425, e9426]; omega)) (Nat.le_of_ble_eq_true rfl) ?_
        intro r I9432 J9433 Ra hq
        obtain ⟨⟨hI9432, ec, fiI9432, fjI9432, fqI9432, ⟨pI9432, sI9432_0_15, sI9432_0_16, sI9432_0_17, sI9432_0_18⟩⟩, v9434, rfl, av9434, bv9434, cv9434⟩ := hq
        show WP _ _ _ _ (.int _ :: _) _ _ _ _
        rw [ec]
        clear ec Ra
        have fr9435 : fz 49 g [0, 14, 15, 16, 17, 27, 30, 31, 32, 33] I I9432 := fz_tr fr9429 (fz_mono fiI9432 (by decide))
        have fr9436 : fs g [3, 4, 5, 6, 7, 8, 9, 15] I I9432 := fs_tr fr9428 (fs_mono fqI9432 (by decide))
        have fr9437 : fz 49 g [4] J J9433 := fz_tr fr9408 (fz_mono fjI9432 (by decide))
        have HI9432 := HI9419
        rw [← fz_at fiI9432 30 (by decide) (by decide), ← fz_at fiI9432 31 (by decide) (by decide)] at HI9432
        have NI9432 : 1 ≤ (I9432 (ad g 14) w9368.toInt.toNat).toInt := by rw [fz_at fiI9432 14 (by decide) (by decide)]; exact NI9419
        have e9438 : I9432 (ad g 0) 15 = w9368 := by rw [sI9432_0_15]; exact e9420
        have e9439 : I9432 (ad g 0) 17 = w9369 := by rw [sI9432_0_17]; exact e9421
        have e9440 : I9432 (ad g 0) 1 = L := hI9432.1.2
        have b9441 := BT_get hI9432.1.1 0 1 2 (0) (0) (900) (by decide) 1 (by decide) (by decide)
        rw [e9440] at b9441
        obtain ⟨w9442, ew9442⟩ : ∃ w : Int32, I9432 (ad g 0) 2 = w := ⟨_, rfl⟩
        have bw9442 := BT_get hI9432.1.1 0 2 3 (0) (0) (900) (by decide) 2 (by decide) (by decide)
        rw [ew9442] at bw9442
        obtain ⟨w9443, ew9443⟩ : ∃ w : Int32, I9432 (ad g 0) 3 = w := ⟨_, rfl⟩
        have bw9443 := BT_get hI9432.1.1 0 3 4 (0) (0) (900) (by decide) 3 (by decide) (by decide)
        rw [ew9443] at bw9443
        obtain ⟨w9444, ew9444⟩ : ∃ w : Int32, I9432 (ad g 0) 4 = w := ⟨_, rfl⟩
        have bw9444 := BT_get hI9432.1.1 0 4 5 (0) (0) (900) (by decide) 4 (by decide) (by decide)
        rw [ew9444] at bw9444
        obtain ⟨w9445, ew9445⟩ : ∃ w : Int32, I9432 (ad g 0) 5 = w := ⟨_, rfl⟩
        have bw9445 := BT_get hI9432.1.1 0 5 6 (0) (0) (4) (by decide) 5 (by decide) (by decide)
        rw [ew9445] at bw9445
        rw [ew9442, ew9443, ew9444, ew9445, e9424] at pI9432
        obtain ⟨w9446, ew9446⟩ : ∃ w : Int32, I9432 (ad g 0) 7 = w := ⟨_, rfl⟩
        have bw9446 := BT_get hI9432.1.1 0 7 8 (-1) (0) (1000) (by decide) 7 (by decide) (by decide)
        rw [ew9446] at bw9446
        rw [ew9446] at cv9434
        refine WQ_if_ne 70 dX11_readSort_65 rfl (fun c9446 => ?_) (fun c9446 => ?_)
        · refine WP_aload_n dX11_readSort_70 rfl ?_
          refine WP_getr dX11_readSort_71 fX11_102 rfl (ly_is hy 0 11 rfl) (rf hr 0 33 15 (by decide)) ?_
          refine WP_iload_n dX11_readSort_74 rfl ?_
          refine WP_aload_n dX11_readSort_75 rfl ?_
          refine WQ_getim dX11_readSort_76 fX11_56 rfl (ly_is hy 0 11 rfl) ew9446 ?_
          refine WQ_iast dX11_readSort_79 (ly_is hy 15 13 rfl) (ly_n hy 15 4 rfl) (by omega) (by omega) (fun I9448 eI9448 => ?_)
          have hI9448 : MP g n L I9448 := by rw [eI9448]; exact (mp_w hy hI9432 (c := 15) (mi_r hy hI9432.1 (c := 15) (0) (0) (1000) (by decide) (Or.inl (by decide)) (by decide) (by omega) (by omega)) (by decide) (by decide) (Or.inl (by decide)))
          have e9449 : I9448 (ad g 0) 15 = w9368 := by rw [eI9448, pp_ne _ _ (Or.inl (ly_ne hy (by decide) (by decide) (by decide)))]; exact e9438
          have e9450 : I9448 (ad g 0) 17 = w9369 := by rw [eI9448, pp_ne _ _ (Or.inl (ly_ne hy (by decide) (by decide) (by decide)))]; exact e9439
          have e9451 : I9448 (ad g 0) 1 = L := by rw [eI9448, pp_ne _ _ (Or.inl (ly_ne hy (by decide) (by decide) (by decide)))]; exact e9440
          have e9452 : I9448 (ad g 0) 2 = w9442 := by rw [eI9448, pp_ne _ _ (Or.inl (ly_ne hy (by decide) (by decide) (by decide)))]; exact ew9442
          have e9453 : I9448 (ad g 0) 3 = w9443 := by rw [eI9448, pp_ne _ _ (Or.inl (ly_ne hy (by decide) (by decide) (by decide)))]; exact ew9443
          have e9454 : I9448 (ad g 0) 4 = w9444 := by rw [eI9448, pp_ne _ _ (Or.inl (ly_ne hy (by decide) (by decide) (by decide)))]; exact ew9444
          have e9455 : I9448 (ad g 0) 5 = w9445 := by rw [eI9448, pp_ne _ _ (Or.inl (ly_ne hy (by decide) (by decide) (by decide)))]; exact ew9445
          have e9456 : I9448 (ad g 0) 7 = w9446 := by rw [eI9448, pp_ne _ _ (Or.inl (ly_ne hy (by decide) (by decide) (by decide)))]; exact ew9446
          have fr9457 : fs g [3, 4, 5, 6, 7, 8, 9, 15] I I9448 := by rw [eI9448]; exact fs_ppn hy fr9436 (by decide) (by decide)
          have fr9458 : fz 49 g [0, 14, 15, 16, 17, 27, 30, 31, 32, 33] I I9448 := by rw [eI9448]; exact fzm_pp hy fr9435 (by decide) (by decide)
          have HI9448 := HI9432
          rw [← (show I9448 (ad g 30) = I9432 (ad g 30) by rw [eI9448, pp_off _ _ (ly_ne hy (by decide) (by decide) (by decide))]), ← (show I9448 (ad g 31) = I9432 (ad g 31) by rw [eI9448, pp_off _ _ (ly_ne hy (by decide) (by decide) (by decide))])] at HI9448
          have NI9448 : 1 ≤ (I9448 (ad g 14) w9368.toInt.toNat).toInt := by rw [eI9448, pp_off _ _ (ly_ne hy (by decide) (by decide) (by decide))]; exact NI9432
          clear eI9448
          refine WP_aload_n dX11_readSort_80 rfl ?_
          refine WQ_iconst (0) (0) dX11_readSort_81 rfl rfl (fun v9459 hv9459 => ?_)
          refine WQ_bipush (60) (60) dX11_readSort_82 rfl rfl (fun v9460 hv9460 => ?_)
          refine WP_callV2 (k := 11) dX11_readSort_84 ⟨⟨⟨by decide, by decide⟩, zX11_number⟩, lX11_81, by decide, rfl, vX11_number.1, vX11_number.2⟩ (ly_is hy 0 11 rfl) (sm_numberx hy hr hI9448 v9459 v9460 (by omega) (by omega) (by omega) (by omega) (by rw [e9452, e9453, e9454, e9455]; omega)) (Nat.le_of_ble_eq_true rfl) ?_
          intro r I9461 J9462 Ra hq
          obtain ⟨⟨hI9461, ec, fiI9461, fjI9461, fqI9461, ⟨pI9461, sI9461_0_15, sI9461_0_16, sI9461_0_17, sI9461_0_18⟩⟩, v9463, rfl, av9463, bv9463, cv9463⟩ := hq
          show WP _ _ _ _ (.int _ :: _) _ _ _ _
          rw [ec]
          clear ec Ra
          have fr9464 : fz 49 g [0, 14, 15, 16, 17, 27, 30, 31, 32, 33] I I9461 := fz_tr fr9458 (fz_mono fiI9461 (by decide))
          have fr9465 : fs g [3, 4, 5, 6, 7, 8, 9, 15] I I9461 := fs_tr fr9457 (fs_mono fqI9461 (by decide))
          have fr9466 : fz 49 g [4] J J9462 := fz_tr fr9437 (fz_mono fjI9461 (by decide))
          have HI9461 := HI9448
          rw [← fz_at fiI9461 30 (by decide) (by decide), ← fz_at fiI9461 31 (by decide) (by decide)] at HI9461
          have NI9461 : 1 ≤ (I9461 (ad g 14) w9368.toInt.toNat).toInt := by rw [fz_at fiI9461 14 (by decide) (by decide)]; exact NI9448
          have e9467 : I9461 (ad g 0) 15 = w9368 := by rw [sI9461_0_15]; exact e9449
          have e9468 : I9461 (ad g 0) 17 = w9369 := by rw [sI9461_0_17]; exact e9450
          have e9469 : I9461 (ad g 0) 1 = L := hI9461.1.2
          have b9470 := BT_get hI9461.1.1 0 1 2 (0) (0) (900) (by decide) 1 (by decide) (by decide)
          rw [e9469] at b9470
          obtain ⟨w9471, ew9471⟩ : ∃ w : Int32, I9461 (ad g 0) 2 = w := ⟨_, rfl⟩
          have bw9471 := BT_get hI9461.1.1 0 2 3 (0) (0) (900) (by decide) 2 (by decide) (by decide)
          rw [ew9471] at bw9471
          obtain ⟨w9472, ew9472⟩ : ∃ w : Int32, I9461 (ad g 0) 3 = w := ⟨_, rfl⟩
          have bw9472 := BT_get hI9461.1.1 0 3 4 (0) (0) (900) (by decide) 3 (by decide) (by decide)
          rw [ew9472] at bw9472
          obtain ⟨w9473, ew9473⟩ : ∃ w : Int32, I9461 (ad g 0) 4 = w := ⟨_, rfl⟩
          have bw9473 := BT_get hI9461.1.1 0 4 5 (0) (0) (900) (by decide) 4 (by decide) (by decide)
          rw [ew9473] at bw9473
          obtain ⟨w9474, ew9474⟩ : ∃ w : Int32, I9461 (ad g 0) 5 = w := ⟨_, rfl⟩
          have bw9474 := BT_get hI9461.1.1 0 5 6 (0) (0) (4) (by decide) 5 (by decide) (by decide)
          rw [ew9474] at bw9474
          rw [ew9471, ew9472, ew9473, ew9474, e9453] at pI9461
          obtain ⟨w9475, ew9475⟩ : ∃ w : Int32, I9461 (ad g 0) 7 = w := ⟨_, rfl⟩
          have bw9475 := BT_get hI9461.1.1 0 7 8 (-1) (0) (1000) (by decide) 7 (by decide) (by decide)
          rw [ew9475] at bw9475
          rw [ew9475] at cv9463
          refine WQ_if_ne 92 dX11_readSort_87 rfl (fun c9475 => ?_) (fun c9475 => ?_)
          · refine WP_aload_n dX11_readSort_92 rfl ?_
            refine WP_getr dX11_readSort_93 fX11_105 rfl (ly_is hy 0 11 rfl) (rf hr 0 34 16 (by decide)) ?_
            refine WP_iload_n dX11_readSort_96 rfl ?_
            refine WP_aload_n dX11_readSort_97 rfl ?_
            refine WQ_getim dX11_readSort_98 fX11_56 rfl (ly_is hy 0 11 rfl) ew9475 ?_
            refine WQ_iast dX11_readSort_101 (ly_is hy 16 13 rfl) (ly_n hy 16 4 rfl) (by omega) (by omega) (fun I9477 eI9477 => ?_)
            have hI9477 : MP g n L I9477 := by rw [eI9477]; exact (mp_w hy hI9461 (c := 16) (mi_r hy hI9461.1 (c := 16) (0) (0) (60) (by decide) (Or.inl (by decide)) (by decide) (by omega) (by omega)) (by decide) (by decide) (Or.inl (by decide)))
            have e9478 : I9477 (ad g 0) 15 = w9368 := by rw [eI9477, pp_ne _ _ (Or.inl (ly_ne hy (by decide) (by decide) (by decide)))]; exact e9467
            have e9479 : I9477 (ad g 0) 17 = w9369 := by rw [eI9477, pp_ne _ _ (Or.inl (ly_ne hy (by decide) (by decide) (by decide)))]; exact e9468
            have e9480 : I9477 (ad g 0) 1 = L := by rw [eI9477, pp_ne _ _ (Or.inl (ly_ne hy (by decide) (by decide) (by decide)))]; exact e9469
            have e9481 : I9477 (ad g 0) 2 = w9471 := by rw [eI9477, pp_ne _ _ (Or.inl (ly_ne hy (by decide) (by decide) (by decide)))]; exact ew9471
            have e9482 : I9477 (ad g 0) 3 = w9472 := by rw [eI9477, pp_ne _ _ (Or.inl (ly_ne hy (by decide) (by decide) (by decide)))]; exact ew9472
            have e9483 : I9477 (ad g 0) 4 = w9473 := by rw [eI9477, pp_ne _ _ (Or.inl (ly_ne hy (by decide) (by decide) (by decide)))]; exact ew9473
            have e9484 : I9477 (ad g 0) 5 = w9474 := by rw [eI9477, pp_ne _ _ (Or.inl (ly_ne hy (by decide) (by decide) (by decide)))]; exact ew9474
            have e9485 : I9477 (ad g 0) 7 = w9475 := by rw [eI9477, pp_ne _ _ (Or.inl (ly_ne hy (by decide) (by decide) (by decide)))]; exact ew9475
            have fr9486 : fs g [3, 4, 5, 6, 7, 8, 9, 15] I I9477 := by rw [eI9477]; exact fs_ppn hy fr9465 (by decide) (by decide)
            have fr9487 : fz 49 g [0, 14, 15, 16, 17, 27, 30, 31, 32, 33] I I9477 := by rw [eI9477]; exact fzm_pp hy fr9464 (by decide) (by decide)
            have HI9477 := HI9461
            rw [← (show I9477 (ad g 30) = I9461 (ad g 30) by rw [eI9477, pp_off _ _ (ly_ne hy (by decide) (by decide) (by decide))]), ← (show I9477 (ad g 31) = I9461 (ad g 31) by rw [eI9477, pp_off _ _ (ly_ne hy (by decide) (by decide) (by decide))])] at HI9477
            have NI9477 : 1 ≤ (I9477 (ad g 14) w9368.toInt.toNat).toInt := by rw [eI9477, pp_off _ _ (ly_ne hy (by decide) (by decide) (by decide))]; exact NI9461
            clear eI9477
            refine WP_aload_n dX11_readSort_102 rfl ?_
            refine WP_getr dX11_readSort_103 fX11_108 rfl (ly_is hy 0 11 rfl) (rf hr 0 35 17 (by decide)) ?_
            refine WP_iload_n dX11_readSort_106 rfl ?_
            refine WQ_iconst (0) (0) dX11_readSort_107 rfl rfl (fun v9488 hv9488 => ?_)
            refine WQ_iast dX11_readSort_108 (ly_is hy 17 13 rfl) (ly_n hy 17 4 rfl) (by omega) (by omega) (fun I9489 eI9489 => ?_)
            have hI9489 : MP g n L I9489 := by rw [eI9489]; exact (mp_w hy hI9477 (c := 17) (mi_r hy hI9477.1 (c := 17) (0) (0) (127) (by decide) (Or.inl (by decide)) (by decide) (by omega) (by omega)) (by decide) (by decide) (Or.inl (by decide)))
            have e9490 : I9489 (ad g 0) 15 = w9368 := by rw [eI9489, pp_ne _ _ (Or.inl (ly_ne hy (by decide) (by decide) (by decide)))]; exact e9478
            have e9491 : I9489 (ad g 0) 17 = w9369 := by rw [eI9489, pp_ne _ _ (Or.inl (ly_ne hy (by decide) (by decide) (by decide)))]; exact e9479
            have e9492 : I9489 (ad g 0) 1 = L := by rw [eI9489, pp_ne _ _ (Or.inl (ly_ne hy (by decide) (by decide) (by decide)))]; exact e9480
            have e9493 : I9489 (ad g 0) 2 = w9471 := by rw [eI9489, pp_ne _ _ (Or.inl (ly_ne hy (by decide) (by decide) (by decide)))]; exact e9481
            have e9494 : I9489 (ad g 0) 3 = w9472 := by rw [eI9489, pp_ne _ _ (Or.inl (ly_ne hy (by decide) (by decide) (by decide)))]; exact e9482
            have e9495 : I9489 (ad g 0) 4 = w9473 := by rw [eI9489, pp_ne _ _ (Or.inl (ly_ne hy (by decide) (by decide) (by decide)))]; exact e9483
            have e9496 : I9489 (ad g 0) 5 = w9474 := by rw [eI9489, pp_ne _ _ (Or.inl (ly_ne hy (by decide) (by decide) (by decide)))]; exact e9484
            have e9497 : I9489 (ad g 0) 7 = w9475 := by rw [eI9489, pp_ne _ _ (Or.inl (ly_ne hy (by decide) (by decide) (by decide)))]; exact e9485
            have fr9498 : fs g [3, 4, 5, 6, 7, 8, 9, 15] I I9489 := by rw [eI9489]; exact fs_ppn hy fr9486 (by decide) (by decide)
            have fr9499 : fz 49 g [0, 14, 15, 16, 17, 27, 30, 31, 32, 33] I I9489 := by rw [eI9489]; exact fzm_pp hy fr9487 (by decide) (by decide)
            have HI9489 := HI9477
            rw [← (show I9489 (ad g 30) = I9477 (ad g 30) by rw [eI9489, pp_off _ _ (ly_ne hy (by decide) (by decide) (by decide))]), ← (show I9489 (ad g 31) = I9477 (ad g 31) by rw [eI9489, pp_off _ _ (ly_ne hy (by decide) (by decide) (by decide))])] at HI9489
            have NI9489 : 1 ≤ (I9489 (ad g 14) w9368.toInt.toNat).toInt := by rw [eI9489, pp_off _ _ (ly_ne hy (by decide) (by decide) (by decide))]; exact NI9477
            clear eI9489
            refine WP_aload_n dX11_readSort_109 rfl ?_
            refine WP_getr dX11_readSort_110 fX11_111 rfl (ly_is hy 0 11 rfl) (rf hr 0 52 33 (by decide)) ?_
            refine WP_iload_n dX11_readSort_113 rfl ?_
            refine WQ_iconst (0) (0) dX11_readSort_114 rfl rfl (fun v9500 hv9500 => ?_)
            refine WQ_iast dX11_readSort_115 (ly_is hy 33 13 rfl) (ly_n hy 33 4 rfl) (by omega) (by omega) (fun I9501 eI9501 => ?_)
            have hI9501 : MP g n L I9501 := by rw [eI9501]; exact (mp_w hy hI9489 (c := 33) (mi_r0 hy hI9489.1 (c := 33) (by decide) (Or.inl (by decide)) (by decide)) (by decide) (by decide) (Or.inl (by decide)))
            have e9502 : I9501 (ad g 0) 15 = w9368 := by rw [eI9501, pp_ne _ _ (Or.inl (ly_ne hy (by decide) (by decide) (by decide)))]; exact e9490
            have e9503 : I9501 (ad g 0) 17 = w9369 := by rw [eI9501, pp_ne _ _ (Or.inl (ly_ne hy (by decide) (by decide) (by decide)))]; exact e9491
            have e9504 : I9501 (ad g 0) 1 = L := by rw [eI9501, pp_ne _ _ (Or.inl (ly_ne hy (by decide) (by decide) (by decide)))]; exact e9492
            have e9505 : I9501 (ad g 0) 2 = w9471 := by rw [eI9501, pp_ne _ _ (Or.inl (ly_ne hy (by decide) (by decide) (by decide)))]; exact e9493
            have e9506 : I9501 (ad g 0) 3 = w9472 := by rw [eI9501, pp_ne _ _ (Or.inl (ly_ne hy (by decide) (by decide) (by decide)))]; exact e9494
            have e9507 : I9501 (ad g 0) 4 = w9473 := by rw [eI9501, pp_ne _ _ (Or.inl (ly_ne hy (by decide) (by decide) (by decide)))]; exact e9495
            have e9508 : I9501 (ad g 0) 5 = w9474 := by rw [eI9501, pp_ne _ _ (Or.inl (ly_ne hy (by decide) (by decide) (by decide)))]; exact e9496
            have e9509 : I9501 (ad g 0) 7 = w9475 := by rw [eI9501, pp_ne _ _ (Or.inl (ly_ne hy (by decide) (by decide) (by decide)))]; exact e9497
            have fr9510 : fs g [3, 4, 5, 6, 7, 8, 9, 15] I I9501 := by rw [eI9501]; exact fs_ppn hy fr9498 (by decide) (by decide)
            have fr9511 : fz 49 g [0, 14, 15, 16, 17, 27, 30, 31, 32, 33] I I9501 := by rw [eI9501]; exact fzm_pp hy fr9499 (by decide) (by decide)
            have HI9501 := HI9489
            rw [← (show I9501 (ad g 30) = I9489 (ad g 30) by rw [eI9501, pp_off _ _ (ly_ne hy (by decide) (by decide) (by decide))]), ← (show I9501 (ad g 31) = I9489 (ad g 31) by rw [eI9501, pp_off _ _ (ly_ne hy (by decide) (by decide) (by decide))])] at HI9501
            have NI9501 : 1 ≤ (I9501 (ad g 14) w9368.toInt.toNat).toInt := by rw [eI9501, pp_off _ _ (ly_ne hy (by decide) (by decide) (by decide))]; exact NI9489
            clear eI9501
            refine WQ_iconst (0) (0) dX11_readSort_116 rfl rfl (fun v9512 hv9512 => ?_)
            refine WP_istore_n (ls' := [(0, _), (1, _), (2, _)]) dX11_readSort_117 (by decide) rfl ?_
            have lp118_9522 : ∀ (mz : Nat) (i9513 : Int32) (I9514 : pI) (J9515 : pJ), MP g n L I9514 → fz 49 g [0, 14, 15, 16, 17, 27, 30, 31, 32, 33] I I9514 → fz 49 g [4] J J9515 → fs g [3, 4, 5, 6, 7, 8, 9, 15] I I9514 → ∀ (w9517 : Int32), I9514 (ad g 0) 2 = w9517 → ∀ (w9518 : Int32), I9514 (ad g 0) 3 = w9518 → ∀ (w9519 : Int32), I9514 (ad g 0) 4 = w9519 → ∀ (w9520 : Int32), I9514 (ad g 0) 5 = w9520 → ∀ (w9521 : Int32), I9514 (ad g 0) 15 = w9521 → ∀ (w9522 : Int32), I9514 (ad g 0) 17 = w9522 → 0 ≤ i9513.toInt → i9513.toInt ≤ 7 → w9519.toInt ≤ w9517.toInt → w9518.toInt ≤ w9519.toInt → (w9520.toInt = 0 ∨ w9518.toInt < w9519.toInt) → w9522.toInt < w9521.toInt → w9365.toInt ≤ w9518.toInt → w9521.toInt = w9368.toInt → (1 ≤ (I9514 (ad g 14) w9368.toInt.toNat).toInt) → (WRt (I9514 (ad g 30)) (I9514 (ad g 31)) (7 * w9368.toInt + i9513.toInt)) → (8 - i9513.toInt).toNat < mz → WP g mX11_readSort 118 [(0, .ref (ad g 0)), (1, .int w9368), (2, .int i9513)] [] I9514 J9515 R (fun r I' J' R' => (MP g n L I' ∧ R' = R ∧ fz 49 g [0, 14, 15, 16, 17, 27, 30, 31, 32, 33] I I' ∧ fz 49 g [4] J J' ∧ fs g [3, 4, 5, 6, 7, 8, 9, 15] I I' ∧ (((I' (ad g 0) 4).toInt ≤ (I' (ad g 0) 2).toInt ∧ (I' (ad g 0) 3).toInt ≤ (I' (ad g 0) 4).toInt ∧ ((I' (ad g 0) 5).toInt = 0 ∨ (I' (ad g 0) 3).toInt < (I' (ad g 0) 4).toInt)) ∧ (I (ad g 0) 3).toInt ≤ (I' (ad g 0) 3).toInt ∧ (I' (ad g 0) 17).toInt < (I' (ad g 0) 15).toInt)) ∧ ∃ v : Int32, r = some (.int v) ∧ 0 ≤ v.toInt ∧ v.toInt ≤ 1 ∧ (v.toInt = 1 → WRt (I' (ad g 30)) (I' (ad g 31)) (7 * (I' (ad g 0) 15).toInt))) := by
              intro mz
              induction mz with
              | zero =>
                intro i9513 I9514 J9515 hI9514 fiI9514 fjJ9515 fqI9514 w9517 ew9517 w9518 ew9518 w9519 ew9519 w9520 ew9520 w9521 ew9521 w9522 ew9522 ai9513 bi9513 j0_I9514 j1_I9514 j2_I9514 j3_I9514 j4_I9514 j5_I9514 PN_I9514_9515 PW_I9514_9515 hmlp118_9522
                exact absurd hmlp118_9522 (Nat.not_lt_zero _)
              | succ mz ihlp118_9522 =>
                intro i9513 I9514 J9515 hI9514 fiI9514 fjJ9515 fqI9514 w9517 ew9517 w9518 ew9518 w9519 ew9519 w9520 ew9520 w9521 ew9521 w9522 ew9522 ai9513 bi9513 j0_I9514 j1_I9514 j2_I9514 j3_I9514 j4_I9514 j5_I9514 PN_I9514_9515 PW_I9514_9515 hmlp118_9522
                have bw9517 := BT_get hI9514.1.1 0 2 3 (0) (0) (900) (by decide) 2 (by decide) (by decide)
                rw [ew9517] at bw9517
                have bw9518 := BT_get hI9514.1.1 0 3 4 (0) (0) (900) (by decide) 3 (by decide) (by decide)
                rw [ew9518] at bw9518
                have bw9519 := BT_get hI9514.1.1 0 4 5 (0) (0) (900) (by decide) 4 (by decide) (by decide)
                rw [ew9519] at bw9519
                have bw9520 := BT_get hI9514.1.1 0 5 6 (0) (0) (4) (by decide) 5 (by decide) (by decide)
                rw [ew9520] at bw9520
                have bw9521 := BT_get hI9514.1.1 0 15 16 (0) (0) (4) (by decide) 15 (by decide) (by decide)
                rw [ew9521] at bw9521
                have bw9522 := BT_get hI9514.1.1 0 17 18 (-1) (0) (3) (by decide) 17 (by decide) (by decide)
                rw [ew9522] at bw9522
                have e9524 : I9514 (ad g 0) 1 = L := hI9514.1.2
                have b9525 := BT_get hI9514.1.1 0 1 2 (0) (0) (900) (by decide) 1 (by decide) (by decide)
                rw [e9524] at b9525
                refine WP_iload_n dX11_readSort_118 rfl ?_
                refine WQ_bipush (7) (7) dX11_readSort_119 rfl rfl (fun v9526 hv9526 => ?_)
                refine WQ_icmp_ge 178 dX11_readSort_121 rfl (fun c9526 => ?_) (fun c9526 => ?_)
                · refine WP_aload_n dX11_readSort_178 rfl ?_
                  refine WP_dup dX11_readSort_179 rfl ?_
                  refine WQ_getim dX11_readSort_180 fX11_88 rfl (ly_is hy 0 11 rfl) ew9521 ?_
                  refine WQ_iconst (1) (1) dX11_readSort_183 rfl rfl (fun v9528 hv9528 => ?_)
                  refine WQ_iadd dX11_readSort_184 (by omega) (by omega) (fun v9529 hv9529 => ?_)
                  refine WQ_puti dX11_readSort_185 fX11_88 rfl rfl (ly_is hy 0 11 rfl) (fun I9530 eI9530 => ?_)
                  have hI9530 : MP g n L I9530 := by rw [eI9530]; exact (mp_w15 hy hI9514 (mi_f hy hI9514.1 (c := 0) (0) (0) (4) (by decide) (Or.inr (by decide)) (by decide) (by omega) (by omega)) (Or.inr ⟨by rw [ew9521]; omega, by rw [ew9521, show w9521.toInt.toNat = w9368.toInt.toNat by omega]; exact PN_I9514_9515⟩))
                  have e9531 : I9530 (ad g 0) 2 = w9517 := by rw [eI9530, pp_ne _ _ (Or.inr (by decide))]; exact ew9517
                  have e9532 : I9530 (ad g 0) 3 = w9518 := by rw [eI9530, pp_ne _ _ (Or.inr (by decide))]; exact ew9518
                  have e9533 : I9530 (ad g 0) 4 = w9519 := by rw [eI9530, pp_ne _ _ (Or.inr (by decide))]; exact ew9519
                  have e9534 : I9530 (ad g 0) 5 = w9520 := by rw [eI9530, pp_ne _ _ (Or.inr (by decide))]; exact ew9520
                  have e9535 : I9530 (ad g 0) 17 = w9522 := by rw [eI9530, pp_ne _ _ (Or.inr (by decide))]; exact ew9522
                  have e9536 : I9530 (ad g 0) 1 = L := by rw [eI9530, pp_ne _ _ (Or.inr (by decide))]; exact e9524
                  have e9537 : I9530 (ad g 0) 15 = v9529 := by rw [eI9530, pp_self]
                  have fr9538 : fs g [3, 4, 5, 6, 7, 8, 9, 15] I I9530 := by rw [eI9530]; exact fs_pp0 fqI9514 (by decide)
                  have fr9539 : fz 49 g [0, 14, 15, 16, 17, 27, 30, 31, 32, 33] I I9530 := by rw [eI9530]; exact fzm_pp hy fiI9514 (by decide) (by decide)
                  have NI9530 : 1 ≤ (I9530 (ad g 14) w9368.toInt.toNat).toInt := by rw [eI9530, pp_off _ _ (ly_ne hy (by decide) (by decide) (by decide))]; exact PN_I9514_9515
                  have WI9530 : WRt (I9530 (ad g 30)) (I9530 (ad g 31)) (7 * w9368.toInt + i9513.toInt) := by rw [show I9530 (ad g 30) = I9514 (ad g 30) by rw [eI9530, pp_off _ _ (ly_ne hy (by decide) (by decide) (by decide))], show I9530 (ad g 31) = I9514 (ad g 31) by rw [eI9530, pp_off _ _ (ly_ne hy (by decide) (by decide) (by decide))]]; exact PW_I9514_9515
                  clear eI9530
                  refine WQ_iconst (1) (1) dX11_readSort_188 rfl rfl (fun v9540 hv9540 => ?_)
                  exact WP_zret dX11_readSort_189 rfl (nar_z (by omega)) ⟨⟨hI9530, rfl, fr9539, fjJ9515, fr9538, (by rw [e9531, e9532, e9533, e9534, e9537, e9535, ew9365]; omega)⟩, _, rfl, by omega, by omega, (fun _ => by rw [e9537, show 7 * v9529.toInt = 7 * w9368.toInt + i9513.toInt by omega]; exact WI9530)⟩
                · refine WP_aload_n dX11_readSort_124 rfl ?_
                  refine WP_getr dX11_readSort_125 fX11_114 rfl (ly_is hy 0 11 rfl) (rf hr 0 45 27 (by decide)) ?_
                  refine WQ_bipush (7) (7) dX11_readSort_128 rfl rfl (fun v9541 hv9541 => ?_)
                  refine WP_iload_n dX11_readSort_130 rfl ?_
                  refine WQ_imulK (7) dX11_readSort_131 hv9541 (by omega) (by omega) (fun v9542 hv9542 => ?_)
                  refine WP_iload_n dX11_readSort_132 rfl ?_
                  refine WQ_iadd dX11_readSort_133 (by omega) (by omega) (fun v9543 hv9543 => ?_)
                  refine WQ_iconst (0) (0) dX11_readSort_134 rfl rfl (fun v9544 hv9544 => ?_)
                  refine WQ_iast dX11_readSort_135 (ly_is hy 27 13 rfl) (ly_n hy 27 28 rfl) (by omega) (by omega) (fun I9545 eI9545 => ?_)
                  have hI9545 : MP g n L I9545 := by rw [eI9545]; exact (mp_w hy hI9514 (c := 27) (mi_r hy hI9514.1 (c := 27) (0) (0) (20) (by decide) (Or.inl (by decide)) (by decide) (by omega) (by omega)) (by decide) (by decide) (Or.inl (by decide)))
                  have e9546 : I9545 (ad g 0) 2 = w9517 := by rw [eI9545, pp_ne _ _ (Or.inl (ly_ne hy (by decide) (by decide) (by decide)))]; exact ew9517
                  have e9547 : I9545 (ad g 0) 3 = w9518 := by rw [eI9545, pp_ne _ _ (Or.inl (ly_ne hy (by decide) (by decide) (by decide)))]; exact ew9518
                  have e9548 : I9545 (ad g 0) 4 = w9519 := by rw [eI9545, pp_ne _ _ (Or.inl (ly_ne hy (by decide) (by decide) (by decide)))]; exact ew9519
                  have e9549 : I9545 (ad g 0) 5 = w9520 := by rw [eI9545, pp_ne _ _ (Or.inl (ly_ne hy (by decide) (by decide) (by decide)))]; exact ew9520
                  have e9550 : I9545 (ad g 0) 15 = w9521 := by rw [eI9545, pp_ne _ _ (Or.inl (ly_ne hy (by decide) (by decide) (by decide)))]; exact ew9521
                  have e9551 : I9545 (ad g 0) 17 = w9522 := by rw [eI9545, pp_ne _ _ (Or.inl (ly_ne hy (by decide) (by decide) (by decide)))]; exact ew9522
                  have e9552 : I9545 (ad g 0) 1 = L := by rw [eI9545, pp_ne _ _ (Or.inl (ly_ne hy (by decide) (by decide) (by decide)))]; exact e9524
                  have fr9553 : fs g [3, 4, 5, 6, 7, 8, 9, 15] I I9545 := by rw [eI9545]; exact fs_ppn hy fqI9514 (by decide) (by decide)
                  have fr9554 : fz 49 g [0, 14, 15, 16, 17, 27, 30, 31, 32, 33] I I9545 := by rw [eI9545]; exact fzm_pp hy fiI9514 (by decide) (by decide)
                  have NI9545 : 1 ≤ (I9545 (ad g 14) w9368.toInt.toNat).toInt := by rw [eI9545, pp_off _ _ (ly_ne hy (by decide) (by decide) (by decide))]; exact PN_I9514_9515
                  have WI9545 : WRt (I9545 (ad g 30)) (I9545 (ad g 31)) (7 * w9368.toInt + i9513.toInt) := by rw [show I9545 (ad g 30) = I9514 (ad g 30) by rw [eI9545, pp_off _ _ (ly_ne hy (by decide) (by decide) (by decide))], show I9545 (ad g 31) = I9514 (ad g 31) by rw [eI9545, pp_off _ _ (ly_ne hy (by decide) (by decide) (by decide))]]; exact PW_I9514_9515
                  clear eI9545
                  refine WP_aload_n dX11_readSort_136 rfl ?_
                  refine WP_getr dX11_readSort_137 fX11_117 rfl (ly_is hy 0 11 rfl) (rf hr 0 48 30 (by decide)) ?_
                  refine WQ_bipush (7) (7) dX11_readSort_140 rfl rfl (fun v9555 hv9555 => ?_)
                  refine WP_iload_n dX11_readSort_142 rfl ?_
                  refine WQ_imulK (7) dX11_readSort_143 hv9555 (by omega) (by omega) (fun v9556 hv9556 => ?_)
                  refine WP_iload_n dX11_readSort_144 rfl ?_
                  refine WQ_iadd dX11_readSort_145 (by omega) (by omega) (fun v9557 hv9557 => ?_)
                  refine WQ_iconst (-1) (-1) dX11_readSort_146 rfl rfl (fun v9558 hv9558 => ?_)
                  refine WQ_iast dX11_readSort_147 (ly_is hy 30 13 rfl) (ly_n hy 30 28 rfl) (by omega) (by omega) (fun I9559 eI9559 => ?_)
                  have hI9559 : MP g n L I9559 := by rw [eI9559]; exact (mp_w hy hI9545 (c := 30) (mi_r hy hI9545.1 (c := 30) (-1) (0) (2) (by decide) (Or.inl (by decide)) (by decide) (by omega) (by omega)) (by decide) (by decide) (Or.inl (by decide)))
                  have e9560 : I9559 (ad g 0) 2 = w9517 := by rw [eI9559, pp_ne _ _ (Or.inl (ly_ne hy (by decide) (by decide) (by decide)))]; exact e9546
                  have e9561 : I9559 (ad g 0) 3 = w9518 := by rw [eI9559, pp_ne _ _ (Or.inl (ly_ne hy (by decide) (by decide) (by decide)))]; exact e9547
                  have e9562 : I9559 (ad g 0) 4 = w9519 := by rw [eI9559, pp_ne _ _ (Or.inl (ly_ne hy (by decide) (by decide) (by decide)))]; exact e9548
                  have e9563 : I9559 (ad g 0) 5 = w9520 := by rw [eI9559, pp_ne _ _ (Or.inl (ly_ne hy (by decide) (by decide) (by decide)))]; exact e9549
                  have e9564 : I9559 (ad g 0) 15 = w9521 := by rw [eI9559, pp_ne _ _ (Or.inl (ly_ne hy (by decide) (by decide) (by decide)))]; exact e9550
                  have e9565 : I9559 (ad g 0) 17 = w9522 := by rw [eI9559, pp_ne _ _ (Or.inl (ly_ne hy (by decide) (by decide) (by decide)))]; exact e9551
                  have e9566 : I9559 (ad g 0) 1 = L := by rw [eI9559, pp_ne _ _ (Or.inl (ly_ne hy (by decide) (by decide) (by decide)))]; exact e9552
                  have fr9567 : fs g [3, 4, 5, 6, 7, 8, 9, 15] I I9559 := by rw [eI9559]; exact fs_ppn hy fr9553 (by decide) (by decide)
                  have fr9568 : fz 49 g [0, 14, 15, 16, 17, 27, 30, 31, 32, 33] I I9559 := by rw [eI9559]; exact fzm_pp hy fr9554 (by decide) (by decide)
                  have NI9559 : 1 ≤ (I9559 (ad g 14) w9368.toInt.toNat).toInt := by rw [eI9559, pp_off _ _ (ly_ne hy (by decide) (by decide) (by decide))]; exact NI9545
                  have xI9559 := eI9559
                  rw [cl (x := v9557) (n := v9557.toInt.toNat) (by omega)] at xI9559
                  have WI9559 : WRt (I9559 (ad g 30)) (I9559 (ad g 31)) (7 * w9368.toInt + i9513.toInt) := by rw [show I9559 (ad g 31) = I9545 (ad g 31) by rw [eI9559, pp_off _ _ (ly_ne hy (by decide) (by decide) (by decide))]]; exact WRt_a (A := I9545 (ad g 30)) WI9545 xI9559 (by omega)
                  clear eI9559
                  refine WP_aload_n dX11_readSort_148 rfl ?_
                  refine WP_getr dX11_readSort_149 fX11_120 rfl (ly_is hy 0 11 rfl) (rf hr 0 49 31 (by decide)) ?_
                  refine WQ_bipush (7) (7) dX11_readSort_152 rfl rfl (fun v9569 hv9569 => ?_)
                  refine WP_iload_n dX11_readSort_154 rfl ?_
                  refine WQ_imulK (7) dX11_readSort_155 hv9569 (by omega) (by omega) (fun v9570 hv9570 => ?_)
                  refine WP_iload_n dX11_readSort_156 rfl ?_
                  refine WQ_iadd dX11_readSort_157 (by omega) (by omega) (fun v9571 hv9571 => ?_)
                  refine WQ_iconst (0) (0) dX11_readSort_158 rfl rfl (fun v9572 hv9572 => ?_)
                  refine WQ_iast dX11_readSort_159 (ly_is hy 31 13 rfl) (ly_n hy 31 28 rfl) (by omega) (by omega) (fun I9573 eI9573 => ?_)
                  have hI9573 : MP g n L I9573 := by rw [eI9573]; exact (mp_w hy hI9559 (c := 31) (mi_r hy hI9559.1 (c := 31) (0) (0) (3) (by decide) (Or.inl (by decide)) (by decide) (by omega) (by omega)) (by decide) (by decide) (Or.inl (by decide)))
                  have e9574 : I9573 (ad g 0) 2 = w9517 := by rw [eI9573, pp_ne _ _ (Or.inl (ly_ne hy (by decide) (by decide) (by decide)))]; exact e9560
                  have e9575 : I9573 (ad g 0) 3 = w9518 := by rw [eI9573, pp_ne _ _ (Or.inl (ly_ne hy (by decide) (by decide) (by decide)))]; exact e9561
                  have e9576 : I9573 (ad g 0) 4 = w9519 := by rw [eI9573, pp_ne _ _ (Or.inl (ly_ne hy (by decide) (by decide) (by decide)))]; exact e9562
                  have e9577 : I9573 (ad g 0) 5 = w9520 := by rw [eI9573, pp_ne _ _ (Or.inl (ly_ne hy (by decide) (by decide) (by decide)))]; exact e9563
                  have e9578 : I9573 (ad g 0) 15 = w9521 := by rw [eI9573, pp_ne _ _ (Or.inl (ly_ne hy (by decide) (by decide) (by decide)))]; exact e9564
                  have e9579 : I9573 (ad g 0) 17 = w9522 := by rw [eI9573, pp_ne _ _ (Or.inl (ly_ne hy (by decide) (by decide) (by decide)))]; exact e9565
                  have e9580 : I9573 (ad g 0) 1 = L := by rw [eI9573, pp_ne _ _ (Or.inl (ly_ne hy (by decide) (by decide) (by decide)))]; exact e9566
                  have fr9581 : fs g [3, 4, 5, 6, 7, 8, 9, 15] I I9573 := by rw [eI9573]; exact fs_ppn hy fr9567 (by decide) (by decide)
                  have fr9582 : fz 49 g [0, 14, 15, 16, 17, 27, 30, 31, 32, 33] I I9573 := by rw [eI9573]; exact fzm_pp hy fr9568 (by decide) (by decide)
                  have NI9573 : 1 ≤ (I9573 (ad g 14) w9368.toInt.toNat).toInt := by rw [eI9573, pp_off _ _ (ly_ne hy (by decide) (by decide) (by decide))]; exact NI9559
                  have xI9573 := eI9573
                  rw [cl (x := v9571) (n := v9571.toInt.toNat) (by omega)] at xI9573
                  have WI9573 : WRt (I9573 (ad g 30)) (I9573 (ad g 31)) (7 * w9368.toInt + i9513.toInt + 1) := by rw [show I9573 (ad g 30) = I9559 (ad g 30) by rw [eI9573, pp_off _ _ (ly_ne hy (by decide) (by decide) (by decide))]]; exact WRt_b WI9559 xI9573 (by omega) (by omega) rfl
                  clear eI9573
                  refine WP_aload_n dX11_readSort_160 rfl ?_
                  refine WP_getr dX11_readSort_161 fX11_123 rfl (ly_is hy 0 11 rfl) (rf hr 0 50 32 (by decide)) ?_
                  refine WQ_bipush (7) (7) dX11_readSort_164 rfl rfl (fun v9583 hv9583 => ?_)
                  refine WP_iload_n dX11_readSort_166 rfl ?_
                  refine WQ_imulK (7) dX11_readSort_167 hv9583 (by omega) (by omega) (fun v9584 hv9584 => ?_)
                  refine WP_iload_n dX11_readSort_168 rfl ?_
                  refine WQ_iadd dX11_readSort_169 (by omega) (by omega) (fun v9585 hv9585 => ?_)
                  refine WQ_iconst (0) (0) dX11_readSort_170 rfl rfl (fun v9586 hv9586 => ?_)
                  refine WQ_iast dX11_readSort_171 (ly_is hy 32 13 rfl) (ly_n hy 32 28 rfl) (by omega) (by omega) (fun I9587 eI9587 => ?_)
                  have hI9587 : MP g n L I9587 := by rw [eI9587]; exact (mp_w hy hI9573 (c := 32) (mi_r hy hI9573.1 (c := 32) (0) (0) (99) (by decide) (Or.inl (by decide)) (by decide) (by omega) (by omega)) (by decide) (by decide) (Or.inl (by decide)))
                  have e9588 : I9587 (ad g 0) 2 = w9517 := by rw [eI9587, pp_ne _ _ (Or.inl (ly_ne hy (by decide) (by decide) (by decide)))]; exact e9574
                  have e9589 : I9587 (ad g 0) 3 = w9518 := by rw [eI9587, pp_ne _ _ (Or.inl (ly_ne hy (by decide) (by decide) (by decide)))]; exact e9575
                  have e9590 : I9587 (ad g 0) 4 = w9519 := by rw [eI9587, pp_ne _ _ (Or.inl (ly_ne hy (by decide) (by decide) (by decide)))]; exact e9576
                  have e9591 : I9587 (ad g 0) 5 = w9520 := by rw [eI9587, pp_ne _ _ (Or.inl (ly_ne hy (by decide) (by decide) (by decide)))]; exact e9577
                  have e9592 : I9587 (ad g 0) 15 = w9521 := by rw [eI9587, pp_ne _ _ (Or.inl (ly_ne hy (by decide) (by decide) (by decide)))]; exact e9578
                  have e9593 : I9587 (ad g 0) 17 = w9522 := by rw [eI9587, pp_ne _ _ (Or.inl (ly_ne hy (by decide) (by decide) (by decide)))]; exact e9579
                  have e9594 : I9587 (ad g 0) 1 = L := by rw [eI9587, pp_ne _ _ (Or.inl (ly_ne hy (by decide) (by decide) (by decide)))]; exact e9580
                  have fr9595 : fs g [3, 4, 5, 6, 7, 8, 9, 15] I I9587 := by rw [eI9587]; exact fs_ppn hy fr9581 (by decide) (by decide)
                  have fr9596 : fz 49 g [0, 14, 15, 16, 17, 27, 30, 31, 32, 33] I I9587 := by rw [eI9587]; exact fzm_pp hy fr9582 (by decide) (by decide)
                  have NI9587 : 1 ≤ (I9587 (ad g 14) w9368.toInt.toNat).toInt := by rw [eI9587, pp_off _ _ (ly_ne hy (by decide) (by decide) (by decide))]; exact NI9573
                  have WI9587 : WRt (I9587 (ad g 30)) (I9587 (ad g 31)) (7 * w9368.toInt + i9513.toInt + 1) := by rw [show I9587 (ad g 30) = I9573 (ad g 30) by rw [eI9587, pp_off _ _ (ly_ne hy (by decide) (by decide) (by decide))], show I9587 (ad g 31) = I9573 (ad g 31) by rw [eI9587, pp_off _ _ (ly_ne hy (by decide) (by decide) (by decide))]]; exact WI9573
                  clear eI9587
                  refine WP_iinc (ls' := [(0, _), (1, _), (2, _)]) dX11_readSort_172 rfl (by decide) rfl ?_
                  have hv9597 : (i9513 + Int32.ofInt (1)).toInt = i9513.toInt + (1) := ia_n rfl (by omega) (by omega)
                  generalize i9513 + Int32.ofInt (1) = v9597 at hv9597 ⊢
                  refine WP_goto 118 dX11_readSort_175 rfl ?_
                  exact WP_sub (fc rfl (fc rfl (fc rfl fn))) (ihlp118_9522 v9597 I9587 J9515 hI9587 fr9596 fjJ9515 fr9595 w9517 e9588 w9518 e9589 w9519 e9590 w9520 e9591 w9521 e9592 w9522 e9593 (by omega) (by omega) (by omega) (by omega) (by omega) (by omega) (by omega) (by omega) NI9587 (by rw [show 7 * w9368.toInt + v9597.toInt = 7 * w9368.toInt + i9513.toInt + 1 by omega]; exact WI9587) (by omega))
            exact WP_sub (fc rfl (fc rfl (fc rfl fn))) (lp118_9522 _ v9512 I9501 J9462 hI9501 fr9511 fr9466 fr9510 w9471 e9505 w9472 e9506 w9473 e9507 w9474 e9508 w9368 e9502 w9369 e9503 (by omega) (by omega) (by omega) (by omega) (by omega) (by omega) (by omega) (by omega) NI9501 (by rw [show 7 * w9368.toInt + v9512.toInt = 7 * (I (ad g 0) 15).toInt by rw [ew9368]; omega]; exact HI9501) (Nat.lt_succ_self _))
          · refine WQ_iconst (0) (0) dX11_readSort_90 rfl rfl (fun v9598 hv9598 => ?_)
            exact WP_zret dX11_readSort_91 rfl (nar_z (by omega)) ⟨⟨hI9461, rfl, fr9464, fr9466, fr9465, (by rw [ew9471, ew9472, ew9473, ew9474, e9467, e9468, ew9365]; omega)⟩, _, rfl, by omega, by omega, (fun h => False.elim (by omega))⟩
        · refine WQ_iconst (0) (0) dX11_readSort_68 rfl rfl (fun v9599 hv9599 => ?_)
          exact WP_zret dX11_readSort_69 rfl (nar_z (by omega)) ⟨⟨hI9432, rfl, fr9435, fr9437, fr9436, (by rw [ew9442, ew9443, ew9444, ew9445, e9438, e9439, ew9365]; omega)⟩, _, rfl, by omega, by omega, (fun h => False.elim (by omega))⟩
      · refine WQ_iconst (0) (0) dX11_readSort_45 rfl rfl (fun v9600 hv9600 => ?_)
        exact WP_zret dX11_readSort_46 rfl (nar_z (by omega)) ⟨⟨hI9403, rfl, fr9406, fr9408, fr9407, (by rw [ew9413, ew9414, ew9415, ew9416, e9409, e9410, ew9365]; omega)⟩, _, rfl, by omega, by omega, (fun h => False.elim (by omega))⟩
  · refine WP_aload_n dX11_readSort_8 rfl ?_
    refine WQ_iconst (4) (4) dX11_readSort_9 rfl rfl (fun v9601 hv9601 => ?_)
    refine WP_callV1 (k := 11) dX11_readSort_10 ⟨⟨⟨by decide, by decide⟩, zX11_bad⟩, lX11_49, by decide, rfl, vX11_bad.1, vX11_bad.2⟩ (ly_is hy 0 11 rfl) (sm_badx hy hr hI v9601  (by rw [ew9364, ew9365, ew9366, ew9367]; omega)) (Nat.le_of_ble_eq_true rfl) ?_
    intro r I9602 J9603 Ra hq
    obtain ⟨⟨hI9602, ec, fiI9602, fjI9602, fqI9602, ⟨pI9602, sI9602_0_15, sI9602_0_16, sI9602_0_17, sI9602_0_18⟩⟩, v9604, rfl, av9604, bv9604⟩ := hq
    show WP _ _ _ _ (.int _ :: _) _ _ _ _
    rw [ec]
    clear ec Ra
    have fr9605 : fz 49 g [0, 14, 15, 16, 17, 27, 30, 31, 32, 33] I I9602 := fz_tr fr0 (fz_mono fiI9602 (by decide))
    have fr9606 : fs g [3, 4, 5, 6, 7, 8, 9, 15] I I9602 := fs_tr frq0 (fs_mono fqI9602 (by decide))
    have fr9607 : fz 49 g [4] J J9603 := fz_tr frj0 (fz_mono fjI9602 (by decide))
    have HI9602 := hw
    rw [← fz_at fiI9602 30 (by decide) (by decide), ← fz_at fiI9602 31 (by decide) (by decide)] at HI9602
    have e9608 : I9602 (ad g 0) 15 = w9368 := by rw [sI9602_0_15]; exact ew9368
    have e9609 : I9602 (ad g 0) 17 = w9369 := by rw [sI9602_0_17]; exact ew9369
    have e9610 : I9602 (ad g 0) 1 = L := hI9602.1.2
    have b9611 := BT_get hI9602.1.1 0 1 2 (0) (0) (900) (by decide) 1 (by decide) (by decide)
    rw [e9610] at b9611
    obtain ⟨w9612, ew9612⟩ : ∃ w : Int32, I9602 (ad g 0) 2 = w := ⟨_, rfl⟩
    have bw9612 := BT_get hI9602.1.1 0 2 3 (0) (0) (900) (by decide) 2 (by decide) (by decide)
    rw [ew9612] at bw9612
    obtain ⟨w9613, ew9613⟩ : ∃ w : Int32, I9602 (ad g 0) 3 = w := ⟨_, rfl⟩
    have bw9613 := BT_get hI9602.1.1 0 3 4 (0) (0) (900) (by decide) 3 (by decide) (by decide)
    rw [ew9613] at bw9613
    obtain ⟨w9614, ew9614⟩ : ∃ w : Int32, I9602 (ad g 0) 4 = w := ⟨_, rfl⟩
    have bw9614 := BT_get hI9602.1.1 0 4 5 (0) (0) (900) (by decide) 4 (by decide) (by decide)
    rw [ew9614] at bw9614
    obtain ⟨w9615, ew9615⟩ : ∃ w : Int32, I9602 (ad g 0) 5 = w := ⟨_, rfl⟩
    have bw9615 := BT_get hI9602.1.1 0 5 6 (0) (0) (4) (by decide) 5 (by decide) (by decide)
    rw [ew9615] at bw9615
    rw [ew9612, ew9613, ew9614, ew9615, ew9365] at pI9602
    exact WP_zret dX11_readSort_13 rfl (nar_z (by omega)) ⟨⟨hI9602, rfl, fr9605, fr9607, fr9606, (by rw [ew9612, ew9613, ew9614, ew9615, e9608, e9609, ew9365]; omega)⟩, _, rfl, by omega, by omega, (fun h => False.elim (by omega))⟩
set_option maxHeartbeats 4000000 in
set_option maxRecDepth 100000 in
theorem sm_readWantsx {g : GG} {n : Int} {L : Int32} (hy : Ly g)  {I : pI} {J : pJ} {R : pR} (hr : Rf g R) (hI : MP g n L I)   (hb : ((I (ad g 0) 4).toInt ≤ (I (ad g 0) 2).toInt ∧ (I (ad g 0) 3).toInt ≤ (I (ad g 0) 4).toInt ∧ ((I (ad g 0) 5).toInt = 0 ∨ (I (ad g 0) 3).toInt < (I (ad g 0) 4).toInt)) ∧ (I (ad g 0) 17).toInt < (I (ad g 0) 15).toInt) (hw : WRt (I (ad g 30)) (I (ad g 31)) (7 * (I (ad g 0) 15).toInt)) : SP g mX11_readWants [.ref (ad g 0)] I J R (fun r I' J' R' => (MP g n L I' ∧ R' = R ∧ fz 49 g [0, 30, 31, 32] I I' ∧ fz 49 g [] J J' ∧ fs g [3, 4, 5, 6, 7, 8, 9] I I' ∧ (((I' (ad g 0) 4).toInt ≤ (I' (ad g 0) 2).toInt ∧ (I' (ad g 0) 3).toInt ≤ (I' (ad g 0) 4).toInt ∧ ((I' (ad g 0) 5).toInt = 0 ∨ (I' (ad g 0) 3).toInt < (I' (ad g 0) 4).toInt)) ∧ (I (ad g 0) 3).toInt ≤ (I' (ad g 0) 3).toInt ∧ (I' (ad g 0) 17).toInt < (I' (ad g 0) 15).toInt)) ∧ ∃ v : Int32, r = some (.int v) ∧ 0 ≤ v.toInt ∧ v.toInt ≤ 1 ∧ (v.toInt = 1 → WRt (I' (ad g 30)) (I' (ad g 31)) (7 * (I' (ad g 0) 15).toInt))) := by
  refine SP_of ⟨by decide, rfl⟩ (Nat.le_of_ble_eq_true rfl) ?_
  have e9616 : I (ad g 0) 1 = L := hI.1.2
  have b9617 := BT_get hI.1.1 0 1 2 (0) (0) (900) (by decide) 1 (by decide) (by decide)
  rw [e9616] at b9617
  have fr0 : fz 49 g [0, 30, 31, 32] I I := fz_rf
  have frj0 : fz 49 g [] J J := fz_rf
  have frq0 : fs g [3, 4, 5, 6, 7, 8, 9] I I := fs_rf
  obtain ⟨w9618, ew9618⟩ : ∃ w : Int32, I (ad g 0) 2 = w := ⟨_, rfl⟩
  have bw9618 := BT_get hI.1.1 0 2 3 (0) (0) (900) (by decide) 2 (by decide) (by decide)
  rw [ew9618] at bw9618
  obtain ⟨w9619, ew9619⟩ : ∃ w : Int32, I (ad g 0) 3 = w := ⟨_, rfl⟩
  have bw9619 := BT_get hI.1.1 0 3 4 (0) (0) (900) (by decide) 3 (by decide) (by decide)
  rw [ew9619] at bw9619
  obtain ⟨w9620, ew9620⟩ : ∃ w : Int32, I (ad g 0) 4 = w := ⟨_, rfl⟩
  have bw9620 := BT_get hI.1.1 0 4 5 (0) (0) (900) (by decide) 4 (by decide) (by decide)
  rw [ew9620] at bw9620
  obtain ⟨w9621, ew9621⟩ : ∃ w : Int32, I (ad g 0) 5 = w := ⟨_, rfl⟩
  have bw9621 := BT_get hI.1.1 0 5 6 (0) (0) (4) (by decide) 5 (by decide) (by decide)
  rw [ew9621] at bw9621
  obtain ⟨w9622, ew9622⟩ : ∃ w : Int32, I (ad g 0) 15 = w := ⟨_, rfl⟩
  have bw9622 := BT_get hI.1.1 0 15 16 (0) (0) (4) (by decide) 15 (by decide) (by decide)
  rw [ew9622] at bw9622
  obtain ⟨w9623, ew9623⟩ : ∃ w : Int32, I (ad g 0) 17 = w := ⟨_, rfl⟩
  have bw9623 := BT_get hI.1.1 0 17 18 (-1) (0) (3) (by decide) 17 (by decide) (by decide)
  rw [ew9623] at bw9623
  rw [ew9618, ew9619, ew9620, ew9621, ew9622, ew9623] at hb
  refine WP_aload_n dX11_readWants_0 rfl ?_
  refine WP_callV0 (k := 11) dX11_readWants_1 ⟨⟨⟨by decide, by decide⟩, zX11_scan⟩, lX11_63, by decide, rfl, vX11_scan.1, vX11_scan.2⟩ (ly_is hy 0 11 rfl) (sm_scanx hy hr hI   (by rw [ew9620, ew9618]; omega)) (Nat.le_of_ble_eq_true rfl) ?_
  intro r I9624 J9625 Ra hq
  obtain ⟨⟨hI9624, ec, fiI9624, fjI9624, fqI9624, ⟨pI9624, sI9624_0_7, sI9624_0_15, sI9624_0_16, sI9624_0_17, sI9624_0_18⟩⟩, rfl⟩ := hq
  rw [ec]
  clear ec Ra
  have fr9626 : fz 49 g [0, 30, 31, 32] I I9624 := fz_tr fr0 (fz_mono fiI9624 (by decide))
  have fr9627 : fs g [3, 4, 5, 6, 7, 8, 9] I I9624 := fs_tr frq0 (fs_mono fqI9624 (by decide))
  have fr9628 : fz 49 g [] J J9625 := fz_tr frj0 (fz_mono fjI9624 (by decide))
  have HI9624 := hw
  rw [← fz_at fiI9624 30 (by decide) (by decide), ← fz_at fiI9624 31 (by decide) (by decide)] at HI9624
  have e9629 : I9624 (ad g 0) 15 = w9622 := by rw [sI9624_0_15]; exact ew9622
  have e9630 : I9624 (ad g 0) 17 = w9623 := by rw [sI9624_0_17]; exact ew9623
  have e9631 : I9624 (ad g 0) 1 = L := hI9624.1.2
  have b9632 := BT_get hI9624.1.1 0 1 2 (0) (0) (900) (by decide) 1 (by decide) (by decide)
  rw [e9631] at b9632
  obtain ⟨w9633, ew9633⟩ : ∃ w : Int32, I9624 (ad g 0) 2 = w := ⟨_, rfl⟩
  have bw9633 := BT_get hI9624.1.1 0 2 3 (0) (0) (900) (by decide) 2 (by decide) (by decide)
  rw [ew9633] at bw9633
  obtain ⟨w9634, ew9634⟩ : ∃ w : Int32, I9624 (ad g 0) 3 = w := ⟨_, rfl⟩
  have bw9634 := BT_get hI9624.1.1 0 3 4 (0) (0) (900) (by decide) 3 (by decide) (by decide)
  rw [ew9634] at bw9634
  obtain ⟨w9635, ew9635⟩ : ∃ w : Int32, I9624 (ad g 0) 4 = w := ⟨_, rfl⟩
  have bw9635 := BT_get hI9624.1.1 0 4 5 (0) (0) (900) (by decide) 4 (by decide) (by decide)
  rw [ew9635] at bw9635
  obtain ⟨w9636, ew9636⟩ : ∃ w : Int32, I9624 (ad g 0) 5 = w := ⟨_, rfl⟩
  have bw9636 := BT_get hI9624.1.1 0 5 6 (0) (0) (4) (by decide) 5 (by decide) (by decide)
  rw [ew9636] at bw9636
  rw [ew9633, ew9634, ew9635, ew9636, ew9620] at pI9624
  refine WP_aload_n dX11_readWants_4 rfl ?_
  refine WP_aload_n dX11_readWants_5 rfl ?_
  refine WP_getr dX11_readWants_6 fX11_91 rfl (ly_is hy 0 11 rfl) (rf hr 0 22 4 (by decide)) ?_
  refine WP_aload_n dX11_readWants_9 rfl ?_
  refine WQ_getim dX11_readWants_10 fX11_88 rfl (ly_is hy 0 11 rfl) e9629 ?_
  refine WP_callV2 (k := 11) dX11_readWants_13 ⟨⟨⟨by decide, by decide⟩, zX11_known⟩, lX11_147, by decide, rfl, vX11_known.1, vX11_known.2⟩ (ly_is hy 0 11 rfl) (sm_knownx_4 hy hr hI9624 w9622 (by omega) (by omega) (by rw [ew9633, ew9634, ew9635, ew9636]; omega)) (Nat.le_of_ble_eq_true rfl) ?_
  intro r I9637 J9638 Ra hq
  obtain ⟨⟨hI9637, ec, fiI9637, fjI9637, fqI9637, ⟨pI9637, sI9637_0_15, sI9637_0_16, sI9637_0_17, sI9637_0_18⟩⟩, v9639, rfl, av9639, bv9639, cv9639⟩ := hq
  show WP _ _ _ _ (.int _ :: _) _ _ _ _
  rw [ec]
  clear ec Ra
  have fr9640 : fz 49 g [0, 30, 31, 32] I I9637 := fz_tr fr9626 (fz_mono fiI9637 (by decide))
  have fr9641 : fs g [3, 4, 5, 6, 7, 8, 9] I I9637 := fs_tr fr9627 (fs_mono fqI9637 (by decide))
  have fr9642 : fz 49 g [] J J9638 := fz_tr fr9628 (fz_mono fjI9637 (by decide))
  have HI9637 := HI9624
  rw [← fz_at fiI9637 30 (by decide) (by decide), ← fz_at fiI9637 31 (by decide) (by decide)] at HI9637
  have e9643 : I9637 (ad g 0) 15 = w9622 := by rw [sI9637_0_15]; exact e9629
  have e9644 : I9637 (ad g 0) 17 = w9623 := by rw [sI9637_0_17]; exact e9630
  have e9645 : I9637 (ad g 0) 1 = L := hI9637.1.2
  have b9646 := BT_get hI9637.1.1 0 1 2 (0) (0) (900) (by decide) 1 (by decide) (by decide)
  rw [e9645] at b9646
  obtain ⟨w9647, ew9647⟩ : ∃ w : Int32, I9637 (ad g 0) 2 = w := ⟨_, rfl⟩
  have bw9647 := BT_get hI9637.1.1 0 2 3 (0) (0) (900) (by decide) 2 (by decide) (by decide)
  rw [ew9647] at bw9647
  obtain ⟨w9648, ew9648⟩ : ∃ w : Int32, I9637 (ad g 0) 3 = w := ⟨_, rfl⟩
  have bw9648 := BT_get hI9637.1.1 0 3 4 (0) (0) (900) (by decide) 3 (by decide) (by decide)
  rw [ew9648] at bw9648
  obtain ⟨w9649, ew9649⟩ : ∃ w : Int32, I9637 (ad g 0) 4 = w := ⟨_, rfl⟩
  have bw9649 := BT_get hI9637.1.1 0 4 5 (0) (0) (900) (by decide) 4 (by decide) (by decide)
  rw [ew9649] at bw9649
  obtain ⟨w9650, ew9650⟩ : ∃ w : Int32, I9637 (ad g 0) 5 = w := ⟨_, rfl⟩
  have bw9650 := BT_get hI9637.1.1 0 5 6 (0) (0) (4) (by decide) 5 (by decide) (by decide)
  rw [ew9650] at bw9650
  rw [ew9647, ew9648, ew9649, ew9650, ew9634] at pI9637
  obtain ⟨w9651, ew9651⟩ : ∃ w : Int32, I9637 (ad g 0) 7 = w := ⟨_, rfl⟩
  have bw9651 := BT_get hI9637.1.1 0 7 8 (-1) (0) (1000) (by decide) 7 (by decide) (by decide)
  rw [ew9651] at bw9651
  rw [ew9651] at cv9639
  refine WQ_if_ne 21 dX11_readWants_16 rfl (fun c9651 => ?_) (fun c9651 => ?_)
  · refine WP_aload_n dX11_readWants_21 rfl ?_
    refine WQ_getim dX11_readWants_22 fX11_56 rfl (ly_is hy 0 11 rfl) ew9651 ?_
    refine WP_istore_n (ls' := [(0, _), (1, _)]) dX11_readWants_25 (by decide) rfl ?_
    refine WP_aload_n dX11_readWants_26 rfl ?_
    refine WP_aload_n dX11_readWants_27 rfl ?_
    refine WP_getr dX11_readWants_28 fX11_129 rfl (ly_is hy 0 11 rfl) (rf hr 0 23 5 (by decide)) ?_
    refine WP_aload_n dX11_readWants_31 rfl ?_
    refine WQ_geti dX11_readWants_32 fX11_126 rfl (ly_is hy 0 11 rfl) (BT_get hI9637.1.1 0 16 17 (0) (0) (3) (by decide) 16 (by decide) (by decide)) (fun v9653 ev9653 av9653 bv9653 => ?_)
    refine WP_callV2 (k := 11) dX11_readWants_35 ⟨⟨⟨by decide, by decide⟩, zX11_known⟩, lX11_147, by decide, rfl, vX11_known.1, vX11_known.2⟩ (ly_is hy 0 11 rfl) (sm_knownx_5 hy hr hI9637 v9653 (by omega) (by omega) (by rw [ew9647, ew9648, ew9649, ew9650]; omega)) (Nat.le_of_ble_eq_true rfl) ?_
    intro r I9654 J9655 Ra hq
    obtain ⟨⟨hI9654, ec, fiI9654, fjI9654, fqI9654, ⟨pI9654, sI9654_0_15, sI9654_0_16, sI9654_0_17, sI9654_0_18⟩⟩, v9656, rfl, av9656, bv9656, cv9656⟩ := hq
    show WP _ _ _ _ (.int _ :: _) _ _ _ _
    rw [ec]
    clear ec Ra
    have fr9657 : fz 49 g [0, 30, 31, 32] I I9654 := fz_tr fr9640 (fz_mono fiI9654 (by decide))
    have fr9658 : fs g [3, 4, 5, 6, 7, 8, 9] I I9654 := fs_tr fr9641 (fs_mono fqI9654 (by decide))
    have fr9659 : fz 49 g [] J J9655 := fz_tr fr9642 (fz_mono fjI9654 (by decide))
    have HI9654 := HI9637
    rw [← fz_at fiI9654 30 (by decide) (by decide), ← fz_at fiI9654 31 (by decide) (by decide)] at HI9654
    have e9660 : I9654 (ad g 0) 15 = w9622 := by rw [sI9654_0_15]; exact e9643
    have e9661 : I9654 (ad g 0) 16 = v9653 := by rw [sI9654_0_16]; exact ev9653
    have e9662 : I9654 (ad g 0) 17 = w9623 := by rw [sI9654_0_17]; exact e9644
    have e9663 : I9654 (ad g 0) 1 = L := hI9654.1.2
    have b9664 := BT_get hI9654.1.1 0 1 2 (0) (0) (900) (by decide) 1 (by decide) (by decide)
    rw [e9663] at b9664
    obtain ⟨w9665, ew9665⟩ : ∃ w : Int32, I9654 (ad g 0) 2 = w := ⟨_, rfl⟩
    have bw9665 := BT_get hI9654.1.1 0 2 3 (0) (0) (900) (by decide) 2 (by decide) (by decide)
    rw [ew9665] at bw9665
    obtain ⟨w9666, ew9666⟩ : ∃ w : Int32, I9654 (ad g 0) 3 = w := ⟨_, rfl⟩
    have bw9666 := BT_get hI9654.1.1 0 3 4 (0) (0) (900) (by decide) 3 (by decide) (by decide)
    rw [ew9666] at bw9666
    obtain ⟨w9667, ew9667⟩ : ∃ w : Int32, I9654 (ad g 0) 4 = w := ⟨_, rfl⟩
    have bw9667 := BT_get hI9654.1.1 0 4 5 (0) (0) (900) (by decide) 4 (by decide) (by decide)
    rw [ew9667] at bw9667
    obtain ⟨w9668, ew9668⟩ : ∃ w : Int32, I9654 (ad g 0) 5 = w := ⟨_, rfl⟩
    have bw9668 := BT_get hI9654.1.1 0 5 6 (0) (0) (4) (by decide) 5 (by decide) (by decide)
    rw [ew9668] at bw9668
    rw [ew9665, ew9666, ew9667, ew9668, ew9648] at pI9654
    obtain ⟨w9669, ew9669⟩ : ∃ w : Int32, I9654 (ad g 0) 7 = w := ⟨_, rfl⟩
    have bw9669 := BT_get hI9654.1.1 0 7 8 (-1) (0) (1000) (by decide) 7 (by decide) (by decide)
    rw [ew9669] at bw9669
    rw [ew9669] at cv9656
    refine WQ_if_ne 43 dX11_readWants_38 rfl (fun c9669 => ?_) (fun c9669 => ?_)
    · refine WP_aload_n dX11_readWants_43 rfl ?_
      refine WQ_getim dX11_readWants_44 fX11_56 rfl (ly_is hy 0 11 rfl) ew9669 ?_
      refine WP_istore_n (ls' := [(0, _), (1, _), (2, _)]) dX11_readWants_47 (by decide) rfl ?_
      refine WP_aload_n dX11_readWants_48 rfl ?_
      refine WQ_iconst (0) (0) dX11_readWants_49 rfl rfl (fun v9671 hv9671 => ?_)
      refine WQ_bipush (6) (6) dX11_readWants_50 rfl rfl (fun v9672 hv9672 => ?_)
      refine WP_callV2 (k := 11) dX11_readWants_52 ⟨⟨⟨by decide, by decide⟩, zX11_peek⟩, lX11_59, by decide, rfl, vX11_peek.1, vX11_peek.2⟩ (ly_is hy 0 11 rfl) (sm_peekx hy hr hI9654 v9671 v9672 (by omega) (by omega) (by omega) (by omega) (by rw [ew9665, ew9666, ew9667, ew9668]; omega)) (Nat.le_of_ble_eq_true rfl) ?_
      intro r I9673 J9674 Ra hq
      obtain ⟨⟨hI9673, ec, fiI9673, fjI9673, fqI9673, ⟨pI9673, sI9673_0_15, sI9673_0_16, sI9673_0_17, sI9673_0_18⟩⟩, v9675, rfl, av9675, bv9675, cv9675⟩ := hq
      show WP _ _ _ _ (.int _ :: _) _ _ _ _
      rw [ec]
      clear ec Ra
      have fr9676 : fz 49 g [0, 30, 31, 32] I I9673 := fz_tr fr9657 (fz_mono fiI9673 (by decide))
      have fr9677 : fs g [3, 4, 5, 6, 7, 8, 9] I I9673 := fs_tr fr9658 (fs_mono fqI9673 (by decide))
      have fr9678 : fz 49 g [] J J9674 := fz_tr fr9659 (fz_mono fjI9673 (by decide))
      have HI9673 := HI9654
      rw [← fz_at fiI9673 30 (by decide) (by decide), ← fz_at fiI9673 31 (by decide) (by decide)] at HI9673
      have e9679 : I9673 (ad g 0) 15 = w9622 := by rw [sI9673_0_15]; exact e9660
      have e9680 : I9673 (ad g 0) 16 = v9653 := by rw [sI9673_0_16]; exact e9661
      have e9681 : I9673 (ad g 0) 17 = w9623 := by rw [sI9673_0_17]; exact e9662
      have e9682 : I9673 (ad g 0) 1 = L := hI9673.1.2
      have b9683 := BT_get hI9673.1.1 0 1 2 (0) (0) (900) (by decide) 1 (by decide) (by decide)
      rw [e9682] at b9683
      obtain ⟨w9684, ew9684⟩ : ∃ w : Int32, I9673 (ad g 0) 2 = w := ⟨_, rfl⟩
      have bw9684 := BT_get hI9673.1.1 0 2 3 (0) (0) (900) (by decide) 2 (by decide) (by decide)
      rw [ew9684] at bw9684
      obtain ⟨w9685, ew9685⟩ : ∃ w : Int32, I9673 (ad g 0) 3 = w := ⟨_, rfl⟩
      have bw9685 := BT_get hI9673.1.1 0 3 4 (0) (0) (900) (by decide) 3 (by decide) (by decide)
      rw [ew9685] at bw9685
      obtain ⟨w9686, ew9686⟩ : ∃ w : Int32, I9673 (ad g 0) 4 = w := ⟨_, rfl⟩
      have bw9686 := BT_get hI9673.1.1 0 4 5 (0) (0) (900) (by decide) 4 (by decide) (by decide)
      rw [ew9686] at bw9686
      obtain ⟨w9687, ew9687⟩ : ∃ w : Int32, I9673 (ad g 0) 5 = w := ⟨_, rfl⟩
      have bw9687 := BT_get hI9673.1.1 0 5 6 (0) (0) (4) (by decide) 5 (by decide) (by decide)
      rw [ew9687] at bw9687
      rw [ew9684, ew9685, ew9686, ew9687, ew9666] at pI9673
      obtain ⟨w9688, ew9688⟩ : ∃ w : Int32, I9673 (ad g 0) 7 = w := ⟨_, rfl⟩
      have bw9688 := BT_get hI9673.1.1 0 7 8 (-1) (0) (1000) (by decide) 7 (by decide) (by decide)
      rw [ew9688] at bw9688
      rw [ew9688] at cv9675
      refine WQ_if_ne 60 dX11_readWants_55 rfl (fun c9688 => ?_) (fun c9688 => ?_)
      · refine WQ_bipush (7) (7) dX11_readWants_60 rfl rfl (fun v9690 hv9690 => ?_)
        refine WP_iload_n dX11_readWants_62 rfl ?_
        refine WQ_imulK (7) dX11_readWants_63 hv9690 (by omega) (by omega) (fun v9691 hv9691 => ?_)
        refine WP_aload_n dX11_readWants_64 rfl ?_
        refine WQ_getim dX11_readWants_65 fX11_56 rfl (ly_is hy 0 11 rfl) ew9688 ?_
        refine WQ_iadd dX11_readWants_68 (by omega) (by omega) (fun v9692 hv9692 => ?_)
        refine WP_istore_n (ls' := [(0, _), (1, _), (2, _), (3, _)]) dX11_readWants_69 (by decide) rfl ?_
        refine WP_aload_n dX11_readWants_70 rfl ?_
        refine WP_getr dX11_readWants_71 fX11_117 rfl (ly_is hy 0 11 rfl) (rf hr 0 48 30 (by decide)) ?_
        refine WP_iload_n dX11_readWants_74 rfl ?_
        refine WQ_iald dX11_readWants_75 (ly_is hy 30 13 rfl) (ly_n hy 30 28 rfl) (by omega) (by omega) (fun q hq => BT_get hI9673.1.1 30 0 28 (-1) (0) (2) (by decide) q (Nat.zero_le _) hq) (fun v9693 av9693 bv9693 ev9693 => ?_)
        clear ev9693
        refine WQ_iconst (-1) (-1) dX11_readWants_76 rfl rfl (fun v9694 hv9694 => ?_)
        refine WQ_icmp_eq 86 dX11_readWants_77 rfl (fun c9694 => ?_) (fun c9694 => ?_)
        · refine WP_aload_n dX11_readWants_86 rfl ?_
          refine WP_callV0 (k := 11) dX11_readWants_87 ⟨⟨⟨by decide, by decide⟩, zX11_scan⟩, lX11_63, by decide, rfl, vX11_scan.1, vX11_scan.2⟩ (ly_is hy 0 11 rfl) (sm_scanx hy hr hI9673   (by rw [ew9686, ew9684]; omega)) (Nat.le_of_ble_eq_true rfl) ?_
          intro r I9696 J9697 Ra hq
          obtain ⟨⟨hI9696, ec, fiI9696, fjI9696, fqI9696, ⟨pI9696, sI9696_0_7, sI9696_0_15, sI9696_0_16, sI9696_0_17, sI9696_0_18⟩⟩, rfl⟩ := hq
          rw [ec]
          clear ec Ra
          have fr9698 : fz 49 g [0, 30, 31, 32] I I9696 := fz_tr fr9676 (fz_mono fiI9696 (by decide))
          have fr9699 : fs g [3, 4, 5, 6, 7, 8, 9] I I9696 := fs_tr fr9677 (fs_mono fqI9696 (by decide))
          have fr9700 : fz 49 g [] J J9697 := fz_tr fr9678 (fz_mono fjI9696 (by decide))
          have HI9696 := HI9673
          rw [← fz_at fiI9696 30 (by decide) (by decide), ← fz_at fiI9696 31 (by decide) (by decide)] at HI9696
          have e9701 : I9696 (ad g 0) 7 = w9688 := by rw [sI9696_0_7]; exact ew9688
          have e9702 : I9696 (ad g 0) 15 = w9622 := by rw [sI9696_0_15]; exact e9679
          have e9703 : I9696 (ad g 0) 16 = v9653 := by rw [sI9696_0_16]; exact e9680
          have e9704 : I9696 (ad g 0) 17 = w9623 := by rw [sI9696_0_17]; exact e9681
          have e9705 : I9696 (ad g 0) 1 = L := hI9696.1.2
          have b9706 := BT_get hI9696.1.1 0 1 2 (0) (0) (900) (by decide) 1 (by decide) (by decide)
          rw [e9705] at b9706
          obtain ⟨w9707, ew9707⟩ : ∃ w : Int32, I9696 (ad g 0) 2 = w := ⟨_, rfl⟩
          have bw9707 := BT_get hI9696.1.1 0 2 3 (0) (0) (900) (by decide) 2 (by decide) (by decide)
          rw [ew9707] at bw9707
          obtain ⟨w9708, ew9708⟩ : ∃ w : Int32, I9696 (ad g 0) 3 = w := ⟨_, rfl⟩
          have bw9708 := BT_get hI9696.1.1 0 3 4 (0) (0) (900) (by decide) 3 (by decide) (by decide)
          rw [ew9708] at bw9708
          obtain ⟨w9709, ew9709⟩ : ∃ w : Int32, I9696 (ad g 0) 4 = w := ⟨_, rfl⟩
          have bw9709 := BT_get hI9696.1.1 0 4 5 (0) (0) (900) (by decide) 4 (by decide) (by decide)
          rw [ew9709] at bw9709
          obtain ⟨w9710, ew9710⟩ : ∃ w : Int32, I9696 (ad g 0) 5 = w := ⟨_, rfl⟩
          have bw9710 := BT_get hI9696.1.1 0 5 6 (0) (0) (4) (by decide) 5 (by decide) (by decide)
          rw [ew9710] at bw9710
          rw [ew9707, ew9708, ew9709, ew9710, ew9686] at pI9696
          refine WP_aload_n dX11_readWants_90 rfl ?_
          refine WQ_iconst (1) (1) dX11_readWants_91 rfl rfl (fun v9711 hv9711 => ?_)
          refine WQ_iconst (3) (3) dX11_readWants_92 rfl rfl (fun v9712 hv9712 => ?_)
          refine WP_callV2 (k := 11) dX11_readWants_93 ⟨⟨⟨by decide, by decide⟩, zX11_number⟩, lX11_81, by decide, rfl, vX11_number.1, vX11_number.2⟩ (ly_is hy 0 11 rfl) (sm_numberx hy hr hI9696 v9711 v9712 (by omega) (by omega) (by omega) (by omega) (by rw [ew9707, ew9708, ew9709, ew9710]; omega)) (Nat.le_of_ble_eq_true rfl) ?_
          intro r I9713 J9714 Ra hq
          obtain ⟨⟨hI9713, ec, fiI9713, fjI9713, fqI9713, ⟨pI9713, sI9713_0_15, sI9713_0_16, sI9713_0_17, sI9713_0_18⟩⟩, v9715, rfl, av9715, bv9715, cv9715⟩ := hq
          show WP _ _ _ _ (.int _ :: _) _ _ _ _
          rw [ec]
          clear ec Ra
          have fr9716 : fz 49 g [0, 30, 31, 32] I I9713 := fz_tr fr9698 (fz_mono fiI9713 (by decide))
          have fr9717 : fs g [3, 4, 5, 6, 7, 8, 9] I I9713 := fs_tr fr9699 (fs_mono fqI9713 (by decide))
          have fr9718 : fz 49 g [] J J9714 := fz_tr fr9700 (fz_mono fjI9713 (by decide))
          have HI9713 := HI9696
          rw [← fz_at fiI9713 30 (by decide) (by decide), ← fz_at fiI9713 31 (by decide) (by decide)] at HI9713
          have e9719 : I9713 (ad g 0) 15 = w9622 := by rw [sI9713_0_15]; exact e9702
          have e9720 : I9713 (ad g 0) 16 = v9653 := by rw [sI9713_0_16]; exact e9703
          have e9721 : I9713 (ad g 0) 17 = w9623 := by rw [sI9713_0_17]; exact e9704
          have e9722 : I9713 (ad g 0) 1 = L := hI9713.1.2
          have b9723 := BT_get hI9713.1.1 0 1 2 (0) (0) (900) (by decide) 1 (by decide) (by decide)
          rw [e9722] at b9723
          obtain ⟨w9724, ew9724⟩ : ∃ w : Int32, I9713 (ad g 0) 2 = w := ⟨_, rfl⟩
          have bw9724 := BT_get hI9713.1.1 0 2 3 (0) (0) (900) (by decide) 2 (by decide) (by decide)
          rw [ew9724] at bw9724
          obtain ⟨w9725, ew9725⟩ : ∃ w : Int32, I9713 (ad g 0) 3 = w := ⟨_, rfl⟩
          have bw9725 := BT_get hI9713.1.1 0 3 4 (0) (0) (900) (by decide) 3 (by decide) (by decide)
          rw [ew9725] at bw9725
          obtain ⟨w9726, ew9726⟩ : ∃ w : Int32, I9713 (ad g 0) 4 = w := ⟨_, rfl⟩
          have bw9726 := BT_get hI9713.1.1 0 4 5 (0) (0) (900) (by decide) 4 (by decide) (by decide)
          rw [ew9726] at bw9726
          obtain ⟨w9727, ew9727⟩ : ∃ w : Int32, I9713 (ad g 0) 5 = w := ⟨_, rfl⟩
          have bw9727 := BT_get hI9713.1.1 0 5 6 (0) (0) (4) (by decide) 5 (by decide) (by decide)
          rw [ew9727] at bw9727
          rw [ew9724, ew9725, ew9726, ew9727, ew9708] at pI9713
          obtain ⟨w9728, ew9728⟩ : ∃ w : Int32, I9713 (ad g 0) 7 = w := ⟨_, rfl⟩
          have bw9728 := BT_get hI9713.1.1 0 7 8 (-1) (0) (1000) (by decide) 7 (by decide) (by decide)
          rw [ew9728] at bw9728
          rw [ew9728] at cv9715
          refine WQ_if_ne 101 dX11_readWants_96 rfl (fun c9728 => ?_) (fun c9728 => ?_)
          · refine WP_aload_n dX11_readWants_101 rfl ?_
            refine WP_getr dX11_readWants_102 fX11_120 rfl (ly_is hy 0 11 rfl) (rf hr 0 49 31 (by decide)) ?_
            refine WP_iload_n dX11_readWants_105 rfl ?_
            refine WP_aload_n dX11_readWants_106 rfl ?_
            refine WQ_getim dX11_readWants_107 fX11_56 rfl (ly_is hy 0 11 rfl) ew9728 ?_
            refine WQ_iast dX11_readWants_110 (ly_is hy 31 13 rfl) (ly_n hy 31 28 rfl) (by omega) (by omega) (fun I9730 eI9730 => ?_)
            have hI9730 : MP g n L I9730 := by rw [eI9730]; exact (mp_w hy hI9713 (c := 31) (mi_r hy hI9713.1 (c := 31) (0) (0) (3) (by decide) (Or.inl (by decide)) (by decide) (by omega) (by omega)) (by decide) (by decide) (Or.inl (by decide)))
            have e9731 : I9730 (ad g 0) 15 = w9622 := by rw [eI9730, pp_ne _ _ (Or.inl (ly_ne hy (by decide) (by decide) (by decide)))]; exact e9719
            have e9732 : I9730 (ad g 0) 16 = v9653 := by rw [eI9730, pp_ne _ _ (Or.inl (ly_ne hy (by decide) (by decide) (by decide)))]; exact e9720
            have e9733 : I9730 (ad g 0) 17 = w9623 := by rw [eI9730, pp_ne _ _ (Or.inl (ly_ne hy (by decide) (by decide) (by decide)))]; exact e9721
            have e9734 : I9730 (ad g 0) 1 = L := by rw [eI9730, pp_ne _ _ (Or.inl (ly_ne hy (by decide) (by decide) (by decide)))]; exact e9722
            have e9735 : I9730 (ad g 0) 2 = w9724 := by rw [eI9730, pp_ne _ _ (Or.inl (ly_ne hy (by decide) (by decide) (by decide)))]; exact ew9724
            have e9736 : I9730 (ad g 0) 3 = w9725 := by rw [eI9730, pp_ne _ _ (Or.inl (ly_ne hy (by decide) (by decide) (by decide)))]; exact ew9725
            have e9737 : I9730 (ad g 0) 4 = w9726 := by rw [eI9730, pp_ne _ _ (Or.inl (ly_ne hy (by decide) (by decide) (by decide)))]; exact ew9726
            have e9738 : I9730 (ad g 0) 5 = w9727 := by rw [eI9730, pp_ne _ _ (Or.inl (ly_ne hy (by decide) (by decide) (by decide)))]; exact ew9727
            have e9739 : I9730 (ad g 0) 7 = w9728 := by rw [eI9730, pp_ne _ _ (Or.inl (ly_ne hy (by decide) (by decide) (by decide)))]; exact ew9728
            have fr9740 : fs g [3, 4, 5, 6, 7, 8, 9] I I9730 := by rw [eI9730]; exact fs_ppn hy fr9717 (by decide) (by decide)
            have fr9741 : fz 49 g [0, 30, 31, 32] I I9730 := by rw [eI9730]; exact fzm_pp hy fr9716 (by decide) (by decide)
            have xI9730 := eI9730
            rw [cl (x := v9692) (n := v9692.toInt.toNat) (by omega)] at xI9730
            have XI9730 : WRx (I9730 (ad g 30)) (I9730 (ad g 31)) (7 * (I (ad g 0) 15).toInt) v9692.toInt.toNat := by rw [show I9730 (ad g 30) = I9713 (ad g 30) by rw [eI9730, pp_off _ _ (ly_ne hy (by decide) (by decide) (by decide))]]; exact WRx_b HI9713 xI9730
            clear eI9730
            refine WP_aload_n dX11_readWants_111 rfl ?_
            refine WQ_iconst (0) (0) dX11_readWants_112 rfl rfl (fun v9742 hv9742 => ?_)
            refine WQ_bipush (99) (99) dX11_readWants_113 rfl rfl (fun v9743 hv9743 => ?_)
            refine WP_callV2 (k := 11) dX11_readWants_115 ⟨⟨⟨by decide, by decide⟩, zX11_number⟩, lX11_81, by decide, rfl, vX11_number.1, vX11_number.2⟩ (ly_is hy 0 11 rfl) (sm_numberx hy hr hI9730 v9742 v9743 (by omega) (by omega) (by omega) (by omega) (by rw [e9735, e9736, e9737, e9738]; omega)) (Nat.le_of_ble_eq_true rfl) ?_
            intro r I9744 J9745 Ra hq
            obtain ⟨⟨hI9744, ec, fiI9744, fjI9744, fqI9744, ⟨pI9744, sI9744_0_15, sI9744_0_16, sI9744_0_17, sI9744_0_18⟩⟩, v9746, rfl, av9746, bv9746, cv9746⟩ := hq
            show WP _ _ _ _ (.int _ :: _) _ _ _ _
            rw [ec]
            clear ec Ra
            have fr9747 : fz 49 g [0, 30, 31, 32] I I9744 := fz_tr fr9741 (fz_mono fiI9744 (by decide))
            have fr9748 : fs g [3, 4, 5, 6, 7, 8, 9] I I9744 := fs_tr fr9740 (fs_mono fqI9744 (by decide))
            have fr9749 : fz 49 g [] J J9745 := fz_tr fr9718 (fz_mono fjI9744 (by decide))
            have XI9744 : WRx (I9744 (ad g 30)) (I9744 (ad g 31)) (7 * (I (ad g 0) 15).toInt) v9692.toInt.toNat := by rw [fz_at fiI9744 30 (by decide) (by decide), fz_at fiI9744 31 (by decide) (by decide)]; exact XI9730
            have e9750 : I9744 (ad g 0) 15 = w9622 := by rw [sI9744_0_15]; exact e9731
            have e9751 : I9744 (ad g 0) 16 = v9653 := by rw [sI9744_0_16]; exact e9732
            have e9752 : I9744 (ad g 0) 17 = w9623 := by rw [sI9744_0_17]; exact e9733
            have e9753 : I9744 (ad g 0) 1 = L := hI9744.1.2
            have b9754 := BT_get hI9744.1.1 0 1 2 (0) (0) (900) (by decide) 1 (by decide) (by decide)
            rw [e9753] at b9754
            obtain ⟨w9755, ew9755⟩ : ∃ w : Int32, I9744 (ad g 0) 2 = w := ⟨_, rfl⟩
            have bw9755 := BT_get hI9744.1.1 0 2 3 (0) (0) (900) (by decide) 2 (by decide) (by decide)
            rw [ew9755] at bw9755
            obtain ⟨w9756, ew9756⟩ : ∃ w : Int32, I9744 (ad g 0) 3 = w := ⟨_, rfl⟩
            have bw9756 := BT_get hI9744.1.1 0 3 4 (0) (0) (900) (by decide) 3 (by decide) (by decide)
            rw [ew9756] at bw9756
            obtain ⟨w9757, ew9757⟩ : ∃ w : Int32, I9744 (ad g 0) 4 = w := ⟨_, rfl⟩
            have bw9757 := BT_get hI9744.1.1 0 4 5 (0) (0) (900) (by decide) 4 (by decide) (by decide)
            rw [ew9757] at bw9757
            obtain ⟨w9758, ew9758⟩ : ∃ w : Int32, I9744 (ad g 0) 5 = w := ⟨_, rfl⟩
            have bw9758 := BT_get hI9744.1.1 0 5 6 (0) (0) (4) (by decide) 5 (by decide) (by decide)
            rw [ew9758] at bw9758
            rw [ew9755, ew9756, ew9757, ew9758, e9736] at pI9744
            obtain ⟨w9759, ew9759⟩ : ∃ w : Int32, I9744 (ad g 0) 7 = w := ⟨_, rfl⟩
            have bw9759 := BT_get hI9744.1.1 0 7 8 (-1) (0) (1000) (by decide) 7 (by decide) (by decide)
            rw [ew9759] at bw9759
            rw [ew9759] at cv9746
            refine WQ_if_ne 123 dX11_readWants_118 rfl (fun c9759 => ?_) (fun c9759 => ?_)
            · refine WP_aload_n dX11_readWants_123 rfl ?_
              refine WP_getr dX11_readWants_124 fX11_123 rfl (ly_is hy 0 11 rfl) (rf hr 0 50 32 (by decide)) ?_
              refine WP_iload_n dX11_readWants_127 rfl ?_
              refine WP_aload_n dX11_readWants_128 rfl ?_
              refine WQ_getim dX11_readWants_129 fX11_56 rfl (ly_is hy 0 11 rfl) ew9759 ?_
              refine WQ_iast dX11_readWants_132 (ly_is hy 32 13 rfl) (ly_n hy 32 28 rfl) (by omega) (by omega) (fun I9761 eI9761 => ?_)
              have hI9761 : MP g n L I9761 := by rw [eI9761]; exact (mp_w hy hI9744 (c := 32) (mi_r hy hI9744.1 (c := 32) (0) (0) (99) (by decide) (Or.inl (by decide)) (by decide) (by omega) (by omega)) (by decide) (by decide) (Or.inl (by decide)))
              have e9762 : I9761 (ad g 0) 15 = w9622 := by rw [eI9761, pp_ne _ _ (Or.inl (ly_ne hy (by decide) (by decide) (by decide)))]; exact e9750
              have e9763 : I9761 (ad g 0) 16 = v9653 := by rw [eI9761, pp_ne _ _ (Or.inl (ly_ne hy (by decide) (by decide) (by decide)))]; exact e9751
              have e9764 : I9761 (ad g 0) 17 = w9623 := by rw [eI9761, pp_ne _ _ (Or.inl (ly_ne hy (by decide) (by decide) (by decide)))]; exact e9752
              have e9765 : I9761 (ad g 0) 1 = L := by rw [eI9761, pp_ne _ _ (Or.inl (ly_ne hy (by decide) (by decide) (by decide)))]; exact e9753
              have e9766 : I9761 (ad g 0) 2 = w9755 := by rw [eI9761, pp_ne _ _ (Or.inl (ly_ne hy (by decide) (by decide) (by decide)))]; exact ew9755
              have e9767 : I9761 (ad g 0) 3 = w9756 := by rw [eI9761, pp_ne _ _ (Or.inl (ly_ne hy (by decide) (by decide) (by decide)))]; exact ew9756
              have e9768 : I9761 (ad g 0) 4 = w9757 := by rw [eI9761, pp_ne _ _ (Or.inl (ly_ne hy (by decide) (by decide) (by decide)))]; exact ew9757
              have e9769 : I9761 (ad g 0) 5 = w9758 := by rw [eI9761, pp_ne _ _ (Or.inl (ly_ne hy (by decide) (by decide) (by decide)))]; exact ew9758
              have e9770 : I9761 (ad g 0) 7 = w9759 := by rw [eI9761, pp_ne _ _ (Or.inl (ly_ne hy (by decide) (by decide) (by decide)))]; exact ew9759
              have fr9771 : fs g [3, 4, 5, 6, 7, 8, 9] I I9761 := by rw [eI9761]; exact fs_ppn hy fr9748 (by decide) (by decide)
              have fr9772 : fz 49 g [0, 30, 31, 32] I I9761 := by rw [eI9761]; exact fzm_pp hy fr9747 (by decide) (by decide)
              have xI9761 := eI9761
              rw [cl (x := v9692) (n := v9692.toInt.toNat) (by omega)] at xI9761
              have XI9761 : WRx (I9761 (ad g 30)) (I9761 (ad g 31)) (7 * (I (ad g 0) 15).toInt) v9692.toInt.toNat := by rw [show I9761 (ad g 30) = I9744 (ad g 30) by rw [eI9761, pp_off _ _ (ly_ne hy (by decide) (by decide) (by decide))], show I9761 (ad g 31) = I9744 (ad g 31) by rw [eI9761, pp_off _ _ (ly_ne hy (by decide) (by decide) (by decide))]]; exact XI9744
              clear eI9761
              refine WP_aload_n dX11_readWants_133 rfl ?_
              refine WP_getr dX11_readWants_134 fX11_117 rfl (ly_is hy 0 11 rfl) (rf hr 0 48 30 (by decide)) ?_
              refine WP_iload_n dX11_readWants_137 rfl ?_
              refine WP_iload_n dX11_readWants_138 rfl ?_
              refine WQ_iast dX11_readWants_139 (ly_is hy 30 13 rfl) (ly_n hy 30 28 rfl) (by omega) (by omega) (fun I9773 eI9773 => ?_)
              have hI9773 : MP g n L I9773 := by rw [eI9773]; exact (mp_w hy hI9761 (c := 30) (mi_r hy hI9761.1 (c := 30) (-1) (0) (2) (by decide) (Or.inl (by decide)) (by decide) (by omega) (by omega)) (by decide) (by decide) (Or.inl (by decide)))
              have e9774 : I9773 (ad g 0) 15 = w9622 := by rw [eI9773, pp_ne _ _ (Or.inl (ly_ne hy (by decide) (by decide) (by decide)))]; exact e9762
              have e9775 : I9773 (ad g 0) 16 = v9653 := by rw [eI9773, pp_ne _ _ (Or.inl (ly_ne hy (by decide) (by decide) (by decide)))]; exact e9763
              have e9776 : I9773 (ad g 0) 17 = w9623 := by rw [eI9773, pp_ne _ _ (Or.inl (ly_ne hy (by decide) (by decide) (by decide)))]; exact e9764
              have e9777 : I9773 (ad g 0) 1 = L := by rw [eI9773, pp_ne _ _ (Or.inl (ly_ne hy (by decide) (by decide) (by decide)))]; exact e9765
              have e9778 : I9773 (ad g 0) 2 = w9755 := by rw [eI9773, pp_ne _ _ (Or.inl (ly_ne hy (by decide) (by decide) (by decide)))]; exact e9766
              have e9779 : I9773 (ad g 0) 3 = w9756 := by rw [eI9773, pp_ne _ _ (Or.inl (ly_ne hy (by decide) (by decide) (by decide)))]; exact e9767
              have e9780 : I9773 (ad g 0) 4 = w9757 := by rw [eI9773, pp_ne _ _ (Or.inl (ly_ne hy (by decide) (by decide) (by decide)))]; exact e9768
              have e9781 : I9773 (ad g 0) 5 = w9758 := by rw [eI9773, pp_ne _ _ (Or.inl (ly_ne hy (by decide) (by decide) (by decide)))]; exact e9769
              have e9782 : I9773 (ad g 0) 7 = w9759 := by rw [eI9773, pp_ne _ _ (Or.inl (ly_ne hy (by decide) (by decide) (by decide)))]; exact e9770
              have fr9783 : fs g [3, 4, 5, 6, 7, 8, 9] I I9773 := by rw [eI9773]; exact fs_ppn hy fr9771 (by decide) (by decide)
              have fr9784 : fz 49 g [0, 30, 31, 32] I I9773 := by rw [eI9773]; exact fzm_pp hy fr9772 (by decide) (by decide)
              have xI9773 := eI9773
              rw [cl (x := v9692) (n := v9692.toInt.toNat) (by omega)] at xI9773
              have XI9773 : WRt (I9773 (ad g 30)) (I9773 (ad g 31)) (7 * (I (ad g 0) 15).toInt) := by rw [show I9773 (ad g 31) = I9761 (ad g 31) by rw [eI9773, pp_off _ _ (ly_ne hy (by decide) (by decide) (by decide))]]; exact WRx_a XI9761 xI9773 (by omega)
              clear eI9773
              refine WQ_iconst (1) (1) dX11_readWants_140 rfl rfl (fun v9785 hv9785 => ?_)
              exact WP_zret dX11_readWants_141 rfl (nar_z (by omega)) ⟨⟨hI9773, rfl, fr9784, fr9749, fr9783, (by rw [e9778, e9779, e9780, e9781, e9774, e9776, ew9619]; omega)⟩, _, rfl, by omega, by omega, (fun _ => by rw [show I9773 (ad g 0) 15 = I (ad g 0) 15 from (by rw [e9774, ew9622] <;> exact (eq32 _ _).mpr (by omega))]; exact XI9773)⟩
            · refine WQ_iconst (0) (0) dX11_readWants_121 rfl rfl (fun v9786 hv9786 => ?_)
              exact WP_zret dX11_readWants_122 rfl (nar_z (by omega)) ⟨⟨hI9744, rfl, fr9747, fr9749, fr9748, (by rw [ew9755, ew9756, ew9757, ew9758, e9750, e9752, ew9619]; omega)⟩, _, rfl, by omega, by omega, (fun h => False.elim (by omega))⟩
          · refine WQ_iconst (0) (0) dX11_readWants_99 rfl rfl (fun v9787 hv9787 => ?_)
            exact WP_zret dX11_readWants_100 rfl (nar_z (by omega)) ⟨⟨hI9713, rfl, fr9716, fr9718, fr9717, (by rw [ew9724, ew9725, ew9726, ew9727, e9719, e9721, ew9619]; omega)⟩, _, rfl, by omega, by omega, (fun h => False.elim (by omega))⟩
        · refine WP_aload_n dX11_readWants_80 rfl ?_
          refine WQ_iconst (3) (3) dX11_readWants_81 rfl rfl (fun v9788 hv9788 => ?_)
          refine WP_callV1 (k := 11) dX11_readWants_82 ⟨⟨⟨by decide, by decide⟩, zX11_bad⟩, lX11_49, by decide, rfl, vX11_bad.1, vX11_bad.2⟩ (ly_is hy 0 11 rfl) (sm_badx hy hr hI9673 v9788  (by rw [ew9684, ew9685, ew9686, ew9687]; omega)) (Nat.le_of_ble_eq_true rfl) ?_
          intro r I9789 J9790 Ra hq
          obtain ⟨⟨hI9789, ec, fiI9789, fjI9789, fqI9789, ⟨pI9789, sI9789_0_15, sI9789_0_16, sI9789_0_17, sI9789_0_18⟩⟩, v9791, rfl, av9791, bv9791⟩ := hq
          show WP _ _ _ _ (.int _ :: _) _ _ _ _
          rw [ec]
          clear ec Ra
          have fr9792 : fz 49 g [0, 30, 31, 32] I I9789 := fz_tr fr9676 (fz_mono fiI9789 (by decide))
          have fr9793 : fs g [3, 4, 5, 6, 7, 8, 9] I I9789 := fs_tr fr9677 (fs_mono fqI9789 (by decide))
          have fr9794 : fz 49 g [] J J9790 := fz_tr fr9678 (fz_mono fjI9789 (by decide))
          have HI9789 := HI9673
          rw [← fz_at fiI9789 30 (by decide) (by decide), ← fz_at fiI9789 31 (by decide) (by decide)] at HI9789
          have e9795 : I9789 (ad g 0) 15 = w9622 := by rw [sI9789_0_15]; exact e9679
          have e9796 : I9789 (ad g 0) 16 = v9653 := by rw [sI9789_0_16]; exact e9680
          have e9797 : I9789 (ad g 0) 17 = w9623 := by rw [sI9789_0_17]; exact e9681
          have e9798 : I9789 (ad g 0) 1 = L := hI9789.1.2
          have b9799 := BT_get hI9789.1.1 0 1 2 (0) (0) (900) (by decide) 1 (by decide) (by decide)
          rw [e9798] at b9799
          obtain ⟨w9800, ew9800⟩ : ∃ w : Int32, I9789 (ad g 0) 2 = w := ⟨_, rfl⟩
          have bw9800 := BT_get hI9789.1.1 0 2 3 (0) (0) (900) (by decide) 2 (by decide) (by decide)
          rw [ew9800] at bw9800
          obtain ⟨w9801, ew9801⟩ : ∃ w : Int32, I9789 (ad g 0) 3 = w := ⟨_, rfl⟩
          have bw9801 := BT_get hI9789.1.1 0 3 4 (0) (0) (900) (by decide) 3 (by decide) (by decide)
          rw [ew9801] at bw9801
          obtain ⟨w9802, ew9802⟩ : ∃ w : Int32, I9789 (ad g 0) 4 = w := ⟨_, rfl⟩
          have bw9802 := BT_get hI9789.1.1 0 4 5 (0) (0) (900) (by decide) 4 (by decide) (by decide)
          rw [ew9802] at bw9802
          obtain ⟨w9803, ew9803⟩ : ∃ w : Int32, I9789 (ad g 0) 5 = w := ⟨_, rfl⟩
          have bw9803 := BT_get hI9789.1.1 0 5 6 (0) (0) (4) (by decide) 5 (by decide) (by decide)
          rw [ew9803] at bw9803
          rw [ew9800, ew9801, ew9802, ew9803, ew9685] at pI9789
          exact WP_zret dX11_readWants_85 rfl (nar_z (by omega)) ⟨⟨hI9789, rfl, fr9792, fr9794, fr9793, (by rw [ew9800, ew9801, ew9802, ew9803, e9795, e9797, ew9619]; omega)⟩, _, rfl, by omega, by omega, (fun h => False.elim (by omega))⟩
      · refine WQ_iconst (0) (0) dX11_readWants_58 rfl rfl (fun v9804 hv9804 => ?_)
        exact WP_zret dX11_readWants_59 rfl (nar_z (by omega)) ⟨⟨hI9673, rfl, fr9676, fr9678, fr9677, (by rw [ew9684, ew9685, ew9686, ew9687, e9679, e9681, ew9619]; omega)⟩, _, rfl, by omega, by omega, (fun h => False.elim (by omega))⟩
    · refine WQ_iconst (0) (0) dX11_readWants_41 rfl rfl (fun v9805 hv9805 => ?_)
      exact WP_zret dX11_readWants_42 rfl (nar_z (by omega)) ⟨⟨hI9654, rfl, fr9657, fr9659, fr9658, (by rw [ew9665, ew9666, ew9667, ew9668, e9660, e9662, ew9619]; omega)⟩, _, rfl, by omega, by omega, (fun h => False.elim (by omega))⟩
  · refine WQ_iconst (0) (0) dX11_readWants_19 rfl rfl (fun v9806 hv9806 => ?_)
    exact WP_zret dX11_readWants_20 rfl (nar_z (by omega)) ⟨⟨hI9637, rfl, fr9640, fr9642, fr9641, (by rw [ew9647, ew9648, ew9649, ew9650, e9643, e9644, ew9619]; omega)⟩, _, rfl, by omega, by omega, (fun h => False.elim (by omega))⟩
