set_option maxHeartbeats 4000000 in
set_option maxRecDepth 100000 in
theorem sm_sortDay_38 {g : GG} {n : Int} {L : Int32} (hy : Ly g)  {I : pI} {J : pJ} {R : pR} (hr : Rf g R) (hI : MP g n L I) (so : Int32) (da : Int32) (so_lo : 0 ≤ so.toInt) (so_hi : so.toInt ≤ 3) (da_lo : 0 ≤ da.toInt) (da_hi : da.toInt ≤ 6) (hb : so.toInt < (I (ad g 0) 10).toInt) : SP g mX11_sortDay [.ref (ad g 0), .ref (ad g 38), .int so, .int da] I J R (fun r I' J' R' => (MP g n L I' ∧ R' = R ∧ fz 49 g [0, 35, 36, 37, 40, 41, 38] I I' ∧ J' = J ∧ True ∧ I' (ad g 38) 32 = I (ad g 38) 32 ∧ I' (ad g 38) 33 = I (ad g 38) 33 ∧ I' (ad g 0) 10 = I (ad g 0) 10 ∧ I' (ad g 0) 14 = I (ad g 0) 14 ∧ I' (ad g 0) 68 = I (ad g 0) 68) ∧ ∃ v : Int64, r = some (.long v)) := by
  refine SP_of ⟨by decide, rfl⟩ (Nat.le_of_ble_eq_true rfl) ?_
  have e4526 : I (ad g 0) 1 = L := hI.1.2
  have b4527 := BT_get hI.1.1 0 1 2 (0) (0) (900) (by decide) 1 (by decide) (by decide)
  rw [e4526] at b4527
  have fr0 : fz 49 g [0, 35, 36, 37, 40, 41, 38] I I := fz_rf
  obtain ⟨w4528, ew4528⟩ : ∃ w : Int32, I (ad g 38) 32 = w := ⟨_, rfl⟩
  have bw4528 := BT_get hI.1.1 38 32 33 (0) (23760) (0) (by decide) 32 (by decide) (by decide)
  rw [ew4528] at bw4528
  obtain ⟨w4529, ew4529⟩ : ∃ w : Int32, I (ad g 38) 33 = w := ⟨_, rfl⟩
  have bw4529 := BT_get hI.1.1 38 33 34 (0) (1) (0) (by decide) 33 (by decide) (by decide)
  rw [ew4529] at bw4529
  obtain ⟨w4530, ew4530⟩ : ∃ w : Int32, I (ad g 0) 10 = w := ⟨_, rfl⟩
  have bw4530 := BT_get hI.1.1 0 10 11 (0) (0) (4) (by decide) 10 (by decide) (by decide)
  rw [ew4530] at bw4530
  obtain ⟨w4531, ew4531⟩ : ∃ w : Int32, I (ad g 0) 14 = w := ⟨_, rfl⟩
  have bw4531 := BT_get hI.1.1 0 14 15 (-1) (0) (2) (by decide) 14 (by decide) (by decide)
  rw [ew4531] at bw4531
  obtain ⟨w4532, ew4532⟩ : ∃ w : Int32, I (ad g 0) 68 = w := ⟨_, rfl⟩
  rw [ew4530] at hb
  refine WQ_bipush (7) (7) dX11_sortDay_0 rfl rfl (fun v4533 hv4533 => ?_)
  refine WP_iload_n dX11_sortDay_2 rfl ?_
  refine WQ_imulK (7) dX11_sortDay_3 hv4533 (by omega) (by omega) (fun v4534 hv4534 => ?_)
  refine WP_iload_n dX11_sortDay_4 rfl ?_
  refine WQ_iadd dX11_sortDay_5 (by omega) (by omega) (fun v4535 hv4535 => ?_)
  refine WP_istore (ls' := [(0, _), (1, _), (2, _), (3, _), (4, _)]) dX11_sortDay_6 (by decide) rfl ?_
  refine WP_aload_n dX11_sortDay_8 rfl ?_
  refine WP_iload_n dX11_sortDay_9 rfl ?_
  refine WP_iload_n dX11_sortDay_10 rfl ?_
  refine WP_aload_n dX11_sortDay_11 rfl ?_
  refine WQ_iconst (0) (0) dX11_sortDay_12 rfl rfl (fun v4536 hv4536 => ?_)
  refine WP_iload_n dX11_sortDay_13 rfl ?_
  refine WQ_iadd dX11_sortDay_14 (by omega) (by omega) (fun v4537 hv4537 => ?_)
  refine WQ_ialdr dX11_sortDay_15 (ly_is hy 38 13 rfl) (ly_n hy 38 35 rfl) (by omega) (by omega) (a := 0) (b := 4) (by omega) (by omega) (fun q hq1 hq2 => BT_get hI.1.1 38 0 4 (0) (0) (60) (by decide) q hq1 hq2) (fun v4538 av4538 bv4538 => ?_)
  refine WP_callV3 (k := 11) dX11_sortDay_16 ⟨⟨⟨by decide, by decide⟩, zX11_earned⟩, lX11_426, by decide, rfl, vX11_earned.1, vX11_earned.2⟩ (ly_is hy 0 11 rfl) (sm_earned hy hr hI so da v4538 (by omega) (by omega) (by omega) (by omega) (by omega) (by omega)) (Nat.le_of_ble_eq_true rfl) ?_
  intro r Ia Ja Ra hq
  obtain ⟨⟨ea, eb, ec⟩, v4539, rfl, av4539, bv4539⟩ := hq
  show WP _ _ _ _ (.int _ :: _) _ _ _ _
  rw [ea, eb, ec]
  clear ea eb ec Ia Ja Ra
  refine WP_istore (ls' := [(0, _), (1, _), (2, _), (3, _), (4, _), (5, _)]) dX11_sortDay_19 (by decide) rfl ?_
  refine WP_aload_n dX11_sortDay_21 rfl ?_
  refine WP_iload_n dX11_sortDay_22 rfl ?_
  refine WP_iload_n dX11_sortDay_23 rfl ?_
  refine WP_aload_n dX11_sortDay_24 rfl ?_
  refine WP_aload_n dX11_sortDay_25 rfl ?_
  refine WQ_bipush (28) (28) dX11_sortDay_26 rfl rfl (fun v4540 hv4540 => ?_)
  refine WP_iload_n dX11_sortDay_28 rfl ?_
  refine WQ_iadd dX11_sortDay_29 (by omega) (by omega) (fun v4541 hv4541 => ?_)
  refine WQ_ialdu dX11_sortDay_30 (ly_is hy 38 13 rfl) (ly_n hy 38 35 rfl) (by omega) (by omega) (fun v4542 => ?_)
  refine WP_iload_n dX11_sortDay_31 rfl ?_
  refine WP_iload_n dX11_sortDay_32 rfl ?_
  refine WP_iload dX11_sortDay_33 rfl ?_
  refine WP_aload_n dX11_sortDay_35 rfl ?_
  refine WQ_iconst (4) (4) dX11_sortDay_36 rfl rfl (fun v4543 hv4543 => ?_)
  refine WP_iload_n dX11_sortDay_37 rfl ?_
  refine WQ_iadd dX11_sortDay_38 (by omega) (by omega) (fun v4544 hv4544 => ?_)
  refine WQ_ialdq (q := v4544.toInt.toNat) dX11_sortDay_39 (ly_is hy 38 13 rfl) (ly_n hy 38 35 rfl) (by omega) (by omega) (by omega) (BT_get hI.1.1 38 4 8 (0) (0) (5) (by decide) _ (by omega) (by omega)) (fun v4545 av4545 bv4545 zv4545 => ?_)
  have yv4545 : I (ad g 38) (4 + so.toInt).toNat = v4545 := by rw [← zv4545, cl (x := v4544) (n := (4 + so.toInt).toNat) (by omega)]
  refine WP_callV5 (k := 11) dX11_sortDay_40 ⟨⟨⟨by decide, by decide⟩, zX11_actOf⟩, lX11_457, by decide, rfl, vX11_actOf.1, vX11_actOf.2⟩ (ly_is hy 0 11 rfl) (sm_actOf hy hr hI v4542 so da v4539 v4545  (by omega) (by omega) (by omega) (by omega) (by omega) (by omega) (by omega) (by omega)) (Nat.le_of_ble_eq_true rfl) ?_
  intro r I4546 J4547 Ra hq
  obtain ⟨⟨hI4546, ec, fiI4546, ejI4546, ⟨pI4546, sI4546_0_10, sI4546_0_14, sI4546_0_68⟩⟩, v4548, rfl, av4548, bv4548, cv4548⟩ := hq
  show WP _ _ _ _ (.int _ :: _) _ _ _ _
  rw [ec]
  clear ec Ra
  have fr4549 : fz 49 g [0, 35, 36, 37, 40, 41, 38] I I4546 := fz_tr fr0 (fz_mono fiI4546 (by decide))
  rw [ejI4546]
  clear ejI4546 J4547
  have YI4546 : I4546 (ad g 38) (4 + so.toInt).toNat = v4545 := by rw [fz_at fiI4546 38 (by decide) (by decide)]; exact yv4545
  have e4550 : I4546 (ad g 0) 10 = w4530 := by rw [sI4546_0_10]; exact ew4530
  have e4551 : I4546 (ad g 0) 14 = w4531 := by rw [sI4546_0_14]; exact ew4531
  have e4552 : I4546 (ad g 0) 68 = w4532 := by rw [sI4546_0_68]; exact ew4532
  have e4553 : I4546 (ad g 38) 32 = w4528 := by rw [fz_at fiI4546 38 (by decide) (by decide)]; exact ew4528
  have e4554 : I4546 (ad g 38) 33 = w4529 := by rw [fz_at fiI4546 38 (by decide) (by decide)]; exact ew4529
  have e4555 : I4546 (ad g 0) 1 = L := hI4546.1.2
  have b4556 := BT_get hI4546.1.1 0 1 2 (0) (0) (900) (by decide) 1 (by decide) (by decide)
  rw [e4555] at b4556
  have am := cv4548
  rw [← fz_at fiI4546 22 (by decide) (by decide), ← fz_at fiI4546 24 (by decide) (by decide), ← fz_at fiI4546 25 (by decide) (by decide), ← sI4546_0_14] at am
  refine WP_callV3 (k := 11) dX11_sortDay_43 ⟨⟨⟨by decide, by decide⟩, zX11_cutAct⟩, lX11_461, by decide, rfl, vX11_cutAct.1, vX11_cutAct.2⟩ (ly_is hy 0 11 rfl) (sm_cutAct hy hr hI4546 so da v4548 (by omega) (by omega) (by omega) (by omega) (by omega) (by omega) (by rw [e4550]; omega)) (Nat.le_of_ble_eq_true rfl) ?_
  intro r Ia Ja Ra hq
  obtain ⟨⟨ea, eb, ec⟩, v4557, rfl, av4557, bv4557, cv4557⟩ := hq
  show WP _ _ _ _ (.int _ :: _) _ _ _ _
  rw [ea, eb, ec]
  clear ea eb ec Ia Ja Ra
  refine WP_istore (ls' := [(0, _), (1, _), (2, _), (3, _), (4, _), (5, _), (6, _)]) dX11_sortDay_46 (by decide) rfl ?_
  refine WP_aload_n dX11_sortDay_48 rfl ?_
  refine WP_iload_n dX11_sortDay_49 rfl ?_
  refine WP_iload_n dX11_sortDay_50 rfl ?_
  refine WP_iload dX11_sortDay_51 rfl ?_
  refine WP_callV3 (k := 11) dX11_sortDay_53 ⟨⟨⟨by decide, by decide⟩, zX11_paysFor⟩, lX11_405, by decide, rfl, vX11_paysFor.1, vX11_paysFor.2⟩ (ly_is hy 0 11 rfl) (sm_paysx hy hr hI4546 so da v4557 (by omega) (by omega) (by omega) (by omega) (by omega) (by omega)) (Nat.le_of_ble_eq_true rfl) ?_
  intro r Ia Ja Ra hq
  obtain ⟨⟨ea, eb, ec⟩, v4558, rfl, av4558, bv4558, cv4558⟩ := hq
  show WP _ _ _ _ (.int _ :: _) _ _ _ _
  rw [ea, eb, ec]
  clear ea eb ec Ia Ja Ra
  have cu := cv4557
  unfold AM AOKm at am
  obtain ⟨a0, a47, af, as, ap, au, aq⟩ := am
  unfold CUT at cu
  obtain ⟨u0, u1, u2, u3, u4, u5, u6⟩ := cu
  have b24 := BT_get hI4546.1.1 24 0 28 (-1) (0) (2) (by decide) (7 * so.toInt + da.toInt).toNat (Nat.zero_le _) (by omega)
  obtain ⟨e3, he3⟩ : ∃ z : Int, CA (I4546 (ad g 22)) (I4546 (ad g 24) (7 * so.toInt + da.toInt).toNat).toInt da.toInt = z := ⟨_, rfl⟩
  obtain ⟨e4, he4⟩ : ∃ z : Int, CA (I4546 (ad g 22)) (I4546 (ad g 0) 14).toInt da.toInt = z := ⟨_, rfl⟩
  have n3 : 0 ≤ e3 := by rw [← he3]; exact ca_nn hI4546 (by omega) (by omega) (by omega) (by omega)
  have n4 : 0 ≤ e4 := by rw [← he4]; exact ca_nn hI4546 (by rw [e4551]; omega) (by rw [e4551]; omega) (by omega) (by omega)
  have cp := cv4558
  rw [he3, he4] at cp ap
  have k1 : (v4557.toInt % 4) * e3 ≤ (v4548.toInt % 4) * e3 := Int.mul_le_mul_of_nonneg_right (by omega) n3
  have k2 : (v4557.toInt / 16) * e4 ≤ (v4548.toInt / 16) * e4 := Int.mul_le_mul_of_nonneg_right (by omega) n4
  have kp : v4558.toInt ≤ v4539.toInt := by omega
  have k5 : v4557.toInt / 4 % 4 ≤ v4545.toInt := by omega
  have k6 : v4545.toInt - v4557.toInt / 4 % 4 + v4557.toInt / 16 ≤ 5 := by omega
  refine WP_istore (ls' := [(0, _), (1, _), (2, _), (3, _), (4, _), (5, _), (6, _), (7, _)]) dX11_sortDay_56 (by decide) rfl ?_
  refine WP_aload_n dX11_sortDay_58 rfl ?_
  refine WP_aload_n dX11_sortDay_59 rfl ?_
  refine WP_getr dX11_sortDay_60 fX11_261 rfl (ly_is hy 0 11 rfl) (rf hr 0 42 24 (by decide)) ?_
  refine WP_iload dX11_sortDay_63 rfl ?_
  refine WQ_iald dX11_sortDay_65 (ly_is hy 24 13 rfl) (ly_n hy 24 28 rfl) (by omega) (by omega) (fun q hq => BT_get hI4546.1.1 24 0 28 (-1) (0) (2) (by decide) q (Nat.zero_le _) hq) (fun v4559 av4559 bv4559 ev4559 => ?_)
  refine WP_iload_n dX11_sortDay_66 rfl ?_
  refine WP_iload dX11_sortDay_67 rfl ?_
  refine WQ_iconst (4) (4) dX11_sortDay_69 rfl rfl (fun v4560 hv4560 => ?_)
  refine WQ_iremk (4) dX11_sortDay_70 hv4560 (by decide) (by omega) (fun v4561 hv4561 => ?_)
  refine WP_aload_n dX11_sortDay_71 rfl ?_
  refine WP_getr dX11_sortDay_72 fX11_235 rfl (ly_is hy 0 11 rfl) (rf hr 0 26 8 (by decide)) ?_
  refine WP_iload_n dX11_sortDay_75 rfl ?_
  refine WQ_ialdq (q := so.toInt.toNat) dX11_sortDay_76 (ly_is hy 8 13 rfl) (ly_n hy 8 4 rfl) (by omega) (by omega) (by omega) (pp_get hI4546 (by omega) (by rw [e4550]; omega)) (fun v4562 av4562 bv4562 ev4562 => ?_)
  refine WQ_imulb (3) (99) dX11_sortDay_77 ⟨by omega, by omega⟩ ⟨by omega, by omega⟩ (by decide) (fun v4563 pv4563 av4563 bv4563 cv4563 => ?_)
  have ew : I4546 (ad g 24) (7 * so.toInt + da.toInt).toNat = v4559 := by rw [← cl (x := v4535) (n := (7 * so.toInt + da.toInt).toNat) (by omega)]; exact ev4559
  have ep : (I4546 (ad g 8) so.toInt.toNat).toInt = v4562.toInt := by rw [← cl (x := so) (n := so.toInt.toNat) (by omega), ev4562]
  have hu1 : v4563.toInt = (v4557.toInt % 4) * v4562.toInt := by have q := pv4563; rw [hv4561] at q; exact q
  have hw1 : v4557.toInt % 4 = 0 ∨ v4559.toInt ≠ -1 := by
    by_cases z : v4557.toInt % 4 = 0
    · exact Or.inl z
    · right; rw [← ew]; exact wi_get hI4546 (by rw [e4550]; omega) (by omega)
  rw [ew] at u5 u6
  refine WP_callV3 (k := 11) dX11_sortDay_78 ⟨⟨⟨by decide, by decide⟩, zX11_takes⟩, lX11_464, by decide, rfl, vX11_takes.1, vX11_takes.2⟩ (ly_is hy 0 11 rfl) (sm_takes hy hr hI4546 v4559 da v4563 (by omega) (by omega) (by omega) (by omega) (by omega) (by omega) (tk1 u5 ep (by omega) hu1 hw1 (by omega))) (Nat.le_of_ble_eq_true rfl) ?_
  intro r I4564 J4565 Ra hq
  obtain ⟨⟨hI4564, ec, fiI4564, ejI4564, pI4564⟩, rfl⟩ := hq
  rw [ec]
  clear ec Ra
  have fr4566 : fz 49 g [0, 35, 36, 37, 40, 41, 38] I I4564 := fz_tr fr4549 (fz_mono fiI4564 (by decide))
  rw [ejI4564]
  clear ejI4564 J4565
  have YI4564 : I4564 (ad g 38) (4 + so.toInt).toNat = v4545 := by rw [fz_at fiI4564 38 (by decide) (by decide)]; exact YI4546
  have e4567 : I4564 (ad g 0) 10 = w4530 := by rw [fz_at fiI4564 0 (by decide) (by decide)]; exact e4550
  have e4568 : I4564 (ad g 0) 14 = w4531 := by rw [fz_at fiI4564 0 (by decide) (by decide)]; exact e4551
  have e4569 : I4564 (ad g 0) 68 = w4532 := by rw [fz_at fiI4564 0 (by decide) (by decide)]; exact e4552
  have e4570 : I4564 (ad g 38) 32 = w4528 := by rw [fz_at fiI4564 38 (by decide) (by decide)]; exact e4553
  have e4571 : I4564 (ad g 38) 33 = w4529 := by rw [fz_at fiI4564 38 (by decide) (by decide)]; exact e4554
  have e4572 : I4564 (ad g 24) v4535.toNatClampNeg = v4559 := by rw [fz_at fiI4564 24 (by decide) (by decide)]; exact ev4559
  have e4573 : I4564 (ad g 8) so.toNatClampNeg = v4562 := by rw [fz_at fiI4564 8 (by decide) (by decide)]; exact ev4562
  have e4574 : I4564 (ad g 0) 1 = L := hI4564.1.2
  have b4575 := BT_get hI4564.1.1 0 1 2 (0) (0) (900) (by decide) 1 (by decide) (by decide)
  rw [e4574] at b4575
  refine WP_aload_n dX11_sortDay_81 rfl ?_
  refine WP_aload_n dX11_sortDay_82 rfl ?_
  refine WQ_getim dX11_sortDay_83 fX11_224 rfl (ly_is hy 0 11 rfl) e4568 ?_
  refine WP_iload_n dX11_sortDay_86 rfl ?_
  refine WP_iload dX11_sortDay_87 rfl ?_
  refine WQ_bipush (16) (16) dX11_sortDay_89 rfl rfl (fun v4576 hv4576 => ?_)
  refine WQ_idivk (16) dX11_sortDay_91 hv4576 (by decide) (by omega) (fun v4577 hv4577 => ?_)
  refine WP_aload_n dX11_sortDay_92 rfl ?_
  refine WP_getr dX11_sortDay_93 fX11_235 rfl (ly_is hy 0 11 rfl) (rf hr 0 26 8 (by decide)) ?_
  refine WP_iload_n dX11_sortDay_96 rfl ?_
  refine WQ_ialdq (q := so.toInt.toNat) dX11_sortDay_97 (ly_is hy 8 13 rfl) (ly_n hy 8 4 rfl) (by omega) (by omega) (by omega) (pp_get hI4564 (by omega) (by rw [e4567]; omega)) (fun v4578 av4578 bv4578 ev4578 => ?_)
  refine WQ_imulb (2) (99) dX11_sortDay_98 ⟨by omega, by omega⟩ ⟨by omega, by omega⟩ (by decide) (fun v4579 pv4579 av4579 bv4579 cv4579 => ?_)
  have e14 : I4546 (ad g 0) 14 = w4531 := e4551
  rw [e14] at u6 aq
  have ep2 : (I4546 (ad g 8) so.toInt.toNat).toInt = v4578.toInt := by rw [← fz_at fiI4564 8 (by decide) (by decide), ← cl (x := so) (n := so.toInt.toNat) (by omega), ev4578]
  have hu2 : v4579.toInt = (v4557.toInt / 16) * v4578.toInt := by have q := pv4579; rw [hv4577] at q; exact q
  have hpp : v4562.toInt = v4578.toInt := by omega
  rw [hpp] at hu1
  refine WP_callV3 (k := 11) dX11_sortDay_99 ⟨⟨⟨by decide, by decide⟩, zX11_takes⟩, lX11_464, by decide, rfl, vX11_takes.1, vX11_takes.2⟩ (ly_is hy 0 11 rfl) (sm_takes hy hr hI4564 w4531 da v4579 (by omega) (by omega) (by omega) (by omega) (by omega) (by omega) (tk2 pI4564 u6 (by omega) ep2 (by omega) hu1 hu2 (by omega) (by omega))) (Nat.le_of_ble_eq_true rfl) ?_
  intro r I4580 J4581 Ra hq
  obtain ⟨⟨hI4580, ec, fiI4580, ejI4580, pI4580⟩, rfl⟩ := hq
  rw [ec]
  clear ec Ra
  have fr4582 : fz 49 g [0, 35, 36, 37, 40, 41, 38] I I4580 := fz_tr fr4566 (fz_mono fiI4580 (by decide))
  rw [ejI4580]
  clear ejI4580 J4581
  have YI4580 : I4580 (ad g 38) (4 + so.toInt).toNat = v4545 := by rw [fz_at fiI4580 38 (by decide) (by decide)]; exact YI4564
  have e4583 : I4580 (ad g 0) 10 = w4530 := by rw [fz_at fiI4580 0 (by decide) (by decide)]; exact e4567
  have e4584 : I4580 (ad g 0) 14 = w4531 := by rw [fz_at fiI4580 0 (by decide) (by decide)]; exact e4568
  have e4585 : I4580 (ad g 0) 68 = w4532 := by rw [fz_at fiI4580 0 (by decide) (by decide)]; exact e4569
  have e4586 : I4580 (ad g 38) 32 = w4528 := by rw [fz_at fiI4580 38 (by decide) (by decide)]; exact e4570
  have e4587 : I4580 (ad g 38) 33 = w4529 := by rw [fz_at fiI4580 38 (by decide) (by decide)]; exact e4571
  have e4588 : I4580 (ad g 24) v4535.toNatClampNeg = v4559 := by rw [fz_at fiI4580 24 (by decide) (by decide)]; exact e4572
  have e4589 : I4580 (ad g 8) so.toNatClampNeg = v4578 := by rw [fz_at fiI4580 8 (by decide) (by decide)]; exact ev4578
  have e4590 : I4580 (ad g 0) 1 = L := hI4580.1.2
  have b4591 := BT_get hI4580.1.1 0 1 2 (0) (0) (900) (by decide) 1 (by decide) (by decide)
  rw [e4590] at b4591
  refine WP_aload_n dX11_sortDay_102 rfl ?_
  refine WQ_iconst (0) (0) dX11_sortDay_103 rfl rfl (fun v4592 hv4592 => ?_)
  refine WP_iload_n dX11_sortDay_104 rfl ?_
  refine WQ_iadd dX11_sortDay_105 (by omega) (by omega) (fun v4593 hv4593 => ?_)
  refine WP_iload dX11_sortDay_106 rfl ?_
  refine WP_iload dX11_sortDay_108 rfl ?_
  refine WQ_isub dX11_sortDay_110 (by omega) (by omega) (fun v4594 hv4594 => ?_)
  refine WQ_iast dX11_sortDay_111 (ly_is hy 38 13 rfl) (ly_n hy 38 35 rfl) (by omega) (by omega) (fun I4595 eI4595 => ?_)
  have hI4595 : MP g n L I4595 := by rw [eI4595]; exact (mp_w hy hI4580 (c := 38) (mi_rr hy hI4580.1 (c := 38) (0) (3) (0) (0) (60) (by decide) (Or.inl (by decide)) (by rw [cl (n := v4593.toInt.toNat) (by omega)]; omega) (by decide) (fun _ => ⟨by omega, by omega⟩)) (by decide) (by decide) (Or.inl (by decide)))
  have e4596 : I4595 (ad g 0) 10 = w4530 := by rw [eI4595, pp_ne _ _ (Or.inl (ly_ne hy (by decide) (by decide) (by decide)))]; exact e4583
  have e4597 : I4595 (ad g 0) 14 = w4531 := by rw [eI4595, pp_ne _ _ (Or.inl (ly_ne hy (by decide) (by decide) (by decide)))]; exact e4584
  have e4598 : I4595 (ad g 0) 68 = w4532 := by rw [eI4595, pp_ne _ _ (Or.inl (ly_ne hy (by decide) (by decide) (by decide)))]; exact e4585
  have e4599 : I4595 (ad g 38) 32 = w4528 := by rw [eI4595, pp_ne _ _ (Or.inr (by rw [cl (x := v4593) (n := v4593.toInt.toNat) (by omega)]; omega))]; exact e4586
  have e4600 : I4595 (ad g 38) 33 = w4529 := by rw [eI4595, pp_ne _ _ (Or.inr (by rw [cl (x := v4593) (n := v4593.toInt.toNat) (by omega)]; omega))]; exact e4587
  have e4601 : I4595 (ad g 24) v4535.toNatClampNeg = v4559 := by rw [eI4595, pp_ne _ _ (Or.inl (ly_ne hy (by decide) (by decide) (by decide)))]; exact e4588
  have e4602 : I4595 (ad g 8) so.toNatClampNeg = v4578 := by rw [eI4595, pp_ne _ _ (Or.inl (ly_ne hy (by decide) (by decide) (by decide)))]; exact e4589
  have e4603 : I4595 (ad g 0) 1 = L := by rw [eI4595, pp_ne _ _ (Or.inl (ly_ne hy (by decide) (by decide) (by decide)))]; exact e4590
  have fr4604 : fz 49 g [0, 35, 36, 37, 40, 41, 38] I I4595 := by rw [eI4595]; exact fzm_pp hy fr4582 (by decide) (by decide)
  have YI4595 : I4595 (ad g 38) (4 + so.toInt).toNat = v4545 := by rw [eI4595, pp_ne _ _ (Or.inr (by rw [cl (x := v4593) (n := v4593.toInt.toNat) (by omega)]; omega))]; exact YI4580
  clear eI4595
  refine WP_aload_n dX11_sortDay_112 rfl ?_
  refine WQ_iconst (4) (4) dX11_sortDay_113 rfl rfl (fun v4605 hv4605 => ?_)
  refine WP_iload_n dX11_sortDay_114 rfl ?_
  refine WQ_iadd dX11_sortDay_115 (by omega) (by omega) (fun v4606 hv4606 => ?_)
  refine WP_dup2 dX11_sortDay_116 rfl rfl ?_
  refine WQ_ialdq (q := v4606.toInt.toNat) dX11_sortDay_117 (ly_is hy 38 13 rfl) (ly_n hy 38 35 rfl) (by omega) (by omega) (by omega) (BT_get hI4595.1.1 38 4 8 (0) (0) (5) (by decide) _ (by omega) (by omega)) (fun v4607 av4607 bv4607 zv4607 => ?_)
  have tv4607 : v4607.toInt = v4545.toInt := by rw [← zv4607, cl (x := v4606) (n := (4 + so.toInt).toNat) (by omega), YI4595]
  refine WP_iload dX11_sortDay_118 rfl ?_
  refine WQ_bipush (16) (16) dX11_sortDay_120 rfl rfl (fun v4608 hv4608 => ?_)
  refine WQ_idivk (16) dX11_sortDay_122 hv4608 (by decide) (by omega) (fun v4609 hv4609 => ?_)
  refine WP_iload dX11_sortDay_123 rfl ?_
  refine WQ_iconst (4) (4) dX11_sortDay_125 rfl rfl (fun v4610 hv4610 => ?_)
  refine WQ_idivk (4) dX11_sortDay_126 hv4610 (by decide) (by omega) (fun v4611 hv4611 => ?_)
  refine WQ_iconst (4) (4) dX11_sortDay_127 rfl rfl (fun v4612 hv4612 => ?_)
  refine WQ_iremk (4) dX11_sortDay_128 hv4612 (by decide) (by omega) (fun v4613 hv4613 => ?_)
  have q1 : v4613.toInt = v4557.toInt / 4 % 4 := by omega
  have q2 : v4609.toInt = v4557.toInt / 16 := by omega
  refine WQ_isub dX11_sortDay_129 (by omega) (by omega) (fun v4614 hv4614 => ?_)
  refine WQ_iadd dX11_sortDay_130 (by omega) (by omega) (fun v4615 hv4615 => ?_)
  have fin : 0 ≤ v4615.toInt ∧ v4615.toInt ≤ 5 := by clear u5 u6 aq hw1 au hu1 hu2 k1 k2 ap cp u2 u3 u4 af as; omega
  clear q1 q2 u5 u6 aq hw1 au hu1 hu2 k1 k2 ap cp u2 u3 u4 af as k5 k6
  refine WQ_iast dX11_sortDay_131 (ly_is hy 38 13 rfl) (ly_n hy 38 35 rfl) (by omega) (by omega) (fun I4616 eI4616 => ?_)
  have hI4616 : MP g n L I4616 := by rw [eI4616]; exact (mp_w hy hI4595 (c := 38) (mi_rr hy hI4595.1 (c := 38) (4) (7) (0) (0) (5) (by decide) (Or.inl (by decide)) (by rw [cl (n := v4606.toInt.toNat) (by omega)]; omega) (by decide) (fun _ => ⟨by omega, by omega⟩)) (by decide) (by decide) (Or.inl (by decide)))
  have e4617 : I4616 (ad g 0) 10 = w4530 := by rw [eI4616, pp_ne _ _ (Or.inl (ly_ne hy (by decide) (by decide) (by decide)))]; exact e4596
  have e4618 : I4616 (ad g 0) 14 = w4531 := by rw [eI4616, pp_ne _ _ (Or.inl (ly_ne hy (by decide) (by decide) (by decide)))]; exact e4597
  have e4619 : I4616 (ad g 0) 68 = w4532 := by rw [eI4616, pp_ne _ _ (Or.inl (ly_ne hy (by decide) (by decide) (by decide)))]; exact e4598
  have e4620 : I4616 (ad g 38) 32 = w4528 := by rw [eI4616, pp_ne _ _ (Or.inr (by rw [cl (x := v4606) (n := v4606.toInt.toNat) (by omega)]; omega))]; exact e4599
  have e4621 : I4616 (ad g 38) 33 = w4529 := by rw [eI4616, pp_ne _ _ (Or.inr (by rw [cl (x := v4606) (n := v4606.toInt.toNat) (by omega)]; omega))]; exact e4600
  have e4622 : I4616 (ad g 24) v4535.toNatClampNeg = v4559 := by rw [eI4616, pp_ne _ _ (Or.inl (ly_ne hy (by decide) (by decide) (by decide)))]; exact e4601
  have e4623 : I4616 (ad g 8) so.toNatClampNeg = v4578 := by rw [eI4616, pp_ne _ _ (Or.inl (ly_ne hy (by decide) (by decide) (by decide)))]; exact e4602
  have e4624 : I4616 (ad g 0) 1 = L := by rw [eI4616, pp_ne _ _ (Or.inl (ly_ne hy (by decide) (by decide) (by decide)))]; exact e4603
  have fr4625 : fz 49 g [0, 35, 36, 37, 40, 41, 38] I I4616 := by rw [eI4616]; exact fzm_pp hy fr4604 (by decide) (by decide)
  clear eI4616
  refine WP_aload_n dX11_sortDay_132 rfl ?_
  refine WQ_bipush (8) (8) dX11_sortDay_133 rfl rfl (fun v4626 hv4626 => ?_)
  refine WP_iload_n dX11_sortDay_135 rfl ?_
  refine WQ_iadd dX11_sortDay_136 (by omega) (by omega) (fun v4627 hv4627 => ?_)
  refine WP_dup2 dX11_sortDay_137 rfl rfl ?_
  refine WQ_ialdu dX11_sortDay_138 (ly_is hy 38 13 rfl) (ly_n hy 38 35 rfl) (by omega) (by omega) (fun v4628 => ?_)
  refine WP_iload dX11_sortDay_139 rfl ?_
  refine WP_aload_n dX11_sortDay_141 rfl ?_
  refine WP_getr dX11_sortDay_142 fX11_235 rfl (ly_is hy 0 11 rfl) (rf hr 0 26 8 (by decide)) ?_
  refine WP_iload_n dX11_sortDay_145 rfl ?_
  refine WQ_ialdq (q := so.toInt.toNat) dX11_sortDay_146 (ly_is hy 8 13 rfl) (ly_n hy 8 4 rfl) (by omega) (by omega) (by omega) (pp_get hI4616 (by omega) (by rw [e4617]; omega)) (fun v4629 av4629 bv4629 ev4629 => ?_)
  refine WQ_imulb (60) (99) dX11_sortDay_147 ⟨by omega, by omega⟩ ⟨by omega, by omega⟩ (by decide) (fun v4630 pv4630 av4630 bv4630 cv4630 => ?_)
  refine WQ_iaddu dX11_sortDay_148 (fun v4631 => ?_)
  refine WQ_iast dX11_sortDay_149 (ly_is hy 38 13 rfl) (ly_n hy 38 35 rfl) (by omega) (by omega) (fun I4632 eI4632 => ?_)
  have hI4632 : MP g n L I4632 := by rw [eI4632]; exact (mp_w hy hI4616 (c := 38) (mi_rr hy hI4616.1 (c := 38) (8) (11) (0) (0) (0) (by decide) (Or.inl (by decide)) (by rw [cl (n := v4627.toInt.toNat) (by omega)]; omega) (by decide) (fun h => absurd h (by decide))) (by decide) (by decide) (Or.inl (by decide)))
  have e4633 : I4632 (ad g 0) 10 = w4530 := by rw [eI4632, pp_ne _ _ (Or.inl (ly_ne hy (by decide) (by decide) (by decide)))]; exact e4617
  have e4634 : I4632 (ad g 0) 14 = w4531 := by rw [eI4632, pp_ne _ _ (Or.inl (ly_ne hy (by decide) (by decide) (by decide)))]; exact e4618
  have e4635 : I4632 (ad g 0) 68 = w4532 := by rw [eI4632, pp_ne _ _ (Or.inl (ly_ne hy (by decide) (by decide) (by decide)))]; exact e4619
  have e4636 : I4632 (ad g 38) 32 = w4528 := by rw [eI4632, pp_ne _ _ (Or.inr (by rw [cl (x := v4627) (n := v4627.toInt.toNat) (by omega)]; omega))]; exact e4620
  have e4637 : I4632 (ad g 38) 33 = w4529 := by rw [eI4632, pp_ne _ _ (Or.inr (by rw [cl (x := v4627) (n := v4627.toInt.toNat) (by omega)]; omega))]; exact e4621
  have e4638 : I4632 (ad g 24) v4535.toNatClampNeg = v4559 := by rw [eI4632, pp_ne _ _ (Or.inl (ly_ne hy (by decide) (by decide) (by decide)))]; exact e4622
  have e4639 : I4632 (ad g 8) so.toNatClampNeg = v4629 := by rw [eI4632, pp_ne _ _ (Or.inl (ly_ne hy (by decide) (by decide) (by decide)))]; exact ev4629
  have e4640 : I4632 (ad g 0) 1 = L := by rw [eI4632, pp_ne _ _ (Or.inl (ly_ne hy (by decide) (by decide) (by decide)))]; exact e4624
  have fr4641 : fz 49 g [0, 35, 36, 37, 40, 41, 38] I I4632 := by rw [eI4632]; exact fzm_pp hy fr4625 (by decide) (by decide)
  clear eI4632
  refine WP_aload_n dX11_sortDay_150 rfl ?_
  refine WQ_bipush (16) (16) dX11_sortDay_151 rfl rfl (fun v4642 hv4642 => ?_)
  refine WP_iload_n dX11_sortDay_153 rfl ?_
  refine WQ_iadd dX11_sortDay_154 (by omega) (by omega) (fun v4643 hv4643 => ?_)
  refine WP_dup2 dX11_sortDay_155 rfl rfl ?_
  refine WQ_ialdu dX11_sortDay_156 (ly_is hy 38 13 rfl) (ly_n hy 38 35 rfl) (by omega) (by omega) (fun v4644 => ?_)
  refine WP_iload dX11_sortDay_157 rfl ?_
  refine WQ_iconst (4) (4) dX11_sortDay_159 rfl rfl (fun v4645 hv4645 => ?_)
  refine WQ_iremk (4) dX11_sortDay_160 hv4645 (by decide) (by omega) (fun v4646 hv4646 => ?_)
  refine WP_iload dX11_sortDay_161 rfl ?_
  refine WQ_iconst (4) (4) dX11_sortDay_163 rfl rfl (fun v4647 hv4647 => ?_)
  refine WQ_idivk (4) dX11_sortDay_164 hv4647 (by decide) (by omega) (fun v4648 hv4648 => ?_)
  refine WQ_iconst (4) (4) dX11_sortDay_165 rfl rfl (fun v4649 hv4649 => ?_)
  refine WQ_iremk (4) dX11_sortDay_166 hv4649 (by decide) (by omega) (fun v4650 hv4650 => ?_)
  refine WQ_iadd dX11_sortDay_167 (by omega) (by omega) (fun v4651 hv4651 => ?_)
  refine WP_aload_n dX11_sortDay_168 rfl ?_
  refine WP_getr dX11_sortDay_169 fX11_267 rfl (ly_is hy 0 11 rfl) (rf hr 0 44 26 (by decide)) ?_
  refine WP_iload dX11_sortDay_172 rfl ?_
  refine WQ_iald dX11_sortDay_174 (ly_is hy 26 13 rfl) (ly_n hy 26 28 rfl) (by omega) (by omega) (fun q hq => BT_get hI4632.1.1 26 0 28 (0) (0) (99) (by decide) q (Nat.zero_le _) hq) (fun v4652 av4652 bv4652 ev4652 => ?_)
  refine WQ_imulb (6) (99) dX11_sortDay_175 ⟨by omega, by omega⟩ ⟨by omega, by omega⟩ (by decide) (fun v4653 pv4653 av4653 bv4653 cv4653 => ?_)
  refine WP_aload_n dX11_sortDay_176 rfl ?_
  refine WP_getr dX11_sortDay_177 fX11_235 rfl (ly_is hy 0 11 rfl) (rf hr 0 26 8 (by decide)) ?_
  refine WP_iload_n dX11_sortDay_180 rfl ?_
  refine WQ_ialdq (q := so.toInt.toNat) dX11_sortDay_181 (ly_is hy 8 13 rfl) (ly_n hy 8 4 rfl) (by omega) (by omega) (by omega) (pp_get hI4632 (by omega) (by rw [e4633]; omega)) (fun v4654 av4654 bv4654 ev4654 => ?_)
  refine WQ_imulb (594) (99) dX11_sortDay_182 ⟨by omega, by omega⟩ ⟨by omega, by omega⟩ (by decide) (fun v4655 pv4655 av4655 bv4655 cv4655 => ?_)
  refine WQ_iaddu dX11_sortDay_183 (fun v4656 => ?_)
  refine WQ_iast dX11_sortDay_184 (ly_is hy 38 13 rfl) (ly_n hy 38 35 rfl) (by omega) (by omega) (fun I4657 eI4657 => ?_)
  have hI4657 : MP g n L I4657 := by rw [eI4657]; exact (mp_w hy hI4632 (c := 38) (mi_rr hy hI4632.1 (c := 38) (16) (19) (0) (0) (0) (by decide) (Or.inl (by decide)) (by rw [cl (n := v4643.toInt.toNat) (by omega)]; omega) (by decide) (fun h => absurd h (by decide))) (by decide) (by decide) (Or.inl (by decide)))
  have e4658 : I4657 (ad g 0) 10 = w4530 := by rw [eI4657, pp_ne _ _ (Or.inl (ly_ne hy (by decide) (by decide) (by decide)))]; exact e4633
  have e4659 : I4657 (ad g 0) 14 = w4531 := by rw [eI4657, pp_ne _ _ (Or.inl (ly_ne hy (by decide) (by decide) (by decide)))]; exact e4634
  have e4660 : I4657 (ad g 0) 68 = w4532 := by rw [eI4657, pp_ne _ _ (Or.inl (ly_ne hy (by decide) (by decide) (by decide)))]; exact e4635
  have e4661 : I4657 (ad g 38) 32 = w4528 := by rw [eI4657, pp_ne _ _ (Or.inr (by rw [cl (x := v4643) (n := v4643.toInt.toNat) (by omega)]; omega))]; exact e4636
  have e4662 : I4657 (ad g 38) 33 = w4529 := by rw [eI4657, pp_ne _ _ (Or.inr (by rw [cl (x := v4643) (n := v4643.toInt.toNat) (by omega)]; omega))]; exact e4637
  have e4663 : I4657 (ad g 24) v4535.toNatClampNeg = v4559 := by rw [eI4657, pp_ne _ _ (Or.inl (ly_ne hy (by decide) (by decide) (by decide)))]; exact e4638
  have e4664 : I4657 (ad g 8) so.toNatClampNeg = v4654 := by rw [eI4657, pp_ne _ _ (Or.inl (ly_ne hy (by decide) (by decide) (by decide)))]; exact ev4654
  have e4665 : I4657 (ad g 0) 1 = L := by rw [eI4657, pp_ne _ _ (Or.inl (ly_ne hy (by decide) (by decide) (by decide)))]; exact e4640
  have e4666 : I4657 (ad g 26) v4535.toNatClampNeg = v4652 := by rw [eI4657, pp_ne _ _ (Or.inl (ly_ne hy (by decide) (by decide) (by decide)))]; exact ev4652
  have fr4667 : fz 49 g [0, 35, 36, 37, 40, 41, 38] I I4657 := by rw [eI4657]; exact fzm_pp hy fr4641 (by decide) (by decide)
  clear eI4657
  refine WP_aload_n dX11_sortDay_185 rfl ?_
  refine WQ_bipush (34) (34) dX11_sortDay_186 rfl rfl (fun v4668 hv4668 => ?_)
  refine WP_dup2 dX11_sortDay_188 rfl rfl ?_
  obtain ⟨w4670, ew4670⟩ : ∃ w : Int32, I4657 (ad g 38) 34 = w := ⟨_, rfl⟩
  refine WQ_ialdm (z := 34) dX11_sortDay_189 (ly_is hy 38 13 rfl) (ly_n hy 38 35 rfl) hv4668 (by decide) ew4670 ?_
  refine WP_iload dX11_sortDay_190 rfl ?_
  refine WQ_iconst (4) (4) dX11_sortDay_192 rfl rfl (fun v4671 hv4671 => ?_)
  refine WQ_iremk (4) dX11_sortDay_193 hv4671 (by decide) (by omega) (fun v4672 hv4672 => ?_)
  refine WP_iload dX11_sortDay_194 rfl ?_
  refine WQ_bipush (16) (16) dX11_sortDay_196 rfl rfl (fun v4673 hv4673 => ?_)
  refine WQ_idivk (16) dX11_sortDay_198 hv4673 (by decide) (by omega) (fun v4674 hv4674 => ?_)
  refine WQ_iadd dX11_sortDay_199 (by omega) (by omega) (fun v4675 hv4675 => ?_)
  refine WP_aload_n dX11_sortDay_200 rfl ?_
  refine WP_getr dX11_sortDay_201 fX11_235 rfl (ly_is hy 0 11 rfl) (rf hr 0 26 8 (by decide)) ?_
  refine WP_iload_n dX11_sortDay_204 rfl ?_
  refine WQ_ialdq (q := so.toInt.toNat) dX11_sortDay_205 (ly_is hy 8 13 rfl) (ly_n hy 8 4 rfl) (by omega) (by omega) (by omega) (pp_get hI4657 (by omega) (by rw [e4658]; omega)) (fun v4676 av4676 bv4676 ev4676 => ?_)
  refine WQ_imulb (5) (99) dX11_sortDay_206 ⟨by omega, by omega⟩ ⟨by omega, by omega⟩ (by decide) (fun v4677 pv4677 av4677 bv4677 cv4677 => ?_)
  refine WQ_iaddu dX11_sortDay_207 (fun v4678 => ?_)
  refine WQ_iast dX11_sortDay_208 (ly_is hy 38 13 rfl) (ly_n hy 38 35 rfl) (by omega) (by omega) (fun I4679 fI4679 => ?_)
  have eI4679 := fI4679
  rw [cl (x := v4668) (n := 34) (by omega)] at eI4679
  clear fI4679
  have hI4679 : MP g n L I4679 := by rw [eI4679]; exact (mp_w hy hI4657 (c := 38) (mi_f0 hy hI4657.1 (c := 38) (by decide) (Or.inl (by decide)) (by decide)) (by decide) (by decide) (Or.inl (by decide)))
  have e4680 : I4679 (ad g 0) 10 = w4530 := by rw [eI4679, pp_ne _ _ (Or.inl (ly_ne hy (by decide) (by decide) (by decide)))]; exact e4658
  have e4681 : I4679 (ad g 0) 14 = w4531 := by rw [eI4679, pp_ne _ _ (Or.inl (ly_ne hy (by decide) (by decide) (by decide)))]; exact e4659
  have e4682 : I4679 (ad g 0) 68 = w4532 := by rw [eI4679, pp_ne _ _ (Or.inl (ly_ne hy (by decide) (by decide) (by decide)))]; exact e4660
  have e4683 : I4679 (ad g 38) 32 = w4528 := by rw [eI4679, pp_ne _ _ (Or.inr (by decide))]; exact e4661
  have e4684 : I4679 (ad g 38) 33 = w4529 := by rw [eI4679, pp_ne _ _ (Or.inr (by decide))]; exact e4662
  have e4685 : I4679 (ad g 24) v4535.toNatClampNeg = v4559 := by rw [eI4679, pp_ne _ _ (Or.inl (ly_ne hy (by decide) (by decide) (by decide)))]; exact e4663
  have e4686 : I4679 (ad g 8) so.toNatClampNeg = v4676 := by rw [eI4679, pp_ne _ _ (Or.inl (ly_ne hy (by decide) (by decide) (by decide)))]; exact ev4676
  have e4687 : I4679 (ad g 0) 1 = L := by rw [eI4679, pp_ne _ _ (Or.inl (ly_ne hy (by decide) (by decide) (by decide)))]; exact e4665
  have e4688 : I4679 (ad g 26) v4535.toNatClampNeg = v4652 := by rw [eI4679, pp_ne _ _ (Or.inl (ly_ne hy (by decide) (by decide) (by decide)))]; exact e4666
  have e4689 : I4679 (ad g 38) 34 = v4678 := by rw [eI4679, pp_self]
  have fr4690 : fz 49 g [0, 35, 36, 37, 40, 41, 38] I I4679 := by rw [eI4679]; exact fzm_pp hy fr4667 (by decide) (by decide)
  clear eI4679
  refine WP_aload_n dX11_sortDay_209 rfl ?_
  refine WQ_iconst (0) (0) dX11_sortDay_210 rfl rfl (fun v4691 hv4691 => ?_)
  refine WP_iload_n dX11_sortDay_211 rfl ?_
  refine WQ_iadd dX11_sortDay_212 (by omega) (by omega) (fun v4692 hv4692 => ?_)
  refine WQ_ialdr dX11_sortDay_213 (ly_is hy 38 13 rfl) (ly_n hy 38 35 rfl) (by omega) (by omega) (a := 0) (b := 4) (by omega) (by omega) (fun q hq1 hq2 => BT_get hI4679.1.1 38 0 4 (0) (0) (60) (by decide) q hq1 hq2) (fun v4693 av4693 bv4693 => ?_)
  refine WQ_i2l dX11_sortDay_214 (fun l4694 hl4694 => ?_)
  refine WP_aload_n dX11_sortDay_215 rfl ?_
  refine WP_getr dX11_sortDay_216 fX11_235 rfl (ly_is hy 0 11 rfl) (rf hr 0 26 8 (by decide)) ?_
  refine WP_iload_n dX11_sortDay_219 rfl ?_
  refine WQ_ialdq (q := so.toInt.toNat) dX11_sortDay_220 (ly_is hy 8 13 rfl) (ly_n hy 8 4 rfl) (by omega) (by omega) (by omega) (pp_get hI4679 (by omega) (by rw [e4680]; omega)) (fun v4695 av4695 bv4695 ev4695 => ?_)
  refine WQ_i2l dX11_sortDay_221 (fun l4696 hl4696 => ?_)
  refine WQ_lmul dX11_sortDay_222 (fun l4697 => ?_)
  exact WP_lret dX11_sortDay_223 rfl ⟨⟨hI4679, rfl, fr4690, rfl, ⟨trivial, (by rw [e4683, ew4528] <;> exact (eq32 _ _).mpr (by omega)), (by rw [e4684, ew4529] <;> exact (eq32 _ _).mpr (by omega)), (by rw [e4680, ew4530] <;> exact (eq32 _ _).mpr (by omega)), (by rw [e4681, ew4531] <;> exact (eq32 _ _).mpr (by omega)), (by rw [e4682, ew4532] <;> exact (eq32 _ _).mpr (by omega))⟩⟩, _, rfl⟩
set_option maxHeartbeats 4000000 in
set_option maxRecDepth 100000 in
theorem sm_sortDay_39 {g : GG} {n : Int} {L : Int32} (hy : Ly g)  {I : pI} {J : pJ} {R : pR} (hr : Rf g R) (hI : MP g n L I) (so : Int32) (da : Int32) (so_lo : 0 ≤ so.toInt) (so_hi : so.toInt ≤ 3) (da_lo : 0 ≤ da.toInt) (da_hi : da.toInt ≤ 6) (hb : so.toInt < (I (ad g 0) 10).toInt) : SP g mX11_sortDay [.ref (ad g 0), .ref (ad g 39), .int so, .int da] I J R (fun r I' J' R' => (MP g n L I' ∧ R' = R ∧ fz 49 g [0, 35, 36, 37, 40, 41, 39] I I' ∧ J' = J ∧ True ∧ I' (ad g 39) 32 = I (ad g 39) 32 ∧ I' (ad g 39) 33 = I (ad g 39) 33 ∧ I' (ad g 0) 10 = I (ad g 0) 10 ∧ I' (ad g 0) 14 = I (ad g 0) 14 ∧ I' (ad g 0) 68 = I (ad g 0) 68) ∧ ∃ v : Int64, r = some (.long v)) := by
  refine SP_of ⟨by decide, rfl⟩ (Nat.le_of_ble_eq_true rfl) ?_
  have e4698 : I (ad g 0) 1 = L := hI.1.2
  have b4699 := BT_get hI.1.1 0 1 2 (0) (0) (900) (by decide) 1 (by decide) (by decide)
  rw [e4698] at b4699
  have fr0 : fz 49 g [0, 35, 36, 37, 40, 41, 39] I I := fz_rf
  obtain ⟨w4700, ew4700⟩ : ∃ w : Int32, I (ad g 39) 32 = w := ⟨_, rfl⟩
  have bw4700 := BT_get hI.1.1 39 32 33 (0) (23760) (700000) (by decide) 32 (by decide) (by decide)
  rw [ew4700] at bw4700
  obtain ⟨w4701, ew4701⟩ : ∃ w : Int32, I (ad g 39) 33 = w := ⟨_, rfl⟩
  have bw4701 := BT_get hI.1.1 39 33 34 (0) (1) (30) (by decide) 33 (by decide) (by decide)
  rw [ew4701] at bw4701
  obtain ⟨w4702, ew4702⟩ : ∃ w : Int32, I (ad g 0) 10 = w := ⟨_, rfl⟩
  have bw4702 := BT_get hI.1.1 0 10 11 (0) (0) (4) (by decide) 10 (by decide) (by decide)
  rw [ew4702] at bw4702
  obtain ⟨w4703, ew4703⟩ : ∃ w : Int32, I (ad g 0) 14 = w := ⟨_, rfl⟩
  have bw4703 := BT_get hI.1.1 0 14 15 (-1) (0) (2) (by decide) 14 (by decide) (by decide)
  rw [ew4703] at bw4703
  obtain ⟨w4704, ew4704⟩ : ∃ w : Int32, I (ad g 0) 68 = w := ⟨_, rfl⟩
  rw [ew4702] at hb
  refine WQ_bipush (7) (7) dX11_sortDay_0 rfl rfl (fun v4705 hv4705 => ?_)
  refine WP_iload_n dX11_sortDay_2 rfl ?_
  refine WQ_imulK (7) dX11_sortDay_3 hv4705 (by omega) (by omega) (fun v4706 hv4706 => ?_)
  refine WP_iload_n dX11_sortDay_4 rfl ?_
  refine WQ_iadd dX11_sortDay_5 (by omega) (by omega) (fun v4707 hv4707 => ?_)
  refine WP_istore (ls' := [(0, _), (1, _), (2, _), (3, _), (4, _)]) dX11_sortDay_6 (by decide) rfl ?_
  refine WP_aload_n dX11_sortDay_8 rfl ?_
  refine WP_iload_n dX11_sortDay_9 rfl ?_
  refine WP_iload_n dX11_sortDay_10 rfl ?_
  refine WP_aload_n dX11_sortDay_11 rfl ?_
  refine WQ_iconst (0) (0) dX11_sortDay_12 rfl rfl (fun v4708 hv4708 => ?_)
  refine WP_iload_n dX11_sortDay_13 rfl ?_
  refine WQ_iadd dX11_sortDay_14 (by omega) (by omega) (fun v4709 hv4709 => ?_)
  refine WQ_ialdr dX11_sortDay_15 (ly_is hy 39 13 rfl) (ly_n hy 39 35 rfl) (by omega) (by omega) (a := 0) (b := 4) (by omega) (by omega) (fun q hq1 hq2 => BT_get hI.1.1 39 0 4 (0) (0) (60) (by decide) q hq1 hq2) (fun v4710 av4710 bv4710 => ?_)
  refine WP_callV3 (k := 11) dX11_sortDay_16 ⟨⟨⟨by decide, by decide⟩, zX11_earned⟩, lX11_426, by decide, rfl, vX11_earned.1, vX11_earned.2⟩ (ly_is hy 0 11 rfl) (sm_earned hy hr hI so da v4710 (by omega) (by omega) (by omega) (by omega) (by omega) (by omega)) (Nat.le_of_ble_eq_true rfl) ?_
  intro r Ia Ja Ra hq
  obtain ⟨⟨ea, eb, ec⟩, v4711, rfl, av4711, bv4711⟩ := hq
  show WP _ _ _ _ (.int _ :: _) _ _ _ _
  rw [ea, eb, ec]
  clear ea eb ec Ia Ja Ra
  refine WP_istore (ls' := [(0, _), (1, _), (2, _), (3, _), (4, _), (5, _)]) dX11_sortDay_19 (by decide) rfl ?_
  refine WP_aload_n dX11_sortDay_21 rfl ?_
  refine WP_iload_n dX11_sortDay_22 rfl ?_
  refine WP_iload_n dX11_sortDay_23 rfl ?_
  refine WP_aload_n dX11_sortDay_24 rfl ?_
  refine WP_aload_n dX11_sortDay_25 rfl ?_
  refine WQ_bipush (28) (28) dX11_sortDay_26 rfl rfl (fun v4712 hv4712 => ?_)
  refine WP_iload_n dX11_sortDay_28 rfl ?_
  refine WQ_iadd dX11_sortDay_29 (by omega) (by omega) (fun v4713 hv4713 => ?_)
  refine WQ_ialdu dX11_sortDay_30 (ly_is hy 39 13 rfl) (ly_n hy 39 35 rfl) (by omega) (by omega) (fun v4714 => ?_)
  refine WP_iload_n dX11_sortDay_31 rfl ?_
  refine WP_iload_n dX11_sortDay_32 rfl ?_
  refine WP_iload dX11_sortDay_33 rfl ?_
  refine WP_aload_n dX11_sortDay_35 rfl ?_
  refine WQ_iconst (4) (4) dX11_sortDay_36 rfl rfl (fun v4715 hv4715 => ?_)
  refine WP_iload_n dX11_sortDay_37 rfl ?_
  refine WQ_iadd dX11_sortDay_38 (by omega) (by omega) (fun v4716 hv4716 => ?_)
  refine WQ_ialdq (q := v4716.toInt.toNat) dX11_sortDay_39 (ly_is hy 39 13 rfl) (ly_n hy 39 35 rfl) (by omega) (by omega) (by omega) (BT_get hI.1.1 39 4 8 (0) (0) (5) (by decide) _ (by omega) (by omega)) (fun v4717 av4717 bv4717 zv4717 => ?_)
  have yv4717 : I (ad g 39) (4 + so.toInt).toNat = v4717 := by rw [← zv4717, cl (x := v4716) (n := (4 + so.toInt).toNat) (by omega)]
  refine WP_callV5 (k := 11) dX11_sortDay_40 ⟨⟨⟨by decide, by decide⟩, zX11_actOf⟩, lX11_457, by decide, rfl, vX11_actOf.1, vX11_actOf.2⟩ (ly_is hy 0 11 rfl) (sm_actOf hy hr hI v4714 so da v4711 v4717  (by omega) (by omega) (by omega) (by omega) (by omega) (by omega) (by omega) (by omega)) (Nat.le_of_ble_eq_true rfl) ?_
  intro r I4718 J4719 Ra hq
  obtain ⟨⟨hI4718, ec, fiI4718, ejI4718, ⟨pI4718, sI4718_0_10, sI4718_0_14, sI4718_0_68⟩⟩, v4720, rfl, av4720, bv4720, cv4720⟩ := hq
  show WP _ _ _ _ (.int _ :: _) _ _ _ _
  rw [ec]
  clear ec Ra
  have fr4721 : fz 49 g [0, 35, 36, 37, 40, 41, 39] I I4718 := fz_tr fr0 (fz_mono fiI4718 (by decide))
  rw [ejI4718]
  clear ejI4718 J4719
  have YI4718 : I4718 (ad g 39) (4 + so.toInt).toNat = v4717 := by rw [fz_at fiI4718 39 (by decide) (by decide)]; exact yv4717
  have e4722 : I4718 (ad g 0) 10 = w4702 := by rw [sI4718_0_10]; exact ew4702
  have e4723 : I4718 (ad g 0) 14 = w4703 := by rw [sI4718_0_14]; exact ew4703
  have e4724 : I4718 (ad g 0) 68 = w4704 := by rw [sI4718_0_68]; exact ew4704
  have e4725 : I4718 (ad g 39) 32 = w4700 := by rw [fz_at fiI4718 39 (by decide) (by decide)]; exact ew4700
  have e4726 : I4718 (ad g 39) 33 = w4701 := by rw [fz_at fiI4718 39 (by decide) (by decide)]; exact ew4701
  have e4727 : I4718 (ad g 0) 1 = L := hI4718.1.2
  have b4728 := BT_get hI4718.1.1 0 1 2 (0) (0) (900) (by decide) 1 (by decide) (by decide)
  rw [e4727] at b4728
  have am := cv4720
  rw [← fz_at fiI4718 22 (by decide) (by decide), ← fz_at fiI4718 24 (by decide) (by decide), ← fz_at fiI4718 25 (by decide) (by decide), ← sI4718_0_14] at am
  refine WP_callV3 (k := 11) dX11_sortDay_43 ⟨⟨⟨by decide, by decide⟩, zX11_cutAct⟩, lX11_461, by decide, rfl, vX11_cutAct.1, vX11_cutAct.2⟩ (ly_is hy 0 11 rfl) (sm_cutAct hy hr hI4718 so da v4720 (by omega) (by omega) (by omega) (by omega) (by omega) (by omega) (by rw [e4722]; omega)) (Nat.le_of_ble_eq_true rfl) ?_
  intro r Ia Ja Ra hq
  obtain ⟨⟨ea, eb, ec⟩, v4729, rfl, av4729, bv4729, cv4729⟩ := hq
  show WP _ _ _ _ (.int _ :: _) _ _ _ _
  rw [ea, eb, ec]
  clear ea eb ec Ia Ja Ra
  refine WP_istore (ls' := [(0, _), (1, _), (2, _), (3, _), (4, _), (5, _), (6, _)]) dX11_sortDay_46 (by decide) rfl ?_
  refine WP_aload_n dX11_sortDay_48 rfl ?_
  refine WP_iload_n dX11_sortDay_49 rfl ?_
  refine WP_iload_n dX11_sortDay_50 rfl ?_
  refine WP_iload dX11_sortDay_51 rfl ?_
  refine WP_callV3 (k := 11) dX11_sortDay_53 ⟨⟨⟨by decide, by decide⟩, zX11_paysFor⟩, lX11_405, by decide, rfl, vX11_paysFor.1, vX11_paysFor.2⟩ (ly_is hy 0 11 rfl) (sm_paysx hy hr hI4718 so da v4729 (by omega) (by omega) (by omega) (by omega) (by omega) (by omega)) (Nat.le_of_ble_eq_true rfl) ?_
  intro r Ia Ja Ra hq
  obtain ⟨⟨ea, eb, ec⟩, v4730, rfl, av4730, bv4730, cv4730⟩ := hq
  show WP _ _ _ _ (.int _ :: _) _ _ _ _
  rw [ea, eb, ec]
  clear ea eb ec Ia Ja Ra
  have cu := cv4729
  unfold AM AOKm at am
  obtain ⟨a0, a47, af, as, ap, au, aq⟩ := am
  unfold CUT at cu
  obtain ⟨u0, u1, u2, u3, u4, u5, u6⟩ := cu
  have b24 := BT_get hI4718.1.1 24 0 28 (-1) (0) (2) (by decide) (7 * so.toInt + da.toInt).toNat (Nat.zero_le _) (by omega)
  obtain ⟨e3, he3⟩ : ∃ z : Int, CA (I4718 (ad g 22)) (I4718 (ad g 24) (7 * so.toInt + da.toInt).toNat).toInt da.toInt = z := ⟨_, rfl⟩
  obtain ⟨e4, he4⟩ : ∃ z : Int, CA (I4718 (ad g 22)) (I4718 (ad g 0) 14).toInt da.toInt = z := ⟨_, rfl⟩
  have n3 : 0 ≤ e3 := by rw [← he3]; exact ca_nn hI4718 (by omega) (by omega) (by omega) (by omega)
  have n4 : 0 ≤ e4 := by rw [← he4]; exact ca_nn hI4718 (by rw [e4723]; omega) (by rw [e4723]; omega) (by omega) (by omega)
  have cp := cv4730
  rw [he3, he4] at cp ap
  have k1 : (v4729.toInt % 4) * e3 ≤ (v4720.toInt % 4) * e3 := Int.mul_le_mul_of_nonneg_right (by omega) n3
  have k2 : (v4729.toInt / 16) * e4 ≤ (v4720.toInt / 16) * e4 := Int.mul_le_mul_of_nonneg_right (by omega) n4
  have kp : v4730.toInt ≤ v4711.toInt := by omega
  have k5 : v4729.toInt / 4 % 4 ≤ v4717.toInt := by omega
  have k6 : v4717.toInt - v4729.toInt / 4 % 4 + v4729.toInt / 16 ≤ 5 := by omega
  refine WP_istore (ls' := [(0, _), (1, _), (2, _), (3, _), (4, _), (5, _), (6, _), (7, _)]) dX11_sortDay_56 (by decide) rfl ?_
  refine WP_aload_n dX11_sortDay_58 rfl ?_
  refine WP_aload_n dX11_sortDay_59 rfl ?_
  refine WP_getr dX11_sortDay_60 fX11_261 rfl (ly_is hy 0 11 rfl) (rf hr 0 42 24 (by decide)) ?_
  refine WP_iload dX11_sortDay_63 rfl ?_
  refine WQ_iald dX11_sortDay_65 (ly_is hy 24 13 rfl) (ly_n hy 24 28 rfl) (by omega) (by omega) (fun q hq => BT_get hI4718.1.1 24 0 28 (-1) (0) (2) (by decide) q (Nat.zero_le _) hq) (fun v4731 av4731 bv4731 ev4731 => ?_)
  refine WP_iload_n dX11_sortDay_66 rfl ?_
  refine WP_iload dX11_sortDay_67 rfl ?_
  refine WQ_iconst (4) (4) dX11_sortDay_69 rfl rfl (fun v4732 hv4732 => ?_)
  refine WQ_iremk (4) dX11_sortDay_70 hv4732 (by decide) (by omega) (fun v4733 hv4733 => ?_)
  refine WP_aload_n dX11_sortDay_71 rfl ?_
  refine WP_getr dX11_sortDay_72 fX11_235 rfl (ly_is hy 0 11 rfl) (rf hr 0 26 8 (by decide)) ?_
  refine WP_iload_n dX11_sortDay_75 rfl ?_
  refine WQ_ialdq (q := so.toInt.toNat) dX11_sortDay_76 (ly_is hy 8 13 rfl) (ly_n hy 8 4 rfl) (by omega) (by omega) (by omega) (pp_get hI4718 (by omega) (by rw [e4722]; omega)) (fun v4734 av4734 bv4734 ev4734 => ?_)
  refine WQ_imulb (3) (99) dX11_sortDay_77 ⟨by omega, by omega⟩ ⟨by omega, by omega⟩ (by decide) (fun v4735 pv4735 av4735 bv4735 cv4735 => ?_)
  have ew : I4718 (ad g 24) (7 * so.toInt + da.toInt).toNat = v4731 := by rw [← cl (x := v4707) (n := (7 * so.toInt + da.toInt).toNat) (by omega)]; exact ev4731
  have ep : (I4718 (ad g 8) so.toInt.toNat).toInt = v4734.toInt := by rw [← cl (x := so) (n := so.toInt.toNat) (by omega), ev4734]
  have hu1 : v4735.toInt = (v4729.toInt % 4) * v4734.toInt := by have q := pv4735; rw [hv4733] at q; exact q
  have hw1 : v4729.toInt % 4 = 0 ∨ v4731.toInt ≠ -1 := by
    by_cases z : v4729.toInt % 4 = 0
    · exact Or.inl z
    · right; rw [← ew]; exact wi_get hI4718 (by rw [e4722]; omega) (by omega)
  rw [ew] at u5 u6
  refine WP_callV3 (k := 11) dX11_sortDay_78 ⟨⟨⟨by decide, by decide⟩, zX11_takes⟩, lX11_464, by decide, rfl, vX11_takes.1, vX11_takes.2⟩ (ly_is hy 0 11 rfl) (sm_takes hy hr hI4718 v4731 da v4735 (by omega) (by omega) (by omega) (by omega) (by omega) (by omega) (tk1 u5 ep (by omega) hu1 hw1 (by omega))) (Nat.le_of_ble_eq_true rfl) ?_
  intro r I4736 J4737 Ra hq
  obtain ⟨⟨hI4736, ec, fiI4736, ejI4736, pI4736⟩, rfl⟩ := hq
  rw [ec]
  clear ec Ra
  have fr4738 : fz 49 g [0, 35, 36, 37, 40, 41, 39] I I4736 := fz_tr fr4721 (fz_mono fiI4736 (by decide))
  rw [ejI4736]
  clear ejI4736 J4737
  have YI4736 : I4736 (ad g 39) (4 + so.toInt).toNat = v4717 := by rw [fz_at fiI4736 39 (by decide) (by decide)]; exact YI4718
  have e4739 : I4736 (ad g 0) 10 = w4702 := by rw [fz_at fiI4736 0 (by decide) (by decide)]; exact e4722
  have e4740 : I4736 (ad g 0) 14 = w4703 := by rw [fz_at fiI4736 0 (by decide) (by decide)]; exact e4723
  have e4741 : I4736 (ad g 0) 68 = w4704 := by rw [fz_at fiI4736 0 (by decide) (by decide)]; exact e4724
  have e4742 : I4736 (ad g 39) 32 = w4700 := by rw [fz_at fiI4736 39 (by decide) (by decide)]; exact e4725
  have e4743 : I4736 (ad g 39) 33 = w4701 := by rw [fz_at fiI4736 39 (by decide) (by decide)]; exact e4726
  have e4744 : I4736 (ad g 24) v4707.toNatClampNeg = v4731 := by rw [fz_at fiI4736 24 (by decide) (by decide)]; exact ev4731
  have e4745 : I4736 (ad g 8) so.toNatClampNeg = v4734 := by rw [fz_at fiI4736 8 (by decide) (by decide)]; exact ev4734
  have e4746 : I4736 (ad g 0) 1 = L := hI4736.1.2
  have b4747 := BT_get hI4736.1.1 0 1 2 (0) (0) (900) (by decide) 1 (by decide) (by decide)
  rw [e4746] at b4747
  refine WP_aload_n dX11_sortDay_81 rfl ?_
  refine WP_aload_n dX11_sortDay_82 rfl ?_
  refine WQ_getim dX11_sortDay_83 fX11_224 rfl (ly_is hy 0 11 rfl) e4740 ?_
  refine WP_iload_n dX11_sortDay_86 rfl ?_
  refine WP_iload dX11_sortDay_87 rfl ?_
  refine WQ_bipush (16) (16) dX11_sortDay_89 rfl rfl (fun v4748 hv4748 => ?_)
  refine WQ_idivk (16) dX11_sortDay_91 hv4748 (by decide) (by omega) (fun v4749 hv4749 => ?_)
  refine WP_aload_n dX11_sortDay_92 rfl ?_
  refine WP_getr dX11_sortDay_93 fX11_235 rfl (ly_is hy 0 11 rfl) (rf hr 0 26 8 (by decide)) ?_
  refine WP_iload_n dX11_sortDay_96 rfl ?_
  refine WQ_ialdq (q := so.toInt.toNat) dX11_sortDay_97 (ly_is hy 8 13 rfl) (ly_n hy 8 4 rfl) (by omega) (by omega) (by omega) (pp_get hI4736 (by omega) (by rw [e4739]; omega)) (fun v4750 av4750 bv4750 ev4750 => ?_)
  refine WQ_imulb (2) (99) dX11_sortDay_98 ⟨by omega, by omega⟩ ⟨by omega, by omega⟩ (by decide) (fun v4751 pv4751 av4751 bv4751 cv4751 => ?_)
  have e14 : I4718 (ad g 0) 14 = w4703 := e4723
  rw [e14] at u6 aq
  have ep2 : (I4718 (ad g 8) so.toInt.toNat).toInt = v4750.toInt := by rw [← fz_at fiI4736 8 (by decide) (by decide), ← cl (x := so) (n := so.toInt.toNat) (by omega), ev4750]
  have hu2 : v4751.toInt = (v4729.toInt / 16) * v4750.toInt := by have q := pv4751; rw [hv4749] at q; exact q
  have hpp : v4734.toInt = v4750.toInt := by omega
  rw [hpp] at hu1
  refine WP_callV3 (k := 11) dX11_sortDay_99 ⟨⟨⟨by decide, by decide⟩, zX11_takes⟩, lX11_464, by decide, rfl, vX11_takes.1, vX11_takes.2⟩ (ly_is hy 0 11 rfl) (sm_takes hy hr hI4736 w4703 da v4751 (by omega) (by omega) (by omega) (by omega) (by omega) (by omega) (tk2 pI4736 u6 (by omega) ep2 (by omega) hu1 hu2 (by omega) (by omega))) (Nat.le_of_ble_eq_true rfl) ?_
  intro r I4752 J4753 Ra hq
  obtain ⟨⟨hI4752, ec, fiI4752, ejI4752, pI4752⟩, rfl⟩ := hq
  rw [ec]
  clear ec Ra
  have fr4754 : fz 49 g [0, 35, 36, 37, 40, 41, 39] I I4752 := fz_tr fr4738 (fz_mono fiI4752 (by decide))
  rw [ejI4752]
  clear ejI4752 J4753
  have YI4752 : I4752 (ad g 39) (4 + so.toInt).toNat = v4717 := by rw [fz_at fiI4752 39 (by decide) (by decide)]; exact YI4736
  have e4755 : I4752 (ad g 0) 10 = w4702 := by rw [fz_at fiI4752 0 (by decide) (by decide)]; exact e4739
  have e4756 : I4752 (ad g 0) 14 = w4703 := by rw [fz_at fiI4752 0 (by decide) (by decide)]; exact e4740
  have e4757 : I4752 (ad g 0) 68 = w4704 := by rw [fz_at fiI4752 0 (by decide) (by decide)]; exact e4741
  have e4758 : I4752 (ad g 39) 32 = w4700 := by rw [fz_at fiI4752 39 (by decide) (by decide)]; exact e4742
  have e4759 : I4752 (ad g 39) 33 = w4701 := by rw [fz_at fiI4752 39 (by decide) (by decide)]; exact e4743
  have e4760 : I4752 (ad g 24) v4707.toNatClampNeg = v4731 := by rw [fz_at fiI4752 24 (by decide) (by decide)]; exact e4744
  have e4761 : I4752 (ad g 8) so.toNatClampNeg = v4750 := by rw [fz_at fiI4752 8 (by decide) (by decide)]; exact ev4750
  have e4762 : I4752 (ad g 0) 1 = L := hI4752.1.2
  have b4763 := BT_get hI4752.1.1 0 1 2 (0) (0) (900) (by decide) 1 (by decide) (by decide)
  rw [e4762] at b4763
  refine WP_aload_n dX11_sortDay_102 rfl ?_
  refine WQ_iconst (0) (0) dX11_sortDay_103 rfl rfl (fun v4764 hv4764 => ?_)
  refine WP_iload_n dX11_sortDay_104 rfl ?_
  refine WQ_iadd dX11_sortDay_105 (by omega) (by omega) (fun v4765 hv4765 => ?_)
  refine WP_iload dX11_sortDay_106 rfl ?_
  refine WP_iload dX11_sortDay_108 rfl ?_
  refine WQ_isub dX11_sortDay_110 (by omega) (by omega) (fun v4766 hv4766 => ?_)
  refine WQ_iast dX11_sortDay_111 (ly_is hy 39 13 rfl) (ly_n hy 39 35 rfl) (by omega) (by omega) (fun I4767 eI4767 => ?_)
  have hI4767 : MP g n L I4767 := by rw [eI4767]; exact (mp_w hy hI4752 (c := 39) (mi_rr hy hI4752.1 (c := 39) (0) (3) (0) (0) (60) (by decide) (Or.inl (by decide)) (by rw [cl (n := v4765.toInt.toNat) (by omega)]; omega) (by decide) (fun _ => ⟨by omega, by omega⟩)) (by decide) (by decide) (Or.inl (by decide)))
  have e4768 : I4767 (ad g 0) 10 = w4702 := by rw [eI4767, pp_ne _ _ (Or.inl (ly_ne hy (by decide) (by decide) (by decide)))]; exact e4755
  have e4769 : I4767 (ad g 0) 14 = w4703 := by rw [eI4767, pp_ne _ _ (Or.inl (ly_ne hy (by decide) (by decide) (by decide)))]; exact e4756
  have e4770 : I4767 (ad g 0) 68 = w4704 := by rw [eI4767, pp_ne _ _ (Or.inl (ly_ne hy (by decide) (by decide) (by decide)))]; exact e4757
  have e4771 : I4767 (ad g 39) 32 = w4700 := by rw [eI4767, pp_ne _ _ (Or.inr (by rw [cl (x := v4765) (n := v4765.toInt.toNat) (by omega)]; omega))]; exact e4758
  have e4772 : I4767 (ad g 39) 33 = w4701 := by rw [eI4767, pp_ne _ _ (Or.inr (by rw [cl (x := v4765) (n := v4765.toInt.toNat) (by omega)]; omega))]; exact e4759
  have e4773 : I4767 (ad g 24) v4707.toNatClampNeg = v4731 := by rw [eI4767, pp_ne _ _ (Or.inl (ly_ne hy (by decide) (by decide) (by decide)))]; exact e4760
  have e4774 : I4767 (ad g 8) so.toNatClampNeg = v4750 := by rw [eI4767, pp_ne _ _ (Or.inl (ly_ne hy (by decide) (by decide) (by decide)))]; exact e4761
  have e4775 : I4767 (ad g 0) 1 = L := by rw [eI4767, pp_ne _ _ (Or.inl (ly_ne hy (by decide) (by decide) (by decide)))]; exact e4762
  have fr4776 : fz 49 g [0, 35, 36, 37, 40, 41, 39] I I4767 := by rw [eI4767]; exact fzm_pp hy fr4754 (by decide) (by decide)
  have YI4767 : I4767 (ad g 39) (4 + so.toInt).toNat = v4717 := by rw [eI4767, pp_ne _ _ (Or.inr (by rw [cl (x := v4765) (n := v4765.toInt.toNat) (by omega)]; omega))]; exact YI4752
  clear eI4767
  refine WP_aload_n dX11_sortDay_112 rfl ?_
  refine WQ_iconst (4) (4) dX11_sortDay_113 rfl rfl (fun v4777 hv4777 => ?_)
  refine WP_iload_n dX11_sortDay_114 rfl ?_
  refine WQ_iadd dX11_sortDay_115 (by omega) (by omega) (fun v4778 hv4778 => ?_)
  refine WP_dup2 dX11_sortDay_116 rfl rfl ?_
  refine WQ_ialdq (q := v4778.toInt.toNat) dX11_sortDay_117 (ly_is hy 39 13 rfl) (ly_n hy 39 35 rfl) (by omega) (by omega) (by omega) (BT_get hI4767.1.1 39 4 8 (0) (0) (5) (by decide) _ (by omega) (by omega)) (fun v4779 av4779 bv4779 zv4779 => ?_)
  have tv4779 : v4779.toInt = v4717.toInt := by rw [← zv4779, cl (x := v4778) (n := (4 + so.toInt).toNat) (by omega), YI4767]
  refine WP_iload dX11_sortDay_118 rfl ?_
  refine WQ_bipush (16) (16) dX11_sortDay_120 rfl rfl (fun v4780 hv4780 => ?_)
  refine WQ_idivk (16) dX11_sortDay_122 hv4780 (by decide) (by omega) (fun v4781 hv4781 => ?_)
  refine WP_iload dX11_sortDay_123 rfl ?_
  refine WQ_iconst (4) (4) dX11_sortDay_125 rfl rfl (fun v4782 hv4782 => ?_)
  refine WQ_idivk (4) dX11_sortDay_126 hv4782 (by decide) (by omega) (fun v4783 hv4783 => ?_)
  refine WQ_iconst (4) (4) dX11_sortDay_127 rfl rfl (fun v4784 hv4784 => ?_)
  refine WQ_iremk (4) dX11_sortDay_128 hv4784 (by decide) (by omega) (fun v4785 hv4785 => ?_)
  have q1 : v4785.toInt = v4729.toInt / 4 % 4 := by omega
  have q2 : v4781.toInt = v4729.toInt / 16 := by omega
  refine WQ_isub dX11_sortDay_129 (by omega) (by omega) (fun v4786 hv4786 => ?_)
  refine WQ_iadd dX11_sortDay_130 (by omega) (by omega) (fun v4787 hv4787 => ?_)
  have fin : 0 ≤ v4787.toInt ∧ v4787.toInt ≤ 5 := by clear u5 u6 aq hw1 au hu1 hu2 k1 k2 ap cp u2 u3 u4 af as; omega
  clear q1 q2 u5 u6 aq hw1 au hu1 hu2 k1 k2 ap cp u2 u3 u4 af as k5 k6
  refine WQ_iast dX11_sortDay_131 (ly_is hy 39 13 rfl) (ly_n hy 39 35 rfl) (by omega) (by omega) (fun I4788 eI4788 => ?_)
  have hI4788 : MP g n L I4788 := by rw [eI4788]; exact (mp_w hy hI4767 (c := 39) (mi_rr hy hI4767.1 (c := 39) (4) (7) (0) (0) (5) (by decide) (Or.inl (by decide)) (by rw [cl (n := v4778.toInt.toNat) (by omega)]; omega) (by decide) (fun _ => ⟨by omega, by omega⟩)) (by decide) (by decide) (Or.inl (by decide)))
  have e4789 : I4788 (ad g 0) 10 = w4702 := by rw [eI4788, pp_ne _ _ (Or.inl (ly_ne hy (by decide) (by decide) (by decide)))]; exact e4768
  have e4790 : I4788 (ad g 0) 14 = w4703 := by rw [eI4788, pp_ne _ _ (Or.inl (ly_ne hy (by decide) (by decide) (by decide)))]; exact e4769
  have e4791 : I4788 (ad g 0) 68 = w4704 := by rw [eI4788, pp_ne _ _ (Or.inl (ly_ne hy (by decide) (by decide) (by decide)))]; exact e4770
  have e4792 : I4788 (ad g 39) 32 = w4700 := by rw [eI4788, pp_ne _ _ (Or.inr (by rw [cl (x := v4778) (n := v4778.toInt.toNat) (by omega)]; omega))]; exact e4771
  have e4793 : I4788 (ad g 39) 33 = w4701 := by rw [eI4788, pp_ne _ _ (Or.inr (by rw [cl (x := v4778) (n := v4778.toInt.toNat) (by omega)]; omega))]; exact e4772
  have e4794 : I4788 (ad g 24) v4707.toNatClampNeg = v4731 := by rw [eI4788, pp_ne _ _ (Or.inl (ly_ne hy (by decide) (by decide) (by decide)))]; exact e4773
  have e4795 : I4788 (ad g 8) so.toNatClampNeg = v4750 := by rw [eI4788, pp_ne _ _ (Or.inl (ly_ne hy (by decide) (by decide) (by decide)))]; exact e4774
  have e4796 : I4788 (ad g 0) 1 = L := by rw [eI4788, pp_ne _ _ (Or.inl (ly_ne hy (by decide) (by decide) (by decide)))]; exact e4775
  have fr4797 : fz 49 g [0, 35, 36, 37, 40, 41, 39] I I4788 := by rw [eI4788]; exact fzm_pp hy fr4776 (by decide) (by decide)
  clear eI4788
  refine WP_aload_n dX11_sortDay_132 rfl ?_
  refine WQ_bipush (8) (8) dX11_sortDay_133 rfl rfl (fun v4798 hv4798 => ?_)
  refine WP_iload_n dX11_sortDay_135 rfl ?_
  refine WQ_iadd dX11_sortDay_136 (by omega) (by omega) (fun v4799 hv4799 => ?_)
  refine WP_dup2 dX11_sortDay_137 rfl rfl ?_
  refine WQ_ialdu dX11_sortDay_138 (ly_is hy 39 13 rfl) (ly_n hy 39 35 rfl) (by omega) (by omega) (fun v4800 => ?_)
  refine WP_iload dX11_sortDay_139 rfl ?_
  refine WP_aload_n dX11_sortDay_141 rfl ?_
  refine WP_getr dX11_sortDay_142 fX11_235 rfl (ly_is hy 0 11 rfl) (rf hr 0 26 8 (by decide)) ?_
  refine WP_iload_n dX11_sortDay_145 rfl ?_
  refine WQ_ialdq (q := so.toInt.toNat) dX11_sortDay_146 (ly_is hy 8 13 rfl) (ly_n hy 8 4 rfl) (by omega) (by omega) (by omega) (pp_get hI4788 (by omega) (by rw [e4789]; omega)) (fun v4801 av4801 bv4801 ev4801 => ?_)
  refine WQ_imulb (60) (99) dX11_sortDay_147 ⟨by omega, by omega⟩ ⟨by omega, by omega⟩ (by decide) (fun v4802 pv4802 av4802 bv4802 cv4802 => ?_)
  refine WQ_iaddu dX11_sortDay_148 (fun v4803 => ?_)
  refine WQ_iast dX11_sortDay_149 (ly_is hy 39 13 rfl) (ly_n hy 39 35 rfl) (by omega) (by omega) (fun I4804 eI4804 => ?_)
  have hI4804 : MP g n L I4804 := by rw [eI4804]; exact (mp_w hy hI4788 (c := 39) (mi_rr hy hI4788.1 (c := 39) (8) (11) (0) (0) (0) (by decide) (Or.inl (by decide)) (by rw [cl (n := v4799.toInt.toNat) (by omega)]; omega) (by decide) (fun h => absurd h (by decide))) (by decide) (by decide) (Or.inl (by decide)))
  have e4805 : I4804 (ad g 0) 10 = w4702 := by rw [eI4804, pp_ne _ _ (Or.inl (ly_ne hy (by decide) (by decide) (by decide)))]; exact e4789
  have e4806 : I4804 (ad g 0) 14 = w4703 := by rw [eI4804, pp_ne _ _ (Or.inl (ly_ne hy (by decide) (by decide) (by decide)))]; exact e4790
  have e4807 : I4804 (ad g 0) 68 = w4704 := by rw [eI4804, pp_ne _ _ (Or.inl (ly_ne hy (by decide) (by decide) (by decide)))]; exact e4791
  have e4808 : I4804 (ad g 39) 32 = w4700 := by rw [eI4804, pp_ne _ _ (Or.inr (by rw [cl (x := v4799) (n := v4799.toInt.toNat) (by omega)]; omega))]; exact e4792
  have e4809 : I4804 (ad g 39) 33 = w4701 := by rw [eI4804, pp_ne _ _ (Or.inr (by rw [cl (x := v4799) (n := v4799.toInt.toNat) (by omega)]; omega))]; exact e4793
  have e4810 : I4804 (ad g 24) v4707.toNatClampNeg = v4731 := by rw [eI4804, pp_ne _ _ (Or.inl (ly_ne hy (by decide) (by decide) (by decide)))]; exact e4794
  have e4811 : I4804 (ad g 8) so.toNatClampNeg = v4801 := by rw [eI4804, pp_ne _ _ (Or.inl (ly_ne hy (by decide) (by decide) (by decide)))]; exact ev4801
  have e4812 : I4804 (ad g 0) 1 = L := by rw [eI4804, pp_ne _ _ (Or.inl (ly_ne hy (by decide) (by decide) (by decide)))]; exact e4796
  have fr4813 : fz 49 g [0, 35, 36, 37, 40, 41, 39] I I4804 := by rw [eI4804]; exact fzm_pp hy fr4797 (by decide) (by decide)
  clear eI4804
  refine WP_aload_n dX11_sortDay_150 rfl ?_
  refine WQ_bipush (16) (16) dX11_sortDay_151 rfl rfl (fun v4814 hv4814 => ?_)
  refine WP_iload_n dX11_sortDay_153 rfl ?_
  refine WQ_iadd dX11_sortDay_154 (by omega) (by omega) (fun v4815 hv4815 => ?_)
  refine WP_dup2 dX11_sortDay_155 rfl rfl ?_
  refine WQ_ialdu dX11_sortDay_156 (ly_is hy 39 13 rfl) (ly_n hy 39 35 rfl) (by omega) (by omega) (fun v4816 => ?_)
  refine WP_iload dX11_sortDay_157 rfl ?_
  refine WQ_iconst (4) (4) dX11_sortDay_159 rfl rfl (fun v4817 hv4817 => ?_)
  refine WQ_iremk (4) dX11_sortDay_160 hv4817 (by decide) (by omega) (fun v4818 hv4818 => ?_)
  refine WP_iload dX11_sortDay_161 rfl ?_
  refine WQ_iconst (4) (4) dX11_sortDay_163 rfl rfl (fun v4819 hv4819 => ?_)
  refine WQ_idivk (4) dX11_sortDay_164 hv4819 (by decide) (by omega) (fun v4820 hv4820 => ?_)
  refine WQ_iconst (4) (4) dX11_sortDay_165 rfl rfl (fun v4821 hv4821 => ?_)
  refine WQ_iremk (4) dX11_sortDay_166 hv4821 (by decide) (by omega) (fun v4822 hv4822 => ?_)
  refine WQ_iadd dX11_sortDay_167 (by omega) (by omega) (fun v4823 hv4823 => ?_)
  refine WP_aload_n dX11_sortDay_168 rfl ?_
  refine WP_getr dX11_sortDay_169 fX11_267 rfl (ly_is hy 0 11 rfl) (rf hr 0 44 26 (by decide)) ?_
  refine WP_iload dX11_sortDay_172 rfl ?_
  refine WQ_iald dX11_sortDay_174 (ly_is hy 26 13 rfl) (ly_n hy 26 28 rfl) (by omega) (by omega) (fun q hq => BT_get hI4804.1.1 26 0 28 (0) (0) (99) (by decide) q (Nat.zero_le _) hq) (fun v4824 av4824 bv4824 ev4824 => ?_)
  refine WQ_imulb (6) (99) dX11_sortDay_175 ⟨by omega, by omega⟩ ⟨by omega, by omega⟩ (by decide) (fun v4825 pv4825 av4825 bv4825 cv4825 => ?_)
  refine WP_aload_n dX11_sortDay_176 rfl ?_
  refine WP_getr dX11_sortDay_177 fX11_235 rfl (ly_is hy 0 11 rfl) (rf hr 0 26 8 (by decide)) ?_
  refine WP_iload_n dX11_sortDay_180 rfl ?_
  refine WQ_ialdq (q := so.toInt.toNat) dX11_sortDay_181 (ly_is hy 8 13 rfl) (ly_n hy 8 4 rfl) (by omega) (by omega) (by omega) (pp_get hI4804 (by omega) (by rw [e4805]; omega)) (fun v4826 av4826 bv4826 ev4826 => ?_)
  refine WQ_imulb (594) (99) dX11_sortDay_182 ⟨by omega, by omega⟩ ⟨by omega, by omega⟩ (by decide) (fun v4827 pv4827 av4827 bv4827 cv4827 => ?_)
  refine WQ_iaddu dX11_sortDay_183 (fun v4828 => ?_)
  refine WQ_iast dX11_sortDay_184 (ly_is hy 39 13 rfl) (ly_n hy 39 35 rfl) (by omega) (by omega) (fun I4829 eI4829 => ?_)
  have hI4829 : MP g n L I4829 := by rw [eI4829]; exact (mp_w hy hI4804 (c := 39) (mi_rr hy hI4804.1 (c := 39) (16) (19) (0) (0) (0) (by decide) (Or.inl (by decide)) (by rw [cl (n := v4815.toInt.toNat) (by omega)]; omega) (by decide) (fun h => absurd h (by decide))) (by decide) (by decide) (Or.inl (by decide)))
  have e4830 : I4829 (ad g 0) 10 = w4702 := by rw [eI4829, pp_ne _ _ (Or.inl (ly_ne hy (by decide) (by decide) (by decide)))]; exact e4805
  have e4831 : I4829 (ad g 0) 14 = w4703 := by rw [eI4829, pp_ne _ _ (Or.inl (ly_ne hy (by decide) (by decide) (by decide)))]; exact e4806
  have e4832 : I4829 (ad g 0) 68 = w4704 := by rw [eI4829, pp_ne _ _ (Or.inl (ly_ne hy (by decide) (by decide) (by decide)))]; exact e4807
  have e4833 : I4829 (ad g 39) 32 = w4700 := by rw [eI4829, pp_ne _ _ (Or.inr (by rw [cl (x := v4815) (n := v4815.toInt.toNat) (by omega)]; omega))]; exact e4808
  have e4834 : I4829 (ad g 39) 33 = w4701 := by rw [eI4829, pp_ne _ _ (Or.inr (by rw [cl (x := v4815) (n := v4815.toInt.toNat) (by omega)]; omega))]; exact e4809
  have e4835 : I4829 (ad g 24) v4707.toNatClampNeg = v4731 := by rw [eI4829, pp_ne _ _ (Or.inl (ly_ne hy (by decide) (by decide) (by decide)))]; exact e4810
  have e4836 : I4829 (ad g 8) so.toNatClampNeg = v4826 := by rw [eI4829, pp_ne _ _ (Or.inl (ly_ne hy (by decide) (by decide) (by decide)))]; exact ev4826
  have e4837 : I4829 (ad g 0) 1 = L := by rw [eI4829, pp_ne _ _ (Or.inl (ly_ne hy (by decide) (by decide) (by decide)))]; exact e4812
  have e4838 : I4829 (ad g 26) v4707.toNatClampNeg = v4824 := by rw [eI4829, pp_ne _ _ (Or.inl (ly_ne hy (by decide) (by decide) (by decide)))]; exact ev4824
  have fr4839 : fz 49 g [0, 35, 36, 37, 40, 41, 39] I I4829 := by rw [eI4829]; exact fzm_pp hy fr4813 (by decide) (by decide)
  clear eI4829
  refine WP_aload_n dX11_sortDay_185 rfl ?_
  refine WQ_bipush (34) (34) dX11_sortDay_186 rfl rfl (fun v4840 hv4840 => ?_)
  refine WP_dup2 dX11_sortDay_188 rfl rfl ?_
  obtain ⟨w4842, ew4842⟩ : ∃ w : Int32, I4829 (ad g 39) 34 = w := ⟨_, rfl⟩
  refine WQ_ialdm (z := 34) dX11_sortDay_189 (ly_is hy 39 13 rfl) (ly_n hy 39 35 rfl) hv4840 (by decide) ew4842 ?_
  refine WP_iload dX11_sortDay_190 rfl ?_
  refine WQ_iconst (4) (4) dX11_sortDay_192 rfl rfl (fun v4843 hv4843 => ?_)
  refine WQ_iremk (4) dX11_sortDay_193 hv4843 (by decide) (by omega) (fun v4844 hv4844 => ?_)
  refine WP_iload dX11_sortDay_194 rfl ?_
  refine WQ_bipush (16) (16) dX11_sortDay_196 rfl rfl (fun v4845 hv4845 => ?_)
  refine WQ_idivk (16) dX11_sortDay_198 hv4845 (by decide) (by omega) (fun v4846 hv4846 => ?_)
  refine WQ_iadd dX11_sortDay_199 (by omega) (by omega) (fun v4847 hv4847 => ?_)
  refine WP_aload_n dX11_sortDay_200 rfl ?_
  refine WP_getr dX11_sortDay_201 fX11_235 rfl (ly_is hy 0 11 rfl) (rf hr 0 26 8 (by decide)) ?_
  refine WP_iload_n dX11_sortDay_204 rfl ?_
  refine WQ_ialdq (q := so.toInt.toNat) dX11_sortDay_205 (ly_is hy 8 13 rfl) (ly_n hy 8 4 rfl) (by omega) (by omega) (by omega) (pp_get hI4829 (by omega) (by rw [e4830]; omega)) (fun v4848 av4848 bv4848 ev4848 => ?_)
  refine WQ_imulb (5) (99) dX11_sortDay_206 ⟨by omega, by omega⟩ ⟨by omega, by omega⟩ (by decide) (fun v4849 pv4849 av4849 bv4849 cv4849 => ?_)
  refine WQ_iaddu dX11_sortDay_207 (fun v4850 => ?_)
  refine WQ_iast dX11_sortDay_208 (ly_is hy 39 13 rfl) (ly_n hy 39 35 rfl) (by omega) (by omega) (fun I4851 fI4851 => ?_)
  have eI4851 := fI4851
  rw [cl (x := v4840) (n := 34) (by omega)] at eI4851
  clear fI4851
  have hI4851 : MP g n L I4851 := by rw [eI4851]; exact (mp_w hy hI4829 (c := 39) (mi_f0 hy hI4829.1 (c := 39) (by decide) (Or.inl (by decide)) (by decide)) (by decide) (by decide) (Or.inl (by decide)))
  have e4852 : I4851 (ad g 0) 10 = w4702 := by rw [eI4851, pp_ne _ _ (Or.inl (ly_ne hy (by decide) (by decide) (by decide)))]; exact e4830
  have e4853 : I4851 (ad g 0) 14 = w4703 := by rw [eI4851, pp_ne _ _ (Or.inl (ly_ne hy (by decide) (by decide) (by decide)))]; exact e4831
  have e4854 : I4851 (ad g 0) 68 = w4704 := by rw [eI4851, pp_ne _ _ (Or.inl (ly_ne hy (by decide) (by decide) (by decide)))]; exact e4832
  have e4855 : I4851 (ad g 39) 32 = w4700 := by rw [eI4851, pp_ne _ _ (Or.inr (by decide))]; exact e4833
  have e4856 : I4851 (ad g 39) 33 = w4701 := by rw [eI4851, pp_ne _ _ (Or.inr (by decide))]; exact e4834
  have e4857 : I4851 (ad g 24) v4707.toNatClampNeg = v4731 := by rw [eI4851, pp_ne _ _ (Or.inl (ly_ne hy (by decide) (by decide) (by decide)))]; exact e4835
  have e4858 : I4851 (ad g 8) so.toNatClampNeg = v4848 := by rw [eI4851, pp_ne _ _ (Or.inl (ly_ne hy (by decide) (by decide) (by decide)))]; exact ev4848
  have e4859 : I4851 (ad g 0) 1 = L := by rw [eI4851, pp_ne _ _ (Or.inl (ly_ne hy (by decide) (by decide) (by decide)))]; exact e4837
  have e4860 : I4851 (ad g 26) v4707.toNatClampNeg = v4824 := by rw [eI4851, pp_ne _ _ (Or.inl (ly_ne hy (by decide) (by decide) (by decide)))]; exact e4838
  have e4861 : I4851 (ad g 39) 34 = v4850 := by rw [eI4851, pp_self]
  have fr4862 : fz 49 g [0, 35, 36, 37, 40, 41, 39] I I4851 := by rw [eI4851]; exact fzm_pp hy fr4839 (by decide) (by decide)
  clear eI4851
  refine WP_aload_n dX11_sortDay_209 rfl ?_
  refine WQ_iconst (0) (0) dX11_sortDay_210 rfl rfl (fun v4863 hv4863 => ?_)
  refine WP_iload_n dX11_sortDay_211 rfl ?_
  refine WQ_iadd dX11_sortDay_212 (by omega) (by omega) (fun v4864 hv4864 => ?_)
  refine WQ_ialdr dX11_sortDay_213 (ly_is hy 39 13 rfl) (ly_n hy 39 35 rfl) (by omega) (by omega) (a := 0) (b := 4) (by omega) (by omega) (fun q hq1 hq2 => BT_get hI4851.1.1 39 0 4 (0) (0) (60) (by decide) q hq1 hq2) (fun v4865 av4865 bv4865 => ?_)
  refine WQ_i2l dX11_sortDay_214 (fun l4866 hl4866 => ?_)
  refine WP_aload_n dX11_sortDay_215 rfl ?_
  refine WP_getr dX11_sortDay_216 fX11_235 rfl (ly_is hy 0 11 rfl) (rf hr 0 26 8 (by decide)) ?_
  refine WP_iload_n dX11_sortDay_219 rfl ?_
  refine WQ_ialdq (q := so.toInt.toNat) dX11_sortDay_220 (ly_is hy 8 13 rfl) (ly_n hy 8 4 rfl) (by omega) (by omega) (by omega) (pp_get hI4851 (by omega) (by rw [e4852]; omega)) (fun v4867 av4867 bv4867 ev4867 => ?_)
  refine WQ_i2l dX11_sortDay_221 (fun l4868 hl4868 => ?_)
  refine WQ_lmul dX11_sortDay_222 (fun l4869 => ?_)
  exact WP_lret dX11_sortDay_223 rfl ⟨⟨hI4851, rfl, fr4862, rfl, ⟨trivial, (by rw [e4855, ew4700] <;> exact (eq32 _ _).mpr (by omega)), (by rw [e4856, ew4701] <;> exact (eq32 _ _).mpr (by omega)), (by rw [e4852, ew4702] <;> exact (eq32 _ _).mpr (by omega)), (by rw [e4853, ew4703] <;> exact (eq32 _ _).mpr (by omega)), (by rw [e4854, ew4704] <;> exact (eq32 _ _).mpr (by omega))⟩⟩, _, rfl⟩
