set_option maxHeartbeats 4000000 in
set_option maxRecDepth 100000 in
theorem sm_nightOfx_38 {g : GG} {n : Int} {L : Int32} (hy : Ly g)  {I : pI} {J : pJ} {R : pR} (hr : Rf g R) (hI : MP g n L I) (k : Int32) (da : Int32) (k_lo : 0 ≤ k.toInt) (k_hi : k.toInt ≤ 3) (da_lo : 0 ≤ da.toInt) (da_hi : da.toInt ≤ 6) (hn : 0 ≤ n ∧ n ≤ 40000) (hb : (I (ad g 38) 32).toInt ≤ 23760 * n + 0 - 5940) : SP g mX11_nightOf [.ref (ad g 0), .ref (ad g 38), .int k, .int da] I J R (fun r I' J' R' => (MP g n L I' ∧ R' = R ∧ fz 49 g [38] I I' ∧ fz 49 g [] J J' ∧ fs g [] I I' ∧ ((I' (ad g 38) 32).toInt ≤ (I (ad g 38) 32).toInt + 5940) ∧ I' (ad g 38) 33 = I (ad g 38) 33 ∧ I' (ad g 0) 10 = I (ad g 0) 10 ∧ I' (ad g 0) 14 = I (ad g 0) 14 ∧ I' (ad g 0) 68 = I (ad g 0) 68 ∧ I' (ad g 38) 28 = I (ad g 38) 28 ∧ I' (ad g 38) 29 = I (ad g 38) 29 ∧ I' (ad g 38) 30 = I (ad g 38) 30 ∧ I' (ad g 38) 31 = I (ad g 38) 31) ∧ r = none) := by
  refine SP_of ⟨by decide, rfl⟩ (Nat.le_of_ble_eq_true rfl) ?_
  have e5476 : I (ad g 0) 1 = L := hI.1.2
  have b5477 := BT_get hI.1.1 0 1 2 (0) (0) (900) (by decide) 1 (by decide) (by decide)
  rw [e5476] at b5477
  have fr0 : fz 49 g [38] I I := fz_rf
  have frj0 : fz 49 g [] J J := fz_rf
  have frq0 : fs g [] I I := fs_rf
  obtain ⟨w5478, ew5478⟩ : ∃ w : Int32, I (ad g 38) 33 = w := ⟨_, rfl⟩
  have bw5478 := BT_get hI.1.1 38 33 34 (0) (1) (0) (by decide) 33 (by decide) (by decide)
  rw [ew5478] at bw5478
  obtain ⟨w5479, ew5479⟩ : ∃ w : Int32, I (ad g 0) 10 = w := ⟨_, rfl⟩
  have bw5479 := BT_get hI.1.1 0 10 11 (0) (0) (4) (by decide) 10 (by decide) (by decide)
  rw [ew5479] at bw5479
  obtain ⟨w5480, ew5480⟩ : ∃ w : Int32, I (ad g 0) 14 = w := ⟨_, rfl⟩
  have bw5480 := BT_get hI.1.1 0 14 15 (-1) (0) (2) (by decide) 14 (by decide) (by decide)
  rw [ew5480] at bw5480
  obtain ⟨w5481, ew5481⟩ : ∃ w : Int32, I (ad g 0) 68 = w := ⟨_, rfl⟩
  obtain ⟨w5482, ew5482⟩ : ∃ w : Int32, I (ad g 38) 28 = w := ⟨_, rfl⟩
  obtain ⟨w5483, ew5483⟩ : ∃ w : Int32, I (ad g 38) 29 = w := ⟨_, rfl⟩
  obtain ⟨w5484, ew5484⟩ : ∃ w : Int32, I (ad g 38) 30 = w := ⟨_, rfl⟩
  obtain ⟨w5485, ew5485⟩ : ∃ w : Int32, I (ad g 38) 31 = w := ⟨_, rfl⟩
  obtain ⟨w5486, ew5486⟩ : ∃ w : Int32, I (ad g 38) 32 = w := ⟨_, rfl⟩
  have bw5486 := BT_get hI.1.1 38 32 33 (0) (23760) (0) (by decide) 32 (by decide) (by decide)
  rw [ew5486] at bw5486
  rw [ew5486] at hb
  refine WP_aload_n dX11_nightOf_0 rfl ?_
  refine WQ_iconst (0) (0) dX11_nightOf_1 rfl rfl (fun v5487 hv5487 => ?_)
  refine WP_iload_n dX11_nightOf_2 rfl ?_
  refine WQ_iadd dX11_nightOf_3 (by omega) (by omega) (fun v5488 hv5488 => ?_)
  refine WQ_ialdr dX11_nightOf_4 (ly_is hy 38 13 rfl) (ly_n hy 38 35 rfl) (by omega) (by omega) (a := 0) (b := 4) (by omega) (by omega) (fun q hq1 hq2 => BT_get hI.1.1 38 0 4 (0) (0) (60) (by decide) q hq1 hq2) (fun v5489 av5489 bv5489 => ?_)
  refine WP_aload_n dX11_nightOf_5 rfl ?_
  refine WP_iload_n dX11_nightOf_6 rfl ?_
  refine WP_callV1 (k := 11) dX11_nightOf_7 ⟨⟨⟨by decide, by decide⟩, zX11_loses⟩, lX11_414, by decide, rfl, vX11_loses.1, vX11_loses.2⟩ (ly_is hy 0 11 rfl) (sm_loses2 hy hr hI da (by omega) (by omega)) (Nat.le_of_ble_eq_true rfl) ?_
  intro r Ia Ja Ra hq
  obtain ⟨⟨ea, eb, ec⟩, v5490, rfl, av5490, bv5490⟩ := hq
  show WP _ _ _ _ (.int _ :: _) _ _ _ _
  rw [ea, eb, ec]
  clear ea eb ec Ia Ja Ra
  refine WP_callS2 dX11_nightOf_10 ⟨⟨⟨by decide, by decide⟩, zX11_stampsOf⟩, lX11_380, tX11_stampsOf⟩ (sm_stampsOf hy hr hI v5489 v5490 (by omega) (by omega) (by omega) (by omega)) (Nat.le_of_ble_eq_true rfl) ?_
  intro r Ia Ja Ra hq
  obtain ⟨⟨ea, eb, ec⟩, v5491, rfl, av5491, bv5491, cv5491⟩ := hq
  show WP _ _ _ _ (.int _ :: _) _ _ _ _
  rw [ea, eb, ec]
  clear ea eb ec Ia Ja Ra
  refine WP_istore (ls' := [(0, _), (1, _), (2, _), (3, _), (4, _)]) dX11_nightOf_13 (by decide) rfl ?_
  refine WP_aload_n dX11_nightOf_15 rfl ?_
  refine WQ_iconst (0) (0) dX11_nightOf_16 rfl rfl (fun v5492 hv5492 => ?_)
  refine WP_iload_n dX11_nightOf_17 rfl ?_
  refine WQ_iadd dX11_nightOf_18 (by omega) (by omega) (fun v5493 hv5493 => ?_)
  refine WP_aload_n dX11_nightOf_19 rfl ?_
  refine WP_aload_n dX11_nightOf_20 rfl ?_
  refine WQ_iconst (0) (0) dX11_nightOf_21 rfl rfl (fun v5494 hv5494 => ?_)
  refine WP_iload_n dX11_nightOf_22 rfl ?_
  refine WQ_iadd dX11_nightOf_23 (by omega) (by omega) (fun v5495 hv5495 => ?_)
  refine WQ_ialdr dX11_nightOf_24 (ly_is hy 38 13 rfl) (ly_n hy 38 35 rfl) (by omega) (by omega) (a := 0) (b := 4) (by omega) (by omega) (fun q hq1 hq2 => BT_get hI.1.1 38 0 4 (0) (0) (60) (by decide) q hq1 hq2) (fun v5496 av5496 bv5496 => ?_)
  refine WP_aload_n dX11_nightOf_25 rfl ?_
  refine WQ_iconst (4) (4) dX11_nightOf_26 rfl rfl (fun v5497 hv5497 => ?_)
  refine WP_iload_n dX11_nightOf_27 rfl ?_
  refine WQ_iadd dX11_nightOf_28 (by omega) (by omega) (fun v5498 hv5498 => ?_)
  refine WQ_ialdr dX11_nightOf_29 (ly_is hy 38 13 rfl) (ly_n hy 38 35 rfl) (by omega) (by omega) (a := 4) (b := 8) (by omega) (by omega) (fun q hq1 hq2 => BT_get hI.1.1 38 4 8 (0) (0) (5) (by decide) q hq1 hq2) (fun v5499 av5499 bv5499 => ?_)
  refine WP_aload_n dX11_nightOf_30 rfl ?_
  refine WP_iload_n dX11_nightOf_31 rfl ?_
  refine WP_callV1 (k := 11) dX11_nightOf_32 ⟨⟨⟨by decide, by decide⟩, zX11_loses⟩, lX11_414, by decide, rfl, vX11_loses.1, vX11_loses.2⟩ (ly_is hy 0 11 rfl) (sm_loses2 hy hr hI da (by omega) (by omega)) (Nat.le_of_ble_eq_true rfl) ?_
  intro r Ia Ja Ra hq
  obtain ⟨⟨ea, eb, ec⟩, v5500, rfl, av5500, bv5500⟩ := hq
  show WP _ _ _ _ (.int _ :: _) _ _ _ _
  rw [ea, eb, ec]
  clear ea eb ec Ia Ja Ra
  refine WP_callV3 (k := 11) dX11_nightOf_35 ⟨⟨⟨by decide, by decide⟩, zX11_behindNight⟩, lX11_398, by decide, rfl, vX11_behindNight.1, vX11_behindNight.2⟩ (ly_is hy 0 11 rfl) (sm_behindNight hy hr hI v5496 v5499 v5500 (by omega) (by omega) (by omega) (by omega) (by omega) (by omega)) (Nat.le_of_ble_eq_true rfl) ?_
  intro r Ia Ja Ra hq
  obtain ⟨⟨ea, eb, ec⟩, v5501, rfl, av5501, bv5501⟩ := hq
  show WP _ _ _ _ (.int _ :: _) _ _ _ _
  rw [ea, eb, ec]
  clear ea eb ec Ia Ja Ra
  refine WQ_iast dX11_nightOf_38 (ly_is hy 38 13 rfl) (ly_n hy 38 35 rfl) (by omega) (by omega) (fun I5502 eI5502 => ?_)
  have hI5502 : MP g n L I5502 := by rw [eI5502]; exact (mp_w hy hI (c := 38) (mi_rr hy hI.1 (c := 38) (0) (3) (0) (0) (60) (by decide) (Or.inl (by decide)) (by rw [cl (n := v5493.toInt.toNat) (by omega)]; omega) (by decide) (fun _ => ⟨by omega, by omega⟩)) (by decide) (by decide) (Or.inl (by decide)))
  have e5503 : I5502 (ad g 0) 1 = L := by rw [eI5502, pp_ne _ _ (Or.inl (ly_ne hy (by decide) (by decide) (by decide)))]; exact e5476
  have e5504 : I5502 (ad g 38) 33 = w5478 := by rw [eI5502, pp_ne _ _ (Or.inr (by rw [cl (x := v5493) (n := v5493.toInt.toNat) (by omega)]; omega))]; exact ew5478
  have e5505 : I5502 (ad g 0) 10 = w5479 := by rw [eI5502, pp_ne _ _ (Or.inl (ly_ne hy (by decide) (by decide) (by decide)))]; exact ew5479
  have e5506 : I5502 (ad g 0) 14 = w5480 := by rw [eI5502, pp_ne _ _ (Or.inl (ly_ne hy (by decide) (by decide) (by decide)))]; exact ew5480
  have e5507 : I5502 (ad g 0) 68 = w5481 := by rw [eI5502, pp_ne _ _ (Or.inl (ly_ne hy (by decide) (by decide) (by decide)))]; exact ew5481
  have e5508 : I5502 (ad g 38) 28 = w5482 := by rw [eI5502, pp_ne _ _ (Or.inr (by rw [cl (x := v5493) (n := v5493.toInt.toNat) (by omega)]; omega))]; exact ew5482
  have e5509 : I5502 (ad g 38) 29 = w5483 := by rw [eI5502, pp_ne _ _ (Or.inr (by rw [cl (x := v5493) (n := v5493.toInt.toNat) (by omega)]; omega))]; exact ew5483
  have e5510 : I5502 (ad g 38) 30 = w5484 := by rw [eI5502, pp_ne _ _ (Or.inr (by rw [cl (x := v5493) (n := v5493.toInt.toNat) (by omega)]; omega))]; exact ew5484
  have e5511 : I5502 (ad g 38) 31 = w5485 := by rw [eI5502, pp_ne _ _ (Or.inr (by rw [cl (x := v5493) (n := v5493.toInt.toNat) (by omega)]; omega))]; exact ew5485
  have e5512 : I5502 (ad g 38) 32 = w5486 := by rw [eI5502, pp_ne _ _ (Or.inr (by rw [cl (x := v5493) (n := v5493.toInt.toNat) (by omega)]; omega))]; exact ew5486
  have fr5513 : fs g [] I I5502 := by rw [eI5502]; exact fs_ppn hy frq0 (by decide) (by decide)
  have fr5514 : fz 49 g [38] I I5502 := by rw [eI5502]; exact fzm_pp hy fr0 (by decide) (by decide)
  clear eI5502
  refine WP_aload_n dX11_nightOf_39 rfl ?_
  refine WQ_bipush (12) (12) dX11_nightOf_40 rfl rfl (fun v5515 hv5515 => ?_)
  refine WP_iload_n dX11_nightOf_42 rfl ?_
  refine WQ_iadd dX11_nightOf_43 (by omega) (by omega) (fun v5516 hv5516 => ?_)
  refine WP_dup2 dX11_nightOf_44 rfl rfl ?_
  refine WQ_ialdu dX11_nightOf_45 (ly_is hy 38 13 rfl) (ly_n hy 38 35 rfl) (by omega) (by omega) (fun v5517 => ?_)
  refine WP_iload dX11_nightOf_46 rfl ?_
  refine WP_aload_n dX11_nightOf_48 rfl ?_
  refine WP_getr dX11_nightOf_49 fX11_235 rfl (ly_is hy 0 11 rfl) (rf hr 0 26 8 (by decide)) ?_
  refine WP_iload_n dX11_nightOf_52 rfl ?_
  refine WQ_iald dX11_nightOf_53 (ly_is hy 8 13 rfl) (ly_n hy 8 4 rfl) (by omega) (by omega) (fun q hq => BT_get hI5502.1.1 8 0 4 (0) (0) (99) (by decide) q (Nat.zero_le _) hq) (fun v5518 av5518 bv5518 ev5518 => ?_)
  clear ev5518
  refine WQ_imulb (999) (99) dX11_nightOf_54 ⟨by omega, by omega⟩ ⟨by omega, by omega⟩ (by decide) (fun v5519 pv5519 av5519 bv5519 cv5519 => ?_)
  refine WQ_iaddu dX11_nightOf_55 (fun v5520 => ?_)
  refine WQ_iast dX11_nightOf_56 (ly_is hy 38 13 rfl) (ly_n hy 38 35 rfl) (by omega) (by omega) (fun I5521 eI5521 => ?_)
  have hI5521 : MP g n L I5521 := by rw [eI5521]; exact (mp_w hy hI5502 (c := 38) (mi_rr hy hI5502.1 (c := 38) (12) (15) (0) (0) (0) (by decide) (Or.inl (by decide)) (by rw [cl (n := v5516.toInt.toNat) (by omega)]; omega) (by decide) (fun h => absurd h (by decide))) (by decide) (by decide) (Or.inl (by decide)))
  have e5522 : I5521 (ad g 0) 1 = L := by rw [eI5521, pp_ne _ _ (Or.inl (ly_ne hy (by decide) (by decide) (by decide)))]; exact e5503
  have e5523 : I5521 (ad g 38) 33 = w5478 := by rw [eI5521, pp_ne _ _ (Or.inr (by rw [cl (x := v5516) (n := v5516.toInt.toNat) (by omega)]; omega))]; exact e5504
  have e5524 : I5521 (ad g 0) 10 = w5479 := by rw [eI5521, pp_ne _ _ (Or.inl (ly_ne hy (by decide) (by decide) (by decide)))]; exact e5505
  have e5525 : I5521 (ad g 0) 14 = w5480 := by rw [eI5521, pp_ne _ _ (Or.inl (ly_ne hy (by decide) (by decide) (by decide)))]; exact e5506
  have e5526 : I5521 (ad g 0) 68 = w5481 := by rw [eI5521, pp_ne _ _ (Or.inl (ly_ne hy (by decide) (by decide) (by decide)))]; exact e5507
  have e5527 : I5521 (ad g 38) 28 = w5482 := by rw [eI5521, pp_ne _ _ (Or.inr (by rw [cl (x := v5516) (n := v5516.toInt.toNat) (by omega)]; omega))]; exact e5508
  have e5528 : I5521 (ad g 38) 29 = w5483 := by rw [eI5521, pp_ne _ _ (Or.inr (by rw [cl (x := v5516) (n := v5516.toInt.toNat) (by omega)]; omega))]; exact e5509
  have e5529 : I5521 (ad g 38) 30 = w5484 := by rw [eI5521, pp_ne _ _ (Or.inr (by rw [cl (x := v5516) (n := v5516.toInt.toNat) (by omega)]; omega))]; exact e5510
  have e5530 : I5521 (ad g 38) 31 = w5485 := by rw [eI5521, pp_ne _ _ (Or.inr (by rw [cl (x := v5516) (n := v5516.toInt.toNat) (by omega)]; omega))]; exact e5511
  have e5531 : I5521 (ad g 38) 32 = w5486 := by rw [eI5521, pp_ne _ _ (Or.inr (by rw [cl (x := v5516) (n := v5516.toInt.toNat) (by omega)]; omega))]; exact e5512
  have fr5532 : fs g [] I I5521 := by rw [eI5521]; exact fs_ppn hy fr5513 (by decide) (by decide)
  have fr5533 : fz 49 g [38] I I5521 := by rw [eI5521]; exact fzm_pp hy fr5514 (by decide) (by decide)
  clear eI5521
  refine WP_aload_n dX11_nightOf_57 rfl ?_
  refine WQ_bipush (32) (32) dX11_nightOf_58 rfl rfl (fun v5534 hv5534 => ?_)
  refine WP_dup2 dX11_nightOf_60 rfl rfl ?_
  refine WQ_ialdm (z := 32) dX11_nightOf_61 (ly_is hy 38 13 rfl) (ly_n hy 38 35 rfl) hv5534 (by decide) e5531 ?_
  refine WP_iload dX11_nightOf_62 rfl ?_
  refine WP_aload_n dX11_nightOf_64 rfl ?_
  refine WP_getr dX11_nightOf_65 fX11_235 rfl (ly_is hy 0 11 rfl) (rf hr 0 26 8 (by decide)) ?_
  refine WP_iload_n dX11_nightOf_68 rfl ?_
  refine WQ_iald dX11_nightOf_69 (ly_is hy 8 13 rfl) (ly_n hy 8 4 rfl) (by omega) (by omega) (fun q hq => BT_get hI5521.1.1 8 0 4 (0) (0) (99) (by decide) q (Nat.zero_le _) hq) (fun v5536 av5536 bv5536 ev5536 => ?_)
  clear ev5536
  refine WQ_imulb (999) (99) dX11_nightOf_70 ⟨by omega, by omega⟩ ⟨by omega, by omega⟩ (by decide) (fun v5537 pv5537 av5537 bv5537 cv5537 => ?_)
  refine WQ_iadd dX11_nightOf_71 (by omega) (by omega) (fun v5538 hv5538 => ?_)
  refine WQ_iast dX11_nightOf_72 (ly_is hy 38 13 rfl) (ly_n hy 38 35 rfl) (by omega) (by omega) (fun I5539 fI5539 => ?_)
  have eI5539 := fI5539
  rw [cl (x := v5534) (n := 32) (by omega)] at eI5539
  clear fI5539
  have hI5539 : MP g n L I5539 := by rw [eI5539]; exact (mp_w hy hI5521 (c := 38) (mi_f hy hI5521.1 (c := 38) (0) (23760) (0) (by decide) (Or.inl (by decide)) (by decide) (by omega) (by omega)) (by decide) (by decide) (Or.inl (by decide)))
  have e5540 : I5539 (ad g 0) 1 = L := by rw [eI5539, pp_ne _ _ (Or.inl (ly_ne hy (by decide) (by decide) (by decide)))]; exact e5522
  have e5541 : I5539 (ad g 38) 33 = w5478 := by rw [eI5539, pp_ne _ _ (Or.inr (by decide))]; exact e5523
  have e5542 : I5539 (ad g 0) 10 = w5479 := by rw [eI5539, pp_ne _ _ (Or.inl (ly_ne hy (by decide) (by decide) (by decide)))]; exact e5524
  have e5543 : I5539 (ad g 0) 14 = w5480 := by rw [eI5539, pp_ne _ _ (Or.inl (ly_ne hy (by decide) (by decide) (by decide)))]; exact e5525
  have e5544 : I5539 (ad g 0) 68 = w5481 := by rw [eI5539, pp_ne _ _ (Or.inl (ly_ne hy (by decide) (by decide) (by decide)))]; exact e5526
  have e5545 : I5539 (ad g 38) 28 = w5482 := by rw [eI5539, pp_ne _ _ (Or.inr (by decide))]; exact e5527
  have e5546 : I5539 (ad g 38) 29 = w5483 := by rw [eI5539, pp_ne _ _ (Or.inr (by decide))]; exact e5528
  have e5547 : I5539 (ad g 38) 30 = w5484 := by rw [eI5539, pp_ne _ _ (Or.inr (by decide))]; exact e5529
  have e5548 : I5539 (ad g 38) 31 = w5485 := by rw [eI5539, pp_ne _ _ (Or.inr (by decide))]; exact e5530
  have e5549 : I5539 (ad g 38) 32 = v5538 := by rw [eI5539, pp_self]
  have fr5550 : fs g [] I I5539 := by rw [eI5539]; exact fs_ppn hy fr5532 (by decide) (by decide)
  have fr5551 : fz 49 g [38] I I5539 := by rw [eI5539]; exact fzm_pp hy fr5533 (by decide) (by decide)
  clear eI5539
  refine WP_aload_n dX11_nightOf_73 rfl ?_
  refine WP_aload_n dX11_nightOf_74 rfl ?_
  refine WQ_iconst (4) (4) dX11_nightOf_75 rfl rfl (fun v5552 hv5552 => ?_)
  refine WP_iload_n dX11_nightOf_76 rfl ?_
  refine WQ_iadd dX11_nightOf_77 (by omega) (by omega) (fun v5553 hv5553 => ?_)
  refine WQ_ialdr dX11_nightOf_78 (ly_is hy 38 13 rfl) (ly_n hy 38 35 rfl) (by omega) (by omega) (a := 4) (b := 8) (by omega) (by omega) (fun q hq1 hq2 => BT_get hI5539.1.1 38 4 8 (0) (0) (5) (by decide) q hq1 hq2) (fun v5554 av5554 bv5554 => ?_)
  refine WP_callV1 (k := 11) dX11_nightOf_79 ⟨⟨⟨by decide, by decide⟩, zX11_leftOf⟩, lX11_420, by decide, rfl, vX11_leftOf.1, vX11_leftOf.2⟩ (ly_is hy 0 11 rfl) (sm_leftOf hy hr hI5539 v5554 (by omega) (by omega)) (Nat.le_of_ble_eq_true rfl) ?_
  intro r Ia Ja Ra hq
  obtain ⟨⟨ea, eb, ec⟩, v5555, rfl, av5555, bv5555⟩ := hq
  show WP _ _ _ _ (.int _ :: _) _ _ _ _
  rw [ea, eb, ec]
  clear ea eb ec Ia Ja Ra
  refine WP_istore (ls' := [(0, _), (1, _), (2, _), (3, _), (4, _), (5, _)]) dX11_nightOf_82 (by decide) rfl ?_
  refine WP_aload_n dX11_nightOf_84 rfl ?_
  refine WQ_bipush (20) (20) dX11_nightOf_85 rfl rfl (fun v5556 hv5556 => ?_)
  refine WP_iload_n dX11_nightOf_87 rfl ?_
  refine WQ_iadd dX11_nightOf_88 (by omega) (by omega) (fun v5557 hv5557 => ?_)
  refine WP_dup2 dX11_nightOf_89 rfl rfl ?_
  refine WQ_ialdu dX11_nightOf_90 (ly_is hy 38 13 rfl) (ly_n hy 38 35 rfl) (by omega) (by omega) (fun v5558 => ?_)
  refine WP_aload_n dX11_nightOf_91 rfl ?_
  refine WQ_iconst (4) (4) dX11_nightOf_92 rfl rfl (fun v5559 hv5559 => ?_)
  refine WP_iload_n dX11_nightOf_93 rfl ?_
  refine WQ_iadd dX11_nightOf_94 (by omega) (by omega) (fun v5560 hv5560 => ?_)
  refine WQ_ialdr dX11_nightOf_95 (ly_is hy 38 13 rfl) (ly_n hy 38 35 rfl) (by omega) (by omega) (a := 4) (b := 8) (by omega) (by omega) (fun q hq1 hq2 => BT_get hI5539.1.1 38 4 8 (0) (0) (5) (by decide) q hq1 hq2) (fun v5561 av5561 bv5561 => ?_)
  refine WP_iload dX11_nightOf_96 rfl ?_
  refine WQ_isub dX11_nightOf_98 (by omega) (by omega) (fun v5562 hv5562 => ?_)
  refine WP_aload_n dX11_nightOf_99 rfl ?_
  refine WP_getr dX11_nightOf_100 fX11_235 rfl (ly_is hy 0 11 rfl) (rf hr 0 26 8 (by decide)) ?_
  refine WP_iload_n dX11_nightOf_103 rfl ?_
  refine WQ_iald dX11_nightOf_104 (ly_is hy 8 13 rfl) (ly_n hy 8 4 rfl) (by omega) (by omega) (fun q hq => BT_get hI5539.1.1 8 0 4 (0) (0) (99) (by decide) q (Nat.zero_le _) hq) (fun v5563 av5563 bv5563 ev5563 => ?_)
  clear ev5563
  refine WQ_imulu dX11_nightOf_105 (fun v5564 => ?_)
  refine WQ_iaddu dX11_nightOf_106 (fun v5565 => ?_)
  refine WQ_iast dX11_nightOf_107 (ly_is hy 38 13 rfl) (ly_n hy 38 35 rfl) (by omega) (by omega) (fun I5566 eI5566 => ?_)
  have hI5566 : MP g n L I5566 := by rw [eI5566]; exact (mp_w hy hI5539 (c := 38) (mi_rr hy hI5539.1 (c := 38) (20) (23) (0) (0) (0) (by decide) (Or.inl (by decide)) (by rw [cl (n := v5557.toInt.toNat) (by omega)]; omega) (by decide) (fun h => absurd h (by decide))) (by decide) (by decide) (Or.inl (by decide)))
  have e5567 : I5566 (ad g 0) 1 = L := by rw [eI5566, pp_ne _ _ (Or.inl (ly_ne hy (by decide) (by decide) (by decide)))]; exact e5540
  have e5568 : I5566 (ad g 38) 33 = w5478 := by rw [eI5566, pp_ne _ _ (Or.inr (by rw [cl (x := v5557) (n := v5557.toInt.toNat) (by omega)]; omega))]; exact e5541
  have e5569 : I5566 (ad g 0) 10 = w5479 := by rw [eI5566, pp_ne _ _ (Or.inl (ly_ne hy (by decide) (by decide) (by decide)))]; exact e5542
  have e5570 : I5566 (ad g 0) 14 = w5480 := by rw [eI5566, pp_ne _ _ (Or.inl (ly_ne hy (by decide) (by decide) (by decide)))]; exact e5543
  have e5571 : I5566 (ad g 0) 68 = w5481 := by rw [eI5566, pp_ne _ _ (Or.inl (ly_ne hy (by decide) (by decide) (by decide)))]; exact e5544
  have e5572 : I5566 (ad g 38) 28 = w5482 := by rw [eI5566, pp_ne _ _ (Or.inr (by rw [cl (x := v5557) (n := v5557.toInt.toNat) (by omega)]; omega))]; exact e5545
  have e5573 : I5566 (ad g 38) 29 = w5483 := by rw [eI5566, pp_ne _ _ (Or.inr (by rw [cl (x := v5557) (n := v5557.toInt.toNat) (by omega)]; omega))]; exact e5546
  have e5574 : I5566 (ad g 38) 30 = w5484 := by rw [eI5566, pp_ne _ _ (Or.inr (by rw [cl (x := v5557) (n := v5557.toInt.toNat) (by omega)]; omega))]; exact e5547
  have e5575 : I5566 (ad g 38) 31 = w5485 := by rw [eI5566, pp_ne _ _ (Or.inr (by rw [cl (x := v5557) (n := v5557.toInt.toNat) (by omega)]; omega))]; exact e5548
  have e5576 : I5566 (ad g 38) 32 = v5538 := by rw [eI5566, pp_ne _ _ (Or.inr (by rw [cl (x := v5557) (n := v5557.toInt.toNat) (by omega)]; omega))]; exact e5549
  have fr5577 : fs g [] I I5566 := by rw [eI5566]; exact fs_ppn hy fr5550 (by decide) (by decide)
  have fr5578 : fz 49 g [38] I I5566 := by rw [eI5566]; exact fzm_pp hy fr5551 (by decide) (by decide)
  clear eI5566
  refine WP_aload_n dX11_nightOf_108 rfl ?_
  refine WQ_iconst (4) (4) dX11_nightOf_109 rfl rfl (fun v5579 hv5579 => ?_)
  refine WP_iload_n dX11_nightOf_110 rfl ?_
  refine WQ_iadd dX11_nightOf_111 (by omega) (by omega) (fun v5580 hv5580 => ?_)
  refine WP_iload dX11_nightOf_112 rfl ?_
  refine WQ_iast dX11_nightOf_114 (ly_is hy 38 13 rfl) (ly_n hy 38 35 rfl) (by omega) (by omega) (fun I5581 eI5581 => ?_)
  have hI5581 : MP g n L I5581 := by rw [eI5581]; exact (mp_w hy hI5566 (c := 38) (mi_rr hy hI5566.1 (c := 38) (4) (7) (0) (0) (5) (by decide) (Or.inl (by decide)) (by rw [cl (n := v5580.toInt.toNat) (by omega)]; omega) (by decide) (fun _ => ⟨by omega, by omega⟩)) (by decide) (by decide) (Or.inl (by decide)))
  have e5582 : I5581 (ad g 0) 1 = L := by rw [eI5581, pp_ne _ _ (Or.inl (ly_ne hy (by decide) (by decide) (by decide)))]; exact e5567
  have e5583 : I5581 (ad g 38) 33 = w5478 := by rw [eI5581, pp_ne _ _ (Or.inr (by rw [cl (x := v5580) (n := v5580.toInt.toNat) (by omega)]; omega))]; exact e5568
  have e5584 : I5581 (ad g 0) 10 = w5479 := by rw [eI5581, pp_ne _ _ (Or.inl (ly_ne hy (by decide) (by decide) (by decide)))]; exact e5569
  have e5585 : I5581 (ad g 0) 14 = w5480 := by rw [eI5581, pp_ne _ _ (Or.inl (ly_ne hy (by decide) (by decide) (by decide)))]; exact e5570
  have e5586 : I5581 (ad g 0) 68 = w5481 := by rw [eI5581, pp_ne _ _ (Or.inl (ly_ne hy (by decide) (by decide) (by decide)))]; exact e5571
  have e5587 : I5581 (ad g 38) 28 = w5482 := by rw [eI5581, pp_ne _ _ (Or.inr (by rw [cl (x := v5580) (n := v5580.toInt.toNat) (by omega)]; omega))]; exact e5572
  have e5588 : I5581 (ad g 38) 29 = w5483 := by rw [eI5581, pp_ne _ _ (Or.inr (by rw [cl (x := v5580) (n := v5580.toInt.toNat) (by omega)]; omega))]; exact e5573
  have e5589 : I5581 (ad g 38) 30 = w5484 := by rw [eI5581, pp_ne _ _ (Or.inr (by rw [cl (x := v5580) (n := v5580.toInt.toNat) (by omega)]; omega))]; exact e5574
  have e5590 : I5581 (ad g 38) 31 = w5485 := by rw [eI5581, pp_ne _ _ (Or.inr (by rw [cl (x := v5580) (n := v5580.toInt.toNat) (by omega)]; omega))]; exact e5575
  have e5591 : I5581 (ad g 38) 32 = v5538 := by rw [eI5581, pp_ne _ _ (Or.inr (by rw [cl (x := v5580) (n := v5580.toInt.toNat) (by omega)]; omega))]; exact e5576
  have fr5592 : fs g [] I I5581 := by rw [eI5581]; exact fs_ppn hy fr5577 (by decide) (by decide)
  have fr5593 : fz 49 g [38] I I5581 := by rw [eI5581]; exact fzm_pp hy fr5578 (by decide) (by decide)
  clear eI5581
  exact WP_vret dX11_nightOf_115 rfl ⟨⟨hI5581, rfl, fr5593, frj0, fr5592, ⟨(by rw [e5591, ew5486]; omega), (by rw [e5583, ew5478] <;> exact (eq32 _ _).mpr (by omega)), (by rw [e5584, ew5479] <;> exact (eq32 _ _).mpr (by omega)), (by rw [e5585, ew5480] <;> exact (eq32 _ _).mpr (by omega)), (by rw [e5586, ew5481] <;> exact (eq32 _ _).mpr (by omega)), (by rw [e5587, ew5482] <;> exact (eq32 _ _).mpr (by omega)), (by rw [e5588, ew5483] <;> exact (eq32 _ _).mpr (by omega)), (by rw [e5589, ew5484] <;> exact (eq32 _ _).mpr (by omega)), (by rw [e5590, ew5485] <;> exact (eq32 _ _).mpr (by omega))⟩⟩, rfl⟩
set_option maxHeartbeats 4000000 in
set_option maxRecDepth 100000 in
theorem sm_openChestx_38 {g : GG} {n : Int} {L : Int32} (hy : Ly g)  {I : pI} {J : pJ} {R : pR} (hr : Rf g R) (hI : MP g n L I)   (hn : 0 ≤ n ∧ n ≤ 40000) (hb : 0 ≤ (I (ad g 38) 32).toInt) : SP g mX11_openChest [.ref (ad g 0), .ref (ad g 38)] I J R (fun r I' J' R' => (MP g n L I' ∧ R' = R ∧ fz 49 g [38] I I' ∧ fz 49 g [] J J' ∧ fs g [] I I' ∧ ((I' (ad g 38) 32).toInt ≤ (I (ad g 38) 32).toInt) ∧ I' (ad g 38) 33 = I (ad g 38) 33 ∧ I' (ad g 0) 10 = I (ad g 0) 10 ∧ I' (ad g 0) 14 = I (ad g 0) 14 ∧ I' (ad g 0) 68 = I (ad g 0) 68 ∧ I' (ad g 38) 28 = I (ad g 38) 28 ∧ I' (ad g 38) 29 = I (ad g 38) 29 ∧ I' (ad g 38) 30 = I (ad g 38) 30 ∧ I' (ad g 38) 31 = I (ad g 38) 31) ∧ r = none) := by
  refine SP_of ⟨by decide, rfl⟩ (Nat.le_of_ble_eq_true rfl) ?_
  have e5594 : I (ad g 0) 1 = L := hI.1.2
  have b5595 := BT_get hI.1.1 0 1 2 (0) (0) (900) (by decide) 1 (by decide) (by decide)
  rw [e5594] at b5595
  have fr0 : fz 49 g [38] I I := fz_rf
  have frj0 : fz 49 g [] J J := fz_rf
  have frq0 : fs g [] I I := fs_rf
  obtain ⟨w5596, ew5596⟩ : ∃ w : Int32, I (ad g 38) 33 = w := ⟨_, rfl⟩
  have bw5596 := BT_get hI.1.1 38 33 34 (0) (1) (0) (by decide) 33 (by decide) (by decide)
  rw [ew5596] at bw5596
  obtain ⟨w5597, ew5597⟩ : ∃ w : Int32, I (ad g 0) 10 = w := ⟨_, rfl⟩
  have bw5597 := BT_get hI.1.1 0 10 11 (0) (0) (4) (by decide) 10 (by decide) (by decide)
  rw [ew5597] at bw5597
  obtain ⟨w5598, ew5598⟩ : ∃ w : Int32, I (ad g 0) 14 = w := ⟨_, rfl⟩
  have bw5598 := BT_get hI.1.1 0 14 15 (-1) (0) (2) (by decide) 14 (by decide) (by decide)
  rw [ew5598] at bw5598
  obtain ⟨w5599, ew5599⟩ : ∃ w : Int32, I (ad g 0) 68 = w := ⟨_, rfl⟩
  obtain ⟨w5600, ew5600⟩ : ∃ w : Int32, I (ad g 38) 28 = w := ⟨_, rfl⟩
  obtain ⟨w5601, ew5601⟩ : ∃ w : Int32, I (ad g 38) 29 = w := ⟨_, rfl⟩
  obtain ⟨w5602, ew5602⟩ : ∃ w : Int32, I (ad g 38) 30 = w := ⟨_, rfl⟩
  obtain ⟨w5603, ew5603⟩ : ∃ w : Int32, I (ad g 38) 31 = w := ⟨_, rfl⟩
  obtain ⟨w5604, ew5604⟩ : ∃ w : Int32, I (ad g 38) 32 = w := ⟨_, rfl⟩
  have bw5604 := BT_get hI.1.1 38 32 33 (0) (23760) (0) (by decide) 32 (by decide) (by decide)
  rw [ew5604] at bw5604
  rw [ew5604] at hb
  refine WP_aload_n dX11_openChest_0 rfl ?_
  refine WQ_geti dX11_openChest_1 fX11_221 rfl (ly_is hy 0 11 rfl) (BT_get hI.1.1 0 13 14 (-1) (0) (3) (by decide) 13 (by decide) (by decide)) (fun v5605 ev5605 av5605 bv5605 => ?_)
  refine WQ_iconst (-1) (-1) dX11_openChest_4 rfl rfl (fun v5606 hv5606 => ?_)
  refine WQ_icmp_ne 9 dX11_openChest_5 rfl (fun c5606 => ?_) (fun c5606 => ?_)
  · have kc := pc_lt hI
    rw [ev5605, ew5597] at kc
    refine WP_aload_n dX11_openChest_9 rfl ?_
    refine WQ_bipush (32) (32) dX11_openChest_10 rfl rfl (fun v5608 hv5608 => ?_)
    refine WQ_ialdm (z := 32) dX11_openChest_12 (ly_is hy 38 13 rfl) (ly_n hy 38 35 rfl) hv5608 (by decide) ew5604 ?_
    refine WP_aload_n dX11_openChest_13 rfl ?_
    refine WP_getr dX11_openChest_14 fX11_235 rfl (ly_is hy 0 11 rfl) (rf hr 0 26 8 (by decide)) ?_
    refine WP_aload_n dX11_openChest_17 rfl ?_
    refine WQ_getim dX11_openChest_18 fX11_221 rfl (ly_is hy 0 11 rfl) ev5605 ?_
    refine WQ_ialdq (q := v5605.toInt.toNat) dX11_openChest_21 (ly_is hy 8 13 rfl) (ly_n hy 8 4 rfl) (by omega) (by omega) (by omega) (pp_get hI (by omega) (by rw [ew5597]; omega)) (fun v5610 av5610 bv5610 ev5610 => ?_)
    refine WQ_idivb dX11_openChest_22 (by omega) (by omega) (fun v5611 pv5611 av5611 bv5611 cv5611 => ?_)
    refine WP_istore_n (ls' := [(0, _), (1, _), (2, _)]) dX11_openChest_23 (by decide) rfl ?_
    refine WP_aload_n dX11_openChest_24 rfl ?_
    refine WQ_bipush (32) (32) dX11_openChest_25 rfl rfl (fun v5612 hv5612 => ?_)
    refine WP_dup2 dX11_openChest_27 rfl rfl ?_
    refine WQ_ialdm (z := 32) dX11_openChest_28 (ly_is hy 38 13 rfl) (ly_n hy 38 35 rfl) hv5612 (by decide) ew5604 ?_
    refine WP_iload_n dX11_openChest_29 rfl ?_
    refine WP_aload_n dX11_openChest_30 rfl ?_
    refine WP_getr dX11_openChest_31 fX11_235 rfl (ly_is hy 0 11 rfl) (rf hr 0 26 8 (by decide)) ?_
    refine WP_aload_n dX11_openChest_34 rfl ?_
    refine WQ_getim dX11_openChest_35 fX11_221 rfl (ly_is hy 0 11 rfl) ev5605 ?_
    refine WQ_ialde dX11_openChest_38 (ly_is hy 8 13 rfl) (ly_n hy 8 4 rfl) (by omega) (by omega) ev5610 ?_
    have knv5615 : 0 ≤ v5611.toInt * v5610.toInt := Int.mul_nonneg (by omega) (by omega)
    refine WQ_imulx dX11_openChest_39 (by omega) (by omega) (fun v5615 pv5615 => ?_)
    refine WQ_isub dX11_openChest_40 (by omega) (by omega) (fun v5616 hv5616 => ?_)
    refine WQ_iast dX11_openChest_41 (ly_is hy 38 13 rfl) (ly_n hy 38 35 rfl) (by omega) (by omega) (fun I5617 fI5617 => ?_)
    have eI5617 := fI5617
    rw [cl (x := v5612) (n := 32) (by omega)] at eI5617
    clear fI5617
    have hI5617 : MP g n L I5617 := by rw [eI5617]; exact (mp_w hy hI (c := 38) (mi_f hy hI.1 (c := 38) (0) (23760) (0) (by decide) (Or.inl (by decide)) (by decide) (by omega) (by omega)) (by decide) (by decide) (Or.inl (by decide)))
    have e5618 : I5617 (ad g 0) 1 = L := by rw [eI5617, pp_ne _ _ (Or.inl (ly_ne hy (by decide) (by decide) (by decide)))]; exact e5594
    have e5619 : I5617 (ad g 38) 33 = w5596 := by rw [eI5617, pp_ne _ _ (Or.inr (by decide))]; exact ew5596
    have e5620 : I5617 (ad g 0) 10 = w5597 := by rw [eI5617, pp_ne _ _ (Or.inl (ly_ne hy (by decide) (by decide) (by decide)))]; exact ew5597
    have e5621 : I5617 (ad g 0) 14 = w5598 := by rw [eI5617, pp_ne _ _ (Or.inl (ly_ne hy (by decide) (by decide) (by decide)))]; exact ew5598
    have e5622 : I5617 (ad g 0) 68 = w5599 := by rw [eI5617, pp_ne _ _ (Or.inl (ly_ne hy (by decide) (by decide) (by decide)))]; exact ew5599
    have e5623 : I5617 (ad g 38) 28 = w5600 := by rw [eI5617, pp_ne _ _ (Or.inr (by decide))]; exact ew5600
    have e5624 : I5617 (ad g 38) 29 = w5601 := by rw [eI5617, pp_ne _ _ (Or.inr (by decide))]; exact ew5601
    have e5625 : I5617 (ad g 38) 30 = w5602 := by rw [eI5617, pp_ne _ _ (Or.inr (by decide))]; exact ew5602
    have e5626 : I5617 (ad g 38) 31 = w5603 := by rw [eI5617, pp_ne _ _ (Or.inr (by decide))]; exact ew5603
    have e5627 : I5617 (ad g 0) 13 = v5605 := by rw [eI5617, pp_ne _ _ (Or.inl (ly_ne hy (by decide) (by decide) (by decide)))]; exact ev5605
    have e5628 : I5617 (ad g 8) v5605.toNatClampNeg = v5610 := by rw [eI5617, pp_ne _ _ (Or.inl (ly_ne hy (by decide) (by decide) (by decide)))]; exact ev5610
    have e5629 : I5617 (ad g 38) 32 = v5616 := by rw [eI5617, pp_self]
    have fr5630 : fs g [] I I5617 := by rw [eI5617]; exact fs_ppn hy frq0 (by decide) (by decide)
    have fr5631 : fz 49 g [38] I I5617 := by rw [eI5617]; exact fzm_pp hy fr0 (by decide) (by decide)
    clear eI5617
    refine WP_aload_n dX11_openChest_42 rfl ?_
    refine WQ_bipush (24) (24) dX11_openChest_43 rfl rfl (fun v5632 hv5632 => ?_)
    refine WP_aload_n dX11_openChest_45 rfl ?_
    refine WQ_getim dX11_openChest_46 fX11_221 rfl (ly_is hy 0 11 rfl) e5627 ?_
    refine WQ_iadd dX11_openChest_49 (by omega) (by omega) (fun v5633 hv5633 => ?_)
    refine WP_dup2 dX11_openChest_50 rfl rfl ?_
    refine WQ_ialdu dX11_openChest_51 (ly_is hy 38 13 rfl) (ly_n hy 38 35 rfl) (by omega) (by omega) (fun v5634 => ?_)
    refine WP_iload_n dX11_openChest_52 rfl ?_
    refine WP_aload_n dX11_openChest_53 rfl ?_
    refine WP_getr dX11_openChest_54 fX11_235 rfl (ly_is hy 0 11 rfl) (rf hr 0 26 8 (by decide)) ?_
    refine WP_aload_n dX11_openChest_57 rfl ?_
    refine WQ_getim dX11_openChest_58 fX11_221 rfl (ly_is hy 0 11 rfl) e5627 ?_
    refine WQ_ialde dX11_openChest_61 (ly_is hy 8 13 rfl) (ly_n hy 8 4 rfl) (by omega) (by omega) e5628 ?_
    have knv5636 : 0 ≤ v5611.toInt * v5610.toInt := Int.mul_nonneg (by omega) (by omega)
    refine WQ_imulx dX11_openChest_62 (by omega) (by omega) (fun v5636 pv5636 => ?_)
    refine WQ_iaddu dX11_openChest_63 (fun v5637 => ?_)
    refine WQ_iast dX11_openChest_64 (ly_is hy 38 13 rfl) (ly_n hy 38 35 rfl) (by omega) (by omega) (fun I5638 eI5638 => ?_)
    have hI5638 : MP g n L I5638 := by rw [eI5638]; exact (mp_w hy hI5617 (c := 38) (mi_rr hy hI5617.1 (c := 38) (24) (27) (0) (0) (0) (by decide) (Or.inl (by decide)) (by rw [cl (n := v5633.toInt.toNat) (by omega)]; omega) (by decide) (fun h => absurd h (by decide))) (by decide) (by decide) (Or.inl (by decide)))
    have e5639 : I5638 (ad g 0) 1 = L := by rw [eI5638, pp_ne _ _ (Or.inl (ly_ne hy (by decide) (by decide) (by decide)))]; exact e5618
    have e5640 : I5638 (ad g 38) 33 = w5596 := by rw [eI5638, pp_ne _ _ (Or.inr (by rw [cl (x := v5633) (n := v5633.toInt.toNat) (by omega)]; omega))]; exact e5619
    have e5641 : I5638 (ad g 0) 10 = w5597 := by rw [eI5638, pp_ne _ _ (Or.inl (ly_ne hy (by decide) (by decide) (by decide)))]; exact e5620
    have e5642 : I5638 (ad g 0) 14 = w5598 := by rw [eI5638, pp_ne _ _ (Or.inl (ly_ne hy (by decide) (by decide) (by decide)))]; exact e5621
    have e5643 : I5638 (ad g 0) 68 = w5599 := by rw [eI5638, pp_ne _ _ (Or.inl (ly_ne hy (by decide) (by decide) (by decide)))]; exact e5622
    have e5644 : I5638 (ad g 38) 28 = w5600 := by rw [eI5638, pp_ne _ _ (Or.inr (by rw [cl (x := v5633) (n := v5633.toInt.toNat) (by omega)]; omega))]; exact e5623
    have e5645 : I5638 (ad g 38) 29 = w5601 := by rw [eI5638, pp_ne _ _ (Or.inr (by rw [cl (x := v5633) (n := v5633.toInt.toNat) (by omega)]; omega))]; exact e5624
    have e5646 : I5638 (ad g 38) 30 = w5602 := by rw [eI5638, pp_ne _ _ (Or.inr (by rw [cl (x := v5633) (n := v5633.toInt.toNat) (by omega)]; omega))]; exact e5625
    have e5647 : I5638 (ad g 38) 31 = w5603 := by rw [eI5638, pp_ne _ _ (Or.inr (by rw [cl (x := v5633) (n := v5633.toInt.toNat) (by omega)]; omega))]; exact e5626
    have e5648 : I5638 (ad g 0) 13 = v5605 := by rw [eI5638, pp_ne _ _ (Or.inl (ly_ne hy (by decide) (by decide) (by decide)))]; exact e5627
    have e5649 : I5638 (ad g 8) v5605.toNatClampNeg = v5610 := by rw [eI5638, pp_ne _ _ (Or.inl (ly_ne hy (by decide) (by decide) (by decide)))]; exact e5628
    have e5650 : I5638 (ad g 38) 32 = v5616 := by rw [eI5638, pp_ne _ _ (Or.inr (by rw [cl (x := v5633) (n := v5633.toInt.toNat) (by omega)]; omega))]; exact e5629
    have fr5651 : fs g [] I I5638 := by rw [eI5638]; exact fs_ppn hy fr5630 (by decide) (by decide)
    have fr5652 : fz 49 g [38] I I5638 := by rw [eI5638]; exact fzm_pp hy fr5631 (by decide) (by decide)
    clear eI5638
    refine WP_aload_n dX11_openChest_65 rfl ?_
    refine WQ_iconst (0) (0) dX11_openChest_66 rfl rfl (fun v5653 hv5653 => ?_)
    refine WP_aload_n dX11_openChest_67 rfl ?_
    refine WQ_getim dX11_openChest_68 fX11_221 rfl (ly_is hy 0 11 rfl) e5648 ?_
    refine WQ_iadd dX11_openChest_71 (by omega) (by omega) (fun v5654 hv5654 => ?_)
    refine WQ_bipush (60) (60) dX11_openChest_72 rfl rfl (fun v5655 hv5655 => ?_)
    refine WP_aload_n dX11_openChest_74 rfl ?_
    refine WQ_iconst (0) (0) dX11_openChest_75 rfl rfl (fun v5656 hv5656 => ?_)
    refine WP_aload_n dX11_openChest_76 rfl ?_
    refine WQ_getim dX11_openChest_77 fX11_221 rfl (ly_is hy 0 11 rfl) e5648 ?_
    refine WQ_iadd dX11_openChest_80 (by omega) (by omega) (fun v5657 hv5657 => ?_)
    refine WQ_ialdr dX11_openChest_81 (ly_is hy 38 13 rfl) (ly_n hy 38 35 rfl) (by omega) (by omega) (a := 0) (b := 4) (by omega) (by omega) (fun q hq1 hq2 => BT_get hI5638.1.1 38 0 4 (0) (0) (60) (by decide) q hq1 hq2) (fun v5658 av5658 bv5658 => ?_)
    refine WP_iload_n dX11_openChest_82 rfl ?_
    refine WQ_iadd dX11_openChest_83 (by omega) (by omega) (fun v5659 hv5659 => ?_)
    refine WQ_min dX11_openChest_84 lX11_417 ⟨by decide, Nat.le_of_ble_eq_true rfl⟩ (fun v5660 av5660 bv5660 cv5660 => ?_)
    refine WQ_iast dX11_openChest_87 (ly_is hy 38 13 rfl) (ly_n hy 38 35 rfl) (by omega) (by omega) (fun I5661 eI5661 => ?_)
    have hI5661 : MP g n L I5661 := by rw [eI5661]; exact (mp_w hy hI5638 (c := 38) (mi_rr hy hI5638.1 (c := 38) (0) (3) (0) (0) (60) (by decide) (Or.inl (by decide)) (by rw [cl (n := v5654.toInt.toNat) (by omega)]; omega) (by decide) (fun _ => ⟨by omega, by omega⟩)) (by decide) (by decide) (Or.inl (by decide)))
    have e5662 : I5661 (ad g 0) 1 = L := by rw [eI5661, pp_ne _ _ (Or.inl (ly_ne hy (by decide) (by decide) (by decide)))]; exact e5639
    have e5663 : I5661 (ad g 38) 33 = w5596 := by rw [eI5661, pp_ne _ _ (Or.inr (by rw [cl (x := v5654) (n := v5654.toInt.toNat) (by omega)]; omega))]; exact e5640
    have e5664 : I5661 (ad g 0) 10 = w5597 := by rw [eI5661, pp_ne _ _ (Or.inl (ly_ne hy (by decide) (by decide) (by decide)))]; exact e5641
    have e5665 : I5661 (ad g 0) 14 = w5598 := by rw [eI5661, pp_ne _ _ (Or.inl (ly_ne hy (by decide) (by decide) (by decide)))]; exact e5642
    have e5666 : I5661 (ad g 0) 68 = w5599 := by rw [eI5661, pp_ne _ _ (Or.inl (ly_ne hy (by decide) (by decide) (by decide)))]; exact e5643
    have e5667 : I5661 (ad g 38) 28 = w5600 := by rw [eI5661, pp_ne _ _ (Or.inr (by rw [cl (x := v5654) (n := v5654.toInt.toNat) (by omega)]; omega))]; exact e5644
    have e5668 : I5661 (ad g 38) 29 = w5601 := by rw [eI5661, pp_ne _ _ (Or.inr (by rw [cl (x := v5654) (n := v5654.toInt.toNat) (by omega)]; omega))]; exact e5645
    have e5669 : I5661 (ad g 38) 30 = w5602 := by rw [eI5661, pp_ne _ _ (Or.inr (by rw [cl (x := v5654) (n := v5654.toInt.toNat) (by omega)]; omega))]; exact e5646
    have e5670 : I5661 (ad g 38) 31 = w5603 := by rw [eI5661, pp_ne _ _ (Or.inr (by rw [cl (x := v5654) (n := v5654.toInt.toNat) (by omega)]; omega))]; exact e5647
    have e5671 : I5661 (ad g 0) 13 = v5605 := by rw [eI5661, pp_ne _ _ (Or.inl (ly_ne hy (by decide) (by decide) (by decide)))]; exact e5648
    have e5672 : I5661 (ad g 8) v5605.toNatClampNeg = v5610 := by rw [eI5661, pp_ne _ _ (Or.inl (ly_ne hy (by decide) (by decide) (by decide)))]; exact e5649
    have e5673 : I5661 (ad g 38) 32 = v5616 := by rw [eI5661, pp_ne _ _ (Or.inr (by rw [cl (x := v5654) (n := v5654.toInt.toNat) (by omega)]; omega))]; exact e5650
    have fr5674 : fs g [] I I5661 := by rw [eI5661]; exact fs_ppn hy fr5651 (by decide) (by decide)
    have fr5675 : fz 49 g [38] I I5661 := by rw [eI5661]; exact fzm_pp hy fr5652 (by decide) (by decide)
    clear eI5661
    exact WP_vret dX11_openChest_88 rfl ⟨⟨hI5661, rfl, fr5675, frj0, fr5674, ⟨(by rw [e5673, ew5604]; omega), (by rw [e5663, ew5596] <;> exact (eq32 _ _).mpr (by omega)), (by rw [e5664, ew5597] <;> exact (eq32 _ _).mpr (by omega)), (by rw [e5665, ew5598] <;> exact (eq32 _ _).mpr (by omega)), (by rw [e5666, ew5599] <;> exact (eq32 _ _).mpr (by omega)), (by rw [e5667, ew5600] <;> exact (eq32 _ _).mpr (by omega)), (by rw [e5668, ew5601] <;> exact (eq32 _ _).mpr (by omega)), (by rw [e5669, ew5602] <;> exact (eq32 _ _).mpr (by omega)), (by rw [e5670, ew5603] <;> exact (eq32 _ _).mpr (by omega))⟩⟩, rfl⟩
  · exact WP_vret dX11_openChest_8 rfl ⟨⟨hI, rfl, fr0, frj0, frq0, ⟨(by omega), rfl, rfl, rfl, rfl, rfl, rfl, rfl, rfl⟩⟩, rfl⟩
set_option maxHeartbeats 4000000 in
set_option maxRecDepth 100000 in
theorem sm_dayOf_38 {g : GG} {n : Int} {L : Int32} (hy : Ly g)  {I : pI} {J : pJ} {R : pR} (hr : Rf g R) (hI : MP g n L I)   (hn : 0 ≤ n ∧ n ≤ 40000) (hb : (I (ad g 38) 32).toInt ≤ 23760 * n + 0 - 23760 ∧ (I (ad g 38) 33).toInt ≤ n + 0 - 1) : SP g mX11_dayOf [.ref (ad g 0), .ref (ad g 38)] I J R (fun r I' J' R' => (MP g n L I' ∧ R' = R ∧ fz 49 g [0, 35, 36, 37, 40, 41, 38] I I' ∧ fz 49 g [] J J' ∧ fs g [56] I I' ∧ ((I' (ad g 38) 32).toInt ≤ (I (ad g 38) 32).toInt + 23760 ∧ (I' (ad g 38) 33).toInt = (I (ad g 38) 33).toInt + 1) ∧ I' (ad g 0) 10 = I (ad g 0) 10 ∧ I' (ad g 0) 14 = I (ad g 0) 14 ∧ I' (ad g 0) 68 = I (ad g 0) 68 ∧ I' (ad g 38) 28 = I (ad g 38) 28 ∧ I' (ad g 38) 29 = I (ad g 38) 29 ∧ I' (ad g 38) 30 = I (ad g 38) 30 ∧ I' (ad g 38) 31 = I (ad g 38) 31) ∧ ∃ v : Int64, r = some (.long v)) := by
  refine SP_of ⟨by decide, rfl⟩ (Nat.le_of_ble_eq_true rfl) ?_
  have e5676 : I (ad g 0) 1 = L := hI.1.2
  have b5677 := BT_get hI.1.1 0 1 2 (0) (0) (900) (by decide) 1 (by decide) (by decide)
  rw [e5676] at b5677
  have fr0 : fz 49 g [0, 35, 36, 37, 40, 41, 38] I I := fz_rf
  have frj0 : fz 49 g [] J J := fz_rf
  have frq0 : fs g [56] I I := fs_rf
  obtain ⟨w5678, ew5678⟩ : ∃ w : Int32, I (ad g 0) 10 = w := ⟨_, rfl⟩
  have bw5678 := BT_get hI.1.1 0 10 11 (0) (0) (4) (by decide) 10 (by decide) (by decide)
  rw [ew5678] at bw5678
  obtain ⟨w5679, ew5679⟩ : ∃ w : Int32, I (ad g 0) 14 = w := ⟨_, rfl⟩
  have bw5679 := BT_get hI.1.1 0 14 15 (-1) (0) (2) (by decide) 14 (by decide) (by decide)
  rw [ew5679] at bw5679
  obtain ⟨w5680, ew5680⟩ : ∃ w : Int32, I (ad g 0) 68 = w := ⟨_, rfl⟩
  obtain ⟨w5681, ew5681⟩ : ∃ w : Int32, I (ad g 38) 28 = w := ⟨_, rfl⟩
  obtain ⟨w5682, ew5682⟩ : ∃ w : Int32, I (ad g 38) 29 = w := ⟨_, rfl⟩
  obtain ⟨w5683, ew5683⟩ : ∃ w : Int32, I (ad g 38) 30 = w := ⟨_, rfl⟩
  obtain ⟨w5684, ew5684⟩ : ∃ w : Int32, I (ad g 38) 31 = w := ⟨_, rfl⟩
  obtain ⟨w5685, ew5685⟩ : ∃ w : Int32, I (ad g 38) 32 = w := ⟨_, rfl⟩
  have bw5685 := BT_get hI.1.1 38 32 33 (0) (23760) (0) (by decide) 32 (by decide) (by decide)
  rw [ew5685] at bw5685
  obtain ⟨w5686, ew5686⟩ : ∃ w : Int32, I (ad g 38) 33 = w := ⟨_, rfl⟩
  have bw5686 := BT_get hI.1.1 38 33 34 (0) (1) (0) (by decide) 33 (by decide) (by decide)
  rw [ew5686] at bw5686
  rw [ew5685, ew5686] at hb
  refine WP_aload_n dX11_dayOf_0 rfl ?_
  refine WQ_bipush (33) (33) dX11_dayOf_1 rfl rfl (fun v5687 hv5687 => ?_)
  refine WQ_ialdm (z := 33) dX11_dayOf_3 (ly_is hy 38 13 rfl) (ly_n hy 38 35 rfl) hv5687 (by decide) ew5686 ?_
  refine WQ_bipush (7) (7) dX11_dayOf_4 rfl rfl (fun v5689 hv5689 => ?_)
  refine WQ_iremk (7) dX11_dayOf_6 hv5689 (by decide) (by omega) (fun v5690 hv5690 => ?_)
  refine WP_istore_n (ls' := [(0, _), (1, _), (2, _)]) dX11_dayOf_7 (by decide) rfl ?_
  refine WP_lconst (0) dX11_dayOf_8 rfl ?_
  obtain ⟨l5691, hl5691, el5691⟩ : ∃ v : Int64, v.toInt = 0 ∧ (0 : Int64) = v := ⟨_, rfl, rfl⟩
  rw [el5691]; clear el5691
  refine WP_lstore_n (ls' := [(0, _), (1, _), (2, _), (3, _)]) dX11_dayOf_9 (by decide) rfl ?_
  refine WP_iload_n dX11_dayOf_10 rfl ?_
  refine WQ_if_ne 19 dX11_dayOf_11 rfl (fun c5691 => ?_) (fun c5691 => ?_)
  · refine WQ_iconst (0) (0) dX11_dayOf_19 rfl rfl (fun v5693 hv5693 => ?_)
    refine WP_istore (ls' := [(0, _), (1, _), (2, _), (3, _), (5, _)]) dX11_dayOf_20 (by decide) rfl ?_
    have lp22_5705 : ∀ (mz : Nat) (i5694 : Int32) (I5695 : pI) (J5696 : pJ), MP g n L I5695 → fz 49 g [0, 35, 36, 37, 40, 41, 38] I I5695 → fz 49 g [] J J5696 → fs g [56] I I5695 → ∀ (w5697 : Int32), I5695 (ad g 38) 32 = w5697 → ∀ (w5698 : Int32), I5695 (ad g 38) 33 = w5698 → ∀ (w5699 : Int32), I5695 (ad g 0) 10 = w5699 → ∀ (w5700 : Int32), I5695 (ad g 0) 14 = w5700 → ∀ (w5701 : Int32), I5695 (ad g 0) 68 = w5701 → ∀ (w5702 : Int32), I5695 (ad g 38) 28 = w5702 → ∀ (w5703 : Int32), I5695 (ad g 38) 29 = w5703 → ∀ (w5704 : Int32), I5695 (ad g 38) 30 = w5704 → ∀ (w5705 : Int32), I5695 (ad g 38) 31 = w5705 → 0 ≤ i5694.toInt → i5694.toInt ≤ 3 → w5698.toInt = w5686.toInt → w5699.toInt = w5678.toInt → w5700.toInt = w5679.toInt → w5701.toInt = w5680.toInt → w5702.toInt = w5681.toInt → w5703.toInt = w5682.toInt → w5704.toInt = w5683.toInt → w5705.toInt = w5684.toInt → w5697.toInt ≤ w5685.toInt → (4 - i5694.toInt).toNat < mz → WP g mX11_dayOf 22 [(0, .ref (ad g 0)), (1, .ref (ad g 38)), (2, .int v5690), (3, .long l5691), (5, .int i5694)] [] I5695 J5696 R (fun r I' J' R' => (MP g n L I' ∧ R' = R ∧ fz 49 g [0, 35, 36, 37, 40, 41, 38] I I' ∧ fz 49 g [] J J' ∧ fs g [56] I I' ∧ ((I' (ad g 38) 32).toInt ≤ (I (ad g 38) 32).toInt + 23760 ∧ (I' (ad g 38) 33).toInt = (I (ad g 38) 33).toInt + 1) ∧ I' (ad g 0) 10 = I (ad g 0) 10 ∧ I' (ad g 0) 14 = I (ad g 0) 14 ∧ I' (ad g 0) 68 = I (ad g 0) 68 ∧ I' (ad g 38) 28 = I (ad g 38) 28 ∧ I' (ad g 38) 29 = I (ad g 38) 29 ∧ I' (ad g 38) 30 = I (ad g 38) 30 ∧ I' (ad g 38) 31 = I (ad g 38) 31) ∧ ∃ v : Int64, r = some (.long v)) := by
      intro mz
      induction mz with
      | zero =>
        intro i5694 I5695 J5696 hI5695 fiI5695 fjJ5696 fqI5695 w5697 ew5697 w5698 ew5698 w5699 ew5699 w5700 ew5700 w5701 ew5701 w5702 ew5702 w5703 ew5703 w5704 ew5704 w5705 ew5705 ai5694 bi5694 j0_I5695 j1_I5695 j2_I5695 j3_I5695 j4_I5695 j5_I5695 j6_I5695 j7_I5695 j8_I5695 hmlp22_5705
        exact absurd hmlp22_5705 (Nat.not_lt_zero _)
      | succ mz ihlp22_5705 =>
        intro i5694 I5695 J5696 hI5695 fiI5695 fjJ5696 fqI5695 w5697 ew5697 w5698 ew5698 w5699 ew5699 w5700 ew5700 w5701 ew5701 w5702 ew5702 w5703 ew5703 w5704 ew5704 w5705 ew5705 ai5694 bi5694 j0_I5695 j1_I5695 j2_I5695 j3_I5695 j4_I5695 j5_I5695 j6_I5695 j7_I5695 j8_I5695 hmlp22_5705
        have bw5697 := BT_get hI5695.1.1 38 32 33 (0) (23760) (0) (by decide) 32 (by decide) (by decide)
        rw [ew5697] at bw5697
        have bw5698 := BT_get hI5695.1.1 38 33 34 (0) (1) (0) (by decide) 33 (by decide) (by decide)
        rw [ew5698] at bw5698
        have bw5699 := BT_get hI5695.1.1 0 10 11 (0) (0) (4) (by decide) 10 (by decide) (by decide)
        rw [ew5699] at bw5699
        have bw5700 := BT_get hI5695.1.1 0 14 15 (-1) (0) (2) (by decide) 14 (by decide) (by decide)
        rw [ew5700] at bw5700
        have e5707 : I5695 (ad g 0) 1 = L := hI5695.1.2
        have b5708 := BT_get hI5695.1.1 0 1 2 (0) (0) (900) (by decide) 1 (by decide) (by decide)
        rw [e5707] at b5708
        refine WP_iload dX11_dayOf_22 rfl ?_
        refine WP_aload_n dX11_dayOf_24 rfl ?_
        refine WQ_geti dX11_dayOf_25 fX11_332 rfl (ly_is hy 0 11 rfl) (BT_get hI5695.1.1 0 11 12 (0) (0) (3) (by decide) 11 (by decide) (by decide)) (fun v5709 ev5709 av5709 bv5709 => ?_)
        refine WQ_icmp_ge 85 dX11_dayOf_28 rfl (fun c5709 => ?_) (fun c5709 => ?_)
        · refine WQ_iconst (0) (0) dX11_dayOf_85 rfl rfl (fun v5711 hv5711 => ?_)
          refine WP_istore (ls' := [(0, _), (1, _), (2, _), (3, _), (5, _)]) dX11_dayOf_86 (by decide) rfl ?_
          have lp88_5724 : ∀ (mz : Nat) (l5712 : Int64) (i5713 : Int32) (I5714 : pI) (J5715 : pJ), MP g n L I5714 → fz 49 g [0, 35, 36, 37, 40, 41, 38] I I5714 → fz 49 g [] J J5715 → fs g [56] I I5714 → ∀ (w5716 : Int32), I5714 (ad g 38) 32 = w5716 → ∀ (w5717 : Int32), I5714 (ad g 38) 33 = w5717 → ∀ (w5718 : Int32), I5714 (ad g 0) 10 = w5718 → ∀ (w5719 : Int32), I5714 (ad g 0) 14 = w5719 → ∀ (w5720 : Int32), I5714 (ad g 0) 68 = w5720 → ∀ (w5721 : Int32), I5714 (ad g 38) 28 = w5721 → ∀ (w5722 : Int32), I5714 (ad g 38) 29 = w5722 → ∀ (w5723 : Int32), I5714 (ad g 38) 30 = w5723 → ∀ (w5724 : Int32), I5714 (ad g 38) 31 = w5724 → 0 ≤ i5713.toInt → i5713.toInt ≤ 4 → w5717.toInt = w5686.toInt → w5718.toInt = w5678.toInt → w5719.toInt = w5679.toInt → w5720.toInt = w5680.toInt → w5721.toInt = w5681.toInt → w5722.toInt = w5682.toInt → w5723.toInt = w5683.toInt → w5724.toInt = w5684.toInt → w5716.toInt ≤ w5685.toInt → (5 - i5713.toInt).toNat < mz → WP g mX11_dayOf 88 [(0, .ref (ad g 0)), (1, .ref (ad g 38)), (2, .int v5690), (3, .long l5712), (5, .int i5713)] [] I5714 J5715 R (fun r I' J' R' => (MP g n L I' ∧ R' = R ∧ fz 49 g [0, 35, 36, 37, 40, 41, 38] I I' ∧ fz 49 g [] J J' ∧ fs g [56] I I' ∧ ((I' (ad g 38) 32).toInt ≤ (I (ad g 38) 32).toInt + 23760 ∧ (I' (ad g 38) 33).toInt = (I (ad g 38) 33).toInt + 1) ∧ I' (ad g 0) 10 = I (ad g 0) 10 ∧ I' (ad g 0) 14 = I (ad g 0) 14 ∧ I' (ad g 0) 68 = I (ad g 0) 68 ∧ I' (ad g 38) 28 = I (ad g 38) 28 ∧ I' (ad g 38) 29 = I (ad g 38) 29 ∧ I' (ad g 38) 30 = I (ad g 38) 30 ∧ I' (ad g 38) 31 = I (ad g 38) 31) ∧ ∃ v : Int64, r = some (.long v)) := by
            intro mz
            induction mz with
            | zero =>
              intro l5712 i5713 I5714 J5715 hI5714 fiI5714 fjJ5715 fqI5714 w5716 ew5716 w5717 ew5717 w5718 ew5718 w5719 ew5719 w5720 ew5720 w5721 ew5721 w5722 ew5722 w5723 ew5723 w5724 ew5724 ai5713 bi5713 j0_I5714 j1_I5714 j2_I5714 j3_I5714 j4_I5714 j5_I5714 j6_I5714 j7_I5714 j8_I5714 hmlp88_5724
              exact absurd hmlp88_5724 (Nat.not_lt_zero _)
            | succ mz ihlp88_5724 =>
              intro l5712 i5713 I5714 J5715 hI5714 fiI5714 fjJ5715 fqI5714 w5716 ew5716 w5717 ew5717 w5718 ew5718 w5719 ew5719 w5720 ew5720 w5721 ew5721 w5722 ew5722 w5723 ew5723 w5724 ew5724 ai5713 bi5713 j0_I5714 j1_I5714 j2_I5714 j3_I5714 j4_I5714 j5_I5714 j6_I5714 j7_I5714 j8_I5714 hmlp88_5724
              have bw5716 := BT_get hI5714.1.1 38 32 33 (0) (23760) (0) (by decide) 32 (by decide) (by decide)
              rw [ew5716] at bw5716
              have bw5717 := BT_get hI5714.1.1 38 33 34 (0) (1) (0) (by decide) 33 (by decide) (by decide)
              rw [ew5717] at bw5717
              have bw5718 := BT_get hI5714.1.1 0 10 11 (0) (0) (4) (by decide) 10 (by decide) (by decide)
              rw [ew5718] at bw5718
              have bw5719 := BT_get hI5714.1.1 0 14 15 (-1) (0) (2) (by decide) 14 (by decide) (by decide)
              rw [ew5719] at bw5719
              have e5726 : I5714 (ad g 0) 1 = L := hI5714.1.2
              have b5727 := BT_get hI5714.1.1 0 1 2 (0) (0) (900) (by decide) 1 (by decide) (by decide)
              rw [e5726] at b5727
              refine WP_iload dX11_dayOf_88 rfl ?_
              refine WP_aload_n dX11_dayOf_90 rfl ?_
              refine WQ_getim dX11_dayOf_91 fX11_329 rfl (ly_is hy 0 11 rfl) ew5718 ?_
              refine WQ_icmp_ge 114 dX11_dayOf_94 rfl (fun c5727 => ?_) (fun c5727 => ?_)
              · refine WQ_iconst (0) (0) dX11_dayOf_114 rfl rfl (fun v5729 hv5729 => ?_)
                refine WP_istore (ls' := [(0, _), (1, _), (2, _), (3, _), (5, _)]) dX11_dayOf_115 (by decide) rfl ?_
                have lp117_5741 : ∀ (mz : Nat) (i5730 : Int32) (I5731 : pI) (J5732 : pJ), MP g n L I5731 → fz 49 g [0, 35, 36, 37, 40, 41, 38] I I5731 → fz 49 g [] J J5732 → fs g [56] I I5731 → ∀ (w5733 : Int32), I5731 (ad g 38) 32 = w5733 → ∀ (w5734 : Int32), I5731 (ad g 38) 33 = w5734 → ∀ (w5735 : Int32), I5731 (ad g 0) 10 = w5735 → ∀ (w5736 : Int32), I5731 (ad g 0) 14 = w5736 → ∀ (w5737 : Int32), I5731 (ad g 0) 68 = w5737 → ∀ (w5738 : Int32), I5731 (ad g 38) 28 = w5738 → ∀ (w5739 : Int32), I5731 (ad g 38) 29 = w5739 → ∀ (w5740 : Int32), I5731 (ad g 38) 30 = w5740 → ∀ (w5741 : Int32), I5731 (ad g 38) 31 = w5741 → 0 ≤ i5730.toInt → i5730.toInt ≤ 4 → w5734.toInt = w5686.toInt → w5735.toInt = w5678.toInt → w5736.toInt = w5679.toInt → w5737.toInt = w5680.toInt → w5738.toInt = w5681.toInt → w5739.toInt = w5682.toInt → w5740.toInt = w5683.toInt → w5741.toInt = w5684.toInt → w5733.toInt ≤ w5685.toInt + 5940 * i5730.toInt → (5 - i5730.toInt).toNat < mz → WP g mX11_dayOf 117 [(0, .ref (ad g 0)), (1, .ref (ad g 38)), (2, .int v5690), (3, .long l5712), (5, .int i5730)] [] I5731 J5732 R (fun r I' J' R' => (MP g n L I' ∧ R' = R ∧ fz 49 g [0, 35, 36, 37, 40, 41, 38] I I' ∧ fz 49 g [] J J' ∧ fs g [56] I I' ∧ ((I' (ad g 38) 32).toInt ≤ (I (ad g 38) 32).toInt + 23760 ∧ (I' (ad g 38) 33).toInt = (I (ad g 38) 33).toInt + 1) ∧ I' (ad g 0) 10 = I (ad g 0) 10 ∧ I' (ad g 0) 14 = I (ad g 0) 14 ∧ I' (ad g 0) 68 = I (ad g 0) 68 ∧ I' (ad g 38) 28 = I (ad g 38) 28 ∧ I' (ad g 38) 29 = I (ad g 38) 29 ∧ I' (ad g 38) 30 = I (ad g 38) 30 ∧ I' (ad g 38) 31 = I (ad g 38) 31) ∧ ∃ v : Int64, r = some (.long v)) := by
                  intro mz
                  induction mz with
                  | zero =>
                    intro i5730 I5731 J5732 hI5731 fiI5731 fjJ5732 fqI5731 w5733 ew5733 w5734 ew5734 w5735 ew5735 w5736 ew5736 w5737 ew5737 w5738 ew5738 w5739 ew5739 w5740 ew5740 w5741 ew5741 ai5730 bi5730 j0_I5731 j1_I5731 j2_I5731 j3_I5731 j4_I5731 j5_I5731 j6_I5731 j7_I5731 j8_I5731 hmlp117_5741
                    exact absurd hmlp117_5741 (Nat.not_lt_zero _)
                  | succ mz ihlp117_5741 =>
                    intro i5730 I5731 J5732 hI5731 fiI5731 fjJ5732 fqI5731 w5733 ew5733 w5734 ew5734 w5735 ew5735 w5736 ew5736 w5737 ew5737 w5738 ew5738 w5739 ew5739 w5740 ew5740 w5741 ew5741 ai5730 bi5730 j0_I5731 j1_I5731 j2_I5731 j3_I5731 j4_I5731 j5_I5731 j6_I5731 j7_I5731 j8_I5731 hmlp117_5741
                    have bw5733 := BT_get hI5731.1.1 38 32 33 (0) (23760) (0) (by decide) 32 (by decide) (by decide)
                    rw [ew5733] at bw5733
                    have bw5734 := BT_get hI5731.1.1 38 33 34 (0) (1) (0) (by decide) 33 (by decide) (by decide)
                    rw [ew5734] at bw5734
                    have bw5735 := BT_get hI5731.1.1 0 10 11 (0) (0) (4) (by decide) 10 (by decide) (by decide)
                    rw [ew5735] at bw5735
                    have bw5736 := BT_get hI5731.1.1 0 14 15 (-1) (0) (2) (by decide) 14 (by decide) (by decide)
                    rw [ew5736] at bw5736
                    have e5743 : I5731 (ad g 0) 1 = L := hI5731.1.2
                    have b5744 := BT_get hI5731.1.1 0 1 2 (0) (0) (900) (by decide) 1 (by decide) (by decide)
                    rw [e5743] at b5744
                    refine WP_iload dX11_dayOf_117 rfl ?_
                    refine WP_aload_n dX11_dayOf_119 rfl ?_
                    refine WQ_getim dX11_dayOf_120 fX11_329 rfl (ly_is hy 0 11 rfl) ew5735 ?_
                    refine WQ_icmp_ge 140 dX11_dayOf_123 rfl (fun c5744 => ?_) (fun c5744 => ?_)
                    · refine WP_aload_n dX11_dayOf_140 rfl ?_
                      refine WQ_bipush (33) (33) dX11_dayOf_141 rfl rfl (fun v5746 hv5746 => ?_)
                      refine WP_dup2 dX11_dayOf_143 rfl rfl ?_
                      refine WQ_ialdm (z := 33) dX11_dayOf_144 (ly_is hy 38 13 rfl) (ly_n hy 38 35 rfl) hv5746 (by decide) ew5734 ?_
                      refine WQ_iconst (1) (1) dX11_dayOf_145 rfl rfl (fun v5748 hv5748 => ?_)
                      refine WQ_iadd dX11_dayOf_146 (by omega) (by omega) (fun v5749 hv5749 => ?_)
                      refine WQ_iast dX11_dayOf_147 (ly_is hy 38 13 rfl) (ly_n hy 38 35 rfl) (by omega) (by omega) (fun I5750 fI5750 => ?_)
                      have eI5750 := fI5750
                      rw [cl (x := v5746) (n := 33) (by omega)] at eI5750
                      clear fI5750
                      have hI5750 : MP g n L I5750 := by rw [eI5750]; exact (mp_w hy hI5731 (c := 38) (mi_f hy hI5731.1 (c := 38) (0) (1) (0) (by decide) (Or.inl (by decide)) (by decide) (by omega) (by omega)) (by decide) (by decide) (Or.inl (by decide)))
                      have e5751 : I5750 (ad g 38) 32 = w5733 := by rw [eI5750, pp_ne _ _ (Or.inr (by decide))]; exact ew5733
                      have e5752 : I5750 (ad g 0) 10 = w5735 := by rw [eI5750, pp_ne _ _ (Or.inl (ly_ne hy (by decide) (by decide) (by decide)))]; exact ew5735
                      have e5753 : I5750 (ad g 0) 14 = w5736 := by rw [eI5750, pp_ne _ _ (Or.inl (ly_ne hy (by decide) (by decide) (by decide)))]; exact ew5736
                      have e5754 : I5750 (ad g 0) 68 = w5737 := by rw [eI5750, pp_ne _ _ (Or.inl (ly_ne hy (by decide) (by decide) (by decide)))]; exact ew5737
                      have e5755 : I5750 (ad g 38) 28 = w5738 := by rw [eI5750, pp_ne _ _ (Or.inr (by decide))]; exact ew5738
                      have e5756 : I5750 (ad g 38) 29 = w5739 := by rw [eI5750, pp_ne _ _ (Or.inr (by decide))]; exact ew5739
                      have e5757 : I5750 (ad g 38) 30 = w5740 := by rw [eI5750, pp_ne _ _ (Or.inr (by decide))]; exact ew5740
                      have e5758 : I5750 (ad g 38) 31 = w5741 := by rw [eI5750, pp_ne _ _ (Or.inr (by decide))]; exact ew5741
                      have e5759 : I5750 (ad g 0) 1 = L := by rw [eI5750, pp_ne _ _ (Or.inl (ly_ne hy (by decide) (by decide) (by decide)))]; exact e5743
                      have e5760 : I5750 (ad g 38) 33 = v5749 := by rw [eI5750, pp_self]
                      have fr5761 : fs g [56] I I5750 := by rw [eI5750]; exact fs_ppn hy fqI5731 (by decide) (by decide)
                      have fr5762 : fz 49 g [0, 35, 36, 37, 40, 41, 38] I I5750 := by rw [eI5750]; exact fzm_pp hy fiI5731 (by decide) (by decide)
                      clear eI5750
                      refine WP_lload_n dX11_dayOf_148 rfl ?_
                      exact WP_lret dX11_dayOf_149 rfl ⟨⟨hI5750, rfl, fr5762, fjJ5732, fr5761, ⟨(by rw [e5751, ew5685, e5760, ew5686]; omega), (by rw [e5752, ew5678] <;> exact (eq32 _ _).mpr (by omega)), (by rw [e5753, ew5679] <;> exact (eq32 _ _).mpr (by omega)), (by rw [e5754, ew5680] <;> exact (eq32 _ _).mpr (by omega)), (by rw [e5755, ew5681] <;> exact (eq32 _ _).mpr (by omega)), (by rw [e5756, ew5682] <;> exact (eq32 _ _).mpr (by omega)), (by rw [e5757, ew5683] <;> exact (eq32 _ _).mpr (by omega)), (by rw [e5758, ew5684] <;> exact (eq32 _ _).mpr (by omega))⟩⟩, _, rfl⟩
                    · refine WP_aload_n dX11_dayOf_126 rfl ?_
                      refine WP_aload_n dX11_dayOf_127 rfl ?_
                      refine WP_iload dX11_dayOf_128 rfl ?_
                      refine WP_iload_n dX11_dayOf_130 rfl ?_
                      refine WP_callV3 (k := 11) dX11_dayOf_131 ⟨⟨⟨by decide, by decide⟩, zX11_nightOf⟩, lX11_478, by decide, rfl, vX11_nightOf.1, vX11_nightOf.2⟩ (ly_is hy 0 11 rfl) (sm_nightOfx_38 hy hr hI5731 i5730 v5690 (by omega) (by omega) (by omega) (by omega) (by omega) (by rw [ew5733]; omega)) (Nat.le_of_ble_eq_true rfl) ?_
                      intro r I5763 J5764 Ra hq
                      obtain ⟨⟨hI5763, ec, fiI5763, fjI5763, fqI5763, ⟨pI5763, sI5763_38_33, sI5763_0_10, sI5763_0_14, sI5763_0_68, sI5763_38_28, sI5763_38_29, sI5763_38_30, sI5763_38_31⟩⟩, rfl⟩ := hq
                      rw [ec]
                      clear ec Ra
                      have fr5765 : fz 49 g [0, 35, 36, 37, 40, 41, 38] I I5763 := fz_tr fiI5731 (fz_mono fiI5763 (by decide))
                      have fr5766 : fs g [56] I I5763 := fs_tr fqI5731 (fs_mono fqI5763 (by decide))
                      have fr5767 : fz 49 g [] J J5764 := fz_tr fjJ5732 (fz_mono fjI5763 (by decide))
                      have e5768 : I5763 (ad g 38) 33 = w5734 := by rw [sI5763_38_33]; exact ew5734
                      have e5769 : I5763 (ad g 0) 10 = w5735 := by rw [sI5763_0_10]; exact ew5735
                      have e5770 : I5763 (ad g 0) 14 = w5736 := by rw [sI5763_0_14]; exact ew5736
                      have e5771 : I5763 (ad g 0) 68 = w5737 := by rw [sI5763_0_68]; exact ew5737
                      have e5772 : I5763 (ad g 38) 28 = w5738 := by rw [sI5763_38_28]; exact ew5738
                      have e5773 : I5763 (ad g 38) 29 = w5739 := by rw [sI5763_38_29]; exact ew5739
                      have e5774 : I5763 (ad g 38) 30 = w5740 := by rw [sI5763_38_30]; exact ew5740
                      have e5775 : I5763 (ad g 38) 31 = w5741 := by rw [sI5763_38_31]; exact ew5741
                      have e5776 : I5763 (ad g 0) 1 = L := hI5763.1.2
                      have b5777 := BT_get hI5763.1.1 0 1 2 (0) (0) (900) (by decide) 1 (by decide) (by decide)
                      rw [e5776] at b5777
                      obtain ⟨w5778, ew5778⟩ : ∃ w : Int32, I5763 (ad g 38) 32 = w := ⟨_, rfl⟩
                      have bw5778 := BT_get hI5763.1.1 38 32 33 (0) (23760) (0) (by decide) 32 (by decide) (by decide)
                      rw [ew5778] at bw5778
                      rw [ew5778, ew5733] at pI5763
                      refine WP_iinc (ls' := [(0, _), (1, _), (2, _), (3, _), (5, _)]) dX11_dayOf_134 rfl (by decide) rfl ?_
                      have hv5779 : (i5730 + Int32.ofInt (1)).toInt = i5730.toInt + (1) := ia_n rfl (by omega) (by omega)
                      generalize i5730 + Int32.ofInt (1) = v5779 at hv5779 ⊢
                      refine WP_goto 117 dX11_dayOf_137 rfl ?_
                      exact WP_sub (fc rfl (fc rfl (fc rfl (fc rfl (fc rfl fn))))) (ihlp117_5741 v5779 I5763 J5764 hI5763 fr5765 fr5767 fr5766 w5778 ew5778 w5734 e5768 w5735 e5769 w5736 e5770 w5737 e5771 w5738 e5772 w5739 e5773 w5740 e5774 w5741 e5775 (by omega) (by omega) (by omega) (by omega) (by omega) (by omega) (by omega) (by omega) (by omega) (by omega) (by omega) (by omega))
                exact WP_sub (fc rfl (fc rfl (fc rfl (fc rfl (fc rfl fn))))) (lp117_5741 _ v5729 I5714 J5715 hI5714 fiI5714 fjJ5715 fqI5714 w5716 ew5716 w5717 ew5717 w5718 ew5718 w5719 ew5719 w5720 ew5720 w5721 ew5721 w5722 ew5722 w5723 ew5723 w5724 ew5724 (by omega) (by omega) (by omega) (by omega) (by omega) (by omega) (by omega) (by omega) (by omega) (by omega) (by omega) (Nat.lt_succ_self _))
              · refine WP_lload_n dX11_dayOf_97 rfl ?_
                refine WP_aload_n dX11_dayOf_98 rfl ?_
                refine WP_aload_n dX11_dayOf_99 rfl ?_
                refine WP_iload dX11_dayOf_100 rfl ?_
                refine WP_iload_n dX11_dayOf_102 rfl ?_
                refine WP_callV3 (k := 11) dX11_dayOf_103 ⟨⟨⟨by decide, by decide⟩, zX11_sortDay⟩, lX11_474, by decide, rfl, vX11_sortDay.1, vX11_sortDay.2⟩ (ly_is hy 0 11 rfl) (sm_sortDay_38 hy hr hI5714 i5713 v5690 (by omega) (by omega) (by omega) (by omega) (by rw [ew5718]; omega)) (Nat.le_of_ble_eq_true rfl) ?_
                intro r I5780 J5781 Ra hq
                obtain ⟨⟨hI5780, ec, fiI5780, ejI5780, fqI5780, ⟨pI5780, sI5780_38_32, sI5780_38_33, sI5780_0_10, sI5780_0_14, sI5780_0_68, sI5780_38_28, sI5780_38_29, sI5780_38_30, sI5780_38_31⟩⟩, l5782, rfl⟩ := hq
                show WP _ _ _ _ (.long _ :: _) _ _ _ _
                rw [ec]
                clear ec Ra
                have fr5783 : fz 49 g [0, 35, 36, 37, 40, 41, 38] I I5780 := fz_tr fiI5714 (fz_mono fiI5780 (by decide))
                have fr5784 : fs g [56] I I5780 := fs_tr fqI5714 (fs_mono fqI5780 (by decide))
                rw [ejI5780]
                clear ejI5780 J5781
                have e5785 : I5780 (ad g 38) 32 = w5716 := by rw [sI5780_38_32]; exact ew5716
                have e5786 : I5780 (ad g 38) 33 = w5717 := by rw [sI5780_38_33]; exact ew5717
                have e5787 : I5780 (ad g 0) 10 = w5718 := by rw [sI5780_0_10]; exact ew5718
                have e5788 : I5780 (ad g 0) 14 = w5719 := by rw [sI5780_0_14]; exact ew5719
                have e5789 : I5780 (ad g 0) 68 = w5720 := by rw [sI5780_0_68]; exact ew5720
                have e5790 : I5780 (ad g 38) 28 = w5721 := by rw [sI5780_38_28]; exact ew5721
                have e5791 : I5780 (ad g 38) 29 = w5722 := by rw [sI5780_38_29]; exact ew5722
                have e5792 : I5780 (ad g 38) 30 = w5723 := by rw [sI5780_38_30]; exact ew5723
                have e5793 : I5780 (ad g 38) 31 = w5724 := by rw [sI5780_38_31]; exact ew5724
                have e5794 : I5780 (ad g 0) 1 = L := hI5780.1.2
                have b5795 := BT_get hI5780.1.1 0 1 2 (0) (0) (900) (by decide) 1 (by decide) (by decide)
                rw [e5794] at b5795
                refine WQ_ladd dX11_dayOf_106 (fun l5796 => ?_)
                refine WP_lstore_n (ls' := [(0, _), (1, _), (2, _), (3, _), (5, _)]) dX11_dayOf_107 (by decide) rfl ?_
                refine WP_iinc (ls' := [(0, _), (1, _), (2, _), (3, _), (5, _)]) dX11_dayOf_108 rfl (by decide) rfl ?_
                have hv5797 : (i5713 + Int32.ofInt (1)).toInt = i5713.toInt + (1) := ia_n rfl (by omega) (by omega)
                generalize i5713 + Int32.ofInt (1) = v5797 at hv5797 ⊢
                refine WP_goto 88 dX11_dayOf_111 rfl ?_
                exact WP_sub (fc rfl (fc rfl (fc rfl (fc rfl (fc rfl fn))))) (ihlp88_5724 l5796 v5797 I5780 J5715 hI5780 fr5783 fjJ5715 fr5784 w5716 e5785 w5717 e5786 w5718 e5787 w5719 e5788 w5720 e5789 w5721 e5790 w5722 e5791 w5723 e5792 w5724 e5793 (by omega) (by omega) (by omega) (by omega) (by omega) (by omega) (by omega) (by omega) (by omega) (by omega) (by omega) (by omega))
          exact WP_sub (fc rfl (fc rfl (fc rfl (fc rfl (fc rfl fn))))) (lp88_5724 _ l5691 v5711 I5695 J5696 hI5695 fiI5695 fjJ5696 fqI5695 w5697 ew5697 w5698 ew5698 w5699 ew5699 w5700 ew5700 w5701 ew5701 w5702 ew5702 w5703 ew5703 w5704 ew5704 w5705 ew5705 (by omega) (by omega) (by omega) (by omega) (by omega) (by omega) (by omega) (by omega) (by omega) (by omega) (by omega) (Nat.lt_succ_self _))
        · refine WP_aload_n dX11_dayOf_31 rfl ?_
          refine WP_getr dX11_dayOf_32 fX11_289 rfl (ly_is hy 0 11 rfl) (rf hr 0 62 40 (by decide)) ?_
          refine WP_iload dX11_dayOf_35 rfl ?_
          refine WP_aload_n dX11_dayOf_37 rfl ?_
          refine WQ_geti dX11_dayOf_38 fX11_470 rfl (ly_is hy 0 11 rfl) (BT_get hI5695.1.1 0 64 65 (0) (0) (1) (by decide) 64 (by decide) (by decide)) (fun v5798 ev5798 av5798 bv5798 => ?_)
          have jn78_5811 : ∀ (v5811 : Int32), 0 ≤ v5811.toInt → v5811.toInt ≤ 1000000 → WP g mX11_dayOf 78 [(0, .ref (ad g 0)), (1, .ref (ad g 38)), (2, .int v5690), (3, .long l5691), (5, .int i5694)] [.int v5811, .int i5694, .ref (ad g 40)] I5695 J5696 R (fun r I' J' R' => (MP g n L I' ∧ R' = R ∧ fz 49 g [0, 35, 36, 37, 40, 41, 38] I I' ∧ fz 49 g [] J J' ∧ fs g [56] I I' ∧ ((I' (ad g 38) 32).toInt ≤ (I (ad g 38) 32).toInt + 23760 ∧ (I' (ad g 38) 33).toInt = (I (ad g 38) 33).toInt + 1) ∧ I' (ad g 0) 10 = I (ad g 0) 10 ∧ I' (ad g 0) 14 = I (ad g 0) 14 ∧ I' (ad g 0) 68 = I (ad g 0) 68 ∧ I' (ad g 38) 28 = I (ad g 38) 28 ∧ I' (ad g 38) 29 = I (ad g 38) 29 ∧ I' (ad g 38) 30 = I (ad g 38) 30 ∧ I' (ad g 38) 31 = I (ad g 38) 31) ∧ ∃ v : Int64, r = some (.long v)) := by
            intro v5811 av5811 bv5811
            refine WQ_iast dX11_dayOf_78 (ly_is hy 40 13 rfl) (ly_n hy 40 3 rfl) (by omega) (by omega) (fun I5813 eI5813 => ?_)
            have hI5813 : MP g n L I5813 := by rw [eI5813]; exact (mp_w hy hI5695 (c := 40) (mi_r hy hI5695.1 (c := 40) (0) (0) (1000000) (by decide) (Or.inl (by decide)) (by decide) (by omega) (by omega)) (by decide) (by decide) (Or.inl (by decide)))
            have e5814 : I5813 (ad g 38) 32 = w5697 := by rw [eI5813, pp_ne _ _ (Or.inl (ly_ne hy (by decide) (by decide) (by decide)))]; exact ew5697
            have e5815 : I5813 (ad g 38) 33 = w5698 := by rw [eI5813, pp_ne _ _ (Or.inl (ly_ne hy (by decide) (by decide) (by decide)))]; exact ew5698
            have e5816 : I5813 (ad g 0) 10 = w5699 := by rw [eI5813, pp_ne _ _ (Or.inl (ly_ne hy (by decide) (by decide) (by decide)))]; exact ew5699
            have e5817 : I5813 (ad g 0) 14 = w5700 := by rw [eI5813, pp_ne _ _ (Or.inl (ly_ne hy (by decide) (by decide) (by decide)))]; exact ew5700
            have e5818 : I5813 (ad g 0) 68 = w5701 := by rw [eI5813, pp_ne _ _ (Or.inl (ly_ne hy (by decide) (by decide) (by decide)))]; exact ew5701
            have e5819 : I5813 (ad g 38) 28 = w5702 := by rw [eI5813, pp_ne _ _ (Or.inl (ly_ne hy (by decide) (by decide) (by decide)))]; exact ew5702
            have e5820 : I5813 (ad g 38) 29 = w5703 := by rw [eI5813, pp_ne _ _ (Or.inl (ly_ne hy (by decide) (by decide) (by decide)))]; exact ew5703
            have e5821 : I5813 (ad g 38) 30 = w5704 := by rw [eI5813, pp_ne _ _ (Or.inl (ly_ne hy (by decide) (by decide) (by decide)))]; exact ew5704
            have e5822 : I5813 (ad g 38) 31 = w5705 := by rw [eI5813, pp_ne _ _ (Or.inl (ly_ne hy (by decide) (by decide) (by decide)))]; exact ew5705
            have e5823 : I5813 (ad g 0) 1 = L := by rw [eI5813, pp_ne _ _ (Or.inl (ly_ne hy (by decide) (by decide) (by decide)))]; exact e5707
            have e5824 : I5813 (ad g 0) 11 = v5709 := by rw [eI5813, pp_ne _ _ (Or.inl (ly_ne hy (by decide) (by decide) (by decide)))]; exact ev5709
            have e5825 : I5813 (ad g 0) 64 = v5798 := by rw [eI5813, pp_ne _ _ (Or.inl (ly_ne hy (by decide) (by decide) (by decide)))]; exact ev5798
            have fr5826 : fs g [56] I I5813 := by rw [eI5813]; exact fs_ppn hy fqI5695 (by decide) (by decide)
            have fr5827 : fz 49 g [0, 35, 36, 37, 40, 41, 38] I I5813 := by rw [eI5813]; exact fzm_pp hy fiI5695 (by decide) (by decide)
            clear eI5813
            refine WP_iinc (ls' := [(0, _), (1, _), (2, _), (3, _), (5, _)]) dX11_dayOf_79 rfl (by decide) rfl ?_
            have hv5828 : (i5694 + Int32.ofInt (1)).toInt = i5694.toInt + (1) := ia_n rfl (by omega) (by omega)
            generalize i5694 + Int32.ofInt (1) = v5828 at hv5828 ⊢
            refine WP_goto 22 dX11_dayOf_82 rfl ?_
            exact WP_sub (fc rfl (fc rfl (fc rfl (fc rfl (fc rfl fn))))) (ihlp22_5705 v5828 I5813 J5696 hI5813 fr5827 fjJ5696 fr5826 w5697 e5814 w5698 e5815 w5699 e5816 w5700 e5817 w5701 e5818 w5702 e5819 w5703 e5820 w5704 e5821 w5705 e5822 (by omega) (by omega) (by omega) (by omega) (by omega) (by omega) (by omega) (by omega) (by omega) (by omega) (by omega) (by omega))
          refine WQ_if_ne 60 dX11_dayOf_41 rfl (fun c5828 => ?_) (fun c5828 => ?_)
          · refine WP_ldcw (1000000) dX11_dayOf_60 kX11_460 ?_
            obtain ⟨v5830, hv5830, ev5830⟩ : ∃ v : Int32, v.toInt = 1000000 ∧ ((1000000) : Int32) = v := ⟨(1000000), rfl, rfl⟩
            rw [ev5830]; clear ev5830
            refine WP_goto 78 dX11_dayOf_63 rfl ?_
            exact WP_sub (fc rfl (fc rfl (fc rfl (fc rfl (fc rfl fn))))) (jn78_5811 v5830 (by omega) (by omega))
          · refine WP_aload_n dX11_dayOf_44 rfl ?_
            refine WP_getr dX11_dayOf_45 fX11_259 rfl (ly_is hy 0 11 rfl) (rf hr 0 41 23 (by decide)) ?_
            refine WQ_bipush (7) (7) dX11_dayOf_48 rfl rfl (fun v5831 hv5831 => ?_)
            refine WP_iload dX11_dayOf_50 rfl ?_
            refine WQ_imulK (7) dX11_dayOf_52 hv5831 (by omega) (by omega) (fun v5832 hv5832 => ?_)
            refine WP_iload_n dX11_dayOf_53 rfl ?_
            refine WQ_iadd dX11_dayOf_54 (by omega) (by omega) (fun v5833 hv5833 => ?_)
            refine WQ_ialdb dX11_dayOf_55 (ly_is hy 23 13 rfl) (ly_n hy 23 21 rfl) (by omega) (by omega) (fun q hq => BT_get hI5695.1.1 23 0 21 (-1) (0) (999) (by decide) q (Nat.zero_le _) hq) (fun v5834 av5834 bv5834 zv5834 => ?_)
            refine WQ_iconst (-1) (-1) dX11_dayOf_56 rfl rfl (fun v5835 hv5835 => ?_)
            refine WQ_icmp_ne 66 dX11_dayOf_57 rfl (fun c5835 => ?_) (fun c5835 => ?_)
            · refine WP_aload_n dX11_dayOf_66 rfl ?_
              refine WP_getr dX11_dayOf_67 fX11_259 rfl (ly_is hy 0 11 rfl) (rf hr 0 41 23 (by decide)) ?_
              refine WQ_bipush (7) (7) dX11_dayOf_70 rfl rfl (fun v5837 hv5837 => ?_)
              refine WP_iload dX11_dayOf_72 rfl ?_
              refine WQ_imulK (7) dX11_dayOf_74 hv5837 (by omega) (by omega) (fun v5838 hv5838 => ?_)
              refine WP_iload_n dX11_dayOf_75 rfl ?_
              refine WQ_iadd dX11_dayOf_76 (by omega) (by omega) (fun v5839 hv5839 => ?_)
              refine WQ_ialdb dX11_dayOf_77 (ly_is hy 23 13 rfl) (ly_n hy 23 21 rfl) (by omega) (by omega) (fun q hq => BT_get hI5695.1.1 23 0 21 (-1) (0) (999) (by decide) q (Nat.zero_le _) hq) (fun v5840 av5840 bv5840 zv5840 => ?_)
              have tv5840 : v5840.toInt = v5834.toInt := by rw [← zv5840, ← zv5834, show v5839.toInt.toNat = v5833.toInt.toNat by omega]
              exact WP_sub (fc rfl (fc rfl (fc rfl (fc rfl (fc rfl fn))))) (jn78_5811 v5840 (by omega) (by omega))
            · refine WP_ldcw (1000000) dX11_dayOf_60 kX11_460 ?_
              obtain ⟨v5841, hv5841, ev5841⟩ : ∃ v : Int32, v.toInt = 1000000 ∧ ((1000000) : Int32) = v := ⟨(1000000), rfl, rfl⟩
              rw [ev5841]; clear ev5841
              refine WP_goto 78 dX11_dayOf_63 rfl ?_
              exact WP_sub (fc rfl (fc rfl (fc rfl (fc rfl (fc rfl fn))))) (jn78_5811 v5841 (by omega) (by omega))
    exact WP_sub (fc rfl (fc rfl (fc rfl (fc rfl (fc rfl fn))))) (lp22_5705 _ v5693 I J hI fr0 frj0 frq0 w5685 ew5685 w5686 ew5686 w5678 ew5678 w5679 ew5679 w5680 ew5680 w5681 ew5681 w5682 ew5682 w5683 ew5683 w5684 ew5684 (by omega) (by omega) (by omega) (by omega) (by omega) (by omega) (by omega) (by omega) (by omega) (by omega) (by omega) (Nat.lt_succ_self _))
  · refine WP_aload_n dX11_dayOf_14 rfl ?_
    refine WP_aload_n dX11_dayOf_15 rfl ?_
    refine WP_callV1 (k := 11) dX11_dayOf_16 ⟨⟨⟨by decide, by decide⟩, zX11_openChest⟩, lX11_467, by decide, rfl, vX11_openChest.1, vX11_openChest.2⟩ (ly_is hy 0 11 rfl) (sm_openChestx_38 hy hr hI   (by omega) (by rw [ew5685]; omega)) (Nat.le_of_ble_eq_true rfl) ?_
    intro r I5842 J5843 Ra hq
    obtain ⟨⟨hI5842, ec, fiI5842, fjI5842, fqI5842, ⟨pI5842, sI5842_38_33, sI5842_0_10, sI5842_0_14, sI5842_0_68, sI5842_38_28, sI5842_38_29, sI5842_38_30, sI5842_38_31⟩⟩, rfl⟩ := hq
    rw [ec]
    clear ec Ra
    have fr5844 : fz 49 g [0, 35, 36, 37, 40, 41, 38] I I5842 := fz_tr fr0 (fz_mono fiI5842 (by decide))
    have fr5845 : fs g [56] I I5842 := fs_tr frq0 (fs_mono fqI5842 (by decide))
    have fr5846 : fz 49 g [] J J5843 := fz_tr frj0 (fz_mono fjI5842 (by decide))
    have e5847 : I5842 (ad g 38) 33 = w5686 := by rw [sI5842_38_33]; exact ew5686
    have e5848 : I5842 (ad g 0) 10 = w5678 := by rw [sI5842_0_10]; exact ew5678
    have e5849 : I5842 (ad g 0) 14 = w5679 := by rw [sI5842_0_14]; exact ew5679
    have e5850 : I5842 (ad g 0) 68 = w5680 := by rw [sI5842_0_68]; exact ew5680
    have e5851 : I5842 (ad g 38) 28 = w5681 := by rw [sI5842_38_28]; exact ew5681
    have e5852 : I5842 (ad g 38) 29 = w5682 := by rw [sI5842_38_29]; exact ew5682
    have e5853 : I5842 (ad g 38) 30 = w5683 := by rw [sI5842_38_30]; exact ew5683
    have e5854 : I5842 (ad g 38) 31 = w5684 := by rw [sI5842_38_31]; exact ew5684
    have e5855 : I5842 (ad g 0) 1 = L := hI5842.1.2
    have b5856 := BT_get hI5842.1.1 0 1 2 (0) (0) (900) (by decide) 1 (by decide) (by decide)
    rw [e5855] at b5856
    obtain ⟨w5857, ew5857⟩ : ∃ w : Int32, I5842 (ad g 38) 32 = w := ⟨_, rfl⟩
    have bw5857 := BT_get hI5842.1.1 38 32 33 (0) (23760) (0) (by decide) 32 (by decide) (by decide)
    rw [ew5857] at bw5857
    rw [ew5857, ew5685] at pI5842
    refine WQ_iconst (0) (0) dX11_dayOf_19 rfl rfl (fun v5858 hv5858 => ?_)
    refine WP_istore (ls' := [(0, _), (1, _), (2, _), (3, _), (5, _)]) dX11_dayOf_20 (by decide) rfl ?_
    have lp22_5870 : ∀ (mz : Nat) (i5859 : Int32) (I5860 : pI) (J5861 : pJ), MP g n L I5860 → fz 49 g [0, 35, 36, 37, 40, 41, 38] I I5860 → fz 49 g [] J J5861 → fs g [56] I I5860 → ∀ (w5862 : Int32), I5860 (ad g 38) 32 = w5862 → ∀ (w5863 : Int32), I5860 (ad g 38) 33 = w5863 → ∀ (w5864 : Int32), I5860 (ad g 0) 10 = w5864 → ∀ (w5865 : Int32), I5860 (ad g 0) 14 = w5865 → ∀ (w5866 : Int32), I5860 (ad g 0) 68 = w5866 → ∀ (w5867 : Int32), I5860 (ad g 38) 28 = w5867 → ∀ (w5868 : Int32), I5860 (ad g 38) 29 = w5868 → ∀ (w5869 : Int32), I5860 (ad g 38) 30 = w5869 → ∀ (w5870 : Int32), I5860 (ad g 38) 31 = w5870 → 0 ≤ i5859.toInt → i5859.toInt ≤ 3 → w5863.toInt = w5686.toInt → w5864.toInt = w5678.toInt → w5865.toInt = w5679.toInt → w5866.toInt = w5680.toInt → w5867.toInt = w5681.toInt → w5868.toInt = w5682.toInt → w5869.toInt = w5683.toInt → w5870.toInt = w5684.toInt → w5862.toInt ≤ w5685.toInt → (4 - i5859.toInt).toNat < mz → WP g mX11_dayOf 22 [(0, .ref (ad g 0)), (1, .ref (ad g 38)), (2, .int v5690), (3, .long l5691), (5, .int i5859)] [] I5860 J5861 R (fun r I' J' R' => (MP g n L I' ∧ R' = R ∧ fz 49 g [0, 35, 36, 37, 40, 41, 38] I I' ∧ fz 49 g [] J J' ∧ fs g [56] I I' ∧ ((I' (ad g 38) 32).toInt ≤ (I (ad g 38) 32).toInt + 23760 ∧ (I' (ad g 38) 33).toInt = (I (ad g 38) 33).toInt + 1) ∧ I' (ad g 0) 10 = I (ad g 0) 10 ∧ I' (ad g 0) 14 = I (ad g 0) 14 ∧ I' (ad g 0) 68 = I (ad g 0) 68 ∧ I' (ad g 38) 28 = I (ad g 38) 28 ∧ I' (ad g 38) 29 = I (ad g 38) 29 ∧ I' (ad g 38) 30 = I (ad g 38) 30 ∧ I' (ad g 38) 31 = I (ad g 38) 31) ∧ ∃ v : Int64, r = some (.long v)) := by
      intro mz
      induction mz with
      | zero =>
        intro i5859 I5860 J5861 hI5860 fiI5860 fjJ5861 fqI5860 w5862 ew5862 w5863 ew5863 w5864 ew5864 w5865 ew5865 w5866 ew5866 w5867 ew5867 w5868 ew5868 w5869 ew5869 w5870 ew5870 ai5859 bi5859 j0_I5860 j1_I5860 j2_I5860 j3_I5860 j4_I5860 j5_I5860 j6_I5860 j7_I5860 j8_I5860 hmlp22_5870
        exact absurd hmlp22_5870 (Nat.not_lt_zero _)
      | succ mz ihlp22_5870 =>
        intro i5859 I5860 J5861 hI5860 fiI5860 fjJ5861 fqI5860 w5862 ew5862 w5863 ew5863 w5864 ew5864 w5865 ew5865 w5866 ew5866 w5867 ew5867 w5868 ew5868 w5869 ew5869 w5870 ew5870 ai5859 bi5859 j0_I5860 j1_I5860 j2_I5860 j3_I5860 j4_I5860 j5_I5860 j6_I5860 j7_I5860 j8_I5860 hmlp22_5870
        have bw5862 := BT_get hI5860.1.1 38 32 33 (0) (23760) (0) (by decide) 32 (by decide) (by decide)
        rw [ew5862] at bw5862
        have bw5863 := BT_get hI5860.1.1 38 33 34 (0) (1) (0) (by decide) 33 (by decide) (by decide)
        rw [ew5863] at bw5863
        have bw5864 := BT_get hI5860.1.1 0 10 11 (0) (0) (4) (by decide) 10 (by decide) (by decide)
        rw [ew5864] at bw5864
        have bw5865 := BT_get hI5860.1.1 0 14 15 (-1) (0) (2) (by decide) 14 (by decide) (by decide)
        rw [ew5865] at bw5865
        have e5872 : I5860 (ad g 0) 1 = L := hI5860.1.2
        have b5873 := BT_get hI5860.1.1 0 1 2 (0) (0) (900) (by decide) 1 (by decide) (by decide)
        rw [e5872] at b5873
        refine WP_iload dX11_dayOf_22 rfl ?_
        refine WP_aload_n dX11_dayOf_24 rfl ?_
        refine WQ_geti dX11_dayOf_25 fX11_332 rfl (ly_is hy 0 11 rfl) (BT_get hI5860.1.1 0 11 12 (0) (0) (3) (by decide) 11 (by decide) (by decide)) (fun v5874 ev5874 av5874 bv5874 => ?_)
        refine WQ_icmp_ge 85 dX11_dayOf_28 rfl (fun c5874 => ?_) (fun c5874 => ?_)
        · refine WQ_iconst (0) (0) dX11_dayOf_85 rfl rfl (fun v5876 hv5876 => ?_)
          refine WP_istore (ls' := [(0, _), (1, _), (2, _), (3, _), (5, _)]) dX11_dayOf_86 (by decide) rfl ?_
          have lp88_5889 : ∀ (mz : Nat) (l5877 : Int64) (i5878 : Int32) (I5879 : pI) (J5880 : pJ), MP g n L I5879 → fz 49 g [0, 35, 36, 37, 40, 41, 38] I I5879 → fz 49 g [] J J5880 → fs g [56] I I5879 → ∀ (w5881 : Int32), I5879 (ad g 38) 32 = w5881 → ∀ (w5882 : Int32), I5879 (ad g 38) 33 = w5882 → ∀ (w5883 : Int32), I5879 (ad g 0) 10 = w5883 → ∀ (w5884 : Int32), I5879 (ad g 0) 14 = w5884 → ∀ (w5885 : Int32), I5879 (ad g 0) 68 = w5885 → ∀ (w5886 : Int32), I5879 (ad g 38) 28 = w5886 → ∀ (w5887 : Int32), I5879 (ad g 38) 29 = w5887 → ∀ (w5888 : Int32), I5879 (ad g 38) 30 = w5888 → ∀ (w5889 : Int32), I5879 (ad g 38) 31 = w5889 → 0 ≤ i5878.toInt → i5878.toInt ≤ 4 → w5882.toInt = w5686.toInt → w5883.toInt = w5678.toInt → w5884.toInt = w5679.toInt → w5885.toInt = w5680.toInt → w5886.toInt = w5681.toInt → w5887.toInt = w5682.toInt → w5888.toInt = w5683.toInt → w5889.toInt = w5684.toInt → w5881.toInt ≤ w5685.toInt → (5 - i5878.toInt).toNat < mz → WP g mX11_dayOf 88 [(0, .ref (ad g 0)), (1, .ref (ad g 38)), (2, .int v5690), (3, .long l5877), (5, .int i5878)] [] I5879 J5880 R (fun r I' J' R' => (MP g n L I' ∧ R' = R ∧ fz 49 g [0, 35, 36, 37, 40, 41, 38] I I' ∧ fz 49 g [] J J' ∧ fs g [56] I I' ∧ ((I' (ad g 38) 32).toInt ≤ (I (ad g 38) 32).toInt + 23760 ∧ (I' (ad g 38) 33).toInt = (I (ad g 38) 33).toInt + 1) ∧ I' (ad g 0) 10 = I (ad g 0) 10 ∧ I' (ad g 0) 14 = I (ad g 0) 14 ∧ I' (ad g 0) 68 = I (ad g 0) 68 ∧ I' (ad g 38) 28 = I (ad g 38) 28 ∧ I' (ad g 38) 29 = I (ad g 38) 29 ∧ I' (ad g 38) 30 = I (ad g 38) 30 ∧ I' (ad g 38) 31 = I (ad g 38) 31) ∧ ∃ v : Int64, r = some (.long v)) := by
            intro mz
            induction mz with
            | zero =>
              intro l5877 i5878 I5879 J5880 hI5879 fiI5879 fjJ5880 fqI5879 w5881 ew5881 w5882 ew5882 w5883 ew5883 w5884 ew5884 w5885 ew5885 w5886 ew5886 w5887 ew5887 w5888 ew5888 w5889 ew5889 ai5878 bi5878 j0_I5879 j1_I5879 j2_I5879 j3_I5879 j4_I5879 j5_I5879 j6_I5879 j7_I5879 j8_I5879 hmlp88_5889
              exact absurd hmlp88_5889 (Nat.not_lt_zero _)
            | succ mz ihlp88_5889 =>
              intro l5877 i5878 I5879 J5880 hI5879 fiI5879 fjJ5880 fqI5879 w5881 ew5881 w5882 ew5882 w5883 ew5883 w5884 ew5884 w5885 ew5885 w5886 ew5886 w5887 ew5887 w5888 ew5888 w5889 ew5889 ai5878 bi5878 j0_I5879 j1_I5879 j2_I5879 j3_I5879 j4_I5879 j5_I5879 j6_I5879 j7_I5879 j8_I5879 hmlp88_5889
              have bw5881 := BT_get hI5879.1.1 38 32 33 (0) (23760) (0) (by decide) 32 (by decide) (by decide)
              rw [ew5881] at bw5881
              have bw5882 := BT_get hI5879.1.1 38 33 34 (0) (1) (0) (by decide) 33 (by decide) (by decide)
              rw [ew5882] at bw5882
              have bw5883 := BT_get hI5879.1.1 0 10 11 (0) (0) (4) (by decide) 10 (by decide) (by decide)
              rw [ew5883] at bw5883
              have bw5884 := BT_get hI5879.1.1 0 14 15 (-1) (0) (2) (by decide) 14 (by decide) (by decide)
              rw [ew5884] at bw5884
              have e5891 : I5879 (ad g 0) 1 = L := hI5879.1.2
              have b5892 := BT_get hI5879.1.1 0 1 2 (0) (0) (900) (by decide) 1 (by decide) (by decide)
              rw [e5891] at b5892
              refine WP_iload dX11_dayOf_88 rfl ?_
              refine WP_aload_n dX11_dayOf_90 rfl ?_
              refine WQ_getim dX11_dayOf_91 fX11_329 rfl (ly_is hy 0 11 rfl) ew5883 ?_
              refine WQ_icmp_ge 114 dX11_dayOf_94 rfl (fun c5892 => ?_) (fun c5892 => ?_)
              · refine WQ_iconst (0) (0) dX11_dayOf_114 rfl rfl (fun v5894 hv5894 => ?_)
                refine WP_istore (ls' := [(0, _), (1, _), (2, _), (3, _), (5, _)]) dX11_dayOf_115 (by decide) rfl ?_
                have lp117_5906 : ∀ (mz : Nat) (i5895 : Int32) (I5896 : pI) (J5897 : pJ), MP g n L I5896 → fz 49 g [0, 35, 36, 37, 40, 41, 38] I I5896 → fz 49 g [] J J5897 → fs g [56] I I5896 → ∀ (w5898 : Int32), I5896 (ad g 38) 32 = w5898 → ∀ (w5899 : Int32), I5896 (ad g 38) 33 = w5899 → ∀ (w5900 : Int32), I5896 (ad g 0) 10 = w5900 → ∀ (w5901 : Int32), I5896 (ad g 0) 14 = w5901 → ∀ (w5902 : Int32), I5896 (ad g 0) 68 = w5902 → ∀ (w5903 : Int32), I5896 (ad g 38) 28 = w5903 → ∀ (w5904 : Int32), I5896 (ad g 38) 29 = w5904 → ∀ (w5905 : Int32), I5896 (ad g 38) 30 = w5905 → ∀ (w5906 : Int32), I5896 (ad g 38) 31 = w5906 → 0 ≤ i5895.toInt → i5895.toInt ≤ 4 → w5899.toInt = w5686.toInt → w5900.toInt = w5678.toInt → w5901.toInt = w5679.toInt → w5902.toInt = w5680.toInt → w5903.toInt = w5681.toInt → w5904.toInt = w5682.toInt → w5905.toInt = w5683.toInt → w5906.toInt = w5684.toInt → w5898.toInt ≤ w5685.toInt + 5940 * i5895.toInt → (5 - i5895.toInt).toNat < mz → WP g mX11_dayOf 117 [(0, .ref (ad g 0)), (1, .ref (ad g 38)), (2, .int v5690), (3, .long l5877), (5, .int i5895)] [] I5896 J5897 R (fun r I' J' R' => (MP g n L I' ∧ R' = R ∧ fz 49 g [0, 35, 36, 37, 40, 41, 38] I I' ∧ fz 49 g [] J J' ∧ fs g [56] I I' ∧ ((I' (ad g 38) 32).toInt ≤ (I (ad g 38) 32).toInt + 23760 ∧ (I' (ad g 38) 33).toInt = (I (ad g 38) 33).toInt + 1) ∧ I' (ad g 0) 10 = I (ad g 0) 10 ∧ I' (ad g 0) 14 = I (ad g 0) 14 ∧ I' (ad g 0) 68 = I (ad g 0) 68 ∧ I' (ad g 38) 28 = I (ad g 38) 28 ∧ I' (ad g 38) 29 = I (ad g 38) 29 ∧ I' (ad g 38) 30 = I (ad g 38) 30 ∧ I' (ad g 38) 31 = I (ad g 38) 31) ∧ ∃ v : Int64, r = some (.long v)) := by
                  intro mz
                  induction mz with
                  | zero =>
                    intro i5895 I5896 J5897 hI5896 fiI5896 fjJ5897 fqI5896 w5898 ew5898 w5899 ew5899 w5900 ew5900 w5901 ew5901 w5902 ew5902 w5903 ew5903 w5904 ew5904 w5905 ew5905 w5906 ew5906 ai5895 bi5895 j0_I5896 j1_I5896 j2_I5896 j3_I5896 j4_I5896 j5_I5896 j6_I5896 j7_I5896 j8_I5896 hmlp117_5906
                    exact absurd hmlp117_5906 (Nat.not_lt_zero _)
                  | succ mz ihlp117_5906 =>
                    intro i5895 I5896 J5897 hI5896 fiI5896 fjJ5897 fqI5896 w5898 ew5898 w5899 ew5899 w5900 ew5900 w5901 ew5901 w5902 ew5902 w5903 ew5903 w5904 ew5904 w5905 ew5905 w5906 ew5906 ai5895 bi5895 j0_I5896 j1_I5896 j2_I5896 j3_I5896 j4_I5896 j5_I5896 j6_I5896 j7_I5896 j8_I5896 hmlp117_5906
                    have bw5898 := BT_get hI5896.1.1 38 32 33 (0) (23760) (0) (by decide) 32 (by decide) (by decide)
                    rw [ew5898] at bw5898
                    have bw5899 := BT_get hI5896.1.1 38 33 34 (0) (1) (0) (by decide) 33 (by decide) (by decide)
                    rw [ew5899] at bw5899
                    have bw5900 := BT_get hI5896.1.1 0 10 11 (0) (0) (4) (by decide) 10 (by decide) (by decide)
                    rw [ew5900] at bw5900
                    have bw5901 := BT_get hI5896.1.1 0 14 15 (-1) (0) (2) (by decide) 14 (by decide) (by decide)
                    rw [ew5901] at bw5901
                    have e5908 : I5896 (ad g 0) 1 = L := hI5896.1.2
                    have b5909 := BT_get hI5896.1.1 0 1 2 (0) (0) (900) (by decide) 1 (by decide) (by decide)
                    rw [e5908] at b5909
                    refine WP_iload dX11_dayOf_117 rfl ?_
                    refine WP_aload_n dX11_dayOf_119 rfl ?_
                    refine WQ_getim dX11_dayOf_120 fX11_329 rfl (ly_is hy 0 11 rfl) ew5900 ?_
                    refine WQ_icmp_ge 140 dX11_dayOf_123 rfl (fun c5909 => ?_) (fun c5909 => ?_)
                    · refine WP_aload_n dX11_dayOf_140 rfl ?_
                      refine WQ_bipush (33) (33) dX11_dayOf_141 rfl rfl (fun v5911 hv5911 => ?_)
                      refine WP_dup2 dX11_dayOf_143 rfl rfl ?_
                      refine WQ_ialdm (z := 33) dX11_dayOf_144 (ly_is hy 38 13 rfl) (ly_n hy 38 35 rfl) hv5911 (by decide) ew5899 ?_
                      refine WQ_iconst (1) (1) dX11_dayOf_145 rfl rfl (fun v5913 hv5913 => ?_)
                      refine WQ_iadd dX11_dayOf_146 (by omega) (by omega) (fun v5914 hv5914 => ?_)
                      refine WQ_iast dX11_dayOf_147 (ly_is hy 38 13 rfl) (ly_n hy 38 35 rfl) (by omega) (by omega) (fun I5915 fI5915 => ?_)
                      have eI5915 := fI5915
                      rw [cl (x := v5911) (n := 33) (by omega)] at eI5915
                      clear fI5915
                      have hI5915 : MP g n L I5915 := by rw [eI5915]; exact (mp_w hy hI5896 (c := 38) (mi_f hy hI5896.1 (c := 38) (0) (1) (0) (by decide) (Or.inl (by decide)) (by decide) (by omega) (by omega)) (by decide) (by decide) (Or.inl (by decide)))
                      have e5916 : I5915 (ad g 38) 32 = w5898 := by rw [eI5915, pp_ne _ _ (Or.inr (by decide))]; exact ew5898
                      have e5917 : I5915 (ad g 0) 10 = w5900 := by rw [eI5915, pp_ne _ _ (Or.inl (ly_ne hy (by decide) (by decide) (by decide)))]; exact ew5900
                      have e5918 : I5915 (ad g 0) 14 = w5901 := by rw [eI5915, pp_ne _ _ (Or.inl (ly_ne hy (by decide) (by decide) (by decide)))]; exact ew5901
                      have e5919 : I5915 (ad g 0) 68 = w5902 := by rw [eI5915, pp_ne _ _ (Or.inl (ly_ne hy (by decide) (by decide) (by decide)))]; exact ew5902
                      have e5920 : I5915 (ad g 38) 28 = w5903 := by rw [eI5915, pp_ne _ _ (Or.inr (by decide))]; exact ew5903
                      have e5921 : I5915 (ad g 38) 29 = w5904 := by rw [eI5915, pp_ne _ _ (Or.inr (by decide))]; exact ew5904
                      have e5922 : I5915 (ad g 38) 30 = w5905 := by rw [eI5915, pp_ne _ _ (Or.inr (by decide))]; exact ew5905
                      have e5923 : I5915 (ad g 38) 31 = w5906 := by rw [eI5915, pp_ne _ _ (Or.inr (by decide))]; exact ew5906
                      have e5924 : I5915 (ad g 0) 1 = L := by rw [eI5915, pp_ne _ _ (Or.inl (ly_ne hy (by decide) (by decide) (by decide)))]; exact e5908
                      have e5925 : I5915 (ad g 38) 33 = v5914 := by rw [eI5915, pp_self]
                      have fr5926 : fs g [56] I I5915 := by rw [eI5915]; exact fs_ppn hy fqI5896 (by decide) (by decide)
                      have fr5927 : fz 49 g [0, 35, 36, 37, 40, 41, 38] I I5915 := by rw [eI5915]; exact fzm_pp hy fiI5896 (by decide) (by decide)
                      clear eI5915
                      refine WP_lload_n dX11_dayOf_148 rfl ?_
                      exact WP_lret dX11_dayOf_149 rfl ⟨⟨hI5915, rfl, fr5927, fjJ5897, fr5926, ⟨(by rw [e5916, ew5685, e5925, ew5686]; omega), (by rw [e5917, ew5678] <;> exact (eq32 _ _).mpr (by omega)), (by rw [e5918, ew5679] <;> exact (eq32 _ _).mpr (by omega)), (by rw [e5919, ew5680] <;> exact (eq32 _ _).mpr (by omega)), (by rw [e5920, ew5681] <;> exact (eq32 _ _).mpr (by omega)), (by rw [e5921, ew5682] <;> exact (eq32 _ _).mpr (by omega)), (by rw [e5922, ew5683] <;> exact (eq32 _ _).mpr (by omega)), (by rw [e5923, ew5684] <;> exact (eq32 _ _).mpr (by omega))⟩⟩, _, rfl⟩
                    · refine WP_aload_n dX11_dayOf_126 rfl ?_
                      refine WP_aload_n dX11_dayOf_127 rfl ?_
                      refine WP_iload dX11_dayOf_128 rfl ?_
                      refine WP_iload_n dX11_dayOf_130 rfl ?_
                      refine WP_callV3 (k := 11) dX11_dayOf_131 ⟨⟨⟨by decide, by decide⟩, zX11_nightOf⟩, lX11_478, by decide, rfl, vX11_nightOf.1, vX11_nightOf.2⟩ (ly_is hy 0 11 rfl) (sm_nightOfx_38 hy hr hI5896 i5895 v5690 (by omega) (by omega) (by omega) (by omega) (by omega) (by rw [ew5898]; omega)) (Nat.le_of_ble_eq_true rfl) ?_
                      intro r I5928 J5929 Ra hq
                      obtain ⟨⟨hI5928, ec, fiI5928, fjI5928, fqI5928, ⟨pI5928, sI5928_38_33, sI5928_0_10, sI5928_0_14, sI5928_0_68, sI5928_38_28, sI5928_38_29, sI5928_38_30, sI5928_38_31⟩⟩, rfl⟩ := hq
                      rw [ec]
                      clear ec Ra
                      have fr5930 : fz 49 g [0, 35, 36, 37, 40, 41, 38] I I5928 := fz_tr fiI5896 (fz_mono fiI5928 (by decide))
                      have fr5931 : fs g [56] I I5928 := fs_tr fqI5896 (fs_mono fqI5928 (by decide))
                      have fr5932 : fz 49 g [] J J5929 := fz_tr fjJ5897 (fz_mono fjI5928 (by decide))
                      have e5933 : I5928 (ad g 38) 33 = w5899 := by rw [sI5928_38_33]; exact ew5899
                      have e5934 : I5928 (ad g 0) 10 = w5900 := by rw [sI5928_0_10]; exact ew5900
                      have e5935 : I5928 (ad g 0) 14 = w5901 := by rw [sI5928_0_14]; exact ew5901
                      have e5936 : I5928 (ad g 0) 68 = w5902 := by rw [sI5928_0_68]; exact ew5902
                      have e5937 : I5928 (ad g 38) 28 = w5903 := by rw [sI5928_38_28]; exact ew5903
                      have e5938 : I5928 (ad g 38) 29 = w5904 := by rw [sI5928_38_29]; exact ew5904
                      have e5939 : I5928 (ad g 38) 30 = w5905 := by rw [sI5928_38_30]; exact ew5905
                      have e5940 : I5928 (ad g 38) 31 = w5906 := by rw [sI5928_38_31]; exact ew5906
                      have e5941 : I5928 (ad g 0) 1 = L := hI5928.1.2
                      have b5942 := BT_get hI5928.1.1 0 1 2 (0) (0) (900) (by decide) 1 (by decide) (by decide)
                      rw [e5941] at b5942
                      obtain ⟨w5943, ew5943⟩ : ∃ w : Int32, I5928 (ad g 38) 32 = w := ⟨_, rfl⟩
                      have bw5943 := BT_get hI5928.1.1 38 32 33 (0) (23760) (0) (by decide) 32 (by decide) (by decide)
                      rw [ew5943] at bw5943
                      rw [ew5943, ew5898] at pI5928
                      refine WP_iinc (ls' := [(0, _), (1, _), (2, _), (3, _), (5, _)]) dX11_dayOf_134 rfl (by decide) rfl ?_
                      have hv5944 : (i5895 + Int32.ofInt (1)).toInt = i5895.toInt + (1) := ia_n rfl (by omega) (by omega)
                      generalize i5895 + Int32.ofInt (1) = v5944 at hv5944 ⊢
                      refine WP_goto 117 dX11_dayOf_137 rfl ?_
                      exact WP_sub (fc rfl (fc rfl (fc rfl (fc rfl (fc rfl fn))))) (ihlp117_5906 v5944 I5928 J5929 hI5928 fr5930 fr5932 fr5931 w5943 ew5943 w5899 e5933 w5900 e5934 w5901 e5935 w5902 e5936 w5903 e5937 w5904 e5938 w5905 e5939 w5906 e5940 (by omega) (by omega) (by omega) (by omega) (by omega) (by omega) (by omega) (by omega) (by omega) (by omega) (by omega) (by omega))
                exact WP_sub (fc rfl (fc rfl (fc rfl (fc rfl (fc rfl fn))))) (lp117_5906 _ v5894 I5879 J5880 hI5879 fiI5879 fjJ5880 fqI5879 w5881 ew5881 w5882 ew5882 w5883 ew5883 w5884 ew5884 w5885 ew5885 w5886 ew5886 w5887 ew5887 w5888 ew5888 w5889 ew5889 (by omega) (by omega) (by omega) (by omega) (by omega) (by omega) (by omega) (by omega) (by omega) (by omega) (by omega) (Nat.lt_succ_self _))
              · refine WP_lload_n dX11_dayOf_97 rfl ?_
                refine WP_aload_n dX11_dayOf_98 rfl ?_
                refine WP_aload_n dX11_dayOf_99 rfl ?_
                refine WP_iload dX11_dayOf_100 rfl ?_
                refine WP_iload_n dX11_dayOf_102 rfl ?_
                refine WP_callV3 (k := 11) dX11_dayOf_103 ⟨⟨⟨by decide, by decide⟩, zX11_sortDay⟩, lX11_474, by decide, rfl, vX11_sortDay.1, vX11_sortDay.2⟩ (ly_is hy 0 11 rfl) (sm_sortDay_38 hy hr hI5879 i5878 v5690 (by omega) (by omega) (by omega) (by omega) (by rw [ew5883]; omega)) (Nat.le_of_ble_eq_true rfl) ?_
                intro r I5945 J5946 Ra hq
                obtain ⟨⟨hI5945, ec, fiI5945, ejI5945, fqI5945, ⟨pI5945, sI5945_38_32, sI5945_38_33, sI5945_0_10, sI5945_0_14, sI5945_0_68, sI5945_38_28, sI5945_38_29, sI5945_38_30, sI5945_38_31⟩⟩, l5947, rfl⟩ := hq
                show WP _ _ _ _ (.long _ :: _) _ _ _ _
                rw [ec]
                clear ec Ra
                have fr5948 : fz 49 g [0, 35, 36, 37, 40, 41, 38] I I5945 := fz_tr fiI5879 (fz_mono fiI5945 (by decide))
                have fr5949 : fs g [56] I I5945 := fs_tr fqI5879 (fs_mono fqI5945 (by decide))
                rw [ejI5945]
                clear ejI5945 J5946
                have e5950 : I5945 (ad g 38) 32 = w5881 := by rw [sI5945_38_32]; exact ew5881
                have e5951 : I5945 (ad g 38) 33 = w5882 := by rw [sI5945_38_33]; exact ew5882
                have e5952 : I5945 (ad g 0) 10 = w5883 := by rw [sI5945_0_10]; exact ew5883
                have e5953 : I5945 (ad g 0) 14 = w5884 := by rw [sI5945_0_14]; exact ew5884
                have e5954 : I5945 (ad g 0) 68 = w5885 := by rw [sI5945_0_68]; exact ew5885
                have e5955 : I5945 (ad g 38) 28 = w5886 := by rw [sI5945_38_28]; exact ew5886
                have e5956 : I5945 (ad g 38) 29 = w5887 := by rw [sI5945_38_29]; exact ew5887
                have e5957 : I5945 (ad g 38) 30 = w5888 := by rw [sI5945_38_30]; exact ew5888
                have e5958 : I5945 (ad g 38) 31 = w5889 := by rw [sI5945_38_31]; exact ew5889
                have e5959 : I5945 (ad g 0) 1 = L := hI5945.1.2
                have b5960 := BT_get hI5945.1.1 0 1 2 (0) (0) (900) (by decide) 1 (by decide) (by decide)
                rw [e5959] at b5960
                refine WQ_ladd dX11_dayOf_106 (fun l5961 => ?_)
                refine WP_lstore_n (ls' := [(0, _), (1, _), (2, _), (3, _), (5, _)]) dX11_dayOf_107 (by decide) rfl ?_
                refine WP_iinc (ls' := [(0, _), (1, _), (2, _), (3, _), (5, _)]) dX11_dayOf_108 rfl (by decide) rfl ?_
                have hv5962 : (i5878 + Int32.ofInt (1)).toInt = i5878.toInt + (1) := ia_n rfl (by omega) (by omega)
                generalize i5878 + Int32.ofInt (1) = v5962 at hv5962 ⊢
                refine WP_goto 88 dX11_dayOf_111 rfl ?_
                exact WP_sub (fc rfl (fc rfl (fc rfl (fc rfl (fc rfl fn))))) (ihlp88_5889 l5961 v5962 I5945 J5880 hI5945 fr5948 fjJ5880 fr5949 w5881 e5950 w5882 e5951 w5883 e5952 w5884 e5953 w5885 e5954 w5886 e5955 w5887 e5956 w5888 e5957 w5889 e5958 (by omega) (by omega) (by omega) (by omega) (by omega) (by omega) (by omega) (by omega) (by omega) (by omega) (by omega) (by omega))
          exact WP_sub (fc rfl (fc rfl (fc rfl (fc rfl (fc rfl fn))))) (lp88_5889 _ l5691 v5876 I5860 J5861 hI5860 fiI5860 fjJ5861 fqI5860 w5862 ew5862 w5863 ew5863 w5864 ew5864 w5865 ew5865 w5866 ew5866 w5867 ew5867 w5868 ew5868 w5869 ew5869 w5870 ew5870 (by omega) (by omega) (by omega) (by omega) (by omega) (by omega) (by omega) (by omega) (by omega) (by omega) (by omega) (Nat.lt_succ_self _))
        · refine WP_aload_n dX11_dayOf_31 rfl ?_
          refine WP_getr dX11_dayOf_32 fX11_289 rfl (ly_is hy 0 11 rfl) (rf hr 0 62 40 (by decide)) ?_
          refine WP_iload dX11_dayOf_35 rfl ?_
          refine WP_aload_n dX11_dayOf_37 rfl ?_
          refine WQ_geti dX11_dayOf_38 fX11_470 rfl (ly_is hy 0 11 rfl) (BT_get hI5860.1.1 0 64 65 (0) (0) (1) (by decide) 64 (by decide) (by decide)) (fun v5963 ev5963 av5963 bv5963 => ?_)
          have jn78_5976 : ∀ (v5976 : Int32), 0 ≤ v5976.toInt → v5976.toInt ≤ 1000000 → WP g mX11_dayOf 78 [(0, .ref (ad g 0)), (1, .ref (ad g 38)), (2, .int v5690), (3, .long l5691), (5, .int i5859)] [.int v5976, .int i5859, .ref (ad g 40)] I5860 J5861 R (fun r I' J' R' => (MP g n L I' ∧ R' = R ∧ fz 49 g [0, 35, 36, 37, 40, 41, 38] I I' ∧ fz 49 g [] J J' ∧ fs g [56] I I' ∧ ((I' (ad g 38) 32).toInt ≤ (I (ad g 38) 32).toInt + 23760 ∧ (I' (ad g 38) 33).toInt = (I (ad g 38) 33).toInt + 1) ∧ I' (ad g 0) 10 = I (ad g 0) 10 ∧ I' (ad g 0) 14 = I (ad g 0) 14 ∧ I' (ad g 0) 68 = I (ad g 0) 68 ∧ I' (ad g 38) 28 = I (ad g 38) 28 ∧ I' (ad g 38) 29 = I (ad g 38) 29 ∧ I' (ad g 38) 30 = I (ad g 38) 30 ∧ I' (ad g 38) 31 = I (ad g 38) 31) ∧ ∃ v : Int64, r = some (.long v)) := by
            intro v5976 av5976 bv5976
            refine WQ_iast dX11_dayOf_78 (ly_is hy 40 13 rfl) (ly_n hy 40 3 rfl) (by omega) (by omega) (fun I5978 eI5978 => ?_)
            have hI5978 : MP g n L I5978 := by rw [eI5978]; exact (mp_w hy hI5860 (c := 40) (mi_r hy hI5860.1 (c := 40) (0) (0) (1000000) (by decide) (Or.inl (by decide)) (by decide) (by omega) (by omega)) (by decide) (by decide) (Or.inl (by decide)))
            have e5979 : I5978 (ad g 38) 32 = w5862 := by rw [eI5978, pp_ne _ _ (Or.inl (ly_ne hy (by decide) (by decide) (by decide)))]; exact ew5862
            have e5980 : I5978 (ad g 38) 33 = w5863 := by rw [eI5978, pp_ne _ _ (Or.inl (ly_ne hy (by decide) (by decide) (by decide)))]; exact ew5863
            have e5981 : I5978 (ad g 0) 10 = w5864 := by rw [eI5978, pp_ne _ _ (Or.inl (ly_ne hy (by decide) (by decide) (by decide)))]; exact ew5864
            have e5982 : I5978 (ad g 0) 14 = w5865 := by rw [eI5978, pp_ne _ _ (Or.inl (ly_ne hy (by decide) (by decide) (by decide)))]; exact ew5865
            have e5983 : I5978 (ad g 0) 68 = w5866 := by rw [eI5978, pp_ne _ _ (Or.inl (ly_ne hy (by decide) (by decide) (by decide)))]; exact ew5866
            have e5984 : I5978 (ad g 38) 28 = w5867 := by rw [eI5978, pp_ne _ _ (Or.inl (ly_ne hy (by decide) (by decide) (by decide)))]; exact ew5867
            have e5985 : I5978 (ad g 38) 29 = w5868 := by rw [eI5978, pp_ne _ _ (Or.inl (ly_ne hy (by decide) (by decide) (by decide)))]; exact ew5868
            have e5986 : I5978 (ad g 38) 30 = w5869 := by rw [eI5978, pp_ne _ _ (Or.inl (ly_ne hy (by decide) (by decide) (by decide)))]; exact ew5869
            have e5987 : I5978 (ad g 38) 31 = w5870 := by rw [eI5978, pp_ne _ _ (Or.inl (ly_ne hy (by decide) (by decide) (by decide)))]; exact ew5870
            have e5988 : I5978 (ad g 0) 1 = L := by rw [eI5978, pp_ne _ _ (Or.inl (ly_ne hy (by decide) (by decide) (by decide)))]; exact e5872
            have e5989 : I5978 (ad g 0) 11 = v5874 := by rw [eI5978, pp_ne _ _ (Or.inl (ly_ne hy (by decide) (by decide) (by decide)))]; exact ev5874
            have e5990 : I5978 (ad g 0) 64 = v5963 := by rw [eI5978, pp_ne _ _ (Or.inl (ly_ne hy (by decide) (by decide) (by decide)))]; exact ev5963
            have fr5991 : fs g [56] I I5978 := by rw [eI5978]; exact fs_ppn hy fqI5860 (by decide) (by decide)
            have fr5992 : fz 49 g [0, 35, 36, 37, 40, 41, 38] I I5978 := by rw [eI5978]; exact fzm_pp hy fiI5860 (by decide) (by decide)
            clear eI5978
            refine WP_iinc (ls' := [(0, _), (1, _), (2, _), (3, _), (5, _)]) dX11_dayOf_79 rfl (by decide) rfl ?_
            have hv5993 : (i5859 + Int32.ofInt (1)).toInt = i5859.toInt + (1) := ia_n rfl (by omega) (by omega)
            generalize i5859 + Int32.ofInt (1) = v5993 at hv5993 ⊢
            refine WP_goto 22 dX11_dayOf_82 rfl ?_
            exact WP_sub (fc rfl (fc rfl (fc rfl (fc rfl (fc rfl fn))))) (ihlp22_5870 v5993 I5978 J5861 hI5978 fr5992 fjJ5861 fr5991 w5862 e5979 w5863 e5980 w5864 e5981 w5865 e5982 w5866 e5983 w5867 e5984 w5868 e5985 w5869 e5986 w5870 e5987 (by omega) (by omega) (by omega) (by omega) (by omega) (by omega) (by omega) (by omega) (by omega) (by omega) (by omega) (by omega))
          refine WQ_if_ne 60 dX11_dayOf_41 rfl (fun c5993 => ?_) (fun c5993 => ?_)
          · refine WP_ldcw (1000000) dX11_dayOf_60 kX11_460 ?_
            obtain ⟨v5995, hv5995, ev5995⟩ : ∃ v : Int32, v.toInt = 1000000 ∧ ((1000000) : Int32) = v := ⟨(1000000), rfl, rfl⟩
            rw [ev5995]; clear ev5995
            refine WP_goto 78 dX11_dayOf_63 rfl ?_
            exact WP_sub (fc rfl (fc rfl (fc rfl (fc rfl (fc rfl fn))))) (jn78_5976 v5995 (by omega) (by omega))
          · refine WP_aload_n dX11_dayOf_44 rfl ?_
            refine WP_getr dX11_dayOf_45 fX11_259 rfl (ly_is hy 0 11 rfl) (rf hr 0 41 23 (by decide)) ?_
            refine WQ_bipush (7) (7) dX11_dayOf_48 rfl rfl (fun v5996 hv5996 => ?_)
            refine WP_iload dX11_dayOf_50 rfl ?_
            refine WQ_imulK (7) dX11_dayOf_52 hv5996 (by omega) (by omega) (fun v5997 hv5997 => ?_)
            refine WP_iload_n dX11_dayOf_53 rfl ?_
            refine WQ_iadd dX11_dayOf_54 (by omega) (by omega) (fun v5998 hv5998 => ?_)
            refine WQ_ialdb dX11_dayOf_55 (ly_is hy 23 13 rfl) (ly_n hy 23 21 rfl) (by omega) (by omega) (fun q hq => BT_get hI5860.1.1 23 0 21 (-1) (0) (999) (by decide) q (Nat.zero_le _) hq) (fun v5999 av5999 bv5999 zv5999 => ?_)
            refine WQ_iconst (-1) (-1) dX11_dayOf_56 rfl rfl (fun v6000 hv6000 => ?_)
            refine WQ_icmp_ne 66 dX11_dayOf_57 rfl (fun c6000 => ?_) (fun c6000 => ?_)
            · refine WP_aload_n dX11_dayOf_66 rfl ?_
              refine WP_getr dX11_dayOf_67 fX11_259 rfl (ly_is hy 0 11 rfl) (rf hr 0 41 23 (by decide)) ?_
              refine WQ_bipush (7) (7) dX11_dayOf_70 rfl rfl (fun v6002 hv6002 => ?_)
              refine WP_iload dX11_dayOf_72 rfl ?_
              refine WQ_imulK (7) dX11_dayOf_74 hv6002 (by omega) (by omega) (fun v6003 hv6003 => ?_)
              refine WP_iload_n dX11_dayOf_75 rfl ?_
              refine WQ_iadd dX11_dayOf_76 (by omega) (by omega) (fun v6004 hv6004 => ?_)
              refine WQ_ialdb dX11_dayOf_77 (ly_is hy 23 13 rfl) (ly_n hy 23 21 rfl) (by omega) (by omega) (fun q hq => BT_get hI5860.1.1 23 0 21 (-1) (0) (999) (by decide) q (Nat.zero_le _) hq) (fun v6005 av6005 bv6005 zv6005 => ?_)
              have tv6005 : v6005.toInt = v5999.toInt := by rw [← zv6005, ← zv5999, show v6004.toInt.toNat = v5998.toInt.toNat by omega]
              exact WP_sub (fc rfl (fc rfl (fc rfl (fc rfl (fc rfl fn))))) (jn78_5976 v6005 (by omega) (by omega))
            · refine WP_ldcw (1000000) dX11_dayOf_60 kX11_460 ?_
              obtain ⟨v6006, hv6006, ev6006⟩ : ∃ v : Int32, v.toInt = 1000000 ∧ ((1000000) : Int32) = v := ⟨(1000000), rfl, rfl⟩
              rw [ev6006]; clear ev6006
              refine WP_goto 78 dX11_dayOf_63 rfl ?_
              exact WP_sub (fc rfl (fc rfl (fc rfl (fc rfl (fc rfl fn))))) (jn78_5976 v6006 (by omega) (by omega))
    exact WP_sub (fc rfl (fc rfl (fc rfl (fc rfl (fc rfl fn))))) (lp22_5870 _ v5858 I5842 J5843 hI5842 fr5844 fr5846 fr5845 w5857 ew5857 w5686 e5847 w5678 e5848 w5679 e5849 w5680 e5850 w5681 e5851 w5682 e5852 w5683 e5853 w5684 e5854 (by omega) (by omega) (by omega) (by omega) (by omega) (by omega) (by omega) (by omega) (by omega) (by omega) (by omega) (Nat.lt_succ_self _))
set_option maxHeartbeats 4000000 in
set_option maxRecDepth 100000 in
theorem sm_nightOfx_39 {g : GG} {n : Int} {L : Int32} (hy : Ly g)  {I : pI} {J : pJ} {R : pR} (hr : Rf g R) (hI : MP g n L I) (k : Int32) (da : Int32) (k_lo : 0 ≤ k.toInt) (k_hi : k.toInt ≤ 3) (da_lo : 0 ≤ da.toInt) (da_hi : da.toInt ≤ 6) (hn : 0 ≤ n ∧ n ≤ 40000) (hb : (I (ad g 39) 32).toInt ≤ 23760 * n + 700000 - 5940) : SP g mX11_nightOf [.ref (ad g 0), .ref (ad g 39), .int k, .int da] I J R (fun r I' J' R' => (MP g n L I' ∧ R' = R ∧ fz 49 g [39] I I' ∧ fz 49 g [] J J' ∧ fs g [] I I' ∧ ((I' (ad g 39) 32).toInt ≤ (I (ad g 39) 32).toInt + 5940) ∧ I' (ad g 39) 33 = I (ad g 39) 33 ∧ I' (ad g 0) 10 = I (ad g 0) 10 ∧ I' (ad g 0) 14 = I (ad g 0) 14 ∧ I' (ad g 0) 68 = I (ad g 0) 68) ∧ r = none) := by
  refine SP_of ⟨by decide, rfl⟩ (Nat.le_of_ble_eq_true rfl) ?_
  have e6007 : I (ad g 0) 1 = L := hI.1.2
  have b6008 := BT_get hI.1.1 0 1 2 (0) (0) (900) (by decide) 1 (by decide) (by decide)
  rw [e6007] at b6008
  have fr0 : fz 49 g [39] I I := fz_rf
  have frj0 : fz 49 g [] J J := fz_rf
  have frq0 : fs g [] I I := fs_rf
  obtain ⟨w6009, ew6009⟩ : ∃ w : Int32, I (ad g 39) 33 = w := ⟨_, rfl⟩
  have bw6009 := BT_get hI.1.1 39 33 34 (0) (1) (30) (by decide) 33 (by decide) (by decide)
  rw [ew6009] at bw6009
  obtain ⟨w6010, ew6010⟩ : ∃ w : Int32, I (ad g 0) 10 = w := ⟨_, rfl⟩
  have bw6010 := BT_get hI.1.1 0 10 11 (0) (0) (4) (by decide) 10 (by decide) (by decide)
  rw [ew6010] at bw6010
  obtain ⟨w6011, ew6011⟩ : ∃ w : Int32, I (ad g 0) 14 = w := ⟨_, rfl⟩
  have bw6011 := BT_get hI.1.1 0 14 15 (-1) (0) (2) (by decide) 14 (by decide) (by decide)
  rw [ew6011] at bw6011
  obtain ⟨w6012, ew6012⟩ : ∃ w : Int32, I (ad g 0) 68 = w := ⟨_, rfl⟩
  obtain ⟨w6013, ew6013⟩ : ∃ w : Int32, I (ad g 39) 32 = w := ⟨_, rfl⟩
  have bw6013 := BT_get hI.1.1 39 32 33 (0) (23760) (700000) (by decide) 32 (by decide) (by decide)
  rw [ew6013] at bw6013
  rw [ew6013] at hb
  refine WP_aload_n dX11_nightOf_0 rfl ?_
  refine WQ_iconst (0) (0) dX11_nightOf_1 rfl rfl (fun v6014 hv6014 => ?_)
  refine WP_iload_n dX11_nightOf_2 rfl ?_
  refine WQ_iadd dX11_nightOf_3 (by omega) (by omega) (fun v6015 hv6015 => ?_)
  refine WQ_ialdr dX11_nightOf_4 (ly_is hy 39 13 rfl) (ly_n hy 39 35 rfl) (by omega) (by omega) (a := 0) (b := 4) (by omega) (by omega) (fun q hq1 hq2 => BT_get hI.1.1 39 0 4 (0) (0) (60) (by decide) q hq1 hq2) (fun v6016 av6016 bv6016 => ?_)
  refine WP_aload_n dX11_nightOf_5 rfl ?_
  refine WP_iload_n dX11_nightOf_6 rfl ?_
  refine WP_callV1 (k := 11) dX11_nightOf_7 ⟨⟨⟨by decide, by decide⟩, zX11_loses⟩, lX11_414, by decide, rfl, vX11_loses.1, vX11_loses.2⟩ (ly_is hy 0 11 rfl) (sm_loses2 hy hr hI da (by omega) (by omega)) (Nat.le_of_ble_eq_true rfl) ?_
  intro r Ia Ja Ra hq
  obtain ⟨⟨ea, eb, ec⟩, v6017, rfl, av6017, bv6017⟩ := hq
  show WP _ _ _ _ (.int _ :: _) _ _ _ _
  rw [ea, eb, ec]
  clear ea eb ec Ia Ja Ra
  refine WP_callS2 dX11_nightOf_10 ⟨⟨⟨by decide, by decide⟩, zX11_stampsOf⟩, lX11_380, tX11_stampsOf⟩ (sm_stampsOf hy hr hI v6016 v6017 (by omega) (by omega) (by omega) (by omega)) (Nat.le_of_ble_eq_true rfl) ?_
  intro r Ia Ja Ra hq
  obtain ⟨⟨ea, eb, ec⟩, v6018, rfl, av6018, bv6018, cv6018⟩ := hq
  show WP _ _ _ _ (.int _ :: _) _ _ _ _
  rw [ea, eb, ec]
  clear ea eb ec Ia Ja Ra
  refine WP_istore (ls' := [(0, _), (1, _), (2, _), (3, _), (4, _)]) dX11_nightOf_13 (by decide) rfl ?_
  refine WP_aload_n dX11_nightOf_15 rfl ?_
  refine WQ_iconst (0) (0) dX11_nightOf_16 rfl rfl (fun v6019 hv6019 => ?_)
  refine WP_iload_n dX11_nightOf_17 rfl ?_
  refine WQ_iadd dX11_nightOf_18 (by omega) (by omega) (fun v6020 hv6020 => ?_)
  refine WP_aload_n dX11_nightOf_19 rfl ?_
  refine WP_aload_n dX11_nightOf_20 rfl ?_
  refine WQ_iconst (0) (0) dX11_nightOf_21 rfl rfl (fun v6021 hv6021 => ?_)
  refine WP_iload_n dX11_nightOf_22 rfl ?_
  refine WQ_iadd dX11_nightOf_23 (by omega) (by omega) (fun v6022 hv6022 => ?_)
  refine WQ_ialdr dX11_nightOf_24 (ly_is hy 39 13 rfl) (ly_n hy 39 35 rfl) (by omega) (by omega) (a := 0) (b := 4) (by omega) (by omega) (fun q hq1 hq2 => BT_get hI.1.1 39 0 4 (0) (0) (60) (by decide) q hq1 hq2) (fun v6023 av6023 bv6023 => ?_)
  refine WP_aload_n dX11_nightOf_25 rfl ?_
  refine WQ_iconst (4) (4) dX11_nightOf_26 rfl rfl (fun v6024 hv6024 => ?_)
  refine WP_iload_n dX11_nightOf_27 rfl ?_
  refine WQ_iadd dX11_nightOf_28 (by omega) (by omega) (fun v6025 hv6025 => ?_)
  refine WQ_ialdr dX11_nightOf_29 (ly_is hy 39 13 rfl) (ly_n hy 39 35 rfl) (by omega) (by omega) (a := 4) (b := 8) (by omega) (by omega) (fun q hq1 hq2 => BT_get hI.1.1 39 4 8 (0) (0) (5) (by decide) q hq1 hq2) (fun v6026 av6026 bv6026 => ?_)
  refine WP_aload_n dX11_nightOf_30 rfl ?_
  refine WP_iload_n dX11_nightOf_31 rfl ?_
  refine WP_callV1 (k := 11) dX11_nightOf_32 ⟨⟨⟨by decide, by decide⟩, zX11_loses⟩, lX11_414, by decide, rfl, vX11_loses.1, vX11_loses.2⟩ (ly_is hy 0 11 rfl) (sm_loses2 hy hr hI da (by omega) (by omega)) (Nat.le_of_ble_eq_true rfl) ?_
  intro r Ia Ja Ra hq
  obtain ⟨⟨ea, eb, ec⟩, v6027, rfl, av6027, bv6027⟩ := hq
  show WP _ _ _ _ (.int _ :: _) _ _ _ _
  rw [ea, eb, ec]
  clear ea eb ec Ia Ja Ra
  refine WP_callV3 (k := 11) dX11_nightOf_35 ⟨⟨⟨by decide, by decide⟩, zX11_behindNight⟩, lX11_398, by decide, rfl, vX11_behindNight.1, vX11_behindNight.2⟩ (ly_is hy 0 11 rfl) (sm_behindNight hy hr hI v6023 v6026 v6027 (by omega) (by omega) (by omega) (by omega) (by omega) (by omega)) (Nat.le_of_ble_eq_true rfl) ?_
  intro r Ia Ja Ra hq
  obtain ⟨⟨ea, eb, ec⟩, v6028, rfl, av6028, bv6028⟩ := hq
  show WP _ _ _ _ (.int _ :: _) _ _ _ _
  rw [ea, eb, ec]
  clear ea eb ec Ia Ja Ra
  refine WQ_iast dX11_nightOf_38 (ly_is hy 39 13 rfl) (ly_n hy 39 35 rfl) (by omega) (by omega) (fun I6029 eI6029 => ?_)
  have hI6029 : MP g n L I6029 := by rw [eI6029]; exact (mp_w hy hI (c := 39) (mi_rr hy hI.1 (c := 39) (0) (3) (0) (0) (60) (by decide) (Or.inl (by decide)) (by rw [cl (n := v6020.toInt.toNat) (by omega)]; omega) (by decide) (fun _ => ⟨by omega, by omega⟩)) (by decide) (by decide) (Or.inl (by decide)))
  have e6030 : I6029 (ad g 0) 1 = L := by rw [eI6029, pp_ne _ _ (Or.inl (ly_ne hy (by decide) (by decide) (by decide)))]; exact e6007
  have e6031 : I6029 (ad g 39) 33 = w6009 := by rw [eI6029, pp_ne _ _ (Or.inr (by rw [cl (x := v6020) (n := v6020.toInt.toNat) (by omega)]; omega))]; exact ew6009
  have e6032 : I6029 (ad g 0) 10 = w6010 := by rw [eI6029, pp_ne _ _ (Or.inl (ly_ne hy (by decide) (by decide) (by decide)))]; exact ew6010
  have e6033 : I6029 (ad g 0) 14 = w6011 := by rw [eI6029, pp_ne _ _ (Or.inl (ly_ne hy (by decide) (by decide) (by decide)))]; exact ew6011
  have e6034 : I6029 (ad g 0) 68 = w6012 := by rw [eI6029, pp_ne _ _ (Or.inl (ly_ne hy (by decide) (by decide) (by decide)))]; exact ew6012
  have e6035 : I6029 (ad g 39) 32 = w6013 := by rw [eI6029, pp_ne _ _ (Or.inr (by rw [cl (x := v6020) (n := v6020.toInt.toNat) (by omega)]; omega))]; exact ew6013
  have fr6036 : fs g [] I I6029 := by rw [eI6029]; exact fs_ppn hy frq0 (by decide) (by decide)
  have fr6037 : fz 49 g [39] I I6029 := by rw [eI6029]; exact fzm_pp hy fr0 (by decide) (by decide)
  clear eI6029
  refine WP_aload_n dX11_nightOf_39 rfl ?_
  refine WQ_bipush (12) (12) dX11_nightOf_40 rfl rfl (fun v6038 hv6038 => ?_)
  refine WP_iload_n dX11_nightOf_42 rfl ?_
  refine WQ_iadd dX11_nightOf_43 (by omega) (by omega) (fun v6039 hv6039 => ?_)
  refine WP_dup2 dX11_nightOf_44 rfl rfl ?_
  refine WQ_ialdu dX11_nightOf_45 (ly_is hy 39 13 rfl) (ly_n hy 39 35 rfl) (by omega) (by omega) (fun v6040 => ?_)
  refine WP_iload dX11_nightOf_46 rfl ?_
  refine WP_aload_n dX11_nightOf_48 rfl ?_
  refine WP_getr dX11_nightOf_49 fX11_235 rfl (ly_is hy 0 11 rfl) (rf hr 0 26 8 (by decide)) ?_
  refine WP_iload_n dX11_nightOf_52 rfl ?_
  refine WQ_iald dX11_nightOf_53 (ly_is hy 8 13 rfl) (ly_n hy 8 4 rfl) (by omega) (by omega) (fun q hq => BT_get hI6029.1.1 8 0 4 (0) (0) (99) (by decide) q (Nat.zero_le _) hq) (fun v6041 av6041 bv6041 ev6041 => ?_)
  clear ev6041
  refine WQ_imulb (999) (99) dX11_nightOf_54 ⟨by omega, by omega⟩ ⟨by omega, by omega⟩ (by decide) (fun v6042 pv6042 av6042 bv6042 cv6042 => ?_)
  refine WQ_iaddu dX11_nightOf_55 (fun v6043 => ?_)
  refine WQ_iast dX11_nightOf_56 (ly_is hy 39 13 rfl) (ly_n hy 39 35 rfl) (by omega) (by omega) (fun I6044 eI6044 => ?_)
  have hI6044 : MP g n L I6044 := by rw [eI6044]; exact (mp_w hy hI6029 (c := 39) (mi_rr hy hI6029.1 (c := 39) (12) (15) (0) (0) (0) (by decide) (Or.inl (by decide)) (by rw [cl (n := v6039.toInt.toNat) (by omega)]; omega) (by decide) (fun h => absurd h (by decide))) (by decide) (by decide) (Or.inl (by decide)))
  have e6045 : I6044 (ad g 0) 1 = L := by rw [eI6044, pp_ne _ _ (Or.inl (ly_ne hy (by decide) (by decide) (by decide)))]; exact e6030
  have e6046 : I6044 (ad g 39) 33 = w6009 := by rw [eI6044, pp_ne _ _ (Or.inr (by rw [cl (x := v6039) (n := v6039.toInt.toNat) (by omega)]; omega))]; exact e6031
  have e6047 : I6044 (ad g 0) 10 = w6010 := by rw [eI6044, pp_ne _ _ (Or.inl (ly_ne hy (by decide) (by decide) (by decide)))]; exact e6032
  have e6048 : I6044 (ad g 0) 14 = w6011 := by rw [eI6044, pp_ne _ _ (Or.inl (ly_ne hy (by decide) (by decide) (by decide)))]; exact e6033
  have e6049 : I6044 (ad g 0) 68 = w6012 := by rw [eI6044, pp_ne _ _ (Or.inl (ly_ne hy (by decide) (by decide) (by decide)))]; exact e6034
  have e6050 : I6044 (ad g 39) 32 = w6013 := by rw [eI6044, pp_ne _ _ (Or.inr (by rw [cl (x := v6039) (n := v6039.toInt.toNat) (by omega)]; omega))]; exact e6035
  have fr6051 : fs g [] I I6044 := by rw [eI6044]; exact fs_ppn hy fr6036 (by decide) (by decide)
  have fr6052 : fz 49 g [39] I I6044 := by rw [eI6044]; exact fzm_pp hy fr6037 (by decide) (by decide)
  clear eI6044
  refine WP_aload_n dX11_nightOf_57 rfl ?_
  refine WQ_bipush (32) (32) dX11_nightOf_58 rfl rfl (fun v6053 hv6053 => ?_)
  refine WP_dup2 dX11_nightOf_60 rfl rfl ?_
  refine WQ_ialdm (z := 32) dX11_nightOf_61 (ly_is hy 39 13 rfl) (ly_n hy 39 35 rfl) hv6053 (by decide) e6050 ?_
  refine WP_iload dX11_nightOf_62 rfl ?_
  refine WP_aload_n dX11_nightOf_64 rfl ?_
  refine WP_getr dX11_nightOf_65 fX11_235 rfl (ly_is hy 0 11 rfl) (rf hr 0 26 8 (by decide)) ?_
  refine WP_iload_n dX11_nightOf_68 rfl ?_
  refine WQ_iald dX11_nightOf_69 (ly_is hy 8 13 rfl) (ly_n hy 8 4 rfl) (by omega) (by omega) (fun q hq => BT_get hI6044.1.1 8 0 4 (0) (0) (99) (by decide) q (Nat.zero_le _) hq) (fun v6055 av6055 bv6055 ev6055 => ?_)
  clear ev6055
  refine WQ_imulb (999) (99) dX11_nightOf_70 ⟨by omega, by omega⟩ ⟨by omega, by omega⟩ (by decide) (fun v6056 pv6056 av6056 bv6056 cv6056 => ?_)
  refine WQ_iadd dX11_nightOf_71 (by omega) (by omega) (fun v6057 hv6057 => ?_)
  refine WQ_iast dX11_nightOf_72 (ly_is hy 39 13 rfl) (ly_n hy 39 35 rfl) (by omega) (by omega) (fun I6058 fI6058 => ?_)
  have eI6058 := fI6058
  rw [cl (x := v6053) (n := 32) (by omega)] at eI6058
  clear fI6058
  have hI6058 : MP g n L I6058 := by rw [eI6058]; exact (mp_w hy hI6044 (c := 39) (mi_f hy hI6044.1 (c := 39) (0) (23760) (700000) (by decide) (Or.inl (by decide)) (by decide) (by omega) (by omega)) (by decide) (by decide) (Or.inl (by decide)))
  have e6059 : I6058 (ad g 0) 1 = L := by rw [eI6058, pp_ne _ _ (Or.inl (ly_ne hy (by decide) (by decide) (by decide)))]; exact e6045
  have e6060 : I6058 (ad g 39) 33 = w6009 := by rw [eI6058, pp_ne _ _ (Or.inr (by decide))]; exact e6046
  have e6061 : I6058 (ad g 0) 10 = w6010 := by rw [eI6058, pp_ne _ _ (Or.inl (ly_ne hy (by decide) (by decide) (by decide)))]; exact e6047
  have e6062 : I6058 (ad g 0) 14 = w6011 := by rw [eI6058, pp_ne _ _ (Or.inl (ly_ne hy (by decide) (by decide) (by decide)))]; exact e6048
  have e6063 : I6058 (ad g 0) 68 = w6012 := by rw [eI6058, pp_ne _ _ (Or.inl (ly_ne hy (by decide) (by decide) (by decide)))]; exact e6049
  have e6064 : I6058 (ad g 39) 32 = v6057 := by rw [eI6058, pp_self]
  have fr6065 : fs g [] I I6058 := by rw [eI6058]; exact fs_ppn hy fr6051 (by decide) (by decide)
  have fr6066 : fz 49 g [39] I I6058 := by rw [eI6058]; exact fzm_pp hy fr6052 (by decide) (by decide)
  clear eI6058
  refine WP_aload_n dX11_nightOf_73 rfl ?_
  refine WP_aload_n dX11_nightOf_74 rfl ?_
  refine WQ_iconst (4) (4) dX11_nightOf_75 rfl rfl (fun v6067 hv6067 => ?_)
  refine WP_iload_n dX11_nightOf_76 rfl ?_
  refine WQ_iadd dX11_nightOf_77 (by omega) (by omega) (fun v6068 hv6068 => ?_)
  refine WQ_ialdr dX11_nightOf_78 (ly_is hy 39 13 rfl) (ly_n hy 39 35 rfl) (by omega) (by omega) (a := 4) (b := 8) (by omega) (by omega) (fun q hq1 hq2 => BT_get hI6058.1.1 39 4 8 (0) (0) (5) (by decide) q hq1 hq2) (fun v6069 av6069 bv6069 => ?_)
  refine WP_callV1 (k := 11) dX11_nightOf_79 ⟨⟨⟨by decide, by decide⟩, zX11_leftOf⟩, lX11_420, by decide, rfl, vX11_leftOf.1, vX11_leftOf.2⟩ (ly_is hy 0 11 rfl) (sm_leftOf hy hr hI6058 v6069 (by omega) (by omega)) (Nat.le_of_ble_eq_true rfl) ?_
  intro r Ia Ja Ra hq
  obtain ⟨⟨ea, eb, ec⟩, v6070, rfl, av6070, bv6070⟩ := hq
  show WP _ _ _ _ (.int _ :: _) _ _ _ _
  rw [ea, eb, ec]
  clear ea eb ec Ia Ja Ra
  refine WP_istore (ls' := [(0, _), (1, _), (2, _), (3, _), (4, _), (5, _)]) dX11_nightOf_82 (by decide) rfl ?_
  refine WP_aload_n dX11_nightOf_84 rfl ?_
  refine WQ_bipush (20) (20) dX11_nightOf_85 rfl rfl (fun v6071 hv6071 => ?_)
  refine WP_iload_n dX11_nightOf_87 rfl ?_
  refine WQ_iadd dX11_nightOf_88 (by omega) (by omega) (fun v6072 hv6072 => ?_)
  refine WP_dup2 dX11_nightOf_89 rfl rfl ?_
  refine WQ_ialdu dX11_nightOf_90 (ly_is hy 39 13 rfl) (ly_n hy 39 35 rfl) (by omega) (by omega) (fun v6073 => ?_)
  refine WP_aload_n dX11_nightOf_91 rfl ?_
  refine WQ_iconst (4) (4) dX11_nightOf_92 rfl rfl (fun v6074 hv6074 => ?_)
  refine WP_iload_n dX11_nightOf_93 rfl ?_
  refine WQ_iadd dX11_nightOf_94 (by omega) (by omega) (fun v6075 hv6075 => ?_)
  refine WQ_ialdr dX11_nightOf_95 (ly_is hy 39 13 rfl) (ly_n hy 39 35 rfl) (by omega) (by omega) (a := 4) (b := 8) (by omega) (by omega) (fun q hq1 hq2 => BT_get hI6058.1.1 39 4 8 (0) (0) (5) (by decide) q hq1 hq2) (fun v6076 av6076 bv6076 => ?_)
  refine WP_iload dX11_nightOf_96 rfl ?_
  refine WQ_isub dX11_nightOf_98 (by omega) (by omega) (fun v6077 hv6077 => ?_)
  refine WP_aload_n dX11_nightOf_99 rfl ?_
  refine WP_getr dX11_nightOf_100 fX11_235 rfl (ly_is hy 0 11 rfl) (rf hr 0 26 8 (by decide)) ?_
  refine WP_iload_n dX11_nightOf_103 rfl ?_
  refine WQ_iald dX11_nightOf_104 (ly_is hy 8 13 rfl) (ly_n hy 8 4 rfl) (by omega) (by omega) (fun q hq => BT_get hI6058.1.1 8 0 4 (0) (0) (99) (by decide) q (Nat.zero_le _) hq) (fun v6078 av6078 bv6078 ev6078 => ?_)
  clear ev6078
  refine WQ_imulu dX11_nightOf_105 (fun v6079 => ?_)
  refine WQ_iaddu dX11_nightOf_106 (fun v6080 => ?_)
  refine WQ_iast dX11_nightOf_107 (ly_is hy 39 13 rfl) (ly_n hy 39 35 rfl) (by omega) (by omega) (fun I6081 eI6081 => ?_)
  have hI6081 : MP g n L I6081 := by rw [eI6081]; exact (mp_w hy hI6058 (c := 39) (mi_rr hy hI6058.1 (c := 39) (20) (23) (0) (0) (0) (by decide) (Or.inl (by decide)) (by rw [cl (n := v6072.toInt.toNat) (by omega)]; omega) (by decide) (fun h => absurd h (by decide))) (by decide) (by decide) (Or.inl (by decide)))
  have e6082 : I6081 (ad g 0) 1 = L := by rw [eI6081, pp_ne _ _ (Or.inl (ly_ne hy (by decide) (by decide) (by decide)))]; exact e6059
  have e6083 : I6081 (ad g 39) 33 = w6009 := by rw [eI6081, pp_ne _ _ (Or.inr (by rw [cl (x := v6072) (n := v6072.toInt.toNat) (by omega)]; omega))]; exact e6060
  have e6084 : I6081 (ad g 0) 10 = w6010 := by rw [eI6081, pp_ne _ _ (Or.inl (ly_ne hy (by decide) (by decide) (by decide)))]; exact e6061
  have e6085 : I6081 (ad g 0) 14 = w6011 := by rw [eI6081, pp_ne _ _ (Or.inl (ly_ne hy (by decide) (by decide) (by decide)))]; exact e6062
  have e6086 : I6081 (ad g 0) 68 = w6012 := by rw [eI6081, pp_ne _ _ (Or.inl (ly_ne hy (by decide) (by decide) (by decide)))]; exact e6063
  have e6087 : I6081 (ad g 39) 32 = v6057 := by rw [eI6081, pp_ne _ _ (Or.inr (by rw [cl (x := v6072) (n := v6072.toInt.toNat) (by omega)]; omega))]; exact e6064
  have fr6088 : fs g [] I I6081 := by rw [eI6081]; exact fs_ppn hy fr6065 (by decide) (by decide)
  have fr6089 : fz 49 g [39] I I6081 := by rw [eI6081]; exact fzm_pp hy fr6066 (by decide) (by decide)
  clear eI6081
  refine WP_aload_n dX11_nightOf_108 rfl ?_
  refine WQ_iconst (4) (4) dX11_nightOf_109 rfl rfl (fun v6090 hv6090 => ?_)
  refine WP_iload_n dX11_nightOf_110 rfl ?_
  refine WQ_iadd dX11_nightOf_111 (by omega) (by omega) (fun v6091 hv6091 => ?_)
  refine WP_iload dX11_nightOf_112 rfl ?_
  refine WQ_iast dX11_nightOf_114 (ly_is hy 39 13 rfl) (ly_n hy 39 35 rfl) (by omega) (by omega) (fun I6092 eI6092 => ?_)
  have hI6092 : MP g n L I6092 := by rw [eI6092]; exact (mp_w hy hI6081 (c := 39) (mi_rr hy hI6081.1 (c := 39) (4) (7) (0) (0) (5) (by decide) (Or.inl (by decide)) (by rw [cl (n := v6091.toInt.toNat) (by omega)]; omega) (by decide) (fun _ => ⟨by omega, by omega⟩)) (by decide) (by decide) (Or.inl (by decide)))
  have e6093 : I6092 (ad g 0) 1 = L := by rw [eI6092, pp_ne _ _ (Or.inl (ly_ne hy (by decide) (by decide) (by decide)))]; exact e6082
  have e6094 : I6092 (ad g 39) 33 = w6009 := by rw [eI6092, pp_ne _ _ (Or.inr (by rw [cl (x := v6091) (n := v6091.toInt.toNat) (by omega)]; omega))]; exact e6083
  have e6095 : I6092 (ad g 0) 10 = w6010 := by rw [eI6092, pp_ne _ _ (Or.inl (ly_ne hy (by decide) (by decide) (by decide)))]; exact e6084
  have e6096 : I6092 (ad g 0) 14 = w6011 := by rw [eI6092, pp_ne _ _ (Or.inl (ly_ne hy (by decide) (by decide) (by decide)))]; exact e6085
  have e6097 : I6092 (ad g 0) 68 = w6012 := by rw [eI6092, pp_ne _ _ (Or.inl (ly_ne hy (by decide) (by decide) (by decide)))]; exact e6086
  have e6098 : I6092 (ad g 39) 32 = v6057 := by rw [eI6092, pp_ne _ _ (Or.inr (by rw [cl (x := v6091) (n := v6091.toInt.toNat) (by omega)]; omega))]; exact e6087
  have fr6099 : fs g [] I I6092 := by rw [eI6092]; exact fs_ppn hy fr6088 (by decide) (by decide)
  have fr6100 : fz 49 g [39] I I6092 := by rw [eI6092]; exact fzm_pp hy fr6089 (by decide) (by decide)
  clear eI6092
  exact WP_vret dX11_nightOf_115 rfl ⟨⟨hI6092, rfl, fr6100, frj0, fr6099, ⟨(by rw [e6098, ew6013]; omega), (by rw [e6094, ew6009] <;> exact (eq32 _ _).mpr (by omega)), (by rw [e6095, ew6010] <;> exact (eq32 _ _).mpr (by omega)), (by rw [e6096, ew6011] <;> exact (eq32 _ _).mpr (by omega)), (by rw [e6097, ew6012] <;> exact (eq32 _ _).mpr (by omega))⟩⟩, rfl⟩
set_option maxHeartbeats 4000000 in
set_option maxRecDepth 100000 in
theorem sm_openChestx_39 {g : GG} {n : Int} {L : Int32} (hy : Ly g)  {I : pI} {J : pJ} {R : pR} (hr : Rf g R) (hI : MP g n L I)   (hn : 0 ≤ n ∧ n ≤ 40000) (hb : 0 ≤ (I (ad g 39) 32).toInt) : SP g mX11_openChest [.ref (ad g 0), .ref (ad g 39)] I J R (fun r I' J' R' => (MP g n L I' ∧ R' = R ∧ fz 49 g [39] I I' ∧ fz 49 g [] J J' ∧ fs g [] I I' ∧ ((I' (ad g 39) 32).toInt ≤ (I (ad g 39) 32).toInt) ∧ I' (ad g 39) 33 = I (ad g 39) 33 ∧ I' (ad g 0) 10 = I (ad g 0) 10 ∧ I' (ad g 0) 14 = I (ad g 0) 14 ∧ I' (ad g 0) 68 = I (ad g 0) 68) ∧ r = none) := by
  refine SP_of ⟨by decide, rfl⟩ (Nat.le_of_ble_eq_true rfl) ?_
  have e6101 : I (ad g 0) 1 = L := hI.1.2
  have b6102 := BT_get hI.1.1 0 1 2 (0) (0) (900) (by decide) 1 (by decide) (by decide)
  rw [e6101] at b6102
  have fr0 : fz 49 g [39] I I := fz_rf
  have frj0 : fz 49 g [] J J := fz_rf
  have frq0 : fs g [] I I := fs_rf
  obtain ⟨w6103, ew6103⟩ : ∃ w : Int32, I (ad g 39) 33 = w := ⟨_, rfl⟩
  have bw6103 := BT_get hI.1.1 39 33 34 (0) (1) (30) (by decide) 33 (by decide) (by decide)
  rw [ew6103] at bw6103
  obtain ⟨w6104, ew6104⟩ : ∃ w : Int32, I (ad g 0) 10 = w := ⟨_, rfl⟩
  have bw6104 := BT_get hI.1.1 0 10 11 (0) (0) (4) (by decide) 10 (by decide) (by decide)
  rw [ew6104] at bw6104
  obtain ⟨w6105, ew6105⟩ : ∃ w : Int32, I (ad g 0) 14 = w := ⟨_, rfl⟩
  have bw6105 := BT_get hI.1.1 0 14 15 (-1) (0) (2) (by decide) 14 (by decide) (by decide)
  rw [ew6105] at bw6105
  obtain ⟨w6106, ew6106⟩ : ∃ w : Int32, I (ad g 0) 68 = w := ⟨_, rfl⟩
  obtain ⟨w6107, ew6107⟩ : ∃ w : Int32, I (ad g 39) 32 = w := ⟨_, rfl⟩
  have bw6107 := BT_get hI.1.1 39 32 33 (0) (23760) (700000) (by decide) 32 (by decide) (by decide)
  rw [ew6107] at bw6107
  rw [ew6107] at hb
  refine WP_aload_n dX11_openChest_0 rfl ?_
  refine WQ_geti dX11_openChest_1 fX11_221 rfl (ly_is hy 0 11 rfl) (BT_get hI.1.1 0 13 14 (-1) (0) (3) (by decide) 13 (by decide) (by decide)) (fun v6108 ev6108 av6108 bv6108 => ?_)
  refine WQ_iconst (-1) (-1) dX11_openChest_4 rfl rfl (fun v6109 hv6109 => ?_)
  refine WQ_icmp_ne 9 dX11_openChest_5 rfl (fun c6109 => ?_) (fun c6109 => ?_)
  · have kc := pc_lt hI
    rw [ev6108, ew6104] at kc
    refine WP_aload_n dX11_openChest_9 rfl ?_
    refine WQ_bipush (32) (32) dX11_openChest_10 rfl rfl (fun v6111 hv6111 => ?_)
    refine WQ_ialdm (z := 32) dX11_openChest_12 (ly_is hy 39 13 rfl) (ly_n hy 39 35 rfl) hv6111 (by decide) ew6107 ?_
    refine WP_aload_n dX11_openChest_13 rfl ?_
    refine WP_getr dX11_openChest_14 fX11_235 rfl (ly_is hy 0 11 rfl) (rf hr 0 26 8 (by decide)) ?_
    refine WP_aload_n dX11_openChest_17 rfl ?_
    refine WQ_getim dX11_openChest_18 fX11_221 rfl (ly_is hy 0 11 rfl) ev6108 ?_
    refine WQ_ialdq (q := v6108.toInt.toNat) dX11_openChest_21 (ly_is hy 8 13 rfl) (ly_n hy 8 4 rfl) (by omega) (by omega) (by omega) (pp_get hI (by omega) (by rw [ew6104]; omega)) (fun v6113 av6113 bv6113 ev6113 => ?_)
    refine WQ_idivb dX11_openChest_22 (by omega) (by omega) (fun v6114 pv6114 av6114 bv6114 cv6114 => ?_)
    refine WP_istore_n (ls' := [(0, _), (1, _), (2, _)]) dX11_openChest_23 (by decide) rfl ?_
    refine WP_aload_n dX11_openChest_24 rfl ?_
    refine WQ_bipush (32) (32) dX11_openChest_25 rfl rfl (fun v6115 hv6115 => ?_)
    refine WP_dup2 dX11_openChest_27 rfl rfl ?_
    refine WQ_ialdm (z := 32) dX11_openChest_28 (ly_is hy 39 13 rfl) (ly_n hy 39 35 rfl) hv6115 (by decide) ew6107 ?_
    refine WP_iload_n dX11_openChest_29 rfl ?_
    refine WP_aload_n dX11_openChest_30 rfl ?_
    refine WP_getr dX11_openChest_31 fX11_235 rfl (ly_is hy 0 11 rfl) (rf hr 0 26 8 (by decide)) ?_
    refine WP_aload_n dX11_openChest_34 rfl ?_
    refine WQ_getim dX11_openChest_35 fX11_221 rfl (ly_is hy 0 11 rfl) ev6108 ?_
    refine WQ_ialde dX11_openChest_38 (ly_is hy 8 13 rfl) (ly_n hy 8 4 rfl) (by omega) (by omega) ev6113 ?_
    have knv6118 : 0 ≤ v6114.toInt * v6113.toInt := Int.mul_nonneg (by omega) (by omega)
    refine WQ_imulx dX11_openChest_39 (by omega) (by omega) (fun v6118 pv6118 => ?_)
    refine WQ_isub dX11_openChest_40 (by omega) (by omega) (fun v6119 hv6119 => ?_)
    refine WQ_iast dX11_openChest_41 (ly_is hy 39 13 rfl) (ly_n hy 39 35 rfl) (by omega) (by omega) (fun I6120 fI6120 => ?_)
    have eI6120 := fI6120
    rw [cl (x := v6115) (n := 32) (by omega)] at eI6120
    clear fI6120
    have hI6120 : MP g n L I6120 := by rw [eI6120]; exact (mp_w hy hI (c := 39) (mi_f hy hI.1 (c := 39) (0) (23760) (700000) (by decide) (Or.inl (by decide)) (by decide) (by omega) (by omega)) (by decide) (by decide) (Or.inl (by decide)))
    have e6121 : I6120 (ad g 0) 1 = L := by rw [eI6120, pp_ne _ _ (Or.inl (ly_ne hy (by decide) (by decide) (by decide)))]; exact e6101
    have e6122 : I6120 (ad g 39) 33 = w6103 := by rw [eI6120, pp_ne _ _ (Or.inr (by decide))]; exact ew6103
    have e6123 : I6120 (ad g 0) 10 = w6104 := by rw [eI6120, pp_ne _ _ (Or.inl (ly_ne hy (by decide) (by decide) (by decide)))]; exact ew6104
    have e6124 : I6120 (ad g 0) 14 = w6105 := by rw [eI6120, pp_ne _ _ (Or.inl (ly_ne hy (by decide) (by decide) (by decide)))]; exact ew6105
    have e6125 : I6120 (ad g 0) 68 = w6106 := by rw [eI6120, pp_ne _ _ (Or.inl (ly_ne hy (by decide) (by decide) (by decide)))]; exact ew6106
    have e6126 : I6120 (ad g 0) 13 = v6108 := by rw [eI6120, pp_ne _ _ (Or.inl (ly_ne hy (by decide) (by decide) (by decide)))]; exact ev6108
    have e6127 : I6120 (ad g 8) v6108.toNatClampNeg = v6113 := by rw [eI6120, pp_ne _ _ (Or.inl (ly_ne hy (by decide) (by decide) (by decide)))]; exact ev6113
    have e6128 : I6120 (ad g 39) 32 = v6119 := by rw [eI6120, pp_self]
    have fr6129 : fs g [] I I6120 := by rw [eI6120]; exact fs_ppn hy frq0 (by decide) (by decide)
    have fr6130 : fz 49 g [39] I I6120 := by rw [eI6120]; exact fzm_pp hy fr0 (by decide) (by decide)
    clear eI6120
    refine WP_aload_n dX11_openChest_42 rfl ?_
    refine WQ_bipush (24) (24) dX11_openChest_43 rfl rfl (fun v6131 hv6131 => ?_)
    refine WP_aload_n dX11_openChest_45 rfl ?_
    refine WQ_getim dX11_openChest_46 fX11_221 rfl (ly_is hy 0 11 rfl) e6126 ?_
    refine WQ_iadd dX11_openChest_49 (by omega) (by omega) (fun v6132 hv6132 => ?_)
    refine WP_dup2 dX11_openChest_50 rfl rfl ?_
    refine WQ_ialdu dX11_openChest_51 (ly_is hy 39 13 rfl) (ly_n hy 39 35 rfl) (by omega) (by omega) (fun v6133 => ?_)
    refine WP_iload_n dX11_openChest_52 rfl ?_
    refine WP_aload_n dX11_openChest_53 rfl ?_
    refine WP_getr dX11_openChest_54 fX11_235 rfl (ly_is hy 0 11 rfl) (rf hr 0 26 8 (by decide)) ?_
    refine WP_aload_n dX11_openChest_57 rfl ?_
    refine WQ_getim dX11_openChest_58 fX11_221 rfl (ly_is hy 0 11 rfl) e6126 ?_
    refine WQ_ialde dX11_openChest_61 (ly_is hy 8 13 rfl) (ly_n hy 8 4 rfl) (by omega) (by omega) e6127 ?_
    have knv6135 : 0 ≤ v6114.toInt * v6113.toInt := Int.mul_nonneg (by omega) (by omega)
    refine WQ_imulx dX11_openChest_62 (by omega) (by omega) (fun v6135 pv6135 => ?_)
    refine WQ_iaddu dX11_openChest_63 (fun v6136 => ?_)
    refine WQ_iast dX11_openChest_64 (ly_is hy 39 13 rfl) (ly_n hy 39 35 rfl) (by omega) (by omega) (fun I6137 eI6137 => ?_)
    have hI6137 : MP g n L I6137 := by rw [eI6137]; exact (mp_w hy hI6120 (c := 39) (mi_rr hy hI6120.1 (c := 39) (24) (27) (0) (0) (0) (by decide) (Or.inl (by decide)) (by rw [cl (n := v6132.toInt.toNat) (by omega)]; omega) (by decide) (fun h => absurd h (by decide))) (by decide) (by decide) (Or.inl (by decide)))
    have e6138 : I6137 (ad g 0) 1 = L := by rw [eI6137, pp_ne _ _ (Or.inl (ly_ne hy (by decide) (by decide) (by decide)))]; exact e6121
    have e6139 : I6137 (ad g 39) 33 = w6103 := by rw [eI6137, pp_ne _ _ (Or.inr (by rw [cl (x := v6132) (n := v6132.toInt.toNat) (by omega)]; omega))]; exact e6122
    have e6140 : I6137 (ad g 0) 10 = w6104 := by rw [eI6137, pp_ne _ _ (Or.inl (ly_ne hy (by decide) (by decide) (by decide)))]; exact e6123
    have e6141 : I6137 (ad g 0) 14 = w6105 := by rw [eI6137, pp_ne _ _ (Or.inl (ly_ne hy (by decide) (by decide) (by decide)))]; exact e6124
    have e6142 : I6137 (ad g 0) 68 = w6106 := by rw [eI6137, pp_ne _ _ (Or.inl (ly_ne hy (by decide) (by decide) (by decide)))]; exact e6125
    have e6143 : I6137 (ad g 0) 13 = v6108 := by rw [eI6137, pp_ne _ _ (Or.inl (ly_ne hy (by decide) (by decide) (by decide)))]; exact e6126
    have e6144 : I6137 (ad g 8) v6108.toNatClampNeg = v6113 := by rw [eI6137, pp_ne _ _ (Or.inl (ly_ne hy (by decide) (by decide) (by decide)))]; exact e6127
    have e6145 : I6137 (ad g 39) 32 = v6119 := by rw [eI6137, pp_ne _ _ (Or.inr (by rw [cl (x := v6132) (n := v6132.toInt.toNat) (by omega)]; omega))]; exact e6128
    have fr6146 : fs g [] I I6137 := by rw [eI6137]; exact fs_ppn hy fr6129 (by decide) (by decide)
    have fr6147 : fz 49 g [39] I I6137 := by rw [eI6137]; exact fzm_pp hy fr6130 (by decide) (by decide)
    clear eI6137
    refine WP_aload_n dX11_openChest_65 rfl ?_
    refine WQ_iconst (0) (0) dX11_openChest_66 rfl rfl (fun v6148 hv6148 => ?_)
    refine WP_aload_n dX11_openChest_67 rfl ?_
    refine WQ_getim dX11_openChest_68 fX11_221 rfl (ly_is hy 0 11 rfl) e6143 ?_
    refine WQ_iadd dX11_openChest_71 (by omega) (by omega) (fun v6149 hv6149 => ?_)
    refine WQ_bipush (60) (60) dX11_openChest_72 rfl rfl (fun v6150 hv6150 => ?_)
    refine WP_aload_n dX11_openChest_74 rfl ?_
    refine WQ_iconst (0) (0) dX11_openChest_75 rfl rfl (fun v6151 hv6151 => ?_)
    refine WP_aload_n dX11_openChest_76 rfl ?_
    refine WQ_getim dX11_openChest_77 fX11_221 rfl (ly_is hy 0 11 rfl) e6143 ?_
    refine WQ_iadd dX11_openChest_80 (by omega) (by omega) (fun v6152 hv6152 => ?_)
    refine WQ_ialdr dX11_openChest_81 (ly_is hy 39 13 rfl) (ly_n hy 39 35 rfl) (by omega) (by omega) (a := 0) (b := 4) (by omega) (by omega) (fun q hq1 hq2 => BT_get hI6137.1.1 39 0 4 (0) (0) (60) (by decide) q hq1 hq2) (fun v6153 av6153 bv6153 => ?_)
    refine WP_iload_n dX11_openChest_82 rfl ?_
    refine WQ_iadd dX11_openChest_83 (by omega) (by omega) (fun v6154 hv6154 => ?_)
    refine WQ_min dX11_openChest_84 lX11_417 ⟨by decide, Nat.le_of_ble_eq_true rfl⟩ (fun v6155 av6155 bv6155 cv6155 => ?_)
    refine WQ_iast dX11_openChest_87 (ly_is hy 39 13 rfl) (ly_n hy 39 35 rfl) (by omega) (by omega) (fun I6156 eI6156 => ?_)
    have hI6156 : MP g n L I6156 := by rw [eI6156]; exact (mp_w hy hI6137 (c := 39) (mi_rr hy hI6137.1 (c := 39) (0) (3) (0) (0) (60) (by decide) (Or.inl (by decide)) (by rw [cl (n := v6149.toInt.toNat) (by omega)]; omega) (by decide) (fun _ => ⟨by omega, by omega⟩)) (by decide) (by decide) (Or.inl (by decide)))
    have e6157 : I6156 (ad g 0) 1 = L := by rw [eI6156, pp_ne _ _ (Or.inl (ly_ne hy (by decide) (by decide) (by decide)))]; exact e6138
    have e6158 : I6156 (ad g 39) 33 = w6103 := by rw [eI6156, pp_ne _ _ (Or.inr (by rw [cl (x := v6149) (n := v6149.toInt.toNat) (by omega)]; omega))]; exact e6139
    have e6159 : I6156 (ad g 0) 10 = w6104 := by rw [eI6156, pp_ne _ _ (Or.inl (ly_ne hy (by decide) (by decide) (by decide)))]; exact e6140
    have e6160 : I6156 (ad g 0) 14 = w6105 := by rw [eI6156, pp_ne _ _ (Or.inl (ly_ne hy (by decide) (by decide) (by decide)))]; exact e6141
    have e6161 : I6156 (ad g 0) 68 = w6106 := by rw [eI6156, pp_ne _ _ (Or.inl (ly_ne hy (by decide) (by decide) (by decide)))]; exact e6142
    have e6162 : I6156 (ad g 0) 13 = v6108 := by rw [eI6156, pp_ne _ _ (Or.inl (ly_ne hy (by decide) (by decide) (by decide)))]; exact e6143
    have e6163 : I6156 (ad g 8) v6108.toNatClampNeg = v6113 := by rw [eI6156, pp_ne _ _ (Or.inl (ly_ne hy (by decide) (by decide) (by decide)))]; exact e6144
    have e6164 : I6156 (ad g 39) 32 = v6119 := by rw [eI6156, pp_ne _ _ (Or.inr (by rw [cl (x := v6149) (n := v6149.toInt.toNat) (by omega)]; omega))]; exact e6145
    have fr6165 : fs g [] I I6156 := by rw [eI6156]; exact fs_ppn hy fr6146 (by decide) (by decide)
    have fr6166 : fz 49 g [39] I I6156 := by rw [eI6156]; exact fzm_pp hy fr6147 (by decide) (by decide)
    clear eI6156
    exact WP_vret dX11_openChest_88 rfl ⟨⟨hI6156, rfl, fr6166, frj0, fr6165, ⟨(by rw [e6164, ew6107]; omega), (by rw [e6158, ew6103] <;> exact (eq32 _ _).mpr (by omega)), (by rw [e6159, ew6104] <;> exact (eq32 _ _).mpr (by omega)), (by rw [e6160, ew6105] <;> exact (eq32 _ _).mpr (by omega)), (by rw [e6161, ew6106] <;> exact (eq32 _ _).mpr (by omega))⟩⟩, rfl⟩
  · exact WP_vret dX11_openChest_8 rfl ⟨⟨hI, rfl, fr0, frj0, frq0, ⟨(by omega), rfl, rfl, rfl, rfl⟩⟩, rfl⟩
set_option maxHeartbeats 4000000 in
set_option maxRecDepth 100000 in
theorem sm_dayOf_39 {g : GG} {n : Int} {L : Int32} (hy : Ly g)  {I : pI} {J : pJ} {R : pR} (hr : Rf g R) (hI : MP g n L I)   (hn : 0 ≤ n ∧ n ≤ 40000) (hb : (I (ad g 39) 32).toInt ≤ 23760 * n + 700000 - 23760 ∧ (I (ad g 39) 33).toInt ≤ n + 30 - 1) : SP g mX11_dayOf [.ref (ad g 0), .ref (ad g 39)] I J R (fun r I' J' R' => (MP g n L I' ∧ R' = R ∧ fz 49 g [0, 35, 36, 37, 40, 41, 39] I I' ∧ fz 49 g [] J J' ∧ fs g [56] I I' ∧ ((I' (ad g 39) 32).toInt ≤ (I (ad g 39) 32).toInt + 23760 ∧ (I' (ad g 39) 33).toInt = (I (ad g 39) 33).toInt + 1) ∧ I' (ad g 0) 10 = I (ad g 0) 10 ∧ I' (ad g 0) 14 = I (ad g 0) 14 ∧ I' (ad g 0) 68 = I (ad g 0) 68) ∧ ∃ v : Int64, r = some (.long v)) := by
  refine SP_of ⟨by decide, rfl⟩ (Nat.le_of_ble_eq_true rfl) ?_
  have e6167 : I (ad g 0) 1 = L := hI.1.2
  have b6168 := BT_get hI.1.1 0 1 2 (0) (0) (900) (by decide) 1 (by decide) (by decide)
  rw [e6167] at b6168
  have fr0 : fz 49 g [0, 35, 36, 37, 40, 41, 39] I I := fz_rf
  have frj0 : fz 49 g [] J J := fz_rf
  have frq0 : fs g [56] I I := fs_rf
  obtain ⟨w6169, ew6169⟩ : ∃ w : Int32, I (ad g 0) 10 = w := ⟨_, rfl⟩
  have bw6169 := BT_get hI.1.1 0 10 11 (0) (0) (4) (by decide) 10 (by decide) (by decide)
  rw [ew6169] at bw6169
  obtain ⟨w6170, ew6170⟩ : ∃ w : Int32, I (ad g 0) 14 = w := ⟨_, rfl⟩
  have bw6170 := BT_get hI.1.1 0 14 15 (-1) (0) (2) (by decide) 14 (by decide) (by decide)
  rw [ew6170] at bw6170
  obtain ⟨w6171, ew6171⟩ : ∃ w : Int32, I (ad g 0) 68 = w := ⟨_, rfl⟩
  obtain ⟨w6172, ew6172⟩ : ∃ w : Int32, I (ad g 39) 32 = w := ⟨_, rfl⟩
  have bw6172 := BT_get hI.1.1 39 32 33 (0) (23760) (700000) (by decide) 32 (by decide) (by decide)
  rw [ew6172] at bw6172
  obtain ⟨w6173, ew6173⟩ : ∃ w : Int32, I (ad g 39) 33 = w := ⟨_, rfl⟩
  have bw6173 := BT_get hI.1.1 39 33 34 (0) (1) (30) (by decide) 33 (by decide) (by decide)
  rw [ew6173] at bw6173
  rw [ew6172, ew6173] at hb
  refine WP_aload_n dX11_dayOf_0 rfl ?_
  refine WQ_bipush (33) (33) dX11_dayOf_1 rfl rfl (fun v6174 hv6174 => ?_)
  refine WQ_ialdm (z := 33) dX11_dayOf_3 (ly_is hy 39 13 rfl) (ly_n hy 39 35 rfl) hv6174 (by decide) ew6173 ?_
  refine WQ_bipush (7) (7) dX11_dayOf_4 rfl rfl (fun v6176 hv6176 => ?_)
  refine WQ_iremk (7) dX11_dayOf_6 hv6176 (by decide) (by omega) (fun v6177 hv6177 => ?_)
  refine WP_istore_n (ls' := [(0, _), (1, _), (2, _)]) dX11_dayOf_7 (by decide) rfl ?_
  refine WP_lconst (0) dX11_dayOf_8 rfl ?_
  obtain ⟨l6178, hl6178, el6178⟩ : ∃ v : Int64, v.toInt = 0 ∧ (0 : Int64) = v := ⟨_, rfl, rfl⟩
  rw [el6178]; clear el6178
  refine WP_lstore_n (ls' := [(0, _), (1, _), (2, _), (3, _)]) dX11_dayOf_9 (by decide) rfl ?_
  refine WP_iload_n dX11_dayOf_10 rfl ?_
  refine WQ_if_ne 19 dX11_dayOf_11 rfl (fun c6178 => ?_) (fun c6178 => ?_)
  · refine WQ_iconst (0) (0) dX11_dayOf_19 rfl rfl (fun v6180 hv6180 => ?_)
    refine WP_istore (ls' := [(0, _), (1, _), (2, _), (3, _), (5, _)]) dX11_dayOf_20 (by decide) rfl ?_
    have lp22_6188 : ∀ (mz : Nat) (i6181 : Int32) (I6182 : pI) (J6183 : pJ), MP g n L I6182 → fz 49 g [0, 35, 36, 37, 40, 41, 39] I I6182 → fz 49 g [] J J6183 → fs g [56] I I6182 → ∀ (w6184 : Int32), I6182 (ad g 39) 32 = w6184 → ∀ (w6185 : Int32), I6182 (ad g 39) 33 = w6185 → ∀ (w6186 : Int32), I6182 (ad g 0) 10 = w6186 → ∀ (w6187 : Int32), I6182 (ad g 0) 14 = w6187 → ∀ (w6188 : Int32), I6182 (ad g 0) 68 = w6188 → 0 ≤ i6181.toInt → i6181.toInt ≤ 3 → w6185.toInt = w6173.toInt → w6186.toInt = w6169.toInt → w6187.toInt = w6170.toInt → w6188.toInt = w6171.toInt → w6184.toInt ≤ w6172.toInt → (4 - i6181.toInt).toNat < mz → WP g mX11_dayOf 22 [(0, .ref (ad g 0)), (1, .ref (ad g 39)), (2, .int v6177), (3, .long l6178), (5, .int i6181)] [] I6182 J6183 R (fun r I' J' R' => (MP g n L I' ∧ R' = R ∧ fz 49 g [0, 35, 36, 37, 40, 41, 39] I I' ∧ fz 49 g [] J J' ∧ fs g [56] I I' ∧ ((I' (ad g 39) 32).toInt ≤ (I (ad g 39) 32).toInt + 23760 ∧ (I' (ad g 39) 33).toInt = (I (ad g 39) 33).toInt + 1) ∧ I' (ad g 0) 10 = I (ad g 0) 10 ∧ I' (ad g 0) 14 = I (ad g 0) 14 ∧ I' (ad g 0) 68 = I (ad g 0) 68) ∧ ∃ v : Int64, r = some (.long v)) := by
      intro mz
      induction mz with
      | zero =>
        intro i6181 I6182 J6183 hI6182 fiI6182 fjJ6183 fqI6182 w6184 ew6184 w6185 ew6185 w6186 ew6186 w6187 ew6187 w6188 ew6188 ai6181 bi6181 j0_I6182 j1_I6182 j2_I6182 j3_I6182 j4_I6182 hmlp22_6188
        exact absurd hmlp22_6188 (Nat.not_lt_zero _)
      | succ mz ihlp22_6188 =>
        intro i6181 I6182 J6183 hI6182 fiI6182 fjJ6183 fqI6182 w6184 ew6184 w6185 ew6185 w6186 ew6186 w6187 ew6187 w6188 ew6188 ai6181 bi6181 j0_I6182 j1_I6182 j2_I6182 j3_I6182 j4_I6182 hmlp22_6188
        have bw6184 := BT_get hI6182.1.1 39 32 33 (0) (23760) (700000) (by decide) 32 (by decide) (by decide)
        rw [ew6184] at bw6184
        have bw6185 := BT_get hI6182.1.1 39 33 34 (0) (1) (30) (by decide) 33 (by decide) (by decide)
        rw [ew6185] at bw6185
        have bw6186 := BT_get hI6182.1.1 0 10 11 (0) (0) (4) (by decide) 10 (by decide) (by decide)
        rw [ew6186] at bw6186
        have bw6187 := BT_get hI6182.1.1 0 14 15 (-1) (0) (2) (by decide) 14 (by decide) (by decide)
        rw [ew6187] at bw6187
        have e6190 : I6182 (ad g 0) 1 = L := hI6182.1.2
        have b6191 := BT_get hI6182.1.1 0 1 2 (0) (0) (900) (by decide) 1 (by decide) (by decide)
        rw [e6190] at b6191
        refine WP_iload dX11_dayOf_22 rfl ?_
        refine WP_aload_n dX11_dayOf_24 rfl ?_
        refine WQ_geti dX11_dayOf_25 fX11_332 rfl (ly_is hy 0 11 rfl) (BT_get hI6182.1.1 0 11 12 (0) (0) (3) (by decide) 11 (by decide) (by decide)) (fun v6192 ev6192 av6192 bv6192 => ?_)
        refine WQ_icmp_ge 85 dX11_dayOf_28 rfl (fun c6192 => ?_) (fun c6192 => ?_)
        · refine WQ_iconst (0) (0) dX11_dayOf_85 rfl rfl (fun v6194 hv6194 => ?_)
          refine WP_istore (ls' := [(0, _), (1, _), (2, _), (3, _), (5, _)]) dX11_dayOf_86 (by decide) rfl ?_
          have lp88_6203 : ∀ (mz : Nat) (l6195 : Int64) (i6196 : Int32) (I6197 : pI) (J6198 : pJ), MP g n L I6197 → fz 49 g [0, 35, 36, 37, 40, 41, 39] I I6197 → fz 49 g [] J J6198 → fs g [56] I I6197 → ∀ (w6199 : Int32), I6197 (ad g 39) 32 = w6199 → ∀ (w6200 : Int32), I6197 (ad g 39) 33 = w6200 → ∀ (w6201 : Int32), I6197 (ad g 0) 10 = w6201 → ∀ (w6202 : Int32), I6197 (ad g 0) 14 = w6202 → ∀ (w6203 : Int32), I6197 (ad g 0) 68 = w6203 → 0 ≤ i6196.toInt → i6196.toInt ≤ 4 → w6200.toInt = w6173.toInt → w6201.toInt = w6169.toInt → w6202.toInt = w6170.toInt → w6203.toInt = w6171.toInt → w6199.toInt ≤ w6172.toInt → (5 - i6196.toInt).toNat < mz → WP g mX11_dayOf 88 [(0, .ref (ad g 0)), (1, .ref (ad g 39)), (2, .int v6177), (3, .long l6195), (5, .int i6196)] [] I6197 J6198 R (fun r I' J' R' => (MP g n L I' ∧ R' = R ∧ fz 49 g [0, 35, 36, 37, 40, 41, 39] I I' ∧ fz 49 g [] J J' ∧ fs g [56] I I' ∧ ((I' (ad g 39) 32).toInt ≤ (I (ad g 39) 32).toInt + 23760 ∧ (I' (ad g 39) 33).toInt = (I (ad g 39) 33).toInt + 1) ∧ I' (ad g 0) 10 = I (ad g 0) 10 ∧ I' (ad g 0) 14 = I (ad g 0) 14 ∧ I' (ad g 0) 68 = I (ad g 0) 68) ∧ ∃ v : Int64, r = some (.long v)) := by
            intro mz
            induction mz with
            | zero =>
              intro l6195 i6196 I6197 J6198 hI6197 fiI6197 fjJ6198 fqI6197 w6199 ew6199 w6200 ew6200 w6201 ew6201 w6202 ew6202 w6203 ew6203 ai6196 bi6196 j0_I6197 j1_I6197 j2_I6197 j3_I6197 j4_I6197 hmlp88_6203
              exact absurd hmlp88_6203 (Nat.not_lt_zero _)
            | succ mz ihlp88_6203 =>
              intro l6195 i6196 I6197 J6198 hI6197 fiI6197 fjJ6198 fqI6197 w6199 ew6199 w6200 ew6200 w6201 ew6201 w6202 ew6202 w6203 ew6203 ai6196 bi6196 j0_I6197 j1_I6197 j2_I6197 j3_I6197 j4_I6197 hmlp88_6203
              have bw6199 := BT_get hI6197.1.1 39 32 33 (0) (23760) (700000) (by decide) 32 (by decide) (by decide)
              rw [ew6199] at bw6199
              have bw6200 := BT_get hI6197.1.1 39 33 34 (0) (1) (30) (by decide) 33 (by decide) (by decide)
              rw [ew6200] at bw6200
              have bw6201 := BT_get hI6197.1.1 0 10 11 (0) (0) (4) (by decide) 10 (by decide) (by decide)
              rw [ew6201] at bw6201
              have bw6202 := BT_get hI6197.1.1 0 14 15 (-1) (0) (2) (by decide) 14 (by decide) (by decide)
              rw [ew6202] at bw6202
              have e6205 : I6197 (ad g 0) 1 = L := hI6197.1.2
              have b6206 := BT_get hI6197.1.1 0 1 2 (0) (0) (900) (by decide) 1 (by decide) (by decide)
              rw [e6205] at b6206
              refine WP_iload dX11_dayOf_88 rfl ?_
              refine WP_aload_n dX11_dayOf_90 rfl ?_
              refine WQ_getim dX11_dayOf_91 fX11_329 rfl (ly_is hy 0 11 rfl) ew6201 ?_
              refine WQ_icmp_ge 114 dX11_dayOf_94 rfl (fun c6206 => ?_) (fun c6206 => ?_)
              · refine WQ_iconst (0) (0) dX11_dayOf_114 rfl rfl (fun v6208 hv6208 => ?_)
                refine WP_istore (ls' := [(0, _), (1, _), (2, _), (3, _), (5, _)]) dX11_dayOf_115 (by decide) rfl ?_
                have lp117_6216 : ∀ (mz : Nat) (i6209 : Int32) (I6210 : pI) (J6211 : pJ), MP g n L I6210 → fz 49 g [0, 35, 36, 37, 40, 41, 39] I I6210 → fz 49 g [] J J6211 → fs g [56] I I6210 → ∀ (w6212 : Int32), I6210 (ad g 39) 32 = w6212 → ∀ (w6213 : Int32), I6210 (ad g 39) 33 = w6213 → ∀ (w6214 : Int32), I6210 (ad g 0) 10 = w6214 → ∀ (w6215 : Int32), I6210 (ad g 0) 14 = w6215 → ∀ (w6216 : Int32), I6210 (ad g 0) 68 = w6216 → 0 ≤ i6209.toInt → i6209.toInt ≤ 4 → w6213.toInt = w6173.toInt → w6214.toInt = w6169.toInt → w6215.toInt = w6170.toInt → w6216.toInt = w6171.toInt → w6212.toInt ≤ w6172.toInt + 5940 * i6209.toInt → (5 - i6209.toInt).toNat < mz → WP g mX11_dayOf 117 [(0, .ref (ad g 0)), (1, .ref (ad g 39)), (2, .int v6177), (3, .long l6195), (5, .int i6209)] [] I6210 J6211 R (fun r I' J' R' => (MP g n L I' ∧ R' = R ∧ fz 49 g [0, 35, 36, 37, 40, 41, 39] I I' ∧ fz 49 g [] J J' ∧ fs g [56] I I' ∧ ((I' (ad g 39) 32).toInt ≤ (I (ad g 39) 32).toInt + 23760 ∧ (I' (ad g 39) 33).toInt = (I (ad g 39) 33).toInt + 1) ∧ I' (ad g 0) 10 = I (ad g 0) 10 ∧ I' (ad g 0) 14 = I (ad g 0) 14 ∧ I' (ad g 0) 68 = I (ad g 0) 68) ∧ ∃ v : Int64, r = some (.long v)) := by
                  intro mz
                  induction mz with
                  | zero =>
                    intro i6209 I6210 J6211 hI6210 fiI6210 fjJ6211 fqI6210 w6212 ew6212 w6213 ew6213 w6214 ew6214 w6215 ew6215 w6216 ew6216 ai6209 bi6209 j0_I6210 j1_I6210 j2_I6210 j3_I6210 j4_I6210 hmlp117_6216
                    exact absurd hmlp117_6216 (Nat.not_lt_zero _)
                  | succ mz ihlp117_6216 =>
                    intro i6209 I6210 J6211 hI6210 fiI6210 fjJ6211 fqI6210 w6212 ew6212 w6213 ew6213 w6214 ew6214 w6215 ew6215 w6216 ew6216 ai6209 bi6209 j0_I6210 j1_I6210 j2_I6210 j3_I6210 j4_I6210 hmlp117_6216
                    have bw6212 := BT_get hI6210.1.1 39 32 33 (0) (23760) (700000) (by decide) 32 (by decide) (by decide)
                    rw [ew6212] at bw6212
                    have bw6213 := BT_get hI6210.1.1 39 33 34 (0) (1) (30) (by decide) 33 (by decide) (by decide)
                    rw [ew6213] at bw6213
                    have bw6214 := BT_get hI6210.1.1 0 10 11 (0) (0) (4) (by decide) 10 (by decide) (by decide)
                    rw [ew6214] at bw6214
                    have bw6215 := BT_get hI6210.1.1 0 14 15 (-1) (0) (2) (by decide) 14 (by decide) (by decide)
                    rw [ew6215] at bw6215
                    have e6218 : I6210 (ad g 0) 1 = L := hI6210.1.2
                    have b6219 := BT_get hI6210.1.1 0 1 2 (0) (0) (900) (by decide) 1 (by decide) (by decide)
                    rw [e6218] at b6219
                    refine WP_iload dX11_dayOf_117 rfl ?_
                    refine WP_aload_n dX11_dayOf_119 rfl ?_
                    refine WQ_getim dX11_dayOf_120 fX11_329 rfl (ly_is hy 0 11 rfl) ew6214 ?_
                    refine WQ_icmp_ge 140 dX11_dayOf_123 rfl (fun c6219 => ?_) (fun c6219 => ?_)
                    · refine WP_aload_n dX11_dayOf_140 rfl ?_
                      refine WQ_bipush (33) (33) dX11_dayOf_141 rfl rfl (fun v6221 hv6221 => ?_)
                      refine WP_dup2 dX11_dayOf_143 rfl rfl ?_
                      refine WQ_ialdm (z := 33) dX11_dayOf_144 (ly_is hy 39 13 rfl) (ly_n hy 39 35 rfl) hv6221 (by decide) ew6213 ?_
                      refine WQ_iconst (1) (1) dX11_dayOf_145 rfl rfl (fun v6223 hv6223 => ?_)
                      refine WQ_iadd dX11_dayOf_146 (by omega) (by omega) (fun v6224 hv6224 => ?_)
                      refine WQ_iast dX11_dayOf_147 (ly_is hy 39 13 rfl) (ly_n hy 39 35 rfl) (by omega) (by omega) (fun I6225 fI6225 => ?_)
                      have eI6225 := fI6225
                      rw [cl (x := v6221) (n := 33) (by omega)] at eI6225
                      clear fI6225
                      have hI6225 : MP g n L I6225 := by rw [eI6225]; exact (mp_w hy hI6210 (c := 39) (mi_f hy hI6210.1 (c := 39) (0) (1) (30) (by decide) (Or.inl (by decide)) (by decide) (by omega) (by omega)) (by decide) (by decide) (Or.inl (by decide)))
                      have e6226 : I6225 (ad g 39) 32 = w6212 := by rw [eI6225, pp_ne _ _ (Or.inr (by decide))]; exact ew6212
                      have e6227 : I6225 (ad g 0) 10 = w6214 := by rw [eI6225, pp_ne _ _ (Or.inl (ly_ne hy (by decide) (by decide) (by decide)))]; exact ew6214
                      have e6228 : I6225 (ad g 0) 14 = w6215 := by rw [eI6225, pp_ne _ _ (Or.inl (ly_ne hy (by decide) (by decide) (by decide)))]; exact ew6215
                      have e6229 : I6225 (ad g 0) 68 = w6216 := by rw [eI6225, pp_ne _ _ (Or.inl (ly_ne hy (by decide) (by decide) (by decide)))]; exact ew6216
                      have e6230 : I6225 (ad g 0) 1 = L := by rw [eI6225, pp_ne _ _ (Or.inl (ly_ne hy (by decide) (by decide) (by decide)))]; exact e6218
                      have e6231 : I6225 (ad g 39) 33 = v6224 := by rw [eI6225, pp_self]
                      have fr6232 : fs g [56] I I6225 := by rw [eI6225]; exact fs_ppn hy fqI6210 (by decide) (by decide)
                      have fr6233 : fz 49 g [0, 35, 36, 37, 40, 41, 39] I I6225 := by rw [eI6225]; exact fzm_pp hy fiI6210 (by decide) (by decide)
                      clear eI6225
                      refine WP_lload_n dX11_dayOf_148 rfl ?_
                      exact WP_lret dX11_dayOf_149 rfl ⟨⟨hI6225, rfl, fr6233, fjJ6211, fr6232, ⟨(by rw [e6226, ew6172, e6231, ew6173]; omega), (by rw [e6227, ew6169] <;> exact (eq32 _ _).mpr (by omega)), (by rw [e6228, ew6170] <;> exact (eq32 _ _).mpr (by omega)), (by rw [e6229, ew6171] <;> exact (eq32 _ _).mpr (by omega))⟩⟩, _, rfl⟩
                    · refine WP_aload_n dX11_dayOf_126 rfl ?_
                      refine WP_aload_n dX11_dayOf_127 rfl ?_
                      refine WP_iload dX11_dayOf_128 rfl ?_
                      refine WP_iload_n dX11_dayOf_130 rfl ?_
                      refine WP_callV3 (k := 11) dX11_dayOf_131 ⟨⟨⟨by decide, by decide⟩, zX11_nightOf⟩, lX11_478, by decide, rfl, vX11_nightOf.1, vX11_nightOf.2⟩ (ly_is hy 0 11 rfl) (sm_nightOfx_39 hy hr hI6210 i6209 v6177 (by omega) (by omega) (by omega) (by omega) (by omega) (by rw [ew6212]; omega)) (Nat.le_of_ble_eq_true rfl) ?_
                      intro r I6234 J6235 Ra hq
                      obtain ⟨⟨hI6234, ec, fiI6234, fjI6234, fqI6234, ⟨pI6234, sI6234_39_33, sI6234_0_10, sI6234_0_14, sI6234_0_68⟩⟩, rfl⟩ := hq
                      rw [ec]
                      clear ec Ra
                      have fr6236 : fz 49 g [0, 35, 36, 37, 40, 41, 39] I I6234 := fz_tr fiI6210 (fz_mono fiI6234 (by decide))
                      have fr6237 : fs g [56] I I6234 := fs_tr fqI6210 (fs_mono fqI6234 (by decide))
                      have fr6238 : fz 49 g [] J J6235 := fz_tr fjJ6211 (fz_mono fjI6234 (by decide))
                      have e6239 : I6234 (ad g 39) 33 = w6213 := by rw [sI6234_39_33]; exact ew6213
                      have e6240 : I6234 (ad g 0) 10 = w6214 := by rw [sI6234_0_10]; exact ew6214
                      have e6241 : I6234 (ad g 0) 14 = w6215 := by rw [sI6234_0_14]; exact ew6215
                      have e6242 : I6234 (ad g 0) 68 = w6216 := by rw [sI6234_0_68]; exact ew6216
                      have e6243 : I6234 (ad g 0) 1 = L := hI6234.1.2
                      have b6244 := BT_get hI6234.1.1 0 1 2 (0) (0) (900) (by decide) 1 (by decide) (by decide)
                      rw [e6243] at b6244
                      obtain ⟨w6245, ew6245⟩ : ∃ w : Int32, I6234 (ad g 39) 32 = w := ⟨_, rfl⟩
                      have bw6245 := BT_get hI6234.1.1 39 32 33 (0) (23760) (700000) (by decide) 32 (by decide) (by decide)
                      rw [ew6245] at bw6245
                      rw [ew6245, ew6212] at pI6234
                      refine WP_iinc (ls' := [(0, _), (1, _), (2, _), (3, _), (5, _)]) dX11_dayOf_134 rfl (by decide) rfl ?_
                      have hv6246 : (i6209 + Int32.ofInt (1)).toInt = i6209.toInt + (1) := ia_n rfl (by omega) (by omega)
                      generalize i6209 + Int32.ofInt (1) = v6246 at hv6246 ⊢
                      refine WP_goto 117 dX11_dayOf_137 rfl ?_
                      exact WP_sub (fc rfl (fc rfl (fc rfl (fc rfl (fc rfl fn))))) (ihlp117_6216 v6246 I6234 J6235 hI6234 fr6236 fr6238 fr6237 w6245 ew6245 w6213 e6239 w6214 e6240 w6215 e6241 w6216 e6242 (by omega) (by omega) (by omega) (by omega) (by omega) (by omega) (by omega) (by omega))
                exact WP_sub (fc rfl (fc rfl (fc rfl (fc rfl (fc rfl fn))))) (lp117_6216 _ v6208 I6197 J6198 hI6197 fiI6197 fjJ6198 fqI6197 w6199 ew6199 w6200 ew6200 w6201 ew6201 w6202 ew6202 w6203 ew6203 (by omega) (by omega) (by omega) (by omega) (by omega) (by omega) (by omega) (Nat.lt_succ_self _))
              · refine WP_lload_n dX11_dayOf_97 rfl ?_
                refine WP_aload_n dX11_dayOf_98 rfl ?_
                refine WP_aload_n dX11_dayOf_99 rfl ?_
                refine WP_iload dX11_dayOf_100 rfl ?_
                refine WP_iload_n dX11_dayOf_102 rfl ?_
                refine WP_callV3 (k := 11) dX11_dayOf_103 ⟨⟨⟨by decide, by decide⟩, zX11_sortDay⟩, lX11_474, by decide, rfl, vX11_sortDay.1, vX11_sortDay.2⟩ (ly_is hy 0 11 rfl) (sm_sortDay_39 hy hr hI6197 i6196 v6177 (by omega) (by omega) (by omega) (by omega) (by rw [ew6201]; omega)) (Nat.le_of_ble_eq_true rfl) ?_
                intro r I6247 J6248 Ra hq
                obtain ⟨⟨hI6247, ec, fiI6247, ejI6247, fqI6247, ⟨pI6247, sI6247_39_32, sI6247_39_33, sI6247_0_10, sI6247_0_14, sI6247_0_68⟩⟩, l6249, rfl⟩ := hq
                show WP _ _ _ _ (.long _ :: _) _ _ _ _
                rw [ec]
                clear ec Ra
                have fr6250 : fz 49 g [0, 35, 36, 37, 40, 41, 39] I I6247 := fz_tr fiI6197 (fz_mono fiI6247 (by decide))
                have fr6251 : fs g [56] I I6247 := fs_tr fqI6197 (fs_mono fqI6247 (by decide))
                rw [ejI6247]
                clear ejI6247 J6248
                have e6252 : I6247 (ad g 39) 32 = w6199 := by rw [sI6247_39_32]; exact ew6199
                have e6253 : I6247 (ad g 39) 33 = w6200 := by rw [sI6247_39_33]; exact ew6200
                have e6254 : I6247 (ad g 0) 10 = w6201 := by rw [sI6247_0_10]; exact ew6201
                have e6255 : I6247 (ad g 0) 14 = w6202 := by rw [sI6247_0_14]; exact ew6202
                have e6256 : I6247 (ad g 0) 68 = w6203 := by rw [sI6247_0_68]; exact ew6203
                have e6257 : I6247 (ad g 0) 1 = L := hI6247.1.2
                have b6258 := BT_get hI6247.1.1 0 1 2 (0) (0) (900) (by decide) 1 (by decide) (by decide)
                rw [e6257] at b6258
                refine WQ_ladd dX11_dayOf_106 (fun l6259 => ?_)
                refine WP_lstore_n (ls' := [(0, _), (1, _), (2, _), (3, _), (5, _)]) dX11_dayOf_107 (by decide) rfl ?_
                refine WP_iinc (ls' := [(0, _), (1, _), (2, _), (3, _), (5, _)]) dX11_dayOf_108 rfl (by decide) rfl ?_
                have hv6260 : (i6196 + Int32.ofInt (1)).toInt = i6196.toInt + (1) := ia_n rfl (by omega) (by omega)
                generalize i6196 + Int32.ofInt (1) = v6260 at hv6260 ⊢
                refine WP_goto 88 dX11_dayOf_111 rfl ?_
                exact WP_sub (fc rfl (fc rfl (fc rfl (fc rfl (fc rfl fn))))) (ihlp88_6203 l6259 v6260 I6247 J6198 hI6247 fr6250 fjJ6198 fr6251 w6199 e6252 w6200 e6253 w6201 e6254 w6202 e6255 w6203 e6256 (by omega) (by omega) (by omega) (by omega) (by omega) (by omega) (by omega) (by omega))
          exact WP_sub (fc rfl (fc rfl (fc rfl (fc rfl (fc rfl fn))))) (lp88_6203 _ l6178 v6194 I6182 J6183 hI6182 fiI6182 fjJ6183 fqI6182 w6184 ew6184 w6185 ew6185 w6186 ew6186 w6187 ew6187 w6188 ew6188 (by omega) (by omega) (by omega) (by omega) (by omega) (by omega) (by omega) (Nat.lt_succ_self _))
        · refine WP_aload_n dX11_dayOf_31 rfl ?_
          refine WP_getr dX11_dayOf_32 fX11_289 rfl (ly_is hy 0 11 rfl) (rf hr 0 62 40 (by decide)) ?_
          refine WP_iload dX11_dayOf_35 rfl ?_
          refine WP_aload_n dX11_dayOf_37 rfl ?_
          refine WQ_geti dX11_dayOf_38 fX11_470 rfl (ly_is hy 0 11 rfl) (BT_get hI6182.1.1 0 64 65 (0) (0) (1) (by decide) 64 (by decide) (by decide)) (fun v6261 ev6261 av6261 bv6261 => ?_)
          have jn78_6274 : ∀ (v6274 : Int32), 0 ≤ v6274.toInt → v6274.toInt ≤ 1000000 → WP g mX11_dayOf 78 [(0, .ref (ad g 0)), (1, .ref (ad g 39)), (2, .int v6177), (3, .long l6178), (5, .int i6181)] [.int v6274, .int i6181, .ref (ad g 40)] I6182 J6183 R (fun r I' J' R' => (MP g n L I' ∧ R' = R ∧ fz 49 g [0, 35, 36, 37, 40, 41, 39] I I' ∧ fz 49 g [] J J' ∧ fs g [56] I I' ∧ ((I' (ad g 39) 32).toInt ≤ (I (ad g 39) 32).toInt + 23760 ∧ (I' (ad g 39) 33).toInt = (I (ad g 39) 33).toInt + 1) ∧ I' (ad g 0) 10 = I (ad g 0) 10 ∧ I' (ad g 0) 14 = I (ad g 0) 14 ∧ I' (ad g 0) 68 = I (ad g 0) 68) ∧ ∃ v : Int64, r = some (.long v)) := by
            intro v6274 av6274 bv6274
            refine WQ_iast dX11_dayOf_78 (ly_is hy 40 13 rfl) (ly_n hy 40 3 rfl) (by omega) (by omega) (fun I6276 eI6276 => ?_)
            have hI6276 : MP g n L I6276 := by rw [eI6276]; exact (mp_w hy hI6182 (c := 40) (mi_r hy hI6182.1 (c := 40) (0) (0) (1000000) (by decide) (Or.inl (by decide)) (by decide) (by omega) (by omega)) (by decide) (by decide) (Or.inl (by decide)))
            have e6277 : I6276 (ad g 39) 32 = w6184 := by rw [eI6276, pp_ne _ _ (Or.inl (ly_ne hy (by decide) (by decide) (by decide)))]; exact ew6184
            have e6278 : I6276 (ad g 39) 33 = w6185 := by rw [eI6276, pp_ne _ _ (Or.inl (ly_ne hy (by decide) (by decide) (by decide)))]; exact ew6185
            have e6279 : I6276 (ad g 0) 10 = w6186 := by rw [eI6276, pp_ne _ _ (Or.inl (ly_ne hy (by decide) (by decide) (by decide)))]; exact ew6186
            have e6280 : I6276 (ad g 0) 14 = w6187 := by rw [eI6276, pp_ne _ _ (Or.inl (ly_ne hy (by decide) (by decide) (by decide)))]; exact ew6187
            have e6281 : I6276 (ad g 0) 68 = w6188 := by rw [eI6276, pp_ne _ _ (Or.inl (ly_ne hy (by decide) (by decide) (by decide)))]; exact ew6188
            have e6282 : I6276 (ad g 0) 1 = L := by rw [eI6276, pp_ne _ _ (Or.inl (ly_ne hy (by decide) (by decide) (by decide)))]; exact e6190
            have e6283 : I6276 (ad g 0) 11 = v6192 := by rw [eI6276, pp_ne _ _ (Or.inl (ly_ne hy (by decide) (by decide) (by decide)))]; exact ev6192
            have e6284 : I6276 (ad g 0) 64 = v6261 := by rw [eI6276, pp_ne _ _ (Or.inl (ly_ne hy (by decide) (by decide) (by decide)))]; exact ev6261
            have fr6285 : fs g [56] I I6276 := by rw [eI6276]; exact fs_ppn hy fqI6182 (by decide) (by decide)
            have fr6286 : fz 49 g [0, 35, 36, 37, 40, 41, 39] I I6276 := by rw [eI6276]; exact fzm_pp hy fiI6182 (by decide) (by decide)
            clear eI6276
            refine WP_iinc (ls' := [(0, _), (1, _), (2, _), (3, _), (5, _)]) dX11_dayOf_79 rfl (by decide) rfl ?_
            have hv6287 : (i6181 + Int32.ofInt (1)).toInt = i6181.toInt + (1) := ia_n rfl (by omega) (by omega)
            generalize i6181 + Int32.ofInt (1) = v6287 at hv6287 ⊢
            refine WP_goto 22 dX11_dayOf_82 rfl ?_
            exact WP_sub (fc rfl (fc rfl (fc rfl (fc rfl (fc rfl fn))))) (ihlp22_6188 v6287 I6276 J6183 hI6276 fr6286 fjJ6183 fr6285 w6184 e6277 w6185 e6278 w6186 e6279 w6187 e6280 w6188 e6281 (by omega) (by omega) (by omega) (by omega) (by omega) (by omega) (by omega) (by omega))
          refine WQ_if_ne 60 dX11_dayOf_41 rfl (fun c6287 => ?_) (fun c6287 => ?_)
          · refine WP_ldcw (1000000) dX11_dayOf_60 kX11_460 ?_
            obtain ⟨v6289, hv6289, ev6289⟩ : ∃ v : Int32, v.toInt = 1000000 ∧ ((1000000) : Int32) = v := ⟨(1000000), rfl, rfl⟩
            rw [ev6289]; clear ev6289
            refine WP_goto 78 dX11_dayOf_63 rfl ?_
            exact WP_sub (fc rfl (fc rfl (fc rfl (fc rfl (fc rfl fn))))) (jn78_6274 v6289 (by omega) (by omega))
          · refine WP_aload_n dX11_dayOf_44 rfl ?_
            refine WP_getr dX11_dayOf_45 fX11_259 rfl (ly_is hy 0 11 rfl) (rf hr 0 41 23 (by decide)) ?_
            refine WQ_bipush (7) (7) dX11_dayOf_48 rfl rfl (fun v6290 hv6290 => ?_)
            refine WP_iload dX11_dayOf_50 rfl ?_
            refine WQ_imulK (7) dX11_dayOf_52 hv6290 (by omega) (by omega) (fun v6291 hv6291 => ?_)
            refine WP_iload_n dX11_dayOf_53 rfl ?_
            refine WQ_iadd dX11_dayOf_54 (by omega) (by omega) (fun v6292 hv6292 => ?_)
            refine WQ_ialdb dX11_dayOf_55 (ly_is hy 23 13 rfl) (ly_n hy 23 21 rfl) (by omega) (by omega) (fun q hq => BT_get hI6182.1.1 23 0 21 (-1) (0) (999) (by decide) q (Nat.zero_le _) hq) (fun v6293 av6293 bv6293 zv6293 => ?_)
            refine WQ_iconst (-1) (-1) dX11_dayOf_56 rfl rfl (fun v6294 hv6294 => ?_)
            refine WQ_icmp_ne 66 dX11_dayOf_57 rfl (fun c6294 => ?_) (fun c6294 => ?_)
            · refine WP_aload_n dX11_dayOf_66 rfl ?_
              refine WP_getr dX11_dayOf_67 fX11_259 rfl (ly_is hy 0 11 rfl) (rf hr 0 41 23 (by decide)) ?_
              refine WQ_bipush (7) (7) dX11_dayOf_70 rfl rfl (fun v6296 hv6296 => ?_)
              refine WP_iload dX11_dayOf_72 rfl ?_
              refine WQ_imulK (7) dX11_dayOf_74 hv6296 (by omega) (by omega) (fun v6297 hv6297 => ?_)
              refine WP_iload_n dX11_dayOf_75 rfl ?_
              refine WQ_iadd dX11_dayOf_76 (by omega) (by omega) (fun v6298 hv6298 => ?_)
              refine WQ_ialdb dX11_dayOf_77 (ly_is hy 23 13 rfl) (ly_n hy 23 21 rfl) (by omega) (by omega) (fun q hq => BT_get hI6182.1.1 23 0 21 (-1) (0) (999) (by decide) q (Nat.zero_le _) hq) (fun v6299 av6299 bv6299 zv6299 => ?_)
              have tv6299 : v6299.toInt = v6293.toInt := by rw [← zv6299, ← zv6293, show v6298.toInt.toNat = v6292.toInt.toNat by omega]
              exact WP_sub (fc rfl (fc rfl (fc rfl (fc rfl (fc rfl fn))))) (jn78_6274 v6299 (by omega) (by omega))
            · refine WP_ldcw (1000000) dX11_dayOf_60 kX11_460 ?_
              obtain ⟨v6300, hv6300, ev6300⟩ : ∃ v : Int32, v.toInt = 1000000 ∧ ((1000000) : Int32) = v := ⟨(1000000), rfl, rfl⟩
              rw [ev6300]; clear ev6300
              refine WP_goto 78 dX11_dayOf_63 rfl ?_
              exact WP_sub (fc rfl (fc rfl (fc rfl (fc rfl (fc rfl fn))))) (jn78_6274 v6300 (by omega) (by omega))
    exact WP_sub (fc rfl (fc rfl (fc rfl (fc rfl (fc rfl fn))))) (lp22_6188 _ v6180 I J hI fr0 frj0 frq0 w6172 ew6172 w6173 ew6173 w6169 ew6169 w6170 ew6170 w6171 ew6171 (by omega) (by omega) (by omega) (by omega) (by omega) (by omega) (by omega) (Nat.lt_succ_self _))
  · refine WP_aload_n dX11_dayOf_14 rfl ?_
    refine WP_aload_n dX11_dayOf_15 rfl ?_
    refine WP_callV1 (k := 11) dX11_dayOf_16 ⟨⟨⟨by decide, by decide⟩, zX11_openChest⟩, lX11_467, by decide, rfl, vX11_openChest.1, vX11_openChest.2⟩ (ly_is hy 0 11 rfl) (sm_openChestx_39 hy hr hI   (by omega) (by rw [ew6172]; omega)) (Nat.le_of_ble_eq_true rfl) ?_
    intro r I6301 J6302 Ra hq
    obtain ⟨⟨hI6301, ec, fiI6301, fjI6301, fqI6301, ⟨pI6301, sI6301_39_33, sI6301_0_10, sI6301_0_14, sI6301_0_68⟩⟩, rfl⟩ := hq
    rw [ec]
    clear ec Ra
    have fr6303 : fz 49 g [0, 35, 36, 37, 40, 41, 39] I I6301 := fz_tr fr0 (fz_mono fiI6301 (by decide))
    have fr6304 : fs g [56] I I6301 := fs_tr frq0 (fs_mono fqI6301 (by decide))
    have fr6305 : fz 49 g [] J J6302 := fz_tr frj0 (fz_mono fjI6301 (by decide))
    have e6306 : I6301 (ad g 39) 33 = w6173 := by rw [sI6301_39_33]; exact ew6173
    have e6307 : I6301 (ad g 0) 10 = w6169 := by rw [sI6301_0_10]; exact ew6169
    have e6308 : I6301 (ad g 0) 14 = w6170 := by rw [sI6301_0_14]; exact ew6170
    have e6309 : I6301 (ad g 0) 68 = w6171 := by rw [sI6301_0_68]; exact ew6171
    have e6310 : I6301 (ad g 0) 1 = L := hI6301.1.2
    have b6311 := BT_get hI6301.1.1 0 1 2 (0) (0) (900) (by decide) 1 (by decide) (by decide)
    rw [e6310] at b6311
    obtain ⟨w6312, ew6312⟩ : ∃ w : Int32, I6301 (ad g 39) 32 = w := ⟨_, rfl⟩
    have bw6312 := BT_get hI6301.1.1 39 32 33 (0) (23760) (700000) (by decide) 32 (by decide) (by decide)
    rw [ew6312] at bw6312
    rw [ew6312, ew6172] at pI6301
    refine WQ_iconst (0) (0) dX11_dayOf_19 rfl rfl (fun v6313 hv6313 => ?_)
    refine WP_istore (ls' := [(0, _), (1, _), (2, _), (3, _), (5, _)]) dX11_dayOf_20 (by decide) rfl ?_
    have lp22_6321 : ∀ (mz : Nat) (i6314 : Int32) (I6315 : pI) (J6316 : pJ), MP g n L I6315 → fz 49 g [0, 35, 36, 37, 40, 41, 39] I I6315 → fz 49 g [] J J6316 → fs g [56] I I6315 → ∀ (w6317 : Int32), I6315 (ad g 39) 32 = w6317 → ∀ (w6318 : Int32), I6315 (ad g 39) 33 = w6318 → ∀ (w6319 : Int32), I6315 (ad g 0) 10 = w6319 → ∀ (w6320 : Int32), I6315 (ad g 0) 14 = w6320 → ∀ (w6321 : Int32), I6315 (ad g 0) 68 = w6321 → 0 ≤ i6314.toInt → i6314.toInt ≤ 3 → w6318.toInt = w6173.toInt → w6319.toInt = w6169.toInt → w6320.toInt = w6170.toInt → w6321.toInt = w6171.toInt → w6317.toInt ≤ w6172.toInt → (4 - i6314.toInt).toNat < mz → WP g mX11_dayOf 22 [(0, .ref (ad g 0)), (1, .ref (ad g 39)), (2, .int v6177), (3, .long l6178), (5, .int i6314)] [] I6315 J6316 R (fun r I' J' R' => (MP g n L I' ∧ R' = R ∧ fz 49 g [0, 35, 36, 37, 40, 41, 39] I I' ∧ fz 49 g [] J J' ∧ fs g [56] I I' ∧ ((I' (ad g 39) 32).toInt ≤ (I (ad g 39) 32).toInt + 23760 ∧ (I' (ad g 39) 33).toInt = (I (ad g 39) 33).toInt + 1) ∧ I' (ad g 0) 10 = I (ad g 0) 10 ∧ I' (ad g 0) 14 = I (ad g 0) 14 ∧ I' (ad g 0) 68 = I (ad g 0) 68) ∧ ∃ v : Int64, r = some (.long v)) := by
      intro mz
      induction mz with
      | zero =>
        intro i6314 I6315 J6316 hI6315 fiI6315 fjJ6316 fqI6315 w6317 ew6317 w6318 ew6318 w6319 ew6319 w6320 ew6320 w6321 ew6321 ai6314 bi6314 j0_I6315 j1_I6315 j2_I6315 j3_I6315 j4_I6315 hmlp22_6321
        exact absurd hmlp22_6321 (Nat.not_lt_zero _)
      | succ mz ihlp22_6321 =>
        intro i6314 I6315 J6316 hI6315 fiI6315 fjJ6316 fqI6315 w6317 ew6317 w6318 ew6318 w6319 ew6319 w6320 ew6320 w6321 ew6321 ai6314 bi6314 j0_I6315 j1_I6315 j2_I6315 j3_I6315 j4_I6315 hmlp22_6321
        have bw6317 := BT_get hI6315.1.1 39 32 33 (0) (23760) (700000) (by decide) 32 (by decide) (by decide)
        rw [ew6317] at bw6317
        have bw6318 := BT_get hI6315.1.1 39 33 34 (0) (1) (30) (by decide) 33 (by decide) (by decide)
        rw [ew6318] at bw6318
        have bw6319 := BT_get hI6315.1.1 0 10 11 (0) (0) (4) (by decide) 10 (by decide) (by decide)
        rw [ew6319] at bw6319
        have bw6320 := BT_get hI6315.1.1 0 14 15 (-1) (0) (2) (by decide) 14 (by decide) (by decide)
        rw [ew6320] at bw6320
        have e6323 : I6315 (ad g 0) 1 = L := hI6315.1.2
        have b6324 := BT_get hI6315.1.1 0 1 2 (0) (0) (900) (by decide) 1 (by decide) (by decide)
        rw [e6323] at b6324
        refine WP_iload dX11_dayOf_22 rfl ?_
        refine WP_aload_n dX11_dayOf_24 rfl ?_
        refine WQ_geti dX11_dayOf_25 fX11_332 rfl (ly_is hy 0 11 rfl) (BT_get hI6315.1.1 0 11 12 (0) (0) (3) (by decide) 11 (by decide) (by decide)) (fun v6325 ev6325 av6325 bv6325 => ?_)
        refine WQ_icmp_ge 85 dX11_dayOf_28 rfl (fun c6325 => ?_) (fun c6325 => ?_)
        · refine WQ_iconst (0) (0) dX11_dayOf_85 rfl rfl (fun v6327 hv6327 => ?_)
          refine WP_istore (ls' := [(0, _), (1, _), (2, _), (3, _), (5, _)]) dX11_dayOf_86 (by decide) rfl ?_
          have lp88_6336 : ∀ (mz : Nat) (l6328 : Int64) (i6329 : Int32) (I6330 : pI) (J6331 : pJ), MP g n L I6330 → fz 49 g [0, 35, 36, 37, 40, 41, 39] I I6330 → fz 49 g [] J J6331 → fs g [56] I I6330 → ∀ (w6332 : Int32), I6330 (ad g 39) 32 = w6332 → ∀ (w6333 : Int32), I6330 (ad g 39) 33 = w6333 → ∀ (w6334 : Int32), I6330 (ad g 0) 10 = w6334 → ∀ (w6335 : Int32), I6330 (ad g 0) 14 = w6335 → ∀ (w6336 : Int32), I6330 (ad g 0) 68 = w6336 → 0 ≤ i6329.toInt → i6329.toInt ≤ 4 → w6333.toInt = w6173.toInt → w6334.toInt = w6169.toInt → w6335.toInt = w6170.toInt → w6336.toInt = w6171.toInt → w6332.toInt ≤ w6172.toInt → (5 - i6329.toInt).toNat < mz → WP g mX11_dayOf 88 [(0, .ref (ad g 0)), (1, .ref (ad g 39)), (2, .int v6177), (3, .long l6328), (5, .int i6329)] [] I6330 J6331 R (fun r I' J' R' => (MP g n L I' ∧ R' = R ∧ fz 49 g [0, 35, 36, 37, 40, 41, 39] I I' ∧ fz 49 g [] J J' ∧ fs g [56] I I' ∧ ((I' (ad g 39) 32).toInt ≤ (I (ad g 39) 32).toInt + 23760 ∧ (I' (ad g 39) 33).toInt = (I (ad g 39) 33).toInt + 1) ∧ I' (ad g 0) 10 = I (ad g 0) 10 ∧ I' (ad g 0) 14 = I (ad g 0) 14 ∧ I' (ad g 0) 68 = I (ad g 0) 68) ∧ ∃ v : Int64, r = some (.long v)) := by
            intro mz
            induction mz with
            | zero =>
              intro l6328 i6329 I6330 J6331 hI6330 fiI6330 fjJ6331 fqI6330 w6332 ew6332 w6333 ew6333 w6334 ew6334 w6335 ew6335 w6336 ew6336 ai6329 bi6329 j0_I6330 j1_I6330 j2_I6330 j3_I6330 j4_I6330 hmlp88_6336
              exact absurd hmlp88_6336 (Nat.not_lt_zero _)
            | succ mz ihlp88_6336 =>
              intro l6328 i6329 I6330 J6331 hI6330 fiI6330 fjJ6331 fqI6330 w6332 ew6332 w6333 ew6333 w6334 ew6334 w6335 ew6335 w6336 ew6336 ai6329 bi6329 j0_I6330 j1_I6330 j2_I6330 j3_I6330 j4_I6330 hmlp88_6336
              have bw6332 := BT_get hI6330.1.1 39 32 33 (0) (23760) (700000) (by decide) 32 (by decide) (by decide)
              rw [ew6332] at bw6332
              have bw6333 := BT_get hI6330.1.1 39 33 34 (0) (1) (30) (by decide) 33 (by decide) (by decide)
              rw [ew6333] at bw6333
              have bw6334 := BT_get hI6330.1.1 0 10 11 (0) (0) (4) (by decide) 10 (by decide) (by decide)
              rw [ew6334] at bw6334
              have bw6335 := BT_get hI6330.1.1 0 14 15 (-1) (0) (2) (by decide) 14 (by decide) (by decide)
              rw [ew6335] at bw6335
              have e6338 : I6330 (ad g 0) 1 = L := hI6330.1.2
              have b6339 := BT_get hI6330.1.1 0 1 2 (0) (0) (900) (by decide) 1 (by decide) (by decide)
              rw [e6338] at b6339
              refine WP_iload dX11_dayOf_88 rfl ?_
              refine WP_aload_n dX11_dayOf_90 rfl ?_
              refine WQ_getim dX11_dayOf_91 fX11_329 rfl (ly_is hy 0 11 rfl) ew6334 ?_
              refine WQ_icmp_ge 114 dX11_dayOf_94 rfl (fun c6339 => ?_) (fun c6339 => ?_)
              · refine WQ_iconst (0) (0) dX11_dayOf_114 rfl rfl (fun v6341 hv6341 => ?_)
                refine WP_istore (ls' := [(0, _), (1, _), (2, _), (3, _), (5, _)]) dX11_dayOf_115 (by decide) rfl ?_
                have lp117_6349 : ∀ (mz : Nat) (i6342 : Int32) (I6343 : pI) (J6344 : pJ), MP g n L I6343 → fz 49 g [0, 35, 36, 37, 40, 41, 39] I I6343 → fz 49 g [] J J6344 → fs g [56] I I6343 → ∀ (w6345 : Int32), I6343 (ad g 39) 32 = w6345 → ∀ (w6346 : Int32), I6343 (ad g 39) 33 = w6346 → ∀ (w6347 : Int32), I6343 (ad g 0) 10 = w6347 → ∀ (w6348 : Int32), I6343 (ad g 0) 14 = w6348 → ∀ (w6349 : Int32), I6343 (ad g 0) 68 = w6349 → 0 ≤ i6342.toInt → i6342.toInt ≤ 4 → w6346.toInt = w6173.toInt → w6347.toInt = w6169.toInt → w6348.toInt = w6170.toInt → w6349.toInt = w6171.toInt → w6345.toInt ≤ w6172.toInt + 5940 * i6342.toInt → (5 - i6342.toInt).toNat < mz → WP g mX11_dayOf 117 [(0, .ref (ad g 0)), (1, .ref (ad g 39)), (2, .int v6177), (3, .long l6328), (5, .int i6342)] [] I6343 J6344 R (fun r I' J' R' => (MP g n L I' ∧ R' = R ∧ fz 49 g [0, 35, 36, 37, 40, 41, 39] I I' ∧ fz 49 g [] J J' ∧ fs g [56] I I' ∧ ((I' (ad g 39) 32).toInt ≤ (I (ad g 39) 32).toInt + 23760 ∧ (I' (ad g 39) 33).toInt = (I (ad g 39) 33).toInt + 1) ∧ I' (ad g 0) 10 = I (ad g 0) 10 ∧ I' (ad g 0) 14 = I (ad g 0) 14 ∧ I' (ad g 0) 68 = I (ad g 0) 68) ∧ ∃ v : Int64, r = some (.long v)) := by
                  intro mz
                  induction mz with
                  | zero =>
                    intro i6342 I6343 J6344 hI6343 fiI6343 fjJ6344 fqI6343 w6345 ew6345 w6346 ew6346 w6347 ew6347 w6348 ew6348 w6349 ew6349 ai6342 bi6342 j0_I6343 j1_I6343 j2_I6343 j3_I6343 j4_I6343 hmlp117_6349
                    exact absurd hmlp117_6349 (Nat.not_lt_zero _)
                  | succ mz ihlp117_6349 =>
                    intro i6342 I6343 J6344 hI6343 fiI6343 fjJ6344 fqI6343 w6345 ew6345 w6346 ew6346 w6347 ew6347 w6348 ew6348 w6349 ew6349 ai6342 bi6342 j0_I6343 j1_I6343 j2_I6343 j3_I6343 j4_I6343 hmlp117_6349
                    have bw6345 := BT_get hI6343.1.1 39 32 33 (0) (23760) (700000) (by decide) 32 (by decide) (by decide)
                    rw [ew6345] at bw6345
                    have bw6346 := BT_get hI6343.1.1 39 33 34 (0) (1) (30) (by decide) 33 (by decide) (by decide)
                    rw [ew6346] at bw6346
                    have bw6347 := BT_get hI6343.1.1 0 10 11 (0) (0) (4) (by decide) 10 (by decide) (by decide)
                    rw [ew6347] at bw6347
                    have bw6348 := BT_get hI6343.1.1 0 14 15 (-1) (0) (2) (by decide) 14 (by decide) (by decide)
                    rw [ew6348] at bw6348
                    have e6351 : I6343 (ad g 0) 1 = L := hI6343.1.2
                    have b6352 := BT_get hI6343.1.1 0 1 2 (0) (0) (900) (by decide) 1 (by decide) (by decide)
                    rw [e6351] at b6352
                    refine WP_iload dX11_dayOf_117 rfl ?_
                    refine WP_aload_n dX11_dayOf_119 rfl ?_
                    refine WQ_getim dX11_dayOf_120 fX11_329 rfl (ly_is hy 0 11 rfl) ew6347 ?_
                    refine WQ_icmp_ge 140 dX11_dayOf_123 rfl (fun c6352 => ?_) (fun c6352 => ?_)
                    · refine WP_aload_n dX11_dayOf_140 rfl ?_
                      refine WQ_bipush (33) (33) dX11_dayOf_141 rfl rfl (fun v6354 hv6354 => ?_)
                      refine WP_dup2 dX11_dayOf_143 rfl rfl ?_
                      refine WQ_ialdm (z := 33) dX11_dayOf_144 (ly_is hy 39 13 rfl) (ly_n hy 39 35 rfl) hv6354 (by decide) ew6346 ?_
                      refine WQ_iconst (1) (1) dX11_dayOf_145 rfl rfl (fun v6356 hv6356 => ?_)
                      refine WQ_iadd dX11_dayOf_146 (by omega) (by omega) (fun v6357 hv6357 => ?_)
                      refine WQ_iast dX11_dayOf_147 (ly_is hy 39 13 rfl) (ly_n hy 39 35 rfl) (by omega) (by omega) (fun I6358 fI6358 => ?_)
                      have eI6358 := fI6358
                      rw [cl (x := v6354) (n := 33) (by omega)] at eI6358
                      clear fI6358
                      have hI6358 : MP g n L I6358 := by rw [eI6358]; exact (mp_w hy hI6343 (c := 39) (mi_f hy hI6343.1 (c := 39) (0) (1) (30) (by decide) (Or.inl (by decide)) (by decide) (by omega) (by omega)) (by decide) (by decide) (Or.inl (by decide)))
                      have e6359 : I6358 (ad g 39) 32 = w6345 := by rw [eI6358, pp_ne _ _ (Or.inr (by decide))]; exact ew6345
                      have e6360 : I6358 (ad g 0) 10 = w6347 := by rw [eI6358, pp_ne _ _ (Or.inl (ly_ne hy (by decide) (by decide) (by decide)))]; exact ew6347
                      have e6361 : I6358 (ad g 0) 14 = w6348 := by rw [eI6358, pp_ne _ _ (Or.inl (ly_ne hy (by decide) (by decide) (by decide)))]; exact ew6348
                      have e6362 : I6358 (ad g 0) 68 = w6349 := by rw [eI6358, pp_ne _ _ (Or.inl (ly_ne hy (by decide) (by decide) (by decide)))]; exact ew6349
                      have e6363 : I6358 (ad g 0) 1 = L := by rw [eI6358, pp_ne _ _ (Or.inl (ly_ne hy (by decide) (by decide) (by decide)))]; exact e6351
                      have e6364 : I6358 (ad g 39) 33 = v6357 := by rw [eI6358, pp_self]
                      have fr6365 : fs g [56] I I6358 := by rw [eI6358]; exact fs_ppn hy fqI6343 (by decide) (by decide)
                      have fr6366 : fz 49 g [0, 35, 36, 37, 40, 41, 39] I I6358 := by rw [eI6358]; exact fzm_pp hy fiI6343 (by decide) (by decide)
                      clear eI6358
                      refine WP_lload_n dX11_dayOf_148 rfl ?_
                      exact WP_lret dX11_dayOf_149 rfl ⟨⟨hI6358, rfl, fr6366, fjJ6344, fr6365, ⟨(by rw [e6359, ew6172, e6364, ew6173]; omega), (by rw [e6360, ew6169] <;> exact (eq32 _ _).mpr (by omega)), (by rw [e6361, ew6170] <;> exact (eq32 _ _).mpr (by omega)), (by rw [e6362, ew6171] <;> exact (eq32 _ _).mpr (by omega))⟩⟩, _, rfl⟩
                    · refine WP_aload_n dX11_dayOf_126 rfl ?_
                      refine WP_aload_n dX11_dayOf_127 rfl ?_
                      refine WP_iload dX11_dayOf_128 rfl ?_
                      refine WP_iload_n dX11_dayOf_130 rfl ?_
                      refine WP_callV3 (k := 11) dX11_dayOf_131 ⟨⟨⟨by decide, by decide⟩, zX11_nightOf⟩, lX11_478, by decide, rfl, vX11_nightOf.1, vX11_nightOf.2⟩ (ly_is hy 0 11 rfl) (sm_nightOfx_39 hy hr hI6343 i6342 v6177 (by omega) (by omega) (by omega) (by omega) (by omega) (by rw [ew6345]; omega)) (Nat.le_of_ble_eq_true rfl) ?_
                      intro r I6367 J6368 Ra hq
                      obtain ⟨⟨hI6367, ec, fiI6367, fjI6367, fqI6367, ⟨pI6367, sI6367_39_33, sI6367_0_10, sI6367_0_14, sI6367_0_68⟩⟩, rfl⟩ := hq
                      rw [ec]
                      clear ec Ra
                      have fr6369 : fz 49 g [0, 35, 36, 37, 40, 41, 39] I I6367 := fz_tr fiI6343 (fz_mono fiI6367 (by decide))
                      have fr6370 : fs g [56] I I6367 := fs_tr fqI6343 (fs_mono fqI6367 (by decide))
                      have fr6371 : fz 49 g [] J J6368 := fz_tr fjJ6344 (fz_mono fjI6367 (by decide))
                      have e6372 : I6367 (ad g 39) 33 = w6346 := by rw [sI6367_39_33]; exact ew6346
                      have e6373 : I6367 (ad g 0) 10 = w6347 := by rw [sI6367_0_10]; exact ew6347
                      have e6374 : I6367 (ad g 0) 14 = w6348 := by rw [sI6367_0_14]; exact ew6348
                      have e6375 : I6367 (ad g 0) 68 = w6349 := by rw [sI6367_0_68]; exact ew6349
                      have e6376 : I6367 (ad g 0) 1 = L := hI6367.1.2
                      have b6377 := BT_get hI6367.1.1 0 1 2 (0) (0) (900) (by decide) 1 (by decide) (by decide)
                      rw [e6376] at b6377
                      obtain ⟨w6378, ew6378⟩ : ∃ w : Int32, I6367 (ad g 39) 32 = w := ⟨_, rfl⟩
                      have bw6378 := BT_get hI6367.1.1 39 32 33 (0) (23760) (700000) (by decide) 32 (by decide) (by decide)
                      rw [ew6378] at bw6378
                      rw [ew6378, ew6345] at pI6367
                      refine WP_iinc (ls' := [(0, _), (1, _), (2, _), (3, _), (5, _)]) dX11_dayOf_134 rfl (by decide) rfl ?_
                      have hv6379 : (i6342 + Int32.ofInt (1)).toInt = i6342.toInt + (1) := ia_n rfl (by omega) (by omega)
                      generalize i6342 + Int32.ofInt (1) = v6379 at hv6379 ⊢
                      refine WP_goto 117 dX11_dayOf_137 rfl ?_
                      exact WP_sub (fc rfl (fc rfl (fc rfl (fc rfl (fc rfl fn))))) (ihlp117_6349 v6379 I6367 J6368 hI6367 fr6369 fr6371 fr6370 w6378 ew6378 w6346 e6372 w6347 e6373 w6348 e6374 w6349 e6375 (by omega) (by omega) (by omega) (by omega) (by omega) (by omega) (by omega) (by omega))
                exact WP_sub (fc rfl (fc rfl (fc rfl (fc rfl (fc rfl fn))))) (lp117_6349 _ v6341 I6330 J6331 hI6330 fiI6330 fjJ6331 fqI6330 w6332 ew6332 w6333 ew6333 w6334 ew6334 w6335 ew6335 w6336 ew6336 (by omega) (by omega) (by omega) (by omega) (by omega) (by omega) (by omega) (Nat.lt_succ_self _))
              · refine WP_lload_n dX11_dayOf_97 rfl ?_
                refine WP_aload_n dX11_dayOf_98 rfl ?_
                refine WP_aload_n dX11_dayOf_99 rfl ?_
                refine WP_iload dX11_dayOf_100 rfl ?_
                refine WP_iload_n dX11_dayOf_102 rfl ?_
                refine WP_callV3 (k := 11) dX11_dayOf_103 ⟨⟨⟨by decide, by decide⟩, zX11_sortDay⟩, lX11_474, by decide, rfl, vX11_sortDay.1, vX11_sortDay.2⟩ (ly_is hy 0 11 rfl) (sm_sortDay_39 hy hr hI6330 i6329 v6177 (by omega) (by omega) (by omega) (by omega) (by rw [ew6334]; omega)) (Nat.le_of_ble_eq_true rfl) ?_
                intro r I6380 J6381 Ra hq
                obtain ⟨⟨hI6380, ec, fiI6380, ejI6380, fqI6380, ⟨pI6380, sI6380_39_32, sI6380_39_33, sI6380_0_10, sI6380_0_14, sI6380_0_68⟩⟩, l6382, rfl⟩ := hq
                show WP _ _ _ _ (.long _ :: _) _ _ _ _
                rw [ec]
                clear ec Ra
                have fr6383 : fz 49 g [0, 35, 36, 37, 40, 41, 39] I I6380 := fz_tr fiI6330 (fz_mono fiI6380 (by decide))
                have fr6384 : fs g [56] I I6380 := fs_tr fqI6330 (fs_mono fqI6380 (by decide))
                rw [ejI6380]
                clear ejI6380 J6381
                have e6385 : I6380 (ad g 39) 32 = w6332 := by rw [sI6380_39_32]; exact ew6332
                have e6386 : I6380 (ad g 39) 33 = w6333 := by rw [sI6380_39_33]; exact ew6333
                have e6387 : I6380 (ad g 0) 10 = w6334 := by rw [sI6380_0_10]; exact ew6334
                have e6388 : I6380 (ad g 0) 14 = w6335 := by rw [sI6380_0_14]; exact ew6335
                have e6389 : I6380 (ad g 0) 68 = w6336 := by rw [sI6380_0_68]; exact ew6336
                have e6390 : I6380 (ad g 0) 1 = L := hI6380.1.2
                have b6391 := BT_get hI6380.1.1 0 1 2 (0) (0) (900) (by decide) 1 (by decide) (by decide)
                rw [e6390] at b6391
                refine WQ_ladd dX11_dayOf_106 (fun l6392 => ?_)
                refine WP_lstore_n (ls' := [(0, _), (1, _), (2, _), (3, _), (5, _)]) dX11_dayOf_107 (by decide) rfl ?_
                refine WP_iinc (ls' := [(0, _), (1, _), (2, _), (3, _), (5, _)]) dX11_dayOf_108 rfl (by decide) rfl ?_
                have hv6393 : (i6329 + Int32.ofInt (1)).toInt = i6329.toInt + (1) := ia_n rfl (by omega) (by omega)
                generalize i6329 + Int32.ofInt (1) = v6393 at hv6393 ⊢
                refine WP_goto 88 dX11_dayOf_111 rfl ?_
                exact WP_sub (fc rfl (fc rfl (fc rfl (fc rfl (fc rfl fn))))) (ihlp88_6336 l6392 v6393 I6380 J6331 hI6380 fr6383 fjJ6331 fr6384 w6332 e6385 w6333 e6386 w6334 e6387 w6335 e6388 w6336 e6389 (by omega) (by omega) (by omega) (by omega) (by omega) (by omega) (by omega) (by omega))
          exact WP_sub (fc rfl (fc rfl (fc rfl (fc rfl (fc rfl fn))))) (lp88_6336 _ l6178 v6327 I6315 J6316 hI6315 fiI6315 fjJ6316 fqI6315 w6317 ew6317 w6318 ew6318 w6319 ew6319 w6320 ew6320 w6321 ew6321 (by omega) (by omega) (by omega) (by omega) (by omega) (by omega) (by omega) (Nat.lt_succ_self _))
        · refine WP_aload_n dX11_dayOf_31 rfl ?_
          refine WP_getr dX11_dayOf_32 fX11_289 rfl (ly_is hy 0 11 rfl) (rf hr 0 62 40 (by decide)) ?_
          refine WP_iload dX11_dayOf_35 rfl ?_
          refine WP_aload_n dX11_dayOf_37 rfl ?_
          refine WQ_geti dX11_dayOf_38 fX11_470 rfl (ly_is hy 0 11 rfl) (BT_get hI6315.1.1 0 64 65 (0) (0) (1) (by decide) 64 (by decide) (by decide)) (fun v6394 ev6394 av6394 bv6394 => ?_)
          have jn78_6407 : ∀ (v6407 : Int32), 0 ≤ v6407.toInt → v6407.toInt ≤ 1000000 → WP g mX11_dayOf 78 [(0, .ref (ad g 0)), (1, .ref (ad g 39)), (2, .int v6177), (3, .long l6178), (5, .int i6314)] [.int v6407, .int i6314, .ref (ad g 40)] I6315 J6316 R (fun r I' J' R' => (MP g n L I' ∧ R' = R ∧ fz 49 g [0, 35, 36, 37, 40, 41, 39] I I' ∧ fz 49 g [] J J' ∧ fs g [56] I I' ∧ ((I' (ad g 39) 32).toInt ≤ (I (ad g 39) 32).toInt + 23760 ∧ (I' (ad g 39) 33).toInt = (I (ad g 39) 33).toInt + 1) ∧ I' (ad g 0) 10 = I (ad g 0) 10 ∧ I' (ad g 0) 14 = I (ad g 0) 14 ∧ I' (ad g 0) 68 = I (ad g 0) 68) ∧ ∃ v : Int64, r = some (.long v)) := by
            intro v6407 av6407 bv6407
            refine WQ_iast dX11_dayOf_78 (ly_is hy 40 13 rfl) (ly_n hy 40 3 rfl) (by omega) (by omega) (fun I6409 eI6409 => ?_)
            have hI6409 : MP g n L I6409 := by rw [eI6409]; exact (mp_w hy hI6315 (c := 40) (mi_r hy hI6315.1 (c := 40) (0) (0) (1000000) (by decide) (Or.inl (by decide)) (by decide) (by omega) (by omega)) (by decide) (by decide) (Or.inl (by decide)))
            have e6410 : I6409 (ad g 39) 32 = w6317 := by rw [eI6409, pp_ne _ _ (Or.inl (ly_ne hy (by decide) (by decide) (by decide)))]; exact ew6317
            have e6411 : I6409 (ad g 39) 33 = w6318 := by rw [eI6409, pp_ne _ _ (Or.inl (ly_ne hy (by decide) (by decide) (by decide)))]; exact ew6318
            have e6412 : I6409 (ad g 0) 10 = w6319 := by rw [eI6409, pp_ne _ _ (Or.inl (ly_ne hy (by decide) (by decide) (by decide)))]; exact ew6319
            have e6413 : I6409 (ad g 0) 14 = w6320 := by rw [eI6409, pp_ne _ _ (Or.inl (ly_ne hy (by decide) (by decide) (by decide)))]; exact ew6320
            have e6414 : I6409 (ad g 0) 68 = w6321 := by rw [eI6409, pp_ne _ _ (Or.inl (ly_ne hy (by decide) (by decide) (by decide)))]; exact ew6321
            have e6415 : I6409 (ad g 0) 1 = L := by rw [eI6409, pp_ne _ _ (Or.inl (ly_ne hy (by decide) (by decide) (by decide)))]; exact e6323
            have e6416 : I6409 (ad g 0) 11 = v6325 := by rw [eI6409, pp_ne _ _ (Or.inl (ly_ne hy (by decide) (by decide) (by decide)))]; exact ev6325
            have e6417 : I6409 (ad g 0) 64 = v6394 := by rw [eI6409, pp_ne _ _ (Or.inl (ly_ne hy (by decide) (by decide) (by decide)))]; exact ev6394
            have fr6418 : fs g [56] I I6409 := by rw [eI6409]; exact fs_ppn hy fqI6315 (by decide) (by decide)
            have fr6419 : fz 49 g [0, 35, 36, 37, 40, 41, 39] I I6409 := by rw [eI6409]; exact fzm_pp hy fiI6315 (by decide) (by decide)
            clear eI6409
            refine WP_iinc (ls' := [(0, _), (1, _), (2, _), (3, _), (5, _)]) dX11_dayOf_79 rfl (by decide) rfl ?_
            have hv6420 : (i6314 + Int32.ofInt (1)).toInt = i6314.toInt + (1) := ia_n rfl (by omega) (by omega)
            generalize i6314 + Int32.ofInt (1) = v6420 at hv6420 ⊢
            refine WP_goto 22 dX11_dayOf_82 rfl ?_
            exact WP_sub (fc rfl (fc rfl (fc rfl (fc rfl (fc rfl fn))))) (ihlp22_6321 v6420 I6409 J6316 hI6409 fr6419 fjJ6316 fr6418 w6317 e6410 w6318 e6411 w6319 e6412 w6320 e6413 w6321 e6414 (by omega) (by omega) (by omega) (by omega) (by omega) (by omega) (by omega) (by omega))
          refine WQ_if_ne 60 dX11_dayOf_41 rfl (fun c6420 => ?_) (fun c6420 => ?_)
          · refine WP_ldcw (1000000) dX11_dayOf_60 kX11_460 ?_
            obtain ⟨v6422, hv6422, ev6422⟩ : ∃ v : Int32, v.toInt = 1000000 ∧ ((1000000) : Int32) = v := ⟨(1000000), rfl, rfl⟩
            rw [ev6422]; clear ev6422
            refine WP_goto 78 dX11_dayOf_63 rfl ?_
            exact WP_sub (fc rfl (fc rfl (fc rfl (fc rfl (fc rfl fn))))) (jn78_6407 v6422 (by omega) (by omega))
          · refine WP_aload_n dX11_dayOf_44 rfl ?_
            refine WP_getr dX11_dayOf_45 fX11_259 rfl (ly_is hy 0 11 rfl) (rf hr 0 41 23 (by decide)) ?_
            refine WQ_bipush (7) (7) dX11_dayOf_48 rfl rfl (fun v6423 hv6423 => ?_)
            refine WP_iload dX11_dayOf_50 rfl ?_
            refine WQ_imulK (7) dX11_dayOf_52 hv6423 (by omega) (by omega) (fun v6424 hv6424 => ?_)
            refine WP_iload_n dX11_dayOf_53 rfl ?_
            refine WQ_iadd dX11_dayOf_54 (by omega) (by omega) (fun v6425 hv6425 => ?_)
            refine WQ_ialdb dX11_dayOf_55 (ly_is hy 23 13 rfl) (ly_n hy 23 21 rfl) (by omega) (by omega) (fun q hq => BT_get hI6315.1.1 23 0 21 (-1) (0) (999) (by decide) q (Nat.zero_le _) hq) (fun v6426 av6426 bv6426 zv6426 => ?_)
            refine WQ_iconst (-1) (-1) dX11_dayOf_56 rfl rfl (fun v6427 hv6427 => ?_)
            refine WQ_icmp_ne 66 dX11_dayOf_57 rfl (fun c6427 => ?_) (fun c6427 => ?_)
            · refine WP_aload_n dX11_dayOf_66 rfl ?_
              refine WP_getr dX11_dayOf_67 fX11_259 rfl (ly_is hy 0 11 rfl) (rf hr 0 41 23 (by decide)) ?_
              refine WQ_bipush (7) (7) dX11_dayOf_70 rfl rfl (fun v6429 hv6429 => ?_)
              refine WP_iload dX11_dayOf_72 rfl ?_
              refine WQ_imulK (7) dX11_dayOf_74 hv6429 (by omega) (by omega) (fun v6430 hv6430 => ?_)
              refine WP_iload_n dX11_dayOf_75 rfl ?_
              refine WQ_iadd dX11_dayOf_76 (by omega) (by omega) (fun v6431 hv6431 => ?_)
              refine WQ_ialdb dX11_dayOf_77 (ly_is hy 23 13 rfl) (ly_n hy 23 21 rfl) (by omega) (by omega) (fun q hq => BT_get hI6315.1.1 23 0 21 (-1) (0) (999) (by decide) q (Nat.zero_le _) hq) (fun v6432 av6432 bv6432 zv6432 => ?_)
              have tv6432 : v6432.toInt = v6426.toInt := by rw [← zv6432, ← zv6426, show v6431.toInt.toNat = v6425.toInt.toNat by omega]
              exact WP_sub (fc rfl (fc rfl (fc rfl (fc rfl (fc rfl fn))))) (jn78_6407 v6432 (by omega) (by omega))
            · refine WP_ldcw (1000000) dX11_dayOf_60 kX11_460 ?_
              obtain ⟨v6433, hv6433, ev6433⟩ : ∃ v : Int32, v.toInt = 1000000 ∧ ((1000000) : Int32) = v := ⟨(1000000), rfl, rfl⟩
              rw [ev6433]; clear ev6433
              refine WP_goto 78 dX11_dayOf_63 rfl ?_
              exact WP_sub (fc rfl (fc rfl (fc rfl (fc rfl (fc rfl fn))))) (jn78_6407 v6433 (by omega) (by omega))
    exact WP_sub (fc rfl (fc rfl (fc rfl (fc rfl (fc rfl fn))))) (lp22_6321 _ v6313 I6301 J6302 hI6301 fr6303 fr6305 fr6304 w6312 ew6312 w6173 e6306 w6169 e6307 w6170 e6308 w6171 e6309 (by omega) (by omega) (by omega) (by omega) (by omega) (by omega) (by omega) (Nat.lt_succ_self _))
