set_option maxHeartbeats 4000000 in
set_option maxRecDepth 100000 in
theorem sm_nightOfx_38 {g : GG} {n : Int} {L : Int32} (hy : Ly g)  {I : pI} {J : pJ} {R : pR} (hr : Rf g R) (hI : MP g n L I) (k : Int32) (da : Int32) (k_lo : 0 ≤ k.toInt) (k_hi : k.toInt ≤ 3) (da_lo : 0 ≤ da.toInt) (da_hi : da.toInt ≤ 6) (hn : 0 ≤ n ∧ n ≤ 40000) (hb : (I (ad g 38) 32).toInt ≤ 23760 * n + 0 - 5940) : SP g mX11_nightOf [.ref (ad g 0), .ref (ad g 38), .int k, .int da] I J R (fun r I' J' R' => (MP g n L I' ∧ R' = R ∧ fz 49 g [38] I I' ∧ fz 49 g [] J J' ∧ fs g [] I I' ∧ ((I' (ad g 38) 32).toInt ≤ (I (ad g 38) 32).toInt + 5940) ∧ I' (ad g 38) 33 = I (ad g 38) 33 ∧ I' (ad g 0) 10 = I (ad g 0) 10 ∧ I' (ad g 0) 14 = I (ad g 0) 14 ∧ I' (ad g 0) 68 = I (ad g 0) 68) ∧ r = none) := by
  refine SP_of ⟨by decide, rfl⟩ (Nat.le_of_ble_eq_true rfl) ?_
  have e5440 : I (ad g 0) 1 = L := hI.1.2
  have b5441 := BT_get hI.1.1 0 1 2 (0) (0) (900) (by decide) 1 (by decide) (by decide)
  rw [e5440] at b5441
  have fr0 : fz 49 g [38] I I := fz_rf
  have frj0 : fz 49 g [] J J := fz_rf
  have frq0 : fs g [] I I := fs_rf
  obtain ⟨w5442, ew5442⟩ : ∃ w : Int32, I (ad g 38) 33 = w := ⟨_, rfl⟩
  have bw5442 := BT_get hI.1.1 38 33 34 (0) (1) (0) (by decide) 33 (by decide) (by decide)
  rw [ew5442] at bw5442
  obtain ⟨w5443, ew5443⟩ : ∃ w : Int32, I (ad g 0) 10 = w := ⟨_, rfl⟩
  have bw5443 := BT_get hI.1.1 0 10 11 (0) (0) (4) (by decide) 10 (by decide) (by decide)
  rw [ew5443] at bw5443
  obtain ⟨w5444, ew5444⟩ : ∃ w : Int32, I (ad g 0) 14 = w := ⟨_, rfl⟩
  have bw5444 := BT_get hI.1.1 0 14 15 (-1) (0) (2) (by decide) 14 (by decide) (by decide)
  rw [ew5444] at bw5444
  obtain ⟨w5445, ew5445⟩ : ∃ w : Int32, I (ad g 0) 68 = w := ⟨_, rfl⟩
  obtain ⟨w5446, ew5446⟩ : ∃ w : Int32, I (ad g 38) 32 = w := ⟨_, rfl⟩
  have bw5446 := BT_get hI.1.1 38 32 33 (0) (23760) (0) (by decide) 32 (by decide) (by decide)
  rw [ew5446] at bw5446
  rw [ew5446] at hb
  refine WP_aload_n dX11_nightOf_0 rfl ?_
  refine WQ_iconst (0) (0) dX11_nightOf_1 rfl rfl (fun v5447 hv5447 => ?_)
  refine WP_iload_n dX11_nightOf_2 rfl ?_
  refine WQ_iadd dX11_nightOf_3 (by omega) (by omega) (fun v5448 hv5448 => ?_)
  refine WQ_ialdr dX11_nightOf_4 (ly_is hy 38 13 rfl) (ly_n hy 38 35 rfl) (by omega) (by omega) (a := 0) (b := 4) (by omega) (by omega) (fun q hq1 hq2 => BT_get hI.1.1 38 0 4 (0) (0) (60) (by decide) q hq1 hq2) (fun v5449 av5449 bv5449 => ?_)
  refine WP_aload_n dX11_nightOf_5 rfl ?_
  refine WP_iload_n dX11_nightOf_6 rfl ?_
  refine WP_callV1 (k := 11) dX11_nightOf_7 ⟨⟨⟨by decide, by decide⟩, zX11_loses⟩, lX11_414, by decide, rfl, vX11_loses.1, vX11_loses.2⟩ (ly_is hy 0 11 rfl) (sm_loses2 hy hr hI da (by omega) (by omega)) (Nat.le_of_ble_eq_true rfl) ?_
  intro r Ia Ja Ra hq
  obtain ⟨⟨ea, eb, ec⟩, v5450, rfl, av5450, bv5450⟩ := hq
  show WP _ _ _ _ (.int _ :: _) _ _ _ _
  rw [ea, eb, ec]
  clear ea eb ec Ia Ja Ra
  refine WP_callS2 dX11_nightOf_10 ⟨⟨⟨by decide, by decide⟩, zX11_stampsOf⟩, lX11_380, tX11_stampsOf⟩ (sm_stampsOf hy hr hI v5449 v5450 (by omega) (by omega) (by omega) (by omega)) (Nat.le_of_ble_eq_true rfl) ?_
  intro r Ia Ja Ra hq
  obtain ⟨⟨ea, eb, ec⟩, v5451, rfl, av5451, bv5451, cv5451⟩ := hq
  show WP _ _ _ _ (.int _ :: _) _ _ _ _
  rw [ea, eb, ec]
  clear ea eb ec Ia Ja Ra
  refine WP_istore (ls' := [(0, _), (1, _), (2, _), (3, _), (4, _)]) dX11_nightOf_13 (by decide) rfl ?_
  refine WP_aload_n dX11_nightOf_15 rfl ?_
  refine WQ_iconst (0) (0) dX11_nightOf_16 rfl rfl (fun v5452 hv5452 => ?_)
  refine WP_iload_n dX11_nightOf_17 rfl ?_
  refine WQ_iadd dX11_nightOf_18 (by omega) (by omega) (fun v5453 hv5453 => ?_)
  refine WP_aload_n dX11_nightOf_19 rfl ?_
  refine WP_aload_n dX11_nightOf_20 rfl ?_
  refine WQ_iconst (0) (0) dX11_nightOf_21 rfl rfl (fun v5454 hv5454 => ?_)
  refine WP_iload_n dX11_nightOf_22 rfl ?_
  refine WQ_iadd dX11_nightOf_23 (by omega) (by omega) (fun v5455 hv5455 => ?_)
  refine WQ_ialdr dX11_nightOf_24 (ly_is hy 38 13 rfl) (ly_n hy 38 35 rfl) (by omega) (by omega) (a := 0) (b := 4) (by omega) (by omega) (fun q hq1 hq2 => BT_get hI.1.1 38 0 4 (0) (0) (60) (by decide) q hq1 hq2) (fun v5456 av5456 bv5456 => ?_)
  refine WP_aload_n dX11_nightOf_25 rfl ?_
  refine WQ_iconst (4) (4) dX11_nightOf_26 rfl rfl (fun v5457 hv5457 => ?_)
  refine WP_iload_n dX11_nightOf_27 rfl ?_
  refine WQ_iadd dX11_nightOf_28 (by omega) (by omega) (fun v5458 hv5458 => ?_)
  refine WQ_ialdr dX11_nightOf_29 (ly_is hy 38 13 rfl) (ly_n hy 38 35 rfl) (by omega) (by omega) (a := 4) (b := 8) (by omega) (by omega) (fun q hq1 hq2 => BT_get hI.1.1 38 4 8 (0) (0) (5) (by decide) q hq1 hq2) (fun v5459 av5459 bv5459 => ?_)
  refine WP_aload_n dX11_nightOf_30 rfl ?_
  refine WP_iload_n dX11_nightOf_31 rfl ?_
  refine WP_callV1 (k := 11) dX11_nightOf_32 ⟨⟨⟨by decide, by decide⟩, zX11_loses⟩, lX11_414, by decide, rfl, vX11_loses.1, vX11_loses.2⟩ (ly_is hy 0 11 rfl) (sm_loses2 hy hr hI da (by omega) (by omega)) (Nat.le_of_ble_eq_true rfl) ?_
  intro r Ia Ja Ra hq
  obtain ⟨⟨ea, eb, ec⟩, v5460, rfl, av5460, bv5460⟩ := hq
  show WP _ _ _ _ (.int _ :: _) _ _ _ _
  rw [ea, eb, ec]
  clear ea eb ec Ia Ja Ra
  refine WP_callV3 (k := 11) dX11_nightOf_35 ⟨⟨⟨by decide, by decide⟩, zX11_behindNight⟩, lX11_398, by decide, rfl, vX11_behindNight.1, vX11_behindNight.2⟩ (ly_is hy 0 11 rfl) (sm_behindNight hy hr hI v5456 v5459 v5460 (by omega) (by omega) (by omega) (by omega) (by omega) (by omega)) (Nat.le_of_ble_eq_true rfl) ?_
  intro r Ia Ja Ra hq
  obtain ⟨⟨ea, eb, ec⟩, v5461, rfl, av5461, bv5461⟩ := hq
  show WP _ _ _ _ (.int _ :: _) _ _ _ _
  rw [ea, eb, ec]
  clear ea eb ec Ia Ja Ra
  refine WQ_iast dX11_nightOf_38 (ly_is hy 38 13 rfl) (ly_n hy 38 35 rfl) (by omega) (by omega) (fun I5462 eI5462 => ?_)
  have hI5462 : MP g n L I5462 := by rw [eI5462]; exact (mp_w hy hI (c := 38) (mi_rr hy hI.1 (c := 38) (0) (3) (0) (0) (60) (by decide) (Or.inl (by decide)) (by rw [cl (n := v5453.toInt.toNat) (by omega)]; omega) (by decide) (fun _ => ⟨by omega, by omega⟩)) (by decide) (by decide) (Or.inl (by decide)))
  have e5463 : I5462 (ad g 0) 1 = L := by rw [eI5462, pp_ne _ _ (Or.inl (ly_ne hy (by decide) (by decide) (by decide)))]; exact e5440
  have e5464 : I5462 (ad g 38) 33 = w5442 := by rw [eI5462, pp_ne _ _ (Or.inr (by rw [cl (x := v5453) (n := v5453.toInt.toNat) (by omega)]; omega))]; exact ew5442
  have e5465 : I5462 (ad g 0) 10 = w5443 := by rw [eI5462, pp_ne _ _ (Or.inl (ly_ne hy (by decide) (by decide) (by decide)))]; exact ew5443
  have e5466 : I5462 (ad g 0) 14 = w5444 := by rw [eI5462, pp_ne _ _ (Or.inl (ly_ne hy (by decide) (by decide) (by decide)))]; exact ew5444
  have e5467 : I5462 (ad g 0) 68 = w5445 := by rw [eI5462, pp_ne _ _ (Or.inl (ly_ne hy (by decide) (by decide) (by decide)))]; exact ew5445
  have e5468 : I5462 (ad g 38) 32 = w5446 := by rw [eI5462, pp_ne _ _ (Or.inr (by rw [cl (x := v5453) (n := v5453.toInt.toNat) (by omega)]; omega))]; exact ew5446
  have fr5469 : fs g [] I I5462 := by rw [eI5462]; exact fs_ppn hy frq0 (by decide) (by decide)
  have fr5470 : fz 49 g [38] I I5462 := by rw [eI5462]; exact fzm_pp hy fr0 (by decide) (by decide)
  clear eI5462
  refine WP_aload_n dX11_nightOf_39 rfl ?_
  refine WQ_bipush (12) (12) dX11_nightOf_40 rfl rfl (fun v5471 hv5471 => ?_)
  refine WP_iload_n dX11_nightOf_42 rfl ?_
  refine WQ_iadd dX11_nightOf_43 (by omega) (by omega) (fun v5472 hv5472 => ?_)
  refine WP_dup2 dX11_nightOf_44 rfl rfl ?_
  refine WQ_ialdu dX11_nightOf_45 (ly_is hy 38 13 rfl) (ly_n hy 38 35 rfl) (by omega) (by omega) (fun v5473 => ?_)
  refine WP_iload dX11_nightOf_46 rfl ?_
  refine WP_aload_n dX11_nightOf_48 rfl ?_
  refine WP_getr dX11_nightOf_49 fX11_235 rfl (ly_is hy 0 11 rfl) (rf hr 0 26 8 (by decide)) ?_
  refine WP_iload_n dX11_nightOf_52 rfl ?_
  refine WQ_iald dX11_nightOf_53 (ly_is hy 8 13 rfl) (ly_n hy 8 4 rfl) (by omega) (by omega) (fun q hq => BT_get hI5462.1.1 8 0 4 (0) (0) (99) (by decide) q (Nat.zero_le _) hq) (fun v5474 av5474 bv5474 ev5474 => ?_)
  clear ev5474
  refine WQ_imulb (999) (99) dX11_nightOf_54 ⟨by omega, by omega⟩ ⟨by omega, by omega⟩ (by decide) (fun v5475 pv5475 av5475 bv5475 cv5475 => ?_)
  refine WQ_iaddu dX11_nightOf_55 (fun v5476 => ?_)
  refine WQ_iast dX11_nightOf_56 (ly_is hy 38 13 rfl) (ly_n hy 38 35 rfl) (by omega) (by omega) (fun I5477 eI5477 => ?_)
  have hI5477 : MP g n L I5477 := by rw [eI5477]; exact (mp_w hy hI5462 (c := 38) (mi_rr hy hI5462.1 (c := 38) (12) (15) (0) (0) (0) (by decide) (Or.inl (by decide)) (by rw [cl (n := v5472.toInt.toNat) (by omega)]; omega) (by decide) (fun h => absurd h (by decide))) (by decide) (by decide) (Or.inl (by decide)))
  have e5478 : I5477 (ad g 0) 1 = L := by rw [eI5477, pp_ne _ _ (Or.inl (ly_ne hy (by decide) (by decide) (by decide)))]; exact e5463
  have e5479 : I5477 (ad g 38) 33 = w5442 := by rw [eI5477, pp_ne _ _ (Or.inr (by rw [cl (x := v5472) (n := v5472.toInt.toNat) (by omega)]; omega))]; exact e5464
  have e5480 : I5477 (ad g 0) 10 = w5443 := by rw [eI5477, pp_ne _ _ (Or.inl (ly_ne hy (by decide) (by decide) (by decide)))]; exact e5465
  have e5481 : I5477 (ad g 0) 14 = w5444 := by rw [eI5477, pp_ne _ _ (Or.inl (ly_ne hy (by decide) (by decide) (by decide)))]; exact e5466
  have e5482 : I5477 (ad g 0) 68 = w5445 := by rw [eI5477, pp_ne _ _ (Or.inl (ly_ne hy (by decide) (by decide) (by decide)))]; exact e5467
  have e5483 : I5477 (ad g 38) 32 = w5446 := by rw [eI5477, pp_ne _ _ (Or.inr (by rw [cl (x := v5472) (n := v5472.toInt.toNat) (by omega)]; omega))]; exact e5468
  have fr5484 : fs g [] I I5477 := by rw [eI5477]; exact fs_ppn hy fr5469 (by decide) (by decide)
  have fr5485 : fz 49 g [38] I I5477 := by rw [eI5477]; exact fzm_pp hy fr5470 (by decide) (by decide)
  clear eI5477
  refine WP_aload_n dX11_nightOf_57 rfl ?_
  refine WQ_bipush (32) (32) dX11_nightOf_58 rfl rfl (fun v5486 hv5486 => ?_)
  refine WP_dup2 dX11_nightOf_60 rfl rfl ?_
  refine WQ_ialdm (z := 32) dX11_nightOf_61 (ly_is hy 38 13 rfl) (ly_n hy 38 35 rfl) hv5486 (by decide) e5483 ?_
  refine WP_iload dX11_nightOf_62 rfl ?_
  refine WP_aload_n dX11_nightOf_64 rfl ?_
  refine WP_getr dX11_nightOf_65 fX11_235 rfl (ly_is hy 0 11 rfl) (rf hr 0 26 8 (by decide)) ?_
  refine WP_iload_n dX11_nightOf_68 rfl ?_
  refine WQ_iald dX11_nightOf_69 (ly_is hy 8 13 rfl) (ly_n hy 8 4 rfl) (by omega) (by omega) (fun q hq => BT_get hI5477.1.1 8 0 4 (0) (0) (99) (by decide) q (Nat.zero_le _) hq) (fun v5488 av5488 bv5488 ev5488 => ?_)
  clear ev5488
  refine WQ_imulb (999) (99) dX11_nightOf_70 ⟨by omega, by omega⟩ ⟨by omega, by omega⟩ (by decide) (fun v5489 pv5489 av5489 bv5489 cv5489 => ?_)
  refine WQ_iadd dX11_nightOf_71 (by omega) (by omega) (fun v5490 hv5490 => ?_)
  refine WQ_iast dX11_nightOf_72 (ly_is hy 38 13 rfl) (ly_n hy 38 35 rfl) (by omega) (by omega) (fun I5491 fI5491 => ?_)
  have eI5491 := fI5491
  rw [cl (x := v5486) (n := 32) (by omega)] at eI5491
  clear fI5491
  have hI5491 : MP g n L I5491 := by rw [eI5491]; exact (mp_w hy hI5477 (c := 38) (mi_f hy hI5477.1 (c := 38) (0) (23760) (0) (by decide) (Or.inl (by decide)) (by decide) (by omega) (by omega)) (by decide) (by decide) (Or.inl (by decide)))
  have e5492 : I5491 (ad g 0) 1 = L := by rw [eI5491, pp_ne _ _ (Or.inl (ly_ne hy (by decide) (by decide) (by decide)))]; exact e5478
  have e5493 : I5491 (ad g 38) 33 = w5442 := by rw [eI5491, pp_ne _ _ (Or.inr (by decide))]; exact e5479
  have e5494 : I5491 (ad g 0) 10 = w5443 := by rw [eI5491, pp_ne _ _ (Or.inl (ly_ne hy (by decide) (by decide) (by decide)))]; exact e5480
  have e5495 : I5491 (ad g 0) 14 = w5444 := by rw [eI5491, pp_ne _ _ (Or.inl (ly_ne hy (by decide) (by decide) (by decide)))]; exact e5481
  have e5496 : I5491 (ad g 0) 68 = w5445 := by rw [eI5491, pp_ne _ _ (Or.inl (ly_ne hy (by decide) (by decide) (by decide)))]; exact e5482
  have e5497 : I5491 (ad g 38) 32 = v5490 := by rw [eI5491, pp_self]
  have fr5498 : fs g [] I I5491 := by rw [eI5491]; exact fs_ppn hy fr5484 (by decide) (by decide)
  have fr5499 : fz 49 g [38] I I5491 := by rw [eI5491]; exact fzm_pp hy fr5485 (by decide) (by decide)
  clear eI5491
  refine WP_aload_n dX11_nightOf_73 rfl ?_
  refine WP_aload_n dX11_nightOf_74 rfl ?_
  refine WQ_iconst (4) (4) dX11_nightOf_75 rfl rfl (fun v5500 hv5500 => ?_)
  refine WP_iload_n dX11_nightOf_76 rfl ?_
  refine WQ_iadd dX11_nightOf_77 (by omega) (by omega) (fun v5501 hv5501 => ?_)
  refine WQ_ialdr dX11_nightOf_78 (ly_is hy 38 13 rfl) (ly_n hy 38 35 rfl) (by omega) (by omega) (a := 4) (b := 8) (by omega) (by omega) (fun q hq1 hq2 => BT_get hI5491.1.1 38 4 8 (0) (0) (5) (by decide) q hq1 hq2) (fun v5502 av5502 bv5502 => ?_)
  refine WP_callV1 (k := 11) dX11_nightOf_79 ⟨⟨⟨by decide, by decide⟩, zX11_leftOf⟩, lX11_420, by decide, rfl, vX11_leftOf.1, vX11_leftOf.2⟩ (ly_is hy 0 11 rfl) (sm_leftOf hy hr hI5491 v5502 (by omega) (by omega)) (Nat.le_of_ble_eq_true rfl) ?_
  intro r Ia Ja Ra hq
  obtain ⟨⟨ea, eb, ec⟩, v5503, rfl, av5503, bv5503⟩ := hq
  show WP _ _ _ _ (.int _ :: _) _ _ _ _
  rw [ea, eb, ec]
  clear ea eb ec Ia Ja Ra
  refine WP_istore (ls' := [(0, _), (1, _), (2, _), (3, _), (4, _), (5, _)]) dX11_nightOf_82 (by decide) rfl ?_
  refine WP_aload_n dX11_nightOf_84 rfl ?_
  refine WQ_bipush (20) (20) dX11_nightOf_85 rfl rfl (fun v5504 hv5504 => ?_)
  refine WP_iload_n dX11_nightOf_87 rfl ?_
  refine WQ_iadd dX11_nightOf_88 (by omega) (by omega) (fun v5505 hv5505 => ?_)
  refine WP_dup2 dX11_nightOf_89 rfl rfl ?_
  refine WQ_ialdu dX11_nightOf_90 (ly_is hy 38 13 rfl) (ly_n hy 38 35 rfl) (by omega) (by omega) (fun v5506 => ?_)
  refine WP_aload_n dX11_nightOf_91 rfl ?_
  refine WQ_iconst (4) (4) dX11_nightOf_92 rfl rfl (fun v5507 hv5507 => ?_)
  refine WP_iload_n dX11_nightOf_93 rfl ?_
  refine WQ_iadd dX11_nightOf_94 (by omega) (by omega) (fun v5508 hv5508 => ?_)
  refine WQ_ialdr dX11_nightOf_95 (ly_is hy 38 13 rfl) (ly_n hy 38 35 rfl) (by omega) (by omega) (a := 4) (b := 8) (by omega) (by omega) (fun q hq1 hq2 => BT_get hI5491.1.1 38 4 8 (0) (0) (5) (by decide) q hq1 hq2) (fun v5509 av5509 bv5509 => ?_)
  refine WP_iload dX11_nightOf_96 rfl ?_
  refine WQ_isub dX11_nightOf_98 (by omega) (by omega) (fun v5510 hv5510 => ?_)
  refine WP_aload_n dX11_nightOf_99 rfl ?_
  refine WP_getr dX11_nightOf_100 fX11_235 rfl (ly_is hy 0 11 rfl) (rf hr 0 26 8 (by decide)) ?_
  refine WP_iload_n dX11_nightOf_103 rfl ?_
  refine WQ_iald dX11_nightOf_104 (ly_is hy 8 13 rfl) (ly_n hy 8 4 rfl) (by omega) (by omega) (fun q hq => BT_get hI5491.1.1 8 0 4 (0) (0) (99) (by decide) q (Nat.zero_le _) hq) (fun v5511 av5511 bv5511 ev5511 => ?_)
  clear ev5511
  refine WQ_imulu dX11_nightOf_105 (fun v5512 => ?_)
  refine WQ_iaddu dX11_nightOf_106 (fun v5513 => ?_)
  refine WQ_iast dX11_nightOf_107 (ly_is hy 38 13 rfl) (ly_n hy 38 35 rfl) (by omega) (by omega) (fun I5514 eI5514 => ?_)
  have hI5514 : MP g n L I5514 := by rw [eI5514]; exact (mp_w hy hI5491 (c := 38) (mi_rr hy hI5491.1 (c := 38) (20) (23) (0) (0) (0) (by decide) (Or.inl (by decide)) (by rw [cl (n := v5505.toInt.toNat) (by omega)]; omega) (by decide) (fun h => absurd h (by decide))) (by decide) (by decide) (Or.inl (by decide)))
  have e5515 : I5514 (ad g 0) 1 = L := by rw [eI5514, pp_ne _ _ (Or.inl (ly_ne hy (by decide) (by decide) (by decide)))]; exact e5492
  have e5516 : I5514 (ad g 38) 33 = w5442 := by rw [eI5514, pp_ne _ _ (Or.inr (by rw [cl (x := v5505) (n := v5505.toInt.toNat) (by omega)]; omega))]; exact e5493
  have e5517 : I5514 (ad g 0) 10 = w5443 := by rw [eI5514, pp_ne _ _ (Or.inl (ly_ne hy (by decide) (by decide) (by decide)))]; exact e5494
  have e5518 : I5514 (ad g 0) 14 = w5444 := by rw [eI5514, pp_ne _ _ (Or.inl (ly_ne hy (by decide) (by decide) (by decide)))]; exact e5495
  have e5519 : I5514 (ad g 0) 68 = w5445 := by rw [eI5514, pp_ne _ _ (Or.inl (ly_ne hy (by decide) (by decide) (by decide)))]; exact e5496
  have e5520 : I5514 (ad g 38) 32 = v5490 := by rw [eI5514, pp_ne _ _ (Or.inr (by rw [cl (x := v5505) (n := v5505.toInt.toNat) (by omega)]; omega))]; exact e5497
  have fr5521 : fs g [] I I5514 := by rw [eI5514]; exact fs_ppn hy fr5498 (by decide) (by decide)
  have fr5522 : fz 49 g [38] I I5514 := by rw [eI5514]; exact fzm_pp hy fr5499 (by decide) (by decide)
  clear eI5514
  refine WP_aload_n dX11_nightOf_108 rfl ?_
  refine WQ_iconst (4) (4) dX11_nightOf_109 rfl rfl (fun v5523 hv5523 => ?_)
  refine WP_iload_n dX11_nightOf_110 rfl ?_
  refine WQ_iadd dX11_nightOf_111 (by omega) (by omega) (fun v5524 hv5524 => ?_)
  refine WP_iload dX11_nightOf_112 rfl ?_
  refine WQ_iast dX11_nightOf_114 (ly_is hy 38 13 rfl) (ly_n hy 38 35 rfl) (by omega) (by omega) (fun I5525 eI5525 => ?_)
  have hI5525 : MP g n L I5525 := by rw [eI5525]; exact (mp_w hy hI5514 (c := 38) (mi_rr hy hI5514.1 (c := 38) (4) (7) (0) (0) (5) (by decide) (Or.inl (by decide)) (by rw [cl (n := v5524.toInt.toNat) (by omega)]; omega) (by decide) (fun _ => ⟨by omega, by omega⟩)) (by decide) (by decide) (Or.inl (by decide)))
  have e5526 : I5525 (ad g 0) 1 = L := by rw [eI5525, pp_ne _ _ (Or.inl (ly_ne hy (by decide) (by decide) (by decide)))]; exact e5515
  have e5527 : I5525 (ad g 38) 33 = w5442 := by rw [eI5525, pp_ne _ _ (Or.inr (by rw [cl (x := v5524) (n := v5524.toInt.toNat) (by omega)]; omega))]; exact e5516
  have e5528 : I5525 (ad g 0) 10 = w5443 := by rw [eI5525, pp_ne _ _ (Or.inl (ly_ne hy (by decide) (by decide) (by decide)))]; exact e5517
  have e5529 : I5525 (ad g 0) 14 = w5444 := by rw [eI5525, pp_ne _ _ (Or.inl (ly_ne hy (by decide) (by decide) (by decide)))]; exact e5518
  have e5530 : I5525 (ad g 0) 68 = w5445 := by rw [eI5525, pp_ne _ _ (Or.inl (ly_ne hy (by decide) (by decide) (by decide)))]; exact e5519
  have e5531 : I5525 (ad g 38) 32 = v5490 := by rw [eI5525, pp_ne _ _ (Or.inr (by rw [cl (x := v5524) (n := v5524.toInt.toNat) (by omega)]; omega))]; exact e5520
  have fr5532 : fs g [] I I5525 := by rw [eI5525]; exact fs_ppn hy fr5521 (by decide) (by decide)
  have fr5533 : fz 49 g [38] I I5525 := by rw [eI5525]; exact fzm_pp hy fr5522 (by decide) (by decide)
  clear eI5525
  exact WP_vret dX11_nightOf_115 rfl ⟨⟨hI5525, rfl, fr5533, frj0, fr5532, ⟨(by rw [e5531, ew5446]; omega), (by rw [e5527, ew5442] <;> exact (eq32 _ _).mpr (by omega)), (by rw [e5528, ew5443] <;> exact (eq32 _ _).mpr (by omega)), (by rw [e5529, ew5444] <;> exact (eq32 _ _).mpr (by omega)), (by rw [e5530, ew5445] <;> exact (eq32 _ _).mpr (by omega))⟩⟩, rfl⟩
set_option maxHeartbeats 4000000 in
set_option maxRecDepth 100000 in
theorem sm_openChestx_38 {g : GG} {n : Int} {L : Int32} (hy : Ly g)  {I : pI} {J : pJ} {R : pR} (hr : Rf g R) (hI : MP g n L I)   (hn : 0 ≤ n ∧ n ≤ 40000) (hb : 0 ≤ (I (ad g 38) 32).toInt) : SP g mX11_openChest [.ref (ad g 0), .ref (ad g 38)] I J R (fun r I' J' R' => (MP g n L I' ∧ R' = R ∧ fz 49 g [38] I I' ∧ fz 49 g [] J J' ∧ fs g [] I I' ∧ ((I' (ad g 38) 32).toInt ≤ (I (ad g 38) 32).toInt) ∧ I' (ad g 38) 33 = I (ad g 38) 33 ∧ I' (ad g 0) 10 = I (ad g 0) 10 ∧ I' (ad g 0) 14 = I (ad g 0) 14 ∧ I' (ad g 0) 68 = I (ad g 0) 68) ∧ r = none) := by
  refine SP_of ⟨by decide, rfl⟩ (Nat.le_of_ble_eq_true rfl) ?_
  have e5534 : I (ad g 0) 1 = L := hI.1.2
  have b5535 := BT_get hI.1.1 0 1 2 (0) (0) (900) (by decide) 1 (by decide) (by decide)
  rw [e5534] at b5535
  have fr0 : fz 49 g [38] I I := fz_rf
  have frj0 : fz 49 g [] J J := fz_rf
  have frq0 : fs g [] I I := fs_rf
  obtain ⟨w5536, ew5536⟩ : ∃ w : Int32, I (ad g 38) 33 = w := ⟨_, rfl⟩
  have bw5536 := BT_get hI.1.1 38 33 34 (0) (1) (0) (by decide) 33 (by decide) (by decide)
  rw [ew5536] at bw5536
  obtain ⟨w5537, ew5537⟩ : ∃ w : Int32, I (ad g 0) 10 = w := ⟨_, rfl⟩
  have bw5537 := BT_get hI.1.1 0 10 11 (0) (0) (4) (by decide) 10 (by decide) (by decide)
  rw [ew5537] at bw5537
  obtain ⟨w5538, ew5538⟩ : ∃ w : Int32, I (ad g 0) 14 = w := ⟨_, rfl⟩
  have bw5538 := BT_get hI.1.1 0 14 15 (-1) (0) (2) (by decide) 14 (by decide) (by decide)
  rw [ew5538] at bw5538
  obtain ⟨w5539, ew5539⟩ : ∃ w : Int32, I (ad g 0) 68 = w := ⟨_, rfl⟩
  obtain ⟨w5540, ew5540⟩ : ∃ w : Int32, I (ad g 38) 32 = w := ⟨_, rfl⟩
  have bw5540 := BT_get hI.1.1 38 32 33 (0) (23760) (0) (by decide) 32 (by decide) (by decide)
  rw [ew5540] at bw5540
  rw [ew5540] at hb
  refine WP_aload_n dX11_openChest_0 rfl ?_
  refine WQ_geti dX11_openChest_1 fX11_221 rfl (ly_is hy 0 11 rfl) (BT_get hI.1.1 0 13 14 (-1) (0) (3) (by decide) 13 (by decide) (by decide)) (fun v5541 ev5541 av5541 bv5541 => ?_)
  refine WQ_iconst (-1) (-1) dX11_openChest_4 rfl rfl (fun v5542 hv5542 => ?_)
  refine WQ_icmp_ne 9 dX11_openChest_5 rfl (fun c5542 => ?_) (fun c5542 => ?_)
  · have kc := pc_lt hI
    rw [ev5541, ew5537] at kc
    refine WP_aload_n dX11_openChest_9 rfl ?_
    refine WQ_bipush (32) (32) dX11_openChest_10 rfl rfl (fun v5544 hv5544 => ?_)
    refine WQ_ialdm (z := 32) dX11_openChest_12 (ly_is hy 38 13 rfl) (ly_n hy 38 35 rfl) hv5544 (by decide) ew5540 ?_
    refine WP_aload_n dX11_openChest_13 rfl ?_
    refine WP_getr dX11_openChest_14 fX11_235 rfl (ly_is hy 0 11 rfl) (rf hr 0 26 8 (by decide)) ?_
    refine WP_aload_n dX11_openChest_17 rfl ?_
    refine WQ_getim dX11_openChest_18 fX11_221 rfl (ly_is hy 0 11 rfl) ev5541 ?_
    refine WQ_ialdq (q := v5541.toInt.toNat) dX11_openChest_21 (ly_is hy 8 13 rfl) (ly_n hy 8 4 rfl) (by omega) (by omega) (by omega) (pp_get hI (by omega) (by rw [ew5537]; omega)) (fun v5546 av5546 bv5546 ev5546 => ?_)
    refine WQ_idivb dX11_openChest_22 (by omega) (by omega) (fun v5547 pv5547 av5547 bv5547 cv5547 => ?_)
    refine WP_istore_n (ls' := [(0, _), (1, _), (2, _)]) dX11_openChest_23 (by decide) rfl ?_
    refine WP_aload_n dX11_openChest_24 rfl ?_
    refine WQ_bipush (32) (32) dX11_openChest_25 rfl rfl (fun v5548 hv5548 => ?_)
    refine WP_dup2 dX11_openChest_27 rfl rfl ?_
    refine WQ_ialdm (z := 32) dX11_openChest_28 (ly_is hy 38 13 rfl) (ly_n hy 38 35 rfl) hv5548 (by decide) ew5540 ?_
    refine WP_iload_n dX11_openChest_29 rfl ?_
    refine WP_aload_n dX11_openChest_30 rfl ?_
    refine WP_getr dX11_openChest_31 fX11_235 rfl (ly_is hy 0 11 rfl) (rf hr 0 26 8 (by decide)) ?_
    refine WP_aload_n dX11_openChest_34 rfl ?_
    refine WQ_getim dX11_openChest_35 fX11_221 rfl (ly_is hy 0 11 rfl) ev5541 ?_
    refine WQ_ialde dX11_openChest_38 (ly_is hy 8 13 rfl) (ly_n hy 8 4 rfl) (by omega) (by omega) ev5546 ?_
    have knv5551 : 0 ≤ v5547.toInt * v5546.toInt := Int.mul_nonneg (by omega) (by omega)
    refine WQ_imulx dX11_openChest_39 (by omega) (by omega) (fun v5551 pv5551 => ?_)
    refine WQ_isub dX11_openChest_40 (by omega) (by omega) (fun v5552 hv5552 => ?_)
    refine WQ_iast dX11_openChest_41 (ly_is hy 38 13 rfl) (ly_n hy 38 35 rfl) (by omega) (by omega) (fun I5553 fI5553 => ?_)
    have eI5553 := fI5553
    rw [cl (x := v5548) (n := 32) (by omega)] at eI5553
    clear fI5553
    have hI5553 : MP g n L I5553 := by rw [eI5553]; exact (mp_w hy hI (c := 38) (mi_f hy hI.1 (c := 38) (0) (23760) (0) (by decide) (Or.inl (by decide)) (by decide) (by omega) (by omega)) (by decide) (by decide) (Or.inl (by decide)))
    have e5554 : I5553 (ad g 0) 1 = L := by rw [eI5553, pp_ne _ _ (Or.inl (ly_ne hy (by decide) (by decide) (by decide)))]; exact e5534
    have e5555 : I5553 (ad g 38) 33 = w5536 := by rw [eI5553, pp_ne _ _ (Or.inr (by decide))]; exact ew5536
    have e5556 : I5553 (ad g 0) 10 = w5537 := by rw [eI5553, pp_ne _ _ (Or.inl (ly_ne hy (by decide) (by decide) (by decide)))]; exact ew5537
    have e5557 : I5553 (ad g 0) 14 = w5538 := by rw [eI5553, pp_ne _ _ (Or.inl (ly_ne hy (by decide) (by decide) (by decide)))]; exact ew5538
    have e5558 : I5553 (ad g 0) 68 = w5539 := by rw [eI5553, pp_ne _ _ (Or.inl (ly_ne hy (by decide) (by decide) (by decide)))]; exact ew5539
    have e5559 : I5553 (ad g 0) 13 = v5541 := by rw [eI5553, pp_ne _ _ (Or.inl (ly_ne hy (by decide) (by decide) (by decide)))]; exact ev5541
    have e5560 : I5553 (ad g 8) v5541.toNatClampNeg = v5546 := by rw [eI5553, pp_ne _ _ (Or.inl (ly_ne hy (by decide) (by decide) (by decide)))]; exact ev5546
    have e5561 : I5553 (ad g 38) 32 = v5552 := by rw [eI5553, pp_self]
    have fr5562 : fs g [] I I5553 := by rw [eI5553]; exact fs_ppn hy frq0 (by decide) (by decide)
    have fr5563 : fz 49 g [38] I I5553 := by rw [eI5553]; exact fzm_pp hy fr0 (by decide) (by decide)
    clear eI5553
    refine WP_aload_n dX11_openChest_42 rfl ?_
    refine WQ_bipush (24) (24) dX11_openChest_43 rfl rfl (fun v5564 hv5564 => ?_)
    refine WP_aload_n dX11_openChest_45 rfl ?_
    refine WQ_getim dX11_openChest_46 fX11_221 rfl (ly_is hy 0 11 rfl) e5559 ?_
    refine WQ_iadd dX11_openChest_49 (by omega) (by omega) (fun v5565 hv5565 => ?_)
    refine WP_dup2 dX11_openChest_50 rfl rfl ?_
    refine WQ_ialdu dX11_openChest_51 (ly_is hy 38 13 rfl) (ly_n hy 38 35 rfl) (by omega) (by omega) (fun v5566 => ?_)
    refine WP_iload_n dX11_openChest_52 rfl ?_
    refine WP_aload_n dX11_openChest_53 rfl ?_
    refine WP_getr dX11_openChest_54 fX11_235 rfl (ly_is hy 0 11 rfl) (rf hr 0 26 8 (by decide)) ?_
    refine WP_aload_n dX11_openChest_57 rfl ?_
    refine WQ_getim dX11_openChest_58 fX11_221 rfl (ly_is hy 0 11 rfl) e5559 ?_
    refine WQ_ialde dX11_openChest_61 (ly_is hy 8 13 rfl) (ly_n hy 8 4 rfl) (by omega) (by omega) e5560 ?_
    have knv5568 : 0 ≤ v5547.toInt * v5546.toInt := Int.mul_nonneg (by omega) (by omega)
    refine WQ_imulx dX11_openChest_62 (by omega) (by omega) (fun v5568 pv5568 => ?_)
    refine WQ_iaddu dX11_openChest_63 (fun v5569 => ?_)
    refine WQ_iast dX11_openChest_64 (ly_is hy 38 13 rfl) (ly_n hy 38 35 rfl) (by omega) (by omega) (fun I5570 eI5570 => ?_)
    have hI5570 : MP g n L I5570 := by rw [eI5570]; exact (mp_w hy hI5553 (c := 38) (mi_rr hy hI5553.1 (c := 38) (24) (27) (0) (0) (0) (by decide) (Or.inl (by decide)) (by rw [cl (n := v5565.toInt.toNat) (by omega)]; omega) (by decide) (fun h => absurd h (by decide))) (by decide) (by decide) (Or.inl (by decide)))
    have e5571 : I5570 (ad g 0) 1 = L := by rw [eI5570, pp_ne _ _ (Or.inl (ly_ne hy (by decide) (by decide) (by decide)))]; exact e5554
    have e5572 : I5570 (ad g 38) 33 = w5536 := by rw [eI5570, pp_ne _ _ (Or.inr (by rw [cl (x := v5565) (n := v5565.toInt.toNat) (by omega)]; omega))]; exact e5555
    have e5573 : I5570 (ad g 0) 10 = w5537 := by rw [eI5570, pp_ne _ _ (Or.inl (ly_ne hy (by decide) (by decide) (by decide)))]; exact e5556
    have e5574 : I5570 (ad g 0) 14 = w5538 := by rw [eI5570, pp_ne _ _ (Or.inl (ly_ne hy (by decide) (by decide) (by decide)))]; exact e5557
    have e5575 : I5570 (ad g 0) 68 = w5539 := by rw [eI5570, pp_ne _ _ (Or.inl (ly_ne hy (by decide) (by decide) (by decide)))]; exact e5558
    have e5576 : I5570 (ad g 0) 13 = v5541 := by rw [eI5570, pp_ne _ _ (Or.inl (ly_ne hy (by decide) (by decide) (by decide)))]; exact e5559
    have e5577 : I5570 (ad g 8) v5541.toNatClampNeg = v5546 := by rw [eI5570, pp_ne _ _ (Or.inl (ly_ne hy (by decide) (by decide) (by decide)))]; exact e5560
    have e5578 : I5570 (ad g 38) 32 = v5552 := by rw [eI5570, pp_ne _ _ (Or.inr (by rw [cl (x := v5565) (n := v5565.toInt.toNat) (by omega)]; omega))]; exact e5561
    have fr5579 : fs g [] I I5570 := by rw [eI5570]; exact fs_ppn hy fr5562 (by decide) (by decide)
    have fr5580 : fz 49 g [38] I I5570 := by rw [eI5570]; exact fzm_pp hy fr5563 (by decide) (by decide)
    clear eI5570
    refine WP_aload_n dX11_openChest_65 rfl ?_
    refine WQ_iconst (0) (0) dX11_openChest_66 rfl rfl (fun v5581 hv5581 => ?_)
    refine WP_aload_n dX11_openChest_67 rfl ?_
    refine WQ_getim dX11_openChest_68 fX11_221 rfl (ly_is hy 0 11 rfl) e5576 ?_
    refine WQ_iadd dX11_openChest_71 (by omega) (by omega) (fun v5582 hv5582 => ?_)
    refine WQ_bipush (60) (60) dX11_openChest_72 rfl rfl (fun v5583 hv5583 => ?_)
    refine WP_aload_n dX11_openChest_74 rfl ?_
    refine WQ_iconst (0) (0) dX11_openChest_75 rfl rfl (fun v5584 hv5584 => ?_)
    refine WP_aload_n dX11_openChest_76 rfl ?_
    refine WQ_getim dX11_openChest_77 fX11_221 rfl (ly_is hy 0 11 rfl) e5576 ?_
    refine WQ_iadd dX11_openChest_80 (by omega) (by omega) (fun v5585 hv5585 => ?_)
    refine WQ_ialdr dX11_openChest_81 (ly_is hy 38 13 rfl) (ly_n hy 38 35 rfl) (by omega) (by omega) (a := 0) (b := 4) (by omega) (by omega) (fun q hq1 hq2 => BT_get hI5570.1.1 38 0 4 (0) (0) (60) (by decide) q hq1 hq2) (fun v5586 av5586 bv5586 => ?_)
    refine WP_iload_n dX11_openChest_82 rfl ?_
    refine WQ_iadd dX11_openChest_83 (by omega) (by omega) (fun v5587 hv5587 => ?_)
    refine WQ_min dX11_openChest_84 lX11_417 ⟨by decide, Nat.le_of_ble_eq_true rfl⟩ (fun v5588 av5588 bv5588 cv5588 => ?_)
    refine WQ_iast dX11_openChest_87 (ly_is hy 38 13 rfl) (ly_n hy 38 35 rfl) (by omega) (by omega) (fun I5589 eI5589 => ?_)
    have hI5589 : MP g n L I5589 := by rw [eI5589]; exact (mp_w hy hI5570 (c := 38) (mi_rr hy hI5570.1 (c := 38) (0) (3) (0) (0) (60) (by decide) (Or.inl (by decide)) (by rw [cl (n := v5582.toInt.toNat) (by omega)]; omega) (by decide) (fun _ => ⟨by omega, by omega⟩)) (by decide) (by decide) (Or.inl (by decide)))
    have e5590 : I5589 (ad g 0) 1 = L := by rw [eI5589, pp_ne _ _ (Or.inl (ly_ne hy (by decide) (by decide) (by decide)))]; exact e5571
    have e5591 : I5589 (ad g 38) 33 = w5536 := by rw [eI5589, pp_ne _ _ (Or.inr (by rw [cl (x := v5582) (n := v5582.toInt.toNat) (by omega)]; omega))]; exact e5572
    have e5592 : I5589 (ad g 0) 10 = w5537 := by rw [eI5589, pp_ne _ _ (Or.inl (ly_ne hy (by decide) (by decide) (by decide)))]; exact e5573
    have e5593 : I5589 (ad g 0) 14 = w5538 := by rw [eI5589, pp_ne _ _ (Or.inl (ly_ne hy (by decide) (by decide) (by decide)))]; exact e5574
    have e5594 : I5589 (ad g 0) 68 = w5539 := by rw [eI5589, pp_ne _ _ (Or.inl (ly_ne hy (by decide) (by decide) (by decide)))]; exact e5575
    have e5595 : I5589 (ad g 0) 13 = v5541 := by rw [eI5589, pp_ne _ _ (Or.inl (ly_ne hy (by decide) (by decide) (by decide)))]; exact e5576
    have e5596 : I5589 (ad g 8) v5541.toNatClampNeg = v5546 := by rw [eI5589, pp_ne _ _ (Or.inl (ly_ne hy (by decide) (by decide) (by decide)))]; exact e5577
    have e5597 : I5589 (ad g 38) 32 = v5552 := by rw [eI5589, pp_ne _ _ (Or.inr (by rw [cl (x := v5582) (n := v5582.toInt.toNat) (by omega)]; omega))]; exact e5578
    have fr5598 : fs g [] I I5589 := by rw [eI5589]; exact fs_ppn hy fr5579 (by decide) (by decide)
    have fr5599 : fz 49 g [38] I I5589 := by rw [eI5589]; exact fzm_pp hy fr5580 (by decide) (by decide)
    clear eI5589
    exact WP_vret dX11_openChest_88 rfl ⟨⟨hI5589, rfl, fr5599, frj0, fr5598, ⟨(by rw [e5597, ew5540]; omega), (by rw [e5591, ew5536] <;> exact (eq32 _ _).mpr (by omega)), (by rw [e5592, ew5537] <;> exact (eq32 _ _).mpr (by omega)), (by rw [e5593, ew5538] <;> exact (eq32 _ _).mpr (by omega)), (by rw [e5594, ew5539] <;> exact (eq32 _ _).mpr (by omega))⟩⟩, rfl⟩
  · exact WP_vret dX11_openChest_8 rfl ⟨⟨hI, rfl, fr0, frj0, frq0, ⟨(by omega), rfl, rfl, rfl, rfl⟩⟩, rfl⟩
set_option maxHeartbeats 4000000 in
set_option maxRecDepth 100000 in
theorem sm_dayOf_38 {g : GG} {n : Int} {L : Int32} (hy : Ly g)  {I : pI} {J : pJ} {R : pR} (hr : Rf g R) (hI : MP g n L I)   (hn : 0 ≤ n ∧ n ≤ 40000) (hb : (I (ad g 38) 32).toInt ≤ 23760 * n + 0 - 23760 ∧ (I (ad g 38) 33).toInt ≤ n + 0 - 1) : SP g mX11_dayOf [.ref (ad g 0), .ref (ad g 38)] I J R (fun r I' J' R' => (MP g n L I' ∧ R' = R ∧ fz 49 g [0, 35, 36, 37, 40, 41, 38] I I' ∧ fz 49 g [] J J' ∧ fs g [56] I I' ∧ ((I' (ad g 38) 32).toInt ≤ (I (ad g 38) 32).toInt + 23760 ∧ (I' (ad g 38) 33).toInt = (I (ad g 38) 33).toInt + 1) ∧ I' (ad g 0) 10 = I (ad g 0) 10 ∧ I' (ad g 0) 14 = I (ad g 0) 14 ∧ I' (ad g 0) 68 = I (ad g 0) 68) ∧ ∃ v : Int64, r = some (.long v)) := by
  refine SP_of ⟨by decide, rfl⟩ (Nat.le_of_ble_eq_true rfl) ?_
  have e5600 : I (ad g 0) 1 = L := hI.1.2
  have b5601 := BT_get hI.1.1 0 1 2 (0) (0) (900) (by decide) 1 (by decide) (by decide)
  rw [e5600] at b5601
  have fr0 : fz 49 g [0, 35, 36, 37, 40, 41, 38] I I := fz_rf
  have frj0 : fz 49 g [] J J := fz_rf
  have frq0 : fs g [56] I I := fs_rf
  obtain ⟨w5602, ew5602⟩ : ∃ w : Int32, I (ad g 0) 10 = w := ⟨_, rfl⟩
  have bw5602 := BT_get hI.1.1 0 10 11 (0) (0) (4) (by decide) 10 (by decide) (by decide)
  rw [ew5602] at bw5602
  obtain ⟨w5603, ew5603⟩ : ∃ w : Int32, I (ad g 0) 14 = w := ⟨_, rfl⟩
  have bw5603 := BT_get hI.1.1 0 14 15 (-1) (0) (2) (by decide) 14 (by decide) (by decide)
  rw [ew5603] at bw5603
  obtain ⟨w5604, ew5604⟩ : ∃ w : Int32, I (ad g 0) 68 = w := ⟨_, rfl⟩
  obtain ⟨w5605, ew5605⟩ : ∃ w : Int32, I (ad g 38) 32 = w := ⟨_, rfl⟩
  have bw5605 := BT_get hI.1.1 38 32 33 (0) (23760) (0) (by decide) 32 (by decide) (by decide)
  rw [ew5605] at bw5605
  obtain ⟨w5606, ew5606⟩ : ∃ w : Int32, I (ad g 38) 33 = w := ⟨_, rfl⟩
  have bw5606 := BT_get hI.1.1 38 33 34 (0) (1) (0) (by decide) 33 (by decide) (by decide)
  rw [ew5606] at bw5606
  rw [ew5605, ew5606] at hb
  refine WP_aload_n dX11_dayOf_0 rfl ?_
  refine WQ_bipush (33) (33) dX11_dayOf_1 rfl rfl (fun v5607 hv5607 => ?_)
  refine WQ_ialdm (z := 33) dX11_dayOf_3 (ly_is hy 38 13 rfl) (ly_n hy 38 35 rfl) hv5607 (by decide) ew5606 ?_
  refine WQ_bipush (7) (7) dX11_dayOf_4 rfl rfl (fun v5609 hv5609 => ?_)
  refine WQ_iremk (7) dX11_dayOf_6 hv5609 (by decide) (by omega) (fun v5610 hv5610 => ?_)
  refine WP_istore_n (ls' := [(0, _), (1, _), (2, _)]) dX11_dayOf_7 (by decide) rfl ?_
  refine WP_lconst (0) dX11_dayOf_8 rfl ?_
  obtain ⟨l5611, hl5611, el5611⟩ : ∃ v : Int64, v.toInt = 0 ∧ (0 : Int64) = v := ⟨_, rfl, rfl⟩
  rw [el5611]; clear el5611
  refine WP_lstore_n (ls' := [(0, _), (1, _), (2, _), (3, _)]) dX11_dayOf_9 (by decide) rfl ?_
  refine WP_iload_n dX11_dayOf_10 rfl ?_
  refine WQ_if_ne 19 dX11_dayOf_11 rfl (fun c5611 => ?_) (fun c5611 => ?_)
  · refine WQ_iconst (0) (0) dX11_dayOf_19 rfl rfl (fun v5613 hv5613 => ?_)
    refine WP_istore (ls' := [(0, _), (1, _), (2, _), (3, _), (5, _)]) dX11_dayOf_20 (by decide) rfl ?_
    have lp22_5621 : ∀ (mz : Nat) (i5614 : Int32) (I5615 : pI) (J5616 : pJ), MP g n L I5615 → fz 49 g [0, 35, 36, 37, 40, 41, 38] I I5615 → fz 49 g [] J J5616 → fs g [56] I I5615 → ∀ (w5617 : Int32), I5615 (ad g 38) 32 = w5617 → ∀ (w5618 : Int32), I5615 (ad g 38) 33 = w5618 → ∀ (w5619 : Int32), I5615 (ad g 0) 10 = w5619 → ∀ (w5620 : Int32), I5615 (ad g 0) 14 = w5620 → ∀ (w5621 : Int32), I5615 (ad g 0) 68 = w5621 → 0 ≤ i5614.toInt → i5614.toInt ≤ 3 → w5618.toInt = w5606.toInt → w5619.toInt = w5602.toInt → w5620.toInt = w5603.toInt → w5621.toInt = w5604.toInt → w5617.toInt ≤ w5605.toInt → (4 - i5614.toInt).toNat < mz → WP g mX11_dayOf 22 [(0, .ref (ad g 0)), (1, .ref (ad g 38)), (2, .int v5610), (3, .long l5611), (5, .int i5614)] [] I5615 J5616 R (fun r I' J' R' => (MP g n L I' ∧ R' = R ∧ fz 49 g [0, 35, 36, 37, 40, 41, 38] I I' ∧ fz 49 g [] J J' ∧ fs g [56] I I' ∧ ((I' (ad g 38) 32).toInt ≤ (I (ad g 38) 32).toInt + 23760 ∧ (I' (ad g 38) 33).toInt = (I (ad g 38) 33).toInt + 1) ∧ I' (ad g 0) 10 = I (ad g 0) 10 ∧ I' (ad g 0) 14 = I (ad g 0) 14 ∧ I' (ad g 0) 68 = I (ad g 0) 68) ∧ ∃ v : Int64, r = some (.long v)) := by
      intro mz
      induction mz with
      | zero =>
        intro i5614 I5615 J5616 hI5615 fiI5615 fjJ5616 fqI5615 w5617 ew5617 w5618 ew5618 w5619 ew5619 w5620 ew5620 w5621 ew5621 ai5614 bi5614 j0_I5615 j1_I5615 j2_I5615 j3_I5615 j4_I5615 hmlp22_5621
        exact absurd hmlp22_5621 (Nat.not_lt_zero _)
      | succ mz ihlp22_5621 =>
        intro i5614 I5615 J5616 hI5615 fiI5615 fjJ5616 fqI5615 w5617 ew5617 w5618 ew5618 w5619 ew5619 w5620 ew5620 w5621 ew5621 ai5614 bi5614 j0_I5615 j1_I5615 j2_I5615 j3_I5615 j4_I5615 hmlp22_5621
        have bw5617 := BT_get hI5615.1.1 38 32 33 (0) (23760) (0) (by decide) 32 (by decide) (by decide)
        rw [ew5617] at bw5617
        have bw5618 := BT_get hI5615.1.1 38 33 34 (0) (1) (0) (by decide) 33 (by decide) (by decide)
        rw [ew5618] at bw5618
        have bw5619 := BT_get hI5615.1.1 0 10 11 (0) (0) (4) (by decide) 10 (by decide) (by decide)
        rw [ew5619] at bw5619
        have bw5620 := BT_get hI5615.1.1 0 14 15 (-1) (0) (2) (by decide) 14 (by decide) (by decide)
        rw [ew5620] at bw5620
        have e5623 : I5615 (ad g 0) 1 = L := hI5615.1.2
        have b5624 := BT_get hI5615.1.1 0 1 2 (0) (0) (900) (by decide) 1 (by decide) (by decide)
        rw [e5623] at b5624
        refine WP_iload dX11_dayOf_22 rfl ?_
        refine WP_aload_n dX11_dayOf_24 rfl ?_
        refine WQ_geti dX11_dayOf_25 fX11_332 rfl (ly_is hy 0 11 rfl) (BT_get hI5615.1.1 0 11 12 (0) (0) (3) (by decide) 11 (by decide) (by decide)) (fun v5625 ev5625 av5625 bv5625 => ?_)
        refine WQ_icmp_ge 85 dX11_dayOf_28 rfl (fun c5625 => ?_) (fun c5625 => ?_)
        · refine WQ_iconst (0) (0) dX11_dayOf_85 rfl rfl (fun v5627 hv5627 => ?_)
          refine WP_istore (ls' := [(0, _), (1, _), (2, _), (3, _), (5, _)]) dX11_dayOf_86 (by decide) rfl ?_
          have lp88_5636 : ∀ (mz : Nat) (l5628 : Int64) (i5629 : Int32) (I5630 : pI) (J5631 : pJ), MP g n L I5630 → fz 49 g [0, 35, 36, 37, 40, 41, 38] I I5630 → fz 49 g [] J J5631 → fs g [56] I I5630 → ∀ (w5632 : Int32), I5630 (ad g 38) 32 = w5632 → ∀ (w5633 : Int32), I5630 (ad g 38) 33 = w5633 → ∀ (w5634 : Int32), I5630 (ad g 0) 10 = w5634 → ∀ (w5635 : Int32), I5630 (ad g 0) 14 = w5635 → ∀ (w5636 : Int32), I5630 (ad g 0) 68 = w5636 → 0 ≤ i5629.toInt → i5629.toInt ≤ 4 → w5633.toInt = w5606.toInt → w5634.toInt = w5602.toInt → w5635.toInt = w5603.toInt → w5636.toInt = w5604.toInt → w5632.toInt ≤ w5605.toInt → (5 - i5629.toInt).toNat < mz → WP g mX11_dayOf 88 [(0, .ref (ad g 0)), (1, .ref (ad g 38)), (2, .int v5610), (3, .long l5628), (5, .int i5629)] [] I5630 J5631 R (fun r I' J' R' => (MP g n L I' ∧ R' = R ∧ fz 49 g [0, 35, 36, 37, 40, 41, 38] I I' ∧ fz 49 g [] J J' ∧ fs g [56] I I' ∧ ((I' (ad g 38) 32).toInt ≤ (I (ad g 38) 32).toInt + 23760 ∧ (I' (ad g 38) 33).toInt = (I (ad g 38) 33).toInt + 1) ∧ I' (ad g 0) 10 = I (ad g 0) 10 ∧ I' (ad g 0) 14 = I (ad g 0) 14 ∧ I' (ad g 0) 68 = I (ad g 0) 68) ∧ ∃ v : Int64, r = some (.long v)) := by
            intro mz
            induction mz with
            | zero =>
              intro l5628 i5629 I5630 J5631 hI5630 fiI5630 fjJ5631 fqI5630 w5632 ew5632 w5633 ew5633 w5634 ew5634 w5635 ew5635 w5636 ew5636 ai5629 bi5629 j0_I5630 j1_I5630 j2_I5630 j3_I5630 j4_I5630 hmlp88_5636
              exact absurd hmlp88_5636 (Nat.not_lt_zero _)
            | succ mz ihlp88_5636 =>
              intro l5628 i5629 I5630 J5631 hI5630 fiI5630 fjJ5631 fqI5630 w5632 ew5632 w5633 ew5633 w5634 ew5634 w5635 ew5635 w5636 ew5636 ai5629 bi5629 j0_I5630 j1_I5630 j2_I5630 j3_I5630 j4_I5630 hmlp88_5636
              have bw5632 := BT_get hI5630.1.1 38 32 33 (0) (23760) (0) (by decide) 32 (by decide) (by decide)
              rw [ew5632] at bw5632
              have bw5633 := BT_get hI5630.1.1 38 33 34 (0) (1) (0) (by decide) 33 (by decide) (by decide)
              rw [ew5633] at bw5633
              have bw5634 := BT_get hI5630.1.1 0 10 11 (0) (0) (4) (by decide) 10 (by decide) (by decide)
              rw [ew5634] at bw5634
              have bw5635 := BT_get hI5630.1.1 0 14 15 (-1) (0) (2) (by decide) 14 (by decide) (by decide)
              rw [ew5635] at bw5635
              have e5638 : I5630 (ad g 0) 1 = L := hI5630.1.2
              have b5639 := BT_get hI5630.1.1 0 1 2 (0) (0) (900) (by decide) 1 (by decide) (by decide)
              rw [e5638] at b5639
              refine WP_iload dX11_dayOf_88 rfl ?_
              refine WP_aload_n dX11_dayOf_90 rfl ?_
              refine WQ_getim dX11_dayOf_91 fX11_329 rfl (ly_is hy 0 11 rfl) ew5634 ?_
              refine WQ_icmp_ge 114 dX11_dayOf_94 rfl (fun c5639 => ?_) (fun c5639 => ?_)
              · refine WQ_iconst (0) (0) dX11_dayOf_114 rfl rfl (fun v5641 hv5641 => ?_)
                refine WP_istore (ls' := [(0, _), (1, _), (2, _), (3, _), (5, _)]) dX11_dayOf_115 (by decide) rfl ?_
                have lp117_5649 : ∀ (mz : Nat) (i5642 : Int32) (I5643 : pI) (J5644 : pJ), MP g n L I5643 → fz 49 g [0, 35, 36, 37, 40, 41, 38] I I5643 → fz 49 g [] J J5644 → fs g [56] I I5643 → ∀ (w5645 : Int32), I5643 (ad g 38) 32 = w5645 → ∀ (w5646 : Int32), I5643 (ad g 38) 33 = w5646 → ∀ (w5647 : Int32), I5643 (ad g 0) 10 = w5647 → ∀ (w5648 : Int32), I5643 (ad g 0) 14 = w5648 → ∀ (w5649 : Int32), I5643 (ad g 0) 68 = w5649 → 0 ≤ i5642.toInt → i5642.toInt ≤ 4 → w5646.toInt = w5606.toInt → w5647.toInt = w5602.toInt → w5648.toInt = w5603.toInt → w5649.toInt = w5604.toInt → w5645.toInt ≤ w5605.toInt + 5940 * i5642.toInt → (5 - i5642.toInt).toNat < mz → WP g mX11_dayOf 117 [(0, .ref (ad g 0)), (1, .ref (ad g 38)), (2, .int v5610), (3, .long l5628), (5, .int i5642)] [] I5643 J5644 R (fun r I' J' R' => (MP g n L I' ∧ R' = R ∧ fz 49 g [0, 35, 36, 37, 40, 41, 38] I I' ∧ fz 49 g [] J J' ∧ fs g [56] I I' ∧ ((I' (ad g 38) 32).toInt ≤ (I (ad g 38) 32).toInt + 23760 ∧ (I' (ad g 38) 33).toInt = (I (ad g 38) 33).toInt + 1) ∧ I' (ad g 0) 10 = I (ad g 0) 10 ∧ I' (ad g 0) 14 = I (ad g 0) 14 ∧ I' (ad g 0) 68 = I (ad g 0) 68) ∧ ∃ v : Int64, r = some (.long v)) := by
                  intro mz
                  induction mz with
                  | zero =>
                    intro i5642 I5643 J5644 hI5643 fiI5643 fjJ5644 fqI5643 w5645 ew5645 w5646 ew5646 w5647 ew5647 w5648 ew5648 w5649 ew5649 ai5642 bi5642 j0_I5643 j1_I5643 j2_I5643 j3_I5643 j4_I5643 hmlp117_5649
                    exact absurd hmlp117_5649 (Nat.not_lt_zero _)
                  | succ mz ihlp117_5649 =>
                    intro i5642 I5643 J5644 hI5643 fiI5643 fjJ5644 fqI5643 w5645 ew5645 w5646 ew5646 w5647 ew5647 w5648 ew5648 w5649 ew5649 ai5642 bi5642 j0_I5643 j1_I5643 j2_I5643 j3_I5643 j4_I5643 hmlp117_5649
                    have bw5645 := BT_get hI5643.1.1 38 32 33 (0) (23760) (0) (by decide) 32 (by decide) (by decide)
                    rw [ew5645] at bw5645
                    have bw5646 := BT_get hI5643.1.1 38 33 34 (0) (1) (0) (by decide) 33 (by decide) (by decide)
                    rw [ew5646] at bw5646
                    have bw5647 := BT_get hI5643.1.1 0 10 11 (0) (0) (4) (by decide) 10 (by decide) (by decide)
                    rw [ew5647] at bw5647
                    have bw5648 := BT_get hI5643.1.1 0 14 15 (-1) (0) (2) (by decide) 14 (by decide) (by decide)
                    rw [ew5648] at bw5648
                    have e5651 : I5643 (ad g 0) 1 = L := hI5643.1.2
                    have b5652 := BT_get hI5643.1.1 0 1 2 (0) (0) (900) (by decide) 1 (by decide) (by decide)
                    rw [e5651] at b5652
                    refine WP_iload dX11_dayOf_117 rfl ?_
                    refine WP_aload_n dX11_dayOf_119 rfl ?_
                    refine WQ_getim dX11_dayOf_120 fX11_329 rfl (ly_is hy 0 11 rfl) ew5647 ?_
                    refine WQ_icmp_ge 140 dX11_dayOf_123 rfl (fun c5652 => ?_) (fun c5652 => ?_)
                    · refine WP_aload_n dX11_dayOf_140 rfl ?_
                      refine WQ_bipush (33) (33) dX11_dayOf_141 rfl rfl (fun v5654 hv5654 => ?_)
                      refine WP_dup2 dX11_dayOf_143 rfl rfl ?_
                      refine WQ_ialdm (z := 33) dX11_dayOf_144 (ly_is hy 38 13 rfl) (ly_n hy 38 35 rfl) hv5654 (by decide) ew5646 ?_
                      refine WQ_iconst (1) (1) dX11_dayOf_145 rfl rfl (fun v5656 hv5656 => ?_)
                      refine WQ_iadd dX11_dayOf_146 (by omega) (by omega) (fun v5657 hv5657 => ?_)
                      refine WQ_iast dX11_dayOf_147 (ly_is hy 38 13 rfl) (ly_n hy 38 35 rfl) (by omega) (by omega) (fun I5658 fI5658 => ?_)
                      have eI5658 := fI5658
                      rw [cl (x := v5654) (n := 33) (by omega)] at eI5658
                      clear fI5658
                      have hI5658 : MP g n L I5658 := by rw [eI5658]; exact (mp_w hy hI5643 (c := 38) (mi_f hy hI5643.1 (c := 38) (0) (1) (0) (by decide) (Or.inl (by decide)) (by decide) (by omega) (by omega)) (by decide) (by decide) (Or.inl (by decide)))
                      have e5659 : I5658 (ad g 38) 32 = w5645 := by rw [eI5658, pp_ne _ _ (Or.inr (by decide))]; exact ew5645
                      have e5660 : I5658 (ad g 0) 10 = w5647 := by rw [eI5658, pp_ne _ _ (Or.inl (ly_ne hy (by decide) (by decide) (by decide)))]; exact ew5647
                      have e5661 : I5658 (ad g 0) 14 = w5648 := by rw [eI5658, pp_ne _ _ (Or.inl (ly_ne hy (by decide) (by decide) (by decide)))]; exact ew5648
                      have e5662 : I5658 (ad g 0) 68 = w5649 := by rw [eI5658, pp_ne _ _ (Or.inl (ly_ne hy (by decide) (by decide) (by decide)))]; exact ew5649
                      have e5663 : I5658 (ad g 0) 1 = L := by rw [eI5658, pp_ne _ _ (Or.inl (ly_ne hy (by decide) (by decide) (by decide)))]; exact e5651
                      have e5664 : I5658 (ad g 38) 33 = v5657 := by rw [eI5658, pp_self]
                      have fr5665 : fs g [56] I I5658 := by rw [eI5658]; exact fs_ppn hy fqI5643 (by decide) (by decide)
                      have fr5666 : fz 49 g [0, 35, 36, 37, 40, 41, 38] I I5658 := by rw [eI5658]; exact fzm_pp hy fiI5643 (by decide) (by decide)
                      clear eI5658
                      refine WP_lload_n dX11_dayOf_148 rfl ?_
                      exact WP_lret dX11_dayOf_149 rfl ⟨⟨hI5658, rfl, fr5666, fjJ5644, fr5665, ⟨(by rw [e5659, ew5605, e5664, ew5606]; omega), (by rw [e5660, ew5602] <;> exact (eq32 _ _).mpr (by omega)), (by rw [e5661, ew5603] <;> exact (eq32 _ _).mpr (by omega)), (by rw [e5662, ew5604] <;> exact (eq32 _ _).mpr (by omega))⟩⟩, _, rfl⟩
                    · refine WP_aload_n dX11_dayOf_126 rfl ?_
                      refine WP_aload_n dX11_dayOf_127 rfl ?_
                      refine WP_iload dX11_dayOf_128 rfl ?_
                      refine WP_iload_n dX11_dayOf_130 rfl ?_
                      refine WP_callV3 (k := 11) dX11_dayOf_131 ⟨⟨⟨by decide, by decide⟩, zX11_nightOf⟩, lX11_478, by decide, rfl, vX11_nightOf.1, vX11_nightOf.2⟩ (ly_is hy 0 11 rfl) (sm_nightOfx_38 hy hr hI5643 i5642 v5610 (by omega) (by omega) (by omega) (by omega) (by omega) (by rw [ew5645]; omega)) (Nat.le_of_ble_eq_true rfl) ?_
                      intro r I5667 J5668 Ra hq
                      obtain ⟨⟨hI5667, ec, fiI5667, fjI5667, fqI5667, ⟨pI5667, sI5667_38_33, sI5667_0_10, sI5667_0_14, sI5667_0_68⟩⟩, rfl⟩ := hq
                      rw [ec]
                      clear ec Ra
                      have fr5669 : fz 49 g [0, 35, 36, 37, 40, 41, 38] I I5667 := fz_tr fiI5643 (fz_mono fiI5667 (by decide))
                      have fr5670 : fs g [56] I I5667 := fs_tr fqI5643 (fs_mono fqI5667 (by decide))
                      have fr5671 : fz 49 g [] J J5668 := fz_tr fjJ5644 (fz_mono fjI5667 (by decide))
                      have e5672 : I5667 (ad g 38) 33 = w5646 := by rw [sI5667_38_33]; exact ew5646
                      have e5673 : I5667 (ad g 0) 10 = w5647 := by rw [sI5667_0_10]; exact ew5647
                      have e5674 : I5667 (ad g 0) 14 = w5648 := by rw [sI5667_0_14]; exact ew5648
                      have e5675 : I5667 (ad g 0) 68 = w5649 := by rw [sI5667_0_68]; exact ew5649
                      have e5676 : I5667 (ad g 0) 1 = L := hI5667.1.2
                      have b5677 := BT_get hI5667.1.1 0 1 2 (0) (0) (900) (by decide) 1 (by decide) (by decide)
                      rw [e5676] at b5677
                      obtain ⟨w5678, ew5678⟩ : ∃ w : Int32, I5667 (ad g 38) 32 = w := ⟨_, rfl⟩
                      have bw5678 := BT_get hI5667.1.1 38 32 33 (0) (23760) (0) (by decide) 32 (by decide) (by decide)
                      rw [ew5678] at bw5678
                      rw [ew5678, ew5645] at pI5667
                      refine WP_iinc (ls' := [(0, _), (1, _), (2, _), (3, _), (5, _)]) dX11_dayOf_134 rfl (by decide) rfl ?_
                      have hv5679 : (i5642 + Int32.ofInt (1)).toInt = i5642.toInt + (1) := ia_n rfl (by omega) (by omega)
                      generalize i5642 + Int32.ofInt (1) = v5679 at hv5679 ⊢
                      refine WP_goto 117 dX11_dayOf_137 rfl ?_
                      exact WP_sub (fc rfl (fc rfl (fc rfl (fc rfl (fc rfl fn))))) (ihlp117_5649 v5679 I5667 J5668 hI5667 fr5669 fr5671 fr5670 w5678 ew5678 w5646 e5672 w5647 e5673 w5648 e5674 w5649 e5675 (by omega) (by omega) (by omega) (by omega) (by omega) (by omega) (by omega) (by omega))
                exact WP_sub (fc rfl (fc rfl (fc rfl (fc rfl (fc rfl fn))))) (lp117_5649 _ v5641 I5630 J5631 hI5630 fiI5630 fjJ5631 fqI5630 w5632 ew5632 w5633 ew5633 w5634 ew5634 w5635 ew5635 w5636 ew5636 (by omega) (by omega) (by omega) (by omega) (by omega) (by omega) (by omega) (Nat.lt_succ_self _))
              · refine WP_lload_n dX11_dayOf_97 rfl ?_
                refine WP_aload_n dX11_dayOf_98 rfl ?_
                refine WP_aload_n dX11_dayOf_99 rfl ?_
                refine WP_iload dX11_dayOf_100 rfl ?_
                refine WP_iload_n dX11_dayOf_102 rfl ?_
                refine WP_callV3 (k := 11) dX11_dayOf_103 ⟨⟨⟨by decide, by decide⟩, zX11_sortDay⟩, lX11_474, by decide, rfl, vX11_sortDay.1, vX11_sortDay.2⟩ (ly_is hy 0 11 rfl) (sm_sortDay_38 hy hr hI5630 i5629 v5610 (by omega) (by omega) (by omega) (by omega) (by rw [ew5634]; omega)) (Nat.le_of_ble_eq_true rfl) ?_
                intro r I5680 J5681 Ra hq
                obtain ⟨⟨hI5680, ec, fiI5680, ejI5680, fqI5680, ⟨pI5680, sI5680_38_32, sI5680_38_33, sI5680_0_10, sI5680_0_14, sI5680_0_68⟩⟩, l5682, rfl⟩ := hq
                show WP _ _ _ _ (.long _ :: _) _ _ _ _
                rw [ec]
                clear ec Ra
                have fr5683 : fz 49 g [0, 35, 36, 37, 40, 41, 38] I I5680 := fz_tr fiI5630 (fz_mono fiI5680 (by decide))
                have fr5684 : fs g [56] I I5680 := fs_tr fqI5630 (fs_mono fqI5680 (by decide))
                rw [ejI5680]
                clear ejI5680 J5681
                have e5685 : I5680 (ad g 38) 32 = w5632 := by rw [sI5680_38_32]; exact ew5632
                have e5686 : I5680 (ad g 38) 33 = w5633 := by rw [sI5680_38_33]; exact ew5633
                have e5687 : I5680 (ad g 0) 10 = w5634 := by rw [sI5680_0_10]; exact ew5634
                have e5688 : I5680 (ad g 0) 14 = w5635 := by rw [sI5680_0_14]; exact ew5635
                have e5689 : I5680 (ad g 0) 68 = w5636 := by rw [sI5680_0_68]; exact ew5636
                have e5690 : I5680 (ad g 0) 1 = L := hI5680.1.2
                have b5691 := BT_get hI5680.1.1 0 1 2 (0) (0) (900) (by decide) 1 (by decide) (by decide)
                rw [e5690] at b5691
                refine WQ_ladd dX11_dayOf_106 (fun l5692 => ?_)
                refine WP_lstore_n (ls' := [(0, _), (1, _), (2, _), (3, _), (5, _)]) dX11_dayOf_107 (by decide) rfl ?_
                refine WP_iinc (ls' := [(0, _), (1, _), (2, _), (3, _), (5, _)]) dX11_dayOf_108 rfl (by decide) rfl ?_
                have hv5693 : (i5629 + Int32.ofInt (1)).toInt = i5629.toInt + (1) := ia_n rfl (by omega) (by omega)
                generalize i5629 + Int32.ofInt (1) = v5693 at hv5693 ⊢
                refine WP_goto 88 dX11_dayOf_111 rfl ?_
                exact WP_sub (fc rfl (fc rfl (fc rfl (fc rfl (fc rfl fn))))) (ihlp88_5636 l5692 v5693 I5680 J5631 hI5680 fr5683 fjJ5631 fr5684 w5632 e5685 w5633 e5686 w5634 e5687 w5635 e5688 w5636 e5689 (by omega) (by omega) (by omega) (by omega) (by omega) (by omega) (by omega) (by omega))
          exact WP_sub (fc rfl (fc rfl (fc rfl (fc rfl (fc rfl fn))))) (lp88_5636 _ l5611 v5627 I5615 J5616 hI5615 fiI5615 fjJ5616 fqI5615 w5617 ew5617 w5618 ew5618 w5619 ew5619 w5620 ew5620 w5621 ew5621 (by omega) (by omega) (by omega) (by omega) (by omega) (by omega) (by omega) (Nat.lt_succ_self _))
        · refine WP_aload_n dX11_dayOf_31 rfl ?_
          refine WP_getr dX11_dayOf_32 fX11_289 rfl (ly_is hy 0 11 rfl) (rf hr 0 62 40 (by decide)) ?_
          refine WP_iload dX11_dayOf_35 rfl ?_
          refine WP_aload_n dX11_dayOf_37 rfl ?_
          refine WQ_geti dX11_dayOf_38 fX11_470 rfl (ly_is hy 0 11 rfl) (BT_get hI5615.1.1 0 64 65 (0) (0) (1) (by decide) 64 (by decide) (by decide)) (fun v5694 ev5694 av5694 bv5694 => ?_)
          have jn78_5707 : ∀ (v5707 : Int32), 0 ≤ v5707.toInt → v5707.toInt ≤ 1000000 → WP g mX11_dayOf 78 [(0, .ref (ad g 0)), (1, .ref (ad g 38)), (2, .int v5610), (3, .long l5611), (5, .int i5614)] [.int v5707, .int i5614, .ref (ad g 40)] I5615 J5616 R (fun r I' J' R' => (MP g n L I' ∧ R' = R ∧ fz 49 g [0, 35, 36, 37, 40, 41, 38] I I' ∧ fz 49 g [] J J' ∧ fs g [56] I I' ∧ ((I' (ad g 38) 32).toInt ≤ (I (ad g 38) 32).toInt + 23760 ∧ (I' (ad g 38) 33).toInt = (I (ad g 38) 33).toInt + 1) ∧ I' (ad g 0) 10 = I (ad g 0) 10 ∧ I' (ad g 0) 14 = I (ad g 0) 14 ∧ I' (ad g 0) 68 = I (ad g 0) 68) ∧ ∃ v : Int64, r = some (.long v)) := by
            intro v5707 av5707 bv5707
            refine WQ_iast dX11_dayOf_78 (ly_is hy 40 13 rfl) (ly_n hy 40 3 rfl) (by omega) (by omega) (fun I5709 eI5709 => ?_)
            have hI5709 : MP g n L I5709 := by rw [eI5709]; exact (mp_w hy hI5615 (c := 40) (mi_r hy hI5615.1 (c := 40) (0) (0) (1000000) (by decide) (Or.inl (by decide)) (by decide) (by omega) (by omega)) (by decide) (by decide) (Or.inl (by decide)))
            have e5710 : I5709 (ad g 38) 32 = w5617 := by rw [eI5709, pp_ne _ _ (Or.inl (ly_ne hy (by decide) (by decide) (by decide)))]; exact ew5617
            have e5711 : I5709 (ad g 38) 33 = w5618 := by rw [eI5709, pp_ne _ _ (Or.inl (ly_ne hy (by decide) (by decide) (by decide)))]; exact ew5618
            have e5712 : I5709 (ad g 0) 10 = w5619 := by rw [eI5709, pp_ne _ _ (Or.inl (ly_ne hy (by decide) (by decide) (by decide)))]; exact ew5619
            have e5713 : I5709 (ad g 0) 14 = w5620 := by rw [eI5709, pp_ne _ _ (Or.inl (ly_ne hy (by decide) (by decide) (by decide)))]; exact ew5620
            have e5714 : I5709 (ad g 0) 68 = w5621 := by rw [eI5709, pp_ne _ _ (Or.inl (ly_ne hy (by decide) (by decide) (by decide)))]; exact ew5621
            have e5715 : I5709 (ad g 0) 1 = L := by rw [eI5709, pp_ne _ _ (Or.inl (ly_ne hy (by decide) (by decide) (by decide)))]; exact e5623
            have e5716 : I5709 (ad g 0) 11 = v5625 := by rw [eI5709, pp_ne _ _ (Or.inl (ly_ne hy (by decide) (by decide) (by decide)))]; exact ev5625
            have e5717 : I5709 (ad g 0) 64 = v5694 := by rw [eI5709, pp_ne _ _ (Or.inl (ly_ne hy (by decide) (by decide) (by decide)))]; exact ev5694
            have fr5718 : fs g [56] I I5709 := by rw [eI5709]; exact fs_ppn hy fqI5615 (by decide) (by decide)
            have fr5719 : fz 49 g [0, 35, 36, 37, 40, 41, 38] I I5709 := by rw [eI5709]; exact fzm_pp hy fiI5615 (by decide) (by decide)
            clear eI5709
            refine WP_iinc (ls' := [(0, _), (1, _), (2, _), (3, _), (5, _)]) dX11_dayOf_79 rfl (by decide) rfl ?_
            have hv5720 : (i5614 + Int32.ofInt (1)).toInt = i5614.toInt + (1) := ia_n rfl (by omega) (by omega)
            generalize i5614 + Int32.ofInt (1) = v5720 at hv5720 ⊢
            refine WP_goto 22 dX11_dayOf_82 rfl ?_
            exact WP_sub (fc rfl (fc rfl (fc rfl (fc rfl (fc rfl fn))))) (ihlp22_5621 v5720 I5709 J5616 hI5709 fr5719 fjJ5616 fr5718 w5617 e5710 w5618 e5711 w5619 e5712 w5620 e5713 w5621 e5714 (by omega) (by omega) (by omega) (by omega) (by omega) (by omega) (by omega) (by omega))
          refine WQ_if_ne 60 dX11_dayOf_41 rfl (fun c5720 => ?_) (fun c5720 => ?_)
          · refine WP_ldcw (1000000) dX11_dayOf_60 kX11_460 ?_
            obtain ⟨v5722, hv5722, ev5722⟩ : ∃ v : Int32, v.toInt = 1000000 ∧ ((1000000) : Int32) = v := ⟨(1000000), rfl, rfl⟩
            rw [ev5722]; clear ev5722
            refine WP_goto 78 dX11_dayOf_63 rfl ?_
            exact WP_sub (fc rfl (fc rfl (fc rfl (fc rfl (fc rfl fn))))) (jn78_5707 v5722 (by omega) (by omega))
          · refine WP_aload_n dX11_dayOf_44 rfl ?_
            refine WP_getr dX11_dayOf_45 fX11_259 rfl (ly_is hy 0 11 rfl) (rf hr 0 41 23 (by decide)) ?_
            refine WQ_bipush (7) (7) dX11_dayOf_48 rfl rfl (fun v5723 hv5723 => ?_)
            refine WP_iload dX11_dayOf_50 rfl ?_
            refine WQ_imulK (7) dX11_dayOf_52 hv5723 (by omega) (by omega) (fun v5724 hv5724 => ?_)
            refine WP_iload_n dX11_dayOf_53 rfl ?_
            refine WQ_iadd dX11_dayOf_54 (by omega) (by omega) (fun v5725 hv5725 => ?_)
            refine WQ_ialdb dX11_dayOf_55 (ly_is hy 23 13 rfl) (ly_n hy 23 21 rfl) (by omega) (by omega) (fun q hq => BT_get hI5615.1.1 23 0 21 (-1) (0) (999) (by decide) q (Nat.zero_le _) hq) (fun v5726 av5726 bv5726 zv5726 => ?_)
            refine WQ_iconst (-1) (-1) dX11_dayOf_56 rfl rfl (fun v5727 hv5727 => ?_)
            refine WQ_icmp_ne 66 dX11_dayOf_57 rfl (fun c5727 => ?_) (fun c5727 => ?_)
            · refine WP_aload_n dX11_dayOf_66 rfl ?_
              refine WP_getr dX11_dayOf_67 fX11_259 rfl (ly_is hy 0 11 rfl) (rf hr 0 41 23 (by decide)) ?_
              refine WQ_bipush (7) (7) dX11_dayOf_70 rfl rfl (fun v5729 hv5729 => ?_)
              refine WP_iload dX11_dayOf_72 rfl ?_
              refine WQ_imulK (7) dX11_dayOf_74 hv5729 (by omega) (by omega) (fun v5730 hv5730 => ?_)
              refine WP_iload_n dX11_dayOf_75 rfl ?_
              refine WQ_iadd dX11_dayOf_76 (by omega) (by omega) (fun v5731 hv5731 => ?_)
              refine WQ_ialdb dX11_dayOf_77 (ly_is hy 23 13 rfl) (ly_n hy 23 21 rfl) (by omega) (by omega) (fun q hq => BT_get hI5615.1.1 23 0 21 (-1) (0) (999) (by decide) q (Nat.zero_le _) hq) (fun v5732 av5732 bv5732 zv5732 => ?_)
              have tv5732 : v5732.toInt = v5726.toInt := by rw [← zv5732, ← zv5726, show v5731.toInt.toNat = v5725.toInt.toNat by omega]
              exact WP_sub (fc rfl (fc rfl (fc rfl (fc rfl (fc rfl fn))))) (jn78_5707 v5732 (by omega) (by omega))
            · refine WP_ldcw (1000000) dX11_dayOf_60 kX11_460 ?_
              obtain ⟨v5733, hv5733, ev5733⟩ : ∃ v : Int32, v.toInt = 1000000 ∧ ((1000000) : Int32) = v := ⟨(1000000), rfl, rfl⟩
              rw [ev5733]; clear ev5733
              refine WP_goto 78 dX11_dayOf_63 rfl ?_
              exact WP_sub (fc rfl (fc rfl (fc rfl (fc rfl (fc rfl fn))))) (jn78_5707 v5733 (by omega) (by omega))
    exact WP_sub (fc rfl (fc rfl (fc rfl (fc rfl (fc rfl fn))))) (lp22_5621 _ v5613 I J hI fr0 frj0 frq0 w5605 ew5605 w5606 ew5606 w5602 ew5602 w5603 ew5603 w5604 ew5604 (by omega) (by omega) (by omega) (by omega) (by omega) (by omega) (by omega) (Nat.lt_succ_self _))
  · refine WP_aload_n dX11_dayOf_14 rfl ?_
    refine WP_aload_n dX11_dayOf_15 rfl ?_
    refine WP_callV1 (k := 11) dX11_dayOf_16 ⟨⟨⟨by decide, by decide⟩, zX11_openChest⟩, lX11_467, by decide, rfl, vX11_openChest.1, vX11_openChest.2⟩ (ly_is hy 0 11 rfl) (sm_openChestx_38 hy hr hI   (by omega) (by rw [ew5605]; omega)) (Nat.le_of_ble_eq_true rfl) ?_
    intro r I5734 J5735 Ra hq
    obtain ⟨⟨hI5734, ec, fiI5734, fjI5734, fqI5734, ⟨pI5734, sI5734_38_33, sI5734_0_10, sI5734_0_14, sI5734_0_68⟩⟩, rfl⟩ := hq
    rw [ec]
    clear ec Ra
    have fr5736 : fz 49 g [0, 35, 36, 37, 40, 41, 38] I I5734 := fz_tr fr0 (fz_mono fiI5734 (by decide))
    have fr5737 : fs g [56] I I5734 := fs_tr frq0 (fs_mono fqI5734 (by decide))
    have fr5738 : fz 49 g [] J J5735 := fz_tr frj0 (fz_mono fjI5734 (by decide))
    have e5739 : I5734 (ad g 38) 33 = w5606 := by rw [sI5734_38_33]; exact ew5606
    have e5740 : I5734 (ad g 0) 10 = w5602 := by rw [sI5734_0_10]; exact ew5602
    have e5741 : I5734 (ad g 0) 14 = w5603 := by rw [sI5734_0_14]; exact ew5603
    have e5742 : I5734 (ad g 0) 68 = w5604 := by rw [sI5734_0_68]; exact ew5604
    have e5743 : I5734 (ad g 0) 1 = L := hI5734.1.2
    have b5744 := BT_get hI5734.1.1 0 1 2 (0) (0) (900) (by decide) 1 (by decide) (by decide)
    rw [e5743] at b5744
    obtain ⟨w5745, ew5745⟩ : ∃ w : Int32, I5734 (ad g 38) 32 = w := ⟨_, rfl⟩
    have bw5745 := BT_get hI5734.1.1 38 32 33 (0) (23760) (0) (by decide) 32 (by decide) (by decide)
    rw [ew5745] at bw5745
    rw [ew5745, ew5605] at pI5734
    refine WQ_iconst (0) (0) dX11_dayOf_19 rfl rfl (fun v5746 hv5746 => ?_)
    refine WP_istore (ls' := [(0, _), (1, _), (2, _), (3, _), (5, _)]) dX11_dayOf_20 (by decide) rfl ?_
    have lp22_5754 : ∀ (mz : Nat) (i5747 : Int32) (I5748 : pI) (J5749 : pJ), MP g n L I5748 → fz 49 g [0, 35, 36, 37, 40, 41, 38] I I5748 → fz 49 g [] J J5749 → fs g [56] I I5748 → ∀ (w5750 : Int32), I5748 (ad g 38) 32 = w5750 → ∀ (w5751 : Int32), I5748 (ad g 38) 33 = w5751 → ∀ (w5752 : Int32), I5748 (ad g 0) 10 = w5752 → ∀ (w5753 : Int32), I5748 (ad g 0) 14 = w5753 → ∀ (w5754 : Int32), I5748 (ad g 0) 68 = w5754 → 0 ≤ i5747.toInt → i5747.toInt ≤ 3 → w5751.toInt = w5606.toInt → w5752.toInt = w5602.toInt → w5753.toInt = w5603.toInt → w5754.toInt = w5604.toInt → w5750.toInt ≤ w5605.toInt → (4 - i5747.toInt).toNat < mz → WP g mX11_dayOf 22 [(0, .ref (ad g 0)), (1, .ref (ad g 38)), (2, .int v5610), (3, .long l5611), (5, .int i5747)] [] I5748 J5749 R (fun r I' J' R' => (MP g n L I' ∧ R' = R ∧ fz 49 g [0, 35, 36, 37, 40, 41, 38] I I' ∧ fz 49 g [] J J' ∧ fs g [56] I I' ∧ ((I' (ad g 38) 32).toInt ≤ (I (ad g 38) 32).toInt + 23760 ∧ (I' (ad g 38) 33).toInt = (I (ad g 38) 33).toInt + 1) ∧ I' (ad g 0) 10 = I (ad g 0) 10 ∧ I' (ad g 0) 14 = I (ad g 0) 14 ∧ I' (ad g 0) 68 = I (ad g 0) 68) ∧ ∃ v : Int64, r = some (.long v)) := by
      intro mz
      induction mz with
      | zero =>
        intro i5747 I5748 J5749 hI5748 fiI5748 fjJ5749 fqI5748 w5750 ew5750 w5751 ew5751 w5752 ew5752 w5753 ew5753 w5754 ew5754 ai5747 bi5747 j0_I5748 j1_I5748 j2_I5748 j3_I5748 j4_I5748 hmlp22_5754
        exact absurd hmlp22_5754 (Nat.not_lt_zero _)
      | succ mz ihlp22_5754 =>
        intro i5747 I5748 J5749 hI5748 fiI5748 fjJ5749 fqI5748 w5750 ew5750 w5751 ew5751 w5752 ew5752 w5753 ew5753 w5754 ew5754 ai5747 bi5747 j0_I5748 j1_I5748 j2_I5748 j3_I5748 j4_I5748 hmlp22_5754
        have bw5750 := BT_get hI5748.1.1 38 32 33 (0) (23760) (0) (by decide) 32 (by decide) (by decide)
        rw [ew5750] at bw5750
        have bw5751 := BT_get hI5748.1.1 38 33 34 (0) (1) (0) (by decide) 33 (by decide) (by decide)
        rw [ew5751] at bw5751
        have bw5752 := BT_get hI5748.1.1 0 10 11 (0) (0) (4) (by decide) 10 (by decide) (by decide)
        rw [ew5752] at bw5752
        have bw5753 := BT_get hI5748.1.1 0 14 15 (-1) (0) (2) (by decide) 14 (by decide) (by decide)
        rw [ew5753] at bw5753
        have e5756 : I5748 (ad g 0) 1 = L := hI5748.1.2
        have b5757 := BT_get hI5748.1.1 0 1 2 (0) (0) (900) (by decide) 1 (by decide) (by decide)
        rw [e5756] at b5757
        refine WP_iload dX11_dayOf_22 rfl ?_
        refine WP_aload_n dX11_dayOf_24 rfl ?_
        refine WQ_geti dX11_dayOf_25 fX11_332 rfl (ly_is hy 0 11 rfl) (BT_get hI5748.1.1 0 11 12 (0) (0) (3) (by decide) 11 (by decide) (by decide)) (fun v5758 ev5758 av5758 bv5758 => ?_)
        refine WQ_icmp_ge 85 dX11_dayOf_28 rfl (fun c5758 => ?_) (fun c5758 => ?_)
        · refine WQ_iconst (0) (0) dX11_dayOf_85 rfl rfl (fun v5760 hv5760 => ?_)
          refine WP_istore (ls' := [(0, _), (1, _), (2, _), (3, _), (5, _)]) dX11_dayOf_86 (by decide) rfl ?_
          have lp88_5769 : ∀ (mz : Nat) (l5761 : Int64) (i5762 : Int32) (I5763 : pI) (J5764 : pJ), MP g n L I5763 → fz 49 g [0, 35, 36, 37, 40, 41, 38] I I5763 → fz 49 g [] J J5764 → fs g [56] I I5763 → ∀ (w5765 : Int32), I5763 (ad g 38) 32 = w5765 → ∀ (w5766 : Int32), I5763 (ad g 38) 33 = w5766 → ∀ (w5767 : Int32), I5763 (ad g 0) 10 = w5767 → ∀ (w5768 : Int32), I5763 (ad g 0) 14 = w5768 → ∀ (w5769 : Int32), I5763 (ad g 0) 68 = w5769 → 0 ≤ i5762.toInt → i5762.toInt ≤ 4 → w5766.toInt = w5606.toInt → w5767.toInt = w5602.toInt → w5768.toInt = w5603.toInt → w5769.toInt = w5604.toInt → w5765.toInt ≤ w5605.toInt → (5 - i5762.toInt).toNat < mz → WP g mX11_dayOf 88 [(0, .ref (ad g 0)), (1, .ref (ad g 38)), (2, .int v5610), (3, .long l5761), (5, .int i5762)] [] I5763 J5764 R (fun r I' J' R' => (MP g n L I' ∧ R' = R ∧ fz 49 g [0, 35, 36, 37, 40, 41, 38] I I' ∧ fz 49 g [] J J' ∧ fs g [56] I I' ∧ ((I' (ad g 38) 32).toInt ≤ (I (ad g 38) 32).toInt + 23760 ∧ (I' (ad g 38) 33).toInt = (I (ad g 38) 33).toInt + 1) ∧ I' (ad g 0) 10 = I (ad g 0) 10 ∧ I' (ad g 0) 14 = I (ad g 0) 14 ∧ I' (ad g 0) 68 = I (ad g 0) 68) ∧ ∃ v : Int64, r = some (.long v)) := by
            intro mz
            induction mz with
            | zero =>
              intro l5761 i5762 I5763 J5764 hI5763 fiI5763 fjJ5764 fqI5763 w5765 ew5765 w5766 ew5766 w5767 ew5767 w5768 ew5768 w5769 ew5769 ai5762 bi5762 j0_I5763 j1_I5763 j2_I5763 j3_I5763 j4_I5763 hmlp88_5769
              exact absurd hmlp88_5769 (Nat.not_lt_zero _)
            | succ mz ihlp88_5769 =>
              intro l5761 i5762 I5763 J5764 hI5763 fiI5763 fjJ5764 fqI5763 w5765 ew5765 w5766 ew5766 w5767 ew5767 w5768 ew5768 w5769 ew5769 ai5762 bi5762 j0_I5763 j1_I5763 j2_I5763 j3_I5763 j4_I5763 hmlp88_5769
              have bw5765 := BT_get hI5763.1.1 38 32 33 (0) (23760) (0) (by decide) 32 (by decide) (by decide)
              rw [ew5765] at bw5765
              have bw5766 := BT_get hI5763.1.1 38 33 34 (0) (1) (0) (by decide) 33 (by decide) (by decide)
              rw [ew5766] at bw5766
              have bw5767 := BT_get hI5763.1.1 0 10 11 (0) (0) (4) (by decide) 10 (by decide) (by decide)
              rw [ew5767] at bw5767
              have bw5768 := BT_get hI5763.1.1 0 14 15 (-1) (0) (2) (by decide) 14 (by decide) (by decide)
              rw [ew5768] at bw5768
              have e5771 : I5763 (ad g 0) 1 = L := hI5763.1.2
              have b5772 := BT_get hI5763.1.1 0 1 2 (0) (0) (900) (by decide) 1 (by decide) (by decide)
              rw [e5771] at b5772
              refine WP_iload dX11_dayOf_88 rfl ?_
              refine WP_aload_n dX11_dayOf_90 rfl ?_
              refine WQ_getim dX11_dayOf_91 fX11_329 rfl (ly_is hy 0 11 rfl) ew5767 ?_
              refine WQ_icmp_ge 114 dX11_dayOf_94 rfl (fun c5772 => ?_) (fun c5772 => ?_)
              · refine WQ_iconst (0) (0) dX11_dayOf_114 rfl rfl (fun v5774 hv5774 => ?_)
                refine WP_istore (ls' := [(0, _), (1, _), (2, _), (3, _), (5, _)]) dX11_dayOf_115 (by decide) rfl ?_
                have lp117_5782 : ∀ (mz : Nat) (i5775 : Int32) (I5776 : pI) (J5777 : pJ), MP g n L I5776 → fz 49 g [0, 35, 36, 37, 40, 41, 38] I I5776 → fz 49 g [] J J5777 → fs g [56] I I5776 → ∀ (w5778 : Int32), I5776 (ad g 38) 32 = w5778 → ∀ (w5779 : Int32), I5776 (ad g 38) 33 = w5779 → ∀ (w5780 : Int32), I5776 (ad g 0) 10 = w5780 → ∀ (w5781 : Int32), I5776 (ad g 0) 14 = w5781 → ∀ (w5782 : Int32), I5776 (ad g 0) 68 = w5782 → 0 ≤ i5775.toInt → i5775.toInt ≤ 4 → w5779.toInt = w5606.toInt → w5780.toInt = w5602.toInt → w5781.toInt = w5603.toInt → w5782.toInt = w5604.toInt → w5778.toInt ≤ w5605.toInt + 5940 * i5775.toInt → (5 - i5775.toInt).toNat < mz → WP g mX11_dayOf 117 [(0, .ref (ad g 0)), (1, .ref (ad g 38)), (2, .int v5610), (3, .long l5761), (5, .int i5775)] [] I5776 J5777 R (fun r I' J' R' => (MP g n L I' ∧ R' = R ∧ fz 49 g [0, 35, 36, 37, 40, 41, 38] I I' ∧ fz 49 g [] J J' ∧ fs g [56] I I' ∧ ((I' (ad g 38) 32).toInt ≤ (I (ad g 38) 32).toInt + 23760 ∧ (I' (ad g 38) 33).toInt = (I (ad g 38) 33).toInt + 1) ∧ I' (ad g 0) 10 = I (ad g 0) 10 ∧ I' (ad g 0) 14 = I (ad g 0) 14 ∧ I' (ad g 0) 68 = I (ad g 0) 68) ∧ ∃ v : Int64, r = some (.long v)) := by
                  intro mz
                  induction mz with
                  | zero =>
                    intro i5775 I5776 J5777 hI5776 fiI5776 fjJ5777 fqI5776 w5778 ew5778 w5779 ew5779 w5780 ew5780 w5781 ew5781 w5782 ew5782 ai5775 bi5775 j0_I5776 j1_I5776 j2_I5776 j3_I5776 j4_I5776 hmlp117_5782
                    exact absurd hmlp117_5782 (Nat.not_lt_zero _)
                  | succ mz ihlp117_5782 =>
                    intro i5775 I5776 J5777 hI5776 fiI5776 fjJ5777 fqI5776 w5778 ew5778 w5779 ew5779 w5780 ew5780 w5781 ew5781 w5782 ew5782 ai5775 bi5775 j0_I5776 j1_I5776 j2_I5776 j3_I5776 j4_I5776 hmlp117_5782
                    have bw5778 := BT_get hI5776.1.1 38 32 33 (0) (23760) (0) (by decide) 32 (by decide) (by decide)
                    rw [ew5778] at bw5778
                    have bw5779 := BT_get hI5776.1.1 38 33 34 (0) (1) (0) (by decide) 33 (by decide) (by decide)
                    rw [ew5779] at bw5779
                    have bw5780 := BT_get hI5776.1.1 0 10 11 (0) (0) (4) (by decide) 10 (by decide) (by decide)
                    rw [ew5780] at bw5780
                    have bw5781 := BT_get hI5776.1.1 0 14 15 (-1) (0) (2) (by decide) 14 (by decide) (by decide)
                    rw [ew5781] at bw5781
                    have e5784 : I5776 (ad g 0) 1 = L := hI5776.1.2
                    have b5785 := BT_get hI5776.1.1 0 1 2 (0) (0) (900) (by decide) 1 (by decide) (by decide)
                    rw [e5784] at b5785
                    refine WP_iload dX11_dayOf_117 rfl ?_
                    refine WP_aload_n dX11_dayOf_119 rfl ?_
                    refine WQ_getim dX11_dayOf_120 fX11_329 rfl (ly_is hy 0 11 rfl) ew5780 ?_
                    refine WQ_icmp_ge 140 dX11_dayOf_123 rfl (fun c5785 => ?_) (fun c5785 => ?_)
                    · refine WP_aload_n dX11_dayOf_140 rfl ?_
                      refine WQ_bipush (33) (33) dX11_dayOf_141 rfl rfl (fun v5787 hv5787 => ?_)
                      refine WP_dup2 dX11_dayOf_143 rfl rfl ?_
                      refine WQ_ialdm (z := 33) dX11_dayOf_144 (ly_is hy 38 13 rfl) (ly_n hy 38 35 rfl) hv5787 (by decide) ew5779 ?_
                      refine WQ_iconst (1) (1) dX11_dayOf_145 rfl rfl (fun v5789 hv5789 => ?_)
                      refine WQ_iadd dX11_dayOf_146 (by omega) (by omega) (fun v5790 hv5790 => ?_)
                      refine WQ_iast dX11_dayOf_147 (ly_is hy 38 13 rfl) (ly_n hy 38 35 rfl) (by omega) (by omega) (fun I5791 fI5791 => ?_)
                      have eI5791 := fI5791
                      rw [cl (x := v5787) (n := 33) (by omega)] at eI5791
                      clear fI5791
                      have hI5791 : MP g n L I5791 := by rw [eI5791]; exact (mp_w hy hI5776 (c := 38) (mi_f hy hI5776.1 (c := 38) (0) (1) (0) (by decide) (Or.inl (by decide)) (by decide) (by omega) (by omega)) (by decide) (by decide) (Or.inl (by decide)))
                      have e5792 : I5791 (ad g 38) 32 = w5778 := by rw [eI5791, pp_ne _ _ (Or.inr (by decide))]; exact ew5778
                      have e5793 : I5791 (ad g 0) 10 = w5780 := by rw [eI5791, pp_ne _ _ (Or.inl (ly_ne hy (by decide) (by decide) (by decide)))]; exact ew5780
                      have e5794 : I5791 (ad g 0) 14 = w5781 := by rw [eI5791, pp_ne _ _ (Or.inl (ly_ne hy (by decide) (by decide) (by decide)))]; exact ew5781
                      have e5795 : I5791 (ad g 0) 68 = w5782 := by rw [eI5791, pp_ne _ _ (Or.inl (ly_ne hy (by decide) (by decide) (by decide)))]; exact ew5782
                      have e5796 : I5791 (ad g 0) 1 = L := by rw [eI5791, pp_ne _ _ (Or.inl (ly_ne hy (by decide) (by decide) (by decide)))]; exact e5784
                      have e5797 : I5791 (ad g 38) 33 = v5790 := by rw [eI5791, pp_self]
                      have fr5798 : fs g [56] I I5791 := by rw [eI5791]; exact fs_ppn hy fqI5776 (by decide) (by decide)
                      have fr5799 : fz 49 g [0, 35, 36, 37, 40, 41, 38] I I5791 := by rw [eI5791]; exact fzm_pp hy fiI5776 (by decide) (by decide)
                      clear eI5791
                      refine WP_lload_n dX11_dayOf_148 rfl ?_
                      exact WP_lret dX11_dayOf_149 rfl ⟨⟨hI5791, rfl, fr5799, fjJ5777, fr5798, ⟨(by rw [e5792, ew5605, e5797, ew5606]; omega), (by rw [e5793, ew5602] <;> exact (eq32 _ _).mpr (by omega)), (by rw [e5794, ew5603] <;> exact (eq32 _ _).mpr (by omega)), (by rw [e5795, ew5604] <;> exact (eq32 _ _).mpr (by omega))⟩⟩, _, rfl⟩
                    · refine WP_aload_n dX11_dayOf_126 rfl ?_
                      refine WP_aload_n dX11_dayOf_127 rfl ?_
                      refine WP_iload dX11_dayOf_128 rfl ?_
                      refine WP_iload_n dX11_dayOf_130 rfl ?_
                      refine WP_callV3 (k := 11) dX11_dayOf_131 ⟨⟨⟨by decide, by decide⟩, zX11_nightOf⟩, lX11_478, by decide, rfl, vX11_nightOf.1, vX11_nightOf.2⟩ (ly_is hy 0 11 rfl) (sm_nightOfx_38 hy hr hI5776 i5775 v5610 (by omega) (by omega) (by omega) (by omega) (by omega) (by rw [ew5778]; omega)) (Nat.le_of_ble_eq_true rfl) ?_
                      intro r I5800 J5801 Ra hq
                      obtain ⟨⟨hI5800, ec, fiI5800, fjI5800, fqI5800, ⟨pI5800, sI5800_38_33, sI5800_0_10, sI5800_0_14, sI5800_0_68⟩⟩, rfl⟩ := hq
                      rw [ec]
                      clear ec Ra
                      have fr5802 : fz 49 g [0, 35, 36, 37, 40, 41, 38] I I5800 := fz_tr fiI5776 (fz_mono fiI5800 (by decide))
                      have fr5803 : fs g [56] I I5800 := fs_tr fqI5776 (fs_mono fqI5800 (by decide))
                      have fr5804 : fz 49 g [] J J5801 := fz_tr fjJ5777 (fz_mono fjI5800 (by decide))
                      have e5805 : I5800 (ad g 38) 33 = w5779 := by rw [sI5800_38_33]; exact ew5779
                      have e5806 : I5800 (ad g 0) 10 = w5780 := by rw [sI5800_0_10]; exact ew5780
                      have e5807 : I5800 (ad g 0) 14 = w5781 := by rw [sI5800_0_14]; exact ew5781
                      have e5808 : I5800 (ad g 0) 68 = w5782 := by rw [sI5800_0_68]; exact ew5782
                      have e5809 : I5800 (ad g 0) 1 = L := hI5800.1.2
                      have b5810 := BT_get hI5800.1.1 0 1 2 (0) (0) (900) (by decide) 1 (by decide) (by decide)
                      rw [e5809] at b5810
                      obtain ⟨w5811, ew5811⟩ : ∃ w : Int32, I5800 (ad g 38) 32 = w := ⟨_, rfl⟩
                      have bw5811 := BT_get hI5800.1.1 38 32 33 (0) (23760) (0) (by decide) 32 (by decide) (by decide)
                      rw [ew5811] at bw5811
                      rw [ew5811, ew5778] at pI5800
                      refine WP_iinc (ls' := [(0, _), (1, _), (2, _), (3, _), (5, _)]) dX11_dayOf_134 rfl (by decide) rfl ?_
                      have hv5812 : (i5775 + Int32.ofInt (1)).toInt = i5775.toInt + (1) := ia_n rfl (by omega) (by omega)
                      generalize i5775 + Int32.ofInt (1) = v5812 at hv5812 ⊢
                      refine WP_goto 117 dX11_dayOf_137 rfl ?_
                      exact WP_sub (fc rfl (fc rfl (fc rfl (fc rfl (fc rfl fn))))) (ihlp117_5782 v5812 I5800 J5801 hI5800 fr5802 fr5804 fr5803 w5811 ew5811 w5779 e5805 w5780 e5806 w5781 e5807 w5782 e5808 (by omega) (by omega) (by omega) (by omega) (by omega) (by omega) (by omega) (by omega))
                exact WP_sub (fc rfl (fc rfl (fc rfl (fc rfl (fc rfl fn))))) (lp117_5782 _ v5774 I5763 J5764 hI5763 fiI5763 fjJ5764 fqI5763 w5765 ew5765 w5766 ew5766 w5767 ew5767 w5768 ew5768 w5769 ew5769 (by omega) (by omega) (by omega) (by omega) (by omega) (by omega) (by omega) (Nat.lt_succ_self _))
              · refine WP_lload_n dX11_dayOf_97 rfl ?_
                refine WP_aload_n dX11_dayOf_98 rfl ?_
                refine WP_aload_n dX11_dayOf_99 rfl ?_
                refine WP_iload dX11_dayOf_100 rfl ?_
                refine WP_iload_n dX11_dayOf_102 rfl ?_
                refine WP_callV3 (k := 11) dX11_dayOf_103 ⟨⟨⟨by decide, by decide⟩, zX11_sortDay⟩, lX11_474, by decide, rfl, vX11_sortDay.1, vX11_sortDay.2⟩ (ly_is hy 0 11 rfl) (sm_sortDay_38 hy hr hI5763 i5762 v5610 (by omega) (by omega) (by omega) (by omega) (by rw [ew5767]; omega)) (Nat.le_of_ble_eq_true rfl) ?_
                intro r I5813 J5814 Ra hq
                obtain ⟨⟨hI5813, ec, fiI5813, ejI5813, fqI5813, ⟨pI5813, sI5813_38_32, sI5813_38_33, sI5813_0_10, sI5813_0_14, sI5813_0_68⟩⟩, l5815, rfl⟩ := hq
                show WP _ _ _ _ (.long _ :: _) _ _ _ _
                rw [ec]
                clear ec Ra
                have fr5816 : fz 49 g [0, 35, 36, 37, 40, 41, 38] I I5813 := fz_tr fiI5763 (fz_mono fiI5813 (by decide))
                have fr5817 : fs g [56] I I5813 := fs_tr fqI5763 (fs_mono fqI5813 (by decide))
                rw [ejI5813]
                clear ejI5813 J5814
                have e5818 : I5813 (ad g 38) 32 = w5765 := by rw [sI5813_38_32]; exact ew5765
                have e5819 : I5813 (ad g 38) 33 = w5766 := by rw [sI5813_38_33]; exact ew5766
                have e5820 : I5813 (ad g 0) 10 = w5767 := by rw [sI5813_0_10]; exact ew5767
                have e5821 : I5813 (ad g 0) 14 = w5768 := by rw [sI5813_0_14]; exact ew5768
                have e5822 : I5813 (ad g 0) 68 = w5769 := by rw [sI5813_0_68]; exact ew5769
                have e5823 : I5813 (ad g 0) 1 = L := hI5813.1.2
                have b5824 := BT_get hI5813.1.1 0 1 2 (0) (0) (900) (by decide) 1 (by decide) (by decide)
                rw [e5823] at b5824
                refine WQ_ladd dX11_dayOf_106 (fun l5825 => ?_)
                refine WP_lstore_n (ls' := [(0, _), (1, _), (2, _), (3, _), (5, _)]) dX11_dayOf_107 (by decide) rfl ?_
                refine WP_iinc (ls' := [(0, _), (1, _), (2, _), (3, _), (5, _)]) dX11_dayOf_108 rfl (by decide) rfl ?_
                have hv5826 : (i5762 + Int32.ofInt (1)).toInt = i5762.toInt + (1) := ia_n rfl (by omega) (by omega)
                generalize i5762 + Int32.ofInt (1) = v5826 at hv5826 ⊢
                refine WP_goto 88 dX11_dayOf_111 rfl ?_
                exact WP_sub (fc rfl (fc rfl (fc rfl (fc rfl (fc rfl fn))))) (ihlp88_5769 l5825 v5826 I5813 J5764 hI5813 fr5816 fjJ5764 fr5817 w5765 e5818 w5766 e5819 w5767 e5820 w5768 e5821 w5769 e5822 (by omega) (by omega) (by omega) (by omega) (by omega) (by omega) (by omega) (by omega))
          exact WP_sub (fc rfl (fc rfl (fc rfl (fc rfl (fc rfl fn))))) (lp88_5769 _ l5611 v5760 I5748 J5749 hI5748 fiI5748 fjJ5749 fqI5748 w5750 ew5750 w5751 ew5751 w5752 ew5752 w5753 ew5753 w5754 ew5754 (by omega) (by omega) (by omega) (by omega) (by omega) (by omega) (by omega) (Nat.lt_succ_self _))
        · refine WP_aload_n dX11_dayOf_31 rfl ?_
          refine WP_getr dX11_dayOf_32 fX11_289 rfl (ly_is hy 0 11 rfl) (rf hr 0 62 40 (by decide)) ?_
          refine WP_iload dX11_dayOf_35 rfl ?_
          refine WP_aload_n dX11_dayOf_37 rfl ?_
          refine WQ_geti dX11_dayOf_38 fX11_470 rfl (ly_is hy 0 11 rfl) (BT_get hI5748.1.1 0 64 65 (0) (0) (1) (by decide) 64 (by decide) (by decide)) (fun v5827 ev5827 av5827 bv5827 => ?_)
          have jn78_5840 : ∀ (v5840 : Int32), 0 ≤ v5840.toInt → v5840.toInt ≤ 1000000 → WP g mX11_dayOf 78 [(0, .ref (ad g 0)), (1, .ref (ad g 38)), (2, .int v5610), (3, .long l5611), (5, .int i5747)] [.int v5840, .int i5747, .ref (ad g 40)] I5748 J5749 R (fun r I' J' R' => (MP g n L I' ∧ R' = R ∧ fz 49 g [0, 35, 36, 37, 40, 41, 38] I I' ∧ fz 49 g [] J J' ∧ fs g [56] I I' ∧ ((I' (ad g 38) 32).toInt ≤ (I (ad g 38) 32).toInt + 23760 ∧ (I' (ad g 38) 33).toInt = (I (ad g 38) 33).toInt + 1) ∧ I' (ad g 0) 10 = I (ad g 0) 10 ∧ I' (ad g 0) 14 = I (ad g 0) 14 ∧ I' (ad g 0) 68 = I (ad g 0) 68) ∧ ∃ v : Int64, r = some (.long v)) := by
            intro v5840 av5840 bv5840
            refine WQ_iast dX11_dayOf_78 (ly_is hy 40 13 rfl) (ly_n hy 40 3 rfl) (by omega) (by omega) (fun I5842 eI5842 => ?_)
            have hI5842 : MP g n L I5842 := by rw [eI5842]; exact (mp_w hy hI5748 (c := 40) (mi_r hy hI5748.1 (c := 40) (0) (0) (1000000) (by decide) (Or.inl (by decide)) (by decide) (by omega) (by omega)) (by decide) (by decide) (Or.inl (by decide)))
            have e5843 : I5842 (ad g 38) 32 = w5750 := by rw [eI5842, pp_ne _ _ (Or.inl (ly_ne hy (by decide) (by decide) (by decide)))]; exact ew5750
            have e5844 : I5842 (ad g 38) 33 = w5751 := by rw [eI5842, pp_ne _ _ (Or.inl (ly_ne hy (by decide) (by decide) (by decide)))]; exact ew5751
            have e5845 : I5842 (ad g 0) 10 = w5752 := by rw [eI5842, pp_ne _ _ (Or.inl (ly_ne hy (by decide) (by decide) (by decide)))]; exact ew5752
            have e5846 : I5842 (ad g 0) 14 = w5753 := by rw [eI5842, pp_ne _ _ (Or.inl (ly_ne hy (by decide) (by decide) (by decide)))]; exact ew5753
            have e5847 : I5842 (ad g 0) 68 = w5754 := by rw [eI5842, pp_ne _ _ (Or.inl (ly_ne hy (by decide) (by decide) (by decide)))]; exact ew5754
            have e5848 : I5842 (ad g 0) 1 = L := by rw [eI5842, pp_ne _ _ (Or.inl (ly_ne hy (by decide) (by decide) (by decide)))]; exact e5756
            have e5849 : I5842 (ad g 0) 11 = v5758 := by rw [eI5842, pp_ne _ _ (Or.inl (ly_ne hy (by decide) (by decide) (by decide)))]; exact ev5758
            have e5850 : I5842 (ad g 0) 64 = v5827 := by rw [eI5842, pp_ne _ _ (Or.inl (ly_ne hy (by decide) (by decide) (by decide)))]; exact ev5827
            have fr5851 : fs g [56] I I5842 := by rw [eI5842]; exact fs_ppn hy fqI5748 (by decide) (by decide)
            have fr5852 : fz 49 g [0, 35, 36, 37, 40, 41, 38] I I5842 := by rw [eI5842]; exact fzm_pp hy fiI5748 (by decide) (by decide)
            clear eI5842
            refine WP_iinc (ls' := [(0, _), (1, _), (2, _), (3, _), (5, _)]) dX11_dayOf_79 rfl (by decide) rfl ?_
            have hv5853 : (i5747 + Int32.ofInt (1)).toInt = i5747.toInt + (1) := ia_n rfl (by omega) (by omega)
            generalize i5747 + Int32.ofInt (1) = v5853 at hv5853 ⊢
            refine WP_goto 22 dX11_dayOf_82 rfl ?_
            exact WP_sub (fc rfl (fc rfl (fc rfl (fc rfl (fc rfl fn))))) (ihlp22_5754 v5853 I5842 J5749 hI5842 fr5852 fjJ5749 fr5851 w5750 e5843 w5751 e5844 w5752 e5845 w5753 e5846 w5754 e5847 (by omega) (by omega) (by omega) (by omega) (by omega) (by omega) (by omega) (by omega))
          refine WQ_if_ne 60 dX11_dayOf_41 rfl (fun c5853 => ?_) (fun c5853 => ?_)
          · refine WP_ldcw (1000000) dX11_dayOf_60 kX11_460 ?_
            obtain ⟨v5855, hv5855, ev5855⟩ : ∃ v : Int32, v.toInt = 1000000 ∧ ((1000000) : Int32) = v := ⟨(1000000), rfl, rfl⟩
            rw [ev5855]; clear ev5855
            refine WP_goto 78 dX11_dayOf_63 rfl ?_
            exact WP_sub (fc rfl (fc rfl (fc rfl (fc rfl (fc rfl fn))))) (jn78_5840 v5855 (by omega) (by omega))
          · refine WP_aload_n dX11_dayOf_44 rfl ?_
            refine WP_getr dX11_dayOf_45 fX11_259 rfl (ly_is hy 0 11 rfl) (rf hr 0 41 23 (by decide)) ?_
            refine WQ_bipush (7) (7) dX11_dayOf_48 rfl rfl (fun v5856 hv5856 => ?_)
            refine WP_iload dX11_dayOf_50 rfl ?_
            refine WQ_imulK (7) dX11_dayOf_52 hv5856 (by omega) (by omega) (fun v5857 hv5857 => ?_)
            refine WP_iload_n dX11_dayOf_53 rfl ?_
            refine WQ_iadd dX11_dayOf_54 (by omega) (by omega) (fun v5858 hv5858 => ?_)
            refine WQ_ialdb dX11_dayOf_55 (ly_is hy 23 13 rfl) (ly_n hy 23 21 rfl) (by omega) (by omega) (fun q hq => BT_get hI5748.1.1 23 0 21 (-1) (0) (999) (by decide) q (Nat.zero_le _) hq) (fun v5859 av5859 bv5859 zv5859 => ?_)
            refine WQ_iconst (-1) (-1) dX11_dayOf_56 rfl rfl (fun v5860 hv5860 => ?_)
            refine WQ_icmp_ne 66 dX11_dayOf_57 rfl (fun c5860 => ?_) (fun c5860 => ?_)
            · refine WP_aload_n dX11_dayOf_66 rfl ?_
              refine WP_getr dX11_dayOf_67 fX11_259 rfl (ly_is hy 0 11 rfl) (rf hr 0 41 23 (by decide)) ?_
              refine WQ_bipush (7) (7) dX11_dayOf_70 rfl rfl (fun v5862 hv5862 => ?_)
              refine WP_iload dX11_dayOf_72 rfl ?_
              refine WQ_imulK (7) dX11_dayOf_74 hv5862 (by omega) (by omega) (fun v5863 hv5863 => ?_)
              refine WP_iload_n dX11_dayOf_75 rfl ?_
              refine WQ_iadd dX11_dayOf_76 (by omega) (by omega) (fun v5864 hv5864 => ?_)
              refine WQ_ialdb dX11_dayOf_77 (ly_is hy 23 13 rfl) (ly_n hy 23 21 rfl) (by omega) (by omega) (fun q hq => BT_get hI5748.1.1 23 0 21 (-1) (0) (999) (by decide) q (Nat.zero_le _) hq) (fun v5865 av5865 bv5865 zv5865 => ?_)
              have tv5865 : v5865.toInt = v5859.toInt := by rw [← zv5865, ← zv5859, show v5864.toInt.toNat = v5858.toInt.toNat by omega]
              exact WP_sub (fc rfl (fc rfl (fc rfl (fc rfl (fc rfl fn))))) (jn78_5840 v5865 (by omega) (by omega))
            · refine WP_ldcw (1000000) dX11_dayOf_60 kX11_460 ?_
              obtain ⟨v5866, hv5866, ev5866⟩ : ∃ v : Int32, v.toInt = 1000000 ∧ ((1000000) : Int32) = v := ⟨(1000000), rfl, rfl⟩
              rw [ev5866]; clear ev5866
              refine WP_goto 78 dX11_dayOf_63 rfl ?_
              exact WP_sub (fc rfl (fc rfl (fc rfl (fc rfl (fc rfl fn))))) (jn78_5840 v5866 (by omega) (by omega))
    exact WP_sub (fc rfl (fc rfl (fc rfl (fc rfl (fc rfl fn))))) (lp22_5754 _ v5746 I5734 J5735 hI5734 fr5736 fr5738 fr5737 w5745 ew5745 w5606 e5739 w5602 e5740 w5603 e5741 w5604 e5742 (by omega) (by omega) (by omega) (by omega) (by omega) (by omega) (by omega) (Nat.lt_succ_self _))
set_option maxHeartbeats 4000000 in
set_option maxRecDepth 100000 in
theorem sm_nightOfx_39 {g : GG} {n : Int} {L : Int32} (hy : Ly g)  {I : pI} {J : pJ} {R : pR} (hr : Rf g R) (hI : MP g n L I) (k : Int32) (da : Int32) (k_lo : 0 ≤ k.toInt) (k_hi : k.toInt ≤ 3) (da_lo : 0 ≤ da.toInt) (da_hi : da.toInt ≤ 6) (hn : 0 ≤ n ∧ n ≤ 40000) (hb : (I (ad g 39) 32).toInt ≤ 23760 * n + 700000 - 5940) : SP g mX11_nightOf [.ref (ad g 0), .ref (ad g 39), .int k, .int da] I J R (fun r I' J' R' => (MP g n L I' ∧ R' = R ∧ fz 49 g [39] I I' ∧ fz 49 g [] J J' ∧ fs g [] I I' ∧ ((I' (ad g 39) 32).toInt ≤ (I (ad g 39) 32).toInt + 5940) ∧ I' (ad g 39) 33 = I (ad g 39) 33 ∧ I' (ad g 0) 10 = I (ad g 0) 10 ∧ I' (ad g 0) 14 = I (ad g 0) 14 ∧ I' (ad g 0) 68 = I (ad g 0) 68) ∧ r = none) := by
  refine SP_of ⟨by decide, rfl⟩ (Nat.le_of_ble_eq_true rfl) ?_
  have e5867 : I (ad g 0) 1 = L := hI.1.2
  have b5868 := BT_get hI.1.1 0 1 2 (0) (0) (900) (by decide) 1 (by decide) (by decide)
  rw [e5867] at b5868
  have fr0 : fz 49 g [39] I I := fz_rf
  have frj0 : fz 49 g [] J J := fz_rf
  have frq0 : fs g [] I I := fs_rf
  obtain ⟨w5869, ew5869⟩ : ∃ w : Int32, I (ad g 39) 33 = w := ⟨_, rfl⟩
  have bw5869 := BT_get hI.1.1 39 33 34 (0) (1) (30) (by decide) 33 (by decide) (by decide)
  rw [ew5869] at bw5869
  obtain ⟨w5870, ew5870⟩ : ∃ w : Int32, I (ad g 0) 10 = w := ⟨_, rfl⟩
  have bw5870 := BT_get hI.1.1 0 10 11 (0) (0) (4) (by decide) 10 (by decide) (by decide)
  rw [ew5870] at bw5870
  obtain ⟨w5871, ew5871⟩ : ∃ w : Int32, I (ad g 0) 14 = w := ⟨_, rfl⟩
  have bw5871 := BT_get hI.1.1 0 14 15 (-1) (0) (2) (by decide) 14 (by decide) (by decide)
  rw [ew5871] at bw5871
  obtain ⟨w5872, ew5872⟩ : ∃ w : Int32, I (ad g 0) 68 = w := ⟨_, rfl⟩
  obtain ⟨w5873, ew5873⟩ : ∃ w : Int32, I (ad g 39) 32 = w := ⟨_, rfl⟩
  have bw5873 := BT_get hI.1.1 39 32 33 (0) (23760) (700000) (by decide) 32 (by decide) (by decide)
  rw [ew5873] at bw5873
  rw [ew5873] at hb
  refine WP_aload_n dX11_nightOf_0 rfl ?_
  refine WQ_iconst (0) (0) dX11_nightOf_1 rfl rfl (fun v5874 hv5874 => ?_)
  refine WP_iload_n dX11_nightOf_2 rfl ?_
  refine WQ_iadd dX11_nightOf_3 (by omega) (by omega) (fun v5875 hv5875 => ?_)
  refine WQ_ialdr dX11_nightOf_4 (ly_is hy 39 13 rfl) (ly_n hy 39 35 rfl) (by omega) (by omega) (a := 0) (b := 4) (by omega) (by omega) (fun q hq1 hq2 => BT_get hI.1.1 39 0 4 (0) (0) (60) (by decide) q hq1 hq2) (fun v5876 av5876 bv5876 => ?_)
  refine WP_aload_n dX11_nightOf_5 rfl ?_
  refine WP_iload_n dX11_nightOf_6 rfl ?_
  refine WP_callV1 (k := 11) dX11_nightOf_7 ⟨⟨⟨by decide, by decide⟩, zX11_loses⟩, lX11_414, by decide, rfl, vX11_loses.1, vX11_loses.2⟩ (ly_is hy 0 11 rfl) (sm_loses2 hy hr hI da (by omega) (by omega)) (Nat.le_of_ble_eq_true rfl) ?_
  intro r Ia Ja Ra hq
  obtain ⟨⟨ea, eb, ec⟩, v5877, rfl, av5877, bv5877⟩ := hq
  show WP _ _ _ _ (.int _ :: _) _ _ _ _
  rw [ea, eb, ec]
  clear ea eb ec Ia Ja Ra
  refine WP_callS2 dX11_nightOf_10 ⟨⟨⟨by decide, by decide⟩, zX11_stampsOf⟩, lX11_380, tX11_stampsOf⟩ (sm_stampsOf hy hr hI v5876 v5877 (by omega) (by omega) (by omega) (by omega)) (Nat.le_of_ble_eq_true rfl) ?_
  intro r Ia Ja Ra hq
  obtain ⟨⟨ea, eb, ec⟩, v5878, rfl, av5878, bv5878, cv5878⟩ := hq
  show WP _ _ _ _ (.int _ :: _) _ _ _ _
  rw [ea, eb, ec]
  clear ea eb ec Ia Ja Ra
  refine WP_istore (ls' := [(0, _), (1, _), (2, _), (3, _), (4, _)]) dX11_nightOf_13 (by decide) rfl ?_
  refine WP_aload_n dX11_nightOf_15 rfl ?_
  refine WQ_iconst (0) (0) dX11_nightOf_16 rfl rfl (fun v5879 hv5879 => ?_)
  refine WP_iload_n dX11_nightOf_17 rfl ?_
  refine WQ_iadd dX11_nightOf_18 (by omega) (by omega) (fun v5880 hv5880 => ?_)
  refine WP_aload_n dX11_nightOf_19 rfl ?_
  refine WP_aload_n dX11_nightOf_20 rfl ?_
  refine WQ_iconst (0) (0) dX11_nightOf_21 rfl rfl (fun v5881 hv5881 => ?_)
  refine WP_iload_n dX11_nightOf_22 rfl ?_
  refine WQ_iadd dX11_nightOf_23 (by omega) (by omega) (fun v5882 hv5882 => ?_)
  refine WQ_ialdr dX11_nightOf_24 (ly_is hy 39 13 rfl) (ly_n hy 39 35 rfl) (by omega) (by omega) (a := 0) (b := 4) (by omega) (by omega) (fun q hq1 hq2 => BT_get hI.1.1 39 0 4 (0) (0) (60) (by decide) q hq1 hq2) (fun v5883 av5883 bv5883 => ?_)
  refine WP_aload_n dX11_nightOf_25 rfl ?_
  refine WQ_iconst (4) (4) dX11_nightOf_26 rfl rfl (fun v5884 hv5884 => ?_)
  refine WP_iload_n dX11_nightOf_27 rfl ?_
  refine WQ_iadd dX11_nightOf_28 (by omega) (by omega) (fun v5885 hv5885 => ?_)
  refine WQ_ialdr dX11_nightOf_29 (ly_is hy 39 13 rfl) (ly_n hy 39 35 rfl) (by omega) (by omega) (a := 4) (b := 8) (by omega) (by omega) (fun q hq1 hq2 => BT_get hI.1.1 39 4 8 (0) (0) (5) (by decide) q hq1 hq2) (fun v5886 av5886 bv5886 => ?_)
  refine WP_aload_n dX11_nightOf_30 rfl ?_
  refine WP_iload_n dX11_nightOf_31 rfl ?_
  refine WP_callV1 (k := 11) dX11_nightOf_32 ⟨⟨⟨by decide, by decide⟩, zX11_loses⟩, lX11_414, by decide, rfl, vX11_loses.1, vX11_loses.2⟩ (ly_is hy 0 11 rfl) (sm_loses2 hy hr hI da (by omega) (by omega)) (Nat.le_of_ble_eq_true rfl) ?_
  intro r Ia Ja Ra hq
  obtain ⟨⟨ea, eb, ec⟩, v5887, rfl, av5887, bv5887⟩ := hq
  show WP _ _ _ _ (.int _ :: _) _ _ _ _
  rw [ea, eb, ec]
  clear ea eb ec Ia Ja Ra
  refine WP_callV3 (k := 11) dX11_nightOf_35 ⟨⟨⟨by decide, by decide⟩, zX11_behindNight⟩, lX11_398, by decide, rfl, vX11_behindNight.1, vX11_behindNight.2⟩ (ly_is hy 0 11 rfl) (sm_behindNight hy hr hI v5883 v5886 v5887 (by omega) (by omega) (by omega) (by omega) (by omega) (by omega)) (Nat.le_of_ble_eq_true rfl) ?_
  intro r Ia Ja Ra hq
  obtain ⟨⟨ea, eb, ec⟩, v5888, rfl, av5888, bv5888⟩ := hq
  show WP _ _ _ _ (.int _ :: _) _ _ _ _
  rw [ea, eb, ec]
  clear ea eb ec Ia Ja Ra
  refine WQ_iast dX11_nightOf_38 (ly_is hy 39 13 rfl) (ly_n hy 39 35 rfl) (by omega) (by omega) (fun I5889 eI5889 => ?_)
  have hI5889 : MP g n L I5889 := by rw [eI5889]; exact (mp_w hy hI (c := 39) (mi_rr hy hI.1 (c := 39) (0) (3) (0) (0) (60) (by decide) (Or.inl (by decide)) (by rw [cl (n := v5880.toInt.toNat) (by omega)]; omega) (by decide) (fun _ => ⟨by omega, by omega⟩)) (by decide) (by decide) (Or.inl (by decide)))
  have e5890 : I5889 (ad g 0) 1 = L := by rw [eI5889, pp_ne _ _ (Or.inl (ly_ne hy (by decide) (by decide) (by decide)))]; exact e5867
  have e5891 : I5889 (ad g 39) 33 = w5869 := by rw [eI5889, pp_ne _ _ (Or.inr (by rw [cl (x := v5880) (n := v5880.toInt.toNat) (by omega)]; omega))]; exact ew5869
  have e5892 : I5889 (ad g 0) 10 = w5870 := by rw [eI5889, pp_ne _ _ (Or.inl (ly_ne hy (by decide) (by decide) (by decide)))]; exact ew5870
  have e5893 : I5889 (ad g 0) 14 = w5871 := by rw [eI5889, pp_ne _ _ (Or.inl (ly_ne hy (by decide) (by decide) (by decide)))]; exact ew5871
  have e5894 : I5889 (ad g 0) 68 = w5872 := by rw [eI5889, pp_ne _ _ (Or.inl (ly_ne hy (by decide) (by decide) (by decide)))]; exact ew5872
  have e5895 : I5889 (ad g 39) 32 = w5873 := by rw [eI5889, pp_ne _ _ (Or.inr (by rw [cl (x := v5880) (n := v5880.toInt.toNat) (by omega)]; omega))]; exact ew5873
  have fr5896 : fs g [] I I5889 := by rw [eI5889]; exact fs_ppn hy frq0 (by decide) (by decide)
  have fr5897 : fz 49 g [39] I I5889 := by rw [eI5889]; exact fzm_pp hy fr0 (by decide) (by decide)
  clear eI5889
  refine WP_aload_n dX11_nightOf_39 rfl ?_
  refine WQ_bipush (12) (12) dX11_nightOf_40 rfl rfl (fun v5898 hv5898 => ?_)
  refine WP_iload_n dX11_nightOf_42 rfl ?_
  refine WQ_iadd dX11_nightOf_43 (by omega) (by omega) (fun v5899 hv5899 => ?_)
  refine WP_dup2 dX11_nightOf_44 rfl rfl ?_
  refine WQ_ialdu dX11_nightOf_45 (ly_is hy 39 13 rfl) (ly_n hy 39 35 rfl) (by omega) (by omega) (fun v5900 => ?_)
  refine WP_iload dX11_nightOf_46 rfl ?_
  refine WP_aload_n dX11_nightOf_48 rfl ?_
  refine WP_getr dX11_nightOf_49 fX11_235 rfl (ly_is hy 0 11 rfl) (rf hr 0 26 8 (by decide)) ?_
  refine WP_iload_n dX11_nightOf_52 rfl ?_
  refine WQ_iald dX11_nightOf_53 (ly_is hy 8 13 rfl) (ly_n hy 8 4 rfl) (by omega) (by omega) (fun q hq => BT_get hI5889.1.1 8 0 4 (0) (0) (99) (by decide) q (Nat.zero_le _) hq) (fun v5901 av5901 bv5901 ev5901 => ?_)
  clear ev5901
  refine WQ_imulb (999) (99) dX11_nightOf_54 ⟨by omega, by omega⟩ ⟨by omega, by omega⟩ (by decide) (fun v5902 pv5902 av5902 bv5902 cv5902 => ?_)
  refine WQ_iaddu dX11_nightOf_55 (fun v5903 => ?_)
  refine WQ_iast dX11_nightOf_56 (ly_is hy 39 13 rfl) (ly_n hy 39 35 rfl) (by omega) (by omega) (fun I5904 eI5904 => ?_)
  have hI5904 : MP g n L I5904 := by rw [eI5904]; exact (mp_w hy hI5889 (c := 39) (mi_rr hy hI5889.1 (c := 39) (12) (15) (0) (0) (0) (by decide) (Or.inl (by decide)) (by rw [cl (n := v5899.toInt.toNat) (by omega)]; omega) (by decide) (fun h => absurd h (by decide))) (by decide) (by decide) (Or.inl (by decide)))
  have e5905 : I5904 (ad g 0) 1 = L := by rw [eI5904, pp_ne _ _ (Or.inl (ly_ne hy (by decide) (by decide) (by decide)))]; exact e5890
  have e5906 : I5904 (ad g 39) 33 = w5869 := by rw [eI5904, pp_ne _ _ (Or.inr (by rw [cl (x := v5899) (n := v5899.toInt.toNat) (by omega)]; omega))]; exact e5891
  have e5907 : I5904 (ad g 0) 10 = w5870 := by rw [eI5904, pp_ne _ _ (Or.inl (ly_ne hy (by decide) (by decide) (by decide)))]; exact e5892
  have e5908 : I5904 (ad g 0) 14 = w5871 := by rw [eI5904, pp_ne _ _ (Or.inl (ly_ne hy (by decide) (by decide) (by decide)))]; exact e5893
  have e5909 : I5904 (ad g 0) 68 = w5872 := by rw [eI5904, pp_ne _ _ (Or.inl (ly_ne hy (by decide) (by decide) (by decide)))]; exact e5894
  have e5910 : I5904 (ad g 39) 32 = w5873 := by rw [eI5904, pp_ne _ _ (Or.inr (by rw [cl (x := v5899) (n := v5899.toInt.toNat) (by omega)]; omega))]; exact e5895
  have fr5911 : fs g [] I I5904 := by rw [eI5904]; exact fs_ppn hy fr5896 (by decide) (by decide)
  have fr5912 : fz 49 g [39] I I5904 := by rw [eI5904]; exact fzm_pp hy fr5897 (by decide) (by decide)
  clear eI5904
  refine WP_aload_n dX11_nightOf_57 rfl ?_
  refine WQ_bipush (32) (32) dX11_nightOf_58 rfl rfl (fun v5913 hv5913 => ?_)
  refine WP_dup2 dX11_nightOf_60 rfl rfl ?_
  refine WQ_ialdm (z := 32) dX11_nightOf_61 (ly_is hy 39 13 rfl) (ly_n hy 39 35 rfl) hv5913 (by decide) e5910 ?_
  refine WP_iload dX11_nightOf_62 rfl ?_
  refine WP_aload_n dX11_nightOf_64 rfl ?_
  refine WP_getr dX11_nightOf_65 fX11_235 rfl (ly_is hy 0 11 rfl) (rf hr 0 26 8 (by decide)) ?_
  refine WP_iload_n dX11_nightOf_68 rfl ?_
  refine WQ_iald dX11_nightOf_69 (ly_is hy 8 13 rfl) (ly_n hy 8 4 rfl) (by omega) (by omega) (fun q hq => BT_get hI5904.1.1 8 0 4 (0) (0) (99) (by decide) q (Nat.zero_le _) hq) (fun v5915 av5915 bv5915 ev5915 => ?_)
  clear ev5915
  refine WQ_imulb (999) (99) dX11_nightOf_70 ⟨by omega, by omega⟩ ⟨by omega, by omega⟩ (by decide) (fun v5916 pv5916 av5916 bv5916 cv5916 => ?_)
  refine WQ_iadd dX11_nightOf_71 (by omega) (by omega) (fun v5917 hv5917 => ?_)
  refine WQ_iast dX11_nightOf_72 (ly_is hy 39 13 rfl) (ly_n hy 39 35 rfl) (by omega) (by omega) (fun I5918 fI5918 => ?_)
  have eI5918 := fI5918
  rw [cl (x := v5913) (n := 32) (by omega)] at eI5918
  clear fI5918
  have hI5918 : MP g n L I5918 := by rw [eI5918]; exact (mp_w hy hI5904 (c := 39) (mi_f hy hI5904.1 (c := 39) (0) (23760) (700000) (by decide) (Or.inl (by decide)) (by decide) (by omega) (by omega)) (by decide) (by decide) (Or.inl (by decide)))
  have e5919 : I5918 (ad g 0) 1 = L := by rw [eI5918, pp_ne _ _ (Or.inl (ly_ne hy (by decide) (by decide) (by decide)))]; exact e5905
  have e5920 : I5918 (ad g 39) 33 = w5869 := by rw [eI5918, pp_ne _ _ (Or.inr (by decide))]; exact e5906
  have e5921 : I5918 (ad g 0) 10 = w5870 := by rw [eI5918, pp_ne _ _ (Or.inl (ly_ne hy (by decide) (by decide) (by decide)))]; exact e5907
  have e5922 : I5918 (ad g 0) 14 = w5871 := by rw [eI5918, pp_ne _ _ (Or.inl (ly_ne hy (by decide) (by decide) (by decide)))]; exact e5908
  have e5923 : I5918 (ad g 0) 68 = w5872 := by rw [eI5918, pp_ne _ _ (Or.inl (ly_ne hy (by decide) (by decide) (by decide)))]; exact e5909
  have e5924 : I5918 (ad g 39) 32 = v5917 := by rw [eI5918, pp_self]
  have fr5925 : fs g [] I I5918 := by rw [eI5918]; exact fs_ppn hy fr5911 (by decide) (by decide)
  have fr5926 : fz 49 g [39] I I5918 := by rw [eI5918]; exact fzm_pp hy fr5912 (by decide) (by decide)
  clear eI5918
  refine WP_aload_n dX11_nightOf_73 rfl ?_
  refine WP_aload_n dX11_nightOf_74 rfl ?_
  refine WQ_iconst (4) (4) dX11_nightOf_75 rfl rfl (fun v5927 hv5927 => ?_)
  refine WP_iload_n dX11_nightOf_76 rfl ?_
  refine WQ_iadd dX11_nightOf_77 (by omega) (by omega) (fun v5928 hv5928 => ?_)
  refine WQ_ialdr dX11_nightOf_78 (ly_is hy 39 13 rfl) (ly_n hy 39 35 rfl) (by omega) (by omega) (a := 4) (b := 8) (by omega) (by omega) (fun q hq1 hq2 => BT_get hI5918.1.1 39 4 8 (0) (0) (5) (by decide) q hq1 hq2) (fun v5929 av5929 bv5929 => ?_)
  refine WP_callV1 (k := 11) dX11_nightOf_79 ⟨⟨⟨by decide, by decide⟩, zX11_leftOf⟩, lX11_420, by decide, rfl, vX11_leftOf.1, vX11_leftOf.2⟩ (ly_is hy 0 11 rfl) (sm_leftOf hy hr hI5918 v5929 (by omega) (by omega)) (Nat.le_of_ble_eq_true rfl) ?_
  intro r Ia Ja Ra hq
  obtain ⟨⟨ea, eb, ec⟩, v5930, rfl, av5930, bv5930⟩ := hq
  show WP _ _ _ _ (.int _ :: _) _ _ _ _
  rw [ea, eb, ec]
  clear ea eb ec Ia Ja Ra
  refine WP_istore (ls' := [(0, _), (1, _), (2, _), (3, _), (4, _), (5, _)]) dX11_nightOf_82 (by decide) rfl ?_
  refine WP_aload_n dX11_nightOf_84 rfl ?_
  refine WQ_bipush (20) (20) dX11_nightOf_85 rfl rfl (fun v5931 hv5931 => ?_)
  refine WP_iload_n dX11_nightOf_87 rfl ?_
  refine WQ_iadd dX11_nightOf_88 (by omega) (by omega) (fun v5932 hv5932 => ?_)
  refine WP_dup2 dX11_nightOf_89 rfl rfl ?_
  refine WQ_ialdu dX11_nightOf_90 (ly_is hy 39 13 rfl) (ly_n hy 39 35 rfl) (by omega) (by omega) (fun v5933 => ?_)
  refine WP_aload_n dX11_nightOf_91 rfl ?_
  refine WQ_iconst (4) (4) dX11_nightOf_92 rfl rfl (fun v5934 hv5934 => ?_)
  refine WP_iload_n dX11_nightOf_93 rfl ?_
  refine WQ_iadd dX11_nightOf_94 (by omega) (by omega) (fun v5935 hv5935 => ?_)
  refine WQ_ialdr dX11_nightOf_95 (ly_is hy 39 13 rfl) (ly_n hy 39 35 rfl) (by omega) (by omega) (a := 4) (b := 8) (by omega) (by omega) (fun q hq1 hq2 => BT_get hI5918.1.1 39 4 8 (0) (0) (5) (by decide) q hq1 hq2) (fun v5936 av5936 bv5936 => ?_)
  refine WP_iload dX11_nightOf_96 rfl ?_
  refine WQ_isub dX11_nightOf_98 (by omega) (by omega) (fun v5937 hv5937 => ?_)
  refine WP_aload_n dX11_nightOf_99 rfl ?_
  refine WP_getr dX11_nightOf_100 fX11_235 rfl (ly_is hy 0 11 rfl) (rf hr 0 26 8 (by decide)) ?_
  refine WP_iload_n dX11_nightOf_103 rfl ?_
  refine WQ_iald dX11_nightOf_104 (ly_is hy 8 13 rfl) (ly_n hy 8 4 rfl) (by omega) (by omega) (fun q hq => BT_get hI5918.1.1 8 0 4 (0) (0) (99) (by decide) q (Nat.zero_le _) hq) (fun v5938 av5938 bv5938 ev5938 => ?_)
  clear ev5938
  refine WQ_imulu dX11_nightOf_105 (fun v5939 => ?_)
  refine WQ_iaddu dX11_nightOf_106 (fun v5940 => ?_)
  refine WQ_iast dX11_nightOf_107 (ly_is hy 39 13 rfl) (ly_n hy 39 35 rfl) (by omega) (by omega) (fun I5941 eI5941 => ?_)
  have hI5941 : MP g n L I5941 := by rw [eI5941]; exact (mp_w hy hI5918 (c := 39) (mi_rr hy hI5918.1 (c := 39) (20) (23) (0) (0) (0) (by decide) (Or.inl (by decide)) (by rw [cl (n := v5932.toInt.toNat) (by omega)]; omega) (by decide) (fun h => absurd h (by decide))) (by decide) (by decide) (Or.inl (by decide)))
  have e5942 : I5941 (ad g 0) 1 = L := by rw [eI5941, pp_ne _ _ (Or.inl (ly_ne hy (by decide) (by decide) (by decide)))]; exact e5919
  have e5943 : I5941 (ad g 39) 33 = w5869 := by rw [eI5941, pp_ne _ _ (Or.inr (by rw [cl (x := v5932) (n := v5932.toInt.toNat) (by omega)]; omega))]; exact e5920
  have e5944 : I5941 (ad g 0) 10 = w5870 := by rw [eI5941, pp_ne _ _ (Or.inl (ly_ne hy (by decide) (by decide) (by decide)))]; exact e5921
  have e5945 : I5941 (ad g 0) 14 = w5871 := by rw [eI5941, pp_ne _ _ (Or.inl (ly_ne hy (by decide) (by decide) (by decide)))]; exact e5922
  have e5946 : I5941 (ad g 0) 68 = w5872 := by rw [eI5941, pp_ne _ _ (Or.inl (ly_ne hy (by decide) (by decide) (by decide)))]; exact e5923
  have e5947 : I5941 (ad g 39) 32 = v5917 := by rw [eI5941, pp_ne _ _ (Or.inr (by rw [cl (x := v5932) (n := v5932.toInt.toNat) (by omega)]; omega))]; exact e5924
  have fr5948 : fs g [] I I5941 := by rw [eI5941]; exact fs_ppn hy fr5925 (by decide) (by decide)
  have fr5949 : fz 49 g [39] I I5941 := by rw [eI5941]; exact fzm_pp hy fr5926 (by decide) (by decide)
  clear eI5941
  refine WP_aload_n dX11_nightOf_108 rfl ?_
  refine WQ_iconst (4) (4) dX11_nightOf_109 rfl rfl (fun v5950 hv5950 => ?_)
  refine WP_iload_n dX11_nightOf_110 rfl ?_
  refine WQ_iadd dX11_nightOf_111 (by omega) (by omega) (fun v5951 hv5951 => ?_)
  refine WP_iload dX11_nightOf_112 rfl ?_
  refine WQ_iast dX11_nightOf_114 (ly_is hy 39 13 rfl) (ly_n hy 39 35 rfl) (by omega) (by omega) (fun I5952 eI5952 => ?_)
  have hI5952 : MP g n L I5952 := by rw [eI5952]; exact (mp_w hy hI5941 (c := 39) (mi_rr hy hI5941.1 (c := 39) (4) (7) (0) (0) (5) (by decide) (Or.inl (by decide)) (by rw [cl (n := v5951.toInt.toNat) (by omega)]; omega) (by decide) (fun _ => ⟨by omega, by omega⟩)) (by decide) (by decide) (Or.inl (by decide)))
  have e5953 : I5952 (ad g 0) 1 = L := by rw [eI5952, pp_ne _ _ (Or.inl (ly_ne hy (by decide) (by decide) (by decide)))]; exact e5942
  have e5954 : I5952 (ad g 39) 33 = w5869 := by rw [eI5952, pp_ne _ _ (Or.inr (by rw [cl (x := v5951) (n := v5951.toInt.toNat) (by omega)]; omega))]; exact e5943
  have e5955 : I5952 (ad g 0) 10 = w5870 := by rw [eI5952, pp_ne _ _ (Or.inl (ly_ne hy (by decide) (by decide) (by decide)))]; exact e5944
  have e5956 : I5952 (ad g 0) 14 = w5871 := by rw [eI5952, pp_ne _ _ (Or.inl (ly_ne hy (by decide) (by decide) (by decide)))]; exact e5945
  have e5957 : I5952 (ad g 0) 68 = w5872 := by rw [eI5952, pp_ne _ _ (Or.inl (ly_ne hy (by decide) (by decide) (by decide)))]; exact e5946
  have e5958 : I5952 (ad g 39) 32 = v5917 := by rw [eI5952, pp_ne _ _ (Or.inr (by rw [cl (x := v5951) (n := v5951.toInt.toNat) (by omega)]; omega))]; exact e5947
  have fr5959 : fs g [] I I5952 := by rw [eI5952]; exact fs_ppn hy fr5948 (by decide) (by decide)
  have fr5960 : fz 49 g [39] I I5952 := by rw [eI5952]; exact fzm_pp hy fr5949 (by decide) (by decide)
  clear eI5952
  exact WP_vret dX11_nightOf_115 rfl ⟨⟨hI5952, rfl, fr5960, frj0, fr5959, ⟨(by rw [e5958, ew5873]; omega), (by rw [e5954, ew5869] <;> exact (eq32 _ _).mpr (by omega)), (by rw [e5955, ew5870] <;> exact (eq32 _ _).mpr (by omega)), (by rw [e5956, ew5871] <;> exact (eq32 _ _).mpr (by omega)), (by rw [e5957, ew5872] <;> exact (eq32 _ _).mpr (by omega))⟩⟩, rfl⟩
set_option maxHeartbeats 4000000 in
set_option maxRecDepth 100000 in
theorem sm_openChestx_39 {g : GG} {n : Int} {L : Int32} (hy : Ly g)  {I : pI} {J : pJ} {R : pR} (hr : Rf g R) (hI : MP g n L I)   (hn : 0 ≤ n ∧ n ≤ 40000) (hb : 0 ≤ (I (ad g 39) 32).toInt) : SP g mX11_openChest [.ref (ad g 0), .ref (ad g 39)] I J R (fun r I' J' R' => (MP g n L I' ∧ R' = R ∧ fz 49 g [39] I I' ∧ fz 49 g [] J J' ∧ fs g [] I I' ∧ ((I' (ad g 39) 32).toInt ≤ (I (ad g 39) 32).toInt) ∧ I' (ad g 39) 33 = I (ad g 39) 33 ∧ I' (ad g 0) 10 = I (ad g 0) 10 ∧ I' (ad g 0) 14 = I (ad g 0) 14 ∧ I' (ad g 0) 68 = I (ad g 0) 68) ∧ r = none) := by
  refine SP_of ⟨by decide, rfl⟩ (Nat.le_of_ble_eq_true rfl) ?_
  have e5961 : I (ad g 0) 1 = L := hI.1.2
  have b5962 := BT_get hI.1.1 0 1 2 (0) (0) (900) (by decide) 1 (by decide) (by decide)
  rw [e5961] at b5962
  have fr0 : fz 49 g [39] I I := fz_rf
  have frj0 : fz 49 g [] J J := fz_rf
  have frq0 : fs g [] I I := fs_rf
  obtain ⟨w5963, ew5963⟩ : ∃ w : Int32, I (ad g 39) 33 = w := ⟨_, rfl⟩
  have bw5963 := BT_get hI.1.1 39 33 34 (0) (1) (30) (by decide) 33 (by decide) (by decide)
  rw [ew5963] at bw5963
  obtain ⟨w5964, ew5964⟩ : ∃ w : Int32, I (ad g 0) 10 = w := ⟨_, rfl⟩
  have bw5964 := BT_get hI.1.1 0 10 11 (0) (0) (4) (by decide) 10 (by decide) (by decide)
  rw [ew5964] at bw5964
  obtain ⟨w5965, ew5965⟩ : ∃ w : Int32, I (ad g 0) 14 = w := ⟨_, rfl⟩
  have bw5965 := BT_get hI.1.1 0 14 15 (-1) (0) (2) (by decide) 14 (by decide) (by decide)
  rw [ew5965] at bw5965
  obtain ⟨w5966, ew5966⟩ : ∃ w : Int32, I (ad g 0) 68 = w := ⟨_, rfl⟩
  obtain ⟨w5967, ew5967⟩ : ∃ w : Int32, I (ad g 39) 32 = w := ⟨_, rfl⟩
  have bw5967 := BT_get hI.1.1 39 32 33 (0) (23760) (700000) (by decide) 32 (by decide) (by decide)
  rw [ew5967] at bw5967
  rw [ew5967] at hb
  refine WP_aload_n dX11_openChest_0 rfl ?_
  refine WQ_geti dX11_openChest_1 fX11_221 rfl (ly_is hy 0 11 rfl) (BT_get hI.1.1 0 13 14 (-1) (0) (3) (by decide) 13 (by decide) (by decide)) (fun v5968 ev5968 av5968 bv5968 => ?_)
  refine WQ_iconst (-1) (-1) dX11_openChest_4 rfl rfl (fun v5969 hv5969 => ?_)
  refine WQ_icmp_ne 9 dX11_openChest_5 rfl (fun c5969 => ?_) (fun c5969 => ?_)
  · have kc := pc_lt hI
    rw [ev5968, ew5964] at kc
    refine WP_aload_n dX11_openChest_9 rfl ?_
    refine WQ_bipush (32) (32) dX11_openChest_10 rfl rfl (fun v5971 hv5971 => ?_)
    refine WQ_ialdm (z := 32) dX11_openChest_12 (ly_is hy 39 13 rfl) (ly_n hy 39 35 rfl) hv5971 (by decide) ew5967 ?_
    refine WP_aload_n dX11_openChest_13 rfl ?_
    refine WP_getr dX11_openChest_14 fX11_235 rfl (ly_is hy 0 11 rfl) (rf hr 0 26 8 (by decide)) ?_
    refine WP_aload_n dX11_openChest_17 rfl ?_
    refine WQ_getim dX11_openChest_18 fX11_221 rfl (ly_is hy 0 11 rfl) ev5968 ?_
    refine WQ_ialdq (q := v5968.toInt.toNat) dX11_openChest_21 (ly_is hy 8 13 rfl) (ly_n hy 8 4 rfl) (by omega) (by omega) (by omega) (pp_get hI (by omega) (by rw [ew5964]; omega)) (fun v5973 av5973 bv5973 ev5973 => ?_)
    refine WQ_idivb dX11_openChest_22 (by omega) (by omega) (fun v5974 pv5974 av5974 bv5974 cv5974 => ?_)
    refine WP_istore_n (ls' := [(0, _), (1, _), (2, _)]) dX11_openChest_23 (by decide) rfl ?_
    refine WP_aload_n dX11_openChest_24 rfl ?_
    refine WQ_bipush (32) (32) dX11_openChest_25 rfl rfl (fun v5975 hv5975 => ?_)
    refine WP_dup2 dX11_openChest_27 rfl rfl ?_
    refine WQ_ialdm (z := 32) dX11_openChest_28 (ly_is hy 39 13 rfl) (ly_n hy 39 35 rfl) hv5975 (by decide) ew5967 ?_
    refine WP_iload_n dX11_openChest_29 rfl ?_
    refine WP_aload_n dX11_openChest_30 rfl ?_
    refine WP_getr dX11_openChest_31 fX11_235 rfl (ly_is hy 0 11 rfl) (rf hr 0 26 8 (by decide)) ?_
    refine WP_aload_n dX11_openChest_34 rfl ?_
    refine WQ_getim dX11_openChest_35 fX11_221 rfl (ly_is hy 0 11 rfl) ev5968 ?_
    refine WQ_ialde dX11_openChest_38 (ly_is hy 8 13 rfl) (ly_n hy 8 4 rfl) (by omega) (by omega) ev5973 ?_
    have knv5978 : 0 ≤ v5974.toInt * v5973.toInt := Int.mul_nonneg (by omega) (by omega)
    refine WQ_imulx dX11_openChest_39 (by omega) (by omega) (fun v5978 pv5978 => ?_)
    refine WQ_isub dX11_openChest_40 (by omega) (by omega) (fun v5979 hv5979 => ?_)
    refine WQ_iast dX11_openChest_41 (ly_is hy 39 13 rfl) (ly_n hy 39 35 rfl) (by omega) (by omega) (fun I5980 fI5980 => ?_)
    have eI5980 := fI5980
    rw [cl (x := v5975) (n := 32) (by omega)] at eI5980
    clear fI5980
    have hI5980 : MP g n L I5980 := by rw [eI5980]; exact (mp_w hy hI (c := 39) (mi_f hy hI.1 (c := 39) (0) (23760) (700000) (by decide) (Or.inl (by decide)) (by decide) (by omega) (by omega)) (by decide) (by decide) (Or.inl (by decide)))
    have e5981 : I5980 (ad g 0) 1 = L := by rw [eI5980, pp_ne _ _ (Or.inl (ly_ne hy (by decide) (by decide) (by decide)))]; exact e5961
    have e5982 : I5980 (ad g 39) 33 = w5963 := by rw [eI5980, pp_ne _ _ (Or.inr (by decide))]; exact ew5963
    have e5983 : I5980 (ad g 0) 10 = w5964 := by rw [eI5980, pp_ne _ _ (Or.inl (ly_ne hy (by decide) (by decide) (by decide)))]; exact ew5964
    have e5984 : I5980 (ad g 0) 14 = w5965 := by rw [eI5980, pp_ne _ _ (Or.inl (ly_ne hy (by decide) (by decide) (by decide)))]; exact ew5965
    have e5985 : I5980 (ad g 0) 68 = w5966 := by rw [eI5980, pp_ne _ _ (Or.inl (ly_ne hy (by decide) (by decide) (by decide)))]; exact ew5966
    have e5986 : I5980 (ad g 0) 13 = v5968 := by rw [eI5980, pp_ne _ _ (Or.inl (ly_ne hy (by decide) (by decide) (by decide)))]; exact ev5968
    have e5987 : I5980 (ad g 8) v5968.toNatClampNeg = v5973 := by rw [eI5980, pp_ne _ _ (Or.inl (ly_ne hy (by decide) (by decide) (by decide)))]; exact ev5973
    have e5988 : I5980 (ad g 39) 32 = v5979 := by rw [eI5980, pp_self]
    have fr5989 : fs g [] I I5980 := by rw [eI5980]; exact fs_ppn hy frq0 (by decide) (by decide)
    have fr5990 : fz 49 g [39] I I5980 := by rw [eI5980]; exact fzm_pp hy fr0 (by decide) (by decide)
    clear eI5980
    refine WP_aload_n dX11_openChest_42 rfl ?_
    refine WQ_bipush (24) (24) dX11_openChest_43 rfl rfl (fun v5991 hv5991 => ?_)
    refine WP_aload_n dX11_openChest_45 rfl ?_
    refine WQ_getim dX11_openChest_46 fX11_221 rfl (ly_is hy 0 11 rfl) e5986 ?_
    refine WQ_iadd dX11_openChest_49 (by omega) (by omega) (fun v5992 hv5992 => ?_)
    refine WP_dup2 dX11_openChest_50 rfl rfl ?_
    refine WQ_ialdu dX11_openChest_51 (ly_is hy 39 13 rfl) (ly_n hy 39 35 rfl) (by omega) (by omega) (fun v5993 => ?_)
    refine WP_iload_n dX11_openChest_52 rfl ?_
    refine WP_aload_n dX11_openChest_53 rfl ?_
    refine WP_getr dX11_openChest_54 fX11_235 rfl (ly_is hy 0 11 rfl) (rf hr 0 26 8 (by decide)) ?_
    refine WP_aload_n dX11_openChest_57 rfl ?_
    refine WQ_getim dX11_openChest_58 fX11_221 rfl (ly_is hy 0 11 rfl) e5986 ?_
    refine WQ_ialde dX11_openChest_61 (ly_is hy 8 13 rfl) (ly_n hy 8 4 rfl) (by omega) (by omega) e5987 ?_
    have knv5995 : 0 ≤ v5974.toInt * v5973.toInt := Int.mul_nonneg (by omega) (by omega)
    refine WQ_imulx dX11_openChest_62 (by omega) (by omega) (fun v5995 pv5995 => ?_)
    refine WQ_iaddu dX11_openChest_63 (fun v5996 => ?_)
    refine WQ_iast dX11_openChest_64 (ly_is hy 39 13 rfl) (ly_n hy 39 35 rfl) (by omega) (by omega) (fun I5997 eI5997 => ?_)
    have hI5997 : MP g n L I5997 := by rw [eI5997]; exact (mp_w hy hI5980 (c := 39) (mi_rr hy hI5980.1 (c := 39) (24) (27) (0) (0) (0) (by decide) (Or.inl (by decide)) (by rw [cl (n := v5992.toInt.toNat) (by omega)]; omega) (by decide) (fun h => absurd h (by decide))) (by decide) (by decide) (Or.inl (by decide)))
    have e5998 : I5997 (ad g 0) 1 = L := by rw [eI5997, pp_ne _ _ (Or.inl (ly_ne hy (by decide) (by decide) (by decide)))]; exact e5981
    have e5999 : I5997 (ad g 39) 33 = w5963 := by rw [eI5997, pp_ne _ _ (Or.inr (by rw [cl (x := v5992) (n := v5992.toInt.toNat) (by omega)]; omega))]; exact e5982
    have e6000 : I5997 (ad g 0) 10 = w5964 := by rw [eI5997, pp_ne _ _ (Or.inl (ly_ne hy (by decide) (by decide) (by decide)))]; exact e5983
    have e6001 : I5997 (ad g 0) 14 = w5965 := by rw [eI5997, pp_ne _ _ (Or.inl (ly_ne hy (by decide) (by decide) (by decide)))]; exact e5984
    have e6002 : I5997 (ad g 0) 68 = w5966 := by rw [eI5997, pp_ne _ _ (Or.inl (ly_ne hy (by decide) (by decide) (by decide)))]; exact e5985
    have e6003 : I5997 (ad g 0) 13 = v5968 := by rw [eI5997, pp_ne _ _ (Or.inl (ly_ne hy (by decide) (by decide) (by decide)))]; exact e5986
    have e6004 : I5997 (ad g 8) v5968.toNatClampNeg = v5973 := by rw [eI5997, pp_ne _ _ (Or.inl (ly_ne hy (by decide) (by decide) (by decide)))]; exact e5987
    have e6005 : I5997 (ad g 39) 32 = v5979 := by rw [eI5997, pp_ne _ _ (Or.inr (by rw [cl (x := v5992) (n := v5992.toInt.toNat) (by omega)]; omega))]; exact e5988
    have fr6006 : fs g [] I I5997 := by rw [eI5997]; exact fs_ppn hy fr5989 (by decide) (by decide)
    have fr6007 : fz 49 g [39] I I5997 := by rw [eI5997]; exact fzm_pp hy fr5990 (by decide) (by decide)
    clear eI5997
    refine WP_aload_n dX11_openChest_65 rfl ?_
    refine WQ_iconst (0) (0) dX11_openChest_66 rfl rfl (fun v6008 hv6008 => ?_)
    refine WP_aload_n dX11_openChest_67 rfl ?_
    refine WQ_getim dX11_openChest_68 fX11_221 rfl (ly_is hy 0 11 rfl) e6003 ?_
    refine WQ_iadd dX11_openChest_71 (by omega) (by omega) (fun v6009 hv6009 => ?_)
    refine WQ_bipush (60) (60) dX11_openChest_72 rfl rfl (fun v6010 hv6010 => ?_)
    refine WP_aload_n dX11_openChest_74 rfl ?_
    refine WQ_iconst (0) (0) dX11_openChest_75 rfl rfl (fun v6011 hv6011 => ?_)
    refine WP_aload_n dX11_openChest_76 rfl ?_
    refine WQ_getim dX11_openChest_77 fX11_221 rfl (ly_is hy 0 11 rfl) e6003 ?_
    refine WQ_iadd dX11_openChest_80 (by omega) (by omega) (fun v6012 hv6012 => ?_)
    refine WQ_ialdr dX11_openChest_81 (ly_is hy 39 13 rfl) (ly_n hy 39 35 rfl) (by omega) (by omega) (a := 0) (b := 4) (by omega) (by omega) (fun q hq1 hq2 => BT_get hI5997.1.1 39 0 4 (0) (0) (60) (by decide) q hq1 hq2) (fun v6013 av6013 bv6013 => ?_)
    refine WP_iload_n dX11_openChest_82 rfl ?_
    refine WQ_iadd dX11_openChest_83 (by omega) (by omega) (fun v6014 hv6014 => ?_)
    refine WQ_min dX11_openChest_84 lX11_417 ⟨by decide, Nat.le_of_ble_eq_true rfl⟩ (fun v6015 av6015 bv6015 cv6015 => ?_)
    refine WQ_iast dX11_openChest_87 (ly_is hy 39 13 rfl) (ly_n hy 39 35 rfl) (by omega) (by omega) (fun I6016 eI6016 => ?_)
    have hI6016 : MP g n L I6016 := by rw [eI6016]; exact (mp_w hy hI5997 (c := 39) (mi_rr hy hI5997.1 (c := 39) (0) (3) (0) (0) (60) (by decide) (Or.inl (by decide)) (by rw [cl (n := v6009.toInt.toNat) (by omega)]; omega) (by decide) (fun _ => ⟨by omega, by omega⟩)) (by decide) (by decide) (Or.inl (by decide)))
    have e6017 : I6016 (ad g 0) 1 = L := by rw [eI6016, pp_ne _ _ (Or.inl (ly_ne hy (by decide) (by decide) (by decide)))]; exact e5998
    have e6018 : I6016 (ad g 39) 33 = w5963 := by rw [eI6016, pp_ne _ _ (Or.inr (by rw [cl (x := v6009) (n := v6009.toInt.toNat) (by omega)]; omega))]; exact e5999
    have e6019 : I6016 (ad g 0) 10 = w5964 := by rw [eI6016, pp_ne _ _ (Or.inl (ly_ne hy (by decide) (by decide) (by decide)))]; exact e6000
    have e6020 : I6016 (ad g 0) 14 = w5965 := by rw [eI6016, pp_ne _ _ (Or.inl (ly_ne hy (by decide) (by decide) (by decide)))]; exact e6001
    have e6021 : I6016 (ad g 0) 68 = w5966 := by rw [eI6016, pp_ne _ _ (Or.inl (ly_ne hy (by decide) (by decide) (by decide)))]; exact e6002
    have e6022 : I6016 (ad g 0) 13 = v5968 := by rw [eI6016, pp_ne _ _ (Or.inl (ly_ne hy (by decide) (by decide) (by decide)))]; exact e6003
    have e6023 : I6016 (ad g 8) v5968.toNatClampNeg = v5973 := by rw [eI6016, pp_ne _ _ (Or.inl (ly_ne hy (by decide) (by decide) (by decide)))]; exact e6004
    have e6024 : I6016 (ad g 39) 32 = v5979 := by rw [eI6016, pp_ne _ _ (Or.inr (by rw [cl (x := v6009) (n := v6009.toInt.toNat) (by omega)]; omega))]; exact e6005
    have fr6025 : fs g [] I I6016 := by rw [eI6016]; exact fs_ppn hy fr6006 (by decide) (by decide)
    have fr6026 : fz 49 g [39] I I6016 := by rw [eI6016]; exact fzm_pp hy fr6007 (by decide) (by decide)
    clear eI6016
    exact WP_vret dX11_openChest_88 rfl ⟨⟨hI6016, rfl, fr6026, frj0, fr6025, ⟨(by rw [e6024, ew5967]; omega), (by rw [e6018, ew5963] <;> exact (eq32 _ _).mpr (by omega)), (by rw [e6019, ew5964] <;> exact (eq32 _ _).mpr (by omega)), (by rw [e6020, ew5965] <;> exact (eq32 _ _).mpr (by omega)), (by rw [e6021, ew5966] <;> exact (eq32 _ _).mpr (by omega))⟩⟩, rfl⟩
  · exact WP_vret dX11_openChest_8 rfl ⟨⟨hI, rfl, fr0, frj0, frq0, ⟨(by omega), rfl, rfl, rfl, rfl⟩⟩, rfl⟩
set_option maxHeartbeats 4000000 in
set_option maxRecDepth 100000 in
theorem sm_dayOf_39 {g : GG} {n : Int} {L : Int32} (hy : Ly g)  {I : pI} {J : pJ} {R : pR} (hr : Rf g R) (hI : MP g n L I)   (hn : 0 ≤ n ∧ n ≤ 40000) (hb : (I (ad g 39) 32).toInt ≤ 23760 * n + 700000 - 23760 ∧ (I (ad g 39) 33).toInt ≤ n + 30 - 1) : SP g mX11_dayOf [.ref (ad g 0), .ref (ad g 39)] I J R (fun r I' J' R' => (MP g n L I' ∧ R' = R ∧ fz 49 g [0, 35, 36, 37, 40, 41, 39] I I' ∧ fz 49 g [] J J' ∧ fs g [56] I I' ∧ ((I' (ad g 39) 32).toInt ≤ (I (ad g 39) 32).toInt + 23760 ∧ (I' (ad g 39) 33).toInt = (I (ad g 39) 33).toInt + 1) ∧ I' (ad g 0) 10 = I (ad g 0) 10 ∧ I' (ad g 0) 14 = I (ad g 0) 14 ∧ I' (ad g 0) 68 = I (ad g 0) 68) ∧ ∃ v : Int64, r = some (.long v)) := by
  refine SP_of ⟨by decide, rfl⟩ (Nat.le_of_ble_eq_true rfl) ?_
  have e6027 : I (ad g 0) 1 = L := hI.1.2
  have b6028 := BT_get hI.1.1 0 1 2 (0) (0) (900) (by decide) 1 (by decide) (by decide)
  rw [e6027] at b6028
  have fr0 : fz 49 g [0, 35, 36, 37, 40, 41, 39] I I := fz_rf
  have frj0 : fz 49 g [] J J := fz_rf
  have frq0 : fs g [56] I I := fs_rf
  obtain ⟨w6029, ew6029⟩ : ∃ w : Int32, I (ad g 0) 10 = w := ⟨_, rfl⟩
  have bw6029 := BT_get hI.1.1 0 10 11 (0) (0) (4) (by decide) 10 (by decide) (by decide)
  rw [ew6029] at bw6029
  obtain ⟨w6030, ew6030⟩ : ∃ w : Int32, I (ad g 0) 14 = w := ⟨_, rfl⟩
  have bw6030 := BT_get hI.1.1 0 14 15 (-1) (0) (2) (by decide) 14 (by decide) (by decide)
  rw [ew6030] at bw6030
  obtain ⟨w6031, ew6031⟩ : ∃ w : Int32, I (ad g 0) 68 = w := ⟨_, rfl⟩
  obtain ⟨w6032, ew6032⟩ : ∃ w : Int32, I (ad g 39) 32 = w := ⟨_, rfl⟩
  have bw6032 := BT_get hI.1.1 39 32 33 (0) (23760) (700000) (by decide) 32 (by decide) (by decide)
  rw [ew6032] at bw6032
  obtain ⟨w6033, ew6033⟩ : ∃ w : Int32, I (ad g 39) 33 = w := ⟨_, rfl⟩
  have bw6033 := BT_get hI.1.1 39 33 34 (0) (1) (30) (by decide) 33 (by decide) (by decide)
  rw [ew6033] at bw6033
  rw [ew6032, ew6033] at hb
  refine WP_aload_n dX11_dayOf_0 rfl ?_
  refine WQ_bipush (33) (33) dX11_dayOf_1 rfl rfl (fun v6034 hv6034 => ?_)
  refine WQ_ialdm (z := 33) dX11_dayOf_3 (ly_is hy 39 13 rfl) (ly_n hy 39 35 rfl) hv6034 (by decide) ew6033 ?_
  refine WQ_bipush (7) (7) dX11_dayOf_4 rfl rfl (fun v6036 hv6036 => ?_)
  refine WQ_iremk (7) dX11_dayOf_6 hv6036 (by decide) (by omega) (fun v6037 hv6037 => ?_)
  refine WP_istore_n (ls' := [(0, _), (1, _), (2, _)]) dX11_dayOf_7 (by decide) rfl ?_
  refine WP_lconst (0) dX11_dayOf_8 rfl ?_
  obtain ⟨l6038, hl6038, el6038⟩ : ∃ v : Int64, v.toInt = 0 ∧ (0 : Int64) = v := ⟨_, rfl, rfl⟩
  rw [el6038]; clear el6038
  refine WP_lstore_n (ls' := [(0, _), (1, _), (2, _), (3, _)]) dX11_dayOf_9 (by decide) rfl ?_
  refine WP_iload_n dX11_dayOf_10 rfl ?_
  refine WQ_if_ne 19 dX11_dayOf_11 rfl (fun c6038 => ?_) (fun c6038 => ?_)
  · refine WQ_iconst (0) (0) dX11_dayOf_19 rfl rfl (fun v6040 hv6040 => ?_)
    refine WP_istore (ls' := [(0, _), (1, _), (2, _), (3, _), (5, _)]) dX11_dayOf_20 (by decide) rfl ?_
    have lp22_6048 : ∀ (mz : Nat) (i6041 : Int32) (I6042 : pI) (J6043 : pJ), MP g n L I6042 → fz 49 g [0, 35, 36, 37, 40, 41, 39] I I6042 → fz 49 g [] J J6043 → fs g [56] I I6042 → ∀ (w6044 : Int32), I6042 (ad g 39) 32 = w6044 → ∀ (w6045 : Int32), I6042 (ad g 39) 33 = w6045 → ∀ (w6046 : Int32), I6042 (ad g 0) 10 = w6046 → ∀ (w6047 : Int32), I6042 (ad g 0) 14 = w6047 → ∀ (w6048 : Int32), I6042 (ad g 0) 68 = w6048 → 0 ≤ i6041.toInt → i6041.toInt ≤ 3 → w6045.toInt = w6033.toInt → w6046.toInt = w6029.toInt → w6047.toInt = w6030.toInt → w6048.toInt = w6031.toInt → w6044.toInt ≤ w6032.toInt → (4 - i6041.toInt).toNat < mz → WP g mX11_dayOf 22 [(0, .ref (ad g 0)), (1, .ref (ad g 39)), (2, .int v6037), (3, .long l6038), (5, .int i6041)] [] I6042 J6043 R (fun r I' J' R' => (MP g n L I' ∧ R' = R ∧ fz 49 g [0, 35, 36, 37, 40, 41, 39] I I' ∧ fz 49 g [] J J' ∧ fs g [56] I I' ∧ ((I' (ad g 39) 32).toInt ≤ (I (ad g 39) 32).toInt + 23760 ∧ (I' (ad g 39) 33).toInt = (I (ad g 39) 33).toInt + 1) ∧ I' (ad g 0) 10 = I (ad g 0) 10 ∧ I' (ad g 0) 14 = I (ad g 0) 14 ∧ I' (ad g 0) 68 = I (ad g 0) 68) ∧ ∃ v : Int64, r = some (.long v)) := by
      intro mz
      induction mz with
      | zero =>
        intro i6041 I6042 J6043 hI6042 fiI6042 fjJ6043 fqI6042 w6044 ew6044 w6045 ew6045 w6046 ew6046 w6047 ew6047 w6048 ew6048 ai6041 bi6041 j0_I6042 j1_I6042 j2_I6042 j3_I6042 j4_I6042 hmlp22_6048
        exact absurd hmlp22_6048 (Nat.not_lt_zero _)
      | succ mz ihlp22_6048 =>
        intro i6041 I6042 J6043 hI6042 fiI6042 fjJ6043 fqI6042 w6044 ew6044 w6045 ew6045 w6046 ew6046 w6047 ew6047 w6048 ew6048 ai6041 bi6041 j0_I6042 j1_I6042 j2_I6042 j3_I6042 j4_I6042 hmlp22_6048
        have bw6044 := BT_get hI6042.1.1 39 32 33 (0) (23760) (700000) (by decide) 32 (by decide) (by decide)
        rw [ew6044] at bw6044
        have bw6045 := BT_get hI6042.1.1 39 33 34 (0) (1) (30) (by decide) 33 (by decide) (by decide)
        rw [ew6045] at bw6045
        have bw6046 := BT_get hI6042.1.1 0 10 11 (0) (0) (4) (by decide) 10 (by decide) (by decide)
        rw [ew6046] at bw6046
        have bw6047 := BT_get hI6042.1.1 0 14 15 (-1) (0) (2) (by decide) 14 (by decide) (by decide)
        rw [ew6047] at bw6047
        have e6050 : I6042 (ad g 0) 1 = L := hI6042.1.2
        have b6051 := BT_get hI6042.1.1 0 1 2 (0) (0) (900) (by decide) 1 (by decide) (by decide)
        rw [e6050] at b6051
        refine WP_iload dX11_dayOf_22 rfl ?_
        refine WP_aload_n dX11_dayOf_24 rfl ?_
        refine WQ_geti dX11_dayOf_25 fX11_332 rfl (ly_is hy 0 11 rfl) (BT_get hI6042.1.1 0 11 12 (0) (0) (3) (by decide) 11 (by decide) (by decide)) (fun v6052 ev6052 av6052 bv6052 => ?_)
        refine WQ_icmp_ge 85 dX11_dayOf_28 rfl (fun c6052 => ?_) (fun c6052 => ?_)
        · refine WQ_iconst (0) (0) dX11_dayOf_85 rfl rfl (fun v6054 hv6054 => ?_)
          refine WP_istore (ls' := [(0, _), (1, _), (2, _), (3, _), (5, _)]) dX11_dayOf_86 (by decide) rfl ?_
          have lp88_6063 : ∀ (mz : Nat) (l6055 : Int64) (i6056 : Int32) (I6057 : pI) (J6058 : pJ), MP g n L I6057 → fz 49 g [0, 35, 36, 37, 40, 41, 39] I I6057 → fz 49 g [] J J6058 → fs g [56] I I6057 → ∀ (w6059 : Int32), I6057 (ad g 39) 32 = w6059 → ∀ (w6060 : Int32), I6057 (ad g 39) 33 = w6060 → ∀ (w6061 : Int32), I6057 (ad g 0) 10 = w6061 → ∀ (w6062 : Int32), I6057 (ad g 0) 14 = w6062 → ∀ (w6063 : Int32), I6057 (ad g 0) 68 = w6063 → 0 ≤ i6056.toInt → i6056.toInt ≤ 4 → w6060.toInt = w6033.toInt → w6061.toInt = w6029.toInt → w6062.toInt = w6030.toInt → w6063.toInt = w6031.toInt → w6059.toInt ≤ w6032.toInt → (5 - i6056.toInt).toNat < mz → WP g mX11_dayOf 88 [(0, .ref (ad g 0)), (1, .ref (ad g 39)), (2, .int v6037), (3, .long l6055), (5, .int i6056)] [] I6057 J6058 R (fun r I' J' R' => (MP g n L I' ∧ R' = R ∧ fz 49 g [0, 35, 36, 37, 40, 41, 39] I I' ∧ fz 49 g [] J J' ∧ fs g [56] I I' ∧ ((I' (ad g 39) 32).toInt ≤ (I (ad g 39) 32).toInt + 23760 ∧ (I' (ad g 39) 33).toInt = (I (ad g 39) 33).toInt + 1) ∧ I' (ad g 0) 10 = I (ad g 0) 10 ∧ I' (ad g 0) 14 = I (ad g 0) 14 ∧ I' (ad g 0) 68 = I (ad g 0) 68) ∧ ∃ v : Int64, r = some (.long v)) := by
            intro mz
            induction mz with
            | zero =>
              intro l6055 i6056 I6057 J6058 hI6057 fiI6057 fjJ6058 fqI6057 w6059 ew6059 w6060 ew6060 w6061 ew6061 w6062 ew6062 w6063 ew6063 ai6056 bi6056 j0_I6057 j1_I6057 j2_I6057 j3_I6057 j4_I6057 hmlp88_6063
              exact absurd hmlp88_6063 (Nat.not_lt_zero _)
            | succ mz ihlp88_6063 =>
              intro l6055 i6056 I6057 J6058 hI6057 fiI6057 fjJ6058 fqI6057 w6059 ew6059 w6060 ew6060 w6061 ew6061 w6062 ew6062 w6063 ew6063 ai6056 bi6056 j0_I6057 j1_I6057 j2_I6057 j3_I6057 j4_I6057 hmlp88_6063
              have bw6059 := BT_get hI6057.1.1 39 32 33 (0) (23760) (700000) (by decide) 32 (by decide) (by decide)
              rw [ew6059] at bw6059
              have bw6060 := BT_get hI6057.1.1 39 33 34 (0) (1) (30) (by decide) 33 (by decide) (by decide)
              rw [ew6060] at bw6060
              have bw6061 := BT_get hI6057.1.1 0 10 11 (0) (0) (4) (by decide) 10 (by decide) (by decide)
              rw [ew6061] at bw6061
              have bw6062 := BT_get hI6057.1.1 0 14 15 (-1) (0) (2) (by decide) 14 (by decide) (by decide)
              rw [ew6062] at bw6062
              have e6065 : I6057 (ad g 0) 1 = L := hI6057.1.2
              have b6066 := BT_get hI6057.1.1 0 1 2 (0) (0) (900) (by decide) 1 (by decide) (by decide)
              rw [e6065] at b6066
              refine WP_iload dX11_dayOf_88 rfl ?_
              refine WP_aload_n dX11_dayOf_90 rfl ?_
              refine WQ_getim dX11_dayOf_91 fX11_329 rfl (ly_is hy 0 11 rfl) ew6061 ?_
              refine WQ_icmp_ge 114 dX11_dayOf_94 rfl (fun c6066 => ?_) (fun c6066 => ?_)
              · refine WQ_iconst (0) (0) dX11_dayOf_114 rfl rfl (fun v6068 hv6068 => ?_)
                refine WP_istore (ls' := [(0, _), (1, _), (2, _), (3, _), (5, _)]) dX11_dayOf_115 (by decide) rfl ?_
                have lp117_6076 : ∀ (mz : Nat) (i6069 : Int32) (I6070 : pI) (J6071 : pJ), MP g n L I6070 → fz 49 g [0, 35, 36, 37, 40, 41, 39] I I6070 → fz 49 g [] J J6071 → fs g [56] I I6070 → ∀ (w6072 : Int32), I6070 (ad g 39) 32 = w6072 → ∀ (w6073 : Int32), I6070 (ad g 39) 33 = w6073 → ∀ (w6074 : Int32), I6070 (ad g 0) 10 = w6074 → ∀ (w6075 : Int32), I6070 (ad g 0) 14 = w6075 → ∀ (w6076 : Int32), I6070 (ad g 0) 68 = w6076 → 0 ≤ i6069.toInt → i6069.toInt ≤ 4 → w6073.toInt = w6033.toInt → w6074.toInt = w6029.toInt → w6075.toInt = w6030.toInt → w6076.toInt = w6031.toInt → w6072.toInt ≤ w6032.toInt + 5940 * i6069.toInt → (5 - i6069.toInt).toNat < mz → WP g mX11_dayOf 117 [(0, .ref (ad g 0)), (1, .ref (ad g 39)), (2, .int v6037), (3, .long l6055), (5, .int i6069)] [] I6070 J6071 R (fun r I' J' R' => (MP g n L I' ∧ R' = R ∧ fz 49 g [0, 35, 36, 37, 40, 41, 39] I I' ∧ fz 49 g [] J J' ∧ fs g [56] I I' ∧ ((I' (ad g 39) 32).toInt ≤ (I (ad g 39) 32).toInt + 23760 ∧ (I' (ad g 39) 33).toInt = (I (ad g 39) 33).toInt + 1) ∧ I' (ad g 0) 10 = I (ad g 0) 10 ∧ I' (ad g 0) 14 = I (ad g 0) 14 ∧ I' (ad g 0) 68 = I (ad g 0) 68) ∧ ∃ v : Int64, r = some (.long v)) := by
                  intro mz
                  induction mz with
                  | zero =>
                    intro i6069 I6070 J6071 hI6070 fiI6070 fjJ6071 fqI6070 w6072 ew6072 w6073 ew6073 w6074 ew6074 w6075 ew6075 w6076 ew6076 ai6069 bi6069 j0_I6070 j1_I6070 j2_I6070 j3_I6070 j4_I6070 hmlp117_6076
                    exact absurd hmlp117_6076 (Nat.not_lt_zero _)
                  | succ mz ihlp117_6076 =>
                    intro i6069 I6070 J6071 hI6070 fiI6070 fjJ6071 fqI6070 w6072 ew6072 w6073 ew6073 w6074 ew6074 w6075 ew6075 w6076 ew6076 ai6069 bi6069 j0_I6070 j1_I6070 j2_I6070 j3_I6070 j4_I6070 hmlp117_6076
                    have bw6072 := BT_get hI6070.1.1 39 32 33 (0) (23760) (700000) (by decide) 32 (by decide) (by decide)
                    rw [ew6072] at bw6072
                    have bw6073 := BT_get hI6070.1.1 39 33 34 (0) (1) (30) (by decide) 33 (by decide) (by decide)
                    rw [ew6073] at bw6073
                    have bw6074 := BT_get hI6070.1.1 0 10 11 (0) (0) (4) (by decide) 10 (by decide) (by decide)
                    rw [ew6074] at bw6074
                    have bw6075 := BT_get hI6070.1.1 0 14 15 (-1) (0) (2) (by decide) 14 (by decide) (by decide)
                    rw [ew6075] at bw6075
                    have e6078 : I6070 (ad g 0) 1 = L := hI6070.1.2
                    have b6079 := BT_get hI6070.1.1 0 1 2 (0) (0) (900) (by decide) 1 (by decide) (by decide)
                    rw [e6078] at b6079
                    refine WP_iload dX11_dayOf_117 rfl ?_
                    refine WP_aload_n dX11_dayOf_119 rfl ?_
                    refine WQ_getim dX11_dayOf_120 fX11_329 rfl (ly_is hy 0 11 rfl) ew6074 ?_
                    refine WQ_icmp_ge 140 dX11_dayOf_123 rfl (fun c6079 => ?_) (fun c6079 => ?_)
                    · refine WP_aload_n dX11_dayOf_140 rfl ?_
                      refine WQ_bipush (33) (33) dX11_dayOf_141 rfl rfl (fun v6081 hv6081 => ?_)
                      refine WP_dup2 dX11_dayOf_143 rfl rfl ?_
                      refine WQ_ialdm (z := 33) dX11_dayOf_144 (ly_is hy 39 13 rfl) (ly_n hy 39 35 rfl) hv6081 (by decide) ew6073 ?_
                      refine WQ_iconst (1) (1) dX11_dayOf_145 rfl rfl (fun v6083 hv6083 => ?_)
                      refine WQ_iadd dX11_dayOf_146 (by omega) (by omega) (fun v6084 hv6084 => ?_)
                      refine WQ_iast dX11_dayOf_147 (ly_is hy 39 13 rfl) (ly_n hy 39 35 rfl) (by omega) (by omega) (fun I6085 fI6085 => ?_)
                      have eI6085 := fI6085
                      rw [cl (x := v6081) (n := 33) (by omega)] at eI6085
                      clear fI6085
                      have hI6085 : MP g n L I6085 := by rw [eI6085]; exact (mp_w hy hI6070 (c := 39) (mi_f hy hI6070.1 (c := 39) (0) (1) (30) (by decide) (Or.inl (by decide)) (by decide) (by omega) (by omega)) (by decide) (by decide) (Or.inl (by decide)))
                      have e6086 : I6085 (ad g 39) 32 = w6072 := by rw [eI6085, pp_ne _ _ (Or.inr (by decide))]; exact ew6072
                      have e6087 : I6085 (ad g 0) 10 = w6074 := by rw [eI6085, pp_ne _ _ (Or.inl (ly_ne hy (by decide) (by decide) (by decide)))]; exact ew6074
                      have e6088 : I6085 (ad g 0) 14 = w6075 := by rw [eI6085, pp_ne _ _ (Or.inl (ly_ne hy (by decide) (by decide) (by decide)))]; exact ew6075
                      have e6089 : I6085 (ad g 0) 68 = w6076 := by rw [eI6085, pp_ne _ _ (Or.inl (ly_ne hy (by decide) (by decide) (by decide)))]; exact ew6076
                      have e6090 : I6085 (ad g 0) 1 = L := by rw [eI6085, pp_ne _ _ (Or.inl (ly_ne hy (by decide) (by decide) (by decide)))]; exact e6078
                      have e6091 : I6085 (ad g 39) 33 = v6084 := by rw [eI6085, pp_self]
                      have fr6092 : fs g [56] I I6085 := by rw [eI6085]; exact fs_ppn hy fqI6070 (by decide) (by decide)
                      have fr6093 : fz 49 g [0, 35, 36, 37, 40, 41, 39] I I6085 := by rw [eI6085]; exact fzm_pp hy fiI6070 (by decide) (by decide)
                      clear eI6085
                      refine WP_lload_n dX11_dayOf_148 rfl ?_
                      exact WP_lret dX11_dayOf_149 rfl ⟨⟨hI6085, rfl, fr6093, fjJ6071, fr6092, ⟨(by rw [e6086, ew6032, e6091, ew6033]; omega), (by rw [e6087, ew6029] <;> exact (eq32 _ _).mpr (by omega)), (by rw [e6088, ew6030] <;> exact (eq32 _ _).mpr (by omega)), (by rw [e6089, ew6031] <;> exact (eq32 _ _).mpr (by omega))⟩⟩, _, rfl⟩
                    · refine WP_aload_n dX11_dayOf_126 rfl ?_
                      refine WP_aload_n dX11_dayOf_127 rfl ?_
                      refine WP_iload dX11_dayOf_128 rfl ?_
                      refine WP_iload_n dX11_dayOf_130 rfl ?_
                      refine WP_callV3 (k := 11) dX11_dayOf_131 ⟨⟨⟨by decide, by decide⟩, zX11_nightOf⟩, lX11_478, by decide, rfl, vX11_nightOf.1, vX11_nightOf.2⟩ (ly_is hy 0 11 rfl) (sm_nightOfx_39 hy hr hI6070 i6069 v6037 (by omega) (by omega) (by omega) (by omega) (by omega) (by rw [ew6072]; omega)) (Nat.le_of_ble_eq_true rfl) ?_
                      intro r I6094 J6095 Ra hq
                      obtain ⟨⟨hI6094, ec, fiI6094, fjI6094, fqI6094, ⟨pI6094, sI6094_39_33, sI6094_0_10, sI6094_0_14, sI6094_0_68⟩⟩, rfl⟩ := hq
                      rw [ec]
                      clear ec Ra
                      have fr6096 : fz 49 g [0, 35, 36, 37, 40, 41, 39] I I6094 := fz_tr fiI6070 (fz_mono fiI6094 (by decide))
                      have fr6097 : fs g [56] I I6094 := fs_tr fqI6070 (fs_mono fqI6094 (by decide))
                      have fr6098 : fz 49 g [] J J6095 := fz_tr fjJ6071 (fz_mono fjI6094 (by decide))
                      have e6099 : I6094 (ad g 39) 33 = w6073 := by rw [sI6094_39_33]; exact ew6073
                      have e6100 : I6094 (ad g 0) 10 = w6074 := by rw [sI6094_0_10]; exact ew6074
                      have e6101 : I6094 (ad g 0) 14 = w6075 := by rw [sI6094_0_14]; exact ew6075
                      have e6102 : I6094 (ad g 0) 68 = w6076 := by rw [sI6094_0_68]; exact ew6076
                      have e6103 : I6094 (ad g 0) 1 = L := hI6094.1.2
                      have b6104 := BT_get hI6094.1.1 0 1 2 (0) (0) (900) (by decide) 1 (by decide) (by decide)
                      rw [e6103] at b6104
                      obtain ⟨w6105, ew6105⟩ : ∃ w : Int32, I6094 (ad g 39) 32 = w := ⟨_, rfl⟩
                      have bw6105 := BT_get hI6094.1.1 39 32 33 (0) (23760) (700000) (by decide) 32 (by decide) (by decide)
                      rw [ew6105] at bw6105
                      rw [ew6105, ew6072] at pI6094
                      refine WP_iinc (ls' := [(0, _), (1, _), (2, _), (3, _), (5, _)]) dX11_dayOf_134 rfl (by decide) rfl ?_
                      have hv6106 : (i6069 + Int32.ofInt (1)).toInt = i6069.toInt + (1) := ia_n rfl (by omega) (by omega)
                      generalize i6069 + Int32.ofInt (1) = v6106 at hv6106 ⊢
                      refine WP_goto 117 dX11_dayOf_137 rfl ?_
                      exact WP_sub (fc rfl (fc rfl (fc rfl (fc rfl (fc rfl fn))))) (ihlp117_6076 v6106 I6094 J6095 hI6094 fr6096 fr6098 fr6097 w6105 ew6105 w6073 e6099 w6074 e6100 w6075 e6101 w6076 e6102 (by omega) (by omega) (by omega) (by omega) (by omega) (by omega) (by omega) (by omega))
                exact WP_sub (fc rfl (fc rfl (fc rfl (fc rfl (fc rfl fn))))) (lp117_6076 _ v6068 I6057 J6058 hI6057 fiI6057 fjJ6058 fqI6057 w6059 ew6059 w6060 ew6060 w6061 ew6061 w6062 ew6062 w6063 ew6063 (by omega) (by omega) (by omega) (by omega) (by omega) (by omega) (by omega) (Nat.lt_succ_self _))
              · refine WP_lload_n dX11_dayOf_97 rfl ?_
                refine WP_aload_n dX11_dayOf_98 rfl ?_
                refine WP_aload_n dX11_dayOf_99 rfl ?_
                refine WP_iload dX11_dayOf_100 rfl ?_
                refine WP_iload_n dX11_dayOf_102 rfl ?_
                refine WP_callV3 (k := 11) dX11_dayOf_103 ⟨⟨⟨by decide, by decide⟩, zX11_sortDay⟩, lX11_474, by decide, rfl, vX11_sortDay.1, vX11_sortDay.2⟩ (ly_is hy 0 11 rfl) (sm_sortDay_39 hy hr hI6057 i6056 v6037 (by omega) (by omega) (by omega) (by omega) (by rw [ew6061]; omega)) (Nat.le_of_ble_eq_true rfl) ?_
                intro r I6107 J6108 Ra hq
                obtain ⟨⟨hI6107, ec, fiI6107, ejI6107, fqI6107, ⟨pI6107, sI6107_39_32, sI6107_39_33, sI6107_0_10, sI6107_0_14, sI6107_0_68⟩⟩, l6109, rfl⟩ := hq
                show WP _ _ _ _ (.long _ :: _) _ _ _ _
                rw [ec]
                clear ec Ra
                have fr6110 : fz 49 g [0, 35, 36, 37, 40, 41, 39] I I6107 := fz_tr fiI6057 (fz_mono fiI6107 (by decide))
                have fr6111 : fs g [56] I I6107 := fs_tr fqI6057 (fs_mono fqI6107 (by decide))
                rw [ejI6107]
                clear ejI6107 J6108
                have e6112 : I6107 (ad g 39) 32 = w6059 := by rw [sI6107_39_32]; exact ew6059
                have e6113 : I6107 (ad g 39) 33 = w6060 := by rw [sI6107_39_33]; exact ew6060
                have e6114 : I6107 (ad g 0) 10 = w6061 := by rw [sI6107_0_10]; exact ew6061
                have e6115 : I6107 (ad g 0) 14 = w6062 := by rw [sI6107_0_14]; exact ew6062
                have e6116 : I6107 (ad g 0) 68 = w6063 := by rw [sI6107_0_68]; exact ew6063
                have e6117 : I6107 (ad g 0) 1 = L := hI6107.1.2
                have b6118 := BT_get hI6107.1.1 0 1 2 (0) (0) (900) (by decide) 1 (by decide) (by decide)
                rw [e6117] at b6118
                refine WQ_ladd dX11_dayOf_106 (fun l6119 => ?_)
                refine WP_lstore_n (ls' := [(0, _), (1, _), (2, _), (3, _), (5, _)]) dX11_dayOf_107 (by decide) rfl ?_
                refine WP_iinc (ls' := [(0, _), (1, _), (2, _), (3, _), (5, _)]) dX11_dayOf_108 rfl (by decide) rfl ?_
                have hv6120 : (i6056 + Int32.ofInt (1)).toInt = i6056.toInt + (1) := ia_n rfl (by omega) (by omega)
                generalize i6056 + Int32.ofInt (1) = v6120 at hv6120 ⊢
                refine WP_goto 88 dX11_dayOf_111 rfl ?_
                exact WP_sub (fc rfl (fc rfl (fc rfl (fc rfl (fc rfl fn))))) (ihlp88_6063 l6119 v6120 I6107 J6058 hI6107 fr6110 fjJ6058 fr6111 w6059 e6112 w6060 e6113 w6061 e6114 w6062 e6115 w6063 e6116 (by omega) (by omega) (by omega) (by omega) (by omega) (by omega) (by omega) (by omega))
          exact WP_sub (fc rfl (fc rfl (fc rfl (fc rfl (fc rfl fn))))) (lp88_6063 _ l6038 v6054 I6042 J6043 hI6042 fiI6042 fjJ6043 fqI6042 w6044 ew6044 w6045 ew6045 w6046 ew6046 w6047 ew6047 w6048 ew6048 (by omega) (by omega) (by omega) (by omega) (by omega) (by omega) (by omega) (Nat.lt_succ_self _))
        · refine WP_aload_n dX11_dayOf_31 rfl ?_
          refine WP_getr dX11_dayOf_32 fX11_289 rfl (ly_is hy 0 11 rfl) (rf hr 0 62 40 (by decide)) ?_
          refine WP_iload dX11_dayOf_35 rfl ?_
          refine WP_aload_n dX11_dayOf_37 rfl ?_
          refine WQ_geti dX11_dayOf_38 fX11_470 rfl (ly_is hy 0 11 rfl) (BT_get hI6042.1.1 0 64 65 (0) (0) (1) (by decide) 64 (by decide) (by decide)) (fun v6121 ev6121 av6121 bv6121 => ?_)
          have jn78_6134 : ∀ (v6134 : Int32), 0 ≤ v6134.toInt → v6134.toInt ≤ 1000000 → WP g mX11_dayOf 78 [(0, .ref (ad g 0)), (1, .ref (ad g 39)), (2, .int v6037), (3, .long l6038), (5, .int i6041)] [.int v6134, .int i6041, .ref (ad g 40)] I6042 J6043 R (fun r I' J' R' => (MP g n L I' ∧ R' = R ∧ fz 49 g [0, 35, 36, 37, 40, 41, 39] I I' ∧ fz 49 g [] J J' ∧ fs g [56] I I' ∧ ((I' (ad g 39) 32).toInt ≤ (I (ad g 39) 32).toInt + 23760 ∧ (I' (ad g 39) 33).toInt = (I (ad g 39) 33).toInt + 1) ∧ I' (ad g 0) 10 = I (ad g 0) 10 ∧ I' (ad g 0) 14 = I (ad g 0) 14 ∧ I' (ad g 0) 68 = I (ad g 0) 68) ∧ ∃ v : Int64, r = some (.long v)) := by
            intro v6134 av6134 bv6134
            refine WQ_iast dX11_dayOf_78 (ly_is hy 40 13 rfl) (ly_n hy 40 3 rfl) (by omega) (by omega) (fun I6136 eI6136 => ?_)
            have hI6136 : MP g n L I6136 := by rw [eI6136]; exact (mp_w hy hI6042 (c := 40) (mi_r hy hI6042.1 (c := 40) (0) (0) (1000000) (by decide) (Or.inl (by decide)) (by decide) (by omega) (by omega)) (by decide) (by decide) (Or.inl (by decide)))
            have e6137 : I6136 (ad g 39) 32 = w6044 := by rw [eI6136, pp_ne _ _ (Or.inl (ly_ne hy (by decide) (by decide) (by decide)))]; exact ew6044
            have e6138 : I6136 (ad g 39) 33 = w6045 := by rw [eI6136, pp_ne _ _ (Or.inl (ly_ne hy (by decide) (by decide) (by decide)))]; exact ew6045
            have e6139 : I6136 (ad g 0) 10 = w6046 := by rw [eI6136, pp_ne _ _ (Or.inl (ly_ne hy (by decide) (by decide) (by decide)))]; exact ew6046
            have e6140 : I6136 (ad g 0) 14 = w6047 := by rw [eI6136, pp_ne _ _ (Or.inl (ly_ne hy (by decide) (by decide) (by decide)))]; exact ew6047
            have e6141 : I6136 (ad g 0) 68 = w6048 := by rw [eI6136, pp_ne _ _ (Or.inl (ly_ne hy (by decide) (by decide) (by decide)))]; exact ew6048
            have e6142 : I6136 (ad g 0) 1 = L := by rw [eI6136, pp_ne _ _ (Or.inl (ly_ne hy (by decide) (by decide) (by decide)))]; exact e6050
            have e6143 : I6136 (ad g 0) 11 = v6052 := by rw [eI6136, pp_ne _ _ (Or.inl (ly_ne hy (by decide) (by decide) (by decide)))]; exact ev6052
            have e6144 : I6136 (ad g 0) 64 = v6121 := by rw [eI6136, pp_ne _ _ (Or.inl (ly_ne hy (by decide) (by decide) (by decide)))]; exact ev6121
            have fr6145 : fs g [56] I I6136 := by rw [eI6136]; exact fs_ppn hy fqI6042 (by decide) (by decide)
            have fr6146 : fz 49 g [0, 35, 36, 37, 40, 41, 39] I I6136 := by rw [eI6136]; exact fzm_pp hy fiI6042 (by decide) (by decide)
            clear eI6136
            refine WP_iinc (ls' := [(0, _), (1, _), (2, _), (3, _), (5, _)]) dX11_dayOf_79 rfl (by decide) rfl ?_
            have hv6147 : (i6041 + Int32.ofInt (1)).toInt = i6041.toInt + (1) := ia_n rfl (by omega) (by omega)
            generalize i6041 + Int32.ofInt (1) = v6147 at hv6147 ⊢
            refine WP_goto 22 dX11_dayOf_82 rfl ?_
            exact WP_sub (fc rfl (fc rfl (fc rfl (fc rfl (fc rfl fn))))) (ihlp22_6048 v6147 I6136 J6043 hI6136 fr6146 fjJ6043 fr6145 w6044 e6137 w6045 e6138 w6046 e6139 w6047 e6140 w6048 e6141 (by omega) (by omega) (by omega) (by omega) (by omega) (by omega) (by omega) (by omega))
          refine WQ_if_ne 60 dX11_dayOf_41 rfl (fun c6147 => ?_) (fun c6147 => ?_)
          · refine WP_ldcw (1000000) dX11_dayOf_60 kX11_460 ?_
            obtain ⟨v6149, hv6149, ev6149⟩ : ∃ v : Int32, v.toInt = 1000000 ∧ ((1000000) : Int32) = v := ⟨(1000000), rfl, rfl⟩
            rw [ev6149]; clear ev6149
            refine WP_goto 78 dX11_dayOf_63 rfl ?_
            exact WP_sub (fc rfl (fc rfl (fc rfl (fc rfl (fc rfl fn))))) (jn78_6134 v6149 (by omega) (by omega))
          · refine WP_aload_n dX11_dayOf_44 rfl ?_
            refine WP_getr dX11_dayOf_45 fX11_259 rfl (ly_is hy 0 11 rfl) (rf hr 0 41 23 (by decide)) ?_
            refine WQ_bipush (7) (7) dX11_dayOf_48 rfl rfl (fun v6150 hv6150 => ?_)
            refine WP_iload dX11_dayOf_50 rfl ?_
            refine WQ_imulK (7) dX11_dayOf_52 hv6150 (by omega) (by omega) (fun v6151 hv6151 => ?_)
            refine WP_iload_n dX11_dayOf_53 rfl ?_
            refine WQ_iadd dX11_dayOf_54 (by omega) (by omega) (fun v6152 hv6152 => ?_)
            refine WQ_ialdb dX11_dayOf_55 (ly_is hy 23 13 rfl) (ly_n hy 23 21 rfl) (by omega) (by omega) (fun q hq => BT_get hI6042.1.1 23 0 21 (-1) (0) (999) (by decide) q (Nat.zero_le _) hq) (fun v6153 av6153 bv6153 zv6153 => ?_)
            refine WQ_iconst (-1) (-1) dX11_dayOf_56 rfl rfl (fun v6154 hv6154 => ?_)
            refine WQ_icmp_ne 66 dX11_dayOf_57 rfl (fun c6154 => ?_) (fun c6154 => ?_)
            · refine WP_aload_n dX11_dayOf_66 rfl ?_
              refine WP_getr dX11_dayOf_67 fX11_259 rfl (ly_is hy 0 11 rfl) (rf hr 0 41 23 (by decide)) ?_
              refine WQ_bipush (7) (7) dX11_dayOf_70 rfl rfl (fun v6156 hv6156 => ?_)
              refine WP_iload dX11_dayOf_72 rfl ?_
              refine WQ_imulK (7) dX11_dayOf_74 hv6156 (by omega) (by omega) (fun v6157 hv6157 => ?_)
              refine WP_iload_n dX11_dayOf_75 rfl ?_
              refine WQ_iadd dX11_dayOf_76 (by omega) (by omega) (fun v6158 hv6158 => ?_)
              refine WQ_ialdb dX11_dayOf_77 (ly_is hy 23 13 rfl) (ly_n hy 23 21 rfl) (by omega) (by omega) (fun q hq => BT_get hI6042.1.1 23 0 21 (-1) (0) (999) (by decide) q (Nat.zero_le _) hq) (fun v6159 av6159 bv6159 zv6159 => ?_)
              have tv6159 : v6159.toInt = v6153.toInt := by rw [← zv6159, ← zv6153, show v6158.toInt.toNat = v6152.toInt.toNat by omega]
              exact WP_sub (fc rfl (fc rfl (fc rfl (fc rfl (fc rfl fn))))) (jn78_6134 v6159 (by omega) (by omega))
            · refine WP_ldcw (1000000) dX11_dayOf_60 kX11_460 ?_
              obtain ⟨v6160, hv6160, ev6160⟩ : ∃ v : Int32, v.toInt = 1000000 ∧ ((1000000) : Int32) = v := ⟨(1000000), rfl, rfl⟩
              rw [ev6160]; clear ev6160
              refine WP_goto 78 dX11_dayOf_63 rfl ?_
              exact WP_sub (fc rfl (fc rfl (fc rfl (fc rfl (fc rfl fn))))) (jn78_6134 v6160 (by omega) (by omega))
    exact WP_sub (fc rfl (fc rfl (fc rfl (fc rfl (fc rfl fn))))) (lp22_6048 _ v6040 I J hI fr0 frj0 frq0 w6032 ew6032 w6033 ew6033 w6029 ew6029 w6030 ew6030 w6031 ew6031 (by omega) (by omega) (by omega) (by omega) (by omega) (by omega) (by omega) (Nat.lt_succ_self _))
  · refine WP_aload_n dX11_dayOf_14 rfl ?_
    refine WP_aload_n dX11_dayOf_15 rfl ?_
    refine WP_callV1 (k := 11) dX11_dayOf_16 ⟨⟨⟨by decide, by decide⟩, zX11_openChest⟩, lX11_467, by decide, rfl, vX11_openChest.1, vX11_openChest.2⟩ (ly_is hy 0 11 rfl) (sm_openChestx_39 hy hr hI   (by omega) (by rw [ew6032]; omega)) (Nat.le_of_ble_eq_true rfl) ?_
    intro r I6161 J6162 Ra hq
    obtain ⟨⟨hI6161, ec, fiI6161, fjI6161, fqI6161, ⟨pI6161, sI6161_39_33, sI6161_0_10, sI6161_0_14, sI6161_0_68⟩⟩, rfl⟩ := hq
    rw [ec]
    clear ec Ra
    have fr6163 : fz 49 g [0, 35, 36, 37, 40, 41, 39] I I6161 := fz_tr fr0 (fz_mono fiI6161 (by decide))
    have fr6164 : fs g [56] I I6161 := fs_tr frq0 (fs_mono fqI6161 (by decide))
    have fr6165 : fz 49 g [] J J6162 := fz_tr frj0 (fz_mono fjI6161 (by decide))
    have e6166 : I6161 (ad g 39) 33 = w6033 := by rw [sI6161_39_33]; exact ew6033
    have e6167 : I6161 (ad g 0) 10 = w6029 := by rw [sI6161_0_10]; exact ew6029
    have e6168 : I6161 (ad g 0) 14 = w6030 := by rw [sI6161_0_14]; exact ew6030
    have e6169 : I6161 (ad g 0) 68 = w6031 := by rw [sI6161_0_68]; exact ew6031
    have e6170 : I6161 (ad g 0) 1 = L := hI6161.1.2
    have b6171 := BT_get hI6161.1.1 0 1 2 (0) (0) (900) (by decide) 1 (by decide) (by decide)
    rw [e6170] at b6171
    obtain ⟨w6172, ew6172⟩ : ∃ w : Int32, I6161 (ad g 39) 32 = w := ⟨_, rfl⟩
    have bw6172 := BT_get hI6161.1.1 39 32 33 (0) (23760) (700000) (by decide) 32 (by decide) (by decide)
    rw [ew6172] at bw6172
    rw [ew6172, ew6032] at pI6161
    refine WQ_iconst (0) (0) dX11_dayOf_19 rfl rfl (fun v6173 hv6173 => ?_)
    refine WP_istore (ls' := [(0, _), (1, _), (2, _), (3, _), (5, _)]) dX11_dayOf_20 (by decide) rfl ?_
    have lp22_6181 : ∀ (mz : Nat) (i6174 : Int32) (I6175 : pI) (J6176 : pJ), MP g n L I6175 → fz 49 g [0, 35, 36, 37, 40, 41, 39] I I6175 → fz 49 g [] J J6176 → fs g [56] I I6175 → ∀ (w6177 : Int32), I6175 (ad g 39) 32 = w6177 → ∀ (w6178 : Int32), I6175 (ad g 39) 33 = w6178 → ∀ (w6179 : Int32), I6175 (ad g 0) 10 = w6179 → ∀ (w6180 : Int32), I6175 (ad g 0) 14 = w6180 → ∀ (w6181 : Int32), I6175 (ad g 0) 68 = w6181 → 0 ≤ i6174.toInt → i6174.toInt ≤ 3 → w6178.toInt = w6033.toInt → w6179.toInt = w6029.toInt → w6180.toInt = w6030.toInt → w6181.toInt = w6031.toInt → w6177.toInt ≤ w6032.toInt → (4 - i6174.toInt).toNat < mz → WP g mX11_dayOf 22 [(0, .ref (ad g 0)), (1, .ref (ad g 39)), (2, .int v6037), (3, .long l6038), (5, .int i6174)] [] I6175 J6176 R (fun r I' J' R' => (MP g n L I' ∧ R' = R ∧ fz 49 g [0, 35, 36, 37, 40, 41, 39] I I' ∧ fz 49 g [] J J' ∧ fs g [56] I I' ∧ ((I' (ad g 39) 32).toInt ≤ (I (ad g 39) 32).toInt + 23760 ∧ (I' (ad g 39) 33).toInt = (I (ad g 39) 33).toInt + 1) ∧ I' (ad g 0) 10 = I (ad g 0) 10 ∧ I' (ad g 0) 14 = I (ad g 0) 14 ∧ I' (ad g 0) 68 = I (ad g 0) 68) ∧ ∃ v : Int64, r = some (.long v)) := by
      intro mz
      induction mz with
      | zero =>
        intro i6174 I6175 J6176 hI6175 fiI6175 fjJ6176 fqI6175 w6177 ew6177 w6178 ew6178 w6179 ew6179 w6180 ew6180 w6181 ew6181 ai6174 bi6174 j0_I6175 j1_I6175 j2_I6175 j3_I6175 j4_I6175 hmlp22_6181
        exact absurd hmlp22_6181 (Nat.not_lt_zero _)
      | succ mz ihlp22_6181 =>
        intro i6174 I6175 J6176 hI6175 fiI6175 fjJ6176 fqI6175 w6177 ew6177 w6178 ew6178 w6179 ew6179 w6180 ew6180 w6181 ew6181 ai6174 bi6174 j0_I6175 j1_I6175 j2_I6175 j3_I6175 j4_I6175 hmlp22_6181
        have bw6177 := BT_get hI6175.1.1 39 32 33 (0) (23760) (700000) (by decide) 32 (by decide) (by decide)
        rw [ew6177] at bw6177
        have bw6178 := BT_get hI6175.1.1 39 33 34 (0) (1) (30) (by decide) 33 (by decide) (by decide)
        rw [ew6178] at bw6178
        have bw6179 := BT_get hI6175.1.1 0 10 11 (0) (0) (4) (by decide) 10 (by decide) (by decide)
        rw [ew6179] at bw6179
        have bw6180 := BT_get hI6175.1.1 0 14 15 (-1) (0) (2) (by decide) 14 (by decide) (by decide)
        rw [ew6180] at bw6180
        have e6183 : I6175 (ad g 0) 1 = L := hI6175.1.2
        have b6184 := BT_get hI6175.1.1 0 1 2 (0) (0) (900) (by decide) 1 (by decide) (by decide)
        rw [e6183] at b6184
        refine WP_iload dX11_dayOf_22 rfl ?_
        refine WP_aload_n dX11_dayOf_24 rfl ?_
        refine WQ_geti dX11_dayOf_25 fX11_332 rfl (ly_is hy 0 11 rfl) (BT_get hI6175.1.1 0 11 12 (0) (0) (3) (by decide) 11 (by decide) (by decide)) (fun v6185 ev6185 av6185 bv6185 => ?_)
        refine WQ_icmp_ge 85 dX11_dayOf_28 rfl (fun c6185 => ?_) (fun c6185 => ?_)
        · refine WQ_iconst (0) (0) dX11_dayOf_85 rfl rfl (fun v6187 hv6187 => ?_)
          refine WP_istore (ls' := [(0, _), (1, _), (2, _), (3, _), (5, _)]) dX11_dayOf_86 (by decide) rfl ?_
          have lp88_6196 : ∀ (mz : Nat) (l6188 : Int64) (i6189 : Int32) (I6190 : pI) (J6191 : pJ), MP g n L I6190 → fz 49 g [0, 35, 36, 37, 40, 41, 39] I I6190 → fz 49 g [] J J6191 → fs g [56] I I6190 → ∀ (w6192 : Int32), I6190 (ad g 39) 32 = w6192 → ∀ (w6193 : Int32), I6190 (ad g 39) 33 = w6193 → ∀ (w6194 : Int32), I6190 (ad g 0) 10 = w6194 → ∀ (w6195 : Int32), I6190 (ad g 0) 14 = w6195 → ∀ (w6196 : Int32), I6190 (ad g 0) 68 = w6196 → 0 ≤ i6189.toInt → i6189.toInt ≤ 4 → w6193.toInt = w6033.toInt → w6194.toInt = w6029.toInt → w6195.toInt = w6030.toInt → w6196.toInt = w6031.toInt → w6192.toInt ≤ w6032.toInt → (5 - i6189.toInt).toNat < mz → WP g mX11_dayOf 88 [(0, .ref (ad g 0)), (1, .ref (ad g 39)), (2, .int v6037), (3, .long l6188), (5, .int i6189)] [] I6190 J6191 R (fun r I' J' R' => (MP g n L I' ∧ R' = R ∧ fz 49 g [0, 35, 36, 37, 40, 41, 39] I I' ∧ fz 49 g [] J J' ∧ fs g [56] I I' ∧ ((I' (ad g 39) 32).toInt ≤ (I (ad g 39) 32).toInt + 23760 ∧ (I' (ad g 39) 33).toInt = (I (ad g 39) 33).toInt + 1) ∧ I' (ad g 0) 10 = I (ad g 0) 10 ∧ I' (ad g 0) 14 = I (ad g 0) 14 ∧ I' (ad g 0) 68 = I (ad g 0) 68) ∧ ∃ v : Int64, r = some (.long v)) := by
            intro mz
            induction mz with
            | zero =>
              intro l6188 i6189 I6190 J6191 hI6190 fiI6190 fjJ6191 fqI6190 w6192 ew6192 w6193 ew6193 w6194 ew6194 w6195 ew6195 w6196 ew6196 ai6189 bi6189 j0_I6190 j1_I6190 j2_I6190 j3_I6190 j4_I6190 hmlp88_6196
              exact absurd hmlp88_6196 (Nat.not_lt_zero _)
            | succ mz ihlp88_6196 =>
              intro l6188 i6189 I6190 J6191 hI6190 fiI6190 fjJ6191 fqI6190 w6192 ew6192 w6193 ew6193 w6194 ew6194 w6195 ew6195 w6196 ew6196 ai6189 bi6189 j0_I6190 j1_I6190 j2_I6190 j3_I6190 j4_I6190 hmlp88_6196
              have bw6192 := BT_get hI6190.1.1 39 32 33 (0) (23760) (700000) (by decide) 32 (by decide) (by decide)
              rw [ew6192] at bw6192
              have bw6193 := BT_get hI6190.1.1 39 33 34 (0) (1) (30) (by decide) 33 (by decide) (by decide)
              rw [ew6193] at bw6193
              have bw6194 := BT_get hI6190.1.1 0 10 11 (0) (0) (4) (by decide) 10 (by decide) (by decide)
              rw [ew6194] at bw6194
              have bw6195 := BT_get hI6190.1.1 0 14 15 (-1) (0) (2) (by decide) 14 (by decide) (by decide)
              rw [ew6195] at bw6195
              have e6198 : I6190 (ad g 0) 1 = L := hI6190.1.2
              have b6199 := BT_get hI6190.1.1 0 1 2 (0) (0) (900) (by decide) 1 (by decide) (by decide)
              rw [e6198] at b6199
              refine WP_iload dX11_dayOf_88 rfl ?_
              refine WP_aload_n dX11_dayOf_90 rfl ?_
              refine WQ_getim dX11_dayOf_91 fX11_329 rfl (ly_is hy 0 11 rfl) ew6194 ?_
              refine WQ_icmp_ge 114 dX11_dayOf_94 rfl (fun c6199 => ?_) (fun c6199 => ?_)
              · refine WQ_iconst (0) (0) dX11_dayOf_114 rfl rfl (fun v6201 hv6201 => ?_)
                refine WP_istore (ls' := [(0, _), (1, _), (2, _), (3, _), (5, _)]) dX11_dayOf_115 (by decide) rfl ?_
                have lp117_6209 : ∀ (mz : Nat) (i6202 : Int32) (I6203 : pI) (J6204 : pJ), MP g n L I6203 → fz 49 g [0, 35, 36, 37, 40, 41, 39] I I6203 → fz 49 g [] J J6204 → fs g [56] I I6203 → ∀ (w6205 : Int32), I6203 (ad g 39) 32 = w6205 → ∀ (w6206 : Int32), I6203 (ad g 39) 33 = w6206 → ∀ (w6207 : Int32), I6203 (ad g 0) 10 = w6207 → ∀ (w6208 : Int32), I6203 (ad g 0) 14 = w6208 → ∀ (w6209 : Int32), I6203 (ad g 0) 68 = w6209 → 0 ≤ i6202.toInt → i6202.toInt ≤ 4 → w6206.toInt = w6033.toInt → w6207.toInt = w6029.toInt → w6208.toInt = w6030.toInt → w6209.toInt = w6031.toInt → w6205.toInt ≤ w6032.toInt + 5940 * i6202.toInt → (5 - i6202.toInt).toNat < mz → WP g mX11_dayOf 117 [(0, .ref (ad g 0)), (1, .ref (ad g 39)), (2, .int v6037), (3, .long l6188), (5, .int i6202)] [] I6203 J6204 R (fun r I' J' R' => (MP g n L I' ∧ R' = R ∧ fz 49 g [0, 35, 36, 37, 40, 41, 39] I I' ∧ fz 49 g [] J J' ∧ fs g [56] I I' ∧ ((I' (ad g 39) 32).toInt ≤ (I (ad g 39) 32).toInt + 23760 ∧ (I' (ad g 39) 33).toInt = (I (ad g 39) 33).toInt + 1) ∧ I' (ad g 0) 10 = I (ad g 0) 10 ∧ I' (ad g 0) 14 = I (ad g 0) 14 ∧ I' (ad g 0) 68 = I (ad g 0) 68) ∧ ∃ v : Int64, r = some (.long v)) := by
                  intro mz
                  induction mz with
                  | zero =>
                    intro i6202 I6203 J6204 hI6203 fiI6203 fjJ6204 fqI6203 w6205 ew6205 w6206 ew6206 w6207 ew6207 w6208 ew6208 w6209 ew6209 ai6202 bi6202 j0_I6203 j1_I6203 j2_I6203 j3_I6203 j4_I6203 hmlp117_6209
                    exact absurd hmlp117_6209 (Nat.not_lt_zero _)
                  | succ mz ihlp117_6209 =>
                    intro i6202 I6203 J6204 hI6203 fiI6203 fjJ6204 fqI6203 w6205 ew6205 w6206 ew6206 w6207 ew6207 w6208 ew6208 w6209 ew6209 ai6202 bi6202 j0_I6203 j1_I6203 j2_I6203 j3_I6203 j4_I6203 hmlp117_6209
                    have bw6205 := BT_get hI6203.1.1 39 32 33 (0) (23760) (700000) (by decide) 32 (by decide) (by decide)
                    rw [ew6205] at bw6205
                    have bw6206 := BT_get hI6203.1.1 39 33 34 (0) (1) (30) (by decide) 33 (by decide) (by decide)
                    rw [ew6206] at bw6206
                    have bw6207 := BT_get hI6203.1.1 0 10 11 (0) (0) (4) (by decide) 10 (by decide) (by decide)
                    rw [ew6207] at bw6207
                    have bw6208 := BT_get hI6203.1.1 0 14 15 (-1) (0) (2) (by decide) 14 (by decide) (by decide)
                    rw [ew6208] at bw6208
                    have e6211 : I6203 (ad g 0) 1 = L := hI6203.1.2
                    have b6212 := BT_get hI6203.1.1 0 1 2 (0) (0) (900) (by decide) 1 (by decide) (by decide)
                    rw [e6211] at b6212
                    refine WP_iload dX11_dayOf_117 rfl ?_
                    refine WP_aload_n dX11_dayOf_119 rfl ?_
                    refine WQ_getim dX11_dayOf_120 fX11_329 rfl (ly_is hy 0 11 rfl) ew6207 ?_
                    refine WQ_icmp_ge 140 dX11_dayOf_123 rfl (fun c6212 => ?_) (fun c6212 => ?_)
                    · refine WP_aload_n dX11_dayOf_140 rfl ?_
                      refine WQ_bipush (33) (33) dX11_dayOf_141 rfl rfl (fun v6214 hv6214 => ?_)
                      refine WP_dup2 dX11_dayOf_143 rfl rfl ?_
                      refine WQ_ialdm (z := 33) dX11_dayOf_144 (ly_is hy 39 13 rfl) (ly_n hy 39 35 rfl) hv6214 (by decide) ew6206 ?_
                      refine WQ_iconst (1) (1) dX11_dayOf_145 rfl rfl (fun v6216 hv6216 => ?_)
                      refine WQ_iadd dX11_dayOf_146 (by omega) (by omega) (fun v6217 hv6217 => ?_)
                      refine WQ_iast dX11_dayOf_147 (ly_is hy 39 13 rfl) (ly_n hy 39 35 rfl) (by omega) (by omega) (fun I6218 fI6218 => ?_)
                      have eI6218 := fI6218
                      rw [cl (x := v6214) (n := 33) (by omega)] at eI6218
                      clear fI6218
                      have hI6218 : MP g n L I6218 := by rw [eI6218]; exact (mp_w hy hI6203 (c := 39) (mi_f hy hI6203.1 (c := 39) (0) (1) (30) (by decide) (Or.inl (by decide)) (by decide) (by omega) (by omega)) (by decide) (by decide) (Or.inl (by decide)))
                      have e6219 : I6218 (ad g 39) 32 = w6205 := by rw [eI6218, pp_ne _ _ (Or.inr (by decide))]; exact ew6205
                      have e6220 : I6218 (ad g 0) 10 = w6207 := by rw [eI6218, pp_ne _ _ (Or.inl (ly_ne hy (by decide) (by decide) (by decide)))]; exact ew6207
                      have e6221 : I6218 (ad g 0) 14 = w6208 := by rw [eI6218, pp_ne _ _ (Or.inl (ly_ne hy (by decide) (by decide) (by decide)))]; exact ew6208
                      have e6222 : I6218 (ad g 0) 68 = w6209 := by rw [eI6218, pp_ne _ _ (Or.inl (ly_ne hy (by decide) (by decide) (by decide)))]; exact ew6209
                      have e6223 : I6218 (ad g 0) 1 = L := by rw [eI6218, pp_ne _ _ (Or.inl (ly_ne hy (by decide) (by decide) (by decide)))]; exact e6211
                      have e6224 : I6218 (ad g 39) 33 = v6217 := by rw [eI6218, pp_self]
                      have fr6225 : fs g [56] I I6218 := by rw [eI6218]; exact fs_ppn hy fqI6203 (by decide) (by decide)
                      have fr6226 : fz 49 g [0, 35, 36, 37, 40, 41, 39] I I6218 := by rw [eI6218]; exact fzm_pp hy fiI6203 (by decide) (by decide)
                      clear eI6218
                      refine WP_lload_n dX11_dayOf_148 rfl ?_
                      exact WP_lret dX11_dayOf_149 rfl ⟨⟨hI6218, rfl, fr6226, fjJ6204, fr6225, ⟨(by rw [e6219, ew6032, e6224, ew6033]; omega), (by rw [e6220, ew6029] <;> exact (eq32 _ _).mpr (by omega)), (by rw [e6221, ew6030] <;> exact (eq32 _ _).mpr (by omega)), (by rw [e6222, ew6031] <;> exact (eq32 _ _).mpr (by omega))⟩⟩, _, rfl⟩
                    · refine WP_aload_n dX11_dayOf_126 rfl ?_
                      refine WP_aload_n dX11_dayOf_127 rfl ?_
                      refine WP_iload dX11_dayOf_128 rfl ?_
                      refine WP_iload_n dX11_dayOf_130 rfl ?_
                      refine WP_callV3 (k := 11) dX11_dayOf_131 ⟨⟨⟨by decide, by decide⟩, zX11_nightOf⟩, lX11_478, by decide, rfl, vX11_nightOf.1, vX11_nightOf.2⟩ (ly_is hy 0 11 rfl) (sm_nightOfx_39 hy hr hI6203 i6202 v6037 (by omega) (by omega) (by omega) (by omega) (by omega) (by rw [ew6205]; omega)) (Nat.le_of_ble_eq_true rfl) ?_
                      intro r I6227 J6228 Ra hq
                      obtain ⟨⟨hI6227, ec, fiI6227, fjI6227, fqI6227, ⟨pI6227, sI6227_39_33, sI6227_0_10, sI6227_0_14, sI6227_0_68⟩⟩, rfl⟩ := hq
                      rw [ec]
                      clear ec Ra
                      have fr6229 : fz 49 g [0, 35, 36, 37, 40, 41, 39] I I6227 := fz_tr fiI6203 (fz_mono fiI6227 (by decide))
                      have fr6230 : fs g [56] I I6227 := fs_tr fqI6203 (fs_mono fqI6227 (by decide))
                      have fr6231 : fz 49 g [] J J6228 := fz_tr fjJ6204 (fz_mono fjI6227 (by decide))
                      have e6232 : I6227 (ad g 39) 33 = w6206 := by rw [sI6227_39_33]; exact ew6206
                      have e6233 : I6227 (ad g 0) 10 = w6207 := by rw [sI6227_0_10]; exact ew6207
                      have e6234 : I6227 (ad g 0) 14 = w6208 := by rw [sI6227_0_14]; exact ew6208
                      have e6235 : I6227 (ad g 0) 68 = w6209 := by rw [sI6227_0_68]; exact ew6209
                      have e6236 : I6227 (ad g 0) 1 = L := hI6227.1.2
                      have b6237 := BT_get hI6227.1.1 0 1 2 (0) (0) (900) (by decide) 1 (by decide) (by decide)
                      rw [e6236] at b6237
                      obtain ⟨w6238, ew6238⟩ : ∃ w : Int32, I6227 (ad g 39) 32 = w := ⟨_, rfl⟩
                      have bw6238 := BT_get hI6227.1.1 39 32 33 (0) (23760) (700000) (by decide) 32 (by decide) (by decide)
                      rw [ew6238] at bw6238
                      rw [ew6238, ew6205] at pI6227
                      refine WP_iinc (ls' := [(0, _), (1, _), (2, _), (3, _), (5, _)]) dX11_dayOf_134 rfl (by decide) rfl ?_
                      have hv6239 : (i6202 + Int32.ofInt (1)).toInt = i6202.toInt + (1) := ia_n rfl (by omega) (by omega)
                      generalize i6202 + Int32.ofInt (1) = v6239 at hv6239 ⊢
                      refine WP_goto 117 dX11_dayOf_137 rfl ?_
                      exact WP_sub (fc rfl (fc rfl (fc rfl (fc rfl (fc rfl fn))))) (ihlp117_6209 v6239 I6227 J6228 hI6227 fr6229 fr6231 fr6230 w6238 ew6238 w6206 e6232 w6207 e6233 w6208 e6234 w6209 e6235 (by omega) (by omega) (by omega) (by omega) (by omega) (by omega) (by omega) (by omega))
                exact WP_sub (fc rfl (fc rfl (fc rfl (fc rfl (fc rfl fn))))) (lp117_6209 _ v6201 I6190 J6191 hI6190 fiI6190 fjJ6191 fqI6190 w6192 ew6192 w6193 ew6193 w6194 ew6194 w6195 ew6195 w6196 ew6196 (by omega) (by omega) (by omega) (by omega) (by omega) (by omega) (by omega) (Nat.lt_succ_self _))
              · refine WP_lload_n dX11_dayOf_97 rfl ?_
                refine WP_aload_n dX11_dayOf_98 rfl ?_
                refine WP_aload_n dX11_dayOf_99 rfl ?_
                refine WP_iload dX11_dayOf_100 rfl ?_
                refine WP_iload_n dX11_dayOf_102 rfl ?_
                refine WP_callV3 (k := 11) dX11_dayOf_103 ⟨⟨⟨by decide, by decide⟩, zX11_sortDay⟩, lX11_474, by decide, rfl, vX11_sortDay.1, vX11_sortDay.2⟩ (ly_is hy 0 11 rfl) (sm_sortDay_39 hy hr hI6190 i6189 v6037 (by omega) (by omega) (by omega) (by omega) (by rw [ew6194]; omega)) (Nat.le_of_ble_eq_true rfl) ?_
                intro r I6240 J6241 Ra hq
                obtain ⟨⟨hI6240, ec, fiI6240, ejI6240, fqI6240, ⟨pI6240, sI6240_39_32, sI6240_39_33, sI6240_0_10, sI6240_0_14, sI6240_0_68⟩⟩, l6242, rfl⟩ := hq
                show WP _ _ _ _ (.long _ :: _) _ _ _ _
                rw [ec]
                clear ec Ra
                have fr6243 : fz 49 g [0, 35, 36, 37, 40, 41, 39] I I6240 := fz_tr fiI6190 (fz_mono fiI6240 (by decide))
                have fr6244 : fs g [56] I I6240 := fs_tr fqI6190 (fs_mono fqI6240 (by decide))
                rw [ejI6240]
                clear ejI6240 J6241
                have e6245 : I6240 (ad g 39) 32 = w6192 := by rw [sI6240_39_32]; exact ew6192
                have e6246 : I6240 (ad g 39) 33 = w6193 := by rw [sI6240_39_33]; exact ew6193
                have e6247 : I6240 (ad g 0) 10 = w6194 := by rw [sI6240_0_10]; exact ew6194
                have e6248 : I6240 (ad g 0) 14 = w6195 := by rw [sI6240_0_14]; exact ew6195
                have e6249 : I6240 (ad g 0) 68 = w6196 := by rw [sI6240_0_68]; exact ew6196
                have e6250 : I6240 (ad g 0) 1 = L := hI6240.1.2
                have b6251 := BT_get hI6240.1.1 0 1 2 (0) (0) (900) (by decide) 1 (by decide) (by decide)
                rw [e6250] at b6251
                refine WQ_ladd dX11_dayOf_106 (fun l6252 => ?_)
                refine WP_lstore_n (ls' := [(0, _), (1, _), (2, _), (3, _), (5, _)]) dX11_dayOf_107 (by decide) rfl ?_
                refine WP_iinc (ls' := [(0, _), (1, _), (2, _), (3, _), (5, _)]) dX11_dayOf_108 rfl (by decide) rfl ?_
                have hv6253 : (i6189 + Int32.ofInt (1)).toInt = i6189.toInt + (1) := ia_n rfl (by omega) (by omega)
                generalize i6189 + Int32.ofInt (1) = v6253 at hv6253 ⊢
                refine WP_goto 88 dX11_dayOf_111 rfl ?_
                exact WP_sub (fc rfl (fc rfl (fc rfl (fc rfl (fc rfl fn))))) (ihlp88_6196 l6252 v6253 I6240 J6191 hI6240 fr6243 fjJ6191 fr6244 w6192 e6245 w6193 e6246 w6194 e6247 w6195 e6248 w6196 e6249 (by omega) (by omega) (by omega) (by omega) (by omega) (by omega) (by omega) (by omega))
          exact WP_sub (fc rfl (fc rfl (fc rfl (fc rfl (fc rfl fn))))) (lp88_6196 _ l6038 v6187 I6175 J6176 hI6175 fiI6175 fjJ6176 fqI6175 w6177 ew6177 w6178 ew6178 w6179 ew6179 w6180 ew6180 w6181 ew6181 (by omega) (by omega) (by omega) (by omega) (by omega) (by omega) (by omega) (Nat.lt_succ_self _))
        · refine WP_aload_n dX11_dayOf_31 rfl ?_
          refine WP_getr dX11_dayOf_32 fX11_289 rfl (ly_is hy 0 11 rfl) (rf hr 0 62 40 (by decide)) ?_
          refine WP_iload dX11_dayOf_35 rfl ?_
          refine WP_aload_n dX11_dayOf_37 rfl ?_
          refine WQ_geti dX11_dayOf_38 fX11_470 rfl (ly_is hy 0 11 rfl) (BT_get hI6175.1.1 0 64 65 (0) (0) (1) (by decide) 64 (by decide) (by decide)) (fun v6254 ev6254 av6254 bv6254 => ?_)
          have jn78_6267 : ∀ (v6267 : Int32), 0 ≤ v6267.toInt → v6267.toInt ≤ 1000000 → WP g mX11_dayOf 78 [(0, .ref (ad g 0)), (1, .ref (ad g 39)), (2, .int v6037), (3, .long l6038), (5, .int i6174)] [.int v6267, .int i6174, .ref (ad g 40)] I6175 J6176 R (fun r I' J' R' => (MP g n L I' ∧ R' = R ∧ fz 49 g [0, 35, 36, 37, 40, 41, 39] I I' ∧ fz 49 g [] J J' ∧ fs g [56] I I' ∧ ((I' (ad g 39) 32).toInt ≤ (I (ad g 39) 32).toInt + 23760 ∧ (I' (ad g 39) 33).toInt = (I (ad g 39) 33).toInt + 1) ∧ I' (ad g 0) 10 = I (ad g 0) 10 ∧ I' (ad g 0) 14 = I (ad g 0) 14 ∧ I' (ad g 0) 68 = I (ad g 0) 68) ∧ ∃ v : Int64, r = some (.long v)) := by
            intro v6267 av6267 bv6267
            refine WQ_iast dX11_dayOf_78 (ly_is hy 40 13 rfl) (ly_n hy 40 3 rfl) (by omega) (by omega) (fun I6269 eI6269 => ?_)
            have hI6269 : MP g n L I6269 := by rw [eI6269]; exact (mp_w hy hI6175 (c := 40) (mi_r hy hI6175.1 (c := 40) (0) (0) (1000000) (by decide) (Or.inl (by decide)) (by decide) (by omega) (by omega)) (by decide) (by decide) (Or.inl (by decide)))
            have e6270 : I6269 (ad g 39) 32 = w6177 := by rw [eI6269, pp_ne _ _ (Or.inl (ly_ne hy (by decide) (by decide) (by decide)))]; exact ew6177
            have e6271 : I6269 (ad g 39) 33 = w6178 := by rw [eI6269, pp_ne _ _ (Or.inl (ly_ne hy (by decide) (by decide) (by decide)))]; exact ew6178
            have e6272 : I6269 (ad g 0) 10 = w6179 := by rw [eI6269, pp_ne _ _ (Or.inl (ly_ne hy (by decide) (by decide) (by decide)))]; exact ew6179
            have e6273 : I6269 (ad g 0) 14 = w6180 := by rw [eI6269, pp_ne _ _ (Or.inl (ly_ne hy (by decide) (by decide) (by decide)))]; exact ew6180
            have e6274 : I6269 (ad g 0) 68 = w6181 := by rw [eI6269, pp_ne _ _ (Or.inl (ly_ne hy (by decide) (by decide) (by decide)))]; exact ew6181
            have e6275 : I6269 (ad g 0) 1 = L := by rw [eI6269, pp_ne _ _ (Or.inl (ly_ne hy (by decide) (by decide) (by decide)))]; exact e6183
            have e6276 : I6269 (ad g 0) 11 = v6185 := by rw [eI6269, pp_ne _ _ (Or.inl (ly_ne hy (by decide) (by decide) (by decide)))]; exact ev6185
            have e6277 : I6269 (ad g 0) 64 = v6254 := by rw [eI6269, pp_ne _ _ (Or.inl (ly_ne hy (by decide) (by decide) (by decide)))]; exact ev6254
            have fr6278 : fs g [56] I I6269 := by rw [eI6269]; exact fs_ppn hy fqI6175 (by decide) (by decide)
            have fr6279 : fz 49 g [0, 35, 36, 37, 40, 41, 39] I I6269 := by rw [eI6269]; exact fzm_pp hy fiI6175 (by decide) (by decide)
            clear eI6269
            refine WP_iinc (ls' := [(0, _), (1, _), (2, _), (3, _), (5, _)]) dX11_dayOf_79 rfl (by decide) rfl ?_
            have hv6280 : (i6174 + Int32.ofInt (1)).toInt = i6174.toInt + (1) := ia_n rfl (by omega) (by omega)
            generalize i6174 + Int32.ofInt (1) = v6280 at hv6280 ⊢
            refine WP_goto 22 dX11_dayOf_82 rfl ?_
            exact WP_sub (fc rfl (fc rfl (fc rfl (fc rfl (fc rfl fn))))) (ihlp22_6181 v6280 I6269 J6176 hI6269 fr6279 fjJ6176 fr6278 w6177 e6270 w6178 e6271 w6179 e6272 w6180 e6273 w6181 e6274 (by omega) (by omega) (by omega) (by omega) (by omega) (by omega) (by omega) (by omega))
          refine WQ_if_ne 60 dX11_dayOf_41 rfl (fun c6280 => ?_) (fun c6280 => ?_)
          · refine WP_ldcw (1000000) dX11_dayOf_60 kX11_460 ?_
            obtain ⟨v6282, hv6282, ev6282⟩ : ∃ v : Int32, v.toInt = 1000000 ∧ ((1000000) : Int32) = v := ⟨(1000000), rfl, rfl⟩
            rw [ev6282]; clear ev6282
            refine WP_goto 78 dX11_dayOf_63 rfl ?_
            exact WP_sub (fc rfl (fc rfl (fc rfl (fc rfl (fc rfl fn))))) (jn78_6267 v6282 (by omega) (by omega))
          · refine WP_aload_n dX11_dayOf_44 rfl ?_
            refine WP_getr dX11_dayOf_45 fX11_259 rfl (ly_is hy 0 11 rfl) (rf hr 0 41 23 (by decide)) ?_
            refine WQ_bipush (7) (7) dX11_dayOf_48 rfl rfl (fun v6283 hv6283 => ?_)
            refine WP_iload dX11_dayOf_50 rfl ?_
            refine WQ_imulK (7) dX11_dayOf_52 hv6283 (by omega) (by omega) (fun v6284 hv6284 => ?_)
            refine WP_iload_n dX11_dayOf_53 rfl ?_
            refine WQ_iadd dX11_dayOf_54 (by omega) (by omega) (fun v6285 hv6285 => ?_)
            refine WQ_ialdb dX11_dayOf_55 (ly_is hy 23 13 rfl) (ly_n hy 23 21 rfl) (by omega) (by omega) (fun q hq => BT_get hI6175.1.1 23 0 21 (-1) (0) (999) (by decide) q (Nat.zero_le _) hq) (fun v6286 av6286 bv6286 zv6286 => ?_)
            refine WQ_iconst (-1) (-1) dX11_dayOf_56 rfl rfl (fun v6287 hv6287 => ?_)
            refine WQ_icmp_ne 66 dX11_dayOf_57 rfl (fun c6287 => ?_) (fun c6287 => ?_)
            · refine WP_aload_n dX11_dayOf_66 rfl ?_
              refine WP_getr dX11_dayOf_67 fX11_259 rfl (ly_is hy 0 11 rfl) (rf hr 0 41 23 (by decide)) ?_
              refine WQ_bipush (7) (7) dX11_dayOf_70 rfl rfl (fun v6289 hv6289 => ?_)
              refine WP_iload dX11_dayOf_72 rfl ?_
              refine WQ_imulK (7) dX11_dayOf_74 hv6289 (by omega) (by omega) (fun v6290 hv6290 => ?_)
              refine WP_iload_n dX11_dayOf_75 rfl ?_
              refine WQ_iadd dX11_dayOf_76 (by omega) (by omega) (fun v6291 hv6291 => ?_)
              refine WQ_ialdb dX11_dayOf_77 (ly_is hy 23 13 rfl) (ly_n hy 23 21 rfl) (by omega) (by omega) (fun q hq => BT_get hI6175.1.1 23 0 21 (-1) (0) (999) (by decide) q (Nat.zero_le _) hq) (fun v6292 av6292 bv6292 zv6292 => ?_)
              have tv6292 : v6292.toInt = v6286.toInt := by rw [← zv6292, ← zv6286, show v6291.toInt.toNat = v6285.toInt.toNat by omega]
              exact WP_sub (fc rfl (fc rfl (fc rfl (fc rfl (fc rfl fn))))) (jn78_6267 v6292 (by omega) (by omega))
            · refine WP_ldcw (1000000) dX11_dayOf_60 kX11_460 ?_
              obtain ⟨v6293, hv6293, ev6293⟩ : ∃ v : Int32, v.toInt = 1000000 ∧ ((1000000) : Int32) = v := ⟨(1000000), rfl, rfl⟩
              rw [ev6293]; clear ev6293
              refine WP_goto 78 dX11_dayOf_63 rfl ?_
              exact WP_sub (fc rfl (fc rfl (fc rfl (fc rfl (fc rfl fn))))) (jn78_6267 v6293 (by omega) (by omega))
    exact WP_sub (fc rfl (fc rfl (fc rfl (fc rfl (fc rfl fn))))) (lp22_6181 _ v6173 I6161 J6162 hI6161 fr6163 fr6165 fr6164 w6172 ew6172 w6033 e6166 w6029 e6167 w6030 e6168 w6031 e6169 (by omega) (by omega) (by omega) (by omega) (by omega) (by omega) (by omega) (Nat.lt_succ_self _))
