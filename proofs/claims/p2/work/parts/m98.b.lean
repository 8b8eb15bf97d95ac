set_option maxHeartbeats 4000000 in
set_option maxRecDepth 100000 in
theorem sm_eachx {g : GG} {n : Int} {L : Int32} (hy : Ly g)  {I : pI} {J : pJ} {R : pR} (hr : Rf g R) (hI : MP g n L I) (th : Int32) (so : Int32) (th_lo : -1 ≤ th.toInt) (th_hi : th.toInt ≤ 2) (so_lo : 0 ≤ so.toInt) (so_hi : so.toInt ≤ 3) (hb : so.toInt < (I (ad g 0) 10).toInt) : SP g mX11_each [.ref (ad g 0), .int th, .int so] I J R (fun r I' J' R' => (I' = I ∧ J' = J ∧ R' = R) ∧ ∃ v : Int32, r = some (.int v) ∧ 0 ≤ v.toInt ∧ v.toInt ≤ 1000000 ∧ v.toInt = EC (I (ad g 40)) (I (ad g 8)) th.toInt so.toInt) := by
  refine SP_of ⟨by decide, rfl⟩ (Nat.le_of_ble_eq_true rfl) ?_
  have e4452 : I (ad g 0) 1 = L := hI.1.2
  have b4453 := BT_get hI.1.1 0 1 2 (0) (0) (900) (by decide) 1 (by decide) (by decide)
  rw [e4452] at b4453
  obtain ⟨w4454, ew4454⟩ : ∃ w : Int32, I (ad g 0) 10 = w := ⟨_, rfl⟩
  have bw4454 := BT_get hI.1.1 0 10 11 (0) (0) (4) (by decide) 10 (by decide) (by decide)
  rw [ew4454] at bw4454
  rw [ew4454] at hb
  refine WP_iload_n dX11_each_0 rfl ?_
  refine WQ_iconst (-1) (-1) dX11_each_1 rfl rfl (fun v4455 hv4455 => ?_)
  refine WQ_icmp_eq 17 dX11_each_2 rfl (fun c4455 => ?_) (fun c4455 => ?_)
  · refine WP_ldcw (1000000) dX11_each_17 kX11_460 ?_
    obtain ⟨v4457, hv4457, ev4457⟩ : ∃ v : Int32, v.toInt = 1000000 ∧ ((1000000) : Int32) = v := ⟨(1000000), rfl, rfl⟩
    rw [ev4457]; clear ev4457
    refine WP_goto 36 dX11_each_20 rfl ?_
    exact WP_iret dX11_each_36 rfl ⟨⟨rfl, rfl, rfl⟩, _, rfl, by omega, by omega, (by unfold EC; rw [if_pos (Or.inl (by omega))]; omega)⟩
  · refine WP_aload_n dX11_each_5 rfl ?_
    refine WP_getr dX11_each_6 fX11_289 rfl (ly_is hy 0 11 rfl) (rf hr 0 62 40 (by decide)) ?_
    refine WP_iload_n dX11_each_9 rfl ?_
    refine WQ_iald dX11_each_10 (ly_is hy 40 13 rfl) (ly_n hy 40 3 rfl) (by omega) (by omega) (fun q hq => BT_get hI.1.1 40 0 3 (0) (0) (1000000) (by decide) q (Nat.zero_le _) hq) (fun v4458 av4458 bv4458 ev4458 => ?_)
    refine WP_ldcw (1000000) dX11_each_11 kX11_460 ?_
    obtain ⟨v4459, hv4459, ev4459⟩ : ∃ v : Int32, v.toInt = 1000000 ∧ ((1000000) : Int32) = v := ⟨(1000000), rfl, rfl⟩
    rw [ev4459]; clear ev4459
    refine WQ_icmp_ne 23 dX11_each_14 rfl (fun c4459 => ?_) (fun c4459 => ?_)
    · refine WP_aload_n dX11_each_23 rfl ?_
      refine WP_getr dX11_each_24 fX11_289 rfl (ly_is hy 0 11 rfl) (rf hr 0 62 40 (by decide)) ?_
      refine WP_iload_n dX11_each_27 rfl ?_
      refine WQ_ialde dX11_each_28 (ly_is hy 40 13 rfl) (ly_n hy 40 3 rfl) (by omega) (by omega) ev4458 ?_
      refine WP_aload_n dX11_each_29 rfl ?_
      refine WP_getr dX11_each_30 fX11_235 rfl (ly_is hy 0 11 rfl) (rf hr 0 26 8 (by decide)) ?_
      refine WP_iload_n dX11_each_33 rfl ?_
      refine WQ_ialdq (q := so.toInt.toNat) dX11_each_34 (ly_is hy 8 13 rfl) (ly_n hy 8 4 rfl) (by omega) (by omega) (by omega) (pp_get hI (by omega) (by rw [ew4454]; omega)) (fun v4462 av4462 bv4462 ev4462 => ?_)
      refine WQ_idivb dX11_each_35 (by omega) (by omega) (fun v4463 pv4463 av4463 bv4463 cv4463 => ?_)
      exact WP_iret dX11_each_36 rfl ⟨⟨rfl, rfl, rfl⟩, _, rfl, by omega, by omega, (by unfold EC; rw [show I (ad g 40) th.toInt.toNat = v4458 by rw [← cl (x := th) (n := th.toInt.toNat) (by omega)]; exact ev4458, if_neg (by omega), show I (ad g 8) so.toInt.toNat = v4462 by rw [← cl (x := so) (n := so.toInt.toNat) (by omega)]; exact ev4462]; exact pv4463)⟩
    · refine WP_ldcw (1000000) dX11_each_17 kX11_460 ?_
      obtain ⟨v4464, hv4464, ev4464⟩ : ∃ v : Int32, v.toInt = 1000000 ∧ ((1000000) : Int32) = v := ⟨(1000000), rfl, rfl⟩
      rw [ev4464]; clear ev4464
      refine WP_goto 36 dX11_each_20 rfl ?_
      exact WP_iret dX11_each_36 rfl ⟨⟨rfl, rfl, rfl⟩, _, rfl, by omega, by omega, (by unfold EC; rw [show I (ad g 40) th.toInt.toNat = v4458 by rw [← cl (x := th) (n := th.toInt.toNat) (by omega)]; exact ev4458, if_pos (Or.inr (by omega))]; omega)⟩
set_option maxHeartbeats 4000000 in
set_option maxRecDepth 100000 in
theorem sm_cutAct {g : GG} {n : Int} {L : Int32} (hy : Ly g)  {I : pI} {J : pJ} {R : pR} (hr : Rf g R) (hI : MP g n L I) (so : Int32) (da : Int32) (ac : Int32) (so_lo : 0 ≤ so.toInt) (so_hi : so.toInt ≤ 3) (da_lo : 0 ≤ da.toInt) (da_hi : da.toInt ≤ 6) (ac_lo : 0 ≤ ac.toInt) (ac_hi : ac.toInt ≤ 47) (hb : so.toInt < (I (ad g 0) 10).toInt) : SP g mX11_cutAct [.ref (ad g 0), .int so, .int da, .int ac] I J R (fun r I' J' R' => (I' = I ∧ J' = J ∧ R' = R) ∧ ∃ v : Int32, r = some (.int v) ∧ 0 ≤ v.toInt ∧ v.toInt ≤ 47 ∧ CUT (I (ad g 24) (7 * so.toInt + da.toInt).toNat).toInt (I (ad g 0) 14).toInt (EC (I (ad g 40)) (I (ad g 8)) (I (ad g 24) (7 * so.toInt + da.toInt).toNat).toInt so.toInt) (EC (I (ad g 40)) (I (ad g 8)) (I (ad g 0) 14).toInt so.toInt) ac.toInt v.toInt) := by
  refine SP_of ⟨by decide, rfl⟩ (Nat.le_of_ble_eq_true rfl) ?_
  have e4465 : I (ad g 0) 1 = L := hI.1.2
  have b4466 := BT_get hI.1.1 0 1 2 (0) (0) (900) (by decide) 1 (by decide) (by decide)
  rw [e4465] at b4466
  obtain ⟨w4467, ew4467⟩ : ∃ w : Int32, I (ad g 0) 10 = w := ⟨_, rfl⟩
  have bw4467 := BT_get hI.1.1 0 10 11 (0) (0) (4) (by decide) 10 (by decide) (by decide)
  rw [ew4467] at bw4467
  rw [ew4467] at hb
  refine WP_aload_n dX11_cutAct_0 rfl ?_
  refine WP_getr dX11_cutAct_1 fX11_261 rfl (ly_is hy 0 11 rfl) (rf hr 0 42 24 (by decide)) ?_
  refine WQ_bipush (7) (7) dX11_cutAct_4 rfl rfl (fun v4468 hv4468 => ?_)
  refine WP_iload_n dX11_cutAct_6 rfl ?_
  refine WQ_imulK (7) dX11_cutAct_7 hv4468 (by omega) (by omega) (fun v4469 hv4469 => ?_)
  refine WP_iload_n dX11_cutAct_8 rfl ?_
  refine WQ_iadd dX11_cutAct_9 (by omega) (by omega) (fun v4470 hv4470 => ?_)
  refine WQ_iald dX11_cutAct_10 (ly_is hy 24 13 rfl) (ly_n hy 24 28 rfl) (by omega) (by omega) (fun q hq => BT_get hI.1.1 24 0 28 (-1) (0) (2) (by decide) q (Nat.zero_le _) hq) (fun v4471 av4471 bv4471 ev4471 => ?_)
  refine WP_istore (ls' := [(0, _), (1, _), (2, _), (3, _), (4, _)]) dX11_cutAct_11 (by decide) rfl ?_
  refine WP_iload_n dX11_cutAct_13 rfl ?_
  refine WQ_iconst (4) (4) dX11_cutAct_14 rfl rfl (fun v4472 hv4472 => ?_)
  refine WQ_iremk (4) dX11_cutAct_15 hv4472 (by decide) (by omega) (fun v4473 hv4473 => ?_)
  refine WP_aload_n dX11_cutAct_16 rfl ?_
  refine WP_iload dX11_cutAct_17 rfl ?_
  refine WP_iload_n dX11_cutAct_19 rfl ?_
  refine WP_callV2 (k := 11) dX11_cutAct_20 ⟨⟨⟨by decide, by decide⟩, zX11_each⟩, lX11_449, by decide, rfl, vX11_each.1, vX11_each.2⟩ (ly_is hy 0 11 rfl) (sm_eachx hy hr hI v4471 so (by omega) (by omega) (by omega) (by omega) (by rw [ew4467]; omega)) (Nat.le_of_ble_eq_true rfl) ?_
  intro r Ia Ja Ra hq
  obtain ⟨⟨ea, eb, ec⟩, v4474, rfl, av4474, bv4474, cv4474⟩ := hq
  show WP _ _ _ _ (.int _ :: _) _ _ _ _
  rw [ea, eb, ec]
  clear ea eb ec Ia Ja Ra
  refine WQ_min dX11_cutAct_23 lX11_417 ⟨by decide, Nat.le_of_ble_eq_true rfl⟩ (fun v4475 av4475 bv4475 cv4475 => ?_)
  refine WP_istore (ls' := [(0, _), (1, _), (2, _), (3, _), (4, _), (5, _)]) dX11_cutAct_26 (by decide) rfl ?_
  refine WP_iload_n dX11_cutAct_28 rfl ?_
  refine WQ_bipush (16) (16) dX11_cutAct_29 rfl rfl (fun v4476 hv4476 => ?_)
  refine WQ_idivk (16) dX11_cutAct_31 hv4476 (by decide) (by omega) (fun v4477 hv4477 => ?_)
  refine WP_aload_n dX11_cutAct_32 rfl ?_
  refine WP_aload_n dX11_cutAct_33 rfl ?_
  refine WQ_geti dX11_cutAct_34 fX11_224 rfl (ly_is hy 0 11 rfl) (BT_get hI.1.1 0 14 15 (-1) (0) (2) (by decide) 14 (by decide) (by decide)) (fun v4478 ev4478 av4478 bv4478 => ?_)
  refine WP_iload_n dX11_cutAct_37 rfl ?_
  refine WP_callV2 (k := 11) dX11_cutAct_38 ⟨⟨⟨by decide, by decide⟩, zX11_each⟩, lX11_449, by decide, rfl, vX11_each.1, vX11_each.2⟩ (ly_is hy 0 11 rfl) (sm_eachx hy hr hI v4478 so (by omega) (by omega) (by omega) (by omega) (by rw [ew4467]; omega)) (Nat.le_of_ble_eq_true rfl) ?_
  intro r Ia Ja Ra hq
  obtain ⟨⟨ea, eb, ec⟩, v4479, rfl, av4479, bv4479, cv4479⟩ := hq
  show WP _ _ _ _ (.int _ :: _) _ _ _ _
  rw [ea, eb, ec]
  clear ea eb ec Ia Ja Ra
  refine WP_iload dX11_cutAct_41 rfl ?_
  refine WP_aload_n dX11_cutAct_43 rfl ?_
  refine WQ_getim dX11_cutAct_44 fX11_224 rfl (ly_is hy 0 11 rfl) ev4478 ?_
  refine WQ_icmp_ne 55 dX11_cutAct_47 rfl (fun c4479 => ?_) (fun c4479 => ?_)
  · refine WQ_iconst (0) (0) dX11_cutAct_55 rfl rfl (fun v4481 hv4481 => ?_)
    refine WQ_isub dX11_cutAct_56 (by omega) (by omega) (fun v4482 hv4482 => ?_)
    refine WQ_min dX11_cutAct_57 lX11_417 ⟨by decide, Nat.le_of_ble_eq_true rfl⟩ (fun v4483 av4483 bv4483 cv4483 => ?_)
    refine WP_istore (ls' := [(0, _), (1, _), (2, _), (3, _), (4, _), (5, _), (6, _)]) dX11_cutAct_60 (by decide) rfl ?_
    refine WQ_bipush (16) (16) dX11_cutAct_62 rfl rfl (fun v4484 hv4484 => ?_)
    refine WP_iload dX11_cutAct_64 rfl ?_
    refine WQ_imulK (16) dX11_cutAct_66 hv4484 (by omega) (by omega) (fun v4485 hv4485 => ?_)
    refine WQ_iconst (4) (4) dX11_cutAct_67 rfl rfl (fun v4486 hv4486 => ?_)
    refine WP_iload_n dX11_cutAct_68 rfl ?_
    refine WQ_iconst (4) (4) dX11_cutAct_69 rfl rfl (fun v4487 hv4487 => ?_)
    refine WQ_idivk (4) dX11_cutAct_70 hv4487 (by decide) (by omega) (fun v4488 hv4488 => ?_)
    refine WQ_iconst (4) (4) dX11_cutAct_71 rfl rfl (fun v4489 hv4489 => ?_)
    refine WQ_iremk (4) dX11_cutAct_72 hv4489 (by decide) (by omega) (fun v4490 hv4490 => ?_)
    refine WQ_imulK (4) dX11_cutAct_73 hv4486 (by omega) (by omega) (fun v4491 hv4491 => ?_)
    refine WQ_iadd dX11_cutAct_74 (by omega) (by omega) (fun v4492 hv4492 => ?_)
    refine WP_iload dX11_cutAct_75 rfl ?_
    refine WQ_iadd dX11_cutAct_77 (by omega) (by omega) (fun v4493 hv4493 => ?_)
    exact WP_iret dX11_cutAct_78 rfl ⟨⟨rfl, rfl, rfl⟩, _, rfl, by omega, by omega, (by
        rw [show I (ad g 24) (7 * so.toInt + da.toInt).toNat = v4471 by rw [← cl (x := v4470) (n := (7 * so.toInt + da.toInt).toNat) (by omega)]; exact ev4471, ev4478, ← cv4474, ← cv4479]
        unfold CUT
        omega)⟩
  · have qe : v4474.toInt = v4479.toInt := by rw [cv4474, cv4479, show v4471.toInt = v4478.toInt by omega]
    refine WP_iload dX11_cutAct_50 rfl ?_
    refine WP_goto 56 dX11_cutAct_52 rfl ?_
    refine WQ_isub dX11_cutAct_56 (by omega) (by omega) (fun v4494 hv4494 => ?_)
    refine WQ_min dX11_cutAct_57 lX11_417 ⟨by decide, Nat.le_of_ble_eq_true rfl⟩ (fun v4495 av4495 bv4495 cv4495 => ?_)
    refine WP_istore (ls' := [(0, _), (1, _), (2, _), (3, _), (4, _), (5, _), (6, _)]) dX11_cutAct_60 (by decide) rfl ?_
    refine WQ_bipush (16) (16) dX11_cutAct_62 rfl rfl (fun v4496 hv4496 => ?_)
    refine WP_iload dX11_cutAct_64 rfl ?_
    refine WQ_imulK (16) dX11_cutAct_66 hv4496 (by omega) (by omega) (fun v4497 hv4497 => ?_)
    refine WQ_iconst (4) (4) dX11_cutAct_67 rfl rfl (fun v4498 hv4498 => ?_)
    refine WP_iload_n dX11_cutAct_68 rfl ?_
    refine WQ_iconst (4) (4) dX11_cutAct_69 rfl rfl (fun v4499 hv4499 => ?_)
    refine WQ_idivk (4) dX11_cutAct_70 hv4499 (by decide) (by omega) (fun v4500 hv4500 => ?_)
    refine WQ_iconst (4) (4) dX11_cutAct_71 rfl rfl (fun v4501 hv4501 => ?_)
    refine WQ_iremk (4) dX11_cutAct_72 hv4501 (by decide) (by omega) (fun v4502 hv4502 => ?_)
    refine WQ_imulK (4) dX11_cutAct_73 hv4498 (by omega) (by omega) (fun v4503 hv4503 => ?_)
    refine WQ_iadd dX11_cutAct_74 (by omega) (by omega) (fun v4504 hv4504 => ?_)
    refine WP_iload dX11_cutAct_75 rfl ?_
    refine WQ_iadd dX11_cutAct_77 (by omega) (by omega) (fun v4505 hv4505 => ?_)
    exact WP_iret dX11_cutAct_78 rfl ⟨⟨rfl, rfl, rfl⟩, _, rfl, by omega, by omega, (by
        rw [show I (ad g 24) (7 * so.toInt + da.toInt).toNat = v4471 by rw [← cl (x := v4470) (n := (7 * so.toInt + da.toInt).toNat) (by omega)]; exact ev4471, ev4478, ← cv4474, ← cv4479]
        unfold CUT
        omega)⟩
set_option maxHeartbeats 4000000 in
set_option maxRecDepth 100000 in
theorem sm_takes {g : GG} {n : Int} {L : Int32} (hy : Ly g)  {I : pI} {J : pJ} {R : pR} (hr : Rf g R) (hI : MP g n L I) (th : Int32) (da : Int32) (un : Int32) (th_lo : -1 ≤ th.toInt) (th_hi : th.toInt ≤ 2) (da_lo : 0 ≤ da.toInt) (da_hi : da.toInt ≤ 6) (un_lo : 0 ≤ un.toInt) (un_hi : un.toInt ≤ 297) (hb : un.toInt = 0 ∨ (0 ≤ th.toInt ∧ ((I (ad g 40) th.toInt.toNat).toInt = 1000000 ∨ un.toInt ≤ (I (ad g 40) th.toInt.toNat).toInt))) : SP g mX11_takes [.ref (ad g 0), .int th, .int da, .int un] I J R (fun r I' J' R' => (MP g n L I' ∧ R' = R ∧ fz 49 g [40, 41] I I' ∧ J' = J ∧ TK (I (ad g 40)) (I' (ad g 40)) th.toInt un.toInt) ∧ r = none) := by
  refine SP_of ⟨by decide, rfl⟩ (Nat.le_of_ble_eq_true rfl) ?_
  have e4506 : I (ad g 0) 1 = L := hI.1.2
  have b4507 := BT_get hI.1.1 0 1 2 (0) (0) (900) (by decide) 1 (by decide) (by decide)
  rw [e4506] at b4507
  have fr0 : fz 49 g [40, 41] I I := fz_rf
  obtain ⟨lm, elm⟩ : ∃ w : Int32, I (ad g 40) th.toNatClampNeg = w := ⟨_, rfl⟩
  have clt : th.toNatClampNeg = th.toInt.toNat := by rw [show th.toNatClampNeg = th.toInt.toNat from rfl]
  have blm := BT_get hI.1.1 40 0 3 (0) (0) (1000000) (by decide) th.toNatClampNeg (Nat.zero_le _) (by rw [clt]; omega)
  rw [elm] at blm
  rw [← clt, elm] at hb
  refine WP_iload_n dX11_takes_0 rfl ?_
  refine WQ_if_ne 5 dX11_takes_1 rfl (fun c4507 => ?_) (fun c4507 => ?_)
  · refine WP_aload_n dX11_takes_5 rfl ?_
    refine WP_getr dX11_takes_6 fX11_292 rfl (ly_is hy 0 11 rfl) (rf hr 0 63 41 (by decide)) ?_
    refine WQ_bipush (7) (7) dX11_takes_9 rfl rfl (fun v4509 hv4509 => ?_)
    refine WP_iload_n dX11_takes_11 rfl ?_
    refine WQ_imulK (7) dX11_takes_12 hv4509 (by omega) (by omega) (fun v4510 hv4510 => ?_)
    refine WP_iload_n dX11_takes_13 rfl ?_
    refine WQ_iadd dX11_takes_14 (by omega) (by omega) (fun v4511 hv4511 => ?_)
    refine WP_dup2 dX11_takes_15 rfl rfl ?_
    refine WQ_ialdu dX11_takes_16 (ly_is hy 41 13 rfl) (ly_n hy 41 21 rfl) (by omega) (by omega) (fun v4512 => ?_)
    refine WP_iload_n dX11_takes_17 rfl ?_
    refine WQ_iaddu dX11_takes_18 (fun v4513 => ?_)
    refine WQ_iast dX11_takes_19 (ly_is hy 41 13 rfl) (ly_n hy 41 21 rfl) (by omega) (by omega) (fun I4514 eI4514 => ?_)
    have hI4514 : MP g n L I4514 := by rw [eI4514]; exact (mp_w hy hI (c := 41) (mi_r0 hy hI.1 (c := 41) (by decide) (Or.inl (by decide)) (by decide)) (by decide) (by decide) (Or.inl (by decide)))
    have e4515 : I4514 (ad g 0) 1 = L := by rw [eI4514, pp_ne _ _ (Or.inl (ly_ne hy (by decide) (by decide) (by decide)))]; exact e4506
    have e4516 : I4514 (ad g 40) th.toNatClampNeg = lm := by rw [eI4514, pp_ne _ _ (Or.inl (ly_ne hy (by decide) (by decide) (by decide)))]; exact elm
    have fr4517 : fz 49 g [40, 41] I I4514 := by rw [eI4514]; exact fzm_pp hy fr0 (by decide) (by decide)
    have TI4514 : I4514 (ad g 40) = I (ad g 40) := by rw [eI4514, pp_off _ _ (ly_ne hy (by decide) (by decide) (by decide))]
    clear eI4514
    refine WP_aload_n dX11_takes_20 rfl ?_
    refine WP_getr dX11_takes_21 fX11_289 rfl (ly_is hy 0 11 rfl) (rf hr 0 62 40 (by decide)) ?_
    refine WP_iload_n dX11_takes_24 rfl ?_
    refine WQ_ialde dX11_takes_25 (ly_is hy 40 13 rfl) (ly_n hy 40 3 rfl) (by omega) (by omega) e4516 ?_
    refine WP_ldcw (1000000) dX11_takes_26 kX11_460 ?_
    obtain ⟨v4519, hv4519, ev4519⟩ : ∃ v : Int32, v.toInt = 1000000 ∧ ((1000000) : Int32) = v := ⟨(1000000), rfl, rfl⟩
    rw [ev4519]; clear ev4519
    refine WQ_icmp_eq 42 dX11_takes_29 rfl (fun c4519 => ?_) (fun c4519 => ?_)
    · exact WP_vret dX11_takes_42 rfl ⟨⟨hI4514, rfl, fr4517, rfl, (fun q => Or.inl (by rw [TI4514]))⟩, rfl⟩
    · refine WP_aload_n dX11_takes_32 rfl ?_
      refine WP_getr dX11_takes_33 fX11_289 rfl (ly_is hy 0 11 rfl) (rf hr 0 62 40 (by decide)) ?_
      refine WP_iload_n dX11_takes_36 rfl ?_
      refine WP_dup2 dX11_takes_37 rfl rfl ?_
      refine WQ_ialde dX11_takes_38 (ly_is hy 40 13 rfl) (ly_n hy 40 3 rfl) (by omega) (by omega) e4516 ?_
      refine WP_iload_n dX11_takes_39 rfl ?_
      refine WQ_isub dX11_takes_40 (by omega) (by omega) (fun v4522 hv4522 => ?_)
      refine WQ_iast dX11_takes_41 (ly_is hy 40 13 rfl) (ly_n hy 40 3 rfl) (by omega) (by omega) (fun I4523 eI4523 => ?_)
      have hI4523 : MP g n L I4523 := by rw [eI4523]; exact (mp_w hy hI4514 (c := 40) (mi_r hy hI4514.1 (c := 40) (0) (0) (1000000) (by decide) (Or.inl (by decide)) (by decide) (by omega) (by omega)) (by decide) (by decide) (Or.inl (by decide)))
      have e4524 : I4523 (ad g 0) 1 = L := by rw [eI4523, pp_ne _ _ (Or.inl (ly_ne hy (by decide) (by decide) (by decide)))]; exact e4515
      have fr4525 : fz 49 g [40, 41] I I4523 := by rw [eI4523]; exact fzm_pp hy fr4517 (by decide) (by decide)
      have TI4523 : TK (I (ad g 40)) (I4523 (ad g 40)) th.toInt un.toInt := by
        intro q
        rw [eI4523, pp_at]
        split
        · rename_i e
          right
          rw [e, elm]
          refine ⟨by rw [clt]; omega, by omega, by omega⟩
        · left; rw [TI4514]
      clear eI4523
      exact WP_vret dX11_takes_42 rfl ⟨⟨hI4523, rfl, fr4525, rfl, TI4523⟩, rfl⟩
  · exact WP_vret dX11_takes_4 rfl ⟨⟨hI, rfl, fr0, rfl, (fun q => Or.inl (by rw [(rfl : I (ad g 40) = I (ad g 40))]))⟩, rfl⟩
