set_option maxHeartbeats 4000000 in
set_option maxRecDepth 100000 in
theorem sm_costx {g : GG} {n : Int} {L : Int32} (hy : Ly g)  {I : pI} {J : pJ} {R : pR} (hr : Rf g R) (hI : MP g n L I) (th : Int32) (da : Int32) (th_lo : -1 ≤ th.toInt) (th_hi : th.toInt ≤ 2) (da_lo : 0 ≤ da.toInt) (da_hi : da.toInt ≤ 6) : SP g mX11_costAt [.ref (ad g 0), .int th, .int da] I J R (fun r I' J' R' => (I' = I ∧ J' = J ∧ R' = R) ∧ ∃ v : Int32, r = some (.int v) ∧ 0 ≤ v.toInt ∧ v.toInt ≤ 20 ∧ v.toInt = CA (I (ad g 22)) th.toInt da.toInt) := by
  refine SP_of ⟨by decide, rfl⟩ (Nat.le_of_ble_eq_true rfl) ?_
  have e4327 : I (ad g 0) 1 = L := hI.1.2
  have b4328 := BT_get hI.1.1 0 1 2 (0) (0) (900) (by decide) 1 (by decide) (by decide)
  rw [e4327] at b4328
  refine WP_iload_n dX11_costAt_0 rfl ?_
  refine WQ_iconst (-1) (-1) dX11_costAt_1 rfl rfl (fun v4329 hv4329 => ?_)
  refine WQ_icmp_ne 9 dX11_costAt_2 rfl (fun c4329 => ?_) (fun c4329 => ?_)
  · refine WP_aload_n dX11_costAt_9 rfl ?_
    refine WP_getr dX11_costAt_10 fX11_257 rfl (ly_is hy 0 11 rfl) (rf hr 0 40 22 (by decide)) ?_
    refine WQ_bipush (7) (7) dX11_costAt_13 rfl rfl (fun v4331 hv4331 => ?_)
    refine WP_iload_n dX11_costAt_15 rfl ?_
    refine WQ_imulK (7) dX11_costAt_16 hv4331 (by omega) (by omega) (fun v4332 hv4332 => ?_)
    refine WP_iload_n dX11_costAt_17 rfl ?_
    refine WQ_iadd dX11_costAt_18 (by omega) (by omega) (fun v4333 hv4333 => ?_)
    refine WQ_iald dX11_costAt_19 (ly_is hy 22 13 rfl) (ly_n hy 22 21 rfl) (by omega) (by omega) (fun q hq => BT_get hI.1.1 22 0 21 (0) (0) (20) (by decide) q (Nat.zero_le _) hq) (fun v4334 av4334 bv4334 ev4334 => ?_)
    exact WP_iret dX11_costAt_20 rfl ⟨⟨rfl, rfl, rfl⟩, _, rfl, by omega, by omega, (by unfold CA; rw [if_neg (by omega), ← cl (x := v4333) (n := (7 * th.toInt + da.toInt).toNat) (by omega), ev4334])⟩
  · refine WQ_iconst (0) (0) dX11_costAt_5 rfl rfl (fun v4335 hv4335 => ?_)
    refine WP_goto 20 dX11_costAt_6 rfl ?_
    exact WP_iret dX11_costAt_20 rfl ⟨⟨rfl, rfl, rfl⟩, _, rfl, by omega, by omega, (by unfold CA; rw [if_pos (by omega)]; omega)⟩
set_option maxHeartbeats 4000000 in
set_option maxRecDepth 100000 in
theorem sm_paysx {g : GG} {n : Int} {L : Int32} (hy : Ly g)  {I : pI} {J : pJ} {R : pR} (hr : Rf g R) (hI : MP g n L I) (so : Int32) (da : Int32) (ac : Int32) (so_lo : 0 ≤ so.toInt) (so_hi : so.toInt ≤ 3) (da_lo : 0 ≤ da.toInt) (da_hi : da.toInt ≤ 6) (ac_lo : 0 ≤ ac.toInt) (ac_hi : ac.toInt ≤ 47) : SP g mX11_paysFor [.ref (ad g 0), .int so, .int da, .int ac] I J R (fun r I' J' R' => (I' = I ∧ J' = J ∧ R' = R) ∧ ∃ v : Int32, r = some (.int v) ∧ 0 ≤ v.toInt ∧ v.toInt ≤ 120 ∧ v.toInt = (ac.toInt % 4) * CA (I (ad g 22)) (I (ad g 24) (7 * so.toInt + da.toInt).toNat).toInt da.toInt + (ac.toInt / 16) * CA (I (ad g 22)) (I (ad g 0) 14).toInt da.toInt) := by
  refine SP_of ⟨by decide, rfl⟩ (Nat.le_of_ble_eq_true rfl) ?_
  have e4336 : I (ad g 0) 1 = L := hI.1.2
  have b4337 := BT_get hI.1.1 0 1 2 (0) (0) (900) (by decide) 1 (by decide) (by decide)
  rw [e4336] at b4337
  refine WP_iload_n dX11_paysFor_0 rfl ?_
  refine WQ_iconst (4) (4) dX11_paysFor_1 rfl rfl (fun v4338 hv4338 => ?_)
  refine WQ_iremk (4) dX11_paysFor_2 hv4338 (by decide) (by omega) (fun v4339 hv4339 => ?_)
  refine WP_aload_n dX11_paysFor_3 rfl ?_
  refine WP_aload_n dX11_paysFor_4 rfl ?_
  refine WP_getr dX11_paysFor_5 fX11_261 rfl (ly_is hy 0 11 rfl) (rf hr 0 42 24 (by decide)) ?_
  refine WQ_bipush (7) (7) dX11_paysFor_8 rfl rfl (fun v4340 hv4340 => ?_)
  refine WP_iload_n dX11_paysFor_10 rfl ?_
  refine WQ_imulK (7) dX11_paysFor_11 hv4340 (by omega) (by omega) (fun v4341 hv4341 => ?_)
  refine WP_iload_n dX11_paysFor_12 rfl ?_
  refine WQ_iadd dX11_paysFor_13 (by omega) (by omega) (fun v4342 hv4342 => ?_)
  refine WQ_iald dX11_paysFor_14 (ly_is hy 24 13 rfl) (ly_n hy 24 28 rfl) (by omega) (by omega) (fun q hq => BT_get hI.1.1 24 0 28 (-1) (0) (2) (by decide) q (Nat.zero_le _) hq) (fun v4343 av4343 bv4343 ev4343 => ?_)
  refine WP_iload_n dX11_paysFor_15 rfl ?_
  refine WP_callV2 (k := 11) dX11_paysFor_16 ⟨⟨⟨by decide, by decide⟩, zX11_costAt⟩, lX11_402, by decide, rfl, vX11_costAt.1, vX11_costAt.2⟩ (ly_is hy 0 11 rfl) (sm_costx hy hr hI v4343 da (by omega) (by omega) (by omega) (by omega)) (Nat.le_of_ble_eq_true rfl) ?_
  intro r Ia Ja Ra hq
  obtain ⟨⟨ea, eb, ec⟩, v4344, rfl, av4344, bv4344, cv4344⟩ := hq
  show WP _ _ _ _ (.int _ :: _) _ _ _ _
  rw [ea, eb, ec]
  clear ea eb ec Ia Ja Ra
  refine WQ_imulb (3) (20) dX11_paysFor_19 ⟨by omega, by omega⟩ ⟨by omega, by omega⟩ (by decide) (fun v4345 pv4345 av4345 bv4345 cv4345 => ?_)
  refine WP_iload_n dX11_paysFor_20 rfl ?_
  refine WQ_bipush (16) (16) dX11_paysFor_21 rfl rfl (fun v4346 hv4346 => ?_)
  refine WQ_idivk (16) dX11_paysFor_23 hv4346 (by decide) (by omega) (fun v4347 hv4347 => ?_)
  refine WP_aload_n dX11_paysFor_24 rfl ?_
  refine WP_aload_n dX11_paysFor_25 rfl ?_
  refine WQ_geti dX11_paysFor_26 fX11_224 rfl (ly_is hy 0 11 rfl) (BT_get hI.1.1 0 14 15 (-1) (0) (2) (by decide) 14 (by decide) (by decide)) (fun v4348 ev4348 av4348 bv4348 => ?_)
  refine WP_iload_n dX11_paysFor_29 rfl ?_
  refine WP_callV2 (k := 11) dX11_paysFor_30 ⟨⟨⟨by decide, by decide⟩, zX11_costAt⟩, lX11_402, by decide, rfl, vX11_costAt.1, vX11_costAt.2⟩ (ly_is hy 0 11 rfl) (sm_costx hy hr hI v4348 da (by omega) (by omega) (by omega) (by omega)) (Nat.le_of_ble_eq_true rfl) ?_
  intro r Ia Ja Ra hq
  obtain ⟨⟨ea, eb, ec⟩, v4349, rfl, av4349, bv4349, cv4349⟩ := hq
  show WP _ _ _ _ (.int _ :: _) _ _ _ _
  rw [ea, eb, ec]
  clear ea eb ec Ia Ja Ra
  refine WQ_imulb (2) (20) dX11_paysFor_33 ⟨by omega, by omega⟩ ⟨by omega, by omega⟩ (by decide) (fun v4350 pv4350 av4350 bv4350 cv4350 => ?_)
  refine WQ_iadd dX11_paysFor_34 (by omega) (by omega) (fun v4351 hv4351 => ?_)
  exact WP_iret dX11_paysFor_35 rfl ⟨⟨rfl, rfl, rfl⟩, _, rfl, by omega, by omega, (by
      have q1 := pv4345
      have q2 := pv4350
      rw [hv4339, cv4344] at q1
      rw [hv4347, cv4349] at q2
      rw [show I (ad g 24) (7 * so.toInt + da.toInt).toNat = v4343 by rw [← cl (x := v4342) (n := (7 * so.toInt + da.toInt).toNat) (by omega)]; exact ev4343, ev4348]
      omega)⟩
set_option maxHeartbeats 4000000 in
set_option maxRecDepth 100000 in
theorem sm_canBuyx {g : GG} {n : Int} {L : Int32} (hy : Ly g)  {I : pI} {J : pJ} {R : pR} (hr : Rf g R) (hI : MP g n L I) (wi : Int32) (co : Int32) (cs : Int32) (wi_lo : 0 ≤ wi.toInt) (wi_hi : wi.toInt ≤ 3) (co_lo : 0 ≤ co.toInt) (co_hi : co.toInt ≤ 60) (cs_lo : 0 ≤ cs.toInt) (cs_hi : cs.toInt ≤ 20) : SP g mX11_canBuy [.int wi, .int co, .int cs] I J R (fun r I' J' R' => (I' = I ∧ J' = J ∧ R' = R) ∧ ∃ v : Int32, r = some (.int v) ∧ 0 ≤ v.toInt ∧ v.toInt ≤ 3 ∧ (v.toInt ≤ wi.toInt ∧ v.toInt * cs.toInt ≤ co.toInt)) := by
  refine SP_of ⟨by decide, rfl⟩ (Nat.le_of_ble_eq_true rfl) ?_
  have e4352 : I (ad g 0) 1 = L := hI.1.2
  have b4353 := BT_get hI.1.1 0 1 2 (0) (0) (900) (by decide) 1 (by decide) (by decide)
  rw [e4352] at b4353
  refine WP_iload_n dX11_canBuy_0 rfl ?_
  refine WP_iload_n dX11_canBuy_1 rfl ?_
  refine WQ_if_ne 9 dX11_canBuy_2 rfl (fun c4353 => ?_) (fun c4353 => ?_)
  · refine WP_iload_n dX11_canBuy_9 rfl ?_
    refine WP_iload_n dX11_canBuy_10 rfl ?_
    refine WQ_idivb dX11_canBuy_11 (by omega) (by omega) (fun v4355 pv4355 av4355 bv4355 cv4355 => ?_)
    refine WQ_min dX11_canBuy_12 lX11_417 ⟨by decide, Nat.le_of_ble_eq_true rfl⟩ (fun v4356 av4356 bv4356 cv4356 => ?_)
    exact WP_iret dX11_canBuy_15 rfl ⟨⟨rfl, rfl, rfl⟩, _, rfl, by omega, by omega, (⟨by omega, by have k := Int.mul_le_mul_of_nonneg_right (show v4356.toInt ≤ v4355.toInt by omega) (show 0 ≤ cs.toInt by omega); omega⟩)⟩
  · refine WP_iload_n dX11_canBuy_5 rfl ?_
    refine WP_goto 12 dX11_canBuy_6 rfl ?_
    refine WQ_min dX11_canBuy_12 lX11_417 ⟨by decide, Nat.le_of_ble_eq_true rfl⟩ (fun v4357 av4357 bv4357 cv4357 => ?_)
    exact WP_iret dX11_canBuy_15 rfl ⟨⟨rfl, rfl, rfl⟩, _, rfl, by omega, by omega, (⟨by omega, by rw [show cs.toInt = 0 by omega, Int.mul_zero]; omega⟩)⟩
