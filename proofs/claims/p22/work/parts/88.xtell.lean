set_option maxHeartbeats 4000000 in
set_option maxRecDepth 100000 in
theorem sx_tellLoss_6 {g : GG} {n : Int} {L : Int32} (hy : LyX g)  {I : pI} {J : pJ} {R : pR} (hr : RfX g R) (hI : XI g n L I) (da : Int32) (lo : Int32) (da_lo : 0 ≤ da.toInt) (da_hi : da.toInt ≤ 6) (lo_lo : 0 ≤ lo.toInt) (lo_hi : lo.toInt ≤ 900) : SP g mX7_tellLoss [.ref (ad g 6), .int da, .int lo] I J R (fun r I' J' R' => (XI g n L I' ∧ R' = R ∧ fz 74 g [7, 21] I I' ∧ fz 74 g [] J J') ∧ r = none) := by
  refine SP_of ⟨by decide, rfl⟩ (Nat.le_of_ble_eq_true rfl) ?_
  have e4304 : I (ad g 1) 1 = L := hI.2
  have b4305 := BT_get hI.1 1 1 2 (0) (0) (900) (by decide) 1 (by decide) (by decide)
  rw [e4304] at b4305
  have fr0 : fz 74 g [7, 21] I I := fz_rf
  have frj0 : fz 74 g [] J J := fz_rf
  refine WP_aload_n dX7_tellLoss_0 rfl ?_
  refine WP_getr dX7_tellLoss_1 fX7_9 rfl (lyx_is hy 6 7 rfl) (rfx hr 6 5 7 (by decide)) ?_
  refine WP_iload_n dX7_tellLoss_4 rfl ?_
  refine WP_iload_n dX7_tellLoss_5 rfl ?_
  refine WQ_iast dX7_tellLoss_6 (lyx_is hy 7 13 rfl) (lyx_n hy 7 7 rfl) (by omega) (by omega) (fun I4306 eI4306 => ?_)
  have hI4306 : XI g n L I4306 := by rw [eI4306]; exact (xi_r hy hI (c := 7) (0) (0) (900) (by decide) (Or.inl (by decide)) (by decide) (by omega) (by omega))
  have e4307 : I4306 (ad g 1) 1 = L := by rw [eI4306, pp_ne _ _ (Or.inl (lyx_ne hy (by decide) (by decide) (by decide)))]; exact e4304
  have fr4308 : fz 74 g [7, 21] I I4306 := by rw [eI4306]; exact fzx_pp hy fr0 (by decide) (by decide)
  clear eI4306
  refine WP_aload_n dX7_tellLoss_7 rfl ?_
  refine WQ_iconst (0) (0) dX7_tellLoss_8 rfl rfl (fun v4309 hv4309 => ?_)
  refine WQ_iconst (0) (0) dX7_tellLoss_9 rfl rfl (fun v4310 hv4310 => ?_)
  refine WP_iload_n dX7_tellLoss_10 rfl ?_
  refine WP_callV3 (k := 7) dX7_tellLoss_11 ⟨⟨⟨by decide, by decide⟩, zX7_hold⟩, lX7_109, by decide, rfl, vX7_hold.1, vX7_hold.2⟩ (lyx_is hy 6 7 rfl) (sx_hold_6 hy hr hI4306 v4309 v4310 da (by omega) (by omega) (by omega) (by omega) ) (Nat.le_of_ble_eq_true rfl) ?_
  intro r I4311 J4312 Ra hq
  obtain ⟨⟨hI4311, ec, fiI4311, fjI4311⟩, rfl⟩ := hq
  rw [ec]
  clear ec Ra
  have fr4313 : fz 74 g [7, 21] I I4311 := fz_tr fr4308 (fz_mono fiI4311 (by decide))
  have fr4314 : fz 74 g [] J J4312 := fz_tr frj0 (fz_mono fjI4311 (by decide))
  have e4315 : I4311 (ad g 1) 1 = L := hI4311.2
  have b4316 := BT_get hI4311.1 1 1 2 (0) (0) (900) (by decide) 1 (by decide) (by decide)
  rw [e4315] at b4316
  exact WP_vret dX7_tellLoss_14 rfl ⟨⟨hI4311, rfl, fr4313, fr4314⟩, rfl⟩
set_option maxHeartbeats 4000000 in
set_option maxRecDepth 100000 in
theorem sx_tellSort_6 {g : GG} {n : Int} {L : Int32} (hy : LyX g)  {I : pI} {J : pJ} {R : pR} (hr : RfX g R) (hI : XI g n L I)   (hb : (I (ad g 4) 1).toInt ≤ 99 ∧ (I (ad g 4) 2).toInt ≤ 1000 ∧ (I (ad g 4) 3).toInt ≤ 60 ∧ (I (ad g 6) 1).toInt ≤ 3) : SP g mX7_tellSort [.ref (ad g 6), .ref (ad g 4)] I J R (fun r I' J' R' => (XI g n L I' ∧ R' = R ∧ fz 74 g [6, 8, 9, 10] I I' ∧ fz 74 g [] J J' ∧ True) ∧ r = none) := by
  refine SP_of ⟨by decide, rfl⟩ (Nat.le_of_ble_eq_true rfl) ?_
  have e4317 : I (ad g 1) 1 = L := hI.2
  have b4318 := BT_get hI.1 1 1 2 (0) (0) (900) (by decide) 1 (by decide) (by decide)
  rw [e4317] at b4318
  have fr0 : fz 74 g [6, 8, 9, 10] I I := fz_rf
  have frj0 : fz 74 g [] J J := fz_rf
  obtain ⟨w4319, ew4319⟩ : ∃ w : Int32, I (ad g 4) 1 = w := ⟨_, rfl⟩
  have bw4319 := BT_get hI.1 4 0 5 (0) (0) (1000) (by decide) 1 (by decide) (by decide)
  rw [ew4319] at bw4319
  obtain ⟨w4320, ew4320⟩ : ∃ w : Int32, I (ad g 4) 2 = w := ⟨_, rfl⟩
  have bw4320 := BT_get hI.1 4 0 5 (0) (0) (1000) (by decide) 2 (by decide) (by decide)
  rw [ew4320] at bw4320
  obtain ⟨w4321, ew4321⟩ : ∃ w : Int32, I (ad g 4) 3 = w := ⟨_, rfl⟩
  have bw4321 := BT_get hI.1 4 0 5 (0) (0) (1000) (by decide) 3 (by decide) (by decide)
  rw [ew4321] at bw4321
  obtain ⟨w4322, ew4322⟩ : ∃ w : Int32, I (ad g 6) 1 = w := ⟨_, rfl⟩
  have bw4322 := BT_get hI.1 6 1 2 (0) (0) (4) (by decide) 1 (by decide) (by decide)
  rw [ew4322] at bw4322
  rw [ew4319, ew4320, ew4321, ew4322] at hb
  refine WP_aload_n dX7_tellSort_0 rfl ?_
  refine WP_getr dX7_tellSort_1 fX7_15 rfl (lyx_is hy 6 7 rfl) (rfx hr 6 6 8 (by decide)) ?_
  refine WP_aload_n dX7_tellSort_4 rfl ?_
  refine WQ_getim dX7_tellSort_5 fX7_65 rfl (lyx_is hy 6 7 rfl) ew4322 ?_
  refine WP_aload_n dX7_tellSort_8 rfl ?_
  refine WQ_iconst (1) (1) dX7_tellSort_9 rfl rfl (fun v4323 hv4323 => ?_)
  refine WQ_ialdm (z := 1) dX7_tellSort_10 (lyx_is hy 4 13 rfl) (lyx_n hy 4 5 rfl) hv4323 (by decide) ew4319 ?_
  refine WQ_iast dX7_tellSort_11 (lyx_is hy 8 13 rfl) (lyx_n hy 8 4 rfl) (by omega) (by omega) (fun I4325 eI4325 => ?_)
  have hI4325 : XI g n L I4325 := by rw [eI4325]; exact (xi_r hy hI (c := 8) (0) (0) (99) (by decide) (Or.inl (by decide)) (by decide) (by omega) (by omega))
  have e4326 : I4325 (ad g 1) 1 = L := by rw [eI4325, pp_ne _ _ (Or.inl (lyx_ne hy (by decide) (by decide) (by decide)))]; exact e4317
  have e4327 : I4325 (ad g 4) 1 = w4319 := by rw [eI4325, pp_ne _ _ (Or.inl (lyx_ne hy (by decide) (by decide) (by decide)))]; exact ew4319
  have e4328 : I4325 (ad g 4) 2 = w4320 := by rw [eI4325, pp_ne _ _ (Or.inl (lyx_ne hy (by decide) (by decide) (by decide)))]; exact ew4320
  have e4329 : I4325 (ad g 4) 3 = w4321 := by rw [eI4325, pp_ne _ _ (Or.inl (lyx_ne hy (by decide) (by decide) (by decide)))]; exact ew4321
  have e4330 : I4325 (ad g 6) 1 = w4322 := by rw [eI4325, pp_ne _ _ (Or.inl (lyx_ne hy (by decide) (by decide) (by decide)))]; exact ew4322
  have fr4331 : fz 74 g [6, 8, 9, 10] I I4325 := by rw [eI4325]; exact fzx_pp hy fr0 (by decide) (by decide)
  clear eI4325
  refine WP_aload_n dX7_tellSort_12 rfl ?_
  refine WP_getr dX7_tellSort_13 fX7_18 rfl (lyx_is hy 6 7 rfl) (rfx hr 6 7 9 (by decide)) ?_
  refine WP_aload_n dX7_tellSort_16 rfl ?_
  refine WQ_getim dX7_tellSort_17 fX7_65 rfl (lyx_is hy 6 7 rfl) e4330 ?_
  refine WP_aload_n dX7_tellSort_20 rfl ?_
  refine WQ_iconst (2) (2) dX7_tellSort_21 rfl rfl (fun v4332 hv4332 => ?_)
  refine WQ_ialdm (z := 2) dX7_tellSort_22 (lyx_is hy 4 13 rfl) (lyx_n hy 4 5 rfl) hv4332 (by decide) e4328 ?_
  refine WQ_iast dX7_tellSort_23 (lyx_is hy 9 13 rfl) (lyx_n hy 9 4 rfl) (by omega) (by omega) (fun I4334 eI4334 => ?_)
  have hI4334 : XI g n L I4334 := by rw [eI4334]; exact (xi_r hy hI4325 (c := 9) (0) (0) (1000) (by decide) (Or.inl (by decide)) (by decide) (by omega) (by omega))
  have e4335 : I4334 (ad g 1) 1 = L := by rw [eI4334, pp_ne _ _ (Or.inl (lyx_ne hy (by decide) (by decide) (by decide)))]; exact e4326
  have e4336 : I4334 (ad g 4) 1 = w4319 := by rw [eI4334, pp_ne _ _ (Or.inl (lyx_ne hy (by decide) (by decide) (by decide)))]; exact e4327
  have e4337 : I4334 (ad g 4) 2 = w4320 := by rw [eI4334, pp_ne _ _ (Or.inl (lyx_ne hy (by decide) (by decide) (by decide)))]; exact e4328
  have e4338 : I4334 (ad g 4) 3 = w4321 := by rw [eI4334, pp_ne _ _ (Or.inl (lyx_ne hy (by decide) (by decide) (by decide)))]; exact e4329
  have e4339 : I4334 (ad g 6) 1 = w4322 := by rw [eI4334, pp_ne _ _ (Or.inl (lyx_ne hy (by decide) (by decide) (by decide)))]; exact e4330
  have fr4340 : fz 74 g [6, 8, 9, 10] I I4334 := by rw [eI4334]; exact fzx_pp hy fr4331 (by decide) (by decide)
  clear eI4334
  refine WP_aload_n dX7_tellSort_24 rfl ?_
  refine WP_getr dX7_tellSort_25 fX7_21 rfl (lyx_is hy 6 7 rfl) (rfx hr 6 8 10 (by decide)) ?_
  refine WP_aload_n dX7_tellSort_28 rfl ?_
  refine WQ_getim dX7_tellSort_29 fX7_65 rfl (lyx_is hy 6 7 rfl) e4339 ?_
  refine WP_aload_n dX7_tellSort_32 rfl ?_
  refine WQ_iconst (3) (3) dX7_tellSort_33 rfl rfl (fun v4341 hv4341 => ?_)
  refine WQ_ialdm (z := 3) dX7_tellSort_34 (lyx_is hy 4 13 rfl) (lyx_n hy 4 5 rfl) hv4341 (by decide) e4338 ?_
  refine WQ_iast dX7_tellSort_35 (lyx_is hy 10 13 rfl) (lyx_n hy 10 4 rfl) (by omega) (by omega) (fun I4343 eI4343 => ?_)
  have hI4343 : XI g n L I4343 := by rw [eI4343]; exact (xi_r hy hI4334 (c := 10) (0) (0) (60) (by decide) (Or.inl (by decide)) (by decide) (by omega) (by omega))
  have e4344 : I4343 (ad g 1) 1 = L := by rw [eI4343, pp_ne _ _ (Or.inl (lyx_ne hy (by decide) (by decide) (by decide)))]; exact e4335
  have e4345 : I4343 (ad g 4) 1 = w4319 := by rw [eI4343, pp_ne _ _ (Or.inl (lyx_ne hy (by decide) (by decide) (by decide)))]; exact e4336
  have e4346 : I4343 (ad g 4) 2 = w4320 := by rw [eI4343, pp_ne _ _ (Or.inl (lyx_ne hy (by decide) (by decide) (by decide)))]; exact e4337
  have e4347 : I4343 (ad g 4) 3 = w4321 := by rw [eI4343, pp_ne _ _ (Or.inl (lyx_ne hy (by decide) (by decide) (by decide)))]; exact e4338
  have e4348 : I4343 (ad g 6) 1 = w4322 := by rw [eI4343, pp_ne _ _ (Or.inl (lyx_ne hy (by decide) (by decide) (by decide)))]; exact e4339
  have fr4349 : fz 74 g [6, 8, 9, 10] I I4343 := by rw [eI4343]; exact fzx_pp hy fr4340 (by decide) (by decide)
  clear eI4343
  refine WP_aload_n dX7_tellSort_36 rfl ?_
  refine WP_dup dX7_tellSort_37 rfl ?_
  refine WQ_getim dX7_tellSort_38 fX7_65 rfl (lyx_is hy 6 7 rfl) e4348 ?_
  refine WQ_iconst (1) (1) dX7_tellSort_41 rfl rfl (fun v4350 hv4350 => ?_)
  refine WQ_iadd dX7_tellSort_42 (by omega) (by omega) (fun v4351 hv4351 => ?_)
  refine WQ_puti dX7_tellSort_43 fX7_65 rfl rfl (lyx_is hy 6 7 rfl) (fun I4352 eI4352 => ?_)
  have hI4352 : XI g n L I4352 := by rw [eI4352]; exact (xi_f hy hI4343 (c := 6) (0) (0) (4) (by decide) (Or.inl (by decide)) (by decide) (by omega) (by omega))
  have e4353 : I4352 (ad g 1) 1 = L := by rw [eI4352, pp_ne _ _ (Or.inl (lyx_ne hy (by decide) (by decide) (by decide)))]; exact e4344
  have e4354 : I4352 (ad g 4) 1 = w4319 := by rw [eI4352, pp_ne _ _ (Or.inl (lyx_ne hy (by decide) (by decide) (by decide)))]; exact e4345
  have e4355 : I4352 (ad g 4) 2 = w4320 := by rw [eI4352, pp_ne _ _ (Or.inl (lyx_ne hy (by decide) (by decide) (by decide)))]; exact e4346
  have e4356 : I4352 (ad g 4) 3 = w4321 := by rw [eI4352, pp_ne _ _ (Or.inl (lyx_ne hy (by decide) (by decide) (by decide)))]; exact e4347
  have e4357 : I4352 (ad g 6) 1 = v4351 := by rw [eI4352, pp_self]
  have fr4358 : fz 74 g [6, 8, 9, 10] I I4352 := by rw [eI4352]; exact fzx_pp hy fr4349 (by decide) (by decide)
  clear eI4352
  exact WP_vret dX7_tellSort_46 rfl ⟨⟨hI4352, rfl, fr4358, frj0, trivial⟩, rfl⟩
set_option maxHeartbeats 4000000 in
set_option maxRecDepth 100000 in
theorem sx_tellThing_6 {g : GG} {n : Int} {L : Int32} (hy : LyX g)  {I : pI} {J : pJ} {R : pR} (hr : RfX g R) (hI : XI g n L I)   (hb : (I (ad g 4) 1).toInt ≤ 1000 ∧ (I (ad g 4) 2).toInt ≤ 9 ∧ (I (ad g 6) 2).toInt ≤ 2) : SP g mX7_tellThing [.ref (ad g 6), .ref (ad g 4)] I J R (fun r I' J' R' => (XI g n L I' ∧ R' = R ∧ fz 74 g [6, 16, 17] I I' ∧ fz 74 g [] J J' ∧ True) ∧ r = none) := by
  refine SP_of ⟨by decide, rfl⟩ (Nat.le_of_ble_eq_true rfl) ?_
  have e4359 : I (ad g 1) 1 = L := hI.2
  have b4360 := BT_get hI.1 1 1 2 (0) (0) (900) (by decide) 1 (by decide) (by decide)
  rw [e4359] at b4360
  have fr0 : fz 74 g [6, 16, 17] I I := fz_rf
  have frj0 : fz 74 g [] J J := fz_rf
  obtain ⟨w4361, ew4361⟩ : ∃ w : Int32, I (ad g 4) 1 = w := ⟨_, rfl⟩
  have bw4361 := BT_get hI.1 4 0 5 (0) (0) (1000) (by decide) 1 (by decide) (by decide)
  rw [ew4361] at bw4361
  obtain ⟨w4362, ew4362⟩ : ∃ w : Int32, I (ad g 4) 2 = w := ⟨_, rfl⟩
  have bw4362 := BT_get hI.1 4 0 5 (0) (0) (1000) (by decide) 2 (by decide) (by decide)
  rw [ew4362] at bw4362
  obtain ⟨w4363, ew4363⟩ : ∃ w : Int32, I (ad g 6) 2 = w := ⟨_, rfl⟩
  have bw4363 := BT_get hI.1 6 2 3 (0) (0) (3) (by decide) 2 (by decide) (by decide)
  rw [ew4363] at bw4363
  rw [ew4361, ew4362, ew4363] at hb
  refine WP_aload_n dX7_tellThing_0 rfl ?_
  refine WP_getr dX7_tellThing_1 fX7_39 rfl (lyx_is hy 6 7 rfl) (rfx hr 6 14 16 (by decide)) ?_
  refine WP_aload_n dX7_tellThing_4 rfl ?_
  refine WQ_getim dX7_tellThing_5 fX7_68 rfl (lyx_is hy 6 7 rfl) ew4363 ?_
  refine WP_aload_n dX7_tellThing_8 rfl ?_
  refine WQ_iconst (1) (1) dX7_tellThing_9 rfl rfl (fun v4364 hv4364 => ?_)
  refine WQ_ialdm (z := 1) dX7_tellThing_10 (lyx_is hy 4 13 rfl) (lyx_n hy 4 5 rfl) hv4364 (by decide) ew4361 ?_
  refine WQ_iast dX7_tellThing_11 (lyx_is hy 16 13 rfl) (lyx_n hy 16 3 rfl) (by omega) (by omega) (fun I4366 eI4366 => ?_)
  have hI4366 : XI g n L I4366 := by rw [eI4366]; exact (xi_r hy hI (c := 16) (0) (0) (1000) (by decide) (Or.inl (by decide)) (by decide) (by omega) (by omega))
  have e4367 : I4366 (ad g 1) 1 = L := by rw [eI4366, pp_ne _ _ (Or.inl (lyx_ne hy (by decide) (by decide) (by decide)))]; exact e4359
  have e4368 : I4366 (ad g 4) 1 = w4361 := by rw [eI4366, pp_ne _ _ (Or.inl (lyx_ne hy (by decide) (by decide) (by decide)))]; exact ew4361
  have e4369 : I4366 (ad g 4) 2 = w4362 := by rw [eI4366, pp_ne _ _ (Or.inl (lyx_ne hy (by decide) (by decide) (by decide)))]; exact ew4362
  have e4370 : I4366 (ad g 6) 2 = w4363 := by rw [eI4366, pp_ne _ _ (Or.inl (lyx_ne hy (by decide) (by decide) (by decide)))]; exact ew4363
  have fr4371 : fz 74 g [6, 16, 17] I I4366 := by rw [eI4366]; exact fzx_pp hy fr0 (by decide) (by decide)
  clear eI4366
  refine WP_aload_n dX7_tellThing_12 rfl ?_
  refine WP_getr dX7_tellThing_13 fX7_42 rfl (lyx_is hy 6 7 rfl) (rfx hr 6 15 17 (by decide)) ?_
  refine WP_aload_n dX7_tellThing_16 rfl ?_
  refine WQ_getim dX7_tellThing_17 fX7_68 rfl (lyx_is hy 6 7 rfl) e4370 ?_
  refine WP_aload_n dX7_tellThing_20 rfl ?_
  refine WQ_iconst (2) (2) dX7_tellThing_21 rfl rfl (fun v4372 hv4372 => ?_)
  refine WQ_ialdm (z := 2) dX7_tellThing_22 (lyx_is hy 4 13 rfl) (lyx_n hy 4 5 rfl) hv4372 (by decide) e4369 ?_
  refine WQ_iast dX7_tellThing_23 (lyx_is hy 17 13 rfl) (lyx_n hy 17 3 rfl) (by omega) (by omega) (fun I4374 eI4374 => ?_)
  have hI4374 : XI g n L I4374 := by rw [eI4374]; exact (xi_r hy hI4366 (c := 17) (0) (0) (9) (by decide) (Or.inl (by decide)) (by decide) (by omega) (by omega))
  have e4375 : I4374 (ad g 1) 1 = L := by rw [eI4374, pp_ne _ _ (Or.inl (lyx_ne hy (by decide) (by decide) (by decide)))]; exact e4367
  have e4376 : I4374 (ad g 4) 1 = w4361 := by rw [eI4374, pp_ne _ _ (Or.inl (lyx_ne hy (by decide) (by decide) (by decide)))]; exact e4368
  have e4377 : I4374 (ad g 4) 2 = w4362 := by rw [eI4374, pp_ne _ _ (Or.inl (lyx_ne hy (by decide) (by decide) (by decide)))]; exact e4369
  have e4378 : I4374 (ad g 6) 2 = w4363 := by rw [eI4374, pp_ne _ _ (Or.inl (lyx_ne hy (by decide) (by decide) (by decide)))]; exact e4370
  have fr4379 : fz 74 g [6, 16, 17] I I4374 := by rw [eI4374]; exact fzx_pp hy fr4371 (by decide) (by decide)
  clear eI4374
  refine WP_aload_n dX7_tellThing_24 rfl ?_
  refine WP_dup dX7_tellThing_25 rfl ?_
  refine WQ_getim dX7_tellThing_26 fX7_68 rfl (lyx_is hy 6 7 rfl) e4378 ?_
  refine WQ_iconst (1) (1) dX7_tellThing_29 rfl rfl (fun v4380 hv4380 => ?_)
  refine WQ_iadd dX7_tellThing_30 (by omega) (by omega) (fun v4381 hv4381 => ?_)
  refine WQ_puti dX7_tellThing_31 fX7_68 rfl rfl (lyx_is hy 6 7 rfl) (fun I4382 eI4382 => ?_)
  have hI4382 : XI g n L I4382 := by rw [eI4382]; exact (xi_f hy hI4374 (c := 6) (0) (0) (3) (by decide) (Or.inl (by decide)) (by decide) (by omega) (by omega))
  have e4383 : I4382 (ad g 1) 1 = L := by rw [eI4382, pp_ne _ _ (Or.inl (lyx_ne hy (by decide) (by decide) (by decide)))]; exact e4375
  have e4384 : I4382 (ad g 4) 1 = w4361 := by rw [eI4382, pp_ne _ _ (Or.inl (lyx_ne hy (by decide) (by decide) (by decide)))]; exact e4376
  have e4385 : I4382 (ad g 4) 2 = w4362 := by rw [eI4382, pp_ne _ _ (Or.inl (lyx_ne hy (by decide) (by decide) (by decide)))]; exact e4377
  have e4386 : I4382 (ad g 6) 2 = v4381 := by rw [eI4382, pp_self]
  have fr4387 : fz 74 g [6, 16, 17] I I4382 := by rw [eI4382]; exact fzx_pp hy fr4379 (by decide) (by decide)
  clear eI4382
  refine WP_aload_n dX7_tellThing_34 rfl ?_
  refine WQ_geti dX7_tellThing_35 fX7_74 rfl (lyx_is hy 6 7 rfl) (BT_get hI4382.1 6 4 5 (-1) (0) (2) (by decide) 4 (by decide) (by decide)) (fun v4388 ev4388 av4388 bv4388 => ?_)
  refine WQ_iconst (-1) (-1) dX7_tellThing_38 rfl rfl (fun v4389 hv4389 => ?_)
  refine WQ_icmp_ne 47 dX7_tellThing_39 rfl (fun c4389 => ?_) (fun c4389 => ?_)
  · exact WP_vret dX7_tellThing_47 rfl ⟨⟨hI4382, rfl, fr4387, frj0, trivial⟩, rfl⟩
  · refine WP_aload_n dX7_tellThing_42 rfl ?_
    refine WQ_iconst (0) (0) dX7_tellThing_43 rfl rfl (fun v4391 hv4391 => ?_)
    refine WQ_puti dX7_tellThing_44 fX7_74 rfl rfl (lyx_is hy 6 7 rfl) (fun I4392 eI4392 => ?_)
    have hI4392 : XI g n L I4392 := by rw [eI4392]; exact (xi_f hy hI4382 (c := 6) (-1) (0) (2) (by decide) (Or.inl (by decide)) (by decide) (by omega) (by omega))
    have e4393 : I4392 (ad g 1) 1 = L := by rw [eI4392, pp_ne _ _ (Or.inl (lyx_ne hy (by decide) (by decide) (by decide)))]; exact e4383
    have e4394 : I4392 (ad g 4) 1 = w4361 := by rw [eI4392, pp_ne _ _ (Or.inl (lyx_ne hy (by decide) (by decide) (by decide)))]; exact e4384
    have e4395 : I4392 (ad g 4) 2 = w4362 := by rw [eI4392, pp_ne _ _ (Or.inl (lyx_ne hy (by decide) (by decide) (by decide)))]; exact e4385
    have e4396 : I4392 (ad g 6) 2 = v4381 := by rw [eI4392, pp_ne _ _ (Or.inr (by decide))]; exact e4386
    have e4397 : I4392 (ad g 6) 4 = v4391 := by rw [eI4392, pp_self]
    have fr4398 : fz 74 g [6, 16, 17] I I4392 := by rw [eI4392]; exact fzx_pp hy fr4387 (by decide) (by decide)
    clear eI4392
    exact WP_vret dX7_tellThing_47 rfl ⟨⟨hI4392, rfl, fr4398, frj0, trivial⟩, rfl⟩
set_option maxHeartbeats 4000000 in
set_option maxRecDepth 100000 in
theorem sx_tellWant_6 {g : GG} {n : Int} {L : Int32} (hy : LyX g)  {I : pI} {J : pJ} {R : pR} (hr : RfX g R) (hI : XI g n L I)   (hb : (I (ad g 4) 0).toInt ≤ 3 ∧ (I (ad g 4) 1).toInt ≤ 2 ∧ (I (ad g 4) 2).toInt ≤ 6 ∧ (I (ad g 4) 3).toInt ≤ 3 ∧ (I (ad g 4) 4).toInt ≤ 99) : SP g mX7_tellWant [.ref (ad g 6), .ref (ad g 4)] I J R (fun r I' J' R' => (XI g n L I' ∧ R' = R ∧ fz 74 g [13, 14, 15, 21] I I' ∧ fz 74 g [] J J' ∧ True) ∧ r = none) := by
  refine SP_of ⟨by decide, rfl⟩ (Nat.le_of_ble_eq_true rfl) ?_
  have e4399 : I (ad g 1) 1 = L := hI.2
  have b4400 := BT_get hI.1 1 1 2 (0) (0) (900) (by decide) 1 (by decide) (by decide)
  rw [e4399] at b4400
  have fr0 : fz 74 g [13, 14, 15, 21] I I := fz_rf
  have frj0 : fz 74 g [] J J := fz_rf
  obtain ⟨w4401, ew4401⟩ : ∃ w : Int32, I (ad g 4) 0 = w := ⟨_, rfl⟩
  have bw4401 := BT_get hI.1 4 0 5 (0) (0) (1000) (by decide) 0 (by decide) (by decide)
  rw [ew4401] at bw4401
  obtain ⟨w4402, ew4402⟩ : ∃ w : Int32, I (ad g 4) 1 = w := ⟨_, rfl⟩
  have bw4402 := BT_get hI.1 4 0 5 (0) (0) (1000) (by decide) 1 (by decide) (by decide)
  rw [ew4402] at bw4402
  obtain ⟨w4403, ew4403⟩ : ∃ w : Int32, I (ad g 4) 2 = w := ⟨_, rfl⟩
  have bw4403 := BT_get hI.1 4 0 5 (0) (0) (1000) (by decide) 2 (by decide) (by decide)
  rw [ew4403] at bw4403
  obtain ⟨w4404, ew4404⟩ : ∃ w : Int32, I (ad g 4) 3 = w := ⟨_, rfl⟩
  have bw4404 := BT_get hI.1 4 0 5 (0) (0) (1000) (by decide) 3 (by decide) (by decide)
  rw [ew4404] at bw4404
  obtain ⟨w4405, ew4405⟩ : ∃ w : Int32, I (ad g 4) 4 = w := ⟨_, rfl⟩
  have bw4405 := BT_get hI.1 4 0 5 (0) (0) (1000) (by decide) 4 (by decide) (by decide)
  rw [ew4405] at bw4405
  rw [ew4401, ew4402, ew4403, ew4404, ew4405] at hb
  refine WP_aload_n dX7_tellWant_0 rfl ?_
  refine WQ_iconst (0) (0) dX7_tellWant_1 rfl rfl (fun v4406 hv4406 => ?_)
  refine WQ_ialdm (z := 0) dX7_tellWant_2 (lyx_is hy 4 13 rfl) (lyx_n hy 4 5 rfl) hv4406 (by decide) ew4401 ?_
  refine WQ_bipush (7) (7) dX7_tellWant_3 rfl rfl (fun v4408 hv4408 => ?_)
  refine WQ_imulk (7) dX7_tellWant_5 hv4408 (by omega) (by omega) (fun v4409 hv4409 => ?_)
  refine WP_aload_n dX7_tellWant_6 rfl ?_
  refine WQ_iconst (2) (2) dX7_tellWant_7 rfl rfl (fun v4410 hv4410 => ?_)
  refine WQ_ialdm (z := 2) dX7_tellWant_8 (lyx_is hy 4 13 rfl) (lyx_n hy 4 5 rfl) hv4410 (by decide) ew4403 ?_
  refine WQ_iadd dX7_tellWant_9 (by omega) (by omega) (fun v4412 hv4412 => ?_)
  refine WP_istore_n (ls' := [(0, _), (1, _), (2, _)]) dX7_tellWant_10 (by decide) rfl ?_
  refine WP_aload_n dX7_tellWant_11 rfl ?_
  refine WP_getr dX7_tellWant_12 fX7_30 rfl (lyx_is hy 6 7 rfl) (rfx hr 6 11 13 (by decide)) ?_
  refine WP_iload_n dX7_tellWant_15 rfl ?_
  refine WP_aload_n dX7_tellWant_16 rfl ?_
  refine WQ_iconst (1) (1) dX7_tellWant_17 rfl rfl (fun v4413 hv4413 => ?_)
  refine WQ_ialdm (z := 1) dX7_tellWant_18 (lyx_is hy 4 13 rfl) (lyx_n hy 4 5 rfl) hv4413 (by decide) ew4402 ?_
  refine WQ_iast dX7_tellWant_19 (lyx_is hy 13 13 rfl) (lyx_n hy 13 28 rfl) (by omega) (by omega) (fun I4415 eI4415 => ?_)
  have hI4415 : XI g n L I4415 := by rw [eI4415]; exact (xi_r hy hI (c := 13) (-1) (0) (2) (by decide) (Or.inl (by decide)) (by decide) (by omega) (by omega))
  have e4416 : I4415 (ad g 1) 1 = L := by rw [eI4415, pp_ne _ _ (Or.inl (lyx_ne hy (by decide) (by decide) (by decide)))]; exact e4399
  have e4417 : I4415 (ad g 4) 0 = w4401 := by rw [eI4415, pp_ne _ _ (Or.inl (lyx_ne hy (by decide) (by decide) (by decide)))]; exact ew4401
  have e4418 : I4415 (ad g 4) 1 = w4402 := by rw [eI4415, pp_ne _ _ (Or.inl (lyx_ne hy (by decide) (by decide) (by decide)))]; exact ew4402
  have e4419 : I4415 (ad g 4) 2 = w4403 := by rw [eI4415, pp_ne _ _ (Or.inl (lyx_ne hy (by decide) (by decide) (by decide)))]; exact ew4403
  have e4420 : I4415 (ad g 4) 3 = w4404 := by rw [eI4415, pp_ne _ _ (Or.inl (lyx_ne hy (by decide) (by decide) (by decide)))]; exact ew4404
  have e4421 : I4415 (ad g 4) 4 = w4405 := by rw [eI4415, pp_ne _ _ (Or.inl (lyx_ne hy (by decide) (by decide) (by decide)))]; exact ew4405
  have fr4422 : fz 74 g [13, 14, 15, 21] I I4415 := by rw [eI4415]; exact fzx_pp hy fr0 (by decide) (by decide)
  clear eI4415
  refine WP_aload_n dX7_tellWant_20 rfl ?_
  refine WP_getr dX7_tellWant_21 fX7_33 rfl (lyx_is hy 6 7 rfl) (rfx hr 6 12 14 (by decide)) ?_
  refine WP_iload_n dX7_tellWant_24 rfl ?_
  refine WP_aload_n dX7_tellWant_25 rfl ?_
  refine WQ_iconst (3) (3) dX7_tellWant_26 rfl rfl (fun v4423 hv4423 => ?_)
  refine WQ_ialdm (z := 3) dX7_tellWant_27 (lyx_is hy 4 13 rfl) (lyx_n hy 4 5 rfl) hv4423 (by decide) e4420 ?_
  refine WQ_iast dX7_tellWant_28 (lyx_is hy 14 13 rfl) (lyx_n hy 14 28 rfl) (by omega) (by omega) (fun I4425 eI4425 => ?_)
  have hI4425 : XI g n L I4425 := by rw [eI4425]; exact (xi_r hy hI4415 (c := 14) (0) (0) (3) (by decide) (Or.inl (by decide)) (by decide) (by omega) (by omega))
  have e4426 : I4425 (ad g 1) 1 = L := by rw [eI4425, pp_ne _ _ (Or.inl (lyx_ne hy (by decide) (by decide) (by decide)))]; exact e4416
  have e4427 : I4425 (ad g 4) 0 = w4401 := by rw [eI4425, pp_ne _ _ (Or.inl (lyx_ne hy (by decide) (by decide) (by decide)))]; exact e4417
  have e4428 : I4425 (ad g 4) 1 = w4402 := by rw [eI4425, pp_ne _ _ (Or.inl (lyx_ne hy (by decide) (by decide) (by decide)))]; exact e4418
  have e4429 : I4425 (ad g 4) 2 = w4403 := by rw [eI4425, pp_ne _ _ (Or.inl (lyx_ne hy (by decide) (by decide) (by decide)))]; exact e4419
  have e4430 : I4425 (ad g 4) 3 = w4404 := by rw [eI4425, pp_ne _ _ (Or.inl (lyx_ne hy (by decide) (by decide) (by decide)))]; exact e4420
  have e4431 : I4425 (ad g 4) 4 = w4405 := by rw [eI4425, pp_ne _ _ (Or.inl (lyx_ne hy (by decide) (by decide) (by decide)))]; exact e4421
  have fr4432 : fz 74 g [13, 14, 15, 21] I I4425 := by rw [eI4425]; exact fzx_pp hy fr4422 (by decide) (by decide)
  clear eI4425
  refine WP_aload_n dX7_tellWant_29 rfl ?_
  refine WP_getr dX7_tellWant_30 fX7_36 rfl (lyx_is hy 6 7 rfl) (rfx hr 6 13 15 (by decide)) ?_
  refine WP_iload_n dX7_tellWant_33 rfl ?_
  refine WP_aload_n dX7_tellWant_34 rfl ?_
  refine WQ_iconst (4) (4) dX7_tellWant_35 rfl rfl (fun v4433 hv4433 => ?_)
  refine WQ_ialdm (z := 4) dX7_tellWant_36 (lyx_is hy 4 13 rfl) (lyx_n hy 4 5 rfl) hv4433 (by decide) e4431 ?_
  refine WQ_iast dX7_tellWant_37 (lyx_is hy 15 13 rfl) (lyx_n hy 15 28 rfl) (by omega) (by omega) (fun I4435 eI4435 => ?_)
  have hI4435 : XI g n L I4435 := by rw [eI4435]; exact (xi_r hy hI4425 (c := 15) (0) (0) (99) (by decide) (Or.inl (by decide)) (by decide) (by omega) (by omega))
  have e4436 : I4435 (ad g 1) 1 = L := by rw [eI4435, pp_ne _ _ (Or.inl (lyx_ne hy (by decide) (by decide) (by decide)))]; exact e4426
  have e4437 : I4435 (ad g 4) 0 = w4401 := by rw [eI4435, pp_ne _ _ (Or.inl (lyx_ne hy (by decide) (by decide) (by decide)))]; exact e4427
  have e4438 : I4435 (ad g 4) 1 = w4402 := by rw [eI4435, pp_ne _ _ (Or.inl (lyx_ne hy (by decide) (by decide) (by decide)))]; exact e4428
  have e4439 : I4435 (ad g 4) 2 = w4403 := by rw [eI4435, pp_ne _ _ (Or.inl (lyx_ne hy (by decide) (by decide) (by decide)))]; exact e4429
  have e4440 : I4435 (ad g 4) 3 = w4404 := by rw [eI4435, pp_ne _ _ (Or.inl (lyx_ne hy (by decide) (by decide) (by decide)))]; exact e4430
  have e4441 : I4435 (ad g 4) 4 = w4405 := by rw [eI4435, pp_ne _ _ (Or.inl (lyx_ne hy (by decide) (by decide) (by decide)))]; exact e4431
  have fr4442 : fz 74 g [13, 14, 15, 21] I I4435 := by rw [eI4435]; exact fzx_pp hy fr4432 (by decide) (by decide)
  clear eI4435
  refine WP_aload_n dX7_tellWant_38 rfl ?_
  refine WQ_bipush (6) (6) dX7_tellWant_39 rfl rfl (fun v4443 hv4443 => ?_)
  refine WP_aload_n dX7_tellWant_41 rfl ?_
  refine WQ_iconst (0) (0) dX7_tellWant_42 rfl rfl (fun v4444 hv4444 => ?_)
  refine WQ_ialdm (z := 0) dX7_tellWant_43 (lyx_is hy 4 13 rfl) (lyx_n hy 4 5 rfl) hv4444 (by decide) e4437 ?_
  refine WP_aload_n dX7_tellWant_44 rfl ?_
  refine WQ_iconst (2) (2) dX7_tellWant_45 rfl rfl (fun v4446 hv4446 => ?_)
  refine WQ_ialdm (z := 2) dX7_tellWant_46 (lyx_is hy 4 13 rfl) (lyx_n hy 4 5 rfl) hv4446 (by decide) e4439 ?_
  refine WP_callV3 (k := 7) dX7_tellWant_47 ⟨⟨⟨by decide, by decide⟩, zX7_hold⟩, lX7_109, by decide, rfl, vX7_hold.1, vX7_hold.2⟩ (lyx_is hy 6 7 rfl) (sx_hold_6 hy hr hI4435 v4443 w4401 w4403 (by omega) (by omega) (by omega) (by omega) ) (Nat.le_of_ble_eq_true rfl) ?_
  intro r I4448 J4449 Ra hq
  obtain ⟨⟨hI4448, ec, fiI4448, fjI4448⟩, rfl⟩ := hq
  rw [ec]
  clear ec Ra
  have fr4450 : fz 74 g [13, 14, 15, 21] I I4448 := fz_tr fr4442 (fz_mono fiI4448 (by decide))
  have fr4451 : fz 74 g [] J J4449 := fz_tr frj0 (fz_mono fjI4448 (by decide))
  have e4452 : I4448 (ad g 1) 1 = L := hI4448.2
  have b4453 := BT_get hI4448.1 1 1 2 (0) (0) (900) (by decide) 1 (by decide) (by decide)
  rw [e4452] at b4453
  exact WP_vret dX7_tellWant_50 rfl ⟨⟨hI4448, rfl, fr4450, fr4451, trivial⟩, rfl⟩
set_option maxHeartbeats 4000000 in
set_option maxRecDepth 100000 in
theorem sx_tellOn_6_3 {g : GG} {n : Int} {L : Int32} (hy : LyX g)  {I : pI} {J : pJ} {R : pR} (hr : RfX g R) (hI : XI g n L I) (cl : Int32) (cl_lo : 3 ≤ cl.toInt) (cl_hi : cl.toInt ≤ 3) (hb : (I (ad g 4) 0).toInt ≤ 3 ∧ (I (ad g 4) 1).toInt ≤ 6 ∧ (I (ad g 4) 2).toInt ≤ 20) : SP g mX7_tellOn [.ref (ad g 6), .ref (ad g 12), .int cl, .ref (ad g 4)] I J R (fun r I' J' R' => (XI g n L I' ∧ R' = R ∧ fz 74 g [12, 21] I I' ∧ fz 74 g [] J J' ∧ True) ∧ r = none) := by
  refine SP_of ⟨by decide, rfl⟩ (Nat.le_of_ble_eq_true rfl) ?_
  have e4454 : I (ad g 1) 1 = L := hI.2
  have b4455 := BT_get hI.1 1 1 2 (0) (0) (900) (by decide) 1 (by decide) (by decide)
  rw [e4454] at b4455
  have fr0 : fz 74 g [12, 21] I I := fz_rf
  have frj0 : fz 74 g [] J J := fz_rf
  obtain ⟨w4456, ew4456⟩ : ∃ w : Int32, I (ad g 4) 0 = w := ⟨_, rfl⟩
  have bw4456 := BT_get hI.1 4 0 5 (0) (0) (1000) (by decide) 0 (by decide) (by decide)
  rw [ew4456] at bw4456
  obtain ⟨w4457, ew4457⟩ : ∃ w : Int32, I (ad g 4) 1 = w := ⟨_, rfl⟩
  have bw4457 := BT_get hI.1 4 0 5 (0) (0) (1000) (by decide) 1 (by decide) (by decide)
  rw [ew4457] at bw4457
  obtain ⟨w4458, ew4458⟩ : ∃ w : Int32, I (ad g 4) 2 = w := ⟨_, rfl⟩
  have bw4458 := BT_get hI.1 4 0 5 (0) (0) (1000) (by decide) 2 (by decide) (by decide)
  rw [ew4458] at bw4458
  rw [ew4456, ew4457, ew4458] at hb
  refine WP_aload_n dX7_tellOn_0 rfl ?_
  refine WP_aload_n dX7_tellOn_1 rfl ?_
  refine WQ_iconst (0) (0) dX7_tellOn_2 rfl rfl (fun v4459 hv4459 => ?_)
  refine WQ_ialdm (z := 0) dX7_tellOn_3 (lyx_is hy 4 13 rfl) (lyx_n hy 4 5 rfl) hv4459 (by decide) ew4456 ?_
  refine WQ_bipush (7) (7) dX7_tellOn_4 rfl rfl (fun v4461 hv4461 => ?_)
  refine WQ_imulk (7) dX7_tellOn_6 hv4461 (by omega) (by omega) (fun v4462 hv4462 => ?_)
  refine WP_aload_n dX7_tellOn_7 rfl ?_
  refine WQ_iconst (1) (1) dX7_tellOn_8 rfl rfl (fun v4463 hv4463 => ?_)
  refine WQ_ialdm (z := 1) dX7_tellOn_9 (lyx_is hy 4 13 rfl) (lyx_n hy 4 5 rfl) hv4463 (by decide) ew4457 ?_
  refine WQ_iadd dX7_tellOn_10 (by omega) (by omega) (fun v4465 hv4465 => ?_)
  refine WP_aload_n dX7_tellOn_11 rfl ?_
  refine WQ_iconst (2) (2) dX7_tellOn_12 rfl rfl (fun v4466 hv4466 => ?_)
  refine WQ_ialdm (z := 2) dX7_tellOn_13 (lyx_is hy 4 13 rfl) (lyx_n hy 4 5 rfl) hv4466 (by decide) ew4458 ?_
  refine WQ_iast dX7_tellOn_14 (lyx_is hy 12 13 rfl) (lyx_n hy 12 28 rfl) (by omega) (by omega) (fun I4468 eI4468 => ?_)
  have hI4468 : XI g n L I4468 := by rw [eI4468]; exact (xi_r hy hI (c := 12) (0) (0) (20) (by decide) (Or.inl (by decide)) (by decide) (by omega) (by omega))
  have e4469 : I4468 (ad g 1) 1 = L := by rw [eI4468, pp_ne _ _ (Or.inl (lyx_ne hy (by decide) (by decide) (by decide)))]; exact e4454
  have e4470 : I4468 (ad g 4) 0 = w4456 := by rw [eI4468, pp_ne _ _ (Or.inl (lyx_ne hy (by decide) (by decide) (by decide)))]; exact ew4456
  have e4471 : I4468 (ad g 4) 1 = w4457 := by rw [eI4468, pp_ne _ _ (Or.inl (lyx_ne hy (by decide) (by decide) (by decide)))]; exact ew4457
  have e4472 : I4468 (ad g 4) 2 = w4458 := by rw [eI4468, pp_ne _ _ (Or.inl (lyx_ne hy (by decide) (by decide) (by decide)))]; exact ew4458
  have fr4473 : fz 74 g [12, 21] I I4468 := by rw [eI4468]; exact fzx_pp hy fr0 (by decide) (by decide)
  clear eI4468
  refine WP_aload_n dX7_tellOn_15 rfl ?_
  refine WP_iload_n dX7_tellOn_16 rfl ?_
  refine WP_aload_n dX7_tellOn_17 rfl ?_
  refine WQ_iconst (0) (0) dX7_tellOn_18 rfl rfl (fun v4474 hv4474 => ?_)
  refine WQ_ialdm (z := 0) dX7_tellOn_19 (lyx_is hy 4 13 rfl) (lyx_n hy 4 5 rfl) hv4474 (by decide) e4470 ?_
  refine WP_aload_n dX7_tellOn_20 rfl ?_
  refine WQ_iconst (1) (1) dX7_tellOn_21 rfl rfl (fun v4476 hv4476 => ?_)
  refine WQ_ialdm (z := 1) dX7_tellOn_22 (lyx_is hy 4 13 rfl) (lyx_n hy 4 5 rfl) hv4476 (by decide) e4471 ?_
  refine WP_callV3 (k := 7) dX7_tellOn_23 ⟨⟨⟨by decide, by decide⟩, zX7_hold⟩, lX7_109, by decide, rfl, vX7_hold.1, vX7_hold.2⟩ (lyx_is hy 6 7 rfl) (sx_hold_6 hy hr hI4468 cl w4456 w4457 (by omega) (by omega) (by omega) (by omega) ) (Nat.le_of_ble_eq_true rfl) ?_
  intro r I4478 J4479 Ra hq
  obtain ⟨⟨hI4478, ec, fiI4478, fjI4478⟩, rfl⟩ := hq
  rw [ec]
  clear ec Ra
  have fr4480 : fz 74 g [12, 21] I I4478 := fz_tr fr4473 (fz_mono fiI4478 (by decide))
  have fr4481 : fz 74 g [] J J4479 := fz_tr frj0 (fz_mono fjI4478 (by decide))
  have e4482 : I4478 (ad g 1) 1 = L := hI4478.2
  have b4483 := BT_get hI4478.1 1 1 2 (0) (0) (900) (by decide) 1 (by decide) (by decide)
  rw [e4482] at b4483
  exact WP_vret dX7_tellOn_26 rfl ⟨⟨hI4478, rfl, fr4480, fr4481, trivial⟩, rfl⟩
set_option maxHeartbeats 4000000 in
set_option maxRecDepth 100000 in
theorem sx_tellOn_6_4 {g : GG} {n : Int} {L : Int32} (hy : LyX g)  {I : pI} {J : pJ} {R : pR} (hr : RfX g R) (hI : XI g n L I) (cl : Int32) (cl_lo : 4 ≤ cl.toInt) (cl_hi : cl.toInt ≤ 4) (hb : (I (ad g 4) 0).toInt ≤ 2 ∧ (I (ad g 4) 1).toInt ≤ 6 ∧ (I (ad g 4) 2).toInt ≤ 20) : SP g mX7_tellOn [.ref (ad g 6), .ref (ad g 18), .int cl, .ref (ad g 4)] I J R (fun r I' J' R' => (XI g n L I' ∧ R' = R ∧ fz 74 g [18, 21] I I' ∧ fz 74 g [] J J' ∧ True) ∧ r = none) := by
  refine SP_of ⟨by decide, rfl⟩ (Nat.le_of_ble_eq_true rfl) ?_
  have e4484 : I (ad g 1) 1 = L := hI.2
  have b4485 := BT_get hI.1 1 1 2 (0) (0) (900) (by decide) 1 (by decide) (by decide)
  rw [e4484] at b4485
  have fr0 : fz 74 g [18, 21] I I := fz_rf
  have frj0 : fz 74 g [] J J := fz_rf
  obtain ⟨w4486, ew4486⟩ : ∃ w : Int32, I (ad g 4) 0 = w := ⟨_, rfl⟩
  have bw4486 := BT_get hI.1 4 0 5 (0) (0) (1000) (by decide) 0 (by decide) (by decide)
  rw [ew4486] at bw4486
  obtain ⟨w4487, ew4487⟩ : ∃ w : Int32, I (ad g 4) 1 = w := ⟨_, rfl⟩
  have bw4487 := BT_get hI.1 4 0 5 (0) (0) (1000) (by decide) 1 (by decide) (by decide)
  rw [ew4487] at bw4487
  obtain ⟨w4488, ew4488⟩ : ∃ w : Int32, I (ad g 4) 2 = w := ⟨_, rfl⟩
  have bw4488 := BT_get hI.1 4 0 5 (0) (0) (1000) (by decide) 2 (by decide) (by decide)
  rw [ew4488] at bw4488
  rw [ew4486, ew4487, ew4488] at hb
  refine WP_aload_n dX7_tellOn_0 rfl ?_
  refine WP_aload_n dX7_tellOn_1 rfl ?_
  refine WQ_iconst (0) (0) dX7_tellOn_2 rfl rfl (fun v4489 hv4489 => ?_)
  refine WQ_ialdm (z := 0) dX7_tellOn_3 (lyx_is hy 4 13 rfl) (lyx_n hy 4 5 rfl) hv4489 (by decide) ew4486 ?_
  refine WQ_bipush (7) (7) dX7_tellOn_4 rfl rfl (fun v4491 hv4491 => ?_)
  refine WQ_imulk (7) dX7_tellOn_6 hv4491 (by omega) (by omega) (fun v4492 hv4492 => ?_)
  refine WP_aload_n dX7_tellOn_7 rfl ?_
  refine WQ_iconst (1) (1) dX7_tellOn_8 rfl rfl (fun v4493 hv4493 => ?_)
  refine WQ_ialdm (z := 1) dX7_tellOn_9 (lyx_is hy 4 13 rfl) (lyx_n hy 4 5 rfl) hv4493 (by decide) ew4487 ?_
  refine WQ_iadd dX7_tellOn_10 (by omega) (by omega) (fun v4495 hv4495 => ?_)
  refine WP_aload_n dX7_tellOn_11 rfl ?_
  refine WQ_iconst (2) (2) dX7_tellOn_12 rfl rfl (fun v4496 hv4496 => ?_)
  refine WQ_ialdm (z := 2) dX7_tellOn_13 (lyx_is hy 4 13 rfl) (lyx_n hy 4 5 rfl) hv4496 (by decide) ew4488 ?_
  refine WQ_iast dX7_tellOn_14 (lyx_is hy 18 13 rfl) (lyx_n hy 18 21 rfl) (by omega) (by omega) (fun I4498 eI4498 => ?_)
  have hI4498 : XI g n L I4498 := by rw [eI4498]; exact (xi_r hy hI (c := 18) (0) (0) (20) (by decide) (Or.inl (by decide)) (by decide) (by omega) (by omega))
  have e4499 : I4498 (ad g 1) 1 = L := by rw [eI4498, pp_ne _ _ (Or.inl (lyx_ne hy (by decide) (by decide) (by decide)))]; exact e4484
  have e4500 : I4498 (ad g 4) 0 = w4486 := by rw [eI4498, pp_ne _ _ (Or.inl (lyx_ne hy (by decide) (by decide) (by decide)))]; exact ew4486
  have e4501 : I4498 (ad g 4) 1 = w4487 := by rw [eI4498, pp_ne _ _ (Or.inl (lyx_ne hy (by decide) (by decide) (by decide)))]; exact ew4487
  have e4502 : I4498 (ad g 4) 2 = w4488 := by rw [eI4498, pp_ne _ _ (Or.inl (lyx_ne hy (by decide) (by decide) (by decide)))]; exact ew4488
  have fr4503 : fz 74 g [18, 21] I I4498 := by rw [eI4498]; exact fzx_pp hy fr0 (by decide) (by decide)
  clear eI4498
  refine WP_aload_n dX7_tellOn_15 rfl ?_
  refine WP_iload_n dX7_tellOn_16 rfl ?_
  refine WP_aload_n dX7_tellOn_17 rfl ?_
  refine WQ_iconst (0) (0) dX7_tellOn_18 rfl rfl (fun v4504 hv4504 => ?_)
  refine WQ_ialdm (z := 0) dX7_tellOn_19 (lyx_is hy 4 13 rfl) (lyx_n hy 4 5 rfl) hv4504 (by decide) e4500 ?_
  refine WP_aload_n dX7_tellOn_20 rfl ?_
  refine WQ_iconst (1) (1) dX7_tellOn_21 rfl rfl (fun v4506 hv4506 => ?_)
  refine WQ_ialdm (z := 1) dX7_tellOn_22 (lyx_is hy 4 13 rfl) (lyx_n hy 4 5 rfl) hv4506 (by decide) e4501 ?_
  refine WP_callV3 (k := 7) dX7_tellOn_23 ⟨⟨⟨by decide, by decide⟩, zX7_hold⟩, lX7_109, by decide, rfl, vX7_hold.1, vX7_hold.2⟩ (lyx_is hy 6 7 rfl) (sx_hold_6 hy hr hI4498 cl w4486 w4487 (by omega) (by omega) (by omega) (by omega) ) (Nat.le_of_ble_eq_true rfl) ?_
  intro r I4508 J4509 Ra hq
  obtain ⟨⟨hI4508, ec, fiI4508, fjI4508⟩, rfl⟩ := hq
  rw [ec]
  clear ec Ra
  have fr4510 : fz 74 g [18, 21] I I4508 := fz_tr fr4503 (fz_mono fiI4508 (by decide))
  have fr4511 : fz 74 g [] J J4509 := fz_tr frj0 (fz_mono fjI4508 (by decide))
  have e4512 : I4508 (ad g 1) 1 = L := hI4508.2
  have b4513 := BT_get hI4508.1 1 1 2 (0) (0) (900) (by decide) 1 (by decide) (by decide)
  rw [e4512] at b4513
  exact WP_vret dX7_tellOn_26 rfl ⟨⟨hI4508, rfl, fr4510, fr4511, trivial⟩, rfl⟩
set_option maxHeartbeats 4000000 in
set_option maxRecDepth 100000 in
theorem sx_tellOn_6_5 {g : GG} {n : Int} {L : Int32} (hy : LyX g)  {I : pI} {J : pJ} {R : pR} (hr : RfX g R) (hI : XI g n L I) (cl : Int32) (cl_lo : 5 ≤ cl.toInt) (cl_hi : cl.toInt ≤ 5) (hb : (I (ad g 4) 0).toInt ≤ 2 ∧ (I (ad g 4) 1).toInt ≤ 6 ∧ (I (ad g 4) 2).toInt ≤ 999) : SP g mX7_tellOn [.ref (ad g 6), .ref (ad g 19), .int cl, .ref (ad g 4)] I J R (fun r I' J' R' => (XI g n L I' ∧ R' = R ∧ fz 74 g [19, 21] I I' ∧ fz 74 g [] J J' ∧ True) ∧ r = none) := by
  refine SP_of ⟨by decide, rfl⟩ (Nat.le_of_ble_eq_true rfl) ?_
  have e4514 : I (ad g 1) 1 = L := hI.2
  have b4515 := BT_get hI.1 1 1 2 (0) (0) (900) (by decide) 1 (by decide) (by decide)
  rw [e4514] at b4515
  have fr0 : fz 74 g [19, 21] I I := fz_rf
  have frj0 : fz 74 g [] J J := fz_rf
  obtain ⟨w4516, ew4516⟩ : ∃ w : Int32, I (ad g 4) 0 = w := ⟨_, rfl⟩
  have bw4516 := BT_get hI.1 4 0 5 (0) (0) (1000) (by decide) 0 (by decide) (by decide)
  rw [ew4516] at bw4516
  obtain ⟨w4517, ew4517⟩ : ∃ w : Int32, I (ad g 4) 1 = w := ⟨_, rfl⟩
  have bw4517 := BT_get hI.1 4 0 5 (0) (0) (1000) (by decide) 1 (by decide) (by decide)
  rw [ew4517] at bw4517
  obtain ⟨w4518, ew4518⟩ : ∃ w : Int32, I (ad g 4) 2 = w := ⟨_, rfl⟩
  have bw4518 := BT_get hI.1 4 0 5 (0) (0) (1000) (by decide) 2 (by decide) (by decide)
  rw [ew4518] at bw4518
  rw [ew4516, ew4517, ew4518] at hb
  refine WP_aload_n dX7_tellOn_0 rfl ?_
  refine WP_aload_n dX7_tellOn_1 rfl ?_
  refine WQ_iconst (0) (0) dX7_tellOn_2 rfl rfl (fun v4519 hv4519 => ?_)
  refine WQ_ialdm (z := 0) dX7_tellOn_3 (lyx_is hy 4 13 rfl) (lyx_n hy 4 5 rfl) hv4519 (by decide) ew4516 ?_
  refine WQ_bipush (7) (7) dX7_tellOn_4 rfl rfl (fun v4521 hv4521 => ?_)
  refine WQ_imulk (7) dX7_tellOn_6 hv4521 (by omega) (by omega) (fun v4522 hv4522 => ?_)
  refine WP_aload_n dX7_tellOn_7 rfl ?_
  refine WQ_iconst (1) (1) dX7_tellOn_8 rfl rfl (fun v4523 hv4523 => ?_)
  refine WQ_ialdm (z := 1) dX7_tellOn_9 (lyx_is hy 4 13 rfl) (lyx_n hy 4 5 rfl) hv4523 (by decide) ew4517 ?_
  refine WQ_iadd dX7_tellOn_10 (by omega) (by omega) (fun v4525 hv4525 => ?_)
  refine WP_aload_n dX7_tellOn_11 rfl ?_
  refine WQ_iconst (2) (2) dX7_tellOn_12 rfl rfl (fun v4526 hv4526 => ?_)
  refine WQ_ialdm (z := 2) dX7_tellOn_13 (lyx_is hy 4 13 rfl) (lyx_n hy 4 5 rfl) hv4526 (by decide) ew4518 ?_
  refine WQ_iast dX7_tellOn_14 (lyx_is hy 19 13 rfl) (lyx_n hy 19 21 rfl) (by omega) (by omega) (fun I4528 eI4528 => ?_)
  have hI4528 : XI g n L I4528 := by rw [eI4528]; exact (xi_r hy hI (c := 19) (-1) (0) (999) (by decide) (Or.inl (by decide)) (by decide) (by omega) (by omega))
  have e4529 : I4528 (ad g 1) 1 = L := by rw [eI4528, pp_ne _ _ (Or.inl (lyx_ne hy (by decide) (by decide) (by decide)))]; exact e4514
  have e4530 : I4528 (ad g 4) 0 = w4516 := by rw [eI4528, pp_ne _ _ (Or.inl (lyx_ne hy (by decide) (by decide) (by decide)))]; exact ew4516
  have e4531 : I4528 (ad g 4) 1 = w4517 := by rw [eI4528, pp_ne _ _ (Or.inl (lyx_ne hy (by decide) (by decide) (by decide)))]; exact ew4517
  have e4532 : I4528 (ad g 4) 2 = w4518 := by rw [eI4528, pp_ne _ _ (Or.inl (lyx_ne hy (by decide) (by decide) (by decide)))]; exact ew4518
  have fr4533 : fz 74 g [19, 21] I I4528 := by rw [eI4528]; exact fzx_pp hy fr0 (by decide) (by decide)
  clear eI4528
  refine WP_aload_n dX7_tellOn_15 rfl ?_
  refine WP_iload_n dX7_tellOn_16 rfl ?_
  refine WP_aload_n dX7_tellOn_17 rfl ?_
  refine WQ_iconst (0) (0) dX7_tellOn_18 rfl rfl (fun v4534 hv4534 => ?_)
  refine WQ_ialdm (z := 0) dX7_tellOn_19 (lyx_is hy 4 13 rfl) (lyx_n hy 4 5 rfl) hv4534 (by decide) e4530 ?_
  refine WP_aload_n dX7_tellOn_20 rfl ?_
  refine WQ_iconst (1) (1) dX7_tellOn_21 rfl rfl (fun v4536 hv4536 => ?_)
  refine WQ_ialdm (z := 1) dX7_tellOn_22 (lyx_is hy 4 13 rfl) (lyx_n hy 4 5 rfl) hv4536 (by decide) e4531 ?_
  refine WP_callV3 (k := 7) dX7_tellOn_23 ⟨⟨⟨by decide, by decide⟩, zX7_hold⟩, lX7_109, by decide, rfl, vX7_hold.1, vX7_hold.2⟩ (lyx_is hy 6 7 rfl) (sx_hold_6 hy hr hI4528 cl w4516 w4517 (by omega) (by omega) (by omega) (by omega) ) (Nat.le_of_ble_eq_true rfl) ?_
  intro r I4538 J4539 Ra hq
  obtain ⟨⟨hI4538, ec, fiI4538, fjI4538⟩, rfl⟩ := hq
  rw [ec]
  clear ec Ra
  have fr4540 : fz 74 g [19, 21] I I4538 := fz_tr fr4533 (fz_mono fiI4538 (by decide))
  have fr4541 : fz 74 g [] J J4539 := fz_tr frj0 (fz_mono fjI4538 (by decide))
  have e4542 : I4538 (ad g 1) 1 = L := hI4538.2
  have b4543 := BT_get hI4538.1 1 1 2 (0) (0) (900) (by decide) 1 (by decide) (by decide)
  rw [e4542] at b4543
  exact WP_vret dX7_tellOn_26 rfl ⟨⟨hI4538, rfl, fr4540, fr4541, trivial⟩, rfl⟩
set_option maxHeartbeats 4000000 in
set_option maxRecDepth 100000 in
theorem sx_tell_6_0 {g : GG} {n : Int} {L : Int32} (hy : LyX g)  {I : pI} {J : pJ} {R : pR} (hr : RfX g R) (hI : XI g n L I) (cl : Int32) (cl_lo : 0 ≤ cl.toInt) (cl_hi : cl.toInt ≤ 0) (hb : (I (ad g 4) 0).toInt ≤ 6 ∧ (I (ad g 4) 1).toInt ≤ 900) : SP g mX7_tell [.ref (ad g 6), .int cl, .ref (ad g 4)] I J R (fun r I' J' R' => (XI g n L I' ∧ R' = R ∧ fz 74 g [6, 7, 21] I I' ∧ fz 74 g [] J J' ∧ True) ∧ r = none) := by
  refine SP_of ⟨by decide, rfl⟩ (Nat.le_of_ble_eq_true rfl) ?_
  have e4544 : I (ad g 1) 1 = L := hI.2
  have b4545 := BT_get hI.1 1 1 2 (0) (0) (900) (by decide) 1 (by decide) (by decide)
  rw [e4544] at b4545
  have fr0 : fz 74 g [6, 7, 21] I I := fz_rf
  have frj0 : fz 74 g [] J J := fz_rf
  obtain ⟨w4546, ew4546⟩ : ∃ w : Int32, I (ad g 4) 0 = w := ⟨_, rfl⟩
  have bw4546 := BT_get hI.1 4 0 5 (0) (0) (1000) (by decide) 0 (by decide) (by decide)
  rw [ew4546] at bw4546
  obtain ⟨w4547, ew4547⟩ : ∃ w : Int32, I (ad g 4) 1 = w := ⟨_, rfl⟩
  have bw4547 := BT_get hI.1 4 0 5 (0) (0) (1000) (by decide) 1 (by decide) (by decide)
  rw [ew4547] at bw4547
  rw [ew4546, ew4547] at hb
  refine WP_aload_n dX7_tell_0 rfl ?_
  refine WP_dup dX7_tell_1 rfl ?_
  refine WQ_getiu dX7_tell_2 fX7_61 rfl (lyx_is hy 6 7 rfl) (fun v4548 ev4548 => ?_)
  refine WQ_iconst (1) (1) dX7_tell_5 rfl rfl (fun v4549 hv4549 => ?_)
  refine WQ_iaddu dX7_tell_6 (fun v4550 => ?_)
  refine WQ_puti dX7_tell_7 fX7_61 rfl rfl (lyx_is hy 6 7 rfl) (fun I4551 eI4551 => ?_)
  have hI4551 : XI g n L I4551 := by rw [eI4551]; exact (xi_f0 hy hI (c := 6) (by decide) (Or.inl (by decide)) (by decide))
  have e4552 : I4551 (ad g 1) 1 = L := by rw [eI4551, pp_ne _ _ (Or.inl (lyx_ne hy (by decide) (by decide) (by decide)))]; exact e4544
  have e4553 : I4551 (ad g 4) 0 = w4546 := by rw [eI4551, pp_ne _ _ (Or.inl (lyx_ne hy (by decide) (by decide) (by decide)))]; exact ew4546
  have e4554 : I4551 (ad g 4) 1 = w4547 := by rw [eI4551, pp_ne _ _ (Or.inl (lyx_ne hy (by decide) (by decide) (by decide)))]; exact ew4547
  have e4555 : I4551 (ad g 6) 0 = v4550 := by rw [eI4551, pp_self]
  have fr4556 : fz 74 g [6, 7, 21] I I4551 := by rw [eI4551]; exact fzx_pp hy fr0 (by decide) (by decide)
  clear eI4551
  refine WP_iload_n dX7_tell_10 rfl ?_
  refine WP_tab 178 dX7_tell_11 rfl rfl (fun c4556 => ?_) (fun j off c4556 hj => ?_) (by decide)
  · exact False.elim (by omega)
  · have hlt : j < 9 := by have := (Array.getElem?_eq_some_iff.mp hj).1; simpa using this
    have hcs : (j = 0 ∧ off = 49) ∨ (j = 1 ∧ off = 62) ∨ (j = 2 ∧ off = 70) ∨ (j = 3 ∧ off = 78) ∨ (j = 4 ∧ off = 91) ∨ (j = 5 ∧ off = 104) ∨ (j = 6 ∧ off = 117) ∨ (j = 7 ∧ off = 125) ∨ (j = 8 ∧ off = 149) := by
      match j, hlt, hj with
      | 0, _, hj => exact Or.inl ⟨rfl, (Option.some.inj hj).symm⟩
      | 1, _, hj => exact Or.inr (Or.inl ⟨rfl, (Option.some.inj hj).symm⟩)
      | 2, _, hj => exact Or.inr (Or.inr (Or.inl ⟨rfl, (Option.some.inj hj).symm⟩))
      | 3, _, hj => exact Or.inr (Or.inr (Or.inr (Or.inl ⟨rfl, (Option.some.inj hj).symm⟩)))
      | 4, _, hj => exact Or.inr (Or.inr (Or.inr (Or.inr (Or.inl ⟨rfl, (Option.some.inj hj).symm⟩))))
      | 5, _, hj => exact Or.inr (Or.inr (Or.inr (Or.inr (Or.inr (Or.inl ⟨rfl, (Option.some.inj hj).symm⟩)))))
      | 6, _, hj => exact Or.inr (Or.inr (Or.inr (Or.inr (Or.inr (Or.inr (Or.inl ⟨rfl, (Option.some.inj hj).symm⟩))))))
      | 7, _, hj => exact Or.inr (Or.inr (Or.inr (Or.inr (Or.inr (Or.inr (Or.inr (Or.inl ⟨rfl, (Option.some.inj hj).symm⟩)))))))
      | 8, _, hj => exact Or.inr (Or.inr (Or.inr (Or.inr (Or.inr (Or.inr (Or.inr (Or.inr (⟨rfl, (Option.some.inj hj).symm⟩))))))))
    clear hj hlt
    rcases hcs with ⟨rfl, rfl⟩ | ⟨rfl, rfl⟩ | ⟨rfl, rfl⟩ | ⟨rfl, rfl⟩ | ⟨rfl, rfl⟩ | ⟨rfl, rfl⟩ | ⟨rfl, rfl⟩ | ⟨rfl, rfl⟩ | ⟨rfl, rfl⟩
    · show WP _ _ 60 _ _ _ _ _ _
      refine WP_aload_n dX7_tell_60 rfl ?_
      refine WP_aload_n dX7_tell_61 rfl ?_
      refine WQ_iconst (0) (0) dX7_tell_62 rfl rfl (fun v4558 hv4558 => ?_)
      refine WQ_ialdm (z := 0) dX7_tell_63 (lyx_is hy 4 13 rfl) (lyx_n hy 4 5 rfl) hv4558 (by decide) e4553 ?_
      refine WP_aload_n dX7_tell_64 rfl ?_
      refine WQ_iconst (1) (1) dX7_tell_65 rfl rfl (fun v4560 hv4560 => ?_)
      refine WQ_ialdm (z := 1) dX7_tell_66 (lyx_is hy 4 13 rfl) (lyx_n hy 4 5 rfl) hv4560 (by decide) e4554 ?_
      refine WP_callV2 (k := 7) dX7_tell_67 ⟨⟨⟨by decide, by decide⟩, zX7_tellLoss⟩, lX7_91, by decide, rfl, vX7_tellLoss.1, vX7_tellLoss.2⟩ (lyx_is hy 6 7 rfl) (sx_tellLoss_6 hy hr hI4551 w4546 w4547 (by omega) (by omega) (by omega) (by omega)) (Nat.le_of_ble_eq_true rfl) ?_
      intro r I4562 J4563 Ra hq
      obtain ⟨⟨hI4562, ec, fiI4562, fjI4562⟩, rfl⟩ := hq
      rw [ec]
      clear ec Ra
      have fr4564 : fz 74 g [6, 7, 21] I I4562 := fz_tr fr4556 (fz_mono fiI4562 (by decide))
      have fr4565 : fz 74 g [] J J4563 := fz_tr frj0 (fz_mono fjI4562 (by decide))
      have e4566 : I4562 (ad g 1) 1 = L := hI4562.2
      have b4567 := BT_get hI4562.1 1 1 2 (0) (0) (900) (by decide) 1 (by decide) (by decide)
      rw [e4566] at b4567
      refine WP_goto 193 dX7_tell_70 rfl ?_
      exact WP_vret dX7_tell_193 rfl ⟨⟨hI4562, rfl, fr4564, fr4565, trivial⟩, rfl⟩
    · exact False.elim (by omega)
    · exact False.elim (by omega)
    · exact False.elim (by omega)
    · exact False.elim (by omega)
    · exact False.elim (by omega)
    · exact False.elim (by omega)
    · exact False.elim (by omega)
    · exact False.elim (by omega)
set_option maxHeartbeats 4000000 in
set_option maxRecDepth 100000 in
theorem sx_tell_6_1 {g : GG} {n : Int} {L : Int32} (hy : LyX g)  {I : pI} {J : pJ} {R : pR} (hr : RfX g R) (hI : XI g n L I) (cl : Int32) (cl_lo : 1 ≤ cl.toInt) (cl_hi : cl.toInt ≤ 1) (hb : (I (ad g 4) 1).toInt ≤ 99 ∧ (I (ad g 4) 2).toInt ≤ 1000 ∧ (I (ad g 4) 3).toInt ≤ 60 ∧ (I (ad g 6) 1).toInt ≤ 3) : SP g mX7_tell [.ref (ad g 6), .int cl, .ref (ad g 4)] I J R (fun r I' J' R' => (XI g n L I' ∧ R' = R ∧ fz 74 g [6, 8, 9, 10] I I' ∧ fz 74 g [] J J' ∧ True) ∧ r = none) := by
  refine SP_of ⟨by decide, rfl⟩ (Nat.le_of_ble_eq_true rfl) ?_
  have e4568 : I (ad g 1) 1 = L := hI.2
  have b4569 := BT_get hI.1 1 1 2 (0) (0) (900) (by decide) 1 (by decide) (by decide)
  rw [e4568] at b4569
  have fr0 : fz 74 g [6, 8, 9, 10] I I := fz_rf
  have frj0 : fz 74 g [] J J := fz_rf
  obtain ⟨w4570, ew4570⟩ : ∃ w : Int32, I (ad g 4) 1 = w := ⟨_, rfl⟩
  have bw4570 := BT_get hI.1 4 0 5 (0) (0) (1000) (by decide) 1 (by decide) (by decide)
  rw [ew4570] at bw4570
  obtain ⟨w4571, ew4571⟩ : ∃ w : Int32, I (ad g 4) 2 = w := ⟨_, rfl⟩
  have bw4571 := BT_get hI.1 4 0 5 (0) (0) (1000) (by decide) 2 (by decide) (by decide)
  rw [ew4571] at bw4571
  obtain ⟨w4572, ew4572⟩ : ∃ w : Int32, I (ad g 4) 3 = w := ⟨_, rfl⟩
  have bw4572 := BT_get hI.1 4 0 5 (0) (0) (1000) (by decide) 3 (by decide) (by decide)
  rw [ew4572] at bw4572
  obtain ⟨w4573, ew4573⟩ : ∃ w : Int32, I (ad g 6) 1 = w := ⟨_, rfl⟩
  have bw4573 := BT_get hI.1 6 1 2 (0) (0) (4) (by decide) 1 (by decide) (by decide)
  rw [ew4573] at bw4573
  rw [ew4570, ew4571, ew4572, ew4573] at hb
  refine WP_aload_n dX7_tell_0 rfl ?_
  refine WP_dup dX7_tell_1 rfl ?_
  refine WQ_getiu dX7_tell_2 fX7_61 rfl (lyx_is hy 6 7 rfl) (fun v4574 ev4574 => ?_)
  refine WQ_iconst (1) (1) dX7_tell_5 rfl rfl (fun v4575 hv4575 => ?_)
  refine WQ_iaddu dX7_tell_6 (fun v4576 => ?_)
  refine WQ_puti dX7_tell_7 fX7_61 rfl rfl (lyx_is hy 6 7 rfl) (fun I4577 eI4577 => ?_)
  have hI4577 : XI g n L I4577 := by rw [eI4577]; exact (xi_f0 hy hI (c := 6) (by decide) (Or.inl (by decide)) (by decide))
  have e4578 : I4577 (ad g 1) 1 = L := by rw [eI4577, pp_ne _ _ (Or.inl (lyx_ne hy (by decide) (by decide) (by decide)))]; exact e4568
  have e4579 : I4577 (ad g 4) 1 = w4570 := by rw [eI4577, pp_ne _ _ (Or.inl (lyx_ne hy (by decide) (by decide) (by decide)))]; exact ew4570
  have e4580 : I4577 (ad g 4) 2 = w4571 := by rw [eI4577, pp_ne _ _ (Or.inl (lyx_ne hy (by decide) (by decide) (by decide)))]; exact ew4571
  have e4581 : I4577 (ad g 4) 3 = w4572 := by rw [eI4577, pp_ne _ _ (Or.inl (lyx_ne hy (by decide) (by decide) (by decide)))]; exact ew4572
  have e4582 : I4577 (ad g 6) 1 = w4573 := by rw [eI4577, pp_ne _ _ (Or.inr (by decide))]; exact ew4573
  have e4583 : I4577 (ad g 6) 0 = v4576 := by rw [eI4577, pp_self]
  have fr4584 : fz 74 g [6, 8, 9, 10] I I4577 := by rw [eI4577]; exact fzx_pp hy fr0 (by decide) (by decide)
  clear eI4577
  refine WP_iload_n dX7_tell_10 rfl ?_
  refine WP_tab 178 dX7_tell_11 rfl rfl (fun c4584 => ?_) (fun j off c4584 hj => ?_) (by decide)
  · exact False.elim (by omega)
  · have hlt : j < 9 := by have := (Array.getElem?_eq_some_iff.mp hj).1; simpa using this
    have hcs : (j = 0 ∧ off = 49) ∨ (j = 1 ∧ off = 62) ∨ (j = 2 ∧ off = 70) ∨ (j = 3 ∧ off = 78) ∨ (j = 4 ∧ off = 91) ∨ (j = 5 ∧ off = 104) ∨ (j = 6 ∧ off = 117) ∨ (j = 7 ∧ off = 125) ∨ (j = 8 ∧ off = 149) := by
      match j, hlt, hj with
      | 0, _, hj => exact Or.inl ⟨rfl, (Option.some.inj hj).symm⟩
      | 1, _, hj => exact Or.inr (Or.inl ⟨rfl, (Option.some.inj hj).symm⟩)
      | 2, _, hj => exact Or.inr (Or.inr (Or.inl ⟨rfl, (Option.some.inj hj).symm⟩))
      | 3, _, hj => exact Or.inr (Or.inr (Or.inr (Or.inl ⟨rfl, (Option.some.inj hj).symm⟩)))
      | 4, _, hj => exact Or.inr (Or.inr (Or.inr (Or.inr (Or.inl ⟨rfl, (Option.some.inj hj).symm⟩))))
      | 5, _, hj => exact Or.inr (Or.inr (Or.inr (Or.inr (Or.inr (Or.inl ⟨rfl, (Option.some.inj hj).symm⟩)))))
      | 6, _, hj => exact Or.inr (Or.inr (Or.inr (Or.inr (Or.inr (Or.inr (Or.inl ⟨rfl, (Option.some.inj hj).symm⟩))))))
      | 7, _, hj => exact Or.inr (Or.inr (Or.inr (Or.inr (Or.inr (Or.inr (Or.inr (Or.inl ⟨rfl, (Option.some.inj hj).symm⟩)))))))
      | 8, _, hj => exact Or.inr (Or.inr (Or.inr (Or.inr (Or.inr (Or.inr (Or.inr (Or.inr (⟨rfl, (Option.some.inj hj).symm⟩))))))))
    clear hj hlt
    rcases hcs with ⟨rfl, rfl⟩ | ⟨rfl, rfl⟩ | ⟨rfl, rfl⟩ | ⟨rfl, rfl⟩ | ⟨rfl, rfl⟩ | ⟨rfl, rfl⟩ | ⟨rfl, rfl⟩ | ⟨rfl, rfl⟩ | ⟨rfl, rfl⟩
    · exact False.elim (by omega)
    · show WP _ _ 73 _ _ _ _ _ _
      refine WP_aload_n dX7_tell_73 rfl ?_
      refine WP_aload_n dX7_tell_74 rfl ?_
      refine WP_callV1 (k := 7) dX7_tell_75 ⟨⟨⟨by decide, by decide⟩, zX7_tellSort⟩, lX7_95, by decide, rfl, vX7_tellSort.1, vX7_tellSort.2⟩ (lyx_is hy 6 7 rfl) (sx_tellSort_6 hy hr hI4577   (by rw [e4579, e4580, e4581, e4582]; omega)) (Nat.le_of_ble_eq_true rfl) ?_
      intro r I4586 J4587 Ra hq
      obtain ⟨⟨hI4586, ec, fiI4586, fjI4586, pI4586⟩, rfl⟩ := hq
      rw [ec]
      clear ec Ra
      have fr4588 : fz 74 g [6, 8, 9, 10] I I4586 := fz_tr fr4584 (fz_mono fiI4586 (by decide))
      have fr4589 : fz 74 g [] J J4587 := fz_tr frj0 (fz_mono fjI4586 (by decide))
      have e4590 : I4586 (ad g 1) 1 = L := hI4586.2
      have b4591 := BT_get hI4586.1 1 1 2 (0) (0) (900) (by decide) 1 (by decide) (by decide)
      rw [e4590] at b4591
      refine WP_goto 193 dX7_tell_78 rfl ?_
      exact WP_vret dX7_tell_193 rfl ⟨⟨hI4586, rfl, fr4588, fr4589, trivial⟩, rfl⟩
    · exact False.elim (by omega)
    · exact False.elim (by omega)
    · exact False.elim (by omega)
    · exact False.elim (by omega)
    · exact False.elim (by omega)
    · exact False.elim (by omega)
    · exact False.elim (by omega)
set_option maxHeartbeats 4000000 in
set_option maxRecDepth 100000 in
theorem sx_tell_6_2 {g : GG} {n : Int} {L : Int32} (hy : LyX g)  {I : pI} {J : pJ} {R : pR} (hr : RfX g R) (hI : XI g n L I) (cl : Int32) (cl_lo : 2 ≤ cl.toInt) (cl_hi : cl.toInt ≤ 2) (hb : (I (ad g 4) 1).toInt ≤ 1000 ∧ (I (ad g 4) 2).toInt ≤ 9 ∧ (I (ad g 6) 2).toInt ≤ 2) : SP g mX7_tell [.ref (ad g 6), .int cl, .ref (ad g 4)] I J R (fun r I' J' R' => (XI g n L I' ∧ R' = R ∧ fz 74 g [6, 16, 17] I I' ∧ fz 74 g [] J J' ∧ True) ∧ r = none) := by
  refine SP_of ⟨by decide, rfl⟩ (Nat.le_of_ble_eq_true rfl) ?_
  have e4592 : I (ad g 1) 1 = L := hI.2
  have b4593 := BT_get hI.1 1 1 2 (0) (0) (900) (by decide) 1 (by decide) (by decide)
  rw [e4592] at b4593
  have fr0 : fz 74 g [6, 16, 17] I I := fz_rf
  have frj0 : fz 74 g [] J J := fz_rf
  obtain ⟨w4594, ew4594⟩ : ∃ w : Int32, I (ad g 4) 1 = w := ⟨_, rfl⟩
  have bw4594 := BT_get hI.1 4 0 5 (0) (0) (1000) (by decide) 1 (by decide) (by decide)
  rw [ew4594] at bw4594
  obtain ⟨w4595, ew4595⟩ : ∃ w : Int32, I (ad g 4) 2 = w := ⟨_, rfl⟩
  have bw4595 := BT_get hI.1 4 0 5 (0) (0) (1000) (by decide) 2 (by decide) (by decide)
  rw [ew4595] at bw4595
  obtain ⟨w4596, ew4596⟩ : ∃ w : Int32, I (ad g 6) 2 = w := ⟨_, rfl⟩
  have bw4596 := BT_get hI.1 6 2 3 (0) (0) (3) (by decide) 2 (by decide) (by decide)
  rw [ew4596] at bw4596
  rw [ew4594, ew4595, ew4596] at hb
  refine WP_aload_n dX7_tell_0 rfl ?_
  refine WP_dup dX7_tell_1 rfl ?_
  refine WQ_getiu dX7_tell_2 fX7_61 rfl (lyx_is hy 6 7 rfl) (fun v4597 ev4597 => ?_)
  refine WQ_iconst (1) (1) dX7_tell_5 rfl rfl (fun v4598 hv4598 => ?_)
  refine WQ_iaddu dX7_tell_6 (fun v4599 => ?_)
  refine WQ_puti dX7_tell_7 fX7_61 rfl rfl (lyx_is hy 6 7 rfl) (fun I4600 eI4600 => ?_)
  have hI4600 : XI g n L I4600 := by rw [eI4600]; exact (xi_f0 hy hI (c := 6) (by decide) (Or.inl (by decide)) (by decide))
  have e4601 : I4600 (ad g 1) 1 = L := by rw [eI4600, pp_ne _ _ (Or.inl (lyx_ne hy (by decide) (by decide) (by decide)))]; exact e4592
  have e4602 : I4600 (ad g 4) 1 = w4594 := by rw [eI4600, pp_ne _ _ (Or.inl (lyx_ne hy (by decide) (by decide) (by decide)))]; exact ew4594
  have e4603 : I4600 (ad g 4) 2 = w4595 := by rw [eI4600, pp_ne _ _ (Or.inl (lyx_ne hy (by decide) (by decide) (by decide)))]; exact ew4595
  have e4604 : I4600 (ad g 6) 2 = w4596 := by rw [eI4600, pp_ne _ _ (Or.inr (by decide))]; exact ew4596
  have e4605 : I4600 (ad g 6) 0 = v4599 := by rw [eI4600, pp_self]
  have fr4606 : fz 74 g [6, 16, 17] I I4600 := by rw [eI4600]; exact fzx_pp hy fr0 (by decide) (by decide)
  clear eI4600
  refine WP_iload_n dX7_tell_10 rfl ?_
  refine WP_tab 178 dX7_tell_11 rfl rfl (fun c4606 => ?_) (fun j off c4606 hj => ?_) (by decide)
  · exact False.elim (by omega)
  · have hlt : j < 9 := by have := (Array.getElem?_eq_some_iff.mp hj).1; simpa using this
    have hcs : (j = 0 ∧ off = 49) ∨ (j = 1 ∧ off = 62) ∨ (j = 2 ∧ off = 70) ∨ (j = 3 ∧ off = 78) ∨ (j = 4 ∧ off = 91) ∨ (j = 5 ∧ off = 104) ∨ (j = 6 ∧ off = 117) ∨ (j = 7 ∧ off = 125) ∨ (j = 8 ∧ off = 149) := by
      match j, hlt, hj with
      | 0, _, hj => exact Or.inl ⟨rfl, (Option.some.inj hj).symm⟩
      | 1, _, hj => exact Or.inr (Or.inl ⟨rfl, (Option.some.inj hj).symm⟩)
      | 2, _, hj => exact Or.inr (Or.inr (Or.inl ⟨rfl, (Option.some.inj hj).symm⟩))
      | 3, _, hj => exact Or.inr (Or.inr (Or.inr (Or.inl ⟨rfl, (Option.some.inj hj).symm⟩)))
      | 4, _, hj => exact Or.inr (Or.inr (Or.inr (Or.inr (Or.inl ⟨rfl, (Option.some.inj hj).symm⟩))))
      | 5, _, hj => exact Or.inr (Or.inr (Or.inr (Or.inr (Or.inr (Or.inl ⟨rfl, (Option.some.inj hj).symm⟩)))))
      | 6, _, hj => exact Or.inr (Or.inr (Or.inr (Or.inr (Or.inr (Or.inr (Or.inl ⟨rfl, (Option.some.inj hj).symm⟩))))))
      | 7, _, hj => exact Or.inr (Or.inr (Or.inr (Or.inr (Or.inr (Or.inr (Or.inr (Or.inl ⟨rfl, (Option.some.inj hj).symm⟩)))))))
      | 8, _, hj => exact Or.inr (Or.inr (Or.inr (Or.inr (Or.inr (Or.inr (Or.inr (Or.inr (⟨rfl, (Option.some.inj hj).symm⟩))))))))
    clear hj hlt
    rcases hcs with ⟨rfl, rfl⟩ | ⟨rfl, rfl⟩ | ⟨rfl, rfl⟩ | ⟨rfl, rfl⟩ | ⟨rfl, rfl⟩ | ⟨rfl, rfl⟩ | ⟨rfl, rfl⟩ | ⟨rfl, rfl⟩ | ⟨rfl, rfl⟩
    · exact False.elim (by omega)
    · exact False.elim (by omega)
    · show WP _ _ 81 _ _ _ _ _ _
      refine WP_aload_n dX7_tell_81 rfl ?_
      refine WP_aload_n dX7_tell_82 rfl ?_
      refine WP_callV1 (k := 7) dX7_tell_83 ⟨⟨⟨by decide, by decide⟩, zX7_tellThing⟩, lX7_99, by decide, rfl, vX7_tellThing.1, vX7_tellThing.2⟩ (lyx_is hy 6 7 rfl) (sx_tellThing_6 hy hr hI4600   (by rw [e4602, e4603, e4604]; omega)) (Nat.le_of_ble_eq_true rfl) ?_
      intro r I4608 J4609 Ra hq
      obtain ⟨⟨hI4608, ec, fiI4608, fjI4608, pI4608⟩, rfl⟩ := hq
      rw [ec]
      clear ec Ra
      have fr4610 : fz 74 g [6, 16, 17] I I4608 := fz_tr fr4606 (fz_mono fiI4608 (by decide))
      have fr4611 : fz 74 g [] J J4609 := fz_tr frj0 (fz_mono fjI4608 (by decide))
      have e4612 : I4608 (ad g 1) 1 = L := hI4608.2
      have b4613 := BT_get hI4608.1 1 1 2 (0) (0) (900) (by decide) 1 (by decide) (by decide)
      rw [e4612] at b4613
      refine WP_goto 193 dX7_tell_86 rfl ?_
      exact WP_vret dX7_tell_193 rfl ⟨⟨hI4608, rfl, fr4610, fr4611, trivial⟩, rfl⟩
    · exact False.elim (by omega)
    · exact False.elim (by omega)
    · exact False.elim (by omega)
    · exact False.elim (by omega)
    · exact False.elim (by omega)
    · exact False.elim (by omega)
set_option maxHeartbeats 4000000 in
set_option maxRecDepth 100000 in
theorem sx_tell_6_3 {g : GG} {n : Int} {L : Int32} (hy : LyX g)  {I : pI} {J : pJ} {R : pR} (hr : RfX g R) (hI : XI g n L I) (cl : Int32) (cl_lo : 3 ≤ cl.toInt) (cl_hi : cl.toInt ≤ 3) (hb : (I (ad g 4) 0).toInt ≤ 3 ∧ (I (ad g 4) 1).toInt ≤ 6 ∧ (I (ad g 4) 2).toInt ≤ 20) : SP g mX7_tell [.ref (ad g 6), .int cl, .ref (ad g 4)] I J R (fun r I' J' R' => (XI g n L I' ∧ R' = R ∧ fz 74 g [6, 12, 21] I I' ∧ fz 74 g [] J J' ∧ True) ∧ r = none) := by
  refine SP_of ⟨by decide, rfl⟩ (Nat.le_of_ble_eq_true rfl) ?_
  have e4614 : I (ad g 1) 1 = L := hI.2
  have b4615 := BT_get hI.1 1 1 2 (0) (0) (900) (by decide) 1 (by decide) (by decide)
  rw [e4614] at b4615
  have fr0 : fz 74 g [6, 12, 21] I I := fz_rf
  have frj0 : fz 74 g [] J J := fz_rf
  obtain ⟨w4616, ew4616⟩ : ∃ w : Int32, I (ad g 4) 0 = w := ⟨_, rfl⟩
  have bw4616 := BT_get hI.1 4 0 5 (0) (0) (1000) (by decide) 0 (by decide) (by decide)
  rw [ew4616] at bw4616
  obtain ⟨w4617, ew4617⟩ : ∃ w : Int32, I (ad g 4) 1 = w := ⟨_, rfl⟩
  have bw4617 := BT_get hI.1 4 0 5 (0) (0) (1000) (by decide) 1 (by decide) (by decide)
  rw [ew4617] at bw4617
  obtain ⟨w4618, ew4618⟩ : ∃ w : Int32, I (ad g 4) 2 = w := ⟨_, rfl⟩
  have bw4618 := BT_get hI.1 4 0 5 (0) (0) (1000) (by decide) 2 (by decide) (by decide)
  rw [ew4618] at bw4618
  rw [ew4616, ew4617, ew4618] at hb
  refine WP_aload_n dX7_tell_0 rfl ?_
  refine WP_dup dX7_tell_1 rfl ?_
  refine WQ_getiu dX7_tell_2 fX7_61 rfl (lyx_is hy 6 7 rfl) (fun v4619 ev4619 => ?_)
  refine WQ_iconst (1) (1) dX7_tell_5 rfl rfl (fun v4620 hv4620 => ?_)
  refine WQ_iaddu dX7_tell_6 (fun v4621 => ?_)
  refine WQ_puti dX7_tell_7 fX7_61 rfl rfl (lyx_is hy 6 7 rfl) (fun I4622 eI4622 => ?_)
  have hI4622 : XI g n L I4622 := by rw [eI4622]; exact (xi_f0 hy hI (c := 6) (by decide) (Or.inl (by decide)) (by decide))
  have e4623 : I4622 (ad g 1) 1 = L := by rw [eI4622, pp_ne _ _ (Or.inl (lyx_ne hy (by decide) (by decide) (by decide)))]; exact e4614
  have e4624 : I4622 (ad g 4) 0 = w4616 := by rw [eI4622, pp_ne _ _ (Or.inl (lyx_ne hy (by decide) (by decide) (by decide)))]; exact ew4616
  have e4625 : I4622 (ad g 4) 1 = w4617 := by rw [eI4622, pp_ne _ _ (Or.inl (lyx_ne hy (by decide) (by decide) (by decide)))]; exact ew4617
  have e4626 : I4622 (ad g 4) 2 = w4618 := by rw [eI4622, pp_ne _ _ (Or.inl (lyx_ne hy (by decide) (by decide) (by decide)))]; exact ew4618
  have e4627 : I4622 (ad g 6) 0 = v4621 := by rw [eI4622, pp_self]
  have fr4628 : fz 74 g [6, 12, 21] I I4622 := by rw [eI4622]; exact fzx_pp hy fr0 (by decide) (by decide)
  clear eI4622
  refine WP_iload_n dX7_tell_10 rfl ?_
  refine WP_tab 178 dX7_tell_11 rfl rfl (fun c4628 => ?_) (fun j off c4628 hj => ?_) (by decide)
  · exact False.elim (by omega)
  · have hlt : j < 9 := by have := (Array.getElem?_eq_some_iff.mp hj).1; simpa using this
    have hcs : (j = 0 ∧ off = 49) ∨ (j = 1 ∧ off = 62) ∨ (j = 2 ∧ off = 70) ∨ (j = 3 ∧ off = 78) ∨ (j = 4 ∧ off = 91) ∨ (j = 5 ∧ off = 104) ∨ (j = 6 ∧ off = 117) ∨ (j = 7 ∧ off = 125) ∨ (j = 8 ∧ off = 149) := by
      match j, hlt, hj with
      | 0, _, hj => exact Or.inl ⟨rfl, (Option.some.inj hj).symm⟩
      | 1, _, hj => exact Or.inr (Or.inl ⟨rfl, (Option.some.inj hj).symm⟩)
      | 2, _, hj => exact Or.inr (Or.inr (Or.inl ⟨rfl, (Option.some.inj hj).symm⟩))
      | 3, _, hj => exact Or.inr (Or.inr (Or.inr (Or.inl ⟨rfl, (Option.some.inj hj).symm⟩)))
      | 4, _, hj => exact Or.inr (Or.inr (Or.inr (Or.inr (Or.inl ⟨rfl, (Option.some.inj hj).symm⟩))))
      | 5, _, hj => exact Or.inr (Or.inr (Or.inr (Or.inr (Or.inr (Or.inl ⟨rfl, (Option.some.inj hj).symm⟩)))))
      | 6, _, hj => exact Or.inr (Or.inr (Or.inr (Or.inr (Or.inr (Or.inr (Or.inl ⟨rfl, (Option.some.inj hj).symm⟩))))))
      | 7, _, hj => exact Or.inr (Or.inr (Or.inr (Or.inr (Or.inr (Or.inr (Or.inr (Or.inl ⟨rfl, (Option.some.inj hj).symm⟩)))))))
      | 8, _, hj => exact Or.inr (Or.inr (Or.inr (Or.inr (Or.inr (Or.inr (Or.inr (Or.inr (⟨rfl, (Option.some.inj hj).symm⟩))))))))
    clear hj hlt
    rcases hcs with ⟨rfl, rfl⟩ | ⟨rfl, rfl⟩ | ⟨rfl, rfl⟩ | ⟨rfl, rfl⟩ | ⟨rfl, rfl⟩ | ⟨rfl, rfl⟩ | ⟨rfl, rfl⟩ | ⟨rfl, rfl⟩ | ⟨rfl, rfl⟩
    · exact False.elim (by omega)
    · exact False.elim (by omega)
    · exact False.elim (by omega)
    · show WP _ _ 89 _ _ _ _ _ _
      refine WP_aload_n dX7_tell_89 rfl ?_
      refine WP_aload_n dX7_tell_90 rfl ?_
      refine WP_getr dX7_tell_91 fX7_27 rfl (lyx_is hy 6 7 rfl) (rfx hr 6 10 12 (by decide)) ?_
      refine WP_iload_n dX7_tell_94 rfl ?_
      refine WP_aload_n dX7_tell_95 rfl ?_
      refine WP_callV3 (k := 7) dX7_tell_96 ⟨⟨⟨by decide, by decide⟩, zX7_tellOn⟩, lX7_102, by decide, rfl, vX7_tellOn.1, vX7_tellOn.2⟩ (lyx_is hy 6 7 rfl) (sx_tellOn_6_3 hy hr hI4622 cl (by omega) (by omega) (by rw [e4624, e4625, e4626]; omega)) (Nat.le_of_ble_eq_true rfl) ?_
      intro r I4630 J4631 Ra hq
      obtain ⟨⟨hI4630, ec, fiI4630, fjI4630, pI4630⟩, rfl⟩ := hq
      rw [ec]
      clear ec Ra
      have fr4632 : fz 74 g [6, 12, 21] I I4630 := fz_tr fr4628 (fz_mono fiI4630 (by decide))
      have fr4633 : fz 74 g [] J J4631 := fz_tr frj0 (fz_mono fjI4630 (by decide))
      have e4634 : I4630 (ad g 1) 1 = L := hI4630.2
      have b4635 := BT_get hI4630.1 1 1 2 (0) (0) (900) (by decide) 1 (by decide) (by decide)
      rw [e4634] at b4635
      refine WP_goto 193 dX7_tell_99 rfl ?_
      exact WP_vret dX7_tell_193 rfl ⟨⟨hI4630, rfl, fr4632, fr4633, trivial⟩, rfl⟩
    · exact False.elim (by omega)
    · exact False.elim (by omega)
    · exact False.elim (by omega)
    · exact False.elim (by omega)
    · exact False.elim (by omega)
set_option maxHeartbeats 4000000 in
set_option maxRecDepth 100000 in
theorem sx_tell_6_4 {g : GG} {n : Int} {L : Int32} (hy : LyX g)  {I : pI} {J : pJ} {R : pR} (hr : RfX g R) (hI : XI g n L I) (cl : Int32) (cl_lo : 4 ≤ cl.toInt) (cl_hi : cl.toInt ≤ 4) (hb : (I (ad g 4) 0).toInt ≤ 2 ∧ (I (ad g 4) 1).toInt ≤ 6 ∧ (I (ad g 4) 2).toInt ≤ 20) : SP g mX7_tell [.ref (ad g 6), .int cl, .ref (ad g 4)] I J R (fun r I' J' R' => (XI g n L I' ∧ R' = R ∧ fz 74 g [6, 18, 21] I I' ∧ fz 74 g [] J J' ∧ True) ∧ r = none) := by
  refine SP_of ⟨by decide, rfl⟩ (Nat.le_of_ble_eq_true rfl) ?_
  have e4636 : I (ad g 1) 1 = L := hI.2
  have b4637 := BT_get hI.1 1 1 2 (0) (0) (900) (by decide) 1 (by decide) (by decide)
  rw [e4636] at b4637
  have fr0 : fz 74 g [6, 18, 21] I I := fz_rf
  have frj0 : fz 74 g [] J J := fz_rf
  obtain ⟨w4638, ew4638⟩ : ∃ w : Int32, I (ad g 4) 0 = w := ⟨_, rfl⟩
  have bw4638 := BT_get hI.1 4 0 5 (0) (0) (1000) (by decide) 0 (by decide) (by decide)
  rw [ew4638] at bw4638
  obtain ⟨w4639, ew4639⟩ : ∃ w : Int32, I (ad g 4) 1 = w := ⟨_, rfl⟩
  have bw4639 := BT_get hI.1 4 0 5 (0) (0) (1000) (by decide) 1 (by decide) (by decide)
  rw [ew4639] at bw4639
  obtain ⟨w4640, ew4640⟩ : ∃ w : Int32, I (ad g 4) 2 = w := ⟨_, rfl⟩
  have bw4640 := BT_get hI.1 4 0 5 (0) (0) (1000) (by decide) 2 (by decide) (by decide)
  rw [ew4640] at bw4640
  rw [ew4638, ew4639, ew4640] at hb
  refine WP_aload_n dX7_tell_0 rfl ?_
  refine WP_dup dX7_tell_1 rfl ?_
  refine WQ_getiu dX7_tell_2 fX7_61 rfl (lyx_is hy 6 7 rfl) (fun v4641 ev4641 => ?_)
  refine WQ_iconst (1) (1) dX7_tell_5 rfl rfl (fun v4642 hv4642 => ?_)
  refine WQ_iaddu dX7_tell_6 (fun v4643 => ?_)
  refine WQ_puti dX7_tell_7 fX7_61 rfl rfl (lyx_is hy 6 7 rfl) (fun I4644 eI4644 => ?_)
  have hI4644 : XI g n L I4644 := by rw [eI4644]; exact (xi_f0 hy hI (c := 6) (by decide) (Or.inl (by decide)) (by decide))
  have e4645 : I4644 (ad g 1) 1 = L := by rw [eI4644, pp_ne _ _ (Or.inl (lyx_ne hy (by decide) (by decide) (by decide)))]; exact e4636
  have e4646 : I4644 (ad g 4) 0 = w4638 := by rw [eI4644, pp_ne _ _ (Or.inl (lyx_ne hy (by decide) (by decide) (by decide)))]; exact ew4638
  have e4647 : I4644 (ad g 4) 1 = w4639 := by rw [eI4644, pp_ne _ _ (Or.inl (lyx_ne hy (by decide) (by decide) (by decide)))]; exact ew4639
  have e4648 : I4644 (ad g 4) 2 = w4640 := by rw [eI4644, pp_ne _ _ (Or.inl (lyx_ne hy (by decide) (by decide) (by decide)))]; exact ew4640
  have e4649 : I4644 (ad g 6) 0 = v4643 := by rw [eI4644, pp_self]
  have fr4650 : fz 74 g [6, 18, 21] I I4644 := by rw [eI4644]; exact fzx_pp hy fr0 (by decide) (by decide)
  clear eI4644
  refine WP_iload_n dX7_tell_10 rfl ?_
  refine WP_tab 178 dX7_tell_11 rfl rfl (fun c4650 => ?_) (fun j off c4650 hj => ?_) (by decide)
  · exact False.elim (by omega)
  · have hlt : j < 9 := by have := (Array.getElem?_eq_some_iff.mp hj).1; simpa using this
    have hcs : (j = 0 ∧ off = 49) ∨ (j = 1 ∧ off = 62) ∨ (j = 2 ∧ off = 70) ∨ (j = 3 ∧ off = 78) ∨ (j = 4 ∧ off = 91) ∨ (j = 5 ∧ off = 104) ∨ (j = 6 ∧ off = 117) ∨ (j = 7 ∧ off = 125) ∨ (j = 8 ∧ off = 149) := by
      match j, hlt, hj with
      | 0, _, hj => exact Or.inl ⟨rfl, (Option.some.inj hj).symm⟩
      | 1, _, hj => exact Or.inr (Or.inl ⟨rfl, (Option.some.inj hj).symm⟩)
      | 2, _, hj => exact Or.inr (Or.inr (Or.inl ⟨rfl, (Option.some.inj hj).symm⟩))
      | 3, _, hj => exact Or.inr (Or.inr (Or.inr (Or.inl ⟨rfl, (Option.some.inj hj).symm⟩)))
      | 4, _, hj => exact Or.inr (Or.inr (Or.inr (Or.inr (Or.inl ⟨rfl, (Option.some.inj hj).symm⟩))))
      | 5, _, hj => exact Or.inr (Or.inr (Or.inr (Or.inr (Or.inr (Or.inl ⟨rfl, (Option.some.inj hj).symm⟩)))))
      | 6, _, hj => exact Or.inr (Or.inr (Or.inr (Or.inr (Or.inr (Or.inr (Or.inl ⟨rfl, (Option.some.inj hj).symm⟩))))))
      | 7, _, hj => exact Or.inr (Or.inr (Or.inr (Or.inr (Or.inr (Or.inr (Or.inr (Or.inl ⟨rfl, (Option.some.inj hj).symm⟩)))))))
      | 8, _, hj => exact Or.inr (Or.inr (Or.inr (Or.inr (Or.inr (Or.inr (Or.inr (Or.inr (⟨rfl, (Option.some.inj hj).symm⟩))))))))
    clear hj hlt
    rcases hcs with ⟨rfl, rfl⟩ | ⟨rfl, rfl⟩ | ⟨rfl, rfl⟩ | ⟨rfl, rfl⟩ | ⟨rfl, rfl⟩ | ⟨rfl, rfl⟩ | ⟨rfl, rfl⟩ | ⟨rfl, rfl⟩ | ⟨rfl, rfl⟩
    · exact False.elim (by omega)
    · exact False.elim (by omega)
    · exact False.elim (by omega)
    · exact False.elim (by omega)
    · show WP _ _ 102 _ _ _ _ _ _
      refine WP_aload_n dX7_tell_102 rfl ?_
      refine WP_aload_n dX7_tell_103 rfl ?_
      refine WP_getr dX7_tell_104 fX7_45 rfl (lyx_is hy 6 7 rfl) (rfx hr 6 16 18 (by decide)) ?_
      refine WP_iload_n dX7_tell_107 rfl ?_
      refine WP_aload_n dX7_tell_108 rfl ?_
      refine WP_callV3 (k := 7) dX7_tell_109 ⟨⟨⟨by decide, by decide⟩, zX7_tellOn⟩, lX7_102, by decide, rfl, vX7_tellOn.1, vX7_tellOn.2⟩ (lyx_is hy 6 7 rfl) (sx_tellOn_6_4 hy hr hI4644 cl (by omega) (by omega) (by rw [e4646, e4647, e4648]; omega)) (Nat.le_of_ble_eq_true rfl) ?_
      intro r I4652 J4653 Ra hq
      obtain ⟨⟨hI4652, ec, fiI4652, fjI4652, pI4652⟩, rfl⟩ := hq
      rw [ec]
      clear ec Ra
      have fr4654 : fz 74 g [6, 18, 21] I I4652 := fz_tr fr4650 (fz_mono fiI4652 (by decide))
      have fr4655 : fz 74 g [] J J4653 := fz_tr frj0 (fz_mono fjI4652 (by decide))
      have e4656 : I4652 (ad g 1) 1 = L := hI4652.2
      have b4657 := BT_get hI4652.1 1 1 2 (0) (0) (900) (by decide) 1 (by decide) (by decide)
      rw [e4656] at b4657
      refine WP_goto 193 dX7_tell_112 rfl ?_
      exact WP_vret dX7_tell_193 rfl ⟨⟨hI4652, rfl, fr4654, fr4655, trivial⟩, rfl⟩
    · exact False.elim (by omega)
    · exact False.elim (by omega)
    · exact False.elim (by omega)
    · exact False.elim (by omega)
set_option maxHeartbeats 4000000 in
set_option maxRecDepth 100000 in
theorem sx_tell_6_5 {g : GG} {n : Int} {L : Int32} (hy : LyX g)  {I : pI} {J : pJ} {R : pR} (hr : RfX g R) (hI : XI g n L I) (cl : Int32) (cl_lo : 5 ≤ cl.toInt) (cl_hi : cl.toInt ≤ 5) (hb : (I (ad g 4) 0).toInt ≤ 2 ∧ (I (ad g 4) 1).toInt ≤ 6 ∧ (I (ad g 4) 2).toInt ≤ 999) : SP g mX7_tell [.ref (ad g 6), .int cl, .ref (ad g 4)] I J R (fun r I' J' R' => (XI g n L I' ∧ R' = R ∧ fz 74 g [6, 19, 21] I I' ∧ fz 74 g [] J J' ∧ True) ∧ r = none) := by
  refine SP_of ⟨by decide, rfl⟩ (Nat.le_of_ble_eq_true rfl) ?_
  have e4658 : I (ad g 1) 1 = L := hI.2
  have b4659 := BT_get hI.1 1 1 2 (0) (0) (900) (by decide) 1 (by decide) (by decide)
  rw [e4658] at b4659
  have fr0 : fz 74 g [6, 19, 21] I I := fz_rf
  have frj0 : fz 74 g [] J J := fz_rf
  obtain ⟨w4660, ew4660⟩ : ∃ w : Int32, I (ad g 4) 0 = w := ⟨_, rfl⟩
  have bw4660 := BT_get hI.1 4 0 5 (0) (0) (1000) (by decide) 0 (by decide) (by decide)
  rw [ew4660] at bw4660
  obtain ⟨w4661, ew4661⟩ : ∃ w : Int32, I (ad g 4) 1 = w := ⟨_, rfl⟩
  have bw4661 := BT_get hI.1 4 0 5 (0) (0) (1000) (by decide) 1 (by decide) (by decide)
  rw [ew4661] at bw4661
  obtain ⟨w4662, ew4662⟩ : ∃ w : Int32, I (ad g 4) 2 = w := ⟨_, rfl⟩
  have bw4662 := BT_get hI.1 4 0 5 (0) (0) (1000) (by decide) 2 (by decide) (by decide)
  rw [ew4662] at bw4662
  rw [ew4660, ew4661, ew4662] at hb
  refine WP_aload_n dX7_tell_0 rfl ?_
  refine WP_dup dX7_tell_1 rfl ?_
  refine WQ_getiu dX7_tell_2 fX7_61 rfl (lyx_is hy 6 7 rfl) (fun v4663 ev4663 => ?_)
  refine WQ_iconst (1) (1) dX7_tell_5 rfl rfl (fun v4664 hv4664 => ?_)
  refine WQ_iaddu dX7_tell_6 (fun v4665 => ?_)
  refine WQ_puti dX7_tell_7 fX7_61 rfl rfl (lyx_is hy 6 7 rfl) (fun I4666 eI4666 => ?_)
  have hI4666 : XI g n L I4666 := by rw [eI4666]; exact (xi_f0 hy hI (c := 6) (by decide) (Or.inl (by decide)) (by decide))
  have e4667 : I4666 (ad g 1) 1 = L := by rw [eI4666, pp_ne _ _ (Or.inl (lyx_ne hy (by decide) (by decide) (by decide)))]; exact e4658
  have e4668 : I4666 (ad g 4) 0 = w4660 := by rw [eI4666, pp_ne _ _ (Or.inl (lyx_ne hy (by decide) (by decide) (by decide)))]; exact ew4660
  have e4669 : I4666 (ad g 4) 1 = w4661 := by rw [eI4666, pp_ne _ _ (Or.inl (lyx_ne hy (by decide) (by decide) (by decide)))]; exact ew4661
  have e4670 : I4666 (ad g 4) 2 = w4662 := by rw [eI4666, pp_ne _ _ (Or.inl (lyx_ne hy (by decide) (by decide) (by decide)))]; exact ew4662
  have e4671 : I4666 (ad g 6) 0 = v4665 := by rw [eI4666, pp_self]
  have fr4672 : fz 74 g [6, 19, 21] I I4666 := by rw [eI4666]; exact fzx_pp hy fr0 (by decide) (by decide)
  clear eI4666
  refine WP_iload_n dX7_tell_10 rfl ?_
  refine WP_tab 178 dX7_tell_11 rfl rfl (fun c4672 => ?_) (fun j off c4672 hj => ?_) (by decide)
  · exact False.elim (by omega)
  · have hlt : j < 9 := by have := (Array.getElem?_eq_some_iff.mp hj).1; simpa using this
    have hcs : (j = 0 ∧ off = 49) ∨ (j = 1 ∧ off = 62) ∨ (j = 2 ∧ off = 70) ∨ (j = 3 ∧ off = 78) ∨ (j = 4 ∧ off = 91) ∨ (j = 5 ∧ off = 104) ∨ (j = 6 ∧ off = 117) ∨ (j = 7 ∧ off = 125) ∨ (j = 8 ∧ off = 149) := by
      match j, hlt, hj with
      | 0, _, hj => exact Or.inl ⟨rfl, (Option.some.inj hj).symm⟩
      | 1, _, hj => exact Or.inr (Or.inl ⟨rfl, (Option.some.inj hj).symm⟩)
      | 2, _, hj => exact Or.inr (Or.inr (Or.inl ⟨rfl, (Option.some.inj hj).symm⟩))
      | 3, _, hj => exact Or.inr (Or.inr (Or.inr (Or.inl ⟨rfl, (Option.some.inj hj).symm⟩)))
      | 4, _, hj => exact Or.inr (Or.inr (Or.inr (Or.inr (Or.inl ⟨rfl, (Option.some.inj hj).symm⟩))))
      | 5, _, hj => exact Or.inr (Or.inr (Or.inr (Or.inr (Or.inr (Or.inl ⟨rfl, (Option.some.inj hj).symm⟩)))))
      | 6, _, hj => exact Or.inr (Or.inr (Or.inr (Or.inr (Or.inr (Or.inr (Or.inl ⟨rfl, (Option.some.inj hj).symm⟩))))))
      | 7, _, hj => exact Or.inr (Or.inr (Or.inr (Or.inr (Or.inr (Or.inr (Or.inr (Or.inl ⟨rfl, (Option.some.inj hj).symm⟩)))))))
      | 8, _, hj => exact Or.inr (Or.inr (Or.inr (Or.inr (Or.inr (Or.inr (Or.inr (Or.inr (⟨rfl, (Option.some.inj hj).symm⟩))))))))
    clear hj hlt
    rcases hcs with ⟨rfl, rfl⟩ | ⟨rfl, rfl⟩ | ⟨rfl, rfl⟩ | ⟨rfl, rfl⟩ | ⟨rfl, rfl⟩ | ⟨rfl, rfl⟩ | ⟨rfl, rfl⟩ | ⟨rfl, rfl⟩ | ⟨rfl, rfl⟩
    · exact False.elim (by omega)
    · exact False.elim (by omega)
    · exact False.elim (by omega)
    · exact False.elim (by omega)
    · exact False.elim (by omega)
    · show WP _ _ 115 _ _ _ _ _ _
      refine WP_aload_n dX7_tell_115 rfl ?_
      refine WP_aload_n dX7_tell_116 rfl ?_
      refine WP_getr dX7_tell_117 fX7_48 rfl (lyx_is hy 6 7 rfl) (rfx hr 6 17 19 (by decide)) ?_
      refine WP_iload_n dX7_tell_120 rfl ?_
      refine WP_aload_n dX7_tell_121 rfl ?_
      refine WP_callV3 (k := 7) dX7_tell_122 ⟨⟨⟨by decide, by decide⟩, zX7_tellOn⟩, lX7_102, by decide, rfl, vX7_tellOn.1, vX7_tellOn.2⟩ (lyx_is hy 6 7 rfl) (sx_tellOn_6_5 hy hr hI4666 cl (by omega) (by omega) (by rw [e4668, e4669, e4670]; omega)) (Nat.le_of_ble_eq_true rfl) ?_
      intro r I4674 J4675 Ra hq
      obtain ⟨⟨hI4674, ec, fiI4674, fjI4674, pI4674⟩, rfl⟩ := hq
      rw [ec]
      clear ec Ra
      have fr4676 : fz 74 g [6, 19, 21] I I4674 := fz_tr fr4672 (fz_mono fiI4674 (by decide))
      have fr4677 : fz 74 g [] J J4675 := fz_tr frj0 (fz_mono fjI4674 (by decide))
      have e4678 : I4674 (ad g 1) 1 = L := hI4674.2
      have b4679 := BT_get hI4674.1 1 1 2 (0) (0) (900) (by decide) 1 (by decide) (by decide)
      rw [e4678] at b4679
      refine WP_goto 193 dX7_tell_125 rfl ?_
      exact WP_vret dX7_tell_193 rfl ⟨⟨hI4674, rfl, fr4676, fr4677, trivial⟩, rfl⟩
    · exact False.elim (by omega)
    · exact False.elim (by omega)
    · exact False.elim (by omega)
set_option maxHeartbeats 4000000 in
set_option maxRecDepth 100000 in
theorem sx_tell_6_6 {g : GG} {n : Int} {L : Int32} (hy : LyX g)  {I : pI} {J : pJ} {R : pR} (hr : RfX g R) (hI : XI g n L I) (cl : Int32) (cl_lo : 6 ≤ cl.toInt) (cl_hi : cl.toInt ≤ 6) (hb : (I (ad g 4) 0).toInt ≤ 3 ∧ (I (ad g 4) 1).toInt ≤ 2 ∧ (I (ad g 4) 2).toInt ≤ 6 ∧ (I (ad g 4) 3).toInt ≤ 3 ∧ (I (ad g 4) 4).toInt ≤ 99) : SP g mX7_tell [.ref (ad g 6), .int cl, .ref (ad g 4)] I J R (fun r I' J' R' => (XI g n L I' ∧ R' = R ∧ fz 74 g [6, 13, 14, 15, 21] I I' ∧ fz 74 g [] J J' ∧ True) ∧ r = none) := by
  refine SP_of ⟨by decide, rfl⟩ (Nat.le_of_ble_eq_true rfl) ?_
  have e4680 : I (ad g 1) 1 = L := hI.2
  have b4681 := BT_get hI.1 1 1 2 (0) (0) (900) (by decide) 1 (by decide) (by decide)
  rw [e4680] at b4681
  have fr0 : fz 74 g [6, 13, 14, 15, 21] I I := fz_rf
  have frj0 : fz 74 g [] J J := fz_rf
  obtain ⟨w4682, ew4682⟩ : ∃ w : Int32, I (ad g 4) 0 = w := ⟨_, rfl⟩
  have bw4682 := BT_get hI.1 4 0 5 (0) (0) (1000) (by decide) 0 (by decide) (by decide)
  rw [ew4682] at bw4682
  obtain ⟨w4683, ew4683⟩ : ∃ w : Int32, I (ad g 4) 1 = w := ⟨_, rfl⟩
  have bw4683 := BT_get hI.1 4 0 5 (0) (0) (1000) (by decide) 1 (by decide) (by decide)
  rw [ew4683] at bw4683
  obtain ⟨w4684, ew4684⟩ : ∃ w : Int32, I (ad g 4) 2 = w := ⟨_, rfl⟩
  have bw4684 := BT_get hI.1 4 0 5 (0) (0) (1000) (by decide) 2 (by decide) (by decide)
  rw [ew4684] at bw4684
  obtain ⟨w4685, ew4685⟩ : ∃ w : Int32, I (ad g 4) 3 = w := ⟨_, rfl⟩
  have bw4685 := BT_get hI.1 4 0 5 (0) (0) (1000) (by decide) 3 (by decide) (by decide)
  rw [ew4685] at bw4685
  obtain ⟨w4686, ew4686⟩ : ∃ w : Int32, I (ad g 4) 4 = w := ⟨_, rfl⟩
  have bw4686 := BT_get hI.1 4 0 5 (0) (0) (1000) (by decide) 4 (by decide) (by decide)
  rw [ew4686] at bw4686
  rw [ew4682, ew4683, ew4684, ew4685, ew4686] at hb
  refine WP_aload_n dX7_tell_0 rfl ?_
  refine WP_dup dX7_tell_1 rfl ?_
  refine WQ_getiu dX7_tell_2 fX7_61 rfl (lyx_is hy 6 7 rfl) (fun v4687 ev4687 => ?_)
  refine WQ_iconst (1) (1) dX7_tell_5 rfl rfl (fun v4688 hv4688 => ?_)
  refine WQ_iaddu dX7_tell_6 (fun v4689 => ?_)
  refine WQ_puti dX7_tell_7 fX7_61 rfl rfl (lyx_is hy 6 7 rfl) (fun I4690 eI4690 => ?_)
  have hI4690 : XI g n L I4690 := by rw [eI4690]; exact (xi_f0 hy hI (c := 6) (by decide) (Or.inl (by decide)) (by decide))
  have e4691 : I4690 (ad g 1) 1 = L := by rw [eI4690, pp_ne _ _ (Or.inl (lyx_ne hy (by decide) (by decide) (by decide)))]; exact e4680
  have e4692 : I4690 (ad g 4) 0 = w4682 := by rw [eI4690, pp_ne _ _ (Or.inl (lyx_ne hy (by decide) (by decide) (by decide)))]; exact ew4682
  have e4693 : I4690 (ad g 4) 1 = w4683 := by rw [eI4690, pp_ne _ _ (Or.inl (lyx_ne hy (by decide) (by decide) (by decide)))]; exact ew4683
  have e4694 : I4690 (ad g 4) 2 = w4684 := by rw [eI4690, pp_ne _ _ (Or.inl (lyx_ne hy (by decide) (by decide) (by decide)))]; exact ew4684
  have e4695 : I4690 (ad g 4) 3 = w4685 := by rw [eI4690, pp_ne _ _ (Or.inl (lyx_ne hy (by decide) (by decide) (by decide)))]; exact ew4685
  have e4696 : I4690 (ad g 4) 4 = w4686 := by rw [eI4690, pp_ne _ _ (Or.inl (lyx_ne hy (by decide) (by decide) (by decide)))]; exact ew4686
  have e4697 : I4690 (ad g 6) 0 = v4689 := by rw [eI4690, pp_self]
  have fr4698 : fz 74 g [6, 13, 14, 15, 21] I I4690 := by rw [eI4690]; exact fzx_pp hy fr0 (by decide) (by decide)
  clear eI4690
  refine WP_iload_n dX7_tell_10 rfl ?_
  refine WP_tab 178 dX7_tell_11 rfl rfl (fun c4698 => ?_) (fun j off c4698 hj => ?_) (by decide)
  · exact False.elim (by omega)
  · have hlt : j < 9 := by have := (Array.getElem?_eq_some_iff.mp hj).1; simpa using this
    have hcs : (j = 0 ∧ off = 49) ∨ (j = 1 ∧ off = 62) ∨ (j = 2 ∧ off = 70) ∨ (j = 3 ∧ off = 78) ∨ (j = 4 ∧ off = 91) ∨ (j = 5 ∧ off = 104) ∨ (j = 6 ∧ off = 117) ∨ (j = 7 ∧ off = 125) ∨ (j = 8 ∧ off = 149) := by
      match j, hlt, hj with
      | 0, _, hj => exact Or.inl ⟨rfl, (Option.some.inj hj).symm⟩
      | 1, _, hj => exact Or.inr (Or.inl ⟨rfl, (Option.some.inj hj).symm⟩)
      | 2, _, hj => exact Or.inr (Or.inr (Or.inl ⟨rfl, (Option.some.inj hj).symm⟩))
      | 3, _, hj => exact Or.inr (Or.inr (Or.inr (Or.inl ⟨rfl, (Option.some.inj hj).symm⟩)))
      | 4, _, hj => exact Or.inr (Or.inr (Or.inr (Or.inr (Or.inl ⟨rfl, (Option.some.inj hj).symm⟩))))
      | 5, _, hj => exact Or.inr (Or.inr (Or.inr (Or.inr (Or.inr (Or.inl ⟨rfl, (Option.some.inj hj).symm⟩)))))
      | 6, _, hj => exact Or.inr (Or.inr (Or.inr (Or.inr (Or.inr (Or.inr (Or.inl ⟨rfl, (Option.some.inj hj).symm⟩))))))
      | 7, _, hj => exact Or.inr (Or.inr (Or.inr (Or.inr (Or.inr (Or.inr (Or.inr (Or.inl ⟨rfl, (Option.some.inj hj).symm⟩)))))))
      | 8, _, hj => exact Or.inr (Or.inr (Or.inr (Or.inr (Or.inr (Or.inr (Or.inr (Or.inr (⟨rfl, (Option.some.inj hj).symm⟩))))))))
    clear hj hlt
    rcases hcs with ⟨rfl, rfl⟩ | ⟨rfl, rfl⟩ | ⟨rfl, rfl⟩ | ⟨rfl, rfl⟩ | ⟨rfl, rfl⟩ | ⟨rfl, rfl⟩ | ⟨rfl, rfl⟩ | ⟨rfl, rfl⟩ | ⟨rfl, rfl⟩
    · exact False.elim (by omega)
    · exact False.elim (by omega)
    · exact False.elim (by omega)
    · exact False.elim (by omega)
    · exact False.elim (by omega)
    · exact False.elim (by omega)
    · show WP _ _ 128 _ _ _ _ _ _
      refine WP_aload_n dX7_tell_128 rfl ?_
      refine WP_aload_n dX7_tell_129 rfl ?_
      refine WP_callV1 (k := 7) dX7_tell_130 ⟨⟨⟨by decide, by decide⟩, zX7_tellWant⟩, lX7_106, by decide, rfl, vX7_tellWant.1, vX7_tellWant.2⟩ (lyx_is hy 6 7 rfl) (sx_tellWant_6 hy hr hI4690   (by rw [e4692, e4693, e4694, e4695, e4696]; omega)) (Nat.le_of_ble_eq_true rfl) ?_
      intro r I4700 J4701 Ra hq
      obtain ⟨⟨hI4700, ec, fiI4700, fjI4700, pI4700⟩, rfl⟩ := hq
      rw [ec]
      clear ec Ra
      have fr4702 : fz 74 g [6, 13, 14, 15, 21] I I4700 := fz_tr fr4698 (fz_mono fiI4700 (by decide))
      have fr4703 : fz 74 g [] J J4701 := fz_tr frj0 (fz_mono fjI4700 (by decide))
      have e4704 : I4700 (ad g 1) 1 = L := hI4700.2
      have b4705 := BT_get hI4700.1 1 1 2 (0) (0) (900) (by decide) 1 (by decide) (by decide)
      rw [e4704] at b4705
      refine WP_goto 193 dX7_tell_133 rfl ?_
      exact WP_vret dX7_tell_193 rfl ⟨⟨hI4700, rfl, fr4702, fr4703, trivial⟩, rfl⟩
    · exact False.elim (by omega)
    · exact False.elim (by omega)
set_option maxHeartbeats 4000000 in
set_option maxRecDepth 100000 in
theorem sx_tell_6_7 {g : GG} {n : Int} {L : Int32} (hy : LyX g)  {I : pI} {J : pJ} {R : pR} (hr : RfX g R) (hI : XI g n L I) (cl : Int32) (cl_lo : 7 ≤ cl.toInt) (cl_hi : cl.toInt ≤ 7) (hb : (I (ad g 4) 0).toInt ≤ 3) : SP g mX7_tell [.ref (ad g 6), .int cl, .ref (ad g 4)] I J R (fun r I' J' R' => (XI g n L I' ∧ R' = R ∧ fz 74 g [6, 11, 21] I I' ∧ fz 74 g [] J J' ∧ True) ∧ r = none) := by
  refine SP_of ⟨by decide, rfl⟩ (Nat.le_of_ble_eq_true rfl) ?_
  have e4706 : I (ad g 1) 1 = L := hI.2
  have b4707 := BT_get hI.1 1 1 2 (0) (0) (900) (by decide) 1 (by decide) (by decide)
  rw [e4706] at b4707
  have fr0 : fz 74 g [6, 11, 21] I I := fz_rf
  have frj0 : fz 74 g [] J J := fz_rf
  obtain ⟨w4708, ew4708⟩ : ∃ w : Int32, I (ad g 4) 0 = w := ⟨_, rfl⟩
  have bw4708 := BT_get hI.1 4 0 5 (0) (0) (1000) (by decide) 0 (by decide) (by decide)
  rw [ew4708] at bw4708
  rw [ew4708] at hb
  refine WP_aload_n dX7_tell_0 rfl ?_
  refine WP_dup dX7_tell_1 rfl ?_
  refine WQ_getiu dX7_tell_2 fX7_61 rfl (lyx_is hy 6 7 rfl) (fun v4709 ev4709 => ?_)
  refine WQ_iconst (1) (1) dX7_tell_5 rfl rfl (fun v4710 hv4710 => ?_)
  refine WQ_iaddu dX7_tell_6 (fun v4711 => ?_)
  refine WQ_puti dX7_tell_7 fX7_61 rfl rfl (lyx_is hy 6 7 rfl) (fun I4712 eI4712 => ?_)
  have hI4712 : XI g n L I4712 := by rw [eI4712]; exact (xi_f0 hy hI (c := 6) (by decide) (Or.inl (by decide)) (by decide))
  have e4713 : I4712 (ad g 1) 1 = L := by rw [eI4712, pp_ne _ _ (Or.inl (lyx_ne hy (by decide) (by decide) (by decide)))]; exact e4706
  have e4714 : I4712 (ad g 4) 0 = w4708 := by rw [eI4712, pp_ne _ _ (Or.inl (lyx_ne hy (by decide) (by decide) (by decide)))]; exact ew4708
  have e4715 : I4712 (ad g 6) 0 = v4711 := by rw [eI4712, pp_self]
  have fr4716 : fz 74 g [6, 11, 21] I I4712 := by rw [eI4712]; exact fzx_pp hy fr0 (by decide) (by decide)
  clear eI4712
  refine WP_iload_n dX7_tell_10 rfl ?_
  refine WP_tab 178 dX7_tell_11 rfl rfl (fun c4716 => ?_) (fun j off c4716 hj => ?_) (by decide)
  · exact False.elim (by omega)
  · have hlt : j < 9 := by have := (Array.getElem?_eq_some_iff.mp hj).1; simpa using this
    have hcs : (j = 0 ∧ off = 49) ∨ (j = 1 ∧ off = 62) ∨ (j = 2 ∧ off = 70) ∨ (j = 3 ∧ off = 78) ∨ (j = 4 ∧ off = 91) ∨ (j = 5 ∧ off = 104) ∨ (j = 6 ∧ off = 117) ∨ (j = 7 ∧ off = 125) ∨ (j = 8 ∧ off = 149) := by
      match j, hlt, hj with
      | 0, _, hj => exact Or.inl ⟨rfl, (Option.some.inj hj).symm⟩
      | 1, _, hj => exact Or.inr (Or.inl ⟨rfl, (Option.some.inj hj).symm⟩)
      | 2, _, hj => exact Or.inr (Or.inr (Or.inl ⟨rfl, (Option.some.inj hj).symm⟩))
      | 3, _, hj => exact Or.inr (Or.inr (Or.inr (Or.inl ⟨rfl, (Option.some.inj hj).symm⟩)))
      | 4, _, hj => exact Or.inr (Or.inr (Or.inr (Or.inr (Or.inl ⟨rfl, (Option.some.inj hj).symm⟩))))
      | 5, _, hj => exact Or.inr (Or.inr (Or.inr (Or.inr (Or.inr (Or.inl ⟨rfl, (Option.some.inj hj).symm⟩)))))
      | 6, _, hj => exact Or.inr (Or.inr (Or.inr (Or.inr (Or.inr (Or.inr (Or.inl ⟨rfl, (Option.some.inj hj).symm⟩))))))
      | 7, _, hj => exact Or.inr (Or.inr (Or.inr (Or.inr (Or.inr (Or.inr (Or.inr (Or.inl ⟨rfl, (Option.some.inj hj).symm⟩)))))))
      | 8, _, hj => exact Or.inr (Or.inr (Or.inr (Or.inr (Or.inr (Or.inr (Or.inr (Or.inr (⟨rfl, (Option.some.inj hj).symm⟩))))))))
    clear hj hlt
    rcases hcs with ⟨rfl, rfl⟩ | ⟨rfl, rfl⟩ | ⟨rfl, rfl⟩ | ⟨rfl, rfl⟩ | ⟨rfl, rfl⟩ | ⟨rfl, rfl⟩ | ⟨rfl, rfl⟩ | ⟨rfl, rfl⟩ | ⟨rfl, rfl⟩
    · exact False.elim (by omega)
    · exact False.elim (by omega)
    · exact False.elim (by omega)
    · exact False.elim (by omega)
    · exact False.elim (by omega)
    · exact False.elim (by omega)
    · exact False.elim (by omega)
    · show WP _ _ 136 _ _ _ _ _ _
      refine WP_aload_n dX7_tell_136 rfl ?_
      refine WP_getr dX7_tell_137 fX7_24 rfl (lyx_is hy 6 7 rfl) (rfx hr 6 9 11 (by decide)) ?_
      refine WP_aload_n dX7_tell_140 rfl ?_
      refine WQ_iconst (0) (0) dX7_tell_141 rfl rfl (fun v4718 hv4718 => ?_)
      refine WQ_ialdm (z := 0) dX7_tell_142 (lyx_is hy 4 13 rfl) (lyx_n hy 4 5 rfl) hv4718 (by decide) e4714 ?_
      refine WP_aload_n dX7_tell_143 rfl ?_
      refine WQ_iconst (1) (1) dX7_tell_144 rfl rfl (fun v4720 hv4720 => ?_)
      refine WQ_iald dX7_tell_145 (lyx_is hy 4 13 rfl) (lyx_n hy 4 5 rfl) (by omega) (by omega) (fun q hq => BT_get hI4712.1 4 0 5 (0) (0) (1000) (by decide) q (Nat.zero_le _) hq) (fun v4721 av4721 bv4721 ev4721 => ?_)
      clear ev4721
      refine WQ_iast dX7_tell_146 (lyx_is hy 11 13 rfl) (lyx_n hy 11 4 rfl) (by omega) (by omega) (fun I4722 eI4722 => ?_)
      have hI4722 : XI g n L I4722 := by rw [eI4722]; exact (xi_r0 hy hI4712 (c := 11) (by decide) (Or.inl (by decide)) (by decide))
      have e4723 : I4722 (ad g 1) 1 = L := by rw [eI4722, pp_ne _ _ (Or.inl (lyx_ne hy (by decide) (by decide) (by decide)))]; exact e4713
      have e4724 : I4722 (ad g 4) 0 = w4708 := by rw [eI4722, pp_ne _ _ (Or.inl (lyx_ne hy (by decide) (by decide) (by decide)))]; exact e4714
      have e4725 : I4722 (ad g 6) 0 = v4711 := by rw [eI4722, pp_ne _ _ (Or.inl (lyx_ne hy (by decide) (by decide) (by decide)))]; exact e4715
      have fr4726 : fz 74 g [6, 11, 21] I I4722 := by rw [eI4722]; exact fzx_pp hy fr4716 (by decide) (by decide)
      clear eI4722
      refine WP_aload_n dX7_tell_147 rfl ?_
      refine WQ_bipush (7) (7) dX7_tell_148 rfl rfl (fun v4727 hv4727 => ?_)
      refine WP_aload_n dX7_tell_150 rfl ?_
      refine WQ_iconst (0) (0) dX7_tell_151 rfl rfl (fun v4728 hv4728 => ?_)
      refine WQ_ialdm (z := 0) dX7_tell_152 (lyx_is hy 4 13 rfl) (lyx_n hy 4 5 rfl) hv4728 (by decide) e4724 ?_
      refine WQ_iconst (0) (0) dX7_tell_153 rfl rfl (fun v4730 hv4730 => ?_)
      refine WP_callV3 (k := 7) dX7_tell_154 ⟨⟨⟨by decide, by decide⟩, zX7_hold⟩, lX7_109, by decide, rfl, vX7_hold.1, vX7_hold.2⟩ (lyx_is hy 6 7 rfl) (sx_hold_6 hy hr hI4722 v4727 w4708 v4730 (by omega) (by omega) (by omega) (by omega) ) (Nat.le_of_ble_eq_true rfl) ?_
      intro r I4731 J4732 Ra hq
      obtain ⟨⟨hI4731, ec, fiI4731, fjI4731⟩, rfl⟩ := hq
      rw [ec]
      clear ec Ra
      have fr4733 : fz 74 g [6, 11, 21] I I4731 := fz_tr fr4726 (fz_mono fiI4731 (by decide))
      have fr4734 : fz 74 g [] J J4732 := fz_tr frj0 (fz_mono fjI4731 (by decide))
      have e4735 : I4731 (ad g 1) 1 = L := hI4731.2
      have b4736 := BT_get hI4731.1 1 1 2 (0) (0) (900) (by decide) 1 (by decide) (by decide)
      rw [e4735] at b4736
      refine WP_goto 193 dX7_tell_157 rfl ?_
      exact WP_vret dX7_tell_193 rfl ⟨⟨hI4731, rfl, fr4733, fr4734, trivial⟩, rfl⟩
    · exact False.elim (by omega)
set_option maxHeartbeats 4000000 in
set_option maxRecDepth 100000 in
theorem sx_tell_6_8 {g : GG} {n : Int} {L : Int32} (hy : LyX g)  {I : pI} {J : pJ} {R : pR} (hr : RfX g R) (hI : XI g n L I) (cl : Int32) (cl_lo : 8 ≤ cl.toInt) (cl_hi : cl.toInt ≤ 8) (hb : (I (ad g 4) 0).toInt ≤ 3) : SP g mX7_tell [.ref (ad g 6), .int cl, .ref (ad g 4)] I J R (fun r I' J' R' => (XI g n L I' ∧ R' = R ∧ fz 74 g [6, 21] I I' ∧ fz 74 g [] J J' ∧ True) ∧ r = none) := by
  refine SP_of ⟨by decide, rfl⟩ (Nat.le_of_ble_eq_true rfl) ?_
  have e4737 : I (ad g 1) 1 = L := hI.2
  have b4738 := BT_get hI.1 1 1 2 (0) (0) (900) (by decide) 1 (by decide) (by decide)
  rw [e4737] at b4738
  have fr0 : fz 74 g [6, 21] I I := fz_rf
  have frj0 : fz 74 g [] J J := fz_rf
  obtain ⟨w4739, ew4739⟩ : ∃ w : Int32, I (ad g 4) 0 = w := ⟨_, rfl⟩
  have bw4739 := BT_get hI.1 4 0 5 (0) (0) (1000) (by decide) 0 (by decide) (by decide)
  rw [ew4739] at bw4739
  rw [ew4739] at hb
  refine WP_aload_n dX7_tell_0 rfl ?_
  refine WP_dup dX7_tell_1 rfl ?_
  refine WQ_getiu dX7_tell_2 fX7_61 rfl (lyx_is hy 6 7 rfl) (fun v4740 ev4740 => ?_)
  refine WQ_iconst (1) (1) dX7_tell_5 rfl rfl (fun v4741 hv4741 => ?_)
  refine WQ_iaddu dX7_tell_6 (fun v4742 => ?_)
  refine WQ_puti dX7_tell_7 fX7_61 rfl rfl (lyx_is hy 6 7 rfl) (fun I4743 eI4743 => ?_)
  have hI4743 : XI g n L I4743 := by rw [eI4743]; exact (xi_f0 hy hI (c := 6) (by decide) (Or.inl (by decide)) (by decide))
  have e4744 : I4743 (ad g 1) 1 = L := by rw [eI4743, pp_ne _ _ (Or.inl (lyx_ne hy (by decide) (by decide) (by decide)))]; exact e4737
  have e4745 : I4743 (ad g 4) 0 = w4739 := by rw [eI4743, pp_ne _ _ (Or.inl (lyx_ne hy (by decide) (by decide) (by decide)))]; exact ew4739
  have e4746 : I4743 (ad g 6) 0 = v4742 := by rw [eI4743, pp_self]
  have fr4747 : fz 74 g [6, 21] I I4743 := by rw [eI4743]; exact fzx_pp hy fr0 (by decide) (by decide)
  clear eI4743
  refine WP_iload_n dX7_tell_10 rfl ?_
  refine WP_tab 178 dX7_tell_11 rfl rfl (fun c4747 => ?_) (fun j off c4747 hj => ?_) (by decide)
  · exact False.elim (by omega)
  · have hlt : j < 9 := by have := (Array.getElem?_eq_some_iff.mp hj).1; simpa using this
    have hcs : (j = 0 ∧ off = 49) ∨ (j = 1 ∧ off = 62) ∨ (j = 2 ∧ off = 70) ∨ (j = 3 ∧ off = 78) ∨ (j = 4 ∧ off = 91) ∨ (j = 5 ∧ off = 104) ∨ (j = 6 ∧ off = 117) ∨ (j = 7 ∧ off = 125) ∨ (j = 8 ∧ off = 149) := by
      match j, hlt, hj with
      | 0, _, hj => exact Or.inl ⟨rfl, (Option.some.inj hj).symm⟩
      | 1, _, hj => exact Or.inr (Or.inl ⟨rfl, (Option.some.inj hj).symm⟩)
      | 2, _, hj => exact Or.inr (Or.inr (Or.inl ⟨rfl, (Option.some.inj hj).symm⟩))
      | 3, _, hj => exact Or.inr (Or.inr (Or.inr (Or.inl ⟨rfl, (Option.some.inj hj).symm⟩)))
      | 4, _, hj => exact Or.inr (Or.inr (Or.inr (Or.inr (Or.inl ⟨rfl, (Option.some.inj hj).symm⟩))))
      | 5, _, hj => exact Or.inr (Or.inr (Or.inr (Or.inr (Or.inr (Or.inl ⟨rfl, (Option.some.inj hj).symm⟩)))))
      | 6, _, hj => exact Or.inr (Or.inr (Or.inr (Or.inr (Or.inr (Or.inr (Or.inl ⟨rfl, (Option.some.inj hj).symm⟩))))))
      | 7, _, hj => exact Or.inr (Or.inr (Or.inr (Or.inr (Or.inr (Or.inr (Or.inr (Or.inl ⟨rfl, (Option.some.inj hj).symm⟩)))))))
      | 8, _, hj => exact Or.inr (Or.inr (Or.inr (Or.inr (Or.inr (Or.inr (Or.inr (Or.inr (⟨rfl, (Option.some.inj hj).symm⟩))))))))
    clear hj hlt
    rcases hcs with ⟨rfl, rfl⟩ | ⟨rfl, rfl⟩ | ⟨rfl, rfl⟩ | ⟨rfl, rfl⟩ | ⟨rfl, rfl⟩ | ⟨rfl, rfl⟩ | ⟨rfl, rfl⟩ | ⟨rfl, rfl⟩ | ⟨rfl, rfl⟩
    · exact False.elim (by omega)
    · exact False.elim (by omega)
    · exact False.elim (by omega)
    · exact False.elim (by omega)
    · exact False.elim (by omega)
    · exact False.elim (by omega)
    · exact False.elim (by omega)
    · exact False.elim (by omega)
    · show WP _ _ 160 _ _ _ _ _ _
      refine WP_aload_n dX7_tell_160 rfl ?_
      refine WP_aload_n dX7_tell_161 rfl ?_
      refine WQ_iconst (0) (0) dX7_tell_162 rfl rfl (fun v4749 hv4749 => ?_)
      refine WQ_ialdm (z := 0) dX7_tell_163 (lyx_is hy 4 13 rfl) (lyx_n hy 4 5 rfl) hv4749 (by decide) e4745 ?_
      refine WQ_puti dX7_tell_164 fX7_71 rfl rfl (lyx_is hy 6 7 rfl) (fun I4751 eI4751 => ?_)
      have hI4751 : XI g n L I4751 := by rw [eI4751]; exact (xi_f hy hI4743 (c := 6) (-1) (0) (3) (by decide) (Or.inl (by decide)) (by decide) (by omega) (by omega))
      have e4752 : I4751 (ad g 1) 1 = L := by rw [eI4751, pp_ne _ _ (Or.inl (lyx_ne hy (by decide) (by decide) (by decide)))]; exact e4744
      have e4753 : I4751 (ad g 4) 0 = w4739 := by rw [eI4751, pp_ne _ _ (Or.inl (lyx_ne hy (by decide) (by decide) (by decide)))]; exact e4745
      have e4754 : I4751 (ad g 6) 0 = v4742 := by rw [eI4751, pp_ne _ _ (Or.inr (by decide))]; exact e4746
      have e4755 : I4751 (ad g 6) 3 = w4739 := by rw [eI4751, pp_self]
      have fr4756 : fz 74 g [6, 21] I I4751 := by rw [eI4751]; exact fzx_pp hy fr4747 (by decide) (by decide)
      clear eI4751
      refine WP_aload_n dX7_tell_167 rfl ?_
      refine WQ_bipush (8) (8) dX7_tell_168 rfl rfl (fun v4757 hv4757 => ?_)
      refine WQ_iconst (0) (0) dX7_tell_170 rfl rfl (fun v4758 hv4758 => ?_)
      refine WQ_iconst (0) (0) dX7_tell_171 rfl rfl (fun v4759 hv4759 => ?_)
      refine WP_callV3 (k := 7) dX7_tell_172 ⟨⟨⟨by decide, by decide⟩, zX7_hold⟩, lX7_109, by decide, rfl, vX7_hold.1, vX7_hold.2⟩ (lyx_is hy 6 7 rfl) (sx_hold_6 hy hr hI4751 v4757 v4758 v4759 (by omega) (by omega) (by omega) (by omega) ) (Nat.le_of_ble_eq_true rfl) ?_
      intro r I4760 J4761 Ra hq
      obtain ⟨⟨hI4760, ec, fiI4760, fjI4760⟩, rfl⟩ := hq
      rw [ec]
      clear ec Ra
      have fr4762 : fz 74 g [6, 21] I I4760 := fz_tr fr4756 (fz_mono fiI4760 (by decide))
      have fr4763 : fz 74 g [] J J4761 := fz_tr frj0 (fz_mono fjI4760 (by decide))
      have e4764 : I4760 (ad g 1) 1 = L := hI4760.2
      have b4765 := BT_get hI4760.1 1 1 2 (0) (0) (900) (by decide) 1 (by decide) (by decide)
      rw [e4764] at b4765
      refine WP_goto 193 dX7_tell_175 rfl ?_
      exact WP_vret dX7_tell_193 rfl ⟨⟨hI4760, rfl, fr4762, fr4763, trivial⟩, rfl⟩
set_option maxHeartbeats 4000000 in
set_option maxRecDepth 100000 in
theorem sx_tell_6_9 {g : GG} {n : Int} {L : Int32} (hy : LyX g)  {I : pI} {J : pJ} {R : pR} (hr : RfX g R) (hI : XI g n L I) (cl : Int32) (cl_lo : 9 ≤ cl.toInt) (cl_hi : cl.toInt ≤ 9) (hb : (I (ad g 4) 0).toInt ≤ 2) : SP g mX7_tell [.ref (ad g 6), .int cl, .ref (ad g 4)] I J R (fun r I' J' R' => (XI g n L I' ∧ R' = R ∧ fz 74 g [6, 21] I I' ∧ fz 74 g [] J J' ∧ True) ∧ r = none) := by
  refine SP_of ⟨by decide, rfl⟩ (Nat.le_of_ble_eq_true rfl) ?_
  have e4766 : I (ad g 1) 1 = L := hI.2
  have b4767 := BT_get hI.1 1 1 2 (0) (0) (900) (by decide) 1 (by decide) (by decide)
  rw [e4766] at b4767
  have fr0 : fz 74 g [6, 21] I I := fz_rf
  have frj0 : fz 74 g [] J J := fz_rf
  obtain ⟨w4768, ew4768⟩ : ∃ w : Int32, I (ad g 4) 0 = w := ⟨_, rfl⟩
  have bw4768 := BT_get hI.1 4 0 5 (0) (0) (1000) (by decide) 0 (by decide) (by decide)
  rw [ew4768] at bw4768
  rw [ew4768] at hb
  refine WP_aload_n dX7_tell_0 rfl ?_
  refine WP_dup dX7_tell_1 rfl ?_
  refine WQ_getiu dX7_tell_2 fX7_61 rfl (lyx_is hy 6 7 rfl) (fun v4769 ev4769 => ?_)
  refine WQ_iconst (1) (1) dX7_tell_5 rfl rfl (fun v4770 hv4770 => ?_)
  refine WQ_iaddu dX7_tell_6 (fun v4771 => ?_)
  refine WQ_puti dX7_tell_7 fX7_61 rfl rfl (lyx_is hy 6 7 rfl) (fun I4772 eI4772 => ?_)
  have hI4772 : XI g n L I4772 := by rw [eI4772]; exact (xi_f0 hy hI (c := 6) (by decide) (Or.inl (by decide)) (by decide))
  have e4773 : I4772 (ad g 1) 1 = L := by rw [eI4772, pp_ne _ _ (Or.inl (lyx_ne hy (by decide) (by decide) (by decide)))]; exact e4766
  have e4774 : I4772 (ad g 4) 0 = w4768 := by rw [eI4772, pp_ne _ _ (Or.inl (lyx_ne hy (by decide) (by decide) (by decide)))]; exact ew4768
  have e4775 : I4772 (ad g 6) 0 = v4771 := by rw [eI4772, pp_self]
  have fr4776 : fz 74 g [6, 21] I I4772 := by rw [eI4772]; exact fzx_pp hy fr0 (by decide) (by decide)
  clear eI4772
  refine WP_iload_n dX7_tell_10 rfl ?_
  refine WP_tab 178 dX7_tell_11 rfl rfl (fun c4776 => ?_) (fun j off c4776 hj => ?_) (by decide)
  · refine WP_aload_n dX7_tell_178 rfl ?_
    refine WP_aload_n dX7_tell_179 rfl ?_
    refine WQ_iconst (0) (0) dX7_tell_180 rfl rfl (fun v4778 hv4778 => ?_)
    refine WQ_ialdm (z := 0) dX7_tell_181 (lyx_is hy 4 13 rfl) (lyx_n hy 4 5 rfl) hv4778 (by decide) e4774 ?_
    refine WQ_puti dX7_tell_182 fX7_74 rfl rfl (lyx_is hy 6 7 rfl) (fun I4780 eI4780 => ?_)
    have hI4780 : XI g n L I4780 := by rw [eI4780]; exact (xi_f hy hI4772 (c := 6) (-1) (0) (2) (by decide) (Or.inl (by decide)) (by decide) (by omega) (by omega))
    have e4781 : I4780 (ad g 1) 1 = L := by rw [eI4780, pp_ne _ _ (Or.inl (lyx_ne hy (by decide) (by decide) (by decide)))]; exact e4773
    have e4782 : I4780 (ad g 4) 0 = w4768 := by rw [eI4780, pp_ne _ _ (Or.inl (lyx_ne hy (by decide) (by decide) (by decide)))]; exact e4774
    have e4783 : I4780 (ad g 6) 0 = v4771 := by rw [eI4780, pp_ne _ _ (Or.inr (by decide))]; exact e4775
    have e4784 : I4780 (ad g 6) 4 = w4768 := by rw [eI4780, pp_self]
    have fr4785 : fz 74 g [6, 21] I I4780 := by rw [eI4780]; exact fzx_pp hy fr4776 (by decide) (by decide)
    clear eI4780
    refine WP_aload_n dX7_tell_185 rfl ?_
    refine WQ_bipush (9) (9) dX7_tell_186 rfl rfl (fun v4786 hv4786 => ?_)
    refine WQ_iconst (0) (0) dX7_tell_188 rfl rfl (fun v4787 hv4787 => ?_)
    refine WQ_iconst (0) (0) dX7_tell_189 rfl rfl (fun v4788 hv4788 => ?_)
    refine WP_callV3 (k := 7) dX7_tell_190 ⟨⟨⟨by decide, by decide⟩, zX7_hold⟩, lX7_109, by decide, rfl, vX7_hold.1, vX7_hold.2⟩ (lyx_is hy 6 7 rfl) (sx_hold_6 hy hr hI4780 v4786 v4787 v4788 (by omega) (by omega) (by omega) (by omega) ) (Nat.le_of_ble_eq_true rfl) ?_
    intro r I4789 J4790 Ra hq
    obtain ⟨⟨hI4789, ec, fiI4789, fjI4789⟩, rfl⟩ := hq
    rw [ec]
    clear ec Ra
    have fr4791 : fz 74 g [6, 21] I I4789 := fz_tr fr4785 (fz_mono fiI4789 (by decide))
    have fr4792 : fz 74 g [] J J4790 := fz_tr frj0 (fz_mono fjI4789 (by decide))
    have e4793 : I4789 (ad g 1) 1 = L := hI4789.2
    have b4794 := BT_get hI4789.1 1 1 2 (0) (0) (900) (by decide) 1 (by decide) (by decide)
    rw [e4793] at b4794
    exact WP_vret dX7_tell_193 rfl ⟨⟨hI4789, rfl, fr4791, fr4792, trivial⟩, rfl⟩
  · have hlt : j < 9 := by have := (Array.getElem?_eq_some_iff.mp hj).1; simpa using this
    have hcs : (j = 0 ∧ off = 49) ∨ (j = 1 ∧ off = 62) ∨ (j = 2 ∧ off = 70) ∨ (j = 3 ∧ off = 78) ∨ (j = 4 ∧ off = 91) ∨ (j = 5 ∧ off = 104) ∨ (j = 6 ∧ off = 117) ∨ (j = 7 ∧ off = 125) ∨ (j = 8 ∧ off = 149) := by
      match j, hlt, hj with
      | 0, _, hj => exact Or.inl ⟨rfl, (Option.some.inj hj).symm⟩
      | 1, _, hj => exact Or.inr (Or.inl ⟨rfl, (Option.some.inj hj).symm⟩)
      | 2, _, hj => exact Or.inr (Or.inr (Or.inl ⟨rfl, (Option.some.inj hj).symm⟩))
      | 3, _, hj => exact Or.inr (Or.inr (Or.inr (Or.inl ⟨rfl, (Option.some.inj hj).symm⟩)))
      | 4, _, hj => exact Or.inr (Or.inr (Or.inr (Or.inr (Or.inl ⟨rfl, (Option.some.inj hj).symm⟩))))
      | 5, _, hj => exact Or.inr (Or.inr (Or.inr (Or.inr (Or.inr (Or.inl ⟨rfl, (Option.some.inj hj).symm⟩)))))
      | 6, _, hj => exact Or.inr (Or.inr (Or.inr (Or.inr (Or.inr (Or.inr (Or.inl ⟨rfl, (Option.some.inj hj).symm⟩))))))
      | 7, _, hj => exact Or.inr (Or.inr (Or.inr (Or.inr (Or.inr (Or.inr (Or.inr (Or.inl ⟨rfl, (Option.some.inj hj).symm⟩)))))))
      | 8, _, hj => exact Or.inr (Or.inr (Or.inr (Or.inr (Or.inr (Or.inr (Or.inr (Or.inr (⟨rfl, (Option.some.inj hj).symm⟩))))))))
    clear hj hlt
    rcases hcs with ⟨rfl, rfl⟩ | ⟨rfl, rfl⟩ | ⟨rfl, rfl⟩ | ⟨rfl, rfl⟩ | ⟨rfl, rfl⟩ | ⟨rfl, rfl⟩ | ⟨rfl, rfl⟩ | ⟨rfl, rfl⟩ | ⟨rfl, rfl⟩
    · exact False.elim (by omega)
    · exact False.elim (by omega)
    · exact False.elim (by omega)
    · exact False.elim (by omega)
    · exact False.elim (by omega)
    · exact False.elim (by omega)
    · exact False.elim (by omega)
    · exact False.elim (by omega)
    · exact False.elim (by omega)
set_option maxHeartbeats 4000000 in
set_option maxRecDepth 100000 in
theorem sx_tellLoss_27 {g : GG} {n : Int} {L : Int32} (hy : LyX g)  {I : pI} {J : pJ} {R : pR} (hr : RfX g R) (hI : XI g n L I) (da : Int32) (lo : Int32) (da_lo : 0 ≤ da.toInt) (da_hi : da.toInt ≤ 6) (lo_lo : 0 ≤ lo.toInt) (lo_hi : lo.toInt ≤ 900) : SP g mX7_tellLoss [.ref (ad g 27), .int da, .int lo] I J R (fun r I' J' R' => (XI g n L I' ∧ R' = R ∧ fz 74 g [28, 42] I I' ∧ fz 74 g [] J J') ∧ r = none) := by
  refine SP_of ⟨by decide, rfl⟩ (Nat.le_of_ble_eq_true rfl) ?_
  have e4795 : I (ad g 1) 1 = L := hI.2
  have b4796 := BT_get hI.1 1 1 2 (0) (0) (900) (by decide) 1 (by decide) (by decide)
  rw [e4795] at b4796
  have fr0 : fz 74 g [28, 42] I I := fz_rf
  have frj0 : fz 74 g [] J J := fz_rf
  refine WP_aload_n dX7_tellLoss_0 rfl ?_
  refine WP_getr dX7_tellLoss_1 fX7_9 rfl (lyx_is hy 27 7 rfl) (rfx hr 27 5 28 (by decide)) ?_
  refine WP_iload_n dX7_tellLoss_4 rfl ?_
  refine WP_iload_n dX7_tellLoss_5 rfl ?_
  refine WQ_iast dX7_tellLoss_6 (lyx_is hy 28 13 rfl) (lyx_n hy 28 7 rfl) (by omega) (by omega) (fun I4797 eI4797 => ?_)
  have hI4797 : XI g n L I4797 := by rw [eI4797]; exact (xi_r hy hI (c := 28) (0) (0) (900) (by decide) (Or.inl (by decide)) (by decide) (by omega) (by omega))
  have e4798 : I4797 (ad g 1) 1 = L := by rw [eI4797, pp_ne _ _ (Or.inl (lyx_ne hy (by decide) (by decide) (by decide)))]; exact e4795
  have fr4799 : fz 74 g [28, 42] I I4797 := by rw [eI4797]; exact fzx_pp hy fr0 (by decide) (by decide)
  clear eI4797
  refine WP_aload_n dX7_tellLoss_7 rfl ?_
  refine WQ_iconst (0) (0) dX7_tellLoss_8 rfl rfl (fun v4800 hv4800 => ?_)
  refine WQ_iconst (0) (0) dX7_tellLoss_9 rfl rfl (fun v4801 hv4801 => ?_)
  refine WP_iload_n dX7_tellLoss_10 rfl ?_
  refine WP_callV3 (k := 7) dX7_tellLoss_11 ⟨⟨⟨by decide, by decide⟩, zX7_hold⟩, lX7_109, by decide, rfl, vX7_hold.1, vX7_hold.2⟩ (lyx_is hy 27 7 rfl) (sx_hold_27 hy hr hI4797 v4800 v4801 da (by omega) (by omega) (by omega) (by omega) ) (Nat.le_of_ble_eq_true rfl) ?_
  intro r I4802 J4803 Ra hq
  obtain ⟨⟨hI4802, ec, fiI4802, fjI4802⟩, rfl⟩ := hq
  rw [ec]
  clear ec Ra
  have fr4804 : fz 74 g [28, 42] I I4802 := fz_tr fr4799 (fz_mono fiI4802 (by decide))
  have fr4805 : fz 74 g [] J J4803 := fz_tr frj0 (fz_mono fjI4802 (by decide))
  have e4806 : I4802 (ad g 1) 1 = L := hI4802.2
  have b4807 := BT_get hI4802.1 1 1 2 (0) (0) (900) (by decide) 1 (by decide) (by decide)
  rw [e4806] at b4807
  exact WP_vret dX7_tellLoss_14 rfl ⟨⟨hI4802, rfl, fr4804, fr4805⟩, rfl⟩
set_option maxHeartbeats 4000000 in
set_option maxRecDepth 100000 in
theorem sx_tellSort_27 {g : GG} {n : Int} {L : Int32} (hy : LyX g)  {I : pI} {J : pJ} {R : pR} (hr : RfX g R) (hI : XI g n L I)   (hb : (I (ad g 4) 1).toInt ≤ 99 ∧ (I (ad g 4) 2).toInt ≤ 1000 ∧ (I (ad g 4) 3).toInt ≤ 60 ∧ (I (ad g 27) 1).toInt ≤ 3) : SP g mX7_tellSort [.ref (ad g 27), .ref (ad g 4)] I J R (fun r I' J' R' => (XI g n L I' ∧ R' = R ∧ fz 74 g [27, 29, 30, 31] I I' ∧ fz 74 g [] J J' ∧ True) ∧ r = none) := by
  refine SP_of ⟨by decide, rfl⟩ (Nat.le_of_ble_eq_true rfl) ?_
  have e4808 : I (ad g 1) 1 = L := hI.2
  have b4809 := BT_get hI.1 1 1 2 (0) (0) (900) (by decide) 1 (by decide) (by decide)
  rw [e4808] at b4809
  have fr0 : fz 74 g [27, 29, 30, 31] I I := fz_rf
  have frj0 : fz 74 g [] J J := fz_rf
  obtain ⟨w4810, ew4810⟩ : ∃ w : Int32, I (ad g 4) 1 = w := ⟨_, rfl⟩
  have bw4810 := BT_get hI.1 4 0 5 (0) (0) (1000) (by decide) 1 (by decide) (by decide)
  rw [ew4810] at bw4810
  obtain ⟨w4811, ew4811⟩ : ∃ w : Int32, I (ad g 4) 2 = w := ⟨_, rfl⟩
  have bw4811 := BT_get hI.1 4 0 5 (0) (0) (1000) (by decide) 2 (by decide) (by decide)
  rw [ew4811] at bw4811
  obtain ⟨w4812, ew4812⟩ : ∃ w : Int32, I (ad g 4) 3 = w := ⟨_, rfl⟩
  have bw4812 := BT_get hI.1 4 0 5 (0) (0) (1000) (by decide) 3 (by decide) (by decide)
  rw [ew4812] at bw4812
  obtain ⟨w4813, ew4813⟩ : ∃ w : Int32, I (ad g 27) 1 = w := ⟨_, rfl⟩
  have bw4813 := BT_get hI.1 27 1 2 (0) (0) (4) (by decide) 1 (by decide) (by decide)
  rw [ew4813] at bw4813
  rw [ew4810, ew4811, ew4812, ew4813] at hb
  refine WP_aload_n dX7_tellSort_0 rfl ?_
  refine WP_getr dX7_tellSort_1 fX7_15 rfl (lyx_is hy 27 7 rfl) (rfx hr 27 6 29 (by decide)) ?_
  refine WP_aload_n dX7_tellSort_4 rfl ?_
  refine WQ_getim dX7_tellSort_5 fX7_65 rfl (lyx_is hy 27 7 rfl) ew4813 ?_
  refine WP_aload_n dX7_tellSort_8 rfl ?_
  refine WQ_iconst (1) (1) dX7_tellSort_9 rfl rfl (fun v4814 hv4814 => ?_)
  refine WQ_ialdm (z := 1) dX7_tellSort_10 (lyx_is hy 4 13 rfl) (lyx_n hy 4 5 rfl) hv4814 (by decide) ew4810 ?_
  refine WQ_iast dX7_tellSort_11 (lyx_is hy 29 13 rfl) (lyx_n hy 29 4 rfl) (by omega) (by omega) (fun I4816 eI4816 => ?_)
  have hI4816 : XI g n L I4816 := by rw [eI4816]; exact (xi_r hy hI (c := 29) (0) (0) (99) (by decide) (Or.inl (by decide)) (by decide) (by omega) (by omega))
  have e4817 : I4816 (ad g 1) 1 = L := by rw [eI4816, pp_ne _ _ (Or.inl (lyx_ne hy (by decide) (by decide) (by decide)))]; exact e4808
  have e4818 : I4816 (ad g 4) 1 = w4810 := by rw [eI4816, pp_ne _ _ (Or.inl (lyx_ne hy (by decide) (by decide) (by decide)))]; exact ew4810
  have e4819 : I4816 (ad g 4) 2 = w4811 := by rw [eI4816, pp_ne _ _ (Or.inl (lyx_ne hy (by decide) (by decide) (by decide)))]; exact ew4811
  have e4820 : I4816 (ad g 4) 3 = w4812 := by rw [eI4816, pp_ne _ _ (Or.inl (lyx_ne hy (by decide) (by decide) (by decide)))]; exact ew4812
  have e4821 : I4816 (ad g 27) 1 = w4813 := by rw [eI4816, pp_ne _ _ (Or.inl (lyx_ne hy (by decide) (by decide) (by decide)))]; exact ew4813
  have fr4822 : fz 74 g [27, 29, 30, 31] I I4816 := by rw [eI4816]; exact fzx_pp hy fr0 (by decide) (by decide)
  clear eI4816
  refine WP_aload_n dX7_tellSort_12 rfl ?_
  refine WP_getr dX7_tellSort_13 fX7_18 rfl (lyx_is hy 27 7 rfl) (rfx hr 27 7 30 (by decide)) ?_
  refine WP_aload_n dX7_tellSort_16 rfl ?_
  refine WQ_getim dX7_tellSort_17 fX7_65 rfl (lyx_is hy 27 7 rfl) e4821 ?_
  refine WP_aload_n dX7_tellSort_20 rfl ?_
  refine WQ_iconst (2) (2) dX7_tellSort_21 rfl rfl (fun v4823 hv4823 => ?_)
  refine WQ_ialdm (z := 2) dX7_tellSort_22 (lyx_is hy 4 13 rfl) (lyx_n hy 4 5 rfl) hv4823 (by decide) e4819 ?_
  refine WQ_iast dX7_tellSort_23 (lyx_is hy 30 13 rfl) (lyx_n hy 30 4 rfl) (by omega) (by omega) (fun I4825 eI4825 => ?_)
  have hI4825 : XI g n L I4825 := by rw [eI4825]; exact (xi_r hy hI4816 (c := 30) (0) (0) (1000) (by decide) (Or.inl (by decide)) (by decide) (by omega) (by omega))
  have e4826 : I4825 (ad g 1) 1 = L := by rw [eI4825, pp_ne _ _ (Or.inl (lyx_ne hy (by decide) (by decide) (by decide)))]; exact e4817
  have e4827 : I4825 (ad g 4) 1 = w4810 := by rw [eI4825, pp_ne _ _ (Or.inl (lyx_ne hy (by decide) (by decide) (by decide)))]; exact e4818
  have e4828 : I4825 (ad g 4) 2 = w4811 := by rw [eI4825, pp_ne _ _ (Or.inl (lyx_ne hy (by decide) (by decide) (by decide)))]; exact e4819
  have e4829 : I4825 (ad g 4) 3 = w4812 := by rw [eI4825, pp_ne _ _ (Or.inl (lyx_ne hy (by decide) (by decide) (by decide)))]; exact e4820
  have e4830 : I4825 (ad g 27) 1 = w4813 := by rw [eI4825, pp_ne _ _ (Or.inl (lyx_ne hy (by decide) (by decide) (by decide)))]; exact e4821
  have fr4831 : fz 74 g [27, 29, 30, 31] I I4825 := by rw [eI4825]; exact fzx_pp hy fr4822 (by decide) (by decide)
  clear eI4825
  refine WP_aload_n dX7_tellSort_24 rfl ?_
  refine WP_getr dX7_tellSort_25 fX7_21 rfl (lyx_is hy 27 7 rfl) (rfx hr 27 8 31 (by decide)) ?_
  refine WP_aload_n dX7_tellSort_28 rfl ?_
  refine WQ_getim dX7_tellSort_29 fX7_65 rfl (lyx_is hy 27 7 rfl) e4830 ?_
  refine WP_aload_n dX7_tellSort_32 rfl ?_
  refine WQ_iconst (3) (3) dX7_tellSort_33 rfl rfl (fun v4832 hv4832 => ?_)
  refine WQ_ialdm (z := 3) dX7_tellSort_34 (lyx_is hy 4 13 rfl) (lyx_n hy 4 5 rfl) hv4832 (by decide) e4829 ?_
  refine WQ_iast dX7_tellSort_35 (lyx_is hy 31 13 rfl) (lyx_n hy 31 4 rfl) (by omega) (by omega) (fun I4834 eI4834 => ?_)
  have hI4834 : XI g n L I4834 := by rw [eI4834]; exact (xi_r hy hI4825 (c := 31) (0) (0) (60) (by decide) (Or.inl (by decide)) (by decide) (by omega) (by omega))
  have e4835 : I4834 (ad g 1) 1 = L := by rw [eI4834, pp_ne _ _ (Or.inl (lyx_ne hy (by decide) (by decide) (by decide)))]; exact e4826
  have e4836 : I4834 (ad g 4) 1 = w4810 := by rw [eI4834, pp_ne _ _ (Or.inl (lyx_ne hy (by decide) (by decide) (by decide)))]; exact e4827
  have e4837 : I4834 (ad g 4) 2 = w4811 := by rw [eI4834, pp_ne _ _ (Or.inl (lyx_ne hy (by decide) (by decide) (by decide)))]; exact e4828
  have e4838 : I4834 (ad g 4) 3 = w4812 := by rw [eI4834, pp_ne _ _ (Or.inl (lyx_ne hy (by decide) (by decide) (by decide)))]; exact e4829
  have e4839 : I4834 (ad g 27) 1 = w4813 := by rw [eI4834, pp_ne _ _ (Or.inl (lyx_ne hy (by decide) (by decide) (by decide)))]; exact e4830
  have fr4840 : fz 74 g [27, 29, 30, 31] I I4834 := by rw [eI4834]; exact fzx_pp hy fr4831 (by decide) (by decide)
  clear eI4834
  refine WP_aload_n dX7_tellSort_36 rfl ?_
  refine WP_dup dX7_tellSort_37 rfl ?_
  refine WQ_getim dX7_tellSort_38 fX7_65 rfl (lyx_is hy 27 7 rfl) e4839 ?_
  refine WQ_iconst (1) (1) dX7_tellSort_41 rfl rfl (fun v4841 hv4841 => ?_)
  refine WQ_iadd dX7_tellSort_42 (by omega) (by omega) (fun v4842 hv4842 => ?_)
  refine WQ_puti dX7_tellSort_43 fX7_65 rfl rfl (lyx_is hy 27 7 rfl) (fun I4843 eI4843 => ?_)
  have hI4843 : XI g n L I4843 := by rw [eI4843]; exact (xi_f hy hI4834 (c := 27) (0) (0) (4) (by decide) (Or.inl (by decide)) (by decide) (by omega) (by omega))
  have e4844 : I4843 (ad g 1) 1 = L := by rw [eI4843, pp_ne _ _ (Or.inl (lyx_ne hy (by decide) (by decide) (by decide)))]; exact e4835
  have e4845 : I4843 (ad g 4) 1 = w4810 := by rw [eI4843, pp_ne _ _ (Or.inl (lyx_ne hy (by decide) (by decide) (by decide)))]; exact e4836
  have e4846 : I4843 (ad g 4) 2 = w4811 := by rw [eI4843, pp_ne _ _ (Or.inl (lyx_ne hy (by decide) (by decide) (by decide)))]; exact e4837
  have e4847 : I4843 (ad g 4) 3 = w4812 := by rw [eI4843, pp_ne _ _ (Or.inl (lyx_ne hy (by decide) (by decide) (by decide)))]; exact e4838
  have e4848 : I4843 (ad g 27) 1 = v4842 := by rw [eI4843, pp_self]
  have fr4849 : fz 74 g [27, 29, 30, 31] I I4843 := by rw [eI4843]; exact fzx_pp hy fr4840 (by decide) (by decide)
  clear eI4843
  exact WP_vret dX7_tellSort_46 rfl ⟨⟨hI4843, rfl, fr4849, frj0, trivial⟩, rfl⟩
set_option maxHeartbeats 4000000 in
set_option maxRecDepth 100000 in
theorem sx_tellThing_27 {g : GG} {n : Int} {L : Int32} (hy : LyX g)  {I : pI} {J : pJ} {R : pR} (hr : RfX g R) (hI : XI g n L I)   (hb : (I (ad g 4) 1).toInt ≤ 1000 ∧ (I (ad g 4) 2).toInt ≤ 9 ∧ (I (ad g 27) 2).toInt ≤ 2) : SP g mX7_tellThing [.ref (ad g 27), .ref (ad g 4)] I J R (fun r I' J' R' => (XI g n L I' ∧ R' = R ∧ fz 74 g [27, 37, 38] I I' ∧ fz 74 g [] J J' ∧ True) ∧ r = none) := by
  refine SP_of ⟨by decide, rfl⟩ (Nat.le_of_ble_eq_true rfl) ?_
  have e4850 : I (ad g 1) 1 = L := hI.2
  have b4851 := BT_get hI.1 1 1 2 (0) (0) (900) (by decide) 1 (by decide) (by decide)
  rw [e4850] at b4851
  have fr0 : fz 74 g [27, 37, 38] I I := fz_rf
  have frj0 : fz 74 g [] J J := fz_rf
  obtain ⟨w4852, ew4852⟩ : ∃ w : Int32, I (ad g 4) 1 = w := ⟨_, rfl⟩
  have bw4852 := BT_get hI.1 4 0 5 (0) (0) (1000) (by decide) 1 (by decide) (by decide)
  rw [ew4852] at bw4852
  obtain ⟨w4853, ew4853⟩ : ∃ w : Int32, I (ad g 4) 2 = w := ⟨_, rfl⟩
  have bw4853 := BT_get hI.1 4 0 5 (0) (0) (1000) (by decide) 2 (by decide) (by decide)
  rw [ew4853] at bw4853
  obtain ⟨w4854, ew4854⟩ : ∃ w : Int32, I (ad g 27) 2 = w := ⟨_, rfl⟩
  have bw4854 := BT_get hI.1 27 2 3 (0) (0) (3) (by decide) 2 (by decide) (by decide)
  rw [ew4854] at bw4854
  rw [ew4852, ew4853, ew4854] at hb
  refine WP_aload_n dX7_tellThing_0 rfl ?_
  refine WP_getr dX7_tellThing_1 fX7_39 rfl (lyx_is hy 27 7 rfl) (rfx hr 27 14 37 (by decide)) ?_
  refine WP_aload_n dX7_tellThing_4 rfl ?_
  refine WQ_getim dX7_tellThing_5 fX7_68 rfl (lyx_is hy 27 7 rfl) ew4854 ?_
  refine WP_aload_n dX7_tellThing_8 rfl ?_
  refine WQ_iconst (1) (1) dX7_tellThing_9 rfl rfl (fun v4855 hv4855 => ?_)
  refine WQ_ialdm (z := 1) dX7_tellThing_10 (lyx_is hy 4 13 rfl) (lyx_n hy 4 5 rfl) hv4855 (by decide) ew4852 ?_
  refine WQ_iast dX7_tellThing_11 (lyx_is hy 37 13 rfl) (lyx_n hy 37 3 rfl) (by omega) (by omega) (fun I4857 eI4857 => ?_)
  have hI4857 : XI g n L I4857 := by rw [eI4857]; exact (xi_r hy hI (c := 37) (0) (0) (1000) (by decide) (Or.inl (by decide)) (by decide) (by omega) (by omega))
  have e4858 : I4857 (ad g 1) 1 = L := by rw [eI4857, pp_ne _ _ (Or.inl (lyx_ne hy (by decide) (by decide) (by decide)))]; exact e4850
  have e4859 : I4857 (ad g 4) 1 = w4852 := by rw [eI4857, pp_ne _ _ (Or.inl (lyx_ne hy (by decide) (by decide) (by decide)))]; exact ew4852
  have e4860 : I4857 (ad g 4) 2 = w4853 := by rw [eI4857, pp_ne _ _ (Or.inl (lyx_ne hy (by decide) (by decide) (by decide)))]; exact ew4853
  have e4861 : I4857 (ad g 27) 2 = w4854 := by rw [eI4857, pp_ne _ _ (Or.inl (lyx_ne hy (by decide) (by decide) (by decide)))]; exact ew4854
  have fr4862 : fz 74 g [27, 37, 38] I I4857 := by rw [eI4857]; exact fzx_pp hy fr0 (by decide) (by decide)
  clear eI4857
  refine WP_aload_n dX7_tellThing_12 rfl ?_
  refine WP_getr dX7_tellThing_13 fX7_42 rfl (lyx_is hy 27 7 rfl) (rfx hr 27 15 38 (by decide)) ?_
  refine WP_aload_n dX7_tellThing_16 rfl ?_
  refine WQ_getim dX7_tellThing_17 fX7_68 rfl (lyx_is hy 27 7 rfl) e4861 ?_
  refine WP_aload_n dX7_tellThing_20 rfl ?_
  refine WQ_iconst (2) (2) dX7_tellThing_21 rfl rfl (fun v4863 hv4863 => ?_)
  refine WQ_ialdm (z := 2) dX7_tellThing_22 (lyx_is hy 4 13 rfl) (lyx_n hy 4 5 rfl) hv4863 (by decide) e4860 ?_
  refine WQ_iast dX7_tellThing_23 (lyx_is hy 38 13 rfl) (lyx_n hy 38 3 rfl) (by omega) (by omega) (fun I4865 eI4865 => ?_)
  have hI4865 : XI g n L I4865 := by rw [eI4865]; exact (xi_r hy hI4857 (c := 38) (0) (0) (9) (by decide) (Or.inl (by decide)) (by decide) (by omega) (by omega))
  have e4866 : I4865 (ad g 1) 1 = L := by rw [eI4865, pp_ne _ _ (Or.inl (lyx_ne hy (by decide) (by decide) (by decide)))]; exact e4858
  have e4867 : I4865 (ad g 4) 1 = w4852 := by rw [eI4865, pp_ne _ _ (Or.inl (lyx_ne hy (by decide) (by decide) (by decide)))]; exact e4859
  have e4868 : I4865 (ad g 4) 2 = w4853 := by rw [eI4865, pp_ne _ _ (Or.inl (lyx_ne hy (by decide) (by decide) (by decide)))]; exact e4860
  have e4869 : I4865 (ad g 27) 2 = w4854 := by rw [eI4865, pp_ne _ _ (Or.inl (lyx_ne hy (by decide) (by decide) (by decide)))]; exact e4861
  have fr4870 : fz 74 g [27, 37, 38] I I4865 := by rw [eI4865]; exact fzx_pp hy fr4862 (by decide) (by decide)
  clear eI4865
  refine WP_aload_n dX7_tellThing_24 rfl ?_
  refine WP_dup dX7_tellThing_25 rfl ?_
  refine WQ_getim dX7_tellThing_26 fX7_68 rfl (lyx_is hy 27 7 rfl) e4869 ?_
  refine WQ_iconst (1) (1) dX7_tellThing_29 rfl rfl (fun v4871 hv4871 => ?_)
  refine WQ_iadd dX7_tellThing_30 (by omega) (by omega) (fun v4872 hv4872 => ?_)
  refine WQ_puti dX7_tellThing_31 fX7_68 rfl rfl (lyx_is hy 27 7 rfl) (fun I4873 eI4873 => ?_)
  have hI4873 : XI g n L I4873 := by rw [eI4873]; exact (xi_f hy hI4865 (c := 27) (0) (0) (3) (by decide) (Or.inl (by decide)) (by decide) (by omega) (by omega))
  have e4874 : I4873 (ad g 1) 1 = L := by rw [eI4873, pp_ne _ _ (Or.inl (lyx_ne hy (by decide) (by decide) (by decide)))]; exact e4866
  have e4875 : I4873 (ad g 4) 1 = w4852 := by rw [eI4873, pp_ne _ _ (Or.inl (lyx_ne hy (by decide) (by decide) (by decide)))]; exact e4867
  have e4876 : I4873 (ad g 4) 2 = w4853 := by rw [eI4873, pp_ne _ _ (Or.inl (lyx_ne hy (by decide) (by decide) (by decide)))]; exact e4868
  have e4877 : I4873 (ad g 27) 2 = v4872 := by rw [eI4873, pp_self]
  have fr4878 : fz 74 g [27, 37, 38] I I4873 := by rw [eI4873]; exact fzx_pp hy fr4870 (by decide) (by decide)
  clear eI4873
  refine WP_aload_n dX7_tellThing_34 rfl ?_
  refine WQ_geti dX7_tellThing_35 fX7_74 rfl (lyx_is hy 27 7 rfl) (BT_get hI4873.1 27 4 5 (-1) (0) (2) (by decide) 4 (by decide) (by decide)) (fun v4879 ev4879 av4879 bv4879 => ?_)
  refine WQ_iconst (-1) (-1) dX7_tellThing_38 rfl rfl (fun v4880 hv4880 => ?_)
  refine WQ_icmp_ne 47 dX7_tellThing_39 rfl (fun c4880 => ?_) (fun c4880 => ?_)
  · exact WP_vret dX7_tellThing_47 rfl ⟨⟨hI4873, rfl, fr4878, frj0, trivial⟩, rfl⟩
  · refine WP_aload_n dX7_tellThing_42 rfl ?_
    refine WQ_iconst (0) (0) dX7_tellThing_43 rfl rfl (fun v4882 hv4882 => ?_)
    refine WQ_puti dX7_tellThing_44 fX7_74 rfl rfl (lyx_is hy 27 7 rfl) (fun I4883 eI4883 => ?_)
    have hI4883 : XI g n L I4883 := by rw [eI4883]; exact (xi_f hy hI4873 (c := 27) (-1) (0) (2) (by decide) (Or.inl (by decide)) (by decide) (by omega) (by omega))
    have e4884 : I4883 (ad g 1) 1 = L := by rw [eI4883, pp_ne _ _ (Or.inl (lyx_ne hy (by decide) (by decide) (by decide)))]; exact e4874
    have e4885 : I4883 (ad g 4) 1 = w4852 := by rw [eI4883, pp_ne _ _ (Or.inl (lyx_ne hy (by decide) (by decide) (by decide)))]; exact e4875
    have e4886 : I4883 (ad g 4) 2 = w4853 := by rw [eI4883, pp_ne _ _ (Or.inl (lyx_ne hy (by decide) (by decide) (by decide)))]; exact e4876
    have e4887 : I4883 (ad g 27) 2 = v4872 := by rw [eI4883, pp_ne _ _ (Or.inr (by decide))]; exact e4877
    have e4888 : I4883 (ad g 27) 4 = v4882 := by rw [eI4883, pp_self]
    have fr4889 : fz 74 g [27, 37, 38] I I4883 := by rw [eI4883]; exact fzx_pp hy fr4878 (by decide) (by decide)
    clear eI4883
    exact WP_vret dX7_tellThing_47 rfl ⟨⟨hI4883, rfl, fr4889, frj0, trivial⟩, rfl⟩
set_option maxHeartbeats 4000000 in
set_option maxRecDepth 100000 in
theorem sx_tellWant_27 {g : GG} {n : Int} {L : Int32} (hy : LyX g)  {I : pI} {J : pJ} {R : pR} (hr : RfX g R) (hI : XI g n L I)   (hb : (I (ad g 4) 0).toInt ≤ 3 ∧ (I (ad g 4) 1).toInt ≤ 2 ∧ (I (ad g 4) 2).toInt ≤ 6 ∧ (I (ad g 4) 3).toInt ≤ 3 ∧ (I (ad g 4) 4).toInt ≤ 99) : SP g mX7_tellWant [.ref (ad g 27), .ref (ad g 4)] I J R (fun r I' J' R' => (XI g n L I' ∧ R' = R ∧ fz 74 g [34, 35, 36, 42] I I' ∧ fz 74 g [] J J' ∧ True) ∧ r = none) := by
  refine SP_of ⟨by decide, rfl⟩ (Nat.le_of_ble_eq_true rfl) ?_
  have e4890 : I (ad g 1) 1 = L := hI.2
  have b4891 := BT_get hI.1 1 1 2 (0) (0) (900) (by decide) 1 (by decide) (by decide)
  rw [e4890] at b4891
  have fr0 : fz 74 g [34, 35, 36, 42] I I := fz_rf
  have frj0 : fz 74 g [] J J := fz_rf
  obtain ⟨w4892, ew4892⟩ : ∃ w : Int32, I (ad g 4) 0 = w := ⟨_, rfl⟩
  have bw4892 := BT_get hI.1 4 0 5 (0) (0) (1000) (by decide) 0 (by decide) (by decide)
  rw [ew4892] at bw4892
  obtain ⟨w4893, ew4893⟩ : ∃ w : Int32, I (ad g 4) 1 = w := ⟨_, rfl⟩
  have bw4893 := BT_get hI.1 4 0 5 (0) (0) (1000) (by decide) 1 (by decide) (by decide)
  rw [ew4893] at bw4893
  obtain ⟨w4894, ew4894⟩ : ∃ w : Int32, I (ad g 4) 2 = w := ⟨_, rfl⟩
  have bw4894 := BT_get hI.1 4 0 5 (0) (0) (1000) (by decide) 2 (by decide) (by decide)
  rw [ew4894] at bw4894
  obtain ⟨w4895, ew4895⟩ : ∃ w : Int32, I (ad g 4) 3 = w := ⟨_, rfl⟩
  have bw4895 := BT_get hI.1 4 0 5 (0) (0) (1000) (by decide) 3 (by decide) (by decide)
  rw [ew4895] at bw4895
  obtain ⟨w4896, ew4896⟩ : ∃ w : Int32, I (ad g 4) 4 = w := ⟨_, rfl⟩
  have bw4896 := BT_get hI.1 4 0 5 (0) (0) (1000) (by decide) 4 (by decide) (by decide)
  rw [ew4896] at bw4896
  rw [ew4892, ew4893, ew4894, ew4895, ew4896] at hb
  refine WP_aload_n dX7_tellWant_0 rfl ?_
  refine WQ_iconst (0) (0) dX7_tellWant_1 rfl rfl (fun v4897 hv4897 => ?_)
  refine WQ_ialdm (z := 0) dX7_tellWant_2 (lyx_is hy 4 13 rfl) (lyx_n hy 4 5 rfl) hv4897 (by decide) ew4892 ?_
  refine WQ_bipush (7) (7) dX7_tellWant_3 rfl rfl (fun v4899 hv4899 => ?_)
  refine WQ_imulk (7) dX7_tellWant_5 hv4899 (by omega) (by omega) (fun v4900 hv4900 => ?_)
  refine WP_aload_n dX7_tellWant_6 rfl ?_
  refine WQ_iconst (2) (2) dX7_tellWant_7 rfl rfl (fun v4901 hv4901 => ?_)
  refine WQ_ialdm (z := 2) dX7_tellWant_8 (lyx_is hy 4 13 rfl) (lyx_n hy 4 5 rfl) hv4901 (by decide) ew4894 ?_
  refine WQ_iadd dX7_tellWant_9 (by omega) (by omega) (fun v4903 hv4903 => ?_)
  refine WP_istore_n (ls' := [(0, _), (1, _), (2, _)]) dX7_tellWant_10 (by decide) rfl ?_
  refine WP_aload_n dX7_tellWant_11 rfl ?_
  refine WP_getr dX7_tellWant_12 fX7_30 rfl (lyx_is hy 27 7 rfl) (rfx hr 27 11 34 (by decide)) ?_
  refine WP_iload_n dX7_tellWant_15 rfl ?_
  refine WP_aload_n dX7_tellWant_16 rfl ?_
  refine WQ_iconst (1) (1) dX7_tellWant_17 rfl rfl (fun v4904 hv4904 => ?_)
  refine WQ_ialdm (z := 1) dX7_tellWant_18 (lyx_is hy 4 13 rfl) (lyx_n hy 4 5 rfl) hv4904 (by decide) ew4893 ?_
  refine WQ_iast dX7_tellWant_19 (lyx_is hy 34 13 rfl) (lyx_n hy 34 28 rfl) (by omega) (by omega) (fun I4906 eI4906 => ?_)
  have hI4906 : XI g n L I4906 := by rw [eI4906]; exact (xi_r hy hI (c := 34) (-1) (0) (2) (by decide) (Or.inl (by decide)) (by decide) (by omega) (by omega))
  have e4907 : I4906 (ad g 1) 1 = L := by rw [eI4906, pp_ne _ _ (Or.inl (lyx_ne hy (by decide) (by decide) (by decide)))]; exact e4890
  have e4908 : I4906 (ad g 4) 0 = w4892 := by rw [eI4906, pp_ne _ _ (Or.inl (lyx_ne hy (by decide) (by decide) (by decide)))]; exact ew4892
  have e4909 : I4906 (ad g 4) 1 = w4893 := by rw [eI4906, pp_ne _ _ (Or.inl (lyx_ne hy (by decide) (by decide) (by decide)))]; exact ew4893
  have e4910 : I4906 (ad g 4) 2 = w4894 := by rw [eI4906, pp_ne _ _ (Or.inl (lyx_ne hy (by decide) (by decide) (by decide)))]; exact ew4894
  have e4911 : I4906 (ad g 4) 3 = w4895 := by rw [eI4906, pp_ne _ _ (Or.inl (lyx_ne hy (by decide) (by decide) (by decide)))]; exact ew4895
  have e4912 : I4906 (ad g 4) 4 = w4896 := by rw [eI4906, pp_ne _ _ (Or.inl (lyx_ne hy (by decide) (by decide) (by decide)))]; exact ew4896
  have fr4913 : fz 74 g [34, 35, 36, 42] I I4906 := by rw [eI4906]; exact fzx_pp hy fr0 (by decide) (by decide)
  clear eI4906
  refine WP_aload_n dX7_tellWant_20 rfl ?_
  refine WP_getr dX7_tellWant_21 fX7_33 rfl (lyx_is hy 27 7 rfl) (rfx hr 27 12 35 (by decide)) ?_
  refine WP_iload_n dX7_tellWant_24 rfl ?_
  refine WP_aload_n dX7_tellWant_25 rfl ?_
  refine WQ_iconst (3) (3) dX7_tellWant_26 rfl rfl (fun v4914 hv4914 => ?_)
  refine WQ_ialdm (z := 3) dX7_tellWant_27 (lyx_is hy 4 13 rfl) (lyx_n hy 4 5 rfl) hv4914 (by decide) e4911 ?_
  refine WQ_iast dX7_tellWant_28 (lyx_is hy 35 13 rfl) (lyx_n hy 35 28 rfl) (by omega) (by omega) (fun I4916 eI4916 => ?_)
  have hI4916 : XI g n L I4916 := by rw [eI4916]; exact (xi_r hy hI4906 (c := 35) (0) (0) (3) (by decide) (Or.inl (by decide)) (by decide) (by omega) (by omega))
  have e4917 : I4916 (ad g 1) 1 = L := by rw [eI4916, pp_ne _ _ (Or.inl (lyx_ne hy (by decide) (by decide) (by decide)))]; exact e4907
  have e4918 : I4916 (ad g 4) 0 = w4892 := by rw [eI4916, pp_ne _ _ (Or.inl (lyx_ne hy (by decide) (by decide) (by decide)))]; exact e4908
  have e4919 : I4916 (ad g 4) 1 = w4893 := by rw [eI4916, pp_ne _ _ (Or.inl (lyx_ne hy (by decide) (by decide) (by decide)))]; exact e4909
  have e4920 : I4916 (ad g 4) 2 = w4894 := by rw [eI4916, pp_ne _ _ (Or.inl (lyx_ne hy (by decide) (by decide) (by decide)))]; exact e4910
  have e4921 : I4916 (ad g 4) 3 = w4895 := by rw [eI4916, pp_ne _ _ (Or.inl (lyx_ne hy (by decide) (by decide) (by decide)))]; exact e4911
  have e4922 : I4916 (ad g 4) 4 = w4896 := by rw [eI4916, pp_ne _ _ (Or.inl (lyx_ne hy (by decide) (by decide) (by decide)))]; exact e4912
  have fr4923 : fz 74 g [34, 35, 36, 42] I I4916 := by rw [eI4916]; exact fzx_pp hy fr4913 (by decide) (by decide)
  clear eI4916
  refine WP_aload_n dX7_tellWant_29 rfl ?_
  refine WP_getr dX7_tellWant_30 fX7_36 rfl (lyx_is hy 27 7 rfl) (rfx hr 27 13 36 (by decide)) ?_
  refine WP_iload_n dX7_tellWant_33 rfl ?_
  refine WP_aload_n dX7_tellWant_34 rfl ?_
  refine WQ_iconst (4) (4) dX7_tellWant_35 rfl rfl (fun v4924 hv4924 => ?_)
  refine WQ_ialdm (z := 4) dX7_tellWant_36 (lyx_is hy 4 13 rfl) (lyx_n hy 4 5 rfl) hv4924 (by decide) e4922 ?_
  refine WQ_iast dX7_tellWant_37 (lyx_is hy 36 13 rfl) (lyx_n hy 36 28 rfl) (by omega) (by omega) (fun I4926 eI4926 => ?_)
  have hI4926 : XI g n L I4926 := by rw [eI4926]; exact (xi_r hy hI4916 (c := 36) (0) (0) (99) (by decide) (Or.inl (by decide)) (by decide) (by omega) (by omega))
  have e4927 : I4926 (ad g 1) 1 = L := by rw [eI4926, pp_ne _ _ (Or.inl (lyx_ne hy (by decide) (by decide) (by decide)))]; exact e4917
  have e4928 : I4926 (ad g 4) 0 = w4892 := by rw [eI4926, pp_ne _ _ (Or.inl (lyx_ne hy (by decide) (by decide) (by decide)))]; exact e4918
  have e4929 : I4926 (ad g 4) 1 = w4893 := by rw [eI4926, pp_ne _ _ (Or.inl (lyx_ne hy (by decide) (by decide) (by decide)))]; exact e4919
  have e4930 : I4926 (ad g 4) 2 = w4894 := by rw [eI4926, pp_ne _ _ (Or.inl (lyx_ne hy (by decide) (by decide) (by decide)))]; exact e4920
  have e4931 : I4926 (ad g 4) 3 = w4895 := by rw [eI4926, pp_ne _ _ (Or.inl (lyx_ne hy (by decide) (by decide) (by decide)))]; exact e4921
  have e4932 : I4926 (ad g 4) 4 = w4896 := by rw [eI4926, pp_ne _ _ (Or.inl (lyx_ne hy (by decide) (by decide) (by decide)))]; exact e4922
  have fr4933 : fz 74 g [34, 35, 36, 42] I I4926 := by rw [eI4926]; exact fzx_pp hy fr4923 (by decide) (by decide)
  clear eI4926
  refine WP_aload_n dX7_tellWant_38 rfl ?_
  refine WQ_bipush (6) (6) dX7_tellWant_39 rfl rfl (fun v4934 hv4934 => ?_)
  refine WP_aload_n dX7_tellWant_41 rfl ?_
  refine WQ_iconst (0) (0) dX7_tellWant_42 rfl rfl (fun v4935 hv4935 => ?_)
  refine WQ_ialdm (z := 0) dX7_tellWant_43 (lyx_is hy 4 13 rfl) (lyx_n hy 4 5 rfl) hv4935 (by decide) e4928 ?_
  refine WP_aload_n dX7_tellWant_44 rfl ?_
  refine WQ_iconst (2) (2) dX7_tellWant_45 rfl rfl (fun v4937 hv4937 => ?_)
  refine WQ_ialdm (z := 2) dX7_tellWant_46 (lyx_is hy 4 13 rfl) (lyx_n hy 4 5 rfl) hv4937 (by decide) e4930 ?_
  refine WP_callV3 (k := 7) dX7_tellWant_47 ⟨⟨⟨by decide, by decide⟩, zX7_hold⟩, lX7_109, by decide, rfl, vX7_hold.1, vX7_hold.2⟩ (lyx_is hy 27 7 rfl) (sx_hold_27 hy hr hI4926 v4934 w4892 w4894 (by omega) (by omega) (by omega) (by omega) ) (Nat.le_of_ble_eq_true rfl) ?_
  intro r I4939 J4940 Ra hq
  obtain ⟨⟨hI4939, ec, fiI4939, fjI4939⟩, rfl⟩ := hq
  rw [ec]
  clear ec Ra
  have fr4941 : fz 74 g [34, 35, 36, 42] I I4939 := fz_tr fr4933 (fz_mono fiI4939 (by decide))
  have fr4942 : fz 74 g [] J J4940 := fz_tr frj0 (fz_mono fjI4939 (by decide))
  have e4943 : I4939 (ad g 1) 1 = L := hI4939.2
  have b4944 := BT_get hI4939.1 1 1 2 (0) (0) (900) (by decide) 1 (by decide) (by decide)
  rw [e4943] at b4944
  exact WP_vret dX7_tellWant_50 rfl ⟨⟨hI4939, rfl, fr4941, fr4942, trivial⟩, rfl⟩
set_option maxHeartbeats 4000000 in
set_option maxRecDepth 100000 in
theorem sx_tellOn_27_3 {g : GG} {n : Int} {L : Int32} (hy : LyX g)  {I : pI} {J : pJ} {R : pR} (hr : RfX g R) (hI : XI g n L I) (cl : Int32) (cl_lo : 3 ≤ cl.toInt) (cl_hi : cl.toInt ≤ 3) (hb : (I (ad g 4) 0).toInt ≤ 3 ∧ (I (ad g 4) 1).toInt ≤ 6 ∧ (I (ad g 4) 2).toInt ≤ 20) : SP g mX7_tellOn [.ref (ad g 27), .ref (ad g 33), .int cl, .ref (ad g 4)] I J R (fun r I' J' R' => (XI g n L I' ∧ R' = R ∧ fz 74 g [33, 42] I I' ∧ fz 74 g [] J J' ∧ True) ∧ r = none) := by
  refine SP_of ⟨by decide, rfl⟩ (Nat.le_of_ble_eq_true rfl) ?_
  have e4945 : I (ad g 1) 1 = L := hI.2
  have b4946 := BT_get hI.1 1 1 2 (0) (0) (900) (by decide) 1 (by decide) (by decide)
  rw [e4945] at b4946
  have fr0 : fz 74 g [33, 42] I I := fz_rf
  have frj0 : fz 74 g [] J J := fz_rf
  obtain ⟨w4947, ew4947⟩ : ∃ w : Int32, I (ad g 4) 0 = w := ⟨_, rfl⟩
  have bw4947 := BT_get hI.1 4 0 5 (0) (0) (1000) (by decide) 0 (by decide) (by decide)
  rw [ew4947] at bw4947
  obtain ⟨w4948, ew4948⟩ : ∃ w : Int32, I (ad g 4) 1 = w := ⟨_, rfl⟩
  have bw4948 := BT_get hI.1 4 0 5 (0) (0) (1000) (by decide) 1 (by decide) (by decide)
  rw [ew4948] at bw4948
  obtain ⟨w4949, ew4949⟩ : ∃ w : Int32, I (ad g 4) 2 = w := ⟨_, rfl⟩
  have bw4949 := BT_get hI.1 4 0 5 (0) (0) (1000) (by decide) 2 (by decide) (by decide)
  rw [ew4949] at bw4949
  rw [ew4947, ew4948, ew4949] at hb
  refine WP_aload_n dX7_tellOn_0 rfl ?_
  refine WP_aload_n dX7_tellOn_1 rfl ?_
  refine WQ_iconst (0) (0) dX7_tellOn_2 rfl rfl (fun v4950 hv4950 => ?_)
  refine WQ_ialdm (z := 0) dX7_tellOn_3 (lyx_is hy 4 13 rfl) (lyx_n hy 4 5 rfl) hv4950 (by decide) ew4947 ?_
  refine WQ_bipush (7) (7) dX7_tellOn_4 rfl rfl (fun v4952 hv4952 => ?_)
  refine WQ_imulk (7) dX7_tellOn_6 hv4952 (by omega) (by omega) (fun v4953 hv4953 => ?_)
  refine WP_aload_n dX7_tellOn_7 rfl ?_
  refine WQ_iconst (1) (1) dX7_tellOn_8 rfl rfl (fun v4954 hv4954 => ?_)
  refine WQ_ialdm (z := 1) dX7_tellOn_9 (lyx_is hy 4 13 rfl) (lyx_n hy 4 5 rfl) hv4954 (by decide) ew4948 ?_
  refine WQ_iadd dX7_tellOn_10 (by omega) (by omega) (fun v4956 hv4956 => ?_)
  refine WP_aload_n dX7_tellOn_11 rfl ?_
  refine WQ_iconst (2) (2) dX7_tellOn_12 rfl rfl (fun v4957 hv4957 => ?_)
  refine WQ_ialdm (z := 2) dX7_tellOn_13 (lyx_is hy 4 13 rfl) (lyx_n hy 4 5 rfl) hv4957 (by decide) ew4949 ?_
  refine WQ_iast dX7_tellOn_14 (lyx_is hy 33 13 rfl) (lyx_n hy 33 28 rfl) (by omega) (by omega) (fun I4959 eI4959 => ?_)
  have hI4959 : XI g n L I4959 := by rw [eI4959]; exact (xi_r hy hI (c := 33) (0) (0) (20) (by decide) (Or.inl (by decide)) (by decide) (by omega) (by omega))
  have e4960 : I4959 (ad g 1) 1 = L := by rw [eI4959, pp_ne _ _ (Or.inl (lyx_ne hy (by decide) (by decide) (by decide)))]; exact e4945
  have e4961 : I4959 (ad g 4) 0 = w4947 := by rw [eI4959, pp_ne _ _ (Or.inl (lyx_ne hy (by decide) (by decide) (by decide)))]; exact ew4947
  have e4962 : I4959 (ad g 4) 1 = w4948 := by rw [eI4959, pp_ne _ _ (Or.inl (lyx_ne hy (by decide) (by decide) (by decide)))]; exact ew4948
  have e4963 : I4959 (ad g 4) 2 = w4949 := by rw [eI4959, pp_ne _ _ (Or.inl (lyx_ne hy (by decide) (by decide) (by decide)))]; exact ew4949
  have fr4964 : fz 74 g [33, 42] I I4959 := by rw [eI4959]; exact fzx_pp hy fr0 (by decide) (by decide)
  clear eI4959
  refine WP_aload_n dX7_tellOn_15 rfl ?_
  refine WP_iload_n dX7_tellOn_16 rfl ?_
  refine WP_aload_n dX7_tellOn_17 rfl ?_
  refine WQ_iconst (0) (0) dX7_tellOn_18 rfl rfl (fun v4965 hv4965 => ?_)
  refine WQ_ialdm (z := 0) dX7_tellOn_19 (lyx_is hy 4 13 rfl) (lyx_n hy 4 5 rfl) hv4965 (by decide) e4961 ?_
  refine WP_aload_n dX7_tellOn_20 rfl ?_
  refine WQ_iconst (1) (1) dX7_tellOn_21 rfl rfl (fun v4967 hv4967 => ?_)
  refine WQ_ialdm (z := 1) dX7_tellOn_22 (lyx_is hy 4 13 rfl) (lyx_n hy 4 5 rfl) hv4967 (by decide) e4962 ?_
  refine WP_callV3 (k := 7) dX7_tellOn_23 ⟨⟨⟨by decide, by decide⟩, zX7_hold⟩, lX7_109, by decide, rfl, vX7_hold.1, vX7_hold.2⟩ (lyx_is hy 27 7 rfl) (sx_hold_27 hy hr hI4959 cl w4947 w4948 (by omega) (by omega) (by omega) (by omega) ) (Nat.le_of_ble_eq_true rfl) ?_
  intro r I4969 J4970 Ra hq
  obtain ⟨⟨hI4969, ec, fiI4969, fjI4969⟩, rfl⟩ := hq
  rw [ec]
  clear ec Ra
  have fr4971 : fz 74 g [33, 42] I I4969 := fz_tr fr4964 (fz_mono fiI4969 (by decide))
  have fr4972 : fz 74 g [] J J4970 := fz_tr frj0 (fz_mono fjI4969 (by decide))
  have e4973 : I4969 (ad g 1) 1 = L := hI4969.2
  have b4974 := BT_get hI4969.1 1 1 2 (0) (0) (900) (by decide) 1 (by decide) (by decide)
  rw [e4973] at b4974
  exact WP_vret dX7_tellOn_26 rfl ⟨⟨hI4969, rfl, fr4971, fr4972, trivial⟩, rfl⟩
set_option maxHeartbeats 4000000 in
set_option maxRecDepth 100000 in
theorem sx_tellOn_27_4 {g : GG} {n : Int} {L : Int32} (hy : LyX g)  {I : pI} {J : pJ} {R : pR} (hr : RfX g R) (hI : XI g n L I) (cl : Int32) (cl_lo : 4 ≤ cl.toInt) (cl_hi : cl.toInt ≤ 4) (hb : (I (ad g 4) 0).toInt ≤ 2 ∧ (I (ad g 4) 1).toInt ≤ 6 ∧ (I (ad g 4) 2).toInt ≤ 20) : SP g mX7_tellOn [.ref (ad g 27), .ref (ad g 39), .int cl, .ref (ad g 4)] I J R (fun r I' J' R' => (XI g n L I' ∧ R' = R ∧ fz 74 g [39, 42] I I' ∧ fz 74 g [] J J' ∧ True) ∧ r = none) := by
  refine SP_of ⟨by decide, rfl⟩ (Nat.le_of_ble_eq_true rfl) ?_
  have e4975 : I (ad g 1) 1 = L := hI.2
  have b4976 := BT_get hI.1 1 1 2 (0) (0) (900) (by decide) 1 (by decide) (by decide)
  rw [e4975] at b4976
  have fr0 : fz 74 g [39, 42] I I := fz_rf
  have frj0 : fz 74 g [] J J := fz_rf
  obtain ⟨w4977, ew4977⟩ : ∃ w : Int32, I (ad g 4) 0 = w := ⟨_, rfl⟩
  have bw4977 := BT_get hI.1 4 0 5 (0) (0) (1000) (by decide) 0 (by decide) (by decide)
  rw [ew4977] at bw4977
  obtain ⟨w4978, ew4978⟩ : ∃ w : Int32, I (ad g 4) 1 = w := ⟨_, rfl⟩
  have bw4978 := BT_get hI.1 4 0 5 (0) (0) (1000) (by decide) 1 (by decide) (by decide)
  rw [ew4978] at bw4978
  obtain ⟨w4979, ew4979⟩ : ∃ w : Int32, I (ad g 4) 2 = w := ⟨_, rfl⟩
  have bw4979 := BT_get hI.1 4 0 5 (0) (0) (1000) (by decide) 2 (by decide) (by decide)
  rw [ew4979] at bw4979
  rw [ew4977, ew4978, ew4979] at hb
  refine WP_aload_n dX7_tellOn_0 rfl ?_
  refine WP_aload_n dX7_tellOn_1 rfl ?_
  refine WQ_iconst (0) (0) dX7_tellOn_2 rfl rfl (fun v4980 hv4980 => ?_)
  refine WQ_ialdm (z := 0) dX7_tellOn_3 (lyx_is hy 4 13 rfl) (lyx_n hy 4 5 rfl) hv4980 (by decide) ew4977 ?_
  refine WQ_bipush (7) (7) dX7_tellOn_4 rfl rfl (fun v4982 hv4982 => ?_)
  refine WQ_imulk (7) dX7_tellOn_6 hv4982 (by omega) (by omega) (fun v4983 hv4983 => ?_)
  refine WP_aload_n dX7_tellOn_7 rfl ?_
  refine WQ_iconst (1) (1) dX7_tellOn_8 rfl rfl (fun v4984 hv4984 => ?_)
  refine WQ_ialdm (z := 1) dX7_tellOn_9 (lyx_is hy 4 13 rfl) (lyx_n hy 4 5 rfl) hv4984 (by decide) ew4978 ?_
  refine WQ_iadd dX7_tellOn_10 (by omega) (by omega) (fun v4986 hv4986 => ?_)
  refine WP_aload_n dX7_tellOn_11 rfl ?_
  refine WQ_iconst (2) (2) dX7_tellOn_12 rfl rfl (fun v4987 hv4987 => ?_)
  refine WQ_ialdm (z := 2) dX7_tellOn_13 (lyx_is hy 4 13 rfl) (lyx_n hy 4 5 rfl) hv4987 (by decide) ew4979 ?_
  refine WQ_iast dX7_tellOn_14 (lyx_is hy 39 13 rfl) (lyx_n hy 39 21 rfl) (by omega) (by omega) (fun I4989 eI4989 => ?_)
  have hI4989 : XI g n L I4989 := by rw [eI4989]; exact (xi_r hy hI (c := 39) (0) (0) (20) (by decide) (Or.inl (by decide)) (by decide) (by omega) (by omega))
  have e4990 : I4989 (ad g 1) 1 = L := by rw [eI4989, pp_ne _ _ (Or.inl (lyx_ne hy (by decide) (by decide) (by decide)))]; exact e4975
  have e4991 : I4989 (ad g 4) 0 = w4977 := by rw [eI4989, pp_ne _ _ (Or.inl (lyx_ne hy (by decide) (by decide) (by decide)))]; exact ew4977
  have e4992 : I4989 (ad g 4) 1 = w4978 := by rw [eI4989, pp_ne _ _ (Or.inl (lyx_ne hy (by decide) (by decide) (by decide)))]; exact ew4978
  have e4993 : I4989 (ad g 4) 2 = w4979 := by rw [eI4989, pp_ne _ _ (Or.inl (lyx_ne hy (by decide) (by decide) (by decide)))]; exact ew4979
  have fr4994 : fz 74 g [39, 42] I I4989 := by rw [eI4989]; exact fzx_pp hy fr0 (by decide) (by decide)
  clear eI4989
  refine WP_aload_n dX7_tellOn_15 rfl ?_
  refine WP_iload_n dX7_tellOn_16 rfl ?_
  refine WP_aload_n dX7_tellOn_17 rfl ?_
  refine WQ_iconst (0) (0) dX7_tellOn_18 rfl rfl (fun v4995 hv4995 => ?_)
  refine WQ_ialdm (z := 0) dX7_tellOn_19 (lyx_is hy 4 13 rfl) (lyx_n hy 4 5 rfl) hv4995 (by decide) e4991 ?_
  refine WP_aload_n dX7_tellOn_20 rfl ?_
  refine WQ_iconst (1) (1) dX7_tellOn_21 rfl rfl (fun v4997 hv4997 => ?_)
  refine WQ_ialdm (z := 1) dX7_tellOn_22 (lyx_is hy 4 13 rfl) (lyx_n hy 4 5 rfl) hv4997 (by decide) e4992 ?_
  refine WP_callV3 (k := 7) dX7_tellOn_23 ⟨⟨⟨by decide, by decide⟩, zX7_hold⟩, lX7_109, by decide, rfl, vX7_hold.1, vX7_hold.2⟩ (lyx_is hy 27 7 rfl) (sx_hold_27 hy hr hI4989 cl w4977 w4978 (by omega) (by omega) (by omega) (by omega) ) (Nat.le_of_ble_eq_true rfl) ?_
  intro r I4999 J5000 Ra hq
  obtain ⟨⟨hI4999, ec, fiI4999, fjI4999⟩, rfl⟩ := hq
  rw [ec]
  clear ec Ra
  have fr5001 : fz 74 g [39, 42] I I4999 := fz_tr fr4994 (fz_mono fiI4999 (by decide))
  have fr5002 : fz 74 g [] J J5000 := fz_tr frj0 (fz_mono fjI4999 (by decide))
  have e5003 : I4999 (ad g 1) 1 = L := hI4999.2
  have b5004 := BT_get hI4999.1 1 1 2 (0) (0) (900) (by decide) 1 (by decide) (by decide)
  rw [e5003] at b5004
  exact WP_vret dX7_tellOn_26 rfl ⟨⟨hI4999, rfl, fr5001, fr5002, trivial⟩, rfl⟩
set_option maxHeartbeats 4000000 in
set_option maxRecDepth 100000 in
theorem sx_tellOn_27_5 {g : GG} {n : Int} {L : Int32} (hy : LyX g)  {I : pI} {J : pJ} {R : pR} (hr : RfX g R) (hI : XI g n L I) (cl : Int32) (cl_lo : 5 ≤ cl.toInt) (cl_hi : cl.toInt ≤ 5) (hb : (I (ad g 4) 0).toInt ≤ 2 ∧ (I (ad g 4) 1).toInt ≤ 6 ∧ (I (ad g 4) 2).toInt ≤ 999) : SP g mX7_tellOn [.ref (ad g 27), .ref (ad g 40), .int cl, .ref (ad g 4)] I J R (fun r I' J' R' => (XI g n L I' ∧ R' = R ∧ fz 74 g [40, 42] I I' ∧ fz 74 g [] J J' ∧ True) ∧ r = none) := by
  refine SP_of ⟨by decide, rfl⟩ (Nat.le_of_ble_eq_true rfl) ?_
  have e5005 : I (ad g 1) 1 = L := hI.2
  have b5006 := BT_get hI.1 1 1 2 (0) (0) (900) (by decide) 1 (by decide) (by decide)
  rw [e5005] at b5006
  have fr0 : fz 74 g [40, 42] I I := fz_rf
  have frj0 : fz 74 g [] J J := fz_rf
  obtain ⟨w5007, ew5007⟩ : ∃ w : Int32, I (ad g 4) 0 = w := ⟨_, rfl⟩
  have bw5007 := BT_get hI.1 4 0 5 (0) (0) (1000) (by decide) 0 (by decide) (by decide)
  rw [ew5007] at bw5007
  obtain ⟨w5008, ew5008⟩ : ∃ w : Int32, I (ad g 4) 1 = w := ⟨_, rfl⟩
  have bw5008 := BT_get hI.1 4 0 5 (0) (0) (1000) (by decide) 1 (by decide) (by decide)
  rw [ew5008] at bw5008
  obtain ⟨w5009, ew5009⟩ : ∃ w : Int32, I (ad g 4) 2 = w := ⟨_, rfl⟩
  have bw5009 := BT_get hI.1 4 0 5 (0) (0) (1000) (by decide) 2 (by decide) (by decide)
  rw [ew5009] at bw5009
  rw [ew5007, ew5008, ew5009] at hb
  refine WP_aload_n dX7_tellOn_0 rfl ?_
  refine WP_aload_n dX7_tellOn_1 rfl ?_
  refine WQ_iconst (0) (0) dX7_tellOn_2 rfl rfl (fun v5010 hv5010 => ?_)
  refine WQ_ialdm (z := 0) dX7_tellOn_3 (lyx_is hy 4 13 rfl) (lyx_n hy 4 5 rfl) hv5010 (by decide) ew5007 ?_
  refine WQ_bipush (7) (7) dX7_tellOn_4 rfl rfl (fun v5012 hv5012 => ?_)
  refine WQ_imulk (7) dX7_tellOn_6 hv5012 (by omega) (by omega) (fun v5013 hv5013 => ?_)
  refine WP_aload_n dX7_tellOn_7 rfl ?_
  refine WQ_iconst (1) (1) dX7_tellOn_8 rfl rfl (fun v5014 hv5014 => ?_)
  refine WQ_ialdm (z := 1) dX7_tellOn_9 (lyx_is hy 4 13 rfl) (lyx_n hy 4 5 rfl) hv5014 (by decide) ew5008 ?_
  refine WQ_iadd dX7_tellOn_10 (by omega) (by omega) (fun v5016 hv5016 => ?_)
  refine WP_aload_n dX7_tellOn_11 rfl ?_
  refine WQ_iconst (2) (2) dX7_tellOn_12 rfl rfl (fun v5017 hv5017 => ?_)
  refine WQ_ialdm (z := 2) dX7_tellOn_13 (lyx_is hy 4 13 rfl) (lyx_n hy 4 5 rfl) hv5017 (by decide) ew5009 ?_
  refine WQ_iast dX7_tellOn_14 (lyx_is hy 40 13 rfl) (lyx_n hy 40 21 rfl) (by omega) (by omega) (fun I5019 eI5019 => ?_)
  have hI5019 : XI g n L I5019 := by rw [eI5019]; exact (xi_r hy hI (c := 40) (-1) (0) (999) (by decide) (Or.inl (by decide)) (by decide) (by omega) (by omega))
  have e5020 : I5019 (ad g 1) 1 = L := by rw [eI5019, pp_ne _ _ (Or.inl (lyx_ne hy (by decide) (by decide) (by decide)))]; exact e5005
  have e5021 : I5019 (ad g 4) 0 = w5007 := by rw [eI5019, pp_ne _ _ (Or.inl (lyx_ne hy (by decide) (by decide) (by decide)))]; exact ew5007
  have e5022 : I5019 (ad g 4) 1 = w5008 := by rw [eI5019, pp_ne _ _ (Or.inl (lyx_ne hy (by decide) (by decide) (by decide)))]; exact ew5008
  have e5023 : I5019 (ad g 4) 2 = w5009 := by rw [eI5019, pp_ne _ _ (Or.inl (lyx_ne hy (by decide) (by decide) (by decide)))]; exact ew5009
  have fr5024 : fz 74 g [40, 42] I I5019 := by rw [eI5019]; exact fzx_pp hy fr0 (by decide) (by decide)
  clear eI5019
  refine WP_aload_n dX7_tellOn_15 rfl ?_
  refine WP_iload_n dX7_tellOn_16 rfl ?_
  refine WP_aload_n dX7_tellOn_17 rfl ?_
  refine WQ_iconst (0) (0) dX7_tellOn_18 rfl rfl (fun v5025 hv5025 => ?_)
  refine WQ_ialdm (z := 0) dX7_tellOn_19 (lyx_is hy 4 13 rfl) (lyx_n hy 4 5 rfl) hv5025 (by decide) e5021 ?_
  refine WP_aload_n dX7_tellOn_20 rfl ?_
  refine WQ_iconst (1) (1) dX7_tellOn_21 rfl rfl (fun v5027 hv5027 => ?_)
  refine WQ_ialdm (z := 1) dX7_tellOn_22 (lyx_is hy 4 13 rfl) (lyx_n hy 4 5 rfl) hv5027 (by decide) e5022 ?_
  refine WP_callV3 (k := 7) dX7_tellOn_23 ⟨⟨⟨by decide, by decide⟩, zX7_hold⟩, lX7_109, by decide, rfl, vX7_hold.1, vX7_hold.2⟩ (lyx_is hy 27 7 rfl) (sx_hold_27 hy hr hI5019 cl w5007 w5008 (by omega) (by omega) (by omega) (by omega) ) (Nat.le_of_ble_eq_true rfl) ?_
  intro r I5029 J5030 Ra hq
  obtain ⟨⟨hI5029, ec, fiI5029, fjI5029⟩, rfl⟩ := hq
  rw [ec]
  clear ec Ra
  have fr5031 : fz 74 g [40, 42] I I5029 := fz_tr fr5024 (fz_mono fiI5029 (by decide))
  have fr5032 : fz 74 g [] J J5030 := fz_tr frj0 (fz_mono fjI5029 (by decide))
  have e5033 : I5029 (ad g 1) 1 = L := hI5029.2
  have b5034 := BT_get hI5029.1 1 1 2 (0) (0) (900) (by decide) 1 (by decide) (by decide)
  rw [e5033] at b5034
  exact WP_vret dX7_tellOn_26 rfl ⟨⟨hI5029, rfl, fr5031, fr5032, trivial⟩, rfl⟩
set_option maxHeartbeats 4000000 in
set_option maxRecDepth 100000 in
theorem sx_tell_27_0 {g : GG} {n : Int} {L : Int32} (hy : LyX g)  {I : pI} {J : pJ} {R : pR} (hr : RfX g R) (hI : XI g n L I) (cl : Int32) (cl_lo : 0 ≤ cl.toInt) (cl_hi : cl.toInt ≤ 0) (hb : (I (ad g 4) 0).toInt ≤ 6 ∧ (I (ad g 4) 1).toInt ≤ 900) : SP g mX7_tell [.ref (ad g 27), .int cl, .ref (ad g 4)] I J R (fun r I' J' R' => (XI g n L I' ∧ R' = R ∧ fz 74 g [27, 28, 42] I I' ∧ fz 74 g [] J J' ∧ True) ∧ r = none) := by
  refine SP_of ⟨by decide, rfl⟩ (Nat.le_of_ble_eq_true rfl) ?_
  have e5035 : I (ad g 1) 1 = L := hI.2
  have b5036 := BT_get hI.1 1 1 2 (0) (0) (900) (by decide) 1 (by decide) (by decide)
  rw [e5035] at b5036
  have fr0 : fz 74 g [27, 28, 42] I I := fz_rf
  have frj0 : fz 74 g [] J J := fz_rf
  obtain ⟨w5037, ew5037⟩ : ∃ w : Int32, I (ad g 4) 0 = w := ⟨_, rfl⟩
  have bw5037 := BT_get hI.1 4 0 5 (0) (0) (1000) (by decide) 0 (by decide) (by decide)
  rw [ew5037] at bw5037
  obtain ⟨w5038, ew5038⟩ : ∃ w : Int32, I (ad g 4) 1 = w := ⟨_, rfl⟩
  have bw5038 := BT_get hI.1 4 0 5 (0) (0) (1000) (by decide) 1 (by decide) (by decide)
  rw [ew5038] at bw5038
  rw [ew5037, ew5038] at hb
  refine WP_aload_n dX7_tell_0 rfl ?_
  refine WP_dup dX7_tell_1 rfl ?_
  refine WQ_getiu dX7_tell_2 fX7_61 rfl (lyx_is hy 27 7 rfl) (fun v5039 ev5039 => ?_)
  refine WQ_iconst (1) (1) dX7_tell_5 rfl rfl (fun v5040 hv5040 => ?_)
  refine WQ_iaddu dX7_tell_6 (fun v5041 => ?_)
  refine WQ_puti dX7_tell_7 fX7_61 rfl rfl (lyx_is hy 27 7 rfl) (fun I5042 eI5042 => ?_)
  have hI5042 : XI g n L I5042 := by rw [eI5042]; exact (xi_f0 hy hI (c := 27) (by decide) (Or.inl (by decide)) (by decide))
  have e5043 : I5042 (ad g 1) 1 = L := by rw [eI5042, pp_ne _ _ (Or.inl (lyx_ne hy (by decide) (by decide) (by decide)))]; exact e5035
  have e5044 : I5042 (ad g 4) 0 = w5037 := by rw [eI5042, pp_ne _ _ (Or.inl (lyx_ne hy (by decide) (by decide) (by decide)))]; exact ew5037
  have e5045 : I5042 (ad g 4) 1 = w5038 := by rw [eI5042, pp_ne _ _ (Or.inl (lyx_ne hy (by decide) (by decide) (by decide)))]; exact ew5038
  have e5046 : I5042 (ad g 27) 0 = v5041 := by rw [eI5042, pp_self]
  have fr5047 : fz 74 g [27, 28, 42] I I5042 := by rw [eI5042]; exact fzx_pp hy fr0 (by decide) (by decide)
  clear eI5042
  refine WP_iload_n dX7_tell_10 rfl ?_
  refine WP_tab 178 dX7_tell_11 rfl rfl (fun c5047 => ?_) (fun j off c5047 hj => ?_) (by decide)
  · exact False.elim (by omega)
  · have hlt : j < 9 := by have := (Array.getElem?_eq_some_iff.mp hj).1; simpa using this
    have hcs : (j = 0 ∧ off = 49) ∨ (j = 1 ∧ off = 62) ∨ (j = 2 ∧ off = 70) ∨ (j = 3 ∧ off = 78) ∨ (j = 4 ∧ off = 91) ∨ (j = 5 ∧ off = 104) ∨ (j = 6 ∧ off = 117) ∨ (j = 7 ∧ off = 125) ∨ (j = 8 ∧ off = 149) := by
      match j, hlt, hj with
      | 0, _, hj => exact Or.inl ⟨rfl, (Option.some.inj hj).symm⟩
      | 1, _, hj => exact Or.inr (Or.inl ⟨rfl, (Option.some.inj hj).symm⟩)
      | 2, _, hj => exact Or.inr (Or.inr (Or.inl ⟨rfl, (Option.some.inj hj).symm⟩))
      | 3, _, hj => exact Or.inr (Or.inr (Or.inr (Or.inl ⟨rfl, (Option.some.inj hj).symm⟩)))
      | 4, _, hj => exact Or.inr (Or.inr (Or.inr (Or.inr (Or.inl ⟨rfl, (Option.some.inj hj).symm⟩))))
      | 5, _, hj => exact Or.inr (Or.inr (Or.inr (Or.inr (Or.inr (Or.inl ⟨rfl, (Option.some.inj hj).symm⟩)))))
      | 6, _, hj => exact Or.inr (Or.inr (Or.inr (Or.inr (Or.inr (Or.inr (Or.inl ⟨rfl, (Option.some.inj hj).symm⟩))))))
      | 7, _, hj => exact Or.inr (Or.inr (Or.inr (Or.inr (Or.inr (Or.inr (Or.inr (Or.inl ⟨rfl, (Option.some.inj hj).symm⟩)))))))
      | 8, _, hj => exact Or.inr (Or.inr (Or.inr (Or.inr (Or.inr (Or.inr (Or.inr (Or.inr (⟨rfl, (Option.some.inj hj).symm⟩))))))))
    clear hj hlt
    rcases hcs with ⟨rfl, rfl⟩ | ⟨rfl, rfl⟩ | ⟨rfl, rfl⟩ | ⟨rfl, rfl⟩ | ⟨rfl, rfl⟩ | ⟨rfl, rfl⟩ | ⟨rfl, rfl⟩ | ⟨rfl, rfl⟩ | ⟨rfl, rfl⟩
    · show WP _ _ 60 _ _ _ _ _ _
      refine WP_aload_n dX7_tell_60 rfl ?_
      refine WP_aload_n dX7_tell_61 rfl ?_
      refine WQ_iconst (0) (0) dX7_tell_62 rfl rfl (fun v5049 hv5049 => ?_)
      refine WQ_ialdm (z := 0) dX7_tell_63 (lyx_is hy 4 13 rfl) (lyx_n hy 4 5 rfl) hv5049 (by decide) e5044 ?_
      refine WP_aload_n dX7_tell_64 rfl ?_
      refine WQ_iconst (1) (1) dX7_tell_65 rfl rfl (fun v5051 hv5051 => ?_)
      refine WQ_ialdm (z := 1) dX7_tell_66 (lyx_is hy 4 13 rfl) (lyx_n hy 4 5 rfl) hv5051 (by decide) e5045 ?_
      refine WP_callV2 (k := 7) dX7_tell_67 ⟨⟨⟨by decide, by decide⟩, zX7_tellLoss⟩, lX7_91, by decide, rfl, vX7_tellLoss.1, vX7_tellLoss.2⟩ (lyx_is hy 27 7 rfl) (sx_tellLoss_27 hy hr hI5042 w5037 w5038 (by omega) (by omega) (by omega) (by omega)) (Nat.le_of_ble_eq_true rfl) ?_
      intro r I5053 J5054 Ra hq
      obtain ⟨⟨hI5053, ec, fiI5053, fjI5053⟩, rfl⟩ := hq
      rw [ec]
      clear ec Ra
      have fr5055 : fz 74 g [27, 28, 42] I I5053 := fz_tr fr5047 (fz_mono fiI5053 (by decide))
      have fr5056 : fz 74 g [] J J5054 := fz_tr frj0 (fz_mono fjI5053 (by decide))
      have e5057 : I5053 (ad g 1) 1 = L := hI5053.2
      have b5058 := BT_get hI5053.1 1 1 2 (0) (0) (900) (by decide) 1 (by decide) (by decide)
      rw [e5057] at b5058
      refine WP_goto 193 dX7_tell_70 rfl ?_
      exact WP_vret dX7_tell_193 rfl ⟨⟨hI5053, rfl, fr5055, fr5056, trivial⟩, rfl⟩
    · exact False.elim (by omega)
    · exact False.elim (by omega)
    · exact False.elim (by omega)
    · exact False.elim (by omega)
    · exact False.elim (by omega)
    · exact False.elim (by omega)
    · exact False.elim (by omega)
    · exact False.elim (by omega)
set_option maxHeartbeats 4000000 in
set_option maxRecDepth 100000 in
theorem sx_tell_27_1 {g : GG} {n : Int} {L : Int32} (hy : LyX g)  {I : pI} {J : pJ} {R : pR} (hr : RfX g R) (hI : XI g n L I) (cl : Int32) (cl_lo : 1 ≤ cl.toInt) (cl_hi : cl.toInt ≤ 1) (hb : (I (ad g 4) 1).toInt ≤ 99 ∧ (I (ad g 4) 2).toInt ≤ 1000 ∧ (I (ad g 4) 3).toInt ≤ 60 ∧ (I (ad g 27) 1).toInt ≤ 3) : SP g mX7_tell [.ref (ad g 27), .int cl, .ref (ad g 4)] I J R (fun r I' J' R' => (XI g n L I' ∧ R' = R ∧ fz 74 g [27, 29, 30, 31] I I' ∧ fz 74 g [] J J' ∧ True) ∧ r = none) := by
  refine SP_of ⟨by decide, rfl⟩ (Nat.le_of_ble_eq_true rfl) ?_
  have e5059 : I (ad g 1) 1 = L := hI.2
  have b5060 := BT_get hI.1 1 1 2 (0) (0) (900) (by decide) 1 (by decide) (by decide)
  rw [e5059] at b5060
  have fr0 : fz 74 g [27, 29, 30, 31] I I := fz_rf
  have frj0 : fz 74 g [] J J := fz_rf
  obtain ⟨w5061, ew5061⟩ : ∃ w : Int32, I (ad g 4) 1 = w := ⟨_, rfl⟩
  have bw5061 := BT_get hI.1 4 0 5 (0) (0) (1000) (by decide) 1 (by decide) (by decide)
  rw [ew5061] at bw5061
  obtain ⟨w5062, ew5062⟩ : ∃ w : Int32, I (ad g 4) 2 = w := ⟨_, rfl⟩
  have bw5062 := BT_get hI.1 4 0 5 (0) (0) (1000) (by decide) 2 (by decide) (by decide)
  rw [ew5062] at bw5062
  obtain ⟨w5063, ew5063⟩ : ∃ w : Int32, I (ad g 4) 3 = w := ⟨_, rfl⟩
  have bw5063 := BT_get hI.1 4 0 5 (0) (0) (1000) (by decide) 3 (by decide) (by decide)
  rw [ew5063] at bw5063
  obtain ⟨w5064, ew5064⟩ : ∃ w : Int32, I (ad g 27) 1 = w := ⟨_, rfl⟩
  have bw5064 := BT_get hI.1 27 1 2 (0) (0) (4) (by decide) 1 (by decide) (by decide)
  rw [ew5064] at bw5064
  rw [ew5061, ew5062, ew5063, ew5064] at hb
  refine WP_aload_n dX7_tell_0 rfl ?_
  refine WP_dup dX7_tell_1 rfl ?_
  refine WQ_getiu dX7_tell_2 fX7_61 rfl (lyx_is hy 27 7 rfl) (fun v5065 ev5065 => ?_)
  refine WQ_iconst (1) (1) dX7_tell_5 rfl rfl (fun v5066 hv5066 => ?_)
  refine WQ_iaddu dX7_tell_6 (fun v5067 => ?_)
  refine WQ_puti dX7_tell_7 fX7_61 rfl rfl (lyx_is hy 27 7 rfl) (fun I5068 eI5068 => ?_)
  have hI5068 : XI g n L I5068 := by rw [eI5068]; exact (xi_f0 hy hI (c := 27) (by decide) (Or.inl (by decide)) (by decide))
  have e5069 : I5068 (ad g 1) 1 = L := by rw [eI5068, pp_ne _ _ (Or.inl (lyx_ne hy (by decide) (by decide) (by decide)))]; exact e5059
  have e5070 : I5068 (ad g 4) 1 = w5061 := by rw [eI5068, pp_ne _ _ (Or.inl (lyx_ne hy (by decide) (by decide) (by decide)))]; exact ew5061
  have e5071 : I5068 (ad g 4) 2 = w5062 := by rw [eI5068, pp_ne _ _ (Or.inl (lyx_ne hy (by decide) (by decide) (by decide)))]; exact ew5062
  have e5072 : I5068 (ad g 4) 3 = w5063 := by rw [eI5068, pp_ne _ _ (Or.inl (lyx_ne hy (by decide) (by decide) (by decide)))]; exact ew5063
  have e5073 : I5068 (ad g 27) 1 = w5064 := by rw [eI5068, pp_ne _ _ (Or.inr (by decide))]; exact ew5064
  have e5074 : I5068 (ad g 27) 0 = v5067 := by rw [eI5068, pp_self]
  have fr5075 : fz 74 g [27, 29, 30, 31] I I5068 := by rw [eI5068]; exact fzx_pp hy fr0 (by decide) (by decide)
  clear eI5068
  refine WP_iload_n dX7_tell_10 rfl ?_
  refine WP_tab 178 dX7_tell_11 rfl rfl (fun c5075 => ?_) (fun j off c5075 hj => ?_) (by decide)
  · exact False.elim (by omega)
  · have hlt : j < 9 := by have := (Array.getElem?_eq_some_iff.mp hj).1; simpa using this
    have hcs : (j = 0 ∧ off = 49) ∨ (j = 1 ∧ off = 62) ∨ (j = 2 ∧ off = 70) ∨ (j = 3 ∧ off = 78) ∨ (j = 4 ∧ off = 91) ∨ (j = 5 ∧ off = 104) ∨ (j = 6 ∧ off = 117) ∨ (j = 7 ∧ off = 125) ∨ (j = 8 ∧ off = 149) := by
      match j, hlt, hj with
      | 0, _, hj => exact Or.inl ⟨rfl, (Option.some.inj hj).symm⟩
      | 1, _, hj => exact Or.inr (Or.inl ⟨rfl, (Option.some.inj hj).symm⟩)
      | 2, _, hj => exact Or.inr (Or.inr (Or.inl ⟨rfl, (Option.some.inj hj).symm⟩))
      | 3, _, hj => exact Or.inr (Or.inr (Or.inr (Or.inl ⟨rfl, (Option.some.inj hj).symm⟩)))
      | 4, _, hj => exact Or.inr (Or.inr (Or.inr (Or.inr (Or.inl ⟨rfl, (Option.some.inj hj).symm⟩))))
      | 5, _, hj => exact Or.inr (Or.inr (Or.inr (Or.inr (Or.inr (Or.inl ⟨rfl, (Option.some.inj hj).symm⟩)))))
      | 6, _, hj => exact Or.inr (Or.inr (Or.inr (Or.inr (Or.inr (Or.inr (Or.inl ⟨rfl, (Option.some.inj hj).symm⟩))))))
      | 7, _, hj => exact Or.inr (Or.inr (Or.inr (Or.inr (Or.inr (Or.inr (Or.inr (Or.inl ⟨rfl, (Option.some.inj hj).symm⟩)))))))
      | 8, _, hj => exact Or.inr (Or.inr (Or.inr (Or.inr (Or.inr (Or.inr (Or.inr (Or.inr (⟨rfl, (Option.some.inj hj).symm⟩))))))))
    clear hj hlt
    rcases hcs with ⟨rfl, rfl⟩ | ⟨rfl, rfl⟩ | ⟨rfl, rfl⟩ | ⟨rfl, rfl⟩ | ⟨rfl, rfl⟩ | ⟨rfl, rfl⟩ | ⟨rfl, rfl⟩ | ⟨rfl, rfl⟩ | ⟨rfl, rfl⟩
    · exact False.elim (by omega)
    · show WP _ _ 73 _ _ _ _ _ _
      refine WP_aload_n dX7_tell_73 rfl ?_
      refine WP_aload_n dX7_tell_74 rfl ?_
      refine WP_callV1 (k := 7) dX7_tell_75 ⟨⟨⟨by decide, by decide⟩, zX7_tellSort⟩, lX7_95, by decide, rfl, vX7_tellSort.1, vX7_tellSort.2⟩ (lyx_is hy 27 7 rfl) (sx_tellSort_27 hy hr hI5068   (by rw [e5070, e5071, e5072, e5073]; omega)) (Nat.le_of_ble_eq_true rfl) ?_
      intro r I5077 J5078 Ra hq
      obtain ⟨⟨hI5077, ec, fiI5077, fjI5077, pI5077⟩, rfl⟩ := hq
      rw [ec]
      clear ec Ra
      have fr5079 : fz 74 g [27, 29, 30, 31] I I5077 := fz_tr fr5075 (fz_mono fiI5077 (by decide))
      have fr5080 : fz 74 g [] J J5078 := fz_tr frj0 (fz_mono fjI5077 (by decide))
      have e5081 : I5077 (ad g 1) 1 = L := hI5077.2
      have b5082 := BT_get hI5077.1 1 1 2 (0) (0) (900) (by decide) 1 (by decide) (by decide)
      rw [e5081] at b5082
      refine WP_goto 193 dX7_tell_78 rfl ?_
      exact WP_vret dX7_tell_193 rfl ⟨⟨hI5077, rfl, fr5079, fr5080, trivial⟩, rfl⟩
    · exact False.elim (by omega)
    · exact False.elim (by omega)
    · exact False.elim (by omega)
    · exact False.elim (by omega)
    · exact False.elim (by omega)
    · exact False.elim (by omega)
    · exact False.elim (by omega)
set_option maxHeartbeats 4000000 in
set_option maxRecDepth 100000 in
theorem sx_tell_27_2 {g : GG} {n : Int} {L : Int32} (hy : LyX g)  {I : pI} {J : pJ} {R : pR} (hr : RfX g R) (hI : XI g n L I) (cl : Int32) (cl_lo : 2 ≤ cl.toInt) (cl_hi : cl.toInt ≤ 2) (hb : (I (ad g 4) 1).toInt ≤ 1000 ∧ (I (ad g 4) 2).toInt ≤ 9 ∧ (I (ad g 27) 2).toInt ≤ 2) : SP g mX7_tell [.ref (ad g 27), .int cl, .ref (ad g 4)] I J R (fun r I' J' R' => (XI g n L I' ∧ R' = R ∧ fz 74 g [27, 37, 38] I I' ∧ fz 74 g [] J J' ∧ True) ∧ r = none) := by
  refine SP_of ⟨by decide, rfl⟩ (Nat.le_of_ble_eq_true rfl) ?_
  have e5083 : I (ad g 1) 1 = L := hI.2
  have b5084 := BT_get hI.1 1 1 2 (0) (0) (900) (by decide) 1 (by decide) (by decide)
  rw [e5083] at b5084
  have fr0 : fz 74 g [27, 37, 38] I I := fz_rf
  have frj0 : fz 74 g [] J J := fz_rf
  obtain ⟨w5085, ew5085⟩ : ∃ w : Int32, I (ad g 4) 1 = w := ⟨_, rfl⟩
  have bw5085 := BT_get hI.1 4 0 5 (0) (0) (1000) (by decide) 1 (by decide) (by decide)
  rw [ew5085] at bw5085
  obtain ⟨w5086, ew5086⟩ : ∃ w : Int32, I (ad g 4) 2 = w := ⟨_, rfl⟩
  have bw5086 := BT_get hI.1 4 0 5 (0) (0) (1000) (by decide) 2 (by decide) (by decide)
  rw [ew5086] at bw5086
  obtain ⟨w5087, ew5087⟩ : ∃ w : Int32, I (ad g 27) 2 = w := ⟨_, rfl⟩
  have bw5087 := BT_get hI.1 27 2 3 (0) (0) (3) (by decide) 2 (by decide) (by decide)
  rw [ew5087] at bw5087
  rw [ew5085, ew5086, ew5087] at hb
  refine WP_aload_n dX7_tell_0 rfl ?_
  refine WP_dup dX7_tell_1 rfl ?_
  refine WQ_getiu dX7_tell_2 fX7_61 rfl (lyx_is hy 27 7 rfl) (fun v5088 ev5088 => ?_)
  refine WQ_iconst (1) (1) dX7_tell_5 rfl rfl (fun v5089 hv5089 => ?_)
  refine WQ_iaddu dX7_tell_6 (fun v5090 => ?_)
  refine WQ_puti dX7_tell_7 fX7_61 rfl rfl (lyx_is hy 27 7 rfl) (fun I5091 eI5091 => ?_)
  have hI5091 : XI g n L I5091 := by rw [eI5091]; exact (xi_f0 hy hI (c := 27) (by decide) (Or.inl (by decide)) (by decide))
  have e5092 : I5091 (ad g 1) 1 = L := by rw [eI5091, pp_ne _ _ (Or.inl (lyx_ne hy (by decide) (by decide) (by decide)))]; exact e5083
  have e5093 : I5091 (ad g 4) 1 = w5085 := by rw [eI5091, pp_ne _ _ (Or.inl (lyx_ne hy (by decide) (by decide) (by decide)))]; exact ew5085
  have e5094 : I5091 (ad g 4) 2 = w5086 := by rw [eI5091, pp_ne _ _ (Or.inl (lyx_ne hy (by decide) (by decide) (by decide)))]; exact ew5086
  have e5095 : I5091 (ad g 27) 2 = w5087 := by rw [eI5091, pp_ne _ _ (Or.inr (by decide))]; exact ew5087
  have e5096 : I5091 (ad g 27) 0 = v5090 := by rw [eI5091, pp_self]
  have fr5097 : fz 74 g [27, 37, 38] I I5091 := by rw [eI5091]; exact fzx_pp hy fr0 (by decide) (by decide)
  clear eI5091
  refine WP_iload_n dX7_tell_10 rfl ?_
  refine WP_tab 178 dX7_tell_11 rfl rfl (fun c5097 => ?_) (fun j off c5097 hj => ?_) (by decide)
  · exact False.elim (by omega)
  · have hlt : j < 9 := by have := (Array.getElem?_eq_some_iff.mp hj).1; simpa using this
    have hcs : (j = 0 ∧ off = 49) ∨ (j = 1 ∧ off = 62) ∨ (j = 2 ∧ off = 70) ∨ (j = 3 ∧ off = 78) ∨ (j = 4 ∧ off = 91) ∨ (j = 5 ∧ off = 104) ∨ (j = 6 ∧ off = 117) ∨ (j = 7 ∧ off = 125) ∨ (j = 8 ∧ off = 149) := by
      match j, hlt, hj with
      | 0, _, hj => exact Or.inl ⟨rfl, (Option.some.inj hj).symm⟩
      | 1, _, hj => exact Or.inr (Or.inl ⟨rfl, (Option.some.inj hj).symm⟩)
      | 2, _, hj => exact Or.inr (Or.inr (Or.inl ⟨rfl, (Option.some.inj hj).symm⟩))
      | 3, _, hj => exact Or.inr (Or.inr (Or.inr (Or.inl ⟨rfl, (Option.some.inj hj).symm⟩)))
      | 4, _, hj => exact Or.inr (Or.inr (Or.inr (Or.inr (Or.inl ⟨rfl, (Option.some.inj hj).symm⟩))))
      | 5, _, hj => exact Or.inr (Or.inr (Or.inr (Or.inr (Or.inr (Or.inl ⟨rfl, (Option.some.inj hj).symm⟩)))))
      | 6, _, hj => exact Or.inr (Or.inr (Or.inr (Or.inr (Or.inr (Or.inr (Or.inl ⟨rfl, (Option.some.inj hj).symm⟩))))))
      | 7, _, hj => exact Or.inr (Or.inr (Or.inr (Or.inr (Or.inr (Or.inr (Or.inr (Or.inl ⟨rfl, (Option.some.inj hj).symm⟩)))))))
      | 8, _, hj => exact Or.inr (Or.inr (Or.inr (Or.inr (Or.inr (Or.inr (Or.inr (Or.inr (⟨rfl, (Option.some.inj hj).symm⟩))))))))
    clear hj hlt
    rcases hcs with ⟨rfl, rfl⟩ | ⟨rfl, rfl⟩ | ⟨rfl, rfl⟩ | ⟨rfl, rfl⟩ | ⟨rfl, rfl⟩ | ⟨rfl, rfl⟩ | ⟨rfl, rfl⟩ | ⟨rfl, rfl⟩ | ⟨rfl, rfl⟩
    · exact False.elim (by omega)
    · exact False.elim (by omega)
    · show WP _ _ 81 _ _ _ _ _ _
      refine WP_aload_n dX7_tell_81 rfl ?_
      refine WP_aload_n dX7_tell_82 rfl ?_
      refine WP_callV1 (k := 7) dX7_tell_83 ⟨⟨⟨by decide, by decide⟩, zX7_tellThing⟩, lX7_99, by decide, rfl, vX7_tellThing.1, vX7_tellThing.2⟩ (lyx_is hy 27 7 rfl) (sx_tellThing_27 hy hr hI5091   (by rw [e5093, e5094, e5095]; omega)) (Nat.le_of_ble_eq_true rfl) ?_
      intro r I5099 J5100 Ra hq
      obtain ⟨⟨hI5099, ec, fiI5099, fjI5099, pI5099⟩, rfl⟩ := hq
      rw [ec]
      clear ec Ra
      have fr5101 : fz 74 g [27, 37, 38] I I5099 := fz_tr fr5097 (fz_mono fiI5099 (by decide))
      have fr5102 : fz 74 g [] J J5100 := fz_tr frj0 (fz_mono fjI5099 (by decide))
      have e5103 : I5099 (ad g 1) 1 = L := hI5099.2
      have b5104 := BT_get hI5099.1 1 1 2 (0) (0) (900) (by decide) 1 (by decide) (by decide)
      rw [e5103] at b5104
      refine WP_goto 193 dX7_tell_86 rfl ?_
      exact WP_vret dX7_tell_193 rfl ⟨⟨hI5099, rfl, fr5101, fr5102, trivial⟩, rfl⟩
    · exact False.elim (by omega)
    · exact False.elim (by omega)
    · exact False.elim (by omega)
    · exact False.elim (by omega)
    · exact False.elim (by omega)
    · exact False.elim (by omega)
set_option maxHeartbeats 4000000 in
set_option maxRecDepth 100000 in
theorem sx_tell_27_3 {g : GG} {n : Int} {L : Int32} (hy : LyX g)  {I : pI} {J : pJ} {R : pR} (hr : RfX g R) (hI : XI g n L I) (cl : Int32) (cl_lo : 3 ≤ cl.toInt) (cl_hi : cl.toInt ≤ 3) (hb : (I (ad g 4) 0).toInt ≤ 3 ∧ (I (ad g 4) 1).toInt ≤ 6 ∧ (I (ad g 4) 2).toInt ≤ 20) : SP g mX7_tell [.ref (ad g 27), .int cl, .ref (ad g 4)] I J R (fun r I' J' R' => (XI g n L I' ∧ R' = R ∧ fz 74 g [27, 33, 42] I I' ∧ fz 74 g [] J J' ∧ True) ∧ r = none) := by
  refine SP_of ⟨by decide, rfl⟩ (Nat.le_of_ble_eq_true rfl) ?_
  have e5105 : I (ad g 1) 1 = L := hI.2
  have b5106 := BT_get hI.1 1 1 2 (0) (0) (900) (by decide) 1 (by decide) (by decide)
  rw [e5105] at b5106
  have fr0 : fz 74 g [27, 33, 42] I I := fz_rf
  have frj0 : fz 74 g [] J J := fz_rf
  obtain ⟨w5107, ew5107⟩ : ∃ w : Int32, I (ad g 4) 0 = w := ⟨_, rfl⟩
  have bw5107 := BT_get hI.1 4 0 5 (0) (0) (1000) (by decide) 0 (by decide) (by decide)
  rw [ew5107] at bw5107
  obtain ⟨w5108, ew5108⟩ : ∃ w : Int32, I (ad g 4) 1 = w := ⟨_, rfl⟩
  have bw5108 := BT_get hI.1 4 0 5 (0) (0) (1000) (by decide) 1 (by decide) (by decide)
  rw [ew5108] at bw5108
  obtain ⟨w5109, ew5109⟩ : ∃ w : Int32, I (ad g 4) 2 = w := ⟨_, rfl⟩
  have bw5109 := BT_get hI.1 4 0 5 (0) (0) (1000) (by decide) 2 (by decide) (by decide)
  rw [ew5109] at bw5109
  rw [ew5107, ew5108, ew5109] at hb
  refine WP_aload_n dX7_tell_0 rfl ?_
  refine WP_dup dX7_tell_1 rfl ?_
  refine WQ_getiu dX7_tell_2 fX7_61 rfl (lyx_is hy 27 7 rfl) (fun v5110 ev5110 => ?_)
  refine WQ_iconst (1) (1) dX7_tell_5 rfl rfl (fun v5111 hv5111 => ?_)
  refine WQ_iaddu dX7_tell_6 (fun v5112 => ?_)
  refine WQ_puti dX7_tell_7 fX7_61 rfl rfl (lyx_is hy 27 7 rfl) (fun I5113 eI5113 => ?_)
  have hI5113 : XI g n L I5113 := by rw [eI5113]; exact (xi_f0 hy hI (c := 27) (by decide) (Or.inl (by decide)) (by decide))
  have e5114 : I5113 (ad g 1) 1 = L := by rw [eI5113, pp_ne _ _ (Or.inl (lyx_ne hy (by decide) (by decide) (by decide)))]; exact e5105
  have e5115 : I5113 (ad g 4) 0 = w5107 := by rw [eI5113, pp_ne _ _ (Or.inl (lyx_ne hy (by decide) (by decide) (by decide)))]; exact ew5107
  have e5116 : I5113 (ad g 4) 1 = w5108 := by rw [eI5113, pp_ne _ _ (Or.inl (lyx_ne hy (by decide) (by decide) (by decide)))]; exact ew5108
  have e5117 : I5113 (ad g 4) 2 = w5109 := by rw [eI5113, pp_ne _ _ (Or.inl (lyx_ne hy (by decide) (by decide) (by decide)))]; exact ew5109
  have e5118 : I5113 (ad g 27) 0 = v5112 := by rw [eI5113, pp_self]
  have fr5119 : fz 74 g [27, 33, 42] I I5113 := by rw [eI5113]; exact fzx_pp hy fr0 (by decide) (by decide)
  clear eI5113
  refine WP_iload_n dX7_tell_10 rfl ?_
  refine WP_tab 178 dX7_tell_11 rfl rfl (fun c5119 => ?_) (fun j off c5119 hj => ?_) (by decide)
  · exact False.elim (by omega)
  · have hlt : j < 9 := by have := (Array.getElem?_eq_some_iff.mp hj).1; simpa using this
    have hcs : (j = 0 ∧ off = 49) ∨ (j = 1 ∧ off = 62) ∨ (j = 2 ∧ off = 70) ∨ (j = 3 ∧ off = 78) ∨ (j = 4 ∧ off = 91) ∨ (j = 5 ∧ off = 104) ∨ (j = 6 ∧ off = 117) ∨ (j = 7 ∧ off = 125) ∨ (j = 8 ∧ off = 149) := by
      match j, hlt, hj with
      | 0, _, hj => exact Or.inl ⟨rfl, (Option.some.inj hj).symm⟩
      | 1, _, hj => exact Or.inr (Or.inl ⟨rfl, (Option.some.inj hj).symm⟩)
      | 2, _, hj => exact Or.inr (Or.inr (Or.inl ⟨rfl, (Option.some.inj hj).symm⟩))
      | 3, _, hj => exact Or.inr (Or.inr (Or.inr (Or.inl ⟨rfl, (Option.some.inj hj).symm⟩)))
      | 4, _, hj => exact Or.inr (Or.inr (Or.inr (Or.inr (Or.inl ⟨rfl, (Option.some.inj hj).symm⟩))))
      | 5, _, hj => exact Or.inr (Or.inr (Or.inr (Or.inr (Or.inr (Or.inl ⟨rfl, (Option.some.inj hj).symm⟩)))))
      | 6, _, hj => exact Or.inr (Or.inr (Or.inr (Or.inr (Or.inr (Or.inr (Or.inl ⟨rfl, (Option.some.inj hj).symm⟩))))))
      | 7, _, hj => exact Or.inr (Or.inr (Or.inr (Or.inr (Or.inr (Or.inr (Or.inr (Or.inl ⟨rfl, (Option.some.inj hj).symm⟩)))))))
      | 8, _, hj => exact Or.inr (Or.inr (Or.inr (Or.inr (Or.inr (Or.inr (Or.inr (Or.inr (⟨rfl, (Option.some.inj hj).symm⟩))))))))
    clear hj hlt
    rcases hcs with ⟨rfl, rfl⟩ | ⟨rfl, rfl⟩ | ⟨rfl, rfl⟩ | ⟨rfl, rfl⟩ | ⟨rfl, rfl⟩ | ⟨rfl, rfl⟩ | ⟨rfl, rfl⟩ | ⟨rfl, rfl⟩ | ⟨rfl, rfl⟩
    · exact False.elim (by omega)
    · exact False.elim (by omega)
    · exact False.elim (by omega)
    · show WP _ _ 89 _ _ _ _ _ _
      refine WP_aload_n dX7_tell_89 rfl ?_
      refine WP_aload_n dX7_tell_90 rfl ?_
      refine WP_getr dX7_tell_91 fX7_27 rfl (lyx_is hy 27 7 rfl) (rfx hr 27 10 33 (by decide)) ?_
      refine WP_iload_n dX7_tell_94 rfl ?_
      refine WP_aload_n dX7_tell_95 rfl ?_
      refine WP_callV3 (k := 7) dX7_tell_96 ⟨⟨⟨by decide, by decide⟩, zX7_tellOn⟩, lX7_102, by decide, rfl, vX7_tellOn.1, vX7_tellOn.2⟩ (lyx_is hy 27 7 rfl) (sx_tellOn_27_3 hy hr hI5113 cl (by omega) (by omega) (by rw [e5115, e5116, e5117]; omega)) (Nat.le_of_ble_eq_true rfl) ?_
      intro r I5121 J5122 Ra hq
      obtain ⟨⟨hI5121, ec, fiI5121, fjI5121, pI5121⟩, rfl⟩ := hq
      rw [ec]
      clear ec Ra
      have fr5123 : fz 74 g [27, 33, 42] I I5121 := fz_tr fr5119 (fz_mono fiI5121 (by decide))
      have fr5124 : fz 74 g [] J J5122 := fz_tr frj0 (fz_mono fjI5121 (by decide))
      have e5125 : I5121 (ad g 1) 1 = L := hI5121.2
      have b5126 := BT_get hI5121.1 1 1 2 (0) (0) (900) (by decide) 1 (by decide) (by decide)
      rw [e5125] at b5126
      refine WP_goto 193 dX7_tell_99 rfl ?_
      exact WP_vret dX7_tell_193 rfl ⟨⟨hI5121, rfl, fr5123, fr5124, trivial⟩, rfl⟩
    · exact False.elim (by omega)
    · exact False.elim (by omega)
    · exact False.elim (by omega)
    · exact False.elim (by omega)
    · exact False.elim (by omega)
set_option maxHeartbeats 4000000 in
set_option maxRecDepth 100000 in
theorem sx_tell_27_4 {g : GG} {n : Int} {L : Int32} (hy : LyX g)  {I : pI} {J : pJ} {R : pR} (hr : RfX g R) (hI : XI g n L I) (cl : Int32) (cl_lo : 4 ≤ cl.toInt) (cl_hi : cl.toInt ≤ 4) (hb : (I (ad g 4) 0).toInt ≤ 2 ∧ (I (ad g 4) 1).toInt ≤ 6 ∧ (I (ad g 4) 2).toInt ≤ 20) : SP g mX7_tell [.ref (ad g 27), .int cl, .ref (ad g 4)] I J R (fun r I' J' R' => (XI g n L I' ∧ R' = R ∧ fz 74 g [27, 39, 42] I I' ∧ fz 74 g [] J J' ∧ True) ∧ r = none) := by
  refine SP_of ⟨by decide, rfl⟩ (Nat.le_of_ble_eq_true rfl) ?_
  have e5127 : I (ad g 1) 1 = L := hI.2
  have b5128 := BT_get hI.1 1 1 2 (0) (0) (900) (by decide) 1 (by decide) (by decide)
  rw [e5127] at b5128
  have fr0 : fz 74 g [27, 39, 42] I I := fz_rf
  have frj0 : fz 74 g [] J J := fz_rf
  obtain ⟨w5129, ew5129⟩ : ∃ w : Int32, I (ad g 4) 0 = w := ⟨_, rfl⟩
  have bw5129 := BT_get hI.1 4 0 5 (0) (0) (1000) (by decide) 0 (by decide) (by decide)
  rw [ew5129] at bw5129
  obtain ⟨w5130, ew5130⟩ : ∃ w : Int32, I (ad g 4) 1 = w := ⟨_, rfl⟩
  have bw5130 := BT_get hI.1 4 0 5 (0) (0) (1000) (by decide) 1 (by decide) (by decide)
  rw [ew5130] at bw5130
  obtain ⟨w5131, ew5131⟩ : ∃ w : Int32, I (ad g 4) 2 = w := ⟨_, rfl⟩
  have bw5131 := BT_get hI.1 4 0 5 (0) (0) (1000) (by decide) 2 (by decide) (by decide)
  rw [ew5131] at bw5131
  rw [ew5129, ew5130, ew5131] at hb
  refine WP_aload_n dX7_tell_0 rfl ?_
  refine WP_dup dX7_tell_1 rfl ?_
  refine WQ_getiu dX7_tell_2 fX7_61 rfl (lyx_is hy 27 7 rfl) (fun v5132 ev5132 => ?_)
  refine WQ_iconst (1) (1) dX7_tell_5 rfl rfl (fun v5133 hv5133 => ?_)
  refine WQ_iaddu dX7_tell_6 (fun v5134 => ?_)
  refine WQ_puti dX7_tell_7 fX7_61 rfl rfl (lyx_is hy 27 7 rfl) (fun I5135 eI5135 => ?_)
  have hI5135 : XI g n L I5135 := by rw [eI5135]; exact (xi_f0 hy hI (c := 27) (by decide) (Or.inl (by decide)) (by decide))
  have e5136 : I5135 (ad g 1) 1 = L := by rw [eI5135, pp_ne _ _ (Or.inl (lyx_ne hy (by decide) (by decide) (by decide)))]; exact e5127
  have e5137 : I5135 (ad g 4) 0 = w5129 := by rw [eI5135, pp_ne _ _ (Or.inl (lyx_ne hy (by decide) (by decide) (by decide)))]; exact ew5129
  have e5138 : I5135 (ad g 4) 1 = w5130 := by rw [eI5135, pp_ne _ _ (Or.inl (lyx_ne hy (by decide) (by decide) (by decide)))]; exact ew5130
  have e5139 : I5135 (ad g 4) 2 = w5131 := by rw [eI5135, pp_ne _ _ (Or.inl (lyx_ne hy (by decide) (by decide) (by decide)))]; exact ew5131
  have e5140 : I5135 (ad g 27) 0 = v5134 := by rw [eI5135, pp_self]
  have fr5141 : fz 74 g [27, 39, 42] I I5135 := by rw [eI5135]; exact fzx_pp hy fr0 (by decide) (by decide)
  clear eI5135
  refine WP_iload_n dX7_tell_10 rfl ?_
  refine WP_tab 178 dX7_tell_11 rfl rfl (fun c5141 => ?_) (fun j off c5141 hj => ?_) (by decide)
  · exact False.elim (by omega)
  · have hlt : j < 9 := by have := (Array.getElem?_eq_some_iff.mp hj).1; simpa using this
    have hcs : (j = 0 ∧ off = 49) ∨ (j = 1 ∧ off = 62) ∨ (j = 2 ∧ off = 70) ∨ (j = 3 ∧ off = 78) ∨ (j = 4 ∧ off = 91) ∨ (j = 5 ∧ off = 104) ∨ (j = 6 ∧ off = 117) ∨ (j = 7 ∧ off = 125) ∨ (j = 8 ∧ off = 149) := by
      match j, hlt, hj with
      | 0, _, hj => exact Or.inl ⟨rfl, (Option.some.inj hj).symm⟩
      | 1, _, hj => exact Or.inr (Or.inl ⟨rfl, (Option.some.inj hj).symm⟩)
      | 2, _, hj => exact Or.inr (Or.inr (Or.inl ⟨rfl, (Option.some.inj hj).symm⟩))
      | 3, _, hj => exact Or.inr (Or.inr (Or.inr (Or.inl ⟨rfl, (Option.some.inj hj).symm⟩)))
      | 4, _, hj => exact Or.inr (Or.inr (Or.inr (Or.inr (Or.inl ⟨rfl, (Option.some.inj hj).symm⟩))))
      | 5, _, hj => exact Or.inr (Or.inr (Or.inr (Or.inr (Or.inr (Or.inl ⟨rfl, (Option.some.inj hj).symm⟩)))))
      | 6, _, hj => exact Or.inr (Or.inr (Or.inr (Or.inr (Or.inr (Or.inr (Or.inl ⟨rfl, (Option.some.inj hj).symm⟩))))))
      | 7, _, hj => exact Or.inr (Or.inr (Or.inr (Or.inr (Or.inr (Or.inr (Or.inr (Or.inl ⟨rfl, (Option.some.inj hj).symm⟩)))))))
      | 8, _, hj => exact Or.inr (Or.inr (Or.inr (Or.inr (Or.inr (Or.inr (Or.inr (Or.inr (⟨rfl, (Option.some.inj hj).symm⟩))))))))
    clear hj hlt
    rcases hcs with ⟨rfl, rfl⟩ | ⟨rfl, rfl⟩ | ⟨rfl, rfl⟩ | ⟨rfl, rfl⟩ | ⟨rfl, rfl⟩ | ⟨rfl, rfl⟩ | ⟨rfl, rfl⟩ | ⟨rfl, rfl⟩ | ⟨rfl, rfl⟩
    · exact False.elim (by omega)
    · exact False.elim (by omega)
    · exact False.elim (by omega)
    · exact False.elim (by omega)
    · show WP _ _ 102 _ _ _ _ _ _
      refine WP_aload_n dX7_tell_102 rfl ?_
      refine WP_aload_n dX7_tell_103 rfl ?_
      refine WP_getr dX7_tell_104 fX7_45 rfl (lyx_is hy 27 7 rfl) (rfx hr 27 16 39 (by decide)) ?_
      refine WP_iload_n dX7_tell_107 rfl ?_
      refine WP_aload_n dX7_tell_108 rfl ?_
      refine WP_callV3 (k := 7) dX7_tell_109 ⟨⟨⟨by decide, by decide⟩, zX7_tellOn⟩, lX7_102, by decide, rfl, vX7_tellOn.1, vX7_tellOn.2⟩ (lyx_is hy 27 7 rfl) (sx_tellOn_27_4 hy hr hI5135 cl (by omega) (by omega) (by rw [e5137, e5138, e5139]; omega)) (Nat.le_of_ble_eq_true rfl) ?_
      intro r I5143 J5144 Ra hq
      obtain ⟨⟨hI5143, ec, fiI5143, fjI5143, pI5143⟩, rfl⟩ := hq
      rw [ec]
      clear ec Ra
      have fr5145 : fz 74 g [27, 39, 42] I I5143 := fz_tr fr5141 (fz_mono fiI5143 (by decide))
      have fr5146 : fz 74 g [] J J5144 := fz_tr frj0 (fz_mono fjI5143 (by decide))
      have e5147 : I5143 (ad g 1) 1 = L := hI5143.2
      have b5148 := BT_get hI5143.1 1 1 2 (0) (0) (900) (by decide) 1 (by decide) (by decide)
      rw [e5147] at b5148
      refine WP_goto 193 dX7_tell_112 rfl ?_
      exact WP_vret dX7_tell_193 rfl ⟨⟨hI5143, rfl, fr5145, fr5146, trivial⟩, rfl⟩
    · exact False.elim (by omega)
    · exact False.elim (by omega)
    · exact False.elim (by omega)
    · exact False.elim (by omega)
set_option maxHeartbeats 4000000 in
set_option maxRecDepth 100000 in
theorem sx_tell_27_5 {g : GG} {n : Int} {L : Int32} (hy : LyX g)  {I : pI} {J : pJ} {R : pR} (hr : RfX g R) (hI : XI g n L I) (cl : Int32) (cl_lo : 5 ≤ cl.toInt) (cl_hi : cl.toInt ≤ 5) (hb : (I (ad g 4) 0).toInt ≤ 2 ∧ (I (ad g 4) 1).toInt ≤ 6 ∧ (I (ad g 4) 2).toInt ≤ 999) : SP g mX7_tell [.ref (ad g 27), .int cl, .ref (ad g 4)] I J R (fun r I' J' R' => (XI g n L I' ∧ R' = R ∧ fz 74 g [27, 40, 42] I I' ∧ fz 74 g [] J J' ∧ True) ∧ r = none) := by
  refine SP_of ⟨by decide, rfl⟩ (Nat.le_of_ble_eq_true rfl) ?_
  have e5149 : I (ad g 1) 1 = L := hI.2
  have b5150 := BT_get hI.1 1 1 2 (0) (0) (900) (by decide) 1 (by decide) (by decide)
  rw [e5149] at b5150
  have fr0 : fz 74 g [27, 40, 42] I I := fz_rf
  have frj0 : fz 74 g [] J J := fz_rf
  obtain ⟨w5151, ew5151⟩ : ∃ w : Int32, I (ad g 4) 0 = w := ⟨_, rfl⟩
  have bw5151 := BT_get hI.1 4 0 5 (0) (0) (1000) (by decide) 0 (by decide) (by decide)
  rw [ew5151] at bw5151
  obtain ⟨w5152, ew5152⟩ : ∃ w : Int32, I (ad g 4) 1 = w := ⟨_, rfl⟩
  have bw5152 := BT_get hI.1 4 0 5 (0) (0) (1000) (by decide) 1 (by decide) (by decide)
  rw [ew5152] at bw5152
  obtain ⟨w5153, ew5153⟩ : ∃ w : Int32, I (ad g 4) 2 = w := ⟨_, rfl⟩
  have bw5153 := BT_get hI.1 4 0 5 (0) (0) (1000) (by decide) 2 (by decide) (by decide)
  rw [ew5153] at bw5153
  rw [ew5151, ew5152, ew5153] at hb
  refine WP_aload_n dX7_tell_0 rfl ?_
  refine WP_dup dX7_tell_1 rfl ?_
  refine WQ_getiu dX7_tell_2 fX7_61 rfl (lyx_is hy 27 7 rfl) (fun v5154 ev5154 => ?_)
  refine WQ_iconst (1) (1) dX7_tell_5 rfl rfl (fun v5155 hv5155 => ?_)
  refine WQ_iaddu dX7_tell_6 (fun v5156 => ?_)
  refine WQ_puti dX7_tell_7 fX7_61 rfl rfl (lyx_is hy 27 7 rfl) (fun I5157 eI5157 => ?_)
  have hI5157 : XI g n L I5157 := by rw [eI5157]; exact (xi_f0 hy hI (c := 27) (by decide) (Or.inl (by decide)) (by decide))
  have e5158 : I5157 (ad g 1) 1 = L := by rw [eI5157, pp_ne _ _ (Or.inl (lyx_ne hy (by decide) (by decide) (by decide)))]; exact e5149
  have e5159 : I5157 (ad g 4) 0 = w5151 := by rw [eI5157, pp_ne _ _ (Or.inl (lyx_ne hy (by decide) (by decide) (by decide)))]; exact ew5151
  have e5160 : I5157 (ad g 4) 1 = w5152 := by rw [eI5157, pp_ne _ _ (Or.inl (lyx_ne hy (by decide) (by decide) (by decide)))]; exact ew5152
  have e5161 : I5157 (ad g 4) 2 = w5153 := by rw [eI5157, pp_ne _ _ (Or.inl (lyx_ne hy (by decide) (by decide) (by decide)))]; exact ew5153
  have e5162 : I5157 (ad g 27) 0 = v5156 := by rw [eI5157, pp_self]
  have fr5163 : fz 74 g [27, 40, 42] I I5157 := by rw [eI5157]; exact fzx_pp hy fr0 (by decide) (by decide)
  clear eI5157
  refine WP_iload_n dX7_tell_10 rfl ?_
  refine WP_tab 178 dX7_tell_11 rfl rfl (fun c5163 => ?_) (fun j off c5163 hj => ?_) (by decide)
  · exact False.elim (by omega)
  · have hlt : j < 9 := by have := (Array.getElem?_eq_some_iff.mp hj).1; simpa using this
    have hcs : (j = 0 ∧ off = 49) ∨ (j = 1 ∧ off = 62) ∨ (j = 2 ∧ off = 70) ∨ (j = 3 ∧ off = 78) ∨ (j = 4 ∧ off = 91) ∨ (j = 5 ∧ off = 104) ∨ (j = 6 ∧ off = 117) ∨ (j = 7 ∧ off = 125) ∨ (j = 8 ∧ off = 149) := by
      match j, hlt, hj with
      | 0, _, hj => exact Or.inl ⟨rfl, (Option.some.inj hj).symm⟩
      | 1, _, hj => exact Or.inr (Or.inl ⟨rfl, (Option.some.inj hj).symm⟩)
      | 2, _, hj => exact Or.inr (Or.inr (Or.inl ⟨rfl, (Option.some.inj hj).symm⟩))
      | 3, _, hj => exact Or.inr (Or.inr (Or.inr (Or.inl ⟨rfl, (Option.some.inj hj).symm⟩)))
      | 4, _, hj => exact Or.inr (Or.inr (Or.inr (Or.inr (Or.inl ⟨rfl, (Option.some.inj hj).symm⟩))))
      | 5, _, hj => exact Or.inr (Or.inr (Or.inr (Or.inr (Or.inr (Or.inl ⟨rfl, (Option.some.inj hj).symm⟩)))))
      | 6, _, hj => exact Or.inr (Or.inr (Or.inr (Or.inr (Or.inr (Or.inr (Or.inl ⟨rfl, (Option.some.inj hj).symm⟩))))))
      | 7, _, hj => exact Or.inr (Or.inr (Or.inr (Or.inr (Or.inr (Or.inr (Or.inr (Or.inl ⟨rfl, (Option.some.inj hj).symm⟩)))))))
      | 8, _, hj => exact Or.inr (Or.inr (Or.inr (Or.inr (Or.inr (Or.inr (Or.inr (Or.inr (⟨rfl, (Option.some.inj hj).symm⟩))))))))
    clear hj hlt
    rcases hcs with ⟨rfl, rfl⟩ | ⟨rfl, rfl⟩ | ⟨rfl, rfl⟩ | ⟨rfl, rfl⟩ | ⟨rfl, rfl⟩ | ⟨rfl, rfl⟩ | ⟨rfl, rfl⟩ | ⟨rfl, rfl⟩ | ⟨rfl, rfl⟩
    · exact False.elim (by omega)
    · exact False.elim (by omega)
    · exact False.elim (by omega)
    · exact False.elim (by omega)
    · exact False.elim (by omega)
    · show WP _ _ 115 _ _ _ _ _ _
      refine WP_aload_n dX7_tell_115 rfl ?_
      refine WP_aload_n dX7_tell_116 rfl ?_
      refine WP_getr dX7_tell_117 fX7_48 rfl (lyx_is hy 27 7 rfl) (rfx hr 27 17 40 (by decide)) ?_
      refine WP_iload_n dX7_tell_120 rfl ?_
      refine WP_aload_n dX7_tell_121 rfl ?_
      refine WP_callV3 (k := 7) dX7_tell_122 ⟨⟨⟨by decide, by decide⟩, zX7_tellOn⟩, lX7_102, by decide, rfl, vX7_tellOn.1, vX7_tellOn.2⟩ (lyx_is hy 27 7 rfl) (sx_tellOn_27_5 hy hr hI5157 cl (by omega) (by omega) (by rw [e5159, e5160, e5161]; omega)) (Nat.le_of_ble_eq_true rfl) ?_
      intro r I5165 J5166 Ra hq
      obtain ⟨⟨hI5165, ec, fiI5165, fjI5165, pI5165⟩, rfl⟩ := hq
      rw [ec]
      clear ec Ra
      have fr5167 : fz 74 g [27, 40, 42] I I5165 := fz_tr fr5163 (fz_mono fiI5165 (by decide))
      have fr5168 : fz 74 g [] J J5166 := fz_tr frj0 (fz_mono fjI5165 (by decide))
      have e5169 : I5165 (ad g 1) 1 = L := hI5165.2
      have b5170 := BT_get hI5165.1 1 1 2 (0) (0) (900) (by decide) 1 (by decide) (by decide)
      rw [e5169] at b5170
      refine WP_goto 193 dX7_tell_125 rfl ?_
      exact WP_vret dX7_tell_193 rfl ⟨⟨hI5165, rfl, fr5167, fr5168, trivial⟩, rfl⟩
    · exact False.elim (by omega)
    · exact False.elim (by omega)
    · exact False.elim (by omega)
set_option maxHeartbeats 4000000 in
set_option maxRecDepth 100000 in
theorem sx_tell_27_6 {g : GG} {n : Int} {L : Int32} (hy : LyX g)  {I : pI} {J : pJ} {R : pR} (hr : RfX g R) (hI : XI g n L I) (cl : Int32) (cl_lo : 6 ≤ cl.toInt) (cl_hi : cl.toInt ≤ 6) (hb : (I (ad g 4) 0).toInt ≤ 3 ∧ (I (ad g 4) 1).toInt ≤ 2 ∧ (I (ad g 4) 2).toInt ≤ 6 ∧ (I (ad g 4) 3).toInt ≤ 3 ∧ (I (ad g 4) 4).toInt ≤ 99) : SP g mX7_tell [.ref (ad g 27), .int cl, .ref (ad g 4)] I J R (fun r I' J' R' => (XI g n L I' ∧ R' = R ∧ fz 74 g [27, 34, 35, 36, 42] I I' ∧ fz 74 g [] J J' ∧ True) ∧ r = none) := by
  refine SP_of ⟨by decide, rfl⟩ (Nat.le_of_ble_eq_true rfl) ?_
  have e5171 : I (ad g 1) 1 = L := hI.2
  have b5172 := BT_get hI.1 1 1 2 (0) (0) (900) (by decide) 1 (by decide) (by decide)
  rw [e5171] at b5172
  have fr0 : fz 74 g [27, 34, 35, 36, 42] I I := fz_rf
  have frj0 : fz 74 g [] J J := fz_rf
  obtain ⟨w5173, ew5173⟩ : ∃ w : Int32, I (ad g 4) 0 = w := ⟨_, rfl⟩
  have bw5173 := BT_get hI.1 4 0 5 (0) (0) (1000) (by decide) 0 (by decide) (by decide)
  rw [ew5173] at bw5173
  obtain ⟨w5174, ew5174⟩ : ∃ w : Int32, I (ad g 4) 1 = w := ⟨_, rfl⟩
  have bw5174 := BT_get hI.1 4 0 5 (0) (0) (1000) (by decide) 1 (by decide) (by decide)
  rw [ew5174] at bw5174
  obtain ⟨w5175, ew5175⟩ : ∃ w : Int32, I (ad g 4) 2 = w := ⟨_, rfl⟩
  have bw5175 := BT_get hI.1 4 0 5 (0) (0) (1000) (by decide) 2 (by decide) (by decide)
  rw [ew5175] at bw5175
  obtain ⟨w5176, ew5176⟩ : ∃ w : Int32, I (ad g 4) 3 = w := ⟨_, rfl⟩
  have bw5176 := BT_get hI.1 4 0 5 (0) (0) (1000) (by decide) 3 (by decide) (by decide)
  rw [ew5176] at bw5176
  obtain ⟨w5177, ew5177⟩ : ∃ w : Int32, I (ad g 4) 4 = w := ⟨_, rfl⟩
  have bw5177 := BT_get hI.1 4 0 5 (0) (0) (1000) (by decide) 4 (by decide) (by decide)
  rw [ew5177] at bw5177
  rw [ew5173, ew5174, ew5175, ew5176, ew5177] at hb
  refine WP_aload_n dX7_tell_0 rfl ?_
  refine WP_dup dX7_tell_1 rfl ?_
  refine WQ_getiu dX7_tell_2 fX7_61 rfl (lyx_is hy 27 7 rfl) (fun v5178 ev5178 => ?_)
  refine WQ_iconst (1) (1) dX7_tell_5 rfl rfl (fun v5179 hv5179 => ?_)
  refine WQ_iaddu dX7_tell_6 (fun v5180 => ?_)
  refine WQ_puti dX7_tell_7 fX7_61 rfl rfl (lyx_is hy 27 7 rfl) (fun I5181 eI5181 => ?_)
  have hI5181 : XI g n L I5181 := by rw [eI5181]; exact (xi_f0 hy hI (c := 27) (by decide) (Or.inl (by decide)) (by decide))
  have e5182 : I5181 (ad g 1) 1 = L := by rw [eI5181, pp_ne _ _ (Or.inl (lyx_ne hy (by decide) (by decide) (by decide)))]; exact e5171
  have e5183 : I5181 (ad g 4) 0 = w5173 := by rw [eI5181, pp_ne _ _ (Or.inl (lyx_ne hy (by decide) (by decide) (by decide)))]; exact ew5173
  have e5184 : I5181 (ad g 4) 1 = w5174 := by rw [eI5181, pp_ne _ _ (Or.inl (lyx_ne hy (by decide) (by decide) (by decide)))]; exact ew5174
  have e5185 : I5181 (ad g 4) 2 = w5175 := by rw [eI5181, pp_ne _ _ (Or.inl (lyx_ne hy (by decide) (by decide) (by decide)))]; exact ew5175
  have e5186 : I5181 (ad g 4) 3 = w5176 := by rw [eI5181, pp_ne _ _ (Or.inl (lyx_ne hy (by decide) (by decide) (by decide)))]; exact ew5176
  have e5187 : I5181 (ad g 4) 4 = w5177 := by rw [eI5181, pp_ne _ _ (Or.inl (lyx_ne hy (by decide) (by decide) (by decide)))]; exact ew5177
  have e5188 : I5181 (ad g 27) 0 = v5180 := by rw [eI5181, pp_self]
  have fr5189 : fz 74 g [27, 34, 35, 36, 42] I I5181 := by rw [eI5181]; exact fzx_pp hy fr0 (by decide) (by decide)
  clear eI5181
  refine WP_iload_n dX7_tell_10 rfl ?_
  refine WP_tab 178 dX7_tell_11 rfl rfl (fun c5189 => ?_) (fun j off c5189 hj => ?_) (by decide)
  · exact False.elim (by omega)
  · have hlt : j < 9 := by have := (Array.getElem?_eq_some_iff.mp hj).1; simpa using this
    have hcs : (j = 0 ∧ off = 49) ∨ (j = 1 ∧ off = 62) ∨ (j = 2 ∧ off = 70) ∨ (j = 3 ∧ off = 78) ∨ (j = 4 ∧ off = 91) ∨ (j = 5 ∧ off = 104) ∨ (j = 6 ∧ off = 117) ∨ (j = 7 ∧ off = 125) ∨ (j = 8 ∧ off = 149) := by
      match j, hlt, hj with
      | 0, _, hj => exact Or.inl ⟨rfl, (Option.some.inj hj).symm⟩
      | 1, _, hj => exact Or.inr (Or.inl ⟨rfl, (Option.some.inj hj).symm⟩)
      | 2, _, hj => exact Or.inr (Or.inr (Or.inl ⟨rfl, (Option.some.inj hj).symm⟩))
      | 3, _, hj => exact Or.inr (Or.inr (Or.inr (Or.inl ⟨rfl, (Option.some.inj hj).symm⟩)))
      | 4, _, hj => exact Or.inr (Or.inr (Or.inr (Or.inr (Or.inl ⟨rfl, (Option.some.inj hj).symm⟩))))
      | 5, _, hj => exact Or.inr (Or.inr (Or.inr (Or.inr (Or.inr (Or.inl ⟨rfl, (Option.some.inj hj).symm⟩)))))
      | 6, _, hj => exact Or.inr (Or.inr (Or.inr (Or.inr (Or.inr (Or.inr (Or.inl ⟨rfl, (Option.some.inj hj).symm⟩))))))
      | 7, _, hj => exact Or.inr (Or.inr (Or.inr (Or.inr (Or.inr (Or.inr (Or.inr (Or.inl ⟨rfl, (Option.some.inj hj).symm⟩)))))))
      | 8, _, hj => exact Or.inr (Or.inr (Or.inr (Or.inr (Or.inr (Or.inr (Or.inr (Or.inr (⟨rfl, (Option.some.inj hj).symm⟩))))))))
    clear hj hlt
    rcases hcs with ⟨rfl, rfl⟩ | ⟨rfl, rfl⟩ | ⟨rfl, rfl⟩ | ⟨rfl, rfl⟩ | ⟨rfl, rfl⟩ | ⟨rfl, rfl⟩ | ⟨rfl, rfl⟩ | ⟨rfl, rfl⟩ | ⟨rfl, rfl⟩
    · exact False.elim (by omega)
    · exact False.elim (by omega)
    · exact False.elim (by omega)
    · exact False.elim (by omega)
    · exact False.elim (by omega)
    · exact False.elim (by omega)
    · show WP _ _ 128 _ _ _ _ _ _
      refine WP_aload_n dX7_tell_128 rfl ?_
      refine WP_aload_n dX7_tell_129 rfl ?_
      refine WP_callV1 (k := 7) dX7_tell_130 ⟨⟨⟨by decide, by decide⟩, zX7_tellWant⟩, lX7_106, by decide, rfl, vX7_tellWant.1, vX7_tellWant.2⟩ (lyx_is hy 27 7 rfl) (sx_tellWant_27 hy hr hI5181   (by rw [e5183, e5184, e5185, e5186, e5187]; omega)) (Nat.le_of_ble_eq_true rfl) ?_
      intro r I5191 J5192 Ra hq
      obtain ⟨⟨hI5191, ec, fiI5191, fjI5191, pI5191⟩, rfl⟩ := hq
      rw [ec]
      clear ec Ra
      have fr5193 : fz 74 g [27, 34, 35, 36, 42] I I5191 := fz_tr fr5189 (fz_mono fiI5191 (by decide))
      have fr5194 : fz 74 g [] J J5192 := fz_tr frj0 (fz_mono fjI5191 (by decide))
      have e5195 : I5191 (ad g 1) 1 = L := hI5191.2
      have b5196 := BT_get hI5191.1 1 1 2 (0) (0) (900) (by decide) 1 (by decide) (by decide)
      rw [e5195] at b5196
      refine WP_goto 193 dX7_tell_133 rfl ?_
      exact WP_vret dX7_tell_193 rfl ⟨⟨hI5191, rfl, fr5193, fr5194, trivial⟩, rfl⟩
    · exact False.elim (by omega)
    · exact False.elim (by omega)
set_option maxHeartbeats 4000000 in
set_option maxRecDepth 100000 in
theorem sx_tell_27_7 {g : GG} {n : Int} {L : Int32} (hy : LyX g)  {I : pI} {J : pJ} {R : pR} (hr : RfX g R) (hI : XI g n L I) (cl : Int32) (cl_lo : 7 ≤ cl.toInt) (cl_hi : cl.toInt ≤ 7) (hb : (I (ad g 4) 0).toInt ≤ 3) : SP g mX7_tell [.ref (ad g 27), .int cl, .ref (ad g 4)] I J R (fun r I' J' R' => (XI g n L I' ∧ R' = R ∧ fz 74 g [27, 32, 42] I I' ∧ fz 74 g [] J J' ∧ True) ∧ r = none) := by
  refine SP_of ⟨by decide, rfl⟩ (Nat.le_of_ble_eq_true rfl) ?_
  have e5197 : I (ad g 1) 1 = L := hI.2
  have b5198 := BT_get hI.1 1 1 2 (0) (0) (900) (by decide) 1 (by decide) (by decide)
  rw [e5197] at b5198
  have fr0 : fz 74 g [27, 32, 42] I I := fz_rf
  have frj0 : fz 74 g [] J J := fz_rf
  obtain ⟨w5199, ew5199⟩ : ∃ w : Int32, I (ad g 4) 0 = w := ⟨_, rfl⟩
  have bw5199 := BT_get hI.1 4 0 5 (0) (0) (1000) (by decide) 0 (by decide) (by decide)
  rw [ew5199] at bw5199
  rw [ew5199] at hb
  refine WP_aload_n dX7_tell_0 rfl ?_
  refine WP_dup dX7_tell_1 rfl ?_
  refine WQ_getiu dX7_tell_2 fX7_61 rfl (lyx_is hy 27 7 rfl) (fun v5200 ev5200 => ?_)
  refine WQ_iconst (1) (1) dX7_tell_5 rfl rfl (fun v5201 hv5201 => ?_)
  refine WQ_iaddu dX7_tell_6 (fun v5202 => ?_)
  refine WQ_puti dX7_tell_7 fX7_61 rfl rfl (lyx_is hy 27 7 rfl) (fun I5203 eI5203 => ?_)
  have hI5203 : XI g n L I5203 := by rw [eI5203]; exact (xi_f0 hy hI (c := 27) (by decide) (Or.inl (by decide)) (by decide))
  have e5204 : I5203 (ad g 1) 1 = L := by rw [eI5203, pp_ne _ _ (Or.inl (lyx_ne hy (by decide) (by decide) (by decide)))]; exact e5197
  have e5205 : I5203 (ad g 4) 0 = w5199 := by rw [eI5203, pp_ne _ _ (Or.inl (lyx_ne hy (by decide) (by decide) (by decide)))]; exact ew5199
  have e5206 : I5203 (ad g 27) 0 = v5202 := by rw [eI5203, pp_self]
  have fr5207 : fz 74 g [27, 32, 42] I I5203 := by rw [eI5203]; exact fzx_pp hy fr0 (by decide) (by decide)
  clear eI5203
  refine WP_iload_n dX7_tell_10 rfl ?_
  refine WP_tab 178 dX7_tell_11 rfl rfl (fun c5207 => ?_) (fun j off c5207 hj => ?_) (by decide)
  · exact False.elim (by omega)
  · have hlt : j < 9 := by have := (Array.getElem?_eq_some_iff.mp hj).1; simpa using this
    have hcs : (j = 0 ∧ off = 49) ∨ (j = 1 ∧ off = 62) ∨ (j = 2 ∧ off = 70) ∨ (j = 3 ∧ off = 78) ∨ (j = 4 ∧ off = 91) ∨ (j = 5 ∧ off = 104) ∨ (j = 6 ∧ off = 117) ∨ (j = 7 ∧ off = 125) ∨ (j = 8 ∧ off = 149) := by
      match j, hlt, hj with
      | 0, _, hj => exact Or.inl ⟨rfl, (Option.some.inj hj).symm⟩
      | 1, _, hj => exact Or.inr (Or.inl ⟨rfl, (Option.some.inj hj).symm⟩)
      | 2, _, hj => exact Or.inr (Or.inr (Or.inl ⟨rfl, (Option.some.inj hj).symm⟩))
      | 3, _, hj => exact Or.inr (Or.inr (Or.inr (Or.inl ⟨rfl, (Option.some.inj hj).symm⟩)))
      | 4, _, hj => exact Or.inr (Or.inr (Or.inr (Or.inr (Or.inl ⟨rfl, (Option.some.inj hj).symm⟩))))
      | 5, _, hj => exact Or.inr (Or.inr (Or.inr (Or.inr (Or.inr (Or.inl ⟨rfl, (Option.some.inj hj).symm⟩)))))
      | 6, _, hj => exact Or.inr (Or.inr (Or.inr (Or.inr (Or.inr (Or.inr (Or.inl ⟨rfl, (Option.some.inj hj).symm⟩))))))
      | 7, _, hj => exact Or.inr (Or.inr (Or.inr (Or.inr (Or.inr (Or.inr (Or.inr (Or.inl ⟨rfl, (Option.some.inj hj).symm⟩)))))))
      | 8, _, hj => exact Or.inr (Or.inr (Or.inr (Or.inr (Or.inr (Or.inr (Or.inr (Or.inr (⟨rfl, (Option.some.inj hj).symm⟩))))))))
    clear hj hlt
    rcases hcs with ⟨rfl, rfl⟩ | ⟨rfl, rfl⟩ | ⟨rfl, rfl⟩ | ⟨rfl, rfl⟩ | ⟨rfl, rfl⟩ | ⟨rfl, rfl⟩ | ⟨rfl, rfl⟩ | ⟨rfl, rfl⟩ | ⟨rfl, rfl⟩
    · exact False.elim (by omega)
    · exact False.elim (by omega)
    · exact False.elim (by omega)
    · exact False.elim (by omega)
    · exact False.elim (by omega)
    · exact False.elim (by omega)
    · exact False.elim (by omega)
    · show WP _ _ 136 _ _ _ _ _ _
      refine WP_aload_n dX7_tell_136 rfl ?_
      refine WP_getr dX7_tell_137 fX7_24 rfl (lyx_is hy 27 7 rfl) (rfx hr 27 9 32 (by decide)) ?_
      refine WP_aload_n dX7_tell_140 rfl ?_
      refine WQ_iconst (0) (0) dX7_tell_141 rfl rfl (fun v5209 hv5209 => ?_)
      refine WQ_ialdm (z := 0) dX7_tell_142 (lyx_is hy 4 13 rfl) (lyx_n hy 4 5 rfl) hv5209 (by decide) e5205 ?_
      refine WP_aload_n dX7_tell_143 rfl ?_
      refine WQ_iconst (1) (1) dX7_tell_144 rfl rfl (fun v5211 hv5211 => ?_)
      refine WQ_iald dX7_tell_145 (lyx_is hy 4 13 rfl) (lyx_n hy 4 5 rfl) (by omega) (by omega) (fun q hq => BT_get hI5203.1 4 0 5 (0) (0) (1000) (by decide) q (Nat.zero_le _) hq) (fun v5212 av5212 bv5212 ev5212 => ?_)
      clear ev5212
      refine WQ_iast dX7_tell_146 (lyx_is hy 32 13 rfl) (lyx_n hy 32 4 rfl) (by omega) (by omega) (fun I5213 eI5213 => ?_)
      have hI5213 : XI g n L I5213 := by rw [eI5213]; exact (xi_r0 hy hI5203 (c := 32) (by decide) (Or.inl (by decide)) (by decide))
      have e5214 : I5213 (ad g 1) 1 = L := by rw [eI5213, pp_ne _ _ (Or.inl (lyx_ne hy (by decide) (by decide) (by decide)))]; exact e5204
      have e5215 : I5213 (ad g 4) 0 = w5199 := by rw [eI5213, pp_ne _ _ (Or.inl (lyx_ne hy (by decide) (by decide) (by decide)))]; exact e5205
      have e5216 : I5213 (ad g 27) 0 = v5202 := by rw [eI5213, pp_ne _ _ (Or.inl (lyx_ne hy (by decide) (by decide) (by decide)))]; exact e5206
      have fr5217 : fz 74 g [27, 32, 42] I I5213 := by rw [eI5213]; exact fzx_pp hy fr5207 (by decide) (by decide)
      clear eI5213
      refine WP_aload_n dX7_tell_147 rfl ?_
      refine WQ_bipush (7) (7) dX7_tell_148 rfl rfl (fun v5218 hv5218 => ?_)
      refine WP_aload_n dX7_tell_150 rfl ?_
      refine WQ_iconst (0) (0) dX7_tell_151 rfl rfl (fun v5219 hv5219 => ?_)
      refine WQ_ialdm (z := 0) dX7_tell_152 (lyx_is hy 4 13 rfl) (lyx_n hy 4 5 rfl) hv5219 (by decide) e5215 ?_
      refine WQ_iconst (0) (0) dX7_tell_153 rfl rfl (fun v5221 hv5221 => ?_)
      refine WP_callV3 (k := 7) dX7_tell_154 ⟨⟨⟨by decide, by decide⟩, zX7_hold⟩, lX7_109, by decide, rfl, vX7_hold.1, vX7_hold.2⟩ (lyx_is hy 27 7 rfl) (sx_hold_27 hy hr hI5213 v5218 w5199 v5221 (by omega) (by omega) (by omega) (by omega) ) (Nat.le_of_ble_eq_true rfl) ?_
      intro r I5222 J5223 Ra hq
      obtain ⟨⟨hI5222, ec, fiI5222, fjI5222⟩, rfl⟩ := hq
      rw [ec]
      clear ec Ra
      have fr5224 : fz 74 g [27, 32, 42] I I5222 := fz_tr fr5217 (fz_mono fiI5222 (by decide))
      have fr5225 : fz 74 g [] J J5223 := fz_tr frj0 (fz_mono fjI5222 (by decide))
      have e5226 : I5222 (ad g 1) 1 = L := hI5222.2
      have b5227 := BT_get hI5222.1 1 1 2 (0) (0) (900) (by decide) 1 (by decide) (by decide)
      rw [e5226] at b5227
      refine WP_goto 193 dX7_tell_157 rfl ?_
      exact WP_vret dX7_tell_193 rfl ⟨⟨hI5222, rfl, fr5224, fr5225, trivial⟩, rfl⟩
    · exact False.elim (by omega)
set_option maxHeartbeats 4000000 in
set_option maxRecDepth 100000 in
theorem sx_tell_27_8 {g : GG} {n : Int} {L : Int32} (hy : LyX g)  {I : pI} {J : pJ} {R : pR} (hr : RfX g R) (hI : XI g n L I) (cl : Int32) (cl_lo : 8 ≤ cl.toInt) (cl_hi : cl.toInt ≤ 8) (hb : (I (ad g 4) 0).toInt ≤ 3) : SP g mX7_tell [.ref (ad g 27), .int cl, .ref (ad g 4)] I J R (fun r I' J' R' => (XI g n L I' ∧ R' = R ∧ fz 74 g [27, 42] I I' ∧ fz 74 g [] J J' ∧ True) ∧ r = none) := by
  refine SP_of ⟨by decide, rfl⟩ (Nat.le_of_ble_eq_true rfl) ?_
  have e5228 : I (ad g 1) 1 = L := hI.2
  have b5229 := BT_get hI.1 1 1 2 (0) (0) (900) (by decide) 1 (by decide) (by decide)
  rw [e5228] at b5229
  have fr0 : fz 74 g [27, 42] I I := fz_rf
  have frj0 : fz 74 g [] J J := fz_rf
  obtain ⟨w5230, ew5230⟩ : ∃ w : Int32, I (ad g 4) 0 = w := ⟨_, rfl⟩
  have bw5230 := BT_get hI.1 4 0 5 (0) (0) (1000) (by decide) 0 (by decide) (by decide)
  rw [ew5230] at bw5230
  rw [ew5230] at hb
  refine WP_aload_n dX7_tell_0 rfl ?_
  refine WP_dup dX7_tell_1 rfl ?_
  refine WQ_getiu dX7_tell_2 fX7_61 rfl (lyx_is hy 27 7 rfl) (fun v5231 ev5231 => ?_)
  refine WQ_iconst (1) (1) dX7_tell_5 rfl rfl (fun v5232 hv5232 => ?_)
  refine WQ_iaddu dX7_tell_6 (fun v5233 => ?_)
  refine WQ_puti dX7_tell_7 fX7_61 rfl rfl (lyx_is hy 27 7 rfl) (fun I5234 eI5234 => ?_)
  have hI5234 : XI g n L I5234 := by rw [eI5234]; exact (xi_f0 hy hI (c := 27) (by decide) (Or.inl (by decide)) (by decide))
  have e5235 : I5234 (ad g 1) 1 = L := by rw [eI5234, pp_ne _ _ (Or.inl (lyx_ne hy (by decide) (by decide) (by decide)))]; exact e5228
  have e5236 : I5234 (ad g 4) 0 = w5230 := by rw [eI5234, pp_ne _ _ (Or.inl (lyx_ne hy (by decide) (by decide) (by decide)))]; exact ew5230
  have e5237 : I5234 (ad g 27) 0 = v5233 := by rw [eI5234, pp_self]
  have fr5238 : fz 74 g [27, 42] I I5234 := by rw [eI5234]; exact fzx_pp hy fr0 (by decide) (by decide)
  clear eI5234
  refine WP_iload_n dX7_tell_10 rfl ?_
  refine WP_tab 178 dX7_tell_11 rfl rfl (fun c5238 => ?_) (fun j off c5238 hj => ?_) (by decide)
  · exact False.elim (by omega)
  · have hlt : j < 9 := by have := (Array.getElem?_eq_some_iff.mp hj).1; simpa using this
    have hcs : (j = 0 ∧ off = 49) ∨ (j = 1 ∧ off = 62) ∨ (j = 2 ∧ off = 70) ∨ (j = 3 ∧ off = 78) ∨ (j = 4 ∧ off = 91) ∨ (j = 5 ∧ off = 104) ∨ (j = 6 ∧ off = 117) ∨ (j = 7 ∧ off = 125) ∨ (j = 8 ∧ off = 149) := by
      match j, hlt, hj with
      | 0, _, hj => exact Or.inl ⟨rfl, (Option.some.inj hj).symm⟩
      | 1, _, hj => exact Or.inr (Or.inl ⟨rfl, (Option.some.inj hj).symm⟩)
      | 2, _, hj => exact Or.inr (Or.inr (Or.inl ⟨rfl, (Option.some.inj hj).symm⟩))
      | 3, _, hj => exact Or.inr (Or.inr (Or.inr (Or.inl ⟨rfl, (Option.some.inj hj).symm⟩)))
      | 4, _, hj => exact Or.inr (Or.inr (Or.inr (Or.inr (Or.inl ⟨rfl, (Option.some.inj hj).symm⟩))))
      | 5, _, hj => exact Or.inr (Or.inr (Or.inr (Or.inr (Or.inr (Or.inl ⟨rfl, (Option.some.inj hj).symm⟩)))))
      | 6, _, hj => exact Or.inr (Or.inr (Or.inr (Or.inr (Or.inr (Or.inr (Or.inl ⟨rfl, (Option.some.inj hj).symm⟩))))))
      | 7, _, hj => exact Or.inr (Or.inr (Or.inr (Or.inr (Or.inr (Or.inr (Or.inr (Or.inl ⟨rfl, (Option.some.inj hj).symm⟩)))))))
      | 8, _, hj => exact Or.inr (Or.inr (Or.inr (Or.inr (Or.inr (Or.inr (Or.inr (Or.inr (⟨rfl, (Option.some.inj hj).symm⟩))))))))
    clear hj hlt
    rcases hcs with ⟨rfl, rfl⟩ | ⟨rfl, rfl⟩ | ⟨rfl, rfl⟩ | ⟨rfl, rfl⟩ | ⟨rfl, rfl⟩ | ⟨rfl, rfl⟩ | ⟨rfl, rfl⟩ | ⟨rfl, rfl⟩ | ⟨rfl, rfl⟩
    · exact False.elim (by omega)
    · exact False.elim (by omega)
    · exact False.elim (by omega)
    · exact False.elim (by omega)
    · exact False.elim (by omega)
    · exact False.elim (by omega)
    · exact False.elim (by omega)
    · exact False.elim (by omega)
    · show WP _ _ 160 _ _ _ _ _ _
      refine WP_aload_n dX7_tell_160 rfl ?_
      refine WP_aload_n dX7_tell_161 rfl ?_
      refine WQ_iconst (0) (0) dX7_tell_162 rfl rfl (fun v5240 hv5240 => ?_)
      refine WQ_ialdm (z := 0) dX7_tell_163 (lyx_is hy 4 13 rfl) (lyx_n hy 4 5 rfl) hv5240 (by decide) e5236 ?_
      refine WQ_puti dX7_tell_164 fX7_71 rfl rfl (lyx_is hy 27 7 rfl) (fun I5242 eI5242 => ?_)
      have hI5242 : XI g n L I5242 := by rw [eI5242]; exact (xi_f hy hI5234 (c := 27) (-1) (0) (3) (by decide) (Or.inl (by decide)) (by decide) (by omega) (by omega))
      have e5243 : I5242 (ad g 1) 1 = L := by rw [eI5242, pp_ne _ _ (Or.inl (lyx_ne hy (by decide) (by decide) (by decide)))]; exact e5235
      have e5244 : I5242 (ad g 4) 0 = w5230 := by rw [eI5242, pp_ne _ _ (Or.inl (lyx_ne hy (by decide) (by decide) (by decide)))]; exact e5236
      have e5245 : I5242 (ad g 27) 0 = v5233 := by rw [eI5242, pp_ne _ _ (Or.inr (by decide))]; exact e5237
      have e5246 : I5242 (ad g 27) 3 = w5230 := by rw [eI5242, pp_self]
      have fr5247 : fz 74 g [27, 42] I I5242 := by rw [eI5242]; exact fzx_pp hy fr5238 (by decide) (by decide)
      clear eI5242
      refine WP_aload_n dX7_tell_167 rfl ?_
      refine WQ_bipush (8) (8) dX7_tell_168 rfl rfl (fun v5248 hv5248 => ?_)
      refine WQ_iconst (0) (0) dX7_tell_170 rfl rfl (fun v5249 hv5249 => ?_)
      refine WQ_iconst (0) (0) dX7_tell_171 rfl rfl (fun v5250 hv5250 => ?_)
      refine WP_callV3 (k := 7) dX7_tell_172 ⟨⟨⟨by decide, by decide⟩, zX7_hold⟩, lX7_109, by decide, rfl, vX7_hold.1, vX7_hold.2⟩ (lyx_is hy 27 7 rfl) (sx_hold_27 hy hr hI5242 v5248 v5249 v5250 (by omega) (by omega) (by omega) (by omega) ) (Nat.le_of_ble_eq_true rfl) ?_
      intro r I5251 J5252 Ra hq
      obtain ⟨⟨hI5251, ec, fiI5251, fjI5251⟩, rfl⟩ := hq
      rw [ec]
      clear ec Ra
      have fr5253 : fz 74 g [27, 42] I I5251 := fz_tr fr5247 (fz_mono fiI5251 (by decide))
      have fr5254 : fz 74 g [] J J5252 := fz_tr frj0 (fz_mono fjI5251 (by decide))
      have e5255 : I5251 (ad g 1) 1 = L := hI5251.2
      have b5256 := BT_get hI5251.1 1 1 2 (0) (0) (900) (by decide) 1 (by decide) (by decide)
      rw [e5255] at b5256
      refine WP_goto 193 dX7_tell_175 rfl ?_
      exact WP_vret dX7_tell_193 rfl ⟨⟨hI5251, rfl, fr5253, fr5254, trivial⟩, rfl⟩
set_option maxHeartbeats 4000000 in
set_option maxRecDepth 100000 in
theorem sx_tell_27_9 {g : GG} {n : Int} {L : Int32} (hy : LyX g)  {I : pI} {J : pJ} {R : pR} (hr : RfX g R) (hI : XI g n L I) (cl : Int32) (cl_lo : 9 ≤ cl.toInt) (cl_hi : cl.toInt ≤ 9) (hb : (I (ad g 4) 0).toInt ≤ 2) : SP g mX7_tell [.ref (ad g 27), .int cl, .ref (ad g 4)] I J R (fun r I' J' R' => (XI g n L I' ∧ R' = R ∧ fz 74 g [27, 42] I I' ∧ fz 74 g [] J J' ∧ True) ∧ r = none) := by
  refine SP_of ⟨by decide, rfl⟩ (Nat.le_of_ble_eq_true rfl) ?_
  have e5257 : I (ad g 1) 1 = L := hI.2
  have b5258 := BT_get hI.1 1 1 2 (0) (0) (900) (by decide) 1 (by decide) (by decide)
  rw [e5257] at b5258
  have fr0 : fz 74 g [27, 42] I I := fz_rf
  have frj0 : fz 74 g [] J J := fz_rf
  obtain ⟨w5259, ew5259⟩ : ∃ w : Int32, I (ad g 4) 0 = w := ⟨_, rfl⟩
  have bw5259 := BT_get hI.1 4 0 5 (0) (0) (1000) (by decide) 0 (by decide) (by decide)
  rw [ew5259] at bw5259
  rw [ew5259] at hb
  refine WP_aload_n dX7_tell_0 rfl ?_
  refine WP_dup dX7_tell_1 rfl ?_
  refine WQ_getiu dX7_tell_2 fX7_61 rfl (lyx_is hy 27 7 rfl) (fun v5260 ev5260 => ?_)
  refine WQ_iconst (1) (1) dX7_tell_5 rfl rfl (fun v5261 hv5261 => ?_)
  refine WQ_iaddu dX7_tell_6 (fun v5262 => ?_)
  refine WQ_puti dX7_tell_7 fX7_61 rfl rfl (lyx_is hy 27 7 rfl) (fun I5263 eI5263 => ?_)
  have hI5263 : XI g n L I5263 := by rw [eI5263]; exact (xi_f0 hy hI (c := 27) (by decide) (Or.inl (by decide)) (by decide))
  have e5264 : I5263 (ad g 1) 1 = L := by rw [eI5263, pp_ne _ _ (Or.inl (lyx_ne hy (by decide) (by decide) (by decide)))]; exact e5257
  have e5265 : I5263 (ad g 4) 0 = w5259 := by rw [eI5263, pp_ne _ _ (Or.inl (lyx_ne hy (by decide) (by decide) (by decide)))]; exact ew5259
  have e5266 : I5263 (ad g 27) 0 = v5262 := by rw [eI5263, pp_self]
  have fr5267 : fz 74 g [27, 42] I I5263 := by rw [eI5263]; exact fzx_pp hy fr0 (by decide) (by decide)
  clear eI5263
  refine WP_iload_n dX7_tell_10 rfl ?_
  refine WP_tab 178 dX7_tell_11 rfl rfl (fun c5267 => ?_) (fun j off c5267 hj => ?_) (by decide)
  · refine WP_aload_n dX7_tell_178 rfl ?_
    refine WP_aload_n dX7_tell_179 rfl ?_
    refine WQ_iconst (0) (0) dX7_tell_180 rfl rfl (fun v5269 hv5269 => ?_)
    refine WQ_ialdm (z := 0) dX7_tell_181 (lyx_is hy 4 13 rfl) (lyx_n hy 4 5 rfl) hv5269 (by decide) e5265 ?_
    refine WQ_puti dX7_tell_182 fX7_74 rfl rfl (lyx_is hy 27 7 rfl) (fun I5271 eI5271 => ?_)
    have hI5271 : XI g n L I5271 := by rw [eI5271]; exact (xi_f hy hI5263 (c := 27) (-1) (0) (2) (by decide) (Or.inl (by decide)) (by decide) (by omega) (by omega))
    have e5272 : I5271 (ad g 1) 1 = L := by rw [eI5271, pp_ne _ _ (Or.inl (lyx_ne hy (by decide) (by decide) (by decide)))]; exact e5264
    have e5273 : I5271 (ad g 4) 0 = w5259 := by rw [eI5271, pp_ne _ _ (Or.inl (lyx_ne hy (by decide) (by decide) (by decide)))]; exact e5265
    have e5274 : I5271 (ad g 27) 0 = v5262 := by rw [eI5271, pp_ne _ _ (Or.inr (by decide))]; exact e5266
    have e5275 : I5271 (ad g 27) 4 = w5259 := by rw [eI5271, pp_self]
    have fr5276 : fz 74 g [27, 42] I I5271 := by rw [eI5271]; exact fzx_pp hy fr5267 (by decide) (by decide)
    clear eI5271
    refine WP_aload_n dX7_tell_185 rfl ?_
    refine WQ_bipush (9) (9) dX7_tell_186 rfl rfl (fun v5277 hv5277 => ?_)
    refine WQ_iconst (0) (0) dX7_tell_188 rfl rfl (fun v5278 hv5278 => ?_)
    refine WQ_iconst (0) (0) dX7_tell_189 rfl rfl (fun v5279 hv5279 => ?_)
    refine WP_callV3 (k := 7) dX7_tell_190 ⟨⟨⟨by decide, by decide⟩, zX7_hold⟩, lX7_109, by decide, rfl, vX7_hold.1, vX7_hold.2⟩ (lyx_is hy 27 7 rfl) (sx_hold_27 hy hr hI5271 v5277 v5278 v5279 (by omega) (by omega) (by omega) (by omega) ) (Nat.le_of_ble_eq_true rfl) ?_
    intro r I5280 J5281 Ra hq
    obtain ⟨⟨hI5280, ec, fiI5280, fjI5280⟩, rfl⟩ := hq
    rw [ec]
    clear ec Ra
    have fr5282 : fz 74 g [27, 42] I I5280 := fz_tr fr5276 (fz_mono fiI5280 (by decide))
    have fr5283 : fz 74 g [] J J5281 := fz_tr frj0 (fz_mono fjI5280 (by decide))
    have e5284 : I5280 (ad g 1) 1 = L := hI5280.2
    have b5285 := BT_get hI5280.1 1 1 2 (0) (0) (900) (by decide) 1 (by decide) (by decide)
    rw [e5284] at b5285
    exact WP_vret dX7_tell_193 rfl ⟨⟨hI5280, rfl, fr5282, fr5283, trivial⟩, rfl⟩
  · have hlt : j < 9 := by have := (Array.getElem?_eq_some_iff.mp hj).1; simpa using this
    have hcs : (j = 0 ∧ off = 49) ∨ (j = 1 ∧ off = 62) ∨ (j = 2 ∧ off = 70) ∨ (j = 3 ∧ off = 78) ∨ (j = 4 ∧ off = 91) ∨ (j = 5 ∧ off = 104) ∨ (j = 6 ∧ off = 117) ∨ (j = 7 ∧ off = 125) ∨ (j = 8 ∧ off = 149) := by
      match j, hlt, hj with
      | 0, _, hj => exact Or.inl ⟨rfl, (Option.some.inj hj).symm⟩
      | 1, _, hj => exact Or.inr (Or.inl ⟨rfl, (Option.some.inj hj).symm⟩)
      | 2, _, hj => exact Or.inr (Or.inr (Or.inl ⟨rfl, (Option.some.inj hj).symm⟩))
      | 3, _, hj => exact Or.inr (Or.inr (Or.inr (Or.inl ⟨rfl, (Option.some.inj hj).symm⟩)))
      | 4, _, hj => exact Or.inr (Or.inr (Or.inr (Or.inr (Or.inl ⟨rfl, (Option.some.inj hj).symm⟩))))
      | 5, _, hj => exact Or.inr (Or.inr (Or.inr (Or.inr (Or.inr (Or.inl ⟨rfl, (Option.some.inj hj).symm⟩)))))
      | 6, _, hj => exact Or.inr (Or.inr (Or.inr (Or.inr (Or.inr (Or.inr (Or.inl ⟨rfl, (Option.some.inj hj).symm⟩))))))
      | 7, _, hj => exact Or.inr (Or.inr (Or.inr (Or.inr (Or.inr (Or.inr (Or.inr (Or.inl ⟨rfl, (Option.some.inj hj).symm⟩)))))))
      | 8, _, hj => exact Or.inr (Or.inr (Or.inr (Or.inr (Or.inr (Or.inr (Or.inr (Or.inr (⟨rfl, (Option.some.inj hj).symm⟩))))))))
    clear hj hlt
    rcases hcs with ⟨rfl, rfl⟩ | ⟨rfl, rfl⟩ | ⟨rfl, rfl⟩ | ⟨rfl, rfl⟩ | ⟨rfl, rfl⟩ | ⟨rfl, rfl⟩ | ⟨rfl, rfl⟩ | ⟨rfl, rfl⟩ | ⟨rfl, rfl⟩
    · exact False.elim (by omega)
    · exact False.elim (by omega)
    · exact False.elim (by omega)
    · exact False.elim (by omega)
    · exact False.elim (by omega)
    · exact False.elim (by omega)
    · exact False.elim (by omega)
    · exact False.elim (by omega)
    · exact False.elim (by omega)
