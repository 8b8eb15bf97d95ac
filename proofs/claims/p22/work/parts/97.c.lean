set_option maxHeartbeats 4000000 in
set_option maxRecDepth 100000 in
theorem sx_loadx_44_6 {g : GG} {n : Int} {L : Int32} (hy : LyX g)  {I : pI} {J : pJ} {R : pR} (hr : RfX g R) (hT : R (ad g 5) 0 = some (ad g 6)) (hI : XI g n L I) (so : Int32) (da : Int32) (so_lo : 0 ≤ so.toInt) (so_hi : so.toInt ≤ 3) (da_lo : 0 ≤ da.toInt) (da_hi : da.toInt ≤ 6) : SP g mX6_load [.ref (ad g 44), .ref (ad g 5), .int so, .int da] I J R (fun r I' J' R' => (XI g n L I' ∧ R' = R ∧ fz 74 g [44] I I' ∧ J' = J ∧ LD g 6 I so.toInt da.toInt (I' (ad g 44))) ∧ r = none) := by
  refine SP_of ⟨by decide, rfl⟩ (Nat.le_of_ble_eq_true rfl) ?_
  have e8355 : I (ad g 1) 1 = L := hI.2
  have b8356 := BT_get hI.1 1 1 2 (0) (0) (900) (by decide) 1 (by decide) (by decide)
  rw [e8355] at b8356
  have fr0 : fz 74 g [44] I I := fz_rf
  refine WP_aload_n dX6_load_0 rfl ?_
  refine WP_getr dX6_load_1 fX6_15 rfl (lyx_is hy 5 0 rfl) hT ?_
  refine WP_astore (ls' := [(0, _), (1, _), (2, _), (3, _), (4, _)]) dX6_load_4 (by decide) rfl ?_
  refine WP_iload_n dX6_load_6 rfl ?_
  refine WQ_bipush (7) (7) dX6_load_7 rfl rfl (fun v8357 hv8357 => ?_)
  refine WQ_imulk (7) dX6_load_9 hv8357 (by omega) (by omega) (fun v8358 hv8358 => ?_)
  refine WP_iload_n dX6_load_10 rfl ?_
  refine WQ_iadd dX6_load_11 (by omega) (by omega) (fun v8359 hv8359 => ?_)
  refine WP_istore (ls' := [(0, _), (1, _), (2, _), (3, _), (4, _), (5, _)]) dX6_load_12 (by decide) rfl ?_
  refine WP_aload dX6_load_14 rfl ?_
  refine WQ_geti dX6_load_16 fX6_21 rfl (lyx_is hy 6 7 rfl) (BT_get hI.1 6 4 5 (-1) (0) (2) (by decide) 4 (by decide) (by decide)) (fun v8360 ev8360 av8360 bv8360 => ?_)
  have est : I (ad g 6) 4 = v8360 := ev8360
  refine WP_istore (ls' := [(0, _), (1, _), (2, _), (3, _), (4, _), (5, _), (6, _)]) dX6_load_19 (by decide) rfl ?_
  refine WP_aload dX6_load_21 rfl ?_
  refine WP_getr dX6_load_23 fX6_26 rfl (lyx_is hy 6 7 rfl) (rfx hr 6 9 11 (by decide)) ?_
  refine WP_iload_n dX6_load_26 rfl ?_
  refine WQ_ialdx dX6_load_27 (lyx_is hy 11 13 rfl) (lyx_n hy 11 4 rfl) (by omega) (by omega) (fun v8361 zv8361 => ?_)
  have yv8361 : I (ad g 11) (so.toInt).toNat = v8361 := by rw [← fz_at fr0 11 (by decide) (by decide), show (so.toInt).toNat = so.toInt.toNat by omega]; exact zv8361
  refine WP_iload_n dX6_load_28 rfl ?_
  refine WQ_ishrx dX6_load_29 (fun v8362 xv8362 => ?_)
  refine WQ_iconst (1) (1) dX6_load_30 rfl rfl (fun v8363 hv8363 => ?_)
  refine WQ_iandx dX6_load_31 (fun v8364 xv8364 => ?_)
  refine WQ_if_eq 39 dX6_load_32 rfl (fun c8364 => ?_) (fun c8364 => ?_)
  · refine WQ_iconst (0) (0) dX6_load_39 rfl rfl (fun v8366 hv8366 => ?_)
    refine WP_istore (ls' := [(0, _), (1, _), (2, _), (3, _), (4, _), (5, _), (6, _), (7, _)]) dX6_load_40 (by decide) rfl ?_
    refine WP_aload_n dX6_load_42 rfl ?_
    refine WP_aload dX6_load_43 rfl ?_
    refine WP_getr dX6_load_45 fX6_30 rfl (lyx_is hy 6 7 rfl) (rfx hr 6 11 13 (by decide)) ?_
    refine WP_iload dX6_load_48 rfl ?_
    refine WQ_ialdb dX6_load_50 (lyx_is hy 13 13 rfl) (lyx_n hy 13 28 rfl) (by omega) (by omega) (fun q hq => BT_get hI.1 13 0 28 (-1) (0) (2) (by decide) q (Nat.zero_le _) hq) (fun v8367 av8367 bv8367 zv8367 => ?_)
    have yv8367 : I (ad g 13) (7 * so.toInt + da.toInt).toNat = v8367 := by rw [← fz_at fr0 13 (by decide) (by decide), show (7 * so.toInt + da.toInt).toNat = v8359.toInt.toNat by omega]; exact zv8367
    refine WQ_puti dX6_load_51 fX6_9 rfl rfl (lyx_is hy 44 6 rfl) (fun I8368 eI8368 => ?_)
    have hI8368 : XI g n L I8368 := by rw [eI8368]; exact (xi_f hy hI (c := 44) (-1) (0) (2) (by decide) (Or.inl (by decide)) (by decide) (by omega) (by omega))
    have e8369 : I8368 (ad g 1) 1 = L := by rw [eI8368, pp_ne _ _ (Or.inl (lyx_ne hy (by decide) (by decide) (by decide)))]; exact e8355
    have e8370 : I8368 (ad g 6) 4 = v8360 := by rw [eI8368, pp_ne _ _ (Or.inl (lyx_ne hy (by decide) (by decide) (by decide)))]; exact ev8360
    have e8371 : I8368 (ad g 44) 0 = v8367 := by rw [eI8368, pp_self]
    have fr8372 : fz 74 g [44] I I8368 := by rw [eI8368]; exact fzx_pp hy fr0 (by decide) (by decide)
    clear eI8368
    refine WP_aload_n dX6_load_54 rfl ?_
    refine WP_aload dX6_load_55 rfl ?_
    refine WP_getr dX6_load_57 fX6_33 rfl (lyx_is hy 6 7 rfl) (rfx hr 6 12 14 (by decide)) ?_
    refine WP_iload dX6_load_60 rfl ?_
    refine WQ_ialdb dX6_load_62 (lyx_is hy 14 13 rfl) (lyx_n hy 14 28 rfl) (by omega) (by omega) (fun q hq => BT_get hI8368.1 14 0 28 (0) (0) (3) (by decide) q (Nat.zero_le _) hq) (fun v8373 av8373 bv8373 zv8373 => ?_)
    have yv8373 : I (ad g 14) (7 * so.toInt + da.toInt).toNat = v8373 := by rw [← fz_at fr8372 14 (by decide) (by decide), show (7 * so.toInt + da.toInt).toNat = v8359.toInt.toNat by omega]; exact zv8373
    refine WQ_puti dX6_load_63 fX6_36 rfl rfl (lyx_is hy 44 6 rfl) (fun I8374 eI8374 => ?_)
    have hI8374 : XI g n L I8374 := by rw [eI8374]; exact (xi_f hy hI8368 (c := 44) (0) (0) (3) (by decide) (Or.inl (by decide)) (by decide) (by omega) (by omega))
    have e8375 : I8374 (ad g 1) 1 = L := by rw [eI8374, pp_ne _ _ (Or.inl (lyx_ne hy (by decide) (by decide) (by decide)))]; exact e8369
    have e8376 : I8374 (ad g 6) 4 = v8360 := by rw [eI8374, pp_ne _ _ (Or.inl (lyx_ne hy (by decide) (by decide) (by decide)))]; exact e8370
    have e8377 : I8374 (ad g 44) 0 = v8367 := by rw [eI8374, pp_ne _ _ (Or.inr (by decide))]; exact e8371
    have e8378 : I8374 (ad g 44) 1 = v8373 := by rw [eI8374, pp_self]
    have fr8379 : fz 74 g [44] I I8374 := by rw [eI8374]; exact fzx_pp hy fr8372 (by decide) (by decide)
    clear eI8374
    refine WP_aload_n dX6_load_66 rfl ?_
    refine WP_aload dX6_load_67 rfl ?_
    refine WP_getr dX6_load_69 fX6_39 rfl (lyx_is hy 6 7 rfl) (rfx hr 6 13 15 (by decide)) ?_
    refine WP_iload dX6_load_72 rfl ?_
    refine WQ_ialdb dX6_load_74 (lyx_is hy 15 13 rfl) (lyx_n hy 15 28 rfl) (by omega) (by omega) (fun q hq => BT_get hI8374.1 15 0 28 (0) (0) (99) (by decide) q (Nat.zero_le _) hq) (fun v8380 av8380 bv8380 zv8380 => ?_)
    have yv8380 : I (ad g 15) (7 * so.toInt + da.toInt).toNat = v8380 := by rw [← fz_at fr8379 15 (by decide) (by decide), show (7 * so.toInt + da.toInt).toNat = v8359.toInt.toNat by omega]; exact zv8380
    refine WQ_puti dX6_load_75 fX6_42 rfl rfl (lyx_is hy 44 6 rfl) (fun I8381 eI8381 => ?_)
    have hI8381 : XI g n L I8381 := by rw [eI8381]; exact (xi_f hy hI8374 (c := 44) (0) (0) (99) (by decide) (Or.inl (by decide)) (by decide) (by omega) (by omega))
    have e8382 : I8381 (ad g 1) 1 = L := by rw [eI8381, pp_ne _ _ (Or.inl (lyx_ne hy (by decide) (by decide) (by decide)))]; exact e8375
    have e8383 : I8381 (ad g 6) 4 = v8360 := by rw [eI8381, pp_ne _ _ (Or.inl (lyx_ne hy (by decide) (by decide) (by decide)))]; exact e8376
    have e8384 : I8381 (ad g 44) 0 = v8367 := by rw [eI8381, pp_ne _ _ (Or.inr (by decide))]; exact e8377
    have e8385 : I8381 (ad g 44) 1 = v8373 := by rw [eI8381, pp_ne _ _ (Or.inr (by decide))]; exact e8378
    have e8386 : I8381 (ad g 44) 2 = v8380 := by rw [eI8381, pp_self]
    have fr8387 : fz 74 g [44] I I8381 := by rw [eI8381]; exact fzx_pp hy fr8379 (by decide) (by decide)
    clear eI8381
    refine WP_aload_n dX6_load_78 rfl ?_
    refine WP_aload_n dX6_load_79 rfl ?_
    refine WQ_getim dX6_load_80 fX6_9 rfl (lyx_is hy 44 6 rfl) e8384 ?_
    refine WQ_iconst (-1) (-1) dX6_load_83 rfl rfl (fun v8388 hv8388 => ?_)
    refine WQ_icmp_ne 91 dX6_load_84 rfl (fun c8388 => ?_) (fun c8388 => ?_)
    · refine WP_aload_n dX6_load_91 rfl ?_
      refine WP_getr dX6_load_92 fX6_45 rfl (lyx_is hy 5 0 rfl) (rfx hr 5 1 22 (by decide)) ?_
      refine WP_aload_n dX6_load_95 rfl ?_
      refine WQ_getim dX6_load_96 fX6_9 rfl (lyx_is hy 44 6 rfl) e8384 ?_
      refine WQ_bipush (7) (7) dX6_load_99 rfl rfl (fun v8390 hv8390 => ?_)
      refine WQ_imulk (7) dX6_load_101 hv8390 (by omega) (by omega) (fun v8391 hv8391 => ?_)
      refine WP_iload_n dX6_load_102 rfl ?_
      refine WQ_iadd dX6_load_103 (by omega) (by omega) (fun v8392 hv8392 => ?_)
      refine WQ_ialdb dX6_load_104 (lyx_is hy 22 13 rfl) (lyx_n hy 22 21 rfl) (by omega) (by omega) (fun q hq => BT_get hI8381.1 22 0 21 (0) (0) (20) (by decide) q (Nat.zero_le _) hq) (fun v8393 av8393 bv8393 zv8393 => ?_)
      have yv8393 : I (ad g 22) (7 * v8367.toInt + da.toInt).toNat = v8393 := by rw [← fz_at fr8387 22 (by decide) (by decide), show (7 * v8367.toInt + da.toInt).toNat = v8392.toInt.toNat by omega]; exact zv8393
      refine WQ_puti dX6_load_105 fX6_48 rfl rfl (lyx_is hy 44 6 rfl) (fun I8394 eI8394 => ?_)
      have hI8394 : XI g n L I8394 := by rw [eI8394]; exact (xi_f hy hI8381 (c := 44) (0) (0) (20) (by decide) (Or.inl (by decide)) (by decide) (by omega) (by omega))
      have e8395 : I8394 (ad g 1) 1 = L := by rw [eI8394, pp_ne _ _ (Or.inl (lyx_ne hy (by decide) (by decide) (by decide)))]; exact e8382
      have e8396 : I8394 (ad g 6) 4 = v8360 := by rw [eI8394, pp_ne _ _ (Or.inl (lyx_ne hy (by decide) (by decide) (by decide)))]; exact e8383
      have e8397 : I8394 (ad g 44) 0 = v8367 := by rw [eI8394, pp_ne _ _ (Or.inr (by decide))]; exact e8384
      have e8398 : I8394 (ad g 44) 1 = v8373 := by rw [eI8394, pp_ne _ _ (Or.inr (by decide))]; exact e8385
      have e8399 : I8394 (ad g 44) 2 = v8380 := by rw [eI8394, pp_ne _ _ (Or.inr (by decide))]; exact e8386
      have e8400 : I8394 (ad g 44) 3 = v8393 := by rw [eI8394, pp_self]
      have fr8401 : fz 74 g [44] I I8394 := by rw [eI8394]; exact fzx_pp hy fr8387 (by decide) (by decide)
      clear eI8394
      refine WP_aload_n dX6_load_108 rfl ?_
      refine WP_iload dX6_load_109 rfl ?_
      refine WQ_iconst (-1) (-1) dX6_load_111 rfl rfl (fun v8402 hv8402 => ?_)
      refine WQ_icmp_ne 119 dX6_load_112 rfl (fun c8402 => ?_) (fun c8402 => ?_)
      · refine WP_aload_n dX6_load_119 rfl ?_
        refine WP_getr dX6_load_120 fX6_45 rfl (lyx_is hy 5 0 rfl) (rfx hr 5 1 22 (by decide)) ?_
        refine WP_iload dX6_load_123 rfl ?_
        refine WQ_bipush (7) (7) dX6_load_125 rfl rfl (fun v8404 hv8404 => ?_)
        refine WQ_imulk (7) dX6_load_127 hv8404 (by omega) (by omega) (fun v8405 hv8405 => ?_)
        refine WP_iload_n dX6_load_128 rfl ?_
        refine WQ_iadd dX6_load_129 (by omega) (by omega) (fun v8406 hv8406 => ?_)
        refine WQ_ialdb dX6_load_130 (lyx_is hy 22 13 rfl) (lyx_n hy 22 21 rfl) (by omega) (by omega) (fun q hq => BT_get hI8394.1 22 0 21 (0) (0) (20) (by decide) q (Nat.zero_le _) hq) (fun v8407 av8407 bv8407 zv8407 => ?_)
        have yv8407 : I (ad g 22) (7 * v8360.toInt + da.toInt).toNat = v8407 := by rw [← fz_at fr8401 22 (by decide) (by decide), show (7 * v8360.toInt + da.toInt).toNat = v8406.toInt.toNat by omega]; exact zv8407
        refine WQ_puti dX6_load_131 fX6_51 rfl rfl (lyx_is hy 44 6 rfl) (fun I8408 eI8408 => ?_)
        have hI8408 : XI g n L I8408 := by rw [eI8408]; exact (xi_f hy hI8394 (c := 44) (0) (0) (20) (by decide) (Or.inl (by decide)) (by decide) (by omega) (by omega))
        have e8409 : I8408 (ad g 1) 1 = L := by rw [eI8408, pp_ne _ _ (Or.inl (lyx_ne hy (by decide) (by decide) (by decide)))]; exact e8395
        have e8410 : I8408 (ad g 6) 4 = v8360 := by rw [eI8408, pp_ne _ _ (Or.inl (lyx_ne hy (by decide) (by decide) (by decide)))]; exact e8396
        have e8411 : I8408 (ad g 44) 0 = v8367 := by rw [eI8408, pp_ne _ _ (Or.inr (by decide))]; exact e8397
        have e8412 : I8408 (ad g 44) 1 = v8373 := by rw [eI8408, pp_ne _ _ (Or.inr (by decide))]; exact e8398
        have e8413 : I8408 (ad g 44) 2 = v8380 := by rw [eI8408, pp_ne _ _ (Or.inr (by decide))]; exact e8399
        have e8414 : I8408 (ad g 44) 3 = v8393 := by rw [eI8408, pp_ne _ _ (Or.inr (by decide))]; exact e8400
        have e8415 : I8408 (ad g 44) 4 = v8407 := by rw [eI8408, pp_self]
        have fr8416 : fz 74 g [44] I I8408 := by rw [eI8408]; exact fzx_pp hy fr8401 (by decide) (by decide)
        clear eI8408
        refine WP_aload_n dX6_load_134 rfl ?_
        refine WP_iload dX6_load_135 rfl ?_
        refine WQ_if_eq 144 dX6_load_137 rfl (fun c8416 => ?_) (fun c8416 => False.elim (by omega))
        refine WP_aload_n dX6_load_144 rfl ?_
        refine WQ_getim dX6_load_145 fX6_36 rfl (lyx_is hy 44 6 rfl) e8412 ?_
        refine WQ_puti dX6_load_148 fX6_54 rfl rfl (lyx_is hy 44 6 rfl) (fun I8418 eI8418 => ?_)
        have hI8418 : XI g n L I8418 := by rw [eI8418]; exact (xi_f hy hI8408 (c := 44) (0) (0) (3) (by decide) (Or.inl (by decide)) (by decide) (by omega) (by omega))
        have e8419 : I8418 (ad g 1) 1 = L := by rw [eI8418, pp_ne _ _ (Or.inl (lyx_ne hy (by decide) (by decide) (by decide)))]; exact e8409
        have e8420 : I8418 (ad g 6) 4 = v8360 := by rw [eI8418, pp_ne _ _ (Or.inl (lyx_ne hy (by decide) (by decide) (by decide)))]; exact e8410
        have e8421 : I8418 (ad g 44) 0 = v8367 := by rw [eI8418, pp_ne _ _ (Or.inr (by decide))]; exact e8411
        have e8422 : I8418 (ad g 44) 1 = v8373 := by rw [eI8418, pp_ne _ _ (Or.inr (by decide))]; exact e8412
        have e8423 : I8418 (ad g 44) 2 = v8380 := by rw [eI8418, pp_ne _ _ (Or.inr (by decide))]; exact e8413
        have e8424 : I8418 (ad g 44) 3 = v8393 := by rw [eI8418, pp_ne _ _ (Or.inr (by decide))]; exact e8414
        have e8425 : I8418 (ad g 44) 4 = v8407 := by rw [eI8418, pp_ne _ _ (Or.inr (by decide))]; exact e8415
        have e8426 : I8418 (ad g 44) 5 = v8373 := by rw [eI8418, pp_self]
        have fr8427 : fz 74 g [44] I I8418 := by rw [eI8418]; exact fzx_pp hy fr8416 (by decide) (by decide)
        clear eI8418
        refine WP_aload_n dX6_load_151 rfl ?_
        refine WP_iload dX6_load_152 rfl ?_
        refine WQ_if_ne 163 dX6_load_154 rfl (fun c8427 => False.elim (by omega)) (fun c8427 => ?_)
        refine WP_iload dX6_load_157 rfl ?_
        refine WQ_iconst (-1) (-1) dX6_load_159 rfl rfl (fun v8429 hv8429 => ?_)
        refine WQ_icmp_ne 167 dX6_load_160 rfl (fun c8429 => ?_) (fun c8429 => False.elim (by omega))
        refine WQ_iconst (2) (2) dX6_load_167 rfl rfl (fun v8431 hv8431 => ?_)
        refine WQ_puti dX6_load_168 fX6_57 rfl rfl (lyx_is hy 44 6 rfl) (fun I8432 eI8432 => ?_)
        have hI8432 : XI g n L I8432 := by rw [eI8432]; exact (xi_f hy hI8418 (c := 44) (0) (0) (2) (by decide) (Or.inl (by decide)) (by decide) (by omega) (by omega))
        have e8433 : I8432 (ad g 1) 1 = L := by rw [eI8432, pp_ne _ _ (Or.inl (lyx_ne hy (by decide) (by decide) (by decide)))]; exact e8419
        have e8434 : I8432 (ad g 6) 4 = v8360 := by rw [eI8432, pp_ne _ _ (Or.inl (lyx_ne hy (by decide) (by decide) (by decide)))]; exact e8420
        have e8435 : I8432 (ad g 44) 0 = v8367 := by rw [eI8432, pp_ne _ _ (Or.inr (by decide))]; exact e8421
        have e8436 : I8432 (ad g 44) 1 = v8373 := by rw [eI8432, pp_ne _ _ (Or.inr (by decide))]; exact e8422
        have e8437 : I8432 (ad g 44) 2 = v8380 := by rw [eI8432, pp_ne _ _ (Or.inr (by decide))]; exact e8423
        have e8438 : I8432 (ad g 44) 3 = v8393 := by rw [eI8432, pp_ne _ _ (Or.inr (by decide))]; exact e8424
        have e8439 : I8432 (ad g 44) 4 = v8407 := by rw [eI8432, pp_ne _ _ (Or.inr (by decide))]; exact e8425
        have e8440 : I8432 (ad g 44) 5 = v8373 := by rw [eI8432, pp_ne _ _ (Or.inr (by decide))]; exact e8426
        have e8441 : I8432 (ad g 44) 6 = v8431 := by rw [eI8432, pp_self]
        have fr8442 : fz 74 g [44] I I8432 := by rw [eI8432]; exact fzx_pp hy fr8427 (by decide) (by decide)
        clear eI8432
        refine WP_aload_n dX6_load_171 rfl ?_
        refine WP_aload_n dX6_load_172 rfl ?_
        refine WQ_getim dX6_load_173 fX6_9 rfl (lyx_is hy 44 6 rfl) e8435 ?_
        refine WQ_iconst (-1) (-1) dX6_load_176 rfl rfl (fun v8443 hv8443 => ?_)
        refine WQ_icmp_eq 193 dX6_load_177 rfl (fun c8443 => False.elim (by omega)) (fun c8443 => ?_)
        refine WP_aload_n dX6_load_180 rfl ?_
        refine WQ_getim dX6_load_181 fX6_9 rfl (lyx_is hy 44 6 rfl) e8435 ?_
        refine WP_iload dX6_load_184 rfl ?_
        refine WQ_icmp_ne 193 dX6_load_186 rfl (fun c8444 => ?_) (fun c8444 => ?_)
        · refine WQ_iconst (0) (0) dX6_load_193 rfl rfl (fun v8446 hv8446 => ?_)
          refine WQ_putz dX6_load_194 fX6_60 rfl rfl (by omega) (lyx_is hy 44 6 rfl) (fun I8447 eI8447 => ?_)
          have hI8447 : XI g n L I8447 := by rw [eI8447]; exact (xi_f hy hI8432 (c := 44) (0) (0) (1) (by decide) (Or.inl (by decide)) (by decide) (by omega) (by omega))
          have e8448 : I8447 (ad g 1) 1 = L := by rw [eI8447, pp_ne _ _ (Or.inl (lyx_ne hy (by decide) (by decide) (by decide)))]; exact e8433
          have e8449 : I8447 (ad g 6) 4 = v8360 := by rw [eI8447, pp_ne _ _ (Or.inl (lyx_ne hy (by decide) (by decide) (by decide)))]; exact e8434
          have e8450 : I8447 (ad g 44) 0 = v8367 := by rw [eI8447, pp_ne _ _ (Or.inr (by decide))]; exact e8435
          have e8451 : I8447 (ad g 44) 1 = v8373 := by rw [eI8447, pp_ne _ _ (Or.inr (by decide))]; exact e8436
          have e8452 : I8447 (ad g 44) 2 = v8380 := by rw [eI8447, pp_ne _ _ (Or.inr (by decide))]; exact e8437
          have e8453 : I8447 (ad g 44) 3 = v8393 := by rw [eI8447, pp_ne _ _ (Or.inr (by decide))]; exact e8438
          have e8454 : I8447 (ad g 44) 4 = v8407 := by rw [eI8447, pp_ne _ _ (Or.inr (by decide))]; exact e8439
          have e8455 : I8447 (ad g 44) 5 = v8373 := by rw [eI8447, pp_ne _ _ (Or.inr (by decide))]; exact e8440
          have e8456 : I8447 (ad g 44) 6 = v8431 := by rw [eI8447, pp_ne _ _ (Or.inr (by decide))]; exact e8441
          have e8457 : I8447 (ad g 44) 7 = v8446 := by rw [eI8447, pp_self]
          have fr8458 : fz 74 g [44] I I8447 := by rw [eI8447]; exact fzx_pp hy fr8442 (by decide) (by decide)
          clear eI8447
          refine WP_aload_n dX6_load_197 rfl ?_
          refine WP_aload_n dX6_load_198 rfl ?_
          refine WP_getr dX6_load_199 fX6_64 rfl (lyx_is hy 5 0 rfl) (rfx hr 5 2 23 (by decide)) ?_
          refine WP_iload_n dX6_load_202 rfl ?_
          refine WQ_iald dX6_load_203 (lyx_is hy 23 13 rfl) (lyx_n hy 23 7 rfl) (by omega) (by omega) (fun q hq => BT_get hI8447.1 23 0 7 (0) (0) (900) (by decide) q (Nat.zero_le _) hq) (fun v8459 av8459 bv8459 ev8459 => ?_)
          clear ev8459
          refine WQ_if_le 211 dX6_load_204 rfl (fun c8459 => ?_) (fun c8459 => ?_)
          · refine WQ_iconst (0) (0) dX6_load_211 rfl rfl (fun v8461 hv8461 => ?_)
            refine WQ_putz dX6_load_212 fX6_67 rfl rfl (by omega) (lyx_is hy 44 6 rfl) (fun I8462 eI8462 => ?_)
            have hI8462 : XI g n L I8462 := by rw [eI8462]; exact (xi_f hy hI8447 (c := 44) (0) (0) (1) (by decide) (Or.inl (by decide)) (by decide) (by omega) (by omega))
            have e8463 : I8462 (ad g 1) 1 = L := by rw [eI8462, pp_ne _ _ (Or.inl (lyx_ne hy (by decide) (by decide) (by decide)))]; exact e8448
            have e8464 : I8462 (ad g 6) 4 = v8360 := by rw [eI8462, pp_ne _ _ (Or.inl (lyx_ne hy (by decide) (by decide) (by decide)))]; exact e8449
            have e8465 : I8462 (ad g 44) 0 = v8367 := by rw [eI8462, pp_ne _ _ (Or.inr (by decide))]; exact e8450
            have e8466 : I8462 (ad g 44) 1 = v8373 := by rw [eI8462, pp_ne _ _ (Or.inr (by decide))]; exact e8451
            have e8467 : I8462 (ad g 44) 2 = v8380 := by rw [eI8462, pp_ne _ _ (Or.inr (by decide))]; exact e8452
            have e8468 : I8462 (ad g 44) 3 = v8393 := by rw [eI8462, pp_ne _ _ (Or.inr (by decide))]; exact e8453
            have e8469 : I8462 (ad g 44) 4 = v8407 := by rw [eI8462, pp_ne _ _ (Or.inr (by decide))]; exact e8454
            have e8470 : I8462 (ad g 44) 5 = v8373 := by rw [eI8462, pp_ne _ _ (Or.inr (by decide))]; exact e8455
            have e8471 : I8462 (ad g 44) 6 = v8431 := by rw [eI8462, pp_ne _ _ (Or.inr (by decide))]; exact e8456
            have e8472 : I8462 (ad g 44) 7 = v8446 := by rw [eI8462, pp_ne _ _ (Or.inr (by decide))]; exact e8457
            have e8473 : I8462 (ad g 44) 8 = v8461 := by rw [eI8462, pp_self]
            have fr8474 : fz 74 g [44] I I8462 := by rw [eI8462]; exact fzx_pp hy fr8458 (by decide) (by decide)
            clear eI8462
            exact WP_vret dX6_load_215 rfl ⟨⟨hI8462, rfl, fr8474, rfl, (by
                  have yill : I (ad g (6 + 5)) so.toInt.toNat >>> (nI da.toInt.toNat &&& 31) &&& 1 = v8364 := by rw [show I (ad g (6 + 5)) so.toInt.toNat = v8361 from yv8361, show nI da.toInt.toNat = da from (eq32 _ _).mpr (by rw [nI_toInt (by omega)]; omega), xv8364, xv8362, (eq32 v8363 1).mpr hv8363]
                  have yst : I (ad g 6) 4 = v8360 := est
                  unfold LD
                  simp only [e8465, e8466, e8467, e8468, e8469, e8470, e8471, e8472, yill, yst, show I (ad g (6 + 7)) _ = _ from yv8367, show I (ad g (6 + 8)) _ = _ from yv8373, show I (ad g (6 + 9)) _ = _ from yv8380, yv8393, yv8407, true_and, and_true]
                  omega)⟩, rfl⟩
          · refine WQ_iconst (1) (1) dX6_load_207 rfl rfl (fun v8475 hv8475 => ?_)
            refine WP_goto 212 dX6_load_208 rfl ?_
            refine WQ_putz dX6_load_212 fX6_67 rfl rfl (by omega) (lyx_is hy 44 6 rfl) (fun I8476 eI8476 => ?_)
            have hI8476 : XI g n L I8476 := by rw [eI8476]; exact (xi_f hy hI8447 (c := 44) (0) (0) (1) (by decide) (Or.inl (by decide)) (by decide) (by omega) (by omega))
            have e8477 : I8476 (ad g 1) 1 = L := by rw [eI8476, pp_ne _ _ (Or.inl (lyx_ne hy (by decide) (by decide) (by decide)))]; exact e8448
            have e8478 : I8476 (ad g 6) 4 = v8360 := by rw [eI8476, pp_ne _ _ (Or.inl (lyx_ne hy (by decide) (by decide) (by decide)))]; exact e8449
            have e8479 : I8476 (ad g 44) 0 = v8367 := by rw [eI8476, pp_ne _ _ (Or.inr (by decide))]; exact e8450
            have e8480 : I8476 (ad g 44) 1 = v8373 := by rw [eI8476, pp_ne _ _ (Or.inr (by decide))]; exact e8451
            have e8481 : I8476 (ad g 44) 2 = v8380 := by rw [eI8476, pp_ne _ _ (Or.inr (by decide))]; exact e8452
            have e8482 : I8476 (ad g 44) 3 = v8393 := by rw [eI8476, pp_ne _ _ (Or.inr (by decide))]; exact e8453
            have e8483 : I8476 (ad g 44) 4 = v8407 := by rw [eI8476, pp_ne _ _ (Or.inr (by decide))]; exact e8454
            have e8484 : I8476 (ad g 44) 5 = v8373 := by rw [eI8476, pp_ne _ _ (Or.inr (by decide))]; exact e8455
            have e8485 : I8476 (ad g 44) 6 = v8431 := by rw [eI8476, pp_ne _ _ (Or.inr (by decide))]; exact e8456
            have e8486 : I8476 (ad g 44) 7 = v8446 := by rw [eI8476, pp_ne _ _ (Or.inr (by decide))]; exact e8457
            have e8487 : I8476 (ad g 44) 8 = v8475 := by rw [eI8476, pp_self]
            have fr8488 : fz 74 g [44] I I8476 := by rw [eI8476]; exact fzx_pp hy fr8458 (by decide) (by decide)
            clear eI8476
            exact WP_vret dX6_load_215 rfl ⟨⟨hI8476, rfl, fr8488, rfl, (by
                  have yill : I (ad g (6 + 5)) so.toInt.toNat >>> (nI da.toInt.toNat &&& 31) &&& 1 = v8364 := by rw [show I (ad g (6 + 5)) so.toInt.toNat = v8361 from yv8361, show nI da.toInt.toNat = da from (eq32 _ _).mpr (by rw [nI_toInt (by omega)]; omega), xv8364, xv8362, (eq32 v8363 1).mpr hv8363]
                  have yst : I (ad g 6) 4 = v8360 := est
                  unfold LD
                  simp only [e8479, e8480, e8481, e8482, e8483, e8484, e8485, e8486, yill, yst, show I (ad g (6 + 7)) _ = _ from yv8367, show I (ad g (6 + 8)) _ = _ from yv8373, show I (ad g (6 + 9)) _ = _ from yv8380, yv8393, yv8407, true_and, and_true]
                  omega)⟩, rfl⟩
        · refine WQ_iconst (1) (1) dX6_load_189 rfl rfl (fun v8489 hv8489 => ?_)
          refine WP_goto 194 dX6_load_190 rfl ?_
          refine WQ_putz dX6_load_194 fX6_60 rfl rfl (by omega) (lyx_is hy 44 6 rfl) (fun I8490 eI8490 => ?_)
          have hI8490 : XI g n L I8490 := by rw [eI8490]; exact (xi_f hy hI8432 (c := 44) (0) (0) (1) (by decide) (Or.inl (by decide)) (by decide) (by omega) (by omega))
          have e8491 : I8490 (ad g 1) 1 = L := by rw [eI8490, pp_ne _ _ (Or.inl (lyx_ne hy (by decide) (by decide) (by decide)))]; exact e8433
          have e8492 : I8490 (ad g 6) 4 = v8360 := by rw [eI8490, pp_ne _ _ (Or.inl (lyx_ne hy (by decide) (by decide) (by decide)))]; exact e8434
          have e8493 : I8490 (ad g 44) 0 = v8367 := by rw [eI8490, pp_ne _ _ (Or.inr (by decide))]; exact e8435
          have e8494 : I8490 (ad g 44) 1 = v8373 := by rw [eI8490, pp_ne _ _ (Or.inr (by decide))]; exact e8436
          have e8495 : I8490 (ad g 44) 2 = v8380 := by rw [eI8490, pp_ne _ _ (Or.inr (by decide))]; exact e8437
          have e8496 : I8490 (ad g 44) 3 = v8393 := by rw [eI8490, pp_ne _ _ (Or.inr (by decide))]; exact e8438
          have e8497 : I8490 (ad g 44) 4 = v8407 := by rw [eI8490, pp_ne _ _ (Or.inr (by decide))]; exact e8439
          have e8498 : I8490 (ad g 44) 5 = v8373 := by rw [eI8490, pp_ne _ _ (Or.inr (by decide))]; exact e8440
          have e8499 : I8490 (ad g 44) 6 = v8431 := by rw [eI8490, pp_ne _ _ (Or.inr (by decide))]; exact e8441
          have e8500 : I8490 (ad g 44) 7 = v8489 := by rw [eI8490, pp_self]
          have fr8501 : fz 74 g [44] I I8490 := by rw [eI8490]; exact fzx_pp hy fr8442 (by decide) (by decide)
          clear eI8490
          refine WP_aload_n dX6_load_197 rfl ?_
          refine WP_aload_n dX6_load_198 rfl ?_
          refine WP_getr dX6_load_199 fX6_64 rfl (lyx_is hy 5 0 rfl) (rfx hr 5 2 23 (by decide)) ?_
          refine WP_iload_n dX6_load_202 rfl ?_
          refine WQ_iald dX6_load_203 (lyx_is hy 23 13 rfl) (lyx_n hy 23 7 rfl) (by omega) (by omega) (fun q hq => BT_get hI8490.1 23 0 7 (0) (0) (900) (by decide) q (Nat.zero_le _) hq) (fun v8502 av8502 bv8502 ev8502 => ?_)
          clear ev8502
          refine WQ_if_le 211 dX6_load_204 rfl (fun c8502 => ?_) (fun c8502 => ?_)
          · refine WQ_iconst (0) (0) dX6_load_211 rfl rfl (fun v8504 hv8504 => ?_)
            refine WQ_putz dX6_load_212 fX6_67 rfl rfl (by omega) (lyx_is hy 44 6 rfl) (fun I8505 eI8505 => ?_)
            have hI8505 : XI g n L I8505 := by rw [eI8505]; exact (xi_f hy hI8490 (c := 44) (0) (0) (1) (by decide) (Or.inl (by decide)) (by decide) (by omega) (by omega))
            have e8506 : I8505 (ad g 1) 1 = L := by rw [eI8505, pp_ne _ _ (Or.inl (lyx_ne hy (by decide) (by decide) (by decide)))]; exact e8491
            have e8507 : I8505 (ad g 6) 4 = v8360 := by rw [eI8505, pp_ne _ _ (Or.inl (lyx_ne hy (by decide) (by decide) (by decide)))]; exact e8492
            have e8508 : I8505 (ad g 44) 0 = v8367 := by rw [eI8505, pp_ne _ _ (Or.inr (by decide))]; exact e8493
            have e8509 : I8505 (ad g 44) 1 = v8373 := by rw [eI8505, pp_ne _ _ (Or.inr (by decide))]; exact e8494
            have e8510 : I8505 (ad g 44) 2 = v8380 := by rw [eI8505, pp_ne _ _ (Or.inr (by decide))]; exact e8495
            have e8511 : I8505 (ad g 44) 3 = v8393 := by rw [eI8505, pp_ne _ _ (Or.inr (by decide))]; exact e8496
            have e8512 : I8505 (ad g 44) 4 = v8407 := by rw [eI8505, pp_ne _ _ (Or.inr (by decide))]; exact e8497
            have e8513 : I8505 (ad g 44) 5 = v8373 := by rw [eI8505, pp_ne _ _ (Or.inr (by decide))]; exact e8498
            have e8514 : I8505 (ad g 44) 6 = v8431 := by rw [eI8505, pp_ne _ _ (Or.inr (by decide))]; exact e8499
            have e8515 : I8505 (ad g 44) 7 = v8489 := by rw [eI8505, pp_ne _ _ (Or.inr (by decide))]; exact e8500
            have e8516 : I8505 (ad g 44) 8 = v8504 := by rw [eI8505, pp_self]
            have fr8517 : fz 74 g [44] I I8505 := by rw [eI8505]; exact fzx_pp hy fr8501 (by decide) (by decide)
            clear eI8505
            exact WP_vret dX6_load_215 rfl ⟨⟨hI8505, rfl, fr8517, rfl, (by
                  have yill : I (ad g (6 + 5)) so.toInt.toNat >>> (nI da.toInt.toNat &&& 31) &&& 1 = v8364 := by rw [show I (ad g (6 + 5)) so.toInt.toNat = v8361 from yv8361, show nI da.toInt.toNat = da from (eq32 _ _).mpr (by rw [nI_toInt (by omega)]; omega), xv8364, xv8362, (eq32 v8363 1).mpr hv8363]
                  have yst : I (ad g 6) 4 = v8360 := est
                  unfold LD
                  simp only [e8508, e8509, e8510, e8511, e8512, e8513, e8514, e8515, yill, yst, show I (ad g (6 + 7)) _ = _ from yv8367, show I (ad g (6 + 8)) _ = _ from yv8373, show I (ad g (6 + 9)) _ = _ from yv8380, yv8393, yv8407, true_and, and_true]
                  omega)⟩, rfl⟩
          · refine WQ_iconst (1) (1) dX6_load_207 rfl rfl (fun v8518 hv8518 => ?_)
            refine WP_goto 212 dX6_load_208 rfl ?_
            refine WQ_putz dX6_load_212 fX6_67 rfl rfl (by omega) (lyx_is hy 44 6 rfl) (fun I8519 eI8519 => ?_)
            have hI8519 : XI g n L I8519 := by rw [eI8519]; exact (xi_f hy hI8490 (c := 44) (0) (0) (1) (by decide) (Or.inl (by decide)) (by decide) (by omega) (by omega))
            have e8520 : I8519 (ad g 1) 1 = L := by rw [eI8519, pp_ne _ _ (Or.inl (lyx_ne hy (by decide) (by decide) (by decide)))]; exact e8491
            have e8521 : I8519 (ad g 6) 4 = v8360 := by rw [eI8519, pp_ne _ _ (Or.inl (lyx_ne hy (by decide) (by decide) (by decide)))]; exact e8492
            have e8522 : I8519 (ad g 44) 0 = v8367 := by rw [eI8519, pp_ne _ _ (Or.inr (by decide))]; exact e8493
            have e8523 : I8519 (ad g 44) 1 = v8373 := by rw [eI8519, pp_ne _ _ (Or.inr (by decide))]; exact e8494
            have e8524 : I8519 (ad g 44) 2 = v8380 := by rw [eI8519, pp_ne _ _ (Or.inr (by decide))]; exact e8495
            have e8525 : I8519 (ad g 44) 3 = v8393 := by rw [eI8519, pp_ne _ _ (Or.inr (by decide))]; exact e8496
            have e8526 : I8519 (ad g 44) 4 = v8407 := by rw [eI8519, pp_ne _ _ (Or.inr (by decide))]; exact e8497
            have e8527 : I8519 (ad g 44) 5 = v8373 := by rw [eI8519, pp_ne _ _ (Or.inr (by decide))]; exact e8498
            have e8528 : I8519 (ad g 44) 6 = v8431 := by rw [eI8519, pp_ne _ _ (Or.inr (by decide))]; exact e8499
            have e8529 : I8519 (ad g 44) 7 = v8489 := by rw [eI8519, pp_ne _ _ (Or.inr (by decide))]; exact e8500
            have e8530 : I8519 (ad g 44) 8 = v8518 := by rw [eI8519, pp_self]
            have fr8531 : fz 74 g [44] I I8519 := by rw [eI8519]; exact fzx_pp hy fr8501 (by decide) (by decide)
            clear eI8519
            exact WP_vret dX6_load_215 rfl ⟨⟨hI8519, rfl, fr8531, rfl, (by
                  have yill : I (ad g (6 + 5)) so.toInt.toNat >>> (nI da.toInt.toNat &&& 31) &&& 1 = v8364 := by rw [show I (ad g (6 + 5)) so.toInt.toNat = v8361 from yv8361, show nI da.toInt.toNat = da from (eq32 _ _).mpr (by rw [nI_toInt (by omega)]; omega), xv8364, xv8362, (eq32 v8363 1).mpr hv8363]
                  have yst : I (ad g 6) 4 = v8360 := est
                  unfold LD
                  simp only [e8522, e8523, e8524, e8525, e8526, e8527, e8528, e8529, yill, yst, show I (ad g (6 + 7)) _ = _ from yv8367, show I (ad g (6 + 8)) _ = _ from yv8373, show I (ad g (6 + 9)) _ = _ from yv8380, yv8393, yv8407, true_and, and_true]
                  omega)⟩, rfl⟩
      · refine WQ_iconst (0) (0) dX6_load_115 rfl rfl (fun v8532 hv8532 => ?_)
        refine WP_goto 131 dX6_load_116 rfl ?_
        refine WQ_puti dX6_load_131 fX6_51 rfl rfl (lyx_is hy 44 6 rfl) (fun I8533 eI8533 => ?_)
        have hI8533 : XI g n L I8533 := by rw [eI8533]; exact (xi_f hy hI8394 (c := 44) (0) (0) (20) (by decide) (Or.inl (by decide)) (by decide) (by omega) (by omega))
        have e8534 : I8533 (ad g 1) 1 = L := by rw [eI8533, pp_ne _ _ (Or.inl (lyx_ne hy (by decide) (by decide) (by decide)))]; exact e8395
        have e8535 : I8533 (ad g 6) 4 = v8360 := by rw [eI8533, pp_ne _ _ (Or.inl (lyx_ne hy (by decide) (by decide) (by decide)))]; exact e8396
        have e8536 : I8533 (ad g 44) 0 = v8367 := by rw [eI8533, pp_ne _ _ (Or.inr (by decide))]; exact e8397
        have e8537 : I8533 (ad g 44) 1 = v8373 := by rw [eI8533, pp_ne _ _ (Or.inr (by decide))]; exact e8398
        have e8538 : I8533 (ad g 44) 2 = v8380 := by rw [eI8533, pp_ne _ _ (Or.inr (by decide))]; exact e8399
        have e8539 : I8533 (ad g 44) 3 = v8393 := by rw [eI8533, pp_ne _ _ (Or.inr (by decide))]; exact e8400
        have e8540 : I8533 (ad g 44) 4 = v8532 := by rw [eI8533, pp_self]
        have fr8541 : fz 74 g [44] I I8533 := by rw [eI8533]; exact fzx_pp hy fr8401 (by decide) (by decide)
        clear eI8533
        refine WP_aload_n dX6_load_134 rfl ?_
        refine WP_iload dX6_load_135 rfl ?_
        refine WQ_if_eq 144 dX6_load_137 rfl (fun c8541 => ?_) (fun c8541 => False.elim (by omega))
        refine WP_aload_n dX6_load_144 rfl ?_
        refine WQ_getim dX6_load_145 fX6_36 rfl (lyx_is hy 44 6 rfl) e8537 ?_
        refine WQ_puti dX6_load_148 fX6_54 rfl rfl (lyx_is hy 44 6 rfl) (fun I8543 eI8543 => ?_)
        have hI8543 : XI g n L I8543 := by rw [eI8543]; exact (xi_f hy hI8533 (c := 44) (0) (0) (3) (by decide) (Or.inl (by decide)) (by decide) (by omega) (by omega))
        have e8544 : I8543 (ad g 1) 1 = L := by rw [eI8543, pp_ne _ _ (Or.inl (lyx_ne hy (by decide) (by decide) (by decide)))]; exact e8534
        have e8545 : I8543 (ad g 6) 4 = v8360 := by rw [eI8543, pp_ne _ _ (Or.inl (lyx_ne hy (by decide) (by decide) (by decide)))]; exact e8535
        have e8546 : I8543 (ad g 44) 0 = v8367 := by rw [eI8543, pp_ne _ _ (Or.inr (by decide))]; exact e8536
        have e8547 : I8543 (ad g 44) 1 = v8373 := by rw [eI8543, pp_ne _ _ (Or.inr (by decide))]; exact e8537
        have e8548 : I8543 (ad g 44) 2 = v8380 := by rw [eI8543, pp_ne _ _ (Or.inr (by decide))]; exact e8538
        have e8549 : I8543 (ad g 44) 3 = v8393 := by rw [eI8543, pp_ne _ _ (Or.inr (by decide))]; exact e8539
        have e8550 : I8543 (ad g 44) 4 = v8532 := by rw [eI8543, pp_ne _ _ (Or.inr (by decide))]; exact e8540
        have e8551 : I8543 (ad g 44) 5 = v8373 := by rw [eI8543, pp_self]
        have fr8552 : fz 74 g [44] I I8543 := by rw [eI8543]; exact fzx_pp hy fr8541 (by decide) (by decide)
        clear eI8543
        refine WP_aload_n dX6_load_151 rfl ?_
        refine WP_iload dX6_load_152 rfl ?_
        refine WQ_if_ne 163 dX6_load_154 rfl (fun c8552 => False.elim (by omega)) (fun c8552 => ?_)
        refine WP_iload dX6_load_157 rfl ?_
        refine WQ_iconst (-1) (-1) dX6_load_159 rfl rfl (fun v8554 hv8554 => ?_)
        refine WQ_icmp_ne 167 dX6_load_160 rfl (fun c8554 => False.elim (by omega)) (fun c8554 => ?_)
        refine WQ_iconst (0) (0) dX6_load_163 rfl rfl (fun v8556 hv8556 => ?_)
        refine WP_goto 168 dX6_load_164 rfl ?_
        refine WQ_puti dX6_load_168 fX6_57 rfl rfl (lyx_is hy 44 6 rfl) (fun I8557 eI8557 => ?_)
        have hI8557 : XI g n L I8557 := by rw [eI8557]; exact (xi_f hy hI8543 (c := 44) (0) (0) (2) (by decide) (Or.inl (by decide)) (by decide) (by omega) (by omega))
        have e8558 : I8557 (ad g 1) 1 = L := by rw [eI8557, pp_ne _ _ (Or.inl (lyx_ne hy (by decide) (by decide) (by decide)))]; exact e8544
        have e8559 : I8557 (ad g 6) 4 = v8360 := by rw [eI8557, pp_ne _ _ (Or.inl (lyx_ne hy (by decide) (by decide) (by decide)))]; exact e8545
        have e8560 : I8557 (ad g 44) 0 = v8367 := by rw [eI8557, pp_ne _ _ (Or.inr (by decide))]; exact e8546
        have e8561 : I8557 (ad g 44) 1 = v8373 := by rw [eI8557, pp_ne _ _ (Or.inr (by decide))]; exact e8547
        have e8562 : I8557 (ad g 44) 2 = v8380 := by rw [eI8557, pp_ne _ _ (Or.inr (by decide))]; exact e8548
        have e8563 : I8557 (ad g 44) 3 = v8393 := by rw [eI8557, pp_ne _ _ (Or.inr (by decide))]; exact e8549
        have e8564 : I8557 (ad g 44) 4 = v8532 := by rw [eI8557, pp_ne _ _ (Or.inr (by decide))]; exact e8550
        have e8565 : I8557 (ad g 44) 5 = v8373 := by rw [eI8557, pp_ne _ _ (Or.inr (by decide))]; exact e8551
        have e8566 : I8557 (ad g 44) 6 = v8556 := by rw [eI8557, pp_self]
        have fr8567 : fz 74 g [44] I I8557 := by rw [eI8557]; exact fzx_pp hy fr8552 (by decide) (by decide)
        clear eI8557
        refine WP_aload_n dX6_load_171 rfl ?_
        refine WP_aload_n dX6_load_172 rfl ?_
        refine WQ_getim dX6_load_173 fX6_9 rfl (lyx_is hy 44 6 rfl) e8560 ?_
        refine WQ_iconst (-1) (-1) dX6_load_176 rfl rfl (fun v8568 hv8568 => ?_)
        refine WQ_icmp_eq 193 dX6_load_177 rfl (fun c8568 => False.elim (by omega)) (fun c8568 => ?_)
        refine WP_aload_n dX6_load_180 rfl ?_
        refine WQ_getim dX6_load_181 fX6_9 rfl (lyx_is hy 44 6 rfl) e8560 ?_
        refine WP_iload dX6_load_184 rfl ?_
        refine WQ_icmp_ne 193 dX6_load_186 rfl (fun c8569 => ?_) (fun c8569 => False.elim (by omega))
        refine WQ_iconst (0) (0) dX6_load_193 rfl rfl (fun v8571 hv8571 => ?_)
        refine WQ_putz dX6_load_194 fX6_60 rfl rfl (by omega) (lyx_is hy 44 6 rfl) (fun I8572 eI8572 => ?_)
        have hI8572 : XI g n L I8572 := by rw [eI8572]; exact (xi_f hy hI8557 (c := 44) (0) (0) (1) (by decide) (Or.inl (by decide)) (by decide) (by omega) (by omega))
        have e8573 : I8572 (ad g 1) 1 = L := by rw [eI8572, pp_ne _ _ (Or.inl (lyx_ne hy (by decide) (by decide) (by decide)))]; exact e8558
        have e8574 : I8572 (ad g 6) 4 = v8360 := by rw [eI8572, pp_ne _ _ (Or.inl (lyx_ne hy (by decide) (by decide) (by decide)))]; exact e8559
        have e8575 : I8572 (ad g 44) 0 = v8367 := by rw [eI8572, pp_ne _ _ (Or.inr (by decide))]; exact e8560
        have e8576 : I8572 (ad g 44) 1 = v8373 := by rw [eI8572, pp_ne _ _ (Or.inr (by decide))]; exact e8561
        have e8577 : I8572 (ad g 44) 2 = v8380 := by rw [eI8572, pp_ne _ _ (Or.inr (by decide))]; exact e8562
        have e8578 : I8572 (ad g 44) 3 = v8393 := by rw [eI8572, pp_ne _ _ (Or.inr (by decide))]; exact e8563
        have e8579 : I8572 (ad g 44) 4 = v8532 := by rw [eI8572, pp_ne _ _ (Or.inr (by decide))]; exact e8564
        have e8580 : I8572 (ad g 44) 5 = v8373 := by rw [eI8572, pp_ne _ _ (Or.inr (by decide))]; exact e8565
        have e8581 : I8572 (ad g 44) 6 = v8556 := by rw [eI8572, pp_ne _ _ (Or.inr (by decide))]; exact e8566
        have e8582 : I8572 (ad g 44) 7 = v8571 := by rw [eI8572, pp_self]
        have fr8583 : fz 74 g [44] I I8572 := by rw [eI8572]; exact fzx_pp hy fr8567 (by decide) (by decide)
        clear eI8572
        refine WP_aload_n dX6_load_197 rfl ?_
        refine WP_aload_n dX6_load_198 rfl ?_
        refine WP_getr dX6_load_199 fX6_64 rfl (lyx_is hy 5 0 rfl) (rfx hr 5 2 23 (by decide)) ?_
        refine WP_iload_n dX6_load_202 rfl ?_
        refine WQ_iald dX6_load_203 (lyx_is hy 23 13 rfl) (lyx_n hy 23 7 rfl) (by omega) (by omega) (fun q hq => BT_get hI8572.1 23 0 7 (0) (0) (900) (by decide) q (Nat.zero_le _) hq) (fun v8584 av8584 bv8584 ev8584 => ?_)
        clear ev8584
        refine WQ_if_le 211 dX6_load_204 rfl (fun c8584 => ?_) (fun c8584 => ?_)
        · refine WQ_iconst (0) (0) dX6_load_211 rfl rfl (fun v8586 hv8586 => ?_)
          refine WQ_putz dX6_load_212 fX6_67 rfl rfl (by omega) (lyx_is hy 44 6 rfl) (fun I8587 eI8587 => ?_)
          have hI8587 : XI g n L I8587 := by rw [eI8587]; exact (xi_f hy hI8572 (c := 44) (0) (0) (1) (by decide) (Or.inl (by decide)) (by decide) (by omega) (by omega))
          have e8588 : I8587 (ad g 1) 1 = L := by rw [eI8587, pp_ne _ _ (Or.inl (lyx_ne hy (by decide) (by decide) (by decide)))]; exact e8573
          have e8589 : I8587 (ad g 6) 4 = v8360 := by rw [eI8587, pp_ne _ _ (Or.inl (lyx_ne hy (by decide) (by decide) (by decide)))]; exact e8574
          have e8590 : I8587 (ad g 44) 0 = v8367 := by rw [eI8587, pp_ne _ _ (Or.inr (by decide))]; exact e8575
          have e8591 : I8587 (ad g 44) 1 = v8373 := by rw [eI8587, pp_ne _ _ (Or.inr (by decide))]; exact e8576
          have e8592 : I8587 (ad g 44) 2 = v8380 := by rw [eI8587, pp_ne _ _ (Or.inr (by decide))]; exact e8577
          have e8593 : I8587 (ad g 44) 3 = v8393 := by rw [eI8587, pp_ne _ _ (Or.inr (by decide))]; exact e8578
          have e8594 : I8587 (ad g 44) 4 = v8532 := by rw [eI8587, pp_ne _ _ (Or.inr (by decide))]; exact e8579
          have e8595 : I8587 (ad g 44) 5 = v8373 := by rw [eI8587, pp_ne _ _ (Or.inr (by decide))]; exact e8580
          have e8596 : I8587 (ad g 44) 6 = v8556 := by rw [eI8587, pp_ne _ _ (Or.inr (by decide))]; exact e8581
          have e8597 : I8587 (ad g 44) 7 = v8571 := by rw [eI8587, pp_ne _ _ (Or.inr (by decide))]; exact e8582
          have e8598 : I8587 (ad g 44) 8 = v8586 := by rw [eI8587, pp_self]
          have fr8599 : fz 74 g [44] I I8587 := by rw [eI8587]; exact fzx_pp hy fr8583 (by decide) (by decide)
          clear eI8587
          exact WP_vret dX6_load_215 rfl ⟨⟨hI8587, rfl, fr8599, rfl, (by
                have yill : I (ad g (6 + 5)) so.toInt.toNat >>> (nI da.toInt.toNat &&& 31) &&& 1 = v8364 := by rw [show I (ad g (6 + 5)) so.toInt.toNat = v8361 from yv8361, show nI da.toInt.toNat = da from (eq32 _ _).mpr (by rw [nI_toInt (by omega)]; omega), xv8364, xv8362, (eq32 v8363 1).mpr hv8363]
                have yst : I (ad g 6) 4 = v8360 := est
                unfold LD
                simp only [e8590, e8591, e8592, e8593, e8594, e8595, e8596, e8597, yill, yst, show I (ad g (6 + 7)) _ = _ from yv8367, show I (ad g (6 + 8)) _ = _ from yv8373, show I (ad g (6 + 9)) _ = _ from yv8380, yv8393, true_and, and_true]
                omega)⟩, rfl⟩
        · refine WQ_iconst (1) (1) dX6_load_207 rfl rfl (fun v8600 hv8600 => ?_)
          refine WP_goto 212 dX6_load_208 rfl ?_
          refine WQ_putz dX6_load_212 fX6_67 rfl rfl (by omega) (lyx_is hy 44 6 rfl) (fun I8601 eI8601 => ?_)
          have hI8601 : XI g n L I8601 := by rw [eI8601]; exact (xi_f hy hI8572 (c := 44) (0) (0) (1) (by decide) (Or.inl (by decide)) (by decide) (by omega) (by omega))
          have e8602 : I8601 (ad g 1) 1 = L := by rw [eI8601, pp_ne _ _ (Or.inl (lyx_ne hy (by decide) (by decide) (by decide)))]; exact e8573
          have e8603 : I8601 (ad g 6) 4 = v8360 := by rw [eI8601, pp_ne _ _ (Or.inl (lyx_ne hy (by decide) (by decide) (by decide)))]; exact e8574
          have e8604 : I8601 (ad g 44) 0 = v8367 := by rw [eI8601, pp_ne _ _ (Or.inr (by decide))]; exact e8575
          have e8605 : I8601 (ad g 44) 1 = v8373 := by rw [eI8601, pp_ne _ _ (Or.inr (by decide))]; exact e8576
          have e8606 : I8601 (ad g 44) 2 = v8380 := by rw [eI8601, pp_ne _ _ (Or.inr (by decide))]; exact e8577
          have e8607 : I8601 (ad g 44) 3 = v8393 := by rw [eI8601, pp_ne _ _ (Or.inr (by decide))]; exact e8578
          have e8608 : I8601 (ad g 44) 4 = v8532 := by rw [eI8601, pp_ne _ _ (Or.inr (by decide))]; exact e8579
          have e8609 : I8601 (ad g 44) 5 = v8373 := by rw [eI8601, pp_ne _ _ (Or.inr (by decide))]; exact e8580
          have e8610 : I8601 (ad g 44) 6 = v8556 := by rw [eI8601, pp_ne _ _ (Or.inr (by decide))]; exact e8581
          have e8611 : I8601 (ad g 44) 7 = v8571 := by rw [eI8601, pp_ne _ _ (Or.inr (by decide))]; exact e8582
          have e8612 : I8601 (ad g 44) 8 = v8600 := by rw [eI8601, pp_self]
          have fr8613 : fz 74 g [44] I I8601 := by rw [eI8601]; exact fzx_pp hy fr8583 (by decide) (by decide)
          clear eI8601
          exact WP_vret dX6_load_215 rfl ⟨⟨hI8601, rfl, fr8613, rfl, (by
                have yill : I (ad g (6 + 5)) so.toInt.toNat >>> (nI da.toInt.toNat &&& 31) &&& 1 = v8364 := by rw [show I (ad g (6 + 5)) so.toInt.toNat = v8361 from yv8361, show nI da.toInt.toNat = da from (eq32 _ _).mpr (by rw [nI_toInt (by omega)]; omega), xv8364, xv8362, (eq32 v8363 1).mpr hv8363]
                have yst : I (ad g 6) 4 = v8360 := est
                unfold LD
                simp only [e8604, e8605, e8606, e8607, e8608, e8609, e8610, e8611, yill, yst, show I (ad g (6 + 7)) _ = _ from yv8367, show I (ad g (6 + 8)) _ = _ from yv8373, show I (ad g (6 + 9)) _ = _ from yv8380, yv8393, true_and, and_true]
                omega)⟩, rfl⟩
    · refine WQ_iconst (0) (0) dX6_load_87 rfl rfl (fun v8614 hv8614 => ?_)
      refine WP_goto 105 dX6_load_88 rfl ?_
      refine WQ_puti dX6_load_105 fX6_48 rfl rfl (lyx_is hy 44 6 rfl) (fun I8615 eI8615 => ?_)
      have hI8615 : XI g n L I8615 := by rw [eI8615]; exact (xi_f hy hI8381 (c := 44) (0) (0) (20) (by decide) (Or.inl (by decide)) (by decide) (by omega) (by omega))
      have e8616 : I8615 (ad g 1) 1 = L := by rw [eI8615, pp_ne _ _ (Or.inl (lyx_ne hy (by decide) (by decide) (by decide)))]; exact e8382
      have e8617 : I8615 (ad g 6) 4 = v8360 := by rw [eI8615, pp_ne _ _ (Or.inl (lyx_ne hy (by decide) (by decide) (by decide)))]; exact e8383
      have e8618 : I8615 (ad g 44) 0 = v8367 := by rw [eI8615, pp_ne _ _ (Or.inr (by decide))]; exact e8384
      have e8619 : I8615 (ad g 44) 1 = v8373 := by rw [eI8615, pp_ne _ _ (Or.inr (by decide))]; exact e8385
      have e8620 : I8615 (ad g 44) 2 = v8380 := by rw [eI8615, pp_ne _ _ (Or.inr (by decide))]; exact e8386
      have e8621 : I8615 (ad g 44) 3 = v8614 := by rw [eI8615, pp_self]
      have fr8622 : fz 74 g [44] I I8615 := by rw [eI8615]; exact fzx_pp hy fr8387 (by decide) (by decide)
      clear eI8615
      refine WP_aload_n dX6_load_108 rfl ?_
      refine WP_iload dX6_load_109 rfl ?_
      refine WQ_iconst (-1) (-1) dX6_load_111 rfl rfl (fun v8623 hv8623 => ?_)
      refine WQ_icmp_ne 119 dX6_load_112 rfl (fun c8623 => ?_) (fun c8623 => ?_)
      · refine WP_aload_n dX6_load_119 rfl ?_
        refine WP_getr dX6_load_120 fX6_45 rfl (lyx_is hy 5 0 rfl) (rfx hr 5 1 22 (by decide)) ?_
        refine WP_iload dX6_load_123 rfl ?_
        refine WQ_bipush (7) (7) dX6_load_125 rfl rfl (fun v8625 hv8625 => ?_)
        refine WQ_imulk (7) dX6_load_127 hv8625 (by omega) (by omega) (fun v8626 hv8626 => ?_)
        refine WP_iload_n dX6_load_128 rfl ?_
        refine WQ_iadd dX6_load_129 (by omega) (by omega) (fun v8627 hv8627 => ?_)
        refine WQ_ialdb dX6_load_130 (lyx_is hy 22 13 rfl) (lyx_n hy 22 21 rfl) (by omega) (by omega) (fun q hq => BT_get hI8615.1 22 0 21 (0) (0) (20) (by decide) q (Nat.zero_le _) hq) (fun v8628 av8628 bv8628 zv8628 => ?_)
        have yv8628 : I (ad g 22) (7 * v8360.toInt + da.toInt).toNat = v8628 := by rw [← fz_at fr8622 22 (by decide) (by decide), show (7 * v8360.toInt + da.toInt).toNat = v8627.toInt.toNat by omega]; exact zv8628
        refine WQ_puti dX6_load_131 fX6_51 rfl rfl (lyx_is hy 44 6 rfl) (fun I8629 eI8629 => ?_)
        have hI8629 : XI g n L I8629 := by rw [eI8629]; exact (xi_f hy hI8615 (c := 44) (0) (0) (20) (by decide) (Or.inl (by decide)) (by decide) (by omega) (by omega))
        have e8630 : I8629 (ad g 1) 1 = L := by rw [eI8629, pp_ne _ _ (Or.inl (lyx_ne hy (by decide) (by decide) (by decide)))]; exact e8616
        have e8631 : I8629 (ad g 6) 4 = v8360 := by rw [eI8629, pp_ne _ _ (Or.inl (lyx_ne hy (by decide) (by decide) (by decide)))]; exact e8617
        have e8632 : I8629 (ad g 44) 0 = v8367 := by rw [eI8629, pp_ne _ _ (Or.inr (by decide))]; exact e8618
        have e8633 : I8629 (ad g 44) 1 = v8373 := by rw [eI8629, pp_ne _ _ (Or.inr (by decide))]; exact e8619
        have e8634 : I8629 (ad g 44) 2 = v8380 := by rw [eI8629, pp_ne _ _ (Or.inr (by decide))]; exact e8620
        have e8635 : I8629 (ad g 44) 3 = v8614 := by rw [eI8629, pp_ne _ _ (Or.inr (by decide))]; exact e8621
        have e8636 : I8629 (ad g 44) 4 = v8628 := by rw [eI8629, pp_self]
        have fr8637 : fz 74 g [44] I I8629 := by rw [eI8629]; exact fzx_pp hy fr8622 (by decide) (by decide)
        clear eI8629
        refine WP_aload_n dX6_load_134 rfl ?_
        refine WP_iload dX6_load_135 rfl ?_
        refine WQ_if_eq 144 dX6_load_137 rfl (fun c8637 => ?_) (fun c8637 => False.elim (by omega))
        refine WP_aload_n dX6_load_144 rfl ?_
        refine WQ_getim dX6_load_145 fX6_36 rfl (lyx_is hy 44 6 rfl) e8633 ?_
        refine WQ_puti dX6_load_148 fX6_54 rfl rfl (lyx_is hy 44 6 rfl) (fun I8639 eI8639 => ?_)
        have hI8639 : XI g n L I8639 := by rw [eI8639]; exact (xi_f hy hI8629 (c := 44) (0) (0) (3) (by decide) (Or.inl (by decide)) (by decide) (by omega) (by omega))
        have e8640 : I8639 (ad g 1) 1 = L := by rw [eI8639, pp_ne _ _ (Or.inl (lyx_ne hy (by decide) (by decide) (by decide)))]; exact e8630
        have e8641 : I8639 (ad g 6) 4 = v8360 := by rw [eI8639, pp_ne _ _ (Or.inl (lyx_ne hy (by decide) (by decide) (by decide)))]; exact e8631
        have e8642 : I8639 (ad g 44) 0 = v8367 := by rw [eI8639, pp_ne _ _ (Or.inr (by decide))]; exact e8632
        have e8643 : I8639 (ad g 44) 1 = v8373 := by rw [eI8639, pp_ne _ _ (Or.inr (by decide))]; exact e8633
        have e8644 : I8639 (ad g 44) 2 = v8380 := by rw [eI8639, pp_ne _ _ (Or.inr (by decide))]; exact e8634
        have e8645 : I8639 (ad g 44) 3 = v8614 := by rw [eI8639, pp_ne _ _ (Or.inr (by decide))]; exact e8635
        have e8646 : I8639 (ad g 44) 4 = v8628 := by rw [eI8639, pp_ne _ _ (Or.inr (by decide))]; exact e8636
        have e8647 : I8639 (ad g 44) 5 = v8373 := by rw [eI8639, pp_self]
        have fr8648 : fz 74 g [44] I I8639 := by rw [eI8639]; exact fzx_pp hy fr8637 (by decide) (by decide)
        clear eI8639
        refine WP_aload_n dX6_load_151 rfl ?_
        refine WP_iload dX6_load_152 rfl ?_
        refine WQ_if_ne 163 dX6_load_154 rfl (fun c8648 => False.elim (by omega)) (fun c8648 => ?_)
        refine WP_iload dX6_load_157 rfl ?_
        refine WQ_iconst (-1) (-1) dX6_load_159 rfl rfl (fun v8650 hv8650 => ?_)
        refine WQ_icmp_ne 167 dX6_load_160 rfl (fun c8650 => ?_) (fun c8650 => False.elim (by omega))
        refine WQ_iconst (2) (2) dX6_load_167 rfl rfl (fun v8652 hv8652 => ?_)
        refine WQ_puti dX6_load_168 fX6_57 rfl rfl (lyx_is hy 44 6 rfl) (fun I8653 eI8653 => ?_)
        have hI8653 : XI g n L I8653 := by rw [eI8653]; exact (xi_f hy hI8639 (c := 44) (0) (0) (2) (by decide) (Or.inl (by decide)) (by decide) (by omega) (by omega))
        have e8654 : I8653 (ad g 1) 1 = L := by rw [eI8653, pp_ne _ _ (Or.inl (lyx_ne hy (by decide) (by decide) (by decide)))]; exact e8640
        have e8655 : I8653 (ad g 6) 4 = v8360 := by rw [eI8653, pp_ne _ _ (Or.inl (lyx_ne hy (by decide) (by decide) (by decide)))]; exact e8641
        have e8656 : I8653 (ad g 44) 0 = v8367 := by rw [eI8653, pp_ne _ _ (Or.inr (by decide))]; exact e8642
        have e8657 : I8653 (ad g 44) 1 = v8373 := by rw [eI8653, pp_ne _ _ (Or.inr (by decide))]; exact e8643
        have e8658 : I8653 (ad g 44) 2 = v8380 := by rw [eI8653, pp_ne _ _ (Or.inr (by decide))]; exact e8644
        have e8659 : I8653 (ad g 44) 3 = v8614 := by rw [eI8653, pp_ne _ _ (Or.inr (by decide))]; exact e8645
        have e8660 : I8653 (ad g 44) 4 = v8628 := by rw [eI8653, pp_ne _ _ (Or.inr (by decide))]; exact e8646
        have e8661 : I8653 (ad g 44) 5 = v8373 := by rw [eI8653, pp_ne _ _ (Or.inr (by decide))]; exact e8647
        have e8662 : I8653 (ad g 44) 6 = v8652 := by rw [eI8653, pp_self]
        have fr8663 : fz 74 g [44] I I8653 := by rw [eI8653]; exact fzx_pp hy fr8648 (by decide) (by decide)
        clear eI8653
        refine WP_aload_n dX6_load_171 rfl ?_
        refine WP_aload_n dX6_load_172 rfl ?_
        refine WQ_getim dX6_load_173 fX6_9 rfl (lyx_is hy 44 6 rfl) e8656 ?_
        refine WQ_iconst (-1) (-1) dX6_load_176 rfl rfl (fun v8664 hv8664 => ?_)
        refine WQ_icmp_eq 193 dX6_load_177 rfl (fun c8664 => ?_) (fun c8664 => False.elim (by omega))
        refine WQ_iconst (0) (0) dX6_load_193 rfl rfl (fun v8666 hv8666 => ?_)
        refine WQ_putz dX6_load_194 fX6_60 rfl rfl (by omega) (lyx_is hy 44 6 rfl) (fun I8667 eI8667 => ?_)
        have hI8667 : XI g n L I8667 := by rw [eI8667]; exact (xi_f hy hI8653 (c := 44) (0) (0) (1) (by decide) (Or.inl (by decide)) (by decide) (by omega) (by omega))
        have e8668 : I8667 (ad g 1) 1 = L := by rw [eI8667, pp_ne _ _ (Or.inl (lyx_ne hy (by decide) (by decide) (by decide)))]; exact e8654
        have e8669 : I8667 (ad g 6) 4 = v8360 := by rw [eI8667, pp_ne _ _ (Or.inl (lyx_ne hy (by decide) (by decide) (by decide)))]; exact e8655
        have e8670 : I8667 (ad g 44) 0 = v8367 := by rw [eI8667, pp_ne _ _ (Or.inr (by decide))]; exact e8656
        have e8671 : I8667 (ad g 44) 1 = v8373 := by rw [eI8667, pp_ne _ _ (Or.inr (by decide))]; exact e8657
        have e8672 : I8667 (ad g 44) 2 = v8380 := by rw [eI8667, pp_ne _ _ (Or.inr (by decide))]; exact e8658
        have e8673 : I8667 (ad g 44) 3 = v8614 := by rw [eI8667, pp_ne _ _ (Or.inr (by decide))]; exact e8659
        have e8674 : I8667 (ad g 44) 4 = v8628 := by rw [eI8667, pp_ne _ _ (Or.inr (by decide))]; exact e8660
        have e8675 : I8667 (ad g 44) 5 = v8373 := by rw [eI8667, pp_ne _ _ (Or.inr (by decide))]; exact e8661
        have e8676 : I8667 (ad g 44) 6 = v8652 := by rw [eI8667, pp_ne _ _ (Or.inr (by decide))]; exact e8662
        have e8677 : I8667 (ad g 44) 7 = v8666 := by rw [eI8667, pp_self]
        have fr8678 : fz 74 g [44] I I8667 := by rw [eI8667]; exact fzx_pp hy fr8663 (by decide) (by decide)
        clear eI8667
        refine WP_aload_n dX6_load_197 rfl ?_
        refine WP_aload_n dX6_load_198 rfl ?_
        refine WP_getr dX6_load_199 fX6_64 rfl (lyx_is hy 5 0 rfl) (rfx hr 5 2 23 (by decide)) ?_
        refine WP_iload_n dX6_load_202 rfl ?_
        refine WQ_iald dX6_load_203 (lyx_is hy 23 13 rfl) (lyx_n hy 23 7 rfl) (by omega) (by omega) (fun q hq => BT_get hI8667.1 23 0 7 (0) (0) (900) (by decide) q (Nat.zero_le _) hq) (fun v8679 av8679 bv8679 ev8679 => ?_)
        clear ev8679
        refine WQ_if_le 211 dX6_load_204 rfl (fun c8679 => ?_) (fun c8679 => ?_)
        · refine WQ_iconst (0) (0) dX6_load_211 rfl rfl (fun v8681 hv8681 => ?_)
          refine WQ_putz dX6_load_212 fX6_67 rfl rfl (by omega) (lyx_is hy 44 6 rfl) (fun I8682 eI8682 => ?_)
          have hI8682 : XI g n L I8682 := by rw [eI8682]; exact (xi_f hy hI8667 (c := 44) (0) (0) (1) (by decide) (Or.inl (by decide)) (by decide) (by omega) (by omega))
          have e8683 : I8682 (ad g 1) 1 = L := by rw [eI8682, pp_ne _ _ (Or.inl (lyx_ne hy (by decide) (by decide) (by decide)))]; exact e8668
          have e8684 : I8682 (ad g 6) 4 = v8360 := by rw [eI8682, pp_ne _ _ (Or.inl (lyx_ne hy (by decide) (by decide) (by decide)))]; exact e8669
          have e8685 : I8682 (ad g 44) 0 = v8367 := by rw [eI8682, pp_ne _ _ (Or.inr (by decide))]; exact e8670
          have e8686 : I8682 (ad g 44) 1 = v8373 := by rw [eI8682, pp_ne _ _ (Or.inr (by decide))]; exact e8671
          have e8687 : I8682 (ad g 44) 2 = v8380 := by rw [eI8682, pp_ne _ _ (Or.inr (by decide))]; exact e8672
          have e8688 : I8682 (ad g 44) 3 = v8614 := by rw [eI8682, pp_ne _ _ (Or.inr (by decide))]; exact e8673
          have e8689 : I8682 (ad g 44) 4 = v8628 := by rw [eI8682, pp_ne _ _ (Or.inr (by decide))]; exact e8674
          have e8690 : I8682 (ad g 44) 5 = v8373 := by rw [eI8682, pp_ne _ _ (Or.inr (by decide))]; exact e8675
          have e8691 : I8682 (ad g 44) 6 = v8652 := by rw [eI8682, pp_ne _ _ (Or.inr (by decide))]; exact e8676
          have e8692 : I8682 (ad g 44) 7 = v8666 := by rw [eI8682, pp_ne _ _ (Or.inr (by decide))]; exact e8677
          have e8693 : I8682 (ad g 44) 8 = v8681 := by rw [eI8682, pp_self]
          have fr8694 : fz 74 g [44] I I8682 := by rw [eI8682]; exact fzx_pp hy fr8678 (by decide) (by decide)
          clear eI8682
          exact WP_vret dX6_load_215 rfl ⟨⟨hI8682, rfl, fr8694, rfl, (by
                have yill : I (ad g (6 + 5)) so.toInt.toNat >>> (nI da.toInt.toNat &&& 31) &&& 1 = v8364 := by rw [show I (ad g (6 + 5)) so.toInt.toNat = v8361 from yv8361, show nI da.toInt.toNat = da from (eq32 _ _).mpr (by rw [nI_toInt (by omega)]; omega), xv8364, xv8362, (eq32 v8363 1).mpr hv8363]
                have yst : I (ad g 6) 4 = v8360 := est
                unfold LD
                simp only [e8685, e8686, e8687, e8688, e8689, e8690, e8691, e8692, yill, yst, show I (ad g (6 + 7)) _ = _ from yv8367, show I (ad g (6 + 8)) _ = _ from yv8373, show I (ad g (6 + 9)) _ = _ from yv8380, yv8628, true_and, and_true]
                omega)⟩, rfl⟩
        · refine WQ_iconst (1) (1) dX6_load_207 rfl rfl (fun v8695 hv8695 => ?_)
          refine WP_goto 212 dX6_load_208 rfl ?_
          refine WQ_putz dX6_load_212 fX6_67 rfl rfl (by omega) (lyx_is hy 44 6 rfl) (fun I8696 eI8696 => ?_)
          have hI8696 : XI g n L I8696 := by rw [eI8696]; exact (xi_f hy hI8667 (c := 44) (0) (0) (1) (by decide) (Or.inl (by decide)) (by decide) (by omega) (by omega))
          have e8697 : I8696 (ad g 1) 1 = L := by rw [eI8696, pp_ne _ _ (Or.inl (lyx_ne hy (by decide) (by decide) (by decide)))]; exact e8668
          have e8698 : I8696 (ad g 6) 4 = v8360 := by rw [eI8696, pp_ne _ _ (Or.inl (lyx_ne hy (by decide) (by decide) (by decide)))]; exact e8669
          have e8699 : I8696 (ad g 44) 0 = v8367 := by rw [eI8696, pp_ne _ _ (Or.inr (by decide))]; exact e8670
          have e8700 : I8696 (ad g 44) 1 = v8373 := by rw [eI8696, pp_ne _ _ (Or.inr (by decide))]; exact e8671
          have e8701 : I8696 (ad g 44) 2 = v8380 := by rw [eI8696, pp_ne _ _ (Or.inr (by decide))]; exact e8672
          have e8702 : I8696 (ad g 44) 3 = v8614 := by rw [eI8696, pp_ne _ _ (Or.inr (by decide))]; exact e8673
          have e8703 : I8696 (ad g 44) 4 = v8628 := by rw [eI8696, pp_ne _ _ (Or.inr (by decide))]; exact e8674
          have e8704 : I8696 (ad g 44) 5 = v8373 := by rw [eI8696, pp_ne _ _ (Or.inr (by decide))]; exact e8675
          have e8705 : I8696 (ad g 44) 6 = v8652 := by rw [eI8696, pp_ne _ _ (Or.inr (by decide))]; exact e8676
          have e8706 : I8696 (ad g 44) 7 = v8666 := by rw [eI8696, pp_ne _ _ (Or.inr (by decide))]; exact e8677
          have e8707 : I8696 (ad g 44) 8 = v8695 := by rw [eI8696, pp_self]
          have fr8708 : fz 74 g [44] I I8696 := by rw [eI8696]; exact fzx_pp hy fr8678 (by decide) (by decide)
          clear eI8696
          exact WP_vret dX6_load_215 rfl ⟨⟨hI8696, rfl, fr8708, rfl, (by
                have yill : I (ad g (6 + 5)) so.toInt.toNat >>> (nI da.toInt.toNat &&& 31) &&& 1 = v8364 := by rw [show I (ad g (6 + 5)) so.toInt.toNat = v8361 from yv8361, show nI da.toInt.toNat = da from (eq32 _ _).mpr (by rw [nI_toInt (by omega)]; omega), xv8364, xv8362, (eq32 v8363 1).mpr hv8363]
                have yst : I (ad g 6) 4 = v8360 := est
                unfold LD
                simp only [e8699, e8700, e8701, e8702, e8703, e8704, e8705, e8706, yill, yst, show I (ad g (6 + 7)) _ = _ from yv8367, show I (ad g (6 + 8)) _ = _ from yv8373, show I (ad g (6 + 9)) _ = _ from yv8380, yv8628, true_and, and_true]
                omega)⟩, rfl⟩
      · refine WQ_iconst (0) (0) dX6_load_115 rfl rfl (fun v8709 hv8709 => ?_)
        refine WP_goto 131 dX6_load_116 rfl ?_
        refine WQ_puti dX6_load_131 fX6_51 rfl rfl (lyx_is hy 44 6 rfl) (fun I8710 eI8710 => ?_)
        have hI8710 : XI g n L I8710 := by rw [eI8710]; exact (xi_f hy hI8615 (c := 44) (0) (0) (20) (by decide) (Or.inl (by decide)) (by decide) (by omega) (by omega))
        have e8711 : I8710 (ad g 1) 1 = L := by rw [eI8710, pp_ne _ _ (Or.inl (lyx_ne hy (by decide) (by decide) (by decide)))]; exact e8616
        have e8712 : I8710 (ad g 6) 4 = v8360 := by rw [eI8710, pp_ne _ _ (Or.inl (lyx_ne hy (by decide) (by decide) (by decide)))]; exact e8617
        have e8713 : I8710 (ad g 44) 0 = v8367 := by rw [eI8710, pp_ne _ _ (Or.inr (by decide))]; exact e8618
        have e8714 : I8710 (ad g 44) 1 = v8373 := by rw [eI8710, pp_ne _ _ (Or.inr (by decide))]; exact e8619
        have e8715 : I8710 (ad g 44) 2 = v8380 := by rw [eI8710, pp_ne _ _ (Or.inr (by decide))]; exact e8620
        have e8716 : I8710 (ad g 44) 3 = v8614 := by rw [eI8710, pp_ne _ _ (Or.inr (by decide))]; exact e8621
        have e8717 : I8710 (ad g 44) 4 = v8709 := by rw [eI8710, pp_self]
        have fr8718 : fz 74 g [44] I I8710 := by rw [eI8710]; exact fzx_pp hy fr8622 (by decide) (by decide)
        clear eI8710
        refine WP_aload_n dX6_load_134 rfl ?_
        refine WP_iload dX6_load_135 rfl ?_
        refine WQ_if_eq 144 dX6_load_137 rfl (fun c8718 => ?_) (fun c8718 => False.elim (by omega))
        refine WP_aload_n dX6_load_144 rfl ?_
        refine WQ_getim dX6_load_145 fX6_36 rfl (lyx_is hy 44 6 rfl) e8714 ?_
        refine WQ_puti dX6_load_148 fX6_54 rfl rfl (lyx_is hy 44 6 rfl) (fun I8720 eI8720 => ?_)
        have hI8720 : XI g n L I8720 := by rw [eI8720]; exact (xi_f hy hI8710 (c := 44) (0) (0) (3) (by decide) (Or.inl (by decide)) (by decide) (by omega) (by omega))
        have e8721 : I8720 (ad g 1) 1 = L := by rw [eI8720, pp_ne _ _ (Or.inl (lyx_ne hy (by decide) (by decide) (by decide)))]; exact e8711
        have e8722 : I8720 (ad g 6) 4 = v8360 := by rw [eI8720, pp_ne _ _ (Or.inl (lyx_ne hy (by decide) (by decide) (by decide)))]; exact e8712
        have e8723 : I8720 (ad g 44) 0 = v8367 := by rw [eI8720, pp_ne _ _ (Or.inr (by decide))]; exact e8713
        have e8724 : I8720 (ad g 44) 1 = v8373 := by rw [eI8720, pp_ne _ _ (Or.inr (by decide))]; exact e8714
        have e8725 : I8720 (ad g 44) 2 = v8380 := by rw [eI8720, pp_ne _ _ (Or.inr (by decide))]; exact e8715
        have e8726 : I8720 (ad g 44) 3 = v8614 := by rw [eI8720, pp_ne _ _ (Or.inr (by decide))]; exact e8716
        have e8727 : I8720 (ad g 44) 4 = v8709 := by rw [eI8720, pp_ne _ _ (Or.inr (by decide))]; exact e8717
        have e8728 : I8720 (ad g 44) 5 = v8373 := by rw [eI8720, pp_self]
        have fr8729 : fz 74 g [44] I I8720 := by rw [eI8720]; exact fzx_pp hy fr8718 (by decide) (by decide)
        clear eI8720
        refine WP_aload_n dX6_load_151 rfl ?_
        refine WP_iload dX6_load_152 rfl ?_
        refine WQ_if_ne 163 dX6_load_154 rfl (fun c8729 => False.elim (by omega)) (fun c8729 => ?_)
        refine WP_iload dX6_load_157 rfl ?_
        refine WQ_iconst (-1) (-1) dX6_load_159 rfl rfl (fun v8731 hv8731 => ?_)
        refine WQ_icmp_ne 167 dX6_load_160 rfl (fun c8731 => False.elim (by omega)) (fun c8731 => ?_)
        refine WQ_iconst (0) (0) dX6_load_163 rfl rfl (fun v8733 hv8733 => ?_)
        refine WP_goto 168 dX6_load_164 rfl ?_
        refine WQ_puti dX6_load_168 fX6_57 rfl rfl (lyx_is hy 44 6 rfl) (fun I8734 eI8734 => ?_)
        have hI8734 : XI g n L I8734 := by rw [eI8734]; exact (xi_f hy hI8720 (c := 44) (0) (0) (2) (by decide) (Or.inl (by decide)) (by decide) (by omega) (by omega))
        have e8735 : I8734 (ad g 1) 1 = L := by rw [eI8734, pp_ne _ _ (Or.inl (lyx_ne hy (by decide) (by decide) (by decide)))]; exact e8721
        have e8736 : I8734 (ad g 6) 4 = v8360 := by rw [eI8734, pp_ne _ _ (Or.inl (lyx_ne hy (by decide) (by decide) (by decide)))]; exact e8722
        have e8737 : I8734 (ad g 44) 0 = v8367 := by rw [eI8734, pp_ne _ _ (Or.inr (by decide))]; exact e8723
        have e8738 : I8734 (ad g 44) 1 = v8373 := by rw [eI8734, pp_ne _ _ (Or.inr (by decide))]; exact e8724
        have e8739 : I8734 (ad g 44) 2 = v8380 := by rw [eI8734, pp_ne _ _ (Or.inr (by decide))]; exact e8725
        have e8740 : I8734 (ad g 44) 3 = v8614 := by rw [eI8734, pp_ne _ _ (Or.inr (by decide))]; exact e8726
        have e8741 : I8734 (ad g 44) 4 = v8709 := by rw [eI8734, pp_ne _ _ (Or.inr (by decide))]; exact e8727
        have e8742 : I8734 (ad g 44) 5 = v8373 := by rw [eI8734, pp_ne _ _ (Or.inr (by decide))]; exact e8728
        have e8743 : I8734 (ad g 44) 6 = v8733 := by rw [eI8734, pp_self]
        have fr8744 : fz 74 g [44] I I8734 := by rw [eI8734]; exact fzx_pp hy fr8729 (by decide) (by decide)
        clear eI8734
        refine WP_aload_n dX6_load_171 rfl ?_
        refine WP_aload_n dX6_load_172 rfl ?_
        refine WQ_getim dX6_load_173 fX6_9 rfl (lyx_is hy 44 6 rfl) e8737 ?_
        refine WQ_iconst (-1) (-1) dX6_load_176 rfl rfl (fun v8745 hv8745 => ?_)
        refine WQ_icmp_eq 193 dX6_load_177 rfl (fun c8745 => ?_) (fun c8745 => False.elim (by omega))
        refine WQ_iconst (0) (0) dX6_load_193 rfl rfl (fun v8747 hv8747 => ?_)
        refine WQ_putz dX6_load_194 fX6_60 rfl rfl (by omega) (lyx_is hy 44 6 rfl) (fun I8748 eI8748 => ?_)
        have hI8748 : XI g n L I8748 := by rw [eI8748]; exact (xi_f hy hI8734 (c := 44) (0) (0) (1) (by decide) (Or.inl (by decide)) (by decide) (by omega) (by omega))
        have e8749 : I8748 (ad g 1) 1 = L := by rw [eI8748, pp_ne _ _ (Or.inl (lyx_ne hy (by decide) (by decide) (by decide)))]; exact e8735
        have e8750 : I8748 (ad g 6) 4 = v8360 := by rw [eI8748, pp_ne _ _ (Or.inl (lyx_ne hy (by decide) (by decide) (by decide)))]; exact e8736
        have e8751 : I8748 (ad g 44) 0 = v8367 := by rw [eI8748, pp_ne _ _ (Or.inr (by decide))]; exact e8737
        have e8752 : I8748 (ad g 44) 1 = v8373 := by rw [eI8748, pp_ne _ _ (Or.inr (by decide))]; exact e8738
        have e8753 : I8748 (ad g 44) 2 = v8380 := by rw [eI8748, pp_ne _ _ (Or.inr (by decide))]; exact e8739
        have e8754 : I8748 (ad g 44) 3 = v8614 := by rw [eI8748, pp_ne _ _ (Or.inr (by decide))]; exact e8740
        have e8755 : I8748 (ad g 44) 4 = v8709 := by rw [eI8748, pp_ne _ _ (Or.inr (by decide))]; exact e8741
        have e8756 : I8748 (ad g 44) 5 = v8373 := by rw [eI8748, pp_ne _ _ (Or.inr (by decide))]; exact e8742
        have e8757 : I8748 (ad g 44) 6 = v8733 := by rw [eI8748, pp_ne _ _ (Or.inr (by decide))]; exact e8743
        have e8758 : I8748 (ad g 44) 7 = v8747 := by rw [eI8748, pp_self]
        have fr8759 : fz 74 g [44] I I8748 := by rw [eI8748]; exact fzx_pp hy fr8744 (by decide) (by decide)
        clear eI8748
        refine WP_aload_n dX6_load_197 rfl ?_
        refine WP_aload_n dX6_load_198 rfl ?_
        refine WP_getr dX6_load_199 fX6_64 rfl (lyx_is hy 5 0 rfl) (rfx hr 5 2 23 (by decide)) ?_
        refine WP_iload_n dX6_load_202 rfl ?_
        refine WQ_iald dX6_load_203 (lyx_is hy 23 13 rfl) (lyx_n hy 23 7 rfl) (by omega) (by omega) (fun q hq => BT_get hI8748.1 23 0 7 (0) (0) (900) (by decide) q (Nat.zero_le _) hq) (fun v8760 av8760 bv8760 ev8760 => ?_)
        clear ev8760
        refine WQ_if_le 211 dX6_load_204 rfl (fun c8760 => ?_) (fun c8760 => ?_)
        · refine WQ_iconst (0) (0) dX6_load_211 rfl rfl (fun v8762 hv8762 => ?_)
          refine WQ_putz dX6_load_212 fX6_67 rfl rfl (by omega) (lyx_is hy 44 6 rfl) (fun I8763 eI8763 => ?_)
          have hI8763 : XI g n L I8763 := by rw [eI8763]; exact (xi_f hy hI8748 (c := 44) (0) (0) (1) (by decide) (Or.inl (by decide)) (by decide) (by omega) (by omega))
          have e8764 : I8763 (ad g 1) 1 = L := by rw [eI8763, pp_ne _ _ (Or.inl (lyx_ne hy (by decide) (by decide) (by decide)))]; exact e8749
          have e8765 : I8763 (ad g 6) 4 = v8360 := by rw [eI8763, pp_ne _ _ (Or.inl (lyx_ne hy (by decide) (by decide) (by decide)))]; exact e8750
          have e8766 : I8763 (ad g 44) 0 = v8367 := by rw [eI8763, pp_ne _ _ (Or.inr (by decide))]; exact e8751
          have e8767 : I8763 (ad g 44) 1 = v8373 := by rw [eI8763, pp_ne _ _ (Or.inr (by decide))]; exact e8752
          have e8768 : I8763 (ad g 44) 2 = v8380 := by rw [eI8763, pp_ne _ _ (Or.inr (by decide))]; exact e8753
          have e8769 : I8763 (ad g 44) 3 = v8614 := by rw [eI8763, pp_ne _ _ (Or.inr (by decide))]; exact e8754
          have e8770 : I8763 (ad g 44) 4 = v8709 := by rw [eI8763, pp_ne _ _ (Or.inr (by decide))]; exact e8755
          have e8771 : I8763 (ad g 44) 5 = v8373 := by rw [eI8763, pp_ne _ _ (Or.inr (by decide))]; exact e8756
          have e8772 : I8763 (ad g 44) 6 = v8733 := by rw [eI8763, pp_ne _ _ (Or.inr (by decide))]; exact e8757
          have e8773 : I8763 (ad g 44) 7 = v8747 := by rw [eI8763, pp_ne _ _ (Or.inr (by decide))]; exact e8758
          have e8774 : I8763 (ad g 44) 8 = v8762 := by rw [eI8763, pp_self]
          have fr8775 : fz 74 g [44] I I8763 := by rw [eI8763]; exact fzx_pp hy fr8759 (by decide) (by decide)
          clear eI8763
          exact WP_vret dX6_load_215 rfl ⟨⟨hI8763, rfl, fr8775, rfl, (by
                have yill : I (ad g (6 + 5)) so.toInt.toNat >>> (nI da.toInt.toNat &&& 31) &&& 1 = v8364 := by rw [show I (ad g (6 + 5)) so.toInt.toNat = v8361 from yv8361, show nI da.toInt.toNat = da from (eq32 _ _).mpr (by rw [nI_toInt (by omega)]; omega), xv8364, xv8362, (eq32 v8363 1).mpr hv8363]
                have yst : I (ad g 6) 4 = v8360 := est
                unfold LD
                simp only [e8766, e8767, e8768, e8769, e8770, e8771, e8772, e8773, yill, yst, show I (ad g (6 + 7)) _ = _ from yv8367, show I (ad g (6 + 8)) _ = _ from yv8373, show I (ad g (6 + 9)) _ = _ from yv8380, true_and, and_true]
                omega)⟩, rfl⟩
        · refine WQ_iconst (1) (1) dX6_load_207 rfl rfl (fun v8776 hv8776 => ?_)
          refine WP_goto 212 dX6_load_208 rfl ?_
          refine WQ_putz dX6_load_212 fX6_67 rfl rfl (by omega) (lyx_is hy 44 6 rfl) (fun I8777 eI8777 => ?_)
          have hI8777 : XI g n L I8777 := by rw [eI8777]; exact (xi_f hy hI8748 (c := 44) (0) (0) (1) (by decide) (Or.inl (by decide)) (by decide) (by omega) (by omega))
          have e8778 : I8777 (ad g 1) 1 = L := by rw [eI8777, pp_ne _ _ (Or.inl (lyx_ne hy (by decide) (by decide) (by decide)))]; exact e8749
          have e8779 : I8777 (ad g 6) 4 = v8360 := by rw [eI8777, pp_ne _ _ (Or.inl (lyx_ne hy (by decide) (by decide) (by decide)))]; exact e8750
          have e8780 : I8777 (ad g 44) 0 = v8367 := by rw [eI8777, pp_ne _ _ (Or.inr (by decide))]; exact e8751
          have e8781 : I8777 (ad g 44) 1 = v8373 := by rw [eI8777, pp_ne _ _ (Or.inr (by decide))]; exact e8752
          have e8782 : I8777 (ad g 44) 2 = v8380 := by rw [eI8777, pp_ne _ _ (Or.inr (by decide))]; exact e8753
          have e8783 : I8777 (ad g 44) 3 = v8614 := by rw [eI8777, pp_ne _ _ (Or.inr (by decide))]; exact e8754
          have e8784 : I8777 (ad g 44) 4 = v8709 := by rw [eI8777, pp_ne _ _ (Or.inr (by decide))]; exact e8755
          have e8785 : I8777 (ad g 44) 5 = v8373 := by rw [eI8777, pp_ne _ _ (Or.inr (by decide))]; exact e8756
          have e8786 : I8777 (ad g 44) 6 = v8733 := by rw [eI8777, pp_ne _ _ (Or.inr (by decide))]; exact e8757
          have e8787 : I8777 (ad g 44) 7 = v8747 := by rw [eI8777, pp_ne _ _ (Or.inr (by decide))]; exact e8758
          have e8788 : I8777 (ad g 44) 8 = v8776 := by rw [eI8777, pp_self]
          have fr8789 : fz 74 g [44] I I8777 := by rw [eI8777]; exact fzx_pp hy fr8759 (by decide) (by decide)
          clear eI8777
          exact WP_vret dX6_load_215 rfl ⟨⟨hI8777, rfl, fr8789, rfl, (by
                have yill : I (ad g (6 + 5)) so.toInt.toNat >>> (nI da.toInt.toNat &&& 31) &&& 1 = v8364 := by rw [show I (ad g (6 + 5)) so.toInt.toNat = v8361 from yv8361, show nI da.toInt.toNat = da from (eq32 _ _).mpr (by rw [nI_toInt (by omega)]; omega), xv8364, xv8362, (eq32 v8363 1).mpr hv8363]
                have yst : I (ad g 6) 4 = v8360 := est
                unfold LD
                simp only [e8780, e8781, e8782, e8783, e8784, e8785, e8786, e8787, yill, yst, show I (ad g (6 + 7)) _ = _ from yv8367, show I (ad g (6 + 8)) _ = _ from yv8373, show I (ad g (6 + 9)) _ = _ from yv8380, true_and, and_true]
                omega)⟩, rfl⟩
  · refine WQ_iconst (1) (1) dX6_load_35 rfl rfl (fun v8790 hv8790 => ?_)
    refine WP_goto 40 dX6_load_36 rfl ?_
    refine WP_istore (ls' := [(0, _), (1, _), (2, _), (3, _), (4, _), (5, _), (6, _), (7, _)]) dX6_load_40 (by decide) rfl ?_
    refine WP_aload_n dX6_load_42 rfl ?_
    refine WP_aload dX6_load_43 rfl ?_
    refine WP_getr dX6_load_45 fX6_30 rfl (lyx_is hy 6 7 rfl) (rfx hr 6 11 13 (by decide)) ?_
    refine WP_iload dX6_load_48 rfl ?_
    refine WQ_ialdb dX6_load_50 (lyx_is hy 13 13 rfl) (lyx_n hy 13 28 rfl) (by omega) (by omega) (fun q hq => BT_get hI.1 13 0 28 (-1) (0) (2) (by decide) q (Nat.zero_le _) hq) (fun v8791 av8791 bv8791 zv8791 => ?_)
    have yv8791 : I (ad g 13) (7 * so.toInt + da.toInt).toNat = v8791 := by rw [← fz_at fr0 13 (by decide) (by decide), show (7 * so.toInt + da.toInt).toNat = v8359.toInt.toNat by omega]; exact zv8791
    refine WQ_puti dX6_load_51 fX6_9 rfl rfl (lyx_is hy 44 6 rfl) (fun I8792 eI8792 => ?_)
    have hI8792 : XI g n L I8792 := by rw [eI8792]; exact (xi_f hy hI (c := 44) (-1) (0) (2) (by decide) (Or.inl (by decide)) (by decide) (by omega) (by omega))
    have e8793 : I8792 (ad g 1) 1 = L := by rw [eI8792, pp_ne _ _ (Or.inl (lyx_ne hy (by decide) (by decide) (by decide)))]; exact e8355
    have e8794 : I8792 (ad g 6) 4 = v8360 := by rw [eI8792, pp_ne _ _ (Or.inl (lyx_ne hy (by decide) (by decide) (by decide)))]; exact ev8360
    have e8795 : I8792 (ad g 44) 0 = v8791 := by rw [eI8792, pp_self]
    have fr8796 : fz 74 g [44] I I8792 := by rw [eI8792]; exact fzx_pp hy fr0 (by decide) (by decide)
    clear eI8792
    refine WP_aload_n dX6_load_54 rfl ?_
    refine WP_aload dX6_load_55 rfl ?_
    refine WP_getr dX6_load_57 fX6_33 rfl (lyx_is hy 6 7 rfl) (rfx hr 6 12 14 (by decide)) ?_
    refine WP_iload dX6_load_60 rfl ?_
    refine WQ_ialdb dX6_load_62 (lyx_is hy 14 13 rfl) (lyx_n hy 14 28 rfl) (by omega) (by omega) (fun q hq => BT_get hI8792.1 14 0 28 (0) (0) (3) (by decide) q (Nat.zero_le _) hq) (fun v8797 av8797 bv8797 zv8797 => ?_)
    have yv8797 : I (ad g 14) (7 * so.toInt + da.toInt).toNat = v8797 := by rw [← fz_at fr8796 14 (by decide) (by decide), show (7 * so.toInt + da.toInt).toNat = v8359.toInt.toNat by omega]; exact zv8797
    refine WQ_puti dX6_load_63 fX6_36 rfl rfl (lyx_is hy 44 6 rfl) (fun I8798 eI8798 => ?_)
    have hI8798 : XI g n L I8798 := by rw [eI8798]; exact (xi_f hy hI8792 (c := 44) (0) (0) (3) (by decide) (Or.inl (by decide)) (by decide) (by omega) (by omega))
    have e8799 : I8798 (ad g 1) 1 = L := by rw [eI8798, pp_ne _ _ (Or.inl (lyx_ne hy (by decide) (by decide) (by decide)))]; exact e8793
    have e8800 : I8798 (ad g 6) 4 = v8360 := by rw [eI8798, pp_ne _ _ (Or.inl (lyx_ne hy (by decide) (by decide) (by decide)))]; exact e8794
    have e8801 : I8798 (ad g 44) 0 = v8791 := by rw [eI8798, pp_ne _ _ (Or.inr (by decide))]; exact e8795
    have e8802 : I8798 (ad g 44) 1 = v8797 := by rw [eI8798, pp_self]
    have fr8803 : fz 74 g [44] I I8798 := by rw [eI8798]; exact fzx_pp hy fr8796 (by decide) (by decide)
    clear eI8798
    refine WP_aload_n dX6_load_66 rfl ?_
    refine WP_aload dX6_load_67 rfl ?_
    refine WP_getr dX6_load_69 fX6_39 rfl (lyx_is hy 6 7 rfl) (rfx hr 6 13 15 (by decide)) ?_
    refine WP_iload dX6_load_72 rfl ?_
    refine WQ_ialdb dX6_load_74 (lyx_is hy 15 13 rfl) (lyx_n hy 15 28 rfl) (by omega) (by omega) (fun q hq => BT_get hI8798.1 15 0 28 (0) (0) (99) (by decide) q (Nat.zero_le _) hq) (fun v8804 av8804 bv8804 zv8804 => ?_)
    have yv8804 : I (ad g 15) (7 * so.toInt + da.toInt).toNat = v8804 := by rw [← fz_at fr8803 15 (by decide) (by decide), show (7 * so.toInt + da.toInt).toNat = v8359.toInt.toNat by omega]; exact zv8804
    refine WQ_puti dX6_load_75 fX6_42 rfl rfl (lyx_is hy 44 6 rfl) (fun I8805 eI8805 => ?_)
    have hI8805 : XI g n L I8805 := by rw [eI8805]; exact (xi_f hy hI8798 (c := 44) (0) (0) (99) (by decide) (Or.inl (by decide)) (by decide) (by omega) (by omega))
    have e8806 : I8805 (ad g 1) 1 = L := by rw [eI8805, pp_ne _ _ (Or.inl (lyx_ne hy (by decide) (by decide) (by decide)))]; exact e8799
    have e8807 : I8805 (ad g 6) 4 = v8360 := by rw [eI8805, pp_ne _ _ (Or.inl (lyx_ne hy (by decide) (by decide) (by decide)))]; exact e8800
    have e8808 : I8805 (ad g 44) 0 = v8791 := by rw [eI8805, pp_ne _ _ (Or.inr (by decide))]; exact e8801
    have e8809 : I8805 (ad g 44) 1 = v8797 := by rw [eI8805, pp_ne _ _ (Or.inr (by decide))]; exact e8802
    have e8810 : I8805 (ad g 44) 2 = v8804 := by rw [eI8805, pp_self]
    have fr8811 : fz 74 g [44] I I8805 := by rw [eI8805]; exact fzx_pp hy fr8803 (by decide) (by decide)
    clear eI8805
    refine WP_aload_n dX6_load_78 rfl ?_
    refine WP_aload_n dX6_load_79 rfl ?_
    refine WQ_getim dX6_load_80 fX6_9 rfl (lyx_is hy 44 6 rfl) e8808 ?_
    refine WQ_iconst (-1) (-1) dX6_load_83 rfl rfl (fun v8812 hv8812 => ?_)
    refine WQ_icmp_ne 91 dX6_load_84 rfl (fun c8812 => ?_) (fun c8812 => ?_)
    · refine WP_aload_n dX6_load_91 rfl ?_
      refine WP_getr dX6_load_92 fX6_45 rfl (lyx_is hy 5 0 rfl) (rfx hr 5 1 22 (by decide)) ?_
      refine WP_aload_n dX6_load_95 rfl ?_
      refine WQ_getim dX6_load_96 fX6_9 rfl (lyx_is hy 44 6 rfl) e8808 ?_
      refine WQ_bipush (7) (7) dX6_load_99 rfl rfl (fun v8814 hv8814 => ?_)
      refine WQ_imulk (7) dX6_load_101 hv8814 (by omega) (by omega) (fun v8815 hv8815 => ?_)
      refine WP_iload_n dX6_load_102 rfl ?_
      refine WQ_iadd dX6_load_103 (by omega) (by omega) (fun v8816 hv8816 => ?_)
      refine WQ_ialdb dX6_load_104 (lyx_is hy 22 13 rfl) (lyx_n hy 22 21 rfl) (by omega) (by omega) (fun q hq => BT_get hI8805.1 22 0 21 (0) (0) (20) (by decide) q (Nat.zero_le _) hq) (fun v8817 av8817 bv8817 zv8817 => ?_)
      have yv8817 : I (ad g 22) (7 * v8791.toInt + da.toInt).toNat = v8817 := by rw [← fz_at fr8811 22 (by decide) (by decide), show (7 * v8791.toInt + da.toInt).toNat = v8816.toInt.toNat by omega]; exact zv8817
      refine WQ_puti dX6_load_105 fX6_48 rfl rfl (lyx_is hy 44 6 rfl) (fun I8818 eI8818 => ?_)
      have hI8818 : XI g n L I8818 := by rw [eI8818]; exact (xi_f hy hI8805 (c := 44) (0) (0) (20) (by decide) (Or.inl (by decide)) (by decide) (by omega) (by omega))
      have e8819 : I8818 (ad g 1) 1 = L := by rw [eI8818, pp_ne _ _ (Or.inl (lyx_ne hy (by decide) (by decide) (by decide)))]; exact e8806
      have e8820 : I8818 (ad g 6) 4 = v8360 := by rw [eI8818, pp_ne _ _ (Or.inl (lyx_ne hy (by decide) (by decide) (by decide)))]; exact e8807
      have e8821 : I8818 (ad g 44) 0 = v8791 := by rw [eI8818, pp_ne _ _ (Or.inr (by decide))]; exact e8808
      have e8822 : I8818 (ad g 44) 1 = v8797 := by rw [eI8818, pp_ne _ _ (Or.inr (by decide))]; exact e8809
      have e8823 : I8818 (ad g 44) 2 = v8804 := by rw [eI8818, pp_ne _ _ (Or.inr (by decide))]; exact e8810
      have e8824 : I8818 (ad g 44) 3 = v8817 := by rw [eI8818, pp_self]
      have fr8825 : fz 74 g [44] I I8818 := by rw [eI8818]; exact fzx_pp hy fr8811 (by decide) (by decide)
      clear eI8818
      refine WP_aload_n dX6_load_108 rfl ?_
      refine WP_iload dX6_load_109 rfl ?_
      refine WQ_iconst (-1) (-1) dX6_load_111 rfl rfl (fun v8826 hv8826 => ?_)
      refine WQ_icmp_ne 119 dX6_load_112 rfl (fun c8826 => ?_) (fun c8826 => ?_)
      · refine WP_aload_n dX6_load_119 rfl ?_
        refine WP_getr dX6_load_120 fX6_45 rfl (lyx_is hy 5 0 rfl) (rfx hr 5 1 22 (by decide)) ?_
        refine WP_iload dX6_load_123 rfl ?_
        refine WQ_bipush (7) (7) dX6_load_125 rfl rfl (fun v8828 hv8828 => ?_)
        refine WQ_imulk (7) dX6_load_127 hv8828 (by omega) (by omega) (fun v8829 hv8829 => ?_)
        refine WP_iload_n dX6_load_128 rfl ?_
        refine WQ_iadd dX6_load_129 (by omega) (by omega) (fun v8830 hv8830 => ?_)
        refine WQ_ialdb dX6_load_130 (lyx_is hy 22 13 rfl) (lyx_n hy 22 21 rfl) (by omega) (by omega) (fun q hq => BT_get hI8818.1 22 0 21 (0) (0) (20) (by decide) q (Nat.zero_le _) hq) (fun v8831 av8831 bv8831 zv8831 => ?_)
        have yv8831 : I (ad g 22) (7 * v8360.toInt + da.toInt).toNat = v8831 := by rw [← fz_at fr8825 22 (by decide) (by decide), show (7 * v8360.toInt + da.toInt).toNat = v8830.toInt.toNat by omega]; exact zv8831
        refine WQ_puti dX6_load_131 fX6_51 rfl rfl (lyx_is hy 44 6 rfl) (fun I8832 eI8832 => ?_)
        have hI8832 : XI g n L I8832 := by rw [eI8832]; exact (xi_f hy hI8818 (c := 44) (0) (0) (20) (by decide) (Or.inl (by decide)) (by decide) (by omega) (by omega))
        have e8833 : I8832 (ad g 1) 1 = L := by rw [eI8832, pp_ne _ _ (Or.inl (lyx_ne hy (by decide) (by decide) (by decide)))]; exact e8819
        have e8834 : I8832 (ad g 6) 4 = v8360 := by rw [eI8832, pp_ne _ _ (Or.inl (lyx_ne hy (by decide) (by decide) (by decide)))]; exact e8820
        have e8835 : I8832 (ad g 44) 0 = v8791 := by rw [eI8832, pp_ne _ _ (Or.inr (by decide))]; exact e8821
        have e8836 : I8832 (ad g 44) 1 = v8797 := by rw [eI8832, pp_ne _ _ (Or.inr (by decide))]; exact e8822
        have e8837 : I8832 (ad g 44) 2 = v8804 := by rw [eI8832, pp_ne _ _ (Or.inr (by decide))]; exact e8823
        have e8838 : I8832 (ad g 44) 3 = v8817 := by rw [eI8832, pp_ne _ _ (Or.inr (by decide))]; exact e8824
        have e8839 : I8832 (ad g 44) 4 = v8831 := by rw [eI8832, pp_self]
        have fr8840 : fz 74 g [44] I I8832 := by rw [eI8832]; exact fzx_pp hy fr8825 (by decide) (by decide)
        clear eI8832
        refine WP_aload_n dX6_load_134 rfl ?_
        refine WP_iload dX6_load_135 rfl ?_
        refine WQ_if_eq 144 dX6_load_137 rfl (fun c8840 => False.elim (by omega)) (fun c8840 => ?_)
        refine WQ_iconst (0) (0) dX6_load_140 rfl rfl (fun v8842 hv8842 => ?_)
        refine WP_goto 148 dX6_load_141 rfl ?_
        refine WQ_puti dX6_load_148 fX6_54 rfl rfl (lyx_is hy 44 6 rfl) (fun I8843 eI8843 => ?_)
        have hI8843 : XI g n L I8843 := by rw [eI8843]; exact (xi_f hy hI8832 (c := 44) (0) (0) (3) (by decide) (Or.inl (by decide)) (by decide) (by omega) (by omega))
        have e8844 : I8843 (ad g 1) 1 = L := by rw [eI8843, pp_ne _ _ (Or.inl (lyx_ne hy (by decide) (by decide) (by decide)))]; exact e8833
        have e8845 : I8843 (ad g 6) 4 = v8360 := by rw [eI8843, pp_ne _ _ (Or.inl (lyx_ne hy (by decide) (by decide) (by decide)))]; exact e8834
        have e8846 : I8843 (ad g 44) 0 = v8791 := by rw [eI8843, pp_ne _ _ (Or.inr (by decide))]; exact e8835
        have e8847 : I8843 (ad g 44) 1 = v8797 := by rw [eI8843, pp_ne _ _ (Or.inr (by decide))]; exact e8836
        have e8848 : I8843 (ad g 44) 2 = v8804 := by rw [eI8843, pp_ne _ _ (Or.inr (by decide))]; exact e8837
        have e8849 : I8843 (ad g 44) 3 = v8817 := by rw [eI8843, pp_ne _ _ (Or.inr (by decide))]; exact e8838
        have e8850 : I8843 (ad g 44) 4 = v8831 := by rw [eI8843, pp_ne _ _ (Or.inr (by decide))]; exact e8839
        have e8851 : I8843 (ad g 44) 5 = v8842 := by rw [eI8843, pp_self]
        have fr8852 : fz 74 g [44] I I8843 := by rw [eI8843]; exact fzx_pp hy fr8840 (by decide) (by decide)
        clear eI8843
        refine WP_aload_n dX6_load_151 rfl ?_
        refine WP_iload dX6_load_152 rfl ?_
        refine WQ_if_ne 163 dX6_load_154 rfl (fun c8852 => ?_) (fun c8852 => False.elim (by omega))
        refine WQ_iconst (0) (0) dX6_load_163 rfl rfl (fun v8854 hv8854 => ?_)
        refine WP_goto 168 dX6_load_164 rfl ?_
        refine WQ_puti dX6_load_168 fX6_57 rfl rfl (lyx_is hy 44 6 rfl) (fun I8855 eI8855 => ?_)
        have hI8855 : XI g n L I8855 := by rw [eI8855]; exact (xi_f hy hI8843 (c := 44) (0) (0) (2) (by decide) (Or.inl (by decide)) (by decide) (by omega) (by omega))
        have e8856 : I8855 (ad g 1) 1 = L := by rw [eI8855, pp_ne _ _ (Or.inl (lyx_ne hy (by decide) (by decide) (by decide)))]; exact e8844
        have e8857 : I8855 (ad g 6) 4 = v8360 := by rw [eI8855, pp_ne _ _ (Or.inl (lyx_ne hy (by decide) (by decide) (by decide)))]; exact e8845
        have e8858 : I8855 (ad g 44) 0 = v8791 := by rw [eI8855, pp_ne _ _ (Or.inr (by decide))]; exact e8846
        have e8859 : I8855 (ad g 44) 1 = v8797 := by rw [eI8855, pp_ne _ _ (Or.inr (by decide))]; exact e8847
        have e8860 : I8855 (ad g 44) 2 = v8804 := by rw [eI8855, pp_ne _ _ (Or.inr (by decide))]; exact e8848
        have e8861 : I8855 (ad g 44) 3 = v8817 := by rw [eI8855, pp_ne _ _ (Or.inr (by decide))]; exact e8849
        have e8862 : I8855 (ad g 44) 4 = v8831 := by rw [eI8855, pp_ne _ _ (Or.inr (by decide))]; exact e8850
        have e8863 : I8855 (ad g 44) 5 = v8842 := by rw [eI8855, pp_ne _ _ (Or.inr (by decide))]; exact e8851
        have e8864 : I8855 (ad g 44) 6 = v8854 := by rw [eI8855, pp_self]
        have fr8865 : fz 74 g [44] I I8855 := by rw [eI8855]; exact fzx_pp hy fr8852 (by decide) (by decide)
        clear eI8855
        refine WP_aload_n dX6_load_171 rfl ?_
        refine WP_aload_n dX6_load_172 rfl ?_
        refine WQ_getim dX6_load_173 fX6_9 rfl (lyx_is hy 44 6 rfl) e8858 ?_
        refine WQ_iconst (-1) (-1) dX6_load_176 rfl rfl (fun v8866 hv8866 => ?_)
        refine WQ_icmp_eq 193 dX6_load_177 rfl (fun c8866 => False.elim (by omega)) (fun c8866 => ?_)
        refine WP_aload_n dX6_load_180 rfl ?_
        refine WQ_getim dX6_load_181 fX6_9 rfl (lyx_is hy 44 6 rfl) e8858 ?_
        refine WP_iload dX6_load_184 rfl ?_
        refine WQ_icmp_ne 193 dX6_load_186 rfl (fun c8867 => ?_) (fun c8867 => ?_)
        · refine WQ_iconst (0) (0) dX6_load_193 rfl rfl (fun v8869 hv8869 => ?_)
          refine WQ_putz dX6_load_194 fX6_60 rfl rfl (by omega) (lyx_is hy 44 6 rfl) (fun I8870 eI8870 => ?_)
          have hI8870 : XI g n L I8870 := by rw [eI8870]; exact (xi_f hy hI8855 (c := 44) (0) (0) (1) (by decide) (Or.inl (by decide)) (by decide) (by omega) (by omega))
          have e8871 : I8870 (ad g 1) 1 = L := by rw [eI8870, pp_ne _ _ (Or.inl (lyx_ne hy (by decide) (by decide) (by decide)))]; exact e8856
          have e8872 : I8870 (ad g 6) 4 = v8360 := by rw [eI8870, pp_ne _ _ (Or.inl (lyx_ne hy (by decide) (by decide) (by decide)))]; exact e8857
          have e8873 : I8870 (ad g 44) 0 = v8791 := by rw [eI8870, pp_ne _ _ (Or.inr (by decide))]; exact e8858
          have e8874 : I8870 (ad g 44) 1 = v8797 := by rw [eI8870, pp_ne _ _ (Or.inr (by decide))]; exact e8859
          have e8875 : I8870 (ad g 44) 2 = v8804 := by rw [eI8870, pp_ne _ _ (Or.inr (by decide))]; exact e8860
          have e8876 : I8870 (ad g 44) 3 = v8817 := by rw [eI8870, pp_ne _ _ (Or.inr (by decide))]; exact e8861
          have e8877 : I8870 (ad g 44) 4 = v8831 := by rw [eI8870, pp_ne _ _ (Or.inr (by decide))]; exact e8862
          have e8878 : I8870 (ad g 44) 5 = v8842 := by rw [eI8870, pp_ne _ _ (Or.inr (by decide))]; exact e8863
          have e8879 : I8870 (ad g 44) 6 = v8854 := by rw [eI8870, pp_ne _ _ (Or.inr (by decide))]; exact e8864
          have e8880 : I8870 (ad g 44) 7 = v8869 := by rw [eI8870, pp_self]
          have fr8881 : fz 74 g [44] I I8870 := by rw [eI8870]; exact fzx_pp hy fr8865 (by decide) (by decide)
          clear eI8870
          refine WP_aload_n dX6_load_197 rfl ?_
          refine WP_aload_n dX6_load_198 rfl ?_
          refine WP_getr dX6_load_199 fX6_64 rfl (lyx_is hy 5 0 rfl) (rfx hr 5 2 23 (by decide)) ?_
          refine WP_iload_n dX6_load_202 rfl ?_
          refine WQ_iald dX6_load_203 (lyx_is hy 23 13 rfl) (lyx_n hy 23 7 rfl) (by omega) (by omega) (fun q hq => BT_get hI8870.1 23 0 7 (0) (0) (900) (by decide) q (Nat.zero_le _) hq) (fun v8882 av8882 bv8882 ev8882 => ?_)
          clear ev8882
          refine WQ_if_le 211 dX6_load_204 rfl (fun c8882 => ?_) (fun c8882 => ?_)
          · refine WQ_iconst (0) (0) dX6_load_211 rfl rfl (fun v8884 hv8884 => ?_)
            refine WQ_putz dX6_load_212 fX6_67 rfl rfl (by omega) (lyx_is hy 44 6 rfl) (fun I8885 eI8885 => ?_)
            have hI8885 : XI g n L I8885 := by rw [eI8885]; exact (xi_f hy hI8870 (c := 44) (0) (0) (1) (by decide) (Or.inl (by decide)) (by decide) (by omega) (by omega))
            have e8886 : I8885 (ad g 1) 1 = L := by rw [eI8885, pp_ne _ _ (Or.inl (lyx_ne hy (by decide) (by decide) (by decide)))]; exact e8871
            have e8887 : I8885 (ad g 6) 4 = v8360 := by rw [eI8885, pp_ne _ _ (Or.inl (lyx_ne hy (by decide) (by decide) (by decide)))]; exact e8872
            have e8888 : I8885 (ad g 44) 0 = v8791 := by rw [eI8885, pp_ne _ _ (Or.inr (by decide))]; exact e8873
            have e8889 : I8885 (ad g 44) 1 = v8797 := by rw [eI8885, pp_ne _ _ (Or.inr (by decide))]; exact e8874
            have e8890 : I8885 (ad g 44) 2 = v8804 := by rw [eI8885, pp_ne _ _ (Or.inr (by decide))]; exact e8875
            have e8891 : I8885 (ad g 44) 3 = v8817 := by rw [eI8885, pp_ne _ _ (Or.inr (by decide))]; exact e8876
            have e8892 : I8885 (ad g 44) 4 = v8831 := by rw [eI8885, pp_ne _ _ (Or.inr (by decide))]; exact e8877
            have e8893 : I8885 (ad g 44) 5 = v8842 := by rw [eI8885, pp_ne _ _ (Or.inr (by decide))]; exact e8878
            have e8894 : I8885 (ad g 44) 6 = v8854 := by rw [eI8885, pp_ne _ _ (Or.inr (by decide))]; exact e8879
            have e8895 : I8885 (ad g 44) 7 = v8869 := by rw [eI8885, pp_ne _ _ (Or.inr (by decide))]; exact e8880
            have e8896 : I8885 (ad g 44) 8 = v8884 := by rw [eI8885, pp_self]
            have fr8897 : fz 74 g [44] I I8885 := by rw [eI8885]; exact fzx_pp hy fr8881 (by decide) (by decide)
            clear eI8885
            exact WP_vret dX6_load_215 rfl ⟨⟨hI8885, rfl, fr8897, rfl, (by
                  have yill : I (ad g (6 + 5)) so.toInt.toNat >>> (nI da.toInt.toNat &&& 31) &&& 1 = v8364 := by rw [show I (ad g (6 + 5)) so.toInt.toNat = v8361 from yv8361, show nI da.toInt.toNat = da from (eq32 _ _).mpr (by rw [nI_toInt (by omega)]; omega), xv8364, xv8362, (eq32 v8363 1).mpr hv8363]
                  have yst : I (ad g 6) 4 = v8360 := est
                  unfold LD
                  simp only [e8888, e8889, e8890, e8891, e8892, e8893, e8894, e8895, yill, yst, show I (ad g (6 + 7)) _ = _ from yv8791, show I (ad g (6 + 8)) _ = _ from yv8797, show I (ad g (6 + 9)) _ = _ from yv8804, yv8817, yv8831, true_and, and_true]
                  omega)⟩, rfl⟩
          · refine WQ_iconst (1) (1) dX6_load_207 rfl rfl (fun v8898 hv8898 => ?_)
            refine WP_goto 212 dX6_load_208 rfl ?_
            refine WQ_putz dX6_load_212 fX6_67 rfl rfl (by omega) (lyx_is hy 44 6 rfl) (fun I8899 eI8899 => ?_)
            have hI8899 : XI g n L I8899 := by rw [eI8899]; exact (xi_f hy hI8870 (c := 44) (0) (0) (1) (by decide) (Or.inl (by decide)) (by decide) (by omega) (by omega))
            have e8900 : I8899 (ad g 1) 1 = L := by rw [eI8899, pp_ne _ _ (Or.inl (lyx_ne hy (by decide) (by decide) (by decide)))]; exact e8871
            have e8901 : I8899 (ad g 6) 4 = v8360 := by rw [eI8899, pp_ne _ _ (Or.inl (lyx_ne hy (by decide) (by decide) (by decide)))]; exact e8872
            have e8902 : I8899 (ad g 44) 0 = v8791 := by rw [eI8899, pp_ne _ _ (Or.inr (by decide))]; exact e8873
            have e8903 : I8899 (ad g 44) 1 = v8797 := by rw [eI8899, pp_ne _ _ (Or.inr (by decide))]; exact e8874
            have e8904 : I8899 (ad g 44) 2 = v8804 := by rw [eI8899, pp_ne _ _ (Or.inr (by decide))]; exact e8875
            have e8905 : I8899 (ad g 44) 3 = v8817 := by rw [eI8899, pp_ne _ _ (Or.inr (by decide))]; exact e8876
            have e8906 : I8899 (ad g 44) 4 = v8831 := by rw [eI8899, pp_ne _ _ (Or.inr (by decide))]; exact e8877
            have e8907 : I8899 (ad g 44) 5 = v8842 := by rw [eI8899, pp_ne _ _ (Or.inr (by decide))]; exact e8878
            have e8908 : I8899 (ad g 44) 6 = v8854 := by rw [eI8899, pp_ne _ _ (Or.inr (by decide))]; exact e8879
            have e8909 : I8899 (ad g 44) 7 = v8869 := by rw [eI8899, pp_ne _ _ (Or.inr (by decide))]; exact e8880
            have e8910 : I8899 (ad g 44) 8 = v8898 := by rw [eI8899, pp_self]
            have fr8911 : fz 74 g [44] I I8899 := by rw [eI8899]; exact fzx_pp hy fr8881 (by decide) (by decide)
            clear eI8899
            exact WP_vret dX6_load_215 rfl ⟨⟨hI8899, rfl, fr8911, rfl, (by
                  have yill : I (ad g (6 + 5)) so.toInt.toNat >>> (nI da.toInt.toNat &&& 31) &&& 1 = v8364 := by rw [show I (ad g (6 + 5)) so.toInt.toNat = v8361 from yv8361, show nI da.toInt.toNat = da from (eq32 _ _).mpr (by rw [nI_toInt (by omega)]; omega), xv8364, xv8362, (eq32 v8363 1).mpr hv8363]
                  have yst : I (ad g 6) 4 = v8360 := est
                  unfold LD
                  simp only [e8902, e8903, e8904, e8905, e8906, e8907, e8908, e8909, yill, yst, show I (ad g (6 + 7)) _ = _ from yv8791, show I (ad g (6 + 8)) _ = _ from yv8797, show I (ad g (6 + 9)) _ = _ from yv8804, yv8817, yv8831, true_and, and_true]
                  omega)⟩, rfl⟩
        · refine WQ_iconst (1) (1) dX6_load_189 rfl rfl (fun v8912 hv8912 => ?_)
          refine WP_goto 194 dX6_load_190 rfl ?_
          refine WQ_putz dX6_load_194 fX6_60 rfl rfl (by omega) (lyx_is hy 44 6 rfl) (fun I8913 eI8913 => ?_)
          have hI8913 : XI g n L I8913 := by rw [eI8913]; exact (xi_f hy hI8855 (c := 44) (0) (0) (1) (by decide) (Or.inl (by decide)) (by decide) (by omega) (by omega))
          have e8914 : I8913 (ad g 1) 1 = L := by rw [eI8913, pp_ne _ _ (Or.inl (lyx_ne hy (by decide) (by decide) (by decide)))]; exact e8856
          have e8915 : I8913 (ad g 6) 4 = v8360 := by rw [eI8913, pp_ne _ _ (Or.inl (lyx_ne hy (by decide) (by decide) (by decide)))]; exact e8857
          have e8916 : I8913 (ad g 44) 0 = v8791 := by rw [eI8913, pp_ne _ _ (Or.inr (by decide))]; exact e8858
          have e8917 : I8913 (ad g 44) 1 = v8797 := by rw [eI8913, pp_ne _ _ (Or.inr (by decide))]; exact e8859
          have e8918 : I8913 (ad g 44) 2 = v8804 := by rw [eI8913, pp_ne _ _ (Or.inr (by decide))]; exact e8860
          have e8919 : I8913 (ad g 44) 3 = v8817 := by rw [eI8913, pp_ne _ _ (Or.inr (by decide))]; exact e8861
          have e8920 : I8913 (ad g 44) 4 = v8831 := by rw [eI8913, pp_ne _ _ (Or.inr (by decide))]; exact e8862
          have e8921 : I8913 (ad g 44) 5 = v8842 := by rw [eI8913, pp_ne _ _ (Or.inr (by decide))]; exact e8863
          have e8922 : I8913 (ad g 44) 6 = v8854 := by rw [eI8913, pp_ne _ _ (Or.inr (by decide))]; exact e8864
          have e8923 : I8913 (ad g 44) 7 = v8912 := by rw [eI8913, pp_self]
          have fr8924 : fz 74 g [44] I I8913 := by rw [eI8913]; exact fzx_pp hy fr8865 (by decide) (by decide)
          clear eI8913
          refine WP_aload_n dX6_load_197 rfl ?_
          refine WP_aload_n dX6_load_198 rfl ?_
          refine WP_getr dX6_load_199 fX6_64 rfl (lyx_is hy 5 0 rfl) (rfx hr 5 2 23 (by decide)) ?_
          refine WP_iload_n dX6_load_202 rfl ?_
          refine WQ_iald dX6_load_203 (lyx_is hy 23 13 rfl) (lyx_n hy 23 7 rfl) (by omega) (by omega) (fun q hq => BT_get hI8913.1 23 0 7 (0) (0) (900) (by decide) q (Nat.zero_le _) hq) (fun v8925 av8925 bv8925 ev8925 => ?_)
          clear ev8925
          refine WQ_if_le 211 dX6_load_204 rfl (fun c8925 => ?_) (fun c8925 => ?_)
          · refine WQ_iconst (0) (0) dX6_load_211 rfl rfl (fun v8927 hv8927 => ?_)
            refine WQ_putz dX6_load_212 fX6_67 rfl rfl (by omega) (lyx_is hy 44 6 rfl) (fun I8928 eI8928 => ?_)
            have hI8928 : XI g n L I8928 := by rw [eI8928]; exact (xi_f hy hI8913 (c := 44) (0) (0) (1) (by decide) (Or.inl (by decide)) (by decide) (by omega) (by omega))
            have e8929 : I8928 (ad g 1) 1 = L := by rw [eI8928, pp_ne _ _ (Or.inl (lyx_ne hy (by decide) (by decide) (by decide)))]; exact e8914
            have e8930 : I8928 (ad g 6) 4 = v8360 := by rw [eI8928, pp_ne _ _ (Or.inl (lyx_ne hy (by decide) (by decide) (by decide)))]; exact e8915
            have e8931 : I8928 (ad g 44) 0 = v8791 := by rw [eI8928, pp_ne _ _ (Or.inr (by decide))]; exact e8916
            have e8932 : I8928 (ad g 44) 1 = v8797 := by rw [eI8928, pp_ne _ _ (Or.inr (by decide))]; exact e8917
            have e8933 : I8928 (ad g 44) 2 = v8804 := by rw [eI8928, pp_ne _ _ (Or.inr (by decide))]; exact e8918
            have e8934 : I8928 (ad g 44) 3 = v8817 := by rw [eI8928, pp_ne _ _ (Or.inr (by decide))]; exact e8919
            have e8935 : I8928 (ad g 44) 4 = v8831 := by rw [eI8928, pp_ne _ _ (Or.inr (by decide))]; exact e8920
            have e8936 : I8928 (ad g 44) 5 = v8842 := by rw [eI8928, pp_ne _ _ (Or.inr (by decide))]; exact e8921
            have e8937 : I8928 (ad g 44) 6 = v8854 := by rw [eI8928, pp_ne _ _ (Or.inr (by decide))]; exact e8922
            have e8938 : I8928 (ad g 44) 7 = v8912 := by rw [eI8928, pp_ne _ _ (Or.inr (by decide))]; exact e8923
            have e8939 : I8928 (ad g 44) 8 = v8927 := by rw [eI8928, pp_self]
            have fr8940 : fz 74 g [44] I I8928 := by rw [eI8928]; exact fzx_pp hy fr8924 (by decide) (by decide)
            clear eI8928
            exact WP_vret dX6_load_215 rfl ⟨⟨hI8928, rfl, fr8940, rfl, (by
                  have yill : I (ad g (6 + 5)) so.toInt.toNat >>> (nI da.toInt.toNat &&& 31) &&& 1 = v8364 := by rw [show I (ad g (6 + 5)) so.toInt.toNat = v8361 from yv8361, show nI da.toInt.toNat = da from (eq32 _ _).mpr (by rw [nI_toInt (by omega)]; omega), xv8364, xv8362, (eq32 v8363 1).mpr hv8363]
                  have yst : I (ad g 6) 4 = v8360 := est
                  unfold LD
                  simp only [e8931, e8932, e8933, e8934, e8935, e8936, e8937, e8938, yill, yst, show I (ad g (6 + 7)) _ = _ from yv8791, show I (ad g (6 + 8)) _ = _ from yv8797, show I (ad g (6 + 9)) _ = _ from yv8804, yv8817, yv8831, true_and, and_true]
                  omega)⟩, rfl⟩
          · refine WQ_iconst (1) (1) dX6_load_207 rfl rfl (fun v8941 hv8941 => ?_)
            refine WP_goto 212 dX6_load_208 rfl ?_
            refine WQ_putz dX6_load_212 fX6_67 rfl rfl (by omega) (lyx_is hy 44 6 rfl) (fun I8942 eI8942 => ?_)
            have hI8942 : XI g n L I8942 := by rw [eI8942]; exact (xi_f hy hI8913 (c := 44) (0) (0) (1) (by decide) (Or.inl (by decide)) (by decide) (by omega) (by omega))
            have e8943 : I8942 (ad g 1) 1 = L := by rw [eI8942, pp_ne _ _ (Or.inl (lyx_ne hy (by decide) (by decide) (by decide)))]; exact e8914
            have e8944 : I8942 (ad g 6) 4 = v8360 := by rw [eI8942, pp_ne _ _ (Or.inl (lyx_ne hy (by decide) (by decide) (by decide)))]; exact e8915
            have e8945 : I8942 (ad g 44) 0 = v8791 := by rw [eI8942, pp_ne _ _ (Or.inr (by decide))]; exact e8916
            have e8946 : I8942 (ad g 44) 1 = v8797 := by rw [eI8942, pp_ne _ _ (Or.inr (by decide))]; exact e8917
            have e8947 : I8942 (ad g 44) 2 = v8804 := by rw [eI8942, pp_ne _ _ (Or.inr (by decide))]; exact e8918
            have e8948 : I8942 (ad g 44) 3 = v8817 := by rw [eI8942, pp_ne _ _ (Or.inr (by decide))]; exact e8919
            have e8949 : I8942 (ad g 44) 4 = v8831 := by rw [eI8942, pp_ne _ _ (Or.inr (by decide))]; exact e8920
            have e8950 : I8942 (ad g 44) 5 = v8842 := by rw [eI8942, pp_ne _ _ (Or.inr (by decide))]; exact e8921
            have e8951 : I8942 (ad g 44) 6 = v8854 := by rw [eI8942, pp_ne _ _ (Or.inr (by decide))]; exact e8922
            have e8952 : I8942 (ad g 44) 7 = v8912 := by rw [eI8942, pp_ne _ _ (Or.inr (by decide))]; exact e8923
            have e8953 : I8942 (ad g 44) 8 = v8941 := by rw [eI8942, pp_self]
            have fr8954 : fz 74 g [44] I I8942 := by rw [eI8942]; exact fzx_pp hy fr8924 (by decide) (by decide)
            clear eI8942
            exact WP_vret dX6_load_215 rfl ⟨⟨hI8942, rfl, fr8954, rfl, (by
                  have yill : I (ad g (6 + 5)) so.toInt.toNat >>> (nI da.toInt.toNat &&& 31) &&& 1 = v8364 := by rw [show I (ad g (6 + 5)) so.toInt.toNat = v8361 from yv8361, show nI da.toInt.toNat = da from (eq32 _ _).mpr (by rw [nI_toInt (by omega)]; omega), xv8364, xv8362, (eq32 v8363 1).mpr hv8363]
                  have yst : I (ad g 6) 4 = v8360 := est
                  unfold LD
                  simp only [e8945, e8946, e8947, e8948, e8949, e8950, e8951, e8952, yill, yst, show I (ad g (6 + 7)) _ = _ from yv8791, show I (ad g (6 + 8)) _ = _ from yv8797, show I (ad g (6 + 9)) _ = _ from yv8804, yv8817, yv8831, true_and, and_true]
                  omega)⟩, rfl⟩
      · refine WQ_iconst (0) (0) dX6_load_115 rfl rfl (fun v8955 hv8955 => ?_)
        refine WP_goto 131 dX6_load_116 rfl ?_
        refine WQ_puti dX6_load_131 fX6_51 rfl rfl (lyx_is hy 44 6 rfl) (fun I8956 eI8956 => ?_)
        have hI8956 : XI g n L I8956 := by rw [eI8956]; exact (xi_f hy hI8818 (c := 44) (0) (0) (20) (by decide) (Or.inl (by decide)) (by decide) (by omega) (by omega))
        have e8957 : I8956 (ad g 1) 1 = L := by rw [eI8956, pp_ne _ _ (Or.inl (lyx_ne hy (by decide) (by decide) (by decide)))]; exact e8819
        have e8958 : I8956 (ad g 6) 4 = v8360 := by rw [eI8956, pp_ne _ _ (Or.inl (lyx_ne hy (by decide) (by decide) (by decide)))]; exact e8820
        have e8959 : I8956 (ad g 44) 0 = v8791 := by rw [eI8956, pp_ne _ _ (Or.inr (by decide))]; exact e8821
        have e8960 : I8956 (ad g 44) 1 = v8797 := by rw [eI8956, pp_ne _ _ (Or.inr (by decide))]; exact e8822
        have e8961 : I8956 (ad g 44) 2 = v8804 := by rw [eI8956, pp_ne _ _ (Or.inr (by decide))]; exact e8823
        have e8962 : I8956 (ad g 44) 3 = v8817 := by rw [eI8956, pp_ne _ _ (Or.inr (by decide))]; exact e8824
        have e8963 : I8956 (ad g 44) 4 = v8955 := by rw [eI8956, pp_self]
        have fr8964 : fz 74 g [44] I I8956 := by rw [eI8956]; exact fzx_pp hy fr8825 (by decide) (by decide)
        clear eI8956
        refine WP_aload_n dX6_load_134 rfl ?_
        refine WP_iload dX6_load_135 rfl ?_
        refine WQ_if_eq 144 dX6_load_137 rfl (fun c8964 => False.elim (by omega)) (fun c8964 => ?_)
        refine WQ_iconst (0) (0) dX6_load_140 rfl rfl (fun v8966 hv8966 => ?_)
        refine WP_goto 148 dX6_load_141 rfl ?_
        refine WQ_puti dX6_load_148 fX6_54 rfl rfl (lyx_is hy 44 6 rfl) (fun I8967 eI8967 => ?_)
        have hI8967 : XI g n L I8967 := by rw [eI8967]; exact (xi_f hy hI8956 (c := 44) (0) (0) (3) (by decide) (Or.inl (by decide)) (by decide) (by omega) (by omega))
        have e8968 : I8967 (ad g 1) 1 = L := by rw [eI8967, pp_ne _ _ (Or.inl (lyx_ne hy (by decide) (by decide) (by decide)))]; exact e8957
        have e8969 : I8967 (ad g 6) 4 = v8360 := by rw [eI8967, pp_ne _ _ (Or.inl (lyx_ne hy (by decide) (by decide) (by decide)))]; exact e8958
        have e8970 : I8967 (ad g 44) 0 = v8791 := by rw [eI8967, pp_ne _ _ (Or.inr (by decide))]; exact e8959
        have e8971 : I8967 (ad g 44) 1 = v8797 := by rw [eI8967, pp_ne _ _ (Or.inr (by decide))]; exact e8960
        have e8972 : I8967 (ad g 44) 2 = v8804 := by rw [eI8967, pp_ne _ _ (Or.inr (by decide))]; exact e8961
        have e8973 : I8967 (ad g 44) 3 = v8817 := by rw [eI8967, pp_ne _ _ (Or.inr (by decide))]; exact e8962
        have e8974 : I8967 (ad g 44) 4 = v8955 := by rw [eI8967, pp_ne _ _ (Or.inr (by decide))]; exact e8963
        have e8975 : I8967 (ad g 44) 5 = v8966 := by rw [eI8967, pp_self]
        have fr8976 : fz 74 g [44] I I8967 := by rw [eI8967]; exact fzx_pp hy fr8964 (by decide) (by decide)
        clear eI8967
        refine WP_aload_n dX6_load_151 rfl ?_
        refine WP_iload dX6_load_152 rfl ?_
        refine WQ_if_ne 163 dX6_load_154 rfl (fun c8976 => ?_) (fun c8976 => False.elim (by omega))
        refine WQ_iconst (0) (0) dX6_load_163 rfl rfl (fun v8978 hv8978 => ?_)
        refine WP_goto 168 dX6_load_164 rfl ?_
        refine WQ_puti dX6_load_168 fX6_57 rfl rfl (lyx_is hy 44 6 rfl) (fun I8979 eI8979 => ?_)
        have hI8979 : XI g n L I8979 := by rw [eI8979]; exact (xi_f hy hI8967 (c := 44) (0) (0) (2) (by decide) (Or.inl (by decide)) (by decide) (by omega) (by omega))
        have e8980 : I8979 (ad g 1) 1 = L := by rw [eI8979, pp_ne _ _ (Or.inl (lyx_ne hy (by decide) (by decide) (by decide)))]; exact e8968
        have e8981 : I8979 (ad g 6) 4 = v8360 := by rw [eI8979, pp_ne _ _ (Or.inl (lyx_ne hy (by decide) (by decide) (by decide)))]; exact e8969
        have e8982 : I8979 (ad g 44) 0 = v8791 := by rw [eI8979, pp_ne _ _ (Or.inr (by decide))]; exact e8970
        have e8983 : I8979 (ad g 44) 1 = v8797 := by rw [eI8979, pp_ne _ _ (Or.inr (by decide))]; exact e8971
        have e8984 : I8979 (ad g 44) 2 = v8804 := by rw [eI8979, pp_ne _ _ (Or.inr (by decide))]; exact e8972
        have e8985 : I8979 (ad g 44) 3 = v8817 := by rw [eI8979, pp_ne _ _ (Or.inr (by decide))]; exact e8973
        have e8986 : I8979 (ad g 44) 4 = v8955 := by rw [eI8979, pp_ne _ _ (Or.inr (by decide))]; exact e8974
        have e8987 : I8979 (ad g 44) 5 = v8966 := by rw [eI8979, pp_ne _ _ (Or.inr (by decide))]; exact e8975
        have e8988 : I8979 (ad g 44) 6 = v8978 := by rw [eI8979, pp_self]
        have fr8989 : fz 74 g [44] I I8979 := by rw [eI8979]; exact fzx_pp hy fr8976 (by decide) (by decide)
        clear eI8979
        refine WP_aload_n dX6_load_171 rfl ?_
        refine WP_aload_n dX6_load_172 rfl ?_
        refine WQ_getim dX6_load_173 fX6_9 rfl (lyx_is hy 44 6 rfl) e8982 ?_
        refine WQ_iconst (-1) (-1) dX6_load_176 rfl rfl (fun v8990 hv8990 => ?_)
        refine WQ_icmp_eq 193 dX6_load_177 rfl (fun c8990 => False.elim (by omega)) (fun c8990 => ?_)
        refine WP_aload_n dX6_load_180 rfl ?_
        refine WQ_getim dX6_load_181 fX6_9 rfl (lyx_is hy 44 6 rfl) e8982 ?_
        refine WP_iload dX6_load_184 rfl ?_
        refine WQ_icmp_ne 193 dX6_load_186 rfl (fun c8991 => ?_) (fun c8991 => False.elim (by omega))
        refine WQ_iconst (0) (0) dX6_load_193 rfl rfl (fun v8993 hv8993 => ?_)
        refine WQ_putz dX6_load_194 fX6_60 rfl rfl (by omega) (lyx_is hy 44 6 rfl) (fun I8994 eI8994 => ?_)
        have hI8994 : XI g n L I8994 := by rw [eI8994]; exact (xi_f hy hI8979 (c := 44) (0) (0) (1) (by decide) (Or.inl (by decide)) (by decide) (by omega) (by omega))
        have e8995 : I8994 (ad g 1) 1 = L := by rw [eI8994, pp_ne _ _ (Or.inl (lyx_ne hy (by decide) (by decide) (by decide)))]; exact e8980
        have e8996 : I8994 (ad g 6) 4 = v8360 := by rw [eI8994, pp_ne _ _ (Or.inl (lyx_ne hy (by decide) (by decide) (by decide)))]; exact e8981
        have e8997 : I8994 (ad g 44) 0 = v8791 := by rw [eI8994, pp_ne _ _ (Or.inr (by decide))]; exact e8982
        have e8998 : I8994 (ad g 44) 1 = v8797 := by rw [eI8994, pp_ne _ _ (Or.inr (by decide))]; exact e8983
        have e8999 : I8994 (ad g 44) 2 = v8804 := by rw [eI8994, pp_ne _ _ (Or.inr (by decide))]; exact e8984
        have e9000 : I8994 (ad g 44) 3 = v8817 := by rw [eI8994, pp_ne _ _ (Or.inr (by decide))]; exact e8985
        have e9001 : I8994 (ad g 44) 4 = v8955 := by rw [eI8994, pp_ne _ _ (Or.inr (by decide))]; exact e8986
        have e9002 : I8994 (ad g 44) 5 = v8966 := by rw [eI8994, pp_ne _ _ (Or.inr (by decide))]; exact e8987
        have e9003 : I8994 (ad g 44) 6 = v8978 := by rw [eI8994, pp_ne _ _ (Or.inr (by decide))]; exact e8988
        have e9004 : I8994 (ad g 44) 7 = v8993 := by rw [eI8994, pp_self]
        have fr9005 : fz 74 g [44] I I8994 := by rw [eI8994]; exact fzx_pp hy fr8989 (by decide) (by decide)
        clear eI8994
        refine WP_aload_n dX6_load_197 rfl ?_
        refine WP_aload_n dX6_load_198 rfl ?_
        refine WP_getr dX6_load_199 fX6_64 rfl (lyx_is hy 5 0 rfl) (rfx hr 5 2 23 (by decide)) ?_
        refine WP_iload_n dX6_load_202 rfl ?_
        refine WQ_iald dX6_load_203 (lyx_is hy 23 13 rfl) (lyx_n hy 23 7 rfl) (by omega) (by omega) (fun q hq => BT_get hI8994.1 23 0 7 (0) (0) (900) (by decide) q (Nat.zero_le _) hq) (fun v9006 av9006 bv9006 ev9006 => ?_)
        clear ev9006
        refine WQ_if_le 211 dX6_load_204 rfl (fun c9006 => ?_) (fun c9006 => ?_)
        · refine WQ_iconst (0) (0) dX6_load_211 rfl rfl (fun v9008 hv9008 => ?_)
          refine WQ_putz dX6_load_212 fX6_67 rfl rfl (by omega) (lyx_is hy 44 6 rfl) (fun I9009 eI9009 => ?_)
          have hI9009 : XI g n L I9009 := by rw [eI9009]; exact (xi_f hy hI8994 (c := 44) (0) (0) (1) (by decide) (Or.inl (by decide)) (by decide) (by omega) (by omega))
          have e9010 : I9009 (ad g 1) 1 = L := by rw [eI9009, pp_ne _ _ (Or.inl (lyx_ne hy (by decide) (by decide) (by decide)))]; exact e8995
          have e9011 : I9009 (ad g 6) 4 = v8360 := by rw [eI9009, pp_ne _ _ (Or.inl (lyx_ne hy (by decide) (by decide) (by decide)))]; exact e8996
          have e9012 : I9009 (ad g 44) 0 = v8791 := by rw [eI9009, pp_ne _ _ (Or.inr (by decide))]; exact e8997
          have e9013 : I9009 (ad g 44) 1 = v8797 := by rw [eI9009, pp_ne _ _ (Or.inr (by decide))]; exact e8998
          have e9014 : I9009 (ad g 44) 2 = v8804 := by rw [eI9009, pp_ne _ _ (Or.inr (by decide))]; exact e8999
          have e9015 : I9009 (ad g 44) 3 = v8817 := by rw [eI9009, pp_ne _ _ (Or.inr (by decide))]; exact e9000
          have e9016 : I9009 (ad g 44) 4 = v8955 := by rw [eI9009, pp_ne _ _ (Or.inr (by decide))]; exact e9001
          have e9017 : I9009 (ad g 44) 5 = v8966 := by rw [eI9009, pp_ne _ _ (Or.inr (by decide))]; exact e9002
          have e9018 : I9009 (ad g 44) 6 = v8978 := by rw [eI9009, pp_ne _ _ (Or.inr (by decide))]; exact e9003
          have e9019 : I9009 (ad g 44) 7 = v8993 := by rw [eI9009, pp_ne _ _ (Or.inr (by decide))]; exact e9004
          have e9020 : I9009 (ad g 44) 8 = v9008 := by rw [eI9009, pp_self]
          have fr9021 : fz 74 g [44] I I9009 := by rw [eI9009]; exact fzx_pp hy fr9005 (by decide) (by decide)
          clear eI9009
          exact WP_vret dX6_load_215 rfl ⟨⟨hI9009, rfl, fr9021, rfl, (by
                have yill : I (ad g (6 + 5)) so.toInt.toNat >>> (nI da.toInt.toNat &&& 31) &&& 1 = v8364 := by rw [show I (ad g (6 + 5)) so.toInt.toNat = v8361 from yv8361, show nI da.toInt.toNat = da from (eq32 _ _).mpr (by rw [nI_toInt (by omega)]; omega), xv8364, xv8362, (eq32 v8363 1).mpr hv8363]
                have yst : I (ad g 6) 4 = v8360 := est
                unfold LD
                simp only [e9012, e9013, e9014, e9015, e9016, e9017, e9018, e9019, yill, yst, show I (ad g (6 + 7)) _ = _ from yv8791, show I (ad g (6 + 8)) _ = _ from yv8797, show I (ad g (6 + 9)) _ = _ from yv8804, yv8817, true_and, and_true]
                omega)⟩, rfl⟩
        · refine WQ_iconst (1) (1) dX6_load_207 rfl rfl (fun v9022 hv9022 => ?_)
          refine WP_goto 212 dX6_load_208 rfl ?_
          refine WQ_putz dX6_load_212 fX6_67 rfl rfl (by omega) (lyx_is hy 44 6 rfl) (fun I9023 eI9023 => ?_)
          have hI9023 : XI g n L I9023 := by rw [eI9023]; exact (xi_f hy hI8994 (c := 44) (0) (0) (1) (by decide) (Or.inl (by decide)) (by decide) (by omega) (by omega))
          have e9024 : I9023 (ad g 1) 1 = L := by rw [eI9023, pp_ne _ _ (Or.inl (lyx_ne hy (by decide) (by decide) (by decide)))]; exact e8995
          have e9025 : I9023 (ad g 6) 4 = v8360 := by rw [eI9023, pp_ne _ _ (Or.inl (lyx_ne hy (by decide) (by decide) (by decide)))]; exact e8996
          have e9026 : I9023 (ad g 44) 0 = v8791 := by rw [eI9023, pp_ne _ _ (Or.inr (by decide))]; exact e8997
          have e9027 : I9023 (ad g 44) 1 = v8797 := by rw [eI9023, pp_ne _ _ (Or.inr (by decide))]; exact e8998
          have e9028 : I9023 (ad g 44) 2 = v8804 := by rw [eI9023, pp_ne _ _ (Or.inr (by decide))]; exact e8999
          have e9029 : I9023 (ad g 44) 3 = v8817 := by rw [eI9023, pp_ne _ _ (Or.inr (by decide))]; exact e9000
          have e9030 : I9023 (ad g 44) 4 = v8955 := by rw [eI9023, pp_ne _ _ (Or.inr (by decide))]; exact e9001
          have e9031 : I9023 (ad g 44) 5 = v8966 := by rw [eI9023, pp_ne _ _ (Or.inr (by decide))]; exact e9002
          have e9032 : I9023 (ad g 44) 6 = v8978 := by rw [eI9023, pp_ne _ _ (Or.inr (by decide))]; exact e9003
          have e9033 : I9023 (ad g 44) 7 = v8993 := by rw [eI9023, pp_ne _ _ (Or.inr (by decide))]; exact e9004
          have e9034 : I9023 (ad g 44) 8 = v9022 := by rw [eI9023, pp_self]
          have fr9035 : fz 74 g [44] I I9023 := by rw [eI9023]; exact fzx_pp hy fr9005 (by decide) (by decide)
          clear eI9023
          exact WP_vret dX6_load_215 rfl ⟨⟨hI9023, rfl, fr9035, rfl, (by
                have yill : I (ad g (6 + 5)) so.toInt.toNat >>> (nI da.toInt.toNat &&& 31) &&& 1 = v8364 := by rw [show I (ad g (6 + 5)) so.toInt.toNat = v8361 from yv8361, show nI da.toInt.toNat = da from (eq32 _ _).mpr (by rw [nI_toInt (by omega)]; omega), xv8364, xv8362, (eq32 v8363 1).mpr hv8363]
                have yst : I (ad g 6) 4 = v8360 := est
                unfold LD
                simp only [e9026, e9027, e9028, e9029, e9030, e9031, e9032, e9033, yill, yst, show I (ad g (6 + 7)) _ = _ from yv8791, show I (ad g (6 + 8)) _ = _ from yv8797, show I (ad g (6 + 9)) _ = _ from yv8804, yv8817, true_and, and_true]
                omega)⟩, rfl⟩
    · refine WQ_iconst (0) (0) dX6_load_87 rfl rfl (fun v9036 hv9036 => ?_)
      refine WP_goto 105 dX6_load_88 rfl ?_
      refine WQ_puti dX6_load_105 fX6_48 rfl rfl (lyx_is hy 44 6 rfl) (fun I9037 eI9037 => ?_)
      have hI9037 : XI g n L I9037 := by rw [eI9037]; exact (xi_f hy hI8805 (c := 44) (0) (0) (20) (by decide) (Or.inl (by decide)) (by decide) (by omega) (by omega))
      have e9038 : I9037 (ad g 1) 1 = L := by rw [eI9037, pp_ne _ _ (Or.inl (lyx_ne hy (by decide) (by decide) (by decide)))]; exact e8806
      have e9039 : I9037 (ad g 6) 4 = v8360 := by rw [eI9037, pp_ne _ _ (Or.inl (lyx_ne hy (by decide) (by decide) (by decide)))]; exact e8807
      have e9040 : I9037 (ad g 44) 0 = v8791 := by rw [eI9037, pp_ne _ _ (Or.inr (by decide))]; exact e8808
      have e9041 : I9037 (ad g 44) 1 = v8797 := by rw [eI9037, pp_ne _ _ (Or.inr (by decide))]; exact e8809
      have e9042 : I9037 (ad g 44) 2 = v8804 := by rw [eI9037, pp_ne _ _ (Or.inr (by decide))]; exact e8810
      have e9043 : I9037 (ad g 44) 3 = v9036 := by rw [eI9037, pp_self]
      have fr9044 : fz 74 g [44] I I9037 := by rw [eI9037]; exact fzx_pp hy fr8811 (by decide) (by decide)
      clear eI9037
      refine WP_aload_n dX6_load_108 rfl ?_
      refine WP_iload dX6_load_109 rfl ?_
      refine WQ_iconst (-1) (-1) dX6_load_111 rfl rfl (fun v9045 hv9045 => ?_)
      refine WQ_icmp_ne 119 dX6_load_112 rfl (fun c9045 => ?_) (fun c9045 => ?_)
      · refine WP_aload_n dX6_load_119 rfl ?_
        refine WP_getr dX6_load_120 fX6_45 rfl (lyx_is hy 5 0 rfl) (rfx hr 5 1 22 (by decide)) ?_
        refine WP_iload dX6_load_123 rfl ?_
        refine WQ_bipush (7) (7) dX6_load_125 rfl rfl (fun v9047 hv9047 => ?_)
        refine WQ_imulk (7) dX6_load_127 hv9047 (by omega) (by omega) (fun v9048 hv9048 => ?_)
        refine WP_iload_n dX6_load_128 rfl ?_
        refine WQ_iadd dX6_load_129 (by omega) (by omega) (fun v9049 hv9049 => ?_)
        refine WQ_ialdb dX6_load_130 (lyx_is hy 22 13 rfl) (lyx_n hy 22 21 rfl) (by omega) (by omega) (fun q hq => BT_get hI9037.1 22 0 21 (0) (0) (20) (by decide) q (Nat.zero_le _) hq) (fun v9050 av9050 bv9050 zv9050 => ?_)
        have yv9050 : I (ad g 22) (7 * v8360.toInt + da.toInt).toNat = v9050 := by rw [← fz_at fr9044 22 (by decide) (by decide), show (7 * v8360.toInt + da.toInt).toNat = v9049.toInt.toNat by omega]; exact zv9050
        refine WQ_puti dX6_load_131 fX6_51 rfl rfl (lyx_is hy 44 6 rfl) (fun I9051 eI9051 => ?_)
        have hI9051 : XI g n L I9051 := by rw [eI9051]; exact (xi_f hy hI9037 (c := 44) (0) (0) (20) (by decide) (Or.inl (by decide)) (by decide) (by omega) (by omega))
        have e9052 : I9051 (ad g 1) 1 = L := by rw [eI9051, pp_ne _ _ (Or.inl (lyx_ne hy (by decide) (by decide) (by decide)))]; exact e9038
        have e9053 : I9051 (ad g 6) 4 = v8360 := by rw [eI9051, pp_ne _ _ (Or.inl (lyx_ne hy (by decide) (by decide) (by decide)))]; exact e9039
        have e9054 : I9051 (ad g 44) 0 = v8791 := by rw [eI9051, pp_ne _ _ (Or.inr (by decide))]; exact e9040
        have e9055 : I9051 (ad g 44) 1 = v8797 := by rw [eI9051, pp_ne _ _ (Or.inr (by decide))]; exact e9041
        have e9056 : I9051 (ad g 44) 2 = v8804 := by rw [eI9051, pp_ne _ _ (Or.inr (by decide))]; exact e9042
        have e9057 : I9051 (ad g 44) 3 = v9036 := by rw [eI9051, pp_ne _ _ (Or.inr (by decide))]; exact e9043
        have e9058 : I9051 (ad g 44) 4 = v9050 := by rw [eI9051, pp_self]
        have fr9059 : fz 74 g [44] I I9051 := by rw [eI9051]; exact fzx_pp hy fr9044 (by decide) (by decide)
        clear eI9051
        refine WP_aload_n dX6_load_134 rfl ?_
        refine WP_iload dX6_load_135 rfl ?_
        refine WQ_if_eq 144 dX6_load_137 rfl (fun c9059 => False.elim (by omega)) (fun c9059 => ?_)
        refine WQ_iconst (0) (0) dX6_load_140 rfl rfl (fun v9061 hv9061 => ?_)
        refine WP_goto 148 dX6_load_141 rfl ?_
        refine WQ_puti dX6_load_148 fX6_54 rfl rfl (lyx_is hy 44 6 rfl) (fun I9062 eI9062 => ?_)
        have hI9062 : XI g n L I9062 := by rw [eI9062]; exact (xi_f hy hI9051 (c := 44) (0) (0) (3) (by decide) (Or.inl (by decide)) (by decide) (by omega) (by omega))
        have e9063 : I9062 (ad g 1) 1 = L := by rw [eI9062, pp_ne _ _ (Or.inl (lyx_ne hy (by decide) (by decide) (by decide)))]; exact e9052
        have e9064 : I9062 (ad g 6) 4 = v8360 := by rw [eI9062, pp_ne _ _ (Or.inl (lyx_ne hy (by decide) (by decide) (by decide)))]; exact e9053
        have e9065 : I9062 (ad g 44) 0 = v8791 := by rw [eI9062, pp_ne _ _ (Or.inr (by decide))]; exact e9054
        have e9066 : I9062 (ad g 44) 1 = v8797 := by rw [eI9062, pp_ne _ _ (Or.inr (by decide))]; exact e9055
        have e9067 : I9062 (ad g 44) 2 = v8804 := by rw [eI9062, pp_ne _ _ (Or.inr (by decide))]; exact e9056
        have e9068 : I9062 (ad g 44) 3 = v9036 := by rw [eI9062, pp_ne _ _ (Or.inr (by decide))]; exact e9057
        have e9069 : I9062 (ad g 44) 4 = v9050 := by rw [eI9062, pp_ne _ _ (Or.inr (by decide))]; exact e9058
        have e9070 : I9062 (ad g 44) 5 = v9061 := by rw [eI9062, pp_self]
        have fr9071 : fz 74 g [44] I I9062 := by rw [eI9062]; exact fzx_pp hy fr9059 (by decide) (by decide)
        clear eI9062
        refine WP_aload_n dX6_load_151 rfl ?_
        refine WP_iload dX6_load_152 rfl ?_
        refine WQ_if_ne 163 dX6_load_154 rfl (fun c9071 => ?_) (fun c9071 => False.elim (by omega))
        refine WQ_iconst (0) (0) dX6_load_163 rfl rfl (fun v9073 hv9073 => ?_)
        refine WP_goto 168 dX6_load_164 rfl ?_
        refine WQ_puti dX6_load_168 fX6_57 rfl rfl (lyx_is hy 44 6 rfl) (fun I9074 eI9074 => ?_)
        have hI9074 : XI g n L I9074 := by rw [eI9074]; exact (xi_f hy hI9062 (c := 44) (0) (0) (2) (by decide) (Or.inl (by decide)) (by decide) (by omega) (by omega))
        have e9075 : I9074 (ad g 1) 1 = L := by rw [eI9074, pp_ne _ _ (Or.inl (lyx_ne hy (by decide) (by decide) (by decide)))]; exact e9063
        have e9076 : I9074 (ad g 6) 4 = v8360 := by rw [eI9074, pp_ne _ _ (Or.inl (lyx_ne hy (by decide) (by decide) (by decide)))]; exact e9064
        have e9077 : I9074 (ad g 44) 0 = v8791 := by rw [eI9074, pp_ne _ _ (Or.inr (by decide))]; exact e9065
        have e9078 : I9074 (ad g 44) 1 = v8797 := by rw [eI9074, pp_ne _ _ (Or.inr (by decide))]; exact e9066
        have e9079 : I9074 (ad g 44) 2 = v8804 := by rw [eI9074, pp_ne _ _ (Or.inr (by decide))]; exact e9067
        have e9080 : I9074 (ad g 44) 3 = v9036 := by rw [eI9074, pp_ne _ _ (Or.inr (by decide))]; exact e9068
        have e9081 : I9074 (ad g 44) 4 = v9050 := by rw [eI9074, pp_ne _ _ (Or.inr (by decide))]; exact e9069
        have e9082 : I9074 (ad g 44) 5 = v9061 := by rw [eI9074, pp_ne _ _ (Or.inr (by decide))]; exact e9070
        have e9083 : I9074 (ad g 44) 6 = v9073 := by rw [eI9074, pp_self]
        have fr9084 : fz 74 g [44] I I9074 := by rw [eI9074]; exact fzx_pp hy fr9071 (by decide) (by decide)
        clear eI9074
        refine WP_aload_n dX6_load_171 rfl ?_
        refine WP_aload_n dX6_load_172 rfl ?_
        refine WQ_getim dX6_load_173 fX6_9 rfl (lyx_is hy 44 6 rfl) e9077 ?_
        refine WQ_iconst (-1) (-1) dX6_load_176 rfl rfl (fun v9085 hv9085 => ?_)
        refine WQ_icmp_eq 193 dX6_load_177 rfl (fun c9085 => ?_) (fun c9085 => False.elim (by omega))
        refine WQ_iconst (0) (0) dX6_load_193 rfl rfl (fun v9087 hv9087 => ?_)
        refine WQ_putz dX6_load_194 fX6_60 rfl rfl (by omega) (lyx_is hy 44 6 rfl) (fun I9088 eI9088 => ?_)
        have hI9088 : XI g n L I9088 := by rw [eI9088]; exact (xi_f hy hI9074 (c := 44) (0) (0) (1) (by decide) (Or.inl (by decide)) (by decide) (by omega) (by omega))
        have e9089 : I9088 (ad g 1) 1 = L := by rw [eI9088, pp_ne _ _ (Or.inl (lyx_ne hy (by decide) (by decide) (by decide)))]; exact e9075
        have e9090 : I9088 (ad g 6) 4 = v8360 := by rw [eI9088, pp_ne _ _ (Or.inl (lyx_ne hy (by decide) (by decide) (by decide)))]; exact e9076
        have e9091 : I9088 (ad g 44) 0 = v8791 := by rw [eI9088, pp_ne _ _ (Or.inr (by decide))]; exact e9077
        have e9092 : I9088 (ad g 44) 1 = v8797 := by rw [eI9088, pp_ne _ _ (Or.inr (by decide))]; exact e9078
        have e9093 : I9088 (ad g 44) 2 = v8804 := by rw [eI9088, pp_ne _ _ (Or.inr (by decide))]; exact e9079
        have e9094 : I9088 (ad g 44) 3 = v9036 := by rw [eI9088, pp_ne _ _ (Or.inr (by decide))]; exact e9080
        have e9095 : I9088 (ad g 44) 4 = v9050 := by rw [eI9088, pp_ne _ _ (Or.inr (by decide))]; exact e9081
        have e9096 : I9088 (ad g 44) 5 = v9061 := by rw [eI9088, pp_ne _ _ (Or.inr (by decide))]; exact e9082
        have e9097 : I9088 (ad g 44) 6 = v9073 := by rw [eI9088, pp_ne _ _ (Or.inr (by decide))]; exact e9083
        have e9098 : I9088 (ad g 44) 7 = v9087 := by rw [eI9088, pp_self]
        have fr9099 : fz 74 g [44] I I9088 := by rw [eI9088]; exact fzx_pp hy fr9084 (by decide) (by decide)
        clear eI9088
        refine WP_aload_n dX6_load_197 rfl ?_
        refine WP_aload_n dX6_load_198 rfl ?_
        refine WP_getr dX6_load_199 fX6_64 rfl (lyx_is hy 5 0 rfl) (rfx hr 5 2 23 (by decide)) ?_
        refine WP_iload_n dX6_load_202 rfl ?_
        refine WQ_iald dX6_load_203 (lyx_is hy 23 13 rfl) (lyx_n hy 23 7 rfl) (by omega) (by omega) (fun q hq => BT_get hI9088.1 23 0 7 (0) (0) (900) (by decide) q (Nat.zero_le _) hq) (fun v9100 av9100 bv9100 ev9100 => ?_)
        clear ev9100
        refine WQ_if_le 211 dX6_load_204 rfl (fun c9100 => ?_) (fun c9100 => ?_)
        · refine WQ_iconst (0) (0) dX6_load_211 rfl rfl (fun v9102 hv9102 => ?_)
          refine WQ_putz dX6_load_212 fX6_67 rfl rfl (by omega) (lyx_is hy 44 6 rfl) (fun I9103 eI9103 => ?_)
          have hI9103 : XI g n L I9103 := by rw [eI9103]; exact (xi_f hy hI9088 (c := 44) (0) (0) (1) (by decide) (Or.inl (by decide)) (by decide) (by omega) (by omega))
          have e9104 : I9103 (ad g 1) 1 = L := by rw [eI9103, pp_ne _ _ (Or.inl (lyx_ne hy (by decide) (by decide) (by decide)))]; exact e9089
          have e9105 : I9103 (ad g 6) 4 = v8360 := by rw [eI9103, pp_ne _ _ (Or.inl (lyx_ne hy (by decide) (by decide) (by decide)))]; exact e9090
          have e9106 : I9103 (ad g 44) 0 = v8791 := by rw [eI9103, pp_ne _ _ (Or.inr (by decide))]; exact e9091
          have e9107 : I9103 (ad g 44) 1 = v8797 := by rw [eI9103, pp_ne _ _ (Or.inr (by decide))]; exact e9092
          have e9108 : I9103 (ad g 44) 2 = v8804 := by rw [eI9103, pp_ne _ _ (Or.inr (by decide))]; exact e9093
          have e9109 : I9103 (ad g 44) 3 = v9036 := by rw [eI9103, pp_ne _ _ (Or.inr (by decide))]; exact e9094
          have e9110 : I9103 (ad g 44) 4 = v9050 := by rw [eI9103, pp_ne _ _ (Or.inr (by decide))]; exact e9095
          have e9111 : I9103 (ad g 44) 5 = v9061 := by rw [eI9103, pp_ne _ _ (Or.inr (by decide))]; exact e9096
          have e9112 : I9103 (ad g 44) 6 = v9073 := by rw [eI9103, pp_ne _ _ (Or.inr (by decide))]; exact e9097
          have e9113 : I9103 (ad g 44) 7 = v9087 := by rw [eI9103, pp_ne _ _ (Or.inr (by decide))]; exact e9098
          have e9114 : I9103 (ad g 44) 8 = v9102 := by rw [eI9103, pp_self]
          have fr9115 : fz 74 g [44] I I9103 := by rw [eI9103]; exact fzx_pp hy fr9099 (by decide) (by decide)
          clear eI9103
          exact WP_vret dX6_load_215 rfl ⟨⟨hI9103, rfl, fr9115, rfl, (by
                have yill : I (ad g (6 + 5)) so.toInt.toNat >>> (nI da.toInt.toNat &&& 31) &&& 1 = v8364 := by rw [show I (ad g (6 + 5)) so.toInt.toNat = v8361 from yv8361, show nI da.toInt.toNat = da from (eq32 _ _).mpr (by rw [nI_toInt (by omega)]; omega), xv8364, xv8362, (eq32 v8363 1).mpr hv8363]
                have yst : I (ad g 6) 4 = v8360 := est
                unfold LD
                simp only [e9106, e9107, e9108, e9109, e9110, e9111, e9112, e9113, yill, yst, show I (ad g (6 + 7)) _ = _ from yv8791, show I (ad g (6 + 8)) _ = _ from yv8797, show I (ad g (6 + 9)) _ = _ from yv8804, yv9050, true_and, and_true]
                omega)⟩, rfl⟩
        · refine WQ_iconst (1) (1) dX6_load_207 rfl rfl (fun v9116 hv9116 => ?_)
          refine WP_goto 212 dX6_load_208 rfl ?_
          refine WQ_putz dX6_load_212 fX6_67 rfl rfl (by omega) (lyx_is hy 44 6 rfl) (fun I9117 eI9117 => ?_)
          have hI9117 : XI g n L I9117 := by rw [eI9117]; exact (xi_f hy hI9088 (c := 44) (0) (0) (1) (by decide) (Or.inl (by decide)) (by decide) (by omega) (by omega))
          have e9118 : I9117 (ad g 1) 1 = L := by rw [eI9117, pp_ne _ _ (Or.inl (lyx_ne hy (by decide) (by decide) (by decide)))]; exact e9089
          have e9119 : I9117 (ad g 6) 4 = v8360 := by rw [eI9117, pp_ne _ _ (Or.inl (lyx_ne hy (by decide) (by decide) (by decide)))]; exact e9090
          have e9120 : I9117 (ad g 44) 0 = v8791 := by rw [eI9117, pp_ne _ _ (Or.inr (by decide))]; exact e9091
          have e9121 : I9117 (ad g 44) 1 = v8797 := by rw [eI9117, pp_ne _ _ (Or.inr (by decide))]; exact e9092
          have e9122 : I9117 (ad g 44) 2 = v8804 := by rw [eI9117, pp_ne _ _ (Or.inr (by decide))]; exact e9093
          have e9123 : I9117 (ad g 44) 3 = v9036 := by rw [eI9117, pp_ne _ _ (Or.inr (by decide))]; exact e9094
          have e9124 : I9117 (ad g 44) 4 = v9050 := by rw [eI9117, pp_ne _ _ (Or.inr (by decide))]; exact e9095
          have e9125 : I9117 (ad g 44) 5 = v9061 := by rw [eI9117, pp_ne _ _ (Or.inr (by decide))]; exact e9096
          have e9126 : I9117 (ad g 44) 6 = v9073 := by rw [eI9117, pp_ne _ _ (Or.inr (by decide))]; exact e9097
          have e9127 : I9117 (ad g 44) 7 = v9087 := by rw [eI9117, pp_ne _ _ (Or.inr (by decide))]; exact e9098
          have e9128 : I9117 (ad g 44) 8 = v9116 := by rw [eI9117, pp_self]
          have fr9129 : fz 74 g [44] I I9117 := by rw [eI9117]; exact fzx_pp hy fr9099 (by decide) (by decide)
          clear eI9117
          exact WP_vret dX6_load_215 rfl ⟨⟨hI9117, rfl, fr9129, rfl, (by
                have yill : I (ad g (6 + 5)) so.toInt.toNat >>> (nI da.toInt.toNat &&& 31) &&& 1 = v8364 := by rw [show I (ad g (6 + 5)) so.toInt.toNat = v8361 from yv8361, show nI da.toInt.toNat = da from (eq32 _ _).mpr (by rw [nI_toInt (by omega)]; omega), xv8364, xv8362, (eq32 v8363 1).mpr hv8363]
                have yst : I (ad g 6) 4 = v8360 := est
                unfold LD
                simp only [e9120, e9121, e9122, e9123, e9124, e9125, e9126, e9127, yill, yst, show I (ad g (6 + 7)) _ = _ from yv8791, show I (ad g (6 + 8)) _ = _ from yv8797, show I (ad g (6 + 9)) _ = _ from yv8804, yv9050, true_and, and_true]
                omega)⟩, rfl⟩
      · refine WQ_iconst (0) (0) dX6_load_115 rfl rfl (fun v9130 hv9130 => ?_)
        refine WP_goto 131 dX6_load_116 rfl ?_
        refine WQ_puti dX6_load_131 fX6_51 rfl rfl (lyx_is hy 44 6 rfl) (fun I9131 eI9131 => ?_)
        have hI9131 : XI g n L I9131 := by rw [eI9131]; exact (xi_f hy hI9037 (c := 44) (0) (0) (20) (by decide) (Or.inl (by decide)) (by decide) (by omega) (by omega))
        have e9132 : I9131 (ad g 1) 1 = L := by rw [eI9131, pp_ne _ _ (Or.inl (lyx_ne hy (by decide) (by decide) (by decide)))]; exact e9038
        have e9133 : I9131 (ad g 6) 4 = v8360 := by rw [eI9131, pp_ne _ _ (Or.inl (lyx_ne hy (by decide) (by decide) (by decide)))]; exact e9039
        have e9134 : I9131 (ad g 44) 0 = v8791 := by rw [eI9131, pp_ne _ _ (Or.inr (by decide))]; exact e9040
        have e9135 : I9131 (ad g 44) 1 = v8797 := by rw [eI9131, pp_ne _ _ (Or.inr (by decide))]; exact e9041
        have e9136 : I9131 (ad g 44) 2 = v8804 := by rw [eI9131, pp_ne _ _ (Or.inr (by decide))]; exact e9042
        have e9137 : I9131 (ad g 44) 3 = v9036 := by rw [eI9131, pp_ne _ _ (Or.inr (by decide))]; exact e9043
        have e9138 : I9131 (ad g 44) 4 = v9130 := by rw [eI9131, pp_self]
        have fr9139 : fz 74 g [44] I I9131 := by rw [eI9131]; exact fzx_pp hy fr9044 (by decide) (by decide)
        clear eI9131
        refine WP_aload_n dX6_load_134 rfl ?_
        refine WP_iload dX6_load_135 rfl ?_
        refine WQ_if_eq 144 dX6_load_137 rfl (fun c9139 => False.elim (by omega)) (fun c9139 => ?_)
        refine WQ_iconst (0) (0) dX6_load_140 rfl rfl (fun v9141 hv9141 => ?_)
        refine WP_goto 148 dX6_load_141 rfl ?_
        refine WQ_puti dX6_load_148 fX6_54 rfl rfl (lyx_is hy 44 6 rfl) (fun I9142 eI9142 => ?_)
        have hI9142 : XI g n L I9142 := by rw [eI9142]; exact (xi_f hy hI9131 (c := 44) (0) (0) (3) (by decide) (Or.inl (by decide)) (by decide) (by omega) (by omega))
        have e9143 : I9142 (ad g 1) 1 = L := by rw [eI9142, pp_ne _ _ (Or.inl (lyx_ne hy (by decide) (by decide) (by decide)))]; exact e9132
        have e9144 : I9142 (ad g 6) 4 = v8360 := by rw [eI9142, pp_ne _ _ (Or.inl (lyx_ne hy (by decide) (by decide) (by decide)))]; exact e9133
        have e9145 : I9142 (ad g 44) 0 = v8791 := by rw [eI9142, pp_ne _ _ (Or.inr (by decide))]; exact e9134
        have e9146 : I9142 (ad g 44) 1 = v8797 := by rw [eI9142, pp_ne _ _ (Or.inr (by decide))]; exact e9135
        have e9147 : I9142 (ad g 44) 2 = v8804 := by rw [eI9142, pp_ne _ _ (Or.inr (by decide))]; exact e9136
        have e9148 : I9142 (ad g 44) 3 = v9036 := by rw [eI9142, pp_ne _ _ (Or.inr (by decide))]; exact e9137
        have e9149 : I9142 (ad g 44) 4 = v9130 := by rw [eI9142, pp_ne _ _ (Or.inr (by decide))]; exact e9138
        have e9150 : I9142 (ad g 44) 5 = v9141 := by rw [eI9142, pp_self]
        have fr9151 : fz 74 g [44] I I9142 := by rw [eI9142]; exact fzx_pp hy fr9139 (by decide) (by decide)
        clear eI9142
        refine WP_aload_n dX6_load_151 rfl ?_
        refine WP_iload dX6_load_152 rfl ?_
        refine WQ_if_ne 163 dX6_load_154 rfl (fun c9151 => ?_) (fun c9151 => False.elim (by omega))
        refine WQ_iconst (0) (0) dX6_load_163 rfl rfl (fun v9153 hv9153 => ?_)
        refine WP_goto 168 dX6_load_164 rfl ?_
        refine WQ_puti dX6_load_168 fX6_57 rfl rfl (lyx_is hy 44 6 rfl) (fun I9154 eI9154 => ?_)
        have hI9154 : XI g n L I9154 := by rw [eI9154]; exact (xi_f hy hI9142 (c := 44) (0) (0) (2) (by decide) (Or.inl (by decide)) (by decide) (by omega) (by omega))
        have e9155 : I9154 (ad g 1) 1 = L := by rw [eI9154, pp_ne _ _ (Or.inl (lyx_ne hy (by decide) (by decide) (by decide)))]; exact e9143
        have e9156 : I9154 (ad g 6) 4 = v8360 := by rw [eI9154, pp_ne _ _ (Or.inl (lyx_ne hy (by decide) (by decide) (by decide)))]; exact e9144
        have e9157 : I9154 (ad g 44) 0 = v8791 := by rw [eI9154, pp_ne _ _ (Or.inr (by decide))]; exact e9145
        have e9158 : I9154 (ad g 44) 1 = v8797 := by rw [eI9154, pp_ne _ _ (Or.inr (by decide))]; exact e9146
        have e9159 : I9154 (ad g 44) 2 = v8804 := by rw [eI9154, pp_ne _ _ (Or.inr (by decide))]; exact e9147
        have e9160 : I9154 (ad g 44) 3 = v9036 := by rw [eI9154, pp_ne _ _ (Or.inr (by decide))]; exact e9148
        have e9161 : I9154 (ad g 44) 4 = v9130 := by rw [eI9154, pp_ne _ _ (Or.inr (by decide))]; exact e9149
        have e9162 : I9154 (ad g 44) 5 = v9141 := by rw [eI9154, pp_ne _ _ (Or.inr (by decide))]; exact e9150
        have e9163 : I9154 (ad g 44) 6 = v9153 := by rw [eI9154, pp_self]
        have fr9164 : fz 74 g [44] I I9154 := by rw [eI9154]; exact fzx_pp hy fr9151 (by decide) (by decide)
        clear eI9154
        refine WP_aload_n dX6_load_171 rfl ?_
        refine WP_aload_n dX6_load_172 rfl ?_
        refine WQ_getim dX6_load_173 fX6_9 rfl (lyx_is hy 44 6 rfl) e9157 ?_
        refine WQ_iconst (-1) (-1) dX6_load_176 rfl rfl (fun v9165 hv9165 => ?_)
        refine WQ_icmp_eq 193 dX6_load_177 rfl (fun c9165 => ?_) (fun c9165 => False.elim (by omega))
        refine WQ_iconst (0) (0) dX6_load_193 rfl rfl (fun v9167 hv9167 => ?_)
        refine WQ_putz dX6_load_194 fX6_60 rfl rfl (by omega) (lyx_is hy 44 6 rfl) (fun I9168 eI9168 => ?_)
        have hI9168 : XI g n L I9168 := by rw [eI9168]; exact (xi_f hy hI9154 (c := 44) (0) (0) (1) (by decide) (Or.inl (by decide)) (by decide) (by omega) (by omega))
        have e9169 : I9168 (ad g 1) 1 = L := by rw [eI9168, pp_ne _ _ (Or.inl (lyx_ne hy (by decide) (by decide) (by decide)))]; exact e9155
        have e9170 : I9168 (ad g 6) 4 = v8360 := by rw [eI9168, pp_ne _ _ (Or.inl (lyx_ne hy (by decide) (by decide) (by decide)))]; exact e9156
        have e9171 : I9168 (ad g 44) 0 = v8791 := by rw [eI9168, pp_ne _ _ (Or.inr (by decide))]; exact e9157
        have e9172 : I9168 (ad g 44) 1 = v8797 := by rw [eI9168, pp_ne _ _ (Or.inr (by decide))]; exact e9158
        have e9173 : I9168 (ad g 44) 2 = v8804 := by rw [eI9168, pp_ne _ _ (Or.inr (by decide))]; exact e9159
        have e9174 : I9168 (ad g 44) 3 = v9036 := by rw [eI9168, pp_ne _ _ (Or.inr (by decide))]; exact e9160
        have e9175 : I9168 (ad g 44) 4 = v9130 := by rw [eI9168, pp_ne _ _ (Or.inr (by decide))]; exact e9161
        have e9176 : I9168 (ad g 44) 5 = v9141 := by rw [eI9168, pp_ne _ _ (Or.inr (by decide))]; exact e9162
        have e9177 : I9168 (ad g 44) 6 = v9153 := by rw [eI9168, pp_ne _ _ (Or.inr (by decide))]; exact e9163
        have e9178 : I9168 (ad g 44) 7 = v9167 := by rw [eI9168, pp_self]
        have fr9179 : fz 74 g [44] I I9168 := by rw [eI9168]; exact fzx_pp hy fr9164 (by decide) (by decide)
        clear eI9168
        refine WP_aload_n dX6_load_197 rfl ?_
        refine WP_aload_n dX6_load_198 rfl ?_
        refine WP_getr dX6_load_199 fX6_64 rfl (lyx_is hy 5 0 rfl) (rfx hr 5 2 23 (by decide)) ?_
        refine WP_iload_n dX6_load_202 rfl ?_
        refine WQ_iald dX6_load_203 (lyx_is hy 23 13 rfl) (lyx_n hy 23 7 rfl) (by omega) (by omega) (fun q hq => BT_get hI9168.1 23 0 7 (0) (0) (900) (by decide) q (Nat.zero_le _) hq) (fun v9180 av9180 bv9180 ev9180 => ?_)
        clear ev9180
        refine WQ_if_le 211 dX6_load_204 rfl (fun c9180 => ?_) (fun c9180 => ?_)
        · refine WQ_iconst (0) (0) dX6_load_211 rfl rfl (fun v9182 hv9182 => ?_)
          refine WQ_putz dX6_load_212 fX6_67 rfl rfl (by omega) (lyx_is hy 44 6 rfl) (fun I9183 eI9183 => ?_)
          have hI9183 : XI g n L I9183 := by rw [eI9183]; exact (xi_f hy hI9168 (c := 44) (0) (0) (1) (by decide) (Or.inl (by decide)) (by decide) (by omega) (by omega))
          have e9184 : I9183 (ad g 1) 1 = L := by rw [eI9183, pp_ne _ _ (Or.inl (lyx_ne hy (by decide) (by decide) (by decide)))]; exact e9169
          have e9185 : I9183 (ad g 6) 4 = v8360 := by rw [eI9183, pp_ne _ _ (Or.inl (lyx_ne hy (by decide) (by decide) (by decide)))]; exact e9170
          have e9186 : I9183 (ad g 44) 0 = v8791 := by rw [eI9183, pp_ne _ _ (Or.inr (by decide))]; exact e9171
          have e9187 : I9183 (ad g 44) 1 = v8797 := by rw [eI9183, pp_ne _ _ (Or.inr (by decide))]; exact e9172
          have e9188 : I9183 (ad g 44) 2 = v8804 := by rw [eI9183, pp_ne _ _ (Or.inr (by decide))]; exact e9173
          have e9189 : I9183 (ad g 44) 3 = v9036 := by rw [eI9183, pp_ne _ _ (Or.inr (by decide))]; exact e9174
          have e9190 : I9183 (ad g 44) 4 = v9130 := by rw [eI9183, pp_ne _ _ (Or.inr (by decide))]; exact e9175
          have e9191 : I9183 (ad g 44) 5 = v9141 := by rw [eI9183, pp_ne _ _ (Or.inr (by decide))]; exact e9176
          have e9192 : I9183 (ad g 44) 6 = v9153 := by rw [eI9183, pp_ne _ _ (Or.inr (by decide))]; exact e9177
          have e9193 : I9183 (ad g 44) 7 = v9167 := by rw [eI9183, pp_ne _ _ (Or.inr (by decide))]; exact e9178
          have e9194 : I9183 (ad g 44) 8 = v9182 := by rw [eI9183, pp_self]
          have fr9195 : fz 74 g [44] I I9183 := by rw [eI9183]; exact fzx_pp hy fr9179 (by decide) (by decide)
          clear eI9183
          exact WP_vret dX6_load_215 rfl ⟨⟨hI9183, rfl, fr9195, rfl, (by
                have yill : I (ad g (6 + 5)) so.toInt.toNat >>> (nI da.toInt.toNat &&& 31) &&& 1 = v8364 := by rw [show I (ad g (6 + 5)) so.toInt.toNat = v8361 from yv8361, show nI da.toInt.toNat = da from (eq32 _ _).mpr (by rw [nI_toInt (by omega)]; omega), xv8364, xv8362, (eq32 v8363 1).mpr hv8363]
                have yst : I (ad g 6) 4 = v8360 := est
                unfold LD
                simp only [e9186, e9187, e9188, e9189, e9190, e9191, e9192, e9193, yill, yst, show I (ad g (6 + 7)) _ = _ from yv8791, show I (ad g (6 + 8)) _ = _ from yv8797, show I (ad g (6 + 9)) _ = _ from yv8804, true_and, and_true]
                omega)⟩, rfl⟩
        · refine WQ_iconst (1) (1) dX6_load_207 rfl rfl (fun v9196 hv9196 => ?_)
          refine WP_goto 212 dX6_load_208 rfl ?_
          refine WQ_putz dX6_load_212 fX6_67 rfl rfl (by omega) (lyx_is hy 44 6 rfl) (fun I9197 eI9197 => ?_)
          have hI9197 : XI g n L I9197 := by rw [eI9197]; exact (xi_f hy hI9168 (c := 44) (0) (0) (1) (by decide) (Or.inl (by decide)) (by decide) (by omega) (by omega))
          have e9198 : I9197 (ad g 1) 1 = L := by rw [eI9197, pp_ne _ _ (Or.inl (lyx_ne hy (by decide) (by decide) (by decide)))]; exact e9169
          have e9199 : I9197 (ad g 6) 4 = v8360 := by rw [eI9197, pp_ne _ _ (Or.inl (lyx_ne hy (by decide) (by decide) (by decide)))]; exact e9170
          have e9200 : I9197 (ad g 44) 0 = v8791 := by rw [eI9197, pp_ne _ _ (Or.inr (by decide))]; exact e9171
          have e9201 : I9197 (ad g 44) 1 = v8797 := by rw [eI9197, pp_ne _ _ (Or.inr (by decide))]; exact e9172
          have e9202 : I9197 (ad g 44) 2 = v8804 := by rw [eI9197, pp_ne _ _ (Or.inr (by decide))]; exact e9173
          have e9203 : I9197 (ad g 44) 3 = v9036 := by rw [eI9197, pp_ne _ _ (Or.inr (by decide))]; exact e9174
          have e9204 : I9197 (ad g 44) 4 = v9130 := by rw [eI9197, pp_ne _ _ (Or.inr (by decide))]; exact e9175
          have e9205 : I9197 (ad g 44) 5 = v9141 := by rw [eI9197, pp_ne _ _ (Or.inr (by decide))]; exact e9176
          have e9206 : I9197 (ad g 44) 6 = v9153 := by rw [eI9197, pp_ne _ _ (Or.inr (by decide))]; exact e9177
          have e9207 : I9197 (ad g 44) 7 = v9167 := by rw [eI9197, pp_ne _ _ (Or.inr (by decide))]; exact e9178
          have e9208 : I9197 (ad g 44) 8 = v9196 := by rw [eI9197, pp_self]
          have fr9209 : fz 74 g [44] I I9197 := by rw [eI9197]; exact fzx_pp hy fr9179 (by decide) (by decide)
          clear eI9197
          exact WP_vret dX6_load_215 rfl ⟨⟨hI9197, rfl, fr9209, rfl, (by
                have yill : I (ad g (6 + 5)) so.toInt.toNat >>> (nI da.toInt.toNat &&& 31) &&& 1 = v8364 := by rw [show I (ad g (6 + 5)) so.toInt.toNat = v8361 from yv8361, show nI da.toInt.toNat = da from (eq32 _ _).mpr (by rw [nI_toInt (by omega)]; omega), xv8364, xv8362, (eq32 v8363 1).mpr hv8363]
                have yst : I (ad g 6) 4 = v8360 := est
                unfold LD
                simp only [e9200, e9201, e9202, e9203, e9204, e9205, e9206, e9207, yill, yst, show I (ad g (6 + 7)) _ = _ from yv8791, show I (ad g (6 + 8)) _ = _ from yv8797, show I (ad g (6 + 9)) _ = _ from yv8804, true_and, and_true]
                omega)⟩, rfl⟩
set_option maxHeartbeats 4000000 in
set_option maxRecDepth 100000 in
theorem sx_loadx_44_27 {g : GG} {n : Int} {L : Int32} (hy : LyX g)  {I : pI} {J : pJ} {R : pR} (hr : RfX g R) (hT : R (ad g 5) 0 = some (ad g 27)) (hI : XI g n L I) (so : Int32) (da : Int32) (so_lo : 0 ≤ so.toInt) (so_hi : so.toInt ≤ 3) (da_lo : 0 ≤ da.toInt) (da_hi : da.toInt ≤ 6) : SP g mX6_load [.ref (ad g 44), .ref (ad g 5), .int so, .int da] I J R (fun r I' J' R' => (XI g n L I' ∧ R' = R ∧ fz 74 g [44] I I' ∧ J' = J ∧ LD g 27 I so.toInt da.toInt (I' (ad g 44))) ∧ r = none) := by
  refine SP_of ⟨by decide, rfl⟩ (Nat.le_of_ble_eq_true rfl) ?_
  have e9210 : I (ad g 1) 1 = L := hI.2
  have b9211 := BT_get hI.1 1 1 2 (0) (0) (900) (by decide) 1 (by decide) (by decide)
  rw [e9210] at b9211
  have fr0 : fz 74 g [44] I I := fz_rf
  refine WP_aload_n dX6_load_0 rfl ?_
  refine WP_getr dX6_load_1 fX6_15 rfl (lyx_is hy 5 0 rfl) hT ?_
  refine WP_astore (ls' := [(0, _), (1, _), (2, _), (3, _), (4, _)]) dX6_load_4 (by decide) rfl ?_
  refine WP_iload_n dX6_load_6 rfl ?_
  refine WQ_bipush (7) (7) dX6_load_7 rfl rfl (fun v9212 hv9212 => ?_)
  refine WQ_imulk (7) dX6_load_9 hv9212 (by omega) (by omega) (fun v9213 hv9213 => ?_)
  refine WP_iload_n dX6_load_10 rfl ?_
  refine WQ_iadd dX6_load_11 (by omega) (by omega) (fun v9214 hv9214 => ?_)
  refine WP_istore (ls' := [(0, _), (1, _), (2, _), (3, _), (4, _), (5, _)]) dX6_load_12 (by decide) rfl ?_
  refine WP_aload dX6_load_14 rfl ?_
  refine WQ_geti dX6_load_16 fX6_21 rfl (lyx_is hy 27 7 rfl) (BT_get hI.1 27 4 5 (-1) (0) (2) (by decide) 4 (by decide) (by decide)) (fun v9215 ev9215 av9215 bv9215 => ?_)
  have est : I (ad g 27) 4 = v9215 := ev9215
  refine WP_istore (ls' := [(0, _), (1, _), (2, _), (3, _), (4, _), (5, _), (6, _)]) dX6_load_19 (by decide) rfl ?_
  refine WP_aload dX6_load_21 rfl ?_
  refine WP_getr dX6_load_23 fX6_26 rfl (lyx_is hy 27 7 rfl) (rfx hr 27 9 32 (by decide)) ?_
  refine WP_iload_n dX6_load_26 rfl ?_
  refine WQ_ialdx dX6_load_27 (lyx_is hy 32 13 rfl) (lyx_n hy 32 4 rfl) (by omega) (by omega) (fun v9216 zv9216 => ?_)
  have yv9216 : I (ad g 32) (so.toInt).toNat = v9216 := by rw [← fz_at fr0 32 (by decide) (by decide), show (so.toInt).toNat = so.toInt.toNat by omega]; exact zv9216
  refine WP_iload_n dX6_load_28 rfl ?_
  refine WQ_ishrx dX6_load_29 (fun v9217 xv9217 => ?_)
  refine WQ_iconst (1) (1) dX6_load_30 rfl rfl (fun v9218 hv9218 => ?_)
  refine WQ_iandx dX6_load_31 (fun v9219 xv9219 => ?_)
  refine WQ_if_eq 39 dX6_load_32 rfl (fun c9219 => ?_) (fun c9219 => ?_)
  · refine WQ_iconst (0) (0) dX6_load_39 rfl rfl (fun v9221 hv9221 => ?_)
    refine WP_istore (ls' := [(0, _), (1, _), (2, _), (3, _), (4, _), (5, _), (6, _), (7, _)]) dX6_load_40 (by decide) rfl ?_
    refine WP_aload_n dX6_load_42 rfl ?_
    refine WP_aload dX6_load_43 rfl ?_
    refine WP_getr dX6_load_45 fX6_30 rfl (lyx_is hy 27 7 rfl) (rfx hr 27 11 34 (by decide)) ?_
    refine WP_iload dX6_load_48 rfl ?_
    refine WQ_ialdb dX6_load_50 (lyx_is hy 34 13 rfl) (lyx_n hy 34 28 rfl) (by omega) (by omega) (fun q hq => BT_get hI.1 34 0 28 (-1) (0) (2) (by decide) q (Nat.zero_le _) hq) (fun v9222 av9222 bv9222 zv9222 => ?_)
    have yv9222 : I (ad g 34) (7 * so.toInt + da.toInt).toNat = v9222 := by rw [← fz_at fr0 34 (by decide) (by decide), show (7 * so.toInt + da.toInt).toNat = v9214.toInt.toNat by omega]; exact zv9222
    refine WQ_puti dX6_load_51 fX6_9 rfl rfl (lyx_is hy 44 6 rfl) (fun I9223 eI9223 => ?_)
    have hI9223 : XI g n L I9223 := by rw [eI9223]; exact (xi_f hy hI (c := 44) (-1) (0) (2) (by decide) (Or.inl (by decide)) (by decide) (by omega) (by omega))
    have e9224 : I9223 (ad g 1) 1 = L := by rw [eI9223, pp_ne _ _ (Or.inl (lyx_ne hy (by decide) (by decide) (by decide)))]; exact e9210
    have e9225 : I9223 (ad g 27) 4 = v9215 := by rw [eI9223, pp_ne _ _ (Or.inl (lyx_ne hy (by decide) (by decide) (by decide)))]; exact ev9215
    have e9226 : I9223 (ad g 44) 0 = v9222 := by rw [eI9223, pp_self]
    have fr9227 : fz 74 g [44] I I9223 := by rw [eI9223]; exact fzx_pp hy fr0 (by decide) (by decide)
    clear eI9223
    refine WP_aload_n dX6_load_54 rfl ?_
    refine WP_aload dX6_load_55 rfl ?_
    refine WP_getr dX6_load_57 fX6_33 rfl (lyx_is hy 27 7 rfl) (rfx hr 27 12 35 (by decide)) ?_
    refine WP_iload dX6_load_60 rfl ?_
    refine WQ_ialdb dX6_load_62 (lyx_is hy 35 13 rfl) (lyx_n hy 35 28 rfl) (by omega) (by omega) (fun q hq => BT_get hI9223.1 35 0 28 (0) (0) (3) (by decide) q (Nat.zero_le _) hq) (fun v9228 av9228 bv9228 zv9228 => ?_)
    have yv9228 : I (ad g 35) (7 * so.toInt + da.toInt).toNat = v9228 := by rw [← fz_at fr9227 35 (by decide) (by decide), show (7 * so.toInt + da.toInt).toNat = v9214.toInt.toNat by omega]; exact zv9228
    refine WQ_puti dX6_load_63 fX6_36 rfl rfl (lyx_is hy 44 6 rfl) (fun I9229 eI9229 => ?_)
    have hI9229 : XI g n L I9229 := by rw [eI9229]; exact (xi_f hy hI9223 (c := 44) (0) (0) (3) (by decide) (Or.inl (by decide)) (by decide) (by omega) (by omega))
    have e9230 : I9229 (ad g 1) 1 = L := by rw [eI9229, pp_ne _ _ (Or.inl (lyx_ne hy (by decide) (by decide) (by decide)))]; exact e9224
    have e9231 : I9229 (ad g 27) 4 = v9215 := by rw [eI9229, pp_ne _ _ (Or.inl (lyx_ne hy (by decide) (by decide) (by decide)))]; exact e9225
    have e9232 : I9229 (ad g 44) 0 = v9222 := by rw [eI9229, pp_ne _ _ (Or.inr (by decide))]; exact e9226
    have e9233 : I9229 (ad g 44) 1 = v9228 := by rw [eI9229, pp_self]
    have fr9234 : fz 74 g [44] I I9229 := by rw [eI9229]; exact fzx_pp hy fr9227 (by decide) (by decide)
    clear eI9229
    refine WP_aload_n dX6_load_66 rfl ?_
    refine WP_aload dX6_load_67 rfl ?_
    refine WP_getr dX6_load_69 fX6_39 rfl (lyx_is hy 27 7 rfl) (rfx hr 27 13 36 (by decide)) ?_
    refine WP_iload dX6_load_72 rfl ?_
    refine WQ_ialdb dX6_load_74 (lyx_is hy 36 13 rfl) (lyx_n hy 36 28 rfl) (by omega) (by omega) (fun q hq => BT_get hI9229.1 36 0 28 (0) (0) (99) (by decide) q (Nat.zero_le _) hq) (fun v9235 av9235 bv9235 zv9235 => ?_)
    have yv9235 : I (ad g 36) (7 * so.toInt + da.toInt).toNat = v9235 := by rw [← fz_at fr9234 36 (by decide) (by decide), show (7 * so.toInt + da.toInt).toNat = v9214.toInt.toNat by omega]; exact zv9235
    refine WQ_puti dX6_load_75 fX6_42 rfl rfl (lyx_is hy 44 6 rfl) (fun I9236 eI9236 => ?_)
    have hI9236 : XI g n L I9236 := by rw [eI9236]; exact (xi_f hy hI9229 (c := 44) (0) (0) (99) (by decide) (Or.inl (by decide)) (by decide) (by omega) (by omega))
    have e9237 : I9236 (ad g 1) 1 = L := by rw [eI9236, pp_ne _ _ (Or.inl (lyx_ne hy (by decide) (by decide) (by decide)))]; exact e9230
    have e9238 : I9236 (ad g 27) 4 = v9215 := by rw [eI9236, pp_ne _ _ (Or.inl (lyx_ne hy (by decide) (by decide) (by decide)))]; exact e9231
    have e9239 : I9236 (ad g 44) 0 = v9222 := by rw [eI9236, pp_ne _ _ (Or.inr (by decide))]; exact e9232
    have e9240 : I9236 (ad g 44) 1 = v9228 := by rw [eI9236, pp_ne _ _ (Or.inr (by decide))]; exact e9233
    have e9241 : I9236 (ad g 44) 2 = v9235 := by rw [eI9236, pp_self]
    have fr9242 : fz 74 g [44] I I9236 := by rw [eI9236]; exact fzx_pp hy fr9234 (by decide) (by decide)
    clear eI9236
    refine WP_aload_n dX6_load_78 rfl ?_
    refine WP_aload_n dX6_load_79 rfl ?_
    refine WQ_getim dX6_load_80 fX6_9 rfl (lyx_is hy 44 6 rfl) e9239 ?_
    refine WQ_iconst (-1) (-1) dX6_load_83 rfl rfl (fun v9243 hv9243 => ?_)
    refine WQ_icmp_ne 91 dX6_load_84 rfl (fun c9243 => ?_) (fun c9243 => ?_)
    · refine WP_aload_n dX6_load_91 rfl ?_
      refine WP_getr dX6_load_92 fX6_45 rfl (lyx_is hy 5 0 rfl) (rfx hr 5 1 22 (by decide)) ?_
      refine WP_aload_n dX6_load_95 rfl ?_
      refine WQ_getim dX6_load_96 fX6_9 rfl (lyx_is hy 44 6 rfl) e9239 ?_
      refine WQ_bipush (7) (7) dX6_load_99 rfl rfl (fun v9245 hv9245 => ?_)
      refine WQ_imulk (7) dX6_load_101 hv9245 (by omega) (by omega) (fun v9246 hv9246 => ?_)
      refine WP_iload_n dX6_load_102 rfl ?_
      refine WQ_iadd dX6_load_103 (by omega) (by omega) (fun v9247 hv9247 => ?_)
      refine WQ_ialdb dX6_load_104 (lyx_is hy 22 13 rfl) (lyx_n hy 22 21 rfl) (by omega) (by omega) (fun q hq => BT_get hI9236.1 22 0 21 (0) (0) (20) (by decide) q (Nat.zero_le _) hq) (fun v9248 av9248 bv9248 zv9248 => ?_)
      have yv9248 : I (ad g 22) (7 * v9222.toInt + da.toInt).toNat = v9248 := by rw [← fz_at fr9242 22 (by decide) (by decide), show (7 * v9222.toInt + da.toInt).toNat = v9247.toInt.toNat by omega]; exact zv9248
      refine WQ_puti dX6_load_105 fX6_48 rfl rfl (lyx_is hy 44 6 rfl) (fun I9249 eI9249 => ?_)
      have hI9249 : XI g n L I9249 := by rw [eI9249]; exact (xi_f hy hI9236 (c := 44) (0) (0) (20) (by decide) (Or.inl (by decide)) (by decide) (by omega) (by omega))
      have e9250 : I9249 (ad g 1) 1 = L := by rw [eI9249, pp_ne _ _ (Or.inl (lyx_ne hy (by decide) (by decide) (by decide)))]; exact e9237
      have e9251 : I9249 (ad g 27) 4 = v9215 := by rw [eI9249, pp_ne _ _ (Or.inl (lyx_ne hy (by decide) (by decide) (by decide)))]; exact e9238
      have e9252 : I9249 (ad g 44) 0 = v9222 := by rw [eI9249, pp_ne _ _ (Or.inr (by decide))]; exact e9239
      have e9253 : I9249 (ad g 44) 1 = v9228 := by rw [eI9249, pp_ne _ _ (Or.inr (by decide))]; exact e9240
      have e9254 : I9249 (ad g 44) 2 = v9235 := by rw [eI9249, pp_ne _ _ (Or.inr (by decide))]; exact e9241
      have e9255 : I9249 (ad g 44) 3 = v9248 := by rw [eI9249, pp_self]
      have fr9256 : fz 74 g [44] I I9249 := by rw [eI9249]; exact fzx_pp hy fr9242 (by decide) (by decide)
      clear eI9249
      refine WP_aload_n dX6_load_108 rfl ?_
      refine WP_iload dX6_load_109 rfl ?_
      refine WQ_iconst (-1) (-1) dX6_load_111 rfl rfl (fun v9257 hv9257 => ?_)
      refine WQ_icmp_ne 119 dX6_load_112 rfl (fun c9257 => ?_) (fun c9257 => ?_)
      · refine WP_aload_n dX6_load_119 rfl ?_
        refine WP_getr dX6_load_120 fX6_45 rfl (lyx_is hy 5 0 rfl) (rfx hr 5 1 22 (by decide)) ?_
        refine WP_iload dX6_load_123 rfl ?_
        refine WQ_bipush (7) (7) dX6_load_125 rfl rfl (fun v9259 hv9259 => ?_)
        refine WQ_imulk (7) dX6_load_127 hv9259 (by omega) (by omega) (fun v9260 hv9260 => ?_)
        refine WP_iload_n dX6_load_128 rfl ?_
        refine WQ_iadd dX6_load_129 (by omega) (by omega) (fun v9261 hv9261 => ?_)
        refine WQ_ialdb dX6_load_130 (lyx_is hy 22 13 rfl) (lyx_n hy 22 21 rfl) (by omega) (by omega) (fun q hq => BT_get hI9249.1 22 0 21 (0) (0) (20) (by decide) q (Nat.zero_le _) hq) (fun v9262 av9262 bv9262 zv9262 => ?_)
        have yv9262 : I (ad g 22) (7 * v9215.toInt + da.toInt).toNat = v9262 := by rw [← fz_at fr9256 22 (by decide) (by decide), show (7 * v9215.toInt + da.toInt).toNat = v9261.toInt.toNat by omega]; exact zv9262
        refine WQ_puti dX6_load_131 fX6_51 rfl rfl (lyx_is hy 44 6 rfl) (fun I9263 eI9263 => ?_)
        have hI9263 : XI g n L I9263 := by rw [eI9263]; exact (xi_f hy hI9249 (c := 44) (0) (0) (20) (by decide) (Or.inl (by decide)) (by decide) (by omega) (by omega))
        have e9264 : I9263 (ad g 1) 1 = L := by rw [eI9263, pp_ne _ _ (Or.inl (lyx_ne hy (by decide) (by decide) (by decide)))]; exact e9250
        have e9265 : I9263 (ad g 27) 4 = v9215 := by rw [eI9263, pp_ne _ _ (Or.inl (lyx_ne hy (by decide) (by decide) (by decide)))]; exact e9251
        have e9266 : I9263 (ad g 44) 0 = v9222 := by rw [eI9263, pp_ne _ _ (Or.inr (by decide))]; exact e9252
        have e9267 : I9263 (ad g 44) 1 = v9228 := by rw [eI9263, pp_ne _ _ (Or.inr (by decide))]; exact e9253
        have e9268 : I9263 (ad g 44) 2 = v9235 := by rw [eI9263, pp_ne _ _ (Or.inr (by decide))]; exact e9254
        have e9269 : I9263 (ad g 44) 3 = v9248 := by rw [eI9263, pp_ne _ _ (Or.inr (by decide))]; exact e9255
        have e9270 : I9263 (ad g 44) 4 = v9262 := by rw [eI9263, pp_self]
        have fr9271 : fz 74 g [44] I I9263 := by rw [eI9263]; exact fzx_pp hy fr9256 (by decide) (by decide)
        clear eI9263
        refine WP_aload_n dX6_load_134 rfl ?_
        refine WP_iload dX6_load_135 rfl ?_
        refine WQ_if_eq 144 dX6_load_137 rfl (fun c9271 => ?_) (fun c9271 => False.elim (by omega))
        refine WP_aload_n dX6_load_144 rfl ?_
        refine WQ_getim dX6_load_145 fX6_36 rfl (lyx_is hy 44 6 rfl) e9267 ?_
        refine WQ_puti dX6_load_148 fX6_54 rfl rfl (lyx_is hy 44 6 rfl) (fun I9273 eI9273 => ?_)
        have hI9273 : XI g n L I9273 := by rw [eI9273]; exact (xi_f hy hI9263 (c := 44) (0) (0) (3) (by decide) (Or.inl (by decide)) (by decide) (by omega) (by omega))
        have e9274 : I9273 (ad g 1) 1 = L := by rw [eI9273, pp_ne _ _ (Or.inl (lyx_ne hy (by decide) (by decide) (by decide)))]; exact e9264
        have e9275 : I9273 (ad g 27) 4 = v9215 := by rw [eI9273, pp_ne _ _ (Or.inl (lyx_ne hy (by decide) (by decide) (by decide)))]; exact e9265
        have e9276 : I9273 (ad g 44) 0 = v9222 := by rw [eI9273, pp_ne _ _ (Or.inr (by decide))]; exact e9266
        have e9277 : I9273 (ad g 44) 1 = v9228 := by rw [eI9273, pp_ne _ _ (Or.inr (by decide))]; exact e9267
        have e9278 : I9273 (ad g 44) 2 = v9235 := by rw [eI9273, pp_ne _ _ (Or.inr (by decide))]; exact e9268
        have e9279 : I9273 (ad g 44) 3 = v9248 := by rw [eI9273, pp_ne _ _ (Or.inr (by decide))]; exact e9269
        have e9280 : I9273 (ad g 44) 4 = v9262 := by rw [eI9273, pp_ne _ _ (Or.inr (by decide))]; exact e9270
        have e9281 : I9273 (ad g 44) 5 = v9228 := by rw [eI9273, pp_self]
        have fr9282 : fz 74 g [44] I I9273 := by rw [eI9273]; exact fzx_pp hy fr9271 (by decide) (by decide)
        clear eI9273
        refine WP_aload_n dX6_load_151 rfl ?_
        refine WP_iload dX6_load_152 rfl ?_
        refine WQ_if_ne 163 dX6_load_154 rfl (fun c9282 => False.elim (by omega)) (fun c9282 => ?_)
        refine WP_iload dX6_load_157 rfl ?_
        refine WQ_iconst (-1) (-1) dX6_load_159 rfl rfl (fun v9284 hv9284 => ?_)
        refine WQ_icmp_ne 167 dX6_load_160 rfl (fun c9284 => ?_) (fun c9284 => False.elim (by omega))
        refine WQ_iconst (2) (2) dX6_load_167 rfl rfl (fun v9286 hv9286 => ?_)
        refine WQ_puti dX6_load_168 fX6_57 rfl rfl (lyx_is hy 44 6 rfl) (fun I9287 eI9287 => ?_)
        have hI9287 : XI g n L I9287 := by rw [eI9287]; exact (xi_f hy hI9273 (c := 44) (0) (0) (2) (by decide) (Or.inl (by decide)) (by decide) (by omega) (by omega))
        have e9288 : I9287 (ad g 1) 1 = L := by rw [eI9287, pp_ne _ _ (Or.inl (lyx_ne hy (by decide) (by decide) (by decide)))]; exact e9274
        have e9289 : I9287 (ad g 27) 4 = v9215 := by rw [eI9287, pp_ne _ _ (Or.inl (lyx_ne hy (by decide) (by decide) (by decide)))]; exact e9275
        have e9290 : I9287 (ad g 44) 0 = v9222 := by rw [eI9287, pp_ne _ _ (Or.inr (by decide))]; exact e9276
        have e9291 : I9287 (ad g 44) 1 = v9228 := by rw [eI9287, pp_ne _ _ (Or.inr (by decide))]; exact e9277
        have e9292 : I9287 (ad g 44) 2 = v9235 := by rw [eI9287, pp_ne _ _ (Or.inr (by decide))]; exact e9278
        have e9293 : I9287 (ad g 44) 3 = v9248 := by rw [eI9287, pp_ne _ _ (Or.inr (by decide))]; exact e9279
        have e9294 : I9287 (ad g 44) 4 = v9262 := by rw [eI9287, pp_ne _ _ (Or.inr (by decide))]; exact e9280
        have e9295 : I9287 (ad g 44) 5 = v9228 := by rw [eI9287, pp_ne _ _ (Or.inr (by decide))]; exact e9281
        have e9296 : I9287 (ad g 44) 6 = v9286 := by rw [eI9287, pp_self]
        have fr9297 : fz 74 g [44] I I9287 := by rw [eI9287]; exact fzx_pp hy fr9282 (by decide) (by decide)
        clear eI9287
        refine WP_aload_n dX6_load_171 rfl ?_
        refine WP_aload_n dX6_load_172 rfl ?_
        refine WQ_getim dX6_load_173 fX6_9 rfl (lyx_is hy 44 6 rfl) e9290 ?_
        refine WQ_iconst (-1) (-1) dX6_load_176 rfl rfl (fun v9298 hv9298 => ?_)
        refine WQ_icmp_eq 193 dX6_load_177 rfl (fun c9298 => False.elim (by omega)) (fun c9298 => ?_)
        refine WP_aload_n dX6_load_180 rfl ?_
        refine WQ_getim dX6_load_181 fX6_9 rfl (lyx_is hy 44 6 rfl) e9290 ?_
        refine WP_iload dX6_load_184 rfl ?_
        refine WQ_icmp_ne 193 dX6_load_186 rfl (fun c9299 => ?_) (fun c9299 => ?_)
        · refine WQ_iconst (0) (0) dX6_load_193 rfl rfl (fun v9301 hv9301 => ?_)
          refine WQ_putz dX6_load_194 fX6_60 rfl rfl (by omega) (lyx_is hy 44 6 rfl) (fun I9302 eI9302 => ?_)
          have hI9302 : XI g n L I9302 := by rw [eI9302]; exact (xi_f hy hI9287 (c := 44) (0) (0) (1) (by decide) (Or.inl (by decide)) (by decide) (by omega) (by omega))
          have e9303 : I9302 (ad g 1) 1 = L := by rw [eI9302, pp_ne _ _ (Or.inl (lyx_ne hy (by decide) (by decide) (by decide)))]; exact e9288
          have e9304 : I9302 (ad g 27) 4 = v9215 := by rw [eI9302, pp_ne _ _ (Or.inl (lyx_ne hy (by decide) (by decide) (by decide)))]; exact e9289
          have e9305 : I9302 (ad g 44) 0 = v9222 := by rw [eI9302, pp_ne _ _ (Or.inr (by decide))]; exact e9290
          have e9306 : I9302 (ad g 44) 1 = v9228 := by rw [eI9302, pp_ne _ _ (Or.inr (by decide))]; exact e9291
          have e9307 : I9302 (ad g 44) 2 = v9235 := by rw [eI9302, pp_ne _ _ (Or.inr (by decide))]; exact e9292
          have e9308 : I9302 (ad g 44) 3 = v9248 := by rw [eI9302, pp_ne _ _ (Or.inr (by decide))]; exact e9293
          have e9309 : I9302 (ad g 44) 4 = v9262 := by rw [eI9302, pp_ne _ _ (Or.inr (by decide))]; exact e9294
          have e9310 : I9302 (ad g 44) 5 = v9228 := by rw [eI9302, pp_ne _ _ (Or.inr (by decide))]; exact e9295
          have e9311 : I9302 (ad g 44) 6 = v9286 := by rw [eI9302, pp_ne _ _ (Or.inr (by decide))]; exact e9296
          have e9312 : I9302 (ad g 44) 7 = v9301 := by rw [eI9302, pp_self]
          have fr9313 : fz 74 g [44] I I9302 := by rw [eI9302]; exact fzx_pp hy fr9297 (by decide) (by decide)
          clear eI9302
          refine WP_aload_n dX6_load_197 rfl ?_
          refine WP_aload_n dX6_load_198 rfl ?_
          refine WP_getr dX6_load_199 fX6_64 rfl (lyx_is hy 5 0 rfl) (rfx hr 5 2 23 (by decide)) ?_
          refine WP_iload_n dX6_load_202 rfl ?_
          refine WQ_iald dX6_load_203 (lyx_is hy 23 13 rfl) (lyx_n hy 23 7 rfl) (by omega) (by omega) (fun q hq => BT_get hI9302.1 23 0 7 (0) (0) (900) (by decide) q (Nat.zero_le _) hq) (fun v9314 av9314 bv9314 ev9314 => ?_)
          clear ev9314
          refine WQ_if_le 211 dX6_load_204 rfl (fun c9314 => ?_) (fun c9314 => ?_)
          · refine WQ_iconst (0) (0) dX6_load_211 rfl rfl (fun v9316 hv9316 => ?_)
            refine WQ_putz dX6_load_212 fX6_67 rfl rfl (by omega) (lyx_is hy 44 6 rfl) (fun I9317 eI9317 => ?_)
            have hI9317 : XI g n L I9317 := by rw [eI9317]; exact (xi_f hy hI9302 (c := 44) (0) (0) (1) (by decide) (Or.inl (by decide)) (by decide) (by omega) (by omega))
            have e9318 : I9317 (ad g 1) 1 = L := by rw [eI9317, pp_ne _ _ (Or.inl (lyx_ne hy (by decide) (by decide) (by decide)))]; exact e9303
            have e9319 : I9317 (ad g 27) 4 = v9215 := by rw [eI9317, pp_ne _ _ (Or.inl (lyx_ne hy (by decide) (by decide) (by decide)))]; exact e9304
            have e9320 : I9317 (ad g 44) 0 = v9222 := by rw [eI9317, pp_ne _ _ (Or.inr (by decide))]; exact e9305
            have e9321 : I9317 (ad g 44) 1 = v9228 := by rw [eI9317, pp_ne _ _ (Or.inr (by decide))]; exact e9306
            have e9322 : I9317 (ad g 44) 2 = v9235 := by rw [eI9317, pp_ne _ _ (Or.inr (by decide))]; exact e9307
            have e9323 : I9317 (ad g 44) 3 = v9248 := by rw [eI9317, pp_ne _ _ (Or.inr (by decide))]; exact e9308
            have e9324 : I9317 (ad g 44) 4 = v9262 := by rw [eI9317, pp_ne _ _ (Or.inr (by decide))]; exact e9309
            have e9325 : I9317 (ad g 44) 5 = v9228 := by rw [eI9317, pp_ne _ _ (Or.inr (by decide))]; exact e9310
            have e9326 : I9317 (ad g 44) 6 = v9286 := by rw [eI9317, pp_ne _ _ (Or.inr (by decide))]; exact e9311
            have e9327 : I9317 (ad g 44) 7 = v9301 := by rw [eI9317, pp_ne _ _ (Or.inr (by decide))]; exact e9312
            have e9328 : I9317 (ad g 44) 8 = v9316 := by rw [eI9317, pp_self]
            have fr9329 : fz 74 g [44] I I9317 := by rw [eI9317]; exact fzx_pp hy fr9313 (by decide) (by decide)
            clear eI9317
            exact WP_vret dX6_load_215 rfl ⟨⟨hI9317, rfl, fr9329, rfl, (by
                  have yill : I (ad g (27 + 5)) so.toInt.toNat >>> (nI da.toInt.toNat &&& 31) &&& 1 = v9219 := by rw [show I (ad g (27 + 5)) so.toInt.toNat = v9216 from yv9216, show nI da.toInt.toNat = da from (eq32 _ _).mpr (by rw [nI_toInt (by omega)]; omega), xv9219, xv9217, (eq32 v9218 1).mpr hv9218]
                  have yst : I (ad g 27) 4 = v9215 := est
                  unfold LD
                  simp only [e9320, e9321, e9322, e9323, e9324, e9325, e9326, e9327, yill, yst, show I (ad g (27 + 7)) _ = _ from yv9222, show I (ad g (27 + 8)) _ = _ from yv9228, show I (ad g (27 + 9)) _ = _ from yv9235, yv9248, yv9262, true_and, and_true]
                  omega)⟩, rfl⟩
          · refine WQ_iconst (1) (1) dX6_load_207 rfl rfl (fun v9330 hv9330 => ?_)
            refine WP_goto 212 dX6_load_208 rfl ?_
            refine WQ_putz dX6_load_212 fX6_67 rfl rfl (by omega) (lyx_is hy 44 6 rfl) (fun I9331 eI9331 => ?_)
            have hI9331 : XI g n L I9331 := by rw [eI9331]; exact (xi_f hy hI9302 (c := 44) (0) (0) (1) (by decide) (Or.inl (by decide)) (by decide) (by omega) (by omega))
            have e9332 : I9331 (ad g 1) 1 = L := by rw [eI9331, pp_ne _ _ (Or.inl (lyx_ne hy (by decide) (by decide) (by decide)))]; exact e9303
            have e9333 : I9331 (ad g 27) 4 = v9215 := by rw [eI9331, pp_ne _ _ (Or.inl (lyx_ne hy (by decide) (by decide) (by decide)))]; exact e9304
            have e9334 : I9331 (ad g 44) 0 = v9222 := by rw [eI9331, pp_ne _ _ (Or.inr (by decide))]; exact e9305
            have e9335 : I9331 (ad g 44) 1 = v9228 := by rw [eI9331, pp_ne _ _ (Or.inr (by decide))]; exact e9306
            have e9336 : I9331 (ad g 44) 2 = v9235 := by rw [eI9331, pp_ne _ _ (Or.inr (by decide))]; exact e9307
            have e9337 : I9331 (ad g 44) 3 = v9248 := by rw [eI9331, pp_ne _ _ (Or.inr (by decide))]; exact e9308
            have e9338 : I9331 (ad g 44) 4 = v9262 := by rw [eI9331, pp_ne _ _ (Or.inr (by decide))]; exact e9309
            have e9339 : I9331 (ad g 44) 5 = v9228 := by rw [eI9331, pp_ne _ _ (Or.inr (by decide))]; exact e9310
            have e9340 : I9331 (ad g 44) 6 = v9286 := by rw [eI9331, pp_ne _ _ (Or.inr (by decide))]; exact e9311
            have e9341 : I9331 (ad g 44) 7 = v9301 := by rw [eI9331, pp_ne _ _ (Or.inr (by decide))]; exact e9312
            have e9342 : I9331 (ad g 44) 8 = v9330 := by rw [eI9331, pp_self]
            have fr9343 : fz 74 g [44] I I9331 := by rw [eI9331]; exact fzx_pp hy fr9313 (by decide) (by decide)
            clear eI9331
            exact WP_vret dX6_load_215 rfl ⟨⟨hI9331, rfl, fr9343, rfl, (by
                  have yill : I (ad g (27 + 5)) so.toInt.toNat >>> (nI da.toInt.toNat &&& 31) &&& 1 = v9219 := by rw [show I (ad g (27 + 5)) so.toInt.toNat = v9216 from yv9216, show nI da.toInt.toNat = da from (eq32 _ _).mpr (by rw [nI_toInt (by omega)]; omega), xv9219, xv9217, (eq32 v9218 1).mpr hv9218]
                  have yst : I (ad g 27) 4 = v9215 := est
                  unfold LD
                  simp only [e9334, e9335, e9336, e9337, e9338, e9339, e9340, e9341, yill, yst, show I (ad g (27 + 7)) _ = _ from yv9222, show I (ad g (27 + 8)) _ = _ from yv9228, show I (ad g (27 + 9)) _ = _ from yv9235, yv9248, yv9262, true_and, and_true]
                  omega)⟩, rfl⟩
        · refine WQ_iconst (1) (1) dX6_load_189 rfl rfl (fun v9344 hv9344 => ?_)
          refine WP_goto 194 dX6_load_190 rfl ?_
          refine WQ_putz dX6_load_194 fX6_60 rfl rfl (by omega) (lyx_is hy 44 6 rfl) (fun I9345 eI9345 => ?_)
          have hI9345 : XI g n L I9345 := by rw [eI9345]; exact (xi_f hy hI9287 (c := 44) (0) (0) (1) (by decide) (Or.inl (by decide)) (by decide) (by omega) (by omega))
          have e9346 : I9345 (ad g 1) 1 = L := by rw [eI9345, pp_ne _ _ (Or.inl (lyx_ne hy (by decide) (by decide) (by decide)))]; exact e9288
          have e9347 : I9345 (ad g 27) 4 = v9215 := by rw [eI9345, pp_ne _ _ (Or.inl (lyx_ne hy (by decide) (by decide) (by decide)))]; exact e9289
          have e9348 : I9345 (ad g 44) 0 = v9222 := by rw [eI9345, pp_ne _ _ (Or.inr (by decide))]; exact e9290
          have e9349 : I9345 (ad g 44) 1 = v9228 := by rw [eI9345, pp_ne _ _ (Or.inr (by decide))]; exact e9291
          have e9350 : I9345 (ad g 44) 2 = v9235 := by rw [eI9345, pp_ne _ _ (Or.inr (by decide))]; exact e9292
          have e9351 : I9345 (ad g 44) 3 = v9248 := by rw [eI9345, pp_ne _ _ (Or.inr (by decide))]; exact e9293
          have e9352 : I9345 (ad g 44) 4 = v9262 := by rw [eI9345, pp_ne _ _ (Or.inr (by decide))]; exact e9294
          have e9353 : I9345 (ad g 44) 5 = v9228 := by rw [eI9345, pp_ne _ _ (Or.inr (by decide))]; exact e9295
          have e9354 : I9345 (ad g 44) 6 = v9286 := by rw [eI9345, pp_ne _ _ (Or.inr (by decide))]; exact e9296
          have e9355 : I9345 (ad g 44) 7 = v9344 := by rw [eI9345, pp_self]
          have fr9356 : fz 74 g [44] I I9345 := by rw [eI9345]; exact fzx_pp hy fr9297 (by decide) (by decide)
          clear eI9345
          refine WP_aload_n dX6_load_197 rfl ?_
          refine WP_aload_n dX6_load_198 rfl ?_
          refine WP_getr dX6_load_199 fX6_64 rfl (lyx_is hy 5 0 rfl) (rfx hr 5 2 23 (by decide)) ?_
          refine WP_iload_n dX6_load_202 rfl ?_
          refine WQ_iald dX6_load_203 (lyx_is hy 23 13 rfl) (lyx_n hy 23 7 rfl) (by omega) (by omega) (fun q hq => BT_get hI9345.1 23 0 7 (0) (0) (900) (by decide) q (Nat.zero_le _) hq) (fun v9357 av9357 bv9357 ev9357 => ?_)
          clear ev9357
          refine WQ_if_le 211 dX6_load_204 rfl (fun c9357 => ?_) (fun c9357 => ?_)
          · refine WQ_iconst (0) (0) dX6_load_211 rfl rfl (fun v9359 hv9359 => ?_)
            refine WQ_putz dX6_load_212 fX6_67 rfl rfl (by omega) (lyx_is hy 44 6 rfl) (fun I9360 eI9360 => ?_)
            have hI9360 : XI g n L I9360 := by rw [eI9360]; exact (xi_f hy hI9345 (c := 44) (0) (0) (1) (by decide) (Or.inl (by decide)) (by decide) (by omega) (by omega))
            have e9361 : I9360 (ad g 1) 1 = L := by rw [eI9360, pp_ne _ _ (Or.inl (lyx_ne hy (by decide) (by decide) (by decide)))]; exact e9346
            have e9362 : I9360 (ad g 27) 4 = v9215 := by rw [eI9360, pp_ne _ _ (Or.inl (lyx_ne hy (by decide) (by decide) (by decide)))]; exact e9347
            have e9363 : I9360 (ad g 44) 0 = v9222 := by rw [eI9360, pp_ne _ _ (Or.inr (by decide))]; exact e9348
            have e9364 : I9360 (ad g 44) 1 = v9228 := by rw [eI9360, pp_ne _ _ (Or.inr (by decide))]; exact e9349
            have e9365 : I9360 (ad g 44) 2 = v9235 := by rw [eI9360, pp_ne _ _ (Or.inr (by decide))]; exact e9350
            have e9366 : I9360 (ad g 44) 3 = v9248 := by rw [eI9360, pp_ne _ _ (Or.inr (by decide))]; exact e9351
            have e9367 : I9360 (ad g 44) 4 = v9262 := by rw [eI9360, pp_ne _ _ (Or.inr (by decide))]; exact e9352
            have e9368 : I9360 (ad g 44) 5 = v9228 := by rw [eI9360, pp_ne _ _ (Or.inr (by decide))]; exact e9353
            have e9369 : I9360 (ad g 44) 6 = v9286 := by rw [eI9360, pp_ne _ _ (Or.inr (by decide))]; exact e9354
            have e9370 : I9360 (ad g 44) 7 = v9344 := by rw [eI9360, pp_ne _ _ (Or.inr (by decide))]; exact e9355
            have e9371 : I9360 (ad g 44) 8 = v9359 := by rw [eI9360, pp_self]
            have fr9372 : fz 74 g [44] I I9360 := by rw [eI9360]; exact fzx_pp hy fr9356 (by decide) (by decide)
            clear eI9360
            exact WP_vret dX6_load_215 rfl ⟨⟨hI9360, rfl, fr9372, rfl, (by
                  have yill : I (ad g (27 + 5)) so.toInt.toNat >>> (nI da.toInt.toNat &&& 31) &&& 1 = v9219 := by rw [show I (ad g (27 + 5)) so.toInt.toNat = v9216 from yv9216, show nI da.toInt.toNat = da from (eq32 _ _).mpr (by rw [nI_toInt (by omega)]; omega), xv9219, xv9217, (eq32 v9218 1).mpr hv9218]
                  have yst : I (ad g 27) 4 = v9215 := est
                  unfold LD
                  simp only [e9363, e9364, e9365, e9366, e9367, e9368, e9369, e9370, yill, yst, show I (ad g (27 + 7)) _ = _ from yv9222, show I (ad g (27 + 8)) _ = _ from yv9228, show I (ad g (27 + 9)) _ = _ from yv9235, yv9248, yv9262, true_and, and_true]
                  omega)⟩, rfl⟩
          · refine WQ_iconst (1) (1) dX6_load_207 rfl rfl (fun v9373 hv9373 => ?_)
            refine WP_goto 212 dX6_load_208 rfl ?_
            refine WQ_putz dX6_load_212 fX6_67 rfl rfl (by omega) (lyx_is hy 44 6 rfl) (fun I9374 eI9374 => ?_)
            have hI9374 : XI g n L I9374 := by rw [eI9374]; exact (xi_f hy hI9345 (c := 44) (0) (0) (1) (by decide) (Or.inl (by decide)) (by decide) (by omega) (by omega))
            have e9375 : I9374 (ad g 1) 1 = L := by rw [eI9374, pp_ne _ _ (Or.inl (lyx_ne hy (by decide) (by decide) (by decide)))]; exact e9346
            have e9376 : I9374 (ad g 27) 4 = v9215 := by rw [eI9374, pp_ne _ _ (Or.inl (lyx_ne hy (by decide) (by decide) (by decide)))]; exact e9347
            have e9377 : I9374 (ad g 44) 0 = v9222 := by rw [eI9374, pp_ne _ _ (Or.inr (by decide))]; exact e9348
            have e9378 : I9374 (ad g 44) 1 = v9228 := by rw [eI9374, pp_ne _ _ (Or.inr (by decide))]; exact e9349
            have e9379 : I9374 (ad g 44) 2 = v9235 := by rw [eI9374, pp_ne _ _ (Or.inr (by decide))]; exact e9350
            have e9380 : I9374 (ad g 44) 3 = v9248 := by rw [eI9374, pp_ne _ _ (Or.inr (by decide))]; exact e9351
            have e9381 : I9374 (ad g 44) 4 = v9262 := by rw [eI9374, pp_ne _ _ (Or.inr (by decide))]; exact e9352
            have e9382 : I9374 (ad g 44) 5 = v9228 := by rw [eI9374, pp_ne _ _ (Or.inr (by decide))]; exact e9353
            have e9383 : I9374 (ad g 44) 6 = v9286 := by rw [eI9374, pp_ne _ _ (Or.inr (by decide))]; exact e9354
            have e9384 : I9374 (ad g 44) 7 = v9344 := by rw [eI9374, pp_ne _ _ (Or.inr (by decide))]; exact e9355
            have e9385 : I9374 (ad g 44) 8 = v9373 := by rw [eI9374, pp_self]
            have fr9386 : fz 74 g [44] I I9374 := by rw [eI9374]; exact fzx_pp hy fr9356 (by decide) (by decide)
            clear eI9374
            exact WP_vret dX6_load_215 rfl ⟨⟨hI9374, rfl, fr9386, rfl, (by
                  have yill : I (ad g (27 + 5)) so.toInt.toNat >>> (nI da.toInt.toNat &&& 31) &&& 1 = v9219 := by rw [show I (ad g (27 + 5)) so.toInt.toNat = v9216 from yv9216, show nI da.toInt.toNat = da from (eq32 _ _).mpr (by rw [nI_toInt (by omega)]; omega), xv9219, xv9217, (eq32 v9218 1).mpr hv9218]
                  have yst : I (ad g 27) 4 = v9215 := est
                  unfold LD
                  simp only [e9377, e9378, e9379, e9380, e9381, e9382, e9383, e9384, yill, yst, show I (ad g (27 + 7)) _ = _ from yv9222, show I (ad g (27 + 8)) _ = _ from yv9228, show I (ad g (27 + 9)) _ = _ from yv9235, yv9248, yv9262, true_and, and_true]
                  omega)⟩, rfl⟩
      · refine WQ_iconst (0) (0) dX6_load_115 rfl rfl (fun v9387 hv9387 => ?_)
        refine WP_goto 131 dX6_load_116 rfl ?_
        refine WQ_puti dX6_load_131 fX6_51 rfl rfl (lyx_is hy 44 6 rfl) (fun I9388 eI9388 => ?_)
        have hI9388 : XI g n L I9388 := by rw [eI9388]; exact (xi_f hy hI9249 (c := 44) (0) (0) (20) (by decide) (Or.inl (by decide)) (by decide) (by omega) (by omega))
        have e9389 : I9388 (ad g 1) 1 = L := by rw [eI9388, pp_ne _ _ (Or.inl (lyx_ne hy (by decide) (by decide) (by decide)))]; exact e9250
        have e9390 : I9388 (ad g 27) 4 = v9215 := by rw [eI9388, pp_ne _ _ (Or.inl (lyx_ne hy (by decide) (by decide) (by decide)))]; exact e9251
        have e9391 : I9388 (ad g 44) 0 = v9222 := by rw [eI9388, pp_ne _ _ (Or.inr (by decide))]; exact e9252
        have e9392 : I9388 (ad g 44) 1 = v9228 := by rw [eI9388, pp_ne _ _ (Or.inr (by decide))]; exact e9253
        have e9393 : I9388 (ad g 44) 2 = v9235 := by rw [eI9388, pp_ne _ _ (Or.inr (by decide))]; exact e9254
        have e9394 : I9388 (ad g 44) 3 = v9248 := by rw [eI9388, pp_ne _ _ (Or.inr (by decide))]; exact e9255
        have e9395 : I9388 (ad g 44) 4 = v9387 := by rw [eI9388, pp_self]
        have fr9396 : fz 74 g [44] I I9388 := by rw [eI9388]; exact fzx_pp hy fr9256 (by decide) (by decide)
        clear eI9388
        refine WP_aload_n dX6_load_134 rfl ?_
        refine WP_iload dX6_load_135 rfl ?_
        refine WQ_if_eq 144 dX6_load_137 rfl (fun c9396 => ?_) (fun c9396 => False.elim (by omega))
        refine WP_aload_n dX6_load_144 rfl ?_
        refine WQ_getim dX6_load_145 fX6_36 rfl (lyx_is hy 44 6 rfl) e9392 ?_
        refine WQ_puti dX6_load_148 fX6_54 rfl rfl (lyx_is hy 44 6 rfl) (fun I9398 eI9398 => ?_)
        have hI9398 : XI g n L I9398 := by rw [eI9398]; exact (xi_f hy hI9388 (c := 44) (0) (0) (3) (by decide) (Or.inl (by decide)) (by decide) (by omega) (by omega))
        have e9399 : I9398 (ad g 1) 1 = L := by rw [eI9398, pp_ne _ _ (Or.inl (lyx_ne hy (by decide) (by decide) (by decide)))]; exact e9389
        have e9400 : I9398 (ad g 27) 4 = v9215 := by rw [eI9398, pp_ne _ _ (Or.inl (lyx_ne hy (by decide) (by decide) (by decide)))]; exact e9390
        have e9401 : I9398 (ad g 44) 0 = v9222 := by rw [eI9398, pp_ne _ _ (Or.inr (by decide))]; exact e9391
        have e9402 : I9398 (ad g 44) 1 = v9228 := by rw [eI9398, pp_ne _ _ (Or.inr (by decide))]; exact e9392
        have e9403 : I9398 (ad g 44) 2 = v9235 := by rw [eI9398, pp_ne _ _ (Or.inr (by decide))]; exact e9393
        have e9404 : I9398 (ad g 44) 3 = v9248 := by rw [eI9398, pp_ne _ _ (Or.inr (by decide))]; exact e9394
        have e9405 : I9398 (ad g 44) 4 = v9387 := by rw [eI9398, pp_ne _ _ (Or.inr (by decide))]; exact e9395
        have e9406 : I9398 (ad g 44) 5 = v9228 := by rw [eI9398, pp_self]
        have fr9407 : fz 74 g [44] I I9398 := by rw [eI9398]; exact fzx_pp hy fr9396 (by decide) (by decide)
        clear eI9398
        refine WP_aload_n dX6_load_151 rfl ?_
        refine WP_iload dX6_load_152 rfl ?_
        refine WQ_if_ne 163 dX6_load_154 rfl (fun c9407 => False.elim (by omega)) (fun c9407 => ?_)
        refine WP_iload dX6_load_157 rfl ?_
        refine WQ_iconst (-1) (-1) dX6_load_159 rfl rfl (fun v9409 hv9409 => ?_)
        refine WQ_icmp_ne 167 dX6_load_160 rfl (fun c9409 => False.elim (by omega)) (fun c9409 => ?_)
        refine WQ_iconst (0) (0) dX6_load_163 rfl rfl (fun v9411 hv9411 => ?_)
        refine WP_goto 168 dX6_load_164 rfl ?_
        refine WQ_puti dX6_load_168 fX6_57 rfl rfl (lyx_is hy 44 6 rfl) (fun I9412 eI9412 => ?_)
        have hI9412 : XI g n L I9412 := by rw [eI9412]; exact (xi_f hy hI9398 (c := 44) (0) (0) (2) (by decide) (Or.inl (by decide)) (by decide) (by omega) (by omega))
        have e9413 : I9412 (ad g 1) 1 = L := by rw [eI9412, pp_ne _ _ (Or.inl (lyx_ne hy (by decide) (by decide) (by decide)))]; exact e9399
        have e9414 : I9412 (ad g 27) 4 = v9215 := by rw [eI9412, pp_ne _ _ (Or.inl (lyx_ne hy (by decide) (by decide) (by decide)))]; exact e9400
        have e9415 : I9412 (ad g 44) 0 = v9222 := by rw [eI9412, pp_ne _ _ (Or.inr (by decide))]; exact e9401
        have e9416 : I9412 (ad g 44) 1 = v9228 := by rw [eI9412, pp_ne _ _ (Or.inr (by decide))]; exact e9402
        have e9417 : I9412 (ad g 44) 2 = v9235 := by rw [eI9412, pp_ne _ _ (Or.inr (by decide))]; exact e9403
        have e9418 : I9412 (ad g 44) 3 = v9248 := by rw [eI9412, pp_ne _ _ (Or.inr (by decide))]; exact e9404
        have e9419 : I9412 (ad g 44) 4 = v9387 := by rw [eI9412, pp_ne _ _ (Or.inr (by decide))]; exact e9405
        have e9420 : I9412 (ad g 44) 5 = v9228 := by rw [eI9412, pp_ne _ _ (Or.inr (by decide))]; exact e9406
        have e9421 : I9412 (ad g 44) 6 = v9411 := by rw [eI9412, pp_self]
        have fr9422 : fz 74 g [44] I I9412 := by rw [eI9412]; exact fzx_pp hy fr9407 (by decide) (by decide)
        clear eI9412
        refine WP_aload_n dX6_load_171 rfl ?_
        refine WP_aload_n dX6_load_172 rfl ?_
        refine WQ_getim dX6_load_173 fX6_9 rfl (lyx_is hy 44 6 rfl) e9415 ?_
        refine WQ_iconst (-1) (-1) dX6_load_176 rfl rfl (fun v9423 hv9423 => ?_)
        refine WQ_icmp_eq 193 dX6_load_177 rfl (fun c9423 => False.elim (by omega)) (fun c9423 => ?_)
        refine WP_aload_n dX6_load_180 rfl ?_
        refine WQ_getim dX6_load_181 fX6_9 rfl (lyx_is hy 44 6 rfl) e9415 ?_
        refine WP_iload dX6_load_184 rfl ?_
        refine WQ_icmp_ne 193 dX6_load_186 rfl (fun c9424 => ?_) (fun c9424 => False.elim (by omega))
        refine WQ_iconst (0) (0) dX6_load_193 rfl rfl (fun v9426 hv9426 => ?_)
        refine WQ_putz dX6_load_194 fX6_60 rfl rfl (by omega) (lyx_is hy 44 6 rfl) (fun I9427 eI9427 => ?_)
        have hI9427 : XI g n L I9427 := by rw [eI9427]; exact (xi_f hy hI9412 (c := 44) (0) (0) (1) (by decide) (Or.inl (by decide)) (by decide) (by omega) (by omega))
        have e9428 : I9427 (ad g 1) 1 = L := by rw [eI9427, pp_ne _ _ (Or.inl (lyx_ne hy (by decide) (by decide) (by decide)))]; exact e9413
        have e9429 : I9427 (ad g 27) 4 = v9215 := by rw [eI9427, pp_ne _ _ (Or.inl (lyx_ne hy (by decide) (by decide) (by decide)))]; exact e9414
        have e9430 : I9427 (ad g 44) 0 = v9222 := by rw [eI9427, pp_ne _ _ (Or.inr (by decide))]; exact e9415
        have e9431 : I9427 (ad g 44) 1 = v9228 := by rw [eI9427, pp_ne _ _ (Or.inr (by decide))]; exact e9416
        have e9432 : I9427 (ad g 44) 2 = v9235 := by rw [eI9427, pp_ne _ _ (Or.inr (by decide))]; exact e9417
        have e9433 : I9427 (ad g 44) 3 = v9248 := by rw [eI9427, pp_ne _ _ (Or.inr (by decide))]; exact e9418
        have e9434 : I9427 (ad g 44) 4 = v9387 := by rw [eI9427, pp_ne _ _ (Or.inr (by decide))]; exact e9419
        have e9435 : I9427 (ad g 44) 5 = v9228 := by rw [eI9427, pp_ne _ _ (Or.inr (by decide))]; exact e9420
        have e9436 : I9427 (ad g 44) 6 = v9411 := by rw [eI9427, pp_ne _ _ (Or.inr (by decide))]; exact e9421
        have e9437 : I9427 (ad g 44) 7 = v9426 := by rw [eI9427, pp_self]
        have fr9438 : fz 74 g [44] I I9427 := by rw [eI9427]; exact fzx_pp hy fr9422 (by decide) (by decide)
        clear eI9427
        refine WP_aload_n dX6_load_197 rfl ?_
        refine WP_aload_n dX6_load_198 rfl ?_
        refine WP_getr dX6_load_199 fX6_64 rfl (lyx_is hy 5 0 rfl) (rfx hr 5 2 23 (by decide)) ?_
        refine WP_iload_n dX6_load_202 rfl ?_
        refine WQ_iald dX6_load_203 (lyx_is hy 23 13 rfl) (lyx_n hy 23 7 rfl) (by omega) (by omega) (fun q hq => BT_get hI9427.1 23 0 7 (0) (0) (900) (by decide) q (Nat.zero_le _) hq) (fun v9439 av9439 bv9439 ev9439 => ?_)
        clear ev9439
        refine WQ_if_le 211 dX6_load_204 rfl (fun c9439 => ?_) (fun c9439 => ?_)
        · refine WQ_iconst (0) (0) dX6_load_211 rfl rfl (fun v9441 hv9441 => ?_)
          refine WQ_putz dX6_load_212 fX6_67 rfl rfl (by omega) (lyx_is hy 44 6 rfl) (fun I9442 eI9442 => ?_)
          have hI9442 : XI g n L I9442 := by rw [eI9442]; exact (xi_f hy hI9427 (c := 44) (0) (0) (1) (by decide) (Or.inl (by decide)) (by decide) (by omega) (by omega))
          have e9443 : I9442 (ad g 1) 1 = L := by rw [eI9442, pp_ne _ _ (Or.inl (lyx_ne hy (by decide) (by decide) (by decide)))]; exact e9428
          have e9444 : I9442 (ad g 27) 4 = v9215 := by rw [eI9442, pp_ne _ _ (Or.inl (lyx_ne hy (by decide) (by decide) (by decide)))]; exact e9429
          have e9445 : I9442 (ad g 44) 0 = v9222 := by rw [eI9442, pp_ne _ _ (Or.inr (by decide))]; exact e9430
          have e9446 : I9442 (ad g 44) 1 = v9228 := by rw [eI9442, pp_ne _ _ (Or.inr (by decide))]; exact e9431
          have e9447 : I9442 (ad g 44) 2 = v9235 := by rw [eI9442, pp_ne _ _ (Or.inr (by decide))]; exact e9432
          have e9448 : I9442 (ad g 44) 3 = v9248 := by rw [eI9442, pp_ne _ _ (Or.inr (by decide))]; exact e9433
          have e9449 : I9442 (ad g 44) 4 = v9387 := by rw [eI9442, pp_ne _ _ (Or.inr (by decide))]; exact e9434
          have e9450 : I9442 (ad g 44) 5 = v9228 := by rw [eI9442, pp_ne _ _ (Or.inr (by decide))]; exact e9435
          have e9451 : I9442 (ad g 44) 6 = v9411 := by rw [eI9442, pp_ne _ _ (Or.inr (by decide))]; exact e9436
          have e9452 : I9442 (ad g 44) 7 = v9426 := by rw [eI9442, pp_ne _ _ (Or.inr (by decide))]; exact e9437
          have e9453 : I9442 (ad g 44) 8 = v9441 := by rw [eI9442, pp_self]
          have fr9454 : fz 74 g [44] I I9442 := by rw [eI9442]; exact fzx_pp hy fr9438 (by decide) (by decide)
          clear eI9442
          exact WP_vret dX6_load_215 rfl ⟨⟨hI9442, rfl, fr9454, rfl, (by
                have yill : I (ad g (27 + 5)) so.toInt.toNat >>> (nI da.toInt.toNat &&& 31) &&& 1 = v9219 := by rw [show I (ad g (27 + 5)) so.toInt.toNat = v9216 from yv9216, show nI da.toInt.toNat = da from (eq32 _ _).mpr (by rw [nI_toInt (by omega)]; omega), xv9219, xv9217, (eq32 v9218 1).mpr hv9218]
                have yst : I (ad g 27) 4 = v9215 := est
                unfold LD
                simp only [e9445, e9446, e9447, e9448, e9449, e9450, e9451, e9452, yill, yst, show I (ad g (27 + 7)) _ = _ from yv9222, show I (ad g (27 + 8)) _ = _ from yv9228, show I (ad g (27 + 9)) _ = _ from yv9235, yv9248, true_and, and_true]
                omega)⟩, rfl⟩
        · refine WQ_iconst (1) (1) dX6_load_207 rfl rfl (fun v9455 hv9455 => ?_)
          refine WP_goto 212 dX6_load_208 rfl ?_
          refine WQ_putz dX6_load_212 fX6_67 rfl rfl (by omega) (lyx_is hy 44 6 rfl) (fun I9456 eI9456 => ?_)
          have hI9456 : XI g n L I9456 := by rw [eI9456]; exact (xi_f hy hI9427 (c := 44) (0) (0) (1) (by decide) (Or.inl (by decide)) (by decide) (by omega) (by omega))
          have e9457 : I9456 (ad g 1) 1 = L := by rw [eI9456, pp_ne _ _ (Or.inl (lyx_ne hy (by decide) (by decide) (by decide)))]; exact e9428
          have e9458 : I9456 (ad g 27) 4 = v9215 := by rw [eI9456, pp_ne _ _ (Or.inl (lyx_ne hy (by decide) (by decide) (by decide)))]; exact e9429
          have e9459 : I9456 (ad g 44) 0 = v9222 := by rw [eI9456, pp_ne _ _ (Or.inr (by decide))]; exact e9430
          have e9460 : I9456 (ad g 44) 1 = v9228 := by rw [eI9456, pp_ne _ _ (Or.inr (by decide))]; exact e9431
          have e9461 : I9456 (ad g 44) 2 = v9235 := by rw [eI9456, pp_ne _ _ (Or.inr (by decide))]; exact e9432
          have e9462 : I9456 (ad g 44) 3 = v9248 := by rw [eI9456, pp_ne _ _ (Or.inr (by decide))]; exact e9433
          have e9463 : I9456 (ad g 44) 4 = v9387 := by rw [eI9456, pp_ne _ _ (Or.inr (by decide))]; exact e9434
          have e9464 : I9456 (ad g 44) 5 = v9228 := by rw [eI9456, pp_ne _ _ (Or.inr (by decide))]; exact e9435
          have e9465 : I9456 (ad g 44) 6 = v9411 := by rw [eI9456, pp_ne _ _ (Or.inr (by decide))]; exact e9436
          have e9466 : I9456 (ad g 44) 7 = v9426 := by rw [eI9456, pp_ne _ _ (Or.inr (by decide))]; exact e9437
          have e9467 : I9456 (ad g 44) 8 = v9455 := by rw [eI9456, pp_self]
          have fr9468 : fz 74 g [44] I I9456 := by rw [eI9456]; exact fzx_pp hy fr9438 (by decide) (by decide)
          clear eI9456
          exact WP_vret dX6_load_215 rfl ⟨⟨hI9456, rfl, fr9468, rfl, (by
                have yill : I (ad g (27 + 5)) so.toInt.toNat >>> (nI da.toInt.toNat &&& 31) &&& 1 = v9219 := by rw [show I (ad g (27 + 5)) so.toInt.toNat = v9216 from yv9216, show nI da.toInt.toNat = da from (eq32 _ _).mpr (by rw [nI_toInt (by omega)]; omega), xv9219, xv9217, (eq32 v9218 1).mpr hv9218]
                have yst : I (ad g 27) 4 = v9215 := est
                unfold LD
                simp only [e9459, e9460, e9461, e9462, e9463, e9464, e9465, e9466, yill, yst, show I (ad g (27 + 7)) _ = _ from yv9222, show I (ad g (27 + 8)) _ = _ from yv9228, show I (ad g (27 + 9)) _ = _ from yv9235, yv9248, true_and, and_true]
                omega)⟩, rfl⟩
    · refine WQ_iconst (0) (0) dX6_load_87 rfl rfl (fun v9469 hv9469 => ?_)
      refine WP_goto 105 dX6_load_88 rfl ?_
      refine WQ_puti dX6_load_105 fX6_48 rfl rfl (lyx_is hy 44 6 rfl) (fun I9470 eI9470 => ?_)
      have hI9470 : XI g n L I9470 := by rw [eI9470]; exact (xi_f hy hI9236 (c := 44) (0) (0) (20) (by decide) (Or.inl (by decide)) (by decide) (by omega) (by omega))
      have e9471 : I9470 (ad g 1) 1 = L := by rw [eI9470, pp_ne _ _ (Or.inl (lyx_ne hy (by decide) (by decide) (by decide)))]; exact e9237
      have e9472 : I9470 (ad g 27) 4 = v9215 := by rw [eI9470, pp_ne _ _ (Or.inl (lyx_ne hy (by decide) (by decide) (by decide)))]; exact e9238
      have e9473 : I9470 (ad g 44) 0 = v9222 := by rw [eI9470, pp_ne _ _ (Or.inr (by decide))]; exact e9239
      have e9474 : I9470 (ad g 44) 1 = v9228 := by rw [eI9470, pp_ne _ _ (Or.inr (by decide))]; exact e9240
      have e9475 : I9470 (ad g 44) 2 = v9235 := by rw [eI9470, pp_ne _ _ (Or.inr (by decide))]; exact e9241
      have e9476 : I9470 (ad g 44) 3 = v9469 := by rw [eI9470, pp_self]
      have fr9477 : fz 74 g [44] I I9470 := by rw [eI9470]; exact fzx_pp hy fr9242 (by decide) (by decide)
      clear eI9470
      refine WP_aload_n dX6_load_108 rfl ?_
      refine WP_iload dX6_load_109 rfl ?_
      refine WQ_iconst (-1) (-1) dX6_load_111 rfl rfl (fun v9478 hv9478 => ?_)
      refine WQ_icmp_ne 119 dX6_load_112 rfl (fun c9478 => ?_) (fun c9478 => ?_)
      · refine WP_aload_n dX6_load_119 rfl ?_
        refine WP_getr dX6_load_120 fX6_45 rfl (lyx_is hy 5 0 rfl) (rfx hr 5 1 22 (by decide)) ?_
        refine WP_iload dX6_load_123 rfl ?_
        refine WQ_bipush (7) (7) dX6_load_125 rfl rfl (fun v9480 hv9480 => ?_)
        refine WQ_imulk (7) dX6_load_127 hv9480 (by omega) (by omega) (fun v9481 hv9481 => ?_)
        refine WP_iload_n dX6_load_128 rfl ?_
        refine WQ_iadd dX6_load_129 (by omega) (by omega) (fun v9482 hv9482 => ?_)
        refine WQ_ialdb dX6_load_130 (lyx_is hy 22 13 rfl) (lyx_n hy 22 21 rfl) (by omega) (by omega) (fun q hq => BT_get hI9470.1 22 0 21 (0) (0) (20) (by decide) q (Nat.zero_le _) hq) (fun v9483 av9483 bv9483 zv9483 => ?_)
        have yv9483 : I (ad g 22) (7 * v9215.toInt + da.toInt).toNat = v9483 := by rw [← fz_at fr9477 22 (by decide) (by decide), show (7 * v9215.toInt + da.toInt).toNat = v9482.toInt.toNat by omega]; exact zv9483
        refine WQ_puti dX6_load_131 fX6_51 rfl rfl (lyx_is hy 44 6 rfl) (fun I9484 eI9484 => ?_)
        have hI9484 : XI g n L I9484 := by rw [eI9484]; exact (xi_f hy hI9470 (c := 44) (0) (0) (20) (by decide) (Or.inl (by decide)) (by decide) (by omega) (by omega))
        have e9485 : I9484 (ad g 1) 1 = L := by rw [eI9484, pp_ne _ _ (Or.inl (lyx_ne hy (by decide) (by decide) (by decide)))]; exact e9471
        have e9486 : I9484 (ad g 27) 4 = v9215 := by rw [eI9484, pp_ne _ _ (Or.inl (lyx_ne hy (by decide) (by decide) (by decide)))]; exact e9472
        have e9487 : I9484 (ad g 44) 0 = v9222 := by rw [eI9484, pp_ne _ _ (Or.inr (by decide))]; exact e9473
        have e9488 : I9484 (ad g 44) 1 = v9228 := by rw [eI9484, pp_ne _ _ (Or.inr (by decide))]; exact e9474
        have e9489 : I9484 (ad g 44) 2 = v9235 := by rw [eI9484, pp_ne _ _ (Or.inr (by decide))]; exact e9475
        have e9490 : I9484 (ad g 44) 3 = v9469 := by rw [eI9484, pp_ne _ _ (Or.inr (by decide))]; exact e9476
        have e9491 : I9484 (ad g 44) 4 = v9483 := by rw [eI9484, pp_self]
        have fr9492 : fz 74 g [44] I I9484 := by rw [eI9484]; exact fzx_pp hy fr9477 (by decide) (by decide)
        clear eI9484
        refine WP_aload_n dX6_load_134 rfl ?_
        refine WP_iload dX6_load_135 rfl ?_
        refine WQ_if_eq 144 dX6_load_137 rfl (fun c9492 => ?_) (fun c9492 => False.elim (by omega))
        refine WP_aload_n dX6_load_144 rfl ?_
        refine WQ_getim dX6_load_145 fX6_36 rfl (lyx_is hy 44 6 rfl) e9488 ?_
        refine WQ_puti dX6_load_148 fX6_54 rfl rfl (lyx_is hy 44 6 rfl) (fun I9494 eI9494 => ?_)
        have hI9494 : XI g n L I9494 := by rw [eI9494]; exact (xi_f hy hI9484 (c := 44) (0) (0) (3) (by decide) (Or.inl (by decide)) (by decide) (by omega) (by omega))
        have e9495 : I9494 (ad g 1) 1 = L := by rw [eI9494, pp_ne _ _ (Or.inl (lyx_ne hy (by decide) (by decide) (by decide)))]; exact e9485
        have e9496 : I9494 (ad g 27) 4 = v9215 := by rw [eI9494, pp_ne _ _ (Or.inl (lyx_ne hy (by decide) (by decide) (by decide)))]; exact e9486
        have e9497 : I9494 (ad g 44) 0 = v9222 := by rw [eI9494, pp_ne _ _ (Or.inr (by decide))]; exact e9487
        have e9498 : I9494 (ad g 44) 1 = v9228 := by rw [eI9494, pp_ne _ _ (Or.inr (by decide))]; exact e9488
        have e9499 : I9494 (ad g 44) 2 = v9235 := by rw [eI9494, pp_ne _ _ (Or.inr (by decide))]; exact e9489
        have e9500 : I9494 (ad g 44) 3 = v9469 := by rw [eI9494, pp_ne _ _ (Or.inr (by decide))]; exact e9490
        have e9501 : I9494 (ad g 44) 4 = v9483 := by rw [eI9494, pp_ne _ _ (Or.inr (by decide))]; exact e9491
        have e9502 : I9494 (ad g 44) 5 = v9228 := by rw [eI9494, pp_self]
        have fr9503 : fz 74 g [44] I I9494 := by rw [eI9494]; exact fzx_pp hy fr9492 (by decide) (by decide)
        clear eI9494
        refine WP_aload_n dX6_load_151 rfl ?_
        refine WP_iload dX6_load_152 rfl ?_
        refine WQ_if_ne 163 dX6_load_154 rfl (fun c9503 => False.elim (by omega)) (fun c9503 => ?_)
        refine WP_iload dX6_load_157 rfl ?_
        refine WQ_iconst (-1) (-1) dX6_load_159 rfl rfl (fun v9505 hv9505 => ?_)
        refine WQ_icmp_ne 167 dX6_load_160 rfl (fun c9505 => ?_) (fun c9505 => False.elim (by omega))
        refine WQ_iconst (2) (2) dX6_load_167 rfl rfl (fun v9507 hv9507 => ?_)
        refine WQ_puti dX6_load_168 fX6_57 rfl rfl (lyx_is hy 44 6 rfl) (fun I9508 eI9508 => ?_)
        have hI9508 : XI g n L I9508 := by rw [eI9508]; exact (xi_f hy hI9494 (c := 44) (0) (0) (2) (by decide) (Or.inl (by decide)) (by decide) (by omega) (by omega))
        have e9509 : I9508 (ad g 1) 1 = L := by rw [eI9508, pp_ne _ _ (Or.inl (lyx_ne hy (by decide) (by decide) (by decide)))]; exact e9495
        have e9510 : I9508 (ad g 27) 4 = v9215 := by rw [eI9508, pp_ne _ _ (Or.inl (lyx_ne hy (by decide) (by decide) (by decide)))]; exact e9496
        have e9511 : I9508 (ad g 44) 0 = v9222 := by rw [eI9508, pp_ne _ _ (Or.inr (by decide))]; exact e9497
        have e9512 : I9508 (ad g 44) 1 = v9228 := by rw [eI9508, pp_ne _ _ (Or.inr (by decide))]; exact e9498
        have e9513 : I9508 (ad g 44) 2 = v9235 := by rw [eI9508, pp_ne _ _ (Or.inr (by decide))]; exact e9499
        have e9514 : I9508 (ad g 44) 3 = v9469 := by rw [eI9508, pp_ne _ _ (Or.inr (by decide))]; exact e9500
        have e9515 : I9508 (ad g 44) 4 = v9483 := by rw [eI9508, pp_ne _ _ (Or.inr (by decide))]; exact e9501
        have e9516 : I9508 (ad g 44) 5 = v9228 := by rw [eI9508, pp_ne _ _ (Or.inr (by decide))]; exact e9502
        have e9517 : I9508 (ad g 44) 6 = v9507 := by rw [eI9508, pp_self]
        have fr9518 : fz 74 g [44] I I9508 := by rw [eI9508]; exact fzx_pp hy fr9503 (by decide) (by decide)
        clear eI9508
        refine WP_aload_n dX6_load_171 rfl ?_
        refine WP_aload_n dX6_load_172 rfl ?_
        refine WQ_getim dX6_load_173 fX6_9 rfl (lyx_is hy 44 6 rfl) e9511 ?_
        refine WQ_iconst (-1) (-1) dX6_load_176 rfl rfl (fun v9519 hv9519 => ?_)
        refine WQ_icmp_eq 193 dX6_load_177 rfl (fun c9519 => ?_) (fun c9519 => False.elim (by omega))
        refine WQ_iconst (0) (0) dX6_load_193 rfl rfl (fun v9521 hv9521 => ?_)
        refine WQ_putz dX6_load_194 fX6_60 rfl rfl (by omega) (lyx_is hy 44 6 rfl) (fun I9522 eI9522 => ?_)
        have hI9522 : XI g n L I9522 := by rw [eI9522]; exact (xi_f hy hI9508 (c := 44) (0) (0) (1) (by decide) (Or.inl (by decide)) (by decide) (by omega) (by omega))
        have e9523 : I9522 (ad g 1) 1 = L := by rw [eI9522, pp_ne _ _ (Or.inl (lyx_ne hy (by decide) (by decide) (by decide)))]; exact e9509
        have e9524 : I9522 (ad g 27) 4 = v9215 := by rw [eI9522, pp_ne _ _ (Or.inl (lyx_ne hy (by decide) (by decide) (by decide)))]; exact e9510
        have e9525 : I9522 (ad g 44) 0 = v9222 := by rw [eI9522, pp_ne _ _ (Or.inr (by decide))]; exact e9511
        have e9526 : I9522 (ad g 44) 1 = v9228 := by rw [eI9522, pp_ne _ _ (Or.inr (by decide))]; exact e9512
        have e9527 : I9522 (ad g 44) 2 = v9235 := by rw [eI9522, pp_ne _ _ (Or.inr (by decide))]; exact e9513
        have e9528 : I9522 (ad g 44) 3 = v9469 := by rw [eI9522, pp_ne _ _ (Or.inr (by decide))]; exact e9514
        have e9529 : I9522 (ad g 44) 4 = v9483 := by rw [eI9522, pp_ne _ _ (Or.inr (by decide))]; exact e9515
        have e9530 : I9522 (ad g 44) 5 = v9228 := by rw [eI9522, pp_ne _ _ (Or.inr (by decide))]; exact e9516
        have e9531 : I9522 (ad g 44) 6 = v9507 := by rw [eI9522, pp_ne _ _ (Or.inr (by decide))]; exact e9517
        have e9532 : I9522 (ad g 44) 7 = v9521 := by rw [eI9522, pp_self]
        have fr9533 : fz 74 g [44] I I9522 := by rw [eI9522]; exact fzx_pp hy fr9518 (by decide) (by decide)
        clear eI9522
        refine WP_aload_n dX6_load_197 rfl ?_
        refine WP_aload_n dX6_load_198 rfl ?_
        refine WP_getr dX6_load_199 fX6_64 rfl (lyx_is hy 5 0 rfl) (rfx hr 5 2 23 (by decide)) ?_
        refine WP_iload_n dX6_load_202 rfl ?_
        refine WQ_iald dX6_load_203 (lyx_is hy 23 13 rfl) (lyx_n hy 23 7 rfl) (by omega) (by omega) (fun q hq => BT_get hI9522.1 23 0 7 (0) (0) (900) (by decide) q (Nat.zero_le _) hq) (fun v9534 av9534 bv9534 ev9534 => ?_)
        clear ev9534
        refine WQ_if_le 211 dX6_load_204 rfl (fun c9534 => ?_) (fun c9534 => ?_)
        · refine WQ_iconst (0) (0) dX6_load_211 rfl rfl (fun v9536 hv9536 => ?_)
          refine WQ_putz dX6_load_212 fX6_67 rfl rfl (by omega) (lyx_is hy 44 6 rfl) (fun I9537 eI9537 => ?_)
          have hI9537 : XI g n L I9537 := by rw [eI9537]; exact (xi_f hy hI9522 (c := 44) (0) (0) (1) (by decide) (Or.inl (by decide)) (by decide) (by omega) (by omega))
          have e9538 : I9537 (ad g 1) 1 = L := by rw [eI9537, pp_ne _ _ (Or.inl (lyx_ne hy (by decide) (by decide) (by decide)))]; exact e9523
          have e9539 : I9537 (ad g 27) 4 = v9215 := by rw [eI9537, pp_ne _ _ (Or.inl (lyx_ne hy (by decide) (by decide) (by decide)))]; exact e9524
          have e9540 : I9537 (ad g 44) 0 = v9222 := by rw [eI9537, pp_ne _ _ (Or.inr (by decide))]; exact e9525
          have e9541 : I9537 (ad g 44) 1 = v9228 := by rw [eI9537, pp_ne _ _ (Or.inr (by decide))]; exact e9526
          have e9542 : I9537 (ad g 44) 2 = v9235 := by rw [eI9537, pp_ne _ _ (Or.inr (by decide))]; exact e9527
          have e9543 : I9537 (ad g 44) 3 = v9469 := by rw [eI9537, pp_ne _ _ (Or.inr (by decide))]; exact e9528
          have e9544 : I9537 (ad g 44) 4 = v9483 := by rw [eI9537, pp_ne _ _ (Or.inr (by decide))]; exact e9529
          have e9545 : I9537 (ad g 44) 5 = v9228 := by rw [eI9537, pp_ne _ _ (Or.inr (by decide))]; exact e9530
          have e9546 : I9537 (ad g 44) 6 = v9507 := by rw [eI9537, pp_ne _ _ (Or.inr (by decide))]; exact e9531
          have e9547 : I9537 (ad g 44) 7 = v9521 := by rw [eI9537, pp_ne _ _ (Or.inr (by decide))]; exact e9532
          have e9548 : I9537 (ad g 44) 8 = v9536 := by rw [eI9537, pp_self]
          have fr9549 : fz 74 g [44] I I9537 := by rw [eI9537]; exact fzx_pp hy fr9533 (by decide) (by decide)
          clear eI9537
          exact WP_vret dX6_load_215 rfl ⟨⟨hI9537, rfl, fr9549, rfl, (by
                have yill : I (ad g (27 + 5)) so.toInt.toNat >>> (nI da.toInt.toNat &&& 31) &&& 1 = v9219 := by rw [show I (ad g (27 + 5)) so.toInt.toNat = v9216 from yv9216, show nI da.toInt.toNat = da from (eq32 _ _).mpr (by rw [nI_toInt (by omega)]; omega), xv9219, xv9217, (eq32 v9218 1).mpr hv9218]
                have yst : I (ad g 27) 4 = v9215 := est
                unfold LD
                simp only [e9540, e9541, e9542, e9543, e9544, e9545, e9546, e9547, yill, yst, show I (ad g (27 + 7)) _ = _ from yv9222, show I (ad g (27 + 8)) _ = _ from yv9228, show I (ad g (27 + 9)) _ = _ from yv9235, yv9483, true_and, and_true]
                omega)⟩, rfl⟩
        · refine WQ_iconst (1) (1) dX6_load_207 rfl rfl (fun v9550 hv9550 => ?_)
          refine WP_goto 212 dX6_load_208 rfl ?_
          refine WQ_putz dX6_load_212 fX6_67 rfl rfl (by omega) (lyx_is hy 44 6 rfl) (fun I9551 eI9551 => ?_)
          have hI9551 : XI g n L I9551 := by rw [eI9551]; exact (xi_f hy hI9522 (c := 44) (0) (0) (1) (by decide) (Or.inl (by decide)) (by decide) (by omega) (by omega))
          have e9552 : I9551 (ad g 1) 1 = L := by rw [eI9551, pp_ne _ _ (Or.inl (lyx_ne hy (by decide) (by decide) (by decide)))]; exact e9523
          have e9553 : I9551 (ad g 27) 4 = v9215 := by rw [eI9551, pp_ne _ _ (Or.inl (lyx_ne hy (by decide) (by decide) (by decide)))]; exact e9524
          have e9554 : I9551 (ad g 44) 0 = v9222 := by rw [eI9551, pp_ne _ _ (Or.inr (by decide))]; exact e9525
          have e9555 : I9551 (ad g 44) 1 = v9228 := by rw [eI9551, pp_ne _ _ (Or.inr (by decide))]; exact e9526
          have e9556 : I9551 (ad g 44) 2 = v9235 := by rw [eI9551, pp_ne _ _ (Or.inr (by decide))]; exact e9527
          have e9557 : I9551 (ad g 44) 3 = v9469 := by rw [eI9551, pp_ne _ _ (Or.inr (by decide))]; exact e9528
          have e9558 : I9551 (ad g 44) 4 = v9483 := by rw [eI9551, pp_ne _ _ (Or.inr (by decide))]; exact e9529
          have e9559 : I9551 (ad g 44) 5 = v9228 := by rw [eI9551, pp_ne _ _ (Or.inr (by decide))]; exact e9530
          have e9560 : I9551 (ad g 44) 6 = v9507 := by rw [eI9551, pp_ne _ _ (Or.inr (by decide))]; exact e9531
          have e9561 : I9551 (ad g 44) 7 = v9521 := by rw [eI9551, pp_ne _ _ (Or.inr (by decide))]; exact e9532
          have e9562 : I9551 (ad g 44) 8 = v9550 := by rw [eI9551, pp_self]
          have fr9563 : fz 74 g [44] I I9551 := by rw [eI9551]; exact fzx_pp hy fr9533 (by decide) (by decide)
          clear eI9551
          exact WP_vret dX6_load_215 rfl ⟨⟨hI9551, rfl, fr9563, rfl, (by
                have yill : I (ad g (27 + 5)) so.toInt.toNat >>> (nI da.toInt.toNat &&& 31) &&& 1 = v9219 := by rw [show I (ad g (27 + 5)) so.toInt.toNat = v9216 from yv9216, show nI da.toInt.toNat = da from (eq32 _ _).mpr (by rw [nI_toInt (by omega)]; omega), xv9219, xv9217, (eq32 v9218 1).mpr hv9218]
                have yst : I (ad g 27) 4 = v9215 := est
                unfold LD
                simp only [e9554, e9555, e9556, e9557, e9558, e9559, e9560, e9561, yill, yst, show I (ad g (27 + 7)) _ = _ from yv9222, show I (ad g (27 + 8)) _ = _ from yv9228, show I (ad g (27 + 9)) _ = _ from yv9235, yv9483, true_and, and_true]
                omega)⟩, rfl⟩
      · refine WQ_iconst (0) (0) dX6_load_115 rfl rfl (fun v9564 hv9564 => ?_)
        refine WP_goto 131 dX6_load_116 rfl ?_
        refine WQ_puti dX6_load_131 fX6_51 rfl rfl (lyx_is hy 44 6 rfl) (fun I9565 eI9565 => ?_)
        have hI9565 : XI g n L I9565 := by rw [eI9565]; exact (xi_f hy hI9470 (c := 44) (0) (0) (20) (by decide) (Or.inl (by decide)) (by decide) (by omega) (by omega))
        have e9566 : I9565 (ad g 1) 1 = L := by rw [eI9565, pp_ne _ _ (Or.inl (lyx_ne hy (by decide) (by decide) (by decide)))]; exact e9471
        have e9567 : I9565 (ad g 27) 4 = v9215 := by rw [eI9565, pp_ne _ _ (Or.inl (lyx_ne hy (by decide) (by decide) (by decide)))]; exact e9472
        have e9568 : I9565 (ad g 44) 0 = v9222 := by rw [eI9565, pp_ne _ _ (Or.inr (by decide))]; exact e9473
        have e9569 : I9565 (ad g 44) 1 = v9228 := by rw [eI9565, pp_ne _ _ (Or.inr (by decide))]; exact e9474
        have e9570 : I9565 (ad g 44) 2 = v9235 := by rw [eI9565, pp_ne _ _ (Or.inr (by decide))]; exact e9475
        have e9571 : I9565 (ad g 44) 3 = v9469 := by rw [eI9565, pp_ne _ _ (Or.inr (by decide))]; exact e9476
        have e9572 : I9565 (ad g 44) 4 = v9564 := by rw [eI9565, pp_self]
        have fr9573 : fz 74 g [44] I I9565 := by rw [eI9565]; exact fzx_pp hy fr9477 (by decide) (by decide)
        clear eI9565
        refine WP_aload_n dX6_load_134 rfl ?_
        refine WP_iload dX6_load_135 rfl ?_
        refine WQ_if_eq 144 dX6_load_137 rfl (fun c9573 => ?_) (fun c9573 => False.elim (by omega))
        refine WP_aload_n dX6_load_144 rfl ?_
        refine WQ_getim dX6_load_145 fX6_36 rfl (lyx_is hy 44 6 rfl) e9569 ?_
        refine WQ_puti dX6_load_148 fX6_54 rfl rfl (lyx_is hy 44 6 rfl) (fun I9575 eI9575 => ?_)
        have hI9575 : XI g n L I9575 := by rw [eI9575]; exact (xi_f hy hI9565 (c := 44) (0) (0) (3) (by decide) (Or.inl (by decide)) (by decide) (by omega) (by omega))
        have e9576 : I9575 (ad g 1) 1 = L := by rw [eI9575, pp_ne _ _ (Or.inl (lyx_ne hy (by decide) (by decide) (by decide)))]; exact e9566
        have e9577 : I9575 (ad g 27) 4 = v9215 := by rw [eI9575, pp_ne _ _ (Or.inl (lyx_ne hy (by decide) (by decide) (by decide)))]; exact e9567
        have e9578 : I9575 (ad g 44) 0 = v9222 := by rw [eI9575, pp_ne _ _ (Or.inr (by decide))]; exact e9568
        have e9579 : I9575 (ad g 44) 1 = v9228 := by rw [eI9575, pp_ne _ _ (Or.inr (by decide))]; exact e9569
        have e9580 : I9575 (ad g 44) 2 = v9235 := by rw [eI9575, pp_ne _ _ (Or.inr (by decide))]; exact e9570
        have e9581 : I9575 (ad g 44) 3 = v9469 := by rw [eI9575, pp_ne _ _ (Or.inr (by decide))]; exact e9571
        have e9582 : I9575 (ad g 44) 4 = v9564 := by rw [eI9575, pp_ne _ _ (Or.inr (by decide))]; exact e9572
        have e9583 : I9575 (ad g 44) 5 = v9228 := by rw [eI9575, pp_self]
        have fr9584 : fz 74 g [44] I I9575 := by rw [eI9575]; exact fzx_pp hy fr9573 (by decide) (by decide)
        clear eI9575
        refine WP_aload_n dX6_load_151 rfl ?_
        refine WP_iload dX6_load_152 rfl ?_
        refine WQ_if_ne 163 dX6_load_154 rfl (fun c9584 => False.elim (by omega)) (fun c9584 => ?_)
        refine WP_iload dX6_load_157 rfl ?_
        refine WQ_iconst (-1) (-1) dX6_load_159 rfl rfl (fun v9586 hv9586 => ?_)
        refine WQ_icmp_ne 167 dX6_load_160 rfl (fun c9586 => False.elim (by omega)) (fun c9586 => ?_)
        refine WQ_iconst (0) (0) dX6_load_163 rfl rfl (fun v9588 hv9588 => ?_)
        refine WP_goto 168 dX6_load_164 rfl ?_
        refine WQ_puti dX6_load_168 fX6_57 rfl rfl (lyx_is hy 44 6 rfl) (fun I9589 eI9589 => ?_)
        have hI9589 : XI g n L I9589 := by rw [eI9589]; exact (xi_f hy hI9575 (c := 44) (0) (0) (2) (by decide) (Or.inl (by decide)) (by decide) (by omega) (by omega))
        have e9590 : I9589 (ad g 1) 1 = L := by rw [eI9589, pp_ne _ _ (Or.inl (lyx_ne hy (by decide) (by decide) (by decide)))]; exact e9576
        have e9591 : I9589 (ad g 27) 4 = v9215 := by rw [eI9589, pp_ne _ _ (Or.inl (lyx_ne hy (by decide) (by decide) (by decide)))]; exact e9577
        have e9592 : I9589 (ad g 44) 0 = v9222 := by rw [eI9589, pp_ne _ _ (Or.inr (by decide))]; exact e9578
        have e9593 : I9589 (ad g 44) 1 = v9228 := by rw [eI9589, pp_ne _ _ (Or.inr (by decide))]; exact e9579
        have e9594 : I9589 (ad g 44) 2 = v9235 := by rw [eI9589, pp_ne _ _ (Or.inr (by decide))]; exact e9580
        have e9595 : I9589 (ad g 44) 3 = v9469 := by rw [eI9589, pp_ne _ _ (Or.inr (by decide))]; exact e9581
        have e9596 : I9589 (ad g 44) 4 = v9564 := by rw [eI9589, pp_ne _ _ (Or.inr (by decide))]; exact e9582
        have e9597 : I9589 (ad g 44) 5 = v9228 := by rw [eI9589, pp_ne _ _ (Or.inr (by decide))]; exact e9583
        have e9598 : I9589 (ad g 44) 6 = v9588 := by rw [eI9589, pp_self]
        have fr9599 : fz 74 g [44] I I9589 := by rw [eI9589]; exact fzx_pp hy fr9584 (by decide) (by decide)
        clear eI9589
        refine WP_aload_n dX6_load_171 rfl ?_
        refine WP_aload_n dX6_load_172 rfl ?_
        refine WQ_getim dX6_load_173 fX6_9 rfl (lyx_is hy 44 6 rfl) e9592 ?_
        refine WQ_iconst (-1) (-1) dX6_load_176 rfl rfl (fun v9600 hv9600 => ?_)
        refine WQ_icmp_eq 193 dX6_load_177 rfl (fun c9600 => ?_) (fun c9600 => False.elim (by omega))
        refine WQ_iconst (0) (0) dX6_load_193 rfl rfl (fun v9602 hv9602 => ?_)
        refine WQ_putz dX6_load_194 fX6_60 rfl rfl (by omega) (lyx_is hy 44 6 rfl) (fun I9603 eI9603 => ?_)
        have hI9603 : XI g n L I9603 := by rw [eI9603]; exact (xi_f hy hI9589 (c := 44) (0) (0) (1) (by decide) (Or.inl (by decide)) (by decide) (by omega) (by omega))
        have e9604 : I9603 (ad g 1) 1 = L := by rw [eI9603, pp_ne _ _ (Or.inl (lyx_ne hy (by decide) (by decide) (by decide)))]; exact e9590
        have e9605 : I9603 (ad g 27) 4 = v9215 := by rw [eI9603, pp_ne _ _ (Or.inl (lyx_ne hy (by decide) (by decide) (by decide)))]; exact e9591
        have e9606 : I9603 (ad g 44) 0 = v9222 := by rw [eI9603, pp_ne _ _ (Or.inr (by decide))]; exact e9592
        have e9607 : I9603 (ad g 44) 1 = v9228 := by rw [eI9603, pp_ne _ _ (Or.inr (by decide))]; exact e9593
        have e9608 : I9603 (ad g 44) 2 = v9235 := by rw [eI9603, pp_ne _ _ (Or.inr (by decide))]; exact e9594
        have e9609 : I9603 (ad g 44) 3 = v9469 := by rw [eI9603, pp_ne _ _ (Or.inr (by decide))]; exact e9595
        have e9610 : I9603 (ad g 44) 4 = v9564 := by rw [eI9603, pp_ne _ _ (Or.inr (by decide))]; exact e9596
        have e9611 : I9603 (ad g 44) 5 = v9228 := by rw [eI9603, pp_ne _ _ (Or.inr (by decide))]; exact e9597
        have e9612 : I9603 (ad g 44) 6 = v9588 := by rw [eI9603, pp_ne _ _ (Or.inr (by decide))]; exact e9598
        have e9613 : I9603 (ad g 44) 7 = v9602 := by rw [eI9603, pp_self]
        have fr9614 : fz 74 g [44] I I9603 := by rw [eI9603]; exact fzx_pp hy fr9599 (by decide) (by decide)
        clear eI9603
        refine WP_aload_n dX6_load_197 rfl ?_
        refine WP_aload_n dX6_load_198 rfl ?_
        refine WP_getr dX6_load_199 fX6_64 rfl (lyx_is hy 5 0 rfl) (rfx hr 5 2 23 (by decide)) ?_
        refine WP_iload_n dX6_load_202 rfl ?_
        refine WQ_iald dX6_load_203 (lyx_is hy 23 13 rfl) (lyx_n hy 23 7 rfl) (by omega) (by omega) (fun q hq => BT_get hI9603.1 23 0 7 (0) (0) (900) (by decide) q (Nat.zero_le _) hq) (fun v9615 av9615 bv9615 ev9615 => ?_)
        clear ev9615
        refine WQ_if_le 211 dX6_load_204 rfl (fun c9615 => ?_) (fun c9615 => ?_)
        · refine WQ_iconst (0) (0) dX6_load_211 rfl rfl (fun v9617 hv9617 => ?_)
          refine WQ_putz dX6_load_212 fX6_67 rfl rfl (by omega) (lyx_is hy 44 6 rfl) (fun I9618 eI9618 => ?_)
          have hI9618 : XI g n L I9618 := by rw [eI9618]; exact (xi_f hy hI9603 (c := 44) (0) (0) (1) (by decide) (Or.inl (by decide)) (by decide) (by omega) (by omega))
          have e9619 : I9618 (ad g 1) 1 = L := by rw [eI9618, pp_ne _ _ (Or.inl (lyx_ne hy (by decide) (by decide) (by decide)))]; exact e9604
          have e9620 : I9618 (ad g 27) 4 = v9215 := by rw [eI9618, pp_ne _ _ (Or.inl (lyx_ne hy (by decide) (by decide) (by decide)))]; exact e9605
          have e9621 : I9618 (ad g 44) 0 = v9222 := by rw [eI9618, pp_ne _ _ (Or.inr (by decide))]; exact e9606
          have e9622 : I9618 (ad g 44) 1 = v9228 := by rw [eI9618, pp_ne _ _ (Or.inr (by decide))]; exact e9607
          have e9623 : I9618 (ad g 44) 2 = v9235 := by rw [eI9618, pp_ne _ _ (Or.inr (by decide))]; exact e9608
          have e9624 : I9618 (ad g 44) 3 = v9469 := by rw [eI9618, pp_ne _ _ (Or.inr (by decide))]; exact e9609
          have e9625 : I9618 (ad g 44) 4 = v9564 := by rw [eI9618, pp_ne _ _ (Or.inr (by decide))]; exact e9610
          have e9626 : I9618 (ad g 44) 5 = v9228 := by rw [eI9618, pp_ne _ _ (Or.inr (by decide))]; exact e9611
          have e9627 : I9618 (ad g 44) 6 = v9588 := by rw [eI9618, pp_ne _ _ (Or.inr (by decide))]; exact e9612
          have e9628 : I9618 (ad g 44) 7 = v9602 := by rw [eI9618, pp_ne _ _ (Or.inr (by decide))]; exact e9613
          have e9629 : I9618 (ad g 44) 8 = v9617 := by rw [eI9618, pp_self]
          have fr9630 : fz 74 g [44] I I9618 := by rw [eI9618]; exact fzx_pp hy fr9614 (by decide) (by decide)
          clear eI9618
          exact WP_vret dX6_load_215 rfl ⟨⟨hI9618, rfl, fr9630, rfl, (by
                have yill : I (ad g (27 + 5)) so.toInt.toNat >>> (nI da.toInt.toNat &&& 31) &&& 1 = v9219 := by rw [show I (ad g (27 + 5)) so.toInt.toNat = v9216 from yv9216, show nI da.toInt.toNat = da from (eq32 _ _).mpr (by rw [nI_toInt (by omega)]; omega), xv9219, xv9217, (eq32 v9218 1).mpr hv9218]
                have yst : I (ad g 27) 4 = v9215 := est
                unfold LD
                simp only [e9621, e9622, e9623, e9624, e9625, e9626, e9627, e9628, yill, yst, show I (ad g (27 + 7)) _ = _ from yv9222, show I (ad g (27 + 8)) _ = _ from yv9228, show I (ad g (27 + 9)) _ = _ from yv9235, true_and, and_true]
                omega)⟩, rfl⟩
        · refine WQ_iconst (1) (1) dX6_load_207 rfl rfl (fun v9631 hv9631 => ?_)
          refine WP_goto 212 dX6_load_208 rfl ?_
          refine WQ_putz dX6_load_212 fX6_67 rfl rfl (by omega) (lyx_is hy 44 6 rfl) (fun I9632 eI9632 => ?_)
          have hI9632 : XI g n L I9632 := by rw [eI9632]; exact (xi_f hy hI9603 (c := 44) (0) (0) (1) (by decide) (Or.inl (by decide)) (by decide) (by omega) (by omega))
          have e9633 : I9632 (ad g 1) 1 = L := by rw [eI9632, pp_ne _ _ (Or.inl (lyx_ne hy (by decide) (by decide) (by decide)))]; exact e9604
          have e9634 : I9632 (ad g 27) 4 = v9215 := by rw [eI9632, pp_ne _ _ (Or.inl (lyx_ne hy (by decide) (by decide) (by decide)))]; exact e9605
          have e9635 : I9632 (ad g 44) 0 = v9222 := by rw [eI9632, pp_ne _ _ (Or.inr (by decide))]; exact e9606
          have e9636 : I9632 (ad g 44) 1 = v9228 := by rw [eI9632, pp_ne _ _ (Or.inr (by decide))]; exact e9607
          have e9637 : I9632 (ad g 44) 2 = v9235 := by rw [eI9632, pp_ne _ _ (Or.inr (by decide))]; exact e9608
          have e9638 : I9632 (ad g 44) 3 = v9469 := by rw [eI9632, pp_ne _ _ (Or.inr (by decide))]; exact e9609
          have e9639 : I9632 (ad g 44) 4 = v9564 := by rw [eI9632, pp_ne _ _ (Or.inr (by decide))]; exact e9610
          have e9640 : I9632 (ad g 44) 5 = v9228 := by rw [eI9632, pp_ne _ _ (Or.inr (by decide))]; exact e9611
          have e9641 : I9632 (ad g 44) 6 = v9588 := by rw [eI9632, pp_ne _ _ (Or.inr (by decide))]; exact e9612
          have e9642 : I9632 (ad g 44) 7 = v9602 := by rw [eI9632, pp_ne _ _ (Or.inr (by decide))]; exact e9613
          have e9643 : I9632 (ad g 44) 8 = v9631 := by rw [eI9632, pp_self]
          have fr9644 : fz 74 g [44] I I9632 := by rw [eI9632]; exact fzx_pp hy fr9614 (by decide) (by decide)
          clear eI9632
          exact WP_vret dX6_load_215 rfl ⟨⟨hI9632, rfl, fr9644, rfl, (by
                have yill : I (ad g (27 + 5)) so.toInt.toNat >>> (nI da.toInt.toNat &&& 31) &&& 1 = v9219 := by rw [show I (ad g (27 + 5)) so.toInt.toNat = v9216 from yv9216, show nI da.toInt.toNat = da from (eq32 _ _).mpr (by rw [nI_toInt (by omega)]; omega), xv9219, xv9217, (eq32 v9218 1).mpr hv9218]
                have yst : I (ad g 27) 4 = v9215 := est
                unfold LD
                simp only [e9635, e9636, e9637, e9638, e9639, e9640, e9641, e9642, yill, yst, show I (ad g (27 + 7)) _ = _ from yv9222, show I (ad g (27 + 8)) _ = _ from yv9228, show I (ad g (27 + 9)) _ = _ from yv9235, true_and, and_true]
                omega)⟩, rfl⟩
  · refine WQ_iconst (1) (1) dX6_load_35 rfl rfl (fun v9645 hv9645 => ?_)
    refine WP_goto 40 dX6_load_36 rfl ?_
    refine WP_istore (ls' := [(0, _), (1, _), (2, _), (3, _), (4, _), (5, _), (6, _), (7, _)]) dX6_load_40 (by decide) rfl ?_
    refine WP_aload_n dX6_load_42 rfl ?_
    refine WP_aload dX6_load_43 rfl ?_
    refine WP_getr dX6_load_45 fX6_30 rfl (lyx_is hy 27 7 rfl) (rfx hr 27 11 34 (by decide)) ?_
    refine WP_iload dX6_load_48 rfl ?_
    refine WQ_ialdb dX6_load_50 (lyx_is hy 34 13 rfl) (lyx_n hy 34 28 rfl) (by omega) (by omega) (fun q hq => BT_get hI.1 34 0 28 (-1) (0) (2) (by decide) q (Nat.zero_le _) hq) (fun v9646 av9646 bv9646 zv9646 => ?_)
    have yv9646 : I (ad g 34) (7 * so.toInt + da.toInt).toNat = v9646 := by rw [← fz_at fr0 34 (by decide) (by decide), show (7 * so.toInt + da.toInt).toNat = v9214.toInt.toNat by omega]; exact zv9646
    refine WQ_puti dX6_load_51 fX6_9 rfl rfl (lyx_is hy 44 6 rfl) (fun I9647 eI9647 => ?_)
    have hI9647 : XI g n L I9647 := by rw [eI9647]; exact (xi_f hy hI (c := 44) (-1) (0) (2) (by decide) (Or.inl (by decide)) (by decide) (by omega) (by omega))
    have e9648 : I9647 (ad g 1) 1 = L := by rw [eI9647, pp_ne _ _ (Or.inl (lyx_ne hy (by decide) (by decide) (by decide)))]; exact e9210
    have e9649 : I9647 (ad g 27) 4 = v9215 := by rw [eI9647, pp_ne _ _ (Or.inl (lyx_ne hy (by decide) (by decide) (by decide)))]; exact ev9215
    have e9650 : I9647 (ad g 44) 0 = v9646 := by rw [eI9647, pp_self]
    have fr9651 : fz 74 g [44] I I9647 := by rw [eI9647]; exact fzx_pp hy fr0 (by decide) (by decide)
    clear eI9647
    refine WP_aload_n dX6_load_54 rfl ?_
    refine WP_aload dX6_load_55 rfl ?_
    refine WP_getr dX6_load_57 fX6_33 rfl (lyx_is hy 27 7 rfl) (rfx hr 27 12 35 (by decide)) ?_
    refine WP_iload dX6_load_60 rfl ?_
    refine WQ_ialdb dX6_load_62 (lyx_is hy 35 13 rfl) (lyx_n hy 35 28 rfl) (by omega) (by omega) (fun q hq => BT_get hI9647.1 35 0 28 (0) (0) (3) (by decide) q (Nat.zero_le _) hq) (fun v9652 av9652 bv9652 zv9652 => ?_)
    have yv9652 : I (ad g 35) (7 * so.toInt + da.toInt).toNat = v9652 := by rw [← fz_at fr9651 35 (by decide) (by decide), show (7 * so.toInt + da.toInt).toNat = v9214.toInt.toNat by omega]; exact zv9652
    refine WQ_puti dX6_load_63 fX6_36 rfl rfl (lyx_is hy 44 6 rfl) (fun I9653 eI9653 => ?_)
    have hI9653 : XI g n L I9653 := by rw [eI9653]; exact (xi_f hy hI9647 (c := 44) (0) (0) (3) (by decide) (Or.inl (by decide)) (by decide) (by omega) (by omega))
    have e9654 : I9653 (ad g 1) 1 = L := by rw [eI9653, pp_ne _ _ (Or.inl (lyx_ne hy (by decide) (by decide) (by decide)))]; exact e9648
    have e9655 : I9653 (ad g 27) 4 = v9215 := by rw [eI9653, pp_ne _ _ (Or.inl (lyx_ne hy (by decide) (by decide) (by decide)))]; exact e9649
    have e9656 : I9653 (ad g 44) 0 = v9646 := by rw [eI9653, pp_ne _ _ (Or.inr (by decide))]; exact e9650
    have e9657 : I9653 (ad g 44) 1 = v9652 := by rw [eI9653, pp_self]
    have fr9658 : fz 74 g [44] I I9653 := by rw [eI9653]; exact fzx_pp hy fr9651 (by decide) (by decide)
    clear eI9653
    refine WP_aload_n dX6_load_66 rfl ?_
    refine WP_aload dX6_load_67 rfl ?_
    refine WP_getr dX6_load_69 fX6_39 rfl (lyx_is hy 27 7 rfl) (rfx hr 27 13 36 (by decide)) ?_
    refine WP_iload dX6_load_72 rfl ?_
    refine WQ_ialdb dX6_load_74 (lyx_is hy 36 13 rfl) (lyx_n hy 36 28 rfl) (by omega) (by omega) (fun q hq => BT_get hI9653.1 36 0 28 (0) (0) (99) (by decide) q (Nat.zero_le _) hq) (fun v9659 av9659 bv9659 zv9659 => ?_)
    have yv9659 : I (ad g 36) (7 * so.toInt + da.toInt).toNat = v9659 := by rw [← fz_at fr9658 36 (by decide) (by decide), show (7 * so.toInt + da.toInt).toNat = v9214.toInt.toNat by omega]; exact zv9659
    refine WQ_puti dX6_load_75 fX6_42 rfl rfl (lyx_is hy 44 6 rfl) (fun I9660 eI9660 => ?_)
    have hI9660 : XI g n L I9660 := by rw [eI9660]; exact (xi_f hy hI9653 (c := 44) (0) (0) (99) (by decide) (Or.inl (by decide)) (by decide) (by omega) (by omega))
    have e9661 : I9660 (ad g 1) 1 = L := by rw [eI9660, pp_ne _ _ (Or.inl (lyx_ne hy (by decide) (by decide) (by decide)))]; exact e9654
    have e9662 : I9660 (ad g 27) 4 = v9215 := by rw [eI9660, pp_ne _ _ (Or.inl (lyx_ne hy (by decide) (by decide) (by decide)))]; exact e9655
    have e9663 : I9660 (ad g 44) 0 = v9646 := by rw [eI9660, pp_ne _ _ (Or.inr (by decide))]; exact e9656
    have e9664 : I9660 (ad g 44) 1 = v9652 := by rw [eI9660, pp_ne _ _ (Or.inr (by decide))]; exact e9657
    have e9665 : I9660 (ad g 44) 2 = v9659 := by rw [eI9660, pp_self]
    have fr9666 : fz 74 g [44] I I9660 := by rw [eI9660]; exact fzx_pp hy fr9658 (by decide) (by decide)
    clear eI9660
    refine WP_aload_n dX6_load_78 rfl ?_
    refine WP_aload_n dX6_load_79 rfl ?_
    refine WQ_getim dX6_load_80 fX6_9 rfl (lyx_is hy 44 6 rfl) e9663 ?_
    refine WQ_iconst (-1) (-1) dX6_load_83 rfl rfl (fun v9667 hv9667 => ?_)
    refine WQ_icmp_ne 91 dX6_load_84 rfl (fun c9667 => ?_) (fun c9667 => ?_)
    · refine WP_aload_n dX6_load_91 rfl ?_
      refine WP_getr dX6_load_92 fX6_45 rfl (lyx_is hy 5 0 rfl) (rfx hr 5 1 22 (by decide)) ?_
      refine WP_aload_n dX6_load_95 rfl ?_
      refine WQ_getim dX6_load_96 fX6_9 rfl (lyx_is hy 44 6 rfl) e9663 ?_
      refine WQ_bipush (7) (7) dX6_load_99 rfl rfl (fun v9669 hv9669 => ?_)
      refine WQ_imulk (7) dX6_load_101 hv9669 (by omega) (by omega) (fun v9670 hv9670 => ?_)
      refine WP_iload_n dX6_load_102 rfl ?_
      refine WQ_iadd dX6_load_103 (by omega) (by omega) (fun v9671 hv9671 => ?_)
      refine WQ_ialdb dX6_load_104 (lyx_is hy 22 13 rfl) (lyx_n hy 22 21 rfl) (by omega) (by omega) (fun q hq => BT_get hI9660.1 22 0 21 (0) (0) (20) (by decide) q (Nat.zero_le _) hq) (fun v9672 av9672 bv9672 zv9672 => ?_)
      have yv9672 : I (ad g 22) (7 * v9646.toInt + da.toInt).toNat = v9672 := by rw [← fz_at fr9666 22 (by decide) (by decide), show (7 * v9646.toInt + da.toInt).toNat = v9671.toInt.toNat by omega]; exact zv9672
      refine WQ_puti dX6_load_105 fX6_48 rfl rfl (lyx_is hy 44 6 rfl) (fun I9673 eI9673 => ?_)
      have hI9673 : XI g n L I9673 := by rw [eI9673]; exact (xi_f hy hI9660 (c := 44) (0) (0) (20) (by decide) (Or.inl (by decide)) (by decide) (by omega) (by omega))
      have e9674 : I9673 (ad g 1) 1 = L := by rw [eI9673, pp_ne _ _ (Or.inl (lyx_ne hy (by decide) (by decide) (by decide)))]; exact e9661
      have e9675 : I9673 (ad g 27) 4 = v9215 := by rw [eI9673, pp_ne _ _ (Or.inl (lyx_ne hy (by decide) (by decide) (by decide)))]; exact e9662
      have e9676 : I9673 (ad g 44) 0 = v9646 := by rw [eI9673, pp_ne _ _ (Or.inr (by decide))]; exact e9663
      have e9677 : I9673 (ad g 44) 1 = v9652 := by rw [eI9673, pp_ne _ _ (Or.inr (by decide))]; exact e9664
      have e9678 : I9673 (ad g 44) 2 = v9659 := by rw [eI9673, pp_ne _ _ (Or.inr (by decide))]; exact e9665
      have e9679 : I9673 (ad g 44) 3 = v9672 := by rw [eI9673, pp_self]
      have fr9680 : fz 74 g [44] I I9673 := by rw [eI9673]; exact fzx_pp hy fr9666 (by decide) (by decide)
      clear eI9673
      refine WP_aload_n dX6_load_108 rfl ?_
      refine WP_iload dX6_load_109 rfl ?_
      refine WQ_iconst (-1) (-1) dX6_load_111 rfl rfl (fun v9681 hv9681 => ?_)
      refine WQ_icmp_ne 119 dX6_load_112 rfl (fun c9681 => ?_) (fun c9681 => ?_)
      · refine WP_aload_n dX6_load_119 rfl ?_
        refine WP_getr dX6_load_120 fX6_45 rfl (lyx_is hy 5 0 rfl) (rfx hr 5 1 22 (by decide)) ?_
        refine WP_iload dX6_load_123 rfl ?_
        refine WQ_bipush (7) (7) dX6_load_125 rfl rfl (fun v9683 hv9683 => ?_)
        refine WQ_imulk (7) dX6_load_127 hv9683 (by omega) (by omega) (fun v9684 hv9684 => ?_)
        refine WP_iload_n dX6_load_128 rfl ?_
        refine WQ_iadd dX6_load_129 (by omega) (by omega) (fun v9685 hv9685 => ?_)
        refine WQ_ialdb dX6_load_130 (lyx_is hy 22 13 rfl) (lyx_n hy 22 21 rfl) (by omega) (by omega) (fun q hq => BT_get hI9673.1 22 0 21 (0) (0) (20) (by decide) q (Nat.zero_le _) hq) (fun v9686 av9686 bv9686 zv9686 => ?_)
        have yv9686 : I (ad g 22) (7 * v9215.toInt + da.toInt).toNat = v9686 := by rw [← fz_at fr9680 22 (by decide) (by decide), show (7 * v9215.toInt + da.toInt).toNat = v9685.toInt.toNat by omega]; exact zv9686
        refine WQ_puti dX6_load_131 fX6_51 rfl rfl (lyx_is hy 44 6 rfl) (fun I9687 eI9687 => ?_)
        have hI9687 : XI g n L I9687 := by rw [eI9687]; exact (xi_f hy hI9673 (c := 44) (0) (0) (20) (by decide) (Or.inl (by decide)) (by decide) (by omega) (by omega))
        have e9688 : I9687 (ad g 1) 1 = L := by rw [eI9687, pp_ne _ _ (Or.inl (lyx_ne hy (by decide) (by decide) (by decide)))]; exact e9674
        have e9689 : I9687 (ad g 27) 4 = v9215 := by rw [eI9687, pp_ne _ _ (Or.inl (lyx_ne hy (by decide) (by decide) (by decide)))]; exact e9675
        have e9690 : I9687 (ad g 44) 0 = v9646 := by rw [eI9687, pp_ne _ _ (Or.inr (by decide))]; exact e9676
        have e9691 : I9687 (ad g 44) 1 = v9652 := by rw [eI9687, pp_ne _ _ (Or.inr (by decide))]; exact e9677
        have e9692 : I9687 (ad g 44) 2 = v9659 := by rw [eI9687, pp_ne _ _ (Or.inr (by decide))]; exact e9678
        have e9693 : I9687 (ad g 44) 3 = v9672 := by rw [eI9687, pp_ne _ _ (Or.inr (by decide))]; exact e9679
        have e9694 : I9687 (ad g 44) 4 = v9686 := by rw [eI9687, pp_self]
        have fr9695 : fz 74 g [44] I I9687 := by rw [eI9687]; exact fzx_pp hy fr9680 (by decide) (by decide)
        clear eI9687
        refine WP_aload_n dX6_load_134 rfl ?_
        refine WP_iload dX6_load_135 rfl ?_
        refine WQ_if_eq 144 dX6_load_137 rfl (fun c9695 => False.elim (by omega)) (fun c9695 => ?_)
        refine WQ_iconst (0) (0) dX6_load_140 rfl rfl (fun v9697 hv9697 => ?_)
        refine WP_goto 148 dX6_load_141 rfl ?_
        refine WQ_puti dX6_load_148 fX6_54 rfl rfl (lyx_is hy 44 6 rfl) (fun I9698 eI9698 => ?_)
        have hI9698 : XI g n L I9698 := by rw [eI9698]; exact (xi_f hy hI9687 (c := 44) (0) (0) (3) (by decide) (Or.inl (by decide)) (by decide) (by omega) (by omega))
        have e9699 : I9698 (ad g 1) 1 = L := by rw [eI9698, pp_ne _ _ (Or.inl (lyx_ne hy (by decide) (by decide) (by decide)))]; exact e9688
        have e9700 : I9698 (ad g 27) 4 = v9215 := by rw [eI9698, pp_ne _ _ (Or.inl (lyx_ne hy (by decide) (by decide) (by decide)))]; exact e9689
        have e9701 : I9698 (ad g 44) 0 = v9646 := by rw [eI9698, pp_ne _ _ (Or.inr (by decide))]; exact e9690
        have e9702 : I9698 (ad g 44) 1 = v9652 := by rw [eI9698, pp_ne _ _ (Or.inr (by decide))]; exact e9691
        have e9703 : I9698 (ad g 44) 2 = v9659 := by rw [eI9698, pp_ne _ _ (Or.inr (by decide))]; exact e9692
        have e9704 : I9698 (ad g 44) 3 = v9672 := by rw [eI9698, pp_ne _ _ (Or.inr (by decide))]; exact e9693
        have e9705 : I9698 (ad g 44) 4 = v9686 := by rw [eI9698, pp_ne _ _ (Or.inr (by decide))]; exact e9694
        have e9706 : I9698 (ad g 44) 5 = v9697 := by rw [eI9698, pp_self]
        have fr9707 : fz 74 g [44] I I9698 := by rw [eI9698]; exact fzx_pp hy fr9695 (by decide) (by decide)
        clear eI9698
        refine WP_aload_n dX6_load_151 rfl ?_
        refine WP_iload dX6_load_152 rfl ?_
        refine WQ_if_ne 163 dX6_load_154 rfl (fun c9707 => ?_) (fun c9707 => False.elim (by omega))
        refine WQ_iconst (0) (0) dX6_load_163 rfl rfl (fun v9709 hv9709 => ?_)
        refine WP_goto 168 dX6_load_164 rfl ?_
        refine WQ_puti dX6_load_168 fX6_57 rfl rfl (lyx_is hy 44 6 rfl) (fun I9710 eI9710 => ?_)
        have hI9710 : XI g n L I9710 := by rw [eI9710]; exact (xi_f hy hI9698 (c := 44) (0) (0) (2) (by decide) (Or.inl (by decide)) (by decide) (by omega) (by omega))
        have e9711 : I9710 (ad g 1) 1 = L := by rw [eI9710, pp_ne _ _ (Or.inl (lyx_ne hy (by decide) (by decide) (by decide)))]; exact e9699
        have e9712 : I9710 (ad g 27) 4 = v9215 := by rw [eI9710, pp_ne _ _ (Or.inl (lyx_ne hy (by decide) (by decide) (by decide)))]; exact e9700
        have e9713 : I9710 (ad g 44) 0 = v9646 := by rw [eI9710, pp_ne _ _ (Or.inr (by decide))]; exact e9701
        have e9714 : I9710 (ad g 44) 1 = v9652 := by rw [eI9710, pp_ne _ _ (Or.inr (by decide))]; exact e9702
        have e9715 : I9710 (ad g 44) 2 = v9659 := by rw [eI9710, pp_ne _ _ (Or.inr (by decide))]; exact e9703
        have e9716 : I9710 (ad g 44) 3 = v9672 := by rw [eI9710, pp_ne _ _ (Or.inr (by decide))]; exact e9704
        have e9717 : I9710 (ad g 44) 4 = v9686 := by rw [eI9710, pp_ne _ _ (Or.inr (by decide))]; exact e9705
        have e9718 : I9710 (ad g 44) 5 = v9697 := by rw [eI9710, pp_ne _ _ (Or.inr (by decide))]; exact e9706
        have e9719 : I9710 (ad g 44) 6 = v9709 := by rw [eI9710, pp_self]
        have fr9720 : fz 74 g [44] I I9710 := by rw [eI9710]; exact fzx_pp hy fr9707 (by decide) (by decide)
        clear eI9710
        refine WP_aload_n dX6_load_171 rfl ?_
        refine WP_aload_n dX6_load_172 rfl ?_
        refine WQ_getim dX6_load_173 fX6_9 rfl (lyx_is hy 44 6 rfl) e9713 ?_
        refine WQ_iconst (-1) (-1) dX6_load_176 rfl rfl (fun v9721 hv9721 => ?_)
        refine WQ_icmp_eq 193 dX6_load_177 rfl (fun c9721 => False.elim (by omega)) (fun c9721 => ?_)
        refine WP_aload_n dX6_load_180 rfl ?_
        refine WQ_getim dX6_load_181 fX6_9 rfl (lyx_is hy 44 6 rfl) e9713 ?_
        refine WP_iload dX6_load_184 rfl ?_
        refine WQ_icmp_ne 193 dX6_load_186 rfl (fun c9722 => ?_) (fun c9722 => ?_)
        · refine WQ_iconst (0) (0) dX6_load_193 rfl rfl (fun v9724 hv9724 => ?_)
          refine WQ_putz dX6_load_194 fX6_60 rfl rfl (by omega) (lyx_is hy 44 6 rfl) (fun I9725 eI9725 => ?_)
          have hI9725 : XI g n L I9725 := by rw [eI9725]; exact (xi_f hy hI9710 (c := 44) (0) (0) (1) (by decide) (Or.inl (by decide)) (by decide) (by omega) (by omega))
          have e9726 : I9725 (ad g 1) 1 = L := by rw [eI9725, pp_ne _ _ (Or.inl (lyx_ne hy (by decide) (by decide) (by decide)))]; exact e9711
          have e9727 : I9725 (ad g 27) 4 = v9215 := by rw [eI9725, pp_ne _ _ (Or.inl (lyx_ne hy (by decide) (by decide) (by decide)))]; exact e9712
          have e9728 : I9725 (ad g 44) 0 = v9646 := by rw [eI9725, pp_ne _ _ (Or.inr (by decide))]; exact e9713
          have e9729 : I9725 (ad g 44) 1 = v9652 := by rw [eI9725, pp_ne _ _ (Or.inr (by decide))]; exact e9714
          have e9730 : I9725 (ad g 44) 2 = v9659 := by rw [eI9725, pp_ne _ _ (Or.inr (by decide))]; exact e9715
          have e9731 : I9725 (ad g 44) 3 = v9672 := by rw [eI9725, pp_ne _ _ (Or.inr (by decide))]; exact e9716
          have e9732 : I9725 (ad g 44) 4 = v9686 := by rw [eI9725, pp_ne _ _ (Or.inr (by decide))]; exact e9717
          have e9733 : I9725 (ad g 44) 5 = v9697 := by rw [eI9725, pp_ne _ _ (Or.inr (by decide))]; exact e9718
          have e9734 : I9725 (ad g 44) 6 = v9709 := by rw [eI9725, pp_ne _ _ (Or.inr (by decide))]; exact e9719
          have e9735 : I9725 (ad g 44) 7 = v9724 := by rw [eI9725, pp_self]
          have fr9736 : fz 74 g [44] I I9725 := by rw [eI9725]; exact fzx_pp hy fr9720 (by decide) (by decide)
          clear eI9725
          refine WP_aload_n dX6_load_197 rfl ?_
          refine WP_aload_n dX6_load_198 rfl ?_
          refine WP_getr dX6_load_199 fX6_64 rfl (lyx_is hy 5 0 rfl) (rfx hr 5 2 23 (by decide)) ?_
          refine WP_iload_n dX6_load_202 rfl ?_
          refine WQ_iald dX6_load_203 (lyx_is hy 23 13 rfl) (lyx_n hy 23 7 rfl) (by omega) (by omega) (fun q hq => BT_get hI9725.1 23 0 7 (0) (0) (900) (by decide) q (Nat.zero_le _) hq) (fun v9737 av9737 bv9737 ev9737 => ?_)
          clear ev9737
          refine WQ_if_le 211 dX6_load_204 rfl (fun c9737 => ?_) (fun c9737 => ?_)
          · refine WQ_iconst (0) (0) dX6_load_211 rfl rfl (fun v9739 hv9739 => ?_)
            refine WQ_putz dX6_load_212 fX6_67 rfl rfl (by omega) (lyx_is hy 44 6 rfl) (fun I9740 eI9740 => ?_)
            have hI9740 : XI g n L I9740 := by rw [eI9740]; exact (xi_f hy hI9725 (c := 44) (0) (0) (1) (by decide) (Or.inl (by decide)) (by decide) (by omega) (by omega))
            have e9741 : I9740 (ad g 1) 1 = L := by rw [eI9740, pp_ne _ _ (Or.inl (lyx_ne hy (by decide) (by decide) (by decide)))]; exact e9726
            have e9742 : I9740 (ad g 27) 4 = v9215 := by rw [eI9740, pp_ne _ _ (Or.inl (lyx_ne hy (by decide) (by decide) (by decide)))]; exact e9727
            have e9743 : I9740 (ad g 44) 0 = v9646 := by rw [eI9740, pp_ne _ _ (Or.inr (by decide))]; exact e9728
            have e9744 : I9740 (ad g 44) 1 = v9652 := by rw [eI9740, pp_ne _ _ (Or.inr (by decide))]; exact e9729
            have e9745 : I9740 (ad g 44) 2 = v9659 := by rw [eI9740, pp_ne _ _ (Or.inr (by decide))]; exact e9730
            have e9746 : I9740 (ad g 44) 3 = v9672 := by rw [eI9740, pp_ne _ _ (Or.inr (by decide))]; exact e9731
            have e9747 : I9740 (ad g 44) 4 = v9686 := by rw [eI9740, pp_ne _ _ (Or.inr (by decide))]; exact e9732
            have e9748 : I9740 (ad g 44) 5 = v9697 := by rw [eI9740, pp_ne _ _ (Or.inr (by decide))]; exact e9733
            have e9749 : I9740 (ad g 44) 6 = v9709 := by rw [eI9740, pp_ne _ _ (Or.inr (by decide))]; exact e9734
            have e9750 : I9740 (ad g 44) 7 = v9724 := by rw [eI9740, pp_ne _ _ (Or.inr (by decide))]; exact e9735
            have e9751 : I9740 (ad g 44) 8 = v9739 := by rw [eI9740, pp_self]
            have fr9752 : fz 74 g [44] I I9740 := by rw [eI9740]; exact fzx_pp hy fr9736 (by decide) (by decide)
            clear eI9740
            exact WP_vret dX6_load_215 rfl ⟨⟨hI9740, rfl, fr9752, rfl, (by
                  have yill : I (ad g (27 + 5)) so.toInt.toNat >>> (nI da.toInt.toNat &&& 31) &&& 1 = v9219 := by rw [show I (ad g (27 + 5)) so.toInt.toNat = v9216 from yv9216, show nI da.toInt.toNat = da from (eq32 _ _).mpr (by rw [nI_toInt (by omega)]; omega), xv9219, xv9217, (eq32 v9218 1).mpr hv9218]
                  have yst : I (ad g 27) 4 = v9215 := est
                  unfold LD
                  simp only [e9743, e9744, e9745, e9746, e9747, e9748, e9749, e9750, yill, yst, show I (ad g (27 + 7)) _ = _ from yv9646, show I (ad g (27 + 8)) _ = _ from yv9652, show I (ad g (27 + 9)) _ = _ from yv9659, yv9672, yv9686, true_and, and_true]
                  omega)⟩, rfl⟩
          · refine WQ_iconst (1) (1) dX6_load_207 rfl rfl (fun v9753 hv9753 => ?_)
            refine WP_goto 212 dX6_load_208 rfl ?_
            refine WQ_putz dX6_load_212 fX6_67 rfl rfl (by omega) (lyx_is hy 44 6 rfl) (fun I9754 eI9754 => ?_)
            have hI9754 : XI g n L I9754 := by rw [eI9754]; exact (xi_f hy hI9725 (c := 44) (0) (0) (1) (by decide) (Or.inl (by decide)) (by decide) (by omega) (by omega))
            have e9755 : I9754 (ad g 1) 1 = L := by rw [eI9754, pp_ne _ _ (Or.inl (lyx_ne hy (by decide) (by decide) (by decide)))]; exact e9726
            have e9756 : I9754 (ad g 27) 4 = v9215 := by rw [eI9754, pp_ne _ _ (Or.inl (lyx_ne hy (by decide) (by decide) (by decide)))]; exact e9727
            have e9757 : I9754 (ad g 44) 0 = v9646 := by rw [eI9754, pp_ne _ _ (Or.inr (by decide))]; exact e9728
            have e9758 : I9754 (ad g 44) 1 = v9652 := by rw [eI9754, pp_ne _ _ (Or.inr (by decide))]; exact e9729
            have e9759 : I9754 (ad g 44) 2 = v9659 := by rw [eI9754, pp_ne _ _ (Or.inr (by decide))]; exact e9730
            have e9760 : I9754 (ad g 44) 3 = v9672 := by rw [eI9754, pp_ne _ _ (Or.inr (by decide))]; exact e9731
            have e9761 : I9754 (ad g 44) 4 = v9686 := by rw [eI9754, pp_ne _ _ (Or.inr (by decide))]; exact e9732
            have e9762 : I9754 (ad g 44) 5 = v9697 := by rw [eI9754, pp_ne _ _ (Or.inr (by decide))]; exact e9733
            have e9763 : I9754 (ad g 44) 6 = v9709 := by rw [eI9754, pp_ne _ _ (Or.inr (by decide))]; exact e9734
            have e9764 : I9754 (ad g 44) 7 = v9724 := by rw [eI9754, pp_ne _ _ (Or.inr (by decide))]; exact e9735
            have e9765 : I9754 (ad g 44) 8 = v9753 := by rw [eI9754, pp_self]
            have fr9766 : fz 74 g [44] I I9754 := by rw [eI9754]; exact fzx_pp hy fr9736 (by decide) (by decide)
            clear eI9754
            exact WP_vret dX6_load_215 rfl ⟨⟨hI9754, rfl, fr9766, rfl, (by
                  have yill : I (ad g (27 + 5)) so.toInt.toNat >>> (nI da.toInt.toNat &&& 31) &&& 1 = v9219 := by rw [show I (ad g (27 + 5)) so.toInt.toNat = v9216 from yv9216, show nI da.toInt.toNat = da from (eq32 _ _).mpr (by rw [nI_toInt (by omega)]; omega), xv9219, xv9217, (eq32 v9218 1).mpr hv9218]
                  have yst : I (ad g 27) 4 = v9215 := est
                  unfold LD
                  simp only [e9757, e9758, e9759, e9760, e9761, e9762, e9763, e9764, yill, yst, show I (ad g (27 + 7)) _ = _ from yv9646, show I (ad g (27 + 8)) _ = _ from yv9652, show I (ad g (27 + 9)) _ = _ from yv9659, yv9672, yv9686, true_and, and_true]
                  omega)⟩, rfl⟩
        · refine WQ_iconst (1) (1) dX6_load_189 rfl rfl (fun v9767 hv9767 => ?_)
          refine WP_goto 194 dX6_load_190 rfl ?_
          refine WQ_putz dX6_load_194 fX6_60 rfl rfl (by omega) (lyx_is hy 44 6 rfl) (fun I9768 eI9768 => ?_)
          have hI9768 : XI g n L I9768 := by rw [eI9768]; exact (xi_f hy hI9710 (c := 44) (0) (0) (1) (by decide) (Or.inl (by decide)) (by decide) (by omega) (by omega))
          have e9769 : I9768 (ad g 1) 1 = L := by rw [eI9768, pp_ne _ _ (Or.inl (lyx_ne hy (by decide) (by decide) (by decide)))]; exact e9711
          have e9770 : I9768 (ad g 27) 4 = v9215 := by rw [eI9768, pp_ne _ _ (Or.inl (lyx_ne hy (by decide) (by decide) (by decide)))]; exact e9712
          have e9771 : I9768 (ad g 44) 0 = v9646 := by rw [eI9768, pp_ne _ _ (Or.inr (by decide))]; exact e9713
          have e9772 : I9768 (ad g 44) 1 = v9652 := by rw [eI9768, pp_ne _ _ (Or.inr (by decide))]; exact e9714
          have e9773 : I9768 (ad g 44) 2 = v9659 := by rw [eI9768, pp_ne _ _ (Or.inr (by decide))]; exact e9715
          have e9774 : I9768 (ad g 44) 3 = v9672 := by rw [eI9768, pp_ne _ _ (Or.inr (by decide))]; exact e9716
          have e9775 : I9768 (ad g 44) 4 = v9686 := by rw [eI9768, pp_ne _ _ (Or.inr (by decide))]; exact e9717
          have e9776 : I9768 (ad g 44) 5 = v9697 := by rw [eI9768, pp_ne _ _ (Or.inr (by decide))]; exact e9718
          have e9777 : I9768 (ad g 44) 6 = v9709 := by rw [eI9768, pp_ne _ _ (Or.inr (by decide))]; exact e9719
          have e9778 : I9768 (ad g 44) 7 = v9767 := by rw [eI9768, pp_self]
          have fr9779 : fz 74 g [44] I I9768 := by rw [eI9768]; exact fzx_pp hy fr9720 (by decide) (by decide)
          clear eI9768
          refine WP_aload_n dX6_load_197 rfl ?_
          refine WP_aload_n dX6_load_198 rfl ?_
          refine WP_getr dX6_load_199 fX6_64 rfl (lyx_is hy 5 0 rfl) (rfx hr 5 2 23 (by decide)) ?_
          refine WP_iload_n dX6_load_202 rfl ?_
          refine WQ_iald dX6_load_203 (lyx_is hy 23 13 rfl) (lyx_n hy 23 7 rfl) (by omega) (by omega) (fun q hq => BT_get hI9768.1 23 0 7 (0) (0) (900) (by decide) q (Nat.zero_le _) hq) (fun v9780 av9780 bv9780 ev9780 => ?_)
          clear ev9780
          refine WQ_if_le 211 dX6_load_204 rfl (fun c9780 => ?_) (fun c9780 => ?_)
          · refine WQ_iconst (0) (0) dX6_load_211 rfl rfl (fun v9782 hv9782 => ?_)
            refine WQ_putz dX6_load_212 fX6_67 rfl rfl (by omega) (lyx_is hy 44 6 rfl) (fun I9783 eI9783 => ?_)
            have hI9783 : XI g n L I9783 := by rw [eI9783]; exact (xi_f hy hI9768 (c := 44) (0) (0) (1) (by decide) (Or.inl (by decide)) (by decide) (by omega) (by omega))
            have e9784 : I9783 (ad g 1) 1 = L := by rw [eI9783, pp_ne _ _ (Or.inl (lyx_ne hy (by decide) (by decide) (by decide)))]; exact e9769
            have e9785 : I9783 (ad g 27) 4 = v9215 := by rw [eI9783, pp_ne _ _ (Or.inl (lyx_ne hy (by decide) (by decide) (by decide)))]; exact e9770
            have e9786 : I9783 (ad g 44) 0 = v9646 := by rw [eI9783, pp_ne _ _ (Or.inr (by decide))]; exact e9771
            have e9787 : I9783 (ad g 44) 1 = v9652 := by rw [eI9783, pp_ne _ _ (Or.inr (by decide))]; exact e9772
            have e9788 : I9783 (ad g 44) 2 = v9659 := by rw [eI9783, pp_ne _ _ (Or.inr (by decide))]; exact e9773
            have e9789 : I9783 (ad g 44) 3 = v9672 := by rw [eI9783, pp_ne _ _ (Or.inr (by decide))]; exact e9774
            have e9790 : I9783 (ad g 44) 4 = v9686 := by rw [eI9783, pp_ne _ _ (Or.inr (by decide))]; exact e9775
            have e9791 : I9783 (ad g 44) 5 = v9697 := by rw [eI9783, pp_ne _ _ (Or.inr (by decide))]; exact e9776
            have e9792 : I9783 (ad g 44) 6 = v9709 := by rw [eI9783, pp_ne _ _ (Or.inr (by decide))]; exact e9777
            have e9793 : I9783 (ad g 44) 7 = v9767 := by rw [eI9783, pp_ne _ _ (Or.inr (by decide))]; exact e9778
            have e9794 : I9783 (ad g 44) 8 = v9782 := by rw [eI9783, pp_self]
            have fr9795 : fz 74 g [44] I I9783 := by rw [eI9783]; exact fzx_pp hy fr9779 (by decide) (by decide)
            clear eI9783
            exact WP_vret dX6_load_215 rfl ⟨⟨hI9783, rfl, fr9795, rfl, (by
                  have yill : I (ad g (27 + 5)) so.toInt.toNat >>> (nI da.toInt.toNat &&& 31) &&& 1 = v9219 := by rw [show I (ad g (27 + 5)) so.toInt.toNat = v9216 from yv9216, show nI da.toInt.toNat = da from (eq32 _ _).mpr (by rw [nI_toInt (by omega)]; omega), xv9219, xv9217, (eq32 v9218 1).mpr hv9218]
                  have yst : I (ad g 27) 4 = v9215 := est
                  unfold LD
                  simp only [e9786, e9787, e9788, e9789, e9790, e9791, e9792, e9793, yill, yst, show I (ad g (27 + 7)) _ = _ from yv9646, show I (ad g (27 + 8)) _ = _ from yv9652, show I (ad g (27 + 9)) _ = _ from yv9659, yv9672, yv9686, true_and, and_true]
                  omega)⟩, rfl⟩
          · refine WQ_iconst (1) (1) dX6_load_207 rfl rfl (fun v9796 hv9796 => ?_)
            refine WP_goto 212 dX6_load_208 rfl ?_
            refine WQ_putz dX6_load_212 fX6_67 rfl rfl (by omega) (lyx_is hy 44 6 rfl) (fun I9797 eI9797 => ?_)
            have hI9797 : XI g n L I9797 := by rw [eI9797]; exact (xi_f hy hI9768 (c := 44) (0) (0) (1) (by decide) (Or.inl (by decide)) (by decide) (by omega) (by omega))
            have e9798 : I9797 (ad g 1) 1 = L := by rw [eI9797, pp_ne _ _ (Or.inl (lyx_ne hy (by decide) (by decide) (by decide)))]; exact e9769
            have e9799 : I9797 (ad g 27) 4 = v9215 := by rw [eI9797, pp_ne _ _ (Or.inl (lyx_ne hy (by decide) (by decide) (by decide)))]; exact e9770
            have e9800 : I9797 (ad g 44) 0 = v9646 := by rw [eI9797, pp_ne _ _ (Or.inr (by decide))]; exact e9771
            have e9801 : I9797 (ad g 44) 1 = v9652 := by rw [eI9797, pp_ne _ _ (Or.inr (by decide))]; exact e9772
            have e9802 : I9797 (ad g 44) 2 = v9659 := by rw [eI9797, pp_ne _ _ (Or.inr (by decide))]; exact e9773
            have e9803 : I9797 (ad g 44) 3 = v9672 := by rw [eI9797, pp_ne _ _ (Or.inr (by decide))]; exact e9774
            have e9804 : I9797 (ad g 44) 4 = v9686 := by rw [eI9797, pp_ne _ _ (Or.inr (by decide))]; exact e9775
            have e9805 : I9797 (ad g 44) 5 = v9697 := by rw [eI9797, pp_ne _ _ (Or.inr (by decide))]; exact e9776
            have e9806 : I9797 (ad g 44) 6 = v9709 := by rw [eI9797, pp_ne _ _ (Or.inr (by decide))]; exact e9777
            have e9807 : I9797 (ad g 44) 7 = v9767 := by rw [eI9797, pp_ne _ _ (Or.inr (by decide))]; exact e9778
            have e9808 : I9797 (ad g 44) 8 = v9796 := by rw [eI9797, pp_self]
            have fr9809 : fz 74 g [44] I I9797 := by rw [eI9797]; exact fzx_pp hy fr9779 (by decide) (by decide)
            clear eI9797
            exact WP_vret dX6_load_215 rfl ⟨⟨hI9797, rfl, fr9809, rfl, (by
                  have yill : I (ad g (27 + 5)) so.toInt.toNat >>> (nI da.toInt.toNat &&& 31) &&& 1 = v9219 := by rw [show I (ad g (27 + 5)) so.toInt.toNat = v9216 from yv9216, show nI da.toInt.toNat = da from (eq32 _ _).mpr (by rw [nI_toInt (by omega)]; omega), xv9219, xv9217, (eq32 v9218 1).mpr hv9218]
                  have yst : I (ad g 27) 4 = v9215 := est
                  unfold LD
                  simp only [e9800, e9801, e9802, e9803, e9804, e9805, e9806, e9807, yill, yst, show I (ad g (27 + 7)) _ = _ from yv9646, show I (ad g (27 + 8)) _ = _ from yv9652, show I (ad g (27 + 9)) _ = _ from yv9659, yv9672, yv9686, true_and, and_true]
                  omega)⟩, rfl⟩
      · refine WQ_iconst (0) (0) dX6_load_115 rfl rfl (fun v9810 hv9810 => ?_)
        refine WP_goto 131 dX6_load_116 rfl ?_
        refine WQ_puti dX6_load_131 fX6_51 rfl rfl (lyx_is hy 44 6 rfl) (fun I9811 eI9811 => ?_)
        have hI9811 : XI g n L I9811 := by rw [eI9811]; exact (xi_f hy hI9673 (c := 44) (0) (0) (20) (by decide) (Or.inl (by decide)) (by decide) (by omega) (by omega))
        have e9812 : I9811 (ad g 1) 1 = L := by rw [eI9811, pp_ne _ _ (Or.inl (lyx_ne hy (by decide) (by decide) (by decide)))]; exact e9674
        have e9813 : I9811 (ad g 27) 4 = v9215 := by rw [eI9811, pp_ne _ _ (Or.inl (lyx_ne hy (by decide) (by decide) (by decide)))]; exact e9675
        have e9814 : I9811 (ad g 44) 0 = v9646 := by rw [eI9811, pp_ne _ _ (Or.inr (by decide))]; exact e9676
        have e9815 : I9811 (ad g 44) 1 = v9652 := by rw [eI9811, pp_ne _ _ (Or.inr (by decide))]; exact e9677
        have e9816 : I9811 (ad g 44) 2 = v9659 := by rw [eI9811, pp_ne _ _ (Or.inr (by decide))]; exact e9678
        have e9817 : I9811 (ad g 44) 3 = v9672 := by rw [eI9811, pp_ne _ _ (Or.inr (by decide))]; exact e9679
        have e9818 : I9811 (ad g 44) 4 = v9810 := by rw [eI9811, pp_self]
        have fr9819 : fz 74 g [44] I I9811 := by rw [eI9811]; exact fzx_pp hy fr9680 (by decide) (by decide)
        clear eI9811
        refine WP_aload_n dX6_load_134 rfl ?_
        refine WP_iload dX6_load_135 rfl ?_
        refine WQ_if_eq 144 dX6_load_137 rfl (fun c9819 => False.elim (by omega)) (fun c9819 => ?_)
        refine WQ_iconst (0) (0) dX6_load_140 rfl rfl (fun v9821 hv9821 => ?_)
        refine WP_goto 148 dX6_load_141 rfl ?_
        refine WQ_puti dX6_load_148 fX6_54 rfl rfl (lyx_is hy 44 6 rfl) (fun I9822 eI9822 => ?_)
        have hI9822 : XI g n L I9822 := by rw [eI9822]; exact (xi_f hy hI9811 (c := 44) (0) (0) (3) (by decide) (Or.inl (by decide)) (by decide) (by omega) (by omega))
        have e9823 : I9822 (ad g 1) 1 = L := by rw [eI9822, pp_ne _ _ (Or.inl (lyx_ne hy (by decide) (by decide) (by decide)))]; exact e9812
        have e9824 : I9822 (ad g 27) 4 = v9215 := by rw [eI9822, pp_ne _ _ (Or.inl (lyx_ne hy (by decide) (by decide) (by decide)))]; exact e9813
        have e9825 : I9822 (ad g 44) 0 = v9646 := by rw [eI9822, pp_ne _ _ (Or.inr (by decide))]; exact e9814
        have e9826 : I9822 (ad g 44) 1 = v9652 := by rw [eI9822, pp_ne _ _ (Or.inr (by decide))]; exact e9815
        have e9827 : I9822 (ad g 44) 2 = v9659 := by rw [eI9822, pp_ne _ _ (Or.inr (by decide))]; exact e9816
        have e9828 : I9822 (ad g 44) 3 = v9672 := by rw [eI9822, pp_ne _ _ (Or.inr (by decide))]; exact e9817
        have e9829 : I9822 (ad g 44) 4 = v9810 := by rw [eI9822, pp_ne _ _ (Or.inr (by decide))]; exact e9818
        have e9830 : I9822 (ad g 44) 5 = v9821 := by rw [eI9822, pp_self]
        have fr9831 : fz 74 g [44] I I9822 := by rw [eI9822]; exact fzx_pp hy fr9819 (by decide) (by decide)
        clear eI9822
        refine WP_aload_n dX6_load_151 rfl ?_
        refine WP_iload dX6_load_152 rfl ?_
        refine WQ_if_ne 163 dX6_load_154 rfl (fun c9831 => ?_) (fun c9831 => False.elim (by omega))
        refine WQ_iconst (0) (0) dX6_load_163 rfl rfl (fun v9833 hv9833 => ?_)
        refine WP_goto 168 dX6_load_164 rfl ?_
        refine WQ_puti dX6_load_168 fX6_57 rfl rfl (lyx_is hy 44 6 rfl) (fun I9834 eI9834 => ?_)
        have hI9834 : XI g n L I9834 := by rw [eI9834]; exact (xi_f hy hI9822 (c := 44) (0) (0) (2) (by decide) (Or.inl (by decide)) (by decide) (by omega) (by omega))
        have e9835 : I9834 (ad g 1) 1 = L := by rw [eI9834, pp_ne _ _ (Or.inl (lyx_ne hy (by decide) (by decide) (by decide)))]; exact e9823
        have e9836 : I9834 (ad g 27) 4 = v9215 := by rw [eI9834, pp_ne _ _ (Or.inl (lyx_ne hy (by decide) (by decide) (by decide)))]; exact e9824
        have e9837 : I9834 (ad g 44) 0 = v9646 := by rw [eI9834, pp_ne _ _ (Or.inr (by decide))]; exact e9825
        have e9838 : I9834 (ad g 44) 1 = v9652 := by rw [eI9834, pp_ne _ _ (Or.inr (by decide))]; exact e9826
        have e9839 : I9834 (ad g 44) 2 = v9659 := by rw [eI9834, pp_ne _ _ (Or.inr (by decide))]; exact e9827
        have e9840 : I9834 (ad g 44) 3 = v9672 := by rw [eI9834, pp_ne _ _ (Or.inr (by decide))]; exact e9828
        have e9841 : I9834 (ad g 44) 4 = v9810 := by rw [eI9834, pp_ne _ _ (Or.inr (by decide))]; exact e9829
        have e9842 : I9834 (ad g 44) 5 = v9821 := by rw [eI9834, pp_ne _ _ (Or.inr (by decide))]; exact e9830
        have e9843 : I9834 (ad g 44) 6 = v9833 := by rw [eI9834, pp_self]
        have fr9844 : fz 74 g [44] I I9834 := by rw [eI9834]; exact fzx_pp hy fr9831 (by decide) (by decide)
        clear eI9834
        refine WP_aload_n dX6_load_171 rfl ?_
        refine WP_aload_n dX6_load_172 rfl ?_
        refine WQ_getim dX6_load_173 fX6_9 rfl (lyx_is hy 44 6 rfl) e9837 ?_
        refine WQ_iconst (-1) (-1) dX6_load_176 rfl rfl (fun v9845 hv9845 => ?_)
        refine WQ_icmp_eq 193 dX6_load_177 rfl (fun c9845 => False.elim (by omega)) (fun c9845 => ?_)
        refine WP_aload_n dX6_load_180 rfl ?_
        refine WQ_getim dX6_load_181 fX6_9 rfl (lyx_is hy 44 6 rfl) e9837 ?_
        refine WP_iload dX6_load_184 rfl ?_
        refine WQ_icmp_ne 193 dX6_load_186 rfl (fun c9846 => ?_) (fun c9846 => False.elim (by omega))
        refine WQ_iconst (0) (0) dX6_load_193 rfl rfl (fun v9848 hv9848 => ?_)
        refine WQ_putz dX6_load_194 fX6_60 rfl rfl (by omega) (lyx_is hy 44 6 rfl) (fun I9849 eI9849 => ?_)
        have hI9849 : XI g n L I9849 := by rw [eI9849]; exact (xi_f hy hI9834 (c := 44) (0) (0) (1) (by decide) (Or.inl (by decide)) (by decide) (by omega) (by omega))
        have e9850 : I9849 (ad g 1) 1 = L := by rw [eI9849, pp_ne _ _ (Or.inl (lyx_ne hy (by decide) (by decide) (by decide)))]; exact e9835
        have e9851 : I9849 (ad g 27) 4 = v9215 := by rw [eI9849, pp_ne _ _ (Or.inl (lyx_ne hy (by decide) (by decide) (by decide)))]; exact e9836
        have e9852 : I9849 (ad g 44) 0 = v9646 := by rw [eI9849, pp_ne _ _ (Or.inr (by decide))]; exact e9837
        have e9853 : I9849 (ad g 44) 1 = v9652 := by rw [eI9849, pp_ne _ _ (Or.inr (by decide))]; exact e9838
        have e9854 : I9849 (ad g 44) 2 = v9659 := by rw [eI9849, pp_ne _ _ (Or.inr (by decide))]; exact e9839
        have e9855 : I9849 (ad g 44) 3 = v9672 := by rw [eI9849, pp_ne _ _ (Or.inr (by decide))]; exact e9840
        have e9856 : I9849 (ad g 44) 4 = v9810 := by rw [eI9849, pp_ne _ _ (Or.inr (by decide))]; exact e9841
        have e9857 : I9849 (ad g 44) 5 = v9821 := by rw [eI9849, pp_ne _ _ (Or.inr (by decide))]; exact e9842
        have e9858 : I9849 (ad g 44) 6 = v9833 := by rw [eI9849, pp_ne _ _ (Or.inr (by decide))]; exact e9843
        have e9859 : I9849 (ad g 44) 7 = v9848 := by rw [eI9849, pp_self]
        have fr9860 : fz 74 g [44] I I9849 := by rw [eI9849]; exact fzx_pp hy fr9844 (by decide) (by decide)
        clear eI9849
        refine WP_aload_n dX6_load_197 rfl ?_
        refine WP_aload_n dX6_load_198 rfl ?_
        refine WP_getr dX6_load_199 fX6_64 rfl (lyx_is hy 5 0 rfl) (rfx hr 5 2 23 (by decide)) ?_
        refine WP_iload_n dX6_load_202 rfl ?_
        refine WQ_iald dX6_load_203 (lyx_is hy 23 13 rfl) (lyx_n hy 23 7 rfl) (by omega) (by omega) (fun q hq => BT_get hI9849.1 23 0 7 (0) (0) (900) (by decide) q (Nat.zero_le _) hq) (fun v9861 av9861 bv9861 ev9861 => ?_)
        clear ev9861
        refine WQ_if_le 211 dX6_load_204 rfl (fun c9861 => ?_) (fun c9861 => ?_)
        · refine WQ_iconst (0) (0) dX6_load_211 rfl rfl (fun v9863 hv9863 => ?_)
          refine WQ_putz dX6_load_212 fX6_67 rfl rfl (by omega) (lyx_is hy 44 6 rfl) (fun I9864 eI9864 => ?_)
          have hI9864 : XI g n L I9864 := by rw [eI9864]; exact (xi_f hy hI9849 (c := 44) (0) (0) (1) (by decide) (Or.inl (by decide)) (by decide) (by omega) (by omega))
          have e9865 : I9864 (ad g 1) 1 = L := by rw [eI9864, pp_ne _ _ (Or.inl (lyx_ne hy (by decide) (by decide) (by decide)))]; exact e9850
          have e9866 : I9864 (ad g 27) 4 = v9215 := by rw [eI9864, pp_ne _ _ (Or.inl (lyx_ne hy (by decide) (by decide) (by decide)))]; exact e9851
          have e9867 : I9864 (ad g 44) 0 = v9646 := by rw [eI9864, pp_ne _ _ (Or.inr (by decide))]; exact e9852
          have e9868 : I9864 (ad g 44) 1 = v9652 := by rw [eI9864, pp_ne _ _ (Or.inr (by decide))]; exact e9853
          have e9869 : I9864 (ad g 44) 2 = v9659 := by rw [eI9864, pp_ne _ _ (Or.inr (by decide))]; exact e9854
          have e9870 : I9864 (ad g 44) 3 = v9672 := by rw [eI9864, pp_ne _ _ (Or.inr (by decide))]; exact e9855
          have e9871 : I9864 (ad g 44) 4 = v9810 := by rw [eI9864, pp_ne _ _ (Or.inr (by decide))]; exact e9856
          have e9872 : I9864 (ad g 44) 5 = v9821 := by rw [eI9864, pp_ne _ _ (Or.inr (by decide))]; exact e9857
          have e9873 : I9864 (ad g 44) 6 = v9833 := by rw [eI9864, pp_ne _ _ (Or.inr (by decide))]; exact e9858
          have e9874 : I9864 (ad g 44) 7 = v9848 := by rw [eI9864, pp_ne _ _ (Or.inr (by decide))]; exact e9859
          have e9875 : I9864 (ad g 44) 8 = v9863 := by rw [eI9864, pp_self]
          have fr9876 : fz 74 g [44] I I9864 := by rw [eI9864]; exact fzx_pp hy fr9860 (by decide) (by decide)
          clear eI9864
          exact WP_vret dX6_load_215 rfl ⟨⟨hI9864, rfl, fr9876, rfl, (by
                have yill : I (ad g (27 + 5)) so.toInt.toNat >>> (nI da.toInt.toNat &&& 31) &&& 1 = v9219 := by rw [show I (ad g (27 + 5)) so.toInt.toNat = v9216 from yv9216, show nI da.toInt.toNat = da from (eq32 _ _).mpr (by rw [nI_toInt (by omega)]; omega), xv9219, xv9217, (eq32 v9218 1).mpr hv9218]
                have yst : I (ad g 27) 4 = v9215 := est
                unfold LD
                simp only [e9867, e9868, e9869, e9870, e9871, e9872, e9873, e9874, yill, yst, show I (ad g (27 + 7)) _ = _ from yv9646, show I (ad g (27 + 8)) _ = _ from yv9652, show I (ad g (27 + 9)) _ = _ from yv9659, yv9672, true_and, and_true]
                omega)⟩, rfl⟩
        · refine WQ_iconst (1) (1) dX6_load_207 rfl rfl (fun v9877 hv9877 => ?_)
          refine WP_goto 212 dX6_load_208 rfl ?_
          refine WQ_putz dX6_load_212 fX6_67 rfl rfl (by omega) (lyx_is hy 44 6 rfl) (fun I9878 eI9878 => ?_)
          have hI9878 : XI g n L I9878 := by rw [eI9878]; exact (xi_f hy hI9849 (c := 44) (0) (0) (1) (by decide) (Or.inl (by decide)) (by decide) (by omega) (by omega))
          have e9879 : I9878 (ad g 1) 1 = L := by rw [eI9878, pp_ne _ _ (Or.inl (lyx_ne hy (by decide) (by decide) (by decide)))]; exact e9850
          have e9880 : I9878 (ad g 27) 4 = v9215 := by rw [eI9878, pp_ne _ _ (Or.inl (lyx_ne hy (by decide) (by decide) (by decide)))]; exact e9851
          have e9881 : I9878 (ad g 44) 0 = v9646 := by rw [eI9878, pp_ne _ _ (Or.inr (by decide))]; exact e9852
          have e9882 : I9878 (ad g 44) 1 = v9652 := by rw [eI9878, pp_ne _ _ (Or.inr (by decide))]; exact e9853
          have e9883 : I9878 (ad g 44) 2 = v9659 := by rw [eI9878, pp_ne _ _ (Or.inr (by decide))]; exact e9854
          have e9884 : I9878 (ad g 44) 3 = v9672 := by rw [eI9878, pp_ne _ _ (Or.inr (by decide))]; exact e9855
          have e9885 : I9878 (ad g 44) 4 = v9810 := by rw [eI9878, pp_ne _ _ (Or.inr (by decide))]; exact e9856
          have e9886 : I9878 (ad g 44) 5 = v9821 := by rw [eI9878, pp_ne _ _ (Or.inr (by decide))]; exact e9857
          have e9887 : I9878 (ad g 44) 6 = v9833 := by rw [eI9878, pp_ne _ _ (Or.inr (by decide))]; exact e9858
          have e9888 : I9878 (ad g 44) 7 = v9848 := by rw [eI9878, pp_ne _ _ (Or.inr (by decide))]; exact e9859
          have e9889 : I9878 (ad g 44) 8 = v9877 := by rw [eI9878, pp_self]
          have fr9890 : fz 74 g [44] I I9878 := by rw [eI9878]; exact fzx_pp hy fr9860 (by decide) (by decide)
          clear eI9878
          exact WP_vret dX6_load_215 rfl ⟨⟨hI9878, rfl, fr9890, rfl, (by
                have yill : I (ad g (27 + 5)) so.toInt.toNat >>> (nI da.toInt.toNat &&& 31) &&& 1 = v9219 := by rw [show I (ad g (27 + 5)) so.toInt.toNat = v9216 from yv9216, show nI da.toInt.toNat = da from (eq32 _ _).mpr (by rw [nI_toInt (by omega)]; omega), xv9219, xv9217, (eq32 v9218 1).mpr hv9218]
                have yst : I (ad g 27) 4 = v9215 := est
                unfold LD
                simp only [e9881, e9882, e9883, e9884, e9885, e9886, e9887, e9888, yill, yst, show I (ad g (27 + 7)) _ = _ from yv9646, show I (ad g (27 + 8)) _ = _ from yv9652, show I (ad g (27 + 9)) _ = _ from yv9659, yv9672, true_and, and_true]
                omega)⟩, rfl⟩
    · refine WQ_iconst (0) (0) dX6_load_87 rfl rfl (fun v9891 hv9891 => ?_)
      refine WP_goto 105 dX6_load_88 rfl ?_
      refine WQ_puti dX6_load_105 fX6_48 rfl rfl (lyx_is hy 44 6 rfl) (fun I9892 eI9892 => ?_)
      have hI9892 : XI g n L I9892 := by rw [eI9892]; exact (xi_f hy hI9660 (c := 44) (0) (0) (20) (by decide) (Or.inl (by decide)) (by decide) (by omega) (by omega))
      have e9893 : I9892 (ad g 1) 1 = L := by rw [eI9892, pp_ne _ _ (Or.inl (lyx_ne hy (by decide) (by decide) (by decide)))]; exact e9661
      have e9894 : I9892 (ad g 27) 4 = v9215 := by rw [eI9892, pp_ne _ _ (Or.inl (lyx_ne hy (by decide) (by decide) (by decide)))]; exact e9662
      have e9895 : I9892 (ad g 44) 0 = v9646 := by rw [eI9892, pp_ne _ _ (Or.inr (by decide))]; exact e9663
      have e9896 : I9892 (ad g 44) 1 = v9652 := by rw [eI9892, pp_ne _ _ (Or.inr (by decide))]; exact e9664
      have e9897 : I9892 (ad g 44) 2 = v9659 := by rw [eI9892, pp_ne _ _ (Or.inr (by decide))]; exact e9665
      have e9898 : I9892 (ad g 44) 3 = v9891 := by rw [eI9892, pp_self]
      have fr9899 : fz 74 g [44] I I9892 := by rw [eI9892]; exact fzx_pp hy fr9666 (by decide) (by decide)
      clear eI9892
      refine WP_aload_n dX6_load_108 rfl ?_
      refine WP_iload dX6_load_109 rfl ?_
      refine WQ_iconst (-1) (-1) dX6_load_111 rfl rfl (fun v9900 hv9900 => ?_)
      refine WQ_icmp_ne 119 dX6_load_112 rfl (fun c9900 => ?_) (fun c9900 => ?_)
      · refine WP_aload_n dX6_load_119 rfl ?_
        refine WP_getr dX6_load_120 fX6_45 rfl (lyx_is hy 5 0 rfl) (rfx hr 5 1 22 (by decide)) ?_
        refine WP_iload dX6_load_123 rfl ?_
        refine WQ_bipush (7) (7) dX6_load_125 rfl rfl (fun v9902 hv9902 => ?_)
        refine WQ_imulk (7) dX6_load_127 hv9902 (by omega) (by omega) (fun v9903 hv9903 => ?_)
        refine WP_iload_n dX6_load_128 rfl ?_
        refine WQ_iadd dX6_load_129 (by omega) (by omega) (fun v9904 hv9904 => ?_)
        refine WQ_ialdb dX6_load_130 (lyx_is hy 22 13 rfl) (lyx_n hy 22 21 rfl) (by omega) (by omega) (fun q hq => BT_get hI9892.1 22 0 21 (0) (0) (20) (by decide) q (Nat.zero_le _) hq) (fun v9905 av9905 bv9905 zv9905 => ?_)
        have yv9905 : I (ad g 22) (7 * v9215.toInt + da.toInt).toNat = v9905 := by rw [← fz_at fr9899 22 (by decide) (by decide), show (7 * v9215.toInt + da.toInt).toNat = v9904.toInt.toNat by omega]; exact zv9905
        refine WQ_puti dX6_load_131 fX6_51 rfl rfl (lyx_is hy 44 6 rfl) (fun I9906 eI9906 => ?_)
        have hI9906 : XI g n L I9906 := by rw [eI9906]; exact (xi_f hy hI9892 (c := 44) (0) (0) (20) (by decide) (Or.inl (by decide)) (by decide) (by omega) (by omega))
        have e9907 : I9906 (ad g 1) 1 = L := by rw [eI9906, pp_ne _ _ (Or.inl (lyx_ne hy (by decide) (by decide) (by decide)))]; exact e9893
        have e9908 : I9906 (ad g 27) 4 = v9215 := by rw [eI9906, pp_ne _ _ (Or.inl (lyx_ne hy (by decide) (by decide) (by decide)))]; exact e9894
        have e9909 : I9906 (ad g 44) 0 = v9646 := by rw [eI9906, pp_ne _ _ (Or.inr (by decide))]; exact e9895
        have e9910 : I9906 (ad g 44) 1 = v9652 := by rw [eI9906, pp_ne _ _ (Or.inr (by decide))]; exact e9896
        have e9911 : I9906 (ad g 44) 2 = v9659 := by rw [eI9906, pp_ne _ _ (Or.inr (by decide))]; exact e9897
        have e9912 : I9906 (ad g 44) 3 = v9891 := by rw [eI9906, pp_ne _ _ (Or.inr (by decide))]; exact e9898
        have e9913 : I9906 (ad g 44) 4 = v9905 := by rw [eI9906, pp_self]
        have fr9914 : fz 74 g [44] I I9906 := by rw [eI9906]; exact fzx_pp hy fr9899 (by decide) (by decide)
        clear eI9906
        refine WP_aload_n dX6_load_134 rfl ?_
        refine WP_iload dX6_load_135 rfl ?_
        refine WQ_if_eq 144 dX6_load_137 rfl (fun c9914 => False.elim (by omega)) (fun c9914 => ?_)
        refine WQ_iconst (0) (0) dX6_load_140 rfl rfl (fun v9916 hv9916 => ?_)
        refine WP_goto 148 dX6_load_141 rfl ?_
        refine WQ_puti dX6_load_148 fX6_54 rfl rfl (lyx_is hy 44 6 rfl) (fun I9917 eI9917 => ?_)
        have hI9917 : XI g n L I9917 := by rw [eI9917]; exact (xi_f hy hI9906 (c := 44) (0) (0) (3) (by decide) (Or.inl (by decide)) (by decide) (by omega) (by omega))
        have e9918 : I9917 (ad g 1) 1 = L := by rw [eI9917, pp_ne _ _ (Or.inl (lyx_ne hy (by decide) (by decide) (by decide)))]; exact e9907
        have e9919 : I9917 (ad g 27) 4 = v9215 := by rw [eI9917, pp_ne _ _ (Or.inl (lyx_ne hy (by decide) (by decide) (by decide)))]; exact e9908
        have e9920 : I9917 (ad g 44) 0 = v9646 := by rw [eI9917, pp_ne _ _ (Or.inr (by decide))]; exact e9909
        have e9921 : I9917 (ad g 44) 1 = v9652 := by rw [eI9917, pp_ne _ _ (Or.inr (by decide))]; exact e9910
        have e9922 : I9917 (ad g 44) 2 = v9659 := by rw [eI9917, pp_ne _ _ (Or.inr (by decide))]; exact e9911
        have e9923 : I9917 (ad g 44) 3 = v9891 := by rw [eI9917, pp_ne _ _ (Or.inr (by decide))]; exact e9912
        have e9924 : I9917 (ad g 44) 4 = v9905 := by rw [eI9917, pp_ne _ _ (Or.inr (by decide))]; exact e9913
        have e9925 : I9917 (ad g 44) 5 = v9916 := by rw [eI9917, pp_self]
        have fr9926 : fz 74 g [44] I I9917 := by rw [eI9917]; exact fzx_pp hy fr9914 (by decide) (by decide)
        clear eI9917
        refine WP_aload_n dX6_load_151 rfl ?_
        refine WP_iload dX6_load_152 rfl ?_
        refine WQ_if_ne 163 dX6_load_154 rfl (fun c9926 => ?_) (fun c9926 => False.elim (by omega))
        refine WQ_iconst (0) (0) dX6_load_163 rfl rfl (fun v9928 hv9928 => ?_)
        refine WP_goto 168 dX6_load_164 rfl ?_
        refine WQ_puti dX6_load_168 fX6_57 rfl rfl (lyx_is hy 44 6 rfl) (fun I9929 eI9929 => ?_)
        have hI9929 : XI g n L I9929 := by rw [eI9929]; exact (xi_f hy hI9917 (c := 44) (0) (0) (2) (by decide) (Or.inl (by decide)) (by decide) (by omega) (by omega))
        have e9930 : I9929 (ad g 1) 1 = L := by rw [eI9929, pp_ne _ _ (Or.inl (lyx_ne hy (by decide) (by decide) (by decide)))]; exact e9918
        have e9931 : I9929 (ad g 27) 4 = v9215 := by rw [eI9929, pp_ne _ _ (Or.inl (lyx_ne hy (by decide) (by decide) (by decide)))]; exact e9919
        have e9932 : I9929 (ad g 44) 0 = v9646 := by rw [eI9929, pp_ne _ _ (Or.inr (by decide))]; exact e9920
        have e9933 : I9929 (ad g 44) 1 = v9652 := by rw [eI9929, pp_ne _ _ (Or.inr (by decide))]; exact e9921
        have e9934 : I9929 (ad g 44) 2 = v9659 := by rw [eI9929, pp_ne _ _ (Or.inr (by decide))]; exact e9922
        have e9935 : I9929 (ad g 44) 3 = v9891 := by rw [eI9929, pp_ne _ _ (Or.inr (by decide))]; exact e9923
        have e9936 : I9929 (ad g 44) 4 = v9905 := by rw [eI9929, pp_ne _ _ (Or.inr (by decide))]; exact e9924
        have e9937 : I9929 (ad g 44) 5 = v9916 := by rw [eI9929, pp_ne _ _ (Or.inr (by decide))]; exact e9925
        have e9938 : I9929 (ad g 44) 6 = v9928 := by rw [eI9929, pp_self]
        have fr9939 : fz 74 g [44] I I9929 := by rw [eI9929]; exact fzx_pp hy fr9926 (by decide) (by decide)
        clear eI9929
        refine WP_aload_n dX6_load_171 rfl ?_
        refine WP_aload_n dX6_load_172 rfl ?_
        refine WQ_getim dX6_load_173 fX6_9 rfl (lyx_is hy 44 6 rfl) e9932 ?_
        refine WQ_iconst (-1) (-1) dX6_load_176 rfl rfl (fun v9940 hv9940 => ?_)
        refine WQ_icmp_eq 193 dX6_load_177 rfl (fun c9940 => ?_) (fun c9940 => False.elim (by omega))
        refine WQ_iconst (0) (0) dX6_load_193 rfl rfl (fun v9942 hv9942 => ?_)
        refine WQ_putz dX6_load_194 fX6_60 rfl rfl (by omega) (lyx_is hy 44 6 rfl) (fun I9943 eI9943 => ?_)
        have hI9943 : XI g n L I9943 := by rw [eI9943]; exact (xi_f hy hI9929 (c := 44) (0) (0) (1) (by decide) (Or.inl (by decide)) (by decide) (by omega) (by omega))
        have e9944 : I9943 (ad g 1) 1 = L := by rw [eI9943, pp_ne _ _ (Or.inl (lyx_ne hy (by decide) (by decide) (by decide)))]; exact e9930
        have e9945 : I9943 (ad g 27) 4 = v9215 := by rw [eI9943, pp_ne _ _ (Or.inl (lyx_ne hy (by decide) (by decide) (by decide)))]; exact e9931
        have e9946 : I9943 (ad g 44) 0 = v9646 := by rw [eI9943, pp_ne _ _ (Or.inr (by decide))]; exact e9932
        have e9947 : I9943 (ad g 44) 1 = v9652 := by rw [eI9943, pp_ne _ _ (Or.inr (by decide))]; exact e9933
        have e9948 : I9943 (ad g 44) 2 = v9659 := by rw [eI9943, pp_ne _ _ (Or.inr (by decide))]; exact e9934
        have e9949 : I9943 (ad g 44) 3 = v9891 := by rw [eI9943, pp_ne _ _ (Or.inr (by decide))]; exact e9935
        have e9950 : I9943 (ad g 44) 4 = v9905 := by rw [eI9943, pp_ne _ _ (Or.inr (by decide))]; exact e9936
        have e9951 : I9943 (ad g 44) 5 = v9916 := by rw [eI9943, pp_ne _ _ (Or.inr (by decide))]; exact e9937
        have e9952 : I9943 (ad g 44) 6 = v9928 := by rw [eI9943, pp_ne _ _ (Or.inr (by decide))]; exact e9938
        have e9953 : I9943 (ad g 44) 7 = v9942 := by rw [eI9943, pp_self]
        have fr9954 : fz 74 g [44] I I9943 := by rw [eI9943]; exact fzx_pp hy fr9939 (by decide) (by decide)
        clear eI9943
        refine WP_aload_n dX6_load_197 rfl ?_
        refine WP_aload_n dX6_load_198 rfl ?_
        refine WP_getr dX6_load_199 fX6_64 rfl (lyx_is hy 5 0 rfl) (rfx hr 5 2 23 (by decide)) ?_
        refine WP_iload_n dX6_load_202 rfl ?_
        refine WQ_iald dX6_load_203 (lyx_is hy 23 13 rfl) (lyx_n hy 23 7 rfl) (by omega) (by omega) (fun q hq => BT_get hI9943.1 23 0 7 (0) (0) (900) (by decide) q (Nat.zero_le _) hq) (fun v9955 av9955 bv9955 ev9955 => ?_)
        clear ev9955
        refine WQ_if_le 211 dX6_load_204 rfl (fun c9955 => ?_) (fun c9955 => ?_)
        · refine WQ_iconst (0) (0) dX6_load_211 rfl rfl (fun v9957 hv9957 => ?_)
          refine WQ_putz dX6_load_212 fX6_67 rfl rfl (by omega) (lyx_is hy 44 6 rfl) (fun I9958 eI9958 => ?_)
          have hI9958 : XI g n L I9958 := by rw [eI9958]; exact (xi_f hy hI9943 (c := 44) (0) (0) (1) (by decide) (Or.inl (by decide)) (by decide) (by omega) (by omega))
          have e9959 : I9958 (ad g 1) 1 = L := by rw [eI9958, pp_ne _ _ (Or.inl (lyx_ne hy (by decide) (by decide) (by decide)))]; exact e9944
          have e9960 : I9958 (ad g 27) 4 = v9215 := by rw [eI9958, pp_ne _ _ (Or.inl (lyx_ne hy (by decide) (by decide) (by decide)))]; exact e9945
          have e9961 : I9958 (ad g 44) 0 = v9646 := by rw [eI9958, pp_ne _ _ (Or.inr (by decide))]; exact e9946
          have e9962 : I9958 (ad g 44) 1 = v9652 := by rw [eI9958, pp_ne _ _ (Or.inr (by decide))]; exact e9947
          have e9963 : I9958 (ad g 44) 2 = v9659 := by rw [eI9958, pp_ne _ _ (Or.inr (by decide))]; exact e9948
          have e9964 : I9958 (ad g 44) 3 = v9891 := by rw [eI9958, pp_ne _ _ (Or.inr (by decide))]; exact e9949
          have e9965 : I9958 (ad g 44) 4 = v9905 := by rw [eI9958, pp_ne _ _ (Or.inr (by decide))]; exact e9950
          have e9966 : I9958 (ad g 44) 5 = v9916 := by rw [eI9958, pp_ne _ _ (Or.inr (by decide))]; exact e9951
          have e9967 : I9958 (ad g 44) 6 = v9928 := by rw [eI9958, pp_ne _ _ (Or.inr (by decide))]; exact e9952
          have e9968 : I9958 (ad g 44) 7 = v9942 := by rw [eI9958, pp_ne _ _ (Or.inr (by decide))]; exact e9953
          have e9969 : I9958 (ad g 44) 8 = v9957 := by rw [eI9958, pp_self]
          have fr9970 : fz 74 g [44] I I9958 := by rw [eI9958]; exact fzx_pp hy fr9954 (by decide) (by decide)
          clear eI9958
          exact WP_vret dX6_load_215 rfl ⟨⟨hI9958, rfl, fr9970, rfl, (by
                have yill : I (ad g (27 + 5)) so.toInt.toNat >>> (nI da.toInt.toNat &&& 31) &&& 1 = v9219 := by rw [show I (ad g (27 + 5)) so.toInt.toNat = v9216 from yv9216, show nI da.toInt.toNat = da from (eq32 _ _).mpr (by rw [nI_toInt (by omega)]; omega), xv9219, xv9217, (eq32 v9218 1).mpr hv9218]
                have yst : I (ad g 27) 4 = v9215 := est
                unfold LD
                simp only [e9961, e9962, e9963, e9964, e9965, e9966, e9967, e9968, yill, yst, show I (ad g (27 + 7)) _ = _ from yv9646, show I (ad g (27 + 8)) _ = _ from yv9652, show I (ad g (27 + 9)) _ = _ from yv9659, yv9905, true_and, and_true]
                omega)⟩, rfl⟩
        · refine WQ_iconst (1) (1) dX6_load_207 rfl rfl (fun v9971 hv9971 => ?_)
          refine WP_goto 212 dX6_load_208 rfl ?_
          refine WQ_putz dX6_load_212 fX6_67 rfl rfl (by omega) (lyx_is hy 44 6 rfl) (fun I9972 eI9972 => ?_)
          have hI9972 : XI g n L I9972 := by rw [eI9972]; exact (xi_f hy hI9943 (c := 44) (0) (0) (1) (by decide) (Or.inl (by decide)) (by decide) (by omega) (by omega))
          have e9973 : I9972 (ad g 1) 1 = L := by rw [eI9972, pp_ne _ _ (Or.inl (lyx_ne hy (by decide) (by decide) (by decide)))]; exact e9944
          have e9974 : I9972 (ad g 27) 4 = v9215 := by rw [eI9972, pp_ne _ _ (Or.inl (lyx_ne hy (by decide) (by decide) (by decide)))]; exact e9945
          have e9975 : I9972 (ad g 44) 0 = v9646 := by rw [eI9972, pp_ne _ _ (Or.inr (by decide))]; exact e9946
          have e9976 : I9972 (ad g 44) 1 = v9652 := by rw [eI9972, pp_ne _ _ (Or.inr (by decide))]; exact e9947
          have e9977 : I9972 (ad g 44) 2 = v9659 := by rw [eI9972, pp_ne _ _ (Or.inr (by decide))]; exact e9948
          have e9978 : I9972 (ad g 44) 3 = v9891 := by rw [eI9972, pp_ne _ _ (Or.inr (by decide))]; exact e9949
          have e9979 : I9972 (ad g 44) 4 = v9905 := by rw [eI9972, pp_ne _ _ (Or.inr (by decide))]; exact e9950
          have e9980 : I9972 (ad g 44) 5 = v9916 := by rw [eI9972, pp_ne _ _ (Or.inr (by decide))]; exact e9951
          have e9981 : I9972 (ad g 44) 6 = v9928 := by rw [eI9972, pp_ne _ _ (Or.inr (by decide))]; exact e9952
          have e9982 : I9972 (ad g 44) 7 = v9942 := by rw [eI9972, pp_ne _ _ (Or.inr (by decide))]; exact e9953
          have e9983 : I9972 (ad g 44) 8 = v9971 := by rw [eI9972, pp_self]
          have fr9984 : fz 74 g [44] I I9972 := by rw [eI9972]; exact fzx_pp hy fr9954 (by decide) (by decide)
          clear eI9972
          exact WP_vret dX6_load_215 rfl ⟨⟨hI9972, rfl, fr9984, rfl, (by
                have yill : I (ad g (27 + 5)) so.toInt.toNat >>> (nI da.toInt.toNat &&& 31) &&& 1 = v9219 := by rw [show I (ad g (27 + 5)) so.toInt.toNat = v9216 from yv9216, show nI da.toInt.toNat = da from (eq32 _ _).mpr (by rw [nI_toInt (by omega)]; omega), xv9219, xv9217, (eq32 v9218 1).mpr hv9218]
                have yst : I (ad g 27) 4 = v9215 := est
                unfold LD
                simp only [e9975, e9976, e9977, e9978, e9979, e9980, e9981, e9982, yill, yst, show I (ad g (27 + 7)) _ = _ from yv9646, show I (ad g (27 + 8)) _ = _ from yv9652, show I (ad g (27 + 9)) _ = _ from yv9659, yv9905, true_and, and_true]
                omega)⟩, rfl⟩
      · refine WQ_iconst (0) (0) dX6_load_115 rfl rfl (fun v9985 hv9985 => ?_)
        refine WP_goto 131 dX6_load_116 rfl ?_
        refine WQ_puti dX6_load_131 fX6_51 rfl rfl (lyx_is hy 44 6 rfl) (fun I9986 eI9986 => ?_)
        have hI9986 : XI g n L I9986 := by rw [eI9986]; exact (xi_f hy hI9892 (c := 44) (0) (0) (20) (by decide) (Or.inl (by decide)) (by decide) (by omega) (by omega))
        have e9987 : I9986 (ad g 1) 1 = L := by rw [eI9986, pp_ne _ _ (Or.inl (lyx_ne hy (by decide) (by decide) (by decide)))]; exact e9893
        have e9988 : I9986 (ad g 27) 4 = v9215 := by rw [eI9986, pp_ne _ _ (Or.inl (lyx_ne hy (by decide) (by decide) (by decide)))]; exact e9894
        have e9989 : I9986 (ad g 44) 0 = v9646 := by rw [eI9986, pp_ne _ _ (Or.inr (by decide))]; exact e9895
        have e9990 : I9986 (ad g 44) 1 = v9652 := by rw [eI9986, pp_ne _ _ (Or.inr (by decide))]; exact e9896
        have e9991 : I9986 (ad g 44) 2 = v9659 := by rw [eI9986, pp_ne _ _ (Or.inr (by decide))]; exact e9897
        have e9992 : I9986 (ad g 44) 3 = v9891 := by rw [eI9986, pp_ne _ _ (Or.inr (by decide))]; exact e9898
        have e9993 : I9986 (ad g 44) 4 = v9985 := by rw [eI9986, pp_self]
        have fr9994 : fz 74 g [44] I I9986 := by rw [eI9986]; exact fzx_pp hy fr9899 (by decide) (by decide)
        clear eI9986
        refine WP_aload_n dX6_load_134 rfl ?_
        refine WP_iload dX6_load_135 rfl ?_
        refine WQ_if_eq 144 dX6_load_137 rfl (fun c9994 => False.elim (by omega)) (fun c9994 => ?_)
        refine WQ_iconst (0) (0) dX6_load_140 rfl rfl (fun v9996 hv9996 => ?_)
        refine WP_goto 148 dX6_load_141 rfl ?_
        refine WQ_puti dX6_load_148 fX6_54 rfl rfl (lyx_is hy 44 6 rfl) (fun I9997 eI9997 => ?_)
        have hI9997 : XI g n L I9997 := by rw [eI9997]; exact (xi_f hy hI9986 (c := 44) (0) (0) (3) (by decide) (Or.inl (by decide)) (by decide) (by omega) (by omega))
        have e9998 : I9997 (ad g 1) 1 = L := by rw [eI9997, pp_ne _ _ (Or.inl (lyx_ne hy (by decide) (by decide) (by decide)))]; exact e9987
        have e9999 : I9997 (ad g 27) 4 = v9215 := by rw [eI9997, pp_ne _ _ (Or.inl (lyx_ne hy (by decide) (by decide) (by decide)))]; exact e9988
        have e10000 : I9997 (ad g 44) 0 = v9646 := by rw [eI9997, pp_ne _ _ (Or.inr (by decide))]; exact e9989
        have e10001 : I9997 (ad g 44) 1 = v9652 := by rw [eI9997, pp_ne _ _ (Or.inr (by decide))]; exact e9990
        have e10002 : I9997 (ad g 44) 2 = v9659 := by rw [eI9997, pp_ne _ _ (Or.inr (by decide))]; exact e9991
        have e10003 : I9997 (ad g 44) 3 = v9891 := by rw [eI9997, pp_ne _ _ (Or.inr (by decide))]; exact e9992
        have e10004 : I9997 (ad g 44) 4 = v9985 := by rw [eI9997, pp_ne _ _ (Or.inr (by decide))]; exact e9993
        have e10005 : I9997 (ad g 44) 5 = v9996 := by rw [eI9997, pp_self]
        have fr10006 : fz 74 g [44] I I9997 := by rw [eI9997]; exact fzx_pp hy fr9994 (by decide) (by decide)
        clear eI9997
        refine WP_aload_n dX6_load_151 rfl ?_
        refine WP_iload dX6_load_152 rfl ?_
        refine WQ_if_ne 163 dX6_load_154 rfl (fun c10006 => ?_) (fun c10006 => False.elim (by omega))
        refine WQ_iconst (0) (0) dX6_load_163 rfl rfl (fun v10008 hv10008 => ?_)
        refine WP_goto 168 dX6_load_164 rfl ?_
        refine WQ_puti dX6_load_168 fX6_57 rfl rfl (lyx_is hy 44 6 rfl) (fun I10009 eI10009 => ?_)
        have hI10009 : XI g n L I10009 := by rw [eI10009]; exact (xi_f hy hI9997 (c := 44) (0) (0) (2) (by decide) (Or.inl (by decide)) (by decide) (by omega) (by omega))
        have e10010 : I10009 (ad g 1) 1 = L := by rw [eI10009, pp_ne _ _ (Or.inl (lyx_ne hy (by decide) (by decide) (by decide)))]; exact e9998
        have e10011 : I10009 (ad g 27) 4 = v9215 := by rw [eI10009, pp_ne _ _ (Or.inl (lyx_ne hy (by decide) (by decide) (by decide)))]; exact e9999
        have e10012 : I10009 (ad g 44) 0 = v9646 := by rw [eI10009, pp_ne _ _ (Or.inr (by decide))]; exact e10000
        have e10013 : I10009 (ad g 44) 1 = v9652 := by rw [eI10009, pp_ne _ _ (Or.inr (by decide))]; exact e10001
        have e10014 : I10009 (ad g 44) 2 = v9659 := by rw [eI10009, pp_ne _ _ (Or.inr (by decide))]; exact e10002
        have e10015 : I10009 (ad g 44) 3 = v9891 := by rw [eI10009, pp_ne _ _ (Or.inr (by decide))]; exact e10003
        have e10016 : I10009 (ad g 44) 4 = v9985 := by rw [eI10009, pp_ne _ _ (Or.inr (by decide))]; exact e10004
        have e10017 : I10009 (ad g 44) 5 = v9996 := by rw [eI10009, pp_ne _ _ (Or.inr (by decide))]; exact e10005
        have e10018 : I10009 (ad g 44) 6 = v10008 := by rw [eI10009, pp_self]
        have fr10019 : fz 74 g [44] I I10009 := by rw [eI10009]; exact fzx_pp hy fr10006 (by decide) (by decide)
        clear eI10009
        refine WP_aload_n dX6_load_171 rfl ?_
        refine WP_aload_n dX6_load_172 rfl ?_
        refine WQ_getim dX6_load_173 fX6_9 rfl (lyx_is hy 44 6 rfl) e10012 ?_
        refine WQ_iconst (-1) (-1) dX6_load_176 rfl rfl (fun v10020 hv10020 => ?_)
        refine WQ_icmp_eq 193 dX6_load_177 rfl (fun c10020 => ?_) (fun c10020 => False.elim (by omega))
        refine WQ_iconst (0) (0) dX6_load_193 rfl rfl (fun v10022 hv10022 => ?_)
        refine WQ_putz dX6_load_194 fX6_60 rfl rfl (by omega) (lyx_is hy 44 6 rfl) (fun I10023 eI10023 => ?_)
        have hI10023 : XI g n L I10023 := by rw [eI10023]; exact (xi_f hy hI10009 (c := 44) (0) (0) (1) (by decide) (Or.inl (by decide)) (by decide) (by omega) (by omega))
        have e10024 : I10023 (ad g 1) 1 = L := by rw [eI10023, pp_ne _ _ (Or.inl (lyx_ne hy (by decide) (by decide) (by decide)))]; exact e10010
        have e10025 : I10023 (ad g 27) 4 = v9215 := by rw [eI10023, pp_ne _ _ (Or.inl (lyx_ne hy (by decide) (by decide) (by decide)))]; exact e10011
        have e10026 : I10023 (ad g 44) 0 = v9646 := by rw [eI10023, pp_ne _ _ (Or.inr (by decide))]; exact e10012
        have e10027 : I10023 (ad g 44) 1 = v9652 := by rw [eI10023, pp_ne _ _ (Or.inr (by decide))]; exact e10013
        have e10028 : I10023 (ad g 44) 2 = v9659 := by rw [eI10023, pp_ne _ _ (Or.inr (by decide))]; exact e10014
        have e10029 : I10023 (ad g 44) 3 = v9891 := by rw [eI10023, pp_ne _ _ (Or.inr (by decide))]; exact e10015
        have e10030 : I10023 (ad g 44) 4 = v9985 := by rw [eI10023, pp_ne _ _ (Or.inr (by decide))]; exact e10016
        have e10031 : I10023 (ad g 44) 5 = v9996 := by rw [eI10023, pp_ne _ _ (Or.inr (by decide))]; exact e10017
        have e10032 : I10023 (ad g 44) 6 = v10008 := by rw [eI10023, pp_ne _ _ (Or.inr (by decide))]; exact e10018
        have e10033 : I10023 (ad g 44) 7 = v10022 := by rw [eI10023, pp_self]
        have fr10034 : fz 74 g [44] I I10023 := by rw [eI10023]; exact fzx_pp hy fr10019 (by decide) (by decide)
        clear eI10023
        refine WP_aload_n dX6_load_197 rfl ?_
        refine WP_aload_n dX6_load_198 rfl ?_
        refine WP_getr dX6_load_199 fX6_64 rfl (lyx_is hy 5 0 rfl) (rfx hr 5 2 23 (by decide)) ?_
        refine WP_iload_n dX6_load_202 rfl ?_
        refine WQ_iald dX6_load_203 (lyx_is hy 23 13 rfl) (lyx_n hy 23 7 rfl) (by omega) (by omega) (fun q hq => BT_get hI10023.1 23 0 7 (0) (0) (900) (by decide) q (Nat.zero_le _) hq) (fun v10035 av10035 bv10035 ev10035 => ?_)
        clear ev10035
        refine WQ_if_le 211 dX6_load_204 rfl (fun c10035 => ?_) (fun c10035 => ?_)
        · refine WQ_iconst (0) (0) dX6_load_211 rfl rfl (fun v10037 hv10037 => ?_)
          refine WQ_putz dX6_load_212 fX6_67 rfl rfl (by omega) (lyx_is hy 44 6 rfl) (fun I10038 eI10038 => ?_)
          have hI10038 : XI g n L I10038 := by rw [eI10038]; exact (xi_f hy hI10023 (c := 44) (0) (0) (1) (by decide) (Or.inl (by decide)) (by decide) (by omega) (by omega))
          have e10039 : I10038 (ad g 1) 1 = L := by rw [eI10038, pp_ne _ _ (Or.inl (lyx_ne hy (by decide) (by decide) (by decide)))]; exact e10024
          have e10040 : I10038 (ad g 27) 4 = v9215 := by rw [eI10038, pp_ne _ _ (Or.inl (lyx_ne hy (by decide) (by decide) (by decide)))]; exact e10025
          have e10041 : I10038 (ad g 44) 0 = v9646 := by rw [eI10038, pp_ne _ _ (Or.inr (by decide))]; exact e10026
          have e10042 : I10038 (ad g 44) 1 = v9652 := by rw [eI10038, pp_ne _ _ (Or.inr (by decide))]; exact e10027
          have e10043 : I10038 (ad g 44) 2 = v9659 := by rw [eI10038, pp_ne _ _ (Or.inr (by decide))]; exact e10028
          have e10044 : I10038 (ad g 44) 3 = v9891 := by rw [eI10038, pp_ne _ _ (Or.inr (by decide))]; exact e10029
          have e10045 : I10038 (ad g 44) 4 = v9985 := by rw [eI10038, pp_ne _ _ (Or.inr (by decide))]; exact e10030
          have e10046 : I10038 (ad g 44) 5 = v9996 := by rw [eI10038, pp_ne _ _ (Or.inr (by decide))]; exact e10031
          have e10047 : I10038 (ad g 44) 6 = v10008 := by rw [eI10038, pp_ne _ _ (Or.inr (by decide))]; exact e10032
          have e10048 : I10038 (ad g 44) 7 = v10022 := by rw [eI10038, pp_ne _ _ (Or.inr (by decide))]; exact e10033
          have e10049 : I10038 (ad g 44) 8 = v10037 := by rw [eI10038, pp_self]
          have fr10050 : fz 74 g [44] I I10038 := by rw [eI10038]; exact fzx_pp hy fr10034 (by decide) (by decide)
          clear eI10038
          exact WP_vret dX6_load_215 rfl ⟨⟨hI10038, rfl, fr10050, rfl, (by
                have yill : I (ad g (27 + 5)) so.toInt.toNat >>> (nI da.toInt.toNat &&& 31) &&& 1 = v9219 := by rw [show I (ad g (27 + 5)) so.toInt.toNat = v9216 from yv9216, show nI da.toInt.toNat = da from (eq32 _ _).mpr (by rw [nI_toInt (by omega)]; omega), xv9219, xv9217, (eq32 v9218 1).mpr hv9218]
                have yst : I (ad g 27) 4 = v9215 := est
                unfold LD
                simp only [e10041, e10042, e10043, e10044, e10045, e10046, e10047, e10048, yill, yst, show I (ad g (27 + 7)) _ = _ from yv9646, show I (ad g (27 + 8)) _ = _ from yv9652, show I (ad g (27 + 9)) _ = _ from yv9659, true_and, and_true]
                omega)⟩, rfl⟩
        · refine WQ_iconst (1) (1) dX6_load_207 rfl rfl (fun v10051 hv10051 => ?_)
          refine WP_goto 212 dX6_load_208 rfl ?_
          refine WQ_putz dX6_load_212 fX6_67 rfl rfl (by omega) (lyx_is hy 44 6 rfl) (fun I10052 eI10052 => ?_)
          have hI10052 : XI g n L I10052 := by rw [eI10052]; exact (xi_f hy hI10023 (c := 44) (0) (0) (1) (by decide) (Or.inl (by decide)) (by decide) (by omega) (by omega))
          have e10053 : I10052 (ad g 1) 1 = L := by rw [eI10052, pp_ne _ _ (Or.inl (lyx_ne hy (by decide) (by decide) (by decide)))]; exact e10024
          have e10054 : I10052 (ad g 27) 4 = v9215 := by rw [eI10052, pp_ne _ _ (Or.inl (lyx_ne hy (by decide) (by decide) (by decide)))]; exact e10025
          have e10055 : I10052 (ad g 44) 0 = v9646 := by rw [eI10052, pp_ne _ _ (Or.inr (by decide))]; exact e10026
          have e10056 : I10052 (ad g 44) 1 = v9652 := by rw [eI10052, pp_ne _ _ (Or.inr (by decide))]; exact e10027
          have e10057 : I10052 (ad g 44) 2 = v9659 := by rw [eI10052, pp_ne _ _ (Or.inr (by decide))]; exact e10028
          have e10058 : I10052 (ad g 44) 3 = v9891 := by rw [eI10052, pp_ne _ _ (Or.inr (by decide))]; exact e10029
          have e10059 : I10052 (ad g 44) 4 = v9985 := by rw [eI10052, pp_ne _ _ (Or.inr (by decide))]; exact e10030
          have e10060 : I10052 (ad g 44) 5 = v9996 := by rw [eI10052, pp_ne _ _ (Or.inr (by decide))]; exact e10031
          have e10061 : I10052 (ad g 44) 6 = v10008 := by rw [eI10052, pp_ne _ _ (Or.inr (by decide))]; exact e10032
          have e10062 : I10052 (ad g 44) 7 = v10022 := by rw [eI10052, pp_ne _ _ (Or.inr (by decide))]; exact e10033
          have e10063 : I10052 (ad g 44) 8 = v10051 := by rw [eI10052, pp_self]
          have fr10064 : fz 74 g [44] I I10052 := by rw [eI10052]; exact fzx_pp hy fr10034 (by decide) (by decide)
          clear eI10052
          exact WP_vret dX6_load_215 rfl ⟨⟨hI10052, rfl, fr10064, rfl, (by
                have yill : I (ad g (27 + 5)) so.toInt.toNat >>> (nI da.toInt.toNat &&& 31) &&& 1 = v9219 := by rw [show I (ad g (27 + 5)) so.toInt.toNat = v9216 from yv9216, show nI da.toInt.toNat = da from (eq32 _ _).mpr (by rw [nI_toInt (by omega)]; omega), xv9219, xv9217, (eq32 v9218 1).mpr hv9218]
                have yst : I (ad g 27) 4 = v9215 := est
                unfold LD
                simp only [e10055, e10056, e10057, e10058, e10059, e10060, e10061, e10062, yill, yst, show I (ad g (27 + 7)) _ = _ from yv9646, show I (ad g (27 + 8)) _ = _ from yv9652, show I (ad g (27 + 9)) _ = _ from yv9659, true_and, and_true]
                omega)⟩, rfl⟩
set_option maxHeartbeats 4000000 in
set_option maxRecDepth 100000 in
theorem sx_loadx_50_6 {g : GG} {n : Int} {L : Int32} (hy : LyX g)  {I : pI} {J : pJ} {R : pR} (hr : RfX g R) (hT : R (ad g 5) 0 = some (ad g 6)) (hI : XI g n L I) (so : Int32) (da : Int32) (so_lo : 0 ≤ so.toInt) (so_hi : so.toInt ≤ 3) (da_lo : 0 ≤ da.toInt) (da_hi : da.toInt ≤ 6) : SP g mX6_load [.ref (ad g 50), .ref (ad g 5), .int so, .int da] I J R (fun r I' J' R' => (XI g n L I' ∧ R' = R ∧ fz 74 g [50] I I' ∧ J' = J ∧ LD g 6 I so.toInt da.toInt (I' (ad g 50))) ∧ r = none) := by
  refine SP_of ⟨by decide, rfl⟩ (Nat.le_of_ble_eq_true rfl) ?_
  have e10065 : I (ad g 1) 1 = L := hI.2
  have b10066 := BT_get hI.1 1 1 2 (0) (0) (900) (by decide) 1 (by decide) (by decide)
  rw [e10065] at b10066
  have fr0 : fz 74 g [50] I I := fz_rf
  refine WP_aload_n dX6_load_0 rfl ?_
  refine WP_getr dX6_load_1 fX6_15 rfl (lyx_is hy 5 0 rfl) hT ?_
  refine WP_astore (ls' := [(0, _), (1, _), (2, _), (3, _), (4, _)]) dX6_load_4 (by decide) rfl ?_
  refine WP_iload_n dX6_load_6 rfl ?_
  refine WQ_bipush (7) (7) dX6_load_7 rfl rfl (fun v10067 hv10067 => ?_)
  refine WQ_imulk (7) dX6_load_9 hv10067 (by omega) (by omega) (fun v10068 hv10068 => ?_)
  refine WP_iload_n dX6_load_10 rfl ?_
  refine WQ_iadd dX6_load_11 (by omega) (by omega) (fun v10069 hv10069 => ?_)
  refine WP_istore (ls' := [(0, _), (1, _), (2, _), (3, _), (4, _), (5, _)]) dX6_load_12 (by decide) rfl ?_
  refine WP_aload dX6_load_14 rfl ?_
  refine WQ_geti dX6_load_16 fX6_21 rfl (lyx_is hy 6 7 rfl) (BT_get hI.1 6 4 5 (-1) (0) (2) (by decide) 4 (by decide) (by decide)) (fun v10070 ev10070 av10070 bv10070 => ?_)
  have est : I (ad g 6) 4 = v10070 := ev10070
  refine WP_istore (ls' := [(0, _), (1, _), (2, _), (3, _), (4, _), (5, _), (6, _)]) dX6_load_19 (by decide) rfl ?_
  refine WP_aload dX6_load_21 rfl ?_
  refine WP_getr dX6_load_23 fX6_26 rfl (lyx_is hy 6 7 rfl) (rfx hr 6 9 11 (by decide)) ?_
  refine WP_iload_n dX6_load_26 rfl ?_
  refine WQ_ialdx dX6_load_27 (lyx_is hy 11 13 rfl) (lyx_n hy 11 4 rfl) (by omega) (by omega) (fun v10071 zv10071 => ?_)
  have yv10071 : I (ad g 11) (so.toInt).toNat = v10071 := by rw [← fz_at fr0 11 (by decide) (by decide), show (so.toInt).toNat = so.toInt.toNat by omega]; exact zv10071
  refine WP_iload_n dX6_load_28 rfl ?_
  refine WQ_ishrx dX6_load_29 (fun v10072 xv10072 => ?_)
  refine WQ_iconst (1) (1) dX6_load_30 rfl rfl (fun v10073 hv10073 => ?_)
  refine WQ_iandx dX6_load_31 (fun v10074 xv10074 => ?_)
  refine WQ_if_eq 39 dX6_load_32 rfl (fun c10074 => ?_) (fun c10074 => ?_)
  · refine WQ_iconst (0) (0) dX6_load_39 rfl rfl (fun v10076 hv10076 => ?_)
    refine WP_istore (ls' := [(0, _), (1, _), (2, _), (3, _), (4, _), (5, _), (6, _), (7, _)]) dX6_load_40 (by decide) rfl ?_
    refine WP_aload_n dX6_load_42 rfl ?_
    refine WP_aload dX6_load_43 rfl ?_
    refine WP_getr dX6_load_45 fX6_30 rfl (lyx_is hy 6 7 rfl) (rfx hr 6 11 13 (by decide)) ?_
    refine WP_iload dX6_load_48 rfl ?_
    refine WQ_ialdb dX6_load_50 (lyx_is hy 13 13 rfl) (lyx_n hy 13 28 rfl) (by omega) (by omega) (fun q hq => BT_get hI.1 13 0 28 (-1) (0) (2) (by decide) q (Nat.zero_le _) hq) (fun v10077 av10077 bv10077 zv10077 => ?_)
    have yv10077 : I (ad g 13) (7 * so.toInt + da.toInt).toNat = v10077 := by rw [← fz_at fr0 13 (by decide) (by decide), show (7 * so.toInt + da.toInt).toNat = v10069.toInt.toNat by omega]; exact zv10077
    refine WQ_puti dX6_load_51 fX6_9 rfl rfl (lyx_is hy 50 6 rfl) (fun I10078 eI10078 => ?_)
    have hI10078 : XI g n L I10078 := by rw [eI10078]; exact (xi_f hy hI (c := 50) (-1) (0) (2) (by decide) (Or.inl (by decide)) (by decide) (by omega) (by omega))
    have e10079 : I10078 (ad g 1) 1 = L := by rw [eI10078, pp_ne _ _ (Or.inl (lyx_ne hy (by decide) (by decide) (by decide)))]; exact e10065
    have e10080 : I10078 (ad g 6) 4 = v10070 := by rw [eI10078, pp_ne _ _ (Or.inl (lyx_ne hy (by decide) (by decide) (by decide)))]; exact ev10070
    have e10081 : I10078 (ad g 50) 0 = v10077 := by rw [eI10078, pp_self]
    have fr10082 : fz 74 g [50] I I10078 := by rw [eI10078]; exact fzx_pp hy fr0 (by decide) (by decide)
    clear eI10078
    refine WP_aload_n dX6_load_54 rfl ?_
    refine WP_aload dX6_load_55 rfl ?_
    refine WP_getr dX6_load_57 fX6_33 rfl (lyx_is hy 6 7 rfl) (rfx hr 6 12 14 (by decide)) ?_
    refine WP_iload dX6_load_60 rfl ?_
    refine WQ_ialdb dX6_load_62 (lyx_is hy 14 13 rfl) (lyx_n hy 14 28 rfl) (by omega) (by omega) (fun q hq => BT_get hI10078.1 14 0 28 (0) (0) (3) (by decide) q (Nat.zero_le _) hq) (fun v10083 av10083 bv10083 zv10083 => ?_)
    have yv10083 : I (ad g 14) (7 * so.toInt + da.toInt).toNat = v10083 := by rw [← fz_at fr10082 14 (by decide) (by decide), show (7 * so.toInt + da.toInt).toNat = v10069.toInt.toNat by omega]; exact zv10083
    refine WQ_puti dX6_load_63 fX6_36 rfl rfl (lyx_is hy 50 6 rfl) (fun I10084 eI10084 => ?_)
    have hI10084 : XI g n L I10084 := by rw [eI10084]; exact (xi_f hy hI10078 (c := 50) (0) (0) (3) (by decide) (Or.inl (by decide)) (by decide) (by omega) (by omega))
    have e10085 : I10084 (ad g 1) 1 = L := by rw [eI10084, pp_ne _ _ (Or.inl (lyx_ne hy (by decide) (by decide) (by decide)))]; exact e10079
    have e10086 : I10084 (ad g 6) 4 = v10070 := by rw [eI10084, pp_ne _ _ (Or.inl (lyx_ne hy (by decide) (by decide) (by decide)))]; exact e10080
    have e10087 : I10084 (ad g 50) 0 = v10077 := by rw [eI10084, pp_ne _ _ (Or.inr (by decide))]; exact e10081
    have e10088 : I10084 (ad g 50) 1 = v10083 := by rw [eI10084, pp_self]
    have fr10089 : fz 74 g [50] I I10084 := by rw [eI10084]; exact fzx_pp hy fr10082 (by decide) (by decide)
    clear eI10084
    refine WP_aload_n dX6_load_66 rfl ?_
    refine WP_aload dX6_load_67 rfl ?_
    refine WP_getr dX6_load_69 fX6_39 rfl (lyx_is hy 6 7 rfl) (rfx hr 6 13 15 (by decide)) ?_
    refine WP_iload dX6_load_72 rfl ?_
    refine WQ_ialdb dX6_load_74 (lyx_is hy 15 13 rfl) (lyx_n hy 15 28 rfl) (by omega) (by omega) (fun q hq => BT_get hI10084.1 15 0 28 (0) (0) (99) (by decide) q (Nat.zero_le _) hq) (fun v10090 av10090 bv10090 zv10090 => ?_)
    have yv10090 : I (ad g 15) (7 * so.toInt + da.toInt).toNat = v10090 := by rw [← fz_at fr10089 15 (by decide) (by decide), show (7 * so.toInt + da.toInt).toNat = v10069.toInt.toNat by omega]; exact zv10090
    refine WQ_puti dX6_load_75 fX6_42 rfl rfl (lyx_is hy 50 6 rfl) (fun I10091 eI10091 => ?_)
    have hI10091 : XI g n L I10091 := by rw [eI10091]; exact (xi_f hy hI10084 (c := 50) (0) (0) (99) (by decide) (Or.inl (by decide)) (by decide) (by omega) (by omega))
    have e10092 : I10091 (ad g 1) 1 = L := by rw [eI10091, pp_ne _ _ (Or.inl (lyx_ne hy (by decide) (by decide) (by decide)))]; exact e10085
    have e10093 : I10091 (ad g 6) 4 = v10070 := by rw [eI10091, pp_ne _ _ (Or.inl (lyx_ne hy (by decide) (by decide) (by decide)))]; exact e10086
    have e10094 : I10091 (ad g 50) 0 = v10077 := by rw [eI10091, pp_ne _ _ (Or.inr (by decide))]; exact e10087
    have e10095 : I10091 (ad g 50) 1 = v10083 := by rw [eI10091, pp_ne _ _ (Or.inr (by decide))]; exact e10088
    have e10096 : I10091 (ad g 50) 2 = v10090 := by rw [eI10091, pp_self]
    have fr10097 : fz 74 g [50] I I10091 := by rw [eI10091]; exact fzx_pp hy fr10089 (by decide) (by decide)
    clear eI10091
    refine WP_aload_n dX6_load_78 rfl ?_
    refine WP_aload_n dX6_load_79 rfl ?_
    refine WQ_getim dX6_load_80 fX6_9 rfl (lyx_is hy 50 6 rfl) e10094 ?_
    refine WQ_iconst (-1) (-1) dX6_load_83 rfl rfl (fun v10098 hv10098 => ?_)
    refine WQ_icmp_ne 91 dX6_load_84 rfl (fun c10098 => ?_) (fun c10098 => ?_)
    · refine WP_aload_n dX6_load_91 rfl ?_
      refine WP_getr dX6_load_92 fX6_45 rfl (lyx_is hy 5 0 rfl) (rfx hr 5 1 22 (by decide)) ?_
      refine WP_aload_n dX6_load_95 rfl ?_
      refine WQ_getim dX6_load_96 fX6_9 rfl (lyx_is hy 50 6 rfl) e10094 ?_
      refine WQ_bipush (7) (7) dX6_load_99 rfl rfl (fun v10100 hv10100 => ?_)
      refine WQ_imulk (7) dX6_load_101 hv10100 (by omega) (by omega) (fun v10101 hv10101 => ?_)
      refine WP_iload_n dX6_load_102 rfl ?_
      refine WQ_iadd dX6_load_103 (by omega) (by omega) (fun v10102 hv10102 => ?_)
      refine WQ_ialdb dX6_load_104 (lyx_is hy 22 13 rfl) (lyx_n hy 22 21 rfl) (by omega) (by omega) (fun q hq => BT_get hI10091.1 22 0 21 (0) (0) (20) (by decide) q (Nat.zero_le _) hq) (fun v10103 av10103 bv10103 zv10103 => ?_)
      have yv10103 : I (ad g 22) (7 * v10077.toInt + da.toInt).toNat = v10103 := by rw [← fz_at fr10097 22 (by decide) (by decide), show (7 * v10077.toInt + da.toInt).toNat = v10102.toInt.toNat by omega]; exact zv10103
      refine WQ_puti dX6_load_105 fX6_48 rfl rfl (lyx_is hy 50 6 rfl) (fun I10104 eI10104 => ?_)
      have hI10104 : XI g n L I10104 := by rw [eI10104]; exact (xi_f hy hI10091 (c := 50) (0) (0) (20) (by decide) (Or.inl (by decide)) (by decide) (by omega) (by omega))
      have e10105 : I10104 (ad g 1) 1 = L := by rw [eI10104, pp_ne _ _ (Or.inl (lyx_ne hy (by decide) (by decide) (by decide)))]; exact e10092
      have e10106 : I10104 (ad g 6) 4 = v10070 := by rw [eI10104, pp_ne _ _ (Or.inl (lyx_ne hy (by decide) (by decide) (by decide)))]; exact e10093
      have e10107 : I10104 (ad g 50) 0 = v10077 := by rw [eI10104, pp_ne _ _ (Or.inr (by decide))]; exact e10094
      have e10108 : I10104 (ad g 50) 1 = v10083 := by rw [eI10104, pp_ne _ _ (Or.inr (by decide))]; exact e10095
      have e10109 : I10104 (ad g 50) 2 = v10090 := by rw [eI10104, pp_ne _ _ (Or.inr (by decide))]; exact e10096
      have e10110 : I10104 (ad g 50) 3 = v10103 := by rw [eI10104, pp_self]
      have fr10111 : fz 74 g [50] I I10104 := by rw [eI10104]; exact fzx_pp hy fr10097 (by decide) (by decide)
      clear eI10104
      refine WP_aload_n dX6_load_108 rfl ?_
      refine WP_iload dX6_load_109 rfl ?_
      refine WQ_iconst (-1) (-1) dX6_load_111 rfl rfl (fun v10112 hv10112 => ?_)
      refine WQ_icmp_ne 119 dX6_load_112 rfl (fun c10112 => ?_) (fun c10112 => ?_)
      · refine WP_aload_n dX6_load_119 rfl ?_
        refine WP_getr dX6_load_120 fX6_45 rfl (lyx_is hy 5 0 rfl) (rfx hr 5 1 22 (by decide)) ?_
        refine WP_iload dX6_load_123 rfl ?_
        refine WQ_bipush (7) (7) dX6_load_125 rfl rfl (fun v10114 hv10114 => ?_)
        refine WQ_imulk (7) dX6_load_127 hv10114 (by omega) (by omega) (fun v10115 hv10115 => ?_)
        refine WP_iload_n dX6_load_128 rfl ?_
        refine WQ_iadd dX6_load_129 (by omega) (by omega) (fun v10116 hv10116 => ?_)
        refine WQ_ialdb dX6_load_130 (lyx_is hy 22 13 rfl) (lyx_n hy 22 21 rfl) (by omega) (by omega) (fun q hq => BT_get hI10104.1 22 0 21 (0) (0) (20) (by decide) q (Nat.zero_le _) hq) (fun v10117 av10117 bv10117 zv10117 => ?_)
        have yv10117 : I (ad g 22) (7 * v10070.toInt + da.toInt).toNat = v10117 := by rw [← fz_at fr10111 22 (by decide) (by decide), show (7 * v10070.toInt + da.toInt).toNat = v10116.toInt.toNat by omega]; exact zv10117
        refine WQ_puti dX6_load_131 fX6_51 rfl rfl (lyx_is hy 50 6 rfl) (fun I10118 eI10118 => ?_)
        have hI10118 : XI g n L I10118 := by rw [eI10118]; exact (xi_f hy hI10104 (c := 50) (0) (0) (20) (by decide) (Or.inl (by decide)) (by decide) (by omega) (by omega))
        have e10119 : I10118 (ad g 1) 1 = L := by rw [eI10118, pp_ne _ _ (Or.inl (lyx_ne hy (by decide) (by decide) (by decide)))]; exact e10105
        have e10120 : I10118 (ad g 6) 4 = v10070 := by rw [eI10118, pp_ne _ _ (Or.inl (lyx_ne hy (by decide) (by decide) (by decide)))]; exact e10106
        have e10121 : I10118 (ad g 50) 0 = v10077 := by rw [eI10118, pp_ne _ _ (Or.inr (by decide))]; exact e10107
        have e10122 : I10118 (ad g 50) 1 = v10083 := by rw [eI10118, pp_ne _ _ (Or.inr (by decide))]; exact e10108
        have e10123 : I10118 (ad g 50) 2 = v10090 := by rw [eI10118, pp_ne _ _ (Or.inr (by decide))]; exact e10109
        have e10124 : I10118 (ad g 50) 3 = v10103 := by rw [eI10118, pp_ne _ _ (Or.inr (by decide))]; exact e10110
        have e10125 : I10118 (ad g 50) 4 = v10117 := by rw [eI10118, pp_self]
        have fr10126 : fz 74 g [50] I I10118 := by rw [eI10118]; exact fzx_pp hy fr10111 (by decide) (by decide)
        clear eI10118
        refine WP_aload_n dX6_load_134 rfl ?_
        refine WP_iload dX6_load_135 rfl ?_
        refine WQ_if_eq 144 dX6_load_137 rfl (fun c10126 => ?_) (fun c10126 => False.elim (by omega))
        refine WP_aload_n dX6_load_144 rfl ?_
        refine WQ_getim dX6_load_145 fX6_36 rfl (lyx_is hy 50 6 rfl) e10122 ?_
        refine WQ_puti dX6_load_148 fX6_54 rfl rfl (lyx_is hy 50 6 rfl) (fun I10128 eI10128 => ?_)
        have hI10128 : XI g n L I10128 := by rw [eI10128]; exact (xi_f hy hI10118 (c := 50) (0) (0) (3) (by decide) (Or.inl (by decide)) (by decide) (by omega) (by omega))
        have e10129 : I10128 (ad g 1) 1 = L := by rw [eI10128, pp_ne _ _ (Or.inl (lyx_ne hy (by decide) (by decide) (by decide)))]; exact e10119
        have e10130 : I10128 (ad g 6) 4 = v10070 := by rw [eI10128, pp_ne _ _ (Or.inl (lyx_ne hy (by decide) (by decide) (by decide)))]; exact e10120
        have e10131 : I10128 (ad g 50) 0 = v10077 := by rw [eI10128, pp_ne _ _ (Or.inr (by decide))]; exact e10121
        have e10132 : I10128 (ad g 50) 1 = v10083 := by rw [eI10128, pp_ne _ _ (Or.inr (by decide))]; exact e10122
        have e10133 : I10128 (ad g 50) 2 = v10090 := by rw [eI10128, pp_ne _ _ (Or.inr (by decide))]; exact e10123
        have e10134 : I10128 (ad g 50) 3 = v10103 := by rw [eI10128, pp_ne _ _ (Or.inr (by decide))]; exact e10124
        have e10135 : I10128 (ad g 50) 4 = v10117 := by rw [eI10128, pp_ne _ _ (Or.inr (by decide))]; exact e10125
        have e10136 : I10128 (ad g 50) 5 = v10083 := by rw [eI10128, pp_self]
        have fr10137 : fz 74 g [50] I I10128 := by rw [eI10128]; exact fzx_pp hy fr10126 (by decide) (by decide)
        clear eI10128
        refine WP_aload_n dX6_load_151 rfl ?_
        refine WP_iload dX6_load_152 rfl ?_
        refine WQ_if_ne 163 dX6_load_154 rfl (fun c10137 => False.elim (by omega)) (fun c10137 => ?_)
        refine WP_iload dX6_load_157 rfl ?_
        refine WQ_iconst (-1) (-1) dX6_load_159 rfl rfl (fun v10139 hv10139 => ?_)
        refine WQ_icmp_ne 167 dX6_load_160 rfl (fun c10139 => ?_) (fun c10139 => False.elim (by omega))
        refine WQ_iconst (2) (2) dX6_load_167 rfl rfl (fun v10141 hv10141 => ?_)
        refine WQ_puti dX6_load_168 fX6_57 rfl rfl (lyx_is hy 50 6 rfl) (fun I10142 eI10142 => ?_)
        have hI10142 : XI g n L I10142 := by rw [eI10142]; exact (xi_f hy hI10128 (c := 50) (0) (0) (2) (by decide) (Or.inl (by decide)) (by decide) (by omega) (by omega))
        have e10143 : I10142 (ad g 1) 1 = L := by rw [eI10142, pp_ne _ _ (Or.inl (lyx_ne hy (by decide) (by decide) (by decide)))]; exact e10129
        have e10144 : I10142 (ad g 6) 4 = v10070 := by rw [eI10142, pp_ne _ _ (Or.inl (lyx_ne hy (by decide) (by decide) (by decide)))]; exact e10130
        have e10145 : I10142 (ad g 50) 0 = v10077 := by rw [eI10142, pp_ne _ _ (Or.inr (by decide))]; exact e10131
        have e10146 : I10142 (ad g 50) 1 = v10083 := by rw [eI10142, pp_ne _ _ (Or.inr (by decide))]; exact e10132
        have e10147 : I10142 (ad g 50) 2 = v10090 := by rw [eI10142, pp_ne _ _ (Or.inr (by decide))]; exact e10133
        have e10148 : I10142 (ad g 50) 3 = v10103 := by rw [eI10142, pp_ne _ _ (Or.inr (by decide))]; exact e10134
        have e10149 : I10142 (ad g 50) 4 = v10117 := by rw [eI10142, pp_ne _ _ (Or.inr (by decide))]; exact e10135
        have e10150 : I10142 (ad g 50) 5 = v10083 := by rw [eI10142, pp_ne _ _ (Or.inr (by decide))]; exact e10136
        have e10151 : I10142 (ad g 50) 6 = v10141 := by rw [eI10142, pp_self]
        have fr10152 : fz 74 g [50] I I10142 := by rw [eI10142]; exact fzx_pp hy fr10137 (by decide) (by decide)
        clear eI10142
        refine WP_aload_n dX6_load_171 rfl ?_
        refine WP_aload_n dX6_load_172 rfl ?_
        refine WQ_getim dX6_load_173 fX6_9 rfl (lyx_is hy 50 6 rfl) e10145 ?_
        refine WQ_iconst (-1) (-1) dX6_load_176 rfl rfl (fun v10153 hv10153 => ?_)
        refine WQ_icmp_eq 193 dX6_load_177 rfl (fun c10153 => False.elim (by omega)) (fun c10153 => ?_)
        refine WP_aload_n dX6_load_180 rfl ?_
        refine WQ_getim dX6_load_181 fX6_9 rfl (lyx_is hy 50 6 rfl) e10145 ?_
        refine WP_iload dX6_load_184 rfl ?_
        refine WQ_icmp_ne 193 dX6_load_186 rfl (fun c10154 => ?_) (fun c10154 => ?_)
        · refine WQ_iconst (0) (0) dX6_load_193 rfl rfl (fun v10156 hv10156 => ?_)
          refine WQ_putz dX6_load_194 fX6_60 rfl rfl (by omega) (lyx_is hy 50 6 rfl) (fun I10157 eI10157 => ?_)
          have hI10157 : XI g n L I10157 := by rw [eI10157]; exact (xi_f hy hI10142 (c := 50) (0) (0) (1) (by decide) (Or.inl (by decide)) (by decide) (by omega) (by omega))
          have e10158 : I10157 (ad g 1) 1 = L := by rw [eI10157, pp_ne _ _ (Or.inl (lyx_ne hy (by decide) (by decide) (by decide)))]; exact e10143
          have e10159 : I10157 (ad g 6) 4 = v10070 := by rw [eI10157, pp_ne _ _ (Or.inl (lyx_ne hy (by decide) (by decide) (by decide)))]; exact e10144
          have e10160 : I10157 (ad g 50) 0 = v10077 := by rw [eI10157, pp_ne _ _ (Or.inr (by decide))]; exact e10145
          have e10161 : I10157 (ad g 50) 1 = v10083 := by rw [eI10157, pp_ne _ _ (Or.inr (by decide))]; exact e10146
          have e10162 : I10157 (ad g 50) 2 = v10090 := by rw [eI10157, pp_ne _ _ (Or.inr (by decide))]; exact e10147
          have e10163 : I10157 (ad g 50) 3 = v10103 := by rw [eI10157, pp_ne _ _ (Or.inr (by decide))]; exact e10148
          have e10164 : I10157 (ad g 50) 4 = v10117 := by rw [eI10157, pp_ne _ _ (Or.inr (by decide))]; exact e10149
          have e10165 : I10157 (ad g 50) 5 = v10083 := by rw [eI10157, pp_ne _ _ (Or.inr (by decide))]; exact e10150
          have e10166 : I10157 (ad g 50) 6 = v10141 := by rw [eI10157, pp_ne _ _ (Or.inr (by decide))]; exact e10151
          have e10167 : I10157 (ad g 50) 7 = v10156 := by rw [eI10157, pp_self]
          have fr10168 : fz 74 g [50] I I10157 := by rw [eI10157]; exact fzx_pp hy fr10152 (by decide) (by decide)
          clear eI10157
          refine WP_aload_n dX6_load_197 rfl ?_
          refine WP_aload_n dX6_load_198 rfl ?_
          refine WP_getr dX6_load_199 fX6_64 rfl (lyx_is hy 5 0 rfl) (rfx hr 5 2 23 (by decide)) ?_
          refine WP_iload_n dX6_load_202 rfl ?_
          refine WQ_iald dX6_load_203 (lyx_is hy 23 13 rfl) (lyx_n hy 23 7 rfl) (by omega) (by omega) (fun q hq => BT_get hI10157.1 23 0 7 (0) (0) (900) (by decide) q (Nat.zero_le _) hq) (fun v10169 av10169 bv10169 ev10169 => ?_)
          clear ev10169
          refine WQ_if_le 211 dX6_load_204 rfl (fun c10169 => ?_) (fun c10169 => ?_)
          · refine WQ_iconst (0) (0) dX6_load_211 rfl rfl (fun v10171 hv10171 => ?_)
            refine WQ_putz dX6_load_212 fX6_67 rfl rfl (by omega) (lyx_is hy 50 6 rfl) (fun I10172 eI10172 => ?_)
            have hI10172 : XI g n L I10172 := by rw [eI10172]; exact (xi_f hy hI10157 (c := 50) (0) (0) (1) (by decide) (Or.inl (by decide)) (by decide) (by omega) (by omega))
            have e10173 : I10172 (ad g 1) 1 = L := by rw [eI10172, pp_ne _ _ (Or.inl (lyx_ne hy (by decide) (by decide) (by decide)))]; exact e10158
            have e10174 : I10172 (ad g 6) 4 = v10070 := by rw [eI10172, pp_ne _ _ (Or.inl (lyx_ne hy (by decide) (by decide) (by decide)))]; exact e10159
            have e10175 : I10172 (ad g 50) 0 = v10077 := by rw [eI10172, pp_ne _ _ (Or.inr (by decide))]; exact e10160
            have e10176 : I10172 (ad g 50) 1 = v10083 := by rw [eI10172, pp_ne _ _ (Or.inr (by decide))]; exact e10161
            have e10177 : I10172 (ad g 50) 2 = v10090 := by rw [eI10172, pp_ne _ _ (Or.inr (by decide))]; exact e10162
            have e10178 : I10172 (ad g 50) 3 = v10103 := by rw [eI10172, pp_ne _ _ (Or.inr (by decide))]; exact e10163
            have e10179 : I10172 (ad g 50) 4 = v10117 := by rw [eI10172, pp_ne _ _ (Or.inr (by decide))]; exact e10164
            have e10180 : I10172 (ad g 50) 5 = v10083 := by rw [eI10172, pp_ne _ _ (Or.inr (by decide))]; exact e10165
            have e10181 : I10172 (ad g 50) 6 = v10141 := by rw [eI10172, pp_ne _ _ (Or.inr (by decide))]; exact e10166
            have e10182 : I10172 (ad g 50) 7 = v10156 := by rw [eI10172, pp_ne _ _ (Or.inr (by decide))]; exact e10167
            have e10183 : I10172 (ad g 50) 8 = v10171 := by rw [eI10172, pp_self]
            have fr10184 : fz 74 g [50] I I10172 := by rw [eI10172]; exact fzx_pp hy fr10168 (by decide) (by decide)
            clear eI10172
            exact WP_vret dX6_load_215 rfl ⟨⟨hI10172, rfl, fr10184, rfl, (by
                  have yill : I (ad g (6 + 5)) so.toInt.toNat >>> (nI da.toInt.toNat &&& 31) &&& 1 = v10074 := by rw [show I (ad g (6 + 5)) so.toInt.toNat = v10071 from yv10071, show nI da.toInt.toNat = da from (eq32 _ _).mpr (by rw [nI_toInt (by omega)]; omega), xv10074, xv10072, (eq32 v10073 1).mpr hv10073]
                  have yst : I (ad g 6) 4 = v10070 := est
                  unfold LD
                  simp only [e10175, e10176, e10177, e10178, e10179, e10180, e10181, e10182, yill, yst, show I (ad g (6 + 7)) _ = _ from yv10077, show I (ad g (6 + 8)) _ = _ from yv10083, show I (ad g (6 + 9)) _ = _ from yv10090, yv10103, yv10117, true_and, and_true]
                  omega)⟩, rfl⟩
          · refine WQ_iconst (1) (1) dX6_load_207 rfl rfl (fun v10185 hv10185 => ?_)
            refine WP_goto 212 dX6_load_208 rfl ?_
            refine WQ_putz dX6_load_212 fX6_67 rfl rfl (by omega) (lyx_is hy 50 6 rfl) (fun I10186 eI10186 => ?_)
            have hI10186 : XI g n L I10186 := by rw [eI10186]; exact (xi_f hy hI10157 (c := 50) (0) (0) (1) (by decide) (Or.inl (by decide)) (by decide) (by omega) (by omega))
            have e10187 : I10186 (ad g 1) 1 = L := by rw [eI10186, pp_ne _ _ (Or.inl (lyx_ne hy (by decide) (by decide) (by decide)))]; exact e10158
            have e10188 : I10186 (ad g 6) 4 = v10070 := by rw [eI10186, pp_ne _ _ (Or.inl (lyx_ne hy (by decide) (by decide) (by decide)))]; exact e10159
            have e10189 : I10186 (ad g 50) 0 = v10077 := by rw [eI10186, pp_ne _ _ (Or.inr (by decide))]; exact e10160
            have e10190 : I10186 (ad g 50) 1 = v10083 := by rw [eI10186, pp_ne _ _ (Or.inr (by decide))]; exact e10161
            have e10191 : I10186 (ad g 50) 2 = v10090 := by rw [eI10186, pp_ne _ _ (Or.inr (by decide))]; exact e10162
            have e10192 : I10186 (ad g 50) 3 = v10103 := by rw [eI10186, pp_ne _ _ (Or.inr (by decide))]; exact e10163
            have e10193 : I10186 (ad g 50) 4 = v10117 := by rw [eI10186, pp_ne _ _ (Or.inr (by decide))]; exact e10164
            have e10194 : I10186 (ad g 50) 5 = v10083 := by rw [eI10186, pp_ne _ _ (Or.inr (by decide))]; exact e10165
            have e10195 : I10186 (ad g 50) 6 = v10141 := by rw [eI10186, pp_ne _ _ (Or.inr (by decide))]; exact e10166
            have e10196 : I10186 (ad g 50) 7 = v10156 := by rw [eI10186, pp_ne _ _ (Or.inr (by decide))]; exact e10167
            have e10197 : I10186 (ad g 50) 8 = v10185 := by rw [eI10186, pp_self]
            have fr10198 : fz 74 g [50] I I10186 := by rw [eI10186]; exact fzx_pp hy fr10168 (by decide) (by decide)
            clear eI10186
            exact WP_vret dX6_load_215 rfl ⟨⟨hI10186, rfl, fr10198, rfl, (by
                  have yill : I (ad g (6 + 5)) so.toInt.toNat >>> (nI da.toInt.toNat &&& 31) &&& 1 = v10074 := by rw [show I (ad g (6 + 5)) so.toInt.toNat = v10071 from yv10071, show nI da.toInt.toNat = da from (eq32 _ _).mpr (by rw [nI_toInt (by omega)]; omega), xv10074, xv10072, (eq32 v10073 1).mpr hv10073]
                  have yst : I (ad g 6) 4 = v10070 := est
                  unfold LD
                  simp only [e10189, e10190, e10191, e10192, e10193, e10194, e10195, e10196, yill, yst, show I (ad g (6 + 7)) _ = _ from yv10077, show I (ad g (6 + 8)) _ = _ from yv10083, show I (ad g (6 + 9)) _ = _ from yv10090, yv10103, yv10117, true_and, and_true]
                  omega)⟩, rfl⟩
        · refine WQ_iconst (1) (1) dX6_load_189 rfl rfl (fun v10199 hv10199 => ?_)
          refine WP_goto 194 dX6_load_190 rfl ?_
          refine WQ_putz dX6_load_194 fX6_60 rfl rfl (by omega) (lyx_is hy 50 6 rfl) (fun I10200 eI10200 => ?_)
          have hI10200 : XI g n L I10200 := by rw [eI10200]; exact (xi_f hy hI10142 (c := 50) (0) (0) (1) (by decide) (Or.inl (by decide)) (by decide) (by omega) (by omega))
          have e10201 : I10200 (ad g 1) 1 = L := by rw [eI10200, pp_ne _ _ (Or.inl (lyx_ne hy (by decide) (by decide) (by decide)))]; exact e10143
          have e10202 : I10200 (ad g 6) 4 = v10070 := by rw [eI10200, pp_ne _ _ (Or.inl (lyx_ne hy (by decide) (by decide) (by decide)))]; exact e10144
          have e10203 : I10200 (ad g 50) 0 = v10077 := by rw [eI10200, pp_ne _ _ (Or.inr (by decide))]; exact e10145
          have e10204 : I10200 (ad g 50) 1 = v10083 := by rw [eI10200, pp_ne _ _ (Or.inr (by decide))]; exact e10146
          have e10205 : I10200 (ad g 50) 2 = v10090 := by rw [eI10200, pp_ne _ _ (Or.inr (by decide))]; exact e10147
          have e10206 : I10200 (ad g 50) 3 = v10103 := by rw [eI10200, pp_ne _ _ (Or.inr (by decide))]; exact e10148
          have e10207 : I10200 (ad g 50) 4 = v10117 := by rw [eI10200, pp_ne _ _ (Or.inr (by decide))]; exact e10149
          have e10208 : I10200 (ad g 50) 5 = v10083 := by rw [eI10200, pp_ne _ _ (Or.inr (by decide))]; exact e10150
          have e10209 : I10200 (ad g 50) 6 = v10141 := by rw [eI10200, pp_ne _ _ (Or.inr (by decide))]; exact e10151
          have e10210 : I10200 (ad g 50) 7 = v10199 := by rw [eI10200, pp_self]
          have fr10211 : fz 74 g [50] I I10200 := by rw [eI10200]; exact fzx_pp hy fr10152 (by decide) (by decide)
          clear eI10200
          refine WP_aload_n dX6_load_197 rfl ?_
          refine WP_aload_n dX6_load_198 rfl ?_
          refine WP_getr dX6_load_199 fX6_64 rfl (lyx_is hy 5 0 rfl) (rfx hr 5 2 23 (by decide)) ?_
          refine WP_iload_n dX6_load_202 rfl ?_
          refine WQ_iald dX6_load_203 (lyx_is hy 23 13 rfl) (lyx_n hy 23 7 rfl) (by omega) (by omega) (fun q hq => BT_get hI10200.1 23 0 7 (0) (0) (900) (by decide) q (Nat.zero_le _) hq) (fun v10212 av10212 bv10212 ev10212 => ?_)
          clear ev10212
          refine WQ_if_le 211 dX6_load_204 rfl (fun c10212 => ?_) (fun c10212 => ?_)
          · refine WQ_iconst (0) (0) dX6_load_211 rfl rfl (fun v10214 hv10214 => ?_)
            refine WQ_putz dX6_load_212 fX6_67 rfl rfl (by omega) (lyx_is hy 50 6 rfl) (fun I10215 eI10215 => ?_)
            have hI10215 : XI g n L I10215 := by rw [eI10215]; exact (xi_f hy hI10200 (c := 50) (0) (0) (1) (by decide) (Or.inl (by decide)) (by decide) (by omega) (by omega))
            have e10216 : I10215 (ad g 1) 1 = L := by rw [eI10215, pp_ne _ _ (Or.inl (lyx_ne hy (by decide) (by decide) (by decide)))]; exact e10201
            have e10217 : I10215 (ad g 6) 4 = v10070 := by rw [eI10215, pp_ne _ _ (Or.inl (lyx_ne hy (by decide) (by decide) (by decide)))]; exact e10202
            have e10218 : I10215 (ad g 50) 0 = v10077 := by rw [eI10215, pp_ne _ _ (Or.inr (by decide))]; exact e10203
            have e10219 : I10215 (ad g 50) 1 = v10083 := by rw [eI10215, pp_ne _ _ (Or.inr (by decide))]; exact e10204
            have e10220 : I10215 (ad g 50) 2 = v10090 := by rw [eI10215, pp_ne _ _ (Or.inr (by decide))]; exact e10205
            have e10221 : I10215 (ad g 50) 3 = v10103 := by rw [eI10215, pp_ne _ _ (Or.inr (by decide))]; exact e10206
            have e10222 : I10215 (ad g 50) 4 = v10117 := by rw [eI10215, pp_ne _ _ (Or.inr (by decide))]; exact e10207
            have e10223 : I10215 (ad g 50) 5 = v10083 := by rw [eI10215, pp_ne _ _ (Or.inr (by decide))]; exact e10208
            have e10224 : I10215 (ad g 50) 6 = v10141 := by rw [eI10215, pp_ne _ _ (Or.inr (by decide))]; exact e10209
            have e10225 : I10215 (ad g 50) 7 = v10199 := by rw [eI10215, pp_ne _ _ (Or.inr (by decide))]; exact e10210
            have e10226 : I10215 (ad g 50) 8 = v10214 := by rw [eI10215, pp_self]
            have fr10227 : fz 74 g [50] I I10215 := by rw [eI10215]; exact fzx_pp hy fr10211 (by decide) (by decide)
            clear eI10215
            exact WP_vret dX6_load_215 rfl ⟨⟨hI10215, rfl, fr10227, rfl, (by
                  have yill : I (ad g (6 + 5)) so.toInt.toNat >>> (nI da.toInt.toNat &&& 31) &&& 1 = v10074 := by rw [show I (ad g (6 + 5)) so.toInt.toNat = v10071 from yv10071, show nI da.toInt.toNat = da from (eq32 _ _).mpr (by rw [nI_toInt (by omega)]; omega), xv10074, xv10072, (eq32 v10073 1).mpr hv10073]
                  have yst : I (ad g 6) 4 = v10070 := est
                  unfold LD
                  simp only [e10218, e10219, e10220, e10221, e10222, e10223, e10224, e10225, yill, yst, show I (ad g (6 + 7)) _ = _ from yv10077, show I (ad g (6 + 8)) _ = _ from yv10083, show I (ad g (6 + 9)) _ = _ from yv10090, yv10103, yv10117, true_and, and_true]
                  omega)⟩, rfl⟩
          · refine WQ_iconst (1) (1) dX6_load_207 rfl rfl (fun v10228 hv10228 => ?_)
            refine WP_goto 212 dX6_load_208 rfl ?_
            refine WQ_putz dX6_load_212 fX6_67 rfl rfl (by omega) (lyx_is hy 50 6 rfl) (fun I10229 eI10229 => ?_)
            have hI10229 : XI g n L I10229 := by rw [eI10229]; exact (xi_f hy hI10200 (c := 50) (0) (0) (1) (by decide) (Or.inl (by decide)) (by decide) (by omega) (by omega))
            have e10230 : I10229 (ad g 1) 1 = L := by rw [eI10229, pp_ne _ _ (Or.inl (lyx_ne hy (by decide) (by decide) (by decide)))]; exact e10201
            have e10231 : I10229 (ad g 6) 4 = v10070 := by rw [eI10229, pp_ne _ _ (Or.inl (lyx_ne hy (by decide) (by decide) (by decide)))]; exact e10202
            have e10232 : I10229 (ad g 50) 0 = v10077 := by rw [eI10229, pp_ne _ _ (Or.inr (by decide))]; exact e10203
            have e10233 : I10229 (ad g 50) 1 = v10083 := by rw [eI10229, pp_ne _ _ (Or.inr (by decide))]; exact e10204
            have e10234 : I10229 (ad g 50) 2 = v10090 := by rw [eI10229, pp_ne _ _ (Or.inr (by decide))]; exact e10205
            have e10235 : I10229 (ad g 50) 3 = v10103 := by rw [eI10229, pp_ne _ _ (Or.inr (by decide))]; exact e10206
            have e10236 : I10229 (ad g 50) 4 = v10117 := by rw [eI10229, pp_ne _ _ (Or.inr (by decide))]; exact e10207
            have e10237 : I10229 (ad g 50) 5 = v10083 := by rw [eI10229, pp_ne _ _ (Or.inr (by decide))]; exact e10208
            have e10238 : I10229 (ad g 50) 6 = v10141 := by rw [eI10229, pp_ne _ _ (Or.inr (by decide))]; exact e10209
            have e10239 : I10229 (ad g 50) 7 = v10199 := by rw [eI10229, pp_ne _ _ (Or.inr (by decide))]; exact e10210
            have e10240 : I10229 (ad g 50) 8 = v10228 := by rw [eI10229, pp_self]
            have fr10241 : fz 74 g [50] I I10229 := by rw [eI10229]; exact fzx_pp hy fr10211 (by decide) (by decide)
            clear eI10229
            exact WP_vret dX6_load_215 rfl ⟨⟨hI10229, rfl, fr10241, rfl, (by
                  have yill : I (ad g (6 + 5)) so.toInt.toNat >>> (nI da.toInt.toNat &&& 31) &&& 1 = v10074 := by rw [show I (ad g (6 + 5)) so.toInt.toNat = v10071 from yv10071, show nI da.toInt.toNat = da from (eq32 _ _).mpr (by rw [nI_toInt (by omega)]; omega), xv10074, xv10072, (eq32 v10073 1).mpr hv10073]
                  have yst : I (ad g 6) 4 = v10070 := est
                  unfold LD
                  simp only [e10232, e10233, e10234, e10235, e10236, e10237, e10238, e10239, yill, yst, show I (ad g (6 + 7)) _ = _ from yv10077, show I (ad g (6 + 8)) _ = _ from yv10083, show I (ad g (6 + 9)) _ = _ from yv10090, yv10103, yv10117, true_and, and_true]
                  omega)⟩, rfl⟩
      · refine WQ_iconst (0) (0) dX6_load_115 rfl rfl (fun v10242 hv10242 => ?_)
        refine WP_goto 131 dX6_load_116 rfl ?_
        refine WQ_puti dX6_load_131 fX6_51 rfl rfl (lyx_is hy 50 6 rfl) (fun I10243 eI10243 => ?_)
        have hI10243 : XI g n L I10243 := by rw [eI10243]; exact (xi_f hy hI10104 (c := 50) (0) (0) (20) (by decide) (Or.inl (by decide)) (by decide) (by omega) (by omega))
        have e10244 : I10243 (ad g 1) 1 = L := by rw [eI10243, pp_ne _ _ (Or.inl (lyx_ne hy (by decide) (by decide) (by decide)))]; exact e10105
        have e10245 : I10243 (ad g 6) 4 = v10070 := by rw [eI10243, pp_ne _ _ (Or.inl (lyx_ne hy (by decide) (by decide) (by decide)))]; exact e10106
        have e10246 : I10243 (ad g 50) 0 = v10077 := by rw [eI10243, pp_ne _ _ (Or.inr (by decide))]; exact e10107
        have e10247 : I10243 (ad g 50) 1 = v10083 := by rw [eI10243, pp_ne _ _ (Or.inr (by decide))]; exact e10108
        have e10248 : I10243 (ad g 50) 2 = v10090 := by rw [eI10243, pp_ne _ _ (Or.inr (by decide))]; exact e10109
        have e10249 : I10243 (ad g 50) 3 = v10103 := by rw [eI10243, pp_ne _ _ (Or.inr (by decide))]; exact e10110
        have e10250 : I10243 (ad g 50) 4 = v10242 := by rw [eI10243, pp_self]
        have fr10251 : fz 74 g [50] I I10243 := by rw [eI10243]; exact fzx_pp hy fr10111 (by decide) (by decide)
        clear eI10243
        refine WP_aload_n dX6_load_134 rfl ?_
        refine WP_iload dX6_load_135 rfl ?_
        refine WQ_if_eq 144 dX6_load_137 rfl (fun c10251 => ?_) (fun c10251 => False.elim (by omega))
        refine WP_aload_n dX6_load_144 rfl ?_
        refine WQ_getim dX6_load_145 fX6_36 rfl (lyx_is hy 50 6 rfl) e10247 ?_
        refine WQ_puti dX6_load_148 fX6_54 rfl rfl (lyx_is hy 50 6 rfl) (fun I10253 eI10253 => ?_)
        have hI10253 : XI g n L I10253 := by rw [eI10253]; exact (xi_f hy hI10243 (c := 50) (0) (0) (3) (by decide) (Or.inl (by decide)) (by decide) (by omega) (by omega))
        have e10254 : I10253 (ad g 1) 1 = L := by rw [eI10253, pp_ne _ _ (Or.inl (lyx_ne hy (by decide) (by decide) (by decide)))]; exact e10244
        have e10255 : I10253 (ad g 6) 4 = v10070 := by rw [eI10253, pp_ne _ _ (Or.inl (lyx_ne hy (by decide) (by decide) (by decide)))]; exact e10245
        have e10256 : I10253 (ad g 50) 0 = v10077 := by rw [eI10253, pp_ne _ _ (Or.inr (by decide))]; exact e10246
        have e10257 : I10253 (ad g 50) 1 = v10083 := by rw [eI10253, pp_ne _ _ (Or.inr (by decide))]; exact e10247
        have e10258 : I10253 (ad g 50) 2 = v10090 := by rw [eI10253, pp_ne _ _ (Or.inr (by decide))]; exact e10248
        have e10259 : I10253 (ad g 50) 3 = v10103 := by rw [eI10253, pp_ne _ _ (Or.inr (by decide))]; exact e10249
        have e10260 : I10253 (ad g 50) 4 = v10242 := by rw [eI10253, pp_ne _ _ (Or.inr (by decide))]; exact e10250
        have e10261 : I10253 (ad g 50) 5 = v10083 := by rw [eI10253, pp_self]
        have fr10262 : fz 74 g [50] I I10253 := by rw [eI10253]; exact fzx_pp hy fr10251 (by decide) (by decide)
        clear eI10253
        refine WP_aload_n dX6_load_151 rfl ?_
        refine WP_iload dX6_load_152 rfl ?_
        refine WQ_if_ne 163 dX6_load_154 rfl (fun c10262 => False.elim (by omega)) (fun c10262 => ?_)
        refine WP_iload dX6_load_157 rfl ?_
        refine WQ_iconst (-1) (-1) dX6_load_159 rfl rfl (fun v10264 hv10264 => ?_)
        refine WQ_icmp_ne 167 dX6_load_160 rfl (fun c10264 => False.elim (by omega)) (fun c10264 => ?_)
        refine WQ_iconst (0) (0) dX6_load_163 rfl rfl (fun v10266 hv10266 => ?_)
        refine WP_goto 168 dX6_load_164 rfl ?_
        refine WQ_puti dX6_load_168 fX6_57 rfl rfl (lyx_is hy 50 6 rfl) (fun I10267 eI10267 => ?_)
        have hI10267 : XI g n L I10267 := by rw [eI10267]; exact (xi_f hy hI10253 (c := 50) (0) (0) (2) (by decide) (Or.inl (by decide)) (by decide) (by omega) (by omega))
        have e10268 : I10267 (ad g 1) 1 = L := by rw [eI10267, pp_ne _ _ (Or.inl (lyx_ne hy (by decide) (by decide) (by decide)))]; exact e10254
        have e10269 : I10267 (ad g 6) 4 = v10070 := by rw [eI10267, pp_ne _ _ (Or.inl (lyx_ne hy (by decide) (by decide) (by decide)))]; exact e10255
        have e10270 : I10267 (ad g 50) 0 = v10077 := by rw [eI10267, pp_ne _ _ (Or.inr (by decide))]; exact e10256
        have e10271 : I10267 (ad g 50) 1 = v10083 := by rw [eI10267, pp_ne _ _ (Or.inr (by decide))]; exact e10257
        have e10272 : I10267 (ad g 50) 2 = v10090 := by rw [eI10267, pp_ne _ _ (Or.inr (by decide))]; exact e10258
        have e10273 : I10267 (ad g 50) 3 = v10103 := by rw [eI10267, pp_ne _ _ (Or.inr (by decide))]; exact e10259
        have e10274 : I10267 (ad g 50) 4 = v10242 := by rw [eI10267, pp_ne _ _ (Or.inr (by decide))]; exact e10260
        have e10275 : I10267 (ad g 50) 5 = v10083 := by rw [eI10267, pp_ne _ _ (Or.inr (by decide))]; exact e10261
        have e10276 : I10267 (ad g 50) 6 = v10266 := by rw [eI10267, pp_self]
        have fr10277 : fz 74 g [50] I I10267 := by rw [eI10267]; exact fzx_pp hy fr10262 (by decide) (by decide)
        clear eI10267
        refine WP_aload_n dX6_load_171 rfl ?_
        refine WP_aload_n dX6_load_172 rfl ?_
        refine WQ_getim dX6_load_173 fX6_9 rfl (lyx_is hy 50 6 rfl) e10270 ?_
        refine WQ_iconst (-1) (-1) dX6_load_176 rfl rfl (fun v10278 hv10278 => ?_)
        refine WQ_icmp_eq 193 dX6_load_177 rfl (fun c10278 => False.elim (by omega)) (fun c10278 => ?_)
        refine WP_aload_n dX6_load_180 rfl ?_
        refine WQ_getim dX6_load_181 fX6_9 rfl (lyx_is hy 50 6 rfl) e10270 ?_
        refine WP_iload dX6_load_184 rfl ?_
        refine WQ_icmp_ne 193 dX6_load_186 rfl (fun c10279 => ?_) (fun c10279 => False.elim (by omega))
        refine WQ_iconst (0) (0) dX6_load_193 rfl rfl (fun v10281 hv10281 => ?_)
        refine WQ_putz dX6_load_194 fX6_60 rfl rfl (by omega) (lyx_is hy 50 6 rfl) (fun I10282 eI10282 => ?_)
        have hI10282 : XI g n L I10282 := by rw [eI10282]; exact (xi_f hy hI10267 (c := 50) (0) (0) (1) (by decide) (Or.inl (by decide)) (by decide) (by omega) (by omega))
        have e10283 : I10282 (ad g 1) 1 = L := by rw [eI10282, pp_ne _ _ (Or.inl (lyx_ne hy (by decide) (by decide) (by decide)))]; exact e10268
        have e10284 : I10282 (ad g 6) 4 = v10070 := by rw [eI10282, pp_ne _ _ (Or.inl (lyx_ne hy (by decide) (by decide) (by decide)))]; exact e10269
        have e10285 : I10282 (ad g 50) 0 = v10077 := by rw [eI10282, pp_ne _ _ (Or.inr (by decide))]; exact e10270
        have e10286 : I10282 (ad g 50) 1 = v10083 := by rw [eI10282, pp_ne _ _ (Or.inr (by decide))]; exact e10271
        have e10287 : I10282 (ad g 50) 2 = v10090 := by rw [eI10282, pp_ne _ _ (Or.inr (by decide))]; exact e10272
        have e10288 : I10282 (ad g 50) 3 = v10103 := by rw [eI10282, pp_ne _ _ (Or.inr (by decide))]; exact e10273
        have e10289 : I10282 (ad g 50) 4 = v10242 := by rw [eI10282, pp_ne _ _ (Or.inr (by decide))]; exact e10274
        have e10290 : I10282 (ad g 50) 5 = v10083 := by rw [eI10282, pp_ne _ _ (Or.inr (by decide))]; exact e10275
        have e10291 : I10282 (ad g 50) 6 = v10266 := by rw [eI10282, pp_ne _ _ (Or.inr (by decide))]; exact e10276
        have e10292 : I10282 (ad g 50) 7 = v10281 := by rw [eI10282, pp_self]
        have fr10293 : fz 74 g [50] I I10282 := by rw [eI10282]; exact fzx_pp hy fr10277 (by decide) (by decide)
        clear eI10282
        refine WP_aload_n dX6_load_197 rfl ?_
        refine WP_aload_n dX6_load_198 rfl ?_
        refine WP_getr dX6_load_199 fX6_64 rfl (lyx_is hy 5 0 rfl) (rfx hr 5 2 23 (by decide)) ?_
        refine WP_iload_n dX6_load_202 rfl ?_
        refine WQ_iald dX6_load_203 (lyx_is hy 23 13 rfl) (lyx_n hy 23 7 rfl) (by omega) (by omega) (fun q hq => BT_get hI10282.1 23 0 7 (0) (0) (900) (by decide) q (Nat.zero_le _) hq) (fun v10294 av10294 bv10294 ev10294 => ?_)
        clear ev10294
        refine WQ_if_le 211 dX6_load_204 rfl (fun c10294 => ?_) (fun c10294 => ?_)
        · refine WQ_iconst (0) (0) dX6_load_211 rfl rfl (fun v10296 hv10296 => ?_)
          refine WQ_putz dX6_load_212 fX6_67 rfl rfl (by omega) (lyx_is hy 50 6 rfl) (fun I10297 eI10297 => ?_)
          have hI10297 : XI g n L I10297 := by rw [eI10297]; exact (xi_f hy hI10282 (c := 50) (0) (0) (1) (by decide) (Or.inl (by decide)) (by decide) (by omega) (by omega))
          have e10298 : I10297 (ad g 1) 1 = L := by rw [eI10297, pp_ne _ _ (Or.inl (lyx_ne hy (by decide) (by decide) (by decide)))]; exact e10283
          have e10299 : I10297 (ad g 6) 4 = v10070 := by rw [eI10297, pp_ne _ _ (Or.inl (lyx_ne hy (by decide) (by decide) (by decide)))]; exact e10284
          have e10300 : I10297 (ad g 50) 0 = v10077 := by rw [eI10297, pp_ne _ _ (Or.inr (by decide))]; exact e10285
          have e10301 : I10297 (ad g 50) 1 = v10083 := by rw [eI10297, pp_ne _ _ (Or.inr (by decide))]; exact e10286
          have e10302 : I10297 (ad g 50) 2 = v10090 := by rw [eI10297, pp_ne _ _ (Or.inr (by decide))]; exact e10287
          have e10303 : I10297 (ad g 50) 3 = v10103 := by rw [eI10297, pp_ne _ _ (Or.inr (by decide))]; exact e10288
          have e10304 : I10297 (ad g 50) 4 = v10242 := by rw [eI10297, pp_ne _ _ (Or.inr (by decide))]; exact e10289
          have e10305 : I10297 (ad g 50) 5 = v10083 := by rw [eI10297, pp_ne _ _ (Or.inr (by decide))]; exact e10290
          have e10306 : I10297 (ad g 50) 6 = v10266 := by rw [eI10297, pp_ne _ _ (Or.inr (by decide))]; exact e10291
          have e10307 : I10297 (ad g 50) 7 = v10281 := by rw [eI10297, pp_ne _ _ (Or.inr (by decide))]; exact e10292
          have e10308 : I10297 (ad g 50) 8 = v10296 := by rw [eI10297, pp_self]
          have fr10309 : fz 74 g [50] I I10297 := by rw [eI10297]; exact fzx_pp hy fr10293 (by decide) (by decide)
          clear eI10297
          exact WP_vret dX6_load_215 rfl ⟨⟨hI10297, rfl, fr10309, rfl, (by
                have yill : I (ad g (6 + 5)) so.toInt.toNat >>> (nI da.toInt.toNat &&& 31) &&& 1 = v10074 := by rw [show I (ad g (6 + 5)) so.toInt.toNat = v10071 from yv10071, show nI da.toInt.toNat = da from (eq32 _ _).mpr (by rw [nI_toInt (by omega)]; omega), xv10074, xv10072, (eq32 v10073 1).mpr hv10073]
                have yst : I (ad g 6) 4 = v10070 := est
                unfold LD
                simp only [e10300, e10301, e10302, e10303, e10304, e10305, e10306, e10307, yill, yst, show I (ad g (6 + 7)) _ = _ from yv10077, show I (ad g (6 + 8)) _ = _ from yv10083, show I (ad g (6 + 9)) _ = _ from yv10090, yv10103, true_and, and_true]
                omega)⟩, rfl⟩
        · refine WQ_iconst (1) (1) dX6_load_207 rfl rfl (fun v10310 hv10310 => ?_)
          refine WP_goto 212 dX6_load_208 rfl ?_
          refine WQ_putz dX6_load_212 fX6_67 rfl rfl (by omega) (lyx_is hy 50 6 rfl) (fun I10311 eI10311 => ?_)
          have hI10311 : XI g n L I10311 := by rw [eI10311]; exact (xi_f hy hI10282 (c := 50) (0) (0) (1) (by decide) (Or.inl (by decide)) (by decide) (by omega) (by omega))
          have e10312 : I10311 (ad g 1) 1 = L := by rw [eI10311, pp_ne _ _ (Or.inl (lyx_ne hy (by decide) (by decide) (by decide)))]; exact e10283
          have e10313 : I10311 (ad g 6) 4 = v10070 := by rw [eI10311, pp_ne _ _ (Or.inl (lyx_ne hy (by decide) (by decide) (by decide)))]; exact e10284
          have e10314 : I10311 (ad g 50) 0 = v10077 := by rw [eI10311, pp_ne _ _ (Or.inr (by decide))]; exact e10285
          have e10315 : I10311 (ad g 50) 1 = v10083 := by rw [eI10311, pp_ne _ _ (Or.inr (by decide))]; exact e10286
          have e10316 : I10311 (ad g 50) 2 = v10090 := by rw [eI10311, pp_ne _ _ (Or.inr (by decide))]; exact e10287
          have e10317 : I10311 (ad g 50) 3 = v10103 := by rw [eI10311, pp_ne _ _ (Or.inr (by decide))]; exact e10288
          have e10318 : I10311 (ad g 50) 4 = v10242 := by rw [eI10311, pp_ne _ _ (Or.inr (by decide))]; exact e10289
          have e10319 : I10311 (ad g 50) 5 = v10083 := by rw [eI10311, pp_ne _ _ (Or.inr (by decide))]; exact e10290
          have e10320 : I10311 (ad g 50) 6 = v10266 := by rw [eI10311, pp_ne _ _ (Or.inr (by decide))]; exact e10291
          have e10321 : I10311 (ad g 50) 7 = v10281 := by rw [eI10311, pp_ne _ _ (Or.inr (by decide))]; exact e10292
          have e10322 : I10311 (ad g 50) 8 = v10310 := by rw [eI10311, pp_self]
          have fr10323 : fz 74 g [50] I I10311 := by rw [eI10311]; exact fzx_pp hy fr10293 (by decide) (by decide)
          clear eI10311
          exact WP_vret dX6_load_215 rfl ⟨⟨hI10311, rfl, fr10323, rfl, (by
                have yill : I (ad g (6 + 5)) so.toInt.toNat >>> (nI da.toInt.toNat &&& 31) &&& 1 = v10074 := by rw [show I (ad g (6 + 5)) so.toInt.toNat = v10071 from yv10071, show nI da.toInt.toNat = da from (eq32 _ _).mpr (by rw [nI_toInt (by omega)]; omega), xv10074, xv10072, (eq32 v10073 1).mpr hv10073]
                have yst : I (ad g 6) 4 = v10070 := est
                unfold LD
                simp only [e10314, e10315, e10316, e10317, e10318, e10319, e10320, e10321, yill, yst, show I (ad g (6 + 7)) _ = _ from yv10077, show I (ad g (6 + 8)) _ = _ from yv10083, show I (ad g (6 + 9)) _ = _ from yv10090, yv10103, true_and, and_true]
                omega)⟩, rfl⟩
    · refine WQ_iconst (0) (0) dX6_load_87 rfl rfl (fun v10324 hv10324 => ?_)
      refine WP_goto 105 dX6_load_88 rfl ?_
      refine WQ_puti dX6_load_105 fX6_48 rfl rfl (lyx_is hy 50 6 rfl) (fun I10325 eI10325 => ?_)
      have hI10325 : XI g n L I10325 := by rw [eI10325]; exact (xi_f hy hI10091 (c := 50) (0) (0) (20) (by decide) (Or.inl (by decide)) (by decide) (by omega) (by omega))
      have e10326 : I10325 (ad g 1) 1 = L := by rw [eI10325, pp_ne _ _ (Or.inl (lyx_ne hy (by decide) (by decide) (by decide)))]; exact e10092
      have e10327 : I10325 (ad g 6) 4 = v10070 := by rw [eI10325, pp_ne _ _ (Or.inl (lyx_ne hy (by decide) (by decide) (by decide)))]; exact e10093
      have e10328 : I10325 (ad g 50) 0 = v10077 := by rw [eI10325, pp_ne _ _ (Or.inr (by decide))]; exact e10094
      have e10329 : I10325 (ad g 50) 1 = v10083 := by rw [eI10325, pp_ne _ _ (Or.inr (by decide))]; exact e10095
      have e10330 : I10325 (ad g 50) 2 = v10090 := by rw [eI10325, pp_ne _ _ (Or.inr (by decide))]; exact e10096
      have e10331 : I10325 (ad g 50) 3 = v10324 := by rw [eI10325, pp_self]
      have fr10332 : fz 74 g [50] I I10325 := by rw [eI10325]; exact fzx_pp hy fr10097 (by decide) (by decide)
      clear eI10325
      refine WP_aload_n dX6_load_108 rfl ?_
      refine WP_iload dX6_load_109 rfl ?_
      refine WQ_iconst (-1) (-1) dX6_load_111 rfl rfl (fun v10333 hv10333 => ?_)
      refine WQ_icmp_ne 119 dX6_load_112 rfl (fun c10333 => ?_) (fun c10333 => ?_)
      · refine WP_aload_n dX6_load_119 rfl ?_
        refine WP_getr dX6_load_120 fX6_45 rfl (lyx_is hy 5 0 rfl) (rfx hr 5 1 22 (by decide)) ?_
        refine WP_iload dX6_load_123 rfl ?_
        refine WQ_bipush (7) (7) dX6_load_125 rfl rfl (fun v10335 hv10335 => ?_)
        refine WQ_imulk (7) dX6_load_127 hv10335 (by omega) (by omega) (fun v10336 hv10336 => ?_)
        refine WP_iload_n dX6_load_128 rfl ?_
        refine WQ_iadd dX6_load_129 (by omega) (by omega) (fun v10337 hv10337 => ?_)
        refine WQ_ialdb dX6_load_130 (lyx_is hy 22 13 rfl) (lyx_n hy 22 21 rfl) (by omega) (by omega) (fun q hq => BT_get hI10325.1 22 0 21 (0) (0) (20) (by decide) q (Nat.zero_le _) hq) (fun v10338 av10338 bv10338 zv10338 => ?_)
        have yv10338 : I (ad g 22) (7 * v10070.toInt + da.toInt).toNat = v10338 := by rw [← fz_at fr10332 22 (by decide) (by decide), show (7 * v10070.toInt + da.toInt).toNat = v10337.toInt.toNat by omega]; exact zv10338
        refine WQ_puti dX6_load_131 fX6_51 rfl rfl (lyx_is hy 50 6 rfl) (fun I10339 eI10339 => ?_)
        have hI10339 : XI g n L I10339 := by rw [eI10339]; exact (xi_f hy hI10325 (c := 50) (0) (0) (20) (by decide) (Or.inl (by decide)) (by decide) (by omega) (by omega))
        have e10340 : I10339 (ad g 1) 1 = L := by rw [eI10339, pp_ne _ _ (Or.inl (lyx_ne hy (by decide) (by decide) (by decide)))]; exact e10326
        have e10341 : I10339 (ad g 6) 4 = v10070 := by rw [eI10339, pp_ne _ _ (Or.inl (lyx_ne hy (by decide) (by decide) (by decide)))]; exact e10327
        have e10342 : I10339 (ad g 50) 0 = v10077 := by rw [eI10339, pp_ne _ _ (Or.inr (by decide))]; exact e10328
        have e10343 : I10339 (ad g 50) 1 = v10083 := by rw [eI10339, pp_ne _ _ (Or.inr (by decide))]; exact e10329
        have e10344 : I10339 (ad g 50) 2 = v10090 := by rw [eI10339, pp_ne _ _ (Or.inr (by decide))]; exact e10330
        have e10345 : I10339 (ad g 50) 3 = v10324 := by rw [eI10339, pp_ne _ _ (Or.inr (by decide))]; exact e10331
        have e10346 : I10339 (ad g 50) 4 = v10338 := by rw [eI10339, pp_self]
        have fr10347 : fz 74 g [50] I I10339 := by rw [eI10339]; exact fzx_pp hy fr10332 (by decide) (by decide)
        clear eI10339
        refine WP_aload_n dX6_load_134 rfl ?_
        refine WP_iload dX6_load_135 rfl ?_
        refine WQ_if_eq 144 dX6_load_137 rfl (fun c10347 => ?_) (fun c10347 => False.elim (by omega))
        refine WP_aload_n dX6_load_144 rfl ?_
        refine WQ_getim dX6_load_145 fX6_36 rfl (lyx_is hy 50 6 rfl) e10343 ?_
        refine WQ_puti dX6_load_148 fX6_54 rfl rfl (lyx_is hy 50 6 rfl) (fun I10349 eI10349 => ?_)
        have hI10349 : XI g n L I10349 := by rw [eI10349]; exact (xi_f hy hI10339 (c := 50) (0) (0) (3) (by decide) (Or.inl (by decide)) (by decide) (by omega) (by omega))
        have e10350 : I10349 (ad g 1) 1 = L := by rw [eI10349, pp_ne _ _ (Or.inl (lyx_ne hy (by decide) (by decide) (by decide)))]; exact e10340
        have e10351 : I10349 (ad g 6) 4 = v10070 := by rw [eI10349, pp_ne _ _ (Or.inl (lyx_ne hy (by decide) (by decide) (by decide)))]; exact e10341
        have e10352 : I10349 (ad g 50) 0 = v10077 := by rw [eI10349, pp_ne _ _ (Or.inr (by decide))]; exact e10342
        have e10353 : I10349 (ad g 50) 1 = v10083 := by rw [eI10349, pp_ne _ _ (Or.inr (by decide))]; exact e10343
        have e10354 : I10349 (ad g 50) 2 = v10090 := by rw [eI10349, pp_ne _ _ (Or.inr (by decide))]; exact e10344
        have e10355 : I10349 (ad g 50) 3 = v10324 := by rw [eI10349, pp_ne _ _ (Or.inr (by decide))]; exact e10345
        have e10356 : I10349 (ad g 50) 4 = v10338 := by rw [eI10349, pp_ne _ _ (Or.inr (by decide))]; exact e10346
        have e10357 : I10349 (ad g 50) 5 = v10083 := by rw [eI10349, pp_self]
        have fr10358 : fz 74 g [50] I I10349 := by rw [eI10349]; exact fzx_pp hy fr10347 (by decide) (by decide)
        clear eI10349
        refine WP_aload_n dX6_load_151 rfl ?_
        refine WP_iload dX6_load_152 rfl ?_
        refine WQ_if_ne 163 dX6_load_154 rfl (fun c10358 => False.elim (by omega)) (fun c10358 => ?_)
        refine WP_iload dX6_load_157 rfl ?_
        refine WQ_iconst (-1) (-1) dX6_load_159 rfl rfl (fun v10360 hv10360 => ?_)
        refine WQ_icmp_ne 167 dX6_load_160 rfl (fun c10360 => ?_) (fun c10360 => False.elim (by omega))
        refine WQ_iconst (2) (2) dX6_load_167 rfl rfl (fun v10362 hv10362 => ?_)
        refine WQ_puti dX6_load_168 fX6_57 rfl rfl (lyx_is hy 50 6 rfl) (fun I10363 eI10363 => ?_)
        have hI10363 : XI g n L I10363 := by rw [eI10363]; exact (xi_f hy hI10349 (c := 50) (0) (0) (2) (by decide) (Or.inl (by decide)) (by decide) (by omega) (by omega))
        have e10364 : I10363 (ad g 1) 1 = L := by rw [eI10363, pp_ne _ _ (Or.inl (lyx_ne hy (by decide) (by decide) (by decide)))]; exact e10350
        have e10365 : I10363 (ad g 6) 4 = v10070 := by rw [eI10363, pp_ne _ _ (Or.inl (lyx_ne hy (by decide) (by decide) (by decide)))]; exact e10351
        have e10366 : I10363 (ad g 50) 0 = v10077 := by rw [eI10363, pp_ne _ _ (Or.inr (by decide))]; exact e10352
        have e10367 : I10363 (ad g 50) 1 = v10083 := by rw [eI10363, pp_ne _ _ (Or.inr (by decide))]; exact e10353
        have e10368 : I10363 (ad g 50) 2 = v10090 := by rw [eI10363, pp_ne _ _ (Or.inr (by decide))]; exact e10354
        have e10369 : I10363 (ad g 50) 3 = v10324 := by rw [eI10363, pp_ne _ _ (Or.inr (by decide))]; exact e10355
        have e10370 : I10363 (ad g 50) 4 = v10338 := by rw [eI10363, pp_ne _ _ (Or.inr (by decide))]; exact e10356
        have e10371 : I10363 (ad g 50) 5 = v10083 := by rw [eI10363, pp_ne _ _ (Or.inr (by decide))]; exact e10357
        have e10372 : I10363 (ad g 50) 6 = v10362 := by rw [eI10363, pp_self]
        have fr10373 : fz 74 g [50] I I10363 := by rw [eI10363]; exact fzx_pp hy fr10358 (by decide) (by decide)
        clear eI10363
        refine WP_aload_n dX6_load_171 rfl ?_
        refine WP_aload_n dX6_load_172 rfl ?_
        refine WQ_getim dX6_load_173 fX6_9 rfl (lyx_is hy 50 6 rfl) e10366 ?_
        refine WQ_iconst (-1) (-1) dX6_load_176 rfl rfl (fun v10374 hv10374 => ?_)
        refine WQ_icmp_eq 193 dX6_load_177 rfl (fun c10374 => ?_) (fun c10374 => False.elim (by omega))
        refine WQ_iconst (0) (0) dX6_load_193 rfl rfl (fun v10376 hv10376 => ?_)
        refine WQ_putz dX6_load_194 fX6_60 rfl rfl (by omega) (lyx_is hy 50 6 rfl) (fun I10377 eI10377 => ?_)
        have hI10377 : XI g n L I10377 := by rw [eI10377]; exact (xi_f hy hI10363 (c := 50) (0) (0) (1) (by decide) (Or.inl (by decide)) (by decide) (by omega) (by omega))
        have e10378 : I10377 (ad g 1) 1 = L := by rw [eI10377, pp_ne _ _ (Or.inl (lyx_ne hy (by decide) (by decide) (by decide)))]; exact e10364
        have e10379 : I10377 (ad g 6) 4 = v10070 := by rw [eI10377, pp_ne _ _ (Or.inl (lyx_ne hy (by decide) (by decide) (by decide)))]; exact e10365
        have e10380 : I10377 (ad g 50) 0 = v10077 := by rw [eI10377, pp_ne _ _ (Or.inr (by decide))]; exact e10366
        have e10381 : I10377 (ad g 50) 1 = v10083 := by rw [eI10377, pp_ne _ _ (Or.inr (by decide))]; exact e10367
        have e10382 : I10377 (ad g 50) 2 = v10090 := by rw [eI10377, pp_ne _ _ (Or.inr (by decide))]; exact e10368
        have e10383 : I10377 (ad g 50) 3 = v10324 := by rw [eI10377, pp_ne _ _ (Or.inr (by decide))]; exact e10369
        have e10384 : I10377 (ad g 50) 4 = v10338 := by rw [eI10377, pp_ne _ _ (Or.inr (by decide))]; exact e10370
        have e10385 : I10377 (ad g 50) 5 = v10083 := by rw [eI10377, pp_ne _ _ (Or.inr (by decide))]; exact e10371
        have e10386 : I10377 (ad g 50) 6 = v10362 := by rw [eI10377, pp_ne _ _ (Or.inr (by decide))]; exact e10372
        have e10387 : I10377 (ad g 50) 7 = v10376 := by rw [eI10377, pp_self]
        have fr10388 : fz 74 g [50] I I10377 := by rw [eI10377]; exact fzx_pp hy fr10373 (by decide) (by decide)
        clear eI10377
        refine WP_aload_n dX6_load_197 rfl ?_
        refine WP_aload_n dX6_load_198 rfl ?_
        refine WP_getr dX6_load_199 fX6_64 rfl (lyx_is hy 5 0 rfl) (rfx hr 5 2 23 (by decide)) ?_
        refine WP_iload_n dX6_load_202 rfl ?_
        refine WQ_iald dX6_load_203 (lyx_is hy 23 13 rfl) (lyx_n hy 23 7 rfl) (by omega) (by omega) (fun q hq => BT_get hI10377.1 23 0 7 (0) (0) (900) (by decide) q (Nat.zero_le _) hq) (fun v10389 av10389 bv10389 ev10389 => ?_)
        clear ev10389
        refine WQ_if_le 211 dX6_load_204 rfl (fun c10389 => ?_) (fun c10389 => ?_)
        · refine WQ_iconst (0) (0) dX6_load_211 rfl rfl (fun v10391 hv10391 => ?_)
          refine WQ_putz dX6_load_212 fX6_67 rfl rfl (by omega) (lyx_is hy 50 6 rfl) (fun I10392 eI10392 => ?_)
          have hI10392 : XI g n L I10392 := by rw [eI10392]; exact (xi_f hy hI10377 (c := 50) (0) (0) (1) (by decide) (Or.inl (by decide)) (by decide) (by omega) (by omega))
          have e10393 : I10392 (ad g 1) 1 = L := by rw [eI10392, pp_ne _ _ (Or.inl (lyx_ne hy (by decide) (by decide) (by decide)))]; exact e10378
          have e10394 : I10392 (ad g 6) 4 = v10070 := by rw [eI10392, pp_ne _ _ (Or.inl (lyx_ne hy (by decide) (by decide) (by decide)))]; exact e10379
          have e10395 : I10392 (ad g 50) 0 = v10077 := by rw [eI10392, pp_ne _ _ (Or.inr (by decide))]; exact e10380
          have e10396 : I10392 (ad g 50) 1 = v10083 := by rw [eI10392, pp_ne _ _ (Or.inr (by decide))]; exact e10381
          have e10397 : I10392 (ad g 50) 2 = v10090 := by rw [eI10392, pp_ne _ _ (Or.inr (by decide))]; exact e10382
          have e10398 : I10392 (ad g 50) 3 = v10324 := by rw [eI10392, pp_ne _ _ (Or.inr (by decide))]; exact e10383
          have e10399 : I10392 (ad g 50) 4 = v10338 := by rw [eI10392, pp_ne _ _ (Or.inr (by decide))]; exact e10384
          have e10400 : I10392 (ad g 50) 5 = v10083 := by rw [eI10392, pp_ne _ _ (Or.inr (by decide))]; exact e10385
          have e10401 : I10392 (ad g 50) 6 = v10362 := by rw [eI10392, pp_ne _ _ (Or.inr (by decide))]; exact e10386
          have e10402 : I10392 (ad g 50) 7 = v10376 := by rw [eI10392, pp_ne _ _ (Or.inr (by decide))]; exact e10387
          have e10403 : I10392 (ad g 50) 8 = v10391 := by rw [eI10392, pp_self]
          have fr10404 : fz 74 g [50] I I10392 := by rw [eI10392]; exact fzx_pp hy fr10388 (by decide) (by decide)
          clear eI10392
          exact WP_vret dX6_load_215 rfl ⟨⟨hI10392, rfl, fr10404, rfl, (by
                have yill : I (ad g (6 + 5)) so.toInt.toNat >>> (nI da.toInt.toNat &&& 31) &&& 1 = v10074 := by rw [show I (ad g (6 + 5)) so.toInt.toNat = v10071 from yv10071, show nI da.toInt.toNat = da from (eq32 _ _).mpr (by rw [nI_toInt (by omega)]; omega), xv10074, xv10072, (eq32 v10073 1).mpr hv10073]
                have yst : I (ad g 6) 4 = v10070 := est
                unfold LD
                simp only [e10395, e10396, e10397, e10398, e10399, e10400, e10401, e10402, yill, yst, show I (ad g (6 + 7)) _ = _ from yv10077, show I (ad g (6 + 8)) _ = _ from yv10083, show I (ad g (6 + 9)) _ = _ from yv10090, yv10338, true_and, and_true]
                omega)⟩, rfl⟩
        · refine WQ_iconst (1) (1) dX6_load_207 rfl rfl (fun v10405 hv10405 => ?_)
          refine WP_goto 212 dX6_load_208 rfl ?_
          refine WQ_putz dX6_load_212 fX6_67 rfl rfl (by omega) (lyx_is hy 50 6 rfl) (fun I10406 eI10406 => ?_)
          have hI10406 : XI g n L I10406 := by rw [eI10406]; exact (xi_f hy hI10377 (c := 50) (0) (0) (1) (by decide) (Or.inl (by decide)) (by decide) (by omega) (by omega))
          have e10407 : I10406 (ad g 1) 1 = L := by rw [eI10406, pp_ne _ _ (Or.inl (lyx_ne hy (by decide) (by decide) (by decide)))]; exact e10378
          have e10408 : I10406 (ad g 6) 4 = v10070 := by rw [eI10406, pp_ne _ _ (Or.inl (lyx_ne hy (by decide) (by decide) (by decide)))]; exact e10379
          have e10409 : I10406 (ad g 50) 0 = v10077 := by rw [eI10406, pp_ne _ _ (Or.inr (by decide))]; exact e10380
          have e10410 : I10406 (ad g 50) 1 = v10083 := by rw [eI10406, pp_ne _ _ (Or.inr (by decide))]; exact e10381
          have e10411 : I10406 (ad g 50) 2 = v10090 := by rw [eI10406, pp_ne _ _ (Or.inr (by decide))]; exact e10382
          have e10412 : I10406 (ad g 50) 3 = v10324 := by rw [eI10406, pp_ne _ _ (Or.inr (by decide))]; exact e10383
          have e10413 : I10406 (ad g 50) 4 = v10338 := by rw [eI10406, pp_ne _ _ (Or.inr (by decide))]; exact e10384
          have e10414 : I10406 (ad g 50) 5 = v10083 := by rw [eI10406, pp_ne _ _ (Or.inr (by decide))]; exact e10385
          have e10415 : I10406 (ad g 50) 6 = v10362 := by rw [eI10406, pp_ne _ _ (Or.inr (by decide))]; exact e10386
          have e10416 : I10406 (ad g 50) 7 = v10376 := by rw [eI10406, pp_ne _ _ (Or.inr (by decide))]; exact e10387
          have e10417 : I10406 (ad g 50) 8 = v10405 := by rw [eI10406, pp_self]
          have fr10418 : fz 74 g [50] I I10406 := by rw [eI10406]; exact fzx_pp hy fr10388 (by decide) (by decide)
          clear eI10406
          exact WP_vret dX6_load_215 rfl ⟨⟨hI10406, rfl, fr10418, rfl, (by
                have yill : I (ad g (6 + 5)) so.toInt.toNat >>> (nI da.toInt.toNat &&& 31) &&& 1 = v10074 := by rw [show I (ad g (6 + 5)) so.toInt.toNat = v10071 from yv10071, show nI da.toInt.toNat = da from (eq32 _ _).mpr (by rw [nI_toInt (by omega)]; omega), xv10074, xv10072, (eq32 v10073 1).mpr hv10073]
                have yst : I (ad g 6) 4 = v10070 := est
                unfold LD
                simp only [e10409, e10410, e10411, e10412, e10413, e10414, e10415, e10416, yill, yst, show I (ad g (6 + 7)) _ = _ from yv10077, show I (ad g (6 + 8)) _ = _ from yv10083, show I (ad g (6 + 9)) _ = _ from yv10090, yv10338, true_and, and_true]
                omega)⟩, rfl⟩
      · refine WQ_iconst (0) (0) dX6_load_115 rfl rfl (fun v10419 hv10419 => ?_)
        refine WP_goto 131 dX6_load_116 rfl ?_
        refine WQ_puti dX6_load_131 fX6_51 rfl rfl (lyx_is hy 50 6 rfl) (fun I10420 eI10420 => ?_)
        have hI10420 : XI g n L I10420 := by rw [eI10420]; exact (xi_f hy hI10325 (c := 50) (0) (0) (20) (by decide) (Or.inl (by decide)) (by decide) (by omega) (by omega))
        have e10421 : I10420 (ad g 1) 1 = L := by rw [eI10420, pp_ne _ _ (Or.inl (lyx_ne hy (by decide) (by decide) (by decide)))]; exact e10326
        have e10422 : I10420 (ad g 6) 4 = v10070 := by rw [eI10420, pp_ne _ _ (Or.inl (lyx_ne hy (by decide) (by decide) (by decide)))]; exact e10327
        have e10423 : I10420 (ad g 50) 0 = v10077 := by rw [eI10420, pp_ne _ _ (Or.inr (by decide))]; exact e10328
        have e10424 : I10420 (ad g 50) 1 = v10083 := by rw [eI10420, pp_ne _ _ (Or.inr (by decide))]; exact e10329
        have e10425 : I10420 (ad g 50) 2 = v10090 := by rw [eI10420, pp_ne _ _ (Or.inr (by decide))]; exact e10330
        have e10426 : I10420 (ad g 50) 3 = v10324 := by rw [eI10420, pp_ne _ _ (Or.inr (by decide))]; exact e10331
        have e10427 : I10420 (ad g 50) 4 = v10419 := by rw [eI10420, pp_self]
        have fr10428 : fz 74 g [50] I I10420 := by rw [eI10420]; exact fzx_pp hy fr10332 (by decide) (by decide)
        clear eI10420
        refine WP_aload_n dX6_load_134 rfl ?_
        refine WP_iload dX6_load_135 rfl ?_
        refine WQ_if_eq 144 dX6_load_137 rfl (fun c10428 => ?_) (fun c10428 => False.elim (by omega))
        refine WP_aload_n dX6_load_144 rfl ?_
        refine WQ_getim dX6_load_145 fX6_36 rfl (lyx_is hy 50 6 rfl) e10424 ?_
        refine WQ_puti dX6_load_148 fX6_54 rfl rfl (lyx_is hy 50 6 rfl) (fun I10430 eI10430 => ?_)
        have hI10430 : XI g n L I10430 := by rw [eI10430]; exact (xi_f hy hI10420 (c := 50) (0) (0) (3) (by decide) (Or.inl (by decide)) (by decide) (by omega) (by omega))
        have e10431 : I10430 (ad g 1) 1 = L := by rw [eI10430, pp_ne _ _ (Or.inl (lyx_ne hy (by decide) (by decide) (by decide)))]; exact e10421
        have e10432 : I10430 (ad g 6) 4 = v10070 := by rw [eI10430, pp_ne _ _ (Or.inl (lyx_ne hy (by decide) (by decide) (by decide)))]; exact e10422
        have e10433 : I10430 (ad g 50) 0 = v10077 := by rw [eI10430, pp_ne _ _ (Or.inr (by decide))]; exact e10423
        have e10434 : I10430 (ad g 50) 1 = v10083 := by rw [eI10430, pp_ne _ _ (Or.inr (by decide))]; exact e10424
        have e10435 : I10430 (ad g 50) 2 = v10090 := by rw [eI10430, pp_ne _ _ (Or.inr (by decide))]; exact e10425
        have e10436 : I10430 (ad g 50) 3 = v10324 := by rw [eI10430, pp_ne _ _ (Or.inr (by decide))]; exact e10426
        have e10437 : I10430 (ad g 50) 4 = v10419 := by rw [eI10430, pp_ne _ _ (Or.inr (by decide))]; exact e10427
        have e10438 : I10430 (ad g 50) 5 = v10083 := by rw [eI10430, pp_self]
        have fr10439 : fz 74 g [50] I I10430 := by rw [eI10430]; exact fzx_pp hy fr10428 (by decide) (by decide)
        clear eI10430
        refine WP_aload_n dX6_load_151 rfl ?_
        refine WP_iload dX6_load_152 rfl ?_
        refine WQ_if_ne 163 dX6_load_154 rfl (fun c10439 => False.elim (by omega)) (fun c10439 => ?_)
        refine WP_iload dX6_load_157 rfl ?_
        refine WQ_iconst (-1) (-1) dX6_load_159 rfl rfl (fun v10441 hv10441 => ?_)
        refine WQ_icmp_ne 167 dX6_load_160 rfl (fun c10441 => False.elim (by omega)) (fun c10441 => ?_)
        refine WQ_iconst (0) (0) dX6_load_163 rfl rfl (fun v10443 hv10443 => ?_)
        refine WP_goto 168 dX6_load_164 rfl ?_
        refine WQ_puti dX6_load_168 fX6_57 rfl rfl (lyx_is hy 50 6 rfl) (fun I10444 eI10444 => ?_)
        have hI10444 : XI g n L I10444 := by rw [eI10444]; exact (xi_f hy hI10430 (c := 50) (0) (0) (2) (by decide) (Or.inl (by decide)) (by decide) (by omega) (by omega))
        have e10445 : I10444 (ad g 1) 1 = L := by rw [eI10444, pp_ne _ _ (Or.inl (lyx_ne hy (by decide) (by decide) (by decide)))]; exact e10431
        have e10446 : I10444 (ad g 6) 4 = v10070 := by rw [eI10444, pp_ne _ _ (Or.inl (lyx_ne hy (by decide) (by decide) (by decide)))]; exact e10432
        have e10447 : I10444 (ad g 50) 0 = v10077 := by rw [eI10444, pp_ne _ _ (Or.inr (by decide))]; exact e10433
        have e10448 : I10444 (ad g 50) 1 = v10083 := by rw [eI10444, pp_ne _ _ (Or.inr (by decide))]; exact e10434
        have e10449 : I10444 (ad g 50) 2 = v10090 := by rw [eI10444, pp_ne _ _ (Or.inr (by decide))]; exact e10435
        have e10450 : I10444 (ad g 50) 3 = v10324 := by rw [eI10444, pp_ne _ _ (Or.inr (by decide))]; exact e10436
        have e10451 : I10444 (ad g 50) 4 = v10419 := by rw [eI10444, pp_ne _ _ (Or.inr (by decide))]; exact e10437
        have e10452 : I10444 (ad g 50) 5 = v10083 := by rw [eI10444, pp_ne _ _ (Or.inr (by decide))]; exact e10438
        have e10453 : I10444 (ad g 50) 6 = v10443 := by rw [eI10444, pp_self]
        have fr10454 : fz 74 g [50] I I10444 := by rw [eI10444]; exact fzx_pp hy fr10439 (by decide) (by decide)
        clear eI10444
        refine WP_aload_n dX6_load_171 rfl ?_
        refine WP_aload_n dX6_load_172 rfl ?_
        refine WQ_getim dX6_load_173 fX6_9 rfl (lyx_is hy 50 6 rfl) e10447 ?_
        refine WQ_iconst (-1) (-1) dX6_load_176 rfl rfl (fun v10455 hv10455 => ?_)
        refine WQ_icmp_eq 193 dX6_load_177 rfl (fun c10455 => ?_) (fun c10455 => False.elim (by omega))
        refine WQ_iconst (0) (0) dX6_load_193 rfl rfl (fun v10457 hv10457 => ?_)
        refine WQ_putz dX6_load_194 fX6_60 rfl rfl (by omega) (lyx_is hy 50 6 rfl) (fun I10458 eI10458 => ?_)
        have hI10458 : XI g n L I10458 := by rw [eI10458]; exact (xi_f hy hI10444 (c := 50) (0) (0) (1) (by decide) (Or.inl (by decide)) (by decide) (by omega) (by omega))
        have e10459 : I10458 (ad g 1) 1 = L := by rw [eI10458, pp_ne _ _ (Or.inl (lyx_ne hy (by decide) (by decide) (by decide)))]; exact e10445
        have e10460 : I10458 (ad g 6) 4 = v10070 := by rw [eI10458, pp_ne _ _ (Or.inl (lyx_ne hy (by decide) (by decide) (by decide)))]; exact e10446
        have e10461 : I10458 (ad g 50) 0 = v10077 := by rw [eI10458, pp_ne _ _ (Or.inr (by decide))]; exact e10447
        have e10462 : I10458 (ad g 50) 1 = v10083 := by rw [eI10458, pp_ne _ _ (Or.inr (by decide))]; exact e10448
        have e10463 : I10458 (ad g 50) 2 = v10090 := by rw [eI10458, pp_ne _ _ (Or.inr (by decide))]; exact e10449
        have e10464 : I10458 (ad g 50) 3 = v10324 := by rw [eI10458, pp_ne _ _ (Or.inr (by decide))]; exact e10450
        have e10465 : I10458 (ad g 50) 4 = v10419 := by rw [eI10458, pp_ne _ _ (Or.inr (by decide))]; exact e10451
        have e10466 : I10458 (ad g 50) 5 = v10083 := by rw [eI10458, pp_ne _ _ (Or.inr (by decide))]; exact e10452
        have e10467 : I10458 (ad g 50) 6 = v10443 := by rw [eI10458, pp_ne _ _ (Or.inr (by decide))]; exact e10453
        have e10468 : I10458 (ad g 50) 7 = v10457 := by rw [eI10458, pp_self]
        have fr10469 : fz 74 g [50] I I10458 := by rw [eI10458]; exact fzx_pp hy fr10454 (by decide) (by decide)
        clear eI10458
        refine WP_aload_n dX6_load_197 rfl ?_
        refine WP_aload_n dX6_load_198 rfl ?_
        refine WP_getr dX6_load_199 fX6_64 rfl (lyx_is hy 5 0 rfl) (rfx hr 5 2 23 (by decide)) ?_
        refine WP_iload_n dX6_load_202 rfl ?_
        refine WQ_iald dX6_load_203 (lyx_is hy 23 13 rfl) (lyx_n hy 23 7 rfl) (by omega) (by omega) (fun q hq => BT_get hI10458.1 23 0 7 (0) (0) (900) (by decide) q (Nat.zero_le _) hq) (fun v10470 av10470 bv10470 ev10470 => ?_)
        clear ev10470
        refine WQ_if_le 211 dX6_load_204 rfl (fun c10470 => ?_) (fun c10470 => ?_)
        · refine WQ_iconst (0) (0) dX6_load_211 rfl rfl (fun v10472 hv10472 => ?_)
          refine WQ_putz dX6_load_212 fX6_67 rfl rfl (by omega) (lyx_is hy 50 6 rfl) (fun I10473 eI10473 => ?_)
          have hI10473 : XI g n L I10473 := by rw [eI10473]; exact (xi_f hy hI10458 (c := 50) (0) (0) (1) (by decide) (Or.inl (by decide)) (by decide) (by omega) (by omega))
          have e10474 : I10473 (ad g 1) 1 = L := by rw [eI10473, pp_ne _ _ (Or.inl (lyx_ne hy (by decide) (by decide) (by decide)))]; exact e10459
          have e10475 : I10473 (ad g 6) 4 = v10070 := by rw [eI10473, pp_ne _ _ (Or.inl (lyx_ne hy (by decide) (by decide) (by decide)))]; exact e10460
          have e10476 : I10473 (ad g 50) 0 = v10077 := by rw [eI10473, pp_ne _ _ (Or.inr (by decide))]; exact e10461
          have e10477 : I10473 (ad g 50) 1 = v10083 := by rw [eI10473, pp_ne _ _ (Or.inr (by decide))]; exact e10462
          have e10478 : I10473 (ad g 50) 2 = v10090 := by rw [eI10473, pp_ne _ _ (Or.inr (by decide))]; exact e10463
          have e10479 : I10473 (ad g 50) 3 = v10324 := by rw [eI10473, pp_ne _ _ (Or.inr (by decide))]; exact e10464
          have e10480 : I10473 (ad g 50) 4 = v10419 := by rw [eI10473, pp_ne _ _ (Or.inr (by decide))]; exact e10465
          have e10481 : I10473 (ad g 50) 5 = v10083 := by rw [eI10473, pp_ne _ _ (Or.inr (by decide))]; exact e10466
          have e10482 : I10473 (ad g 50) 6 = v10443 := by rw [eI10473, pp_ne _ _ (Or.inr (by decide))]; exact e10467
          have e10483 : I10473 (ad g 50) 7 = v10457 := by rw [eI10473, pp_ne _ _ (Or.inr (by decide))]; exact e10468
          have e10484 : I10473 (ad g 50) 8 = v10472 := by rw [eI10473, pp_self]
          have fr10485 : fz 74 g [50] I I10473 := by rw [eI10473]; exact fzx_pp hy fr10469 (by decide) (by decide)
          clear eI10473
          exact WP_vret dX6_load_215 rfl ⟨⟨hI10473, rfl, fr10485, rfl, (by
                have yill : I (ad g (6 + 5)) so.toInt.toNat >>> (nI da.toInt.toNat &&& 31) &&& 1 = v10074 := by rw [show I (ad g (6 + 5)) so.toInt.toNat = v10071 from yv10071, show nI da.toInt.toNat = da from (eq32 _ _).mpr (by rw [nI_toInt (by omega)]; omega), xv10074, xv10072, (eq32 v10073 1).mpr hv10073]
                have yst : I (ad g 6) 4 = v10070 := est
                unfold LD
                simp only [e10476, e10477, e10478, e10479, e10480, e10481, e10482, e10483, yill, yst, show I (ad g (6 + 7)) _ = _ from yv10077, show I (ad g (6 + 8)) _ = _ from yv10083, show I (ad g (6 + 9)) _ = _ from yv10090, true_and, and_true]
                omega)⟩, rfl⟩
        · refine WQ_iconst (1) (1) dX6_load_207 rfl rfl (fun v10486 hv10486 => ?_)
          refine WP_goto 212 dX6_load_208 rfl ?_
          refine WQ_putz dX6_load_212 fX6_67 rfl rfl (by omega) (lyx_is hy 50 6 rfl) (fun I10487 eI10487 => ?_)
          have hI10487 : XI g n L I10487 := by rw [eI10487]; exact (xi_f hy hI10458 (c := 50) (0) (0) (1) (by decide) (Or.inl (by decide)) (by decide) (by omega) (by omega))
          have e10488 : I10487 (ad g 1) 1 = L := by rw [eI10487, pp_ne _ _ (Or.inl (lyx_ne hy (by decide) (by decide) (by decide)))]; exact e10459
          have e10489 : I10487 (ad g 6) 4 = v10070 := by rw [eI10487, pp_ne _ _ (Or.inl (lyx_ne hy (by decide) (by decide) (by decide)))]; exact e10460
          have e10490 : I10487 (ad g 50) 0 = v10077 := by rw [eI10487, pp_ne _ _ (Or.inr (by decide))]; exact e10461
          have e10491 : I10487 (ad g 50) 1 = v10083 := by rw [eI10487, pp_ne _ _ (Or.inr (by decide))]; exact e10462
          have e10492 : I10487 (ad g 50) 2 = v10090 := by rw [eI10487, pp_ne _ _ (Or.inr (by decide))]; exact e10463
          have e10493 : I10487 (ad g 50) 3 = v10324 := by rw [eI10487, pp_ne _ _ (Or.inr (by decide))]; exact e10464
          have e10494 : I10487 (ad g 50) 4 = v10419 := by rw [eI10487, pp_ne _ _ (Or.inr (by decide))]; exact e10465
          have e10495 : I10487 (ad g 50) 5 = v10083 := by rw [eI10487, pp_ne _ _ (Or.inr (by decide))]; exact e10466
          have e10496 : I10487 (ad g 50) 6 = v10443 := by rw [eI10487, pp_ne _ _ (Or.inr (by decide))]; exact e10467
          have e10497 : I10487 (ad g 50) 7 = v10457 := by rw [eI10487, pp_ne _ _ (Or.inr (by decide))]; exact e10468
          have e10498 : I10487 (ad g 50) 8 = v10486 := by rw [eI10487, pp_self]
          have fr10499 : fz 74 g [50] I I10487 := by rw [eI10487]; exact fzx_pp hy fr10469 (by decide) (by decide)
          clear eI10487
          exact WP_vret dX6_load_215 rfl ⟨⟨hI10487, rfl, fr10499, rfl, (by
                have yill : I (ad g (6 + 5)) so.toInt.toNat >>> (nI da.toInt.toNat &&& 31) &&& 1 = v10074 := by rw [show I (ad g (6 + 5)) so.toInt.toNat = v10071 from yv10071, show nI da.toInt.toNat = da from (eq32 _ _).mpr (by rw [nI_toInt (by omega)]; omega), xv10074, xv10072, (eq32 v10073 1).mpr hv10073]
                have yst : I (ad g 6) 4 = v10070 := est
                unfold LD
                simp only [e10490, e10491, e10492, e10493, e10494, e10495, e10496, e10497, yill, yst, show I (ad g (6 + 7)) _ = _ from yv10077, show I (ad g (6 + 8)) _ = _ from yv10083, show I (ad g (6 + 9)) _ = _ from yv10090, true_and, and_true]
                omega)⟩, rfl⟩
  · refine WQ_iconst (1) (1) dX6_load_35 rfl rfl (fun v10500 hv10500 => ?_)
    refine WP_goto 40 dX6_load_36 rfl ?_
    refine WP_istore (ls' := [(0, _), (1, _), (2, _), (3, _), (4, _), (5, _), (6, _), (7, _)]) dX6_load_40 (by decide) rfl ?_
    refine WP_aload_n dX6_load_42 rfl ?_
    refine WP_aload dX6_load_43 rfl ?_
    refine WP_getr dX6_load_45 fX6_30 rfl (lyx_is hy 6 7 rfl) (rfx hr 6 11 13 (by decide)) ?_
    refine WP_iload dX6_load_48 rfl ?_
    refine WQ_ialdb dX6_load_50 (lyx_is hy 13 13 rfl) (lyx_n hy 13 28 rfl) (by omega) (by omega) (fun q hq => BT_get hI.1 13 0 28 (-1) (0) (2) (by decide) q (Nat.zero_le _) hq) (fun v10501 av10501 bv10501 zv10501 => ?_)
    have yv10501 : I (ad g 13) (7 * so.toInt + da.toInt).toNat = v10501 := by rw [← fz_at fr0 13 (by decide) (by decide), show (7 * so.toInt + da.toInt).toNat = v10069.toInt.toNat by omega]; exact zv10501
    refine WQ_puti dX6_load_51 fX6_9 rfl rfl (lyx_is hy 50 6 rfl) (fun I10502 eI10502 => ?_)
    have hI10502 : XI g n L I10502 := by rw [eI10502]; exact (xi_f hy hI (c := 50) (-1) (0) (2) (by decide) (Or.inl (by decide)) (by decide) (by omega) (by omega))
    have e10503 : I10502 (ad g 1) 1 = L := by rw [eI10502, pp_ne _ _ (Or.inl (lyx_ne hy (by decide) (by decide) (by decide)))]; exact e10065
    have e10504 : I10502 (ad g 6) 4 = v10070 := by rw [eI10502, pp_ne _ _ (Or.inl (lyx_ne hy (by decide) (by decide) (by decide)))]; exact ev10070
    have e10505 : I10502 (ad g 50) 0 = v10501 := by rw [eI10502, pp_self]
    have fr10506 : fz 74 g [50] I I10502 := by rw [eI10502]; exact fzx_pp hy fr0 (by decide) (by decide)
    clear eI10502
    refine WP_aload_n dX6_load_54 rfl ?_
    refine WP_aload dX6_load_55 rfl ?_
    refine WP_getr dX6_load_57 fX6_33 rfl (lyx_is hy 6 7 rfl) (rfx hr 6 12 14 (by decide)) ?_
    refine WP_iload dX6_load_60 rfl ?_
    refine WQ_ialdb dX6_load_62 (lyx_is hy 14 13 rfl) (lyx_n hy 14 28 rfl) (by omega) (by omega) (fun q hq => BT_get hI10502.1 14 0 28 (0) (0) (3) (by decide) q (Nat.zero_le _) hq) (fun v10507 av10507 bv10507 zv10507 => ?_)
    have yv10507 : I (ad g 14) (7 * so.toInt + da.toInt).toNat = v10507 := by rw [← fz_at fr10506 14 (by decide) (by decide), show (7 * so.toInt + da.toInt).toNat = v10069.toInt.toNat by omega]; exact zv10507
    refine WQ_puti dX6_load_63 fX6_36 rfl rfl (lyx_is hy 50 6 rfl) (fun I10508 eI10508 => ?_)
    have hI10508 : XI g n L I10508 := by rw [eI10508]; exact (xi_f hy hI10502 (c := 50) (0) (0) (3) (by decide) (Or.inl (by decide)) (by decide) (by omega) (by omega))
    have e10509 : I10508 (ad g 1) 1 = L := by rw [eI10508, pp_ne _ _ (Or.inl (lyx_ne hy (by decide) (by decide) (by decide)))]; exact e10503
    have e10510 : I10508 (ad g 6) 4 = v10070 := by rw [eI10508, pp_ne _ _ (Or.inl (lyx_ne hy (by decide) (by decide) (by decide)))]; exact e10504
    have e10511 : I10508 (ad g 50) 0 = v10501 := by rw [eI10508, pp_ne _ _ (Or.inr (by decide))]; exact e10505
    have e10512 : I10508 (ad g 50) 1 = v10507 := by rw [eI10508, pp_self]
    have fr10513 : fz 74 g [50] I I10508 := by rw [eI10508]; exact fzx_pp hy fr10506 (by decide) (by decide)
    clear eI10508
    refine WP_aload_n dX6_load_66 rfl ?_
    refine WP_aload dX6_load_67 rfl ?_
    refine WP_getr dX6_load_69 fX6_39 rfl (lyx_is hy 6 7 rfl) (rfx hr 6 13 15 (by decide)) ?_
    refine WP_iload dX6_load_72 rfl ?_
    refine WQ_ialdb dX6_load_74 (lyx_is hy 15 13 rfl) (lyx_n hy 15 28 rfl) (by omega) (by omega) (fun q hq => BT_get hI10508.1 15 0 28 (0) (0) (99) (by decide) q (Nat.zero_le _) hq) (fun v10514 av10514 bv10514 zv10514 => ?_)
    have yv10514 : I (ad g 15) (7 * so.toInt + da.toInt).toNat = v10514 := by rw [← fz_at fr10513 15 (by decide) (by decide), show (7 * so.toInt + da.toInt).toNat = v10069.toInt.toNat by omega]; exact zv10514
    refine WQ_puti dX6_load_75 fX6_42 rfl rfl (lyx_is hy 50 6 rfl) (fun I10515 eI10515 => ?_)
    have hI10515 : XI g n L I10515 := by rw [eI10515]; exact (xi_f hy hI10508 (c := 50) (0) (0) (99) (by decide) (Or.inl (by decide)) (by decide) (by omega) (by omega))
    have e10516 : I10515 (ad g 1) 1 = L := by rw [eI10515, pp_ne _ _ (Or.inl (lyx_ne hy (by decide) (by decide) (by decide)))]; exact e10509
    have e10517 : I10515 (ad g 6) 4 = v10070 := by rw [eI10515, pp_ne _ _ (Or.inl (lyx_ne hy (by decide) (by decide) (by decide)))]; exact e10510
    have e10518 : I10515 (ad g 50) 0 = v10501 := by rw [eI10515, pp_ne _ _ (Or.inr (by decide))]; exact e10511
    have e10519 : I10515 (ad g 50) 1 = v10507 := by rw [eI10515, pp_ne _ _ (Or.inr (by decide))]; exact e10512
    have e10520 : I10515 (ad g 50) 2 = v10514 := by rw [eI10515, pp_self]
    have fr10521 : fz 74 g [50] I I10515 := by rw [eI10515]; exact fzx_pp hy fr10513 (by decide) (by decide)
    clear eI10515
    refine WP_aload_n dX6_load_78 rfl ?_
    refine WP_aload_n dX6_load_79 rfl ?_
    refine WQ_getim dX6_load_80 fX6_9 rfl (lyx_is hy 50 6 rfl) e10518 ?_
    refine WQ_iconst (-1) (-1) dX6_load_83 rfl rfl (fun v10522 hv10522 => ?_)
    refine WQ_icmp_ne 91 dX6_load_84 rfl (fun c10522 => ?_) (fun c10522 => ?_)
    · refine WP_aload_n dX6_load_91 rfl ?_
      refine WP_getr dX6_load_92 fX6_45 rfl (lyx_is hy 5 0 rfl) (rfx hr 5 1 22 (by decide)) ?_
      refine WP_aload_n dX6_load_95 rfl ?_
      refine WQ_getim dX6_load_96 fX6_9 rfl (lyx_is hy 50 6 rfl) e10518 ?_
      refine WQ_bipush (7) (7) dX6_load_99 rfl rfl (fun v10524 hv10524 => ?_)
      refine WQ_imulk (7) dX6_load_101 hv10524 (by omega) (by omega) (fun v10525 hv10525 => ?_)
      refine WP_iload_n dX6_load_102 rfl ?_
      refine WQ_iadd dX6_load_103 (by omega) (by omega) (fun v10526 hv10526 => ?_)
      refine WQ_ialdb dX6_load_104 (lyx_is hy 22 13 rfl) (lyx_n hy 22 21 rfl) (by omega) (by omega) (fun q hq => BT_get hI10515.1 22 0 21 (0) (0) (20) (by decide) q (Nat.zero_le _) hq) (fun v10527 av10527 bv10527 zv10527 => ?_)
      have yv10527 : I (ad g 22) (7 * v10501.toInt + da.toInt).toNat = v10527 := by rw [← fz_at fr10521 22 (by decide) (by decide), show (7 * v10501.toInt + da.toInt).toNat = v10526.toInt.toNat by omega]; exact zv10527
      refine WQ_puti dX6_load_105 fX6_48 rfl rfl (lyx_is hy 50 6 rfl) (fun I10528 eI10528 => ?_)
      have hI10528 : XI g n L I10528 := by rw [eI10528]; exact (xi_f hy hI10515 (c := 50) (0) (0) (20) (by decide) (Or.inl (by decide)) (by decide) (by omega) (by omega))
      have e10529 : I10528 (ad g 1) 1 = L := by rw [eI10528, pp_ne _ _ (Or.inl (lyx_ne hy (by decide) (by decide) (by decide)))]; exact e10516
      have e10530 : I10528 (ad g 6) 4 = v10070 := by rw [eI10528, pp_ne _ _ (Or.inl (lyx_ne hy (by decide) (by decide) (by decide)))]; exact e10517
      have e10531 : I10528 (ad g 50) 0 = v10501 := by rw [eI10528, pp_ne _ _ (Or.inr (by decide))]; exact e10518
      have e10532 : I10528 (ad g 50) 1 = v10507 := by rw [eI10528, pp_ne _ _ (Or.inr (by decide))]; exact e10519
      have e10533 : I10528 (ad g 50) 2 = v10514 := by rw [eI10528, pp_ne _ _ (Or.inr (by decide))]; exact e10520
      have e10534 : I10528 (ad g 50) 3 = v10527 := by rw [eI10528, pp_self]
      have fr10535 : fz 74 g [50] I I10528 := by rw [eI10528]; exact fzx_pp hy fr10521 (by decide) (by decide)
      clear eI10528
      refine WP_aload_n dX6_load_108 rfl ?_
      refine WP_iload dX6_load_109 rfl ?_
      refine WQ_iconst (-1) (-1) dX6_load_111 rfl rfl (fun v10536 hv10536 => ?_)
      refine WQ_icmp_ne 119 dX6_load_112 rfl (fun c10536 => ?_) (fun c10536 => ?_)
      · refine WP_aload_n dX6_load_119 rfl ?_
        refine WP_getr dX6_load_120 fX6_45 rfl (lyx_is hy 5 0 rfl) (rfx hr 5 1 22 (by decide)) ?_
        refine WP_iload dX6_load_123 rfl ?_
        refine WQ_bipush (7) (7) dX6_load_125 rfl rfl (fun v10538 hv10538 => ?_)
        refine WQ_imulk (7) dX6_load_127 hv10538 (by omega) (by omega) (fun v10539 hv10539 => ?_)
        refine WP_iload_n dX6_load_128 rfl ?_
        refine WQ_iadd dX6_load_129 (by omega) (by omega) (fun v10540 hv10540 => ?_)
        refine WQ_ialdb dX6_load_130 (lyx_is hy 22 13 rfl) (lyx_n hy 22 21 rfl) (by omega) (by omega) (fun q hq => BT_get hI10528.1 22 0 21 (0) (0) (20) (by decide) q (Nat.zero_le _) hq) (fun v10541 av10541 bv10541 zv10541 => ?_)
        have yv10541 : I (ad g 22) (7 * v10070.toInt + da.toInt).toNat = v10541 := by rw [← fz_at fr10535 22 (by decide) (by decide), show (7 * v10070.toInt + da.toInt).toNat = v10540.toInt.toNat by omega]; exact zv10541
        refine WQ_puti dX6_load_131 fX6_51 rfl rfl (lyx_is hy 50 6 rfl) (fun I10542 eI10542 => ?_)
        have hI10542 : XI g n L I10542 := by rw [eI10542]; exact (xi_f hy hI10528 (c := 50) (0) (0) (20) (by decide) (Or.inl (by decide)) (by decide) (by omega) (by omega))
        have e10543 : I10542 (ad g 1) 1 = L := by rw [eI10542, pp_ne _ _ (Or.inl (lyx_ne hy (by decide) (by decide) (by decide)))]; exact e10529
        have e10544 : I10542 (ad g 6) 4 = v10070 := by rw [eI10542, pp_ne _ _ (Or.inl (lyx_ne hy (by decide) (by decide) (by decide)))]; exact e10530
        have e10545 : I10542 (ad g 50) 0 = v10501 := by rw [eI10542, pp_ne _ _ (Or.inr (by decide))]; exact e10531
        have e10546 : I10542 (ad g 50) 1 = v10507 := by rw [eI10542, pp_ne _ _ (Or.inr (by decide))]; exact e10532
        have e10547 : I10542 (ad g 50) 2 = v10514 := by rw [eI10542, pp_ne _ _ (Or.inr (by decide))]; exact e10533
        have e10548 : I10542 (ad g 50) 3 = v10527 := by rw [eI10542, pp_ne _ _ (Or.inr (by decide))]; exact e10534
        have e10549 : I10542 (ad g 50) 4 = v10541 := by rw [eI10542, pp_self]
        have fr10550 : fz 74 g [50] I I10542 := by rw [eI10542]; exact fzx_pp hy fr10535 (by decide) (by decide)
        clear eI10542
        refine WP_aload_n dX6_load_134 rfl ?_
        refine WP_iload dX6_load_135 rfl ?_
        refine WQ_if_eq 144 dX6_load_137 rfl (fun c10550 => False.elim (by omega)) (fun c10550 => ?_)
        refine WQ_iconst (0) (0) dX6_load_140 rfl rfl (fun v10552 hv10552 => ?_)
        refine WP_goto 148 dX6_load_141 rfl ?_
        refine WQ_puti dX6_load_148 fX6_54 rfl rfl (lyx_is hy 50 6 rfl) (fun I10553 eI10553 => ?_)
        have hI10553 : XI g n L I10553 := by rw [eI10553]; exact (xi_f hy hI10542 (c := 50) (0) (0) (3) (by decide) (Or.inl (by decide)) (by decide) (by omega) (by omega))
        have e10554 : I10553 (ad g 1) 1 = L := by rw [eI10553, pp_ne _ _ (Or.inl (lyx_ne hy (by decide) (by decide) (by decide)))]; exact e10543
        have e10555 : I10553 (ad g 6) 4 = v10070 := by rw [eI10553, pp_ne _ _ (Or.inl (lyx_ne hy (by decide) (by decide) (by decide)))]; exact e10544
        have e10556 : I10553 (ad g 50) 0 = v10501 := by rw [eI10553, pp_ne _ _ (Or.inr (by decide))]; exact e10545
        have e10557 : I10553 (ad g 50) 1 = v10507 := by rw [eI10553, pp_ne _ _ (Or.inr (by decide))]; exact e10546
        have e10558 : I10553 (ad g 50) 2 = v10514 := by rw [eI10553, pp_ne _ _ (Or.inr (by decide))]; exact e10547
        have e10559 : I10553 (ad g 50) 3 = v10527 := by rw [eI10553, pp_ne _ _ (Or.inr (by decide))]; exact e10548
        have e10560 : I10553 (ad g 50) 4 = v10541 := by rw [eI10553, pp_ne _ _ (Or.inr (by decide))]; exact e10549
        have e10561 : I10553 (ad g 50) 5 = v10552 := by rw [eI10553, pp_self]
        have fr10562 : fz 74 g [50] I I10553 := by rw [eI10553]; exact fzx_pp hy fr10550 (by decide) (by decide)
        clear eI10553
        refine WP_aload_n dX6_load_151 rfl ?_
        refine WP_iload dX6_load_152 rfl ?_
        refine WQ_if_ne 163 dX6_load_154 rfl (fun c10562 => ?_) (fun c10562 => False.elim (by omega))
        refine WQ_iconst (0) (0) dX6_load_163 rfl rfl (fun v10564 hv10564 => ?_)
        refine WP_goto 168 dX6_load_164 rfl ?_
        refine WQ_puti dX6_load_168 fX6_57 rfl rfl (lyx_is hy 50 6 rfl) (fun I10565 eI10565 => ?_)
        have hI10565 : XI g n L I10565 := by rw [eI10565]; exact (xi_f hy hI10553 (c := 50) (0) (0) (2) (by decide) (Or.inl (by decide)) (by decide) (by omega) (by omega))
        have e10566 : I10565 (ad g 1) 1 = L := by rw [eI10565, pp_ne _ _ (Or.inl (lyx_ne hy (by decide) (by decide) (by decide)))]; exact e10554
        have e10567 : I10565 (ad g 6) 4 = v10070 := by rw [eI10565, pp_ne _ _ (Or.inl (lyx_ne hy (by decide) (by decide) (by decide)))]; exact e10555
        have e10568 : I10565 (ad g 50) 0 = v10501 := by rw [eI10565, pp_ne _ _ (Or.inr (by decide))]; exact e10556
        have e10569 : I10565 (ad g 50) 1 = v10507 := by rw [eI10565, pp_ne _ _ (Or.inr (by decide))]; exact e10557
        have e10570 : I10565 (ad g 50) 2 = v10514 := by rw [eI10565, pp_ne _ _ (Or.inr (by decide))]; exact e10558
        have e10571 : I10565 (ad g 50) 3 = v10527 := by rw [eI10565, pp_ne _ _ (Or.inr (by decide))]; exact e10559
        have e10572 : I10565 (ad g 50) 4 = v10541 := by rw [eI10565, pp_ne _ _ (Or.inr (by decide))]; exact e10560
        have e10573 : I10565 (ad g 50) 5 = v10552 := by rw [eI10565, pp_ne _ _ (Or.inr (by decide))]; exact e10561
        have e10574 : I10565 (ad g 50) 6 = v10564 := by rw [eI10565, pp_self]
        have fr10575 : fz 74 g [50] I I10565 := by rw [eI10565]; exact fzx_pp hy fr10562 (by decide) (by decide)
        clear eI10565
        refine WP_aload_n dX6_load_171 rfl ?_
        refine WP_aload_n dX6_load_172 rfl ?_
        refine WQ_getim dX6_load_173 fX6_9 rfl (lyx_is hy 50 6 rfl) e10568 ?_
        refine WQ_iconst (-1) (-1) dX6_load_176 rfl rfl (fun v10576 hv10576 => ?_)
        refine WQ_icmp_eq 193 dX6_load_177 rfl (fun c10576 => False.elim (by omega)) (fun c10576 => ?_)
        refine WP_aload_n dX6_load_180 rfl ?_
        refine WQ_getim dX6_load_181 fX6_9 rfl (lyx_is hy 50 6 rfl) e10568 ?_
        refine WP_iload dX6_load_184 rfl ?_
        refine WQ_icmp_ne 193 dX6_load_186 rfl (fun c10577 => ?_) (fun c10577 => ?_)
        · refine WQ_iconst (0) (0) dX6_load_193 rfl rfl (fun v10579 hv10579 => ?_)
          refine WQ_putz dX6_load_194 fX6_60 rfl rfl (by omega) (lyx_is hy 50 6 rfl) (fun I10580 eI10580 => ?_)
          have hI10580 : XI g n L I10580 := by rw [eI10580]; exact (xi_f hy hI10565 (c := 50) (0) (0) (1) (by decide) (Or.inl (by decide)) (by decide) (by omega) (by omega))
          have e10581 : I10580 (ad g 1) 1 = L := by rw [eI10580, pp_ne _ _ (Or.inl (lyx_ne hy (by decide) (by decide) (by decide)))]; exact e10566
          have e10582 : I10580 (ad g 6) 4 = v10070 := by rw [eI10580, pp_ne _ _ (Or.inl (lyx_ne hy (by decide) (by decide) (by decide)))]; exact e10567
          have e10583 : I10580 (ad g 50) 0 = v10501 := by rw [eI10580, pp_ne _ _ (Or.inr (by decide))]; exact e10568
          have e10584 : I10580 (ad g 50) 1 = v10507 := by rw [eI10580, pp_ne _ _ (Or.inr (by decide))]; exact e10569
          have e10585 : I10580 (ad g 50) 2 = v10514 := by rw [eI10580, pp_ne _ _ (Or.inr (by decide))]; exact e10570
          have e10586 : I10580 (ad g 50) 3 = v10527 := by rw [eI10580, pp_ne _ _ (Or.inr (by decide))]; exact e10571
          have e10587 : I10580 (ad g 50) 4 = v10541 := by rw [eI10580, pp_ne _ _ (Or.inr (by decide))]; exact e10572
          have e10588 : I10580 (ad g 50) 5 = v10552 := by rw [eI10580, pp_ne _ _ (Or.inr (by decide))]; exact e10573
          have e10589 : I10580 (ad g 50) 6 = v10564 := by rw [eI10580, pp_ne _ _ (Or.inr (by decide))]; exact e10574
          have e10590 : I10580 (ad g 50) 7 = v10579 := by rw [eI10580, pp_self]
          have fr10591 : fz 74 g [50] I I10580 := by rw [eI10580]; exact fzx_pp hy fr10575 (by decide) (by decide)
          clear eI10580
          refine WP_aload_n dX6_load_197 rfl ?_
          refine WP_aload_n dX6_load_198 rfl ?_
          refine WP_getr dX6_load_199 fX6_64 rfl (lyx_is hy 5 0 rfl) (rfx hr 5 2 23 (by decide)) ?_
          refine WP_iload_n dX6_load_202 rfl ?_
          refine WQ_iald dX6_load_203 (lyx_is hy 23 13 rfl) (lyx_n hy 23 7 rfl) (by omega) (by omega) (fun q hq => BT_get hI10580.1 23 0 7 (0) (0) (900) (by decide) q (Nat.zero_le _) hq) (fun v10592 av10592 bv10592 ev10592 => ?_)
          clear ev10592
          refine WQ_if_le 211 dX6_load_204 rfl (fun c10592 => ?_) (fun c10592 => ?_)
          · refine WQ_iconst (0) (0) dX6_load_211 rfl rfl (fun v10594 hv10594 => ?_)
            refine WQ_putz dX6_load_212 fX6_67 rfl rfl (by omega) (lyx_is hy 50 6 rfl) (fun I10595 eI10595 => ?_)
            have hI10595 : XI g n L I10595 := by rw [eI10595]; exact (xi_f hy hI10580 (c := 50) (0) (0) (1) (by decide) (Or.inl (by decide)) (by decide) (by omega) (by omega))
            have e10596 : I10595 (ad g 1) 1 = L := by rw [eI10595, pp_ne _ _ (Or.inl (lyx_ne hy (by decide) (by decide) (by decide)))]; exact e10581
            have e10597 : I10595 (ad g 6) 4 = v10070 := by rw [eI10595, pp_ne _ _ (Or.inl (lyx_ne hy (by decide) (by decide) (by decide)))]; exact e10582
            have e10598 : I10595 (ad g 50) 0 = v10501 := by rw [eI10595, pp_ne _ _ (Or.inr (by decide))]; exact e10583
            have e10599 : I10595 (ad g 50) 1 = v10507 := by rw [eI10595, pp_ne _ _ (Or.inr (by decide))]; exact e10584
            have e10600 : I10595 (ad g 50) 2 = v10514 := by rw [eI10595, pp_ne _ _ (Or.inr (by decide))]; exact e10585
            have e10601 : I10595 (ad g 50) 3 = v10527 := by rw [eI10595, pp_ne _ _ (Or.inr (by decide))]; exact e10586
            have e10602 : I10595 (ad g 50) 4 = v10541 := by rw [eI10595, pp_ne _ _ (Or.inr (by decide))]; exact e10587
            have e10603 : I10595 (ad g 50) 5 = v10552 := by rw [eI10595, pp_ne _ _ (Or.inr (by decide))]; exact e10588
            have e10604 : I10595 (ad g 50) 6 = v10564 := by rw [eI10595, pp_ne _ _ (Or.inr (by decide))]; exact e10589
            have e10605 : I10595 (ad g 50) 7 = v10579 := by rw [eI10595, pp_ne _ _ (Or.inr (by decide))]; exact e10590
            have e10606 : I10595 (ad g 50) 8 = v10594 := by rw [eI10595, pp_self]
            have fr10607 : fz 74 g [50] I I10595 := by rw [eI10595]; exact fzx_pp hy fr10591 (by decide) (by decide)
            clear eI10595
            exact WP_vret dX6_load_215 rfl ⟨⟨hI10595, rfl, fr10607, rfl, (by
                  have yill : I (ad g (6 + 5)) so.toInt.toNat >>> (nI da.toInt.toNat &&& 31) &&& 1 = v10074 := by rw [show I (ad g (6 + 5)) so.toInt.toNat = v10071 from yv10071, show nI da.toInt.toNat = da from (eq32 _ _).mpr (by rw [nI_toInt (by omega)]; omega), xv10074, xv10072, (eq32 v10073 1).mpr hv10073]
                  have yst : I (ad g 6) 4 = v10070 := est
                  unfold LD
                  simp only [e10598, e10599, e10600, e10601, e10602, e10603, e10604, e10605, yill, yst, show I (ad g (6 + 7)) _ = _ from yv10501, show I (ad g (6 + 8)) _ = _ from yv10507, show I (ad g (6 + 9)) _ = _ from yv10514, yv10527, yv10541, true_and, and_true]
                  omega)⟩, rfl⟩
          · refine WQ_iconst (1) (1) dX6_load_207 rfl rfl (fun v10608 hv10608 => ?_)
            refine WP_goto 212 dX6_load_208 rfl ?_
            refine WQ_putz dX6_load_212 fX6_67 rfl rfl (by omega) (lyx_is hy 50 6 rfl) (fun I10609 eI10609 => ?_)
            have hI10609 : XI g n L I10609 := by rw [eI10609]; exact (xi_f hy hI10580 (c := 50) (0) (0) (1) (by decide) (Or.inl (by decide)) (by decide) (by omega) (by omega))
            have e10610 : I10609 (ad g 1) 1 = L := by rw [eI10609, pp_ne _ _ (Or.inl (lyx_ne hy (by decide) (by decide) (by decide)))]; exact e10581
            have e10611 : I10609 (ad g 6) 4 = v10070 := by rw [eI10609, pp_ne _ _ (Or.inl (lyx_ne hy (by decide) (by decide) (by decide)))]; exact e10582
            have e10612 : I10609 (ad g 50) 0 = v10501 := by rw [eI10609, pp_ne _ _ (Or.inr (by decide))]; exact e10583
            have e10613 : I10609 (ad g 50) 1 = v10507 := by rw [eI10609, pp_ne _ _ (Or.inr (by decide))]; exact e10584
            have e10614 : I10609 (ad g 50) 2 = v10514 := by rw [eI10609, pp_ne _ _ (Or.inr (by decide))]; exact e10585
            have e10615 : I10609 (ad g 50) 3 = v10527 := by rw [eI10609, pp_ne _ _ (Or.inr (by decide))]; exact e10586
            have e10616 : I10609 (ad g 50) 4 = v10541 := by rw [eI10609, pp_ne _ _ (Or.inr (by decide))]; exact e10587
            have e10617 : I10609 (ad g 50) 5 = v10552 := by rw [eI10609, pp_ne _ _ (Or.inr (by decide))]; exact e10588
            have e10618 : I10609 (ad g 50) 6 = v10564 := by rw [eI10609, pp_ne _ _ (Or.inr (by decide))]; exact e10589
            have e10619 : I10609 (ad g 50) 7 = v10579 := by rw [eI10609, pp_ne _ _ (Or.inr (by decide))]; exact e10590
            have e10620 : I10609 (ad g 50) 8 = v10608 := by rw [eI10609, pp_self]
            have fr10621 : fz 74 g [50] I I10609 := by rw [eI10609]; exact fzx_pp hy fr10591 (by decide) (by decide)
            clear eI10609
            exact WP_vret dX6_load_215 rfl ⟨⟨hI10609, rfl, fr10621, rfl, (by
                  have yill : I (ad g (6 + 5)) so.toInt.toNat >>> (nI da.toInt.toNat &&& 31) &&& 1 = v10074 := by rw [show I (ad g (6 + 5)) so.toInt.toNat = v10071 from yv10071, show nI da.toInt.toNat = da from (eq32 _ _).mpr (by rw [nI_toInt (by omega)]; omega), xv10074, xv10072, (eq32 v10073 1).mpr hv10073]
                  have yst : I (ad g 6) 4 = v10070 := est
                  unfold LD
                  simp only [e10612, e10613, e10614, e10615, e10616, e10617, e10618, e10619, yill, yst, show I (ad g (6 + 7)) _ = _ from yv10501, show I (ad g (6 + 8)) _ = _ from yv10507, show I (ad g (6 + 9)) _ = _ from yv10514, yv10527, yv10541, true_and, and_true]
                  omega)⟩, rfl⟩
        · refine WQ_iconst (1) (1) dX6_load_189 rfl rfl (fun v10622 hv10622 => ?_)
          refine WP_goto 194 dX6_load_190 rfl ?_
          refine WQ_putz dX6_load_194 fX6_60 rfl rfl (by omega) (lyx_is hy 50 6 rfl) (fun I10623 eI10623 => ?_)
          have hI10623 : XI g n L I10623 := by rw [eI10623]; exact (xi_f hy hI10565 (c := 50) (0) (0) (1) (by decide) (Or.inl (by decide)) (by decide) (by omega) (by omega))
          have e10624 : I10623 (ad g 1) 1 = L := by rw [eI10623, pp_ne _ _ (Or.inl (lyx_ne hy (by decide) (by decide) (by decide)))]; exact e10566
          have e10625 : I10623 (ad g 6) 4 = v10070 := by rw [eI10623, pp_ne _ _ (Or.inl (lyx_ne hy (by decide) (by decide) (by decide)))]; exact e10567
          have e10626 : I10623 (ad g 50) 0 = v10501 := by rw [eI10623, pp_ne _ _ (Or.inr (by decide))]; exact e10568
          have e10627 : I10623 (ad g 50) 1 = v10507 := by rw [eI10623, pp_ne _ _ (Or.inr (by decide))]; exact e10569
          have e10628 : I10623 (ad g 50) 2 = v10514 := by rw [eI10623, pp_ne _ _ (Or.inr (by decide))]; exact e10570
          have e10629 : I10623 (ad g 50) 3 = v10527 := by rw [eI10623, pp_ne _ _ (Or.inr (by decide))]; exact e10571
          have e10630 : I10623 (ad g 50) 4 = v10541 := by rw [eI10623, pp_ne _ _ (Or.inr (by decide))]; exact e10572
          have e10631 : I10623 (ad g 50) 5 = v10552 := by rw [eI10623, pp_ne _ _ (Or.inr (by decide))]; exact e10573
          have e10632 : I10623 (ad g 50) 6 = v10564 := by rw [eI10623, pp_ne _ _ (Or.inr (by decide))]; exact e10574
          have e10633 : I10623 (ad g 50) 7 = v10622 := by rw [eI10623, pp_self]
          have fr10634 : fz 74 g [50] I I10623 := by rw [eI10623]; exact fzx_pp hy fr10575 (by decide) (by decide)
          clear eI10623
          refine WP_aload_n dX6_load_197 rfl ?_
          refine WP_aload_n dX6_load_198 rfl ?_
          refine WP_getr dX6_load_199 fX6_64 rfl (lyx_is hy 5 0 rfl) (rfx hr 5 2 23 (by decide)) ?_
          refine WP_iload_n dX6_load_202 rfl ?_
          refine WQ_iald dX6_load_203 (lyx_is hy 23 13 rfl) (lyx_n hy 23 7 rfl) (by omega) (by omega) (fun q hq => BT_get hI10623.1 23 0 7 (0) (0) (900) (by decide) q (Nat.zero_le _) hq) (fun v10635 av10635 bv10635 ev10635 => ?_)
          clear ev10635
          refine WQ_if_le 211 dX6_load_204 rfl (fun c10635 => ?_) (fun c10635 => ?_)
          · refine WQ_iconst (0) (0) dX6_load_211 rfl rfl (fun v10637 hv10637 => ?_)
            refine WQ_putz dX6_load_212 fX6_67 rfl rfl (by omega) (lyx_is hy 50 6 rfl) (fun I10638 eI10638 => ?_)
            have hI10638 : XI g n L I10638 := by rw [eI10638]; exact (xi_f hy hI10623 (c := 50) (0) (0) (1) (by decide) (Or.inl (by decide)) (by decide) (by omega) (by omega))
            have e10639 : I10638 (ad g 1) 1 = L := by rw [eI10638, pp_ne _ _ (Or.inl (lyx_ne hy (by decide) (by decide) (by decide)))]; exact e10624
            have e10640 : I10638 (ad g 6) 4 = v10070 := by rw [eI10638, pp_ne _ _ (Or.inl (lyx_ne hy (by decide) (by decide) (by decide)))]; exact e10625
            have e10641 : I10638 (ad g 50) 0 = v10501 := by rw [eI10638, pp_ne _ _ (Or.inr (by decide))]; exact e10626
            have e10642 : I10638 (ad g 50) 1 = v10507 := by rw [eI10638, pp_ne _ _ (Or.inr (by decide))]; exact e10627
            have e10643 : I10638 (ad g 50) 2 = v10514 := by rw [eI10638, pp_ne _ _ (Or.inr (by decide))]; exact e10628
            have e10644 : I10638 (ad g 50) 3 = v10527 := by rw [eI10638, pp_ne _ _ (Or.inr (by decide))]; exact e10629
            have e10645 : I10638 (ad g 50) 4 = v10541 := by rw [eI10638, pp_ne _ _ (Or.inr (by decide))]; exact e10630
            have e10646 : I10638 (ad g 50) 5 = v10552 := by rw [eI10638, pp_ne _ _ (Or.inr (by decide))]; exact e10631
            have e10647 : I10638 (ad g 50) 6 = v10564 := by rw [eI10638, pp_ne _ _ (Or.inr (by decide))]; exact e10632
            have e10648 : I10638 (ad g 50) 7 = v10622 := by rw [eI10638, pp_ne _ _ (Or.inr (by decide))]; exact e10633
            have e10649 : I10638 (ad g 50) 8 = v10637 := by rw [eI10638, pp_self]
            have fr10650 : fz 74 g [50] I I10638 := by rw [eI10638]; exact fzx_pp hy fr10634 (by decide) (by decide)
            clear eI10638
            exact WP_vret dX6_load_215 rfl ⟨⟨hI10638, rfl, fr10650, rfl, (by
                  have yill : I (ad g (6 + 5)) so.toInt.toNat >>> (nI da.toInt.toNat &&& 31) &&& 1 = v10074 := by rw [show I (ad g (6 + 5)) so.toInt.toNat = v10071 from yv10071, show nI da.toInt.toNat = da from (eq32 _ _).mpr (by rw [nI_toInt (by omega)]; omega), xv10074, xv10072, (eq32 v10073 1).mpr hv10073]
                  have yst : I (ad g 6) 4 = v10070 := est
                  unfold LD
                  simp only [e10641, e10642, e10643, e10644, e10645, e10646, e10647, e10648, yill, yst, show I (ad g (6 + 7)) _ = _ from yv10501, show I (ad g (6 + 8)) _ = _ from yv10507, show I (ad g (6 + 9)) _ = _ from yv10514, yv10527, yv10541, true_and, and_true]
                  omega)⟩, rfl⟩
          · refine WQ_iconst (1) (1) dX6_load_207 rfl rfl (fun v10651 hv10651 => ?_)
            refine WP_goto 212 dX6_load_208 rfl ?_
            refine WQ_putz dX6_load_212 fX6_67 rfl rfl (by omega) (lyx_is hy 50 6 rfl) (fun I10652 eI10652 => ?_)
            have hI10652 : XI g n L I10652 := by rw [eI10652]; exact (xi_f hy hI10623 (c := 50) (0) (0) (1) (by decide) (Or.inl (by decide)) (by decide) (by omega) (by omega))
            have e10653 : I10652 (ad g 1) 1 = L := by rw [eI10652, pp_ne _ _ (Or.inl (lyx_ne hy (by decide) (by decide) (by decide)))]; exact e10624
            have e10654 : I10652 (ad g 6) 4 = v10070 := by rw [eI10652, pp_ne _ _ (Or.inl (lyx_ne hy (by decide) (by decide) (by decide)))]; exact e10625
            have e10655 : I10652 (ad g 50) 0 = v10501 := by rw [eI10652, pp_ne _ _ (Or.inr (by decide))]; exact e10626
            have e10656 : I10652 (ad g 50) 1 = v10507 := by rw [eI10652, pp_ne _ _ (Or.inr (by decide))]; exact e10627
            have e10657 : I10652 (ad g 50) 2 = v10514 := by rw [eI10652, pp_ne _ _ (Or.inr (by decide))]; exact e10628
            have e10658 : I10652 (ad g 50) 3 = v10527 := by rw [eI10652, pp_ne _ _ (Or.inr (by decide))]; exact e10629
            have e10659 : I10652 (ad g 50) 4 = v10541 := by rw [eI10652, pp_ne _ _ (Or.inr (by decide))]; exact e10630
            have e10660 : I10652 (ad g 50) 5 = v10552 := by rw [eI10652, pp_ne _ _ (Or.inr (by decide))]; exact e10631
            have e10661 : I10652 (ad g 50) 6 = v10564 := by rw [eI10652, pp_ne _ _ (Or.inr (by decide))]; exact e10632
            have e10662 : I10652 (ad g 50) 7 = v10622 := by rw [eI10652, pp_ne _ _ (Or.inr (by decide))]; exact e10633
            have e10663 : I10652 (ad g 50) 8 = v10651 := by rw [eI10652, pp_self]
            have fr10664 : fz 74 g [50] I I10652 := by rw [eI10652]; exact fzx_pp hy fr10634 (by decide) (by decide)
            clear eI10652
            exact WP_vret dX6_load_215 rfl ⟨⟨hI10652, rfl, fr10664, rfl, (by
                  have yill : I (ad g (6 + 5)) so.toInt.toNat >>> (nI da.toInt.toNat &&& 31) &&& 1 = v10074 := by rw [show I (ad g (6 + 5)) so.toInt.toNat = v10071 from yv10071, show nI da.toInt.toNat = da from (eq32 _ _).mpr (by rw [nI_toInt (by omega)]; omega), xv10074, xv10072, (eq32 v10073 1).mpr hv10073]
                  have yst : I (ad g 6) 4 = v10070 := est
                  unfold LD
                  simp only [e10655, e10656, e10657, e10658, e10659, e10660, e10661, e10662, yill, yst, show I (ad g (6 + 7)) _ = _ from yv10501, show I (ad g (6 + 8)) _ = _ from yv10507, show I (ad g (6 + 9)) _ = _ from yv10514, yv10527, yv10541, true_and, and_true]
                  omega)⟩, rfl⟩
      · refine WQ_iconst (0) (0) dX6_load_115 rfl rfl (fun v10665 hv10665 => ?_)
        refine WP_goto 131 dX6_load_116 rfl ?_
        refine WQ_puti dX6_load_131 fX6_51 rfl rfl (lyx_is hy 50 6 rfl) (fun I10666 eI10666 => ?_)
        have hI10666 : XI g n L I10666 := by rw [eI10666]; exact (xi_f hy hI10528 (c := 50) (0) (0) (20) (by decide) (Or.inl (by decide)) (by decide) (by omega) (by omega))
        have e10667 : I10666 (ad g 1) 1 = L := by rw [eI10666, pp_ne _ _ (Or.inl (lyx_ne hy (by decide) (by decide) (by decide)))]; exact e10529
        have e10668 : I10666 (ad g 6) 4 = v10070 := by rw [eI10666, pp_ne _ _ (Or.inl (lyx_ne hy (by decide) (by decide) (by decide)))]; exact e10530
        have e10669 : I10666 (ad g 50) 0 = v10501 := by rw [eI10666, pp_ne _ _ (Or.inr (by decide))]; exact e10531
        have e10670 : I10666 (ad g 50) 1 = v10507 := by rw [eI10666, pp_ne _ _ (Or.inr (by decide))]; exact e10532
        have e10671 : I10666 (ad g 50) 2 = v10514 := by rw [eI10666, pp_ne _ _ (Or.inr (by decide))]; exact e10533
        have e10672 : I10666 (ad g 50) 3 = v10527 := by rw [eI10666, pp_ne _ _ (Or.inr (by decide))]; exact e10534
        have e10673 : I10666 (ad g 50) 4 = v10665 := by rw [eI10666, pp_self]
        have fr10674 : fz 74 g [50] I I10666 := by rw [eI10666]; exact fzx_pp hy fr10535 (by decide) (by decide)
        clear eI10666
        refine WP_aload_n dX6_load_134 rfl ?_
        refine WP_iload dX6_load_135 rfl ?_
        refine WQ_if_eq 144 dX6_load_137 rfl (fun c10674 => False.elim (by omega)) (fun c10674 => ?_)
        refine WQ_iconst (0) (0) dX6_load_140 rfl rfl (fun v10676 hv10676 => ?_)
        refine WP_goto 148 dX6_load_141 rfl ?_
        refine WQ_puti dX6_load_148 fX6_54 rfl rfl (lyx_is hy 50 6 rfl) (fun I10677 eI10677 => ?_)
        have hI10677 : XI g n L I10677 := by rw [eI10677]; exact (xi_f hy hI10666 (c := 50) (0) (0) (3) (by decide) (Or.inl (by decide)) (by decide) (by omega) (by omega))
        have e10678 : I10677 (ad g 1) 1 = L := by rw [eI10677, pp_ne _ _ (Or.inl (lyx_ne hy (by decide) (by decide) (by decide)))]; exact e10667
        have e10679 : I10677 (ad g 6) 4 = v10070 := by rw [eI10677, pp_ne _ _ (Or.inl (lyx_ne hy (by decide) (by decide) (by decide)))]; exact e10668
        have e10680 : I10677 (ad g 50) 0 = v10501 := by rw [eI10677, pp_ne _ _ (Or.inr (by decide))]; exact e10669
        have e10681 : I10677 (ad g 50) 1 = v10507 := by rw [eI10677, pp_ne _ _ (Or.inr (by decide))]; exact e10670
        have e10682 : I10677 (ad g 50) 2 = v10514 := by rw [eI10677, pp_ne _ _ (Or.inr (by decide))]; exact e10671
        have e10683 : I10677 (ad g 50) 3 = v10527 := by rw [eI10677, pp_ne _ _ (Or.inr (by decide))]; exact e10672
        have e10684 : I10677 (ad g 50) 4 = v10665 := by rw [eI10677, pp_ne _ _ (Or.inr (by decide))]; exact e10673
        have e10685 : I10677 (ad g 50) 5 = v10676 := by rw [eI10677, pp_self]
        have fr10686 : fz 74 g [50] I I10677 := by rw [eI10677]; exact fzx_pp hy fr10674 (by decide) (by decide)
        clear eI10677
        refine WP_aload_n dX6_load_151 rfl ?_
        refine WP_iload dX6_load_152 rfl ?_
        refine WQ_if_ne 163 dX6_load_154 rfl (fun c10686 => ?_) (fun c10686 => False.elim (by omega))
        refine WQ_iconst (0) (0) dX6_load_163 rfl rfl (fun v10688 hv10688 => ?_)
        refine WP_goto 168 dX6_load_164 rfl ?_
        refine WQ_puti dX6_load_168 fX6_57 rfl rfl (lyx_is hy 50 6 rfl) (fun I10689 eI10689 => ?_)
        have hI10689 : XI g n L I10689 := by rw [eI10689]; exact (xi_f hy hI10677 (c := 50) (0) (0) (2) (by decide) (Or.inl (by decide)) (by decide) (by omega) (by omega))
        have e10690 : I10689 (ad g 1) 1 = L := by rw [eI10689, pp_ne _ _ (Or.inl (lyx_ne hy (by decide) (by decide) (by decide)))]; exact e10678
        have e10691 : I10689 (ad g 6) 4 = v10070 := by rw [eI10689, pp_ne _ _ (Or.inl (lyx_ne hy (by decide) (by decide) (by decide)))]; exact e10679
        have e10692 : I10689 (ad g 50) 0 = v10501 := by rw [eI10689, pp_ne _ _ (Or.inr (by decide))]; exact e10680
        have e10693 : I10689 (ad g 50) 1 = v10507 := by rw [eI10689, pp_ne _ _ (Or.inr (by decide))]; exact e10681
        have e10694 : I10689 (ad g 50) 2 = v10514 := by rw [eI10689, pp_ne _ _ (Or.inr (by decide))]; exact e10682
        have e10695 : I10689 (ad g 50) 3 = v10527 := by rw [eI10689, pp_ne _ _ (Or.inr (by decide))]; exact e10683
        have e10696 : I10689 (ad g 50) 4 = v10665 := by rw [eI10689, pp_ne _ _ (Or.inr (by decide))]; exact e10684
        have e10697 : I10689 (ad g 50) 5 = v10676 := by rw [eI10689, pp_ne _ _ (Or.inr (by decide))]; exact e10685
        have e10698 : I10689 (ad g 50) 6 = v10688 := by rw [eI10689, pp_self]
        have fr10699 : fz 74 g [50] I I10689 := by rw [eI10689]; exact fzx_pp hy fr10686 (by decide) (by decide)
        clear eI10689
        refine WP_aload_n dX6_load_171 rfl ?_
        refine WP_aload_n dX6_load_172 rfl ?_
        refine WQ_getim dX6_load_173 fX6_9 rfl (lyx_is hy 50 6 rfl) e10692 ?_
        refine WQ_iconst (-1) (-1) dX6_load_176 rfl rfl (fun v10700 hv10700 => ?_)
        refine WQ_icmp_eq 193 dX6_load_177 rfl (fun c10700 => False.elim (by omega)) (fun c10700 => ?_)
        refine WP_aload_n dX6_load_180 rfl ?_
        refine WQ_getim dX6_load_181 fX6_9 rfl (lyx_is hy 50 6 rfl) e10692 ?_
        refine WP_iload dX6_load_184 rfl ?_
        refine WQ_icmp_ne 193 dX6_load_186 rfl (fun c10701 => ?_) (fun c10701 => False.elim (by omega))
        refine WQ_iconst (0) (0) dX6_load_193 rfl rfl (fun v10703 hv10703 => ?_)
        refine WQ_putz dX6_load_194 fX6_60 rfl rfl (by omega) (lyx_is hy 50 6 rfl) (fun I10704 eI10704 => ?_)
        have hI10704 : XI g n L I10704 := by rw [eI10704]; exact (xi_f hy hI10689 (c := 50) (0) (0) (1) (by decide) (Or.inl (by decide)) (by decide) (by omega) (by omega))
        have e10705 : I10704 (ad g 1) 1 = L := by rw [eI10704, pp_ne _ _ (Or.inl (lyx_ne hy (by decide) (by decide) (by decide)))]; exact e10690
        have e10706 : I10704 (ad g 6) 4 = v10070 := by rw [eI10704, pp_ne _ _ (Or.inl (lyx_ne hy (by decide) (by decide) (by decide)))]; exact e10691
        have e10707 : I10704 (ad g 50) 0 = v10501 := by rw [eI10704, pp_ne _ _ (Or.inr (by decide))]; exact e10692
        have e10708 : I10704 (ad g 50) 1 = v10507 := by rw [eI10704, pp_ne _ _ (Or.inr (by decide))]; exact e10693
        have e10709 : I10704 (ad g 50) 2 = v10514 := by rw [eI10704, pp_ne _ _ (Or.inr (by decide))]; exact e10694
        have e10710 : I10704 (ad g 50) 3 = v10527 := by rw [eI10704, pp_ne _ _ (Or.inr (by decide))]; exact e10695
        have e10711 : I10704 (ad g 50) 4 = v10665 := by rw [eI10704, pp_ne _ _ (Or.inr (by decide))]; exact e10696
        have e10712 : I10704 (ad g 50) 5 = v10676 := by rw [eI10704, pp_ne _ _ (Or.inr (by decide))]; exact e10697
        have e10713 : I10704 (ad g 50) 6 = v10688 := by rw [eI10704, pp_ne _ _ (Or.inr (by decide))]; exact e10698
        have e10714 : I10704 (ad g 50) 7 = v10703 := by rw [eI10704, pp_self]
        have fr10715 : fz 74 g [50] I I10704 := by rw [eI10704]; exact fzx_pp hy fr10699 (by decide) (by decide)
        clear eI10704
        refine WP_aload_n dX6_load_197 rfl ?_
        refine WP_aload_n dX6_load_198 rfl ?_
        refine WP_getr dX6_load_199 fX6_64 rfl (lyx_is hy 5 0 rfl) (rfx hr 5 2 23 (by decide)) ?_
        refine WP_iload_n dX6_load_202 rfl ?_
        refine WQ_iald dX6_load_203 (lyx_is hy 23 13 rfl) (lyx_n hy 23 7 rfl) (by omega) (by omega) (fun q hq => BT_get hI10704.1 23 0 7 (0) (0) (900) (by decide) q (Nat.zero_le _) hq) (fun v10716 av10716 bv10716 ev10716 => ?_)
        clear ev10716
        refine WQ_if_le 211 dX6_load_204 rfl (fun c10716 => ?_) (fun c10716 => ?_)
        · refine WQ_iconst (0) (0) dX6_load_211 rfl rfl (fun v10718 hv10718 => ?_)
          refine WQ_putz dX6_load_212 fX6_67 rfl rfl (by omega) (lyx_is hy 50 6 rfl) (fun I10719 eI10719 => ?_)
          have hI10719 : XI g n L I10719 := by rw [eI10719]; exact (xi_f hy hI10704 (c := 50) (0) (0) (1) (by decide) (Or.inl (by decide)) (by decide) (by omega) (by omega))
          have e10720 : I10719 (ad g 1) 1 = L := by rw [eI10719, pp_ne _ _ (Or.inl (lyx_ne hy (by decide) (by decide) (by decide)))]; exact e10705
          have e10721 : I10719 (ad g 6) 4 = v10070 := by rw [eI10719, pp_ne _ _ (Or.inl (lyx_ne hy (by decide) (by decide) (by decide)))]; exact e10706
          have e10722 : I10719 (ad g 50) 0 = v10501 := by rw [eI10719, pp_ne _ _ (Or.inr (by decide))]; exact e10707
          have e10723 : I10719 (ad g 50) 1 = v10507 := by rw [eI10719, pp_ne _ _ (Or.inr (by decide))]; exact e10708
          have e10724 : I10719 (ad g 50) 2 = v10514 := by rw [eI10719, pp_ne _ _ (Or.inr (by decide))]; exact e10709
          have e10725 : I10719 (ad g 50) 3 = v10527 := by rw [eI10719, pp_ne _ _ (Or.inr (by decide))]; exact e10710
          have e10726 : I10719 (ad g 50) 4 = v10665 := by rw [eI10719, pp_ne _ _ (Or.inr (by decide))]; exact e10711
          have e10727 : I10719 (ad g 50) 5 = v10676 := by rw [eI10719, pp_ne _ _ (Or.inr (by decide))]; exact e10712
          have e10728 : I10719 (ad g 50) 6 = v10688 := by rw [eI10719, pp_ne _ _ (Or.inr (by decide))]; exact e10713
          have e10729 : I10719 (ad g 50) 7 = v10703 := by rw [eI10719, pp_ne _ _ (Or.inr (by decide))]; exact e10714
          have e10730 : I10719 (ad g 50) 8 = v10718 := by rw [eI10719, pp_self]
          have fr10731 : fz 74 g [50] I I10719 := by rw [eI10719]; exact fzx_pp hy fr10715 (by decide) (by decide)
          clear eI10719
          exact WP_vret dX6_load_215 rfl ⟨⟨hI10719, rfl, fr10731, rfl, (by
                have yill : I (ad g (6 + 5)) so.toInt.toNat >>> (nI da.toInt.toNat &&& 31) &&& 1 = v10074 := by rw [show I (ad g (6 + 5)) so.toInt.toNat = v10071 from yv10071, show nI da.toInt.toNat = da from (eq32 _ _).mpr (by rw [nI_toInt (by omega)]; omega), xv10074, xv10072, (eq32 v10073 1).mpr hv10073]
                have yst : I (ad g 6) 4 = v10070 := est
                unfold LD
                simp only [e10722, e10723, e10724, e10725, e10726, e10727, e10728, e10729, yill, yst, show I (ad g (6 + 7)) _ = _ from yv10501, show I (ad g (6 + 8)) _ = _ from yv10507, show I (ad g (6 + 9)) _ = _ from yv10514, yv10527, true_and, and_true]
                omega)⟩, rfl⟩
        · refine WQ_iconst (1) (1) dX6_load_207 rfl rfl (fun v10732 hv10732 => ?_)
          refine WP_goto 212 dX6_load_208 rfl ?_
          refine WQ_putz dX6_load_212 fX6_67 rfl rfl (by omega) (lyx_is hy 50 6 rfl) (fun I10733 eI10733 => ?_)
          have hI10733 : XI g n L I10733 := by rw [eI10733]; exact (xi_f hy hI10704 (c := 50) (0) (0) (1) (by decide) (Or.inl (by decide)) (by decide) (by omega) (by omega))
          have e10734 : I10733 (ad g 1) 1 = L := by rw [eI10733, pp_ne _ _ (Or.inl (lyx_ne hy (by decide) (by decide) (by decide)))]; exact e10705
          have e10735 : I10733 (ad g 6) 4 = v10070 := by rw [eI10733, pp_ne _ _ (Or.inl (lyx_ne hy (by decide) (by decide) (by decide)))]; exact e10706
          have e10736 : I10733 (ad g 50) 0 = v10501 := by rw [eI10733, pp_ne _ _ (Or.inr (by decide))]; exact e10707
          have e10737 : I10733 (ad g 50) 1 = v10507 := by rw [eI10733, pp_ne _ _ (Or.inr (by decide))]; exact e10708
          have e10738 : I10733 (ad g 50) 2 = v10514 := by rw [eI10733, pp_ne _ _ (Or.inr (by decide))]; exact e10709
          have e10739 : I10733 (ad g 50) 3 = v10527 := by rw [eI10733, pp_ne _ _ (Or.inr (by decide))]; exact e10710
          have e10740 : I10733 (ad g 50) 4 = v10665 := by rw [eI10733, pp_ne _ _ (Or.inr (by decide))]; exact e10711
          have e10741 : I10733 (ad g 50) 5 = v10676 := by rw [eI10733, pp_ne _ _ (Or.inr (by decide))]; exact e10712
          have e10742 : I10733 (ad g 50) 6 = v10688 := by rw [eI10733, pp_ne _ _ (Or.inr (by decide))]; exact e10713
          have e10743 : I10733 (ad g 50) 7 = v10703 := by rw [eI10733, pp_ne _ _ (Or.inr (by decide))]; exact e10714
          have e10744 : I10733 (ad g 50) 8 = v10732 := by rw [eI10733, pp_self]
          have fr10745 : fz 74 g [50] I I10733 := by rw [eI10733]; exact fzx_pp hy fr10715 (by decide) (by decide)
          clear eI10733
          exact WP_vret dX6_load_215 rfl ⟨⟨hI10733, rfl, fr10745, rfl, (by
                have yill : I (ad g (6 + 5)) so.toInt.toNat >>> (nI da.toInt.toNat &&& 31) &&& 1 = v10074 := by rw [show I (ad g (6 + 5)) so.toInt.toNat = v10071 from yv10071, show nI da.toInt.toNat = da from (eq32 _ _).mpr (by rw [nI_toInt (by omega)]; omega), xv10074, xv10072, (eq32 v10073 1).mpr hv10073]
                have yst : I (ad g 6) 4 = v10070 := est
                unfold LD
                simp only [e10736, e10737, e10738, e10739, e10740, e10741, e10742, e10743, yill, yst, show I (ad g (6 + 7)) _ = _ from yv10501, show I (ad g (6 + 8)) _ = _ from yv10507, show I (ad g (6 + 9)) _ = _ from yv10514, yv10527, true_and, and_true]
                omega)⟩, rfl⟩
    · refine WQ_iconst (0) (0) dX6_load_87 rfl rfl (fun v10746 hv10746 => ?_)
      refine WP_goto 105 dX6_load_88 rfl ?_
      refine WQ_puti dX6_load_105 fX6_48 rfl rfl (lyx_is hy 50 6 rfl) (fun I10747 eI10747 => ?_)
      have hI10747 : XI g n L I10747 := by rw [eI10747]; exact (xi_f hy hI10515 (c := 50) (0) (0) (20) (by decide) (Or.inl (by decide)) (by decide) (by omega) (by omega))
      have e10748 : I10747 (ad g 1) 1 = L := by rw [eI10747, pp_ne _ _ (Or.inl (lyx_ne hy (by decide) (by decide) (by decide)))]; exact e10516
      have e10749 : I10747 (ad g 6) 4 = v10070 := by rw [eI10747, pp_ne _ _ (Or.inl (lyx_ne hy (by decide) (by decide) (by decide)))]; exact e10517
      have e10750 : I10747 (ad g 50) 0 = v10501 := by rw [eI10747, pp_ne _ _ (Or.inr (by decide))]; exact e10518
      have e10751 : I10747 (ad g 50) 1 = v10507 := by rw [eI10747, pp_ne _ _ (Or.inr (by decide))]; exact e10519
      have e10752 : I10747 (ad g 50) 2 = v10514 := by rw [eI10747, pp_ne _ _ (Or.inr (by decide))]; exact e10520
      have e10753 : I10747 (ad g 50) 3 = v10746 := by rw [eI10747, pp_self]
      have fr10754 : fz 74 g [50] I I10747 := by rw [eI10747]; exact fzx_pp hy fr10521 (by decide) (by decide)
      clear eI10747
      refine WP_aload_n dX6_load_108 rfl ?_
      refine WP_iload dX6_load_109 rfl ?_
      refine WQ_iconst (-1) (-1) dX6_load_111 rfl rfl (fun v10755 hv10755 => ?_)
      refine WQ_icmp_ne 119 dX6_load_112 rfl (fun c10755 => ?_) (fun c10755 => ?_)
      · refine WP_aload_n dX6_load_119 rfl ?_
        refine WP_getr dX6_load_120 fX6_45 rfl (lyx_is hy 5 0 rfl) (rfx hr 5 1 22 (by decide)) ?_
        refine WP_iload dX6_load_123 rfl ?_
        refine WQ_bipush (7) (7) dX6_load_125 rfl rfl (fun v10757 hv10757 => ?_)
        refine WQ_imulk (7) dX6_load_127 hv10757 (by omega) (by omega) (fun v10758 hv10758 => ?_)
        refine WP_iload_n dX6_load_128 rfl ?_
        refine WQ_iadd dX6_load_129 (by omega) (by omega) (fun v10759 hv10759 => ?_)
        refine WQ_ialdb dX6_load_130 (lyx_is hy 22 13 rfl) (lyx_n hy 22 21 rfl) (by omega) (by omega) (fun q hq => BT_get hI10747.1 22 0 21 (0) (0) (20) (by decide) q (Nat.zero_le _) hq) (fun v10760 av10760 bv10760 zv10760 => ?_)
        have yv10760 : I (ad g 22) (7 * v10070.toInt + da.toInt).toNat = v10760 := by rw [← fz_at fr10754 22 (by decide) (by decide), show (7 * v10070.toInt + da.toInt).toNat = v10759.toInt.toNat by omega]; exact zv10760
        refine WQ_puti dX6_load_131 fX6_51 rfl rfl (lyx_is hy 50 6 rfl) (fun I10761 eI10761 => ?_)
        have hI10761 : XI g n L I10761 := by rw [eI10761]; exact (xi_f hy hI10747 (c := 50) (0) (0) (20) (by decide) (Or.inl (by decide)) (by decide) (by omega) (by omega))
        have e10762 : I10761 (ad g 1) 1 = L := by rw [eI10761, pp_ne _ _ (Or.inl (lyx_ne hy (by decide) (by decide) (by decide)))]; exact e10748
        have e10763 : I10761 (ad g 6) 4 = v10070 := by rw [eI10761, pp_ne _ _ (Or.inl (lyx_ne hy (by decide) (by decide) (by decide)))]; exact e10749
        have e10764 : I10761 (ad g 50) 0 = v10501 := by rw [eI10761, pp_ne _ _ (Or.inr (by decide))]; exact e10750
        have e10765 : I10761 (ad g 50) 1 = v10507 := by rw [eI10761, pp_ne _ _ (Or.inr (by decide))]; exact e10751
        have e10766 : I10761 (ad g 50) 2 = v10514 := by rw [eI10761, pp_ne _ _ (Or.inr (by decide))]; exact e10752
        have e10767 : I10761 (ad g 50) 3 = v10746 := by rw [eI10761, pp_ne _ _ (Or.inr (by decide))]; exact e10753
        have e10768 : I10761 (ad g 50) 4 = v10760 := by rw [eI10761, pp_self]
        have fr10769 : fz 74 g [50] I I10761 := by rw [eI10761]; exact fzx_pp hy fr10754 (by decide) (by decide)
        clear eI10761
        refine WP_aload_n dX6_load_134 rfl ?_
        refine WP_iload dX6_load_135 rfl ?_
        refine WQ_if_eq 144 dX6_load_137 rfl (fun c10769 => False.elim (by omega)) (fun c10769 => ?_)
        refine WQ_iconst (0) (0) dX6_load_140 rfl rfl (fun v10771 hv10771 => ?_)
        refine WP_goto 148 dX6_load_141 rfl ?_
        refine WQ_puti dX6_load_148 fX6_54 rfl rfl (lyx_is hy 50 6 rfl) (fun I10772 eI10772 => ?_)
        have hI10772 : XI g n L I10772 := by rw [eI10772]; exact (xi_f hy hI10761 (c := 50) (0) (0) (3) (by decide) (Or.inl (by decide)) (by decide) (by omega) (by omega))
        have e10773 : I10772 (ad g 1) 1 = L := by rw [eI10772, pp_ne _ _ (Or.inl (lyx_ne hy (by decide) (by decide) (by decide)))]; exact e10762
        have e10774 : I10772 (ad g 6) 4 = v10070 := by rw [eI10772, pp_ne _ _ (Or.inl (lyx_ne hy (by decide) (by decide) (by decide)))]; exact e10763
        have e10775 : I10772 (ad g 50) 0 = v10501 := by rw [eI10772, pp_ne _ _ (Or.inr (by decide))]; exact e10764
        have e10776 : I10772 (ad g 50) 1 = v10507 := by rw [eI10772, pp_ne _ _ (Or.inr (by decide))]; exact e10765
        have e10777 : I10772 (ad g 50) 2 = v10514 := by rw [eI10772, pp_ne _ _ (Or.inr (by decide))]; exact e10766
        have e10778 : I10772 (ad g 50) 3 = v10746 := by rw [eI10772, pp_ne _ _ (Or.inr (by decide))]; exact e10767
        have e10779 : I10772 (ad g 50) 4 = v10760 := by rw [eI10772, pp_ne _ _ (Or.inr (by decide))]; exact e10768
        have e10780 : I10772 (ad g 50) 5 = v10771 := by rw [eI10772, pp_self]
        have fr10781 : fz 74 g [50] I I10772 := by rw [eI10772]; exact fzx_pp hy fr10769 (by decide) (by decide)
        clear eI10772
        refine WP_aload_n dX6_load_151 rfl ?_
        refine WP_iload dX6_load_152 rfl ?_
        refine WQ_if_ne 163 dX6_load_154 rfl (fun c10781 => ?_) (fun c10781 => False.elim (by omega))
        refine WQ_iconst (0) (0) dX6_load_163 rfl rfl (fun v10783 hv10783 => ?_)
        refine WP_goto 168 dX6_load_164 rfl ?_
        refine WQ_puti dX6_load_168 fX6_57 rfl rfl (lyx_is hy 50 6 rfl) (fun I10784 eI10784 => ?_)
        have hI10784 : XI g n L I10784 := by rw [eI10784]; exact (xi_f hy hI10772 (c := 50) (0) (0) (2) (by decide) (Or.inl (by decide)) (by decide) (by omega) (by omega))
        have e10785 : I10784 (ad g 1) 1 = L := by rw [eI10784, pp_ne _ _ (Or.inl (lyx_ne hy (by decide) (by decide) (by decide)))]; exact e10773
        have e10786 : I10784 (ad g 6) 4 = v10070 := by rw [eI10784, pp_ne _ _ (Or.inl (lyx_ne hy (by decide) (by decide) (by decide)))]; exact e10774
        have e10787 : I10784 (ad g 50) 0 = v10501 := by rw [eI10784, pp_ne _ _ (Or.inr (by decide))]; exact e10775
        have e10788 : I10784 (ad g 50) 1 = v10507 := by rw [eI10784, pp_ne _ _ (Or.inr (by decide))]; exact e10776
        have e10789 : I10784 (ad g 50) 2 = v10514 := by rw [eI10784, pp_ne _ _ (Or.inr (by decide))]; exact e10777
        have e10790 : I10784 (ad g 50) 3 = v10746 := by rw [eI10784, pp_ne _ _ (Or.inr (by decide))]; exact e10778
        have e10791 : I10784 (ad g 50) 4 = v10760 := by rw [eI10784, pp_ne _ _ (Or.inr (by decide))]; exact e10779
        have e10792 : I10784 (ad g 50) 5 = v10771 := by rw [eI10784, pp_ne _ _ (Or.inr (by decide))]; exact e10780
        have e10793 : I10784 (ad g 50) 6 = v10783 := by rw [eI10784, pp_self]
        have fr10794 : fz 74 g [50] I I10784 := by rw [eI10784]; exact fzx_pp hy fr10781 (by decide) (by decide)
        clear eI10784
        refine WP_aload_n dX6_load_171 rfl ?_
        refine WP_aload_n dX6_load_172 rfl ?_
        refine WQ_getim dX6_load_173 fX6_9 rfl (lyx_is hy 50 6 rfl) e10787 ?_
        refine WQ_iconst (-1) (-1) dX6_load_176 rfl rfl (fun v10795 hv10795 => ?_)
        refine WQ_icmp_eq 193 dX6_load_177 rfl (fun c10795 => ?_) (fun c10795 => False.elim (by omega))
        refine WQ_iconst (0) (0) dX6_load_193 rfl rfl (fun v10797 hv10797 => ?_)
        refine WQ_putz dX6_load_194 fX6_60 rfl rfl (by omega) (lyx_is hy 50 6 rfl) (fun I10798 eI10798 => ?_)
        have hI10798 : XI g n L I10798 := by rw [eI10798]; exact (xi_f hy hI10784 (c := 50) (0) (0) (1) (by decide) (Or.inl (by decide)) (by decide) (by omega) (by omega))
        have e10799 : I10798 (ad g 1) 1 = L := by rw [eI10798, pp_ne _ _ (Or.inl (lyx_ne hy (by decide) (by decide) (by decide)))]; exact e10785
        have e10800 : I10798 (ad g 6) 4 = v10070 := by rw [eI10798, pp_ne _ _ (Or.inl (lyx_ne hy (by decide) (by decide) (by decide)))]; exact e10786
        have e10801 : I10798 (ad g 50) 0 = v10501 := by rw [eI10798, pp_ne _ _ (Or.inr (by decide))]; exact e10787
        have e10802 : I10798 (ad g 50) 1 = v10507 := by rw [eI10798, pp_ne _ _ (Or.inr (by decide))]; exact e10788
        have e10803 : I10798 (ad g 50) 2 = v10514 := by rw [eI10798, pp_ne _ _ (Or.inr (by decide))]; exact e10789
        have e10804 : I10798 (ad g 50) 3 = v10746 := by rw [eI10798, pp_ne _ _ (Or.inr (by decide))]; exact e10790
        have e10805 : I10798 (ad g 50) 4 = v10760 := by rw [eI10798, pp_ne _ _ (Or.inr (by decide))]; exact e10791
        have e10806 : I10798 (ad g 50) 5 = v10771 := by rw [eI10798, pp_ne _ _ (Or.inr (by decide))]; exact e10792
        have e10807 : I10798 (ad g 50) 6 = v10783 := by rw [eI10798, pp_ne _ _ (Or.inr (by decide))]; exact e10793
        have e10808 : I10798 (ad g 50) 7 = v10797 := by rw [eI10798, pp_self]
        have fr10809 : fz 74 g [50] I I10798 := by rw [eI10798]; exact fzx_pp hy fr10794 (by decide) (by decide)
        clear eI10798
        refine WP_aload_n dX6_load_197 rfl ?_
        refine WP_aload_n dX6_load_198 rfl ?_
        refine WP_getr dX6_load_199 fX6_64 rfl (lyx_is hy 5 0 rfl) (rfx hr 5 2 23 (by decide)) ?_
        refine WP_iload_n dX6_load_202 rfl ?_
        refine WQ_iald dX6_load_203 (lyx_is hy 23 13 rfl) (lyx_n hy 23 7 rfl) (by omega) (by omega) (fun q hq => BT_get hI10798.1 23 0 7 (0) (0) (900) (by decide) q (Nat.zero_le _) hq) (fun v10810 av10810 bv10810 ev10810 => ?_)
        clear ev10810
        refine WQ_if_le 211 dX6_load_204 rfl (fun c10810 => ?_) (fun c10810 => ?_)
        · refine WQ_iconst (0) (0) dX6_load_211 rfl rfl (fun v10812 hv10812 => ?_)
          refine WQ_putz dX6_load_212 fX6_67 rfl rfl (by omega) (lyx_is hy 50 6 rfl) (fun I10813 eI10813 => ?_)
          have hI10813 : XI g n L I10813 := by rw [eI10813]; exact (xi_f hy hI10798 (c := 50) (0) (0) (1) (by decide) (Or.inl (by decide)) (by decide) (by omega) (by omega))
          have e10814 : I10813 (ad g 1) 1 = L := by rw [eI10813, pp_ne _ _ (Or.inl (lyx_ne hy (by decide) (by decide) (by decide)))]; exact e10799
          have e10815 : I10813 (ad g 6) 4 = v10070 := by rw [eI10813, pp_ne _ _ (Or.inl (lyx_ne hy (by decide) (by decide) (by decide)))]; exact e10800
          have e10816 : I10813 (ad g 50) 0 = v10501 := by rw [eI10813, pp_ne _ _ (Or.inr (by decide))]; exact e10801
          have e10817 : I10813 (ad g 50) 1 = v10507 := by rw [eI10813, pp_ne _ _ (Or.inr (by decide))]; exact e10802
          have e10818 : I10813 (ad g 50) 2 = v10514 := by rw [eI10813, pp_ne _ _ (Or.inr (by decide))]; exact e10803
          have e10819 : I10813 (ad g 50) 3 = v10746 := by rw [eI10813, pp_ne _ _ (Or.inr (by decide))]; exact e10804
          have e10820 : I10813 (ad g 50) 4 = v10760 := by rw [eI10813, pp_ne _ _ (Or.inr (by decide))]; exact e10805
          have e10821 : I10813 (ad g 50) 5 = v10771 := by rw [eI10813, pp_ne _ _ (Or.inr (by decide))]; exact e10806
          have e10822 : I10813 (ad g 50) 6 = v10783 := by rw [eI10813, pp_ne _ _ (Or.inr (by decide))]; exact e10807
          have e10823 : I10813 (ad g 50) 7 = v10797 := by rw [eI10813, pp_ne _ _ (Or.inr (by decide))]; exact e10808
          have e10824 : I10813 (ad g 50) 8 = v10812 := by rw [eI10813, pp_self]
          have fr10825 : fz 74 g [50] I I10813 := by rw [eI10813]; exact fzx_pp hy fr10809 (by decide) (by decide)
          clear eI10813
          exact WP_vret dX6_load_215 rfl ⟨⟨hI10813, rfl, fr10825, rfl, (by
                have yill : I (ad g (6 + 5)) so.toInt.toNat >>> (nI da.toInt.toNat &&& 31) &&& 1 = v10074 := by rw [show I (ad g (6 + 5)) so.toInt.toNat = v10071 from yv10071, show nI da.toInt.toNat = da from (eq32 _ _).mpr (by rw [nI_toInt (by omega)]; omega), xv10074, xv10072, (eq32 v10073 1).mpr hv10073]
                have yst : I (ad g 6) 4 = v10070 := est
                unfold LD
                simp only [e10816, e10817, e10818, e10819, e10820, e10821, e10822, e10823, yill, yst, show I (ad g (6 + 7)) _ = _ from yv10501, show I (ad g (6 + 8)) _ = _ from yv10507, show I (ad g (6 + 9)) _ = _ from yv10514, yv10760, true_and, and_true]
                omega)⟩, rfl⟩
        · refine WQ_iconst (1) (1) dX6_load_207 rfl rfl (fun v10826 hv10826 => ?_)
          refine WP_goto 212 dX6_load_208 rfl ?_
          refine WQ_putz dX6_load_212 fX6_67 rfl rfl (by omega) (lyx_is hy 50 6 rfl) (fun I10827 eI10827 => ?_)
          have hI10827 : XI g n L I10827 := by rw [eI10827]; exact (xi_f hy hI10798 (c := 50) (0) (0) (1) (by decide) (Or.inl (by decide)) (by decide) (by omega) (by omega))
          have e10828 : I10827 (ad g 1) 1 = L := by rw [eI10827, pp_ne _ _ (Or.inl (lyx_ne hy (by decide) (by decide) (by decide)))]; exact e10799
          have e10829 : I10827 (ad g 6) 4 = v10070 := by rw [eI10827, pp_ne _ _ (Or.inl (lyx_ne hy (by decide) (by decide) (by decide)))]; exact e10800
          have e10830 : I10827 (ad g 50) 0 = v10501 := by rw [eI10827, pp_ne _ _ (Or.inr (by decide))]; exact e10801
          have e10831 : I10827 (ad g 50) 1 = v10507 := by rw [eI10827, pp_ne _ _ (Or.inr (by decide))]; exact e10802
          have e10832 : I10827 (ad g 50) 2 = v10514 := by rw [eI10827, pp_ne _ _ (Or.inr (by decide))]; exact e10803
          have e10833 : I10827 (ad g 50) 3 = v10746 := by rw [eI10827, pp_ne _ _ (Or.inr (by decide))]; exact e10804
          have e10834 : I10827 (ad g 50) 4 = v10760 := by rw [eI10827, pp_ne _ _ (Or.inr (by decide))]; exact e10805
          have e10835 : I10827 (ad g 50) 5 = v10771 := by rw [eI10827, pp_ne _ _ (Or.inr (by decide))]; exact e10806
          have e10836 : I10827 (ad g 50) 6 = v10783 := by rw [eI10827, pp_ne _ _ (Or.inr (by decide))]; exact e10807
          have e10837 : I10827 (ad g 50) 7 = v10797 := by rw [eI10827, pp_ne _ _ (Or.inr (by decide))]; exact e10808
          have e10838 : I10827 (ad g 50) 8 = v10826 := by rw [eI10827, pp_self]
          have fr10839 : fz 74 g [50] I I10827 := by rw [eI10827]; exact fzx_pp hy fr10809 (by decide) (by decide)
          clear eI10827
          exact WP_vret dX6_load_215 rfl ⟨⟨hI10827, rfl, fr10839, rfl, (by
                have yill : I (ad g (6 + 5)) so.toInt.toNat >>> (nI da.toInt.toNat &&& 31) &&& 1 = v10074 := by rw [show I (ad g (6 + 5)) so.toInt.toNat = v10071 from yv10071, show nI da.toInt.toNat = da from (eq32 _ _).mpr (by rw [nI_toInt (by omega)]; omega), xv10074, xv10072, (eq32 v10073 1).mpr hv10073]
                have yst : I (ad g 6) 4 = v10070 := est
                unfold LD
                simp only [e10830, e10831, e10832, e10833, e10834, e10835, e10836, e10837, yill, yst, show I (ad g (6 + 7)) _ = _ from yv10501, show I (ad g (6 + 8)) _ = _ from yv10507, show I (ad g (6 + 9)) _ = _ from yv10514, yv10760, true_and, and_true]
                omega)⟩, rfl⟩
      · refine WQ_iconst (0) (0) dX6_load_115 rfl rfl (fun v10840 hv10840 => ?_)
        refine WP_goto 131 dX6_load_116 rfl ?_
        refine WQ_puti dX6_load_131 fX6_51 rfl rfl (lyx_is hy 50 6 rfl) (fun I10841 eI10841 => ?_)
        have hI10841 : XI g n L I10841 := by rw [eI10841]; exact (xi_f hy hI10747 (c := 50) (0) (0) (20) (by decide) (Or.inl (by decide)) (by decide) (by omega) (by omega))
        have e10842 : I10841 (ad g 1) 1 = L := by rw [eI10841, pp_ne _ _ (Or.inl (lyx_ne hy (by decide) (by decide) (by decide)))]; exact e10748
        have e10843 : I10841 (ad g 6) 4 = v10070 := by rw [eI10841, pp_ne _ _ (Or.inl (lyx_ne hy (by decide) (by decide) (by decide)))]; exact e10749
        have e10844 : I10841 (ad g 50) 0 = v10501 := by rw [eI10841, pp_ne _ _ (Or.inr (by decide))]; exact e10750
        have e10845 : I10841 (ad g 50) 1 = v10507 := by rw [eI10841, pp_ne _ _ (Or.inr (by decide))]; exact e10751
        have e10846 : I10841 (ad g 50) 2 = v10514 := by rw [eI10841, pp_ne _ _ (Or.inr (by decide))]; exact e10752
        have e10847 : I10841 (ad g 50) 3 = v10746 := by rw [eI10841, pp_ne _ _ (Or.inr (by decide))]; exact e10753
        have e10848 : I10841 (ad g 50) 4 = v10840 := by rw [eI10841, pp_self]
        have fr10849 : fz 74 g [50] I I10841 := by rw [eI10841]; exact fzx_pp hy fr10754 (by decide) (by decide)
        clear eI10841
        refine WP_aload_n dX6_load_134 rfl ?_
        refine WP_iload dX6_load_135 rfl ?_
        refine WQ_if_eq 144 dX6_load_137 rfl (fun c10849 => False.elim (by omega)) (fun c10849 => ?_)
        refine WQ_iconst (0) (0) dX6_load_140 rfl rfl (fun v10851 hv10851 => ?_)
        refine WP_goto 148 dX6_load_141 rfl ?_
        refine WQ_puti dX6_load_148 fX6_54 rfl rfl (lyx_is hy 50 6 rfl) (fun I10852 eI10852 => ?_)
        have hI10852 : XI g n L I10852 := by rw [eI10852]; exact (xi_f hy hI10841 (c := 50) (0) (0) (3) (by decide) (Or.inl (by decide)) (by decide) (by omega) (by omega))
        have e10853 : I10852 (ad g 1) 1 = L := by rw [eI10852, pp_ne _ _ (Or.inl (lyx_ne hy (by decide) (by decide) (by decide)))]; exact e10842
        have e10854 : I10852 (ad g 6) 4 = v10070 := by rw [eI10852, pp_ne _ _ (Or.inl (lyx_ne hy (by decide) (by decide) (by decide)))]; exact e10843
        have e10855 : I10852 (ad g 50) 0 = v10501 := by rw [eI10852, pp_ne _ _ (Or.inr (by decide))]; exact e10844
        have e10856 : I10852 (ad g 50) 1 = v10507 := by rw [eI10852, pp_ne _ _ (Or.inr (by decide))]; exact e10845
        have e10857 : I10852 (ad g 50) 2 = v10514 := by rw [eI10852, pp_ne _ _ (Or.inr (by decide))]; exact e10846
        have e10858 : I10852 (ad g 50) 3 = v10746 := by rw [eI10852, pp_ne _ _ (Or.inr (by decide))]; exact e10847
        have e10859 : I10852 (ad g 50) 4 = v10840 := by rw [eI10852, pp_ne _ _ (Or.inr (by decide))]; exact e10848
        have e10860 : I10852 (ad g 50) 5 = v10851 := by rw [eI10852, pp_self]
        have fr10861 : fz 74 g [50] I I10852 := by rw [eI10852]; exact fzx_pp hy fr10849 (by decide) (by decide)
        clear eI10852
        refine WP_aload_n dX6_load_151 rfl ?_
        refine WP_iload dX6_load_152 rfl ?_
        refine WQ_if_ne 163 dX6_load_154 rfl (fun c10861 => ?_) (fun c10861 => False.elim (by omega))
        refine WQ_iconst (0) (0) dX6_load_163 rfl rfl (fun v10863 hv10863 => ?_)
        refine WP_goto 168 dX6_load_164 rfl ?_
        refine WQ_puti dX6_load_168 fX6_57 rfl rfl (lyx_is hy 50 6 rfl) (fun I10864 eI10864 => ?_)
        have hI10864 : XI g n L I10864 := by rw [eI10864]; exact (xi_f hy hI10852 (c := 50) (0) (0) (2) (by decide) (Or.inl (by decide)) (by decide) (by omega) (by omega))
        have e10865 : I10864 (ad g 1) 1 = L := by rw [eI10864, pp_ne _ _ (Or.inl (lyx_ne hy (by decide) (by decide) (by decide)))]; exact e10853
        have e10866 : I10864 (ad g 6) 4 = v10070 := by rw [eI10864, pp_ne _ _ (Or.inl (lyx_ne hy (by decide) (by decide) (by decide)))]; exact e10854
        have e10867 : I10864 (ad g 50) 0 = v10501 := by rw [eI10864, pp_ne _ _ (Or.inr (by decide))]; exact e10855
        have e10868 : I10864 (ad g 50) 1 = v10507 := by rw [eI10864, pp_ne _ _ (Or.inr (by decide))]; exact e10856
        have e10869 : I10864 (ad g 50) 2 = v10514 := by rw [eI10864, pp_ne _ _ (Or.inr (by decide))]; exact e10857
        have e10870 : I10864 (ad g 50) 3 = v10746 := by rw [eI10864, pp_ne _ _ (Or.inr (by decide))]; exact e10858
        have e10871 : I10864 (ad g 50) 4 = v10840 := by rw [eI10864, pp_ne _ _ (Or.inr (by decide))]; exact e10859
        have e10872 : I10864 (ad g 50) 5 = v10851 := by rw [eI10864, pp_ne _ _ (Or.inr (by decide))]; exact e10860
        have e10873 : I10864 (ad g 50) 6 = v10863 := by rw [eI10864, pp_self]
        have fr10874 : fz 74 g [50] I I10864 := by rw [eI10864]; exact fzx_pp hy fr10861 (by decide) (by decide)
        clear eI10864
        refine WP_aload_n dX6_load_171 rfl ?_
        refine WP_aload_n dX6_load_172 rfl ?_
        refine WQ_getim dX6_load_173 fX6_9 rfl (lyx_is hy 50 6 rfl) e10867 ?_
        refine WQ_iconst (-1) (-1) dX6_load_176 rfl rfl (fun v10875 hv10875 => ?_)
        refine WQ_icmp_eq 193 dX6_load_177 rfl (fun c10875 => ?_) (fun c10875 => False.elim (by omega))
        refine WQ_iconst (0) (0) dX6_load_193 rfl rfl (fun v10877 hv10877 => ?_)
        refine WQ_putz dX6_load_194 fX6_60 rfl rfl (by omega) (lyx_is hy 50 6 rfl) (fun I10878 eI10878 => ?_)
        have hI10878 : XI g n L I10878 := by rw [eI10878]; exact (xi_f hy hI10864 (c := 50) (0) (0) (1) (by decide) (Or.inl (by decide)) (by decide) (by omega) (by omega))
        have e10879 : I10878 (ad g 1) 1 = L := by rw [eI10878, pp_ne _ _ (Or.inl (lyx_ne hy (by decide) (by decide) (by decide)))]; exact e10865
        have e10880 : I10878 (ad g 6) 4 = v10070 := by rw [eI10878, pp_ne _ _ (Or.inl (lyx_ne hy (by decide) (by decide) (by decide)))]; exact e10866
        have e10881 : I10878 (ad g 50) 0 = v10501 := by rw [eI10878, pp_ne _ _ (Or.inr (by decide))]; exact e10867
        have e10882 : I10878 (ad g 50) 1 = v10507 := by rw [eI10878, pp_ne _ _ (Or.inr (by decide))]; exact e10868
        have e10883 : I10878 (ad g 50) 2 = v10514 := by rw [eI10878, pp_ne _ _ (Or.inr (by decide))]; exact e10869
        have e10884 : I10878 (ad g 50) 3 = v10746 := by rw [eI10878, pp_ne _ _ (Or.inr (by decide))]; exact e10870
        have e10885 : I10878 (ad g 50) 4 = v10840 := by rw [eI10878, pp_ne _ _ (Or.inr (by decide))]; exact e10871
        have e10886 : I10878 (ad g 50) 5 = v10851 := by rw [eI10878, pp_ne _ _ (Or.inr (by decide))]; exact e10872
        have e10887 : I10878 (ad g 50) 6 = v10863 := by rw [eI10878, pp_ne _ _ (Or.inr (by decide))]; exact e10873
        have e10888 : I10878 (ad g 50) 7 = v10877 := by rw [eI10878, pp_self]
        have fr10889 : fz 74 g [50] I I10878 := by rw [eI10878]; exact fzx_pp hy fr10874 (by decide) (by decide)
        clear eI10878
        refine WP_aload_n dX6_load_197 rfl ?_
        refine WP_aload_n dX6_load_198 rfl ?_
        refine WP_getr dX6_load_199 fX6_64 rfl (lyx_is hy 5 0 rfl) (rfx hr 5 2 23 (by decide)) ?_
        refine WP_iload_n dX6_load_202 rfl ?_
        refine WQ_iald dX6_load_203 (lyx_is hy 23 13 rfl) (lyx_n hy 23 7 rfl) (by omega) (by omega) (fun q hq => BT_get hI10878.1 23 0 7 (0) (0) (900) (by decide) q (Nat.zero_le _) hq) (fun v10890 av10890 bv10890 ev10890 => ?_)
        clear ev10890
        refine WQ_if_le 211 dX6_load_204 rfl (fun c10890 => ?_) (fun c10890 => ?_)
        · refine WQ_iconst (0) (0) dX6_load_211 rfl rfl (fun v10892 hv10892 => ?_)
          refine WQ_putz dX6_load_212 fX6_67 rfl rfl (by omega) (lyx_is hy 50 6 rfl) (fun I10893 eI10893 => ?_)
          have hI10893 : XI g n L I10893 := by rw [eI10893]; exact (xi_f hy hI10878 (c := 50) (0) (0) (1) (by decide) (Or.inl (by decide)) (by decide) (by omega) (by omega))
          have e10894 : I10893 (ad g 1) 1 = L := by rw [eI10893, pp_ne _ _ (Or.inl (lyx_ne hy (by decide) (by decide) (by decide)))]; exact e10879
          have e10895 : I10893 (ad g 6) 4 = v10070 := by rw [eI10893, pp_ne _ _ (Or.inl (lyx_ne hy (by decide) (by decide) (by decide)))]; exact e10880
          have e10896 : I10893 (ad g 50) 0 = v10501 := by rw [eI10893, pp_ne _ _ (Or.inr (by decide))]; exact e10881
          have e10897 : I10893 (ad g 50) 1 = v10507 := by rw [eI10893, pp_ne _ _ (Or.inr (by decide))]; exact e10882
          have e10898 : I10893 (ad g 50) 2 = v10514 := by rw [eI10893, pp_ne _ _ (Or.inr (by decide))]; exact e10883
          have e10899 : I10893 (ad g 50) 3 = v10746 := by rw [eI10893, pp_ne _ _ (Or.inr (by decide))]; exact e10884
          have e10900 : I10893 (ad g 50) 4 = v10840 := by rw [eI10893, pp_ne _ _ (Or.inr (by decide))]; exact e10885
          have e10901 : I10893 (ad g 50) 5 = v10851 := by rw [eI10893, pp_ne _ _ (Or.inr (by decide))]; exact e10886
          have e10902 : I10893 (ad g 50) 6 = v10863 := by rw [eI10893, pp_ne _ _ (Or.inr (by decide))]; exact e10887
          have e10903 : I10893 (ad g 50) 7 = v10877 := by rw [eI10893, pp_ne _ _ (Or.inr (by decide))]; exact e10888
          have e10904 : I10893 (ad g 50) 8 = v10892 := by rw [eI10893, pp_self]
          have fr10905 : fz 74 g [50] I I10893 := by rw [eI10893]; exact fzx_pp hy fr10889 (by decide) (by decide)
          clear eI10893
          exact WP_vret dX6_load_215 rfl ⟨⟨hI10893, rfl, fr10905, rfl, (by
                have yill : I (ad g (6 + 5)) so.toInt.toNat >>> (nI da.toInt.toNat &&& 31) &&& 1 = v10074 := by rw [show I (ad g (6 + 5)) so.toInt.toNat = v10071 from yv10071, show nI da.toInt.toNat = da from (eq32 _ _).mpr (by rw [nI_toInt (by omega)]; omega), xv10074, xv10072, (eq32 v10073 1).mpr hv10073]
                have yst : I (ad g 6) 4 = v10070 := est
                unfold LD
                simp only [e10896, e10897, e10898, e10899, e10900, e10901, e10902, e10903, yill, yst, show I (ad g (6 + 7)) _ = _ from yv10501, show I (ad g (6 + 8)) _ = _ from yv10507, show I (ad g (6 + 9)) _ = _ from yv10514, true_and, and_true]
                omega)⟩, rfl⟩
        · refine WQ_iconst (1) (1) dX6_load_207 rfl rfl (fun v10906 hv10906 => ?_)
          refine WP_goto 212 dX6_load_208 rfl ?_
          refine WQ_putz dX6_load_212 fX6_67 rfl rfl (by omega) (lyx_is hy 50 6 rfl) (fun I10907 eI10907 => ?_)
          have hI10907 : XI g n L I10907 := by rw [eI10907]; exact (xi_f hy hI10878 (c := 50) (0) (0) (1) (by decide) (Or.inl (by decide)) (by decide) (by omega) (by omega))
          have e10908 : I10907 (ad g 1) 1 = L := by rw [eI10907, pp_ne _ _ (Or.inl (lyx_ne hy (by decide) (by decide) (by decide)))]; exact e10879
          have e10909 : I10907 (ad g 6) 4 = v10070 := by rw [eI10907, pp_ne _ _ (Or.inl (lyx_ne hy (by decide) (by decide) (by decide)))]; exact e10880
          have e10910 : I10907 (ad g 50) 0 = v10501 := by rw [eI10907, pp_ne _ _ (Or.inr (by decide))]; exact e10881
          have e10911 : I10907 (ad g 50) 1 = v10507 := by rw [eI10907, pp_ne _ _ (Or.inr (by decide))]; exact e10882
          have e10912 : I10907 (ad g 50) 2 = v10514 := by rw [eI10907, pp_ne _ _ (Or.inr (by decide))]; exact e10883
          have e10913 : I10907 (ad g 50) 3 = v10746 := by rw [eI10907, pp_ne _ _ (Or.inr (by decide))]; exact e10884
          have e10914 : I10907 (ad g 50) 4 = v10840 := by rw [eI10907, pp_ne _ _ (Or.inr (by decide))]; exact e10885
          have e10915 : I10907 (ad g 50) 5 = v10851 := by rw [eI10907, pp_ne _ _ (Or.inr (by decide))]; exact e10886
          have e10916 : I10907 (ad g 50) 6 = v10863 := by rw [eI10907, pp_ne _ _ (Or.inr (by decide))]; exact e10887
          have e10917 : I10907 (ad g 50) 7 = v10877 := by rw [eI10907, pp_ne _ _ (Or.inr (by decide))]; exact e10888
          have e10918 : I10907 (ad g 50) 8 = v10906 := by rw [eI10907, pp_self]
          have fr10919 : fz 74 g [50] I I10907 := by rw [eI10907]; exact fzx_pp hy fr10889 (by decide) (by decide)
          clear eI10907
          exact WP_vret dX6_load_215 rfl ⟨⟨hI10907, rfl, fr10919, rfl, (by
                have yill : I (ad g (6 + 5)) so.toInt.toNat >>> (nI da.toInt.toNat &&& 31) &&& 1 = v10074 := by rw [show I (ad g (6 + 5)) so.toInt.toNat = v10071 from yv10071, show nI da.toInt.toNat = da from (eq32 _ _).mpr (by rw [nI_toInt (by omega)]; omega), xv10074, xv10072, (eq32 v10073 1).mpr hv10073]
                have yst : I (ad g 6) 4 = v10070 := est
                unfold LD
                simp only [e10910, e10911, e10912, e10913, e10914, e10915, e10916, e10917, yill, yst, show I (ad g (6 + 7)) _ = _ from yv10501, show I (ad g (6 + 8)) _ = _ from yv10507, show I (ad g (6 + 9)) _ = _ from yv10514, true_and, and_true]
                omega)⟩, rfl⟩
set_option maxHeartbeats 4000000 in
set_option maxRecDepth 100000 in
theorem sx_loadx_50_27 {g : GG} {n : Int} {L : Int32} (hy : LyX g)  {I : pI} {J : pJ} {R : pR} (hr : RfX g R) (hT : R (ad g 5) 0 = some (ad g 27)) (hI : XI g n L I) (so : Int32) (da : Int32) (so_lo : 0 ≤ so.toInt) (so_hi : so.toInt ≤ 3) (da_lo : 0 ≤ da.toInt) (da_hi : da.toInt ≤ 6) : SP g mX6_load [.ref (ad g 50), .ref (ad g 5), .int so, .int da] I J R (fun r I' J' R' => (XI g n L I' ∧ R' = R ∧ fz 74 g [50] I I' ∧ J' = J ∧ LD g 27 I so.toInt da.toInt (I' (ad g 50))) ∧ r = none) := by
  refine SP_of ⟨by decide, rfl⟩ (Nat.le_of_ble_eq_true rfl) ?_
  have e10920 : I (ad g 1) 1 = L := hI.2
  have b10921 := BT_get hI.1 1 1 2 (0) (0) (900) (by decide) 1 (by decide) (by decide)
  rw [e10920] at b10921
  have fr0 : fz 74 g [50] I I := fz_rf
  refine WP_aload_n dX6_load_0 rfl ?_
  refine WP_getr dX6_load_1 fX6_15 rfl (lyx_is hy 5 0 rfl) hT ?_
  refine WP_astore (ls' := [(0, _), (1, _), (2, _), (3, _), (4, _)]) dX6_load_4 (by decide) rfl ?_
  refine WP_iload_n dX6_load_6 rfl ?_
  refine WQ_bipush (7) (7) dX6_load_7 rfl rfl (fun v10922 hv10922 => ?_)
  refine WQ_imulk (7) dX6_load_9 hv10922 (by omega) (by omega) (fun v10923 hv10923 => ?_)
  refine WP_iload_n dX6_load_10 rfl ?_
  refine WQ_iadd dX6_load_11 (by omega) (by omega) (fun v10924 hv10924 => ?_)
  refine WP_istore (ls' := [(0, _), (1, _), (2, _), (3, _), (4, _), (5, _)]) dX6_load_12 (by decide) rfl ?_
  refine WP_aload dX6_load_14 rfl ?_
  refine WQ_geti dX6_load_16 fX6_21 rfl (lyx_is hy 27 7 rfl) (BT_get hI.1 27 4 5 (-1) (0) (2) (by decide) 4 (by decide) (by decide)) (fun v10925 ev10925 av10925 bv10925 => ?_)
  have est : I (ad g 27) 4 = v10925 := ev10925
  refine WP_istore (ls' := [(0, _), (1, _), (2, _), (3, _), (4, _), (5, _), (6, _)]) dX6_load_19 (by decide) rfl ?_
  refine WP_aload dX6_load_21 rfl ?_
  refine WP_getr dX6_load_23 fX6_26 rfl (lyx_is hy 27 7 rfl) (rfx hr 27 9 32 (by decide)) ?_
  refine WP_iload_n dX6_load_26 rfl ?_
  refine WQ_ialdx dX6_load_27 (lyx_is hy 32 13 rfl) (lyx_n hy 32 4 rfl) (by omega) (by omega) (fun v10926 zv10926 => ?_)
  have yv10926 : I (ad g 32) (so.toInt).toNat = v10926 := by rw [← fz_at fr0 32 (by decide) (by decide), show (so.toInt).toNat = so.toInt.toNat by omega]; exact zv10926
  refine WP_iload_n dX6_load_28 rfl ?_
  refine WQ_ishrx dX6_load_29 (fun v10927 xv10927 => ?_)
  refine WQ_iconst (1) (1) dX6_load_30 rfl rfl (fun v10928 hv10928 => ?_)
  refine WQ_iandx dX6_load_31 (fun v10929 xv10929 => ?_)
  refine WQ_if_eq 39 dX6_load_32 rfl (fun c10929 => ?_) (fun c10929 => ?_)
  · refine WQ_iconst (0) (0) dX6_load_39 rfl rfl (fun v10931 hv10931 => ?_)
    refine WP_istore (ls' := [(0, _), (1, _), (2, _), (3, _), (4, _), (5, _), (6, _), (7, _)]) dX6_load_40 (by decide) rfl ?_
    refine WP_aload_n dX6_load_42 rfl ?_
    refine WP_aload dX6_load_43 rfl ?_
    refine WP_getr dX6_load_45 fX6_30 rfl (lyx_is hy 27 7 rfl) (rfx hr 27 11 34 (by decide)) ?_
    refine WP_iload dX6_load_48 rfl ?_
    refine WQ_ialdb dX6_load_50 (lyx_is hy 34 13 rfl) (lyx_n hy 34 28 rfl) (by omega) (by omega) (fun q hq => BT_get hI.1 34 0 28 (-1) (0) (2) (by decide) q (Nat.zero_le _) hq) (fun v10932 av10932 bv10932 zv10932 => ?_)
    have yv10932 : I (ad g 34) (7 * so.toInt + da.toInt).toNat = v10932 := by rw [← fz_at fr0 34 (by decide) (by decide), show (7 * so.toInt + da.toInt).toNat = v10924.toInt.toNat by omega]; exact zv10932
    refine WQ_puti dX6_load_51 fX6_9 rfl rfl (lyx_is hy 50 6 rfl) (fun I10933 eI10933 => ?_)
    have hI10933 : XI g n L I10933 := by rw [eI10933]; exact (xi_f hy hI (c := 50) (-1) (0) (2) (by decide) (Or.inl (by decide)) (by decide) (by omega) (by omega))
    have e10934 : I10933 (ad g 1) 1 = L := by rw [eI10933, pp_ne _ _ (Or.inl (lyx_ne hy (by decide) (by decide) (by decide)))]; exact e10920
    have e10935 : I10933 (ad g 27) 4 = v10925 := by rw [eI10933, pp_ne _ _ (Or.inl (lyx_ne hy (by decide) (by decide) (by decide)))]; exact ev10925
    have e10936 : I10933 (ad g 50) 0 = v10932 := by rw [eI10933, pp_self]
    have fr10937 : fz 74 g [50] I I10933 := by rw [eI10933]; exact fzx_pp hy fr0 (by decide) (by decide)
    clear eI10933
    refine WP_aload_n dX6_load_54 rfl ?_
    refine WP_aload dX6_load_55 rfl ?_
    refine WP_getr dX6_load_57 fX6_33 rfl (lyx_is hy 27 7 rfl) (rfx hr 27 12 35 (by decide)) ?_
    refine WP_iload dX6_load_60 rfl ?_
    refine WQ_ialdb dX6_load_62 (lyx_is hy 35 13 rfl) (lyx_n hy 35 28 rfl) (by omega) (by omega) (fun q hq => BT_get hI10933.1 35 0 28 (0) (0) (3) (by decide) q (Nat.zero_le _) hq) (fun v10938 av10938 bv10938 zv10938 => ?_)
    have yv10938 : I (ad g 35) (7 * so.toInt + da.toInt).toNat = v10938 := by rw [← fz_at fr10937 35 (by decide) (by decide), show (7 * so.toInt + da.toInt).toNat = v10924.toInt.toNat by omega]; exact zv10938
    refine WQ_puti dX6_load_63 fX6_36 rfl rfl (lyx_is hy 50 6 rfl) (fun I10939 eI10939 => ?_)
    have hI10939 : XI g n L I10939 := by rw [eI10939]; exact (xi_f hy hI10933 (c := 50) (0) (0) (3) (by decide) (Or.inl (by decide)) (by decide) (by omega) (by omega))
    have e10940 : I10939 (ad g 1) 1 = L := by rw [eI10939, pp_ne _ _ (Or.inl (lyx_ne hy (by decide) (by decide) (by decide)))]; exact e10934
    have e10941 : I10939 (ad g 27) 4 = v10925 := by rw [eI10939, pp_ne _ _ (Or.inl (lyx_ne hy (by decide) (by decide) (by decide)))]; exact e10935
    have e10942 : I10939 (ad g 50) 0 = v10932 := by rw [eI10939, pp_ne _ _ (Or.inr (by decide))]; exact e10936
    have e10943 : I10939 (ad g 50) 1 = v10938 := by rw [eI10939, pp_self]
    have fr10944 : fz 74 g [50] I I10939 := by rw [eI10939]; exact fzx_pp hy fr10937 (by decide) (by decide)
    clear eI10939
    refine WP_aload_n dX6_load_66 rfl ?_
    refine WP_aload dX6_load_67 rfl ?_
    refine WP_getr dX6_load_69 fX6_39 rfl (lyx_is hy 27 7 rfl) (rfx hr 27 13 36 (by decide)) ?_
    refine WP_iload dX6_load_72 rfl ?_
    refine WQ_ialdb dX6_load_74 (lyx_is hy 36 13 rfl) (lyx_n hy 36 28 rfl) (by omega) (by omega) (fun q hq => BT_get hI10939.1 36 0 28 (0) (0) (99) (by decide) q (Nat.zero_le _) hq) (fun v10945 av10945 bv10945 zv10945 => ?_)
    have yv10945 : I (ad g 36) (7 * so.toInt + da.toInt).toNat = v10945 := by rw [← fz_at fr10944 36 (by decide) (by decide), show (7 * so.toInt + da.toInt).toNat = v10924.toInt.toNat by omega]; exact zv10945
    refine WQ_puti dX6_load_75 fX6_42 rfl rfl (lyx_is hy 50 6 rfl) (fun I10946 eI10946 => ?_)
    have hI10946 : XI g n L I10946 := by rw [eI10946]; exact (xi_f hy hI10939 (c := 50) (0) (0) (99) (by decide) (Or.inl (by decide)) (by decide) (by omega) (by omega))
    have e10947 : I10946 (ad g 1) 1 = L := by rw [eI10946, pp_ne _ _ (Or.inl (lyx_ne hy (by decide) (by decide) (by decide)))]; exact e10940
    have e10948 : I10946 (ad g 27) 4 = v10925 := by rw [eI10946, pp_ne _ _ (Or.inl (lyx_ne hy (by decide) (by decide) (by decide)))]; exact e10941
    have e10949 : I10946 (ad g 50) 0 = v10932 := by rw [eI10946, pp_ne _ _ (Or.inr (by decide))]; exact e10942
    have e10950 : I10946 (ad g 50) 1 = v10938 := by rw [eI10946, pp_ne _ _ (Or.inr (by decide))]; exact e10943
    have e10951 : I10946 (ad g 50) 2 = v10945 := by rw [eI10946, pp_self]
    have fr10952 : fz 74 g [50] I I10946 := by rw [eI10946]; exact fzx_pp hy fr10944 (by decide) (by decide)
    clear eI10946
    refine WP_aload_n dX6_load_78 rfl ?_
    refine WP_aload_n dX6_load_79 rfl ?_
    refine WQ_getim dX6_load_80 fX6_9 rfl (lyx_is hy 50 6 rfl) e10949 ?_
    refine WQ_iconst (-1) (-1) dX6_load_83 rfl rfl (fun v10953 hv10953 => ?_)
    refine WQ_icmp_ne 91 dX6_load_84 rfl (fun c10953 => ?_) (fun c10953 => ?_)
    · refine WP_aload_n dX6_load_91 rfl ?_
      refine WP_getr dX6_load_92 fX6_45 rfl (lyx_is hy 5 0 rfl) (rfx hr 5 1 22 (by decide)) ?_
      refine WP_aload_n dX6_load_95 rfl ?_
      refine WQ_getim dX6_load_96 fX6_9 rfl (lyx_is hy 50 6 rfl) e10949 ?_
      refine WQ_bipush (7) (7) dX6_load_99 rfl rfl (fun v10955 hv10955 => ?_)
      refine WQ_imulk (7) dX6_load_101 hv10955 (by omega) (by omega) (fun v10956 hv10956 => ?_)
      refine WP_iload_n dX6_load_102 rfl ?_
      refine WQ_iadd dX6_load_103 (by omega) (by omega) (fun v10957 hv10957 => ?_)
      refine WQ_ialdb dX6_load_104 (lyx_is hy 22 13 rfl) (lyx_n hy 22 21 rfl) (by omega) (by omega) (fun q hq => BT_get hI10946.1 22 0 21 (0) (0) (20) (by decide) q (Nat.zero_le _) hq) (fun v10958 av10958 bv10958 zv10958 => ?_)
      have yv10958 : I (ad g 22) (7 * v10932.toInt + da.toInt).toNat = v10958 := by rw [← fz_at fr10952 22 (by decide) (by decide), show (7 * v10932.toInt + da.toInt).toNat = v10957.toInt.toNat by omega]; exact zv10958
      refine WQ_puti dX6_load_105 fX6_48 rfl rfl (lyx_is hy 50 6 rfl) (fun I10959 eI10959 => ?_)
      have hI10959 : XI g n L I10959 := by rw [eI10959]; exact (xi_f hy hI10946 (c := 50) (0) (0) (20) (by decide) (Or.inl (by decide)) (by decide) (by omega) (by omega))
      have e10960 : I10959 (ad g 1) 1 = L := by rw [eI10959, pp_ne _ _ (Or.inl (lyx_ne hy (by decide) (by decide) (by decide)))]; exact e10947
      have e10961 : I10959 (ad g 27) 4 = v10925 := by rw [eI10959, pp_ne _ _ (Or.inl (lyx_ne hy (by decide) (by decide) (by decide)))]; exact e10948
      have e10962 : I10959 (ad g 50) 0 = v10932 := by rw [eI10959, pp_ne _ _ (Or.inr (by decide))]; exact e10949
      have e10963 : I10959 (ad g 50) 1 = v10938 := by rw [eI10959, pp_ne _ _ (Or.inr (by decide))]; exact e10950
      have e10964 : I10959 (ad g 50) 2 = v10945 := by rw [eI10959, pp_ne _ _ (Or.inr (by decide))]; exact e10951
      have e10965 : I10959 (ad g 50) 3 = v10958 := by rw [eI10959, pp_self]
      have fr10966 : fz 74 g [50] I I10959 := by rw [eI10959]; exact fzx_pp hy fr10952 (by decide) (by decide)
      clear eI10959
      refine WP_aload_n dX6_load_108 rfl ?_
      refine WP_iload dX6_load_109 rfl ?_
      refine WQ_iconst (-1) (-1) dX6_load_111 rfl rfl (fun v10967 hv10967 => ?_)
      refine WQ_icmp_ne 119 dX6_load_112 rfl (fun c10967 => ?_) (fun c10967 => ?_)
      · refine WP_aload_n dX6_load_119 rfl ?_
        refine WP_getr dX6_load_120 fX6_45 rfl (lyx_is hy 5 0 rfl) (rfx hr 5 1 22 (by decide)) ?_
        refine WP_iload dX6_load_123 rfl ?_
        refine WQ_bipush (7) (7) dX6_load_125 rfl rfl (fun v10969 hv10969 => ?_)
        refine WQ_imulk (7) dX6_load_127 hv10969 (by omega) (by omega) (fun v10970 hv10970 => ?_)
        refine WP_iload_n dX6_load_128 rfl ?_
        refine WQ_iadd dX6_load_129 (by omega) (by omega) (fun v10971 hv10971 => ?_)
        refine WQ_ialdb dX6_load_130 (lyx_is hy 22 13 rfl) (lyx_n hy 22 21 rfl) (by omega) (by omega) (fun q hq => BT_get hI10959.1 22 0 21 (0) (0) (20) (by decide) q (Nat.zero_le _) hq) (fun v10972 av10972 bv10972 zv10972 => ?_)
        have yv10972 : I (ad g 22) (7 * v10925.toInt + da.toInt).toNat = v10972 := by rw [← fz_at fr10966 22 (by decide) (by decide), show (7 * v10925.toInt + da.toInt).toNat = v10971.toInt.toNat by omega]; exact zv10972
        refine WQ_puti dX6_load_131 fX6_51 rfl rfl (lyx_is hy 50 6 rfl) (fun I10973 eI10973 => ?_)
        have hI10973 : XI g n L I10973 := by rw [eI10973]; exact (xi_f hy hI10959 (c := 50) (0) (0) (20) (by decide) (Or.inl (by decide)) (by decide) (by omega) (by omega))
        have e10974 : I10973 (ad g 1) 1 = L := by rw [eI10973, pp_ne _ _ (Or.inl (lyx_ne hy (by decide) (by decide) (by decide)))]; exact e10960
        have e10975 : I10973 (ad g 27) 4 = v10925 := by rw [eI10973, pp_ne _ _ (Or.inl (lyx_ne hy (by decide) (by decide) (by decide)))]; exact e10961
        have e10976 : I10973 (ad g 50) 0 = v10932 := by rw [eI10973, pp_ne _ _ (Or.inr (by decide))]; exact e10962
        have e10977 : I10973 (ad g 50) 1 = v10938 := by rw [eI10973, pp_ne _ _ (Or.inr (by decide))]; exact e10963
        have e10978 : I10973 (ad g 50) 2 = v10945 := by rw [eI10973, pp_ne _ _ (Or.inr (by decide))]; exact e10964
        have e10979 : I10973 (ad g 50) 3 = v10958 := by rw [eI10973, pp_ne _ _ (Or.inr (by decide))]; exact e10965
        have e10980 : I10973 (ad g 50) 4 = v10972 := by rw [eI10973, pp_self]
        have fr10981 : fz 74 g [50] I I10973 := by rw [eI10973]; exact fzx_pp hy fr10966 (by decide) (by decide)
        clear eI10973
        refine WP_aload_n dX6_load_134 rfl ?_
        refine WP_iload dX6_load_135 rfl ?_
        refine WQ_if_eq 144 dX6_load_137 rfl (fun c10981 => ?_) (fun c10981 => False.elim (by omega))
        refine WP_aload_n dX6_load_144 rfl ?_
        refine WQ_getim dX6_load_145 fX6_36 rfl (lyx_is hy 50 6 rfl) e10977 ?_
        refine WQ_puti dX6_load_148 fX6_54 rfl rfl (lyx_is hy 50 6 rfl) (fun I10983 eI10983 => ?_)
        have hI10983 : XI g n L I10983 := by rw [eI10983]; exact (xi_f hy hI10973 (c := 50) (0) (0) (3) (by decide) (Or.inl (by decide)) (by decide) (by omega) (by omega))
        have e10984 : I10983 (ad g 1) 1 = L := by rw [eI10983, pp_ne _ _ (Or.inl (lyx_ne hy (by decide) (by decide) (by decide)))]; exact e10974
        have e10985 : I10983 (ad g 27) 4 = v10925 := by rw [eI10983, pp_ne _ _ (Or.inl (lyx_ne hy (by decide) (by decide) (by decide)))]; exact e10975
        have e10986 : I10983 (ad g 50) 0 = v10932 := by rw [eI10983, pp_ne _ _ (Or.inr (by decide))]; exact e10976
        have e10987 : I10983 (ad g 50) 1 = v10938 := by rw [eI10983, pp_ne _ _ (Or.inr (by decide))]; exact e10977
        have e10988 : I10983 (ad g 50) 2 = v10945 := by rw [eI10983, pp_ne _ _ (Or.inr (by decide))]; exact e10978
        have e10989 : I10983 (ad g 50) 3 = v10958 := by rw [eI10983, pp_ne _ _ (Or.inr (by decide))]; exact e10979
        have e10990 : I10983 (ad g 50) 4 = v10972 := by rw [eI10983, pp_ne _ _ (Or.inr (by decide))]; exact e10980
        have e10991 : I10983 (ad g 50) 5 = v10938 := by rw [eI10983, pp_self]
        have fr10992 : fz 74 g [50] I I10983 := by rw [eI10983]; exact fzx_pp hy fr10981 (by decide) (by decide)
        clear eI10983
        refine WP_aload_n dX6_load_151 rfl ?_
        refine WP_iload dX6_load_152 rfl ?_
        refine WQ_if_ne 163 dX6_load_154 rfl (fun c10992 => False.elim (by omega)) (fun c10992 => ?_)
        refine WP_iload dX6_load_157 rfl ?_
        refine WQ_iconst (-1) (-1) dX6_load_159 rfl rfl (fun v10994 hv10994 => ?_)
        refine WQ_icmp_ne 167 dX6_load_160 rfl (fun c10994 => ?_) (fun c10994 => False.elim (by omega))
        refine WQ_iconst (2) (2) dX6_load_167 rfl rfl (fun v10996 hv10996 => ?_)
        refine WQ_puti dX6_load_168 fX6_57 rfl rfl (lyx_is hy 50 6 rfl) (fun I10997 eI10997 => ?_)
        have hI10997 : XI g n L I10997 := by rw [eI10997]; exact (xi_f hy hI10983 (c := 50) (0) (0) (2) (by decide) (Or.inl (by decide)) (by decide) (by omega) (by omega))
        have e10998 : I10997 (ad g 1) 1 = L := by rw [eI10997, pp_ne _ _ (Or.inl (lyx_ne hy (by decide) (by decide) (by decide)))]; exact e10984
        have e10999 : I10997 (ad g 27) 4 = v10925 := by rw [eI10997, pp_ne _ _ (Or.inl (lyx_ne hy (by decide) (by decide) (by decide)))]; exact e10985
        have e11000 : I10997 (ad g 50) 0 = v10932 := by rw [eI10997, pp_ne _ _ (Or.inr (by decide))]; exact e10986
        have e11001 : I10997 (ad g 50) 1 = v10938 := by rw [eI10997, pp_ne _ _ (Or.inr (by decide))]; exact e10987
        have e11002 : I10997 (ad g 50) 2 = v10945 := by rw [eI10997, pp_ne _ _ (Or.inr (by decide))]; exact e10988
        have e11003 : I10997 (ad g 50) 3 = v10958 := by rw [eI10997, pp_ne _ _ (Or.inr (by decide))]; exact e10989
        have e11004 : I10997 (ad g 50) 4 = v10972 := by rw [eI10997, pp_ne _ _ (Or.inr (by decide))]; exact e10990
        have e11005 : I10997 (ad g 50) 5 = v10938 := by rw [eI10997, pp_ne _ _ (Or.inr (by decide))]; exact e10991
        have e11006 : I10997 (ad g 50) 6 = v10996 := by rw [eI10997, pp_self]
        have fr11007 : fz 74 g [50] I I10997 := by rw [eI10997]; exact fzx_pp hy fr10992 (by decide) (by decide)
        clear eI10997
        refine WP_aload_n dX6_load_171 rfl ?_
        refine WP_aload_n dX6_load_172 rfl ?_
        refine WQ_getim dX6_load_173 fX6_9 rfl (lyx_is hy 50 6 rfl) e11000 ?_
        refine WQ_iconst (-1) (-1) dX6_load_176 rfl rfl (fun v11008 hv11008 => ?_)
        refine WQ_icmp_eq 193 dX6_load_177 rfl (fun c11008 => False.elim (by omega)) (fun c11008 => ?_)
        refine WP_aload_n dX6_load_180 rfl ?_
        refine WQ_getim dX6_load_181 fX6_9 rfl (lyx_is hy 50 6 rfl) e11000 ?_
        refine WP_iload dX6_load_184 rfl ?_
        refine WQ_icmp_ne 193 dX6_load_186 rfl (fun c11009 => ?_) (fun c11009 => ?_)
        · refine WQ_iconst (0) (0) dX6_load_193 rfl rfl (fun v11011 hv11011 => ?_)
          refine WQ_putz dX6_load_194 fX6_60 rfl rfl (by omega) (lyx_is hy 50 6 rfl) (fun I11012 eI11012 => ?_)
          have hI11012 : XI g n L I11012 := by rw [eI11012]; exact (xi_f hy hI10997 (c := 50) (0) (0) (1) (by decide) (Or.inl (by decide)) (by decide) (by omega) (by omega))
          have e11013 : I11012 (ad g 1) 1 = L := by rw [eI11012, pp_ne _ _ (Or.inl (lyx_ne hy (by decide) (by decide) (by decide)))]; exact e10998
          have e11014 : I11012 (ad g 27) 4 = v10925 := by rw [eI11012, pp_ne _ _ (Or.inl (lyx_ne hy (by decide) (by decide) (by decide)))]; exact e10999
          have e11015 : I11012 (ad g 50) 0 = v10932 := by rw [eI11012, pp_ne _ _ (Or.inr (by decide))]; exact e11000
          have e11016 : I11012 (ad g 50) 1 = v10938 := by rw [eI11012, pp_ne _ _ (Or.inr (by decide))]; exact e11001
          have e11017 : I11012 (ad g 50) 2 = v10945 := by rw [eI11012, pp_ne _ _ (Or.inr (by decide))]; exact e11002
          have e11018 : I11012 (ad g 50) 3 = v10958 := by rw [eI11012, pp_ne _ _ (Or.inr (by decide))]; exact e11003
          have e11019 : I11012 (ad g 50) 4 = v10972 := by rw [eI11012, pp_ne _ _ (Or.inr (by decide))]; exact e11004
          have e11020 : I11012 (ad g 50) 5 = v10938 := by rw [eI11012, pp_ne _ _ (Or.inr (by decide))]; exact e11005
          have e11021 : I11012 (ad g 50) 6 = v10996 := by rw [eI11012, pp_ne _ _ (Or.inr (by decide))]; exact e11006
          have e11022 : I11012 (ad g 50) 7 = v11011 := by rw [eI11012, pp_self]
          have fr11023 : fz 74 g [50] I I11012 := by rw [eI11012]; exact fzx_pp hy fr11007 (by decide) (by decide)
          clear eI11012
          refine WP_aload_n dX6_load_197 rfl ?_
          refine WP_aload_n dX6_load_198 rfl ?_
          refine WP_getr dX6_load_199 fX6_64 rfl (lyx_is hy 5 0 rfl) (rfx hr 5 2 23 (by decide)) ?_
          refine WP_iload_n dX6_load_202 rfl ?_
          refine WQ_iald dX6_load_203 (lyx_is hy 23 13 rfl) (lyx_n hy 23 7 rfl) (by omega) (by omega) (fun q hq => BT_get hI11012.1 23 0 7 (0) (0) (900) (by decide) q (Nat.zero_le _) hq) (fun v11024 av11024 bv11024 ev11024 => ?_)
          clear ev11024
          refine WQ_if_le 211 dX6_load_204 rfl (fun c11024 => ?_) (fun c11024 => ?_)
          · refine WQ_iconst (0) (0) dX6_load_211 rfl rfl (fun v11026 hv11026 => ?_)
            refine WQ_putz dX6_load_212 fX6_67 rfl rfl (by omega) (lyx_is hy 50 6 rfl) (fun I11027 eI11027 => ?_)
            have hI11027 : XI g n L I11027 := by rw [eI11027]; exact (xi_f hy hI11012 (c := 50) (0) (0) (1) (by decide) (Or.inl (by decide)) (by decide) (by omega) (by omega))
            have e11028 : I11027 (ad g 1) 1 = L := by rw [eI11027, pp_ne _ _ (Or.inl (lyx_ne hy (by decide) (by decide) (by decide)))]; exact e11013
            have e11029 : I11027 (ad g 27) 4 = v10925 := by rw [eI11027, pp_ne _ _ (Or.inl (lyx_ne hy (by decide) (by decide) (by decide)))]; exact e11014
            have e11030 : I11027 (ad g 50) 0 = v10932 := by rw [eI11027, pp_ne _ _ (Or.inr (by decide))]; exact e11015
            have e11031 : I11027 (ad g 50) 1 = v10938 := by rw [eI11027, pp_ne _ _ (Or.inr (by decide))]; exact e11016
            have e11032 : I11027 (ad g 50) 2 = v10945 := by rw [eI11027, pp_ne _ _ (Or.inr (by decide))]; exact e11017
            have e11033 : I11027 (ad g 50) 3 = v10958 := by rw [eI11027, pp_ne _ _ (Or.inr (by decide))]; exact e11018
            have e11034 : I11027 (ad g 50) 4 = v10972 := by rw [eI11027, pp_ne _ _ (Or.inr (by decide))]; exact e11019
            have e11035 : I11027 (ad g 50) 5 = v10938 := by rw [eI11027, pp_ne _ _ (Or.inr (by decide))]; exact e11020
            have e11036 : I11027 (ad g 50) 6 = v10996 := by rw [eI11027, pp_ne _ _ (Or.inr (by decide))]; exact e11021
            have e11037 : I11027 (ad g 50) 7 = v11011 := by rw [eI11027, pp_ne _ _ (Or.inr (by decide))]; exact e11022
            have e11038 : I11027 (ad g 50) 8 = v11026 := by rw [eI11027, pp_self]
            have fr11039 : fz 74 g [50] I I11027 := by rw [eI11027]; exact fzx_pp hy fr11023 (by decide) (by decide)
            clear eI11027
            exact WP_vret dX6_load_215 rfl ⟨⟨hI11027, rfl, fr11039, rfl, (by
                  have yill : I (ad g (27 + 5)) so.toInt.toNat >>> (nI da.toInt.toNat &&& 31) &&& 1 = v10929 := by rw [show I (ad g (27 + 5)) so.toInt.toNat = v10926 from yv10926, show nI da.toInt.toNat = da from (eq32 _ _).mpr (by rw [nI_toInt (by omega)]; omega), xv10929, xv10927, (eq32 v10928 1).mpr hv10928]
                  have yst : I (ad g 27) 4 = v10925 := est
                  unfold LD
                  simp only [e11030, e11031, e11032, e11033, e11034, e11035, e11036, e11037, yill, yst, show I (ad g (27 + 7)) _ = _ from yv10932, show I (ad g (27 + 8)) _ = _ from yv10938, show I (ad g (27 + 9)) _ = _ from yv10945, yv10958, yv10972, true_and, and_true]
                  omega)⟩, rfl⟩
          · refine WQ_iconst (1) (1) dX6_load_207 rfl rfl (fun v11040 hv11040 => ?_)
            refine WP_goto 212 dX6_load_208 rfl ?_
            refine WQ_putz dX6_load_212 fX6_67 rfl rfl (by omega) (lyx_is hy 50 6 rfl) (fun I11041 eI11041 => ?_)
            have hI11041 : XI g n L I11041 := by rw [eI11041]; exact (xi_f hy hI11012 (c := 50) (0) (0) (1) (by decide) (Or.inl (by decide)) (by decide) (by omega) (by omega))
            have e11042 : I11041 (ad g 1) 1 = L := by rw [eI11041, pp_ne _ _ (Or.inl (lyx_ne hy (by decide) (by decide) (by decide)))]; exact e11013
            have e11043 : I11041 (ad g 27) 4 = v10925 := by rw [eI11041, pp_ne _ _ (Or.inl (lyx_ne hy (by decide) (by decide) (by decide)))]; exact e11014
            have e11044 : I11041 (ad g 50) 0 = v10932 := by rw [eI11041, pp_ne _ _ (Or.inr (by decide))]; exact e11015
            have e11045 : I11041 (ad g 50) 1 = v10938 := by rw [eI11041, pp_ne _ _ (Or.inr (by decide))]; exact e11016
            have e11046 : I11041 (ad g 50) 2 = v10945 := by rw [eI11041, pp_ne _ _ (Or.inr (by decide))]; exact e11017
            have e11047 : I11041 (ad g 50) 3 = v10958 := by rw [eI11041, pp_ne _ _ (Or.inr (by decide))]; exact e11018
            have e11048 : I11041 (ad g 50) 4 = v10972 := by rw [eI11041, pp_ne _ _ (Or.inr (by decide))]; exact e11019
            have e11049 : I11041 (ad g 50) 5 = v10938 := by rw [eI11041, pp_ne _ _ (Or.inr (by decide))]; exact e11020
            have e11050 : I11041 (ad g 50) 6 = v10996 := by rw [eI11041, pp_ne _ _ (Or.inr (by decide))]; exact e11021
            have e11051 : I11041 (ad g 50) 7 = v11011 := by rw [eI11041, pp_ne _ _ (Or.inr (by decide))]; exact e11022
            have e11052 : I11041 (ad g 50) 8 = v11040 := by rw [eI11041, pp_self]
            have fr11053 : fz 74 g [50] I I11041 := by rw [eI11041]; exact fzx_pp hy fr11023 (by decide) (by decide)
            clear eI11041
            exact WP_vret dX6_load_215 rfl ⟨⟨hI11041, rfl, fr11053, rfl, (by
                  have yill : I (ad g (27 + 5)) so.toInt.toNat >>> (nI da.toInt.toNat &&& 31) &&& 1 = v10929 := by rw [show I (ad g (27 + 5)) so.toInt.toNat = v10926 from yv10926, show nI da.toInt.toNat = da from (eq32 _ _).mpr (by rw [nI_toInt (by omega)]; omega), xv10929, xv10927, (eq32 v10928 1).mpr hv10928]
                  have yst : I (ad g 27) 4 = v10925 := est
                  unfold LD
                  simp only [e11044, e11045, e11046, e11047, e11048, e11049, e11050, e11051, yill, yst, show I (ad g (27 + 7)) _ = _ from yv10932, show I (ad g (27 + 8)) _ = _ from yv10938, show I (ad g (27 + 9)) _ = _ from yv10945, yv10958, yv10972, true_and, and_true]
                  omega)⟩, rfl⟩
        · refine WQ_iconst (1) (1) dX6_load_189 rfl rfl (fun v11054 hv11054 => ?_)
          refine WP_goto 194 dX6_load_190 rfl ?_
          refine WQ_putz dX6_load_194 fX6_60 rfl rfl (by omega) (lyx_is hy 50 6 rfl) (fun I11055 eI11055 => ?_)
          have hI11055 : XI g n L I11055 := by rw [eI11055]; exact (xi_f hy hI10997 (c := 50) (0) (0) (1) (by decide) (Or.inl (by decide)) (by decide) (by omega) (by omega))
          have e11056 : I11055 (ad g 1) 1 = L := by rw [eI11055, pp_ne _ _ (Or.inl (lyx_ne hy (by decide) (by decide) (by decide)))]; exact e10998
          have e11057 : I11055 (ad g 27) 4 = v10925 := by rw [eI11055, pp_ne _ _ (Or.inl (lyx_ne hy (by decide) (by decide) (by decide)))]; exact e10999
          have e11058 : I11055 (ad g 50) 0 = v10932 := by rw [eI11055, pp_ne _ _ (Or.inr (by decide))]; exact e11000
          have e11059 : I11055 (ad g 50) 1 = v10938 := by rw [eI11055, pp_ne _ _ (Or.inr (by decide))]; exact e11001
          have e11060 : I11055 (ad g 50) 2 = v10945 := by rw [eI11055, pp_ne _ _ (Or.inr (by decide))]; exact e11002
          have e11061 : I11055 (ad g 50) 3 = v10958 := by rw [eI11055, pp_ne _ _ (Or.inr (by decide))]; exact e11003
          have e11062 : I11055 (ad g 50) 4 = v10972 := by rw [eI11055, pp_ne _ _ (Or.inr (by decide))]; exact e11004
          have e11063 : I11055 (ad g 50) 5 = v10938 := by rw [eI11055, pp_ne _ _ (Or.inr (by decide))]; exact e11005
          have e11064 : I11055 (ad g 50) 6 = v10996 := by rw [eI11055, pp_ne _ _ (Or.inr (by decide))]; exact e11006
          have e11065 : I11055 (ad g 50) 7 = v11054 := by rw [eI11055, pp_self]
          have fr11066 : fz 74 g [50] I I11055 := by rw [eI11055]; exact fzx_pp hy fr11007 (by decide) (by decide)
          clear eI11055
          refine WP_aload_n dX6_load_197 rfl ?_
          refine WP_aload_n dX6_load_198 rfl ?_
          refine WP_getr dX6_load_199 fX6_64 rfl (lyx_is hy 5 0 rfl) (rfx hr 5 2 23 (by decide)) ?_
          refine WP_iload_n dX6_load_202 rfl ?_
          refine WQ_iald dX6_load_203 (lyx_is hy 23 13 rfl) (lyx_n hy 23 7 rfl) (by omega) (by omega) (fun q hq => BT_get hI11055.1 23 0 7 (0) (0) (900) (by decide) q (Nat.zero_le _) hq) (fun v11067 av11067 bv11067 ev11067 => ?_)
          clear ev11067
          refine WQ_if_le 211 dX6_load_204 rfl (fun c11067 => ?_) (fun c11067 => ?_)
          · refine WQ_iconst (0) (0) dX6_load_211 rfl rfl (fun v11069 hv11069 => ?_)
            refine WQ_putz dX6_load_212 fX6_67 rfl rfl (by omega) (lyx_is hy 50 6 rfl) (fun I11070 eI11070 => ?_)
            have hI11070 : XI g n L I11070 := by rw [eI11070]; exact (xi_f hy hI11055 (c := 50) (0) (0) (1) (by decide) (Or.inl (by decide)) (by decide) (by omega) (by omega))
            have e11071 : I11070 (ad g 1) 1 = L := by rw [eI11070, pp_ne _ _ (Or.inl (lyx_ne hy (by decide) (by decide) (by decide)))]; exact e11056
            have e11072 : I11070 (ad g 27) 4 = v10925 := by rw [eI11070, pp_ne _ _ (Or.inl (lyx_ne hy (by decide) (by decide) (by decide)))]; exact e11057
            have e11073 : I11070 (ad g 50) 0 = v10932 := by rw [eI11070, pp_ne _ _ (Or.inr (by decide))]; exact e11058
            have e11074 : I11070 (ad g 50) 1 = v10938 := by rw [eI11070, pp_ne _ _ (Or.inr (by decide))]; exact e11059
            have e11075 : I11070 (ad g 50) 2 = v10945 := by rw [eI11070, pp_ne _ _ (Or.inr (by decide))]; exact e11060
            have e11076 : I11070 (ad g 50) 3 = v10958 := by rw [eI11070, pp_ne _ _ (Or.inr (by decide))]; exact e11061
            have e11077 : I11070 (ad g 50) 4 = v10972 := by rw [eI11070, pp_ne _ _ (Or.inr (by decide))]; exact e11062
            have e11078 : I11070 (ad g 50) 5 = v10938 := by rw [eI11070, pp_ne _ _ (Or.inr (by decide))]; exact e11063
            have e11079 : I11070 (ad g 50) 6 = v10996 := by rw [eI11070, pp_ne _ _ (Or.inr (by decide))]; exact e11064
            have e11080 : I11070 (ad g 50) 7 = v11054 := by rw [eI11070, pp_ne _ _ (Or.inr (by decide))]; exact e11065
            have e11081 : I11070 (ad g 50) 8 = v11069 := by rw [eI11070, pp_self]
            have fr11082 : fz 74 g [50] I I11070 := by rw [eI11070]; exact fzx_pp hy fr11066 (by decide) (by decide)
            clear eI11070
            exact WP_vret dX6_load_215 rfl ⟨⟨hI11070, rfl, fr11082, rfl, (by
                  have yill : I (ad g (27 + 5)) so.toInt.toNat >>> (nI da.toInt.toNat &&& 31) &&& 1 = v10929 := by rw [show I (ad g (27 + 5)) so.toInt.toNat = v10926 from yv10926, show nI da.toInt.toNat = da from (eq32 _ _).mpr (by rw [nI_toInt (by omega)]; omega), xv10929, xv10927, (eq32 v10928 1).mpr hv10928]
                  have yst : I (ad g 27) 4 = v10925 := est
                  unfold LD
                  simp only [e11073, e11074, e11075, e11076, e11077, e11078, e11079, e11080, yill, yst, show I (ad g (27 + 7)) _ = _ from yv10932, show I (ad g (27 + 8)) _ = _ from yv10938, show I (ad g (27 + 9)) _ = _ from yv10945, yv10958, yv10972, true_and, and_true]
                  omega)⟩, rfl⟩
          · refine WQ_iconst (1) (1) dX6_load_207 rfl rfl (fun v11083 hv11083 => ?_)
            refine WP_goto 212 dX6_load_208 rfl ?_
            refine WQ_putz dX6_load_212 fX6_67 rfl rfl (by omega) (lyx_is hy 50 6 rfl) (fun I11084 eI11084 => ?_)
            have hI11084 : XI g n L I11084 := by rw [eI11084]; exact (xi_f hy hI11055 (c := 50) (0) (0) (1) (by decide) (Or.inl (by decide)) (by decide) (by omega) (by omega))
            have e11085 : I11084 (ad g 1) 1 = L := by rw [eI11084, pp_ne _ _ (Or.inl (lyx_ne hy (by decide) (by decide) (by decide)))]; exact e11056
            have e11086 : I11084 (ad g 27) 4 = v10925 := by rw [eI11084, pp_ne _ _ (Or.inl (lyx_ne hy (by decide) (by decide) (by decide)))]; exact e11057
            have e11087 : I11084 (ad g 50) 0 = v10932 := by rw [eI11084, pp_ne _ _ (Or.inr (by decide))]; exact e11058
            have e11088 : I11084 (ad g 50) 1 = v10938 := by rw [eI11084, pp_ne _ _ (Or.inr (by decide))]; exact e11059
            have e11089 : I11084 (ad g 50) 2 = v10945 := by rw [eI11084, pp_ne _ _ (Or.inr (by decide))]; exact e11060
            have e11090 : I11084 (ad g 50) 3 = v10958 := by rw [eI11084, pp_ne _ _ (Or.inr (by decide))]; exact e11061
            have e11091 : I11084 (ad g 50) 4 = v10972 := by rw [eI11084, pp_ne _ _ (Or.inr (by decide))]; exact e11062
            have e11092 : I11084 (ad g 50) 5 = v10938 := by rw [eI11084, pp_ne _ _ (Or.inr (by decide))]; exact e11063
            have e11093 : I11084 (ad g 50) 6 = v10996 := by rw [eI11084, pp_ne _ _ (Or.inr (by decide))]; exact e11064
            have e11094 : I11084 (ad g 50) 7 = v11054 := by rw [eI11084, pp_ne _ _ (Or.inr (by decide))]; exact e11065
            have e11095 : I11084 (ad g 50) 8 = v11083 := by rw [eI11084, pp_self]
            have fr11096 : fz 74 g [50] I I11084 := by rw [eI11084]; exact fzx_pp hy fr11066 (by decide) (by decide)
            clear eI11084
            exact WP_vret dX6_load_215 rfl ⟨⟨hI11084, rfl, fr11096, rfl, (by
                  have yill : I (ad g (27 + 5)) so.toInt.toNat >>> (nI da.toInt.toNat &&& 31) &&& 1 = v10929 := by rw [show I (ad g (27 + 5)) so.toInt.toNat = v10926 from yv10926, show nI da.toInt.toNat = da from (eq32 _ _).mpr (by rw [nI_toInt (by omega)]; omega), xv10929, xv10927, (eq32 v10928 1).mpr hv10928]
                  have yst : I (ad g 27) 4 = v10925 := est
                  unfold LD
                  simp only [e11087, e11088, e11089, e11090, e11091, e11092, e11093, e11094, yill, yst, show I (ad g (27 + 7)) _ = _ from yv10932, show I (ad g (27 + 8)) _ = _ from yv10938, show I (ad g (27 + 9)) _ = _ from yv10945, yv10958, yv10972, true_and, and_true]
                  omega)⟩, rfl⟩
      · refine WQ_iconst (0) (0) dX6_load_115 rfl rfl (fun v11097 hv11097 => ?_)
        refine WP_goto 131 dX6_load_116 rfl ?_
        refine WQ_puti dX6_load_131 fX6_51 rfl rfl (lyx_is hy 50 6 rfl) (fun I11098 eI11098 => ?_)
        have hI11098 : XI g n L I11098 := by rw [eI11098]; exact (xi_f hy hI10959 (c := 50) (0) (0) (20) (by decide) (Or.inl (by decide)) (by decide) (by omega) (by omega))
        have e11099 : I11098 (ad g 1) 1 = L := by rw [eI11098, pp_ne _ _ (Or.inl (lyx_ne hy (by decide) (by decide) (by decide)))]; exact e10960
        have e11100 : I11098 (ad g 27) 4 = v10925 := by rw [eI11098, pp_ne _ _ (Or.inl (lyx_ne hy (by decide) (by decide) (by decide)))]; exact e10961
        have e11101 : I11098 (ad g 50) 0 = v10932 := by rw [eI11098, pp_ne _ _ (Or.inr (by decide))]; exact e10962
        have e11102 : I11098 (ad g 50) 1 = v10938 := by rw [eI11098, pp_ne _ _ (Or.inr (by decide))]; exact e10963
        have e11103 : I11098 (ad g 50) 2 = v10945 := by rw [eI11098, pp_ne _ _ (Or.inr (by decide))]; exact e10964
        have e11104 : I11098 (ad g 50) 3 = v10958 := by rw [eI11098, pp_ne _ _ (Or.inr (by decide))]; exact e10965
        have e11105 : I11098 (ad g 50) 4 = v11097 := by rw [eI11098, pp_self]
        have fr11106 : fz 74 g [50] I I11098 := by rw [eI11098]; exact fzx_pp hy fr10966 (by decide) (by decide)
        clear eI11098
        refine WP_aload_n dX6_load_134 rfl ?_
        refine WP_iload dX6_load_135 rfl ?_
        refine WQ_if_eq 144 dX6_load_137 rfl (fun c11106 => ?_) (fun c11106 => False.elim (by omega))
        refine WP_aload_n dX6_load_144 rfl ?_
        refine WQ_getim dX6_load_145 fX6_36 rfl (lyx_is hy 50 6 rfl) e11102 ?_
        refine WQ_puti dX6_load_148 fX6_54 rfl rfl (lyx_is hy 50 6 rfl) (fun I11108 eI11108 => ?_)
        have hI11108 : XI g n L I11108 := by rw [eI11108]; exact (xi_f hy hI11098 (c := 50) (0) (0) (3) (by decide) (Or.inl (by decide)) (by decide) (by omega) (by omega))
        have e11109 : I11108 (ad g 1) 1 = L := by rw [eI11108, pp_ne _ _ (Or.inl (lyx_ne hy (by decide) (by decide) (by decide)))]; exact e11099
        have e11110 : I11108 (ad g 27) 4 = v10925 := by rw [eI11108, pp_ne _ _ (Or.inl (lyx_ne hy (by decide) (by decide) (by decide)))]; exact e11100
        have e11111 : I11108 (ad g 50) 0 = v10932 := by rw [eI11108, pp_ne _ _ (Or.inr (by decide))]; exact e11101
        have e11112 : I11108 (ad g 50) 1 = v10938 := by rw [eI11108, pp_ne _ _ (Or.inr (by decide))]; exact e11102
        have e11113 : I11108 (ad g 50) 2 = v10945 := by rw [eI11108, pp_ne _ _ (Or.inr (by decide))]; exact e11103
        have e11114 : I11108 (ad g 50) 3 = v10958 := by rw [eI11108, pp_ne _ _ (Or.inr (by decide))]; exact e11104
        have e11115 : I11108 (ad g 50) 4 = v11097 := by rw [eI11108, pp_ne _ _ (Or.inr (by decide))]; exact e11105
        have e11116 : I11108 (ad g 50) 5 = v10938 := by rw [eI11108, pp_self]
        have fr11117 : fz 74 g [50] I I11108 := by rw [eI11108]; exact fzx_pp hy fr11106 (by decide) (by decide)
        clear eI11108
        refine WP_aload_n dX6_load_151 rfl ?_
        refine WP_iload dX6_load_152 rfl ?_
        refine WQ_if_ne 163 dX6_load_154 rfl (fun c11117 => False.elim (by omega)) (fun c11117 => ?_)
        refine WP_iload dX6_load_157 rfl ?_
        refine WQ_iconst (-1) (-1) dX6_load_159 rfl rfl (fun v11119 hv11119 => ?_)
        refine WQ_icmp_ne 167 dX6_load_160 rfl (fun c11119 => False.elim (by omega)) (fun c11119 => ?_)
        refine WQ_iconst (0) (0) dX6_load_163 rfl rfl (fun v11121 hv11121 => ?_)
        refine WP_goto 168 dX6_load_164 rfl ?_
        refine WQ_puti dX6_load_168 fX6_57 rfl rfl (lyx_is hy 50 6 rfl) (fun I11122 eI11122 => ?_)
        have hI11122 : XI g n L I11122 := by rw [eI11122]; exact (xi_f hy hI11108 (c := 50) (0) (0) (2) (by decide) (Or.inl (by decide)) (by decide) (by omega) (by omega))
        have e11123 : I11122 (ad g 1) 1 = L := by rw [eI11122, pp_ne _ _ (Or.inl (lyx_ne hy (by decide) (by decide) (by decide)))]; exact e11109
        have e11124 : I11122 (ad g 27) 4 = v10925 := by rw [eI11122, pp_ne _ _ (Or.inl (lyx_ne hy (by decide) (by decide) (by decide)))]; exact e11110
        have e11125 : I11122 (ad g 50) 0 = v10932 := by rw [eI11122, pp_ne _ _ (Or.inr (by decide))]; exact e11111
        have e11126 : I11122 (ad g 50) 1 = v10938 := by rw [eI11122, pp_ne _ _ (Or.inr (by decide))]; exact e11112
        have e11127 : I11122 (ad g 50) 2 = v10945 := by rw [eI11122, pp_ne _ _ (Or.inr (by decide))]; exact e11113
        have e11128 : I11122 (ad g 50) 3 = v10958 := by rw [eI11122, pp_ne _ _ (Or.inr (by decide))]; exact e11114
        have e11129 : I11122 (ad g 50) 4 = v11097 := by rw [eI11122, pp_ne _ _ (Or.inr (by decide))]; exact e11115
        have e11130 : I11122 (ad g 50) 5 = v10938 := by rw [eI11122, pp_ne _ _ (Or.inr (by decide))]; exact e11116
        have e11131 : I11122 (ad g 50) 6 = v11121 := by rw [eI11122, pp_self]
        have fr11132 : fz 74 g [50] I I11122 := by rw [eI11122]; exact fzx_pp hy fr11117 (by decide) (by decide)
        clear eI11122
        refine WP_aload_n dX6_load_171 rfl ?_
        refine WP_aload_n dX6_load_172 rfl ?_
        refine WQ_getim dX6_load_173 fX6_9 rfl (lyx_is hy 50 6 rfl) e11125 ?_
        refine WQ_iconst (-1) (-1) dX6_load_176 rfl rfl (fun v11133 hv11133 => ?_)
        refine WQ_icmp_eq 193 dX6_load_177 rfl (fun c11133 => False.elim (by omega)) (fun c11133 => ?_)
        refine WP_aload_n dX6_load_180 rfl ?_
        refine WQ_getim dX6_load_181 fX6_9 rfl (lyx_is hy 50 6 rfl) e11125 ?_
        refine WP_iload dX6_load_184 rfl ?_
        refine WQ_icmp_ne 193 dX6_load_186 rfl (fun c11134 => ?_) (fun c11134 => False.elim (by omega))
        refine WQ_iconst (0) (0) dX6_load_193 rfl rfl (fun v11136 hv11136 => ?_)
        refine WQ_putz dX6_load_194 fX6_60 rfl rfl (by omega) (lyx_is hy 50 6 rfl) (fun I11137 eI11137 => ?_)
        have hI11137 : XI g n L I11137 := by rw [eI11137]; exact (xi_f hy hI11122 (c := 50) (0) (0) (1) (by decide) (Or.inl (by decide)) (by decide) (by omega) (by omega))
        have e11138 : I11137 (ad g 1) 1 = L := by rw [eI11137, pp_ne _ _ (Or.inl (lyx_ne hy (by decide) (by decide) (by decide)))]; exact e11123
        have e11139 : I11137 (ad g 27) 4 = v10925 := by rw [eI11137, pp_ne _ _ (Or.inl (lyx_ne hy (by decide) (by decide) (by decide)))]; exact e11124
        have e11140 : I11137 (ad g 50) 0 = v10932 := by rw [eI11137, pp_ne _ _ (Or.inr (by decide))]; exact e11125
        have e11141 : I11137 (ad g 50) 1 = v10938 := by rw [eI11137, pp_ne _ _ (Or.inr (by decide))]; exact e11126
        have e11142 : I11137 (ad g 50) 2 = v10945 := by rw [eI11137, pp_ne _ _ (Or.inr (by decide))]; exact e11127
        have e11143 : I11137 (ad g 50) 3 = v10958 := by rw [eI11137, pp_ne _ _ (Or.inr (by decide))]; exact e11128
        have e11144 : I11137 (ad g 50) 4 = v11097 := by rw [eI11137, pp_ne _ _ (Or.inr (by decide))]; exact e11129
        have e11145 : I11137 (ad g 50) 5 = v10938 := by rw [eI11137, pp_ne _ _ (Or.inr (by decide))]; exact e11130
        have e11146 : I11137 (ad g 50) 6 = v11121 := by rw [eI11137, pp_ne _ _ (Or.inr (by decide))]; exact e11131
        have e11147 : I11137 (ad g 50) 7 = v11136 := by rw [eI11137, pp_self]
        have fr11148 : fz 74 g [50] I I11137 := by rw [eI11137]; exact fzx_pp hy fr11132 (by decide) (by decide)
        clear eI11137
        refine WP_aload_n dX6_load_197 rfl ?_
        refine WP_aload_n dX6_load_198 rfl ?_
        refine WP_getr dX6_load_199 fX6_64 rfl (lyx_is hy 5 0 rfl) (rfx hr 5 2 23 (by decide)) ?_
        refine WP_iload_n dX6_load_202 rfl ?_
        refine WQ_iald dX6_load_203 (lyx_is hy 23 13 rfl) (lyx_n hy 23 7 rfl) (by omega) (by omega) (fun q hq => BT_get hI11137.1 23 0 7 (0) (0) (900) (by decide) q (Nat.zero_le _) hq) (fun v11149 av11149 bv11149 ev11149 => ?_)
        clear ev11149
        refine WQ_if_le 211 dX6_load_204 rfl (fun c11149 => ?_) (fun c11149 => ?_)
        · refine WQ_iconst (0) (0) dX6_load_211 rfl rfl (fun v11151 hv11151 => ?_)
          refine WQ_putz dX6_load_212 fX6_67 rfl rfl (by omega) (lyx_is hy 50 6 rfl) (fun I11152 eI11152 => ?_)
          have hI11152 : XI g n L I11152 := by rw [eI11152]; exact (xi_f hy hI11137 (c := 50) (0) (0) (1) (by decide) (Or.inl (by decide)) (by decide) (by omega) (by omega))
          have e11153 : I11152 (ad g 1) 1 = L := by rw [eI11152, pp_ne _ _ (Or.inl (lyx_ne hy (by decide) (by decide) (by decide)))]; exact e11138
          have e11154 : I11152 (ad g 27) 4 = v10925 := by rw [eI11152, pp_ne _ _ (Or.inl (lyx_ne hy (by decide) (by decide) (by decide)))]; exact e11139
          have e11155 : I11152 (ad g 50) 0 = v10932 := by rw [eI11152, pp_ne _ _ (Or.inr (by decide))]; exact e11140
          have e11156 : I11152 (ad g 50) 1 = v10938 := by rw [eI11152, pp_ne _ _ (Or.inr (by decide))]; exact e11141
          have e11157 : I11152 (ad g 50) 2 = v10945 := by rw [eI11152, pp_ne _ _ (Or.inr (by decide))]; exact e11142
          have e11158 : I11152 (ad g 50) 3 = v10958 := by rw [eI11152, pp_ne _ _ (Or.inr (by decide))]; exact e11143
          have e11159 : I11152 (ad g 50) 4 = v11097 := by rw [eI11152, pp_ne _ _ (Or.inr (by decide))]; exact e11144
          have e11160 : I11152 (ad g 50) 5 = v10938 := by rw [eI11152, pp_ne _ _ (Or.inr (by decide))]; exact e11145
          have e11161 : I11152 (ad g 50) 6 = v11121 := by rw [eI11152, pp_ne _ _ (Or.inr (by decide))]; exact e11146
          have e11162 : I11152 (ad g 50) 7 = v11136 := by rw [eI11152, pp_ne _ _ (Or.inr (by decide))]; exact e11147
          have e11163 : I11152 (ad g 50) 8 = v11151 := by rw [eI11152, pp_self]
          have fr11164 : fz 74 g [50] I I11152 := by rw [eI11152]; exact fzx_pp hy fr11148 (by decide) (by decide)
          clear eI11152
          exact WP_vret dX6_load_215 rfl ⟨⟨hI11152, rfl, fr11164, rfl, (by
                have yill : I (ad g (27 + 5)) so.toInt.toNat >>> (nI da.toInt.toNat &&& 31) &&& 1 = v10929 := by rw [show I (ad g (27 + 5)) so.toInt.toNat = v10926 from yv10926, show nI da.toInt.toNat = da from (eq32 _ _).mpr (by rw [nI_toInt (by omega)]; omega), xv10929, xv10927, (eq32 v10928 1).mpr hv10928]
                have yst : I (ad g 27) 4 = v10925 := est
                unfold LD
                simp only [e11155, e11156, e11157, e11158, e11159, e11160, e11161, e11162, yill, yst, show I (ad g (27 + 7)) _ = _ from yv10932, show I (ad g (27 + 8)) _ = _ from yv10938, show I (ad g (27 + 9)) _ = _ from yv10945, yv10958, true_and, and_true]
                omega)⟩, rfl⟩
        · refine WQ_iconst (1) (1) dX6_load_207 rfl rfl (fun v11165 hv11165 => ?_)
          refine WP_goto 212 dX6_load_208 rfl ?_
          refine WQ_putz dX6_load_212 fX6_67 rfl rfl (by omega) (lyx_is hy 50 6 rfl) (fun I11166 eI11166 => ?_)
          have hI11166 : XI g n L I11166 := by rw [eI11166]; exact (xi_f hy hI11137 (c := 50) (0) (0) (1) (by decide) (Or.inl (by decide)) (by decide) (by omega) (by omega))
          have e11167 : I11166 (ad g 1) 1 = L := by rw [eI11166, pp_ne _ _ (Or.inl (lyx_ne hy (by decide) (by decide) (by decide)))]; exact e11138
          have e11168 : I11166 (ad g 27) 4 = v10925 := by rw [eI11166, pp_ne _ _ (Or.inl (lyx_ne hy (by decide) (by decide) (by decide)))]; exact e11139
          have e11169 : I11166 (ad g 50) 0 = v10932 := by rw [eI11166, pp_ne _ _ (Or.inr (by decide))]; exact e11140
          have e11170 : I11166 (ad g 50) 1 = v10938 := by rw [eI11166, pp_ne _ _ (Or.inr (by decide))]; exact e11141
          have e11171 : I11166 (ad g 50) 2 = v10945 := by rw [eI11166, pp_ne _ _ (Or.inr (by decide))]; exact e11142
          have e11172 : I11166 (ad g 50) 3 = v10958 := by rw [eI11166, pp_ne _ _ (Or.inr (by decide))]; exact e11143
          have e11173 : I11166 (ad g 50) 4 = v11097 := by rw [eI11166, pp_ne _ _ (Or.inr (by decide))]; exact e11144
          have e11174 : I11166 (ad g 50) 5 = v10938 := by rw [eI11166, pp_ne _ _ (Or.inr (by decide))]; exact e11145
          have e11175 : I11166 (ad g 50) 6 = v11121 := by rw [eI11166, pp_ne _ _ (Or.inr (by decide))]; exact e11146
          have e11176 : I11166 (ad g 50) 7 = v11136 := by rw [eI11166, pp_ne _ _ (Or.inr (by decide))]; exact e11147
          have e11177 : I11166 (ad g 50) 8 = v11165 := by rw [eI11166, pp_self]
          have fr11178 : fz 74 g [50] I I11166 := by rw [eI11166]; exact fzx_pp hy fr11148 (by decide) (by decide)
          clear eI11166
          exact WP_vret dX6_load_215 rfl ⟨⟨hI11166, rfl, fr11178, rfl, (by
                have yill : I (ad g (27 + 5)) so.toInt.toNat >>> (nI da.toInt.toNat &&& 31) &&& 1 = v10929 := by rw [show I (ad g (27 + 5)) so.toInt.toNat = v10926 from yv10926, show nI da.toInt.toNat = da from (eq32 _ _).mpr (by rw [nI_toInt (by omega)]; omega), xv10929, xv10927, (eq32 v10928 1).mpr hv10928]
                have yst : I (ad g 27) 4 = v10925 := est
                unfold LD
                simp only [e11169, e11170, e11171, e11172, e11173, e11174, e11175, e11176, yill, yst, show I (ad g (27 + 7)) _ = _ from yv10932, show I (ad g (27 + 8)) _ = _ from yv10938, show I (ad g (27 + 9)) _ = _ from yv10945, yv10958, true_and, and_true]
                omega)⟩, rfl⟩
    · refine WQ_iconst (0) (0) dX6_load_87 rfl rfl (fun v11179 hv11179 => ?_)
      refine WP_goto 105 dX6_load_88 rfl ?_
      refine WQ_puti dX6_load_105 fX6_48 rfl rfl (lyx_is hy 50 6 rfl) (fun I11180 eI11180 => ?_)
      have hI11180 : XI g n L I11180 := by rw [eI11180]; exact (xi_f hy hI10946 (c := 50) (0) (0) (20) (by decide) (Or.inl (by decide)) (by decide) (by omega) (by omega))
      have e11181 : I11180 (ad g 1) 1 = L := by rw [eI11180, pp_ne _ _ (Or.inl (lyx_ne hy (by decide) (by decide) (by decide)))]; exact e10947
      have e11182 : I11180 (ad g 27) 4 = v10925 := by rw [eI11180, pp_ne _ _ (Or.inl (lyx_ne hy (by decide) (by decide) (by decide)))]; exact e10948
      have e11183 : I11180 (ad g 50) 0 = v10932 := by rw [eI11180, pp_ne _ _ (Or.inr (by decide))]; exact e10949
      have e11184 : I11180 (ad g 50) 1 = v10938 := by rw [eI11180, pp_ne _ _ (Or.inr (by decide))]; exact e10950
      have e11185 : I11180 (ad g 50) 2 = v10945 := by rw [eI11180, pp_ne _ _ (Or.inr (by decide))]; exact e10951
      have e11186 : I11180 (ad g 50) 3 = v11179 := by rw [eI11180, pp_self]
      have fr11187 : fz 74 g [50] I I11180 := by rw [eI11180]; exact fzx_pp hy fr10952 (by decide) (by decide)
      clear eI11180
      refine WP_aload_n dX6_load_108 rfl ?_
      refine WP_iload dX6_load_109 rfl ?_
      refine WQ_iconst (-1) (-1) dX6_load_111 rfl rfl (fun v11188 hv11188 => ?_)
      refine WQ_icmp_ne 119 dX6_load_112 rfl (fun c11188 => ?_) (fun c11188 => ?_)
      · refine WP_aload_n dX6_load_119 rfl ?_
        refine WP_getr dX6_load_120 fX6_45 rfl (lyx_is hy 5 0 rfl) (rfx hr 5 1 22 (by decide)) ?_
        refine WP_iload dX6_load_123 rfl ?_
        refine WQ_bipush (7) (7) dX6_load_125 rfl rfl (fun v11190 hv11190 => ?_)
        refine WQ_imulk (7) dX6_load_127 hv11190 (by omega) (by omega) (fun v11191 hv11191 => ?_)
        refine WP_iload_n dX6_load_128 rfl ?_
        refine WQ_iadd dX6_load_129 (by omega) (by omega) (fun v11192 hv11192 => ?_)
        refine WQ_ialdb dX6_load_130 (lyx_is hy 22 13 rfl) (lyx_n hy 22 21 rfl) (by omega) (by omega) (fun q hq => BT_get hI11180.1 22 0 21 (0) (0) (20) (by decide) q (Nat.zero_le _) hq) (fun v11193 av11193 bv11193 zv11193 => ?_)
        have yv11193 : I (ad g 22) (7 * v10925.toInt + da.toInt).toNat = v11193 := by rw [← fz_at fr11187 22 (by decide) (by decide), show (7 * v10925.toInt + da.toInt).toNat = v11192.toInt.toNat by omega]; exact zv11193
        refine WQ_puti dX6_load_131 fX6_51 rfl rfl (lyx_is hy 50 6 rfl) (fun I11194 eI11194 => ?_)
        have hI11194 : XI g n L I11194 := by rw [eI11194]; exact (xi_f hy hI11180 (c := 50) (0) (0) (20) (by decide) (Or.inl (by decide)) (by decide) (by omega) (by omega))
        have e11195 : I11194 (ad g 1) 1 = L := by rw [eI11194, pp_ne _ _ (Or.inl (lyx_ne hy (by decide) (by decide) (by decide)))]; exact e11181
        have e11196 : I11194 (ad g 27) 4 = v10925 := by rw [eI11194, pp_ne _ _ (Or.inl (lyx_ne hy (by decide) (by decide) (by decide)))]; exact e11182
        have e11197 : I11194 (ad g 50) 0 = v10932 := by rw [eI11194, pp_ne _ _ (Or.inr (by decide))]; exact e11183
        have e11198 : I11194 (ad g 50) 1 = v10938 := by rw [eI11194, pp_ne _ _ (Or.inr (by decide))]; exact e11184
        have e11199 : I11194 (ad g 50) 2 = v10945 := by rw [eI11194, pp_ne _ _ (Or.inr (by decide))]; exact e11185
        have e11200 : I11194 (ad g 50) 3 = v11179 := by rw [eI11194, pp_ne _ _ (Or.inr (by decide))]; exact e11186
        have e11201 : I11194 (ad g 50) 4 = v11193 := by rw [eI11194, pp_self]
        have fr11202 : fz 74 g [50] I I11194 := by rw [eI11194]; exact fzx_pp hy fr11187 (by decide) (by decide)
        clear eI11194
        refine WP_aload_n dX6_load_134 rfl ?_
        refine WP_iload dX6_load_135 rfl ?_
        refine WQ_if_eq 144 dX6_load_137 rfl (fun c11202 => ?_) (fun c11202 => False.elim (by omega))
        refine WP_aload_n dX6_load_144 rfl ?_
        refine WQ_getim dX6_load_145 fX6_36 rfl (lyx_is hy 50 6 rfl) e11198 ?_
        refine WQ_puti dX6_load_148 fX6_54 rfl rfl (lyx_is hy 50 6 rfl) (fun I11204 eI11204 => ?_)
        have hI11204 : XI g n L I11204 := by rw [eI11204]; exact (xi_f hy hI11194 (c := 50) (0) (0) (3) (by decide) (Or.inl (by decide)) (by decide) (by omega) (by omega))
        have e11205 : I11204 (ad g 1) 1 = L := by rw [eI11204, pp_ne _ _ (Or.inl (lyx_ne hy (by decide) (by decide) (by decide)))]; exact e11195
        have e11206 : I11204 (ad g 27) 4 = v10925 := by rw [eI11204, pp_ne _ _ (Or.inl (lyx_ne hy (by decide) (by decide) (by decide)))]; exact e11196
        have e11207 : I11204 (ad g 50) 0 = v10932 := by rw [eI11204, pp_ne _ _ (Or.inr (by decide))]; exact e11197
        have e11208 : I11204 (ad g 50) 1 = v10938 := by rw [eI11204, pp_ne _ _ (Or.inr (by decide))]; exact e11198
        have e11209 : I11204 (ad g 50) 2 = v10945 := by rw [eI11204, pp_ne _ _ (Or.inr (by decide))]; exact e11199
        have e11210 : I11204 (ad g 50) 3 = v11179 := by rw [eI11204, pp_ne _ _ (Or.inr (by decide))]; exact e11200
        have e11211 : I11204 (ad g 50) 4 = v11193 := by rw [eI11204, pp_ne _ _ (Or.inr (by decide))]; exact e11201
        have e11212 : I11204 (ad g 50) 5 = v10938 := by rw [eI11204, pp_self]
        have fr11213 : fz 74 g [50] I I11204 := by rw [eI11204]; exact fzx_pp hy fr11202 (by decide) (by decide)
        clear eI11204
        refine WP_aload_n dX6_load_151 rfl ?_
        refine WP_iload dX6_load_152 rfl ?_
        refine WQ_if_ne 163 dX6_load_154 rfl (fun c11213 => False.elim (by omega)) (fun c11213 => ?_)
        refine WP_iload dX6_load_157 rfl ?_
        refine WQ_iconst (-1) (-1) dX6_load_159 rfl rfl (fun v11215 hv11215 => ?_)
        refine WQ_icmp_ne 167 dX6_load_160 rfl (fun c11215 => ?_) (fun c11215 => False.elim (by omega))
        refine WQ_iconst (2) (2) dX6_load_167 rfl rfl (fun v11217 hv11217 => ?_)
        refine WQ_puti dX6_load_168 fX6_57 rfl rfl (lyx_is hy 50 6 rfl) (fun I11218 eI11218 => ?_)
        have hI11218 : XI g n L I11218 := by rw [eI11218]; exact (xi_f hy hI11204 (c := 50) (0) (0) (2) (by decide) (Or.inl (by decide)) (by decide) (by omega) (by omega))
        have e11219 : I11218 (ad g 1) 1 = L := by rw [eI11218, pp_ne _ _ (Or.inl (lyx_ne hy (by decide) (by decide) (by decide)))]; exact e11205
        have e11220 : I11218 (ad g 27) 4 = v10925 := by rw [eI11218, pp_ne _ _ (Or.inl (lyx_ne hy (by decide) (by decide) (by decide)))]; exact e11206
        have e11221 : I11218 (ad g 50) 0 = v10932 := by rw [eI11218, pp_ne _ _ (Or.inr (by decide))]; exact e11207
        have e11222 : I11218 (ad g 50) 1 = v10938 := by rw [eI11218, pp_ne _ _ (Or.inr (by decide))]; exact e11208
        have e11223 : I11218 (ad g 50) 2 = v10945 := by rw [eI11218, pp_ne _ _ (Or.inr (by decide))]; exact e11209
        have e11224 : I11218 (ad g 50) 3 = v11179 := by rw [eI11218, pp_ne _ _ (Or.inr (by decide))]; exact e11210
        have e11225 : I11218 (ad g 50) 4 = v11193 := by rw [eI11218, pp_ne _ _ (Or.inr (by decide))]; exact e11211
        have e11226 : I11218 (ad g 50) 5 = v10938 := by rw [eI11218, pp_ne _ _ (Or.inr (by decide))]; exact e11212
        have e11227 : I11218 (ad g 50) 6 = v11217 := by rw [eI11218, pp_self]
        have fr11228 : fz 74 g [50] I I11218 := by rw [eI11218]; exact fzx_pp hy fr11213 (by decide) (by decide)
        clear eI11218
        refine WP_aload_n dX6_load_171 rfl ?_
        refine WP_aload_n dX6_load_172 rfl ?_
        refine WQ_getim dX6_load_173 fX6_9 rfl (lyx_is hy 50 6 rfl) e11221 ?_
        refine WQ_iconst (-1) (-1) dX6_load_176 rfl rfl (fun v11229 hv11229 => ?_)
        refine WQ_icmp_eq 193 dX6_load_177 rfl (fun c11229 => ?_) (fun c11229 => False.elim (by omega))
        refine WQ_iconst (0) (0) dX6_load_193 rfl rfl (fun v11231 hv11231 => ?_)
        refine WQ_putz dX6_load_194 fX6_60 rfl rfl (by omega) (lyx_is hy 50 6 rfl) (fun I11232 eI11232 => ?_)
        have hI11232 : XI g n L I11232 := by rw [eI11232]; exact (xi_f hy hI11218 (c := 50) (0) (0) (1) (by decide) (Or.inl (by decide)) (by decide) (by omega) (by omega))
        have e11233 : I11232 (ad g 1) 1 = L := by rw [eI11232, pp_ne _ _ (Or.inl (lyx_ne hy (by decide) (by decide) (by decide)))]; exact e11219
        have e11234 : I11232 (ad g 27) 4 = v10925 := by rw [eI11232, pp_ne _ _ (Or.inl (lyx_ne hy (by decide) (by decide) (by decide)))]; exact e11220
        have e11235 : I11232 (ad g 50) 0 = v10932 := by rw [eI11232, pp_ne _ _ (Or.inr (by decide))]; exact e11221
        have e11236 : I11232 (ad g 50) 1 = v10938 := by rw [eI11232, pp_ne _ _ (Or.inr (by decide))]; exact e11222
        have e11237 : I11232 (ad g 50) 2 = v10945 := by rw [eI11232, pp_ne _ _ (Or.inr (by decide))]; exact e11223
        have e11238 : I11232 (ad g 50) 3 = v11179 := by rw [eI11232, pp_ne _ _ (Or.inr (by decide))]; exact e11224
        have e11239 : I11232 (ad g 50) 4 = v11193 := by rw [eI11232, pp_ne _ _ (Or.inr (by decide))]; exact e11225
        have e11240 : I11232 (ad g 50) 5 = v10938 := by rw [eI11232, pp_ne _ _ (Or.inr (by decide))]; exact e11226
        have e11241 : I11232 (ad g 50) 6 = v11217 := by rw [eI11232, pp_ne _ _ (Or.inr (by decide))]; exact e11227
        have e11242 : I11232 (ad g 50) 7 = v11231 := by rw [eI11232, pp_self]
        have fr11243 : fz 74 g [50] I I11232 := by rw [eI11232]; exact fzx_pp hy fr11228 (by decide) (by decide)
        clear eI11232
        refine WP_aload_n dX6_load_197 rfl ?_
        refine WP_aload_n dX6_load_198 rfl ?_
        refine WP_getr dX6_load_199 fX6_64 rfl (lyx_is hy 5 0 rfl) (rfx hr 5 2 23 (by decide)) ?_
        refine WP_iload_n dX6_load_202 rfl ?_
        refine WQ_iald dX6_load_203 (lyx_is hy 23 13 rfl) (lyx_n hy 23 7 rfl) (by omega) (by omega) (fun q hq => BT_get hI11232.1 23 0 7 (0) (0) (900) (by decide) q (Nat.zero_le _) hq) (fun v11244 av11244 bv11244 ev11244 => ?_)
        clear ev11244
        refine WQ_if_le 211 dX6_load_204 rfl (fun c11244 => ?_) (fun c11244 => ?_)
        · refine WQ_iconst (0) (0) dX6_load_211 rfl rfl (fun v11246 hv11246 => ?_)
          refine WQ_putz dX6_load_212 fX6_67 rfl rfl (by omega) (lyx_is hy 50 6 rfl) (fun I11247 eI11247 => ?_)
          have hI11247 : XI g n L I11247 := by rw [eI11247]; exact (xi_f hy hI11232 (c := 50) (0) (0) (1) (by decide) (Or.inl (by decide)) (by decide) (by omega) (by omega))
          have e11248 : I11247 (ad g 1) 1 = L := by rw [eI11247, pp_ne _ _ (Or.inl (lyx_ne hy (by decide) (by decide) (by decide)))]; exact e11233
          have e11249 : I11247 (ad g 27) 4 = v10925 := by rw [eI11247, pp_ne _ _ (Or.inl (lyx_ne hy (by decide) (by decide) (by decide)))]; exact e11234
          have e11250 : I11247 (ad g 50) 0 = v10932 := by rw [eI11247, pp_ne _ _ (Or.inr (by decide))]; exact e11235
          have e11251 : I11247 (ad g 50) 1 = v10938 := by rw [eI11247, pp_ne _ _ (Or.inr (by decide))]; exact e11236
          have e11252 : I11247 (ad g 50) 2 = v10945 := by rw [eI11247, pp_ne _ _ (Or.inr (by decide))]; exact e11237
          have e11253 : I11247 (ad g 50) 3 = v11179 := by rw [eI11247, pp_ne _ _ (Or.inr (by decide))]; exact e11238
          have e11254 : I11247 (ad g 50) 4 = v11193 := by rw [eI11247, pp_ne _ _ (Or.inr (by decide))]; exact e11239
          have e11255 : I11247 (ad g 50) 5 = v10938 := by rw [eI11247, pp_ne _ _ (Or.inr (by decide))]; exact e11240
          have e11256 : I11247 (ad g 50) 6 = v11217 := by rw [eI11247, pp_ne _ _ (Or.inr (by decide))]; exact e11241
          have e11257 : I11247 (ad g 50) 7 = v11231 := by rw [eI11247, pp_ne _ _ (Or.inr (by decide))]; exact e11242
          have e11258 : I11247 (ad g 50) 8 = v11246 := by rw [eI11247, pp_self]
          have fr11259 : fz 74 g [50] I I11247 := by rw [eI11247]; exact fzx_pp hy fr11243 (by decide) (by decide)
          clear eI11247
          exact WP_vret dX6_load_215 rfl ⟨⟨hI11247, rfl, fr11259, rfl, (by
                have yill : I (ad g (27 + 5)) so.toInt.toNat >>> (nI da.toInt.toNat &&& 31) &&& 1 = v10929 := by rw [show I (ad g (27 + 5)) so.toInt.toNat = v10926 from yv10926, show nI da.toInt.toNat = da from (eq32 _ _).mpr (by rw [nI_toInt (by omega)]; omega), xv10929, xv10927, (eq32 v10928 1).mpr hv10928]
                have yst : I (ad g 27) 4 = v10925 := est
                unfold LD
                simp only [e11250, e11251, e11252, e11253, e11254, e11255, e11256, e11257, yill, yst, show I (ad g (27 + 7)) _ = _ from yv10932, show I (ad g (27 + 8)) _ = _ from yv10938, show I (ad g (27 + 9)) _ = _ from yv10945, yv11193, true_and, and_true]
                omega)⟩, rfl⟩
        · refine WQ_iconst (1) (1) dX6_load_207 rfl rfl (fun v11260 hv11260 => ?_)
          refine WP_goto 212 dX6_load_208 rfl ?_
          refine WQ_putz dX6_load_212 fX6_67 rfl rfl (by omega) (lyx_is hy 50 6 rfl) (fun I11261 eI11261 => ?_)
          have hI11261 : XI g n L I11261 := by rw [eI11261]; exact (xi_f hy hI11232 (c := 50) (0) (0) (1) (by decide) (Or.inl (by decide)) (by decide) (by omega) (by omega))
          have e11262 : I11261 (ad g 1) 1 = L := by rw [eI11261, pp_ne _ _ (Or.inl (lyx_ne hy (by decide) (by decide) (by decide)))]; exact e11233
          have e11263 : I11261 (ad g 27) 4 = v10925 := by rw [eI11261, pp_ne _ _ (Or.inl (lyx_ne hy (by decide) (by decide) (by decide)))]; exact e11234
          have e11264 : I11261 (ad g 50) 0 = v10932 := by rw [eI11261, pp_ne _ _ (Or.inr (by decide))]; exact e11235
          have e11265 : I11261 (ad g 50) 1 = v10938 := by rw [eI11261, pp_ne _ _ (Or.inr (by decide))]; exact e11236
          have e11266 : I11261 (ad g 50) 2 = v10945 := by rw [eI11261, pp_ne _ _ (Or.inr (by decide))]; exact e11237
          have e11267 : I11261 (ad g 50) 3 = v11179 := by rw [eI11261, pp_ne _ _ (Or.inr (by decide))]; exact e11238
          have e11268 : I11261 (ad g 50) 4 = v11193 := by rw [eI11261, pp_ne _ _ (Or.inr (by decide))]; exact e11239
          have e11269 : I11261 (ad g 50) 5 = v10938 := by rw [eI11261, pp_ne _ _ (Or.inr (by decide))]; exact e11240
          have e11270 : I11261 (ad g 50) 6 = v11217 := by rw [eI11261, pp_ne _ _ (Or.inr (by decide))]; exact e11241
          have e11271 : I11261 (ad g 50) 7 = v11231 := by rw [eI11261, pp_ne _ _ (Or.inr (by decide))]; exact e11242
          have e11272 : I11261 (ad g 50) 8 = v11260 := by rw [eI11261, pp_self]
          have fr11273 : fz 74 g [50] I I11261 := by rw [eI11261]; exact fzx_pp hy fr11243 (by decide) (by decide)
          clear eI11261
          exact WP_vret dX6_load_215 rfl ⟨⟨hI11261, rfl, fr11273, rfl, (by
                have yill : I (ad g (27 + 5)) so.toInt.toNat >>> (nI da.toInt.toNat &&& 31) &&& 1 = v10929 := by rw [show I (ad g (27 + 5)) so.toInt.toNat = v10926 from yv10926, show nI da.toInt.toNat = da from (eq32 _ _).mpr (by rw [nI_toInt (by omega)]; omega), xv10929, xv10927, (eq32 v10928 1).mpr hv10928]
                have yst : I (ad g 27) 4 = v10925 := est
                unfold LD
                simp only [e11264, e11265, e11266, e11267, e11268, e11269, e11270, e11271, yill, yst, show I (ad g (27 + 7)) _ = _ from yv10932, show I (ad g (27 + 8)) _ = _ from yv10938, show I (ad g (27 + 9)) _ = _ from yv10945, yv11193, true_and, and_true]
                omega)⟩, rfl⟩
      · refine WQ_iconst (0) (0) dX6_load_115 rfl rfl (fun v11274 hv11274 => ?_)
        refine WP_goto 131 dX6_load_116 rfl ?_
        refine WQ_puti dX6_load_131 fX6_51 rfl rfl (lyx_is hy 50 6 rfl) (fun I11275 eI11275 => ?_)
        have hI11275 : XI g n L I11275 := by rw [eI11275]; exact (xi_f hy hI11180 (c := 50) (0) (0) (20) (by decide) (Or.inl (by decide)) (by decide) (by omega) (by omega))
        have e11276 : I11275 (ad g 1) 1 = L := by rw [eI11275, pp_ne _ _ (Or.inl (lyx_ne hy (by decide) (by decide) (by decide)))]; exact e11181
        have e11277 : I11275 (ad g 27) 4 = v10925 := by rw [eI11275, pp_ne _ _ (Or.inl (lyx_ne hy (by decide) (by decide) (by decide)))]; exact e11182
        have e11278 : I11275 (ad g 50) 0 = v10932 := by rw [eI11275, pp_ne _ _ (Or.inr (by decide))]; exact e11183
        have e11279 : I11275 (ad g 50) 1 = v10938 := by rw [eI11275, pp_ne _ _ (Or.inr (by decide))]; exact e11184
        have e11280 : I11275 (ad g 50) 2 = v10945 := by rw [eI11275, pp_ne _ _ (Or.inr (by decide))]; exact e11185
        have e11281 : I11275 (ad g 50) 3 = v11179 := by rw [eI11275, pp_ne _ _ (Or.inr (by decide))]; exact e11186
        have e11282 : I11275 (ad g 50) 4 = v11274 := by rw [eI11275, pp_self]
        have fr11283 : fz 74 g [50] I I11275 := by rw [eI11275]; exact fzx_pp hy fr11187 (by decide) (by decide)
        clear eI11275
        refine WP_aload_n dX6_load_134 rfl ?_
        refine WP_iload dX6_load_135 rfl ?_
        refine WQ_if_eq 144 dX6_load_137 rfl (fun c11283 => ?_) (fun c11283 => False.elim (by omega))
        refine WP_aload_n dX6_load_144 rfl ?_
        refine WQ_getim dX6_load_145 fX6_36 rfl (lyx_is hy 50 6 rfl) e11279 ?_
        refine WQ_puti dX6_load_148 fX6_54 rfl rfl (lyx_is hy 50 6 rfl) (fun I11285 eI11285 => ?_)
        have hI11285 : XI g n L I11285 := by rw [eI11285]; exact (xi_f hy hI11275 (c := 50) (0) (0) (3) (by decide) (Or.inl (by decide)) (by decide) (by omega) (by omega))
        have e11286 : I11285 (ad g 1) 1 = L := by rw [eI11285, pp_ne _ _ (Or.inl (lyx_ne hy (by decide) (by decide) (by decide)))]; exact e11276
        have e11287 : I11285 (ad g 27) 4 = v10925 := by rw [eI11285, pp_ne _ _ (Or.inl (lyx_ne hy (by decide) (by decide) (by decide)))]; exact e11277
        have e11288 : I11285 (ad g 50) 0 = v10932 := by rw [eI11285, pp_ne _ _ (Or.inr (by decide))]; exact e11278
        have e11289 : I11285 (ad g 50) 1 = v10938 := by rw [eI11285, pp_ne _ _ (Or.inr (by decide))]; exact e11279
        have e11290 : I11285 (ad g 50) 2 = v10945 := by rw [eI11285, pp_ne _ _ (Or.inr (by decide))]; exact e11280
        have e11291 : I11285 (ad g 50) 3 = v11179 := by rw [eI11285, pp_ne _ _ (Or.inr (by decide))]; exact e11281
        have e11292 : I11285 (ad g 50) 4 = v11274 := by rw [eI11285, pp_ne _ _ (Or.inr (by decide))]; exact e11282
        have e11293 : I11285 (ad g 50) 5 = v10938 := by rw [eI11285, pp_self]
        have fr11294 : fz 74 g [50] I I11285 := by rw [eI11285]; exact fzx_pp hy fr11283 (by decide) (by decide)
        clear eI11285
        refine WP_aload_n dX6_load_151 rfl ?_
        refine WP_iload dX6_load_152 rfl ?_
        refine WQ_if_ne 163 dX6_load_154 rfl (fun c11294 => False.elim (by omega)) (fun c11294 => ?_)
        refine WP_iload dX6_load_157 rfl ?_
        refine WQ_iconst (-1) (-1) dX6_load_159 rfl rfl (fun v11296 hv11296 => ?_)
        refine WQ_icmp_ne 167 dX6_load_160 rfl (fun c11296 => False.elim (by omega)) (fun c11296 => ?_)
        refine WQ_iconst (0) (0) dX6_load_163 rfl rfl (fun v11298 hv11298 => ?_)
        refine WP_goto 168 dX6_load_164 rfl ?_
        refine WQ_puti dX6_load_168 fX6_57 rfl rfl (lyx_is hy 50 6 rfl) (fun I11299 eI11299 => ?_)
        have hI11299 : XI g n L I11299 := by rw [eI11299]; exact (xi_f hy hI11285 (c := 50) (0) (0) (2) (by decide) (Or.inl (by decide)) (by decide) (by omega) (by omega))
        have e11300 : I11299 (ad g 1) 1 = L := by rw [eI11299, pp_ne _ _ (Or.inl (lyx_ne hy (by decide) (by decide) (by decide)))]; exact e11286
        have e11301 : I11299 (ad g 27) 4 = v10925 := by rw [eI11299, pp_ne _ _ (Or.inl (lyx_ne hy (by decide) (by decide) (by decide)))]; exact e11287
        have e11302 : I11299 (ad g 50) 0 = v10932 := by rw [eI11299, pp_ne _ _ (Or.inr (by decide))]; exact e11288
        have e11303 : I11299 (ad g 50) 1 = v10938 := by rw [eI11299, pp_ne _ _ (Or.inr (by decide))]; exact e11289
        have e11304 : I11299 (ad g 50) 2 = v10945 := by rw [eI11299, pp_ne _ _ (Or.inr (by decide))]; exact e11290
        have e11305 : I11299 (ad g 50) 3 = v11179 := by rw [eI11299, pp_ne _ _ (Or.inr (by decide))]; exact e11291
        have e11306 : I11299 (ad g 50) 4 = v11274 := by rw [eI11299, pp_ne _ _ (Or.inr (by decide))]; exact e11292
        have e11307 : I11299 (ad g 50) 5 = v10938 := by rw [eI11299, pp_ne _ _ (Or.inr (by decide))]; exact e11293
        have e11308 : I11299 (ad g 50) 6 = v11298 := by rw [eI11299, pp_self]
        have fr11309 : fz 74 g [50] I I11299 := by rw [eI11299]; exact fzx_pp hy fr11294 (by decide) (by decide)
        clear eI11299
        refine WP_aload_n dX6_load_171 rfl ?_
        refine WP_aload_n dX6_load_172 rfl ?_
        refine WQ_getim dX6_load_173 fX6_9 rfl (lyx_is hy 50 6 rfl) e11302 ?_
        refine WQ_iconst (-1) (-1) dX6_load_176 rfl rfl (fun v11310 hv11310 => ?_)
        refine WQ_icmp_eq 193 dX6_load_177 rfl (fun c11310 => ?_) (fun c11310 => False.elim (by omega))
        refine WQ_iconst (0) (0) dX6_load_193 rfl rfl (fun v11312 hv11312 => ?_)
        refine WQ_putz dX6_load_194 fX6_60 rfl rfl (by omega) (lyx_is hy 50 6 rfl) (fun I11313 eI11313 => ?_)
        have hI11313 : XI g n L I11313 := by rw [eI11313]; exact (xi_f hy hI11299 (c := 50) (0) (0) (1) (by decide) (Or.inl (by decide)) (by decide) (by omega) (by omega))
        have e11314 : I11313 (ad g 1) 1 = L := by rw [eI11313, pp_ne _ _ (Or.inl (lyx_ne hy (by decide) (by decide) (by decide)))]; exact e11300
        have e11315 : I11313 (ad g 27) 4 = v10925 := by rw [eI11313, pp_ne _ _ (Or.inl (lyx_ne hy (by decide) (by decide) (by decide)))]; exact e11301
        have e11316 : I11313 (ad g 50) 0 = v10932 := by rw [eI11313, pp_ne _ _ (Or.inr (by decide))]; exact e11302
        have e11317 : I11313 (ad g 50) 1 = v10938 := by rw [eI11313, pp_ne _ _ (Or.inr (by decide))]; exact e11303
        have e11318 : I11313 (ad g 50) 2 = v10945 := by rw [eI11313, pp_ne _ _ (Or.inr (by decide))]; exact e11304
        have e11319 : I11313 (ad g 50) 3 = v11179 := by rw [eI11313, pp_ne _ _ (Or.inr (by decide))]; exact e11305
        have e11320 : I11313 (ad g 50) 4 = v11274 := by rw [eI11313, pp_ne _ _ (Or.inr (by decide))]; exact e11306
        have e11321 : I11313 (ad g 50) 5 = v10938 := by rw [eI11313, pp_ne _ _ (Or.inr (by decide))]; exact e11307
        have e11322 : I11313 (ad g 50) 6 = v11298 := by rw [eI11313, pp_ne _ _ (Or.inr (by decide))]; exact e11308
        have e11323 : I11313 (ad g 50) 7 = v11312 := by rw [eI11313, pp_self]
        have fr11324 : fz 74 g [50] I I11313 := by rw [eI11313]; exact fzx_pp hy fr11309 (by decide) (by decide)
        clear eI11313
        refine WP_aload_n dX6_load_197 rfl ?_
        refine WP_aload_n dX6_load_198 rfl ?_
        refine WP_getr dX6_load_199 fX6_64 rfl (lyx_is hy 5 0 rfl) (rfx hr 5 2 23 (by decide)) ?_
        refine WP_iload_n dX6_load_202 rfl ?_
        refine WQ_iald dX6_load_203 (lyx_is hy 23 13 rfl) (lyx_n hy 23 7 rfl) (by omega) (by omega) (fun q hq => BT_get hI11313.1 23 0 7 (0) (0) (900) (by decide) q (Nat.zero_le _) hq) (fun v11325 av11325 bv11325 ev11325 => ?_)
        clear ev11325
        refine WQ_if_le 211 dX6_load_204 rfl (fun c11325 => ?_) (fun c11325 => ?_)
        · refine WQ_iconst (0) (0) dX6_load_211 rfl rfl (fun v11327 hv11327 => ?_)
          refine WQ_putz dX6_load_212 fX6_67 rfl rfl (by omega) (lyx_is hy 50 6 rfl) (fun I11328 eI11328 => ?_)
          have hI11328 : XI g n L I11328 := by rw [eI11328]; exact (xi_f hy hI11313 (c := 50) (0) (0) (1) (by decide) (Or.inl (by decide)) (by decide) (by omega) (by omega))
          have e11329 : I11328 (ad g 1) 1 = L := by rw [eI11328, pp_ne _ _ (Or.inl (lyx_ne hy (by decide) (by decide) (by decide)))]; exact e11314
          have e11330 : I11328 (ad g 27) 4 = v10925 := by rw [eI11328, pp_ne _ _ (Or.inl (lyx_ne hy (by decide) (by decide) (by decide)))]; exact e11315
          have e11331 : I11328 (ad g 50) 0 = v10932 := by rw [eI11328, pp_ne _ _ (Or.inr (by decide))]; exact e11316
          have e11332 : I11328 (ad g 50) 1 = v10938 := by rw [eI11328, pp_ne _ _ (Or.inr (by decide))]; exact e11317
          have e11333 : I11328 (ad g 50) 2 = v10945 := by rw [eI11328, pp_ne _ _ (Or.inr (by decide))]; exact e11318
          have e11334 : I11328 (ad g 50) 3 = v11179 := by rw [eI11328, pp_ne _ _ (Or.inr (by decide))]; exact e11319
          have e11335 : I11328 (ad g 50) 4 = v11274 := by rw [eI11328, pp_ne _ _ (Or.inr (by decide))]; exact e11320
          have e11336 : I11328 (ad g 50) 5 = v10938 := by rw [eI11328, pp_ne _ _ (Or.inr (by decide))]; exact e11321
          have e11337 : I11328 (ad g 50) 6 = v11298 := by rw [eI11328, pp_ne _ _ (Or.inr (by decide))]; exact e11322
          have e11338 : I11328 (ad g 50) 7 = v11312 := by rw [eI11328, pp_ne _ _ (Or.inr (by decide))]; exact e11323
          have e11339 : I11328 (ad g 50) 8 = v11327 := by rw [eI11328, pp_self]
          have fr11340 : fz 74 g [50] I I11328 := by rw [eI11328]; exact fzx_pp hy fr11324 (by decide) (by decide)
          clear eI11328
          exact WP_vret dX6_load_215 rfl ⟨⟨hI11328, rfl, fr11340, rfl, (by
                have yill : I (ad g (27 + 5)) so.toInt.toNat >>> (nI da.toInt.toNat &&& 31) &&& 1 = v10929 := by rw [show I (ad g (27 + 5)) so.toInt.toNat = v10926 from yv10926, show nI da.toInt.toNat = da from (eq32 _ _).mpr (by rw [nI_toInt (by omega)]; omega), xv10929, xv10927, (eq32 v10928 1).mpr hv10928]
                have yst : I (ad g 27) 4 = v10925 := est
                unfold LD
                simp only [e11331, e11332, e11333, e11334, e11335, e11336, e11337, e11338, yill, yst, show I (ad g (27 + 7)) _ = _ from yv10932, show I (ad g (27 + 8)) _ = _ from yv10938, show I (ad g (27 + 9)) _ = _ from yv10945, true_and, and_true]
                omega)⟩, rfl⟩
        · refine WQ_iconst (1) (1) dX6_load_207 rfl rfl (fun v11341 hv11341 => ?_)
          refine WP_goto 212 dX6_load_208 rfl ?_
          refine WQ_putz dX6_load_212 fX6_67 rfl rfl (by omega) (lyx_is hy 50 6 rfl) (fun I11342 eI11342 => ?_)
          have hI11342 : XI g n L I11342 := by rw [eI11342]; exact (xi_f hy hI11313 (c := 50) (0) (0) (1) (by decide) (Or.inl (by decide)) (by decide) (by omega) (by omega))
          have e11343 : I11342 (ad g 1) 1 = L := by rw [eI11342, pp_ne _ _ (Or.inl (lyx_ne hy (by decide) (by decide) (by decide)))]; exact e11314
          have e11344 : I11342 (ad g 27) 4 = v10925 := by rw [eI11342, pp_ne _ _ (Or.inl (lyx_ne hy (by decide) (by decide) (by decide)))]; exact e11315
          have e11345 : I11342 (ad g 50) 0 = v10932 := by rw [eI11342, pp_ne _ _ (Or.inr (by decide))]; exact e11316
          have e11346 : I11342 (ad g 50) 1 = v10938 := by rw [eI11342, pp_ne _ _ (Or.inr (by decide))]; exact e11317
          have e11347 : I11342 (ad g 50) 2 = v10945 := by rw [eI11342, pp_ne _ _ (Or.inr (by decide))]; exact e11318
          have e11348 : I11342 (ad g 50) 3 = v11179 := by rw [eI11342, pp_ne _ _ (Or.inr (by decide))]; exact e11319
          have e11349 : I11342 (ad g 50) 4 = v11274 := by rw [eI11342, pp_ne _ _ (Or.inr (by decide))]; exact e11320
          have e11350 : I11342 (ad g 50) 5 = v10938 := by rw [eI11342, pp_ne _ _ (Or.inr (by decide))]; exact e11321
          have e11351 : I11342 (ad g 50) 6 = v11298 := by rw [eI11342, pp_ne _ _ (Or.inr (by decide))]; exact e11322
          have e11352 : I11342 (ad g 50) 7 = v11312 := by rw [eI11342, pp_ne _ _ (Or.inr (by decide))]; exact e11323
          have e11353 : I11342 (ad g 50) 8 = v11341 := by rw [eI11342, pp_self]
          have fr11354 : fz 74 g [50] I I11342 := by rw [eI11342]; exact fzx_pp hy fr11324 (by decide) (by decide)
          clear eI11342
          exact WP_vret dX6_load_215 rfl ⟨⟨hI11342, rfl, fr11354, rfl, (by
                have yill : I (ad g (27 + 5)) so.toInt.toNat >>> (nI da.toInt.toNat &&& 31) &&& 1 = v10929 := by rw [show I (ad g (27 + 5)) so.toInt.toNat = v10926 from yv10926, show nI da.toInt.toNat = da from (eq32 _ _).mpr (by rw [nI_toInt (by omega)]; omega), xv10929, xv10927, (eq32 v10928 1).mpr hv10928]
                have yst : I (ad g 27) 4 = v10925 := est
                unfold LD
                simp only [e11345, e11346, e11347, e11348, e11349, e11350, e11351, e11352, yill, yst, show I (ad g (27 + 7)) _ = _ from yv10932, show I (ad g (27 + 8)) _ = _ from yv10938, show I (ad g (27 + 9)) _ = _ from yv10945, true_and, and_true]
                omega)⟩, rfl⟩
  · refine WQ_iconst (1) (1) dX6_load_35 rfl rfl (fun v11355 hv11355 => ?_)
    refine WP_goto 40 dX6_load_36 rfl ?_
    refine WP_istore (ls' := [(0, _), (1, _), (2, _), (3, _), (4, _), (5, _), (6, _), (7, _)]) dX6_load_40 (by decide) rfl ?_
    refine WP_aload_n dX6_load_42 rfl ?_
    refine WP_aload dX6_load_43 rfl ?_
    refine WP_getr dX6_load_45 fX6_30 rfl (lyx_is hy 27 7 rfl) (rfx hr 27 11 34 (by decide)) ?_
    refine WP_iload dX6_load_48 rfl ?_
    refine WQ_ialdb dX6_load_50 (lyx_is hy 34 13 rfl) (lyx_n hy 34 28 rfl) (by omega) (by omega) (fun q hq => BT_get hI.1 34 0 28 (-1) (0) (2) (by decide) q (Nat.zero_le _) hq) (fun v11356 av11356 bv11356 zv11356 => ?_)
    have yv11356 : I (ad g 34) (7 * so.toInt + da.toInt).toNat = v11356 := by rw [← fz_at fr0 34 (by decide) (by decide), show (7 * so.toInt + da.toInt).toNat = v10924.toInt.toNat by omega]; exact zv11356
    refine WQ_puti dX6_load_51 fX6_9 rfl rfl (lyx_is hy 50 6 rfl) (fun I11357 eI11357 => ?_)
    have hI11357 : XI g n L I11357 := by rw [eI11357]; exact (xi_f hy hI (c := 50) (-1) (0) (2) (by decide) (Or.inl (by decide)) (by decide) (by omega) (by omega))
    have e11358 : I11357 (ad g 1) 1 = L := by rw [eI11357, pp_ne _ _ (Or.inl (lyx_ne hy (by decide) (by decide) (by decide)))]; exact e10920
    have e11359 : I11357 (ad g 27) 4 = v10925 := by rw [eI11357, pp_ne _ _ (Or.inl (lyx_ne hy (by decide) (by decide) (by decide)))]; exact ev10925
    have e11360 : I11357 (ad g 50) 0 = v11356 := by rw [eI11357, pp_self]
    have fr11361 : fz 74 g [50] I I11357 := by rw [eI11357]; exact fzx_pp hy fr0 (by decide) (by decide)
    clear eI11357
    refine WP_aload_n dX6_load_54 rfl ?_
    refine WP_aload dX6_load_55 rfl ?_
    refine WP_getr dX6_load_57 fX6_33 rfl (lyx_is hy 27 7 rfl) (rfx hr 27 12 35 (by decide)) ?_
    refine WP_iload dX6_load_60 rfl ?_
    refine WQ_ialdb dX6_load_62 (lyx_is hy 35 13 rfl) (lyx_n hy 35 28 rfl) (by omega) (by omega) (fun q hq => BT_get hI11357.1 35 0 28 (0) (0) (3) (by decide) q (Nat.zero_le _) hq) (fun v11362 av11362 bv11362 zv11362 => ?_)
    have yv11362 : I (ad g 35) (7 * so.toInt + da.toInt).toNat = v11362 := by rw [← fz_at fr11361 35 (by decide) (by decide), show (7 * so.toInt + da.toInt).toNat = v10924.toInt.toNat by omega]; exact zv11362
    refine WQ_puti dX6_load_63 fX6_36 rfl rfl (lyx_is hy 50 6 rfl) (fun I11363 eI11363 => ?_)
    have hI11363 : XI g n L I11363 := by rw [eI11363]; exact (xi_f hy hI11357 (c := 50) (0) (0) (3) (by decide) (Or.inl (by decide)) (by decide) (by omega) (by omega))
    have e11364 : I11363 (ad g 1) 1 = L := by rw [eI11363, pp_ne _ _ (Or.inl (lyx_ne hy (by decide) (by decide) (by decide)))]; exact e11358
    have e11365 : I11363 (ad g 27) 4 = v10925 := by rw [eI11363, pp_ne _ _ (Or.inl (lyx_ne hy (by decide) (by decide) (by decide)))]; exact e11359
    have e11366 : I11363 (ad g 50) 0 = v11356 := by rw [eI11363, pp_ne _ _ (Or.inr (by decide))]; exact e11360
    have e11367 : I11363 (ad g 50) 1 = v11362 := by rw [eI11363, pp_self]
    have fr11368 : fz 74 g [50] I I11363 := by rw [eI11363]; exact fzx_pp hy fr11361 (by decide) (by decide)
    clear eI11363
    refine WP_aload_n dX6_load_66 rfl ?_
    refine WP_aload dX6_load_67 rfl ?_
    refine WP_getr dX6_load_69 fX6_39 rfl (lyx_is hy 27 7 rfl) (rfx hr 27 13 36 (by decide)) ?_
    refine WP_iload dX6_load_72 rfl ?_
    refine WQ_ialdb dX6_load_74 (lyx_is hy 36 13 rfl) (lyx_n hy 36 28 rfl) (by omega) (by omega) (fun q hq => BT_get hI11363.1 36 0 28 (0) (0) (99) (by decide) q (Nat.zero_le _) hq) (fun v11369 av11369 bv11369 zv11369 => ?_)
    have yv11369 : I (ad g 36) (7 * so.toInt + da.toInt).toNat = v11369 := by rw [← fz_at fr11368 36 (by decide) (by decide), show (7 * so.toInt + da.toInt).toNat = v10924.toInt.toNat by omega]; exact zv11369
    refine WQ_puti dX6_load_75 fX6_42 rfl rfl (lyx_is hy 50 6 rfl) (fun I11370 eI11370 => ?_)
    have hI11370 : XI g n L I11370 := by rw [eI11370]; exact (xi_f hy hI11363 (c := 50) (0) (0) (99) (by decide) (Or.inl (by decide)) (by decide) (by omega) (by omega))
    have e11371 : I11370 (ad g 1) 1 = L := by rw [eI11370, pp_ne _ _ (Or.inl (lyx_ne hy (by decide) (by decide) (by decide)))]; exact e11364
    have e11372 : I11370 (ad g 27) 4 = v10925 := by rw [eI11370, pp_ne _ _ (Or.inl (lyx_ne hy (by decide) (by decide) (by decide)))]; exact e11365
    have e11373 : I11370 (ad g 50) 0 = v11356 := by rw [eI11370, pp_ne _ _ (Or.inr (by decide))]; exact e11366
    have e11374 : I11370 (ad g 50) 1 = v11362 := by rw [eI11370, pp_ne _ _ (Or.inr (by decide))]; exact e11367
    have e11375 : I11370 (ad g 50) 2 = v11369 := by rw [eI11370, pp_self]
    have fr11376 : fz 74 g [50] I I11370 := by rw [eI11370]; exact fzx_pp hy fr11368 (by decide) (by decide)
    clear eI11370
    refine WP_aload_n dX6_load_78 rfl ?_
    refine WP_aload_n dX6_load_79 rfl ?_
    refine WQ_getim dX6_load_80 fX6_9 rfl (lyx_is hy 50 6 rfl) e11373 ?_
    refine WQ_iconst (-1) (-1) dX6_load_83 rfl rfl (fun v11377 hv11377 => ?_)
    refine WQ_icmp_ne 91 dX6_load_84 rfl (fun c11377 => ?_) (fun c11377 => ?_)
    · refine WP_aload_n dX6_load_91 rfl ?_
      refine WP_getr dX6_load_92 fX6_45 rfl (lyx_is hy 5 0 rfl) (rfx hr 5 1 22 (by decide)) ?_
      refine WP_aload_n dX6_load_95 rfl ?_
      refine WQ_getim dX6_load_96 fX6_9 rfl (lyx_is hy 50 6 rfl) e11373 ?_
      refine WQ_bipush (7) (7) dX6_load_99 rfl rfl (fun v11379 hv11379 => ?_)
      refine WQ_imulk (7) dX6_load_101 hv11379 (by omega) (by omega) (fun v11380 hv11380 => ?_)
      refine WP_iload_n dX6_load_102 rfl ?_
      refine WQ_iadd dX6_load_103 (by omega) (by omega) (fun v11381 hv11381 => ?_)
      refine WQ_ialdb dX6_load_104 (lyx_is hy 22 13 rfl) (lyx_n hy 22 21 rfl) (by omega) (by omega) (fun q hq => BT_get hI11370.1 22 0 21 (0) (0) (20) (by decide) q (Nat.zero_le _) hq) (fun v11382 av11382 bv11382 zv11382 => ?_)
      have yv11382 : I (ad g 22) (7 * v11356.toInt + da.toInt).toNat = v11382 := by rw [← fz_at fr11376 22 (by decide) (by decide), show (7 * v11356.toInt + da.toInt).toNat = v11381.toInt.toNat by omega]; exact zv11382
      refine WQ_puti dX6_load_105 fX6_48 rfl rfl (lyx_is hy 50 6 rfl) (fun I11383 eI11383 => ?_)
      have hI11383 : XI g n L I11383 := by rw [eI11383]; exact (xi_f hy hI11370 (c := 50) (0) (0) (20) (by decide) (Or.inl (by decide)) (by decide) (by omega) (by omega))
      have e11384 : I11383 (ad g 1) 1 = L := by rw [eI11383, pp_ne _ _ (Or.inl (lyx_ne hy (by decide) (by decide) (by decide)))]; exact e11371
      have e11385 : I11383 (ad g 27) 4 = v10925 := by rw [eI11383, pp_ne _ _ (Or.inl (lyx_ne hy (by decide) (by decide) (by decide)))]; exact e11372
      have e11386 : I11383 (ad g 50) 0 = v11356 := by rw [eI11383, pp_ne _ _ (Or.inr (by decide))]; exact e11373
      have e11387 : I11383 (ad g 50) 1 = v11362 := by rw [eI11383, pp_ne _ _ (Or.inr (by decide))]; exact e11374
      have e11388 : I11383 (ad g 50) 2 = v11369 := by rw [eI11383, pp_ne _ _ (Or.inr (by decide))]; exact e11375
      have e11389 : I11383 (ad g 50) 3 = v11382 := by rw [eI11383, pp_self]
      have fr11390 : fz 74 g [50] I I11383 := by rw [eI11383]; exact fzx_pp hy fr11376 (by decide) (by decide)
      clear eI11383
      refine WP_aload_n dX6_load_108 rfl ?_
      refine WP_iload dX6_load_109 rfl ?_
      refine WQ_iconst (-1) (-1) dX6_load_111 rfl rfl (fun v11391 hv11391 => ?_)
      refine WQ_icmp_ne 119 dX6_load_112 rfl (fun c11391 => ?_) (fun c11391 => ?_)
      · refine WP_aload_n dX6_load_119 rfl ?_
        refine WP_getr dX6_load_120 fX6_45 rfl (lyx_is hy 5 0 rfl) (rfx hr 5 1 22 (by decide)) ?_
        refine WP_iload dX6_load_123 rfl ?_
        refine WQ_bipush (7) (7) dX6_load_125 rfl rfl (fun v11393 hv11393 => ?_)
        refine WQ_imulk (7) dX6_load_127 hv11393 (by omega) (by omega) (fun v11394 hv11394 => ?_)
        refine WP_iload_n dX6_load_128 rfl ?_
        refine WQ_iadd dX6_load_129 (by omega) (by omega) (fun v11395 hv11395 => ?_)
        refine WQ_ialdb dX6_load_130 (lyx_is hy 22 13 rfl) (lyx_n hy 22 21 rfl) (by omega) (by omega) (fun q hq => BT_get hI11383.1 22 0 21 (0) (0) (20) (by decide) q (Nat.zero_le _) hq) (fun v11396 av11396 bv11396 zv11396 => ?_)
        have yv11396 : I (ad g 22) (7 * v10925.toInt + da.toInt).toNat = v11396 := by rw [← fz_at fr11390 22 (by decide) (by decide), show (7 * v10925.toInt + da.toInt).toNat = v11395.toInt.toNat by omega]; exact zv11396
        refine WQ_puti dX6_load_131 fX6_51 rfl rfl (lyx_is hy 50 6 rfl) (fun I11397 eI11397 => ?_)
        have hI11397 : XI g n L I11397 := by rw [eI11397]; exact (xi_f hy hI11383 (c := 50) (0) (0) (20) (by decide) (Or.inl (by decide)) (by decide) (by omega) (by omega))
        have e11398 : I11397 (ad g 1) 1 = L := by rw [eI11397, pp_ne _ _ (Or.inl (lyx_ne hy (by decide) (by decide) (by decide)))]; exact e11384
        have e11399 : I11397 (ad g 27) 4 = v10925 := by rw [eI11397, pp_ne _ _ (Or.inl (lyx_ne hy (by decide) (by decide) (by decide)))]; exact e11385
        have e11400 : I11397 (ad g 50) 0 = v11356 := by rw [eI11397, pp_ne _ _ (Or.inr (by decide))]; exact e11386
        have e11401 : I11397 (ad g 50) 1 = v11362 := by rw [eI11397, pp_ne _ _ (Or.inr (by decide))]; exact e11387
        have e11402 : I11397 (ad g 50) 2 = v11369 := by rw [eI11397, pp_ne _ _ (Or.inr (by decide))]; exact e11388
        have e11403 : I11397 (ad g 50) 3 = v11382 := by rw [eI11397, pp_ne _ _ (Or.inr (by decide))]; exact e11389
        have e11404 : I11397 (ad g 50) 4 = v11396 := by rw [eI11397, pp_self]
        have fr11405 : fz 74 g [50] I I11397 := by rw [eI11397]; exact fzx_pp hy fr11390 (by decide) (by decide)
        clear eI11397
        refine WP_aload_n dX6_load_134 rfl ?_
        refine WP_iload dX6_load_135 rfl ?_
        refine WQ_if_eq 144 dX6_load_137 rfl (fun c11405 => False.elim (by omega)) (fun c11405 => ?_)
        refine WQ_iconst (0) (0) dX6_load_140 rfl rfl (fun v11407 hv11407 => ?_)
        refine WP_goto 148 dX6_load_141 rfl ?_
        refine WQ_puti dX6_load_148 fX6_54 rfl rfl (lyx_is hy 50 6 rfl) (fun I11408 eI11408 => ?_)
        have hI11408 : XI g n L I11408 := by rw [eI11408]; exact (xi_f hy hI11397 (c := 50) (0) (0) (3) (by decide) (Or.inl (by decide)) (by decide) (by omega) (by omega))
        have e11409 : I11408 (ad g 1) 1 = L := by rw [eI11408, pp_ne _ _ (Or.inl (lyx_ne hy (by decide) (by decide) (by decide)))]; exact e11398
        have e11410 : I11408 (ad g 27) 4 = v10925 := by rw [eI11408, pp_ne _ _ (Or.inl (lyx_ne hy (by decide) (by decide) (by decide)))]; exact e11399
        have e11411 : I11408 (ad g 50) 0 = v11356 := by rw [eI11408, pp_ne _ _ (Or.inr (by decide))]; exact e11400
        have e11412 : I11408 (ad g 50) 1 = v11362 := by rw [eI11408, pp_ne _ _ (Or.inr (by decide))]; exact e11401
        have e11413 : I11408 (ad g 50) 2 = v11369 := by rw [eI11408, pp_ne _ _ (Or.inr (by decide))]; exact e11402
        have e11414 : I11408 (ad g 50) 3 = v11382 := by rw [eI11408, pp_ne _ _ (Or.inr (by decide))]; exact e11403
        have e11415 : I11408 (ad g 50) 4 = v11396 := by rw [eI11408, pp_ne _ _ (Or.inr (by decide))]; exact e11404
        have e11416 : I11408 (ad g 50) 5 = v11407 := by rw [eI11408, pp_self]
        have fr11417 : fz 74 g [50] I I11408 := by rw [eI11408]; exact fzx_pp hy fr11405 (by decide) (by decide)
        clear eI11408
        refine WP_aload_n dX6_load_151 rfl ?_
        refine WP_iload dX6_load_152 rfl ?_
        refine WQ_if_ne 163 dX6_load_154 rfl (fun c11417 => ?_) (fun c11417 => False.elim (by omega))
        refine WQ_iconst (0) (0) dX6_load_163 rfl rfl (fun v11419 hv11419 => ?_)
        refine WP_goto 168 dX6_load_164 rfl ?_
        refine WQ_puti dX6_load_168 fX6_57 rfl rfl (lyx_is hy 50 6 rfl) (fun I11420 eI11420 => ?_)
        have hI11420 : XI g n L I11420 := by rw [eI11420]; exact (xi_f hy hI11408 (c := 50) (0) (0) (2) (by decide) (Or.inl (by decide)) (by decide) (by omega) (by omega))
        have e11421 : I11420 (ad g 1) 1 = L := by rw [eI11420, pp_ne _ _ (Or.inl (lyx_ne hy (by decide) (by decide) (by decide)))]; exact e11409
        have e11422 : I11420 (ad g 27) 4 = v10925 := by rw [eI11420, pp_ne _ _ (Or.inl (lyx_ne hy (by decide) (by decide) (by decide)))]; exact e11410
        have e11423 : I11420 (ad g 50) 0 = v11356 := by rw [eI11420, pp_ne _ _ (Or.inr (by decide))]; exact e11411
        have e11424 : I11420 (ad g 50) 1 = v11362 := by rw [eI11420, pp_ne _ _ (Or.inr (by decide))]; exact e11412
        have e11425 : I11420 (ad g 50) 2 = v11369 := by rw [eI11420, pp_ne _ _ (Or.inr (by decide))]; exact e11413
        have e11426 : I11420 (ad g 50) 3 = v11382 := by rw [eI11420, pp_ne _ _ (Or.inr (by decide))]; exact e11414
        have e11427 : I11420 (ad g 50) 4 = v11396 := by rw [eI11420, pp_ne _ _ (Or.inr (by decide))]; exact e11415
        have e11428 : I11420 (ad g 50) 5 = v11407 := by rw [eI11420, pp_ne _ _ (Or.inr (by decide))]; exact e11416
        have e11429 : I11420 (ad g 50) 6 = v11419 := by rw [eI11420, pp_self]
        have fr11430 : fz 74 g [50] I I11420 := by rw [eI11420]; exact fzx_pp hy fr11417 (by decide) (by decide)
        clear eI11420
        refine WP_aload_n dX6_load_171 rfl ?_
        refine WP_aload_n dX6_load_172 rfl ?_
        refine WQ_getim dX6_load_173 fX6_9 rfl (lyx_is hy 50 6 rfl) e11423 ?_
        refine WQ_iconst (-1) (-1) dX6_load_176 rfl rfl (fun v11431 hv11431 => ?_)
        refine WQ_icmp_eq 193 dX6_load_177 rfl (fun c11431 => False.elim (by omega)) (fun c11431 => ?_)
        refine WP_aload_n dX6_load_180 rfl ?_
        refine WQ_getim dX6_load_181 fX6_9 rfl (lyx_is hy 50 6 rfl) e11423 ?_
        refine WP_iload dX6_load_184 rfl ?_
        refine WQ_icmp_ne 193 dX6_load_186 rfl (fun c11432 => ?_) (fun c11432 => ?_)
        · refine WQ_iconst (0) (0) dX6_load_193 rfl rfl (fun v11434 hv11434 => ?_)
          refine WQ_putz dX6_load_194 fX6_60 rfl rfl (by omega) (lyx_is hy 50 6 rfl) (fun I11435 eI11435 => ?_)
          have hI11435 : XI g n L I11435 := by rw [eI11435]; exact (xi_f hy hI11420 (c := 50) (0) (0) (1) (by decide) (Or.inl (by decide)) (by decide) (by omega) (by omega))
          have e11436 : I11435 (ad g 1) 1 = L := by rw [eI11435, pp_ne _ _ (Or.inl (lyx_ne hy (by decide) (by decide) (by decide)))]; exact e11421
          have e11437 : I11435 (ad g 27) 4 = v10925 := by rw [eI11435, pp_ne _ _ (Or.inl (lyx_ne hy (by decide) (by decide) (by decide)))]; exact e11422
          have e11438 : I11435 (ad g 50) 0 = v11356 := by rw [eI11435, pp_ne _ _ (Or.inr (by decide))]; exact e11423
          have e11439 : I11435 (ad g 50) 1 = v11362 := by rw [eI11435, pp_ne _ _ (Or.inr (by decide))]; exact e11424
          have e11440 : I11435 (ad g 50) 2 = v11369 := by rw [eI11435, pp_ne _ _ (Or.inr (by decide))]; exact e11425
          have e11441 : I11435 (ad g 50) 3 = v11382 := by rw [eI11435, pp_ne _ _ (Or.inr (by decide))]; exact e11426
          have e11442 : I11435 (ad g 50) 4 = v11396 := by rw [eI11435, pp_ne _ _ (Or.inr (by decide))]; exact e11427
          have e11443 : I11435 (ad g 50) 5 = v11407 := by rw [eI11435, pp_ne _ _ (Or.inr (by decide))]; exact e11428
          have e11444 : I11435 (ad g 50) 6 = v11419 := by rw [eI11435, pp_ne _ _ (Or.inr (by decide))]; exact e11429
          have e11445 : I11435 (ad g 50) 7 = v11434 := by rw [eI11435, pp_self]
          have fr11446 : fz 74 g [50] I I11435 := by rw [eI11435]; exact fzx_pp hy fr11430 (by decide) (by decide)
          clear eI11435
          refine WP_aload_n dX6_load_197 rfl ?_
          refine WP_aload_n dX6_load_198 rfl ?_
          refine WP_getr dX6_load_199 fX6_64 rfl (lyx_is hy 5 0 rfl) (rfx hr 5 2 23 (by decide)) ?_
          refine WP_iload_n dX6_load_202 rfl ?_
          refine WQ_iald dX6_load_203 (lyx_is hy 23 13 rfl) (lyx_n hy 23 7 rfl) (by omega) (by omega) (fun q hq => BT_get hI11435.1 23 0 7 (0) (0) (900) (by decide) q (Nat.zero_le _) hq) (fun v11447 av11447 bv11447 ev11447 => ?_)
          clear ev11447
          refine WQ_if_le 211 dX6_load_204 rfl (fun c11447 => ?_) (fun c11447 => ?_)
          · refine WQ_iconst (0) (0) dX6_load_211 rfl rfl (fun v11449 hv11449 => ?_)
            refine WQ_putz dX6_load_212 fX6_67 rfl rfl (by omega) (lyx_is hy 50 6 rfl) (fun I11450 eI11450 => ?_)
            have hI11450 : XI g n L I11450 := by rw [eI11450]; exact (xi_f hy hI11435 (c := 50) (0) (0) (1) (by decide) (Or.inl (by decide)) (by decide) (by omega) (by omega))
            have e11451 : I11450 (ad g 1) 1 = L := by rw [eI11450, pp_ne _ _ (Or.inl (lyx_ne hy (by decide) (by decide) (by decide)))]; exact e11436
            have e11452 : I11450 (ad g 27) 4 = v10925 := by rw [eI11450, pp_ne _ _ (Or.inl (lyx_ne hy (by decide) (by decide) (by decide)))]; exact e11437
            have e11453 : I11450 (ad g 50) 0 = v11356 := by rw [eI11450, pp_ne _ _ (Or.inr (by decide))]; exact e11438
            have e11454 : I11450 (ad g 50) 1 = v11362 := by rw [eI11450, pp_ne _ _ (Or.inr (by decide))]; exact e11439
            have e11455 : I11450 (ad g 50) 2 = v11369 := by rw [eI11450, pp_ne _ _ (Or.inr (by decide))]; exact e11440
            have e11456 : I11450 (ad g 50) 3 = v11382 := by rw [eI11450, pp_ne _ _ (Or.inr (by decide))]; exact e11441
            have e11457 : I11450 (ad g 50) 4 = v11396 := by rw [eI11450, pp_ne _ _ (Or.inr (by decide))]; exact e11442
            have e11458 : I11450 (ad g 50) 5 = v11407 := by rw [eI11450, pp_ne _ _ (Or.inr (by decide))]; exact e11443
            have e11459 : I11450 (ad g 50) 6 = v11419 := by rw [eI11450, pp_ne _ _ (Or.inr (by decide))]; exact e11444
            have e11460 : I11450 (ad g 50) 7 = v11434 := by rw [eI11450, pp_ne _ _ (Or.inr (by decide))]; exact e11445
            have e11461 : I11450 (ad g 50) 8 = v11449 := by rw [eI11450, pp_self]
            have fr11462 : fz 74 g [50] I I11450 := by rw [eI11450]; exact fzx_pp hy fr11446 (by decide) (by decide)
            clear eI11450
            exact WP_vret dX6_load_215 rfl ⟨⟨hI11450, rfl, fr11462, rfl, (by
                  have yill : I (ad g (27 + 5)) so.toInt.toNat >>> (nI da.toInt.toNat &&& 31) &&& 1 = v10929 := by rw [show I (ad g (27 + 5)) so.toInt.toNat = v10926 from yv10926, show nI da.toInt.toNat = da from (eq32 _ _).mpr (by rw [nI_toInt (by omega)]; omega), xv10929, xv10927, (eq32 v10928 1).mpr hv10928]
                  have yst : I (ad g 27) 4 = v10925 := est
                  unfold LD
                  simp only [e11453, e11454, e11455, e11456, e11457, e11458, e11459, e11460, yill, yst, show I (ad g (27 + 7)) _ = _ from yv11356, show I (ad g (27 + 8)) _ = _ from yv11362, show I (ad g (27 + 9)) _ = _ from yv11369, yv11382, yv11396, true_and, and_true]
                  omega)⟩, rfl⟩
          · refine WQ_iconst (1) (1) dX6_load_207 rfl rfl (fun v11463 hv11463 => ?_)
            refine WP_goto 212 dX6_load_208 rfl ?_
            refine WQ_putz dX6_load_212 fX6_67 rfl rfl (by omega) (lyx_is hy 50 6 rfl) (fun I11464 eI11464 => ?_)
            have hI11464 : XI g n L I11464 := by rw [eI11464]; exact (xi_f hy hI11435 (c := 50) (0) (0) (1) (by decide) (Or.inl (by decide)) (by decide) (by omega) (by omega))
            have e11465 : I11464 (ad g 1) 1 = L := by rw [eI11464, pp_ne _ _ (Or.inl (lyx_ne hy (by decide) (by decide) (by decide)))]; exact e11436
            have e11466 : I11464 (ad g 27) 4 = v10925 := by rw [eI11464, pp_ne _ _ (Or.inl (lyx_ne hy (by decide) (by decide) (by decide)))]; exact e11437
            have e11467 : I11464 (ad g 50) 0 = v11356 := by rw [eI11464, pp_ne _ _ (Or.inr (by decide))]; exact e11438
            have e11468 : I11464 (ad g 50) 1 = v11362 := by rw [eI11464, pp_ne _ _ (Or.inr (by decide))]; exact e11439
            have e11469 : I11464 (ad g 50) 2 = v11369 := by rw [eI11464, pp_ne _ _ (Or.inr (by decide))]; exact e11440
            have e11470 : I11464 (ad g 50) 3 = v11382 := by rw [eI11464, pp_ne _ _ (Or.inr (by decide))]; exact e11441
            have e11471 : I11464 (ad g 50) 4 = v11396 := by rw [eI11464, pp_ne _ _ (Or.inr (by decide))]; exact e11442
            have e11472 : I11464 (ad g 50) 5 = v11407 := by rw [eI11464, pp_ne _ _ (Or.inr (by decide))]; exact e11443
            have e11473 : I11464 (ad g 50) 6 = v11419 := by rw [eI11464, pp_ne _ _ (Or.inr (by decide))]; exact e11444
            have e11474 : I11464 (ad g 50) 7 = v11434 := by rw [eI11464, pp_ne _ _ (Or.inr (by decide))]; exact e11445
            have e11475 : I11464 (ad g 50) 8 = v11463 := by rw [eI11464, pp_self]
            have fr11476 : fz 74 g [50] I I11464 := by rw [eI11464]; exact fzx_pp hy fr11446 (by decide) (by decide)
            clear eI11464
            exact WP_vret dX6_load_215 rfl ⟨⟨hI11464, rfl, fr11476, rfl, (by
                  have yill : I (ad g (27 + 5)) so.toInt.toNat >>> (nI da.toInt.toNat &&& 31) &&& 1 = v10929 := by rw [show I (ad g (27 + 5)) so.toInt.toNat = v10926 from yv10926, show nI da.toInt.toNat = da from (eq32 _ _).mpr (by rw [nI_toInt (by omega)]; omega), xv10929, xv10927, (eq32 v10928 1).mpr hv10928]
                  have yst : I (ad g 27) 4 = v10925 := est
                  unfold LD
                  simp only [e11467, e11468, e11469, e11470, e11471, e11472, e11473, e11474, yill, yst, show I (ad g (27 + 7)) _ = _ from yv11356, show I (ad g (27 + 8)) _ = _ from yv11362, show I (ad g (27 + 9)) _ = _ from yv11369, yv11382, yv11396, true_and, and_true]
                  omega)⟩, rfl⟩
        · refine WQ_iconst (1) (1) dX6_load_189 rfl rfl (fun v11477 hv11477 => ?_)
          refine WP_goto 194 dX6_load_190 rfl ?_
          refine WQ_putz dX6_load_194 fX6_60 rfl rfl (by omega) (lyx_is hy 50 6 rfl) (fun I11478 eI11478 => ?_)
          have hI11478 : XI g n L I11478 := by rw [eI11478]; exact (xi_f hy hI11420 (c := 50) (0) (0) (1) (by decide) (Or.inl (by decide)) (by decide) (by omega) (by omega))
          have e11479 : I11478 (ad g 1) 1 = L := by rw [eI11478, pp_ne _ _ (Or.inl (lyx_ne hy (by decide) (by decide) (by decide)))]; exact e11421
          have e11480 : I11478 (ad g 27) 4 = v10925 := by rw [eI11478, pp_ne _ _ (Or.inl (lyx_ne hy (by decide) (by decide) (by decide)))]; exact e11422
          have e11481 : I11478 (ad g 50) 0 = v11356 := by rw [eI11478, pp_ne _ _ (Or.inr (by decide))]; exact e11423
          have e11482 : I11478 (ad g 50) 1 = v11362 := by rw [eI11478, pp_ne _ _ (Or.inr (by decide))]; exact e11424
          have e11483 : I11478 (ad g 50) 2 = v11369 := by rw [eI11478, pp_ne _ _ (Or.inr (by decide))]; exact e11425
          have e11484 : I11478 (ad g 50) 3 = v11382 := by rw [eI11478, pp_ne _ _ (Or.inr (by decide))]; exact e11426
          have e11485 : I11478 (ad g 50) 4 = v11396 := by rw [eI11478, pp_ne _ _ (Or.inr (by decide))]; exact e11427
          have e11486 : I11478 (ad g 50) 5 = v11407 := by rw [eI11478, pp_ne _ _ (Or.inr (by decide))]; exact e11428
          have e11487 : I11478 (ad g 50) 6 = v11419 := by rw [eI11478, pp_ne _ _ (Or.inr (by decide))]; exact e11429
          have e11488 : I11478 (ad g 50) 7 = v11477 := by rw [eI11478, pp_self]
          have fr11489 : fz 74 g [50] I I11478 := by rw [eI11478]; exact fzx_pp hy fr11430 (by decide) (by decide)
          clear eI11478
          refine WP_aload_n dX6_load_197 rfl ?_
          refine WP_aload_n dX6_load_198 rfl ?_
          refine WP_getr dX6_load_199 fX6_64 rfl (lyx_is hy 5 0 rfl) (rfx hr 5 2 23 (by decide)) ?_
          refine WP_iload_n dX6_load_202 rfl ?_
          refine WQ_iald dX6_load_203 (lyx_is hy 23 13 rfl) (lyx_n hy 23 7 rfl) (by omega) (by omega) (fun q hq => BT_get hI11478.1 23 0 7 (0) (0) (900) (by decide) q (Nat.zero_le _) hq) (fun v11490 av11490 bv11490 ev11490 => ?_)
          clear ev11490
          refine WQ_if_le 211 dX6_load_204 rfl (fun c11490 => ?_) (fun c11490 => ?_)
          · refine WQ_iconst (0) (0) dX6_load_211 rfl rfl (fun v11492 hv11492 => ?_)
            refine WQ_putz dX6_load_212 fX6_67 rfl rfl (by omega) (lyx_is hy 50 6 rfl) (fun I11493 eI11493 => ?_)
            have hI11493 : XI g n L I11493 := by rw [eI11493]; exact (xi_f hy hI11478 (c := 50) (0) (0) (1) (by decide) (Or.inl (by decide)) (by decide) (by omega) (by omega))
            have e11494 : I11493 (ad g 1) 1 = L := by rw [eI11493, pp_ne _ _ (Or.inl (lyx_ne hy (by decide) (by decide) (by decide)))]; exact e11479
            have e11495 : I11493 (ad g 27) 4 = v10925 := by rw [eI11493, pp_ne _ _ (Or.inl (lyx_ne hy (by decide) (by decide) (by decide)))]; exact e11480
            have e11496 : I11493 (ad g 50) 0 = v11356 := by rw [eI11493, pp_ne _ _ (Or.inr (by decide))]; exact e11481
            have e11497 : I11493 (ad g 50) 1 = v11362 := by rw [eI11493, pp_ne _ _ (Or.inr (by decide))]; exact e11482
            have e11498 : I11493 (ad g 50) 2 = v11369 := by rw [eI11493, pp_ne _ _ (Or.inr (by decide))]; exact e11483
            have e11499 : I11493 (ad g 50) 3 = v11382 := by rw [eI11493, pp_ne _ _ (Or.inr (by decide))]; exact e11484
            have e11500 : I11493 (ad g 50) 4 = v11396 := by rw [eI11493, pp_ne _ _ (Or.inr (by decide))]; exact e11485
            have e11501 : I11493 (ad g 50) 5 = v11407 := by rw [eI11493, pp_ne _ _ (Or.inr (by decide))]; exact e11486
            have e11502 : I11493 (ad g 50) 6 = v11419 := by rw [eI11493, pp_ne _ _ (Or.inr (by decide))]; exact e11487
            have e11503 : I11493 (ad g 50) 7 = v11477 := by rw [eI11493, pp_ne _ _ (Or.inr (by decide))]; exact e11488
            have e11504 : I11493 (ad g 50) 8 = v11492 := by rw [eI11493, pp_self]
            have fr11505 : fz 74 g [50] I I11493 := by rw [eI11493]; exact fzx_pp hy fr11489 (by decide) (by decide)
            clear eI11493
            exact WP_vret dX6_load_215 rfl ⟨⟨hI11493, rfl, fr11505, rfl, (by
                  have yill : I (ad g (27 + 5)) so.toInt.toNat >>> (nI da.toInt.toNat &&& 31) &&& 1 = v10929 := by rw [show I (ad g (27 + 5)) so.toInt.toNat = v10926 from yv10926, show nI da.toInt.toNat = da from (eq32 _ _).mpr (by rw [nI_toInt (by omega)]; omega), xv10929, xv10927, (eq32 v10928 1).mpr hv10928]
                  have yst : I (ad g 27) 4 = v10925 := est
                  unfold LD
                  simp only [e11496, e11497, e11498, e11499, e11500, e11501, e11502, e11503, yill, yst, show I (ad g (27 + 7)) _ = _ from yv11356, show I (ad g (27 + 8)) _ = _ from yv11362, show I (ad g (27 + 9)) _ = _ from yv11369, yv11382, yv11396, true_and, and_true]
                  omega)⟩, rfl⟩
          · refine WQ_iconst (1) (1) dX6_load_207 rfl rfl (fun v11506 hv11506 => ?_)
            refine WP_goto 212 dX6_load_208 rfl ?_
            refine WQ_putz dX6_load_212 fX6_67 rfl rfl (by omega) (lyx_is hy 50 6 rfl) (fun I11507 eI11507 => ?_)
            have hI11507 : XI g n L I11507 := by rw [eI11507]; exact (xi_f hy hI11478 (c := 50) (0) (0) (1) (by decide) (Or.inl (by decide)) (by decide) (by omega) (by omega))
            have e11508 : I11507 (ad g 1) 1 = L := by rw [eI11507, pp_ne _ _ (Or.inl (lyx_ne hy (by decide) (by decide) (by decide)))]; exact e11479
            have e11509 : I11507 (ad g 27) 4 = v10925 := by rw [eI11507, pp_ne _ _ (Or.inl (lyx_ne hy (by decide) (by decide) (by decide)))]; exact e11480
            have e11510 : I11507 (ad g 50) 0 = v11356 := by rw [eI11507, pp_ne _ _ (Or.inr (by decide))]; exact e11481
            have e11511 : I11507 (ad g 50) 1 = v11362 := by rw [eI11507, pp_ne _ _ (Or.inr (by decide))]; exact e11482
            have e11512 : I11507 (ad g 50) 2 = v11369 := by rw [eI11507, pp_ne _ _ (Or.inr (by decide))]; exact e11483
            have e11513 : I11507 (ad g 50) 3 = v11382 := by rw [eI11507, pp_ne _ _ (Or.inr (by decide))]; exact e11484
            have e11514 : I11507 (ad g 50) 4 = v11396 := by rw [eI11507, pp_ne _ _ (Or.inr (by decide))]; exact e11485
            have e11515 : I11507 (ad g 50) 5 = v11407 := by rw [eI11507, pp_ne _ _ (Or.inr (by decide))]; exact e11486
            have e11516 : I11507 (ad g 50) 6 = v11419 := by rw [eI11507, pp_ne _ _ (Or.inr (by decide))]; exact e11487
            have e11517 : I11507 (ad g 50) 7 = v11477 := by rw [eI11507, pp_ne _ _ (Or.inr (by decide))]; exact e11488
            have e11518 : I11507 (ad g 50) 8 = v11506 := by rw [eI11507, pp_self]
            have fr11519 : fz 74 g [50] I I11507 := by rw [eI11507]; exact fzx_pp hy fr11489 (by decide) (by decide)
            clear eI11507
            exact WP_vret dX6_load_215 rfl ⟨⟨hI11507, rfl, fr11519, rfl, (by
                  have yill : I (ad g (27 + 5)) so.toInt.toNat >>> (nI da.toInt.toNat &&& 31) &&& 1 = v10929 := by rw [show I (ad g (27 + 5)) so.toInt.toNat = v10926 from yv10926, show nI da.toInt.toNat = da from (eq32 _ _).mpr (by rw [nI_toInt (by omega)]; omega), xv10929, xv10927, (eq32 v10928 1).mpr hv10928]
                  have yst : I (ad g 27) 4 = v10925 := est
                  unfold LD
                  simp only [e11510, e11511, e11512, e11513, e11514, e11515, e11516, e11517, yill, yst, show I (ad g (27 + 7)) _ = _ from yv11356, show I (ad g (27 + 8)) _ = _ from yv11362, show I (ad g (27 + 9)) _ = _ from yv11369, yv11382, yv11396, true_and, and_true]
                  omega)⟩, rfl⟩
      · refine WQ_iconst (0) (0) dX6_load_115 rfl rfl (fun v11520 hv11520 => ?_)
        refine WP_goto 131 dX6_load_116 rfl ?_
        refine WQ_puti dX6_load_131 fX6_51 rfl rfl (lyx_is hy 50 6 rfl) (fun I11521 eI11521 => ?_)
        have hI11521 : XI g n L I11521 := by rw [eI11521]; exact (xi_f hy hI11383 (c := 50) (0) (0) (20) (by decide) (Or.inl (by decide)) (by decide) (by omega) (by omega))
        have e11522 : I11521 (ad g 1) 1 = L := by rw [eI11521, pp_ne _ _ (Or.inl (lyx_ne hy (by decide) (by decide) (by decide)))]; exact e11384
        have e11523 : I11521 (ad g 27) 4 = v10925 := by rw [eI11521, pp_ne _ _ (Or.inl (lyx_ne hy (by decide) (by decide) (by decide)))]; exact e11385
        have e11524 : I11521 (ad g 50) 0 = v11356 := by rw [eI11521, pp_ne _ _ (Or.inr (by decide))]; exact e11386
        have e11525 : I11521 (ad g 50) 1 = v11362 := by rw [eI11521, pp_ne _ _ (Or.inr (by decide))]; exact e11387
        have e11526 : I11521 (ad g 50) 2 = v11369 := by rw [eI11521, pp_ne _ _ (Or.inr (by decide))]; exact e11388
        have e11527 : I11521 (ad g 50) 3 = v11382 := by rw [eI11521, pp_ne _ _ (Or.inr (by decide))]; exact e11389
        have e11528 : I11521 (ad g 50) 4 = v11520 := by rw [eI11521, pp_self]
        have fr11529 : fz 74 g [50] I I11521 := by rw [eI11521]; exact fzx_pp hy fr11390 (by decide) (by decide)
        clear eI11521
        refine WP_aload_n dX6_load_134 rfl ?_
        refine WP_iload dX6_load_135 rfl ?_
        refine WQ_if_eq 144 dX6_load_137 rfl (fun c11529 => False.elim (by omega)) (fun c11529 => ?_)
        refine WQ_iconst (0) (0) dX6_load_140 rfl rfl (fun v11531 hv11531 => ?_)
        refine WP_goto 148 dX6_load_141 rfl ?_
        refine WQ_puti dX6_load_148 fX6_54 rfl rfl (lyx_is hy 50 6 rfl) (fun I11532 eI11532 => ?_)
        have hI11532 : XI g n L I11532 := by rw [eI11532]; exact (xi_f hy hI11521 (c := 50) (0) (0) (3) (by decide) (Or.inl (by decide)) (by decide) (by omega) (by omega))
        have e11533 : I11532 (ad g 1) 1 = L := by rw [eI11532, pp_ne _ _ (Or.inl (lyx_ne hy (by decide) (by decide) (by decide)))]; exact e11522
        have e11534 : I11532 (ad g 27) 4 = v10925 := by rw [eI11532, pp_ne _ _ (Or.inl (lyx_ne hy (by decide) (by decide) (by decide)))]; exact e11523
        have e11535 : I11532 (ad g 50) 0 = v11356 := by rw [eI11532, pp_ne _ _ (Or.inr (by decide))]; exact e11524
        have e11536 : I11532 (ad g 50) 1 = v11362 := by rw [eI11532, pp_ne _ _ (Or.inr (by decide))]; exact e11525
        have e11537 : I11532 (ad g 50) 2 = v11369 := by rw [eI11532, pp_ne _ _ (Or.inr (by decide))]; exact e11526
        have e11538 : I11532 (ad g 50) 3 = v11382 := by rw [eI11532, pp_ne _ _ (Or.inr (by decide))]; exact e11527
        have e11539 : I11532 (ad g 50) 4 = v11520 := by rw [eI11532, pp_ne _ _ (Or.inr (by decide))]; exact e11528
        have e11540 : I11532 (ad g 50) 5 = v11531 := by rw [eI11532, pp_self]
        have fr11541 : fz 74 g [50] I I11532 := by rw [eI11532]; exact fzx_pp hy fr11529 (by decide) (by decide)
        clear eI11532
        refine WP_aload_n dX6_load_151 rfl ?_
        refine WP_iload dX6_load_152 rfl ?_
        refine WQ_if_ne 163 dX6_load_154 rfl (fun c11541 => ?_) (fun c11541 => False.elim (by omega))
        refine WQ_iconst (0) (0) dX6_load_163 rfl rfl (fun v11543 hv11543 => ?_)
        refine WP_goto 168 dX6_load_164 rfl ?_
        refine WQ_puti dX6_load_168 fX6_57 rfl rfl (lyx_is hy 50 6 rfl) (fun I11544 eI11544 => ?_)
        have hI11544 : XI g n L I11544 := by rw [eI11544]; exact (xi_f hy hI11532 (c := 50) (0) (0) (2) (by decide) (Or.inl (by decide)) (by decide) (by omega) (by omega))
        have e11545 : I11544 (ad g 1) 1 = L := by rw [eI11544, pp_ne _ _ (Or.inl (lyx_ne hy (by decide) (by decide) (by decide)))]; exact e11533
        have e11546 : I11544 (ad g 27) 4 = v10925 := by rw [eI11544, pp_ne _ _ (Or.inl (lyx_ne hy (by decide) (by decide) (by decide)))]; exact e11534
        have e11547 : I11544 (ad g 50) 0 = v11356 := by rw [eI11544, pp_ne _ _ (Or.inr (by decide))]; exact e11535
        have e11548 : I11544 (ad g 50) 1 = v11362 := by rw [eI11544, pp_ne _ _ (Or.inr (by decide))]; exact e11536
        have e11549 : I11544 (ad g 50) 2 = v11369 := by rw [eI11544, pp_ne _ _ (Or.inr (by decide))]; exact e11537
        have e11550 : I11544 (ad g 50) 3 = v11382 := by rw [eI11544, pp_ne _ _ (Or.inr (by decide))]; exact e11538
        have e11551 : I11544 (ad g 50) 4 = v11520 := by rw [eI11544, pp_ne _ _ (Or.inr (by decide))]; exact e11539
        have e11552 : I11544 (ad g 50) 5 = v11531 := by rw [eI11544, pp_ne _ _ (Or.inr (by decide))]; exact e11540
        have e11553 : I11544 (ad g 50) 6 = v11543 := by rw [eI11544, pp_self]
        have fr11554 : fz 74 g [50] I I11544 := by rw [eI11544]; exact fzx_pp hy fr11541 (by decide) (by decide)
        clear eI11544
        refine WP_aload_n dX6_load_171 rfl ?_
        refine WP_aload_n dX6_load_172 rfl ?_
        refine WQ_getim dX6_load_173 fX6_9 rfl (lyx_is hy 50 6 rfl) e11547 ?_
        refine WQ_iconst (-1) (-1) dX6_load_176 rfl rfl (fun v11555 hv11555 => ?_)
        refine WQ_icmp_eq 193 dX6_load_177 rfl (fun c11555 => False.elim (by omega)) (fun c11555 => ?_)
        refine WP_aload_n dX6_load_180 rfl ?_
        refine WQ_getim dX6_load_181 fX6_9 rfl (lyx_is hy 50 6 rfl) e11547 ?_
        refine WP_iload dX6_load_184 rfl ?_
        refine WQ_icmp_ne 193 dX6_load_186 rfl (fun c11556 => ?_) (fun c11556 => False.elim (by omega))
        refine WQ_iconst (0) (0) dX6_load_193 rfl rfl (fun v11558 hv11558 => ?_)
        refine WQ_putz dX6_load_194 fX6_60 rfl rfl (by omega) (lyx_is hy 50 6 rfl) (fun I11559 eI11559 => ?_)
        have hI11559 : XI g n L I11559 := by rw [eI11559]; exact (xi_f hy hI11544 (c := 50) (0) (0) (1) (by decide) (Or.inl (by decide)) (by decide) (by omega) (by omega))
        have e11560 : I11559 (ad g 1) 1 = L := by rw [eI11559, pp_ne _ _ (Or.inl (lyx_ne hy (by decide) (by decide) (by decide)))]; exact e11545
        have e11561 : I11559 (ad g 27) 4 = v10925 := by rw [eI11559, pp_ne _ _ (Or.inl (lyx_ne hy (by decide) (by decide) (by decide)))]; exact e11546
        have e11562 : I11559 (ad g 50) 0 = v11356 := by rw [eI11559, pp_ne _ _ (Or.inr (by decide))]; exact e11547
        have e11563 : I11559 (ad g 50) 1 = v11362 := by rw [eI11559, pp_ne _ _ (Or.inr (by decide))]; exact e11548
        have e11564 : I11559 (ad g 50) 2 = v11369 := by rw [eI11559, pp_ne _ _ (Or.inr (by decide))]; exact e11549
        have e11565 : I11559 (ad g 50) 3 = v11382 := by rw [eI11559, pp_ne _ _ (Or.inr (by decide))]; exact e11550
        have e11566 : I11559 (ad g 50) 4 = v11520 := by rw [eI11559, pp_ne _ _ (Or.inr (by decide))]; exact e11551
        have e11567 : I11559 (ad g 50) 5 = v11531 := by rw [eI11559, pp_ne _ _ (Or.inr (by decide))]; exact e11552
        have e11568 : I11559 (ad g 50) 6 = v11543 := by rw [eI11559, pp_ne _ _ (Or.inr (by decide))]; exact e11553
        have e11569 : I11559 (ad g 50) 7 = v11558 := by rw [eI11559, pp_self]
        have fr11570 : fz 74 g [50] I I11559 := by rw [eI11559]; exact fzx_pp hy fr11554 (by decide) (by decide)
        clear eI11559
        refine WP_aload_n dX6_load_197 rfl ?_
        refine WP_aload_n dX6_load_198 rfl ?_
        refine WP_getr dX6_load_199 fX6_64 rfl (lyx_is hy 5 0 rfl) (rfx hr 5 2 23 (by decide)) ?_
        refine WP_iload_n dX6_load_202 rfl ?_
        refine WQ_iald dX6_load_203 (lyx_is hy 23 13 rfl) (lyx_n hy 23 7 rfl) (by omega) (by omega) (fun q hq => BT_get hI11559.1 23 0 7 (0) (0) (900) (by decide) q (Nat.zero_le _) hq) (fun v11571 av11571 bv11571 ev11571 => ?_)
        clear ev11571
        refine WQ_if_le 211 dX6_load_204 rfl (fun c11571 => ?_) (fun c11571 => ?_)
        · refine WQ_iconst (0) (0) dX6_load_211 rfl rfl (fun v11573 hv11573 => ?_)
          refine WQ_putz dX6_load_212 fX6_67 rfl rfl (by omega) (lyx_is hy 50 6 rfl) (fun I11574 eI11574 => ?_)
          have hI11574 : XI g n L I11574 := by rw [eI11574]; exact (xi_f hy hI11559 (c := 50) (0) (0) (1) (by decide) (Or.inl (by decide)) (by decide) (by omega) (by omega))
          have e11575 : I11574 (ad g 1) 1 = L := by rw [eI11574, pp_ne _ _ (Or.inl (lyx_ne hy (by decide) (by decide) (by decide)))]; exact e11560
          have e11576 : I11574 (ad g 27) 4 = v10925 := by rw [eI11574, pp_ne _ _ (Or.inl (lyx_ne hy (by decide) (by decide) (by decide)))]; exact e11561
          have e11577 : I11574 (ad g 50) 0 = v11356 := by rw [eI11574, pp_ne _ _ (Or.inr (by decide))]; exact e11562
          have e11578 : I11574 (ad g 50) 1 = v11362 := by rw [eI11574, pp_ne _ _ (Or.inr (by decide))]; exact e11563
          have e11579 : I11574 (ad g 50) 2 = v11369 := by rw [eI11574, pp_ne _ _ (Or.inr (by decide))]; exact e11564
          have e11580 : I11574 (ad g 50) 3 = v11382 := by rw [eI11574, pp_ne _ _ (Or.inr (by decide))]; exact e11565
          have e11581 : I11574 (ad g 50) 4 = v11520 := by rw [eI11574, pp_ne _ _ (Or.inr (by decide))]; exact e11566
          have e11582 : I11574 (ad g 50) 5 = v11531 := by rw [eI11574, pp_ne _ _ (Or.inr (by decide))]; exact e11567
          have e11583 : I11574 (ad g 50) 6 = v11543 := by rw [eI11574, pp_ne _ _ (Or.inr (by decide))]; exact e11568
          have e11584 : I11574 (ad g 50) 7 = v11558 := by rw [eI11574, pp_ne _ _ (Or.inr (by decide))]; exact e11569
          have e11585 : I11574 (ad g 50) 8 = v11573 := by rw [eI11574, pp_self]
          have fr11586 : fz 74 g [50] I I11574 := by rw [eI11574]; exact fzx_pp hy fr11570 (by decide) (by decide)
          clear eI11574
          exact WP_vret dX6_load_215 rfl ⟨⟨hI11574, rfl, fr11586, rfl, (by
                have yill : I (ad g (27 + 5)) so.toInt.toNat >>> (nI da.toInt.toNat &&& 31) &&& 1 = v10929 := by rw [show I (ad g (27 + 5)) so.toInt.toNat = v10926 from yv10926, show nI da.toInt.toNat = da from (eq32 _ _).mpr (by rw [nI_toInt (by omega)]; omega), xv10929, xv10927, (eq32 v10928 1).mpr hv10928]
                have yst : I (ad g 27) 4 = v10925 := est
                unfold LD
                simp only [e11577, e11578, e11579, e11580, e11581, e11582, e11583, e11584, yill, yst, show I (ad g (27 + 7)) _ = _ from yv11356, show I (ad g (27 + 8)) _ = _ from yv11362, show I (ad g (27 + 9)) _ = _ from yv11369, yv11382, true_and, and_true]
                omega)⟩, rfl⟩
        · refine WQ_iconst (1) (1) dX6_load_207 rfl rfl (fun v11587 hv11587 => ?_)
          refine WP_goto 212 dX6_load_208 rfl ?_
          refine WQ_putz dX6_load_212 fX6_67 rfl rfl (by omega) (lyx_is hy 50 6 rfl) (fun I11588 eI11588 => ?_)
          have hI11588 : XI g n L I11588 := by rw [eI11588]; exact (xi_f hy hI11559 (c := 50) (0) (0) (1) (by decide) (Or.inl (by decide)) (by decide) (by omega) (by omega))
          have e11589 : I11588 (ad g 1) 1 = L := by rw [eI11588, pp_ne _ _ (Or.inl (lyx_ne hy (by decide) (by decide) (by decide)))]; exact e11560
          have e11590 : I11588 (ad g 27) 4 = v10925 := by rw [eI11588, pp_ne _ _ (Or.inl (lyx_ne hy (by decide) (by decide) (by decide)))]; exact e11561
          have e11591 : I11588 (ad g 50) 0 = v11356 := by rw [eI11588, pp_ne _ _ (Or.inr (by decide))]; exact e11562
          have e11592 : I11588 (ad g 50) 1 = v11362 := by rw [eI11588, pp_ne _ _ (Or.inr (by decide))]; exact e11563
          have e11593 : I11588 (ad g 50) 2 = v11369 := by rw [eI11588, pp_ne _ _ (Or.inr (by decide))]; exact e11564
          have e11594 : I11588 (ad g 50) 3 = v11382 := by rw [eI11588, pp_ne _ _ (Or.inr (by decide))]; exact e11565
          have e11595 : I11588 (ad g 50) 4 = v11520 := by rw [eI11588, pp_ne _ _ (Or.inr (by decide))]; exact e11566
          have e11596 : I11588 (ad g 50) 5 = v11531 := by rw [eI11588, pp_ne _ _ (Or.inr (by decide))]; exact e11567
          have e11597 : I11588 (ad g 50) 6 = v11543 := by rw [eI11588, pp_ne _ _ (Or.inr (by decide))]; exact e11568
          have e11598 : I11588 (ad g 50) 7 = v11558 := by rw [eI11588, pp_ne _ _ (Or.inr (by decide))]; exact e11569
          have e11599 : I11588 (ad g 50) 8 = v11587 := by rw [eI11588, pp_self]
          have fr11600 : fz 74 g [50] I I11588 := by rw [eI11588]; exact fzx_pp hy fr11570 (by decide) (by decide)
          clear eI11588
          exact WP_vret dX6_load_215 rfl ⟨⟨hI11588, rfl, fr11600, rfl, (by
                have yill : I (ad g (27 + 5)) so.toInt.toNat >>> (nI da.toInt.toNat &&& 31) &&& 1 = v10929 := by rw [show I (ad g (27 + 5)) so.toInt.toNat = v10926 from yv10926, show nI da.toInt.toNat = da from (eq32 _ _).mpr (by rw [nI_toInt (by omega)]; omega), xv10929, xv10927, (eq32 v10928 1).mpr hv10928]
                have yst : I (ad g 27) 4 = v10925 := est
                unfold LD
                simp only [e11591, e11592, e11593, e11594, e11595, e11596, e11597, e11598, yill, yst, show I (ad g (27 + 7)) _ = _ from yv11356, show I (ad g (27 + 8)) _ = _ from yv11362, show I (ad g (27 + 9)) _ = _ from yv11369, yv11382, true_and, and_true]
                omega)⟩, rfl⟩
    · refine WQ_iconst (0) (0) dX6_load_87 rfl rfl (fun v11601 hv11601 => ?_)
      refine WP_goto 105 dX6_load_88 rfl ?_
      refine WQ_puti dX6_load_105 fX6_48 rfl rfl (lyx_is hy 50 6 rfl) (fun I11602 eI11602 => ?_)
      have hI11602 : XI g n L I11602 := by rw [eI11602]; exact (xi_f hy hI11370 (c := 50) (0) (0) (20) (by decide) (Or.inl (by decide)) (by decide) (by omega) (by omega))
      have e11603 : I11602 (ad g 1) 1 = L := by rw [eI11602, pp_ne _ _ (Or.inl (lyx_ne hy (by decide) (by decide) (by decide)))]; exact e11371
      have e11604 : I11602 (ad g 27) 4 = v10925 := by rw [eI11602, pp_ne _ _ (Or.inl (lyx_ne hy (by decide) (by decide) (by decide)))]; exact e11372
      have e11605 : I11602 (ad g 50) 0 = v11356 := by rw [eI11602, pp_ne _ _ (Or.inr (by decide))]; exact e11373
      have e11606 : I11602 (ad g 50) 1 = v11362 := by rw [eI11602, pp_ne _ _ (Or.inr (by decide))]; exact e11374
      have e11607 : I11602 (ad g 50) 2 = v11369 := by rw [eI11602, pp_ne _ _ (Or.inr (by decide))]; exact e11375
      have e11608 : I11602 (ad g 50) 3 = v11601 := by rw [eI11602, pp_self]
      have fr11609 : fz 74 g [50] I I11602 := by rw [eI11602]; exact fzx_pp hy fr11376 (by decide) (by decide)
      clear eI11602
      refine WP_aload_n dX6_load_108 rfl ?_
      refine WP_iload dX6_load_109 rfl ?_
      refine WQ_iconst (-1) (-1) dX6_load_111 rfl rfl (fun v11610 hv11610 => ?_)
      refine WQ_icmp_ne 119 dX6_load_112 rfl (fun c11610 => ?_) (fun c11610 => ?_)
      · refine WP_aload_n dX6_load_119 rfl ?_
        refine WP_getr dX6_load_120 fX6_45 rfl (lyx_is hy 5 0 rfl) (rfx hr 5 1 22 (by decide)) ?_
        refine WP_iload dX6_load_123 rfl ?_
        refine WQ_bipush (7) (7) dX6_load_125 rfl rfl (fun v11612 hv11612 => ?_)
        refine WQ_imulk (7) dX6_load_127 hv11612 (by omega) (by omega) (fun v11613 hv11613 => ?_)
        refine WP_iload_n dX6_load_128 rfl ?_
        refine WQ_iadd dX6_load_129 (by omega) (by omega) (fun v11614 hv11614 => ?_)
        refine WQ_ialdb dX6_load_130 (lyx_is hy 22 13 rfl) (lyx_n hy 22 21 rfl) (by omega) (by omega) (fun q hq => BT_get hI11602.1 22 0 21 (0) (0) (20) (by decide) q (Nat.zero_le _) hq) (fun v11615 av11615 bv11615 zv11615 => ?_)
        have yv11615 : I (ad g 22) (7 * v10925.toInt + da.toInt).toNat = v11615 := by rw [← fz_at fr11609 22 (by decide) (by decide), show (7 * v10925.toInt + da.toInt).toNat = v11614.toInt.toNat by omega]; exact zv11615
        refine WQ_puti dX6_load_131 fX6_51 rfl rfl (lyx_is hy 50 6 rfl) (fun I11616 eI11616 => ?_)
        have hI11616 : XI g n L I11616 := by rw [eI11616]; exact (xi_f hy hI11602 (c := 50) (0) (0) (20) (by decide) (Or.inl (by decide)) (by decide) (by omega) (by omega))
        have e11617 : I11616 (ad g 1) 1 = L := by rw [eI11616, pp_ne _ _ (Or.inl (lyx_ne hy (by decide) (by decide) (by decide)))]; exact e11603
        have e11618 : I11616 (ad g 27) 4 = v10925 := by rw [eI11616, pp_ne _ _ (Or.inl (lyx_ne hy (by decide) (by decide) (by decide)))]; exact e11604
        have e11619 : I11616 (ad g 50) 0 = v11356 := by rw [eI11616, pp_ne _ _ (Or.inr (by decide))]; exact e11605
        have e11620 : I11616 (ad g 50) 1 = v11362 := by rw [eI11616, pp_ne _ _ (Or.inr (by decide))]; exact e11606
        have e11621 : I11616 (ad g 50) 2 = v11369 := by rw [eI11616, pp_ne _ _ (Or.inr (by decide))]; exact e11607
        have e11622 : I11616 (ad g 50) 3 = v11601 := by rw [eI11616, pp_ne _ _ (Or.inr (by decide))]; exact e11608
        have e11623 : I11616 (ad g 50) 4 = v11615 := by rw [eI11616, pp_self]
        have fr11624 : fz 74 g [50] I I11616 := by rw [eI11616]; exact fzx_pp hy fr11609 (by decide) (by decide)
        clear eI11616
        refine WP_aload_n dX6_load_134 rfl ?_
        refine WP_iload dX6_load_135 rfl ?_
        refine WQ_if_eq 144 dX6_load_137 rfl (fun c11624 => False.elim (by omega)) (fun c11624 => ?_)
        refine WQ_iconst (0) (0) dX6_load_140 rfl rfl (fun v11626 hv11626 => ?_)
        refine WP_goto 148 dX6_load_141 rfl ?_
        refine WQ_puti dX6_load_148 fX6_54 rfl rfl (lyx_is hy 50 6 rfl) (fun I11627 eI11627 => ?_)
        have hI11627 : XI g n L I11627 := by rw [eI11627]; exact (xi_f hy hI11616 (c := 50) (0) (0) (3) (by decide) (Or.inl (by decide)) (by decide) (by omega) (by omega))
        have e11628 : I11627 (ad g 1) 1 = L := by rw [eI11627, pp_ne _ _ (Or.inl (lyx_ne hy (by decide) (by decide) (by decide)))]; exact e11617
        have e11629 : I11627 (ad g 27) 4 = v10925 := by rw [eI11627, pp_ne _ _ (Or.inl (lyx_ne hy (by decide) (by decide) (by decide)))]; exact e11618
        have e11630 : I11627 (ad g 50) 0 = v11356 := by rw [eI11627, pp_ne _ _ (Or.inr (by decide))]; exact e11619
        have e11631 : I11627 (ad g 50) 1 = v11362 := by rw [eI11627, pp_ne _ _ (Or.inr (by decide))]; exact e11620
        have e11632 : I11627 (ad g 50) 2 = v11369 := by rw [eI11627, pp_ne _ _ (Or.inr (by decide))]; exact e11621
        have e11633 : I11627 (ad g 50) 3 = v11601 := by rw [eI11627, pp_ne _ _ (Or.inr (by decide))]; exact e11622
        have e11634 : I11627 (ad g 50) 4 = v11615 := by rw [eI11627, pp_ne _ _ (Or.inr (by decide))]; exact e11623
        have e11635 : I11627 (ad g 50) 5 = v11626 := by rw [eI11627, pp_self]
        have fr11636 : fz 74 g [50] I I11627 := by rw [eI11627]; exact fzx_pp hy fr11624 (by decide) (by decide)
        clear eI11627
        refine WP_aload_n dX6_load_151 rfl ?_
        refine WP_iload dX6_load_152 rfl ?_
        refine WQ_if_ne 163 dX6_load_154 rfl (fun c11636 => ?_) (fun c11636 => False.elim (by omega))
        refine WQ_iconst (0) (0) dX6_load_163 rfl rfl (fun v11638 hv11638 => ?_)
        refine WP_goto 168 dX6_load_164 rfl ?_
        refine WQ_puti dX6_load_168 fX6_57 rfl rfl (lyx_is hy 50 6 rfl) (fun I11639 eI11639 => ?_)
        have hI11639 : XI g n L I11639 := by rw [eI11639]; exact (xi_f hy hI11627 (c := 50) (0) (0) (2) (by decide) (Or.inl (by decide)) (by decide) (by omega) (by omega))
        have e11640 : I11639 (ad g 1) 1 = L := by rw [eI11639, pp_ne _ _ (Or.inl (lyx_ne hy (by decide) (by decide) (by decide)))]; exact e11628
        have e11641 : I11639 (ad g 27) 4 = v10925 := by rw [eI11639, pp_ne _ _ (Or.inl (lyx_ne hy (by decide) (by decide) (by decide)))]; exact e11629
        have e11642 : I11639 (ad g 50) 0 = v11356 := by rw [eI11639, pp_ne _ _ (Or.inr (by decide))]; exact e11630
        have e11643 : I11639 (ad g 50) 1 = v11362 := by rw [eI11639, pp_ne _ _ (Or.inr (by decide))]; exact e11631
        have e11644 : I11639 (ad g 50) 2 = v11369 := by rw [eI11639, pp_ne _ _ (Or.inr (by decide))]; exact e11632
        have e11645 : I11639 (ad g 50) 3 = v11601 := by rw [eI11639, pp_ne _ _ (Or.inr (by decide))]; exact e11633
        have e11646 : I11639 (ad g 50) 4 = v11615 := by rw [eI11639, pp_ne _ _ (Or.inr (by decide))]; exact e11634
        have e11647 : I11639 (ad g 50) 5 = v11626 := by rw [eI11639, pp_ne _ _ (Or.inr (by decide))]; exact e11635
        have e11648 : I11639 (ad g 50) 6 = v11638 := by rw [eI11639, pp_self]
        have fr11649 : fz 74 g [50] I I11639 := by rw [eI11639]; exact fzx_pp hy fr11636 (by decide) (by decide)
        clear eI11639
        refine WP_aload_n dX6_load_171 rfl ?_
        refine WP_aload_n dX6_load_172 rfl ?_
        refine WQ_getim dX6_load_173 fX6_9 rfl (lyx_is hy 50 6 rfl) e11642 ?_
        refine WQ_iconst (-1) (-1) dX6_load_176 rfl rfl (fun v11650 hv11650 => ?_)
        refine WQ_icmp_eq 193 dX6_load_177 rfl (fun c11650 => ?_) (fun c11650 => False.elim (by omega))
        refine WQ_iconst (0) (0) dX6_load_193 rfl rfl (fun v11652 hv11652 => ?_)
        refine WQ_putz dX6_load_194 fX6_60 rfl rfl (by omega) (lyx_is hy 50 6 rfl) (fun I11653 eI11653 => ?_)
        have hI11653 : XI g n L I11653 := by rw [eI11653]; exact (xi_f hy hI11639 (c := 50) (0) (0) (1) (by decide) (Or.inl (by decide)) (by decide) (by omega) (by omega))
        have e11654 : I11653 (ad g 1) 1 = L := by rw [eI11653, pp_ne _ _ (Or.inl (lyx_ne hy (by decide) (by decide) (by decide)))]; exact e11640
        have e11655 : I11653 (ad g 27) 4 = v10925 := by rw [eI11653, pp_ne _ _ (Or.inl (lyx_ne hy (by decide) (by decide) (by decide)))]; exact e11641
        have e11656 : I11653 (ad g 50) 0 = v11356 := by rw [eI11653, pp_ne _ _ (Or.inr (by decide))]; exact e11642
        have e11657 : I11653 (ad g 50) 1 = v11362 := by rw [eI11653, pp_ne _ _ (Or.inr (by decide))]; exact e11643
        have e11658 : I11653 (ad g 50) 2 = v11369 := by rw [eI11653, pp_ne _ _ (Or.inr (by decide))]; exact e11644
        have e11659 : I11653 (ad g 50) 3 = v11601 := by rw [eI11653, pp_ne _ _ (Or.inr (by decide))]; exact e11645
        have e11660 : I11653 (ad g 50) 4 = v11615 := by rw [eI11653, pp_ne _ _ (Or.inr (by decide))]; exact e11646
        have e11661 : I11653 (ad g 50) 5 = v11626 := by rw [eI11653, pp_ne _ _ (Or.inr (by decide))]; exact e11647
        have e11662 : I11653 (ad g 50) 6 = v11638 := by rw [eI11653, pp_ne _ _ (Or.inr (by decide))]; exact e11648
        have e11663 : I11653 (ad g 50) 7 = v11652 := by rw [eI11653, pp_self]
        have fr11664 : fz 74 g [50] I I11653 := by rw [eI11653]; exact fzx_pp hy fr11649 (by decide) (by decide)
        clear eI11653
        refine WP_aload_n dX6_load_197 rfl ?_
        refine WP_aload_n dX6_load_198 rfl ?_
        refine WP_getr dX6_load_199 fX6_64 rfl (lyx_is hy 5 0 rfl) (rfx hr 5 2 23 (by decide)) ?_
        refine WP_iload_n dX6_load_202 rfl ?_
        refine WQ_iald dX6_load_203 (lyx_is hy 23 13 rfl) (lyx_n hy 23 7 rfl) (by omega) (by omega) (fun q hq => BT_get hI11653.1 23 0 7 (0) (0) (900) (by decide) q (Nat.zero_le _) hq) (fun v11665 av11665 bv11665 ev11665 => ?_)
        clear ev11665
        refine WQ_if_le 211 dX6_load_204 rfl (fun c11665 => ?_) (fun c11665 => ?_)
        · refine WQ_iconst (0) (0) dX6_load_211 rfl rfl (fun v11667 hv11667 => ?_)
          refine WQ_putz dX6_load_212 fX6_67 rfl rfl (by omega) (lyx_is hy 50 6 rfl) (fun I11668 eI11668 => ?_)
          have hI11668 : XI g n L I11668 := by rw [eI11668]; exact (xi_f hy hI11653 (c := 50) (0) (0) (1) (by decide) (Or.inl (by decide)) (by decide) (by omega) (by omega))
          have e11669 : I11668 (ad g 1) 1 = L := by rw [eI11668, pp_ne _ _ (Or.inl (lyx_ne hy (by decide) (by decide) (by decide)))]; exact e11654
          have e11670 : I11668 (ad g 27) 4 = v10925 := by rw [eI11668, pp_ne _ _ (Or.inl (lyx_ne hy (by decide) (by decide) (by decide)))]; exact e11655
          have e11671 : I11668 (ad g 50) 0 = v11356 := by rw [eI11668, pp_ne _ _ (Or.inr (by decide))]; exact e11656
          have e11672 : I11668 (ad g 50) 1 = v11362 := by rw [eI11668, pp_ne _ _ (Or.inr (by decide))]; exact e11657
          have e11673 : I11668 (ad g 50) 2 = v11369 := by rw [eI11668, pp_ne _ _ (Or.inr (by decide))]; exact e11658
          have e11674 : I11668 (ad g 50) 3 = v11601 := by rw [eI11668, pp_ne _ _ (Or.inr (by decide))]; exact e11659
          have e11675 : I11668 (ad g 50) 4 = v11615 := by rw [eI11668, pp_ne _ _ (Or.inr (by decide))]; exact e11660
          have e11676 : I11668 (ad g 50) 5 = v11626 := by rw [eI11668, pp_ne _ _ (Or.inr (by decide))]; exact e11661
          have e11677 : I11668 (ad g 50) 6 = v11638 := by rw [eI11668, pp_ne _ _ (Or.inr (by decide))]; exact e11662
          have e11678 : I11668 (ad g 50) 7 = v11652 := by rw [eI11668, pp_ne _ _ (Or.inr (by decide))]; exact e11663
          have e11679 : I11668 (ad g 50) 8 = v11667 := by rw [eI11668, pp_self]
          have fr11680 : fz 74 g [50] I I11668 := by rw [eI11668]; exact fzx_pp hy fr11664 (by decide) (by decide)
          clear eI11668
          exact WP_vret dX6_load_215 rfl ⟨⟨hI11668, rfl, fr11680, rfl, (by
                have yill : I (ad g (27 + 5)) so.toInt.toNat >>> (nI da.toInt.toNat &&& 31) &&& 1 = v10929 := by rw [show I (ad g (27 + 5)) so.toInt.toNat = v10926 from yv10926, show nI da.toInt.toNat = da from (eq32 _ _).mpr (by rw [nI_toInt (by omega)]; omega), xv10929, xv10927, (eq32 v10928 1).mpr hv10928]
                have yst : I (ad g 27) 4 = v10925 := est
                unfold LD
                simp only [e11671, e11672, e11673, e11674, e11675, e11676, e11677, e11678, yill, yst, show I (ad g (27 + 7)) _ = _ from yv11356, show I (ad g (27 + 8)) _ = _ from yv11362, show I (ad g (27 + 9)) _ = _ from yv11369, yv11615, true_and, and_true]
                omega)⟩, rfl⟩
        · refine WQ_iconst (1) (1) dX6_load_207 rfl rfl (fun v11681 hv11681 => ?_)
          refine WP_goto 212 dX6_load_208 rfl ?_
          refine WQ_putz dX6_load_212 fX6_67 rfl rfl (by omega) (lyx_is hy 50 6 rfl) (fun I11682 eI11682 => ?_)
          have hI11682 : XI g n L I11682 := by rw [eI11682]; exact (xi_f hy hI11653 (c := 50) (0) (0) (1) (by decide) (Or.inl (by decide)) (by decide) (by omega) (by omega))
          have e11683 : I11682 (ad g 1) 1 = L := by rw [eI11682, pp_ne _ _ (Or.inl (lyx_ne hy (by decide) (by decide) (by decide)))]; exact e11654
          have e11684 : I11682 (ad g 27) 4 = v10925 := by rw [eI11682, pp_ne _ _ (Or.inl (lyx_ne hy (by decide) (by decide) (by decide)))]; exact e11655
          have e11685 : I11682 (ad g 50) 0 = v11356 := by rw [eI11682, pp_ne _ _ (Or.inr (by decide))]; exact e11656
          have e11686 : I11682 (ad g 50) 1 = v11362 := by rw [eI11682, pp_ne _ _ (Or.inr (by decide))]; exact e11657
          have e11687 : I11682 (ad g 50) 2 = v11369 := by rw [eI11682, pp_ne _ _ (Or.inr (by decide))]; exact e11658
          have e11688 : I11682 (ad g 50) 3 = v11601 := by rw [eI11682, pp_ne _ _ (Or.inr (by decide))]; exact e11659
          have e11689 : I11682 (ad g 50) 4 = v11615 := by rw [eI11682, pp_ne _ _ (Or.inr (by decide))]; exact e11660
          have e11690 : I11682 (ad g 50) 5 = v11626 := by rw [eI11682, pp_ne _ _ (Or.inr (by decide))]; exact e11661
          have e11691 : I11682 (ad g 50) 6 = v11638 := by rw [eI11682, pp_ne _ _ (Or.inr (by decide))]; exact e11662
          have e11692 : I11682 (ad g 50) 7 = v11652 := by rw [eI11682, pp_ne _ _ (Or.inr (by decide))]; exact e11663
          have e11693 : I11682 (ad g 50) 8 = v11681 := by rw [eI11682, pp_self]
          have fr11694 : fz 74 g [50] I I11682 := by rw [eI11682]; exact fzx_pp hy fr11664 (by decide) (by decide)
          clear eI11682
          exact WP_vret dX6_load_215 rfl ⟨⟨hI11682, rfl, fr11694, rfl, (by
                have yill : I (ad g (27 + 5)) so.toInt.toNat >>> (nI da.toInt.toNat &&& 31) &&& 1 = v10929 := by rw [show I (ad g (27 + 5)) so.toInt.toNat = v10926 from yv10926, show nI da.toInt.toNat = da from (eq32 _ _).mpr (by rw [nI_toInt (by omega)]; omega), xv10929, xv10927, (eq32 v10928 1).mpr hv10928]
                have yst : I (ad g 27) 4 = v10925 := est
                unfold LD
                simp only [e11685, e11686, e11687, e11688, e11689, e11690, e11691, e11692, yill, yst, show I (ad g (27 + 7)) _ = _ from yv11356, show I (ad g (27 + 8)) _ = _ from yv11362, show I (ad g (27 + 9)) _ = _ from yv11369, yv11615, true_and, and_true]
                omega)⟩, rfl⟩
      · refine WQ_iconst (0) (0) dX6_load_115 rfl rfl (fun v11695 hv11695 => ?_)
        refine WP_goto 131 dX6_load_116 rfl ?_
        refine WQ_puti dX6_load_131 fX6_51 rfl rfl (lyx_is hy 50 6 rfl) (fun I11696 eI11696 => ?_)
        have hI11696 : XI g n L I11696 := by rw [eI11696]; exact (xi_f hy hI11602 (c := 50) (0) (0) (20) (by decide) (Or.inl (by decide)) (by decide) (by omega) (by omega))
        have e11697 : I11696 (ad g 1) 1 = L := by rw [eI11696, pp_ne _ _ (Or.inl (lyx_ne hy (by decide) (by decide) (by decide)))]; exact e11603
        have e11698 : I11696 (ad g 27) 4 = v10925 := by rw [eI11696, pp_ne _ _ (Or.inl (lyx_ne hy (by decide) (by decide) (by decide)))]; exact e11604
        have e11699 : I11696 (ad g 50) 0 = v11356 := by rw [eI11696, pp_ne _ _ (Or.inr (by decide))]; exact e11605
        have e11700 : I11696 (ad g 50) 1 = v11362 := by rw [eI11696, pp_ne _ _ (Or.inr (by decide))]; exact e11606
        have e11701 : I11696 (ad g 50) 2 = v11369 := by rw [eI11696, pp_ne _ _ (Or.inr (by decide))]; exact e11607
        have e11702 : I11696 (ad g 50) 3 = v11601 := by rw [eI11696, pp_ne _ _ (Or.inr (by decide))]; exact e11608
        have e11703 : I11696 (ad g 50) 4 = v11695 := by rw [eI11696, pp_self]
        have fr11704 : fz 74 g [50] I I11696 := by rw [eI11696]; exact fzx_pp hy fr11609 (by decide) (by decide)
        clear eI11696
        refine WP_aload_n dX6_load_134 rfl ?_
        refine WP_iload dX6_load_135 rfl ?_
        refine WQ_if_eq 144 dX6_load_137 rfl (fun c11704 => False.elim (by omega)) (fun c11704 => ?_)
        refine WQ_iconst (0) (0) dX6_load_140 rfl rfl (fun v11706 hv11706 => ?_)
        refine WP_goto 148 dX6_load_141 rfl ?_
        refine WQ_puti dX6_load_148 fX6_54 rfl rfl (lyx_is hy 50 6 rfl) (fun I11707 eI11707 => ?_)
        have hI11707 : XI g n L I11707 := by rw [eI11707]; exact (xi_f hy hI11696 (c := 50) (0) (0) (3) (by decide) (Or.inl (by decide)) (by decide) (by omega) (by omega))
        have e11708 : I11707 (ad g 1) 1 = L := by rw [eI11707, pp_ne _ _ (Or.inl (lyx_ne hy (by decide) (by decide) (by decide)))]; exact e11697
        have e11709 : I11707 (ad g 27) 4 = v10925 := by rw [eI11707, pp_ne _ _ (Or.inl (lyx_ne hy (by decide) (by decide) (by decide)))]; exact e11698
        have e11710 : I11707 (ad g 50) 0 = v11356 := by rw [eI11707, pp_ne _ _ (Or.inr (by decide))]; exact e11699
        have e11711 : I11707 (ad g 50) 1 = v11362 := by rw [eI11707, pp_ne _ _ (Or.inr (by decide))]; exact e11700
        have e11712 : I11707 (ad g 50) 2 = v11369 := by rw [eI11707, pp_ne _ _ (Or.inr (by decide))]; exact e11701
        have e11713 : I11707 (ad g 50) 3 = v11601 := by rw [eI11707, pp_ne _ _ (Or.inr (by decide))]; exact e11702
        have e11714 : I11707 (ad g 50) 4 = v11695 := by rw [eI11707, pp_ne _ _ (Or.inr (by decide))]; exact e11703
        have e11715 : I11707 (ad g 50) 5 = v11706 := by rw [eI11707, pp_self]
        have fr11716 : fz 74 g [50] I I11707 := by rw [eI11707]; exact fzx_pp hy fr11704 (by decide) (by decide)
        clear eI11707
        refine WP_aload_n dX6_load_151 rfl ?_
        refine WP_iload dX6_load_152 rfl ?_
        refine WQ_if_ne 163 dX6_load_154 rfl (fun c11716 => ?_) (fun c11716 => False.elim (by omega))
        refine WQ_iconst (0) (0) dX6_load_163 rfl rfl (fun v11718 hv11718 => ?_)
        refine WP_goto 168 dX6_load_164 rfl ?_
        refine WQ_puti dX6_load_168 fX6_57 rfl rfl (lyx_is hy 50 6 rfl) (fun I11719 eI11719 => ?_)
        have hI11719 : XI g n L I11719 := by rw [eI11719]; exact (xi_f hy hI11707 (c := 50) (0) (0) (2) (by decide) (Or.inl (by decide)) (by decide) (by omega) (by omega))
        have e11720 : I11719 (ad g 1) 1 = L := by rw [eI11719, pp_ne _ _ (Or.inl (lyx_ne hy (by decide) (by decide) (by decide)))]; exact e11708
        have e11721 : I11719 (ad g 27) 4 = v10925 := by rw [eI11719, pp_ne _ _ (Or.inl (lyx_ne hy (by decide) (by decide) (by decide)))]; exact e11709
        have e11722 : I11719 (ad g 50) 0 = v11356 := by rw [eI11719, pp_ne _ _ (Or.inr (by decide))]; exact e11710
        have e11723 : I11719 (ad g 50) 1 = v11362 := by rw [eI11719, pp_ne _ _ (Or.inr (by decide))]; exact e11711
        have e11724 : I11719 (ad g 50) 2 = v11369 := by rw [eI11719, pp_ne _ _ (Or.inr (by decide))]; exact e11712
        have e11725 : I11719 (ad g 50) 3 = v11601 := by rw [eI11719, pp_ne _ _ (Or.inr (by decide))]; exact e11713
        have e11726 : I11719 (ad g 50) 4 = v11695 := by rw [eI11719, pp_ne _ _ (Or.inr (by decide))]; exact e11714
        have e11727 : I11719 (ad g 50) 5 = v11706 := by rw [eI11719, pp_ne _ _ (Or.inr (by decide))]; exact e11715
        have e11728 : I11719 (ad g 50) 6 = v11718 := by rw [eI11719, pp_self]
        have fr11729 : fz 74 g [50] I I11719 := by rw [eI11719]; exact fzx_pp hy fr11716 (by decide) (by decide)
        clear eI11719
        refine WP_aload_n dX6_load_171 rfl ?_
        refine WP_aload_n dX6_load_172 rfl ?_
        refine WQ_getim dX6_load_173 fX6_9 rfl (lyx_is hy 50 6 rfl) e11722 ?_
        refine WQ_iconst (-1) (-1) dX6_load_176 rfl rfl (fun v11730 hv11730 => ?_)
        refine WQ_icmp_eq 193 dX6_load_177 rfl (fun c11730 => ?_) (fun c11730 => False.elim (by omega))
        refine WQ_iconst (0) (0) dX6_load_193 rfl rfl (fun v11732 hv11732 => ?_)
        refine WQ_putz dX6_load_194 fX6_60 rfl rfl (by omega) (lyx_is hy 50 6 rfl) (fun I11733 eI11733 => ?_)
        have hI11733 : XI g n L I11733 := by rw [eI11733]; exact (xi_f hy hI11719 (c := 50) (0) (0) (1) (by decide) (Or.inl (by decide)) (by decide) (by omega) (by omega))
        have e11734 : I11733 (ad g 1) 1 = L := by rw [eI11733, pp_ne _ _ (Or.inl (lyx_ne hy (by decide) (by decide) (by decide)))]; exact e11720
        have e11735 : I11733 (ad g 27) 4 = v10925 := by rw [eI11733, pp_ne _ _ (Or.inl (lyx_ne hy (by decide) (by decide) (by decide)))]; exact e11721
        have e11736 : I11733 (ad g 50) 0 = v11356 := by rw [eI11733, pp_ne _ _ (Or.inr (by decide))]; exact e11722
        have e11737 : I11733 (ad g 50) 1 = v11362 := by rw [eI11733, pp_ne _ _ (Or.inr (by decide))]; exact e11723
        have e11738 : I11733 (ad g 50) 2 = v11369 := by rw [eI11733, pp_ne _ _ (Or.inr (by decide))]; exact e11724
        have e11739 : I11733 (ad g 50) 3 = v11601 := by rw [eI11733, pp_ne _ _ (Or.inr (by decide))]; exact e11725
        have e11740 : I11733 (ad g 50) 4 = v11695 := by rw [eI11733, pp_ne _ _ (Or.inr (by decide))]; exact e11726
        have e11741 : I11733 (ad g 50) 5 = v11706 := by rw [eI11733, pp_ne _ _ (Or.inr (by decide))]; exact e11727
        have e11742 : I11733 (ad g 50) 6 = v11718 := by rw [eI11733, pp_ne _ _ (Or.inr (by decide))]; exact e11728
        have e11743 : I11733 (ad g 50) 7 = v11732 := by rw [eI11733, pp_self]
        have fr11744 : fz 74 g [50] I I11733 := by rw [eI11733]; exact fzx_pp hy fr11729 (by decide) (by decide)
        clear eI11733
        refine WP_aload_n dX6_load_197 rfl ?_
        refine WP_aload_n dX6_load_198 rfl ?_
        refine WP_getr dX6_load_199 fX6_64 rfl (lyx_is hy 5 0 rfl) (rfx hr 5 2 23 (by decide)) ?_
        refine WP_iload_n dX6_load_202 rfl ?_
        refine WQ_iald dX6_load_203 (lyx_is hy 23 13 rfl) (lyx_n hy 23 7 rfl) (by omega) (by omega) (fun q hq => BT_get hI11733.1 23 0 7 (0) (0) (900) (by decide) q (Nat.zero_le _) hq) (fun v11745 av11745 bv11745 ev11745 => ?_)
        clear ev11745
        refine WQ_if_le 211 dX6_load_204 rfl (fun c11745 => ?_) (fun c11745 => ?_)
        · refine WQ_iconst (0) (0) dX6_load_211 rfl rfl (fun v11747 hv11747 => ?_)
          refine WQ_putz dX6_load_212 fX6_67 rfl rfl (by omega) (lyx_is hy 50 6 rfl) (fun I11748 eI11748 => ?_)
          have hI11748 : XI g n L I11748 := by rw [eI11748]; exact (xi_f hy hI11733 (c := 50) (0) (0) (1) (by decide) (Or.inl (by decide)) (by decide) (by omega) (by omega))
          have e11749 : I11748 (ad g 1) 1 = L := by rw [eI11748, pp_ne _ _ (Or.inl (lyx_ne hy (by decide) (by decide) (by decide)))]; exact e11734
          have e11750 : I11748 (ad g 27) 4 = v10925 := by rw [eI11748, pp_ne _ _ (Or.inl (lyx_ne hy (by decide) (by decide) (by decide)))]; exact e11735
          have e11751 : I11748 (ad g 50) 0 = v11356 := by rw [eI11748, pp_ne _ _ (Or.inr (by decide))]; exact e11736
          have e11752 : I11748 (ad g 50) 1 = v11362 := by rw [eI11748, pp_ne _ _ (Or.inr (by decide))]; exact e11737
          have e11753 : I11748 (ad g 50) 2 = v11369 := by rw [eI11748, pp_ne _ _ (Or.inr (by decide))]; exact e11738
          have e11754 : I11748 (ad g 50) 3 = v11601 := by rw [eI11748, pp_ne _ _ (Or.inr (by decide))]; exact e11739
          have e11755 : I11748 (ad g 50) 4 = v11695 := by rw [eI11748, pp_ne _ _ (Or.inr (by decide))]; exact e11740
          have e11756 : I11748 (ad g 50) 5 = v11706 := by rw [eI11748, pp_ne _ _ (Or.inr (by decide))]; exact e11741
          have e11757 : I11748 (ad g 50) 6 = v11718 := by rw [eI11748, pp_ne _ _ (Or.inr (by decide))]; exact e11742
          have e11758 : I11748 (ad g 50) 7 = v11732 := by rw [eI11748, pp_ne _ _ (Or.inr (by decide))]; exact e11743
          have e11759 : I11748 (ad g 50) 8 = v11747 := by rw [eI11748, pp_self]
          have fr11760 : fz 74 g [50] I I11748 := by rw [eI11748]; exact fzx_pp hy fr11744 (by decide) (by decide)
          clear eI11748
          exact WP_vret dX6_load_215 rfl ⟨⟨hI11748, rfl, fr11760, rfl, (by
                have yill : I (ad g (27 + 5)) so.toInt.toNat >>> (nI da.toInt.toNat &&& 31) &&& 1 = v10929 := by rw [show I (ad g (27 + 5)) so.toInt.toNat = v10926 from yv10926, show nI da.toInt.toNat = da from (eq32 _ _).mpr (by rw [nI_toInt (by omega)]; omega), xv10929, xv10927, (eq32 v10928 1).mpr hv10928]
                have yst : I (ad g 27) 4 = v10925 := est
                unfold LD
                simp only [e11751, e11752, e11753, e11754, e11755, e11756, e11757, e11758, yill, yst, show I (ad g (27 + 7)) _ = _ from yv11356, show I (ad g (27 + 8)) _ = _ from yv11362, show I (ad g (27 + 9)) _ = _ from yv11369, true_and, and_true]
                omega)⟩, rfl⟩
        · refine WQ_iconst (1) (1) dX6_load_207 rfl rfl (fun v11761 hv11761 => ?_)
          refine WP_goto 212 dX6_load_208 rfl ?_
          refine WQ_putz dX6_load_212 fX6_67 rfl rfl (by omega) (lyx_is hy 50 6 rfl) (fun I11762 eI11762 => ?_)
          have hI11762 : XI g n L I11762 := by rw [eI11762]; exact (xi_f hy hI11733 (c := 50) (0) (0) (1) (by decide) (Or.inl (by decide)) (by decide) (by omega) (by omega))
          have e11763 : I11762 (ad g 1) 1 = L := by rw [eI11762, pp_ne _ _ (Or.inl (lyx_ne hy (by decide) (by decide) (by decide)))]; exact e11734
          have e11764 : I11762 (ad g 27) 4 = v10925 := by rw [eI11762, pp_ne _ _ (Or.inl (lyx_ne hy (by decide) (by decide) (by decide)))]; exact e11735
          have e11765 : I11762 (ad g 50) 0 = v11356 := by rw [eI11762, pp_ne _ _ (Or.inr (by decide))]; exact e11736
          have e11766 : I11762 (ad g 50) 1 = v11362 := by rw [eI11762, pp_ne _ _ (Or.inr (by decide))]; exact e11737
          have e11767 : I11762 (ad g 50) 2 = v11369 := by rw [eI11762, pp_ne _ _ (Or.inr (by decide))]; exact e11738
          have e11768 : I11762 (ad g 50) 3 = v11601 := by rw [eI11762, pp_ne _ _ (Or.inr (by decide))]; exact e11739
          have e11769 : I11762 (ad g 50) 4 = v11695 := by rw [eI11762, pp_ne _ _ (Or.inr (by decide))]; exact e11740
          have e11770 : I11762 (ad g 50) 5 = v11706 := by rw [eI11762, pp_ne _ _ (Or.inr (by decide))]; exact e11741
          have e11771 : I11762 (ad g 50) 6 = v11718 := by rw [eI11762, pp_ne _ _ (Or.inr (by decide))]; exact e11742
          have e11772 : I11762 (ad g 50) 7 = v11732 := by rw [eI11762, pp_ne _ _ (Or.inr (by decide))]; exact e11743
          have e11773 : I11762 (ad g 50) 8 = v11761 := by rw [eI11762, pp_self]
          have fr11774 : fz 74 g [50] I I11762 := by rw [eI11762]; exact fzx_pp hy fr11744 (by decide) (by decide)
          clear eI11762
          exact WP_vret dX6_load_215 rfl ⟨⟨hI11762, rfl, fr11774, rfl, (by
                have yill : I (ad g (27 + 5)) so.toInt.toNat >>> (nI da.toInt.toNat &&& 31) &&& 1 = v10929 := by rw [show I (ad g (27 + 5)) so.toInt.toNat = v10926 from yv10926, show nI da.toInt.toNat = da from (eq32 _ _).mpr (by rw [nI_toInt (by omega)]; omega), xv10929, xv10927, (eq32 v10928 1).mpr hv10928]
                have yst : I (ad g 27) 4 = v10925 := est
                unfold LD
                simp only [e11765, e11766, e11767, e11768, e11769, e11770, e11771, e11772, yill, yst, show I (ad g (27 + 7)) _ = _ from yv11356, show I (ad g (27 + 8)) _ = _ from yv11362, show I (ad g (27 + 9)) _ = _ from yv11369, true_and, and_true]
                omega)⟩, rfl⟩
