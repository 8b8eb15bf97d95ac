set_option maxHeartbeats 4000000 in
set_option maxRecDepth 100000 in
theorem sx_serve_53_6 {g : GG} {n : Int} {L : Int32} (hy : LyX g)  {I : pI} {J : pJ} {R : pR} (hr : RfX g R) (hP : NL g R) (hT : R (ad g 5) 0 = some (ad g 6)) (hI : XI g n L I) (so : Int32) (da : Int32) (so_lo : 0 ≤ so.toInt) (so_hi : so.toInt ≤ 3) (da_lo : 0 ≤ da.toInt) (da_hi : da.toInt ≤ 6) (hn : 0 ≤ n ∧ n ≤ 40000) (hb : (I (ad g 53) 1).toInt ≤ 23760 * n + 0 - 5940) : SP g mX9_serve [.ref (ad g 49), .ref (ad g 53), .int so, .int da] I J R (fun r I' J' R' => (XI g n L I' ∧ (RfX g R' ∧ (R' (ad g 5) 0 = R (ad g 5) 0 ∧ R' (ad g 0) 10 = R (ad g 0) 10) ∧ NL g R') ∧ fz 74 g [43, 44, 47, 48, 50, 51, 52, 53, 55] I I' ∧ (I' (ad g 53) 1).toInt ≤ (I (ad g 53) 1).toInt + 5940) ∧ r = none) := by
  refine SP_of ⟨by decide, rfl⟩ (Nat.le_of_ble_eq_true rfl) ?_
  have e13333 : I (ad g 1) 1 = L := hI.2
  have b13334 := BT_get hI.1 1 1 2 (0) (0) (900) (by decide) 1 (by decide) (by decide)
  rw [e13333] at b13334
  have fr0 : fz 74 g [43, 44, 47, 48, 50, 51, 52, 53, 55] I I := fz_rf
  obtain ⟨w13335, ew13335⟩ : ∃ w : Int32, I (ad g 53) 1 = w := ⟨_, rfl⟩
  have bw13335 := BT_get hI.1 53 1 2 (0) (23760) (0) (by decide) 1 (by decide) (by decide)
  rw [ew13335] at bw13335
  rw [ew13335] at hb
  refine WP_iload_n dX9_serve_0 rfl ?_
  refine WQ_bipush (7) (7) dX9_serve_1 rfl rfl (fun v13336 hv13336 => ?_)
  refine WQ_imulk (7) dX9_serve_3 hv13336 (by omega) (by omega) (fun v13337 hv13337 => ?_)
  refine WP_istore (ls' := [(0, _), (1, _), (2, _), (3, _), (4, _)]) dX9_serve_4 (by decide) rfl ?_
  refine WP_aload_n dX9_serve_6 rfl ?_
  refine WP_getr dX9_serve_7 fX9_25 rfl (lyx_is hy 49 9 rfl) (rfx hr 49 2 5 (by decide)) ?_
  refine WP_getr dX9_serve_10 fX9_49 rfl (lyx_is hy 5 0 rfl) hT ?_
  refine WP_getr dX9_serve_13 fX9_71 rfl (lyx_is hy 6 7 rfl) (rfx hr 6 6 8 (by decide)) ?_
  refine WP_iload_n dX9_serve_16 rfl ?_
  refine WQ_iald dX9_serve_17 (lyx_is hy 8 13 rfl) (lyx_n hy 8 4 rfl) (by omega) (by omega) (fun q hq => BT_get hI.1 8 0 4 (0) (0) (99) (by decide) q (Nat.zero_le _) hq) (fun v13338 av13338 bv13338 ev13338 => ?_)
  clear ev13338
  refine WP_istore (ls' := [(0, _), (1, _), (2, _), (3, _), (4, _), (5, _)]) dX9_serve_18 (by decide) rfl ?_
  refine WP_aload_n dX9_serve_20 rfl ?_
  refine WP_getr dX9_serve_21 fX9_75 rfl (lyx_is hy 53 4 rfl) (rfx hr 53 5 55 (by decide)) ?_
  refine WP_iload dX9_serve_24 rfl ?_
  refine WQ_iconst (1) (1) dX9_serve_26 rfl rfl (fun v13339 hv13339 => ?_)
  refine WQ_iadd dX9_serve_27 (by omega) (by omega) (fun v13340 hv13340 => ?_)
  refine WQ_ialdf (q := 7 * so.toInt.toNat + 1) dX9_serve_28 (lyx_is hy 55 13 rfl) (lyx_n hy 55 28 rfl) (by omega) (by omega) (by omega) (fa_get1 hI (c := 55) (by decide) (by omega)) (fun v13341 av13341 bv13341 => ?_)
  refine WP_istore (ls' := [(0, _), (1, _), (2, _), (3, _), (4, _), (5, _), (6, _)]) dX9_serve_29 (by decide) rfl ?_
  refine WP_aload_n dX9_serve_31 rfl ?_
  refine WP_getr dX9_serve_32 fX9_25 rfl (lyx_is hy 49 9 rfl) (rfx hr 49 2 5 (by decide)) ?_
  refine WP_iload_n dX9_serve_35 rfl ?_
  refine WP_iload_n dX9_serve_36 rfl ?_
  refine WP_aload_n dX9_serve_37 rfl ?_
  refine WP_getr dX9_serve_38 fX9_75 rfl (lyx_is hy 53 4 rfl) (rfx hr 53 5 55 (by decide)) ?_
  refine WP_iload dX9_serve_41 rfl ?_
  refine WQ_iconst (0) (0) dX9_serve_43 rfl rfl (fun v13342 hv13342 => ?_)
  refine WQ_iadd dX9_serve_44 (by omega) (by omega) (fun v13343 hv13343 => ?_)
  refine WQ_ialdf (q := 7 * so.toInt.toNat) dX9_serve_45 (lyx_is hy 55 13 rfl) (lyx_n hy 55 28 rfl) (by omega) (by omega) (by omega) (fa_get0 hI (c := 55) (by decide) (by omega)) (fun v13344 av13344 bv13344 => ?_)
  refine WP_callV3 (k := 0) dX9_serve_46 ⟨⟨⟨by decide, by decide⟩, zX0_earned⟩, lX9_81, by decide, rfl, vX0_earned.1, vX0_earned.2⟩ (lyx_is hy 5 0 rfl) (sx_earned_6 hy hr hT hI so da v13344 (by omega) (by omega) (by omega) (by omega) (by omega) (by omega)) (Nat.le_of_ble_eq_true rfl) ?_
  intro r Ia Ja Ra hq
  obtain ⟨⟨ea, eb, ec⟩, v13345, rfl, av13345, bv13345, cv13345⟩ := hq
  show WP _ _ _ _ (.int _ :: _) _ _ _ _
  rw [ea, eb, ec]
  clear ea eb ec Ia Ja Ra
  refine WP_istore (ls' := [(0, _), (1, _), (2, _), (3, _), (4, _), (5, _), (6, _), (7, _)]) dX9_serve_49 (by decide) rfl ?_
  refine WP_aload_n dX9_serve_51 rfl ?_
  refine WP_getr dX9_serve_52 fX9_85 rfl (lyx_is hy 53 4 rfl) (rfx hr 53 4 54 (by decide)) ?_
  refine WP_iload_n dX9_serve_55 rfl ?_
  refine WQ_ialdu dX9_serve_56 (lyx_is hy 54 13 rfl) (lyx_n hy 54 4 rfl) (by omega) (by omega) (fun v13346 => ?_)
  refine WP_istore (ls' := [(0, _), (1, _), (2, _), (3, _), (4, _), (5, _), (6, _), (7, _), (8, _)]) dX9_serve_57 (by decide) rfl ?_
  refine WP_aload_n dX9_serve_59 rfl ?_
  refine WP_getr dX9_serve_60 fX9_12 rfl (lyx_is hy 49 9 rfl) (rfx hr 49 0 50 (by decide)) ?_
  refine WP_aload_n dX9_serve_63 rfl ?_
  refine WP_getr dX9_serve_64 fX9_25 rfl (lyx_is hy 49 9 rfl) (rfx hr 49 2 5 (by decide)) ?_
  refine WP_iload_n dX9_serve_67 rfl ?_
  refine WP_iload_n dX9_serve_68 rfl ?_
  refine WP_callV3 (k := 6) dX9_serve_69 ⟨⟨⟨by decide, by decide⟩, zX6_load⟩, lX9_88, by decide, rfl, vX6_load.1, vX6_load.2⟩ (lyx_is hy 50 6 rfl) (sx_loadx_50_6 hy hr hT hI so da (by omega) (by omega) (by omega) (by omega)) (Nat.le_of_ble_eq_true rfl) ?_
  intro r I13347 J13348 Ra hq
  obtain ⟨⟨hI13347, ec, fiI13347, ejI13347, pI13347⟩, rfl⟩ := hq
  rw [ec]
  clear ec Ra
  have fr13349 : fz 74 g [43, 44, 47, 48, 50, 51, 52, 53, 55] I I13347 := fz_tr fr0 (fz_mono fiI13347 (by decide))
  rw [ejI13347]
  clear ejI13347 J13348
  have e13350 : I13347 (ad g 53) 1 = w13335 := by rw [fz_at fiI13347 53 (by decide) (by decide)]; exact ew13335
  have e13351 : I13347 (ad g 1) 1 = L := hI13347.2
  have b13352 := BT_get hI13347.1 1 1 2 (0) (0) (900) (by decide) 1 (by decide) (by decide)
  rw [e13351] at b13352
  refine WP_iload dX9_serve_72 rfl ?_
  refine WQ_iconst (3) (3) dX9_serve_74 rfl rfl (fun v13353 hv13353 => ?_)
  refine WQ_icmp_ne 96 dX9_serve_75 rfl (fun c13353 => ?_) (fun c13353 => ?_)
  · refine WP_aload_n dX9_serve_96 rfl ?_
    refine WP_getr dX9_serve_97 fX9_12 rfl (lyx_is hy 49 9 rfl) (rfx hr 49 0 50 (by decide)) ?_
    refine WP_iload dX9_serve_100 rfl ?_
    refine WP_iload dX9_serve_102 rfl ?_
    refine WP_iload dX9_serve_104 rfl ?_
    refine WP_callV3 (k := 6) dX9_serve_106 ⟨⟨⟨by decide, by decide⟩, zX6_habit⟩, lX9_98, by decide, rfl, vX6_habit.1, vX6_habit.2⟩ (lyx_is hy 50 6 rfl) (sx_habita hy hr hI13347 v13346 v13345 v13341  (by omega) (by omega) (by omega) (by omega)) (Nat.le_of_ble_eq_true rfl) ?_
    intro r Ia Ja Ra hq
    obtain ⟨⟨ea, eb, ec⟩, v13355, rfl, av13355, bv13355, cv13355⟩ := hq
    show WP _ _ _ _ (.int _ :: _) _ _ _ _
    rw [ea, eb, ec]
    clear ea eb ec Ia Ja Ra
    have acv13355 : AOKd (I13347 (ad g 50)) v13345.toInt v13341.toInt v13355.toInt := by unfold AOKd; exact ⟨by omega, by omega, cv13355.1, cv13355.2.1, cv13355.2.2⟩
    obtain ⟨w13356, ew13356⟩ : ∃ w : Int32, I13347 (ad g 50) 3 = w := ⟨_, rfl⟩
    have bw13356 := BT_get hI13347.1 50 3 4 (0) (0) (20) (by decide) 3 (by decide) (by decide)
    rw [ew13356] at bw13356
    obtain ⟨w13357, ew13357⟩ : ∃ w : Int32, I13347 (ad g 50) 4 = w := ⟨_, rfl⟩
    have bw13357 := BT_get hI13347.1 50 4 5 (0) (0) (20) (by decide) 4 (by decide) (by decide)
    rw [ew13357] at bw13357
    have adv13355 := acv13355
    unfold AOKd at adv13355
    rw [ew13356, ew13357] at adv13355
    obtain ⟨rav13355, rbv13355, rcv13355, rdv13355, rev13355⟩ := adv13355
    refine WP_istore (ls' := [(0, _), (1, _), (2, _), (3, _), (4, _), (5, _), (6, _), (7, _), (8, _), (9, _)]) dX9_serve_109 (by decide) rfl ?_
    refine WP_aload_n dX9_serve_111 rfl ?_
    refine WP_aload_n dX9_serve_112 rfl ?_
    refine WP_getr dX9_serve_113 fX9_12 rfl (lyx_is hy 49 9 rfl) (rfx hr 49 0 50 (by decide)) ?_
    refine WQ_geti dX9_serve_116 fX9_101 rfl (lyx_is hy 50 6 rfl) (BT_get hI13347.1 50 0 1 (-1) (0) (2) (by decide) 0 (by decide) (by decide)) (fun v13358 ev13358 av13358 bv13358 => ?_)
    refine WP_iload dX9_serve_119 rfl ?_
    refine WQ_iconst (3) (3) dX9_serve_121 rfl rfl (fun v13359 hv13359 => ?_)
    refine WQ_iand3 dX9_serve_122 hv13359 (by omega) (by omega) (fun v13360 hv13360 => ?_)
    refine WP_iload dX9_serve_123 rfl ?_
    refine WP_iload_n dX9_serve_125 rfl ?_
    refine WP_callV4 (k := 9) dX9_serve_126 ⟨⟨⟨by decide, by decide⟩, zX9_buy⟩, lX9_104, by decide, rfl, vX9_buy.1, vX9_buy.2⟩ (lyx_is hy 49 9 rfl) (sx_buyf hy hr hI13347 v13358 v13360 v13338 da (by omega) (by omega) (by omega) (by omega) (by omega) (by omega) (by omega) (by omega)) (Nat.le_of_ble_eq_true rfl) ?_
    intro r I13361 J13362 Ra hq
    obtain ⟨⟨hI13361, ec, fiI13361⟩, v13363, rfl, av13363, bv13363, cv13363⟩ := hq
    show WP _ _ _ _ (.int _ :: _) _ _ _ _
    rw [ec]
    clear ec Ra
    have fr13364 : fz 74 g [43, 44, 47, 48, 50, 51, 52, 53, 55] I I13361 := fz_tr fr13349 (fz_mono fiI13361 (by decide))
    have e13365 : I13361 (ad g 53) 1 = w13335 := by rw [fz_at fiI13361 53 (by decide) (by decide)]; exact e13350
    have e13366 : I13361 (ad g 50) 3 = w13356 := by rw [fz_at fiI13361 50 (by decide) (by decide)]; exact ew13356
    have e13367 : I13361 (ad g 50) 4 = w13357 := by rw [fz_at fiI13361 50 (by decide) (by decide)]; exact ew13357
    have e13368 : I13361 (ad g 50) 0 = v13358 := by rw [fz_at fiI13361 50 (by decide) (by decide)]; exact ev13358
    have e13369 : I13361 (ad g 1) 1 = L := hI13361.2
    have b13370 := BT_get hI13361.1 1 1 2 (0) (0) (900) (by decide) 1 (by decide) (by decide)
    rw [e13369] at b13370
    refine WP_istore (ls' := [(0, _), (1, _), (2, _), (3, _), (4, _), (5, _), (6, _), (7, _), (8, _), (9, _), (10, _)]) dX9_serve_129 (by decide) rfl ?_
    refine WP_iload dX9_serve_131 rfl ?_
    refine WQ_iconst (2) (2) dX9_serve_133 rfl rfl (fun v13371 hv13371 => ?_)
    refine WQ_ishr2 dX9_serve_134 hv13371 (by omega) (by omega) (fun v13372 hv13372 => ?_)
    refine WQ_iconst (3) (3) dX9_serve_135 rfl rfl (fun v13373 hv13373 => ?_)
    refine WQ_iand3 dX9_serve_136 hv13373 (by omega) (by omega) (fun v13374 hv13374 => ?_)
    refine WP_istore (ls' := [(0, _), (1, _), (2, _), (3, _), (4, _), (5, _), (6, _), (7, _), (8, _), (9, _), (10, _), (11, _)]) dX9_serve_137 (by decide) rfl ?_
    refine WP_aload_n dX9_serve_139 rfl ?_
    refine WP_aload_n dX9_serve_140 rfl ?_
    refine WP_getr dX9_serve_141 fX9_25 rfl (lyx_is hy 49 9 rfl) (rfx hr 49 2 5 (by decide)) ?_
    refine WP_getr dX9_serve_144 fX9_49 rfl (lyx_is hy 5 0 rfl) hT ?_
    refine WQ_geti dX9_serve_147 fX9_108 rfl (lyx_is hy 6 7 rfl) (BT_get hI13361.1 6 4 5 (-1) (0) (2) (by decide) 4 (by decide) (by decide)) (fun v13375 ev13375 av13375 bv13375 => ?_)
    refine WP_iload dX9_serve_150 rfl ?_
    refine WQ_iconst (4) (4) dX9_serve_152 rfl rfl (fun v13376 hv13376 => ?_)
    refine WQ_ishr4 dX9_serve_153 hv13376 (by omega) (by omega) (fun v13377 hv13377 => ?_)
    refine WP_iload dX9_serve_154 rfl ?_
    refine WP_iload_n dX9_serve_156 rfl ?_
    refine WP_callV4 (k := 9) dX9_serve_157 ⟨⟨⟨by decide, by decide⟩, zX9_buy⟩, lX9_104, by decide, rfl, vX9_buy.1, vX9_buy.2⟩ (lyx_is hy 49 9 rfl) (sx_buyf hy hr hI13361 v13375 v13377 v13338 da (by omega) (by omega) (by omega) (by omega) (by omega) (by omega) (by omega) (by omega)) (Nat.le_of_ble_eq_true rfl) ?_
    intro r I13378 J13379 Ra hq
    obtain ⟨⟨hI13378, ec, fiI13378⟩, v13380, rfl, av13380, bv13380, cv13380⟩ := hq
    show WP _ _ _ _ (.int _ :: _) _ _ _ _
    rw [ec]
    clear ec Ra
    have fr13381 : fz 74 g [43, 44, 47, 48, 50, 51, 52, 53, 55] I I13378 := fz_tr fr13364 (fz_mono fiI13378 (by decide))
    have e13382 : I13378 (ad g 53) 1 = w13335 := by rw [fz_at fiI13378 53 (by decide) (by decide)]; exact e13365
    have e13383 : I13378 (ad g 50) 3 = w13356 := by rw [fz_at fiI13378 50 (by decide) (by decide)]; exact e13366
    have e13384 : I13378 (ad g 50) 4 = w13357 := by rw [fz_at fiI13378 50 (by decide) (by decide)]; exact e13367
    have e13385 : I13378 (ad g 50) 0 = v13358 := by rw [fz_at fiI13378 50 (by decide) (by decide)]; exact e13368
    have e13386 : I13378 (ad g 6) 4 = v13375 := by rw [fz_at fiI13378 6 (by decide) (by decide)]; exact ev13375
    have e13387 : I13378 (ad g 1) 1 = L := hI13378.2
    have b13388 := BT_get hI13378.1 1 1 2 (0) (0) (900) (by decide) 1 (by decide) (by decide)
    rw [e13387] at b13388
    refine WP_istore (ls' := [(0, _), (1, _), (2, _), (3, _), (4, _), (5, _), (6, _), (7, _), (8, _), (9, _), (10, _), (11, _), (12, _)]) dX9_serve_160 (by decide) rfl ?_
    refine WP_aload_n dX9_serve_162 rfl ?_
    refine WP_getr dX9_serve_163 fX9_12 rfl (lyx_is hy 49 9 rfl) (rfx hr 49 0 50 (by decide)) ?_
    refine WP_iload dX9_serve_166 rfl ?_
    refine WP_iload dX9_serve_168 rfl ?_
    refine WP_callV2 (k := 6) dX9_serve_170 ⟨⟨⟨by decide, by decide⟩, zX6_priceOf⟩, lX9_111, by decide, rfl, vX6_priceOf.1, vX6_priceOf.2⟩ (lyx_is hy 50 6 rfl) (sx_pricex hy hr hI13378 v13363 v13380 (by omega) (by omega) (by omega) (by omega)) (Nat.le_of_ble_eq_true rfl) ?_
    intro r Ia Ja Ra hq
    obtain ⟨⟨ea, eb, ec⟩, v13389, rfl, av13389, bv13389, cv13389⟩ := hq
    show WP _ _ _ _ (.int _ :: _) _ _ _ _
    rw [ea, eb, ec]
    clear ea eb ec Ia Ja Ra
    rw [e13383] at cv13389
    rw [e13384] at cv13389
    have k1 : v13363.toInt * w13356.toInt ≤ (v13355.toInt % 4) * w13356.toInt := Int.mul_le_mul_of_nonneg_right (by omega) (by omega)
    have k2 : v13380.toInt * w13357.toInt ≤ (v13355.toInt / 16) * w13357.toInt := Int.mul_le_mul_of_nonneg_right (by omega) (by omega)
    have kp : v13389.toInt ≤ v13345.toInt := by omega
    refine WP_istore (ls' := [(0, _), (1, _), (2, _), (3, _), (4, _), (5, _), (6, _), (7, _), (8, _), (9, _), (10, _), (11, _), (12, _), (13, _)]) dX9_serve_173 (by decide) rfl ?_
    refine WP_aload_n dX9_serve_175 rfl ?_
    refine WP_dup dX9_serve_176 rfl ?_
    refine WQ_getiu dX9_serve_177 fX9_114 rfl (lyx_is hy 53 4 rfl) (fun v13390 ev13390 => ?_)
    refine WP_iload dX9_serve_180 rfl ?_
    refine WP_iload dX9_serve_182 rfl ?_
    refine WP_iload dX9_serve_184 rfl ?_
    refine WQ_iadd dX9_serve_186 (by omega) (by omega) (fun v13391 hv13391 => ?_)
    refine WQ_imulb (99) (6) dX9_serve_187 ⟨by omega, by omega⟩ ⟨by omega, by omega⟩ (by decide) (fun v13392 pv13392 av13392 bv13392 cv13392 => ?_)
    refine WQ_iaddu dX9_serve_188 (fun v13393 => ?_)
    refine WQ_puti dX9_serve_189 fX9_114 rfl rfl (lyx_is hy 53 4 rfl) (fun I13394 eI13394 => ?_)
    have hI13394 : XI g n L I13394 := by rw [eI13394]; exact (xi_f0 hy hI13378 (c := 53) (by decide) (Or.inl (by decide)) (by decide))
    have e13395 : I13394 (ad g 53) 1 = w13335 := by rw [eI13394, pp_ne _ _ (Or.inr (by decide))]; exact e13382
    have e13396 : I13394 (ad g 50) 3 = w13356 := by rw [eI13394, pp_ne _ _ (Or.inl (lyx_ne hy (by decide) (by decide) (by decide)))]; exact e13383
    have e13397 : I13394 (ad g 50) 4 = w13357 := by rw [eI13394, pp_ne _ _ (Or.inl (lyx_ne hy (by decide) (by decide) (by decide)))]; exact e13384
    have e13398 : I13394 (ad g 50) 0 = v13358 := by rw [eI13394, pp_ne _ _ (Or.inl (lyx_ne hy (by decide) (by decide) (by decide)))]; exact e13385
    have e13399 : I13394 (ad g 6) 4 = v13375 := by rw [eI13394, pp_ne _ _ (Or.inl (lyx_ne hy (by decide) (by decide) (by decide)))]; exact e13386
    have e13400 : I13394 (ad g 1) 1 = L := by rw [eI13394, pp_ne _ _ (Or.inl (lyx_ne hy (by decide) (by decide) (by decide)))]; exact e13387
    have e13401 : I13394 (ad g 53) 2 = v13393 := by rw [eI13394, pp_self]
    have fr13402 : fz 74 g [43, 44, 47, 48, 50, 51, 52, 53, 55] I I13394 := by rw [eI13394]; exact fzx_pp hy fr13381 (by decide) (by decide)
    clear eI13394
    refine WP_aload_n dX9_serve_192 rfl ?_
    refine WP_dup dX9_serve_193 rfl ?_
    refine WQ_getl dX9_serve_194 fX9_117 rfl (lyx_is hy 53 4 rfl) (fun l13403 el13403 => ?_)
    refine WP_iload dX9_serve_197 rfl ?_
    refine WP_iload dX9_serve_199 rfl ?_
    refine WP_iload dX9_serve_201 rfl ?_
    refine WQ_isub dX9_serve_203 (by omega) (by omega) (fun v13404 hv13404 => ?_)
    refine WQ_imulu dX9_serve_204 (fun v13405 => ?_)
    refine WQ_i2l dX9_serve_205 (fun l13406 hl13406 => ?_)
    refine WQ_ladd dX9_serve_206 (fun l13407 => ?_)
    refine WQ_putl dX9_serve_207 fX9_117 rfl rfl (lyx_is hy 53 4 rfl) (fun J13408 eJ13408 => ?_)
    clear eJ13408
    refine WP_aload_n dX9_serve_210 rfl ?_
    refine WP_getr dX9_serve_211 fX9_75 rfl (lyx_is hy 53 4 rfl) (rfx hr 53 5 55 (by decide)) ?_
    refine WP_iload dX9_serve_214 rfl ?_
    refine WQ_iconst (2) (2) dX9_serve_216 rfl rfl (fun v13409 hv13409 => ?_)
    refine WQ_iadd dX9_serve_217 (by omega) (by omega) (fun v13410 hv13410 => ?_)
    refine WP_dup2 dX9_serve_218 rfl rfl ?_
    refine WQ_ialdu dX9_serve_219 (lyx_is hy 55 13 rfl) (lyx_n hy 55 28 rfl) (by omega) (by omega) (fun v13411 => ?_)
    refine WP_iload dX9_serve_220 rfl ?_
    refine WP_iload dX9_serve_222 rfl ?_
    refine WQ_imulb (99) (60) dX9_serve_224 ⟨by omega, by omega⟩ ⟨by omega, by omega⟩ (by decide) (fun v13412 pv13412 av13412 bv13412 cv13412 => ?_)
    refine WQ_iaddu dX9_serve_225 (fun v13413 => ?_)
    refine WQ_iast dX9_serve_226 (lyx_is hy 55 13 rfl) (lyx_n hy 55 28 rfl) (by omega) (by omega) (fun I13414 eI13414 => ?_)
    have hI13414 : XI g n L I13414 := by rw [eI13414]; exact (fa_put hy hI13394 (c := 55) (k := 2) (s := so.toInt.toNat) (by decide) (by omega) (by decide) (by rw [cl (n := 7 * so.toInt.toNat + 2) (by omega)]) (fun h => absurd h (by decide)) (fun h => absurd h (by decide)))
    have e13415 : I13414 (ad g 53) 1 = w13335 := by rw [eI13414, pp_ne _ _ (Or.inl (lyx_ne hy (by decide) (by decide) (by decide)))]; exact e13395
    have e13416 : I13414 (ad g 50) 3 = w13356 := by rw [eI13414, pp_ne _ _ (Or.inl (lyx_ne hy (by decide) (by decide) (by decide)))]; exact e13396
    have e13417 : I13414 (ad g 50) 4 = w13357 := by rw [eI13414, pp_ne _ _ (Or.inl (lyx_ne hy (by decide) (by decide) (by decide)))]; exact e13397
    have e13418 : I13414 (ad g 50) 0 = v13358 := by rw [eI13414, pp_ne _ _ (Or.inl (lyx_ne hy (by decide) (by decide) (by decide)))]; exact e13398
    have e13419 : I13414 (ad g 6) 4 = v13375 := by rw [eI13414, pp_ne _ _ (Or.inl (lyx_ne hy (by decide) (by decide) (by decide)))]; exact e13399
    have e13420 : I13414 (ad g 1) 1 = L := by rw [eI13414, pp_ne _ _ (Or.inl (lyx_ne hy (by decide) (by decide) (by decide)))]; exact e13400
    have e13421 : I13414 (ad g 53) 2 = v13393 := by rw [eI13414, pp_ne _ _ (Or.inl (lyx_ne hy (by decide) (by decide) (by decide)))]; exact e13401
    have fr13422 : fz 74 g [43, 44, 47, 48, 50, 51, 52, 53, 55] I I13414 := by rw [eI13414]; exact fzx_pp hy fr13402 (by decide) (by decide)
    clear eI13414
    refine WP_aload_n dX9_serve_227 rfl ?_
    refine WP_getr dX9_serve_228 fX9_75 rfl (lyx_is hy 53 4 rfl) (rfx hr 53 5 55 (by decide)) ?_
    refine WP_iload dX9_serve_231 rfl ?_
    refine WQ_iconst (4) (4) dX9_serve_233 rfl rfl (fun v13423 hv13423 => ?_)
    refine WQ_iadd dX9_serve_234 (by omega) (by omega) (fun v13424 hv13424 => ?_)
    refine WP_dup2 dX9_serve_235 rfl rfl ?_
    refine WQ_ialdu dX9_serve_236 (lyx_is hy 55 13 rfl) (lyx_n hy 55 28 rfl) (by omega) (by omega) (fun v13425 => ?_)
    refine WP_iload dX9_serve_237 rfl ?_
    refine WP_aload_n dX9_serve_239 rfl ?_
    refine WP_getr dX9_serve_240 fX9_12 rfl (lyx_is hy 49 9 rfl) (rfx hr 49 0 50 (by decide)) ?_
    refine WQ_geti dX9_serve_243 fX9_121 rfl (lyx_is hy 50 6 rfl) (BT_get hI13414.1 50 2 3 (0) (0) (99) (by decide) 2 (by decide) (by decide)) (fun v13426 ev13426 av13426 bv13426 => ?_)
    refine WQ_imulb (99) (99) dX9_serve_246 ⟨by omega, by omega⟩ ⟨by omega, by omega⟩ (by decide) (fun v13427 pv13427 av13427 bv13427 cv13427 => ?_)
    refine WP_iload dX9_serve_247 rfl ?_
    refine WP_iload dX9_serve_249 rfl ?_
    refine WQ_iadd dX9_serve_251 (by omega) (by omega) (fun v13428 hv13428 => ?_)
    refine WQ_imulb (9801) (6) dX9_serve_252 ⟨by omega, by omega⟩ ⟨by omega, by omega⟩ (by decide) (fun v13429 pv13429 av13429 bv13429 cv13429 => ?_)
    refine WQ_iaddu dX9_serve_253 (fun v13430 => ?_)
    refine WQ_iast dX9_serve_254 (lyx_is hy 55 13 rfl) (lyx_n hy 55 28 rfl) (by omega) (by omega) (fun I13431 eI13431 => ?_)
    have hI13431 : XI g n L I13431 := by rw [eI13431]; exact (fa_put hy hI13414 (c := 55) (k := 4) (s := so.toInt.toNat) (by decide) (by omega) (by decide) (by rw [cl (n := 7 * so.toInt.toNat + 4) (by omega)]) (fun h => absurd h (by decide)) (fun h => absurd h (by decide)))
    have e13432 : I13431 (ad g 53) 1 = w13335 := by rw [eI13431, pp_ne _ _ (Or.inl (lyx_ne hy (by decide) (by decide) (by decide)))]; exact e13415
    have e13433 : I13431 (ad g 50) 3 = w13356 := by rw [eI13431, pp_ne _ _ (Or.inl (lyx_ne hy (by decide) (by decide) (by decide)))]; exact e13416
    have e13434 : I13431 (ad g 50) 4 = w13357 := by rw [eI13431, pp_ne _ _ (Or.inl (lyx_ne hy (by decide) (by decide) (by decide)))]; exact e13417
    have e13435 : I13431 (ad g 50) 0 = v13358 := by rw [eI13431, pp_ne _ _ (Or.inl (lyx_ne hy (by decide) (by decide) (by decide)))]; exact e13418
    have e13436 : I13431 (ad g 6) 4 = v13375 := by rw [eI13431, pp_ne _ _ (Or.inl (lyx_ne hy (by decide) (by decide) (by decide)))]; exact e13419
    have e13437 : I13431 (ad g 1) 1 = L := by rw [eI13431, pp_ne _ _ (Or.inl (lyx_ne hy (by decide) (by decide) (by decide)))]; exact e13420
    have e13438 : I13431 (ad g 53) 2 = v13393 := by rw [eI13431, pp_ne _ _ (Or.inl (lyx_ne hy (by decide) (by decide) (by decide)))]; exact e13421
    have e13439 : I13431 (ad g 50) 2 = v13426 := by rw [eI13431, pp_ne _ _ (Or.inl (lyx_ne hy (by decide) (by decide) (by decide)))]; exact ev13426
    have fr13440 : fz 74 g [43, 44, 47, 48, 50, 51, 52, 53, 55] I I13431 := by rw [eI13431]; exact fzx_pp hy fr13422 (by decide) (by decide)
    clear eI13431
    refine WP_aload_n dX9_serve_255 rfl ?_
    refine WP_aload_n dX9_serve_256 rfl ?_
    refine WP_iload_n dX9_serve_257 rfl ?_
    refine WP_iload_n dX9_serve_258 rfl ?_
    refine WP_iload dX9_serve_259 rfl ?_
    refine WP_iload dX9_serve_261 rfl ?_
    refine WQ_isub dX9_serve_263 (by omega) (by omega) (fun v13441 hv13441 => ?_)
    refine WP_iload dX9_serve_264 rfl ?_
    refine WP_iload dX9_serve_266 rfl ?_
    refine WQ_isub dX9_serve_268 (by omega) (by omega) (fun v13442 hv13442 => ?_)
    refine WP_iload dX9_serve_269 rfl ?_
    refine WQ_iadd dX9_serve_271 (by omega) (by omega) (fun v13443 hv13443 => ?_)
    refine WP_callV5 (k := 9) dX9_serve_272 ⟨⟨⟨by decide, by decide⟩, zX9_sleep⟩, lX9_124, by decide, rfl, vX9_sleep.1, vX9_sleep.2⟩ (lyx_is hy 49 9 rfl) (sx_wsleepf_53_6 hy hr hT hI13431 so da v13441 v13443 (by omega) (by omega) (by omega) (by omega) (by omega) (by omega) (by omega) (by omega) (by omega) (by rw [e13432]; omega)) (Nat.le_of_ble_eq_true rfl) ?_
    intro r I13444 J13445 Ra hq
    obtain ⟨⟨hI13444, ec, fiI13444, pI13444⟩, rfl⟩ := hq
    rw [ec]
    clear ec Ra
    have fr13446 : fz 74 g [43, 44, 47, 48, 50, 51, 52, 53, 55] I I13444 := fz_tr fr13440 (fz_mono fiI13444 (by decide))
    have e13447 : I13444 (ad g 50) 3 = w13356 := by rw [fz_at fiI13444 50 (by decide) (by decide)]; exact e13433
    have e13448 : I13444 (ad g 50) 4 = w13357 := by rw [fz_at fiI13444 50 (by decide) (by decide)]; exact e13434
    have e13449 : I13444 (ad g 50) 0 = v13358 := by rw [fz_at fiI13444 50 (by decide) (by decide)]; exact e13435
    have e13450 : I13444 (ad g 6) 4 = v13375 := by rw [fz_at fiI13444 6 (by decide) (by decide)]; exact e13436
    have e13451 : I13444 (ad g 50) 2 = v13426 := by rw [fz_at fiI13444 50 (by decide) (by decide)]; exact e13439
    have e13452 : I13444 (ad g 1) 1 = L := hI13444.2
    have b13453 := BT_get hI13444.1 1 1 2 (0) (0) (900) (by decide) 1 (by decide) (by decide)
    rw [e13452] at b13453
    obtain ⟨w13454, ew13454⟩ : ∃ w : Int32, I13444 (ad g 53) 1 = w := ⟨_, rfl⟩
    have bw13454 := BT_get hI13444.1 53 1 2 (0) (23760) (0) (by decide) 1 (by decide) (by decide)
    rw [ew13454] at bw13454
    rw [ew13454, e13432] at pI13444
    exact WP_vret dX9_serve_275 rfl ⟨⟨hI13444, ⟨hr, ⟨hT.trans hT.symm, rfl⟩, hP⟩, fr13446, (by rw [ew13454, ew13335]; omega)⟩, rfl⟩
  · refine WP_aload_n dX9_serve_78 rfl ?_
    refine WP_getr dX9_serve_79 fX9_29 rfl (lyx_is hy 49 9 rfl) (rfx hr 49 3 43 (by decide)) ?_
    refine WP_iload_n dX9_serve_82 rfl ?_
    refine WP_iload_n dX9_serve_83 rfl ?_
    refine WP_iload dX9_serve_84 rfl ?_
    refine WP_iload dX9_serve_86 rfl ?_
    refine WQ_bipush (7) (7) dX9_serve_88 rfl rfl (fun v13455 hv13455 => ?_)
    refine WP_callV5 (k := 2) dX9_serve_90 ⟨⟨⟨by decide, by decide⟩, zX2_search⟩, lX9_92, by decide, rfl, vX2_search.1, vX2_search.2⟩ (lyx_is hy 43 2 rfl) (sx_searchx_6 hy hr hP hT hI13347 so da v13345 v13341 v13455 (by omega) (by omega) (by omega) (by omega) (by omega) (by omega) (by omega) (by omega) (by omega) (by omega)) (Nat.le_of_ble_eq_true rfl) ?_
    intro r I13456 J13457 R13458 hq
    obtain ⟨⟨hI13456, ⟨hrI13456, ⟨htI13456, hsI13456⟩, hpI13456⟩, fiI13456, fjI13456⟩, v13459, rfl, av13459, bv13459, cv13459⟩ := hq
    show WP _ _ _ _ (.int _ :: _) _ _ _ _
    have ht_I13456 := htI13456.trans hT
    have hs_I13456 : R13458 (ad g 0) 10 = R (ad g 0) 10 := hsI13456.trans rfl
    have fr13460 : fz 74 g [43, 44, 47, 48, 50, 51, 52, 53, 55] I I13456 := fz_tr fr13349 (fz_mono fiI13456 (by decide))
    have e13461 : I13456 (ad g 53) 1 = w13335 := by rw [fz_at fiI13456 53 (by decide) (by decide)]; exact e13350
    have e13462 : I13456 (ad g 1) 1 = L := hI13456.2
    have b13463 := BT_get hI13456.1 1 1 2 (0) (0) (900) (by decide) 1 (by decide) (by decide)
    rw [e13462] at b13463
    refine WP_goto 109 dX9_serve_93 rfl ?_
    obtain ⟨T9, t1, t2⟩ := cv13459
    have acv13459 : AOKd (I13347 (ad g 50)) v13345.toInt v13341.toInt v13459.toInt := AOK_eq (LD_un t1 (LD_fr pI13347 (fz_at fiI13347 6 (by decide) (by decide)).symm (fz_at fiI13347 11 (by decide) (by decide)).symm (fz_at fiI13347 13 (by decide) (by decide)).symm (fz_at fiI13347 14 (by decide) (by decide)).symm (fz_at fiI13347 15 (by decide) (by decide)).symm (fz_at fiI13347 22 (by decide) (by decide)).symm)) t2
    obtain ⟨w13464, ew13464⟩ : ∃ w : Int32, I13456 (ad g 50) 3 = w := ⟨_, rfl⟩
    have bw13464 := BT_get hI13456.1 50 3 4 (0) (0) (20) (by decide) 3 (by decide) (by decide)
    rw [ew13464] at bw13464
    obtain ⟨w13465, ew13465⟩ : ∃ w : Int32, I13456 (ad g 50) 4 = w := ⟨_, rfl⟩
    have bw13465 := BT_get hI13456.1 50 4 5 (0) (0) (20) (by decide) 4 (by decide) (by decide)
    rw [ew13465] at bw13465
    have adv13459 := acv13459
    unfold AOKd at adv13459
    rw [← fz_at fiI13456 50 (by decide) (by decide)] at adv13459
    rw [ew13464, ew13465] at adv13459
    obtain ⟨rav13459, rbv13459, rcv13459, rdv13459, rev13459⟩ := adv13459
    refine WP_istore (ls' := [(0, _), (1, _), (2, _), (3, _), (4, _), (5, _), (6, _), (7, _), (8, _), (9, _)]) dX9_serve_109 (by decide) rfl ?_
    refine WP_aload_n dX9_serve_111 rfl ?_
    refine WP_aload_n dX9_serve_112 rfl ?_
    refine WP_getr dX9_serve_113 fX9_12 rfl (lyx_is hy 49 9 rfl) (rfx hrI13456 49 0 50 (by decide)) ?_
    refine WQ_geti dX9_serve_116 fX9_101 rfl (lyx_is hy 50 6 rfl) (BT_get hI13456.1 50 0 1 (-1) (0) (2) (by decide) 0 (by decide) (by decide)) (fun v13466 ev13466 av13466 bv13466 => ?_)
    refine WP_iload dX9_serve_119 rfl ?_
    refine WQ_iconst (3) (3) dX9_serve_121 rfl rfl (fun v13467 hv13467 => ?_)
    refine WQ_iand3 dX9_serve_122 hv13467 (by omega) (by omega) (fun v13468 hv13468 => ?_)
    refine WP_iload dX9_serve_123 rfl ?_
    refine WP_iload_n dX9_serve_125 rfl ?_
    refine WP_callV4 (k := 9) dX9_serve_126 ⟨⟨⟨by decide, by decide⟩, zX9_buy⟩, lX9_104, by decide, rfl, vX9_buy.1, vX9_buy.2⟩ (lyx_is hy 49 9 rfl) (sx_buyf hy hrI13456 hI13456 v13466 v13468 v13338 da (by omega) (by omega) (by omega) (by omega) (by omega) (by omega) (by omega) (by omega)) (Nat.le_of_ble_eq_true rfl) ?_
    intro r I13469 J13470 Ra hq
    obtain ⟨⟨hI13469, ec, fiI13469⟩, v13471, rfl, av13471, bv13471, cv13471⟩ := hq
    show WP _ _ _ _ (.int _ :: _) _ _ _ _
    rw [ec]
    clear ec Ra
    have fr13472 : fz 74 g [43, 44, 47, 48, 50, 51, 52, 53, 55] I I13469 := fz_tr fr13460 (fz_mono fiI13469 (by decide))
    have e13473 : I13469 (ad g 53) 1 = w13335 := by rw [fz_at fiI13469 53 (by decide) (by decide)]; exact e13461
    have e13474 : I13469 (ad g 50) 3 = w13464 := by rw [fz_at fiI13469 50 (by decide) (by decide)]; exact ew13464
    have e13475 : I13469 (ad g 50) 4 = w13465 := by rw [fz_at fiI13469 50 (by decide) (by decide)]; exact ew13465
    have e13476 : I13469 (ad g 50) 0 = v13466 := by rw [fz_at fiI13469 50 (by decide) (by decide)]; exact ev13466
    have e13477 : I13469 (ad g 1) 1 = L := hI13469.2
    have b13478 := BT_get hI13469.1 1 1 2 (0) (0) (900) (by decide) 1 (by decide) (by decide)
    rw [e13477] at b13478
    refine WP_istore (ls' := [(0, _), (1, _), (2, _), (3, _), (4, _), (5, _), (6, _), (7, _), (8, _), (9, _), (10, _)]) dX9_serve_129 (by decide) rfl ?_
    refine WP_iload dX9_serve_131 rfl ?_
    refine WQ_iconst (2) (2) dX9_serve_133 rfl rfl (fun v13479 hv13479 => ?_)
    refine WQ_ishr2 dX9_serve_134 hv13479 (by omega) (by omega) (fun v13480 hv13480 => ?_)
    refine WQ_iconst (3) (3) dX9_serve_135 rfl rfl (fun v13481 hv13481 => ?_)
    refine WQ_iand3 dX9_serve_136 hv13481 (by omega) (by omega) (fun v13482 hv13482 => ?_)
    refine WP_istore (ls' := [(0, _), (1, _), (2, _), (3, _), (4, _), (5, _), (6, _), (7, _), (8, _), (9, _), (10, _), (11, _)]) dX9_serve_137 (by decide) rfl ?_
    refine WP_aload_n dX9_serve_139 rfl ?_
    refine WP_aload_n dX9_serve_140 rfl ?_
    refine WP_getr dX9_serve_141 fX9_25 rfl (lyx_is hy 49 9 rfl) (rfx hrI13456 49 2 5 (by decide)) ?_
    refine WP_getr dX9_serve_144 fX9_49 rfl (lyx_is hy 5 0 rfl) ht_I13456 ?_
    refine WQ_geti dX9_serve_147 fX9_108 rfl (lyx_is hy 6 7 rfl) (BT_get hI13469.1 6 4 5 (-1) (0) (2) (by decide) 4 (by decide) (by decide)) (fun v13483 ev13483 av13483 bv13483 => ?_)
    refine WP_iload dX9_serve_150 rfl ?_
    refine WQ_iconst (4) (4) dX9_serve_152 rfl rfl (fun v13484 hv13484 => ?_)
    refine WQ_ishr4 dX9_serve_153 hv13484 (by omega) (by omega) (fun v13485 hv13485 => ?_)
    refine WP_iload dX9_serve_154 rfl ?_
    refine WP_iload_n dX9_serve_156 rfl ?_
    refine WP_callV4 (k := 9) dX9_serve_157 ⟨⟨⟨by decide, by decide⟩, zX9_buy⟩, lX9_104, by decide, rfl, vX9_buy.1, vX9_buy.2⟩ (lyx_is hy 49 9 rfl) (sx_buyf hy hrI13456 hI13469 v13483 v13485 v13338 da (by omega) (by omega) (by omega) (by omega) (by omega) (by omega) (by omega) (by omega)) (Nat.le_of_ble_eq_true rfl) ?_
    intro r I13486 J13487 Ra hq
    obtain ⟨⟨hI13486, ec, fiI13486⟩, v13488, rfl, av13488, bv13488, cv13488⟩ := hq
    show WP _ _ _ _ (.int _ :: _) _ _ _ _
    rw [ec]
    clear ec Ra
    have fr13489 : fz 74 g [43, 44, 47, 48, 50, 51, 52, 53, 55] I I13486 := fz_tr fr13472 (fz_mono fiI13486 (by decide))
    have e13490 : I13486 (ad g 53) 1 = w13335 := by rw [fz_at fiI13486 53 (by decide) (by decide)]; exact e13473
    have e13491 : I13486 (ad g 50) 3 = w13464 := by rw [fz_at fiI13486 50 (by decide) (by decide)]; exact e13474
    have e13492 : I13486 (ad g 50) 4 = w13465 := by rw [fz_at fiI13486 50 (by decide) (by decide)]; exact e13475
    have e13493 : I13486 (ad g 50) 0 = v13466 := by rw [fz_at fiI13486 50 (by decide) (by decide)]; exact e13476
    have e13494 : I13486 (ad g 6) 4 = v13483 := by rw [fz_at fiI13486 6 (by decide) (by decide)]; exact ev13483
    have e13495 : I13486 (ad g 1) 1 = L := hI13486.2
    have b13496 := BT_get hI13486.1 1 1 2 (0) (0) (900) (by decide) 1 (by decide) (by decide)
    rw [e13495] at b13496
    refine WP_istore (ls' := [(0, _), (1, _), (2, _), (3, _), (4, _), (5, _), (6, _), (7, _), (8, _), (9, _), (10, _), (11, _), (12, _)]) dX9_serve_160 (by decide) rfl ?_
    refine WP_aload_n dX9_serve_162 rfl ?_
    refine WP_getr dX9_serve_163 fX9_12 rfl (lyx_is hy 49 9 rfl) (rfx hrI13456 49 0 50 (by decide)) ?_
    refine WP_iload dX9_serve_166 rfl ?_
    refine WP_iload dX9_serve_168 rfl ?_
    refine WP_callV2 (k := 6) dX9_serve_170 ⟨⟨⟨by decide, by decide⟩, zX6_priceOf⟩, lX9_111, by decide, rfl, vX6_priceOf.1, vX6_priceOf.2⟩ (lyx_is hy 50 6 rfl) (sx_pricex hy hrI13456 hI13486 v13471 v13488 (by omega) (by omega) (by omega) (by omega)) (Nat.le_of_ble_eq_true rfl) ?_
    intro r Ia Ja Ra hq
    obtain ⟨⟨ea, eb, ec⟩, v13497, rfl, av13497, bv13497, cv13497⟩ := hq
    show WP _ _ _ _ (.int _ :: _) _ _ _ _
    rw [ea, eb, ec]
    clear ea eb ec Ia Ja Ra
    rw [e13491] at cv13497
    rw [e13492] at cv13497
    have k1 : v13471.toInt * w13464.toInt ≤ (v13459.toInt % 4) * w13464.toInt := Int.mul_le_mul_of_nonneg_right (by omega) (by omega)
    have k2 : v13488.toInt * w13465.toInt ≤ (v13459.toInt / 16) * w13465.toInt := Int.mul_le_mul_of_nonneg_right (by omega) (by omega)
    have kp : v13497.toInt ≤ v13345.toInt := by omega
    refine WP_istore (ls' := [(0, _), (1, _), (2, _), (3, _), (4, _), (5, _), (6, _), (7, _), (8, _), (9, _), (10, _), (11, _), (12, _), (13, _)]) dX9_serve_173 (by decide) rfl ?_
    refine WP_aload_n dX9_serve_175 rfl ?_
    refine WP_dup dX9_serve_176 rfl ?_
    refine WQ_getiu dX9_serve_177 fX9_114 rfl (lyx_is hy 53 4 rfl) (fun v13498 ev13498 => ?_)
    refine WP_iload dX9_serve_180 rfl ?_
    refine WP_iload dX9_serve_182 rfl ?_
    refine WP_iload dX9_serve_184 rfl ?_
    refine WQ_iadd dX9_serve_186 (by omega) (by omega) (fun v13499 hv13499 => ?_)
    refine WQ_imulb (99) (6) dX9_serve_187 ⟨by omega, by omega⟩ ⟨by omega, by omega⟩ (by decide) (fun v13500 pv13500 av13500 bv13500 cv13500 => ?_)
    refine WQ_iaddu dX9_serve_188 (fun v13501 => ?_)
    refine WQ_puti dX9_serve_189 fX9_114 rfl rfl (lyx_is hy 53 4 rfl) (fun I13502 eI13502 => ?_)
    have hI13502 : XI g n L I13502 := by rw [eI13502]; exact (xi_f0 hy hI13486 (c := 53) (by decide) (Or.inl (by decide)) (by decide))
    have e13503 : I13502 (ad g 53) 1 = w13335 := by rw [eI13502, pp_ne _ _ (Or.inr (by decide))]; exact e13490
    have e13504 : I13502 (ad g 50) 3 = w13464 := by rw [eI13502, pp_ne _ _ (Or.inl (lyx_ne hy (by decide) (by decide) (by decide)))]; exact e13491
    have e13505 : I13502 (ad g 50) 4 = w13465 := by rw [eI13502, pp_ne _ _ (Or.inl (lyx_ne hy (by decide) (by decide) (by decide)))]; exact e13492
    have e13506 : I13502 (ad g 50) 0 = v13466 := by rw [eI13502, pp_ne _ _ (Or.inl (lyx_ne hy (by decide) (by decide) (by decide)))]; exact e13493
    have e13507 : I13502 (ad g 6) 4 = v13483 := by rw [eI13502, pp_ne _ _ (Or.inl (lyx_ne hy (by decide) (by decide) (by decide)))]; exact e13494
    have e13508 : I13502 (ad g 1) 1 = L := by rw [eI13502, pp_ne _ _ (Or.inl (lyx_ne hy (by decide) (by decide) (by decide)))]; exact e13495
    have e13509 : I13502 (ad g 53) 2 = v13501 := by rw [eI13502, pp_self]
    have fr13510 : fz 74 g [43, 44, 47, 48, 50, 51, 52, 53, 55] I I13502 := by rw [eI13502]; exact fzx_pp hy fr13489 (by decide) (by decide)
    clear eI13502
    refine WP_aload_n dX9_serve_192 rfl ?_
    refine WP_dup dX9_serve_193 rfl ?_
    refine WQ_getl dX9_serve_194 fX9_117 rfl (lyx_is hy 53 4 rfl) (fun l13511 el13511 => ?_)
    refine WP_iload dX9_serve_197 rfl ?_
    refine WP_iload dX9_serve_199 rfl ?_
    refine WP_iload dX9_serve_201 rfl ?_
    refine WQ_isub dX9_serve_203 (by omega) (by omega) (fun v13512 hv13512 => ?_)
    refine WQ_imulu dX9_serve_204 (fun v13513 => ?_)
    refine WQ_i2l dX9_serve_205 (fun l13514 hl13514 => ?_)
    refine WQ_ladd dX9_serve_206 (fun l13515 => ?_)
    refine WQ_putl dX9_serve_207 fX9_117 rfl rfl (lyx_is hy 53 4 rfl) (fun J13516 eJ13516 => ?_)
    clear eJ13516
    refine WP_aload_n dX9_serve_210 rfl ?_
    refine WP_getr dX9_serve_211 fX9_75 rfl (lyx_is hy 53 4 rfl) (rfx hrI13456 53 5 55 (by decide)) ?_
    refine WP_iload dX9_serve_214 rfl ?_
    refine WQ_iconst (2) (2) dX9_serve_216 rfl rfl (fun v13517 hv13517 => ?_)
    refine WQ_iadd dX9_serve_217 (by omega) (by omega) (fun v13518 hv13518 => ?_)
    refine WP_dup2 dX9_serve_218 rfl rfl ?_
    refine WQ_ialdu dX9_serve_219 (lyx_is hy 55 13 rfl) (lyx_n hy 55 28 rfl) (by omega) (by omega) (fun v13519 => ?_)
    refine WP_iload dX9_serve_220 rfl ?_
    refine WP_iload dX9_serve_222 rfl ?_
    refine WQ_imulb (99) (60) dX9_serve_224 ⟨by omega, by omega⟩ ⟨by omega, by omega⟩ (by decide) (fun v13520 pv13520 av13520 bv13520 cv13520 => ?_)
    refine WQ_iaddu dX9_serve_225 (fun v13521 => ?_)
    refine WQ_iast dX9_serve_226 (lyx_is hy 55 13 rfl) (lyx_n hy 55 28 rfl) (by omega) (by omega) (fun I13522 eI13522 => ?_)
    have hI13522 : XI g n L I13522 := by rw [eI13522]; exact (fa_put hy hI13502 (c := 55) (k := 2) (s := so.toInt.toNat) (by decide) (by omega) (by decide) (by rw [cl (n := 7 * so.toInt.toNat + 2) (by omega)]) (fun h => absurd h (by decide)) (fun h => absurd h (by decide)))
    have e13523 : I13522 (ad g 53) 1 = w13335 := by rw [eI13522, pp_ne _ _ (Or.inl (lyx_ne hy (by decide) (by decide) (by decide)))]; exact e13503
    have e13524 : I13522 (ad g 50) 3 = w13464 := by rw [eI13522, pp_ne _ _ (Or.inl (lyx_ne hy (by decide) (by decide) (by decide)))]; exact e13504
    have e13525 : I13522 (ad g 50) 4 = w13465 := by rw [eI13522, pp_ne _ _ (Or.inl (lyx_ne hy (by decide) (by decide) (by decide)))]; exact e13505
    have e13526 : I13522 (ad g 50) 0 = v13466 := by rw [eI13522, pp_ne _ _ (Or.inl (lyx_ne hy (by decide) (by decide) (by decide)))]; exact e13506
    have e13527 : I13522 (ad g 6) 4 = v13483 := by rw [eI13522, pp_ne _ _ (Or.inl (lyx_ne hy (by decide) (by decide) (by decide)))]; exact e13507
    have e13528 : I13522 (ad g 1) 1 = L := by rw [eI13522, pp_ne _ _ (Or.inl (lyx_ne hy (by decide) (by decide) (by decide)))]; exact e13508
    have e13529 : I13522 (ad g 53) 2 = v13501 := by rw [eI13522, pp_ne _ _ (Or.inl (lyx_ne hy (by decide) (by decide) (by decide)))]; exact e13509
    have fr13530 : fz 74 g [43, 44, 47, 48, 50, 51, 52, 53, 55] I I13522 := by rw [eI13522]; exact fzx_pp hy fr13510 (by decide) (by decide)
    clear eI13522
    refine WP_aload_n dX9_serve_227 rfl ?_
    refine WP_getr dX9_serve_228 fX9_75 rfl (lyx_is hy 53 4 rfl) (rfx hrI13456 53 5 55 (by decide)) ?_
    refine WP_iload dX9_serve_231 rfl ?_
    refine WQ_iconst (4) (4) dX9_serve_233 rfl rfl (fun v13531 hv13531 => ?_)
    refine WQ_iadd dX9_serve_234 (by omega) (by omega) (fun v13532 hv13532 => ?_)
    refine WP_dup2 dX9_serve_235 rfl rfl ?_
    refine WQ_ialdu dX9_serve_236 (lyx_is hy 55 13 rfl) (lyx_n hy 55 28 rfl) (by omega) (by omega) (fun v13533 => ?_)
    refine WP_iload dX9_serve_237 rfl ?_
    refine WP_aload_n dX9_serve_239 rfl ?_
    refine WP_getr dX9_serve_240 fX9_12 rfl (lyx_is hy 49 9 rfl) (rfx hrI13456 49 0 50 (by decide)) ?_
    refine WQ_geti dX9_serve_243 fX9_121 rfl (lyx_is hy 50 6 rfl) (BT_get hI13522.1 50 2 3 (0) (0) (99) (by decide) 2 (by decide) (by decide)) (fun v13534 ev13534 av13534 bv13534 => ?_)
    refine WQ_imulb (99) (99) dX9_serve_246 ⟨by omega, by omega⟩ ⟨by omega, by omega⟩ (by decide) (fun v13535 pv13535 av13535 bv13535 cv13535 => ?_)
    refine WP_iload dX9_serve_247 rfl ?_
    refine WP_iload dX9_serve_249 rfl ?_
    refine WQ_iadd dX9_serve_251 (by omega) (by omega) (fun v13536 hv13536 => ?_)
    refine WQ_imulb (9801) (6) dX9_serve_252 ⟨by omega, by omega⟩ ⟨by omega, by omega⟩ (by decide) (fun v13537 pv13537 av13537 bv13537 cv13537 => ?_)
    refine WQ_iaddu dX9_serve_253 (fun v13538 => ?_)
    refine WQ_iast dX9_serve_254 (lyx_is hy 55 13 rfl) (lyx_n hy 55 28 rfl) (by omega) (by omega) (fun I13539 eI13539 => ?_)
    have hI13539 : XI g n L I13539 := by rw [eI13539]; exact (fa_put hy hI13522 (c := 55) (k := 4) (s := so.toInt.toNat) (by decide) (by omega) (by decide) (by rw [cl (n := 7 * so.toInt.toNat + 4) (by omega)]) (fun h => absurd h (by decide)) (fun h => absurd h (by decide)))
    have e13540 : I13539 (ad g 53) 1 = w13335 := by rw [eI13539, pp_ne _ _ (Or.inl (lyx_ne hy (by decide) (by decide) (by decide)))]; exact e13523
    have e13541 : I13539 (ad g 50) 3 = w13464 := by rw [eI13539, pp_ne _ _ (Or.inl (lyx_ne hy (by decide) (by decide) (by decide)))]; exact e13524
    have e13542 : I13539 (ad g 50) 4 = w13465 := by rw [eI13539, pp_ne _ _ (Or.inl (lyx_ne hy (by decide) (by decide) (by decide)))]; exact e13525
    have e13543 : I13539 (ad g 50) 0 = v13466 := by rw [eI13539, pp_ne _ _ (Or.inl (lyx_ne hy (by decide) (by decide) (by decide)))]; exact e13526
    have e13544 : I13539 (ad g 6) 4 = v13483 := by rw [eI13539, pp_ne _ _ (Or.inl (lyx_ne hy (by decide) (by decide) (by decide)))]; exact e13527
    have e13545 : I13539 (ad g 1) 1 = L := by rw [eI13539, pp_ne _ _ (Or.inl (lyx_ne hy (by decide) (by decide) (by decide)))]; exact e13528
    have e13546 : I13539 (ad g 53) 2 = v13501 := by rw [eI13539, pp_ne _ _ (Or.inl (lyx_ne hy (by decide) (by decide) (by decide)))]; exact e13529
    have e13547 : I13539 (ad g 50) 2 = v13534 := by rw [eI13539, pp_ne _ _ (Or.inl (lyx_ne hy (by decide) (by decide) (by decide)))]; exact ev13534
    have fr13548 : fz 74 g [43, 44, 47, 48, 50, 51, 52, 53, 55] I I13539 := by rw [eI13539]; exact fzx_pp hy fr13530 (by decide) (by decide)
    clear eI13539
    refine WP_aload_n dX9_serve_255 rfl ?_
    refine WP_aload_n dX9_serve_256 rfl ?_
    refine WP_iload_n dX9_serve_257 rfl ?_
    refine WP_iload_n dX9_serve_258 rfl ?_
    refine WP_iload dX9_serve_259 rfl ?_
    refine WP_iload dX9_serve_261 rfl ?_
    refine WQ_isub dX9_serve_263 (by omega) (by omega) (fun v13549 hv13549 => ?_)
    refine WP_iload dX9_serve_264 rfl ?_
    refine WP_iload dX9_serve_266 rfl ?_
    refine WQ_isub dX9_serve_268 (by omega) (by omega) (fun v13550 hv13550 => ?_)
    refine WP_iload dX9_serve_269 rfl ?_
    refine WQ_iadd dX9_serve_271 (by omega) (by omega) (fun v13551 hv13551 => ?_)
    refine WP_callV5 (k := 9) dX9_serve_272 ⟨⟨⟨by decide, by decide⟩, zX9_sleep⟩, lX9_124, by decide, rfl, vX9_sleep.1, vX9_sleep.2⟩ (lyx_is hy 49 9 rfl) (sx_wsleepf_53_6 hy hrI13456 ht_I13456 hI13539 so da v13549 v13551 (by omega) (by omega) (by omega) (by omega) (by omega) (by omega) (by omega) (by omega) (by omega) (by rw [e13540]; omega)) (Nat.le_of_ble_eq_true rfl) ?_
    intro r I13552 J13553 Ra hq
    obtain ⟨⟨hI13552, ec, fiI13552, pI13552⟩, rfl⟩ := hq
    rw [ec]
    clear ec Ra
    have fr13554 : fz 74 g [43, 44, 47, 48, 50, 51, 52, 53, 55] I I13552 := fz_tr fr13548 (fz_mono fiI13552 (by decide))
    have e13555 : I13552 (ad g 50) 3 = w13464 := by rw [fz_at fiI13552 50 (by decide) (by decide)]; exact e13541
    have e13556 : I13552 (ad g 50) 4 = w13465 := by rw [fz_at fiI13552 50 (by decide) (by decide)]; exact e13542
    have e13557 : I13552 (ad g 50) 0 = v13466 := by rw [fz_at fiI13552 50 (by decide) (by decide)]; exact e13543
    have e13558 : I13552 (ad g 6) 4 = v13483 := by rw [fz_at fiI13552 6 (by decide) (by decide)]; exact e13544
    have e13559 : I13552 (ad g 50) 2 = v13534 := by rw [fz_at fiI13552 50 (by decide) (by decide)]; exact e13547
    have e13560 : I13552 (ad g 1) 1 = L := hI13552.2
    have b13561 := BT_get hI13552.1 1 1 2 (0) (0) (900) (by decide) 1 (by decide) (by decide)
    rw [e13560] at b13561
    obtain ⟨w13562, ew13562⟩ : ∃ w : Int32, I13552 (ad g 53) 1 = w := ⟨_, rfl⟩
    have bw13562 := BT_get hI13552.1 53 1 2 (0) (23760) (0) (by decide) 1 (by decide) (by decide)
    rw [ew13562] at bw13562
    rw [ew13562, e13540] at pI13552
    exact WP_vret dX9_serve_275 rfl ⟨⟨hI13552, ⟨hrI13456, ⟨ht_I13456.trans hT.symm, hs_I13456⟩, hpI13456⟩, fr13554, (by rw [ew13562, ew13335]; omega)⟩, rfl⟩
set_option maxHeartbeats 4000000 in
set_option maxRecDepth 100000 in
theorem sx_serve_53_27 {g : GG} {n : Int} {L : Int32} (hy : LyX g)  {I : pI} {J : pJ} {R : pR} (hr : RfX g R) (hP : NL g R) (hT : R (ad g 5) 0 = some (ad g 27)) (hI : XI g n L I) (so : Int32) (da : Int32) (so_lo : 0 ≤ so.toInt) (so_hi : so.toInt ≤ 3) (da_lo : 0 ≤ da.toInt) (da_hi : da.toInt ≤ 6) (hn : 0 ≤ n ∧ n ≤ 40000) (hb : (I (ad g 53) 1).toInt ≤ 23760 * n + 0 - 5940) : SP g mX9_serve [.ref (ad g 49), .ref (ad g 53), .int so, .int da] I J R (fun r I' J' R' => (XI g n L I' ∧ (RfX g R' ∧ (R' (ad g 5) 0 = R (ad g 5) 0 ∧ R' (ad g 0) 10 = R (ad g 0) 10) ∧ NL g R') ∧ fz 74 g [43, 44, 47, 48, 50, 51, 52, 53, 55] I I' ∧ (I' (ad g 53) 1).toInt ≤ (I (ad g 53) 1).toInt + 5940) ∧ r = none) := by
  refine SP_of ⟨by decide, rfl⟩ (Nat.le_of_ble_eq_true rfl) ?_
  have e13563 : I (ad g 1) 1 = L := hI.2
  have b13564 := BT_get hI.1 1 1 2 (0) (0) (900) (by decide) 1 (by decide) (by decide)
  rw [e13563] at b13564
  have fr0 : fz 74 g [43, 44, 47, 48, 50, 51, 52, 53, 55] I I := fz_rf
  obtain ⟨w13565, ew13565⟩ : ∃ w : Int32, I (ad g 53) 1 = w := ⟨_, rfl⟩
  have bw13565 := BT_get hI.1 53 1 2 (0) (23760) (0) (by decide) 1 (by decide) (by decide)
  rw [ew13565] at bw13565
  rw [ew13565] at hb
  refine WP_iload_n dX9_serve_0 rfl ?_
  refine WQ_bipush (7) (7) dX9_serve_1 rfl rfl (fun v13566 hv13566 => ?_)
  refine WQ_imulk (7) dX9_serve_3 hv13566 (by omega) (by omega) (fun v13567 hv13567 => ?_)
  refine WP_istore (ls' := [(0, _), (1, _), (2, _), (3, _), (4, _)]) dX9_serve_4 (by decide) rfl ?_
  refine WP_aload_n dX9_serve_6 rfl ?_
  refine WP_getr dX9_serve_7 fX9_25 rfl (lyx_is hy 49 9 rfl) (rfx hr 49 2 5 (by decide)) ?_
  refine WP_getr dX9_serve_10 fX9_49 rfl (lyx_is hy 5 0 rfl) hT ?_
  refine WP_getr dX9_serve_13 fX9_71 rfl (lyx_is hy 27 7 rfl) (rfx hr 27 6 29 (by decide)) ?_
  refine WP_iload_n dX9_serve_16 rfl ?_
  refine WQ_iald dX9_serve_17 (lyx_is hy 29 13 rfl) (lyx_n hy 29 4 rfl) (by omega) (by omega) (fun q hq => BT_get hI.1 29 0 4 (0) (0) (99) (by decide) q (Nat.zero_le _) hq) (fun v13568 av13568 bv13568 ev13568 => ?_)
  clear ev13568
  refine WP_istore (ls' := [(0, _), (1, _), (2, _), (3, _), (4, _), (5, _)]) dX9_serve_18 (by decide) rfl ?_
  refine WP_aload_n dX9_serve_20 rfl ?_
  refine WP_getr dX9_serve_21 fX9_75 rfl (lyx_is hy 53 4 rfl) (rfx hr 53 5 55 (by decide)) ?_
  refine WP_iload dX9_serve_24 rfl ?_
  refine WQ_iconst (1) (1) dX9_serve_26 rfl rfl (fun v13569 hv13569 => ?_)
  refine WQ_iadd dX9_serve_27 (by omega) (by omega) (fun v13570 hv13570 => ?_)
  refine WQ_ialdf (q := 7 * so.toInt.toNat + 1) dX9_serve_28 (lyx_is hy 55 13 rfl) (lyx_n hy 55 28 rfl) (by omega) (by omega) (by omega) (fa_get1 hI (c := 55) (by decide) (by omega)) (fun v13571 av13571 bv13571 => ?_)
  refine WP_istore (ls' := [(0, _), (1, _), (2, _), (3, _), (4, _), (5, _), (6, _)]) dX9_serve_29 (by decide) rfl ?_
  refine WP_aload_n dX9_serve_31 rfl ?_
  refine WP_getr dX9_serve_32 fX9_25 rfl (lyx_is hy 49 9 rfl) (rfx hr 49 2 5 (by decide)) ?_
  refine WP_iload_n dX9_serve_35 rfl ?_
  refine WP_iload_n dX9_serve_36 rfl ?_
  refine WP_aload_n dX9_serve_37 rfl ?_
  refine WP_getr dX9_serve_38 fX9_75 rfl (lyx_is hy 53 4 rfl) (rfx hr 53 5 55 (by decide)) ?_
  refine WP_iload dX9_serve_41 rfl ?_
  refine WQ_iconst (0) (0) dX9_serve_43 rfl rfl (fun v13572 hv13572 => ?_)
  refine WQ_iadd dX9_serve_44 (by omega) (by omega) (fun v13573 hv13573 => ?_)
  refine WQ_ialdf (q := 7 * so.toInt.toNat) dX9_serve_45 (lyx_is hy 55 13 rfl) (lyx_n hy 55 28 rfl) (by omega) (by omega) (by omega) (fa_get0 hI (c := 55) (by decide) (by omega)) (fun v13574 av13574 bv13574 => ?_)
  refine WP_callV3 (k := 0) dX9_serve_46 ⟨⟨⟨by decide, by decide⟩, zX0_earned⟩, lX9_81, by decide, rfl, vX0_earned.1, vX0_earned.2⟩ (lyx_is hy 5 0 rfl) (sx_earned_27 hy hr hT hI so da v13574 (by omega) (by omega) (by omega) (by omega) (by omega) (by omega)) (Nat.le_of_ble_eq_true rfl) ?_
  intro r Ia Ja Ra hq
  obtain ⟨⟨ea, eb, ec⟩, v13575, rfl, av13575, bv13575, cv13575⟩ := hq
  show WP _ _ _ _ (.int _ :: _) _ _ _ _
  rw [ea, eb, ec]
  clear ea eb ec Ia Ja Ra
  refine WP_istore (ls' := [(0, _), (1, _), (2, _), (3, _), (4, _), (5, _), (6, _), (7, _)]) dX9_serve_49 (by decide) rfl ?_
  refine WP_aload_n dX9_serve_51 rfl ?_
  refine WP_getr dX9_serve_52 fX9_85 rfl (lyx_is hy 53 4 rfl) (rfx hr 53 4 54 (by decide)) ?_
  refine WP_iload_n dX9_serve_55 rfl ?_
  refine WQ_ialdu dX9_serve_56 (lyx_is hy 54 13 rfl) (lyx_n hy 54 4 rfl) (by omega) (by omega) (fun v13576 => ?_)
  refine WP_istore (ls' := [(0, _), (1, _), (2, _), (3, _), (4, _), (5, _), (6, _), (7, _), (8, _)]) dX9_serve_57 (by decide) rfl ?_
  refine WP_aload_n dX9_serve_59 rfl ?_
  refine WP_getr dX9_serve_60 fX9_12 rfl (lyx_is hy 49 9 rfl) (rfx hr 49 0 50 (by decide)) ?_
  refine WP_aload_n dX9_serve_63 rfl ?_
  refine WP_getr dX9_serve_64 fX9_25 rfl (lyx_is hy 49 9 rfl) (rfx hr 49 2 5 (by decide)) ?_
  refine WP_iload_n dX9_serve_67 rfl ?_
  refine WP_iload_n dX9_serve_68 rfl ?_
  refine WP_callV3 (k := 6) dX9_serve_69 ⟨⟨⟨by decide, by decide⟩, zX6_load⟩, lX9_88, by decide, rfl, vX6_load.1, vX6_load.2⟩ (lyx_is hy 50 6 rfl) (sx_loadx_50_27 hy hr hT hI so da (by omega) (by omega) (by omega) (by omega)) (Nat.le_of_ble_eq_true rfl) ?_
  intro r I13577 J13578 Ra hq
  obtain ⟨⟨hI13577, ec, fiI13577, ejI13577, pI13577⟩, rfl⟩ := hq
  rw [ec]
  clear ec Ra
  have fr13579 : fz 74 g [43, 44, 47, 48, 50, 51, 52, 53, 55] I I13577 := fz_tr fr0 (fz_mono fiI13577 (by decide))
  rw [ejI13577]
  clear ejI13577 J13578
  have e13580 : I13577 (ad g 53) 1 = w13565 := by rw [fz_at fiI13577 53 (by decide) (by decide)]; exact ew13565
  have e13581 : I13577 (ad g 1) 1 = L := hI13577.2
  have b13582 := BT_get hI13577.1 1 1 2 (0) (0) (900) (by decide) 1 (by decide) (by decide)
  rw [e13581] at b13582
  refine WP_iload dX9_serve_72 rfl ?_
  refine WQ_iconst (3) (3) dX9_serve_74 rfl rfl (fun v13583 hv13583 => ?_)
  refine WQ_icmp_ne 96 dX9_serve_75 rfl (fun c13583 => ?_) (fun c13583 => ?_)
  · refine WP_aload_n dX9_serve_96 rfl ?_
    refine WP_getr dX9_serve_97 fX9_12 rfl (lyx_is hy 49 9 rfl) (rfx hr 49 0 50 (by decide)) ?_
    refine WP_iload dX9_serve_100 rfl ?_
    refine WP_iload dX9_serve_102 rfl ?_
    refine WP_iload dX9_serve_104 rfl ?_
    refine WP_callV3 (k := 6) dX9_serve_106 ⟨⟨⟨by decide, by decide⟩, zX6_habit⟩, lX9_98, by decide, rfl, vX6_habit.1, vX6_habit.2⟩ (lyx_is hy 50 6 rfl) (sx_habita hy hr hI13577 v13576 v13575 v13571  (by omega) (by omega) (by omega) (by omega)) (Nat.le_of_ble_eq_true rfl) ?_
    intro r Ia Ja Ra hq
    obtain ⟨⟨ea, eb, ec⟩, v13585, rfl, av13585, bv13585, cv13585⟩ := hq
    show WP _ _ _ _ (.int _ :: _) _ _ _ _
    rw [ea, eb, ec]
    clear ea eb ec Ia Ja Ra
    have acv13585 : AOKd (I13577 (ad g 50)) v13575.toInt v13571.toInt v13585.toInt := by unfold AOKd; exact ⟨by omega, by omega, cv13585.1, cv13585.2.1, cv13585.2.2⟩
    obtain ⟨w13586, ew13586⟩ : ∃ w : Int32, I13577 (ad g 50) 3 = w := ⟨_, rfl⟩
    have bw13586 := BT_get hI13577.1 50 3 4 (0) (0) (20) (by decide) 3 (by decide) (by decide)
    rw [ew13586] at bw13586
    obtain ⟨w13587, ew13587⟩ : ∃ w : Int32, I13577 (ad g 50) 4 = w := ⟨_, rfl⟩
    have bw13587 := BT_get hI13577.1 50 4 5 (0) (0) (20) (by decide) 4 (by decide) (by decide)
    rw [ew13587] at bw13587
    have adv13585 := acv13585
    unfold AOKd at adv13585
    rw [ew13586, ew13587] at adv13585
    obtain ⟨rav13585, rbv13585, rcv13585, rdv13585, rev13585⟩ := adv13585
    refine WP_istore (ls' := [(0, _), (1, _), (2, _), (3, _), (4, _), (5, _), (6, _), (7, _), (8, _), (9, _)]) dX9_serve_109 (by decide) rfl ?_
    refine WP_aload_n dX9_serve_111 rfl ?_
    refine WP_aload_n dX9_serve_112 rfl ?_
    refine WP_getr dX9_serve_113 fX9_12 rfl (lyx_is hy 49 9 rfl) (rfx hr 49 0 50 (by decide)) ?_
    refine WQ_geti dX9_serve_116 fX9_101 rfl (lyx_is hy 50 6 rfl) (BT_get hI13577.1 50 0 1 (-1) (0) (2) (by decide) 0 (by decide) (by decide)) (fun v13588 ev13588 av13588 bv13588 => ?_)
    refine WP_iload dX9_serve_119 rfl ?_
    refine WQ_iconst (3) (3) dX9_serve_121 rfl rfl (fun v13589 hv13589 => ?_)
    refine WQ_iand3 dX9_serve_122 hv13589 (by omega) (by omega) (fun v13590 hv13590 => ?_)
    refine WP_iload dX9_serve_123 rfl ?_
    refine WP_iload_n dX9_serve_125 rfl ?_
    refine WP_callV4 (k := 9) dX9_serve_126 ⟨⟨⟨by decide, by decide⟩, zX9_buy⟩, lX9_104, by decide, rfl, vX9_buy.1, vX9_buy.2⟩ (lyx_is hy 49 9 rfl) (sx_buyf hy hr hI13577 v13588 v13590 v13568 da (by omega) (by omega) (by omega) (by omega) (by omega) (by omega) (by omega) (by omega)) (Nat.le_of_ble_eq_true rfl) ?_
    intro r I13591 J13592 Ra hq
    obtain ⟨⟨hI13591, ec, fiI13591⟩, v13593, rfl, av13593, bv13593, cv13593⟩ := hq
    show WP _ _ _ _ (.int _ :: _) _ _ _ _
    rw [ec]
    clear ec Ra
    have fr13594 : fz 74 g [43, 44, 47, 48, 50, 51, 52, 53, 55] I I13591 := fz_tr fr13579 (fz_mono fiI13591 (by decide))
    have e13595 : I13591 (ad g 53) 1 = w13565 := by rw [fz_at fiI13591 53 (by decide) (by decide)]; exact e13580
    have e13596 : I13591 (ad g 50) 3 = w13586 := by rw [fz_at fiI13591 50 (by decide) (by decide)]; exact ew13586
    have e13597 : I13591 (ad g 50) 4 = w13587 := by rw [fz_at fiI13591 50 (by decide) (by decide)]; exact ew13587
    have e13598 : I13591 (ad g 50) 0 = v13588 := by rw [fz_at fiI13591 50 (by decide) (by decide)]; exact ev13588
    have e13599 : I13591 (ad g 1) 1 = L := hI13591.2
    have b13600 := BT_get hI13591.1 1 1 2 (0) (0) (900) (by decide) 1 (by decide) (by decide)
    rw [e13599] at b13600
    refine WP_istore (ls' := [(0, _), (1, _), (2, _), (3, _), (4, _), (5, _), (6, _), (7, _), (8, _), (9, _), (10, _)]) dX9_serve_129 (by decide) rfl ?_
    refine WP_iload dX9_serve_131 rfl ?_
    refine WQ_iconst (2) (2) dX9_serve_133 rfl rfl (fun v13601 hv13601 => ?_)
    refine WQ_ishr2 dX9_serve_134 hv13601 (by omega) (by omega) (fun v13602 hv13602 => ?_)
    refine WQ_iconst (3) (3) dX9_serve_135 rfl rfl (fun v13603 hv13603 => ?_)
    refine WQ_iand3 dX9_serve_136 hv13603 (by omega) (by omega) (fun v13604 hv13604 => ?_)
    refine WP_istore (ls' := [(0, _), (1, _), (2, _), (3, _), (4, _), (5, _), (6, _), (7, _), (8, _), (9, _), (10, _), (11, _)]) dX9_serve_137 (by decide) rfl ?_
    refine WP_aload_n dX9_serve_139 rfl ?_
    refine WP_aload_n dX9_serve_140 rfl ?_
    refine WP_getr dX9_serve_141 fX9_25 rfl (lyx_is hy 49 9 rfl) (rfx hr 49 2 5 (by decide)) ?_
    refine WP_getr dX9_serve_144 fX9_49 rfl (lyx_is hy 5 0 rfl) hT ?_
    refine WQ_geti dX9_serve_147 fX9_108 rfl (lyx_is hy 27 7 rfl) (BT_get hI13591.1 27 4 5 (-1) (0) (2) (by decide) 4 (by decide) (by decide)) (fun v13605 ev13605 av13605 bv13605 => ?_)
    refine WP_iload dX9_serve_150 rfl ?_
    refine WQ_iconst (4) (4) dX9_serve_152 rfl rfl (fun v13606 hv13606 => ?_)
    refine WQ_ishr4 dX9_serve_153 hv13606 (by omega) (by omega) (fun v13607 hv13607 => ?_)
    refine WP_iload dX9_serve_154 rfl ?_
    refine WP_iload_n dX9_serve_156 rfl ?_
    refine WP_callV4 (k := 9) dX9_serve_157 ⟨⟨⟨by decide, by decide⟩, zX9_buy⟩, lX9_104, by decide, rfl, vX9_buy.1, vX9_buy.2⟩ (lyx_is hy 49 9 rfl) (sx_buyf hy hr hI13591 v13605 v13607 v13568 da (by omega) (by omega) (by omega) (by omega) (by omega) (by omega) (by omega) (by omega)) (Nat.le_of_ble_eq_true rfl) ?_
    intro r I13608 J13609 Ra hq
    obtain ⟨⟨hI13608, ec, fiI13608⟩, v13610, rfl, av13610, bv13610, cv13610⟩ := hq
    show WP _ _ _ _ (.int _ :: _) _ _ _ _
    rw [ec]
    clear ec Ra
    have fr13611 : fz 74 g [43, 44, 47, 48, 50, 51, 52, 53, 55] I I13608 := fz_tr fr13594 (fz_mono fiI13608 (by decide))
    have e13612 : I13608 (ad g 53) 1 = w13565 := by rw [fz_at fiI13608 53 (by decide) (by decide)]; exact e13595
    have e13613 : I13608 (ad g 50) 3 = w13586 := by rw [fz_at fiI13608 50 (by decide) (by decide)]; exact e13596
    have e13614 : I13608 (ad g 50) 4 = w13587 := by rw [fz_at fiI13608 50 (by decide) (by decide)]; exact e13597
    have e13615 : I13608 (ad g 50) 0 = v13588 := by rw [fz_at fiI13608 50 (by decide) (by decide)]; exact e13598
    have e13616 : I13608 (ad g 27) 4 = v13605 := by rw [fz_at fiI13608 27 (by decide) (by decide)]; exact ev13605
    have e13617 : I13608 (ad g 1) 1 = L := hI13608.2
    have b13618 := BT_get hI13608.1 1 1 2 (0) (0) (900) (by decide) 1 (by decide) (by decide)
    rw [e13617] at b13618
    refine WP_istore (ls' := [(0, _), (1, _), (2, _), (3, _), (4, _), (5, _), (6, _), (7, _), (8, _), (9, _), (10, _), (11, _), (12, _)]) dX9_serve_160 (by decide) rfl ?_
    refine WP_aload_n dX9_serve_162 rfl ?_
    refine WP_getr dX9_serve_163 fX9_12 rfl (lyx_is hy 49 9 rfl) (rfx hr 49 0 50 (by decide)) ?_
    refine WP_iload dX9_serve_166 rfl ?_
    refine WP_iload dX9_serve_168 rfl ?_
    refine WP_callV2 (k := 6) dX9_serve_170 ⟨⟨⟨by decide, by decide⟩, zX6_priceOf⟩, lX9_111, by decide, rfl, vX6_priceOf.1, vX6_priceOf.2⟩ (lyx_is hy 50 6 rfl) (sx_pricex hy hr hI13608 v13593 v13610 (by omega) (by omega) (by omega) (by omega)) (Nat.le_of_ble_eq_true rfl) ?_
    intro r Ia Ja Ra hq
    obtain ⟨⟨ea, eb, ec⟩, v13619, rfl, av13619, bv13619, cv13619⟩ := hq
    show WP _ _ _ _ (.int _ :: _) _ _ _ _
    rw [ea, eb, ec]
    clear ea eb ec Ia Ja Ra
    rw [e13613] at cv13619
    rw [e13614] at cv13619
    have k1 : v13593.toInt * w13586.toInt ≤ (v13585.toInt % 4) * w13586.toInt := Int.mul_le_mul_of_nonneg_right (by omega) (by omega)
    have k2 : v13610.toInt * w13587.toInt ≤ (v13585.toInt / 16) * w13587.toInt := Int.mul_le_mul_of_nonneg_right (by omega) (by omega)
    have kp : v13619.toInt ≤ v13575.toInt := by omega
    refine WP_istore (ls' := [(0, _), (1, _), (2, _), (3, _), (4, _), (5, _), (6, _), (7, _), (8, _), (9, _), (10, _), (11, _), (12, _), (13, _)]) dX9_serve_173 (by decide) rfl ?_
    refine WP_aload_n dX9_serve_175 rfl ?_
    refine WP_dup dX9_serve_176 rfl ?_
    refine WQ_getiu dX9_serve_177 fX9_114 rfl (lyx_is hy 53 4 rfl) (fun v13620 ev13620 => ?_)
    refine WP_iload dX9_serve_180 rfl ?_
    refine WP_iload dX9_serve_182 rfl ?_
    refine WP_iload dX9_serve_184 rfl ?_
    refine WQ_iadd dX9_serve_186 (by omega) (by omega) (fun v13621 hv13621 => ?_)
    refine WQ_imulb (99) (6) dX9_serve_187 ⟨by omega, by omega⟩ ⟨by omega, by omega⟩ (by decide) (fun v13622 pv13622 av13622 bv13622 cv13622 => ?_)
    refine WQ_iaddu dX9_serve_188 (fun v13623 => ?_)
    refine WQ_puti dX9_serve_189 fX9_114 rfl rfl (lyx_is hy 53 4 rfl) (fun I13624 eI13624 => ?_)
    have hI13624 : XI g n L I13624 := by rw [eI13624]; exact (xi_f0 hy hI13608 (c := 53) (by decide) (Or.inl (by decide)) (by decide))
    have e13625 : I13624 (ad g 53) 1 = w13565 := by rw [eI13624, pp_ne _ _ (Or.inr (by decide))]; exact e13612
    have e13626 : I13624 (ad g 50) 3 = w13586 := by rw [eI13624, pp_ne _ _ (Or.inl (lyx_ne hy (by decide) (by decide) (by decide)))]; exact e13613
    have e13627 : I13624 (ad g 50) 4 = w13587 := by rw [eI13624, pp_ne _ _ (Or.inl (lyx_ne hy (by decide) (by decide) (by decide)))]; exact e13614
    have e13628 : I13624 (ad g 50) 0 = v13588 := by rw [eI13624, pp_ne _ _ (Or.inl (lyx_ne hy (by decide) (by decide) (by decide)))]; exact e13615
    have e13629 : I13624 (ad g 27) 4 = v13605 := by rw [eI13624, pp_ne _ _ (Or.inl (lyx_ne hy (by decide) (by decide) (by decide)))]; exact e13616
    have e13630 : I13624 (ad g 1) 1 = L := by rw [eI13624, pp_ne _ _ (Or.inl (lyx_ne hy (by decide) (by decide) (by decide)))]; exact e13617
    have e13631 : I13624 (ad g 53) 2 = v13623 := by rw [eI13624, pp_self]
    have fr13632 : fz 74 g [43, 44, 47, 48, 50, 51, 52, 53, 55] I I13624 := by rw [eI13624]; exact fzx_pp hy fr13611 (by decide) (by decide)
    clear eI13624
    refine WP_aload_n dX9_serve_192 rfl ?_
    refine WP_dup dX9_serve_193 rfl ?_
    refine WQ_getl dX9_serve_194 fX9_117 rfl (lyx_is hy 53 4 rfl) (fun l13633 el13633 => ?_)
    refine WP_iload dX9_serve_197 rfl ?_
    refine WP_iload dX9_serve_199 rfl ?_
    refine WP_iload dX9_serve_201 rfl ?_
    refine WQ_isub dX9_serve_203 (by omega) (by omega) (fun v13634 hv13634 => ?_)
    refine WQ_imulu dX9_serve_204 (fun v13635 => ?_)
    refine WQ_i2l dX9_serve_205 (fun l13636 hl13636 => ?_)
    refine WQ_ladd dX9_serve_206 (fun l13637 => ?_)
    refine WQ_putl dX9_serve_207 fX9_117 rfl rfl (lyx_is hy 53 4 rfl) (fun J13638 eJ13638 => ?_)
    clear eJ13638
    refine WP_aload_n dX9_serve_210 rfl ?_
    refine WP_getr dX9_serve_211 fX9_75 rfl (lyx_is hy 53 4 rfl) (rfx hr 53 5 55 (by decide)) ?_
    refine WP_iload dX9_serve_214 rfl ?_
    refine WQ_iconst (2) (2) dX9_serve_216 rfl rfl (fun v13639 hv13639 => ?_)
    refine WQ_iadd dX9_serve_217 (by omega) (by omega) (fun v13640 hv13640 => ?_)
    refine WP_dup2 dX9_serve_218 rfl rfl ?_
    refine WQ_ialdu dX9_serve_219 (lyx_is hy 55 13 rfl) (lyx_n hy 55 28 rfl) (by omega) (by omega) (fun v13641 => ?_)
    refine WP_iload dX9_serve_220 rfl ?_
    refine WP_iload dX9_serve_222 rfl ?_
    refine WQ_imulb (99) (60) dX9_serve_224 ⟨by omega, by omega⟩ ⟨by omega, by omega⟩ (by decide) (fun v13642 pv13642 av13642 bv13642 cv13642 => ?_)
    refine WQ_iaddu dX9_serve_225 (fun v13643 => ?_)
    refine WQ_iast dX9_serve_226 (lyx_is hy 55 13 rfl) (lyx_n hy 55 28 rfl) (by omega) (by omega) (fun I13644 eI13644 => ?_)
    have hI13644 : XI g n L I13644 := by rw [eI13644]; exact (fa_put hy hI13624 (c := 55) (k := 2) (s := so.toInt.toNat) (by decide) (by omega) (by decide) (by rw [cl (n := 7 * so.toInt.toNat + 2) (by omega)]) (fun h => absurd h (by decide)) (fun h => absurd h (by decide)))
    have e13645 : I13644 (ad g 53) 1 = w13565 := by rw [eI13644, pp_ne _ _ (Or.inl (lyx_ne hy (by decide) (by decide) (by decide)))]; exact e13625
    have e13646 : I13644 (ad g 50) 3 = w13586 := by rw [eI13644, pp_ne _ _ (Or.inl (lyx_ne hy (by decide) (by decide) (by decide)))]; exact e13626
    have e13647 : I13644 (ad g 50) 4 = w13587 := by rw [eI13644, pp_ne _ _ (Or.inl (lyx_ne hy (by decide) (by decide) (by decide)))]; exact e13627
    have e13648 : I13644 (ad g 50) 0 = v13588 := by rw [eI13644, pp_ne _ _ (Or.inl (lyx_ne hy (by decide) (by decide) (by decide)))]; exact e13628
    have e13649 : I13644 (ad g 27) 4 = v13605 := by rw [eI13644, pp_ne _ _ (Or.inl (lyx_ne hy (by decide) (by decide) (by decide)))]; exact e13629
    have e13650 : I13644 (ad g 1) 1 = L := by rw [eI13644, pp_ne _ _ (Or.inl (lyx_ne hy (by decide) (by decide) (by decide)))]; exact e13630
    have e13651 : I13644 (ad g 53) 2 = v13623 := by rw [eI13644, pp_ne _ _ (Or.inl (lyx_ne hy (by decide) (by decide) (by decide)))]; exact e13631
    have fr13652 : fz 74 g [43, 44, 47, 48, 50, 51, 52, 53, 55] I I13644 := by rw [eI13644]; exact fzx_pp hy fr13632 (by decide) (by decide)
    clear eI13644
    refine WP_aload_n dX9_serve_227 rfl ?_
    refine WP_getr dX9_serve_228 fX9_75 rfl (lyx_is hy 53 4 rfl) (rfx hr 53 5 55 (by decide)) ?_
    refine WP_iload dX9_serve_231 rfl ?_
    refine WQ_iconst (4) (4) dX9_serve_233 rfl rfl (fun v13653 hv13653 => ?_)
    refine WQ_iadd dX9_serve_234 (by omega) (by omega) (fun v13654 hv13654 => ?_)
    refine WP_dup2 dX9_serve_235 rfl rfl ?_
    refine WQ_ialdu dX9_serve_236 (lyx_is hy 55 13 rfl) (lyx_n hy 55 28 rfl) (by omega) (by omega) (fun v13655 => ?_)
    refine WP_iload dX9_serve_237 rfl ?_
    refine WP_aload_n dX9_serve_239 rfl ?_
    refine WP_getr dX9_serve_240 fX9_12 rfl (lyx_is hy 49 9 rfl) (rfx hr 49 0 50 (by decide)) ?_
    refine WQ_geti dX9_serve_243 fX9_121 rfl (lyx_is hy 50 6 rfl) (BT_get hI13644.1 50 2 3 (0) (0) (99) (by decide) 2 (by decide) (by decide)) (fun v13656 ev13656 av13656 bv13656 => ?_)
    refine WQ_imulb (99) (99) dX9_serve_246 ⟨by omega, by omega⟩ ⟨by omega, by omega⟩ (by decide) (fun v13657 pv13657 av13657 bv13657 cv13657 => ?_)
    refine WP_iload dX9_serve_247 rfl ?_
    refine WP_iload dX9_serve_249 rfl ?_
    refine WQ_iadd dX9_serve_251 (by omega) (by omega) (fun v13658 hv13658 => ?_)
    refine WQ_imulb (9801) (6) dX9_serve_252 ⟨by omega, by omega⟩ ⟨by omega, by omega⟩ (by decide) (fun v13659 pv13659 av13659 bv13659 cv13659 => ?_)
    refine WQ_iaddu dX9_serve_253 (fun v13660 => ?_)
    refine WQ_iast dX9_serve_254 (lyx_is hy 55 13 rfl) (lyx_n hy 55 28 rfl) (by omega) (by omega) (fun I13661 eI13661 => ?_)
    have hI13661 : XI g n L I13661 := by rw [eI13661]; exact (fa_put hy hI13644 (c := 55) (k := 4) (s := so.toInt.toNat) (by decide) (by omega) (by decide) (by rw [cl (n := 7 * so.toInt.toNat + 4) (by omega)]) (fun h => absurd h (by decide)) (fun h => absurd h (by decide)))
    have e13662 : I13661 (ad g 53) 1 = w13565 := by rw [eI13661, pp_ne _ _ (Or.inl (lyx_ne hy (by decide) (by decide) (by decide)))]; exact e13645
    have e13663 : I13661 (ad g 50) 3 = w13586 := by rw [eI13661, pp_ne _ _ (Or.inl (lyx_ne hy (by decide) (by decide) (by decide)))]; exact e13646
    have e13664 : I13661 (ad g 50) 4 = w13587 := by rw [eI13661, pp_ne _ _ (Or.inl (lyx_ne hy (by decide) (by decide) (by decide)))]; exact e13647
    have e13665 : I13661 (ad g 50) 0 = v13588 := by rw [eI13661, pp_ne _ _ (Or.inl (lyx_ne hy (by decide) (by decide) (by decide)))]; exact e13648
    have e13666 : I13661 (ad g 27) 4 = v13605 := by rw [eI13661, pp_ne _ _ (Or.inl (lyx_ne hy (by decide) (by decide) (by decide)))]; exact e13649
    have e13667 : I13661 (ad g 1) 1 = L := by rw [eI13661, pp_ne _ _ (Or.inl (lyx_ne hy (by decide) (by decide) (by decide)))]; exact e13650
    have e13668 : I13661 (ad g 53) 2 = v13623 := by rw [eI13661, pp_ne _ _ (Or.inl (lyx_ne hy (by decide) (by decide) (by decide)))]; exact e13651
    have e13669 : I13661 (ad g 50) 2 = v13656 := by rw [eI13661, pp_ne _ _ (Or.inl (lyx_ne hy (by decide) (by decide) (by decide)))]; exact ev13656
    have fr13670 : fz 74 g [43, 44, 47, 48, 50, 51, 52, 53, 55] I I13661 := by rw [eI13661]; exact fzx_pp hy fr13652 (by decide) (by decide)
    clear eI13661
    refine WP_aload_n dX9_serve_255 rfl ?_
    refine WP_aload_n dX9_serve_256 rfl ?_
    refine WP_iload_n dX9_serve_257 rfl ?_
    refine WP_iload_n dX9_serve_258 rfl ?_
    refine WP_iload dX9_serve_259 rfl ?_
    refine WP_iload dX9_serve_261 rfl ?_
    refine WQ_isub dX9_serve_263 (by omega) (by omega) (fun v13671 hv13671 => ?_)
    refine WP_iload dX9_serve_264 rfl ?_
    refine WP_iload dX9_serve_266 rfl ?_
    refine WQ_isub dX9_serve_268 (by omega) (by omega) (fun v13672 hv13672 => ?_)
    refine WP_iload dX9_serve_269 rfl ?_
    refine WQ_iadd dX9_serve_271 (by omega) (by omega) (fun v13673 hv13673 => ?_)
    refine WP_callV5 (k := 9) dX9_serve_272 ⟨⟨⟨by decide, by decide⟩, zX9_sleep⟩, lX9_124, by decide, rfl, vX9_sleep.1, vX9_sleep.2⟩ (lyx_is hy 49 9 rfl) (sx_wsleepf_53_27 hy hr hT hI13661 so da v13671 v13673 (by omega) (by omega) (by omega) (by omega) (by omega) (by omega) (by omega) (by omega) (by omega) (by rw [e13662]; omega)) (Nat.le_of_ble_eq_true rfl) ?_
    intro r I13674 J13675 Ra hq
    obtain ⟨⟨hI13674, ec, fiI13674, pI13674⟩, rfl⟩ := hq
    rw [ec]
    clear ec Ra
    have fr13676 : fz 74 g [43, 44, 47, 48, 50, 51, 52, 53, 55] I I13674 := fz_tr fr13670 (fz_mono fiI13674 (by decide))
    have e13677 : I13674 (ad g 50) 3 = w13586 := by rw [fz_at fiI13674 50 (by decide) (by decide)]; exact e13663
    have e13678 : I13674 (ad g 50) 4 = w13587 := by rw [fz_at fiI13674 50 (by decide) (by decide)]; exact e13664
    have e13679 : I13674 (ad g 50) 0 = v13588 := by rw [fz_at fiI13674 50 (by decide) (by decide)]; exact e13665
    have e13680 : I13674 (ad g 27) 4 = v13605 := by rw [fz_at fiI13674 27 (by decide) (by decide)]; exact e13666
    have e13681 : I13674 (ad g 50) 2 = v13656 := by rw [fz_at fiI13674 50 (by decide) (by decide)]; exact e13669
    have e13682 : I13674 (ad g 1) 1 = L := hI13674.2
    have b13683 := BT_get hI13674.1 1 1 2 (0) (0) (900) (by decide) 1 (by decide) (by decide)
    rw [e13682] at b13683
    obtain ⟨w13684, ew13684⟩ : ∃ w : Int32, I13674 (ad g 53) 1 = w := ⟨_, rfl⟩
    have bw13684 := BT_get hI13674.1 53 1 2 (0) (23760) (0) (by decide) 1 (by decide) (by decide)
    rw [ew13684] at bw13684
    rw [ew13684, e13662] at pI13674
    exact WP_vret dX9_serve_275 rfl ⟨⟨hI13674, ⟨hr, ⟨hT.trans hT.symm, rfl⟩, hP⟩, fr13676, (by rw [ew13684, ew13565]; omega)⟩, rfl⟩
  · refine WP_aload_n dX9_serve_78 rfl ?_
    refine WP_getr dX9_serve_79 fX9_29 rfl (lyx_is hy 49 9 rfl) (rfx hr 49 3 43 (by decide)) ?_
    refine WP_iload_n dX9_serve_82 rfl ?_
    refine WP_iload_n dX9_serve_83 rfl ?_
    refine WP_iload dX9_serve_84 rfl ?_
    refine WP_iload dX9_serve_86 rfl ?_
    refine WQ_bipush (7) (7) dX9_serve_88 rfl rfl (fun v13685 hv13685 => ?_)
    refine WP_callV5 (k := 2) dX9_serve_90 ⟨⟨⟨by decide, by decide⟩, zX2_search⟩, lX9_92, by decide, rfl, vX2_search.1, vX2_search.2⟩ (lyx_is hy 43 2 rfl) (sx_searchx_27 hy hr hP hT hI13577 so da v13575 v13571 v13685 (by omega) (by omega) (by omega) (by omega) (by omega) (by omega) (by omega) (by omega) (by omega) (by omega)) (Nat.le_of_ble_eq_true rfl) ?_
    intro r I13686 J13687 R13688 hq
    obtain ⟨⟨hI13686, ⟨hrI13686, ⟨htI13686, hsI13686⟩, hpI13686⟩, fiI13686, fjI13686⟩, v13689, rfl, av13689, bv13689, cv13689⟩ := hq
    show WP _ _ _ _ (.int _ :: _) _ _ _ _
    have ht_I13686 := htI13686.trans hT
    have hs_I13686 : R13688 (ad g 0) 10 = R (ad g 0) 10 := hsI13686.trans rfl
    have fr13690 : fz 74 g [43, 44, 47, 48, 50, 51, 52, 53, 55] I I13686 := fz_tr fr13579 (fz_mono fiI13686 (by decide))
    have e13691 : I13686 (ad g 53) 1 = w13565 := by rw [fz_at fiI13686 53 (by decide) (by decide)]; exact e13580
    have e13692 : I13686 (ad g 1) 1 = L := hI13686.2
    have b13693 := BT_get hI13686.1 1 1 2 (0) (0) (900) (by decide) 1 (by decide) (by decide)
    rw [e13692] at b13693
    refine WP_goto 109 dX9_serve_93 rfl ?_
    obtain ⟨T9, t1, t2⟩ := cv13689
    have acv13689 : AOKd (I13577 (ad g 50)) v13575.toInt v13571.toInt v13689.toInt := AOK_eq (LD_un t1 (LD_fr pI13577 (fz_at fiI13577 27 (by decide) (by decide)).symm (fz_at fiI13577 32 (by decide) (by decide)).symm (fz_at fiI13577 34 (by decide) (by decide)).symm (fz_at fiI13577 35 (by decide) (by decide)).symm (fz_at fiI13577 36 (by decide) (by decide)).symm (fz_at fiI13577 22 (by decide) (by decide)).symm)) t2
    obtain ⟨w13694, ew13694⟩ : ∃ w : Int32, I13686 (ad g 50) 3 = w := ⟨_, rfl⟩
    have bw13694 := BT_get hI13686.1 50 3 4 (0) (0) (20) (by decide) 3 (by decide) (by decide)
    rw [ew13694] at bw13694
    obtain ⟨w13695, ew13695⟩ : ∃ w : Int32, I13686 (ad g 50) 4 = w := ⟨_, rfl⟩
    have bw13695 := BT_get hI13686.1 50 4 5 (0) (0) (20) (by decide) 4 (by decide) (by decide)
    rw [ew13695] at bw13695
    have adv13689 := acv13689
    unfold AOKd at adv13689
    rw [← fz_at fiI13686 50 (by decide) (by decide)] at adv13689
    rw [ew13694, ew13695] at adv13689
    obtain ⟨rav13689, rbv13689, rcv13689, rdv13689, rev13689⟩ := adv13689
    refine WP_istore (ls' := [(0, _), (1, _), (2, _), (3, _), (4, _), (5, _), (6, _), (7, _), (8, _), (9, _)]) dX9_serve_109 (by decide) rfl ?_
    refine WP_aload_n dX9_serve_111 rfl ?_
    refine WP_aload_n dX9_serve_112 rfl ?_
    refine WP_getr dX9_serve_113 fX9_12 rfl (lyx_is hy 49 9 rfl) (rfx hrI13686 49 0 50 (by decide)) ?_
    refine WQ_geti dX9_serve_116 fX9_101 rfl (lyx_is hy 50 6 rfl) (BT_get hI13686.1 50 0 1 (-1) (0) (2) (by decide) 0 (by decide) (by decide)) (fun v13696 ev13696 av13696 bv13696 => ?_)
    refine WP_iload dX9_serve_119 rfl ?_
    refine WQ_iconst (3) (3) dX9_serve_121 rfl rfl (fun v13697 hv13697 => ?_)
    refine WQ_iand3 dX9_serve_122 hv13697 (by omega) (by omega) (fun v13698 hv13698 => ?_)
    refine WP_iload dX9_serve_123 rfl ?_
    refine WP_iload_n dX9_serve_125 rfl ?_
    refine WP_callV4 (k := 9) dX9_serve_126 ⟨⟨⟨by decide, by decide⟩, zX9_buy⟩, lX9_104, by decide, rfl, vX9_buy.1, vX9_buy.2⟩ (lyx_is hy 49 9 rfl) (sx_buyf hy hrI13686 hI13686 v13696 v13698 v13568 da (by omega) (by omega) (by omega) (by omega) (by omega) (by omega) (by omega) (by omega)) (Nat.le_of_ble_eq_true rfl) ?_
    intro r I13699 J13700 Ra hq
    obtain ⟨⟨hI13699, ec, fiI13699⟩, v13701, rfl, av13701, bv13701, cv13701⟩ := hq
    show WP _ _ _ _ (.int _ :: _) _ _ _ _
    rw [ec]
    clear ec Ra
    have fr13702 : fz 74 g [43, 44, 47, 48, 50, 51, 52, 53, 55] I I13699 := fz_tr fr13690 (fz_mono fiI13699 (by decide))
    have e13703 : I13699 (ad g 53) 1 = w13565 := by rw [fz_at fiI13699 53 (by decide) (by decide)]; exact e13691
    have e13704 : I13699 (ad g 50) 3 = w13694 := by rw [fz_at fiI13699 50 (by decide) (by decide)]; exact ew13694
    have e13705 : I13699 (ad g 50) 4 = w13695 := by rw [fz_at fiI13699 50 (by decide) (by decide)]; exact ew13695
    have e13706 : I13699 (ad g 50) 0 = v13696 := by rw [fz_at fiI13699 50 (by decide) (by decide)]; exact ev13696
    have e13707 : I13699 (ad g 1) 1 = L := hI13699.2
    have b13708 := BT_get hI13699.1 1 1 2 (0) (0) (900) (by decide) 1 (by decide) (by decide)
    rw [e13707] at b13708
    refine WP_istore (ls' := [(0, _), (1, _), (2, _), (3, _), (4, _), (5, _), (6, _), (7, _), (8, _), (9, _), (10, _)]) dX9_serve_129 (by decide) rfl ?_
    refine WP_iload dX9_serve_131 rfl ?_
    refine WQ_iconst (2) (2) dX9_serve_133 rfl rfl (fun v13709 hv13709 => ?_)
    refine WQ_ishr2 dX9_serve_134 hv13709 (by omega) (by omega) (fun v13710 hv13710 => ?_)
    refine WQ_iconst (3) (3) dX9_serve_135 rfl rfl (fun v13711 hv13711 => ?_)
    refine WQ_iand3 dX9_serve_136 hv13711 (by omega) (by omega) (fun v13712 hv13712 => ?_)
    refine WP_istore (ls' := [(0, _), (1, _), (2, _), (3, _), (4, _), (5, _), (6, _), (7, _), (8, _), (9, _), (10, _), (11, _)]) dX9_serve_137 (by decide) rfl ?_
    refine WP_aload_n dX9_serve_139 rfl ?_
    refine WP_aload_n dX9_serve_140 rfl ?_
    refine WP_getr dX9_serve_141 fX9_25 rfl (lyx_is hy 49 9 rfl) (rfx hrI13686 49 2 5 (by decide)) ?_
    refine WP_getr dX9_serve_144 fX9_49 rfl (lyx_is hy 5 0 rfl) ht_I13686 ?_
    refine WQ_geti dX9_serve_147 fX9_108 rfl (lyx_is hy 27 7 rfl) (BT_get hI13699.1 27 4 5 (-1) (0) (2) (by decide) 4 (by decide) (by decide)) (fun v13713 ev13713 av13713 bv13713 => ?_)
    refine WP_iload dX9_serve_150 rfl ?_
    refine WQ_iconst (4) (4) dX9_serve_152 rfl rfl (fun v13714 hv13714 => ?_)
    refine WQ_ishr4 dX9_serve_153 hv13714 (by omega) (by omega) (fun v13715 hv13715 => ?_)
    refine WP_iload dX9_serve_154 rfl ?_
    refine WP_iload_n dX9_serve_156 rfl ?_
    refine WP_callV4 (k := 9) dX9_serve_157 ⟨⟨⟨by decide, by decide⟩, zX9_buy⟩, lX9_104, by decide, rfl, vX9_buy.1, vX9_buy.2⟩ (lyx_is hy 49 9 rfl) (sx_buyf hy hrI13686 hI13699 v13713 v13715 v13568 da (by omega) (by omega) (by omega) (by omega) (by omega) (by omega) (by omega) (by omega)) (Nat.le_of_ble_eq_true rfl) ?_
    intro r I13716 J13717 Ra hq
    obtain ⟨⟨hI13716, ec, fiI13716⟩, v13718, rfl, av13718, bv13718, cv13718⟩ := hq
    show WP _ _ _ _ (.int _ :: _) _ _ _ _
    rw [ec]
    clear ec Ra
    have fr13719 : fz 74 g [43, 44, 47, 48, 50, 51, 52, 53, 55] I I13716 := fz_tr fr13702 (fz_mono fiI13716 (by decide))
    have e13720 : I13716 (ad g 53) 1 = w13565 := by rw [fz_at fiI13716 53 (by decide) (by decide)]; exact e13703
    have e13721 : I13716 (ad g 50) 3 = w13694 := by rw [fz_at fiI13716 50 (by decide) (by decide)]; exact e13704
    have e13722 : I13716 (ad g 50) 4 = w13695 := by rw [fz_at fiI13716 50 (by decide) (by decide)]; exact e13705
    have e13723 : I13716 (ad g 50) 0 = v13696 := by rw [fz_at fiI13716 50 (by decide) (by decide)]; exact e13706
    have e13724 : I13716 (ad g 27) 4 = v13713 := by rw [fz_at fiI13716 27 (by decide) (by decide)]; exact ev13713
    have e13725 : I13716 (ad g 1) 1 = L := hI13716.2
    have b13726 := BT_get hI13716.1 1 1 2 (0) (0) (900) (by decide) 1 (by decide) (by decide)
    rw [e13725] at b13726
    refine WP_istore (ls' := [(0, _), (1, _), (2, _), (3, _), (4, _), (5, _), (6, _), (7, _), (8, _), (9, _), (10, _), (11, _), (12, _)]) dX9_serve_160 (by decide) rfl ?_
    refine WP_aload_n dX9_serve_162 rfl ?_
    refine WP_getr dX9_serve_163 fX9_12 rfl (lyx_is hy 49 9 rfl) (rfx hrI13686 49 0 50 (by decide)) ?_
    refine WP_iload dX9_serve_166 rfl ?_
    refine WP_iload dX9_serve_168 rfl ?_
    refine WP_callV2 (k := 6) dX9_serve_170 ⟨⟨⟨by decide, by decide⟩, zX6_priceOf⟩, lX9_111, by decide, rfl, vX6_priceOf.1, vX6_priceOf.2⟩ (lyx_is hy 50 6 rfl) (sx_pricex hy hrI13686 hI13716 v13701 v13718 (by omega) (by omega) (by omega) (by omega)) (Nat.le_of_ble_eq_true rfl) ?_
    intro r Ia Ja Ra hq
    obtain ⟨⟨ea, eb, ec⟩, v13727, rfl, av13727, bv13727, cv13727⟩ := hq
    show WP _ _ _ _ (.int _ :: _) _ _ _ _
    rw [ea, eb, ec]
    clear ea eb ec Ia Ja Ra
    rw [e13721] at cv13727
    rw [e13722] at cv13727
    have k1 : v13701.toInt * w13694.toInt ≤ (v13689.toInt % 4) * w13694.toInt := Int.mul_le_mul_of_nonneg_right (by omega) (by omega)
    have k2 : v13718.toInt * w13695.toInt ≤ (v13689.toInt / 16) * w13695.toInt := Int.mul_le_mul_of_nonneg_right (by omega) (by omega)
    have kp : v13727.toInt ≤ v13575.toInt := by omega
    refine WP_istore (ls' := [(0, _), (1, _), (2, _), (3, _), (4, _), (5, _), (6, _), (7, _), (8, _), (9, _), (10, _), (11, _), (12, _), (13, _)]) dX9_serve_173 (by decide) rfl ?_
    refine WP_aload_n dX9_serve_175 rfl ?_
    refine WP_dup dX9_serve_176 rfl ?_
    refine WQ_getiu dX9_serve_177 fX9_114 rfl (lyx_is hy 53 4 rfl) (fun v13728 ev13728 => ?_)
    refine WP_iload dX9_serve_180 rfl ?_
    refine WP_iload dX9_serve_182 rfl ?_
    refine WP_iload dX9_serve_184 rfl ?_
    refine WQ_iadd dX9_serve_186 (by omega) (by omega) (fun v13729 hv13729 => ?_)
    refine WQ_imulb (99) (6) dX9_serve_187 ⟨by omega, by omega⟩ ⟨by omega, by omega⟩ (by decide) (fun v13730 pv13730 av13730 bv13730 cv13730 => ?_)
    refine WQ_iaddu dX9_serve_188 (fun v13731 => ?_)
    refine WQ_puti dX9_serve_189 fX9_114 rfl rfl (lyx_is hy 53 4 rfl) (fun I13732 eI13732 => ?_)
    have hI13732 : XI g n L I13732 := by rw [eI13732]; exact (xi_f0 hy hI13716 (c := 53) (by decide) (Or.inl (by decide)) (by decide))
    have e13733 : I13732 (ad g 53) 1 = w13565 := by rw [eI13732, pp_ne _ _ (Or.inr (by decide))]; exact e13720
    have e13734 : I13732 (ad g 50) 3 = w13694 := by rw [eI13732, pp_ne _ _ (Or.inl (lyx_ne hy (by decide) (by decide) (by decide)))]; exact e13721
    have e13735 : I13732 (ad g 50) 4 = w13695 := by rw [eI13732, pp_ne _ _ (Or.inl (lyx_ne hy (by decide) (by decide) (by decide)))]; exact e13722
    have e13736 : I13732 (ad g 50) 0 = v13696 := by rw [eI13732, pp_ne _ _ (Or.inl (lyx_ne hy (by decide) (by decide) (by decide)))]; exact e13723
    have e13737 : I13732 (ad g 27) 4 = v13713 := by rw [eI13732, pp_ne _ _ (Or.inl (lyx_ne hy (by decide) (by decide) (by decide)))]; exact e13724
    have e13738 : I13732 (ad g 1) 1 = L := by rw [eI13732, pp_ne _ _ (Or.inl (lyx_ne hy (by decide) (by decide) (by decide)))]; exact e13725
    have e13739 : I13732 (ad g 53) 2 = v13731 := by rw [eI13732, pp_self]
    have fr13740 : fz 74 g [43, 44, 47, 48, 50, 51, 52, 53, 55] I I13732 := by rw [eI13732]; exact fzx_pp hy fr13719 (by decide) (by decide)
    clear eI13732
    refine WP_aload_n dX9_serve_192 rfl ?_
    refine WP_dup dX9_serve_193 rfl ?_
    refine WQ_getl dX9_serve_194 fX9_117 rfl (lyx_is hy 53 4 rfl) (fun l13741 el13741 => ?_)
    refine WP_iload dX9_serve_197 rfl ?_
    refine WP_iload dX9_serve_199 rfl ?_
    refine WP_iload dX9_serve_201 rfl ?_
    refine WQ_isub dX9_serve_203 (by omega) (by omega) (fun v13742 hv13742 => ?_)
    refine WQ_imulu dX9_serve_204 (fun v13743 => ?_)
    refine WQ_i2l dX9_serve_205 (fun l13744 hl13744 => ?_)
    refine WQ_ladd dX9_serve_206 (fun l13745 => ?_)
    refine WQ_putl dX9_serve_207 fX9_117 rfl rfl (lyx_is hy 53 4 rfl) (fun J13746 eJ13746 => ?_)
    clear eJ13746
    refine WP_aload_n dX9_serve_210 rfl ?_
    refine WP_getr dX9_serve_211 fX9_75 rfl (lyx_is hy 53 4 rfl) (rfx hrI13686 53 5 55 (by decide)) ?_
    refine WP_iload dX9_serve_214 rfl ?_
    refine WQ_iconst (2) (2) dX9_serve_216 rfl rfl (fun v13747 hv13747 => ?_)
    refine WQ_iadd dX9_serve_217 (by omega) (by omega) (fun v13748 hv13748 => ?_)
    refine WP_dup2 dX9_serve_218 rfl rfl ?_
    refine WQ_ialdu dX9_serve_219 (lyx_is hy 55 13 rfl) (lyx_n hy 55 28 rfl) (by omega) (by omega) (fun v13749 => ?_)
    refine WP_iload dX9_serve_220 rfl ?_
    refine WP_iload dX9_serve_222 rfl ?_
    refine WQ_imulb (99) (60) dX9_serve_224 ⟨by omega, by omega⟩ ⟨by omega, by omega⟩ (by decide) (fun v13750 pv13750 av13750 bv13750 cv13750 => ?_)
    refine WQ_iaddu dX9_serve_225 (fun v13751 => ?_)
    refine WQ_iast dX9_serve_226 (lyx_is hy 55 13 rfl) (lyx_n hy 55 28 rfl) (by omega) (by omega) (fun I13752 eI13752 => ?_)
    have hI13752 : XI g n L I13752 := by rw [eI13752]; exact (fa_put hy hI13732 (c := 55) (k := 2) (s := so.toInt.toNat) (by decide) (by omega) (by decide) (by rw [cl (n := 7 * so.toInt.toNat + 2) (by omega)]) (fun h => absurd h (by decide)) (fun h => absurd h (by decide)))
    have e13753 : I13752 (ad g 53) 1 = w13565 := by rw [eI13752, pp_ne _ _ (Or.inl (lyx_ne hy (by decide) (by decide) (by decide)))]; exact e13733
    have e13754 : I13752 (ad g 50) 3 = w13694 := by rw [eI13752, pp_ne _ _ (Or.inl (lyx_ne hy (by decide) (by decide) (by decide)))]; exact e13734
    have e13755 : I13752 (ad g 50) 4 = w13695 := by rw [eI13752, pp_ne _ _ (Or.inl (lyx_ne hy (by decide) (by decide) (by decide)))]; exact e13735
    have e13756 : I13752 (ad g 50) 0 = v13696 := by rw [eI13752, pp_ne _ _ (Or.inl (lyx_ne hy (by decide) (by decide) (by decide)))]; exact e13736
    have e13757 : I13752 (ad g 27) 4 = v13713 := by rw [eI13752, pp_ne _ _ (Or.inl (lyx_ne hy (by decide) (by decide) (by decide)))]; exact e13737
    have e13758 : I13752 (ad g 1) 1 = L := by rw [eI13752, pp_ne _ _ (Or.inl (lyx_ne hy (by decide) (by decide) (by decide)))]; exact e13738
    have e13759 : I13752 (ad g 53) 2 = v13731 := by rw [eI13752, pp_ne _ _ (Or.inl (lyx_ne hy (by decide) (by decide) (by decide)))]; exact e13739
    have fr13760 : fz 74 g [43, 44, 47, 48, 50, 51, 52, 53, 55] I I13752 := by rw [eI13752]; exact fzx_pp hy fr13740 (by decide) (by decide)
    clear eI13752
    refine WP_aload_n dX9_serve_227 rfl ?_
    refine WP_getr dX9_serve_228 fX9_75 rfl (lyx_is hy 53 4 rfl) (rfx hrI13686 53 5 55 (by decide)) ?_
    refine WP_iload dX9_serve_231 rfl ?_
    refine WQ_iconst (4) (4) dX9_serve_233 rfl rfl (fun v13761 hv13761 => ?_)
    refine WQ_iadd dX9_serve_234 (by omega) (by omega) (fun v13762 hv13762 => ?_)
    refine WP_dup2 dX9_serve_235 rfl rfl ?_
    refine WQ_ialdu dX9_serve_236 (lyx_is hy 55 13 rfl) (lyx_n hy 55 28 rfl) (by omega) (by omega) (fun v13763 => ?_)
    refine WP_iload dX9_serve_237 rfl ?_
    refine WP_aload_n dX9_serve_239 rfl ?_
    refine WP_getr dX9_serve_240 fX9_12 rfl (lyx_is hy 49 9 rfl) (rfx hrI13686 49 0 50 (by decide)) ?_
    refine WQ_geti dX9_serve_243 fX9_121 rfl (lyx_is hy 50 6 rfl) (BT_get hI13752.1 50 2 3 (0) (0) (99) (by decide) 2 (by decide) (by decide)) (fun v13764 ev13764 av13764 bv13764 => ?_)
    refine WQ_imulb (99) (99) dX9_serve_246 ⟨by omega, by omega⟩ ⟨by omega, by omega⟩ (by decide) (fun v13765 pv13765 av13765 bv13765 cv13765 => ?_)
    refine WP_iload dX9_serve_247 rfl ?_
    refine WP_iload dX9_serve_249 rfl ?_
    refine WQ_iadd dX9_serve_251 (by omega) (by omega) (fun v13766 hv13766 => ?_)
    refine WQ_imulb (9801) (6) dX9_serve_252 ⟨by omega, by omega⟩ ⟨by omega, by omega⟩ (by decide) (fun v13767 pv13767 av13767 bv13767 cv13767 => ?_)
    refine WQ_iaddu dX9_serve_253 (fun v13768 => ?_)
    refine WQ_iast dX9_serve_254 (lyx_is hy 55 13 rfl) (lyx_n hy 55 28 rfl) (by omega) (by omega) (fun I13769 eI13769 => ?_)
    have hI13769 : XI g n L I13769 := by rw [eI13769]; exact (fa_put hy hI13752 (c := 55) (k := 4) (s := so.toInt.toNat) (by decide) (by omega) (by decide) (by rw [cl (n := 7 * so.toInt.toNat + 4) (by omega)]) (fun h => absurd h (by decide)) (fun h => absurd h (by decide)))
    have e13770 : I13769 (ad g 53) 1 = w13565 := by rw [eI13769, pp_ne _ _ (Or.inl (lyx_ne hy (by decide) (by decide) (by decide)))]; exact e13753
    have e13771 : I13769 (ad g 50) 3 = w13694 := by rw [eI13769, pp_ne _ _ (Or.inl (lyx_ne hy (by decide) (by decide) (by decide)))]; exact e13754
    have e13772 : I13769 (ad g 50) 4 = w13695 := by rw [eI13769, pp_ne _ _ (Or.inl (lyx_ne hy (by decide) (by decide) (by decide)))]; exact e13755
    have e13773 : I13769 (ad g 50) 0 = v13696 := by rw [eI13769, pp_ne _ _ (Or.inl (lyx_ne hy (by decide) (by decide) (by decide)))]; exact e13756
    have e13774 : I13769 (ad g 27) 4 = v13713 := by rw [eI13769, pp_ne _ _ (Or.inl (lyx_ne hy (by decide) (by decide) (by decide)))]; exact e13757
    have e13775 : I13769 (ad g 1) 1 = L := by rw [eI13769, pp_ne _ _ (Or.inl (lyx_ne hy (by decide) (by decide) (by decide)))]; exact e13758
    have e13776 : I13769 (ad g 53) 2 = v13731 := by rw [eI13769, pp_ne _ _ (Or.inl (lyx_ne hy (by decide) (by decide) (by decide)))]; exact e13759
    have e13777 : I13769 (ad g 50) 2 = v13764 := by rw [eI13769, pp_ne _ _ (Or.inl (lyx_ne hy (by decide) (by decide) (by decide)))]; exact ev13764
    have fr13778 : fz 74 g [43, 44, 47, 48, 50, 51, 52, 53, 55] I I13769 := by rw [eI13769]; exact fzx_pp hy fr13760 (by decide) (by decide)
    clear eI13769
    refine WP_aload_n dX9_serve_255 rfl ?_
    refine WP_aload_n dX9_serve_256 rfl ?_
    refine WP_iload_n dX9_serve_257 rfl ?_
    refine WP_iload_n dX9_serve_258 rfl ?_
    refine WP_iload dX9_serve_259 rfl ?_
    refine WP_iload dX9_serve_261 rfl ?_
    refine WQ_isub dX9_serve_263 (by omega) (by omega) (fun v13779 hv13779 => ?_)
    refine WP_iload dX9_serve_264 rfl ?_
    refine WP_iload dX9_serve_266 rfl ?_
    refine WQ_isub dX9_serve_268 (by omega) (by omega) (fun v13780 hv13780 => ?_)
    refine WP_iload dX9_serve_269 rfl ?_
    refine WQ_iadd dX9_serve_271 (by omega) (by omega) (fun v13781 hv13781 => ?_)
    refine WP_callV5 (k := 9) dX9_serve_272 ⟨⟨⟨by decide, by decide⟩, zX9_sleep⟩, lX9_124, by decide, rfl, vX9_sleep.1, vX9_sleep.2⟩ (lyx_is hy 49 9 rfl) (sx_wsleepf_53_27 hy hrI13686 ht_I13686 hI13769 so da v13779 v13781 (by omega) (by omega) (by omega) (by omega) (by omega) (by omega) (by omega) (by omega) (by omega) (by rw [e13770]; omega)) (Nat.le_of_ble_eq_true rfl) ?_
    intro r I13782 J13783 Ra hq
    obtain ⟨⟨hI13782, ec, fiI13782, pI13782⟩, rfl⟩ := hq
    rw [ec]
    clear ec Ra
    have fr13784 : fz 74 g [43, 44, 47, 48, 50, 51, 52, 53, 55] I I13782 := fz_tr fr13778 (fz_mono fiI13782 (by decide))
    have e13785 : I13782 (ad g 50) 3 = w13694 := by rw [fz_at fiI13782 50 (by decide) (by decide)]; exact e13771
    have e13786 : I13782 (ad g 50) 4 = w13695 := by rw [fz_at fiI13782 50 (by decide) (by decide)]; exact e13772
    have e13787 : I13782 (ad g 50) 0 = v13696 := by rw [fz_at fiI13782 50 (by decide) (by decide)]; exact e13773
    have e13788 : I13782 (ad g 27) 4 = v13713 := by rw [fz_at fiI13782 27 (by decide) (by decide)]; exact e13774
    have e13789 : I13782 (ad g 50) 2 = v13764 := by rw [fz_at fiI13782 50 (by decide) (by decide)]; exact e13777
    have e13790 : I13782 (ad g 1) 1 = L := hI13782.2
    have b13791 := BT_get hI13782.1 1 1 2 (0) (0) (900) (by decide) 1 (by decide) (by decide)
    rw [e13790] at b13791
    obtain ⟨w13792, ew13792⟩ : ∃ w : Int32, I13782 (ad g 53) 1 = w := ⟨_, rfl⟩
    have bw13792 := BT_get hI13782.1 53 1 2 (0) (23760) (0) (by decide) 1 (by decide) (by decide)
    rw [ew13792] at bw13792
    rw [ew13792, e13770] at pI13782
    exact WP_vret dX9_serve_275 rfl ⟨⟨hI13782, ⟨hrI13686, ⟨ht_I13686.trans hT.symm, hs_I13686⟩, hpI13686⟩, fr13784, (by rw [ew13792, ew13565]; omega)⟩, rfl⟩
set_option maxHeartbeats 4000000 in
set_option maxRecDepth 100000 in
theorem sx_serve_56_6 {g : GG} {n : Int} {L : Int32} (hy : LyX g)  {I : pI} {J : pJ} {R : pR} (hr : RfX g R) (hP : NL g R) (hT : R (ad g 5) 0 = some (ad g 6)) (hI : XI g n L I) (so : Int32) (da : Int32) (so_lo : 0 ≤ so.toInt) (so_hi : so.toInt ≤ 3) (da_lo : 0 ≤ da.toInt) (da_hi : da.toInt ≤ 6) (hn : 0 ≤ n ∧ n ≤ 40000) (hb : (I (ad g 56) 1).toInt ≤ 23760 * n + 700000 - 5940) : SP g mX9_serve [.ref (ad g 49), .ref (ad g 56), .int so, .int da] I J R (fun r I' J' R' => (XI g n L I' ∧ (RfX g R' ∧ (R' (ad g 5) 0 = R (ad g 5) 0 ∧ R' (ad g 0) 10 = R (ad g 0) 10) ∧ NL g R') ∧ fz 74 g [43, 44, 47, 48, 50, 51, 52, 56, 58] I I' ∧ (I' (ad g 56) 1).toInt ≤ (I (ad g 56) 1).toInt + 5940) ∧ r = none) := by
  refine SP_of ⟨by decide, rfl⟩ (Nat.le_of_ble_eq_true rfl) ?_
  have e13793 : I (ad g 1) 1 = L := hI.2
  have b13794 := BT_get hI.1 1 1 2 (0) (0) (900) (by decide) 1 (by decide) (by decide)
  rw [e13793] at b13794
  have fr0 : fz 74 g [43, 44, 47, 48, 50, 51, 52, 56, 58] I I := fz_rf
  obtain ⟨w13795, ew13795⟩ : ∃ w : Int32, I (ad g 56) 1 = w := ⟨_, rfl⟩
  have bw13795 := BT_get hI.1 56 1 2 (0) (23760) (700000) (by decide) 1 (by decide) (by decide)
  rw [ew13795] at bw13795
  rw [ew13795] at hb
  refine WP_iload_n dX9_serve_0 rfl ?_
  refine WQ_bipush (7) (7) dX9_serve_1 rfl rfl (fun v13796 hv13796 => ?_)
  refine WQ_imulk (7) dX9_serve_3 hv13796 (by omega) (by omega) (fun v13797 hv13797 => ?_)
  refine WP_istore (ls' := [(0, _), (1, _), (2, _), (3, _), (4, _)]) dX9_serve_4 (by decide) rfl ?_
  refine WP_aload_n dX9_serve_6 rfl ?_
  refine WP_getr dX9_serve_7 fX9_25 rfl (lyx_is hy 49 9 rfl) (rfx hr 49 2 5 (by decide)) ?_
  refine WP_getr dX9_serve_10 fX9_49 rfl (lyx_is hy 5 0 rfl) hT ?_
  refine WP_getr dX9_serve_13 fX9_71 rfl (lyx_is hy 6 7 rfl) (rfx hr 6 6 8 (by decide)) ?_
  refine WP_iload_n dX9_serve_16 rfl ?_
  refine WQ_iald dX9_serve_17 (lyx_is hy 8 13 rfl) (lyx_n hy 8 4 rfl) (by omega) (by omega) (fun q hq => BT_get hI.1 8 0 4 (0) (0) (99) (by decide) q (Nat.zero_le _) hq) (fun v13798 av13798 bv13798 ev13798 => ?_)
  clear ev13798
  refine WP_istore (ls' := [(0, _), (1, _), (2, _), (3, _), (4, _), (5, _)]) dX9_serve_18 (by decide) rfl ?_
  refine WP_aload_n dX9_serve_20 rfl ?_
  refine WP_getr dX9_serve_21 fX9_75 rfl (lyx_is hy 56 4 rfl) (rfx hr 56 5 58 (by decide)) ?_
  refine WP_iload dX9_serve_24 rfl ?_
  refine WQ_iconst (1) (1) dX9_serve_26 rfl rfl (fun v13799 hv13799 => ?_)
  refine WQ_iadd dX9_serve_27 (by omega) (by omega) (fun v13800 hv13800 => ?_)
  refine WQ_ialdf (q := 7 * so.toInt.toNat + 1) dX9_serve_28 (lyx_is hy 58 13 rfl) (lyx_n hy 58 28 rfl) (by omega) (by omega) (by omega) (fa_get1 hI (c := 58) (by decide) (by omega)) (fun v13801 av13801 bv13801 => ?_)
  refine WP_istore (ls' := [(0, _), (1, _), (2, _), (3, _), (4, _), (5, _), (6, _)]) dX9_serve_29 (by decide) rfl ?_
  refine WP_aload_n dX9_serve_31 rfl ?_
  refine WP_getr dX9_serve_32 fX9_25 rfl (lyx_is hy 49 9 rfl) (rfx hr 49 2 5 (by decide)) ?_
  refine WP_iload_n dX9_serve_35 rfl ?_
  refine WP_iload_n dX9_serve_36 rfl ?_
  refine WP_aload_n dX9_serve_37 rfl ?_
  refine WP_getr dX9_serve_38 fX9_75 rfl (lyx_is hy 56 4 rfl) (rfx hr 56 5 58 (by decide)) ?_
  refine WP_iload dX9_serve_41 rfl ?_
  refine WQ_iconst (0) (0) dX9_serve_43 rfl rfl (fun v13802 hv13802 => ?_)
  refine WQ_iadd dX9_serve_44 (by omega) (by omega) (fun v13803 hv13803 => ?_)
  refine WQ_ialdf (q := 7 * so.toInt.toNat) dX9_serve_45 (lyx_is hy 58 13 rfl) (lyx_n hy 58 28 rfl) (by omega) (by omega) (by omega) (fa_get0 hI (c := 58) (by decide) (by omega)) (fun v13804 av13804 bv13804 => ?_)
  refine WP_callV3 (k := 0) dX9_serve_46 ⟨⟨⟨by decide, by decide⟩, zX0_earned⟩, lX9_81, by decide, rfl, vX0_earned.1, vX0_earned.2⟩ (lyx_is hy 5 0 rfl) (sx_earned_6 hy hr hT hI so da v13804 (by omega) (by omega) (by omega) (by omega) (by omega) (by omega)) (Nat.le_of_ble_eq_true rfl) ?_
  intro r Ia Ja Ra hq
  obtain ⟨⟨ea, eb, ec⟩, v13805, rfl, av13805, bv13805, cv13805⟩ := hq
  show WP _ _ _ _ (.int _ :: _) _ _ _ _
  rw [ea, eb, ec]
  clear ea eb ec Ia Ja Ra
  refine WP_istore (ls' := [(0, _), (1, _), (2, _), (3, _), (4, _), (5, _), (6, _), (7, _)]) dX9_serve_49 (by decide) rfl ?_
  refine WP_aload_n dX9_serve_51 rfl ?_
  refine WP_getr dX9_serve_52 fX9_85 rfl (lyx_is hy 56 4 rfl) (rfx hr 56 4 57 (by decide)) ?_
  refine WP_iload_n dX9_serve_55 rfl ?_
  refine WQ_ialdu dX9_serve_56 (lyx_is hy 57 13 rfl) (lyx_n hy 57 4 rfl) (by omega) (by omega) (fun v13806 => ?_)
  refine WP_istore (ls' := [(0, _), (1, _), (2, _), (3, _), (4, _), (5, _), (6, _), (7, _), (8, _)]) dX9_serve_57 (by decide) rfl ?_
  refine WP_aload_n dX9_serve_59 rfl ?_
  refine WP_getr dX9_serve_60 fX9_12 rfl (lyx_is hy 49 9 rfl) (rfx hr 49 0 50 (by decide)) ?_
  refine WP_aload_n dX9_serve_63 rfl ?_
  refine WP_getr dX9_serve_64 fX9_25 rfl (lyx_is hy 49 9 rfl) (rfx hr 49 2 5 (by decide)) ?_
  refine WP_iload_n dX9_serve_67 rfl ?_
  refine WP_iload_n dX9_serve_68 rfl ?_
  refine WP_callV3 (k := 6) dX9_serve_69 ⟨⟨⟨by decide, by decide⟩, zX6_load⟩, lX9_88, by decide, rfl, vX6_load.1, vX6_load.2⟩ (lyx_is hy 50 6 rfl) (sx_loadx_50_6 hy hr hT hI so da (by omega) (by omega) (by omega) (by omega)) (Nat.le_of_ble_eq_true rfl) ?_
  intro r I13807 J13808 Ra hq
  obtain ⟨⟨hI13807, ec, fiI13807, ejI13807, pI13807⟩, rfl⟩ := hq
  rw [ec]
  clear ec Ra
  have fr13809 : fz 74 g [43, 44, 47, 48, 50, 51, 52, 56, 58] I I13807 := fz_tr fr0 (fz_mono fiI13807 (by decide))
  rw [ejI13807]
  clear ejI13807 J13808
  have e13810 : I13807 (ad g 56) 1 = w13795 := by rw [fz_at fiI13807 56 (by decide) (by decide)]; exact ew13795
  have e13811 : I13807 (ad g 1) 1 = L := hI13807.2
  have b13812 := BT_get hI13807.1 1 1 2 (0) (0) (900) (by decide) 1 (by decide) (by decide)
  rw [e13811] at b13812
  refine WP_iload dX9_serve_72 rfl ?_
  refine WQ_iconst (3) (3) dX9_serve_74 rfl rfl (fun v13813 hv13813 => ?_)
  refine WQ_icmp_ne 96 dX9_serve_75 rfl (fun c13813 => ?_) (fun c13813 => ?_)
  · refine WP_aload_n dX9_serve_96 rfl ?_
    refine WP_getr dX9_serve_97 fX9_12 rfl (lyx_is hy 49 9 rfl) (rfx hr 49 0 50 (by decide)) ?_
    refine WP_iload dX9_serve_100 rfl ?_
    refine WP_iload dX9_serve_102 rfl ?_
    refine WP_iload dX9_serve_104 rfl ?_
    refine WP_callV3 (k := 6) dX9_serve_106 ⟨⟨⟨by decide, by decide⟩, zX6_habit⟩, lX9_98, by decide, rfl, vX6_habit.1, vX6_habit.2⟩ (lyx_is hy 50 6 rfl) (sx_habita hy hr hI13807 v13806 v13805 v13801  (by omega) (by omega) (by omega) (by omega)) (Nat.le_of_ble_eq_true rfl) ?_
    intro r Ia Ja Ra hq
    obtain ⟨⟨ea, eb, ec⟩, v13815, rfl, av13815, bv13815, cv13815⟩ := hq
    show WP _ _ _ _ (.int _ :: _) _ _ _ _
    rw [ea, eb, ec]
    clear ea eb ec Ia Ja Ra
    have acv13815 : AOKd (I13807 (ad g 50)) v13805.toInt v13801.toInt v13815.toInt := by unfold AOKd; exact ⟨by omega, by omega, cv13815.1, cv13815.2.1, cv13815.2.2⟩
    obtain ⟨w13816, ew13816⟩ : ∃ w : Int32, I13807 (ad g 50) 3 = w := ⟨_, rfl⟩
    have bw13816 := BT_get hI13807.1 50 3 4 (0) (0) (20) (by decide) 3 (by decide) (by decide)
    rw [ew13816] at bw13816
    obtain ⟨w13817, ew13817⟩ : ∃ w : Int32, I13807 (ad g 50) 4 = w := ⟨_, rfl⟩
    have bw13817 := BT_get hI13807.1 50 4 5 (0) (0) (20) (by decide) 4 (by decide) (by decide)
    rw [ew13817] at bw13817
    have adv13815 := acv13815
    unfold AOKd at adv13815
    rw [ew13816, ew13817] at adv13815
    obtain ⟨rav13815, rbv13815, rcv13815, rdv13815, rev13815⟩ := adv13815
    refine WP_istore (ls' := [(0, _), (1, _), (2, _), (3, _), (4, _), (5, _), (6, _), (7, _), (8, _), (9, _)]) dX9_serve_109 (by decide) rfl ?_
    refine WP_aload_n dX9_serve_111 rfl ?_
    refine WP_aload_n dX9_serve_112 rfl ?_
    refine WP_getr dX9_serve_113 fX9_12 rfl (lyx_is hy 49 9 rfl) (rfx hr 49 0 50 (by decide)) ?_
    refine WQ_geti dX9_serve_116 fX9_101 rfl (lyx_is hy 50 6 rfl) (BT_get hI13807.1 50 0 1 (-1) (0) (2) (by decide) 0 (by decide) (by decide)) (fun v13818 ev13818 av13818 bv13818 => ?_)
    refine WP_iload dX9_serve_119 rfl ?_
    refine WQ_iconst (3) (3) dX9_serve_121 rfl rfl (fun v13819 hv13819 => ?_)
    refine WQ_iand3 dX9_serve_122 hv13819 (by omega) (by omega) (fun v13820 hv13820 => ?_)
    refine WP_iload dX9_serve_123 rfl ?_
    refine WP_iload_n dX9_serve_125 rfl ?_
    refine WP_callV4 (k := 9) dX9_serve_126 ⟨⟨⟨by decide, by decide⟩, zX9_buy⟩, lX9_104, by decide, rfl, vX9_buy.1, vX9_buy.2⟩ (lyx_is hy 49 9 rfl) (sx_buyf hy hr hI13807 v13818 v13820 v13798 da (by omega) (by omega) (by omega) (by omega) (by omega) (by omega) (by omega) (by omega)) (Nat.le_of_ble_eq_true rfl) ?_
    intro r I13821 J13822 Ra hq
    obtain ⟨⟨hI13821, ec, fiI13821⟩, v13823, rfl, av13823, bv13823, cv13823⟩ := hq
    show WP _ _ _ _ (.int _ :: _) _ _ _ _
    rw [ec]
    clear ec Ra
    have fr13824 : fz 74 g [43, 44, 47, 48, 50, 51, 52, 56, 58] I I13821 := fz_tr fr13809 (fz_mono fiI13821 (by decide))
    have e13825 : I13821 (ad g 56) 1 = w13795 := by rw [fz_at fiI13821 56 (by decide) (by decide)]; exact e13810
    have e13826 : I13821 (ad g 50) 3 = w13816 := by rw [fz_at fiI13821 50 (by decide) (by decide)]; exact ew13816
    have e13827 : I13821 (ad g 50) 4 = w13817 := by rw [fz_at fiI13821 50 (by decide) (by decide)]; exact ew13817
    have e13828 : I13821 (ad g 50) 0 = v13818 := by rw [fz_at fiI13821 50 (by decide) (by decide)]; exact ev13818
    have e13829 : I13821 (ad g 1) 1 = L := hI13821.2
    have b13830 := BT_get hI13821.1 1 1 2 (0) (0) (900) (by decide) 1 (by decide) (by decide)
    rw [e13829] at b13830
    refine WP_istore (ls' := [(0, _), (1, _), (2, _), (3, _), (4, _), (5, _), (6, _), (7, _), (8, _), (9, _), (10, _)]) dX9_serve_129 (by decide) rfl ?_
    refine WP_iload dX9_serve_131 rfl ?_
    refine WQ_iconst (2) (2) dX9_serve_133 rfl rfl (fun v13831 hv13831 => ?_)
    refine WQ_ishr2 dX9_serve_134 hv13831 (by omega) (by omega) (fun v13832 hv13832 => ?_)
    refine WQ_iconst (3) (3) dX9_serve_135 rfl rfl (fun v13833 hv13833 => ?_)
    refine WQ_iand3 dX9_serve_136 hv13833 (by omega) (by omega) (fun v13834 hv13834 => ?_)
    refine WP_istore (ls' := [(0, _), (1, _), (2, _), (3, _), (4, _), (5, _), (6, _), (7, _), (8, _), (9, _), (10, _), (11, _)]) dX9_serve_137 (by decide) rfl ?_
    refine WP_aload_n dX9_serve_139 rfl ?_
    refine WP_aload_n dX9_serve_140 rfl ?_
    refine WP_getr dX9_serve_141 fX9_25 rfl (lyx_is hy 49 9 rfl) (rfx hr 49 2 5 (by decide)) ?_
    refine WP_getr dX9_serve_144 fX9_49 rfl (lyx_is hy 5 0 rfl) hT ?_
    refine WQ_geti dX9_serve_147 fX9_108 rfl (lyx_is hy 6 7 rfl) (BT_get hI13821.1 6 4 5 (-1) (0) (2) (by decide) 4 (by decide) (by decide)) (fun v13835 ev13835 av13835 bv13835 => ?_)
    refine WP_iload dX9_serve_150 rfl ?_
    refine WQ_iconst (4) (4) dX9_serve_152 rfl rfl (fun v13836 hv13836 => ?_)
    refine WQ_ishr4 dX9_serve_153 hv13836 (by omega) (by omega) (fun v13837 hv13837 => ?_)
    refine WP_iload dX9_serve_154 rfl ?_
    refine WP_iload_n dX9_serve_156 rfl ?_
    refine WP_callV4 (k := 9) dX9_serve_157 ⟨⟨⟨by decide, by decide⟩, zX9_buy⟩, lX9_104, by decide, rfl, vX9_buy.1, vX9_buy.2⟩ (lyx_is hy 49 9 rfl) (sx_buyf hy hr hI13821 v13835 v13837 v13798 da (by omega) (by omega) (by omega) (by omega) (by omega) (by omega) (by omega) (by omega)) (Nat.le_of_ble_eq_true rfl) ?_
    intro r I13838 J13839 Ra hq
    obtain ⟨⟨hI13838, ec, fiI13838⟩, v13840, rfl, av13840, bv13840, cv13840⟩ := hq
    show WP _ _ _ _ (.int _ :: _) _ _ _ _
    rw [ec]
    clear ec Ra
    have fr13841 : fz 74 g [43, 44, 47, 48, 50, 51, 52, 56, 58] I I13838 := fz_tr fr13824 (fz_mono fiI13838 (by decide))
    have e13842 : I13838 (ad g 56) 1 = w13795 := by rw [fz_at fiI13838 56 (by decide) (by decide)]; exact e13825
    have e13843 : I13838 (ad g 50) 3 = w13816 := by rw [fz_at fiI13838 50 (by decide) (by decide)]; exact e13826
    have e13844 : I13838 (ad g 50) 4 = w13817 := by rw [fz_at fiI13838 50 (by decide) (by decide)]; exact e13827
    have e13845 : I13838 (ad g 50) 0 = v13818 := by rw [fz_at fiI13838 50 (by decide) (by decide)]; exact e13828
    have e13846 : I13838 (ad g 6) 4 = v13835 := by rw [fz_at fiI13838 6 (by decide) (by decide)]; exact ev13835
    have e13847 : I13838 (ad g 1) 1 = L := hI13838.2
    have b13848 := BT_get hI13838.1 1 1 2 (0) (0) (900) (by decide) 1 (by decide) (by decide)
    rw [e13847] at b13848
    refine WP_istore (ls' := [(0, _), (1, _), (2, _), (3, _), (4, _), (5, _), (6, _), (7, _), (8, _), (9, _), (10, _), (11, _), (12, _)]) dX9_serve_160 (by decide) rfl ?_
    refine WP_aload_n dX9_serve_162 rfl ?_
    refine WP_getr dX9_serve_163 fX9_12 rfl (lyx_is hy 49 9 rfl) (rfx hr 49 0 50 (by decide)) ?_
    refine WP_iload dX9_serve_166 rfl ?_
    refine WP_iload dX9_serve_168 rfl ?_
    refine WP_callV2 (k := 6) dX9_serve_170 ⟨⟨⟨by decide, by decide⟩, zX6_priceOf⟩, lX9_111, by decide, rfl, vX6_priceOf.1, vX6_priceOf.2⟩ (lyx_is hy 50 6 rfl) (sx_pricex hy hr hI13838 v13823 v13840 (by omega) (by omega) (by omega) (by omega)) (Nat.le_of_ble_eq_true rfl) ?_
    intro r Ia Ja Ra hq
    obtain ⟨⟨ea, eb, ec⟩, v13849, rfl, av13849, bv13849, cv13849⟩ := hq
    show WP _ _ _ _ (.int _ :: _) _ _ _ _
    rw [ea, eb, ec]
    clear ea eb ec Ia Ja Ra
    rw [e13843] at cv13849
    rw [e13844] at cv13849
    have k1 : v13823.toInt * w13816.toInt ≤ (v13815.toInt % 4) * w13816.toInt := Int.mul_le_mul_of_nonneg_right (by omega) (by omega)
    have k2 : v13840.toInt * w13817.toInt ≤ (v13815.toInt / 16) * w13817.toInt := Int.mul_le_mul_of_nonneg_right (by omega) (by omega)
    have kp : v13849.toInt ≤ v13805.toInt := by omega
    refine WP_istore (ls' := [(0, _), (1, _), (2, _), (3, _), (4, _), (5, _), (6, _), (7, _), (8, _), (9, _), (10, _), (11, _), (12, _), (13, _)]) dX9_serve_173 (by decide) rfl ?_
    refine WP_aload_n dX9_serve_175 rfl ?_
    refine WP_dup dX9_serve_176 rfl ?_
    refine WQ_getiu dX9_serve_177 fX9_114 rfl (lyx_is hy 56 4 rfl) (fun v13850 ev13850 => ?_)
    refine WP_iload dX9_serve_180 rfl ?_
    refine WP_iload dX9_serve_182 rfl ?_
    refine WP_iload dX9_serve_184 rfl ?_
    refine WQ_iadd dX9_serve_186 (by omega) (by omega) (fun v13851 hv13851 => ?_)
    refine WQ_imulb (99) (6) dX9_serve_187 ⟨by omega, by omega⟩ ⟨by omega, by omega⟩ (by decide) (fun v13852 pv13852 av13852 bv13852 cv13852 => ?_)
    refine WQ_iaddu dX9_serve_188 (fun v13853 => ?_)
    refine WQ_puti dX9_serve_189 fX9_114 rfl rfl (lyx_is hy 56 4 rfl) (fun I13854 eI13854 => ?_)
    have hI13854 : XI g n L I13854 := by rw [eI13854]; exact (xi_f0 hy hI13838 (c := 56) (by decide) (Or.inl (by decide)) (by decide))
    have e13855 : I13854 (ad g 56) 1 = w13795 := by rw [eI13854, pp_ne _ _ (Or.inr (by decide))]; exact e13842
    have e13856 : I13854 (ad g 50) 3 = w13816 := by rw [eI13854, pp_ne _ _ (Or.inl (lyx_ne hy (by decide) (by decide) (by decide)))]; exact e13843
    have e13857 : I13854 (ad g 50) 4 = w13817 := by rw [eI13854, pp_ne _ _ (Or.inl (lyx_ne hy (by decide) (by decide) (by decide)))]; exact e13844
    have e13858 : I13854 (ad g 50) 0 = v13818 := by rw [eI13854, pp_ne _ _ (Or.inl (lyx_ne hy (by decide) (by decide) (by decide)))]; exact e13845
    have e13859 : I13854 (ad g 6) 4 = v13835 := by rw [eI13854, pp_ne _ _ (Or.inl (lyx_ne hy (by decide) (by decide) (by decide)))]; exact e13846
    have e13860 : I13854 (ad g 1) 1 = L := by rw [eI13854, pp_ne _ _ (Or.inl (lyx_ne hy (by decide) (by decide) (by decide)))]; exact e13847
    have e13861 : I13854 (ad g 56) 2 = v13853 := by rw [eI13854, pp_self]
    have fr13862 : fz 74 g [43, 44, 47, 48, 50, 51, 52, 56, 58] I I13854 := by rw [eI13854]; exact fzx_pp hy fr13841 (by decide) (by decide)
    clear eI13854
    refine WP_aload_n dX9_serve_192 rfl ?_
    refine WP_dup dX9_serve_193 rfl ?_
    refine WQ_getl dX9_serve_194 fX9_117 rfl (lyx_is hy 56 4 rfl) (fun l13863 el13863 => ?_)
    refine WP_iload dX9_serve_197 rfl ?_
    refine WP_iload dX9_serve_199 rfl ?_
    refine WP_iload dX9_serve_201 rfl ?_
    refine WQ_isub dX9_serve_203 (by omega) (by omega) (fun v13864 hv13864 => ?_)
    refine WQ_imulu dX9_serve_204 (fun v13865 => ?_)
    refine WQ_i2l dX9_serve_205 (fun l13866 hl13866 => ?_)
    refine WQ_ladd dX9_serve_206 (fun l13867 => ?_)
    refine WQ_putl dX9_serve_207 fX9_117 rfl rfl (lyx_is hy 56 4 rfl) (fun J13868 eJ13868 => ?_)
    clear eJ13868
    refine WP_aload_n dX9_serve_210 rfl ?_
    refine WP_getr dX9_serve_211 fX9_75 rfl (lyx_is hy 56 4 rfl) (rfx hr 56 5 58 (by decide)) ?_
    refine WP_iload dX9_serve_214 rfl ?_
    refine WQ_iconst (2) (2) dX9_serve_216 rfl rfl (fun v13869 hv13869 => ?_)
    refine WQ_iadd dX9_serve_217 (by omega) (by omega) (fun v13870 hv13870 => ?_)
    refine WP_dup2 dX9_serve_218 rfl rfl ?_
    refine WQ_ialdu dX9_serve_219 (lyx_is hy 58 13 rfl) (lyx_n hy 58 28 rfl) (by omega) (by omega) (fun v13871 => ?_)
    refine WP_iload dX9_serve_220 rfl ?_
    refine WP_iload dX9_serve_222 rfl ?_
    refine WQ_imulb (99) (60) dX9_serve_224 ⟨by omega, by omega⟩ ⟨by omega, by omega⟩ (by decide) (fun v13872 pv13872 av13872 bv13872 cv13872 => ?_)
    refine WQ_iaddu dX9_serve_225 (fun v13873 => ?_)
    refine WQ_iast dX9_serve_226 (lyx_is hy 58 13 rfl) (lyx_n hy 58 28 rfl) (by omega) (by omega) (fun I13874 eI13874 => ?_)
    have hI13874 : XI g n L I13874 := by rw [eI13874]; exact (fa_put hy hI13854 (c := 58) (k := 2) (s := so.toInt.toNat) (by decide) (by omega) (by decide) (by rw [cl (n := 7 * so.toInt.toNat + 2) (by omega)]) (fun h => absurd h (by decide)) (fun h => absurd h (by decide)))
    have e13875 : I13874 (ad g 56) 1 = w13795 := by rw [eI13874, pp_ne _ _ (Or.inl (lyx_ne hy (by decide) (by decide) (by decide)))]; exact e13855
    have e13876 : I13874 (ad g 50) 3 = w13816 := by rw [eI13874, pp_ne _ _ (Or.inl (lyx_ne hy (by decide) (by decide) (by decide)))]; exact e13856
    have e13877 : I13874 (ad g 50) 4 = w13817 := by rw [eI13874, pp_ne _ _ (Or.inl (lyx_ne hy (by decide) (by decide) (by decide)))]; exact e13857
    have e13878 : I13874 (ad g 50) 0 = v13818 := by rw [eI13874, pp_ne _ _ (Or.inl (lyx_ne hy (by decide) (by decide) (by decide)))]; exact e13858
    have e13879 : I13874 (ad g 6) 4 = v13835 := by rw [eI13874, pp_ne _ _ (Or.inl (lyx_ne hy (by decide) (by decide) (by decide)))]; exact e13859
    have e13880 : I13874 (ad g 1) 1 = L := by rw [eI13874, pp_ne _ _ (Or.inl (lyx_ne hy (by decide) (by decide) (by decide)))]; exact e13860
    have e13881 : I13874 (ad g 56) 2 = v13853 := by rw [eI13874, pp_ne _ _ (Or.inl (lyx_ne hy (by decide) (by decide) (by decide)))]; exact e13861
    have fr13882 : fz 74 g [43, 44, 47, 48, 50, 51, 52, 56, 58] I I13874 := by rw [eI13874]; exact fzx_pp hy fr13862 (by decide) (by decide)
    clear eI13874
    refine WP_aload_n dX9_serve_227 rfl ?_
    refine WP_getr dX9_serve_228 fX9_75 rfl (lyx_is hy 56 4 rfl) (rfx hr 56 5 58 (by decide)) ?_
    refine WP_iload dX9_serve_231 rfl ?_
    refine WQ_iconst (4) (4) dX9_serve_233 rfl rfl (fun v13883 hv13883 => ?_)
    refine WQ_iadd dX9_serve_234 (by omega) (by omega) (fun v13884 hv13884 => ?_)
    refine WP_dup2 dX9_serve_235 rfl rfl ?_
    refine WQ_ialdu dX9_serve_236 (lyx_is hy 58 13 rfl) (lyx_n hy 58 28 rfl) (by omega) (by omega) (fun v13885 => ?_)
    refine WP_iload dX9_serve_237 rfl ?_
    refine WP_aload_n dX9_serve_239 rfl ?_
    refine WP_getr dX9_serve_240 fX9_12 rfl (lyx_is hy 49 9 rfl) (rfx hr 49 0 50 (by decide)) ?_
    refine WQ_geti dX9_serve_243 fX9_121 rfl (lyx_is hy 50 6 rfl) (BT_get hI13874.1 50 2 3 (0) (0) (99) (by decide) 2 (by decide) (by decide)) (fun v13886 ev13886 av13886 bv13886 => ?_)
    refine WQ_imulb (99) (99) dX9_serve_246 ⟨by omega, by omega⟩ ⟨by omega, by omega⟩ (by decide) (fun v13887 pv13887 av13887 bv13887 cv13887 => ?_)
    refine WP_iload dX9_serve_247 rfl ?_
    refine WP_iload dX9_serve_249 rfl ?_
    refine WQ_iadd dX9_serve_251 (by omega) (by omega) (fun v13888 hv13888 => ?_)
    refine WQ_imulb (9801) (6) dX9_serve_252 ⟨by omega, by omega⟩ ⟨by omega, by omega⟩ (by decide) (fun v13889 pv13889 av13889 bv13889 cv13889 => ?_)
    refine WQ_iaddu dX9_serve_253 (fun v13890 => ?_)
    refine WQ_iast dX9_serve_254 (lyx_is hy 58 13 rfl) (lyx_n hy 58 28 rfl) (by omega) (by omega) (fun I13891 eI13891 => ?_)
    have hI13891 : XI g n L I13891 := by rw [eI13891]; exact (fa_put hy hI13874 (c := 58) (k := 4) (s := so.toInt.toNat) (by decide) (by omega) (by decide) (by rw [cl (n := 7 * so.toInt.toNat + 4) (by omega)]) (fun h => absurd h (by decide)) (fun h => absurd h (by decide)))
    have e13892 : I13891 (ad g 56) 1 = w13795 := by rw [eI13891, pp_ne _ _ (Or.inl (lyx_ne hy (by decide) (by decide) (by decide)))]; exact e13875
    have e13893 : I13891 (ad g 50) 3 = w13816 := by rw [eI13891, pp_ne _ _ (Or.inl (lyx_ne hy (by decide) (by decide) (by decide)))]; exact e13876
    have e13894 : I13891 (ad g 50) 4 = w13817 := by rw [eI13891, pp_ne _ _ (Or.inl (lyx_ne hy (by decide) (by decide) (by decide)))]; exact e13877
    have e13895 : I13891 (ad g 50) 0 = v13818 := by rw [eI13891, pp_ne _ _ (Or.inl (lyx_ne hy (by decide) (by decide) (by decide)))]; exact e13878
    have e13896 : I13891 (ad g 6) 4 = v13835 := by rw [eI13891, pp_ne _ _ (Or.inl (lyx_ne hy (by decide) (by decide) (by decide)))]; exact e13879
    have e13897 : I13891 (ad g 1) 1 = L := by rw [eI13891, pp_ne _ _ (Or.inl (lyx_ne hy (by decide) (by decide) (by decide)))]; exact e13880
    have e13898 : I13891 (ad g 56) 2 = v13853 := by rw [eI13891, pp_ne _ _ (Or.inl (lyx_ne hy (by decide) (by decide) (by decide)))]; exact e13881
    have e13899 : I13891 (ad g 50) 2 = v13886 := by rw [eI13891, pp_ne _ _ (Or.inl (lyx_ne hy (by decide) (by decide) (by decide)))]; exact ev13886
    have fr13900 : fz 74 g [43, 44, 47, 48, 50, 51, 52, 56, 58] I I13891 := by rw [eI13891]; exact fzx_pp hy fr13882 (by decide) (by decide)
    clear eI13891
    refine WP_aload_n dX9_serve_255 rfl ?_
    refine WP_aload_n dX9_serve_256 rfl ?_
    refine WP_iload_n dX9_serve_257 rfl ?_
    refine WP_iload_n dX9_serve_258 rfl ?_
    refine WP_iload dX9_serve_259 rfl ?_
    refine WP_iload dX9_serve_261 rfl ?_
    refine WQ_isub dX9_serve_263 (by omega) (by omega) (fun v13901 hv13901 => ?_)
    refine WP_iload dX9_serve_264 rfl ?_
    refine WP_iload dX9_serve_266 rfl ?_
    refine WQ_isub dX9_serve_268 (by omega) (by omega) (fun v13902 hv13902 => ?_)
    refine WP_iload dX9_serve_269 rfl ?_
    refine WQ_iadd dX9_serve_271 (by omega) (by omega) (fun v13903 hv13903 => ?_)
    refine WP_callV5 (k := 9) dX9_serve_272 ⟨⟨⟨by decide, by decide⟩, zX9_sleep⟩, lX9_124, by decide, rfl, vX9_sleep.1, vX9_sleep.2⟩ (lyx_is hy 49 9 rfl) (sx_wsleepf_56_6 hy hr hT hI13891 so da v13901 v13903 (by omega) (by omega) (by omega) (by omega) (by omega) (by omega) (by omega) (by omega) (by omega) (by rw [e13892]; omega)) (Nat.le_of_ble_eq_true rfl) ?_
    intro r I13904 J13905 Ra hq
    obtain ⟨⟨hI13904, ec, fiI13904, pI13904⟩, rfl⟩ := hq
    rw [ec]
    clear ec Ra
    have fr13906 : fz 74 g [43, 44, 47, 48, 50, 51, 52, 56, 58] I I13904 := fz_tr fr13900 (fz_mono fiI13904 (by decide))
    have e13907 : I13904 (ad g 50) 3 = w13816 := by rw [fz_at fiI13904 50 (by decide) (by decide)]; exact e13893
    have e13908 : I13904 (ad g 50) 4 = w13817 := by rw [fz_at fiI13904 50 (by decide) (by decide)]; exact e13894
    have e13909 : I13904 (ad g 50) 0 = v13818 := by rw [fz_at fiI13904 50 (by decide) (by decide)]; exact e13895
    have e13910 : I13904 (ad g 6) 4 = v13835 := by rw [fz_at fiI13904 6 (by decide) (by decide)]; exact e13896
    have e13911 : I13904 (ad g 50) 2 = v13886 := by rw [fz_at fiI13904 50 (by decide) (by decide)]; exact e13899
    have e13912 : I13904 (ad g 1) 1 = L := hI13904.2
    have b13913 := BT_get hI13904.1 1 1 2 (0) (0) (900) (by decide) 1 (by decide) (by decide)
    rw [e13912] at b13913
    obtain ⟨w13914, ew13914⟩ : ∃ w : Int32, I13904 (ad g 56) 1 = w := ⟨_, rfl⟩
    have bw13914 := BT_get hI13904.1 56 1 2 (0) (23760) (700000) (by decide) 1 (by decide) (by decide)
    rw [ew13914] at bw13914
    rw [ew13914, e13892] at pI13904
    exact WP_vret dX9_serve_275 rfl ⟨⟨hI13904, ⟨hr, ⟨hT.trans hT.symm, rfl⟩, hP⟩, fr13906, (by rw [ew13914, ew13795]; omega)⟩, rfl⟩
  · refine WP_aload_n dX9_serve_78 rfl ?_
    refine WP_getr dX9_serve_79 fX9_29 rfl (lyx_is hy 49 9 rfl) (rfx hr 49 3 43 (by decide)) ?_
    refine WP_iload_n dX9_serve_82 rfl ?_
    refine WP_iload_n dX9_serve_83 rfl ?_
    refine WP_iload dX9_serve_84 rfl ?_
    refine WP_iload dX9_serve_86 rfl ?_
    refine WQ_bipush (7) (7) dX9_serve_88 rfl rfl (fun v13915 hv13915 => ?_)
    refine WP_callV5 (k := 2) dX9_serve_90 ⟨⟨⟨by decide, by decide⟩, zX2_search⟩, lX9_92, by decide, rfl, vX2_search.1, vX2_search.2⟩ (lyx_is hy 43 2 rfl) (sx_searchx_6 hy hr hP hT hI13807 so da v13805 v13801 v13915 (by omega) (by omega) (by omega) (by omega) (by omega) (by omega) (by omega) (by omega) (by omega) (by omega)) (Nat.le_of_ble_eq_true rfl) ?_
    intro r I13916 J13917 R13918 hq
    obtain ⟨⟨hI13916, ⟨hrI13916, ⟨htI13916, hsI13916⟩, hpI13916⟩, fiI13916, fjI13916⟩, v13919, rfl, av13919, bv13919, cv13919⟩ := hq
    show WP _ _ _ _ (.int _ :: _) _ _ _ _
    have ht_I13916 := htI13916.trans hT
    have hs_I13916 : R13918 (ad g 0) 10 = R (ad g 0) 10 := hsI13916.trans rfl
    have fr13920 : fz 74 g [43, 44, 47, 48, 50, 51, 52, 56, 58] I I13916 := fz_tr fr13809 (fz_mono fiI13916 (by decide))
    have e13921 : I13916 (ad g 56) 1 = w13795 := by rw [fz_at fiI13916 56 (by decide) (by decide)]; exact e13810
    have e13922 : I13916 (ad g 1) 1 = L := hI13916.2
    have b13923 := BT_get hI13916.1 1 1 2 (0) (0) (900) (by decide) 1 (by decide) (by decide)
    rw [e13922] at b13923
    refine WP_goto 109 dX9_serve_93 rfl ?_
    obtain ⟨T9, t1, t2⟩ := cv13919
    have acv13919 : AOKd (I13807 (ad g 50)) v13805.toInt v13801.toInt v13919.toInt := AOK_eq (LD_un t1 (LD_fr pI13807 (fz_at fiI13807 6 (by decide) (by decide)).symm (fz_at fiI13807 11 (by decide) (by decide)).symm (fz_at fiI13807 13 (by decide) (by decide)).symm (fz_at fiI13807 14 (by decide) (by decide)).symm (fz_at fiI13807 15 (by decide) (by decide)).symm (fz_at fiI13807 22 (by decide) (by decide)).symm)) t2
    obtain ⟨w13924, ew13924⟩ : ∃ w : Int32, I13916 (ad g 50) 3 = w := ⟨_, rfl⟩
    have bw13924 := BT_get hI13916.1 50 3 4 (0) (0) (20) (by decide) 3 (by decide) (by decide)
    rw [ew13924] at bw13924
    obtain ⟨w13925, ew13925⟩ : ∃ w : Int32, I13916 (ad g 50) 4 = w := ⟨_, rfl⟩
    have bw13925 := BT_get hI13916.1 50 4 5 (0) (0) (20) (by decide) 4 (by decide) (by decide)
    rw [ew13925] at bw13925
    have adv13919 := acv13919
    unfold AOKd at adv13919
    rw [← fz_at fiI13916 50 (by decide) (by decide)] at adv13919
    rw [ew13924, ew13925] at adv13919
    obtain ⟨rav13919, rbv13919, rcv13919, rdv13919, rev13919⟩ := adv13919
    refine WP_istore (ls' := [(0, _), (1, _), (2, _), (3, _), (4, _), (5, _), (6, _), (7, _), (8, _), (9, _)]) dX9_serve_109 (by decide) rfl ?_
    refine WP_aload_n dX9_serve_111 rfl ?_
    refine WP_aload_n dX9_serve_112 rfl ?_
    refine WP_getr dX9_serve_113 fX9_12 rfl (lyx_is hy 49 9 rfl) (rfx hrI13916 49 0 50 (by decide)) ?_
    refine WQ_geti dX9_serve_116 fX9_101 rfl (lyx_is hy 50 6 rfl) (BT_get hI13916.1 50 0 1 (-1) (0) (2) (by decide) 0 (by decide) (by decide)) (fun v13926 ev13926 av13926 bv13926 => ?_)
    refine WP_iload dX9_serve_119 rfl ?_
    refine WQ_iconst (3) (3) dX9_serve_121 rfl rfl (fun v13927 hv13927 => ?_)
    refine WQ_iand3 dX9_serve_122 hv13927 (by omega) (by omega) (fun v13928 hv13928 => ?_)
    refine WP_iload dX9_serve_123 rfl ?_
    refine WP_iload_n dX9_serve_125 rfl ?_
    refine WP_callV4 (k := 9) dX9_serve_126 ⟨⟨⟨by decide, by decide⟩, zX9_buy⟩, lX9_104, by decide, rfl, vX9_buy.1, vX9_buy.2⟩ (lyx_is hy 49 9 rfl) (sx_buyf hy hrI13916 hI13916 v13926 v13928 v13798 da (by omega) (by omega) (by omega) (by omega) (by omega) (by omega) (by omega) (by omega)) (Nat.le_of_ble_eq_true rfl) ?_
    intro r I13929 J13930 Ra hq
    obtain ⟨⟨hI13929, ec, fiI13929⟩, v13931, rfl, av13931, bv13931, cv13931⟩ := hq
    show WP _ _ _ _ (.int _ :: _) _ _ _ _
    rw [ec]
    clear ec Ra
    have fr13932 : fz 74 g [43, 44, 47, 48, 50, 51, 52, 56, 58] I I13929 := fz_tr fr13920 (fz_mono fiI13929 (by decide))
    have e13933 : I13929 (ad g 56) 1 = w13795 := by rw [fz_at fiI13929 56 (by decide) (by decide)]; exact e13921
    have e13934 : I13929 (ad g 50) 3 = w13924 := by rw [fz_at fiI13929 50 (by decide) (by decide)]; exact ew13924
    have e13935 : I13929 (ad g 50) 4 = w13925 := by rw [fz_at fiI13929 50 (by decide) (by decide)]; exact ew13925
    have e13936 : I13929 (ad g 50) 0 = v13926 := by rw [fz_at fiI13929 50 (by decide) (by decide)]; exact ev13926
    have e13937 : I13929 (ad g 1) 1 = L := hI13929.2
    have b13938 := BT_get hI13929.1 1 1 2 (0) (0) (900) (by decide) 1 (by decide) (by decide)
    rw [e13937] at b13938
    refine WP_istore (ls' := [(0, _), (1, _), (2, _), (3, _), (4, _), (5, _), (6, _), (7, _), (8, _), (9, _), (10, _)]) dX9_serve_129 (by decide) rfl ?_
    refine WP_iload dX9_serve_131 rfl ?_
    refine WQ_iconst (2) (2) dX9_serve_133 rfl rfl (fun v13939 hv13939 => ?_)
    refine WQ_ishr2 dX9_serve_134 hv13939 (by omega) (by omega) (fun v13940 hv13940 => ?_)
    refine WQ_iconst (3) (3) dX9_serve_135 rfl rfl (fun v13941 hv13941 => ?_)
    refine WQ_iand3 dX9_serve_136 hv13941 (by omega) (by omega) (fun v13942 hv13942 => ?_)
    refine WP_istore (ls' := [(0, _), (1, _), (2, _), (3, _), (4, _), (5, _), (6, _), (7, _), (8, _), (9, _), (10, _), (11, _)]) dX9_serve_137 (by decide) rfl ?_
    refine WP_aload_n dX9_serve_139 rfl ?_
    refine WP_aload_n dX9_serve_140 rfl ?_
    refine WP_getr dX9_serve_141 fX9_25 rfl (lyx_is hy 49 9 rfl) (rfx hrI13916 49 2 5 (by decide)) ?_
    refine WP_getr dX9_serve_144 fX9_49 rfl (lyx_is hy 5 0 rfl) ht_I13916 ?_
    refine WQ_geti dX9_serve_147 fX9_108 rfl (lyx_is hy 6 7 rfl) (BT_get hI13929.1 6 4 5 (-1) (0) (2) (by decide) 4 (by decide) (by decide)) (fun v13943 ev13943 av13943 bv13943 => ?_)
    refine WP_iload dX9_serve_150 rfl ?_
    refine WQ_iconst (4) (4) dX9_serve_152 rfl rfl (fun v13944 hv13944 => ?_)
    refine WQ_ishr4 dX9_serve_153 hv13944 (by omega) (by omega) (fun v13945 hv13945 => ?_)
    refine WP_iload dX9_serve_154 rfl ?_
    refine WP_iload_n dX9_serve_156 rfl ?_
    refine WP_callV4 (k := 9) dX9_serve_157 ⟨⟨⟨by decide, by decide⟩, zX9_buy⟩, lX9_104, by decide, rfl, vX9_buy.1, vX9_buy.2⟩ (lyx_is hy 49 9 rfl) (sx_buyf hy hrI13916 hI13929 v13943 v13945 v13798 da (by omega) (by omega) (by omega) (by omega) (by omega) (by omega) (by omega) (by omega)) (Nat.le_of_ble_eq_true rfl) ?_
    intro r I13946 J13947 Ra hq
    obtain ⟨⟨hI13946, ec, fiI13946⟩, v13948, rfl, av13948, bv13948, cv13948⟩ := hq
    show WP _ _ _ _ (.int _ :: _) _ _ _ _
    rw [ec]
    clear ec Ra
    have fr13949 : fz 74 g [43, 44, 47, 48, 50, 51, 52, 56, 58] I I13946 := fz_tr fr13932 (fz_mono fiI13946 (by decide))
    have e13950 : I13946 (ad g 56) 1 = w13795 := by rw [fz_at fiI13946 56 (by decide) (by decide)]; exact e13933
    have e13951 : I13946 (ad g 50) 3 = w13924 := by rw [fz_at fiI13946 50 (by decide) (by decide)]; exact e13934
    have e13952 : I13946 (ad g 50) 4 = w13925 := by rw [fz_at fiI13946 50 (by decide) (by decide)]; exact e13935
    have e13953 : I13946 (ad g 50) 0 = v13926 := by rw [fz_at fiI13946 50 (by decide) (by decide)]; exact e13936
    have e13954 : I13946 (ad g 6) 4 = v13943 := by rw [fz_at fiI13946 6 (by decide) (by decide)]; exact ev13943
    have e13955 : I13946 (ad g 1) 1 = L := hI13946.2
    have b13956 := BT_get hI13946.1 1 1 2 (0) (0) (900) (by decide) 1 (by decide) (by decide)
    rw [e13955] at b13956
    refine WP_istore (ls' := [(0, _), (1, _), (2, _), (3, _), (4, _), (5, _), (6, _), (7, _), (8, _), (9, _), (10, _), (11, _), (12, _)]) dX9_serve_160 (by decide) rfl ?_
    refine WP_aload_n dX9_serve_162 rfl ?_
    refine WP_getr dX9_serve_163 fX9_12 rfl (lyx_is hy 49 9 rfl) (rfx hrI13916 49 0 50 (by decide)) ?_
    refine WP_iload dX9_serve_166 rfl ?_
    refine WP_iload dX9_serve_168 rfl ?_
    refine WP_callV2 (k := 6) dX9_serve_170 ⟨⟨⟨by decide, by decide⟩, zX6_priceOf⟩, lX9_111, by decide, rfl, vX6_priceOf.1, vX6_priceOf.2⟩ (lyx_is hy 50 6 rfl) (sx_pricex hy hrI13916 hI13946 v13931 v13948 (by omega) (by omega) (by omega) (by omega)) (Nat.le_of_ble_eq_true rfl) ?_
    intro r Ia Ja Ra hq
    obtain ⟨⟨ea, eb, ec⟩, v13957, rfl, av13957, bv13957, cv13957⟩ := hq
    show WP _ _ _ _ (.int _ :: _) _ _ _ _
    rw [ea, eb, ec]
    clear ea eb ec Ia Ja Ra
    rw [e13951] at cv13957
    rw [e13952] at cv13957
    have k1 : v13931.toInt * w13924.toInt ≤ (v13919.toInt % 4) * w13924.toInt := Int.mul_le_mul_of_nonneg_right (by omega) (by omega)
    have k2 : v13948.toInt * w13925.toInt ≤ (v13919.toInt / 16) * w13925.toInt := Int.mul_le_mul_of_nonneg_right (by omega) (by omega)
    have kp : v13957.toInt ≤ v13805.toInt := by omega
    refine WP_istore (ls' := [(0, _), (1, _), (2, _), (3, _), (4, _), (5, _), (6, _), (7, _), (8, _), (9, _), (10, _), (11, _), (12, _), (13, _)]) dX9_serve_173 (by decide) rfl ?_
    refine WP_aload_n dX9_serve_175 rfl ?_
    refine WP_dup dX9_serve_176 rfl ?_
    refine WQ_getiu dX9_serve_177 fX9_114 rfl (lyx_is hy 56 4 rfl) (fun v13958 ev13958 => ?_)
    refine WP_iload dX9_serve_180 rfl ?_
    refine WP_iload dX9_serve_182 rfl ?_
    refine WP_iload dX9_serve_184 rfl ?_
    refine WQ_iadd dX9_serve_186 (by omega) (by omega) (fun v13959 hv13959 => ?_)
    refine WQ_imulb (99) (6) dX9_serve_187 ⟨by omega, by omega⟩ ⟨by omega, by omega⟩ (by decide) (fun v13960 pv13960 av13960 bv13960 cv13960 => ?_)
    refine WQ_iaddu dX9_serve_188 (fun v13961 => ?_)
    refine WQ_puti dX9_serve_189 fX9_114 rfl rfl (lyx_is hy 56 4 rfl) (fun I13962 eI13962 => ?_)
    have hI13962 : XI g n L I13962 := by rw [eI13962]; exact (xi_f0 hy hI13946 (c := 56) (by decide) (Or.inl (by decide)) (by decide))
    have e13963 : I13962 (ad g 56) 1 = w13795 := by rw [eI13962, pp_ne _ _ (Or.inr (by decide))]; exact e13950
    have e13964 : I13962 (ad g 50) 3 = w13924 := by rw [eI13962, pp_ne _ _ (Or.inl (lyx_ne hy (by decide) (by decide) (by decide)))]; exact e13951
    have e13965 : I13962 (ad g 50) 4 = w13925 := by rw [eI13962, pp_ne _ _ (Or.inl (lyx_ne hy (by decide) (by decide) (by decide)))]; exact e13952
    have e13966 : I13962 (ad g 50) 0 = v13926 := by rw [eI13962, pp_ne _ _ (Or.inl (lyx_ne hy (by decide) (by decide) (by decide)))]; exact e13953
    have e13967 : I13962 (ad g 6) 4 = v13943 := by rw [eI13962, pp_ne _ _ (Or.inl (lyx_ne hy (by decide) (by decide) (by decide)))]; exact e13954
    have e13968 : I13962 (ad g 1) 1 = L := by rw [eI13962, pp_ne _ _ (Or.inl (lyx_ne hy (by decide) (by decide) (by decide)))]; exact e13955
    have e13969 : I13962 (ad g 56) 2 = v13961 := by rw [eI13962, pp_self]
    have fr13970 : fz 74 g [43, 44, 47, 48, 50, 51, 52, 56, 58] I I13962 := by rw [eI13962]; exact fzx_pp hy fr13949 (by decide) (by decide)
    clear eI13962
    refine WP_aload_n dX9_serve_192 rfl ?_
    refine WP_dup dX9_serve_193 rfl ?_
    refine WQ_getl dX9_serve_194 fX9_117 rfl (lyx_is hy 56 4 rfl) (fun l13971 el13971 => ?_)
    refine WP_iload dX9_serve_197 rfl ?_
    refine WP_iload dX9_serve_199 rfl ?_
    refine WP_iload dX9_serve_201 rfl ?_
    refine WQ_isub dX9_serve_203 (by omega) (by omega) (fun v13972 hv13972 => ?_)
    refine WQ_imulu dX9_serve_204 (fun v13973 => ?_)
    refine WQ_i2l dX9_serve_205 (fun l13974 hl13974 => ?_)
    refine WQ_ladd dX9_serve_206 (fun l13975 => ?_)
    refine WQ_putl dX9_serve_207 fX9_117 rfl rfl (lyx_is hy 56 4 rfl) (fun J13976 eJ13976 => ?_)
    clear eJ13976
    refine WP_aload_n dX9_serve_210 rfl ?_
    refine WP_getr dX9_serve_211 fX9_75 rfl (lyx_is hy 56 4 rfl) (rfx hrI13916 56 5 58 (by decide)) ?_
    refine WP_iload dX9_serve_214 rfl ?_
    refine WQ_iconst (2) (2) dX9_serve_216 rfl rfl (fun v13977 hv13977 => ?_)
    refine WQ_iadd dX9_serve_217 (by omega) (by omega) (fun v13978 hv13978 => ?_)
    refine WP_dup2 dX9_serve_218 rfl rfl ?_
    refine WQ_ialdu dX9_serve_219 (lyx_is hy 58 13 rfl) (lyx_n hy 58 28 rfl) (by omega) (by omega) (fun v13979 => ?_)
    refine WP_iload dX9_serve_220 rfl ?_
    refine WP_iload dX9_serve_222 rfl ?_
    refine WQ_imulb (99) (60) dX9_serve_224 ⟨by omega, by omega⟩ ⟨by omega, by omega⟩ (by decide) (fun v13980 pv13980 av13980 bv13980 cv13980 => ?_)
    refine WQ_iaddu dX9_serve_225 (fun v13981 => ?_)
    refine WQ_iast dX9_serve_226 (lyx_is hy 58 13 rfl) (lyx_n hy 58 28 rfl) (by omega) (by omega) (fun I13982 eI13982 => ?_)
    have hI13982 : XI g n L I13982 := by rw [eI13982]; exact (fa_put hy hI13962 (c := 58) (k := 2) (s := so.toInt.toNat) (by decide) (by omega) (by decide) (by rw [cl (n := 7 * so.toInt.toNat + 2) (by omega)]) (fun h => absurd h (by decide)) (fun h => absurd h (by decide)))
    have e13983 : I13982 (ad g 56) 1 = w13795 := by rw [eI13982, pp_ne _ _ (Or.inl (lyx_ne hy (by decide) (by decide) (by decide)))]; exact e13963
    have e13984 : I13982 (ad g 50) 3 = w13924 := by rw [eI13982, pp_ne _ _ (Or.inl (lyx_ne hy (by decide) (by decide) (by decide)))]; exact e13964
    have e13985 : I13982 (ad g 50) 4 = w13925 := by rw [eI13982, pp_ne _ _ (Or.inl (lyx_ne hy (by decide) (by decide) (by decide)))]; exact e13965
    have e13986 : I13982 (ad g 50) 0 = v13926 := by rw [eI13982, pp_ne _ _ (Or.inl (lyx_ne hy (by decide) (by decide) (by decide)))]; exact e13966
    have e13987 : I13982 (ad g 6) 4 = v13943 := by rw [eI13982, pp_ne _ _ (Or.inl (lyx_ne hy (by decide) (by decide) (by decide)))]; exact e13967
    have e13988 : I13982 (ad g 1) 1 = L := by rw [eI13982, pp_ne _ _ (Or.inl (lyx_ne hy (by decide) (by decide) (by decide)))]; exact e13968
    have e13989 : I13982 (ad g 56) 2 = v13961 := by rw [eI13982, pp_ne _ _ (Or.inl (lyx_ne hy (by decide) (by decide) (by decide)))]; exact e13969
    have fr13990 : fz 74 g [43, 44, 47, 48, 50, 51, 52, 56, 58] I I13982 := by rw [eI13982]; exact fzx_pp hy fr13970 (by decide) (by decide)
    clear eI13982
    refine WP_aload_n dX9_serve_227 rfl ?_
    refine WP_getr dX9_serve_228 fX9_75 rfl (lyx_is hy 56 4 rfl) (rfx hrI13916 56 5 58 (by decide)) ?_
    refine WP_iload dX9_serve_231 rfl ?_
    refine WQ_iconst (4) (4) dX9_serve_233 rfl rfl (fun v13991 hv13991 => ?_)
    refine WQ_iadd dX9_serve_234 (by omega) (by omega) (fun v13992 hv13992 => ?_)
    refine WP_dup2 dX9_serve_235 rfl rfl ?_
    refine WQ_ialdu dX9_serve_236 (lyx_is hy 58 13 rfl) (lyx_n hy 58 28 rfl) (by omega) (by omega) (fun v13993 => ?_)
    refine WP_iload dX9_serve_237 rfl ?_
    refine WP_aload_n dX9_serve_239 rfl ?_
    refine WP_getr dX9_serve_240 fX9_12 rfl (lyx_is hy 49 9 rfl) (rfx hrI13916 49 0 50 (by decide)) ?_
    refine WQ_geti dX9_serve_243 fX9_121 rfl (lyx_is hy 50 6 rfl) (BT_get hI13982.1 50 2 3 (0) (0) (99) (by decide) 2 (by decide) (by decide)) (fun v13994 ev13994 av13994 bv13994 => ?_)
    refine WQ_imulb (99) (99) dX9_serve_246 ⟨by omega, by omega⟩ ⟨by omega, by omega⟩ (by decide) (fun v13995 pv13995 av13995 bv13995 cv13995 => ?_)
    refine WP_iload dX9_serve_247 rfl ?_
    refine WP_iload dX9_serve_249 rfl ?_
    refine WQ_iadd dX9_serve_251 (by omega) (by omega) (fun v13996 hv13996 => ?_)
    refine WQ_imulb (9801) (6) dX9_serve_252 ⟨by omega, by omega⟩ ⟨by omega, by omega⟩ (by decide) (fun v13997 pv13997 av13997 bv13997 cv13997 => ?_)
    refine WQ_iaddu dX9_serve_253 (fun v13998 => ?_)
    refine WQ_iast dX9_serve_254 (lyx_is hy 58 13 rfl) (lyx_n hy 58 28 rfl) (by omega) (by omega) (fun I13999 eI13999 => ?_)
    have hI13999 : XI g n L I13999 := by rw [eI13999]; exact (fa_put hy hI13982 (c := 58) (k := 4) (s := so.toInt.toNat) (by decide) (by omega) (by decide) (by rw [cl (n := 7 * so.toInt.toNat + 4) (by omega)]) (fun h => absurd h (by decide)) (fun h => absurd h (by decide)))
    have e14000 : I13999 (ad g 56) 1 = w13795 := by rw [eI13999, pp_ne _ _ (Or.inl (lyx_ne hy (by decide) (by decide) (by decide)))]; exact e13983
    have e14001 : I13999 (ad g 50) 3 = w13924 := by rw [eI13999, pp_ne _ _ (Or.inl (lyx_ne hy (by decide) (by decide) (by decide)))]; exact e13984
    have e14002 : I13999 (ad g 50) 4 = w13925 := by rw [eI13999, pp_ne _ _ (Or.inl (lyx_ne hy (by decide) (by decide) (by decide)))]; exact e13985
    have e14003 : I13999 (ad g 50) 0 = v13926 := by rw [eI13999, pp_ne _ _ (Or.inl (lyx_ne hy (by decide) (by decide) (by decide)))]; exact e13986
    have e14004 : I13999 (ad g 6) 4 = v13943 := by rw [eI13999, pp_ne _ _ (Or.inl (lyx_ne hy (by decide) (by decide) (by decide)))]; exact e13987
    have e14005 : I13999 (ad g 1) 1 = L := by rw [eI13999, pp_ne _ _ (Or.inl (lyx_ne hy (by decide) (by decide) (by decide)))]; exact e13988
    have e14006 : I13999 (ad g 56) 2 = v13961 := by rw [eI13999, pp_ne _ _ (Or.inl (lyx_ne hy (by decide) (by decide) (by decide)))]; exact e13989
    have e14007 : I13999 (ad g 50) 2 = v13994 := by rw [eI13999, pp_ne _ _ (Or.inl (lyx_ne hy (by decide) (by decide) (by decide)))]; exact ev13994
    have fr14008 : fz 74 g [43, 44, 47, 48, 50, 51, 52, 56, 58] I I13999 := by rw [eI13999]; exact fzx_pp hy fr13990 (by decide) (by decide)
    clear eI13999
    refine WP_aload_n dX9_serve_255 rfl ?_
    refine WP_aload_n dX9_serve_256 rfl ?_
    refine WP_iload_n dX9_serve_257 rfl ?_
    refine WP_iload_n dX9_serve_258 rfl ?_
    refine WP_iload dX9_serve_259 rfl ?_
    refine WP_iload dX9_serve_261 rfl ?_
    refine WQ_isub dX9_serve_263 (by omega) (by omega) (fun v14009 hv14009 => ?_)
    refine WP_iload dX9_serve_264 rfl ?_
    refine WP_iload dX9_serve_266 rfl ?_
    refine WQ_isub dX9_serve_268 (by omega) (by omega) (fun v14010 hv14010 => ?_)
    refine WP_iload dX9_serve_269 rfl ?_
    refine WQ_iadd dX9_serve_271 (by omega) (by omega) (fun v14011 hv14011 => ?_)
    refine WP_callV5 (k := 9) dX9_serve_272 ⟨⟨⟨by decide, by decide⟩, zX9_sleep⟩, lX9_124, by decide, rfl, vX9_sleep.1, vX9_sleep.2⟩ (lyx_is hy 49 9 rfl) (sx_wsleepf_56_6 hy hrI13916 ht_I13916 hI13999 so da v14009 v14011 (by omega) (by omega) (by omega) (by omega) (by omega) (by omega) (by omega) (by omega) (by omega) (by rw [e14000]; omega)) (Nat.le_of_ble_eq_true rfl) ?_
    intro r I14012 J14013 Ra hq
    obtain ⟨⟨hI14012, ec, fiI14012, pI14012⟩, rfl⟩ := hq
    rw [ec]
    clear ec Ra
    have fr14014 : fz 74 g [43, 44, 47, 48, 50, 51, 52, 56, 58] I I14012 := fz_tr fr14008 (fz_mono fiI14012 (by decide))
    have e14015 : I14012 (ad g 50) 3 = w13924 := by rw [fz_at fiI14012 50 (by decide) (by decide)]; exact e14001
    have e14016 : I14012 (ad g 50) 4 = w13925 := by rw [fz_at fiI14012 50 (by decide) (by decide)]; exact e14002
    have e14017 : I14012 (ad g 50) 0 = v13926 := by rw [fz_at fiI14012 50 (by decide) (by decide)]; exact e14003
    have e14018 : I14012 (ad g 6) 4 = v13943 := by rw [fz_at fiI14012 6 (by decide) (by decide)]; exact e14004
    have e14019 : I14012 (ad g 50) 2 = v13994 := by rw [fz_at fiI14012 50 (by decide) (by decide)]; exact e14007
    have e14020 : I14012 (ad g 1) 1 = L := hI14012.2
    have b14021 := BT_get hI14012.1 1 1 2 (0) (0) (900) (by decide) 1 (by decide) (by decide)
    rw [e14020] at b14021
    obtain ⟨w14022, ew14022⟩ : ∃ w : Int32, I14012 (ad g 56) 1 = w := ⟨_, rfl⟩
    have bw14022 := BT_get hI14012.1 56 1 2 (0) (23760) (700000) (by decide) 1 (by decide) (by decide)
    rw [ew14022] at bw14022
    rw [ew14022, e14000] at pI14012
    exact WP_vret dX9_serve_275 rfl ⟨⟨hI14012, ⟨hrI13916, ⟨ht_I13916.trans hT.symm, hs_I13916⟩, hpI13916⟩, fr14014, (by rw [ew14022, ew13795]; omega)⟩, rfl⟩
set_option maxHeartbeats 4000000 in
set_option maxRecDepth 100000 in
theorem sx_serve_56_27 {g : GG} {n : Int} {L : Int32} (hy : LyX g)  {I : pI} {J : pJ} {R : pR} (hr : RfX g R) (hP : NL g R) (hT : R (ad g 5) 0 = some (ad g 27)) (hI : XI g n L I) (so : Int32) (da : Int32) (so_lo : 0 ≤ so.toInt) (so_hi : so.toInt ≤ 3) (da_lo : 0 ≤ da.toInt) (da_hi : da.toInt ≤ 6) (hn : 0 ≤ n ∧ n ≤ 40000) (hb : (I (ad g 56) 1).toInt ≤ 23760 * n + 700000 - 5940) : SP g mX9_serve [.ref (ad g 49), .ref (ad g 56), .int so, .int da] I J R (fun r I' J' R' => (XI g n L I' ∧ (RfX g R' ∧ (R' (ad g 5) 0 = R (ad g 5) 0 ∧ R' (ad g 0) 10 = R (ad g 0) 10) ∧ NL g R') ∧ fz 74 g [43, 44, 47, 48, 50, 51, 52, 56, 58] I I' ∧ (I' (ad g 56) 1).toInt ≤ (I (ad g 56) 1).toInt + 5940) ∧ r = none) := by
  refine SP_of ⟨by decide, rfl⟩ (Nat.le_of_ble_eq_true rfl) ?_
  have e14023 : I (ad g 1) 1 = L := hI.2
  have b14024 := BT_get hI.1 1 1 2 (0) (0) (900) (by decide) 1 (by decide) (by decide)
  rw [e14023] at b14024
  have fr0 : fz 74 g [43, 44, 47, 48, 50, 51, 52, 56, 58] I I := fz_rf
  obtain ⟨w14025, ew14025⟩ : ∃ w : Int32, I (ad g 56) 1 = w := ⟨_, rfl⟩
  have bw14025 := BT_get hI.1 56 1 2 (0) (23760) (700000) (by decide) 1 (by decide) (by decide)
  rw [ew14025] at bw14025
  rw [ew14025] at hb
  refine WP_iload_n dX9_serve_0 rfl ?_
  refine WQ_bipush (7) (7) dX9_serve_1 rfl rfl (fun v14026 hv14026 => ?_)
  refine WQ_imulk (7) dX9_serve_3 hv14026 (by omega) (by omega) (fun v14027 hv14027 => ?_)
  refine WP_istore (ls' := [(0, _), (1, _), (2, _), (3, _), (4, _)]) dX9_serve_4 (by decide) rfl ?_
  refine WP_aload_n dX9_serve_6 rfl ?_
  refine WP_getr dX9_serve_7 fX9_25 rfl (lyx_is hy 49 9 rfl) (rfx hr 49 2 5 (by decide)) ?_
  refine WP_getr dX9_serve_10 fX9_49 rfl (lyx_is hy 5 0 rfl) hT ?_
  refine WP_getr dX9_serve_13 fX9_71 rfl (lyx_is hy 27 7 rfl) (rfx hr 27 6 29 (by decide)) ?_
  refine WP_iload_n dX9_serve_16 rfl ?_
  refine WQ_iald dX9_serve_17 (lyx_is hy 29 13 rfl) (lyx_n hy 29 4 rfl) (by omega) (by omega) (fun q hq => BT_get hI.1 29 0 4 (0) (0) (99) (by decide) q (Nat.zero_le _) hq) (fun v14028 av14028 bv14028 ev14028 => ?_)
  clear ev14028
  refine WP_istore (ls' := [(0, _), (1, _), (2, _), (3, _), (4, _), (5, _)]) dX9_serve_18 (by decide) rfl ?_
  refine WP_aload_n dX9_serve_20 rfl ?_
  refine WP_getr dX9_serve_21 fX9_75 rfl (lyx_is hy 56 4 rfl) (rfx hr 56 5 58 (by decide)) ?_
  refine WP_iload dX9_serve_24 rfl ?_
  refine WQ_iconst (1) (1) dX9_serve_26 rfl rfl (fun v14029 hv14029 => ?_)
  refine WQ_iadd dX9_serve_27 (by omega) (by omega) (fun v14030 hv14030 => ?_)
  refine WQ_ialdf (q := 7 * so.toInt.toNat + 1) dX9_serve_28 (lyx_is hy 58 13 rfl) (lyx_n hy 58 28 rfl) (by omega) (by omega) (by omega) (fa_get1 hI (c := 58) (by decide) (by omega)) (fun v14031 av14031 bv14031 => ?_)
  refine WP_istore (ls' := [(0, _), (1, _), (2, _), (3, _), (4, _), (5, _), (6, _)]) dX9_serve_29 (by decide) rfl ?_
  refine WP_aload_n dX9_serve_31 rfl ?_
  refine WP_getr dX9_serve_32 fX9_25 rfl (lyx_is hy 49 9 rfl) (rfx hr 49 2 5 (by decide)) ?_
  refine WP_iload_n dX9_serve_35 rfl ?_
  refine WP_iload_n dX9_serve_36 rfl ?_
  refine WP_aload_n dX9_serve_37 rfl ?_
  refine WP_getr dX9_serve_38 fX9_75 rfl (lyx_is hy 56 4 rfl) (rfx hr 56 5 58 (by decide)) ?_
  refine WP_iload dX9_serve_41 rfl ?_
  refine WQ_iconst (0) (0) dX9_serve_43 rfl rfl (fun v14032 hv14032 => ?_)
  refine WQ_iadd dX9_serve_44 (by omega) (by omega) (fun v14033 hv14033 => ?_)
  refine WQ_ialdf (q := 7 * so.toInt.toNat) dX9_serve_45 (lyx_is hy 58 13 rfl) (lyx_n hy 58 28 rfl) (by omega) (by omega) (by omega) (fa_get0 hI (c := 58) (by decide) (by omega)) (fun v14034 av14034 bv14034 => ?_)
  refine WP_callV3 (k := 0) dX9_serve_46 ⟨⟨⟨by decide, by decide⟩, zX0_earned⟩, lX9_81, by decide, rfl, vX0_earned.1, vX0_earned.2⟩ (lyx_is hy 5 0 rfl) (sx_earned_27 hy hr hT hI so da v14034 (by omega) (by omega) (by omega) (by omega) (by omega) (by omega)) (Nat.le_of_ble_eq_true rfl) ?_
  intro r Ia Ja Ra hq
  obtain ⟨⟨ea, eb, ec⟩, v14035, rfl, av14035, bv14035, cv14035⟩ := hq
  show WP _ _ _ _ (.int _ :: _) _ _ _ _
  rw [ea, eb, ec]
  clear ea eb ec Ia Ja Ra
  refine WP_istore (ls' := [(0, _), (1, _), (2, _), (3, _), (4, _), (5, _), (6, _), (7, _)]) dX9_serve_49 (by decide) rfl ?_
  refine WP_aload_n dX9_serve_51 rfl ?_
  refine WP_getr dX9_serve_52 fX9_85 rfl (lyx_is hy 56 4 rfl) (rfx hr 56 4 57 (by decide)) ?_
  refine WP_iload_n dX9_serve_55 rfl ?_
  refine WQ_ialdu dX9_serve_56 (lyx_is hy 57 13 rfl) (lyx_n hy 57 4 rfl) (by omega) (by omega) (fun v14036 => ?_)
  refine WP_istore (ls' := [(0, _), (1, _), (2, _), (3, _), (4, _), (5, _), (6, _), (7, _), (8, _)]) dX9_serve_57 (by decide) rfl ?_
  refine WP_aload_n dX9_serve_59 rfl ?_
  refine WP_getr dX9_serve_60 fX9_12 rfl (lyx_is hy 49 9 rfl) (rfx hr 49 0 50 (by decide)) ?_
  refine WP_aload_n dX9_serve_63 rfl ?_
  refine WP_getr dX9_serve_64 fX9_25 rfl (lyx_is hy 49 9 rfl) (rfx hr 49 2 5 (by decide)) ?_
  refine WP_iload_n dX9_serve_67 rfl ?_
  refine WP_iload_n dX9_serve_68 rfl ?_
  refine WP_callV3 (k := 6) dX9_serve_69 ⟨⟨⟨by decide, by decide⟩, zX6_load⟩, lX9_88, by decide, rfl, vX6_load.1, vX6_load.2⟩ (lyx_is hy 50 6 rfl) (sx_loadx_50_27 hy hr hT hI so da (by omega) (by omega) (by omega) (by omega)) (Nat.le_of_ble_eq_true rfl) ?_
  intro r I14037 J14038 Ra hq
  obtain ⟨⟨hI14037, ec, fiI14037, ejI14037, pI14037⟩, rfl⟩ := hq
  rw [ec]
  clear ec Ra
  have fr14039 : fz 74 g [43, 44, 47, 48, 50, 51, 52, 56, 58] I I14037 := fz_tr fr0 (fz_mono fiI14037 (by decide))
  rw [ejI14037]
  clear ejI14037 J14038
  have e14040 : I14037 (ad g 56) 1 = w14025 := by rw [fz_at fiI14037 56 (by decide) (by decide)]; exact ew14025
  have e14041 : I14037 (ad g 1) 1 = L := hI14037.2
  have b14042 := BT_get hI14037.1 1 1 2 (0) (0) (900) (by decide) 1 (by decide) (by decide)
  rw [e14041] at b14042
  refine WP_iload dX9_serve_72 rfl ?_
  refine WQ_iconst (3) (3) dX9_serve_74 rfl rfl (fun v14043 hv14043 => ?_)
  refine WQ_icmp_ne 96 dX9_serve_75 rfl (fun c14043 => ?_) (fun c14043 => ?_)
  · refine WP_aload_n dX9_serve_96 rfl ?_
    refine WP_getr dX9_serve_97 fX9_12 rfl (lyx_is hy 49 9 rfl) (rfx hr 49 0 50 (by decide)) ?_
    refine WP_iload dX9_serve_100 rfl ?_
    refine WP_iload dX9_serve_102 rfl ?_
    refine WP_iload dX9_serve_104 rfl ?_
    refine WP_callV3 (k := 6) dX9_serve_106 ⟨⟨⟨by decide, by decide⟩, zX6_habit⟩, lX9_98, by decide, rfl, vX6_habit.1, vX6_habit.2⟩ (lyx_is hy 50 6 rfl) (sx_habita hy hr hI14037 v14036 v14035 v14031  (by omega) (by omega) (by omega) (by omega)) (Nat.le_of_ble_eq_true rfl) ?_
    intro r Ia Ja Ra hq
    obtain ⟨⟨ea, eb, ec⟩, v14045, rfl, av14045, bv14045, cv14045⟩ := hq
    show WP _ _ _ _ (.int _ :: _) _ _ _ _
    rw [ea, eb, ec]
    clear ea eb ec Ia Ja Ra
    have acv14045 : AOKd (I14037 (ad g 50)) v14035.toInt v14031.toInt v14045.toInt := by unfold AOKd; exact ⟨by omega, by omega, cv14045.1, cv14045.2.1, cv14045.2.2⟩
    obtain ⟨w14046, ew14046⟩ : ∃ w : Int32, I14037 (ad g 50) 3 = w := ⟨_, rfl⟩
    have bw14046 := BT_get hI14037.1 50 3 4 (0) (0) (20) (by decide) 3 (by decide) (by decide)
    rw [ew14046] at bw14046
    obtain ⟨w14047, ew14047⟩ : ∃ w : Int32, I14037 (ad g 50) 4 = w := ⟨_, rfl⟩
    have bw14047 := BT_get hI14037.1 50 4 5 (0) (0) (20) (by decide) 4 (by decide) (by decide)
    rw [ew14047] at bw14047
    have adv14045 := acv14045
    unfold AOKd at adv14045
    rw [ew14046, ew14047] at adv14045
    obtain ⟨rav14045, rbv14045, rcv14045, rdv14045, rev14045⟩ := adv14045
    refine WP_istore (ls' := [(0, _), (1, _), (2, _), (3, _), (4, _), (5, _), (6, _), (7, _), (8, _), (9, _)]) dX9_serve_109 (by decide) rfl ?_
    refine WP_aload_n dX9_serve_111 rfl ?_
    refine WP_aload_n dX9_serve_112 rfl ?_
    refine WP_getr dX9_serve_113 fX9_12 rfl (lyx_is hy 49 9 rfl) (rfx hr 49 0 50 (by decide)) ?_
    refine WQ_geti dX9_serve_116 fX9_101 rfl (lyx_is hy 50 6 rfl) (BT_get hI14037.1 50 0 1 (-1) (0) (2) (by decide) 0 (by decide) (by decide)) (fun v14048 ev14048 av14048 bv14048 => ?_)
    refine WP_iload dX9_serve_119 rfl ?_
    refine WQ_iconst (3) (3) dX9_serve_121 rfl rfl (fun v14049 hv14049 => ?_)
    refine WQ_iand3 dX9_serve_122 hv14049 (by omega) (by omega) (fun v14050 hv14050 => ?_)
    refine WP_iload dX9_serve_123 rfl ?_
    refine WP_iload_n dX9_serve_125 rfl ?_
    refine WP_callV4 (k := 9) dX9_serve_126 ⟨⟨⟨by decide, by decide⟩, zX9_buy⟩, lX9_104, by decide, rfl, vX9_buy.1, vX9_buy.2⟩ (lyx_is hy 49 9 rfl) (sx_buyf hy hr hI14037 v14048 v14050 v14028 da (by omega) (by omega) (by omega) (by omega) (by omega) (by omega) (by omega) (by omega)) (Nat.le_of_ble_eq_true rfl) ?_
    intro r I14051 J14052 Ra hq
    obtain ⟨⟨hI14051, ec, fiI14051⟩, v14053, rfl, av14053, bv14053, cv14053⟩ := hq
    show WP _ _ _ _ (.int _ :: _) _ _ _ _
    rw [ec]
    clear ec Ra
    have fr14054 : fz 74 g [43, 44, 47, 48, 50, 51, 52, 56, 58] I I14051 := fz_tr fr14039 (fz_mono fiI14051 (by decide))
    have e14055 : I14051 (ad g 56) 1 = w14025 := by rw [fz_at fiI14051 56 (by decide) (by decide)]; exact e14040
    have e14056 : I14051 (ad g 50) 3 = w14046 := by rw [fz_at fiI14051 50 (by decide) (by decide)]; exact ew14046
    have e14057 : I14051 (ad g 50) 4 = w14047 := by rw [fz_at fiI14051 50 (by decide) (by decide)]; exact ew14047
    have e14058 : I14051 (ad g 50) 0 = v14048 := by rw [fz_at fiI14051 50 (by decide) (by decide)]; exact ev14048
    have e14059 : I14051 (ad g 1) 1 = L := hI14051.2
    have b14060 := BT_get hI14051.1 1 1 2 (0) (0) (900) (by decide) 1 (by decide) (by decide)
    rw [e14059] at b14060
    refine WP_istore (ls' := [(0, _), (1, _), (2, _), (3, _), (4, _), (5, _), (6, _), (7, _), (8, _), (9, _), (10, _)]) dX9_serve_129 (by decide) rfl ?_
    refine WP_iload dX9_serve_131 rfl ?_
    refine WQ_iconst (2) (2) dX9_serve_133 rfl rfl (fun v14061 hv14061 => ?_)
    refine WQ_ishr2 dX9_serve_134 hv14061 (by omega) (by omega) (fun v14062 hv14062 => ?_)
    refine WQ_iconst (3) (3) dX9_serve_135 rfl rfl (fun v14063 hv14063 => ?_)
    refine WQ_iand3 dX9_serve_136 hv14063 (by omega) (by omega) (fun v14064 hv14064 => ?_)
    refine WP_istore (ls' := [(0, _), (1, _), (2, _), (3, _), (4, _), (5, _), (6, _), (7, _), (8, _), (9, _), (10, _), (11, _)]) dX9_serve_137 (by decide) rfl ?_
    refine WP_aload_n dX9_serve_139 rfl ?_
    refine WP_aload_n dX9_serve_140 rfl ?_
    refine WP_getr dX9_serve_141 fX9_25 rfl (lyx_is hy 49 9 rfl) (rfx hr 49 2 5 (by decide)) ?_
    refine WP_getr dX9_serve_144 fX9_49 rfl (lyx_is hy 5 0 rfl) hT ?_
    refine WQ_geti dX9_serve_147 fX9_108 rfl (lyx_is hy 27 7 rfl) (BT_get hI14051.1 27 4 5 (-1) (0) (2) (by decide) 4 (by decide) (by decide)) (fun v14065 ev14065 av14065 bv14065 => ?_)
    refine WP_iload dX9_serve_150 rfl ?_
    refine WQ_iconst (4) (4) dX9_serve_152 rfl rfl (fun v14066 hv14066 => ?_)
    refine WQ_ishr4 dX9_serve_153 hv14066 (by omega) (by omega) (fun v14067 hv14067 => ?_)
    refine WP_iload dX9_serve_154 rfl ?_
    refine WP_iload_n dX9_serve_156 rfl ?_
    refine WP_callV4 (k := 9) dX9_serve_157 ⟨⟨⟨by decide, by decide⟩, zX9_buy⟩, lX9_104, by decide, rfl, vX9_buy.1, vX9_buy.2⟩ (lyx_is hy 49 9 rfl) (sx_buyf hy hr hI14051 v14065 v14067 v14028 da (by omega) (by omega) (by omega) (by omega) (by omega) (by omega) (by omega) (by omega)) (Nat.le_of_ble_eq_true rfl) ?_
    intro r I14068 J14069 Ra hq
    obtain ⟨⟨hI14068, ec, fiI14068⟩, v14070, rfl, av14070, bv14070, cv14070⟩ := hq
    show WP _ _ _ _ (.int _ :: _) _ _ _ _
    rw [ec]
    clear ec Ra
    have fr14071 : fz 74 g [43, 44, 47, 48, 50, 51, 52, 56, 58] I I14068 := fz_tr fr14054 (fz_mono fiI14068 (by decide))
    have e14072 : I14068 (ad g 56) 1 = w14025 := by rw [fz_at fiI14068 56 (by decide) (by decide)]; exact e14055
    have e14073 : I14068 (ad g 50) 3 = w14046 := by rw [fz_at fiI14068 50 (by decide) (by decide)]; exact e14056
    have e14074 : I14068 (ad g 50) 4 = w14047 := by rw [fz_at fiI14068 50 (by decide) (by decide)]; exact e14057
    have e14075 : I14068 (ad g 50) 0 = v14048 := by rw [fz_at fiI14068 50 (by decide) (by decide)]; exact e14058
    have e14076 : I14068 (ad g 27) 4 = v14065 := by rw [fz_at fiI14068 27 (by decide) (by decide)]; exact ev14065
    have e14077 : I14068 (ad g 1) 1 = L := hI14068.2
    have b14078 := BT_get hI14068.1 1 1 2 (0) (0) (900) (by decide) 1 (by decide) (by decide)
    rw [e14077] at b14078
    refine WP_istore (ls' := [(0, _), (1, _), (2, _), (3, _), (4, _), (5, _), (6, _), (7, _), (8, _), (9, _), (10, _), (11, _), (12, _)]) dX9_serve_160 (by decide) rfl ?_
    refine WP_aload_n dX9_serve_162 rfl ?_
    refine WP_getr dX9_serve_163 fX9_12 rfl (lyx_is hy 49 9 rfl) (rfx hr 49 0 50 (by decide)) ?_
    refine WP_iload dX9_serve_166 rfl ?_
    refine WP_iload dX9_serve_168 rfl ?_
    refine WP_callV2 (k := 6) dX9_serve_170 ⟨⟨⟨by decide, by decide⟩, zX6_priceOf⟩, lX9_111, by decide, rfl, vX6_priceOf.1, vX6_priceOf.2⟩ (lyx_is hy 50 6 rfl) (sx_pricex hy hr hI14068 v14053 v14070 (by omega) (by omega) (by omega) (by omega)) (Nat.le_of_ble_eq_true rfl) ?_
    intro r Ia Ja Ra hq
    obtain ⟨⟨ea, eb, ec⟩, v14079, rfl, av14079, bv14079, cv14079⟩ := hq
    show WP _ _ _ _ (.int _ :: _) _ _ _ _
    rw [ea, eb, ec]
    clear ea eb ec Ia Ja Ra
    rw [e14073] at cv14079
    rw [e14074] at cv14079
    have k1 : v14053.toInt * w14046.toInt ≤ (v14045.toInt % 4) * w14046.toInt := Int.mul_le_mul_of_nonneg_right (by omega) (by omega)
    have k2 : v14070.toInt * w14047.toInt ≤ (v14045.toInt / 16) * w14047.toInt := Int.mul_le_mul_of_nonneg_right (by omega) (by omega)
    have kp : v14079.toInt ≤ v14035.toInt := by omega
    refine WP_istore (ls' := [(0, _), (1, _), (2, _), (3, _), (4, _), (5, _), (6, _), (7, _), (8, _), (9, _), (10, _), (11, _), (12, _), (13, _)]) dX9_serve_173 (by decide) rfl ?_
    refine WP_aload_n dX9_serve_175 rfl ?_
    refine WP_dup dX9_serve_176 rfl ?_
    refine WQ_getiu dX9_serve_177 fX9_114 rfl (lyx_is hy 56 4 rfl) (fun v14080 ev14080 => ?_)
    refine WP_iload dX9_serve_180 rfl ?_
    refine WP_iload dX9_serve_182 rfl ?_
    refine WP_iload dX9_serve_184 rfl ?_
    refine WQ_iadd dX9_serve_186 (by omega) (by omega) (fun v14081 hv14081 => ?_)
    refine WQ_imulb (99) (6) dX9_serve_187 ⟨by omega, by omega⟩ ⟨by omega, by omega⟩ (by decide) (fun v14082 pv14082 av14082 bv14082 cv14082 => ?_)
    refine WQ_iaddu dX9_serve_188 (fun v14083 => ?_)
    refine WQ_puti dX9_serve_189 fX9_114 rfl rfl (lyx_is hy 56 4 rfl) (fun I14084 eI14084 => ?_)
    have hI14084 : XI g n L I14084 := by rw [eI14084]; exact (xi_f0 hy hI14068 (c := 56) (by decide) (Or.inl (by decide)) (by decide))
    have e14085 : I14084 (ad g 56) 1 = w14025 := by rw [eI14084, pp_ne _ _ (Or.inr (by decide))]; exact e14072
    have e14086 : I14084 (ad g 50) 3 = w14046 := by rw [eI14084, pp_ne _ _ (Or.inl (lyx_ne hy (by decide) (by decide) (by decide)))]; exact e14073
    have e14087 : I14084 (ad g 50) 4 = w14047 := by rw [eI14084, pp_ne _ _ (Or.inl (lyx_ne hy (by decide) (by decide) (by decide)))]; exact e14074
    have e14088 : I14084 (ad g 50) 0 = v14048 := by rw [eI14084, pp_ne _ _ (Or.inl (lyx_ne hy (by decide) (by decide) (by decide)))]; exact e14075
    have e14089 : I14084 (ad g 27) 4 = v14065 := by rw [eI14084, pp_ne _ _ (Or.inl (lyx_ne hy (by decide) (by decide) (by decide)))]; exact e14076
    have e14090 : I14084 (ad g 1) 1 = L := by rw [eI14084, pp_ne _ _ (Or.inl (lyx_ne hy (by decide) (by decide) (by decide)))]; exact e14077
    have e14091 : I14084 (ad g 56) 2 = v14083 := by rw [eI14084, pp_self]
    have fr14092 : fz 74 g [43, 44, 47, 48, 50, 51, 52, 56, 58] I I14084 := by rw [eI14084]; exact fzx_pp hy fr14071 (by decide) (by decide)
    clear eI14084
    refine WP_aload_n dX9_serve_192 rfl ?_
    refine WP_dup dX9_serve_193 rfl ?_
    refine WQ_getl dX9_serve_194 fX9_117 rfl (lyx_is hy 56 4 rfl) (fun l14093 el14093 => ?_)
    refine WP_iload dX9_serve_197 rfl ?_
    refine WP_iload dX9_serve_199 rfl ?_
    refine WP_iload dX9_serve_201 rfl ?_
    refine WQ_isub dX9_serve_203 (by omega) (by omega) (fun v14094 hv14094 => ?_)
    refine WQ_imulu dX9_serve_204 (fun v14095 => ?_)
    refine WQ_i2l dX9_serve_205 (fun l14096 hl14096 => ?_)
    refine WQ_ladd dX9_serve_206 (fun l14097 => ?_)
    refine WQ_putl dX9_serve_207 fX9_117 rfl rfl (lyx_is hy 56 4 rfl) (fun J14098 eJ14098 => ?_)
    clear eJ14098
    refine WP_aload_n dX9_serve_210 rfl ?_
    refine WP_getr dX9_serve_211 fX9_75 rfl (lyx_is hy 56 4 rfl) (rfx hr 56 5 58 (by decide)) ?_
    refine WP_iload dX9_serve_214 rfl ?_
    refine WQ_iconst (2) (2) dX9_serve_216 rfl rfl (fun v14099 hv14099 => ?_)
    refine WQ_iadd dX9_serve_217 (by omega) (by omega) (fun v14100 hv14100 => ?_)
    refine WP_dup2 dX9_serve_218 rfl rfl ?_
    refine WQ_ialdu dX9_serve_219 (lyx_is hy 58 13 rfl) (lyx_n hy 58 28 rfl) (by omega) (by omega) (fun v14101 => ?_)
    refine WP_iload dX9_serve_220 rfl ?_
    refine WP_iload dX9_serve_222 rfl ?_
    refine WQ_imulb (99) (60) dX9_serve_224 ⟨by omega, by omega⟩ ⟨by omega, by omega⟩ (by decide) (fun v14102 pv14102 av14102 bv14102 cv14102 => ?_)
    refine WQ_iaddu dX9_serve_225 (fun v14103 => ?_)
    refine WQ_iast dX9_serve_226 (lyx_is hy 58 13 rfl) (lyx_n hy 58 28 rfl) (by omega) (by omega) (fun I14104 eI14104 => ?_)
    have hI14104 : XI g n L I14104 := by rw [eI14104]; exact (fa_put hy hI14084 (c := 58) (k := 2) (s := so.toInt.toNat) (by decide) (by omega) (by decide) (by rw [cl (n := 7 * so.toInt.toNat + 2) (by omega)]) (fun h => absurd h (by decide)) (fun h => absurd h (by decide)))
    have e14105 : I14104 (ad g 56) 1 = w14025 := by rw [eI14104, pp_ne _ _ (Or.inl (lyx_ne hy (by decide) (by decide) (by decide)))]; exact e14085
    have e14106 : I14104 (ad g 50) 3 = w14046 := by rw [eI14104, pp_ne _ _ (Or.inl (lyx_ne hy (by decide) (by decide) (by decide)))]; exact e14086
    have e14107 : I14104 (ad g 50) 4 = w14047 := by rw [eI14104, pp_ne _ _ (Or.inl (lyx_ne hy (by decide) (by decide) (by decide)))]; exact e14087
    have e14108 : I14104 (ad g 50) 0 = v14048 := by rw [eI14104, pp_ne _ _ (Or.inl (lyx_ne hy (by decide) (by decide) (by decide)))]; exact e14088
    have e14109 : I14104 (ad g 27) 4 = v14065 := by rw [eI14104, pp_ne _ _ (Or.inl (lyx_ne hy (by decide) (by decide) (by decide)))]; exact e14089
    have e14110 : I14104 (ad g 1) 1 = L := by rw [eI14104, pp_ne _ _ (Or.inl (lyx_ne hy (by decide) (by decide) (by decide)))]; exact e14090
    have e14111 : I14104 (ad g 56) 2 = v14083 := by rw [eI14104, pp_ne _ _ (Or.inl (lyx_ne hy (by decide) (by decide) (by decide)))]; exact e14091
    have fr14112 : fz 74 g [43, 44, 47, 48, 50, 51, 52, 56, 58] I I14104 := by rw [eI14104]; exact fzx_pp hy fr14092 (by decide) (by decide)
    clear eI14104
    refine WP_aload_n dX9_serve_227 rfl ?_
    refine WP_getr dX9_serve_228 fX9_75 rfl (lyx_is hy 56 4 rfl) (rfx hr 56 5 58 (by decide)) ?_
    refine WP_iload dX9_serve_231 rfl ?_
    refine WQ_iconst (4) (4) dX9_serve_233 rfl rfl (fun v14113 hv14113 => ?_)
    refine WQ_iadd dX9_serve_234 (by omega) (by omega) (fun v14114 hv14114 => ?_)
    refine WP_dup2 dX9_serve_235 rfl rfl ?_
    refine WQ_ialdu dX9_serve_236 (lyx_is hy 58 13 rfl) (lyx_n hy 58 28 rfl) (by omega) (by omega) (fun v14115 => ?_)
    refine WP_iload dX9_serve_237 rfl ?_
    refine WP_aload_n dX9_serve_239 rfl ?_
    refine WP_getr dX9_serve_240 fX9_12 rfl (lyx_is hy 49 9 rfl) (rfx hr 49 0 50 (by decide)) ?_
    refine WQ_geti dX9_serve_243 fX9_121 rfl (lyx_is hy 50 6 rfl) (BT_get hI14104.1 50 2 3 (0) (0) (99) (by decide) 2 (by decide) (by decide)) (fun v14116 ev14116 av14116 bv14116 => ?_)
    refine WQ_imulb (99) (99) dX9_serve_246 ⟨by omega, by omega⟩ ⟨by omega, by omega⟩ (by decide) (fun v14117 pv14117 av14117 bv14117 cv14117 => ?_)
    refine WP_iload dX9_serve_247 rfl ?_
    refine WP_iload dX9_serve_249 rfl ?_
    refine WQ_iadd dX9_serve_251 (by omega) (by omega) (fun v14118 hv14118 => ?_)
    refine WQ_imulb (9801) (6) dX9_serve_252 ⟨by omega, by omega⟩ ⟨by omega, by omega⟩ (by decide) (fun v14119 pv14119 av14119 bv14119 cv14119 => ?_)
    refine WQ_iaddu dX9_serve_253 (fun v14120 => ?_)
    refine WQ_iast dX9_serve_254 (lyx_is hy 58 13 rfl) (lyx_n hy 58 28 rfl) (by omega) (by omega) (fun I14121 eI14121 => ?_)
    have hI14121 : XI g n L I14121 := by rw [eI14121]; exact (fa_put hy hI14104 (c := 58) (k := 4) (s := so.toInt.toNat) (by decide) (by omega) (by decide) (by rw [cl (n := 7 * so.toInt.toNat + 4) (by omega)]) (fun h => absurd h (by decide)) (fun h => absurd h (by decide)))
    have e14122 : I14121 (ad g 56) 1 = w14025 := by rw [eI14121, pp_ne _ _ (Or.inl (lyx_ne hy (by decide) (by decide) (by decide)))]; exact e14105
    have e14123 : I14121 (ad g 50) 3 = w14046 := by rw [eI14121, pp_ne _ _ (Or.inl (lyx_ne hy (by decide) (by decide) (by decide)))]; exact e14106
    have e14124 : I14121 (ad g 50) 4 = w14047 := by rw [eI14121, pp_ne _ _ (Or.inl (lyx_ne hy (by decide) (by decide) (by decide)))]; exact e14107
    have e14125 : I14121 (ad g 50) 0 = v14048 := by rw [eI14121, pp_ne _ _ (Or.inl (lyx_ne hy (by decide) (by decide) (by decide)))]; exact e14108
    have e14126 : I14121 (ad g 27) 4 = v14065 := by rw [eI14121, pp_ne _ _ (Or.inl (lyx_ne hy (by decide) (by decide) (by decide)))]; exact e14109
    have e14127 : I14121 (ad g 1) 1 = L := by rw [eI14121, pp_ne _ _ (Or.inl (lyx_ne hy (by decide) (by decide) (by decide)))]; exact e14110
    have e14128 : I14121 (ad g 56) 2 = v14083 := by rw [eI14121, pp_ne _ _ (Or.inl (lyx_ne hy (by decide) (by decide) (by decide)))]; exact e14111
    have e14129 : I14121 (ad g 50) 2 = v14116 := by rw [eI14121, pp_ne _ _ (Or.inl (lyx_ne hy (by decide) (by decide) (by decide)))]; exact ev14116
    have fr14130 : fz 74 g [43, 44, 47, 48, 50, 51, 52, 56, 58] I I14121 := by rw [eI14121]; exact fzx_pp hy fr14112 (by decide) (by decide)
    clear eI14121
    refine WP_aload_n dX9_serve_255 rfl ?_
    refine WP_aload_n dX9_serve_256 rfl ?_
    refine WP_iload_n dX9_serve_257 rfl ?_
    refine WP_iload_n dX9_serve_258 rfl ?_
    refine WP_iload dX9_serve_259 rfl ?_
    refine WP_iload dX9_serve_261 rfl ?_
    refine WQ_isub dX9_serve_263 (by omega) (by omega) (fun v14131 hv14131 => ?_)
    refine WP_iload dX9_serve_264 rfl ?_
    refine WP_iload dX9_serve_266 rfl ?_
    refine WQ_isub dX9_serve_268 (by omega) (by omega) (fun v14132 hv14132 => ?_)
    refine WP_iload dX9_serve_269 rfl ?_
    refine WQ_iadd dX9_serve_271 (by omega) (by omega) (fun v14133 hv14133 => ?_)
    refine WP_callV5 (k := 9) dX9_serve_272 ⟨⟨⟨by decide, by decide⟩, zX9_sleep⟩, lX9_124, by decide, rfl, vX9_sleep.1, vX9_sleep.2⟩ (lyx_is hy 49 9 rfl) (sx_wsleepf_56_27 hy hr hT hI14121 so da v14131 v14133 (by omega) (by omega) (by omega) (by omega) (by omega) (by omega) (by omega) (by omega) (by omega) (by rw [e14122]; omega)) (Nat.le_of_ble_eq_true rfl) ?_
    intro r I14134 J14135 Ra hq
    obtain ⟨⟨hI14134, ec, fiI14134, pI14134⟩, rfl⟩ := hq
    rw [ec]
    clear ec Ra
    have fr14136 : fz 74 g [43, 44, 47, 48, 50, 51, 52, 56, 58] I I14134 := fz_tr fr14130 (fz_mono fiI14134 (by decide))
    have e14137 : I14134 (ad g 50) 3 = w14046 := by rw [fz_at fiI14134 50 (by decide) (by decide)]; exact e14123
    have e14138 : I14134 (ad g 50) 4 = w14047 := by rw [fz_at fiI14134 50 (by decide) (by decide)]; exact e14124
    have e14139 : I14134 (ad g 50) 0 = v14048 := by rw [fz_at fiI14134 50 (by decide) (by decide)]; exact e14125
    have e14140 : I14134 (ad g 27) 4 = v14065 := by rw [fz_at fiI14134 27 (by decide) (by decide)]; exact e14126
    have e14141 : I14134 (ad g 50) 2 = v14116 := by rw [fz_at fiI14134 50 (by decide) (by decide)]; exact e14129
    have e14142 : I14134 (ad g 1) 1 = L := hI14134.2
    have b14143 := BT_get hI14134.1 1 1 2 (0) (0) (900) (by decide) 1 (by decide) (by decide)
    rw [e14142] at b14143
    obtain ⟨w14144, ew14144⟩ : ∃ w : Int32, I14134 (ad g 56) 1 = w := ⟨_, rfl⟩
    have bw14144 := BT_get hI14134.1 56 1 2 (0) (23760) (700000) (by decide) 1 (by decide) (by decide)
    rw [ew14144] at bw14144
    rw [ew14144, e14122] at pI14134
    exact WP_vret dX9_serve_275 rfl ⟨⟨hI14134, ⟨hr, ⟨hT.trans hT.symm, rfl⟩, hP⟩, fr14136, (by rw [ew14144, ew14025]; omega)⟩, rfl⟩
  · refine WP_aload_n dX9_serve_78 rfl ?_
    refine WP_getr dX9_serve_79 fX9_29 rfl (lyx_is hy 49 9 rfl) (rfx hr 49 3 43 (by decide)) ?_
    refine WP_iload_n dX9_serve_82 rfl ?_
    refine WP_iload_n dX9_serve_83 rfl ?_
    refine WP_iload dX9_serve_84 rfl ?_
    refine WP_iload dX9_serve_86 rfl ?_
    refine WQ_bipush (7) (7) dX9_serve_88 rfl rfl (fun v14145 hv14145 => ?_)
    refine WP_callV5 (k := 2) dX9_serve_90 ⟨⟨⟨by decide, by decide⟩, zX2_search⟩, lX9_92, by decide, rfl, vX2_search.1, vX2_search.2⟩ (lyx_is hy 43 2 rfl) (sx_searchx_27 hy hr hP hT hI14037 so da v14035 v14031 v14145 (by omega) (by omega) (by omega) (by omega) (by omega) (by omega) (by omega) (by omega) (by omega) (by omega)) (Nat.le_of_ble_eq_true rfl) ?_
    intro r I14146 J14147 R14148 hq
    obtain ⟨⟨hI14146, ⟨hrI14146, ⟨htI14146, hsI14146⟩, hpI14146⟩, fiI14146, fjI14146⟩, v14149, rfl, av14149, bv14149, cv14149⟩ := hq
    show WP _ _ _ _ (.int _ :: _) _ _ _ _
    have ht_I14146 := htI14146.trans hT
    have hs_I14146 : R14148 (ad g 0) 10 = R (ad g 0) 10 := hsI14146.trans rfl
    have fr14150 : fz 74 g [43, 44, 47, 48, 50, 51, 52, 56, 58] I I14146 := fz_tr fr14039 (fz_mono fiI14146 (by decide))
    have e14151 : I14146 (ad g 56) 1 = w14025 := by rw [fz_at fiI14146 56 (by decide) (by decide)]; exact e14040
    have e14152 : I14146 (ad g 1) 1 = L := hI14146.2
    have b14153 := BT_get hI14146.1 1 1 2 (0) (0) (900) (by decide) 1 (by decide) (by decide)
    rw [e14152] at b14153
    refine WP_goto 109 dX9_serve_93 rfl ?_
    obtain ⟨T9, t1, t2⟩ := cv14149
    have acv14149 : AOKd (I14037 (ad g 50)) v14035.toInt v14031.toInt v14149.toInt := AOK_eq (LD_un t1 (LD_fr pI14037 (fz_at fiI14037 27 (by decide) (by decide)).symm (fz_at fiI14037 32 (by decide) (by decide)).symm (fz_at fiI14037 34 (by decide) (by decide)).symm (fz_at fiI14037 35 (by decide) (by decide)).symm (fz_at fiI14037 36 (by decide) (by decide)).symm (fz_at fiI14037 22 (by decide) (by decide)).symm)) t2
    obtain ⟨w14154, ew14154⟩ : ∃ w : Int32, I14146 (ad g 50) 3 = w := ⟨_, rfl⟩
    have bw14154 := BT_get hI14146.1 50 3 4 (0) (0) (20) (by decide) 3 (by decide) (by decide)
    rw [ew14154] at bw14154
    obtain ⟨w14155, ew14155⟩ : ∃ w : Int32, I14146 (ad g 50) 4 = w := ⟨_, rfl⟩
    have bw14155 := BT_get hI14146.1 50 4 5 (0) (0) (20) (by decide) 4 (by decide) (by decide)
    rw [ew14155] at bw14155
    have adv14149 := acv14149
    unfold AOKd at adv14149
    rw [← fz_at fiI14146 50 (by decide) (by decide)] at adv14149
    rw [ew14154, ew14155] at adv14149
    obtain ⟨rav14149, rbv14149, rcv14149, rdv14149, rev14149⟩ := adv14149
    refine WP_istore (ls' := [(0, _), (1, _), (2, _), (3, _), (4, _), (5, _), (6, _), (7, _), (8, _), (9, _)]) dX9_serve_109 (by decide) rfl ?_
    refine WP_aload_n dX9_serve_111 rfl ?_
    refine WP_aload_n dX9_serve_112 rfl ?_
    refine WP_getr dX9_serve_113 fX9_12 rfl (lyx_is hy 49 9 rfl) (rfx hrI14146 49 0 50 (by decide)) ?_
    refine WQ_geti dX9_serve_116 fX9_101 rfl (lyx_is hy 50 6 rfl) (BT_get hI14146.1 50 0 1 (-1) (0) (2) (by decide) 0 (by decide) (by decide)) (fun v14156 ev14156 av14156 bv14156 => ?_)
    refine WP_iload dX9_serve_119 rfl ?_
    refine WQ_iconst (3) (3) dX9_serve_121 rfl rfl (fun v14157 hv14157 => ?_)
    refine WQ_iand3 dX9_serve_122 hv14157 (by omega) (by omega) (fun v14158 hv14158 => ?_)
    refine WP_iload dX9_serve_123 rfl ?_
    refine WP_iload_n dX9_serve_125 rfl ?_
    refine WP_callV4 (k := 9) dX9_serve_126 ⟨⟨⟨by decide, by decide⟩, zX9_buy⟩, lX9_104, by decide, rfl, vX9_buy.1, vX9_buy.2⟩ (lyx_is hy 49 9 rfl) (sx_buyf hy hrI14146 hI14146 v14156 v14158 v14028 da (by omega) (by omega) (by omega) (by omega) (by omega) (by omega) (by omega) (by omega)) (Nat.le_of_ble_eq_true rfl) ?_
    intro r I14159 J14160 Ra hq
    obtain ⟨⟨hI14159, ec, fiI14159⟩, v14161, rfl, av14161, bv14161, cv14161⟩ := hq
    show WP _ _ _ _ (.int _ :: _) _ _ _ _
    rw [ec]
    clear ec Ra
    have fr14162 : fz 74 g [43, 44, 47, 48, 50, 51, 52, 56, 58] I I14159 := fz_tr fr14150 (fz_mono fiI14159 (by decide))
    have e14163 : I14159 (ad g 56) 1 = w14025 := by rw [fz_at fiI14159 56 (by decide) (by decide)]; exact e14151
    have e14164 : I14159 (ad g 50) 3 = w14154 := by rw [fz_at fiI14159 50 (by decide) (by decide)]; exact ew14154
    have e14165 : I14159 (ad g 50) 4 = w14155 := by rw [fz_at fiI14159 50 (by decide) (by decide)]; exact ew14155
    have e14166 : I14159 (ad g 50) 0 = v14156 := by rw [fz_at fiI14159 50 (by decide) (by decide)]; exact ev14156
    have e14167 : I14159 (ad g 1) 1 = L := hI14159.2
    have b14168 := BT_get hI14159.1 1 1 2 (0) (0) (900) (by decide) 1 (by decide) (by decide)
    rw [e14167] at b14168
    refine WP_istore (ls' := [(0, _), (1, _), (2, _), (3, _), (4, _), (5, _), (6, _), (7, _), (8, _), (9, _), (10, _)]) dX9_serve_129 (by decide) rfl ?_
    refine WP_iload dX9_serve_131 rfl ?_
    refine WQ_iconst (2) (2) dX9_serve_133 rfl rfl (fun v14169 hv14169 => ?_)
    refine WQ_ishr2 dX9_serve_134 hv14169 (by omega) (by omega) (fun v14170 hv14170 => ?_)
    refine WQ_iconst (3) (3) dX9_serve_135 rfl rfl (fun v14171 hv14171 => ?_)
    refine WQ_iand3 dX9_serve_136 hv14171 (by omega) (by omega) (fun v14172 hv14172 => ?_)
    refine WP_istore (ls' := [(0, _), (1, _), (2, _), (3, _), (4, _), (5, _), (6, _), (7, _), (8, _), (9, _), (10, _), (11, _)]) dX9_serve_137 (by decide) rfl ?_
    refine WP_aload_n dX9_serve_139 rfl ?_
    refine WP_aload_n dX9_serve_140 rfl ?_
    refine WP_getr dX9_serve_141 fX9_25 rfl (lyx_is hy 49 9 rfl) (rfx hrI14146 49 2 5 (by decide)) ?_
    refine WP_getr dX9_serve_144 fX9_49 rfl (lyx_is hy 5 0 rfl) ht_I14146 ?_
    refine WQ_geti dX9_serve_147 fX9_108 rfl (lyx_is hy 27 7 rfl) (BT_get hI14159.1 27 4 5 (-1) (0) (2) (by decide) 4 (by decide) (by decide)) (fun v14173 ev14173 av14173 bv14173 => ?_)
    refine WP_iload dX9_serve_150 rfl ?_
    refine WQ_iconst (4) (4) dX9_serve_152 rfl rfl (fun v14174 hv14174 => ?_)
    refine WQ_ishr4 dX9_serve_153 hv14174 (by omega) (by omega) (fun v14175 hv14175 => ?_)
    refine WP_iload dX9_serve_154 rfl ?_
    refine WP_iload_n dX9_serve_156 rfl ?_
    refine WP_callV4 (k := 9) dX9_serve_157 ⟨⟨⟨by decide, by decide⟩, zX9_buy⟩, lX9_104, by decide, rfl, vX9_buy.1, vX9_buy.2⟩ (lyx_is hy 49 9 rfl) (sx_buyf hy hrI14146 hI14159 v14173 v14175 v14028 da (by omega) (by omega) (by omega) (by omega) (by omega) (by omega) (by omega) (by omega)) (Nat.le_of_ble_eq_true rfl) ?_
    intro r I14176 J14177 Ra hq
    obtain ⟨⟨hI14176, ec, fiI14176⟩, v14178, rfl, av14178, bv14178, cv14178⟩ := hq
    show WP _ _ _ _ (.int _ :: _) _ _ _ _
    rw [ec]
    clear ec Ra
    have fr14179 : fz 74 g [43, 44, 47, 48, 50, 51, 52, 56, 58] I I14176 := fz_tr fr14162 (fz_mono fiI14176 (by decide))
    have e14180 : I14176 (ad g 56) 1 = w14025 := by rw [fz_at fiI14176 56 (by decide) (by decide)]; exact e14163
    have e14181 : I14176 (ad g 50) 3 = w14154 := by rw [fz_at fiI14176 50 (by decide) (by decide)]; exact e14164
    have e14182 : I14176 (ad g 50) 4 = w14155 := by rw [fz_at fiI14176 50 (by decide) (by decide)]; exact e14165
    have e14183 : I14176 (ad g 50) 0 = v14156 := by rw [fz_at fiI14176 50 (by decide) (by decide)]; exact e14166
    have e14184 : I14176 (ad g 27) 4 = v14173 := by rw [fz_at fiI14176 27 (by decide) (by decide)]; exact ev14173
    have e14185 : I14176 (ad g 1) 1 = L := hI14176.2
    have b14186 := BT_get hI14176.1 1 1 2 (0) (0) (900) (by decide) 1 (by decide) (by decide)
    rw [e14185] at b14186
    refine WP_istore (ls' := [(0, _), (1, _), (2, _), (3, _), (4, _), (5, _), (6, _), (7, _), (8, _), (9, _), (10, _), (11, _), (12, _)]) dX9_serve_160 (by decide) rfl ?_
    refine WP_aload_n dX9_serve_162 rfl ?_
    refine WP_getr dX9_serve_163 fX9_12 rfl (lyx_is hy 49 9 rfl) (rfx hrI14146 49 0 50 (by decide)) ?_
    refine WP_iload dX9_serve_166 rfl ?_
    refine WP_iload dX9_serve_168 rfl ?_
    refine WP_callV2 (k := 6) dX9_serve_170 ⟨⟨⟨by decide, by decide⟩, zX6_priceOf⟩, lX9_111, by decide, rfl, vX6_priceOf.1, vX6_priceOf.2⟩ (lyx_is hy 50 6 rfl) (sx_pricex hy hrI14146 hI14176 v14161 v14178 (by omega) (by omega) (by omega) (by omega)) (Nat.le_of_ble_eq_true rfl) ?_
    intro r Ia Ja Ra hq
    obtain ⟨⟨ea, eb, ec⟩, v14187, rfl, av14187, bv14187, cv14187⟩ := hq
    show WP _ _ _ _ (.int _ :: _) _ _ _ _
    rw [ea, eb, ec]
    clear ea eb ec Ia Ja Ra
    rw [e14181] at cv14187
    rw [e14182] at cv14187
    have k1 : v14161.toInt * w14154.toInt ≤ (v14149.toInt % 4) * w14154.toInt := Int.mul_le_mul_of_nonneg_right (by omega) (by omega)
    have k2 : v14178.toInt * w14155.toInt ≤ (v14149.toInt / 16) * w14155.toInt := Int.mul_le_mul_of_nonneg_right (by omega) (by omega)
    have kp : v14187.toInt ≤ v14035.toInt := by omega
    refine WP_istore (ls' := [(0, _), (1, _), (2, _), (3, _), (4, _), (5, _), (6, _), (7, _), (8, _), (9, _), (10, _), (11, _), (12, _), (13, _)]) dX9_serve_173 (by decide) rfl ?_
    refine WP_aload_n dX9_serve_175 rfl ?_
    refine WP_dup dX9_serve_176 rfl ?_
    refine WQ_getiu dX9_serve_177 fX9_114 rfl (lyx_is hy 56 4 rfl) (fun v14188 ev14188 => ?_)
    refine WP_iload dX9_serve_180 rfl ?_
    refine WP_iload dX9_serve_182 rfl ?_
    refine WP_iload dX9_serve_184 rfl ?_
    refine WQ_iadd dX9_serve_186 (by omega) (by omega) (fun v14189 hv14189 => ?_)
    refine WQ_imulb (99) (6) dX9_serve_187 ⟨by omega, by omega⟩ ⟨by omega, by omega⟩ (by decide) (fun v14190 pv14190 av14190 bv14190 cv14190 => ?_)
    refine WQ_iaddu dX9_serve_188 (fun v14191 => ?_)
    refine WQ_puti dX9_serve_189 fX9_114 rfl rfl (lyx_is hy 56 4 rfl) (fun I14192 eI14192 => ?_)
    have hI14192 : XI g n L I14192 := by rw [eI14192]; exact (xi_f0 hy hI14176 (c := 56) (by decide) (Or.inl (by decide)) (by decide))
    have e14193 : I14192 (ad g 56) 1 = w14025 := by rw [eI14192, pp_ne _ _ (Or.inr (by decide))]; exact e14180
    have e14194 : I14192 (ad g 50) 3 = w14154 := by rw [eI14192, pp_ne _ _ (Or.inl (lyx_ne hy (by decide) (by decide) (by decide)))]; exact e14181
    have e14195 : I14192 (ad g 50) 4 = w14155 := by rw [eI14192, pp_ne _ _ (Or.inl (lyx_ne hy (by decide) (by decide) (by decide)))]; exact e14182
    have e14196 : I14192 (ad g 50) 0 = v14156 := by rw [eI14192, pp_ne _ _ (Or.inl (lyx_ne hy (by decide) (by decide) (by decide)))]; exact e14183
    have e14197 : I14192 (ad g 27) 4 = v14173 := by rw [eI14192, pp_ne _ _ (Or.inl (lyx_ne hy (by decide) (by decide) (by decide)))]; exact e14184
    have e14198 : I14192 (ad g 1) 1 = L := by rw [eI14192, pp_ne _ _ (Or.inl (lyx_ne hy (by decide) (by decide) (by decide)))]; exact e14185
    have e14199 : I14192 (ad g 56) 2 = v14191 := by rw [eI14192, pp_self]
    have fr14200 : fz 74 g [43, 44, 47, 48, 50, 51, 52, 56, 58] I I14192 := by rw [eI14192]; exact fzx_pp hy fr14179 (by decide) (by decide)
    clear eI14192
    refine WP_aload_n dX9_serve_192 rfl ?_
    refine WP_dup dX9_serve_193 rfl ?_
    refine WQ_getl dX9_serve_194 fX9_117 rfl (lyx_is hy 56 4 rfl) (fun l14201 el14201 => ?_)
    refine WP_iload dX9_serve_197 rfl ?_
    refine WP_iload dX9_serve_199 rfl ?_
    refine WP_iload dX9_serve_201 rfl ?_
    refine WQ_isub dX9_serve_203 (by omega) (by omega) (fun v14202 hv14202 => ?_)
    refine WQ_imulu dX9_serve_204 (fun v14203 => ?_)
    refine WQ_i2l dX9_serve_205 (fun l14204 hl14204 => ?_)
    refine WQ_ladd dX9_serve_206 (fun l14205 => ?_)
    refine WQ_putl dX9_serve_207 fX9_117 rfl rfl (lyx_is hy 56 4 rfl) (fun J14206 eJ14206 => ?_)
    clear eJ14206
    refine WP_aload_n dX9_serve_210 rfl ?_
    refine WP_getr dX9_serve_211 fX9_75 rfl (lyx_is hy 56 4 rfl) (rfx hrI14146 56 5 58 (by decide)) ?_
    refine WP_iload dX9_serve_214 rfl ?_
    refine WQ_iconst (2) (2) dX9_serve_216 rfl rfl (fun v14207 hv14207 => ?_)
    refine WQ_iadd dX9_serve_217 (by omega) (by omega) (fun v14208 hv14208 => ?_)
    refine WP_dup2 dX9_serve_218 rfl rfl ?_
    refine WQ_ialdu dX9_serve_219 (lyx_is hy 58 13 rfl) (lyx_n hy 58 28 rfl) (by omega) (by omega) (fun v14209 => ?_)
    refine WP_iload dX9_serve_220 rfl ?_
    refine WP_iload dX9_serve_222 rfl ?_
    refine WQ_imulb (99) (60) dX9_serve_224 ⟨by omega, by omega⟩ ⟨by omega, by omega⟩ (by decide) (fun v14210 pv14210 av14210 bv14210 cv14210 => ?_)
    refine WQ_iaddu dX9_serve_225 (fun v14211 => ?_)
    refine WQ_iast dX9_serve_226 (lyx_is hy 58 13 rfl) (lyx_n hy 58 28 rfl) (by omega) (by omega) (fun I14212 eI14212 => ?_)
    have hI14212 : XI g n L I14212 := by rw [eI14212]; exact (fa_put hy hI14192 (c := 58) (k := 2) (s := so.toInt.toNat) (by decide) (by omega) (by decide) (by rw [cl (n := 7 * so.toInt.toNat + 2) (by omega)]) (fun h => absurd h (by decide)) (fun h => absurd h (by decide)))
    have e14213 : I14212 (ad g 56) 1 = w14025 := by rw [eI14212, pp_ne _ _ (Or.inl (lyx_ne hy (by decide) (by decide) (by decide)))]; exact e14193
    have e14214 : I14212 (ad g 50) 3 = w14154 := by rw [eI14212, pp_ne _ _ (Or.inl (lyx_ne hy (by decide) (by decide) (by decide)))]; exact e14194
    have e14215 : I14212 (ad g 50) 4 = w14155 := by rw [eI14212, pp_ne _ _ (Or.inl (lyx_ne hy (by decide) (by decide) (by decide)))]; exact e14195
    have e14216 : I14212 (ad g 50) 0 = v14156 := by rw [eI14212, pp_ne _ _ (Or.inl (lyx_ne hy (by decide) (by decide) (by decide)))]; exact e14196
    have e14217 : I14212 (ad g 27) 4 = v14173 := by rw [eI14212, pp_ne _ _ (Or.inl (lyx_ne hy (by decide) (by decide) (by decide)))]; exact e14197
    have e14218 : I14212 (ad g 1) 1 = L := by rw [eI14212, pp_ne _ _ (Or.inl (lyx_ne hy (by decide) (by decide) (by decide)))]; exact e14198
    have e14219 : I14212 (ad g 56) 2 = v14191 := by rw [eI14212, pp_ne _ _ (Or.inl (lyx_ne hy (by decide) (by decide) (by decide)))]; exact e14199
    have fr14220 : fz 74 g [43, 44, 47, 48, 50, 51, 52, 56, 58] I I14212 := by rw [eI14212]; exact fzx_pp hy fr14200 (by decide) (by decide)
    clear eI14212
    refine WP_aload_n dX9_serve_227 rfl ?_
    refine WP_getr dX9_serve_228 fX9_75 rfl (lyx_is hy 56 4 rfl) (rfx hrI14146 56 5 58 (by decide)) ?_
    refine WP_iload dX9_serve_231 rfl ?_
    refine WQ_iconst (4) (4) dX9_serve_233 rfl rfl (fun v14221 hv14221 => ?_)
    refine WQ_iadd dX9_serve_234 (by omega) (by omega) (fun v14222 hv14222 => ?_)
    refine WP_dup2 dX9_serve_235 rfl rfl ?_
    refine WQ_ialdu dX9_serve_236 (lyx_is hy 58 13 rfl) (lyx_n hy 58 28 rfl) (by omega) (by omega) (fun v14223 => ?_)
    refine WP_iload dX9_serve_237 rfl ?_
    refine WP_aload_n dX9_serve_239 rfl ?_
    refine WP_getr dX9_serve_240 fX9_12 rfl (lyx_is hy 49 9 rfl) (rfx hrI14146 49 0 50 (by decide)) ?_
    refine WQ_geti dX9_serve_243 fX9_121 rfl (lyx_is hy 50 6 rfl) (BT_get hI14212.1 50 2 3 (0) (0) (99) (by decide) 2 (by decide) (by decide)) (fun v14224 ev14224 av14224 bv14224 => ?_)
    refine WQ_imulb (99) (99) dX9_serve_246 ⟨by omega, by omega⟩ ⟨by omega, by omega⟩ (by decide) (fun v14225 pv14225 av14225 bv14225 cv14225 => ?_)
    refine WP_iload dX9_serve_247 rfl ?_
    refine WP_iload dX9_serve_249 rfl ?_
    refine WQ_iadd dX9_serve_251 (by omega) (by omega) (fun v14226 hv14226 => ?_)
    refine WQ_imulb (9801) (6) dX9_serve_252 ⟨by omega, by omega⟩ ⟨by omega, by omega⟩ (by decide) (fun v14227 pv14227 av14227 bv14227 cv14227 => ?_)
    refine WQ_iaddu dX9_serve_253 (fun v14228 => ?_)
    refine WQ_iast dX9_serve_254 (lyx_is hy 58 13 rfl) (lyx_n hy 58 28 rfl) (by omega) (by omega) (fun I14229 eI14229 => ?_)
    have hI14229 : XI g n L I14229 := by rw [eI14229]; exact (fa_put hy hI14212 (c := 58) (k := 4) (s := so.toInt.toNat) (by decide) (by omega) (by decide) (by rw [cl (n := 7 * so.toInt.toNat + 4) (by omega)]) (fun h => absurd h (by decide)) (fun h => absurd h (by decide)))
    have e14230 : I14229 (ad g 56) 1 = w14025 := by rw [eI14229, pp_ne _ _ (Or.inl (lyx_ne hy (by decide) (by decide) (by decide)))]; exact e14213
    have e14231 : I14229 (ad g 50) 3 = w14154 := by rw [eI14229, pp_ne _ _ (Or.inl (lyx_ne hy (by decide) (by decide) (by decide)))]; exact e14214
    have e14232 : I14229 (ad g 50) 4 = w14155 := by rw [eI14229, pp_ne _ _ (Or.inl (lyx_ne hy (by decide) (by decide) (by decide)))]; exact e14215
    have e14233 : I14229 (ad g 50) 0 = v14156 := by rw [eI14229, pp_ne _ _ (Or.inl (lyx_ne hy (by decide) (by decide) (by decide)))]; exact e14216
    have e14234 : I14229 (ad g 27) 4 = v14173 := by rw [eI14229, pp_ne _ _ (Or.inl (lyx_ne hy (by decide) (by decide) (by decide)))]; exact e14217
    have e14235 : I14229 (ad g 1) 1 = L := by rw [eI14229, pp_ne _ _ (Or.inl (lyx_ne hy (by decide) (by decide) (by decide)))]; exact e14218
    have e14236 : I14229 (ad g 56) 2 = v14191 := by rw [eI14229, pp_ne _ _ (Or.inl (lyx_ne hy (by decide) (by decide) (by decide)))]; exact e14219
    have e14237 : I14229 (ad g 50) 2 = v14224 := by rw [eI14229, pp_ne _ _ (Or.inl (lyx_ne hy (by decide) (by decide) (by decide)))]; exact ev14224
    have fr14238 : fz 74 g [43, 44, 47, 48, 50, 51, 52, 56, 58] I I14229 := by rw [eI14229]; exact fzx_pp hy fr14220 (by decide) (by decide)
    clear eI14229
    refine WP_aload_n dX9_serve_255 rfl ?_
    refine WP_aload_n dX9_serve_256 rfl ?_
    refine WP_iload_n dX9_serve_257 rfl ?_
    refine WP_iload_n dX9_serve_258 rfl ?_
    refine WP_iload dX9_serve_259 rfl ?_
    refine WP_iload dX9_serve_261 rfl ?_
    refine WQ_isub dX9_serve_263 (by omega) (by omega) (fun v14239 hv14239 => ?_)
    refine WP_iload dX9_serve_264 rfl ?_
    refine WP_iload dX9_serve_266 rfl ?_
    refine WQ_isub dX9_serve_268 (by omega) (by omega) (fun v14240 hv14240 => ?_)
    refine WP_iload dX9_serve_269 rfl ?_
    refine WQ_iadd dX9_serve_271 (by omega) (by omega) (fun v14241 hv14241 => ?_)
    refine WP_callV5 (k := 9) dX9_serve_272 ⟨⟨⟨by decide, by decide⟩, zX9_sleep⟩, lX9_124, by decide, rfl, vX9_sleep.1, vX9_sleep.2⟩ (lyx_is hy 49 9 rfl) (sx_wsleepf_56_27 hy hrI14146 ht_I14146 hI14229 so da v14239 v14241 (by omega) (by omega) (by omega) (by omega) (by omega) (by omega) (by omega) (by omega) (by omega) (by rw [e14230]; omega)) (Nat.le_of_ble_eq_true rfl) ?_
    intro r I14242 J14243 Ra hq
    obtain ⟨⟨hI14242, ec, fiI14242, pI14242⟩, rfl⟩ := hq
    rw [ec]
    clear ec Ra
    have fr14244 : fz 74 g [43, 44, 47, 48, 50, 51, 52, 56, 58] I I14242 := fz_tr fr14238 (fz_mono fiI14242 (by decide))
    have e14245 : I14242 (ad g 50) 3 = w14154 := by rw [fz_at fiI14242 50 (by decide) (by decide)]; exact e14231
    have e14246 : I14242 (ad g 50) 4 = w14155 := by rw [fz_at fiI14242 50 (by decide) (by decide)]; exact e14232
    have e14247 : I14242 (ad g 50) 0 = v14156 := by rw [fz_at fiI14242 50 (by decide) (by decide)]; exact e14233
    have e14248 : I14242 (ad g 27) 4 = v14173 := by rw [fz_at fiI14242 27 (by decide) (by decide)]; exact e14234
    have e14249 : I14242 (ad g 50) 2 = v14224 := by rw [fz_at fiI14242 50 (by decide) (by decide)]; exact e14237
    have e14250 : I14242 (ad g 1) 1 = L := hI14242.2
    have b14251 := BT_get hI14242.1 1 1 2 (0) (0) (900) (by decide) 1 (by decide) (by decide)
    rw [e14250] at b14251
    obtain ⟨w14252, ew14252⟩ : ∃ w : Int32, I14242 (ad g 56) 1 = w := ⟨_, rfl⟩
    have bw14252 := BT_get hI14242.1 56 1 2 (0) (23760) (700000) (by decide) 1 (by decide) (by decide)
    rw [ew14252] at bw14252
    rw [ew14252, e14230] at pI14242
    exact WP_vret dX9_serve_275 rfl ⟨⟨hI14242, ⟨hrI14146, ⟨ht_I14146.trans hT.symm, hs_I14146⟩, hpI14146⟩, fr14244, (by rw [ew14252, ew14025]; omega)⟩, rfl⟩
