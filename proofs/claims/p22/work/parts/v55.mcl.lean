theorem pp_comm {α : Type} {f : Nat → Nat → α} {a q b k : Nat} {x y : α} (h : a ≠ b ∨ q ≠ k) : pp (pp f a q x) b k y = pp (pp f b k y) a q x := by
  funext c j
  unfold pp
  by_cases h1 : c = b ∧ j = k
  · rw [if_pos h1]
    by_cases h2 : c = a ∧ j = q
    · exact absurd h2 (by omega)
    · rw [if_neg h2, if_pos h1]
  · rw [if_neg h1]
    by_cases h2 : c = a ∧ j = q
    · rw [if_pos h2, if_pos h2]
    · rw [if_neg h2, if_neg h2, if_neg h1]
set_option maxHeartbeats 4000000 in
set_option maxRecDepth 100000 in
theorem em_readRot {g : GG} {I : pI} {J : pJ} {R : pR} (hy : Ly g) (hr : Rf g R) {B : Nat → Int} {n p : Nat} {S : TwS}  (hT : TPM g B n I) (hC : CUM g B n p I) (hn : n ≤ 900) (hB : ∀ q, -128 ≤ B q ∧ B q ≤ 127) (hp : p ≤ n) (hR : RTM g S I J) (hPI : PI S) (hSB : SBn S) : SP g mX11_readRot [.ref (ad g 0)] I J R (fun r I' J' R' => R' = R ∧ FC g [0, 7] I I' ∧ FC g [] J J' ∧ FQ g [3, 4, 5, 6, 7, 8, 9, 51] I I' ∧ ∃ v : Int32, r = some (.int v) ∧ ((v.toInt = 0 ∧ ERR g (clu B n 0 p S) I') ∨ (v.toInt = 1 ∧ ∃ S2 P2 p2, clu B n 0 p S = .ok (S2, P2, p2) ∧ RTM g (tel 0 P2 S2) I' J' ∧ TPM g B n I' ∧ CUM g B n p2 I' ∧ NOF g I I'))) := by
  refine SP_of ⟨by decide, rfl⟩ (Nat.le_of_ble_eq_true rfl) ?_
  have fI0 : FC g [0, 7] I I := FC_rf
  have fJ0 : FC g [] J J := FC_rf
  have fQ0 : FQ g [3, 4, 5, 6, 7, 8, 9, 51] I I := FQ_rf
  obtain ⟨w1306, ew1306⟩ : ∃ w : Int32, I (ad g 0) 3 = w := ⟨_, rfl⟩
  obtain ⟨w1307, ew1307⟩ : ∃ w : Int32, I (ad g 0) 7 = w := ⟨_, rfl⟩
  obtain ⟨w1308, ew1308⟩ : ∃ w : Int32, I (ad g 0) 8 = w := ⟨_, rfl⟩
  obtain ⟨w1309, ew1309⟩ : ∃ w : Int32, I (ad g 0) 9 = w := ⟨_, rfl⟩
  obtain ⟨w1310, ew1310⟩ : ∃ w : Int32, I (ad g 0) 51 = w := ⟨_, rfl⟩
  have nf0 : NOF g I I := NOF_rf
  have ha : ahd 0 S = 0 := by
    unfold ahd
    rw [if_neg (by omega), if_neg (by rintro ⟨z, -⟩; omega)]
  have E0 : prts B n 0 (SHP 0) 0 (tT B n p) S (fun _ => 0) = prts B n 0 ((SHP 0).drop 0) 0 (tT B n p) S (fun _ => 0) := rfl
  have hbb := hSB
  unfold SBn at hbb
  refine WP_aload_n dX11_readRot_0 rfl ?_
  refine WP_callV0 (k := 11) dX11_readRot_1 ⟨⟨⟨by decide, by decide⟩, zX11_scan⟩, lX11_63, by decide, rfl, vX11_scan.1, vX11_scan.2⟩ (ly_is hy 0 11 rfl) (em_scan hy hr   hT hn hB hC.2.1 (tT_le B hp).2) (Nat.le_of_ble_eq_true rfl) ?_
  intro r I1312 J1313 Ra hq
  obtain ⟨ec, g1314, g1315, g1316, er, p1311⟩ := hq
  rw [ec, er]
  clear ec er Ra r
  have e1317 : I1312 (ad g 0) 7 = w1307 := by rw [g1316 7 (by decide)]; exact ew1307
  have e1318 : I1312 (ad g 0) 8 = w1308 := by rw [g1316 8 (by decide)]; exact ew1308
  have e1319 : I1312 (ad g 0) 9 = w1309 := by rw [g1316 9 (by decide)]; exact ew1309
  have e1320 : I1312 (ad g 0) 51 = w1310 := by rw [g1316 51 (by decide)]; exact ew1310
  have fI1321 : FC g [0, 7] I I1312 := FC_tr fI0 (FC_mono g1314 (by decide))
  have fJ1322 : FC g [] J J1313 := FC_tr fJ0 (FC_mono g1315 (by decide))
  have fQ1323 : FQ g [3, 4, 5, 6, 7, 8, 9, 51] I I1312 := FQ_tr fQ0 (FQ_mono g1316 (by decide))
  obtain ⟨w1324, ew1324⟩ : ∃ w : Int32, I1312 (ad g 0) 3 = w := ⟨_, rfl⟩
  try simp only [ew1324, e1317, e1318, e1319, e1320, ew1306, ew1307, ew1308, ew1309, ew1310] at p1311
  obtain ⟨hT1, hC1⟩ := p1311
  have hR1 := RTM_fr hy hR g1314 g1315 g1316 (by decide) (by decide) (by decide)
  have nf1 := NOF_tr nf0 (NOF_fq g1316 (by decide))
  have hq1 := (tT_le B hp).2
  refine WP_aload_n dX11_readRot_4 rfl ?_
  refine WQ_iconst (0) (0) dX11_readRot_5 rfl rfl (fun v1325 hv1325 => ?_)
  refine WQ_bipush (6) (6) dX11_readRot_6 rfl rfl (fun v1326 hv1326 => ?_)
  refine WP_callV2 (k := 11) dX11_readRot_8 ⟨⟨⟨by decide, by decide⟩, zX11_peek⟩, lX11_59, by decide, rfl, vX11_peek.1, vX11_peek.2⟩ (ly_is hy 0 11 rfl) (em_peekD hy hr _ _  (c := 0) (i := 0) (S := S) (P := (fun _ => 0)) hT1 hC1 hn hB hq1 (by omega) (by omega)) (Nat.le_of_ble_eq_true rfl) ?_
  intro r I1329 J1330 Ra hq
  obtain ⟨ec, g1331, g1332, g1333, v1328, er, p1327⟩ := hq
  rw [ec, er]
  clear ec er Ra r
  have e1334 : I1329 (ad g 0) 51 = w1310 := by rw [g1333 51 (by decide)]; exact e1320
  have e1335 : I1329 (ad g 0) 3 = w1324 := by rw [g1333 3 (by decide)]; exact ew1324
  have fI1336 : FC g [0, 7] I I1329 := FC_tr fI1321 (FC_mono g1331 (by decide))
  have fJ1337 : FC g [] J J1330 := FC_tr fJ1322 (FC_mono g1332 (by decide))
  have fQ1338 : FQ g [3, 4, 5, 6, 7, 8, 9, 51] I I1329 := FQ_tr fQ1323 (FQ_mono g1333 (by decide))
  obtain ⟨w1339, ew1339⟩ : ∃ w : Int32, I1329 (ad g 0) 7 = w := ⟨_, rfl⟩
  obtain ⟨w1340, ew1340⟩ : ∃ w : Int32, I1329 (ad g 0) 8 = w := ⟨_, rfl⟩
  obtain ⟨w1341, ew1341⟩ : ∃ w : Int32, I1329 (ad g 0) 9 = w := ⟨_, rfl⟩
  try simp only [e1335, ew1339, ew1340, ew1341, e1334, ew1306, ew1307, ew1308, ew1309, ew1310] at p1327
  refine WQ_if_ne 16 dX11_readRot_11 rfl (fun c1341 => ?_) (fun c1341 => ?_)
  · obtain ⟨-, tk2, lb2, ub2, gt2, nz⟩ := Or.resolve_left p1327 (by rintro ⟨z, -⟩; omega)
    clear p1327
    have hR2 := RTM_fr hy hR1 g1331 g1332 g1333 (by decide) (by decide) (by decide)
    have nf2 := NOF_tr nf1 nz
    have hT2 := tpm_fq hy hT1 g1331 (by decide) g1333 (by decide)
    have hC2 := cum_fq hC1 g1333 (by decide)
    clear nz
    refine WP_aload_n dX11_readRot_16 rfl ?_
    refine WQ_getim dX11_readRot_17 fX11_78 rfl (ly_is hy 0 11 rfl) e1334 ?_
    refine WP_aload_n dX11_readRot_20 rfl ?_
    refine WQ_getim dX11_readRot_21 fX11_56 rfl (ly_is hy 0 11 rfl) ew1339 ?_
    refine WP_ishr dX11_readRot_24 ?_
    obtain ⟨v1343, xv1343⟩ : ∃ v : Int32, v = w1310 >>> (w1339 &&& 31) := ⟨_, rfl⟩
    rw [← xv1343]
    refine WQ_iconst (1) (1) dX11_readRot_25 rfl rfl (fun v1344 hv1344 => ?_)
    refine WP_iand dX11_readRot_26 ?_
    obtain ⟨v1345, xv1345⟩ : ∃ v : Int32, v = v1343 &&& v1344 := ⟨_, rfl⟩
    rw [← xv1345]
    have hbm := hR2.2.2.1 (tV B n (tT B n p)).toNat (by omega)
    simp only [e1334] at hbm
    have hbt := tb_get (d := (tV B n (tT B n p)).toNat) (by omega) (by omega) xv1343 hv1344 xv1345
    rw [hbm] at hbt
    refine WQ_iconst (1) (1) dX11_readRot_27 rfl rfl (fun v1346 hv1346 => ?_)
    refine WQ_icmp_ne 37 dX11_readRot_28 rfl (fun c1346 => ?_) (fun c1346 => ?_)
    · have hw51 := e1334
      obtain ⟨P1, hPa1, hPb1, k1⟩ : ∃ P9 : Nat → Int, P9 0 = tV B n (tT B n p) ∧ (∀ j, j ≠ 0 → P9 j = (fun _ => 0) j) ∧ prt B n 0 0 68 (tT B n p) S (fun _ => 0) = .ok (S, P9) := ⟨fun j => if j = 0 then tV B n (tT B n p) else (fun _ => 0) j, if_pos rfl, fun j hj => if_neg hj, prt_D (r := 0) tk2 lb2 ub2 rfl (hbt.elim (fun z => absurd z.2 (by omega)) (fun z => z.1))⟩
      have E1 := clu_go E0 (by decide) rfl k1
      refine WP_aload_n dX11_readRot_37 rfl ?_
      refine WP_dup dX11_readRot_38 rfl ?_
      refine WQ_getim dX11_readRot_39 fX11_78 rfl (ly_is hy 0 11 rfl) e1334 ?_
      refine WQ_iconst (1) (1) dX11_readRot_42 rfl rfl (fun v1348 hv1348 => ?_)
      refine WP_aload_n dX11_readRot_43 rfl ?_
      refine WQ_getim dX11_readRot_44 fX11_56 rfl (ly_is hy 0 11 rfl) ew1339 ?_
      refine WP_ishl dX11_readRot_47 ?_
      obtain ⟨v1349, xv1349⟩ : ∃ v : Int32, v = v1348 <<< (w1339 &&& 31) := ⟨_, rfl⟩
      rw [← xv1349]
      refine WP_ior dX11_readRot_48 ?_
      obtain ⟨v1350, xv1350⟩ : ∃ v : Int32, v = w1310 ||| v1349 := ⟨_, rfl⟩
      rw [← xv1350]
      refine WQ_puti dX11_readRot_49 fX11_78 rfl rfl (ly_is hy 0 11 rfl) (fun I1351 eI1351 => ?_)
      have e1352 : I1351 (ad g 0) 3 = w1324 := by rw [eI1351, pp_ne _ _ (Or.inr (by decide))]; exact e1335
      have e1353 : I1351 (ad g 0) 7 = w1339 := by rw [eI1351, pp_ne _ _ (Or.inr (by decide))]; exact ew1339
      have e1354 : I1351 (ad g 0) 8 = w1340 := by rw [eI1351, pp_ne _ _ (Or.inr (by decide))]; exact ew1340
      have e1355 : I1351 (ad g 0) 9 = w1341 := by rw [eI1351, pp_ne _ _ (Or.inr (by decide))]; exact ew1341
      have e1356 : I1351 (ad g 0) 51 = v1350 := by rw [eI1351, pp_self]
      have fI1357 : FC g [0, 7] I I1351 := by rw [eI1351]; exact FC_pp fI1336 (by decide)
      have fQ1358 : FQ g [3, 4, 5, 6, 7, 8, 9, 51] I I1351 := by rw [eI1351]; exact FQ_pp0 fQ1338 (by decide)
      have hR3 : RTM g (S.1, pp S.2 0 (tV B n (tT B n p)).toNat true) I1351 J1330 := by
        rw [eI1351]
        have hz5 := hR2
        refine RTM_sl hy hz5 51 _ (Or.inl rfl) (fun _ _ => rfl) ⟨rfl, rfl⟩ (fun r9 h1 h2 => pp_off _ _ (by omega)) hSB ?_ ?_ ?_
        · rw [pp_ne _ _ (Or.inr (by decide))]; exact hz5.1.2.2.1
        · rw [pp_ne _ _ (Or.inr (by decide))]
          show _ = if pp S.2 0 (tV B n (tT B n p)).toNat true 36 0 = true then _ else _
          rw [pp_off _ _ (by decide)]; exact hz5.1.2.2.2
        · intro d hd
          rw [pp_self]
          refine bit_or ?_
          rw [tb_set (d := (tV B n (tT B n p)).toNat) (by omega) hd (by omega) hv1348 xv1349 xv1350, ← hz5.2.2.1 d hd, hw51]
      have hT3 : TPM g B n I1351 := by rw [eI1351]; exact tpm_p0 hy hT2 (by decide)
      have hC3 : CUM g B n (tT B n p) I1351 := by rw [eI1351]; exact cum_p0 hC2 (by decide)
      have nf3 : NOF g I I1351 := by rw [eI1351]; exact NOF_tr nf2 (NOF_p0 (by decide))
      refine WP_aload_n dX11_readRot_52 rfl ?_
      refine WQ_getim dX11_readRot_53 fX11_56 rfl (ly_is hy 0 11 rfl) e1353 ?_
      refine WP_istore_n (ls' := [(0, _), (1, _)]) dX11_readRot_56 (by decide) rfl ?_
      refine WP_aload_n dX11_readRot_57 rfl ?_
      refine WP_callV0 (k := 11) dX11_readRot_58 ⟨⟨⟨by decide, by decide⟩, zX11_scan⟩, lX11_63, by decide, rfl, vX11_scan.1, vX11_scan.2⟩ (ly_is hy 0 11 rfl) (em_scan hy hr   hT3 hn hB hC3.2.1 (tT_le B hq1).2) (Nat.le_of_ble_eq_true rfl) ?_
      intro r I1360 J1361 Ra hq
      obtain ⟨ec, g1362, g1363, g1364, er, p1359⟩ := hq
      rw [ec, er]
      clear ec er Ra r
      have e1365 : I1360 (ad g 0) 7 = w1339 := by rw [g1364 7 (by decide)]; exact e1353
      have e1366 : I1360 (ad g 0) 8 = w1340 := by rw [g1364 8 (by decide)]; exact e1354
      have e1367 : I1360 (ad g 0) 9 = w1341 := by rw [g1364 9 (by decide)]; exact e1355
      have e1368 : I1360 (ad g 0) 51 = v1350 := by rw [g1364 51 (by decide)]; exact e1356
      have fI1369 : FC g [0, 7] I I1360 := FC_tr fI1357 (FC_mono g1362 (by decide))
      have fJ1370 : FC g [] J J1361 := FC_tr fJ1337 (FC_mono g1363 (by decide))
      have fQ1371 : FQ g [3, 4, 5, 6, 7, 8, 9, 51] I I1360 := FQ_tr fQ1358 (FQ_mono g1364 (by decide))
      obtain ⟨w1372, ew1372⟩ : ∃ w : Int32, I1360 (ad g 0) 3 = w := ⟨_, rfl⟩
      try simp only [ew1372, e1365, e1366, e1367, e1368, ew1306, ew1307, ew1308, ew1309, ew1310] at p1359
      obtain ⟨hT4, hC4⟩ := p1359
      have hR4 := RTM_fr hy hR3 g1362 g1363 g1364 (by decide) (by decide) (by decide)
      have nf4 := NOF_tr nf3 (NOF_fq g1364 (by decide))
      have hq4 := (tT_le B hq1).2
      refine WP_aload_n dX11_readRot_61 rfl ?_
      refine WQ_iconst (0) (0) dX11_readRot_62 rfl rfl (fun v1373 hv1373 => ?_)
      refine WQ_sipush (900) (900) dX11_readRot_63 rfl rfl (fun v1374 hv1374 => ?_)
      refine WP_callV2 (k := 11) dX11_readRot_66 ⟨⟨⟨by decide, by decide⟩, zX11_number⟩, lX11_81, by decide, rfl, vX11_number.1, vX11_number.2⟩ (ly_is hy 0 11 rfl) (em_num hy hr _ _  (c := 0) (i := 1) (ch := 76) (S := S) (P := P1) hT4 hC4 hn hB hq4 (by decide) (by decide) (by rw [show loB 76 = 0 from rfl]; omega) (by rw [show hiB 76 = 900 from rfl]; omega)) (Nat.le_of_ble_eq_true rfl) ?_
      intro r I1377 J1378 Ra hq
      obtain ⟨ec, g1379, g1380, g1381, v1376, er, p1375⟩ := hq
      rw [ec, er]
      clear ec er Ra r
      have e1382 : I1377 (ad g 0) 51 = v1350 := by rw [g1381 51 (by decide)]; exact e1368
      have fI1383 : FC g [0, 7] I I1377 := FC_tr fI1369 (FC_mono g1379 (by decide))
      have fJ1384 : FC g [] J J1378 := FC_tr fJ1370 (FC_mono g1380 (by decide))
      have fQ1385 : FQ g [3, 4, 5, 6, 7, 8, 9, 51] I I1377 := FQ_tr fQ1371 (FQ_mono g1381 (by decide))
      obtain ⟨w1386, ew1386⟩ : ∃ w : Int32, I1377 (ad g 0) 3 = w := ⟨_, rfl⟩
      obtain ⟨w1387, ew1387⟩ : ∃ w : Int32, I1377 (ad g 0) 7 = w := ⟨_, rfl⟩
      obtain ⟨w1388, ew1388⟩ : ∃ w : Int32, I1377 (ad g 0) 8 = w := ⟨_, rfl⟩
      obtain ⟨w1389, ew1389⟩ : ∃ w : Int32, I1377 (ad g 0) 9 = w := ⟨_, rfl⟩
      try simp only [ew1386, ew1387, ew1388, ew1389, e1382, ew1306, ew1307, ew1308, ew1309, ew1310] at p1375
      refine WQ_if_ne 74 dX11_readRot_69 rfl (fun c1389 => ?_) (fun c1389 => ?_)
      · obtain ⟨-, kz, lb5, ub5, gt5, hT5, hC5, nz⟩ := Or.resolve_left p1375 (by rintro ⟨z, -⟩; omega)
        clear p1375
        have hR5 := RTM_fr hy hR4 g1379 g1380 g1381 (by decide) (by decide) (by decide)
        have nf5 := NOF_tr nf4 nz
        have hq5 := (tT_le B hq4).2
        clear nz
        obtain ⟨P2, hPa2, hPb2, k2⟩ : ∃ P9 : Nat → Int, P9 1 = tV B n (tT B n (tT B n p)) ∧ (∀ j, j ≠ 1 → P9 j = P1 j) ∧ prt B n 0 1 76 (tT B n (tT B n p)) S P1 = .ok (S, P9) := ⟨fun j => if j = 1 then tV B n (tT B n (tT B n p)) else P1 j, if_pos rfl, fun j hj => if_neg hj, kz⟩
        have E2 := clu_go E1 (by decide) rfl k2
        clear kz
        refine WP_aload_n dX11_readRot_74 rfl ?_
        refine WP_getr dX11_readRot_75 fX11_84 rfl (ly_is hy 0 11 rfl) (rf hr 0 25 7 (by decide)) ?_
        refine WP_iload_n dX11_readRot_78 rfl ?_
        refine WP_aload_n dX11_readRot_79 rfl ?_
        refine WQ_getim dX11_readRot_80 fX11_56 rfl (ly_is hy 0 11 rfl) ew1387 ?_
        refine WE_is dX11_readRot_83 (ly_is hy 7 13 rfl) (ly_n hy 7 7 rfl) (by omega) (by omega) (fun I1391 eI1391 => ?_)
        have e1392 : I1391 (ad g 0) 51 = v1350 := by rw [eI1391, pp_ne _ _ (Or.inl (ly_ne hy (by decide) (by decide) (by decide)))]; exact e1382
        have e1393 : I1391 (ad g 0) 3 = w1386 := by rw [eI1391, pp_ne _ _ (Or.inl (ly_ne hy (by decide) (by decide) (by decide)))]; exact ew1386
        have e1394 : I1391 (ad g 0) 7 = w1387 := by rw [eI1391, pp_ne _ _ (Or.inl (ly_ne hy (by decide) (by decide) (by decide)))]; exact ew1387
        have e1395 : I1391 (ad g 0) 8 = w1388 := by rw [eI1391, pp_ne _ _ (Or.inl (ly_ne hy (by decide) (by decide) (by decide)))]; exact ew1388
        have e1396 : I1391 (ad g 0) 9 = w1389 := by rw [eI1391, pp_ne _ _ (Or.inl (ly_ne hy (by decide) (by decide) (by decide)))]; exact ew1389
        have fI1397 : FC g [0, 7] I I1391 := by rw [eI1391]; exact FC_pp fI1383 (by decide)
        have fQ1398 : FQ g [3, 4, 5, 6, 7, 8, 9, 51] I I1391 := by rw [eI1391]; exact FQ_ppn (ly_ne hy (by decide) (by decide) (by decide)) fQ1385
        have hR6 : RTM g (pp S.1 1 (tV B n (tT B n p)).toNat (tV B n (tT B n (tT B n p))), pp S.2 0 (tV B n (tT B n p)).toNat true) I1391 J1378 := by
          rw [eI1391, show w1339.toInt.toNat = (tV B n (tT B n p)).toNat by omega]
          exact RTM_rot hy hR5 _ _ _ (by omega)
        have hT6 : TPM g B n I1391 := by rw [eI1391]; exact tpm_pp hy hT5 (by decide)
        have hC6 : CUM g B n (tT B n (tT B n (tT B n p))) I1391 := by rw [eI1391]; exact cum_pp hy hC5 (by decide)
        have nf6 : NOF g I I1391 := by rw [eI1391]; exact NOF_tr nf5 (NOF_pp hy (by decide))
        refine WQ_iconst (1) (1) dX11_readRot_84 rfl rfl (fun v1399 hv1399 => ?_)
        exact WP_zret dX11_readRot_85 rfl (nar_z (by omega)) ⟨rfl, fI1397, fJ1384, fQ1398, v1399, rfl, by
          try simp only [e1392, e1393, e1394, e1395, e1396, ew1306, ew1307, ew1308, ew1309, ew1310]
          refine Or.inr ⟨by omega, S, P2, (tT B n (tT B n (tT B n p))), clu_ok ha E2, ?_, hT6, hC6, nf6⟩
          show RTM g (pp (pp S.1 0 0 (S.1 0 0 + 1)) 1 (P2 0).toNat (P2 1), pp S.2 0 (P2 0).toNat true) _ _
          rw [hPa2, hPb2 0 (by decide), hPa1, pp_comm (Or.inl (by decide))]
          exact RTM_cnt _ hR6⟩
      · refine WQ_iconst (0) (0) dX11_readRot_72 rfl rfl (fun v1400 hv1400 => ?_)
        exact WP_zret dX11_readRot_73 rfl (nar_z (by omega)) ⟨rfl, fI1383, fJ1384, fQ1385, v1400, rfl, by
          try simp only [e1382, ew1386, ew1387, ew1388, ew1389, ew1306, ew1307, ew1308, ew1309, ew1310]
          rcases p1375 with ⟨-, e⟩ | ⟨z, -⟩
          · exact Or.inl ⟨by omega, ERR_to e (fun er h => clu_er ha E1 (by decide) rfl h)⟩
          · exact absurd z (by omega)⟩
    · have c3z := hC2.1
      try simp only [e1335] at c3z
      refine WP_aload_n dX11_readRot_31 rfl ?_
      refine WQ_iconst (3) (3) dX11_readRot_32 rfl rfl (fun v1401 hv1401 => ?_)
      refine WP_callV1 (k := 11) dX11_readRot_33 ⟨⟨⟨by decide, by decide⟩, zX11_bad⟩, lX11_49, by decide, rfl, vX11_bad.1, vX11_bad.2⟩ (ly_is hy 0 11 rfl) (em_bad hy hr _  ) (Nat.le_of_ble_eq_true rfl) ?_
      intro r I1404 J1405 Ra hq
      obtain ⟨ec, g1406, g1407, g1408, v1403, er, p1402⟩ := hq
      rw [ec, er]
      clear ec er Ra r
      have e1409 : I1404 (ad g 0) 51 = w1310 := by rw [g1408 51 (by decide)]; exact e1334
      have e1410 : I1404 (ad g 0) 3 = w1324 := by rw [g1408 3 (by decide)]; exact e1335
      have e1411 : I1404 (ad g 0) 7 = w1339 := by rw [g1408 7 (by decide)]; exact ew1339
      have fI1412 : FC g [0, 7] I I1404 := FC_tr fI1336 (FC_mono g1406 (by decide))
      have fJ1413 : FC g [] J J1405 := FC_tr fJ1337 (FC_mono g1407 (by decide))
      have fQ1414 : FQ g [3, 4, 5, 6, 7, 8, 9, 51] I I1404 := FQ_tr fQ1338 (FQ_mono g1408 (by decide))
      obtain ⟨w1415, ew1415⟩ : ∃ w : Int32, I1404 (ad g 0) 8 = w := ⟨_, rfl⟩
      obtain ⟨w1416, ew1416⟩ : ∃ w : Int32, I1404 (ad g 0) 9 = w := ⟨_, rfl⟩
      try simp only [e1410, e1411, ew1415, ew1416, e1409, ew1306, ew1307, ew1308, ew1309, ew1310] at p1402
      obtain ⟨z0, z8, z9⟩ := p1402
      try simp only [e1335] at z9
      exact WP_zret dX11_readRot_36 rfl (nar_z (by omega)) ⟨rfl, fI1412, fJ1413, fQ1414, v1403, rfl, by
        try simp only [e1409, e1410, e1411, ew1415, ew1416, ew1306, ew1307, ew1308, ew1309, ew1310]
        refine Or.inl ⟨by omega, 3, tF B n (tT B n p), clu_er ha E0 (by decide) rfl (prt_Dx (r := 0) tk2 lb2 ub2 rfl (hbt.elim (fun z => z.1) (fun z => absurd z.2 (by omega)))), ?_⟩
        unfold ERM
        try simp only [ew1415, ew1416]
        exact ⟨by rw [z8]; omega, by rw [z9]; omega⟩⟩
  · refine WQ_iconst (0) (0) dX11_readRot_14 rfl rfl (fun v1417 hv1417 => ?_)
    exact WP_zret dX11_readRot_15 rfl (nar_z (by omega)) ⟨rfl, fI1336, fJ1337, fQ1338, v1417, rfl, by
      try simp only [e1334, e1335, ew1339, ew1340, ew1341, ew1306, ew1307, ew1308, ew1309, ew1310]
      rcases p1327 with ⟨-, e⟩ | ⟨z, -⟩
      · exact Or.inl ⟨by omega, ERR_to e (fun er h => clu_er ha E0 (by decide) rfl h)⟩
      · exact absurd z (by omega)⟩
set_option maxHeartbeats 4000000 in
set_option maxRecDepth 100000 in
theorem em_readEarns {g : GG} {I : pI} {J : pJ} {R : pR} (hy : Ly g) (hr : Rf g R) {B : Nat → Int} {n p : Nat} {S : TwS}  (hT : TPM g B n I) (hC : CUM g B n p I) (hn : n ≤ 900) (hB : ∀ q, -128 ≤ B q ∧ B q ≤ 127) (hp : p ≤ n) (hR : RTM g S I J) (hPI : PI S) (hSB : SBn S) : SP g mX11_readEarns [.ref (ad g 0)] I J R (fun r I' J' R' => R' = R ∧ FC g [0, 27, 33] I I' ∧ FC g [] J J' ∧ FQ g [3, 4, 5, 6, 7, 8, 9] I I' ∧ ∃ v : Int32, r = some (.int v) ∧ ((v.toInt = 0 ∧ ERR g (clu B n 3 p S) I') ∨ (v.toInt = 1 ∧ ∃ S2 P2 p2, clu B n 3 p S = .ok (S2, P2, p2) ∧ RTM g (tel 3 P2 S2) I' J' ∧ TPM g B n I' ∧ CUM g B n p2 I' ∧ NOF g I I'))) := by
  refine SP_of ⟨by decide, rfl⟩ (Nat.le_of_ble_eq_true rfl) ?_
  have fI0 : FC g [0, 27, 33] I I := FC_rf
  have fJ0 : FC g [] J J := FC_rf
  have fQ0 : FQ g [3, 4, 5, 6, 7, 8, 9] I I := FQ_rf
  obtain ⟨w1418, ew1418⟩ : ∃ w : Int32, I (ad g 0) 3 = w := ⟨_, rfl⟩
  obtain ⟨w1419, ew1419⟩ : ∃ w : Int32, I (ad g 0) 7 = w := ⟨_, rfl⟩
  obtain ⟨w1420, ew1420⟩ : ∃ w : Int32, I (ad g 0) 8 = w := ⟨_, rfl⟩
  obtain ⟨w1421, ew1421⟩ : ∃ w : Int32, I (ad g 0) 9 = w := ⟨_, rfl⟩
  obtain ⟨w1422, ew1422⟩ : ∃ w : Int32, I (ad g 0) 15 = w := ⟨_, rfl⟩
  have nf0 : NOF g I I := NOF_rf
  have ha : ahd 3 S = 0 := by
    unfold ahd
    rw [if_neg (by omega), if_neg (by rintro ⟨z, -⟩; omega)]
  have E0 : prts B n 3 (SHP 3) 0 (tT B n p) S (fun _ => 0) = prts B n 3 ((SHP 3).drop 0) 0 (tT B n p) S (fun _ => 0) := rfl
  have hbb := hSB
  unfold SBn at hbb
  refine WP_aload_n dX11_readEarns_0 rfl ?_
  refine WP_callV0 (k := 11) dX11_readEarns_1 ⟨⟨⟨by decide, by decide⟩, zX11_scan⟩, lX11_63, by decide, rfl, vX11_scan.1, vX11_scan.2⟩ (ly_is hy 0 11 rfl) (em_scan hy hr   hT hn hB hC.2.1 (tT_le B hp).2) (Nat.le_of_ble_eq_true rfl) ?_
  intro r I1424 J1425 Ra hq
  obtain ⟨ec, g1426, g1427, g1428, er, p1423⟩ := hq
  rw [ec, er]
  clear ec er Ra r
  have e1429 : I1424 (ad g 0) 7 = w1419 := by rw [g1428 7 (by decide)]; exact ew1419
  have e1430 : I1424 (ad g 0) 8 = w1420 := by rw [g1428 8 (by decide)]; exact ew1420
  have e1431 : I1424 (ad g 0) 9 = w1421 := by rw [g1428 9 (by decide)]; exact ew1421
  have e1432 : I1424 (ad g 0) 15 = w1422 := by rw [g1428 15 (by decide)]; exact ew1422
  have fI1433 : FC g [0, 27, 33] I I1424 := FC_tr fI0 (FC_mono g1426 (by decide))
  have fJ1434 : FC g [] J J1425 := FC_tr fJ0 (FC_mono g1427 (by decide))
  have fQ1435 : FQ g [3, 4, 5, 6, 7, 8, 9] I I1424 := FQ_tr fQ0 (FQ_mono g1428 (by decide))
  obtain ⟨w1436, ew1436⟩ : ∃ w : Int32, I1424 (ad g 0) 3 = w := ⟨_, rfl⟩
  try simp only [ew1436, e1429, e1430, e1431, e1432, ew1418, ew1419, ew1420, ew1421, ew1422] at p1423
  obtain ⟨hT1, hC1⟩ := p1423
  have hR1 := RTM_fr hy hR g1426 g1427 g1428 (by decide) (by decide) (by decide)
  have nf1 := NOF_tr nf0 (NOF_fq g1428 (by decide))
  have hq1 := (tT_le B hp).2
  refine WP_aload_n dX11_readEarns_4 rfl ?_
  refine WP_aload_n dX11_readEarns_5 rfl ?_
  refine WP_getr dX11_readEarns_6 fX11_91 rfl (ly_is hy 0 11 rfl) (rf hr 0 22 4 (by decide)) ?_
  refine WP_aload_n dX11_readEarns_9 rfl ?_
  refine WQ_getim dX11_readEarns_10 fX11_88 rfl (ly_is hy 0 11 rfl) e1432 ?_
  refine WP_callV2 (k := 11) dX11_readEarns_13 ⟨⟨⟨by decide, by decide⟩, zX11_known⟩, lX11_147, by decide, rfl, vX11_known.1, vX11_known.2⟩ (ly_is hy 0 11 rfl) (em_knowna hy hr _  (c := 3) (i := 0) (S := S) (P := (fun _ => 0)) hT1 hC1 hn hB hq1 hR1.2.2.2.2.2.2.2 hSB (by have z := hR1.1.1; simp only [e1432] at z; exact z) (by decide)) (Nat.le_of_ble_eq_true rfl) ?_
  intro r I1439 J1440 Ra hq
  obtain ⟨ec, g1441, g1442, g1443, v1438, er, p1437⟩ := hq
  rw [ec, er]
  clear ec er Ra r
  have e1444 : I1439 (ad g 0) 15 = w1422 := by rw [g1443 15 (by decide)]; exact e1432
  have fI1445 : FC g [0, 27, 33] I I1439 := FC_tr fI1433 (FC_mono g1441 (by decide))
  have fJ1446 : FC g [] J J1440 := FC_tr fJ1434 (FC_mono g1442 (by decide))
  have fQ1447 : FQ g [3, 4, 5, 6, 7, 8, 9] I I1439 := FQ_tr fQ1435 (FQ_mono g1443 (by decide))
  obtain ⟨w1448, ew1448⟩ : ∃ w : Int32, I1439 (ad g 0) 3 = w := ⟨_, rfl⟩
  obtain ⟨w1449, ew1449⟩ : ∃ w : Int32, I1439 (ad g 0) 7 = w := ⟨_, rfl⟩
  obtain ⟨w1450, ew1450⟩ : ∃ w : Int32, I1439 (ad g 0) 8 = w := ⟨_, rfl⟩
  obtain ⟨w1451, ew1451⟩ : ∃ w : Int32, I1439 (ad g 0) 9 = w := ⟨_, rfl⟩
  try simp only [ew1448, ew1449, ew1450, ew1451, e1444, ew1418, ew1419, ew1420, ew1421, ew1422] at p1437
  refine WQ_if_ne 21 dX11_readEarns_16 rfl (fun c1451 => ?_) (fun c1451 => ?_)
  · obtain ⟨-, kz, lb2, ub2, gt2, hT2, hC2, nz⟩ := Or.resolve_left p1437 (by rintro ⟨z, -⟩; omega)
    clear p1437
    have hR2 := RTM_fr hy hR1 g1441 g1442 g1443 (by decide) (by decide) (by decide)
    have nf2 := NOF_tr nf1 nz
    have hq2 := (tT_le B hq1).2
    clear nz
    obtain ⟨P1, hPa1, hPb1, k1⟩ : ∃ P9 : Nat → Int, P9 0 = fnS S (tW B n (tT B n p)) ∧ (∀ j, j ≠ 0 → P9 j = (fun _ => 0) j) ∧ prt B n 3 0 115 (tT B n p) S (fun _ => 0) = .ok (S, P9) := ⟨fun j => if j = 0 then fnS S (tW B n (tT B n p)) else (fun _ => 0) j, if_pos rfl, fun j hj => if_neg hj, kz⟩
    have E1 := clu_go E0 (by decide) rfl k1
    clear kz
    refine WP_aload_n dX11_readEarns_21 rfl ?_
    refine WQ_getim dX11_readEarns_22 fX11_56 rfl (ly_is hy 0 11 rfl) ew1449 ?_
    refine WP_istore_n (ls' := [(0, _), (1, _)]) dX11_readEarns_25 (by decide) rfl ?_
    refine WP_aload_n dX11_readEarns_26 rfl ?_
    refine WQ_iconst (0) (0) dX11_readEarns_27 rfl rfl (fun v1453 hv1453 => ?_)
    refine WQ_bipush (6) (6) dX11_readEarns_28 rfl rfl (fun v1454 hv1454 => ?_)
    refine WP_callV2 (k := 11) dX11_readEarns_30 ⟨⟨⟨by decide, by decide⟩, zX11_peek⟩, lX11_59, by decide, rfl, vX11_peek.1, vX11_peek.2⟩ (ly_is hy 0 11 rfl) (em_peekD hy hr _ _  (c := 3) (i := 1) (S := S) (P := P1) hT2 hC2 hn hB hq2 (by omega) (by omega)) (Nat.le_of_ble_eq_true rfl) ?_
    intro r I1457 J1458 Ra hq
    obtain ⟨ec, g1459, g1460, g1461, v1456, er, p1455⟩ := hq
    rw [ec, er]
    clear ec er Ra r
    have e1462 : I1457 (ad g 0) 15 = w1422 := by rw [g1461 15 (by decide)]; exact e1444
    have e1463 : I1457 (ad g 0) 3 = w1448 := by rw [g1461 3 (by decide)]; exact ew1448
    have fI1464 : FC g [0, 27, 33] I I1457 := FC_tr fI1445 (FC_mono g1459 (by decide))
    have fJ1465 : FC g [] J J1458 := FC_tr fJ1446 (FC_mono g1460 (by decide))
    have fQ1466 : FQ g [3, 4, 5, 6, 7, 8, 9] I I1457 := FQ_tr fQ1447 (FQ_mono g1461 (by decide))
    obtain ⟨w1467, ew1467⟩ : ∃ w : Int32, I1457 (ad g 0) 7 = w := ⟨_, rfl⟩
    obtain ⟨w1468, ew1468⟩ : ∃ w : Int32, I1457 (ad g 0) 8 = w := ⟨_, rfl⟩
    obtain ⟨w1469, ew1469⟩ : ∃ w : Int32, I1457 (ad g 0) 9 = w := ⟨_, rfl⟩
    try simp only [e1463, ew1467, ew1468, ew1469, e1462, ew1418, ew1419, ew1420, ew1421, ew1422] at p1455
    refine WQ_if_ne 38 dX11_readEarns_33 rfl (fun c1469 => ?_) (fun c1469 => ?_)
    · obtain ⟨-, tk3, lb3, ub3, gt3, nz⟩ := Or.resolve_left p1455 (by rintro ⟨z, -⟩; omega)
      clear p1455
      have hR3 := RTM_fr hy hR2 g1459 g1460 g1461 (by decide) (by decide) (by decide)
      have nf3 := NOF_tr nf2 nz
      have hT3 := tpm_fq hy hT2 g1459 (by decide) g1461 (by decide)
      have hC3 := cum_fq hC2 g1461 (by decide)
      clear nz
      refine WP_aload_n dX11_readEarns_38 rfl ?_
      refine WP_getr dX11_readEarns_39 fX11_111 rfl (ly_is hy 0 11 rfl) (rf hr 0 52 33 (by decide)) ?_
      refine WP_iload_n dX11_readEarns_42 rfl ?_
      refine WE_ia dX11_readEarns_43 (ly_is hy 33 13 rfl) (ly_n hy 33 4 rfl) (by omega) (by omega) (fun v1471 ev1471 => ?_)
      refine WP_aload_n dX11_readEarns_44 rfl ?_
      refine WQ_getim dX11_readEarns_45 fX11_56 rfl (ly_is hy 0 11 rfl) ew1467 ?_
      refine WP_ishr dX11_readEarns_48 ?_
      obtain ⟨v1472, xv1472⟩ : ∃ v : Int32, v = v1471 >>> (w1467 &&& 31) := ⟨_, rfl⟩
      rw [← xv1472]
      refine WQ_iconst (1) (1) dX11_readEarns_49 rfl rfl (fun v1473 hv1473 => ?_)
      refine WP_iand dX11_readEarns_50 ?_
      obtain ⟨v1474, xv1474⟩ : ∃ v : Int32, v = v1472 &&& v1473 := ⟨_, rfl⟩
      rw [← xv1474]
      have hcell : I1457 (ad g 33) (fnS S (tW B n (tT B n p))).toNat = v1471 := by rw [← show w1449.toInt.toNat = (fnS S (tW B n (tT B n p))).toNat by omega]; exact ev1471
      have hbm := hR3.2.2.2.2.2.1 (fnS S (tW B n (tT B n p))).toNat (by omega) (tV B n (tT B n (tT B n p))).toNat (by omega)
      rw [hcell] at hbm
      have hbt := tb_get (d := (tV B n (tT B n (tT B n p))).toNat) (by omega) (by omega) xv1472 hv1473 xv1474
      rw [hbm] at hbt
      refine WQ_iconst (1) (1) dX11_readEarns_51 rfl rfl (fun v1475 hv1475 => ?_)
      refine WQ_icmp_ne 61 dX11_readEarns_52 rfl (fun c1475 => ?_) (fun c1475 => ?_)
      · obtain ⟨P2, hPa2, hPb2, k2⟩ : ∃ P9 : Nat → Int, P9 1 = tV B n (tT B n (tT B n p)) ∧ (∀ j, j ≠ 1 → P9 j = P1 j) ∧ prt B n 3 1 68 (tT B n (tT B n p)) S P1 = .ok (S, P9) := ⟨fun j => if j = 1 then tV B n (tT B n (tT B n p)) else P1 j, if_pos rfl, fun j hj => if_neg hj, prt_D (r := 12 + (fnS S (tW B n (tT B n p))).toNat) tk3 lb3 ub3 (by rw [if_neg (by decide), hPa1]) (hbt.elim (fun z => absurd z.2 (by omega)) (fun z => z.1))⟩
        have E2 := clu_go E1 (by decide) rfl k2
        refine WP_aload_n dX11_readEarns_61 rfl ?_
        refine WP_getr dX11_readEarns_62 fX11_111 rfl (ly_is hy 0 11 rfl) (rf hr 0 52 33 (by decide)) ?_
        refine WP_iload_n dX11_readEarns_65 rfl ?_
        refine WP_dup2 dX11_readEarns_66 rfl rfl ?_
        refine WE_ia dX11_readEarns_67 (ly_is hy 33 13 rfl) (ly_n hy 33 4 rfl) (by omega) (by omega) (fun v1477 ev1477 => ?_)
        refine WQ_iconst (1) (1) dX11_readEarns_68 rfl rfl (fun v1478 hv1478 => ?_)
        refine WP_aload_n dX11_readEarns_69 rfl ?_
        refine WQ_getim dX11_readEarns_70 fX11_56 rfl (ly_is hy 0 11 rfl) ew1467 ?_
        refine WP_ishl dX11_readEarns_73 ?_
        obtain ⟨v1479, xv1479⟩ : ∃ v : Int32, v = v1478 <<< (w1467 &&& 31) := ⟨_, rfl⟩
        rw [← xv1479]
        refine WP_ior dX11_readEarns_74 ?_
        obtain ⟨v1480, xv1480⟩ : ∃ v : Int32, v = v1477 ||| v1479 := ⟨_, rfl⟩
        rw [← xv1480]
        refine WE_is dX11_readEarns_75 (ly_is hy 33 13 rfl) (ly_n hy 33 4 rfl) (by omega) (by omega) (fun I1481 eI1481 => ?_)
        have e1482 : I1481 (ad g 0) 15 = w1422 := by rw [eI1481, pp_ne _ _ (Or.inl (ly_ne hy (by decide) (by decide) (by decide)))]; exact e1462
        have e1483 : I1481 (ad g 0) 3 = w1448 := by rw [eI1481, pp_ne _ _ (Or.inl (ly_ne hy (by decide) (by decide) (by decide)))]; exact e1463
        have e1484 : I1481 (ad g 0) 7 = w1467 := by rw [eI1481, pp_ne _ _ (Or.inl (ly_ne hy (by decide) (by decide) (by decide)))]; exact ew1467
        have e1485 : I1481 (ad g 0) 8 = w1468 := by rw [eI1481, pp_ne _ _ (Or.inl (ly_ne hy (by decide) (by decide) (by decide)))]; exact ew1468
        have e1486 : I1481 (ad g 0) 9 = w1469 := by rw [eI1481, pp_ne _ _ (Or.inl (ly_ne hy (by decide) (by decide) (by decide)))]; exact ew1469
        have fI1487 : FC g [0, 27, 33] I I1481 := by rw [eI1481]; exact FC_pp fI1464 (by decide)
        have fQ1488 : FQ g [3, 4, 5, 6, 7, 8, 9] I I1481 := by rw [eI1481]; exact FQ_ppn (ly_ne hy (by decide) (by decide) (by decide)) fQ1466
        have hR4 : RTM g (S.1, pp S.2 (12 + (fnS S (tW B n (tT B n p))).toNat) (tV B n (tT B n (tT B n p))).toNat true) I1481 J1458 := by
          rw [eI1481, show w1449.toInt.toNat = (fnS S (tW B n (tT B n p))).toNat by omega]
          refine RTM_e33 hy hSB hR3 (fnS S (tW B n (tT B n p))).toNat (tV B n (tT B n (tT B n p))).toNat (by omega) _ (fun e he => ?_)
          rw [tb_set (d := (tV B n (tT B n (tT B n p))).toNat) (by omega) he (by omega) hv1478 xv1479 xv1480]
          rw [← ev1477, show w1449.toInt.toNat = (fnS S (tW B n (tT B n p))).toNat by omega]
        have hT4 : TPM g B n I1481 := by rw [eI1481]; exact tpm_pp hy hT3 (by decide)
        have hC4 : CUM g B n (tT B n (tT B n p)) I1481 := by rw [eI1481]; exact cum_pp hy hC3 (by decide)
        have nf4 : NOF g I I1481 := by rw [eI1481]; exact NOF_tr nf3 (NOF_pp hy (by decide))
        refine WQ_bipush (7) (7) dX11_readEarns_76 rfl rfl (fun v1489 hv1489 => ?_)
        refine WP_iload_n dX11_readEarns_78 rfl ?_
        refine WQ_imulK (7) dX11_readEarns_79 hv1489 (by omega) (by omega) (fun v1490 hv1490 => ?_)
        refine WP_aload_n dX11_readEarns_80 rfl ?_
        refine WQ_getim dX11_readEarns_81 fX11_56 rfl (ly_is hy 0 11 rfl) e1484 ?_
        refine WQ_iadd dX11_readEarns_84 (by omega) (by omega) (fun v1491 hv1491 => ?_)
        refine WP_istore_n (ls' := [(0, _), (1, _), (2, _)]) dX11_readEarns_85 (by decide) rfl ?_
        refine WP_aload_n dX11_readEarns_86 rfl ?_
        refine WP_callV0 (k := 11) dX11_readEarns_87 ⟨⟨⟨by decide, by decide⟩, zX11_scan⟩, lX11_63, by decide, rfl, vX11_scan.1, vX11_scan.2⟩ (ly_is hy 0 11 rfl) (em_scan hy hr   hT4 hn hB hC4.2.1 (tT_le B hq2).2) (Nat.le_of_ble_eq_true rfl) ?_
        intro r I1493 J1494 Ra hq
        obtain ⟨ec, g1495, g1496, g1497, er, p1492⟩ := hq
        rw [ec, er]
        clear ec er Ra r
        have e1498 : I1493 (ad g 0) 15 = w1422 := by rw [g1497 15 (by decide)]; exact e1482
        have e1499 : I1493 (ad g 0) 7 = w1467 := by rw [g1497 7 (by decide)]; exact e1484
        have e1500 : I1493 (ad g 0) 8 = w1468 := by rw [g1497 8 (by decide)]; exact e1485
        have e1501 : I1493 (ad g 0) 9 = w1469 := by rw [g1497 9 (by decide)]; exact e1486
        have fI1502 : FC g [0, 27, 33] I I1493 := FC_tr fI1487 (FC_mono g1495 (by decide))
        have fJ1503 : FC g [] J J1494 := FC_tr fJ1465 (FC_mono g1496 (by decide))
        have fQ1504 : FQ g [3, 4, 5, 6, 7, 8, 9] I I1493 := FQ_tr fQ1488 (FQ_mono g1497 (by decide))
        obtain ⟨w1505, ew1505⟩ : ∃ w : Int32, I1493 (ad g 0) 3 = w := ⟨_, rfl⟩
        try simp only [ew1505, e1499, e1500, e1501, e1498, ew1418, ew1419, ew1420, ew1421, ew1422] at p1492
        obtain ⟨hT5, hC5⟩ := p1492
        have hR5 := RTM_fr hy hR4 g1495 g1496 g1497 (by decide) (by decide) (by decide)
        have nf5 := NOF_tr nf4 (NOF_fq g1497 (by decide))
        have hq5 := (tT_le B hq2).2
        refine WP_aload_n dX11_readEarns_90 rfl ?_
        refine WQ_iconst (1) (1) dX11_readEarns_91 rfl rfl (fun v1506 hv1506 => ?_)
        refine WQ_bipush (20) (20) dX11_readEarns_92 rfl rfl (fun v1507 hv1507 => ?_)
        refine WP_callV2 (k := 11) dX11_readEarns_94 ⟨⟨⟨by decide, by decide⟩, zX11_number⟩, lX11_81, by decide, rfl, vX11_number.1, vX11_number.2⟩ (ly_is hy 0 11 rfl) (em_num hy hr _ _  (c := 3) (i := 2) (ch := 69) (S := S) (P := P2) hT5 hC5 hn hB hq5 (by decide) (by decide) (by rw [show loB 69 = 1 from rfl]; omega) (by rw [show hiB 69 = 20 from rfl]; omega)) (Nat.le_of_ble_eq_true rfl) ?_
        intro r I1510 J1511 Ra hq
        obtain ⟨ec, g1512, g1513, g1514, v1509, er, p1508⟩ := hq
        rw [ec, er]
        clear ec er Ra r
        have e1515 : I1510 (ad g 0) 15 = w1422 := by rw [g1514 15 (by decide)]; exact e1498
        have fI1516 : FC g [0, 27, 33] I I1510 := FC_tr fI1502 (FC_mono g1512 (by decide))
        have fJ1517 : FC g [] J J1511 := FC_tr fJ1503 (FC_mono g1513 (by decide))
        have fQ1518 : FQ g [3, 4, 5, 6, 7, 8, 9] I I1510 := FQ_tr fQ1504 (FQ_mono g1514 (by decide))
        obtain ⟨w1519, ew1519⟩ : ∃ w : Int32, I1510 (ad g 0) 3 = w := ⟨_, rfl⟩
        obtain ⟨w1520, ew1520⟩ : ∃ w : Int32, I1510 (ad g 0) 7 = w := ⟨_, rfl⟩
        obtain ⟨w1521, ew1521⟩ : ∃ w : Int32, I1510 (ad g 0) 8 = w := ⟨_, rfl⟩
        obtain ⟨w1522, ew1522⟩ : ∃ w : Int32, I1510 (ad g 0) 9 = w := ⟨_, rfl⟩
        try simp only [ew1519, ew1520, ew1521, ew1522, e1515, ew1418, ew1419, ew1420, ew1421, ew1422] at p1508
        refine WQ_if_ne 102 dX11_readEarns_97 rfl (fun c1522 => ?_) (fun c1522 => ?_)
        · obtain ⟨-, kz, lb6, ub6, gt6, hT6, hC6, nz⟩ := Or.resolve_left p1508 (by rintro ⟨z, -⟩; omega)
          clear p1508
          have hR6 := RTM_fr hy hR5 g1512 g1513 g1514 (by decide) (by decide) (by decide)
          have nf6 := NOF_tr nf5 nz
          have hq6 := (tT_le B hq5).2
          clear nz
          obtain ⟨P3, hPa3, hPb3, k3⟩ : ∃ P9 : Nat → Int, P9 2 = tV B n (tT B n (tT B n (tT B n p))) ∧ (∀ j, j ≠ 2 → P9 j = P2 j) ∧ prt B n 3 2 69 (tT B n (tT B n (tT B n p))) S P2 = .ok (S, P9) := ⟨fun j => if j = 2 then tV B n (tT B n (tT B n (tT B n p))) else P2 j, if_pos rfl, fun j hj => if_neg hj, kz⟩
          have E3 := clu_go E2 (by decide) rfl k3
          clear kz
          refine WP_aload_n dX11_readEarns_102 rfl ?_
          refine WP_getr dX11_readEarns_103 fX11_114 rfl (ly_is hy 0 11 rfl) (rf hr 0 45 27 (by decide)) ?_
          refine WP_iload_n dX11_readEarns_106 rfl ?_
          refine WP_aload_n dX11_readEarns_107 rfl ?_
          refine WQ_getim dX11_readEarns_108 fX11_56 rfl (ly_is hy 0 11 rfl) ew1520 ?_
          refine WE_is dX11_readEarns_111 (ly_is hy 27 13 rfl) (ly_n hy 27 28 rfl) (by omega) (by omega) (fun I1524 eI1524 => ?_)
          have e1525 : I1524 (ad g 0) 15 = w1422 := by rw [eI1524, pp_ne _ _ (Or.inl (ly_ne hy (by decide) (by decide) (by decide)))]; exact e1515
          have e1526 : I1524 (ad g 0) 3 = w1519 := by rw [eI1524, pp_ne _ _ (Or.inl (ly_ne hy (by decide) (by decide) (by decide)))]; exact ew1519
          have e1527 : I1524 (ad g 0) 7 = w1520 := by rw [eI1524, pp_ne _ _ (Or.inl (ly_ne hy (by decide) (by decide) (by decide)))]; exact ew1520
          have e1528 : I1524 (ad g 0) 8 = w1521 := by rw [eI1524, pp_ne _ _ (Or.inl (ly_ne hy (by decide) (by decide) (by decide)))]; exact ew1521
          have e1529 : I1524 (ad g 0) 9 = w1522 := by rw [eI1524, pp_ne _ _ (Or.inl (ly_ne hy (by decide) (by decide) (by decide)))]; exact ew1522
          have fI1530 : FC g [0, 27, 33] I I1524 := by rw [eI1524]; exact FC_pp fI1516 (by decide)
          have fQ1531 : FQ g [3, 4, 5, 6, 7, 8, 9] I I1524 := by rw [eI1524]; exact FQ_ppn (ly_ne hy (by decide) (by decide) (by decide)) fQ1518
          have hR7 : RTM g (pp S.1 6 ((fnS S (tW B n (tT B n p))).toNat * 7 + (tV B n (tT B n (tT B n p))).toNat) (tV B n (tT B n (tT B n (tT B n p)))), pp S.2 (12 + (fnS S (tW B n (tT B n p))).toNat) (tV B n (tT B n (tT B n p))).toNat true) I1524 J1511 := by
            rw [eI1524, show v1491.toInt.toNat = ((fnS S (tW B n (tT B n p))).toNat * 7 + (tV B n (tT B n (tT B n p))).toNat) by omega]
            exact RTM_rs hy hR6 (27, 6, 7) (by decide) _ _ _ (by omega)
          have hT7 : TPM g B n I1524 := by rw [eI1524]; exact tpm_pp hy hT6 (by decide)
          have hC7 : CUM g B n (tT B n (tT B n (tT B n (tT B n p)))) I1524 := by rw [eI1524]; exact cum_pp hy hC6 (by decide)
          have nf7 : NOF g I I1524 := by rw [eI1524]; exact NOF_tr nf6 (NOF_pp hy (by decide))
          refine WQ_iconst (1) (1) dX11_readEarns_112 rfl rfl (fun v1532 hv1532 => ?_)
          exact WP_zret dX11_readEarns_113 rfl (nar_z (by omega)) ⟨rfl, fI1530, fJ1517, fQ1531, v1532, rfl, by
            try simp only [e1525, e1526, e1527, e1528, e1529, ew1418, ew1419, ew1420, ew1421, ew1422]
            refine Or.inr ⟨by omega, S, P3, (tT B n (tT B n (tT B n (tT B n p)))), clu_ok ha E3, ?_, hT7, hC7, nf7⟩
            show RTM g (pp (pp S.1 0 0 (S.1 0 0 + 1)) 6 ((P3 0).toNat * 7 + (P3 1).toNat) (P3 2), pp S.2 (12 + (P3 0).toNat) (P3 1).toNat true) _ _
            rw [hPa3, hPb3 0 (by decide), hPb3 1 (by decide), hPa2, hPb2 0 (by decide), hPa1, pp_comm (Or.inl (by decide))]
            exact RTM_cnt _ hR7⟩
        · refine WQ_iconst (0) (0) dX11_readEarns_100 rfl rfl (fun v1533 hv1533 => ?_)
          exact WP_zret dX11_readEarns_101 rfl (nar_z (by omega)) ⟨rfl, fI1516, fJ1517, fQ1518, v1533, rfl, by
            try simp only [e1515, ew1519, ew1520, ew1521, ew1522, ew1418, ew1419, ew1420, ew1421, ew1422]
            rcases p1508 with ⟨-, e⟩ | ⟨z, -⟩
            · exact Or.inl ⟨by omega, ERR_to e (fun er h => clu_er ha E2 (by decide) rfl h)⟩
            · exact absurd z (by omega)⟩
      · have c3z := hC3.1
        try simp only [e1463] at c3z
        refine WP_aload_n dX11_readEarns_55 rfl ?_
        refine WQ_iconst (3) (3) dX11_readEarns_56 rfl rfl (fun v1534 hv1534 => ?_)
        refine WP_callV1 (k := 11) dX11_readEarns_57 ⟨⟨⟨by decide, by decide⟩, zX11_bad⟩, lX11_49, by decide, rfl, vX11_bad.1, vX11_bad.2⟩ (ly_is hy 0 11 rfl) (em_bad hy hr _  ) (Nat.le_of_ble_eq_true rfl) ?_
        intro r I1537 J1538 Ra hq
        obtain ⟨ec, g1539, g1540, g1541, v1536, er, p1535⟩ := hq
        rw [ec, er]
        clear ec er Ra r
        have e1542 : I1537 (ad g 0) 15 = w1422 := by rw [g1541 15 (by decide)]; exact e1462
        have e1543 : I1537 (ad g 0) 3 = w1448 := by rw [g1541 3 (by decide)]; exact e1463
        have e1544 : I1537 (ad g 0) 7 = w1467 := by rw [g1541 7 (by decide)]; exact ew1467
        have e1545 : I1537 (ad g 33) w1449.toInt.toNat = v1471 := by rw [FC_at hy g1539 33 (by decide) (by decide)]; exact ev1471
        have fI1546 : FC g [0, 27, 33] I I1537 := FC_tr fI1464 (FC_mono g1539 (by decide))
        have fJ1547 : FC g [] J J1538 := FC_tr fJ1465 (FC_mono g1540 (by decide))
        have fQ1548 : FQ g [3, 4, 5, 6, 7, 8, 9] I I1537 := FQ_tr fQ1466 (FQ_mono g1541 (by decide))
        obtain ⟨w1549, ew1549⟩ : ∃ w : Int32, I1537 (ad g 0) 8 = w := ⟨_, rfl⟩
        obtain ⟨w1550, ew1550⟩ : ∃ w : Int32, I1537 (ad g 0) 9 = w := ⟨_, rfl⟩
        try simp only [e1543, e1544, ew1549, ew1550, e1542, ew1418, ew1419, ew1420, ew1421, ew1422] at p1535
        obtain ⟨z0, z8, z9⟩ := p1535
        try simp only [e1463] at z9
        exact WP_zret dX11_readEarns_60 rfl (nar_z (by omega)) ⟨rfl, fI1546, fJ1547, fQ1548, v1536, rfl, by
          try simp only [e1542, e1543, e1544, ew1549, ew1550, ew1418, ew1419, ew1420, ew1421, ew1422]
          refine Or.inl ⟨by omega, 3, tF B n (tT B n (tT B n p)), clu_er ha E1 (by decide) rfl (prt_Dx (r := 12 + (fnS S (tW B n (tT B n p))).toNat) tk3 lb3 ub3 (by rw [if_neg (by decide), hPa1]) (hbt.elim (fun z => z.1) (fun z => absurd z.2 (by omega)))), ?_⟩
          unfold ERM
          try simp only [ew1549, ew1550]
          exact ⟨by rw [z8]; omega, by rw [z9]; omega⟩⟩
    · refine WQ_iconst (0) (0) dX11_readEarns_36 rfl rfl (fun v1551 hv1551 => ?_)
      exact WP_zret dX11_readEarns_37 rfl (nar_z (by omega)) ⟨rfl, fI1464, fJ1465, fQ1466, v1551, rfl, by
        try simp only [e1462, e1463, ew1467, ew1468, ew1469, ew1418, ew1419, ew1420, ew1421, ew1422]
        rcases p1455 with ⟨-, e⟩ | ⟨z, -⟩
        · exact Or.inl ⟨by omega, ERR_to e (fun er h => clu_er ha E1 (by decide) rfl h)⟩
        · exact absurd z (by omega)⟩
  · refine WQ_iconst (0) (0) dX11_readEarns_19 rfl rfl (fun v1552 hv1552 => ?_)
    exact WP_zret dX11_readEarns_20 rfl (nar_z (by omega)) ⟨rfl, fI1445, fJ1446, fQ1447, v1552, rfl, by
      try simp only [e1444, ew1448, ew1449, ew1450, ew1451, ew1418, ew1419, ew1420, ew1421, ew1422]
      rcases p1437 with ⟨-, e⟩ | ⟨z, -⟩
      · exact Or.inl ⟨by omega, ERR_to e (fun er h => clu_er ha E0 (by decide) rfl h)⟩
      · exact absurd z (by omega)⟩
set_option maxHeartbeats 4000000 in
set_option maxRecDepth 100000 in
theorem em_readPrices {g : GG} {I : pI} {J : pJ} {R : pR} (hy : Ly g) (hr : Rf g R) {B : Nat → Int} {n p : Nat} {S : TwS}  (hT : TPM g B n I) (hC : CUM g B n p I) (hn : n ≤ 900) (hB : ∀ q, -128 ≤ B q ∧ B q ≤ 127) (hp : p ≤ n) (hR : RTM g S I J) (hPI : PI S) (hSB : SBn S) : SP g mX11_readPrices [.ref (ad g 0)] I J R (fun r I' J' R' => R' = R ∧ FC g [0, 28, 34] I I' ∧ FC g [] J J' ∧ FQ g [3, 4, 5, 6, 7, 8, 9] I I' ∧ ∃ v : Int32, r = some (.int v) ∧ ((v.toInt = 0 ∧ ERR g (clu B n 4 p S) I') ∨ (v.toInt = 1 ∧ ∃ S2 P2 p2, clu B n 4 p S = .ok (S2, P2, p2) ∧ RTM g (tel 4 P2 S2) I' J' ∧ TPM g B n I' ∧ CUM g B n p2 I' ∧ NOF g I I'))) := by
  refine SP_of ⟨by decide, rfl⟩ (Nat.le_of_ble_eq_true rfl) ?_
  have fI0 : FC g [0, 28, 34] I I := FC_rf
  have fJ0 : FC g [] J J := FC_rf
  have fQ0 : FQ g [3, 4, 5, 6, 7, 8, 9] I I := FQ_rf
  obtain ⟨w1553, ew1553⟩ : ∃ w : Int32, I (ad g 0) 3 = w := ⟨_, rfl⟩
  obtain ⟨w1554, ew1554⟩ : ∃ w : Int32, I (ad g 0) 7 = w := ⟨_, rfl⟩
  obtain ⟨w1555, ew1555⟩ : ∃ w : Int32, I (ad g 0) 8 = w := ⟨_, rfl⟩
  obtain ⟨w1556, ew1556⟩ : ∃ w : Int32, I (ad g 0) 9 = w := ⟨_, rfl⟩
  obtain ⟨w1557, ew1557⟩ : ∃ w : Int32, I (ad g 0) 16 = w := ⟨_, rfl⟩
  have nf0 : NOF g I I := NOF_rf
  have ha : ahd 4 S = 0 := by
    unfold ahd
    rw [if_neg (by omega), if_neg (by rintro ⟨z, -⟩; omega)]
  have E0 : prts B n 4 (SHP 4) 0 (tT B n p) S (fun _ => 0) = prts B n 4 ((SHP 4).drop 0) 0 (tT B n p) S (fun _ => 0) := rfl
  have hbb := hSB
  unfold SBn at hbb
  refine WP_aload_n dX11_readPrices_0 rfl ?_
  refine WP_callV0 (k := 11) dX11_readPrices_1 ⟨⟨⟨by decide, by decide⟩, zX11_scan⟩, lX11_63, by decide, rfl, vX11_scan.1, vX11_scan.2⟩ (ly_is hy 0 11 rfl) (em_scan hy hr   hT hn hB hC.2.1 (tT_le B hp).2) (Nat.le_of_ble_eq_true rfl) ?_
  intro r I1559 J1560 Ra hq
  obtain ⟨ec, g1561, g1562, g1563, er, p1558⟩ := hq
  rw [ec, er]
  clear ec er Ra r
  have e1564 : I1559 (ad g 0) 7 = w1554 := by rw [g1563 7 (by decide)]; exact ew1554
  have e1565 : I1559 (ad g 0) 8 = w1555 := by rw [g1563 8 (by decide)]; exact ew1555
  have e1566 : I1559 (ad g 0) 9 = w1556 := by rw [g1563 9 (by decide)]; exact ew1556
  have e1567 : I1559 (ad g 0) 16 = w1557 := by rw [g1563 16 (by decide)]; exact ew1557
  have fI1568 : FC g [0, 28, 34] I I1559 := FC_tr fI0 (FC_mono g1561 (by decide))
  have fJ1569 : FC g [] J J1560 := FC_tr fJ0 (FC_mono g1562 (by decide))
  have fQ1570 : FQ g [3, 4, 5, 6, 7, 8, 9] I I1559 := FQ_tr fQ0 (FQ_mono g1563 (by decide))
  obtain ⟨w1571, ew1571⟩ : ∃ w : Int32, I1559 (ad g 0) 3 = w := ⟨_, rfl⟩
  try simp only [ew1571, e1564, e1565, e1566, e1567, ew1553, ew1554, ew1555, ew1556, ew1557] at p1558
  obtain ⟨hT1, hC1⟩ := p1558
  have hR1 := RTM_fr hy hR g1561 g1562 g1563 (by decide) (by decide) (by decide)
  have nf1 := NOF_tr nf0 (NOF_fq g1563 (by decide))
  have hq1 := (tT_le B hp).2
  refine WP_aload_n dX11_readPrices_4 rfl ?_
  refine WP_aload_n dX11_readPrices_5 rfl ?_
  refine WP_getr dX11_readPrices_6 fX11_129 rfl (ly_is hy 0 11 rfl) (rf hr 0 23 5 (by decide)) ?_
  refine WP_aload_n dX11_readPrices_9 rfl ?_
  refine WQ_getim dX11_readPrices_10 fX11_126 rfl (ly_is hy 0 11 rfl) e1567 ?_
  refine WP_callV2 (k := 11) dX11_readPrices_13 ⟨⟨⟨by decide, by decide⟩, zX11_known⟩, lX11_147, by decide, rfl, vX11_known.1, vX11_known.2⟩ (ly_is hy 0 11 rfl) (em_knownb hy hr _  (c := 4) (i := 0) (S := S) (P := (fun _ => 0)) hT1 hC1 hn hB hq1 hR1.2.2.2.2.2.2.2 hSB (by have z := hR1.1.2.1; simp only [e1567] at z; exact z)) (Nat.le_of_ble_eq_true rfl) ?_
  intro r I1574 J1575 Ra hq
  obtain ⟨ec, g1576, g1577, g1578, v1573, er, p1572⟩ := hq
  rw [ec, er]
  clear ec er Ra r
  have e1579 : I1574 (ad g 0) 16 = w1557 := by rw [g1578 16 (by decide)]; exact e1567
  have fI1580 : FC g [0, 28, 34] I I1574 := FC_tr fI1568 (FC_mono g1576 (by decide))
  have fJ1581 : FC g [] J J1575 := FC_tr fJ1569 (FC_mono g1577 (by decide))
  have fQ1582 : FQ g [3, 4, 5, 6, 7, 8, 9] I I1574 := FQ_tr fQ1570 (FQ_mono g1578 (by decide))
  obtain ⟨w1583, ew1583⟩ : ∃ w : Int32, I1574 (ad g 0) 3 = w := ⟨_, rfl⟩
  obtain ⟨w1584, ew1584⟩ : ∃ w : Int32, I1574 (ad g 0) 7 = w := ⟨_, rfl⟩
  obtain ⟨w1585, ew1585⟩ : ∃ w : Int32, I1574 (ad g 0) 8 = w := ⟨_, rfl⟩
  obtain ⟨w1586, ew1586⟩ : ∃ w : Int32, I1574 (ad g 0) 9 = w := ⟨_, rfl⟩
  try simp only [ew1583, ew1584, ew1585, ew1586, e1579, ew1553, ew1554, ew1555, ew1556, ew1557] at p1572
  refine WQ_if_ne 21 dX11_readPrices_16 rfl (fun c1586 => ?_) (fun c1586 => ?_)
  · obtain ⟨-, kz, lb2, ub2, gt2, hT2, hC2, nz⟩ := Or.resolve_left p1572 (by rintro ⟨z, -⟩; omega)
    clear p1572
    have hR2 := RTM_fr hy hR1 g1576 g1577 g1578 (by decide) (by decide) (by decide)
    have nf2 := NOF_tr nf1 nz
    have hq2 := (tT_le B hq1).2
    clear nz
    obtain ⟨P1, hPa1, hPb1, k1⟩ : ∃ P9 : Nat → Int, P9 0 = fnT S (tW B n (tT B n p)) ∧ (∀ j, j ≠ 0 → P9 j = (fun _ => 0) j) ∧ prt B n 4 0 116 (tT B n p) S (fun _ => 0) = .ok (S, P9) := ⟨fun j => if j = 0 then fnT S (tW B n (tT B n p)) else (fun _ => 0) j, if_pos rfl, fun j hj => if_neg hj, kz⟩
    have E1 := clu_go E0 (by decide) rfl k1
    clear kz
    refine WP_aload_n dX11_readPrices_21 rfl ?_
    refine WQ_getim dX11_readPrices_22 fX11_56 rfl (ly_is hy 0 11 rfl) ew1584 ?_
    refine WP_istore_n (ls' := [(0, _), (1, _)]) dX11_readPrices_25 (by decide) rfl ?_
    refine WP_aload_n dX11_readPrices_26 rfl ?_
    refine WQ_iconst (0) (0) dX11_readPrices_27 rfl rfl (fun v1588 hv1588 => ?_)
    refine WQ_bipush (6) (6) dX11_readPrices_28 rfl rfl (fun v1589 hv1589 => ?_)
    refine WP_callV2 (k := 11) dX11_readPrices_30 ⟨⟨⟨by decide, by decide⟩, zX11_peek⟩, lX11_59, by decide, rfl, vX11_peek.1, vX11_peek.2⟩ (ly_is hy 0 11 rfl) (em_peekD hy hr _ _  (c := 4) (i := 1) (S := S) (P := P1) hT2 hC2 hn hB hq2 (by omega) (by omega)) (Nat.le_of_ble_eq_true rfl) ?_
    intro r I1592 J1593 Ra hq
    obtain ⟨ec, g1594, g1595, g1596, v1591, er, p1590⟩ := hq
    rw [ec, er]
    clear ec er Ra r
    have e1597 : I1592 (ad g 0) 16 = w1557 := by rw [g1596 16 (by decide)]; exact e1579
    have e1598 : I1592 (ad g 0) 3 = w1583 := by rw [g1596 3 (by decide)]; exact ew1583
    have fI1599 : FC g [0, 28, 34] I I1592 := FC_tr fI1580 (FC_mono g1594 (by decide))
    have fJ1600 : FC g [] J J1593 := FC_tr fJ1581 (FC_mono g1595 (by decide))
    have fQ1601 : FQ g [3, 4, 5, 6, 7, 8, 9] I I1592 := FQ_tr fQ1582 (FQ_mono g1596 (by decide))
    obtain ⟨w1602, ew1602⟩ : ∃ w : Int32, I1592 (ad g 0) 7 = w := ⟨_, rfl⟩
    obtain ⟨w1603, ew1603⟩ : ∃ w : Int32, I1592 (ad g 0) 8 = w := ⟨_, rfl⟩
    obtain ⟨w1604, ew1604⟩ : ∃ w : Int32, I1592 (ad g 0) 9 = w := ⟨_, rfl⟩
    try simp only [e1598, ew1602, ew1603, ew1604, e1597, ew1553, ew1554, ew1555, ew1556, ew1557] at p1590
    refine WQ_if_ne 38 dX11_readPrices_33 rfl (fun c1604 => ?_) (fun c1604 => ?_)
    · obtain ⟨-, tk3, lb3, ub3, gt3, nz⟩ := Or.resolve_left p1590 (by rintro ⟨z, -⟩; omega)
      clear p1590
      have hR3 := RTM_fr hy hR2 g1594 g1595 g1596 (by decide) (by decide) (by decide)
      have nf3 := NOF_tr nf2 nz
      have hT3 := tpm_fq hy hT2 g1594 (by decide) g1596 (by decide)
      have hC3 := cum_fq hC2 g1596 (by decide)
      clear nz
      refine WP_aload_n dX11_readPrices_38 rfl ?_
      refine WP_getr dX11_readPrices_39 fX11_138 rfl (ly_is hy 0 11 rfl) (rf hr 0 53 34 (by decide)) ?_
      refine WP_iload_n dX11_readPrices_42 rfl ?_
      refine WE_ia dX11_readPrices_43 (ly_is hy 34 13 rfl) (ly_n hy 34 3 rfl) (by omega) (by omega) (fun v1606 ev1606 => ?_)
      refine WP_aload_n dX11_readPrices_44 rfl ?_
      refine WQ_getim dX11_readPrices_45 fX11_56 rfl (ly_is hy 0 11 rfl) ew1602 ?_
      refine WP_ishr dX11_readPrices_48 ?_
      obtain ⟨v1607, xv1607⟩ : ∃ v : Int32, v = v1606 >>> (w1602 &&& 31) := ⟨_, rfl⟩
      rw [← xv1607]
      refine WQ_iconst (1) (1) dX11_readPrices_49 rfl rfl (fun v1608 hv1608 => ?_)
      refine WP_iand dX11_readPrices_50 ?_
      obtain ⟨v1609, xv1609⟩ : ∃ v : Int32, v = v1607 &&& v1608 := ⟨_, rfl⟩
      rw [← xv1609]
      have hcell : I1592 (ad g 34) (fnT S (tW B n (tT B n p))).toNat = v1606 := by rw [← show w1584.toInt.toNat = (fnT S (tW B n (tT B n p))).toNat by omega]; exact ev1606
      have hbm := hR3.2.2.2.2.2.2.1 (fnT S (tW B n (tT B n p))).toNat (by omega) (tV B n (tT B n (tT B n p))).toNat (by omega)
      rw [hcell] at hbm
      have hbt := tb_get (d := (tV B n (tT B n (tT B n p))).toNat) (by omega) (by omega) xv1607 hv1608 xv1609
      rw [hbm] at hbt
      refine WQ_iconst (1) (1) dX11_readPrices_51 rfl rfl (fun v1610 hv1610 => ?_)
      refine WQ_icmp_ne 61 dX11_readPrices_52 rfl (fun c1610 => ?_) (fun c1610 => ?_)
      · obtain ⟨P2, hPa2, hPb2, k2⟩ : ∃ P9 : Nat → Int, P9 1 = tV B n (tT B n (tT B n p)) ∧ (∀ j, j ≠ 1 → P9 j = P1 j) ∧ prt B n 4 1 68 (tT B n (tT B n p)) S P1 = .ok (S, P9) := ⟨fun j => if j = 1 then tV B n (tT B n (tT B n p)) else P1 j, if_pos rfl, fun j hj => if_neg hj, prt_D (r := 16 + (fnT S (tW B n (tT B n p))).toNat) tk3 lb3 ub3 (by rw [if_neg (by decide), hPa1]) (hbt.elim (fun z => absurd z.2 (by omega)) (fun z => z.1))⟩
        have E2 := clu_go E1 (by decide) rfl k2
        refine WP_aload_n dX11_readPrices_61 rfl ?_
        refine WP_getr dX11_readPrices_62 fX11_138 rfl (ly_is hy 0 11 rfl) (rf hr 0 53 34 (by decide)) ?_
        refine WP_iload_n dX11_readPrices_65 rfl ?_
        refine WP_dup2 dX11_readPrices_66 rfl rfl ?_
        refine WE_ia dX11_readPrices_67 (ly_is hy 34 13 rfl) (ly_n hy 34 3 rfl) (by omega) (by omega) (fun v1612 ev1612 => ?_)
        refine WQ_iconst (1) (1) dX11_readPrices_68 rfl rfl (fun v1613 hv1613 => ?_)
        refine WP_aload_n dX11_readPrices_69 rfl ?_
        refine WQ_getim dX11_readPrices_70 fX11_56 rfl (ly_is hy 0 11 rfl) ew1602 ?_
        refine WP_ishl dX11_readPrices_73 ?_
        obtain ⟨v1614, xv1614⟩ : ∃ v : Int32, v = v1613 <<< (w1602 &&& 31) := ⟨_, rfl⟩
        rw [← xv1614]
        refine WP_ior dX11_readPrices_74 ?_
        obtain ⟨v1615, xv1615⟩ : ∃ v : Int32, v = v1612 ||| v1614 := ⟨_, rfl⟩
        rw [← xv1615]
        refine WE_is dX11_readPrices_75 (ly_is hy 34 13 rfl) (ly_n hy 34 3 rfl) (by omega) (by omega) (fun I1616 eI1616 => ?_)
        have e1617 : I1616 (ad g 0) 16 = w1557 := by rw [eI1616, pp_ne _ _ (Or.inl (ly_ne hy (by decide) (by decide) (by decide)))]; exact e1597
        have e1618 : I1616 (ad g 0) 3 = w1583 := by rw [eI1616, pp_ne _ _ (Or.inl (ly_ne hy (by decide) (by decide) (by decide)))]; exact e1598
        have e1619 : I1616 (ad g 0) 7 = w1602 := by rw [eI1616, pp_ne _ _ (Or.inl (ly_ne hy (by decide) (by decide) (by decide)))]; exact ew1602
        have e1620 : I1616 (ad g 0) 8 = w1603 := by rw [eI1616, pp_ne _ _ (Or.inl (ly_ne hy (by decide) (by decide) (by decide)))]; exact ew1603
        have e1621 : I1616 (ad g 0) 9 = w1604 := by rw [eI1616, pp_ne _ _ (Or.inl (ly_ne hy (by decide) (by decide) (by decide)))]; exact ew1604
        have fI1622 : FC g [0, 28, 34] I I1616 := by rw [eI1616]; exact FC_pp fI1599 (by decide)
        have fQ1623 : FQ g [3, 4, 5, 6, 7, 8, 9] I I1616 := by rw [eI1616]; exact FQ_ppn (ly_ne hy (by decide) (by decide) (by decide)) fQ1601
        have hR4 : RTM g (S.1, pp S.2 (16 + (fnT S (tW B n (tT B n p))).toNat) (tV B n (tT B n (tT B n p))).toNat true) I1616 J1593 := by
          rw [eI1616, show w1584.toInt.toNat = (fnT S (tW B n (tT B n p))).toNat by omega]
          refine RTM_e34 hy hSB hR3 (fnT S (tW B n (tT B n p))).toNat (tV B n (tT B n (tT B n p))).toNat (by omega) _ (fun e he => ?_)
          rw [tb_set (d := (tV B n (tT B n (tT B n p))).toNat) (by omega) he (by omega) hv1613 xv1614 xv1615]
          rw [← ev1612, show w1584.toInt.toNat = (fnT S (tW B n (tT B n p))).toNat by omega]
        have hT4 : TPM g B n I1616 := by rw [eI1616]; exact tpm_pp hy hT3 (by decide)
        have hC4 : CUM g B n (tT B n (tT B n p)) I1616 := by rw [eI1616]; exact cum_pp hy hC3 (by decide)
        have nf4 : NOF g I I1616 := by rw [eI1616]; exact NOF_tr nf3 (NOF_pp hy (by decide))
        refine WQ_bipush (7) (7) dX11_readPrices_76 rfl rfl (fun v1624 hv1624 => ?_)
        refine WP_iload_n dX11_readPrices_78 rfl ?_
        refine WQ_imulK (7) dX11_readPrices_79 hv1624 (by omega) (by omega) (fun v1625 hv1625 => ?_)
        refine WP_aload_n dX11_readPrices_80 rfl ?_
        refine WQ_getim dX11_readPrices_81 fX11_56 rfl (ly_is hy 0 11 rfl) e1619 ?_
        refine WQ_iadd dX11_readPrices_84 (by omega) (by omega) (fun v1626 hv1626 => ?_)
        refine WP_istore_n (ls' := [(0, _), (1, _), (2, _)]) dX11_readPrices_85 (by decide) rfl ?_
        refine WP_aload_n dX11_readPrices_86 rfl ?_
        refine WP_callV0 (k := 11) dX11_readPrices_87 ⟨⟨⟨by decide, by decide⟩, zX11_scan⟩, lX11_63, by decide, rfl, vX11_scan.1, vX11_scan.2⟩ (ly_is hy 0 11 rfl) (em_scan hy hr   hT4 hn hB hC4.2.1 (tT_le B hq2).2) (Nat.le_of_ble_eq_true rfl) ?_
        intro r I1628 J1629 Ra hq
        obtain ⟨ec, g1630, g1631, g1632, er, p1627⟩ := hq
        rw [ec, er]
        clear ec er Ra r
        have e1633 : I1628 (ad g 0) 16 = w1557 := by rw [g1632 16 (by decide)]; exact e1617
        have e1634 : I1628 (ad g 0) 7 = w1602 := by rw [g1632 7 (by decide)]; exact e1619
        have e1635 : I1628 (ad g 0) 8 = w1603 := by rw [g1632 8 (by decide)]; exact e1620
        have e1636 : I1628 (ad g 0) 9 = w1604 := by rw [g1632 9 (by decide)]; exact e1621
        have fI1637 : FC g [0, 28, 34] I I1628 := FC_tr fI1622 (FC_mono g1630 (by decide))
        have fJ1638 : FC g [] J J1629 := FC_tr fJ1600 (FC_mono g1631 (by decide))
        have fQ1639 : FQ g [3, 4, 5, 6, 7, 8, 9] I I1628 := FQ_tr fQ1623 (FQ_mono g1632 (by decide))
        obtain ⟨w1640, ew1640⟩ : ∃ w : Int32, I1628 (ad g 0) 3 = w := ⟨_, rfl⟩
        try simp only [ew1640, e1634, e1635, e1636, e1633, ew1553, ew1554, ew1555, ew1556, ew1557] at p1627
        obtain ⟨hT5, hC5⟩ := p1627
        have hR5 := RTM_fr hy hR4 g1630 g1631 g1632 (by decide) (by decide) (by decide)
        have nf5 := NOF_tr nf4 (NOF_fq g1632 (by decide))
        have hq5 := (tT_le B hq2).2
        refine WP_aload_n dX11_readPrices_90 rfl ?_
        refine WQ_iconst (1) (1) dX11_readPrices_91 rfl rfl (fun v1641 hv1641 => ?_)
        refine WQ_bipush (20) (20) dX11_readPrices_92 rfl rfl (fun v1642 hv1642 => ?_)
        refine WP_callV2 (k := 11) dX11_readPrices_94 ⟨⟨⟨by decide, by decide⟩, zX11_number⟩, lX11_81, by decide, rfl, vX11_number.1, vX11_number.2⟩ (ly_is hy 0 11 rfl) (em_num hy hr _ _  (c := 4) (i := 2) (ch := 69) (S := S) (P := P2) hT5 hC5 hn hB hq5 (by decide) (by decide) (by rw [show loB 69 = 1 from rfl]; omega) (by rw [show hiB 69 = 20 from rfl]; omega)) (Nat.le_of_ble_eq_true rfl) ?_
        intro r I1645 J1646 Ra hq
        obtain ⟨ec, g1647, g1648, g1649, v1644, er, p1643⟩ := hq
        rw [ec, er]
        clear ec er Ra r
        have e1650 : I1645 (ad g 0) 16 = w1557 := by rw [g1649 16 (by decide)]; exact e1633
        have fI1651 : FC g [0, 28, 34] I I1645 := FC_tr fI1637 (FC_mono g1647 (by decide))
        have fJ1652 : FC g [] J J1646 := FC_tr fJ1638 (FC_mono g1648 (by decide))
        have fQ1653 : FQ g [3, 4, 5, 6, 7, 8, 9] I I1645 := FQ_tr fQ1639 (FQ_mono g1649 (by decide))
        obtain ⟨w1654, ew1654⟩ : ∃ w : Int32, I1645 (ad g 0) 3 = w := ⟨_, rfl⟩
        obtain ⟨w1655, ew1655⟩ : ∃ w : Int32, I1645 (ad g 0) 7 = w := ⟨_, rfl⟩
        obtain ⟨w1656, ew1656⟩ : ∃ w : Int32, I1645 (ad g 0) 8 = w := ⟨_, rfl⟩
        obtain ⟨w1657, ew1657⟩ : ∃ w : Int32, I1645 (ad g 0) 9 = w := ⟨_, rfl⟩
        try simp only [ew1654, ew1655, ew1656, ew1657, e1650, ew1553, ew1554, ew1555, ew1556, ew1557] at p1643
        refine WQ_if_ne 102 dX11_readPrices_97 rfl (fun c1657 => ?_) (fun c1657 => ?_)
        · obtain ⟨-, kz, lb6, ub6, gt6, hT6, hC6, nz⟩ := Or.resolve_left p1643 (by rintro ⟨z, -⟩; omega)
          clear p1643
          have hR6 := RTM_fr hy hR5 g1647 g1648 g1649 (by decide) (by decide) (by decide)
          have nf6 := NOF_tr nf5 nz
          have hq6 := (tT_le B hq5).2
          clear nz
          obtain ⟨P3, hPa3, hPb3, k3⟩ : ∃ P9 : Nat → Int, P9 2 = tV B n (tT B n (tT B n (tT B n p))) ∧ (∀ j, j ≠ 2 → P9 j = P2 j) ∧ prt B n 4 2 69 (tT B n (tT B n (tT B n p))) S P2 = .ok (S, P9) := ⟨fun j => if j = 2 then tV B n (tT B n (tT B n (tT B n p))) else P2 j, if_pos rfl, fun j hj => if_neg hj, kz⟩
          have E3 := clu_go E2 (by decide) rfl k3
          clear kz
          refine WP_aload_n dX11_readPrices_102 rfl ?_
          refine WP_getr dX11_readPrices_103 fX11_141 rfl (ly_is hy 0 11 rfl) (rf hr 0 46 28 (by decide)) ?_
          refine WP_iload_n dX11_readPrices_106 rfl ?_
          refine WP_aload_n dX11_readPrices_107 rfl ?_
          refine WQ_getim dX11_readPrices_108 fX11_56 rfl (ly_is hy 0 11 rfl) ew1655 ?_
          refine WE_is dX11_readPrices_111 (ly_is hy 28 13 rfl) (ly_n hy 28 21 rfl) (by omega) (by omega) (fun I1659 eI1659 => ?_)
          have e1660 : I1659 (ad g 0) 16 = w1557 := by rw [eI1659, pp_ne _ _ (Or.inl (ly_ne hy (by decide) (by decide) (by decide)))]; exact e1650
          have e1661 : I1659 (ad g 0) 3 = w1654 := by rw [eI1659, pp_ne _ _ (Or.inl (ly_ne hy (by decide) (by decide) (by decide)))]; exact ew1654
          have e1662 : I1659 (ad g 0) 7 = w1655 := by rw [eI1659, pp_ne _ _ (Or.inl (ly_ne hy (by decide) (by decide) (by decide)))]; exact ew1655
          have e1663 : I1659 (ad g 0) 8 = w1656 := by rw [eI1659, pp_ne _ _ (Or.inl (ly_ne hy (by decide) (by decide) (by decide)))]; exact ew1656
          have e1664 : I1659 (ad g 0) 9 = w1657 := by rw [eI1659, pp_ne _ _ (Or.inl (ly_ne hy (by decide) (by decide) (by decide)))]; exact ew1657
          have fI1665 : FC g [0, 28, 34] I I1659 := by rw [eI1659]; exact FC_pp fI1651 (by decide)
          have fQ1666 : FQ g [3, 4, 5, 6, 7, 8, 9] I I1659 := by rw [eI1659]; exact FQ_ppn (ly_ne hy (by decide) (by decide) (by decide)) fQ1653
          have hR7 : RTM g (pp S.1 12 ((fnT S (tW B n (tT B n p))).toNat * 7 + (tV B n (tT B n (tT B n p))).toNat) (tV B n (tT B n (tT B n (tT B n p)))), pp S.2 (16 + (fnT S (tW B n (tT B n p))).toNat) (tV B n (tT B n (tT B n p))).toNat true) I1659 J1646 := by
            rw [eI1659, show v1626.toInt.toNat = ((fnT S (tW B n (tT B n p))).toNat * 7 + (tV B n (tT B n (tT B n p))).toNat) by omega]
            exact RTM_rt hy hR6 (28, 12, 7) (by decide) _ _ _ (by omega)
          have hT7 : TPM g B n I1659 := by rw [eI1659]; exact tpm_pp hy hT6 (by decide)
          have hC7 : CUM g B n (tT B n (tT B n (tT B n (tT B n p)))) I1659 := by rw [eI1659]; exact cum_pp hy hC6 (by decide)
          have nf7 : NOF g I I1659 := by rw [eI1659]; exact NOF_tr nf6 (NOF_pp hy (by decide))
          refine WQ_iconst (1) (1) dX11_readPrices_112 rfl rfl (fun v1667 hv1667 => ?_)
          exact WP_zret dX11_readPrices_113 rfl (nar_z (by omega)) ⟨rfl, fI1665, fJ1652, fQ1666, v1667, rfl, by
            try simp only [e1660, e1661, e1662, e1663, e1664, ew1553, ew1554, ew1555, ew1556, ew1557]
            refine Or.inr ⟨by omega, S, P3, (tT B n (tT B n (tT B n (tT B n p)))), clu_ok ha E3, ?_, hT7, hC7, nf7⟩
            show RTM g (pp (pp S.1 0 0 (S.1 0 0 + 1)) 12 ((P3 0).toNat * 7 + (P3 1).toNat) (P3 2), pp S.2 (16 + (P3 0).toNat) (P3 1).toNat true) _ _
            rw [hPa3, hPb3 0 (by decide), hPb3 1 (by decide), hPa2, hPb2 0 (by decide), hPa1, pp_comm (Or.inl (by decide))]
            exact RTM_cnt _ hR7⟩
        · refine WQ_iconst (0) (0) dX11_readPrices_100 rfl rfl (fun v1668 hv1668 => ?_)
          exact WP_zret dX11_readPrices_101 rfl (nar_z (by omega)) ⟨rfl, fI1651, fJ1652, fQ1653, v1668, rfl, by
            try simp only [e1650, ew1654, ew1655, ew1656, ew1657, ew1553, ew1554, ew1555, ew1556, ew1557]
            rcases p1643 with ⟨-, e⟩ | ⟨z, -⟩
            · exact Or.inl ⟨by omega, ERR_to e (fun er h => clu_er ha E2 (by decide) rfl h)⟩
            · exact absurd z (by omega)⟩
      · have c3z := hC3.1
        try simp only [e1598] at c3z
        refine WP_aload_n dX11_readPrices_55 rfl ?_
        refine WQ_iconst (3) (3) dX11_readPrices_56 rfl rfl (fun v1669 hv1669 => ?_)
        refine WP_callV1 (k := 11) dX11_readPrices_57 ⟨⟨⟨by decide, by decide⟩, zX11_bad⟩, lX11_49, by decide, rfl, vX11_bad.1, vX11_bad.2⟩ (ly_is hy 0 11 rfl) (em_bad hy hr _  ) (Nat.le_of_ble_eq_true rfl) ?_
        intro r I1672 J1673 Ra hq
        obtain ⟨ec, g1674, g1675, g1676, v1671, er, p1670⟩ := hq
        rw [ec, er]
        clear ec er Ra r
        have e1677 : I1672 (ad g 0) 16 = w1557 := by rw [g1676 16 (by decide)]; exact e1597
        have e1678 : I1672 (ad g 0) 3 = w1583 := by rw [g1676 3 (by decide)]; exact e1598
        have e1679 : I1672 (ad g 0) 7 = w1602 := by rw [g1676 7 (by decide)]; exact ew1602
        have e1680 : I1672 (ad g 34) w1584.toInt.toNat = v1606 := by rw [FC_at hy g1674 34 (by decide) (by decide)]; exact ev1606
        have fI1681 : FC g [0, 28, 34] I I1672 := FC_tr fI1599 (FC_mono g1674 (by decide))
        have fJ1682 : FC g [] J J1673 := FC_tr fJ1600 (FC_mono g1675 (by decide))
        have fQ1683 : FQ g [3, 4, 5, 6, 7, 8, 9] I I1672 := FQ_tr fQ1601 (FQ_mono g1676 (by decide))
        obtain ⟨w1684, ew1684⟩ : ∃ w : Int32, I1672 (ad g 0) 8 = w := ⟨_, rfl⟩
        obtain ⟨w1685, ew1685⟩ : ∃ w : Int32, I1672 (ad g 0) 9 = w := ⟨_, rfl⟩
        try simp only [e1678, e1679, ew1684, ew1685, e1677, ew1553, ew1554, ew1555, ew1556, ew1557] at p1670
        obtain ⟨z0, z8, z9⟩ := p1670
        try simp only [e1598] at z9
        exact WP_zret dX11_readPrices_60 rfl (nar_z (by omega)) ⟨rfl, fI1681, fJ1682, fQ1683, v1671, rfl, by
          try simp only [e1677, e1678, e1679, ew1684, ew1685, ew1553, ew1554, ew1555, ew1556, ew1557]
          refine Or.inl ⟨by omega, 3, tF B n (tT B n (tT B n p)), clu_er ha E1 (by decide) rfl (prt_Dx (r := 16 + (fnT S (tW B n (tT B n p))).toNat) tk3 lb3 ub3 (by rw [if_neg (by decide), hPa1]) (hbt.elim (fun z => z.1) (fun z => absurd z.2 (by omega)))), ?_⟩
          unfold ERM
          try simp only [ew1684, ew1685]
          exact ⟨by rw [z8]; omega, by rw [z9]; omega⟩⟩
    · refine WQ_iconst (0) (0) dX11_readPrices_36 rfl rfl (fun v1686 hv1686 => ?_)
      exact WP_zret dX11_readPrices_37 rfl (nar_z (by omega)) ⟨rfl, fI1599, fJ1600, fQ1601, v1686, rfl, by
        try simp only [e1597, e1598, ew1602, ew1603, ew1604, ew1553, ew1554, ew1555, ew1556, ew1557]
        rcases p1590 with ⟨-, e⟩ | ⟨z, -⟩
        · exact Or.inl ⟨by omega, ERR_to e (fun er h => clu_er ha E1 (by decide) rfl h)⟩
        · exact absurd z (by omega)⟩
  · refine WQ_iconst (0) (0) dX11_readPrices_19 rfl rfl (fun v1687 hv1687 => ?_)
    exact WP_zret dX11_readPrices_20 rfl (nar_z (by omega)) ⟨rfl, fI1580, fJ1581, fQ1582, v1687, rfl, by
      try simp only [e1579, ew1583, ew1584, ew1585, ew1586, ew1553, ew1554, ew1555, ew1556, ew1557]
      rcases p1572 with ⟨-, e⟩ | ⟨z, -⟩
      · exact Or.inl ⟨by omega, ERR_to e (fun er h => clu_er ha E0 (by decide) rfl h)⟩
      · exact absurd z (by omega)⟩
