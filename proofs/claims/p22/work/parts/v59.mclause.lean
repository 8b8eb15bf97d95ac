theorem KW_inj : ∀ j, j < 10 → ∀ k, k < 10 → KW j = KW k → j = k := by decide
theorem kwd_of {w : Int} {k : Nat} (hk : k < 10) (h : KW k = w) : ∀ f j, j ≤ k → f = 10 - j → kwd w f j = k
  | 0, j, h1, h2 => by omega
  | f + 1, j, h1, h2 => by
    rw [kwd]
    by_cases e : KW j = w
    · rw [if_pos e]; exact KW_inj j (by omega) k hk (e.trans h.symm)
    · rw [if_neg e]
      have : j ≠ k := fun e9 => e (e9 ▸ h)
      exact kwd_of hk h f (j + 1) (by omega) (by omega)
theorem cls_of {B : Nat → Int} {n p k : Nat} (hk : k < 10) (h1 : tK B n p = 1) (h : tW B n p = KW k) : cls B n p = k := by
  unfold cls
  rw [if_pos h1]
  exact kwd_of hk h.symm 10 0 (by omega) rfl
theorem kwd_99 {w : Int} : ∀ f j, f = 10 - j → (∀ i, i < 10 → KW i ≠ w) → kwd w f j = 99
  | 0, j, _, _ => rfl
  | f + 1, j, h2, h => by rw [kwd, if_neg (h j (by omega))]; exact kwd_99 f (j + 1) (by omega) h
theorem cls_99 {B : Nat → Int} {n p : Nat} (h : ∀ i, i < 10 → ¬ (tK B n p = 1 ∧ tW B n p = KW i)) : cls B n p = 99 := by
  unfold cls
  split
  · rename_i h1; exact kwd_99 10 0 rfl (fun i hi e => h i hi ⟨h1, e.symm⟩)
  · rfl
set_option maxHeartbeats 4000000 in
set_option maxRecDepth 100000 in
theorem em_readOnce {g : GG} {I : pI} {J : pJ} {R : pR} (hy : Ly g) (hr : Rf g R) {aK aV : Nat → Nat} {fo : Option Nat} (hz : HZ g aK aV fo) {B : Nat → Int} {n p : Nat} {S : TwS}  (hT : TPM g B n I) (hC : CUM g B n p I) (hn : n ≤ 900) (hB : ∀ q, -128 ≤ B q ∧ B q ≤ 127) (hp : p ≤ n) (hR : RTM g S I J) (hPI : PI S) (hSB : SBn S) (hPJ : PJ S) : SP g mX11_readOnce [.ref (ad g 0)] I J R (fun r I' J' R' => R' = R ∧ FC g [0] I I' ∧ FC g [] J J' ∧ FQ g [3, 4, 5, 6, 7, 8, 9, 17, 18] I I' ∧ ∃ v : Int32, r = some (.int v) ∧ ((tK B n p = 1 ∧ tW B n p = KW 8 ∧ ((v.toInt = 0 ∧ ERR g (clu B n 8 p S) I') ∨ (v.toInt = 1 ∧ ∃ S2 P2 p2, clu B n 8 p S = .ok (S2, P2, p2) ∧ RTM g (tel 8 P2 S2) I' J' ∧ TPM g B n I' ∧ CUM g B n p2 I' ∧ NOF g I I'))) ∨ (tK B n p = 1 ∧ tW B n p = KW 9 ∧ ((v.toInt = 0 ∧ ERR g (clu B n 9 p S) I') ∨ (v.toInt = 1 ∧ ∃ S2 P2 p2, clu B n 9 p S = .ok (S2, P2, p2) ∧ RTM g (tel 9 P2 S2) I' J' ∧ TPM g B n I' ∧ CUM g B n p2 I' ∧ NOF g I I'))) ∨ (¬ (tK B n p = 1 ∧ tW B n p = KW 8) ∧ ¬ (tK B n p = 1 ∧ tW B n p = KW 9) ∧ v.toInt = 0 ∧ ERM g 1 (tF B n p) I'))) := by
  refine SP_of ⟨by decide, rfl⟩ (Nat.le_of_ble_eq_true rfl) ?_
  have fI0 : FC g [0] I I := FC_rf
  have fJ0 : FC g [] J J := FC_rf
  have fQ0 : FQ g [3, 4, 5, 6, 7, 8, 9, 17, 18] I I := FQ_rf
  obtain ⟨w2523, ew2523⟩ : ∃ w : Int32, I (ad g 0) 3 = w := ⟨_, rfl⟩
  obtain ⟨w2524, ew2524⟩ : ∃ w : Int32, I (ad g 0) 7 = w := ⟨_, rfl⟩
  obtain ⟨w2525, ew2525⟩ : ∃ w : Int32, I (ad g 0) 8 = w := ⟨_, rfl⟩
  obtain ⟨w2526, ew2526⟩ : ∃ w : Int32, I (ad g 0) 9 = w := ⟨_, rfl⟩
  obtain ⟨w2527, ew2527⟩ : ∃ w : Int32, I (ad g 0) 15 = w := ⟨_, rfl⟩
  obtain ⟨w2528, ew2528⟩ : ∃ w : Int32, I (ad g 0) 16 = w := ⟨_, rfl⟩
  obtain ⟨w2529, ew2529⟩ : ∃ w : Int32, I (ad g 0) 17 = w := ⟨_, rfl⟩
  obtain ⟨w2530, ew2530⟩ : ∃ w : Int32, I (ad g 0) 18 = w := ⟨_, rfl⟩
  have hbb := hSB
  unfold SBn at hbb
  have s15 := hR.1.1
  have s16 := hR.1.2.1
  have s17 := hR.1.2.2.1
  have s18 := hR.1.2.2.2
  simp only [ew2527] at s15
  simp only [ew2528] at s16
  simp only [ew2529] at s17
  simp only [ew2530] at s18
  have c3z := hC.1
  simp only [ew2523] at c3z
  refine WP_aload_n dX11_readOnce_0 rfl ?_
  refine WS_ldc hz 30 rfl dX11_readOnce_1 ?_
  refine WP_callV1 (k := 11) dX11_readOnce_3 ⟨⟨⟨by decide, by decide⟩, zX11_is⟩, lX11_152, by decide, rfl, vX11_is.1, vX11_is.2⟩ (ly_is hy 0 11 rfl) (em_is hy hr hz _  (k := 8) hT hC hn hB hp rfl (by decide)) (Nat.le_of_ble_eq_true rfl) ?_
  intro r Ia Ja Ra hq
  obtain ⟨⟨ea, eb, ec⟩, v2532, er, p2531⟩ := hq
  rw [ea, eb, ec, er]
  clear ea eb ec er Ia Ja Ra r
  refine WP_istore_n (ls' := [(0, _), (1, _)]) dX11_readOnce_6 (by decide) rfl ?_
  refine WP_iload_n dX11_readOnce_7 rfl ?_
  refine WQ_if_ne 26 dX11_readOnce_8 rfl (fun c2532 => ?_) (fun c2532 => ?_)
  · obtain ⟨-, hk, hw⟩ := Or.resolve_right p2531 (by rintro ⟨z, -⟩; omega)
    refine WP_iload_n dX11_readOnce_26 rfl ?_
    refine WQ_if_eq 41 dX11_readOnce_27 rfl (fun c2533 => False.elim (by omega)) (fun c2533 => ?_)
    refine WP_aload_n dX11_readOnce_30 rfl ?_
    refine WQ_getim dX11_readOnce_31 fX11_158 rfl (ly_is hy 0 11 rfl) ew2529 ?_
    refine WQ_iconst (-1) (-1) dX11_readOnce_34 rfl rfl (fun v2535 hv2535 => ?_)
    refine WQ_icmp_eq 55 dX11_readOnce_35 rfl (fun c2535 => ?_) (fun c2535 => ?_)
    · have h2z : ¬ S.2 (8 * 4) 0 = true := fun z => absurd (hPI.2.2.2.2.2.2.2.2.1.mp z) (by omega)
      have ha : ahd 8 S = 0 := by
        unfold ahd
        rw [if_neg (by omega), if_neg (by rintro ⟨-, z⟩; exact h2z z)]
      have E0 : prts B n 8 (SHP 8) 0 (tT B n p) S (fun _ => 0) = prts B n 8 ((SHP 8).drop 0) 0 (tT B n p) S (fun _ => 0) := rfl
      refine WP_aload_n dX11_readOnce_55 rfl ?_
      refine WP_callV0 (k := 11) dX11_readOnce_56 ⟨⟨⟨by decide, by decide⟩, zX11_scan⟩, lX11_63, by decide, rfl, vX11_scan.1, vX11_scan.2⟩ (ly_is hy 0 11 rfl) (em_scan hy hr   hT hn hB hC.2.1 (tT_le B hp).2) (Nat.le_of_ble_eq_true rfl) ?_
      intro r I2538 J2539 Ra hq
      obtain ⟨ec, g2540, g2541, g2542, er, p2537⟩ := hq
      rw [ec, er]
      clear ec er Ra r
      have e2543 : I2538 (ad g 0) 7 = w2524 := by rw [g2542 7 (by decide)]; exact ew2524
      have e2544 : I2538 (ad g 0) 8 = w2525 := by rw [g2542 8 (by decide)]; exact ew2525
      have e2545 : I2538 (ad g 0) 9 = w2526 := by rw [g2542 9 (by decide)]; exact ew2526
      have e2546 : I2538 (ad g 0) 15 = w2527 := by rw [g2542 15 (by decide)]; exact ew2527
      have e2547 : I2538 (ad g 0) 16 = w2528 := by rw [g2542 16 (by decide)]; exact ew2528
      have e2548 : I2538 (ad g 0) 17 = w2529 := by rw [g2542 17 (by decide)]; exact ew2529
      have e2549 : I2538 (ad g 0) 18 = w2530 := by rw [g2542 18 (by decide)]; exact ew2530
      have fI2550 : FC g [0] I I2538 := FC_tr fI0 (FC_mono g2540 (by decide))
      have fJ2551 : FC g [] J J2539 := FC_tr fJ0 (FC_mono g2541 (by decide))
      have fQ2552 : FQ g [3, 4, 5, 6, 7, 8, 9, 17, 18] I I2538 := FQ_tr fQ0 (FQ_mono g2542 (by decide))
      obtain ⟨w2553, ew2553⟩ : ∃ w : Int32, I2538 (ad g 0) 3 = w := ⟨_, rfl⟩
      try simp only [ew2553, e2543, e2544, e2545, e2546, e2547, e2548, e2549, ew2523, ew2524, ew2525, ew2526, ew2527, ew2528, ew2529, ew2530] at p2537
      obtain ⟨hT1, hC1⟩ := p2537
      have hR1 := RTM_fr hy hR g2540 g2541 g2542 (by decide) (by decide) (by decide)
      have nf1 : NOF g I I2538 := NOF_fq g2542 (by decide)
      have hq1 := (tT_le B hp).2
      refine WP_iload_n dX11_readOnce_59 rfl ?_
      refine WQ_if_eq 81 dX11_readOnce_60 rfl (fun c2553 => False.elim (by omega)) (fun c2553 => ?_)
      refine WP_aload_n dX11_readOnce_63 rfl ?_
      refine WP_aload_n dX11_readOnce_64 rfl ?_
      refine WP_getr dX11_readOnce_65 fX11_91 rfl (ly_is hy 0 11 rfl) (rf hr 0 22 4 (by decide)) ?_
      refine WP_aload_n dX11_readOnce_68 rfl ?_
      refine WQ_getim dX11_readOnce_69 fX11_88 rfl (ly_is hy 0 11 rfl) e2546 ?_
      refine WP_callV2 (k := 11) dX11_readOnce_72 ⟨⟨⟨by decide, by decide⟩, zX11_known⟩, lX11_147, by decide, rfl, vX11_known.1, vX11_known.2⟩ (ly_is hy 0 11 rfl) (em_knowna hy hr _  (c := 8) (i := 0) (S := S) (P := fun _ => 0) hT1 hC1 hn hB hq1 hR1.2.2.2.2.2.2.2 hSB s15 (by decide)) (Nat.le_of_ble_eq_true rfl) ?_
      intro r I2557 J2558 Ra hq
      obtain ⟨ec, g2559, g2560, g2561, v2556, er, p2555⟩ := hq
      rw [ec, er]
      clear ec er Ra r
      have e2562 : I2557 (ad g 0) 15 = w2527 := by rw [g2561 15 (by decide)]; exact e2546
      have e2563 : I2557 (ad g 0) 16 = w2528 := by rw [g2561 16 (by decide)]; exact e2547
      have e2564 : I2557 (ad g 0) 17 = w2529 := by rw [g2561 17 (by decide)]; exact e2548
      have e2565 : I2557 (ad g 0) 18 = w2530 := by rw [g2561 18 (by decide)]; exact e2549
      have fI2566 : FC g [0] I I2557 := FC_tr fI2550 (FC_mono g2559 (by decide))
      have fJ2567 : FC g [] J J2558 := FC_tr fJ2551 (FC_mono g2560 (by decide))
      have fQ2568 : FQ g [3, 4, 5, 6, 7, 8, 9, 17, 18] I I2557 := FQ_tr fQ2552 (FQ_mono g2561 (by decide))
      obtain ⟨w2569, ew2569⟩ : ∃ w : Int32, I2557 (ad g 0) 3 = w := ⟨_, rfl⟩
      obtain ⟨w2570, ew2570⟩ : ∃ w : Int32, I2557 (ad g 0) 7 = w := ⟨_, rfl⟩
      obtain ⟨w2571, ew2571⟩ : ∃ w : Int32, I2557 (ad g 0) 8 = w := ⟨_, rfl⟩
      obtain ⟨w2572, ew2572⟩ : ∃ w : Int32, I2557 (ad g 0) 9 = w := ⟨_, rfl⟩
      try simp only [ew2569, ew2570, ew2571, ew2572, e2562, e2563, e2564, e2565, ew2523, ew2524, ew2525, ew2526, ew2527, ew2528, ew2529, ew2530] at p2555
      refine WQ_if_eq 96 dX11_readOnce_75 rfl (fun c2572 => ?_) (fun c2572 => ?_)
      · refine WQ_iconst (0) (0) dX11_readOnce_96 rfl rfl (fun v2574 hv2574 => ?_)
        exact WP_zret dX11_readOnce_97 rfl (nar_z (by omega)) ⟨rfl, fI2566, fJ2567, fQ2568, v2574, rfl, by
          try simp only [e2562, e2563, e2564, e2565, ew2569, ew2570, ew2571, ew2572, ew2523, ew2524, ew2525, ew2526, ew2527, ew2528, ew2529, ew2530]
          refine Or.inl ⟨hk, hw, ?_⟩
          rcases p2555 with ⟨-, e⟩ | ⟨z, -⟩
          · exact Or.inl ⟨by omega, ERR_to e (fun er h => clu_er ha E0 (by decide) rfl h)⟩
          · exact absurd z (by omega)⟩
      · refine WP_goto 98 dX11_readOnce_78 rfl ?_
        obtain ⟨-, kz, lb, ub, gt, hT2, hC2, nz⟩ := Or.resolve_left p2555 (by rintro ⟨z, -⟩; omega)
        clear p2555
        have hR2 := RTM_fr hy hR1 g2559 g2560 g2561 (by decide) (by decide) (by decide)
        have nf2 := NOF_tr nf1 nz
        have E1 := clu_go E0 (by decide) rfl kz
        refine WP_iload_n dX11_readOnce_98 rfl ?_
        refine WQ_if_eq 113 dX11_readOnce_99 rfl (fun c2574 => False.elim (by omega)) (fun c2574 => ?_)
        refine WP_aload_n dX11_readOnce_102 rfl ?_
        refine WP_aload_n dX11_readOnce_103 rfl ?_
        refine WQ_getim dX11_readOnce_104 fX11_56 rfl (ly_is hy 0 11 rfl) ew2570 ?_
        refine WQ_puti dX11_readOnce_107 fX11_158 rfl rfl (ly_is hy 0 11 rfl) (fun I2576 eI2576 => ?_)
        have e2577 : I2576 (ad g 0) 15 = w2527 := by rw [eI2576, pp_ne _ _ (Or.inr (by decide))]; exact e2562
        have e2578 : I2576 (ad g 0) 16 = w2528 := by rw [eI2576, pp_ne _ _ (Or.inr (by decide))]; exact e2563
        have e2579 : I2576 (ad g 0) 18 = w2530 := by rw [eI2576, pp_ne _ _ (Or.inr (by decide))]; exact e2565
        have e2580 : I2576 (ad g 0) 3 = w2569 := by rw [eI2576, pp_ne _ _ (Or.inr (by decide))]; exact ew2569
        have e2581 : I2576 (ad g 0) 7 = w2570 := by rw [eI2576, pp_ne _ _ (Or.inr (by decide))]; exact ew2570
        have e2582 : I2576 (ad g 0) 8 = w2571 := by rw [eI2576, pp_ne _ _ (Or.inr (by decide))]; exact ew2571
        have e2583 : I2576 (ad g 0) 9 = w2572 := by rw [eI2576, pp_ne _ _ (Or.inr (by decide))]; exact ew2572
        have e2584 : I2576 (ad g 0) 17 = w2570 := by rw [eI2576, pp_self]
        have fI2585 : FC g [0] I I2576 := by rw [eI2576]; exact FC_pp fI2566 (by decide)
        have fQ2586 : FQ g [3, 4, 5, 6, 7, 8, 9, 17, 18] I I2576 := by rw [eI2576]; exact FQ_pp0 fQ2568 (by decide)
        refine WP_goto 121 dX11_readOnce_110 rfl ?_
        refine WQ_iconst (1) (1) dX11_readOnce_121 rfl rfl (fun v2587 hv2587 => ?_)
        exact WP_zret dX11_readOnce_122 rfl (nar_z (by omega)) ⟨rfl, fI2585, fJ2567, fQ2586, v2587, rfl, by
          try simp only [e2577, e2578, e2579, e2580, e2581, e2582, e2583, e2584, ew2523, ew2524, ew2525, ew2526, ew2527, ew2528, ew2529, ew2530]
          refine Or.inl ⟨hk, hw, ?_⟩
          refine Or.inr ⟨by omega, S, _, _, clu_ok ha E1, ?_, ?_, ?_, ?_⟩
          · show RTM g (pp (pp S.1 0 0 (S.1 0 0 + 1)) 0 3 (fnS S (tW B n (tT B n p))), pp S.2 32 0 true) _ _
            rw [pp_comm (Or.inr (by decide))]
            refine RTM_cnt (S := (pp S.1 0 3 (fnS S (tW B n (tT B n p))), pp S.2 32 0 true)) _ ?_
            rw [eI2576]
            refine RTM_sl hy hR2 17 _ (by decide) (fun c9 h9 => pp_off _ _ h9) (show pp S.1 0 3 (fnS S (tW B n (tT B n p))) 0 1 = S.1 0 1 ∧ pp S.1 0 3 (fnS S (tW B n (tT B n p))) 0 2 = S.1 0 2 from ⟨by simp [pp], by simp [pp]⟩) (fun r9 h1 h2 => pp_off _ _ (by omega)) hSB ?_ ?_ ?_
            · rw [pp_self]; show _ = pp S.1 0 3 (fnS S (tW B n (tT B n p))) 0 3; rw [pp_self]; omega
            · rw [pp_ne _ _ (Or.inr (by decide))]; show _ = if pp S.2 32 0 true 36 0 = true then pp S.1 0 3 (fnS S (tW B n (tT B n p))) 0 4 else -1; rw [pp_off _ _ (by decide), pp_ne _ _ (Or.inr (by decide))]; exact hR2.1.2.2.2
            · intro d hd; rw [pp_ne _ _ (Or.inr (by decide))]; show _ = pp S.2 32 0 true 0 d; rw [pp_off _ _ (by decide)]; exact hR2.2.2.1 d hd
          · rw [eI2576]; exact tpm_p0 hy hT2 (by decide)
          · rw [eI2576]; exact cum_p0 hC2 (by decide)
          · rw [eI2576]; exact NOF_tr nf2 (NOF_p0 (by decide))⟩
    · refine WP_goto 49 dX11_readOnce_38 rfl ?_
      have h2z : S.2 (8 * 4) 0 = true := hPI.2.2.2.2.2.2.2.2.1.mpr (by omega)
      refine WP_aload_n dX11_readOnce_49 rfl ?_
      refine WQ_iconst (3) (3) dX11_readOnce_50 rfl rfl (fun v2588 hv2588 => ?_)
      refine WP_callV1 (k := 11) dX11_readOnce_51 ⟨⟨⟨by decide, by decide⟩, zX11_bad⟩, lX11_49, by decide, rfl, vX11_bad.1, vX11_bad.2⟩ (ly_is hy 0 11 rfl) (em_bad hy hr _  ) (Nat.le_of_ble_eq_true rfl) ?_
      intro r I2591 J2592 Ra hq
      obtain ⟨ec, g2593, g2594, g2595, v2590, er, p2589⟩ := hq
      rw [ec, er]
      clear ec er Ra r
      have e2596 : I2591 (ad g 0) 3 = w2523 := by rw [g2595 3 (by decide)]; exact ew2523
      have e2597 : I2591 (ad g 0) 7 = w2524 := by rw [g2595 7 (by decide)]; exact ew2524
      have e2598 : I2591 (ad g 0) 15 = w2527 := by rw [g2595 15 (by decide)]; exact ew2527
      have e2599 : I2591 (ad g 0) 16 = w2528 := by rw [g2595 16 (by decide)]; exact ew2528
      have e2600 : I2591 (ad g 0) 17 = w2529 := by rw [g2595 17 (by decide)]; exact ew2529
      have e2601 : I2591 (ad g 0) 18 = w2530 := by rw [g2595 18 (by decide)]; exact ew2530
      have fI2602 : FC g [0] I I2591 := FC_tr fI0 (FC_mono g2593 (by decide))
      have fJ2603 : FC g [] J J2592 := FC_tr fJ0 (FC_mono g2594 (by decide))
      have fQ2604 : FQ g [3, 4, 5, 6, 7, 8, 9, 17, 18] I I2591 := FQ_tr fQ0 (FQ_mono g2595 (by decide))
      obtain ⟨w2605, ew2605⟩ : ∃ w : Int32, I2591 (ad g 0) 8 = w := ⟨_, rfl⟩
      obtain ⟨w2606, ew2606⟩ : ∃ w : Int32, I2591 (ad g 0) 9 = w := ⟨_, rfl⟩
      try simp only [e2596, e2597, ew2605, ew2606, e2598, e2599, e2600, e2601, ew2523, ew2524, ew2525, ew2526, ew2527, ew2528, ew2529, ew2530] at p2589
      obtain ⟨z0, z8, z9⟩ := p2589
      try simp only [ew2523] at z9
      exact WP_zret dX11_readOnce_54 rfl (nar_z (by omega)) ⟨rfl, fI2602, fJ2603, fQ2604, v2590, rfl, by
        try simp only [e2596, e2597, e2598, e2599, e2600, e2601, ew2605, ew2606, ew2523, ew2524, ew2525, ew2526, ew2527, ew2528, ew2529, ew2530]
        refine Or.inl ⟨hk, hw, ?_⟩
        refine Or.inl ⟨by omega, 3, tF B n p, ?_, ?_⟩
        · have hz : ahd 8 S = 3 := by
            unfold ahd
            rw [if_neg (by omega), if_pos ⟨by omega, h2z⟩]
          unfold clu
          rw [hz, if_pos (by decide)]
        · unfold ERM
          try simp only [ew2605, ew2606]
          exact ⟨by rw [z8]; omega, by rw [z9]; omega⟩⟩
  · refine WP_aload_n dX11_readOnce_11 rfl ?_
    refine WS_ldc hz 31 rfl dX11_readOnce_12 ?_
    refine WP_callV1 (k := 11) dX11_readOnce_14 ⟨⟨⟨by decide, by decide⟩, zX11_is⟩, lX11_152, by decide, rfl, vX11_is.1, vX11_is.2⟩ (ly_is hy 0 11 rfl) (em_is hy hr hz _  (k := 9) hT hC hn hB hp rfl (by decide)) (Nat.le_of_ble_eq_true rfl) ?_
    intro r Ia Ja Ra hq
    obtain ⟨⟨ea, eb, ec⟩, v2608, er, p2607⟩ := hq
    rw [ea, eb, ec, er]
    clear ea eb ec er Ia Ja Ra r
    refine WQ_if_ne 26 dX11_readOnce_17 rfl (fun c2608 => ?_) (fun c2608 => ?_)
    · obtain ⟨-, hn8⟩ := Or.resolve_left p2531 (by rintro ⟨z, -⟩; omega)
      obtain ⟨-, hk, hw⟩ := Or.resolve_right p2607 (by rintro ⟨z, -⟩; omega)
      refine WP_iload_n dX11_readOnce_26 rfl ?_
      refine WQ_if_eq 41 dX11_readOnce_27 rfl (fun c2609 => ?_) (fun c2609 => False.elim (by omega))
      refine WP_aload_n dX11_readOnce_41 rfl ?_
      refine WQ_getim dX11_readOnce_42 fX11_161 rfl (ly_is hy 0 11 rfl) ew2530 ?_
      refine WQ_iconst (-1) (-1) dX11_readOnce_45 rfl rfl (fun v2611 hv2611 => ?_)
      refine WQ_icmp_eq 55 dX11_readOnce_46 rfl (fun c2611 => ?_) (fun c2611 => ?_)
      · have h2z : ¬ S.2 (9 * 4) 0 = true := by
          intro z
          have z2 : S.2 36 0 = true := z
          rw [if_pos z2] at s18
          have := hPJ z2
          omega
        have ha : ahd 9 S = 0 := by
          unfold ahd
          rw [if_neg (by omega), if_neg (by rintro ⟨-, z⟩; exact h2z z)]
        have E0 : prts B n 9 (SHP 9) 0 (tT B n p) S (fun _ => 0) = prts B n 9 ((SHP 9).drop 0) 0 (tT B n p) S (fun _ => 0) := rfl
        refine WP_aload_n dX11_readOnce_55 rfl ?_
        refine WP_callV0 (k := 11) dX11_readOnce_56 ⟨⟨⟨by decide, by decide⟩, zX11_scan⟩, lX11_63, by decide, rfl, vX11_scan.1, vX11_scan.2⟩ (ly_is hy 0 11 rfl) (em_scan hy hr   hT hn hB hC.2.1 (tT_le B hp).2) (Nat.le_of_ble_eq_true rfl) ?_
        intro r I2614 J2615 Ra hq
        obtain ⟨ec, g2616, g2617, g2618, er, p2613⟩ := hq
        rw [ec, er]
        clear ec er Ra r
        have e2619 : I2614 (ad g 0) 7 = w2524 := by rw [g2618 7 (by decide)]; exact ew2524
        have e2620 : I2614 (ad g 0) 8 = w2525 := by rw [g2618 8 (by decide)]; exact ew2525
        have e2621 : I2614 (ad g 0) 9 = w2526 := by rw [g2618 9 (by decide)]; exact ew2526
        have e2622 : I2614 (ad g 0) 15 = w2527 := by rw [g2618 15 (by decide)]; exact ew2527
        have e2623 : I2614 (ad g 0) 16 = w2528 := by rw [g2618 16 (by decide)]; exact ew2528
        have e2624 : I2614 (ad g 0) 17 = w2529 := by rw [g2618 17 (by decide)]; exact ew2529
        have e2625 : I2614 (ad g 0) 18 = w2530 := by rw [g2618 18 (by decide)]; exact ew2530
        have fI2626 : FC g [0] I I2614 := FC_tr fI0 (FC_mono g2616 (by decide))
        have fJ2627 : FC g [] J J2615 := FC_tr fJ0 (FC_mono g2617 (by decide))
        have fQ2628 : FQ g [3, 4, 5, 6, 7, 8, 9, 17, 18] I I2614 := FQ_tr fQ0 (FQ_mono g2618 (by decide))
        obtain ⟨w2629, ew2629⟩ : ∃ w : Int32, I2614 (ad g 0) 3 = w := ⟨_, rfl⟩
        try simp only [ew2629, e2619, e2620, e2621, e2622, e2623, e2624, e2625, ew2523, ew2524, ew2525, ew2526, ew2527, ew2528, ew2529, ew2530] at p2613
        obtain ⟨hT1, hC1⟩ := p2613
        have hR1 := RTM_fr hy hR g2616 g2617 g2618 (by decide) (by decide) (by decide)
        have nf1 : NOF g I I2614 := NOF_fq g2618 (by decide)
        have hq1 := (tT_le B hp).2
        refine WP_iload_n dX11_readOnce_59 rfl ?_
        refine WQ_if_eq 81 dX11_readOnce_60 rfl (fun c2629 => ?_) (fun c2629 => False.elim (by omega))
        refine WP_aload_n dX11_readOnce_81 rfl ?_
        refine WP_aload_n dX11_readOnce_82 rfl ?_
        refine WP_getr dX11_readOnce_83 fX11_129 rfl (ly_is hy 0 11 rfl) (rf hr 0 23 5 (by decide)) ?_
        refine WP_aload_n dX11_readOnce_86 rfl ?_
        refine WQ_getim dX11_readOnce_87 fX11_126 rfl (ly_is hy 0 11 rfl) e2623 ?_
        refine WP_callV2 (k := 11) dX11_readOnce_90 ⟨⟨⟨by decide, by decide⟩, zX11_known⟩, lX11_147, by decide, rfl, vX11_known.1, vX11_known.2⟩ (ly_is hy 0 11 rfl) (em_knownb hy hr _  (c := 9) (i := 0) (S := S) (P := fun _ => 0) hT1 hC1 hn hB hq1 hR1.2.2.2.2.2.2.2 hSB s16) (Nat.le_of_ble_eq_true rfl) ?_
        intro r I2633 J2634 Ra hq
        obtain ⟨ec, g2635, g2636, g2637, v2632, er, p2631⟩ := hq
        rw [ec, er]
        clear ec er Ra r
        have e2638 : I2633 (ad g 0) 15 = w2527 := by rw [g2637 15 (by decide)]; exact e2622
        have e2639 : I2633 (ad g 0) 16 = w2528 := by rw [g2637 16 (by decide)]; exact e2623
        have e2640 : I2633 (ad g 0) 17 = w2529 := by rw [g2637 17 (by decide)]; exact e2624
        have e2641 : I2633 (ad g 0) 18 = w2530 := by rw [g2637 18 (by decide)]; exact e2625
        have fI2642 : FC g [0] I I2633 := FC_tr fI2626 (FC_mono g2635 (by decide))
        have fJ2643 : FC g [] J J2634 := FC_tr fJ2627 (FC_mono g2636 (by decide))
        have fQ2644 : FQ g [3, 4, 5, 6, 7, 8, 9, 17, 18] I I2633 := FQ_tr fQ2628 (FQ_mono g2637 (by decide))
        obtain ⟨w2645, ew2645⟩ : ∃ w : Int32, I2633 (ad g 0) 3 = w := ⟨_, rfl⟩
        obtain ⟨w2646, ew2646⟩ : ∃ w : Int32, I2633 (ad g 0) 7 = w := ⟨_, rfl⟩
        obtain ⟨w2647, ew2647⟩ : ∃ w : Int32, I2633 (ad g 0) 8 = w := ⟨_, rfl⟩
        obtain ⟨w2648, ew2648⟩ : ∃ w : Int32, I2633 (ad g 0) 9 = w := ⟨_, rfl⟩
        try simp only [ew2645, ew2646, ew2647, ew2648, e2638, e2639, e2640, e2641, ew2523, ew2524, ew2525, ew2526, ew2527, ew2528, ew2529, ew2530] at p2631
        refine WQ_if_ne 98 dX11_readOnce_93 rfl (fun c2648 => ?_) (fun c2648 => ?_)
        · obtain ⟨-, kz, lb, ub, gt, hT2, hC2, nz⟩ := Or.resolve_left p2631 (by rintro ⟨z, -⟩; omega)
          clear p2631
          have hR2 := RTM_fr hy hR1 g2635 g2636 g2637 (by decide) (by decide) (by decide)
          have nf2 := NOF_tr nf1 nz
          have E1 := clu_go E0 (by decide) rfl kz
          refine WP_iload_n dX11_readOnce_98 rfl ?_
          refine WQ_if_eq 113 dX11_readOnce_99 rfl (fun c2649 => ?_) (fun c2649 => False.elim (by omega))
          refine WP_aload_n dX11_readOnce_113 rfl ?_
          refine WP_aload_n dX11_readOnce_114 rfl ?_
          refine WQ_getim dX11_readOnce_115 fX11_56 rfl (ly_is hy 0 11 rfl) ew2646 ?_
          refine WQ_puti dX11_readOnce_118 fX11_161 rfl rfl (ly_is hy 0 11 rfl) (fun I2651 eI2651 => ?_)
          have e2652 : I2651 (ad g 0) 15 = w2527 := by rw [eI2651, pp_ne _ _ (Or.inr (by decide))]; exact e2638
          have e2653 : I2651 (ad g 0) 16 = w2528 := by rw [eI2651, pp_ne _ _ (Or.inr (by decide))]; exact e2639
          have e2654 : I2651 (ad g 0) 17 = w2529 := by rw [eI2651, pp_ne _ _ (Or.inr (by decide))]; exact e2640
          have e2655 : I2651 (ad g 0) 3 = w2645 := by rw [eI2651, pp_ne _ _ (Or.inr (by decide))]; exact ew2645
          have e2656 : I2651 (ad g 0) 7 = w2646 := by rw [eI2651, pp_ne _ _ (Or.inr (by decide))]; exact ew2646
          have e2657 : I2651 (ad g 0) 8 = w2647 := by rw [eI2651, pp_ne _ _ (Or.inr (by decide))]; exact ew2647
          have e2658 : I2651 (ad g 0) 9 = w2648 := by rw [eI2651, pp_ne _ _ (Or.inr (by decide))]; exact ew2648
          have e2659 : I2651 (ad g 0) 18 = w2646 := by rw [eI2651, pp_self]
          have fI2660 : FC g [0] I I2651 := by rw [eI2651]; exact FC_pp fI2642 (by decide)
          have fQ2661 : FQ g [3, 4, 5, 6, 7, 8, 9, 17, 18] I I2651 := by rw [eI2651]; exact FQ_pp0 fQ2644 (by decide)
          refine WQ_iconst (1) (1) dX11_readOnce_121 rfl rfl (fun v2662 hv2662 => ?_)
          exact WP_zret dX11_readOnce_122 rfl (nar_z (by omega)) ⟨rfl, fI2660, fJ2643, fQ2661, v2662, rfl, by
            try simp only [e2652, e2653, e2654, e2655, e2656, e2657, e2658, e2659, ew2523, ew2524, ew2525, ew2526, ew2527, ew2528, ew2529, ew2530]
            refine Or.inr (Or.inl ⟨hk, hw, ?_⟩)
            refine Or.inr ⟨by omega, S, _, _, clu_ok ha E1, ?_, ?_, ?_, ?_⟩
            · show RTM g (pp (pp S.1 0 0 (S.1 0 0 + 1)) 0 4 (fnT S (tW B n (tT B n p))), pp S.2 36 0 true) _ _
              rw [pp_comm (Or.inr (by decide))]
              refine RTM_cnt (S := (pp S.1 0 4 (fnT S (tW B n (tT B n p))), pp S.2 36 0 true)) _ ?_
              rw [eI2651]
              refine RTM_sl hy hR2 18 _ (by decide) (fun c9 h9 => pp_off _ _ h9) (show pp S.1 0 4 (fnT S (tW B n (tT B n p))) 0 1 = S.1 0 1 ∧ pp S.1 0 4 (fnT S (tW B n (tT B n p))) 0 2 = S.1 0 2 from ⟨by simp [pp], by simp [pp]⟩) (fun r9 h1 h2 => pp_off _ _ (by omega)) hSB ?_ ?_ ?_
              · rw [pp_ne _ _ (Or.inr (by decide))]; show _ = pp S.1 0 4 (fnT S (tW B n (tT B n p))) 0 3; rw [pp_ne _ _ (Or.inr (by decide))]; exact hR2.1.2.2.1
              · rw [pp_self]; show _ = if pp S.2 36 0 true 36 0 = true then pp S.1 0 4 (fnT S (tW B n (tT B n p))) 0 4 else -1; rw [pp_self, pp_self, if_pos rfl]; omega
              · intro d hd; rw [pp_ne _ _ (Or.inr (by decide))]; show _ = pp S.2 36 0 true 0 d; rw [pp_off _ _ (by decide)]; exact hR2.2.2.1 d hd
            · rw [eI2651]; exact tpm_p0 hy hT2 (by decide)
            · rw [eI2651]; exact cum_p0 hC2 (by decide)
            · rw [eI2651]; exact NOF_tr nf2 (NOF_p0 (by decide))⟩
        · refine WQ_iconst (0) (0) dX11_readOnce_96 rfl rfl (fun v2663 hv2663 => ?_)
          exact WP_zret dX11_readOnce_97 rfl (nar_z (by omega)) ⟨rfl, fI2642, fJ2643, fQ2644, v2663, rfl, by
            try simp only [e2638, e2639, e2640, e2641, ew2645, ew2646, ew2647, ew2648, ew2523, ew2524, ew2525, ew2526, ew2527, ew2528, ew2529, ew2530]
            refine Or.inr (Or.inl ⟨hk, hw, ?_⟩)
            rcases p2631 with ⟨-, e⟩ | ⟨z, -⟩
            · exact Or.inl ⟨by omega, ERR_to e (fun er h => clu_er ha E0 (by decide) rfl h)⟩
            · exact absurd z (by omega)⟩
      · have h2z : S.2 (9 * 4) 0 = true := by
          by_cases z : S.2 36 0 = true
          · exact z
          · rw [if_neg z] at s18; exact absurd s18 (by omega)
        refine WP_aload_n dX11_readOnce_49 rfl ?_
        refine WQ_iconst (3) (3) dX11_readOnce_50 rfl rfl (fun v2664 hv2664 => ?_)
        refine WP_callV1 (k := 11) dX11_readOnce_51 ⟨⟨⟨by decide, by decide⟩, zX11_bad⟩, lX11_49, by decide, rfl, vX11_bad.1, vX11_bad.2⟩ (ly_is hy 0 11 rfl) (em_bad hy hr _  ) (Nat.le_of_ble_eq_true rfl) ?_
        intro r I2667 J2668 Ra hq
        obtain ⟨ec, g2669, g2670, g2671, v2666, er, p2665⟩ := hq
        rw [ec, er]
        clear ec er Ra r
        have e2672 : I2667 (ad g 0) 3 = w2523 := by rw [g2671 3 (by decide)]; exact ew2523
        have e2673 : I2667 (ad g 0) 7 = w2524 := by rw [g2671 7 (by decide)]; exact ew2524
        have e2674 : I2667 (ad g 0) 15 = w2527 := by rw [g2671 15 (by decide)]; exact ew2527
        have e2675 : I2667 (ad g 0) 16 = w2528 := by rw [g2671 16 (by decide)]; exact ew2528
        have e2676 : I2667 (ad g 0) 17 = w2529 := by rw [g2671 17 (by decide)]; exact ew2529
        have e2677 : I2667 (ad g 0) 18 = w2530 := by rw [g2671 18 (by decide)]; exact ew2530
        have fI2678 : FC g [0] I I2667 := FC_tr fI0 (FC_mono g2669 (by decide))
        have fJ2679 : FC g [] J J2668 := FC_tr fJ0 (FC_mono g2670 (by decide))
        have fQ2680 : FQ g [3, 4, 5, 6, 7, 8, 9, 17, 18] I I2667 := FQ_tr fQ0 (FQ_mono g2671 (by decide))
        obtain ⟨w2681, ew2681⟩ : ∃ w : Int32, I2667 (ad g 0) 8 = w := ⟨_, rfl⟩
        obtain ⟨w2682, ew2682⟩ : ∃ w : Int32, I2667 (ad g 0) 9 = w := ⟨_, rfl⟩
        try simp only [e2672, e2673, ew2681, ew2682, e2674, e2675, e2676, e2677, ew2523, ew2524, ew2525, ew2526, ew2527, ew2528, ew2529, ew2530] at p2665
        obtain ⟨z0, z8, z9⟩ := p2665
        try simp only [ew2523] at z9
        exact WP_zret dX11_readOnce_54 rfl (nar_z (by omega)) ⟨rfl, fI2678, fJ2679, fQ2680, v2666, rfl, by
          try simp only [e2672, e2673, e2674, e2675, e2676, e2677, ew2681, ew2682, ew2523, ew2524, ew2525, ew2526, ew2527, ew2528, ew2529, ew2530]
          refine Or.inr (Or.inl ⟨hk, hw, ?_⟩)
          refine Or.inl ⟨by omega, 3, tF B n p, ?_, ?_⟩
          · have hz : ahd 9 S = 3 := by
              unfold ahd
              rw [if_neg (by omega), if_pos ⟨by omega, h2z⟩]
            unfold clu
            rw [hz, if_pos (by decide)]
          · unfold ERM
            try simp only [ew2681, ew2682]
            exact ⟨by rw [z8]; omega, by rw [z9]; omega⟩⟩
    · refine WP_aload_n dX11_readOnce_20 rfl ?_
      refine WQ_iconst (1) (1) dX11_readOnce_21 rfl rfl (fun v2683 hv2683 => ?_)
      refine WP_callV1 (k := 11) dX11_readOnce_22 ⟨⟨⟨by decide, by decide⟩, zX11_bad⟩, lX11_49, by decide, rfl, vX11_bad.1, vX11_bad.2⟩ (ly_is hy 0 11 rfl) (em_bad hy hr _  ) (Nat.le_of_ble_eq_true rfl) ?_
      intro r I2686 J2687 Ra hq
      obtain ⟨ec, g2688, g2689, g2690, v2685, er, p2684⟩ := hq
      rw [ec, er]
      clear ec er Ra r
      have e2691 : I2686 (ad g 0) 3 = w2523 := by rw [g2690 3 (by decide)]; exact ew2523
      have e2692 : I2686 (ad g 0) 7 = w2524 := by rw [g2690 7 (by decide)]; exact ew2524
      have e2693 : I2686 (ad g 0) 15 = w2527 := by rw [g2690 15 (by decide)]; exact ew2527
      have e2694 : I2686 (ad g 0) 16 = w2528 := by rw [g2690 16 (by decide)]; exact ew2528
      have e2695 : I2686 (ad g 0) 17 = w2529 := by rw [g2690 17 (by decide)]; exact ew2529
      have e2696 : I2686 (ad g 0) 18 = w2530 := by rw [g2690 18 (by decide)]; exact ew2530
      have fI2697 : FC g [0] I I2686 := FC_tr fI0 (FC_mono g2688 (by decide))
      have fJ2698 : FC g [] J J2687 := FC_tr fJ0 (FC_mono g2689 (by decide))
      have fQ2699 : FQ g [3, 4, 5, 6, 7, 8, 9, 17, 18] I I2686 := FQ_tr fQ0 (FQ_mono g2690 (by decide))
      obtain ⟨w2700, ew2700⟩ : ∃ w : Int32, I2686 (ad g 0) 8 = w := ⟨_, rfl⟩
      obtain ⟨w2701, ew2701⟩ : ∃ w : Int32, I2686 (ad g 0) 9 = w := ⟨_, rfl⟩
      try simp only [e2691, e2692, ew2700, ew2701, e2693, e2694, e2695, e2696, ew2523, ew2524, ew2525, ew2526, ew2527, ew2528, ew2529, ew2530] at p2684
      obtain ⟨z0, z8, z9⟩ := p2684
      try simp only [ew2523] at z9
      exact WP_zret dX11_readOnce_25 rfl (nar_z (by omega)) ⟨rfl, fI2697, fJ2698, fQ2699, v2685, rfl, by
        try simp only [e2691, e2692, e2693, e2694, e2695, e2696, ew2700, ew2701, ew2523, ew2524, ew2525, ew2526, ew2527, ew2528, ew2529, ew2530]
        obtain ⟨-, hn8⟩ := Or.resolve_left p2531 (by rintro ⟨z, -⟩; omega)
        obtain ⟨-, hn9⟩ := Or.resolve_left p2607 (by rintro ⟨z, -⟩; omega)
        refine Or.inr (Or.inr ⟨hn8, hn9, by omega, ?_⟩)
        unfold ERM
        try simp only [ew2700, ew2701]
        exact ⟨by rw [z8]; omega, by rw [z9]; omega⟩⟩
set_option maxHeartbeats 4000000 in
set_option maxRecDepth 100000 in
theorem em_readClause {g : GG} {I : pI} {J : pJ} {R : pR} (hy : Ly g) (hr : Rf g R) {aK aV : Nat → Nat} {fo : Option Nat} (hz : HZ g aK aV fo) {B : Nat → Int} {n p : Nat} {S : TwS}  (hT : TPM g B n I) (hC : CUM g B n p I) (hn : n ≤ 900) (hB : ∀ q, -128 ≤ B q ∧ B q ≤ 127) (hp : p ≤ n) (hR : RTM g S I J) (hPI : PI S) (hSB : SBn S) (hPJ : PJ S) : SP g mX11_readClause [.ref (ad g 0)] I J R (fun r I' J' R' => R' = R ∧ FC g [0, 7, 14, 15, 16, 17, 18, 19, 27, 28, 29, 30, 31, 32, 33, 34] I I' ∧ FC g [4, 5] J J' ∧ FQ g [3, 4, 5, 6, 7, 8, 9, 15, 16, 17, 18, 51] I I' ∧ ∃ v : Int32, r = some (.int v) ∧ ((cls B n p = 99 ∧ v.toInt = 0 ∧ ERM g 1 (tF B n p) I') ∨ (cls B n p < 10 ∧ ((v.toInt = 0 ∧ ERR g (clu B n (cls B n p) p S) I') ∨ (v.toInt = 1 ∧ ∃ S2 P2 p2, clu B n (cls B n p) p S = .ok (S2, P2, p2) ∧ RTM g (tel (cls B n p) P2 S2) I' J' ∧ TPM g B n I' ∧ CUM g B n p2 I' ∧ NOF g I I'))))) := by
  refine SP_of ⟨by decide, rfl⟩ (Nat.le_of_ble_eq_true rfl) ?_
  have fI0 : FC g [0, 7, 14, 15, 16, 17, 18, 19, 27, 28, 29, 30, 31, 32, 33, 34] I I := FC_rf
  have fJ0 : FC g [4, 5] J J := FC_rf
  have fQ0 : FQ g [3, 4, 5, 6, 7, 8, 9, 15, 16, 17, 18, 51] I I := FQ_rf
  refine WP_aload_n dX11_readClause_0 rfl ?_
  refine WS_ldc hz 22 rfl dX11_readClause_1 ?_
  refine WP_callV1 (k := 11) dX11_readClause_3 ⟨⟨⟨by decide, by decide⟩, zX11_is⟩, lX11_152, by decide, rfl, vX11_is.1, vX11_is.2⟩ (ly_is hy 0 11 rfl) (em_is hy hr hz _  (k := 0) hT hC hn hB hp rfl (by decide)) (Nat.le_of_ble_eq_true rfl) ?_
  intro r Ia Ja Ra hq
  obtain ⟨⟨ea, eb, ec⟩, v2703, er, p2702⟩ := hq
  rw [ea, eb, ec, er]
  clear ea eb ec er Ia Ja Ra r
  refine WQ_if_eq 14 dX11_readClause_6 rfl (fun c2703 => ?_) (fun c2703 => ?_)
  · refine WP_aload_n dX11_readClause_14 rfl ?_
    refine WS_ldc hz 23 rfl dX11_readClause_15 ?_
    refine WP_callV1 (k := 11) dX11_readClause_17 ⟨⟨⟨by decide, by decide⟩, zX11_is⟩, lX11_152, by decide, rfl, vX11_is.1, vX11_is.2⟩ (ly_is hy 0 11 rfl) (em_is hy hr hz _  (k := 1) hT hC hn hB hp rfl (by decide)) (Nat.le_of_ble_eq_true rfl) ?_
    intro r Ia Ja Ra hq
    obtain ⟨⟨ea, eb, ec⟩, v2706, er, p2705⟩ := hq
    rw [ea, eb, ec, er]
    clear ea eb ec er Ia Ja Ra r
    refine WQ_if_eq 28 dX11_readClause_20 rfl (fun c2706 => ?_) (fun c2706 => ?_)
    · refine WP_aload_n dX11_readClause_28 rfl ?_
      refine WS_ldc hz 24 rfl dX11_readClause_29 ?_
      refine WP_callV1 (k := 11) dX11_readClause_31 ⟨⟨⟨by decide, by decide⟩, zX11_is⟩, lX11_152, by decide, rfl, vX11_is.1, vX11_is.2⟩ (ly_is hy 0 11 rfl) (em_is hy hr hz _  (k := 2) hT hC hn hB hp rfl (by decide)) (Nat.le_of_ble_eq_true rfl) ?_
      intro r Ia Ja Ra hq
      obtain ⟨⟨ea, eb, ec⟩, v2709, er, p2708⟩ := hq
      rw [ea, eb, ec, er]
      clear ea eb ec er Ia Ja Ra r
      refine WQ_if_eq 42 dX11_readClause_34 rfl (fun c2709 => ?_) (fun c2709 => ?_)
      · refine WP_aload_n dX11_readClause_42 rfl ?_
        refine WS_ldc hz 25 rfl dX11_readClause_43 ?_
        refine WP_callV1 (k := 11) dX11_readClause_45 ⟨⟨⟨by decide, by decide⟩, zX11_is⟩, lX11_152, by decide, rfl, vX11_is.1, vX11_is.2⟩ (ly_is hy 0 11 rfl) (em_is hy hr hz _  (k := 3) hT hC hn hB hp rfl (by decide)) (Nat.le_of_ble_eq_true rfl) ?_
        intro r Ia Ja Ra hq
        obtain ⟨⟨ea, eb, ec⟩, v2712, er, p2711⟩ := hq
        rw [ea, eb, ec, er]
        clear ea eb ec er Ia Ja Ra r
        refine WQ_if_eq 56 dX11_readClause_48 rfl (fun c2712 => ?_) (fun c2712 => ?_)
        · refine WP_aload_n dX11_readClause_56 rfl ?_
          refine WS_ldc hz 26 rfl dX11_readClause_57 ?_
          refine WP_callV1 (k := 11) dX11_readClause_59 ⟨⟨⟨by decide, by decide⟩, zX11_is⟩, lX11_152, by decide, rfl, vX11_is.1, vX11_is.2⟩ (ly_is hy 0 11 rfl) (em_is hy hr hz _  (k := 4) hT hC hn hB hp rfl (by decide)) (Nat.le_of_ble_eq_true rfl) ?_
          intro r Ia Ja Ra hq
          obtain ⟨⟨ea, eb, ec⟩, v2715, er, p2714⟩ := hq
          rw [ea, eb, ec, er]
          clear ea eb ec er Ia Ja Ra r
          refine WQ_if_eq 70 dX11_readClause_62 rfl (fun c2715 => ?_) (fun c2715 => ?_)
          · refine WP_aload_n dX11_readClause_70 rfl ?_
            refine WS_ldc hz 27 rfl dX11_readClause_71 ?_
            refine WP_callV1 (k := 11) dX11_readClause_73 ⟨⟨⟨by decide, by decide⟩, zX11_is⟩, lX11_152, by decide, rfl, vX11_is.1, vX11_is.2⟩ (ly_is hy 0 11 rfl) (em_is hy hr hz _  (k := 5) hT hC hn hB hp rfl (by decide)) (Nat.le_of_ble_eq_true rfl) ?_
            intro r Ia Ja Ra hq
            obtain ⟨⟨ea, eb, ec⟩, v2718, er, p2717⟩ := hq
            rw [ea, eb, ec, er]
            clear ea eb ec er Ia Ja Ra r
            refine WQ_if_eq 84 dX11_readClause_76 rfl (fun c2718 => ?_) (fun c2718 => ?_)
            · refine WP_aload_n dX11_readClause_84 rfl ?_
              refine WS_ldc hz 28 rfl dX11_readClause_85 ?_
              refine WP_callV1 (k := 11) dX11_readClause_87 ⟨⟨⟨by decide, by decide⟩, zX11_is⟩, lX11_152, by decide, rfl, vX11_is.1, vX11_is.2⟩ (ly_is hy 0 11 rfl) (em_is hy hr hz _  (k := 6) hT hC hn hB hp rfl (by decide)) (Nat.le_of_ble_eq_true rfl) ?_
              intro r Ia Ja Ra hq
              obtain ⟨⟨ea, eb, ec⟩, v2721, er, p2720⟩ := hq
              rw [ea, eb, ec, er]
              clear ea eb ec er Ia Ja Ra r
              refine WQ_if_eq 98 dX11_readClause_90 rfl (fun c2721 => ?_) (fun c2721 => ?_)
              · refine WP_aload_n dX11_readClause_98 rfl ?_
                refine WS_ldc hz 29 rfl dX11_readClause_99 ?_
                refine WP_callV1 (k := 11) dX11_readClause_101 ⟨⟨⟨by decide, by decide⟩, zX11_is⟩, lX11_152, by decide, rfl, vX11_is.1, vX11_is.2⟩ (ly_is hy 0 11 rfl) (em_is hy hr hz _  (k := 7) hT hC hn hB hp rfl (by decide)) (Nat.le_of_ble_eq_true rfl) ?_
                intro r Ia Ja Ra hq
                obtain ⟨⟨ea, eb, ec⟩, v2724, er, p2723⟩ := hq
                rw [ea, eb, ec, er]
                clear ea eb ec er Ia Ja Ra r
                refine WQ_if_eq 114 dX11_readClause_104 rfl (fun c2724 => ?_) (fun c2724 => ?_)
                · refine WP_aload_n dX11_readClause_114 rfl ?_
                  refine WP_callV0 (k := 11) dX11_readClause_115 ⟨⟨⟨by decide, by decide⟩, zX11_readOnce⟩, lX11_204, by decide, rfl, vX11_readOnce.1, vX11_readOnce.2⟩ (ly_is hy 0 11 rfl) (em_readOnce hy hr hz   hT hC hn hB hp hR hPI hSB hPJ) (Nat.le_of_ble_eq_true rfl) ?_
                  intro r I2728 J2729 Ra hq
                  obtain ⟨ec, g2730, g2731, g2732, v2727, er, p2726⟩ := hq
                  rw [ec, er]
                  clear ec er Ra r
                  have fI2733 : FC g [0, 7, 14, 15, 16, 17, 18, 19, 27, 28, 29, 30, 31, 32, 33, 34] I I2728 := FC_tr fI0 (FC_mono g2730 (by decide))
                  have fJ2734 : FC g [4, 5] J J2729 := FC_tr fJ0 (FC_mono g2731 (by decide))
                  have fQ2735 : FQ g [3, 4, 5, 6, 7, 8, 9, 15, 16, 17, 18, 51] I I2728 := FQ_tr fQ0 (FQ_mono g2732 (by decide))
                  exact WP_zret dX11_readClause_118 rfl (nar_z (by omega)) ⟨rfl, fI2733, fJ2734, fQ2735, v2727, rfl, by
                    rcases p2726 with ⟨hk, hw, z⟩ | ⟨hk, hw, z⟩ | ⟨h8, h9, z, e⟩
                    · have hcl := cls_of (by decide) hk hw
                      rw [hcl]
                      exact Or.inr ⟨by decide, z⟩
                    · have hcl := cls_of (by decide) hk hw
                      rw [hcl]
                      exact Or.inr ⟨by decide, z⟩
                    · refine Or.inl ⟨cls_99 (fun i hi => ?_), z, e⟩
                      rcases (show i = 0 ∨ i = 1 ∨ i = 2 ∨ i = 3 ∨ i = 4 ∨ i = 5 ∨ i = 6 ∨ i = 7 ∨ i = 8 ∨ i = 9 by omega) with rfl | rfl | rfl | rfl | rfl | rfl | rfl | rfl | rfl | rfl
                      · exact (Or.resolve_left p2702 (by rintro ⟨z, -⟩; omega)).2
                      · exact (Or.resolve_left p2705 (by rintro ⟨z, -⟩; omega)).2
                      · exact (Or.resolve_left p2708 (by rintro ⟨z, -⟩; omega)).2
                      · exact (Or.resolve_left p2711 (by rintro ⟨z, -⟩; omega)).2
                      · exact (Or.resolve_left p2714 (by rintro ⟨z, -⟩; omega)).2
                      · exact (Or.resolve_left p2717 (by rintro ⟨z, -⟩; omega)).2
                      · exact (Or.resolve_left p2720 (by rintro ⟨z, -⟩; omega)).2
                      · exact (Or.resolve_left p2723 (by rintro ⟨z, -⟩; omega)).2
                      · exact h8
                      · exact h9⟩
                · refine WP_aload_n dX11_readClause_107 rfl ?_
                  refine WP_callV0 (k := 11) dX11_readClause_108 ⟨⟨⟨by decide, by decide⟩, zX11_readIlls⟩, lX11_201, by decide, rfl, vX11_readIlls.1, vX11_readIlls.2⟩ (ly_is hy 0 11 rfl) (em_readIlls hy hr   hT hC hn hB hp hR hPI hSB) (Nat.le_of_ble_eq_true rfl) ?_
                  intro r I2738 J2739 Ra hq
                  obtain ⟨ec, g2740, g2741, g2742, v2737, er, p2736⟩ := hq
                  rw [ec, er]
                  clear ec er Ra r
                  have fI2743 : FC g [0, 7, 14, 15, 16, 17, 18, 19, 27, 28, 29, 30, 31, 32, 33, 34] I I2738 := FC_tr fI0 (FC_mono g2740 (by decide))
                  have fJ2744 : FC g [4, 5] J J2739 := FC_tr fJ0 (FC_mono g2741 (by decide))
                  have fQ2745 : FQ g [3, 4, 5, 6, 7, 8, 9, 15, 16, 17, 18, 51] I I2738 := FQ_tr fQ0 (FQ_mono g2742 (by decide))
                  refine WP_goto 118 dX11_readClause_111 rfl ?_
                  exact WP_zret dX11_readClause_118 rfl (nar_z (by omega)) ⟨rfl, fI2743, fJ2744, fQ2745, v2737, rfl, by
                    obtain ⟨-, hk, hw⟩ := Or.resolve_right p2723 (by rintro ⟨z, -⟩; omega)
                    have hcl := cls_of (by decide) hk hw
                    rw [hcl]
                    exact Or.inr ⟨by decide, p2736⟩⟩
              · refine WP_aload_n dX11_readClause_93 rfl ?_
                refine WP_callV0 (k := 11) dX11_readClause_94 ⟨⟨⟨by decide, by decide⟩, zX11_readWants⟩, lX11_196, by decide, rfl, vX11_readWants.1, vX11_readWants.2⟩ (ly_is hy 0 11 rfl) (em_readWants hy hr   hT hC hn hB hp hR hPI hSB) (Nat.le_of_ble_eq_true rfl) ?_
                intro r I2748 J2749 Ra hq
                obtain ⟨ec, g2750, g2751, g2752, v2747, er, p2746⟩ := hq
                rw [ec, er]
                clear ec er Ra r
                have fI2753 : FC g [0, 7, 14, 15, 16, 17, 18, 19, 27, 28, 29, 30, 31, 32, 33, 34] I I2748 := FC_tr fI0 (FC_mono g2750 (by decide))
                have fJ2754 : FC g [4, 5] J J2749 := FC_tr fJ0 (FC_mono g2751 (by decide))
                have fQ2755 : FQ g [3, 4, 5, 6, 7, 8, 9, 15, 16, 17, 18, 51] I I2748 := FQ_tr fQ0 (FQ_mono g2752 (by decide))
                exact WP_zret dX11_readClause_97 rfl (nar_z (by omega)) ⟨rfl, fI2753, fJ2754, fQ2755, v2747, rfl, by
                  obtain ⟨-, hk, hw⟩ := Or.resolve_right p2720 (by rintro ⟨z, -⟩; omega)
                  have hcl := cls_of (by decide) hk hw
                  rw [hcl]
                  exact Or.inr ⟨by decide, p2746⟩⟩
            · refine WP_aload_n dX11_readClause_79 rfl ?_
              refine WP_callV0 (k := 11) dX11_readClause_80 ⟨⟨⟨by decide, by decide⟩, zX11_readMakes⟩, lX11_191, by decide, rfl, vX11_readMakes.1, vX11_readMakes.2⟩ (ly_is hy 0 11 rfl) (em_readMakes hy hr   hT hC hn hB hp hR hPI hSB) (Nat.le_of_ble_eq_true rfl) ?_
              intro r I2758 J2759 Ra hq
              obtain ⟨ec, g2760, g2761, g2762, v2757, er, p2756⟩ := hq
              rw [ec, er]
              clear ec er Ra r
              have fI2763 : FC g [0, 7, 14, 15, 16, 17, 18, 19, 27, 28, 29, 30, 31, 32, 33, 34] I I2758 := FC_tr fI0 (FC_mono g2760 (by decide))
              have fJ2764 : FC g [4, 5] J J2759 := FC_tr fJ0 (FC_mono g2761 (by decide))
              have fQ2765 : FQ g [3, 4, 5, 6, 7, 8, 9, 15, 16, 17, 18, 51] I I2758 := FQ_tr fQ0 (FQ_mono g2762 (by decide))
              exact WP_zret dX11_readClause_83 rfl (nar_z (by omega)) ⟨rfl, fI2763, fJ2764, fQ2765, v2757, rfl, by
                obtain ⟨-, hk, hw⟩ := Or.resolve_right p2717 (by rintro ⟨z, -⟩; omega)
                have hcl := cls_of (by decide) hk hw
                rw [hcl]
                exact Or.inr ⟨by decide, p2756⟩⟩
          · refine WP_aload_n dX11_readClause_65 rfl ?_
            refine WP_callV0 (k := 11) dX11_readClause_66 ⟨⟨⟨by decide, by decide⟩, zX11_readPrices⟩, lX11_186, by decide, rfl, vX11_readPrices.1, vX11_readPrices.2⟩ (ly_is hy 0 11 rfl) (em_readPrices hy hr   hT hC hn hB hp hR hPI hSB) (Nat.le_of_ble_eq_true rfl) ?_
            intro r I2768 J2769 Ra hq
            obtain ⟨ec, g2770, g2771, g2772, v2767, er, p2766⟩ := hq
            rw [ec, er]
            clear ec er Ra r
            have fI2773 : FC g [0, 7, 14, 15, 16, 17, 18, 19, 27, 28, 29, 30, 31, 32, 33, 34] I I2768 := FC_tr fI0 (FC_mono g2770 (by decide))
            have fJ2774 : FC g [4, 5] J J2769 := FC_tr fJ0 (FC_mono g2771 (by decide))
            have fQ2775 : FQ g [3, 4, 5, 6, 7, 8, 9, 15, 16, 17, 18, 51] I I2768 := FQ_tr fQ0 (FQ_mono g2772 (by decide))
            exact WP_zret dX11_readClause_69 rfl (nar_z (by omega)) ⟨rfl, fI2773, fJ2774, fQ2775, v2767, rfl, by
              obtain ⟨-, hk, hw⟩ := Or.resolve_right p2714 (by rintro ⟨z, -⟩; omega)
              have hcl := cls_of (by decide) hk hw
              rw [hcl]
              exact Or.inr ⟨by decide, p2766⟩⟩
        · refine WP_aload_n dX11_readClause_51 rfl ?_
          refine WP_callV0 (k := 11) dX11_readClause_52 ⟨⟨⟨by decide, by decide⟩, zX11_readEarns⟩, lX11_181, by decide, rfl, vX11_readEarns.1, vX11_readEarns.2⟩ (ly_is hy 0 11 rfl) (em_readEarns hy hr   hT hC hn hB hp hR hPI hSB) (Nat.le_of_ble_eq_true rfl) ?_
          intro r I2778 J2779 Ra hq
          obtain ⟨ec, g2780, g2781, g2782, v2777, er, p2776⟩ := hq
          rw [ec, er]
          clear ec er Ra r
          have fI2783 : FC g [0, 7, 14, 15, 16, 17, 18, 19, 27, 28, 29, 30, 31, 32, 33, 34] I I2778 := FC_tr fI0 (FC_mono g2780 (by decide))
          have fJ2784 : FC g [4, 5] J J2779 := FC_tr fJ0 (FC_mono g2781 (by decide))
          have fQ2785 : FQ g [3, 4, 5, 6, 7, 8, 9, 15, 16, 17, 18, 51] I I2778 := FQ_tr fQ0 (FQ_mono g2782 (by decide))
          exact WP_zret dX11_readClause_55 rfl (nar_z (by omega)) ⟨rfl, fI2783, fJ2784, fQ2785, v2777, rfl, by
            obtain ⟨-, hk, hw⟩ := Or.resolve_right p2711 (by rintro ⟨z, -⟩; omega)
            have hcl := cls_of (by decide) hk hw
            rw [hcl]
            exact Or.inr ⟨by decide, p2776⟩⟩
      · refine WP_aload_n dX11_readClause_37 rfl ?_
        refine WP_callV0 (k := 11) dX11_readClause_38 ⟨⟨⟨by decide, by decide⟩, zX11_readThingOf⟩, lX11_176, by decide, rfl, vX11_readThingOf.1, vX11_readThingOf.2⟩ (ly_is hy 0 11 rfl) (em_readThing hy hr   hT hC hn hB hp hR hPI hSB hPJ) (Nat.le_of_ble_eq_true rfl) ?_
        intro r I2788 J2789 Ra hq
        obtain ⟨ec, g2790, g2791, g2792, v2787, er, p2786⟩ := hq
        rw [ec, er]
        clear ec er Ra r
        have fI2793 : FC g [0, 7, 14, 15, 16, 17, 18, 19, 27, 28, 29, 30, 31, 32, 33, 34] I I2788 := FC_tr fI0 (FC_mono g2790 (by decide))
        have fJ2794 : FC g [4, 5] J J2789 := FC_tr fJ0 (FC_mono g2791 (by decide))
        have fQ2795 : FQ g [3, 4, 5, 6, 7, 8, 9, 15, 16, 17, 18, 51] I I2788 := FQ_tr fQ0 (FQ_mono g2792 (by decide))
        exact WP_zret dX11_readClause_41 rfl (nar_z (by omega)) ⟨rfl, fI2793, fJ2794, fQ2795, v2787, rfl, by
          obtain ⟨-, hk, hw⟩ := Or.resolve_right p2708 (by rintro ⟨z, -⟩; omega)
          have hcl := cls_of (by decide) hk hw
          rw [hcl]
          exact Or.inr ⟨by decide, p2786⟩⟩
    · refine WP_aload_n dX11_readClause_23 rfl ?_
      refine WP_callV0 (k := 11) dX11_readClause_24 ⟨⟨⟨by decide, by decide⟩, zX11_readSort⟩, lX11_171, by decide, rfl, vX11_readSort.1, vX11_readSort.2⟩ (ly_is hy 0 11 rfl) (em_readSort hy hr   hT hC hn hB hp hR hPI hSB hPJ) (Nat.le_of_ble_eq_true rfl) ?_
      intro r I2798 J2799 Ra hq
      obtain ⟨ec, g2800, g2801, g2802, v2797, er, p2796⟩ := hq
      rw [ec, er]
      clear ec er Ra r
      have fI2803 : FC g [0, 7, 14, 15, 16, 17, 18, 19, 27, 28, 29, 30, 31, 32, 33, 34] I I2798 := FC_tr fI0 (FC_mono g2800 (by decide))
      have fJ2804 : FC g [4, 5] J J2799 := FC_tr fJ0 (FC_mono g2801 (by decide))
      have fQ2805 : FQ g [3, 4, 5, 6, 7, 8, 9, 15, 16, 17, 18, 51] I I2798 := FQ_tr fQ0 (FQ_mono g2802 (by decide))
      exact WP_zret dX11_readClause_27 rfl (nar_z (by omega)) ⟨rfl, fI2803, fJ2804, fQ2805, v2797, rfl, by
        obtain ⟨-, hk, hw⟩ := Or.resolve_right p2705 (by rintro ⟨z, -⟩; omega)
        have hcl := cls_of (by decide) hk hw
        rw [hcl]
        exact Or.inr ⟨by decide, p2796⟩⟩
  · refine WP_aload_n dX11_readClause_9 rfl ?_
    refine WP_callV0 (k := 11) dX11_readClause_10 ⟨⟨⟨by decide, by decide⟩, zX11_readRot⟩, lX11_166, by decide, rfl, vX11_readRot.1, vX11_readRot.2⟩ (ly_is hy 0 11 rfl) (em_readRot hy hr   hT hC hn hB hp hR hPI hSB) (Nat.le_of_ble_eq_true rfl) ?_
    intro r I2808 J2809 Ra hq
    obtain ⟨ec, g2810, g2811, g2812, v2807, er, p2806⟩ := hq
    rw [ec, er]
    clear ec er Ra r
    have fI2813 : FC g [0, 7, 14, 15, 16, 17, 18, 19, 27, 28, 29, 30, 31, 32, 33, 34] I I2808 := FC_tr fI0 (FC_mono g2810 (by decide))
    have fJ2814 : FC g [4, 5] J J2809 := FC_tr fJ0 (FC_mono g2811 (by decide))
    have fQ2815 : FQ g [3, 4, 5, 6, 7, 8, 9, 15, 16, 17, 18, 51] I I2808 := FQ_tr fQ0 (FQ_mono g2812 (by decide))
    exact WP_zret dX11_readClause_13 rfl (nar_z (by omega)) ⟨rfl, fI2813, fJ2814, fQ2815, v2807, rfl, by
      obtain ⟨-, hk, hw⟩ := Or.resolve_right p2702 (by rintro ⟨z, -⟩; omega)
      have hcl := cls_of (by decide) hk hw
      rw [hcl]
      exact Or.inr ⟨by decide, p2806⟩⟩
