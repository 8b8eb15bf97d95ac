theorem narz1 {x : Int32} (h : x.toInt = 1) : (vp_nar .boolean x).toInt = 1 := by
  obtain rfl : x = 1 := (eq32 x 1).mpr h
  rfl
set_option maxHeartbeats 4000000 in
set_option maxRecDepth 100000 in
theorem em_isWay {g : GG} {I : pI} {J : pJ} {R : pR} (hy : Ly g) (hr : Rf g R)  (w : Int32)  : SP g mX11_isWay [.int w] I J R (fun r I' J' R' => (I' = I ∧ J' = J ∧ R' = R) ∧ ∃ v : Int32, r = some (.int v) ∧ ((v.toInt = 1 ∧ 0 ≤ w.toInt ∧ w.toInt ≤ 4) ∨ (v.toInt = 0 ∧ ¬ (0 ≤ w.toInt ∧ w.toInt ≤ 4)))) := by
  refine SP_of ⟨by decide, rfl⟩ (Nat.le_of_ble_eq_true rfl) ?_
  refine WP_iload_n dX11_isWay_0 rfl ?_
  refine WP_i2l dX11_isWay_1 ?_
  obtain ⟨l4523, xl4523⟩ : ∃ v : Int64, v = w.toInt64 := ⟨_, rfl⟩
  rw [← xl4523]
  have hl4523 : l4523.toInt = w.toInt := by rw [xl4523]; exact t64 _
  refine WP_lconst (0) dX11_isWay_2 rfl ?_
  obtain ⟨l4524, hl4524, el4524⟩ : ∃ v : Int64, v.toInt = 0 ∧ (0 : Int64) = v := ⟨_, rfl, rfl⟩
  rw [el4524]
  refine WP_ldc2 (4) dX11_isWay_3 klX11_452 ?_
  obtain ⟨l4525, hl4525, el4525⟩ : ∃ v : Int64, v.toInt = (4) ∧ ((4) : Int64) = v := ⟨_, rfl, rfl⟩
  rw [el4525]
  refine WP_callS3 dX11_isWay_6 ⟨⟨⟨by decide, by decide⟩, zX11_in⟩, lX11_52, tX11_in⟩ (em_in hy hr _ _ _  ) (Nat.le_of_ble_eq_true rfl) ?_
  intro r Ia Ja Ra hq
  obtain ⟨⟨ea, eb, ec⟩, v4527, er, p4526⟩ := hq
  rw [ea, eb, ec, er]
  clear ea eb ec er Ia Ja Ra r
  exact WP_zret dX11_isWay_9 rfl (nar_z (by omega)) ⟨⟨rfl, rfl, rfl⟩, v4527, rfl, by
    rcases p4526 with ⟨a, b, c⟩ | ⟨a, b⟩
    · exact Or.inl ⟨a, by omega, by omega⟩
    · exact Or.inr ⟨a, by omega⟩⟩
set_option maxHeartbeats 4000000 in
set_option maxRecDepth 100000 in
theorem em_isSlot {g : GG} {I : pI} {J : pJ} {R : pR} (hy : Ly g) (hr : Rf g R)  (w : Int32)  : SP g mX11_isSlot [.int w] I J R (fun r I' J' R' => (I' = I ∧ J' = J ∧ R' = R) ∧ ∃ v : Int32, r = some (.int v) ∧ ((v.toInt = 1 ∧ 0 ≤ w.toInt ∧ w.toInt ≤ 2) ∨ (v.toInt = 0 ∧ ¬ (0 ≤ w.toInt ∧ w.toInt ≤ 2)))) := by
  refine SP_of ⟨by decide, rfl⟩ (Nat.le_of_ble_eq_true rfl) ?_
  refine WP_iload_n dX11_isSlot_0 rfl ?_
  refine WP_i2l dX11_isSlot_1 ?_
  obtain ⟨l4528, xl4528⟩ : ∃ v : Int64, v = w.toInt64 := ⟨_, rfl⟩
  rw [← xl4528]
  have hl4528 : l4528.toInt = w.toInt := by rw [xl4528]; exact t64 _
  refine WP_lconst (0) dX11_isSlot_2 rfl ?_
  obtain ⟨l4529, hl4529, el4529⟩ : ∃ v : Int64, v.toInt = 0 ∧ (0 : Int64) = v := ⟨_, rfl, rfl⟩
  rw [el4529]
  refine WP_ldc2 (2) dX11_isSlot_3 klX11_376 ?_
  obtain ⟨l4530, hl4530, el4530⟩ : ∃ v : Int64, v.toInt = (2) ∧ ((2) : Int64) = v := ⟨_, rfl, rfl⟩
  rw [el4530]
  refine WP_callS3 dX11_isSlot_6 ⟨⟨⟨by decide, by decide⟩, zX11_in⟩, lX11_52, tX11_in⟩ (em_in hy hr _ _ _  ) (Nat.le_of_ble_eq_true rfl) ?_
  intro r Ia Ja Ra hq
  obtain ⟨⟨ea, eb, ec⟩, v4532, er, p4531⟩ := hq
  rw [ea, eb, ec, er]
  clear ea eb ec er Ia Ja Ra r
  exact WP_zret dX11_isSlot_9 rfl (nar_z (by omega)) ⟨⟨rfl, rfl, rfl⟩, v4532, rfl, by
    rcases p4531 with ⟨a, b, c⟩ | ⟨a, b⟩
    · exact Or.inl ⟨a, by omega, by omega⟩
    · exact Or.inr ⟨a, by omega⟩⟩
set_option maxHeartbeats 4000000 in
set_option maxRecDepth 100000 in
theorem em_way {g : GG} {I : pI} {J : pJ} {R : pR} (hy : Ly g) (hr : Rf g R) {S : TwS} (s : Int32) (w : Int32) (hS : RTT g S I J) (hB : SBn S) : SP g mX11_way [.ref (ad g 0), .int s, .int w] I J R (fun r I' J' R' => R' = R ∧ FC g [38] I I' ∧ FC g [] J J' ∧ FQ g [] I I' ∧ ∃ v : Int32, r = some (.int v) ∧ (((0 ≤ s.toInt ∧ s.toInt < S.1 0 1) ∧ (0 ≤ w.toInt ∧ w.toInt ≤ 4) ∧ v = I (ad g 38) (28 + s.toInt.toNat) ∧ I' (ad g 38) = fun q => if q = 28 + s.toInt.toNat then w else I (ad g 38) q) ∨ (¬ ((0 ≤ s.toInt ∧ s.toInt < S.1 0 1) ∧ (0 ≤ w.toInt ∧ w.toInt ≤ 4)) ∧ v.toInt = -2 ∧ I' (ad g 38) = I (ad g 38)))) := by
  refine SP_of ⟨by decide, rfl⟩ (Nat.le_of_ble_eq_true rfl) ?_
  have fI0 : FC g [38] I I := FC_rf
  have fJ0 : FC g [] J J := FC_rf
  have fQ0 : FQ g [] I I := FQ_rf
  have hB2 := hB
  unfold SBn at hB2
  obtain ⟨z1, z2, z0, z3, z4⟩ := hS.1
  refine WP_aload_n dX11_way_0 rfl ?_
  refine WP_iload_n dX11_way_1 rfl ?_
  refine WP_callV1 (k := 11) dX11_way_2 ⟨⟨⟨by decide, by decide⟩, zX11_isSort⟩, lX11_367, by decide, rfl, vX11_isSort.1, vX11_isSort.2⟩ (ly_is hy 0 11 rfl) (em_isSort hy hr _  hS hB) (Nat.le_of_ble_eq_true rfl) ?_
  intro r Ia Ja Ra hq
  obtain ⟨⟨ea, eb, ec⟩, v4534, er, p4533⟩ := hq
  rw [ea, eb, ec, er]
  clear ea eb ec er Ia Ja Ra r
  refine WQ_if_eq 15 dX11_way_5 rfl (fun c4534 => ?_) (fun c4534 => ?_)
  · refine WQ_bipush (-2) (-2) dX11_way_15 rfl rfl (fun v4536 hv4536 => ?_)
    exact WP_iret dX11_way_17 rfl ⟨rfl, fI0, fJ0, fQ0, v4536, rfl, by
      exact Or.inr ⟨by omega, by omega, rfl⟩⟩
  · refine WP_iload_n dX11_way_8 rfl ?_
    refine WP_callS1 dX11_way_9 ⟨⟨⟨by decide, by decide⟩, zX11_isWay⟩, lX11_454, tX11_isWay⟩ (em_isWay hy hr _  ) (Nat.le_of_ble_eq_true rfl) ?_
    intro r Ia Ja Ra hq
    obtain ⟨⟨ea, eb, ec⟩, v4538, er, p4537⟩ := hq
    rw [ea, eb, ec, er]
    clear ea eb ec er Ia Ja Ra r
    refine WQ_if_ne 18 dX11_way_12 rfl (fun c4538 => ?_) (fun c4538 => ?_)
    · refine WP_aload_n dX11_way_18 rfl ?_
      refine WP_getr dX11_way_19 fX11_283 rfl (ly_is hy 0 11 rfl) (rf hr 0 59 38 (by decide)) ?_
      refine WQ_bipush (28) (28) dX11_way_22 rfl rfl (fun v4540 hv4540 => ?_)
      refine WP_iload_n dX11_way_24 rfl ?_
      refine WQ_iadd dX11_way_25 (by omega) (by omega) (fun v4541 hv4541 => ?_)
      refine WE_ia dX11_way_26 (ly_is hy 38 13 rfl) (ly_n hy 38 35 rfl) (by omega) (by omega) (fun v4542 ev4542 => ?_)
      refine WP_istore_n (ls' := [(0, _), (1, _), (2, _), (3, _)]) dX11_way_27 (by decide) rfl ?_
      refine WP_aload_n dX11_way_28 rfl ?_
      refine WP_getr dX11_way_29 fX11_283 rfl (ly_is hy 0 11 rfl) (rf hr 0 59 38 (by decide)) ?_
      refine WQ_bipush (28) (28) dX11_way_32 rfl rfl (fun v4543 hv4543 => ?_)
      refine WP_iload_n dX11_way_34 rfl ?_
      refine WQ_iadd dX11_way_35 (by omega) (by omega) (fun v4544 hv4544 => ?_)
      refine WP_iload_n dX11_way_36 rfl ?_
      refine WE_is dX11_way_37 (ly_is hy 38 13 rfl) (ly_n hy 38 35 rfl) (by omega) (by omega) (fun I4545 eI4545 => ?_)
      have fI4546 : FC g [38] I I4545 := by rw [eI4545]; exact FC_pp fI0 (by decide)
      have fQ4547 : FQ g [] I I4545 := by rw [eI4545]; exact FQ_ppn (ly_ne hy (by decide) (by decide) (by decide)) fQ0
      refine WP_iload_n dX11_way_38 rfl ?_
      exact WP_iret dX11_way_39 rfl ⟨rfl, fI4546, fJ0, fQ4547, v4542, rfl, by
        refine Or.inl ⟨⟨by omega, by omega⟩, ⟨by omega, by omega⟩, ?_, ?_⟩
        · rw [← ev4542, show v4541.toInt.toNat = 28 + s.toInt.toNat by omega]
        · rw [eI4545, pp_fun, show v4544.toInt.toNat = 28 + s.toInt.toNat by omega]⟩
    · refine WQ_bipush (-2) (-2) dX11_way_15 rfl rfl (fun v4548 hv4548 => ?_)
      exact WP_iret dX11_way_17 rfl ⟨rfl, fI0, fJ0, fQ0, v4548, rfl, by
        exact Or.inr ⟨by omega, by omega, rfl⟩⟩
set_option maxHeartbeats 4000000 in
set_option maxRecDepth 100000 in
theorem em_anew {g : GG} {I : pI} {J : pJ} {R : pR} (hy : Ly g) (hr : Rf g R) {S : TwS}  (hS : RTT g S I J) (hB : SBn S) : SP g mX11_anew [.ref (ad g 0)] I J R (fun r I' J' R' => R' = R ∧ FC g [38] I I' ∧ FC g [0] J J' ∧ FQ g [] I I' ∧ ∃ v : Int32, r = some (.int v) ∧ (v = I (ad g 38) 33 ∧ (I' (ad g 38) 33).toInt = 0 ∧ (∀ q, 28 ≤ q → q < 32 → I' (ad g 38) q = I (ad g 38) q) ∧ (∀ q : Nat, q < 35 → (q < 28 ∨ 32 ≤ q) → (I' (ad g 38) q).toInt = if (q : Int) < S.1 0 1 then (I (ad g 10) q).toInt else 0) ∧ (J' (ad g 0) 61).toInt = 0)) := by
  refine SP_of ⟨by decide, rfl⟩ (Nat.le_of_ble_eq_true rfl) ?_
  have fI0 : FC g [38] I I := FC_rf
  have fJ0 : FC g [0] J J := FC_rf
  have fQ0 : FQ g [] I I := FQ_rf
  have hB2 := hB
  unfold SBn at hB2
  obtain ⟨z1, z2, z0, z3, z4⟩ := hS.1
  refine WP_aload_n dX11_anew_0 rfl ?_
  refine WP_getr dX11_anew_1 fX11_283 rfl (ly_is hy 0 11 rfl) (rf hr 0 59 38 (by decide)) ?_
  refine WQ_bipush (33) (33) dX11_anew_4 rfl rfl (fun v4549 hv4549 => ?_)
  obtain ⟨w4551, ew4551⟩ : ∃ w : Int32, I (ad g 38) 33 = w := ⟨_, rfl⟩
  refine WE_iak (z := 33) dX11_anew_6 (ly_is hy 38 13 rfl) (ly_n hy 38 35 rfl) hv4549 (by decide) ew4551 ?_
  refine WP_istore_n (ls' := [(0, _), (1, _)]) dX11_anew_7 (by decide) rfl ?_
  refine WP_aload_n dX11_anew_8 rfl ?_
  refine WP_aload_n dX11_anew_9 rfl ?_
  refine WP_getr dX11_anew_10 fX11_283 rfl (ly_is hy 0 11 rfl) (rf hr 0 59 38 (by decide)) ?_
  refine WP_callV1 (k := 11) dX11_anew_13 ⟨⟨⟨by decide, by decide⟩, zX11_begin⟩, lX11_342, by decide, rfl, vX11_begin.1, vX11_begin.2⟩ (ly_is hy 0 11 rfl) (em_begin38 hy hr   (mm := S.1 0 1) z1 ⟨by omega, by omega⟩) (Nat.le_of_ble_eq_true rfl) ?_
  intro r I4553 J4554 Ra hq
  obtain ⟨ec, g4555, g4556, g4557, er, p4552⟩ := hq
  rw [ec, er]
  clear ec er Ra r
  have fI4558 : FC g [38] I I4553 := FC_tr fI0 (FC_mono g4555 (by decide))
  have fJ4559 : FC g [0] J J4554 := FC_tr fJ0 (FC_mono g4556 (by decide))
  have fQ4560 : FQ g [] I I4553 := FQ_tr fQ0 (FQ_mono g4557 (by decide))
  refine WP_aload_n dX11_anew_16 rfl ?_
  refine WP_lconst (0) dX11_anew_17 rfl ?_
  obtain ⟨l4561, hl4561, el4561⟩ : ∃ v : Int64, v.toInt = 0 ∧ (0 : Int64) = v := ⟨_, rfl, rfl⟩
  rw [el4561]
  refine WQ_putl dX11_anew_18 fX11_346 rfl rfl (ly_is hy 0 11 rfl) (fun J4562 eJ4562 => ?_)
  have e4563 : J4562 (ad g 0) 61 = l4561 := by rw [eJ4562, pp_self]
  have fJ4564 : FC g [0] J J4562 := by rw [eJ4562]; exact FC_pp fJ4559 (by decide)
  refine WP_iload_n dX11_anew_21 rfl ?_
  exact WP_iret dX11_anew_22 rfl ⟨rfl, fI4558, fJ4564, fQ4560, w4551, rfl, by
    try simp only [e4563]
    refine ⟨ew4551.symm, ?_, p4552.2, p4552.1, by omega⟩
    rw [p4552.1 33 (by decide) (by decide), if_neg (by omega)]⟩
set_option maxHeartbeats 4000000 in
set_option maxRecDepth 100000 in
theorem em_keep {g : GG} {I : pI} {J : pJ} {R : pR} (hy : Ly g) (hr : Rf g R)  (sl : Int32)  : SP g mX11_keep [.ref (ad g 0), .int sl] I J R (fun r I' J' R' => R' = R ∧ FC g [42, 44] I I' ∧ FC g [43] J J' ∧ FQ g [] I I' ∧ ∃ v : Int32, r = some (.int v) ∧ ((∃ k : Nat, k < 3 ∧ sl.toInt = (k : Int) ∧ v = I (ad g 38) 33 ∧ (∀ q, q < 35 → I' (ad g 42) (35 * k + q) = I (ad g 38) q) ∧ (∀ q, q < 105 → (q < 35 * k ∨ 35 * k + 35 ≤ q) → I' (ad g 42) q = I (ad g 42) q) ∧ (∀ q, q ≠ k → I' (ad g 44) q = I (ad g 44) q) ∧ (I' (ad g 44) k).toInt = 1 ∧ (∀ q, q ≠ k → J' (ad g 43) q = J (ad g 43) q) ∧ J' (ad g 43) k = J (ad g 0) 61) ∨ (¬ (0 ≤ sl.toInt ∧ sl.toInt < 3) ∧ v.toInt = -2 ∧ I' = I ∧ J' = J))) := by
  refine SP_of ⟨by decide, rfl⟩ (Nat.le_of_ble_eq_true rfl) ?_
  have fI0 : FC g [42, 44] I I := FC_rf
  have fJ0 : FC g [43] J J := FC_rf
  have fQ0 : FQ g [] I I := FQ_rf
  refine WP_iload_n dX11_keep_0 rfl ?_
  refine WP_callS1 dX11_keep_1 ⟨⟨⟨by decide, by decide⟩, zX11_isSlot⟩, lX11_494, tX11_isSlot⟩ (em_isSlot hy hr _  ) (Nat.le_of_ble_eq_true rfl) ?_
  intro r Ia Ja Ra hq
  obtain ⟨⟨ea, eb, ec⟩, v4566, er, p4565⟩ := hq
  rw [ea, eb, ec, er]
  clear ea eb ec er Ia Ja Ra r
  refine WQ_if_ne 10 dX11_keep_4 rfl (fun c4566 => ?_) (fun c4566 => ?_)
  · refine WQ_iconst (0) (0) dX11_keep_10 rfl rfl (fun v4568 hv4568 => ?_)
    refine WP_istore_n (ls' := [(0, _), (1, _), (2, _)]) dX11_keep_11 (by decide) rfl ?_
    obtain ⟨k, hk3, hk⟩ : ∃ k : Nat, k < 3 ∧ sl.toInt = (k : Int) := ⟨sl.toInt.toNat, by omega, by omega⟩
    have lp4573 : ∀ (mz : Nat) (i4569 : Int32) (I4570 : pI), FC g [42, 44] I I4570 → FQ g [] I I4570 → (∃ i : Nat, i4569.toInt = (i : Int) ∧ i ≤ 35 ∧ (∀ q, q < i → I4570 (ad g 42) (35 * k + q) = I (ad g 38) q) ∧ (∀ q, q < 105 → (q < 35 * k ∨ 35 * k + 35 ≤ q) → I4570 (ad g 42) q = I (ad g 42) q) ∧ FC g [42] I I4570) → (36 - i4569.toInt.toNat) < mz → WP g mX11_keep 12 [(0, .ref (ad g 0)), (1, .int sl), (2, .int i4569)] [] I4570 J R (fun r I' J' R' => R' = R ∧ FC g [42, 44] I I' ∧ FC g [43] J J' ∧ FQ g [] I I' ∧ ∃ v : Int32, r = some (.int v) ∧ ((∃ k : Nat, k < 3 ∧ sl.toInt = (k : Int) ∧ v = I (ad g 38) 33 ∧ (∀ q, q < 35 → I' (ad g 42) (35 * k + q) = I (ad g 38) q) ∧ (∀ q, q < 105 → (q < 35 * k ∨ 35 * k + 35 ≤ q) → I' (ad g 42) q = I (ad g 42) q) ∧ (∀ q, q ≠ k → I' (ad g 44) q = I (ad g 44) q) ∧ (I' (ad g 44) k).toInt = 1 ∧ (∀ q, q ≠ k → J' (ad g 43) q = J (ad g 43) q) ∧ J' (ad g 43) k = J (ad g 0) 61) ∨ (¬ (0 ≤ sl.toInt ∧ sl.toInt < 3) ∧ v.toInt = -2 ∧ I' = I ∧ J' = J))) := by
      intro mz
      induction mz with
      | zero =>
        intro i4569 I4570 fI4571 fQ4572 hvlp4573 hmlp4573
        exact absurd hmlp4573 (Nat.not_lt_zero _)
      | succ mz ihlp4573 =>
        intro i4569 I4570 fI4571 fQ4572 hvlp4573 hmlp4573
        obtain ⟨i, ii, i35, iA, iB, iF⟩ := hvlp4573
        refine WP_iload_n dX11_keep_12 rfl ?_
        refine WQ_bipush (35) (35) dX11_keep_13 rfl rfl (fun v4574 hv4574 => ?_)
        refine WQ_icmp_ge 41 dX11_keep_15 rfl (fun c4574 => ?_) (fun c4574 => ?_)
        · refine WP_aload_n dX11_keep_41 rfl ?_
          refine WP_getr dX11_keep_42 fX11_298 rfl (ly_is hy 0 11 rfl) (rf hr 0 66 43 (by decide)) ?_
          refine WP_iload_n dX11_keep_45 rfl ?_
          have fC := fI4571
          refine WP_aload_n dX11_keep_46 rfl ?_
          obtain ⟨w4576, ew4576⟩ : ∃ w : Int64, J (ad g 0) 61 = w := ⟨_, rfl⟩
          refine WP_getl dX11_keep_47 fX11_346 rfl (ly_is hy 0 11 rfl) ?_
          rw [ew4576]
          refine WE_ls dX11_keep_50 (ly_is hy 43 14 rfl) (ly_n hy 43 3 rfl) (by omega) (by omega) (fun J4577 eJ4577 => ?_)
          have e4578 : J4577 (ad g 0) 61 = w4576 := by rw [eJ4577, pp_ne _ _ (Or.inl (ly_ne hy (by decide) (by decide) (by decide)))]; exact ew4576
          have fJ4579 : FC g [43] J J4577 := by rw [eJ4577]; exact FC_pp fJ0 (by decide)
          refine WP_aload_n dX11_keep_51 rfl ?_
          refine WP_getr dX11_keep_52 fX11_301 rfl (ly_is hy 0 11 rfl) (rf hr 0 67 44 (by decide)) ?_
          refine WP_iload_n dX11_keep_55 rfl ?_
          refine WQ_iconst (1) (1) dX11_keep_56 rfl rfl (fun v4580 hv4580 => ?_)
          refine WE_zs dX11_keep_57 (ly_is hy 44 15 rfl) (ly_n hy 44 3 rfl) (by omega) (by omega) (fun I4581 eI4581 => ?_)
          have fI4582 : FC g [42, 44] I I4581 := by rw [eI4581]; exact FC_pp fI4571 (by decide)
          have fQ4583 : FQ g [] I I4581 := by rw [eI4581]; exact FQ_ppn (ly_ne hy (by decide) (by decide) (by decide)) fQ4572
          refine WP_aload_n dX11_keep_58 rfl ?_
          refine WP_getr dX11_keep_59 fX11_283 rfl (ly_is hy 0 11 rfl) (rf hr 0 59 38 (by decide)) ?_
          refine WQ_bipush (33) (33) dX11_keep_62 rfl rfl (fun v4584 hv4584 => ?_)
          obtain ⟨w4586, ew4586⟩ : ∃ w : Int32, I4581 (ad g 38) 33 = w := ⟨_, rfl⟩
          refine WE_iak (z := 33) dX11_keep_64 (ly_is hy 38 13 rfl) (ly_n hy 38 35 rfl) hv4584 (by decide) ew4586 ?_
          exact WP_iret dX11_keep_65 rfl ⟨rfl, fI4582, fJ4579, fQ4583, w4586, rfl, by
            try simp only [ew4586, e4578]
            refine Or.inl ⟨k, hk3, hk, ?_, fun q hq => ?_, fun q h8 h9 => ?_, fun q hq => ?_, ?_, fun q hq => ?_, ?_⟩
            · have z9 : I4581 (ad g 38) 33 = I (ad g 38) 33 := by rw [eI4581, pp_off _ _ (ly_ne hy (by decide) (by decide) (by decide)), FC_at hy fC 38 (by decide) (by decide)]
              rw [ew4586] at z9; exact z9
            · rw [eI4581, pp_off _ _ (ly_ne hy (by decide) (by decide) (by decide))]; exact iA q (by omega)
            · rw [eI4581, pp_off _ _ (ly_ne hy (by decide) (by decide) (by decide))]; exact iB q h8 h9
            · rw [eI4581, show sl.toInt.toNat = k by omega, pp_at, if_neg hq, FC_at hy fC 44 (by decide) (by decide)]
            · rw [eI4581, show sl.toInt.toNat = k by omega, pp_at, if_pos rfl]; exact narz1 (by omega)
            · rw [eJ4577, show sl.toInt.toNat = k by omega, pp_at, if_neg hq]
            · rw [eJ4577, show sl.toInt.toNat = k by omega, pp_at, if_pos rfl]; first | rfl | assumption | exact e4578.symm⟩
        · refine WP_aload_n dX11_keep_18 rfl ?_
          refine WP_getr dX11_keep_19 fX11_295 rfl (ly_is hy 0 11 rfl) (rf hr 0 65 42 (by decide)) ?_
          refine WQ_bipush (35) (35) dX11_keep_22 rfl rfl (fun v4587 hv4587 => ?_)
          refine WP_iload_n dX11_keep_24 rfl ?_
          refine WQ_imulK (35) dX11_keep_25 hv4587 (by omega) (by omega) (fun v4588 hv4588 => ?_)
          refine WP_iload_n dX11_keep_26 rfl ?_
          refine WQ_iadd dX11_keep_27 (by omega) (by omega) (fun v4589 hv4589 => ?_)
          refine WP_aload_n dX11_keep_28 rfl ?_
          refine WP_getr dX11_keep_29 fX11_283 rfl (ly_is hy 0 11 rfl) (rf hr 0 59 38 (by decide)) ?_
          refine WP_iload_n dX11_keep_32 rfl ?_
          have fB := fI4571
          refine WE_ia dX11_keep_33 (ly_is hy 38 13 rfl) (ly_n hy 38 35 rfl) (by omega) (by omega) (fun v4590 ev4590 => ?_)
          refine WE_is dX11_keep_34 (ly_is hy 42 13 rfl) (ly_n hy 42 105 rfl) (by omega) (by omega) (fun I4591 eI4591 => ?_)
          have e4592 : I4591 (ad g 38) i4569.toInt.toNat = v4590 := by rw [eI4591, pp_ne _ _ (Or.inl (ly_ne hy (by decide) (by decide) (by decide)))]; exact ev4590
          have fI4593 : FC g [42, 44] I I4591 := by rw [eI4591]; exact FC_pp fI4571 (by decide)
          have fQ4594 : FQ g [] I I4591 := by rw [eI4591]; exact FQ_ppn (ly_ne hy (by decide) (by decide) (by decide)) fQ4572
          refine WP_iinc (ls' := [(0, _), (1, _), (2, _)]) dX11_keep_35 rfl (by decide) rfl ?_
          have hv4595 : (i4569 + Int32.ofInt (1)).toInt = i4569.toInt + (1) := ia_n rfl (by omega) (by omega)
          generalize i4569 + Int32.ofInt (1) = v4595 at hv4595 ⊢
          refine WP_goto 12 dX11_keep_38 rfl ?_
          refine WP_sub (fc rfl (fc rfl (fc rfl fn))) (ihlp4573 v4595 I4591 fI4593 fQ4594 ?_ ?_)
          · refine ⟨i + 1, by omega, by omega, fun q hq => ?_, fun q h8 h9 => ?_, by rw [eI4591]; exact FC_pp iF (by decide)⟩
            · rw [eI4591, show v4589.toInt.toNat = 35 * k + i by omega, pp_at]
              split
              · rename_i e9
                obtain rfl : q = i := by omega
                rw [← ev4590, show i4569.toInt.toNat = q by omega, FC_at hy fB 38 (by decide) (by decide)]
              · exact iA q (by omega)
            · rw [eI4591, show v4589.toInt.toNat = 35 * k + i by omega, pp_at, if_neg (by omega)]; exact iB q h8 h9
          · omega
    refine WP_sub (fc rfl (fc rfl (fc rfl fn))) (lp4573 _ v4568 I fI0 fQ0 ?_ (Nat.lt_succ_self _))
    · exact ⟨0, by omega, by omega, fun q h => absurd h (Nat.not_lt_zero _), fun q _ _ => rfl, FC_rf⟩
  · refine WQ_bipush (-2) (-2) dX11_keep_7 rfl rfl (fun v4596 hv4596 => ?_)
    exact WP_iret dX11_keep_9 rfl ⟨rfl, fI0, fJ0, fQ0, v4596, rfl, by
      exact Or.inr ⟨by omega, by omega, rfl, rfl⟩⟩
set_option maxHeartbeats 4000000 in
set_option maxRecDepth 100000 in
theorem em_take {g : GG} {I : pI} {J : pJ} {R : pR} (hy : Ly g) (hr : Rf g R)  (sl : Int32)  : SP g mX11_take [.ref (ad g 0), .int sl] I J R (fun r I' J' R' => R' = R ∧ FC g [38] I I' ∧ FC g [0] J J' ∧ FQ g [] I I' ∧ ∃ v : Int32, r = some (.int v) ∧ ((∃ k : Nat, k < 3 ∧ sl.toInt = (k : Int) ∧ (((I (ad g 44) k).toInt = 0 ∧ v.toInt = -4 ∧ I' = I ∧ J' = J) ∨ ((I (ad g 44) k).toInt ≠ 0 ∧ v = I (ad g 42) (35 * k + 33) ∧ (∀ q, q < 35 → I' (ad g 38) q = I (ad g 42) (35 * k + q)) ∧ J' (ad g 0) 61 = J (ad g 43) k))) ∨ (¬ (0 ≤ sl.toInt ∧ sl.toInt < 3) ∧ v.toInt = -2 ∧ I' = I ∧ J' = J))) := by
  refine SP_of ⟨by decide, rfl⟩ (Nat.le_of_ble_eq_true rfl) ?_
  have fI0 : FC g [38] I I := FC_rf
  have fJ0 : FC g [0] J J := FC_rf
  have fQ0 : FQ g [] I I := FQ_rf
  refine WP_iload_n dX11_take_0 rfl ?_
  refine WP_callS1 dX11_take_1 ⟨⟨⟨by decide, by decide⟩, zX11_isSlot⟩, lX11_494, tX11_isSlot⟩ (em_isSlot hy hr _  ) (Nat.le_of_ble_eq_true rfl) ?_
  intro r Ia Ja Ra hq
  obtain ⟨⟨ea, eb, ec⟩, v4598, er, p4597⟩ := hq
  rw [ea, eb, ec, er]
  clear ea eb ec er Ia Ja Ra r
  refine WQ_if_ne 10 dX11_take_4 rfl (fun c4598 => ?_) (fun c4598 => ?_)
  · obtain ⟨k, hk3, hk⟩ : ∃ k : Nat, k < 3 ∧ sl.toInt = (k : Int) := ⟨sl.toInt.toNat, by omega, by omega⟩
    refine WP_aload_n dX11_take_10 rfl ?_
    refine WP_getr dX11_take_11 fX11_301 rfl (ly_is hy 0 11 rfl) (rf hr 0 67 44 (by decide)) ?_
    refine WP_iload_n dX11_take_14 rfl ?_
    refine WE_za dX11_take_15 (ly_is hy 44 15 rfl) (ly_n hy 44 3 rfl) (by omega) (by omega) (fun v4600 ev4600 => ?_)
    have hz16 : I (ad g 44) k = v4600 := by rw [← ev4600, show sl.toInt.toNat = k by omega]
    refine WQ_if_ne 22 dX11_take_16 rfl (fun c4600 => ?_) (fun c4600 => ?_)
    · refine WQ_iconst (0) (0) dX11_take_22 rfl rfl (fun v4602 hv4602 => ?_)
      refine WP_istore_n (ls' := [(0, _), (1, _), (2, _)]) dX11_take_23 (by decide) rfl ?_
      have lp4607 : ∀ (mz : Nat) (i4603 : Int32) (I4604 : pI), FC g [38] I I4604 → FQ g [] I I4604 → (∃ i : Nat, i4603.toInt = (i : Int) ∧ i ≤ 35 ∧ (∀ q, q < i → I4604 (ad g 38) q = I (ad g 42) (35 * k + q))) → (36 - i4603.toInt.toNat) < mz → WP g mX11_take 24 [(0, .ref (ad g 0)), (1, .int sl), (2, .int i4603)] [] I4604 J R (fun r I' J' R' => R' = R ∧ FC g [38] I I' ∧ FC g [0] J J' ∧ FQ g [] I I' ∧ ∃ v : Int32, r = some (.int v) ∧ ((∃ k : Nat, k < 3 ∧ sl.toInt = (k : Int) ∧ (((I (ad g 44) k).toInt = 0 ∧ v.toInt = -4 ∧ I' = I ∧ J' = J) ∨ ((I (ad g 44) k).toInt ≠ 0 ∧ v = I (ad g 42) (35 * k + 33) ∧ (∀ q, q < 35 → I' (ad g 38) q = I (ad g 42) (35 * k + q)) ∧ J' (ad g 0) 61 = J (ad g 43) k))) ∨ (¬ (0 ≤ sl.toInt ∧ sl.toInt < 3) ∧ v.toInt = -2 ∧ I' = I ∧ J' = J))) := by
        intro mz
        induction mz with
        | zero =>
          intro i4603 I4604 fI4605 fQ4606 hvlp4607 hmlp4607
          exact absurd hmlp4607 (Nat.not_lt_zero _)
        | succ mz ihlp4607 =>
          intro i4603 I4604 fI4605 fQ4606 hvlp4607 hmlp4607
          obtain ⟨i, ii, i35, iA⟩ := hvlp4607
          refine WP_iload_n dX11_take_24 rfl ?_
          refine WQ_bipush (35) (35) dX11_take_25 rfl rfl (fun v4608 hv4608 => ?_)
          refine WQ_icmp_ge 53 dX11_take_27 rfl (fun c4608 => ?_) (fun c4608 => ?_)
          · refine WP_aload_n dX11_take_53 rfl ?_
            refine WP_aload_n dX11_take_54 rfl ?_
            refine WP_getr dX11_take_55 fX11_298 rfl (ly_is hy 0 11 rfl) (rf hr 0 66 43 (by decide)) ?_
            refine WP_iload_n dX11_take_58 rfl ?_
            refine WE_la dX11_take_59 (ly_is hy 43 14 rfl) (ly_n hy 43 3 rfl) (by omega) (by omega) (fun l4610 el4610 => ?_)
            refine WQ_putl dX11_take_60 fX11_346 rfl rfl (ly_is hy 0 11 rfl) (fun J4611 eJ4611 => ?_)
            have e4612 : J4611 (ad g 43) sl.toInt.toNat = l4610 := by rw [eJ4611, pp_ne _ _ (Or.inl (ly_ne hy (by decide) (by decide) (by decide)))]; exact el4610
            have e4613 : J4611 (ad g 0) 61 = l4610 := by rw [eJ4611, pp_self]
            have fJ4614 : FC g [0] J J4611 := by rw [eJ4611]; exact FC_pp fJ0 (by decide)
            refine WP_aload_n dX11_take_63 rfl ?_
            refine WP_getr dX11_take_64 fX11_283 rfl (ly_is hy 0 11 rfl) (rf hr 0 59 38 (by decide)) ?_
            refine WQ_bipush (33) (33) dX11_take_67 rfl rfl (fun v4615 hv4615 => ?_)
            obtain ⟨w4617, ew4617⟩ : ∃ w : Int32, I4604 (ad g 38) 33 = w := ⟨_, rfl⟩
            refine WE_iak (z := 33) dX11_take_69 (ly_is hy 38 13 rfl) (ly_n hy 38 35 rfl) hv4615 (by decide) ew4617 ?_
            exact WP_iret dX11_take_70 rfl ⟨rfl, fI4605, fJ4614, fQ4606, w4617, rfl, by
              try simp only [ew4617, e4613]
              refine Or.inl ⟨k, hk3, hk, Or.inr ⟨by rw [hz16]; omega, ?_, fun q hq => iA q (by omega), ?_⟩⟩
              · have z9 := iA 33 (by omega)
                rw [ew4617] at z9; exact z9
              · rw [← el4610, show sl.toInt.toNat = k by omega]; first | rfl | assumption⟩
          · refine WP_aload_n dX11_take_30 rfl ?_
            refine WP_getr dX11_take_31 fX11_283 rfl (ly_is hy 0 11 rfl) (rf hr 0 59 38 (by decide)) ?_
            refine WP_iload_n dX11_take_34 rfl ?_
            refine WP_aload_n dX11_take_35 rfl ?_
            refine WP_getr dX11_take_36 fX11_295 rfl (ly_is hy 0 11 rfl) (rf hr 0 65 42 (by decide)) ?_
            refine WQ_bipush (35) (35) dX11_take_39 rfl rfl (fun v4618 hv4618 => ?_)
            refine WP_iload_n dX11_take_41 rfl ?_
            refine WQ_imulK (35) dX11_take_42 hv4618 (by omega) (by omega) (fun v4619 hv4619 => ?_)
            refine WP_iload_n dX11_take_43 rfl ?_
            refine WQ_iadd dX11_take_44 (by omega) (by omega) (fun v4620 hv4620 => ?_)
            have fB := fI4605
            refine WE_ia dX11_take_45 (ly_is hy 42 13 rfl) (ly_n hy 42 105 rfl) (by omega) (by omega) (fun v4621 ev4621 => ?_)
            refine WE_is dX11_take_46 (ly_is hy 38 13 rfl) (ly_n hy 38 35 rfl) (by omega) (by omega) (fun I4622 eI4622 => ?_)
            have e4623 : I4622 (ad g 42) v4620.toInt.toNat = v4621 := by rw [eI4622, pp_ne _ _ (Or.inl (ly_ne hy (by decide) (by decide) (by decide)))]; exact ev4621
            have fI4624 : FC g [38] I I4622 := by rw [eI4622]; exact FC_pp fI4605 (by decide)
            have fQ4625 : FQ g [] I I4622 := by rw [eI4622]; exact FQ_ppn (ly_ne hy (by decide) (by decide) (by decide)) fQ4606
            refine WP_iinc (ls' := [(0, _), (1, _), (2, _)]) dX11_take_47 rfl (by decide) rfl ?_
            have hv4626 : (i4603 + Int32.ofInt (1)).toInt = i4603.toInt + (1) := ia_n rfl (by omega) (by omega)
            generalize i4603 + Int32.ofInt (1) = v4626 at hv4626 ⊢
            refine WP_goto 24 dX11_take_50 rfl ?_
            refine WP_sub (fc rfl (fc rfl (fc rfl fn))) (ihlp4607 v4626 I4622 fI4624 fQ4625 ?_ ?_)
            · refine ⟨i + 1, by omega, by omega, fun q hq => ?_⟩
              rw [eI4622, show i4603.toInt.toNat = i by omega, pp_at]
              split
              · rename_i e9
                rw [e9, ← ev4621, show v4620.toInt.toNat = 35 * k + i by omega, FC_at hy fB 42 (by decide) (by decide)]
              · exact iA q (by omega)
            · omega
      refine WP_sub (fc rfl (fc rfl (fc rfl fn))) (lp4607 _ v4602 I fI0 fQ0 ?_ (Nat.lt_succ_self _))
      · exact ⟨0, by omega, by omega, fun q h => absurd h (Nat.not_lt_zero _)⟩
    · refine WQ_bipush (-4) (-4) dX11_take_19 rfl rfl (fun v4627 hv4627 => ?_)
      exact WP_iret dX11_take_21 rfl ⟨rfl, fI0, fJ0, fQ0, v4627, rfl, by
        exact Or.inl ⟨k, hk3, hk, Or.inl ⟨by rw [hz16]; omega, by omega, rfl, rfl⟩⟩⟩
  · refine WQ_bipush (-2) (-2) dX11_take_7 rfl rfl (fun v4628 hv4628 => ?_)
    exact WP_iret dX11_take_9 rfl ⟨rfl, fI0, fJ0, fQ0, v4628, rfl, by
      exact Or.inr ⟨by omega, by omega, rfl, rfl⟩⟩
